theorem dkX12_is_0 : dkq cX12_is [(0, .iload_n 0, 1), (1, .iload_n 1, 1), (2, .if_icmp .lt 12, 3), (5, .iload_n 0, 1), (6, .iload_n 2, 1), (7, .if_icmp .gt 7, 3), (10, .iconst 1, 1), (11, .goto 4, 3), (14, .iconst 0, 1), (15, .ireturn, 1)] = true := by decide +kernel
theorem dkX12_put_0 : dkq cX12_put [(0, .bipush 24, 2), (2, .istore_n 2, 1), (3, .iload_n 2, 1), (4, .ifCond .lt 35, 3), (7, .aload_n 0, 1), (8, .getfield 7, 3), (11, .aload_n 0, 1), (12, .getfield 13, 3), (15, .iload_n 1, 1), (16, .iload_n 2, 1), (17, .ishr, 1), (18, .sipush 255, 3), (21, .iand, 1), (22, .iastore, 1), (23, .aload_n 0, 1), (24, .dup, 1)] = true := by decide +kernel
theorem dkX12_put_1 : dkq cX12_put [(25, .getfield 13, 3), (28, .iconst 1, 1), (29, .iadd, 1), (30, .putfield 13, 3), (33, .iinc 2 (-8), 3), (36, .goto (-33), 3), (39, .return_, 1)] = true := by decide +kernel
theorem dkX12_feed_0 : dkq cX12_feed [(0, .aload_n 0, 1), (1, .getfield 13, 3), (4, .bipush 20, 2), (6, .iadd, 1), (7, .sipush 1600, 3), (10, .if_icmp .le 9, 3), (13, .aload_n 0, 1), (14, .iconst 0, 1), (15, .invokevirtual 271, 3), (18, .ireturn, 1), (19, .aload_n 0, 1), (20, .iload_n 1, 1), (21, .invokevirtual 275, 3), (24, .aload_n 0, 1), (25, .iload_n 2, 1), (26, .invokevirtual 275, 3)] = true := by decide +kernel
theorem dkX12_feed_1 : dkq cX12_feed [(29, .aload_n 0, 1), (30, .iload_n 3, 1), (31, .invokevirtual 275, 3), (34, .aload_n 0, 1), (35, .iload 4, 2), (37, .invokevirtual 275, 3), (40, .aload_n 0, 1), (41, .iload 5, 2), (43, .invokevirtual 275, 3), (46, .aload_n 0, 1), (47, .getfield 13, 3), (50, .ireturn, 1)] = true := by decide +kernel
theorem dkX12_end_0 : dkq cX12_end [(0, .iload_n 1, 1), (1, .ifCond .lt 11, 3), (4, .iload_n 1, 1), (5, .aload_n 0, 1), (6, .getfield 13, 3), (9, .if_icmp .le 17, 3), (12, .aload_n 0, 1), (13, .iconst 0, 1), (14, .invokevirtual 271, 3), (17, .ifCond .lt 7, 3), (24, .iconst 0, 1), (25, .ireturn, 1), (26, .aload_n 0, 1), (27, .iload_n 1, 1), (28, .putfield 13, 3), (31, .iconst 1, 1)] = true := by decide +kernel
theorem dkX12_end_1 : dkq cX12_end [(32, .ireturn, 1)] = true := by decide +kernel
theorem dkX12_blame_0 : dkq cX12_blame [(0, .aload_n 0, 1), (1, .getfield 36, 3), (4, .ifCond .le 4, 3), (7, .return_, 1), (8, .aload_n 0, 1), (9, .iload_n 1, 1), (10, .putfield 36, 3), (13, .aload_n 0, 1), (14, .iload_n 2, 1), (15, .putfield 39, 3), (18, .return_, 1)] = true := by decide +kernel
theorem dkX12_isLetter_0 : dkq cX12_isLetter [(0, .iload_n 0, 1), (1, .bipush 97, 2), (3, .if_icmp .lt 13, 3), (6, .iload_n 0, 1), (7, .bipush 122, 2), (9, .if_icmp .gt 7, 3), (12, .iconst 1, 1), (13, .goto 4, 3), (16, .iconst 0, 1), (17, .ireturn, 1)] = true := by decide +kernel
theorem dkX12_isDigit_0 : dkq cX12_isDigit [(0, .iload_n 0, 1), (1, .bipush 48, 2), (3, .if_icmp .lt 13, 3), (6, .iload_n 0, 1), (7, .bipush 57, 2), (9, .if_icmp .gt 7, 3), (12, .iconst 1, 1), (13, .goto 4, 3), (16, .iconst 0, 1), (17, .ireturn, 1)] = true := by decide +kernel
theorem dkX12_isSign_0 : dkq cX12_isSign [(0, .aload_n 0, 1), (1, .getfield 20, 3), (4, .iconst 3, 1), (5, .if_icmp .ne 15, 3), (8, .aload_n 0, 1), (9, .getfield 29, 3), (12, .iload_n 1, 1), (13, .if_icmp .ne 7, 3), (16, .iconst 1, 1), (17, .goto 4, 3), (20, .iconst 0, 1), (21, .ireturn, 1)] = true := by decide +kernel
theorem dkX12_isWord_0 : dkq cX12_isWord [(0, .aload_n 0, 1), (1, .getfield 20, 3), (4, .iconst 1, 1), (5, .if_icmp .ne 16, 3), (8, .aload_n 0, 1), (9, .getfield 32, 3), (12, .lload_n 1, 1), (13, .lcmp, 1), (14, .ifCond .ne 7, 3), (17, .iconst 1, 1), (18, .goto 4, 3), (21, .iconst 0, 1), (22, .ireturn, 1)] = true := by decide +kernel
theorem dkX12_isOwn_0 : dkq cX12_isOwn [(0, .lload_n 1, 1), (1, .ldc2_w 296, 3), (4, .lcmp, 1), (5, .ifCond .eq 35, 3), (8, .lload_n 1, 1), (9, .ldc2_w 298, 3), (12, .lcmp, 1), (13, .ifCond .eq 27, 3), (16, .lload_n 1, 1), (17, .ldc2_w 300, 3), (20, .lcmp, 1), (21, .ifCond .eq 19, 3), (24, .lload_n 1, 1), (25, .ldc2_w 302, 3), (28, .lcmp, 1), (29, .ifCond .eq 11, 3)] = true := by decide +kernel
theorem dkX12_isOwn_1 : dkq cX12_isOwn [(32, .lload_n 1, 1), (33, .ldc2_w 304, 3), (36, .lcmp, 1), (37, .ifCond .ne 5, 3), (40, .iconst 1, 1), (41, .ireturn, 1), (42, .lload_n 1, 1), (43, .ldc2_w 306, 3), (46, .lcmp, 1), (47, .ifCond .eq 35, 3), (50, .lload_n 1, 1), (51, .ldc2_w 308, 3), (54, .lcmp, 1), (55, .ifCond .eq 27, 3), (58, .lload_n 1, 1), (59, .ldc2_w 310, 3)] = true := by decide +kernel
theorem dkX12_isOwn_2 : dkq cX12_isOwn [(62, .lcmp, 1), (63, .ifCond .eq 19, 3), (66, .lload_n 1, 1), (67, .ldc2_w 312, 3), (70, .lcmp, 1), (71, .ifCond .eq 11, 3), (74, .lload_n 1, 1), (75, .ldc2_w 314, 3), (78, .lcmp, 1), (79, .ifCond .ne 5, 3), (82, .iconst 1, 1), (83, .ireturn, 1), (84, .lload_n 1, 1), (85, .ldc2_w 316, 3), (88, .lcmp, 1), (89, .ifCond .eq 35, 3)] = true := by decide +kernel
theorem dkX12_isOwn_3 : dkq cX12_isOwn [(92, .lload_n 1, 1), (93, .ldc2_w 318, 3), (96, .lcmp, 1), (97, .ifCond .eq 27, 3), (100, .lload_n 1, 1), (101, .ldc2_w 320, 3), (104, .lcmp, 1), (105, .ifCond .eq 19, 3), (108, .lload_n 1, 1), (109, .ldc2_w 322, 3), (112, .lcmp, 1), (113, .ifCond .eq 11, 3), (116, .lload_n 1, 1), (117, .ldc2_w 324, 3), (120, .lcmp, 1), (121, .ifCond .ne 5, 3)] = true := by decide +kernel
theorem dkX12_isOwn_4 : dkq cX12_isOwn [(124, .iconst 1, 1), (125, .ireturn, 1), (126, .lload_n 1, 1), (127, .ldc2_w 326, 3), (130, .lcmp, 1), (131, .ifCond .eq 35, 3), (134, .lload_n 1, 1), (135, .ldc2_w 328, 3), (138, .lcmp, 1), (139, .ifCond .eq 27, 3), (142, .lload_n 1, 1), (143, .ldc2_w 330, 3), (146, .lcmp, 1), (147, .ifCond .eq 19, 3), (150, .lload_n 1, 1), (151, .ldc2_w 332, 3)] = true := by decide +kernel
theorem dkX12_isOwn_5 : dkq cX12_isOwn [(154, .lcmp, 1), (155, .ifCond .eq 11, 3), (158, .lload_n 1, 1), (159, .ldc2_w 334, 3), (162, .lcmp, 1), (163, .ifCond .ne 5, 3), (166, .iconst 1, 1), (167, .ireturn, 1), (168, .lload_n 1, 1), (169, .ldc2_w 336, 3), (172, .lcmp, 1), (173, .ifCond .eq 35, 3), (176, .lload_n 1, 1), (177, .ldc2_w 338, 3), (180, .lcmp, 1), (181, .ifCond .eq 27, 3)] = true := by decide +kernel
theorem dkX12_isOwn_6 : dkq cX12_isOwn [(184, .lload_n 1, 1), (185, .ldc2_w 340, 3), (188, .lcmp, 1), (189, .ifCond .eq 19, 3), (192, .lload_n 1, 1), (193, .ldc2_w 342, 3), (196, .lcmp, 1), (197, .ifCond .eq 11, 3), (200, .lload_n 1, 1), (201, .ldc2_w 344, 3), (204, .lcmp, 1), (205, .ifCond .ne 5, 3), (208, .iconst 1, 1), (209, .ireturn, 1), (210, .lload_n 1, 1), (211, .ldc2_w 346, 3)] = true := by decide +kernel
theorem dkX12_isOwn_7 : dkq cX12_isOwn [(214, .lcmp, 1), (215, .ifCond .ne 5, 3), (218, .iconst 1, 1), (219, .ireturn, 1), (220, .iconst 0, 1), (221, .ireturn, 1)] = true := by decide +kernel
theorem dkX12_fault_0 : dkq cX12_fault [(0, .iload_n 1, 1), (1, .ifCond .ne 10, 3), (4, .aload_n 0, 1), (5, .getfield 42, 3), (8, .goto 16, 3), (11, .iload_n 1, 1), (12, .iconst 1, 1), (13, .if_icmp .ne 10, 3), (16, .aload_n 0, 1), (17, .getfield 45, 3), (20, .goto 4, 3), (23, .iconst (-1), 1), (24, .ireturn, 1)] = true := by decide +kernel
theorem dkX12_refuses_0 : dkq cX12_refuses [(0, .aload_n 0, 1), (1, .getfield 189, 3), (4, .iload_n 1, 1), (5, .dup2, 1), (6, .iaload, 1), (7, .iconst 1, 1), (8, .iadd, 1), (9, .iastore, 1), (10, .iconst (-1), 1), (11, .ireturn, 1)] = true := by decide +kernel
theorem dkX12_status_0 : dkq cX12_status [(0, .iload_n 1, 1), (1, .iconst 0, 1), (2, .iconst 5, 1), (3, .invokestatic 352, 3), (6, .ifCond .eq 12, 3), (9, .aload_n 0, 1), (10, .getfield 189, 3), (13, .iload_n 1, 1), (14, .iaload, 1), (15, .goto 4, 3), (18, .iconst (-1), 1), (19, .ireturn, 1)] = true := by decide +kernel
theorem dkX12_bounded_0 : dkq cX12_bounded [(0, .lload_n 0, 1), (1, .ldc2_w 468, 3), (4, .lcmp, 1), (5, .ifCond .le 9, 3), (8, .ldc2_w 468, 3), (11, .goto 18, 3), (14, .lload_n 0, 1), (15, .ldc2_w 470, 3), (18, .lcmp, 1), (19, .ifCond .ge 9, 3), (22, .ldc2_w 470, 3), (25, .goto 4, 3), (28, .lload_n 0, 1), (29, .lreturn, 1)] = true := by decide +kernel
theorem dkX12_over_0 : dkq cX12_over [(0, .lload_n 2, 1), (1, .lconst 0, 1), (2, .lcmp, 1), (3, .ifCond .ne 5, 3), (6, .lconst 0, 1), (7, .lreturn, 1), (8, .lload_n 0, 1), (9, .lload_n 2, 1), (10, .ldiv, 1), (11, .lstore 4, 2), (13, .lload_n 0, 1), (14, .lload_n 2, 1), (15, .lrem, 1), (16, .lconst 0, 1), (17, .lcmp, 1), (18, .ifCond .eq 35, 3)] = true := by decide +kernel
theorem dkX12_over_1 : dkq cX12_over [(21, .lload_n 0, 1), (22, .lconst 0, 1), (23, .lcmp, 1), (24, .ifCond .ge 7, 3), (27, .iconst 1, 1), (28, .goto 4, 3), (31, .iconst 0, 1), (32, .lload_n 2, 1), (33, .lconst 0, 1), (34, .lcmp, 1), (35, .ifCond .ge 7, 3), (38, .iconst 1, 1), (39, .goto 4, 3), (42, .iconst 0, 1), (43, .if_icmp .eq 10, 3), (46, .lload 4, 2)] = true := by decide +kernel
theorem dkX12_over_2 : dkq cX12_over [(48, .lconst 1, 1), (49, .lsub, 1), (50, .goto 5, 3), (53, .lload 4, 2), (55, .lreturn, 1)] = true := by decide +kernel
theorem dkX12_made_0 : dkq cX12_made [(0, .iload_n 0, 1), (1, .tableswitch 170 10 20 #[59, 66, 73, 80, 86, 106, 118, 130, 142, 154, 166], 59), (60, .lload_n 1, 1), (61, .lload_n 3, 1), (62, .ladd, 1), (63, .invokestatic 472, 3), (66, .lreturn, 1), (67, .lload_n 1, 1), (68, .lload_n 3, 1), (69, .lsub, 1), (70, .invokestatic 472, 3), (73, .lreturn, 1), (74, .lload_n 1, 1), (75, .lload_n 3, 1), (76, .lmul, 1), (77, .invokestatic 472, 3)] = true := by decide +kernel
theorem dkX12_made_1 : dkq cX12_made [(80, .lreturn, 1), (81, .lload_n 1, 1), (82, .lload_n 3, 1), (83, .invokestatic 476, 3), (86, .lreturn, 1), (87, .lload_n 3, 1), (88, .lconst 0, 1), (89, .lcmp, 1), (90, .ifCond .ne 7, 3), (93, .lconst 0, 1), (94, .goto 12, 3), (97, .lload_n 1, 1), (98, .lload_n 3, 1), (99, .lload_n 1, 1), (100, .lload_n 3, 1), (101, .invokestatic 476, 3)] = true := by decide +kernel
theorem dkX12_made_2 : dkq cX12_made [(104, .lmul, 1), (105, .lsub, 1), (106, .lreturn, 1), (107, .lload_n 1, 1), (108, .lload_n 3, 1), (109, .lcmp, 1), (110, .ifCond .ge 7, 3), (113, .lload_n 1, 1), (114, .goto 4, 3), (117, .lload_n 3, 1), (118, .lreturn, 1), (119, .lload_n 1, 1), (120, .lload_n 3, 1), (121, .lcmp, 1), (122, .ifCond .le 7, 3), (125, .lload_n 1, 1)] = true := by decide +kernel
theorem dkX12_made_3 : dkq cX12_made [(126, .goto 4, 3), (129, .lload_n 3, 1), (130, .lreturn, 1), (131, .lload_n 1, 1), (132, .lload_n 3, 1), (133, .lcmp, 1), (134, .ifCond .ge 7, 3), (137, .lconst 1, 1), (138, .goto 4, 3), (141, .lconst 0, 1), (142, .lreturn, 1), (143, .lload_n 1, 1), (144, .lload_n 3, 1), (145, .lcmp, 1), (146, .ifCond .le 7, 3), (149, .lconst 1, 1)] = true := by decide +kernel
theorem dkX12_made_4 : dkq cX12_made [(150, .goto 4, 3), (153, .lconst 0, 1), (154, .lreturn, 1), (155, .lload_n 1, 1), (156, .lload_n 3, 1), (157, .lcmp, 1), (158, .ifCond .ne 7, 3), (161, .lconst 1, 1), (162, .goto 4, 3), (165, .lconst 0, 1), (166, .lreturn, 1), (167, .lload_n 1, 1), (168, .lload_n 3, 1), (169, .lmul, 1), (170, .lreturn, 1), (171, .lload_n 1, 1)] = true := by decide +kernel
theorem dkX12_made_5 : dkq cX12_made [(172, .lload_n 3, 1), (173, .ladd, 1), (174, .lconst 0, 1), (175, .lcmp, 1), (176, .ifCond .le 7, 3), (179, .lconst 1, 1), (180, .goto 4, 3), (183, .lconst 0, 1), (184, .lreturn, 1)] = true := by decide +kernel
theorem dkX12_isPlace_0 : dkq cX12_isPlace [(0, .iload_n 1, 1), (1, .iconst 0, 1), (2, .aload_n 0, 1), (3, .getfield 51, 3), (6, .aload_n 0, 1), (7, .getfield 48, 3), (10, .iaload, 1), (11, .iconst 1, 1), (12, .isub, 1), (13, .invokestatic 352, 3), (16, .ireturn, 1)] = true := by decide +kernel
theorem dkX12_isDoor_0 : dkq cX12_isDoor [(0, .iload_n 1, 1), (1, .iconst 0, 1), (2, .aload_n 0, 1), (3, .getfield 58, 3), (6, .aload_n 0, 1), (7, .getfield 48, 3), (10, .iaload, 1), (11, .iconst 1, 1), (12, .isub, 1), (13, .invokestatic 352, 3), (16, .ireturn, 1)] = true := by decide +kernel
theorem dkX12_isKey_0 : dkq cX12_isKey [(0, .iload_n 1, 1), (1, .iconst 0, 1), (2, .aload_n 0, 1), (3, .getfield 80, 3), (6, .aload_n 0, 1), (7, .getfield 48, 3), (10, .iaload, 1), (11, .iconst 1, 1), (12, .isub, 1), (13, .invokestatic 352, 3), (16, .ireturn, 1)] = true := by decide +kernel
theorem dkX12_isPerson_0 : dkq cX12_isPerson [(0, .iload_n 1, 1), (1, .iconst 0, 1), (2, .aload_n 0, 1), (3, .getfield 95, 3), (6, .aload_n 0, 1), (7, .getfield 48, 3), (10, .iaload, 1), (11, .iconst 1, 1), (12, .isub, 1), (13, .invokestatic 352, 3), (16, .ireturn, 1)] = true := by decide +kernel
theorem dkX12_key4_0 : dkq cX12_key4 [(0, .iconst 4, 1), (1, .aload_n 0, 1), (2, .getfield 48, 3), (5, .imul, 1), (6, .iload_n 1, 1), (7, .iadd, 1), (8, .ireturn, 1)] = true := by decide +kernel
theorem dkX12_door10_0 : dkq cX12_door10 [(0, .bipush 10, 2), (2, .aload_n 0, 1), (3, .getfield 48, 3), (6, .imul, 1), (7, .iload_n 1, 1), (8, .iadd, 1), (9, .ireturn, 1)] = true := by decide +kernel
theorem dkX12_placeOf_0 : dkq cX12_placeOf [(0, .aload_n 0, 1), (1, .getfield 101, 3), (4, .iconst 3, 1), (5, .aload_n 0, 1), (6, .getfield 48, 3), (9, .imul, 1), (10, .iload_n 1, 1), (11, .iadd, 1), (12, .iaload, 1), (13, .ireturn, 1)] = true := by decide +kernel
theorem dkX12_isAt_0 : dkq cX12_isAt [(0, .aload_n 0, 1), (1, .getfield 64, 3), (4, .aload_n 0, 1), (5, .iload_n 2, 1), (6, .invokevirtual 487, 3), (9, .iaload, 1), (10, .iload_n 1, 1), (11, .if_icmp .eq 17, 3), (14, .aload_n 0, 1), (15, .getfield 67, 3), (18, .aload_n 0, 1), (19, .iload_n 2, 1), (20, .invokevirtual 487, 3), (23, .iaload, 1), (24, .iload_n 1, 1), (25, .if_icmp .ne 7, 3)] = true := by decide +kernel
theorem dkX12_isAt_1 : dkq cX12_isAt [(28, .iconst 1, 1), (29, .goto 4, 3), (32, .iconst 0, 1), (33, .ireturn, 1)] = true := by decide +kernel
theorem dkX12_otherSide_0 : dkq cX12_otherSide [(0, .aload_n 0, 1), (1, .getfield 64, 3), (4, .aload_n 0, 1), (5, .iload_n 1, 1), (6, .invokevirtual 487, 3), (9, .iaload, 1), (10, .iload_n 2, 1), (11, .if_icmp .ne 16, 3), (14, .aload_n 0, 1), (15, .getfield 67, 3), (18, .aload_n 0, 1), (19, .iload_n 1, 1), (20, .invokevirtual 487, 3), (23, .iaload, 1), (24, .goto 13, 3), (27, .aload_n 0, 1)] = true := by decide +kernel
theorem dkX12_otherSide_1 : dkq cX12_otherSide [(28, .getfield 64, 3), (31, .aload_n 0, 1), (32, .iload_n 1, 1), (33, .invokevirtual 487, 3), (36, .iaload, 1), (37, .ireturn, 1)] = true := by decide +kernel
abbrev tr_r_X12_is (x1 : Int) (x2 : Int) (x3 : Int) (A : St) (z : Int) : Prop := (((x1 < x2) ∧ (z = 0)) ∨ ((¬ x1 < x2) ∧ (((x3 < x1) ∧ (z = 0)) ∨ ((¬ x3 < x1) ∧ (z = 1)))))
def r_X12_is (x1 : Int) (x2 : Int) (x3 : Int) (A : St) (z : Int) : Prop := tr_r_X12_is x1 x2 x3 A z
theorem u_r_X12_is {x1 : Int} {x2 : Int} {x3 : Int} {A : St} {z : Int} (h : tr_r_X12_is x1 x2 x3 A z) : r_X12_is x1 x2 x3 A z := h
def q_X12_is (x1 : Int) (x2 : Int) (x3 : Int) (A : St) (z : Int) : Prop := r_X12_is x1 x2 x3 A z ∧ ((0 ≤ z ∧ z ≤ 1) ∧ (z = 1 ↔ x2 ≤ x1 ∧ x1 ≤ x3))
def ws_mc_X12_is : List Cond := .code yX12_is cX12_is 3 (some .boolean) :: WX
set_option maxHeartbeats 4000000 in
set_option maxRecDepth 100000 in
theorem mc_X12_is (l : Launch) (dC : Nat → ClassId) (dI : Nat → Nat → Nat) (cB cI cJ cZ cQ : ClassId) (q : Nat → Nat) (A : St) (x1 x2 x3 : Int) (hI : IM A) (hx1 : (-2147483648 : Int) ≤ x1 ∧ x1 ≤ 2147483647) (hx2 : (-2147483648 : Int) ≤ x2 ∧ x2 ≤ 2147483647) (hx3 : (-2147483648 : Int) ≤ x3 ∧ x3 ≤ 2147483647) : XMi l yX12_is ws_mc_X12_is ({ frames := 0, cells := 0, slots := 0, locals := 0 } : Room) (dC, dI) (tyA cB cI cJ cZ cQ) (WM cI cJ cZ q) A [.int (iI x1), .int (iI x2), .int (iI x3)] (fun z u => A = u ∧ r_X12_is x1 x2 x3 A z ∧ ((0 ≤ z ∧ z ≤ 1) ∧ (z = 1 ↔ x2 ≤ x1 ∧ x1 ≤ x3))) := by
  refine x_metz (cc := cX12_is) (maxL := 3) WM_adr (by decide +kernel) rfl (Nat.le_of_ble_eq_true rfl) (fun z u h => h.2.2.1) (fun p e s m below meth c Q AS ls hx hb hml hown hts hK hDD hA0 hP hS hl RET => ?_)
  have hown : s.vm.findClass RX12 = some m.cls := hown
  have hl : lv_has ls 3 [(0, .int (iI x1)), (1, .int (iI x2)), (2, .int (iI x3))] := hl
  obtain ⟨H, hHe⟩ : ∃ H : Heap, H = s.heap := ⟨_, rfl⟩
  rw [← hHe] at hP
  have hS : va_S AS s.heap H [] := by rw [hHe]; exact hS
  suffices hgo : ∀ locs : List Loc, va_S AS s.heap H locs → W p l e (headSpec ws_mc_X12_is ({ frames := 0, cells := 0, slots := 0, locals := 0 } : Room)).room s m [.int (iI x1), .int (iI x2), .int (iI x3)].toArray below meth c H locs 0 0 Q (F0 m 0 ls []) by
    have := hgo [] hS
    rw [hHe] at this
    exact this
  clear hS hHe
  intro locs hS
  refine lv_iload_n hx hb (dk_at dkX12_is_0 0 rfl) rfl (lv_at hl 0 rfl) ?_
  refine lv_iload_n hx hb (dk_at dkX12_is_0 1 rfl) rfl (lv_at hl 1 rfl) ?_
  refine lv_icmp_lt (tgt := 14) hx hb (dk_at dkX12_is_0 2 rfl) (by decide) (fun c1 => ?_) (fun c1 => ?_)
  · have c1 : x1 < x2 := (i_lt hx1 hx2).mp c1
    refine lv_iconst (v := iI 0) hx hb (dk_at dkX12_is_0 8 rfl) (by decide +kernel) ?_
    exact RET 0 _ _ _ _ _ ⟨rfl, (u_r_X12_is (Or.inl ⟨c1, rfl⟩)), by omega⟩ hP hS (dk_at dkX12_is_0 9 rfl)
  · have c1 : ¬ x1 < x2 := mt (i_lt hx1 hx2).mpr c1
    refine lv_iload_n hx hb (dk_at dkX12_is_0 3 rfl) rfl (lv_at hl 0 rfl) ?_
    refine lv_iload_n hx hb (dk_at dkX12_is_0 4 rfl) rfl (lv_at hl 2 rfl) ?_
    refine lv_icmp_gt (tgt := 14) hx hb (dk_at dkX12_is_0 5 rfl) (by decide) (fun c2 => ?_) (fun c2 => ?_)
    · have c2 : x3 < x1 := (i_lt hx3 hx1).mp c2
      refine lv_iconst (v := iI 0) hx hb (dk_at dkX12_is_0 8 rfl) (by decide +kernel) ?_
      exact RET 0 _ _ _ _ _ ⟨rfl, (u_r_X12_is (Or.inr ⟨c1, (Or.inl ⟨c2, rfl⟩)⟩)), by omega⟩ hP hS (dk_at dkX12_is_0 9 rfl)
    · have c2 : ¬ x3 < x1 := mt (i_lt hx3 hx1).mpr c2
      refine lv_iconst (v := iI 1) hx hb (dk_at dkX12_is_0 6 rfl) (by decide +kernel) ?_
      refine lv_goto (tgt := 15) hx hb (dk_at dkX12_is_0 7 rfl) (by decide) ?_
      exact RET 1 _ _ _ _ _ ⟨rfl, (u_r_X12_is (Or.inr ⟨c1, (Or.inr ⟨c2, rfl⟩)⟩)), by omega⟩ hP hS (dk_at dkX12_is_0 9 rfl)

abbrev tr_d_X12_put_1 (x1 : Int) (u : St) (K1 : Int → St → Prop) (z1 : Int) (A3 : St) : Prop := ((IM A3) ∧ ((-2147483648 ≤ z1 ∧ z1 ≤ 24) ∧ (((z1 < 0) ∧ (u = A3)) ∨ ((¬ z1 < 0) ∧ (∃ z13 : Int, z13 = oShr x1 z1 ∧ (∃ z14 : Int, z14 = oAnd z13 255 ∧ (∃ A15 : St, A15 = (stA (stA A3 1 ((A3 0 1)).toNat z14) 0 1 ((A3 0 1) + 1)) ∧ (K1 (z1 - 8) A15))))))))
def d_X12_put_1 (x1 : Int) (u : St) : Nat → Int → St → Prop
  | 0, _, _ => False
  | nn9 + 1, z1, A3 => tr_d_X12_put_1 x1 u (fun z1 A3 => d_X12_put_1 x1 u nn9 z1 A3) z1 A3
theorem u_d_X12_put_1 {x1 : Int} {u : St} {nn9 : Nat} {z1 : Int} {A3 : St} (h : tr_d_X12_put_1 x1 u (fun z1 A3 => d_X12_put_1 x1 u nn9 z1 A3) z1 A3) : d_X12_put_1 x1 u (nn9 + 1) z1 A3 := h
abbrev tr_r_X12_put (x1 : Int) (A : St) (u : St) : Prop := (∃ nn9 : Nat, d_X12_put_1 x1 u nn9 24 A)
def r_X12_put (x1 : Int) (A : St) (u : St) : Prop := tr_r_X12_put x1 A u
theorem u_r_X12_put {x1 : Int} {A : St} {u : St} (h : tr_r_X12_put x1 A u) : r_X12_put x1 A u := h
def q_X12_put (x1 : Int) (A : St) (u : St) : Prop := r_X12_put x1 A u ∧ IM u ∧ fr [1] [1] A u ∧ (u 0 1 = A 0 1 + 4)
def ws_mc_X12_put : List Cond := .code yX12_put cX12_put 3 none :: WX
set_option maxHeartbeats 4000000 in
set_option maxRecDepth 100000 in
theorem mc_X12_put (l : Launch) (dC : Nat → ClassId) (dI : Nat → Nat → Nat) (cB cI cJ cZ cQ : ClassId) (q : Nat → Nat) (A : St) (x1 : Int) (hI : IM A) (hx1 : (-2147483648 : Int) ≤ x1 ∧ x1 ≤ 2147483647) (hp0 : A 0 1 + 4 ≤ 1600) : XMv l yX12_put ws_mc_X12_put ({ frames := 0, cells := 0, slots := 0, locals := 0 } : Room) (dC, dI) (tyA cB cI cJ cZ cQ) (WM cI cJ cZ q) A [.ref (q 0), .int (iI x1)] (fun u => r_X12_put x1 A u ∧ IM u ∧ fr [1] [1] A u ∧ (u 0 1 = A 0 1 + 4)) := by
  refine x_metv (cc := cX12_put) (maxL := 3) WM_adr (by decide +kernel) rfl (Nat.le_of_ble_eq_true rfl) (fun p e s m below meth c Q AS ls hx hb hml hown hts hK hDD hA0 hP hS hl RET => ?_)
  have hown : s.vm.findClass RX12 = some m.cls := hown
  have hl : lv_has ls 3 [(0, .ref (q 0)), (1, .int (iI x1))] := hl
  have hiX12 : ∀ w ∈ u_ws RX12 TX12 85, w ∈ ws_mc_X12_put := fun w h => List.mem_cons_of_mem _ (wx_lay w h)
  obtain ⟨H, hHe⟩ : ∃ H : Heap, H = s.heap := ⟨_, rfl⟩
  rw [← hHe] at hP
  have hS : va_S AS s.heap H [] := by rw [hHe]; exact hS
  suffices hgo : ∀ locs : List Loc, va_S AS s.heap H locs → W p l e (headSpec ws_mc_X12_put ({ frames := 0, cells := 0, slots := 0, locals := 0 } : Room)).room s m [.ref (q 0), .int (iI x1)].toArray below meth c H locs 0 0 Q (F0 m 0 ls []) by
    have := hgo [] hS
    rw [hHe] at this
    exact this
  clear hS hHe
  intro locs hS
  refine lv_bipush (v := iI 24) hx hb (dk_at dkX12_put_0 0 rfl) (by decide +kernel) ?_
  refine lv_istore_n (lv' := [(2, .int (iI 24)), (0, .ref (q 0)), (1, .int (iI x1))]) hx hb (dk_at dkX12_put_0 1 rfl) rfl hl (by decide) rfl (fun ls hl => ?_)
  have L3_4 : ∀ (n6 : Nat) (z1 : Int) (A3 : St) (H : Heap) (locs : List Loc) (ls : Array Slot), (z1 ≤ 24) → (-2147483648 ≤ z1 ∧ z1 ≤ 24) → (8 * ((A3 0 1) - A 0 1) = 24 - z1) → (-8 ≤ z1) → (∀ (u : St), (∃ mm1 : Nat, (d_X12_put_1 x1 u mm1 z1 A3)) → r_X12_put x1 A u) → ((z1 - 0 + 1).toNat = n6) → IM A3 → fr [1] [1] A A3 → va_P (dC, dI) vwCl (WM cI cJ cZ q A3) H → va_S AS s.heap H locs → lv_has ls 3 [(2, .int (iI z1)), (0, .ref (q 0)), (1, .int (iI x1))] → W p l e (headSpec ws_mc_X12_put ({ frames := 0, cells := 0, slots := 0, locals := 0 } : Room)).room s m [.ref (q 0), .int (iI x1)].toArray below meth c H locs 0 0 Q (F0 m 3 ls []) := by
    intro n6
    induction n6 using Nat.strongRecOn with
    | ind n6 ih5 =>
      intro z1 A3 H locs ls f7 f8 f9 f10 hk1 hn6 hI hj2 hP hS hl
      have gI11 : Hd (IM A3) := Hd.mk hI
      refine lv_iload_n hx hb (dk_at dkX12_put_0 2 rfl) rfl (lv_at hl 0 rfl) ?_
      refine lv_if_lt (tgt := 39) hx hb (dk_at dkX12_put_0 3 rfl) (by decide) (fun c12 => ?_) (fun c12 => ?_)
      · have c12 : z1 < 0 := (i_lt0 (rb f8 (by decide) (by decide))).mp c12
        have r_A3_0_1 : (0 : Int) ≤ (A3 0 1) ∧ (A3 0 1) ≤ 1600 := hI 0 1
        exact RET _ _ _ _ _ ⟨hk1 _ ⟨0 + 1, (u_d_X12_put_1 ⟨gI11.out, ⟨f8, (Or.inl ⟨c12, rfl⟩)⟩⟩)⟩, hI, fr.trans (fr.rf) hj2 rfl rfl, by omega⟩ hP hS (dk_at dkX12_put_1 6 rfl)
      · have c12 : ¬ z1 < 0 := mt (i_lt0 (rb f8 (by decide) (by decide))).mpr c12
        refine lv_aload_n hx hb (dk_at dkX12_put_0 4 rfl) rfl (lv_at hl 1 rfl) ?_
        refine va_get (D := (dC, dI)) (ci := 12) (v := .ref (q 1)) (C := RX12) (T := TX12) (N := 85) hx hb hts hiX12 hown hK hP 0 wm0 rfl 0 (by decide) (hts _ (List.mem_cons_of_mem _ wlq_0_2)) (fun _ h9 => h9) rfl (dk_at dkX12_put_0 5 rfl) ?_
        refine lv_aload_n hx hb (dk_at dkX12_put_0 6 rfl) rfl (lv_at hl 1 rfl) ?_
        refine va_get (D := (dC, dI)) (ci := 12) (v := .int (iI (A3 0 1))) (C := RX12) (T := TX12) (N := 85) hx hb hts hiX12 hown hK hP 0 wm0 rfl 1 (by decide) (hts _ (List.mem_cons_of_mem _ wlq_0_3)) (fun _ h9 => h9) rfl (dk_at dkX12_put_0 7 rfl) ?_
        have r_A3_0_1 : (0 : Int) ≤ (A3 0 1) ∧ (A3 0 1) ≤ 1600 := hI 0 1
        refine lv_iload_n hx hb (dk_at dkX12_put_0 8 rfl) rfl (lv_at hl 2 rfl) ?_
        refine lv_iload_n hx hb (dk_at dkX12_put_0 9 rfl) rfl (lv_at hl 0 rfl) ?_
        refine lv_ishr hx hb (dk_at dkX12_put_0 10 rfl) ?_
        refine x_absE (fun z13 gz13 hz13 => ?_)
        refine lv_sipush (v := iI 255) hx hb (dk_at dkX12_put_0 11 rfl) (by decide +kernel) ?_
        refine lv_iand hx hb (dk_at dkX12_put_0 12 rfl) ?_
        refine x_andE (b := 255) (by omega) (fun z14 gz14 hz14 => ?_)
        refine x_iast hx hb hK hP hDD hS 1 1 wm1 rfl (by omega) (by decide) (dk_at dkX12_put_0 13 rfl) ws1 (fun H locs hP hS => ?_)
        have hI := hI.st (j := 1) (i := ((A3 0 1)).toNat) (v := z14) (show (0 : Int) ≤ z14 ∧ z14 ≤ 255 from (by omega))
        refine lv_aload_n hx hb (dk_at dkX12_put_0 14 rfl) rfl (lv_at hl 1 rfl) ?_
        refine lv_dup hx hb (dk_at dkX12_put_0 15 rfl) rfl ?_
        refine va_get (D := (dC, dI)) (ci := 12) (v := .int (iI (A3 0 1))) (C := RX12) (T := TX12) (N := 85) hx hb hts hiX12 hown hK hP 0 wm0 rfl 1 (by decide) (hts _ (List.mem_cons_of_mem _ wlq_0_3)) (fun _ h9 => h9) rfl (dk_at dkX12_put_1 0 rfl) ?_
        refine lv_iconst (v := iI 1) hx hb (dk_at dkX12_put_1 1 rfl) (by decide +kernel) ?_
        refine x_addv (v := (A3 0 1) + 1) hx hb (dk_at dkX12_put_1 2 rfl) (by omega) ?_
        refine x_put (D := (dC, dI)) (ci := 12) (v := .int (iI ((A3 0 1) + 1))) (ty := .int) (C := RX12) (T := TX12) (N := 85) hx hb hts hiX12 tyX12 tyX12_ok nmX12 hown hK hP hDD hS 0 wm0 rfl 1 (by decide) (hts _ (List.mem_cons_of_mem _ wlq_0_3)) (fun _ h9 => h9) rfl (by decide +kernel) rfl rfl (Nat.le_of_ble_eq_true rfl) (dk_at dkX12_put_1 3 rfl) (wf1 (v := (A3 0 1) + 1)) (fun H locs hP hS => ?_)
        have hI := hI.st (j := 0) (i := 1) (v := (A3 0 1) + 1) (show (0 : Int) ≤ (A3 0 1) + 1 ∧ (A3 0 1) + 1 ≤ 1600 from (by omega))
        refine lv_iinc (v := iI (z1 - 8)) (lv' := [(2, .int (iI (z1 - 8))), (0, .ref (q 0)), (1, .int (iI x1))]) hx hb (dk_at dkX12_put_1 4 rfl) hl (k := 0) rfl (i_inc (by omega)) (by decide) rfl (fun ls hl => ?_)
        refine lv_goto (tgt := 3) hx hb (dk_at dkX12_put_1 5 rfl) (by decide) ?_
        obtain ⟨A15, hA15⟩ : ∃ A15 : St, A15 = (stA (stA A3 1 ((A3 0 1)).toNat z14) 0 1 ((A3 0 1) + 1)) := ⟨_, rfl⟩
        rw [← hA15] at hP hI
        have e_A15_1 : A15 0 1 = (A3 0 1) + 1 := by rw [hA15]; rfl
        exact ih5 _ (by omega) (z1 - 8) _ _ _ _ (by omega) (by omega) (by omega) (by omega) (fun uq ⟨mm1, hq⟩ => hk1 _ ⟨mm1 + 1, (u_d_X12_put_1 ⟨gI11.out, ⟨f8, (Or.inr ⟨c12, ⟨z13, gz13.out, ⟨z14, gz14.out, ⟨A15, hA15, hq⟩⟩⟩⟩)⟩⟩)⟩) rfl hI (fr_def hA15 (fr.sf (fr.st (fr.trans (fr.rf) hj2 rfl rfl) (by decide) rfl) rfl)) hP hS (lv_sub hl [0, 1, 2] rfl)
  have r_A_0_1 : (0 : Int) ≤ (A 0 1) ∧ (A 0 1) ≤ 1600 := hI 0 1
  exact L3_4 _ 24 _ _ _ _ (by omega) (by omega) (by omega) (by omega) (fun uq ⟨mm1, hq⟩ => (u_r_X12_put ⟨mm1, hq⟩)) rfl hI (fr.rf) hP hS (lv_sub hl [0, 1, 2] rfl)

abbrev tr_r_X12_refuses (x1 : Int) (A : St) (z : Int) (u : St) : Prop := (∃ z1 : Int, z1 = A 41 (x1).toNat ∧ (∃ z2 : Int, z2 = oWrap (z1 + 1) ∧ (z = (-1) ∧ u = (stA A 41 (x1).toNat z2))))
def r_X12_refuses (x1 : Int) (A : St) (z : Int) (u : St) : Prop := tr_r_X12_refuses x1 A z u
theorem u_r_X12_refuses {x1 : Int} {A : St} {z : Int} {u : St} (h : tr_r_X12_refuses x1 A z u) : r_X12_refuses x1 A z u := h
def q_X12_refuses (x1 : Int) (A : St) (z : Int) (u : St) : Prop := r_X12_refuses x1 A z u ∧ IM u ∧ fr [41] [] A u ∧ (z = -1)
def ws_mc_X12_refuses : List Cond := .code yX12_refuses cX12_refuses 2 (some .int) :: WX
set_option maxHeartbeats 4000000 in
set_option maxRecDepth 100000 in
theorem mc_X12_refuses (l : Launch) (dC : Nat → ClassId) (dI : Nat → Nat → Nat) (cB cI cJ cZ cQ : ClassId) (q : Nat → Nat) (A : St) (x1 : Int) (hI : IM A) (hx1 : (0 : Int) ≤ x1 ∧ x1 ≤ 5) : XMi l yX12_refuses ws_mc_X12_refuses ({ frames := 0, cells := 0, slots := 0, locals := 0 } : Room) (dC, dI) (tyA cB cI cJ cZ cQ) (WM cI cJ cZ q) A [.ref (q 0), .int (iI x1)] (fun z u => r_X12_refuses x1 A z u ∧ IM u ∧ fr [41] [] A u ∧ (z = -1)) := by
  refine x_meti (cc := cX12_refuses) (maxL := 2) WM_adr (by decide +kernel) rfl (Nat.le_of_ble_eq_true rfl) (fun p e s m below meth c Q AS ls hx hb hml hown hts hK hDD hA0 hP hS hl RET => ?_)
  have hown : s.vm.findClass RX12 = some m.cls := hown
  have hl : lv_has ls 2 [(0, .ref (q 0)), (1, .int (iI x1))] := hl
  have hiX12 : ∀ w ∈ u_ws RX12 TX12 85, w ∈ ws_mc_X12_refuses := fun w h => List.mem_cons_of_mem _ (wx_lay w h)
  obtain ⟨H, hHe⟩ : ∃ H : Heap, H = s.heap := ⟨_, rfl⟩
  rw [← hHe] at hP
  have hS : va_S AS s.heap H [] := by rw [hHe]; exact hS
  suffices hgo : ∀ locs : List Loc, va_S AS s.heap H locs → W p l e (headSpec ws_mc_X12_refuses ({ frames := 0, cells := 0, slots := 0, locals := 0 } : Room)).room s m [.ref (q 0), .int (iI x1)].toArray below meth c H locs 0 0 Q (F0 m 0 ls []) by
    have := hgo [] hS
    rw [hHe] at this
    exact this
  clear hS hHe
  intro locs hS
  refine lv_aload_n hx hb (dk_at dkX12_refuses_0 0 rfl) rfl (lv_at hl 0 rfl) ?_
  refine va_get (D := (dC, dI)) (ci := 12) (v := .ref (q 41)) (C := RX12) (T := TX12) (N := 85) hx hb hts hiX12 hown hK hP 0 wm0 rfl 58 (by decide) (hts _ (List.mem_cons_of_mem _ wlq_0_10)) (fun _ h9 => h9) rfl (dk_at dkX12_refuses_0 1 rfl) ?_
  refine lv_iload_n hx hb (dk_at dkX12_refuses_0 2 rfl) rfl (lv_at hl 1 rfl) ?_
  refine lv_dup2_11 hx hb (dk_at dkX12_refuses_0 3 rfl) rfl rfl ?_
  refine x_iald hx hb hK hP 41 1 wm41 rfl (by omega) (by decide) (dk_at dkX12_refuses_0 4 rfl) (fun z1 hz1 => ?_)
  have rz1 : (-2147483648 : Int) ≤ z1 ∧ z1 ≤ 2147483647 := by rw [hz1]; exact hI 41 _
  have gz1 := Hd.mk hz1
  have hz1 : z1 = A 41 (x1).toNat := hz1
  refine lv_iconst (v := iI 1) hx hb (dk_at dkX12_refuses_0 5 rfl) (by decide +kernel) ?_
  refine x_addv (v := z1 + 1) hx hb (dk_at dkX12_refuses_0 6 rfl) (by omega) ?_
  refine x_absE (fun z2 gz2 hz2 => ?_)
  refine x_iast hx hb hK hP hDD hS 41 1 wm41 rfl (by omega) (by decide) (dk_at dkX12_refuses_0 7 rfl) ws41 (fun H locs hP hS => ?_)
  have hI := hI.st (j := 41) (i := (x1).toNat) (v := z2) (show (-2147483648 : Int) ≤ z2 ∧ z2 ≤ 2147483647 from (by omega))
  refine lv_iconst (v := iI (-1)) hx hb (dk_at dkX12_refuses_0 8 rfl) (by decide +kernel) ?_
  exact RET (-1) _ _ _ _ _ ⟨(u_r_X12_refuses ⟨z1, gz1.out, ⟨z2, gz2.out, ⟨rfl, rfl⟩⟩⟩), hI, fr.st (fr.rf) (by decide) rfl, by omega⟩ hP hS (dk_at dkX12_refuses_0 9 rfl)

abbrev tr_r_X12_feed (x1 : Int) (x2 : Int) (x3 : Int) (x4 : Int) (x5 : Int) (A : St) (z : Int) (u : St) : Prop := ((((A 0 1) + 20 ≤ 1600) ∧ (∃ A2 : St, q_X12_put x1 A A2 ∧ (∃ A5 : St, q_X12_put x2 A2 A5 ∧ (∃ A8 : St, q_X12_put x3 A5 A8 ∧ (∃ A11 : St, q_X12_put x4 A8 A11 ∧ (∃ A14 : St, q_X12_put x5 A11 A14 ∧ (z = (A14 0 1) ∧ u = A14))))))) ∨ ((¬ (A 0 1) + 20 ≤ 1600) ∧ (∃ z17 : Int, ∃ A18 : St, q_X12_refuses 0 A z17 A18 ∧ (z = z17 ∧ u = A18))))
def r_X12_feed (x1 : Int) (x2 : Int) (x3 : Int) (x4 : Int) (x5 : Int) (A : St) (z : Int) (u : St) : Prop := tr_r_X12_feed x1 x2 x3 x4 x5 A z u
theorem u_r_X12_feed {x1 : Int} {x2 : Int} {x3 : Int} {x4 : Int} {x5 : Int} {A : St} {z : Int} {u : St} (h : tr_r_X12_feed x1 x2 x3 x4 x5 A z u) : r_X12_feed x1 x2 x3 x4 x5 A z u := h
def ws_mc_X12_feed : List Cond := .code yX12_feed cX12_feed 6 (some .int) :: WX
set_option maxHeartbeats 4000000 in
set_option maxRecDepth 100000 in
theorem mc_X12_feed (l : Launch) (dC : Nat → ClassId) (dI : Nat → Nat → Nat) (cB cI cJ cZ cQ : ClassId) (q : Nat → Nat) (A : St) (x1 x2 x3 x4 x5 : Int) (hI : IM A) (hx1 : (-2147483648 : Int) ≤ x1 ∧ x1 ≤ 2147483647) (hx2 : (-2147483648 : Int) ≤ x2 ∧ x2 ≤ 2147483647) (hx3 : (-2147483648 : Int) ≤ x3 ∧ x3 ≤ 2147483647) (hx4 : (-2147483648 : Int) ≤ x4 ∧ x4 ≤ 2147483647) (hx5 : (-2147483648 : Int) ≤ x5 ∧ x5 ≤ 2147483647) : XMi l yX12_feed ws_mc_X12_feed ({ frames := 1, cells := 0, slots := 0, locals := 22 } : Room) (dC, dI) (tyA cB cI cJ cZ cQ) (WM cI cJ cZ q) A [.ref (q 0), .int (iI x1), .int (iI x2), .int (iI x3), .int (iI x4), .int (iI x5)] (fun z u => r_X12_feed x1 x2 x3 x4 x5 A z u ∧ IM u ∧ fr [1, 41] [1] A u ∧ ((1600 < A 0 1 + 20 ∧ z = -1 ∧ u 0 1 = A 0 1) ∨ (A 0 1 + 20 ≤ 1600 ∧ z = u 0 1 ∧ u 0 1 = A 0 1 + 20))) := by
  refine x_meti (cc := cX12_feed) (maxL := 6) WM_adr (by decide +kernel) rfl (Nat.le_of_ble_eq_true rfl) (fun p e s m below meth c Q AS ls hx hb hml hown hts hK hDD hA0 hP hS hl RET => ?_)
  have hown : s.vm.findClass RX12 = some m.cls := hown
  have hl : lv_has ls 6 [(0, .ref (q 0)), (1, .int (iI x1)), (2, .int (iI x2)), (3, .int (iI x3)), (4, .int (iI x4)), (5, .int (iI x5))] := hl
  have hiX12 : ∀ w ∈ u_ws RX12 TX12 85, w ∈ ws_mc_X12_feed := fun w h => List.mem_cons_of_mem _ (wx_lay w h)
  obtain ⟨H, hHe⟩ : ∃ H : Heap, H = s.heap := ⟨_, rfl⟩
  rw [← hHe] at hP
  have hS : va_S AS s.heap H [] := by rw [hHe]; exact hS
  suffices hgo : ∀ locs : List Loc, va_S AS s.heap H locs → W p l e (headSpec ws_mc_X12_feed ({ frames := 1, cells := 0, slots := 0, locals := 22 } : Room)).room s m [.ref (q 0), .int (iI x1), .int (iI x2), .int (iI x3), .int (iI x4), .int (iI x5)].toArray below meth c H locs 0 0 Q (F0 m 0 ls []) by
    have := hgo [] hS
    rw [hHe] at this
    exact this
  clear hS hHe
  intro locs hS
  refine lv_aload_n hx hb (dk_at dkX12_feed_0 0 rfl) rfl (lv_at hl 0 rfl) ?_
  refine va_get (D := (dC, dI)) (ci := 12) (v := .int (iI (A 0 1))) (C := RX12) (T := TX12) (N := 85) hx hb hts hiX12 hown hK hP 0 wm0 rfl 1 (by decide) (hts _ (List.mem_cons_of_mem _ wlq_0_3)) (fun _ h9 => h9) rfl (dk_at dkX12_feed_0 1 rfl) ?_
  have r_A_0_1 : (0 : Int) ≤ (A 0 1) ∧ (A 0 1) ≤ 1600 := hI 0 1
  refine lv_bipush (v := iI 20) hx hb (dk_at dkX12_feed_0 2 rfl) (by decide +kernel) ?_
  refine x_addv (v := (A 0 1) + 20) hx hb (dk_at dkX12_feed_0 3 rfl) (by omega) ?_
  refine lv_sipush (v := iI 1600) hx hb (dk_at dkX12_feed_0 4 rfl) (by decide +kernel) ?_
  refine lv_icmp_le (tgt := 19) hx hb (dk_at dkX12_feed_0 5 rfl) (by decide) (fun c1 => ?_) (fun c1 => ?_)
  · have c1 : (A 0 1) + 20 ≤ 1600 := (i_le (by omega) ⟨by decide, by decide⟩).mp c1
    refine lv_aload_n hx hb (dk_at dkX12_feed_0 10 rfl) rfl (lv_at hl 0 rfl) ?_
    refine lv_iload_n hx hb (dk_at dkX12_feed_0 11 rfl) rfl (lv_at hl 1 rfl) ?_
    refine x_callv (As := [.int (iI x1)]) (rest := []) ⟨hx, hb, hml, hown, hts⟩ (mc_X12_put l dC dI cB cI cJ cZ cQ q _ x1 hI hx1 (by omega)) (cwV 1 hts (goodV wlq_0_11 wlq_0_12 wlq_0_13 wlq_0_8 wlq_0_1) rfl rfl rfl (by decide +kernel) ⟨Nat.le_of_ble_eq_true rfl, Nat.le_of_ble_eq_true rfl⟩) hK hDD hA0 hP hS 0 12 wm0 rfl rfl hl.1 (Nat.le_of_ble_eq_true rfl) (dk_at dkX12_feed_0 12 rfl) (fun A2 H locs hw3 hP hS => ?_)
    have ghw3 : q_X12_put x1 A A2 := hw3
    obtain ⟨_, hI, hf4, hw3⟩ := hw3
    have r_A2_0_1 : (0 : Int) ≤ (A2 0 1) ∧ (A2 0 1) ≤ 1600 := hI 0 1
    refine lv_aload_n hx hb (dk_at dkX12_feed_0 13 rfl) rfl (lv_at hl 0 rfl) ?_
    refine lv_iload_n hx hb (dk_at dkX12_feed_0 14 rfl) rfl (lv_at hl 2 rfl) ?_
    refine x_callv (As := [.int (iI x2)]) (rest := []) ⟨hx, hb, hml, hown, hts⟩ (mc_X12_put l dC dI cB cI cJ cZ cQ q _ x2 hI hx2 (by omega)) (cwV 1 hts (goodV wlq_0_11 wlq_0_12 wlq_0_13 wlq_0_8 wlq_0_1) rfl rfl rfl (by decide +kernel) ⟨Nat.le_of_ble_eq_true rfl, Nat.le_of_ble_eq_true rfl⟩) hK hDD hA0 hP hS 0 12 wm0 rfl rfl hl.1 (Nat.le_of_ble_eq_true rfl) (dk_at dkX12_feed_0 15 rfl) (fun A5 H locs hw6 hP hS => ?_)
    have ghw6 : q_X12_put x2 A2 A5 := hw6
    obtain ⟨_, hI, hf7, hw6⟩ := hw6
    have r_A5_0_1 : (0 : Int) ≤ (A5 0 1) ∧ (A5 0 1) ≤ 1600 := hI 0 1
    refine lv_aload_n hx hb (dk_at dkX12_feed_1 0 rfl) rfl (lv_at hl 0 rfl) ?_
    refine lv_iload_n hx hb (dk_at dkX12_feed_1 1 rfl) rfl (lv_at hl 3 rfl) ?_
    refine x_callv (As := [.int (iI x3)]) (rest := []) ⟨hx, hb, hml, hown, hts⟩ (mc_X12_put l dC dI cB cI cJ cZ cQ q _ x3 hI hx3 (by omega)) (cwV 1 hts (goodV wlq_0_11 wlq_0_12 wlq_0_13 wlq_0_8 wlq_0_1) rfl rfl rfl (by decide +kernel) ⟨Nat.le_of_ble_eq_true rfl, Nat.le_of_ble_eq_true rfl⟩) hK hDD hA0 hP hS 0 12 wm0 rfl rfl hl.1 (Nat.le_of_ble_eq_true rfl) (dk_at dkX12_feed_1 2 rfl) (fun A8 H locs hw9 hP hS => ?_)
    have ghw9 : q_X12_put x3 A5 A8 := hw9
    obtain ⟨_, hI, hf10, hw9⟩ := hw9
    have r_A8_0_1 : (0 : Int) ≤ (A8 0 1) ∧ (A8 0 1) ≤ 1600 := hI 0 1
    refine lv_aload_n hx hb (dk_at dkX12_feed_1 3 rfl) rfl (lv_at hl 0 rfl) ?_
    refine lv_iload hx hb (dk_at dkX12_feed_1 4 rfl) (lv_at hl 4 rfl) ?_
    refine x_callv (As := [.int (iI x4)]) (rest := []) ⟨hx, hb, hml, hown, hts⟩ (mc_X12_put l dC dI cB cI cJ cZ cQ q _ x4 hI hx4 (by omega)) (cwV 1 hts (goodV wlq_0_11 wlq_0_12 wlq_0_13 wlq_0_8 wlq_0_1) rfl rfl rfl (by decide +kernel) ⟨Nat.le_of_ble_eq_true rfl, Nat.le_of_ble_eq_true rfl⟩) hK hDD hA0 hP hS 0 12 wm0 rfl rfl hl.1 (Nat.le_of_ble_eq_true rfl) (dk_at dkX12_feed_1 5 rfl) (fun A11 H locs hw12 hP hS => ?_)
    have ghw12 : q_X12_put x4 A8 A11 := hw12
    obtain ⟨_, hI, hf13, hw12⟩ := hw12
    have r_A11_0_1 : (0 : Int) ≤ (A11 0 1) ∧ (A11 0 1) ≤ 1600 := hI 0 1
    refine lv_aload_n hx hb (dk_at dkX12_feed_1 6 rfl) rfl (lv_at hl 0 rfl) ?_
    refine lv_iload hx hb (dk_at dkX12_feed_1 7 rfl) (lv_at hl 5 rfl) ?_
    refine x_callv (As := [.int (iI x5)]) (rest := []) ⟨hx, hb, hml, hown, hts⟩ (mc_X12_put l dC dI cB cI cJ cZ cQ q _ x5 hI hx5 (by omega)) (cwV 1 hts (goodV wlq_0_11 wlq_0_12 wlq_0_13 wlq_0_8 wlq_0_1) rfl rfl rfl (by decide +kernel) ⟨Nat.le_of_ble_eq_true rfl, Nat.le_of_ble_eq_true rfl⟩) hK hDD hA0 hP hS 0 12 wm0 rfl rfl hl.1 (Nat.le_of_ble_eq_true rfl) (dk_at dkX12_feed_1 8 rfl) (fun A14 H locs hw15 hP hS => ?_)
    have ghw15 : q_X12_put x5 A11 A14 := hw15
    obtain ⟨_, hI, hf16, hw15⟩ := hw15
    have r_A14_0_1 : (0 : Int) ≤ (A14 0 1) ∧ (A14 0 1) ≤ 1600 := hI 0 1
    refine lv_aload_n hx hb (dk_at dkX12_feed_1 9 rfl) rfl (lv_at hl 0 rfl) ?_
    refine va_get (D := (dC, dI)) (ci := 12) (v := .int (iI (A14 0 1))) (C := RX12) (T := TX12) (N := 85) hx hb hts hiX12 hown hK hP 0 wm0 rfl 1 (by decide) (hts _ (List.mem_cons_of_mem _ wlq_0_3)) (fun _ h9 => h9) rfl (dk_at dkX12_feed_1 10 rfl) ?_
    exact RET (A14 0 1) _ _ _ _ _ ⟨(u_r_X12_feed (Or.inl ⟨c1, ⟨A2, ghw3, ⟨A5, ghw6, ⟨A8, ghw9, ⟨A11, ghw12, ⟨A14, ghw15, ⟨rfl, rfl⟩⟩⟩⟩⟩⟩⟩)), hI, fr.trans (fr.trans (fr.trans (fr.trans (fr.trans (fr.rf) hf4 rfl rfl) hf7 rfl rfl) hf10 rfl rfl) hf13 rfl rfl) hf16 rfl rfl, by omega⟩ hP hS (dk_at dkX12_feed_1 11 rfl)
  · have c1 : ¬ (A 0 1) + 20 ≤ 1600 := mt (i_le (by omega) ⟨by decide, by decide⟩).mpr c1
    refine lv_aload_n hx hb (dk_at dkX12_feed_0 6 rfl) rfl (lv_at hl 0 rfl) ?_
    refine lv_iconst (v := iI 0) hx hb (dk_at dkX12_feed_0 7 rfl) (by decide +kernel) ?_
    refine x_calli (As := [.int (iI 0)]) (rest := []) ⟨hx, hb, hml, hown, hts⟩ (mc_X12_refuses l dC dI cB cI cJ cZ cQ q _ 0 hI ⟨by decide, by decide⟩) (cwV 1 hts (goodV wlq_0_5 wlq_0_6 wlq_0_7 wlq_0_8 wlq_0_9) rfl rfl rfl (by decide +kernel) ⟨Nat.le_of_ble_eq_true rfl, Nat.le_of_ble_eq_true rfl⟩) hK hDD hA0 hP hS 0 12 wm0 rfl rfl hl.1 (Nat.le_of_ble_eq_true rfl) (dk_at dkX12_feed_0 8 rfl) (fun z17 A18 H locs hw19 hP hS => ?_)
    have ghw19 : q_X12_refuses 0 A z17 A18 := hw19
    obtain ⟨_, hI, hf20, hw19⟩ := hw19
    have e_A18_1 : A18 0 1 = (A 0 1) := (hf20.2 1 rfl)
    exact RET z17 _ _ _ _ _ ⟨(u_r_X12_feed (Or.inr ⟨c1, ⟨z17, A18, ghw19, ⟨rfl, rfl⟩⟩⟩)), hI, fr.trans (fr.rf) hf20 rfl rfl, by omega⟩ hP hS (dk_at dkX12_feed_0 9 rfl)

abbrev tr_d_X12_end_1 (A : St) (z : Int) (u : St) : Prop := (∃ z7 : Int, ∃ A8 : St, q_X12_refuses 0 A z7 A8 ∧ (z = 0 ∧ u = A8))
def d_X12_end_1 (A : St) (z : Int) (u : St) : Prop := tr_d_X12_end_1 A z u
theorem u_d_X12_end_1 {A : St} {z : Int} {u : St} (h : tr_d_X12_end_1 A z u) : d_X12_end_1 A z u := h
abbrev tr_r_X12_end (x1 : Int) (A : St) (z : Int) (u : St) : Prop := (((x1 < 0) ∧ (d_X12_end_1 A z u)) ∨ ((¬ x1 < 0) ∧ (((x1 ≤ (A 0 1)) ∧ (∃ A4 : St, A4 = (stA A 0 1 x1) ∧ (z = 1 ∧ u = A4))) ∨ ((¬ x1 ≤ (A 0 1)) ∧ (d_X12_end_1 A z u)))))
def r_X12_end (x1 : Int) (A : St) (z : Int) (u : St) : Prop := tr_r_X12_end x1 A z u
theorem u_r_X12_end {x1 : Int} {A : St} {z : Int} {u : St} (h : tr_r_X12_end x1 A z u) : r_X12_end x1 A z u := h
def ws_mc_X12_end : List Cond := .code yX12_end cX12_end 2 (some .boolean) :: WX
set_option maxHeartbeats 4000000 in
set_option maxRecDepth 100000 in
theorem mc_X12_end (l : Launch) (dC : Nat → ClassId) (dI : Nat → Nat → Nat) (cB cI cJ cZ cQ : ClassId) (q : Nat → Nat) (A : St) (x1 : Int) (hI : IM A) (hx1 : (-2147483648 : Int) ≤ x1 ∧ x1 ≤ 2147483647) : XMi l yX12_end ws_mc_X12_end ({ frames := 1, cells := 0, slots := 0, locals := 21 } : Room) (dC, dI) (tyA cB cI cJ cZ cQ) (WM cI cJ cZ q) A [.ref (q 0), .int (iI x1)] (fun z u => r_X12_end x1 A z u ∧ IM u ∧ fr [41] [1] A u ∧ ((0 ≤ z ∧ z ≤ 1) ∧ ((z = 0 ∧ u 0 1 = A 0 1 ∧ (x1 < 0 ∨ A 0 1 < x1)) ∨ (z = 1 ∧ u 0 1 = x1 ∧ 0 ≤ x1 ∧ x1 ≤ A 0 1)))) := by
  refine x_metz (cc := cX12_end) (maxL := 2) WM_adr (by decide +kernel) rfl (Nat.le_of_ble_eq_true rfl) (fun z u h => h.2.2.2.1) (fun p e s m below meth c Q AS ls hx hb hml hown hts hK hDD hA0 hP hS hl RET => ?_)
  have hown : s.vm.findClass RX12 = some m.cls := hown
  have hl : lv_has ls 2 [(0, .ref (q 0)), (1, .int (iI x1))] := hl
  have hiX12 : ∀ w ∈ u_ws RX12 TX12 85, w ∈ ws_mc_X12_end := fun w h => List.mem_cons_of_mem _ (wx_lay w h)
  obtain ⟨H, hHe⟩ : ∃ H : Heap, H = s.heap := ⟨_, rfl⟩
  rw [← hHe] at hP
  have hS : va_S AS s.heap H [] := by rw [hHe]; exact hS
  suffices hgo : ∀ locs : List Loc, va_S AS s.heap H locs → W p l e (headSpec ws_mc_X12_end ({ frames := 1, cells := 0, slots := 0, locals := 21 } : Room)).room s m [.ref (q 0), .int (iI x1)].toArray below meth c H locs 0 0 Q (F0 m 0 ls []) by
    have := hgo [] hS
    rw [hHe] at this
    exact this
  clear hS hHe
  intro locs hS
  refine lv_iload_n hx hb (dk_at dkX12_end_0 0 rfl) rfl (lv_at hl 1 rfl) ?_
  have J12_2 : ∀ (H : Heap) (locs : List Loc) (ls : Array Slot), ((x1 < 0) ∨ (¬ x1 < 0 ∧ ¬ x1 ≤ (A 0 1))) → (∀ (z : Int) (u : St), (d_X12_end_1 A z u) → r_X12_end x1 A z u) → va_P (dC, dI) vwCl (WM cI cJ cZ q A) H → va_S AS s.heap H locs → lv_has ls 2 [(0, .ref (q 0)), (1, .int (iI x1))] → W p l e (headSpec ws_mc_X12_end ({ frames := 1, cells := 0, slots := 0, locals := 21 } : Room)).room s m [.ref (q 0), .int (iI x1)].toArray below meth c H locs 0 0 Q (F0 m 12 ls []) := by
    intro H locs ls f6 hk1 hP hS hl
    refine lv_aload_n hx hb (dk_at dkX12_end_0 6 rfl) rfl (lv_at hl 0 rfl) ?_
    refine lv_iconst (v := iI 0) hx hb (dk_at dkX12_end_0 7 rfl) (by decide +kernel) ?_
    refine x_calli (As := [.int (iI 0)]) (rest := []) ⟨hx, hb, hml, hown, hts⟩ (mc_X12_refuses l dC dI cB cI cJ cZ cQ q _ 0 hI ⟨by decide, by decide⟩) (cwV 1 hts (goodV wlq_0_5 wlq_0_6 wlq_0_7 wlq_0_8 wlq_0_9) rfl rfl rfl (by decide +kernel) ⟨Nat.le_of_ble_eq_true rfl, Nat.le_of_ble_eq_true rfl⟩) hK hDD hA0 hP hS 0 12 wm0 rfl rfl hl.1 (Nat.le_of_ble_eq_true rfl) (dk_at dkX12_end_0 8 rfl) (fun z7 A8 H locs hw9 hP hS => ?_)
    have ghw9 : q_X12_refuses 0 A z7 A8 := hw9
    obtain ⟨_, hI, hf10, hw9⟩ := hw9
    refine lv_if_lt (tgt := 24) hx hb (dk_at dkX12_end_0 9 rfl) (by decide) (fun _ => ?_) (fun c11 => False.elim (by have c11 : ¬ z7 < 0 := mt (i_lt0 (by omega)).mpr c11; omega))
    refine lv_iconst (v := iI 0) hx hb (dk_at dkX12_end_0 10 rfl) (by decide +kernel) ?_
    have e_A8_1 : A8 0 1 = (A 0 1) := (hf10.2 1 rfl)
    have r_A_0_1 : (0 : Int) ≤ (A 0 1) ∧ (A 0 1) ≤ 1600 := by rw [← e_A8_1]; exact hI 0 1
    exact RET 0 _ _ _ _ _ ⟨hk1 _ _ (u_d_X12_end_1 ⟨z7, A8, ghw9, ⟨rfl, rfl⟩⟩), hI, fr.trans (fr.rf) hf10 rfl rfl, by omega⟩ hP hS (dk_at dkX12_end_0 11 rfl)
  refine lv_if_lt (tgt := 12) hx hb (dk_at dkX12_end_0 1 rfl) (by decide) (fun c1 => ?_) (fun c1 => ?_)
  · have c1 : x1 < 0 := (i_lt0 hx1).mp c1
    exact J12_2 _ _ _ (by omega) (fun zq uq hq => (u_r_X12_end (Or.inl ⟨c1, hq⟩))) hP hS (lv_sub hl [0, 1] rfl)
  · have c1 : ¬ x1 < 0 := mt (i_lt0 hx1).mpr c1
    refine lv_iload_n hx hb (dk_at dkX12_end_0 2 rfl) rfl (lv_at hl 1 rfl) ?_
    refine lv_aload_n hx hb (dk_at dkX12_end_0 3 rfl) rfl (lv_at hl 0 rfl) ?_
    refine va_get (D := (dC, dI)) (ci := 12) (v := .int (iI (A 0 1))) (C := RX12) (T := TX12) (N := 85) hx hb hts hiX12 hown hK hP 0 wm0 rfl 1 (by decide) (hts _ (List.mem_cons_of_mem _ wlq_0_3)) (fun _ h9 => h9) rfl (dk_at dkX12_end_0 4 rfl) ?_
    have r_A_0_1 : (0 : Int) ≤ (A 0 1) ∧ (A 0 1) ≤ 1600 := hI 0 1
    refine lv_icmp_le (tgt := 26) hx hb (dk_at dkX12_end_0 5 rfl) (by decide) (fun c3 => ?_) (fun c3 => ?_)
    · have c3 : x1 ≤ (A 0 1) := (i_le hx1 (rb r_A_0_1 (by decide) (by decide))).mp c3
      refine lv_aload_n hx hb (dk_at dkX12_end_0 12 rfl) rfl (lv_at hl 0 rfl) ?_
      refine lv_iload_n hx hb (dk_at dkX12_end_0 13 rfl) rfl (lv_at hl 1 rfl) ?_
      refine x_put (D := (dC, dI)) (ci := 12) (v := .int (iI x1)) (ty := .int) (C := RX12) (T := TX12) (N := 85) hx hb hts hiX12 tyX12 tyX12_ok nmX12 hown hK hP hDD hS 0 wm0 rfl 1 (by decide) (hts _ (List.mem_cons_of_mem _ wlq_0_3)) (fun _ h9 => h9) rfl (by decide +kernel) rfl rfl (Nat.le_of_ble_eq_true rfl) (dk_at dkX12_end_0 14 rfl) (wf1 (v := x1)) (fun H locs hP hS => ?_)
      have hI := hI.st (j := 0) (i := 1) (v := x1) (show (0 : Int) ≤ x1 ∧ x1 ≤ 1600 from (by omega))
      refine lv_iconst (v := iI 1) hx hb (dk_at dkX12_end_0 15 rfl) (by decide +kernel) ?_
      obtain ⟨A4, hA4⟩ : ∃ A4 : St, A4 = (stA A 0 1 x1) := ⟨_, rfl⟩
      rw [← hA4] at hP hI
      have e_A4_1 : A4 0 1 = x1 := by rw [hA4]; rfl
      exact RET 1 _ _ _ _ _ ⟨(u_r_X12_end (Or.inr ⟨c1, (Or.inl ⟨c3, ⟨A4, hA4, ⟨rfl, rfl⟩⟩⟩)⟩)), hI, fr_def hA4 (fr.sf (fr.rf) rfl), by omega⟩ hP hS (dk_at dkX12_end_1 0 rfl)
    · have c3 : ¬ x1 ≤ (A 0 1) := mt (i_le hx1 (rb r_A_0_1 (by decide) (by decide))).mpr c3
      exact J12_2 _ _ _ (by omega) (fun zq uq hq => (u_r_X12_end (Or.inr ⟨c1, (Or.inr ⟨c3, hq⟩)⟩))) hP hS (lv_sub hl [0, 1] rfl)

abbrev tr_r_X12_blame (x1 : Int) (x2 : Int) (A : St) (u : St) : Prop := ((((A 0 8) ≤ 0) ∧ (∃ A2 : St, A2 = (stA (stA A 0 8 x1) 0 9 x2) ∧ (u = A2))) ∨ ((¬ (A 0 8) ≤ 0) ∧ (u = A)))
def r_X12_blame (x1 : Int) (x2 : Int) (A : St) (u : St) : Prop := tr_r_X12_blame x1 x2 A u
theorem u_r_X12_blame {x1 : Int} {x2 : Int} {A : St} {u : St} (h : tr_r_X12_blame x1 x2 A u) : r_X12_blame x1 x2 A u := h
def q_X12_blame (x1 : Int) (x2 : Int) (A : St) (u : St) : Prop := r_X12_blame x1 x2 A u ∧ IM u ∧ fr [] [8, 9] A u ∧ (1 ≤ u 0 8)
def ws_mc_X12_blame : List Cond := .code yX12_blame cX12_blame 3 none :: WX
set_option maxHeartbeats 4000000 in
set_option maxRecDepth 100000 in
theorem mc_X12_blame (l : Launch) (dC : Nat → ClassId) (dI : Nat → Nat → Nat) (cB cI cJ cZ cQ : ClassId) (q : Nat → Nat) (A : St) (x1 x2 : Int) (hI : IM A) (hx1 : (1 : Int) ≤ x1 ∧ x1 ≤ 5) (hx2 : (0 : Int) ≤ x2 ∧ x2 ≤ 1600) : XMv l yX12_blame ws_mc_X12_blame ({ frames := 0, cells := 0, slots := 0, locals := 0 } : Room) (dC, dI) (tyA cB cI cJ cZ cQ) (WM cI cJ cZ q) A [.ref (q 0), .int (iI x1), .int (iI x2)] (fun u => r_X12_blame x1 x2 A u ∧ IM u ∧ fr [] [8, 9] A u ∧ (1 ≤ u 0 8)) := by
  refine x_metv (cc := cX12_blame) (maxL := 3) WM_adr (by decide +kernel) rfl (Nat.le_of_ble_eq_true rfl) (fun p e s m below meth c Q AS ls hx hb hml hown hts hK hDD hA0 hP hS hl RET => ?_)
  have hown : s.vm.findClass RX12 = some m.cls := hown
  have hl : lv_has ls 3 [(0, .ref (q 0)), (1, .int (iI x1)), (2, .int (iI x2))] := hl
  have hiX12 : ∀ w ∈ u_ws RX12 TX12 85, w ∈ ws_mc_X12_blame := fun w h => List.mem_cons_of_mem _ (wx_lay w h)
  obtain ⟨H, hHe⟩ : ∃ H : Heap, H = s.heap := ⟨_, rfl⟩
  rw [← hHe] at hP
  have hS : va_S AS s.heap H [] := by rw [hHe]; exact hS
  suffices hgo : ∀ locs : List Loc, va_S AS s.heap H locs → W p l e (headSpec ws_mc_X12_blame ({ frames := 0, cells := 0, slots := 0, locals := 0 } : Room)).room s m [.ref (q 0), .int (iI x1), .int (iI x2)].toArray below meth c H locs 0 0 Q (F0 m 0 ls []) by
    have := hgo [] hS
    rw [hHe] at this
    exact this
  clear hS hHe
  intro locs hS
  refine lv_aload_n hx hb (dk_at dkX12_blame_0 0 rfl) rfl (lv_at hl 0 rfl) ?_
  refine va_get (D := (dC, dI)) (ci := 12) (v := .int (iI (A 0 8))) (C := RX12) (T := TX12) (N := 85) hx hb hts hiX12 hown hK hP 0 wm0 rfl 8 (by decide) (hts _ (List.mem_cons_of_mem _ wlq_0_16)) (fun _ h9 => h9) rfl (dk_at dkX12_blame_0 1 rfl) ?_
  have r_A_0_8 : (0 : Int) ≤ (A 0 8) ∧ (A 0 8) ≤ 5 := hI 0 8
  refine lv_if_le (tgt := 8) hx hb (dk_at dkX12_blame_0 2 rfl) (by decide) (fun c1 => ?_) (fun c1 => ?_)
  · have c1 : (A 0 8) ≤ 0 := (i_le0 (rb r_A_0_8 (by decide) (by decide))).mp c1
    refine lv_aload_n hx hb (dk_at dkX12_blame_0 4 rfl) rfl (lv_at hl 0 rfl) ?_
    refine lv_iload_n hx hb (dk_at dkX12_blame_0 5 rfl) rfl (lv_at hl 1 rfl) ?_
    refine x_put (D := (dC, dI)) (ci := 12) (v := .int (iI x1)) (ty := .int) (C := RX12) (T := TX12) (N := 85) hx hb hts hiX12 tyX12 tyX12_ok nmX12 hown hK hP hDD hS 0 wm0 rfl 8 (by decide) (hts _ (List.mem_cons_of_mem _ wlq_0_16)) (fun _ h9 => h9) rfl (by decide +kernel) rfl rfl (Nat.le_of_ble_eq_true rfl) (dk_at dkX12_blame_0 6 rfl) (wf8 (v := x1)) (fun H locs hP hS => ?_)
    have hI := hI.st (j := 0) (i := 8) (v := x1) (show (0 : Int) ≤ x1 ∧ x1 ≤ 5 from (by omega))
    refine lv_aload_n hx hb (dk_at dkX12_blame_0 7 rfl) rfl (lv_at hl 0 rfl) ?_
    refine lv_iload_n hx hb (dk_at dkX12_blame_0 8 rfl) rfl (lv_at hl 2 rfl) ?_
    refine x_put (D := (dC, dI)) (ci := 12) (v := .int (iI x2)) (ty := .int) (C := RX12) (T := TX12) (N := 85) hx hb hts hiX12 tyX12 tyX12_ok nmX12 hown hK hP hDD hS 0 wm0 rfl 9 (by decide) (hts _ (List.mem_cons_of_mem _ wlq_0_17)) (fun _ h9 => h9) rfl (by decide +kernel) rfl rfl (Nat.le_of_ble_eq_true rfl) (dk_at dkX12_blame_0 9 rfl) (wf9 (v := x2)) (fun H locs hP hS => ?_)
    have hI := hI.st (j := 0) (i := 9) (v := x2) (show (-1 : Int) ≤ x2 ∧ x2 ≤ 1600 from (by omega))
    obtain ⟨A2, hA2⟩ : ∃ A2 : St, A2 = (stA (stA A 0 8 x1) 0 9 x2) := ⟨_, rfl⟩
    rw [← hA2] at hP hI
    have e_A2_8 : A2 0 8 = x1 := by rw [hA2]; rfl
    exact RET _ _ _ _ _ ⟨(u_r_X12_blame (Or.inl ⟨c1, ⟨A2, hA2, rfl⟩⟩)), hI, fr_def hA2 (fr.sf (fr.sf (fr.rf) rfl) rfl), by omega⟩ hP hS (dk_at dkX12_blame_0 10 rfl)
  · have c1 : ¬ (A 0 8) ≤ 0 := mt (i_le0 (rb r_A_0_8 (by decide) (by decide))).mpr c1
    exact RET _ _ _ _ _ ⟨(u_r_X12_blame (Or.inr ⟨c1, rfl⟩)), hI, fr.rf, by omega⟩ hP hS (dk_at dkX12_blame_0 3 rfl)

abbrev tr_r_X12_isLetter (x1 : Int) (A : St) (z : Int) : Prop := (((x1 < 97) ∧ (z = 0)) ∨ ((¬ x1 < 97) ∧ (((122 < x1) ∧ (z = 0)) ∨ ((¬ 122 < x1) ∧ (z = 1)))))
def r_X12_isLetter (x1 : Int) (A : St) (z : Int) : Prop := tr_r_X12_isLetter x1 A z
theorem u_r_X12_isLetter {x1 : Int} {A : St} {z : Int} (h : tr_r_X12_isLetter x1 A z) : r_X12_isLetter x1 A z := h
def q_X12_isLetter (x1 : Int) (A : St) (z : Int) : Prop := r_X12_isLetter x1 A z ∧ ((0 ≤ z ∧ z ≤ 1) ∧ (z = 1 ↔ 97 ≤ x1 ∧ x1 ≤ 122))
def ws_mc_X12_isLetter : List Cond := .code yX12_isLetter cX12_isLetter 1 (some .boolean) :: WX
set_option maxHeartbeats 4000000 in
set_option maxRecDepth 100000 in
theorem mc_X12_isLetter (l : Launch) (dC : Nat → ClassId) (dI : Nat → Nat → Nat) (cB cI cJ cZ cQ : ClassId) (q : Nat → Nat) (A : St) (x1 : Int) (hI : IM A) (hx1 : (-2147483648 : Int) ≤ x1 ∧ x1 ≤ 2147483647) : XMi l yX12_isLetter ws_mc_X12_isLetter ({ frames := 0, cells := 0, slots := 0, locals := 0 } : Room) (dC, dI) (tyA cB cI cJ cZ cQ) (WM cI cJ cZ q) A [.int (iI x1)] (fun z u => A = u ∧ r_X12_isLetter x1 A z ∧ ((0 ≤ z ∧ z ≤ 1) ∧ (z = 1 ↔ 97 ≤ x1 ∧ x1 ≤ 122))) := by
  refine x_metz (cc := cX12_isLetter) (maxL := 1) WM_adr (by decide +kernel) rfl (Nat.le_of_ble_eq_true rfl) (fun z u h => h.2.2.1) (fun p e s m below meth c Q AS ls hx hb hml hown hts hK hDD hA0 hP hS hl RET => ?_)
  have hown : s.vm.findClass RX12 = some m.cls := hown
  have hl : lv_has ls 1 [(0, .int (iI x1))] := hl
  obtain ⟨H, hHe⟩ : ∃ H : Heap, H = s.heap := ⟨_, rfl⟩
  rw [← hHe] at hP
  have hS : va_S AS s.heap H [] := by rw [hHe]; exact hS
  suffices hgo : ∀ locs : List Loc, va_S AS s.heap H locs → W p l e (headSpec ws_mc_X12_isLetter ({ frames := 0, cells := 0, slots := 0, locals := 0 } : Room)).room s m [.int (iI x1)].toArray below meth c H locs 0 0 Q (F0 m 0 ls []) by
    have := hgo [] hS
    rw [hHe] at this
    exact this
  clear hS hHe
  intro locs hS
  refine lv_iload_n hx hb (dk_at dkX12_isLetter_0 0 rfl) rfl (lv_at hl 0 rfl) ?_
  refine lv_bipush (v := iI 97) hx hb (dk_at dkX12_isLetter_0 1 rfl) (by decide +kernel) ?_
  refine lv_icmp_lt (tgt := 16) hx hb (dk_at dkX12_isLetter_0 2 rfl) (by decide) (fun c1 => ?_) (fun c1 => ?_)
  · have c1 : x1 < 97 := (i_lt hx1 ⟨by decide, by decide⟩).mp c1
    refine lv_iconst (v := iI 0) hx hb (dk_at dkX12_isLetter_0 8 rfl) (by decide +kernel) ?_
    exact RET 0 _ _ _ _ _ ⟨rfl, (u_r_X12_isLetter (Or.inl ⟨c1, rfl⟩)), by omega⟩ hP hS (dk_at dkX12_isLetter_0 9 rfl)
  · have c1 : ¬ x1 < 97 := mt (i_lt hx1 ⟨by decide, by decide⟩).mpr c1
    refine lv_iload_n hx hb (dk_at dkX12_isLetter_0 3 rfl) rfl (lv_at hl 0 rfl) ?_
    refine lv_bipush (v := iI 122) hx hb (dk_at dkX12_isLetter_0 4 rfl) (by decide +kernel) ?_
    refine lv_icmp_gt (tgt := 16) hx hb (dk_at dkX12_isLetter_0 5 rfl) (by decide) (fun c2 => ?_) (fun c2 => ?_)
    · have c2 : 122 < x1 := (i_lt ⟨by decide, by decide⟩ hx1).mp c2
      refine lv_iconst (v := iI 0) hx hb (dk_at dkX12_isLetter_0 8 rfl) (by decide +kernel) ?_
      exact RET 0 _ _ _ _ _ ⟨rfl, (u_r_X12_isLetter (Or.inr ⟨c1, (Or.inl ⟨c2, rfl⟩)⟩)), by omega⟩ hP hS (dk_at dkX12_isLetter_0 9 rfl)
    · have c2 : ¬ 122 < x1 := mt (i_lt ⟨by decide, by decide⟩ hx1).mpr c2
      refine lv_iconst (v := iI 1) hx hb (dk_at dkX12_isLetter_0 6 rfl) (by decide +kernel) ?_
      refine lv_goto (tgt := 17) hx hb (dk_at dkX12_isLetter_0 7 rfl) (by decide) ?_
      exact RET 1 _ _ _ _ _ ⟨rfl, (u_r_X12_isLetter (Or.inr ⟨c1, (Or.inr ⟨c2, rfl⟩)⟩)), by omega⟩ hP hS (dk_at dkX12_isLetter_0 9 rfl)

abbrev tr_r_X12_isDigit (x1 : Int) (A : St) (z : Int) : Prop := (((x1 < 48) ∧ (z = 0)) ∨ ((¬ x1 < 48) ∧ (((57 < x1) ∧ (z = 0)) ∨ ((¬ 57 < x1) ∧ (z = 1)))))
def r_X12_isDigit (x1 : Int) (A : St) (z : Int) : Prop := tr_r_X12_isDigit x1 A z
theorem u_r_X12_isDigit {x1 : Int} {A : St} {z : Int} (h : tr_r_X12_isDigit x1 A z) : r_X12_isDigit x1 A z := h
def q_X12_isDigit (x1 : Int) (A : St) (z : Int) : Prop := r_X12_isDigit x1 A z ∧ ((0 ≤ z ∧ z ≤ 1) ∧ (z = 1 ↔ 48 ≤ x1 ∧ x1 ≤ 57))
def ws_mc_X12_isDigit : List Cond := .code yX12_isDigit cX12_isDigit 1 (some .boolean) :: WX
set_option maxHeartbeats 4000000 in
set_option maxRecDepth 100000 in
theorem mc_X12_isDigit (l : Launch) (dC : Nat → ClassId) (dI : Nat → Nat → Nat) (cB cI cJ cZ cQ : ClassId) (q : Nat → Nat) (A : St) (x1 : Int) (hI : IM A) (hx1 : (-2147483648 : Int) ≤ x1 ∧ x1 ≤ 2147483647) : XMi l yX12_isDigit ws_mc_X12_isDigit ({ frames := 0, cells := 0, slots := 0, locals := 0 } : Room) (dC, dI) (tyA cB cI cJ cZ cQ) (WM cI cJ cZ q) A [.int (iI x1)] (fun z u => A = u ∧ r_X12_isDigit x1 A z ∧ ((0 ≤ z ∧ z ≤ 1) ∧ (z = 1 ↔ 48 ≤ x1 ∧ x1 ≤ 57))) := by
  refine x_metz (cc := cX12_isDigit) (maxL := 1) WM_adr (by decide +kernel) rfl (Nat.le_of_ble_eq_true rfl) (fun z u h => h.2.2.1) (fun p e s m below meth c Q AS ls hx hb hml hown hts hK hDD hA0 hP hS hl RET => ?_)
  have hown : s.vm.findClass RX12 = some m.cls := hown
  have hl : lv_has ls 1 [(0, .int (iI x1))] := hl
  obtain ⟨H, hHe⟩ : ∃ H : Heap, H = s.heap := ⟨_, rfl⟩
  rw [← hHe] at hP
  have hS : va_S AS s.heap H [] := by rw [hHe]; exact hS
  suffices hgo : ∀ locs : List Loc, va_S AS s.heap H locs → W p l e (headSpec ws_mc_X12_isDigit ({ frames := 0, cells := 0, slots := 0, locals := 0 } : Room)).room s m [.int (iI x1)].toArray below meth c H locs 0 0 Q (F0 m 0 ls []) by
    have := hgo [] hS
    rw [hHe] at this
    exact this
  clear hS hHe
  intro locs hS
  refine lv_iload_n hx hb (dk_at dkX12_isDigit_0 0 rfl) rfl (lv_at hl 0 rfl) ?_
  refine lv_bipush (v := iI 48) hx hb (dk_at dkX12_isDigit_0 1 rfl) (by decide +kernel) ?_
  refine lv_icmp_lt (tgt := 16) hx hb (dk_at dkX12_isDigit_0 2 rfl) (by decide) (fun c1 => ?_) (fun c1 => ?_)
  · have c1 : x1 < 48 := (i_lt hx1 ⟨by decide, by decide⟩).mp c1
    refine lv_iconst (v := iI 0) hx hb (dk_at dkX12_isDigit_0 8 rfl) (by decide +kernel) ?_
    exact RET 0 _ _ _ _ _ ⟨rfl, (u_r_X12_isDigit (Or.inl ⟨c1, rfl⟩)), by omega⟩ hP hS (dk_at dkX12_isDigit_0 9 rfl)
  · have c1 : ¬ x1 < 48 := mt (i_lt hx1 ⟨by decide, by decide⟩).mpr c1
    refine lv_iload_n hx hb (dk_at dkX12_isDigit_0 3 rfl) rfl (lv_at hl 0 rfl) ?_
    refine lv_bipush (v := iI 57) hx hb (dk_at dkX12_isDigit_0 4 rfl) (by decide +kernel) ?_
    refine lv_icmp_gt (tgt := 16) hx hb (dk_at dkX12_isDigit_0 5 rfl) (by decide) (fun c2 => ?_) (fun c2 => ?_)
    · have c2 : 57 < x1 := (i_lt ⟨by decide, by decide⟩ hx1).mp c2
      refine lv_iconst (v := iI 0) hx hb (dk_at dkX12_isDigit_0 8 rfl) (by decide +kernel) ?_
      exact RET 0 _ _ _ _ _ ⟨rfl, (u_r_X12_isDigit (Or.inr ⟨c1, (Or.inl ⟨c2, rfl⟩)⟩)), by omega⟩ hP hS (dk_at dkX12_isDigit_0 9 rfl)
    · have c2 : ¬ 57 < x1 := mt (i_lt ⟨by decide, by decide⟩ hx1).mpr c2
      refine lv_iconst (v := iI 1) hx hb (dk_at dkX12_isDigit_0 6 rfl) (by decide +kernel) ?_
      refine lv_goto (tgt := 17) hx hb (dk_at dkX12_isDigit_0 7 rfl) (by decide) ?_
      exact RET 1 _ _ _ _ _ ⟨rfl, (u_r_X12_isDigit (Or.inr ⟨c1, (Or.inr ⟨c2, rfl⟩)⟩)), by omega⟩ hP hS (dk_at dkX12_isDigit_0 9 rfl)

abbrev tr_r_X12_key4 (x1 : Int) (A : St) (z : Int) : Prop := (z = 4 * (A 0 12) + x1)
def r_X12_key4 (x1 : Int) (A : St) (z : Int) : Prop := tr_r_X12_key4 x1 A z
theorem u_r_X12_key4 {x1 : Int} {A : St} {z : Int} (h : tr_r_X12_key4 x1 A z) : r_X12_key4 x1 A z := h
def q_X12_key4 (x1 : Int) (A : St) (z : Int) : Prop := r_X12_key4 x1 A z ∧ (z = 4 * A 0 12 + x1)
def ws_mc_X12_key4 : List Cond := .code yX12_key4 cX12_key4 2 (some .int) :: WX
set_option maxHeartbeats 4000000 in
set_option maxRecDepth 100000 in
theorem mc_X12_key4 (l : Launch) (dC : Nat → ClassId) (dI : Nat → Nat → Nat) (cB cI cJ cZ cQ : ClassId) (q : Nat → Nat) (A : St) (x1 : Int) (hI : IM A) (hx1 : (0 : Int) ≤ x1 ∧ x1 ≤ 3) : XMi l yX12_key4 ws_mc_X12_key4 ({ frames := 0, cells := 0, slots := 0, locals := 0 } : Room) (dC, dI) (tyA cB cI cJ cZ cQ) (WM cI cJ cZ q) A [.ref (q 0), .int (iI x1)] (fun z u => A = u ∧ r_X12_key4 x1 A z ∧ (z = 4 * A 0 12 + x1)) := by
  refine x_meti (cc := cX12_key4) (maxL := 2) WM_adr (by decide +kernel) rfl (Nat.le_of_ble_eq_true rfl) (fun p e s m below meth c Q AS ls hx hb hml hown hts hK hDD hA0 hP hS hl RET => ?_)
  have hown : s.vm.findClass RX12 = some m.cls := hown
  have hl : lv_has ls 2 [(0, .ref (q 0)), (1, .int (iI x1))] := hl
  have hiX12 : ∀ w ∈ u_ws RX12 TX12 85, w ∈ ws_mc_X12_key4 := fun w h => List.mem_cons_of_mem _ (wx_lay w h)
  obtain ⟨H, hHe⟩ : ∃ H : Heap, H = s.heap := ⟨_, rfl⟩
  rw [← hHe] at hP
  have hS : va_S AS s.heap H [] := by rw [hHe]; exact hS
  suffices hgo : ∀ locs : List Loc, va_S AS s.heap H locs → W p l e (headSpec ws_mc_X12_key4 ({ frames := 0, cells := 0, slots := 0, locals := 0 } : Room)).room s m [.ref (q 0), .int (iI x1)].toArray below meth c H locs 0 0 Q (F0 m 0 ls []) by
    have := hgo [] hS
    rw [hHe] at this
    exact this
  clear hS hHe
  intro locs hS
  refine lv_iconst (v := iI 4) hx hb (dk_at dkX12_key4_0 0 rfl) (by decide +kernel) ?_
  refine lv_aload_n hx hb (dk_at dkX12_key4_0 1 rfl) rfl (lv_at hl 0 rfl) ?_
  refine va_get (D := (dC, dI)) (ci := 12) (v := .int (iI (A 0 12))) (C := RX12) (T := TX12) (N := 85) hx hb hts hiX12 hown hK hP 0 wm0 rfl 12 (by decide) (hts _ (List.mem_cons_of_mem _ wlq_4_14)) (fun _ h9 => h9) rfl (dk_at dkX12_key4_0 2 rfl) ?_
  have r_A_0_12 : (0 : Int) ≤ (A 0 12) ∧ (A 0 12) ≤ 1 := hI 0 12
  refine x_mulv (v := 4 * (A 0 12)) hx hb (dk_at dkX12_key4_0 3 rfl) (by omega) ?_
  refine lv_iload_n hx hb (dk_at dkX12_key4_0 4 rfl) rfl (lv_at hl 1 rfl) ?_
  refine x_addv (v := 4 * (A 0 12) + x1) hx hb (dk_at dkX12_key4_0 5 rfl) (by omega) ?_
  exact RET (4 * (A 0 12) + x1) _ _ _ _ _ ⟨rfl, (u_r_X12_key4 rfl), by omega⟩ hP hS (dk_at dkX12_key4_0 6 rfl)

abbrev tr_r_X12_door10 (x1 : Int) (A : St) (z : Int) : Prop := (z = 10 * (A 0 12) + x1)
def r_X12_door10 (x1 : Int) (A : St) (z : Int) : Prop := tr_r_X12_door10 x1 A z
theorem u_r_X12_door10 {x1 : Int} {A : St} {z : Int} (h : tr_r_X12_door10 x1 A z) : r_X12_door10 x1 A z := h
def q_X12_door10 (x1 : Int) (A : St) (z : Int) : Prop := r_X12_door10 x1 A z ∧ (z = 10 * A 0 12 + x1)
def ws_mc_X12_door10 : List Cond := .code yX12_door10 cX12_door10 2 (some .int) :: WX
set_option maxHeartbeats 4000000 in
set_option maxRecDepth 100000 in
theorem mc_X12_door10 (l : Launch) (dC : Nat → ClassId) (dI : Nat → Nat → Nat) (cB cI cJ cZ cQ : ClassId) (q : Nat → Nat) (A : St) (x1 : Int) (hI : IM A) (hx1 : (0 : Int) ≤ x1 ∧ x1 ≤ 9) : XMi l yX12_door10 ws_mc_X12_door10 ({ frames := 0, cells := 0, slots := 0, locals := 0 } : Room) (dC, dI) (tyA cB cI cJ cZ cQ) (WM cI cJ cZ q) A [.ref (q 0), .int (iI x1)] (fun z u => A = u ∧ r_X12_door10 x1 A z ∧ (z = 10 * A 0 12 + x1)) := by
  refine x_meti (cc := cX12_door10) (maxL := 2) WM_adr (by decide +kernel) rfl (Nat.le_of_ble_eq_true rfl) (fun p e s m below meth c Q AS ls hx hb hml hown hts hK hDD hA0 hP hS hl RET => ?_)
  have hown : s.vm.findClass RX12 = some m.cls := hown
  have hl : lv_has ls 2 [(0, .ref (q 0)), (1, .int (iI x1))] := hl
  have hiX12 : ∀ w ∈ u_ws RX12 TX12 85, w ∈ ws_mc_X12_door10 := fun w h => List.mem_cons_of_mem _ (wx_lay w h)
  obtain ⟨H, hHe⟩ : ∃ H : Heap, H = s.heap := ⟨_, rfl⟩
  rw [← hHe] at hP
  have hS : va_S AS s.heap H [] := by rw [hHe]; exact hS
  suffices hgo : ∀ locs : List Loc, va_S AS s.heap H locs → W p l e (headSpec ws_mc_X12_door10 ({ frames := 0, cells := 0, slots := 0, locals := 0 } : Room)).room s m [.ref (q 0), .int (iI x1)].toArray below meth c H locs 0 0 Q (F0 m 0 ls []) by
    have := hgo [] hS
    rw [hHe] at this
    exact this
  clear hS hHe
  intro locs hS
  refine lv_bipush (v := iI 10) hx hb (dk_at dkX12_door10_0 0 rfl) (by decide +kernel) ?_
  refine lv_aload_n hx hb (dk_at dkX12_door10_0 1 rfl) rfl (lv_at hl 0 rfl) ?_
  refine va_get (D := (dC, dI)) (ci := 12) (v := .int (iI (A 0 12))) (C := RX12) (T := TX12) (N := 85) hx hb hts hiX12 hown hK hP 0 wm0 rfl 12 (by decide) (hts _ (List.mem_cons_of_mem _ wlq_4_14)) (fun _ h9 => h9) rfl (dk_at dkX12_door10_0 2 rfl) ?_
  have r_A_0_12 : (0 : Int) ≤ (A 0 12) ∧ (A 0 12) ≤ 1 := hI 0 12
  refine x_mulv (v := 10 * (A 0 12)) hx hb (dk_at dkX12_door10_0 3 rfl) (by omega) ?_
  refine lv_iload_n hx hb (dk_at dkX12_door10_0 4 rfl) rfl (lv_at hl 1 rfl) ?_
  refine x_addv (v := 10 * (A 0 12) + x1) hx hb (dk_at dkX12_door10_0 5 rfl) (by omega) ?_
  exact RET (10 * (A 0 12) + x1) _ _ _ _ _ ⟨rfl, (u_r_X12_door10 rfl), by omega⟩ hP hS (dk_at dkX12_door10_0 6 rfl)

abbrev tr_r_X12_placeOf (x1 : Int) (A : St) (z : Int) : Prop := (∃ z1 : Int, z1 = A 18 (3 * (A 0 12) + x1).toNat ∧ (z = z1))
def r_X12_placeOf (x1 : Int) (A : St) (z : Int) : Prop := tr_r_X12_placeOf x1 A z
theorem u_r_X12_placeOf {x1 : Int} {A : St} {z : Int} (h : tr_r_X12_placeOf x1 A z) : r_X12_placeOf x1 A z := h
def q_X12_placeOf (x1 : Int) (A : St) (z : Int) : Prop := r_X12_placeOf x1 A z ∧ (0 ≤ z ∧ z ≤ 7)
def ws_mc_X12_placeOf : List Cond := .code yX12_placeOf cX12_placeOf 2 (some .int) :: WX
set_option maxHeartbeats 4000000 in
set_option maxRecDepth 100000 in
theorem mc_X12_placeOf (l : Launch) (dC : Nat → ClassId) (dI : Nat → Nat → Nat) (cB cI cJ cZ cQ : ClassId) (q : Nat → Nat) (A : St) (x1 : Int) (hI : IM A) (hx1 : (0 : Int) ≤ x1 ∧ x1 ≤ 2) : XMi l yX12_placeOf ws_mc_X12_placeOf ({ frames := 0, cells := 0, slots := 0, locals := 0 } : Room) (dC, dI) (tyA cB cI cJ cZ cQ) (WM cI cJ cZ q) A [.ref (q 0), .int (iI x1)] (fun z u => A = u ∧ r_X12_placeOf x1 A z ∧ (0 ≤ z ∧ z ≤ 7)) := by
  refine x_meti (cc := cX12_placeOf) (maxL := 2) WM_adr (by decide +kernel) rfl (Nat.le_of_ble_eq_true rfl) (fun p e s m below meth c Q AS ls hx hb hml hown hts hK hDD hA0 hP hS hl RET => ?_)
  have hown : s.vm.findClass RX12 = some m.cls := hown
  have hl : lv_has ls 2 [(0, .ref (q 0)), (1, .int (iI x1))] := hl
  have hiX12 : ∀ w ∈ u_ws RX12 TX12 85, w ∈ ws_mc_X12_placeOf := fun w h => List.mem_cons_of_mem _ (wx_lay w h)
  obtain ⟨H, hHe⟩ : ∃ H : Heap, H = s.heap := ⟨_, rfl⟩
  rw [← hHe] at hP
  have hS : va_S AS s.heap H [] := by rw [hHe]; exact hS
  suffices hgo : ∀ locs : List Loc, va_S AS s.heap H locs → W p l e (headSpec ws_mc_X12_placeOf ({ frames := 0, cells := 0, slots := 0, locals := 0 } : Room)).room s m [.ref (q 0), .int (iI x1)].toArray below meth c H locs 0 0 Q (F0 m 0 ls []) by
    have := hgo [] hS
    rw [hHe] at this
    exact this
  clear hS hHe
  intro locs hS
  refine lv_aload_n hx hb (dk_at dkX12_placeOf_0 0 rfl) rfl (lv_at hl 0 rfl) ?_
  refine va_get (D := (dC, dI)) (ci := 12) (v := .ref (q 18)) (C := RX12) (T := TX12) (N := 85) hx hb hts hiX12 hown hK hP 0 wm0 rfl 29 (by decide) (hts _ (List.mem_cons_of_mem _ wlq_3_4)) (fun _ h9 => h9) rfl (dk_at dkX12_placeOf_0 1 rfl) ?_
  refine lv_iconst (v := iI 3) hx hb (dk_at dkX12_placeOf_0 2 rfl) (by decide +kernel) ?_
  refine lv_aload_n hx hb (dk_at dkX12_placeOf_0 3 rfl) rfl (lv_at hl 0 rfl) ?_
  refine va_get (D := (dC, dI)) (ci := 12) (v := .int (iI (A 0 12))) (C := RX12) (T := TX12) (N := 85) hx hb hts hiX12 hown hK hP 0 wm0 rfl 12 (by decide) (hts _ (List.mem_cons_of_mem _ wlq_4_14)) (fun _ h9 => h9) rfl (dk_at dkX12_placeOf_0 4 rfl) ?_
  have r_A_0_12 : (0 : Int) ≤ (A 0 12) ∧ (A 0 12) ≤ 1 := hI 0 12
  refine x_mulv (v := 3 * (A 0 12)) hx hb (dk_at dkX12_placeOf_0 5 rfl) (by omega) ?_
  refine lv_iload_n hx hb (dk_at dkX12_placeOf_0 6 rfl) rfl (lv_at hl 1 rfl) ?_
  refine x_addv (v := 3 * (A 0 12) + x1) hx hb (dk_at dkX12_placeOf_0 7 rfl) (by omega) ?_
  refine x_iald hx hb hK hP 18 1 wm18 rfl (by omega) (by decide) (dk_at dkX12_placeOf_0 8 rfl) (fun z1 hz1 => ?_)
  have rz1 : (0 : Int) ≤ z1 ∧ z1 ≤ 7 := by rw [hz1]; exact hI 18 _
  have gz1 := Hd.mk hz1
  have hz1 : z1 = A 18 (3 * (A 0 12) + x1).toNat := hz1
  exact RET z1 _ _ _ _ _ ⟨rfl, (u_r_X12_placeOf ⟨z1, gz1.out, rfl⟩), by omega⟩ hP hS (dk_at dkX12_placeOf_0 9 rfl)

abbrev tr_r_X12_isAt (x1 : Int) (x2 : Int) (A : St) (z : Int) : Prop := (∃ z1 : Int, q_X12_door10 x2 A z1 ∧ (∃ z4 : Int, z4 = A 6 (10 * (A 0 12) + x2).toNat ∧ (((z4 = x1) ∧ (z = 1)) ∨ ((¬ z4 = x1) ∧ (∃ z6 : Int, q_X12_door10 x2 A z6 ∧ (∃ z9 : Int, z9 = A 7 (10 * (A 0 12) + x2).toNat ∧ (((¬ z9 = x1) ∧ (z = 0)) ∨ ((z9 = x1) ∧ (z = 1)))))))))
def r_X12_isAt (x1 : Int) (x2 : Int) (A : St) (z : Int) : Prop := tr_r_X12_isAt x1 x2 A z
theorem u_r_X12_isAt {x1 : Int} {x2 : Int} {A : St} {z : Int} (h : tr_r_X12_isAt x1 x2 A z) : r_X12_isAt x1 x2 A z := h
def q_X12_isAt (x1 : Int) (x2 : Int) (A : St) (z : Int) : Prop := r_X12_isAt x1 x2 A z ∧ (0 ≤ z ∧ z ≤ 1)
def ws_mc_X12_isAt : List Cond := .code yX12_isAt cX12_isAt 3 (some .boolean) :: WX
set_option maxHeartbeats 4000000 in
set_option maxRecDepth 100000 in
theorem mc_X12_isAt (l : Launch) (dC : Nat → ClassId) (dI : Nat → Nat → Nat) (cB cI cJ cZ cQ : ClassId) (q : Nat → Nat) (A : St) (x1 x2 : Int) (hI : IM A) (hx1 : (-2147483648 : Int) ≤ x1 ∧ x1 ≤ 2147483647) (hx2 : (0 : Int) ≤ x2 ∧ x2 ≤ 9) : XMi l yX12_isAt ws_mc_X12_isAt ({ frames := 1, cells := 0, slots := 0, locals := 21 } : Room) (dC, dI) (tyA cB cI cJ cZ cQ) (WM cI cJ cZ q) A [.ref (q 0), .int (iI x1), .int (iI x2)] (fun z u => A = u ∧ r_X12_isAt x1 x2 A z ∧ (0 ≤ z ∧ z ≤ 1)) := by
  refine x_metz (cc := cX12_isAt) (maxL := 3) WM_adr (by decide +kernel) rfl (Nat.le_of_ble_eq_true rfl) (fun z u h => h.2.2) (fun p e s m below meth c Q AS ls hx hb hml hown hts hK hDD hA0 hP hS hl RET => ?_)
  have hown : s.vm.findClass RX12 = some m.cls := hown
  have hl : lv_has ls 3 [(0, .ref (q 0)), (1, .int (iI x1)), (2, .int (iI x2))] := hl
  have hiX12 : ∀ w ∈ u_ws RX12 TX12 85, w ∈ ws_mc_X12_isAt := fun w h => List.mem_cons_of_mem _ (wx_lay w h)
  obtain ⟨H, hHe⟩ : ∃ H : Heap, H = s.heap := ⟨_, rfl⟩
  rw [← hHe] at hP
  have hS : va_S AS s.heap H [] := by rw [hHe]; exact hS
  suffices hgo : ∀ locs : List Loc, va_S AS s.heap H locs → W p l e (headSpec ws_mc_X12_isAt ({ frames := 1, cells := 0, slots := 0, locals := 21 } : Room)).room s m [.ref (q 0), .int (iI x1), .int (iI x2)].toArray below meth c H locs 0 0 Q (F0 m 0 ls []) by
    have := hgo [] hS
    rw [hHe] at this
    exact this
  clear hS hHe
  intro locs hS
  refine lv_aload_n hx hb (dk_at dkX12_isAt_0 0 rfl) rfl (lv_at hl 0 rfl) ?_
  refine va_get (D := (dC, dI)) (ci := 12) (v := .ref (q 6)) (C := RX12) (T := TX12) (N := 85) hx hb hts hiX12 hown hK hP 0 wm0 rfl 17 (by decide) (hts _ (List.mem_cons_of_mem _ wlq_2_39)) (fun _ h9 => h9) rfl (dk_at dkX12_isAt_0 1 rfl) ?_
  refine lv_aload_n hx hb (dk_at dkX12_isAt_0 2 rfl) rfl (lv_at hl 0 rfl) ?_
  refine lv_iload_n hx hb (dk_at dkX12_isAt_0 3 rfl) rfl (lv_at hl 2 rfl) ?_
  have r_A_0_12 : (0 : Int) ≤ (A 0 12) ∧ (A 0 12) ≤ 1 := hI 0 12
  refine x_calli (As := [.int (iI x2)]) (rest := [.ref (q 6)]) ⟨hx, hb, hml, hown, hts⟩ (mc_X12_door10 l dC dI cB cI cJ cZ cQ q _ x2 hI hx2) (cwV 1 hts (goodV wlq_4_49 wlq_4_50 wlq_4_51 wlq_0_8 wlq_4_42) rfl rfl rfl (by decide +kernel) ⟨Nat.le_of_ble_eq_true rfl, Nat.le_of_ble_eq_true rfl⟩) hK hDD hA0 hP hS 0 12 wm0 rfl rfl hl.1 (Nat.le_of_ble_eq_true rfl) (dk_at dkX12_isAt_0 4 rfl) (fun z1 A2 H locs hw3 hP hS => ?_)
  obtain ⟨rfl, hw3⟩ := hw3
  have ghw3 : q_X12_door10 x2 A z1 := hw3
  have hw3 := hw3.2
  refine tp_i (y := iI (10 * (A 0 12) + x2)) (congrArg iI (show z1 = 10 * (A 0 12) + x2 by omega)) ?_
  clear hw3
  refine x_iald hx hb hK hP 6 1 wm6 rfl (by omega) (by decide) (dk_at dkX12_isAt_0 5 rfl) (fun z4 hz4 => ?_)
  have rz4 : (0 : Int) ≤ z4 ∧ z4 ≤ 7 := by rw [hz4]; exact hI 6 _
  have gz4 := Hd.mk hz4
  have hz4 : z4 = A 6 (10 * (A 0 12) + x2).toNat := hz4
  refine lv_iload_n hx hb (dk_at dkX12_isAt_0 6 rfl) rfl (lv_at hl 1 rfl) ?_
  refine lv_icmp_eq (tgt := 28) hx hb (dk_at dkX12_isAt_0 7 rfl) (by decide) (fun c5 => ?_) (fun c5 => ?_)
  · have c5 : z4 = x1 := (i_eq (rb rz4 (by decide) (by decide)) hx1).mp c5
    refine lv_iconst (v := iI 1) hx hb (dk_at dkX12_isAt_1 0 rfl) (by decide +kernel) ?_
    refine lv_goto (tgt := 33) hx hb (dk_at dkX12_isAt_1 1 rfl) (by decide) ?_
    exact RET 1 _ _ _ _ _ ⟨rfl, (u_r_X12_isAt ⟨z1, ghw3, ⟨z4, gz4.out, (Or.inl ⟨c5, rfl⟩)⟩⟩), by omega⟩ hP hS (dk_at dkX12_isAt_1 3 rfl)
  · have c5 : ¬ z4 = x1 := mt (i_eq (rb rz4 (by decide) (by decide)) hx1).mpr c5
    refine lv_aload_n hx hb (dk_at dkX12_isAt_0 8 rfl) rfl (lv_at hl 0 rfl) ?_
    refine va_get (D := (dC, dI)) (ci := 12) (v := .ref (q 7)) (C := RX12) (T := TX12) (N := 85) hx hb hts hiX12 hown hK hP 0 wm0 rfl 18 (by decide) (hts _ (List.mem_cons_of_mem _ wlq_2_40)) (fun _ h9 => h9) rfl (dk_at dkX12_isAt_0 9 rfl) ?_
    refine lv_aload_n hx hb (dk_at dkX12_isAt_0 10 rfl) rfl (lv_at hl 0 rfl) ?_
    refine lv_iload_n hx hb (dk_at dkX12_isAt_0 11 rfl) rfl (lv_at hl 2 rfl) ?_
    refine x_calli (As := [.int (iI x2)]) (rest := [.ref (q 7)]) ⟨hx, hb, hml, hown, hts⟩ (mc_X12_door10 l dC dI cB cI cJ cZ cQ q _ x2 hI hx2) (cwV 1 hts (goodV wlq_4_49 wlq_4_50 wlq_4_51 wlq_0_8 wlq_4_42) rfl rfl rfl (by decide +kernel) ⟨Nat.le_of_ble_eq_true rfl, Nat.le_of_ble_eq_true rfl⟩) hK hDD hA0 hP hS 0 12 wm0 rfl rfl hl.1 (Nat.le_of_ble_eq_true rfl) (dk_at dkX12_isAt_0 12 rfl) (fun z6 A7 H locs hw8 hP hS => ?_)
    obtain ⟨rfl, hw8⟩ := hw8
    have ghw8 : q_X12_door10 x2 A z6 := hw8
    have hw8 := hw8.2
    refine tp_i (y := iI (10 * (A 0 12) + x2)) (congrArg iI (show z6 = 10 * (A 0 12) + x2 by omega)) ?_
    clear hw8
    refine x_iald hx hb hK hP 7 1 wm7 rfl (by omega) (by decide) (dk_at dkX12_isAt_0 13 rfl) (fun z9 hz9 => ?_)
    have rz9 : (0 : Int) ≤ z9 ∧ z9 ≤ 7 := by rw [hz9]; exact hI 7 _
    have gz9 := Hd.mk hz9
    have hz9 : z9 = A 7 (10 * (A 0 12) + x2).toNat := hz9
    refine lv_iload_n hx hb (dk_at dkX12_isAt_0 14 rfl) rfl (lv_at hl 1 rfl) ?_
    refine lv_icmp_ne (tgt := 32) hx hb (dk_at dkX12_isAt_0 15 rfl) (by decide) (fun c10 => ?_) (fun c10 => ?_)
    · have c10 : ¬ z9 = x1 := mt (i_eq (rb rz9 (by decide) (by decide)) hx1).mpr c10
      refine lv_iconst (v := iI 0) hx hb (dk_at dkX12_isAt_1 2 rfl) (by decide +kernel) ?_
      exact RET 0 _ _ _ _ _ ⟨rfl, (u_r_X12_isAt ⟨z1, ghw3, ⟨z4, gz4.out, (Or.inr ⟨c5, ⟨z6, ghw8, ⟨z9, gz9.out, (Or.inl ⟨c10, rfl⟩)⟩⟩⟩)⟩⟩), by omega⟩ hP hS (dk_at dkX12_isAt_1 3 rfl)
    · have c10 : z9 = x1 := (i_eq (rb rz9 (by decide) (by decide)) hx1).mp c10
      refine lv_iconst (v := iI 1) hx hb (dk_at dkX12_isAt_1 0 rfl) (by decide +kernel) ?_
      refine lv_goto (tgt := 33) hx hb (dk_at dkX12_isAt_1 1 rfl) (by decide) ?_
      exact RET 1 _ _ _ _ _ ⟨rfl, (u_r_X12_isAt ⟨z1, ghw3, ⟨z4, gz4.out, (Or.inr ⟨c5, ⟨z6, ghw8, ⟨z9, gz9.out, (Or.inr ⟨c10, rfl⟩)⟩⟩⟩)⟩⟩), by omega⟩ hP hS (dk_at dkX12_isAt_1 3 rfl)

abbrev tr_r_X12_otherSide (x1 : Int) (x2 : Int) (A : St) (z : Int) : Prop := (∃ z1 : Int, q_X12_door10 x1 A z1 ∧ (∃ z4 : Int, z4 = A 6 (10 * (A 0 12) + x1).toNat ∧ (((¬ z4 = x2) ∧ (∃ z6 : Int, q_X12_door10 x1 A z6 ∧ (∃ z9 : Int, z9 = A 6 (10 * (A 0 12) + x1).toNat ∧ (z = z9)))) ∨ ((z4 = x2) ∧ (∃ z10 : Int, q_X12_door10 x1 A z10 ∧ (∃ z13 : Int, z13 = A 7 (10 * (A 0 12) + x1).toNat ∧ (z = z13)))))))
def r_X12_otherSide (x1 : Int) (x2 : Int) (A : St) (z : Int) : Prop := tr_r_X12_otherSide x1 x2 A z
theorem u_r_X12_otherSide {x1 : Int} {x2 : Int} {A : St} {z : Int} (h : tr_r_X12_otherSide x1 x2 A z) : r_X12_otherSide x1 x2 A z := h
def q_X12_otherSide (x1 : Int) (x2 : Int) (A : St) (z : Int) : Prop := r_X12_otherSide x1 x2 A z ∧ (0 ≤ z ∧ z ≤ 7)
def ws_mc_X12_otherSide : List Cond := .code yX12_otherSide cX12_otherSide 3 (some .int) :: WX
set_option maxHeartbeats 4000000 in
set_option maxRecDepth 100000 in
theorem mc_X12_otherSide (l : Launch) (dC : Nat → ClassId) (dI : Nat → Nat → Nat) (cB cI cJ cZ cQ : ClassId) (q : Nat → Nat) (A : St) (x1 x2 : Int) (hI : IM A) (hx1 : (0 : Int) ≤ x1 ∧ x1 ≤ 9) (hx2 : (-2147483648 : Int) ≤ x2 ∧ x2 ≤ 2147483647) : XMi l yX12_otherSide ws_mc_X12_otherSide ({ frames := 1, cells := 0, slots := 0, locals := 21 } : Room) (dC, dI) (tyA cB cI cJ cZ cQ) (WM cI cJ cZ q) A [.ref (q 0), .int (iI x1), .int (iI x2)] (fun z u => A = u ∧ r_X12_otherSide x1 x2 A z ∧ (0 ≤ z ∧ z ≤ 7)) := by
  refine x_meti (cc := cX12_otherSide) (maxL := 3) WM_adr (by decide +kernel) rfl (Nat.le_of_ble_eq_true rfl) (fun p e s m below meth c Q AS ls hx hb hml hown hts hK hDD hA0 hP hS hl RET => ?_)
  have hown : s.vm.findClass RX12 = some m.cls := hown
  have hl : lv_has ls 3 [(0, .ref (q 0)), (1, .int (iI x1)), (2, .int (iI x2))] := hl
  have hiX12 : ∀ w ∈ u_ws RX12 TX12 85, w ∈ ws_mc_X12_otherSide := fun w h => List.mem_cons_of_mem _ (wx_lay w h)
  obtain ⟨H, hHe⟩ : ∃ H : Heap, H = s.heap := ⟨_, rfl⟩
  rw [← hHe] at hP
  have hS : va_S AS s.heap H [] := by rw [hHe]; exact hS
  suffices hgo : ∀ locs : List Loc, va_S AS s.heap H locs → W p l e (headSpec ws_mc_X12_otherSide ({ frames := 1, cells := 0, slots := 0, locals := 21 } : Room)).room s m [.ref (q 0), .int (iI x1), .int (iI x2)].toArray below meth c H locs 0 0 Q (F0 m 0 ls []) by
    have := hgo [] hS
    rw [hHe] at this
    exact this
  clear hS hHe
  intro locs hS
  refine lv_aload_n hx hb (dk_at dkX12_otherSide_0 0 rfl) rfl (lv_at hl 0 rfl) ?_
  refine va_get (D := (dC, dI)) (ci := 12) (v := .ref (q 6)) (C := RX12) (T := TX12) (N := 85) hx hb hts hiX12 hown hK hP 0 wm0 rfl 17 (by decide) (hts _ (List.mem_cons_of_mem _ wlq_2_39)) (fun _ h9 => h9) rfl (dk_at dkX12_otherSide_0 1 rfl) ?_
  refine lv_aload_n hx hb (dk_at dkX12_otherSide_0 2 rfl) rfl (lv_at hl 0 rfl) ?_
  refine lv_iload_n hx hb (dk_at dkX12_otherSide_0 3 rfl) rfl (lv_at hl 1 rfl) ?_
  have r_A_0_12 : (0 : Int) ≤ (A 0 12) ∧ (A 0 12) ≤ 1 := hI 0 12
  refine x_calli (As := [.int (iI x1)]) (rest := [.ref (q 6)]) ⟨hx, hb, hml, hown, hts⟩ (mc_X12_door10 l dC dI cB cI cJ cZ cQ q _ x1 hI hx1) (cwV 1 hts (goodV wlq_4_49 wlq_4_50 wlq_4_51 wlq_0_8 wlq_4_42) rfl rfl rfl (by decide +kernel) ⟨Nat.le_of_ble_eq_true rfl, Nat.le_of_ble_eq_true rfl⟩) hK hDD hA0 hP hS 0 12 wm0 rfl rfl hl.1 (Nat.le_of_ble_eq_true rfl) (dk_at dkX12_otherSide_0 4 rfl) (fun z1 A2 H locs hw3 hP hS => ?_)
  obtain ⟨rfl, hw3⟩ := hw3
  have ghw3 : q_X12_door10 x1 A z1 := hw3
  have hw3 := hw3.2
  refine tp_i (y := iI (10 * (A 0 12) + x1)) (congrArg iI (show z1 = 10 * (A 0 12) + x1 by omega)) ?_
  clear hw3
  refine x_iald hx hb hK hP 6 1 wm6 rfl (by omega) (by decide) (dk_at dkX12_otherSide_0 5 rfl) (fun z4 hz4 => ?_)
  have rz4 : (0 : Int) ≤ z4 ∧ z4 ≤ 7 := by rw [hz4]; exact hI 6 _
  have gz4 := Hd.mk hz4
  have hz4 : z4 = A 6 (10 * (A 0 12) + x1).toNat := hz4
  refine lv_iload_n hx hb (dk_at dkX12_otherSide_0 6 rfl) rfl (lv_at hl 2 rfl) ?_
  refine lv_icmp_ne (tgt := 27) hx hb (dk_at dkX12_otherSide_0 7 rfl) (by decide) (fun c5 => ?_) (fun c5 => ?_)
  · have c5 : ¬ z4 = x2 := mt (i_eq (rb rz4 (by decide) (by decide)) hx2).mpr c5
    refine lv_aload_n hx hb (dk_at dkX12_otherSide_0 15 rfl) rfl (lv_at hl 0 rfl) ?_
    refine va_get (D := (dC, dI)) (ci := 12) (v := .ref (q 6)) (C := RX12) (T := TX12) (N := 85) hx hb hts hiX12 hown hK hP 0 wm0 rfl 17 (by decide) (hts _ (List.mem_cons_of_mem _ wlq_2_39)) (fun _ h9 => h9) rfl (dk_at dkX12_otherSide_1 0 rfl) ?_
    refine lv_aload_n hx hb (dk_at dkX12_otherSide_1 1 rfl) rfl (lv_at hl 0 rfl) ?_
    refine lv_iload_n hx hb (dk_at dkX12_otherSide_1 2 rfl) rfl (lv_at hl 1 rfl) ?_
    refine x_calli (As := [.int (iI x1)]) (rest := [.ref (q 6)]) ⟨hx, hb, hml, hown, hts⟩ (mc_X12_door10 l dC dI cB cI cJ cZ cQ q _ x1 hI hx1) (cwV 1 hts (goodV wlq_4_49 wlq_4_50 wlq_4_51 wlq_0_8 wlq_4_42) rfl rfl rfl (by decide +kernel) ⟨Nat.le_of_ble_eq_true rfl, Nat.le_of_ble_eq_true rfl⟩) hK hDD hA0 hP hS 0 12 wm0 rfl rfl hl.1 (Nat.le_of_ble_eq_true rfl) (dk_at dkX12_otherSide_1 3 rfl) (fun z6 A7 H locs hw8 hP hS => ?_)
    obtain ⟨rfl, hw8⟩ := hw8
    have ghw8 : q_X12_door10 x1 A z6 := hw8
    have hw8 := hw8.2
    refine tp_i (y := iI (10 * (A 0 12) + x1)) (congrArg iI (show z6 = 10 * (A 0 12) + x1 by omega)) ?_
    clear hw8
    refine x_iald hx hb hK hP 6 1 wm6 rfl (by omega) (by decide) (dk_at dkX12_otherSide_1 4 rfl) (fun z9 hz9 => ?_)
    have rz9 : (0 : Int) ≤ z9 ∧ z9 ≤ 7 := by rw [hz9]; exact hI 6 _
    have gz9 := Hd.mk hz9
    have hz9 : z9 = A 6 (10 * (A 0 12) + x1).toNat := hz9
    have ez9 : z9 = z4 := hz9.trans hz4.symm
    exact RET z9 _ _ _ _ _ ⟨rfl, (u_r_X12_otherSide ⟨z1, ghw3, ⟨z4, gz4.out, (Or.inl ⟨c5, ⟨z6, ghw8, ⟨z9, gz9.out, rfl⟩⟩⟩)⟩⟩), by omega⟩ hP hS (dk_at dkX12_otherSide_1 5 rfl)
  · have c5 : z4 = x2 := (i_eq (rb rz4 (by decide) (by decide)) hx2).mp c5
    refine lv_aload_n hx hb (dk_at dkX12_otherSide_0 8 rfl) rfl (lv_at hl 0 rfl) ?_
    refine va_get (D := (dC, dI)) (ci := 12) (v := .ref (q 7)) (C := RX12) (T := TX12) (N := 85) hx hb hts hiX12 hown hK hP 0 wm0 rfl 18 (by decide) (hts _ (List.mem_cons_of_mem _ wlq_2_40)) (fun _ h9 => h9) rfl (dk_at dkX12_otherSide_0 9 rfl) ?_
    refine lv_aload_n hx hb (dk_at dkX12_otherSide_0 10 rfl) rfl (lv_at hl 0 rfl) ?_
    refine lv_iload_n hx hb (dk_at dkX12_otherSide_0 11 rfl) rfl (lv_at hl 1 rfl) ?_
    refine x_calli (As := [.int (iI x1)]) (rest := [.ref (q 7)]) ⟨hx, hb, hml, hown, hts⟩ (mc_X12_door10 l dC dI cB cI cJ cZ cQ q _ x1 hI hx1) (cwV 1 hts (goodV wlq_4_49 wlq_4_50 wlq_4_51 wlq_0_8 wlq_4_42) rfl rfl rfl (by decide +kernel) ⟨Nat.le_of_ble_eq_true rfl, Nat.le_of_ble_eq_true rfl⟩) hK hDD hA0 hP hS 0 12 wm0 rfl rfl hl.1 (Nat.le_of_ble_eq_true rfl) (dk_at dkX12_otherSide_0 12 rfl) (fun z10 A11 H locs hw12 hP hS => ?_)
    obtain ⟨rfl, hw12⟩ := hw12
    have ghw12 : q_X12_door10 x1 A z10 := hw12
    have hw12 := hw12.2
    refine tp_i (y := iI (10 * (A 0 12) + x1)) (congrArg iI (show z10 = 10 * (A 0 12) + x1 by omega)) ?_
    clear hw12
    refine x_iald hx hb hK hP 7 1 wm7 rfl (by omega) (by decide) (dk_at dkX12_otherSide_0 13 rfl) (fun z13 hz13 => ?_)
    have rz13 : (0 : Int) ≤ z13 ∧ z13 ≤ 7 := by rw [hz13]; exact hI 7 _
    have gz13 := Hd.mk hz13
    have hz13 : z13 = A 7 (10 * (A 0 12) + x1).toNat := hz13
    refine lv_goto (tgt := 37) hx hb (dk_at dkX12_otherSide_0 14 rfl) (by decide) ?_
    exact RET z13 _ _ _ _ _ ⟨rfl, (u_r_X12_otherSide ⟨z1, ghw3, ⟨z4, gz4.out, (Or.inr ⟨c5, ⟨z10, ghw12, ⟨z13, gz13.out, rfl⟩⟩⟩)⟩⟩), by omega⟩ hP hS (dk_at dkX12_otherSide_1 5 rfl)

abbrev tr_r_X12_fault (x1 : Int) (A : St) (z : Int) : Prop := (((¬ x1 = 0) ∧ (((¬ x1 = 1) ∧ (z = (-1))) ∨ ((x1 = 1) ∧ (z = (A 0 11))))) ∨ ((x1 = 0) ∧ (z = (A 0 10))))
def r_X12_fault (x1 : Int) (A : St) (z : Int) : Prop := tr_r_X12_fault x1 A z
theorem u_r_X12_fault {x1 : Int} {A : St} {z : Int} (h : tr_r_X12_fault x1 A z) : r_X12_fault x1 A z := h
def ws_mc_X12_fault : List Cond := .code yX12_fault cX12_fault 2 (some .int) :: WX
set_option maxHeartbeats 4000000 in
set_option maxRecDepth 100000 in
theorem mc_X12_fault (l : Launch) (dC : Nat → ClassId) (dI : Nat → Nat → Nat) (cB cI cJ cZ cQ : ClassId) (q : Nat → Nat) (A : St) (x1 : Int) (hI : IM A) (hx1 : (-2147483648 : Int) ≤ x1 ∧ x1 ≤ 2147483647) : XMi l yX12_fault ws_mc_X12_fault ({ frames := 0, cells := 0, slots := 0, locals := 0 } : Room) (dC, dI) (tyA cB cI cJ cZ cQ) (WM cI cJ cZ q) A [.ref (q 0), .int (iI x1)] (fun z u => A = u ∧ r_X12_fault x1 A z ∧ (-2147483648 ≤ z ∧ z ≤ 2147483647)) := by
  refine x_meti (cc := cX12_fault) (maxL := 2) WM_adr (by decide +kernel) rfl (Nat.le_of_ble_eq_true rfl) (fun p e s m below meth c Q AS ls hx hb hml hown hts hK hDD hA0 hP hS hl RET => ?_)
  have hown : s.vm.findClass RX12 = some m.cls := hown
  have hl : lv_has ls 2 [(0, .ref (q 0)), (1, .int (iI x1))] := hl
  have hiX12 : ∀ w ∈ u_ws RX12 TX12 85, w ∈ ws_mc_X12_fault := fun w h => List.mem_cons_of_mem _ (wx_lay w h)
  obtain ⟨H, hHe⟩ : ∃ H : Heap, H = s.heap := ⟨_, rfl⟩
  rw [← hHe] at hP
  have hS : va_S AS s.heap H [] := by rw [hHe]; exact hS
  suffices hgo : ∀ locs : List Loc, va_S AS s.heap H locs → W p l e (headSpec ws_mc_X12_fault ({ frames := 0, cells := 0, slots := 0, locals := 0 } : Room)).room s m [.ref (q 0), .int (iI x1)].toArray below meth c H locs 0 0 Q (F0 m 0 ls []) by
    have := hgo [] hS
    rw [hHe] at this
    exact this
  clear hS hHe
  intro locs hS
  refine lv_iload_n hx hb (dk_at dkX12_fault_0 0 rfl) rfl (lv_at hl 1 rfl) ?_
  refine lv_if_ne (tgt := 11) hx hb (dk_at dkX12_fault_0 1 rfl) (by decide) (fun c1 => ?_) (fun c1 => ?_)
  · have c1 : ¬ x1 = 0 := mt (i_eq0 hx1).mpr c1
    refine lv_iload_n hx hb (dk_at dkX12_fault_0 5 rfl) rfl (lv_at hl 1 rfl) ?_
    refine lv_iconst (v := iI 1) hx hb (dk_at dkX12_fault_0 6 rfl) (by decide +kernel) ?_
    refine lv_icmp_ne (tgt := 23) hx hb (dk_at dkX12_fault_0 7 rfl) (by decide) (fun c2 => ?_) (fun c2 => ?_)
    · have c2 : ¬ x1 = 1 := mt (i_eq hx1 ⟨by decide, by decide⟩).mpr c2
      refine lv_iconst (v := iI (-1)) hx hb (dk_at dkX12_fault_0 11 rfl) (by decide +kernel) ?_
      exact RET (-1) _ _ _ _ _ ⟨rfl, (u_r_X12_fault (Or.inl ⟨c1, (Or.inl ⟨c2, rfl⟩)⟩)), by omega⟩ hP hS (dk_at dkX12_fault_0 12 rfl)
    · have c2 : x1 = 1 := (i_eq hx1 ⟨by decide, by decide⟩).mp c2
      refine lv_aload_n hx hb (dk_at dkX12_fault_0 8 rfl) rfl (lv_at hl 0 rfl) ?_
      refine va_get (D := (dC, dI)) (ci := 12) (v := .int (iI (A 0 11))) (C := RX12) (T := TX12) (N := 85) hx hb hts hiX12 hown hK hP 0 wm0 rfl 11 (by decide) (hts _ (List.mem_cons_of_mem _ wlq_4_16)) (fun _ h9 => h9) rfl (dk_at dkX12_fault_0 9 rfl) ?_
      have r_A_0_11 : (-1 : Int) ≤ (A 0 11) ∧ (A 0 11) ≤ 1600 := hI 0 11
      refine lv_goto (tgt := 24) hx hb (dk_at dkX12_fault_0 10 rfl) (by decide) ?_
      exact RET (A 0 11) _ _ _ _ _ ⟨rfl, (u_r_X12_fault (Or.inl ⟨c1, (Or.inr ⟨c2, rfl⟩)⟩)), by omega⟩ hP hS (dk_at dkX12_fault_0 12 rfl)
  · have c1 : x1 = 0 := (i_eq0 hx1).mp c1
    refine lv_aload_n hx hb (dk_at dkX12_fault_0 2 rfl) rfl (lv_at hl 0 rfl) ?_
    refine va_get (D := (dC, dI)) (ci := 12) (v := .int (iI (A 0 10))) (C := RX12) (T := TX12) (N := 85) hx hb hts hiX12 hown hK hP 0 wm0 rfl 10 (by decide) (hts _ (List.mem_cons_of_mem _ wlq_4_15)) (fun _ h9 => h9) rfl (dk_at dkX12_fault_0 3 rfl) ?_
    have r_A_0_10 : (0 : Int) ≤ (A 0 10) ∧ (A 0 10) ≤ 5 := hI 0 10
    refine lv_goto (tgt := 24) hx hb (dk_at dkX12_fault_0 4 rfl) (by decide) ?_
    exact RET (A 0 10) _ _ _ _ _ ⟨rfl, (u_r_X12_fault (Or.inr ⟨c1, rfl⟩)), by omega⟩ hP hS (dk_at dkX12_fault_0 12 rfl)

abbrev tr_r_X12_status (x1 : Int) (A : St) (z : Int) : Prop := (∃ z1 : Int, q_X12_is x1 0 5 A z1 ∧ (((z1 = 0) ∧ (z = (-1))) ∨ ((¬ z1 = 0) ∧ (∃ z5 : Int, z5 = A 41 (x1).toNat ∧ (z = z5)))))
def r_X12_status (x1 : Int) (A : St) (z : Int) : Prop := tr_r_X12_status x1 A z
theorem u_r_X12_status {x1 : Int} {A : St} {z : Int} (h : tr_r_X12_status x1 A z) : r_X12_status x1 A z := h
def ws_mc_X12_status : List Cond := .code yX12_status cX12_status 2 (some .int) :: WX
set_option maxHeartbeats 4000000 in
set_option maxRecDepth 100000 in
theorem mc_X12_status (l : Launch) (dC : Nat → ClassId) (dI : Nat → Nat → Nat) (cB cI cJ cZ cQ : ClassId) (q : Nat → Nat) (A : St) (x1 : Int) (hI : IM A) (hx1 : (-2147483648 : Int) ≤ x1 ∧ x1 ≤ 2147483647) : XMi l yX12_status ws_mc_X12_status ({ frames := 1, cells := 0, slots := 0, locals := 22 } : Room) (dC, dI) (tyA cB cI cJ cZ cQ) (WM cI cJ cZ q) A [.ref (q 0), .int (iI x1)] (fun z u => A = u ∧ r_X12_status x1 A z ∧ (-2147483648 ≤ z ∧ z ≤ 2147483647)) := by
  refine x_meti (cc := cX12_status) (maxL := 2) WM_adr (by decide +kernel) rfl (Nat.le_of_ble_eq_true rfl) (fun p e s m below meth c Q AS ls hx hb hml hown hts hK hDD hA0 hP hS hl RET => ?_)
  have hown : s.vm.findClass RX12 = some m.cls := hown
  have hl : lv_has ls 2 [(0, .ref (q 0)), (1, .int (iI x1))] := hl
  have hiX12 : ∀ w ∈ u_ws RX12 TX12 85, w ∈ ws_mc_X12_status := fun w h => List.mem_cons_of_mem _ (wx_lay w h)
  obtain ⟨H, hHe⟩ : ∃ H : Heap, H = s.heap := ⟨_, rfl⟩
  rw [← hHe] at hP
  have hS : va_S AS s.heap H [] := by rw [hHe]; exact hS
  suffices hgo : ∀ locs : List Loc, va_S AS s.heap H locs → W p l e (headSpec ws_mc_X12_status ({ frames := 1, cells := 0, slots := 0, locals := 22 } : Room)).room s m [.ref (q 0), .int (iI x1)].toArray below meth c H locs 0 0 Q (F0 m 0 ls []) by
    have := hgo [] hS
    rw [hHe] at this
    exact this
  clear hS hHe
  intro locs hS
  refine lv_iload_n hx hb (dk_at dkX12_status_0 0 rfl) rfl (lv_at hl 1 rfl) ?_
  refine lv_iconst (v := iI 0) hx hb (dk_at dkX12_status_0 1 rfl) (by decide +kernel) ?_
  refine lv_iconst (v := iI 5) hx hb (dk_at dkX12_status_0 2 rfl) (by decide +kernel) ?_
  refine x_callSi (As := [.int (iI x1), .int (iI 0), .int (iI 5)]) (rest := []) ⟨hx, hb, hml, hown, hts⟩ (mc_X12_is l dC dI cB cI cJ cZ cQ q _ x1 0 5 hI hx1 ⟨by decide, by decide⟩ ⟨by decide, by decide⟩) (va_cwS 3 hts (goodS wlq_1_27 wlq_1_28 wlq_0_8 wlq_0_0) rfl rfl rfl (by decide +kernel) ⟨Nat.le_of_ble_eq_true rfl, Nat.le_of_ble_eq_true rfl⟩) hK hDD hA0 hP hS rfl hl.1 (Nat.le_of_ble_eq_true rfl) (dk_at dkX12_status_0 3 rfl) (fun z1 A2 H locs hw3 hP hS => ?_)
  obtain ⟨rfl, hw3⟩ := hw3
  have ghw3 : q_X12_is x1 0 5 A z1 := hw3
  have hw3 := hw3.2
  have rz1 : 0 ≤ z1 ∧ z1 ≤ 1 := hw3.1
  refine lv_if_eq (tgt := 18) hx hb (dk_at dkX12_status_0 4 rfl) (by decide) (fun c4 => ?_) (fun c4 => ?_)
  · have c4 : z1 = 0 := (i_eq0 (rb rz1 (by decide) (by decide))).mp c4
    have hw3b := mt hw3.2.mpr (by omega)
    clear hw3
    refine lv_iconst (v := iI (-1)) hx hb (dk_at dkX12_status_0 10 rfl) (by decide +kernel) ?_
    exact RET (-1) _ _ _ _ _ ⟨rfl, (u_r_X12_status ⟨z1, ghw3, (Or.inl ⟨c4, rfl⟩)⟩), by omega⟩ hP hS (dk_at dkX12_status_0 11 rfl)
  · have c4 : ¬ z1 = 0 := mt (i_eq0 (rb rz1 (by decide) (by decide))).mpr c4
    have hw3b := hw3.2.mp (by omega)
    clear hw3
    refine lv_aload_n hx hb (dk_at dkX12_status_0 5 rfl) rfl (lv_at hl 0 rfl) ?_
    refine va_get (D := (dC, dI)) (ci := 12) (v := .ref (q 41)) (C := RX12) (T := TX12) (N := 85) hx hb hts hiX12 hown hK hP 0 wm0 rfl 58 (by decide) (hts _ (List.mem_cons_of_mem _ wlq_0_10)) (fun _ h9 => h9) rfl (dk_at dkX12_status_0 6 rfl) ?_
    refine lv_iload_n hx hb (dk_at dkX12_status_0 7 rfl) rfl (lv_at hl 1 rfl) ?_
    refine x_iald hx hb hK hP 41 1 wm41 rfl (by omega) (by decide) (dk_at dkX12_status_0 8 rfl) (fun z5 hz5 => ?_)
    have rz5 : (-2147483648 : Int) ≤ z5 ∧ z5 ≤ 2147483647 := by rw [hz5]; exact hI 41 _
    have gz5 := Hd.mk hz5
    have hz5 : z5 = A 41 (x1).toNat := hz5
    refine lv_goto (tgt := 19) hx hb (dk_at dkX12_status_0 9 rfl) (by decide) ?_
    exact RET z5 _ _ _ _ _ ⟨rfl, (u_r_X12_status ⟨z1, ghw3, (Or.inr ⟨c4, ⟨z5, gz5.out, rfl⟩⟩)⟩), by omega⟩ hP hS (dk_at dkX12_status_0 11 rfl)

abbrev tr_r_X12_bounded (x1 : Int) (A : St) (z : Int) : Prop := (∃ z1 : Int, ((-1 ≤ z1 ∧ z1 ≤ 1) ∧ (z1 = 0 ↔ x1 = 1000000) ∧ (z1 < 0 ↔ x1 < 1000000)) ∧ (((z1 ≤ 0) ∧ (∃ z3 : Int, ((-1 ≤ z3 ∧ z3 ≤ 1) ∧ (z3 = 0 ↔ x1 = (-1000000)) ∧ (z3 < 0 ↔ x1 < (-1000000))) ∧ (((0 ≤ z3) ∧ (z = x1)) ∨ ((¬ 0 ≤ z3) ∧ (z = (-1000000)))))) ∨ ((¬ z1 ≤ 0) ∧ (z = 1000000))))
def r_X12_bounded (x1 : Int) (A : St) (z : Int) : Prop := tr_r_X12_bounded x1 A z
theorem u_r_X12_bounded {x1 : Int} {A : St} {z : Int} (h : tr_r_X12_bounded x1 A z) : r_X12_bounded x1 A z := h
def q_X12_bounded (x1 : Int) (A : St) (z : Int) : Prop := r_X12_bounded x1 A z ∧ (-9223372036854775808 ≤ z ∧ z ≤ 9223372036854775807)
def ws_mc_X12_bounded : List Cond := .code yX12_bounded cX12_bounded 2 (some .long) :: WX
set_option maxHeartbeats 4000000 in
set_option maxRecDepth 100000 in
theorem mc_X12_bounded (l : Launch) (dC : Nat → ClassId) (dI : Nat → Nat → Nat) (cB cI cJ cZ cQ : ClassId) (q : Nat → Nat) (A : St) (x1 : Int) (hI : IM A) (hx1 : (-9223372036854775808 : Int) ≤ x1 ∧ x1 ≤ 9223372036854775807) : XMl l yX12_bounded ws_mc_X12_bounded ({ frames := 0, cells := 0, slots := 0, locals := 0 } : Room) (dC, dI) (tyA cB cI cJ cZ cQ) (WM cI cJ cZ q) A [.long (jI x1)] (fun z u => A = u ∧ r_X12_bounded x1 A z ∧ (-9223372036854775808 ≤ z ∧ z ≤ 9223372036854775807)) := by
  refine x_metl (cc := cX12_bounded) (maxL := 2) WM_adr (by decide +kernel) rfl (Nat.le_of_ble_eq_true rfl) (fun p e s m below meth c Q AS ls hx hb hml hown hts hK hDD hA0 hP hS hl RET => ?_)
  have hown : s.vm.findClass RX12 = some m.cls := hown
  have hl : lv_has ls 2 [(0, .long (jI x1))] := hl
  obtain ⟨H, hHe⟩ : ∃ H : Heap, H = s.heap := ⟨_, rfl⟩
  rw [← hHe] at hP
  have hS : va_S AS s.heap H [] := by rw [hHe]; exact hS
  suffices hgo : ∀ locs : List Loc, va_S AS s.heap H locs → W p l e (headSpec ws_mc_X12_bounded ({ frames := 0, cells := 0, slots := 0, locals := 0 } : Room)).room s m [.long (jI x1)].toArray below meth c H locs 0 0 Q (F0 m 0 ls []) by
    have := hgo [] hS
    rw [hHe] at this
    exact this
  clear hS hHe
  intro locs hS
  refine lv_lload_n hx hb (dk_at dkX12_bounded_0 0 rfl) rfl (lv_at hl 0 rfl) ?_
  refine lv_ldc2 (v := 1000000) hx hb hown (hts _ (List.mem_cons_of_mem _ wlq_4_24)) (dk_at dkX12_bounded_0 1 rfl) ?_
  refine tp_l (y := jI 1000000) (by decide +kernel) ?_
  refine x_lcmp hx hb (dk_at dkX12_bounded_0 2 rfl) (by omega) (by omega) (fun z1 hz1 hz1b hz1c => ?_)
  have gz1 := Hd.mk (And.intro hz1 (And.intro hz1b hz1c))
  refine lv_if_le (tgt := 14) hx hb (dk_at dkX12_bounded_0 3 rfl) (by decide) (fun c2 => ?_) (fun c2 => ?_)
  · have c2 : z1 ≤ 0 := (i_le0 (by omega)).mp c2
    refine lv_lload_n hx hb (dk_at dkX12_bounded_0 6 rfl) rfl (lv_at hl 0 rfl) ?_
    refine lv_ldc2 (v := (-1000000)) hx hb hown (hts _ (List.mem_cons_of_mem _ wlq_4_25)) (dk_at dkX12_bounded_0 7 rfl) ?_
    refine tp_l (y := jI (-1000000)) (by decide +kernel) ?_
    refine x_lcmp hx hb (dk_at dkX12_bounded_0 8 rfl) (by omega) (by omega) (fun z3 hz3 hz3b hz3c => ?_)
    have gz3 := Hd.mk (And.intro hz3 (And.intro hz3b hz3c))
    refine lv_if_ge (tgt := 28) hx hb (dk_at dkX12_bounded_0 9 rfl) (by decide) (fun c4 => ?_) (fun c4 => ?_)
    · have c4 : 0 ≤ z3 := (i_0le (by omega)).mp c4
      refine lv_lload_n hx hb (dk_at dkX12_bounded_0 12 rfl) rfl (lv_at hl 0 rfl) ?_
      exact RET x1 _ _ _ _ _ ⟨rfl, (u_r_X12_bounded ⟨z1, gz1.out, (Or.inl ⟨c2, ⟨z3, gz3.out, (Or.inl ⟨c4, rfl⟩)⟩⟩)⟩), by omega⟩ hP hS (dk_at dkX12_bounded_0 13 rfl)
    · have c4 : ¬ 0 ≤ z3 := mt (i_0le (by omega)).mpr c4
      refine lv_ldc2 (v := (-1000000)) hx hb hown (hts _ (List.mem_cons_of_mem _ wlq_4_25)) (dk_at dkX12_bounded_0 10 rfl) ?_
      refine tp_l (y := jI (-1000000)) (by decide +kernel) ?_
      refine lv_goto (tgt := 29) hx hb (dk_at dkX12_bounded_0 11 rfl) (by decide) ?_
      exact RET (-1000000) _ _ _ _ _ ⟨rfl, (u_r_X12_bounded ⟨z1, gz1.out, (Or.inl ⟨c2, ⟨z3, gz3.out, (Or.inr ⟨c4, rfl⟩)⟩⟩)⟩), by omega⟩ hP hS (dk_at dkX12_bounded_0 13 rfl)
  · have c2 : ¬ z1 ≤ 0 := mt (i_le0 (by omega)).mpr c2
    refine lv_ldc2 (v := 1000000) hx hb hown (hts _ (List.mem_cons_of_mem _ wlq_4_24)) (dk_at dkX12_bounded_0 4 rfl) ?_
    refine tp_l (y := jI 1000000) (by decide +kernel) ?_
    refine lv_goto (tgt := 29) hx hb (dk_at dkX12_bounded_0 5 rfl) (by decide) ?_
    exact RET 1000000 _ _ _ _ _ ⟨rfl, (u_r_X12_bounded ⟨z1, gz1.out, (Or.inr ⟨c2, rfl⟩)⟩), by omega⟩ hP hS (dk_at dkX12_bounded_0 13 rfl)

abbrev tr_d_X12_over_2 (z3 : Int) (z10 : Int) (z : Int) (z17 : Int) : Prop := ((0 ≤ z17 ∧ z17 ≤ 1) ∧ (((z10 = z17) ∧ (z = z3)) ∨ ((¬ z10 = z17) ∧ (∃ z22 : Int, z22 = pSub z3 1 ∧ (z = z22)))))
def d_X12_over_2 (z3 : Int) (z10 : Int) (z : Int) (z17 : Int) : Prop := tr_d_X12_over_2 z3 z10 z z17
theorem u_d_X12_over_2 {z3 : Int} {z10 : Int} {z : Int} {z17 : Int} (h : tr_d_X12_over_2 z3 z10 z z17) : d_X12_over_2 z3 z10 z z17 := h
abbrev tr_d_X12_over_1 (x2 : Int) (z3 : Int) (z : Int) (z10 : Int) : Prop := ((0 ≤ z10 ∧ z10 ≤ 1) ∧ (∃ z14 : Int, ((-1 ≤ z14 ∧ z14 ≤ 1) ∧ (z14 = 0 ↔ x2 = 0) ∧ (z14 < 0 ↔ x2 < 0)) ∧ (((0 ≤ z14) ∧ (d_X12_over_2 z3 z10 z 0)) ∨ ((¬ 0 ≤ z14) ∧ (d_X12_over_2 z3 z10 z 1)))))
def d_X12_over_1 (x2 : Int) (z3 : Int) (z : Int) (z10 : Int) : Prop := tr_d_X12_over_1 x2 z3 z z10
theorem u_d_X12_over_1 {x2 : Int} {z3 : Int} {z : Int} {z10 : Int} (h : tr_d_X12_over_1 x2 z3 z z10) : d_X12_over_1 x2 z3 z z10 := h
abbrev tr_r_X12_over (x1 : Int) (x2 : Int) (A : St) (z : Int) : Prop := (∃ z1 : Int, ((-1 ≤ z1 ∧ z1 ≤ 1) ∧ (z1 = 0 ↔ x2 = 0) ∧ (z1 < 0 ↔ x2 < 0)) ∧ (((¬ z1 = 0) ∧ (∃ z3 : Int, z3 = pDiv x1 x2 ∧ (∃ z4 : Int, z4 = pRem x1 x2 ∧ (∃ z5 : Int, ((-1 ≤ z5 ∧ z5 ≤ 1) ∧ (z5 = 0 ↔ z4 = 0) ∧ (z5 < 0 ↔ z4 < 0)) ∧ (((z5 = 0) ∧ (z = z3)) ∨ ((¬ z5 = 0) ∧ (∃ z7 : Int, ((-1 ≤ z7 ∧ z7 ≤ 1) ∧ (z7 = 0 ↔ x1 = 0) ∧ (z7 < 0 ↔ x1 < 0)) ∧ (((0 ≤ z7) ∧ (d_X12_over_1 x2 z3 z 0)) ∨ ((¬ 0 ≤ z7) ∧ (d_X12_over_1 x2 z3 z 1)))))))))) ∨ ((z1 = 0) ∧ (z = 0))))
def r_X12_over (x1 : Int) (x2 : Int) (A : St) (z : Int) : Prop := tr_r_X12_over x1 x2 A z
theorem u_r_X12_over {x1 : Int} {x2 : Int} {A : St} {z : Int} (h : tr_r_X12_over x1 x2 A z) : r_X12_over x1 x2 A z := h
def q_X12_over (x1 : Int) (x2 : Int) (A : St) (z : Int) : Prop := r_X12_over x1 x2 A z ∧ (-9223372036854775808 ≤ z ∧ z ≤ 9223372036854775807)
def ws_mc_X12_over : List Cond := .code yX12_over cX12_over 6 (some .long) :: WX
set_option maxHeartbeats 4000000 in
set_option maxRecDepth 100000 in
theorem mc_X12_over (l : Launch) (dC : Nat → ClassId) (dI : Nat → Nat → Nat) (cB cI cJ cZ cQ : ClassId) (q : Nat → Nat) (A : St) (x1 x2 : Int) (hI : IM A) (hx1 : (-9223372036854775808 : Int) ≤ x1 ∧ x1 ≤ 9223372036854775807) (hx2 : (-9223372036854775808 : Int) ≤ x2 ∧ x2 ≤ 9223372036854775807) : XMl l yX12_over ws_mc_X12_over ({ frames := 0, cells := 0, slots := 0, locals := 0 } : Room) (dC, dI) (tyA cB cI cJ cZ cQ) (WM cI cJ cZ q) A [.long (jI x1), .long (jI x2)] (fun z u => A = u ∧ r_X12_over x1 x2 A z ∧ (-9223372036854775808 ≤ z ∧ z ≤ 9223372036854775807)) := by
  refine x_metl (cc := cX12_over) (maxL := 6) WM_adr (by decide +kernel) rfl (Nat.le_of_ble_eq_true rfl) (fun p e s m below meth c Q AS ls hx hb hml hown hts hK hDD hA0 hP hS hl RET => ?_)
  have hown : s.vm.findClass RX12 = some m.cls := hown
  have hl : lv_has ls 6 [(0, .long (jI x1)), (2, .long (jI x2))] := hl
  obtain ⟨H, hHe⟩ : ∃ H : Heap, H = s.heap := ⟨_, rfl⟩
  rw [← hHe] at hP
  have hS : va_S AS s.heap H [] := by rw [hHe]; exact hS
  suffices hgo : ∀ locs : List Loc, va_S AS s.heap H locs → W p l e (headSpec ws_mc_X12_over ({ frames := 0, cells := 0, slots := 0, locals := 0 } : Room)).room s m [.long (jI x1), .long (jI x2)].toArray below meth c H locs 0 0 Q (F0 m 0 ls []) by
    have := hgo [] hS
    rw [hHe] at this
    exact this
  clear hS hHe
  intro locs hS
  refine lv_lload_n hx hb (dk_at dkX12_over_0 0 rfl) rfl (lv_at hl 1 rfl) ?_
  refine lv_lconst (v := jI 0) hx hb (dk_at dkX12_over_0 1 rfl) (by decide +kernel) ?_
  refine x_lcmp hx hb (dk_at dkX12_over_0 2 rfl) (by omega) (by omega) (fun z1 hz1 hz1b hz1c => ?_)
  have gz1 := Hd.mk (And.intro hz1 (And.intro hz1b hz1c))
  refine lv_if_ne (tgt := 8) hx hb (dk_at dkX12_over_0 3 rfl) (by decide) (fun c2 => ?_) (fun c2 => ?_)
  · have c2 : ¬ z1 = 0 := mt (i_eq0 (by omega)).mpr c2
    refine lv_lload_n hx hb (dk_at dkX12_over_0 6 rfl) rfl (lv_at hl 0 rfl) ?_
    refine lv_lload_n hx hb (dk_at dkX12_over_0 7 rfl) rfl (lv_at hl 1 rfl) ?_
    refine lv_ldiv hx hb (dk_at dkX12_over_0 8 rfl) (by exact j_ne0 (by omega) (by omega)) ?_
    refine x_abslE (fun z3 gz3 hz3 => ?_)
    refine lv_lstore (lv' := [(4, .long (jI z3)), (0, .long (jI x1)), (2, .long (jI x2))]) hx hb (dk_at dkX12_over_0 9 rfl) hl (by decide) rfl (fun ls hl => ?_)
    refine lv_lload_n hx hb (dk_at dkX12_over_0 10 rfl) rfl (lv_at hl 1 rfl) ?_
    refine lv_lload_n hx hb (dk_at dkX12_over_0 11 rfl) rfl (lv_at hl 2 rfl) ?_
    refine lv_lrem hx hb (dk_at dkX12_over_0 12 rfl) (by exact j_ne0 (by omega) (by omega)) ?_
    refine x_abslE (fun z4 gz4 hz4 => ?_)
    refine lv_lconst (v := jI 0) hx hb (dk_at dkX12_over_0 13 rfl) (by decide +kernel) ?_
    refine x_lcmp hx hb (dk_at dkX12_over_0 14 rfl) (by omega) (by omega) (fun z5 hz5 hz5b hz5c => ?_)
    have gz5 := Hd.mk (And.intro hz5 (And.intro hz5b hz5c))
    refine lv_if_eq (tgt := 53) hx hb (dk_at dkX12_over_0 15 rfl) (by decide) (fun c6 => ?_) (fun c6 => ?_)
    · have c6 : z5 = 0 := (i_eq0 (by omega)).mp c6
      refine lv_lload hx hb (dk_at dkX12_over_2 3 rfl) (lv_at hl 0 rfl) ?_
      exact RET z3 _ _ _ _ _ ⟨rfl, (u_r_X12_over ⟨z1, gz1.out, (Or.inl ⟨c2, ⟨z3, gz3.out, ⟨z4, gz4.out, ⟨z5, gz5.out, (Or.inl ⟨c6, rfl⟩)⟩⟩⟩⟩)⟩), by omega⟩ hP hS (dk_at dkX12_over_2 4 rfl)
    · have c6 : ¬ z5 = 0 := mt (i_eq0 (by omega)).mpr c6
      refine lv_lload_n hx hb (dk_at dkX12_over_1 0 rfl) rfl (lv_at hl 1 rfl) ?_
      refine lv_lconst (v := jI 0) hx hb (dk_at dkX12_over_1 1 rfl) (by decide +kernel) ?_
      refine x_lcmp hx hb (dk_at dkX12_over_1 2 rfl) (by omega) (by omega) (fun z7 hz7 hz7b hz7c => ?_)
      have gz7 := Hd.mk (And.intro hz7 (And.intro hz7b hz7c))
      have J32_9 : ∀ (z10 : Int) (H : Heap) (locs : List Loc) (ls : Array Slot), (0 ≤ z10 ∧ z10 ≤ 1) → ((z10 = 0 ∧ 0 ≤ z7) ∨ (z10 = 1 ∧ ¬ 0 ≤ z7)) → (∀ (z : Int), (d_X12_over_1 x2 z3 z z10) → r_X12_over x1 x2 A z) → va_P (dC, dI) vwCl (WM cI cJ cZ q A) H → va_S AS s.heap H locs → lv_has ls 6 [(4, .long (jI z3)), (0, .long (jI x1)), (2, .long (jI x2))] → W p l e (headSpec ws_mc_X12_over ({ frames := 0, cells := 0, slots := 0, locals := 0 } : Room)).room s m [.long (jI x1), .long (jI x2)].toArray below meth c H locs 0 0 Q (F0 m 32 ls [.int (iI z10)]) := by
        intro z10 H locs ls f12 f13 hk1 hP hS hl
        refine lv_lload_n hx hb (dk_at dkX12_over_1 7 rfl) rfl (lv_at hl 2 rfl) ?_
        refine lv_lconst (v := jI 0) hx hb (dk_at dkX12_over_1 8 rfl) (by decide +kernel) ?_
        refine x_lcmp hx hb (dk_at dkX12_over_1 9 rfl) (by omega) (by omega) (fun z14 hz14 hz14b hz14c => ?_)
        have gz14 := Hd.mk (And.intro hz14 (And.intro hz14b hz14c))
        have J43_16 : ∀ (z17 : Int) (H : Heap) (locs : List Loc) (ls : Array Slot), (0 ≤ z17 ∧ z17 ≤ 1) → ((z17 = 0 ∧ 0 ≤ z14) ∨ (z17 = 1 ∧ ¬ 0 ≤ z14)) → (∀ (z : Int), (d_X12_over_2 z3 z10 z z17) → r_X12_over x1 x2 A z) → va_P (dC, dI) vwCl (WM cI cJ cZ q A) H → va_S AS s.heap H locs → lv_has ls 6 [(4, .long (jI z3)), (0, .long (jI x1)), (2, .long (jI x2))] → W p l e (headSpec ws_mc_X12_over ({ frames := 0, cells := 0, slots := 0, locals := 0 } : Room)).room s m [.long (jI x1), .long (jI x2)].toArray below meth c H locs 0 0 Q (F0 m 43 ls [.int (iI z17), .int (iI z10)]) := by
          intro z17 H locs ls f19 f20 hk2 hP hS hl
          refine lv_icmp_eq (tgt := 53) hx hb (dk_at dkX12_over_1 14 rfl) (by decide) (fun c21 => ?_) (fun c21 => ?_)
          · have c21 : z10 = z17 := (i_eq (rb f12 (by decide) (by decide)) (rb f19 (by decide) (by decide))).mp c21
            refine lv_lload hx hb (dk_at dkX12_over_2 3 rfl) (lv_at hl 0 rfl) ?_
            exact RET z3 _ _ _ _ _ ⟨rfl, hk2 _ (u_d_X12_over_2 ⟨f19, (Or.inl ⟨c21, rfl⟩)⟩), by omega⟩ hP hS (dk_at dkX12_over_2 4 rfl)
          · have c21 : ¬ z10 = z17 := mt (i_eq (rb f12 (by decide) (by decide)) (rb f19 (by decide) (by decide))).mpr c21
            refine lv_lload hx hb (dk_at dkX12_over_1 15 rfl) (lv_at hl 0 rfl) ?_
            refine lv_lconst (v := jI 1) hx hb (dk_at dkX12_over_2 0 rfl) (by decide +kernel) ?_
            refine lv_lsub hx hb (dk_at dkX12_over_2 1 rfl) ?_
            refine x_abslE (fun z22 gz22 hz22 => ?_)
            refine lv_goto (tgt := 55) hx hb (dk_at dkX12_over_2 2 rfl) (by decide) ?_
            exact RET z22 _ _ _ _ _ ⟨rfl, hk2 _ (u_d_X12_over_2 ⟨f19, (Or.inr ⟨c21, ⟨z22, gz22.out, rfl⟩⟩)⟩), by omega⟩ hP hS (dk_at dkX12_over_2 4 rfl)
        refine lv_if_ge (tgt := 42) hx hb (dk_at dkX12_over_1 10 rfl) (by decide) (fun c15 => ?_) (fun c15 => ?_)
        · have c15 : 0 ≤ z14 := (i_0le (by omega)).mp c15
          refine lv_iconst (v := iI 0) hx hb (dk_at dkX12_over_1 13 rfl) (by decide +kernel) ?_
          exact J43_16 0 _ _ _ (by omega) (by omega) (fun zq hq => hk1 _ (u_d_X12_over_1 ⟨f12, ⟨z14, gz14.out, (Or.inl ⟨c15, hq⟩)⟩⟩)) hP hS (lv_sub hl [0, 1, 2] rfl)
        · have c15 : ¬ 0 ≤ z14 := mt (i_0le (by omega)).mpr c15
          refine lv_iconst (v := iI 1) hx hb (dk_at dkX12_over_1 11 rfl) (by decide +kernel) ?_
          refine lv_goto (tgt := 43) hx hb (dk_at dkX12_over_1 12 rfl) (by decide) ?_
          exact J43_16 1 _ _ _ (by omega) (by omega) (fun zq hq => hk1 _ (u_d_X12_over_1 ⟨f12, ⟨z14, gz14.out, (Or.inr ⟨c15, hq⟩)⟩⟩)) hP hS (lv_sub hl [0, 1, 2] rfl)
      refine lv_if_ge (tgt := 31) hx hb (dk_at dkX12_over_1 3 rfl) (by decide) (fun c8 => ?_) (fun c8 => ?_)
      · have c8 : 0 ≤ z7 := (i_0le (by omega)).mp c8
        refine lv_iconst (v := iI 0) hx hb (dk_at dkX12_over_1 6 rfl) (by decide +kernel) ?_
        exact J32_9 0 _ _ _ (by omega) (by omega) (fun zq hq => (u_r_X12_over ⟨z1, gz1.out, (Or.inl ⟨c2, ⟨z3, gz3.out, ⟨z4, gz4.out, ⟨z5, gz5.out, (Or.inr ⟨c6, ⟨z7, gz7.out, (Or.inl ⟨c8, hq⟩)⟩⟩)⟩⟩⟩⟩)⟩)) hP hS (lv_sub hl [0, 1, 2] rfl)
      · have c8 : ¬ 0 ≤ z7 := mt (i_0le (by omega)).mpr c8
        refine lv_iconst (v := iI 1) hx hb (dk_at dkX12_over_1 4 rfl) (by decide +kernel) ?_
        refine lv_goto (tgt := 32) hx hb (dk_at dkX12_over_1 5 rfl) (by decide) ?_
        exact J32_9 1 _ _ _ (by omega) (by omega) (fun zq hq => (u_r_X12_over ⟨z1, gz1.out, (Or.inl ⟨c2, ⟨z3, gz3.out, ⟨z4, gz4.out, ⟨z5, gz5.out, (Or.inr ⟨c6, ⟨z7, gz7.out, (Or.inr ⟨c8, hq⟩)⟩⟩)⟩⟩⟩⟩)⟩)) hP hS (lv_sub hl [0, 1, 2] rfl)
  · have c2 : z1 = 0 := (i_eq0 (by omega)).mp c2
    refine lv_lconst (v := jI 0) hx hb (dk_at dkX12_over_0 4 rfl) (by decide +kernel) ?_
    exact RET 0 _ _ _ _ _ ⟨rfl, (u_r_X12_over ⟨z1, gz1.out, (Or.inr ⟨c2, rfl⟩)⟩), by omega⟩ hP hS (dk_at dkX12_over_0 5 rfl)

abbrev tr_r_X12_made (x1 : Int) (x2 : Int) (x3 : Int) (A : St) (z : Int) : Prop := (((x1 < 10 ∨ 20 < x1) ∧ (∃ z2 : Int, z2 = pAdd x2 x3 ∧ (∃ z3 : Int, ((-1 ≤ z3 ∧ z3 ≤ 1) ∧ (z3 = 0 ↔ z2 = 0) ∧ (z3 < 0 ↔ z2 < 0)) ∧ (((z3 ≤ 0) ∧ (z = 0)) ∨ ((¬ z3 ≤ 0) ∧ (z = 1)))))) ∨ (x1 = 10 ∧ (∃ z5 : Int, z5 = pAdd x2 x3 ∧ (∃ z6 : Int, q_X12_bounded z5 A z6 ∧ (z = z6)))) ∨ (x1 = 11 ∧ (∃ z9 : Int, z9 = pSub x2 x3 ∧ (∃ z10 : Int, q_X12_bounded z9 A z10 ∧ (z = z10)))) ∨ (x1 = 12 ∧ (∃ z13 : Int, z13 = pMul x2 x3 ∧ (∃ z14 : Int, q_X12_bounded z13 A z14 ∧ (z = z14)))) ∨ (x1 = 13 ∧ (∃ z17 : Int, q_X12_over x2 x3 A z17 ∧ (z = z17))) ∨ (x1 = 14 ∧ (∃ z20 : Int, ((-1 ≤ z20 ∧ z20 ≤ 1) ∧ (z20 = 0 ↔ x3 = 0) ∧ (z20 < 0 ↔ x3 < 0)) ∧ (((¬ z20 = 0) ∧ (∃ z22 : Int, q_X12_over x2 x3 A z22 ∧ (∃ z25 : Int, z25 = pMul x3 z22 ∧ (∃ z26 : Int, z26 = pSub x2 z25 ∧ (z = z26))))) ∨ ((z20 = 0) ∧ (z = 0))))) ∨ (x1 = 15 ∧ (∃ z27 : Int, ((-1 ≤ z27 ∧ z27 ≤ 1) ∧ (z27 = 0 ↔ x2 = x3) ∧ (z27 < 0 ↔ x2 < x3)) ∧ (((0 ≤ z27) ∧ (z = x3)) ∨ ((¬ 0 ≤ z27) ∧ (z = x2))))) ∨ (x1 = 16 ∧ (∃ z29 : Int, ((-1 ≤ z29 ∧ z29 ≤ 1) ∧ (z29 = 0 ↔ x2 = x3) ∧ (z29 < 0 ↔ x2 < x3)) ∧ (((z29 ≤ 0) ∧ (z = x3)) ∨ ((¬ z29 ≤ 0) ∧ (z = x2))))) ∨ (x1 = 17 ∧ (∃ z31 : Int, ((-1 ≤ z31 ∧ z31 ≤ 1) ∧ (z31 = 0 ↔ x2 = x3) ∧ (z31 < 0 ↔ x2 < x3)) ∧ (((0 ≤ z31) ∧ (z = 0)) ∨ ((¬ 0 ≤ z31) ∧ (z = 1))))) ∨ (x1 = 18 ∧ (∃ z33 : Int, ((-1 ≤ z33 ∧ z33 ≤ 1) ∧ (z33 = 0 ↔ x2 = x3) ∧ (z33 < 0 ↔ x2 < x3)) ∧ (((z33 ≤ 0) ∧ (z = 0)) ∨ ((¬ z33 ≤ 0) ∧ (z = 1))))) ∨ (x1 = 19 ∧ (∃ z35 : Int, ((-1 ≤ z35 ∧ z35 ≤ 1) ∧ (z35 = 0 ↔ x2 = x3) ∧ (z35 < 0 ↔ x2 < x3)) ∧ (((¬ z35 = 0) ∧ (z = 0)) ∨ ((z35 = 0) ∧ (z = 1))))) ∨ (x1 = 20 ∧ (∃ z37 : Int, z37 = pMul x2 x3 ∧ (z = z37))))
def r_X12_made (x1 : Int) (x2 : Int) (x3 : Int) (A : St) (z : Int) : Prop := tr_r_X12_made x1 x2 x3 A z
theorem u_r_X12_made {x1 : Int} {x2 : Int} {x3 : Int} {A : St} {z : Int} (h : tr_r_X12_made x1 x2 x3 A z) : r_X12_made x1 x2 x3 A z := h
def q_X12_made (x1 : Int) (x2 : Int) (x3 : Int) (A : St) (z : Int) : Prop := r_X12_made x1 x2 x3 A z ∧ (-9223372036854775808 ≤ z ∧ z ≤ 9223372036854775807)
def ws_mc_X12_made : List Cond := .code yX12_made cX12_made 5 (some .long) :: WX
set_option maxHeartbeats 4000000 in
set_option maxRecDepth 100000 in
theorem mc_X12_made (l : Launch) (dC : Nat → ClassId) (dI : Nat → Nat → Nat) (cB cI cJ cZ cQ : ClassId) (q : Nat → Nat) (A : St) (x1 x2 x3 : Int) (hI : IM A) (hx1 : (-2147483648 : Int) ≤ x1 ∧ x1 ≤ 2147483647) (hx2 : (-9223372036854775808 : Int) ≤ x2 ∧ x2 ≤ 9223372036854775807) (hx3 : (-9223372036854775808 : Int) ≤ x3 ∧ x3 ≤ 9223372036854775807) : XMl l yX12_made ws_mc_X12_made ({ frames := 1, cells := 0, slots := 0, locals := 25 } : Room) (dC, dI) (tyA cB cI cJ cZ cQ) (WM cI cJ cZ q) A [.int (iI x1), .long (jI x2), .long (jI x3)] (fun z u => A = u ∧ r_X12_made x1 x2 x3 A z ∧ (-9223372036854775808 ≤ z ∧ z ≤ 9223372036854775807)) := by
  refine x_metl (cc := cX12_made) (maxL := 5) WM_adr (by decide +kernel) rfl (Nat.le_of_ble_eq_true rfl) (fun p e s m below meth c Q AS ls hx hb hml hown hts hK hDD hA0 hP hS hl RET => ?_)
  have hown : s.vm.findClass RX12 = some m.cls := hown
  have hl : lv_has ls 5 [(0, .int (iI x1)), (1, .long (jI x2)), (3, .long (jI x3))] := hl
  obtain ⟨H, hHe⟩ : ∃ H : Heap, H = s.heap := ⟨_, rfl⟩
  rw [← hHe] at hP
  have hS : va_S AS s.heap H [] := by rw [hHe]; exact hS
  suffices hgo : ∀ locs : List Loc, va_S AS s.heap H locs → W p l e (headSpec ws_mc_X12_made ({ frames := 1, cells := 0, slots := 0, locals := 25 } : Room)).room s m [.int (iI x1), .long (jI x2), .long (jI x3)].toArray below meth c H locs 0 0 Q (F0 m 0 ls []) by
    have := hgo [] hS
    rw [hHe] at this
    exact this
  clear hS hHe
  intro locs hS
  refine lv_iload_n hx hb (dk_at dkX12_made_0 0 rfl) rfl (lv_at hl 0 rfl) ?_
  rcases (show (x1 < 10 ∨ 20 < x1) ∨ x1 = 10 ∨ x1 = 11 ∨ x1 = 12 ∨ x1 = 13 ∨ x1 = 14 ∨ x1 = 15 ∨ x1 = 16 ∨ x1 = 17 ∨ x1 = 18 ∨ x1 = 19 ∨ x1 = 20 by omega) with c1 | c1 | c1 | c1 | c1 | c1 | c1 | c1 | c1 | c1 | c1 | c1
  · refine lv_tableOut (tgt := 171) hx hb (dk_at dkX12_made_0 1 rfl) (by rw [iI_toInt hx1]; exact c1) (by decide) ?_
    refine lv_lload_n hx hb (dk_at dkX12_made_4 15 rfl) rfl (lv_at hl 1 rfl) ?_
    refine lv_lload_n hx hb (dk_at dkX12_made_5 0 rfl) rfl (lv_at hl 2 rfl) ?_
    refine lv_ladd hx hb (dk_at dkX12_made_5 1 rfl) ?_
    refine x_abslE (fun z2 gz2 hz2 => ?_)
    refine lv_lconst (v := jI 0) hx hb (dk_at dkX12_made_5 2 rfl) (by decide +kernel) ?_
    refine x_lcmp hx hb (dk_at dkX12_made_5 3 rfl) (by omega) (by omega) (fun z3 hz3 hz3b hz3c => ?_)
    have gz3 := Hd.mk (And.intro hz3 (And.intro hz3b hz3c))
    refine lv_if_le (tgt := 183) hx hb (dk_at dkX12_made_5 4 rfl) (by decide) (fun c4 => ?_) (fun c4 => ?_)
    · have c4 : z3 ≤ 0 := (i_le0 (by omega)).mp c4
      refine lv_lconst (v := jI 0) hx hb (dk_at dkX12_made_5 7 rfl) (by decide +kernel) ?_
      exact RET 0 _ _ _ _ _ ⟨rfl, (u_r_X12_made (Or.inl ⟨c1, ⟨z2, gz2.out, ⟨z3, gz3.out, (Or.inl ⟨c4, rfl⟩)⟩⟩⟩)), by omega⟩ hP hS (dk_at dkX12_made_5 8 rfl)
    · have c4 : ¬ z3 ≤ 0 := mt (i_le0 (by omega)).mpr c4
      refine lv_lconst (v := jI 1) hx hb (dk_at dkX12_made_5 5 rfl) (by decide +kernel) ?_
      refine lv_goto (tgt := 184) hx hb (dk_at dkX12_made_5 6 rfl) (by decide) ?_
      exact RET 1 _ _ _ _ _ ⟨rfl, (u_r_X12_made (Or.inl ⟨c1, ⟨z2, gz2.out, ⟨z3, gz3.out, (Or.inr ⟨c4, rfl⟩)⟩⟩⟩)), by omega⟩ hP hS (dk_at dkX12_made_5 8 rfl)
  · refine tp_i (y := iI 10) (congrArg iI c1) ?_
    refine lv_tableIn (off := 59) (tgt := 60) hx hb (dk_at dkX12_made_0 1 rfl) (by decide +kernel) (by decide +kernel) (by decide +kernel) (by decide) ?_
    refine lv_lload_n hx hb (dk_at dkX12_made_0 2 rfl) rfl (lv_at hl 1 rfl) ?_
    refine lv_lload_n hx hb (dk_at dkX12_made_0 3 rfl) rfl (lv_at hl 2 rfl) ?_
    refine lv_ladd hx hb (dk_at dkX12_made_0 4 rfl) ?_
    refine x_abslE (fun z5 gz5 hz5 => ?_)
    refine x_callSl (As := [.long (jI z5)]) (rest := []) ⟨hx, hb, hml, hown, hts⟩ (mc_X12_bounded l dC dI cB cI cJ cZ cQ q _ z5 hI (by omega)) (va_cwS 1 hts (goodS wlq_4_28 wlq_4_29 wlq_0_8 wlq_4_23) rfl rfl rfl (by decide +kernel) ⟨Nat.le_of_ble_eq_true rfl, Nat.le_of_ble_eq_true rfl⟩) hK hDD hA0 hP hS rfl hl.1 (Nat.le_of_ble_eq_true rfl) (dk_at dkX12_made_0 5 rfl) (fun z6 A7 H locs hw8 hP hS => ?_)
    obtain ⟨rfl, hw8⟩ := hw8
    have ghw8 : q_X12_bounded z5 A z6 := hw8
    have hw8 := hw8.2
    exact RET z6 _ _ _ _ _ ⟨rfl, (u_r_X12_made (Or.inr (Or.inl ⟨c1, ⟨z5, gz5.out, ⟨z6, ghw8, rfl⟩⟩⟩))), by omega⟩ hP hS (dk_at dkX12_made_0 6 rfl)
  · refine tp_i (y := iI 11) (congrArg iI c1) ?_
    refine lv_tableIn (off := 66) (tgt := 67) hx hb (dk_at dkX12_made_0 1 rfl) (by decide +kernel) (by decide +kernel) (by decide +kernel) (by decide) ?_
    refine lv_lload_n hx hb (dk_at dkX12_made_0 7 rfl) rfl (lv_at hl 1 rfl) ?_
    refine lv_lload_n hx hb (dk_at dkX12_made_0 8 rfl) rfl (lv_at hl 2 rfl) ?_
    refine lv_lsub hx hb (dk_at dkX12_made_0 9 rfl) ?_
    refine x_abslE (fun z9 gz9 hz9 => ?_)
    refine x_callSl (As := [.long (jI z9)]) (rest := []) ⟨hx, hb, hml, hown, hts⟩ (mc_X12_bounded l dC dI cB cI cJ cZ cQ q _ z9 hI (by omega)) (va_cwS 1 hts (goodS wlq_4_28 wlq_4_29 wlq_0_8 wlq_4_23) rfl rfl rfl (by decide +kernel) ⟨Nat.le_of_ble_eq_true rfl, Nat.le_of_ble_eq_true rfl⟩) hK hDD hA0 hP hS rfl hl.1 (Nat.le_of_ble_eq_true rfl) (dk_at dkX12_made_0 10 rfl) (fun z10 A11 H locs hw12 hP hS => ?_)
    obtain ⟨rfl, hw12⟩ := hw12
    have ghw12 : q_X12_bounded z9 A z10 := hw12
    have hw12 := hw12.2
    exact RET z10 _ _ _ _ _ ⟨rfl, (u_r_X12_made (Or.inr (Or.inr (Or.inl ⟨c1, ⟨z9, gz9.out, ⟨z10, ghw12, rfl⟩⟩⟩)))), by omega⟩ hP hS (dk_at dkX12_made_0 11 rfl)
  · refine tp_i (y := iI 12) (congrArg iI c1) ?_
    refine lv_tableIn (off := 73) (tgt := 74) hx hb (dk_at dkX12_made_0 1 rfl) (by decide +kernel) (by decide +kernel) (by decide +kernel) (by decide) ?_
    refine lv_lload_n hx hb (dk_at dkX12_made_0 12 rfl) rfl (lv_at hl 1 rfl) ?_
    refine lv_lload_n hx hb (dk_at dkX12_made_0 13 rfl) rfl (lv_at hl 2 rfl) ?_
    refine lv_lmul hx hb (dk_at dkX12_made_0 14 rfl) ?_
    refine x_abslE (fun z13 gz13 hz13 => ?_)
    refine x_callSl (As := [.long (jI z13)]) (rest := []) ⟨hx, hb, hml, hown, hts⟩ (mc_X12_bounded l dC dI cB cI cJ cZ cQ q _ z13 hI (by omega)) (va_cwS 1 hts (goodS wlq_4_28 wlq_4_29 wlq_0_8 wlq_4_23) rfl rfl rfl (by decide +kernel) ⟨Nat.le_of_ble_eq_true rfl, Nat.le_of_ble_eq_true rfl⟩) hK hDD hA0 hP hS rfl hl.1 (Nat.le_of_ble_eq_true rfl) (dk_at dkX12_made_0 15 rfl) (fun z14 A15 H locs hw16 hP hS => ?_)
    obtain ⟨rfl, hw16⟩ := hw16
    have ghw16 : q_X12_bounded z13 A z14 := hw16
    have hw16 := hw16.2
    exact RET z14 _ _ _ _ _ ⟨rfl, (u_r_X12_made (Or.inr (Or.inr (Or.inr (Or.inl ⟨c1, ⟨z13, gz13.out, ⟨z14, ghw16, rfl⟩⟩⟩))))), by omega⟩ hP hS (dk_at dkX12_made_1 0 rfl)
  · refine tp_i (y := iI 13) (congrArg iI c1) ?_
    refine lv_tableIn (off := 80) (tgt := 81) hx hb (dk_at dkX12_made_0 1 rfl) (by decide +kernel) (by decide +kernel) (by decide +kernel) (by decide) ?_
    refine lv_lload_n hx hb (dk_at dkX12_made_1 1 rfl) rfl (lv_at hl 1 rfl) ?_
    refine lv_lload_n hx hb (dk_at dkX12_made_1 2 rfl) rfl (lv_at hl 2 rfl) ?_
    refine x_callSl (As := [.long (jI x2), .long (jI x3)]) (rest := []) ⟨hx, hb, hml, hown, hts⟩ (mc_X12_over l dC dI cB cI cJ cZ cQ q _ x2 x3 hI hx2 hx3) (va_cwS 2 hts (goodS wlq_4_30 wlq_4_31 wlq_0_8 wlq_4_26) rfl rfl rfl (by decide +kernel) ⟨Nat.le_of_ble_eq_true rfl, Nat.le_of_ble_eq_true rfl⟩) hK hDD hA0 hP hS rfl hl.1 (Nat.le_of_ble_eq_true rfl) (dk_at dkX12_made_1 3 rfl) (fun z17 A18 H locs hw19 hP hS => ?_)
    obtain ⟨rfl, hw19⟩ := hw19
    have ghw19 : q_X12_over x2 x3 A z17 := hw19
    have hw19 := hw19.2
    exact RET z17 _ _ _ _ _ ⟨rfl, (u_r_X12_made (Or.inr (Or.inr (Or.inr (Or.inr (Or.inl ⟨c1, ⟨z17, ghw19, rfl⟩⟩)))))), by omega⟩ hP hS (dk_at dkX12_made_1 4 rfl)
  · refine tp_i (y := iI 14) (congrArg iI c1) ?_
    refine lv_tableIn (off := 86) (tgt := 87) hx hb (dk_at dkX12_made_0 1 rfl) (by decide +kernel) (by decide +kernel) (by decide +kernel) (by decide) ?_
    refine lv_lload_n hx hb (dk_at dkX12_made_1 5 rfl) rfl (lv_at hl 2 rfl) ?_
    refine lv_lconst (v := jI 0) hx hb (dk_at dkX12_made_1 6 rfl) (by decide +kernel) ?_
    refine x_lcmp hx hb (dk_at dkX12_made_1 7 rfl) (by omega) (by omega) (fun z20 hz20 hz20b hz20c => ?_)
    have gz20 := Hd.mk (And.intro hz20 (And.intro hz20b hz20c))
    refine lv_if_ne (tgt := 97) hx hb (dk_at dkX12_made_1 8 rfl) (by decide) (fun c21 => ?_) (fun c21 => ?_)
    · have c21 : ¬ z20 = 0 := mt (i_eq0 (by omega)).mpr c21
      refine lv_lload_n hx hb (dk_at dkX12_made_1 11 rfl) rfl (lv_at hl 1 rfl) ?_
      refine lv_lload_n hx hb (dk_at dkX12_made_1 12 rfl) rfl (lv_at hl 2 rfl) ?_
      refine lv_lload_n hx hb (dk_at dkX12_made_1 13 rfl) rfl (lv_at hl 1 rfl) ?_
      refine lv_lload_n hx hb (dk_at dkX12_made_1 14 rfl) rfl (lv_at hl 2 rfl) ?_
      refine x_callSl (As := [.long (jI x2), .long (jI x3)]) (rest := [.long (jI x3), .long (jI x2)]) ⟨hx, hb, hml, hown, hts⟩ (mc_X12_over l dC dI cB cI cJ cZ cQ q _ x2 x3 hI hx2 hx3) (va_cwS 2 hts (goodS wlq_4_30 wlq_4_31 wlq_0_8 wlq_4_26) rfl rfl rfl (by decide +kernel) ⟨Nat.le_of_ble_eq_true rfl, Nat.le_of_ble_eq_true rfl⟩) hK hDD hA0 hP hS rfl hl.1 (Nat.le_of_ble_eq_true rfl) (dk_at dkX12_made_1 15 rfl) (fun z22 A23 H locs hw24 hP hS => ?_)
      obtain ⟨rfl, hw24⟩ := hw24
      have ghw24 : q_X12_over x2 x3 A z22 := hw24
      have hw24 := hw24.2
      refine lv_lmul hx hb (dk_at dkX12_made_2 0 rfl) ?_
      refine x_abslE (fun z25 gz25 hz25 => ?_)
      refine lv_lsub hx hb (dk_at dkX12_made_2 1 rfl) ?_
      refine x_abslE (fun z26 gz26 hz26 => ?_)
      exact RET z26 _ _ _ _ _ ⟨rfl, (u_r_X12_made (Or.inr (Or.inr (Or.inr (Or.inr (Or.inr (Or.inl ⟨c1, ⟨z20, gz20.out, (Or.inl ⟨c21, ⟨z22, ghw24, ⟨z25, gz25.out, ⟨z26, gz26.out, rfl⟩⟩⟩⟩)⟩⟩))))))), by omega⟩ hP hS (dk_at dkX12_made_2 2 rfl)
    · have c21 : z20 = 0 := (i_eq0 (by omega)).mp c21
      refine lv_lconst (v := jI 0) hx hb (dk_at dkX12_made_1 9 rfl) (by decide +kernel) ?_
      refine lv_goto (tgt := 106) hx hb (dk_at dkX12_made_1 10 rfl) (by decide) ?_
      exact RET 0 _ _ _ _ _ ⟨rfl, (u_r_X12_made (Or.inr (Or.inr (Or.inr (Or.inr (Or.inr (Or.inl ⟨c1, ⟨z20, gz20.out, (Or.inr ⟨c21, rfl⟩)⟩⟩))))))), by omega⟩ hP hS (dk_at dkX12_made_2 2 rfl)
  · refine tp_i (y := iI 15) (congrArg iI c1) ?_
    refine lv_tableIn (off := 106) (tgt := 107) hx hb (dk_at dkX12_made_0 1 rfl) (by decide +kernel) (by decide +kernel) (by decide +kernel) (by decide) ?_
    refine lv_lload_n hx hb (dk_at dkX12_made_2 3 rfl) rfl (lv_at hl 1 rfl) ?_
    refine lv_lload_n hx hb (dk_at dkX12_made_2 4 rfl) rfl (lv_at hl 2 rfl) ?_
    refine x_lcmp hx hb (dk_at dkX12_made_2 5 rfl) (by omega) (by omega) (fun z27 hz27 hz27b hz27c => ?_)
    have gz27 := Hd.mk (And.intro hz27 (And.intro hz27b hz27c))
    refine lv_if_ge (tgt := 117) hx hb (dk_at dkX12_made_2 6 rfl) (by decide) (fun c28 => ?_) (fun c28 => ?_)
    · have c28 : 0 ≤ z27 := (i_0le (by omega)).mp c28
      refine lv_lload_n hx hb (dk_at dkX12_made_2 9 rfl) rfl (lv_at hl 2 rfl) ?_
      exact RET x3 _ _ _ _ _ ⟨rfl, (u_r_X12_made (Or.inr (Or.inr (Or.inr (Or.inr (Or.inr (Or.inr (Or.inl ⟨c1, ⟨z27, gz27.out, (Or.inl ⟨c28, rfl⟩)⟩⟩)))))))), by omega⟩ hP hS (dk_at dkX12_made_2 10 rfl)
    · have c28 : ¬ 0 ≤ z27 := mt (i_0le (by omega)).mpr c28
      refine lv_lload_n hx hb (dk_at dkX12_made_2 7 rfl) rfl (lv_at hl 1 rfl) ?_
      refine lv_goto (tgt := 118) hx hb (dk_at dkX12_made_2 8 rfl) (by decide) ?_
      exact RET x2 _ _ _ _ _ ⟨rfl, (u_r_X12_made (Or.inr (Or.inr (Or.inr (Or.inr (Or.inr (Or.inr (Or.inl ⟨c1, ⟨z27, gz27.out, (Or.inr ⟨c28, rfl⟩)⟩⟩)))))))), by omega⟩ hP hS (dk_at dkX12_made_2 10 rfl)
  · refine tp_i (y := iI 16) (congrArg iI c1) ?_
    refine lv_tableIn (off := 118) (tgt := 119) hx hb (dk_at dkX12_made_0 1 rfl) (by decide +kernel) (by decide +kernel) (by decide +kernel) (by decide) ?_
    refine lv_lload_n hx hb (dk_at dkX12_made_2 11 rfl) rfl (lv_at hl 1 rfl) ?_
    refine lv_lload_n hx hb (dk_at dkX12_made_2 12 rfl) rfl (lv_at hl 2 rfl) ?_
    refine x_lcmp hx hb (dk_at dkX12_made_2 13 rfl) (by omega) (by omega) (fun z29 hz29 hz29b hz29c => ?_)
    have gz29 := Hd.mk (And.intro hz29 (And.intro hz29b hz29c))
    refine lv_if_le (tgt := 129) hx hb (dk_at dkX12_made_2 14 rfl) (by decide) (fun c30 => ?_) (fun c30 => ?_)
    · have c30 : z29 ≤ 0 := (i_le0 (by omega)).mp c30
      refine lv_lload_n hx hb (dk_at dkX12_made_3 1 rfl) rfl (lv_at hl 2 rfl) ?_
      exact RET x3 _ _ _ _ _ ⟨rfl, (u_r_X12_made (Or.inr (Or.inr (Or.inr (Or.inr (Or.inr (Or.inr (Or.inr (Or.inl ⟨c1, ⟨z29, gz29.out, (Or.inl ⟨c30, rfl⟩)⟩⟩))))))))), by omega⟩ hP hS (dk_at dkX12_made_3 2 rfl)
    · have c30 : ¬ z29 ≤ 0 := mt (i_le0 (by omega)).mpr c30
      refine lv_lload_n hx hb (dk_at dkX12_made_2 15 rfl) rfl (lv_at hl 1 rfl) ?_
      refine lv_goto (tgt := 130) hx hb (dk_at dkX12_made_3 0 rfl) (by decide) ?_
      exact RET x2 _ _ _ _ _ ⟨rfl, (u_r_X12_made (Or.inr (Or.inr (Or.inr (Or.inr (Or.inr (Or.inr (Or.inr (Or.inl ⟨c1, ⟨z29, gz29.out, (Or.inr ⟨c30, rfl⟩)⟩⟩))))))))), by omega⟩ hP hS (dk_at dkX12_made_3 2 rfl)
  · refine tp_i (y := iI 17) (congrArg iI c1) ?_
    refine lv_tableIn (off := 130) (tgt := 131) hx hb (dk_at dkX12_made_0 1 rfl) (by decide +kernel) (by decide +kernel) (by decide +kernel) (by decide) ?_
    refine lv_lload_n hx hb (dk_at dkX12_made_3 3 rfl) rfl (lv_at hl 1 rfl) ?_
    refine lv_lload_n hx hb (dk_at dkX12_made_3 4 rfl) rfl (lv_at hl 2 rfl) ?_
    refine x_lcmp hx hb (dk_at dkX12_made_3 5 rfl) (by omega) (by omega) (fun z31 hz31 hz31b hz31c => ?_)
    have gz31 := Hd.mk (And.intro hz31 (And.intro hz31b hz31c))
    refine lv_if_ge (tgt := 141) hx hb (dk_at dkX12_made_3 6 rfl) (by decide) (fun c32 => ?_) (fun c32 => ?_)
    · have c32 : 0 ≤ z31 := (i_0le (by omega)).mp c32
      refine lv_lconst (v := jI 0) hx hb (dk_at dkX12_made_3 9 rfl) (by decide +kernel) ?_
      exact RET 0 _ _ _ _ _ ⟨rfl, (u_r_X12_made (Or.inr (Or.inr (Or.inr (Or.inr (Or.inr (Or.inr (Or.inr (Or.inr (Or.inl ⟨c1, ⟨z31, gz31.out, (Or.inl ⟨c32, rfl⟩)⟩⟩)))))))))), by omega⟩ hP hS (dk_at dkX12_made_3 10 rfl)
    · have c32 : ¬ 0 ≤ z31 := mt (i_0le (by omega)).mpr c32
      refine lv_lconst (v := jI 1) hx hb (dk_at dkX12_made_3 7 rfl) (by decide +kernel) ?_
      refine lv_goto (tgt := 142) hx hb (dk_at dkX12_made_3 8 rfl) (by decide) ?_
      exact RET 1 _ _ _ _ _ ⟨rfl, (u_r_X12_made (Or.inr (Or.inr (Or.inr (Or.inr (Or.inr (Or.inr (Or.inr (Or.inr (Or.inl ⟨c1, ⟨z31, gz31.out, (Or.inr ⟨c32, rfl⟩)⟩⟩)))))))))), by omega⟩ hP hS (dk_at dkX12_made_3 10 rfl)
  · refine tp_i (y := iI 18) (congrArg iI c1) ?_
    refine lv_tableIn (off := 142) (tgt := 143) hx hb (dk_at dkX12_made_0 1 rfl) (by decide +kernel) (by decide +kernel) (by decide +kernel) (by decide) ?_
    refine lv_lload_n hx hb (dk_at dkX12_made_3 11 rfl) rfl (lv_at hl 1 rfl) ?_
    refine lv_lload_n hx hb (dk_at dkX12_made_3 12 rfl) rfl (lv_at hl 2 rfl) ?_
    refine x_lcmp hx hb (dk_at dkX12_made_3 13 rfl) (by omega) (by omega) (fun z33 hz33 hz33b hz33c => ?_)
    have gz33 := Hd.mk (And.intro hz33 (And.intro hz33b hz33c))
    refine lv_if_le (tgt := 153) hx hb (dk_at dkX12_made_3 14 rfl) (by decide) (fun c34 => ?_) (fun c34 => ?_)
    · have c34 : z33 ≤ 0 := (i_le0 (by omega)).mp c34
      refine lv_lconst (v := jI 0) hx hb (dk_at dkX12_made_4 1 rfl) (by decide +kernel) ?_
      exact RET 0 _ _ _ _ _ ⟨rfl, (u_r_X12_made (Or.inr (Or.inr (Or.inr (Or.inr (Or.inr (Or.inr (Or.inr (Or.inr (Or.inr (Or.inl ⟨c1, ⟨z33, gz33.out, (Or.inl ⟨c34, rfl⟩)⟩⟩))))))))))), by omega⟩ hP hS (dk_at dkX12_made_4 2 rfl)
    · have c34 : ¬ z33 ≤ 0 := mt (i_le0 (by omega)).mpr c34
      refine lv_lconst (v := jI 1) hx hb (dk_at dkX12_made_3 15 rfl) (by decide +kernel) ?_
      refine lv_goto (tgt := 154) hx hb (dk_at dkX12_made_4 0 rfl) (by decide) ?_
      exact RET 1 _ _ _ _ _ ⟨rfl, (u_r_X12_made (Or.inr (Or.inr (Or.inr (Or.inr (Or.inr (Or.inr (Or.inr (Or.inr (Or.inr (Or.inl ⟨c1, ⟨z33, gz33.out, (Or.inr ⟨c34, rfl⟩)⟩⟩))))))))))), by omega⟩ hP hS (dk_at dkX12_made_4 2 rfl)
  · refine tp_i (y := iI 19) (congrArg iI c1) ?_
    refine lv_tableIn (off := 154) (tgt := 155) hx hb (dk_at dkX12_made_0 1 rfl) (by decide +kernel) (by decide +kernel) (by decide +kernel) (by decide) ?_
    refine lv_lload_n hx hb (dk_at dkX12_made_4 3 rfl) rfl (lv_at hl 1 rfl) ?_
    refine lv_lload_n hx hb (dk_at dkX12_made_4 4 rfl) rfl (lv_at hl 2 rfl) ?_
    refine x_lcmp hx hb (dk_at dkX12_made_4 5 rfl) (by omega) (by omega) (fun z35 hz35 hz35b hz35c => ?_)
    have gz35 := Hd.mk (And.intro hz35 (And.intro hz35b hz35c))
    refine lv_if_ne (tgt := 165) hx hb (dk_at dkX12_made_4 6 rfl) (by decide) (fun c36 => ?_) (fun c36 => ?_)
    · have c36 : ¬ z35 = 0 := mt (i_eq0 (by omega)).mpr c36
      refine lv_lconst (v := jI 0) hx hb (dk_at dkX12_made_4 9 rfl) (by decide +kernel) ?_
      exact RET 0 _ _ _ _ _ ⟨rfl, (u_r_X12_made (Or.inr (Or.inr (Or.inr (Or.inr (Or.inr (Or.inr (Or.inr (Or.inr (Or.inr (Or.inr (Or.inl ⟨c1, ⟨z35, gz35.out, (Or.inl ⟨c36, rfl⟩)⟩⟩)))))))))))), by omega⟩ hP hS (dk_at dkX12_made_4 10 rfl)
    · have c36 : z35 = 0 := (i_eq0 (by omega)).mp c36
      refine lv_lconst (v := jI 1) hx hb (dk_at dkX12_made_4 7 rfl) (by decide +kernel) ?_
      refine lv_goto (tgt := 166) hx hb (dk_at dkX12_made_4 8 rfl) (by decide) ?_
      exact RET 1 _ _ _ _ _ ⟨rfl, (u_r_X12_made (Or.inr (Or.inr (Or.inr (Or.inr (Or.inr (Or.inr (Or.inr (Or.inr (Or.inr (Or.inr (Or.inl ⟨c1, ⟨z35, gz35.out, (Or.inr ⟨c36, rfl⟩)⟩⟩)))))))))))), by omega⟩ hP hS (dk_at dkX12_made_4 10 rfl)
  · refine tp_i (y := iI 20) (congrArg iI c1) ?_
    refine lv_tableIn (off := 166) (tgt := 167) hx hb (dk_at dkX12_made_0 1 rfl) (by decide +kernel) (by decide +kernel) (by decide +kernel) (by decide) ?_
    refine lv_lload_n hx hb (dk_at dkX12_made_4 11 rfl) rfl (lv_at hl 1 rfl) ?_
    refine lv_lload_n hx hb (dk_at dkX12_made_4 12 rfl) rfl (lv_at hl 2 rfl) ?_
    refine lv_lmul hx hb (dk_at dkX12_made_4 13 rfl) ?_
    refine x_abslE (fun z37 gz37 hz37 => ?_)
    exact RET z37 _ _ _ _ _ ⟨rfl, (u_r_X12_made (Or.inr (Or.inr (Or.inr (Or.inr (Or.inr (Or.inr (Or.inr (Or.inr (Or.inr (Or.inr (Or.inr ⟨c1, ⟨z37, gz37.out, rfl⟩⟩)))))))))))), by omega⟩ hP hS (dk_at dkX12_made_4 14 rfl)
theorem dkX12_ahead_0 : dkq cX12_ahead [(0, .aload_n 0, 1), (1, .getfield 26, 3), (4, .istore_n 1, 1), (5, .iload_n 1, 1), (6, .aload_n 0, 1), (7, .getfield 17, 3), (10, .if_icmp .ge 31, 3), (13, .aload_n 0, 1), (14, .getfield 7, 3), (17, .iload_n 1, 1), (18, .iaload, 1), (19, .bipush 32, 2), (21, .if_icmp .eq 14, 3), (24, .aload_n 0, 1), (25, .getfield 7, 3), (28, .iload_n 1, 1)] = true := by decide +kernel
theorem dkX12_ahead_1 : dkq cX12_ahead [(29, .iaload, 1), (30, .bipush 10, 2), (32, .if_icmp .ne 9, 3), (35, .iinc 1 1, 3), (38, .goto (-33), 3), (41, .aload_n 0, 1), (42, .iload_n 1, 1), (43, .putfield 23, 3), (46, .aload_n 0, 1), (47, .iload_n 1, 1), (48, .putfield 26, 3), (51, .aload_n 0, 1), (52, .iconst 0, 1), (53, .putfield 20, 3), (56, .iload_n 1, 1), (57, .aload_n 0, 1)] = true := by decide +kernel
theorem dkX12_ahead_2 : dkq cX12_ahead [(58, .getfield 17, 3), (61, .if_icmp .lt 4, 3), (64, .return_, 1), (65, .aload_n 0, 1), (66, .getfield 7, 3), (69, .iload_n 1, 1), (70, .iaload, 1), (71, .invokestatic 279, 3), (74, .istore_n 2, 1), (75, .aload_n 0, 1), (76, .getfield 7, 3), (79, .iload_n 1, 1), (80, .iaload, 1), (81, .invokestatic 283, 3), (84, .istore_n 3, 1), (85, .iload_n 2, 1)] = true := by decide +kernel
theorem dkX12_ahead_3 : dkq cX12_ahead [(86, .ifCond .ne 7, 3), (89, .iload_n 3, 1), (90, .ifCond .eq 41, 3), (93, .iload_n 1, 1), (94, .ifCond .le 37, 3), (97, .aload_n 0, 1), (98, .getfield 7, 3), (101, .iload_n 1, 1), (102, .iconst 1, 1), (103, .isub, 1), (104, .iaload, 1), (105, .invokestatic 279, 3), (108, .ifCond .ne 17, 3), (111, .aload_n 0, 1), (112, .getfield 7, 3), (115, .iload_n 1, 1)] = true := by decide +kernel
theorem dkX12_ahead_4 : dkq cX12_ahead [(116, .iconst 1, 1), (117, .isub, 1), (118, .iaload, 1), (119, .invokestatic 283, 3), (122, .ifCond .eq 9, 3), (125, .aload_n 0, 1), (126, .iconst 1, 1), (127, .iload_n 1, 1), (128, .invokevirtual 286, 3), (131, .aload_n 0, 1), (132, .iconst 0, 1), (133, .putfield 29, 3), (136, .aload_n 0, 1), (137, .lconst 0, 1), (138, .putfield 32, 3), (141, .aload_n 0, 1)] = true := by decide +kernel
theorem dkX12_ahead_5 : dkq cX12_ahead [(142, .iconst 3, 1), (143, .putfield 20, 3), (146, .aload_n 0, 1), (147, .iload_n 1, 1), (148, .iconst 1, 1), (149, .iadd, 1), (150, .putfield 26, 3), (153, .iload_n 2, 1), (154, .ifCond .ne 18, 3), (157, .iload_n 3, 1), (158, .ifCond .ne 14, 3), (161, .aload_n 0, 1), (162, .aload_n 0, 1), (163, .getfield 7, 3), (166, .iload_n 1, 1), (167, .iaload, 1)] = true := by decide +kernel
theorem dkX12_ahead_6 : dkq cX12_ahead [(168, .putfield 29, 3), (171, .return_, 1), (172, .aload_n 0, 1), (173, .iload_n 2, 1), (174, .ifCond .eq 7, 3), (177, .iconst 1, 1), (178, .goto 4, 3), (181, .iconst 2, 1), (182, .putfield 20, 3), (185, .iload_n 2, 1), (186, .ifCond .eq 8, 3), (189, .bipush 6, 2), (191, .goto 4, 3), (194, .iconst 4, 1), (195, .istore 4, 2), (197, .iconst 0, 1)] = true := by decide +kernel
theorem dkX12_ahead_7 : dkq cX12_ahead [(198, .istore 5, 2), (200, .iload_n 1, 1), (201, .aload_n 0, 1), (202, .getfield 17, 3), (205, .if_icmp .ge 118, 3), (208, .iload_n 2, 1), (209, .ifCond .eq 18, 3), (212, .aload_n 0, 1), (213, .getfield 7, 3), (216, .iload_n 1, 1), (217, .iaload, 1), (218, .invokestatic 279, 3), (221, .ifCond .eq 102, 3), (224, .goto 15, 3), (227, .aload_n 0, 1), (228, .getfield 7, 3)] = true := by decide +kernel
theorem dkX12_ahead_8 : dkq cX12_ahead [(231, .iload_n 1, 1), (232, .iaload, 1), (233, .invokestatic 283, 3), (236, .ifCond .eq 87, 3), (239, .iload 5, 2), (241, .iload 4, 2), (243, .if_icmp .ne 9, 3), (246, .aload_n 0, 1), (247, .iconst 1, 1), (248, .iload_n 1, 1), (249, .invokevirtual 286, 3), (252, .iload 5, 2), (254, .iload 4, 2), (256, .if_icmp .ge 26, 3), (259, .iload_n 2, 1), (260, .ifCond .eq 22, 3)] = true := by decide +kernel
theorem dkX12_ahead_9 : dkq cX12_ahead [(263, .aload_n 0, 1), (264, .aload_n 0, 1), (265, .getfield 32, 3), (268, .bipush 8, 2), (270, .lshl, 1), (271, .aload_n 0, 1), (272, .getfield 7, 3), (275, .iload_n 1, 1), (276, .iaload, 1), (277, .i2l, 1), (278, .lor, 1), (279, .putfield 32, 3), (282, .iload 5, 2), (284, .iload 4, 2), (286, .if_icmp .ge 28, 3), (289, .iload_n 3, 1)] = true := by decide +kernel
theorem dkX12_ahead_10 : dkq cX12_ahead [(290, .ifCond .eq 24, 3), (293, .aload_n 0, 1), (294, .bipush 10, 2), (296, .aload_n 0, 1), (297, .getfield 29, 3), (300, .imul, 1), (301, .aload_n 0, 1), (302, .getfield 7, 3), (305, .iload_n 1, 1), (306, .iaload, 1), (307, .iadd, 1), (308, .bipush 48, 2), (310, .isub, 1), (311, .putfield 29, 3), (314, .iinc 5 1, 3), (317, .iinc 1 1, 3)] = true := by decide +kernel
theorem dkX12_ahead_11 : dkq cX12_ahead [(320, .goto (-120), 3), (323, .aload_n 0, 1), (324, .iload_n 1, 1), (325, .putfield 26, 3), (328, .return_, 1)] = true := by decide +kernel
theorem dkX12_must_0 : dkq cX12_must [(0, .aload_n 0, 1), (1, .iload_n 1, 1), (2, .invokevirtual 290, 3), (5, .ifCond .ne 12, 3), (8, .aload_n 0, 1), (9, .iconst 1, 1), (10, .aload_n 0, 1), (11, .getfield 23, 3), (14, .invokevirtual 286, 3), (17, .aload_n 0, 1), (18, .getfield 36, 3), (21, .ifCond .ne 7, 3), (24, .aload_n 0, 1), (25, .invokevirtual 293, 3), (28, .return_, 1)] = true := by decide +kernel
theorem dkX12_named_0 : dkq cX12_named [(0, .iload_n 1, 1), (1, .ifCond .ne 15, 3), (4, .aload_n 0, 1), (5, .getfield 51, 3), (8, .aload_n 0, 1), (9, .getfield 155, 3), (12, .iaload, 1), (13, .goto 63, 3), (16, .iload_n 1, 1), (17, .iconst 1, 1), (18, .if_icmp .ne 15, 3), (21, .aload_n 0, 1), (22, .getfield 58, 3), (25, .aload_n 0, 1), (26, .getfield 155, 3), (29, .iaload, 1)] = true := by decide +kernel
theorem dkX12_named_1 : dkq cX12_named [(30, .goto 46, 3), (33, .iload_n 1, 1), (34, .iconst 2, 1), (35, .if_icmp .ne 15, 3), (38, .aload_n 0, 1), (39, .getfield 80, 3), (42, .aload_n 0, 1), (43, .getfield 155, 3), (46, .iaload, 1), (47, .goto 29, 3), (50, .iload_n 1, 1), (51, .iconst 3, 1), (52, .if_icmp .ne 15, 3), (55, .aload_n 0, 1), (56, .getfield 95, 3), (59, .aload_n 0, 1)] = true := by decide +kernel
theorem dkX12_named_2 : dkq cX12_named [(60, .getfield 155, 3), (63, .iaload, 1), (64, .goto 12, 3), (67, .aload_n 0, 1), (68, .getfield 104, 3), (71, .aload_n 0, 1), (72, .getfield 155, 3), (75, .iaload, 1), (76, .istore 4, 2), (78, .iconst 0, 1), (79, .istore 5, 2), (81, .iload 5, 2), (83, .iload 4, 2), (85, .if_icmp .ge 28, 3), (88, .aload_n 0, 1), (89, .aload_n 0, 1)] = true := by decide +kernel
theorem dkX12_named_3 : dkq cX12_named [(90, .getfield 155, 3), (93, .iload_n 1, 1), (94, .iload 5, 2), (96, .invokevirtual 348, 3), (99, .lload_n 2, 1), (100, .lcmp, 1), (101, .ifCond .ne 6, 3), (104, .iload 5, 2), (106, .ireturn, 1), (107, .iinc 5 1, 3), (110, .goto (-29), 3), (113, .iconst (-1), 1), (114, .ireturn, 1)] = true := by decide +kernel
theorem dkX12_nameOf_0 : dkq cX12_nameOf [(0, .iload_n 2, 1), (1, .tableswitch 77 0 3 #[31, 43, 55, 66], 31), (32, .aload_n 0, 1), (33, .getfield 54, 3), (36, .bipush 8, 2), (38, .iload_n 1, 1), (39, .imul, 1), (40, .iload_n 3, 1), (41, .iadd, 1), (42, .laload, 1), (43, .lreturn, 1), (44, .aload_n 0, 1), (45, .getfield 61, 3), (48, .bipush 10, 2), (50, .iload_n 1, 1), (51, .imul, 1)] = true := by decide +kernel
theorem dkX12_nameOf_1 : dkq cX12_nameOf [(52, .iload_n 3, 1), (53, .iadd, 1), (54, .laload, 1), (55, .lreturn, 1), (56, .aload_n 0, 1), (57, .getfield 83, 3), (60, .iconst 4, 1), (61, .iload_n 1, 1), (62, .imul, 1), (63, .iload_n 3, 1), (64, .iadd, 1), (65, .laload, 1), (66, .lreturn, 1), (67, .aload_n 0, 1), (68, .getfield 98, 3), (71, .iconst 3, 1)] = true := by decide +kernel
theorem dkX12_nameOf_2 : dkq cX12_nameOf [(72, .iload_n 1, 1), (73, .imul, 1), (74, .iload_n 3, 1), (75, .iadd, 1), (76, .laload, 1), (77, .lreturn, 1), (78, .aload_n 0, 1), (79, .getfield 107, 3), (82, .iconst 4, 1), (83, .iload_n 1, 1), (84, .imul, 1), (85, .iload_n 3, 1), (86, .iadd, 1), (87, .laload, 1), (88, .lreturn, 1)] = true := by decide +kernel
theorem dkX12_number_0 : dkq cX12_number [(0, .aload_n 0, 1), (1, .getfield 36, 3), (4, .ifCond .le 5, 3), (7, .iconst 0, 1), (8, .ireturn, 1), (9, .aload_n 0, 1), (10, .getfield 20, 3), (13, .iconst 2, 1), (14, .if_icmp .eq 12, 3), (17, .aload_n 0, 1), (18, .iconst 1, 1), (19, .aload_n 0, 1), (20, .getfield 23, 3), (23, .invokevirtual 286, 3), (26, .aload_n 0, 1), (27, .getfield 36, 3)] = true := by decide +kernel
theorem dkX12_number_1 : dkq cX12_number [(30, .ifCond .ne 24, 3), (33, .aload_n 0, 1), (34, .getfield 29, 3), (37, .iload_n 1, 1), (38, .iload_n 2, 1), (39, .invokestatic 352, 3), (42, .ifCond .ne 12, 3), (45, .aload_n 0, 1), (46, .iconst 4, 1), (47, .aload_n 0, 1), (48, .getfield 23, 3), (51, .invokevirtual 286, 3), (54, .aload_n 0, 1), (55, .getfield 29, 3), (58, .istore_n 3, 1), (59, .aload_n 0, 1)] = true := by decide +kernel
theorem dkX12_number_2 : dkq cX12_number [(60, .getfield 36, 3), (63, .ifCond .ne 7, 3), (66, .aload_n 0, 1), (67, .invokevirtual 293, 3), (70, .iload_n 3, 1), (71, .ireturn, 1)] = true := by decide +kernel
theorem dkX12_must__0 : dkq cX12_must_ [(0, .aload_n 0, 1), (1, .getfield 36, 3), (4, .ifCond .le 4, 3), (7, .return_, 1), (8, .aload_n 0, 1), (9, .lload_n 1, 1), (10, .invokevirtual 368, 3), (13, .ifCond .ne 12, 3), (16, .aload_n 0, 1), (17, .iconst 1, 1), (18, .aload_n 0, 1), (19, .getfield 23, 3), (22, .invokevirtual 286, 3), (25, .aload_n 0, 1), (26, .getfield 36, 3), (29, .ifCond .ne 7, 3)] = true := by decide +kernel
theorem dkX12_must__1 : dkq cX12_must_ [(32, .aload_n 0, 1), (33, .invokevirtual 293, 3), (36, .return_, 1)] = true := by decide +kernel
abbrev tr_r_X12_nameOf (x1 : Int) (x2 : Int) (x3 : Int) (A : St) (z : Int) : Prop := (((x2 < 0 ∨ 3 < x2) ∧ (∃ z2 : Int, z2 = A 20 (4 * x1 + x3).toNat ∧ (z = z2))) ∨ (x2 = 0 ∧ (∃ z3 : Int, z3 = A 3 (8 * x1 + x3).toNat ∧ (z = z3))) ∨ (x2 = 1 ∧ (∃ z4 : Int, z4 = A 5 (10 * x1 + x3).toNat ∧ (z = z4))) ∨ (x2 = 2 ∧ (∃ z5 : Int, z5 = A 12 (4 * x1 + x3).toNat ∧ (z = z5))) ∨ (x2 = 3 ∧ (∃ z6 : Int, z6 = A 17 (3 * x1 + x3).toNat ∧ (z = z6))))
def r_X12_nameOf (x1 : Int) (x2 : Int) (x3 : Int) (A : St) (z : Int) : Prop := tr_r_X12_nameOf x1 x2 x3 A z
theorem u_r_X12_nameOf {x1 : Int} {x2 : Int} {x3 : Int} {A : St} {z : Int} (h : tr_r_X12_nameOf x1 x2 x3 A z) : r_X12_nameOf x1 x2 x3 A z := h
def q_X12_nameOf (x1 : Int) (x2 : Int) (x3 : Int) (A : St) (z : Int) : Prop := r_X12_nameOf x1 x2 x3 A z ∧ (-9223372036854775808 ≤ z ∧ z ≤ 9223372036854775807)
def ws_mc_X12_nameOf : List Cond := .code yX12_nameOf cX12_nameOf 4 (some .long) :: WX
set_option maxHeartbeats 4000000 in
set_option maxRecDepth 100000 in
theorem mc_X12_nameOf (l : Launch) (dC : Nat → ClassId) (dI : Nat → Nat → Nat) (cB cI cJ cZ cQ : ClassId) (q : Nat → Nat) (A : St) (x1 x2 x3 : Int) (hI : IM A) (hx1 : (0 : Int) ≤ x1 ∧ x1 ≤ 1) (hx2 : (0 : Int) ≤ x2 ∧ x2 ≤ 4) (hx3 : (0 : Int) ≤ x3 ∧ x3 ≤ 9) (hp0 : (x2 = 0 → x3 < 8) ∧ (x2 = 1 → x3 < 10) ∧ (x2 = 2 → x3 < 4) ∧ (x2 = 3 → x3 < 3) ∧ (x2 = 4 → x3 < 4)) : XMl l yX12_nameOf ws_mc_X12_nameOf ({ frames := 0, cells := 0, slots := 0, locals := 0 } : Room) (dC, dI) (tyA cB cI cJ cZ cQ) (WM cI cJ cZ q) A [.ref (q 0), .int (iI x1), .int (iI x2), .int (iI x3)] (fun z u => A = u ∧ r_X12_nameOf x1 x2 x3 A z ∧ (-9223372036854775808 ≤ z ∧ z ≤ 9223372036854775807)) := by
  refine x_metl (cc := cX12_nameOf) (maxL := 4) WM_adr (by decide +kernel) rfl (Nat.le_of_ble_eq_true rfl) (fun p e s m below meth c Q AS ls hx hb hml hown hts hK hDD hA0 hP hS hl RET => ?_)
  have hown : s.vm.findClass RX12 = some m.cls := hown
  have hl : lv_has ls 4 [(0, .ref (q 0)), (1, .int (iI x1)), (2, .int (iI x2)), (3, .int (iI x3))] := hl
  have hiX12 : ∀ w ∈ u_ws RX12 TX12 85, w ∈ ws_mc_X12_nameOf := fun w h => List.mem_cons_of_mem _ (wx_lay w h)
  obtain ⟨H, hHe⟩ : ∃ H : Heap, H = s.heap := ⟨_, rfl⟩
  rw [← hHe] at hP
  have hS : va_S AS s.heap H [] := by rw [hHe]; exact hS
  suffices hgo : ∀ locs : List Loc, va_S AS s.heap H locs → W p l e (headSpec ws_mc_X12_nameOf ({ frames := 0, cells := 0, slots := 0, locals := 0 } : Room)).room s m [.ref (q 0), .int (iI x1), .int (iI x2), .int (iI x3)].toArray below meth c H locs 0 0 Q (F0 m 0 ls []) by
    have := hgo [] hS
    rw [hHe] at this
    exact this
  clear hS hHe
  intro locs hS
  refine lv_iload_n hx hb (dk_at dkX12_nameOf_0 0 rfl) rfl (lv_at hl 2 rfl) ?_
  rcases (show (x2 < 0 ∨ 3 < x2) ∨ x2 = 0 ∨ x2 = 1 ∨ x2 = 2 ∨ x2 = 3 by omega) with c1 | c1 | c1 | c1 | c1
  · refine lv_tableOut (tgt := 78) hx hb (dk_at dkX12_nameOf_0 1 rfl) (by rw [iI_toInt (rb hx2 (by decide) (by decide))]; exact c1) (by decide) ?_
    refine lv_aload_n hx hb (dk_at dkX12_nameOf_2 6 rfl) rfl (lv_at hl 0 rfl) ?_
    refine va_get (D := (dC, dI)) (ci := 12) (v := .ref (q 20)) (C := RX12) (T := TX12) (N := 85) hx hb hts hiX12 hown hK hP 0 wm0 rfl 31 (by decide) (hts _ (List.mem_cons_of_mem _ wlq_1_25)) (fun _ h9 => h9) rfl (dk_at dkX12_nameOf_2 7 rfl) ?_
    refine lv_iconst (v := iI 4) hx hb (dk_at dkX12_nameOf_2 8 rfl) (by decide +kernel) ?_
    refine lv_iload_n hx hb (dk_at dkX12_nameOf_2 9 rfl) rfl (lv_at hl 1 rfl) ?_
    refine x_mulv (v := 4 * x1) hx hb (dk_at dkX12_nameOf_2 10 rfl) (by omega) ?_
    refine lv_iload_n hx hb (dk_at dkX12_nameOf_2 11 rfl) rfl (lv_at hl 3 rfl) ?_
    refine x_addv (v := 4 * x1 + x3) hx hb (dk_at dkX12_nameOf_2 12 rfl) (by omega) ?_
    refine x_lald hx hb hK hP 20 2 wm20 rfl (by omega) (by decide) (dk_at dkX12_nameOf_2 13 rfl) (fun z2 hz2 => ?_)
    have rz2 : (-9223372036854775808 : Int) ≤ z2 ∧ z2 ≤ 9223372036854775807 := by rw [hz2]; exact hI 20 _
    have gz2 := Hd.mk hz2
    have hz2 : z2 = A 20 (4 * x1 + x3).toNat := hz2
    exact RET z2 _ _ _ _ _ ⟨rfl, (u_r_X12_nameOf (Or.inl ⟨c1, ⟨z2, gz2.out, rfl⟩⟩)), by omega⟩ hP hS (dk_at dkX12_nameOf_2 14 rfl)
  · refine tp_i (y := iI 0) (congrArg iI c1) ?_
    refine lv_tableIn (off := 31) (tgt := 32) hx hb (dk_at dkX12_nameOf_0 1 rfl) (by decide +kernel) (by decide +kernel) (by decide +kernel) (by decide) ?_
    refine lv_aload_n hx hb (dk_at dkX12_nameOf_0 2 rfl) rfl (lv_at hl 0 rfl) ?_
    refine va_get (D := (dC, dI)) (ci := 12) (v := .ref (q 3)) (C := RX12) (T := TX12) (N := 85) hx hb hts hiX12 hown hK hP 0 wm0 rfl 14 (by decide) (hts _ (List.mem_cons_of_mem _ wlq_1_21)) (fun _ h9 => h9) rfl (dk_at dkX12_nameOf_0 3 rfl) ?_
    refine lv_bipush (v := iI 8) hx hb (dk_at dkX12_nameOf_0 4 rfl) (by decide +kernel) ?_
    refine lv_iload_n hx hb (dk_at dkX12_nameOf_0 5 rfl) rfl (lv_at hl 1 rfl) ?_
    refine x_mulv (v := 8 * x1) hx hb (dk_at dkX12_nameOf_0 6 rfl) (by omega) ?_
    refine lv_iload_n hx hb (dk_at dkX12_nameOf_0 7 rfl) rfl (lv_at hl 3 rfl) ?_
    refine x_addv (v := 8 * x1 + x3) hx hb (dk_at dkX12_nameOf_0 8 rfl) (by omega) ?_
    refine x_lald hx hb hK hP 3 2 wm3 rfl (by omega) (by decide) (dk_at dkX12_nameOf_0 9 rfl) (fun z3 hz3 => ?_)
    have rz3 : (-9223372036854775808 : Int) ≤ z3 ∧ z3 ≤ 9223372036854775807 := by rw [hz3]; exact hI 3 _
    have gz3 := Hd.mk hz3
    have hz3 : z3 = A 3 (8 * x1 + x3).toNat := hz3
    exact RET z3 _ _ _ _ _ ⟨rfl, (u_r_X12_nameOf (Or.inr (Or.inl ⟨c1, ⟨z3, gz3.out, rfl⟩⟩))), by omega⟩ hP hS (dk_at dkX12_nameOf_0 10 rfl)
  · refine tp_i (y := iI 1) (congrArg iI c1) ?_
    refine lv_tableIn (off := 43) (tgt := 44) hx hb (dk_at dkX12_nameOf_0 1 rfl) (by decide +kernel) (by decide +kernel) (by decide +kernel) (by decide) ?_
    refine lv_aload_n hx hb (dk_at dkX12_nameOf_0 11 rfl) rfl (lv_at hl 0 rfl) ?_
    refine va_get (D := (dC, dI)) (ci := 12) (v := .ref (q 5)) (C := RX12) (T := TX12) (N := 85) hx hb hts hiX12 hown hK hP 0 wm0 rfl 16 (by decide) (hts _ (List.mem_cons_of_mem _ wlq_1_22)) (fun _ h9 => h9) rfl (dk_at dkX12_nameOf_0 12 rfl) ?_
    refine lv_bipush (v := iI 10) hx hb (dk_at dkX12_nameOf_0 13 rfl) (by decide +kernel) ?_
    refine lv_iload_n hx hb (dk_at dkX12_nameOf_0 14 rfl) rfl (lv_at hl 1 rfl) ?_
    refine x_mulv (v := 10 * x1) hx hb (dk_at dkX12_nameOf_0 15 rfl) (by omega) ?_
    refine lv_iload_n hx hb (dk_at dkX12_nameOf_1 0 rfl) rfl (lv_at hl 3 rfl) ?_
    refine x_addv (v := 10 * x1 + x3) hx hb (dk_at dkX12_nameOf_1 1 rfl) (by omega) ?_
    refine x_lald hx hb hK hP 5 2 wm5 rfl (by omega) (by decide) (dk_at dkX12_nameOf_1 2 rfl) (fun z4 hz4 => ?_)
    have rz4 : (-9223372036854775808 : Int) ≤ z4 ∧ z4 ≤ 9223372036854775807 := by rw [hz4]; exact hI 5 _
    have gz4 := Hd.mk hz4
    have hz4 : z4 = A 5 (10 * x1 + x3).toNat := hz4
    exact RET z4 _ _ _ _ _ ⟨rfl, (u_r_X12_nameOf (Or.inr (Or.inr (Or.inl ⟨c1, ⟨z4, gz4.out, rfl⟩⟩)))), by omega⟩ hP hS (dk_at dkX12_nameOf_1 3 rfl)
  · refine tp_i (y := iI 2) (congrArg iI c1) ?_
    refine lv_tableIn (off := 55) (tgt := 56) hx hb (dk_at dkX12_nameOf_0 1 rfl) (by decide +kernel) (by decide +kernel) (by decide +kernel) (by decide) ?_
    refine lv_aload_n hx hb (dk_at dkX12_nameOf_1 4 rfl) rfl (lv_at hl 0 rfl) ?_
    refine va_get (D := (dC, dI)) (ci := 12) (v := .ref (q 12)) (C := RX12) (T := TX12) (N := 85) hx hb hts hiX12 hown hK hP 0 wm0 rfl 23 (by decide) (hts _ (List.mem_cons_of_mem _ wlq_1_23)) (fun _ h9 => h9) rfl (dk_at dkX12_nameOf_1 5 rfl) ?_
    refine lv_iconst (v := iI 4) hx hb (dk_at dkX12_nameOf_1 6 rfl) (by decide +kernel) ?_
    refine lv_iload_n hx hb (dk_at dkX12_nameOf_1 7 rfl) rfl (lv_at hl 1 rfl) ?_
    refine x_mulv (v := 4 * x1) hx hb (dk_at dkX12_nameOf_1 8 rfl) (by omega) ?_
    refine lv_iload_n hx hb (dk_at dkX12_nameOf_1 9 rfl) rfl (lv_at hl 3 rfl) ?_
    refine x_addv (v := 4 * x1 + x3) hx hb (dk_at dkX12_nameOf_1 10 rfl) (by omega) ?_
    refine x_lald hx hb hK hP 12 2 wm12 rfl (by omega) (by decide) (dk_at dkX12_nameOf_1 11 rfl) (fun z5 hz5 => ?_)
    have rz5 : (-9223372036854775808 : Int) ≤ z5 ∧ z5 ≤ 9223372036854775807 := by rw [hz5]; exact hI 12 _
    have gz5 := Hd.mk hz5
    have hz5 : z5 = A 12 (4 * x1 + x3).toNat := hz5
    exact RET z5 _ _ _ _ _ ⟨rfl, (u_r_X12_nameOf (Or.inr (Or.inr (Or.inr (Or.inl ⟨c1, ⟨z5, gz5.out, rfl⟩⟩))))), by omega⟩ hP hS (dk_at dkX12_nameOf_1 12 rfl)
  · refine tp_i (y := iI 3) (congrArg iI c1) ?_
    refine lv_tableIn (off := 66) (tgt := 67) hx hb (dk_at dkX12_nameOf_0 1 rfl) (by decide +kernel) (by decide +kernel) (by decide +kernel) (by decide) ?_
    refine lv_aload_n hx hb (dk_at dkX12_nameOf_1 13 rfl) rfl (lv_at hl 0 rfl) ?_
    refine va_get (D := (dC, dI)) (ci := 12) (v := .ref (q 17)) (C := RX12) (T := TX12) (N := 85) hx hb hts hiX12 hown hK hP 0 wm0 rfl 28 (by decide) (hts _ (List.mem_cons_of_mem _ wlq_1_24)) (fun _ h9 => h9) rfl (dk_at dkX12_nameOf_1 14 rfl) ?_
    refine lv_iconst (v := iI 3) hx hb (dk_at dkX12_nameOf_1 15 rfl) (by decide +kernel) ?_
    refine lv_iload_n hx hb (dk_at dkX12_nameOf_2 0 rfl) rfl (lv_at hl 1 rfl) ?_
    refine x_mulv (v := 3 * x1) hx hb (dk_at dkX12_nameOf_2 1 rfl) (by omega) ?_
    refine lv_iload_n hx hb (dk_at dkX12_nameOf_2 2 rfl) rfl (lv_at hl 3 rfl) ?_
    refine x_addv (v := 3 * x1 + x3) hx hb (dk_at dkX12_nameOf_2 3 rfl) (by omega) ?_
    refine x_lald hx hb hK hP 17 2 wm17 rfl (by omega) (by decide) (dk_at dkX12_nameOf_2 4 rfl) (fun z6 hz6 => ?_)
    have rz6 : (-9223372036854775808 : Int) ≤ z6 ∧ z6 ≤ 9223372036854775807 := by rw [hz6]; exact hI 17 _
    have gz6 := Hd.mk hz6
    have hz6 : z6 = A 17 (3 * x1 + x3).toNat := hz6
    exact RET z6 _ _ _ _ _ ⟨rfl, (u_r_X12_nameOf (Or.inr (Or.inr (Or.inr (Or.inr ⟨c1, ⟨z6, gz6.out, rfl⟩⟩))))), by omega⟩ hP hS (dk_at dkX12_nameOf_2 5 rfl)

abbrev tr_d_X12_named_1 (x2 : Int) (z2 : Int) (A : St) (z : Int) (K1 : Int → Prop) (z3 : Int) : Prop := ((0 ≤ z3 ∧ z3 ≤ 2147483647) ∧ (((z2 ≤ z3) ∧ (z = (-1))) ∨ ((¬ z2 ≤ z3) ∧ (∃ z11 : Int, q_X12_nameOf (A 0 47) 0 z3 A z11 ∧ (∃ z14 : Int, ((-1 ≤ z14 ∧ z14 ≤ 1) ∧ (z14 = 0 ↔ z11 = x2) ∧ (z14 < 0 ↔ z11 < x2)) ∧ (((¬ z14 = 0) ∧ (K1 (z3 + 1))) ∨ ((z14 = 0) ∧ (z = z3))))))))
def d_X12_named_1 (x2 : Int) (z2 : Int) (A : St) (z : Int) : Nat → Int → Prop
  | 0, _ => False
  | nn9 + 1, z3 => tr_d_X12_named_1 x2 z2 A z (fun z3 => d_X12_named_1 x2 z2 A z nn9 z3) z3
theorem u_d_X12_named_1 {x2 : Int} {z2 : Int} {A : St} {z : Int} {nn9 : Nat} {z3 : Int} (h : tr_d_X12_named_1 x2 z2 A z (fun z3 => d_X12_named_1 x2 z2 A z nn9 z3) z3) : d_X12_named_1 x2 z2 A z (nn9 + 1) z3 := h
abbrev tr_d_X12_named_2 (x2 : Int) (z18 : Int) (A : St) (z : Int) (K2 : Int → Prop) (z19 : Int) : Prop := ((0 ≤ z19 ∧ z19 ≤ 2147483647) ∧ (((z18 ≤ z19) ∧ (z = (-1))) ∨ ((¬ z18 ≤ z19) ∧ (∃ z27 : Int, q_X12_nameOf (A 0 47) 1 z19 A z27 ∧ (∃ z30 : Int, ((-1 ≤ z30 ∧ z30 ≤ 1) ∧ (z30 = 0 ↔ z27 = x2) ∧ (z30 < 0 ↔ z27 < x2)) ∧ (((¬ z30 = 0) ∧ (K2 (z19 + 1))) ∨ ((z30 = 0) ∧ (z = z19))))))))
def d_X12_named_2 (x2 : Int) (z18 : Int) (A : St) (z : Int) : Nat → Int → Prop
  | 0, _ => False
  | nn9 + 1, z19 => tr_d_X12_named_2 x2 z18 A z (fun z19 => d_X12_named_2 x2 z18 A z nn9 z19) z19
theorem u_d_X12_named_2 {x2 : Int} {z18 : Int} {A : St} {z : Int} {nn9 : Nat} {z19 : Int} (h : tr_d_X12_named_2 x2 z18 A z (fun z19 => d_X12_named_2 x2 z18 A z nn9 z19) z19) : d_X12_named_2 x2 z18 A z (nn9 + 1) z19 := h
abbrev tr_d_X12_named_3 (x2 : Int) (z35 : Int) (A : St) (z : Int) (K3 : Int → Prop) (z36 : Int) : Prop := ((0 ≤ z36 ∧ z36 ≤ 2147483647) ∧ (((z35 ≤ z36) ∧ (z = (-1))) ∨ ((¬ z35 ≤ z36) ∧ (∃ z44 : Int, q_X12_nameOf (A 0 47) 2 z36 A z44 ∧ (∃ z47 : Int, ((-1 ≤ z47 ∧ z47 ≤ 1) ∧ (z47 = 0 ↔ z44 = x2) ∧ (z47 < 0 ↔ z44 < x2)) ∧ (((¬ z47 = 0) ∧ (K3 (z36 + 1))) ∨ ((z47 = 0) ∧ (z = z36))))))))
def d_X12_named_3 (x2 : Int) (z35 : Int) (A : St) (z : Int) : Nat → Int → Prop
  | 0, _ => False
  | nn9 + 1, z36 => tr_d_X12_named_3 x2 z35 A z (fun z36 => d_X12_named_3 x2 z35 A z nn9 z36) z36
theorem u_d_X12_named_3 {x2 : Int} {z35 : Int} {A : St} {z : Int} {nn9 : Nat} {z36 : Int} (h : tr_d_X12_named_3 x2 z35 A z (fun z36 => d_X12_named_3 x2 z35 A z nn9 z36) z36) : d_X12_named_3 x2 z35 A z (nn9 + 1) z36 := h
abbrev tr_d_X12_named_4 (x2 : Int) (z53 : Int) (A : St) (z : Int) (K4 : Int → Prop) (z54 : Int) : Prop := ((0 ≤ z54 ∧ z54 ≤ 2147483647) ∧ (((z53 ≤ z54) ∧ (z = (-1))) ∨ ((¬ z53 ≤ z54) ∧ (∃ z62 : Int, q_X12_nameOf (A 0 47) 3 z54 A z62 ∧ (∃ z65 : Int, ((-1 ≤ z65 ∧ z65 ≤ 1) ∧ (z65 = 0 ↔ z62 = x2) ∧ (z65 < 0 ↔ z62 < x2)) ∧ (((¬ z65 = 0) ∧ (K4 (z54 + 1))) ∨ ((z65 = 0) ∧ (z = z54))))))))
def d_X12_named_4 (x2 : Int) (z53 : Int) (A : St) (z : Int) : Nat → Int → Prop
  | 0, _ => False
  | nn9 + 1, z54 => tr_d_X12_named_4 x2 z53 A z (fun z54 => d_X12_named_4 x2 z53 A z nn9 z54) z54
theorem u_d_X12_named_4 {x2 : Int} {z53 : Int} {A : St} {z : Int} {nn9 : Nat} {z54 : Int} (h : tr_d_X12_named_4 x2 z53 A z (fun z54 => d_X12_named_4 x2 z53 A z nn9 z54) z54) : d_X12_named_4 x2 z53 A z (nn9 + 1) z54 := h
abbrev tr_d_X12_named_5 (x2 : Int) (z71 : Int) (A : St) (z : Int) (K5 : Int → Prop) (z72 : Int) : Prop := ((0 ≤ z72 ∧ z72 ≤ 2147483647) ∧ (((z71 ≤ z72) ∧ (z = (-1))) ∨ ((¬ z71 ≤ z72) ∧ (∃ z80 : Int, q_X12_nameOf (A 0 47) 4 z72 A z80 ∧ (∃ z83 : Int, ((-1 ≤ z83 ∧ z83 ≤ 1) ∧ (z83 = 0 ↔ z80 = x2) ∧ (z83 < 0 ↔ z80 < x2)) ∧ (((¬ z83 = 0) ∧ (K5 (z72 + 1))) ∨ ((z83 = 0) ∧ (z = z72))))))))
def d_X12_named_5 (x2 : Int) (z71 : Int) (A : St) (z : Int) : Nat → Int → Prop
  | 0, _ => False
  | nn9 + 1, z72 => tr_d_X12_named_5 x2 z71 A z (fun z72 => d_X12_named_5 x2 z71 A z nn9 z72) z72
theorem u_d_X12_named_5 {x2 : Int} {z71 : Int} {A : St} {z : Int} {nn9 : Nat} {z72 : Int} (h : tr_d_X12_named_5 x2 z71 A z (fun z72 => d_X12_named_5 x2 z71 A z nn9 z72) z72) : d_X12_named_5 x2 z71 A z (nn9 + 1) z72 := h
abbrev tr_r_X12_named (x1 : Int) (x2 : Int) (A : St) (z : Int) : Prop := (((x1 = 0) ∧ (∃ z2 : Int, z2 = A 2 ((A 0 47)).toNat ∧ (∃ nn9 : Nat, d_X12_named_1 x2 z2 A z nn9 0))) ∨ ((x1 = 1) ∧ (∃ z18 : Int, z18 = A 4 ((A 0 47)).toNat ∧ (∃ nn9 : Nat, d_X12_named_2 x2 z18 A z nn9 0))) ∨ ((x1 = 2) ∧ (∃ z35 : Int, z35 = A 11 ((A 0 47)).toNat ∧ (∃ nn9 : Nat, d_X12_named_3 x2 z35 A z nn9 0))) ∨ ((x1 = 3) ∧ (∃ z53 : Int, z53 = A 16 ((A 0 47)).toNat ∧ (∃ nn9 : Nat, d_X12_named_4 x2 z53 A z nn9 0))) ∨ ((x1 = 4) ∧ (∃ z71 : Int, z71 = A 19 ((A 0 47)).toNat ∧ (∃ nn9 : Nat, d_X12_named_5 x2 z71 A z nn9 0))))
def r_X12_named (x1 : Int) (x2 : Int) (A : St) (z : Int) : Prop := tr_r_X12_named x1 x2 A z
theorem u_r_X12_named {x1 : Int} {x2 : Int} {A : St} {z : Int} (h : tr_r_X12_named x1 x2 A z) : r_X12_named x1 x2 A z := h
def q_X12_named (x1 : Int) (x2 : Int) (A : St) (z : Int) : Prop := r_X12_named x1 x2 A z ∧ (-1 ≤ z ∧ z ≤ 9 ∧ (x1 = 0 → z ≤ 7) ∧ (x1 = 2 → z ≤ 3) ∧ (x1 = 3 → z ≤ 2) ∧ (x1 = 4 → z ≤ 3))
def ws_mc_X12_named : List Cond := .code yX12_named cX12_named 6 (some .int) :: WX
set_option maxHeartbeats 4000000 in
set_option maxRecDepth 100000 in
theorem mc_X12_named (l : Launch) (dC : Nat → ClassId) (dI : Nat → Nat → Nat) (cB cI cJ cZ cQ : ClassId) (q : Nat → Nat) (A : St) (x1 x2 : Int) (hI : IM A) (hx1 : (0 : Int) ≤ x1 ∧ x1 ≤ 4) (hx2 : (-9223372036854775808 : Int) ≤ x2 ∧ x2 ≤ 9223372036854775807) : XMi l yX12_named ws_mc_X12_named ({ frames := 1, cells := 0, slots := 0, locals := 23 } : Room) (dC, dI) (tyA cB cI cJ cZ cQ) (WM cI cJ cZ q) A [.ref (q 0), .int (iI x1), .long (jI x2)] (fun z u => A = u ∧ r_X12_named x1 x2 A z ∧ (-1 ≤ z ∧ z ≤ 9 ∧ (x1 = 0 → z ≤ 7) ∧ (x1 = 2 → z ≤ 3) ∧ (x1 = 3 → z ≤ 2) ∧ (x1 = 4 → z ≤ 3))) := by
  refine x_meti (cc := cX12_named) (maxL := 6) WM_adr (by decide +kernel) rfl (Nat.le_of_ble_eq_true rfl) (fun p e s m below meth c Q AS ls hx hb hml hown hts hK hDD hA0 hP hS hl RET => ?_)
  have hown : s.vm.findClass RX12 = some m.cls := hown
  have hl : lv_has ls 6 [(0, .ref (q 0)), (1, .int (iI x1)), (2, .long (jI x2))] := hl
  have hiX12 : ∀ w ∈ u_ws RX12 TX12 85, w ∈ ws_mc_X12_named := fun w h => List.mem_cons_of_mem _ (wx_lay w h)
  obtain ⟨H, hHe⟩ : ∃ H : Heap, H = s.heap := ⟨_, rfl⟩
  rw [← hHe] at hP
  have hS : va_S AS s.heap H [] := by rw [hHe]; exact hS
  suffices hgo : ∀ locs : List Loc, va_S AS s.heap H locs → W p l e (headSpec ws_mc_X12_named ({ frames := 1, cells := 0, slots := 0, locals := 23 } : Room)).room s m [.ref (q 0), .int (iI x1), .long (jI x2)].toArray below meth c H locs 0 0 Q (F0 m 0 ls []) by
    have := hgo [] hS
    rw [hHe] at this
    exact this
  clear hS hHe
  intro locs hS
  rcases (show x1 = 0 ∨ x1 = 1 ∨ x1 = 2 ∨ x1 = 3 ∨ x1 = 4 by omega) with rfl | rfl | rfl | rfl | rfl
  · have hl : lv_has ls 6 [(0, .ref (q 0)), (1, .int (iI 0)), (2, .long (jI x2))] := hl
    refine lv_iload_n hx hb (dk_at dkX12_named_0 0 rfl) rfl (lv_at hl 1 rfl) ?_
    refine lv_if_ne (tgt := 16) hx hb (dk_at dkX12_named_0 1 rfl) (by decide) (fun c1 => absurd c1 (by decide +kernel)) (fun _ => ?_)
    refine lv_aload_n hx hb (dk_at dkX12_named_0 2 rfl) rfl (lv_at hl 0 rfl) ?_
    refine va_get (D := (dC, dI)) (ci := 12) (v := .ref (q 2)) (C := RX12) (T := TX12) (N := 85) hx hb hts hiX12 hown hK hP 0 wm0 rfl 13 (by decide) (hts _ (List.mem_cons_of_mem _ wlq_1_11)) (fun _ h9 => h9) rfl (dk_at dkX12_named_0 3 rfl) ?_
    refine lv_aload_n hx hb (dk_at dkX12_named_0 4 rfl) rfl (lv_at hl 0 rfl) ?_
    refine va_get (D := (dC, dI)) (ci := 12) (v := .int (iI (A 0 47))) (C := RX12) (T := TX12) (N := 85) hx hb hts hiX12 hown hK hP 0 wm0 rfl 47 (by decide) (hts _ (List.mem_cons_of_mem _ wlq_1_12)) (fun _ h9 => h9) rfl (dk_at dkX12_named_0 5 rfl) ?_
    have r_A_0_47 : (0 : Int) ≤ (A 0 47) ∧ (A 0 47) ≤ 1 := hI 0 47
    refine x_iald hx hb hK hP 2 1 wm2 rfl (by omega) (by decide) (dk_at dkX12_named_0 6 rfl) (fun z2 hz2 => ?_)
    have rz2 : (0 : Int) ≤ z2 ∧ z2 ≤ 8 := by rw [hz2]; exact hI 2 _
    have gz2 := Hd.mk hz2
    have hz2 : z2 = A 2 ((A 0 47)).toNat := hz2
    refine lv_goto (tgt := 76) hx hb (dk_at dkX12_named_0 7 rfl) (by decide) ?_
    refine lv_istore (lv' := [(4, .int (iI z2)), (0, .ref (q 0)), (1, .int (iI 0)), (2, .long (jI x2))]) hx hb (dk_at dkX12_named_2 8 rfl) hl (by decide) rfl (fun ls hl => ?_)
    refine lv_iconst (v := iI 0) hx hb (dk_at dkX12_named_2 9 rfl) (by decide +kernel) ?_
    refine lv_istore (lv' := [(5, .int (iI 0)), (4, .int (iI z2)), (0, .ref (q 0)), (1, .int (iI 0)), (2, .long (jI x2))]) hx hb (dk_at dkX12_named_2 10 rfl) hl (by decide) rfl (fun ls hl => ?_)
    have L81_5 : ∀ (n7 : Nat) (z3 : Int) (H : Heap) (locs : List Loc) (ls : Array Slot), (0 ≤ z3) → (0 ≤ z3 ∧ z3 ≤ 2147483647) → (∀ (z : Int), (∃ mm1 : Nat, (d_X12_named_1 x2 z2 A z mm1 z3)) → r_X12_named 0 x2 A z) → ((z2 - z3 + 1).toNat = n7) → va_P (dC, dI) vwCl (WM cI cJ cZ q A) H → va_S AS s.heap H locs → lv_has ls 6 [(5, .int (iI z3)), (4, .int (iI z2)), (0, .ref (q 0)), (1, .int (iI 0)), (2, .long (jI x2))] → W p l e (headSpec ws_mc_X12_named ({ frames := 1, cells := 0, slots := 0, locals := 23 } : Room)).room s m [.ref (q 0), .int (iI 0), .long (jI x2)].toArray below meth c H locs 0 0 Q (F0 m 81 ls []) := by
      intro n7
      induction n7 using Nat.strongRecOn with
      | ind n7 ih6 =>
        intro z3 H locs ls f8 f9 hk1 hn7 hP hS hl
        refine lv_iload hx hb (dk_at dkX12_named_2 11 rfl) (lv_at hl 0 rfl) ?_
        refine lv_iload hx hb (dk_at dkX12_named_2 12 rfl) (lv_at hl 1 rfl) ?_
        refine lv_icmp_ge (tgt := 113) hx hb (dk_at dkX12_named_2 13 rfl) (by decide) (fun c10 => ?_) (fun c10 => ?_)
        · have c10 : z2 ≤ z3 := (i_le (rb rz2 (by decide) (by decide)) (rb f9 (by decide) (by decide))).mp c10
          refine lv_iconst (v := iI (-1)) hx hb (dk_at dkX12_named_3 11 rfl) (by decide +kernel) ?_
          exact RET (-1) _ _ _ _ _ ⟨rfl, hk1 _ ⟨0 + 1, (u_d_X12_named_1 ⟨f9, (Or.inl ⟨c10, rfl⟩)⟩)⟩, by omega⟩ hP hS (dk_at dkX12_named_3 12 rfl)
        · have c10 : ¬ z2 ≤ z3 := mt (i_le (rb rz2 (by decide) (by decide)) (rb f9 (by decide) (by decide))).mpr c10
          refine lv_aload_n hx hb (dk_at dkX12_named_2 14 rfl) rfl (lv_at hl 2 rfl) ?_
          refine lv_aload_n hx hb (dk_at dkX12_named_2 15 rfl) rfl (lv_at hl 2 rfl) ?_
          refine va_get (D := (dC, dI)) (ci := 12) (v := .int (iI (A 0 47))) (C := RX12) (T := TX12) (N := 85) hx hb hts hiX12 hown hK hP 0 wm0 rfl 47 (by decide) (hts _ (List.mem_cons_of_mem _ wlq_1_12)) (fun _ h9 => h9) rfl (dk_at dkX12_named_3 0 rfl) ?_
          refine lv_iload_n hx hb (dk_at dkX12_named_3 1 rfl) rfl (lv_at hl 3 rfl) ?_
          refine lv_iload hx hb (dk_at dkX12_named_3 2 rfl) (lv_at hl 0 rfl) ?_
          refine x_calll (As := [.int (iI (A 0 47)), .int (iI 0), .int (iI z3)]) (rest := []) ⟨hx, hb, hml, hown, hts⟩ (mc_X12_nameOf l dC dI cB cI cJ cZ cQ q _ (A 0 47) 0 z3 hI r_A_0_47 ⟨by decide, by decide⟩ (by omega) (by omega)) (cwV 3 hts (goodV wlq_1_17 wlq_1_18 wlq_1_19 wlq_0_8 wlq_1_20) rfl rfl rfl (by decide +kernel) ⟨Nat.le_of_ble_eq_true rfl, Nat.le_of_ble_eq_true rfl⟩) hK hDD hA0 hP hS 0 12 wm0 rfl rfl hl.1 (Nat.le_of_ble_eq_true rfl) (dk_at dkX12_named_3 3 rfl) (fun z11 A12 H locs hw13 hP hS => ?_)
          obtain ⟨rfl, hw13⟩ := hw13
          have ghw13 : q_X12_nameOf (A 0 47) 0 z3 A z11 := hw13
          have hw13 := hw13.2
          refine lv_lload_n hx hb (dk_at dkX12_named_3 4 rfl) rfl (lv_at hl 4 rfl) ?_
          refine x_lcmp hx hb (dk_at dkX12_named_3 5 rfl) (by omega) (by omega) (fun z14 hz14 hz14b hz14c => ?_)
          have gz14 := Hd.mk (And.intro hz14 (And.intro hz14b hz14c))
          refine lv_if_ne (tgt := 107) hx hb (dk_at dkX12_named_3 6 rfl) (by decide) (fun c15 => ?_) (fun c15 => ?_)
          · have c15 : ¬ z14 = 0 := mt (i_eq0 (by omega)).mpr c15
            refine lv_iinc (v := iI (z3 + 1)) (lv' := [(5, .int (iI (z3 + 1))), (4, .int (iI z2)), (0, .ref (q 0)), (1, .int (iI 0)), (2, .long (jI x2))]) hx hb (dk_at dkX12_named_3 9 rfl) hl (k := 0) rfl (i_inc (by omega)) (by decide) rfl (fun ls hl => ?_)
            refine lv_goto (tgt := 81) hx hb (dk_at dkX12_named_3 10 rfl) (by decide) ?_
            exact ih6 _ (by omega) (z3 + 1) _ _ _ (by omega) (by omega) (fun zq ⟨mm1, hq⟩ => hk1 _ ⟨mm1 + 1, (u_d_X12_named_1 ⟨f9, (Or.inr ⟨c10, ⟨z11, ghw13, ⟨z14, gz14.out, (Or.inl ⟨c15, hq⟩)⟩⟩⟩)⟩)⟩) rfl hP hS (lv_sub hl [0, 1, 2, 3, 4] rfl)
          · have c15 : z14 = 0 := (i_eq0 (by omega)).mp c15
            refine lv_iload hx hb (dk_at dkX12_named_3 7 rfl) (lv_at hl 0 rfl) ?_
            exact RET z3 _ _ _ _ _ ⟨rfl, hk1 _ ⟨0 + 1, (u_d_X12_named_1 ⟨f9, (Or.inr ⟨c10, ⟨z11, ghw13, ⟨z14, gz14.out, (Or.inr ⟨c15, rfl⟩)⟩⟩⟩)⟩)⟩, by omega⟩ hP hS (dk_at dkX12_named_3 8 rfl)
    exact L81_5 _ 0 _ _ _ (by omega) (by omega) (fun zq ⟨mm1, hq⟩ => (u_r_X12_named (Or.inl ⟨rfl, ⟨z2, gz2.out, ⟨mm1, hq⟩⟩⟩))) rfl hP hS (lv_sub hl [0, 1, 2, 3, 4] rfl)
  · have hl : lv_has ls 6 [(0, .ref (q 0)), (1, .int (iI 1)), (2, .long (jI x2))] := hl
    refine lv_iload_n hx hb (dk_at dkX12_named_0 0 rfl) rfl (lv_at hl 1 rfl) ?_
    refine lv_if_ne (tgt := 16) hx hb (dk_at dkX12_named_0 1 rfl) (by decide) (fun _ => ?_) (fun c16 => absurd c16 (by decide +kernel))
    refine lv_iload_n hx hb (dk_at dkX12_named_0 8 rfl) rfl (lv_at hl 1 rfl) ?_
    refine lv_iconst (v := iI 1) hx hb (dk_at dkX12_named_0 9 rfl) (by decide +kernel) ?_
    refine lv_icmp_ne (tgt := 33) hx hb (dk_at dkX12_named_0 10 rfl) (by decide) (fun c17 => absurd c17 (by decide +kernel)) (fun _ => ?_)
    refine lv_aload_n hx hb (dk_at dkX12_named_0 11 rfl) rfl (lv_at hl 0 rfl) ?_
    refine va_get (D := (dC, dI)) (ci := 12) (v := .ref (q 4)) (C := RX12) (T := TX12) (N := 85) hx hb hts hiX12 hown hK hP 0 wm0 rfl 15 (by decide) (hts _ (List.mem_cons_of_mem _ wlq_1_13)) (fun _ h9 => h9) rfl (dk_at dkX12_named_0 12 rfl) ?_
    refine lv_aload_n hx hb (dk_at dkX12_named_0 13 rfl) rfl (lv_at hl 0 rfl) ?_
    refine va_get (D := (dC, dI)) (ci := 12) (v := .int (iI (A 0 47))) (C := RX12) (T := TX12) (N := 85) hx hb hts hiX12 hown hK hP 0 wm0 rfl 47 (by decide) (hts _ (List.mem_cons_of_mem _ wlq_1_12)) (fun _ h9 => h9) rfl (dk_at dkX12_named_0 14 rfl) ?_
    have r_A_0_47 : (0 : Int) ≤ (A 0 47) ∧ (A 0 47) ≤ 1 := hI 0 47
    refine x_iald hx hb hK hP 4 1 wm4 rfl (by omega) (by decide) (dk_at dkX12_named_0 15 rfl) (fun z18 hz18 => ?_)
    have rz18 : (0 : Int) ≤ z18 ∧ z18 ≤ 10 := by rw [hz18]; exact hI 4 _
    have gz18 := Hd.mk hz18
    have hz18 : z18 = A 4 ((A 0 47)).toNat := hz18
    refine lv_goto (tgt := 76) hx hb (dk_at dkX12_named_1 0 rfl) (by decide) ?_
    refine lv_istore (lv' := [(4, .int (iI z18)), (0, .ref (q 0)), (1, .int (iI 1)), (2, .long (jI x2))]) hx hb (dk_at dkX12_named_2 8 rfl) hl (by decide) rfl (fun ls hl => ?_)
    refine lv_iconst (v := iI 0) hx hb (dk_at dkX12_named_2 9 rfl) (by decide +kernel) ?_
    refine lv_istore (lv' := [(5, .int (iI 0)), (4, .int (iI z18)), (0, .ref (q 0)), (1, .int (iI 1)), (2, .long (jI x2))]) hx hb (dk_at dkX12_named_2 10 rfl) hl (by decide) rfl (fun ls hl => ?_)
    have L81_21 : ∀ (n23 : Nat) (z19 : Int) (H : Heap) (locs : List Loc) (ls : Array Slot), (0 ≤ z19) → (0 ≤ z19 ∧ z19 ≤ 2147483647) → (∀ (z : Int), (∃ mm2 : Nat, (d_X12_named_2 x2 z18 A z mm2 z19)) → r_X12_named 1 x2 A z) → ((z18 - z19 + 1).toNat = n23) → va_P (dC, dI) vwCl (WM cI cJ cZ q A) H → va_S AS s.heap H locs → lv_has ls 6 [(5, .int (iI z19)), (4, .int (iI z18)), (0, .ref (q 0)), (1, .int (iI 1)), (2, .long (jI x2))] → W p l e (headSpec ws_mc_X12_named ({ frames := 1, cells := 0, slots := 0, locals := 23 } : Room)).room s m [.ref (q 0), .int (iI 1), .long (jI x2)].toArray below meth c H locs 0 0 Q (F0 m 81 ls []) := by
      intro n23
      induction n23 using Nat.strongRecOn with
      | ind n23 ih22 =>
        intro z19 H locs ls f24 f25 hk2 hn23 hP hS hl
        refine lv_iload hx hb (dk_at dkX12_named_2 11 rfl) (lv_at hl 0 rfl) ?_
        refine lv_iload hx hb (dk_at dkX12_named_2 12 rfl) (lv_at hl 1 rfl) ?_
        refine lv_icmp_ge (tgt := 113) hx hb (dk_at dkX12_named_2 13 rfl) (by decide) (fun c26 => ?_) (fun c26 => ?_)
        · have c26 : z18 ≤ z19 := (i_le (rb rz18 (by decide) (by decide)) (rb f25 (by decide) (by decide))).mp c26
          refine lv_iconst (v := iI (-1)) hx hb (dk_at dkX12_named_3 11 rfl) (by decide +kernel) ?_
          exact RET (-1) _ _ _ _ _ ⟨rfl, hk2 _ ⟨0 + 1, (u_d_X12_named_2 ⟨f25, (Or.inl ⟨c26, rfl⟩)⟩)⟩, by omega⟩ hP hS (dk_at dkX12_named_3 12 rfl)
        · have c26 : ¬ z18 ≤ z19 := mt (i_le (rb rz18 (by decide) (by decide)) (rb f25 (by decide) (by decide))).mpr c26
          refine lv_aload_n hx hb (dk_at dkX12_named_2 14 rfl) rfl (lv_at hl 2 rfl) ?_
          refine lv_aload_n hx hb (dk_at dkX12_named_2 15 rfl) rfl (lv_at hl 2 rfl) ?_
          refine va_get (D := (dC, dI)) (ci := 12) (v := .int (iI (A 0 47))) (C := RX12) (T := TX12) (N := 85) hx hb hts hiX12 hown hK hP 0 wm0 rfl 47 (by decide) (hts _ (List.mem_cons_of_mem _ wlq_1_12)) (fun _ h9 => h9) rfl (dk_at dkX12_named_3 0 rfl) ?_
          refine lv_iload_n hx hb (dk_at dkX12_named_3 1 rfl) rfl (lv_at hl 3 rfl) ?_
          refine lv_iload hx hb (dk_at dkX12_named_3 2 rfl) (lv_at hl 0 rfl) ?_
          refine x_calll (As := [.int (iI (A 0 47)), .int (iI 1), .int (iI z19)]) (rest := []) ⟨hx, hb, hml, hown, hts⟩ (mc_X12_nameOf l dC dI cB cI cJ cZ cQ q _ (A 0 47) 1 z19 hI r_A_0_47 ⟨by decide, by decide⟩ (by omega) (by omega)) (cwV 3 hts (goodV wlq_1_17 wlq_1_18 wlq_1_19 wlq_0_8 wlq_1_20) rfl rfl rfl (by decide +kernel) ⟨Nat.le_of_ble_eq_true rfl, Nat.le_of_ble_eq_true rfl⟩) hK hDD hA0 hP hS 0 12 wm0 rfl rfl hl.1 (Nat.le_of_ble_eq_true rfl) (dk_at dkX12_named_3 3 rfl) (fun z27 A28 H locs hw29 hP hS => ?_)
          obtain ⟨rfl, hw29⟩ := hw29
          have ghw29 : q_X12_nameOf (A 0 47) 1 z19 A z27 := hw29
          have hw29 := hw29.2
          refine lv_lload_n hx hb (dk_at dkX12_named_3 4 rfl) rfl (lv_at hl 4 rfl) ?_
          refine x_lcmp hx hb (dk_at dkX12_named_3 5 rfl) (by omega) (by omega) (fun z30 hz30 hz30b hz30c => ?_)
          have gz30 := Hd.mk (And.intro hz30 (And.intro hz30b hz30c))
          refine lv_if_ne (tgt := 107) hx hb (dk_at dkX12_named_3 6 rfl) (by decide) (fun c31 => ?_) (fun c31 => ?_)
          · have c31 : ¬ z30 = 0 := mt (i_eq0 (by omega)).mpr c31
            refine lv_iinc (v := iI (z19 + 1)) (lv' := [(5, .int (iI (z19 + 1))), (4, .int (iI z18)), (0, .ref (q 0)), (1, .int (iI 1)), (2, .long (jI x2))]) hx hb (dk_at dkX12_named_3 9 rfl) hl (k := 0) rfl (i_inc (by omega)) (by decide) rfl (fun ls hl => ?_)
            refine lv_goto (tgt := 81) hx hb (dk_at dkX12_named_3 10 rfl) (by decide) ?_
            exact ih22 _ (by omega) (z19 + 1) _ _ _ (by omega) (by omega) (fun zq ⟨mm2, hq⟩ => hk2 _ ⟨mm2 + 1, (u_d_X12_named_2 ⟨f25, (Or.inr ⟨c26, ⟨z27, ghw29, ⟨z30, gz30.out, (Or.inl ⟨c31, hq⟩)⟩⟩⟩)⟩)⟩) rfl hP hS (lv_sub hl [0, 1, 2, 3, 4] rfl)
          · have c31 : z30 = 0 := (i_eq0 (by omega)).mp c31
            refine lv_iload hx hb (dk_at dkX12_named_3 7 rfl) (lv_at hl 0 rfl) ?_
            exact RET z19 _ _ _ _ _ ⟨rfl, hk2 _ ⟨0 + 1, (u_d_X12_named_2 ⟨f25, (Or.inr ⟨c26, ⟨z27, ghw29, ⟨z30, gz30.out, (Or.inr ⟨c31, rfl⟩)⟩⟩⟩)⟩)⟩, by omega⟩ hP hS (dk_at dkX12_named_3 8 rfl)
    exact L81_21 _ 0 _ _ _ (by omega) (by omega) (fun zq ⟨mm2, hq⟩ => (u_r_X12_named (Or.inr (Or.inl ⟨rfl, ⟨z18, gz18.out, ⟨mm2, hq⟩⟩⟩)))) rfl hP hS (lv_sub hl [0, 1, 2, 3, 4] rfl)
  · have hl : lv_has ls 6 [(0, .ref (q 0)), (1, .int (iI 2)), (2, .long (jI x2))] := hl
    refine lv_iload_n hx hb (dk_at dkX12_named_0 0 rfl) rfl (lv_at hl 1 rfl) ?_
    refine lv_if_ne (tgt := 16) hx hb (dk_at dkX12_named_0 1 rfl) (by decide) (fun _ => ?_) (fun c32 => absurd c32 (by decide +kernel))
    refine lv_iload_n hx hb (dk_at dkX12_named_0 8 rfl) rfl (lv_at hl 1 rfl) ?_
    refine lv_iconst (v := iI 1) hx hb (dk_at dkX12_named_0 9 rfl) (by decide +kernel) ?_
    refine lv_icmp_ne (tgt := 33) hx hb (dk_at dkX12_named_0 10 rfl) (by decide) (fun _ => ?_) (fun c33 => absurd c33 (by decide +kernel))
    refine lv_iload_n hx hb (dk_at dkX12_named_1 1 rfl) rfl (lv_at hl 1 rfl) ?_
    refine lv_iconst (v := iI 2) hx hb (dk_at dkX12_named_1 2 rfl) (by decide +kernel) ?_
    refine lv_icmp_ne (tgt := 50) hx hb (dk_at dkX12_named_1 3 rfl) (by decide) (fun c34 => absurd c34 (by decide +kernel)) (fun _ => ?_)
    refine lv_aload_n hx hb (dk_at dkX12_named_1 4 rfl) rfl (lv_at hl 0 rfl) ?_
    refine va_get (D := (dC, dI)) (ci := 12) (v := .ref (q 11)) (C := RX12) (T := TX12) (N := 85) hx hb hts hiX12 hown hK hP 0 wm0 rfl 22 (by decide) (hts _ (List.mem_cons_of_mem _ wlq_1_14)) (fun _ h9 => h9) rfl (dk_at dkX12_named_1 5 rfl) ?_
    refine lv_aload_n hx hb (dk_at dkX12_named_1 6 rfl) rfl (lv_at hl 0 rfl) ?_
    refine va_get (D := (dC, dI)) (ci := 12) (v := .int (iI (A 0 47))) (C := RX12) (T := TX12) (N := 85) hx hb hts hiX12 hown hK hP 0 wm0 rfl 47 (by decide) (hts _ (List.mem_cons_of_mem _ wlq_1_12)) (fun _ h9 => h9) rfl (dk_at dkX12_named_1 7 rfl) ?_
    have r_A_0_47 : (0 : Int) ≤ (A 0 47) ∧ (A 0 47) ≤ 1 := hI 0 47
    refine x_iald hx hb hK hP 11 1 wm11 rfl (by omega) (by decide) (dk_at dkX12_named_1 8 rfl) (fun z35 hz35 => ?_)
    have rz35 : (0 : Int) ≤ z35 ∧ z35 ≤ 4 := by rw [hz35]; exact hI 11 _
    have gz35 := Hd.mk hz35
    have hz35 : z35 = A 11 ((A 0 47)).toNat := hz35
    refine lv_goto (tgt := 76) hx hb (dk_at dkX12_named_1 9 rfl) (by decide) ?_
    refine lv_istore (lv' := [(4, .int (iI z35)), (0, .ref (q 0)), (1, .int (iI 2)), (2, .long (jI x2))]) hx hb (dk_at dkX12_named_2 8 rfl) hl (by decide) rfl (fun ls hl => ?_)
    refine lv_iconst (v := iI 0) hx hb (dk_at dkX12_named_2 9 rfl) (by decide +kernel) ?_
    refine lv_istore (lv' := [(5, .int (iI 0)), (4, .int (iI z35)), (0, .ref (q 0)), (1, .int (iI 2)), (2, .long (jI x2))]) hx hb (dk_at dkX12_named_2 10 rfl) hl (by decide) rfl (fun ls hl => ?_)
    have L81_38 : ∀ (n40 : Nat) (z36 : Int) (H : Heap) (locs : List Loc) (ls : Array Slot), (0 ≤ z36) → (0 ≤ z36 ∧ z36 ≤ 2147483647) → (∀ (z : Int), (∃ mm3 : Nat, (d_X12_named_3 x2 z35 A z mm3 z36)) → r_X12_named 2 x2 A z) → ((z35 - z36 + 1).toNat = n40) → va_P (dC, dI) vwCl (WM cI cJ cZ q A) H → va_S AS s.heap H locs → lv_has ls 6 [(5, .int (iI z36)), (4, .int (iI z35)), (0, .ref (q 0)), (1, .int (iI 2)), (2, .long (jI x2))] → W p l e (headSpec ws_mc_X12_named ({ frames := 1, cells := 0, slots := 0, locals := 23 } : Room)).room s m [.ref (q 0), .int (iI 2), .long (jI x2)].toArray below meth c H locs 0 0 Q (F0 m 81 ls []) := by
      intro n40
      induction n40 using Nat.strongRecOn with
      | ind n40 ih39 =>
        intro z36 H locs ls f41 f42 hk3 hn40 hP hS hl
        refine lv_iload hx hb (dk_at dkX12_named_2 11 rfl) (lv_at hl 0 rfl) ?_
        refine lv_iload hx hb (dk_at dkX12_named_2 12 rfl) (lv_at hl 1 rfl) ?_
        refine lv_icmp_ge (tgt := 113) hx hb (dk_at dkX12_named_2 13 rfl) (by decide) (fun c43 => ?_) (fun c43 => ?_)
        · have c43 : z35 ≤ z36 := (i_le (rb rz35 (by decide) (by decide)) (rb f42 (by decide) (by decide))).mp c43
          refine lv_iconst (v := iI (-1)) hx hb (dk_at dkX12_named_3 11 rfl) (by decide +kernel) ?_
          exact RET (-1) _ _ _ _ _ ⟨rfl, hk3 _ ⟨0 + 1, (u_d_X12_named_3 ⟨f42, (Or.inl ⟨c43, rfl⟩)⟩)⟩, by omega⟩ hP hS (dk_at dkX12_named_3 12 rfl)
        · have c43 : ¬ z35 ≤ z36 := mt (i_le (rb rz35 (by decide) (by decide)) (rb f42 (by decide) (by decide))).mpr c43
          refine lv_aload_n hx hb (dk_at dkX12_named_2 14 rfl) rfl (lv_at hl 2 rfl) ?_
          refine lv_aload_n hx hb (dk_at dkX12_named_2 15 rfl) rfl (lv_at hl 2 rfl) ?_
          refine va_get (D := (dC, dI)) (ci := 12) (v := .int (iI (A 0 47))) (C := RX12) (T := TX12) (N := 85) hx hb hts hiX12 hown hK hP 0 wm0 rfl 47 (by decide) (hts _ (List.mem_cons_of_mem _ wlq_1_12)) (fun _ h9 => h9) rfl (dk_at dkX12_named_3 0 rfl) ?_
          refine lv_iload_n hx hb (dk_at dkX12_named_3 1 rfl) rfl (lv_at hl 3 rfl) ?_
          refine lv_iload hx hb (dk_at dkX12_named_3 2 rfl) (lv_at hl 0 rfl) ?_
          refine x_calll (As := [.int (iI (A 0 47)), .int (iI 2), .int (iI z36)]) (rest := []) ⟨hx, hb, hml, hown, hts⟩ (mc_X12_nameOf l dC dI cB cI cJ cZ cQ q _ (A 0 47) 2 z36 hI r_A_0_47 ⟨by decide, by decide⟩ (by omega) (by omega)) (cwV 3 hts (goodV wlq_1_17 wlq_1_18 wlq_1_19 wlq_0_8 wlq_1_20) rfl rfl rfl (by decide +kernel) ⟨Nat.le_of_ble_eq_true rfl, Nat.le_of_ble_eq_true rfl⟩) hK hDD hA0 hP hS 0 12 wm0 rfl rfl hl.1 (Nat.le_of_ble_eq_true rfl) (dk_at dkX12_named_3 3 rfl) (fun z44 A45 H locs hw46 hP hS => ?_)
          obtain ⟨rfl, hw46⟩ := hw46
          have ghw46 : q_X12_nameOf (A 0 47) 2 z36 A z44 := hw46
          have hw46 := hw46.2
          refine lv_lload_n hx hb (dk_at dkX12_named_3 4 rfl) rfl (lv_at hl 4 rfl) ?_
          refine x_lcmp hx hb (dk_at dkX12_named_3 5 rfl) (by omega) (by omega) (fun z47 hz47 hz47b hz47c => ?_)
          have gz47 := Hd.mk (And.intro hz47 (And.intro hz47b hz47c))
          refine lv_if_ne (tgt := 107) hx hb (dk_at dkX12_named_3 6 rfl) (by decide) (fun c48 => ?_) (fun c48 => ?_)
          · have c48 : ¬ z47 = 0 := mt (i_eq0 (by omega)).mpr c48
            refine lv_iinc (v := iI (z36 + 1)) (lv' := [(5, .int (iI (z36 + 1))), (4, .int (iI z35)), (0, .ref (q 0)), (1, .int (iI 2)), (2, .long (jI x2))]) hx hb (dk_at dkX12_named_3 9 rfl) hl (k := 0) rfl (i_inc (by omega)) (by decide) rfl (fun ls hl => ?_)
            refine lv_goto (tgt := 81) hx hb (dk_at dkX12_named_3 10 rfl) (by decide) ?_
            exact ih39 _ (by omega) (z36 + 1) _ _ _ (by omega) (by omega) (fun zq ⟨mm3, hq⟩ => hk3 _ ⟨mm3 + 1, (u_d_X12_named_3 ⟨f42, (Or.inr ⟨c43, ⟨z44, ghw46, ⟨z47, gz47.out, (Or.inl ⟨c48, hq⟩)⟩⟩⟩)⟩)⟩) rfl hP hS (lv_sub hl [0, 1, 2, 3, 4] rfl)
          · have c48 : z47 = 0 := (i_eq0 (by omega)).mp c48
            refine lv_iload hx hb (dk_at dkX12_named_3 7 rfl) (lv_at hl 0 rfl) ?_
            exact RET z36 _ _ _ _ _ ⟨rfl, hk3 _ ⟨0 + 1, (u_d_X12_named_3 ⟨f42, (Or.inr ⟨c43, ⟨z44, ghw46, ⟨z47, gz47.out, (Or.inr ⟨c48, rfl⟩)⟩⟩⟩)⟩)⟩, by omega⟩ hP hS (dk_at dkX12_named_3 8 rfl)
    exact L81_38 _ 0 _ _ _ (by omega) (by omega) (fun zq ⟨mm3, hq⟩ => (u_r_X12_named (Or.inr (Or.inr (Or.inl ⟨rfl, ⟨z35, gz35.out, ⟨mm3, hq⟩⟩⟩))))) rfl hP hS (lv_sub hl [0, 1, 2, 3, 4] rfl)
  · have hl : lv_has ls 6 [(0, .ref (q 0)), (1, .int (iI 3)), (2, .long (jI x2))] := hl
    refine lv_iload_n hx hb (dk_at dkX12_named_0 0 rfl) rfl (lv_at hl 1 rfl) ?_
    refine lv_if_ne (tgt := 16) hx hb (dk_at dkX12_named_0 1 rfl) (by decide) (fun _ => ?_) (fun c49 => absurd c49 (by decide +kernel))
    refine lv_iload_n hx hb (dk_at dkX12_named_0 8 rfl) rfl (lv_at hl 1 rfl) ?_
    refine lv_iconst (v := iI 1) hx hb (dk_at dkX12_named_0 9 rfl) (by decide +kernel) ?_
    refine lv_icmp_ne (tgt := 33) hx hb (dk_at dkX12_named_0 10 rfl) (by decide) (fun _ => ?_) (fun c50 => absurd c50 (by decide +kernel))
    refine lv_iload_n hx hb (dk_at dkX12_named_1 1 rfl) rfl (lv_at hl 1 rfl) ?_
    refine lv_iconst (v := iI 2) hx hb (dk_at dkX12_named_1 2 rfl) (by decide +kernel) ?_
    refine lv_icmp_ne (tgt := 50) hx hb (dk_at dkX12_named_1 3 rfl) (by decide) (fun _ => ?_) (fun c51 => absurd c51 (by decide +kernel))
    refine lv_iload_n hx hb (dk_at dkX12_named_1 10 rfl) rfl (lv_at hl 1 rfl) ?_
    refine lv_iconst (v := iI 3) hx hb (dk_at dkX12_named_1 11 rfl) (by decide +kernel) ?_
    refine lv_icmp_ne (tgt := 67) hx hb (dk_at dkX12_named_1 12 rfl) (by decide) (fun c52 => absurd c52 (by decide +kernel)) (fun _ => ?_)
    refine lv_aload_n hx hb (dk_at dkX12_named_1 13 rfl) rfl (lv_at hl 0 rfl) ?_
    refine va_get (D := (dC, dI)) (ci := 12) (v := .ref (q 16)) (C := RX12) (T := TX12) (N := 85) hx hb hts hiX12 hown hK hP 0 wm0 rfl 27 (by decide) (hts _ (List.mem_cons_of_mem _ wlq_1_15)) (fun _ h9 => h9) rfl (dk_at dkX12_named_1 14 rfl) ?_
    refine lv_aload_n hx hb (dk_at dkX12_named_1 15 rfl) rfl (lv_at hl 0 rfl) ?_
    refine va_get (D := (dC, dI)) (ci := 12) (v := .int (iI (A 0 47))) (C := RX12) (T := TX12) (N := 85) hx hb hts hiX12 hown hK hP 0 wm0 rfl 47 (by decide) (hts _ (List.mem_cons_of_mem _ wlq_1_12)) (fun _ h9 => h9) rfl (dk_at dkX12_named_2 0 rfl) ?_
    have r_A_0_47 : (0 : Int) ≤ (A 0 47) ∧ (A 0 47) ≤ 1 := hI 0 47
    refine x_iald hx hb hK hP 16 1 wm16 rfl (by omega) (by decide) (dk_at dkX12_named_2 1 rfl) (fun z53 hz53 => ?_)
    have rz53 : (0 : Int) ≤ z53 ∧ z53 ≤ 3 := by rw [hz53]; exact hI 16 _
    have gz53 := Hd.mk hz53
    have hz53 : z53 = A 16 ((A 0 47)).toNat := hz53
    refine lv_goto (tgt := 76) hx hb (dk_at dkX12_named_2 2 rfl) (by decide) ?_
    refine lv_istore (lv' := [(4, .int (iI z53)), (0, .ref (q 0)), (1, .int (iI 3)), (2, .long (jI x2))]) hx hb (dk_at dkX12_named_2 8 rfl) hl (by decide) rfl (fun ls hl => ?_)
    refine lv_iconst (v := iI 0) hx hb (dk_at dkX12_named_2 9 rfl) (by decide +kernel) ?_
    refine lv_istore (lv' := [(5, .int (iI 0)), (4, .int (iI z53)), (0, .ref (q 0)), (1, .int (iI 3)), (2, .long (jI x2))]) hx hb (dk_at dkX12_named_2 10 rfl) hl (by decide) rfl (fun ls hl => ?_)
    have L81_56 : ∀ (n58 : Nat) (z54 : Int) (H : Heap) (locs : List Loc) (ls : Array Slot), (0 ≤ z54) → (0 ≤ z54 ∧ z54 ≤ 2147483647) → (∀ (z : Int), (∃ mm4 : Nat, (d_X12_named_4 x2 z53 A z mm4 z54)) → r_X12_named 3 x2 A z) → ((z53 - z54 + 1).toNat = n58) → va_P (dC, dI) vwCl (WM cI cJ cZ q A) H → va_S AS s.heap H locs → lv_has ls 6 [(5, .int (iI z54)), (4, .int (iI z53)), (0, .ref (q 0)), (1, .int (iI 3)), (2, .long (jI x2))] → W p l e (headSpec ws_mc_X12_named ({ frames := 1, cells := 0, slots := 0, locals := 23 } : Room)).room s m [.ref (q 0), .int (iI 3), .long (jI x2)].toArray below meth c H locs 0 0 Q (F0 m 81 ls []) := by
      intro n58
      induction n58 using Nat.strongRecOn with
      | ind n58 ih57 =>
        intro z54 H locs ls f59 f60 hk4 hn58 hP hS hl
        refine lv_iload hx hb (dk_at dkX12_named_2 11 rfl) (lv_at hl 0 rfl) ?_
        refine lv_iload hx hb (dk_at dkX12_named_2 12 rfl) (lv_at hl 1 rfl) ?_
        refine lv_icmp_ge (tgt := 113) hx hb (dk_at dkX12_named_2 13 rfl) (by decide) (fun c61 => ?_) (fun c61 => ?_)
        · have c61 : z53 ≤ z54 := (i_le (rb rz53 (by decide) (by decide)) (rb f60 (by decide) (by decide))).mp c61
          refine lv_iconst (v := iI (-1)) hx hb (dk_at dkX12_named_3 11 rfl) (by decide +kernel) ?_
          exact RET (-1) _ _ _ _ _ ⟨rfl, hk4 _ ⟨0 + 1, (u_d_X12_named_4 ⟨f60, (Or.inl ⟨c61, rfl⟩)⟩)⟩, by omega⟩ hP hS (dk_at dkX12_named_3 12 rfl)
        · have c61 : ¬ z53 ≤ z54 := mt (i_le (rb rz53 (by decide) (by decide)) (rb f60 (by decide) (by decide))).mpr c61
          refine lv_aload_n hx hb (dk_at dkX12_named_2 14 rfl) rfl (lv_at hl 2 rfl) ?_
          refine lv_aload_n hx hb (dk_at dkX12_named_2 15 rfl) rfl (lv_at hl 2 rfl) ?_
          refine va_get (D := (dC, dI)) (ci := 12) (v := .int (iI (A 0 47))) (C := RX12) (T := TX12) (N := 85) hx hb hts hiX12 hown hK hP 0 wm0 rfl 47 (by decide) (hts _ (List.mem_cons_of_mem _ wlq_1_12)) (fun _ h9 => h9) rfl (dk_at dkX12_named_3 0 rfl) ?_
          refine lv_iload_n hx hb (dk_at dkX12_named_3 1 rfl) rfl (lv_at hl 3 rfl) ?_
          refine lv_iload hx hb (dk_at dkX12_named_3 2 rfl) (lv_at hl 0 rfl) ?_
          refine x_calll (As := [.int (iI (A 0 47)), .int (iI 3), .int (iI z54)]) (rest := []) ⟨hx, hb, hml, hown, hts⟩ (mc_X12_nameOf l dC dI cB cI cJ cZ cQ q _ (A 0 47) 3 z54 hI r_A_0_47 ⟨by decide, by decide⟩ (by omega) (by omega)) (cwV 3 hts (goodV wlq_1_17 wlq_1_18 wlq_1_19 wlq_0_8 wlq_1_20) rfl rfl rfl (by decide +kernel) ⟨Nat.le_of_ble_eq_true rfl, Nat.le_of_ble_eq_true rfl⟩) hK hDD hA0 hP hS 0 12 wm0 rfl rfl hl.1 (Nat.le_of_ble_eq_true rfl) (dk_at dkX12_named_3 3 rfl) (fun z62 A63 H locs hw64 hP hS => ?_)
          obtain ⟨rfl, hw64⟩ := hw64
          have ghw64 : q_X12_nameOf (A 0 47) 3 z54 A z62 := hw64
          have hw64 := hw64.2
          refine lv_lload_n hx hb (dk_at dkX12_named_3 4 rfl) rfl (lv_at hl 4 rfl) ?_
          refine x_lcmp hx hb (dk_at dkX12_named_3 5 rfl) (by omega) (by omega) (fun z65 hz65 hz65b hz65c => ?_)
          have gz65 := Hd.mk (And.intro hz65 (And.intro hz65b hz65c))
          refine lv_if_ne (tgt := 107) hx hb (dk_at dkX12_named_3 6 rfl) (by decide) (fun c66 => ?_) (fun c66 => ?_)
          · have c66 : ¬ z65 = 0 := mt (i_eq0 (by omega)).mpr c66
            refine lv_iinc (v := iI (z54 + 1)) (lv' := [(5, .int (iI (z54 + 1))), (4, .int (iI z53)), (0, .ref (q 0)), (1, .int (iI 3)), (2, .long (jI x2))]) hx hb (dk_at dkX12_named_3 9 rfl) hl (k := 0) rfl (i_inc (by omega)) (by decide) rfl (fun ls hl => ?_)
            refine lv_goto (tgt := 81) hx hb (dk_at dkX12_named_3 10 rfl) (by decide) ?_
            exact ih57 _ (by omega) (z54 + 1) _ _ _ (by omega) (by omega) (fun zq ⟨mm4, hq⟩ => hk4 _ ⟨mm4 + 1, (u_d_X12_named_4 ⟨f60, (Or.inr ⟨c61, ⟨z62, ghw64, ⟨z65, gz65.out, (Or.inl ⟨c66, hq⟩)⟩⟩⟩)⟩)⟩) rfl hP hS (lv_sub hl [0, 1, 2, 3, 4] rfl)
          · have c66 : z65 = 0 := (i_eq0 (by omega)).mp c66
            refine lv_iload hx hb (dk_at dkX12_named_3 7 rfl) (lv_at hl 0 rfl) ?_
            exact RET z54 _ _ _ _ _ ⟨rfl, hk4 _ ⟨0 + 1, (u_d_X12_named_4 ⟨f60, (Or.inr ⟨c61, ⟨z62, ghw64, ⟨z65, gz65.out, (Or.inr ⟨c66, rfl⟩)⟩⟩⟩)⟩)⟩, by omega⟩ hP hS (dk_at dkX12_named_3 8 rfl)
    exact L81_56 _ 0 _ _ _ (by omega) (by omega) (fun zq ⟨mm4, hq⟩ => (u_r_X12_named (Or.inr (Or.inr (Or.inr (Or.inl ⟨rfl, ⟨z53, gz53.out, ⟨mm4, hq⟩⟩⟩)))))) rfl hP hS (lv_sub hl [0, 1, 2, 3, 4] rfl)
  · have hl : lv_has ls 6 [(0, .ref (q 0)), (1, .int (iI 4)), (2, .long (jI x2))] := hl
    refine lv_iload_n hx hb (dk_at dkX12_named_0 0 rfl) rfl (lv_at hl 1 rfl) ?_
    refine lv_if_ne (tgt := 16) hx hb (dk_at dkX12_named_0 1 rfl) (by decide) (fun _ => ?_) (fun c67 => absurd c67 (by decide +kernel))
    refine lv_iload_n hx hb (dk_at dkX12_named_0 8 rfl) rfl (lv_at hl 1 rfl) ?_
    refine lv_iconst (v := iI 1) hx hb (dk_at dkX12_named_0 9 rfl) (by decide +kernel) ?_
    refine lv_icmp_ne (tgt := 33) hx hb (dk_at dkX12_named_0 10 rfl) (by decide) (fun _ => ?_) (fun c68 => absurd c68 (by decide +kernel))
    refine lv_iload_n hx hb (dk_at dkX12_named_1 1 rfl) rfl (lv_at hl 1 rfl) ?_
    refine lv_iconst (v := iI 2) hx hb (dk_at dkX12_named_1 2 rfl) (by decide +kernel) ?_
    refine lv_icmp_ne (tgt := 50) hx hb (dk_at dkX12_named_1 3 rfl) (by decide) (fun _ => ?_) (fun c69 => absurd c69 (by decide +kernel))
    refine lv_iload_n hx hb (dk_at dkX12_named_1 10 rfl) rfl (lv_at hl 1 rfl) ?_
    refine lv_iconst (v := iI 3) hx hb (dk_at dkX12_named_1 11 rfl) (by decide +kernel) ?_
    refine lv_icmp_ne (tgt := 67) hx hb (dk_at dkX12_named_1 12 rfl) (by decide) (fun _ => ?_) (fun c70 => absurd c70 (by decide +kernel))
    refine lv_aload_n hx hb (dk_at dkX12_named_2 3 rfl) rfl (lv_at hl 0 rfl) ?_
    refine va_get (D := (dC, dI)) (ci := 12) (v := .ref (q 19)) (C := RX12) (T := TX12) (N := 85) hx hb hts hiX12 hown hK hP 0 wm0 rfl 30 (by decide) (hts _ (List.mem_cons_of_mem _ wlq_1_16)) (fun _ h9 => h9) rfl (dk_at dkX12_named_2 4 rfl) ?_
    refine lv_aload_n hx hb (dk_at dkX12_named_2 5 rfl) rfl (lv_at hl 0 rfl) ?_
    refine va_get (D := (dC, dI)) (ci := 12) (v := .int (iI (A 0 47))) (C := RX12) (T := TX12) (N := 85) hx hb hts hiX12 hown hK hP 0 wm0 rfl 47 (by decide) (hts _ (List.mem_cons_of_mem _ wlq_1_12)) (fun _ h9 => h9) rfl (dk_at dkX12_named_2 6 rfl) ?_
    have r_A_0_47 : (0 : Int) ≤ (A 0 47) ∧ (A 0 47) ≤ 1 := hI 0 47
    refine x_iald hx hb hK hP 19 1 wm19 rfl (by omega) (by decide) (dk_at dkX12_named_2 7 rfl) (fun z71 hz71 => ?_)
    have rz71 : (0 : Int) ≤ z71 ∧ z71 ≤ 4 := by rw [hz71]; exact hI 19 _
    have gz71 := Hd.mk hz71
    have hz71 : z71 = A 19 ((A 0 47)).toNat := hz71
    refine lv_istore (lv' := [(4, .int (iI z71)), (0, .ref (q 0)), (1, .int (iI 4)), (2, .long (jI x2))]) hx hb (dk_at dkX12_named_2 8 rfl) hl (by decide) rfl (fun ls hl => ?_)
    refine lv_iconst (v := iI 0) hx hb (dk_at dkX12_named_2 9 rfl) (by decide +kernel) ?_
    refine lv_istore (lv' := [(5, .int (iI 0)), (4, .int (iI z71)), (0, .ref (q 0)), (1, .int (iI 4)), (2, .long (jI x2))]) hx hb (dk_at dkX12_named_2 10 rfl) hl (by decide) rfl (fun ls hl => ?_)
    have L81_74 : ∀ (n76 : Nat) (z72 : Int) (H : Heap) (locs : List Loc) (ls : Array Slot), (0 ≤ z72) → (0 ≤ z72 ∧ z72 ≤ 2147483647) → (∀ (z : Int), (∃ mm5 : Nat, (d_X12_named_5 x2 z71 A z mm5 z72)) → r_X12_named 4 x2 A z) → ((z71 - z72 + 1).toNat = n76) → va_P (dC, dI) vwCl (WM cI cJ cZ q A) H → va_S AS s.heap H locs → lv_has ls 6 [(5, .int (iI z72)), (4, .int (iI z71)), (0, .ref (q 0)), (1, .int (iI 4)), (2, .long (jI x2))] → W p l e (headSpec ws_mc_X12_named ({ frames := 1, cells := 0, slots := 0, locals := 23 } : Room)).room s m [.ref (q 0), .int (iI 4), .long (jI x2)].toArray below meth c H locs 0 0 Q (F0 m 81 ls []) := by
      intro n76
      induction n76 using Nat.strongRecOn with
      | ind n76 ih75 =>
        intro z72 H locs ls f77 f78 hk5 hn76 hP hS hl
        refine lv_iload hx hb (dk_at dkX12_named_2 11 rfl) (lv_at hl 0 rfl) ?_
        refine lv_iload hx hb (dk_at dkX12_named_2 12 rfl) (lv_at hl 1 rfl) ?_
        refine lv_icmp_ge (tgt := 113) hx hb (dk_at dkX12_named_2 13 rfl) (by decide) (fun c79 => ?_) (fun c79 => ?_)
        · have c79 : z71 ≤ z72 := (i_le (rb rz71 (by decide) (by decide)) (rb f78 (by decide) (by decide))).mp c79
          refine lv_iconst (v := iI (-1)) hx hb (dk_at dkX12_named_3 11 rfl) (by decide +kernel) ?_
          exact RET (-1) _ _ _ _ _ ⟨rfl, hk5 _ ⟨0 + 1, (u_d_X12_named_5 ⟨f78, (Or.inl ⟨c79, rfl⟩)⟩)⟩, by omega⟩ hP hS (dk_at dkX12_named_3 12 rfl)
        · have c79 : ¬ z71 ≤ z72 := mt (i_le (rb rz71 (by decide) (by decide)) (rb f78 (by decide) (by decide))).mpr c79
          refine lv_aload_n hx hb (dk_at dkX12_named_2 14 rfl) rfl (lv_at hl 2 rfl) ?_
          refine lv_aload_n hx hb (dk_at dkX12_named_2 15 rfl) rfl (lv_at hl 2 rfl) ?_
          refine va_get (D := (dC, dI)) (ci := 12) (v := .int (iI (A 0 47))) (C := RX12) (T := TX12) (N := 85) hx hb hts hiX12 hown hK hP 0 wm0 rfl 47 (by decide) (hts _ (List.mem_cons_of_mem _ wlq_1_12)) (fun _ h9 => h9) rfl (dk_at dkX12_named_3 0 rfl) ?_
          refine lv_iload_n hx hb (dk_at dkX12_named_3 1 rfl) rfl (lv_at hl 3 rfl) ?_
          refine lv_iload hx hb (dk_at dkX12_named_3 2 rfl) (lv_at hl 0 rfl) ?_
          refine x_calll (As := [.int (iI (A 0 47)), .int (iI 4), .int (iI z72)]) (rest := []) ⟨hx, hb, hml, hown, hts⟩ (mc_X12_nameOf l dC dI cB cI cJ cZ cQ q _ (A 0 47) 4 z72 hI r_A_0_47 ⟨by decide, by decide⟩ (by omega) (by omega)) (cwV 3 hts (goodV wlq_1_17 wlq_1_18 wlq_1_19 wlq_0_8 wlq_1_20) rfl rfl rfl (by decide +kernel) ⟨Nat.le_of_ble_eq_true rfl, Nat.le_of_ble_eq_true rfl⟩) hK hDD hA0 hP hS 0 12 wm0 rfl rfl hl.1 (Nat.le_of_ble_eq_true rfl) (dk_at dkX12_named_3 3 rfl) (fun z80 A81 H locs hw82 hP hS => ?_)
          obtain ⟨rfl, hw82⟩ := hw82
          have ghw82 : q_X12_nameOf (A 0 47) 4 z72 A z80 := hw82
          have hw82 := hw82.2
          refine lv_lload_n hx hb (dk_at dkX12_named_3 4 rfl) rfl (lv_at hl 4 rfl) ?_
          refine x_lcmp hx hb (dk_at dkX12_named_3 5 rfl) (by omega) (by omega) (fun z83 hz83 hz83b hz83c => ?_)
          have gz83 := Hd.mk (And.intro hz83 (And.intro hz83b hz83c))
          refine lv_if_ne (tgt := 107) hx hb (dk_at dkX12_named_3 6 rfl) (by decide) (fun c84 => ?_) (fun c84 => ?_)
          · have c84 : ¬ z83 = 0 := mt (i_eq0 (by omega)).mpr c84
            refine lv_iinc (v := iI (z72 + 1)) (lv' := [(5, .int (iI (z72 + 1))), (4, .int (iI z71)), (0, .ref (q 0)), (1, .int (iI 4)), (2, .long (jI x2))]) hx hb (dk_at dkX12_named_3 9 rfl) hl (k := 0) rfl (i_inc (by omega)) (by decide) rfl (fun ls hl => ?_)
            refine lv_goto (tgt := 81) hx hb (dk_at dkX12_named_3 10 rfl) (by decide) ?_
            exact ih75 _ (by omega) (z72 + 1) _ _ _ (by omega) (by omega) (fun zq ⟨mm5, hq⟩ => hk5 _ ⟨mm5 + 1, (u_d_X12_named_5 ⟨f78, (Or.inr ⟨c79, ⟨z80, ghw82, ⟨z83, gz83.out, (Or.inl ⟨c84, hq⟩)⟩⟩⟩)⟩)⟩) rfl hP hS (lv_sub hl [0, 1, 2, 3, 4] rfl)
          · have c84 : z83 = 0 := (i_eq0 (by omega)).mp c84
            refine lv_iload hx hb (dk_at dkX12_named_3 7 rfl) (lv_at hl 0 rfl) ?_
            exact RET z72 _ _ _ _ _ ⟨rfl, hk5 _ ⟨0 + 1, (u_d_X12_named_5 ⟨f78, (Or.inr ⟨c79, ⟨z80, ghw82, ⟨z83, gz83.out, (Or.inr ⟨c84, rfl⟩)⟩⟩⟩)⟩)⟩, by omega⟩ hP hS (dk_at dkX12_named_3 8 rfl)
    exact L81_74 _ 0 _ _ _ (by omega) (by omega) (fun zq ⟨mm5, hq⟩ => (u_r_X12_named (Or.inr (Or.inr (Or.inr (Or.inr ⟨rfl, ⟨z71, gz71.out, ⟨mm5, hq⟩⟩⟩)))))) rfl hP hS (lv_sub hl [0, 1, 2, 3, 4] rfl)
theorem dkX12_counts_0 : dkq cX12_counts [(0, .aload_n 0, 1), (1, .getfield 36, 3), (4, .ifCond .ne 16, 3), (7, .iload_n 1, 1), (8, .ifCond .eq 12, 3), (11, .aload_n 0, 1), (12, .iconst 5, 1), (13, .aload_n 0, 1), (14, .getfield 23, 3), (17, .invokevirtual 286, 3), (20, .aload_n 0, 1), (21, .getfield 36, 3), (24, .ifCond .ne 7, 3), (27, .aload_n 0, 1), (28, .invokevirtual 293, 3), (31, .aload_n 0, 1)] = true := by decide +kernel
theorem dkX12_counts_1 : dkq cX12_counts [(32, .getfield 36, 3), (35, .ifCond .ne 7, 3), (38, .iconst 1, 1), (39, .goto 4, 3), (42, .iconst 0, 1), (43, .ireturn, 1)] = true := by decide +kernel
theorem dkX12_fresh_0 : dkq cX12_fresh [(0, .aload_n 0, 1), (1, .getfield 36, 3), (4, .ifCond .le 5, 3), (7, .lconst 0, 1), (8, .lreturn, 1), (9, .aload_n 0, 1), (10, .getfield 20, 3), (13, .iconst 1, 1), (14, .if_icmp .ne 14, 3), (17, .aload_n 0, 1), (18, .aload_n 0, 1), (19, .getfield 32, 3), (22, .invokevirtual 387, 3), (25, .ifCond .eq 12, 3), (28, .aload_n 0, 1), (29, .iconst 1, 1)] = true := by decide +kernel
theorem dkX12_fresh_1 : dkq cX12_fresh [(30, .aload_n 0, 1), (31, .getfield 23, 3), (34, .invokevirtual 286, 3), (37, .iconst 0, 1), (38, .istore_n 1, 1), (39, .iload_n 1, 1), (40, .iconst 4, 1), (41, .if_icmp .gt 38, 3), (44, .aload_n 0, 1), (45, .getfield 36, 3), (48, .ifCond .ne 31, 3), (51, .aload_n 0, 1), (52, .iload_n 1, 1), (53, .aload_n 0, 1), (54, .getfield 32, 3), (57, .invokevirtual 390, 3)] = true := by decide +kernel
theorem dkX12_fresh_2 : dkq cX12_fresh [(60, .iconst (-1), 1), (61, .if_icmp .eq 12, 3), (64, .aload_n 0, 1), (65, .iconst 2, 1), (66, .aload_n 0, 1), (67, .getfield 23, 3), (70, .invokevirtual 286, 3), (73, .iinc 1 1, 3), (76, .goto (-37), 3), (79, .aload_n 0, 1), (80, .getfield 32, 3), (83, .lstore_n 1, 1), (84, .aload_n 0, 1), (85, .getfield 36, 3), (88, .ifCond .ne 7, 3), (91, .aload_n 0, 1)] = true := by decide +kernel
theorem dkX12_fresh_3 : dkq cX12_fresh [(92, .invokevirtual 293, 3), (95, .lload_n 1, 1), (96, .lreturn, 1)] = true := by decide +kernel
theorem dkX12_asked_0 : dkq cX12_asked [(0, .aload_n 0, 1), (1, .getfield 36, 3), (4, .ifCond .le 5, 3), (7, .iconst 0, 1), (8, .ireturn, 1), (9, .aload_n 0, 1), (10, .getfield 20, 3), (13, .iconst 1, 1), (14, .if_icmp .ne 14, 3), (17, .aload_n 0, 1), (18, .aload_n 0, 1), (19, .getfield 32, 3), (22, .invokevirtual 387, 3), (25, .ifCond .eq 12, 3), (28, .aload_n 0, 1), (29, .iconst 1, 1)] = true := by decide +kernel
theorem dkX12_asked_1 : dkq cX12_asked [(30, .aload_n 0, 1), (31, .getfield 23, 3), (34, .invokevirtual 286, 3), (37, .aload_n 0, 1), (38, .getfield 36, 3), (41, .ifCond .le 7, 3), (44, .iconst 0, 1), (45, .goto 12, 3), (48, .aload_n 0, 1), (49, .iload_n 1, 1), (50, .aload_n 0, 1), (51, .getfield 32, 3), (54, .invokevirtual 390, 3), (57, .istore_n 2, 1), (58, .aload_n 0, 1), (59, .getfield 36, 3)] = true := by decide +kernel
theorem dkX12_asked_2 : dkq cX12_asked [(62, .ifCond .ne 17, 3), (65, .iload_n 2, 1), (66, .iconst (-1), 1), (67, .if_icmp .ne 12, 3), (70, .aload_n 0, 1), (71, .iconst 3, 1), (72, .aload_n 0, 1), (73, .getfield 23, 3), (76, .invokevirtual 286, 3), (79, .aload_n 0, 1), (80, .getfield 36, 3), (83, .ifCond .ne 7, 3), (86, .aload_n 0, 1), (87, .invokevirtual 293, 3), (90, .aload_n 0, 1), (91, .getfield 36, 3)] = true := by decide +kernel
theorem dkX12_asked_3 : dkq cX12_asked [(94, .ifCond .le 7, 3), (97, .iconst 0, 1), (98, .goto 4, 3), (101, .iload_n 2, 1), (102, .ireturn, 1)] = true := by decide +kernel
theorem dkX12_bars_0 : dkq cX12_bars [(0, .aload_n 0, 1), (1, .getfield 36, 3), (4, .ifCond .ne 49, 3), (7, .aload_n 0, 1), (8, .getfield 20, 3), (11, .iconst 1, 1), (12, .if_icmp .ne 41, 3), (15, .aload_n 0, 1), (16, .aload_n 0, 1), (17, .getfield 32, 3), (20, .invokevirtual 387, 3), (23, .ifCond .ne 30, 3), (26, .iload_n 2, 1), (27, .iconst (-1), 1), (28, .if_icmp .eq 25, 3), (31, .aload_n 0, 1)] = true := by decide +kernel
theorem dkX12_bars_1 : dkq cX12_bars [(32, .iload_n 1, 1), (33, .aload_n 0, 1), (34, .getfield 32, 3), (37, .invokevirtual 390, 3), (40, .iload_n 2, 1), (41, .if_icmp .ne 12, 3), (44, .aload_n 0, 1), (45, .iconst 3, 1), (46, .aload_n 0, 1), (47, .getfield 23, 3), (50, .invokevirtual 286, 3), (53, .return_, 1)] = true := by decide +kernel
theorem dkX12_place_0 : dkq cX12_place [(0, .aload_n 0, 1), (1, .aload_n 0, 1), (2, .getfield 51, 3), (5, .aload_n 0, 1), (6, .getfield 155, 3), (9, .iaload, 1), (10, .bipush 8, 2), (12, .if_icmp .ne 7, 3), (15, .iconst 1, 1), (16, .goto 4, 3), (19, .iconst 0, 1), (20, .invokevirtual 394, 3), (23, .ifCond .ne 4, 3), (26, .return_, 1), (27, .aload_n 0, 1), (28, .getfield 54, 3)] = true := by decide +kernel
theorem dkX12_place_1 : dkq cX12_place [(31, .bipush 8, 2), (33, .aload_n 0, 1), (34, .getfield 155, 3), (37, .imul, 1), (38, .aload_n 0, 1), (39, .getfield 51, 3), (42, .aload_n 0, 1), (43, .getfield 155, 3), (46, .iaload, 1), (47, .iadd, 1), (48, .aload_n 0, 1), (49, .invokevirtual 398, 3), (52, .lastore, 1), (53, .aload_n 0, 1), (54, .getfield 36, 3), (57, .ifCond .ne 16, 3)] = true := by decide +kernel
theorem dkX12_place_2 : dkq cX12_place [(60, .aload_n 0, 1), (61, .getfield 51, 3), (64, .aload_n 0, 1), (65, .getfield 155, 3), (68, .dup2, 1), (69, .iaload, 1), (70, .iconst 1, 1), (71, .iadd, 1), (72, .iastore, 1), (73, .return_, 1)] = true := by decide +kernel
theorem dkX12_within_0 : dkq cX12_within [(0, .aload_n 0, 1), (1, .ldc2_w 306, 3), (4, .invokevirtual 402, 3), (7, .aload_n 0, 1), (8, .getfield 36, 3), (11, .ifCond .le 5, 3), (14, .iconst 0, 1), (15, .ireturn, 1), (16, .aload_n 0, 1), (17, .getfield 20, 3), (20, .iconst 1, 1), (21, .if_icmp .ne 26, 3), (24, .aload_n 0, 1), (25, .aload_n 0, 1), (26, .getfield 32, 3), (29, .invokevirtual 387, 3)] = true := by decide +kernel
theorem dkX12_within_1 : dkq cX12_within [(32, .ifCond .ne 15, 3), (35, .aload_n 0, 1), (36, .iconst 1, 1), (37, .aload_n 0, 1), (38, .getfield 32, 3), (41, .invokevirtual 390, 3), (44, .goto 4, 3), (47, .iconst (-1), 1), (48, .istore_n 1, 1), (49, .iload_n 1, 1), (50, .iconst (-1), 1), (51, .if_icmp .eq 20, 3), (54, .aload_n 0, 1), (55, .getfield 70, 3), (58, .bipush 10, 2), (60, .aload_n 0, 1)] = true := by decide +kernel
theorem dkX12_within_2 : dkq cX12_within [(61, .getfield 155, 3), (64, .imul, 1), (65, .iload_n 1, 1), (66, .iadd, 1), (67, .baload, 1), (68, .ifCond .ne 12, 3), (71, .bipush 10, 2), (73, .aload_n 0, 1), (74, .iconst 0, 1), (75, .invokevirtual 406, 3), (78, .iadd, 1), (79, .ireturn, 1), (80, .aload_n 0, 1), (81, .invokevirtual 293, 3), (84, .bipush 20, 2), (86, .iload_n 1, 1)] = true := by decide +kernel
theorem dkX12_within_3 : dkq cX12_within [(87, .iadd, 1), (88, .ireturn, 1)] = true := by decide +kernel
theorem dkX12_isInRow_0 : dkq cX12_isInRow [(0, .iconst 0, 1), (1, .istore_n 3, 1), (2, .iload_n 3, 1), (3, .aload_n 0, 1), (4, .getfield 89, 3), (7, .iload_n 1, 1), (8, .iaload, 1), (9, .if_icmp .ge 26, 3), (12, .aload_n 0, 1), (13, .getfield 92, 3), (16, .bipush 10, 2), (18, .iload_n 1, 1), (19, .imul, 1), (20, .iload_n 3, 1), (21, .iadd, 1), (22, .iaload, 1)] = true := by decide +kernel
theorem dkX12_isInRow_1 : dkq cX12_isInRow [(23, .iload_n 2, 1), (24, .if_icmp .ne 5, 3), (27, .iconst 1, 1), (28, .ireturn, 1), (29, .iinc 3 1, 3), (32, .goto (-30), 3), (35, .iconst 0, 1), (36, .ireturn, 1)] = true := by decide +kernel
theorem dkX12_inRow_0 : dkq cX12_inRow [(0, .aload_n 0, 1), (1, .aload_n 0, 1), (2, .iload_n 1, 1), (3, .invokevirtual 484, 3), (6, .iload_n 2, 1), (7, .invokevirtual 419, 3), (10, .ireturn, 1)] = true := by decide +kernel
theorem dkX12_topOf_0 : dkq cX12_topOf [(0, .aload_n 0, 1), (1, .getfield 89, 3), (4, .aload_n 0, 1), (5, .iload_n 1, 1), (6, .invokevirtual 484, 3), (9, .iaload, 1), (10, .ifCond .ne 7, 3), (13, .iconst (-1), 1), (14, .goto 29, 3), (17, .aload_n 0, 1), (18, .getfield 92, 3), (21, .bipush 10, 2), (23, .aload_n 0, 1), (24, .iload_n 1, 1), (25, .invokevirtual 484, 3), (28, .imul, 1)] = true := by decide +kernel
theorem dkX12_topOf_1 : dkq cX12_topOf [(29, .aload_n 0, 1), (30, .getfield 89, 3), (33, .aload_n 0, 1), (34, .iload_n 1, 1), (35, .invokevirtual 484, 3), (38, .iaload, 1), (39, .iadd, 1), (40, .iconst 1, 1), (41, .isub, 1), (42, .iaload, 1), (43, .ireturn, 1)] = true := by decide +kernel
theorem dkX12_isShut_0 : dkq cX12_isShut [(0, .aload_n 0, 1), (1, .getfield 77, 3), (4, .aload_n 0, 1), (5, .iload_n 1, 1), (6, .invokevirtual 487, 3), (9, .baload, 1), (10, .ifCond .eq 5, 3), (13, .iconst 1, 1), (14, .ireturn, 1), (15, .iconst 0, 1), (16, .istore_n 2, 1), (17, .iload_n 2, 1), (18, .aload_n 0, 1), (19, .getfield 80, 3), (22, .aload_n 0, 1), (23, .getfield 48, 3)] = true := by decide +kernel
theorem dkX12_isShut_1 : dkq cX12_isShut [(26, .iaload, 1), (27, .if_icmp .ge 20, 3), (30, .aload_n 0, 1), (31, .iload_n 2, 1), (32, .iload_n 1, 1), (33, .invokevirtual 490, 3), (36, .ifCond .eq 5, 3), (39, .iconst 1, 1), (40, .ireturn, 1), (41, .iinc 2 1, 3), (44, .goto (-27), 3), (47, .iconst 0, 1), (48, .ireturn, 1)] = true := by decide +kernel
theorem dkX12_isDead_0 : dkq cX12_isDead [(0, .aload_n 0, 1), (1, .getfield 77, 3), (4, .aload_n 0, 1), (5, .iload_n 1, 1), (6, .invokevirtual 487, 3), (9, .baload, 1), (10, .ifCond .eq 5, 3), (13, .iconst 1, 1), (14, .ireturn, 1), (15, .iconst 0, 1), (16, .istore_n 2, 1), (17, .iload_n 2, 1), (18, .aload_n 0, 1), (19, .getfield 80, 3), (22, .aload_n 0, 1), (23, .getfield 48, 3)] = true := by decide +kernel
theorem dkX12_isDead_1 : dkq cX12_isDead [(26, .iaload, 1), (27, .if_icmp .ge 35, 3), (30, .aload_n 0, 1), (31, .getfield 86, 3), (34, .aload_n 0, 1), (35, .iload_n 2, 1), (36, .invokevirtual 484, 3), (39, .iaload, 1), (40, .bipush 40, 2), (42, .if_icmp .ne 14, 3), (45, .aload_n 0, 1), (46, .iload_n 2, 1), (47, .iload_n 1, 1), (48, .invokevirtual 490, 3), (51, .ifCond .eq 5, 3), (54, .iconst 1, 1)] = true := by decide +kernel
theorem dkX12_isDead_2 : dkq cX12_isDead [(55, .ireturn, 1), (56, .iinc 2 1, 3), (59, .goto (-42), 3), (62, .iconst 0, 1), (63, .ireturn, 1)] = true := by decide +kernel
theorem dkX12_closedAll_0 : dkq cX12_closedAll [(0, .iconst 0, 1), (1, .istore_n 1, 1), (2, .iconst 0, 1), (3, .istore_n 2, 1), (4, .iload_n 2, 1), (5, .aload_n 0, 1), (6, .getfield 58, 3), (9, .aload_n 0, 1), (10, .getfield 48, 3), (13, .iaload, 1), (14, .if_icmp .ge 25, 3), (17, .iload_n 1, 1), (18, .aload_n 0, 1), (19, .iload_n 2, 1), (20, .invokevirtual 493, 3), (23, .ifCond .eq 7, 3)] = true := by decide +kernel
theorem dkX12_closedAll_1 : dkq cX12_closedAll [(26, .iconst 1, 1), (27, .goto 4, 3), (30, .iconst 0, 1), (31, .iadd, 1), (32, .istore_n 1, 1), (33, .iinc 2 1, 3), (36, .goto (-32), 3), (39, .iload_n 1, 1), (40, .ireturn, 1)] = true := by decide +kernel
theorem dkX12_has_0 : dkq cX12_has [(0, .iconst 0, 1), (1, .istore_n 2, 1), (2, .iload_n 1, 1), (3, .tableswitch 177 0 9 #[53, 63, 73, 83, 93, 103, 113, 123, 133, 138], 53), (56, .aload_n 0, 1), (57, .getfield 51, 3), (60, .aload_n 0, 1), (61, .getfield 48, 3), (64, .iaload, 1), (65, .ireturn, 1), (66, .aload_n 0, 1), (67, .getfield 58, 3), (70, .aload_n 0, 1), (71, .getfield 48, 3), (74, .iaload, 1), (75, .ireturn, 1)] = true := by decide +kernel
theorem dkX12_has_1 : dkq cX12_has [(76, .aload_n 0, 1), (77, .getfield 80, 3), (80, .aload_n 0, 1), (81, .getfield 48, 3), (84, .iaload, 1), (85, .ireturn, 1), (86, .aload_n 0, 1), (87, .getfield 95, 3), (90, .aload_n 0, 1), (91, .getfield 48, 3), (94, .iaload, 1), (95, .ireturn, 1), (96, .aload_n 0, 1), (97, .getfield 104, 3), (100, .aload_n 0, 1), (101, .getfield 48, 3)] = true := by decide +kernel
theorem dkX12_has_2 : dkq cX12_has [(104, .iaload, 1), (105, .ireturn, 1), (106, .aload_n 0, 1), (107, .getfield 113, 3), (110, .aload_n 0, 1), (111, .getfield 48, 3), (114, .iaload, 1), (115, .ireturn, 1), (116, .aload_n 0, 1), (117, .getfield 122, 3), (120, .aload_n 0, 1), (121, .getfield 48, 3), (124, .iaload, 1), (125, .ireturn, 1), (126, .aload_n 0, 1), (127, .getfield 134, 3)] = true := by decide +kernel
theorem dkX12_has_3 : dkq cX12_has [(130, .aload_n 0, 1), (131, .getfield 48, 3), (134, .iaload, 1), (135, .ireturn, 1), (136, .aload_n 0, 1), (137, .invokevirtual 496, 3), (140, .ireturn, 1), (141, .iconst 0, 1), (142, .istore_n 3, 1), (143, .iload_n 3, 1), (144, .aload_n 0, 1), (145, .getfield 58, 3), (148, .aload_n 0, 1), (149, .getfield 48, 3), (152, .iaload, 1), (153, .if_icmp .ge 25, 3)] = true := by decide +kernel
theorem dkX12_has_4 : dkq cX12_has [(156, .iload_n 2, 1), (157, .aload_n 0, 1), (158, .iload_n 3, 1), (159, .invokevirtual 499, 3), (162, .ifCond .eq 7, 3), (165, .iconst 1, 1), (166, .goto 4, 3), (169, .iconst 0, 1), (170, .iadd, 1), (171, .istore_n 2, 1), (172, .iinc 3 1, 3), (175, .goto (-32), 3), (178, .iload_n 2, 1), (179, .ireturn, 1), (180, .iconst (-1), 1), (181, .ireturn, 1)] = true := by decide +kernel
theorem dkX12_manyOf_0 : dkq cX12_manyOf [(0, .iload_n 1, 1), (1, .ifCond .ne 15, 3), (4, .aload_n 0, 1), (5, .getfield 51, 3), (8, .aload_n 0, 1), (9, .getfield 48, 3), (12, .iaload, 1), (13, .goto 63, 3), (16, .iload_n 1, 1), (17, .iconst 1, 1), (18, .if_icmp .ne 15, 3), (21, .aload_n 0, 1), (22, .getfield 58, 3), (25, .aload_n 0, 1), (26, .getfield 48, 3), (29, .iaload, 1)] = true := by decide +kernel
theorem dkX12_manyOf_1 : dkq cX12_manyOf [(30, .goto 46, 3), (33, .iload_n 1, 1), (34, .iconst 2, 1), (35, .if_icmp .ne 15, 3), (38, .aload_n 0, 1), (39, .getfield 80, 3), (42, .aload_n 0, 1), (43, .getfield 48, 3), (46, .iaload, 1), (47, .goto 29, 3), (50, .iload_n 1, 1), (51, .iconst 3, 1), (52, .if_icmp .ne 15, 3), (55, .aload_n 0, 1), (56, .getfield 95, 3), (59, .aload_n 0, 1)] = true := by decide +kernel
theorem dkX12_manyOf_2 : dkq cX12_manyOf [(60, .getfield 48, 3), (63, .iaload, 1), (64, .goto 12, 3), (67, .aload_n 0, 1), (68, .getfield 104, 3), (71, .aload_n 0, 1), (72, .getfield 48, 3), (75, .iaload, 1), (76, .ireturn, 1)] = true := by decide +kernel
theorem dkX12_letter_0 : dkq cX12_letter [(0, .iload_n 1, 1), (1, .iconst 0, 1), (2, .iconst 4, 1), (3, .invokestatic 352, 3), (6, .ifCond .eq 18, 3), (9, .iload_n 2, 1), (10, .iconst 0, 1), (11, .aload_n 0, 1), (12, .iload_n 1, 1), (13, .invokevirtual 502, 3), (16, .iconst 1, 1), (17, .isub, 1), (18, .invokestatic 352, 3), (21, .ifCond .ne 5, 3), (24, .iconst (-1), 1), (25, .ireturn, 1)] = true := by decide +kernel
theorem dkX12_letter_1 : dkq cX12_letter [(26, .aload_n 0, 1), (27, .aload_n 0, 1), (28, .getfield 48, 3), (31, .iload_n 1, 1), (32, .iload_n 2, 1), (33, .invokevirtual 348, 3), (36, .lstore 4, 2), (38, .iconst 0, 1), (39, .istore 6, 2), (41, .lload 4, 2), (43, .lstore 7, 2), (45, .lload 7, 2), (47, .lconst 0, 1), (48, .lcmp, 1), (49, .ifCond .eq 16, 3), (52, .iinc 6 1, 3)] = true := by decide +kernel
theorem dkX12_letter_2 : dkq cX12_letter [(55, .lload 7, 2), (57, .bipush 8, 2), (59, .lushr, 1), (60, .lstore 7, 2), (62, .goto (-17), 3), (65, .iload_n 3, 1), (66, .ifCond .lt 9, 3), (69, .iload_n 3, 1), (70, .iload 6, 2), (72, .if_icmp .lt 7, 3), (75, .iconst (-1), 1), (76, .goto 20, 3), (79, .lload 4, 2), (81, .bipush 8, 2), (83, .iload 6, 2), (85, .iconst 1, 1)] = true := by decide +kernel
theorem dkX12_letter_3 : dkq cX12_letter [(86, .isub, 1), (87, .iload_n 3, 1), (88, .isub, 1), (89, .imul, 1), (90, .lushr, 1), (91, .ldc2_w 505, 3), (94, .land, 1), (95, .l2i, 1), (96, .ireturn, 1)] = true := by decide +kernel
theorem dkX12_door__0 : dkq cX12_door_ [(0, .aload_n 0, 1), (1, .iload_n 1, 1), (2, .invokevirtual 507, 3), (5, .ifCond .ne 5, 3), (8, .iconst (-1), 1), (9, .ireturn, 1), (10, .iconst 0, 1), (11, .istore_n 3, 1), (12, .iconst 0, 1), (13, .istore 4, 2), (15, .iload 4, 2), (17, .aload_n 0, 1), (18, .getfield 80, 3), (21, .aload_n 0, 1), (22, .getfield 48, 3), (25, .iaload, 1)] = true := by decide +kernel
theorem dkX12_door__1 : dkq cX12_door_ [(26, .if_icmp .ge 27, 3), (29, .iload_n 3, 1), (30, .aload_n 0, 1), (31, .iload 4, 2), (33, .iload_n 1, 1), (34, .invokevirtual 490, 3), (37, .ifCond .eq 7, 3), (40, .iconst 1, 1), (41, .goto 4, 3), (44, .iconst 0, 1), (45, .iadd, 1), (46, .istore_n 3, 1), (47, .iinc 4 1, 3), (50, .goto (-35), 3), (53, .iload_n 2, 1), (54, .tableswitch 147 0 7 #[46, 57, 68, 87, 98, 112, 114, 133], 46)] = true := by decide +kernel
theorem dkX12_door__2 : dkq cX12_door_ [(100, .aload_n 0, 1), (101, .getfield 64, 3), (104, .aload_n 0, 1), (105, .iload_n 1, 1), (106, .invokevirtual 487, 3), (109, .iaload, 1), (110, .ireturn, 1), (111, .aload_n 0, 1), (112, .getfield 67, 3), (115, .aload_n 0, 1), (116, .iload_n 1, 1), (117, .invokevirtual 487, 3), (120, .iaload, 1), (121, .ireturn, 1), (122, .aload_n 0, 1), (123, .getfield 70, 3)] = true := by decide +kernel
theorem dkX12_door__3 : dkq cX12_door_ [(126, .aload_n 0, 1), (127, .iload_n 1, 1), (128, .invokevirtual 487, 3), (131, .baload, 1), (132, .ifCond .eq 7, 3), (135, .iconst 1, 1), (136, .goto 4, 3), (139, .iconst 0, 1), (140, .ireturn, 1), (141, .aload_n 0, 1), (142, .getfield 74, 3), (145, .aload_n 0, 1), (146, .iload_n 1, 1), (147, .invokevirtual 487, 3), (150, .iaload, 1), (151, .ireturn, 1)] = true := by decide +kernel
theorem dkX12_door__4 : dkq cX12_door_ [(152, .aload_n 0, 1), (153, .iload_n 1, 1), (154, .invokevirtual 493, 3), (157, .ifCond .eq 7, 3), (160, .iconst 1, 1), (161, .goto 4, 3), (164, .iconst 0, 1), (165, .ireturn, 1), (166, .iload_n 3, 1), (167, .ireturn, 1), (168, .aload_n 0, 1), (169, .getfield 77, 3), (172, .aload_n 0, 1), (173, .iload_n 1, 1), (174, .invokevirtual 487, 3), (177, .baload, 1)] = true := by decide +kernel
theorem dkX12_door__5 : dkq cX12_door_ [(178, .ifCond .eq 7, 3), (181, .iconst 1, 1), (182, .goto 4, 3), (185, .iconst 0, 1), (186, .ireturn, 1), (187, .aload_n 0, 1), (188, .iload_n 1, 1), (189, .invokevirtual 499, 3), (192, .ifCond .eq 7, 3), (195, .iconst 1, 1), (196, .goto 4, 3), (199, .iconst 0, 1), (200, .ireturn, 1), (201, .iconst (-1), 1), (202, .ireturn, 1)] = true := by decide +kernel
theorem dkX12_key__0 : dkq cX12_key_ [(0, .aload_n 0, 1), (1, .iload_n 1, 1), (2, .invokevirtual 510, 3), (5, .ifCond .ne 7, 3), (8, .iconst (-1), 1), (9, .goto 52, 3), (12, .iload_n 2, 1), (13, .ifCond .ne 16, 3), (16, .aload_n 0, 1), (17, .getfield 86, 3), (20, .aload_n 0, 1), (21, .iload_n 1, 1), (22, .invokevirtual 484, 3), (25, .iaload, 1), (26, .goto 35, 3), (29, .iload_n 2, 1)] = true := by decide +kernel
theorem dkX12_key__1 : dkq cX12_key_ [(30, .iconst 1, 1), (31, .if_icmp .ne 16, 3), (34, .aload_n 0, 1), (35, .getfield 89, 3), (38, .aload_n 0, 1), (39, .iload_n 1, 1), (40, .invokevirtual 484, 3), (43, .iaload, 1), (44, .goto 17, 3), (47, .iload_n 2, 1), (48, .iconst 2, 1), (49, .if_icmp .ne 11, 3), (52, .aload_n 0, 1), (53, .iload_n 1, 1), (54, .invokevirtual 513, 3), (57, .goto 4, 3)] = true := by decide +kernel
theorem dkX12_key__2 : dkq cX12_key_ [(60, .iconst (-1), 1), (61, .ireturn, 1)] = true := by decide +kernel
theorem dkX12_in_0 : dkq cX12_in [(0, .aload_n 0, 1), (1, .iload_n 1, 1), (2, .invokevirtual 510, 3), (5, .ifCond .eq 23, 3), (8, .iload_n 2, 1), (9, .iconst 0, 1), (10, .aload_n 0, 1), (11, .getfield 89, 3), (14, .aload_n 0, 1), (15, .iload_n 1, 1), (16, .invokevirtual 484, 3), (19, .iaload, 1), (20, .iconst 1, 1), (21, .isub, 1), (22, .invokestatic 352, 3), (25, .ifCond .ne 7, 3)] = true := by decide +kernel
theorem dkX12_in_1 : dkq cX12_in [(28, .iconst (-1), 1), (29, .goto 18, 3), (32, .aload_n 0, 1), (33, .getfield 92, 3), (36, .bipush 10, 2), (38, .aload_n 0, 1), (39, .iload_n 1, 1), (40, .invokevirtual 484, 3), (43, .imul, 1), (44, .iload_n 2, 1), (45, .iadd, 1), (46, .iaload, 1), (47, .ireturn, 1)] = true := by decide +kernel
theorem dkX12_keysOf_0 : dkq cX12_keysOf [(0, .iconst 0, 1), (1, .istore_n 2, 1), (2, .iconst 0, 1), (3, .istore_n 3, 1), (4, .iload_n 3, 1), (5, .aload_n 0, 1), (6, .getfield 80, 3), (9, .aload_n 0, 1), (10, .getfield 48, 3), (13, .iaload, 1), (14, .if_icmp .ge 33, 3), (17, .iload_n 2, 1), (18, .aload_n 0, 1), (19, .getfield 86, 3), (22, .aload_n 0, 1), (23, .iload_n 3, 1)] = true := by decide +kernel
theorem dkX12_keysOf_1 : dkq cX12_keysOf [(24, .invokevirtual 484, 3), (27, .iaload, 1), (28, .iload_n 1, 1), (29, .if_icmp .ne 9, 3), (32, .iconst 1, 1), (33, .iload_n 3, 1), (34, .ishl, 1), (35, .goto 4, 3), (38, .iconst 0, 1), (39, .ior, 1), (40, .istore_n 2, 1), (41, .iinc 3 1, 3), (44, .goto (-40), 3), (47, .iload_n 2, 1), (48, .ireturn, 1)] = true := by decide +kernel
theorem dkX12_bitsOf_0 : dkq cX12_bitsOf [(0, .iconst 0, 1), (1, .istore_n 1, 1), (2, .iload_n 0, 1), (3, .istore_n 2, 1), (4, .iload_n 2, 1), (5, .ifCond .eq 16, 3), (8, .iload_n 1, 1), (9, .iload_n 2, 1), (10, .iconst 1, 1), (11, .iand, 1), (12, .iadd, 1), (13, .istore_n 1, 1), (14, .iload_n 2, 1), (15, .iconst 1, 1), (16, .iushr, 1), (17, .istore_n 2, 1)] = true := by decide +kernel
theorem dkX12_bitsOf_1 : dkq cX12_bitsOf [(18, .goto (-14), 3), (21, .iload_n 1, 1), (22, .ireturn, 1)] = true := by decide +kernel
