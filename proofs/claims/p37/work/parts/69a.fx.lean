/-! FX: the entries -/
/-- Law.law, 18 -/
def fx_t0 : fx_T1 := (334, 18, [(0, 7, some 0, 0), (1, 2, some 0, 0), (2, 2, some 66, 0), (3, 0, none, 0)], 0)
/-- x.feed, 0 -/
def fx_t1 : fx_T1 := (115, 0, [(0, 2, some 0, 0), (1, 0, none, 0), (2, 0, none, 0), (3, 0, none, 0), (4, 0, none, 0), (5, 0, none, 0)], 0)
/-- m.feed, 0 -/
def fx_t2 : fx_T1 := (211, 0, [(0, 2, some 66, 0), (1, 0, none, 0), (2, 0, none, 0), (3, 0, none, 0), (4, 0, none, 0), (5, 0, none, 0)], 0)
/-- x.end, 0 -/
def fx_t3 : fx_T1 := (116, 0, [(0, 2, some 0, 0), (1, 0, none, 0)], 0)
/-- m.end, 0 -/
def fx_t4 : fx_T1 := (212, 0, [(0, 2, some 66, 0), (1, 0, none, 0)], 0)
/-- x.next, 0 -/
def fx_t5 : fx_T1 := (117, 0, [(0, 2, some 0, 0), (1, 0, none, 0)], 0)
/-- m.next, 0 -/
def fx_t6 : fx_T1 := (213, 0, [(0, 2, some 66, 0), (1, 0, none, 0)], 0)
/-- x.village, 0 -/
def fx_t7 : fx_T1 := (118, 0, [(0, 2, some 0, 0), (1, 0, none, 0), (2, 0, none, 0), (3, 0, none, 0)], 0)
/-- m.village, 0 -/
def fx_t8 : fx_T1 := (214, 0, [(0, 2, some 66, 0), (1, 0, none, 0), (2, 0, none, 0), (3, 0, none, 0)], 0)
/-- x.moved, 0 -/
def fx_t9 : fx_T1 := (119, 0, [(0, 2, some 0, 0), (1, 0, none, 0), (2, 0, none, 0)], 0)
/-- m.moved, 0 -/
def fx_t10 : fx_T1 := (215, 0, [(0, 2, some 66, 0), (1, 0, none, 0), (2, 0, none, 0)], 0)
/-- x.statute, 0 -/
def fx_t11 : fx_T1 := (120, 0, [(0, 2, some 0, 0), (1, 0, none, 0)], 0)
/-- m.statute, 0 -/
def fx_t12 : fx_T1 := (230, 0, [(0, 2, some 66, 0), (1, 0, none, 0)], 0)
/-- x.fault, 0 -/
def fx_t13 : fx_T1 := (121, 0, [(0, 2, some 0, 0), (1, 0, none, 0)], 0)
/-- m.fault, 0 -/
def fx_t14 : fx_T1 := (231, 0, [(0, 2, some 66, 0), (1, 0, none, 0)], 0)
/-- x.force, 0 -/
def fx_t15 : fx_T1 := (122, 0, [(0, 2, some 0, 0), (1, 0, none, 0), (2, 0, none, 0)], 0)
/-- m.force, 0 -/
def fx_t16 : fx_T1 := (236, 0, [(0, 2, some 66, 0), (1, 0, none, 0), (2, 0, none, 0)], 0)
/-- x.claims, 0 -/
def fx_t17 : fx_T1 := (123, 0, [(0, 2, some 0, 0), (1, 0, none, 0), (2, 0, none, 0), (3, 0, none, 0)], 0)
/-- m.claims, 0 -/
def fx_t18 : fx_T1 := (242, 0, [(0, 2, some 66, 0), (1, 0, none, 0), (2, 0, none, 0), (3, 0, none, 0)], 0)
/-- x.nation, 0 -/
def fx_t19 : fx_T1 := (124, 0, [(0, 2, some 0, 0), (1, 0, none, 0), (2, 0, none, 0), (3, 0, none, 0)], 0)
/-- m.nation, 0 -/
def fx_t20 : fx_T1 := (243, 0, [(0, 2, some 66, 0), (1, 0, none, 0), (2, 0, none, 0), (3, 0, none, 0)], 0)
/-- x.sways, 0 -/
def fx_t21 : fx_T1 := (125, 0, [(0, 2, some 0, 0), (1, 0, none, 0)], 0)
/-- m.sways, 0 -/
def fx_t22 : fx_T1 := (244, 0, [(0, 2, some 66, 0), (1, 0, none, 0)], 0)
/-- x.oath, 0 -/
def fx_t23 : fx_T1 := (126, 0, [(0, 2, some 0, 0), (1, 0, none, 0), (2, 0, none, 0)], 0)
/-- m.oath, 0 -/
def fx_t24 : fx_T1 := (245, 0, [(0, 2, some 66, 0), (1, 0, none, 0), (2, 0, none, 0)], 0)
/-- x.oaths, 0 -/
def fx_t25 : fx_T1 := (127, 0, [(0, 2, some 0, 0), (1, 0, none, 0)], 0)
/-- m.oaths, 0 -/
def fx_t26 : fx_T1 := (315, 0, [(0, 2, some 66, 0), (1, 0, none, 0)], 0)
/-- x.leave, 0 -/
def fx_t27 : fx_T1 := (128, 0, [(0, 2, some 0, 0), (1, 0, none, 0)], 0)
/-- m.leave, 0 -/
def fx_t28 : fx_T1 := (246, 0, [(0, 2, some 66, 0), (1, 0, none, 0)], 0)
/-- x.personOf, 0 -/
def fx_t29 : fx_T1 := (129, 0, [(0, 2, some 0, 0), (1, 0, none, 0), (2, 0, none, 0)], 0)
/-- m.personOf, 0 -/
def fx_t30 : fx_T1 := (248, 0, [(0, 2, some 66, 0), (1, 0, none, 0), (2, 0, none, 0)], 0)
/-- x.of, 0 -/
def fx_t31 : fx_T1 := (130, 0, [(0, 2, some 0, 0), (1, 0, none, 0), (2, 0, none, 0)], 0)
/-- m.of, 0 -/
def fx_t32 : fx_T1 := (250, 0, [(0, 2, some 66, 0), (1, 0, none, 0), (2, 0, none, 0)], 0)
/-- x.heads, 0 -/
def fx_t33 : fx_T1 := (131, 0, [(0, 2, some 0, 0), (1, 0, none, 0), (2, 0, none, 0), (3, 0, none, 0)], 0)
/-- m.heads, 0 -/
def fx_t34 : fx_T1 := (251, 0, [(0, 2, some 66, 0), (1, 0, none, 0), (2, 0, none, 0), (3, 0, none, 0)], 0)
/-- x.sorted, 0 -/
def fx_t35 : fx_T1 := (132, 0, [(0, 2, some 0, 0), (1, 0, none, 0), (2, 0, none, 0), (3, 0, none, 0)], 0)
/-- m.sorted, 0 -/
def fx_t36 : fx_T1 := (253, 0, [(0, 2, some 66, 0), (1, 0, none, 0), (2, 0, none, 0), (3, 0, none, 0)], 0)
/-- x.fees, 0 -/
def fx_t37 : fx_T1 := (133, 0, [(0, 2, some 0, 0), (1, 0, none, 0), (2, 0, none, 0), (3, 0, none, 0)], 0)
/-- m.fees, 0 -/
def fx_t38 : fx_T1 := (255, 0, [(0, 2, some 66, 0), (1, 0, none, 0), (2, 0, none, 0), (3, 0, none, 0)], 0)
/-- x.pay, 0 -/
def fx_t39 : fx_T1 := (134, 0, [(0, 2, some 0, 0), (1, 0, none, 0), (2, 0, none, 0)], 0)
/-- m.pay, 0 -/
def fx_t40 : fx_T1 := (256, 0, [(0, 2, some 66, 0), (1, 0, none, 0), (2, 0, none, 0)], 0)
/-- x.feast, 0 -/
def fx_t41 : fx_T1 := (135, 0, [(0, 2, some 0, 0), (1, 0, none, 0), (2, 0, none, 0)], 0)
/-- m.feast, 0 -/
def fx_t42 : fx_T1 := (257, 0, [(0, 2, some 66, 0), (1, 0, none, 0), (2, 0, none, 0)], 0)
/-- x.even, 0 -/
def fx_t43 : fx_T1 := (136, 0, [(0, 2, some 0, 0), (1, 0, none, 0), (2, 0, none, 0)], 0)
/-- m.even, 0 -/
def fx_t44 : fx_T1 := (258, 0, [(0, 2, some 66, 0), (1, 0, none, 0), (2, 0, none, 0)], 0)
/-- x.masters, 0 -/
def fx_t45 : fx_T1 := (137, 0, [(0, 2, some 0, 0), (1, 0, none, 0)], 0)
/-- m.masters, 0 -/
def fx_t46 : fx_T1 := (260, 0, [(0, 2, some 66, 0), (1, 0, none, 0)], 0)
/-- x.part, 0 -/
def fx_t47 : fx_T1 := (138, 0, [(0, 2, some 0, 0), (1, 0, none, 0)], 0)
/-- m.part, 0 -/
def fx_t48 : fx_T1 := (261, 0, [(0, 2, some 66, 0), (1, 0, none, 0)], 0)
/-- x.call, 0 -/
def fx_t49 : fx_T1 := (139, 0, [(0, 2, some 0, 0)], 0)
/-- m.call, 0 -/
def fx_t50 : fx_T1 := (266, 0, [(0, 2, some 66, 0)], 0)
/-- x.vote, 0 -/
def fx_t51 : fx_T1 := (140, 0, [(0, 2, some 0, 0), (1, 0, none, 0), (2, 0, none, 0), (3, 0, none, 0)], 0)
/-- m.vote, 0 -/
def fx_t52 : fx_T1 := (267, 0, [(0, 2, some 66, 0), (1, 0, none, 0), (2, 0, none, 0), (3, 0, none, 0)], 0)
/-- x.close, 0 -/
def fx_t53 : fx_T1 := (141, 0, [(0, 2, some 0, 0), (1, 0, none, 0)], 0)
/-- m.close, 0 -/
def fx_t54 : fx_T1 := (275, 0, [(0, 2, some 66, 0), (1, 0, none, 0)], 0)
/-- x.electionOf, 0 -/
def fx_t55 : fx_T1 := (142, 0, [(0, 2, some 0, 0), (1, 0, none, 0), (2, 0, none, 0)], 0)
/-- m.electionOf, 0 -/
def fx_t56 : fx_T1 := (276, 0, [(0, 2, some 66, 0), (1, 0, none, 0), (2, 0, none, 0)], 0)
/-- x.under, 0 -/
def fx_t57 : fx_T1 := (143, 0, [(0, 2, some 0, 0), (1, 0, none, 0), (2, 0, none, 0)], 0)
/-- m.under, 0 -/
def fx_t58 : fx_T1 := (277, 0, [(0, 2, some 66, 0), (1, 0, none, 0), (2, 0, none, 0)], 0)
/-- x.swing, 0 -/
def fx_t59 : fx_T1 := (144, 0, [(0, 2, some 0, 0), (1, 0, none, 0)], 0)
/-- m.swing, 0 -/
def fx_t60 : fx_T1 := (280, 0, [(0, 2, some 66, 0), (1, 0, none, 0)], 0)
/-- x.undo, 0 -/
def fx_t61 : fx_T1 := (145, 0, [(0, 2, some 0, 0), (1, 0, none, 0)], 0)
/-- m.undo, 0 -/
def fx_t62 : fx_T1 := (282, 0, [(0, 2, some 66, 0), (1, 0, none, 0)], 0)
/-- x.rector, 0 -/
def fx_t63 : fx_T1 := (146, 0, [(0, 2, some 0, 0), (1, 0, none, 0), (2, 0, none, 0)], 0)
/-- m.rector, 0 -/
def fx_t64 : fx_T1 := (285, 0, [(0, 2, some 66, 0), (1, 0, none, 0), (2, 0, none, 0)], 0)
/-- x.turn, 0 -/
def fx_t65 : fx_T1 := (147, 0, [(0, 2, some 0, 0), (1, 0, none, 0), (2, 0, none, 0)], 0)
/-- m.turn, 0 -/
def fx_t66 : fx_T1 := (286, 0, [(0, 2, some 66, 0), (1, 0, none, 0), (2, 0, none, 0)], 0)
/-- x.house, 0 -/
def fx_t67 : fx_T1 := (148, 0, [(0, 2, some 0, 0), (1, 0, none, 0), (2, 0, none, 0), (3, 0, none, 0)], 0)
/-- m.house, 0 -/
def fx_t68 : fx_T1 := (288, 0, [(0, 2, some 66, 0), (1, 0, none, 0), (2, 0, none, 0), (3, 0, none, 0)], 0)
/-- x.appeal, 0 -/
def fx_t69 : fx_T1 := (149, 0, [(0, 2, some 0, 0), (1, 0, none, 0), (2, 0, none, 0)], 0)
/-- m.appeal, 0 -/
def fx_t70 : fx_T1 := (289, 0, [(0, 2, some 66, 0), (1, 0, none, 0), (2, 0, none, 0)], 0)
/-- x.rent, 0 -/
def fx_t71 : fx_T1 := (150, 0, [(0, 2, some 0, 0), (1, 0, none, 0)], 0)
/-- m.rent, 0 -/
def fx_t72 : fx_T1 := (290, 0, [(0, 2, some 66, 0), (1, 0, none, 0)], 0)
/-- x.wish, 0 -/
def fx_t73 : fx_T1 := (151, 0, [(0, 2, some 0, 0), (1, 0, none, 0), (2, 0, none, 0)], 0)
/-- m.wish, 0 -/
def fx_t74 : fx_T1 := (291, 0, [(0, 2, some 66, 0), (1, 0, none, 0), (2, 0, none, 0)], 0)
/-- x.lodge, 0 -/
def fx_t75 : fx_T1 := (152, 0, [(0, 2, some 0, 0)], 0)
/-- m.lodge, 0 -/
def fx_t76 : fx_T1 := (293, 0, [(0, 2, some 66, 0)], 0)
/-- x.lodged, 0 -/
def fx_t77 : fx_T1 := (153, 0, [(0, 2, some 0, 0), (1, 0, none, 0)], 0)
/-- m.lodged, 0 -/
def fx_t78 : fx_T1 := (294, 0, [(0, 2, some 66, 0), (1, 0, none, 0)], 0)
/-- x.worth, 0 -/
def fx_t79 : fx_T1 := (154, 0, [(0, 2, some 0, 0), (1, 0, none, 0), (2, 0, none, 0)], 0)
/-- m.worth, 0 -/
def fx_t80 : fx_T1 := (295, 0, [(0, 2, some 66, 0), (1, 0, none, 0), (2, 0, none, 0)], 0)
/-- x.exodus, 0 -/
def fx_t81 : fx_T1 := (155, 0, [(0, 2, some 0, 0), (1, 0, none, 0)], 0)
/-- m.exodus, 0 -/
def fx_t82 : fx_T1 := (298, 0, [(0, 2, some 66, 0), (1, 0, none, 0)], 0)
/-- x.goes, 0 -/
def fx_t83 : fx_T1 := (156, 0, [(0, 2, some 0, 0), (1, 0, none, 0), (2, 0, none, 0)], 0)
/-- m.goes, 0 -/
def fx_t84 : fx_T1 := (299, 0, [(0, 2, some 66, 0), (1, 0, none, 0), (2, 0, none, 0)], 0)
/-- x.returns, 0 -/
def fx_t85 : fx_T1 := (157, 0, [(0, 2, some 0, 0), (1, 0, none, 0)], 0)
/-- m.returns, 0 -/
def fx_t86 : fx_T1 := (300, 0, [(0, 2, some 66, 0), (1, 0, none, 0)], 0)
/-- x.judge, 0 -/
def fx_t87 : fx_T1 := (158, 0, [(0, 2, some 0, 0), (1, 0, none, 0)], 0)
/-- m.judge, 0 -/
def fx_t88 : fx_T1 := (301, 0, [(0, 2, some 66, 0), (1, 0, none, 0)], 0)
/-- x.entry, 0 -/
def fx_t89 : fx_T1 := (159, 0, [(0, 2, some 0, 0), (1, 0, none, 0), (2, 0, none, 0), (3, 0, none, 0), (4, 0, none, 0)], 0)
/-- m.entry, 0 -/
def fx_t90 : fx_T1 := (302, 0, [(0, 2, some 66, 0), (1, 0, none, 0), (2, 0, none, 0), (3, 0, none, 0), (4, 0, none, 0)], 0)
/-- x.join, 0 -/
def fx_t91 : fx_T1 := (160, 0, [(0, 2, some 0, 0)], 0)
/-- m.join, 0 -/
def fx_t92 : fx_T1 := (305, 0, [(0, 2, some 66, 0)], 0)
/-- x.joined, 0 -/
def fx_t93 : fx_T1 := (161, 0, [(0, 2, some 0, 0), (1, 0, none, 0)], 0)
/-- m.joined, 0 -/
def fx_t94 : fx_T1 := (306, 0, [(0, 2, some 66, 0), (1, 0, none, 0)], 0)
/-- x.rivals, 0 -/
def fx_t95 : fx_T1 := (162, 0, [(0, 2, some 0, 0)], 0)
/-- m.rivals, 0 -/
def fx_t96 : fx_T1 := (307, 0, [(0, 2, some 66, 0)], 0)
/-- x.count, 0 -/
def fx_t97 : fx_T1 := (163, 0, [(0, 2, some 0, 0), (1, 0, none, 0)], 0)
/-- m.count, 0 -/
def fx_t98 : fx_T1 := (308, 0, [(0, 2, some 66, 0), (1, 0, none, 0)], 0)
/-- x.purse, 0 -/
def fx_t99 : fx_T1 := (164, 0, [(0, 2, some 0, 0), (1, 0, none, 0)], 0)
/-- m.purse, 0 -/
def fx_t100 : fx_T1 := (309, 0, [(0, 2, some 66, 0), (1, 0, none, 0)], 0)
/-- x.keep, 0 -/
def fx_t101 : fx_T1 := (165, 0, [(0, 2, some 0, 0), (1, 0, none, 0)], 0)
/-- m.keep, 0 -/
def fx_t102 : fx_T1 := (203, 0, [(0, 2, some 66, 0), (1, 0, none, 0)], 0)
/-- x.back, 0 -/
def fx_t103 : fx_T1 := (166, 0, [(0, 2, some 0, 0), (1, 0, none, 0)], 0)
/-- m.back, 0 -/
def fx_t104 : fx_T1 := (204, 0, [(0, 2, some 66, 0), (1, 0, none, 0)], 0)
/-- x.row, 0 -/
def fx_t105 : fx_T1 := (167, 0, [(0, 2, some 0, 0), (1, 0, none, 0), (2, 0, none, 0), (3, 0, none, 0)], 0)
/-- m.row, 0 -/
def fx_t106 : fx_T1 := (312, 0, [(0, 2, some 66, 0), (1, 0, none, 0), (2, 0, none, 0), (3, 0, none, 0)], 0)
/-- x.write, 0 -/
def fx_t107 : fx_T1 := (168, 0, [(0, 2, some 0, 0), (1, 0, none, 0), (2, 0, none, 0), (3, 1, none, 0)], 0)
/-- m.write, 0 -/
def fx_t108 : fx_T1 := (313, 0, [(0, 2, some 66, 0), (1, 0, none, 0), (2, 0, none, 0), (3, 1, none, 0)], 0)
/-- x.paste, 0 -/
def fx_t109 : fx_T1 := (169, 0, [(0, 2, some 0, 0), (1, 0, none, 0), (2, 0, none, 0), (3, 0, none, 0), (4, 0, none, 0), (5, 0, none, 0)], 0)
/-- m.paste, 0 -/
def fx_t110 : fx_T1 := (314, 0, [(0, 2, some 66, 0), (1, 0, none, 0), (2, 0, none, 0), (3, 0, none, 0), (4, 0, none, 0), (5, 0, none, 0)], 0)
/-- Reader.append, 0 -/
def fx_t111 : fx_T1 := (73, 0, [(0, 2, some 50, 0), (1, 0, none, 0)], 9)
/-- m.feed, 55 -/
def fx_t112 : fx_T1 := (211, 55, [(0, 2, some 66, 0), (6, 0, none, 0)], 0)
/-- m.in, 0 -/
def fx_t113 : fx_T1 := (202, 0, [(0, 1, none, 0), (2, 1, none, 0), (4, 1, none, 0)], 0)
/-- x.within, 0 -/
def fx_t114 : fx_T1 := (170, 0, [(0, 0, none, 0), (1, 0, none, 0), (2, 0, none, 0)], 0)
/-- Country.addVillage, 0 -/
def fx_t115 : fx_T1 := (6, 0, [(0, 2, some 2, 0), (1, 0, none, 0), (2, 0, none, 0), (3, 0, none, 0)], 0)
/-- Country.addWord, 0 -/
def fx_t116 : fx_T1 := (7, 0, [(0, 2, some 2, 0), (1, 0, none, 0), (2, 0, none, 0), (3, 0, none, 0)], 0)
/-- Reader.read, 0 -/
def fx_t117 : fx_T1 := (74, 0, [(0, 2, some 50, 0), (1, 2, some 2, 0)], 3)
/-- Country.addStatute, 0 -/
def fx_t118 : fx_T1 := (8, 0, [(0, 2, some 2, 0), (1, 3, none, 0), (2, 0, none, 0), (3, 0, none, 0)], 0)
/-- x.canPassStatutes, 0 -/
def fx_t119 : fx_T1 := (183, 0, [(0, 2, some 0, 0), (1, 0, none, 0)], 0)
/-- m.step, 0 -/
def fx_t120 : fx_T1 := (218, 0, [(0, 2, some 66, 0)], 9)
/-- m.statute, 64 -/
def fx_t121 : fx_T1 := (230, 64, [(0, 2, some 66, 0), (1, 0, none, 0), (2, 0, none, 0)], 0)
/-- m.mayPass, 0 -/
def fx_t122 : fx_T1 := (265, 0, [(0, 2, some 66, 0), (1, 0, none, 0)], 0)
/-- Country.inForce, 0 -/
def fx_t123 : fx_T1 := (9, 0, [(0, 2, some 2, 0), (1, 0, none, 0), (2, 0, none, 0)], 0)
/-- m.forceOf, 0 -/
def fx_t124 : fx_T1 := (235, 0, [(0, 2, some 66, 0), (1, 0, none, 0), (2, 0, none, 0)], 0)
/-- Math.min, 0 -/
def fx_t125 : fx_T1 := (320, 0, [(0, 0, none, 0), (1, 0, none, 0)], 0)
/-- Country.claimsBy, 0 -/
def fx_t126 : fx_T1 := (15, 0, [(0, 2, some 2, 0), (1, 0, none, 0), (2, 0, none, 0), (3, 0, none, 0)], 0)
/-- m.landOf, 0 -/
def fx_t127 : fx_T1 := (216, 0, [(0, 2, some 66, 0), (1, 0, none, 0), (2, 0, none, 0)], 0)
/-- m.claimsBy, 0 -/
def fx_t128 : fx_T1 := (240, 0, [(0, 2, some 66, 0), (1, 0, none, 0), (2, 0, none, 0), (3, 0, none, 0)], 0)
/-- Country.landOn, 0 -/
def fx_t129 : fx_T1 := (12, 0, [(0, 2, some 2, 0), (1, 0, none, 0), (2, 0, none, 0)], 0)
/-- Country.nationIfOf, 0 -/
def fx_t130 : fx_T1 := (14, 0, [(0, 2, some 2, 0), (1, 0, none, 0), (2, 0, none, 0), (3, 0, none, 0)], 0)
/-- x.sways, 59 -/
def fx_t131 : fx_T1 := (125, 59, [(1, 0, none, 0), (2, 2, some 2, 0), (3, 0, none, 0), (4, 0, none, 0), (5, 0, none, 0), (6, 0, none, 0)], 0)
/-- m.sways, 46 -/
def fx_t132 : fx_T1 := (244, 46, [(0, 2, some 66, 0), (1, 0, none, 0), (2, 0, none, 0), (3, 0, none, 0), (4, 0, none, 0), (5, 0, none, 0)], 0)
/-- People.add, 0 -/
def fx_t133 : fx_T1 := (57, 0, [(0, 2, some 13, 0), (1, 0, none, 0), (2, 0, none, 0), (3, 0, none, 0)], 0)
/-- x.oaths, 32 -/
def fx_t134 : fx_T1 := (127, 32, [(0, 2, some 0, 0), (1, 0, none, 0), (2, 0, none, 0), (3, 0, none, 0)], 0)
/-- m.oaths, 30 -/
def fx_t135 : fx_T1 := (315, 30, [(0, 2, some 66, 0), (1, 0, none, 0), (2, 0, none, 0), (3, 0, none, 0)], 0)
/-- x.isThere, 0 -/
def fx_t136 : fx_T1 := (179, 0, [(0, 2, some 0, 0), (1, 0, none, 0)], 0)
/-- Told.nationUnder, 0 -/
def fx_t137 : fx_T1 := (111, 0, [(0, 2, some 1, 0), (1, 0, none, 0), (2, 0, none, 0), (3, 0, none, 0)], 0)
/-- m.nationOf, 0 -/
def fx_t138 : fx_T1 := (249, 0, [(0, 2, some 66, 0), (1, 0, none, 0), (2, 0, none, 0)], 0)
/-- x.heads, 35 -/
def fx_t139 : fx_T1 := (131, 35, [(0, 2, some 0, 0), (1, 0, none, 0), (2, 0, none, 0), (3, 0, none, 0), (4, 0, none, 0), (5, 0, none, 0)], 0)
/-- m.heads, 37 -/
def fx_t140 : fx_T1 := (251, 37, [(0, 2, some 66, 0), (1, 0, none, 0), (2, 0, none, 0), (3, 0, none, 0), (4, 0, none, 0), (5, 0, none, 0)], 0)
/-- x.sorted, 31 -/
def fx_t141 : fx_T1 := (132, 31, [(0, 2, some 0, 0), (1, 0, none, 0), (2, 0, none, 0), (3, 0, none, 0), (4, 0, none, 0), (5, 0, none, 0)], 0)
/-- m.sorted, 38 -/
def fx_t142 : fx_T1 := (253, 38, [(0, 2, some 66, 0), (1, 0, none, 0), (2, 0, none, 0), (3, 0, none, 0), (4, 0, none, 0), (5, 0, none, 0)], 0)
/-- Told.feesOwed, 0 -/
def fx_t143 : fx_T1 := (112, 0, [(0, 2, some 1, 0), (1, 0, none, 0), (2, 0, none, 0), (3, 0, none, 0)], 0)
/-- m.feesOf, 0 -/
def fx_t144 : fx_T1 := (254, 0, [(0, 2, some 66, 0), (1, 0, none, 0), (2, 0, none, 0), (3, 0, none, 0)], 0)
/-- Purses.addPayment, 0 -/
def fx_t145 : fx_T1 := (64, 0, [(0, 2, some 21, 0), (1, 0, none, 0), (2, 0, none, 0), (3, 0, none, 0)], 9)
/-- Purses.paidBy, 0 -/
def fx_t146 : fx_T1 := (65, 0, [(0, 2, some 21, 0), (1, 0, none, 0), (2, 0, none, 0)], 0)
/-- m.even, 36 -/
def fx_t147 : fx_T1 := (258, 36, [(0, 2, some 66, 0), (1, 0, none, 0), (2, 0, none, 0), (3, 0, none, 0), (4, 0, none, 0)], 0)
/-- x.countHeadsOfEach, 0 -/
def fx_t148 : fx_T1 := (186, 0, [(0, 2, some 0, 0)], 0)
/-- Purses.share, 0 -/
def fx_t149 : fx_T1 := (67, 0, [(0, 2, some 21, 0), (1, 0, none, 0), (2, 2, some 63, 33), (3, 0, none, 0)], 9)
/-- Purses.coverShares, 0 -/
def fx_t150 : fx_T1 := (69, 0, [(0, 2, some 21, 0)], 0)
/-- Purses.payShares, 0 -/
def fx_t151 : fx_T1 := (70, 0, [(0, 2, some 21, 0), (1, 0, none, 0)], 9)
/-- Purses.sum, 0 -/
def fx_t152 : fx_T1 := (66, 0, [(0, 2, some 21, 0)], 0)
/-- m.masters, 19 -/
def fx_t153 : fx_T1 := (260, 19, [(0, 2, some 66, 0), (1, 0, none, 0), (2, 0, none, 0), (3, 0, none, 0)], 0)
/-- Elections.open, 0 -/
def fx_t154 : fx_T1 := (23, 0, [(0, 2, some 29, 0), (1, 0, none, 0)], 0)
/-- m.call, 2 -/
def fx_t155 : fx_T1 := (266, 2, [(0, 2, some 66, 0), (1, 0, none, 0)], 0)
/-- m.isThere, 0 -/
def fx_t156 : fx_T1 := (247, 0, [(0, 2, some 66, 0), (1, 0, none, 0), (2, 0, none, 0)], 0)
/-- x.tallyAsCounted, 0 -/
def fx_t157 : fx_T1 := (187, 0, [(0, 2, some 0, 0), (1, 0, none, 0)], 9)
/-- Told.isCarried, 0 -/
def fx_t158 : fx_T1 := (113, 0, [(0, 2, some 1, 0), (1, 0, none, 0)], 0)
/-- m.close, 29 -/
def fx_t159 : fx_T1 := (275, 29, [(0, 2, some 66, 0), (1, 0, none, 0), (2, 0, none, 0), (3, 0, none, 0)], 0)
/-- Country.partOf, 0 -/
def fx_t160 : fx_T1 := (18, 0, [(0, 2, some 2, 0), (1, 0, none, 0)], 0)
/-- Elections.isCarriedByHeads, 0 -/
def fx_t161 : fx_T1 := (36, 0, [(0, 2, some 29, 0), (1, 0, none, 0), (2, 0, none, 0)], 0)
/-- Elections.nationsOfSign, 0 -/
def fx_t162 : fx_T1 := (33, 0, [(0, 2, some 29, 0), (1, 0, none, 0), (2, 0, none, 0)], 0)
/-- Elections.sumOf, 0 -/
def fx_t163 : fx_T1 := (32, 0, [(0, 2, some 35, 841), (1, 0, none, 0)], 0)
/-- Elections.sumOf, 0 -/
def fx_t164 : fx_T1 := (32, 0, [(0, 2, some 36, 841), (1, 0, none, 0)], 0)
/-- m.byNations, 0 -/
def fx_t165 : fx_T1 := (270, 0, [(0, 2, some 66, 0), (1, 0, none, 0), (2, 0, none, 0)], 9)
/-- m.cast, 0 -/
def fx_t166 : fx_T1 := (269, 0, [(0, 2, some 66, 0), (1, 0, none, 0), (2, 0, none, 0)], 0)
/-- m.byHeads, 0 -/
def fx_t167 : fx_T1 := (273, 0, [(0, 2, some 66, 0), (1, 0, none, 0), (2, 0, none, 0), (3, 0, none, 0)], 0)
/-- m.nationsThat, 0 -/
def fx_t168 : fx_T1 := (271, 0, [(0, 2, some 66, 0), (1, 0, none, 0)], 0)
/-- x.tallyUnder, 0 -/
def fx_t169 : fx_T1 := (188, 0, [(0, 2, some 0, 0), (1, 0, none, 0), (2, 0, none, 0)], 9)
/-- Country.votesByNations, 0 -/
def fx_t170 : fx_T1 := (17, 0, [(0, 2, some 2, 0), (1, 0, none, 0)], 0)
/-- Elections.isCarriedByNations, 0 -/
def fx_t171 : fx_T1 := (38, 0, [(0, 2, some 29, 0), (1, 0, none, 0)], 0)
/-- m.isCarried, 0 -/
def fx_t172 : fx_T1 := (274, 0, [(0, 2, some 66, 0), (1, 0, none, 0), (2, 0, none, 0)], 0)
/-- Elections.swingByHeads, 0 -/
def fx_t173 : fx_T1 := (39, 0, [(0, 2, some 29, 0), (1, 0, none, 0), (2, 0, none, 0)], 0)
/-- Elections.swingByNations, 0 -/
def fx_t174 : fx_T1 := (40, 0, [(0, 2, some 29, 0), (1, 0, none, 0)], 0)
/-- m.termOf, 0 -/
def fx_t175 : fx_T1 := (237, 0, [(0, 2, some 66, 0), (1, 0, none, 0), (2, 0, none, 0), (3, 0, none, 0), (4, 0, none, 0)], 0)
/-- m.swing, 87 -/
def fx_t176 : fx_T1 := (280, 87, [(0, 2, some 66, 0), (2, 0, none, 0), (3, 0, none, 0), (4, 0, none, 0), (5, 0, none, 0), (6, 0, none, 0)], 0)
/-- m.swingByNations, 0 -/
def fx_t177 : fx_T1 := (279, 0, [(0, 2, some 66, 0), (1, 0, none, 0)], 0)
/-- x.undo, 48 -/
def fx_t178 : fx_T1 := (145, 48, [(0, 2, some 0, 0), (3, 0, none, 0), (4, 0, none, 0)], 0)
/-- m.spreads, 0 -/
def fx_t179 : fx_T1 := (281, 0, [(0, 2, some 66, 0)], 0)
/-- x.findNationOfEach, 0 -/
def fx_t180 : fx_T1 := (185, 0, [(0, 2, some 0, 0), (1, 0, none, 0)], 9)
/-- x.rectorOn, 0 -/
def fx_t181 : fx_T1 := (191, 0, [(0, 2, some 0, 0), (1, 0, none, 0), (2, 0, none, 0)], 0)
/-- m.sorts, 0 -/
def fx_t182 : fx_T1 := (283, 0, [(0, 2, some 66, 0), (1, 0, none, 0)], 9)
/-- m.rectorOn, 0 -/
def fx_t183 : fx_T1 := (284, 0, [(0, 2, some 66, 0), (1, 0, none, 0), (2, 0, none, 0)], 0)
/-- x.turn, 33 -/
def fx_t184 : fx_T1 := (147, 33, [(0, 2, some 0, 0), (1, 0, none, 0), (3, 0, none, 0), (4, 0, none, 0)], 0)
/-- m.turn, 27 -/
def fx_t185 : fx_T1 := (286, 27, [(0, 2, some 66, 0), (1, 0, none, 0), (3, 0, none, 0)], 0)
/-- Houses.add, 0 -/
def fx_t186 : fx_T1 := (44, 0, [(0, 2, some 38, 0), (1, 0, none, 0), (2, 0, none, 0), (3, 0, none, 0)], 0)
/-- Houses.rentOf, 0 -/
def fx_t187 : fx_T1 := (45, 0, [(0, 2, some 38, 0), (1, 0, none, 0)], 0)
/-- Math.max, 0 -/
def fx_t188 : fx_T1 := (319, 0, [(0, 0, none, 0), (1, 0, none, 0)], 0)
/-- People.addWish, 0 -/
def fx_t189 : fx_T1 := (60, 0, [(0, 2, some 13, 0), (1, 0, none, 0), (2, 0, none, 0)], 0)
/-- m.wish, 33 -/
def fx_t190 : fx_T1 := (291, 33, [(0, 2, some 66, 0), (2, 0, none, 0), (3, 0, none, 0), (4, 0, none, 0)], 0)
/-- Arrays.fill, 0 -/
def fx_t191 : fx_T1 := (331, 0, [(0, 2, some 61, 641), (1, 0, none, 0)], 9)
/-- x.lodge, 22 -/
def fx_t192 : fx_T1 := (152, 22, [(0, 2, some 0, 0), (1, 0, none, 0), (2, 0, none, 0)], 0)
/-- m.lodge, 9 -/
def fx_t193 : fx_T1 := (293, 9, [(0, 2, some 66, 0), (1, 0, none, 0), (2, 0, none, 0)], 0)
/-- x.sendTheMost, 0 -/
def fx_t194 : fx_T1 := (196, 0, [(0, 2, some 0, 0)], 0)
/-- x.sendTheFewest, 0 -/
def fx_t195 : fx_T1 := (199, 0, [(0, 2, some 0, 0)], 0)
/-- m.fewest, 0 -/
def fx_t196 : fx_T1 := (297, 0, [(0, 2, some 66, 0)], 9)
/-- m.most, 0 -/
def fx_t197 : fx_T1 := (296, 0, [(0, 2, some 66, 0)], 9)
/-- x.judge, 2 -/
def fx_t198 : fx_T1 := (158, 2, [(0, 2, some 0, 0), (1, 0, none, 0), (2, 0, none, 0)], 0)
/-- m.judge, 4 -/
def fx_t199 : fx_T1 := (301, 4, [(0, 2, some 66, 0), (1, 0, none, 0), (2, 0, none, 0), (3, 0, none, 0)], 0)
/-- Books.add, 0 -/
def fx_t200 : fx_T1 := (2, 0, [(0, 2, some 44, 0), (1, 0, none, 0), (2, 0, none, 0), (3, 0, none, 0), (4, 0, none, 0)], 0)
/-- Joining.solve, 0 -/
def fx_t201 : fx_T1 := (49, 0, [(0, 2, some 56, 0), (1, 2, some 44, 0)], 0)
/-- m.joins, 0 -/
def fx_t202 : fx_T1 := (304, 0, [(0, 2, some 66, 0), (1, 0, none, 0), (2, 0, none, 0), (3, 0, none, 0)], 9)
/-- Slots.rows, 0 -/
def fx_t203 : fx_T1 := (93, 0, [(0, 2, some 52, 0)], 0)
/-- m.allPurses, 0 -/
def fx_t204 : fx_T1 := (259, 0, [(0, 2, some 66, 0)], 0)
/-- m.count, 156 -/
def fx_t205 : fx_T1 := (308, 156, [(0, 2, some 66, 0), (2, 0, none, 0), (3, 0, none, 0)], 0)
/-- Told.copyFrom, 0 -/
def fx_t206 : fx_T1 := (109, 0, [(0, 2, none, 0), (1, 2, some 1, 0)], 9)
/-- Told.copyFrom, 0 -/
def fx_t207 : fx_T1 := (109, 0, [(0, 3, none, 0), (1, 2, some 1, 0)], 9)
/-- m.keep, 17 -/
def fx_t208 : fx_T1 := (203, 17, [(0, 2, some 66, 0), (1, 0, none, 0), (2, 0, none, 0)], 0)
/-- Told.copyFrom, 0 -/
def fx_t209 : fx_T1 := (109, 0, [(0, 2, some 1, 0), (1, 3, none, 0)], 9)
/-- m.back, 29 -/
def fx_t210 : fx_T1 := (204, 29, [(0, 2, some 66, 0), (1, 0, none, 0), (2, 0, none, 0)], 0)
/-- Slots.lay, 0 -/
def fx_t211 : fx_T1 := (94, 0, [(0, 2, some 52, 0), (1, 0, none, 0), (2, 0, none, 0), (3, 0, none, 0)], 9)
/-- m.row, 52 -/
def fx_t212 : fx_T1 := (312, 52, [(0, 2, some 66, 0), (1, 0, none, 0), (4, 0, none, 0)], 0)
/-- Slots.put, 0 -/
def fx_t213 : fx_T1 := (96, 0, [(0, 2, some 52, 0), (1, 0, none, 0), (2, 0, none, 0), (3, 1, none, 0)], 9)
/-- Slots.covers, 0 -/
def fx_t214 : fx_T1 := (97, 0, [(0, 2, some 52, 0), (1, 0, none, 0), (2, 0, none, 0), (3, 0, none, 0)], 0)
/-- Slots.copy, 0 -/
def fx_t215 : fx_T1 := (98, 0, [(0, 2, some 52, 0), (1, 0, none, 0), (2, 0, none, 0), (3, 0, none, 0), (4, 0, none, 0), (5, 0, none, 0)], 9)
/-- m.paste, 113 -/
def fx_t216 : fx_T1 := (314, 113, [(0, 2, some 66, 0), (1, 0, none, 0), (2, 0, none, 0), (3, 0, none, 0), (4, 0, none, 0), (5, 0, none, 0), (6, 0, none, 0)], 0)
/-- Reader.append, 3 -/
def fx_t217 : fx_T1 := (73, 3, [(0, 2, some 50, 0), (1, 0, none, 0), (2, 0, none, 0)], 9)
/-- Reader.advance, 0 -/
def fx_t218 : fx_T1 := (88, 0, [(0, 2, some 50, 0)], 9)
/-- Reader.read, 29 -/
def fx_t219 : fx_T1 := (74, 29, [(0, 2, some 50, 0), (1, 2, some 2, 0), (2, 2, none, 0), (3, 0, none, 0)], 3)
/-- m.see, 0 -/
def fx_t220 : fx_T1 := (217, 0, [(0, 2, some 66, 0), (1, 0, none, 0)], 0)
/-- m.step, 144 -/
def fx_t221 : fx_T1 := (218, 144, [(0, 2, some 66, 0)], 9)
/-- m.step, 83 -/
def fx_t222 : fx_T1 := (218, 83, [(0, 2, some 66, 0)], 9)
/-- m.statute, 185 -/
def fx_t223 : fx_T1 := (230, 185, [(0, 2, some 66, 0), (3, 0, none, 0), (4, 0, none, 0)], 0)
/-- m.sortHere, 0 -/
def fx_t224 : fx_T1 := (225, 0, [(0, 2, some 66, 0)], 0)
/-- m.line, 0 -/
def fx_t225 : fx_T1 := (229, 0, [(0, 2, some 66, 0), (1, 0, none, 0)], 9)
/-- m.wrong, 0 -/
def fx_t226 : fx_T1 := (220, 0, [(0, 2, some 66, 0), (1, 0, none, 0)], 9)
/-- Country.inForce, 7 -/
def fx_t227 : fx_T1 := (9, 7, [(0, 2, some 2, 0), (1, 0, none, 0), (2, 0, none, 0), (3, 0, none, 0)], 0)
/-- m.forceOf, 5 -/
def fx_t228 : fx_T1 := (235, 5, [(0, 2, some 66, 0), (1, 0, none, 0), (2, 0, none, 0), (3, 0, none, 0), (4, 0, none, 0)], 0)
/-- Statute.claimsAt, 0 -/
def fx_t229 : fx_T1 := (104, 0, [(0, 3, none, 0), (1, 0, none, 0), (2, 0, none, 0), (3, 0, none, 0)], 0)
/-- m.landOf, 19 -/
def fx_t230 : fx_T1 := (216, 19, [(0, 2, some 66, 0), (1, 0, none, 0), (2, 0, none, 0), (3, 0, none, 0), (4, 0, none, 0)], 0)
/-- m.claimsBy, 11 -/
def fx_t231 : fx_T1 := (240, 11, [(0, 2, some 66, 0), (1, 0, none, 0), (2, 0, none, 0), (3, 0, none, 0), (4, 0, none, 0), (5, 0, none, 0)], 0)
/-- Country.landOn, 7 -/
def fx_t232 : fx_T1 := (12, 7, [(0, 2, some 2, 0), (1, 0, none, 0), (2, 0, none, 0), (3, 0, none, 0)], 0)
/-- Statute.nationAt, 0 -/
def fx_t233 : fx_T1 := (103, 0, [(0, 3, none, 0), (1, 0, none, 0), (2, 0, none, 0), (3, 0, none, 0)], 0)
/-- People.isThereOn, 0 -/
def fx_t234 : fx_T1 := (58, 0, [(0, 2, some 13, 0), (1, 0, none, 0), (2, 0, none, 0)], 0)
/-- m.sortedBy, 0 -/
def fx_t235 : fx_T1 := (252, 0, [(0, 2, some 66, 0), (1, 0, none, 0), (2, 0, none, 0), (3, 0, none, 0)], 0)
/-- Told.feesOwed, 14 -/
def fx_t236 : fx_T1 := (112, 14, [(0, 2, some 1, 0), (1, 0, none, 0), (2, 0, none, 0), (3, 0, none, 0), (4, 0, none, 0), (5, 0, none, 0)], 0)
/-- m.feesOf, 11 -/
def fx_t237 : fx_T1 := (254, 11, [(0, 2, some 66, 0), (1, 0, none, 0), (2, 0, none, 0), (3, 0, none, 0), (4, 0, none, 0), (5, 0, none, 0)], 0)
/-- Purses.paidBy, 5 -/
def fx_t238 : fx_T1 := (65, 5, [(0, 2, some 21, 0), (1, 0, none, 0), (2, 0, none, 0), (3, 0, none, 0), (4, 0, none, 0)], 0)
/-- Arrays.fill, 0 -/
def fx_t239 : fx_T1 := (331, 0, [(0, 2, some 63, 33), (1, 0, none, 0)], 9)
/-- x.countHeadsOfEach, 12 -/
def fx_t240 : fx_T1 := (186, 12, [(0, 2, some 0, 0), (1, 0, none, 0), (2, 0, none, 0)], 0)
/-- Purses.share, 6 -/
def fx_t241 : fx_T1 := (67, 6, [(0, 2, some 21, 0), (1, 0, none, 0), (2, 2, some 63, 33), (3, 0, none, 0), (4, 0, none, 0), (5, 0, none, 0)], 9)
/-- Purses.coverShares, 2 -/
def fx_t242 : fx_T1 := (69, 2, [(0, 2, some 21, 0), (1, 0, none, 0)], 0)
/-- Purses.payShares, 2 -/
def fx_t243 : fx_T1 := (70, 2, [(0, 2, some 21, 0), (1, 0, none, 0), (2, 0, none, 0)], 9)
/-- Purses.sum, 4 -/
def fx_t244 : fx_T1 := (66, 4, [(0, 2, some 21, 0), (1, 0, none, 0), (2, 0, none, 0)], 0)
/-- m.masters, 77 -/
def fx_t245 : fx_T1 := (260, 77, [(0, 2, some 66, 0), (1, 0, none, 0), (2, 0, none, 0), (3, 0, none, 0), (4, 0, none, 0)], 0)
/-- Elections.open, 2 -/
def fx_t246 : fx_T1 := (23, 2, [(0, 2, some 29, 0), (1, 0, none, 0), (2, 0, none, 0)], 0)
/-- m.call, 70 -/
def fx_t247 : fx_T1 := (266, 70, [(0, 2, some 66, 0), (1, 0, none, 0), (2, 0, none, 0)], 0)
/-- Elections.clearTally, 0 -/
def fx_t248 : fx_T1 := (28, 0, [(0, 2, some 29, 0), (1, 0, none, 0)], 9)
/-- x.tallyAsCounted, 15 -/
def fx_t249 : fx_T1 := (187, 15, [(0, 2, some 0, 0), (1, 0, none, 0), (2, 2, some 29, 0), (3, 0, none, 0)], 9)
/-- Elections.isMore, 0 -/
def fx_t250 : fx_T1 := (37, 0, [(0, 0, none, 0), (1, 0, none, 0), (2, 0, none, 0)], 0)
/-- Elections.nationsOfSign, 5 -/
def fx_t251 : fx_T1 := (33, 5, [(0, 2, some 29, 0), (1, 0, none, 0), (2, 0, none, 0), (3, 0, none, 0), (4, 0, none, 0)], 0)
/-- Elections.sumOf, 4 -/
def fx_t252 : fx_T1 := (32, 4, [(0, 2, some 35, 841), (1, 0, none, 0), (2, 0, none, 0), (3, 0, none, 0)], 0)
/-- Elections.sumOf, 4 -/
def fx_t253 : fx_T1 := (32, 4, [(0, 2, some 36, 841), (1, 0, none, 0), (2, 0, none, 0), (3, 0, none, 0)], 0)
/-- m.byNations, 2 -/
def fx_t254 : fx_T1 := (270, 2, [(0, 2, some 66, 0), (1, 0, none, 0), (2, 0, none, 0), (3, 0, none, 0)], 9)
/-- m.cast, 5 -/
def fx_t255 : fx_T1 := (269, 5, [(0, 2, some 66, 0), (1, 0, none, 0), (2, 0, none, 0), (3, 0, none, 0), (4, 0, none, 0)], 0)
/-- m.nationsThat, 4 -/
def fx_t256 : fx_T1 := (271, 4, [(0, 2, some 66, 0), (1, 0, none, 0), (2, 0, none, 0), (3, 0, none, 0)], 0)
/-- x.tallyUnder, 25 -/
def fx_t257 : fx_T1 := (188, 25, [(0, 2, some 0, 0), (1, 0, none, 0), (2, 0, none, 0), (3, 2, some 29, 0), (4, 0, none, 0), (5, 0, none, 0)], 9)
/-- Integer.bitCount, 0 -/
def fx_t258 : fx_T1 := (316, 0, [(0, 0, none, 0)], 0)
/-- m.bits, 0 -/
def fx_t259 : fx_T1 := (272, 0, [(0, 0, none, 0)], 0)
/-- Elections.swingByHeads, 44 -/
def fx_t260 : fx_T1 := (39, 44, [(2, 0, none, 0), (3, 0, none, 0), (5, 0, none, 0), (6, 0, none, 0), (7, 0, none, 0), (8, 0, none, 0)], 0)
/-- Elections.swingByNations, 8 -/
def fx_t261 : fx_T1 := (40, 8, [(0, 2, some 29, 0), (1, 0, none, 0), (2, 0, none, 0), (3, 0, none, 0)], 0)
/-- m.termOf, 7 -/
def fx_t262 : fx_T1 := (237, 7, [(0, 2, some 66, 0), (1, 0, none, 0), (2, 0, none, 0), (3, 0, none, 0), (5, 0, none, 0), (6, 0, none, 0)], 0)
/-- m.swingByNations, 2 -/
def fx_t263 : fx_T1 := (279, 2, [(0, 2, some 66, 0), (1, 0, none, 0), (2, 0, none, 0)], 0)
/-- x.voidHangingStatutes, 0 -/
def fx_t264 : fx_T1 := (189, 0, [(0, 2, some 0, 0)], 0)
/-- x.voidHangingElections, 0 -/
def fx_t265 : fx_T1 := (190, 0, [(0, 2, some 0, 0)], 0)
/-- m.spreads, 4 -/
def fx_t266 : fx_T1 := (281, 4, [(0, 2, some 66, 0), (1, 0, none, 0), (2, 0, none, 0)], 0)
/-- x.findNationOfEach, 2 -/
def fx_t267 : fx_T1 := (185, 2, [(0, 2, some 0, 0), (1, 0, none, 0), (2, 0, none, 0)], 9)
/-- x.rectorOn, 5 -/
def fx_t268 : fx_T1 := (191, 5, [(0, 2, some 0, 0), (1, 0, none, 0), (2, 0, none, 0), (3, 0, none, 0), (4, 0, none, 0)], 0)
/-- m.sorts, 2 -/
def fx_t269 : fx_T1 := (283, 2, [(0, 2, some 66, 0), (1, 0, none, 0), (2, 0, none, 0)], 9)
/-- m.rectorOn, 25 -/
def fx_t270 : fx_T1 := (284, 25, [(0, 2, some 66, 0), (1, 0, none, 0), (4, 0, none, 0), (5, 0, none, 0)], 0)
/-- x.nextChangeOfRector, 0 -/
def fx_t271 : fx_T1 := (193, 0, [(0, 2, some 0, 0), (1, 0, none, 0)], 0)
/-- People.addWish, 2 -/
def fx_t272 : fx_T1 := (60, 2, [(0, 2, some 13, 0), (1, 0, none, 0), (2, 0, none, 0), (3, 0, none, 0)], 0)
/-- Arrays.fill, 5 -/
def fx_t273 : fx_T1 := (331, 5, [(0, 2, some 61, 641), (1, 0, none, 0), (2, 0, none, 0), (3, 0, none, 0)], 9)
/-- x.lodgeRank, 0 -/
def fx_t274 : fx_T1 := (194, 0, [(0, 2, some 0, 0), (1, 0, none, 0)], 0)
/-- m.lodge, 30 -/
def fx_t275 : fx_T1 := (293, 30, [(0, 2, some 66, 0), (1, 0, none, 0), (2, 0, none, 0)], 0)
/-- x.sendAll, 0 -/
def fx_t276 : fx_T1 := (197, 0, [(0, 2, some 0, 0)], 0)
/-- x.sendTheMost, 12 -/
def fx_t277 : fx_T1 := (196, 12, [(0, 2, some 0, 0), (1, 0, none, 0), (2, 0, none, 0)], 0)
/-- Arrays.fill, 0 -/
def fx_t278 : fx_T1 := (332, 0, [(0, 2, some 64, 642), (1, 0, none, 0)], 9)
/-- x.sendTheFewest, 12 -/
def fx_t279 : fx_T1 := (199, 12, [(0, 2, some 0, 0), (1, 0, none, 0), (2, 0, none, 0)], 0)
/-- m.fewest, 7 -/
def fx_t280 : fx_T1 := (297, 7, [(0, 2, some 66, 0), (1, 0, none, 0)], 9)
/-- m.most, 12 -/
def fx_t281 : fx_T1 := (296, 12, [(0, 2, some 66, 0), (1, 0, none, 0)], 9)
/-- x.judge, 43 -/
def fx_t282 : fx_T1 := (158, 43, [(0, 2, some 0, 0), (1, 0, none, 0), (2, 0, none, 0), (3, 0, none, 0), (4, 0, none, 0)], 0)
/-- m.judge, 58 -/
def fx_t283 : fx_T1 := (301, 58, [(0, 2, some 66, 0), (1, 0, none, 0), (2, 0, none, 0), (3, 0, none, 0), (4, 0, none, 0)], 0)
/-- Joining.solve, 22 -/
def fx_t284 : fx_T1 := (49, 22, [(0, 2, some 56, 0), (1, 2, some 44, 0), (2, 0, none, 0)], 0)
/-- m.joins, 82 -/
def fx_t285 : fx_T1 := (304, 82, [(0, 2, some 66, 0), (1, 0, none, 0), (2, 0, none, 0), (3, 0, none, 0), (4, 0, none, 0)], 9)
/-- m.joins, 51 -/
def fx_t286 : fx_T1 := (304, 51, [(0, 2, some 66, 0), (4, 0, none, 0)], 9)
/-- Slots.rows, 4 -/
def fx_t287 : fx_T1 := (93, 4, [(0, 2, some 52, 0), (1, 0, none, 0), (2, 0, none, 0)], 0)
/-- Country.copyFrom, 0 -/
def fx_t288 : fx_T1 := (5, 0, [(0, 2, none, 0), (1, 2, some 2, 0)], 9)
/-- People.copyFrom, 0 -/
def fx_t289 : fx_T1 := (56, 0, [(0, 2, none, 0), (1, 2, some 13, 0)], 9)
/-- Purses.copyFrom, 0 -/
def fx_t290 : fx_T1 := (63, 0, [(0, 2, none, 0), (1, 2, some 21, 0)], 9)
/-- Elections.copyFrom, 0 -/
def fx_t291 : fx_T1 := (22, 0, [(0, 2, none, 0), (1, 2, some 29, 0)], 9)
/-- Houses.copyFrom, 0 -/
def fx_t292 : fx_T1 := (43, 0, [(0, 2, none, 0), (1, 2, some 38, 0)], 9)
/-- Books.copyFrom, 0 -/
def fx_t293 : fx_T1 := (1, 0, [(0, 2, none, 0), (1, 2, some 44, 0)], 9)
/-- Country.copyFrom, 0 -/
def fx_t294 : fx_T1 := (5, 0, [(0, 2, some 2, 0), (1, 2, none, 0)], 9)
/-- People.copyFrom, 0 -/
def fx_t295 : fx_T1 := (56, 0, [(0, 2, some 13, 0), (1, 2, none, 0)], 9)
/-- Purses.copyFrom, 0 -/
def fx_t296 : fx_T1 := (63, 0, [(0, 2, some 21, 0), (1, 2, none, 0)], 9)
/-- Elections.copyFrom, 0 -/
def fx_t297 : fx_T1 := (22, 0, [(0, 2, some 29, 0), (1, 2, none, 0)], 9)
/-- Houses.copyFrom, 0 -/
def fx_t298 : fx_T1 := (43, 0, [(0, 2, some 38, 0), (1, 2, none, 0)], 9)
/-- Books.copyFrom, 0 -/
def fx_t299 : fx_T1 := (1, 0, [(0, 2, some 44, 0), (1, 2, none, 0)], 9)
/-- Slots.lay, 17 -/
def fx_t300 : fx_T1 := (94, 17, [(0, 2, some 52, 0), (1, 0, none, 0), (4, 0, none, 0)], 9)
/-- m.paste, 150 -/
def fx_t301 : fx_T1 := (314, 150, [(0, 2, some 66, 0), (3, 0, none, 0), (4, 0, none, 0), (5, 0, none, 0), (6, 0, none, 0)], 0)
/-- Reader.advance, 8 -/
def fx_t302 : fx_T1 := (88, 8, [(0, 2, some 50, 0)], 9)
/-- Reader.readLine, 0 -/
def fx_t303 : fx_T1 := (75, 0, [(0, 2, some 50, 0), (1, 2, none, 0), (2, 2, some 2, 0), (3, 0, none, 0)], 9)
/-- m.is, 0 -/
def fx_t304 : fx_T1 := (221, 0, [(0, 2, some 66, 0), (1, 5, none, 0)], 0)
/-- m.line, 11 -/
def fx_t305 : fx_T1 := (229, 11, [(0, 2, some 66, 0), (1, 0, none, 0), (2, 0, none, 0), (3, 0, none, 0)], 9)
/-- Statute.claimsAt, 6 -/
def fx_t306 : fx_T1 := (104, 6, [(0, 3, none, 0), (1, 0, none, 0), (2, 0, none, 0), (3, 0, none, 0), (4, 0, none, 0), (5, 0, none, 0)], 0)
/-- m.claimsBy, 66 -/
def fx_t307 : fx_T1 := (240, 66, [(0, 2, some 66, 0), (1, 0, none, 0), (2, 0, none, 0), (3, 0, none, 0), (4, 0, none, 0), (5, 0, none, 0), (6, 0, none, 0), (7, 0, none, 0), (8, 0, none, 0)], 0)
/-- Statute.nationAt, 3 -/
def fx_t308 : fx_T1 := (103, 3, [(0, 3, none, 0), (1, 0, none, 0), (2, 0, none, 0), (3, 0, none, 0), (4, 0, none, 0)], 0)
/-- Arrays.fill, 5 -/
def fx_t309 : fx_T1 := (331, 5, [(0, 2, some 63, 33), (1, 0, none, 0), (2, 0, none, 0), (3, 0, none, 0)], 9)
/-- Purses.share, 79 -/
def fx_t310 : fx_T1 := (67, 79, [(0, 2, some 21, 0), (4, 0, none, 0), (5, 0, none, 0)], 9)
/-- m.masters, 117 -/
def fx_t311 : fx_T1 := (260, 117, [(0, 2, some 66, 0), (1, 0, none, 0), (2, 0, none, 0), (3, 0, none, 0)], 0)
/-- Elections.open, 93 -/
def fx_t312 : fx_T1 := (23, 93, [(0, 2, some 29, 0), (2, 0, none, 0)], 0)
/-- Elections.clearTally, 2 -/
def fx_t313 : fx_T1 := (28, 2, [(0, 2, some 29, 0), (1, 0, none, 0), (2, 0, none, 0)], 9)
/-- Elections.tally, 0 -/
def fx_t314 : fx_T1 := (29, 0, [(0, 2, some 29, 0), (1, 0, none, 0), (2, 0, none, 0), (3, 0, none, 0)], 9)
/-- Integer.signum, 0 -/
def fx_t315 : fx_T1 := (317, 0, [(0, 0, none, 0)], 0)
/-- m.byNations, 29 -/
def fx_t316 : fx_T1 := (270, 29, [(0, 2, some 66, 0), (1, 0, none, 0), (2, 0, none, 0), (3, 0, none, 0)], 9)
/-- Elections.swingByNations, 62 -/
def fx_t317 : fx_T1 := (40, 62, [(0, 2, some 29, 0), (2, 0, none, 0), (3, 0, none, 0), (4, 0, none, 0)], 0)
/-- Elections.swingByNations, 16 -/
def fx_t318 : fx_T1 := (40, 16, [(0, 2, some 29, 0), (1, 0, none, 0), (2, 0, none, 0), (3, 0, none, 0), (4, 0, none, 0)], 0)
/-- m.swingByNations, 34 -/
def fx_t319 : fx_T1 := (279, 34, [(0, 2, some 66, 0), (1, 0, none, 0), (2, 0, none, 0)], 0)
/-- x.voidHangingStatutes, 12 -/
def fx_t320 : fx_T1 := (189, 12, [(0, 2, some 0, 0), (1, 2, some 2, 0), (2, 0, none, 0), (3, 0, none, 0)], 0)
/-- x.voidHangingElections, 12 -/
def fx_t321 : fx_T1 := (190, 12, [(0, 2, some 0, 0), (1, 2, some 29, 0), (2, 0, none, 0), (3, 0, none, 0)], 0)
/-- m.spreads, 12 -/
def fx_t322 : fx_T1 := (281, 12, [(0, 2, some 66, 0), (1, 0, none, 0), (2, 0, none, 0), (3, 0, none, 0)], 0)
/-- x.rectorOn, 79 -/
def fx_t323 : fx_T1 := (191, 79, [(3, 0, none, 0), (4, 0, none, 0), (5, 0, none, 0)], 0)
/-- m.rectorOn, 34 -/
def fx_t324 : fx_T1 := (284, 34, [(0, 2, some 66, 0), (1, 0, none, 0), (4, 0, none, 0), (5, 0, none, 0), (6, 0, none, 0)], 0)
/-- People.nextChange, 0 -/
def fx_t325 : fx_T1 := (59, 0, [(0, 2, some 13, 0), (1, 0, none, 0)], 0)
/-- Country.nextStatuteDay, 0 -/
def fx_t326 : fx_T1 := (11, 0, [(0, 2, some 2, 0), (1, 0, none, 0)], 0)
/-- x.lodgeRank, 13 -/
def fx_t327 : fx_T1 := (194, 13, [(0, 2, some 0, 0), (1, 0, none, 0), (2, 2, some 13, 0), (3, 0, none, 0), (4, 0, none, 0)], 0)
/-- m.lodge, 66 -/
def fx_t328 : fx_T1 := (293, 66, [(0, 2, some 66, 0), (1, 0, none, 0), (2, 0, none, 0)], 0)
/-- x.sendAll, 12 -/
def fx_t329 : fx_T1 := (197, 12, [(0, 2, some 0, 0), (1, 0, none, 0), (2, 0, none, 0)], 0)
/-- x.mostUnwilling, 0 -/
def fx_t330 : fx_T1 := (198, 0, [(0, 2, some 0, 0), (1, 0, none, 0)], 0)
/-- Arrays.fill, 5 -/
def fx_t331 : fx_T1 := (332, 5, [(0, 2, some 64, 642), (1, 0, none, 0), (2, 0, none, 0), (3, 0, none, 0)], 9)
/-- x.sendWilling, 0 -/
def fx_t332 : fx_T1 := (200, 0, [(0, 2, some 0, 0), (1, 0, none, 0)], 0)
/-- m.fewest, 28 -/
def fx_t333 : fx_T1 := (297, 28, [(0, 2, some 66, 0), (1, 0, none, 0)], 9)
/-- m.most, 80 -/
def fx_t334 : fx_T1 := (296, 80, [(0, 2, some 66, 0), (1, 0, none, 0)], 9)
/-- Joining.solve, 71 -/
def fx_t335 : fx_T1 := (49, 71, [(0, 2, some 56, 0), (2, 0, none, 0)], 0)
/-- Joining.solve, 32 -/
def fx_t336 : fx_T1 := (49, 32, [(0, 2, some 56, 0), (1, 2, some 44, 0), (2, 0, none, 0), (3, 0, none, 0)], 0)
/-- m.alike, 0 -/
def fx_t337 : fx_T1 := (303, 0, [(0, 2, some 66, 0), (1, 0, none, 0), (2, 0, none, 0)], 0)
/-- Country.copyFrom, 116 -/
def fx_t338 : fx_T1 := (5, 116, [(0, 2, none, 0), (1, 2, some 2, 0), (2, 0, none, 0)], 9)
/-- Country.copyFrom, 116 -/
def fx_t339 : fx_T1 := (5, 116, [(0, 2, some 2, 0), (1, 2, none, 0), (2, 0, none, 0)], 9)
/-- Reader.kindOf, 0 -/
def fx_t340 : fx_T1 := (89, 0, [(0, 0, none, 0)], 0)
/-- Reader.advance, 121 -/
def fx_t341 : fx_T1 := (88, 121, [(0, 2, some 50, 0), (1, 0, none, 0)], 9)
/-- Reader.beginsLine, 0 -/
def fx_t342 : fx_T1 := (76, 0, [(0, 2, some 50, 0)], 0)
/-- Reader.takeWord, 0 -/
def fx_t343 : fx_T1 := (81, 0, [(0, 2, some 50, 0), (1, 5, none, 0)], 0)
/-- Reader.readVote, 0 -/
def fx_t344 : fx_T1 := (77, 0, [(0, 2, some 50, 0), (1, 2, none, 0)], 9)
/-- Reader.takeSign, 0 -/
def fx_t345 : fx_T1 := (85, 0, [(0, 2, some 50, 0), (1, 0, none, 0)], 9)
/-- Reader.takeNumber, 0 -/
def fx_t346 : fx_T1 := (83, 0, [(0, 2, some 50, 0), (1, 0, none, 0), (2, 0, none, 0)], 0)
/-- Statute.beginLine, 0 -/
def fx_t347 : fx_T1 := (100, 0, [(0, 2, none, 0), (1, 0, none, 0)], 9)
/-- Reader.readConds, 0 -/
def fx_t348 : fx_T1 := (78, 0, [(0, 2, some 50, 0), (1, 2, none, 0), (2, 2, some 2, 0)], 9)
/-- Reader.wrong, 0 -/
def fx_t349 : fx_T1 := (87, 0, [(0, 2, some 50, 0), (1, 0, none, 0)], 9)
/-- m.is, 39 -/
def fx_t350 : fx_T1 := (221, 39, [(0, 2, some 66, 0), (1, 5, none, 0), (2, 0, none, 0), (3, 0, none, 0)], 0)
/-- m.number, 0 -/
def fx_t351 : fx_T1 := (224, 0, [(0, 2, some 66, 0), (1, 0, none, 0), (2, 0, none, 0)], 0)
/-- m.isSign, 0 -/
def fx_t352 : fx_T1 := (223, 0, [(0, 2, some 66, 0), (1, 0, none, 0)], 0)
/-- m.takes, 0 -/
def fx_t353 : fx_T1 := (222, 0, [(0, 2, some 66, 0), (1, 5, none, 0)], 0)
/-- m.nationLine, 0 -/
def fx_t354 : fx_T1 := (228, 0, [(0, 2, some 66, 0), (1, 0, none, 0)], 9)
/-- Statute.lineHolds, 0 -/
def fx_t355 : fx_T1 := (105, 0, [(0, 3, none, 0), (1, 0, none, 0), (2, 0, none, 0), (3, 0, none, 0), (4, 0, none, 0)], 0)
/-- m.condHolds, 0 -/
def fx_t356 : fx_T1 := (239, 0, [(0, 2, some 66, 0), (1, 0, none, 0), (2, 0, none, 0), (3, 0, none, 0)], 0)
/-- Purses.nationOfGreatestRest, 0 -/
def fx_t357 : fx_T1 := (68, 0, [(0, 2, some 21, 0)], 0)
/-- m.masters, 212 -/
def fx_t358 : fx_T1 := (260, 212, [(0, 2, some 66, 0), (1, 0, none, 0), (4, 0, none, 0)], 0)
/-- m.masters, 127 -/
def fx_t359 : fx_T1 := (260, 127, [(0, 2, some 66, 0), (1, 0, none, 0), (2, 0, none, 0), (3, 0, none, 0), (4, 0, none, 0), (5, 0, none, 0)], 0)
/-- Elections.swingByNations, 82 -/
def fx_t360 : fx_T1 := (40, 82, [(0, 2, some 29, 0), (2, 0, none, 0), (3, 0, none, 0), (4, 0, none, 0), (5, 0, none, 0), (6, 0, none, 0), (7, 0, none, 0), (8, 0, none, 0)], 0)
/-- Elections.costOfSign, 0 -/
def fx_t361 : fx_T1 := (41, 0, [(0, 2, some 29, 0), (1, 0, none, 0), (2, 0, none, 0), (3, 0, none, 0)], 0)
/-- m.swingByNations, 179 -/
def fx_t362 : fx_T1 := (279, 179, [(0, 2, some 66, 0), (1, 0, none, 0), (2, 0, none, 0), (3, 0, none, 0)], 0)
/-- m.swingByNations, 41 -/
def fx_t363 : fx_T1 := (279, 41, [(0, 2, some 66, 0), (1, 0, none, 0), (2, 0, none, 0), (3, 0, none, 0)], 0)
/-- m.spreads, 103 -/
def fx_t364 : fx_T1 := (281, 103, [(0, 2, some 66, 0), (1, 0, none, 0), (2, 0, none, 0), (3, 0, none, 0)], 0)
/-- People.nextChange, 6 -/
def fx_t365 : fx_T1 := (59, 6, [(0, 2, some 13, 0), (1, 0, none, 0), (2, 0, none, 0), (3, 0, none, 0)], 0)
/-- Country.nextStatuteDay, 6 -/
def fx_t366 : fx_T1 := (11, 6, [(0, 2, some 2, 0), (1, 0, none, 0), (2, 0, none, 0), (3, 0, none, 0)], 0)
/-- x.firstFreeWish, 0 -/
def fx_t367 : fx_T1 := (195, 0, [(0, 2, some 0, 0), (1, 0, none, 0)], 0)
/-- m.lodge, 72 -/
def fx_t368 : fx_T1 := (293, 72, [(0, 2, some 66, 0), (1, 0, none, 0), (2, 0, none, 0), (3, 0, none, 0)], 0)
/-- x.mostUnwilling, 7 -/
def fx_t369 : fx_T1 := (198, 7, [(0, 2, some 0, 0), (1, 0, none, 0), (2, 0, none, 0), (3, 0, none, 0), (4, 0, none, 0)], 0)
/-- x.sendWilling, 4 -/
def fx_t370 : fx_T1 := (200, 4, [(0, 2, some 0, 0), (1, 0, none, 0), (2, 0, none, 0), (3, 0, none, 0)], 0)
/-- m.fewest, 39 -/
def fx_t371 : fx_T1 := (297, 39, [(0, 2, some 66, 0), (2, 0, none, 0), (3, 0, none, 0)], 9)
/-- m.most, 88 -/
def fx_t372 : fx_T1 := (296, 88, [(0, 2, some 66, 0), (2, 0, none, 0), (3, 0, none, 0)], 9)
/-- Joining.solve, 123 -/
def fx_t373 : fx_T1 := (49, 123, [(0, 2, some 56, 0), (2, 0, none, 0)], 0)
/-- Books.likeness, 0 -/
def fx_t374 : fx_T1 := (3, 0, [(0, 2, some 44, 0), (1, 0, none, 0), (2, 0, none, 0)], 0)
/-- Math.abs, 0 -/
def fx_t375 : fx_T1 := (318, 0, [(0, 0, none, 0)], 0)
/-- Reader.isWord, 0 -/
def fx_t376 : fx_T1 := (82, 0, [(0, 2, some 50, 0), (1, 5, none, 0)], 0)
/-- Reader.numberRead, 0 -/
def fx_t377 : fx_T1 := (84, 0, [(0, 2, some 50, 0)], 0)
/-- Reader.readConds, 10 -/
def fx_t378 : fx_T1 := (78, 10, [(0, 2, some 50, 0), (1, 2, none, 0), (2, 2, some 2, 0), (3, 0, none, 0), (4, 0, none, 0)], 9)
/-- m.nationLine, 26 -/
def fx_t379 : fx_T1 := (228, 26, [(0, 2, some 66, 0), (1, 0, none, 0), (2, 0, none, 0)], 9)
/-- Statute.lineHolds, 22 -/
def fx_t380 : fx_T1 := (105, 22, [(0, 3, none, 0), (1, 0, none, 0), (2, 0, none, 0), (3, 0, none, 0), (4, 0, none, 0), (6, 0, none, 0)], 0)
/-- m.isNear, 0 -/
def fx_t381 : fx_T1 := (238, 0, [(0, 2, some 66, 0), (1, 0, none, 0), (2, 0, none, 0), (3, 0, none, 0)], 0)
/-- Purses.nationOfGreatestRest, 4 -/
def fx_t382 : fx_T1 := (68, 4, [(0, 2, some 21, 0), (1, 0, none, 0), (2, 0, none, 0)], 0)
/-- m.masters, 250 -/
def fx_t383 : fx_T1 := (260, 250, [(0, 2, some 66, 0), (1, 0, none, 0), (4, 0, none, 0)], 0)
/-- Elections.costOfSign, 18 -/
def fx_t384 : fx_T1 := (41, 18, [(0, 2, some 29, 0), (3, 0, none, 0), (4, 0, none, 0), (5, 0, none, 0), (6, 0, none, 0)], 0)
/-- m.swingByNations, 64 -/
def fx_t385 : fx_T1 := (279, 64, [(0, 2, some 66, 0), (1, 0, none, 0), (2, 0, none, 0), (3, 0, none, 0)], 0)
/-- x.firstFreeWish, 2 -/
def fx_t386 : fx_T1 := (195, 2, [(0, 2, some 0, 0), (1, 0, none, 0), (2, 0, none, 0)], 0)
/-- m.lodges, 0 -/
def fx_t387 : fx_T1 := (292, 0, [(0, 2, some 66, 0), (1, 0, none, 0)], 0)
/-- Joining.choosePartners, 0 -/
def fx_t388 : fx_T1 := (53, 0, [(0, 2, some 56, 0)], 9)
/-- Joining.solve, 129 -/
def fx_t389 : fx_T1 := (49, 129, [(0, 2, some 56, 0), (2, 0, none, 0), (3, 0, none, 0)], 0)
/-- Reader.isWord, 35 -/
def fx_t390 : fx_T1 := (82, 35, [(0, 2, some 50, 0), (1, 5, none, 0), (2, 0, none, 0)], 0)
/-- Reader.numberRead, 7 -/
def fx_t391 : fx_T1 := (84, 7, [(0, 2, some 50, 0), (1, 0, none, 0), (2, 0, none, 0)], 0)
/-- Reader.readCond, 0 -/
def fx_t392 : fx_T1 := (79, 0, [(0, 2, some 50, 0), (1, 2, none, 0), (2, 2, some 2, 0), (3, 0, none, 0)], 9)
/-- m.cond, 0 -/
def fx_t393 : fx_T1 := (227, 0, [(0, 2, some 66, 0), (1, 0, none, 0)], 9)
/-- Statute.measured, 0 -/
def fx_t394 : fx_T1 := (106, 0, [(0, 3, none, 0), (1, 0, none, 0), (2, 0, none, 0), (3, 0, none, 0), (4, 0, none, 0)], 0)
/-- Statute.compares, 0 -/
def fx_t395 : fx_T1 := (107, 0, [(0, 0, none, 0), (1, 0, none, 0), (2, 0, none, 0)], 0)
/-- m.swingByNations, 143 -/
def fx_t396 : fx_T1 := (279, 143, [(0, 2, some 66, 0), (1, 0, none, 0), (2, 0, none, 0), (3, 0, none, 0)], 0)
/-- m.swingByNations, 73 -/
def fx_t397 : fx_T1 := (279, 73, [(0, 2, some 66, 0), (1, 0, none, 0), (2, 0, none, 0), (3, 0, none, 0), (4, 0, none, 0)], 0)
/-- Houses.takeRoom, 0 -/
def fx_t398 : fx_T1 := (47, 0, [(0, 2, some 38, 0), (1, 0, none, 0)], 0)
/-- m.lodges, 13 -/
def fx_t399 : fx_T1 := (292, 13, [(0, 2, some 66, 0), (2, 0, none, 0), (3, 0, none, 0)], 0)
/-- Arrays.fill, 0 -/
def fx_t400 : fx_T1 := (331, 0, [(0, 2, some 57, 57), (1, 0, none, 0)], 9)
/-- Joining.choosePartners, 12 -/
def fx_t401 : fx_T1 := (53, 12, [(0, 2, some 56, 0), (1, 0, none, 0), (2, 0, none, 0)], 9)
/-- Joining.weigh, 0 -/
def fx_t402 : fx_T1 := (52, 0, [(0, 2, some 56, 0), (1, 0, none, 0), (2, 0, none, 0)], 9)
/-- Statute.addNear, 0 -/
def fx_t403 : fx_T1 := (102, 0, [(0, 2, none, 0), (1, 0, none, 0), (2, 0, none, 0), (3, 0, none, 0), (4, 0, none, 0)], 9)
/-- Reader.takeComparison, 0 -/
def fx_t404 : fx_T1 := (86, 0, [(0, 2, some 50, 0)], 0)
/-- Statute.addCond, 0 -/
def fx_t405 : fx_T1 := (101, 0, [(0, 2, none, 0), (1, 0, none, 0), (2, 0, none, 0), (3, 0, none, 0), (4, 0, none, 0)], 9)
/-- Reader.isMeasure, 0 -/
def fx_t406 : fx_T1 := (80, 0, [(0, 2, some 50, 0)], 0)
/-- m.wordHere, 0 -/
def fx_t407 : fx_T1 := (226, 0, [(0, 2, some 66, 0)], 0)
/-- m.flips, 0 -/
def fx_t408 : fx_T1 := (278, 0, [(0, 2, some 66, 0), (1, 0, none, 0), (2, 0, none, 0)], 0)
/-- Arrays.fill, 5 -/
def fx_t409 : fx_T1 := (331, 5, [(0, 2, some 57, 57), (1, 0, none, 0), (2, 0, none, 0), (3, 0, none, 0)], 9)
/-- Joining.firstPartner, 0 -/
def fx_t410 : fx_T1 := (54, 0, [(0, 2, some 56, 0), (1, 0, none, 0), (2, 0, none, 0)], 0)
/-- Joining.weigh, 29 -/
def fx_t411 : fx_T1 := (52, 29, [(0, 2, some 56, 0), (1, 0, none, 0), (2, 0, none, 0), (4, 0, none, 0), (5, 0, none, 0), (6, 0, none, 0)], 9)
/-- m.flips, 13 -/
def fx_t412 : fx_T1 := (278, 13, [(0, 2, some 66, 0), (1, 0, none, 0), (2, 0, none, 0), (3, 0, none, 0), (4, 0, none, 0)], 0)
/-- Joining.firstPartner, 16 -/
def fx_t413 : fx_T1 := (54, 16, [(0, 2, some 56, 0), (1, 0, none, 0), (2, 0, none, 0), (3, 0, none, 0), (4, 0, none, 0)], 0)
/-- Joining.canJoin, 0 -/
def fx_t414 : fx_T1 := (50, 0, [(0, 2, some 56, 0), (1, 0, none, 0), (2, 0, none, 0), (3, 0, none, 0)], 0)
/-- Joining.sumWith, 0 -/
def fx_t415 : fx_T1 := (51, 0, [(0, 2, some 56, 0), (1, 0, none, 0), (2, 0, none, 0), (3, 0, none, 0)], 0)
def fx_T : List fx_T1 := [fx_t0, fx_t1, fx_t2, fx_t3, fx_t4, fx_t5, fx_t6, fx_t7, fx_t8, fx_t9, fx_t10, fx_t11, fx_t12, fx_t13, fx_t14, fx_t15, fx_t16, fx_t17, fx_t18, fx_t19, fx_t20, fx_t21, fx_t22, fx_t23, fx_t24, fx_t25, fx_t26, fx_t27, fx_t28, fx_t29, fx_t30, fx_t31, fx_t32, fx_t33, fx_t34, fx_t35, fx_t36, fx_t37, fx_t38, fx_t39, fx_t40, fx_t41, fx_t42, fx_t43, fx_t44, fx_t45, fx_t46, fx_t47, fx_t48, fx_t49, fx_t50, fx_t51, fx_t52, fx_t53, fx_t54, fx_t55, fx_t56, fx_t57, fx_t58, fx_t59, fx_t60, fx_t61, fx_t62, fx_t63, fx_t64, fx_t65, fx_t66, fx_t67, fx_t68, fx_t69, fx_t70, fx_t71, fx_t72, fx_t73, fx_t74, fx_t75, fx_t76, fx_t77, fx_t78, fx_t79, fx_t80, fx_t81, fx_t82, fx_t83, fx_t84, fx_t85, fx_t86, fx_t87, fx_t88, fx_t89, fx_t90, fx_t91, fx_t92, fx_t93, fx_t94, fx_t95, fx_t96, fx_t97, fx_t98, fx_t99, fx_t100, fx_t101, fx_t102, fx_t103, fx_t104, fx_t105, fx_t106, fx_t107, fx_t108, fx_t109, fx_t110, fx_t111, fx_t112, fx_t113, fx_t114, fx_t115, fx_t116, fx_t117, fx_t118, fx_t119, fx_t120, fx_t121, fx_t122, fx_t123, fx_t124, fx_t125, fx_t126, fx_t127, fx_t128, fx_t129, fx_t130, fx_t131, fx_t132, fx_t133, fx_t134, fx_t135, fx_t136, fx_t137, fx_t138, fx_t139, fx_t140, fx_t141, fx_t142, fx_t143, fx_t144, fx_t145, fx_t146, fx_t147, fx_t148, fx_t149, fx_t150, fx_t151, fx_t152, fx_t153, fx_t154, fx_t155, fx_t156, fx_t157, fx_t158, fx_t159, fx_t160, fx_t161, fx_t162, fx_t163, fx_t164, fx_t165, fx_t166, fx_t167, fx_t168, fx_t169, fx_t170, fx_t171, fx_t172, fx_t173, fx_t174, fx_t175, fx_t176, fx_t177, fx_t178, fx_t179, fx_t180, fx_t181, fx_t182, fx_t183, fx_t184, fx_t185, fx_t186, fx_t187, fx_t188, fx_t189, fx_t190, fx_t191, fx_t192, fx_t193, fx_t194, fx_t195, fx_t196, fx_t197, fx_t198, fx_t199, fx_t200, fx_t201, fx_t202, fx_t203, fx_t204, fx_t205, fx_t206, fx_t207, fx_t208, fx_t209, fx_t210, fx_t211, fx_t212, fx_t213, fx_t214, fx_t215, fx_t216, fx_t217, fx_t218, fx_t219, fx_t220, fx_t221, fx_t222, fx_t223, fx_t224, fx_t225, fx_t226, fx_t227, fx_t228, fx_t229, fx_t230, fx_t231, fx_t232, fx_t233, fx_t234, fx_t235, fx_t236, fx_t237, fx_t238, fx_t239, fx_t240, fx_t241, fx_t242, fx_t243, fx_t244, fx_t245, fx_t246, fx_t247, fx_t248, fx_t249, fx_t250, fx_t251, fx_t252, fx_t253, fx_t254, fx_t255, fx_t256, fx_t257, fx_t258, fx_t259, fx_t260, fx_t261, fx_t262, fx_t263, fx_t264, fx_t265, fx_t266, fx_t267, fx_t268, fx_t269, fx_t270, fx_t271, fx_t272, fx_t273, fx_t274, fx_t275, fx_t276, fx_t277, fx_t278, fx_t279, fx_t280, fx_t281, fx_t282, fx_t283, fx_t284, fx_t285, fx_t286, fx_t287, fx_t288, fx_t289, fx_t290, fx_t291, fx_t292, fx_t293, fx_t294, fx_t295, fx_t296, fx_t297, fx_t298, fx_t299, fx_t300, fx_t301, fx_t302, fx_t303, fx_t304, fx_t305, fx_t306, fx_t307, fx_t308, fx_t309, fx_t310, fx_t311, fx_t312, fx_t313, fx_t314, fx_t315, fx_t316, fx_t317, fx_t318, fx_t319, fx_t320, fx_t321, fx_t322, fx_t323, fx_t324, fx_t325, fx_t326, fx_t327, fx_t328, fx_t329, fx_t330, fx_t331, fx_t332, fx_t333, fx_t334, fx_t335, fx_t336, fx_t337, fx_t338, fx_t339, fx_t340, fx_t341, fx_t342, fx_t343, fx_t344, fx_t345, fx_t346, fx_t347, fx_t348, fx_t349, fx_t350, fx_t351, fx_t352, fx_t353, fx_t354, fx_t355, fx_t356, fx_t357, fx_t358, fx_t359, fx_t360, fx_t361, fx_t362, fx_t363, fx_t364, fx_t365, fx_t366, fx_t367, fx_t368, fx_t369, fx_t370, fx_t371, fx_t372, fx_t373, fx_t374, fx_t375, fx_t376, fx_t377, fx_t378, fx_t379, fx_t380, fx_t381, fx_t382, fx_t383, fx_t384, fx_t385, fx_t386, fx_t387, fx_t388, fx_t389, fx_t390, fx_t391, fx_t392, fx_t393, fx_t394, fx_t395, fx_t396, fx_t397, fx_t398, fx_t399, fx_t400, fx_t401, fx_t402, fx_t403, fx_t404, fx_t405, fx_t406, fx_t407, fx_t408, fx_t409, fx_t410, fx_t411, fx_t412, fx_t413, fx_t414, fx_t415]
