/-! THE LAW'S OWN METHODS: tables and rows, by program (wip/p23/gen_z.py) out of javap -/
def z_lk : List (Nat × z_O) → Nat → z_O
  | [], _ => zo_fail
  | (q, o) :: t, pc => if q = pc then o else z_lk t pc
def zc_L_up : Nat → z_O := z_lk [
  (0, zo_iload 0 1),
  (1, zo_const 2147483647 3),
  (3, zo_iand 4),
  (4, zo_iload 1 5),
  (5, zo_irem 6),
  (6, zo_iret)]
def zc_L_isStep : Nat → z_O := z_lk [
  (0, zo_iload 2 1),
  (1, zo_const 4 2),
  (2, zo_ishr 3),
  (3, zo_istore 4 5),
  (5, zo_iload 4 7),
  (7, zo_const 4 8),
  (8, zo_call 1 2 11),
  (11, zo_istore 5 13),
  (13, zo_aload 0 14),
  (14, zo_const 9 16),
  (16, zo_callv 34 2 19),
  (19, zo_istore 6 21),
  (21, zo_aload 0 22),
  (22, zo_const 0 23),
  (23, zo_callv 34 2 26),
  (26, zo_istore 7 28),
  (28, zo_iload 2 29),
  (29, zo_const 15 31),
  (31, zo_call 1 2 34),
  (34, zo_sw [(0, 104), (1, 104), (2, 104), (3, 104), (4, 104), (5, 177), (6, 177), (7, 177), (8, 310), (9, 310), (10, 485), (11, 617), (12, 710), (13, 826)] 852),
  (104, zo_const 1 105),
  (105, zo_iload 3 106),
  (106, zo_const 20 108),
  (108, zo_call 1 2 111),
  (111, zo_iadd 112),
  (112, zo_istore 8 114),
  (114, zo_aload 0 115),
  (115, zo_iload 5 117),
  (117, zo_iload 8 119),
  (119, zo_callv 23 3 122),
  (122, zo_istore 9 124),
  (124, zo_iload 9 126),
  (126, zo_aload 1 127),
  (127, zo_const 3 128),
  (128, zo_iload 5 130),
  (130, zo_isub 131),
  (131, zo_iload 8 133),
  (133, zo_callv 23 3 136),
  (136, zo_icne 175 139),
  (139, zo_iload 9 141),
  (141, zo_iload 6 143),
  (143, zo_const 24 145),
  (145, zo_icne 154 148),
  (148, zo_const (-1003) 151),
  (151, zo_goto 158),
  (154, zo_iload 6 156),
  (156, zo_const 1 157),
  (157, zo_iadd 158),
  (158, zo_icne 175 161),
  (161, zo_aload 0 162),
  (162, zo_const 0 163),
  (163, zo_callv 34 2 166),
  (166, zo_iload 7 168),
  (168, zo_icne 175 171),
  (171, zo_const 1 172),
  (172, zo_goto 176),
  (175, zo_const 0 176),
  (176, zo_zret),
  (177, zo_iload 3 178),
  (178, zo_const 3 179),
  (179, zo_call 1 2 182),
  (182, zo_ifne 196 185),
  (185, zo_iload 3 186),
  (186, zo_const 2 187),
  (187, zo_ishr 188),
  (188, zo_const 31 190),
  (190, zo_call 1 2 193),
  (193, zo_goto 197),
  (196, zo_const 0 197),
  (197, zo_istore 8 199),
  (199, zo_aload 0 200),
  (200, zo_const 6 202),
  (202, zo_callv 34 2 205),
  (205, zo_istore 9 207),
  (207, zo_aload 0 208),
  (208, zo_const 5 209),
  (209, zo_callv 34 2 212),
  (212, zo_istore 10 214),
  (214, zo_aload 0 215),
  (215, zo_iload 8 217),
  (217, zo_callv 25 2 220),
  (220, zo_istore 11 222),
  (222, zo_iload 11 224),
  (224, zo_aload 1 225),
  (225, zo_iload 8 227),
  (227, zo_callv 25 2 230),
  (230, zo_icne 308 233),
  (233, zo_iload 6 235),
  (235, zo_ifne 249 238),
  (238, zo_iload 11 240),
  (240, zo_const (-1005) 243),
  (243, zo_icne 308 246),
  (246, zo_goto 297),
  (249, zo_iload 11 251),
  (251, zo_aload 0 252),
  (252, zo_const 6 254),
  (254, zo_callv 34 2 257),
  (257, zo_iload 9 259),
  (259, zo_isub 260),
  (260, zo_icne 308 263),
  (263, zo_aload 0 264),
  (264, zo_const 5 265),
  (265, zo_callv 34 2 268),
  (268, zo_iload 10 270),
  (270, zo_iload 6 272),
  (272, zo_iadd 273),
  (273, zo_icne 308 276),
  (276, zo_aload 0 277),
  (277, zo_const 9 279),
  (279, zo_callv 34 2 282),
  (282, zo_ifne 308 285),
  (285, zo_aload 0 286),
  (286, zo_aload 1 287),
  (287, zo_iload 6 289),
  (289, zo_iload 11 291),
  (291, zo_call 5 4 294),
  (294, zo_ifeq 308 297),
  (297, zo_aload 0 298),
  (298, zo_call 4 1 301),
  (301, zo_ifeq 308 304),
  (304, zo_const 1 305),
  (305, zo_goto 309),
  (308, zo_const 0 309),
  (309, zo_zret),
  (310, zo_iload 4 312),
  (312, zo_const 2 313),
  (313, zo_ishr 314),
  (314, zo_const 20 316),
  (316, zo_call 1 2 319),
  (319, zo_istore 8 321),
  (321, zo_aload 0 322),
  (322, zo_iload 5 324),
  (324, zo_iload 8 326),
  (326, zo_const 0 327),
  (327, zo_callv 28 4 330),
  (330, zo_istore 9 332),
  (332, zo_iload 3 333),
  (333, zo_const 4 334),
  (334, zo_call 1 2 337),
  (337, zo_ifne 351 340),
  (340, zo_iload 3 341),
  (341, zo_const 2 342),
  (342, zo_ishr 343),
  (343, zo_const 100 345),
  (345, zo_call 1 2 348),
  (348, zo_goto 365),
  (351, zo_iload 9 353),
  (353, zo_iload 3 354),
  (354, zo_const 2 355),
  (355, zo_ishr 356),
  (356, zo_const 15 358),
  (358, zo_call 1 2 361),
  (361, zo_iadd 362),
  (362, zo_const 7 364),
  (364, zo_isub 365),
  (365, zo_istore 10 367),
  (367, zo_aload 0 368),
  (368, zo_iload 5 370),
  (370, zo_iload 8 372),
  (372, zo_iload 10 374),
  (374, zo_callv 20 4 377),
  (377, zo_istore 11 379),
  (379, zo_iload 10 381),
  (381, zo_iflt 395 384),
  (384, zo_iload 10 386),
  (386, zo_const 100 388),
  (388, zo_icge 395 391),
  (391, zo_const 1 392),
  (392, zo_goto 396),
  (395, zo_const 0 396),
  (396, zo_istore 12 398),
  (398, zo_iload 11 400),
  (400, zo_aload 1 401),
  (401, zo_const 3 402),
  (402, zo_iload 5 404),
  (404, zo_isub 405),
  (405, zo_iload 8 407),
  (407, zo_iload 10 409),
  (409, zo_callv 20 4 412),
  (412, zo_icne 483 415),
  (415, zo_iload 11 417),
  (417, zo_iload 12 419),
  (419, zo_ifne 428 422),
  (422, zo_const (-1002) 425),
  (425, zo_goto 443),
  (428, zo_iload 9 430),
  (430, zo_iload 10 432),
  (432, zo_icne 441 435),
  (435, zo_const (-1005) 438),
  (438, zo_goto 443),
  (441, zo_iload 9 443),
  (443, zo_icne 483 446),
  (446, zo_aload 0 447),
  (447, zo_const 0 448),
  (448, zo_callv 34 2 451),
  (451, zo_iload 12 453),
  (453, zo_ifeq 467 456),
  (456, zo_iload 7 458),
  (458, zo_iload 10 460),
  (460, zo_iadd 461),
  (461, zo_iload 9 463),
  (463, zo_isub 464),
  (464, zo_goto 469),
  (467, zo_iload 7 469),
  (469, zo_icne 483 472),
  (472, zo_aload 0 473),
  (473, zo_call 4 1 476),
  (476, zo_ifeq 483 479),
  (479, zo_const 1 480),
  (480, zo_goto 484),
  (483, zo_const 0 484),
  (484, zo_zret),
  (485, zo_iload 3 486),
  (486, zo_const 4 487),
  (487, zo_call 1 2 490),
  (490, zo_ifne 507 493),
  (493, zo_const 20 495),
  (495, zo_iload 3 496),
  (496, zo_const 2 497),
  (497, zo_ishr 498),
  (498, zo_const 51 500),
  (500, zo_call 1 2 503),
  (503, zo_iadd 504),
  (504, zo_goto 518),
  (507, zo_const 32 509),
  (509, zo_iload 3 510),
  (510, zo_const 2 511),
  (511, zo_ishr 512),
  (512, zo_const 16 514),
  (514, zo_call 1 2 517),
  (517, zo_iadd 518),
  (518, zo_istore 8 520),
  (520, zo_aload 0 521),
  (521, zo_const 17 523),
  (523, zo_callv 34 2 526),
  (526, zo_istore 9 528),
  (528, zo_aload 0 529),
  (529, zo_const 10 531),
  (531, zo_callv 34 2 534),
  (534, zo_istore 10 536),
  (536, zo_aload 0 537),
  (537, zo_iload 8 539),
  (539, zo_callv 21 2 542),
  (542, zo_istore 11 544),
  (544, zo_iload 11 546),
  (546, zo_aload 1 547),
  (547, zo_iload 8 549),
  (549, zo_callv 21 2 552),
  (552, zo_icne 615 555),
  (555, zo_iload 11 557),
  (557, zo_iload 10 559),
  (559, zo_iload 8 561),
  (561, zo_icne 570 564),
  (564, zo_const (-1005) 567),
  (567, zo_goto 572),
  (570, zo_iload 10 572),
  (572, zo_icne 615 575),
  (575, zo_iload 8 577),
  (577, zo_iload 10 579),
  (579, zo_iclt 593 582),
  (582, zo_aload 0 583),
  (583, zo_const 17 585),
  (585, zo_callv 34 2 588),
  (588, zo_iload 9 590),
  (590, zo_icgt 615 593),
  (593, zo_iload 8 595),
  (595, zo_iload 10 597),
  (597, zo_icgt 611 600),
  (600, zo_aload 0 601),
  (601, zo_const 17 603),
  (603, zo_callv 34 2 606),
  (606, zo_iload 9 608),
  (608, zo_iclt 615 611),
  (611, zo_const 1 612),
  (612, zo_goto 616),
  (615, zo_const 0 616),
  (616, zo_zret),
  (617, zo_iload 4 619),
  (619, zo_const 4 620),
  (620, zo_call 1 2 623),
  (623, zo_istore 8 625),
  (625, zo_iload 8 627),
  (627, zo_ifeq 636 630),
  (630, zo_iload 8 632),
  (632, zo_const 2 633),
  (633, zo_icne 647 636),
  (636, zo_const 1 637),
  (637, zo_iload 3 638),
  (638, zo_const 20 640),
  (640, zo_call 1 2 643),
  (643, zo_iadd 644),
  (644, zo_goto 669),
  (647, zo_iload 8 649),
  (649, zo_const 1 650),
  (650, zo_icne 661 653),
  (653, zo_iload 3 654),
  (654, zo_const 3 655),
  (655, zo_call 1 2 658),
  (658, zo_goto 669),
  (661, zo_const 4 662),
  (662, zo_iload 3 663),
  (663, zo_const 27 665),
  (665, zo_call 1 2 668),
  (668, zo_iadd 669),
  (669, zo_istore 9 671),
  (671, zo_aload 0 672),
  (672, zo_iload 8 674),
  (674, zo_iload 9 676),
  (676, zo_callv 22 3 679),
  (679, zo_aload 1 680),
  (680, zo_iload 8 682),
  (682, zo_iload 9 684),
  (684, zo_callv 22 3 687),
  (687, zo_icne 708 690),
  (690, zo_aload 0 691),
  (691, zo_const 11 693),
  (693, zo_iload 8 695),
  (695, zo_iadd 696),
  (696, zo_callv 34 2 699),
  (699, zo_iload 9 701),
  (701, zo_icne 708 704),
  (704, zo_const 1 705),
  (705, zo_goto 709),
  (708, zo_const 0 709),
  (709, zo_zret),
  (710, zo_aload 0 711),
  (711, zo_const 7 713),
  (713, zo_callv 34 2 716),
  (716, zo_istore 8 718),
  (718, zo_aload 0 719),
  (719, zo_const 8 721),
  (721, zo_callv 34 2 724),
  (724, zo_istore 9 726),
  (726, zo_aload 0 727),
  (727, zo_const 16 729),
  (729, zo_callv 34 2 732),
  (732, zo_istore 10 734),
  (734, zo_aload 0 735),
  (735, zo_callv 26 1 738),
  (738, zo_istore 11 740),
  (740, zo_aload 0 741),
  (741, zo_const 7 743),
  (743, zo_callv 34 2 746),
  (746, zo_iload 8 748),
  (748, zo_isub 749),
  (749, zo_aload 0 750),
  (750, zo_const 8 752),
  (752, zo_callv 34 2 755),
  (755, zo_iadd 756),
  (756, zo_iload 9 758),
  (758, zo_isub 759),
  (759, zo_istore 12 761),
  (761, zo_aload 0 762),
  (762, zo_const 7 764),
  (764, zo_callv 34 2 767),
  (767, zo_iload 8 769),
  (769, zo_isub 770),
  (770, zo_iload 10 772),
  (772, zo_icgt 824 775),
  (775, zo_iload 11 777),
  (777, zo_const (-1005) 780),
  (780, zo_icne 791 783),
  (783, zo_iload 12 785),
  (785, zo_ifne 824 788),
  (788, zo_goto 803),
  (791, zo_iload 11 793),
  (793, zo_iload 12 795),
  (795, zo_icne 824 798),
  (798, zo_iload 12 800),
  (800, zo_ifle 824 803),
  (803, zo_aload 0 804),
  (804, zo_call 4 1 807),
  (807, zo_ifeq 824 810),
  (810, zo_aload 0 811),
  (811, zo_aload 1 812),
  (812, zo_iload 11 814),
  (814, zo_call 3 3 817),
  (817, zo_ifeq 824 820),
  (820, zo_const 1 821),
  (821, zo_goto 825),
  (824, zo_const 0 825),
  (825, zo_zret),
  (826, zo_aload 0 827),
  (827, zo_const 18 829),
  (829, zo_callv 34 2 832),
  (832, zo_ifeq 846 835),
  (835, zo_aload 0 836),
  (836, zo_callv 27 1 839),
  (839, zo_aload 1 840),
  (840, zo_callv 27 1 843),
  (843, zo_icne 850 846),
  (846, zo_const 1 847),
  (847, zo_goto 851),
  (850, zo_const 0 851),
  (851, zo_zret),
  (852, zo_const 1 853),
  (853, zo_iload 3 854),
  (854, zo_const 20 856),
  (856, zo_call 1 2 859),
  (859, zo_iadd 860),
  (860, zo_istore 8 862),
  (862, zo_const 1 863),
  (863, zo_iload 4 865),
  (865, zo_const 20 867),
  (867, zo_call 1 2 870),
  (870, zo_iadd 871),
  (871, zo_istore 9 873),
  (873, zo_aload 0 874),
  (874, zo_iload 8 876),
  (876, zo_iload 9 878),
  (878, zo_callv 24 3 881),
  (881, zo_istore 10 883),
  (883, zo_iload 10 885),
  (885, zo_aload 1 886),
  (886, zo_iload 8 888),
  (888, zo_iload 9 890),
  (890, zo_callv 24 3 893),
  (893, zo_icne 942 896),
  (896, zo_iload 9 898),
  (898, zo_iload 8 900),
  (900, zo_icge 914 903),
  (903, zo_iload 10 905),
  (905, zo_const (-1002) 908),
  (908, zo_icne 942 911),
  (911, zo_goto 938),
  (914, zo_aload 0 915),
  (915, zo_const 9 917),
  (917, zo_callv 34 2 920),
  (920, zo_iload 10 922),
  (922, zo_ifge 930 925),
  (925, zo_iload 6 927),
  (927, zo_goto 935),
  (930, zo_iload 6 932),
  (932, zo_iload 10 934),
  (934, zo_isub 935),
  (935, zo_icne 942 938),
  (938, zo_const 1 939),
  (939, zo_goto 943),
  (942, zo_const 0 943),
  (943, zo_zret)]
def zc_L_areSame : Nat → z_O := z_lk [
  (0, zo_aload 1 1),
  (1, zo_callv 26 1 4),
  (4, zo_iload 2 5),
  (5, zo_icne 12 8),
  (8, zo_const 1 9),
  (9, zo_goto 13),
  (12, zo_const 0 13),
  (13, zo_zret)]
def zc_L_isBalanced : Nat → z_O := z_lk [
  (0, zo_aload 0 1),
  (1, zo_const 0 2),
  (2, zo_callv 34 2 5),
  (5, zo_aload 0 6),
  (6, zo_const 1 7),
  (7, zo_callv 34 2 10),
  (10, zo_iadd 11),
  (11, zo_aload 0 12),
  (12, zo_const 2 13),
  (13, zo_callv 34 2 16),
  (16, zo_iadd 17),
  (17, zo_aload 0 18),
  (18, zo_const 4 19),
  (19, zo_callv 34 2 22),
  (22, zo_iadd 23),
  (23, zo_const 2520 26),
  (26, zo_aload 0 27),
  (27, zo_const 3 28),
  (28, zo_callv 34 2 31),
  (31, zo_iadd 32),
  (32, zo_icne 39 35),
  (35, zo_const 1 36),
  (36, zo_goto 40),
  (39, zo_const 0 40),
  (40, zo_zret)]
def zc_L_areEnded : Nat → z_O := z_lk [
  (0, zo_const 0 1),
  (1, zo_istore 4 3),
  (3, zo_aload 0 4),
  (4, zo_iload 2 5),
  (5, zo_const 0 6),
  (6, zo_callv 31 3 9),
  (9, zo_const (-1005) 12),
  (12, zo_icne 19 15),
  (15, zo_const 1 16),
  (16, zo_goto 20),
  (19, zo_const 0 20),
  (20, zo_istore 5 22),
  (22, zo_const 0 23),
  (23, zo_istore 6 25),
  (25, zo_iload 6 27),
  (27, zo_iload 2 28),
  (28, zo_icge 127 31),
  (31, zo_iload 5 33),
  (33, zo_ifeq 127 36),
  (36, zo_iload 4 38),
  (38, zo_aload 0 39),
  (39, zo_iload 6 41),
  (41, zo_const 5 42),
  (42, zo_callv 31 3 45),
  (45, zo_iadd 46),
  (46, zo_istore 4 48),
  (48, zo_aload 0 49),
  (49, zo_iload 6 51),
  (51, zo_const 0 52),
  (52, zo_callv 31 3 55),
  (55, zo_const 3 56),
  (56, zo_aload 1 57),
  (57, zo_iload 6 59),
  (59, zo_const 0 60),
  (60, zo_callv 31 3 63),
  (63, zo_isub 64),
  (64, zo_icne 71 67),
  (67, zo_const 1 68),
  (68, zo_goto 72),
  (71, zo_const 0 72),
  (72, zo_istore 5 74),
  (74, zo_const 1 75),
  (75, zo_istore 7 77),
  (77, zo_iload 7 79),
  (79, zo_const 7 81),
  (81, zo_icge 121 84),
  (84, zo_iload 5 86),
  (86, zo_ifeq 112 89),
  (89, zo_aload 0 90),
  (90, zo_iload 6 92),
  (92, zo_iload 7 94),
  (94, zo_callv 31 3 97),
  (97, zo_aload 1 98),
  (98, zo_iload 6 100),
  (100, zo_iload 7 102),
  (102, zo_callv 31 3 105),
  (105, zo_icne 112 108),
  (108, zo_const 1 109),
  (109, zo_goto 113),
  (112, zo_const 0 113),
  (113, zo_istore 5 115),
  (115, zo_iinc 7 1 118),
  (118, zo_goto 77),
  (121, zo_iinc 6 1 124),
  (124, zo_goto 25),
  (127, zo_iload 5 129),
  (129, zo_ifeq 142 132),
  (132, zo_iload 4 134),
  (134, zo_iload 3 135),
  (135, zo_icne 142 138),
  (138, zo_const 1 139),
  (139, zo_goto 143),
  (142, zo_const 0 143),
  (143, zo_zret)]
def zc_L_areAlike : Nat → z_O := z_lk [
  (0, zo_const 1 1),
  (1, zo_istore 3 2),
  (2, zo_const 0 3),
  (3, zo_istore 4 5),
  (5, zo_iload 4 7),
  (7, zo_const 19 9),
  (9, zo_icge 43 12),
  (12, zo_iload 3 13),
  (13, zo_ifeq 35 16),
  (16, zo_aload 0 17),
  (17, zo_iload 4 19),
  (19, zo_callv 34 2 22),
  (22, zo_aload 1 23),
  (23, zo_iload 4 25),
  (25, zo_callv 34 2 28),
  (28, zo_icne 35 31),
  (31, zo_const 1 32),
  (32, zo_goto 36),
  (35, zo_const 0 36),
  (36, zo_istore 3 37),
  (37, zo_iinc 4 1 40),
  (40, zo_goto 5),
  (43, zo_const 0 44),
  (44, zo_istore 4 46),
  (46, zo_iload 4 48),
  (48, zo_const 4 49),
  (49, zo_icge 270 52),
  (52, zo_iload 3 53),
  (53, zo_ifeq 270 56),
  (56, zo_const 0 57),
  (57, zo_istore 5 59),
  (59, zo_iload 5 61),
  (61, zo_const 7 63),
  (63, zo_icge 103 66),
  (66, zo_iload 3 67),
  (67, zo_ifeq 95 70),
  (70, zo_aload 0 71),
  (71, zo_iload 4 73),
  (73, zo_iload 5 75),
  (75, zo_callv 29 3 78),
  (78, zo_aload 1 79),
  (79, zo_const 3 80),
  (80, zo_iload 4 82),
  (82, zo_isub 83),
  (83, zo_iload 5 85),
  (85, zo_callv 29 3 88),
  (88, zo_icne 95 91),
  (91, zo_const 1 92),
  (92, zo_goto 96),
  (95, zo_const 0 96),
  (96, zo_istore 3 97),
  (97, zo_iinc 5 1 100),
  (100, zo_goto 59),
  (103, zo_const 0 104),
  (104, zo_istore 5 106),
  (106, zo_iload 5 108),
  (108, zo_const 20 110),
  (110, zo_icge 198 113),
  (113, zo_iload 3 114),
  (114, zo_ifeq 190 117),
  (117, zo_aload 0 118),
  (118, zo_iload 4 120),
  (120, zo_iload 5 122),
  (122, zo_const 0 123),
  (123, zo_callv 28 4 126),
  (126, zo_aload 1 127),
  (127, zo_const 3 128),
  (128, zo_iload 4 130),
  (130, zo_isub 131),
  (131, zo_iload 5 133),
  (133, zo_const 0 134),
  (134, zo_callv 28 4 137),
  (137, zo_icne 190 140),
  (140, zo_aload 0 141),
  (141, zo_iload 4 143),
  (143, zo_iload 5 145),
  (145, zo_const 2 146),
  (146, zo_callv 28 4 149),
  (149, zo_aload 1 150),
  (150, zo_const 3 151),
  (151, zo_iload 4 153),
  (153, zo_isub 154),
  (154, zo_iload 5 156),
  (156, zo_const 2 157),
  (157, zo_callv 28 4 160),
  (160, zo_icne 190 163),
  (163, zo_aload 0 164),
  (164, zo_iload 4 166),
  (166, zo_iload 5 168),
  (168, zo_const 3 169),
  (169, zo_callv 28 4 172),
  (172, zo_aload 1 173),
  (173, zo_const 3 174),
  (174, zo_iload 4 176),
  (176, zo_isub 177),
  (177, zo_iload 5 179),
  (179, zo_const 3 180),
  (180, zo_callv 28 4 183),
  (183, zo_icne 190 186),
  (186, zo_const 1 187),
  (187, zo_goto 191),
  (190, zo_const 0 191),
  (191, zo_istore 3 192),
  (192, zo_iinc 5 1 195),
  (195, zo_goto 106),
  (198, zo_const 1 199),
  (199, zo_iload 2 200),
  (200, zo_const 3 201),
  (201, zo_iload 4 203),
  (203, zo_imul 204),
  (204, zo_ishr 205),
  (205, zo_const 20 207),
  (207, zo_call 1 2 210),
  (210, zo_iadd 211),
  (211, zo_istore 5 213),
  (213, zo_const 2 214),
  (214, zo_istore 6 216),
  (216, zo_iload 6 218),
  (218, zo_const 7 220),
  (220, zo_icge 264 223),
  (223, zo_iload 3 224),
  (224, zo_ifeq 256 227),
  (227, zo_aload 0 228),
  (228, zo_iload 4 230),
  (230, zo_iload 5 232),
  (232, zo_iload 6 234),
  (234, zo_callv 32 4 237),
  (237, zo_aload 1 238),
  (238, zo_const 3 239),
  (239, zo_iload 4 241),
  (241, zo_isub 242),
  (242, zo_iload 5 244),
  (244, zo_iload 6 246),
  (246, zo_callv 32 4 249),
  (249, zo_icne 256 252),
  (252, zo_const 1 253),
  (253, zo_goto 257),
  (256, zo_const 0 257),
  (257, zo_istore 3 258),
  (258, zo_iinc 6 1 261),
  (261, zo_goto 216),
  (264, zo_iinc 4 1 267),
  (267, zo_goto 46),
  (270, zo_const 0 271),
  (271, zo_istore 4 273),
  (273, zo_iload 4 275),
  (275, zo_aload 0 276),
  (276, zo_const 9 278),
  (278, zo_callv 34 2 281),
  (281, zo_icge 336 284),
  (284, zo_iload 3 285),
  (285, zo_ifeq 328 288),
  (288, zo_aload 0 289),
  (289, zo_iload 4 291),
  (291, zo_const 0 292),
  (292, zo_callv 30 3 295),
  (295, zo_const 3 296),
  (296, zo_aload 1 297),
  (297, zo_iload 4 299),
  (299, zo_const 0 300),
  (300, zo_callv 30 3 303),
  (303, zo_isub 304),
  (304, zo_icne 328 307),
  (307, zo_aload 0 308),
  (308, zo_iload 4 310),
  (310, zo_const 1 311),
  (311, zo_callv 30 3 314),
  (314, zo_aload 1 315),
  (315, zo_iload 4 317),
  (317, zo_const 1 318),
  (318, zo_callv 30 3 321),
  (321, zo_icne 328 324),
  (324, zo_const 1 325),
  (325, zo_goto 329),
  (328, zo_const 0 329),
  (329, zo_istore 3 330),
  (330, zo_iinc 4 1 333),
  (333, zo_goto 273),
  (336, zo_iload 3 337),
  (337, zo_ifeq 361 340),
  (340, zo_aload 0 341),
  (341, zo_const 3 342),
  (342, zo_const 11 344),
  (344, zo_callv 33 3 347),
  (347, zo_aload 1 348),
  (348, zo_const 3 349),
  (349, zo_const 11 351),
  (351, zo_callv 33 3 354),
  (354, zo_icne 361 357),
  (357, zo_const 1 358),
  (358, zo_goto 362),
  (361, zo_const 0 362),
  (362, zo_zret)]
def zc_L_isWell : Nat → z_O := z_lk [
  (0, zo_const 0 1),
  (1, zo_istore 1 2),
  (2, zo_const 0 3),
  (3, zo_istore 2 4),
  (4, zo_const 0 5),
  (5, zo_istore 3 6),
  (6, zo_const 0 7),
  (7, zo_istore 4 9),
  (9, zo_const 1 10),
  (10, zo_istore 5 12),
  (12, zo_const 0 13),
  (13, zo_istore 6 15),
  (15, zo_iload 6 17),
  (17, zo_const 4 18),
  (18, zo_icge 526 21),
  (21, zo_iload 5 23),
  (23, zo_ifeq 526 26),
  (26, zo_const 0 27),
  (27, zo_istore 7 29),
  (29, zo_const (-1005) 32),
  (32, zo_istore 8 34),
  (34, zo_const 0 35),
  (35, zo_istore 9 37),
  (37, zo_iload 9 39),
  (39, zo_const 20 41),
  (41, zo_icge 442 44),
  (44, zo_iload 5 46),
  (46, zo_ifeq 442 49),
  (49, zo_aload 0 50),
  (50, zo_iload 6 52),
  (52, zo_iload 9 54),
  (54, zo_const 0 55),
  (55, zo_callv 28 4 58),
  (58, zo_istore 10 60),
  (60, zo_aload 0 61),
  (61, zo_iload 6 63),
  (63, zo_iload 9 65),
  (65, zo_const 2 66),
  (66, zo_callv 28 4 69),
  (69, zo_const 1 70),
  (70, zo_icne 77 73),
  (73, zo_const 1 74),
  (74, zo_goto 78),
  (77, zo_const 0 78),
  (78, zo_istore 11 80),
  (80, zo_aload 0 81),
  (81, zo_iload 6 83),
  (83, zo_iload 9 85),
  (85, zo_const 3 86),
  (86, zo_callv 28 4 89),
  (89, zo_const 1 90),
  (90, zo_icne 97 93),
  (93, zo_const 1 94),
  (94, zo_goto 98),
  (97, zo_const 0 98),
  (98, zo_istore 12 100),
  (100, zo_aload 0 101),
  (101, zo_iload 6 103),
  (103, zo_iload 9 105),
  (105, zo_const 1 106),
  (106, zo_callv 28 4 109),
  (109, zo_ifgt 116 112),
  (112, zo_const 1 113),
  (113, zo_goto 117),
  (116, zo_const 0 117),
  (117, zo_istore 13 119),
  (119, zo_iload 6 121),
  (121, zo_ifle 162 124),
  (124, zo_aload 0 125),
  (125, zo_iload 6 127),
  (127, zo_const 1 128),
  (128, zo_isub 129),
  (129, zo_iload 9 131),
  (131, zo_const 2 132),
  (132, zo_callv 28 4 135),
  (135, zo_const 1 136),
  (136, zo_icne 162 139),
  (139, zo_aload 0 140),
  (140, zo_iload 6 142),
  (142, zo_const 1 143),
  (143, zo_isub 144),
  (144, zo_iload 9 146),
  (146, zo_const 0 147),
  (147, zo_callv 28 4 150),
  (150, zo_iload 10 152),
  (152, zo_isub 153),
  (153, zo_aload 0 154),
  (154, zo_const 13 156),
  (156, zo_callv 34 2 159),
  (159, zo_icge 206 162),
  (162, zo_iload 6 164),
  (164, zo_const 3 165),
  (165, zo_icge 210 168),
  (168, zo_aload 0 169),
  (169, zo_iload 6 171),
  (171, zo_const 1 172),
  (172, zo_iadd 173),
  (173, zo_iload 9 175),
  (175, zo_const 2 176),
  (176, zo_callv 28 4 179),
  (179, zo_const 1 180),
  (180, zo_icne 210 183),
  (183, zo_aload 0 184),
  (184, zo_iload 6 186),
  (186, zo_const 1 187),
  (187, zo_iadd 188),
  (188, zo_iload 9 190),
  (190, zo_const 0 191),
  (191, zo_callv 28 4 194),
  (194, zo_iload 10 196),
  (196, zo_isub 197),
  (197, zo_aload 0 198),
  (198, zo_const 13 200),
  (200, zo_callv 34 2 203),
  (203, zo_iclt 210 206),
  (206, zo_const 1 207),
  (207, zo_goto 211),
  (210, zo_const 0 211),
  (211, zo_istore 14 213),
  (213, zo_iload 7 215),
  (215, zo_iload 10 217),
  (217, zo_iadd 218),
  (218, zo_istore 7 220),
  (220, zo_iload 2 221),
  (221, zo_iload 11 223),
  (223, zo_ifeq 230 226),
  (226, zo_const 1 227),
  (227, zo_goto 231),
  (230, zo_const 0 231),
  (231, zo_iadd 232),
  (232, zo_istore 2 233),
  (233, zo_iload 3 234),
  (234, zo_iload 12 236),
  (236, zo_ifeq 243 239),
  (239, zo_const 1 240),
  (240, zo_goto 244),
  (243, zo_const 0 244),
  (244, zo_iadd 245),
  (245, zo_istore 3 246),
  (246, zo_iload 4 248),
  (248, zo_iload 13 250),
  (250, zo_ifeq 257 253),
  (253, zo_const 1 254),
  (254, zo_goto 258),
  (257, zo_const 0 258),
  (258, zo_iadd 259),
  (259, zo_istore 4 261),
  (261, zo_iload 13 263),
  (263, zo_ifeq 271 266),
  (266, zo_iload 9 268),
  (268, zo_goto 273),
  (271, zo_iload 8 273),
  (273, zo_istore 8 275),
  (275, zo_iload 10 277),
  (277, zo_iflt 433 280),
  (280, zo_iload 10 282),
  (282, zo_const 100 284),
  (284, zo_icge 433 287),
  (287, zo_aload 0 288),
  (288, zo_iload 6 290),
  (290, zo_iload 9 292),
  (292, zo_const 1 293),
  (293, zo_callv 28 4 296),
  (296, zo_aload 0 297),
  (297, zo_const 10 299),
  (299, zo_callv 34 2 302),
  (302, zo_iload 10 304),
  (304, zo_isub 305),
  (305, zo_icne 433 308),
  (308, zo_iload 11 310),
  (310, zo_iload 9 312),
  (312, zo_ifle 363 315),
  (315, zo_iload 9 317),
  (317, zo_const 19 319),
  (319, zo_icge 363 322),
  (322, zo_iload 13 324),
  (324, zo_ifne 363 327),
  (327, zo_iload 10 329),
  (329, zo_aload 0 330),
  (330, zo_iload 6 332),
  (332, zo_iload 9 334),
  (334, zo_const 1 335),
  (335, zo_isub 336),
  (336, zo_const 0 337),
  (337, zo_callv 28 4 340),
  (340, zo_icle 363 343),
  (343, zo_iload 10 345),
  (345, zo_aload 0 346),
  (346, zo_iload 6 348),
  (348, zo_iload 9 350),
  (350, zo_const 1 351),
  (351, zo_iadd 352),
  (352, zo_const 0 353),
  (353, zo_callv 28 4 356),
  (356, zo_icle 363 359),
  (359, zo_const 1 360),
  (360, zo_goto 364),
  (363, zo_const 0 364),
  (364, zo_icne 433 367),
  (367, zo_iload 12 369),
  (369, zo_iload 9 371),
  (371, zo_ifle 400 374),
  (374, zo_iload 9 376),
  (376, zo_const 19 378),
  (378, zo_icge 400 381),
  (381, zo_iload 13 383),
  (383, zo_ifne 400 386),
  (386, zo_iload 11 388),
  (388, zo_ifne 400 391),
  (391, zo_iload 14 393),
  (393, zo_ifeq 400 396),
  (396, zo_const 1 397),
  (397, zo_goto 401),
  (400, zo_const 0 401),
  (401, zo_icne 433 404),
  (404, zo_aload 0 405),
  (405, zo_iload 6 407),
  (407, zo_const 5 408),
  (408, zo_callv 29 3 411),
  (411, zo_iload 9 413),
  (413, zo_ishr 414),
  (414, zo_const 1 415),
  (415, zo_iand 416),
  (416, zo_iload 11 418),
  (418, zo_ifeq 425 421),
  (421, zo_const 1 422),
  (422, zo_goto 426),
  (425, zo_const 0 426),
  (426, zo_icne 433 429),
  (429, zo_const 1 430),
  (430, zo_goto 434),
  (433, zo_const 0 434),
  (434, zo_istore 5 436),
  (436, zo_iinc 9 1 439),
  (439, zo_goto 37),
  (442, zo_iload 1 443),
  (443, zo_iload 7 445),
  (445, zo_iadd 446),
  (446, zo_istore 1 447),
  (447, zo_iload 5 449),
  (449, zo_ifeq 517 452),
  (452, zo_aload 0 453),
  (453, zo_iload 6 455),
  (455, zo_const 0 456),
  (456, zo_callv 29 3 459),
  (459, zo_iload 7 461),
  (461, zo_icne 517 464),
  (464, zo_aload 0 465),
  (465, zo_iload 6 467),
  (467, zo_const 3 468),
  (468, zo_callv 29 3 471),
  (471, zo_iload 8 473),
  (473, zo_icne 517 476),
  (476, zo_aload 0 477),
  (477, zo_iload 6 479),
  (479, zo_const 6 481),
  (481, zo_callv 29 3 484),
  (484, zo_const (-1005) 487),
  (487, zo_icne 494 490),
  (490, zo_const 1 491),
  (491, zo_goto 495),
  (494, zo_const 0 495),
  (495, zo_aload 0 496),
  (496, zo_iload 6 498),
  (498, zo_const 1 499),
  (499, zo_callv 29 3 502),
  (502, zo_ifne 509 505),
  (505, zo_const 1 506),
  (506, zo_goto 510),
  (509, zo_const 0 510),
  (510, zo_icne 517 513),
  (513, zo_const 1 514),
  (514, zo_goto 518),
  (517, zo_const 0 518),
  (518, zo_istore 5 520),
  (520, zo_iinc 6 1 523),
  (523, zo_goto 15),
  (526, zo_iload 5 528),
  (528, zo_ifeq 595 531),
  (531, zo_iload 1 532),
  (532, zo_aload 0 533),
  (533, zo_const 0 534),
  (534, zo_callv 34 2 537),
  (537, zo_icne 595 540),
  (540, zo_iload 2 541),
  (541, zo_aload 0 542),
  (542, zo_const 15 544),
  (544, zo_callv 34 2 547),
  (547, zo_icne 595 550),
  (550, zo_iload 3 551),
  (551, zo_aload 0 552),
  (552, zo_const 16 554),
  (554, zo_callv 34 2 557),
  (557, zo_icne 595 560),
  (560, zo_iload 4 562),
  (562, zo_aload 0 563),
  (563, zo_const 17 565),
  (565, zo_callv 34 2 568),
  (568, zo_icne 595 571),
  (571, zo_aload 0 572),
  (572, zo_const 0 573),
  (573, zo_const 9 575),
  (575, zo_callv 33 3 578),
  (578, zo_aload 0 579),
  (579, zo_const 10 581),
  (581, zo_const 19 583),
  (583, zo_callv 33 3 586),
  (586, zo_iadd 587),
  (587, zo_iload 1 588),
  (588, zo_icne 595 591),
  (591, zo_const 1 592),
  (592, zo_goto 596),
  (595, zo_const 0 596),
  (596, zo_zret)]
def zc_L_law : Nat → z_O := z_lk [
  (16, zo_const 1 17),
  (17, zo_istore 3 18),
  (18, zo_const 0 19),
  (19, zo_istore 4 21),
  (21, zo_iload 4 23),
  (23, zo_const 44 25),
  (25, zo_icge 82 28),
  (28, zo_iload 3 29),
  (29, zo_ifeq 82 32),
  (32, zo_aload 1 33),
  (33, zo_aload 2 34),
  (34, zo_aload 0 35),
  (35, zo_iload 4 37),
  (37, zo_callc 40),
  (40, zo_aload 0 41),
  (41, zo_iload 4 43),
  (43, zo_const 1 44),
  (44, zo_iadd 45),
  (45, zo_callc 48),
  (48, zo_const 2 49),
  (49, zo_ishr 50),
  (50, zo_call 2 4 53),
  (53, zo_ifeq 74 56),
  (56, zo_iload 4 58),
  (58, zo_const 5 59),
  (59, zo_irem 60),
  (60, zo_ifgt 70 63),
  (63, zo_aload 1 64),
  (64, zo_call 7 1 67),
  (67, zo_ifeq 74 70),
  (70, zo_const 1 71),
  (71, zo_goto 75),
  (74, zo_const 0 75),
  (75, zo_istore 3 76),
  (76, zo_iinc 4 1 79),
  (79, zo_goto 21),
  (82, zo_iload 3 83),
  (83, zo_ifeq 111 86),
  (86, zo_aload 1 87),
  (87, zo_call 7 1 90),
  (90, zo_ifeq 111 93),
  (93, zo_aload 1 94),
  (94, zo_aload 2 95),
  (95, zo_aload 0 96),
  (96, zo_const 45 98),
  (98, zo_callc 101),
  (101, zo_call 6 3 104),
  (104, zo_ifeq 111 107),
  (107, zo_const 1 108),
  (108, zo_goto 112),
  (111, zo_const 0 112),
  (112, zo_zret)]
def z_pgs : List (Nat → z_O) := [fun _ => zo_fail, zc_L_up, zc_L_isStep, zc_L_areSame, zc_L_isBalanced, zc_L_areEnded, zc_L_areAlike, zc_L_isWell, zc_L_law]
def z_mls : List Nat := [0, 2, 13, 3, 1, 8, 7, 15, 5]
def z_pg (y : Nat) : Nat → z_O := z_pgs.getD y (fun _ => zo_fail)
def z_ml (y : Nat) : Nat := z_mls.getD y 0
def z_CL (F : Int32 → Int32) : Nat → z_C := z_Cl z_pg z_ml F
theorem z_det_CL (F : Int32 → Int32) (d : Nat) : z_det (z_CL F d) := z_Cl_det z_pg z_ml F d
theorem z_cal {F : Int32 → Int32} {d y : Nat} {as : List bb_V} {T T2 : z_T} {r : Int32} {k : z_P} (h : z_CL F d y as T r T2) : z_call (z_CL F d) y as T k ↔ k r T2 := z_call_iff (z_det_CL F d) h
theorem z_CL_of {F : Int32 → Int32} {d y : Nat} {as : List bb_V} {T T2 : z_T} {r : Int32} (hy : 1 ≤ y ∧ y < 9) (h : z_Y (z_CL F d) (z_pg y) (fun r' T' => r' = r ∧ T' = T2) 0 (bb_lo (z_ml y) as) [] T) : z_CL F (d + 1) y as T r T2 := by
  show (if 1 ≤ y ∧ y < 9 then _ else _)
  rw [if_pos hy]
  exact h
theorem z_scr {F : Int32 → Int32} {x : Int32} {T : z_T} (hx : 0 ≤ x) : z_base F 0 [bb_R 42 0, bb_I x] T = some (F x, T) := by
  show (if 0 = 0 ∧ 0 ≤ x then some (F x, T) else none) = _
  rw [if_pos ⟨rfl, hx⟩]
theorem zx_scr {F : Int32 → Int32} {d : Nat} {x : Int32} {T : z_T} {k : z_P} (hx : 0 ≤ x) : z_call (z_CL F d) 0 [bb_R 42 0, bb_I x] T k ↔ k (F x) T := z_cal (z_Cl_base (by decide) (z_scr hx) d)
theorem zx_dump_o {F : Int32 → Int32} {d : Nat} {x0 x1 x2 : Int32} {S1 S2 : bs_S} {k : z_P} : z_call (z_CL F d) 20 [bb_R 40 0, bb_I x0, bb_I x1, bb_I x2] (S1, S2) k ↔ k (sp_dump S1 x0 x1 x2).1 ((sp_dump S1 x0 x1 x2).2, S2) := z_cal (z_Cl_base (by decide) rfl d)
theorem zx_dump_p {F : Int32 → Int32} {d : Nat} {x0 x1 x2 : Int32} {S1 S2 : bs_S} {k : z_P} : z_call (z_CL F d) 20 [bb_R 41 0, bb_I x0, bb_I x1, bb_I x2] (S1, S2) k ↔ k (sp_dump S2 x0 x1 x2).1 (S1, (sp_dump S2 x0 x1 x2).2) := z_cal (z_Cl_base (by decide) rfl d)
theorem zx_setLevel_o {F : Int32 → Int32} {d : Nat} {x0 : Int32} {S1 S2 : bs_S} {k : z_P} : z_call (z_CL F d) 21 [bb_R 40 0, bb_I x0] (S1, S2) k ↔ k (sp_setLevel S1 x0).1 ((sp_setLevel S1 x0).2, S2) := z_cal (z_Cl_base (by decide) rfl d)
theorem zx_setLevel_p {F : Int32 → Int32} {d : Nat} {x0 : Int32} {S1 S2 : bs_S} {k : z_P} : z_call (z_CL F d) 21 [bb_R 41 0, bb_I x0] (S1, S2) k ↔ k (sp_setLevel S2 x0).1 (S1, (sp_setLevel S2 x0).2) := z_cal (z_Cl_base (by decide) rfl d)
theorem zx_set_o {F : Int32 → Int32} {d : Nat} {x0 x1 : Int32} {S1 S2 : bs_S} {k : z_P} : z_call (z_CL F d) 22 [bb_R 40 0, bb_I x0, bb_I x1] (S1, S2) k ↔ k (sp_set S1 x0 x1).1 ((sp_set S1 x0 x1).2, S2) := z_cal (z_Cl_base (by decide) rfl d)
theorem zx_set_p {F : Int32 → Int32} {d : Nat} {x0 x1 : Int32} {S1 S2 : bs_S} {k : z_P} : z_call (z_CL F d) 22 [bb_R 41 0, bb_I x0, bb_I x1] (S1, S2) k ↔ k (sp_set S2 x0 x1).1 (S1, (sp_set S2 x0 x1).2) := z_cal (z_Cl_base (by decide) rfl d)
theorem zx_wave_o {F : Int32 → Int32} {d : Nat} {x0 x1 : Int32} {S1 S2 : bs_S} {k : z_P} : z_call (z_CL F d) 23 [bb_R 40 0, bb_I x0, bb_I x1] (S1, S2) k ↔ k (sp_wave S1 x0 x1).1 ((sp_wave S1 x0 x1).2, S2) := z_cal (z_Cl_base (by decide) rfl d)
theorem zx_wave_p {F : Int32 → Int32} {d : Nat} {x0 x1 : Int32} {S1 S2 : bs_S} {k : z_P} : z_call (z_CL F d) 23 [bb_R 41 0, bb_I x0, bb_I x1] (S1, S2) k ↔ k (sp_wave S2 x0 x1).1 (S1, (sp_wave S2 x0 x1).2) := z_cal (z_Cl_base (by decide) rfl d)
theorem zx_strike_o {F : Int32 → Int32} {d : Nat} {x0 x1 : Int32} {S1 S2 : bs_S} {k : z_P} : z_call (z_CL F d) 24 [bb_R 40 0, bb_I x0, bb_I x1] (S1, S2) k ↔ k (sp_strike S1 x0 x1).1 ((sp_strike S1 x0 x1).2, S2) := z_cal (z_Cl_base (by decide) rfl d)
theorem zx_strike_p {F : Int32 → Int32} {d : Nat} {x0 x1 : Int32} {S1 S2 : bs_S} {k : z_P} : z_call (z_CL F d) 24 [bb_R 41 0, bb_I x0, bb_I x1] (S1, S2) k ↔ k (sp_strike S2 x0 x1).1 (S1, (sp_strike S2 x0 x1).2) := z_cal (z_Cl_base (by decide) rfl d)
theorem zx_run_o {F : Int32 → Int32} {d : Nat} {x0 : Int32} {S1 S2 : bs_S} {k : z_P} : z_call (z_CL F d) 25 [bb_R 40 0, bb_I x0] (S1, S2) k ↔ k (sp_run S1 x0).1 ((sp_run S1 x0).2, S2) := z_cal (z_Cl_base (by decide) rfl d)
theorem zx_run_p {F : Int32 → Int32} {d : Nat} {x0 : Int32} {S1 S2 : bs_S} {k : z_P} : z_call (z_CL F d) 25 [bb_R 41 0, bb_I x0] (S1, S2) k ↔ k (sp_run S2 x0).1 (S1, (sp_run S2 x0).2) := z_cal (z_Cl_base (by decide) rfl d)
theorem zx_settle_o {F : Int32 → Int32} {d : Nat} {S1 S2 : bs_S} {k : z_P} : z_call (z_CL F d) 26 [bb_R 40 0] (S1, S2) k ↔ k (sp_settle S1).1 ((sp_settle S1).2, S2) := z_cal (z_Cl_base (by decide) rfl d)
theorem zx_settle_p {F : Int32 → Int32} {d : Nat} {S1 S2 : bs_S} {k : z_P} : z_call (z_CL F d) 26 [bb_R 41 0] (S1, S2) k ↔ k (sp_settle S2).1 (S1, (sp_settle S2).2) := z_cal (z_Cl_base (by decide) rfl d)
theorem zx_undo_o {F : Int32 → Int32} {d : Nat} {S1 S2 : bs_S} {k : z_P} : z_call (z_CL F d) 27 [bb_R 40 0] (S1, S2) k ↔ k (sp_undo S1).1 ((sp_undo S1).2, S2) := z_cal (z_Cl_base (by decide) rfl d)
theorem zx_undo_p {F : Int32 → Int32} {d : Nat} {S1 S2 : bs_S} {k : z_P} : z_call (z_CL F d) 27 [bb_R 41 0] (S1, S2) k ↔ k (sp_undo S2).1 (S1, (sp_undo S2).2) := z_cal (z_Cl_base (by decide) rfl d)
theorem zx_cell_o {F : Int32 → Int32} {d : Nat} {x0 x1 x2 : Int32} {S1 S2 : bs_S} {k : z_P} : z_call (z_CL F d) 28 [bb_R 40 0, bb_I x0, bb_I x1, bb_I x2] (S1, S2) k ↔ k (sp_cell S1 x0 x1 x2).1 (S1, S2) := z_cal (z_Cl_base (by decide) rfl d)
theorem zx_cell_p {F : Int32 → Int32} {d : Nat} {x0 x1 x2 : Int32} {S1 S2 : bs_S} {k : z_P} : z_call (z_CL F d) 28 [bb_R 41 0, bb_I x0, bb_I x1, bb_I x2] (S1, S2) k ↔ k (sp_cell S2 x0 x1 x2).1 (S1, S2) := z_cal (z_Cl_base (by decide) rfl d)
theorem zx_row_o {F : Int32 → Int32} {d : Nat} {x0 x1 : Int32} {S1 S2 : bs_S} {k : z_P} : z_call (z_CL F d) 29 [bb_R 40 0, bb_I x0, bb_I x1] (S1, S2) k ↔ k (sp_row S1 x0 x1).1 (S1, S2) := z_cal (z_Cl_base (by decide) rfl d)
theorem zx_row_p {F : Int32 → Int32} {d : Nat} {x0 x1 : Int32} {S1 S2 : bs_S} {k : z_P} : z_call (z_CL F d) 29 [bb_R 41 0, bb_I x0, bb_I x1] (S1, S2) k ↔ k (sp_row S2 x0 x1).1 (S1, S2) := z_cal (z_Cl_base (by decide) rfl d)
theorem zx_waiting_o {F : Int32 → Int32} {d : Nat} {x0 x1 : Int32} {S1 S2 : bs_S} {k : z_P} : z_call (z_CL F d) 30 [bb_R 40 0, bb_I x0, bb_I x1] (S1, S2) k ↔ k (sp_waiting S1 x0 x1).1 (S1, S2) := z_cal (z_Cl_base (by decide) rfl d)
theorem zx_waiting_p {F : Int32 → Int32} {d : Nat} {x0 x1 : Int32} {S1 S2 : bs_S} {k : z_P} : z_call (z_CL F d) 30 [bb_R 41 0, bb_I x0, bb_I x1] (S1, S2) k ↔ k (sp_waiting S2 x0 x1).1 (S1, S2) := z_cal (z_Cl_base (by decide) rfl d)
theorem zx_ended_o {F : Int32 → Int32} {d : Nat} {x0 x1 : Int32} {S1 S2 : bs_S} {k : z_P} : z_call (z_CL F d) 31 [bb_R 40 0, bb_I x0, bb_I x1] (S1, S2) k ↔ k (sp_ended S1 x0 x1).1 (S1, S2) := z_cal (z_Cl_base (by decide) rfl d)
theorem zx_ended_p {F : Int32 → Int32} {d : Nat} {x0 x1 : Int32} {S1 S2 : bs_S} {k : z_P} : z_call (z_CL F d) 31 [bb_R 41 0, bb_I x0, bb_I x1] (S1, S2) k ↔ k (sp_ended S2 x0 x1).1 (S1, S2) := z_cal (z_Cl_base (by decide) rfl d)
theorem zx_would_o {F : Int32 → Int32} {d : Nat} {x0 x1 x2 : Int32} {S1 S2 : bs_S} {k : z_P} : z_call (z_CL F d) 32 [bb_R 40 0, bb_I x0, bb_I x1, bb_I x2] (S1, S2) k ↔ k (sp_would S1 x0 x1 x2).1 (S1, S2) := z_cal (z_Cl_base (by decide) rfl d)
theorem zx_would_p {F : Int32 → Int32} {d : Nat} {x0 x1 x2 : Int32} {S1 S2 : bs_S} {k : z_P} : z_call (z_CL F d) 32 [bb_R 41 0, bb_I x0, bb_I x1, bb_I x2] (S1, S2) k ↔ k (sp_would S2 x0 x1 x2).1 (S1, S2) := z_cal (z_Cl_base (by decide) rfl d)
theorem zx_sand_o {F : Int32 → Int32} {d : Nat} {x0 x1 : Int32} {S1 S2 : bs_S} {k : z_P} : z_call (z_CL F d) 33 [bb_R 40 0, bb_I x0, bb_I x1] (S1, S2) k ↔ k (sp_sand S1 x0 x1).1 (S1, S2) := z_cal (z_Cl_base (by decide) rfl d)
theorem zx_sand_p {F : Int32 → Int32} {d : Nat} {x0 x1 : Int32} {S1 S2 : bs_S} {k : z_P} : z_call (z_CL F d) 33 [bb_R 41 0, bb_I x0, bb_I x1] (S1, S2) k ↔ k (sp_sand S2 x0 x1).1 (S1, S2) := z_cal (z_Cl_base (by decide) rfl d)
theorem zx_count_o {F : Int32 → Int32} {d : Nat} {x0 : Int32} {S1 S2 : bs_S} {k : z_P} : z_call (z_CL F d) 34 [bb_R 40 0, bb_I x0] (S1, S2) k ↔ k (sp_count S1 x0).1 (S1, S2) := z_cal (z_Cl_base (by decide) rfl d)
theorem zx_count_p {F : Int32 → Int32} {d : Nat} {x0 : Int32} {S1 S2 : bs_S} {k : z_P} : z_call (z_CL F d) 34 [bb_R 41 0, bb_I x0] (S1, S2) k ↔ k (sp_count S2 x0).1 (S1, S2) := z_cal (z_Cl_base (by decide) rfl d)
theorem zs_L_up {F : Int32 → Int32} {d : Nat} {a0 a1 : bb_V} {T T2 : z_T} {r : Int32} (h : z_Y (z_CL F d) zc_L_up (fun r' T' => r' = r ∧ T' = T2) 0 [a0, a1] [] T) : z_CL F (d + 1) 1 [a0, a1] T r T2 := z_CL_of (by decide) h
theorem zs_L_isStep {F : Int32 → Int32} {d : Nat} {a0 a1 a2 a3 : bb_V} {T T2 : z_T} {r : Int32} (h : z_Y (z_CL F d) zc_L_isStep (fun r' T' => r' = r ∧ T' = T2) 0 [a0, a1, a2, a3, bb_U, bb_U, bb_U, bb_U, bb_U, bb_U, bb_U, bb_U, bb_U] [] T) : z_CL F (d + 1) 2 [a0, a1, a2, a3] T r T2 := z_CL_of (by decide) h
theorem zs_L_areSame {F : Int32 → Int32} {d : Nat} {a0 a1 a2 : bb_V} {T T2 : z_T} {r : Int32} (h : z_Y (z_CL F d) zc_L_areSame (fun r' T' => r' = r ∧ T' = T2) 0 [a0, a1, a2] [] T) : z_CL F (d + 1) 3 [a0, a1, a2] T r T2 := z_CL_of (by decide) h
theorem zs_L_isBalanced {F : Int32 → Int32} {d : Nat} {a0 : bb_V} {T T2 : z_T} {r : Int32} (h : z_Y (z_CL F d) zc_L_isBalanced (fun r' T' => r' = r ∧ T' = T2) 0 [a0] [] T) : z_CL F (d + 1) 4 [a0] T r T2 := z_CL_of (by decide) h
theorem zs_L_areEnded {F : Int32 → Int32} {d : Nat} {a0 a1 a2 a3 : bb_V} {T T2 : z_T} {r : Int32} (h : z_Y (z_CL F d) zc_L_areEnded (fun r' T' => r' = r ∧ T' = T2) 0 [a0, a1, a2, a3, bb_U, bb_U, bb_U, bb_U] [] T) : z_CL F (d + 1) 5 [a0, a1, a2, a3] T r T2 := z_CL_of (by decide) h
theorem zs_L_areAlike {F : Int32 → Int32} {d : Nat} {a0 a1 a2 : bb_V} {T T2 : z_T} {r : Int32} (h : z_Y (z_CL F d) zc_L_areAlike (fun r' T' => r' = r ∧ T' = T2) 0 [a0, a1, a2, bb_U, bb_U, bb_U, bb_U] [] T) : z_CL F (d + 1) 6 [a0, a1, a2] T r T2 := z_CL_of (by decide) h
theorem zs_L_isWell {F : Int32 → Int32} {d : Nat} {a0 : bb_V} {T T2 : z_T} {r : Int32} (h : z_Y (z_CL F d) zc_L_isWell (fun r' T' => r' = r ∧ T' = T2) 0 [a0, bb_U, bb_U, bb_U, bb_U, bb_U, bb_U, bb_U, bb_U, bb_U, bb_U, bb_U, bb_U, bb_U, bb_U] [] T) : z_CL F (d + 1) 7 [a0] T r T2 := z_CL_of (by decide) h
section EL
variable {C : z_C} {R : z_P} {T : z_T} {ls st : List bb_V}
theorem ze_L_up_0 {x : Int32} {t : List bb_V} : z_Y C zc_L_up R 0 (bb_I x :: t) st T ↔ z_Y C zc_L_up R 1 (bb_I x :: t) (bb_I x :: st) T := Iff.trans (z_Y_at (cd := zc_L_up) (pc := 0) (zo_iload 0 1) rfl) (Iff.of_eq rfl)
theorem ze_L_up_1  : z_Y C zc_L_up R 1 ls st T ↔ z_Y C zc_L_up R 3 ls (bb_I 2147483647 :: st) T := Iff.trans (z_Y_at (cd := zc_L_up) (pc := 1) (zo_const 2147483647 3) rfl) (Iff.of_eq rfl)
theorem ze_L_up_3 {a b : Int32} : z_Y C zc_L_up R 3 ls (bb_I b :: bb_I a :: st) T ↔ z_Y C zc_L_up R 4 ls (bb_I (a &&& b) :: st) T := Iff.trans (z_Y_at (cd := zc_L_up) (pc := 3) (zo_iand 4) rfl) (Iff.of_eq rfl)
theorem ze_L_up_4 {p0 : bb_V} {x : Int32} {t : List bb_V} : z_Y C zc_L_up R 4 (p0 :: bb_I x :: t) st T ↔ z_Y C zc_L_up R 5 (p0 :: bb_I x :: t) (bb_I x :: st) T := Iff.trans (z_Y_at (cd := zc_L_up) (pc := 4) (zo_iload 1 5) rfl) (Iff.of_eq rfl)
theorem ze_L_up_5 {a b : Int32} : z_Y C zc_L_up R 5 ls (bb_I b :: bb_I a :: st) T ↔ (b ≠ 0 ∧ z_Y C zc_L_up R 6 ls (bb_I (a - a / b * b) :: st) T) := Iff.trans (z_Y_at (cd := zc_L_up) (pc := 5) (zo_irem 6) rfl) (zq_irem)
theorem ze_L_up_6 {v : Int32} : z_Y C zc_L_up R 6 ls [bb_I v] T ↔ R v T := Iff.trans (z_Y_at (cd := zc_L_up) (pc := 6) (zo_iret) rfl) (Iff.of_eq rfl)
end EL
section EL
variable {C : z_C} {R : z_P} {T : z_T} {ls st : List bb_V}
theorem ze_L_isStep_0 {p0 p1 : bb_V} {x : Int32} {t : List bb_V} : z_Y C zc_L_isStep R 0 (p0 :: p1 :: bb_I x :: t) st T ↔ z_Y C zc_L_isStep R 1 (p0 :: p1 :: bb_I x :: t) (bb_I x :: st) T := Iff.trans (z_Y_at (cd := zc_L_isStep) (pc := 0) (zo_iload 2 1) rfl) (Iff.of_eq rfl)
theorem ze_L_isStep_1  : z_Y C zc_L_isStep R 1 ls st T ↔ z_Y C zc_L_isStep R 2 ls (bb_I 4 :: st) T := Iff.trans (z_Y_at (cd := zc_L_isStep) (pc := 1) (zo_const 4 2) rfl) (Iff.of_eq rfl)
theorem ze_L_isStep_2 {a b : Int32} : z_Y C zc_L_isStep R 2 ls (bb_I b :: bb_I a :: st) T ↔ z_Y C zc_L_isStep R 3 ls (bb_I (a >>> (b &&& 31)) :: st) T := Iff.trans (z_Y_at (cd := zc_L_isStep) (pc := 2) (zo_ishr 3) rfl) (Iff.of_eq rfl)
theorem ze_L_isStep_3 {p0 p1 p2 p3 : bb_V} {x : Int32} {q : bb_V} {t : List bb_V} : z_Y C zc_L_isStep R 3 (p0 :: p1 :: p2 :: p3 :: q :: t) (bb_I x :: st) T ↔ z_Y C zc_L_isStep R 5 (p0 :: p1 :: p2 :: p3 :: bb_I x :: t) st T := Iff.trans (z_Y_at (cd := zc_L_isStep) (pc := 3) (zo_istore 4 5) rfl) (Iff.of_eq rfl)
theorem ze_L_isStep_5 {p0 p1 p2 p3 : bb_V} {x : Int32} {t : List bb_V} : z_Y C zc_L_isStep R 5 (p0 :: p1 :: p2 :: p3 :: bb_I x :: t) st T ↔ z_Y C zc_L_isStep R 7 (p0 :: p1 :: p2 :: p3 :: bb_I x :: t) (bb_I x :: st) T := Iff.trans (z_Y_at (cd := zc_L_isStep) (pc := 5) (zo_iload 4 7) rfl) (Iff.of_eq rfl)
theorem ze_L_isStep_7  : z_Y C zc_L_isStep R 7 ls st T ↔ z_Y C zc_L_isStep R 8 ls (bb_I 4 :: st) T := Iff.trans (z_Y_at (cd := zc_L_isStep) (pc := 7) (zo_const 4 8) rfl) (Iff.of_eq rfl)
theorem ze_L_isStep_8 {x0 : Int32} {x1 : Int32} : z_Y C zc_L_isStep R 8 ls (bb_I x1 :: bb_I x0 :: []) T ↔ z_call C 1 [bb_I x0, bb_I x1] T (fun r T2 => z_Y C zc_L_isStep R 11 ls (bb_I r :: []) T2) := Iff.trans (z_Y_at (cd := zc_L_isStep) (pc := 8) (zo_call 1 2 11) rfl) ((zq_call_2 (by decide)).trans ⟨fun h => h.2, fun h => ⟨⟨Nat.le_of_ble_eq_true rfl, rfl⟩, h⟩⟩)
theorem ze_L_isStep_11 {p0 p1 p2 p3 p4 : bb_V} {x : Int32} {q : bb_V} {t : List bb_V} : z_Y C zc_L_isStep R 11 (p0 :: p1 :: p2 :: p3 :: p4 :: q :: t) (bb_I x :: st) T ↔ z_Y C zc_L_isStep R 13 (p0 :: p1 :: p2 :: p3 :: p4 :: bb_I x :: t) st T := Iff.trans (z_Y_at (cd := zc_L_isStep) (pc := 11) (zo_istore 5 13) rfl) (Iff.of_eq rfl)
theorem ze_L_isStep_13 {k j : Nat} {t : List bb_V} : z_Y C zc_L_isStep R 13 (bb_R k j :: t) st T ↔ z_Y C zc_L_isStep R 14 (bb_R k j :: t) (bb_R k j :: st) T := Iff.trans (z_Y_at (cd := zc_L_isStep) (pc := 13) (zo_aload 0 14) rfl) (Iff.of_eq rfl)
theorem ze_L_isStep_14  : z_Y C zc_L_isStep R 14 ls st T ↔ z_Y C zc_L_isStep R 16 ls (bb_I 9 :: st) T := Iff.trans (z_Y_at (cd := zc_L_isStep) (pc := 14) (zo_const 9 16) rfl) (Iff.of_eq rfl)
theorem ze_L_isStep_16 {x1 : Int32} : z_Y C zc_L_isStep R 16 ls (bb_I x1 :: bb_R 40 0 :: []) T ↔ z_call C 34 [bb_R 40 0, bb_I x1] T (fun r T2 => z_Y C zc_L_isStep R 19 ls (bb_I r :: []) T2) := Iff.trans (z_Y_at (cd := zc_L_isStep) (pc := 16) (zo_callv 34 2 19) rfl) ((zq_callv_2 (by decide) (by decide)).trans ⟨fun h => h.2, fun h => ⟨Nat.le_of_ble_eq_true rfl, h⟩⟩)
theorem ze_L_isStep_19 {p0 p1 p2 p3 p4 p5 : bb_V} {x : Int32} {q : bb_V} {t : List bb_V} : z_Y C zc_L_isStep R 19 (p0 :: p1 :: p2 :: p3 :: p4 :: p5 :: q :: t) (bb_I x :: st) T ↔ z_Y C zc_L_isStep R 21 (p0 :: p1 :: p2 :: p3 :: p4 :: p5 :: bb_I x :: t) st T := Iff.trans (z_Y_at (cd := zc_L_isStep) (pc := 19) (zo_istore 6 21) rfl) (Iff.of_eq rfl)
theorem ze_L_isStep_21 {k j : Nat} {t : List bb_V} : z_Y C zc_L_isStep R 21 (bb_R k j :: t) st T ↔ z_Y C zc_L_isStep R 22 (bb_R k j :: t) (bb_R k j :: st) T := Iff.trans (z_Y_at (cd := zc_L_isStep) (pc := 21) (zo_aload 0 22) rfl) (Iff.of_eq rfl)
theorem ze_L_isStep_22  : z_Y C zc_L_isStep R 22 ls st T ↔ z_Y C zc_L_isStep R 23 ls (bb_I 0 :: st) T := Iff.trans (z_Y_at (cd := zc_L_isStep) (pc := 22) (zo_const 0 23) rfl) (Iff.of_eq rfl)
theorem ze_L_isStep_23 {x1 : Int32} : z_Y C zc_L_isStep R 23 ls (bb_I x1 :: bb_R 40 0 :: []) T ↔ z_call C 34 [bb_R 40 0, bb_I x1] T (fun r T2 => z_Y C zc_L_isStep R 26 ls (bb_I r :: []) T2) := Iff.trans (z_Y_at (cd := zc_L_isStep) (pc := 23) (zo_callv 34 2 26) rfl) ((zq_callv_2 (by decide) (by decide)).trans ⟨fun h => h.2, fun h => ⟨Nat.le_of_ble_eq_true rfl, h⟩⟩)
theorem ze_L_isStep_26 {p0 p1 p2 p3 p4 p5 p6 : bb_V} {x : Int32} {q : bb_V} {t : List bb_V} : z_Y C zc_L_isStep R 26 (p0 :: p1 :: p2 :: p3 :: p4 :: p5 :: p6 :: q :: t) (bb_I x :: st) T ↔ z_Y C zc_L_isStep R 28 (p0 :: p1 :: p2 :: p3 :: p4 :: p5 :: p6 :: bb_I x :: t) st T := Iff.trans (z_Y_at (cd := zc_L_isStep) (pc := 26) (zo_istore 7 28) rfl) (Iff.of_eq rfl)
theorem ze_L_isStep_28 {p0 p1 : bb_V} {x : Int32} {t : List bb_V} : z_Y C zc_L_isStep R 28 (p0 :: p1 :: bb_I x :: t) st T ↔ z_Y C zc_L_isStep R 29 (p0 :: p1 :: bb_I x :: t) (bb_I x :: st) T := Iff.trans (z_Y_at (cd := zc_L_isStep) (pc := 28) (zo_iload 2 29) rfl) (Iff.of_eq rfl)
theorem ze_L_isStep_29  : z_Y C zc_L_isStep R 29 ls st T ↔ z_Y C zc_L_isStep R 31 ls (bb_I 15 :: st) T := Iff.trans (z_Y_at (cd := zc_L_isStep) (pc := 29) (zo_const 15 31) rfl) (Iff.of_eq rfl)
theorem ze_L_isStep_31 {x0 : Int32} {x1 : Int32} : z_Y C zc_L_isStep R 31 ls (bb_I x1 :: bb_I x0 :: []) T ↔ z_call C 1 [bb_I x0, bb_I x1] T (fun r T2 => z_Y C zc_L_isStep R 34 ls (bb_I r :: []) T2) := Iff.trans (z_Y_at (cd := zc_L_isStep) (pc := 31) (zo_call 1 2 34) rfl) ((zq_call_2 (by decide)).trans ⟨fun h => h.2, fun h => ⟨⟨Nat.le_of_ble_eq_true rfl, rfl⟩, h⟩⟩)
theorem ze_L_isStep_34 {x : Int32} : z_Y C zc_L_isStep R 34 ls (bb_I x :: st) T ↔ (if x = 0 then z_Y C zc_L_isStep R 104 ls st T else (if x = 1 then z_Y C zc_L_isStep R 104 ls st T else (if x = 2 then z_Y C zc_L_isStep R 104 ls st T else (if x = 3 then z_Y C zc_L_isStep R 104 ls st T else (if x = 4 then z_Y C zc_L_isStep R 104 ls st T else (if x = 5 then z_Y C zc_L_isStep R 177 ls st T else (if x = 6 then z_Y C zc_L_isStep R 177 ls st T else (if x = 7 then z_Y C zc_L_isStep R 177 ls st T else (if x = 8 then z_Y C zc_L_isStep R 310 ls st T else (if x = 9 then z_Y C zc_L_isStep R 310 ls st T else (if x = 10 then z_Y C zc_L_isStep R 485 ls st T else (if x = 11 then z_Y C zc_L_isStep R 617 ls st T else (if x = 12 then z_Y C zc_L_isStep R 710 ls st T else (if x = 13 then z_Y C zc_L_isStep R 826 ls st T else z_Y C zc_L_isStep R 852 ls st T)))))))))))))) := Iff.trans (z_Y_at (cd := zc_L_isStep) (pc := 34) (zo_sw [(0, 104), (1, 104), (2, 104), (3, 104), (4, 104), (5, 177), (6, 177), (7, 177), (8, 310), (9, 310), (10, 485), (11, 617), (12, 710), (13, 826)] 852) rfl) (by simp only [zq_sw, zq_sw0])
theorem ze_L_isStep_104  : z_Y C zc_L_isStep R 104 ls st T ↔ z_Y C zc_L_isStep R 105 ls (bb_I 1 :: st) T := Iff.trans (z_Y_at (cd := zc_L_isStep) (pc := 104) (zo_const 1 105) rfl) (Iff.of_eq rfl)
theorem ze_L_isStep_105 {p0 p1 p2 : bb_V} {x : Int32} {t : List bb_V} : z_Y C zc_L_isStep R 105 (p0 :: p1 :: p2 :: bb_I x :: t) st T ↔ z_Y C zc_L_isStep R 106 (p0 :: p1 :: p2 :: bb_I x :: t) (bb_I x :: st) T := Iff.trans (z_Y_at (cd := zc_L_isStep) (pc := 105) (zo_iload 3 106) rfl) (Iff.of_eq rfl)
theorem ze_L_isStep_106  : z_Y C zc_L_isStep R 106 ls st T ↔ z_Y C zc_L_isStep R 108 ls (bb_I 20 :: st) T := Iff.trans (z_Y_at (cd := zc_L_isStep) (pc := 106) (zo_const 20 108) rfl) (Iff.of_eq rfl)
theorem ze_L_isStep_108 {x0 : Int32} {x1 : Int32} {z0 : Int32} : z_Y C zc_L_isStep R 108 ls (bb_I x1 :: bb_I x0 :: [bb_I z0]) T ↔ z_call C 1 [bb_I x0, bb_I x1] T (fun r T2 => z_Y C zc_L_isStep R 111 ls (bb_I r :: [bb_I z0]) T2) := Iff.trans (z_Y_at (cd := zc_L_isStep) (pc := 108) (zo_call 1 2 111) rfl) ((zq_call_2 (by decide)).trans ⟨fun h => h.2, fun h => ⟨⟨Nat.le_of_ble_eq_true rfl, rfl⟩, h⟩⟩)
theorem ze_L_isStep_111 {a b : Int32} : z_Y C zc_L_isStep R 111 ls (bb_I b :: bb_I a :: st) T ↔ z_Y C zc_L_isStep R 112 ls (bb_I (a + b) :: st) T := Iff.trans (z_Y_at (cd := zc_L_isStep) (pc := 111) (zo_iadd 112) rfl) (Iff.of_eq rfl)
theorem ze_L_isStep_112 {p0 p1 p2 p3 p4 p5 p6 p7 : bb_V} {x : Int32} {q : bb_V} {t : List bb_V} : z_Y C zc_L_isStep R 112 (p0 :: p1 :: p2 :: p3 :: p4 :: p5 :: p6 :: p7 :: q :: t) (bb_I x :: st) T ↔ z_Y C zc_L_isStep R 114 (p0 :: p1 :: p2 :: p3 :: p4 :: p5 :: p6 :: p7 :: bb_I x :: t) st T := Iff.trans (z_Y_at (cd := zc_L_isStep) (pc := 112) (zo_istore 8 114) rfl) (Iff.of_eq rfl)
theorem ze_L_isStep_114 {k j : Nat} {t : List bb_V} : z_Y C zc_L_isStep R 114 (bb_R k j :: t) st T ↔ z_Y C zc_L_isStep R 115 (bb_R k j :: t) (bb_R k j :: st) T := Iff.trans (z_Y_at (cd := zc_L_isStep) (pc := 114) (zo_aload 0 115) rfl) (Iff.of_eq rfl)
theorem ze_L_isStep_115 {p0 p1 p2 p3 p4 : bb_V} {x : Int32} {t : List bb_V} : z_Y C zc_L_isStep R 115 (p0 :: p1 :: p2 :: p3 :: p4 :: bb_I x :: t) st T ↔ z_Y C zc_L_isStep R 117 (p0 :: p1 :: p2 :: p3 :: p4 :: bb_I x :: t) (bb_I x :: st) T := Iff.trans (z_Y_at (cd := zc_L_isStep) (pc := 115) (zo_iload 5 117) rfl) (Iff.of_eq rfl)
theorem ze_L_isStep_117 {p0 p1 p2 p3 p4 p5 p6 p7 : bb_V} {x : Int32} {t : List bb_V} : z_Y C zc_L_isStep R 117 (p0 :: p1 :: p2 :: p3 :: p4 :: p5 :: p6 :: p7 :: bb_I x :: t) st T ↔ z_Y C zc_L_isStep R 119 (p0 :: p1 :: p2 :: p3 :: p4 :: p5 :: p6 :: p7 :: bb_I x :: t) (bb_I x :: st) T := Iff.trans (z_Y_at (cd := zc_L_isStep) (pc := 117) (zo_iload 8 119) rfl) (Iff.of_eq rfl)
theorem ze_L_isStep_119 {x1 : Int32} {x2 : Int32} : z_Y C zc_L_isStep R 119 ls (bb_I x2 :: bb_I x1 :: bb_R 40 0 :: []) T ↔ z_call C 23 [bb_R 40 0, bb_I x1, bb_I x2] T (fun r T2 => z_Y C zc_L_isStep R 122 ls (bb_I r :: []) T2) := Iff.trans (z_Y_at (cd := zc_L_isStep) (pc := 119) (zo_callv 23 3 122) rfl) ((zq_callv_3 (by decide) (by decide)).trans ⟨fun h => h.2, fun h => ⟨Nat.le_of_ble_eq_true rfl, h⟩⟩)
theorem ze_L_isStep_122 {p0 p1 p2 p3 p4 p5 p6 p7 p8 : bb_V} {x : Int32} {q : bb_V} {t : List bb_V} : z_Y C zc_L_isStep R 122 (p0 :: p1 :: p2 :: p3 :: p4 :: p5 :: p6 :: p7 :: p8 :: q :: t) (bb_I x :: st) T ↔ z_Y C zc_L_isStep R 124 (p0 :: p1 :: p2 :: p3 :: p4 :: p5 :: p6 :: p7 :: p8 :: bb_I x :: t) st T := Iff.trans (z_Y_at (cd := zc_L_isStep) (pc := 122) (zo_istore 9 124) rfl) (Iff.of_eq rfl)
theorem ze_L_isStep_124 {p0 p1 p2 p3 p4 p5 p6 p7 p8 : bb_V} {x : Int32} {t : List bb_V} : z_Y C zc_L_isStep R 124 (p0 :: p1 :: p2 :: p3 :: p4 :: p5 :: p6 :: p7 :: p8 :: bb_I x :: t) st T ↔ z_Y C zc_L_isStep R 126 (p0 :: p1 :: p2 :: p3 :: p4 :: p5 :: p6 :: p7 :: p8 :: bb_I x :: t) (bb_I x :: st) T := Iff.trans (z_Y_at (cd := zc_L_isStep) (pc := 124) (zo_iload 9 126) rfl) (Iff.of_eq rfl)
theorem ze_L_isStep_126 {p0 : bb_V} {k j : Nat} {t : List bb_V} : z_Y C zc_L_isStep R 126 (p0 :: bb_R k j :: t) st T ↔ z_Y C zc_L_isStep R 127 (p0 :: bb_R k j :: t) (bb_R k j :: st) T := Iff.trans (z_Y_at (cd := zc_L_isStep) (pc := 126) (zo_aload 1 127) rfl) (Iff.of_eq rfl)
theorem ze_L_isStep_127  : z_Y C zc_L_isStep R 127 ls st T ↔ z_Y C zc_L_isStep R 128 ls (bb_I 3 :: st) T := Iff.trans (z_Y_at (cd := zc_L_isStep) (pc := 127) (zo_const 3 128) rfl) (Iff.of_eq rfl)
theorem ze_L_isStep_128 {p0 p1 p2 p3 p4 : bb_V} {x : Int32} {t : List bb_V} : z_Y C zc_L_isStep R 128 (p0 :: p1 :: p2 :: p3 :: p4 :: bb_I x :: t) st T ↔ z_Y C zc_L_isStep R 130 (p0 :: p1 :: p2 :: p3 :: p4 :: bb_I x :: t) (bb_I x :: st) T := Iff.trans (z_Y_at (cd := zc_L_isStep) (pc := 128) (zo_iload 5 130) rfl) (Iff.of_eq rfl)
theorem ze_L_isStep_130 {a b : Int32} : z_Y C zc_L_isStep R 130 ls (bb_I b :: bb_I a :: st) T ↔ z_Y C zc_L_isStep R 131 ls (bb_I (a - b) :: st) T := Iff.trans (z_Y_at (cd := zc_L_isStep) (pc := 130) (zo_isub 131) rfl) (Iff.of_eq rfl)
theorem ze_L_isStep_131 {p0 p1 p2 p3 p4 p5 p6 p7 : bb_V} {x : Int32} {t : List bb_V} : z_Y C zc_L_isStep R 131 (p0 :: p1 :: p2 :: p3 :: p4 :: p5 :: p6 :: p7 :: bb_I x :: t) st T ↔ z_Y C zc_L_isStep R 133 (p0 :: p1 :: p2 :: p3 :: p4 :: p5 :: p6 :: p7 :: bb_I x :: t) (bb_I x :: st) T := Iff.trans (z_Y_at (cd := zc_L_isStep) (pc := 131) (zo_iload 8 133) rfl) (Iff.of_eq rfl)
theorem ze_L_isStep_133 {x1 : Int32} {x2 : Int32} {z0 : Int32} : z_Y C zc_L_isStep R 133 ls (bb_I x2 :: bb_I x1 :: bb_R 41 0 :: [bb_I z0]) T ↔ z_call C 23 [bb_R 41 0, bb_I x1, bb_I x2] T (fun r T2 => z_Y C zc_L_isStep R 136 ls (bb_I r :: [bb_I z0]) T2) := Iff.trans (z_Y_at (cd := zc_L_isStep) (pc := 133) (zo_callv 23 3 136) rfl) ((zq_callv_3 (by decide) (by decide)).trans ⟨fun h => h.2, fun h => ⟨Nat.le_of_ble_eq_true rfl, h⟩⟩)
theorem ze_L_isStep_136 {a b : Int32} : z_Y C zc_L_isStep R 136 ls (bb_I b :: bb_I a :: st) T ↔ (if a ≠ b then z_Y C zc_L_isStep R 175 ls st T else z_Y C zc_L_isStep R 139 ls st T) := Iff.trans (z_Y_at (cd := zc_L_isStep) (pc := 136) (zo_icne 175 139) rfl) (Iff.of_eq z_do_ite)
theorem ze_L_isStep_139 {p0 p1 p2 p3 p4 p5 p6 p7 p8 : bb_V} {x : Int32} {t : List bb_V} : z_Y C zc_L_isStep R 139 (p0 :: p1 :: p2 :: p3 :: p4 :: p5 :: p6 :: p7 :: p8 :: bb_I x :: t) st T ↔ z_Y C zc_L_isStep R 141 (p0 :: p1 :: p2 :: p3 :: p4 :: p5 :: p6 :: p7 :: p8 :: bb_I x :: t) (bb_I x :: st) T := Iff.trans (z_Y_at (cd := zc_L_isStep) (pc := 139) (zo_iload 9 141) rfl) (Iff.of_eq rfl)
theorem ze_L_isStep_141 {p0 p1 p2 p3 p4 p5 : bb_V} {x : Int32} {t : List bb_V} : z_Y C zc_L_isStep R 141 (p0 :: p1 :: p2 :: p3 :: p4 :: p5 :: bb_I x :: t) st T ↔ z_Y C zc_L_isStep R 143 (p0 :: p1 :: p2 :: p3 :: p4 :: p5 :: bb_I x :: t) (bb_I x :: st) T := Iff.trans (z_Y_at (cd := zc_L_isStep) (pc := 141) (zo_iload 6 143) rfl) (Iff.of_eq rfl)
theorem ze_L_isStep_143  : z_Y C zc_L_isStep R 143 ls st T ↔ z_Y C zc_L_isStep R 145 ls (bb_I 24 :: st) T := Iff.trans (z_Y_at (cd := zc_L_isStep) (pc := 143) (zo_const 24 145) rfl) (Iff.of_eq rfl)
theorem ze_L_isStep_145 {a b : Int32} : z_Y C zc_L_isStep R 145 ls (bb_I b :: bb_I a :: st) T ↔ (if a ≠ b then z_Y C zc_L_isStep R 154 ls st T else z_Y C zc_L_isStep R 148 ls st T) := Iff.trans (z_Y_at (cd := zc_L_isStep) (pc := 145) (zo_icne 154 148) rfl) (Iff.of_eq z_do_ite)
theorem ze_L_isStep_148  : z_Y C zc_L_isStep R 148 ls st T ↔ z_Y C zc_L_isStep R 151 ls (bb_I (-1003) :: st) T := Iff.trans (z_Y_at (cd := zc_L_isStep) (pc := 148) (zo_const (-1003) 151) rfl) (Iff.of_eq rfl)
theorem ze_L_isStep_151  : z_Y C zc_L_isStep R 151 ls st T ↔ z_Y C zc_L_isStep R 158 ls st T := Iff.trans (z_Y_at (cd := zc_L_isStep) (pc := 151) (zo_goto 158) rfl) (Iff.of_eq rfl)
theorem ze_L_isStep_154 {p0 p1 p2 p3 p4 p5 : bb_V} {x : Int32} {t : List bb_V} : z_Y C zc_L_isStep R 154 (p0 :: p1 :: p2 :: p3 :: p4 :: p5 :: bb_I x :: t) st T ↔ z_Y C zc_L_isStep R 156 (p0 :: p1 :: p2 :: p3 :: p4 :: p5 :: bb_I x :: t) (bb_I x :: st) T := Iff.trans (z_Y_at (cd := zc_L_isStep) (pc := 154) (zo_iload 6 156) rfl) (Iff.of_eq rfl)
theorem ze_L_isStep_156  : z_Y C zc_L_isStep R 156 ls st T ↔ z_Y C zc_L_isStep R 157 ls (bb_I 1 :: st) T := Iff.trans (z_Y_at (cd := zc_L_isStep) (pc := 156) (zo_const 1 157) rfl) (Iff.of_eq rfl)
theorem ze_L_isStep_157 {a b : Int32} : z_Y C zc_L_isStep R 157 ls (bb_I b :: bb_I a :: st) T ↔ z_Y C zc_L_isStep R 158 ls (bb_I (a + b) :: st) T := Iff.trans (z_Y_at (cd := zc_L_isStep) (pc := 157) (zo_iadd 158) rfl) (Iff.of_eq rfl)
theorem ze_L_isStep_158 {a b : Int32} : z_Y C zc_L_isStep R 158 ls (bb_I b :: bb_I a :: st) T ↔ (if a ≠ b then z_Y C zc_L_isStep R 175 ls st T else z_Y C zc_L_isStep R 161 ls st T) := Iff.trans (z_Y_at (cd := zc_L_isStep) (pc := 158) (zo_icne 175 161) rfl) (Iff.of_eq z_do_ite)
theorem ze_L_isStep_161 {k j : Nat} {t : List bb_V} : z_Y C zc_L_isStep R 161 (bb_R k j :: t) st T ↔ z_Y C zc_L_isStep R 162 (bb_R k j :: t) (bb_R k j :: st) T := Iff.trans (z_Y_at (cd := zc_L_isStep) (pc := 161) (zo_aload 0 162) rfl) (Iff.of_eq rfl)
theorem ze_L_isStep_162  : z_Y C zc_L_isStep R 162 ls st T ↔ z_Y C zc_L_isStep R 163 ls (bb_I 0 :: st) T := Iff.trans (z_Y_at (cd := zc_L_isStep) (pc := 162) (zo_const 0 163) rfl) (Iff.of_eq rfl)
theorem ze_L_isStep_163 {x1 : Int32} : z_Y C zc_L_isStep R 163 ls (bb_I x1 :: bb_R 40 0 :: []) T ↔ z_call C 34 [bb_R 40 0, bb_I x1] T (fun r T2 => z_Y C zc_L_isStep R 166 ls (bb_I r :: []) T2) := Iff.trans (z_Y_at (cd := zc_L_isStep) (pc := 163) (zo_callv 34 2 166) rfl) ((zq_callv_2 (by decide) (by decide)).trans ⟨fun h => h.2, fun h => ⟨Nat.le_of_ble_eq_true rfl, h⟩⟩)
theorem ze_L_isStep_166 {p0 p1 p2 p3 p4 p5 p6 : bb_V} {x : Int32} {t : List bb_V} : z_Y C zc_L_isStep R 166 (p0 :: p1 :: p2 :: p3 :: p4 :: p5 :: p6 :: bb_I x :: t) st T ↔ z_Y C zc_L_isStep R 168 (p0 :: p1 :: p2 :: p3 :: p4 :: p5 :: p6 :: bb_I x :: t) (bb_I x :: st) T := Iff.trans (z_Y_at (cd := zc_L_isStep) (pc := 166) (zo_iload 7 168) rfl) (Iff.of_eq rfl)
theorem ze_L_isStep_168 {a b : Int32} : z_Y C zc_L_isStep R 168 ls (bb_I b :: bb_I a :: st) T ↔ (if a ≠ b then z_Y C zc_L_isStep R 175 ls st T else z_Y C zc_L_isStep R 171 ls st T) := Iff.trans (z_Y_at (cd := zc_L_isStep) (pc := 168) (zo_icne 175 171) rfl) (Iff.of_eq z_do_ite)
theorem ze_L_isStep_171  : z_Y C zc_L_isStep R 171 ls st T ↔ z_Y C zc_L_isStep R 172 ls (bb_I 1 :: st) T := Iff.trans (z_Y_at (cd := zc_L_isStep) (pc := 171) (zo_const 1 172) rfl) (Iff.of_eq rfl)
theorem ze_L_isStep_172  : z_Y C zc_L_isStep R 172 ls st T ↔ z_Y C zc_L_isStep R 176 ls st T := Iff.trans (z_Y_at (cd := zc_L_isStep) (pc := 172) (zo_goto 176) rfl) (Iff.of_eq rfl)
theorem ze_L_isStep_175  : z_Y C zc_L_isStep R 175 ls st T ↔ z_Y C zc_L_isStep R 176 ls (bb_I 0 :: st) T := Iff.trans (z_Y_at (cd := zc_L_isStep) (pc := 175) (zo_const 0 176) rfl) (Iff.of_eq rfl)
theorem ze_L_isStep_176 {v : Int32} : z_Y C zc_L_isStep R 176 ls [bb_I v] T ↔ ((v = 0 ∨ v = 1) ∧ R v T) := Iff.trans (z_Y_at (cd := zc_L_isStep) (pc := 176) (zo_zret) rfl) (zq_zret)
theorem ze_L_isStep_177 {p0 p1 p2 : bb_V} {x : Int32} {t : List bb_V} : z_Y C zc_L_isStep R 177 (p0 :: p1 :: p2 :: bb_I x :: t) st T ↔ z_Y C zc_L_isStep R 178 (p0 :: p1 :: p2 :: bb_I x :: t) (bb_I x :: st) T := Iff.trans (z_Y_at (cd := zc_L_isStep) (pc := 177) (zo_iload 3 178) rfl) (Iff.of_eq rfl)
theorem ze_L_isStep_178  : z_Y C zc_L_isStep R 178 ls st T ↔ z_Y C zc_L_isStep R 179 ls (bb_I 3 :: st) T := Iff.trans (z_Y_at (cd := zc_L_isStep) (pc := 178) (zo_const 3 179) rfl) (Iff.of_eq rfl)
theorem ze_L_isStep_179 {x0 : Int32} {x1 : Int32} : z_Y C zc_L_isStep R 179 ls (bb_I x1 :: bb_I x0 :: []) T ↔ z_call C 1 [bb_I x0, bb_I x1] T (fun r T2 => z_Y C zc_L_isStep R 182 ls (bb_I r :: []) T2) := Iff.trans (z_Y_at (cd := zc_L_isStep) (pc := 179) (zo_call 1 2 182) rfl) ((zq_call_2 (by decide)).trans ⟨fun h => h.2, fun h => ⟨⟨Nat.le_of_ble_eq_true rfl, rfl⟩, h⟩⟩)
theorem ze_L_isStep_182 {a : Int32} : z_Y C zc_L_isStep R 182 ls (bb_I a :: st) T ↔ (if a ≠ 0 then z_Y C zc_L_isStep R 196 ls st T else z_Y C zc_L_isStep R 185 ls st T) := Iff.trans (z_Y_at (cd := zc_L_isStep) (pc := 182) (zo_ifne 196 185) rfl) (Iff.of_eq z_do_ite)
theorem ze_L_isStep_185 {p0 p1 p2 : bb_V} {x : Int32} {t : List bb_V} : z_Y C zc_L_isStep R 185 (p0 :: p1 :: p2 :: bb_I x :: t) st T ↔ z_Y C zc_L_isStep R 186 (p0 :: p1 :: p2 :: bb_I x :: t) (bb_I x :: st) T := Iff.trans (z_Y_at (cd := zc_L_isStep) (pc := 185) (zo_iload 3 186) rfl) (Iff.of_eq rfl)
theorem ze_L_isStep_186  : z_Y C zc_L_isStep R 186 ls st T ↔ z_Y C zc_L_isStep R 187 ls (bb_I 2 :: st) T := Iff.trans (z_Y_at (cd := zc_L_isStep) (pc := 186) (zo_const 2 187) rfl) (Iff.of_eq rfl)
theorem ze_L_isStep_187 {a b : Int32} : z_Y C zc_L_isStep R 187 ls (bb_I b :: bb_I a :: st) T ↔ z_Y C zc_L_isStep R 188 ls (bb_I (a >>> (b &&& 31)) :: st) T := Iff.trans (z_Y_at (cd := zc_L_isStep) (pc := 187) (zo_ishr 188) rfl) (Iff.of_eq rfl)
theorem ze_L_isStep_188  : z_Y C zc_L_isStep R 188 ls st T ↔ z_Y C zc_L_isStep R 190 ls (bb_I 31 :: st) T := Iff.trans (z_Y_at (cd := zc_L_isStep) (pc := 188) (zo_const 31 190) rfl) (Iff.of_eq rfl)
theorem ze_L_isStep_190 {x0 : Int32} {x1 : Int32} : z_Y C zc_L_isStep R 190 ls (bb_I x1 :: bb_I x0 :: []) T ↔ z_call C 1 [bb_I x0, bb_I x1] T (fun r T2 => z_Y C zc_L_isStep R 193 ls (bb_I r :: []) T2) := Iff.trans (z_Y_at (cd := zc_L_isStep) (pc := 190) (zo_call 1 2 193) rfl) ((zq_call_2 (by decide)).trans ⟨fun h => h.2, fun h => ⟨⟨Nat.le_of_ble_eq_true rfl, rfl⟩, h⟩⟩)
theorem ze_L_isStep_193  : z_Y C zc_L_isStep R 193 ls st T ↔ z_Y C zc_L_isStep R 197 ls st T := Iff.trans (z_Y_at (cd := zc_L_isStep) (pc := 193) (zo_goto 197) rfl) (Iff.of_eq rfl)
theorem ze_L_isStep_196  : z_Y C zc_L_isStep R 196 ls st T ↔ z_Y C zc_L_isStep R 197 ls (bb_I 0 :: st) T := Iff.trans (z_Y_at (cd := zc_L_isStep) (pc := 196) (zo_const 0 197) rfl) (Iff.of_eq rfl)
theorem ze_L_isStep_197 {p0 p1 p2 p3 p4 p5 p6 p7 : bb_V} {x : Int32} {q : bb_V} {t : List bb_V} : z_Y C zc_L_isStep R 197 (p0 :: p1 :: p2 :: p3 :: p4 :: p5 :: p6 :: p7 :: q :: t) (bb_I x :: st) T ↔ z_Y C zc_L_isStep R 199 (p0 :: p1 :: p2 :: p3 :: p4 :: p5 :: p6 :: p7 :: bb_I x :: t) st T := Iff.trans (z_Y_at (cd := zc_L_isStep) (pc := 197) (zo_istore 8 199) rfl) (Iff.of_eq rfl)
theorem ze_L_isStep_199 {k j : Nat} {t : List bb_V} : z_Y C zc_L_isStep R 199 (bb_R k j :: t) st T ↔ z_Y C zc_L_isStep R 200 (bb_R k j :: t) (bb_R k j :: st) T := Iff.trans (z_Y_at (cd := zc_L_isStep) (pc := 199) (zo_aload 0 200) rfl) (Iff.of_eq rfl)
theorem ze_L_isStep_200  : z_Y C zc_L_isStep R 200 ls st T ↔ z_Y C zc_L_isStep R 202 ls (bb_I 6 :: st) T := Iff.trans (z_Y_at (cd := zc_L_isStep) (pc := 200) (zo_const 6 202) rfl) (Iff.of_eq rfl)
theorem ze_L_isStep_202 {x1 : Int32} : z_Y C zc_L_isStep R 202 ls (bb_I x1 :: bb_R 40 0 :: []) T ↔ z_call C 34 [bb_R 40 0, bb_I x1] T (fun r T2 => z_Y C zc_L_isStep R 205 ls (bb_I r :: []) T2) := Iff.trans (z_Y_at (cd := zc_L_isStep) (pc := 202) (zo_callv 34 2 205) rfl) ((zq_callv_2 (by decide) (by decide)).trans ⟨fun h => h.2, fun h => ⟨Nat.le_of_ble_eq_true rfl, h⟩⟩)
theorem ze_L_isStep_205 {p0 p1 p2 p3 p4 p5 p6 p7 p8 : bb_V} {x : Int32} {q : bb_V} {t : List bb_V} : z_Y C zc_L_isStep R 205 (p0 :: p1 :: p2 :: p3 :: p4 :: p5 :: p6 :: p7 :: p8 :: q :: t) (bb_I x :: st) T ↔ z_Y C zc_L_isStep R 207 (p0 :: p1 :: p2 :: p3 :: p4 :: p5 :: p6 :: p7 :: p8 :: bb_I x :: t) st T := Iff.trans (z_Y_at (cd := zc_L_isStep) (pc := 205) (zo_istore 9 207) rfl) (Iff.of_eq rfl)
theorem ze_L_isStep_207 {k j : Nat} {t : List bb_V} : z_Y C zc_L_isStep R 207 (bb_R k j :: t) st T ↔ z_Y C zc_L_isStep R 208 (bb_R k j :: t) (bb_R k j :: st) T := Iff.trans (z_Y_at (cd := zc_L_isStep) (pc := 207) (zo_aload 0 208) rfl) (Iff.of_eq rfl)
theorem ze_L_isStep_208  : z_Y C zc_L_isStep R 208 ls st T ↔ z_Y C zc_L_isStep R 209 ls (bb_I 5 :: st) T := Iff.trans (z_Y_at (cd := zc_L_isStep) (pc := 208) (zo_const 5 209) rfl) (Iff.of_eq rfl)
theorem ze_L_isStep_209 {x1 : Int32} : z_Y C zc_L_isStep R 209 ls (bb_I x1 :: bb_R 40 0 :: []) T ↔ z_call C 34 [bb_R 40 0, bb_I x1] T (fun r T2 => z_Y C zc_L_isStep R 212 ls (bb_I r :: []) T2) := Iff.trans (z_Y_at (cd := zc_L_isStep) (pc := 209) (zo_callv 34 2 212) rfl) ((zq_callv_2 (by decide) (by decide)).trans ⟨fun h => h.2, fun h => ⟨Nat.le_of_ble_eq_true rfl, h⟩⟩)
theorem ze_L_isStep_212 {p0 p1 p2 p3 p4 p5 p6 p7 p8 p9 : bb_V} {x : Int32} {q : bb_V} {t : List bb_V} : z_Y C zc_L_isStep R 212 (p0 :: p1 :: p2 :: p3 :: p4 :: p5 :: p6 :: p7 :: p8 :: p9 :: q :: t) (bb_I x :: st) T ↔ z_Y C zc_L_isStep R 214 (p0 :: p1 :: p2 :: p3 :: p4 :: p5 :: p6 :: p7 :: p8 :: p9 :: bb_I x :: t) st T := Iff.trans (z_Y_at (cd := zc_L_isStep) (pc := 212) (zo_istore 10 214) rfl) (Iff.of_eq rfl)
theorem ze_L_isStep_214 {k j : Nat} {t : List bb_V} : z_Y C zc_L_isStep R 214 (bb_R k j :: t) st T ↔ z_Y C zc_L_isStep R 215 (bb_R k j :: t) (bb_R k j :: st) T := Iff.trans (z_Y_at (cd := zc_L_isStep) (pc := 214) (zo_aload 0 215) rfl) (Iff.of_eq rfl)
theorem ze_L_isStep_215 {p0 p1 p2 p3 p4 p5 p6 p7 : bb_V} {x : Int32} {t : List bb_V} : z_Y C zc_L_isStep R 215 (p0 :: p1 :: p2 :: p3 :: p4 :: p5 :: p6 :: p7 :: bb_I x :: t) st T ↔ z_Y C zc_L_isStep R 217 (p0 :: p1 :: p2 :: p3 :: p4 :: p5 :: p6 :: p7 :: bb_I x :: t) (bb_I x :: st) T := Iff.trans (z_Y_at (cd := zc_L_isStep) (pc := 215) (zo_iload 8 217) rfl) (Iff.of_eq rfl)
theorem ze_L_isStep_217 {x1 : Int32} : z_Y C zc_L_isStep R 217 ls (bb_I x1 :: bb_R 40 0 :: []) T ↔ z_call C 25 [bb_R 40 0, bb_I x1] T (fun r T2 => z_Y C zc_L_isStep R 220 ls (bb_I r :: []) T2) := Iff.trans (z_Y_at (cd := zc_L_isStep) (pc := 217) (zo_callv 25 2 220) rfl) ((zq_callv_2 (by decide) (by decide)).trans ⟨fun h => h.2, fun h => ⟨Nat.le_of_ble_eq_true rfl, h⟩⟩)
theorem ze_L_isStep_220 {p0 p1 p2 p3 p4 p5 p6 p7 p8 p9 p10 : bb_V} {x : Int32} {q : bb_V} {t : List bb_V} : z_Y C zc_L_isStep R 220 (p0 :: p1 :: p2 :: p3 :: p4 :: p5 :: p6 :: p7 :: p8 :: p9 :: p10 :: q :: t) (bb_I x :: st) T ↔ z_Y C zc_L_isStep R 222 (p0 :: p1 :: p2 :: p3 :: p4 :: p5 :: p6 :: p7 :: p8 :: p9 :: p10 :: bb_I x :: t) st T := Iff.trans (z_Y_at (cd := zc_L_isStep) (pc := 220) (zo_istore 11 222) rfl) (Iff.of_eq rfl)
theorem ze_L_isStep_222 {p0 p1 p2 p3 p4 p5 p6 p7 p8 p9 p10 : bb_V} {x : Int32} {t : List bb_V} : z_Y C zc_L_isStep R 222 (p0 :: p1 :: p2 :: p3 :: p4 :: p5 :: p6 :: p7 :: p8 :: p9 :: p10 :: bb_I x :: t) st T ↔ z_Y C zc_L_isStep R 224 (p0 :: p1 :: p2 :: p3 :: p4 :: p5 :: p6 :: p7 :: p8 :: p9 :: p10 :: bb_I x :: t) (bb_I x :: st) T := Iff.trans (z_Y_at (cd := zc_L_isStep) (pc := 222) (zo_iload 11 224) rfl) (Iff.of_eq rfl)
theorem ze_L_isStep_224 {p0 : bb_V} {k j : Nat} {t : List bb_V} : z_Y C zc_L_isStep R 224 (p0 :: bb_R k j :: t) st T ↔ z_Y C zc_L_isStep R 225 (p0 :: bb_R k j :: t) (bb_R k j :: st) T := Iff.trans (z_Y_at (cd := zc_L_isStep) (pc := 224) (zo_aload 1 225) rfl) (Iff.of_eq rfl)
theorem ze_L_isStep_225 {p0 p1 p2 p3 p4 p5 p6 p7 : bb_V} {x : Int32} {t : List bb_V} : z_Y C zc_L_isStep R 225 (p0 :: p1 :: p2 :: p3 :: p4 :: p5 :: p6 :: p7 :: bb_I x :: t) st T ↔ z_Y C zc_L_isStep R 227 (p0 :: p1 :: p2 :: p3 :: p4 :: p5 :: p6 :: p7 :: bb_I x :: t) (bb_I x :: st) T := Iff.trans (z_Y_at (cd := zc_L_isStep) (pc := 225) (zo_iload 8 227) rfl) (Iff.of_eq rfl)
theorem ze_L_isStep_227 {x1 : Int32} {z0 : Int32} : z_Y C zc_L_isStep R 227 ls (bb_I x1 :: bb_R 41 0 :: [bb_I z0]) T ↔ z_call C 25 [bb_R 41 0, bb_I x1] T (fun r T2 => z_Y C zc_L_isStep R 230 ls (bb_I r :: [bb_I z0]) T2) := Iff.trans (z_Y_at (cd := zc_L_isStep) (pc := 227) (zo_callv 25 2 230) rfl) ((zq_callv_2 (by decide) (by decide)).trans ⟨fun h => h.2, fun h => ⟨Nat.le_of_ble_eq_true rfl, h⟩⟩)
theorem ze_L_isStep_230 {a b : Int32} : z_Y C zc_L_isStep R 230 ls (bb_I b :: bb_I a :: st) T ↔ (if a ≠ b then z_Y C zc_L_isStep R 308 ls st T else z_Y C zc_L_isStep R 233 ls st T) := Iff.trans (z_Y_at (cd := zc_L_isStep) (pc := 230) (zo_icne 308 233) rfl) (Iff.of_eq z_do_ite)
theorem ze_L_isStep_233 {p0 p1 p2 p3 p4 p5 : bb_V} {x : Int32} {t : List bb_V} : z_Y C zc_L_isStep R 233 (p0 :: p1 :: p2 :: p3 :: p4 :: p5 :: bb_I x :: t) st T ↔ z_Y C zc_L_isStep R 235 (p0 :: p1 :: p2 :: p3 :: p4 :: p5 :: bb_I x :: t) (bb_I x :: st) T := Iff.trans (z_Y_at (cd := zc_L_isStep) (pc := 233) (zo_iload 6 235) rfl) (Iff.of_eq rfl)
theorem ze_L_isStep_235 {a : Int32} : z_Y C zc_L_isStep R 235 ls (bb_I a :: st) T ↔ (if a ≠ 0 then z_Y C zc_L_isStep R 249 ls st T else z_Y C zc_L_isStep R 238 ls st T) := Iff.trans (z_Y_at (cd := zc_L_isStep) (pc := 235) (zo_ifne 249 238) rfl) (Iff.of_eq z_do_ite)
theorem ze_L_isStep_238 {p0 p1 p2 p3 p4 p5 p6 p7 p8 p9 p10 : bb_V} {x : Int32} {t : List bb_V} : z_Y C zc_L_isStep R 238 (p0 :: p1 :: p2 :: p3 :: p4 :: p5 :: p6 :: p7 :: p8 :: p9 :: p10 :: bb_I x :: t) st T ↔ z_Y C zc_L_isStep R 240 (p0 :: p1 :: p2 :: p3 :: p4 :: p5 :: p6 :: p7 :: p8 :: p9 :: p10 :: bb_I x :: t) (bb_I x :: st) T := Iff.trans (z_Y_at (cd := zc_L_isStep) (pc := 238) (zo_iload 11 240) rfl) (Iff.of_eq rfl)
theorem ze_L_isStep_240  : z_Y C zc_L_isStep R 240 ls st T ↔ z_Y C zc_L_isStep R 243 ls (bb_I (-1005) :: st) T := Iff.trans (z_Y_at (cd := zc_L_isStep) (pc := 240) (zo_const (-1005) 243) rfl) (Iff.of_eq rfl)
theorem ze_L_isStep_243 {a b : Int32} : z_Y C zc_L_isStep R 243 ls (bb_I b :: bb_I a :: st) T ↔ (if a ≠ b then z_Y C zc_L_isStep R 308 ls st T else z_Y C zc_L_isStep R 246 ls st T) := Iff.trans (z_Y_at (cd := zc_L_isStep) (pc := 243) (zo_icne 308 246) rfl) (Iff.of_eq z_do_ite)
theorem ze_L_isStep_246  : z_Y C zc_L_isStep R 246 ls st T ↔ z_Y C zc_L_isStep R 297 ls st T := Iff.trans (z_Y_at (cd := zc_L_isStep) (pc := 246) (zo_goto 297) rfl) (Iff.of_eq rfl)
theorem ze_L_isStep_249 {p0 p1 p2 p3 p4 p5 p6 p7 p8 p9 p10 : bb_V} {x : Int32} {t : List bb_V} : z_Y C zc_L_isStep R 249 (p0 :: p1 :: p2 :: p3 :: p4 :: p5 :: p6 :: p7 :: p8 :: p9 :: p10 :: bb_I x :: t) st T ↔ z_Y C zc_L_isStep R 251 (p0 :: p1 :: p2 :: p3 :: p4 :: p5 :: p6 :: p7 :: p8 :: p9 :: p10 :: bb_I x :: t) (bb_I x :: st) T := Iff.trans (z_Y_at (cd := zc_L_isStep) (pc := 249) (zo_iload 11 251) rfl) (Iff.of_eq rfl)
theorem ze_L_isStep_251 {k j : Nat} {t : List bb_V} : z_Y C zc_L_isStep R 251 (bb_R k j :: t) st T ↔ z_Y C zc_L_isStep R 252 (bb_R k j :: t) (bb_R k j :: st) T := Iff.trans (z_Y_at (cd := zc_L_isStep) (pc := 251) (zo_aload 0 252) rfl) (Iff.of_eq rfl)
theorem ze_L_isStep_252  : z_Y C zc_L_isStep R 252 ls st T ↔ z_Y C zc_L_isStep R 254 ls (bb_I 6 :: st) T := Iff.trans (z_Y_at (cd := zc_L_isStep) (pc := 252) (zo_const 6 254) rfl) (Iff.of_eq rfl)
theorem ze_L_isStep_254 {x1 : Int32} {z0 : Int32} : z_Y C zc_L_isStep R 254 ls (bb_I x1 :: bb_R 40 0 :: [bb_I z0]) T ↔ z_call C 34 [bb_R 40 0, bb_I x1] T (fun r T2 => z_Y C zc_L_isStep R 257 ls (bb_I r :: [bb_I z0]) T2) := Iff.trans (z_Y_at (cd := zc_L_isStep) (pc := 254) (zo_callv 34 2 257) rfl) ((zq_callv_2 (by decide) (by decide)).trans ⟨fun h => h.2, fun h => ⟨Nat.le_of_ble_eq_true rfl, h⟩⟩)
theorem ze_L_isStep_257 {p0 p1 p2 p3 p4 p5 p6 p7 p8 : bb_V} {x : Int32} {t : List bb_V} : z_Y C zc_L_isStep R 257 (p0 :: p1 :: p2 :: p3 :: p4 :: p5 :: p6 :: p7 :: p8 :: bb_I x :: t) st T ↔ z_Y C zc_L_isStep R 259 (p0 :: p1 :: p2 :: p3 :: p4 :: p5 :: p6 :: p7 :: p8 :: bb_I x :: t) (bb_I x :: st) T := Iff.trans (z_Y_at (cd := zc_L_isStep) (pc := 257) (zo_iload 9 259) rfl) (Iff.of_eq rfl)
theorem ze_L_isStep_259 {a b : Int32} : z_Y C zc_L_isStep R 259 ls (bb_I b :: bb_I a :: st) T ↔ z_Y C zc_L_isStep R 260 ls (bb_I (a - b) :: st) T := Iff.trans (z_Y_at (cd := zc_L_isStep) (pc := 259) (zo_isub 260) rfl) (Iff.of_eq rfl)
theorem ze_L_isStep_260 {a b : Int32} : z_Y C zc_L_isStep R 260 ls (bb_I b :: bb_I a :: st) T ↔ (if a ≠ b then z_Y C zc_L_isStep R 308 ls st T else z_Y C zc_L_isStep R 263 ls st T) := Iff.trans (z_Y_at (cd := zc_L_isStep) (pc := 260) (zo_icne 308 263) rfl) (Iff.of_eq z_do_ite)
theorem ze_L_isStep_263 {k j : Nat} {t : List bb_V} : z_Y C zc_L_isStep R 263 (bb_R k j :: t) st T ↔ z_Y C zc_L_isStep R 264 (bb_R k j :: t) (bb_R k j :: st) T := Iff.trans (z_Y_at (cd := zc_L_isStep) (pc := 263) (zo_aload 0 264) rfl) (Iff.of_eq rfl)
theorem ze_L_isStep_264  : z_Y C zc_L_isStep R 264 ls st T ↔ z_Y C zc_L_isStep R 265 ls (bb_I 5 :: st) T := Iff.trans (z_Y_at (cd := zc_L_isStep) (pc := 264) (zo_const 5 265) rfl) (Iff.of_eq rfl)
theorem ze_L_isStep_265 {x1 : Int32} : z_Y C zc_L_isStep R 265 ls (bb_I x1 :: bb_R 40 0 :: []) T ↔ z_call C 34 [bb_R 40 0, bb_I x1] T (fun r T2 => z_Y C zc_L_isStep R 268 ls (bb_I r :: []) T2) := Iff.trans (z_Y_at (cd := zc_L_isStep) (pc := 265) (zo_callv 34 2 268) rfl) ((zq_callv_2 (by decide) (by decide)).trans ⟨fun h => h.2, fun h => ⟨Nat.le_of_ble_eq_true rfl, h⟩⟩)
theorem ze_L_isStep_268 {p0 p1 p2 p3 p4 p5 p6 p7 p8 p9 : bb_V} {x : Int32} {t : List bb_V} : z_Y C zc_L_isStep R 268 (p0 :: p1 :: p2 :: p3 :: p4 :: p5 :: p6 :: p7 :: p8 :: p9 :: bb_I x :: t) st T ↔ z_Y C zc_L_isStep R 270 (p0 :: p1 :: p2 :: p3 :: p4 :: p5 :: p6 :: p7 :: p8 :: p9 :: bb_I x :: t) (bb_I x :: st) T := Iff.trans (z_Y_at (cd := zc_L_isStep) (pc := 268) (zo_iload 10 270) rfl) (Iff.of_eq rfl)
theorem ze_L_isStep_270 {p0 p1 p2 p3 p4 p5 : bb_V} {x : Int32} {t : List bb_V} : z_Y C zc_L_isStep R 270 (p0 :: p1 :: p2 :: p3 :: p4 :: p5 :: bb_I x :: t) st T ↔ z_Y C zc_L_isStep R 272 (p0 :: p1 :: p2 :: p3 :: p4 :: p5 :: bb_I x :: t) (bb_I x :: st) T := Iff.trans (z_Y_at (cd := zc_L_isStep) (pc := 270) (zo_iload 6 272) rfl) (Iff.of_eq rfl)
theorem ze_L_isStep_272 {a b : Int32} : z_Y C zc_L_isStep R 272 ls (bb_I b :: bb_I a :: st) T ↔ z_Y C zc_L_isStep R 273 ls (bb_I (a + b) :: st) T := Iff.trans (z_Y_at (cd := zc_L_isStep) (pc := 272) (zo_iadd 273) rfl) (Iff.of_eq rfl)
theorem ze_L_isStep_273 {a b : Int32} : z_Y C zc_L_isStep R 273 ls (bb_I b :: bb_I a :: st) T ↔ (if a ≠ b then z_Y C zc_L_isStep R 308 ls st T else z_Y C zc_L_isStep R 276 ls st T) := Iff.trans (z_Y_at (cd := zc_L_isStep) (pc := 273) (zo_icne 308 276) rfl) (Iff.of_eq z_do_ite)
theorem ze_L_isStep_276 {k j : Nat} {t : List bb_V} : z_Y C zc_L_isStep R 276 (bb_R k j :: t) st T ↔ z_Y C zc_L_isStep R 277 (bb_R k j :: t) (bb_R k j :: st) T := Iff.trans (z_Y_at (cd := zc_L_isStep) (pc := 276) (zo_aload 0 277) rfl) (Iff.of_eq rfl)
theorem ze_L_isStep_277  : z_Y C zc_L_isStep R 277 ls st T ↔ z_Y C zc_L_isStep R 279 ls (bb_I 9 :: st) T := Iff.trans (z_Y_at (cd := zc_L_isStep) (pc := 277) (zo_const 9 279) rfl) (Iff.of_eq rfl)
theorem ze_L_isStep_279 {x1 : Int32} : z_Y C zc_L_isStep R 279 ls (bb_I x1 :: bb_R 40 0 :: []) T ↔ z_call C 34 [bb_R 40 0, bb_I x1] T (fun r T2 => z_Y C zc_L_isStep R 282 ls (bb_I r :: []) T2) := Iff.trans (z_Y_at (cd := zc_L_isStep) (pc := 279) (zo_callv 34 2 282) rfl) ((zq_callv_2 (by decide) (by decide)).trans ⟨fun h => h.2, fun h => ⟨Nat.le_of_ble_eq_true rfl, h⟩⟩)
theorem ze_L_isStep_282 {a : Int32} : z_Y C zc_L_isStep R 282 ls (bb_I a :: st) T ↔ (if a ≠ 0 then z_Y C zc_L_isStep R 308 ls st T else z_Y C zc_L_isStep R 285 ls st T) := Iff.trans (z_Y_at (cd := zc_L_isStep) (pc := 282) (zo_ifne 308 285) rfl) (Iff.of_eq z_do_ite)
theorem ze_L_isStep_285 {k j : Nat} {t : List bb_V} : z_Y C zc_L_isStep R 285 (bb_R k j :: t) st T ↔ z_Y C zc_L_isStep R 286 (bb_R k j :: t) (bb_R k j :: st) T := Iff.trans (z_Y_at (cd := zc_L_isStep) (pc := 285) (zo_aload 0 286) rfl) (Iff.of_eq rfl)
theorem ze_L_isStep_286 {p0 : bb_V} {k j : Nat} {t : List bb_V} : z_Y C zc_L_isStep R 286 (p0 :: bb_R k j :: t) st T ↔ z_Y C zc_L_isStep R 287 (p0 :: bb_R k j :: t) (bb_R k j :: st) T := Iff.trans (z_Y_at (cd := zc_L_isStep) (pc := 286) (zo_aload 1 287) rfl) (Iff.of_eq rfl)
theorem ze_L_isStep_287 {p0 p1 p2 p3 p4 p5 : bb_V} {x : Int32} {t : List bb_V} : z_Y C zc_L_isStep R 287 (p0 :: p1 :: p2 :: p3 :: p4 :: p5 :: bb_I x :: t) st T ↔ z_Y C zc_L_isStep R 289 (p0 :: p1 :: p2 :: p3 :: p4 :: p5 :: bb_I x :: t) (bb_I x :: st) T := Iff.trans (z_Y_at (cd := zc_L_isStep) (pc := 287) (zo_iload 6 289) rfl) (Iff.of_eq rfl)
theorem ze_L_isStep_289 {p0 p1 p2 p3 p4 p5 p6 p7 p8 p9 p10 : bb_V} {x : Int32} {t : List bb_V} : z_Y C zc_L_isStep R 289 (p0 :: p1 :: p2 :: p3 :: p4 :: p5 :: p6 :: p7 :: p8 :: p9 :: p10 :: bb_I x :: t) st T ↔ z_Y C zc_L_isStep R 291 (p0 :: p1 :: p2 :: p3 :: p4 :: p5 :: p6 :: p7 :: p8 :: p9 :: p10 :: bb_I x :: t) (bb_I x :: st) T := Iff.trans (z_Y_at (cd := zc_L_isStep) (pc := 289) (zo_iload 11 291) rfl) (Iff.of_eq rfl)
theorem ze_L_isStep_291 {x2 : Int32} {x3 : Int32} : z_Y C zc_L_isStep R 291 ls (bb_I x3 :: bb_I x2 :: bb_R 41 0 :: bb_R 40 0 :: []) T ↔ z_call C 5 [bb_R 40 0, bb_R 41 0, bb_I x2, bb_I x3] T (fun r T2 => z_Y C zc_L_isStep R 294 ls (bb_I r :: []) T2) := Iff.trans (z_Y_at (cd := zc_L_isStep) (pc := 291) (zo_call 5 4 294) rfl) ((zq_call_4 (by decide)).trans ⟨fun h => h.2, fun h => ⟨⟨Nat.le_of_ble_eq_true rfl, rfl⟩, h⟩⟩)
theorem ze_L_isStep_294 {a : Int32} : z_Y C zc_L_isStep R 294 ls (bb_I a :: st) T ↔ (if a = 0 then z_Y C zc_L_isStep R 308 ls st T else z_Y C zc_L_isStep R 297 ls st T) := Iff.trans (z_Y_at (cd := zc_L_isStep) (pc := 294) (zo_ifeq 308 297) rfl) (Iff.of_eq z_do_ite)
theorem ze_L_isStep_297 {k j : Nat} {t : List bb_V} : z_Y C zc_L_isStep R 297 (bb_R k j :: t) st T ↔ z_Y C zc_L_isStep R 298 (bb_R k j :: t) (bb_R k j :: st) T := Iff.trans (z_Y_at (cd := zc_L_isStep) (pc := 297) (zo_aload 0 298) rfl) (Iff.of_eq rfl)
theorem ze_L_isStep_298  : z_Y C zc_L_isStep R 298 ls (bb_R 40 0 :: []) T ↔ z_call C 4 [bb_R 40 0] T (fun r T2 => z_Y C zc_L_isStep R 301 ls (bb_I r :: []) T2) := Iff.trans (z_Y_at (cd := zc_L_isStep) (pc := 298) (zo_call 4 1 301) rfl) ((zq_call_1 (by decide)).trans ⟨fun h => h.2, fun h => ⟨⟨Nat.le_of_ble_eq_true rfl, rfl⟩, h⟩⟩)
theorem ze_L_isStep_301 {a : Int32} : z_Y C zc_L_isStep R 301 ls (bb_I a :: st) T ↔ (if a = 0 then z_Y C zc_L_isStep R 308 ls st T else z_Y C zc_L_isStep R 304 ls st T) := Iff.trans (z_Y_at (cd := zc_L_isStep) (pc := 301) (zo_ifeq 308 304) rfl) (Iff.of_eq z_do_ite)
theorem ze_L_isStep_304  : z_Y C zc_L_isStep R 304 ls st T ↔ z_Y C zc_L_isStep R 305 ls (bb_I 1 :: st) T := Iff.trans (z_Y_at (cd := zc_L_isStep) (pc := 304) (zo_const 1 305) rfl) (Iff.of_eq rfl)
set_option maxRecDepth 20000 in
theorem ze_L_isStep_305  : z_Y C zc_L_isStep R 305 ls st T ↔ z_Y C zc_L_isStep R 309 ls st T := Iff.trans (z_Y_at (cd := zc_L_isStep) (pc := 305) (zo_goto 309) rfl) (Iff.of_eq rfl)
set_option maxRecDepth 20000 in
theorem ze_L_isStep_308  : z_Y C zc_L_isStep R 308 ls st T ↔ z_Y C zc_L_isStep R 309 ls (bb_I 0 :: st) T := Iff.trans (z_Y_at (cd := zc_L_isStep) (pc := 308) (zo_const 0 309) rfl) (Iff.of_eq rfl)
set_option maxRecDepth 20000 in
theorem ze_L_isStep_309 {v : Int32} : z_Y C zc_L_isStep R 309 ls [bb_I v] T ↔ ((v = 0 ∨ v = 1) ∧ R v T) := Iff.trans (z_Y_at (cd := zc_L_isStep) (pc := 309) (zo_zret) rfl) (zq_zret)
set_option maxRecDepth 20000 in
theorem ze_L_isStep_310 {p0 p1 p2 p3 : bb_V} {x : Int32} {t : List bb_V} : z_Y C zc_L_isStep R 310 (p0 :: p1 :: p2 :: p3 :: bb_I x :: t) st T ↔ z_Y C zc_L_isStep R 312 (p0 :: p1 :: p2 :: p3 :: bb_I x :: t) (bb_I x :: st) T := Iff.trans (z_Y_at (cd := zc_L_isStep) (pc := 310) (zo_iload 4 312) rfl) (Iff.of_eq rfl)
set_option maxRecDepth 20000 in
theorem ze_L_isStep_312  : z_Y C zc_L_isStep R 312 ls st T ↔ z_Y C zc_L_isStep R 313 ls (bb_I 2 :: st) T := Iff.trans (z_Y_at (cd := zc_L_isStep) (pc := 312) (zo_const 2 313) rfl) (Iff.of_eq rfl)
set_option maxRecDepth 20000 in
theorem ze_L_isStep_313 {a b : Int32} : z_Y C zc_L_isStep R 313 ls (bb_I b :: bb_I a :: st) T ↔ z_Y C zc_L_isStep R 314 ls (bb_I (a >>> (b &&& 31)) :: st) T := Iff.trans (z_Y_at (cd := zc_L_isStep) (pc := 313) (zo_ishr 314) rfl) (Iff.of_eq rfl)
set_option maxRecDepth 20000 in
theorem ze_L_isStep_314  : z_Y C zc_L_isStep R 314 ls st T ↔ z_Y C zc_L_isStep R 316 ls (bb_I 20 :: st) T := Iff.trans (z_Y_at (cd := zc_L_isStep) (pc := 314) (zo_const 20 316) rfl) (Iff.of_eq rfl)
set_option maxRecDepth 20000 in
theorem ze_L_isStep_316 {x0 : Int32} {x1 : Int32} : z_Y C zc_L_isStep R 316 ls (bb_I x1 :: bb_I x0 :: []) T ↔ z_call C 1 [bb_I x0, bb_I x1] T (fun r T2 => z_Y C zc_L_isStep R 319 ls (bb_I r :: []) T2) := Iff.trans (z_Y_at (cd := zc_L_isStep) (pc := 316) (zo_call 1 2 319) rfl) ((zq_call_2 (by decide)).trans ⟨fun h => h.2, fun h => ⟨⟨Nat.le_of_ble_eq_true rfl, rfl⟩, h⟩⟩)
set_option maxRecDepth 20000 in
theorem ze_L_isStep_319 {p0 p1 p2 p3 p4 p5 p6 p7 : bb_V} {x : Int32} {q : bb_V} {t : List bb_V} : z_Y C zc_L_isStep R 319 (p0 :: p1 :: p2 :: p3 :: p4 :: p5 :: p6 :: p7 :: q :: t) (bb_I x :: st) T ↔ z_Y C zc_L_isStep R 321 (p0 :: p1 :: p2 :: p3 :: p4 :: p5 :: p6 :: p7 :: bb_I x :: t) st T := Iff.trans (z_Y_at (cd := zc_L_isStep) (pc := 319) (zo_istore 8 321) rfl) (Iff.of_eq rfl)
set_option maxRecDepth 20000 in
theorem ze_L_isStep_321 {k j : Nat} {t : List bb_V} : z_Y C zc_L_isStep R 321 (bb_R k j :: t) st T ↔ z_Y C zc_L_isStep R 322 (bb_R k j :: t) (bb_R k j :: st) T := Iff.trans (z_Y_at (cd := zc_L_isStep) (pc := 321) (zo_aload 0 322) rfl) (Iff.of_eq rfl)
set_option maxRecDepth 20000 in
theorem ze_L_isStep_322 {p0 p1 p2 p3 p4 : bb_V} {x : Int32} {t : List bb_V} : z_Y C zc_L_isStep R 322 (p0 :: p1 :: p2 :: p3 :: p4 :: bb_I x :: t) st T ↔ z_Y C zc_L_isStep R 324 (p0 :: p1 :: p2 :: p3 :: p4 :: bb_I x :: t) (bb_I x :: st) T := Iff.trans (z_Y_at (cd := zc_L_isStep) (pc := 322) (zo_iload 5 324) rfl) (Iff.of_eq rfl)
set_option maxRecDepth 20000 in
theorem ze_L_isStep_324 {p0 p1 p2 p3 p4 p5 p6 p7 : bb_V} {x : Int32} {t : List bb_V} : z_Y C zc_L_isStep R 324 (p0 :: p1 :: p2 :: p3 :: p4 :: p5 :: p6 :: p7 :: bb_I x :: t) st T ↔ z_Y C zc_L_isStep R 326 (p0 :: p1 :: p2 :: p3 :: p4 :: p5 :: p6 :: p7 :: bb_I x :: t) (bb_I x :: st) T := Iff.trans (z_Y_at (cd := zc_L_isStep) (pc := 324) (zo_iload 8 326) rfl) (Iff.of_eq rfl)
set_option maxRecDepth 20000 in
theorem ze_L_isStep_326  : z_Y C zc_L_isStep R 326 ls st T ↔ z_Y C zc_L_isStep R 327 ls (bb_I 0 :: st) T := Iff.trans (z_Y_at (cd := zc_L_isStep) (pc := 326) (zo_const 0 327) rfl) (Iff.of_eq rfl)
set_option maxRecDepth 20000 in
theorem ze_L_isStep_327 {x1 : Int32} {x2 : Int32} {x3 : Int32} : z_Y C zc_L_isStep R 327 ls (bb_I x3 :: bb_I x2 :: bb_I x1 :: bb_R 40 0 :: []) T ↔ z_call C 28 [bb_R 40 0, bb_I x1, bb_I x2, bb_I x3] T (fun r T2 => z_Y C zc_L_isStep R 330 ls (bb_I r :: []) T2) := Iff.trans (z_Y_at (cd := zc_L_isStep) (pc := 327) (zo_callv 28 4 330) rfl) ((zq_callv_4 (by decide) (by decide)).trans ⟨fun h => h.2, fun h => ⟨Nat.le_of_ble_eq_true rfl, h⟩⟩)
set_option maxRecDepth 20000 in
theorem ze_L_isStep_330 {p0 p1 p2 p3 p4 p5 p6 p7 p8 : bb_V} {x : Int32} {q : bb_V} {t : List bb_V} : z_Y C zc_L_isStep R 330 (p0 :: p1 :: p2 :: p3 :: p4 :: p5 :: p6 :: p7 :: p8 :: q :: t) (bb_I x :: st) T ↔ z_Y C zc_L_isStep R 332 (p0 :: p1 :: p2 :: p3 :: p4 :: p5 :: p6 :: p7 :: p8 :: bb_I x :: t) st T := Iff.trans (z_Y_at (cd := zc_L_isStep) (pc := 330) (zo_istore 9 332) rfl) (Iff.of_eq rfl)
set_option maxRecDepth 20000 in
theorem ze_L_isStep_332 {p0 p1 p2 : bb_V} {x : Int32} {t : List bb_V} : z_Y C zc_L_isStep R 332 (p0 :: p1 :: p2 :: bb_I x :: t) st T ↔ z_Y C zc_L_isStep R 333 (p0 :: p1 :: p2 :: bb_I x :: t) (bb_I x :: st) T := Iff.trans (z_Y_at (cd := zc_L_isStep) (pc := 332) (zo_iload 3 333) rfl) (Iff.of_eq rfl)
set_option maxRecDepth 20000 in
theorem ze_L_isStep_333  : z_Y C zc_L_isStep R 333 ls st T ↔ z_Y C zc_L_isStep R 334 ls (bb_I 4 :: st) T := Iff.trans (z_Y_at (cd := zc_L_isStep) (pc := 333) (zo_const 4 334) rfl) (Iff.of_eq rfl)
set_option maxRecDepth 20000 in
theorem ze_L_isStep_334 {x0 : Int32} {x1 : Int32} : z_Y C zc_L_isStep R 334 ls (bb_I x1 :: bb_I x0 :: []) T ↔ z_call C 1 [bb_I x0, bb_I x1] T (fun r T2 => z_Y C zc_L_isStep R 337 ls (bb_I r :: []) T2) := Iff.trans (z_Y_at (cd := zc_L_isStep) (pc := 334) (zo_call 1 2 337) rfl) ((zq_call_2 (by decide)).trans ⟨fun h => h.2, fun h => ⟨⟨Nat.le_of_ble_eq_true rfl, rfl⟩, h⟩⟩)
set_option maxRecDepth 20000 in
theorem ze_L_isStep_337 {a : Int32} : z_Y C zc_L_isStep R 337 ls (bb_I a :: st) T ↔ (if a ≠ 0 then z_Y C zc_L_isStep R 351 ls st T else z_Y C zc_L_isStep R 340 ls st T) := Iff.trans (z_Y_at (cd := zc_L_isStep) (pc := 337) (zo_ifne 351 340) rfl) (Iff.of_eq z_do_ite)
set_option maxRecDepth 20000 in
theorem ze_L_isStep_340 {p0 p1 p2 : bb_V} {x : Int32} {t : List bb_V} : z_Y C zc_L_isStep R 340 (p0 :: p1 :: p2 :: bb_I x :: t) st T ↔ z_Y C zc_L_isStep R 341 (p0 :: p1 :: p2 :: bb_I x :: t) (bb_I x :: st) T := Iff.trans (z_Y_at (cd := zc_L_isStep) (pc := 340) (zo_iload 3 341) rfl) (Iff.of_eq rfl)
set_option maxRecDepth 20000 in
theorem ze_L_isStep_341  : z_Y C zc_L_isStep R 341 ls st T ↔ z_Y C zc_L_isStep R 342 ls (bb_I 2 :: st) T := Iff.trans (z_Y_at (cd := zc_L_isStep) (pc := 341) (zo_const 2 342) rfl) (Iff.of_eq rfl)
set_option maxRecDepth 20000 in
theorem ze_L_isStep_342 {a b : Int32} : z_Y C zc_L_isStep R 342 ls (bb_I b :: bb_I a :: st) T ↔ z_Y C zc_L_isStep R 343 ls (bb_I (a >>> (b &&& 31)) :: st) T := Iff.trans (z_Y_at (cd := zc_L_isStep) (pc := 342) (zo_ishr 343) rfl) (Iff.of_eq rfl)
set_option maxRecDepth 20000 in
theorem ze_L_isStep_343  : z_Y C zc_L_isStep R 343 ls st T ↔ z_Y C zc_L_isStep R 345 ls (bb_I 100 :: st) T := Iff.trans (z_Y_at (cd := zc_L_isStep) (pc := 343) (zo_const 100 345) rfl) (Iff.of_eq rfl)
set_option maxRecDepth 20000 in
theorem ze_L_isStep_345 {x0 : Int32} {x1 : Int32} : z_Y C zc_L_isStep R 345 ls (bb_I x1 :: bb_I x0 :: []) T ↔ z_call C 1 [bb_I x0, bb_I x1] T (fun r T2 => z_Y C zc_L_isStep R 348 ls (bb_I r :: []) T2) := Iff.trans (z_Y_at (cd := zc_L_isStep) (pc := 345) (zo_call 1 2 348) rfl) ((zq_call_2 (by decide)).trans ⟨fun h => h.2, fun h => ⟨⟨Nat.le_of_ble_eq_true rfl, rfl⟩, h⟩⟩)
set_option maxRecDepth 20000 in
theorem ze_L_isStep_348  : z_Y C zc_L_isStep R 348 ls st T ↔ z_Y C zc_L_isStep R 365 ls st T := Iff.trans (z_Y_at (cd := zc_L_isStep) (pc := 348) (zo_goto 365) rfl) (Iff.of_eq rfl)
set_option maxRecDepth 20000 in
theorem ze_L_isStep_351 {p0 p1 p2 p3 p4 p5 p6 p7 p8 : bb_V} {x : Int32} {t : List bb_V} : z_Y C zc_L_isStep R 351 (p0 :: p1 :: p2 :: p3 :: p4 :: p5 :: p6 :: p7 :: p8 :: bb_I x :: t) st T ↔ z_Y C zc_L_isStep R 353 (p0 :: p1 :: p2 :: p3 :: p4 :: p5 :: p6 :: p7 :: p8 :: bb_I x :: t) (bb_I x :: st) T := Iff.trans (z_Y_at (cd := zc_L_isStep) (pc := 351) (zo_iload 9 353) rfl) (Iff.of_eq rfl)
set_option maxRecDepth 20000 in
theorem ze_L_isStep_353 {p0 p1 p2 : bb_V} {x : Int32} {t : List bb_V} : z_Y C zc_L_isStep R 353 (p0 :: p1 :: p2 :: bb_I x :: t) st T ↔ z_Y C zc_L_isStep R 354 (p0 :: p1 :: p2 :: bb_I x :: t) (bb_I x :: st) T := Iff.trans (z_Y_at (cd := zc_L_isStep) (pc := 353) (zo_iload 3 354) rfl) (Iff.of_eq rfl)
set_option maxRecDepth 20000 in
theorem ze_L_isStep_354  : z_Y C zc_L_isStep R 354 ls st T ↔ z_Y C zc_L_isStep R 355 ls (bb_I 2 :: st) T := Iff.trans (z_Y_at (cd := zc_L_isStep) (pc := 354) (zo_const 2 355) rfl) (Iff.of_eq rfl)
set_option maxRecDepth 20000 in
theorem ze_L_isStep_355 {a b : Int32} : z_Y C zc_L_isStep R 355 ls (bb_I b :: bb_I a :: st) T ↔ z_Y C zc_L_isStep R 356 ls (bb_I (a >>> (b &&& 31)) :: st) T := Iff.trans (z_Y_at (cd := zc_L_isStep) (pc := 355) (zo_ishr 356) rfl) (Iff.of_eq rfl)
set_option maxRecDepth 20000 in
theorem ze_L_isStep_356  : z_Y C zc_L_isStep R 356 ls st T ↔ z_Y C zc_L_isStep R 358 ls (bb_I 15 :: st) T := Iff.trans (z_Y_at (cd := zc_L_isStep) (pc := 356) (zo_const 15 358) rfl) (Iff.of_eq rfl)
set_option maxRecDepth 20000 in
theorem ze_L_isStep_358 {x0 : Int32} {x1 : Int32} {z0 : Int32} : z_Y C zc_L_isStep R 358 ls (bb_I x1 :: bb_I x0 :: [bb_I z0]) T ↔ z_call C 1 [bb_I x0, bb_I x1] T (fun r T2 => z_Y C zc_L_isStep R 361 ls (bb_I r :: [bb_I z0]) T2) := Iff.trans (z_Y_at (cd := zc_L_isStep) (pc := 358) (zo_call 1 2 361) rfl) ((zq_call_2 (by decide)).trans ⟨fun h => h.2, fun h => ⟨⟨Nat.le_of_ble_eq_true rfl, rfl⟩, h⟩⟩)
set_option maxRecDepth 20000 in
theorem ze_L_isStep_361 {a b : Int32} : z_Y C zc_L_isStep R 361 ls (bb_I b :: bb_I a :: st) T ↔ z_Y C zc_L_isStep R 362 ls (bb_I (a + b) :: st) T := Iff.trans (z_Y_at (cd := zc_L_isStep) (pc := 361) (zo_iadd 362) rfl) (Iff.of_eq rfl)
set_option maxRecDepth 20000 in
theorem ze_L_isStep_362  : z_Y C zc_L_isStep R 362 ls st T ↔ z_Y C zc_L_isStep R 364 ls (bb_I 7 :: st) T := Iff.trans (z_Y_at (cd := zc_L_isStep) (pc := 362) (zo_const 7 364) rfl) (Iff.of_eq rfl)
set_option maxRecDepth 20000 in
theorem ze_L_isStep_364 {a b : Int32} : z_Y C zc_L_isStep R 364 ls (bb_I b :: bb_I a :: st) T ↔ z_Y C zc_L_isStep R 365 ls (bb_I (a - b) :: st) T := Iff.trans (z_Y_at (cd := zc_L_isStep) (pc := 364) (zo_isub 365) rfl) (Iff.of_eq rfl)
set_option maxRecDepth 20000 in
theorem ze_L_isStep_365 {p0 p1 p2 p3 p4 p5 p6 p7 p8 p9 : bb_V} {x : Int32} {q : bb_V} {t : List bb_V} : z_Y C zc_L_isStep R 365 (p0 :: p1 :: p2 :: p3 :: p4 :: p5 :: p6 :: p7 :: p8 :: p9 :: q :: t) (bb_I x :: st) T ↔ z_Y C zc_L_isStep R 367 (p0 :: p1 :: p2 :: p3 :: p4 :: p5 :: p6 :: p7 :: p8 :: p9 :: bb_I x :: t) st T := Iff.trans (z_Y_at (cd := zc_L_isStep) (pc := 365) (zo_istore 10 367) rfl) (Iff.of_eq rfl)
set_option maxRecDepth 20000 in
theorem ze_L_isStep_367 {k j : Nat} {t : List bb_V} : z_Y C zc_L_isStep R 367 (bb_R k j :: t) st T ↔ z_Y C zc_L_isStep R 368 (bb_R k j :: t) (bb_R k j :: st) T := Iff.trans (z_Y_at (cd := zc_L_isStep) (pc := 367) (zo_aload 0 368) rfl) (Iff.of_eq rfl)
set_option maxRecDepth 20000 in
theorem ze_L_isStep_368 {p0 p1 p2 p3 p4 : bb_V} {x : Int32} {t : List bb_V} : z_Y C zc_L_isStep R 368 (p0 :: p1 :: p2 :: p3 :: p4 :: bb_I x :: t) st T ↔ z_Y C zc_L_isStep R 370 (p0 :: p1 :: p2 :: p3 :: p4 :: bb_I x :: t) (bb_I x :: st) T := Iff.trans (z_Y_at (cd := zc_L_isStep) (pc := 368) (zo_iload 5 370) rfl) (Iff.of_eq rfl)
set_option maxRecDepth 20000 in
theorem ze_L_isStep_370 {p0 p1 p2 p3 p4 p5 p6 p7 : bb_V} {x : Int32} {t : List bb_V} : z_Y C zc_L_isStep R 370 (p0 :: p1 :: p2 :: p3 :: p4 :: p5 :: p6 :: p7 :: bb_I x :: t) st T ↔ z_Y C zc_L_isStep R 372 (p0 :: p1 :: p2 :: p3 :: p4 :: p5 :: p6 :: p7 :: bb_I x :: t) (bb_I x :: st) T := Iff.trans (z_Y_at (cd := zc_L_isStep) (pc := 370) (zo_iload 8 372) rfl) (Iff.of_eq rfl)
set_option maxRecDepth 20000 in
theorem ze_L_isStep_372 {p0 p1 p2 p3 p4 p5 p6 p7 p8 p9 : bb_V} {x : Int32} {t : List bb_V} : z_Y C zc_L_isStep R 372 (p0 :: p1 :: p2 :: p3 :: p4 :: p5 :: p6 :: p7 :: p8 :: p9 :: bb_I x :: t) st T ↔ z_Y C zc_L_isStep R 374 (p0 :: p1 :: p2 :: p3 :: p4 :: p5 :: p6 :: p7 :: p8 :: p9 :: bb_I x :: t) (bb_I x :: st) T := Iff.trans (z_Y_at (cd := zc_L_isStep) (pc := 372) (zo_iload 10 374) rfl) (Iff.of_eq rfl)
set_option maxRecDepth 20000 in
theorem ze_L_isStep_374 {x1 : Int32} {x2 : Int32} {x3 : Int32} : z_Y C zc_L_isStep R 374 ls (bb_I x3 :: bb_I x2 :: bb_I x1 :: bb_R 40 0 :: []) T ↔ z_call C 20 [bb_R 40 0, bb_I x1, bb_I x2, bb_I x3] T (fun r T2 => z_Y C zc_L_isStep R 377 ls (bb_I r :: []) T2) := Iff.trans (z_Y_at (cd := zc_L_isStep) (pc := 374) (zo_callv 20 4 377) rfl) ((zq_callv_4 (by decide) (by decide)).trans ⟨fun h => h.2, fun h => ⟨Nat.le_of_ble_eq_true rfl, h⟩⟩)
set_option maxRecDepth 20000 in
theorem ze_L_isStep_377 {p0 p1 p2 p3 p4 p5 p6 p7 p8 p9 p10 : bb_V} {x : Int32} {q : bb_V} {t : List bb_V} : z_Y C zc_L_isStep R 377 (p0 :: p1 :: p2 :: p3 :: p4 :: p5 :: p6 :: p7 :: p8 :: p9 :: p10 :: q :: t) (bb_I x :: st) T ↔ z_Y C zc_L_isStep R 379 (p0 :: p1 :: p2 :: p3 :: p4 :: p5 :: p6 :: p7 :: p8 :: p9 :: p10 :: bb_I x :: t) st T := Iff.trans (z_Y_at (cd := zc_L_isStep) (pc := 377) (zo_istore 11 379) rfl) (Iff.of_eq rfl)
set_option maxRecDepth 20000 in
theorem ze_L_isStep_379 {p0 p1 p2 p3 p4 p5 p6 p7 p8 p9 : bb_V} {x : Int32} {t : List bb_V} : z_Y C zc_L_isStep R 379 (p0 :: p1 :: p2 :: p3 :: p4 :: p5 :: p6 :: p7 :: p8 :: p9 :: bb_I x :: t) st T ↔ z_Y C zc_L_isStep R 381 (p0 :: p1 :: p2 :: p3 :: p4 :: p5 :: p6 :: p7 :: p8 :: p9 :: bb_I x :: t) (bb_I x :: st) T := Iff.trans (z_Y_at (cd := zc_L_isStep) (pc := 379) (zo_iload 10 381) rfl) (Iff.of_eq rfl)
set_option maxRecDepth 20000 in
theorem ze_L_isStep_381 {a : Int32} : z_Y C zc_L_isStep R 381 ls (bb_I a :: st) T ↔ (if a < 0 then z_Y C zc_L_isStep R 395 ls st T else z_Y C zc_L_isStep R 384 ls st T) := Iff.trans (z_Y_at (cd := zc_L_isStep) (pc := 381) (zo_iflt 395 384) rfl) (Iff.of_eq z_do_ite)
set_option maxRecDepth 20000 in
theorem ze_L_isStep_384 {p0 p1 p2 p3 p4 p5 p6 p7 p8 p9 : bb_V} {x : Int32} {t : List bb_V} : z_Y C zc_L_isStep R 384 (p0 :: p1 :: p2 :: p3 :: p4 :: p5 :: p6 :: p7 :: p8 :: p9 :: bb_I x :: t) st T ↔ z_Y C zc_L_isStep R 386 (p0 :: p1 :: p2 :: p3 :: p4 :: p5 :: p6 :: p7 :: p8 :: p9 :: bb_I x :: t) (bb_I x :: st) T := Iff.trans (z_Y_at (cd := zc_L_isStep) (pc := 384) (zo_iload 10 386) rfl) (Iff.of_eq rfl)
set_option maxRecDepth 20000 in
theorem ze_L_isStep_386  : z_Y C zc_L_isStep R 386 ls st T ↔ z_Y C zc_L_isStep R 388 ls (bb_I 100 :: st) T := Iff.trans (z_Y_at (cd := zc_L_isStep) (pc := 386) (zo_const 100 388) rfl) (Iff.of_eq rfl)
set_option maxRecDepth 20000 in
theorem ze_L_isStep_388 {a b : Int32} : z_Y C zc_L_isStep R 388 ls (bb_I b :: bb_I a :: st) T ↔ (if b ≤ a then z_Y C zc_L_isStep R 395 ls st T else z_Y C zc_L_isStep R 391 ls st T) := Iff.trans (z_Y_at (cd := zc_L_isStep) (pc := 388) (zo_icge 395 391) rfl) (Iff.of_eq z_do_ite)
set_option maxRecDepth 20000 in
theorem ze_L_isStep_391  : z_Y C zc_L_isStep R 391 ls st T ↔ z_Y C zc_L_isStep R 392 ls (bb_I 1 :: st) T := Iff.trans (z_Y_at (cd := zc_L_isStep) (pc := 391) (zo_const 1 392) rfl) (Iff.of_eq rfl)
set_option maxRecDepth 20000 in
theorem ze_L_isStep_392  : z_Y C zc_L_isStep R 392 ls st T ↔ z_Y C zc_L_isStep R 396 ls st T := Iff.trans (z_Y_at (cd := zc_L_isStep) (pc := 392) (zo_goto 396) rfl) (Iff.of_eq rfl)
set_option maxRecDepth 20000 in
theorem ze_L_isStep_395  : z_Y C zc_L_isStep R 395 ls st T ↔ z_Y C zc_L_isStep R 396 ls (bb_I 0 :: st) T := Iff.trans (z_Y_at (cd := zc_L_isStep) (pc := 395) (zo_const 0 396) rfl) (Iff.of_eq rfl)
set_option maxRecDepth 20000 in
theorem ze_L_isStep_396 {p0 p1 p2 p3 p4 p5 p6 p7 p8 p9 p10 p11 : bb_V} {x : Int32} {q : bb_V} {t : List bb_V} : z_Y C zc_L_isStep R 396 (p0 :: p1 :: p2 :: p3 :: p4 :: p5 :: p6 :: p7 :: p8 :: p9 :: p10 :: p11 :: q :: t) (bb_I x :: st) T ↔ z_Y C zc_L_isStep R 398 (p0 :: p1 :: p2 :: p3 :: p4 :: p5 :: p6 :: p7 :: p8 :: p9 :: p10 :: p11 :: bb_I x :: t) st T := Iff.trans (z_Y_at (cd := zc_L_isStep) (pc := 396) (zo_istore 12 398) rfl) (Iff.of_eq rfl)
set_option maxRecDepth 20000 in
theorem ze_L_isStep_398 {p0 p1 p2 p3 p4 p5 p6 p7 p8 p9 p10 : bb_V} {x : Int32} {t : List bb_V} : z_Y C zc_L_isStep R 398 (p0 :: p1 :: p2 :: p3 :: p4 :: p5 :: p6 :: p7 :: p8 :: p9 :: p10 :: bb_I x :: t) st T ↔ z_Y C zc_L_isStep R 400 (p0 :: p1 :: p2 :: p3 :: p4 :: p5 :: p6 :: p7 :: p8 :: p9 :: p10 :: bb_I x :: t) (bb_I x :: st) T := Iff.trans (z_Y_at (cd := zc_L_isStep) (pc := 398) (zo_iload 11 400) rfl) (Iff.of_eq rfl)
set_option maxRecDepth 20000 in
theorem ze_L_isStep_400 {p0 : bb_V} {k j : Nat} {t : List bb_V} : z_Y C zc_L_isStep R 400 (p0 :: bb_R k j :: t) st T ↔ z_Y C zc_L_isStep R 401 (p0 :: bb_R k j :: t) (bb_R k j :: st) T := Iff.trans (z_Y_at (cd := zc_L_isStep) (pc := 400) (zo_aload 1 401) rfl) (Iff.of_eq rfl)
set_option maxRecDepth 20000 in
theorem ze_L_isStep_401  : z_Y C zc_L_isStep R 401 ls st T ↔ z_Y C zc_L_isStep R 402 ls (bb_I 3 :: st) T := Iff.trans (z_Y_at (cd := zc_L_isStep) (pc := 401) (zo_const 3 402) rfl) (Iff.of_eq rfl)
set_option maxRecDepth 20000 in
theorem ze_L_isStep_402 {p0 p1 p2 p3 p4 : bb_V} {x : Int32} {t : List bb_V} : z_Y C zc_L_isStep R 402 (p0 :: p1 :: p2 :: p3 :: p4 :: bb_I x :: t) st T ↔ z_Y C zc_L_isStep R 404 (p0 :: p1 :: p2 :: p3 :: p4 :: bb_I x :: t) (bb_I x :: st) T := Iff.trans (z_Y_at (cd := zc_L_isStep) (pc := 402) (zo_iload 5 404) rfl) (Iff.of_eq rfl)
set_option maxRecDepth 20000 in
theorem ze_L_isStep_404 {a b : Int32} : z_Y C zc_L_isStep R 404 ls (bb_I b :: bb_I a :: st) T ↔ z_Y C zc_L_isStep R 405 ls (bb_I (a - b) :: st) T := Iff.trans (z_Y_at (cd := zc_L_isStep) (pc := 404) (zo_isub 405) rfl) (Iff.of_eq rfl)
set_option maxRecDepth 20000 in
theorem ze_L_isStep_405 {p0 p1 p2 p3 p4 p5 p6 p7 : bb_V} {x : Int32} {t : List bb_V} : z_Y C zc_L_isStep R 405 (p0 :: p1 :: p2 :: p3 :: p4 :: p5 :: p6 :: p7 :: bb_I x :: t) st T ↔ z_Y C zc_L_isStep R 407 (p0 :: p1 :: p2 :: p3 :: p4 :: p5 :: p6 :: p7 :: bb_I x :: t) (bb_I x :: st) T := Iff.trans (z_Y_at (cd := zc_L_isStep) (pc := 405) (zo_iload 8 407) rfl) (Iff.of_eq rfl)
set_option maxRecDepth 20000 in
theorem ze_L_isStep_407 {p0 p1 p2 p3 p4 p5 p6 p7 p8 p9 : bb_V} {x : Int32} {t : List bb_V} : z_Y C zc_L_isStep R 407 (p0 :: p1 :: p2 :: p3 :: p4 :: p5 :: p6 :: p7 :: p8 :: p9 :: bb_I x :: t) st T ↔ z_Y C zc_L_isStep R 409 (p0 :: p1 :: p2 :: p3 :: p4 :: p5 :: p6 :: p7 :: p8 :: p9 :: bb_I x :: t) (bb_I x :: st) T := Iff.trans (z_Y_at (cd := zc_L_isStep) (pc := 407) (zo_iload 10 409) rfl) (Iff.of_eq rfl)
set_option maxRecDepth 20000 in
theorem ze_L_isStep_409 {x1 : Int32} {x2 : Int32} {x3 : Int32} {z0 : Int32} : z_Y C zc_L_isStep R 409 ls (bb_I x3 :: bb_I x2 :: bb_I x1 :: bb_R 41 0 :: [bb_I z0]) T ↔ z_call C 20 [bb_R 41 0, bb_I x1, bb_I x2, bb_I x3] T (fun r T2 => z_Y C zc_L_isStep R 412 ls (bb_I r :: [bb_I z0]) T2) := Iff.trans (z_Y_at (cd := zc_L_isStep) (pc := 409) (zo_callv 20 4 412) rfl) ((zq_callv_4 (by decide) (by decide)).trans ⟨fun h => h.2, fun h => ⟨Nat.le_of_ble_eq_true rfl, h⟩⟩)
set_option maxRecDepth 20000 in
theorem ze_L_isStep_412 {a b : Int32} : z_Y C zc_L_isStep R 412 ls (bb_I b :: bb_I a :: st) T ↔ (if a ≠ b then z_Y C zc_L_isStep R 483 ls st T else z_Y C zc_L_isStep R 415 ls st T) := Iff.trans (z_Y_at (cd := zc_L_isStep) (pc := 412) (zo_icne 483 415) rfl) (Iff.of_eq z_do_ite)
set_option maxRecDepth 20000 in
theorem ze_L_isStep_415 {p0 p1 p2 p3 p4 p5 p6 p7 p8 p9 p10 : bb_V} {x : Int32} {t : List bb_V} : z_Y C zc_L_isStep R 415 (p0 :: p1 :: p2 :: p3 :: p4 :: p5 :: p6 :: p7 :: p8 :: p9 :: p10 :: bb_I x :: t) st T ↔ z_Y C zc_L_isStep R 417 (p0 :: p1 :: p2 :: p3 :: p4 :: p5 :: p6 :: p7 :: p8 :: p9 :: p10 :: bb_I x :: t) (bb_I x :: st) T := Iff.trans (z_Y_at (cd := zc_L_isStep) (pc := 415) (zo_iload 11 417) rfl) (Iff.of_eq rfl)
set_option maxRecDepth 20000 in
theorem ze_L_isStep_417 {p0 p1 p2 p3 p4 p5 p6 p7 p8 p9 p10 p11 : bb_V} {x : Int32} {t : List bb_V} : z_Y C zc_L_isStep R 417 (p0 :: p1 :: p2 :: p3 :: p4 :: p5 :: p6 :: p7 :: p8 :: p9 :: p10 :: p11 :: bb_I x :: t) st T ↔ z_Y C zc_L_isStep R 419 (p0 :: p1 :: p2 :: p3 :: p4 :: p5 :: p6 :: p7 :: p8 :: p9 :: p10 :: p11 :: bb_I x :: t) (bb_I x :: st) T := Iff.trans (z_Y_at (cd := zc_L_isStep) (pc := 417) (zo_iload 12 419) rfl) (Iff.of_eq rfl)
set_option maxRecDepth 20000 in
theorem ze_L_isStep_419 {a : Int32} : z_Y C zc_L_isStep R 419 ls (bb_I a :: st) T ↔ (if a ≠ 0 then z_Y C zc_L_isStep R 428 ls st T else z_Y C zc_L_isStep R 422 ls st T) := Iff.trans (z_Y_at (cd := zc_L_isStep) (pc := 419) (zo_ifne 428 422) rfl) (Iff.of_eq z_do_ite)
set_option maxRecDepth 20000 in
theorem ze_L_isStep_422  : z_Y C zc_L_isStep R 422 ls st T ↔ z_Y C zc_L_isStep R 425 ls (bb_I (-1002) :: st) T := Iff.trans (z_Y_at (cd := zc_L_isStep) (pc := 422) (zo_const (-1002) 425) rfl) (Iff.of_eq rfl)
set_option maxRecDepth 20000 in
theorem ze_L_isStep_425  : z_Y C zc_L_isStep R 425 ls st T ↔ z_Y C zc_L_isStep R 443 ls st T := Iff.trans (z_Y_at (cd := zc_L_isStep) (pc := 425) (zo_goto 443) rfl) (Iff.of_eq rfl)
set_option maxRecDepth 20000 in
theorem ze_L_isStep_428 {p0 p1 p2 p3 p4 p5 p6 p7 p8 : bb_V} {x : Int32} {t : List bb_V} : z_Y C zc_L_isStep R 428 (p0 :: p1 :: p2 :: p3 :: p4 :: p5 :: p6 :: p7 :: p8 :: bb_I x :: t) st T ↔ z_Y C zc_L_isStep R 430 (p0 :: p1 :: p2 :: p3 :: p4 :: p5 :: p6 :: p7 :: p8 :: bb_I x :: t) (bb_I x :: st) T := Iff.trans (z_Y_at (cd := zc_L_isStep) (pc := 428) (zo_iload 9 430) rfl) (Iff.of_eq rfl)
set_option maxRecDepth 20000 in
theorem ze_L_isStep_430 {p0 p1 p2 p3 p4 p5 p6 p7 p8 p9 : bb_V} {x : Int32} {t : List bb_V} : z_Y C zc_L_isStep R 430 (p0 :: p1 :: p2 :: p3 :: p4 :: p5 :: p6 :: p7 :: p8 :: p9 :: bb_I x :: t) st T ↔ z_Y C zc_L_isStep R 432 (p0 :: p1 :: p2 :: p3 :: p4 :: p5 :: p6 :: p7 :: p8 :: p9 :: bb_I x :: t) (bb_I x :: st) T := Iff.trans (z_Y_at (cd := zc_L_isStep) (pc := 430) (zo_iload 10 432) rfl) (Iff.of_eq rfl)
set_option maxRecDepth 20000 in
theorem ze_L_isStep_432 {a b : Int32} : z_Y C zc_L_isStep R 432 ls (bb_I b :: bb_I a :: st) T ↔ (if a ≠ b then z_Y C zc_L_isStep R 441 ls st T else z_Y C zc_L_isStep R 435 ls st T) := Iff.trans (z_Y_at (cd := zc_L_isStep) (pc := 432) (zo_icne 441 435) rfl) (Iff.of_eq z_do_ite)
set_option maxRecDepth 20000 in
theorem ze_L_isStep_435  : z_Y C zc_L_isStep R 435 ls st T ↔ z_Y C zc_L_isStep R 438 ls (bb_I (-1005) :: st) T := Iff.trans (z_Y_at (cd := zc_L_isStep) (pc := 435) (zo_const (-1005) 438) rfl) (Iff.of_eq rfl)
set_option maxRecDepth 20000 in
theorem ze_L_isStep_438  : z_Y C zc_L_isStep R 438 ls st T ↔ z_Y C zc_L_isStep R 443 ls st T := Iff.trans (z_Y_at (cd := zc_L_isStep) (pc := 438) (zo_goto 443) rfl) (Iff.of_eq rfl)
set_option maxRecDepth 20000 in
theorem ze_L_isStep_441 {p0 p1 p2 p3 p4 p5 p6 p7 p8 : bb_V} {x : Int32} {t : List bb_V} : z_Y C zc_L_isStep R 441 (p0 :: p1 :: p2 :: p3 :: p4 :: p5 :: p6 :: p7 :: p8 :: bb_I x :: t) st T ↔ z_Y C zc_L_isStep R 443 (p0 :: p1 :: p2 :: p3 :: p4 :: p5 :: p6 :: p7 :: p8 :: bb_I x :: t) (bb_I x :: st) T := Iff.trans (z_Y_at (cd := zc_L_isStep) (pc := 441) (zo_iload 9 443) rfl) (Iff.of_eq rfl)
set_option maxRecDepth 20000 in
theorem ze_L_isStep_443 {a b : Int32} : z_Y C zc_L_isStep R 443 ls (bb_I b :: bb_I a :: st) T ↔ (if a ≠ b then z_Y C zc_L_isStep R 483 ls st T else z_Y C zc_L_isStep R 446 ls st T) := Iff.trans (z_Y_at (cd := zc_L_isStep) (pc := 443) (zo_icne 483 446) rfl) (Iff.of_eq z_do_ite)
set_option maxRecDepth 20000 in
theorem ze_L_isStep_446 {k j : Nat} {t : List bb_V} : z_Y C zc_L_isStep R 446 (bb_R k j :: t) st T ↔ z_Y C zc_L_isStep R 447 (bb_R k j :: t) (bb_R k j :: st) T := Iff.trans (z_Y_at (cd := zc_L_isStep) (pc := 446) (zo_aload 0 447) rfl) (Iff.of_eq rfl)
set_option maxRecDepth 20000 in
theorem ze_L_isStep_447  : z_Y C zc_L_isStep R 447 ls st T ↔ z_Y C zc_L_isStep R 448 ls (bb_I 0 :: st) T := Iff.trans (z_Y_at (cd := zc_L_isStep) (pc := 447) (zo_const 0 448) rfl) (Iff.of_eq rfl)
set_option maxRecDepth 20000 in
theorem ze_L_isStep_448 {x1 : Int32} : z_Y C zc_L_isStep R 448 ls (bb_I x1 :: bb_R 40 0 :: []) T ↔ z_call C 34 [bb_R 40 0, bb_I x1] T (fun r T2 => z_Y C zc_L_isStep R 451 ls (bb_I r :: []) T2) := Iff.trans (z_Y_at (cd := zc_L_isStep) (pc := 448) (zo_callv 34 2 451) rfl) ((zq_callv_2 (by decide) (by decide)).trans ⟨fun h => h.2, fun h => ⟨Nat.le_of_ble_eq_true rfl, h⟩⟩)
set_option maxRecDepth 20000 in
theorem ze_L_isStep_451 {p0 p1 p2 p3 p4 p5 p6 p7 p8 p9 p10 p11 : bb_V} {x : Int32} {t : List bb_V} : z_Y C zc_L_isStep R 451 (p0 :: p1 :: p2 :: p3 :: p4 :: p5 :: p6 :: p7 :: p8 :: p9 :: p10 :: p11 :: bb_I x :: t) st T ↔ z_Y C zc_L_isStep R 453 (p0 :: p1 :: p2 :: p3 :: p4 :: p5 :: p6 :: p7 :: p8 :: p9 :: p10 :: p11 :: bb_I x :: t) (bb_I x :: st) T := Iff.trans (z_Y_at (cd := zc_L_isStep) (pc := 451) (zo_iload 12 453) rfl) (Iff.of_eq rfl)
set_option maxRecDepth 20000 in
theorem ze_L_isStep_453 {a : Int32} : z_Y C zc_L_isStep R 453 ls (bb_I a :: st) T ↔ (if a = 0 then z_Y C zc_L_isStep R 467 ls st T else z_Y C zc_L_isStep R 456 ls st T) := Iff.trans (z_Y_at (cd := zc_L_isStep) (pc := 453) (zo_ifeq 467 456) rfl) (Iff.of_eq z_do_ite)
set_option maxRecDepth 20000 in
theorem ze_L_isStep_456 {p0 p1 p2 p3 p4 p5 p6 : bb_V} {x : Int32} {t : List bb_V} : z_Y C zc_L_isStep R 456 (p0 :: p1 :: p2 :: p3 :: p4 :: p5 :: p6 :: bb_I x :: t) st T ↔ z_Y C zc_L_isStep R 458 (p0 :: p1 :: p2 :: p3 :: p4 :: p5 :: p6 :: bb_I x :: t) (bb_I x :: st) T := Iff.trans (z_Y_at (cd := zc_L_isStep) (pc := 456) (zo_iload 7 458) rfl) (Iff.of_eq rfl)
set_option maxRecDepth 20000 in
theorem ze_L_isStep_458 {p0 p1 p2 p3 p4 p5 p6 p7 p8 p9 : bb_V} {x : Int32} {t : List bb_V} : z_Y C zc_L_isStep R 458 (p0 :: p1 :: p2 :: p3 :: p4 :: p5 :: p6 :: p7 :: p8 :: p9 :: bb_I x :: t) st T ↔ z_Y C zc_L_isStep R 460 (p0 :: p1 :: p2 :: p3 :: p4 :: p5 :: p6 :: p7 :: p8 :: p9 :: bb_I x :: t) (bb_I x :: st) T := Iff.trans (z_Y_at (cd := zc_L_isStep) (pc := 458) (zo_iload 10 460) rfl) (Iff.of_eq rfl)
set_option maxRecDepth 20000 in
theorem ze_L_isStep_460 {a b : Int32} : z_Y C zc_L_isStep R 460 ls (bb_I b :: bb_I a :: st) T ↔ z_Y C zc_L_isStep R 461 ls (bb_I (a + b) :: st) T := Iff.trans (z_Y_at (cd := zc_L_isStep) (pc := 460) (zo_iadd 461) rfl) (Iff.of_eq rfl)
set_option maxRecDepth 20000 in
theorem ze_L_isStep_461 {p0 p1 p2 p3 p4 p5 p6 p7 p8 : bb_V} {x : Int32} {t : List bb_V} : z_Y C zc_L_isStep R 461 (p0 :: p1 :: p2 :: p3 :: p4 :: p5 :: p6 :: p7 :: p8 :: bb_I x :: t) st T ↔ z_Y C zc_L_isStep R 463 (p0 :: p1 :: p2 :: p3 :: p4 :: p5 :: p6 :: p7 :: p8 :: bb_I x :: t) (bb_I x :: st) T := Iff.trans (z_Y_at (cd := zc_L_isStep) (pc := 461) (zo_iload 9 463) rfl) (Iff.of_eq rfl)
set_option maxRecDepth 20000 in
theorem ze_L_isStep_463 {a b : Int32} : z_Y C zc_L_isStep R 463 ls (bb_I b :: bb_I a :: st) T ↔ z_Y C zc_L_isStep R 464 ls (bb_I (a - b) :: st) T := Iff.trans (z_Y_at (cd := zc_L_isStep) (pc := 463) (zo_isub 464) rfl) (Iff.of_eq rfl)
set_option maxRecDepth 20000 in
theorem ze_L_isStep_464  : z_Y C zc_L_isStep R 464 ls st T ↔ z_Y C zc_L_isStep R 469 ls st T := Iff.trans (z_Y_at (cd := zc_L_isStep) (pc := 464) (zo_goto 469) rfl) (Iff.of_eq rfl)
set_option maxRecDepth 20000 in
theorem ze_L_isStep_467 {p0 p1 p2 p3 p4 p5 p6 : bb_V} {x : Int32} {t : List bb_V} : z_Y C zc_L_isStep R 467 (p0 :: p1 :: p2 :: p3 :: p4 :: p5 :: p6 :: bb_I x :: t) st T ↔ z_Y C zc_L_isStep R 469 (p0 :: p1 :: p2 :: p3 :: p4 :: p5 :: p6 :: bb_I x :: t) (bb_I x :: st) T := Iff.trans (z_Y_at (cd := zc_L_isStep) (pc := 467) (zo_iload 7 469) rfl) (Iff.of_eq rfl)
set_option maxRecDepth 20000 in
theorem ze_L_isStep_469 {a b : Int32} : z_Y C zc_L_isStep R 469 ls (bb_I b :: bb_I a :: st) T ↔ (if a ≠ b then z_Y C zc_L_isStep R 483 ls st T else z_Y C zc_L_isStep R 472 ls st T) := Iff.trans (z_Y_at (cd := zc_L_isStep) (pc := 469) (zo_icne 483 472) rfl) (Iff.of_eq z_do_ite)
set_option maxRecDepth 20000 in
theorem ze_L_isStep_472 {k j : Nat} {t : List bb_V} : z_Y C zc_L_isStep R 472 (bb_R k j :: t) st T ↔ z_Y C zc_L_isStep R 473 (bb_R k j :: t) (bb_R k j :: st) T := Iff.trans (z_Y_at (cd := zc_L_isStep) (pc := 472) (zo_aload 0 473) rfl) (Iff.of_eq rfl)
set_option maxRecDepth 20000 in
theorem ze_L_isStep_473  : z_Y C zc_L_isStep R 473 ls (bb_R 40 0 :: []) T ↔ z_call C 4 [bb_R 40 0] T (fun r T2 => z_Y C zc_L_isStep R 476 ls (bb_I r :: []) T2) := Iff.trans (z_Y_at (cd := zc_L_isStep) (pc := 473) (zo_call 4 1 476) rfl) ((zq_call_1 (by decide)).trans ⟨fun h => h.2, fun h => ⟨⟨Nat.le_of_ble_eq_true rfl, rfl⟩, h⟩⟩)
set_option maxRecDepth 20000 in
theorem ze_L_isStep_476 {a : Int32} : z_Y C zc_L_isStep R 476 ls (bb_I a :: st) T ↔ (if a = 0 then z_Y C zc_L_isStep R 483 ls st T else z_Y C zc_L_isStep R 479 ls st T) := Iff.trans (z_Y_at (cd := zc_L_isStep) (pc := 476) (zo_ifeq 483 479) rfl) (Iff.of_eq z_do_ite)
set_option maxRecDepth 20000 in
theorem ze_L_isStep_479  : z_Y C zc_L_isStep R 479 ls st T ↔ z_Y C zc_L_isStep R 480 ls (bb_I 1 :: st) T := Iff.trans (z_Y_at (cd := zc_L_isStep) (pc := 479) (zo_const 1 480) rfl) (Iff.of_eq rfl)
set_option maxRecDepth 20000 in
theorem ze_L_isStep_480  : z_Y C zc_L_isStep R 480 ls st T ↔ z_Y C zc_L_isStep R 484 ls st T := Iff.trans (z_Y_at (cd := zc_L_isStep) (pc := 480) (zo_goto 484) rfl) (Iff.of_eq rfl)
set_option maxRecDepth 20000 in
theorem ze_L_isStep_483  : z_Y C zc_L_isStep R 483 ls st T ↔ z_Y C zc_L_isStep R 484 ls (bb_I 0 :: st) T := Iff.trans (z_Y_at (cd := zc_L_isStep) (pc := 483) (zo_const 0 484) rfl) (Iff.of_eq rfl)
set_option maxRecDepth 20000 in
theorem ze_L_isStep_484 {v : Int32} : z_Y C zc_L_isStep R 484 ls [bb_I v] T ↔ ((v = 0 ∨ v = 1) ∧ R v T) := Iff.trans (z_Y_at (cd := zc_L_isStep) (pc := 484) (zo_zret) rfl) (zq_zret)
set_option maxRecDepth 20000 in
theorem ze_L_isStep_485 {p0 p1 p2 : bb_V} {x : Int32} {t : List bb_V} : z_Y C zc_L_isStep R 485 (p0 :: p1 :: p2 :: bb_I x :: t) st T ↔ z_Y C zc_L_isStep R 486 (p0 :: p1 :: p2 :: bb_I x :: t) (bb_I x :: st) T := Iff.trans (z_Y_at (cd := zc_L_isStep) (pc := 485) (zo_iload 3 486) rfl) (Iff.of_eq rfl)
set_option maxRecDepth 20000 in
theorem ze_L_isStep_486  : z_Y C zc_L_isStep R 486 ls st T ↔ z_Y C zc_L_isStep R 487 ls (bb_I 4 :: st) T := Iff.trans (z_Y_at (cd := zc_L_isStep) (pc := 486) (zo_const 4 487) rfl) (Iff.of_eq rfl)
set_option maxRecDepth 20000 in
theorem ze_L_isStep_487 {x0 : Int32} {x1 : Int32} : z_Y C zc_L_isStep R 487 ls (bb_I x1 :: bb_I x0 :: []) T ↔ z_call C 1 [bb_I x0, bb_I x1] T (fun r T2 => z_Y C zc_L_isStep R 490 ls (bb_I r :: []) T2) := Iff.trans (z_Y_at (cd := zc_L_isStep) (pc := 487) (zo_call 1 2 490) rfl) ((zq_call_2 (by decide)).trans ⟨fun h => h.2, fun h => ⟨⟨Nat.le_of_ble_eq_true rfl, rfl⟩, h⟩⟩)
set_option maxRecDepth 20000 in
theorem ze_L_isStep_490 {a : Int32} : z_Y C zc_L_isStep R 490 ls (bb_I a :: st) T ↔ (if a ≠ 0 then z_Y C zc_L_isStep R 507 ls st T else z_Y C zc_L_isStep R 493 ls st T) := Iff.trans (z_Y_at (cd := zc_L_isStep) (pc := 490) (zo_ifne 507 493) rfl) (Iff.of_eq z_do_ite)
set_option maxRecDepth 20000 in
theorem ze_L_isStep_493  : z_Y C zc_L_isStep R 493 ls st T ↔ z_Y C zc_L_isStep R 495 ls (bb_I 20 :: st) T := Iff.trans (z_Y_at (cd := zc_L_isStep) (pc := 493) (zo_const 20 495) rfl) (Iff.of_eq rfl)
set_option maxRecDepth 20000 in
theorem ze_L_isStep_495 {p0 p1 p2 : bb_V} {x : Int32} {t : List bb_V} : z_Y C zc_L_isStep R 495 (p0 :: p1 :: p2 :: bb_I x :: t) st T ↔ z_Y C zc_L_isStep R 496 (p0 :: p1 :: p2 :: bb_I x :: t) (bb_I x :: st) T := Iff.trans (z_Y_at (cd := zc_L_isStep) (pc := 495) (zo_iload 3 496) rfl) (Iff.of_eq rfl)
set_option maxRecDepth 20000 in
theorem ze_L_isStep_496  : z_Y C zc_L_isStep R 496 ls st T ↔ z_Y C zc_L_isStep R 497 ls (bb_I 2 :: st) T := Iff.trans (z_Y_at (cd := zc_L_isStep) (pc := 496) (zo_const 2 497) rfl) (Iff.of_eq rfl)
set_option maxRecDepth 20000 in
theorem ze_L_isStep_497 {a b : Int32} : z_Y C zc_L_isStep R 497 ls (bb_I b :: bb_I a :: st) T ↔ z_Y C zc_L_isStep R 498 ls (bb_I (a >>> (b &&& 31)) :: st) T := Iff.trans (z_Y_at (cd := zc_L_isStep) (pc := 497) (zo_ishr 498) rfl) (Iff.of_eq rfl)
set_option maxRecDepth 20000 in
theorem ze_L_isStep_498  : z_Y C zc_L_isStep R 498 ls st T ↔ z_Y C zc_L_isStep R 500 ls (bb_I 51 :: st) T := Iff.trans (z_Y_at (cd := zc_L_isStep) (pc := 498) (zo_const 51 500) rfl) (Iff.of_eq rfl)
set_option maxRecDepth 20000 in
theorem ze_L_isStep_500 {x0 : Int32} {x1 : Int32} {z0 : Int32} : z_Y C zc_L_isStep R 500 ls (bb_I x1 :: bb_I x0 :: [bb_I z0]) T ↔ z_call C 1 [bb_I x0, bb_I x1] T (fun r T2 => z_Y C zc_L_isStep R 503 ls (bb_I r :: [bb_I z0]) T2) := Iff.trans (z_Y_at (cd := zc_L_isStep) (pc := 500) (zo_call 1 2 503) rfl) ((zq_call_2 (by decide)).trans ⟨fun h => h.2, fun h => ⟨⟨Nat.le_of_ble_eq_true rfl, rfl⟩, h⟩⟩)
set_option maxRecDepth 20000 in
theorem ze_L_isStep_503 {a b : Int32} : z_Y C zc_L_isStep R 503 ls (bb_I b :: bb_I a :: st) T ↔ z_Y C zc_L_isStep R 504 ls (bb_I (a + b) :: st) T := Iff.trans (z_Y_at (cd := zc_L_isStep) (pc := 503) (zo_iadd 504) rfl) (Iff.of_eq rfl)
set_option maxRecDepth 20000 in
theorem ze_L_isStep_504  : z_Y C zc_L_isStep R 504 ls st T ↔ z_Y C zc_L_isStep R 518 ls st T := Iff.trans (z_Y_at (cd := zc_L_isStep) (pc := 504) (zo_goto 518) rfl) (Iff.of_eq rfl)
set_option maxRecDepth 20000 in
theorem ze_L_isStep_507  : z_Y C zc_L_isStep R 507 ls st T ↔ z_Y C zc_L_isStep R 509 ls (bb_I 32 :: st) T := Iff.trans (z_Y_at (cd := zc_L_isStep) (pc := 507) (zo_const 32 509) rfl) (Iff.of_eq rfl)
set_option maxRecDepth 20000 in
theorem ze_L_isStep_509 {p0 p1 p2 : bb_V} {x : Int32} {t : List bb_V} : z_Y C zc_L_isStep R 509 (p0 :: p1 :: p2 :: bb_I x :: t) st T ↔ z_Y C zc_L_isStep R 510 (p0 :: p1 :: p2 :: bb_I x :: t) (bb_I x :: st) T := Iff.trans (z_Y_at (cd := zc_L_isStep) (pc := 509) (zo_iload 3 510) rfl) (Iff.of_eq rfl)
set_option maxRecDepth 20000 in
theorem ze_L_isStep_510  : z_Y C zc_L_isStep R 510 ls st T ↔ z_Y C zc_L_isStep R 511 ls (bb_I 2 :: st) T := Iff.trans (z_Y_at (cd := zc_L_isStep) (pc := 510) (zo_const 2 511) rfl) (Iff.of_eq rfl)
set_option maxRecDepth 20000 in
theorem ze_L_isStep_511 {a b : Int32} : z_Y C zc_L_isStep R 511 ls (bb_I b :: bb_I a :: st) T ↔ z_Y C zc_L_isStep R 512 ls (bb_I (a >>> (b &&& 31)) :: st) T := Iff.trans (z_Y_at (cd := zc_L_isStep) (pc := 511) (zo_ishr 512) rfl) (Iff.of_eq rfl)
set_option maxRecDepth 20000 in
theorem ze_L_isStep_512  : z_Y C zc_L_isStep R 512 ls st T ↔ z_Y C zc_L_isStep R 514 ls (bb_I 16 :: st) T := Iff.trans (z_Y_at (cd := zc_L_isStep) (pc := 512) (zo_const 16 514) rfl) (Iff.of_eq rfl)
set_option maxRecDepth 20000 in
theorem ze_L_isStep_514 {x0 : Int32} {x1 : Int32} {z0 : Int32} : z_Y C zc_L_isStep R 514 ls (bb_I x1 :: bb_I x0 :: [bb_I z0]) T ↔ z_call C 1 [bb_I x0, bb_I x1] T (fun r T2 => z_Y C zc_L_isStep R 517 ls (bb_I r :: [bb_I z0]) T2) := Iff.trans (z_Y_at (cd := zc_L_isStep) (pc := 514) (zo_call 1 2 517) rfl) ((zq_call_2 (by decide)).trans ⟨fun h => h.2, fun h => ⟨⟨Nat.le_of_ble_eq_true rfl, rfl⟩, h⟩⟩)
set_option maxRecDepth 20000 in
theorem ze_L_isStep_517 {a b : Int32} : z_Y C zc_L_isStep R 517 ls (bb_I b :: bb_I a :: st) T ↔ z_Y C zc_L_isStep R 518 ls (bb_I (a + b) :: st) T := Iff.trans (z_Y_at (cd := zc_L_isStep) (pc := 517) (zo_iadd 518) rfl) (Iff.of_eq rfl)
set_option maxRecDepth 20000 in
theorem ze_L_isStep_518 {p0 p1 p2 p3 p4 p5 p6 p7 : bb_V} {x : Int32} {q : bb_V} {t : List bb_V} : z_Y C zc_L_isStep R 518 (p0 :: p1 :: p2 :: p3 :: p4 :: p5 :: p6 :: p7 :: q :: t) (bb_I x :: st) T ↔ z_Y C zc_L_isStep R 520 (p0 :: p1 :: p2 :: p3 :: p4 :: p5 :: p6 :: p7 :: bb_I x :: t) st T := Iff.trans (z_Y_at (cd := zc_L_isStep) (pc := 518) (zo_istore 8 520) rfl) (Iff.of_eq rfl)
set_option maxRecDepth 20000 in
theorem ze_L_isStep_520 {k j : Nat} {t : List bb_V} : z_Y C zc_L_isStep R 520 (bb_R k j :: t) st T ↔ z_Y C zc_L_isStep R 521 (bb_R k j :: t) (bb_R k j :: st) T := Iff.trans (z_Y_at (cd := zc_L_isStep) (pc := 520) (zo_aload 0 521) rfl) (Iff.of_eq rfl)
set_option maxRecDepth 20000 in
theorem ze_L_isStep_521  : z_Y C zc_L_isStep R 521 ls st T ↔ z_Y C zc_L_isStep R 523 ls (bb_I 17 :: st) T := Iff.trans (z_Y_at (cd := zc_L_isStep) (pc := 521) (zo_const 17 523) rfl) (Iff.of_eq rfl)
set_option maxRecDepth 20000 in
theorem ze_L_isStep_523 {x1 : Int32} : z_Y C zc_L_isStep R 523 ls (bb_I x1 :: bb_R 40 0 :: []) T ↔ z_call C 34 [bb_R 40 0, bb_I x1] T (fun r T2 => z_Y C zc_L_isStep R 526 ls (bb_I r :: []) T2) := Iff.trans (z_Y_at (cd := zc_L_isStep) (pc := 523) (zo_callv 34 2 526) rfl) ((zq_callv_2 (by decide) (by decide)).trans ⟨fun h => h.2, fun h => ⟨Nat.le_of_ble_eq_true rfl, h⟩⟩)
set_option maxRecDepth 20000 in
theorem ze_L_isStep_526 {p0 p1 p2 p3 p4 p5 p6 p7 p8 : bb_V} {x : Int32} {q : bb_V} {t : List bb_V} : z_Y C zc_L_isStep R 526 (p0 :: p1 :: p2 :: p3 :: p4 :: p5 :: p6 :: p7 :: p8 :: q :: t) (bb_I x :: st) T ↔ z_Y C zc_L_isStep R 528 (p0 :: p1 :: p2 :: p3 :: p4 :: p5 :: p6 :: p7 :: p8 :: bb_I x :: t) st T := Iff.trans (z_Y_at (cd := zc_L_isStep) (pc := 526) (zo_istore 9 528) rfl) (Iff.of_eq rfl)
set_option maxRecDepth 20000 in
theorem ze_L_isStep_528 {k j : Nat} {t : List bb_V} : z_Y C zc_L_isStep R 528 (bb_R k j :: t) st T ↔ z_Y C zc_L_isStep R 529 (bb_R k j :: t) (bb_R k j :: st) T := Iff.trans (z_Y_at (cd := zc_L_isStep) (pc := 528) (zo_aload 0 529) rfl) (Iff.of_eq rfl)
set_option maxRecDepth 20000 in
theorem ze_L_isStep_529  : z_Y C zc_L_isStep R 529 ls st T ↔ z_Y C zc_L_isStep R 531 ls (bb_I 10 :: st) T := Iff.trans (z_Y_at (cd := zc_L_isStep) (pc := 529) (zo_const 10 531) rfl) (Iff.of_eq rfl)
set_option maxRecDepth 20000 in
theorem ze_L_isStep_531 {x1 : Int32} : z_Y C zc_L_isStep R 531 ls (bb_I x1 :: bb_R 40 0 :: []) T ↔ z_call C 34 [bb_R 40 0, bb_I x1] T (fun r T2 => z_Y C zc_L_isStep R 534 ls (bb_I r :: []) T2) := Iff.trans (z_Y_at (cd := zc_L_isStep) (pc := 531) (zo_callv 34 2 534) rfl) ((zq_callv_2 (by decide) (by decide)).trans ⟨fun h => h.2, fun h => ⟨Nat.le_of_ble_eq_true rfl, h⟩⟩)
set_option maxRecDepth 20000 in
theorem ze_L_isStep_534 {p0 p1 p2 p3 p4 p5 p6 p7 p8 p9 : bb_V} {x : Int32} {q : bb_V} {t : List bb_V} : z_Y C zc_L_isStep R 534 (p0 :: p1 :: p2 :: p3 :: p4 :: p5 :: p6 :: p7 :: p8 :: p9 :: q :: t) (bb_I x :: st) T ↔ z_Y C zc_L_isStep R 536 (p0 :: p1 :: p2 :: p3 :: p4 :: p5 :: p6 :: p7 :: p8 :: p9 :: bb_I x :: t) st T := Iff.trans (z_Y_at (cd := zc_L_isStep) (pc := 534) (zo_istore 10 536) rfl) (Iff.of_eq rfl)
set_option maxRecDepth 20000 in
theorem ze_L_isStep_536 {k j : Nat} {t : List bb_V} : z_Y C zc_L_isStep R 536 (bb_R k j :: t) st T ↔ z_Y C zc_L_isStep R 537 (bb_R k j :: t) (bb_R k j :: st) T := Iff.trans (z_Y_at (cd := zc_L_isStep) (pc := 536) (zo_aload 0 537) rfl) (Iff.of_eq rfl)
set_option maxRecDepth 20000 in
theorem ze_L_isStep_537 {p0 p1 p2 p3 p4 p5 p6 p7 : bb_V} {x : Int32} {t : List bb_V} : z_Y C zc_L_isStep R 537 (p0 :: p1 :: p2 :: p3 :: p4 :: p5 :: p6 :: p7 :: bb_I x :: t) st T ↔ z_Y C zc_L_isStep R 539 (p0 :: p1 :: p2 :: p3 :: p4 :: p5 :: p6 :: p7 :: bb_I x :: t) (bb_I x :: st) T := Iff.trans (z_Y_at (cd := zc_L_isStep) (pc := 537) (zo_iload 8 539) rfl) (Iff.of_eq rfl)
set_option maxRecDepth 20000 in
theorem ze_L_isStep_539 {x1 : Int32} : z_Y C zc_L_isStep R 539 ls (bb_I x1 :: bb_R 40 0 :: []) T ↔ z_call C 21 [bb_R 40 0, bb_I x1] T (fun r T2 => z_Y C zc_L_isStep R 542 ls (bb_I r :: []) T2) := Iff.trans (z_Y_at (cd := zc_L_isStep) (pc := 539) (zo_callv 21 2 542) rfl) ((zq_callv_2 (by decide) (by decide)).trans ⟨fun h => h.2, fun h => ⟨Nat.le_of_ble_eq_true rfl, h⟩⟩)
set_option maxRecDepth 20000 in
theorem ze_L_isStep_542 {p0 p1 p2 p3 p4 p5 p6 p7 p8 p9 p10 : bb_V} {x : Int32} {q : bb_V} {t : List bb_V} : z_Y C zc_L_isStep R 542 (p0 :: p1 :: p2 :: p3 :: p4 :: p5 :: p6 :: p7 :: p8 :: p9 :: p10 :: q :: t) (bb_I x :: st) T ↔ z_Y C zc_L_isStep R 544 (p0 :: p1 :: p2 :: p3 :: p4 :: p5 :: p6 :: p7 :: p8 :: p9 :: p10 :: bb_I x :: t) st T := Iff.trans (z_Y_at (cd := zc_L_isStep) (pc := 542) (zo_istore 11 544) rfl) (Iff.of_eq rfl)
set_option maxRecDepth 20000 in
theorem ze_L_isStep_544 {p0 p1 p2 p3 p4 p5 p6 p7 p8 p9 p10 : bb_V} {x : Int32} {t : List bb_V} : z_Y C zc_L_isStep R 544 (p0 :: p1 :: p2 :: p3 :: p4 :: p5 :: p6 :: p7 :: p8 :: p9 :: p10 :: bb_I x :: t) st T ↔ z_Y C zc_L_isStep R 546 (p0 :: p1 :: p2 :: p3 :: p4 :: p5 :: p6 :: p7 :: p8 :: p9 :: p10 :: bb_I x :: t) (bb_I x :: st) T := Iff.trans (z_Y_at (cd := zc_L_isStep) (pc := 544) (zo_iload 11 546) rfl) (Iff.of_eq rfl)
set_option maxRecDepth 20000 in
theorem ze_L_isStep_546 {p0 : bb_V} {k j : Nat} {t : List bb_V} : z_Y C zc_L_isStep R 546 (p0 :: bb_R k j :: t) st T ↔ z_Y C zc_L_isStep R 547 (p0 :: bb_R k j :: t) (bb_R k j :: st) T := Iff.trans (z_Y_at (cd := zc_L_isStep) (pc := 546) (zo_aload 1 547) rfl) (Iff.of_eq rfl)
set_option maxRecDepth 20000 in
theorem ze_L_isStep_547 {p0 p1 p2 p3 p4 p5 p6 p7 : bb_V} {x : Int32} {t : List bb_V} : z_Y C zc_L_isStep R 547 (p0 :: p1 :: p2 :: p3 :: p4 :: p5 :: p6 :: p7 :: bb_I x :: t) st T ↔ z_Y C zc_L_isStep R 549 (p0 :: p1 :: p2 :: p3 :: p4 :: p5 :: p6 :: p7 :: bb_I x :: t) (bb_I x :: st) T := Iff.trans (z_Y_at (cd := zc_L_isStep) (pc := 547) (zo_iload 8 549) rfl) (Iff.of_eq rfl)
set_option maxRecDepth 20000 in
theorem ze_L_isStep_549 {x1 : Int32} {z0 : Int32} : z_Y C zc_L_isStep R 549 ls (bb_I x1 :: bb_R 41 0 :: [bb_I z0]) T ↔ z_call C 21 [bb_R 41 0, bb_I x1] T (fun r T2 => z_Y C zc_L_isStep R 552 ls (bb_I r :: [bb_I z0]) T2) := Iff.trans (z_Y_at (cd := zc_L_isStep) (pc := 549) (zo_callv 21 2 552) rfl) ((zq_callv_2 (by decide) (by decide)).trans ⟨fun h => h.2, fun h => ⟨Nat.le_of_ble_eq_true rfl, h⟩⟩)
set_option maxRecDepth 20000 in
theorem ze_L_isStep_552 {a b : Int32} : z_Y C zc_L_isStep R 552 ls (bb_I b :: bb_I a :: st) T ↔ (if a ≠ b then z_Y C zc_L_isStep R 615 ls st T else z_Y C zc_L_isStep R 555 ls st T) := Iff.trans (z_Y_at (cd := zc_L_isStep) (pc := 552) (zo_icne 615 555) rfl) (Iff.of_eq z_do_ite)
set_option maxRecDepth 20000 in
theorem ze_L_isStep_555 {p0 p1 p2 p3 p4 p5 p6 p7 p8 p9 p10 : bb_V} {x : Int32} {t : List bb_V} : z_Y C zc_L_isStep R 555 (p0 :: p1 :: p2 :: p3 :: p4 :: p5 :: p6 :: p7 :: p8 :: p9 :: p10 :: bb_I x :: t) st T ↔ z_Y C zc_L_isStep R 557 (p0 :: p1 :: p2 :: p3 :: p4 :: p5 :: p6 :: p7 :: p8 :: p9 :: p10 :: bb_I x :: t) (bb_I x :: st) T := Iff.trans (z_Y_at (cd := zc_L_isStep) (pc := 555) (zo_iload 11 557) rfl) (Iff.of_eq rfl)
set_option maxRecDepth 20000 in
theorem ze_L_isStep_557 {p0 p1 p2 p3 p4 p5 p6 p7 p8 p9 : bb_V} {x : Int32} {t : List bb_V} : z_Y C zc_L_isStep R 557 (p0 :: p1 :: p2 :: p3 :: p4 :: p5 :: p6 :: p7 :: p8 :: p9 :: bb_I x :: t) st T ↔ z_Y C zc_L_isStep R 559 (p0 :: p1 :: p2 :: p3 :: p4 :: p5 :: p6 :: p7 :: p8 :: p9 :: bb_I x :: t) (bb_I x :: st) T := Iff.trans (z_Y_at (cd := zc_L_isStep) (pc := 557) (zo_iload 10 559) rfl) (Iff.of_eq rfl)
set_option maxRecDepth 20000 in
theorem ze_L_isStep_559 {p0 p1 p2 p3 p4 p5 p6 p7 : bb_V} {x : Int32} {t : List bb_V} : z_Y C zc_L_isStep R 559 (p0 :: p1 :: p2 :: p3 :: p4 :: p5 :: p6 :: p7 :: bb_I x :: t) st T ↔ z_Y C zc_L_isStep R 561 (p0 :: p1 :: p2 :: p3 :: p4 :: p5 :: p6 :: p7 :: bb_I x :: t) (bb_I x :: st) T := Iff.trans (z_Y_at (cd := zc_L_isStep) (pc := 559) (zo_iload 8 561) rfl) (Iff.of_eq rfl)
set_option maxRecDepth 20000 in
theorem ze_L_isStep_561 {a b : Int32} : z_Y C zc_L_isStep R 561 ls (bb_I b :: bb_I a :: st) T ↔ (if a ≠ b then z_Y C zc_L_isStep R 570 ls st T else z_Y C zc_L_isStep R 564 ls st T) := Iff.trans (z_Y_at (cd := zc_L_isStep) (pc := 561) (zo_icne 570 564) rfl) (Iff.of_eq z_do_ite)
set_option maxRecDepth 20000 in
theorem ze_L_isStep_564  : z_Y C zc_L_isStep R 564 ls st T ↔ z_Y C zc_L_isStep R 567 ls (bb_I (-1005) :: st) T := Iff.trans (z_Y_at (cd := zc_L_isStep) (pc := 564) (zo_const (-1005) 567) rfl) (Iff.of_eq rfl)
set_option maxRecDepth 20000 in
theorem ze_L_isStep_567  : z_Y C zc_L_isStep R 567 ls st T ↔ z_Y C zc_L_isStep R 572 ls st T := Iff.trans (z_Y_at (cd := zc_L_isStep) (pc := 567) (zo_goto 572) rfl) (Iff.of_eq rfl)
set_option maxRecDepth 20000 in
theorem ze_L_isStep_570 {p0 p1 p2 p3 p4 p5 p6 p7 p8 p9 : bb_V} {x : Int32} {t : List bb_V} : z_Y C zc_L_isStep R 570 (p0 :: p1 :: p2 :: p3 :: p4 :: p5 :: p6 :: p7 :: p8 :: p9 :: bb_I x :: t) st T ↔ z_Y C zc_L_isStep R 572 (p0 :: p1 :: p2 :: p3 :: p4 :: p5 :: p6 :: p7 :: p8 :: p9 :: bb_I x :: t) (bb_I x :: st) T := Iff.trans (z_Y_at (cd := zc_L_isStep) (pc := 570) (zo_iload 10 572) rfl) (Iff.of_eq rfl)
set_option maxRecDepth 20000 in
theorem ze_L_isStep_572 {a b : Int32} : z_Y C zc_L_isStep R 572 ls (bb_I b :: bb_I a :: st) T ↔ (if a ≠ b then z_Y C zc_L_isStep R 615 ls st T else z_Y C zc_L_isStep R 575 ls st T) := Iff.trans (z_Y_at (cd := zc_L_isStep) (pc := 572) (zo_icne 615 575) rfl) (Iff.of_eq z_do_ite)
set_option maxRecDepth 20000 in
theorem ze_L_isStep_575 {p0 p1 p2 p3 p4 p5 p6 p7 : bb_V} {x : Int32} {t : List bb_V} : z_Y C zc_L_isStep R 575 (p0 :: p1 :: p2 :: p3 :: p4 :: p5 :: p6 :: p7 :: bb_I x :: t) st T ↔ z_Y C zc_L_isStep R 577 (p0 :: p1 :: p2 :: p3 :: p4 :: p5 :: p6 :: p7 :: bb_I x :: t) (bb_I x :: st) T := Iff.trans (z_Y_at (cd := zc_L_isStep) (pc := 575) (zo_iload 8 577) rfl) (Iff.of_eq rfl)
set_option maxRecDepth 20000 in
theorem ze_L_isStep_577 {p0 p1 p2 p3 p4 p5 p6 p7 p8 p9 : bb_V} {x : Int32} {t : List bb_V} : z_Y C zc_L_isStep R 577 (p0 :: p1 :: p2 :: p3 :: p4 :: p5 :: p6 :: p7 :: p8 :: p9 :: bb_I x :: t) st T ↔ z_Y C zc_L_isStep R 579 (p0 :: p1 :: p2 :: p3 :: p4 :: p5 :: p6 :: p7 :: p8 :: p9 :: bb_I x :: t) (bb_I x :: st) T := Iff.trans (z_Y_at (cd := zc_L_isStep) (pc := 577) (zo_iload 10 579) rfl) (Iff.of_eq rfl)
set_option maxRecDepth 20000 in
theorem ze_L_isStep_579 {a b : Int32} : z_Y C zc_L_isStep R 579 ls (bb_I b :: bb_I a :: st) T ↔ (if a < b then z_Y C zc_L_isStep R 593 ls st T else z_Y C zc_L_isStep R 582 ls st T) := Iff.trans (z_Y_at (cd := zc_L_isStep) (pc := 579) (zo_iclt 593 582) rfl) (Iff.of_eq z_do_ite)
set_option maxRecDepth 20000 in
theorem ze_L_isStep_582 {k j : Nat} {t : List bb_V} : z_Y C zc_L_isStep R 582 (bb_R k j :: t) st T ↔ z_Y C zc_L_isStep R 583 (bb_R k j :: t) (bb_R k j :: st) T := Iff.trans (z_Y_at (cd := zc_L_isStep) (pc := 582) (zo_aload 0 583) rfl) (Iff.of_eq rfl)
set_option maxRecDepth 20000 in
theorem ze_L_isStep_583  : z_Y C zc_L_isStep R 583 ls st T ↔ z_Y C zc_L_isStep R 585 ls (bb_I 17 :: st) T := Iff.trans (z_Y_at (cd := zc_L_isStep) (pc := 583) (zo_const 17 585) rfl) (Iff.of_eq rfl)
set_option maxRecDepth 20000 in
theorem ze_L_isStep_585 {x1 : Int32} : z_Y C zc_L_isStep R 585 ls (bb_I x1 :: bb_R 40 0 :: []) T ↔ z_call C 34 [bb_R 40 0, bb_I x1] T (fun r T2 => z_Y C zc_L_isStep R 588 ls (bb_I r :: []) T2) := Iff.trans (z_Y_at (cd := zc_L_isStep) (pc := 585) (zo_callv 34 2 588) rfl) ((zq_callv_2 (by decide) (by decide)).trans ⟨fun h => h.2, fun h => ⟨Nat.le_of_ble_eq_true rfl, h⟩⟩)
set_option maxRecDepth 20000 in
theorem ze_L_isStep_588 {p0 p1 p2 p3 p4 p5 p6 p7 p8 : bb_V} {x : Int32} {t : List bb_V} : z_Y C zc_L_isStep R 588 (p0 :: p1 :: p2 :: p3 :: p4 :: p5 :: p6 :: p7 :: p8 :: bb_I x :: t) st T ↔ z_Y C zc_L_isStep R 590 (p0 :: p1 :: p2 :: p3 :: p4 :: p5 :: p6 :: p7 :: p8 :: bb_I x :: t) (bb_I x :: st) T := Iff.trans (z_Y_at (cd := zc_L_isStep) (pc := 588) (zo_iload 9 590) rfl) (Iff.of_eq rfl)
set_option maxRecDepth 20000 in
theorem ze_L_isStep_590 {a b : Int32} : z_Y C zc_L_isStep R 590 ls (bb_I b :: bb_I a :: st) T ↔ (if b < a then z_Y C zc_L_isStep R 615 ls st T else z_Y C zc_L_isStep R 593 ls st T) := Iff.trans (z_Y_at (cd := zc_L_isStep) (pc := 590) (zo_icgt 615 593) rfl) (Iff.of_eq z_do_ite)
set_option maxRecDepth 20000 in
theorem ze_L_isStep_593 {p0 p1 p2 p3 p4 p5 p6 p7 : bb_V} {x : Int32} {t : List bb_V} : z_Y C zc_L_isStep R 593 (p0 :: p1 :: p2 :: p3 :: p4 :: p5 :: p6 :: p7 :: bb_I x :: t) st T ↔ z_Y C zc_L_isStep R 595 (p0 :: p1 :: p2 :: p3 :: p4 :: p5 :: p6 :: p7 :: bb_I x :: t) (bb_I x :: st) T := Iff.trans (z_Y_at (cd := zc_L_isStep) (pc := 593) (zo_iload 8 595) rfl) (Iff.of_eq rfl)
set_option maxRecDepth 20000 in
theorem ze_L_isStep_595 {p0 p1 p2 p3 p4 p5 p6 p7 p8 p9 : bb_V} {x : Int32} {t : List bb_V} : z_Y C zc_L_isStep R 595 (p0 :: p1 :: p2 :: p3 :: p4 :: p5 :: p6 :: p7 :: p8 :: p9 :: bb_I x :: t) st T ↔ z_Y C zc_L_isStep R 597 (p0 :: p1 :: p2 :: p3 :: p4 :: p5 :: p6 :: p7 :: p8 :: p9 :: bb_I x :: t) (bb_I x :: st) T := Iff.trans (z_Y_at (cd := zc_L_isStep) (pc := 595) (zo_iload 10 597) rfl) (Iff.of_eq rfl)
set_option maxRecDepth 20000 in
theorem ze_L_isStep_597 {a b : Int32} : z_Y C zc_L_isStep R 597 ls (bb_I b :: bb_I a :: st) T ↔ (if b < a then z_Y C zc_L_isStep R 611 ls st T else z_Y C zc_L_isStep R 600 ls st T) := Iff.trans (z_Y_at (cd := zc_L_isStep) (pc := 597) (zo_icgt 611 600) rfl) (Iff.of_eq z_do_ite)
set_option maxRecDepth 20000 in
theorem ze_L_isStep_600 {k j : Nat} {t : List bb_V} : z_Y C zc_L_isStep R 600 (bb_R k j :: t) st T ↔ z_Y C zc_L_isStep R 601 (bb_R k j :: t) (bb_R k j :: st) T := Iff.trans (z_Y_at (cd := zc_L_isStep) (pc := 600) (zo_aload 0 601) rfl) (Iff.of_eq rfl)
set_option maxRecDepth 20000 in
theorem ze_L_isStep_601  : z_Y C zc_L_isStep R 601 ls st T ↔ z_Y C zc_L_isStep R 603 ls (bb_I 17 :: st) T := Iff.trans (z_Y_at (cd := zc_L_isStep) (pc := 601) (zo_const 17 603) rfl) (Iff.of_eq rfl)
set_option maxRecDepth 20000 in
theorem ze_L_isStep_603 {x1 : Int32} : z_Y C zc_L_isStep R 603 ls (bb_I x1 :: bb_R 40 0 :: []) T ↔ z_call C 34 [bb_R 40 0, bb_I x1] T (fun r T2 => z_Y C zc_L_isStep R 606 ls (bb_I r :: []) T2) := Iff.trans (z_Y_at (cd := zc_L_isStep) (pc := 603) (zo_callv 34 2 606) rfl) ((zq_callv_2 (by decide) (by decide)).trans ⟨fun h => h.2, fun h => ⟨Nat.le_of_ble_eq_true rfl, h⟩⟩)
set_option maxRecDepth 20000 in
theorem ze_L_isStep_606 {p0 p1 p2 p3 p4 p5 p6 p7 p8 : bb_V} {x : Int32} {t : List bb_V} : z_Y C zc_L_isStep R 606 (p0 :: p1 :: p2 :: p3 :: p4 :: p5 :: p6 :: p7 :: p8 :: bb_I x :: t) st T ↔ z_Y C zc_L_isStep R 608 (p0 :: p1 :: p2 :: p3 :: p4 :: p5 :: p6 :: p7 :: p8 :: bb_I x :: t) (bb_I x :: st) T := Iff.trans (z_Y_at (cd := zc_L_isStep) (pc := 606) (zo_iload 9 608) rfl) (Iff.of_eq rfl)
set_option maxRecDepth 20000 in
theorem ze_L_isStep_608 {a b : Int32} : z_Y C zc_L_isStep R 608 ls (bb_I b :: bb_I a :: st) T ↔ (if a < b then z_Y C zc_L_isStep R 615 ls st T else z_Y C zc_L_isStep R 611 ls st T) := Iff.trans (z_Y_at (cd := zc_L_isStep) (pc := 608) (zo_iclt 615 611) rfl) (Iff.of_eq z_do_ite)
set_option maxRecDepth 20000 in
theorem ze_L_isStep_611  : z_Y C zc_L_isStep R 611 ls st T ↔ z_Y C zc_L_isStep R 612 ls (bb_I 1 :: st) T := Iff.trans (z_Y_at (cd := zc_L_isStep) (pc := 611) (zo_const 1 612) rfl) (Iff.of_eq rfl)
set_option maxRecDepth 20000 in
theorem ze_L_isStep_612  : z_Y C zc_L_isStep R 612 ls st T ↔ z_Y C zc_L_isStep R 616 ls st T := Iff.trans (z_Y_at (cd := zc_L_isStep) (pc := 612) (zo_goto 616) rfl) (Iff.of_eq rfl)
set_option maxRecDepth 20000 in
theorem ze_L_isStep_615  : z_Y C zc_L_isStep R 615 ls st T ↔ z_Y C zc_L_isStep R 616 ls (bb_I 0 :: st) T := Iff.trans (z_Y_at (cd := zc_L_isStep) (pc := 615) (zo_const 0 616) rfl) (Iff.of_eq rfl)
set_option maxRecDepth 20000 in
theorem ze_L_isStep_616 {v : Int32} : z_Y C zc_L_isStep R 616 ls [bb_I v] T ↔ ((v = 0 ∨ v = 1) ∧ R v T) := Iff.trans (z_Y_at (cd := zc_L_isStep) (pc := 616) (zo_zret) rfl) (zq_zret)
set_option maxRecDepth 20000 in
theorem ze_L_isStep_617 {p0 p1 p2 p3 : bb_V} {x : Int32} {t : List bb_V} : z_Y C zc_L_isStep R 617 (p0 :: p1 :: p2 :: p3 :: bb_I x :: t) st T ↔ z_Y C zc_L_isStep R 619 (p0 :: p1 :: p2 :: p3 :: bb_I x :: t) (bb_I x :: st) T := Iff.trans (z_Y_at (cd := zc_L_isStep) (pc := 617) (zo_iload 4 619) rfl) (Iff.of_eq rfl)
set_option maxRecDepth 20000 in
theorem ze_L_isStep_619  : z_Y C zc_L_isStep R 619 ls st T ↔ z_Y C zc_L_isStep R 620 ls (bb_I 4 :: st) T := Iff.trans (z_Y_at (cd := zc_L_isStep) (pc := 619) (zo_const 4 620) rfl) (Iff.of_eq rfl)
set_option maxRecDepth 20000 in
theorem ze_L_isStep_620 {x0 : Int32} {x1 : Int32} : z_Y C zc_L_isStep R 620 ls (bb_I x1 :: bb_I x0 :: []) T ↔ z_call C 1 [bb_I x0, bb_I x1] T (fun r T2 => z_Y C zc_L_isStep R 623 ls (bb_I r :: []) T2) := Iff.trans (z_Y_at (cd := zc_L_isStep) (pc := 620) (zo_call 1 2 623) rfl) ((zq_call_2 (by decide)).trans ⟨fun h => h.2, fun h => ⟨⟨Nat.le_of_ble_eq_true rfl, rfl⟩, h⟩⟩)
set_option maxRecDepth 20000 in
theorem ze_L_isStep_623 {p0 p1 p2 p3 p4 p5 p6 p7 : bb_V} {x : Int32} {q : bb_V} {t : List bb_V} : z_Y C zc_L_isStep R 623 (p0 :: p1 :: p2 :: p3 :: p4 :: p5 :: p6 :: p7 :: q :: t) (bb_I x :: st) T ↔ z_Y C zc_L_isStep R 625 (p0 :: p1 :: p2 :: p3 :: p4 :: p5 :: p6 :: p7 :: bb_I x :: t) st T := Iff.trans (z_Y_at (cd := zc_L_isStep) (pc := 623) (zo_istore 8 625) rfl) (Iff.of_eq rfl)
set_option maxRecDepth 20000 in
theorem ze_L_isStep_625 {p0 p1 p2 p3 p4 p5 p6 p7 : bb_V} {x : Int32} {t : List bb_V} : z_Y C zc_L_isStep R 625 (p0 :: p1 :: p2 :: p3 :: p4 :: p5 :: p6 :: p7 :: bb_I x :: t) st T ↔ z_Y C zc_L_isStep R 627 (p0 :: p1 :: p2 :: p3 :: p4 :: p5 :: p6 :: p7 :: bb_I x :: t) (bb_I x :: st) T := Iff.trans (z_Y_at (cd := zc_L_isStep) (pc := 625) (zo_iload 8 627) rfl) (Iff.of_eq rfl)
set_option maxRecDepth 20000 in
theorem ze_L_isStep_627 {a : Int32} : z_Y C zc_L_isStep R 627 ls (bb_I a :: st) T ↔ (if a = 0 then z_Y C zc_L_isStep R 636 ls st T else z_Y C zc_L_isStep R 630 ls st T) := Iff.trans (z_Y_at (cd := zc_L_isStep) (pc := 627) (zo_ifeq 636 630) rfl) (Iff.of_eq z_do_ite)
set_option maxRecDepth 20000 in
theorem ze_L_isStep_630 {p0 p1 p2 p3 p4 p5 p6 p7 : bb_V} {x : Int32} {t : List bb_V} : z_Y C zc_L_isStep R 630 (p0 :: p1 :: p2 :: p3 :: p4 :: p5 :: p6 :: p7 :: bb_I x :: t) st T ↔ z_Y C zc_L_isStep R 632 (p0 :: p1 :: p2 :: p3 :: p4 :: p5 :: p6 :: p7 :: bb_I x :: t) (bb_I x :: st) T := Iff.trans (z_Y_at (cd := zc_L_isStep) (pc := 630) (zo_iload 8 632) rfl) (Iff.of_eq rfl)
set_option maxRecDepth 20000 in
theorem ze_L_isStep_632  : z_Y C zc_L_isStep R 632 ls st T ↔ z_Y C zc_L_isStep R 633 ls (bb_I 2 :: st) T := Iff.trans (z_Y_at (cd := zc_L_isStep) (pc := 632) (zo_const 2 633) rfl) (Iff.of_eq rfl)
set_option maxRecDepth 20000 in
theorem ze_L_isStep_633 {a b : Int32} : z_Y C zc_L_isStep R 633 ls (bb_I b :: bb_I a :: st) T ↔ (if a ≠ b then z_Y C zc_L_isStep R 647 ls st T else z_Y C zc_L_isStep R 636 ls st T) := Iff.trans (z_Y_at (cd := zc_L_isStep) (pc := 633) (zo_icne 647 636) rfl) (Iff.of_eq z_do_ite)
set_option maxRecDepth 20000 in
theorem ze_L_isStep_636  : z_Y C zc_L_isStep R 636 ls st T ↔ z_Y C zc_L_isStep R 637 ls (bb_I 1 :: st) T := Iff.trans (z_Y_at (cd := zc_L_isStep) (pc := 636) (zo_const 1 637) rfl) (Iff.of_eq rfl)
set_option maxRecDepth 20000 in
theorem ze_L_isStep_637 {p0 p1 p2 : bb_V} {x : Int32} {t : List bb_V} : z_Y C zc_L_isStep R 637 (p0 :: p1 :: p2 :: bb_I x :: t) st T ↔ z_Y C zc_L_isStep R 638 (p0 :: p1 :: p2 :: bb_I x :: t) (bb_I x :: st) T := Iff.trans (z_Y_at (cd := zc_L_isStep) (pc := 637) (zo_iload 3 638) rfl) (Iff.of_eq rfl)
set_option maxRecDepth 20000 in
theorem ze_L_isStep_638  : z_Y C zc_L_isStep R 638 ls st T ↔ z_Y C zc_L_isStep R 640 ls (bb_I 20 :: st) T := Iff.trans (z_Y_at (cd := zc_L_isStep) (pc := 638) (zo_const 20 640) rfl) (Iff.of_eq rfl)
set_option maxRecDepth 20000 in
theorem ze_L_isStep_640 {x0 : Int32} {x1 : Int32} {z0 : Int32} : z_Y C zc_L_isStep R 640 ls (bb_I x1 :: bb_I x0 :: [bb_I z0]) T ↔ z_call C 1 [bb_I x0, bb_I x1] T (fun r T2 => z_Y C zc_L_isStep R 643 ls (bb_I r :: [bb_I z0]) T2) := Iff.trans (z_Y_at (cd := zc_L_isStep) (pc := 640) (zo_call 1 2 643) rfl) ((zq_call_2 (by decide)).trans ⟨fun h => h.2, fun h => ⟨⟨Nat.le_of_ble_eq_true rfl, rfl⟩, h⟩⟩)
set_option maxRecDepth 20000 in
theorem ze_L_isStep_643 {a b : Int32} : z_Y C zc_L_isStep R 643 ls (bb_I b :: bb_I a :: st) T ↔ z_Y C zc_L_isStep R 644 ls (bb_I (a + b) :: st) T := Iff.trans (z_Y_at (cd := zc_L_isStep) (pc := 643) (zo_iadd 644) rfl) (Iff.of_eq rfl)
set_option maxRecDepth 20000 in
theorem ze_L_isStep_644  : z_Y C zc_L_isStep R 644 ls st T ↔ z_Y C zc_L_isStep R 669 ls st T := Iff.trans (z_Y_at (cd := zc_L_isStep) (pc := 644) (zo_goto 669) rfl) (Iff.of_eq rfl)
set_option maxRecDepth 20000 in
theorem ze_L_isStep_647 {p0 p1 p2 p3 p4 p5 p6 p7 : bb_V} {x : Int32} {t : List bb_V} : z_Y C zc_L_isStep R 647 (p0 :: p1 :: p2 :: p3 :: p4 :: p5 :: p6 :: p7 :: bb_I x :: t) st T ↔ z_Y C zc_L_isStep R 649 (p0 :: p1 :: p2 :: p3 :: p4 :: p5 :: p6 :: p7 :: bb_I x :: t) (bb_I x :: st) T := Iff.trans (z_Y_at (cd := zc_L_isStep) (pc := 647) (zo_iload 8 649) rfl) (Iff.of_eq rfl)
set_option maxRecDepth 20000 in
theorem ze_L_isStep_649  : z_Y C zc_L_isStep R 649 ls st T ↔ z_Y C zc_L_isStep R 650 ls (bb_I 1 :: st) T := Iff.trans (z_Y_at (cd := zc_L_isStep) (pc := 649) (zo_const 1 650) rfl) (Iff.of_eq rfl)
set_option maxRecDepth 20000 in
theorem ze_L_isStep_650 {a b : Int32} : z_Y C zc_L_isStep R 650 ls (bb_I b :: bb_I a :: st) T ↔ (if a ≠ b then z_Y C zc_L_isStep R 661 ls st T else z_Y C zc_L_isStep R 653 ls st T) := Iff.trans (z_Y_at (cd := zc_L_isStep) (pc := 650) (zo_icne 661 653) rfl) (Iff.of_eq z_do_ite)
set_option maxRecDepth 20000 in
theorem ze_L_isStep_653 {p0 p1 p2 : bb_V} {x : Int32} {t : List bb_V} : z_Y C zc_L_isStep R 653 (p0 :: p1 :: p2 :: bb_I x :: t) st T ↔ z_Y C zc_L_isStep R 654 (p0 :: p1 :: p2 :: bb_I x :: t) (bb_I x :: st) T := Iff.trans (z_Y_at (cd := zc_L_isStep) (pc := 653) (zo_iload 3 654) rfl) (Iff.of_eq rfl)
set_option maxRecDepth 20000 in
theorem ze_L_isStep_654  : z_Y C zc_L_isStep R 654 ls st T ↔ z_Y C zc_L_isStep R 655 ls (bb_I 3 :: st) T := Iff.trans (z_Y_at (cd := zc_L_isStep) (pc := 654) (zo_const 3 655) rfl) (Iff.of_eq rfl)
set_option maxRecDepth 20000 in
theorem ze_L_isStep_655 {x0 : Int32} {x1 : Int32} : z_Y C zc_L_isStep R 655 ls (bb_I x1 :: bb_I x0 :: []) T ↔ z_call C 1 [bb_I x0, bb_I x1] T (fun r T2 => z_Y C zc_L_isStep R 658 ls (bb_I r :: []) T2) := Iff.trans (z_Y_at (cd := zc_L_isStep) (pc := 655) (zo_call 1 2 658) rfl) ((zq_call_2 (by decide)).trans ⟨fun h => h.2, fun h => ⟨⟨Nat.le_of_ble_eq_true rfl, rfl⟩, h⟩⟩)
set_option maxRecDepth 20000 in
theorem ze_L_isStep_658  : z_Y C zc_L_isStep R 658 ls st T ↔ z_Y C zc_L_isStep R 669 ls st T := Iff.trans (z_Y_at (cd := zc_L_isStep) (pc := 658) (zo_goto 669) rfl) (Iff.of_eq rfl)
set_option maxRecDepth 20000 in
theorem ze_L_isStep_661  : z_Y C zc_L_isStep R 661 ls st T ↔ z_Y C zc_L_isStep R 662 ls (bb_I 4 :: st) T := Iff.trans (z_Y_at (cd := zc_L_isStep) (pc := 661) (zo_const 4 662) rfl) (Iff.of_eq rfl)
set_option maxRecDepth 20000 in
theorem ze_L_isStep_662 {p0 p1 p2 : bb_V} {x : Int32} {t : List bb_V} : z_Y C zc_L_isStep R 662 (p0 :: p1 :: p2 :: bb_I x :: t) st T ↔ z_Y C zc_L_isStep R 663 (p0 :: p1 :: p2 :: bb_I x :: t) (bb_I x :: st) T := Iff.trans (z_Y_at (cd := zc_L_isStep) (pc := 662) (zo_iload 3 663) rfl) (Iff.of_eq rfl)
set_option maxRecDepth 20000 in
theorem ze_L_isStep_663  : z_Y C zc_L_isStep R 663 ls st T ↔ z_Y C zc_L_isStep R 665 ls (bb_I 27 :: st) T := Iff.trans (z_Y_at (cd := zc_L_isStep) (pc := 663) (zo_const 27 665) rfl) (Iff.of_eq rfl)
set_option maxRecDepth 20000 in
theorem ze_L_isStep_665 {x0 : Int32} {x1 : Int32} {z0 : Int32} : z_Y C zc_L_isStep R 665 ls (bb_I x1 :: bb_I x0 :: [bb_I z0]) T ↔ z_call C 1 [bb_I x0, bb_I x1] T (fun r T2 => z_Y C zc_L_isStep R 668 ls (bb_I r :: [bb_I z0]) T2) := Iff.trans (z_Y_at (cd := zc_L_isStep) (pc := 665) (zo_call 1 2 668) rfl) ((zq_call_2 (by decide)).trans ⟨fun h => h.2, fun h => ⟨⟨Nat.le_of_ble_eq_true rfl, rfl⟩, h⟩⟩)
set_option maxRecDepth 20000 in
theorem ze_L_isStep_668 {a b : Int32} : z_Y C zc_L_isStep R 668 ls (bb_I b :: bb_I a :: st) T ↔ z_Y C zc_L_isStep R 669 ls (bb_I (a + b) :: st) T := Iff.trans (z_Y_at (cd := zc_L_isStep) (pc := 668) (zo_iadd 669) rfl) (Iff.of_eq rfl)
set_option maxRecDepth 20000 in
theorem ze_L_isStep_669 {p0 p1 p2 p3 p4 p5 p6 p7 p8 : bb_V} {x : Int32} {q : bb_V} {t : List bb_V} : z_Y C zc_L_isStep R 669 (p0 :: p1 :: p2 :: p3 :: p4 :: p5 :: p6 :: p7 :: p8 :: q :: t) (bb_I x :: st) T ↔ z_Y C zc_L_isStep R 671 (p0 :: p1 :: p2 :: p3 :: p4 :: p5 :: p6 :: p7 :: p8 :: bb_I x :: t) st T := Iff.trans (z_Y_at (cd := zc_L_isStep) (pc := 669) (zo_istore 9 671) rfl) (Iff.of_eq rfl)
set_option maxRecDepth 20000 in
theorem ze_L_isStep_671 {k j : Nat} {t : List bb_V} : z_Y C zc_L_isStep R 671 (bb_R k j :: t) st T ↔ z_Y C zc_L_isStep R 672 (bb_R k j :: t) (bb_R k j :: st) T := Iff.trans (z_Y_at (cd := zc_L_isStep) (pc := 671) (zo_aload 0 672) rfl) (Iff.of_eq rfl)
set_option maxRecDepth 20000 in
theorem ze_L_isStep_672 {p0 p1 p2 p3 p4 p5 p6 p7 : bb_V} {x : Int32} {t : List bb_V} : z_Y C zc_L_isStep R 672 (p0 :: p1 :: p2 :: p3 :: p4 :: p5 :: p6 :: p7 :: bb_I x :: t) st T ↔ z_Y C zc_L_isStep R 674 (p0 :: p1 :: p2 :: p3 :: p4 :: p5 :: p6 :: p7 :: bb_I x :: t) (bb_I x :: st) T := Iff.trans (z_Y_at (cd := zc_L_isStep) (pc := 672) (zo_iload 8 674) rfl) (Iff.of_eq rfl)
set_option maxRecDepth 20000 in
theorem ze_L_isStep_674 {p0 p1 p2 p3 p4 p5 p6 p7 p8 : bb_V} {x : Int32} {t : List bb_V} : z_Y C zc_L_isStep R 674 (p0 :: p1 :: p2 :: p3 :: p4 :: p5 :: p6 :: p7 :: p8 :: bb_I x :: t) st T ↔ z_Y C zc_L_isStep R 676 (p0 :: p1 :: p2 :: p3 :: p4 :: p5 :: p6 :: p7 :: p8 :: bb_I x :: t) (bb_I x :: st) T := Iff.trans (z_Y_at (cd := zc_L_isStep) (pc := 674) (zo_iload 9 676) rfl) (Iff.of_eq rfl)
set_option maxRecDepth 20000 in
theorem ze_L_isStep_676 {x1 : Int32} {x2 : Int32} : z_Y C zc_L_isStep R 676 ls (bb_I x2 :: bb_I x1 :: bb_R 40 0 :: []) T ↔ z_call C 22 [bb_R 40 0, bb_I x1, bb_I x2] T (fun r T2 => z_Y C zc_L_isStep R 679 ls (bb_I r :: []) T2) := Iff.trans (z_Y_at (cd := zc_L_isStep) (pc := 676) (zo_callv 22 3 679) rfl) ((zq_callv_3 (by decide) (by decide)).trans ⟨fun h => h.2, fun h => ⟨Nat.le_of_ble_eq_true rfl, h⟩⟩)
set_option maxRecDepth 20000 in
theorem ze_L_isStep_679 {p0 : bb_V} {k j : Nat} {t : List bb_V} : z_Y C zc_L_isStep R 679 (p0 :: bb_R k j :: t) st T ↔ z_Y C zc_L_isStep R 680 (p0 :: bb_R k j :: t) (bb_R k j :: st) T := Iff.trans (z_Y_at (cd := zc_L_isStep) (pc := 679) (zo_aload 1 680) rfl) (Iff.of_eq rfl)
set_option maxRecDepth 20000 in
theorem ze_L_isStep_680 {p0 p1 p2 p3 p4 p5 p6 p7 : bb_V} {x : Int32} {t : List bb_V} : z_Y C zc_L_isStep R 680 (p0 :: p1 :: p2 :: p3 :: p4 :: p5 :: p6 :: p7 :: bb_I x :: t) st T ↔ z_Y C zc_L_isStep R 682 (p0 :: p1 :: p2 :: p3 :: p4 :: p5 :: p6 :: p7 :: bb_I x :: t) (bb_I x :: st) T := Iff.trans (z_Y_at (cd := zc_L_isStep) (pc := 680) (zo_iload 8 682) rfl) (Iff.of_eq rfl)
set_option maxRecDepth 20000 in
theorem ze_L_isStep_682 {p0 p1 p2 p3 p4 p5 p6 p7 p8 : bb_V} {x : Int32} {t : List bb_V} : z_Y C zc_L_isStep R 682 (p0 :: p1 :: p2 :: p3 :: p4 :: p5 :: p6 :: p7 :: p8 :: bb_I x :: t) st T ↔ z_Y C zc_L_isStep R 684 (p0 :: p1 :: p2 :: p3 :: p4 :: p5 :: p6 :: p7 :: p8 :: bb_I x :: t) (bb_I x :: st) T := Iff.trans (z_Y_at (cd := zc_L_isStep) (pc := 682) (zo_iload 9 684) rfl) (Iff.of_eq rfl)
set_option maxRecDepth 20000 in
theorem ze_L_isStep_684 {x1 : Int32} {x2 : Int32} {z0 : Int32} : z_Y C zc_L_isStep R 684 ls (bb_I x2 :: bb_I x1 :: bb_R 41 0 :: [bb_I z0]) T ↔ z_call C 22 [bb_R 41 0, bb_I x1, bb_I x2] T (fun r T2 => z_Y C zc_L_isStep R 687 ls (bb_I r :: [bb_I z0]) T2) := Iff.trans (z_Y_at (cd := zc_L_isStep) (pc := 684) (zo_callv 22 3 687) rfl) ((zq_callv_3 (by decide) (by decide)).trans ⟨fun h => h.2, fun h => ⟨Nat.le_of_ble_eq_true rfl, h⟩⟩)
set_option maxRecDepth 20000 in
theorem ze_L_isStep_687 {a b : Int32} : z_Y C zc_L_isStep R 687 ls (bb_I b :: bb_I a :: st) T ↔ (if a ≠ b then z_Y C zc_L_isStep R 708 ls st T else z_Y C zc_L_isStep R 690 ls st T) := Iff.trans (z_Y_at (cd := zc_L_isStep) (pc := 687) (zo_icne 708 690) rfl) (Iff.of_eq z_do_ite)
set_option maxRecDepth 20000 in
theorem ze_L_isStep_690 {k j : Nat} {t : List bb_V} : z_Y C zc_L_isStep R 690 (bb_R k j :: t) st T ↔ z_Y C zc_L_isStep R 691 (bb_R k j :: t) (bb_R k j :: st) T := Iff.trans (z_Y_at (cd := zc_L_isStep) (pc := 690) (zo_aload 0 691) rfl) (Iff.of_eq rfl)
set_option maxRecDepth 20000 in
theorem ze_L_isStep_691  : z_Y C zc_L_isStep R 691 ls st T ↔ z_Y C zc_L_isStep R 693 ls (bb_I 11 :: st) T := Iff.trans (z_Y_at (cd := zc_L_isStep) (pc := 691) (zo_const 11 693) rfl) (Iff.of_eq rfl)
set_option maxRecDepth 20000 in
theorem ze_L_isStep_693 {p0 p1 p2 p3 p4 p5 p6 p7 : bb_V} {x : Int32} {t : List bb_V} : z_Y C zc_L_isStep R 693 (p0 :: p1 :: p2 :: p3 :: p4 :: p5 :: p6 :: p7 :: bb_I x :: t) st T ↔ z_Y C zc_L_isStep R 695 (p0 :: p1 :: p2 :: p3 :: p4 :: p5 :: p6 :: p7 :: bb_I x :: t) (bb_I x :: st) T := Iff.trans (z_Y_at (cd := zc_L_isStep) (pc := 693) (zo_iload 8 695) rfl) (Iff.of_eq rfl)
set_option maxRecDepth 20000 in
theorem ze_L_isStep_695 {a b : Int32} : z_Y C zc_L_isStep R 695 ls (bb_I b :: bb_I a :: st) T ↔ z_Y C zc_L_isStep R 696 ls (bb_I (a + b) :: st) T := Iff.trans (z_Y_at (cd := zc_L_isStep) (pc := 695) (zo_iadd 696) rfl) (Iff.of_eq rfl)
set_option maxRecDepth 20000 in
theorem ze_L_isStep_696 {x1 : Int32} : z_Y C zc_L_isStep R 696 ls (bb_I x1 :: bb_R 40 0 :: []) T ↔ z_call C 34 [bb_R 40 0, bb_I x1] T (fun r T2 => z_Y C zc_L_isStep R 699 ls (bb_I r :: []) T2) := Iff.trans (z_Y_at (cd := zc_L_isStep) (pc := 696) (zo_callv 34 2 699) rfl) ((zq_callv_2 (by decide) (by decide)).trans ⟨fun h => h.2, fun h => ⟨Nat.le_of_ble_eq_true rfl, h⟩⟩)
set_option maxRecDepth 20000 in
theorem ze_L_isStep_699 {p0 p1 p2 p3 p4 p5 p6 p7 p8 : bb_V} {x : Int32} {t : List bb_V} : z_Y C zc_L_isStep R 699 (p0 :: p1 :: p2 :: p3 :: p4 :: p5 :: p6 :: p7 :: p8 :: bb_I x :: t) st T ↔ z_Y C zc_L_isStep R 701 (p0 :: p1 :: p2 :: p3 :: p4 :: p5 :: p6 :: p7 :: p8 :: bb_I x :: t) (bb_I x :: st) T := Iff.trans (z_Y_at (cd := zc_L_isStep) (pc := 699) (zo_iload 9 701) rfl) (Iff.of_eq rfl)
set_option maxRecDepth 20000 in
theorem ze_L_isStep_701 {a b : Int32} : z_Y C zc_L_isStep R 701 ls (bb_I b :: bb_I a :: st) T ↔ (if a ≠ b then z_Y C zc_L_isStep R 708 ls st T else z_Y C zc_L_isStep R 704 ls st T) := Iff.trans (z_Y_at (cd := zc_L_isStep) (pc := 701) (zo_icne 708 704) rfl) (Iff.of_eq z_do_ite)
set_option maxRecDepth 20000 in
theorem ze_L_isStep_704  : z_Y C zc_L_isStep R 704 ls st T ↔ z_Y C zc_L_isStep R 705 ls (bb_I 1 :: st) T := Iff.trans (z_Y_at (cd := zc_L_isStep) (pc := 704) (zo_const 1 705) rfl) (Iff.of_eq rfl)
set_option maxRecDepth 20000 in
theorem ze_L_isStep_705  : z_Y C zc_L_isStep R 705 ls st T ↔ z_Y C zc_L_isStep R 709 ls st T := Iff.trans (z_Y_at (cd := zc_L_isStep) (pc := 705) (zo_goto 709) rfl) (Iff.of_eq rfl)
set_option maxRecDepth 20000 in
theorem ze_L_isStep_708  : z_Y C zc_L_isStep R 708 ls st T ↔ z_Y C zc_L_isStep R 709 ls (bb_I 0 :: st) T := Iff.trans (z_Y_at (cd := zc_L_isStep) (pc := 708) (zo_const 0 709) rfl) (Iff.of_eq rfl)
set_option maxRecDepth 20000 in
theorem ze_L_isStep_709 {v : Int32} : z_Y C zc_L_isStep R 709 ls [bb_I v] T ↔ ((v = 0 ∨ v = 1) ∧ R v T) := Iff.trans (z_Y_at (cd := zc_L_isStep) (pc := 709) (zo_zret) rfl) (zq_zret)
set_option maxRecDepth 20000 in
theorem ze_L_isStep_710 {k j : Nat} {t : List bb_V} : z_Y C zc_L_isStep R 710 (bb_R k j :: t) st T ↔ z_Y C zc_L_isStep R 711 (bb_R k j :: t) (bb_R k j :: st) T := Iff.trans (z_Y_at (cd := zc_L_isStep) (pc := 710) (zo_aload 0 711) rfl) (Iff.of_eq rfl)
set_option maxRecDepth 20000 in
theorem ze_L_isStep_711  : z_Y C zc_L_isStep R 711 ls st T ↔ z_Y C zc_L_isStep R 713 ls (bb_I 7 :: st) T := Iff.trans (z_Y_at (cd := zc_L_isStep) (pc := 711) (zo_const 7 713) rfl) (Iff.of_eq rfl)
set_option maxRecDepth 20000 in
theorem ze_L_isStep_713 {x1 : Int32} : z_Y C zc_L_isStep R 713 ls (bb_I x1 :: bb_R 40 0 :: []) T ↔ z_call C 34 [bb_R 40 0, bb_I x1] T (fun r T2 => z_Y C zc_L_isStep R 716 ls (bb_I r :: []) T2) := Iff.trans (z_Y_at (cd := zc_L_isStep) (pc := 713) (zo_callv 34 2 716) rfl) ((zq_callv_2 (by decide) (by decide)).trans ⟨fun h => h.2, fun h => ⟨Nat.le_of_ble_eq_true rfl, h⟩⟩)
set_option maxRecDepth 20000 in
theorem ze_L_isStep_716 {p0 p1 p2 p3 p4 p5 p6 p7 : bb_V} {x : Int32} {q : bb_V} {t : List bb_V} : z_Y C zc_L_isStep R 716 (p0 :: p1 :: p2 :: p3 :: p4 :: p5 :: p6 :: p7 :: q :: t) (bb_I x :: st) T ↔ z_Y C zc_L_isStep R 718 (p0 :: p1 :: p2 :: p3 :: p4 :: p5 :: p6 :: p7 :: bb_I x :: t) st T := Iff.trans (z_Y_at (cd := zc_L_isStep) (pc := 716) (zo_istore 8 718) rfl) (Iff.of_eq rfl)
set_option maxRecDepth 20000 in
theorem ze_L_isStep_718 {k j : Nat} {t : List bb_V} : z_Y C zc_L_isStep R 718 (bb_R k j :: t) st T ↔ z_Y C zc_L_isStep R 719 (bb_R k j :: t) (bb_R k j :: st) T := Iff.trans (z_Y_at (cd := zc_L_isStep) (pc := 718) (zo_aload 0 719) rfl) (Iff.of_eq rfl)
set_option maxRecDepth 20000 in
theorem ze_L_isStep_719  : z_Y C zc_L_isStep R 719 ls st T ↔ z_Y C zc_L_isStep R 721 ls (bb_I 8 :: st) T := Iff.trans (z_Y_at (cd := zc_L_isStep) (pc := 719) (zo_const 8 721) rfl) (Iff.of_eq rfl)
set_option maxRecDepth 20000 in
theorem ze_L_isStep_721 {x1 : Int32} : z_Y C zc_L_isStep R 721 ls (bb_I x1 :: bb_R 40 0 :: []) T ↔ z_call C 34 [bb_R 40 0, bb_I x1] T (fun r T2 => z_Y C zc_L_isStep R 724 ls (bb_I r :: []) T2) := Iff.trans (z_Y_at (cd := zc_L_isStep) (pc := 721) (zo_callv 34 2 724) rfl) ((zq_callv_2 (by decide) (by decide)).trans ⟨fun h => h.2, fun h => ⟨Nat.le_of_ble_eq_true rfl, h⟩⟩)
set_option maxRecDepth 20000 in
theorem ze_L_isStep_724 {p0 p1 p2 p3 p4 p5 p6 p7 p8 : bb_V} {x : Int32} {q : bb_V} {t : List bb_V} : z_Y C zc_L_isStep R 724 (p0 :: p1 :: p2 :: p3 :: p4 :: p5 :: p6 :: p7 :: p8 :: q :: t) (bb_I x :: st) T ↔ z_Y C zc_L_isStep R 726 (p0 :: p1 :: p2 :: p3 :: p4 :: p5 :: p6 :: p7 :: p8 :: bb_I x :: t) st T := Iff.trans (z_Y_at (cd := zc_L_isStep) (pc := 724) (zo_istore 9 726) rfl) (Iff.of_eq rfl)
set_option maxRecDepth 20000 in
theorem ze_L_isStep_726 {k j : Nat} {t : List bb_V} : z_Y C zc_L_isStep R 726 (bb_R k j :: t) st T ↔ z_Y C zc_L_isStep R 727 (bb_R k j :: t) (bb_R k j :: st) T := Iff.trans (z_Y_at (cd := zc_L_isStep) (pc := 726) (zo_aload 0 727) rfl) (Iff.of_eq rfl)
set_option maxRecDepth 20000 in
theorem ze_L_isStep_727  : z_Y C zc_L_isStep R 727 ls st T ↔ z_Y C zc_L_isStep R 729 ls (bb_I 16 :: st) T := Iff.trans (z_Y_at (cd := zc_L_isStep) (pc := 727) (zo_const 16 729) rfl) (Iff.of_eq rfl)
set_option maxRecDepth 20000 in
theorem ze_L_isStep_729 {x1 : Int32} : z_Y C zc_L_isStep R 729 ls (bb_I x1 :: bb_R 40 0 :: []) T ↔ z_call C 34 [bb_R 40 0, bb_I x1] T (fun r T2 => z_Y C zc_L_isStep R 732 ls (bb_I r :: []) T2) := Iff.trans (z_Y_at (cd := zc_L_isStep) (pc := 729) (zo_callv 34 2 732) rfl) ((zq_callv_2 (by decide) (by decide)).trans ⟨fun h => h.2, fun h => ⟨Nat.le_of_ble_eq_true rfl, h⟩⟩)
set_option maxRecDepth 20000 in
theorem ze_L_isStep_732 {p0 p1 p2 p3 p4 p5 p6 p7 p8 p9 : bb_V} {x : Int32} {q : bb_V} {t : List bb_V} : z_Y C zc_L_isStep R 732 (p0 :: p1 :: p2 :: p3 :: p4 :: p5 :: p6 :: p7 :: p8 :: p9 :: q :: t) (bb_I x :: st) T ↔ z_Y C zc_L_isStep R 734 (p0 :: p1 :: p2 :: p3 :: p4 :: p5 :: p6 :: p7 :: p8 :: p9 :: bb_I x :: t) st T := Iff.trans (z_Y_at (cd := zc_L_isStep) (pc := 732) (zo_istore 10 734) rfl) (Iff.of_eq rfl)
set_option maxRecDepth 20000 in
theorem ze_L_isStep_734 {k j : Nat} {t : List bb_V} : z_Y C zc_L_isStep R 734 (bb_R k j :: t) st T ↔ z_Y C zc_L_isStep R 735 (bb_R k j :: t) (bb_R k j :: st) T := Iff.trans (z_Y_at (cd := zc_L_isStep) (pc := 734) (zo_aload 0 735) rfl) (Iff.of_eq rfl)
set_option maxRecDepth 20000 in
theorem ze_L_isStep_735  : z_Y C zc_L_isStep R 735 ls (bb_R 40 0 :: []) T ↔ z_call C 26 [bb_R 40 0] T (fun r T2 => z_Y C zc_L_isStep R 738 ls (bb_I r :: []) T2) := Iff.trans (z_Y_at (cd := zc_L_isStep) (pc := 735) (zo_callv 26 1 738) rfl) ((zq_callv_1 (by decide) (by decide)).trans ⟨fun h => h.2, fun h => ⟨Nat.le_of_ble_eq_true rfl, h⟩⟩)
set_option maxRecDepth 20000 in
theorem ze_L_isStep_738 {p0 p1 p2 p3 p4 p5 p6 p7 p8 p9 p10 : bb_V} {x : Int32} {q : bb_V} {t : List bb_V} : z_Y C zc_L_isStep R 738 (p0 :: p1 :: p2 :: p3 :: p4 :: p5 :: p6 :: p7 :: p8 :: p9 :: p10 :: q :: t) (bb_I x :: st) T ↔ z_Y C zc_L_isStep R 740 (p0 :: p1 :: p2 :: p3 :: p4 :: p5 :: p6 :: p7 :: p8 :: p9 :: p10 :: bb_I x :: t) st T := Iff.trans (z_Y_at (cd := zc_L_isStep) (pc := 738) (zo_istore 11 740) rfl) (Iff.of_eq rfl)
set_option maxRecDepth 20000 in
theorem ze_L_isStep_740 {k j : Nat} {t : List bb_V} : z_Y C zc_L_isStep R 740 (bb_R k j :: t) st T ↔ z_Y C zc_L_isStep R 741 (bb_R k j :: t) (bb_R k j :: st) T := Iff.trans (z_Y_at (cd := zc_L_isStep) (pc := 740) (zo_aload 0 741) rfl) (Iff.of_eq rfl)
set_option maxRecDepth 20000 in
theorem ze_L_isStep_741  : z_Y C zc_L_isStep R 741 ls st T ↔ z_Y C zc_L_isStep R 743 ls (bb_I 7 :: st) T := Iff.trans (z_Y_at (cd := zc_L_isStep) (pc := 741) (zo_const 7 743) rfl) (Iff.of_eq rfl)
set_option maxRecDepth 20000 in
theorem ze_L_isStep_743 {x1 : Int32} : z_Y C zc_L_isStep R 743 ls (bb_I x1 :: bb_R 40 0 :: []) T ↔ z_call C 34 [bb_R 40 0, bb_I x1] T (fun r T2 => z_Y C zc_L_isStep R 746 ls (bb_I r :: []) T2) := Iff.trans (z_Y_at (cd := zc_L_isStep) (pc := 743) (zo_callv 34 2 746) rfl) ((zq_callv_2 (by decide) (by decide)).trans ⟨fun h => h.2, fun h => ⟨Nat.le_of_ble_eq_true rfl, h⟩⟩)
set_option maxRecDepth 20000 in
theorem ze_L_isStep_746 {p0 p1 p2 p3 p4 p5 p6 p7 : bb_V} {x : Int32} {t : List bb_V} : z_Y C zc_L_isStep R 746 (p0 :: p1 :: p2 :: p3 :: p4 :: p5 :: p6 :: p7 :: bb_I x :: t) st T ↔ z_Y C zc_L_isStep R 748 (p0 :: p1 :: p2 :: p3 :: p4 :: p5 :: p6 :: p7 :: bb_I x :: t) (bb_I x :: st) T := Iff.trans (z_Y_at (cd := zc_L_isStep) (pc := 746) (zo_iload 8 748) rfl) (Iff.of_eq rfl)
set_option maxRecDepth 20000 in
theorem ze_L_isStep_748 {a b : Int32} : z_Y C zc_L_isStep R 748 ls (bb_I b :: bb_I a :: st) T ↔ z_Y C zc_L_isStep R 749 ls (bb_I (a - b) :: st) T := Iff.trans (z_Y_at (cd := zc_L_isStep) (pc := 748) (zo_isub 749) rfl) (Iff.of_eq rfl)
set_option maxRecDepth 20000 in
theorem ze_L_isStep_749 {k j : Nat} {t : List bb_V} : z_Y C zc_L_isStep R 749 (bb_R k j :: t) st T ↔ z_Y C zc_L_isStep R 750 (bb_R k j :: t) (bb_R k j :: st) T := Iff.trans (z_Y_at (cd := zc_L_isStep) (pc := 749) (zo_aload 0 750) rfl) (Iff.of_eq rfl)
set_option maxRecDepth 20000 in
theorem ze_L_isStep_750  : z_Y C zc_L_isStep R 750 ls st T ↔ z_Y C zc_L_isStep R 752 ls (bb_I 8 :: st) T := Iff.trans (z_Y_at (cd := zc_L_isStep) (pc := 750) (zo_const 8 752) rfl) (Iff.of_eq rfl)
set_option maxRecDepth 20000 in
theorem ze_L_isStep_752 {x1 : Int32} {z0 : Int32} : z_Y C zc_L_isStep R 752 ls (bb_I x1 :: bb_R 40 0 :: [bb_I z0]) T ↔ z_call C 34 [bb_R 40 0, bb_I x1] T (fun r T2 => z_Y C zc_L_isStep R 755 ls (bb_I r :: [bb_I z0]) T2) := Iff.trans (z_Y_at (cd := zc_L_isStep) (pc := 752) (zo_callv 34 2 755) rfl) ((zq_callv_2 (by decide) (by decide)).trans ⟨fun h => h.2, fun h => ⟨Nat.le_of_ble_eq_true rfl, h⟩⟩)
set_option maxRecDepth 20000 in
theorem ze_L_isStep_755 {a b : Int32} : z_Y C zc_L_isStep R 755 ls (bb_I b :: bb_I a :: st) T ↔ z_Y C zc_L_isStep R 756 ls (bb_I (a + b) :: st) T := Iff.trans (z_Y_at (cd := zc_L_isStep) (pc := 755) (zo_iadd 756) rfl) (Iff.of_eq rfl)
set_option maxRecDepth 20000 in
theorem ze_L_isStep_756 {p0 p1 p2 p3 p4 p5 p6 p7 p8 : bb_V} {x : Int32} {t : List bb_V} : z_Y C zc_L_isStep R 756 (p0 :: p1 :: p2 :: p3 :: p4 :: p5 :: p6 :: p7 :: p8 :: bb_I x :: t) st T ↔ z_Y C zc_L_isStep R 758 (p0 :: p1 :: p2 :: p3 :: p4 :: p5 :: p6 :: p7 :: p8 :: bb_I x :: t) (bb_I x :: st) T := Iff.trans (z_Y_at (cd := zc_L_isStep) (pc := 756) (zo_iload 9 758) rfl) (Iff.of_eq rfl)
set_option maxRecDepth 20000 in
theorem ze_L_isStep_758 {a b : Int32} : z_Y C zc_L_isStep R 758 ls (bb_I b :: bb_I a :: st) T ↔ z_Y C zc_L_isStep R 759 ls (bb_I (a - b) :: st) T := Iff.trans (z_Y_at (cd := zc_L_isStep) (pc := 758) (zo_isub 759) rfl) (Iff.of_eq rfl)
set_option maxRecDepth 20000 in
theorem ze_L_isStep_759 {p0 p1 p2 p3 p4 p5 p6 p7 p8 p9 p10 p11 : bb_V} {x : Int32} {q : bb_V} {t : List bb_V} : z_Y C zc_L_isStep R 759 (p0 :: p1 :: p2 :: p3 :: p4 :: p5 :: p6 :: p7 :: p8 :: p9 :: p10 :: p11 :: q :: t) (bb_I x :: st) T ↔ z_Y C zc_L_isStep R 761 (p0 :: p1 :: p2 :: p3 :: p4 :: p5 :: p6 :: p7 :: p8 :: p9 :: p10 :: p11 :: bb_I x :: t) st T := Iff.trans (z_Y_at (cd := zc_L_isStep) (pc := 759) (zo_istore 12 761) rfl) (Iff.of_eq rfl)
set_option maxRecDepth 20000 in
theorem ze_L_isStep_761 {k j : Nat} {t : List bb_V} : z_Y C zc_L_isStep R 761 (bb_R k j :: t) st T ↔ z_Y C zc_L_isStep R 762 (bb_R k j :: t) (bb_R k j :: st) T := Iff.trans (z_Y_at (cd := zc_L_isStep) (pc := 761) (zo_aload 0 762) rfl) (Iff.of_eq rfl)
set_option maxRecDepth 20000 in
theorem ze_L_isStep_762  : z_Y C zc_L_isStep R 762 ls st T ↔ z_Y C zc_L_isStep R 764 ls (bb_I 7 :: st) T := Iff.trans (z_Y_at (cd := zc_L_isStep) (pc := 762) (zo_const 7 764) rfl) (Iff.of_eq rfl)
set_option maxRecDepth 20000 in
theorem ze_L_isStep_764 {x1 : Int32} : z_Y C zc_L_isStep R 764 ls (bb_I x1 :: bb_R 40 0 :: []) T ↔ z_call C 34 [bb_R 40 0, bb_I x1] T (fun r T2 => z_Y C zc_L_isStep R 767 ls (bb_I r :: []) T2) := Iff.trans (z_Y_at (cd := zc_L_isStep) (pc := 764) (zo_callv 34 2 767) rfl) ((zq_callv_2 (by decide) (by decide)).trans ⟨fun h => h.2, fun h => ⟨Nat.le_of_ble_eq_true rfl, h⟩⟩)
set_option maxRecDepth 20000 in
theorem ze_L_isStep_767 {p0 p1 p2 p3 p4 p5 p6 p7 : bb_V} {x : Int32} {t : List bb_V} : z_Y C zc_L_isStep R 767 (p0 :: p1 :: p2 :: p3 :: p4 :: p5 :: p6 :: p7 :: bb_I x :: t) st T ↔ z_Y C zc_L_isStep R 769 (p0 :: p1 :: p2 :: p3 :: p4 :: p5 :: p6 :: p7 :: bb_I x :: t) (bb_I x :: st) T := Iff.trans (z_Y_at (cd := zc_L_isStep) (pc := 767) (zo_iload 8 769) rfl) (Iff.of_eq rfl)
set_option maxRecDepth 20000 in
theorem ze_L_isStep_769 {a b : Int32} : z_Y C zc_L_isStep R 769 ls (bb_I b :: bb_I a :: st) T ↔ z_Y C zc_L_isStep R 770 ls (bb_I (a - b) :: st) T := Iff.trans (z_Y_at (cd := zc_L_isStep) (pc := 769) (zo_isub 770) rfl) (Iff.of_eq rfl)
set_option maxRecDepth 20000 in
theorem ze_L_isStep_770 {p0 p1 p2 p3 p4 p5 p6 p7 p8 p9 : bb_V} {x : Int32} {t : List bb_V} : z_Y C zc_L_isStep R 770 (p0 :: p1 :: p2 :: p3 :: p4 :: p5 :: p6 :: p7 :: p8 :: p9 :: bb_I x :: t) st T ↔ z_Y C zc_L_isStep R 772 (p0 :: p1 :: p2 :: p3 :: p4 :: p5 :: p6 :: p7 :: p8 :: p9 :: bb_I x :: t) (bb_I x :: st) T := Iff.trans (z_Y_at (cd := zc_L_isStep) (pc := 770) (zo_iload 10 772) rfl) (Iff.of_eq rfl)
set_option maxRecDepth 20000 in
theorem ze_L_isStep_772 {a b : Int32} : z_Y C zc_L_isStep R 772 ls (bb_I b :: bb_I a :: st) T ↔ (if b < a then z_Y C zc_L_isStep R 824 ls st T else z_Y C zc_L_isStep R 775 ls st T) := Iff.trans (z_Y_at (cd := zc_L_isStep) (pc := 772) (zo_icgt 824 775) rfl) (Iff.of_eq z_do_ite)
set_option maxRecDepth 20000 in
theorem ze_L_isStep_775 {p0 p1 p2 p3 p4 p5 p6 p7 p8 p9 p10 : bb_V} {x : Int32} {t : List bb_V} : z_Y C zc_L_isStep R 775 (p0 :: p1 :: p2 :: p3 :: p4 :: p5 :: p6 :: p7 :: p8 :: p9 :: p10 :: bb_I x :: t) st T ↔ z_Y C zc_L_isStep R 777 (p0 :: p1 :: p2 :: p3 :: p4 :: p5 :: p6 :: p7 :: p8 :: p9 :: p10 :: bb_I x :: t) (bb_I x :: st) T := Iff.trans (z_Y_at (cd := zc_L_isStep) (pc := 775) (zo_iload 11 777) rfl) (Iff.of_eq rfl)
set_option maxRecDepth 20000 in
theorem ze_L_isStep_777  : z_Y C zc_L_isStep R 777 ls st T ↔ z_Y C zc_L_isStep R 780 ls (bb_I (-1005) :: st) T := Iff.trans (z_Y_at (cd := zc_L_isStep) (pc := 777) (zo_const (-1005) 780) rfl) (Iff.of_eq rfl)
set_option maxRecDepth 20000 in
theorem ze_L_isStep_780 {a b : Int32} : z_Y C zc_L_isStep R 780 ls (bb_I b :: bb_I a :: st) T ↔ (if a ≠ b then z_Y C zc_L_isStep R 791 ls st T else z_Y C zc_L_isStep R 783 ls st T) := Iff.trans (z_Y_at (cd := zc_L_isStep) (pc := 780) (zo_icne 791 783) rfl) (Iff.of_eq z_do_ite)
set_option maxRecDepth 20000 in
theorem ze_L_isStep_783 {p0 p1 p2 p3 p4 p5 p6 p7 p8 p9 p10 p11 : bb_V} {x : Int32} {t : List bb_V} : z_Y C zc_L_isStep R 783 (p0 :: p1 :: p2 :: p3 :: p4 :: p5 :: p6 :: p7 :: p8 :: p9 :: p10 :: p11 :: bb_I x :: t) st T ↔ z_Y C zc_L_isStep R 785 (p0 :: p1 :: p2 :: p3 :: p4 :: p5 :: p6 :: p7 :: p8 :: p9 :: p10 :: p11 :: bb_I x :: t) (bb_I x :: st) T := Iff.trans (z_Y_at (cd := zc_L_isStep) (pc := 783) (zo_iload 12 785) rfl) (Iff.of_eq rfl)
set_option maxRecDepth 20000 in
theorem ze_L_isStep_785 {a : Int32} : z_Y C zc_L_isStep R 785 ls (bb_I a :: st) T ↔ (if a ≠ 0 then z_Y C zc_L_isStep R 824 ls st T else z_Y C zc_L_isStep R 788 ls st T) := Iff.trans (z_Y_at (cd := zc_L_isStep) (pc := 785) (zo_ifne 824 788) rfl) (Iff.of_eq z_do_ite)
set_option maxRecDepth 20000 in
theorem ze_L_isStep_788  : z_Y C zc_L_isStep R 788 ls st T ↔ z_Y C zc_L_isStep R 803 ls st T := Iff.trans (z_Y_at (cd := zc_L_isStep) (pc := 788) (zo_goto 803) rfl) (Iff.of_eq rfl)
set_option maxRecDepth 20000 in
theorem ze_L_isStep_791 {p0 p1 p2 p3 p4 p5 p6 p7 p8 p9 p10 : bb_V} {x : Int32} {t : List bb_V} : z_Y C zc_L_isStep R 791 (p0 :: p1 :: p2 :: p3 :: p4 :: p5 :: p6 :: p7 :: p8 :: p9 :: p10 :: bb_I x :: t) st T ↔ z_Y C zc_L_isStep R 793 (p0 :: p1 :: p2 :: p3 :: p4 :: p5 :: p6 :: p7 :: p8 :: p9 :: p10 :: bb_I x :: t) (bb_I x :: st) T := Iff.trans (z_Y_at (cd := zc_L_isStep) (pc := 791) (zo_iload 11 793) rfl) (Iff.of_eq rfl)
set_option maxRecDepth 20000 in
theorem ze_L_isStep_793 {p0 p1 p2 p3 p4 p5 p6 p7 p8 p9 p10 p11 : bb_V} {x : Int32} {t : List bb_V} : z_Y C zc_L_isStep R 793 (p0 :: p1 :: p2 :: p3 :: p4 :: p5 :: p6 :: p7 :: p8 :: p9 :: p10 :: p11 :: bb_I x :: t) st T ↔ z_Y C zc_L_isStep R 795 (p0 :: p1 :: p2 :: p3 :: p4 :: p5 :: p6 :: p7 :: p8 :: p9 :: p10 :: p11 :: bb_I x :: t) (bb_I x :: st) T := Iff.trans (z_Y_at (cd := zc_L_isStep) (pc := 793) (zo_iload 12 795) rfl) (Iff.of_eq rfl)
set_option maxRecDepth 20000 in
theorem ze_L_isStep_795 {a b : Int32} : z_Y C zc_L_isStep R 795 ls (bb_I b :: bb_I a :: st) T ↔ (if a ≠ b then z_Y C zc_L_isStep R 824 ls st T else z_Y C zc_L_isStep R 798 ls st T) := Iff.trans (z_Y_at (cd := zc_L_isStep) (pc := 795) (zo_icne 824 798) rfl) (Iff.of_eq z_do_ite)
set_option maxRecDepth 20000 in
theorem ze_L_isStep_798 {p0 p1 p2 p3 p4 p5 p6 p7 p8 p9 p10 p11 : bb_V} {x : Int32} {t : List bb_V} : z_Y C zc_L_isStep R 798 (p0 :: p1 :: p2 :: p3 :: p4 :: p5 :: p6 :: p7 :: p8 :: p9 :: p10 :: p11 :: bb_I x :: t) st T ↔ z_Y C zc_L_isStep R 800 (p0 :: p1 :: p2 :: p3 :: p4 :: p5 :: p6 :: p7 :: p8 :: p9 :: p10 :: p11 :: bb_I x :: t) (bb_I x :: st) T := Iff.trans (z_Y_at (cd := zc_L_isStep) (pc := 798) (zo_iload 12 800) rfl) (Iff.of_eq rfl)
set_option maxRecDepth 20000 in
theorem ze_L_isStep_800 {a : Int32} : z_Y C zc_L_isStep R 800 ls (bb_I a :: st) T ↔ (if a ≤ 0 then z_Y C zc_L_isStep R 824 ls st T else z_Y C zc_L_isStep R 803 ls st T) := Iff.trans (z_Y_at (cd := zc_L_isStep) (pc := 800) (zo_ifle 824 803) rfl) (Iff.of_eq z_do_ite)
set_option maxRecDepth 20000 in
theorem ze_L_isStep_803 {k j : Nat} {t : List bb_V} : z_Y C zc_L_isStep R 803 (bb_R k j :: t) st T ↔ z_Y C zc_L_isStep R 804 (bb_R k j :: t) (bb_R k j :: st) T := Iff.trans (z_Y_at (cd := zc_L_isStep) (pc := 803) (zo_aload 0 804) rfl) (Iff.of_eq rfl)
set_option maxRecDepth 20000 in
theorem ze_L_isStep_804  : z_Y C zc_L_isStep R 804 ls (bb_R 40 0 :: []) T ↔ z_call C 4 [bb_R 40 0] T (fun r T2 => z_Y C zc_L_isStep R 807 ls (bb_I r :: []) T2) := Iff.trans (z_Y_at (cd := zc_L_isStep) (pc := 804) (zo_call 4 1 807) rfl) ((zq_call_1 (by decide)).trans ⟨fun h => h.2, fun h => ⟨⟨Nat.le_of_ble_eq_true rfl, rfl⟩, h⟩⟩)
set_option maxRecDepth 20000 in
theorem ze_L_isStep_807 {a : Int32} : z_Y C zc_L_isStep R 807 ls (bb_I a :: st) T ↔ (if a = 0 then z_Y C zc_L_isStep R 824 ls st T else z_Y C zc_L_isStep R 810 ls st T) := Iff.trans (z_Y_at (cd := zc_L_isStep) (pc := 807) (zo_ifeq 824 810) rfl) (Iff.of_eq z_do_ite)
set_option maxRecDepth 20000 in
theorem ze_L_isStep_810 {k j : Nat} {t : List bb_V} : z_Y C zc_L_isStep R 810 (bb_R k j :: t) st T ↔ z_Y C zc_L_isStep R 811 (bb_R k j :: t) (bb_R k j :: st) T := Iff.trans (z_Y_at (cd := zc_L_isStep) (pc := 810) (zo_aload 0 811) rfl) (Iff.of_eq rfl)
set_option maxRecDepth 20000 in
theorem ze_L_isStep_811 {p0 : bb_V} {k j : Nat} {t : List bb_V} : z_Y C zc_L_isStep R 811 (p0 :: bb_R k j :: t) st T ↔ z_Y C zc_L_isStep R 812 (p0 :: bb_R k j :: t) (bb_R k j :: st) T := Iff.trans (z_Y_at (cd := zc_L_isStep) (pc := 811) (zo_aload 1 812) rfl) (Iff.of_eq rfl)
set_option maxRecDepth 20000 in
theorem ze_L_isStep_812 {p0 p1 p2 p3 p4 p5 p6 p7 p8 p9 p10 : bb_V} {x : Int32} {t : List bb_V} : z_Y C zc_L_isStep R 812 (p0 :: p1 :: p2 :: p3 :: p4 :: p5 :: p6 :: p7 :: p8 :: p9 :: p10 :: bb_I x :: t) st T ↔ z_Y C zc_L_isStep R 814 (p0 :: p1 :: p2 :: p3 :: p4 :: p5 :: p6 :: p7 :: p8 :: p9 :: p10 :: bb_I x :: t) (bb_I x :: st) T := Iff.trans (z_Y_at (cd := zc_L_isStep) (pc := 812) (zo_iload 11 814) rfl) (Iff.of_eq rfl)
set_option maxRecDepth 20000 in
theorem ze_L_isStep_814 {x2 : Int32} : z_Y C zc_L_isStep R 814 ls (bb_I x2 :: bb_R 41 0 :: bb_R 40 0 :: []) T ↔ z_call C 3 [bb_R 40 0, bb_R 41 0, bb_I x2] T (fun r T2 => z_Y C zc_L_isStep R 817 ls (bb_I r :: []) T2) := Iff.trans (z_Y_at (cd := zc_L_isStep) (pc := 814) (zo_call 3 3 817) rfl) ((zq_call_3 (by decide)).trans ⟨fun h => h.2, fun h => ⟨⟨Nat.le_of_ble_eq_true rfl, rfl⟩, h⟩⟩)
set_option maxRecDepth 20000 in
theorem ze_L_isStep_817 {a : Int32} : z_Y C zc_L_isStep R 817 ls (bb_I a :: st) T ↔ (if a = 0 then z_Y C zc_L_isStep R 824 ls st T else z_Y C zc_L_isStep R 820 ls st T) := Iff.trans (z_Y_at (cd := zc_L_isStep) (pc := 817) (zo_ifeq 824 820) rfl) (Iff.of_eq z_do_ite)
set_option maxRecDepth 20000 in
theorem ze_L_isStep_820  : z_Y C zc_L_isStep R 820 ls st T ↔ z_Y C zc_L_isStep R 821 ls (bb_I 1 :: st) T := Iff.trans (z_Y_at (cd := zc_L_isStep) (pc := 820) (zo_const 1 821) rfl) (Iff.of_eq rfl)
set_option maxRecDepth 20000 in
theorem ze_L_isStep_821  : z_Y C zc_L_isStep R 821 ls st T ↔ z_Y C zc_L_isStep R 825 ls st T := Iff.trans (z_Y_at (cd := zc_L_isStep) (pc := 821) (zo_goto 825) rfl) (Iff.of_eq rfl)
set_option maxRecDepth 20000 in
theorem ze_L_isStep_824  : z_Y C zc_L_isStep R 824 ls st T ↔ z_Y C zc_L_isStep R 825 ls (bb_I 0 :: st) T := Iff.trans (z_Y_at (cd := zc_L_isStep) (pc := 824) (zo_const 0 825) rfl) (Iff.of_eq rfl)
set_option maxRecDepth 20000 in
theorem ze_L_isStep_825 {v : Int32} : z_Y C zc_L_isStep R 825 ls [bb_I v] T ↔ ((v = 0 ∨ v = 1) ∧ R v T) := Iff.trans (z_Y_at (cd := zc_L_isStep) (pc := 825) (zo_zret) rfl) (zq_zret)
set_option maxRecDepth 20000 in
theorem ze_L_isStep_826 {k j : Nat} {t : List bb_V} : z_Y C zc_L_isStep R 826 (bb_R k j :: t) st T ↔ z_Y C zc_L_isStep R 827 (bb_R k j :: t) (bb_R k j :: st) T := Iff.trans (z_Y_at (cd := zc_L_isStep) (pc := 826) (zo_aload 0 827) rfl) (Iff.of_eq rfl)
set_option maxRecDepth 20000 in
theorem ze_L_isStep_827  : z_Y C zc_L_isStep R 827 ls st T ↔ z_Y C zc_L_isStep R 829 ls (bb_I 18 :: st) T := Iff.trans (z_Y_at (cd := zc_L_isStep) (pc := 827) (zo_const 18 829) rfl) (Iff.of_eq rfl)
set_option maxRecDepth 20000 in
theorem ze_L_isStep_829 {x1 : Int32} : z_Y C zc_L_isStep R 829 ls (bb_I x1 :: bb_R 40 0 :: []) T ↔ z_call C 34 [bb_R 40 0, bb_I x1] T (fun r T2 => z_Y C zc_L_isStep R 832 ls (bb_I r :: []) T2) := Iff.trans (z_Y_at (cd := zc_L_isStep) (pc := 829) (zo_callv 34 2 832) rfl) ((zq_callv_2 (by decide) (by decide)).trans ⟨fun h => h.2, fun h => ⟨Nat.le_of_ble_eq_true rfl, h⟩⟩)
set_option maxRecDepth 20000 in
theorem ze_L_isStep_832 {a : Int32} : z_Y C zc_L_isStep R 832 ls (bb_I a :: st) T ↔ (if a = 0 then z_Y C zc_L_isStep R 846 ls st T else z_Y C zc_L_isStep R 835 ls st T) := Iff.trans (z_Y_at (cd := zc_L_isStep) (pc := 832) (zo_ifeq 846 835) rfl) (Iff.of_eq z_do_ite)
set_option maxRecDepth 20000 in
theorem ze_L_isStep_835 {k j : Nat} {t : List bb_V} : z_Y C zc_L_isStep R 835 (bb_R k j :: t) st T ↔ z_Y C zc_L_isStep R 836 (bb_R k j :: t) (bb_R k j :: st) T := Iff.trans (z_Y_at (cd := zc_L_isStep) (pc := 835) (zo_aload 0 836) rfl) (Iff.of_eq rfl)
set_option maxRecDepth 20000 in
theorem ze_L_isStep_836  : z_Y C zc_L_isStep R 836 ls (bb_R 40 0 :: []) T ↔ z_call C 27 [bb_R 40 0] T (fun r T2 => z_Y C zc_L_isStep R 839 ls (bb_I r :: []) T2) := Iff.trans (z_Y_at (cd := zc_L_isStep) (pc := 836) (zo_callv 27 1 839) rfl) ((zq_callv_1 (by decide) (by decide)).trans ⟨fun h => h.2, fun h => ⟨Nat.le_of_ble_eq_true rfl, h⟩⟩)
set_option maxRecDepth 20000 in
theorem ze_L_isStep_839 {p0 : bb_V} {k j : Nat} {t : List bb_V} : z_Y C zc_L_isStep R 839 (p0 :: bb_R k j :: t) st T ↔ z_Y C zc_L_isStep R 840 (p0 :: bb_R k j :: t) (bb_R k j :: st) T := Iff.trans (z_Y_at (cd := zc_L_isStep) (pc := 839) (zo_aload 1 840) rfl) (Iff.of_eq rfl)
set_option maxRecDepth 20000 in
theorem ze_L_isStep_840 {z0 : Int32} : z_Y C zc_L_isStep R 840 ls (bb_R 41 0 :: [bb_I z0]) T ↔ z_call C 27 [bb_R 41 0] T (fun r T2 => z_Y C zc_L_isStep R 843 ls (bb_I r :: [bb_I z0]) T2) := Iff.trans (z_Y_at (cd := zc_L_isStep) (pc := 840) (zo_callv 27 1 843) rfl) ((zq_callv_1 (by decide) (by decide)).trans ⟨fun h => h.2, fun h => ⟨Nat.le_of_ble_eq_true rfl, h⟩⟩)
set_option maxRecDepth 20000 in
theorem ze_L_isStep_843 {a b : Int32} : z_Y C zc_L_isStep R 843 ls (bb_I b :: bb_I a :: st) T ↔ (if a ≠ b then z_Y C zc_L_isStep R 850 ls st T else z_Y C zc_L_isStep R 846 ls st T) := Iff.trans (z_Y_at (cd := zc_L_isStep) (pc := 843) (zo_icne 850 846) rfl) (Iff.of_eq z_do_ite)
set_option maxRecDepth 20000 in
theorem ze_L_isStep_846  : z_Y C zc_L_isStep R 846 ls st T ↔ z_Y C zc_L_isStep R 847 ls (bb_I 1 :: st) T := Iff.trans (z_Y_at (cd := zc_L_isStep) (pc := 846) (zo_const 1 847) rfl) (Iff.of_eq rfl)
set_option maxRecDepth 20000 in
theorem ze_L_isStep_847  : z_Y C zc_L_isStep R 847 ls st T ↔ z_Y C zc_L_isStep R 851 ls st T := Iff.trans (z_Y_at (cd := zc_L_isStep) (pc := 847) (zo_goto 851) rfl) (Iff.of_eq rfl)
set_option maxRecDepth 20000 in
theorem ze_L_isStep_850  : z_Y C zc_L_isStep R 850 ls st T ↔ z_Y C zc_L_isStep R 851 ls (bb_I 0 :: st) T := Iff.trans (z_Y_at (cd := zc_L_isStep) (pc := 850) (zo_const 0 851) rfl) (Iff.of_eq rfl)
set_option maxRecDepth 20000 in
theorem ze_L_isStep_851 {v : Int32} : z_Y C zc_L_isStep R 851 ls [bb_I v] T ↔ ((v = 0 ∨ v = 1) ∧ R v T) := Iff.trans (z_Y_at (cd := zc_L_isStep) (pc := 851) (zo_zret) rfl) (zq_zret)
set_option maxRecDepth 20000 in
theorem ze_L_isStep_852  : z_Y C zc_L_isStep R 852 ls st T ↔ z_Y C zc_L_isStep R 853 ls (bb_I 1 :: st) T := Iff.trans (z_Y_at (cd := zc_L_isStep) (pc := 852) (zo_const 1 853) rfl) (Iff.of_eq rfl)
set_option maxRecDepth 20000 in
theorem ze_L_isStep_853 {p0 p1 p2 : bb_V} {x : Int32} {t : List bb_V} : z_Y C zc_L_isStep R 853 (p0 :: p1 :: p2 :: bb_I x :: t) st T ↔ z_Y C zc_L_isStep R 854 (p0 :: p1 :: p2 :: bb_I x :: t) (bb_I x :: st) T := Iff.trans (z_Y_at (cd := zc_L_isStep) (pc := 853) (zo_iload 3 854) rfl) (Iff.of_eq rfl)
set_option maxRecDepth 20000 in
theorem ze_L_isStep_854  : z_Y C zc_L_isStep R 854 ls st T ↔ z_Y C zc_L_isStep R 856 ls (bb_I 20 :: st) T := Iff.trans (z_Y_at (cd := zc_L_isStep) (pc := 854) (zo_const 20 856) rfl) (Iff.of_eq rfl)
set_option maxRecDepth 20000 in
theorem ze_L_isStep_856 {x0 : Int32} {x1 : Int32} {z0 : Int32} : z_Y C zc_L_isStep R 856 ls (bb_I x1 :: bb_I x0 :: [bb_I z0]) T ↔ z_call C 1 [bb_I x0, bb_I x1] T (fun r T2 => z_Y C zc_L_isStep R 859 ls (bb_I r :: [bb_I z0]) T2) := Iff.trans (z_Y_at (cd := zc_L_isStep) (pc := 856) (zo_call 1 2 859) rfl) ((zq_call_2 (by decide)).trans ⟨fun h => h.2, fun h => ⟨⟨Nat.le_of_ble_eq_true rfl, rfl⟩, h⟩⟩)
set_option maxRecDepth 20000 in
theorem ze_L_isStep_859 {a b : Int32} : z_Y C zc_L_isStep R 859 ls (bb_I b :: bb_I a :: st) T ↔ z_Y C zc_L_isStep R 860 ls (bb_I (a + b) :: st) T := Iff.trans (z_Y_at (cd := zc_L_isStep) (pc := 859) (zo_iadd 860) rfl) (Iff.of_eq rfl)
set_option maxRecDepth 20000 in
theorem ze_L_isStep_860 {p0 p1 p2 p3 p4 p5 p6 p7 : bb_V} {x : Int32} {q : bb_V} {t : List bb_V} : z_Y C zc_L_isStep R 860 (p0 :: p1 :: p2 :: p3 :: p4 :: p5 :: p6 :: p7 :: q :: t) (bb_I x :: st) T ↔ z_Y C zc_L_isStep R 862 (p0 :: p1 :: p2 :: p3 :: p4 :: p5 :: p6 :: p7 :: bb_I x :: t) st T := Iff.trans (z_Y_at (cd := zc_L_isStep) (pc := 860) (zo_istore 8 862) rfl) (Iff.of_eq rfl)
set_option maxRecDepth 20000 in
theorem ze_L_isStep_862  : z_Y C zc_L_isStep R 862 ls st T ↔ z_Y C zc_L_isStep R 863 ls (bb_I 1 :: st) T := Iff.trans (z_Y_at (cd := zc_L_isStep) (pc := 862) (zo_const 1 863) rfl) (Iff.of_eq rfl)
set_option maxRecDepth 20000 in
theorem ze_L_isStep_863 {p0 p1 p2 p3 : bb_V} {x : Int32} {t : List bb_V} : z_Y C zc_L_isStep R 863 (p0 :: p1 :: p2 :: p3 :: bb_I x :: t) st T ↔ z_Y C zc_L_isStep R 865 (p0 :: p1 :: p2 :: p3 :: bb_I x :: t) (bb_I x :: st) T := Iff.trans (z_Y_at (cd := zc_L_isStep) (pc := 863) (zo_iload 4 865) rfl) (Iff.of_eq rfl)
set_option maxRecDepth 20000 in
theorem ze_L_isStep_865  : z_Y C zc_L_isStep R 865 ls st T ↔ z_Y C zc_L_isStep R 867 ls (bb_I 20 :: st) T := Iff.trans (z_Y_at (cd := zc_L_isStep) (pc := 865) (zo_const 20 867) rfl) (Iff.of_eq rfl)
set_option maxRecDepth 20000 in
theorem ze_L_isStep_867 {x0 : Int32} {x1 : Int32} {z0 : Int32} : z_Y C zc_L_isStep R 867 ls (bb_I x1 :: bb_I x0 :: [bb_I z0]) T ↔ z_call C 1 [bb_I x0, bb_I x1] T (fun r T2 => z_Y C zc_L_isStep R 870 ls (bb_I r :: [bb_I z0]) T2) := Iff.trans (z_Y_at (cd := zc_L_isStep) (pc := 867) (zo_call 1 2 870) rfl) ((zq_call_2 (by decide)).trans ⟨fun h => h.2, fun h => ⟨⟨Nat.le_of_ble_eq_true rfl, rfl⟩, h⟩⟩)
set_option maxRecDepth 20000 in
theorem ze_L_isStep_870 {a b : Int32} : z_Y C zc_L_isStep R 870 ls (bb_I b :: bb_I a :: st) T ↔ z_Y C zc_L_isStep R 871 ls (bb_I (a + b) :: st) T := Iff.trans (z_Y_at (cd := zc_L_isStep) (pc := 870) (zo_iadd 871) rfl) (Iff.of_eq rfl)
set_option maxRecDepth 20000 in
theorem ze_L_isStep_871 {p0 p1 p2 p3 p4 p5 p6 p7 p8 : bb_V} {x : Int32} {q : bb_V} {t : List bb_V} : z_Y C zc_L_isStep R 871 (p0 :: p1 :: p2 :: p3 :: p4 :: p5 :: p6 :: p7 :: p8 :: q :: t) (bb_I x :: st) T ↔ z_Y C zc_L_isStep R 873 (p0 :: p1 :: p2 :: p3 :: p4 :: p5 :: p6 :: p7 :: p8 :: bb_I x :: t) st T := Iff.trans (z_Y_at (cd := zc_L_isStep) (pc := 871) (zo_istore 9 873) rfl) (Iff.of_eq rfl)
set_option maxRecDepth 20000 in
theorem ze_L_isStep_873 {k j : Nat} {t : List bb_V} : z_Y C zc_L_isStep R 873 (bb_R k j :: t) st T ↔ z_Y C zc_L_isStep R 874 (bb_R k j :: t) (bb_R k j :: st) T := Iff.trans (z_Y_at (cd := zc_L_isStep) (pc := 873) (zo_aload 0 874) rfl) (Iff.of_eq rfl)
set_option maxRecDepth 20000 in
theorem ze_L_isStep_874 {p0 p1 p2 p3 p4 p5 p6 p7 : bb_V} {x : Int32} {t : List bb_V} : z_Y C zc_L_isStep R 874 (p0 :: p1 :: p2 :: p3 :: p4 :: p5 :: p6 :: p7 :: bb_I x :: t) st T ↔ z_Y C zc_L_isStep R 876 (p0 :: p1 :: p2 :: p3 :: p4 :: p5 :: p6 :: p7 :: bb_I x :: t) (bb_I x :: st) T := Iff.trans (z_Y_at (cd := zc_L_isStep) (pc := 874) (zo_iload 8 876) rfl) (Iff.of_eq rfl)
set_option maxRecDepth 20000 in
theorem ze_L_isStep_876 {p0 p1 p2 p3 p4 p5 p6 p7 p8 : bb_V} {x : Int32} {t : List bb_V} : z_Y C zc_L_isStep R 876 (p0 :: p1 :: p2 :: p3 :: p4 :: p5 :: p6 :: p7 :: p8 :: bb_I x :: t) st T ↔ z_Y C zc_L_isStep R 878 (p0 :: p1 :: p2 :: p3 :: p4 :: p5 :: p6 :: p7 :: p8 :: bb_I x :: t) (bb_I x :: st) T := Iff.trans (z_Y_at (cd := zc_L_isStep) (pc := 876) (zo_iload 9 878) rfl) (Iff.of_eq rfl)
set_option maxRecDepth 20000 in
theorem ze_L_isStep_878 {x1 : Int32} {x2 : Int32} : z_Y C zc_L_isStep R 878 ls (bb_I x2 :: bb_I x1 :: bb_R 40 0 :: []) T ↔ z_call C 24 [bb_R 40 0, bb_I x1, bb_I x2] T (fun r T2 => z_Y C zc_L_isStep R 881 ls (bb_I r :: []) T2) := Iff.trans (z_Y_at (cd := zc_L_isStep) (pc := 878) (zo_callv 24 3 881) rfl) ((zq_callv_3 (by decide) (by decide)).trans ⟨fun h => h.2, fun h => ⟨Nat.le_of_ble_eq_true rfl, h⟩⟩)
set_option maxRecDepth 20000 in
theorem ze_L_isStep_881 {p0 p1 p2 p3 p4 p5 p6 p7 p8 p9 : bb_V} {x : Int32} {q : bb_V} {t : List bb_V} : z_Y C zc_L_isStep R 881 (p0 :: p1 :: p2 :: p3 :: p4 :: p5 :: p6 :: p7 :: p8 :: p9 :: q :: t) (bb_I x :: st) T ↔ z_Y C zc_L_isStep R 883 (p0 :: p1 :: p2 :: p3 :: p4 :: p5 :: p6 :: p7 :: p8 :: p9 :: bb_I x :: t) st T := Iff.trans (z_Y_at (cd := zc_L_isStep) (pc := 881) (zo_istore 10 883) rfl) (Iff.of_eq rfl)
set_option maxRecDepth 20000 in
theorem ze_L_isStep_883 {p0 p1 p2 p3 p4 p5 p6 p7 p8 p9 : bb_V} {x : Int32} {t : List bb_V} : z_Y C zc_L_isStep R 883 (p0 :: p1 :: p2 :: p3 :: p4 :: p5 :: p6 :: p7 :: p8 :: p9 :: bb_I x :: t) st T ↔ z_Y C zc_L_isStep R 885 (p0 :: p1 :: p2 :: p3 :: p4 :: p5 :: p6 :: p7 :: p8 :: p9 :: bb_I x :: t) (bb_I x :: st) T := Iff.trans (z_Y_at (cd := zc_L_isStep) (pc := 883) (zo_iload 10 885) rfl) (Iff.of_eq rfl)
set_option maxRecDepth 20000 in
theorem ze_L_isStep_885 {p0 : bb_V} {k j : Nat} {t : List bb_V} : z_Y C zc_L_isStep R 885 (p0 :: bb_R k j :: t) st T ↔ z_Y C zc_L_isStep R 886 (p0 :: bb_R k j :: t) (bb_R k j :: st) T := Iff.trans (z_Y_at (cd := zc_L_isStep) (pc := 885) (zo_aload 1 886) rfl) (Iff.of_eq rfl)
set_option maxRecDepth 20000 in
theorem ze_L_isStep_886 {p0 p1 p2 p3 p4 p5 p6 p7 : bb_V} {x : Int32} {t : List bb_V} : z_Y C zc_L_isStep R 886 (p0 :: p1 :: p2 :: p3 :: p4 :: p5 :: p6 :: p7 :: bb_I x :: t) st T ↔ z_Y C zc_L_isStep R 888 (p0 :: p1 :: p2 :: p3 :: p4 :: p5 :: p6 :: p7 :: bb_I x :: t) (bb_I x :: st) T := Iff.trans (z_Y_at (cd := zc_L_isStep) (pc := 886) (zo_iload 8 888) rfl) (Iff.of_eq rfl)
set_option maxRecDepth 20000 in
theorem ze_L_isStep_888 {p0 p1 p2 p3 p4 p5 p6 p7 p8 : bb_V} {x : Int32} {t : List bb_V} : z_Y C zc_L_isStep R 888 (p0 :: p1 :: p2 :: p3 :: p4 :: p5 :: p6 :: p7 :: p8 :: bb_I x :: t) st T ↔ z_Y C zc_L_isStep R 890 (p0 :: p1 :: p2 :: p3 :: p4 :: p5 :: p6 :: p7 :: p8 :: bb_I x :: t) (bb_I x :: st) T := Iff.trans (z_Y_at (cd := zc_L_isStep) (pc := 888) (zo_iload 9 890) rfl) (Iff.of_eq rfl)
set_option maxRecDepth 20000 in
theorem ze_L_isStep_890 {x1 : Int32} {x2 : Int32} {z0 : Int32} : z_Y C zc_L_isStep R 890 ls (bb_I x2 :: bb_I x1 :: bb_R 41 0 :: [bb_I z0]) T ↔ z_call C 24 [bb_R 41 0, bb_I x1, bb_I x2] T (fun r T2 => z_Y C zc_L_isStep R 893 ls (bb_I r :: [bb_I z0]) T2) := Iff.trans (z_Y_at (cd := zc_L_isStep) (pc := 890) (zo_callv 24 3 893) rfl) ((zq_callv_3 (by decide) (by decide)).trans ⟨fun h => h.2, fun h => ⟨Nat.le_of_ble_eq_true rfl, h⟩⟩)
set_option maxRecDepth 20000 in
theorem ze_L_isStep_893 {a b : Int32} : z_Y C zc_L_isStep R 893 ls (bb_I b :: bb_I a :: st) T ↔ (if a ≠ b then z_Y C zc_L_isStep R 942 ls st T else z_Y C zc_L_isStep R 896 ls st T) := Iff.trans (z_Y_at (cd := zc_L_isStep) (pc := 893) (zo_icne 942 896) rfl) (Iff.of_eq z_do_ite)
set_option maxRecDepth 20000 in
theorem ze_L_isStep_896 {p0 p1 p2 p3 p4 p5 p6 p7 p8 : bb_V} {x : Int32} {t : List bb_V} : z_Y C zc_L_isStep R 896 (p0 :: p1 :: p2 :: p3 :: p4 :: p5 :: p6 :: p7 :: p8 :: bb_I x :: t) st T ↔ z_Y C zc_L_isStep R 898 (p0 :: p1 :: p2 :: p3 :: p4 :: p5 :: p6 :: p7 :: p8 :: bb_I x :: t) (bb_I x :: st) T := Iff.trans (z_Y_at (cd := zc_L_isStep) (pc := 896) (zo_iload 9 898) rfl) (Iff.of_eq rfl)
set_option maxRecDepth 20000 in
theorem ze_L_isStep_898 {p0 p1 p2 p3 p4 p5 p6 p7 : bb_V} {x : Int32} {t : List bb_V} : z_Y C zc_L_isStep R 898 (p0 :: p1 :: p2 :: p3 :: p4 :: p5 :: p6 :: p7 :: bb_I x :: t) st T ↔ z_Y C zc_L_isStep R 900 (p0 :: p1 :: p2 :: p3 :: p4 :: p5 :: p6 :: p7 :: bb_I x :: t) (bb_I x :: st) T := Iff.trans (z_Y_at (cd := zc_L_isStep) (pc := 898) (zo_iload 8 900) rfl) (Iff.of_eq rfl)
set_option maxRecDepth 20000 in
theorem ze_L_isStep_900 {a b : Int32} : z_Y C zc_L_isStep R 900 ls (bb_I b :: bb_I a :: st) T ↔ (if b ≤ a then z_Y C zc_L_isStep R 914 ls st T else z_Y C zc_L_isStep R 903 ls st T) := Iff.trans (z_Y_at (cd := zc_L_isStep) (pc := 900) (zo_icge 914 903) rfl) (Iff.of_eq z_do_ite)
set_option maxRecDepth 20000 in
theorem ze_L_isStep_903 {p0 p1 p2 p3 p4 p5 p6 p7 p8 p9 : bb_V} {x : Int32} {t : List bb_V} : z_Y C zc_L_isStep R 903 (p0 :: p1 :: p2 :: p3 :: p4 :: p5 :: p6 :: p7 :: p8 :: p9 :: bb_I x :: t) st T ↔ z_Y C zc_L_isStep R 905 (p0 :: p1 :: p2 :: p3 :: p4 :: p5 :: p6 :: p7 :: p8 :: p9 :: bb_I x :: t) (bb_I x :: st) T := Iff.trans (z_Y_at (cd := zc_L_isStep) (pc := 903) (zo_iload 10 905) rfl) (Iff.of_eq rfl)
set_option maxRecDepth 20000 in
theorem ze_L_isStep_905  : z_Y C zc_L_isStep R 905 ls st T ↔ z_Y C zc_L_isStep R 908 ls (bb_I (-1002) :: st) T := Iff.trans (z_Y_at (cd := zc_L_isStep) (pc := 905) (zo_const (-1002) 908) rfl) (Iff.of_eq rfl)
set_option maxRecDepth 20000 in
theorem ze_L_isStep_908 {a b : Int32} : z_Y C zc_L_isStep R 908 ls (bb_I b :: bb_I a :: st) T ↔ (if a ≠ b then z_Y C zc_L_isStep R 942 ls st T else z_Y C zc_L_isStep R 911 ls st T) := Iff.trans (z_Y_at (cd := zc_L_isStep) (pc := 908) (zo_icne 942 911) rfl) (Iff.of_eq z_do_ite)
set_option maxRecDepth 20000 in
theorem ze_L_isStep_911  : z_Y C zc_L_isStep R 911 ls st T ↔ z_Y C zc_L_isStep R 938 ls st T := Iff.trans (z_Y_at (cd := zc_L_isStep) (pc := 911) (zo_goto 938) rfl) (Iff.of_eq rfl)
set_option maxRecDepth 20000 in
theorem ze_L_isStep_914 {k j : Nat} {t : List bb_V} : z_Y C zc_L_isStep R 914 (bb_R k j :: t) st T ↔ z_Y C zc_L_isStep R 915 (bb_R k j :: t) (bb_R k j :: st) T := Iff.trans (z_Y_at (cd := zc_L_isStep) (pc := 914) (zo_aload 0 915) rfl) (Iff.of_eq rfl)
set_option maxRecDepth 20000 in
theorem ze_L_isStep_915  : z_Y C zc_L_isStep R 915 ls st T ↔ z_Y C zc_L_isStep R 917 ls (bb_I 9 :: st) T := Iff.trans (z_Y_at (cd := zc_L_isStep) (pc := 915) (zo_const 9 917) rfl) (Iff.of_eq rfl)
set_option maxRecDepth 20000 in
theorem ze_L_isStep_917 {x1 : Int32} : z_Y C zc_L_isStep R 917 ls (bb_I x1 :: bb_R 40 0 :: []) T ↔ z_call C 34 [bb_R 40 0, bb_I x1] T (fun r T2 => z_Y C zc_L_isStep R 920 ls (bb_I r :: []) T2) := Iff.trans (z_Y_at (cd := zc_L_isStep) (pc := 917) (zo_callv 34 2 920) rfl) ((zq_callv_2 (by decide) (by decide)).trans ⟨fun h => h.2, fun h => ⟨Nat.le_of_ble_eq_true rfl, h⟩⟩)
set_option maxRecDepth 20000 in
theorem ze_L_isStep_920 {p0 p1 p2 p3 p4 p5 p6 p7 p8 p9 : bb_V} {x : Int32} {t : List bb_V} : z_Y C zc_L_isStep R 920 (p0 :: p1 :: p2 :: p3 :: p4 :: p5 :: p6 :: p7 :: p8 :: p9 :: bb_I x :: t) st T ↔ z_Y C zc_L_isStep R 922 (p0 :: p1 :: p2 :: p3 :: p4 :: p5 :: p6 :: p7 :: p8 :: p9 :: bb_I x :: t) (bb_I x :: st) T := Iff.trans (z_Y_at (cd := zc_L_isStep) (pc := 920) (zo_iload 10 922) rfl) (Iff.of_eq rfl)
set_option maxRecDepth 20000 in
theorem ze_L_isStep_922 {a : Int32} : z_Y C zc_L_isStep R 922 ls (bb_I a :: st) T ↔ (if 0 ≤ a then z_Y C zc_L_isStep R 930 ls st T else z_Y C zc_L_isStep R 925 ls st T) := Iff.trans (z_Y_at (cd := zc_L_isStep) (pc := 922) (zo_ifge 930 925) rfl) (Iff.of_eq z_do_ite)
set_option maxRecDepth 20000 in
theorem ze_L_isStep_925 {p0 p1 p2 p3 p4 p5 : bb_V} {x : Int32} {t : List bb_V} : z_Y C zc_L_isStep R 925 (p0 :: p1 :: p2 :: p3 :: p4 :: p5 :: bb_I x :: t) st T ↔ z_Y C zc_L_isStep R 927 (p0 :: p1 :: p2 :: p3 :: p4 :: p5 :: bb_I x :: t) (bb_I x :: st) T := Iff.trans (z_Y_at (cd := zc_L_isStep) (pc := 925) (zo_iload 6 927) rfl) (Iff.of_eq rfl)
set_option maxRecDepth 20000 in
theorem ze_L_isStep_927  : z_Y C zc_L_isStep R 927 ls st T ↔ z_Y C zc_L_isStep R 935 ls st T := Iff.trans (z_Y_at (cd := zc_L_isStep) (pc := 927) (zo_goto 935) rfl) (Iff.of_eq rfl)
set_option maxRecDepth 20000 in
theorem ze_L_isStep_930 {p0 p1 p2 p3 p4 p5 : bb_V} {x : Int32} {t : List bb_V} : z_Y C zc_L_isStep R 930 (p0 :: p1 :: p2 :: p3 :: p4 :: p5 :: bb_I x :: t) st T ↔ z_Y C zc_L_isStep R 932 (p0 :: p1 :: p2 :: p3 :: p4 :: p5 :: bb_I x :: t) (bb_I x :: st) T := Iff.trans (z_Y_at (cd := zc_L_isStep) (pc := 930) (zo_iload 6 932) rfl) (Iff.of_eq rfl)
set_option maxRecDepth 20000 in
theorem ze_L_isStep_932 {p0 p1 p2 p3 p4 p5 p6 p7 p8 p9 : bb_V} {x : Int32} {t : List bb_V} : z_Y C zc_L_isStep R 932 (p0 :: p1 :: p2 :: p3 :: p4 :: p5 :: p6 :: p7 :: p8 :: p9 :: bb_I x :: t) st T ↔ z_Y C zc_L_isStep R 934 (p0 :: p1 :: p2 :: p3 :: p4 :: p5 :: p6 :: p7 :: p8 :: p9 :: bb_I x :: t) (bb_I x :: st) T := Iff.trans (z_Y_at (cd := zc_L_isStep) (pc := 932) (zo_iload 10 934) rfl) (Iff.of_eq rfl)
set_option maxRecDepth 20000 in
theorem ze_L_isStep_934 {a b : Int32} : z_Y C zc_L_isStep R 934 ls (bb_I b :: bb_I a :: st) T ↔ z_Y C zc_L_isStep R 935 ls (bb_I (a - b) :: st) T := Iff.trans (z_Y_at (cd := zc_L_isStep) (pc := 934) (zo_isub 935) rfl) (Iff.of_eq rfl)
set_option maxRecDepth 20000 in
theorem ze_L_isStep_935 {a b : Int32} : z_Y C zc_L_isStep R 935 ls (bb_I b :: bb_I a :: st) T ↔ (if a ≠ b then z_Y C zc_L_isStep R 942 ls st T else z_Y C zc_L_isStep R 938 ls st T) := Iff.trans (z_Y_at (cd := zc_L_isStep) (pc := 935) (zo_icne 942 938) rfl) (Iff.of_eq z_do_ite)
set_option maxRecDepth 20000 in
theorem ze_L_isStep_938  : z_Y C zc_L_isStep R 938 ls st T ↔ z_Y C zc_L_isStep R 939 ls (bb_I 1 :: st) T := Iff.trans (z_Y_at (cd := zc_L_isStep) (pc := 938) (zo_const 1 939) rfl) (Iff.of_eq rfl)
set_option maxRecDepth 20000 in
theorem ze_L_isStep_939  : z_Y C zc_L_isStep R 939 ls st T ↔ z_Y C zc_L_isStep R 943 ls st T := Iff.trans (z_Y_at (cd := zc_L_isStep) (pc := 939) (zo_goto 943) rfl) (Iff.of_eq rfl)
set_option maxRecDepth 20000 in
theorem ze_L_isStep_942  : z_Y C zc_L_isStep R 942 ls st T ↔ z_Y C zc_L_isStep R 943 ls (bb_I 0 :: st) T := Iff.trans (z_Y_at (cd := zc_L_isStep) (pc := 942) (zo_const 0 943) rfl) (Iff.of_eq rfl)
set_option maxRecDepth 20000 in
theorem ze_L_isStep_943 {v : Int32} : z_Y C zc_L_isStep R 943 ls [bb_I v] T ↔ ((v = 0 ∨ v = 1) ∧ R v T) := Iff.trans (z_Y_at (cd := zc_L_isStep) (pc := 943) (zo_zret) rfl) (zq_zret)
end EL
section EL
variable {C : z_C} {R : z_P} {T : z_T} {ls st : List bb_V}
theorem ze_L_areSame_0 {p0 : bb_V} {k j : Nat} {t : List bb_V} : z_Y C zc_L_areSame R 0 (p0 :: bb_R k j :: t) st T ↔ z_Y C zc_L_areSame R 1 (p0 :: bb_R k j :: t) (bb_R k j :: st) T := Iff.trans (z_Y_at (cd := zc_L_areSame) (pc := 0) (zo_aload 1 1) rfl) (Iff.of_eq rfl)
theorem ze_L_areSame_1  : z_Y C zc_L_areSame R 1 ls (bb_R 41 0 :: []) T ↔ z_call C 26 [bb_R 41 0] T (fun r T2 => z_Y C zc_L_areSame R 4 ls (bb_I r :: []) T2) := Iff.trans (z_Y_at (cd := zc_L_areSame) (pc := 1) (zo_callv 26 1 4) rfl) ((zq_callv_1 (by decide) (by decide)).trans ⟨fun h => h.2, fun h => ⟨Nat.le_of_ble_eq_true rfl, h⟩⟩)
theorem ze_L_areSame_4 {p0 p1 : bb_V} {x : Int32} {t : List bb_V} : z_Y C zc_L_areSame R 4 (p0 :: p1 :: bb_I x :: t) st T ↔ z_Y C zc_L_areSame R 5 (p0 :: p1 :: bb_I x :: t) (bb_I x :: st) T := Iff.trans (z_Y_at (cd := zc_L_areSame) (pc := 4) (zo_iload 2 5) rfl) (Iff.of_eq rfl)
theorem ze_L_areSame_5 {a b : Int32} : z_Y C zc_L_areSame R 5 ls (bb_I b :: bb_I a :: st) T ↔ (if a ≠ b then z_Y C zc_L_areSame R 12 ls st T else z_Y C zc_L_areSame R 8 ls st T) := Iff.trans (z_Y_at (cd := zc_L_areSame) (pc := 5) (zo_icne 12 8) rfl) (Iff.of_eq z_do_ite)
theorem ze_L_areSame_8  : z_Y C zc_L_areSame R 8 ls st T ↔ z_Y C zc_L_areSame R 9 ls (bb_I 1 :: st) T := Iff.trans (z_Y_at (cd := zc_L_areSame) (pc := 8) (zo_const 1 9) rfl) (Iff.of_eq rfl)
theorem ze_L_areSame_9  : z_Y C zc_L_areSame R 9 ls st T ↔ z_Y C zc_L_areSame R 13 ls st T := Iff.trans (z_Y_at (cd := zc_L_areSame) (pc := 9) (zo_goto 13) rfl) (Iff.of_eq rfl)
theorem ze_L_areSame_12  : z_Y C zc_L_areSame R 12 ls st T ↔ z_Y C zc_L_areSame R 13 ls (bb_I 0 :: st) T := Iff.trans (z_Y_at (cd := zc_L_areSame) (pc := 12) (zo_const 0 13) rfl) (Iff.of_eq rfl)
theorem ze_L_areSame_13 {v : Int32} : z_Y C zc_L_areSame R 13 ls [bb_I v] T ↔ ((v = 0 ∨ v = 1) ∧ R v T) := Iff.trans (z_Y_at (cd := zc_L_areSame) (pc := 13) (zo_zret) rfl) (zq_zret)
end EL
section EL
variable {C : z_C} {R : z_P} {T : z_T} {ls st : List bb_V}
theorem ze_L_isBalanced_0 {k j : Nat} {t : List bb_V} : z_Y C zc_L_isBalanced R 0 (bb_R k j :: t) st T ↔ z_Y C zc_L_isBalanced R 1 (bb_R k j :: t) (bb_R k j :: st) T := Iff.trans (z_Y_at (cd := zc_L_isBalanced) (pc := 0) (zo_aload 0 1) rfl) (Iff.of_eq rfl)
theorem ze_L_isBalanced_1  : z_Y C zc_L_isBalanced R 1 ls st T ↔ z_Y C zc_L_isBalanced R 2 ls (bb_I 0 :: st) T := Iff.trans (z_Y_at (cd := zc_L_isBalanced) (pc := 1) (zo_const 0 2) rfl) (Iff.of_eq rfl)
theorem ze_L_isBalanced_2 {x1 : Int32} : z_Y C zc_L_isBalanced R 2 ls (bb_I x1 :: bb_R 40 0 :: []) T ↔ z_call C 34 [bb_R 40 0, bb_I x1] T (fun r T2 => z_Y C zc_L_isBalanced R 5 ls (bb_I r :: []) T2) := Iff.trans (z_Y_at (cd := zc_L_isBalanced) (pc := 2) (zo_callv 34 2 5) rfl) ((zq_callv_2 (by decide) (by decide)).trans ⟨fun h => h.2, fun h => ⟨Nat.le_of_ble_eq_true rfl, h⟩⟩)
theorem ze_L_isBalanced_5 {k j : Nat} {t : List bb_V} : z_Y C zc_L_isBalanced R 5 (bb_R k j :: t) st T ↔ z_Y C zc_L_isBalanced R 6 (bb_R k j :: t) (bb_R k j :: st) T := Iff.trans (z_Y_at (cd := zc_L_isBalanced) (pc := 5) (zo_aload 0 6) rfl) (Iff.of_eq rfl)
theorem ze_L_isBalanced_6  : z_Y C zc_L_isBalanced R 6 ls st T ↔ z_Y C zc_L_isBalanced R 7 ls (bb_I 1 :: st) T := Iff.trans (z_Y_at (cd := zc_L_isBalanced) (pc := 6) (zo_const 1 7) rfl) (Iff.of_eq rfl)
theorem ze_L_isBalanced_7 {x1 : Int32} {z0 : Int32} : z_Y C zc_L_isBalanced R 7 ls (bb_I x1 :: bb_R 40 0 :: [bb_I z0]) T ↔ z_call C 34 [bb_R 40 0, bb_I x1] T (fun r T2 => z_Y C zc_L_isBalanced R 10 ls (bb_I r :: [bb_I z0]) T2) := Iff.trans (z_Y_at (cd := zc_L_isBalanced) (pc := 7) (zo_callv 34 2 10) rfl) ((zq_callv_2 (by decide) (by decide)).trans ⟨fun h => h.2, fun h => ⟨Nat.le_of_ble_eq_true rfl, h⟩⟩)
theorem ze_L_isBalanced_10 {a b : Int32} : z_Y C zc_L_isBalanced R 10 ls (bb_I b :: bb_I a :: st) T ↔ z_Y C zc_L_isBalanced R 11 ls (bb_I (a + b) :: st) T := Iff.trans (z_Y_at (cd := zc_L_isBalanced) (pc := 10) (zo_iadd 11) rfl) (Iff.of_eq rfl)
theorem ze_L_isBalanced_11 {k j : Nat} {t : List bb_V} : z_Y C zc_L_isBalanced R 11 (bb_R k j :: t) st T ↔ z_Y C zc_L_isBalanced R 12 (bb_R k j :: t) (bb_R k j :: st) T := Iff.trans (z_Y_at (cd := zc_L_isBalanced) (pc := 11) (zo_aload 0 12) rfl) (Iff.of_eq rfl)
theorem ze_L_isBalanced_12  : z_Y C zc_L_isBalanced R 12 ls st T ↔ z_Y C zc_L_isBalanced R 13 ls (bb_I 2 :: st) T := Iff.trans (z_Y_at (cd := zc_L_isBalanced) (pc := 12) (zo_const 2 13) rfl) (Iff.of_eq rfl)
theorem ze_L_isBalanced_13 {x1 : Int32} {z0 : Int32} : z_Y C zc_L_isBalanced R 13 ls (bb_I x1 :: bb_R 40 0 :: [bb_I z0]) T ↔ z_call C 34 [bb_R 40 0, bb_I x1] T (fun r T2 => z_Y C zc_L_isBalanced R 16 ls (bb_I r :: [bb_I z0]) T2) := Iff.trans (z_Y_at (cd := zc_L_isBalanced) (pc := 13) (zo_callv 34 2 16) rfl) ((zq_callv_2 (by decide) (by decide)).trans ⟨fun h => h.2, fun h => ⟨Nat.le_of_ble_eq_true rfl, h⟩⟩)
theorem ze_L_isBalanced_16 {a b : Int32} : z_Y C zc_L_isBalanced R 16 ls (bb_I b :: bb_I a :: st) T ↔ z_Y C zc_L_isBalanced R 17 ls (bb_I (a + b) :: st) T := Iff.trans (z_Y_at (cd := zc_L_isBalanced) (pc := 16) (zo_iadd 17) rfl) (Iff.of_eq rfl)
theorem ze_L_isBalanced_17 {k j : Nat} {t : List bb_V} : z_Y C zc_L_isBalanced R 17 (bb_R k j :: t) st T ↔ z_Y C zc_L_isBalanced R 18 (bb_R k j :: t) (bb_R k j :: st) T := Iff.trans (z_Y_at (cd := zc_L_isBalanced) (pc := 17) (zo_aload 0 18) rfl) (Iff.of_eq rfl)
theorem ze_L_isBalanced_18  : z_Y C zc_L_isBalanced R 18 ls st T ↔ z_Y C zc_L_isBalanced R 19 ls (bb_I 4 :: st) T := Iff.trans (z_Y_at (cd := zc_L_isBalanced) (pc := 18) (zo_const 4 19) rfl) (Iff.of_eq rfl)
theorem ze_L_isBalanced_19 {x1 : Int32} {z0 : Int32} : z_Y C zc_L_isBalanced R 19 ls (bb_I x1 :: bb_R 40 0 :: [bb_I z0]) T ↔ z_call C 34 [bb_R 40 0, bb_I x1] T (fun r T2 => z_Y C zc_L_isBalanced R 22 ls (bb_I r :: [bb_I z0]) T2) := Iff.trans (z_Y_at (cd := zc_L_isBalanced) (pc := 19) (zo_callv 34 2 22) rfl) ((zq_callv_2 (by decide) (by decide)).trans ⟨fun h => h.2, fun h => ⟨Nat.le_of_ble_eq_true rfl, h⟩⟩)
theorem ze_L_isBalanced_22 {a b : Int32} : z_Y C zc_L_isBalanced R 22 ls (bb_I b :: bb_I a :: st) T ↔ z_Y C zc_L_isBalanced R 23 ls (bb_I (a + b) :: st) T := Iff.trans (z_Y_at (cd := zc_L_isBalanced) (pc := 22) (zo_iadd 23) rfl) (Iff.of_eq rfl)
theorem ze_L_isBalanced_23  : z_Y C zc_L_isBalanced R 23 ls st T ↔ z_Y C zc_L_isBalanced R 26 ls (bb_I 2520 :: st) T := Iff.trans (z_Y_at (cd := zc_L_isBalanced) (pc := 23) (zo_const 2520 26) rfl) (Iff.of_eq rfl)
theorem ze_L_isBalanced_26 {k j : Nat} {t : List bb_V} : z_Y C zc_L_isBalanced R 26 (bb_R k j :: t) st T ↔ z_Y C zc_L_isBalanced R 27 (bb_R k j :: t) (bb_R k j :: st) T := Iff.trans (z_Y_at (cd := zc_L_isBalanced) (pc := 26) (zo_aload 0 27) rfl) (Iff.of_eq rfl)
theorem ze_L_isBalanced_27  : z_Y C zc_L_isBalanced R 27 ls st T ↔ z_Y C zc_L_isBalanced R 28 ls (bb_I 3 :: st) T := Iff.trans (z_Y_at (cd := zc_L_isBalanced) (pc := 27) (zo_const 3 28) rfl) (Iff.of_eq rfl)
theorem ze_L_isBalanced_28 {x1 : Int32} {z0 : Int32} {z1 : Int32} : z_Y C zc_L_isBalanced R 28 ls (bb_I x1 :: bb_R 40 0 :: [bb_I z1, bb_I z0]) T ↔ z_call C 34 [bb_R 40 0, bb_I x1] T (fun r T2 => z_Y C zc_L_isBalanced R 31 ls (bb_I r :: [bb_I z1, bb_I z0]) T2) := Iff.trans (z_Y_at (cd := zc_L_isBalanced) (pc := 28) (zo_callv 34 2 31) rfl) ((zq_callv_2 (by decide) (by decide)).trans ⟨fun h => h.2, fun h => ⟨Nat.le_of_ble_eq_true rfl, h⟩⟩)
theorem ze_L_isBalanced_31 {a b : Int32} : z_Y C zc_L_isBalanced R 31 ls (bb_I b :: bb_I a :: st) T ↔ z_Y C zc_L_isBalanced R 32 ls (bb_I (a + b) :: st) T := Iff.trans (z_Y_at (cd := zc_L_isBalanced) (pc := 31) (zo_iadd 32) rfl) (Iff.of_eq rfl)
theorem ze_L_isBalanced_32 {a b : Int32} : z_Y C zc_L_isBalanced R 32 ls (bb_I b :: bb_I a :: st) T ↔ (if a ≠ b then z_Y C zc_L_isBalanced R 39 ls st T else z_Y C zc_L_isBalanced R 35 ls st T) := Iff.trans (z_Y_at (cd := zc_L_isBalanced) (pc := 32) (zo_icne 39 35) rfl) (Iff.of_eq z_do_ite)
theorem ze_L_isBalanced_35  : z_Y C zc_L_isBalanced R 35 ls st T ↔ z_Y C zc_L_isBalanced R 36 ls (bb_I 1 :: st) T := Iff.trans (z_Y_at (cd := zc_L_isBalanced) (pc := 35) (zo_const 1 36) rfl) (Iff.of_eq rfl)
theorem ze_L_isBalanced_36  : z_Y C zc_L_isBalanced R 36 ls st T ↔ z_Y C zc_L_isBalanced R 40 ls st T := Iff.trans (z_Y_at (cd := zc_L_isBalanced) (pc := 36) (zo_goto 40) rfl) (Iff.of_eq rfl)
theorem ze_L_isBalanced_39  : z_Y C zc_L_isBalanced R 39 ls st T ↔ z_Y C zc_L_isBalanced R 40 ls (bb_I 0 :: st) T := Iff.trans (z_Y_at (cd := zc_L_isBalanced) (pc := 39) (zo_const 0 40) rfl) (Iff.of_eq rfl)
theorem ze_L_isBalanced_40 {v : Int32} : z_Y C zc_L_isBalanced R 40 ls [bb_I v] T ↔ ((v = 0 ∨ v = 1) ∧ R v T) := Iff.trans (z_Y_at (cd := zc_L_isBalanced) (pc := 40) (zo_zret) rfl) (zq_zret)
end EL
section EL
variable {C : z_C} {R : z_P} {T : z_T} {ls st : List bb_V}
theorem ze_L_areEnded_0  : z_Y C zc_L_areEnded R 0 ls st T ↔ z_Y C zc_L_areEnded R 1 ls (bb_I 0 :: st) T := Iff.trans (z_Y_at (cd := zc_L_areEnded) (pc := 0) (zo_const 0 1) rfl) (Iff.of_eq rfl)
theorem ze_L_areEnded_1 {p0 p1 p2 p3 : bb_V} {x : Int32} {q : bb_V} {t : List bb_V} : z_Y C zc_L_areEnded R 1 (p0 :: p1 :: p2 :: p3 :: q :: t) (bb_I x :: st) T ↔ z_Y C zc_L_areEnded R 3 (p0 :: p1 :: p2 :: p3 :: bb_I x :: t) st T := Iff.trans (z_Y_at (cd := zc_L_areEnded) (pc := 1) (zo_istore 4 3) rfl) (Iff.of_eq rfl)
theorem ze_L_areEnded_3 {k j : Nat} {t : List bb_V} : z_Y C zc_L_areEnded R 3 (bb_R k j :: t) st T ↔ z_Y C zc_L_areEnded R 4 (bb_R k j :: t) (bb_R k j :: st) T := Iff.trans (z_Y_at (cd := zc_L_areEnded) (pc := 3) (zo_aload 0 4) rfl) (Iff.of_eq rfl)
theorem ze_L_areEnded_4 {p0 p1 : bb_V} {x : Int32} {t : List bb_V} : z_Y C zc_L_areEnded R 4 (p0 :: p1 :: bb_I x :: t) st T ↔ z_Y C zc_L_areEnded R 5 (p0 :: p1 :: bb_I x :: t) (bb_I x :: st) T := Iff.trans (z_Y_at (cd := zc_L_areEnded) (pc := 4) (zo_iload 2 5) rfl) (Iff.of_eq rfl)
theorem ze_L_areEnded_5  : z_Y C zc_L_areEnded R 5 ls st T ↔ z_Y C zc_L_areEnded R 6 ls (bb_I 0 :: st) T := Iff.trans (z_Y_at (cd := zc_L_areEnded) (pc := 5) (zo_const 0 6) rfl) (Iff.of_eq rfl)
theorem ze_L_areEnded_6 {x1 : Int32} {x2 : Int32} : z_Y C zc_L_areEnded R 6 ls (bb_I x2 :: bb_I x1 :: bb_R 40 0 :: []) T ↔ z_call C 31 [bb_R 40 0, bb_I x1, bb_I x2] T (fun r T2 => z_Y C zc_L_areEnded R 9 ls (bb_I r :: []) T2) := Iff.trans (z_Y_at (cd := zc_L_areEnded) (pc := 6) (zo_callv 31 3 9) rfl) ((zq_callv_3 (by decide) (by decide)).trans ⟨fun h => h.2, fun h => ⟨Nat.le_of_ble_eq_true rfl, h⟩⟩)
theorem ze_L_areEnded_9  : z_Y C zc_L_areEnded R 9 ls st T ↔ z_Y C zc_L_areEnded R 12 ls (bb_I (-1005) :: st) T := Iff.trans (z_Y_at (cd := zc_L_areEnded) (pc := 9) (zo_const (-1005) 12) rfl) (Iff.of_eq rfl)
theorem ze_L_areEnded_12 {a b : Int32} : z_Y C zc_L_areEnded R 12 ls (bb_I b :: bb_I a :: st) T ↔ (if a ≠ b then z_Y C zc_L_areEnded R 19 ls st T else z_Y C zc_L_areEnded R 15 ls st T) := Iff.trans (z_Y_at (cd := zc_L_areEnded) (pc := 12) (zo_icne 19 15) rfl) (Iff.of_eq z_do_ite)
theorem ze_L_areEnded_15  : z_Y C zc_L_areEnded R 15 ls st T ↔ z_Y C zc_L_areEnded R 16 ls (bb_I 1 :: st) T := Iff.trans (z_Y_at (cd := zc_L_areEnded) (pc := 15) (zo_const 1 16) rfl) (Iff.of_eq rfl)
theorem ze_L_areEnded_16  : z_Y C zc_L_areEnded R 16 ls st T ↔ z_Y C zc_L_areEnded R 20 ls st T := Iff.trans (z_Y_at (cd := zc_L_areEnded) (pc := 16) (zo_goto 20) rfl) (Iff.of_eq rfl)
theorem ze_L_areEnded_19  : z_Y C zc_L_areEnded R 19 ls st T ↔ z_Y C zc_L_areEnded R 20 ls (bb_I 0 :: st) T := Iff.trans (z_Y_at (cd := zc_L_areEnded) (pc := 19) (zo_const 0 20) rfl) (Iff.of_eq rfl)
theorem ze_L_areEnded_20 {p0 p1 p2 p3 p4 : bb_V} {x : Int32} {q : bb_V} {t : List bb_V} : z_Y C zc_L_areEnded R 20 (p0 :: p1 :: p2 :: p3 :: p4 :: q :: t) (bb_I x :: st) T ↔ z_Y C zc_L_areEnded R 22 (p0 :: p1 :: p2 :: p3 :: p4 :: bb_I x :: t) st T := Iff.trans (z_Y_at (cd := zc_L_areEnded) (pc := 20) (zo_istore 5 22) rfl) (Iff.of_eq rfl)
theorem ze_L_areEnded_22  : z_Y C zc_L_areEnded R 22 ls st T ↔ z_Y C zc_L_areEnded R 23 ls (bb_I 0 :: st) T := Iff.trans (z_Y_at (cd := zc_L_areEnded) (pc := 22) (zo_const 0 23) rfl) (Iff.of_eq rfl)
theorem ze_L_areEnded_23 {p0 p1 p2 p3 p4 p5 : bb_V} {x : Int32} {q : bb_V} {t : List bb_V} : z_Y C zc_L_areEnded R 23 (p0 :: p1 :: p2 :: p3 :: p4 :: p5 :: q :: t) (bb_I x :: st) T ↔ z_Y C zc_L_areEnded R 25 (p0 :: p1 :: p2 :: p3 :: p4 :: p5 :: bb_I x :: t) st T := Iff.trans (z_Y_at (cd := zc_L_areEnded) (pc := 23) (zo_istore 6 25) rfl) (Iff.of_eq rfl)
theorem zh_L_areEnded_25 {p0 p1 p2 p3 p4 p5 : bb_V} {x : Int32} {t : List bb_V} : z_Y C zc_L_areEnded R 25 (p0 :: p1 :: p2 :: p3 :: p4 :: p5 :: bb_I x :: t) st T ↔ z_Y C zc_L_areEnded R 27 (p0 :: p1 :: p2 :: p3 :: p4 :: p5 :: bb_I x :: t) (bb_I x :: st) T := Iff.trans (z_Y_at (cd := zc_L_areEnded) (pc := 25) (zo_iload 6 27) rfl) (Iff.of_eq rfl)
theorem ze_L_areEnded_27 {p0 p1 : bb_V} {x : Int32} {t : List bb_V} : z_Y C zc_L_areEnded R 27 (p0 :: p1 :: bb_I x :: t) st T ↔ z_Y C zc_L_areEnded R 28 (p0 :: p1 :: bb_I x :: t) (bb_I x :: st) T := Iff.trans (z_Y_at (cd := zc_L_areEnded) (pc := 27) (zo_iload 2 28) rfl) (Iff.of_eq rfl)
theorem ze_L_areEnded_28 {a b : Int32} : z_Y C zc_L_areEnded R 28 ls (bb_I b :: bb_I a :: st) T ↔ (if b ≤ a then z_Y C zc_L_areEnded R 127 ls st T else z_Y C zc_L_areEnded R 31 ls st T) := Iff.trans (z_Y_at (cd := zc_L_areEnded) (pc := 28) (zo_icge 127 31) rfl) (Iff.of_eq z_do_ite)
theorem ze_L_areEnded_31 {p0 p1 p2 p3 p4 : bb_V} {x : Int32} {t : List bb_V} : z_Y C zc_L_areEnded R 31 (p0 :: p1 :: p2 :: p3 :: p4 :: bb_I x :: t) st T ↔ z_Y C zc_L_areEnded R 33 (p0 :: p1 :: p2 :: p3 :: p4 :: bb_I x :: t) (bb_I x :: st) T := Iff.trans (z_Y_at (cd := zc_L_areEnded) (pc := 31) (zo_iload 5 33) rfl) (Iff.of_eq rfl)
theorem ze_L_areEnded_33 {a : Int32} : z_Y C zc_L_areEnded R 33 ls (bb_I a :: st) T ↔ (if a = 0 then z_Y C zc_L_areEnded R 127 ls st T else z_Y C zc_L_areEnded R 36 ls st T) := Iff.trans (z_Y_at (cd := zc_L_areEnded) (pc := 33) (zo_ifeq 127 36) rfl) (Iff.of_eq z_do_ite)
theorem ze_L_areEnded_36 {p0 p1 p2 p3 : bb_V} {x : Int32} {t : List bb_V} : z_Y C zc_L_areEnded R 36 (p0 :: p1 :: p2 :: p3 :: bb_I x :: t) st T ↔ z_Y C zc_L_areEnded R 38 (p0 :: p1 :: p2 :: p3 :: bb_I x :: t) (bb_I x :: st) T := Iff.trans (z_Y_at (cd := zc_L_areEnded) (pc := 36) (zo_iload 4 38) rfl) (Iff.of_eq rfl)
theorem ze_L_areEnded_38 {k j : Nat} {t : List bb_V} : z_Y C zc_L_areEnded R 38 (bb_R k j :: t) st T ↔ z_Y C zc_L_areEnded R 39 (bb_R k j :: t) (bb_R k j :: st) T := Iff.trans (z_Y_at (cd := zc_L_areEnded) (pc := 38) (zo_aload 0 39) rfl) (Iff.of_eq rfl)
theorem ze_L_areEnded_39 {p0 p1 p2 p3 p4 p5 : bb_V} {x : Int32} {t : List bb_V} : z_Y C zc_L_areEnded R 39 (p0 :: p1 :: p2 :: p3 :: p4 :: p5 :: bb_I x :: t) st T ↔ z_Y C zc_L_areEnded R 41 (p0 :: p1 :: p2 :: p3 :: p4 :: p5 :: bb_I x :: t) (bb_I x :: st) T := Iff.trans (z_Y_at (cd := zc_L_areEnded) (pc := 39) (zo_iload 6 41) rfl) (Iff.of_eq rfl)
theorem ze_L_areEnded_41  : z_Y C zc_L_areEnded R 41 ls st T ↔ z_Y C zc_L_areEnded R 42 ls (bb_I 5 :: st) T := Iff.trans (z_Y_at (cd := zc_L_areEnded) (pc := 41) (zo_const 5 42) rfl) (Iff.of_eq rfl)
theorem ze_L_areEnded_42 {x1 : Int32} {x2 : Int32} {z0 : Int32} : z_Y C zc_L_areEnded R 42 ls (bb_I x2 :: bb_I x1 :: bb_R 40 0 :: [bb_I z0]) T ↔ z_call C 31 [bb_R 40 0, bb_I x1, bb_I x2] T (fun r T2 => z_Y C zc_L_areEnded R 45 ls (bb_I r :: [bb_I z0]) T2) := Iff.trans (z_Y_at (cd := zc_L_areEnded) (pc := 42) (zo_callv 31 3 45) rfl) ((zq_callv_3 (by decide) (by decide)).trans ⟨fun h => h.2, fun h => ⟨Nat.le_of_ble_eq_true rfl, h⟩⟩)
theorem ze_L_areEnded_45 {a b : Int32} : z_Y C zc_L_areEnded R 45 ls (bb_I b :: bb_I a :: st) T ↔ z_Y C zc_L_areEnded R 46 ls (bb_I (a + b) :: st) T := Iff.trans (z_Y_at (cd := zc_L_areEnded) (pc := 45) (zo_iadd 46) rfl) (Iff.of_eq rfl)
theorem ze_L_areEnded_46 {p0 p1 p2 p3 : bb_V} {x : Int32} {q : bb_V} {t : List bb_V} : z_Y C zc_L_areEnded R 46 (p0 :: p1 :: p2 :: p3 :: q :: t) (bb_I x :: st) T ↔ z_Y C zc_L_areEnded R 48 (p0 :: p1 :: p2 :: p3 :: bb_I x :: t) st T := Iff.trans (z_Y_at (cd := zc_L_areEnded) (pc := 46) (zo_istore 4 48) rfl) (Iff.of_eq rfl)
theorem ze_L_areEnded_48 {k j : Nat} {t : List bb_V} : z_Y C zc_L_areEnded R 48 (bb_R k j :: t) st T ↔ z_Y C zc_L_areEnded R 49 (bb_R k j :: t) (bb_R k j :: st) T := Iff.trans (z_Y_at (cd := zc_L_areEnded) (pc := 48) (zo_aload 0 49) rfl) (Iff.of_eq rfl)
theorem ze_L_areEnded_49 {p0 p1 p2 p3 p4 p5 : bb_V} {x : Int32} {t : List bb_V} : z_Y C zc_L_areEnded R 49 (p0 :: p1 :: p2 :: p3 :: p4 :: p5 :: bb_I x :: t) st T ↔ z_Y C zc_L_areEnded R 51 (p0 :: p1 :: p2 :: p3 :: p4 :: p5 :: bb_I x :: t) (bb_I x :: st) T := Iff.trans (z_Y_at (cd := zc_L_areEnded) (pc := 49) (zo_iload 6 51) rfl) (Iff.of_eq rfl)
theorem ze_L_areEnded_51  : z_Y C zc_L_areEnded R 51 ls st T ↔ z_Y C zc_L_areEnded R 52 ls (bb_I 0 :: st) T := Iff.trans (z_Y_at (cd := zc_L_areEnded) (pc := 51) (zo_const 0 52) rfl) (Iff.of_eq rfl)
theorem ze_L_areEnded_52 {x1 : Int32} {x2 : Int32} : z_Y C zc_L_areEnded R 52 ls (bb_I x2 :: bb_I x1 :: bb_R 40 0 :: []) T ↔ z_call C 31 [bb_R 40 0, bb_I x1, bb_I x2] T (fun r T2 => z_Y C zc_L_areEnded R 55 ls (bb_I r :: []) T2) := Iff.trans (z_Y_at (cd := zc_L_areEnded) (pc := 52) (zo_callv 31 3 55) rfl) ((zq_callv_3 (by decide) (by decide)).trans ⟨fun h => h.2, fun h => ⟨Nat.le_of_ble_eq_true rfl, h⟩⟩)
theorem ze_L_areEnded_55  : z_Y C zc_L_areEnded R 55 ls st T ↔ z_Y C zc_L_areEnded R 56 ls (bb_I 3 :: st) T := Iff.trans (z_Y_at (cd := zc_L_areEnded) (pc := 55) (zo_const 3 56) rfl) (Iff.of_eq rfl)
theorem ze_L_areEnded_56 {p0 : bb_V} {k j : Nat} {t : List bb_V} : z_Y C zc_L_areEnded R 56 (p0 :: bb_R k j :: t) st T ↔ z_Y C zc_L_areEnded R 57 (p0 :: bb_R k j :: t) (bb_R k j :: st) T := Iff.trans (z_Y_at (cd := zc_L_areEnded) (pc := 56) (zo_aload 1 57) rfl) (Iff.of_eq rfl)
theorem ze_L_areEnded_57 {p0 p1 p2 p3 p4 p5 : bb_V} {x : Int32} {t : List bb_V} : z_Y C zc_L_areEnded R 57 (p0 :: p1 :: p2 :: p3 :: p4 :: p5 :: bb_I x :: t) st T ↔ z_Y C zc_L_areEnded R 59 (p0 :: p1 :: p2 :: p3 :: p4 :: p5 :: bb_I x :: t) (bb_I x :: st) T := Iff.trans (z_Y_at (cd := zc_L_areEnded) (pc := 57) (zo_iload 6 59) rfl) (Iff.of_eq rfl)
theorem ze_L_areEnded_59  : z_Y C zc_L_areEnded R 59 ls st T ↔ z_Y C zc_L_areEnded R 60 ls (bb_I 0 :: st) T := Iff.trans (z_Y_at (cd := zc_L_areEnded) (pc := 59) (zo_const 0 60) rfl) (Iff.of_eq rfl)
theorem ze_L_areEnded_60 {x1 : Int32} {x2 : Int32} {z0 : Int32} {z1 : Int32} : z_Y C zc_L_areEnded R 60 ls (bb_I x2 :: bb_I x1 :: bb_R 41 0 :: [bb_I z1, bb_I z0]) T ↔ z_call C 31 [bb_R 41 0, bb_I x1, bb_I x2] T (fun r T2 => z_Y C zc_L_areEnded R 63 ls (bb_I r :: [bb_I z1, bb_I z0]) T2) := Iff.trans (z_Y_at (cd := zc_L_areEnded) (pc := 60) (zo_callv 31 3 63) rfl) ((zq_callv_3 (by decide) (by decide)).trans ⟨fun h => h.2, fun h => ⟨Nat.le_of_ble_eq_true rfl, h⟩⟩)
theorem ze_L_areEnded_63 {a b : Int32} : z_Y C zc_L_areEnded R 63 ls (bb_I b :: bb_I a :: st) T ↔ z_Y C zc_L_areEnded R 64 ls (bb_I (a - b) :: st) T := Iff.trans (z_Y_at (cd := zc_L_areEnded) (pc := 63) (zo_isub 64) rfl) (Iff.of_eq rfl)
theorem ze_L_areEnded_64 {a b : Int32} : z_Y C zc_L_areEnded R 64 ls (bb_I b :: bb_I a :: st) T ↔ (if a ≠ b then z_Y C zc_L_areEnded R 71 ls st T else z_Y C zc_L_areEnded R 67 ls st T) := Iff.trans (z_Y_at (cd := zc_L_areEnded) (pc := 64) (zo_icne 71 67) rfl) (Iff.of_eq z_do_ite)
theorem ze_L_areEnded_67  : z_Y C zc_L_areEnded R 67 ls st T ↔ z_Y C zc_L_areEnded R 68 ls (bb_I 1 :: st) T := Iff.trans (z_Y_at (cd := zc_L_areEnded) (pc := 67) (zo_const 1 68) rfl) (Iff.of_eq rfl)
theorem ze_L_areEnded_68  : z_Y C zc_L_areEnded R 68 ls st T ↔ z_Y C zc_L_areEnded R 72 ls st T := Iff.trans (z_Y_at (cd := zc_L_areEnded) (pc := 68) (zo_goto 72) rfl) (Iff.of_eq rfl)
theorem ze_L_areEnded_71  : z_Y C zc_L_areEnded R 71 ls st T ↔ z_Y C zc_L_areEnded R 72 ls (bb_I 0 :: st) T := Iff.trans (z_Y_at (cd := zc_L_areEnded) (pc := 71) (zo_const 0 72) rfl) (Iff.of_eq rfl)
theorem ze_L_areEnded_72 {p0 p1 p2 p3 p4 : bb_V} {x : Int32} {q : bb_V} {t : List bb_V} : z_Y C zc_L_areEnded R 72 (p0 :: p1 :: p2 :: p3 :: p4 :: q :: t) (bb_I x :: st) T ↔ z_Y C zc_L_areEnded R 74 (p0 :: p1 :: p2 :: p3 :: p4 :: bb_I x :: t) st T := Iff.trans (z_Y_at (cd := zc_L_areEnded) (pc := 72) (zo_istore 5 74) rfl) (Iff.of_eq rfl)
theorem ze_L_areEnded_74  : z_Y C zc_L_areEnded R 74 ls st T ↔ z_Y C zc_L_areEnded R 75 ls (bb_I 1 :: st) T := Iff.trans (z_Y_at (cd := zc_L_areEnded) (pc := 74) (zo_const 1 75) rfl) (Iff.of_eq rfl)
theorem ze_L_areEnded_75 {p0 p1 p2 p3 p4 p5 p6 : bb_V} {x : Int32} {q : bb_V} {t : List bb_V} : z_Y C zc_L_areEnded R 75 (p0 :: p1 :: p2 :: p3 :: p4 :: p5 :: p6 :: q :: t) (bb_I x :: st) T ↔ z_Y C zc_L_areEnded R 77 (p0 :: p1 :: p2 :: p3 :: p4 :: p5 :: p6 :: bb_I x :: t) st T := Iff.trans (z_Y_at (cd := zc_L_areEnded) (pc := 75) (zo_istore 7 77) rfl) (Iff.of_eq rfl)
theorem zh_L_areEnded_77 {p0 p1 p2 p3 p4 p5 p6 : bb_V} {x : Int32} {t : List bb_V} : z_Y C zc_L_areEnded R 77 (p0 :: p1 :: p2 :: p3 :: p4 :: p5 :: p6 :: bb_I x :: t) st T ↔ z_Y C zc_L_areEnded R 79 (p0 :: p1 :: p2 :: p3 :: p4 :: p5 :: p6 :: bb_I x :: t) (bb_I x :: st) T := Iff.trans (z_Y_at (cd := zc_L_areEnded) (pc := 77) (zo_iload 7 79) rfl) (Iff.of_eq rfl)
theorem ze_L_areEnded_79  : z_Y C zc_L_areEnded R 79 ls st T ↔ z_Y C zc_L_areEnded R 81 ls (bb_I 7 :: st) T := Iff.trans (z_Y_at (cd := zc_L_areEnded) (pc := 79) (zo_const 7 81) rfl) (Iff.of_eq rfl)
theorem ze_L_areEnded_81 {a b : Int32} : z_Y C zc_L_areEnded R 81 ls (bb_I b :: bb_I a :: st) T ↔ (if b ≤ a then z_Y C zc_L_areEnded R 121 ls st T else z_Y C zc_L_areEnded R 84 ls st T) := Iff.trans (z_Y_at (cd := zc_L_areEnded) (pc := 81) (zo_icge 121 84) rfl) (Iff.of_eq z_do_ite)
theorem ze_L_areEnded_84 {p0 p1 p2 p3 p4 : bb_V} {x : Int32} {t : List bb_V} : z_Y C zc_L_areEnded R 84 (p0 :: p1 :: p2 :: p3 :: p4 :: bb_I x :: t) st T ↔ z_Y C zc_L_areEnded R 86 (p0 :: p1 :: p2 :: p3 :: p4 :: bb_I x :: t) (bb_I x :: st) T := Iff.trans (z_Y_at (cd := zc_L_areEnded) (pc := 84) (zo_iload 5 86) rfl) (Iff.of_eq rfl)
theorem ze_L_areEnded_86 {a : Int32} : z_Y C zc_L_areEnded R 86 ls (bb_I a :: st) T ↔ (if a = 0 then z_Y C zc_L_areEnded R 112 ls st T else z_Y C zc_L_areEnded R 89 ls st T) := Iff.trans (z_Y_at (cd := zc_L_areEnded) (pc := 86) (zo_ifeq 112 89) rfl) (Iff.of_eq z_do_ite)
theorem ze_L_areEnded_89 {k j : Nat} {t : List bb_V} : z_Y C zc_L_areEnded R 89 (bb_R k j :: t) st T ↔ z_Y C zc_L_areEnded R 90 (bb_R k j :: t) (bb_R k j :: st) T := Iff.trans (z_Y_at (cd := zc_L_areEnded) (pc := 89) (zo_aload 0 90) rfl) (Iff.of_eq rfl)
theorem ze_L_areEnded_90 {p0 p1 p2 p3 p4 p5 : bb_V} {x : Int32} {t : List bb_V} : z_Y C zc_L_areEnded R 90 (p0 :: p1 :: p2 :: p3 :: p4 :: p5 :: bb_I x :: t) st T ↔ z_Y C zc_L_areEnded R 92 (p0 :: p1 :: p2 :: p3 :: p4 :: p5 :: bb_I x :: t) (bb_I x :: st) T := Iff.trans (z_Y_at (cd := zc_L_areEnded) (pc := 90) (zo_iload 6 92) rfl) (Iff.of_eq rfl)
theorem ze_L_areEnded_92 {p0 p1 p2 p3 p4 p5 p6 : bb_V} {x : Int32} {t : List bb_V} : z_Y C zc_L_areEnded R 92 (p0 :: p1 :: p2 :: p3 :: p4 :: p5 :: p6 :: bb_I x :: t) st T ↔ z_Y C zc_L_areEnded R 94 (p0 :: p1 :: p2 :: p3 :: p4 :: p5 :: p6 :: bb_I x :: t) (bb_I x :: st) T := Iff.trans (z_Y_at (cd := zc_L_areEnded) (pc := 92) (zo_iload 7 94) rfl) (Iff.of_eq rfl)
theorem ze_L_areEnded_94 {x1 : Int32} {x2 : Int32} : z_Y C zc_L_areEnded R 94 ls (bb_I x2 :: bb_I x1 :: bb_R 40 0 :: []) T ↔ z_call C 31 [bb_R 40 0, bb_I x1, bb_I x2] T (fun r T2 => z_Y C zc_L_areEnded R 97 ls (bb_I r :: []) T2) := Iff.trans (z_Y_at (cd := zc_L_areEnded) (pc := 94) (zo_callv 31 3 97) rfl) ((zq_callv_3 (by decide) (by decide)).trans ⟨fun h => h.2, fun h => ⟨Nat.le_of_ble_eq_true rfl, h⟩⟩)
theorem ze_L_areEnded_97 {p0 : bb_V} {k j : Nat} {t : List bb_V} : z_Y C zc_L_areEnded R 97 (p0 :: bb_R k j :: t) st T ↔ z_Y C zc_L_areEnded R 98 (p0 :: bb_R k j :: t) (bb_R k j :: st) T := Iff.trans (z_Y_at (cd := zc_L_areEnded) (pc := 97) (zo_aload 1 98) rfl) (Iff.of_eq rfl)
theorem ze_L_areEnded_98 {p0 p1 p2 p3 p4 p5 : bb_V} {x : Int32} {t : List bb_V} : z_Y C zc_L_areEnded R 98 (p0 :: p1 :: p2 :: p3 :: p4 :: p5 :: bb_I x :: t) st T ↔ z_Y C zc_L_areEnded R 100 (p0 :: p1 :: p2 :: p3 :: p4 :: p5 :: bb_I x :: t) (bb_I x :: st) T := Iff.trans (z_Y_at (cd := zc_L_areEnded) (pc := 98) (zo_iload 6 100) rfl) (Iff.of_eq rfl)
theorem ze_L_areEnded_100 {p0 p1 p2 p3 p4 p5 p6 : bb_V} {x : Int32} {t : List bb_V} : z_Y C zc_L_areEnded R 100 (p0 :: p1 :: p2 :: p3 :: p4 :: p5 :: p6 :: bb_I x :: t) st T ↔ z_Y C zc_L_areEnded R 102 (p0 :: p1 :: p2 :: p3 :: p4 :: p5 :: p6 :: bb_I x :: t) (bb_I x :: st) T := Iff.trans (z_Y_at (cd := zc_L_areEnded) (pc := 100) (zo_iload 7 102) rfl) (Iff.of_eq rfl)
theorem ze_L_areEnded_102 {x1 : Int32} {x2 : Int32} {z0 : Int32} : z_Y C zc_L_areEnded R 102 ls (bb_I x2 :: bb_I x1 :: bb_R 41 0 :: [bb_I z0]) T ↔ z_call C 31 [bb_R 41 0, bb_I x1, bb_I x2] T (fun r T2 => z_Y C zc_L_areEnded R 105 ls (bb_I r :: [bb_I z0]) T2) := Iff.trans (z_Y_at (cd := zc_L_areEnded) (pc := 102) (zo_callv 31 3 105) rfl) ((zq_callv_3 (by decide) (by decide)).trans ⟨fun h => h.2, fun h => ⟨Nat.le_of_ble_eq_true rfl, h⟩⟩)
theorem ze_L_areEnded_105 {a b : Int32} : z_Y C zc_L_areEnded R 105 ls (bb_I b :: bb_I a :: st) T ↔ (if a ≠ b then z_Y C zc_L_areEnded R 112 ls st T else z_Y C zc_L_areEnded R 108 ls st T) := Iff.trans (z_Y_at (cd := zc_L_areEnded) (pc := 105) (zo_icne 112 108) rfl) (Iff.of_eq z_do_ite)
theorem ze_L_areEnded_108  : z_Y C zc_L_areEnded R 108 ls st T ↔ z_Y C zc_L_areEnded R 109 ls (bb_I 1 :: st) T := Iff.trans (z_Y_at (cd := zc_L_areEnded) (pc := 108) (zo_const 1 109) rfl) (Iff.of_eq rfl)
theorem ze_L_areEnded_109  : z_Y C zc_L_areEnded R 109 ls st T ↔ z_Y C zc_L_areEnded R 113 ls st T := Iff.trans (z_Y_at (cd := zc_L_areEnded) (pc := 109) (zo_goto 113) rfl) (Iff.of_eq rfl)
theorem ze_L_areEnded_112  : z_Y C zc_L_areEnded R 112 ls st T ↔ z_Y C zc_L_areEnded R 113 ls (bb_I 0 :: st) T := Iff.trans (z_Y_at (cd := zc_L_areEnded) (pc := 112) (zo_const 0 113) rfl) (Iff.of_eq rfl)
theorem ze_L_areEnded_113 {p0 p1 p2 p3 p4 : bb_V} {x : Int32} {q : bb_V} {t : List bb_V} : z_Y C zc_L_areEnded R 113 (p0 :: p1 :: p2 :: p3 :: p4 :: q :: t) (bb_I x :: st) T ↔ z_Y C zc_L_areEnded R 115 (p0 :: p1 :: p2 :: p3 :: p4 :: bb_I x :: t) st T := Iff.trans (z_Y_at (cd := zc_L_areEnded) (pc := 113) (zo_istore 5 115) rfl) (Iff.of_eq rfl)
theorem ze_L_areEnded_115 {p0 p1 p2 p3 p4 p5 p6 : bb_V} {x : Int32} {t : List bb_V} : z_Y C zc_L_areEnded R 115 (p0 :: p1 :: p2 :: p3 :: p4 :: p5 :: p6 :: bb_I x :: t) st T ↔ z_Y C zc_L_areEnded R 118 (p0 :: p1 :: p2 :: p3 :: p4 :: p5 :: p6 :: bb_I (x + 1) :: t) st T := Iff.trans (z_Y_at (cd := zc_L_areEnded) (pc := 115) (zo_iinc 7 1 118) rfl) (Iff.of_eq rfl)
theorem ze_L_areEnded_118  : z_Y C zc_L_areEnded R 118 ls st T ↔ z_Y C zc_L_areEnded R 77 ls st T := Iff.trans (z_Y_at (cd := zc_L_areEnded) (pc := 118) (zo_goto 77) rfl) (Iff.of_eq rfl)
theorem ze_L_areEnded_121 {p0 p1 p2 p3 p4 p5 : bb_V} {x : Int32} {t : List bb_V} : z_Y C zc_L_areEnded R 121 (p0 :: p1 :: p2 :: p3 :: p4 :: p5 :: bb_I x :: t) st T ↔ z_Y C zc_L_areEnded R 124 (p0 :: p1 :: p2 :: p3 :: p4 :: p5 :: bb_I (x + 1) :: t) st T := Iff.trans (z_Y_at (cd := zc_L_areEnded) (pc := 121) (zo_iinc 6 1 124) rfl) (Iff.of_eq rfl)
theorem ze_L_areEnded_124  : z_Y C zc_L_areEnded R 124 ls st T ↔ z_Y C zc_L_areEnded R 25 ls st T := Iff.trans (z_Y_at (cd := zc_L_areEnded) (pc := 124) (zo_goto 25) rfl) (Iff.of_eq rfl)
theorem ze_L_areEnded_127 {p0 p1 p2 p3 p4 : bb_V} {x : Int32} {t : List bb_V} : z_Y C zc_L_areEnded R 127 (p0 :: p1 :: p2 :: p3 :: p4 :: bb_I x :: t) st T ↔ z_Y C zc_L_areEnded R 129 (p0 :: p1 :: p2 :: p3 :: p4 :: bb_I x :: t) (bb_I x :: st) T := Iff.trans (z_Y_at (cd := zc_L_areEnded) (pc := 127) (zo_iload 5 129) rfl) (Iff.of_eq rfl)
theorem ze_L_areEnded_129 {a : Int32} : z_Y C zc_L_areEnded R 129 ls (bb_I a :: st) T ↔ (if a = 0 then z_Y C zc_L_areEnded R 142 ls st T else z_Y C zc_L_areEnded R 132 ls st T) := Iff.trans (z_Y_at (cd := zc_L_areEnded) (pc := 129) (zo_ifeq 142 132) rfl) (Iff.of_eq z_do_ite)
theorem ze_L_areEnded_132 {p0 p1 p2 p3 : bb_V} {x : Int32} {t : List bb_V} : z_Y C zc_L_areEnded R 132 (p0 :: p1 :: p2 :: p3 :: bb_I x :: t) st T ↔ z_Y C zc_L_areEnded R 134 (p0 :: p1 :: p2 :: p3 :: bb_I x :: t) (bb_I x :: st) T := Iff.trans (z_Y_at (cd := zc_L_areEnded) (pc := 132) (zo_iload 4 134) rfl) (Iff.of_eq rfl)
theorem ze_L_areEnded_134 {p0 p1 p2 : bb_V} {x : Int32} {t : List bb_V} : z_Y C zc_L_areEnded R 134 (p0 :: p1 :: p2 :: bb_I x :: t) st T ↔ z_Y C zc_L_areEnded R 135 (p0 :: p1 :: p2 :: bb_I x :: t) (bb_I x :: st) T := Iff.trans (z_Y_at (cd := zc_L_areEnded) (pc := 134) (zo_iload 3 135) rfl) (Iff.of_eq rfl)
theorem ze_L_areEnded_135 {a b : Int32} : z_Y C zc_L_areEnded R 135 ls (bb_I b :: bb_I a :: st) T ↔ (if a ≠ b then z_Y C zc_L_areEnded R 142 ls st T else z_Y C zc_L_areEnded R 138 ls st T) := Iff.trans (z_Y_at (cd := zc_L_areEnded) (pc := 135) (zo_icne 142 138) rfl) (Iff.of_eq z_do_ite)
theorem ze_L_areEnded_138  : z_Y C zc_L_areEnded R 138 ls st T ↔ z_Y C zc_L_areEnded R 139 ls (bb_I 1 :: st) T := Iff.trans (z_Y_at (cd := zc_L_areEnded) (pc := 138) (zo_const 1 139) rfl) (Iff.of_eq rfl)
theorem ze_L_areEnded_139  : z_Y C zc_L_areEnded R 139 ls st T ↔ z_Y C zc_L_areEnded R 143 ls st T := Iff.trans (z_Y_at (cd := zc_L_areEnded) (pc := 139) (zo_goto 143) rfl) (Iff.of_eq rfl)
theorem ze_L_areEnded_142  : z_Y C zc_L_areEnded R 142 ls st T ↔ z_Y C zc_L_areEnded R 143 ls (bb_I 0 :: st) T := Iff.trans (z_Y_at (cd := zc_L_areEnded) (pc := 142) (zo_const 0 143) rfl) (Iff.of_eq rfl)
theorem ze_L_areEnded_143 {v : Int32} : z_Y C zc_L_areEnded R 143 ls [bb_I v] T ↔ ((v = 0 ∨ v = 1) ∧ R v T) := Iff.trans (z_Y_at (cd := zc_L_areEnded) (pc := 143) (zo_zret) rfl) (zq_zret)
end EL
section EL
variable {C : z_C} {R : z_P} {T : z_T} {ls st : List bb_V}
theorem ze_L_areAlike_0  : z_Y C zc_L_areAlike R 0 ls st T ↔ z_Y C zc_L_areAlike R 1 ls (bb_I 1 :: st) T := Iff.trans (z_Y_at (cd := zc_L_areAlike) (pc := 0) (zo_const 1 1) rfl) (Iff.of_eq rfl)
theorem ze_L_areAlike_1 {p0 p1 p2 : bb_V} {x : Int32} {q : bb_V} {t : List bb_V} : z_Y C zc_L_areAlike R 1 (p0 :: p1 :: p2 :: q :: t) (bb_I x :: st) T ↔ z_Y C zc_L_areAlike R 2 (p0 :: p1 :: p2 :: bb_I x :: t) st T := Iff.trans (z_Y_at (cd := zc_L_areAlike) (pc := 1) (zo_istore 3 2) rfl) (Iff.of_eq rfl)
theorem ze_L_areAlike_2  : z_Y C zc_L_areAlike R 2 ls st T ↔ z_Y C zc_L_areAlike R 3 ls (bb_I 0 :: st) T := Iff.trans (z_Y_at (cd := zc_L_areAlike) (pc := 2) (zo_const 0 3) rfl) (Iff.of_eq rfl)
theorem ze_L_areAlike_3 {p0 p1 p2 p3 : bb_V} {x : Int32} {q : bb_V} {t : List bb_V} : z_Y C zc_L_areAlike R 3 (p0 :: p1 :: p2 :: p3 :: q :: t) (bb_I x :: st) T ↔ z_Y C zc_L_areAlike R 5 (p0 :: p1 :: p2 :: p3 :: bb_I x :: t) st T := Iff.trans (z_Y_at (cd := zc_L_areAlike) (pc := 3) (zo_istore 4 5) rfl) (Iff.of_eq rfl)
theorem zh_L_areAlike_5 {p0 p1 p2 p3 : bb_V} {x : Int32} {t : List bb_V} : z_Y C zc_L_areAlike R 5 (p0 :: p1 :: p2 :: p3 :: bb_I x :: t) st T ↔ z_Y C zc_L_areAlike R 7 (p0 :: p1 :: p2 :: p3 :: bb_I x :: t) (bb_I x :: st) T := Iff.trans (z_Y_at (cd := zc_L_areAlike) (pc := 5) (zo_iload 4 7) rfl) (Iff.of_eq rfl)
theorem ze_L_areAlike_7  : z_Y C zc_L_areAlike R 7 ls st T ↔ z_Y C zc_L_areAlike R 9 ls (bb_I 19 :: st) T := Iff.trans (z_Y_at (cd := zc_L_areAlike) (pc := 7) (zo_const 19 9) rfl) (Iff.of_eq rfl)
theorem ze_L_areAlike_9 {a b : Int32} : z_Y C zc_L_areAlike R 9 ls (bb_I b :: bb_I a :: st) T ↔ (if b ≤ a then z_Y C zc_L_areAlike R 43 ls st T else z_Y C zc_L_areAlike R 12 ls st T) := Iff.trans (z_Y_at (cd := zc_L_areAlike) (pc := 9) (zo_icge 43 12) rfl) (Iff.of_eq z_do_ite)
theorem ze_L_areAlike_12 {p0 p1 p2 : bb_V} {x : Int32} {t : List bb_V} : z_Y C zc_L_areAlike R 12 (p0 :: p1 :: p2 :: bb_I x :: t) st T ↔ z_Y C zc_L_areAlike R 13 (p0 :: p1 :: p2 :: bb_I x :: t) (bb_I x :: st) T := Iff.trans (z_Y_at (cd := zc_L_areAlike) (pc := 12) (zo_iload 3 13) rfl) (Iff.of_eq rfl)
theorem ze_L_areAlike_13 {a : Int32} : z_Y C zc_L_areAlike R 13 ls (bb_I a :: st) T ↔ (if a = 0 then z_Y C zc_L_areAlike R 35 ls st T else z_Y C zc_L_areAlike R 16 ls st T) := Iff.trans (z_Y_at (cd := zc_L_areAlike) (pc := 13) (zo_ifeq 35 16) rfl) (Iff.of_eq z_do_ite)
theorem ze_L_areAlike_16 {k j : Nat} {t : List bb_V} : z_Y C zc_L_areAlike R 16 (bb_R k j :: t) st T ↔ z_Y C zc_L_areAlike R 17 (bb_R k j :: t) (bb_R k j :: st) T := Iff.trans (z_Y_at (cd := zc_L_areAlike) (pc := 16) (zo_aload 0 17) rfl) (Iff.of_eq rfl)
theorem ze_L_areAlike_17 {p0 p1 p2 p3 : bb_V} {x : Int32} {t : List bb_V} : z_Y C zc_L_areAlike R 17 (p0 :: p1 :: p2 :: p3 :: bb_I x :: t) st T ↔ z_Y C zc_L_areAlike R 19 (p0 :: p1 :: p2 :: p3 :: bb_I x :: t) (bb_I x :: st) T := Iff.trans (z_Y_at (cd := zc_L_areAlike) (pc := 17) (zo_iload 4 19) rfl) (Iff.of_eq rfl)
theorem ze_L_areAlike_19 {x1 : Int32} : z_Y C zc_L_areAlike R 19 ls (bb_I x1 :: bb_R 40 0 :: []) T ↔ z_call C 34 [bb_R 40 0, bb_I x1] T (fun r T2 => z_Y C zc_L_areAlike R 22 ls (bb_I r :: []) T2) := Iff.trans (z_Y_at (cd := zc_L_areAlike) (pc := 19) (zo_callv 34 2 22) rfl) ((zq_callv_2 (by decide) (by decide)).trans ⟨fun h => h.2, fun h => ⟨Nat.le_of_ble_eq_true rfl, h⟩⟩)
theorem ze_L_areAlike_22 {p0 : bb_V} {k j : Nat} {t : List bb_V} : z_Y C zc_L_areAlike R 22 (p0 :: bb_R k j :: t) st T ↔ z_Y C zc_L_areAlike R 23 (p0 :: bb_R k j :: t) (bb_R k j :: st) T := Iff.trans (z_Y_at (cd := zc_L_areAlike) (pc := 22) (zo_aload 1 23) rfl) (Iff.of_eq rfl)
theorem ze_L_areAlike_23 {p0 p1 p2 p3 : bb_V} {x : Int32} {t : List bb_V} : z_Y C zc_L_areAlike R 23 (p0 :: p1 :: p2 :: p3 :: bb_I x :: t) st T ↔ z_Y C zc_L_areAlike R 25 (p0 :: p1 :: p2 :: p3 :: bb_I x :: t) (bb_I x :: st) T := Iff.trans (z_Y_at (cd := zc_L_areAlike) (pc := 23) (zo_iload 4 25) rfl) (Iff.of_eq rfl)
theorem ze_L_areAlike_25 {x1 : Int32} {z0 : Int32} : z_Y C zc_L_areAlike R 25 ls (bb_I x1 :: bb_R 41 0 :: [bb_I z0]) T ↔ z_call C 34 [bb_R 41 0, bb_I x1] T (fun r T2 => z_Y C zc_L_areAlike R 28 ls (bb_I r :: [bb_I z0]) T2) := Iff.trans (z_Y_at (cd := zc_L_areAlike) (pc := 25) (zo_callv 34 2 28) rfl) ((zq_callv_2 (by decide) (by decide)).trans ⟨fun h => h.2, fun h => ⟨Nat.le_of_ble_eq_true rfl, h⟩⟩)
theorem ze_L_areAlike_28 {a b : Int32} : z_Y C zc_L_areAlike R 28 ls (bb_I b :: bb_I a :: st) T ↔ (if a ≠ b then z_Y C zc_L_areAlike R 35 ls st T else z_Y C zc_L_areAlike R 31 ls st T) := Iff.trans (z_Y_at (cd := zc_L_areAlike) (pc := 28) (zo_icne 35 31) rfl) (Iff.of_eq z_do_ite)
theorem ze_L_areAlike_31  : z_Y C zc_L_areAlike R 31 ls st T ↔ z_Y C zc_L_areAlike R 32 ls (bb_I 1 :: st) T := Iff.trans (z_Y_at (cd := zc_L_areAlike) (pc := 31) (zo_const 1 32) rfl) (Iff.of_eq rfl)
theorem ze_L_areAlike_32  : z_Y C zc_L_areAlike R 32 ls st T ↔ z_Y C zc_L_areAlike R 36 ls st T := Iff.trans (z_Y_at (cd := zc_L_areAlike) (pc := 32) (zo_goto 36) rfl) (Iff.of_eq rfl)
theorem ze_L_areAlike_35  : z_Y C zc_L_areAlike R 35 ls st T ↔ z_Y C zc_L_areAlike R 36 ls (bb_I 0 :: st) T := Iff.trans (z_Y_at (cd := zc_L_areAlike) (pc := 35) (zo_const 0 36) rfl) (Iff.of_eq rfl)
theorem ze_L_areAlike_36 {p0 p1 p2 : bb_V} {x : Int32} {q : bb_V} {t : List bb_V} : z_Y C zc_L_areAlike R 36 (p0 :: p1 :: p2 :: q :: t) (bb_I x :: st) T ↔ z_Y C zc_L_areAlike R 37 (p0 :: p1 :: p2 :: bb_I x :: t) st T := Iff.trans (z_Y_at (cd := zc_L_areAlike) (pc := 36) (zo_istore 3 37) rfl) (Iff.of_eq rfl)
theorem ze_L_areAlike_37 {p0 p1 p2 p3 : bb_V} {x : Int32} {t : List bb_V} : z_Y C zc_L_areAlike R 37 (p0 :: p1 :: p2 :: p3 :: bb_I x :: t) st T ↔ z_Y C zc_L_areAlike R 40 (p0 :: p1 :: p2 :: p3 :: bb_I (x + 1) :: t) st T := Iff.trans (z_Y_at (cd := zc_L_areAlike) (pc := 37) (zo_iinc 4 1 40) rfl) (Iff.of_eq rfl)
theorem ze_L_areAlike_40  : z_Y C zc_L_areAlike R 40 ls st T ↔ z_Y C zc_L_areAlike R 5 ls st T := Iff.trans (z_Y_at (cd := zc_L_areAlike) (pc := 40) (zo_goto 5) rfl) (Iff.of_eq rfl)
theorem ze_L_areAlike_43  : z_Y C zc_L_areAlike R 43 ls st T ↔ z_Y C zc_L_areAlike R 44 ls (bb_I 0 :: st) T := Iff.trans (z_Y_at (cd := zc_L_areAlike) (pc := 43) (zo_const 0 44) rfl) (Iff.of_eq rfl)
theorem ze_L_areAlike_44 {p0 p1 p2 p3 : bb_V} {x : Int32} {q : bb_V} {t : List bb_V} : z_Y C zc_L_areAlike R 44 (p0 :: p1 :: p2 :: p3 :: q :: t) (bb_I x :: st) T ↔ z_Y C zc_L_areAlike R 46 (p0 :: p1 :: p2 :: p3 :: bb_I x :: t) st T := Iff.trans (z_Y_at (cd := zc_L_areAlike) (pc := 44) (zo_istore 4 46) rfl) (Iff.of_eq rfl)
theorem zh_L_areAlike_46 {p0 p1 p2 p3 : bb_V} {x : Int32} {t : List bb_V} : z_Y C zc_L_areAlike R 46 (p0 :: p1 :: p2 :: p3 :: bb_I x :: t) st T ↔ z_Y C zc_L_areAlike R 48 (p0 :: p1 :: p2 :: p3 :: bb_I x :: t) (bb_I x :: st) T := Iff.trans (z_Y_at (cd := zc_L_areAlike) (pc := 46) (zo_iload 4 48) rfl) (Iff.of_eq rfl)
theorem ze_L_areAlike_48  : z_Y C zc_L_areAlike R 48 ls st T ↔ z_Y C zc_L_areAlike R 49 ls (bb_I 4 :: st) T := Iff.trans (z_Y_at (cd := zc_L_areAlike) (pc := 48) (zo_const 4 49) rfl) (Iff.of_eq rfl)
theorem ze_L_areAlike_49 {a b : Int32} : z_Y C zc_L_areAlike R 49 ls (bb_I b :: bb_I a :: st) T ↔ (if b ≤ a then z_Y C zc_L_areAlike R 270 ls st T else z_Y C zc_L_areAlike R 52 ls st T) := Iff.trans (z_Y_at (cd := zc_L_areAlike) (pc := 49) (zo_icge 270 52) rfl) (Iff.of_eq z_do_ite)
theorem ze_L_areAlike_52 {p0 p1 p2 : bb_V} {x : Int32} {t : List bb_V} : z_Y C zc_L_areAlike R 52 (p0 :: p1 :: p2 :: bb_I x :: t) st T ↔ z_Y C zc_L_areAlike R 53 (p0 :: p1 :: p2 :: bb_I x :: t) (bb_I x :: st) T := Iff.trans (z_Y_at (cd := zc_L_areAlike) (pc := 52) (zo_iload 3 53) rfl) (Iff.of_eq rfl)
theorem ze_L_areAlike_53 {a : Int32} : z_Y C zc_L_areAlike R 53 ls (bb_I a :: st) T ↔ (if a = 0 then z_Y C zc_L_areAlike R 270 ls st T else z_Y C zc_L_areAlike R 56 ls st T) := Iff.trans (z_Y_at (cd := zc_L_areAlike) (pc := 53) (zo_ifeq 270 56) rfl) (Iff.of_eq z_do_ite)
theorem ze_L_areAlike_56  : z_Y C zc_L_areAlike R 56 ls st T ↔ z_Y C zc_L_areAlike R 57 ls (bb_I 0 :: st) T := Iff.trans (z_Y_at (cd := zc_L_areAlike) (pc := 56) (zo_const 0 57) rfl) (Iff.of_eq rfl)
theorem ze_L_areAlike_57 {p0 p1 p2 p3 p4 : bb_V} {x : Int32} {q : bb_V} {t : List bb_V} : z_Y C zc_L_areAlike R 57 (p0 :: p1 :: p2 :: p3 :: p4 :: q :: t) (bb_I x :: st) T ↔ z_Y C zc_L_areAlike R 59 (p0 :: p1 :: p2 :: p3 :: p4 :: bb_I x :: t) st T := Iff.trans (z_Y_at (cd := zc_L_areAlike) (pc := 57) (zo_istore 5 59) rfl) (Iff.of_eq rfl)
theorem zh_L_areAlike_59 {p0 p1 p2 p3 p4 : bb_V} {x : Int32} {t : List bb_V} : z_Y C zc_L_areAlike R 59 (p0 :: p1 :: p2 :: p3 :: p4 :: bb_I x :: t) st T ↔ z_Y C zc_L_areAlike R 61 (p0 :: p1 :: p2 :: p3 :: p4 :: bb_I x :: t) (bb_I x :: st) T := Iff.trans (z_Y_at (cd := zc_L_areAlike) (pc := 59) (zo_iload 5 61) rfl) (Iff.of_eq rfl)
theorem ze_L_areAlike_61  : z_Y C zc_L_areAlike R 61 ls st T ↔ z_Y C zc_L_areAlike R 63 ls (bb_I 7 :: st) T := Iff.trans (z_Y_at (cd := zc_L_areAlike) (pc := 61) (zo_const 7 63) rfl) (Iff.of_eq rfl)
theorem ze_L_areAlike_63 {a b : Int32} : z_Y C zc_L_areAlike R 63 ls (bb_I b :: bb_I a :: st) T ↔ (if b ≤ a then z_Y C zc_L_areAlike R 103 ls st T else z_Y C zc_L_areAlike R 66 ls st T) := Iff.trans (z_Y_at (cd := zc_L_areAlike) (pc := 63) (zo_icge 103 66) rfl) (Iff.of_eq z_do_ite)
theorem ze_L_areAlike_66 {p0 p1 p2 : bb_V} {x : Int32} {t : List bb_V} : z_Y C zc_L_areAlike R 66 (p0 :: p1 :: p2 :: bb_I x :: t) st T ↔ z_Y C zc_L_areAlike R 67 (p0 :: p1 :: p2 :: bb_I x :: t) (bb_I x :: st) T := Iff.trans (z_Y_at (cd := zc_L_areAlike) (pc := 66) (zo_iload 3 67) rfl) (Iff.of_eq rfl)
theorem ze_L_areAlike_67 {a : Int32} : z_Y C zc_L_areAlike R 67 ls (bb_I a :: st) T ↔ (if a = 0 then z_Y C zc_L_areAlike R 95 ls st T else z_Y C zc_L_areAlike R 70 ls st T) := Iff.trans (z_Y_at (cd := zc_L_areAlike) (pc := 67) (zo_ifeq 95 70) rfl) (Iff.of_eq z_do_ite)
theorem ze_L_areAlike_70 {k j : Nat} {t : List bb_V} : z_Y C zc_L_areAlike R 70 (bb_R k j :: t) st T ↔ z_Y C zc_L_areAlike R 71 (bb_R k j :: t) (bb_R k j :: st) T := Iff.trans (z_Y_at (cd := zc_L_areAlike) (pc := 70) (zo_aload 0 71) rfl) (Iff.of_eq rfl)
theorem ze_L_areAlike_71 {p0 p1 p2 p3 : bb_V} {x : Int32} {t : List bb_V} : z_Y C zc_L_areAlike R 71 (p0 :: p1 :: p2 :: p3 :: bb_I x :: t) st T ↔ z_Y C zc_L_areAlike R 73 (p0 :: p1 :: p2 :: p3 :: bb_I x :: t) (bb_I x :: st) T := Iff.trans (z_Y_at (cd := zc_L_areAlike) (pc := 71) (zo_iload 4 73) rfl) (Iff.of_eq rfl)
theorem ze_L_areAlike_73 {p0 p1 p2 p3 p4 : bb_V} {x : Int32} {t : List bb_V} : z_Y C zc_L_areAlike R 73 (p0 :: p1 :: p2 :: p3 :: p4 :: bb_I x :: t) st T ↔ z_Y C zc_L_areAlike R 75 (p0 :: p1 :: p2 :: p3 :: p4 :: bb_I x :: t) (bb_I x :: st) T := Iff.trans (z_Y_at (cd := zc_L_areAlike) (pc := 73) (zo_iload 5 75) rfl) (Iff.of_eq rfl)
theorem ze_L_areAlike_75 {x1 : Int32} {x2 : Int32} : z_Y C zc_L_areAlike R 75 ls (bb_I x2 :: bb_I x1 :: bb_R 40 0 :: []) T ↔ z_call C 29 [bb_R 40 0, bb_I x1, bb_I x2] T (fun r T2 => z_Y C zc_L_areAlike R 78 ls (bb_I r :: []) T2) := Iff.trans (z_Y_at (cd := zc_L_areAlike) (pc := 75) (zo_callv 29 3 78) rfl) ((zq_callv_3 (by decide) (by decide)).trans ⟨fun h => h.2, fun h => ⟨Nat.le_of_ble_eq_true rfl, h⟩⟩)
theorem ze_L_areAlike_78 {p0 : bb_V} {k j : Nat} {t : List bb_V} : z_Y C zc_L_areAlike R 78 (p0 :: bb_R k j :: t) st T ↔ z_Y C zc_L_areAlike R 79 (p0 :: bb_R k j :: t) (bb_R k j :: st) T := Iff.trans (z_Y_at (cd := zc_L_areAlike) (pc := 78) (zo_aload 1 79) rfl) (Iff.of_eq rfl)
theorem ze_L_areAlike_79  : z_Y C zc_L_areAlike R 79 ls st T ↔ z_Y C zc_L_areAlike R 80 ls (bb_I 3 :: st) T := Iff.trans (z_Y_at (cd := zc_L_areAlike) (pc := 79) (zo_const 3 80) rfl) (Iff.of_eq rfl)
theorem ze_L_areAlike_80 {p0 p1 p2 p3 : bb_V} {x : Int32} {t : List bb_V} : z_Y C zc_L_areAlike R 80 (p0 :: p1 :: p2 :: p3 :: bb_I x :: t) st T ↔ z_Y C zc_L_areAlike R 82 (p0 :: p1 :: p2 :: p3 :: bb_I x :: t) (bb_I x :: st) T := Iff.trans (z_Y_at (cd := zc_L_areAlike) (pc := 80) (zo_iload 4 82) rfl) (Iff.of_eq rfl)
theorem ze_L_areAlike_82 {a b : Int32} : z_Y C zc_L_areAlike R 82 ls (bb_I b :: bb_I a :: st) T ↔ z_Y C zc_L_areAlike R 83 ls (bb_I (a - b) :: st) T := Iff.trans (z_Y_at (cd := zc_L_areAlike) (pc := 82) (zo_isub 83) rfl) (Iff.of_eq rfl)
theorem ze_L_areAlike_83 {p0 p1 p2 p3 p4 : bb_V} {x : Int32} {t : List bb_V} : z_Y C zc_L_areAlike R 83 (p0 :: p1 :: p2 :: p3 :: p4 :: bb_I x :: t) st T ↔ z_Y C zc_L_areAlike R 85 (p0 :: p1 :: p2 :: p3 :: p4 :: bb_I x :: t) (bb_I x :: st) T := Iff.trans (z_Y_at (cd := zc_L_areAlike) (pc := 83) (zo_iload 5 85) rfl) (Iff.of_eq rfl)
theorem ze_L_areAlike_85 {x1 : Int32} {x2 : Int32} {z0 : Int32} : z_Y C zc_L_areAlike R 85 ls (bb_I x2 :: bb_I x1 :: bb_R 41 0 :: [bb_I z0]) T ↔ z_call C 29 [bb_R 41 0, bb_I x1, bb_I x2] T (fun r T2 => z_Y C zc_L_areAlike R 88 ls (bb_I r :: [bb_I z0]) T2) := Iff.trans (z_Y_at (cd := zc_L_areAlike) (pc := 85) (zo_callv 29 3 88) rfl) ((zq_callv_3 (by decide) (by decide)).trans ⟨fun h => h.2, fun h => ⟨Nat.le_of_ble_eq_true rfl, h⟩⟩)
theorem ze_L_areAlike_88 {a b : Int32} : z_Y C zc_L_areAlike R 88 ls (bb_I b :: bb_I a :: st) T ↔ (if a ≠ b then z_Y C zc_L_areAlike R 95 ls st T else z_Y C zc_L_areAlike R 91 ls st T) := Iff.trans (z_Y_at (cd := zc_L_areAlike) (pc := 88) (zo_icne 95 91) rfl) (Iff.of_eq z_do_ite)
theorem ze_L_areAlike_91  : z_Y C zc_L_areAlike R 91 ls st T ↔ z_Y C zc_L_areAlike R 92 ls (bb_I 1 :: st) T := Iff.trans (z_Y_at (cd := zc_L_areAlike) (pc := 91) (zo_const 1 92) rfl) (Iff.of_eq rfl)
theorem ze_L_areAlike_92  : z_Y C zc_L_areAlike R 92 ls st T ↔ z_Y C zc_L_areAlike R 96 ls st T := Iff.trans (z_Y_at (cd := zc_L_areAlike) (pc := 92) (zo_goto 96) rfl) (Iff.of_eq rfl)
theorem ze_L_areAlike_95  : z_Y C zc_L_areAlike R 95 ls st T ↔ z_Y C zc_L_areAlike R 96 ls (bb_I 0 :: st) T := Iff.trans (z_Y_at (cd := zc_L_areAlike) (pc := 95) (zo_const 0 96) rfl) (Iff.of_eq rfl)
theorem ze_L_areAlike_96 {p0 p1 p2 : bb_V} {x : Int32} {q : bb_V} {t : List bb_V} : z_Y C zc_L_areAlike R 96 (p0 :: p1 :: p2 :: q :: t) (bb_I x :: st) T ↔ z_Y C zc_L_areAlike R 97 (p0 :: p1 :: p2 :: bb_I x :: t) st T := Iff.trans (z_Y_at (cd := zc_L_areAlike) (pc := 96) (zo_istore 3 97) rfl) (Iff.of_eq rfl)
theorem ze_L_areAlike_97 {p0 p1 p2 p3 p4 : bb_V} {x : Int32} {t : List bb_V} : z_Y C zc_L_areAlike R 97 (p0 :: p1 :: p2 :: p3 :: p4 :: bb_I x :: t) st T ↔ z_Y C zc_L_areAlike R 100 (p0 :: p1 :: p2 :: p3 :: p4 :: bb_I (x + 1) :: t) st T := Iff.trans (z_Y_at (cd := zc_L_areAlike) (pc := 97) (zo_iinc 5 1 100) rfl) (Iff.of_eq rfl)
theorem ze_L_areAlike_100  : z_Y C zc_L_areAlike R 100 ls st T ↔ z_Y C zc_L_areAlike R 59 ls st T := Iff.trans (z_Y_at (cd := zc_L_areAlike) (pc := 100) (zo_goto 59) rfl) (Iff.of_eq rfl)
theorem ze_L_areAlike_103  : z_Y C zc_L_areAlike R 103 ls st T ↔ z_Y C zc_L_areAlike R 104 ls (bb_I 0 :: st) T := Iff.trans (z_Y_at (cd := zc_L_areAlike) (pc := 103) (zo_const 0 104) rfl) (Iff.of_eq rfl)
theorem ze_L_areAlike_104 {p0 p1 p2 p3 p4 : bb_V} {x : Int32} {q : bb_V} {t : List bb_V} : z_Y C zc_L_areAlike R 104 (p0 :: p1 :: p2 :: p3 :: p4 :: q :: t) (bb_I x :: st) T ↔ z_Y C zc_L_areAlike R 106 (p0 :: p1 :: p2 :: p3 :: p4 :: bb_I x :: t) st T := Iff.trans (z_Y_at (cd := zc_L_areAlike) (pc := 104) (zo_istore 5 106) rfl) (Iff.of_eq rfl)
theorem zh_L_areAlike_106 {p0 p1 p2 p3 p4 : bb_V} {x : Int32} {t : List bb_V} : z_Y C zc_L_areAlike R 106 (p0 :: p1 :: p2 :: p3 :: p4 :: bb_I x :: t) st T ↔ z_Y C zc_L_areAlike R 108 (p0 :: p1 :: p2 :: p3 :: p4 :: bb_I x :: t) (bb_I x :: st) T := Iff.trans (z_Y_at (cd := zc_L_areAlike) (pc := 106) (zo_iload 5 108) rfl) (Iff.of_eq rfl)
theorem ze_L_areAlike_108  : z_Y C zc_L_areAlike R 108 ls st T ↔ z_Y C zc_L_areAlike R 110 ls (bb_I 20 :: st) T := Iff.trans (z_Y_at (cd := zc_L_areAlike) (pc := 108) (zo_const 20 110) rfl) (Iff.of_eq rfl)
theorem ze_L_areAlike_110 {a b : Int32} : z_Y C zc_L_areAlike R 110 ls (bb_I b :: bb_I a :: st) T ↔ (if b ≤ a then z_Y C zc_L_areAlike R 198 ls st T else z_Y C zc_L_areAlike R 113 ls st T) := Iff.trans (z_Y_at (cd := zc_L_areAlike) (pc := 110) (zo_icge 198 113) rfl) (Iff.of_eq z_do_ite)
theorem ze_L_areAlike_113 {p0 p1 p2 : bb_V} {x : Int32} {t : List bb_V} : z_Y C zc_L_areAlike R 113 (p0 :: p1 :: p2 :: bb_I x :: t) st T ↔ z_Y C zc_L_areAlike R 114 (p0 :: p1 :: p2 :: bb_I x :: t) (bb_I x :: st) T := Iff.trans (z_Y_at (cd := zc_L_areAlike) (pc := 113) (zo_iload 3 114) rfl) (Iff.of_eq rfl)
theorem ze_L_areAlike_114 {a : Int32} : z_Y C zc_L_areAlike R 114 ls (bb_I a :: st) T ↔ (if a = 0 then z_Y C zc_L_areAlike R 190 ls st T else z_Y C zc_L_areAlike R 117 ls st T) := Iff.trans (z_Y_at (cd := zc_L_areAlike) (pc := 114) (zo_ifeq 190 117) rfl) (Iff.of_eq z_do_ite)
theorem ze_L_areAlike_117 {k j : Nat} {t : List bb_V} : z_Y C zc_L_areAlike R 117 (bb_R k j :: t) st T ↔ z_Y C zc_L_areAlike R 118 (bb_R k j :: t) (bb_R k j :: st) T := Iff.trans (z_Y_at (cd := zc_L_areAlike) (pc := 117) (zo_aload 0 118) rfl) (Iff.of_eq rfl)
theorem ze_L_areAlike_118 {p0 p1 p2 p3 : bb_V} {x : Int32} {t : List bb_V} : z_Y C zc_L_areAlike R 118 (p0 :: p1 :: p2 :: p3 :: bb_I x :: t) st T ↔ z_Y C zc_L_areAlike R 120 (p0 :: p1 :: p2 :: p3 :: bb_I x :: t) (bb_I x :: st) T := Iff.trans (z_Y_at (cd := zc_L_areAlike) (pc := 118) (zo_iload 4 120) rfl) (Iff.of_eq rfl)
theorem ze_L_areAlike_120 {p0 p1 p2 p3 p4 : bb_V} {x : Int32} {t : List bb_V} : z_Y C zc_L_areAlike R 120 (p0 :: p1 :: p2 :: p3 :: p4 :: bb_I x :: t) st T ↔ z_Y C zc_L_areAlike R 122 (p0 :: p1 :: p2 :: p3 :: p4 :: bb_I x :: t) (bb_I x :: st) T := Iff.trans (z_Y_at (cd := zc_L_areAlike) (pc := 120) (zo_iload 5 122) rfl) (Iff.of_eq rfl)
theorem ze_L_areAlike_122  : z_Y C zc_L_areAlike R 122 ls st T ↔ z_Y C zc_L_areAlike R 123 ls (bb_I 0 :: st) T := Iff.trans (z_Y_at (cd := zc_L_areAlike) (pc := 122) (zo_const 0 123) rfl) (Iff.of_eq rfl)
theorem ze_L_areAlike_123 {x1 : Int32} {x2 : Int32} {x3 : Int32} : z_Y C zc_L_areAlike R 123 ls (bb_I x3 :: bb_I x2 :: bb_I x1 :: bb_R 40 0 :: []) T ↔ z_call C 28 [bb_R 40 0, bb_I x1, bb_I x2, bb_I x3] T (fun r T2 => z_Y C zc_L_areAlike R 126 ls (bb_I r :: []) T2) := Iff.trans (z_Y_at (cd := zc_L_areAlike) (pc := 123) (zo_callv 28 4 126) rfl) ((zq_callv_4 (by decide) (by decide)).trans ⟨fun h => h.2, fun h => ⟨Nat.le_of_ble_eq_true rfl, h⟩⟩)
theorem ze_L_areAlike_126 {p0 : bb_V} {k j : Nat} {t : List bb_V} : z_Y C zc_L_areAlike R 126 (p0 :: bb_R k j :: t) st T ↔ z_Y C zc_L_areAlike R 127 (p0 :: bb_R k j :: t) (bb_R k j :: st) T := Iff.trans (z_Y_at (cd := zc_L_areAlike) (pc := 126) (zo_aload 1 127) rfl) (Iff.of_eq rfl)
theorem ze_L_areAlike_127  : z_Y C zc_L_areAlike R 127 ls st T ↔ z_Y C zc_L_areAlike R 128 ls (bb_I 3 :: st) T := Iff.trans (z_Y_at (cd := zc_L_areAlike) (pc := 127) (zo_const 3 128) rfl) (Iff.of_eq rfl)
theorem ze_L_areAlike_128 {p0 p1 p2 p3 : bb_V} {x : Int32} {t : List bb_V} : z_Y C zc_L_areAlike R 128 (p0 :: p1 :: p2 :: p3 :: bb_I x :: t) st T ↔ z_Y C zc_L_areAlike R 130 (p0 :: p1 :: p2 :: p3 :: bb_I x :: t) (bb_I x :: st) T := Iff.trans (z_Y_at (cd := zc_L_areAlike) (pc := 128) (zo_iload 4 130) rfl) (Iff.of_eq rfl)
theorem ze_L_areAlike_130 {a b : Int32} : z_Y C zc_L_areAlike R 130 ls (bb_I b :: bb_I a :: st) T ↔ z_Y C zc_L_areAlike R 131 ls (bb_I (a - b) :: st) T := Iff.trans (z_Y_at (cd := zc_L_areAlike) (pc := 130) (zo_isub 131) rfl) (Iff.of_eq rfl)
theorem ze_L_areAlike_131 {p0 p1 p2 p3 p4 : bb_V} {x : Int32} {t : List bb_V} : z_Y C zc_L_areAlike R 131 (p0 :: p1 :: p2 :: p3 :: p4 :: bb_I x :: t) st T ↔ z_Y C zc_L_areAlike R 133 (p0 :: p1 :: p2 :: p3 :: p4 :: bb_I x :: t) (bb_I x :: st) T := Iff.trans (z_Y_at (cd := zc_L_areAlike) (pc := 131) (zo_iload 5 133) rfl) (Iff.of_eq rfl)
theorem ze_L_areAlike_133  : z_Y C zc_L_areAlike R 133 ls st T ↔ z_Y C zc_L_areAlike R 134 ls (bb_I 0 :: st) T := Iff.trans (z_Y_at (cd := zc_L_areAlike) (pc := 133) (zo_const 0 134) rfl) (Iff.of_eq rfl)
theorem ze_L_areAlike_134 {x1 : Int32} {x2 : Int32} {x3 : Int32} {z0 : Int32} : z_Y C zc_L_areAlike R 134 ls (bb_I x3 :: bb_I x2 :: bb_I x1 :: bb_R 41 0 :: [bb_I z0]) T ↔ z_call C 28 [bb_R 41 0, bb_I x1, bb_I x2, bb_I x3] T (fun r T2 => z_Y C zc_L_areAlike R 137 ls (bb_I r :: [bb_I z0]) T2) := Iff.trans (z_Y_at (cd := zc_L_areAlike) (pc := 134) (zo_callv 28 4 137) rfl) ((zq_callv_4 (by decide) (by decide)).trans ⟨fun h => h.2, fun h => ⟨Nat.le_of_ble_eq_true rfl, h⟩⟩)
theorem ze_L_areAlike_137 {a b : Int32} : z_Y C zc_L_areAlike R 137 ls (bb_I b :: bb_I a :: st) T ↔ (if a ≠ b then z_Y C zc_L_areAlike R 190 ls st T else z_Y C zc_L_areAlike R 140 ls st T) := Iff.trans (z_Y_at (cd := zc_L_areAlike) (pc := 137) (zo_icne 190 140) rfl) (Iff.of_eq z_do_ite)
theorem ze_L_areAlike_140 {k j : Nat} {t : List bb_V} : z_Y C zc_L_areAlike R 140 (bb_R k j :: t) st T ↔ z_Y C zc_L_areAlike R 141 (bb_R k j :: t) (bb_R k j :: st) T := Iff.trans (z_Y_at (cd := zc_L_areAlike) (pc := 140) (zo_aload 0 141) rfl) (Iff.of_eq rfl)
theorem ze_L_areAlike_141 {p0 p1 p2 p3 : bb_V} {x : Int32} {t : List bb_V} : z_Y C zc_L_areAlike R 141 (p0 :: p1 :: p2 :: p3 :: bb_I x :: t) st T ↔ z_Y C zc_L_areAlike R 143 (p0 :: p1 :: p2 :: p3 :: bb_I x :: t) (bb_I x :: st) T := Iff.trans (z_Y_at (cd := zc_L_areAlike) (pc := 141) (zo_iload 4 143) rfl) (Iff.of_eq rfl)
theorem ze_L_areAlike_143 {p0 p1 p2 p3 p4 : bb_V} {x : Int32} {t : List bb_V} : z_Y C zc_L_areAlike R 143 (p0 :: p1 :: p2 :: p3 :: p4 :: bb_I x :: t) st T ↔ z_Y C zc_L_areAlike R 145 (p0 :: p1 :: p2 :: p3 :: p4 :: bb_I x :: t) (bb_I x :: st) T := Iff.trans (z_Y_at (cd := zc_L_areAlike) (pc := 143) (zo_iload 5 145) rfl) (Iff.of_eq rfl)
theorem ze_L_areAlike_145  : z_Y C zc_L_areAlike R 145 ls st T ↔ z_Y C zc_L_areAlike R 146 ls (bb_I 2 :: st) T := Iff.trans (z_Y_at (cd := zc_L_areAlike) (pc := 145) (zo_const 2 146) rfl) (Iff.of_eq rfl)
theorem ze_L_areAlike_146 {x1 : Int32} {x2 : Int32} {x3 : Int32} : z_Y C zc_L_areAlike R 146 ls (bb_I x3 :: bb_I x2 :: bb_I x1 :: bb_R 40 0 :: []) T ↔ z_call C 28 [bb_R 40 0, bb_I x1, bb_I x2, bb_I x3] T (fun r T2 => z_Y C zc_L_areAlike R 149 ls (bb_I r :: []) T2) := Iff.trans (z_Y_at (cd := zc_L_areAlike) (pc := 146) (zo_callv 28 4 149) rfl) ((zq_callv_4 (by decide) (by decide)).trans ⟨fun h => h.2, fun h => ⟨Nat.le_of_ble_eq_true rfl, h⟩⟩)
theorem ze_L_areAlike_149 {p0 : bb_V} {k j : Nat} {t : List bb_V} : z_Y C zc_L_areAlike R 149 (p0 :: bb_R k j :: t) st T ↔ z_Y C zc_L_areAlike R 150 (p0 :: bb_R k j :: t) (bb_R k j :: st) T := Iff.trans (z_Y_at (cd := zc_L_areAlike) (pc := 149) (zo_aload 1 150) rfl) (Iff.of_eq rfl)
theorem ze_L_areAlike_150  : z_Y C zc_L_areAlike R 150 ls st T ↔ z_Y C zc_L_areAlike R 151 ls (bb_I 3 :: st) T := Iff.trans (z_Y_at (cd := zc_L_areAlike) (pc := 150) (zo_const 3 151) rfl) (Iff.of_eq rfl)
theorem ze_L_areAlike_151 {p0 p1 p2 p3 : bb_V} {x : Int32} {t : List bb_V} : z_Y C zc_L_areAlike R 151 (p0 :: p1 :: p2 :: p3 :: bb_I x :: t) st T ↔ z_Y C zc_L_areAlike R 153 (p0 :: p1 :: p2 :: p3 :: bb_I x :: t) (bb_I x :: st) T := Iff.trans (z_Y_at (cd := zc_L_areAlike) (pc := 151) (zo_iload 4 153) rfl) (Iff.of_eq rfl)
theorem ze_L_areAlike_153 {a b : Int32} : z_Y C zc_L_areAlike R 153 ls (bb_I b :: bb_I a :: st) T ↔ z_Y C zc_L_areAlike R 154 ls (bb_I (a - b) :: st) T := Iff.trans (z_Y_at (cd := zc_L_areAlike) (pc := 153) (zo_isub 154) rfl) (Iff.of_eq rfl)
theorem ze_L_areAlike_154 {p0 p1 p2 p3 p4 : bb_V} {x : Int32} {t : List bb_V} : z_Y C zc_L_areAlike R 154 (p0 :: p1 :: p2 :: p3 :: p4 :: bb_I x :: t) st T ↔ z_Y C zc_L_areAlike R 156 (p0 :: p1 :: p2 :: p3 :: p4 :: bb_I x :: t) (bb_I x :: st) T := Iff.trans (z_Y_at (cd := zc_L_areAlike) (pc := 154) (zo_iload 5 156) rfl) (Iff.of_eq rfl)
theorem ze_L_areAlike_156  : z_Y C zc_L_areAlike R 156 ls st T ↔ z_Y C zc_L_areAlike R 157 ls (bb_I 2 :: st) T := Iff.trans (z_Y_at (cd := zc_L_areAlike) (pc := 156) (zo_const 2 157) rfl) (Iff.of_eq rfl)
theorem ze_L_areAlike_157 {x1 : Int32} {x2 : Int32} {x3 : Int32} {z0 : Int32} : z_Y C zc_L_areAlike R 157 ls (bb_I x3 :: bb_I x2 :: bb_I x1 :: bb_R 41 0 :: [bb_I z0]) T ↔ z_call C 28 [bb_R 41 0, bb_I x1, bb_I x2, bb_I x3] T (fun r T2 => z_Y C zc_L_areAlike R 160 ls (bb_I r :: [bb_I z0]) T2) := Iff.trans (z_Y_at (cd := zc_L_areAlike) (pc := 157) (zo_callv 28 4 160) rfl) ((zq_callv_4 (by decide) (by decide)).trans ⟨fun h => h.2, fun h => ⟨Nat.le_of_ble_eq_true rfl, h⟩⟩)
theorem ze_L_areAlike_160 {a b : Int32} : z_Y C zc_L_areAlike R 160 ls (bb_I b :: bb_I a :: st) T ↔ (if a ≠ b then z_Y C zc_L_areAlike R 190 ls st T else z_Y C zc_L_areAlike R 163 ls st T) := Iff.trans (z_Y_at (cd := zc_L_areAlike) (pc := 160) (zo_icne 190 163) rfl) (Iff.of_eq z_do_ite)
theorem ze_L_areAlike_163 {k j : Nat} {t : List bb_V} : z_Y C zc_L_areAlike R 163 (bb_R k j :: t) st T ↔ z_Y C zc_L_areAlike R 164 (bb_R k j :: t) (bb_R k j :: st) T := Iff.trans (z_Y_at (cd := zc_L_areAlike) (pc := 163) (zo_aload 0 164) rfl) (Iff.of_eq rfl)
theorem ze_L_areAlike_164 {p0 p1 p2 p3 : bb_V} {x : Int32} {t : List bb_V} : z_Y C zc_L_areAlike R 164 (p0 :: p1 :: p2 :: p3 :: bb_I x :: t) st T ↔ z_Y C zc_L_areAlike R 166 (p0 :: p1 :: p2 :: p3 :: bb_I x :: t) (bb_I x :: st) T := Iff.trans (z_Y_at (cd := zc_L_areAlike) (pc := 164) (zo_iload 4 166) rfl) (Iff.of_eq rfl)
theorem ze_L_areAlike_166 {p0 p1 p2 p3 p4 : bb_V} {x : Int32} {t : List bb_V} : z_Y C zc_L_areAlike R 166 (p0 :: p1 :: p2 :: p3 :: p4 :: bb_I x :: t) st T ↔ z_Y C zc_L_areAlike R 168 (p0 :: p1 :: p2 :: p3 :: p4 :: bb_I x :: t) (bb_I x :: st) T := Iff.trans (z_Y_at (cd := zc_L_areAlike) (pc := 166) (zo_iload 5 168) rfl) (Iff.of_eq rfl)
theorem ze_L_areAlike_168  : z_Y C zc_L_areAlike R 168 ls st T ↔ z_Y C zc_L_areAlike R 169 ls (bb_I 3 :: st) T := Iff.trans (z_Y_at (cd := zc_L_areAlike) (pc := 168) (zo_const 3 169) rfl) (Iff.of_eq rfl)
theorem ze_L_areAlike_169 {x1 : Int32} {x2 : Int32} {x3 : Int32} : z_Y C zc_L_areAlike R 169 ls (bb_I x3 :: bb_I x2 :: bb_I x1 :: bb_R 40 0 :: []) T ↔ z_call C 28 [bb_R 40 0, bb_I x1, bb_I x2, bb_I x3] T (fun r T2 => z_Y C zc_L_areAlike R 172 ls (bb_I r :: []) T2) := Iff.trans (z_Y_at (cd := zc_L_areAlike) (pc := 169) (zo_callv 28 4 172) rfl) ((zq_callv_4 (by decide) (by decide)).trans ⟨fun h => h.2, fun h => ⟨Nat.le_of_ble_eq_true rfl, h⟩⟩)
theorem ze_L_areAlike_172 {p0 : bb_V} {k j : Nat} {t : List bb_V} : z_Y C zc_L_areAlike R 172 (p0 :: bb_R k j :: t) st T ↔ z_Y C zc_L_areAlike R 173 (p0 :: bb_R k j :: t) (bb_R k j :: st) T := Iff.trans (z_Y_at (cd := zc_L_areAlike) (pc := 172) (zo_aload 1 173) rfl) (Iff.of_eq rfl)
theorem ze_L_areAlike_173  : z_Y C zc_L_areAlike R 173 ls st T ↔ z_Y C zc_L_areAlike R 174 ls (bb_I 3 :: st) T := Iff.trans (z_Y_at (cd := zc_L_areAlike) (pc := 173) (zo_const 3 174) rfl) (Iff.of_eq rfl)
theorem ze_L_areAlike_174 {p0 p1 p2 p3 : bb_V} {x : Int32} {t : List bb_V} : z_Y C zc_L_areAlike R 174 (p0 :: p1 :: p2 :: p3 :: bb_I x :: t) st T ↔ z_Y C zc_L_areAlike R 176 (p0 :: p1 :: p2 :: p3 :: bb_I x :: t) (bb_I x :: st) T := Iff.trans (z_Y_at (cd := zc_L_areAlike) (pc := 174) (zo_iload 4 176) rfl) (Iff.of_eq rfl)
theorem ze_L_areAlike_176 {a b : Int32} : z_Y C zc_L_areAlike R 176 ls (bb_I b :: bb_I a :: st) T ↔ z_Y C zc_L_areAlike R 177 ls (bb_I (a - b) :: st) T := Iff.trans (z_Y_at (cd := zc_L_areAlike) (pc := 176) (zo_isub 177) rfl) (Iff.of_eq rfl)
theorem ze_L_areAlike_177 {p0 p1 p2 p3 p4 : bb_V} {x : Int32} {t : List bb_V} : z_Y C zc_L_areAlike R 177 (p0 :: p1 :: p2 :: p3 :: p4 :: bb_I x :: t) st T ↔ z_Y C zc_L_areAlike R 179 (p0 :: p1 :: p2 :: p3 :: p4 :: bb_I x :: t) (bb_I x :: st) T := Iff.trans (z_Y_at (cd := zc_L_areAlike) (pc := 177) (zo_iload 5 179) rfl) (Iff.of_eq rfl)
theorem ze_L_areAlike_179  : z_Y C zc_L_areAlike R 179 ls st T ↔ z_Y C zc_L_areAlike R 180 ls (bb_I 3 :: st) T := Iff.trans (z_Y_at (cd := zc_L_areAlike) (pc := 179) (zo_const 3 180) rfl) (Iff.of_eq rfl)
theorem ze_L_areAlike_180 {x1 : Int32} {x2 : Int32} {x3 : Int32} {z0 : Int32} : z_Y C zc_L_areAlike R 180 ls (bb_I x3 :: bb_I x2 :: bb_I x1 :: bb_R 41 0 :: [bb_I z0]) T ↔ z_call C 28 [bb_R 41 0, bb_I x1, bb_I x2, bb_I x3] T (fun r T2 => z_Y C zc_L_areAlike R 183 ls (bb_I r :: [bb_I z0]) T2) := Iff.trans (z_Y_at (cd := zc_L_areAlike) (pc := 180) (zo_callv 28 4 183) rfl) ((zq_callv_4 (by decide) (by decide)).trans ⟨fun h => h.2, fun h => ⟨Nat.le_of_ble_eq_true rfl, h⟩⟩)
theorem ze_L_areAlike_183 {a b : Int32} : z_Y C zc_L_areAlike R 183 ls (bb_I b :: bb_I a :: st) T ↔ (if a ≠ b then z_Y C zc_L_areAlike R 190 ls st T else z_Y C zc_L_areAlike R 186 ls st T) := Iff.trans (z_Y_at (cd := zc_L_areAlike) (pc := 183) (zo_icne 190 186) rfl) (Iff.of_eq z_do_ite)
theorem ze_L_areAlike_186  : z_Y C zc_L_areAlike R 186 ls st T ↔ z_Y C zc_L_areAlike R 187 ls (bb_I 1 :: st) T := Iff.trans (z_Y_at (cd := zc_L_areAlike) (pc := 186) (zo_const 1 187) rfl) (Iff.of_eq rfl)
theorem ze_L_areAlike_187  : z_Y C zc_L_areAlike R 187 ls st T ↔ z_Y C zc_L_areAlike R 191 ls st T := Iff.trans (z_Y_at (cd := zc_L_areAlike) (pc := 187) (zo_goto 191) rfl) (Iff.of_eq rfl)
theorem ze_L_areAlike_190  : z_Y C zc_L_areAlike R 190 ls st T ↔ z_Y C zc_L_areAlike R 191 ls (bb_I 0 :: st) T := Iff.trans (z_Y_at (cd := zc_L_areAlike) (pc := 190) (zo_const 0 191) rfl) (Iff.of_eq rfl)
theorem ze_L_areAlike_191 {p0 p1 p2 : bb_V} {x : Int32} {q : bb_V} {t : List bb_V} : z_Y C zc_L_areAlike R 191 (p0 :: p1 :: p2 :: q :: t) (bb_I x :: st) T ↔ z_Y C zc_L_areAlike R 192 (p0 :: p1 :: p2 :: bb_I x :: t) st T := Iff.trans (z_Y_at (cd := zc_L_areAlike) (pc := 191) (zo_istore 3 192) rfl) (Iff.of_eq rfl)
theorem ze_L_areAlike_192 {p0 p1 p2 p3 p4 : bb_V} {x : Int32} {t : List bb_V} : z_Y C zc_L_areAlike R 192 (p0 :: p1 :: p2 :: p3 :: p4 :: bb_I x :: t) st T ↔ z_Y C zc_L_areAlike R 195 (p0 :: p1 :: p2 :: p3 :: p4 :: bb_I (x + 1) :: t) st T := Iff.trans (z_Y_at (cd := zc_L_areAlike) (pc := 192) (zo_iinc 5 1 195) rfl) (Iff.of_eq rfl)
theorem ze_L_areAlike_195  : z_Y C zc_L_areAlike R 195 ls st T ↔ z_Y C zc_L_areAlike R 106 ls st T := Iff.trans (z_Y_at (cd := zc_L_areAlike) (pc := 195) (zo_goto 106) rfl) (Iff.of_eq rfl)
theorem ze_L_areAlike_198  : z_Y C zc_L_areAlike R 198 ls st T ↔ z_Y C zc_L_areAlike R 199 ls (bb_I 1 :: st) T := Iff.trans (z_Y_at (cd := zc_L_areAlike) (pc := 198) (zo_const 1 199) rfl) (Iff.of_eq rfl)
theorem ze_L_areAlike_199 {p0 p1 : bb_V} {x : Int32} {t : List bb_V} : z_Y C zc_L_areAlike R 199 (p0 :: p1 :: bb_I x :: t) st T ↔ z_Y C zc_L_areAlike R 200 (p0 :: p1 :: bb_I x :: t) (bb_I x :: st) T := Iff.trans (z_Y_at (cd := zc_L_areAlike) (pc := 199) (zo_iload 2 200) rfl) (Iff.of_eq rfl)
theorem ze_L_areAlike_200  : z_Y C zc_L_areAlike R 200 ls st T ↔ z_Y C zc_L_areAlike R 201 ls (bb_I 3 :: st) T := Iff.trans (z_Y_at (cd := zc_L_areAlike) (pc := 200) (zo_const 3 201) rfl) (Iff.of_eq rfl)
theorem ze_L_areAlike_201 {p0 p1 p2 p3 : bb_V} {x : Int32} {t : List bb_V} : z_Y C zc_L_areAlike R 201 (p0 :: p1 :: p2 :: p3 :: bb_I x :: t) st T ↔ z_Y C zc_L_areAlike R 203 (p0 :: p1 :: p2 :: p3 :: bb_I x :: t) (bb_I x :: st) T := Iff.trans (z_Y_at (cd := zc_L_areAlike) (pc := 201) (zo_iload 4 203) rfl) (Iff.of_eq rfl)
theorem ze_L_areAlike_203 {a b : Int32} : z_Y C zc_L_areAlike R 203 ls (bb_I b :: bb_I a :: st) T ↔ z_Y C zc_L_areAlike R 204 ls (bb_I (a * b) :: st) T := Iff.trans (z_Y_at (cd := zc_L_areAlike) (pc := 203) (zo_imul 204) rfl) (Iff.of_eq rfl)
theorem ze_L_areAlike_204 {a b : Int32} : z_Y C zc_L_areAlike R 204 ls (bb_I b :: bb_I a :: st) T ↔ z_Y C zc_L_areAlike R 205 ls (bb_I (a >>> (b &&& 31)) :: st) T := Iff.trans (z_Y_at (cd := zc_L_areAlike) (pc := 204) (zo_ishr 205) rfl) (Iff.of_eq rfl)
theorem ze_L_areAlike_205  : z_Y C zc_L_areAlike R 205 ls st T ↔ z_Y C zc_L_areAlike R 207 ls (bb_I 20 :: st) T := Iff.trans (z_Y_at (cd := zc_L_areAlike) (pc := 205) (zo_const 20 207) rfl) (Iff.of_eq rfl)
theorem ze_L_areAlike_207 {x0 : Int32} {x1 : Int32} {z0 : Int32} : z_Y C zc_L_areAlike R 207 ls (bb_I x1 :: bb_I x0 :: [bb_I z0]) T ↔ z_call C 1 [bb_I x0, bb_I x1] T (fun r T2 => z_Y C zc_L_areAlike R 210 ls (bb_I r :: [bb_I z0]) T2) := Iff.trans (z_Y_at (cd := zc_L_areAlike) (pc := 207) (zo_call 1 2 210) rfl) ((zq_call_2 (by decide)).trans ⟨fun h => h.2, fun h => ⟨⟨Nat.le_of_ble_eq_true rfl, rfl⟩, h⟩⟩)
theorem ze_L_areAlike_210 {a b : Int32} : z_Y C zc_L_areAlike R 210 ls (bb_I b :: bb_I a :: st) T ↔ z_Y C zc_L_areAlike R 211 ls (bb_I (a + b) :: st) T := Iff.trans (z_Y_at (cd := zc_L_areAlike) (pc := 210) (zo_iadd 211) rfl) (Iff.of_eq rfl)
theorem ze_L_areAlike_211 {p0 p1 p2 p3 p4 : bb_V} {x : Int32} {q : bb_V} {t : List bb_V} : z_Y C zc_L_areAlike R 211 (p0 :: p1 :: p2 :: p3 :: p4 :: q :: t) (bb_I x :: st) T ↔ z_Y C zc_L_areAlike R 213 (p0 :: p1 :: p2 :: p3 :: p4 :: bb_I x :: t) st T := Iff.trans (z_Y_at (cd := zc_L_areAlike) (pc := 211) (zo_istore 5 213) rfl) (Iff.of_eq rfl)
theorem ze_L_areAlike_213  : z_Y C zc_L_areAlike R 213 ls st T ↔ z_Y C zc_L_areAlike R 214 ls (bb_I 2 :: st) T := Iff.trans (z_Y_at (cd := zc_L_areAlike) (pc := 213) (zo_const 2 214) rfl) (Iff.of_eq rfl)
theorem ze_L_areAlike_214 {p0 p1 p2 p3 p4 p5 : bb_V} {x : Int32} {q : bb_V} {t : List bb_V} : z_Y C zc_L_areAlike R 214 (p0 :: p1 :: p2 :: p3 :: p4 :: p5 :: q :: t) (bb_I x :: st) T ↔ z_Y C zc_L_areAlike R 216 (p0 :: p1 :: p2 :: p3 :: p4 :: p5 :: bb_I x :: t) st T := Iff.trans (z_Y_at (cd := zc_L_areAlike) (pc := 214) (zo_istore 6 216) rfl) (Iff.of_eq rfl)
theorem zh_L_areAlike_216 {p0 p1 p2 p3 p4 p5 : bb_V} {x : Int32} {t : List bb_V} : z_Y C zc_L_areAlike R 216 (p0 :: p1 :: p2 :: p3 :: p4 :: p5 :: bb_I x :: t) st T ↔ z_Y C zc_L_areAlike R 218 (p0 :: p1 :: p2 :: p3 :: p4 :: p5 :: bb_I x :: t) (bb_I x :: st) T := Iff.trans (z_Y_at (cd := zc_L_areAlike) (pc := 216) (zo_iload 6 218) rfl) (Iff.of_eq rfl)
theorem ze_L_areAlike_218  : z_Y C zc_L_areAlike R 218 ls st T ↔ z_Y C zc_L_areAlike R 220 ls (bb_I 7 :: st) T := Iff.trans (z_Y_at (cd := zc_L_areAlike) (pc := 218) (zo_const 7 220) rfl) (Iff.of_eq rfl)
theorem ze_L_areAlike_220 {a b : Int32} : z_Y C zc_L_areAlike R 220 ls (bb_I b :: bb_I a :: st) T ↔ (if b ≤ a then z_Y C zc_L_areAlike R 264 ls st T else z_Y C zc_L_areAlike R 223 ls st T) := Iff.trans (z_Y_at (cd := zc_L_areAlike) (pc := 220) (zo_icge 264 223) rfl) (Iff.of_eq z_do_ite)
theorem ze_L_areAlike_223 {p0 p1 p2 : bb_V} {x : Int32} {t : List bb_V} : z_Y C zc_L_areAlike R 223 (p0 :: p1 :: p2 :: bb_I x :: t) st T ↔ z_Y C zc_L_areAlike R 224 (p0 :: p1 :: p2 :: bb_I x :: t) (bb_I x :: st) T := Iff.trans (z_Y_at (cd := zc_L_areAlike) (pc := 223) (zo_iload 3 224) rfl) (Iff.of_eq rfl)
set_option maxRecDepth 20000 in
theorem ze_L_areAlike_224 {a : Int32} : z_Y C zc_L_areAlike R 224 ls (bb_I a :: st) T ↔ (if a = 0 then z_Y C zc_L_areAlike R 256 ls st T else z_Y C zc_L_areAlike R 227 ls st T) := Iff.trans (z_Y_at (cd := zc_L_areAlike) (pc := 224) (zo_ifeq 256 227) rfl) (Iff.of_eq z_do_ite)
set_option maxRecDepth 20000 in
theorem ze_L_areAlike_227 {k j : Nat} {t : List bb_V} : z_Y C zc_L_areAlike R 227 (bb_R k j :: t) st T ↔ z_Y C zc_L_areAlike R 228 (bb_R k j :: t) (bb_R k j :: st) T := Iff.trans (z_Y_at (cd := zc_L_areAlike) (pc := 227) (zo_aload 0 228) rfl) (Iff.of_eq rfl)
set_option maxRecDepth 20000 in
theorem ze_L_areAlike_228 {p0 p1 p2 p3 : bb_V} {x : Int32} {t : List bb_V} : z_Y C zc_L_areAlike R 228 (p0 :: p1 :: p2 :: p3 :: bb_I x :: t) st T ↔ z_Y C zc_L_areAlike R 230 (p0 :: p1 :: p2 :: p3 :: bb_I x :: t) (bb_I x :: st) T := Iff.trans (z_Y_at (cd := zc_L_areAlike) (pc := 228) (zo_iload 4 230) rfl) (Iff.of_eq rfl)
set_option maxRecDepth 20000 in
theorem ze_L_areAlike_230 {p0 p1 p2 p3 p4 : bb_V} {x : Int32} {t : List bb_V} : z_Y C zc_L_areAlike R 230 (p0 :: p1 :: p2 :: p3 :: p4 :: bb_I x :: t) st T ↔ z_Y C zc_L_areAlike R 232 (p0 :: p1 :: p2 :: p3 :: p4 :: bb_I x :: t) (bb_I x :: st) T := Iff.trans (z_Y_at (cd := zc_L_areAlike) (pc := 230) (zo_iload 5 232) rfl) (Iff.of_eq rfl)
set_option maxRecDepth 20000 in
theorem ze_L_areAlike_232 {p0 p1 p2 p3 p4 p5 : bb_V} {x : Int32} {t : List bb_V} : z_Y C zc_L_areAlike R 232 (p0 :: p1 :: p2 :: p3 :: p4 :: p5 :: bb_I x :: t) st T ↔ z_Y C zc_L_areAlike R 234 (p0 :: p1 :: p2 :: p3 :: p4 :: p5 :: bb_I x :: t) (bb_I x :: st) T := Iff.trans (z_Y_at (cd := zc_L_areAlike) (pc := 232) (zo_iload 6 234) rfl) (Iff.of_eq rfl)
set_option maxRecDepth 20000 in
theorem ze_L_areAlike_234 {x1 : Int32} {x2 : Int32} {x3 : Int32} : z_Y C zc_L_areAlike R 234 ls (bb_I x3 :: bb_I x2 :: bb_I x1 :: bb_R 40 0 :: []) T ↔ z_call C 32 [bb_R 40 0, bb_I x1, bb_I x2, bb_I x3] T (fun r T2 => z_Y C zc_L_areAlike R 237 ls (bb_I r :: []) T2) := Iff.trans (z_Y_at (cd := zc_L_areAlike) (pc := 234) (zo_callv 32 4 237) rfl) ((zq_callv_4 (by decide) (by decide)).trans ⟨fun h => h.2, fun h => ⟨Nat.le_of_ble_eq_true rfl, h⟩⟩)
set_option maxRecDepth 20000 in
theorem ze_L_areAlike_237 {p0 : bb_V} {k j : Nat} {t : List bb_V} : z_Y C zc_L_areAlike R 237 (p0 :: bb_R k j :: t) st T ↔ z_Y C zc_L_areAlike R 238 (p0 :: bb_R k j :: t) (bb_R k j :: st) T := Iff.trans (z_Y_at (cd := zc_L_areAlike) (pc := 237) (zo_aload 1 238) rfl) (Iff.of_eq rfl)
set_option maxRecDepth 20000 in
theorem ze_L_areAlike_238  : z_Y C zc_L_areAlike R 238 ls st T ↔ z_Y C zc_L_areAlike R 239 ls (bb_I 3 :: st) T := Iff.trans (z_Y_at (cd := zc_L_areAlike) (pc := 238) (zo_const 3 239) rfl) (Iff.of_eq rfl)
set_option maxRecDepth 20000 in
theorem ze_L_areAlike_239 {p0 p1 p2 p3 : bb_V} {x : Int32} {t : List bb_V} : z_Y C zc_L_areAlike R 239 (p0 :: p1 :: p2 :: p3 :: bb_I x :: t) st T ↔ z_Y C zc_L_areAlike R 241 (p0 :: p1 :: p2 :: p3 :: bb_I x :: t) (bb_I x :: st) T := Iff.trans (z_Y_at (cd := zc_L_areAlike) (pc := 239) (zo_iload 4 241) rfl) (Iff.of_eq rfl)
set_option maxRecDepth 20000 in
theorem ze_L_areAlike_241 {a b : Int32} : z_Y C zc_L_areAlike R 241 ls (bb_I b :: bb_I a :: st) T ↔ z_Y C zc_L_areAlike R 242 ls (bb_I (a - b) :: st) T := Iff.trans (z_Y_at (cd := zc_L_areAlike) (pc := 241) (zo_isub 242) rfl) (Iff.of_eq rfl)
set_option maxRecDepth 20000 in
theorem ze_L_areAlike_242 {p0 p1 p2 p3 p4 : bb_V} {x : Int32} {t : List bb_V} : z_Y C zc_L_areAlike R 242 (p0 :: p1 :: p2 :: p3 :: p4 :: bb_I x :: t) st T ↔ z_Y C zc_L_areAlike R 244 (p0 :: p1 :: p2 :: p3 :: p4 :: bb_I x :: t) (bb_I x :: st) T := Iff.trans (z_Y_at (cd := zc_L_areAlike) (pc := 242) (zo_iload 5 244) rfl) (Iff.of_eq rfl)
set_option maxRecDepth 20000 in
theorem ze_L_areAlike_244 {p0 p1 p2 p3 p4 p5 : bb_V} {x : Int32} {t : List bb_V} : z_Y C zc_L_areAlike R 244 (p0 :: p1 :: p2 :: p3 :: p4 :: p5 :: bb_I x :: t) st T ↔ z_Y C zc_L_areAlike R 246 (p0 :: p1 :: p2 :: p3 :: p4 :: p5 :: bb_I x :: t) (bb_I x :: st) T := Iff.trans (z_Y_at (cd := zc_L_areAlike) (pc := 244) (zo_iload 6 246) rfl) (Iff.of_eq rfl)
set_option maxRecDepth 20000 in
theorem ze_L_areAlike_246 {x1 : Int32} {x2 : Int32} {x3 : Int32} {z0 : Int32} : z_Y C zc_L_areAlike R 246 ls (bb_I x3 :: bb_I x2 :: bb_I x1 :: bb_R 41 0 :: [bb_I z0]) T ↔ z_call C 32 [bb_R 41 0, bb_I x1, bb_I x2, bb_I x3] T (fun r T2 => z_Y C zc_L_areAlike R 249 ls (bb_I r :: [bb_I z0]) T2) := Iff.trans (z_Y_at (cd := zc_L_areAlike) (pc := 246) (zo_callv 32 4 249) rfl) ((zq_callv_4 (by decide) (by decide)).trans ⟨fun h => h.2, fun h => ⟨Nat.le_of_ble_eq_true rfl, h⟩⟩)
set_option maxRecDepth 20000 in
theorem ze_L_areAlike_249 {a b : Int32} : z_Y C zc_L_areAlike R 249 ls (bb_I b :: bb_I a :: st) T ↔ (if a ≠ b then z_Y C zc_L_areAlike R 256 ls st T else z_Y C zc_L_areAlike R 252 ls st T) := Iff.trans (z_Y_at (cd := zc_L_areAlike) (pc := 249) (zo_icne 256 252) rfl) (Iff.of_eq z_do_ite)
set_option maxRecDepth 20000 in
theorem ze_L_areAlike_252  : z_Y C zc_L_areAlike R 252 ls st T ↔ z_Y C zc_L_areAlike R 253 ls (bb_I 1 :: st) T := Iff.trans (z_Y_at (cd := zc_L_areAlike) (pc := 252) (zo_const 1 253) rfl) (Iff.of_eq rfl)
set_option maxRecDepth 20000 in
theorem ze_L_areAlike_253  : z_Y C zc_L_areAlike R 253 ls st T ↔ z_Y C zc_L_areAlike R 257 ls st T := Iff.trans (z_Y_at (cd := zc_L_areAlike) (pc := 253) (zo_goto 257) rfl) (Iff.of_eq rfl)
set_option maxRecDepth 20000 in
theorem ze_L_areAlike_256  : z_Y C zc_L_areAlike R 256 ls st T ↔ z_Y C zc_L_areAlike R 257 ls (bb_I 0 :: st) T := Iff.trans (z_Y_at (cd := zc_L_areAlike) (pc := 256) (zo_const 0 257) rfl) (Iff.of_eq rfl)
set_option maxRecDepth 20000 in
theorem ze_L_areAlike_257 {p0 p1 p2 : bb_V} {x : Int32} {q : bb_V} {t : List bb_V} : z_Y C zc_L_areAlike R 257 (p0 :: p1 :: p2 :: q :: t) (bb_I x :: st) T ↔ z_Y C zc_L_areAlike R 258 (p0 :: p1 :: p2 :: bb_I x :: t) st T := Iff.trans (z_Y_at (cd := zc_L_areAlike) (pc := 257) (zo_istore 3 258) rfl) (Iff.of_eq rfl)
set_option maxRecDepth 20000 in
theorem ze_L_areAlike_258 {p0 p1 p2 p3 p4 p5 : bb_V} {x : Int32} {t : List bb_V} : z_Y C zc_L_areAlike R 258 (p0 :: p1 :: p2 :: p3 :: p4 :: p5 :: bb_I x :: t) st T ↔ z_Y C zc_L_areAlike R 261 (p0 :: p1 :: p2 :: p3 :: p4 :: p5 :: bb_I (x + 1) :: t) st T := Iff.trans (z_Y_at (cd := zc_L_areAlike) (pc := 258) (zo_iinc 6 1 261) rfl) (Iff.of_eq rfl)
set_option maxRecDepth 20000 in
theorem ze_L_areAlike_261  : z_Y C zc_L_areAlike R 261 ls st T ↔ z_Y C zc_L_areAlike R 216 ls st T := Iff.trans (z_Y_at (cd := zc_L_areAlike) (pc := 261) (zo_goto 216) rfl) (Iff.of_eq rfl)
set_option maxRecDepth 20000 in
theorem ze_L_areAlike_264 {p0 p1 p2 p3 : bb_V} {x : Int32} {t : List bb_V} : z_Y C zc_L_areAlike R 264 (p0 :: p1 :: p2 :: p3 :: bb_I x :: t) st T ↔ z_Y C zc_L_areAlike R 267 (p0 :: p1 :: p2 :: p3 :: bb_I (x + 1) :: t) st T := Iff.trans (z_Y_at (cd := zc_L_areAlike) (pc := 264) (zo_iinc 4 1 267) rfl) (Iff.of_eq rfl)
set_option maxRecDepth 20000 in
theorem ze_L_areAlike_267  : z_Y C zc_L_areAlike R 267 ls st T ↔ z_Y C zc_L_areAlike R 46 ls st T := Iff.trans (z_Y_at (cd := zc_L_areAlike) (pc := 267) (zo_goto 46) rfl) (Iff.of_eq rfl)
set_option maxRecDepth 20000 in
theorem ze_L_areAlike_270  : z_Y C zc_L_areAlike R 270 ls st T ↔ z_Y C zc_L_areAlike R 271 ls (bb_I 0 :: st) T := Iff.trans (z_Y_at (cd := zc_L_areAlike) (pc := 270) (zo_const 0 271) rfl) (Iff.of_eq rfl)
set_option maxRecDepth 20000 in
theorem ze_L_areAlike_271 {p0 p1 p2 p3 : bb_V} {x : Int32} {q : bb_V} {t : List bb_V} : z_Y C zc_L_areAlike R 271 (p0 :: p1 :: p2 :: p3 :: q :: t) (bb_I x :: st) T ↔ z_Y C zc_L_areAlike R 273 (p0 :: p1 :: p2 :: p3 :: bb_I x :: t) st T := Iff.trans (z_Y_at (cd := zc_L_areAlike) (pc := 271) (zo_istore 4 273) rfl) (Iff.of_eq rfl)
set_option maxRecDepth 20000 in
theorem zh_L_areAlike_273 {p0 p1 p2 p3 : bb_V} {x : Int32} {t : List bb_V} : z_Y C zc_L_areAlike R 273 (p0 :: p1 :: p2 :: p3 :: bb_I x :: t) st T ↔ z_Y C zc_L_areAlike R 275 (p0 :: p1 :: p2 :: p3 :: bb_I x :: t) (bb_I x :: st) T := Iff.trans (z_Y_at (cd := zc_L_areAlike) (pc := 273) (zo_iload 4 275) rfl) (Iff.of_eq rfl)
set_option maxRecDepth 20000 in
theorem ze_L_areAlike_275 {k j : Nat} {t : List bb_V} : z_Y C zc_L_areAlike R 275 (bb_R k j :: t) st T ↔ z_Y C zc_L_areAlike R 276 (bb_R k j :: t) (bb_R k j :: st) T := Iff.trans (z_Y_at (cd := zc_L_areAlike) (pc := 275) (zo_aload 0 276) rfl) (Iff.of_eq rfl)
set_option maxRecDepth 20000 in
theorem ze_L_areAlike_276  : z_Y C zc_L_areAlike R 276 ls st T ↔ z_Y C zc_L_areAlike R 278 ls (bb_I 9 :: st) T := Iff.trans (z_Y_at (cd := zc_L_areAlike) (pc := 276) (zo_const 9 278) rfl) (Iff.of_eq rfl)
set_option maxRecDepth 20000 in
theorem ze_L_areAlike_278 {x1 : Int32} {z0 : Int32} : z_Y C zc_L_areAlike R 278 ls (bb_I x1 :: bb_R 40 0 :: [bb_I z0]) T ↔ z_call C 34 [bb_R 40 0, bb_I x1] T (fun r T2 => z_Y C zc_L_areAlike R 281 ls (bb_I r :: [bb_I z0]) T2) := Iff.trans (z_Y_at (cd := zc_L_areAlike) (pc := 278) (zo_callv 34 2 281) rfl) ((zq_callv_2 (by decide) (by decide)).trans ⟨fun h => h.2, fun h => ⟨Nat.le_of_ble_eq_true rfl, h⟩⟩)
set_option maxRecDepth 20000 in
theorem ze_L_areAlike_281 {a b : Int32} : z_Y C zc_L_areAlike R 281 ls (bb_I b :: bb_I a :: st) T ↔ (if b ≤ a then z_Y C zc_L_areAlike R 336 ls st T else z_Y C zc_L_areAlike R 284 ls st T) := Iff.trans (z_Y_at (cd := zc_L_areAlike) (pc := 281) (zo_icge 336 284) rfl) (Iff.of_eq z_do_ite)
set_option maxRecDepth 20000 in
theorem ze_L_areAlike_284 {p0 p1 p2 : bb_V} {x : Int32} {t : List bb_V} : z_Y C zc_L_areAlike R 284 (p0 :: p1 :: p2 :: bb_I x :: t) st T ↔ z_Y C zc_L_areAlike R 285 (p0 :: p1 :: p2 :: bb_I x :: t) (bb_I x :: st) T := Iff.trans (z_Y_at (cd := zc_L_areAlike) (pc := 284) (zo_iload 3 285) rfl) (Iff.of_eq rfl)
set_option maxRecDepth 20000 in
theorem ze_L_areAlike_285 {a : Int32} : z_Y C zc_L_areAlike R 285 ls (bb_I a :: st) T ↔ (if a = 0 then z_Y C zc_L_areAlike R 328 ls st T else z_Y C zc_L_areAlike R 288 ls st T) := Iff.trans (z_Y_at (cd := zc_L_areAlike) (pc := 285) (zo_ifeq 328 288) rfl) (Iff.of_eq z_do_ite)
set_option maxRecDepth 20000 in
theorem ze_L_areAlike_288 {k j : Nat} {t : List bb_V} : z_Y C zc_L_areAlike R 288 (bb_R k j :: t) st T ↔ z_Y C zc_L_areAlike R 289 (bb_R k j :: t) (bb_R k j :: st) T := Iff.trans (z_Y_at (cd := zc_L_areAlike) (pc := 288) (zo_aload 0 289) rfl) (Iff.of_eq rfl)
set_option maxRecDepth 20000 in
theorem ze_L_areAlike_289 {p0 p1 p2 p3 : bb_V} {x : Int32} {t : List bb_V} : z_Y C zc_L_areAlike R 289 (p0 :: p1 :: p2 :: p3 :: bb_I x :: t) st T ↔ z_Y C zc_L_areAlike R 291 (p0 :: p1 :: p2 :: p3 :: bb_I x :: t) (bb_I x :: st) T := Iff.trans (z_Y_at (cd := zc_L_areAlike) (pc := 289) (zo_iload 4 291) rfl) (Iff.of_eq rfl)
set_option maxRecDepth 20000 in
theorem ze_L_areAlike_291  : z_Y C zc_L_areAlike R 291 ls st T ↔ z_Y C zc_L_areAlike R 292 ls (bb_I 0 :: st) T := Iff.trans (z_Y_at (cd := zc_L_areAlike) (pc := 291) (zo_const 0 292) rfl) (Iff.of_eq rfl)
set_option maxRecDepth 20000 in
theorem ze_L_areAlike_292 {x1 : Int32} {x2 : Int32} : z_Y C zc_L_areAlike R 292 ls (bb_I x2 :: bb_I x1 :: bb_R 40 0 :: []) T ↔ z_call C 30 [bb_R 40 0, bb_I x1, bb_I x2] T (fun r T2 => z_Y C zc_L_areAlike R 295 ls (bb_I r :: []) T2) := Iff.trans (z_Y_at (cd := zc_L_areAlike) (pc := 292) (zo_callv 30 3 295) rfl) ((zq_callv_3 (by decide) (by decide)).trans ⟨fun h => h.2, fun h => ⟨Nat.le_of_ble_eq_true rfl, h⟩⟩)
set_option maxRecDepth 20000 in
theorem ze_L_areAlike_295  : z_Y C zc_L_areAlike R 295 ls st T ↔ z_Y C zc_L_areAlike R 296 ls (bb_I 3 :: st) T := Iff.trans (z_Y_at (cd := zc_L_areAlike) (pc := 295) (zo_const 3 296) rfl) (Iff.of_eq rfl)
set_option maxRecDepth 20000 in
theorem ze_L_areAlike_296 {p0 : bb_V} {k j : Nat} {t : List bb_V} : z_Y C zc_L_areAlike R 296 (p0 :: bb_R k j :: t) st T ↔ z_Y C zc_L_areAlike R 297 (p0 :: bb_R k j :: t) (bb_R k j :: st) T := Iff.trans (z_Y_at (cd := zc_L_areAlike) (pc := 296) (zo_aload 1 297) rfl) (Iff.of_eq rfl)
set_option maxRecDepth 20000 in
theorem ze_L_areAlike_297 {p0 p1 p2 p3 : bb_V} {x : Int32} {t : List bb_V} : z_Y C zc_L_areAlike R 297 (p0 :: p1 :: p2 :: p3 :: bb_I x :: t) st T ↔ z_Y C zc_L_areAlike R 299 (p0 :: p1 :: p2 :: p3 :: bb_I x :: t) (bb_I x :: st) T := Iff.trans (z_Y_at (cd := zc_L_areAlike) (pc := 297) (zo_iload 4 299) rfl) (Iff.of_eq rfl)
set_option maxRecDepth 20000 in
theorem ze_L_areAlike_299  : z_Y C zc_L_areAlike R 299 ls st T ↔ z_Y C zc_L_areAlike R 300 ls (bb_I 0 :: st) T := Iff.trans (z_Y_at (cd := zc_L_areAlike) (pc := 299) (zo_const 0 300) rfl) (Iff.of_eq rfl)
set_option maxRecDepth 20000 in
theorem ze_L_areAlike_300 {x1 : Int32} {x2 : Int32} {z0 : Int32} {z1 : Int32} : z_Y C zc_L_areAlike R 300 ls (bb_I x2 :: bb_I x1 :: bb_R 41 0 :: [bb_I z1, bb_I z0]) T ↔ z_call C 30 [bb_R 41 0, bb_I x1, bb_I x2] T (fun r T2 => z_Y C zc_L_areAlike R 303 ls (bb_I r :: [bb_I z1, bb_I z0]) T2) := Iff.trans (z_Y_at (cd := zc_L_areAlike) (pc := 300) (zo_callv 30 3 303) rfl) ((zq_callv_3 (by decide) (by decide)).trans ⟨fun h => h.2, fun h => ⟨Nat.le_of_ble_eq_true rfl, h⟩⟩)
set_option maxRecDepth 20000 in
theorem ze_L_areAlike_303 {a b : Int32} : z_Y C zc_L_areAlike R 303 ls (bb_I b :: bb_I a :: st) T ↔ z_Y C zc_L_areAlike R 304 ls (bb_I (a - b) :: st) T := Iff.trans (z_Y_at (cd := zc_L_areAlike) (pc := 303) (zo_isub 304) rfl) (Iff.of_eq rfl)
set_option maxRecDepth 20000 in
theorem ze_L_areAlike_304 {a b : Int32} : z_Y C zc_L_areAlike R 304 ls (bb_I b :: bb_I a :: st) T ↔ (if a ≠ b then z_Y C zc_L_areAlike R 328 ls st T else z_Y C zc_L_areAlike R 307 ls st T) := Iff.trans (z_Y_at (cd := zc_L_areAlike) (pc := 304) (zo_icne 328 307) rfl) (Iff.of_eq z_do_ite)
set_option maxRecDepth 20000 in
theorem ze_L_areAlike_307 {k j : Nat} {t : List bb_V} : z_Y C zc_L_areAlike R 307 (bb_R k j :: t) st T ↔ z_Y C zc_L_areAlike R 308 (bb_R k j :: t) (bb_R k j :: st) T := Iff.trans (z_Y_at (cd := zc_L_areAlike) (pc := 307) (zo_aload 0 308) rfl) (Iff.of_eq rfl)
set_option maxRecDepth 20000 in
theorem ze_L_areAlike_308 {p0 p1 p2 p3 : bb_V} {x : Int32} {t : List bb_V} : z_Y C zc_L_areAlike R 308 (p0 :: p1 :: p2 :: p3 :: bb_I x :: t) st T ↔ z_Y C zc_L_areAlike R 310 (p0 :: p1 :: p2 :: p3 :: bb_I x :: t) (bb_I x :: st) T := Iff.trans (z_Y_at (cd := zc_L_areAlike) (pc := 308) (zo_iload 4 310) rfl) (Iff.of_eq rfl)
set_option maxRecDepth 20000 in
theorem ze_L_areAlike_310  : z_Y C zc_L_areAlike R 310 ls st T ↔ z_Y C zc_L_areAlike R 311 ls (bb_I 1 :: st) T := Iff.trans (z_Y_at (cd := zc_L_areAlike) (pc := 310) (zo_const 1 311) rfl) (Iff.of_eq rfl)
set_option maxRecDepth 20000 in
theorem ze_L_areAlike_311 {x1 : Int32} {x2 : Int32} : z_Y C zc_L_areAlike R 311 ls (bb_I x2 :: bb_I x1 :: bb_R 40 0 :: []) T ↔ z_call C 30 [bb_R 40 0, bb_I x1, bb_I x2] T (fun r T2 => z_Y C zc_L_areAlike R 314 ls (bb_I r :: []) T2) := Iff.trans (z_Y_at (cd := zc_L_areAlike) (pc := 311) (zo_callv 30 3 314) rfl) ((zq_callv_3 (by decide) (by decide)).trans ⟨fun h => h.2, fun h => ⟨Nat.le_of_ble_eq_true rfl, h⟩⟩)
set_option maxRecDepth 20000 in
theorem ze_L_areAlike_314 {p0 : bb_V} {k j : Nat} {t : List bb_V} : z_Y C zc_L_areAlike R 314 (p0 :: bb_R k j :: t) st T ↔ z_Y C zc_L_areAlike R 315 (p0 :: bb_R k j :: t) (bb_R k j :: st) T := Iff.trans (z_Y_at (cd := zc_L_areAlike) (pc := 314) (zo_aload 1 315) rfl) (Iff.of_eq rfl)
set_option maxRecDepth 20000 in
theorem ze_L_areAlike_315 {p0 p1 p2 p3 : bb_V} {x : Int32} {t : List bb_V} : z_Y C zc_L_areAlike R 315 (p0 :: p1 :: p2 :: p3 :: bb_I x :: t) st T ↔ z_Y C zc_L_areAlike R 317 (p0 :: p1 :: p2 :: p3 :: bb_I x :: t) (bb_I x :: st) T := Iff.trans (z_Y_at (cd := zc_L_areAlike) (pc := 315) (zo_iload 4 317) rfl) (Iff.of_eq rfl)
set_option maxRecDepth 20000 in
theorem ze_L_areAlike_317  : z_Y C zc_L_areAlike R 317 ls st T ↔ z_Y C zc_L_areAlike R 318 ls (bb_I 1 :: st) T := Iff.trans (z_Y_at (cd := zc_L_areAlike) (pc := 317) (zo_const 1 318) rfl) (Iff.of_eq rfl)
set_option maxRecDepth 20000 in
theorem ze_L_areAlike_318 {x1 : Int32} {x2 : Int32} {z0 : Int32} : z_Y C zc_L_areAlike R 318 ls (bb_I x2 :: bb_I x1 :: bb_R 41 0 :: [bb_I z0]) T ↔ z_call C 30 [bb_R 41 0, bb_I x1, bb_I x2] T (fun r T2 => z_Y C zc_L_areAlike R 321 ls (bb_I r :: [bb_I z0]) T2) := Iff.trans (z_Y_at (cd := zc_L_areAlike) (pc := 318) (zo_callv 30 3 321) rfl) ((zq_callv_3 (by decide) (by decide)).trans ⟨fun h => h.2, fun h => ⟨Nat.le_of_ble_eq_true rfl, h⟩⟩)
set_option maxRecDepth 20000 in
theorem ze_L_areAlike_321 {a b : Int32} : z_Y C zc_L_areAlike R 321 ls (bb_I b :: bb_I a :: st) T ↔ (if a ≠ b then z_Y C zc_L_areAlike R 328 ls st T else z_Y C zc_L_areAlike R 324 ls st T) := Iff.trans (z_Y_at (cd := zc_L_areAlike) (pc := 321) (zo_icne 328 324) rfl) (Iff.of_eq z_do_ite)
set_option maxRecDepth 20000 in
theorem ze_L_areAlike_324  : z_Y C zc_L_areAlike R 324 ls st T ↔ z_Y C zc_L_areAlike R 325 ls (bb_I 1 :: st) T := Iff.trans (z_Y_at (cd := zc_L_areAlike) (pc := 324) (zo_const 1 325) rfl) (Iff.of_eq rfl)
set_option maxRecDepth 20000 in
theorem ze_L_areAlike_325  : z_Y C zc_L_areAlike R 325 ls st T ↔ z_Y C zc_L_areAlike R 329 ls st T := Iff.trans (z_Y_at (cd := zc_L_areAlike) (pc := 325) (zo_goto 329) rfl) (Iff.of_eq rfl)
set_option maxRecDepth 20000 in
theorem ze_L_areAlike_328  : z_Y C zc_L_areAlike R 328 ls st T ↔ z_Y C zc_L_areAlike R 329 ls (bb_I 0 :: st) T := Iff.trans (z_Y_at (cd := zc_L_areAlike) (pc := 328) (zo_const 0 329) rfl) (Iff.of_eq rfl)
set_option maxRecDepth 20000 in
theorem ze_L_areAlike_329 {p0 p1 p2 : bb_V} {x : Int32} {q : bb_V} {t : List bb_V} : z_Y C zc_L_areAlike R 329 (p0 :: p1 :: p2 :: q :: t) (bb_I x :: st) T ↔ z_Y C zc_L_areAlike R 330 (p0 :: p1 :: p2 :: bb_I x :: t) st T := Iff.trans (z_Y_at (cd := zc_L_areAlike) (pc := 329) (zo_istore 3 330) rfl) (Iff.of_eq rfl)
set_option maxRecDepth 20000 in
theorem ze_L_areAlike_330 {p0 p1 p2 p3 : bb_V} {x : Int32} {t : List bb_V} : z_Y C zc_L_areAlike R 330 (p0 :: p1 :: p2 :: p3 :: bb_I x :: t) st T ↔ z_Y C zc_L_areAlike R 333 (p0 :: p1 :: p2 :: p3 :: bb_I (x + 1) :: t) st T := Iff.trans (z_Y_at (cd := zc_L_areAlike) (pc := 330) (zo_iinc 4 1 333) rfl) (Iff.of_eq rfl)
set_option maxRecDepth 20000 in
theorem ze_L_areAlike_333  : z_Y C zc_L_areAlike R 333 ls st T ↔ z_Y C zc_L_areAlike R 273 ls st T := Iff.trans (z_Y_at (cd := zc_L_areAlike) (pc := 333) (zo_goto 273) rfl) (Iff.of_eq rfl)
set_option maxRecDepth 20000 in
theorem ze_L_areAlike_336 {p0 p1 p2 : bb_V} {x : Int32} {t : List bb_V} : z_Y C zc_L_areAlike R 336 (p0 :: p1 :: p2 :: bb_I x :: t) st T ↔ z_Y C zc_L_areAlike R 337 (p0 :: p1 :: p2 :: bb_I x :: t) (bb_I x :: st) T := Iff.trans (z_Y_at (cd := zc_L_areAlike) (pc := 336) (zo_iload 3 337) rfl) (Iff.of_eq rfl)
set_option maxRecDepth 20000 in
theorem ze_L_areAlike_337 {a : Int32} : z_Y C zc_L_areAlike R 337 ls (bb_I a :: st) T ↔ (if a = 0 then z_Y C zc_L_areAlike R 361 ls st T else z_Y C zc_L_areAlike R 340 ls st T) := Iff.trans (z_Y_at (cd := zc_L_areAlike) (pc := 337) (zo_ifeq 361 340) rfl) (Iff.of_eq z_do_ite)
set_option maxRecDepth 20000 in
theorem ze_L_areAlike_340 {k j : Nat} {t : List bb_V} : z_Y C zc_L_areAlike R 340 (bb_R k j :: t) st T ↔ z_Y C zc_L_areAlike R 341 (bb_R k j :: t) (bb_R k j :: st) T := Iff.trans (z_Y_at (cd := zc_L_areAlike) (pc := 340) (zo_aload 0 341) rfl) (Iff.of_eq rfl)
set_option maxRecDepth 20000 in
theorem ze_L_areAlike_341  : z_Y C zc_L_areAlike R 341 ls st T ↔ z_Y C zc_L_areAlike R 342 ls (bb_I 3 :: st) T := Iff.trans (z_Y_at (cd := zc_L_areAlike) (pc := 341) (zo_const 3 342) rfl) (Iff.of_eq rfl)
set_option maxRecDepth 20000 in
theorem ze_L_areAlike_342  : z_Y C zc_L_areAlike R 342 ls st T ↔ z_Y C zc_L_areAlike R 344 ls (bb_I 11 :: st) T := Iff.trans (z_Y_at (cd := zc_L_areAlike) (pc := 342) (zo_const 11 344) rfl) (Iff.of_eq rfl)
set_option maxRecDepth 20000 in
theorem ze_L_areAlike_344 {x1 : Int32} {x2 : Int32} : z_Y C zc_L_areAlike R 344 ls (bb_I x2 :: bb_I x1 :: bb_R 40 0 :: []) T ↔ z_call C 33 [bb_R 40 0, bb_I x1, bb_I x2] T (fun r T2 => z_Y C zc_L_areAlike R 347 ls (bb_I r :: []) T2) := Iff.trans (z_Y_at (cd := zc_L_areAlike) (pc := 344) (zo_callv 33 3 347) rfl) ((zq_callv_3 (by decide) (by decide)).trans ⟨fun h => h.2, fun h => ⟨Nat.le_of_ble_eq_true rfl, h⟩⟩)
set_option maxRecDepth 20000 in
theorem ze_L_areAlike_347 {p0 : bb_V} {k j : Nat} {t : List bb_V} : z_Y C zc_L_areAlike R 347 (p0 :: bb_R k j :: t) st T ↔ z_Y C zc_L_areAlike R 348 (p0 :: bb_R k j :: t) (bb_R k j :: st) T := Iff.trans (z_Y_at (cd := zc_L_areAlike) (pc := 347) (zo_aload 1 348) rfl) (Iff.of_eq rfl)
set_option maxRecDepth 20000 in
theorem ze_L_areAlike_348  : z_Y C zc_L_areAlike R 348 ls st T ↔ z_Y C zc_L_areAlike R 349 ls (bb_I 3 :: st) T := Iff.trans (z_Y_at (cd := zc_L_areAlike) (pc := 348) (zo_const 3 349) rfl) (Iff.of_eq rfl)
set_option maxRecDepth 20000 in
theorem ze_L_areAlike_349  : z_Y C zc_L_areAlike R 349 ls st T ↔ z_Y C zc_L_areAlike R 351 ls (bb_I 11 :: st) T := Iff.trans (z_Y_at (cd := zc_L_areAlike) (pc := 349) (zo_const 11 351) rfl) (Iff.of_eq rfl)
set_option maxRecDepth 20000 in
theorem ze_L_areAlike_351 {x1 : Int32} {x2 : Int32} {z0 : Int32} : z_Y C zc_L_areAlike R 351 ls (bb_I x2 :: bb_I x1 :: bb_R 41 0 :: [bb_I z0]) T ↔ z_call C 33 [bb_R 41 0, bb_I x1, bb_I x2] T (fun r T2 => z_Y C zc_L_areAlike R 354 ls (bb_I r :: [bb_I z0]) T2) := Iff.trans (z_Y_at (cd := zc_L_areAlike) (pc := 351) (zo_callv 33 3 354) rfl) ((zq_callv_3 (by decide) (by decide)).trans ⟨fun h => h.2, fun h => ⟨Nat.le_of_ble_eq_true rfl, h⟩⟩)
set_option maxRecDepth 20000 in
theorem ze_L_areAlike_354 {a b : Int32} : z_Y C zc_L_areAlike R 354 ls (bb_I b :: bb_I a :: st) T ↔ (if a ≠ b then z_Y C zc_L_areAlike R 361 ls st T else z_Y C zc_L_areAlike R 357 ls st T) := Iff.trans (z_Y_at (cd := zc_L_areAlike) (pc := 354) (zo_icne 361 357) rfl) (Iff.of_eq z_do_ite)
set_option maxRecDepth 20000 in
theorem ze_L_areAlike_357  : z_Y C zc_L_areAlike R 357 ls st T ↔ z_Y C zc_L_areAlike R 358 ls (bb_I 1 :: st) T := Iff.trans (z_Y_at (cd := zc_L_areAlike) (pc := 357) (zo_const 1 358) rfl) (Iff.of_eq rfl)
set_option maxRecDepth 20000 in
theorem ze_L_areAlike_358  : z_Y C zc_L_areAlike R 358 ls st T ↔ z_Y C zc_L_areAlike R 362 ls st T := Iff.trans (z_Y_at (cd := zc_L_areAlike) (pc := 358) (zo_goto 362) rfl) (Iff.of_eq rfl)
set_option maxRecDepth 20000 in
theorem ze_L_areAlike_361  : z_Y C zc_L_areAlike R 361 ls st T ↔ z_Y C zc_L_areAlike R 362 ls (bb_I 0 :: st) T := Iff.trans (z_Y_at (cd := zc_L_areAlike) (pc := 361) (zo_const 0 362) rfl) (Iff.of_eq rfl)
set_option maxRecDepth 20000 in
theorem ze_L_areAlike_362 {v : Int32} : z_Y C zc_L_areAlike R 362 ls [bb_I v] T ↔ ((v = 0 ∨ v = 1) ∧ R v T) := Iff.trans (z_Y_at (cd := zc_L_areAlike) (pc := 362) (zo_zret) rfl) (zq_zret)
end EL
section EL
variable {C : z_C} {R : z_P} {T : z_T} {ls st : List bb_V}
theorem ze_L_isWell_0  : z_Y C zc_L_isWell R 0 ls st T ↔ z_Y C zc_L_isWell R 1 ls (bb_I 0 :: st) T := Iff.trans (z_Y_at (cd := zc_L_isWell) (pc := 0) (zo_const 0 1) rfl) (Iff.of_eq rfl)
theorem ze_L_isWell_1 {p0 : bb_V} {x : Int32} {q : bb_V} {t : List bb_V} : z_Y C zc_L_isWell R 1 (p0 :: q :: t) (bb_I x :: st) T ↔ z_Y C zc_L_isWell R 2 (p0 :: bb_I x :: t) st T := Iff.trans (z_Y_at (cd := zc_L_isWell) (pc := 1) (zo_istore 1 2) rfl) (Iff.of_eq rfl)
theorem ze_L_isWell_2  : z_Y C zc_L_isWell R 2 ls st T ↔ z_Y C zc_L_isWell R 3 ls (bb_I 0 :: st) T := Iff.trans (z_Y_at (cd := zc_L_isWell) (pc := 2) (zo_const 0 3) rfl) (Iff.of_eq rfl)
theorem ze_L_isWell_3 {p0 p1 : bb_V} {x : Int32} {q : bb_V} {t : List bb_V} : z_Y C zc_L_isWell R 3 (p0 :: p1 :: q :: t) (bb_I x :: st) T ↔ z_Y C zc_L_isWell R 4 (p0 :: p1 :: bb_I x :: t) st T := Iff.trans (z_Y_at (cd := zc_L_isWell) (pc := 3) (zo_istore 2 4) rfl) (Iff.of_eq rfl)
theorem ze_L_isWell_4  : z_Y C zc_L_isWell R 4 ls st T ↔ z_Y C zc_L_isWell R 5 ls (bb_I 0 :: st) T := Iff.trans (z_Y_at (cd := zc_L_isWell) (pc := 4) (zo_const 0 5) rfl) (Iff.of_eq rfl)
theorem ze_L_isWell_5 {p0 p1 p2 : bb_V} {x : Int32} {q : bb_V} {t : List bb_V} : z_Y C zc_L_isWell R 5 (p0 :: p1 :: p2 :: q :: t) (bb_I x :: st) T ↔ z_Y C zc_L_isWell R 6 (p0 :: p1 :: p2 :: bb_I x :: t) st T := Iff.trans (z_Y_at (cd := zc_L_isWell) (pc := 5) (zo_istore 3 6) rfl) (Iff.of_eq rfl)
theorem ze_L_isWell_6  : z_Y C zc_L_isWell R 6 ls st T ↔ z_Y C zc_L_isWell R 7 ls (bb_I 0 :: st) T := Iff.trans (z_Y_at (cd := zc_L_isWell) (pc := 6) (zo_const 0 7) rfl) (Iff.of_eq rfl)
theorem ze_L_isWell_7 {p0 p1 p2 p3 : bb_V} {x : Int32} {q : bb_V} {t : List bb_V} : z_Y C zc_L_isWell R 7 (p0 :: p1 :: p2 :: p3 :: q :: t) (bb_I x :: st) T ↔ z_Y C zc_L_isWell R 9 (p0 :: p1 :: p2 :: p3 :: bb_I x :: t) st T := Iff.trans (z_Y_at (cd := zc_L_isWell) (pc := 7) (zo_istore 4 9) rfl) (Iff.of_eq rfl)
theorem ze_L_isWell_9  : z_Y C zc_L_isWell R 9 ls st T ↔ z_Y C zc_L_isWell R 10 ls (bb_I 1 :: st) T := Iff.trans (z_Y_at (cd := zc_L_isWell) (pc := 9) (zo_const 1 10) rfl) (Iff.of_eq rfl)
theorem ze_L_isWell_10 {p0 p1 p2 p3 p4 : bb_V} {x : Int32} {q : bb_V} {t : List bb_V} : z_Y C zc_L_isWell R 10 (p0 :: p1 :: p2 :: p3 :: p4 :: q :: t) (bb_I x :: st) T ↔ z_Y C zc_L_isWell R 12 (p0 :: p1 :: p2 :: p3 :: p4 :: bb_I x :: t) st T := Iff.trans (z_Y_at (cd := zc_L_isWell) (pc := 10) (zo_istore 5 12) rfl) (Iff.of_eq rfl)
theorem ze_L_isWell_12  : z_Y C zc_L_isWell R 12 ls st T ↔ z_Y C zc_L_isWell R 13 ls (bb_I 0 :: st) T := Iff.trans (z_Y_at (cd := zc_L_isWell) (pc := 12) (zo_const 0 13) rfl) (Iff.of_eq rfl)
theorem ze_L_isWell_13 {p0 p1 p2 p3 p4 p5 : bb_V} {x : Int32} {q : bb_V} {t : List bb_V} : z_Y C zc_L_isWell R 13 (p0 :: p1 :: p2 :: p3 :: p4 :: p5 :: q :: t) (bb_I x :: st) T ↔ z_Y C zc_L_isWell R 15 (p0 :: p1 :: p2 :: p3 :: p4 :: p5 :: bb_I x :: t) st T := Iff.trans (z_Y_at (cd := zc_L_isWell) (pc := 13) (zo_istore 6 15) rfl) (Iff.of_eq rfl)
theorem zh_L_isWell_15 {p0 p1 p2 p3 p4 p5 : bb_V} {x : Int32} {t : List bb_V} : z_Y C zc_L_isWell R 15 (p0 :: p1 :: p2 :: p3 :: p4 :: p5 :: bb_I x :: t) st T ↔ z_Y C zc_L_isWell R 17 (p0 :: p1 :: p2 :: p3 :: p4 :: p5 :: bb_I x :: t) (bb_I x :: st) T := Iff.trans (z_Y_at (cd := zc_L_isWell) (pc := 15) (zo_iload 6 17) rfl) (Iff.of_eq rfl)
theorem ze_L_isWell_17  : z_Y C zc_L_isWell R 17 ls st T ↔ z_Y C zc_L_isWell R 18 ls (bb_I 4 :: st) T := Iff.trans (z_Y_at (cd := zc_L_isWell) (pc := 17) (zo_const 4 18) rfl) (Iff.of_eq rfl)
theorem ze_L_isWell_18 {a b : Int32} : z_Y C zc_L_isWell R 18 ls (bb_I b :: bb_I a :: st) T ↔ (if b ≤ a then z_Y C zc_L_isWell R 526 ls st T else z_Y C zc_L_isWell R 21 ls st T) := Iff.trans (z_Y_at (cd := zc_L_isWell) (pc := 18) (zo_icge 526 21) rfl) (Iff.of_eq z_do_ite)
theorem ze_L_isWell_21 {p0 p1 p2 p3 p4 : bb_V} {x : Int32} {t : List bb_V} : z_Y C zc_L_isWell R 21 (p0 :: p1 :: p2 :: p3 :: p4 :: bb_I x :: t) st T ↔ z_Y C zc_L_isWell R 23 (p0 :: p1 :: p2 :: p3 :: p4 :: bb_I x :: t) (bb_I x :: st) T := Iff.trans (z_Y_at (cd := zc_L_isWell) (pc := 21) (zo_iload 5 23) rfl) (Iff.of_eq rfl)
theorem ze_L_isWell_23 {a : Int32} : z_Y C zc_L_isWell R 23 ls (bb_I a :: st) T ↔ (if a = 0 then z_Y C zc_L_isWell R 526 ls st T else z_Y C zc_L_isWell R 26 ls st T) := Iff.trans (z_Y_at (cd := zc_L_isWell) (pc := 23) (zo_ifeq 526 26) rfl) (Iff.of_eq z_do_ite)
theorem ze_L_isWell_26  : z_Y C zc_L_isWell R 26 ls st T ↔ z_Y C zc_L_isWell R 27 ls (bb_I 0 :: st) T := Iff.trans (z_Y_at (cd := zc_L_isWell) (pc := 26) (zo_const 0 27) rfl) (Iff.of_eq rfl)
theorem ze_L_isWell_27 {p0 p1 p2 p3 p4 p5 p6 : bb_V} {x : Int32} {q : bb_V} {t : List bb_V} : z_Y C zc_L_isWell R 27 (p0 :: p1 :: p2 :: p3 :: p4 :: p5 :: p6 :: q :: t) (bb_I x :: st) T ↔ z_Y C zc_L_isWell R 29 (p0 :: p1 :: p2 :: p3 :: p4 :: p5 :: p6 :: bb_I x :: t) st T := Iff.trans (z_Y_at (cd := zc_L_isWell) (pc := 27) (zo_istore 7 29) rfl) (Iff.of_eq rfl)
theorem ze_L_isWell_29  : z_Y C zc_L_isWell R 29 ls st T ↔ z_Y C zc_L_isWell R 32 ls (bb_I (-1005) :: st) T := Iff.trans (z_Y_at (cd := zc_L_isWell) (pc := 29) (zo_const (-1005) 32) rfl) (Iff.of_eq rfl)
theorem ze_L_isWell_32 {p0 p1 p2 p3 p4 p5 p6 p7 : bb_V} {x : Int32} {q : bb_V} {t : List bb_V} : z_Y C zc_L_isWell R 32 (p0 :: p1 :: p2 :: p3 :: p4 :: p5 :: p6 :: p7 :: q :: t) (bb_I x :: st) T ↔ z_Y C zc_L_isWell R 34 (p0 :: p1 :: p2 :: p3 :: p4 :: p5 :: p6 :: p7 :: bb_I x :: t) st T := Iff.trans (z_Y_at (cd := zc_L_isWell) (pc := 32) (zo_istore 8 34) rfl) (Iff.of_eq rfl)
theorem ze_L_isWell_34  : z_Y C zc_L_isWell R 34 ls st T ↔ z_Y C zc_L_isWell R 35 ls (bb_I 0 :: st) T := Iff.trans (z_Y_at (cd := zc_L_isWell) (pc := 34) (zo_const 0 35) rfl) (Iff.of_eq rfl)
theorem ze_L_isWell_35 {p0 p1 p2 p3 p4 p5 p6 p7 p8 : bb_V} {x : Int32} {q : bb_V} {t : List bb_V} : z_Y C zc_L_isWell R 35 (p0 :: p1 :: p2 :: p3 :: p4 :: p5 :: p6 :: p7 :: p8 :: q :: t) (bb_I x :: st) T ↔ z_Y C zc_L_isWell R 37 (p0 :: p1 :: p2 :: p3 :: p4 :: p5 :: p6 :: p7 :: p8 :: bb_I x :: t) st T := Iff.trans (z_Y_at (cd := zc_L_isWell) (pc := 35) (zo_istore 9 37) rfl) (Iff.of_eq rfl)
theorem zh_L_isWell_37 {p0 p1 p2 p3 p4 p5 p6 p7 p8 : bb_V} {x : Int32} {t : List bb_V} : z_Y C zc_L_isWell R 37 (p0 :: p1 :: p2 :: p3 :: p4 :: p5 :: p6 :: p7 :: p8 :: bb_I x :: t) st T ↔ z_Y C zc_L_isWell R 39 (p0 :: p1 :: p2 :: p3 :: p4 :: p5 :: p6 :: p7 :: p8 :: bb_I x :: t) (bb_I x :: st) T := Iff.trans (z_Y_at (cd := zc_L_isWell) (pc := 37) (zo_iload 9 39) rfl) (Iff.of_eq rfl)
theorem ze_L_isWell_39  : z_Y C zc_L_isWell R 39 ls st T ↔ z_Y C zc_L_isWell R 41 ls (bb_I 20 :: st) T := Iff.trans (z_Y_at (cd := zc_L_isWell) (pc := 39) (zo_const 20 41) rfl) (Iff.of_eq rfl)
theorem ze_L_isWell_41 {a b : Int32} : z_Y C zc_L_isWell R 41 ls (bb_I b :: bb_I a :: st) T ↔ (if b ≤ a then z_Y C zc_L_isWell R 442 ls st T else z_Y C zc_L_isWell R 44 ls st T) := Iff.trans (z_Y_at (cd := zc_L_isWell) (pc := 41) (zo_icge 442 44) rfl) (Iff.of_eq z_do_ite)
theorem ze_L_isWell_44 {p0 p1 p2 p3 p4 : bb_V} {x : Int32} {t : List bb_V} : z_Y C zc_L_isWell R 44 (p0 :: p1 :: p2 :: p3 :: p4 :: bb_I x :: t) st T ↔ z_Y C zc_L_isWell R 46 (p0 :: p1 :: p2 :: p3 :: p4 :: bb_I x :: t) (bb_I x :: st) T := Iff.trans (z_Y_at (cd := zc_L_isWell) (pc := 44) (zo_iload 5 46) rfl) (Iff.of_eq rfl)
theorem ze_L_isWell_46 {a : Int32} : z_Y C zc_L_isWell R 46 ls (bb_I a :: st) T ↔ (if a = 0 then z_Y C zc_L_isWell R 442 ls st T else z_Y C zc_L_isWell R 49 ls st T) := Iff.trans (z_Y_at (cd := zc_L_isWell) (pc := 46) (zo_ifeq 442 49) rfl) (Iff.of_eq z_do_ite)
theorem ze_L_isWell_49 {k j : Nat} {t : List bb_V} : z_Y C zc_L_isWell R 49 (bb_R k j :: t) st T ↔ z_Y C zc_L_isWell R 50 (bb_R k j :: t) (bb_R k j :: st) T := Iff.trans (z_Y_at (cd := zc_L_isWell) (pc := 49) (zo_aload 0 50) rfl) (Iff.of_eq rfl)
theorem ze_L_isWell_50 {p0 p1 p2 p3 p4 p5 : bb_V} {x : Int32} {t : List bb_V} : z_Y C zc_L_isWell R 50 (p0 :: p1 :: p2 :: p3 :: p4 :: p5 :: bb_I x :: t) st T ↔ z_Y C zc_L_isWell R 52 (p0 :: p1 :: p2 :: p3 :: p4 :: p5 :: bb_I x :: t) (bb_I x :: st) T := Iff.trans (z_Y_at (cd := zc_L_isWell) (pc := 50) (zo_iload 6 52) rfl) (Iff.of_eq rfl)
theorem ze_L_isWell_52 {p0 p1 p2 p3 p4 p5 p6 p7 p8 : bb_V} {x : Int32} {t : List bb_V} : z_Y C zc_L_isWell R 52 (p0 :: p1 :: p2 :: p3 :: p4 :: p5 :: p6 :: p7 :: p8 :: bb_I x :: t) st T ↔ z_Y C zc_L_isWell R 54 (p0 :: p1 :: p2 :: p3 :: p4 :: p5 :: p6 :: p7 :: p8 :: bb_I x :: t) (bb_I x :: st) T := Iff.trans (z_Y_at (cd := zc_L_isWell) (pc := 52) (zo_iload 9 54) rfl) (Iff.of_eq rfl)
theorem ze_L_isWell_54  : z_Y C zc_L_isWell R 54 ls st T ↔ z_Y C zc_L_isWell R 55 ls (bb_I 0 :: st) T := Iff.trans (z_Y_at (cd := zc_L_isWell) (pc := 54) (zo_const 0 55) rfl) (Iff.of_eq rfl)
theorem ze_L_isWell_55 {x1 : Int32} {x2 : Int32} {x3 : Int32} : z_Y C zc_L_isWell R 55 ls (bb_I x3 :: bb_I x2 :: bb_I x1 :: bb_R 40 0 :: []) T ↔ z_call C 28 [bb_R 40 0, bb_I x1, bb_I x2, bb_I x3] T (fun r T2 => z_Y C zc_L_isWell R 58 ls (bb_I r :: []) T2) := Iff.trans (z_Y_at (cd := zc_L_isWell) (pc := 55) (zo_callv 28 4 58) rfl) ((zq_callv_4 (by decide) (by decide)).trans ⟨fun h => h.2, fun h => ⟨Nat.le_of_ble_eq_true rfl, h⟩⟩)
theorem ze_L_isWell_58 {p0 p1 p2 p3 p4 p5 p6 p7 p8 p9 : bb_V} {x : Int32} {q : bb_V} {t : List bb_V} : z_Y C zc_L_isWell R 58 (p0 :: p1 :: p2 :: p3 :: p4 :: p5 :: p6 :: p7 :: p8 :: p9 :: q :: t) (bb_I x :: st) T ↔ z_Y C zc_L_isWell R 60 (p0 :: p1 :: p2 :: p3 :: p4 :: p5 :: p6 :: p7 :: p8 :: p9 :: bb_I x :: t) st T := Iff.trans (z_Y_at (cd := zc_L_isWell) (pc := 58) (zo_istore 10 60) rfl) (Iff.of_eq rfl)
theorem ze_L_isWell_60 {k j : Nat} {t : List bb_V} : z_Y C zc_L_isWell R 60 (bb_R k j :: t) st T ↔ z_Y C zc_L_isWell R 61 (bb_R k j :: t) (bb_R k j :: st) T := Iff.trans (z_Y_at (cd := zc_L_isWell) (pc := 60) (zo_aload 0 61) rfl) (Iff.of_eq rfl)
theorem ze_L_isWell_61 {p0 p1 p2 p3 p4 p5 : bb_V} {x : Int32} {t : List bb_V} : z_Y C zc_L_isWell R 61 (p0 :: p1 :: p2 :: p3 :: p4 :: p5 :: bb_I x :: t) st T ↔ z_Y C zc_L_isWell R 63 (p0 :: p1 :: p2 :: p3 :: p4 :: p5 :: bb_I x :: t) (bb_I x :: st) T := Iff.trans (z_Y_at (cd := zc_L_isWell) (pc := 61) (zo_iload 6 63) rfl) (Iff.of_eq rfl)
theorem ze_L_isWell_63 {p0 p1 p2 p3 p4 p5 p6 p7 p8 : bb_V} {x : Int32} {t : List bb_V} : z_Y C zc_L_isWell R 63 (p0 :: p1 :: p2 :: p3 :: p4 :: p5 :: p6 :: p7 :: p8 :: bb_I x :: t) st T ↔ z_Y C zc_L_isWell R 65 (p0 :: p1 :: p2 :: p3 :: p4 :: p5 :: p6 :: p7 :: p8 :: bb_I x :: t) (bb_I x :: st) T := Iff.trans (z_Y_at (cd := zc_L_isWell) (pc := 63) (zo_iload 9 65) rfl) (Iff.of_eq rfl)
theorem ze_L_isWell_65  : z_Y C zc_L_isWell R 65 ls st T ↔ z_Y C zc_L_isWell R 66 ls (bb_I 2 :: st) T := Iff.trans (z_Y_at (cd := zc_L_isWell) (pc := 65) (zo_const 2 66) rfl) (Iff.of_eq rfl)
theorem ze_L_isWell_66 {x1 : Int32} {x2 : Int32} {x3 : Int32} : z_Y C zc_L_isWell R 66 ls (bb_I x3 :: bb_I x2 :: bb_I x1 :: bb_R 40 0 :: []) T ↔ z_call C 28 [bb_R 40 0, bb_I x1, bb_I x2, bb_I x3] T (fun r T2 => z_Y C zc_L_isWell R 69 ls (bb_I r :: []) T2) := Iff.trans (z_Y_at (cd := zc_L_isWell) (pc := 66) (zo_callv 28 4 69) rfl) ((zq_callv_4 (by decide) (by decide)).trans ⟨fun h => h.2, fun h => ⟨Nat.le_of_ble_eq_true rfl, h⟩⟩)
theorem ze_L_isWell_69  : z_Y C zc_L_isWell R 69 ls st T ↔ z_Y C zc_L_isWell R 70 ls (bb_I 1 :: st) T := Iff.trans (z_Y_at (cd := zc_L_isWell) (pc := 69) (zo_const 1 70) rfl) (Iff.of_eq rfl)
theorem ze_L_isWell_70 {a b : Int32} : z_Y C zc_L_isWell R 70 ls (bb_I b :: bb_I a :: st) T ↔ (if a ≠ b then z_Y C zc_L_isWell R 77 ls st T else z_Y C zc_L_isWell R 73 ls st T) := Iff.trans (z_Y_at (cd := zc_L_isWell) (pc := 70) (zo_icne 77 73) rfl) (Iff.of_eq z_do_ite)
theorem ze_L_isWell_73  : z_Y C zc_L_isWell R 73 ls st T ↔ z_Y C zc_L_isWell R 74 ls (bb_I 1 :: st) T := Iff.trans (z_Y_at (cd := zc_L_isWell) (pc := 73) (zo_const 1 74) rfl) (Iff.of_eq rfl)
theorem ze_L_isWell_74  : z_Y C zc_L_isWell R 74 ls st T ↔ z_Y C zc_L_isWell R 78 ls st T := Iff.trans (z_Y_at (cd := zc_L_isWell) (pc := 74) (zo_goto 78) rfl) (Iff.of_eq rfl)
theorem ze_L_isWell_77  : z_Y C zc_L_isWell R 77 ls st T ↔ z_Y C zc_L_isWell R 78 ls (bb_I 0 :: st) T := Iff.trans (z_Y_at (cd := zc_L_isWell) (pc := 77) (zo_const 0 78) rfl) (Iff.of_eq rfl)
theorem ze_L_isWell_78 {p0 p1 p2 p3 p4 p5 p6 p7 p8 p9 p10 : bb_V} {x : Int32} {q : bb_V} {t : List bb_V} : z_Y C zc_L_isWell R 78 (p0 :: p1 :: p2 :: p3 :: p4 :: p5 :: p6 :: p7 :: p8 :: p9 :: p10 :: q :: t) (bb_I x :: st) T ↔ z_Y C zc_L_isWell R 80 (p0 :: p1 :: p2 :: p3 :: p4 :: p5 :: p6 :: p7 :: p8 :: p9 :: p10 :: bb_I x :: t) st T := Iff.trans (z_Y_at (cd := zc_L_isWell) (pc := 78) (zo_istore 11 80) rfl) (Iff.of_eq rfl)
theorem ze_L_isWell_80 {k j : Nat} {t : List bb_V} : z_Y C zc_L_isWell R 80 (bb_R k j :: t) st T ↔ z_Y C zc_L_isWell R 81 (bb_R k j :: t) (bb_R k j :: st) T := Iff.trans (z_Y_at (cd := zc_L_isWell) (pc := 80) (zo_aload 0 81) rfl) (Iff.of_eq rfl)
theorem ze_L_isWell_81 {p0 p1 p2 p3 p4 p5 : bb_V} {x : Int32} {t : List bb_V} : z_Y C zc_L_isWell R 81 (p0 :: p1 :: p2 :: p3 :: p4 :: p5 :: bb_I x :: t) st T ↔ z_Y C zc_L_isWell R 83 (p0 :: p1 :: p2 :: p3 :: p4 :: p5 :: bb_I x :: t) (bb_I x :: st) T := Iff.trans (z_Y_at (cd := zc_L_isWell) (pc := 81) (zo_iload 6 83) rfl) (Iff.of_eq rfl)
theorem ze_L_isWell_83 {p0 p1 p2 p3 p4 p5 p6 p7 p8 : bb_V} {x : Int32} {t : List bb_V} : z_Y C zc_L_isWell R 83 (p0 :: p1 :: p2 :: p3 :: p4 :: p5 :: p6 :: p7 :: p8 :: bb_I x :: t) st T ↔ z_Y C zc_L_isWell R 85 (p0 :: p1 :: p2 :: p3 :: p4 :: p5 :: p6 :: p7 :: p8 :: bb_I x :: t) (bb_I x :: st) T := Iff.trans (z_Y_at (cd := zc_L_isWell) (pc := 83) (zo_iload 9 85) rfl) (Iff.of_eq rfl)
theorem ze_L_isWell_85  : z_Y C zc_L_isWell R 85 ls st T ↔ z_Y C zc_L_isWell R 86 ls (bb_I 3 :: st) T := Iff.trans (z_Y_at (cd := zc_L_isWell) (pc := 85) (zo_const 3 86) rfl) (Iff.of_eq rfl)
theorem ze_L_isWell_86 {x1 : Int32} {x2 : Int32} {x3 : Int32} : z_Y C zc_L_isWell R 86 ls (bb_I x3 :: bb_I x2 :: bb_I x1 :: bb_R 40 0 :: []) T ↔ z_call C 28 [bb_R 40 0, bb_I x1, bb_I x2, bb_I x3] T (fun r T2 => z_Y C zc_L_isWell R 89 ls (bb_I r :: []) T2) := Iff.trans (z_Y_at (cd := zc_L_isWell) (pc := 86) (zo_callv 28 4 89) rfl) ((zq_callv_4 (by decide) (by decide)).trans ⟨fun h => h.2, fun h => ⟨Nat.le_of_ble_eq_true rfl, h⟩⟩)
theorem ze_L_isWell_89  : z_Y C zc_L_isWell R 89 ls st T ↔ z_Y C zc_L_isWell R 90 ls (bb_I 1 :: st) T := Iff.trans (z_Y_at (cd := zc_L_isWell) (pc := 89) (zo_const 1 90) rfl) (Iff.of_eq rfl)
theorem ze_L_isWell_90 {a b : Int32} : z_Y C zc_L_isWell R 90 ls (bb_I b :: bb_I a :: st) T ↔ (if a ≠ b then z_Y C zc_L_isWell R 97 ls st T else z_Y C zc_L_isWell R 93 ls st T) := Iff.trans (z_Y_at (cd := zc_L_isWell) (pc := 90) (zo_icne 97 93) rfl) (Iff.of_eq z_do_ite)
theorem ze_L_isWell_93  : z_Y C zc_L_isWell R 93 ls st T ↔ z_Y C zc_L_isWell R 94 ls (bb_I 1 :: st) T := Iff.trans (z_Y_at (cd := zc_L_isWell) (pc := 93) (zo_const 1 94) rfl) (Iff.of_eq rfl)
theorem ze_L_isWell_94  : z_Y C zc_L_isWell R 94 ls st T ↔ z_Y C zc_L_isWell R 98 ls st T := Iff.trans (z_Y_at (cd := zc_L_isWell) (pc := 94) (zo_goto 98) rfl) (Iff.of_eq rfl)
theorem ze_L_isWell_97  : z_Y C zc_L_isWell R 97 ls st T ↔ z_Y C zc_L_isWell R 98 ls (bb_I 0 :: st) T := Iff.trans (z_Y_at (cd := zc_L_isWell) (pc := 97) (zo_const 0 98) rfl) (Iff.of_eq rfl)
theorem ze_L_isWell_98 {p0 p1 p2 p3 p4 p5 p6 p7 p8 p9 p10 p11 : bb_V} {x : Int32} {q : bb_V} {t : List bb_V} : z_Y C zc_L_isWell R 98 (p0 :: p1 :: p2 :: p3 :: p4 :: p5 :: p6 :: p7 :: p8 :: p9 :: p10 :: p11 :: q :: t) (bb_I x :: st) T ↔ z_Y C zc_L_isWell R 100 (p0 :: p1 :: p2 :: p3 :: p4 :: p5 :: p6 :: p7 :: p8 :: p9 :: p10 :: p11 :: bb_I x :: t) st T := Iff.trans (z_Y_at (cd := zc_L_isWell) (pc := 98) (zo_istore 12 100) rfl) (Iff.of_eq rfl)
theorem ze_L_isWell_100 {k j : Nat} {t : List bb_V} : z_Y C zc_L_isWell R 100 (bb_R k j :: t) st T ↔ z_Y C zc_L_isWell R 101 (bb_R k j :: t) (bb_R k j :: st) T := Iff.trans (z_Y_at (cd := zc_L_isWell) (pc := 100) (zo_aload 0 101) rfl) (Iff.of_eq rfl)
theorem ze_L_isWell_101 {p0 p1 p2 p3 p4 p5 : bb_V} {x : Int32} {t : List bb_V} : z_Y C zc_L_isWell R 101 (p0 :: p1 :: p2 :: p3 :: p4 :: p5 :: bb_I x :: t) st T ↔ z_Y C zc_L_isWell R 103 (p0 :: p1 :: p2 :: p3 :: p4 :: p5 :: bb_I x :: t) (bb_I x :: st) T := Iff.trans (z_Y_at (cd := zc_L_isWell) (pc := 101) (zo_iload 6 103) rfl) (Iff.of_eq rfl)
theorem ze_L_isWell_103 {p0 p1 p2 p3 p4 p5 p6 p7 p8 : bb_V} {x : Int32} {t : List bb_V} : z_Y C zc_L_isWell R 103 (p0 :: p1 :: p2 :: p3 :: p4 :: p5 :: p6 :: p7 :: p8 :: bb_I x :: t) st T ↔ z_Y C zc_L_isWell R 105 (p0 :: p1 :: p2 :: p3 :: p4 :: p5 :: p6 :: p7 :: p8 :: bb_I x :: t) (bb_I x :: st) T := Iff.trans (z_Y_at (cd := zc_L_isWell) (pc := 103) (zo_iload 9 105) rfl) (Iff.of_eq rfl)
theorem ze_L_isWell_105  : z_Y C zc_L_isWell R 105 ls st T ↔ z_Y C zc_L_isWell R 106 ls (bb_I 1 :: st) T := Iff.trans (z_Y_at (cd := zc_L_isWell) (pc := 105) (zo_const 1 106) rfl) (Iff.of_eq rfl)
theorem ze_L_isWell_106 {x1 : Int32} {x2 : Int32} {x3 : Int32} : z_Y C zc_L_isWell R 106 ls (bb_I x3 :: bb_I x2 :: bb_I x1 :: bb_R 40 0 :: []) T ↔ z_call C 28 [bb_R 40 0, bb_I x1, bb_I x2, bb_I x3] T (fun r T2 => z_Y C zc_L_isWell R 109 ls (bb_I r :: []) T2) := Iff.trans (z_Y_at (cd := zc_L_isWell) (pc := 106) (zo_callv 28 4 109) rfl) ((zq_callv_4 (by decide) (by decide)).trans ⟨fun h => h.2, fun h => ⟨Nat.le_of_ble_eq_true rfl, h⟩⟩)
theorem ze_L_isWell_109 {a : Int32} : z_Y C zc_L_isWell R 109 ls (bb_I a :: st) T ↔ (if 0 < a then z_Y C zc_L_isWell R 116 ls st T else z_Y C zc_L_isWell R 112 ls st T) := Iff.trans (z_Y_at (cd := zc_L_isWell) (pc := 109) (zo_ifgt 116 112) rfl) (Iff.of_eq z_do_ite)
theorem ze_L_isWell_112  : z_Y C zc_L_isWell R 112 ls st T ↔ z_Y C zc_L_isWell R 113 ls (bb_I 1 :: st) T := Iff.trans (z_Y_at (cd := zc_L_isWell) (pc := 112) (zo_const 1 113) rfl) (Iff.of_eq rfl)
theorem ze_L_isWell_113  : z_Y C zc_L_isWell R 113 ls st T ↔ z_Y C zc_L_isWell R 117 ls st T := Iff.trans (z_Y_at (cd := zc_L_isWell) (pc := 113) (zo_goto 117) rfl) (Iff.of_eq rfl)
theorem ze_L_isWell_116  : z_Y C zc_L_isWell R 116 ls st T ↔ z_Y C zc_L_isWell R 117 ls (bb_I 0 :: st) T := Iff.trans (z_Y_at (cd := zc_L_isWell) (pc := 116) (zo_const 0 117) rfl) (Iff.of_eq rfl)
theorem ze_L_isWell_117 {p0 p1 p2 p3 p4 p5 p6 p7 p8 p9 p10 p11 p12 : bb_V} {x : Int32} {q : bb_V} {t : List bb_V} : z_Y C zc_L_isWell R 117 (p0 :: p1 :: p2 :: p3 :: p4 :: p5 :: p6 :: p7 :: p8 :: p9 :: p10 :: p11 :: p12 :: q :: t) (bb_I x :: st) T ↔ z_Y C zc_L_isWell R 119 (p0 :: p1 :: p2 :: p3 :: p4 :: p5 :: p6 :: p7 :: p8 :: p9 :: p10 :: p11 :: p12 :: bb_I x :: t) st T := Iff.trans (z_Y_at (cd := zc_L_isWell) (pc := 117) (zo_istore 13 119) rfl) (Iff.of_eq rfl)
theorem ze_L_isWell_119 {p0 p1 p2 p3 p4 p5 : bb_V} {x : Int32} {t : List bb_V} : z_Y C zc_L_isWell R 119 (p0 :: p1 :: p2 :: p3 :: p4 :: p5 :: bb_I x :: t) st T ↔ z_Y C zc_L_isWell R 121 (p0 :: p1 :: p2 :: p3 :: p4 :: p5 :: bb_I x :: t) (bb_I x :: st) T := Iff.trans (z_Y_at (cd := zc_L_isWell) (pc := 119) (zo_iload 6 121) rfl) (Iff.of_eq rfl)
theorem ze_L_isWell_121 {a : Int32} : z_Y C zc_L_isWell R 121 ls (bb_I a :: st) T ↔ (if a ≤ 0 then z_Y C zc_L_isWell R 162 ls st T else z_Y C zc_L_isWell R 124 ls st T) := Iff.trans (z_Y_at (cd := zc_L_isWell) (pc := 121) (zo_ifle 162 124) rfl) (Iff.of_eq z_do_ite)
theorem ze_L_isWell_124 {k j : Nat} {t : List bb_V} : z_Y C zc_L_isWell R 124 (bb_R k j :: t) st T ↔ z_Y C zc_L_isWell R 125 (bb_R k j :: t) (bb_R k j :: st) T := Iff.trans (z_Y_at (cd := zc_L_isWell) (pc := 124) (zo_aload 0 125) rfl) (Iff.of_eq rfl)
theorem ze_L_isWell_125 {p0 p1 p2 p3 p4 p5 : bb_V} {x : Int32} {t : List bb_V} : z_Y C zc_L_isWell R 125 (p0 :: p1 :: p2 :: p3 :: p4 :: p5 :: bb_I x :: t) st T ↔ z_Y C zc_L_isWell R 127 (p0 :: p1 :: p2 :: p3 :: p4 :: p5 :: bb_I x :: t) (bb_I x :: st) T := Iff.trans (z_Y_at (cd := zc_L_isWell) (pc := 125) (zo_iload 6 127) rfl) (Iff.of_eq rfl)
theorem ze_L_isWell_127  : z_Y C zc_L_isWell R 127 ls st T ↔ z_Y C zc_L_isWell R 128 ls (bb_I 1 :: st) T := Iff.trans (z_Y_at (cd := zc_L_isWell) (pc := 127) (zo_const 1 128) rfl) (Iff.of_eq rfl)
theorem ze_L_isWell_128 {a b : Int32} : z_Y C zc_L_isWell R 128 ls (bb_I b :: bb_I a :: st) T ↔ z_Y C zc_L_isWell R 129 ls (bb_I (a - b) :: st) T := Iff.trans (z_Y_at (cd := zc_L_isWell) (pc := 128) (zo_isub 129) rfl) (Iff.of_eq rfl)
theorem ze_L_isWell_129 {p0 p1 p2 p3 p4 p5 p6 p7 p8 : bb_V} {x : Int32} {t : List bb_V} : z_Y C zc_L_isWell R 129 (p0 :: p1 :: p2 :: p3 :: p4 :: p5 :: p6 :: p7 :: p8 :: bb_I x :: t) st T ↔ z_Y C zc_L_isWell R 131 (p0 :: p1 :: p2 :: p3 :: p4 :: p5 :: p6 :: p7 :: p8 :: bb_I x :: t) (bb_I x :: st) T := Iff.trans (z_Y_at (cd := zc_L_isWell) (pc := 129) (zo_iload 9 131) rfl) (Iff.of_eq rfl)
theorem ze_L_isWell_131  : z_Y C zc_L_isWell R 131 ls st T ↔ z_Y C zc_L_isWell R 132 ls (bb_I 2 :: st) T := Iff.trans (z_Y_at (cd := zc_L_isWell) (pc := 131) (zo_const 2 132) rfl) (Iff.of_eq rfl)
theorem ze_L_isWell_132 {x1 : Int32} {x2 : Int32} {x3 : Int32} : z_Y C zc_L_isWell R 132 ls (bb_I x3 :: bb_I x2 :: bb_I x1 :: bb_R 40 0 :: []) T ↔ z_call C 28 [bb_R 40 0, bb_I x1, bb_I x2, bb_I x3] T (fun r T2 => z_Y C zc_L_isWell R 135 ls (bb_I r :: []) T2) := Iff.trans (z_Y_at (cd := zc_L_isWell) (pc := 132) (zo_callv 28 4 135) rfl) ((zq_callv_4 (by decide) (by decide)).trans ⟨fun h => h.2, fun h => ⟨Nat.le_of_ble_eq_true rfl, h⟩⟩)
theorem ze_L_isWell_135  : z_Y C zc_L_isWell R 135 ls st T ↔ z_Y C zc_L_isWell R 136 ls (bb_I 1 :: st) T := Iff.trans (z_Y_at (cd := zc_L_isWell) (pc := 135) (zo_const 1 136) rfl) (Iff.of_eq rfl)
theorem ze_L_isWell_136 {a b : Int32} : z_Y C zc_L_isWell R 136 ls (bb_I b :: bb_I a :: st) T ↔ (if a ≠ b then z_Y C zc_L_isWell R 162 ls st T else z_Y C zc_L_isWell R 139 ls st T) := Iff.trans (z_Y_at (cd := zc_L_isWell) (pc := 136) (zo_icne 162 139) rfl) (Iff.of_eq z_do_ite)
theorem ze_L_isWell_139 {k j : Nat} {t : List bb_V} : z_Y C zc_L_isWell R 139 (bb_R k j :: t) st T ↔ z_Y C zc_L_isWell R 140 (bb_R k j :: t) (bb_R k j :: st) T := Iff.trans (z_Y_at (cd := zc_L_isWell) (pc := 139) (zo_aload 0 140) rfl) (Iff.of_eq rfl)
theorem ze_L_isWell_140 {p0 p1 p2 p3 p4 p5 : bb_V} {x : Int32} {t : List bb_V} : z_Y C zc_L_isWell R 140 (p0 :: p1 :: p2 :: p3 :: p4 :: p5 :: bb_I x :: t) st T ↔ z_Y C zc_L_isWell R 142 (p0 :: p1 :: p2 :: p3 :: p4 :: p5 :: bb_I x :: t) (bb_I x :: st) T := Iff.trans (z_Y_at (cd := zc_L_isWell) (pc := 140) (zo_iload 6 142) rfl) (Iff.of_eq rfl)
theorem ze_L_isWell_142  : z_Y C zc_L_isWell R 142 ls st T ↔ z_Y C zc_L_isWell R 143 ls (bb_I 1 :: st) T := Iff.trans (z_Y_at (cd := zc_L_isWell) (pc := 142) (zo_const 1 143) rfl) (Iff.of_eq rfl)
theorem ze_L_isWell_143 {a b : Int32} : z_Y C zc_L_isWell R 143 ls (bb_I b :: bb_I a :: st) T ↔ z_Y C zc_L_isWell R 144 ls (bb_I (a - b) :: st) T := Iff.trans (z_Y_at (cd := zc_L_isWell) (pc := 143) (zo_isub 144) rfl) (Iff.of_eq rfl)
theorem ze_L_isWell_144 {p0 p1 p2 p3 p4 p5 p6 p7 p8 : bb_V} {x : Int32} {t : List bb_V} : z_Y C zc_L_isWell R 144 (p0 :: p1 :: p2 :: p3 :: p4 :: p5 :: p6 :: p7 :: p8 :: bb_I x :: t) st T ↔ z_Y C zc_L_isWell R 146 (p0 :: p1 :: p2 :: p3 :: p4 :: p5 :: p6 :: p7 :: p8 :: bb_I x :: t) (bb_I x :: st) T := Iff.trans (z_Y_at (cd := zc_L_isWell) (pc := 144) (zo_iload 9 146) rfl) (Iff.of_eq rfl)
theorem ze_L_isWell_146  : z_Y C zc_L_isWell R 146 ls st T ↔ z_Y C zc_L_isWell R 147 ls (bb_I 0 :: st) T := Iff.trans (z_Y_at (cd := zc_L_isWell) (pc := 146) (zo_const 0 147) rfl) (Iff.of_eq rfl)
theorem ze_L_isWell_147 {x1 : Int32} {x2 : Int32} {x3 : Int32} : z_Y C zc_L_isWell R 147 ls (bb_I x3 :: bb_I x2 :: bb_I x1 :: bb_R 40 0 :: []) T ↔ z_call C 28 [bb_R 40 0, bb_I x1, bb_I x2, bb_I x3] T (fun r T2 => z_Y C zc_L_isWell R 150 ls (bb_I r :: []) T2) := Iff.trans (z_Y_at (cd := zc_L_isWell) (pc := 147) (zo_callv 28 4 150) rfl) ((zq_callv_4 (by decide) (by decide)).trans ⟨fun h => h.2, fun h => ⟨Nat.le_of_ble_eq_true rfl, h⟩⟩)
theorem ze_L_isWell_150 {p0 p1 p2 p3 p4 p5 p6 p7 p8 p9 : bb_V} {x : Int32} {t : List bb_V} : z_Y C zc_L_isWell R 150 (p0 :: p1 :: p2 :: p3 :: p4 :: p5 :: p6 :: p7 :: p8 :: p9 :: bb_I x :: t) st T ↔ z_Y C zc_L_isWell R 152 (p0 :: p1 :: p2 :: p3 :: p4 :: p5 :: p6 :: p7 :: p8 :: p9 :: bb_I x :: t) (bb_I x :: st) T := Iff.trans (z_Y_at (cd := zc_L_isWell) (pc := 150) (zo_iload 10 152) rfl) (Iff.of_eq rfl)
theorem ze_L_isWell_152 {a b : Int32} : z_Y C zc_L_isWell R 152 ls (bb_I b :: bb_I a :: st) T ↔ z_Y C zc_L_isWell R 153 ls (bb_I (a - b) :: st) T := Iff.trans (z_Y_at (cd := zc_L_isWell) (pc := 152) (zo_isub 153) rfl) (Iff.of_eq rfl)
theorem ze_L_isWell_153 {k j : Nat} {t : List bb_V} : z_Y C zc_L_isWell R 153 (bb_R k j :: t) st T ↔ z_Y C zc_L_isWell R 154 (bb_R k j :: t) (bb_R k j :: st) T := Iff.trans (z_Y_at (cd := zc_L_isWell) (pc := 153) (zo_aload 0 154) rfl) (Iff.of_eq rfl)
theorem ze_L_isWell_154  : z_Y C zc_L_isWell R 154 ls st T ↔ z_Y C zc_L_isWell R 156 ls (bb_I 13 :: st) T := Iff.trans (z_Y_at (cd := zc_L_isWell) (pc := 154) (zo_const 13 156) rfl) (Iff.of_eq rfl)
theorem ze_L_isWell_156 {x1 : Int32} {z0 : Int32} : z_Y C zc_L_isWell R 156 ls (bb_I x1 :: bb_R 40 0 :: [bb_I z0]) T ↔ z_call C 34 [bb_R 40 0, bb_I x1] T (fun r T2 => z_Y C zc_L_isWell R 159 ls (bb_I r :: [bb_I z0]) T2) := Iff.trans (z_Y_at (cd := zc_L_isWell) (pc := 156) (zo_callv 34 2 159) rfl) ((zq_callv_2 (by decide) (by decide)).trans ⟨fun h => h.2, fun h => ⟨Nat.le_of_ble_eq_true rfl, h⟩⟩)
theorem ze_L_isWell_159 {a b : Int32} : z_Y C zc_L_isWell R 159 ls (bb_I b :: bb_I a :: st) T ↔ (if b ≤ a then z_Y C zc_L_isWell R 206 ls st T else z_Y C zc_L_isWell R 162 ls st T) := Iff.trans (z_Y_at (cd := zc_L_isWell) (pc := 159) (zo_icge 206 162) rfl) (Iff.of_eq z_do_ite)
theorem ze_L_isWell_162 {p0 p1 p2 p3 p4 p5 : bb_V} {x : Int32} {t : List bb_V} : z_Y C zc_L_isWell R 162 (p0 :: p1 :: p2 :: p3 :: p4 :: p5 :: bb_I x :: t) st T ↔ z_Y C zc_L_isWell R 164 (p0 :: p1 :: p2 :: p3 :: p4 :: p5 :: bb_I x :: t) (bb_I x :: st) T := Iff.trans (z_Y_at (cd := zc_L_isWell) (pc := 162) (zo_iload 6 164) rfl) (Iff.of_eq rfl)
theorem ze_L_isWell_164  : z_Y C zc_L_isWell R 164 ls st T ↔ z_Y C zc_L_isWell R 165 ls (bb_I 3 :: st) T := Iff.trans (z_Y_at (cd := zc_L_isWell) (pc := 164) (zo_const 3 165) rfl) (Iff.of_eq rfl)
theorem ze_L_isWell_165 {a b : Int32} : z_Y C zc_L_isWell R 165 ls (bb_I b :: bb_I a :: st) T ↔ (if b ≤ a then z_Y C zc_L_isWell R 210 ls st T else z_Y C zc_L_isWell R 168 ls st T) := Iff.trans (z_Y_at (cd := zc_L_isWell) (pc := 165) (zo_icge 210 168) rfl) (Iff.of_eq z_do_ite)
theorem ze_L_isWell_168 {k j : Nat} {t : List bb_V} : z_Y C zc_L_isWell R 168 (bb_R k j :: t) st T ↔ z_Y C zc_L_isWell R 169 (bb_R k j :: t) (bb_R k j :: st) T := Iff.trans (z_Y_at (cd := zc_L_isWell) (pc := 168) (zo_aload 0 169) rfl) (Iff.of_eq rfl)
theorem ze_L_isWell_169 {p0 p1 p2 p3 p4 p5 : bb_V} {x : Int32} {t : List bb_V} : z_Y C zc_L_isWell R 169 (p0 :: p1 :: p2 :: p3 :: p4 :: p5 :: bb_I x :: t) st T ↔ z_Y C zc_L_isWell R 171 (p0 :: p1 :: p2 :: p3 :: p4 :: p5 :: bb_I x :: t) (bb_I x :: st) T := Iff.trans (z_Y_at (cd := zc_L_isWell) (pc := 169) (zo_iload 6 171) rfl) (Iff.of_eq rfl)
theorem ze_L_isWell_171  : z_Y C zc_L_isWell R 171 ls st T ↔ z_Y C zc_L_isWell R 172 ls (bb_I 1 :: st) T := Iff.trans (z_Y_at (cd := zc_L_isWell) (pc := 171) (zo_const 1 172) rfl) (Iff.of_eq rfl)
theorem ze_L_isWell_172 {a b : Int32} : z_Y C zc_L_isWell R 172 ls (bb_I b :: bb_I a :: st) T ↔ z_Y C zc_L_isWell R 173 ls (bb_I (a + b) :: st) T := Iff.trans (z_Y_at (cd := zc_L_isWell) (pc := 172) (zo_iadd 173) rfl) (Iff.of_eq rfl)
theorem ze_L_isWell_173 {p0 p1 p2 p3 p4 p5 p6 p7 p8 : bb_V} {x : Int32} {t : List bb_V} : z_Y C zc_L_isWell R 173 (p0 :: p1 :: p2 :: p3 :: p4 :: p5 :: p6 :: p7 :: p8 :: bb_I x :: t) st T ↔ z_Y C zc_L_isWell R 175 (p0 :: p1 :: p2 :: p3 :: p4 :: p5 :: p6 :: p7 :: p8 :: bb_I x :: t) (bb_I x :: st) T := Iff.trans (z_Y_at (cd := zc_L_isWell) (pc := 173) (zo_iload 9 175) rfl) (Iff.of_eq rfl)
theorem ze_L_isWell_175  : z_Y C zc_L_isWell R 175 ls st T ↔ z_Y C zc_L_isWell R 176 ls (bb_I 2 :: st) T := Iff.trans (z_Y_at (cd := zc_L_isWell) (pc := 175) (zo_const 2 176) rfl) (Iff.of_eq rfl)
theorem ze_L_isWell_176 {x1 : Int32} {x2 : Int32} {x3 : Int32} : z_Y C zc_L_isWell R 176 ls (bb_I x3 :: bb_I x2 :: bb_I x1 :: bb_R 40 0 :: []) T ↔ z_call C 28 [bb_R 40 0, bb_I x1, bb_I x2, bb_I x3] T (fun r T2 => z_Y C zc_L_isWell R 179 ls (bb_I r :: []) T2) := Iff.trans (z_Y_at (cd := zc_L_isWell) (pc := 176) (zo_callv 28 4 179) rfl) ((zq_callv_4 (by decide) (by decide)).trans ⟨fun h => h.2, fun h => ⟨Nat.le_of_ble_eq_true rfl, h⟩⟩)
theorem ze_L_isWell_179  : z_Y C zc_L_isWell R 179 ls st T ↔ z_Y C zc_L_isWell R 180 ls (bb_I 1 :: st) T := Iff.trans (z_Y_at (cd := zc_L_isWell) (pc := 179) (zo_const 1 180) rfl) (Iff.of_eq rfl)
theorem ze_L_isWell_180 {a b : Int32} : z_Y C zc_L_isWell R 180 ls (bb_I b :: bb_I a :: st) T ↔ (if a ≠ b then z_Y C zc_L_isWell R 210 ls st T else z_Y C zc_L_isWell R 183 ls st T) := Iff.trans (z_Y_at (cd := zc_L_isWell) (pc := 180) (zo_icne 210 183) rfl) (Iff.of_eq z_do_ite)
theorem ze_L_isWell_183 {k j : Nat} {t : List bb_V} : z_Y C zc_L_isWell R 183 (bb_R k j :: t) st T ↔ z_Y C zc_L_isWell R 184 (bb_R k j :: t) (bb_R k j :: st) T := Iff.trans (z_Y_at (cd := zc_L_isWell) (pc := 183) (zo_aload 0 184) rfl) (Iff.of_eq rfl)
theorem ze_L_isWell_184 {p0 p1 p2 p3 p4 p5 : bb_V} {x : Int32} {t : List bb_V} : z_Y C zc_L_isWell R 184 (p0 :: p1 :: p2 :: p3 :: p4 :: p5 :: bb_I x :: t) st T ↔ z_Y C zc_L_isWell R 186 (p0 :: p1 :: p2 :: p3 :: p4 :: p5 :: bb_I x :: t) (bb_I x :: st) T := Iff.trans (z_Y_at (cd := zc_L_isWell) (pc := 184) (zo_iload 6 186) rfl) (Iff.of_eq rfl)
theorem ze_L_isWell_186  : z_Y C zc_L_isWell R 186 ls st T ↔ z_Y C zc_L_isWell R 187 ls (bb_I 1 :: st) T := Iff.trans (z_Y_at (cd := zc_L_isWell) (pc := 186) (zo_const 1 187) rfl) (Iff.of_eq rfl)
theorem ze_L_isWell_187 {a b : Int32} : z_Y C zc_L_isWell R 187 ls (bb_I b :: bb_I a :: st) T ↔ z_Y C zc_L_isWell R 188 ls (bb_I (a + b) :: st) T := Iff.trans (z_Y_at (cd := zc_L_isWell) (pc := 187) (zo_iadd 188) rfl) (Iff.of_eq rfl)
theorem ze_L_isWell_188 {p0 p1 p2 p3 p4 p5 p6 p7 p8 : bb_V} {x : Int32} {t : List bb_V} : z_Y C zc_L_isWell R 188 (p0 :: p1 :: p2 :: p3 :: p4 :: p5 :: p6 :: p7 :: p8 :: bb_I x :: t) st T ↔ z_Y C zc_L_isWell R 190 (p0 :: p1 :: p2 :: p3 :: p4 :: p5 :: p6 :: p7 :: p8 :: bb_I x :: t) (bb_I x :: st) T := Iff.trans (z_Y_at (cd := zc_L_isWell) (pc := 188) (zo_iload 9 190) rfl) (Iff.of_eq rfl)
theorem ze_L_isWell_190  : z_Y C zc_L_isWell R 190 ls st T ↔ z_Y C zc_L_isWell R 191 ls (bb_I 0 :: st) T := Iff.trans (z_Y_at (cd := zc_L_isWell) (pc := 190) (zo_const 0 191) rfl) (Iff.of_eq rfl)
theorem ze_L_isWell_191 {x1 : Int32} {x2 : Int32} {x3 : Int32} : z_Y C zc_L_isWell R 191 ls (bb_I x3 :: bb_I x2 :: bb_I x1 :: bb_R 40 0 :: []) T ↔ z_call C 28 [bb_R 40 0, bb_I x1, bb_I x2, bb_I x3] T (fun r T2 => z_Y C zc_L_isWell R 194 ls (bb_I r :: []) T2) := Iff.trans (z_Y_at (cd := zc_L_isWell) (pc := 191) (zo_callv 28 4 194) rfl) ((zq_callv_4 (by decide) (by decide)).trans ⟨fun h => h.2, fun h => ⟨Nat.le_of_ble_eq_true rfl, h⟩⟩)
theorem ze_L_isWell_194 {p0 p1 p2 p3 p4 p5 p6 p7 p8 p9 : bb_V} {x : Int32} {t : List bb_V} : z_Y C zc_L_isWell R 194 (p0 :: p1 :: p2 :: p3 :: p4 :: p5 :: p6 :: p7 :: p8 :: p9 :: bb_I x :: t) st T ↔ z_Y C zc_L_isWell R 196 (p0 :: p1 :: p2 :: p3 :: p4 :: p5 :: p6 :: p7 :: p8 :: p9 :: bb_I x :: t) (bb_I x :: st) T := Iff.trans (z_Y_at (cd := zc_L_isWell) (pc := 194) (zo_iload 10 196) rfl) (Iff.of_eq rfl)
theorem ze_L_isWell_196 {a b : Int32} : z_Y C zc_L_isWell R 196 ls (bb_I b :: bb_I a :: st) T ↔ z_Y C zc_L_isWell R 197 ls (bb_I (a - b) :: st) T := Iff.trans (z_Y_at (cd := zc_L_isWell) (pc := 196) (zo_isub 197) rfl) (Iff.of_eq rfl)
theorem ze_L_isWell_197 {k j : Nat} {t : List bb_V} : z_Y C zc_L_isWell R 197 (bb_R k j :: t) st T ↔ z_Y C zc_L_isWell R 198 (bb_R k j :: t) (bb_R k j :: st) T := Iff.trans (z_Y_at (cd := zc_L_isWell) (pc := 197) (zo_aload 0 198) rfl) (Iff.of_eq rfl)
theorem ze_L_isWell_198  : z_Y C zc_L_isWell R 198 ls st T ↔ z_Y C zc_L_isWell R 200 ls (bb_I 13 :: st) T := Iff.trans (z_Y_at (cd := zc_L_isWell) (pc := 198) (zo_const 13 200) rfl) (Iff.of_eq rfl)
theorem ze_L_isWell_200 {x1 : Int32} {z0 : Int32} : z_Y C zc_L_isWell R 200 ls (bb_I x1 :: bb_R 40 0 :: [bb_I z0]) T ↔ z_call C 34 [bb_R 40 0, bb_I x1] T (fun r T2 => z_Y C zc_L_isWell R 203 ls (bb_I r :: [bb_I z0]) T2) := Iff.trans (z_Y_at (cd := zc_L_isWell) (pc := 200) (zo_callv 34 2 203) rfl) ((zq_callv_2 (by decide) (by decide)).trans ⟨fun h => h.2, fun h => ⟨Nat.le_of_ble_eq_true rfl, h⟩⟩)
theorem ze_L_isWell_203 {a b : Int32} : z_Y C zc_L_isWell R 203 ls (bb_I b :: bb_I a :: st) T ↔ (if a < b then z_Y C zc_L_isWell R 210 ls st T else z_Y C zc_L_isWell R 206 ls st T) := Iff.trans (z_Y_at (cd := zc_L_isWell) (pc := 203) (zo_iclt 210 206) rfl) (Iff.of_eq z_do_ite)
theorem ze_L_isWell_206  : z_Y C zc_L_isWell R 206 ls st T ↔ z_Y C zc_L_isWell R 207 ls (bb_I 1 :: st) T := Iff.trans (z_Y_at (cd := zc_L_isWell) (pc := 206) (zo_const 1 207) rfl) (Iff.of_eq rfl)
theorem ze_L_isWell_207  : z_Y C zc_L_isWell R 207 ls st T ↔ z_Y C zc_L_isWell R 211 ls st T := Iff.trans (z_Y_at (cd := zc_L_isWell) (pc := 207) (zo_goto 211) rfl) (Iff.of_eq rfl)
theorem ze_L_isWell_210  : z_Y C zc_L_isWell R 210 ls st T ↔ z_Y C zc_L_isWell R 211 ls (bb_I 0 :: st) T := Iff.trans (z_Y_at (cd := zc_L_isWell) (pc := 210) (zo_const 0 211) rfl) (Iff.of_eq rfl)
theorem ze_L_isWell_211 {p0 p1 p2 p3 p4 p5 p6 p7 p8 p9 p10 p11 p12 p13 : bb_V} {x : Int32} {q : bb_V} {t : List bb_V} : z_Y C zc_L_isWell R 211 (p0 :: p1 :: p2 :: p3 :: p4 :: p5 :: p6 :: p7 :: p8 :: p9 :: p10 :: p11 :: p12 :: p13 :: q :: t) (bb_I x :: st) T ↔ z_Y C zc_L_isWell R 213 (p0 :: p1 :: p2 :: p3 :: p4 :: p5 :: p6 :: p7 :: p8 :: p9 :: p10 :: p11 :: p12 :: p13 :: bb_I x :: t) st T := Iff.trans (z_Y_at (cd := zc_L_isWell) (pc := 211) (zo_istore 14 213) rfl) (Iff.of_eq rfl)
theorem ze_L_isWell_213 {p0 p1 p2 p3 p4 p5 p6 : bb_V} {x : Int32} {t : List bb_V} : z_Y C zc_L_isWell R 213 (p0 :: p1 :: p2 :: p3 :: p4 :: p5 :: p6 :: bb_I x :: t) st T ↔ z_Y C zc_L_isWell R 215 (p0 :: p1 :: p2 :: p3 :: p4 :: p5 :: p6 :: bb_I x :: t) (bb_I x :: st) T := Iff.trans (z_Y_at (cd := zc_L_isWell) (pc := 213) (zo_iload 7 215) rfl) (Iff.of_eq rfl)
theorem ze_L_isWell_215 {p0 p1 p2 p3 p4 p5 p6 p7 p8 p9 : bb_V} {x : Int32} {t : List bb_V} : z_Y C zc_L_isWell R 215 (p0 :: p1 :: p2 :: p3 :: p4 :: p5 :: p6 :: p7 :: p8 :: p9 :: bb_I x :: t) st T ↔ z_Y C zc_L_isWell R 217 (p0 :: p1 :: p2 :: p3 :: p4 :: p5 :: p6 :: p7 :: p8 :: p9 :: bb_I x :: t) (bb_I x :: st) T := Iff.trans (z_Y_at (cd := zc_L_isWell) (pc := 215) (zo_iload 10 217) rfl) (Iff.of_eq rfl)
set_option maxRecDepth 20000 in
theorem ze_L_isWell_217 {a b : Int32} : z_Y C zc_L_isWell R 217 ls (bb_I b :: bb_I a :: st) T ↔ z_Y C zc_L_isWell R 218 ls (bb_I (a + b) :: st) T := Iff.trans (z_Y_at (cd := zc_L_isWell) (pc := 217) (zo_iadd 218) rfl) (Iff.of_eq rfl)
set_option maxRecDepth 20000 in
theorem ze_L_isWell_218 {p0 p1 p2 p3 p4 p5 p6 : bb_V} {x : Int32} {q : bb_V} {t : List bb_V} : z_Y C zc_L_isWell R 218 (p0 :: p1 :: p2 :: p3 :: p4 :: p5 :: p6 :: q :: t) (bb_I x :: st) T ↔ z_Y C zc_L_isWell R 220 (p0 :: p1 :: p2 :: p3 :: p4 :: p5 :: p6 :: bb_I x :: t) st T := Iff.trans (z_Y_at (cd := zc_L_isWell) (pc := 218) (zo_istore 7 220) rfl) (Iff.of_eq rfl)
set_option maxRecDepth 20000 in
theorem ze_L_isWell_220 {p0 p1 : bb_V} {x : Int32} {t : List bb_V} : z_Y C zc_L_isWell R 220 (p0 :: p1 :: bb_I x :: t) st T ↔ z_Y C zc_L_isWell R 221 (p0 :: p1 :: bb_I x :: t) (bb_I x :: st) T := Iff.trans (z_Y_at (cd := zc_L_isWell) (pc := 220) (zo_iload 2 221) rfl) (Iff.of_eq rfl)
set_option maxRecDepth 20000 in
theorem ze_L_isWell_221 {p0 p1 p2 p3 p4 p5 p6 p7 p8 p9 p10 : bb_V} {x : Int32} {t : List bb_V} : z_Y C zc_L_isWell R 221 (p0 :: p1 :: p2 :: p3 :: p4 :: p5 :: p6 :: p7 :: p8 :: p9 :: p10 :: bb_I x :: t) st T ↔ z_Y C zc_L_isWell R 223 (p0 :: p1 :: p2 :: p3 :: p4 :: p5 :: p6 :: p7 :: p8 :: p9 :: p10 :: bb_I x :: t) (bb_I x :: st) T := Iff.trans (z_Y_at (cd := zc_L_isWell) (pc := 221) (zo_iload 11 223) rfl) (Iff.of_eq rfl)
set_option maxRecDepth 20000 in
theorem ze_L_isWell_223 {a : Int32} : z_Y C zc_L_isWell R 223 ls (bb_I a :: st) T ↔ (if a = 0 then z_Y C zc_L_isWell R 230 ls st T else z_Y C zc_L_isWell R 226 ls st T) := Iff.trans (z_Y_at (cd := zc_L_isWell) (pc := 223) (zo_ifeq 230 226) rfl) (Iff.of_eq z_do_ite)
set_option maxRecDepth 20000 in
theorem ze_L_isWell_226  : z_Y C zc_L_isWell R 226 ls st T ↔ z_Y C zc_L_isWell R 227 ls (bb_I 1 :: st) T := Iff.trans (z_Y_at (cd := zc_L_isWell) (pc := 226) (zo_const 1 227) rfl) (Iff.of_eq rfl)
set_option maxRecDepth 20000 in
theorem ze_L_isWell_227  : z_Y C zc_L_isWell R 227 ls st T ↔ z_Y C zc_L_isWell R 231 ls st T := Iff.trans (z_Y_at (cd := zc_L_isWell) (pc := 227) (zo_goto 231) rfl) (Iff.of_eq rfl)
set_option maxRecDepth 20000 in
theorem ze_L_isWell_230  : z_Y C zc_L_isWell R 230 ls st T ↔ z_Y C zc_L_isWell R 231 ls (bb_I 0 :: st) T := Iff.trans (z_Y_at (cd := zc_L_isWell) (pc := 230) (zo_const 0 231) rfl) (Iff.of_eq rfl)
set_option maxRecDepth 20000 in
theorem ze_L_isWell_231 {a b : Int32} : z_Y C zc_L_isWell R 231 ls (bb_I b :: bb_I a :: st) T ↔ z_Y C zc_L_isWell R 232 ls (bb_I (a + b) :: st) T := Iff.trans (z_Y_at (cd := zc_L_isWell) (pc := 231) (zo_iadd 232) rfl) (Iff.of_eq rfl)
set_option maxRecDepth 20000 in
theorem ze_L_isWell_232 {p0 p1 : bb_V} {x : Int32} {q : bb_V} {t : List bb_V} : z_Y C zc_L_isWell R 232 (p0 :: p1 :: q :: t) (bb_I x :: st) T ↔ z_Y C zc_L_isWell R 233 (p0 :: p1 :: bb_I x :: t) st T := Iff.trans (z_Y_at (cd := zc_L_isWell) (pc := 232) (zo_istore 2 233) rfl) (Iff.of_eq rfl)
set_option maxRecDepth 20000 in
theorem ze_L_isWell_233 {p0 p1 p2 : bb_V} {x : Int32} {t : List bb_V} : z_Y C zc_L_isWell R 233 (p0 :: p1 :: p2 :: bb_I x :: t) st T ↔ z_Y C zc_L_isWell R 234 (p0 :: p1 :: p2 :: bb_I x :: t) (bb_I x :: st) T := Iff.trans (z_Y_at (cd := zc_L_isWell) (pc := 233) (zo_iload 3 234) rfl) (Iff.of_eq rfl)
set_option maxRecDepth 20000 in
theorem ze_L_isWell_234 {p0 p1 p2 p3 p4 p5 p6 p7 p8 p9 p10 p11 : bb_V} {x : Int32} {t : List bb_V} : z_Y C zc_L_isWell R 234 (p0 :: p1 :: p2 :: p3 :: p4 :: p5 :: p6 :: p7 :: p8 :: p9 :: p10 :: p11 :: bb_I x :: t) st T ↔ z_Y C zc_L_isWell R 236 (p0 :: p1 :: p2 :: p3 :: p4 :: p5 :: p6 :: p7 :: p8 :: p9 :: p10 :: p11 :: bb_I x :: t) (bb_I x :: st) T := Iff.trans (z_Y_at (cd := zc_L_isWell) (pc := 234) (zo_iload 12 236) rfl) (Iff.of_eq rfl)
set_option maxRecDepth 20000 in
theorem ze_L_isWell_236 {a : Int32} : z_Y C zc_L_isWell R 236 ls (bb_I a :: st) T ↔ (if a = 0 then z_Y C zc_L_isWell R 243 ls st T else z_Y C zc_L_isWell R 239 ls st T) := Iff.trans (z_Y_at (cd := zc_L_isWell) (pc := 236) (zo_ifeq 243 239) rfl) (Iff.of_eq z_do_ite)
set_option maxRecDepth 20000 in
theorem ze_L_isWell_239  : z_Y C zc_L_isWell R 239 ls st T ↔ z_Y C zc_L_isWell R 240 ls (bb_I 1 :: st) T := Iff.trans (z_Y_at (cd := zc_L_isWell) (pc := 239) (zo_const 1 240) rfl) (Iff.of_eq rfl)
set_option maxRecDepth 20000 in
theorem ze_L_isWell_240  : z_Y C zc_L_isWell R 240 ls st T ↔ z_Y C zc_L_isWell R 244 ls st T := Iff.trans (z_Y_at (cd := zc_L_isWell) (pc := 240) (zo_goto 244) rfl) (Iff.of_eq rfl)
set_option maxRecDepth 20000 in
theorem ze_L_isWell_243  : z_Y C zc_L_isWell R 243 ls st T ↔ z_Y C zc_L_isWell R 244 ls (bb_I 0 :: st) T := Iff.trans (z_Y_at (cd := zc_L_isWell) (pc := 243) (zo_const 0 244) rfl) (Iff.of_eq rfl)
set_option maxRecDepth 20000 in
theorem ze_L_isWell_244 {a b : Int32} : z_Y C zc_L_isWell R 244 ls (bb_I b :: bb_I a :: st) T ↔ z_Y C zc_L_isWell R 245 ls (bb_I (a + b) :: st) T := Iff.trans (z_Y_at (cd := zc_L_isWell) (pc := 244) (zo_iadd 245) rfl) (Iff.of_eq rfl)
set_option maxRecDepth 20000 in
theorem ze_L_isWell_245 {p0 p1 p2 : bb_V} {x : Int32} {q : bb_V} {t : List bb_V} : z_Y C zc_L_isWell R 245 (p0 :: p1 :: p2 :: q :: t) (bb_I x :: st) T ↔ z_Y C zc_L_isWell R 246 (p0 :: p1 :: p2 :: bb_I x :: t) st T := Iff.trans (z_Y_at (cd := zc_L_isWell) (pc := 245) (zo_istore 3 246) rfl) (Iff.of_eq rfl)
set_option maxRecDepth 20000 in
theorem ze_L_isWell_246 {p0 p1 p2 p3 : bb_V} {x : Int32} {t : List bb_V} : z_Y C zc_L_isWell R 246 (p0 :: p1 :: p2 :: p3 :: bb_I x :: t) st T ↔ z_Y C zc_L_isWell R 248 (p0 :: p1 :: p2 :: p3 :: bb_I x :: t) (bb_I x :: st) T := Iff.trans (z_Y_at (cd := zc_L_isWell) (pc := 246) (zo_iload 4 248) rfl) (Iff.of_eq rfl)
set_option maxRecDepth 20000 in
theorem ze_L_isWell_248 {p0 p1 p2 p3 p4 p5 p6 p7 p8 p9 p10 p11 p12 : bb_V} {x : Int32} {t : List bb_V} : z_Y C zc_L_isWell R 248 (p0 :: p1 :: p2 :: p3 :: p4 :: p5 :: p6 :: p7 :: p8 :: p9 :: p10 :: p11 :: p12 :: bb_I x :: t) st T ↔ z_Y C zc_L_isWell R 250 (p0 :: p1 :: p2 :: p3 :: p4 :: p5 :: p6 :: p7 :: p8 :: p9 :: p10 :: p11 :: p12 :: bb_I x :: t) (bb_I x :: st) T := Iff.trans (z_Y_at (cd := zc_L_isWell) (pc := 248) (zo_iload 13 250) rfl) (Iff.of_eq rfl)
set_option maxRecDepth 20000 in
theorem ze_L_isWell_250 {a : Int32} : z_Y C zc_L_isWell R 250 ls (bb_I a :: st) T ↔ (if a = 0 then z_Y C zc_L_isWell R 257 ls st T else z_Y C zc_L_isWell R 253 ls st T) := Iff.trans (z_Y_at (cd := zc_L_isWell) (pc := 250) (zo_ifeq 257 253) rfl) (Iff.of_eq z_do_ite)
set_option maxRecDepth 20000 in
theorem ze_L_isWell_253  : z_Y C zc_L_isWell R 253 ls st T ↔ z_Y C zc_L_isWell R 254 ls (bb_I 1 :: st) T := Iff.trans (z_Y_at (cd := zc_L_isWell) (pc := 253) (zo_const 1 254) rfl) (Iff.of_eq rfl)
set_option maxRecDepth 20000 in
theorem ze_L_isWell_254  : z_Y C zc_L_isWell R 254 ls st T ↔ z_Y C zc_L_isWell R 258 ls st T := Iff.trans (z_Y_at (cd := zc_L_isWell) (pc := 254) (zo_goto 258) rfl) (Iff.of_eq rfl)
set_option maxRecDepth 20000 in
theorem ze_L_isWell_257  : z_Y C zc_L_isWell R 257 ls st T ↔ z_Y C zc_L_isWell R 258 ls (bb_I 0 :: st) T := Iff.trans (z_Y_at (cd := zc_L_isWell) (pc := 257) (zo_const 0 258) rfl) (Iff.of_eq rfl)
set_option maxRecDepth 20000 in
theorem ze_L_isWell_258 {a b : Int32} : z_Y C zc_L_isWell R 258 ls (bb_I b :: bb_I a :: st) T ↔ z_Y C zc_L_isWell R 259 ls (bb_I (a + b) :: st) T := Iff.trans (z_Y_at (cd := zc_L_isWell) (pc := 258) (zo_iadd 259) rfl) (Iff.of_eq rfl)
set_option maxRecDepth 20000 in
theorem ze_L_isWell_259 {p0 p1 p2 p3 : bb_V} {x : Int32} {q : bb_V} {t : List bb_V} : z_Y C zc_L_isWell R 259 (p0 :: p1 :: p2 :: p3 :: q :: t) (bb_I x :: st) T ↔ z_Y C zc_L_isWell R 261 (p0 :: p1 :: p2 :: p3 :: bb_I x :: t) st T := Iff.trans (z_Y_at (cd := zc_L_isWell) (pc := 259) (zo_istore 4 261) rfl) (Iff.of_eq rfl)
set_option maxRecDepth 20000 in
theorem ze_L_isWell_261 {p0 p1 p2 p3 p4 p5 p6 p7 p8 p9 p10 p11 p12 : bb_V} {x : Int32} {t : List bb_V} : z_Y C zc_L_isWell R 261 (p0 :: p1 :: p2 :: p3 :: p4 :: p5 :: p6 :: p7 :: p8 :: p9 :: p10 :: p11 :: p12 :: bb_I x :: t) st T ↔ z_Y C zc_L_isWell R 263 (p0 :: p1 :: p2 :: p3 :: p4 :: p5 :: p6 :: p7 :: p8 :: p9 :: p10 :: p11 :: p12 :: bb_I x :: t) (bb_I x :: st) T := Iff.trans (z_Y_at (cd := zc_L_isWell) (pc := 261) (zo_iload 13 263) rfl) (Iff.of_eq rfl)
set_option maxRecDepth 20000 in
theorem ze_L_isWell_263 {a : Int32} : z_Y C zc_L_isWell R 263 ls (bb_I a :: st) T ↔ (if a = 0 then z_Y C zc_L_isWell R 271 ls st T else z_Y C zc_L_isWell R 266 ls st T) := Iff.trans (z_Y_at (cd := zc_L_isWell) (pc := 263) (zo_ifeq 271 266) rfl) (Iff.of_eq z_do_ite)
set_option maxRecDepth 20000 in
theorem ze_L_isWell_266 {p0 p1 p2 p3 p4 p5 p6 p7 p8 : bb_V} {x : Int32} {t : List bb_V} : z_Y C zc_L_isWell R 266 (p0 :: p1 :: p2 :: p3 :: p4 :: p5 :: p6 :: p7 :: p8 :: bb_I x :: t) st T ↔ z_Y C zc_L_isWell R 268 (p0 :: p1 :: p2 :: p3 :: p4 :: p5 :: p6 :: p7 :: p8 :: bb_I x :: t) (bb_I x :: st) T := Iff.trans (z_Y_at (cd := zc_L_isWell) (pc := 266) (zo_iload 9 268) rfl) (Iff.of_eq rfl)
set_option maxRecDepth 20000 in
theorem ze_L_isWell_268  : z_Y C zc_L_isWell R 268 ls st T ↔ z_Y C zc_L_isWell R 273 ls st T := Iff.trans (z_Y_at (cd := zc_L_isWell) (pc := 268) (zo_goto 273) rfl) (Iff.of_eq rfl)
set_option maxRecDepth 20000 in
theorem ze_L_isWell_271 {p0 p1 p2 p3 p4 p5 p6 p7 : bb_V} {x : Int32} {t : List bb_V} : z_Y C zc_L_isWell R 271 (p0 :: p1 :: p2 :: p3 :: p4 :: p5 :: p6 :: p7 :: bb_I x :: t) st T ↔ z_Y C zc_L_isWell R 273 (p0 :: p1 :: p2 :: p3 :: p4 :: p5 :: p6 :: p7 :: bb_I x :: t) (bb_I x :: st) T := Iff.trans (z_Y_at (cd := zc_L_isWell) (pc := 271) (zo_iload 8 273) rfl) (Iff.of_eq rfl)
set_option maxRecDepth 20000 in
theorem ze_L_isWell_273 {p0 p1 p2 p3 p4 p5 p6 p7 : bb_V} {x : Int32} {q : bb_V} {t : List bb_V} : z_Y C zc_L_isWell R 273 (p0 :: p1 :: p2 :: p3 :: p4 :: p5 :: p6 :: p7 :: q :: t) (bb_I x :: st) T ↔ z_Y C zc_L_isWell R 275 (p0 :: p1 :: p2 :: p3 :: p4 :: p5 :: p6 :: p7 :: bb_I x :: t) st T := Iff.trans (z_Y_at (cd := zc_L_isWell) (pc := 273) (zo_istore 8 275) rfl) (Iff.of_eq rfl)
set_option maxRecDepth 20000 in
theorem ze_L_isWell_275 {p0 p1 p2 p3 p4 p5 p6 p7 p8 p9 : bb_V} {x : Int32} {t : List bb_V} : z_Y C zc_L_isWell R 275 (p0 :: p1 :: p2 :: p3 :: p4 :: p5 :: p6 :: p7 :: p8 :: p9 :: bb_I x :: t) st T ↔ z_Y C zc_L_isWell R 277 (p0 :: p1 :: p2 :: p3 :: p4 :: p5 :: p6 :: p7 :: p8 :: p9 :: bb_I x :: t) (bb_I x :: st) T := Iff.trans (z_Y_at (cd := zc_L_isWell) (pc := 275) (zo_iload 10 277) rfl) (Iff.of_eq rfl)
set_option maxRecDepth 20000 in
theorem ze_L_isWell_277 {a : Int32} : z_Y C zc_L_isWell R 277 ls (bb_I a :: st) T ↔ (if a < 0 then z_Y C zc_L_isWell R 433 ls st T else z_Y C zc_L_isWell R 280 ls st T) := Iff.trans (z_Y_at (cd := zc_L_isWell) (pc := 277) (zo_iflt 433 280) rfl) (Iff.of_eq z_do_ite)
set_option maxRecDepth 20000 in
theorem ze_L_isWell_280 {p0 p1 p2 p3 p4 p5 p6 p7 p8 p9 : bb_V} {x : Int32} {t : List bb_V} : z_Y C zc_L_isWell R 280 (p0 :: p1 :: p2 :: p3 :: p4 :: p5 :: p6 :: p7 :: p8 :: p9 :: bb_I x :: t) st T ↔ z_Y C zc_L_isWell R 282 (p0 :: p1 :: p2 :: p3 :: p4 :: p5 :: p6 :: p7 :: p8 :: p9 :: bb_I x :: t) (bb_I x :: st) T := Iff.trans (z_Y_at (cd := zc_L_isWell) (pc := 280) (zo_iload 10 282) rfl) (Iff.of_eq rfl)
set_option maxRecDepth 20000 in
theorem ze_L_isWell_282  : z_Y C zc_L_isWell R 282 ls st T ↔ z_Y C zc_L_isWell R 284 ls (bb_I 100 :: st) T := Iff.trans (z_Y_at (cd := zc_L_isWell) (pc := 282) (zo_const 100 284) rfl) (Iff.of_eq rfl)
set_option maxRecDepth 20000 in
theorem ze_L_isWell_284 {a b : Int32} : z_Y C zc_L_isWell R 284 ls (bb_I b :: bb_I a :: st) T ↔ (if b ≤ a then z_Y C zc_L_isWell R 433 ls st T else z_Y C zc_L_isWell R 287 ls st T) := Iff.trans (z_Y_at (cd := zc_L_isWell) (pc := 284) (zo_icge 433 287) rfl) (Iff.of_eq z_do_ite)
set_option maxRecDepth 20000 in
theorem ze_L_isWell_287 {k j : Nat} {t : List bb_V} : z_Y C zc_L_isWell R 287 (bb_R k j :: t) st T ↔ z_Y C zc_L_isWell R 288 (bb_R k j :: t) (bb_R k j :: st) T := Iff.trans (z_Y_at (cd := zc_L_isWell) (pc := 287) (zo_aload 0 288) rfl) (Iff.of_eq rfl)
set_option maxRecDepth 20000 in
theorem ze_L_isWell_288 {p0 p1 p2 p3 p4 p5 : bb_V} {x : Int32} {t : List bb_V} : z_Y C zc_L_isWell R 288 (p0 :: p1 :: p2 :: p3 :: p4 :: p5 :: bb_I x :: t) st T ↔ z_Y C zc_L_isWell R 290 (p0 :: p1 :: p2 :: p3 :: p4 :: p5 :: bb_I x :: t) (bb_I x :: st) T := Iff.trans (z_Y_at (cd := zc_L_isWell) (pc := 288) (zo_iload 6 290) rfl) (Iff.of_eq rfl)
set_option maxRecDepth 20000 in
theorem ze_L_isWell_290 {p0 p1 p2 p3 p4 p5 p6 p7 p8 : bb_V} {x : Int32} {t : List bb_V} : z_Y C zc_L_isWell R 290 (p0 :: p1 :: p2 :: p3 :: p4 :: p5 :: p6 :: p7 :: p8 :: bb_I x :: t) st T ↔ z_Y C zc_L_isWell R 292 (p0 :: p1 :: p2 :: p3 :: p4 :: p5 :: p6 :: p7 :: p8 :: bb_I x :: t) (bb_I x :: st) T := Iff.trans (z_Y_at (cd := zc_L_isWell) (pc := 290) (zo_iload 9 292) rfl) (Iff.of_eq rfl)
set_option maxRecDepth 20000 in
theorem ze_L_isWell_292  : z_Y C zc_L_isWell R 292 ls st T ↔ z_Y C zc_L_isWell R 293 ls (bb_I 1 :: st) T := Iff.trans (z_Y_at (cd := zc_L_isWell) (pc := 292) (zo_const 1 293) rfl) (Iff.of_eq rfl)
set_option maxRecDepth 20000 in
theorem ze_L_isWell_293 {x1 : Int32} {x2 : Int32} {x3 : Int32} : z_Y C zc_L_isWell R 293 ls (bb_I x3 :: bb_I x2 :: bb_I x1 :: bb_R 40 0 :: []) T ↔ z_call C 28 [bb_R 40 0, bb_I x1, bb_I x2, bb_I x3] T (fun r T2 => z_Y C zc_L_isWell R 296 ls (bb_I r :: []) T2) := Iff.trans (z_Y_at (cd := zc_L_isWell) (pc := 293) (zo_callv 28 4 296) rfl) ((zq_callv_4 (by decide) (by decide)).trans ⟨fun h => h.2, fun h => ⟨Nat.le_of_ble_eq_true rfl, h⟩⟩)
set_option maxRecDepth 20000 in
theorem ze_L_isWell_296 {k j : Nat} {t : List bb_V} : z_Y C zc_L_isWell R 296 (bb_R k j :: t) st T ↔ z_Y C zc_L_isWell R 297 (bb_R k j :: t) (bb_R k j :: st) T := Iff.trans (z_Y_at (cd := zc_L_isWell) (pc := 296) (zo_aload 0 297) rfl) (Iff.of_eq rfl)
set_option maxRecDepth 20000 in
theorem ze_L_isWell_297  : z_Y C zc_L_isWell R 297 ls st T ↔ z_Y C zc_L_isWell R 299 ls (bb_I 10 :: st) T := Iff.trans (z_Y_at (cd := zc_L_isWell) (pc := 297) (zo_const 10 299) rfl) (Iff.of_eq rfl)
set_option maxRecDepth 20000 in
theorem ze_L_isWell_299 {x1 : Int32} {z0 : Int32} : z_Y C zc_L_isWell R 299 ls (bb_I x1 :: bb_R 40 0 :: [bb_I z0]) T ↔ z_call C 34 [bb_R 40 0, bb_I x1] T (fun r T2 => z_Y C zc_L_isWell R 302 ls (bb_I r :: [bb_I z0]) T2) := Iff.trans (z_Y_at (cd := zc_L_isWell) (pc := 299) (zo_callv 34 2 302) rfl) ((zq_callv_2 (by decide) (by decide)).trans ⟨fun h => h.2, fun h => ⟨Nat.le_of_ble_eq_true rfl, h⟩⟩)
set_option maxRecDepth 20000 in
theorem ze_L_isWell_302 {p0 p1 p2 p3 p4 p5 p6 p7 p8 p9 : bb_V} {x : Int32} {t : List bb_V} : z_Y C zc_L_isWell R 302 (p0 :: p1 :: p2 :: p3 :: p4 :: p5 :: p6 :: p7 :: p8 :: p9 :: bb_I x :: t) st T ↔ z_Y C zc_L_isWell R 304 (p0 :: p1 :: p2 :: p3 :: p4 :: p5 :: p6 :: p7 :: p8 :: p9 :: bb_I x :: t) (bb_I x :: st) T := Iff.trans (z_Y_at (cd := zc_L_isWell) (pc := 302) (zo_iload 10 304) rfl) (Iff.of_eq rfl)
set_option maxRecDepth 20000 in
theorem ze_L_isWell_304 {a b : Int32} : z_Y C zc_L_isWell R 304 ls (bb_I b :: bb_I a :: st) T ↔ z_Y C zc_L_isWell R 305 ls (bb_I (a - b) :: st) T := Iff.trans (z_Y_at (cd := zc_L_isWell) (pc := 304) (zo_isub 305) rfl) (Iff.of_eq rfl)
set_option maxRecDepth 20000 in
theorem ze_L_isWell_305 {a b : Int32} : z_Y C zc_L_isWell R 305 ls (bb_I b :: bb_I a :: st) T ↔ (if a ≠ b then z_Y C zc_L_isWell R 433 ls st T else z_Y C zc_L_isWell R 308 ls st T) := Iff.trans (z_Y_at (cd := zc_L_isWell) (pc := 305) (zo_icne 433 308) rfl) (Iff.of_eq z_do_ite)
set_option maxRecDepth 20000 in
theorem ze_L_isWell_308 {p0 p1 p2 p3 p4 p5 p6 p7 p8 p9 p10 : bb_V} {x : Int32} {t : List bb_V} : z_Y C zc_L_isWell R 308 (p0 :: p1 :: p2 :: p3 :: p4 :: p5 :: p6 :: p7 :: p8 :: p9 :: p10 :: bb_I x :: t) st T ↔ z_Y C zc_L_isWell R 310 (p0 :: p1 :: p2 :: p3 :: p4 :: p5 :: p6 :: p7 :: p8 :: p9 :: p10 :: bb_I x :: t) (bb_I x :: st) T := Iff.trans (z_Y_at (cd := zc_L_isWell) (pc := 308) (zo_iload 11 310) rfl) (Iff.of_eq rfl)
set_option maxRecDepth 20000 in
theorem ze_L_isWell_310 {p0 p1 p2 p3 p4 p5 p6 p7 p8 : bb_V} {x : Int32} {t : List bb_V} : z_Y C zc_L_isWell R 310 (p0 :: p1 :: p2 :: p3 :: p4 :: p5 :: p6 :: p7 :: p8 :: bb_I x :: t) st T ↔ z_Y C zc_L_isWell R 312 (p0 :: p1 :: p2 :: p3 :: p4 :: p5 :: p6 :: p7 :: p8 :: bb_I x :: t) (bb_I x :: st) T := Iff.trans (z_Y_at (cd := zc_L_isWell) (pc := 310) (zo_iload 9 312) rfl) (Iff.of_eq rfl)
set_option maxRecDepth 20000 in
theorem ze_L_isWell_312 {a : Int32} : z_Y C zc_L_isWell R 312 ls (bb_I a :: st) T ↔ (if a ≤ 0 then z_Y C zc_L_isWell R 363 ls st T else z_Y C zc_L_isWell R 315 ls st T) := Iff.trans (z_Y_at (cd := zc_L_isWell) (pc := 312) (zo_ifle 363 315) rfl) (Iff.of_eq z_do_ite)
set_option maxRecDepth 20000 in
theorem ze_L_isWell_315 {p0 p1 p2 p3 p4 p5 p6 p7 p8 : bb_V} {x : Int32} {t : List bb_V} : z_Y C zc_L_isWell R 315 (p0 :: p1 :: p2 :: p3 :: p4 :: p5 :: p6 :: p7 :: p8 :: bb_I x :: t) st T ↔ z_Y C zc_L_isWell R 317 (p0 :: p1 :: p2 :: p3 :: p4 :: p5 :: p6 :: p7 :: p8 :: bb_I x :: t) (bb_I x :: st) T := Iff.trans (z_Y_at (cd := zc_L_isWell) (pc := 315) (zo_iload 9 317) rfl) (Iff.of_eq rfl)
set_option maxRecDepth 20000 in
theorem ze_L_isWell_317  : z_Y C zc_L_isWell R 317 ls st T ↔ z_Y C zc_L_isWell R 319 ls (bb_I 19 :: st) T := Iff.trans (z_Y_at (cd := zc_L_isWell) (pc := 317) (zo_const 19 319) rfl) (Iff.of_eq rfl)
set_option maxRecDepth 20000 in
theorem ze_L_isWell_319 {a b : Int32} : z_Y C zc_L_isWell R 319 ls (bb_I b :: bb_I a :: st) T ↔ (if b ≤ a then z_Y C zc_L_isWell R 363 ls st T else z_Y C zc_L_isWell R 322 ls st T) := Iff.trans (z_Y_at (cd := zc_L_isWell) (pc := 319) (zo_icge 363 322) rfl) (Iff.of_eq z_do_ite)
set_option maxRecDepth 20000 in
theorem ze_L_isWell_322 {p0 p1 p2 p3 p4 p5 p6 p7 p8 p9 p10 p11 p12 : bb_V} {x : Int32} {t : List bb_V} : z_Y C zc_L_isWell R 322 (p0 :: p1 :: p2 :: p3 :: p4 :: p5 :: p6 :: p7 :: p8 :: p9 :: p10 :: p11 :: p12 :: bb_I x :: t) st T ↔ z_Y C zc_L_isWell R 324 (p0 :: p1 :: p2 :: p3 :: p4 :: p5 :: p6 :: p7 :: p8 :: p9 :: p10 :: p11 :: p12 :: bb_I x :: t) (bb_I x :: st) T := Iff.trans (z_Y_at (cd := zc_L_isWell) (pc := 322) (zo_iload 13 324) rfl) (Iff.of_eq rfl)
set_option maxRecDepth 20000 in
theorem ze_L_isWell_324 {a : Int32} : z_Y C zc_L_isWell R 324 ls (bb_I a :: st) T ↔ (if a ≠ 0 then z_Y C zc_L_isWell R 363 ls st T else z_Y C zc_L_isWell R 327 ls st T) := Iff.trans (z_Y_at (cd := zc_L_isWell) (pc := 324) (zo_ifne 363 327) rfl) (Iff.of_eq z_do_ite)
set_option maxRecDepth 20000 in
theorem ze_L_isWell_327 {p0 p1 p2 p3 p4 p5 p6 p7 p8 p9 : bb_V} {x : Int32} {t : List bb_V} : z_Y C zc_L_isWell R 327 (p0 :: p1 :: p2 :: p3 :: p4 :: p5 :: p6 :: p7 :: p8 :: p9 :: bb_I x :: t) st T ↔ z_Y C zc_L_isWell R 329 (p0 :: p1 :: p2 :: p3 :: p4 :: p5 :: p6 :: p7 :: p8 :: p9 :: bb_I x :: t) (bb_I x :: st) T := Iff.trans (z_Y_at (cd := zc_L_isWell) (pc := 327) (zo_iload 10 329) rfl) (Iff.of_eq rfl)
set_option maxRecDepth 20000 in
theorem ze_L_isWell_329 {k j : Nat} {t : List bb_V} : z_Y C zc_L_isWell R 329 (bb_R k j :: t) st T ↔ z_Y C zc_L_isWell R 330 (bb_R k j :: t) (bb_R k j :: st) T := Iff.trans (z_Y_at (cd := zc_L_isWell) (pc := 329) (zo_aload 0 330) rfl) (Iff.of_eq rfl)
set_option maxRecDepth 20000 in
theorem ze_L_isWell_330 {p0 p1 p2 p3 p4 p5 : bb_V} {x : Int32} {t : List bb_V} : z_Y C zc_L_isWell R 330 (p0 :: p1 :: p2 :: p3 :: p4 :: p5 :: bb_I x :: t) st T ↔ z_Y C zc_L_isWell R 332 (p0 :: p1 :: p2 :: p3 :: p4 :: p5 :: bb_I x :: t) (bb_I x :: st) T := Iff.trans (z_Y_at (cd := zc_L_isWell) (pc := 330) (zo_iload 6 332) rfl) (Iff.of_eq rfl)
set_option maxRecDepth 20000 in
theorem ze_L_isWell_332 {p0 p1 p2 p3 p4 p5 p6 p7 p8 : bb_V} {x : Int32} {t : List bb_V} : z_Y C zc_L_isWell R 332 (p0 :: p1 :: p2 :: p3 :: p4 :: p5 :: p6 :: p7 :: p8 :: bb_I x :: t) st T ↔ z_Y C zc_L_isWell R 334 (p0 :: p1 :: p2 :: p3 :: p4 :: p5 :: p6 :: p7 :: p8 :: bb_I x :: t) (bb_I x :: st) T := Iff.trans (z_Y_at (cd := zc_L_isWell) (pc := 332) (zo_iload 9 334) rfl) (Iff.of_eq rfl)
set_option maxRecDepth 20000 in
theorem ze_L_isWell_334  : z_Y C zc_L_isWell R 334 ls st T ↔ z_Y C zc_L_isWell R 335 ls (bb_I 1 :: st) T := Iff.trans (z_Y_at (cd := zc_L_isWell) (pc := 334) (zo_const 1 335) rfl) (Iff.of_eq rfl)
set_option maxRecDepth 20000 in
theorem ze_L_isWell_335 {a b : Int32} : z_Y C zc_L_isWell R 335 ls (bb_I b :: bb_I a :: st) T ↔ z_Y C zc_L_isWell R 336 ls (bb_I (a - b) :: st) T := Iff.trans (z_Y_at (cd := zc_L_isWell) (pc := 335) (zo_isub 336) rfl) (Iff.of_eq rfl)
set_option maxRecDepth 20000 in
theorem ze_L_isWell_336  : z_Y C zc_L_isWell R 336 ls st T ↔ z_Y C zc_L_isWell R 337 ls (bb_I 0 :: st) T := Iff.trans (z_Y_at (cd := zc_L_isWell) (pc := 336) (zo_const 0 337) rfl) (Iff.of_eq rfl)
set_option maxRecDepth 20000 in
theorem ze_L_isWell_337 {x1 : Int32} {x2 : Int32} {x3 : Int32} {z0 : Int32} {z1 : Int32} : z_Y C zc_L_isWell R 337 ls (bb_I x3 :: bb_I x2 :: bb_I x1 :: bb_R 40 0 :: [bb_I z1, bb_I z0]) T ↔ z_call C 28 [bb_R 40 0, bb_I x1, bb_I x2, bb_I x3] T (fun r T2 => z_Y C zc_L_isWell R 340 ls (bb_I r :: [bb_I z1, bb_I z0]) T2) := Iff.trans (z_Y_at (cd := zc_L_isWell) (pc := 337) (zo_callv 28 4 340) rfl) ((zq_callv_4 (by decide) (by decide)).trans ⟨fun h => h.2, fun h => ⟨Nat.le_of_ble_eq_true rfl, h⟩⟩)
set_option maxRecDepth 20000 in
theorem ze_L_isWell_340 {a b : Int32} : z_Y C zc_L_isWell R 340 ls (bb_I b :: bb_I a :: st) T ↔ (if a ≤ b then z_Y C zc_L_isWell R 363 ls st T else z_Y C zc_L_isWell R 343 ls st T) := Iff.trans (z_Y_at (cd := zc_L_isWell) (pc := 340) (zo_icle 363 343) rfl) (Iff.of_eq z_do_ite)
set_option maxRecDepth 20000 in
theorem ze_L_isWell_343 {p0 p1 p2 p3 p4 p5 p6 p7 p8 p9 : bb_V} {x : Int32} {t : List bb_V} : z_Y C zc_L_isWell R 343 (p0 :: p1 :: p2 :: p3 :: p4 :: p5 :: p6 :: p7 :: p8 :: p9 :: bb_I x :: t) st T ↔ z_Y C zc_L_isWell R 345 (p0 :: p1 :: p2 :: p3 :: p4 :: p5 :: p6 :: p7 :: p8 :: p9 :: bb_I x :: t) (bb_I x :: st) T := Iff.trans (z_Y_at (cd := zc_L_isWell) (pc := 343) (zo_iload 10 345) rfl) (Iff.of_eq rfl)
set_option maxRecDepth 20000 in
theorem ze_L_isWell_345 {k j : Nat} {t : List bb_V} : z_Y C zc_L_isWell R 345 (bb_R k j :: t) st T ↔ z_Y C zc_L_isWell R 346 (bb_R k j :: t) (bb_R k j :: st) T := Iff.trans (z_Y_at (cd := zc_L_isWell) (pc := 345) (zo_aload 0 346) rfl) (Iff.of_eq rfl)
set_option maxRecDepth 20000 in
theorem ze_L_isWell_346 {p0 p1 p2 p3 p4 p5 : bb_V} {x : Int32} {t : List bb_V} : z_Y C zc_L_isWell R 346 (p0 :: p1 :: p2 :: p3 :: p4 :: p5 :: bb_I x :: t) st T ↔ z_Y C zc_L_isWell R 348 (p0 :: p1 :: p2 :: p3 :: p4 :: p5 :: bb_I x :: t) (bb_I x :: st) T := Iff.trans (z_Y_at (cd := zc_L_isWell) (pc := 346) (zo_iload 6 348) rfl) (Iff.of_eq rfl)
set_option maxRecDepth 20000 in
theorem ze_L_isWell_348 {p0 p1 p2 p3 p4 p5 p6 p7 p8 : bb_V} {x : Int32} {t : List bb_V} : z_Y C zc_L_isWell R 348 (p0 :: p1 :: p2 :: p3 :: p4 :: p5 :: p6 :: p7 :: p8 :: bb_I x :: t) st T ↔ z_Y C zc_L_isWell R 350 (p0 :: p1 :: p2 :: p3 :: p4 :: p5 :: p6 :: p7 :: p8 :: bb_I x :: t) (bb_I x :: st) T := Iff.trans (z_Y_at (cd := zc_L_isWell) (pc := 348) (zo_iload 9 350) rfl) (Iff.of_eq rfl)
set_option maxRecDepth 20000 in
theorem ze_L_isWell_350  : z_Y C zc_L_isWell R 350 ls st T ↔ z_Y C zc_L_isWell R 351 ls (bb_I 1 :: st) T := Iff.trans (z_Y_at (cd := zc_L_isWell) (pc := 350) (zo_const 1 351) rfl) (Iff.of_eq rfl)
set_option maxRecDepth 20000 in
theorem ze_L_isWell_351 {a b : Int32} : z_Y C zc_L_isWell R 351 ls (bb_I b :: bb_I a :: st) T ↔ z_Y C zc_L_isWell R 352 ls (bb_I (a + b) :: st) T := Iff.trans (z_Y_at (cd := zc_L_isWell) (pc := 351) (zo_iadd 352) rfl) (Iff.of_eq rfl)
set_option maxRecDepth 20000 in
theorem ze_L_isWell_352  : z_Y C zc_L_isWell R 352 ls st T ↔ z_Y C zc_L_isWell R 353 ls (bb_I 0 :: st) T := Iff.trans (z_Y_at (cd := zc_L_isWell) (pc := 352) (zo_const 0 353) rfl) (Iff.of_eq rfl)
set_option maxRecDepth 20000 in
theorem ze_L_isWell_353 {x1 : Int32} {x2 : Int32} {x3 : Int32} {z0 : Int32} {z1 : Int32} : z_Y C zc_L_isWell R 353 ls (bb_I x3 :: bb_I x2 :: bb_I x1 :: bb_R 40 0 :: [bb_I z1, bb_I z0]) T ↔ z_call C 28 [bb_R 40 0, bb_I x1, bb_I x2, bb_I x3] T (fun r T2 => z_Y C zc_L_isWell R 356 ls (bb_I r :: [bb_I z1, bb_I z0]) T2) := Iff.trans (z_Y_at (cd := zc_L_isWell) (pc := 353) (zo_callv 28 4 356) rfl) ((zq_callv_4 (by decide) (by decide)).trans ⟨fun h => h.2, fun h => ⟨Nat.le_of_ble_eq_true rfl, h⟩⟩)
set_option maxRecDepth 20000 in
theorem ze_L_isWell_356 {a b : Int32} : z_Y C zc_L_isWell R 356 ls (bb_I b :: bb_I a :: st) T ↔ (if a ≤ b then z_Y C zc_L_isWell R 363 ls st T else z_Y C zc_L_isWell R 359 ls st T) := Iff.trans (z_Y_at (cd := zc_L_isWell) (pc := 356) (zo_icle 363 359) rfl) (Iff.of_eq z_do_ite)
set_option maxRecDepth 20000 in
theorem ze_L_isWell_359  : z_Y C zc_L_isWell R 359 ls st T ↔ z_Y C zc_L_isWell R 360 ls (bb_I 1 :: st) T := Iff.trans (z_Y_at (cd := zc_L_isWell) (pc := 359) (zo_const 1 360) rfl) (Iff.of_eq rfl)
set_option maxRecDepth 20000 in
theorem ze_L_isWell_360  : z_Y C zc_L_isWell R 360 ls st T ↔ z_Y C zc_L_isWell R 364 ls st T := Iff.trans (z_Y_at (cd := zc_L_isWell) (pc := 360) (zo_goto 364) rfl) (Iff.of_eq rfl)
set_option maxRecDepth 20000 in
theorem ze_L_isWell_363  : z_Y C zc_L_isWell R 363 ls st T ↔ z_Y C zc_L_isWell R 364 ls (bb_I 0 :: st) T := Iff.trans (z_Y_at (cd := zc_L_isWell) (pc := 363) (zo_const 0 364) rfl) (Iff.of_eq rfl)
set_option maxRecDepth 20000 in
theorem ze_L_isWell_364 {a b : Int32} : z_Y C zc_L_isWell R 364 ls (bb_I b :: bb_I a :: st) T ↔ (if a ≠ b then z_Y C zc_L_isWell R 433 ls st T else z_Y C zc_L_isWell R 367 ls st T) := Iff.trans (z_Y_at (cd := zc_L_isWell) (pc := 364) (zo_icne 433 367) rfl) (Iff.of_eq z_do_ite)
set_option maxRecDepth 20000 in
theorem ze_L_isWell_367 {p0 p1 p2 p3 p4 p5 p6 p7 p8 p9 p10 p11 : bb_V} {x : Int32} {t : List bb_V} : z_Y C zc_L_isWell R 367 (p0 :: p1 :: p2 :: p3 :: p4 :: p5 :: p6 :: p7 :: p8 :: p9 :: p10 :: p11 :: bb_I x :: t) st T ↔ z_Y C zc_L_isWell R 369 (p0 :: p1 :: p2 :: p3 :: p4 :: p5 :: p6 :: p7 :: p8 :: p9 :: p10 :: p11 :: bb_I x :: t) (bb_I x :: st) T := Iff.trans (z_Y_at (cd := zc_L_isWell) (pc := 367) (zo_iload 12 369) rfl) (Iff.of_eq rfl)
set_option maxRecDepth 20000 in
theorem ze_L_isWell_369 {p0 p1 p2 p3 p4 p5 p6 p7 p8 : bb_V} {x : Int32} {t : List bb_V} : z_Y C zc_L_isWell R 369 (p0 :: p1 :: p2 :: p3 :: p4 :: p5 :: p6 :: p7 :: p8 :: bb_I x :: t) st T ↔ z_Y C zc_L_isWell R 371 (p0 :: p1 :: p2 :: p3 :: p4 :: p5 :: p6 :: p7 :: p8 :: bb_I x :: t) (bb_I x :: st) T := Iff.trans (z_Y_at (cd := zc_L_isWell) (pc := 369) (zo_iload 9 371) rfl) (Iff.of_eq rfl)
set_option maxRecDepth 20000 in
theorem ze_L_isWell_371 {a : Int32} : z_Y C zc_L_isWell R 371 ls (bb_I a :: st) T ↔ (if a ≤ 0 then z_Y C zc_L_isWell R 400 ls st T else z_Y C zc_L_isWell R 374 ls st T) := Iff.trans (z_Y_at (cd := zc_L_isWell) (pc := 371) (zo_ifle 400 374) rfl) (Iff.of_eq z_do_ite)
set_option maxRecDepth 20000 in
theorem ze_L_isWell_374 {p0 p1 p2 p3 p4 p5 p6 p7 p8 : bb_V} {x : Int32} {t : List bb_V} : z_Y C zc_L_isWell R 374 (p0 :: p1 :: p2 :: p3 :: p4 :: p5 :: p6 :: p7 :: p8 :: bb_I x :: t) st T ↔ z_Y C zc_L_isWell R 376 (p0 :: p1 :: p2 :: p3 :: p4 :: p5 :: p6 :: p7 :: p8 :: bb_I x :: t) (bb_I x :: st) T := Iff.trans (z_Y_at (cd := zc_L_isWell) (pc := 374) (zo_iload 9 376) rfl) (Iff.of_eq rfl)
set_option maxRecDepth 20000 in
theorem ze_L_isWell_376  : z_Y C zc_L_isWell R 376 ls st T ↔ z_Y C zc_L_isWell R 378 ls (bb_I 19 :: st) T := Iff.trans (z_Y_at (cd := zc_L_isWell) (pc := 376) (zo_const 19 378) rfl) (Iff.of_eq rfl)
set_option maxRecDepth 20000 in
theorem ze_L_isWell_378 {a b : Int32} : z_Y C zc_L_isWell R 378 ls (bb_I b :: bb_I a :: st) T ↔ (if b ≤ a then z_Y C zc_L_isWell R 400 ls st T else z_Y C zc_L_isWell R 381 ls st T) := Iff.trans (z_Y_at (cd := zc_L_isWell) (pc := 378) (zo_icge 400 381) rfl) (Iff.of_eq z_do_ite)
set_option maxRecDepth 20000 in
theorem ze_L_isWell_381 {p0 p1 p2 p3 p4 p5 p6 p7 p8 p9 p10 p11 p12 : bb_V} {x : Int32} {t : List bb_V} : z_Y C zc_L_isWell R 381 (p0 :: p1 :: p2 :: p3 :: p4 :: p5 :: p6 :: p7 :: p8 :: p9 :: p10 :: p11 :: p12 :: bb_I x :: t) st T ↔ z_Y C zc_L_isWell R 383 (p0 :: p1 :: p2 :: p3 :: p4 :: p5 :: p6 :: p7 :: p8 :: p9 :: p10 :: p11 :: p12 :: bb_I x :: t) (bb_I x :: st) T := Iff.trans (z_Y_at (cd := zc_L_isWell) (pc := 381) (zo_iload 13 383) rfl) (Iff.of_eq rfl)
set_option maxRecDepth 20000 in
theorem ze_L_isWell_383 {a : Int32} : z_Y C zc_L_isWell R 383 ls (bb_I a :: st) T ↔ (if a ≠ 0 then z_Y C zc_L_isWell R 400 ls st T else z_Y C zc_L_isWell R 386 ls st T) := Iff.trans (z_Y_at (cd := zc_L_isWell) (pc := 383) (zo_ifne 400 386) rfl) (Iff.of_eq z_do_ite)
set_option maxRecDepth 20000 in
theorem ze_L_isWell_386 {p0 p1 p2 p3 p4 p5 p6 p7 p8 p9 p10 : bb_V} {x : Int32} {t : List bb_V} : z_Y C zc_L_isWell R 386 (p0 :: p1 :: p2 :: p3 :: p4 :: p5 :: p6 :: p7 :: p8 :: p9 :: p10 :: bb_I x :: t) st T ↔ z_Y C zc_L_isWell R 388 (p0 :: p1 :: p2 :: p3 :: p4 :: p5 :: p6 :: p7 :: p8 :: p9 :: p10 :: bb_I x :: t) (bb_I x :: st) T := Iff.trans (z_Y_at (cd := zc_L_isWell) (pc := 386) (zo_iload 11 388) rfl) (Iff.of_eq rfl)
set_option maxRecDepth 20000 in
theorem ze_L_isWell_388 {a : Int32} : z_Y C zc_L_isWell R 388 ls (bb_I a :: st) T ↔ (if a ≠ 0 then z_Y C zc_L_isWell R 400 ls st T else z_Y C zc_L_isWell R 391 ls st T) := Iff.trans (z_Y_at (cd := zc_L_isWell) (pc := 388) (zo_ifne 400 391) rfl) (Iff.of_eq z_do_ite)
set_option maxRecDepth 20000 in
theorem ze_L_isWell_391 {p0 p1 p2 p3 p4 p5 p6 p7 p8 p9 p10 p11 p12 p13 : bb_V} {x : Int32} {t : List bb_V} : z_Y C zc_L_isWell R 391 (p0 :: p1 :: p2 :: p3 :: p4 :: p5 :: p6 :: p7 :: p8 :: p9 :: p10 :: p11 :: p12 :: p13 :: bb_I x :: t) st T ↔ z_Y C zc_L_isWell R 393 (p0 :: p1 :: p2 :: p3 :: p4 :: p5 :: p6 :: p7 :: p8 :: p9 :: p10 :: p11 :: p12 :: p13 :: bb_I x :: t) (bb_I x :: st) T := Iff.trans (z_Y_at (cd := zc_L_isWell) (pc := 391) (zo_iload 14 393) rfl) (Iff.of_eq rfl)
set_option maxRecDepth 20000 in
theorem ze_L_isWell_393 {a : Int32} : z_Y C zc_L_isWell R 393 ls (bb_I a :: st) T ↔ (if a = 0 then z_Y C zc_L_isWell R 400 ls st T else z_Y C zc_L_isWell R 396 ls st T) := Iff.trans (z_Y_at (cd := zc_L_isWell) (pc := 393) (zo_ifeq 400 396) rfl) (Iff.of_eq z_do_ite)
set_option maxRecDepth 20000 in
theorem ze_L_isWell_396  : z_Y C zc_L_isWell R 396 ls st T ↔ z_Y C zc_L_isWell R 397 ls (bb_I 1 :: st) T := Iff.trans (z_Y_at (cd := zc_L_isWell) (pc := 396) (zo_const 1 397) rfl) (Iff.of_eq rfl)
set_option maxRecDepth 20000 in
theorem ze_L_isWell_397  : z_Y C zc_L_isWell R 397 ls st T ↔ z_Y C zc_L_isWell R 401 ls st T := Iff.trans (z_Y_at (cd := zc_L_isWell) (pc := 397) (zo_goto 401) rfl) (Iff.of_eq rfl)
set_option maxRecDepth 20000 in
theorem ze_L_isWell_400  : z_Y C zc_L_isWell R 400 ls st T ↔ z_Y C zc_L_isWell R 401 ls (bb_I 0 :: st) T := Iff.trans (z_Y_at (cd := zc_L_isWell) (pc := 400) (zo_const 0 401) rfl) (Iff.of_eq rfl)
set_option maxRecDepth 20000 in
theorem ze_L_isWell_401 {a b : Int32} : z_Y C zc_L_isWell R 401 ls (bb_I b :: bb_I a :: st) T ↔ (if a ≠ b then z_Y C zc_L_isWell R 433 ls st T else z_Y C zc_L_isWell R 404 ls st T) := Iff.trans (z_Y_at (cd := zc_L_isWell) (pc := 401) (zo_icne 433 404) rfl) (Iff.of_eq z_do_ite)
set_option maxRecDepth 20000 in
theorem ze_L_isWell_404 {k j : Nat} {t : List bb_V} : z_Y C zc_L_isWell R 404 (bb_R k j :: t) st T ↔ z_Y C zc_L_isWell R 405 (bb_R k j :: t) (bb_R k j :: st) T := Iff.trans (z_Y_at (cd := zc_L_isWell) (pc := 404) (zo_aload 0 405) rfl) (Iff.of_eq rfl)
set_option maxRecDepth 20000 in
theorem ze_L_isWell_405 {p0 p1 p2 p3 p4 p5 : bb_V} {x : Int32} {t : List bb_V} : z_Y C zc_L_isWell R 405 (p0 :: p1 :: p2 :: p3 :: p4 :: p5 :: bb_I x :: t) st T ↔ z_Y C zc_L_isWell R 407 (p0 :: p1 :: p2 :: p3 :: p4 :: p5 :: bb_I x :: t) (bb_I x :: st) T := Iff.trans (z_Y_at (cd := zc_L_isWell) (pc := 405) (zo_iload 6 407) rfl) (Iff.of_eq rfl)
set_option maxRecDepth 20000 in
theorem ze_L_isWell_407  : z_Y C zc_L_isWell R 407 ls st T ↔ z_Y C zc_L_isWell R 408 ls (bb_I 5 :: st) T := Iff.trans (z_Y_at (cd := zc_L_isWell) (pc := 407) (zo_const 5 408) rfl) (Iff.of_eq rfl)
set_option maxRecDepth 20000 in
theorem ze_L_isWell_408 {x1 : Int32} {x2 : Int32} : z_Y C zc_L_isWell R 408 ls (bb_I x2 :: bb_I x1 :: bb_R 40 0 :: []) T ↔ z_call C 29 [bb_R 40 0, bb_I x1, bb_I x2] T (fun r T2 => z_Y C zc_L_isWell R 411 ls (bb_I r :: []) T2) := Iff.trans (z_Y_at (cd := zc_L_isWell) (pc := 408) (zo_callv 29 3 411) rfl) ((zq_callv_3 (by decide) (by decide)).trans ⟨fun h => h.2, fun h => ⟨Nat.le_of_ble_eq_true rfl, h⟩⟩)
set_option maxRecDepth 20000 in
theorem ze_L_isWell_411 {p0 p1 p2 p3 p4 p5 p6 p7 p8 : bb_V} {x : Int32} {t : List bb_V} : z_Y C zc_L_isWell R 411 (p0 :: p1 :: p2 :: p3 :: p4 :: p5 :: p6 :: p7 :: p8 :: bb_I x :: t) st T ↔ z_Y C zc_L_isWell R 413 (p0 :: p1 :: p2 :: p3 :: p4 :: p5 :: p6 :: p7 :: p8 :: bb_I x :: t) (bb_I x :: st) T := Iff.trans (z_Y_at (cd := zc_L_isWell) (pc := 411) (zo_iload 9 413) rfl) (Iff.of_eq rfl)
set_option maxRecDepth 20000 in
theorem ze_L_isWell_413 {a b : Int32} : z_Y C zc_L_isWell R 413 ls (bb_I b :: bb_I a :: st) T ↔ z_Y C zc_L_isWell R 414 ls (bb_I (a >>> (b &&& 31)) :: st) T := Iff.trans (z_Y_at (cd := zc_L_isWell) (pc := 413) (zo_ishr 414) rfl) (Iff.of_eq rfl)
set_option maxRecDepth 20000 in
theorem ze_L_isWell_414  : z_Y C zc_L_isWell R 414 ls st T ↔ z_Y C zc_L_isWell R 415 ls (bb_I 1 :: st) T := Iff.trans (z_Y_at (cd := zc_L_isWell) (pc := 414) (zo_const 1 415) rfl) (Iff.of_eq rfl)
set_option maxRecDepth 20000 in
theorem ze_L_isWell_415 {a b : Int32} : z_Y C zc_L_isWell R 415 ls (bb_I b :: bb_I a :: st) T ↔ z_Y C zc_L_isWell R 416 ls (bb_I (a &&& b) :: st) T := Iff.trans (z_Y_at (cd := zc_L_isWell) (pc := 415) (zo_iand 416) rfl) (Iff.of_eq rfl)
set_option maxRecDepth 20000 in
theorem ze_L_isWell_416 {p0 p1 p2 p3 p4 p5 p6 p7 p8 p9 p10 : bb_V} {x : Int32} {t : List bb_V} : z_Y C zc_L_isWell R 416 (p0 :: p1 :: p2 :: p3 :: p4 :: p5 :: p6 :: p7 :: p8 :: p9 :: p10 :: bb_I x :: t) st T ↔ z_Y C zc_L_isWell R 418 (p0 :: p1 :: p2 :: p3 :: p4 :: p5 :: p6 :: p7 :: p8 :: p9 :: p10 :: bb_I x :: t) (bb_I x :: st) T := Iff.trans (z_Y_at (cd := zc_L_isWell) (pc := 416) (zo_iload 11 418) rfl) (Iff.of_eq rfl)
set_option maxRecDepth 20000 in
theorem ze_L_isWell_418 {a : Int32} : z_Y C zc_L_isWell R 418 ls (bb_I a :: st) T ↔ (if a = 0 then z_Y C zc_L_isWell R 425 ls st T else z_Y C zc_L_isWell R 421 ls st T) := Iff.trans (z_Y_at (cd := zc_L_isWell) (pc := 418) (zo_ifeq 425 421) rfl) (Iff.of_eq z_do_ite)
set_option maxRecDepth 20000 in
theorem ze_L_isWell_421  : z_Y C zc_L_isWell R 421 ls st T ↔ z_Y C zc_L_isWell R 422 ls (bb_I 1 :: st) T := Iff.trans (z_Y_at (cd := zc_L_isWell) (pc := 421) (zo_const 1 422) rfl) (Iff.of_eq rfl)
set_option maxRecDepth 20000 in
theorem ze_L_isWell_422  : z_Y C zc_L_isWell R 422 ls st T ↔ z_Y C zc_L_isWell R 426 ls st T := Iff.trans (z_Y_at (cd := zc_L_isWell) (pc := 422) (zo_goto 426) rfl) (Iff.of_eq rfl)
set_option maxRecDepth 20000 in
theorem ze_L_isWell_425  : z_Y C zc_L_isWell R 425 ls st T ↔ z_Y C zc_L_isWell R 426 ls (bb_I 0 :: st) T := Iff.trans (z_Y_at (cd := zc_L_isWell) (pc := 425) (zo_const 0 426) rfl) (Iff.of_eq rfl)
set_option maxRecDepth 20000 in
theorem ze_L_isWell_426 {a b : Int32} : z_Y C zc_L_isWell R 426 ls (bb_I b :: bb_I a :: st) T ↔ (if a ≠ b then z_Y C zc_L_isWell R 433 ls st T else z_Y C zc_L_isWell R 429 ls st T) := Iff.trans (z_Y_at (cd := zc_L_isWell) (pc := 426) (zo_icne 433 429) rfl) (Iff.of_eq z_do_ite)
set_option maxRecDepth 20000 in
theorem ze_L_isWell_429  : z_Y C zc_L_isWell R 429 ls st T ↔ z_Y C zc_L_isWell R 430 ls (bb_I 1 :: st) T := Iff.trans (z_Y_at (cd := zc_L_isWell) (pc := 429) (zo_const 1 430) rfl) (Iff.of_eq rfl)
set_option maxRecDepth 20000 in
theorem ze_L_isWell_430  : z_Y C zc_L_isWell R 430 ls st T ↔ z_Y C zc_L_isWell R 434 ls st T := Iff.trans (z_Y_at (cd := zc_L_isWell) (pc := 430) (zo_goto 434) rfl) (Iff.of_eq rfl)
set_option maxRecDepth 20000 in
theorem ze_L_isWell_433  : z_Y C zc_L_isWell R 433 ls st T ↔ z_Y C zc_L_isWell R 434 ls (bb_I 0 :: st) T := Iff.trans (z_Y_at (cd := zc_L_isWell) (pc := 433) (zo_const 0 434) rfl) (Iff.of_eq rfl)
set_option maxRecDepth 20000 in
theorem ze_L_isWell_434 {p0 p1 p2 p3 p4 : bb_V} {x : Int32} {q : bb_V} {t : List bb_V} : z_Y C zc_L_isWell R 434 (p0 :: p1 :: p2 :: p3 :: p4 :: q :: t) (bb_I x :: st) T ↔ z_Y C zc_L_isWell R 436 (p0 :: p1 :: p2 :: p3 :: p4 :: bb_I x :: t) st T := Iff.trans (z_Y_at (cd := zc_L_isWell) (pc := 434) (zo_istore 5 436) rfl) (Iff.of_eq rfl)
set_option maxRecDepth 20000 in
theorem ze_L_isWell_436 {p0 p1 p2 p3 p4 p5 p6 p7 p8 : bb_V} {x : Int32} {t : List bb_V} : z_Y C zc_L_isWell R 436 (p0 :: p1 :: p2 :: p3 :: p4 :: p5 :: p6 :: p7 :: p8 :: bb_I x :: t) st T ↔ z_Y C zc_L_isWell R 439 (p0 :: p1 :: p2 :: p3 :: p4 :: p5 :: p6 :: p7 :: p8 :: bb_I (x + 1) :: t) st T := Iff.trans (z_Y_at (cd := zc_L_isWell) (pc := 436) (zo_iinc 9 1 439) rfl) (Iff.of_eq rfl)
set_option maxRecDepth 20000 in
theorem ze_L_isWell_439  : z_Y C zc_L_isWell R 439 ls st T ↔ z_Y C zc_L_isWell R 37 ls st T := Iff.trans (z_Y_at (cd := zc_L_isWell) (pc := 439) (zo_goto 37) rfl) (Iff.of_eq rfl)
set_option maxRecDepth 20000 in
theorem ze_L_isWell_442 {p0 : bb_V} {x : Int32} {t : List bb_V} : z_Y C zc_L_isWell R 442 (p0 :: bb_I x :: t) st T ↔ z_Y C zc_L_isWell R 443 (p0 :: bb_I x :: t) (bb_I x :: st) T := Iff.trans (z_Y_at (cd := zc_L_isWell) (pc := 442) (zo_iload 1 443) rfl) (Iff.of_eq rfl)
set_option maxRecDepth 20000 in
theorem ze_L_isWell_443 {p0 p1 p2 p3 p4 p5 p6 : bb_V} {x : Int32} {t : List bb_V} : z_Y C zc_L_isWell R 443 (p0 :: p1 :: p2 :: p3 :: p4 :: p5 :: p6 :: bb_I x :: t) st T ↔ z_Y C zc_L_isWell R 445 (p0 :: p1 :: p2 :: p3 :: p4 :: p5 :: p6 :: bb_I x :: t) (bb_I x :: st) T := Iff.trans (z_Y_at (cd := zc_L_isWell) (pc := 443) (zo_iload 7 445) rfl) (Iff.of_eq rfl)
set_option maxRecDepth 20000 in
theorem ze_L_isWell_445 {a b : Int32} : z_Y C zc_L_isWell R 445 ls (bb_I b :: bb_I a :: st) T ↔ z_Y C zc_L_isWell R 446 ls (bb_I (a + b) :: st) T := Iff.trans (z_Y_at (cd := zc_L_isWell) (pc := 445) (zo_iadd 446) rfl) (Iff.of_eq rfl)
set_option maxRecDepth 20000 in
theorem ze_L_isWell_446 {p0 : bb_V} {x : Int32} {q : bb_V} {t : List bb_V} : z_Y C zc_L_isWell R 446 (p0 :: q :: t) (bb_I x :: st) T ↔ z_Y C zc_L_isWell R 447 (p0 :: bb_I x :: t) st T := Iff.trans (z_Y_at (cd := zc_L_isWell) (pc := 446) (zo_istore 1 447) rfl) (Iff.of_eq rfl)
set_option maxRecDepth 20000 in
theorem ze_L_isWell_447 {p0 p1 p2 p3 p4 : bb_V} {x : Int32} {t : List bb_V} : z_Y C zc_L_isWell R 447 (p0 :: p1 :: p2 :: p3 :: p4 :: bb_I x :: t) st T ↔ z_Y C zc_L_isWell R 449 (p0 :: p1 :: p2 :: p3 :: p4 :: bb_I x :: t) (bb_I x :: st) T := Iff.trans (z_Y_at (cd := zc_L_isWell) (pc := 447) (zo_iload 5 449) rfl) (Iff.of_eq rfl)
set_option maxRecDepth 20000 in
theorem ze_L_isWell_449 {a : Int32} : z_Y C zc_L_isWell R 449 ls (bb_I a :: st) T ↔ (if a = 0 then z_Y C zc_L_isWell R 517 ls st T else z_Y C zc_L_isWell R 452 ls st T) := Iff.trans (z_Y_at (cd := zc_L_isWell) (pc := 449) (zo_ifeq 517 452) rfl) (Iff.of_eq z_do_ite)
set_option maxRecDepth 20000 in
theorem ze_L_isWell_452 {k j : Nat} {t : List bb_V} : z_Y C zc_L_isWell R 452 (bb_R k j :: t) st T ↔ z_Y C zc_L_isWell R 453 (bb_R k j :: t) (bb_R k j :: st) T := Iff.trans (z_Y_at (cd := zc_L_isWell) (pc := 452) (zo_aload 0 453) rfl) (Iff.of_eq rfl)
set_option maxRecDepth 20000 in
theorem ze_L_isWell_453 {p0 p1 p2 p3 p4 p5 : bb_V} {x : Int32} {t : List bb_V} : z_Y C zc_L_isWell R 453 (p0 :: p1 :: p2 :: p3 :: p4 :: p5 :: bb_I x :: t) st T ↔ z_Y C zc_L_isWell R 455 (p0 :: p1 :: p2 :: p3 :: p4 :: p5 :: bb_I x :: t) (bb_I x :: st) T := Iff.trans (z_Y_at (cd := zc_L_isWell) (pc := 453) (zo_iload 6 455) rfl) (Iff.of_eq rfl)
set_option maxRecDepth 20000 in
theorem ze_L_isWell_455  : z_Y C zc_L_isWell R 455 ls st T ↔ z_Y C zc_L_isWell R 456 ls (bb_I 0 :: st) T := Iff.trans (z_Y_at (cd := zc_L_isWell) (pc := 455) (zo_const 0 456) rfl) (Iff.of_eq rfl)
set_option maxRecDepth 20000 in
theorem ze_L_isWell_456 {x1 : Int32} {x2 : Int32} : z_Y C zc_L_isWell R 456 ls (bb_I x2 :: bb_I x1 :: bb_R 40 0 :: []) T ↔ z_call C 29 [bb_R 40 0, bb_I x1, bb_I x2] T (fun r T2 => z_Y C zc_L_isWell R 459 ls (bb_I r :: []) T2) := Iff.trans (z_Y_at (cd := zc_L_isWell) (pc := 456) (zo_callv 29 3 459) rfl) ((zq_callv_3 (by decide) (by decide)).trans ⟨fun h => h.2, fun h => ⟨Nat.le_of_ble_eq_true rfl, h⟩⟩)
set_option maxRecDepth 20000 in
theorem ze_L_isWell_459 {p0 p1 p2 p3 p4 p5 p6 : bb_V} {x : Int32} {t : List bb_V} : z_Y C zc_L_isWell R 459 (p0 :: p1 :: p2 :: p3 :: p4 :: p5 :: p6 :: bb_I x :: t) st T ↔ z_Y C zc_L_isWell R 461 (p0 :: p1 :: p2 :: p3 :: p4 :: p5 :: p6 :: bb_I x :: t) (bb_I x :: st) T := Iff.trans (z_Y_at (cd := zc_L_isWell) (pc := 459) (zo_iload 7 461) rfl) (Iff.of_eq rfl)
set_option maxRecDepth 20000 in
theorem ze_L_isWell_461 {a b : Int32} : z_Y C zc_L_isWell R 461 ls (bb_I b :: bb_I a :: st) T ↔ (if a ≠ b then z_Y C zc_L_isWell R 517 ls st T else z_Y C zc_L_isWell R 464 ls st T) := Iff.trans (z_Y_at (cd := zc_L_isWell) (pc := 461) (zo_icne 517 464) rfl) (Iff.of_eq z_do_ite)
set_option maxRecDepth 20000 in
theorem ze_L_isWell_464 {k j : Nat} {t : List bb_V} : z_Y C zc_L_isWell R 464 (bb_R k j :: t) st T ↔ z_Y C zc_L_isWell R 465 (bb_R k j :: t) (bb_R k j :: st) T := Iff.trans (z_Y_at (cd := zc_L_isWell) (pc := 464) (zo_aload 0 465) rfl) (Iff.of_eq rfl)
set_option maxRecDepth 20000 in
theorem ze_L_isWell_465 {p0 p1 p2 p3 p4 p5 : bb_V} {x : Int32} {t : List bb_V} : z_Y C zc_L_isWell R 465 (p0 :: p1 :: p2 :: p3 :: p4 :: p5 :: bb_I x :: t) st T ↔ z_Y C zc_L_isWell R 467 (p0 :: p1 :: p2 :: p3 :: p4 :: p5 :: bb_I x :: t) (bb_I x :: st) T := Iff.trans (z_Y_at (cd := zc_L_isWell) (pc := 465) (zo_iload 6 467) rfl) (Iff.of_eq rfl)
set_option maxRecDepth 20000 in
theorem ze_L_isWell_467  : z_Y C zc_L_isWell R 467 ls st T ↔ z_Y C zc_L_isWell R 468 ls (bb_I 3 :: st) T := Iff.trans (z_Y_at (cd := zc_L_isWell) (pc := 467) (zo_const 3 468) rfl) (Iff.of_eq rfl)
set_option maxRecDepth 20000 in
theorem ze_L_isWell_468 {x1 : Int32} {x2 : Int32} : z_Y C zc_L_isWell R 468 ls (bb_I x2 :: bb_I x1 :: bb_R 40 0 :: []) T ↔ z_call C 29 [bb_R 40 0, bb_I x1, bb_I x2] T (fun r T2 => z_Y C zc_L_isWell R 471 ls (bb_I r :: []) T2) := Iff.trans (z_Y_at (cd := zc_L_isWell) (pc := 468) (zo_callv 29 3 471) rfl) ((zq_callv_3 (by decide) (by decide)).trans ⟨fun h => h.2, fun h => ⟨Nat.le_of_ble_eq_true rfl, h⟩⟩)
set_option maxRecDepth 20000 in
theorem ze_L_isWell_471 {p0 p1 p2 p3 p4 p5 p6 p7 : bb_V} {x : Int32} {t : List bb_V} : z_Y C zc_L_isWell R 471 (p0 :: p1 :: p2 :: p3 :: p4 :: p5 :: p6 :: p7 :: bb_I x :: t) st T ↔ z_Y C zc_L_isWell R 473 (p0 :: p1 :: p2 :: p3 :: p4 :: p5 :: p6 :: p7 :: bb_I x :: t) (bb_I x :: st) T := Iff.trans (z_Y_at (cd := zc_L_isWell) (pc := 471) (zo_iload 8 473) rfl) (Iff.of_eq rfl)
set_option maxRecDepth 20000 in
theorem ze_L_isWell_473 {a b : Int32} : z_Y C zc_L_isWell R 473 ls (bb_I b :: bb_I a :: st) T ↔ (if a ≠ b then z_Y C zc_L_isWell R 517 ls st T else z_Y C zc_L_isWell R 476 ls st T) := Iff.trans (z_Y_at (cd := zc_L_isWell) (pc := 473) (zo_icne 517 476) rfl) (Iff.of_eq z_do_ite)
set_option maxRecDepth 20000 in
theorem ze_L_isWell_476 {k j : Nat} {t : List bb_V} : z_Y C zc_L_isWell R 476 (bb_R k j :: t) st T ↔ z_Y C zc_L_isWell R 477 (bb_R k j :: t) (bb_R k j :: st) T := Iff.trans (z_Y_at (cd := zc_L_isWell) (pc := 476) (zo_aload 0 477) rfl) (Iff.of_eq rfl)
set_option maxRecDepth 20000 in
theorem ze_L_isWell_477 {p0 p1 p2 p3 p4 p5 : bb_V} {x : Int32} {t : List bb_V} : z_Y C zc_L_isWell R 477 (p0 :: p1 :: p2 :: p3 :: p4 :: p5 :: bb_I x :: t) st T ↔ z_Y C zc_L_isWell R 479 (p0 :: p1 :: p2 :: p3 :: p4 :: p5 :: bb_I x :: t) (bb_I x :: st) T := Iff.trans (z_Y_at (cd := zc_L_isWell) (pc := 477) (zo_iload 6 479) rfl) (Iff.of_eq rfl)
set_option maxRecDepth 20000 in
theorem ze_L_isWell_479  : z_Y C zc_L_isWell R 479 ls st T ↔ z_Y C zc_L_isWell R 481 ls (bb_I 6 :: st) T := Iff.trans (z_Y_at (cd := zc_L_isWell) (pc := 479) (zo_const 6 481) rfl) (Iff.of_eq rfl)
set_option maxRecDepth 20000 in
theorem ze_L_isWell_481 {x1 : Int32} {x2 : Int32} : z_Y C zc_L_isWell R 481 ls (bb_I x2 :: bb_I x1 :: bb_R 40 0 :: []) T ↔ z_call C 29 [bb_R 40 0, bb_I x1, bb_I x2] T (fun r T2 => z_Y C zc_L_isWell R 484 ls (bb_I r :: []) T2) := Iff.trans (z_Y_at (cd := zc_L_isWell) (pc := 481) (zo_callv 29 3 484) rfl) ((zq_callv_3 (by decide) (by decide)).trans ⟨fun h => h.2, fun h => ⟨Nat.le_of_ble_eq_true rfl, h⟩⟩)
set_option maxRecDepth 20000 in
theorem ze_L_isWell_484  : z_Y C zc_L_isWell R 484 ls st T ↔ z_Y C zc_L_isWell R 487 ls (bb_I (-1005) :: st) T := Iff.trans (z_Y_at (cd := zc_L_isWell) (pc := 484) (zo_const (-1005) 487) rfl) (Iff.of_eq rfl)
set_option maxRecDepth 20000 in
theorem ze_L_isWell_487 {a b : Int32} : z_Y C zc_L_isWell R 487 ls (bb_I b :: bb_I a :: st) T ↔ (if a ≠ b then z_Y C zc_L_isWell R 494 ls st T else z_Y C zc_L_isWell R 490 ls st T) := Iff.trans (z_Y_at (cd := zc_L_isWell) (pc := 487) (zo_icne 494 490) rfl) (Iff.of_eq z_do_ite)
set_option maxRecDepth 20000 in
theorem ze_L_isWell_490  : z_Y C zc_L_isWell R 490 ls st T ↔ z_Y C zc_L_isWell R 491 ls (bb_I 1 :: st) T := Iff.trans (z_Y_at (cd := zc_L_isWell) (pc := 490) (zo_const 1 491) rfl) (Iff.of_eq rfl)
set_option maxRecDepth 20000 in
theorem ze_L_isWell_491  : z_Y C zc_L_isWell R 491 ls st T ↔ z_Y C zc_L_isWell R 495 ls st T := Iff.trans (z_Y_at (cd := zc_L_isWell) (pc := 491) (zo_goto 495) rfl) (Iff.of_eq rfl)
set_option maxRecDepth 20000 in
theorem ze_L_isWell_494  : z_Y C zc_L_isWell R 494 ls st T ↔ z_Y C zc_L_isWell R 495 ls (bb_I 0 :: st) T := Iff.trans (z_Y_at (cd := zc_L_isWell) (pc := 494) (zo_const 0 495) rfl) (Iff.of_eq rfl)
set_option maxRecDepth 20000 in
theorem ze_L_isWell_495 {k j : Nat} {t : List bb_V} : z_Y C zc_L_isWell R 495 (bb_R k j :: t) st T ↔ z_Y C zc_L_isWell R 496 (bb_R k j :: t) (bb_R k j :: st) T := Iff.trans (z_Y_at (cd := zc_L_isWell) (pc := 495) (zo_aload 0 496) rfl) (Iff.of_eq rfl)
set_option maxRecDepth 20000 in
theorem ze_L_isWell_496 {p0 p1 p2 p3 p4 p5 : bb_V} {x : Int32} {t : List bb_V} : z_Y C zc_L_isWell R 496 (p0 :: p1 :: p2 :: p3 :: p4 :: p5 :: bb_I x :: t) st T ↔ z_Y C zc_L_isWell R 498 (p0 :: p1 :: p2 :: p3 :: p4 :: p5 :: bb_I x :: t) (bb_I x :: st) T := Iff.trans (z_Y_at (cd := zc_L_isWell) (pc := 496) (zo_iload 6 498) rfl) (Iff.of_eq rfl)
set_option maxRecDepth 20000 in
theorem ze_L_isWell_498  : z_Y C zc_L_isWell R 498 ls st T ↔ z_Y C zc_L_isWell R 499 ls (bb_I 1 :: st) T := Iff.trans (z_Y_at (cd := zc_L_isWell) (pc := 498) (zo_const 1 499) rfl) (Iff.of_eq rfl)
set_option maxRecDepth 20000 in
theorem ze_L_isWell_499 {x1 : Int32} {x2 : Int32} {z0 : Int32} : z_Y C zc_L_isWell R 499 ls (bb_I x2 :: bb_I x1 :: bb_R 40 0 :: [bb_I z0]) T ↔ z_call C 29 [bb_R 40 0, bb_I x1, bb_I x2] T (fun r T2 => z_Y C zc_L_isWell R 502 ls (bb_I r :: [bb_I z0]) T2) := Iff.trans (z_Y_at (cd := zc_L_isWell) (pc := 499) (zo_callv 29 3 502) rfl) ((zq_callv_3 (by decide) (by decide)).trans ⟨fun h => h.2, fun h => ⟨Nat.le_of_ble_eq_true rfl, h⟩⟩)
set_option maxRecDepth 20000 in
theorem ze_L_isWell_502 {a : Int32} : z_Y C zc_L_isWell R 502 ls (bb_I a :: st) T ↔ (if a ≠ 0 then z_Y C zc_L_isWell R 509 ls st T else z_Y C zc_L_isWell R 505 ls st T) := Iff.trans (z_Y_at (cd := zc_L_isWell) (pc := 502) (zo_ifne 509 505) rfl) (Iff.of_eq z_do_ite)
set_option maxRecDepth 20000 in
theorem ze_L_isWell_505  : z_Y C zc_L_isWell R 505 ls st T ↔ z_Y C zc_L_isWell R 506 ls (bb_I 1 :: st) T := Iff.trans (z_Y_at (cd := zc_L_isWell) (pc := 505) (zo_const 1 506) rfl) (Iff.of_eq rfl)
set_option maxRecDepth 20000 in
theorem ze_L_isWell_506  : z_Y C zc_L_isWell R 506 ls st T ↔ z_Y C zc_L_isWell R 510 ls st T := Iff.trans (z_Y_at (cd := zc_L_isWell) (pc := 506) (zo_goto 510) rfl) (Iff.of_eq rfl)
set_option maxRecDepth 20000 in
theorem ze_L_isWell_509  : z_Y C zc_L_isWell R 509 ls st T ↔ z_Y C zc_L_isWell R 510 ls (bb_I 0 :: st) T := Iff.trans (z_Y_at (cd := zc_L_isWell) (pc := 509) (zo_const 0 510) rfl) (Iff.of_eq rfl)
set_option maxRecDepth 20000 in
theorem ze_L_isWell_510 {a b : Int32} : z_Y C zc_L_isWell R 510 ls (bb_I b :: bb_I a :: st) T ↔ (if a ≠ b then z_Y C zc_L_isWell R 517 ls st T else z_Y C zc_L_isWell R 513 ls st T) := Iff.trans (z_Y_at (cd := zc_L_isWell) (pc := 510) (zo_icne 517 513) rfl) (Iff.of_eq z_do_ite)
set_option maxRecDepth 20000 in
theorem ze_L_isWell_513  : z_Y C zc_L_isWell R 513 ls st T ↔ z_Y C zc_L_isWell R 514 ls (bb_I 1 :: st) T := Iff.trans (z_Y_at (cd := zc_L_isWell) (pc := 513) (zo_const 1 514) rfl) (Iff.of_eq rfl)
set_option maxRecDepth 20000 in
theorem ze_L_isWell_514  : z_Y C zc_L_isWell R 514 ls st T ↔ z_Y C zc_L_isWell R 518 ls st T := Iff.trans (z_Y_at (cd := zc_L_isWell) (pc := 514) (zo_goto 518) rfl) (Iff.of_eq rfl)
set_option maxRecDepth 20000 in
theorem ze_L_isWell_517  : z_Y C zc_L_isWell R 517 ls st T ↔ z_Y C zc_L_isWell R 518 ls (bb_I 0 :: st) T := Iff.trans (z_Y_at (cd := zc_L_isWell) (pc := 517) (zo_const 0 518) rfl) (Iff.of_eq rfl)
set_option maxRecDepth 20000 in
theorem ze_L_isWell_518 {p0 p1 p2 p3 p4 : bb_V} {x : Int32} {q : bb_V} {t : List bb_V} : z_Y C zc_L_isWell R 518 (p0 :: p1 :: p2 :: p3 :: p4 :: q :: t) (bb_I x :: st) T ↔ z_Y C zc_L_isWell R 520 (p0 :: p1 :: p2 :: p3 :: p4 :: bb_I x :: t) st T := Iff.trans (z_Y_at (cd := zc_L_isWell) (pc := 518) (zo_istore 5 520) rfl) (Iff.of_eq rfl)
set_option maxRecDepth 20000 in
theorem ze_L_isWell_520 {p0 p1 p2 p3 p4 p5 : bb_V} {x : Int32} {t : List bb_V} : z_Y C zc_L_isWell R 520 (p0 :: p1 :: p2 :: p3 :: p4 :: p5 :: bb_I x :: t) st T ↔ z_Y C zc_L_isWell R 523 (p0 :: p1 :: p2 :: p3 :: p4 :: p5 :: bb_I (x + 1) :: t) st T := Iff.trans (z_Y_at (cd := zc_L_isWell) (pc := 520) (zo_iinc 6 1 523) rfl) (Iff.of_eq rfl)
set_option maxRecDepth 20000 in
theorem ze_L_isWell_523  : z_Y C zc_L_isWell R 523 ls st T ↔ z_Y C zc_L_isWell R 15 ls st T := Iff.trans (z_Y_at (cd := zc_L_isWell) (pc := 523) (zo_goto 15) rfl) (Iff.of_eq rfl)
set_option maxRecDepth 20000 in
theorem ze_L_isWell_526 {p0 p1 p2 p3 p4 : bb_V} {x : Int32} {t : List bb_V} : z_Y C zc_L_isWell R 526 (p0 :: p1 :: p2 :: p3 :: p4 :: bb_I x :: t) st T ↔ z_Y C zc_L_isWell R 528 (p0 :: p1 :: p2 :: p3 :: p4 :: bb_I x :: t) (bb_I x :: st) T := Iff.trans (z_Y_at (cd := zc_L_isWell) (pc := 526) (zo_iload 5 528) rfl) (Iff.of_eq rfl)
set_option maxRecDepth 20000 in
theorem ze_L_isWell_528 {a : Int32} : z_Y C zc_L_isWell R 528 ls (bb_I a :: st) T ↔ (if a = 0 then z_Y C zc_L_isWell R 595 ls st T else z_Y C zc_L_isWell R 531 ls st T) := Iff.trans (z_Y_at (cd := zc_L_isWell) (pc := 528) (zo_ifeq 595 531) rfl) (Iff.of_eq z_do_ite)
set_option maxRecDepth 20000 in
theorem ze_L_isWell_531 {p0 : bb_V} {x : Int32} {t : List bb_V} : z_Y C zc_L_isWell R 531 (p0 :: bb_I x :: t) st T ↔ z_Y C zc_L_isWell R 532 (p0 :: bb_I x :: t) (bb_I x :: st) T := Iff.trans (z_Y_at (cd := zc_L_isWell) (pc := 531) (zo_iload 1 532) rfl) (Iff.of_eq rfl)
set_option maxRecDepth 20000 in
theorem ze_L_isWell_532 {k j : Nat} {t : List bb_V} : z_Y C zc_L_isWell R 532 (bb_R k j :: t) st T ↔ z_Y C zc_L_isWell R 533 (bb_R k j :: t) (bb_R k j :: st) T := Iff.trans (z_Y_at (cd := zc_L_isWell) (pc := 532) (zo_aload 0 533) rfl) (Iff.of_eq rfl)
set_option maxRecDepth 20000 in
theorem ze_L_isWell_533  : z_Y C zc_L_isWell R 533 ls st T ↔ z_Y C zc_L_isWell R 534 ls (bb_I 0 :: st) T := Iff.trans (z_Y_at (cd := zc_L_isWell) (pc := 533) (zo_const 0 534) rfl) (Iff.of_eq rfl)
set_option maxRecDepth 20000 in
theorem ze_L_isWell_534 {x1 : Int32} {z0 : Int32} : z_Y C zc_L_isWell R 534 ls (bb_I x1 :: bb_R 40 0 :: [bb_I z0]) T ↔ z_call C 34 [bb_R 40 0, bb_I x1] T (fun r T2 => z_Y C zc_L_isWell R 537 ls (bb_I r :: [bb_I z0]) T2) := Iff.trans (z_Y_at (cd := zc_L_isWell) (pc := 534) (zo_callv 34 2 537) rfl) ((zq_callv_2 (by decide) (by decide)).trans ⟨fun h => h.2, fun h => ⟨Nat.le_of_ble_eq_true rfl, h⟩⟩)
set_option maxRecDepth 20000 in
theorem ze_L_isWell_537 {a b : Int32} : z_Y C zc_L_isWell R 537 ls (bb_I b :: bb_I a :: st) T ↔ (if a ≠ b then z_Y C zc_L_isWell R 595 ls st T else z_Y C zc_L_isWell R 540 ls st T) := Iff.trans (z_Y_at (cd := zc_L_isWell) (pc := 537) (zo_icne 595 540) rfl) (Iff.of_eq z_do_ite)
set_option maxRecDepth 20000 in
theorem ze_L_isWell_540 {p0 p1 : bb_V} {x : Int32} {t : List bb_V} : z_Y C zc_L_isWell R 540 (p0 :: p1 :: bb_I x :: t) st T ↔ z_Y C zc_L_isWell R 541 (p0 :: p1 :: bb_I x :: t) (bb_I x :: st) T := Iff.trans (z_Y_at (cd := zc_L_isWell) (pc := 540) (zo_iload 2 541) rfl) (Iff.of_eq rfl)
set_option maxRecDepth 20000 in
theorem ze_L_isWell_541 {k j : Nat} {t : List bb_V} : z_Y C zc_L_isWell R 541 (bb_R k j :: t) st T ↔ z_Y C zc_L_isWell R 542 (bb_R k j :: t) (bb_R k j :: st) T := Iff.trans (z_Y_at (cd := zc_L_isWell) (pc := 541) (zo_aload 0 542) rfl) (Iff.of_eq rfl)
set_option maxRecDepth 20000 in
theorem ze_L_isWell_542  : z_Y C zc_L_isWell R 542 ls st T ↔ z_Y C zc_L_isWell R 544 ls (bb_I 15 :: st) T := Iff.trans (z_Y_at (cd := zc_L_isWell) (pc := 542) (zo_const 15 544) rfl) (Iff.of_eq rfl)
set_option maxRecDepth 20000 in
theorem ze_L_isWell_544 {x1 : Int32} {z0 : Int32} : z_Y C zc_L_isWell R 544 ls (bb_I x1 :: bb_R 40 0 :: [bb_I z0]) T ↔ z_call C 34 [bb_R 40 0, bb_I x1] T (fun r T2 => z_Y C zc_L_isWell R 547 ls (bb_I r :: [bb_I z0]) T2) := Iff.trans (z_Y_at (cd := zc_L_isWell) (pc := 544) (zo_callv 34 2 547) rfl) ((zq_callv_2 (by decide) (by decide)).trans ⟨fun h => h.2, fun h => ⟨Nat.le_of_ble_eq_true rfl, h⟩⟩)
set_option maxRecDepth 20000 in
theorem ze_L_isWell_547 {a b : Int32} : z_Y C zc_L_isWell R 547 ls (bb_I b :: bb_I a :: st) T ↔ (if a ≠ b then z_Y C zc_L_isWell R 595 ls st T else z_Y C zc_L_isWell R 550 ls st T) := Iff.trans (z_Y_at (cd := zc_L_isWell) (pc := 547) (zo_icne 595 550) rfl) (Iff.of_eq z_do_ite)
set_option maxRecDepth 20000 in
theorem ze_L_isWell_550 {p0 p1 p2 : bb_V} {x : Int32} {t : List bb_V} : z_Y C zc_L_isWell R 550 (p0 :: p1 :: p2 :: bb_I x :: t) st T ↔ z_Y C zc_L_isWell R 551 (p0 :: p1 :: p2 :: bb_I x :: t) (bb_I x :: st) T := Iff.trans (z_Y_at (cd := zc_L_isWell) (pc := 550) (zo_iload 3 551) rfl) (Iff.of_eq rfl)
set_option maxRecDepth 20000 in
theorem ze_L_isWell_551 {k j : Nat} {t : List bb_V} : z_Y C zc_L_isWell R 551 (bb_R k j :: t) st T ↔ z_Y C zc_L_isWell R 552 (bb_R k j :: t) (bb_R k j :: st) T := Iff.trans (z_Y_at (cd := zc_L_isWell) (pc := 551) (zo_aload 0 552) rfl) (Iff.of_eq rfl)
set_option maxRecDepth 20000 in
theorem ze_L_isWell_552  : z_Y C zc_L_isWell R 552 ls st T ↔ z_Y C zc_L_isWell R 554 ls (bb_I 16 :: st) T := Iff.trans (z_Y_at (cd := zc_L_isWell) (pc := 552) (zo_const 16 554) rfl) (Iff.of_eq rfl)
set_option maxRecDepth 20000 in
theorem ze_L_isWell_554 {x1 : Int32} {z0 : Int32} : z_Y C zc_L_isWell R 554 ls (bb_I x1 :: bb_R 40 0 :: [bb_I z0]) T ↔ z_call C 34 [bb_R 40 0, bb_I x1] T (fun r T2 => z_Y C zc_L_isWell R 557 ls (bb_I r :: [bb_I z0]) T2) := Iff.trans (z_Y_at (cd := zc_L_isWell) (pc := 554) (zo_callv 34 2 557) rfl) ((zq_callv_2 (by decide) (by decide)).trans ⟨fun h => h.2, fun h => ⟨Nat.le_of_ble_eq_true rfl, h⟩⟩)
set_option maxRecDepth 20000 in
theorem ze_L_isWell_557 {a b : Int32} : z_Y C zc_L_isWell R 557 ls (bb_I b :: bb_I a :: st) T ↔ (if a ≠ b then z_Y C zc_L_isWell R 595 ls st T else z_Y C zc_L_isWell R 560 ls st T) := Iff.trans (z_Y_at (cd := zc_L_isWell) (pc := 557) (zo_icne 595 560) rfl) (Iff.of_eq z_do_ite)
set_option maxRecDepth 20000 in
theorem ze_L_isWell_560 {p0 p1 p2 p3 : bb_V} {x : Int32} {t : List bb_V} : z_Y C zc_L_isWell R 560 (p0 :: p1 :: p2 :: p3 :: bb_I x :: t) st T ↔ z_Y C zc_L_isWell R 562 (p0 :: p1 :: p2 :: p3 :: bb_I x :: t) (bb_I x :: st) T := Iff.trans (z_Y_at (cd := zc_L_isWell) (pc := 560) (zo_iload 4 562) rfl) (Iff.of_eq rfl)
set_option maxRecDepth 20000 in
theorem ze_L_isWell_562 {k j : Nat} {t : List bb_V} : z_Y C zc_L_isWell R 562 (bb_R k j :: t) st T ↔ z_Y C zc_L_isWell R 563 (bb_R k j :: t) (bb_R k j :: st) T := Iff.trans (z_Y_at (cd := zc_L_isWell) (pc := 562) (zo_aload 0 563) rfl) (Iff.of_eq rfl)
set_option maxRecDepth 20000 in
theorem ze_L_isWell_563  : z_Y C zc_L_isWell R 563 ls st T ↔ z_Y C zc_L_isWell R 565 ls (bb_I 17 :: st) T := Iff.trans (z_Y_at (cd := zc_L_isWell) (pc := 563) (zo_const 17 565) rfl) (Iff.of_eq rfl)
set_option maxRecDepth 20000 in
theorem ze_L_isWell_565 {x1 : Int32} {z0 : Int32} : z_Y C zc_L_isWell R 565 ls (bb_I x1 :: bb_R 40 0 :: [bb_I z0]) T ↔ z_call C 34 [bb_R 40 0, bb_I x1] T (fun r T2 => z_Y C zc_L_isWell R 568 ls (bb_I r :: [bb_I z0]) T2) := Iff.trans (z_Y_at (cd := zc_L_isWell) (pc := 565) (zo_callv 34 2 568) rfl) ((zq_callv_2 (by decide) (by decide)).trans ⟨fun h => h.2, fun h => ⟨Nat.le_of_ble_eq_true rfl, h⟩⟩)
set_option maxRecDepth 20000 in
theorem ze_L_isWell_568 {a b : Int32} : z_Y C zc_L_isWell R 568 ls (bb_I b :: bb_I a :: st) T ↔ (if a ≠ b then z_Y C zc_L_isWell R 595 ls st T else z_Y C zc_L_isWell R 571 ls st T) := Iff.trans (z_Y_at (cd := zc_L_isWell) (pc := 568) (zo_icne 595 571) rfl) (Iff.of_eq z_do_ite)
set_option maxRecDepth 20000 in
theorem ze_L_isWell_571 {k j : Nat} {t : List bb_V} : z_Y C zc_L_isWell R 571 (bb_R k j :: t) st T ↔ z_Y C zc_L_isWell R 572 (bb_R k j :: t) (bb_R k j :: st) T := Iff.trans (z_Y_at (cd := zc_L_isWell) (pc := 571) (zo_aload 0 572) rfl) (Iff.of_eq rfl)
set_option maxRecDepth 20000 in
theorem ze_L_isWell_572  : z_Y C zc_L_isWell R 572 ls st T ↔ z_Y C zc_L_isWell R 573 ls (bb_I 0 :: st) T := Iff.trans (z_Y_at (cd := zc_L_isWell) (pc := 572) (zo_const 0 573) rfl) (Iff.of_eq rfl)
set_option maxRecDepth 20000 in
theorem ze_L_isWell_573  : z_Y C zc_L_isWell R 573 ls st T ↔ z_Y C zc_L_isWell R 575 ls (bb_I 9 :: st) T := Iff.trans (z_Y_at (cd := zc_L_isWell) (pc := 573) (zo_const 9 575) rfl) (Iff.of_eq rfl)
set_option maxRecDepth 20000 in
theorem ze_L_isWell_575 {x1 : Int32} {x2 : Int32} : z_Y C zc_L_isWell R 575 ls (bb_I x2 :: bb_I x1 :: bb_R 40 0 :: []) T ↔ z_call C 33 [bb_R 40 0, bb_I x1, bb_I x2] T (fun r T2 => z_Y C zc_L_isWell R 578 ls (bb_I r :: []) T2) := Iff.trans (z_Y_at (cd := zc_L_isWell) (pc := 575) (zo_callv 33 3 578) rfl) ((zq_callv_3 (by decide) (by decide)).trans ⟨fun h => h.2, fun h => ⟨Nat.le_of_ble_eq_true rfl, h⟩⟩)
set_option maxRecDepth 20000 in
theorem ze_L_isWell_578 {k j : Nat} {t : List bb_V} : z_Y C zc_L_isWell R 578 (bb_R k j :: t) st T ↔ z_Y C zc_L_isWell R 579 (bb_R k j :: t) (bb_R k j :: st) T := Iff.trans (z_Y_at (cd := zc_L_isWell) (pc := 578) (zo_aload 0 579) rfl) (Iff.of_eq rfl)
set_option maxRecDepth 20000 in
theorem ze_L_isWell_579  : z_Y C zc_L_isWell R 579 ls st T ↔ z_Y C zc_L_isWell R 581 ls (bb_I 10 :: st) T := Iff.trans (z_Y_at (cd := zc_L_isWell) (pc := 579) (zo_const 10 581) rfl) (Iff.of_eq rfl)
set_option maxRecDepth 20000 in
theorem ze_L_isWell_581  : z_Y C zc_L_isWell R 581 ls st T ↔ z_Y C zc_L_isWell R 583 ls (bb_I 19 :: st) T := Iff.trans (z_Y_at (cd := zc_L_isWell) (pc := 581) (zo_const 19 583) rfl) (Iff.of_eq rfl)
set_option maxRecDepth 20000 in
theorem ze_L_isWell_583 {x1 : Int32} {x2 : Int32} {z0 : Int32} : z_Y C zc_L_isWell R 583 ls (bb_I x2 :: bb_I x1 :: bb_R 40 0 :: [bb_I z0]) T ↔ z_call C 33 [bb_R 40 0, bb_I x1, bb_I x2] T (fun r T2 => z_Y C zc_L_isWell R 586 ls (bb_I r :: [bb_I z0]) T2) := Iff.trans (z_Y_at (cd := zc_L_isWell) (pc := 583) (zo_callv 33 3 586) rfl) ((zq_callv_3 (by decide) (by decide)).trans ⟨fun h => h.2, fun h => ⟨Nat.le_of_ble_eq_true rfl, h⟩⟩)
set_option maxRecDepth 20000 in
theorem ze_L_isWell_586 {a b : Int32} : z_Y C zc_L_isWell R 586 ls (bb_I b :: bb_I a :: st) T ↔ z_Y C zc_L_isWell R 587 ls (bb_I (a + b) :: st) T := Iff.trans (z_Y_at (cd := zc_L_isWell) (pc := 586) (zo_iadd 587) rfl) (Iff.of_eq rfl)
set_option maxRecDepth 20000 in
theorem ze_L_isWell_587 {p0 : bb_V} {x : Int32} {t : List bb_V} : z_Y C zc_L_isWell R 587 (p0 :: bb_I x :: t) st T ↔ z_Y C zc_L_isWell R 588 (p0 :: bb_I x :: t) (bb_I x :: st) T := Iff.trans (z_Y_at (cd := zc_L_isWell) (pc := 587) (zo_iload 1 588) rfl) (Iff.of_eq rfl)
set_option maxRecDepth 20000 in
theorem ze_L_isWell_588 {a b : Int32} : z_Y C zc_L_isWell R 588 ls (bb_I b :: bb_I a :: st) T ↔ (if a ≠ b then z_Y C zc_L_isWell R 595 ls st T else z_Y C zc_L_isWell R 591 ls st T) := Iff.trans (z_Y_at (cd := zc_L_isWell) (pc := 588) (zo_icne 595 591) rfl) (Iff.of_eq z_do_ite)
set_option maxRecDepth 20000 in
theorem ze_L_isWell_591  : z_Y C zc_L_isWell R 591 ls st T ↔ z_Y C zc_L_isWell R 592 ls (bb_I 1 :: st) T := Iff.trans (z_Y_at (cd := zc_L_isWell) (pc := 591) (zo_const 1 592) rfl) (Iff.of_eq rfl)
set_option maxRecDepth 20000 in
theorem ze_L_isWell_592  : z_Y C zc_L_isWell R 592 ls st T ↔ z_Y C zc_L_isWell R 596 ls st T := Iff.trans (z_Y_at (cd := zc_L_isWell) (pc := 592) (zo_goto 596) rfl) (Iff.of_eq rfl)
set_option maxRecDepth 20000 in
theorem ze_L_isWell_595  : z_Y C zc_L_isWell R 595 ls st T ↔ z_Y C zc_L_isWell R 596 ls (bb_I 0 :: st) T := Iff.trans (z_Y_at (cd := zc_L_isWell) (pc := 595) (zo_const 0 596) rfl) (Iff.of_eq rfl)
set_option maxRecDepth 20000 in
theorem ze_L_isWell_596 {v : Int32} : z_Y C zc_L_isWell R 596 ls [bb_I v] T ↔ ((v = 0 ∨ v = 1) ∧ R v T) := Iff.trans (z_Y_at (cd := zc_L_isWell) (pc := 596) (zo_zret) rfl) (zq_zret)
end EL
section EL
variable {C : z_C} {R : z_P} {T : z_T} {ls st : List bb_V}
theorem ze_L_law_16  : z_Y C zc_L_law R 16 ls st T ↔ z_Y C zc_L_law R 17 ls (bb_I 1 :: st) T := Iff.trans (z_Y_at (cd := zc_L_law) (pc := 16) (zo_const 1 17) rfl) (Iff.of_eq rfl)
theorem ze_L_law_17 {p0 p1 p2 : bb_V} {x : Int32} {q : bb_V} {t : List bb_V} : z_Y C zc_L_law R 17 (p0 :: p1 :: p2 :: q :: t) (bb_I x :: st) T ↔ z_Y C zc_L_law R 18 (p0 :: p1 :: p2 :: bb_I x :: t) st T := Iff.trans (z_Y_at (cd := zc_L_law) (pc := 17) (zo_istore 3 18) rfl) (Iff.of_eq rfl)
theorem ze_L_law_18  : z_Y C zc_L_law R 18 ls st T ↔ z_Y C zc_L_law R 19 ls (bb_I 0 :: st) T := Iff.trans (z_Y_at (cd := zc_L_law) (pc := 18) (zo_const 0 19) rfl) (Iff.of_eq rfl)
theorem ze_L_law_19 {p0 p1 p2 p3 : bb_V} {x : Int32} {q : bb_V} {t : List bb_V} : z_Y C zc_L_law R 19 (p0 :: p1 :: p2 :: p3 :: q :: t) (bb_I x :: st) T ↔ z_Y C zc_L_law R 21 (p0 :: p1 :: p2 :: p3 :: bb_I x :: t) st T := Iff.trans (z_Y_at (cd := zc_L_law) (pc := 19) (zo_istore 4 21) rfl) (Iff.of_eq rfl)
theorem zh_L_law_21 {p0 p1 p2 p3 : bb_V} {x : Int32} {t : List bb_V} : z_Y C zc_L_law R 21 (p0 :: p1 :: p2 :: p3 :: bb_I x :: t) st T ↔ z_Y C zc_L_law R 23 (p0 :: p1 :: p2 :: p3 :: bb_I x :: t) (bb_I x :: st) T := Iff.trans (z_Y_at (cd := zc_L_law) (pc := 21) (zo_iload 4 23) rfl) (Iff.of_eq rfl)
theorem ze_L_law_23  : z_Y C zc_L_law R 23 ls st T ↔ z_Y C zc_L_law R 25 ls (bb_I 44 :: st) T := Iff.trans (z_Y_at (cd := zc_L_law) (pc := 23) (zo_const 44 25) rfl) (Iff.of_eq rfl)
theorem ze_L_law_25 {a b : Int32} : z_Y C zc_L_law R 25 ls (bb_I b :: bb_I a :: st) T ↔ (if b ≤ a then z_Y C zc_L_law R 82 ls st T else z_Y C zc_L_law R 28 ls st T) := Iff.trans (z_Y_at (cd := zc_L_law) (pc := 25) (zo_icge 82 28) rfl) (Iff.of_eq z_do_ite)
theorem ze_L_law_28 {p0 p1 p2 : bb_V} {x : Int32} {t : List bb_V} : z_Y C zc_L_law R 28 (p0 :: p1 :: p2 :: bb_I x :: t) st T ↔ z_Y C zc_L_law R 29 (p0 :: p1 :: p2 :: bb_I x :: t) (bb_I x :: st) T := Iff.trans (z_Y_at (cd := zc_L_law) (pc := 28) (zo_iload 3 29) rfl) (Iff.of_eq rfl)
theorem ze_L_law_29 {a : Int32} : z_Y C zc_L_law R 29 ls (bb_I a :: st) T ↔ (if a = 0 then z_Y C zc_L_law R 82 ls st T else z_Y C zc_L_law R 32 ls st T) := Iff.trans (z_Y_at (cd := zc_L_law) (pc := 29) (zo_ifeq 82 32) rfl) (Iff.of_eq z_do_ite)
theorem ze_L_law_32 {p0 : bb_V} {k j : Nat} {t : List bb_V} : z_Y C zc_L_law R 32 (p0 :: bb_R k j :: t) st T ↔ z_Y C zc_L_law R 33 (p0 :: bb_R k j :: t) (bb_R k j :: st) T := Iff.trans (z_Y_at (cd := zc_L_law) (pc := 32) (zo_aload 1 33) rfl) (Iff.of_eq rfl)
theorem ze_L_law_33 {p0 p1 : bb_V} {k j : Nat} {t : List bb_V} : z_Y C zc_L_law R 33 (p0 :: p1 :: bb_R k j :: t) st T ↔ z_Y C zc_L_law R 34 (p0 :: p1 :: bb_R k j :: t) (bb_R k j :: st) T := Iff.trans (z_Y_at (cd := zc_L_law) (pc := 33) (zo_aload 2 34) rfl) (Iff.of_eq rfl)
theorem ze_L_law_34 {k j : Nat} {t : List bb_V} : z_Y C zc_L_law R 34 (bb_R k j :: t) st T ↔ z_Y C zc_L_law R 35 (bb_R k j :: t) (bb_R k j :: st) T := Iff.trans (z_Y_at (cd := zc_L_law) (pc := 34) (zo_aload 0 35) rfl) (Iff.of_eq rfl)
theorem ze_L_law_35 {p0 p1 p2 p3 : bb_V} {x : Int32} {t : List bb_V} : z_Y C zc_L_law R 35 (p0 :: p1 :: p2 :: p3 :: bb_I x :: t) st T ↔ z_Y C zc_L_law R 37 (p0 :: p1 :: p2 :: p3 :: bb_I x :: t) (bb_I x :: st) T := Iff.trans (z_Y_at (cd := zc_L_law) (pc := 35) (zo_iload 4 37) rfl) (Iff.of_eq rfl)
theorem ze_L_law_37 {x1 : Int32} : z_Y C zc_L_law R 37 ls (bb_I x1 :: bb_R 42 0 :: [bb_R 41 0, bb_R 40 0]) T ↔ z_call C 0 [bb_R 42 0, bb_I x1] T (fun r T2 => z_Y C zc_L_law R 40 ls (bb_I r :: [bb_R 41 0, bb_R 40 0]) T2) := Iff.trans (z_Y_at (cd := zc_L_law) (pc := 37) (zo_callc 40) rfl) (zq_callc.trans ⟨fun h => h.2, fun h => ⟨Nat.le_of_ble_eq_true rfl, h⟩⟩)
theorem ze_L_law_40 {k j : Nat} {t : List bb_V} : z_Y C zc_L_law R 40 (bb_R k j :: t) st T ↔ z_Y C zc_L_law R 41 (bb_R k j :: t) (bb_R k j :: st) T := Iff.trans (z_Y_at (cd := zc_L_law) (pc := 40) (zo_aload 0 41) rfl) (Iff.of_eq rfl)
theorem ze_L_law_41 {p0 p1 p2 p3 : bb_V} {x : Int32} {t : List bb_V} : z_Y C zc_L_law R 41 (p0 :: p1 :: p2 :: p3 :: bb_I x :: t) st T ↔ z_Y C zc_L_law R 43 (p0 :: p1 :: p2 :: p3 :: bb_I x :: t) (bb_I x :: st) T := Iff.trans (z_Y_at (cd := zc_L_law) (pc := 41) (zo_iload 4 43) rfl) (Iff.of_eq rfl)
theorem ze_L_law_43  : z_Y C zc_L_law R 43 ls st T ↔ z_Y C zc_L_law R 44 ls (bb_I 1 :: st) T := Iff.trans (z_Y_at (cd := zc_L_law) (pc := 43) (zo_const 1 44) rfl) (Iff.of_eq rfl)
theorem ze_L_law_44 {a b : Int32} : z_Y C zc_L_law R 44 ls (bb_I b :: bb_I a :: st) T ↔ z_Y C zc_L_law R 45 ls (bb_I (a + b) :: st) T := Iff.trans (z_Y_at (cd := zc_L_law) (pc := 44) (zo_iadd 45) rfl) (Iff.of_eq rfl)
theorem ze_L_law_45 {x1 : Int32} {z2 : Int32} : z_Y C zc_L_law R 45 ls (bb_I x1 :: bb_R 42 0 :: [bb_I z2, bb_R 41 0, bb_R 40 0]) T ↔ z_call C 0 [bb_R 42 0, bb_I x1] T (fun r T2 => z_Y C zc_L_law R 48 ls (bb_I r :: [bb_I z2, bb_R 41 0, bb_R 40 0]) T2) := Iff.trans (z_Y_at (cd := zc_L_law) (pc := 45) (zo_callc 48) rfl) (zq_callc.trans ⟨fun h => h.2, fun h => ⟨Nat.le_of_ble_eq_true rfl, h⟩⟩)
theorem ze_L_law_48  : z_Y C zc_L_law R 48 ls st T ↔ z_Y C zc_L_law R 49 ls (bb_I 2 :: st) T := Iff.trans (z_Y_at (cd := zc_L_law) (pc := 48) (zo_const 2 49) rfl) (Iff.of_eq rfl)
theorem ze_L_law_49 {a b : Int32} : z_Y C zc_L_law R 49 ls (bb_I b :: bb_I a :: st) T ↔ z_Y C zc_L_law R 50 ls (bb_I (a >>> (b &&& 31)) :: st) T := Iff.trans (z_Y_at (cd := zc_L_law) (pc := 49) (zo_ishr 50) rfl) (Iff.of_eq rfl)
theorem ze_L_law_50 {x2 : Int32} {x3 : Int32} : z_Y C zc_L_law R 50 ls (bb_I x3 :: bb_I x2 :: bb_R 41 0 :: bb_R 40 0 :: []) T ↔ z_call C 2 [bb_R 40 0, bb_R 41 0, bb_I x2, bb_I x3] T (fun r T2 => z_Y C zc_L_law R 53 ls (bb_I r :: []) T2) := Iff.trans (z_Y_at (cd := zc_L_law) (pc := 50) (zo_call 2 4 53) rfl) ((zq_call_4 (by decide)).trans ⟨fun h => h.2, fun h => ⟨⟨Nat.le_of_ble_eq_true rfl, rfl⟩, h⟩⟩)
theorem ze_L_law_53 {a : Int32} : z_Y C zc_L_law R 53 ls (bb_I a :: st) T ↔ (if a = 0 then z_Y C zc_L_law R 74 ls st T else z_Y C zc_L_law R 56 ls st T) := Iff.trans (z_Y_at (cd := zc_L_law) (pc := 53) (zo_ifeq 74 56) rfl) (Iff.of_eq z_do_ite)
theorem ze_L_law_56 {p0 p1 p2 p3 : bb_V} {x : Int32} {t : List bb_V} : z_Y C zc_L_law R 56 (p0 :: p1 :: p2 :: p3 :: bb_I x :: t) st T ↔ z_Y C zc_L_law R 58 (p0 :: p1 :: p2 :: p3 :: bb_I x :: t) (bb_I x :: st) T := Iff.trans (z_Y_at (cd := zc_L_law) (pc := 56) (zo_iload 4 58) rfl) (Iff.of_eq rfl)
theorem ze_L_law_58  : z_Y C zc_L_law R 58 ls st T ↔ z_Y C zc_L_law R 59 ls (bb_I 5 :: st) T := Iff.trans (z_Y_at (cd := zc_L_law) (pc := 58) (zo_const 5 59) rfl) (Iff.of_eq rfl)
theorem ze_L_law_59 {a b : Int32} : z_Y C zc_L_law R 59 ls (bb_I b :: bb_I a :: st) T ↔ (b ≠ 0 ∧ z_Y C zc_L_law R 60 ls (bb_I (a - a / b * b) :: st) T) := Iff.trans (z_Y_at (cd := zc_L_law) (pc := 59) (zo_irem 60) rfl) (zq_irem)
theorem ze_L_law_60 {a : Int32} : z_Y C zc_L_law R 60 ls (bb_I a :: st) T ↔ (if 0 < a then z_Y C zc_L_law R 70 ls st T else z_Y C zc_L_law R 63 ls st T) := Iff.trans (z_Y_at (cd := zc_L_law) (pc := 60) (zo_ifgt 70 63) rfl) (Iff.of_eq z_do_ite)
theorem ze_L_law_63 {p0 : bb_V} {k j : Nat} {t : List bb_V} : z_Y C zc_L_law R 63 (p0 :: bb_R k j :: t) st T ↔ z_Y C zc_L_law R 64 (p0 :: bb_R k j :: t) (bb_R k j :: st) T := Iff.trans (z_Y_at (cd := zc_L_law) (pc := 63) (zo_aload 1 64) rfl) (Iff.of_eq rfl)
theorem ze_L_law_64  : z_Y C zc_L_law R 64 ls (bb_R 40 0 :: []) T ↔ z_call C 7 [bb_R 40 0] T (fun r T2 => z_Y C zc_L_law R 67 ls (bb_I r :: []) T2) := Iff.trans (z_Y_at (cd := zc_L_law) (pc := 64) (zo_call 7 1 67) rfl) ((zq_call_1 (by decide)).trans ⟨fun h => h.2, fun h => ⟨⟨Nat.le_of_ble_eq_true rfl, rfl⟩, h⟩⟩)
theorem ze_L_law_67 {a : Int32} : z_Y C zc_L_law R 67 ls (bb_I a :: st) T ↔ (if a = 0 then z_Y C zc_L_law R 74 ls st T else z_Y C zc_L_law R 70 ls st T) := Iff.trans (z_Y_at (cd := zc_L_law) (pc := 67) (zo_ifeq 74 70) rfl) (Iff.of_eq z_do_ite)
theorem ze_L_law_70  : z_Y C zc_L_law R 70 ls st T ↔ z_Y C zc_L_law R 71 ls (bb_I 1 :: st) T := Iff.trans (z_Y_at (cd := zc_L_law) (pc := 70) (zo_const 1 71) rfl) (Iff.of_eq rfl)
theorem ze_L_law_71  : z_Y C zc_L_law R 71 ls st T ↔ z_Y C zc_L_law R 75 ls st T := Iff.trans (z_Y_at (cd := zc_L_law) (pc := 71) (zo_goto 75) rfl) (Iff.of_eq rfl)
theorem ze_L_law_74  : z_Y C zc_L_law R 74 ls st T ↔ z_Y C zc_L_law R 75 ls (bb_I 0 :: st) T := Iff.trans (z_Y_at (cd := zc_L_law) (pc := 74) (zo_const 0 75) rfl) (Iff.of_eq rfl)
theorem ze_L_law_75 {p0 p1 p2 : bb_V} {x : Int32} {q : bb_V} {t : List bb_V} : z_Y C zc_L_law R 75 (p0 :: p1 :: p2 :: q :: t) (bb_I x :: st) T ↔ z_Y C zc_L_law R 76 (p0 :: p1 :: p2 :: bb_I x :: t) st T := Iff.trans (z_Y_at (cd := zc_L_law) (pc := 75) (zo_istore 3 76) rfl) (Iff.of_eq rfl)
theorem ze_L_law_76 {p0 p1 p2 p3 : bb_V} {x : Int32} {t : List bb_V} : z_Y C zc_L_law R 76 (p0 :: p1 :: p2 :: p3 :: bb_I x :: t) st T ↔ z_Y C zc_L_law R 79 (p0 :: p1 :: p2 :: p3 :: bb_I (x + 1) :: t) st T := Iff.trans (z_Y_at (cd := zc_L_law) (pc := 76) (zo_iinc 4 1 79) rfl) (Iff.of_eq rfl)
theorem ze_L_law_79  : z_Y C zc_L_law R 79 ls st T ↔ z_Y C zc_L_law R 21 ls st T := Iff.trans (z_Y_at (cd := zc_L_law) (pc := 79) (zo_goto 21) rfl) (Iff.of_eq rfl)
theorem ze_L_law_82 {p0 p1 p2 : bb_V} {x : Int32} {t : List bb_V} : z_Y C zc_L_law R 82 (p0 :: p1 :: p2 :: bb_I x :: t) st T ↔ z_Y C zc_L_law R 83 (p0 :: p1 :: p2 :: bb_I x :: t) (bb_I x :: st) T := Iff.trans (z_Y_at (cd := zc_L_law) (pc := 82) (zo_iload 3 83) rfl) (Iff.of_eq rfl)
theorem ze_L_law_83 {a : Int32} : z_Y C zc_L_law R 83 ls (bb_I a :: st) T ↔ (if a = 0 then z_Y C zc_L_law R 111 ls st T else z_Y C zc_L_law R 86 ls st T) := Iff.trans (z_Y_at (cd := zc_L_law) (pc := 83) (zo_ifeq 111 86) rfl) (Iff.of_eq z_do_ite)
theorem ze_L_law_86 {p0 : bb_V} {k j : Nat} {t : List bb_V} : z_Y C zc_L_law R 86 (p0 :: bb_R k j :: t) st T ↔ z_Y C zc_L_law R 87 (p0 :: bb_R k j :: t) (bb_R k j :: st) T := Iff.trans (z_Y_at (cd := zc_L_law) (pc := 86) (zo_aload 1 87) rfl) (Iff.of_eq rfl)
theorem ze_L_law_87  : z_Y C zc_L_law R 87 ls (bb_R 40 0 :: []) T ↔ z_call C 7 [bb_R 40 0] T (fun r T2 => z_Y C zc_L_law R 90 ls (bb_I r :: []) T2) := Iff.trans (z_Y_at (cd := zc_L_law) (pc := 87) (zo_call 7 1 90) rfl) ((zq_call_1 (by decide)).trans ⟨fun h => h.2, fun h => ⟨⟨Nat.le_of_ble_eq_true rfl, rfl⟩, h⟩⟩)
theorem ze_L_law_90 {a : Int32} : z_Y C zc_L_law R 90 ls (bb_I a :: st) T ↔ (if a = 0 then z_Y C zc_L_law R 111 ls st T else z_Y C zc_L_law R 93 ls st T) := Iff.trans (z_Y_at (cd := zc_L_law) (pc := 90) (zo_ifeq 111 93) rfl) (Iff.of_eq z_do_ite)
theorem ze_L_law_93 {p0 : bb_V} {k j : Nat} {t : List bb_V} : z_Y C zc_L_law R 93 (p0 :: bb_R k j :: t) st T ↔ z_Y C zc_L_law R 94 (p0 :: bb_R k j :: t) (bb_R k j :: st) T := Iff.trans (z_Y_at (cd := zc_L_law) (pc := 93) (zo_aload 1 94) rfl) (Iff.of_eq rfl)
theorem ze_L_law_94 {p0 p1 : bb_V} {k j : Nat} {t : List bb_V} : z_Y C zc_L_law R 94 (p0 :: p1 :: bb_R k j :: t) st T ↔ z_Y C zc_L_law R 95 (p0 :: p1 :: bb_R k j :: t) (bb_R k j :: st) T := Iff.trans (z_Y_at (cd := zc_L_law) (pc := 94) (zo_aload 2 95) rfl) (Iff.of_eq rfl)
theorem ze_L_law_95 {k j : Nat} {t : List bb_V} : z_Y C zc_L_law R 95 (bb_R k j :: t) st T ↔ z_Y C zc_L_law R 96 (bb_R k j :: t) (bb_R k j :: st) T := Iff.trans (z_Y_at (cd := zc_L_law) (pc := 95) (zo_aload 0 96) rfl) (Iff.of_eq rfl)
theorem ze_L_law_96  : z_Y C zc_L_law R 96 ls st T ↔ z_Y C zc_L_law R 98 ls (bb_I 45 :: st) T := Iff.trans (z_Y_at (cd := zc_L_law) (pc := 96) (zo_const 45 98) rfl) (Iff.of_eq rfl)
theorem ze_L_law_98 {x1 : Int32} : z_Y C zc_L_law R 98 ls (bb_I x1 :: bb_R 42 0 :: [bb_R 41 0, bb_R 40 0]) T ↔ z_call C 0 [bb_R 42 0, bb_I x1] T (fun r T2 => z_Y C zc_L_law R 101 ls (bb_I r :: [bb_R 41 0, bb_R 40 0]) T2) := Iff.trans (z_Y_at (cd := zc_L_law) (pc := 98) (zo_callc 101) rfl) (zq_callc.trans ⟨fun h => h.2, fun h => ⟨Nat.le_of_ble_eq_true rfl, h⟩⟩)
theorem ze_L_law_101 {x2 : Int32} : z_Y C zc_L_law R 101 ls (bb_I x2 :: bb_R 41 0 :: bb_R 40 0 :: []) T ↔ z_call C 6 [bb_R 40 0, bb_R 41 0, bb_I x2] T (fun r T2 => z_Y C zc_L_law R 104 ls (bb_I r :: []) T2) := Iff.trans (z_Y_at (cd := zc_L_law) (pc := 101) (zo_call 6 3 104) rfl) ((zq_call_3 (by decide)).trans ⟨fun h => h.2, fun h => ⟨⟨Nat.le_of_ble_eq_true rfl, rfl⟩, h⟩⟩)
theorem ze_L_law_104 {a : Int32} : z_Y C zc_L_law R 104 ls (bb_I a :: st) T ↔ (if a = 0 then z_Y C zc_L_law R 111 ls st T else z_Y C zc_L_law R 107 ls st T) := Iff.trans (z_Y_at (cd := zc_L_law) (pc := 104) (zo_ifeq 111 107) rfl) (Iff.of_eq z_do_ite)
theorem ze_L_law_107  : z_Y C zc_L_law R 107 ls st T ↔ z_Y C zc_L_law R 108 ls (bb_I 1 :: st) T := Iff.trans (z_Y_at (cd := zc_L_law) (pc := 107) (zo_const 1 108) rfl) (Iff.of_eq rfl)
theorem ze_L_law_108  : z_Y C zc_L_law R 108 ls st T ↔ z_Y C zc_L_law R 112 ls st T := Iff.trans (z_Y_at (cd := zc_L_law) (pc := 108) (zo_goto 112) rfl) (Iff.of_eq rfl)
theorem ze_L_law_111  : z_Y C zc_L_law R 111 ls st T ↔ z_Y C zc_L_law R 112 ls (bb_I 0 :: st) T := Iff.trans (z_Y_at (cd := zc_L_law) (pc := 111) (zo_const 0 112) rfl) (Iff.of_eq rfl)
theorem ze_L_law_112 {v : Int32} : z_Y C zc_L_law R 112 ls [bb_I v] T ↔ ((v = 0 ∨ v = 1) ∧ R v T) := Iff.trans (z_Y_at (cd := zc_L_law) (pc := 112) (zo_zret) rfl) (zq_zret)
end EL
