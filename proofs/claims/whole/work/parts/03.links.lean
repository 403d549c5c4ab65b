def gl_F : List (Nat × Nat × Nat × Nat × Nat) := [
  (8, 9, 8, 0, 70), (8, 15, 8, 1, 71), (10, 92, 8, 1, 72), (7, 56, 8, 1, 73), (7, 37, 7, 0, 86), (4, 33, 7, 0, 87), (10, 160, 7, 0, 88), (7, 9, 7, 1, 89),
  (9, 89, 7, 1, 90), (10, 314, 7, 1, 91), (7, 40, 7, 2, 92), (2, 50, 7, 2, 93), (4, 75, 7, 2, 94), (9, 104, 7, 2, 95), (10, 317, 7, 2, 96), (7, 47, 7, 3, 97),
  (9, 57, 7, 3, 98), (5, 57, 7, 3, 99), (10, 111, 7, 3, 100), (2, 44, 7, 4, 101), (7, 59, 7, 4, 102), (4, 65, 7, 4, 103), (5, 53, 7, 4, 104), (10, 114, 7, 4, 105),
  (9, 107, 7, 4, 106), (7, 15, 7, 5, 107), (4, 78, 7, 5, 108), (9, 82, 7, 5, 109), (10, 124, 7, 5, 110), (7, 19, 7, 6, 111), (4, 71, 7, 6, 112), (10, 130, 7, 6, 113),
  (7, 22, 7, 7, 114), (4, 87, 7, 7, 115), (10, 133, 7, 7, 116), (7, 25, 7, 8, 117), (10, 136, 7, 8, 118), (7, 28, 7, 9, 119), (10, 139, 7, 9, 120), (3, 9, 3, 0, 148),
  (9, 33, 3, 0, 149), (10, 120, 3, 0, 150), (3, 18, 3, 1, 151), (9, 43, 3, 1, 152), (10, 180, 3, 1, 153), (3, 22, 3, 2, 154), (10, 150, 3, 2, 155), (9, 114, 3, 2, 156),
  (3, 25, 3, 3, 157), (9, 51, 3, 3, 158), (10, 167, 3, 3, 159), (0, 11, 0, 0, 178), (0, 22, 0, 1, 179), (0, 18, 0, 2, 180), (10, 187, 0, 2, 181), (6, 11, 6, 0, 197),
  (6, 17, 6, 1, 198), (5, 9, 5, 0, 211), (5, 15, 5, 1, 212), (5, 18, 5, 2, 213), (5, 22, 5, 3, 214), (10, 258, 5, 3, 215), (5, 26, 5, 4, 216), (10, 262, 5, 4, 217),
  (5, 35, 5, 5, 218), (10, 265, 5, 5, 219), (5, 38, 5, 6, 220), (10, 268, 5, 6, 221), (9, 29, 9, 0, 245), (9, 11, 9, 1, 246), (4, 68, 9, 1, 247), (9, 16, 9, 2, 248),
  (9, 19, 9, 3, 249), (9, 23, 9, 4, 250), (9, 26, 9, 5, 251), (5, 60, 9, 5, 252), (10, 177, 9, 5, 253), (9, 47, 9, 6, 254), (9, 48, 9, 7, 255), (9, 72, 9, 8, 256),
  (9, 75, 9, 9, 257), (9, 65, 9, 10, 258), (9, 54, 9, 11, 259), (4, 59, 9, 11, 260), (4, 43, 9, 12, 261), (9, 62, 9, 12, 262), (10, 238, 9, 12, 263), (1, 7, 1, 0, 297),
  (1, 33, 1, 1, 298), (10, 206, 1, 1, 299), (1, 30, 1, 2, 300), (10, 204, 1, 2, 301), (2, 18, 2, 0, 315), (2, 22, 2, 1, 316), (2, 9, 2, 2, 317), (2, 15, 2, 3, 318),
  (4, 25, 4, 0, 335), (4, 29, 4, 1, 336), (4, 11, 4, 2, 337), (4, 16, 4, 3, 338), (4, 19, 4, 4, 339), (4, 22, 4, 5, 340), (4, 94, 4, 6, 341), (10, 293, 4, 6, 342),
  (4, 97, 4, 7, 343), (10, 296, 4, 7, 344), (10, 10, 10, 0, 362), (10, 19, 10, 1, 363), (10, 26, 10, 2, 364), (10, 30, 10, 3, 365), (10, 36, 10, 4, 366), (10, 43, 10, 5, 367),
  (10, 50, 10, 6, 368), (10, 59, 10, 7, 369), (10, 68, 10, 8, 370), (10, 77, 10, 9, 371), (10, 84, 10, 10, 372), (10, 299, 10, 11, 373), (11, 104, 11, 0, 835), (11, 65, 11, 1, 836),
  (11, 107, 11, 2, 837), (11, 110, 11, 3, 838), (11, 113, 11, 4, 839), (11, 7, 11, 5, 840), (11, 13, 11, 6, 841), (11, 16, 11, 7, 842), (11, 19, 11, 8, 843), (11, 22, 11, 9, 844),
  (11, 25, 11, 10, 845), (11, 84, 11, 11, 846), (11, 87, 11, 12, 847), (11, 28, 11, 13, 848), (11, 31, 11, 14, 849), (11, 75, 11, 15, 850), (11, 81, 11, 16, 851), (11, 78, 11, 17, 852),
  (11, 34, 11, 18, 853), (11, 116, 11, 19, 854), (11, 141, 11, 20, 855), (11, 37, 11, 21, 856), (11, 161, 11, 22, 857), (11, 168, 11, 23, 858), (11, 40, 11, 24, 859), (11, 195, 11, 25, 860),
  (11, 43, 11, 26, 861), (11, 46, 11, 27, 862), (11, 49, 11, 28, 863), (11, 203, 11, 29, 864), (11, 217, 11, 30, 865), (11, 220, 11, 31, 866), (11, 53, 11, 32, 867), (11, 56, 11, 33, 868),
  (11, 232, 11, 34, 869), (11, 59, 11, 35, 870), (11, 62, 11, 36, 871)]
theorem gl_F_ok : (gl_F.all (fun r => (lw_tbl[r.2.2.2.2]? == some (.fieldLink (gb_n r.1) r.2.1 (gb_F r.2.2.1 r.2.2.2.1).1 (gb_F r.2.2.1 r.2.2.2.1).2.1 (gb_F r.2.2.1 r.2.2.2.1).2.2.1)) && (decide (r.2.2.1 < 12) && decide (r.2.2.2.1 < gb_K r.2.2.1)))) = true := by decide +kernel
/-- static arrays: class, entry, which (1, 2), by a nest mate -/
def gl_S : List (Nat × Nat × Nat × Nat) := [(10, 224, 1, 0), (10, 231, 2, 0), (2, 65, 1, 1)]
def gl_sn (k : Nat) : String := if k = 1 then "FACTORIALS" else "TENS"
theorem gl_S_ok : (gl_S.all (fun r => (if r.2.2.2 = 0 then decide (Cond.fieldLink (gb_n r.1) r.2.1 "MorningBill" (gl_sn r.2.2.1) "[I" ∈ lw_tbl) else decide (Cond.fieldLinkNest (gb_n r.1) r.2.1 "MorningBill" (gl_sn r.2.2.1) "[I" "MorningBill" ∈ lw_tbl)))) = true := by decide +kernel
def gl_y (j : Nat) : MethodName := match j with | 1000 => objectInit | 1001 => arraycopyName | 1002 => Lib.Math.max.name | 1003 => Lib.Math.min.name | 1004 => Lib.MathLoose.max_long.x | 1005 => Lib.MathLoose.abs_long.x | _ => gm_y j
def gl_M : List (Nat × Nat × Nat × Nat) := [
  (12, 9, 63, 58), (10, 1, 1000, 61), (8, 3, 1000, 69), (7, 3, 1000, 85), (3, 3, 1000, 147), (10, 35, 0, 171), (0, 3, 1000, 174), (10, 42, 27, 191),
  (6, 3, 1000, 194), (5, 3, 1000, 210), (10, 56, 49, 239), (9, 3, 1000, 242), (10, 65, 4, 293), (1, 1, 1000, 296), (10, 74, 8, 311), (2, 3, 1000, 314),
  (10, 83, 16, 330), (4, 3, 1000, 333), (12, 13, 64, 399), (10, 88, 38, 403), (12, 18, 65, 407), (12, 23, 66, 411), (10, 96, 42, 415), (8, 27, 41, 419),
  (8, 19, 39, 423), (8, 23, 48, 427), (8, 31, 44, 430), (8, 38, 45, 434), (8, 44, 47, 438), (8, 48, 40, 442), (8, 41, 46, 446), (8, 35, 43, 450),
  (12, 27, 67, 454), (10, 100, 32, 458), (7, 31, 40, 462), (7, 43, 41, 463), (7, 50, 39, 464), (7, 53, 33, 465), (10, 104, 13, 468), (3, 15, 14, 472),
  (10, 107, 1, 476), (10, 110, 28, 480), (12, 31, 68, 484), (10, 117, 93, 488), (12, 35, 69, 491), (12, 39, 70, 495), (10, 127, 34, 499), (10, 142, 35, 503),
  (10, 146, 96, 507), (12, 44, 71, 510), (12, 48, 72, 514), (10, 153, 97, 518), (10, 156, 2, 522), (0, 25, 15, 526), (3, 28, 1001, 530), (0, 29, 1003, 533),
  (10, 163, 50, 536), (9, 37, 1001, 540), (10, 170, 53, 541), (9, 78, 54, 546), (9, 85, 55, 550), (9, 92, 56, 553), (9, 96, 57, 557), (9, 100, 35, 561),
  (9, 110, 36, 562), (10, 174, 62, 566), (12, 53, 73, 570), (12, 57, 74, 574), (10, 183, 3, 578), (12, 61, 75, 582), (10, 190, 94, 586), (10, 194, 98, 590),
  (10, 198, 58, 594), (12, 65, 76, 598), (10, 201, 5, 602), (1, 13, 51, 606), (1, 19, 52, 610), (1, 23, 53, 614), (1, 27, 58, 615), (1, 36, 7, 616),
  (1, 43, 163, 619), (12, 69, 77, 625), (10, 209, 76, 629), (10, 213, 15, 630), (12, 73, 78, 631), (10, 217, 9, 636), (2, 26, 51, 640), (2, 32, 52, 641),
  (2, 36, 53, 642), (2, 40, 10, 643), (2, 53, 163, 647), (2, 58, 60, 648), (10, 220, 11, 652), (10, 227, 104, 660), (10, 340, 1005, 663), (10, 346, 105, 666),
  (10, 350, 1004, 669), (12, 78, 79, 672), (10, 234, 100, 678), (10, 241, 99, 682), (10, 245, 59, 685), (12, 82, 80, 689), (10, 249, 61, 693), (12, 86, 81, 697),
  (10, 252, 6, 701), (1, 40, 61, 705), (12, 90, 82, 706), (10, 255, 24, 710), (12, 95, 83, 714), (12, 99, 84, 718), (10, 259, 25, 722), (5, 29, 51, 726),
  (5, 41, 52, 727), (5, 45, 53, 728), (5, 49, 26, 729), (12, 103, 85, 734), (10, 271, 95, 738), (10, 276, 102, 742), (10, 326, 51, 746), (10, 329, 52, 747),
  (10, 332, 163, 748), (10, 280, 103, 749), (10, 337, 60, 752), (12, 108, 86, 753), (12, 113, 87, 758), (10, 286, 14, 762), (10, 289, 17, 763), (4, 39, 18, 767),
  (4, 55, 50, 771), (4, 62, 53, 772), (4, 48, 19, 773), (4, 81, 1002, 777), (4, 90, 36, 780), (4, 52, 20, 781), (4, 100, 21, 785), (4, 104, 22, 789),
  (12, 119, 88, 793), (12, 124, 89, 797), (10, 303, 101, 801), (12, 128, 90, 808), (10, 306, 29, 812), (6, 22, 15, 816), (12, 132, 91, 817), (10, 310, 30, 821),
  (12, 136, 92, 825), (12, 12, 106, 831), (11, 1, 1000, 834), (12, 17, 110, 947), (11, 71, 107, 952), (12, 22, 111, 955), (12, 26, 116, 959), (11, 100, 114, 963),
  (11, 90, 112, 967), (11, 94, 113, 971), (11, 98, 115, 974), (12, 30, 117, 978), (12, 34, 119, 982), (12, 38, 120, 987), (12, 43, 123, 991), (11, 125, 118, 995),
  (11, 121, 121, 1000), (12, 47, 124, 1004), (12, 52, 131, 1008), (11, 144, 130, 1012), (11, 147, 128, 1016), (11, 150, 127, 1020), (11, 133, 125, 1024), (11, 130, 108, 1028),
  (11, 137, 126, 1031), (11, 153, 122, 1035), (12, 56, 132, 1039), (12, 60, 133, 1043), (12, 64, 136, 1047), (11, 165, 134, 1052), (11, 157, 129, 1056), (12, 68, 138, 1060),
  (11, 177, 137, 1064), (11, 171, 135, 1068), (11, 174, 109, 1072), (12, 72, 139, 1075), (12, 77, 142, 1079), (11, 181, 140, 1084), (11, 184, 141, 1087), (12, 81, 144, 1090),
  (11, 190, 143, 1095), (12, 85, 145, 1098), (12, 89, 146, 1102), (12, 94, 147, 1106), (12, 98, 148, 1111), (12, 102, 150, 1115), (11, 200, 149, 1120), (12, 107, 152, 1124),
  (11, 211, 151, 1130), (12, 112, 153, 1134), (12, 116, 157, 1139), (11, 223, 155, 1143), (11, 226, 154, 1147), (11, 229, 156, 1151), (12, 123, 158, 1155), (12, 127, 159, 1159),
  (12, 131, 160, 1166), (12, 135, 161, 1170), (12, 139, 162, 1174)]
theorem gl_M_ok : (gl_M.all (fun r => lw_tbl[r.2.2.2]? == some (.methodLink (gb_n r.1) r.2.1 (gl_y r.2.2.1)))) = true := by decide +kernel
def gl_N : List (Nat × Nat × Nat × Nat) := [(10, 9, 37, 66), (10, 18, 31, 82), (10, 25, 12, 144), (0, 17, 12, 177), (6, 21, 12, 196), (10, 49, 23, 207), (9, 68, 96, 545), (2, 61, 96, 656), (5, 63, 96, 733)]
theorem gl_N_ok : (gl_N.all (fun r => lw_tbl[r.2.2.2]? == some (.methodLinkNest (gb_n r.1) r.2.1 (gl_y r.2.2.1) "MorningBill"))) = true := by decide +kernel
def gl_cn (t : Nat) : String := if t = 15 then "[[I" else gb_n t
def gl_C : List (Nat × Nat × Nat × Nat) := [(12, 7, 10, 56), (10, 7, 8, 64), (10, 16, 7, 80), (10, 23, 3, 142), (10, 33, 0, 169), (0, 9, 3, 175), (10, 40, 6, 189), (6, 9, 3, 195), (10, 47, 5, 205), (10, 54, 9, 237), (9, 9, 15, 243), (10, 63, 1, 291), (10, 72, 2, 309), (10, 81, 4, 328), (4, 9, 15, 334), (12, 10, 11, 829)]
theorem gl_C_ok : (gl_C.all (fun r => lw_tbl[r.2.2.2]? == some (.classLink (gb_n r.1) r.2.1 (gl_cn r.2.2.1)))) = true := by decide +kernel
def gb_iv (a b : Nat) : Int32 := match b with | 0 => Int32.ofNat a | _ => -(Int32.ofNat a)
def gb_lv (a b : Nat) : Int64 := match b with | 0 => Int64.ofNat a | _ => -(Int64.ofNat a)
def gl_K : List (Nat × Nat × Nat × Nat × Nat) := [(10, 193, 1000002, 1, 589), (13, 265, 1431655765, 0, 622), (13, 266, 858993459, 0, 623), (13, 267, 252645135, 0, 624), (10, 216, 1000001, 1, 635), (11, 164, 1000002, 1, 1051), (11, 180, 1000001, 1, 1083)]
theorem gl_K_ok : (gl_K.all (fun r => lw_tbl[r.2.2.2.2]? == some (.constant (gb_n r.1) r.2.1 (gb_iv r.2.2.1 r.2.2.2.1)))) = true := by decide +kernel
def gl_L : List (Nat × Nat × Nat × Nat × Nat) := [(10, 274, 1000000000002, 1, 741), (10, 284, 1000000000001, 1, 757), (10, 320, 6364136223846793005, 0, 805), (10, 322, 1442695040888963407, 0, 806), (10, 324, 2, 0, 807), (11, 69, 255, 0, 951), (11, 119, 9, 0, 986), (11, 128, 3, 0, 999), (11, 188, 8, 0, 1094), (11, 193, 7, 0, 1110), (11, 198, 2, 0, 1119), (11, 207, 10, 0, 1128), (11, 209, 1000000000002, 1, 1129), (11, 215, 1000000000001, 1, 1138), (11, 235, 20, 0, 1163), (11, 237, 6364136223846793005, 0, 1164), (11, 239, 1442695040888963407, 0, 1165), (12, 117, 4294967295, 0, 1178)]
theorem gl_L_ok : (gl_L.all (fun r => lw_tbl[r.2.2.2.2]? == some (.constantLong (gb_n r.1) r.2.1 (gb_lv r.2.2.1 r.2.2.2.1)))) = true := by decide +kernel
def gb_mw (i : Nat) : List Cond := Cond.code (gm_y i) (gm_b i) (gm_L i) (gm_r i) :: .initialized (gm_y i).cls :: (if gm_k i = 0 then [.static (gm_y i)] else if gm_k i = 1 then [.instanceMethod (gm_y i), .selects (gm_y i).cls (gm_y i) (gm_y i)] else [.instanceMethod (gm_y i)])
def gb_mr (i : Nat) : List Cond := .initialized (gm_y i).cls :: (if gm_k i = 0 then [.static (gm_y i)] else if gm_k i = 1 then [.instanceMethod (gm_y i), .selects (gm_y i).cls (gm_y i) (gm_y i)] else [.instanceMethod (gm_y i)])
def gb_P : List (List Nat) := [
  [173, 45, 172], [479, 45, 477, 478], [525, 45, 523, 524], [581, 45, 579, 580], [295, 49, 294], [605, 49, 603, 604], [704, 49, 702, 703], [618, 49, 617],
  [313, 50, 312], [639, 50, 637, 638], [646, 50, 645, 10], [655, 50, 653, 654], [146, 44, 145], [471, 44, 469, 470], [475, 44, 473, 474], [529, 44, 527, 528],
  [332, 51, 331], [766, 51, 764, 765], [770, 51, 769, 14], [776, 51, 775, 15], [784, 51, 783, 16], [788, 51, 787, 17], [792, 51, 791, 18], [209, 47, 208],
  [713, 47, 711, 712], [725, 47, 723, 724], [732, 47, 731, 12], [193, 46, 192], [483, 46, 481, 482], [815, 46, 813, 814], [824, 46, 822, 823], [84, 43, 83],
  [461, 43, 459, 460], [467, 43, 466], [502, 43, 500, 501], [506, 43, 504, 505], [565, 43, 563, 564], [68, 42, 67], [406, 42, 404, 405], [426, 42, 424, 425],
  [445, 42, 443, 444], [422, 42, 420, 421], [418, 42, 416, 417], [453, 42, 452, 4], [433, 42, 432, 0], [437, 42, 436, 1], [449, 42, 448, 3], [441, 42, 440, 2],
  [429, 42, 428], [241, 48, 240], [539, 48, 537, 538], [609, 48, 607, 608], [613, 48, 611, 612], [544, 48, 542, 543], [549, 48, 548, 6], [552, 48, 551],
  [556, 48, 555, 7], [560, 48, 559, 8], [597, 48, 595, 596], [688, 48, 686, 687], [651, 48, 649, 650], [696, 48, 694, 695], [569, 48, 567, 568], [60, 41, 59],
  [402, 41, 400, 401], [410, 41, 408, 409], [414, 41, 412, 413], [457, 41, 455, 456], [487, 41, 485, 486], [494, 41, 492, 493], [498, 41, 496, 497], [513, 41, 511, 512],
  [517, 41, 515, 516], [573, 41, 571, 572], [577, 41, 575, 576], [585, 41, 583, 584], [601, 41, 599, 600], [628, 41, 626, 627], [634, 41, 632, 633], [675, 41, 673, 674],
  [692, 41, 690, 691], [700, 41, 698, 699], [709, 41, 707, 708], [717, 41, 715, 716], [721, 41, 719, 720], [737, 41, 735, 736], [756, 41, 754, 755], [761, 41, 759, 760],
  [796, 41, 794, 795], [800, 41, 798, 799], [811, 41, 809, 810], [820, 41, 818, 819], [828, 41, 826, 827], [490, 41, 489], [588, 41, 587], [740, 41, 739],
  [509, 41, 508], [521, 41, 520, 5], [593, 41, 592, 9], [684, 41, 683], [681, 41, 680, 11], [804, 41, 803, 19], [745, 41, 744, 13], [751, 41, 750],
  [662, 41, 661], [668, 41, 667], [833, 52, 832], [954, 52, 953], [1030, 52, 1029], [1074, 52, 1073], [950, 52, 948, 949], [958, 52, 956, 957],
  [970, 52, 969, 21], [973, 52, 972], [966, 52, 965, 20], [977, 52, 976, 22], [962, 52, 960, 961], [981, 52, 979, 980], [998, 52, 997, 23], [985, 52, 983, 984],
  [990, 52, 988, 989], [1003, 52, 1002, 24], [1038, 52, 1037, 30], [994, 52, 992, 993], [1007, 52, 1005, 1006], [1027, 52, 1026, 28], [1034, 52, 1033, 29], [1023, 52, 1022, 27],
  [1019, 52, 1018, 26], [1059, 52, 1058, 32], [1015, 52, 1014, 25], [1011, 52, 1009, 1010], [1042, 52, 1040, 1041], [1046, 52, 1044, 1045], [1055, 52, 1054, 31], [1071, 52, 1070, 34],
  [1050, 52, 1048, 1049], [1067, 52, 1066, 33], [1063, 52, 1061, 1062], [1078, 52, 1076, 1077], [1086, 52, 1085], [1089, 52, 1088], [1082, 52, 1080, 1081], [1097, 52, 1096],
  [1093, 52, 1091, 1092], [1101, 52, 1099, 1100], [1105, 52, 1103, 1104], [1109, 52, 1107, 1108], [1114, 52, 1112, 1113], [1123, 52, 1122, 35], [1118, 52, 1116, 1117], [1133, 52, 1132, 36],
  [1127, 52, 1125, 1126], [1137, 52, 1135, 1136], [1150, 52, 1149, 38], [1146, 52, 1145, 37], [1154, 52, 1153, 39], [1142, 52, 1140, 1141], [1158, 52, 1156, 1157], [1162, 52, 1160, 1161],
  [1169, 52, 1167, 1168], [1173, 52, 1171, 1172], [1177, 52, 1175, 1176], [621, 55, 620]]
def gb_in : List Nat → List Cond → Bool
  | p :: ps, w :: ws => (lw_tbl[p]? == some w) && (goodWord w && gb_in ps ws)
  | [], [] => true
  | _, _ => false
theorem gb_in_ok : ∀ (ps : List Nat) (ws : List Cond), gb_in ps ws = true → ∀ w ∈ ws, w ∈ gb_t
  | [], [], _, w, h => by simp at h
  | [], _ :: _, h, _, _ => by simp [gb_in] at h
  | _ :: _, [], h, _, _ => by simp [gb_in] at h
  | p :: ps, x :: xs, h, w, hw => by
    simp only [gb_in, Bool.and_eq_true] at h
    rcases List.mem_cons.mp hw with e | e
    · rw [e]; exact gb_tin (gb_at p h.1) h.2.1
    · exact gb_in_ok ps xs h.2.2 w e
def gb_mk (i : Nat) : Bool := (plainName (gm_y i).cls && decide ((parseMethodDescriptor (gm_y i).desc).map (fun d => d.parameters.length) = some (gm_p i))) && (decide ((gm_y i).cls ≠ "java/lang/invoke/MethodHandle") && (decide ((gm_y i).cls ≠ "java/lang/invoke/VarHandle") && (decide ((gm_y i).cls = gb_n (gm_o i)) && (decide (gm_k i = 2) == decide ((gm_y i).name = "<init>")))))
set_option maxRecDepth 100000 in
theorem gb_mkA : ∀ i, i < 164 → gb_mk i = true := by decide +kernel
set_option maxRecDepth 100000 in
theorem gb_w0 : ∀ i, i < 20 → gb_in ((gb_P.getD (i + 0) []).tail) (gb_mr (i + 0)) = true := by decide +kernel
set_option maxRecDepth 100000 in
theorem gb_w1 : ∀ i, i < 20 → gb_in ((gb_P.getD (i + 20) []).tail) (gb_mr (i + 20)) = true := by decide +kernel
set_option maxRecDepth 100000 in
theorem gb_w2 : ∀ i, i < 20 → gb_in ((gb_P.getD (i + 40) []).tail) (gb_mr (i + 40)) = true := by decide +kernel
set_option maxRecDepth 100000 in
theorem gb_w3 : ∀ i, i < 20 → gb_in ((gb_P.getD (i + 60) []).tail) (gb_mr (i + 60)) = true := by decide +kernel
set_option maxRecDepth 100000 in
theorem gb_w4 : ∀ i, i < 20 → gb_in ((gb_P.getD (i + 80) []).tail) (gb_mr (i + 80)) = true := by decide +kernel
set_option maxRecDepth 100000 in
theorem gb_w5 : ∀ i, i < 20 → gb_in ((gb_P.getD (i + 100) []).tail) (gb_mr (i + 100)) = true := by decide +kernel
set_option maxRecDepth 100000 in
theorem gb_w6 : ∀ i, i < 20 → gb_in ((gb_P.getD (i + 120) []).tail) (gb_mr (i + 120)) = true := by decide +kernel
set_option maxRecDepth 100000 in
theorem gb_w7 : ∀ i, i < 20 → gb_in ((gb_P.getD (i + 140) []).tail) (gb_mr (i + 140)) = true := by decide +kernel
set_option maxRecDepth 100000 in
theorem gb_w8 : ∀ i, i < 4 → gb_in ((gb_P.getD (i + 160) []).tail) (gb_mr (i + 160)) = true := by decide +kernel
theorem gb_wA {i : Nat} (h : i < 164) : gb_in ((gb_P.getD i []).tail) (gb_mr i) = true := by
  by_cases h0 : i < 20
  · have := gb_w0 (i - 0) (by omega)
    rwa [Nat.sub_add_cancel (by omega)] at this
  by_cases h1 : i < 40
  · have := gb_w1 (i - 20) (by omega)
    rwa [Nat.sub_add_cancel (by omega)] at this
  by_cases h2 : i < 60
  · have := gb_w2 (i - 40) (by omega)
    rwa [Nat.sub_add_cancel (by omega)] at this
  by_cases h3 : i < 80
  · have := gb_w3 (i - 60) (by omega)
    rwa [Nat.sub_add_cancel (by omega)] at this
  by_cases h4 : i < 100
  · have := gb_w4 (i - 80) (by omega)
    rwa [Nat.sub_add_cancel (by omega)] at this
  by_cases h5 : i < 120
  · have := gb_w5 (i - 100) (by omega)
    rwa [Nat.sub_add_cancel (by omega)] at this
  by_cases h6 : i < 140
  · have := gb_w6 (i - 120) (by omega)
    rwa [Nat.sub_add_cancel (by omega)] at this
  by_cases h7 : i < 160
  · have := gb_w7 (i - 140) (by omega)
    rwa [Nat.sub_add_cancel (by omega)] at this
  by_cases h8 : i < 164
  · have := gb_w8 (i - 160) (by omega)
    rwa [Nat.sub_add_cancel (by omega)] at this
  omega
def gb_cP (l : List Nat) (n : Nat) : Prop := ∀ (k p : Nat), l[k]? = some p → lw_tbl[p]? = some (Cond.code (gm_y (n + k)) (gm_b (n + k)) (gm_L (n + k)) (gm_r (n + k)))
theorem gb_cnil (n : Nat) : gb_cP [] n := fun k c h => by simp at h
theorem gb_ccons {p : Nat} {l : List Nat} {n : Nat} (h : lw_tbl[p]? = some (Cond.code (gm_y n) (gm_b n) (gm_L n) (gm_r n))) (t : gb_cP l (n + 1)) : gb_cP (p :: l) n := by
  intro k x hx
  cases k with
  | zero => cases hx; exact h
  | succ k => rw [List.getElem?_cons_succ] at hx; have := t k x hx; rwa [show n + 1 + k = n + (k + 1) by omega] at this
def gb_cl0 : List Nat := [173, 479, 525, 581, 295, 605, 704, 618, 313, 639, 646, 655, 146, 471, 475, 529, 332, 766, 770, 776, 784, 788, 792, 209, 713, 725, 732, 193, 483, 815, 824, 84, 461, 467, 502, 506, 565, 68, 406, 426, 445, 422, 418, 453, 433, 437, 449, 441, 429, 241, 539, 609, 613, 544, 549, 552, 556, 560, 597, 688, 651, 696, 569, 60, 402, 410, 414, 457, 487, 494, 498, 513, 517, 573, 577, 585, 601, 628, 634, 675, 692, 700, 709, 717, 721, 737, 756, 761, 796, 800, 811, 820, 828, 490, 588, 740, 509, 521, 593, 684, 681, 804, 745, 751, 662, 668, 833, 954, 1030, 1074, 950, 958, 970, 973, 966, 977, 962, 981, 998, 985, 990, 1003, 1038, 994, 1007, 1027, 1034, 1023, 1019, 1059, 1015, 1011, 1042, 1046, 1055, 1071, 1050, 1067, 1063, 1078, 1086, 1089, 1082, 1097, 1093, 1101, 1105, 1109, 1114, 1123, 1118, 1133, 1127, 1137, 1150, 1146, 1154, 1142, 1158, 1162, 1169, 1173, 1177, 621]
set_option maxRecDepth 100000 in
theorem gb_c_0 : lw_tbl[173]? = some (Cond.code (gm_y 0) (gm_b 0) (gm_L 0) (gm_r 0)) := rfl
set_option maxRecDepth 100000 in
theorem gb_c_1 : lw_tbl[479]? = some (Cond.code (gm_y 1) (gm_b 1) (gm_L 1) (gm_r 1)) := rfl
set_option maxRecDepth 100000 in
theorem gb_c_2 : lw_tbl[525]? = some (Cond.code (gm_y 2) (gm_b 2) (gm_L 2) (gm_r 2)) := rfl
set_option maxRecDepth 100000 in
theorem gb_c_3 : lw_tbl[581]? = some (Cond.code (gm_y 3) (gm_b 3) (gm_L 3) (gm_r 3)) := rfl
set_option maxRecDepth 100000 in
theorem gb_c_4 : lw_tbl[295]? = some (Cond.code (gm_y 4) (gm_b 4) (gm_L 4) (gm_r 4)) := rfl
set_option maxRecDepth 100000 in
theorem gb_c_5 : lw_tbl[605]? = some (Cond.code (gm_y 5) (gm_b 5) (gm_L 5) (gm_r 5)) := rfl
set_option maxRecDepth 100000 in
theorem gb_c_6 : lw_tbl[704]? = some (Cond.code (gm_y 6) (gm_b 6) (gm_L 6) (gm_r 6)) := rfl
set_option maxRecDepth 100000 in
theorem gb_c_7 : lw_tbl[618]? = some (Cond.code (gm_y 7) (gm_b 7) (gm_L 7) (gm_r 7)) := rfl
set_option maxRecDepth 100000 in
theorem gb_c_8 : lw_tbl[313]? = some (Cond.code (gm_y 8) (gm_b 8) (gm_L 8) (gm_r 8)) := rfl
set_option maxRecDepth 100000 in
theorem gb_c_9 : lw_tbl[639]? = some (Cond.code (gm_y 9) (gm_b 9) (gm_L 9) (gm_r 9)) := rfl
set_option maxRecDepth 100000 in
theorem gb_c_10 : lw_tbl[646]? = some (Cond.code (gm_y 10) (gm_b 10) (gm_L 10) (gm_r 10)) := rfl
set_option maxRecDepth 100000 in
theorem gb_c_11 : lw_tbl[655]? = some (Cond.code (gm_y 11) (gm_b 11) (gm_L 11) (gm_r 11)) := rfl
set_option maxRecDepth 100000 in
theorem gb_c_12 : lw_tbl[146]? = some (Cond.code (gm_y 12) (gm_b 12) (gm_L 12) (gm_r 12)) := rfl
set_option maxRecDepth 100000 in
theorem gb_c_13 : lw_tbl[471]? = some (Cond.code (gm_y 13) (gm_b 13) (gm_L 13) (gm_r 13)) := rfl
set_option maxRecDepth 100000 in
theorem gb_c_14 : lw_tbl[475]? = some (Cond.code (gm_y 14) (gm_b 14) (gm_L 14) (gm_r 14)) := rfl
set_option maxRecDepth 100000 in
theorem gb_c_15 : lw_tbl[529]? = some (Cond.code (gm_y 15) (gm_b 15) (gm_L 15) (gm_r 15)) := rfl
set_option maxRecDepth 100000 in
theorem gb_c_16 : lw_tbl[332]? = some (Cond.code (gm_y 16) (gm_b 16) (gm_L 16) (gm_r 16)) := rfl
set_option maxRecDepth 100000 in
theorem gb_c_17 : lw_tbl[766]? = some (Cond.code (gm_y 17) (gm_b 17) (gm_L 17) (gm_r 17)) := rfl
set_option maxRecDepth 100000 in
theorem gb_c_18 : lw_tbl[770]? = some (Cond.code (gm_y 18) (gm_b 18) (gm_L 18) (gm_r 18)) := rfl
set_option maxRecDepth 100000 in
theorem gb_c_19 : lw_tbl[776]? = some (Cond.code (gm_y 19) (gm_b 19) (gm_L 19) (gm_r 19)) := rfl
set_option maxRecDepth 100000 in
theorem gb_c_20 : lw_tbl[784]? = some (Cond.code (gm_y 20) (gm_b 20) (gm_L 20) (gm_r 20)) := rfl
set_option maxRecDepth 100000 in
theorem gb_c_21 : lw_tbl[788]? = some (Cond.code (gm_y 21) (gm_b 21) (gm_L 21) (gm_r 21)) := rfl
set_option maxRecDepth 100000 in
theorem gb_c_22 : lw_tbl[792]? = some (Cond.code (gm_y 22) (gm_b 22) (gm_L 22) (gm_r 22)) := rfl
set_option maxRecDepth 100000 in
theorem gb_c_23 : lw_tbl[209]? = some (Cond.code (gm_y 23) (gm_b 23) (gm_L 23) (gm_r 23)) := rfl
set_option maxRecDepth 100000 in
theorem gb_c_24 : lw_tbl[713]? = some (Cond.code (gm_y 24) (gm_b 24) (gm_L 24) (gm_r 24)) := rfl
set_option maxRecDepth 100000 in
theorem gb_c_25 : lw_tbl[725]? = some (Cond.code (gm_y 25) (gm_b 25) (gm_L 25) (gm_r 25)) := rfl
set_option maxRecDepth 100000 in
theorem gb_c_26 : lw_tbl[732]? = some (Cond.code (gm_y 26) (gm_b 26) (gm_L 26) (gm_r 26)) := rfl
set_option maxRecDepth 100000 in
theorem gb_c_27 : lw_tbl[193]? = some (Cond.code (gm_y 27) (gm_b 27) (gm_L 27) (gm_r 27)) := rfl
set_option maxRecDepth 100000 in
theorem gb_c_28 : lw_tbl[483]? = some (Cond.code (gm_y 28) (gm_b 28) (gm_L 28) (gm_r 28)) := rfl
set_option maxRecDepth 100000 in
theorem gb_c_29 : lw_tbl[815]? = some (Cond.code (gm_y 29) (gm_b 29) (gm_L 29) (gm_r 29)) := rfl
set_option maxRecDepth 100000 in
theorem gb_c_30 : lw_tbl[824]? = some (Cond.code (gm_y 30) (gm_b 30) (gm_L 30) (gm_r 30)) := rfl
set_option maxRecDepth 100000 in
theorem gb_c_31 : lw_tbl[84]? = some (Cond.code (gm_y 31) (gm_b 31) (gm_L 31) (gm_r 31)) := rfl
set_option maxRecDepth 100000 in
theorem gb_c_32 : lw_tbl[461]? = some (Cond.code (gm_y 32) (gm_b 32) (gm_L 32) (gm_r 32)) := rfl
set_option maxRecDepth 100000 in
theorem gb_c_33 : lw_tbl[467]? = some (Cond.code (gm_y 33) (gm_b 33) (gm_L 33) (gm_r 33)) := rfl
set_option maxRecDepth 100000 in
theorem gb_c_34 : lw_tbl[502]? = some (Cond.code (gm_y 34) (gm_b 34) (gm_L 34) (gm_r 34)) := rfl
set_option maxRecDepth 100000 in
theorem gb_c_35 : lw_tbl[506]? = some (Cond.code (gm_y 35) (gm_b 35) (gm_L 35) (gm_r 35)) := rfl
set_option maxRecDepth 100000 in
theorem gb_c_36 : lw_tbl[565]? = some (Cond.code (gm_y 36) (gm_b 36) (gm_L 36) (gm_r 36)) := rfl
set_option maxRecDepth 100000 in
theorem gb_c_37 : lw_tbl[68]? = some (Cond.code (gm_y 37) (gm_b 37) (gm_L 37) (gm_r 37)) := rfl
set_option maxRecDepth 100000 in
theorem gb_c_38 : lw_tbl[406]? = some (Cond.code (gm_y 38) (gm_b 38) (gm_L 38) (gm_r 38)) := rfl
set_option maxRecDepth 100000 in
theorem gb_c_39 : lw_tbl[426]? = some (Cond.code (gm_y 39) (gm_b 39) (gm_L 39) (gm_r 39)) := rfl
set_option maxRecDepth 100000 in
theorem gb_c_40 : lw_tbl[445]? = some (Cond.code (gm_y 40) (gm_b 40) (gm_L 40) (gm_r 40)) := rfl
set_option maxRecDepth 100000 in
theorem gb_c_41 : lw_tbl[422]? = some (Cond.code (gm_y 41) (gm_b 41) (gm_L 41) (gm_r 41)) := rfl
set_option maxRecDepth 100000 in
theorem gb_c_42 : lw_tbl[418]? = some (Cond.code (gm_y 42) (gm_b 42) (gm_L 42) (gm_r 42)) := rfl
set_option maxRecDepth 100000 in
theorem gb_c_43 : lw_tbl[453]? = some (Cond.code (gm_y 43) (gm_b 43) (gm_L 43) (gm_r 43)) := rfl
set_option maxRecDepth 100000 in
theorem gb_c_44 : lw_tbl[433]? = some (Cond.code (gm_y 44) (gm_b 44) (gm_L 44) (gm_r 44)) := rfl
set_option maxRecDepth 100000 in
theorem gb_c_45 : lw_tbl[437]? = some (Cond.code (gm_y 45) (gm_b 45) (gm_L 45) (gm_r 45)) := rfl
set_option maxRecDepth 100000 in
theorem gb_c_46 : lw_tbl[449]? = some (Cond.code (gm_y 46) (gm_b 46) (gm_L 46) (gm_r 46)) := rfl
set_option maxRecDepth 100000 in
theorem gb_c_47 : lw_tbl[441]? = some (Cond.code (gm_y 47) (gm_b 47) (gm_L 47) (gm_r 47)) := rfl
set_option maxRecDepth 100000 in
theorem gb_c_48 : lw_tbl[429]? = some (Cond.code (gm_y 48) (gm_b 48) (gm_L 48) (gm_r 48)) := rfl
set_option maxRecDepth 100000 in
theorem gb_c_49 : lw_tbl[241]? = some (Cond.code (gm_y 49) (gm_b 49) (gm_L 49) (gm_r 49)) := rfl
set_option maxRecDepth 100000 in
theorem gb_c_50 : lw_tbl[539]? = some (Cond.code (gm_y 50) (gm_b 50) (gm_L 50) (gm_r 50)) := rfl
set_option maxRecDepth 100000 in
theorem gb_c_51 : lw_tbl[609]? = some (Cond.code (gm_y 51) (gm_b 51) (gm_L 51) (gm_r 51)) := rfl
set_option maxRecDepth 100000 in
theorem gb_c_52 : lw_tbl[613]? = some (Cond.code (gm_y 52) (gm_b 52) (gm_L 52) (gm_r 52)) := rfl
set_option maxRecDepth 100000 in
theorem gb_c_53 : lw_tbl[544]? = some (Cond.code (gm_y 53) (gm_b 53) (gm_L 53) (gm_r 53)) := rfl
set_option maxRecDepth 100000 in
theorem gb_c_54 : lw_tbl[549]? = some (Cond.code (gm_y 54) (gm_b 54) (gm_L 54) (gm_r 54)) := rfl
set_option maxRecDepth 100000 in
theorem gb_c_55 : lw_tbl[552]? = some (Cond.code (gm_y 55) (gm_b 55) (gm_L 55) (gm_r 55)) := rfl
set_option maxRecDepth 100000 in
theorem gb_c_56 : lw_tbl[556]? = some (Cond.code (gm_y 56) (gm_b 56) (gm_L 56) (gm_r 56)) := rfl
set_option maxRecDepth 100000 in
theorem gb_c_57 : lw_tbl[560]? = some (Cond.code (gm_y 57) (gm_b 57) (gm_L 57) (gm_r 57)) := rfl
set_option maxRecDepth 100000 in
theorem gb_c_58 : lw_tbl[597]? = some (Cond.code (gm_y 58) (gm_b 58) (gm_L 58) (gm_r 58)) := rfl
set_option maxRecDepth 100000 in
theorem gb_c_59 : lw_tbl[688]? = some (Cond.code (gm_y 59) (gm_b 59) (gm_L 59) (gm_r 59)) := rfl
set_option maxRecDepth 100000 in
theorem gb_c_60 : lw_tbl[651]? = some (Cond.code (gm_y 60) (gm_b 60) (gm_L 60) (gm_r 60)) := rfl
set_option maxRecDepth 100000 in
theorem gb_c_61 : lw_tbl[696]? = some (Cond.code (gm_y 61) (gm_b 61) (gm_L 61) (gm_r 61)) := rfl
set_option maxRecDepth 100000 in
theorem gb_c_62 : lw_tbl[569]? = some (Cond.code (gm_y 62) (gm_b 62) (gm_L 62) (gm_r 62)) := rfl
set_option maxRecDepth 100000 in
theorem gb_c_63 : lw_tbl[60]? = some (Cond.code (gm_y 63) (gm_b 63) (gm_L 63) (gm_r 63)) := rfl
set_option maxRecDepth 100000 in
theorem gb_c_64 : lw_tbl[402]? = some (Cond.code (gm_y 64) (gm_b 64) (gm_L 64) (gm_r 64)) := rfl
set_option maxRecDepth 100000 in
theorem gb_c_65 : lw_tbl[410]? = some (Cond.code (gm_y 65) (gm_b 65) (gm_L 65) (gm_r 65)) := rfl
set_option maxRecDepth 100000 in
theorem gb_c_66 : lw_tbl[414]? = some (Cond.code (gm_y 66) (gm_b 66) (gm_L 66) (gm_r 66)) := rfl
set_option maxRecDepth 100000 in
theorem gb_c_67 : lw_tbl[457]? = some (Cond.code (gm_y 67) (gm_b 67) (gm_L 67) (gm_r 67)) := rfl
set_option maxRecDepth 100000 in
theorem gb_c_68 : lw_tbl[487]? = some (Cond.code (gm_y 68) (gm_b 68) (gm_L 68) (gm_r 68)) := rfl
set_option maxRecDepth 100000 in
theorem gb_c_69 : lw_tbl[494]? = some (Cond.code (gm_y 69) (gm_b 69) (gm_L 69) (gm_r 69)) := rfl
set_option maxRecDepth 100000 in
theorem gb_c_70 : lw_tbl[498]? = some (Cond.code (gm_y 70) (gm_b 70) (gm_L 70) (gm_r 70)) := rfl
set_option maxRecDepth 100000 in
theorem gb_c_71 : lw_tbl[513]? = some (Cond.code (gm_y 71) (gm_b 71) (gm_L 71) (gm_r 71)) := rfl
set_option maxRecDepth 100000 in
theorem gb_c_72 : lw_tbl[517]? = some (Cond.code (gm_y 72) (gm_b 72) (gm_L 72) (gm_r 72)) := rfl
set_option maxRecDepth 100000 in
theorem gb_c_73 : lw_tbl[573]? = some (Cond.code (gm_y 73) (gm_b 73) (gm_L 73) (gm_r 73)) := rfl
set_option maxRecDepth 100000 in
theorem gb_c_74 : lw_tbl[577]? = some (Cond.code (gm_y 74) (gm_b 74) (gm_L 74) (gm_r 74)) := rfl
set_option maxRecDepth 100000 in
theorem gb_c_75 : lw_tbl[585]? = some (Cond.code (gm_y 75) (gm_b 75) (gm_L 75) (gm_r 75)) := rfl
set_option maxRecDepth 100000 in
theorem gb_c_76 : lw_tbl[601]? = some (Cond.code (gm_y 76) (gm_b 76) (gm_L 76) (gm_r 76)) := rfl
set_option maxRecDepth 100000 in
theorem gb_c_77 : lw_tbl[628]? = some (Cond.code (gm_y 77) (gm_b 77) (gm_L 77) (gm_r 77)) := rfl
set_option maxRecDepth 100000 in
theorem gb_c_78 : lw_tbl[634]? = some (Cond.code (gm_y 78) (gm_b 78) (gm_L 78) (gm_r 78)) := rfl
set_option maxRecDepth 100000 in
theorem gb_c_79 : lw_tbl[675]? = some (Cond.code (gm_y 79) (gm_b 79) (gm_L 79) (gm_r 79)) := rfl
set_option maxRecDepth 100000 in
theorem gb_c_80 : lw_tbl[692]? = some (Cond.code (gm_y 80) (gm_b 80) (gm_L 80) (gm_r 80)) := rfl
set_option maxRecDepth 100000 in
theorem gb_c_81 : lw_tbl[700]? = some (Cond.code (gm_y 81) (gm_b 81) (gm_L 81) (gm_r 81)) := rfl
set_option maxRecDepth 100000 in
theorem gb_c_82 : lw_tbl[709]? = some (Cond.code (gm_y 82) (gm_b 82) (gm_L 82) (gm_r 82)) := rfl
set_option maxRecDepth 100000 in
theorem gb_c_83 : lw_tbl[717]? = some (Cond.code (gm_y 83) (gm_b 83) (gm_L 83) (gm_r 83)) := rfl
set_option maxRecDepth 100000 in
theorem gb_c_84 : lw_tbl[721]? = some (Cond.code (gm_y 84) (gm_b 84) (gm_L 84) (gm_r 84)) := rfl
set_option maxRecDepth 100000 in
theorem gb_c_85 : lw_tbl[737]? = some (Cond.code (gm_y 85) (gm_b 85) (gm_L 85) (gm_r 85)) := rfl
set_option maxRecDepth 100000 in
theorem gb_c_86 : lw_tbl[756]? = some (Cond.code (gm_y 86) (gm_b 86) (gm_L 86) (gm_r 86)) := rfl
set_option maxRecDepth 100000 in
theorem gb_c_87 : lw_tbl[761]? = some (Cond.code (gm_y 87) (gm_b 87) (gm_L 87) (gm_r 87)) := rfl
set_option maxRecDepth 100000 in
theorem gb_c_88 : lw_tbl[796]? = some (Cond.code (gm_y 88) (gm_b 88) (gm_L 88) (gm_r 88)) := rfl
set_option maxRecDepth 100000 in
theorem gb_c_89 : lw_tbl[800]? = some (Cond.code (gm_y 89) (gm_b 89) (gm_L 89) (gm_r 89)) := rfl
set_option maxRecDepth 100000 in
theorem gb_c_90 : lw_tbl[811]? = some (Cond.code (gm_y 90) (gm_b 90) (gm_L 90) (gm_r 90)) := rfl
set_option maxRecDepth 100000 in
theorem gb_c_91 : lw_tbl[820]? = some (Cond.code (gm_y 91) (gm_b 91) (gm_L 91) (gm_r 91)) := rfl
set_option maxRecDepth 100000 in
theorem gb_c_92 : lw_tbl[828]? = some (Cond.code (gm_y 92) (gm_b 92) (gm_L 92) (gm_r 92)) := rfl
set_option maxRecDepth 100000 in
theorem gb_c_93 : lw_tbl[490]? = some (Cond.code (gm_y 93) (gm_b 93) (gm_L 93) (gm_r 93)) := rfl
set_option maxRecDepth 100000 in
theorem gb_c_94 : lw_tbl[588]? = some (Cond.code (gm_y 94) (gm_b 94) (gm_L 94) (gm_r 94)) := rfl
set_option maxRecDepth 100000 in
theorem gb_c_95 : lw_tbl[740]? = some (Cond.code (gm_y 95) (gm_b 95) (gm_L 95) (gm_r 95)) := rfl
set_option maxRecDepth 100000 in
theorem gb_c_96 : lw_tbl[509]? = some (Cond.code (gm_y 96) (gm_b 96) (gm_L 96) (gm_r 96)) := rfl
set_option maxRecDepth 100000 in
theorem gb_c_97 : lw_tbl[521]? = some (Cond.code (gm_y 97) (gm_b 97) (gm_L 97) (gm_r 97)) := rfl
set_option maxRecDepth 100000 in
theorem gb_c_98 : lw_tbl[593]? = some (Cond.code (gm_y 98) (gm_b 98) (gm_L 98) (gm_r 98)) := rfl
set_option maxRecDepth 100000 in
theorem gb_c_99 : lw_tbl[684]? = some (Cond.code (gm_y 99) (gm_b 99) (gm_L 99) (gm_r 99)) := rfl
set_option maxRecDepth 100000 in
theorem gb_c_100 : lw_tbl[681]? = some (Cond.code (gm_y 100) (gm_b 100) (gm_L 100) (gm_r 100)) := rfl
set_option maxRecDepth 100000 in
theorem gb_c_101 : lw_tbl[804]? = some (Cond.code (gm_y 101) (gm_b 101) (gm_L 101) (gm_r 101)) := rfl
set_option maxRecDepth 100000 in
theorem gb_c_102 : lw_tbl[745]? = some (Cond.code (gm_y 102) (gm_b 102) (gm_L 102) (gm_r 102)) := rfl
set_option maxRecDepth 100000 in
theorem gb_c_103 : lw_tbl[751]? = some (Cond.code (gm_y 103) (gm_b 103) (gm_L 103) (gm_r 103)) := rfl
set_option maxRecDepth 100000 in
theorem gb_c_104 : lw_tbl[662]? = some (Cond.code (gm_y 104) (gm_b 104) (gm_L 104) (gm_r 104)) := rfl
set_option maxRecDepth 100000 in
theorem gb_c_105 : lw_tbl[668]? = some (Cond.code (gm_y 105) (gm_b 105) (gm_L 105) (gm_r 105)) := rfl
set_option maxRecDepth 100000 in
theorem gb_c_106 : lw_tbl[833]? = some (Cond.code (gm_y 106) (gm_b 106) (gm_L 106) (gm_r 106)) := rfl
set_option maxRecDepth 100000 in
theorem gb_c_107 : lw_tbl[954]? = some (Cond.code (gm_y 107) (gm_b 107) (gm_L 107) (gm_r 107)) := rfl
set_option maxRecDepth 100000 in
theorem gb_c_108 : lw_tbl[1030]? = some (Cond.code (gm_y 108) (gm_b 108) (gm_L 108) (gm_r 108)) := rfl
set_option maxRecDepth 100000 in
theorem gb_c_109 : lw_tbl[1074]? = some (Cond.code (gm_y 109) (gm_b 109) (gm_L 109) (gm_r 109)) := rfl
set_option maxRecDepth 100000 in
theorem gb_c_110 : lw_tbl[950]? = some (Cond.code (gm_y 110) (gm_b 110) (gm_L 110) (gm_r 110)) := rfl
set_option maxRecDepth 100000 in
theorem gb_c_111 : lw_tbl[958]? = some (Cond.code (gm_y 111) (gm_b 111) (gm_L 111) (gm_r 111)) := rfl
set_option maxRecDepth 100000 in
theorem gb_c_112 : lw_tbl[970]? = some (Cond.code (gm_y 112) (gm_b 112) (gm_L 112) (gm_r 112)) := rfl
set_option maxRecDepth 100000 in
theorem gb_c_113 : lw_tbl[973]? = some (Cond.code (gm_y 113) (gm_b 113) (gm_L 113) (gm_r 113)) := rfl
set_option maxRecDepth 100000 in
theorem gb_c_114 : lw_tbl[966]? = some (Cond.code (gm_y 114) (gm_b 114) (gm_L 114) (gm_r 114)) := rfl
set_option maxRecDepth 100000 in
theorem gb_c_115 : lw_tbl[977]? = some (Cond.code (gm_y 115) (gm_b 115) (gm_L 115) (gm_r 115)) := rfl
set_option maxRecDepth 100000 in
theorem gb_c_116 : lw_tbl[962]? = some (Cond.code (gm_y 116) (gm_b 116) (gm_L 116) (gm_r 116)) := rfl
set_option maxRecDepth 100000 in
theorem gb_c_117 : lw_tbl[981]? = some (Cond.code (gm_y 117) (gm_b 117) (gm_L 117) (gm_r 117)) := rfl
set_option maxRecDepth 100000 in
theorem gb_c_118 : lw_tbl[998]? = some (Cond.code (gm_y 118) (gm_b 118) (gm_L 118) (gm_r 118)) := rfl
set_option maxRecDepth 100000 in
theorem gb_c_119 : lw_tbl[985]? = some (Cond.code (gm_y 119) (gm_b 119) (gm_L 119) (gm_r 119)) := rfl
set_option maxRecDepth 100000 in
theorem gb_c_120 : lw_tbl[990]? = some (Cond.code (gm_y 120) (gm_b 120) (gm_L 120) (gm_r 120)) := rfl
set_option maxRecDepth 100000 in
theorem gb_c_121 : lw_tbl[1003]? = some (Cond.code (gm_y 121) (gm_b 121) (gm_L 121) (gm_r 121)) := rfl
set_option maxRecDepth 100000 in
theorem gb_c_122 : lw_tbl[1038]? = some (Cond.code (gm_y 122) (gm_b 122) (gm_L 122) (gm_r 122)) := rfl
set_option maxRecDepth 100000 in
theorem gb_c_123 : lw_tbl[994]? = some (Cond.code (gm_y 123) (gm_b 123) (gm_L 123) (gm_r 123)) := rfl
set_option maxRecDepth 100000 in
theorem gb_c_124 : lw_tbl[1007]? = some (Cond.code (gm_y 124) (gm_b 124) (gm_L 124) (gm_r 124)) := rfl
set_option maxRecDepth 100000 in
theorem gb_c_125 : lw_tbl[1027]? = some (Cond.code (gm_y 125) (gm_b 125) (gm_L 125) (gm_r 125)) := rfl
set_option maxRecDepth 100000 in
theorem gb_c_126 : lw_tbl[1034]? = some (Cond.code (gm_y 126) (gm_b 126) (gm_L 126) (gm_r 126)) := rfl
set_option maxRecDepth 100000 in
theorem gb_c_127 : lw_tbl[1023]? = some (Cond.code (gm_y 127) (gm_b 127) (gm_L 127) (gm_r 127)) := rfl
set_option maxRecDepth 100000 in
theorem gb_c_128 : lw_tbl[1019]? = some (Cond.code (gm_y 128) (gm_b 128) (gm_L 128) (gm_r 128)) := rfl
set_option maxRecDepth 100000 in
theorem gb_c_129 : lw_tbl[1059]? = some (Cond.code (gm_y 129) (gm_b 129) (gm_L 129) (gm_r 129)) := rfl
set_option maxRecDepth 100000 in
theorem gb_c_130 : lw_tbl[1015]? = some (Cond.code (gm_y 130) (gm_b 130) (gm_L 130) (gm_r 130)) := rfl
set_option maxRecDepth 100000 in
theorem gb_c_131 : lw_tbl[1011]? = some (Cond.code (gm_y 131) (gm_b 131) (gm_L 131) (gm_r 131)) := rfl
set_option maxRecDepth 100000 in
theorem gb_c_132 : lw_tbl[1042]? = some (Cond.code (gm_y 132) (gm_b 132) (gm_L 132) (gm_r 132)) := rfl
set_option maxRecDepth 100000 in
theorem gb_c_133 : lw_tbl[1046]? = some (Cond.code (gm_y 133) (gm_b 133) (gm_L 133) (gm_r 133)) := rfl
set_option maxRecDepth 100000 in
theorem gb_c_134 : lw_tbl[1055]? = some (Cond.code (gm_y 134) (gm_b 134) (gm_L 134) (gm_r 134)) := rfl
set_option maxRecDepth 100000 in
theorem gb_c_135 : lw_tbl[1071]? = some (Cond.code (gm_y 135) (gm_b 135) (gm_L 135) (gm_r 135)) := rfl
set_option maxRecDepth 100000 in
theorem gb_c_136 : lw_tbl[1050]? = some (Cond.code (gm_y 136) (gm_b 136) (gm_L 136) (gm_r 136)) := rfl
set_option maxRecDepth 100000 in
theorem gb_c_137 : lw_tbl[1067]? = some (Cond.code (gm_y 137) (gm_b 137) (gm_L 137) (gm_r 137)) := rfl
set_option maxRecDepth 100000 in
theorem gb_c_138 : lw_tbl[1063]? = some (Cond.code (gm_y 138) (gm_b 138) (gm_L 138) (gm_r 138)) := rfl
set_option maxRecDepth 100000 in
theorem gb_c_139 : lw_tbl[1078]? = some (Cond.code (gm_y 139) (gm_b 139) (gm_L 139) (gm_r 139)) := rfl
set_option maxRecDepth 100000 in
theorem gb_c_140 : lw_tbl[1086]? = some (Cond.code (gm_y 140) (gm_b 140) (gm_L 140) (gm_r 140)) := rfl
set_option maxRecDepth 100000 in
theorem gb_c_141 : lw_tbl[1089]? = some (Cond.code (gm_y 141) (gm_b 141) (gm_L 141) (gm_r 141)) := rfl
set_option maxRecDepth 100000 in
theorem gb_c_142 : lw_tbl[1082]? = some (Cond.code (gm_y 142) (gm_b 142) (gm_L 142) (gm_r 142)) := rfl
set_option maxRecDepth 100000 in
theorem gb_c_143 : lw_tbl[1097]? = some (Cond.code (gm_y 143) (gm_b 143) (gm_L 143) (gm_r 143)) := rfl
set_option maxRecDepth 100000 in
theorem gb_c_144 : lw_tbl[1093]? = some (Cond.code (gm_y 144) (gm_b 144) (gm_L 144) (gm_r 144)) := rfl
set_option maxRecDepth 100000 in
theorem gb_c_145 : lw_tbl[1101]? = some (Cond.code (gm_y 145) (gm_b 145) (gm_L 145) (gm_r 145)) := rfl
set_option maxRecDepth 100000 in
theorem gb_c_146 : lw_tbl[1105]? = some (Cond.code (gm_y 146) (gm_b 146) (gm_L 146) (gm_r 146)) := rfl
set_option maxRecDepth 100000 in
theorem gb_c_147 : lw_tbl[1109]? = some (Cond.code (gm_y 147) (gm_b 147) (gm_L 147) (gm_r 147)) := rfl
set_option maxRecDepth 100000 in
theorem gb_c_148 : lw_tbl[1114]? = some (Cond.code (gm_y 148) (gm_b 148) (gm_L 148) (gm_r 148)) := rfl
set_option maxRecDepth 100000 in
theorem gb_c_149 : lw_tbl[1123]? = some (Cond.code (gm_y 149) (gm_b 149) (gm_L 149) (gm_r 149)) := rfl
set_option maxRecDepth 100000 in
theorem gb_c_150 : lw_tbl[1118]? = some (Cond.code (gm_y 150) (gm_b 150) (gm_L 150) (gm_r 150)) := rfl
set_option maxRecDepth 100000 in
theorem gb_c_151 : lw_tbl[1133]? = some (Cond.code (gm_y 151) (gm_b 151) (gm_L 151) (gm_r 151)) := rfl
set_option maxRecDepth 100000 in
theorem gb_c_152 : lw_tbl[1127]? = some (Cond.code (gm_y 152) (gm_b 152) (gm_L 152) (gm_r 152)) := rfl
set_option maxRecDepth 100000 in
theorem gb_c_153 : lw_tbl[1137]? = some (Cond.code (gm_y 153) (gm_b 153) (gm_L 153) (gm_r 153)) := rfl
set_option maxRecDepth 100000 in
theorem gb_c_154 : lw_tbl[1150]? = some (Cond.code (gm_y 154) (gm_b 154) (gm_L 154) (gm_r 154)) := rfl
set_option maxRecDepth 100000 in
theorem gb_c_155 : lw_tbl[1146]? = some (Cond.code (gm_y 155) (gm_b 155) (gm_L 155) (gm_r 155)) := rfl
set_option maxRecDepth 100000 in
theorem gb_c_156 : lw_tbl[1154]? = some (Cond.code (gm_y 156) (gm_b 156) (gm_L 156) (gm_r 156)) := rfl
set_option maxRecDepth 100000 in
theorem gb_c_157 : lw_tbl[1142]? = some (Cond.code (gm_y 157) (gm_b 157) (gm_L 157) (gm_r 157)) := rfl
set_option maxRecDepth 100000 in
theorem gb_c_158 : lw_tbl[1158]? = some (Cond.code (gm_y 158) (gm_b 158) (gm_L 158) (gm_r 158)) := rfl
set_option maxRecDepth 100000 in
theorem gb_c_159 : lw_tbl[1162]? = some (Cond.code (gm_y 159) (gm_b 159) (gm_L 159) (gm_r 159)) := rfl
set_option maxRecDepth 100000 in
theorem gb_c_160 : lw_tbl[1169]? = some (Cond.code (gm_y 160) (gm_b 160) (gm_L 160) (gm_r 160)) := rfl
set_option maxRecDepth 100000 in
theorem gb_c_161 : lw_tbl[1173]? = some (Cond.code (gm_y 161) (gm_b 161) (gm_L 161) (gm_r 161)) := rfl
set_option maxRecDepth 100000 in
theorem gb_c_162 : lw_tbl[1177]? = some (Cond.code (gm_y 162) (gm_b 162) (gm_L 162) (gm_r 162)) := rfl
set_option maxRecDepth 100000 in
theorem gb_c_163 : lw_tbl[621]? = some (Cond.code (gm_y 163) (gm_b 163) (gm_L 163) (gm_r 163)) := rfl
set_option maxRecDepth 100000 in
theorem gb_call : gb_cP gb_cl0 0 := gb_ccons gb_c_0 (gb_ccons gb_c_1 (gb_ccons gb_c_2 (gb_ccons gb_c_3 (gb_ccons gb_c_4 (gb_ccons gb_c_5 (gb_ccons gb_c_6 (gb_ccons gb_c_7 (gb_ccons gb_c_8 (gb_ccons gb_c_9 (gb_ccons gb_c_10 (gb_ccons gb_c_11 (gb_ccons gb_c_12 (gb_ccons gb_c_13 (gb_ccons gb_c_14 (gb_ccons gb_c_15 (gb_ccons gb_c_16 (gb_ccons gb_c_17 (gb_ccons gb_c_18 (gb_ccons gb_c_19 (gb_ccons gb_c_20 (gb_ccons gb_c_21 (gb_ccons gb_c_22 (gb_ccons gb_c_23 (gb_ccons gb_c_24 (gb_ccons gb_c_25 (gb_ccons gb_c_26 (gb_ccons gb_c_27 (gb_ccons gb_c_28 (gb_ccons gb_c_29 (gb_ccons gb_c_30 (gb_ccons gb_c_31 (gb_ccons gb_c_32 (gb_ccons gb_c_33 (gb_ccons gb_c_34 (gb_ccons gb_c_35 (gb_ccons gb_c_36 (gb_ccons gb_c_37 (gb_ccons gb_c_38 (gb_ccons gb_c_39 (gb_ccons gb_c_40 (gb_ccons gb_c_41 (gb_ccons gb_c_42 (gb_ccons gb_c_43 (gb_ccons gb_c_44 (gb_ccons gb_c_45 (gb_ccons gb_c_46 (gb_ccons gb_c_47 (gb_ccons gb_c_48 (gb_ccons gb_c_49 (gb_ccons gb_c_50 (gb_ccons gb_c_51 (gb_ccons gb_c_52 (gb_ccons gb_c_53 (gb_ccons gb_c_54 (gb_ccons gb_c_55 (gb_ccons gb_c_56 (gb_ccons gb_c_57 (gb_ccons gb_c_58 (gb_ccons gb_c_59 (gb_ccons gb_c_60 (gb_ccons gb_c_61 (gb_ccons gb_c_62 (gb_ccons gb_c_63 (gb_ccons gb_c_64 (gb_ccons gb_c_65 (gb_ccons gb_c_66 (gb_ccons gb_c_67 (gb_ccons gb_c_68 (gb_ccons gb_c_69 (gb_ccons gb_c_70 (gb_ccons gb_c_71 (gb_ccons gb_c_72 (gb_ccons gb_c_73 (gb_ccons gb_c_74 (gb_ccons gb_c_75 (gb_ccons gb_c_76 (gb_ccons gb_c_77 (gb_ccons gb_c_78 (gb_ccons gb_c_79 (gb_ccons gb_c_80 (gb_ccons gb_c_81 (gb_ccons gb_c_82 (gb_ccons gb_c_83 (gb_ccons gb_c_84 (gb_ccons gb_c_85 (gb_ccons gb_c_86 (gb_ccons gb_c_87 (gb_ccons gb_c_88 (gb_ccons gb_c_89 (gb_ccons gb_c_90 (gb_ccons gb_c_91 (gb_ccons gb_c_92 (gb_ccons gb_c_93 (gb_ccons gb_c_94 (gb_ccons gb_c_95 (gb_ccons gb_c_96 (gb_ccons gb_c_97 (gb_ccons gb_c_98 (gb_ccons gb_c_99 (gb_ccons gb_c_100 (gb_ccons gb_c_101 (gb_ccons gb_c_102 (gb_ccons gb_c_103 (gb_ccons gb_c_104 (gb_ccons gb_c_105 (gb_ccons gb_c_106 (gb_ccons gb_c_107 (gb_ccons gb_c_108 (gb_ccons gb_c_109 (gb_ccons gb_c_110 (gb_ccons gb_c_111 (gb_ccons gb_c_112 (gb_ccons gb_c_113 (gb_ccons gb_c_114 (gb_ccons gb_c_115 (gb_ccons gb_c_116 (gb_ccons gb_c_117 (gb_ccons gb_c_118 (gb_ccons gb_c_119 (gb_ccons gb_c_120 (gb_ccons gb_c_121 (gb_ccons gb_c_122 (gb_ccons gb_c_123 (gb_ccons gb_c_124 (gb_ccons gb_c_125 (gb_ccons gb_c_126 (gb_ccons gb_c_127 (gb_ccons gb_c_128 (gb_ccons gb_c_129 (gb_ccons gb_c_130 (gb_ccons gb_c_131 (gb_ccons gb_c_132 (gb_ccons gb_c_133 (gb_ccons gb_c_134 (gb_ccons gb_c_135 (gb_ccons gb_c_136 (gb_ccons gb_c_137 (gb_ccons gb_c_138 (gb_ccons gb_c_139 (gb_ccons gb_c_140 (gb_ccons gb_c_141 (gb_ccons gb_c_142 (gb_ccons gb_c_143 (gb_ccons gb_c_144 (gb_ccons gb_c_145 (gb_ccons gb_c_146 (gb_ccons gb_c_147 (gb_ccons gb_c_148 (gb_ccons gb_c_149 (gb_ccons gb_c_150 (gb_ccons gb_c_151 (gb_ccons gb_c_152 (gb_ccons gb_c_153 (gb_ccons gb_c_154 (gb_ccons gb_c_155 (gb_ccons gb_c_156 (gb_ccons gb_c_157 (gb_ccons gb_c_158 (gb_ccons gb_c_159 (gb_ccons gb_c_160 (gb_ccons gb_c_161 (gb_ccons gb_c_162 (gb_ccons gb_c_163 (gb_cnil _))))))))))))))))))))))))))))))))))))))))))))))))))))))))))))))))))))))))))))))))))))))))))))))))))))))))))))))))))))))))))))))))))))))))))))))))))))))))))))))))))))
theorem gb_code {i : Nat} (h : i < 164) : Cond.code (gm_y i) (gm_b i) (gm_L i) (gm_r i) ∈ gb_t := by
  have hl : gb_cl0.length = 164 := by decide +kernel
  have := gb_call i (gb_cl0[i]'(by omega)) (List.getElem?_eq_getElem (by omega))
  rw [Nat.zero_add] at this
  exact gb_tin (List.mem_of_getElem? this) rfl
theorem gb_word {i : Nat} (h : i < 164) : ∀ w ∈ gb_mw i, w ∈ gb_t := by
  intro w hw
  rcases List.mem_cons.mp hw with e | e
  · rw [e]; exact gb_code h
  · exact gb_in_ok _ _ (gb_wA h) w e
