/-! what the machine's tables rest on: each row is among the words of the Statement's tables -/
def mj_tb : List Cond := lw_tbl.filter goodWord
def mj_in (w : Cond) : Bool := decide (w ∈ lw_tbl) && goodWord w
theorem mj_in_tb {w : Cond} (h : mj_in w = true) : w ∈ mj_tb := by
  simp only [mj_in, Bool.and_eq_true, decide_eq_true_eq] at h
  exact List.mem_filter.mpr h
def mj_isN : Cond → Bool
  | .fieldLinkNest .. => true
  | .methodLinkNest .. => true
  | _ => false
def mj_nest : List Cond := lw_tbl.filter mj_isN
def mj_inN (w : Cond) : Bool := decide (w ∈ lw_tbl) && mj_isN w
theorem mj_inN_n {w : Cond} (h : mj_inN w = true) : w ∈ mj_nest := by
  simp only [mj_inN, Bool.and_eq_true, decide_eq_true_eq] at h
  exact List.mem_filter.mpr h
def mj_flok (e : Nat × Nat × Nat × Nat × Nat) : Bool :=
  let c := mj_kc e.2.2.1
  let f := c.2.1 e.2.2.2.1
  (if e.2.2.2.2 = 0 then mj_in (.fieldLink (mj_cn e.1) e.2.1 c.1 f.2.1 f.2.2.1) else mj_inN (.fieldLinkNest (mj_cn e.1) e.2.1 c.1 f.2.1 f.2.2.1 RX10)) && decide (e.2.2.1 < 12) && decide (e.2.2.2.1 < mj_nf e.2.2.1) && decide (f.1 = c.1)
def mj_slok (e : Nat × Nat × Nat × Nat) : Bool :=
  (if e.2.2.2 = 0 then mj_in (.fieldLink (mj_cn e.1) e.2.1 (mj_sC e.2.2.1) (mj_sN e.2.2.1) "[I") else mj_inN (.fieldLinkNest (mj_cn e.1) e.2.1 (mj_sC e.2.2.1) (mj_sN e.2.2.1) "[I" RX10)) && decide (e.2.2.1 < 7)
def mj_clok (e : Nat × Nat × Nat) : Bool :=
  if e.2.2 < 12 then mj_in (.classLink (mj_cn e.1) e.2.1 (mj_kc e.2.2).1) && mj_in (.instantiable (mj_kc e.2.2).1 (mj_nf e.2.2)) && mj_in (.initialized (mj_kc e.2.2).1)
  else mj_in (.classLink (mj_cn e.1) e.2.1 (mj_kc (mj_elt e.2.2)).1) && decide (15 ≤ e.2.2) && decide (e.2.2 ≤ 18)
def mj_csok (e : Nat × Nat × Nat) : Bool := mj_in (.constant (mj_cn e.1) e.2.1 (Int32.ofNat e.2.2))
def mj_at (w : Cond) (p : Nat) : Bool := decide (lw_tbl[p]? = some w) && goodWord w
theorem mj_at_tb {w : Cond} {p : Nat} (h : mj_at w p = true) : w ∈ mj_tb := by
  simp only [mj_at, Bool.and_eq_true, decide_eq_true_eq] at h
  exact List.mem_filter.mpr ⟨List.mem_of_getElem? h.1, h.2⟩
def mj_atN (w : Cond) (p : Nat) : Bool := decide (lw_tbl[p]? = some w) && mj_isN w
theorem mj_atN_n {w : Cond} {p : Nat} (h : mj_atN w p = true) : w ∈ mj_nest := by
  simp only [mj_atN, Bool.and_eq_true, decide_eq_true_eq] at h
  exact List.mem_filter.mpr ⟨List.mem_of_getElem? h.1, h.2⟩
def mj_cat (mid : Nat) : Option Cond → Bool
  | some (.code y _ m r) => decide (y = mj_y mid) && decide (m = mj_maxL mid) && decide (r = mj_r mid)
  | _ => false
theorem mj_cat_tb {mid : Nat} (hm : ¬ mid = 176) (h : mj_cat mid lw_tbl[mj_bP.getD mid 9999]? = true) : Cond.code (mj_y mid) (mj_b mid) (mj_maxL mid) (mj_r mid) ∈ mj_tb := by
  unfold mj_b
  rw [if_neg hm]
  generalize hq : lw_tbl[mj_bP.getD mid 9999]? = q at h ⊢
  match q, h with
  | some (.code y b m r), h =>
    simp only [mj_cat, Bool.and_eq_true, decide_eq_true_eq] at h
    obtain ⟨⟨rfl, rfl⟩, rfl⟩ := h
    exact List.mem_filter.mpr ⟨List.mem_of_getElem? hq, rfl⟩
/-- a method's own words, by their places: code, its class, static or instance, which method is selected -/
def mj_mok (e : Nat × Nat × Nat × Nat × Nat) : Bool :=
  mj_cat e.1 lw_tbl[mj_bP.getD e.1 9999]? && mj_at (.initialized (mj_y e.1).cls) e.2.2.1 &&
  (if mj_st e.1 then mj_at (.static (mj_y e.1)) e.2.2.2.1 else mj_at (.instanceMethod (mj_y e.1)) e.2.2.2.1 && ((mj_y e.1).name == "<init>" || mj_at (.selects (mj_y e.1).cls (mj_y e.1) (mj_y e.1)) e.2.2.2.2)) &&
  decide ((mj_y e.1).cls ≠ "java/lang/invoke/MethodHandle") && decide ((mj_y e.1).cls ≠ "java/lang/invoke/VarHandle") &&
  decide ((parseMethodDescriptor (mj_y e.1).desc).map (fun d => d.parameters.length) = some (mj_np e.1)) && plainName (mj_y e.1).cls && decide ((mj_y e.1).cls = mj_cn (mj_own e.1)) &&
  decide (mj_maxL e.1 ≤ 40) && decide (mj_np e.1 + (if mj_st e.1 then 0 else 1) ≤ mj_maxL e.1)
def mj_mlok (e : Nat × Nat × Nat × Nat × Nat) : Bool :=
  if e.2.2.1 < 1000 then
    (if e.2.2.2.1 = 0 then mj_at (.methodLink (mj_cn e.1) e.2.1 (mj_y e.2.2.1)) e.2.2.2.2 else mj_atN (.methodLinkNest (mj_cn e.1) e.2.1 (mj_y e.2.2.1) RX10) e.2.2.2.2) && decide (e.2.2.1 < 177)
  else if e.2.2.1 = 1001 then mj_at (.methodLink (mj_cn e.1) e.2.1 objectInit) e.2.2.2.2 && decide (e.2.2.2.1 = 0)
  else if e.2.2.1 = 1002 then mj_at (.methodLink (mj_cn e.1) e.2.1 Lib.Math.min.name) e.2.2.2.2 && decide (e.2.2.2.1 = 0)
  else if e.2.2.1 = 1003 then mj_at (.methodLink (mj_cn e.1) e.2.1 Lib.Math.max.name) e.2.2.2.2 && decide (e.2.2.2.1 = 0)
  else if e.2.2.1 = 1004 then mj_at (.methodLink (mj_cn e.1) e.2.1 Lib.Math.abs.name) e.2.2.2.2 && decide (e.2.2.2.1 = 0)
  else if e.2.2.1 = 1005 then mj_at (.methodLink (mj_cn e.1) e.2.1 arraycopyName) e.2.2.2.2 && decide (e.2.2.2.1 = 0)
  else false
set_option maxRecDepth 100000 in
theorem mj_fl_ok : mj_fl.all mj_flok = true := by decide +kernel
set_option maxRecDepth 100000 in
theorem mj_sl_ok : mj_sl.all mj_slok = true := by decide +kernel
set_option maxRecDepth 100000 in
theorem mj_cls_ok : mj_cls.all mj_clok = true := by decide +kernel
set_option maxRecDepth 100000 in
theorem mj_cst_ok : mj_cst.all mj_csok = true := by decide +kernel
def mj_mls_0 : List (Nat × Nat × Nat × Nat × Nat) := [(0, 3, 1001, 0, 116), (0, 24, 33, 1, 520), (0, 30, 2, 0, 524), (0, 34, 34, 1, 525), (0, 45, 3, 0, 411), (0, 48, 4, 0, 415), (0, 52, 5, 0, 431), (0, 55, 6, 0, 435), (0, 59, 9, 0, 439), (0, 66, 35, 1, 447), (0, 76, 108, 1, 419), (0, 83, 7, 0, 422), (0, 87, 8, 0, 427), (0, 92, 10, 0, 443), (1, 3, 1001, 0, 200), (1, 34, 36, 1, 710), (1, 37, 13, 0, 735), (1, 51, 1, 1, 760), (1, 57, 18, 0, 769), (1, 61, 32, 1, 773), (2, 3, 1001, 0, 232), (2, 35, 23, 0, 801), (2, 38, 25, 0, 810), (2, 45, 26, 0, 814), (2, 49, 28, 0, 822), (2, 53, 24, 0, 805), (2, 56, 110, 1, 809), (2, 60, 27, 0, 818), (3, 3, 1001, 0, 350), (3, 32, 31, 0, 374), (3, 36, 1002, 0, 377), (3, 42, 1003, 0, 380), (4, 1, 1001, 0, 713), (5, 1, 1001, 0, 542), (5, 13, 44, 0, 551), (5, 17, 47, 0, 557), (5, 24, 39, 0, 562), (5, 37, 48, 0, 574), (5, 44, 1, 1, 578), (5, 50, 40, 0, 566)]
set_option maxRecDepth 100000 in
theorem mj_mls_0_ok : mj_mls_0.all mj_mlok = true := by decide +kernel
def mj_mls_1 : List (Nat × Nat × Nat × Nat × Nat) := [(5, 64, 46, 0, 590), (5, 68, 1003, 0, 596), (5, 74, 59, 1, 597), (5, 78, 61, 1, 605), (5, 84, 63, 1, 609), (5, 88, 43, 0, 583), (5, 101, 108, 1, 556), (5, 106, 45, 0, 593), (6, 1, 1001, 0, 317), (7, 1, 1001, 0, 185), (7, 13, 57, 0, 637), (7, 21, 1002, 0, 648), (7, 27, 1005, 0, 649), (8, 3, 1001, 0, 158), (8, 22, 60, 0, 601), (8, 32, 64, 0, 617), (8, 36, 65, 0, 620), (8, 39, 108, 1, 623), (8, 43, 62, 0, 613), (9, 1, 1001, 0, 473), (10, 1, 1001, 0, 102), (10, 29, 0, 1, 113), (10, 36, 58, 1, 155), (10, 43, 52, 1, 182), (10, 50, 11, 1, 197), (10, 57, 19, 1, 229), (10, 76, 49, 1, 314), (10, 79, 99, 0, 330), (10, 83, 50, 1, 334), (10, 87, 51, 1, 338), (10, 94, 29, 1, 347), (10, 97, 30, 1, 370), (10, 111, 106, 0, 387), (10, 117, 103, 0, 396), (10, 101, 100, 0, 400), (10, 143, 107, 0, 404), (10, 149, 108, 0, 468), (10, 153, 66, 1, 470), (10, 156, 101, 0, 509), (10, 166, 109, 0, 513)]
set_option maxRecDepth 100000 in
theorem mj_mls_1_ok : mj_mls_1.all mj_mlok = true := by decide +kernel
def mj_mls_2 : List (Nat × Nat × Nat × Nat × Nat) := [(10, 174, 1, 1, 516), (10, 178, 104, 0, 533), (10, 182, 53, 1, 633), (10, 188, 56, 1, 644), (10, 191, 54, 1, 656), (10, 194, 55, 1, 664), (10, 197, 59, 1, 672), (10, 200, 61, 1, 673), (10, 207, 105, 0, 674), (10, 210, 63, 1, 679), (10, 225, 111, 0, 688), (10, 228, 12, 1, 705), (10, 232, 14, 1, 731), (10, 236, 13, 1, 743), (10, 240, 102, 0, 744), (10, 248, 15, 1, 748), (10, 254, 16, 1, 756), (10, 258, 17, 1, 765), (10, 262, 20, 1, 781), (10, 264, 21, 1, 789), (10, 268, 22, 1, 797), (10, 280, 2, 1, 407), (10, 293, 37, 1, 539), (10, 294, 38, 1, 547), (10, 298, 42, 1, 579), (10, 302, 41, 1, 586), (10, 306, 62, 1, 678), (10, 311, 1004, 0, 694), (10, 316, 110, 0, 691), (11, 1, 1001, 0, 904), (11, 100, 112, 0, 1060), (11, 113, 116, 0, 1071), (11, 117, 1002, 0, 1079), (11, 123, 1003, 0, 1080), (11, 126, 117, 0, 1085), (11, 129, 124, 0, 1093), (11, 133, 126, 0, 1130), (11, 137, 125, 0, 1119), (11, 143, 128, 0, 1122), (11, 147, 127, 0, 1126)]
set_option maxRecDepth 100000 in
theorem mj_mls_2_ok : mj_mls_2.all mj_mlok = true := by decide +kernel
def mj_mls_3 : List (Nat × Nat × Nat × Nat × Nat) := [(11, 155, 129, 0, 1115), (11, 162, 130, 0, 1111), (11, 165, 118, 0, 1104), (11, 168, 132, 0, 1100), (11, 172, 131, 0, 1107), (11, 182, 140, 0, 1168), (11, 185, 137, 0, 1156), (11, 188, 143, 0, 1160), (11, 191, 141, 0, 1164), (11, 195, 139, 0, 1184), (11, 198, 142, 0, 1187), (11, 201, 145, 0, 1180), (11, 204, 146, 0, 1190), (11, 208, 147, 0, 1176), (11, 214, 149, 0, 1202), (11, 218, 150, 0, 1198), (11, 231, 156, 0, 1226), (11, 243, 158, 0, 1234), (11, 246, 1004, 0, 1245), (11, 249, 160, 0, 1242), (11, 258, 165, 0, 1262), (11, 267, 171, 0, 1290), (11, 270, 172, 0, 1286), (12, 15, 67, 0, 99), (12, 18, 113, 0, 901), (12, 19, 68, 0, 301), (12, 23, 115, 0, 1056), (12, 24, 69, 0, 305), (12, 28, 119, 0, 1063), (12, 29, 70, 0, 326), (12, 33, 120, 0, 1067), (12, 34, 71, 0, 342), (12, 38, 121, 0, 1075), (12, 44, 122, 0, 1081), (12, 45, 114, 0, 1052), (12, 49, 73, 0, 383), (12, 52, 123, 0, 1089), (12, 53, 74, 0, 392), (12, 56, 133, 0, 1096), (12, 57, 75, 0, 451)]
set_option maxRecDepth 100000 in
theorem mj_mls_3_ok : mj_mls_3.all mj_mlok = true := by decide +kernel
def mj_mls_4 : List (Nat × Nat × Nat × Nat × Nat) := [(12, 61, 134, 0, 1135), (12, 62, 76, 0, 456), (12, 65, 135, 0, 1140), (12, 66, 77, 0, 460), (12, 69, 136, 0, 1144), (12, 70, 78, 0, 464), (12, 73, 138, 0, 1148), (12, 74, 79, 0, 505), (12, 77, 144, 0, 1152), (12, 78, 80, 0, 529), (12, 81, 148, 0, 1172), (12, 82, 81, 0, 625), (12, 85, 151, 0, 1194), (12, 86, 82, 0, 629), (12, 89, 152, 0, 1206), (12, 90, 83, 0, 640), (12, 93, 153, 0, 1210), (12, 94, 84, 0, 652), (12, 97, 154, 0, 1214), (12, 98, 85, 0, 660), (12, 102, 155, 0, 1218), (12, 103, 86, 0, 668), (12, 106, 157, 0, 1222), (12, 107, 87, 0, 680), (12, 110, 159, 0, 1230), (12, 111, 88, 0, 684), (12, 114, 161, 0, 1238), (12, 115, 89, 0, 697), (12, 118, 162, 0, 1246), (12, 119, 90, 0, 701), (12, 122, 163, 0, 1250), (12, 123, 91, 0, 727), (12, 127, 164, 0, 1254), (12, 128, 92, 0, 739), (12, 131, 166, 0, 1258), (12, 132, 93, 0, 752), (12, 135, 167, 0, 1266), (12, 136, 94, 0, 761), (12, 139, 168, 0, 1270), (12, 140, 95, 0, 777)]
set_option maxRecDepth 100000 in
theorem mj_mls_4_ok : mj_mls_4.all mj_mlok = true := by decide +kernel
def mj_mls_5 : List (Nat × Nat × Nat × Nat × Nat) := [(12, 143, 169, 0, 1274), (12, 144, 96, 0, 785), (12, 147, 170, 0, 1278), (12, 148, 97, 0, 793), (12, 151, 173, 0, 1282), (12, 152, 98, 0, 826), (12, 155, 174, 0, 1294)]
set_option maxRecDepth 100000 in
theorem mj_mls_5_ok : mj_mls_5.all mj_mlok = true := by decide +kernel
def mj_mls : List (Nat × Nat × Nat × Nat × Nat) := mj_mls_0 ++ (mj_mls_1 ++ (mj_mls_2 ++ (mj_mls_3 ++ (mj_mls_4 ++ (mj_mls_5)))))
theorem mj_mls_ok : mj_mls.all mj_mlok = true := by
  simp only [mj_mls, List.all_append, Bool.and_eq_true]
  exact ⟨mj_mls_0_ok, ⟨mj_mls_1_ok, ⟨mj_mls_2_ok, ⟨mj_mls_3_ok, ⟨mj_mls_4_ok, mj_mls_5_ok⟩⟩⟩⟩⟩
def mj_mos_0 : List (Nat × Nat × Nat × Nat × Nat) := [(0, 115, 80, 114, 0), (1, 519, 80, 518, 17), (2, 410, 80, 409, 6), (3, 414, 80, 413, 7), (4, 418, 80, 417, 8), (5, 434, 80, 433, 11), (6, 438, 80, 437, 12), (7, 425, 80, 424, 9), (8, 430, 80, 429, 10), (9, 442, 80, 441, 13), (10, 446, 80, 445, 14), (11, 199, 83, 198, 0), (12, 708, 83, 707, 36), (13, 738, 83, 737, 38), (14, 734, 83, 733, 37), (15, 751, 83, 750, 40), (16, 759, 83, 758, 41), (17, 768, 83, 767, 42), (18, 772, 83, 771, 43), (19, 231, 84, 230, 0), (20, 784, 84, 783, 45), (21, 792, 84, 791, 46), (22, 800, 84, 799, 47), (23, 804, 84, 803, 48), (24, 808, 84, 807, 49), (25, 813, 84, 812, 50), (26, 817, 84, 816, 51), (27, 821, 84, 820, 52), (28, 825, 84, 824, 53), (29, 349, 87, 348, 0)]
set_option maxRecDepth 100000 in
theorem mj_mos_0_ok : mj_mos_0.all mj_mok = true := by decide +kernel
def mj_mos_1 : List (Nat × Nat × Nat × Nat × Nat) := [(30, 373, 87, 372, 3), (31, 376, 87, 375, 0), (32, 776, 87, 775, 44), (33, 523, 87, 522, 18), (34, 528, 87, 527, 19), (35, 450, 87, 449, 15), (36, 712, 96, 711, 0), (37, 541, 94, 540, 0), (38, 550, 94, 549, 21), (39, 565, 94, 564, 22), (40, 569, 94, 568, 23), (41, 589, 94, 588, 25), (42, 582, 94, 581, 24), (43, 585, 94, 584, 0), (44, 553, 94, 552, 0), (45, 595, 94, 594, 0), (46, 592, 94, 591, 0), (47, 559, 94, 558, 0), (48, 576, 94, 575, 0), (49, 316, 86, 315, 0), (50, 337, 86, 336, 1), (51, 341, 86, 340, 2), (52, 184, 82, 183, 0), (53, 636, 82, 635, 31), (54, 659, 82, 658, 33), (55, 667, 82, 666, 34), (56, 647, 82, 646, 32), (57, 639, 82, 638, 0), (58, 157, 81, 156, 0), (59, 600, 81, 599, 26)]
set_option maxRecDepth 100000 in
theorem mj_mos_1_ok : mj_mos_1.all mj_mok = true := by decide +kernel
def mj_mos_2 : List (Nat × Nat × Nat × Nat × Nat) := [(60, 604, 81, 603, 27), (61, 608, 81, 607, 28), (62, 616, 81, 615, 30), (63, 612, 81, 611, 29), (64, 619, 81, 618, 0), (65, 622, 81, 621, 0), (66, 472, 93, 471, 0), (67, 101, 79, 100, 0), (68, 304, 79, 302, 303), (69, 308, 79, 306, 307), (70, 329, 79, 327, 328), (71, 345, 79, 343, 344), (73, 386, 79, 384, 385), (74, 395, 79, 393, 394), (75, 454, 79, 452, 453), (76, 459, 79, 457, 458), (77, 463, 79, 461, 462), (78, 467, 79, 465, 466), (79, 508, 79, 506, 507), (80, 532, 79, 530, 531), (81, 628, 79, 626, 627), (82, 632, 79, 630, 631), (83, 643, 79, 641, 642), (84, 655, 79, 653, 654), (85, 663, 79, 661, 662), (86, 671, 79, 669, 670), (87, 683, 79, 681, 682), (88, 687, 79, 685, 686), (89, 700, 79, 698, 699), (90, 704, 79, 702, 703)]
set_option maxRecDepth 100000 in
theorem mj_mos_2_ok : mj_mos_2.all mj_mok = true := by decide +kernel
def mj_mos_3 : List (Nat × Nat × Nat × Nat × Nat) := [(91, 730, 79, 728, 729), (92, 742, 79, 740, 741), (93, 755, 79, 753, 754), (94, 764, 79, 762, 763), (95, 780, 79, 778, 779), (96, 788, 79, 786, 787), (97, 796, 79, 794, 795), (98, 829, 79, 827, 828), (99, 333, 79, 332, 0), (100, 403, 79, 402, 5), (101, 512, 79, 511, 16), (102, 747, 79, 746, 39), (103, 399, 79, 398, 4), (104, 536, 79, 535, 20), (105, 677, 79, 676, 35), (106, 389, 79, 388, 0), (107, 406, 79, 405, 0), (108, 421, 79, 420, 0), (109, 515, 79, 514, 0), (110, 693, 79, 692, 0), (111, 690, 79, 689, 0), (112, 1062, 85, 1061, 0), (113, 903, 85, 902, 0), (114, 1055, 85, 1053, 1054), (115, 1059, 85, 1057, 1058), (116, 1074, 85, 1073, 55), (117, 1088, 85, 1087, 56), (118, 1106, 85, 1105, 0), (119, 1066, 85, 1064, 1065), (120, 1070, 85, 1068, 1069)]
set_option maxRecDepth 100000 in
theorem mj_mos_3_ok : mj_mos_3.all mj_mok = true := by decide +kernel
def mj_mos_4 : List (Nat × Nat × Nat × Nat × Nat) := [(121, 1078, 85, 1076, 1077), (122, 1084, 85, 1082, 1083), (123, 1092, 85, 1090, 1091), (124, 1095, 85, 1094, 0), (125, 1121, 85, 1120, 0), (126, 1133, 85, 1132, 63), (127, 1129, 85, 1128, 62), (128, 1125, 85, 1124, 61), (129, 1118, 85, 1117, 60), (130, 1114, 85, 1113, 59), (131, 1110, 85, 1109, 58), (132, 1103, 85, 1102, 57), (133, 1099, 85, 1097, 1098), (134, 1138, 85, 1136, 1137), (135, 1143, 85, 1141, 1142), (136, 1147, 85, 1145, 1146), (137, 1159, 85, 1158, 64), (138, 1151, 85, 1149, 1150), (139, 1186, 85, 1185, 0), (140, 1171, 85, 1170, 67), (141, 1167, 85, 1166, 66), (142, 1189, 85, 1188, 0), (143, 1163, 85, 1162, 65), (144, 1155, 85, 1153, 1154), (145, 1183, 85, 1182, 69), (146, 1193, 85, 1192, 70), (147, 1179, 85, 1178, 68), (148, 1175, 85, 1173, 1174), (149, 1205, 85, 1204, 72), (150, 1201, 85, 1200, 71)]
set_option maxRecDepth 100000 in
theorem mj_mos_4_ok : mj_mos_4.all mj_mok = true := by decide +kernel
def mj_mos_5 : List (Nat × Nat × Nat × Nat × Nat) := [(151, 1197, 85, 1195, 1196), (152, 1209, 85, 1207, 1208), (153, 1213, 85, 1211, 1212), (154, 1217, 85, 1215, 1216), (155, 1221, 85, 1219, 1220), (156, 1229, 85, 1228, 73), (157, 1225, 85, 1223, 1224), (158, 1237, 85, 1236, 74), (159, 1233, 85, 1231, 1232), (160, 1244, 85, 1243, 0), (161, 1241, 85, 1239, 1240), (162, 1249, 85, 1247, 1248), (163, 1253, 85, 1251, 1252), (164, 1257, 85, 1255, 1256), (165, 1265, 85, 1264, 75), (166, 1261, 85, 1259, 1260), (167, 1269, 85, 1267, 1268), (168, 1273, 85, 1271, 1272), (169, 1277, 85, 1275, 1276), (170, 1281, 85, 1279, 1280), (171, 1293, 85, 1292, 77), (172, 1289, 85, 1288, 76), (173, 1285, 85, 1283, 1284), (174, 1297, 85, 1295, 1296)]
set_option maxRecDepth 100000 in
theorem mj_mos_5_ok : mj_mos_5.all mj_mok = true := by decide +kernel
def mj_mos : List (Nat × Nat × Nat × Nat × Nat) := mj_mos_0 ++ (mj_mos_1 ++ (mj_mos_2 ++ (mj_mos_3 ++ (mj_mos_4 ++ (mj_mos_5)))))
theorem mj_mos_ok : mj_mos.all mj_mok = true := by
  simp only [mj_mos, List.all_append, Bool.and_eq_true]
  exact ⟨mj_mos_0_ok, ⟨mj_mos_1_ok, ⟨mj_mos_2_ok, ⟨mj_mos_3_ok, ⟨mj_mos_4_ok, mj_mos_5_ok⟩⟩⟩⟩⟩
set_option maxRecDepth 100000 in
theorem mj_lib_ok : ([.instanceMethod objectInit, .code objectInit ⟨#[0xb1]⟩ 1 none, .static Lib.Math.min.name, .static Lib.Math.max.name, .static Lib.Math.abs.name, .initialized "java/lang/Math", .code Lib.Math.min.name Lib.Math.min.code 2 (some .int), .code Lib.Math.max.name Lib.Math.max.code 2 (some .int), .code Lib.Math.abs.name Lib.Math.abs.code 1 (some .int), .native arraycopyName, .static arraycopyName, .initialized "java/lang/System", .arrayClass .int, .arrayClass .long, .arrayClass .boolean] : List Cond).all mj_in = true := by decide +kernel
set_option maxRecDepth 100000 in
theorem mj_lay_ok : (List.range 12).all (fun kd => (u_ws (mj_kc kd).1 (mj_kc kd).2.1 (mj_kc kd).2.2).all mj_in) = true := by decide +kernel
