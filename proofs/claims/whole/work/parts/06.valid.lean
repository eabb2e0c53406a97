/-! ===== the tables hold: words, lengths, layout ===== -/
set_option maxRecDepth 20000
def ex_tb : List Cond := lw_tbl.filter goodWord
/-- words that a world carries along: they don't stay by themselves -/
def ex_isn : Cond → Bool
  | .fieldLinkNest .. => true
  | .declares _ => true
  | .castable .. => true
  | _ => false
def ex_nw : List Cond := lw_tbl.filter ex_isn
/-- the word stands at this place of the table -/
def ex_wp (i : Nat) (w : Cond) : Bool := match lw_tbl[i]? with
  | some v => decide (v = w)
  | none => false
theorem ex_wp_in {i : Nat} {w : Cond} (h : ex_wp i w = true) : w ∈ lw_tbl := by
  unfold ex_wp at h
  split at h
  · rename_i v hv
    rw [← of_decide_eq_true h]
    exact List.mem_of_getElem? hv
  · cases h
theorem ex_wp_tb {i : Nat} {w : Cond} (h : (ex_wp i w && goodWord w) = true) : w ∈ ex_tb := by
  rw [Bool.and_eq_true] at h
  exact List.mem_filter.mpr ⟨ex_wp_in h.1, h.2⟩
theorem ex_wp_nw {i : Nat} {w : Cond} (h : (ex_wp i w && ex_isn w) = true) : w ∈ ex_nw := by
  rw [Bool.and_eq_true] at h
  exact List.mem_filter.mpr ⟨ex_wp_in h.1, h.2⟩
def ex_all2 {α β : Type} (f : α → β → Bool) : List α → List β → Bool
  | [], _ => true
  | _ :: _, [] => false
  | a :: l, b :: r => f a b && ex_all2 f l r
theorem ex_all2_at {α β : Type} {f : α → β → Bool} : ∀ {l : List α} {r : List β}, ex_all2 f l r = true → ∀ a ∈ l, ∃ b, f a b = true
  | [], _, _, _, h => nomatch h
  | _ :: _, [], h, _, _ => by simp [ex_all2] at h
  | a :: l, b :: r, h, x, hx => by
    simp only [ex_all2, Bool.and_eq_true] at h
    rcases List.mem_cons.mp hx with rfl | hx
    · exact ⟨b, h.1⟩
    · exact ex_all2_at h.2 x hx
def ex_cw (μ : ex_MD) : Cond := match ex_hh μ with
  | none => .code (ex_y μ) (ex_bytes μ) (ex_maxL μ) (ex_ret μ)
  | some hh => .codeWith (ex_y μ) (ex_bytes μ) (ex_maxL μ) (ex_ret μ) hh
def ex_lenok (ins : Instr) (len : Nat) : Bool := match ins with
  | .bipush _ | .ldc _ | .iload _ | .lload _ | .aload _ | .istore _ | .astore _ | .newarray _ => len == 2
  | .sipush _ | .iinc _ _ | .goto _ | .if_icmp _ _ | .ifCond _ _ | .getfield _ | .putfield _ | .invokevirtual _ | .invokestatic _ | .new _ | .invokespecial _ => len == 3
  | .tableswitch _ _ _ _ => true
  | _ => len == 1
def ex_okp (b : ByteArray) (l : List (Nat × Instr × Nat)) : Prop := ∀ q ∈ l, decode b q.1 = .ok (q.2.1, q.2.2) ∧ ex_lenok q.2.1 q.2.2 = true
def ex_okf (K : Nat) (q : Nat × Nat × Nat × Bool) (i : Nat) : Bool := match ex_cl[q.2.1]? with
  | some (_, T, N) => decide (q.2.2.1 < N) && (match q.2.2.2 with
    | true => ex_wp i (Cond.fieldLinkNest (ex_own K) q.1 (T q.2.2.1).1 (T q.2.2.1).2.1 (T q.2.2.1).2.2.1 "DarkDesk")
    | false => ex_wp i (Cond.fieldLink (ex_own K) q.1 (T q.2.2.1).1 (T q.2.2.1).2.1 (T q.2.2.1).2.2.1))
  | none => false
def ex_okc (K : Nat) (q : Nat × Nat) (i : Nat × Nat × Nat × Nat) : Bool := match ex_md q.2 with
  | some μ => ex_wp i.1 (Cond.methodLink (ex_own K) q.1 (ex_y μ)) && ex_wp i.2.1 (Cond.initialized (ex_y μ).cls) && (match ex_inst μ with
    | 0 => ex_wp i.2.2.1 (Cond.static (ex_y μ))
    | 1 => ex_wp i.2.2.1 (Cond.instanceMethod (ex_y μ)) && ex_wp i.2.2.2 (Cond.selects (ex_y μ).cls (ex_y μ) (ex_y μ)) && (match ex_cl[ex_K μ]? with
      | some z => z.1 == (ex_y μ).cls
      | none => false)
    | _ => false)
  | none => false
def ex_okm (μ : ex_MD) : Bool := plainName (ex_y μ).cls && (ex_y μ).cls != "java/lang/invoke/MethodHandle" && (ex_y μ).cls != "java/lang/invoke/VarHandle" && decide ((parseMethodDescriptor (ex_y μ).desc).map (fun d => d.parameters.length) = some (ex_np μ)) && Nat.ble (ex_maxL μ) 40 && (ex_own (ex_K μ) == (ex_y μ).cls)
def ex_fldw : Nat → List (Nat)
  | 0 => [232, 231, 234, 236, 237, 239, 241, 243, 244, 85, 74, 70, 79, 77]
  | 1 => [168, 169, 170, 171, 172, 173, 174, 175, 176, 167, 178, 180, 181, 182, 84, 73, 76, 71, 183, 184, 186, 185]
  | 2 => [112, 114, 115, 116, 117, 118, 119, 120, 121, 122, 123, 125, 127, 129]
  | 3 => [69, 72, 75, 78, 80, 81, 82, 87]
  | 4 => [265, 266, 267, 268, 83, 86, 126, 113, 128, 130, 124, 179, 177, 233, 245, 238, 240, 242, 235]
  | 5 => [827, 828, 829, 830, 832, 833, 834, 836, 837, 838, 839, 840, 842, 843, 844, 845, 847, 848, 850, 852, 853, 854, 862, 863, 864, 826, 831, 858, 851, 835, 841, 846, 849, 856, 855, 857, 859, 860, 861]
  | _ => []
def ex_calw : Nat → List (Nat × Nat × Nat × Nat)
  | 0 => [(698, 51, 637, 0), (731, 39, 287, 288), (732, 39, 299, 300), (733, 42, 734, 735), (749, 42, 751, 16), (775, 42, 777, 17), (779, 42, 781, 18)]
  | 1 => [(618, 41, 620, 5), (622, 39, 324, 325), (623, 41, 625, 6), (628, 41, 630, 7), (636, 51, 637, 0), (640, 41, 642, 9), (679, 39, 320, 321), (627, 39, 299, 300), (632, 41, 634, 8), (644, 41, 646, 10), (664, 41, 665, 0), (667, 39, 315, 316), (671, 41, 673, 13), (675, 41, 677, 14), (653, 41, 655, 12), (657, 41, 658, 0), (649, 41, 651, 11), (660, 41, 661, 0)]
  | 2 => [(336, 40, 337, 338), (346, 40, 348, 0)]
  | 3 => [(286, 39, 287, 288), (298, 39, 299, 300), (302, 39, 303, 304), (294, 39, 295, 296), (314, 39, 315, 316), (318, 39, 283, 284), (319, 39, 320, 321), (323, 39, 324, 325)]
  | 4 => [(363, 38, 364, 0), (452, 38, 454, 2), (456, 39, 457, 458), (468, 38, 470, 3), (490, 39, 491, 492), (501, 39, 295, 296), (509, 39, 510, 511), (282, 39, 283, 284), (290, 39, 291, 292), (310, 39, 311, 312), (521, 40, 522, 523), (532, 38, 534, 4), (537, 38, 538, 0), (544, 40, 545, 546), (556, 40, 557, 558), (569, 40, 570, 571), (581, 40, 582, 583), (331, 40, 332, 333), (599, 40, 600, 601), (610, 38, 611, 0), (614, 41, 615, 616), (694, 42, 695, 696), (707, 38, 709, 15), (727, 42, 728, 729), (745, 42, 746, 747), (760, 42, 761, 762), (771, 42, 772, 773), (791, 42, 792, 793), (818, 42, 734, 735)]
  | 5 => [(952, 43, 953, 0), (955, 43, 957, 19), (959, 43, 961, 20), (967, 43, 969, 21), (984, 43, 986, 24), (980, 43, 982, 23), (975, 43, 977, 22), (996, 43, 998, 25), (1012, 43, 1014, 26), (1016, 43, 1017, 0), (1040, 43, 1042, 28), (1036, 43, 1038, 27), (1074, 43, 1076, 33), (1062, 43, 1064, 30), (1066, 43, 1068, 31), (1070, 43, 1072, 32), (1058, 43, 1060, 29), (1090, 43, 1092, 34), (1094, 43, 1096, 35), (1110, 43, 1112, 36)]
  | 6 => [(359, 38, 360, 361), (464, 38, 465, 466), (497, 38, 498, 499), (505, 38, 506, 507), (516, 38, 517, 518), (528, 38, 529, 530), (551, 38, 552, 553), (563, 38, 564, 565), (576, 38, 577, 578), (588, 38, 589, 590), (595, 38, 596, 597), (606, 38, 607, 608), (683, 38, 684, 685), (690, 38, 691, 692), (703, 38, 704, 705), (740, 38, 741, 742), (756, 38, 757, 758), (767, 38, 768, 769), (787, 38, 788, 789), (814, 38, 815, 816), (354, 37, 355, 0), (948, 43, 949, 950), (944, 43, 945, 946), (460, 37, 461, 0), (963, 43, 964, 965), (494, 37, 495, 0), (971, 43, 972, 973), (502, 37, 503, 0), (988, 43, 989, 990), (278, 38, 279, 280), (992, 43, 993, 994), (306, 38, 307, 308), (1000, 43, 1001, 1002), (513, 37, 514, 0), (1004, 43, 1005, 1006), (525, 37, 526, 0), (1008, 43, 1009, 1010), (548, 37, 549, 0), (1020, 43, 1021, 1022), (560, 37, 561, 0), (1024, 43, 1025, 1026), (573, 37, 574, 0), (1028, 43, 1029, 1030), (327, 38, 328, 329), (1032, 43, 1033, 1034), (585, 37, 586, 0), (1046, 43, 1047, 1048), (592, 37, 593, 0), (1050, 43, 1051, 1052), (603, 37, 604, 0), (1054, 43, 1055, 1056), (680, 37, 681, 0), (1078, 43, 1079, 1080), (687, 37, 688, 0), (1082, 43, 1083, 1084), (699, 37, 700, 0), (1086, 43, 1087, 1088), (737, 37, 738, 0), (1098, 43, 1099, 1100), (753, 37, 754, 0), (1102, 43, 1103, 1104), (764, 37, 765, 0), (1106, 43, 1107, 1108), (783, 37, 784, 0), (1114, 43, 1115, 1116), (811, 37, 812, 0), (1118, 43, 1119, 1120), (350, 38, 351, 352), (1122, 43, 1123, 1124)]
  | _ => []
def ex_natw : Nat → List (Nat)
  | 1 => [668, 648, 663]
  | 2 => [340, 343]
  | 5 => [1044, 1045]
  | _ => []
def ex_natn : Nat → MethodName
  | 1 => arraycopyName
  | 2 => Lib.Math.max.name
  | _ => Lib.Math.min.name
theorem ex_okn_all : ∀ K, K < 8 → ex_all2 (fun (q : Nat × Nat) i => ex_wp i (Cond.methodLink (ex_own K) q.1 (ex_natn q.2))) (ex_nat K) (ex_natw K) = true := by decide +kernel
theorem ex_nat_w : (ex_wp 344 (Cond.static Lib.Math.max.name) && ex_wp 341 (Cond.static Lib.Math.min.name) && ex_wp 669 (Cond.static arraycopyName) && ex_wp 670 (Cond.native arraycopyName) && ex_wp 50 (Cond.initialized "java/lang/Math") && ex_wp 52 (Cond.initialized "java/lang/System")) = true := by decide +kernel
theorem ex_nat_max : lw_tbl[345]? = some (Cond.code Lib.Math.max.name Lib.Math.max.code 2 (some .int)) := by decide +kernel
theorem ex_nat_min : lw_tbl[342]? = some (Cond.code Lib.Math.min.name Lib.Math.min.code 2 (some .int)) := by decide +kernel
def ex_cstw : Nat → List (Nat)
  | 1 => [639]
  | 2 => [335]
  | 4 => [540]
  | 5 => [979, 1019]
  | _ => []
def ex_mdw : List Nat := [697, 794, 736, 730, 748, 752, 763, 774, 778, 782, 617, 621, 626, 631, 635, 643, 647, 652, 674, 678, 656, 659, 662, 666, 524, 547, 559, 572, 584, 339, 334, 349, 602, 459, 493, 317, 289, 285, 301, 305, 297, 512, 293, 326, 313, 322, 362, 467, 500, 508, 281, 309, 519, 531, 554, 566, 579, 330, 591, 598, 609, 686, 693, 706, 743, 759, 770, 790, 817, 353, 455, 365, 471, 535, 539, 612, 710, 947, 958, 954, 970, 962, 951, 966, 987, 983, 978, 974, 991, 999, 995, 1003, 1015, 1018, 1007, 1011, 1023, 1027, 1031, 1043, 1039, 1035, 1049, 1053, 1073, 1077, 1069, 1065, 1061, 1057, 1081, 1085, 1093, 1097, 1089, 1101, 1105, 1113, 1109, 1117, 1121, 1125, 356, 462, 496, 504, 515, 527, 550, 562, 575, 587, 594, 605, 682, 689, 701, 739, 755, 766, 785, 813, 0, 638]
theorem ex_okf_all : ∀ K, K < 8 → ex_all2 (ex_okf K) (ex_fld K) (ex_fldw K) = true := by decide +kernel
theorem ex_okc_all : ∀ K, K < 8 → ex_all2 (ex_okc K) (ex_cal K) (ex_calw K) = true := by decide +kernel
theorem ex_ok_cst : ∀ K, K < 8 → ex_all2 (fun (q : Nat × Int32) i => ex_wp i (Cond.constant (ex_own K) q.1 q.2)) (ex_cst K) (ex_cstw K) = true := by decide +kernel
theorem ex_okm_all : ∀ μ ∈ ex_mds, ex_okm μ = true := by decide +kernel
/-- the law itself has no word of its own in the table -/
def ex_law : Nat := 142
def ex_okw (M i : Nat) : Prop := lw_tbl[i]? = (ex_md M).map ex_cw
theorem ex_cw_0 : ex_okw 0 697 := rfl
theorem ex_cw_1 : ex_okw 1 794 := rfl
theorem ex_cw_2 : ex_okw 2 736 := rfl
theorem ex_cw_3 : ex_okw 3 730 := rfl
theorem ex_cw_4 : ex_okw 4 748 := rfl
theorem ex_cw_5 : ex_okw 5 752 := rfl
theorem ex_cw_6 : ex_okw 6 763 := rfl
theorem ex_cw_7 : ex_okw 7 774 := rfl
theorem ex_cw_8 : ex_okw 8 778 := rfl
theorem ex_cw_9 : ex_okw 9 782 := rfl
theorem ex_cw_10 : ex_okw 10 617 := rfl
theorem ex_cw_11 : ex_okw 11 621 := rfl
theorem ex_cw_12 : ex_okw 12 626 := rfl
theorem ex_cw_13 : ex_okw 13 631 := rfl
theorem ex_cw_14 : ex_okw 14 635 := rfl
theorem ex_cw_15 : ex_okw 15 643 := rfl
theorem ex_cw_16 : ex_okw 16 647 := rfl
theorem ex_cw_17 : ex_okw 17 652 := rfl
theorem ex_cw_18 : ex_okw 18 674 := rfl
theorem ex_cw_19 : ex_okw 19 678 := rfl
theorem ex_cw_20 : ex_okw 20 656 := rfl
theorem ex_cw_21 : ex_okw 21 659 := rfl
theorem ex_cw_22 : ex_okw 22 662 := rfl
theorem ex_cw_23 : ex_okw 23 666 := rfl
theorem ex_cw_24 : ex_okw 24 524 := rfl
theorem ex_cw_25 : ex_okw 25 547 := rfl
theorem ex_cw_26 : ex_okw 26 559 := rfl
theorem ex_cw_27 : ex_okw 27 572 := rfl
theorem ex_cw_28 : ex_okw 28 584 := rfl
theorem ex_cw_29 : ex_okw 29 339 := rfl
theorem ex_cw_30 : ex_okw 30 334 := rfl
theorem ex_cw_31 : ex_okw 31 349 := rfl
theorem ex_cw_32 : ex_okw 32 602 := rfl
theorem ex_cw_33 : ex_okw 33 459 := rfl
theorem ex_cw_34 : ex_okw 34 493 := rfl
theorem ex_cw_35 : ex_okw 35 317 := rfl
theorem ex_cw_36 : ex_okw 36 289 := rfl
theorem ex_cw_37 : ex_okw 37 285 := rfl
theorem ex_cw_38 : ex_okw 38 301 := rfl
theorem ex_cw_39 : ex_okw 39 305 := rfl
theorem ex_cw_40 : ex_okw 40 297 := rfl
theorem ex_cw_41 : ex_okw 41 512 := rfl
theorem ex_cw_42 : ex_okw 42 293 := rfl
theorem ex_cw_43 : ex_okw 43 326 := rfl
theorem ex_cw_44 : ex_okw 44 313 := rfl
theorem ex_cw_45 : ex_okw 45 322 := rfl
theorem ex_cw_46 : ex_okw 46 362 := rfl
theorem ex_cw_47 : ex_okw 47 467 := rfl
theorem ex_cw_48 : ex_okw 48 500 := rfl
theorem ex_cw_49 : ex_okw 49 508 := rfl
theorem ex_cw_50 : ex_okw 50 281 := rfl
theorem ex_cw_51 : ex_okw 51 309 := rfl
theorem ex_cw_52 : ex_okw 52 519 := rfl
theorem ex_cw_53 : ex_okw 53 531 := rfl
theorem ex_cw_54 : ex_okw 54 554 := rfl
theorem ex_cw_55 : ex_okw 55 566 := rfl
theorem ex_cw_56 : ex_okw 56 579 := rfl
theorem ex_cw_57 : ex_okw 57 330 := rfl
theorem ex_cw_58 : ex_okw 58 591 := rfl
theorem ex_cw_59 : ex_okw 59 598 := rfl
theorem ex_cw_60 : ex_okw 60 609 := rfl
theorem ex_cw_61 : ex_okw 61 686 := rfl
theorem ex_cw_62 : ex_okw 62 693 := rfl
theorem ex_cw_63 : ex_okw 63 706 := rfl
theorem ex_cw_64 : ex_okw 64 743 := rfl
theorem ex_cw_65 : ex_okw 65 759 := rfl
theorem ex_cw_66 : ex_okw 66 770 := rfl
theorem ex_cw_67 : ex_okw 67 790 := rfl
theorem ex_cw_68 : ex_okw 68 817 := rfl
theorem ex_cw_69 : ex_okw 69 353 := rfl
theorem ex_cw_70 : ex_okw 70 455 := rfl
theorem ex_cw_71 : ex_okw 71 365 := rfl
theorem ex_cw_72 : ex_okw 72 471 := rfl
theorem ex_cw_73 : ex_okw 73 535 := rfl
theorem ex_cw_74 : ex_okw 74 539 := rfl
theorem ex_cw_75 : ex_okw 75 612 := rfl
theorem ex_cw_76 : ex_okw 76 710 := rfl
theorem ex_cw_77 : ex_okw 77 947 := rfl
theorem ex_cw_78 : ex_okw 78 958 := rfl
theorem ex_cw_79 : ex_okw 79 954 := rfl
theorem ex_cw_80 : ex_okw 80 970 := rfl
theorem ex_cw_81 : ex_okw 81 962 := rfl
theorem ex_cw_82 : ex_okw 82 951 := rfl
theorem ex_cw_83 : ex_okw 83 966 := rfl
theorem ex_cw_84 : ex_okw 84 987 := rfl
theorem ex_cw_85 : ex_okw 85 983 := rfl
theorem ex_cw_86 : ex_okw 86 978 := rfl
theorem ex_cw_87 : ex_okw 87 974 := rfl
theorem ex_cw_88 : ex_okw 88 991 := rfl
theorem ex_cw_89 : ex_okw 89 999 := rfl
theorem ex_cw_90 : ex_okw 90 995 := rfl
theorem ex_cw_91 : ex_okw 91 1003 := rfl
theorem ex_cw_92 : ex_okw 92 1015 := rfl
theorem ex_cw_93 : ex_okw 93 1018 := rfl
theorem ex_cw_94 : ex_okw 94 1007 := rfl
theorem ex_cw_95 : ex_okw 95 1011 := rfl
theorem ex_cw_96 : ex_okw 96 1023 := rfl
theorem ex_cw_97 : ex_okw 97 1027 := rfl
theorem ex_cw_98 : ex_okw 98 1031 := rfl
theorem ex_cw_99 : ex_okw 99 1043 := rfl
theorem ex_cw_100 : ex_okw 100 1039 := rfl
theorem ex_cw_101 : ex_okw 101 1035 := rfl
theorem ex_cw_102 : ex_okw 102 1049 := rfl
theorem ex_cw_103 : ex_okw 103 1053 := rfl
theorem ex_cw_104 : ex_okw 104 1073 := rfl
theorem ex_cw_105 : ex_okw 105 1077 := rfl
theorem ex_cw_106 : ex_okw 106 1069 := rfl
theorem ex_cw_107 : ex_okw 107 1065 := rfl
theorem ex_cw_108 : ex_okw 108 1061 := rfl
theorem ex_cw_109 : ex_okw 109 1057 := rfl
theorem ex_cw_110 : ex_okw 110 1081 := rfl
theorem ex_cw_111 : ex_okw 111 1085 := rfl
theorem ex_cw_112 : ex_okw 112 1093 := rfl
theorem ex_cw_113 : ex_okw 113 1097 := rfl
theorem ex_cw_114 : ex_okw 114 1089 := rfl
theorem ex_cw_115 : ex_okw 115 1101 := rfl
theorem ex_cw_116 : ex_okw 116 1105 := rfl
theorem ex_cw_117 : ex_okw 117 1113 := rfl
theorem ex_cw_118 : ex_okw 118 1109 := rfl
theorem ex_cw_119 : ex_okw 119 1117 := rfl
theorem ex_cw_120 : ex_okw 120 1121 := rfl
theorem ex_cw_121 : ex_okw 121 1125 := rfl
theorem ex_cw_122 : ex_okw 122 356 := rfl
theorem ex_cw_123 : ex_okw 123 462 := rfl
theorem ex_cw_124 : ex_okw 124 496 := rfl
theorem ex_cw_125 : ex_okw 125 504 := rfl
theorem ex_cw_126 : ex_okw 126 515 := rfl
theorem ex_cw_127 : ex_okw 127 527 := rfl
theorem ex_cw_128 : ex_okw 128 550 := rfl
theorem ex_cw_129 : ex_okw 129 562 := rfl
theorem ex_cw_130 : ex_okw 130 575 := rfl
theorem ex_cw_131 : ex_okw 131 587 := rfl
theorem ex_cw_132 : ex_okw 132 594 := rfl
theorem ex_cw_133 : ex_okw 133 605 := rfl
theorem ex_cw_134 : ex_okw 134 682 := rfl
theorem ex_cw_135 : ex_okw 135 689 := rfl
theorem ex_cw_136 : ex_okw 136 701 := rfl
theorem ex_cw_137 : ex_okw 137 739 := rfl
theorem ex_cw_138 : ex_okw 138 755 := rfl
theorem ex_cw_139 : ex_okw 139 766 := rfl
theorem ex_cw_140 : ex_okw 140 785 := rfl
theorem ex_cw_141 : ex_okw 141 813 := rfl
theorem ex_cw_143 : ex_okw 143 638 := rfl
theorem ex_okw_all : ∀ M, M < 144 → M ≠ ex_law → ∃ i, ex_okw M i := by
  intro M hM hl
  match M, hM, hl with
  | 0, _, _ => exact ⟨_, ex_cw_0⟩
  | 1, _, _ => exact ⟨_, ex_cw_1⟩
  | 2, _, _ => exact ⟨_, ex_cw_2⟩
  | 3, _, _ => exact ⟨_, ex_cw_3⟩
  | 4, _, _ => exact ⟨_, ex_cw_4⟩
  | 5, _, _ => exact ⟨_, ex_cw_5⟩
  | 6, _, _ => exact ⟨_, ex_cw_6⟩
  | 7, _, _ => exact ⟨_, ex_cw_7⟩
  | 8, _, _ => exact ⟨_, ex_cw_8⟩
  | 9, _, _ => exact ⟨_, ex_cw_9⟩
  | 10, _, _ => exact ⟨_, ex_cw_10⟩
  | 11, _, _ => exact ⟨_, ex_cw_11⟩
  | 12, _, _ => exact ⟨_, ex_cw_12⟩
  | 13, _, _ => exact ⟨_, ex_cw_13⟩
  | 14, _, _ => exact ⟨_, ex_cw_14⟩
  | 15, _, _ => exact ⟨_, ex_cw_15⟩
  | 16, _, _ => exact ⟨_, ex_cw_16⟩
  | 17, _, _ => exact ⟨_, ex_cw_17⟩
  | 18, _, _ => exact ⟨_, ex_cw_18⟩
  | 19, _, _ => exact ⟨_, ex_cw_19⟩
  | 20, _, _ => exact ⟨_, ex_cw_20⟩
  | 21, _, _ => exact ⟨_, ex_cw_21⟩
  | 22, _, _ => exact ⟨_, ex_cw_22⟩
  | 23, _, _ => exact ⟨_, ex_cw_23⟩
  | 24, _, _ => exact ⟨_, ex_cw_24⟩
  | 25, _, _ => exact ⟨_, ex_cw_25⟩
  | 26, _, _ => exact ⟨_, ex_cw_26⟩
  | 27, _, _ => exact ⟨_, ex_cw_27⟩
  | 28, _, _ => exact ⟨_, ex_cw_28⟩
  | 29, _, _ => exact ⟨_, ex_cw_29⟩
  | 30, _, _ => exact ⟨_, ex_cw_30⟩
  | 31, _, _ => exact ⟨_, ex_cw_31⟩
  | 32, _, _ => exact ⟨_, ex_cw_32⟩
  | 33, _, _ => exact ⟨_, ex_cw_33⟩
  | 34, _, _ => exact ⟨_, ex_cw_34⟩
  | 35, _, _ => exact ⟨_, ex_cw_35⟩
  | 36, _, _ => exact ⟨_, ex_cw_36⟩
  | 37, _, _ => exact ⟨_, ex_cw_37⟩
  | 38, _, _ => exact ⟨_, ex_cw_38⟩
  | 39, _, _ => exact ⟨_, ex_cw_39⟩
  | 40, _, _ => exact ⟨_, ex_cw_40⟩
  | 41, _, _ => exact ⟨_, ex_cw_41⟩
  | 42, _, _ => exact ⟨_, ex_cw_42⟩
  | 43, _, _ => exact ⟨_, ex_cw_43⟩
  | 44, _, _ => exact ⟨_, ex_cw_44⟩
  | 45, _, _ => exact ⟨_, ex_cw_45⟩
  | 46, _, _ => exact ⟨_, ex_cw_46⟩
  | 47, _, _ => exact ⟨_, ex_cw_47⟩
  | 48, _, _ => exact ⟨_, ex_cw_48⟩
  | 49, _, _ => exact ⟨_, ex_cw_49⟩
  | 50, _, _ => exact ⟨_, ex_cw_50⟩
  | 51, _, _ => exact ⟨_, ex_cw_51⟩
  | 52, _, _ => exact ⟨_, ex_cw_52⟩
  | 53, _, _ => exact ⟨_, ex_cw_53⟩
  | 54, _, _ => exact ⟨_, ex_cw_54⟩
  | 55, _, _ => exact ⟨_, ex_cw_55⟩
  | 56, _, _ => exact ⟨_, ex_cw_56⟩
  | 57, _, _ => exact ⟨_, ex_cw_57⟩
  | 58, _, _ => exact ⟨_, ex_cw_58⟩
  | 59, _, _ => exact ⟨_, ex_cw_59⟩
  | 60, _, _ => exact ⟨_, ex_cw_60⟩
  | 61, _, _ => exact ⟨_, ex_cw_61⟩
  | 62, _, _ => exact ⟨_, ex_cw_62⟩
  | 63, _, _ => exact ⟨_, ex_cw_63⟩
  | 64, _, _ => exact ⟨_, ex_cw_64⟩
  | 65, _, _ => exact ⟨_, ex_cw_65⟩
  | 66, _, _ => exact ⟨_, ex_cw_66⟩
  | 67, _, _ => exact ⟨_, ex_cw_67⟩
  | 68, _, _ => exact ⟨_, ex_cw_68⟩
  | 69, _, _ => exact ⟨_, ex_cw_69⟩
  | 70, _, _ => exact ⟨_, ex_cw_70⟩
  | 71, _, _ => exact ⟨_, ex_cw_71⟩
  | 72, _, _ => exact ⟨_, ex_cw_72⟩
  | 73, _, _ => exact ⟨_, ex_cw_73⟩
  | 74, _, _ => exact ⟨_, ex_cw_74⟩
  | 75, _, _ => exact ⟨_, ex_cw_75⟩
  | 76, _, _ => exact ⟨_, ex_cw_76⟩
  | 77, _, _ => exact ⟨_, ex_cw_77⟩
  | 78, _, _ => exact ⟨_, ex_cw_78⟩
  | 79, _, _ => exact ⟨_, ex_cw_79⟩
  | 80, _, _ => exact ⟨_, ex_cw_80⟩
  | 81, _, _ => exact ⟨_, ex_cw_81⟩
  | 82, _, _ => exact ⟨_, ex_cw_82⟩
  | 83, _, _ => exact ⟨_, ex_cw_83⟩
  | 84, _, _ => exact ⟨_, ex_cw_84⟩
  | 85, _, _ => exact ⟨_, ex_cw_85⟩
  | 86, _, _ => exact ⟨_, ex_cw_86⟩
  | 87, _, _ => exact ⟨_, ex_cw_87⟩
  | 88, _, _ => exact ⟨_, ex_cw_88⟩
  | 89, _, _ => exact ⟨_, ex_cw_89⟩
  | 90, _, _ => exact ⟨_, ex_cw_90⟩
  | 91, _, _ => exact ⟨_, ex_cw_91⟩
  | 92, _, _ => exact ⟨_, ex_cw_92⟩
  | 93, _, _ => exact ⟨_, ex_cw_93⟩
  | 94, _, _ => exact ⟨_, ex_cw_94⟩
  | 95, _, _ => exact ⟨_, ex_cw_95⟩
  | 96, _, _ => exact ⟨_, ex_cw_96⟩
  | 97, _, _ => exact ⟨_, ex_cw_97⟩
  | 98, _, _ => exact ⟨_, ex_cw_98⟩
  | 99, _, _ => exact ⟨_, ex_cw_99⟩
  | 100, _, _ => exact ⟨_, ex_cw_100⟩
  | 101, _, _ => exact ⟨_, ex_cw_101⟩
  | 102, _, _ => exact ⟨_, ex_cw_102⟩
  | 103, _, _ => exact ⟨_, ex_cw_103⟩
  | 104, _, _ => exact ⟨_, ex_cw_104⟩
  | 105, _, _ => exact ⟨_, ex_cw_105⟩
  | 106, _, _ => exact ⟨_, ex_cw_106⟩
  | 107, _, _ => exact ⟨_, ex_cw_107⟩
  | 108, _, _ => exact ⟨_, ex_cw_108⟩
  | 109, _, _ => exact ⟨_, ex_cw_109⟩
  | 110, _, _ => exact ⟨_, ex_cw_110⟩
  | 111, _, _ => exact ⟨_, ex_cw_111⟩
  | 112, _, _ => exact ⟨_, ex_cw_112⟩
  | 113, _, _ => exact ⟨_, ex_cw_113⟩
  | 114, _, _ => exact ⟨_, ex_cw_114⟩
  | 115, _, _ => exact ⟨_, ex_cw_115⟩
  | 116, _, _ => exact ⟨_, ex_cw_116⟩
  | 117, _, _ => exact ⟨_, ex_cw_117⟩
  | 118, _, _ => exact ⟨_, ex_cw_118⟩
  | 119, _, _ => exact ⟨_, ex_cw_119⟩
  | 120, _, _ => exact ⟨_, ex_cw_120⟩
  | 121, _, _ => exact ⟨_, ex_cw_121⟩
  | 122, _, _ => exact ⟨_, ex_cw_122⟩
  | 123, _, _ => exact ⟨_, ex_cw_123⟩
  | 124, _, _ => exact ⟨_, ex_cw_124⟩
  | 125, _, _ => exact ⟨_, ex_cw_125⟩
  | 126, _, _ => exact ⟨_, ex_cw_126⟩
  | 127, _, _ => exact ⟨_, ex_cw_127⟩
  | 128, _, _ => exact ⟨_, ex_cw_128⟩
  | 129, _, _ => exact ⟨_, ex_cw_129⟩
  | 130, _, _ => exact ⟨_, ex_cw_130⟩
  | 131, _, _ => exact ⟨_, ex_cw_131⟩
  | 132, _, _ => exact ⟨_, ex_cw_132⟩
  | 133, _, _ => exact ⟨_, ex_cw_133⟩
  | 134, _, _ => exact ⟨_, ex_cw_134⟩
  | 135, _, _ => exact ⟨_, ex_cw_135⟩
  | 136, _, _ => exact ⟨_, ex_cw_136⟩
  | 137, _, _ => exact ⟨_, ex_cw_137⟩
  | 138, _, _ => exact ⟨_, ex_cw_138⟩
  | 139, _, _ => exact ⟨_, ex_cw_139⟩
  | 140, _, _ => exact ⟨_, ex_cw_140⟩
  | 141, _, _ => exact ⟨_, ex_cw_141⟩
  | 142, _, hl => exact absurd rfl hl
  | 143, _, _ => exact ⟨_, ex_cw_143⟩
  | n + 144, h, _ => exact absurd h (by omega)
theorem ex_mds_len : ex_mds.length = 144 := by decide +kernel
theorem ex_ok_lays_0 : ex_all2 (fun w i => ex_wp i w && goodWord w) (u_ws RX0 TX0 9) [246, 248, 250, 252, 254, 256, 258, 260, 262] = true := by decide +kernel
theorem ex_ok_lays_1 : ex_all2 (fun w i => ex_wp i w && goodWord w) (u_ws RX1 TX1 18) [187, 189, 191, 193, 195, 197, 199, 201, 203, 205, 207, 209, 211, 213, 215, 217, 219, 221] = true := by decide +kernel
theorem ex_ok_lays_2 : ex_all2 (fun w i => ex_wp i w && goodWord w) (u_ws RX2 TX2 14) [131, 133, 135, 137, 139, 141, 143, 145, 147, 149, 151, 153, 155, 157] = true := by decide +kernel
theorem ex_ok_lays_3 : ex_all2 (fun w i => ex_wp i w && goodWord w) (u_ws RX3 TX3 8) [88, 90, 92, 94, 96, 98, 100, 102] = true := by decide +kernel
theorem ex_ok_lays_4 : ex_all2 (fun w i => ex_wp i w && goodWord w) (u_ws RX4 TX4 4) [269, 271, 273, 275] = true := by decide +kernel
theorem ex_ok_lays_5 : ex_all2 (fun w i => ex_wp i w && goodWord w) (u_ws RX5 TX5 39) [865, 867, 869, 871, 873, 875, 877, 879, 881, 883, 885, 887, 889, 891, 893, 895, 897, 899, 901, 903, 905, 907, 909, 911, 913, 915, 917, 919, 921, 923, 925, 927, 929, 931, 933, 935, 937, 939, 941] = true := by decide +kernel
/-- where cells lie, and what numbers their fields bear -/
def ex_okl (k : Nat) : Bool := match ex_lay[k]? with
  | some (.inr (ci, fs)) => ci == k && Nat.blt ci 6 && Nat.blt fs.length 100 && (List.range fs.length).all (fun j => match fs[j]? with
    | some (t, n) => (match t with
      | 0 => n == 100 * k + j
      | 1 => n == 100 * k + j
      | _ => true)
    | none => false)
  | some (.inl (kd, n, id)) => id == k && Nat.blt kd 3 && Nat.blt n 1000
  | none => true
theorem ex_okl_all : ∀ k, k < 59 → ex_okl k = true := by decide +kernel
theorem ex_lay_len : ex_lay.length = 59 := by decide +kernel
