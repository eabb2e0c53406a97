/-! ===== work, need ===== -/
section OW
theorem t_a1 (σ : ex_S) (a i : Nat) (v : Int32) : (ex_sA σ a i v).1 = σ.1 := rfl
theorem t_a2 (σ : ex_S) (a i : Nat) (v : Int32) : (ex_sA σ a i v).2.1 = σ.2.1 := rfl
theorem t_a3 (σ : ex_S) (a i : Nat) (v : Int32) (r : Nat) : (ex_sA σ a i v).2.2.1 r = if r = a then upd (σ.2.2.1 a) i v else σ.2.2.1 r := rfl
theorem t_a4 (σ : ex_S) (a i : Nat) (v : Int32) : (ex_sA σ a i v).2.2.2 = σ.2.2.2 := rfl
theorem v01 : vp_in 0 1 = True := eq_true (vp_in_nI (n := 0) (by decide) (by decide))
theorem cl0 : (0 : Int32).toNatClampNeg = 0 := by decide
def wkA (p0 p1 p2 p3 : Int32) : Prop := ((1 : Int32) ≤ p0 ∧ p0 ≤ 12) ∧ ((1 : Int32) ≤ p1 ∧ p1 ≤ 6) ∧ ((0 : Int32) ≤ p2 ∧ p2 ≤ 100) ∧ (-1 : Int32) ≤ p3 ∧ p3 ≤ 1000
def wkS (σ : ex_S) (n : Nat) (p0 p1 p2 p3 : Int32) : ex_S := ex_sF (ex_sA (ex_sA (ex_sA (ex_sA (ex_sF (ex_sF σ 110 0) 2 0) 27 n p0) 28 n p1) 29 n p2) 30 n p3) 306 (nI (n + 1))
def wkM (σ : ex_S) (n : Nat) (p0 p1 p2 p3 : Int32) : ex_S := ex_sF (ex_sF (ex_sF (ex_sA (ex_sA (ex_sA (ex_sA (ex_sF σ 500 0) 33 n p0) 34 n p1) 35 n p2) 36 n p3) 505 (nI (n + 1))) 532 0) 525 0
variable {d n : Nat} {E : ex_O → ex_S → Prop} {σ : ex_S} {p0 p1 p2 p3 : Int32}
theorem k_workT (h : ¬ wkA p0 p1 p2 p3) : ex_C (d + 3) 122 [.ref 4, .int p0, .int p1, .int p2, .int p3, .ref 58] σ E = E (.inl (some (.int 1))) σ := by
  simp only [r_L_work, r_L_work_0, r_L_work_2, r_L_work_3, r_L_work_4, r_L_work_5, r_L_work_6, r_L_work_7, r_L_work_9, r_L_work_12, r_L_work_13, r_L_work_14, r_L_work_19, r_L_work_20, r_L_work_23, r_L_work_24, r_L_work_25, r_L_work_26, Nat.le_refl, true_and, r_X4_work, r_X4_work_0, r_X4_work_1, r_X4_work_2, r_X4_work_4, r_X4_work_7, r_X4_work_10, r_X4_work_11, r_X4_work_12, r_X4_work_14, r_X4_work_17, r_X4_work_20, r_X4_work_21, r_X4_work_22, r_X4_work_24, r_X4_work_27, r_X4_work_30, r_X4_work_32, r_X4_work_33, r_X4_work_36, r_X4_work_39, r_X4_work_42, r_X4_work_52, r_X4_work_53, r_X4_work_56, r_X4_work_59, r_X4_work_61, r_X4_work_64, r_X4_work_74, r_X4_work_75, r_X4_work_78, r_X4_work_79, r_X4_work_82, r_X4_work_83, r_X4_work_84, r_X4_work_85, r_X4_work_87, r_X4_work_90, c_within, Option.toList, List.cons_append, List.nil_append]
  by_cases h1 : (1 : Int32) ≤ p0 ∧ p0 ≤ 12
  · by_cases h2 : (1 : Int32) ≤ p1 ∧ p1 ≤ 6
    · by_cases h3 : (0 : Int32) ≤ p2 ∧ p2 ≤ 100
      · by_cases h4 : (-1 : Int32) ≤ p3 ∧ p3 ≤ 1000
        · exact absurd ⟨h1, h2, h3, h4⟩ h
        · simp only [if_pos h1, if_pos h2, if_pos h3, if_neg h4, i10, if_false, if_true, xc_work_1, r_L_work_0, r_L_work_2, r_L_work_3, r_L_work_4, r_L_work_5, r_L_work_6, r_L_work_7, r_L_work_9, r_L_work_12, r_L_work_13, r_L_work_14, r_L_work_19, r_L_work_20, r_L_work_23, r_L_work_24, r_L_work_25, r_L_work_26]
      · simp only [if_pos h1, if_pos h2, if_neg h3, i10, if_false, if_true, xc_work_1, r_L_work_0, r_L_work_2, r_L_work_3, r_L_work_4, r_L_work_5, r_L_work_6, r_L_work_7, r_L_work_9, r_L_work_12, r_L_work_13, r_L_work_14, r_L_work_19, r_L_work_20, r_L_work_23, r_L_work_24, r_L_work_25, r_L_work_26]
    · simp only [if_pos h1, if_neg h2, i10, if_false, if_true, xc_work_1, r_L_work_0, r_L_work_2, r_L_work_3, r_L_work_4, r_L_work_5, r_L_work_6, r_L_work_7, r_L_work_9, r_L_work_12, r_L_work_13, r_L_work_14, r_L_work_19, r_L_work_20, r_L_work_23, r_L_work_24, r_L_work_25, r_L_work_26]
  · simp only [if_neg h1, if_true, xc_work_1, r_L_work_0, r_L_work_2, r_L_work_3, r_L_work_4, r_L_work_5, r_L_work_6, r_L_work_7, r_L_work_9, r_L_work_12, r_L_work_13, r_L_work_14, r_L_work_19, r_L_work_20, r_L_work_23, r_L_work_24, r_L_work_25, r_L_work_26]
theorem k_workU (h : wkA p0 p1 p2 p3) (h3 : σ.1 306 = 8) : ex_C (d + 3) 122 [.ref 4, .int p0, .int p1, .int p2, .int p3, .ref 58] σ E = E (.inl (some (.int 2))) σ := by
  simp only [r_L_work, r_L_work_0, r_L_work_2, r_L_work_3, r_L_work_4, r_L_work_5, r_L_work_6, r_L_work_7, r_L_work_9, r_L_work_12, r_L_work_13, r_L_work_14, r_L_work_19, r_L_work_20, r_L_work_23, r_L_work_24, r_L_work_25, r_L_work_26, Nat.le_refl, true_and, r_X4_work, r_X4_work_0, r_X4_work_1, r_X4_work_2, r_X4_work_4, r_X4_work_7, r_X4_work_10, r_X4_work_11, r_X4_work_12, r_X4_work_14, r_X4_work_17, r_X4_work_20, r_X4_work_21, r_X4_work_22, r_X4_work_24, r_X4_work_27, r_X4_work_30, r_X4_work_32, r_X4_work_33, r_X4_work_36, r_X4_work_39, r_X4_work_42, r_X4_work_52, r_X4_work_53, r_X4_work_56, r_X4_work_59, r_X4_work_61, r_X4_work_64, r_X4_work_74, r_X4_work_75, r_X4_work_78, r_X4_work_79, r_X4_work_82, r_X4_work_83, r_X4_work_84, r_X4_work_85, r_X4_work_87, r_X4_work_90, c_within, Option.toList, List.cons_append, List.nil_append, if_pos h.1, if_pos h.2.1, if_pos h.2.2.1, if_pos h.2.2.2, i10, if_false, h3, show ((8 : Int32) < 8) = False from eq_false (by decide), xc_work_2]
theorem k_work (h : wkA p0 p1 p2 p3) (hn : n < 8) (h3 : σ.1 306 = nI n) : ex_C (d + 3) 122 [.ref 4, .int p0, .int p1, .int p2, .int p3, .ref 58] σ E = E (.inl (some (.int 0))) (ex_sB (wkS σ n p0 p1 p2 p3) 58 0 (nI n).toInt64) := by
  have h8 : (nI n < 8) = True := eq_true (nI_lt (b := 8) hn (by decide))
  simp only [r_L_work, r_L_work_0, r_L_work_2, r_L_work_3, r_L_work_4, r_L_work_5, r_L_work_6, r_L_work_7, r_L_work_9, r_L_work_12, r_L_work_13, r_L_work_14, r_L_work_19, r_L_work_20, r_L_work_23, r_L_work_24, r_L_work_25, r_L_work_26, Nat.le_refl, true_and, r_X4_work, r_X4_work_0, r_X4_work_1, r_X4_work_2, r_X4_work_4, r_X4_work_7, r_X4_work_10, r_X4_work_11, r_X4_work_12, r_X4_work_14, r_X4_work_17, r_X4_work_20, r_X4_work_21, r_X4_work_22, r_X4_work_24, r_X4_work_27, r_X4_work_30, r_X4_work_32, r_X4_work_33, r_X4_work_36, r_X4_work_39, r_X4_work_42, r_X4_work_52, r_X4_work_53, r_X4_work_56, r_X4_work_59, r_X4_work_61, r_X4_work_64, r_X4_work_74, r_X4_work_75, r_X4_work_78, r_X4_work_79, r_X4_work_82, r_X4_work_83, r_X4_work_84, r_X4_work_85, r_X4_work_87, r_X4_work_90, c_within, Option.toList, List.cons_append, List.nil_append, if_pos h.1, if_pos h.2.1, if_pos h.2.2.1, if_pos h.2.2.2, i10, if_false, if_true, h3, h8, c_endPN, r_X3_addWork, r_X3_addWork_0, r_X3_addWork_1, r_X3_addWork_4, r_X3_addWork_6, r_X3_addWork_7, r_X3_addWork_10, r_X3_addWork_12, r_X3_addWork_13, r_X3_addWork_14, r_X3_addWork_15, r_X3_addWork_18, r_X3_addWork_20, r_X3_addWork_21, r_X3_addWork_22, r_X3_addWork_23, r_X3_addWork_26, r_X3_addWork_28, r_X3_addWork_29, r_X3_addWork_30, r_X3_addWork_31, r_X3_addWork_34, r_X3_addWork_36, r_X3_addWork_38, r_X3_addWork_39, r_X3_addWork_40, r_X3_addWork_41, r_X3_addWork_44, r_X3_addWork_45, r_X3_addWork_46, r_X3_addWork_49, r_X3_addWork_51, t_a1, s_f1, Nat.reduceEqDiff, tl_in (show n < 8 by omega) (show 8 < 2 ^ 31 by omega), tl_cl (show n < 2 ^ 31 by omega), nI_1, v01, cl0]
  rfl
theorem m_workT (h : ¬ wkA p0 p1 p2 p3) : ex_C (d + 2) 82 [.ref 5, .int p0, .int p1, .int p2, .int p3] σ E = E (.inl (some (.int 0))) (ex_sF (ex_sF σ 500 0) 500 1) := by
  simp only [r_X5_work, r_X5_work_0, r_X5_work_1, r_X5_work_2, r_X5_work_5, r_X5_work_6, r_X5_work_7, r_X5_work_8, r_X5_work_10, r_X5_work_13, r_X5_work_16, r_X5_work_17, r_X5_work_18, r_X5_work_20, r_X5_work_23, r_X5_work_26, r_X5_work_27, r_X5_work_28, r_X5_work_30, r_X5_work_33, r_X5_work_36, r_X5_work_38, r_X5_work_39, r_X5_work_42, r_X5_work_45, r_X5_work_48, r_X5_work_49, r_X5_work_52, r_X5_work_53, r_X5_work_54, r_X5_work_57, r_X5_work_60, r_X5_work_61, r_X5_work_62, r_X5_work_65, r_X5_work_67, r_X5_work_70, r_X5_work_71, r_X5_work_74, r_X5_work_75, r_X5_work_76, r_X5_work_79, r_X5_work_82, r_X5_work_83, r_X5_work_84, r_X5_work_85, r_X5_work_88, r_X5_work_89, r_X5_work_92, r_X5_work_93, r_X5_work_94, r_X5_work_95, r_X5_work_98, r_X5_work_99, r_X5_work_102, r_X5_work_103, r_X5_work_104, r_X5_work_105, r_X5_work_108, r_X5_work_109, r_X5_work_112, r_X5_work_113, r_X5_work_114, r_X5_work_115, r_X5_work_118, r_X5_work_119, r_X5_work_122, r_X5_work_124, r_X5_work_125, r_X5_work_126, r_X5_work_127, r_X5_work_130, r_X5_work_131, r_X5_work_132, r_X5_work_135, r_X5_work_136, r_X5_work_139, r_X5_work_140, r_X5_work_143, r_X5_work_144, r_X5_work_145, c_in, Option.toList, List.cons_append, List.nil_append]
  by_cases h1 : (1 : Int32) ≤ p0 ∧ p0 ≤ 12
  · by_cases h2 : (1 : Int32) ≤ p1 ∧ p1 ≤ 6
    · by_cases h3 : (0 : Int32) ≤ p2 ∧ p2 ≤ 100
      · by_cases h4 : (-1 : Int32) ≤ p3 ∧ p3 ≤ 1000
        · exact absurd ⟨h1, h2, h3, h4⟩ h
        · simp only [if_pos h1, if_pos h2, if_pos h3, if_neg h4, i10, if_false, if_true, c_throwsIf1, r_X5_work_0, r_X5_work_1, r_X5_work_2, r_X5_work_5, r_X5_work_6, r_X5_work_7, r_X5_work_8, r_X5_work_10, r_X5_work_13, r_X5_work_16, r_X5_work_17, r_X5_work_18, r_X5_work_20, r_X5_work_23, r_X5_work_26, r_X5_work_27, r_X5_work_28, r_X5_work_30, r_X5_work_33, r_X5_work_36, r_X5_work_38, r_X5_work_39, r_X5_work_42, r_X5_work_45, r_X5_work_48, r_X5_work_49, r_X5_work_52, r_X5_work_53, r_X5_work_54, r_X5_work_57, r_X5_work_60, r_X5_work_61, r_X5_work_62, r_X5_work_65, r_X5_work_67, r_X5_work_70, r_X5_work_71, r_X5_work_74, r_X5_work_75, r_X5_work_76, r_X5_work_79, r_X5_work_82, r_X5_work_83, r_X5_work_84, r_X5_work_85, r_X5_work_88, r_X5_work_89, r_X5_work_92, r_X5_work_93, r_X5_work_94, r_X5_work_95, r_X5_work_98, r_X5_work_99, r_X5_work_102, r_X5_work_103, r_X5_work_104, r_X5_work_105, r_X5_work_108, r_X5_work_109, r_X5_work_112, r_X5_work_113, r_X5_work_114, r_X5_work_115, r_X5_work_118, r_X5_work_119, r_X5_work_122, r_X5_work_124, r_X5_work_125, r_X5_work_126, r_X5_work_127, r_X5_work_130, r_X5_work_131, r_X5_work_132, r_X5_work_135, r_X5_work_136, r_X5_work_139, r_X5_work_140, r_X5_work_143, r_X5_work_144, r_X5_work_145, Option.toList, List.cons_append, List.nil_append]
      · simp only [if_pos h1, if_pos h2, if_neg h3, i10, if_false, if_true, c_throwsIf1, r_X5_work_0, r_X5_work_1, r_X5_work_2, r_X5_work_5, r_X5_work_6, r_X5_work_7, r_X5_work_8, r_X5_work_10, r_X5_work_13, r_X5_work_16, r_X5_work_17, r_X5_work_18, r_X5_work_20, r_X5_work_23, r_X5_work_26, r_X5_work_27, r_X5_work_28, r_X5_work_30, r_X5_work_33, r_X5_work_36, r_X5_work_38, r_X5_work_39, r_X5_work_42, r_X5_work_45, r_X5_work_48, r_X5_work_49, r_X5_work_52, r_X5_work_53, r_X5_work_54, r_X5_work_57, r_X5_work_60, r_X5_work_61, r_X5_work_62, r_X5_work_65, r_X5_work_67, r_X5_work_70, r_X5_work_71, r_X5_work_74, r_X5_work_75, r_X5_work_76, r_X5_work_79, r_X5_work_82, r_X5_work_83, r_X5_work_84, r_X5_work_85, r_X5_work_88, r_X5_work_89, r_X5_work_92, r_X5_work_93, r_X5_work_94, r_X5_work_95, r_X5_work_98, r_X5_work_99, r_X5_work_102, r_X5_work_103, r_X5_work_104, r_X5_work_105, r_X5_work_108, r_X5_work_109, r_X5_work_112, r_X5_work_113, r_X5_work_114, r_X5_work_115, r_X5_work_118, r_X5_work_119, r_X5_work_122, r_X5_work_124, r_X5_work_125, r_X5_work_126, r_X5_work_127, r_X5_work_130, r_X5_work_131, r_X5_work_132, r_X5_work_135, r_X5_work_136, r_X5_work_139, r_X5_work_140, r_X5_work_143, r_X5_work_144, r_X5_work_145, Option.toList, List.cons_append, List.nil_append]
    · simp only [if_pos h1, if_neg h2, i10, if_false, if_true, c_throwsIf1, r_X5_work_0, r_X5_work_1, r_X5_work_2, r_X5_work_5, r_X5_work_6, r_X5_work_7, r_X5_work_8, r_X5_work_10, r_X5_work_13, r_X5_work_16, r_X5_work_17, r_X5_work_18, r_X5_work_20, r_X5_work_23, r_X5_work_26, r_X5_work_27, r_X5_work_28, r_X5_work_30, r_X5_work_33, r_X5_work_36, r_X5_work_38, r_X5_work_39, r_X5_work_42, r_X5_work_45, r_X5_work_48, r_X5_work_49, r_X5_work_52, r_X5_work_53, r_X5_work_54, r_X5_work_57, r_X5_work_60, r_X5_work_61, r_X5_work_62, r_X5_work_65, r_X5_work_67, r_X5_work_70, r_X5_work_71, r_X5_work_74, r_X5_work_75, r_X5_work_76, r_X5_work_79, r_X5_work_82, r_X5_work_83, r_X5_work_84, r_X5_work_85, r_X5_work_88, r_X5_work_89, r_X5_work_92, r_X5_work_93, r_X5_work_94, r_X5_work_95, r_X5_work_98, r_X5_work_99, r_X5_work_102, r_X5_work_103, r_X5_work_104, r_X5_work_105, r_X5_work_108, r_X5_work_109, r_X5_work_112, r_X5_work_113, r_X5_work_114, r_X5_work_115, r_X5_work_118, r_X5_work_119, r_X5_work_122, r_X5_work_124, r_X5_work_125, r_X5_work_126, r_X5_work_127, r_X5_work_130, r_X5_work_131, r_X5_work_132, r_X5_work_135, r_X5_work_136, r_X5_work_139, r_X5_work_140, r_X5_work_143, r_X5_work_144, r_X5_work_145, Option.toList, List.cons_append, List.nil_append]
  · simp only [if_neg h1, i10, if_false, if_true, c_throwsIf1, r_X5_work_0, r_X5_work_1, r_X5_work_2, r_X5_work_5, r_X5_work_6, r_X5_work_7, r_X5_work_8, r_X5_work_10, r_X5_work_13, r_X5_work_16, r_X5_work_17, r_X5_work_18, r_X5_work_20, r_X5_work_23, r_X5_work_26, r_X5_work_27, r_X5_work_28, r_X5_work_30, r_X5_work_33, r_X5_work_36, r_X5_work_38, r_X5_work_39, r_X5_work_42, r_X5_work_45, r_X5_work_48, r_X5_work_49, r_X5_work_52, r_X5_work_53, r_X5_work_54, r_X5_work_57, r_X5_work_60, r_X5_work_61, r_X5_work_62, r_X5_work_65, r_X5_work_67, r_X5_work_70, r_X5_work_71, r_X5_work_74, r_X5_work_75, r_X5_work_76, r_X5_work_79, r_X5_work_82, r_X5_work_83, r_X5_work_84, r_X5_work_85, r_X5_work_88, r_X5_work_89, r_X5_work_92, r_X5_work_93, r_X5_work_94, r_X5_work_95, r_X5_work_98, r_X5_work_99, r_X5_work_102, r_X5_work_103, r_X5_work_104, r_X5_work_105, r_X5_work_108, r_X5_work_109, r_X5_work_112, r_X5_work_113, r_X5_work_114, r_X5_work_115, r_X5_work_118, r_X5_work_119, r_X5_work_122, r_X5_work_124, r_X5_work_125, r_X5_work_126, r_X5_work_127, r_X5_work_130, r_X5_work_131, r_X5_work_132, r_X5_work_135, r_X5_work_136, r_X5_work_139, r_X5_work_140, r_X5_work_143, r_X5_work_144, r_X5_work_145, Option.toList, List.cons_append, List.nil_append]
theorem m_workU (h : wkA p0 p1 p2 p3) (h3 : σ.1 505 = 8) : ex_C (d + 2) 82 [.ref 5, .int p0, .int p1, .int p2, .int p3] σ E = E (.inl (some (.int 0))) (ex_sF (ex_sF σ 500 0) 500 2) := by
  simp only [r_X5_work, r_X5_work_0, r_X5_work_1, r_X5_work_2, r_X5_work_5, r_X5_work_6, r_X5_work_7, r_X5_work_8, r_X5_work_10, r_X5_work_13, r_X5_work_16, r_X5_work_17, r_X5_work_18, r_X5_work_20, r_X5_work_23, r_X5_work_26, r_X5_work_27, r_X5_work_28, r_X5_work_30, r_X5_work_33, r_X5_work_36, r_X5_work_38, r_X5_work_39, r_X5_work_42, r_X5_work_45, r_X5_work_48, r_X5_work_49, r_X5_work_52, r_X5_work_53, r_X5_work_54, r_X5_work_57, r_X5_work_60, r_X5_work_61, r_X5_work_62, r_X5_work_65, r_X5_work_67, r_X5_work_70, r_X5_work_71, r_X5_work_74, r_X5_work_75, r_X5_work_76, r_X5_work_79, r_X5_work_82, r_X5_work_83, r_X5_work_84, r_X5_work_85, r_X5_work_88, r_X5_work_89, r_X5_work_92, r_X5_work_93, r_X5_work_94, r_X5_work_95, r_X5_work_98, r_X5_work_99, r_X5_work_102, r_X5_work_103, r_X5_work_104, r_X5_work_105, r_X5_work_108, r_X5_work_109, r_X5_work_112, r_X5_work_113, r_X5_work_114, r_X5_work_115, r_X5_work_118, r_X5_work_119, r_X5_work_122, r_X5_work_124, r_X5_work_125, r_X5_work_126, r_X5_work_127, r_X5_work_130, r_X5_work_131, r_X5_work_132, r_X5_work_135, r_X5_work_136, r_X5_work_139, r_X5_work_140, r_X5_work_143, r_X5_work_144, r_X5_work_145, c_in, Option.toList, List.cons_append, List.nil_append, if_pos h.1, if_pos h.2.1, if_pos h.2.2.1, if_pos h.2.2.2, i10, if_false, if_true, c_throwsIf0, c_throwsIf1, s_f1, Nat.reduceEqDiff, h3]
theorem m_work (h : wkA p0 p1 p2 p3) (hn : n < 8) (h3 : σ.1 505 = nI n) : ex_C (d + 2) 82 [.ref 5, .int p0, .int p1, .int p2, .int p3] σ E = E (.inl (some (.int (nI n)))) (wkM σ n p0 p1 p2 p3) := by
  have h8 : (nI n = 8) = False := by
    rw [show (8 : Int32) = nI 8 from rfl, tl_eq (by omega) (by omega)]
    exact eq_false (by omega)
  have h9 : nI (n + 1) - 1 = nI n := by
    rw [show (1 : Int32) = nI 1 from rfl, pk_sub (by omega)]
    rfl
  simp only [r_X5_work, r_X5_work_0, r_X5_work_1, r_X5_work_2, r_X5_work_5, r_X5_work_6, r_X5_work_7, r_X5_work_8, r_X5_work_10, r_X5_work_13, r_X5_work_16, r_X5_work_17, r_X5_work_18, r_X5_work_20, r_X5_work_23, r_X5_work_26, r_X5_work_27, r_X5_work_28, r_X5_work_30, r_X5_work_33, r_X5_work_36, r_X5_work_38, r_X5_work_39, r_X5_work_42, r_X5_work_45, r_X5_work_48, r_X5_work_49, r_X5_work_52, r_X5_work_53, r_X5_work_54, r_X5_work_57, r_X5_work_60, r_X5_work_61, r_X5_work_62, r_X5_work_65, r_X5_work_67, r_X5_work_70, r_X5_work_71, r_X5_work_74, r_X5_work_75, r_X5_work_76, r_X5_work_79, r_X5_work_82, r_X5_work_83, r_X5_work_84, r_X5_work_85, r_X5_work_88, r_X5_work_89, r_X5_work_92, r_X5_work_93, r_X5_work_94, r_X5_work_95, r_X5_work_98, r_X5_work_99, r_X5_work_102, r_X5_work_103, r_X5_work_104, r_X5_work_105, r_X5_work_108, r_X5_work_109, r_X5_work_112, r_X5_work_113, r_X5_work_114, r_X5_work_115, r_X5_work_118, r_X5_work_119, r_X5_work_122, r_X5_work_124, r_X5_work_125, r_X5_work_126, r_X5_work_127, r_X5_work_130, r_X5_work_131, r_X5_work_132, r_X5_work_135, r_X5_work_136, r_X5_work_139, r_X5_work_140, r_X5_work_143, r_X5_work_144, r_X5_work_145, c_in, Option.toList, List.cons_append, List.nil_append, if_pos h.1, if_pos h.2.1, if_pos h.2.2.1, if_pos h.2.2.2, i10, if_false, if_true, c_throwsIf0, s_f1, t_a1, Nat.reduceEqDiff, h3, h8, tl_in (show n < 8 by omega) (show 8 < 2 ^ 31 by omega), tl_cl (show n < 2 ^ 31 by omega), true_and, nI_1, c_mends, h9]
  rfl
theorem p_work (hI : Inv σ) : pr2 (d + 3) 122 [.ref 4, .int p0, .int p1, .int p2, .int p3, .ref 58] 82 [.ref 5, .int p0, .int p1, .int p2, .int p3] σ gd := by
  unfold pr2
  by_cases h : wkA p0 p1 p2 p3
  · obtain ⟨⟨n, m, nr, nd, t, hh, wt, ha, al, so, hW, hP, hN⟩, s, l, ch, cp, fr, to, hS⟩ := hI
    obtain ⟨w1, w2, w3, w4, w5, w6, w7⟩ := hW
    have hn := w1.1
    rcases Nat.lt_or_ge n 8 with q | q
    · rw [k_work h q w1.2.1]
      refine ⟨0, rfl, ?_⟩
      rw [m_work (n := n) (σ := ex_sB (wkS σ n p0 p1 p2 p3) 58 0 (nI n).toInt64) h q w2.2.2.1]
      obtain ⟨k0, e0, a0, b0⟩ := rng (a := 1) (b := 12) (by decide) (by decide) h.1.1 h.1.2
      obtain ⟨k1, e1, a1, b1⟩ := rng (a := 1) (b := 6) (by decide) (by decide) h.2.1.1 h.2.1.2
      obtain ⟨k2, e2, a2, b2⟩ := rng (a := 0) (b := 100) (by decide) (by decide) h.2.2.1.1 h.2.2.1.2
      have hp2 : 2 ^ n < 2 ^ (n + 1) := Nat.pow_lt_pow_right (by decide) (by omega)
      have hc : p3 = -1 ∨ ∃ k, k ≤ 1000 ∧ p3 = nI k := by
        by_cases q3 : p3 = -1
        · exact Or.inl q3
        · obtain ⟨k3, e3, _, b3⟩ := rng (x := p3) (a := 0) (b := 1000) (by decide) (by decide) (by
            have := h.2.2.2.1
            have q4 : p3.toInt ≠ -1 := fun q5 => q3 (Int32.toInt_inj.mp q5)
            rw [Int32.le_iff_toInt_le] at this ⊢
            show (0 : Int) ≤ p3.toInt
            have e : (-1 : Int32).toInt = -1 := by decide
            omega) h.2.2.2.2
          exact Or.inr ⟨k3, b3, e3⟩
      refine ⟨nI n, rfl, ⟨⟨n + 1, m, nr, nd, pl_up t n k0, pl_up hh n k1, pl_up wt n k2, ha, al, so, ⟨?_, ?_, w3, w4, ?_, ?_, ?_⟩, ⟨hP.1, Or.inl ⟨rfl, rfl⟩⟩, Or.inl ⟨rfl, rfl⟩⟩, s, l, ch, cp, fr, to, hS⟩, rfl, fun _ => rfl⟩
      · refine ⟨by omega, rfl, fun k hk => ?_⟩
        have := w1.2.2 k hk
        exact ⟨this.1, this.2.1, by omega, by omega⟩
      · refine ⟨by omega, w2.2.1, rfl, w2.2.2.2.1, fun j hj => ?_⟩
        have := w2.2.2.2.2 j hj
        exact ⟨this.1, this.2.1, this.2.2.1, by omega, by omega⟩
      · intro w hw
        show (if w = n then p0 else σ.2.2.1 27 w) = nI (pl_up t n k0 w) ∧ (if w = n then p1 else σ.2.2.1 28 w) = nI (pl_up hh n k1 w) ∧ (if w = n then p2 else σ.2.2.1 29 w) = nI (pl_up wt n k2 w) ∧ 1 ≤ pl_up t n k0 w ∧ pl_up t n k0 w ≤ 12 ∧ pl_up hh n k1 w ≤ 100 ∧ pl_up wt n k2 w ≤ 100
        by_cases e : w = n
        · subst e
          rw [if_pos rfl, if_pos rfl, if_pos rfl, pl_up_at, pl_up_at, pl_up_at]
          exact ⟨e0, e1, e2, a0, b0, by omega, b2⟩
        · rw [if_neg e, if_neg e, if_neg e, pl_up_ne _ _ e, pl_up_ne _ _ e, pl_up_ne _ _ e]
          exact w5 w (by omega)
      · intro w hw
        show (if w = n then p0 else σ.2.2.1 33 w) = nI (pl_up t n k0 w) ∧ (if w = n then p1 else σ.2.2.1 34 w) = nI (pl_up hh n k1 w) ∧ (if w = n then p2 else σ.2.2.1 35 w) = nI (pl_up wt n k2 w) ∧ 1 ≤ pl_up t n k0 w ∧ pl_up t n k0 w ≤ 12 ∧ pl_up hh n k1 w ≤ 100 ∧ pl_up wt n k2 w ≤ 100
        by_cases e : w = n
        · subst e
          rw [if_pos rfl, if_pos rfl, if_pos rfl, pl_up_at, pl_up_at, pl_up_at]
          exact ⟨e0, e1, e2, a0, b0, by omega, b2⟩
        · rw [if_neg e, if_neg e, if_neg e, pl_up_ne _ _ e, pl_up_ne _ _ e, pl_up_ne _ _ e]
          exact w6 w (by omega)
      · intro w hw
        show (if w = n then p3 else σ.2.2.1 36 w) = (if w = n then p3 else σ.2.2.1 30 w) ∧ ((if w = n then p3 else σ.2.2.1 30 w) = -1 ∨ ∃ k, k ≤ 1000 ∧ (if w = n then p3 else σ.2.2.1 30 w) = nI k)
        by_cases e : w = n
        · simp only [if_pos e]
          exact ⟨trivial, hc⟩
        · simp only [if_neg e]
          exact w7 w (by omega)
    · have e8 : n = 8 := by omega
      subst e8
      rw [k_workU h w1.2.1]
      refine ⟨2, rfl, ?_⟩
      rw [m_workU h w2.2.2.1]
      exact ⟨0, rfl, ⟨⟨8, m, nr, nd, t, hh, wt, ha, al, so, ⟨w1, w2, w3, w4, w5, w6, w7⟩, hP, hN⟩, s, l, ch, cp, fr, to, hS⟩, rfl, fun q => absurd q (by decide)⟩
  · rw [k_workT h]
    refine ⟨1, rfl, ?_⟩
    rw [m_workT h]
    exact ⟨0, rfl, inv_thr _ (inv_thr _ hI), rfl, fun q => absurd q (by decide)⟩
end OW
