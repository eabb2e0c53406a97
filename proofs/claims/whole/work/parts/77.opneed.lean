/-! ===== need, hangs, steps, rings, cut ===== -/
section ON
variable {d n m : Nat} {E : ex_O → ex_S → Prop} {σ : ex_S} {p0 p1 p2 : Int32}
def bI (b : Bool) : Int32 := if b = true then 1 else 0
theorem k_needT (hn : n ≤ 8) (h3 : σ.1 306 = nI n) (h : ¬ vp_in p0 n ∨ ¬ vp_in p1 n) : ex_C (d + 3) 123 [.ref 4, .int p0, .int p1, .int p2, .ref 58] σ E = E (.inl (some (.int 1))) σ := by
  by_cases h0 : vp_in p0 n
  · obtain ⟨k, hk, e⟩ := vin (by omega) h0
    subst e
    have h1 : ¬ vp_in p1 n := by
      rcases h with h | h
      · exact absurd h0 h
      · exact h
    simp only [r_L_need, r_L_need_0, r_L_need_2, r_L_need_3, r_L_need_4, r_L_need_5, r_L_need_6, r_L_need_7, r_L_need_10, r_L_need_11, r_L_need_12, r_L_need_17, r_L_need_18, r_L_need_21, r_L_need_22, r_L_need_25, r_L_need_26, r_L_need_27, r_L_need_28, Nat.le_refl, true_and, r_X4_need, r_X4_need_0, r_X4_need_1, r_X4_need_2, r_X4_need_5, r_X4_need_6, r_X4_need_7, r_X4_need_10, r_X4_need_11, r_X4_need_12, r_X4_need_15, r_X4_need_25, r_X4_need_26, r_X4_need_29, r_X4_need_32, r_X4_need_34, r_X4_need_37, r_X4_need_47, r_X4_need_48, r_X4_need_51, r_X4_need_52, r_X4_need_55, r_X4_need_56, r_X4_need_57, r_X4_need_58, r_X4_need_61, c_reqW hn h3 hk, c_reqWT hn h3 h1, Option.toList, List.nil_append, xc_need_1, show (1 ≤ 3 - 1) = True from eq_true (by decide), show (1 ≤ 3) = True from eq_true (by decide)]
  · simp only [r_L_need, r_L_need_0, r_L_need_2, r_L_need_3, r_L_need_4, r_L_need_5, r_L_need_6, r_L_need_7, r_L_need_10, r_L_need_11, r_L_need_12, r_L_need_17, r_L_need_18, r_L_need_21, r_L_need_22, r_L_need_25, r_L_need_26, r_L_need_27, r_L_need_28, Nat.le_refl, true_and, r_X4_need, r_X4_need_0, r_X4_need_1, r_X4_need_2, r_X4_need_5, r_X4_need_6, r_X4_need_7, r_X4_need_10, r_X4_need_11, r_X4_need_12, r_X4_need_15, r_X4_need_25, r_X4_need_26, r_X4_need_29, r_X4_need_32, r_X4_need_34, r_X4_need_37, r_X4_need_47, r_X4_need_48, r_X4_need_51, r_X4_need_52, r_X4_need_55, r_X4_need_56, r_X4_need_57, r_X4_need_58, r_X4_need_61, c_reqWT hn h3 h0, xc_need_1, show (1 ≤ 3) = True from eq_true (by decide)]
theorem k_needS {w : Nat} (hn : n ≤ 8) (h3 : σ.1 306 = nI n) (hw : w < n) : ex_C (d + 3) 123 [.ref 4, .int (nI w), .int (nI w), .int p2, .ref 58] σ E = E (.inl (some (.int 2))) σ := by
  simp only [r_L_need, r_L_need_0, r_L_need_2, r_L_need_3, r_L_need_4, r_L_need_5, r_L_need_6, r_L_need_7, r_L_need_10, r_L_need_11, r_L_need_12, r_L_need_17, r_L_need_18, r_L_need_21, r_L_need_22, r_L_need_25, r_L_need_26, r_L_need_27, r_L_need_28, Nat.le_refl, true_and, r_X4_need, r_X4_need_0, r_X4_need_1, r_X4_need_2, r_X4_need_5, r_X4_need_6, r_X4_need_7, r_X4_need_10, r_X4_need_11, r_X4_need_12, r_X4_need_15, r_X4_need_25, r_X4_need_26, r_X4_need_29, r_X4_need_32, r_X4_need_34, r_X4_need_37, r_X4_need_47, r_X4_need_48, r_X4_need_51, r_X4_need_52, r_X4_need_55, r_X4_need_56, r_X4_need_57, r_X4_need_58, r_X4_need_61, c_reqW hn h3 hw, Option.toList, List.nil_append, xc_need_2, show (1 ≤ 3 - 1) = True from eq_true (by decide), show (1 ≤ 3) = True from eq_true (by decide), show (1 ≤ 3 - 1 - 1) = True from eq_true (by decide), if_true]
theorem k_needU {w v : Nat} (hn : n ≤ 8) (h3 : σ.1 306 = nI n) (h4 : σ.1 307 = 40) (hw : w < n) (hv : v < n) (hwv : w ≠ v) : ex_C (d + 3) 123 [.ref 4, .int (nI w), .int (nI v), .int p2, .ref 58] σ E = E (.inl (some (.int 3))) σ := by
  simp only [r_L_need, r_L_need_0, r_L_need_2, r_L_need_3, r_L_need_4, r_L_need_5, r_L_need_6, r_L_need_7, r_L_need_10, r_L_need_11, r_L_need_12, r_L_need_17, r_L_need_18, r_L_need_21, r_L_need_22, r_L_need_25, r_L_need_26, r_L_need_27, r_L_need_28, Nat.le_refl, true_and, r_X4_need, r_X4_need_0, r_X4_need_1, r_X4_need_2, r_X4_need_5, r_X4_need_6, r_X4_need_7, r_X4_need_10, r_X4_need_11, r_X4_need_12, r_X4_need_15, r_X4_need_25, r_X4_need_26, r_X4_need_29, r_X4_need_32, r_X4_need_34, r_X4_need_37, r_X4_need_47, r_X4_need_48, r_X4_need_51, r_X4_need_52, r_X4_need_55, r_X4_need_56, r_X4_need_57, r_X4_need_58, r_X4_need_61, c_reqW hn h3 hw, c_reqW hn h3 hv, Option.toList, List.nil_append, xc_need_3, show (1 ≤ 3 - 1) = True from eq_true (by decide), show (1 ≤ 3) = True from eq_true (by decide), show (1 ≤ 3 - 1 - 1) = True from eq_true (by decide), tl_eq (show w < 2 ^ 31 by omega) (show v < 2 ^ 31 by omega), hwv, if_false, h4, show ((40 : Int32) < 40) = False from eq_false (by decide)]
def ndS (σ : ex_S) (m w v A B : Nat) (sb : Bool) : ex_S := if sb = true then ex_sF (ex_sA (ex_sF (ex_sF σ 110 0) 2 0) 31 w (nI (A ||| 2 ^ v))) 307 (nI (m + 1)) else ex_sF (ex_sA (ex_sA (ex_sF (ex_sF σ 110 0) 2 0) 31 w (nI (A ||| 2 ^ v))) 32 w (nI (B ||| 2 ^ v))) 307 (nI (m + 1))
theorem k_need {w v A B : Nat} {sb : Bool} (hn : n ≤ 8) (h3 : σ.1 306 = nI n) (h4 : σ.1 307 = nI m) (hm : m < 40) (hw : w < n) (hv : v < n) (hwv : w ≠ v) (hA : σ.2.2.1 31 w = nI A) (hB : σ.2.2.1 32 w = nI B) : ex_C (d + 3) 123 [.ref 4, .int (nI w), .int (nI v), .int (bI sb), .ref 58] σ E = E (.inl (some (.int 0))) (ex_sB (ndS σ m w v A B sb) 58 0 (nI (m + 1)).toInt64) := by
  have hw8 := tl_in (show w < 8 by omega) (show 8 < 2 ^ 31 by omega)
  have hwc := tl_cl (show w < 2 ^ 31 by omega)
  simp only [r_L_need, r_L_need_0, r_L_need_2, r_L_need_3, r_L_need_4, r_L_need_5, r_L_need_6, r_L_need_7, r_L_need_10, r_L_need_11, r_L_need_12, r_L_need_17, r_L_need_18, r_L_need_21, r_L_need_22, r_L_need_25, r_L_need_26, r_L_need_27, r_L_need_28, Nat.le_refl, true_and, r_X4_need, r_X4_need_0, r_X4_need_1, r_X4_need_2, r_X4_need_5, r_X4_need_6, r_X4_need_7, r_X4_need_10, r_X4_need_11, r_X4_need_12, r_X4_need_15, r_X4_need_25, r_X4_need_26, r_X4_need_29, r_X4_need_32, r_X4_need_34, r_X4_need_37, r_X4_need_47, r_X4_need_48, r_X4_need_51, r_X4_need_52, r_X4_need_55, r_X4_need_56, r_X4_need_57, r_X4_need_58, r_X4_need_61, c_reqW hn h3 hw, c_reqW hn h3 hv, Option.toList, List.nil_append, show (1 ≤ 3 - 1) = True from eq_true (by decide), show (1 ≤ 3) = True from eq_true (by decide), show (1 ≤ 3 - 1 - 1) = True from eq_true (by decide), tl_eq (show w < 2 ^ 31 by omega) (show v < 2 ^ 31 by omega), hwv, if_false, h4, show (nI m < 40) = True from eq_true (nI_lt (b := 40) hm (by decide)), if_true, c_endPN, r_X3_addNeed, r_X3_addNeed_0, r_X3_addNeed_1, r_X3_addNeed_4, r_X3_addNeed_5, r_X3_addNeed_6, r_X3_addNeed_7, r_X3_addNeed_8, r_X3_addNeed_9, r_X3_addNeed_10, r_X3_addNeed_11, r_X3_addNeed_12, r_X3_addNeed_13, r_X3_addNeed_16, r_X3_addNeed_17, r_X3_addNeed_20, r_X3_addNeed_21, r_X3_addNeed_22, r_X3_addNeed_23, r_X3_addNeed_24, r_X3_addNeed_25, r_X3_addNeed_26, r_X3_addNeed_27, r_X3_addNeed_28, r_X3_addNeed_29, r_X3_addNeed_30, r_X3_addNeed_33, r_X3_addNeed_34, r_X3_addNeed_35, r_X3_addNeed_38, r_X3_addNeed_39, r_X3_addNeed_42, s_f2, hA, hw8, hwc, tl_shl v (by omega), tl_or]
  cases sb with
  | true =>
    simp only [bI, if_true, i10, if_false, t_a1, s_f1, Nat.reduceEqDiff, h4, nI_1, Option.toList, List.cons_append, List.nil_append, r_X4_need_0, r_X4_need_1, r_X4_need_2, r_X4_need_5, r_X4_need_6, r_X4_need_7, r_X4_need_10, r_X4_need_11, r_X4_need_12, r_X4_need_15, r_X4_need_25, r_X4_need_26, r_X4_need_29, r_X4_need_32, r_X4_need_34, r_X4_need_37, r_X4_need_47, r_X4_need_48, r_X4_need_51, r_X4_need_52, r_X4_need_55, r_X4_need_56, r_X4_need_57, r_X4_need_58, r_X4_need_61, r_L_need_0, r_L_need_2, r_L_need_3, r_L_need_4, r_L_need_5, r_L_need_6, r_L_need_7, r_L_need_10, r_L_need_11, r_L_need_12, r_L_need_17, r_L_need_18, r_L_need_21, r_L_need_22, r_L_need_25, r_L_need_26, r_L_need_27, r_L_need_28, v01, cl0, true_and, r_X3_addNeed_0, r_X3_addNeed_1, r_X3_addNeed_4, r_X3_addNeed_5, r_X3_addNeed_6, r_X3_addNeed_7, r_X3_addNeed_8, r_X3_addNeed_9, r_X3_addNeed_10, r_X3_addNeed_11, r_X3_addNeed_12, r_X3_addNeed_13, r_X3_addNeed_16, r_X3_addNeed_17, r_X3_addNeed_20, r_X3_addNeed_21, r_X3_addNeed_22, r_X3_addNeed_23, r_X3_addNeed_24, r_X3_addNeed_25, r_X3_addNeed_26, r_X3_addNeed_27, r_X3_addNeed_28, r_X3_addNeed_29, r_X3_addNeed_30, r_X3_addNeed_33, r_X3_addNeed_34, r_X3_addNeed_35, r_X3_addNeed_38, r_X3_addNeed_39, r_X3_addNeed_42]
    rfl
  | false =>
    simp only [bI, if_true, if_false, Bool.false_eq_true, t_a1, t_a3, s_f1, s_f2, Nat.reduceEqDiff, h4, hB, hw8, hwc, nI_1, tl_or, Option.toList, List.cons_append, List.nil_append, r_X4_need_0, r_X4_need_1, r_X4_need_2, r_X4_need_5, r_X4_need_6, r_X4_need_7, r_X4_need_10, r_X4_need_11, r_X4_need_12, r_X4_need_15, r_X4_need_25, r_X4_need_26, r_X4_need_29, r_X4_need_32, r_X4_need_34, r_X4_need_37, r_X4_need_47, r_X4_need_48, r_X4_need_51, r_X4_need_52, r_X4_need_55, r_X4_need_56, r_X4_need_57, r_X4_need_58, r_X4_need_61, r_L_need_0, r_L_need_2, r_L_need_3, r_L_need_4, r_L_need_5, r_L_need_6, r_L_need_7, r_L_need_10, r_L_need_11, r_L_need_12, r_L_need_17, r_L_need_18, r_L_need_21, r_L_need_22, r_L_need_25, r_L_need_26, r_L_need_27, r_L_need_28, v01, cl0, true_and, r_X3_addNeed_0, r_X3_addNeed_1, r_X3_addNeed_4, r_X3_addNeed_5, r_X3_addNeed_6, r_X3_addNeed_7, r_X3_addNeed_8, r_X3_addNeed_9, r_X3_addNeed_10, r_X3_addNeed_11, r_X3_addNeed_12, r_X3_addNeed_13, r_X3_addNeed_16, r_X3_addNeed_17, r_X3_addNeed_20, r_X3_addNeed_21, r_X3_addNeed_22, r_X3_addNeed_23, r_X3_addNeed_24, r_X3_addNeed_25, r_X3_addNeed_26, r_X3_addNeed_27, r_X3_addNeed_28, r_X3_addNeed_29, r_X3_addNeed_30, r_X3_addNeed_33, r_X3_addNeed_34, r_X3_addNeed_35, r_X3_addNeed_38, r_X3_addNeed_39, r_X3_addNeed_42]
    rfl
theorem m_needT (hn : n ≤ 8) (h5 : σ.1 505 = nI n) (h : ¬ vp_in p0 n ∨ ¬ vp_in p1 n) : ex_C (d + 3) 83 [.ref 5, .int p0, .int p1, .int p2] σ E = E (.inl (some (.int 0))) (ex_sF (ex_sF σ 500 0) 500 1) := by
  by_cases h0 : vp_in p0 n
  · have h1 : ¬ vp_in p1 n := by
      rcases h with h | h
      · exact absurd h0 h
      · exact h
    simp only [r_X5_need, r_X5_need_0, r_X5_need_1, r_X5_need_2, r_X5_need_5, r_X5_need_6, r_X5_need_7, r_X5_need_8, r_X5_need_11, r_X5_need_14, r_X5_need_15, r_X5_need_16, r_X5_need_19, r_X5_need_22, r_X5_need_23, r_X5_need_26, r_X5_need_27, r_X5_need_28, r_X5_need_31, r_X5_need_34, r_X5_need_35, r_X5_need_36, r_X5_need_37, r_X5_need_40, r_X5_need_41, r_X5_need_44, r_X5_need_45, r_X5_need_46, r_X5_need_49, r_X5_need_52, r_X5_need_53, r_X5_need_54, r_X5_need_57, r_X5_need_59, r_X5_need_62, r_X5_need_63, r_X5_need_66, r_X5_need_67, r_X5_need_68, r_X5_need_71, r_X5_need_74, r_X5_need_75, r_X5_need_76, r_X5_need_77, r_X5_need_80, r_X5_need_81, r_X5_need_84, r_X5_need_85, r_X5_need_86, r_X5_need_87, r_X5_need_90, r_X5_need_91, r_X5_need_94, r_X5_need_95, r_X5_need_96, r_X5_need_97, r_X5_need_100, r_X5_need_101, r_X5_need_104, r_X5_need_105, r_X5_need_106, r_X5_need_107, r_X5_need_108, r_X5_need_111, r_X5_need_112, r_X5_need_113, r_X5_need_116, r_X5_need_117, r_X5_need_120, r_X5_need_121, r_X5_need_124, c_noWork (σ := ex_sF σ 500 0) hn h5 h0, c_noWorkT (σ := ex_sF σ 500 0) hn h5 h1, Option.toList, List.cons_append, List.nil_append, i10, if_false, if_true, c_throwsIf1]
  · simp only [r_X5_need, r_X5_need_0, r_X5_need_1, r_X5_need_2, r_X5_need_5, r_X5_need_6, r_X5_need_7, r_X5_need_8, r_X5_need_11, r_X5_need_14, r_X5_need_15, r_X5_need_16, r_X5_need_19, r_X5_need_22, r_X5_need_23, r_X5_need_26, r_X5_need_27, r_X5_need_28, r_X5_need_31, r_X5_need_34, r_X5_need_35, r_X5_need_36, r_X5_need_37, r_X5_need_40, r_X5_need_41, r_X5_need_44, r_X5_need_45, r_X5_need_46, r_X5_need_49, r_X5_need_52, r_X5_need_53, r_X5_need_54, r_X5_need_57, r_X5_need_59, r_X5_need_62, r_X5_need_63, r_X5_need_66, r_X5_need_67, r_X5_need_68, r_X5_need_71, r_X5_need_74, r_X5_need_75, r_X5_need_76, r_X5_need_77, r_X5_need_80, r_X5_need_81, r_X5_need_84, r_X5_need_85, r_X5_need_86, r_X5_need_87, r_X5_need_90, r_X5_need_91, r_X5_need_94, r_X5_need_95, r_X5_need_96, r_X5_need_97, r_X5_need_100, r_X5_need_101, r_X5_need_104, r_X5_need_105, r_X5_need_106, r_X5_need_107, r_X5_need_108, r_X5_need_111, r_X5_need_112, r_X5_need_113, r_X5_need_116, r_X5_need_117, r_X5_need_120, r_X5_need_121, r_X5_need_124, c_noWorkT (σ := ex_sF σ 500 0) hn h5 h0, Option.toList, List.cons_append, List.nil_append, i10, if_false, if_true, c_throwsIf1]
theorem m_needS {w : Nat} (hn : n ≤ 8) (h5 : σ.1 505 = nI n) (hw : w < n) : ex_C (d + 3) 83 [.ref 5, .int (nI w), .int (nI w), .int p2] σ E = E (.inl (some (.int 0))) (ex_sF (ex_sF σ 500 0) 500 2) := by
  have h0 : vp_in (nI w) n := vp_in_nI hw (by omega)
  simp only [r_X5_need, r_X5_need_0, r_X5_need_1, r_X5_need_2, r_X5_need_5, r_X5_need_6, r_X5_need_7, r_X5_need_8, r_X5_need_11, r_X5_need_14, r_X5_need_15, r_X5_need_16, r_X5_need_19, r_X5_need_22, r_X5_need_23, r_X5_need_26, r_X5_need_27, r_X5_need_28, r_X5_need_31, r_X5_need_34, r_X5_need_35, r_X5_need_36, r_X5_need_37, r_X5_need_40, r_X5_need_41, r_X5_need_44, r_X5_need_45, r_X5_need_46, r_X5_need_49, r_X5_need_52, r_X5_need_53, r_X5_need_54, r_X5_need_57, r_X5_need_59, r_X5_need_62, r_X5_need_63, r_X5_need_66, r_X5_need_67, r_X5_need_68, r_X5_need_71, r_X5_need_74, r_X5_need_75, r_X5_need_76, r_X5_need_77, r_X5_need_80, r_X5_need_81, r_X5_need_84, r_X5_need_85, r_X5_need_86, r_X5_need_87, r_X5_need_90, r_X5_need_91, r_X5_need_94, r_X5_need_95, r_X5_need_96, r_X5_need_97, r_X5_need_100, r_X5_need_101, r_X5_need_104, r_X5_need_105, r_X5_need_106, r_X5_need_107, r_X5_need_108, r_X5_need_111, r_X5_need_112, r_X5_need_113, r_X5_need_116, r_X5_need_117, r_X5_need_120, r_X5_need_121, r_X5_need_124, c_noWork (σ := ex_sF σ 500 0) hn h5 h0, Option.toList, List.cons_append, List.nil_append, i10, if_false, if_true, c_throwsIf0, c_throwsIf1]
theorem m_needU {w v : Nat} (hn : n ≤ 8) (h5 : σ.1 505 = nI n) (h6 : σ.1 509 = 40) (hw : w < n) (hv : v < n) (hwv : w ≠ v) : ex_C (d + 3) 83 [.ref 5, .int (nI w), .int (nI v), .int p2] σ E = E (.inl (some (.int 0))) (ex_sF (ex_sF σ 500 0) 500 3) := by
  have h0 : vp_in (nI w) n := vp_in_nI hw (by omega)
  have h1 : vp_in (nI v) n := vp_in_nI hv (by omega)
  simp only [r_X5_need, r_X5_need_0, r_X5_need_1, r_X5_need_2, r_X5_need_5, r_X5_need_6, r_X5_need_7, r_X5_need_8, r_X5_need_11, r_X5_need_14, r_X5_need_15, r_X5_need_16, r_X5_need_19, r_X5_need_22, r_X5_need_23, r_X5_need_26, r_X5_need_27, r_X5_need_28, r_X5_need_31, r_X5_need_34, r_X5_need_35, r_X5_need_36, r_X5_need_37, r_X5_need_40, r_X5_need_41, r_X5_need_44, r_X5_need_45, r_X5_need_46, r_X5_need_49, r_X5_need_52, r_X5_need_53, r_X5_need_54, r_X5_need_57, r_X5_need_59, r_X5_need_62, r_X5_need_63, r_X5_need_66, r_X5_need_67, r_X5_need_68, r_X5_need_71, r_X5_need_74, r_X5_need_75, r_X5_need_76, r_X5_need_77, r_X5_need_80, r_X5_need_81, r_X5_need_84, r_X5_need_85, r_X5_need_86, r_X5_need_87, r_X5_need_90, r_X5_need_91, r_X5_need_94, r_X5_need_95, r_X5_need_96, r_X5_need_97, r_X5_need_100, r_X5_need_101, r_X5_need_104, r_X5_need_105, r_X5_need_106, r_X5_need_107, r_X5_need_108, r_X5_need_111, r_X5_need_112, r_X5_need_113, r_X5_need_116, r_X5_need_117, r_X5_need_120, r_X5_need_121, r_X5_need_124, c_noWork (σ := ex_sF σ 500 0) hn h5 h0, c_noWork (σ := ex_sF σ 500 0) hn h5 h1, Option.toList, List.cons_append, List.nil_append, i10, if_false, if_true, c_throwsIf0, c_throwsIf1, tl_eq (show w < 2 ^ 31 by omega) (show v < 2 ^ 31 by omega), hwv, s_f1, Nat.reduceEqDiff, h6]
theorem m_need {w v : Nat} {sb : Bool} (hn : n ≤ 8) (h5 : σ.1 505 = nI n) (h6 : σ.1 509 = nI m) (hm : m < 40) (hw : w < n) (hv : v < n) (hwv : w ≠ v) : ex_C (d + 3) 83 [.ref 5, .int (nI w), .int (nI v), .int (bI sb)] σ E = E (.inl (some (.int (nI (m + 1))))) (ex_sF (ex_sF (ex_sF (ex_sA (ex_sA (ex_sA (ex_sF σ 500 0) 37 m (nI w)) 38 m (nI v)) 39 m (bI sb)) 509 (nI (m + 1))) 532 0) 525 0) := by
  have h0 : vp_in (nI w) n := vp_in_nI hw (by omega)
  have h1 : vp_in (nI v) n := vp_in_nI hv (by omega)
  have h40 : (nI m = 40) = False := by
    rw [show (40 : Int32) = nI 40 from rfl, tl_eq (by omega) (by omega)]
    exact eq_false (by omega)
  have hbb : ex_bool (bI sb) = True := by cases sb <;> simp [bI, ex_bool]
  simp only [r_X5_need, r_X5_need_0, r_X5_need_1, r_X5_need_2, r_X5_need_5, r_X5_need_6, r_X5_need_7, r_X5_need_8, r_X5_need_11, r_X5_need_14, r_X5_need_15, r_X5_need_16, r_X5_need_19, r_X5_need_22, r_X5_need_23, r_X5_need_26, r_X5_need_27, r_X5_need_28, r_X5_need_31, r_X5_need_34, r_X5_need_35, r_X5_need_36, r_X5_need_37, r_X5_need_40, r_X5_need_41, r_X5_need_44, r_X5_need_45, r_X5_need_46, r_X5_need_49, r_X5_need_52, r_X5_need_53, r_X5_need_54, r_X5_need_57, r_X5_need_59, r_X5_need_62, r_X5_need_63, r_X5_need_66, r_X5_need_67, r_X5_need_68, r_X5_need_71, r_X5_need_74, r_X5_need_75, r_X5_need_76, r_X5_need_77, r_X5_need_80, r_X5_need_81, r_X5_need_84, r_X5_need_85, r_X5_need_86, r_X5_need_87, r_X5_need_90, r_X5_need_91, r_X5_need_94, r_X5_need_95, r_X5_need_96, r_X5_need_97, r_X5_need_100, r_X5_need_101, r_X5_need_104, r_X5_need_105, r_X5_need_106, r_X5_need_107, r_X5_need_108, r_X5_need_111, r_X5_need_112, r_X5_need_113, r_X5_need_116, r_X5_need_117, r_X5_need_120, r_X5_need_121, r_X5_need_124, c_noWork (σ := ex_sF σ 500 0) hn h5 h0, c_noWork (σ := ex_sF σ 500 0) hn h5 h1, Option.toList, List.cons_append, List.nil_append, i10, if_false, if_true, c_throwsIf0, tl_eq (show w < 2 ^ 31 by omega) (show v < 2 ^ 31 by omega), hwv, s_f1, t_a1, Nat.reduceEqDiff, h6, h40, tl_in (show m < 40 by omega) (show 40 < 2 ^ 31 by omega), tl_cl (show m < 2 ^ 31 by omega), true_and, hbb, nI_1, c_mends]
theorem p_need {sb : Bool} (hI : Inv σ) : pr2 (d + 3) 123 [.ref 4, .int p0, .int p1, .int (bI sb), .ref 58] 83 [.ref 5, .int p0, .int p1, .int (bI sb)] σ gd := by
  unfold pr2
  have hI0 := hI
  obtain ⟨⟨n, m, nr, nd, t, hh, wt, ha, al, so, hW, hP, hN⟩, s, l, ch, cp, fr, to, hS⟩ := hI
  obtain ⟨w1, w2, w3, w4, w5, w6, w7⟩ := hW
  have hn := w1.1
  by_cases h : ¬ vp_in p0 n ∨ ¬ vp_in p1 n
  · rw [k_needT hn w1.2.1 h]
    refine ⟨1, rfl, ?_⟩
    rw [m_needT hn w2.2.2.1 h]
    exact ⟨0, rfl, inv_thr _ (inv_thr _ hI0), rfl, fun q => absurd q (by decide)⟩
  · have h0 : vp_in p0 n := Classical.byContradiction fun q => h (Or.inl q)
    have h1 : vp_in p1 n := Classical.byContradiction fun q => h (Or.inr q)
    obtain ⟨w, hw, e0⟩ := vin (by omega) h0
    obtain ⟨v, hv, e1⟩ := vin (by omega) h1
    subst e0 e1
    by_cases hwv : w = v
    · subst hwv
      rw [k_needS hn w1.2.1 hw]
      refine ⟨2, rfl, ?_⟩
      rw [m_needS hn w2.2.2.1 hw]
      exact ⟨0, rfl, inv_thr _ (inv_thr _ hI0), rfl, fun q => absurd q (by decide)⟩
    · have hm40 := w2.2.1
      rcases Nat.lt_or_ge m 40 with q | q
      · obtain ⟨g1, g2, g3, g4⟩ := w1.2.2 w (by omega)
        rw [k_need (sb := sb) hn w1.2.1 w4 q hw hv hwv g1 g2]
        refine ⟨0, rfl, ?_⟩
        have c5 : (ex_sB (ndS σ m w v (al w) (ha w) sb) 58 0 (nI (m + 1)).toInt64).1 505 = nI n := by
          cases sb <;> exact w2.2.2.1
        have c9 : (ex_sB (ndS σ m w v (al w) (ha w) sb) 58 0 (nI (m + 1)).toInt64).1 509 = nI m := by
          cases sb <;> exact w2.2.2.2.1
        rw [m_need (σ := ex_sB (ndS σ m w v (al w) (ha w) sb) 58 0 (nI (m + 1)).toInt64) hn c5 c9 q hw hv hwv]
        have hv2 : 2 ^ v < 2 ^ n := Nat.pow_lt_pow_right (by decide) hv
        have hne : ∀ j, j < m → j ≠ m := fun j hj => by omega
        have hlk : lk (m + 1) (pl_up nr m w) (pl_up nd m v) (fun j => if j = m then sb else so j) (fun a => if a = w ∧ sb = false then ha a ||| 2 ^ v else ha a) (fun a => if a = w then al a ||| 2 ^ v else al a) := by
          intro a ha8
          obtain ⟨y1, y2⟩ := w3 a ha8
          constructor
          · simp only [tl_fo, pl_up_at]
            rw [tl_fo_congr (g := fun j => if nr j = a then 2 ^ nd j else 0) (fun j hj => by rw [pl_up_ne _ _ (hne j hj), pl_up_ne _ _ (hne j hj)]), ← y1]
            by_cases e : a = w
            · rw [if_pos e, if_pos e.symm]
            · rw [if_neg e, if_neg (Ne.symm e), Nat.or_zero]
          · simp only [tl_fo, pl_up_at, if_true]
            rw [tl_fo_congr (g := fun j => if nr j = a ∧ so j = false then 2 ^ nd j else 0) (fun j hj => by simp only [pl_up_ne _ _ (hne j hj), if_neg (hne j hj)]), ← y2]
            by_cases e : a = w ∧ sb = false
            · rw [if_pos e, if_pos ⟨e.1.symm, e.2⟩]
            · rw [if_neg e, if_neg (fun q => e ⟨q.1.symm, q.2⟩), Nat.or_zero]
        refine ⟨nI (m + 1), rfl, ⟨⟨n, m + 1, pl_up nr m w, pl_up nd m v, t, hh, wt, fun a => if a = w ∧ sb = false then ha a ||| 2 ^ v else ha a, fun a => if a = w then al a ||| 2 ^ v else al a, fun j => if j = m then sb else so j, ⟨?_, ?_, hlk, ?_, ?_, ?_, ?_⟩, ⟨?_, Or.inl ?_⟩, Or.inl ?_⟩, s, l, ch, cp, fr, to, ?_⟩, ?_, fun _ => ?_⟩
        · refine ⟨hn, by cases sb <;> exact w1.2.1, fun k hk => ?_⟩
          obtain ⟨y1, y2, y3, y4⟩ := w1.2.2 k hk
          have e31 : (ex_sF (ex_sF (ex_sF (ex_sA (ex_sA (ex_sA (ex_sF (ex_sB (ndS σ m w v (al w) (ha w) sb) 58 0 (nI (m + 1)).toInt64) 500 0) 37 m (nI w)) 38 m (nI v)) 39 m (bI sb)) 509 (nI (m + 1))) 532 0) 525 0).2.2.1 31 k = if k = w then nI (al w ||| 2 ^ v) else σ.2.2.1 31 k := by cases sb <;> rfl
          have e32 : (ex_sF (ex_sF (ex_sF (ex_sA (ex_sA (ex_sA (ex_sF (ex_sB (ndS σ m w v (al w) (ha w) sb) 58 0 (nI (m + 1)).toInt64) 500 0) 37 m (nI w)) 38 m (nI v)) 39 m (bI sb)) 509 (nI (m + 1))) 532 0) 525 0).2.2.1 32 k = if k = w ∧ sb = false then nI (ha w ||| 2 ^ v) else σ.2.2.1 32 k := by
            cases sb
            · show (if k = w then nI (ha w ||| 2 ^ v) else σ.2.2.1 32 k) = _
              simp
            · show σ.2.2.1 32 k = _
              simp
          rw [e31, e32]
          show (if k = w then nI (al w ||| 2 ^ v) else σ.2.2.1 31 k) = nI (if k = w then al k ||| 2 ^ v else al k) ∧ (if k = w ∧ sb = false then nI (ha w ||| 2 ^ v) else σ.2.2.1 32 k) = nI (if k = w ∧ sb = false then ha k ||| 2 ^ v else ha k) ∧ (if k = w then al k ||| 2 ^ v else al k) < 2 ^ n ∧ (if k = w ∧ sb = false then ha k ||| 2 ^ v else ha k) < 2 ^ n
          refine ⟨?_, ?_, ?_, ?_⟩
          · by_cases e : k = w
            · rw [if_pos e, if_pos e, e]
            · rw [if_neg e, if_neg e]
              exact y1
          · by_cases e : k = w ∧ sb = false
            · rw [if_pos e, if_pos e, e.1]
            · rw [if_neg e, if_neg e]
              exact y2
          · by_cases e : k = w
            · rw [if_pos e]
              exact Nat.or_lt_two_pow y3 hv2
            · rw [if_neg e]
              exact y3
          · by_cases e : k = w ∧ sb = false
            · rw [if_pos e]
              exact Nat.or_lt_two_pow y4 hv2
            · rw [if_neg e]
              exact y4
        · refine ⟨hn, by omega, by cases sb <;> exact w2.2.2.1, rfl, fun j hj => ?_⟩
          have e37 : (ex_sF (ex_sF (ex_sF (ex_sA (ex_sA (ex_sA (ex_sF (ex_sB (ndS σ m w v (al w) (ha w) sb) 58 0 (nI (m + 1)).toInt64) 500 0) 37 m (nI w)) 38 m (nI v)) 39 m (bI sb)) 509 (nI (m + 1))) 532 0) 525 0).2.2.1 37 j = if j = m then nI w else σ.2.2.1 37 j := by cases sb <;> rfl
          have e38 : (ex_sF (ex_sF (ex_sF (ex_sA (ex_sA (ex_sA (ex_sF (ex_sB (ndS σ m w v (al w) (ha w) sb) 58 0 (nI (m + 1)).toInt64) 500 0) 37 m (nI w)) 38 m (nI v)) 39 m (bI sb)) 509 (nI (m + 1))) 532 0) 525 0).2.2.1 38 j = if j = m then nI v else σ.2.2.1 38 j := by cases sb <;> rfl
          have e39 : (ex_sF (ex_sF (ex_sF (ex_sA (ex_sA (ex_sA (ex_sF (ex_sB (ndS σ m w v (al w) (ha w) sb) 58 0 (nI (m + 1)).toInt64) 500 0) 37 m (nI w)) 38 m (nI v)) 39 m (bI sb)) 509 (nI (m + 1))) 532 0) 525 0).2.2.1 39 j = if j = m then bI sb else σ.2.2.1 39 j := by cases sb <;> rfl
          rw [e37, e38, e39]
          by_cases e : j = m
          · subst e
            simp only [if_true, pl_up_at]
            exact ⟨trivial, trivial, rfl, hw, hv⟩
          · simp only [if_neg e, pl_up_ne _ _ e]
            exact w2.2.2.2.2 j (by omega)
        · cases sb <;> rfl
        · cases sb <;> exact w5
        · cases sb <;> exact w6
        · cases sb <;> exact w7
        · cases sb <;> exact hP.1
        · cases sb <;> exact ⟨rfl, rfl⟩
        · cases sb <;> exact ⟨rfl, rfl⟩
        · cases sb <;> exact hS
        · cases sb <;> rfl
        · cases sb <;> rfl
      · have e40 : m = 40 := by omega
        subst e40
        rw [k_needU hn w1.2.1 w4 hw hv hwv]
        refine ⟨3, rfl, ?_⟩
        rw [m_needU hn w2.2.2.1 w2.2.2.2.1 hw hv hwv]
        exact ⟨0, rfl, inv_thr _ (inv_thr _ hI0), rfl, fun q => absurd q (by decide)⟩
end ON
