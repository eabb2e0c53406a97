/-! ===== store, copy, torn ===== -/
section OS
variable {d n : Nat} {E : ex_O → ex_S → Prop} {σ : ex_S} {p0 p1 p2 p3 : Int32}
def tkP (x : Int32) : Prop := (0 : Int32) ≤ x ∧ x ≤ 100000
theorem c_isTick (v : Int32) : ex_C (d + 2) 93 [.int v] σ E = E (.inl (some (.int (if (0 : Int32) ≤ v ∧ v ≤ 100000 then 1 else 0)))) σ := by
  simp only [r_X5_isTick, r_X5_isTick_0, r_X5_isTick_1, r_X5_isTick_2, r_X5_isTick_4, r_X5_isTick_7, c_in, Option.toList, List.cons_append, List.nil_append, tl_bi, true_and]
theorem p_store (hI : Inv σ) : pr2 (d + 3) 126 [.ref 4, .ref 58] 94 [.ref 5] σ gd := by
  unfold pr2
  have hI0 := hI
  obtain ⟨hWW, s, l, ch, cp, fr, to, hS⟩ := hI
  obtain ⟨s1, s2, s3, s4, s5, s6, s7, s8⟩ := hS
  have hs := s1.1
  rcases Nat.lt_or_ge s 6 with q | q
  · have h6 : (nI s < 6) = True := eq_true (nI_lt (b := 6) q (by decide))
    have h6b : (nI s = 6) = False := by
      rw [show (6 : Int32) = nI 6 from rfl, tl_eq (by omega) (by omega)]
      exact eq_false (by omega)
    have h9 : nI (s + 1) - 1 = nI s := by
      rw [show (1 : Int32) = nI 1 from rfl, pk_sub (by omega)]
      rfl
    simp only [r_L_store, r_L_store_0, r_L_store_1, r_L_store_2, r_L_store_3, r_L_store_6, r_L_store_7, r_L_store_8, r_L_store_12, r_L_store_13, r_L_store_14, r_L_store_15, Nat.le_refl, true_and, r_X4_store, r_X4_store_0, r_X4_store_1, r_X4_store_4, r_X4_store_7, r_X4_store_9, r_X4_store_12, r_X4_store_22, r_X4_store_23, r_X4_store_26, r_X4_store_29, s1.2.2.1, h6, if_true, r_X2_addStore, r_X2_addStore_0, r_X2_addStore_1, r_X2_addStore_4, r_X2_addStore_5, r_X2_addStore_6, r_X2_addStore_7, r_X2_addStore_10, r_X2_addStore_11, r_X2_addStore_12, r_X2_addStore_15, r_X2_addStore_16, Option.toList, List.cons_append, List.nil_append, nI_1, v01, cl0]
    refine ⟨0, rfl, ?_⟩
    have e515 : (ex_sF (ex_sB (ex_sF σ 211 (nI (s + 1))) 58 0 (nI s).toInt64) 500 0).1 515 = nI s := s2.2.2.1
    simp only [r_X5_store, r_X5_store_0, r_X5_store_1, r_X5_store_2, r_X5_store_5, r_X5_store_6, r_X5_store_7, r_X5_store_10, r_X5_store_12, r_X5_store_15, r_X5_store_16, r_X5_store_19, r_X5_store_20, r_X5_store_21, r_X5_store_24, r_X5_store_27, r_X5_store_28, r_X5_store_29, r_X5_store_30, r_X5_store_31, r_X5_store_34, r_X5_store_35, r_X5_store_36, r_X5_store_39, r_X5_store_40, r_X5_store_43, r_X5_store_44, r_X5_store_45, e515, h6b, if_false, c_throwsIf0, Option.toList, List.cons_append, List.nil_append, if_true, nI_1, s_f1, h9]
    refine ⟨nI s, rfl, ⟨hWW, s + 1, l, ch, cp, fr, to, ⟨by omega, s1.2.1, rfl, s1.2.2.2.1, s1.2.2.2.2.1, fun j hj => ?_⟩, ⟨by omega, s2.2.1, rfl, s2.2.2.2.1, s2.2.2.2.2.1, fun j hj => ?_⟩, s3, s4, s5, s6, s7, s8⟩, rfl, fun _ => rfl⟩
    · have := s1.2.2.2.2.2 j hj
      exact ⟨this.1, this.2.1, by omega, by omega⟩
    · have := s2.2.2.2.2.2 j hj
      exact ⟨this.1, this.2.1, by omega, by omega⟩
  · have e6 : s = 6 := by omega
    subst e6
    have e211 : σ.1 211 = 6 := s1.2.2.1
    have e515 : (ex_sF σ 500 0).1 515 = 6 := s2.2.2.1
    simp only [r_L_store, r_L_store_0, r_L_store_1, r_L_store_2, r_L_store_3, r_L_store_6, r_L_store_7, r_L_store_8, r_L_store_12, r_L_store_13, r_L_store_14, r_L_store_15, Nat.le_refl, true_and, r_X4_store, r_X4_store_0, r_X4_store_1, r_X4_store_4, r_X4_store_7, r_X4_store_9, r_X4_store_12, r_X4_store_22, r_X4_store_23, r_X4_store_26, r_X4_store_29, e211, show ((6 : Int32) < 6) = False from eq_false (by decide), if_false, xc_store_1]
    refine ⟨1, rfl, ?_⟩
    simp only [r_X5_store, r_X5_store_0, r_X5_store_1, r_X5_store_2, r_X5_store_5, r_X5_store_6, r_X5_store_7, r_X5_store_10, r_X5_store_12, r_X5_store_15, r_X5_store_16, r_X5_store_19, r_X5_store_20, r_X5_store_21, r_X5_store_24, r_X5_store_27, r_X5_store_28, r_X5_store_29, r_X5_store_30, r_X5_store_31, r_X5_store_34, r_X5_store_35, r_X5_store_36, r_X5_store_39, r_X5_store_40, r_X5_store_43, r_X5_store_44, r_X5_store_45, e515, if_true, c_throwsIf1, Option.toList, List.cons_append, List.nil_append, i10, if_false]
    exact ⟨0, rfl, inv_thr _ (inv_thr _ hI0), rfl, fun q => absurd q (by decide)⟩
/-! copy -/
def cyA (p1 p2 : Int32) : Prop := tkP p1 ∧ tkP p2 ∧ p1 ≤ p2
theorem k_copyT (hn : n ≤ 6) (h : σ.1 211 = nI n) (hv : ¬ vp_in p0 n) : ex_C (d + 4) 127 [.ref 4, .int p0, .int p1, .int p2, .ref 58] σ E = E (.inl (some (.int 1))) σ := by
  simp only [r_L_copy, r_L_copy_0, r_L_copy_2, r_L_copy_3, r_L_copy_4, r_L_copy_5, r_L_copy_6, r_L_copy_7, r_L_copy_10, r_L_copy_11, r_L_copy_12, r_L_copy_17, r_L_copy_18, r_L_copy_21, r_L_copy_22, r_L_copy_25, r_L_copy_26, r_L_copy_27, r_L_copy_28, Nat.le_refl, Nat.reduceSub, Nat.reduceLeDiff, true_and, r_X4_copy, r_X4_copy_0, r_X4_copy_1, r_X4_copy_2, r_X4_copy_5, r_X4_copy_6, r_X4_copy_9, r_X4_copy_10, r_X4_copy_13, r_X4_copy_14, r_X4_copy_15, r_X4_copy_18, r_X4_copy_28, r_X4_copy_29, r_X4_copy_32, r_X4_copy_35, r_X4_copy_36, r_X4_copy_37, r_X4_copy_38, r_X4_copy_41, r_X4_copy_51, r_X4_copy_52, r_X4_copy_55, r_X4_copy_56, r_X4_copy_57, r_X4_copy_58, r_X4_copy_61, c_reqST hn h hv, xc_copy_1]
theorem k_copyA {k : Nat} (hn : n ≤ 6) (h : σ.1 211 = nI n) (hk : k < n) (hv : ¬ cyA p1 p2) : ex_C (d + 4) 127 [.ref 4, .int (nI k), .int p1, .int p2, .ref 58] σ E = E (.inl (some (.int 2))) σ := by
  by_cases h1 : tkP p1
  · by_cases h2 : tkP p2
    · have h3 : (p1 ≤ p2) = False := eq_false (fun q => hv ⟨h1, h2, q⟩)
      simp only [r_L_copy, r_L_copy_0, r_L_copy_2, r_L_copy_3, r_L_copy_4, r_L_copy_5, r_L_copy_6, r_L_copy_7, r_L_copy_10, r_L_copy_11, r_L_copy_12, r_L_copy_17, r_L_copy_18, r_L_copy_21, r_L_copy_22, r_L_copy_25, r_L_copy_26, r_L_copy_27, r_L_copy_28, Nat.le_refl, Nat.reduceSub, Nat.reduceLeDiff, true_and, r_X4_copy, r_X4_copy_0, r_X4_copy_1, r_X4_copy_2, r_X4_copy_5, r_X4_copy_6, r_X4_copy_9, r_X4_copy_10, r_X4_copy_13, r_X4_copy_14, r_X4_copy_15, r_X4_copy_18, r_X4_copy_28, r_X4_copy_29, r_X4_copy_32, r_X4_copy_35, r_X4_copy_36, r_X4_copy_37, r_X4_copy_38, r_X4_copy_41, r_X4_copy_51, r_X4_copy_52, r_X4_copy_55, r_X4_copy_56, r_X4_copy_57, r_X4_copy_58, r_X4_copy_61, c_reqS hn h hk, Option.toList, List.cons_append, List.nil_append, c_reqTick h1, c_reqTick h2, h3, if_false, xc_copy_2]
    · simp only [r_L_copy, r_L_copy_0, r_L_copy_2, r_L_copy_3, r_L_copy_4, r_L_copy_5, r_L_copy_6, r_L_copy_7, r_L_copy_10, r_L_copy_11, r_L_copy_12, r_L_copy_17, r_L_copy_18, r_L_copy_21, r_L_copy_22, r_L_copy_25, r_L_copy_26, r_L_copy_27, r_L_copy_28, Nat.le_refl, Nat.reduceSub, Nat.reduceLeDiff, true_and, r_X4_copy, r_X4_copy_0, r_X4_copy_1, r_X4_copy_2, r_X4_copy_5, r_X4_copy_6, r_X4_copy_9, r_X4_copy_10, r_X4_copy_13, r_X4_copy_14, r_X4_copy_15, r_X4_copy_18, r_X4_copy_28, r_X4_copy_29, r_X4_copy_32, r_X4_copy_35, r_X4_copy_36, r_X4_copy_37, r_X4_copy_38, r_X4_copy_41, r_X4_copy_51, r_X4_copy_52, r_X4_copy_55, r_X4_copy_56, r_X4_copy_57, r_X4_copy_58, r_X4_copy_61, c_reqS hn h hk, Option.toList, List.cons_append, List.nil_append, c_reqTick h1, c_reqTickT h2, xc_copy_2]
  · simp only [r_L_copy, r_L_copy_0, r_L_copy_2, r_L_copy_3, r_L_copy_4, r_L_copy_5, r_L_copy_6, r_L_copy_7, r_L_copy_10, r_L_copy_11, r_L_copy_12, r_L_copy_17, r_L_copy_18, r_L_copy_21, r_L_copy_22, r_L_copy_25, r_L_copy_26, r_L_copy_27, r_L_copy_28, Nat.le_refl, Nat.reduceSub, Nat.reduceLeDiff, true_and, r_X4_copy, r_X4_copy_0, r_X4_copy_1, r_X4_copy_2, r_X4_copy_5, r_X4_copy_6, r_X4_copy_9, r_X4_copy_10, r_X4_copy_13, r_X4_copy_14, r_X4_copy_15, r_X4_copy_18, r_X4_copy_28, r_X4_copy_29, r_X4_copy_32, r_X4_copy_35, r_X4_copy_36, r_X4_copy_37, r_X4_copy_38, r_X4_copy_41, r_X4_copy_51, r_X4_copy_52, r_X4_copy_55, r_X4_copy_56, r_X4_copy_57, r_X4_copy_58, r_X4_copy_61, c_reqS hn h hk, Option.toList, List.cons_append, List.nil_append, c_reqTickT h1, xc_copy_2]
theorem k_copyU {k : Nat} (hn : n ≤ 6) (h : σ.1 211 = nI n) (hk : k < n) (hv : cyA p1 p2) (hc : σ.2.2.1 16 k = 4) : ex_C (d + 4) 127 [.ref 4, .int (nI k), .int p1, .int p2, .ref 58] σ E = E (.inl (some (.int 3))) σ := by
  simp only [r_L_copy, r_L_copy_0, r_L_copy_2, r_L_copy_3, r_L_copy_4, r_L_copy_5, r_L_copy_6, r_L_copy_7, r_L_copy_10, r_L_copy_11, r_L_copy_12, r_L_copy_17, r_L_copy_18, r_L_copy_21, r_L_copy_22, r_L_copy_25, r_L_copy_26, r_L_copy_27, r_L_copy_28, Nat.le_refl, Nat.reduceSub, Nat.reduceLeDiff, true_and, r_X4_copy, r_X4_copy_0, r_X4_copy_1, r_X4_copy_2, r_X4_copy_5, r_X4_copy_6, r_X4_copy_9, r_X4_copy_10, r_X4_copy_13, r_X4_copy_14, r_X4_copy_15, r_X4_copy_18, r_X4_copy_28, r_X4_copy_29, r_X4_copy_32, r_X4_copy_35, r_X4_copy_36, r_X4_copy_37, r_X4_copy_38, r_X4_copy_41, r_X4_copy_51, r_X4_copy_52, r_X4_copy_55, r_X4_copy_56, r_X4_copy_57, r_X4_copy_58, r_X4_copy_61, c_reqS hn h hk, Option.toList, List.cons_append, List.nil_append, c_reqTick hv.1, c_reqTick hv.2.1, eq_true hv.2.2, if_true, tl_in (show k < 6 by omega) (show 6 < 2 ^ 31 by omega), tl_cl (show k < 2 ^ 31 by omega), hc, show ((4 : Int32) < 4) = False from eq_false (by decide), if_false, xc_copy_3]
theorem k_copy {k c : Nat} (hn : n ≤ 6) (h : σ.1 211 = nI n) (hk : k < n) (hv : cyA p1 p2) (hc : σ.2.2.1 16 k = nI c) (hc4 : c < 4) : ex_C (d + 4) 127 [.ref 4, .int (nI k), .int p1, .int p2, .ref 58] σ E = E (.inl (some (.int 0))) (ex_sB (ex_sA (ex_sA (ex_sA σ 17 (4 * k + c) p1) 18 (4 * k + c) p2) 16 k (nI (c + 1))) 58 0 (nI c).toInt64) := by
  simp only [r_L_copy, r_L_copy_0, r_L_copy_2, r_L_copy_3, r_L_copy_4, r_L_copy_5, r_L_copy_6, r_L_copy_7, r_L_copy_10, r_L_copy_11, r_L_copy_12, r_L_copy_17, r_L_copy_18, r_L_copy_21, r_L_copy_22, r_L_copy_25, r_L_copy_26, r_L_copy_27, r_L_copy_28, Nat.le_refl, Nat.reduceSub, Nat.reduceLeDiff, true_and, r_X4_copy, r_X4_copy_0, r_X4_copy_1, r_X4_copy_2, r_X4_copy_5, r_X4_copy_6, r_X4_copy_9, r_X4_copy_10, r_X4_copy_13, r_X4_copy_14, r_X4_copy_15, r_X4_copy_18, r_X4_copy_28, r_X4_copy_29, r_X4_copy_32, r_X4_copy_35, r_X4_copy_36, r_X4_copy_37, r_X4_copy_38, r_X4_copy_41, r_X4_copy_51, r_X4_copy_52, r_X4_copy_55, r_X4_copy_56, r_X4_copy_57, r_X4_copy_58, r_X4_copy_61, c_reqS hn h hk, Option.toList, List.cons_append, List.nil_append, c_reqTick hv.1, c_reqTick hv.2.1, eq_true hv.2.2, if_true, tl_in (show k < 6 by omega) (show 6 < 2 ^ 31 by omega), tl_cl (show k < 2 ^ 31 by omega), hc, show (nI c < 4) = True from eq_true (nI_lt (b := 4) hc4 (by decide)), r_X2_addCopy, r_X2_addCopy_0, r_X2_addCopy_1, r_X2_addCopy_4, r_X2_addCopy_5, r_X2_addCopy_6, r_X2_addCopy_8, r_X2_addCopy_9, r_X2_addCopy_12, r_X2_addCopy_13, r_X2_addCopy_14, r_X2_addCopy_15, r_X2_addCopy_17, r_X2_addCopy_18, r_X2_addCopy_19, r_X2_addCopy_20, r_X2_addCopy_21, r_X2_addCopy_24, r_X2_addCopy_25, r_X2_addCopy_26, r_X2_addCopy_27, r_X2_addCopy_29, r_X2_addCopy_30, r_X2_addCopy_31, r_X2_addCopy_32, r_X2_addCopy_33, r_X2_addCopy_36, r_X2_addCopy_37, r_X2_addCopy_38, r_X2_addCopy_39, r_X2_addCopy_40, r_X2_addCopy_41, r_X2_addCopy_42, r_X2_addCopy_44, tl_ix4, tl_in (show 4 * k + c < 24 by omega) (show 24 < 2 ^ 31 by omega), tl_cl (show 4 * k + c < 2 ^ 31 by omega), t_a3, Nat.reduceEqDiff, if_false, nI_1, v01, cl0]
theorem m_copyT (hn : n ≤ 6) (h : σ.1 515 = nI n) (hv : ¬ vp_in p0 n) : ex_C (d + 3) 95 [.ref 5, .int p0, .int p1, .int p2] σ E = E (.inl (some (.int 0))) (ex_sF (ex_sF σ 500 0) 500 1) := by
  simp only [r_X5_copy, r_X5_copy_0, r_X5_copy_1, r_X5_copy_2, r_X5_copy_5, r_X5_copy_6, r_X5_copy_7, r_X5_copy_8, r_X5_copy_11, r_X5_copy_12, r_X5_copy_15, r_X5_copy_18, r_X5_copy_19, r_X5_copy_20, r_X5_copy_23, r_X5_copy_26, r_X5_copy_27, r_X5_copy_30, r_X5_copy_33, r_X5_copy_34, r_X5_copy_35, r_X5_copy_38, r_X5_copy_39, r_X5_copy_42, r_X5_copy_43, r_X5_copy_44, r_X5_copy_47, r_X5_copy_50, r_X5_copy_51, r_X5_copy_52, r_X5_copy_55, r_X5_copy_56, r_X5_copy_57, r_X5_copy_58, r_X5_copy_61, r_X5_copy_62, r_X5_copy_65, r_X5_copy_66, r_X5_copy_67, r_X5_copy_70, r_X5_copy_73, r_X5_copy_74, r_X5_copy_75, r_X5_copy_76, r_X5_copy_77, r_X5_copy_78, r_X5_copy_79, r_X5_copy_82, r_X5_copy_83, r_X5_copy_84, r_X5_copy_85, r_X5_copy_87, r_X5_copy_88, r_X5_copy_91, r_X5_copy_93, r_X5_copy_94, r_X5_copy_95, r_X5_copy_96, r_X5_copy_99, r_X5_copy_101, r_X5_copy_102, r_X5_copy_103, r_X5_copy_104, r_X5_copy_107, r_X5_copy_108, r_X5_copy_109, r_X5_copy_110, r_X5_copy_111, r_X5_copy_112, r_X5_copy_113, r_X5_copy_114, r_X5_copy_117, r_X5_copy_118, r_X5_copy_119, r_X5_copy_120, r_X5_copy_121, c_noStoreT (σ := ex_sF σ 500 0) hn h hv, Option.toList, List.cons_append, List.nil_append, i10, if_false, if_true, c_throwsIf1]
theorem m_copyA {k : Nat} (hn : n ≤ 6) (h : σ.1 515 = nI n) (hk : k < n) (hv : ¬ cyA p1 p2) : ex_C (d + 3) 95 [.ref 5, .int (nI k), .int p1, .int p2] σ E = E (.inl (some (.int 0))) (ex_sF (ex_sF σ 500 0) 500 2) := by
  have h0 : vp_in (nI k) n := vp_in_nI hk (by omega)
  by_cases h1 : tkP p1
  · by_cases h2 : tkP p2
    · have h3 : (p1 ≤ p2) = False := eq_false (fun q => hv ⟨h1, h2, q⟩)
      simp only [r_X5_copy, r_X5_copy_0, r_X5_copy_1, r_X5_copy_2, r_X5_copy_5, r_X5_copy_6, r_X5_copy_7, r_X5_copy_8, r_X5_copy_11, r_X5_copy_12, r_X5_copy_15, r_X5_copy_18, r_X5_copy_19, r_X5_copy_20, r_X5_copy_23, r_X5_copy_26, r_X5_copy_27, r_X5_copy_30, r_X5_copy_33, r_X5_copy_34, r_X5_copy_35, r_X5_copy_38, r_X5_copy_39, r_X5_copy_42, r_X5_copy_43, r_X5_copy_44, r_X5_copy_47, r_X5_copy_50, r_X5_copy_51, r_X5_copy_52, r_X5_copy_55, r_X5_copy_56, r_X5_copy_57, r_X5_copy_58, r_X5_copy_61, r_X5_copy_62, r_X5_copy_65, r_X5_copy_66, r_X5_copy_67, r_X5_copy_70, r_X5_copy_73, r_X5_copy_74, r_X5_copy_75, r_X5_copy_76, r_X5_copy_77, r_X5_copy_78, r_X5_copy_79, r_X5_copy_82, r_X5_copy_83, r_X5_copy_84, r_X5_copy_85, r_X5_copy_87, r_X5_copy_88, r_X5_copy_91, r_X5_copy_93, r_X5_copy_94, r_X5_copy_95, r_X5_copy_96, r_X5_copy_99, r_X5_copy_101, r_X5_copy_102, r_X5_copy_103, r_X5_copy_104, r_X5_copy_107, r_X5_copy_108, r_X5_copy_109, r_X5_copy_110, r_X5_copy_111, r_X5_copy_112, r_X5_copy_113, r_X5_copy_114, r_X5_copy_117, r_X5_copy_118, r_X5_copy_119, r_X5_copy_120, r_X5_copy_121, c_noStore (σ := ex_sF σ 500 0) hn h h0, Option.toList, List.cons_append, List.nil_append, c_throwsIf0, c_isTick, if_pos (show (0 : Int32) ≤ p1 ∧ p1 ≤ 100000 from h1), if_pos (show (0 : Int32) ≤ p2 ∧ p2 ≤ 100000 from h2), i10, if_false, if_true, h3, c_throwsIf1]
    · simp only [r_X5_copy, r_X5_copy_0, r_X5_copy_1, r_X5_copy_2, r_X5_copy_5, r_X5_copy_6, r_X5_copy_7, r_X5_copy_8, r_X5_copy_11, r_X5_copy_12, r_X5_copy_15, r_X5_copy_18, r_X5_copy_19, r_X5_copy_20, r_X5_copy_23, r_X5_copy_26, r_X5_copy_27, r_X5_copy_30, r_X5_copy_33, r_X5_copy_34, r_X5_copy_35, r_X5_copy_38, r_X5_copy_39, r_X5_copy_42, r_X5_copy_43, r_X5_copy_44, r_X5_copy_47, r_X5_copy_50, r_X5_copy_51, r_X5_copy_52, r_X5_copy_55, r_X5_copy_56, r_X5_copy_57, r_X5_copy_58, r_X5_copy_61, r_X5_copy_62, r_X5_copy_65, r_X5_copy_66, r_X5_copy_67, r_X5_copy_70, r_X5_copy_73, r_X5_copy_74, r_X5_copy_75, r_X5_copy_76, r_X5_copy_77, r_X5_copy_78, r_X5_copy_79, r_X5_copy_82, r_X5_copy_83, r_X5_copy_84, r_X5_copy_85, r_X5_copy_87, r_X5_copy_88, r_X5_copy_91, r_X5_copy_93, r_X5_copy_94, r_X5_copy_95, r_X5_copy_96, r_X5_copy_99, r_X5_copy_101, r_X5_copy_102, r_X5_copy_103, r_X5_copy_104, r_X5_copy_107, r_X5_copy_108, r_X5_copy_109, r_X5_copy_110, r_X5_copy_111, r_X5_copy_112, r_X5_copy_113, r_X5_copy_114, r_X5_copy_117, r_X5_copy_118, r_X5_copy_119, r_X5_copy_120, r_X5_copy_121, c_noStore (σ := ex_sF σ 500 0) hn h h0, Option.toList, List.cons_append, List.nil_append, c_throwsIf0, c_isTick, if_pos (show (0 : Int32) ≤ p1 ∧ p1 ≤ 100000 from h1), if_neg (show ¬ ((0 : Int32) ≤ p2 ∧ p2 ≤ 100000) from h2), i10, if_false, if_true, c_throwsIf1]
  · simp only [r_X5_copy, r_X5_copy_0, r_X5_copy_1, r_X5_copy_2, r_X5_copy_5, r_X5_copy_6, r_X5_copy_7, r_X5_copy_8, r_X5_copy_11, r_X5_copy_12, r_X5_copy_15, r_X5_copy_18, r_X5_copy_19, r_X5_copy_20, r_X5_copy_23, r_X5_copy_26, r_X5_copy_27, r_X5_copy_30, r_X5_copy_33, r_X5_copy_34, r_X5_copy_35, r_X5_copy_38, r_X5_copy_39, r_X5_copy_42, r_X5_copy_43, r_X5_copy_44, r_X5_copy_47, r_X5_copy_50, r_X5_copy_51, r_X5_copy_52, r_X5_copy_55, r_X5_copy_56, r_X5_copy_57, r_X5_copy_58, r_X5_copy_61, r_X5_copy_62, r_X5_copy_65, r_X5_copy_66, r_X5_copy_67, r_X5_copy_70, r_X5_copy_73, r_X5_copy_74, r_X5_copy_75, r_X5_copy_76, r_X5_copy_77, r_X5_copy_78, r_X5_copy_79, r_X5_copy_82, r_X5_copy_83, r_X5_copy_84, r_X5_copy_85, r_X5_copy_87, r_X5_copy_88, r_X5_copy_91, r_X5_copy_93, r_X5_copy_94, r_X5_copy_95, r_X5_copy_96, r_X5_copy_99, r_X5_copy_101, r_X5_copy_102, r_X5_copy_103, r_X5_copy_104, r_X5_copy_107, r_X5_copy_108, r_X5_copy_109, r_X5_copy_110, r_X5_copy_111, r_X5_copy_112, r_X5_copy_113, r_X5_copy_114, r_X5_copy_117, r_X5_copy_118, r_X5_copy_119, r_X5_copy_120, r_X5_copy_121, c_noStore (σ := ex_sF σ 500 0) hn h h0, Option.toList, List.cons_append, List.nil_append, c_throwsIf0, c_isTick, if_neg (show ¬ ((0 : Int32) ≤ p1 ∧ p1 ≤ 100000) from h1), i10, if_false, if_true, c_throwsIf1]
theorem m_copyU {k : Nat} (hn : n ≤ 6) (h : σ.1 515 = nI n) (hk : k < n) (hv : cyA p1 p2) (hc : σ.2.2.1 44 k = 4) : ex_C (d + 3) 95 [.ref 5, .int (nI k), .int p1, .int p2] σ E = E (.inl (some (.int 0))) (ex_sF (ex_sF σ 500 0) 500 3) := by
  have h0 : vp_in (nI k) n := vp_in_nI hk (by omega)
  simp only [r_X5_copy, r_X5_copy_0, r_X5_copy_1, r_X5_copy_2, r_X5_copy_5, r_X5_copy_6, r_X5_copy_7, r_X5_copy_8, r_X5_copy_11, r_X5_copy_12, r_X5_copy_15, r_X5_copy_18, r_X5_copy_19, r_X5_copy_20, r_X5_copy_23, r_X5_copy_26, r_X5_copy_27, r_X5_copy_30, r_X5_copy_33, r_X5_copy_34, r_X5_copy_35, r_X5_copy_38, r_X5_copy_39, r_X5_copy_42, r_X5_copy_43, r_X5_copy_44, r_X5_copy_47, r_X5_copy_50, r_X5_copy_51, r_X5_copy_52, r_X5_copy_55, r_X5_copy_56, r_X5_copy_57, r_X5_copy_58, r_X5_copy_61, r_X5_copy_62, r_X5_copy_65, r_X5_copy_66, r_X5_copy_67, r_X5_copy_70, r_X5_copy_73, r_X5_copy_74, r_X5_copy_75, r_X5_copy_76, r_X5_copy_77, r_X5_copy_78, r_X5_copy_79, r_X5_copy_82, r_X5_copy_83, r_X5_copy_84, r_X5_copy_85, r_X5_copy_87, r_X5_copy_88, r_X5_copy_91, r_X5_copy_93, r_X5_copy_94, r_X5_copy_95, r_X5_copy_96, r_X5_copy_99, r_X5_copy_101, r_X5_copy_102, r_X5_copy_103, r_X5_copy_104, r_X5_copy_107, r_X5_copy_108, r_X5_copy_109, r_X5_copy_110, r_X5_copy_111, r_X5_copy_112, r_X5_copy_113, r_X5_copy_114, r_X5_copy_117, r_X5_copy_118, r_X5_copy_119, r_X5_copy_120, r_X5_copy_121, c_noStore (σ := ex_sF σ 500 0) hn h h0, Option.toList, List.cons_append, List.nil_append, c_throwsIf0, c_isTick, if_pos (show (0 : Int32) ≤ p1 ∧ p1 ≤ 100000 from hv.1), if_pos (show (0 : Int32) ≤ p2 ∧ p2 ≤ 100000 from hv.2.1), i10, if_false, if_true, eq_true hv.2.2, s_f2, tl_in (show k < 6 by omega) (show 6 < 2 ^ 31 by omega), tl_cl (show k < 2 ^ 31 by omega), true_and, hc, c_throwsIf1]
theorem m_copy {k c : Nat} (hn : n ≤ 6) (h : σ.1 515 = nI n) (hk : k < n) (hv : cyA p1 p2) (hc : σ.2.2.1 44 k = nI c) (hc4 : c < 4) : ex_C (d + 3) 95 [.ref 5, .int (nI k), .int p1, .int p2] σ E = E (.inl (some (.int (nI c)))) (ex_sA (ex_sA (ex_sA (ex_sF σ 500 0) 41 (4 * k + c) p1) 42 (4 * k + c) p2) 44 k (nI (c + 1))) := by
  have h0 : vp_in (nI k) n := vp_in_nI hk (by omega)
  have h4 : (nI c = 4) = False := by
    rw [show (4 : Int32) = nI 4 from rfl, tl_eq (by omega) (by omega)]
    exact eq_false (by omega)
  have h9 : nI (c + 1) - 1 = nI c := by
    rw [show (1 : Int32) = nI 1 from rfl, pk_sub (by omega)]
    rfl
  simp only [r_X5_copy, r_X5_copy_0, r_X5_copy_1, r_X5_copy_2, r_X5_copy_5, r_X5_copy_6, r_X5_copy_7, r_X5_copy_8, r_X5_copy_11, r_X5_copy_12, r_X5_copy_15, r_X5_copy_18, r_X5_copy_19, r_X5_copy_20, r_X5_copy_23, r_X5_copy_26, r_X5_copy_27, r_X5_copy_30, r_X5_copy_33, r_X5_copy_34, r_X5_copy_35, r_X5_copy_38, r_X5_copy_39, r_X5_copy_42, r_X5_copy_43, r_X5_copy_44, r_X5_copy_47, r_X5_copy_50, r_X5_copy_51, r_X5_copy_52, r_X5_copy_55, r_X5_copy_56, r_X5_copy_57, r_X5_copy_58, r_X5_copy_61, r_X5_copy_62, r_X5_copy_65, r_X5_copy_66, r_X5_copy_67, r_X5_copy_70, r_X5_copy_73, r_X5_copy_74, r_X5_copy_75, r_X5_copy_76, r_X5_copy_77, r_X5_copy_78, r_X5_copy_79, r_X5_copy_82, r_X5_copy_83, r_X5_copy_84, r_X5_copy_85, r_X5_copy_87, r_X5_copy_88, r_X5_copy_91, r_X5_copy_93, r_X5_copy_94, r_X5_copy_95, r_X5_copy_96, r_X5_copy_99, r_X5_copy_101, r_X5_copy_102, r_X5_copy_103, r_X5_copy_104, r_X5_copy_107, r_X5_copy_108, r_X5_copy_109, r_X5_copy_110, r_X5_copy_111, r_X5_copy_112, r_X5_copy_113, r_X5_copy_114, r_X5_copy_117, r_X5_copy_118, r_X5_copy_119, r_X5_copy_120, r_X5_copy_121, c_noStore (σ := ex_sF σ 500 0) hn h h0, Option.toList, List.cons_append, List.nil_append, c_throwsIf0, c_isTick, if_pos (show (0 : Int32) ≤ p1 ∧ p1 ≤ 100000 from hv.1), if_pos (show (0 : Int32) ≤ p2 ∧ p2 ≤ 100000 from hv.2.1), i10, if_false, if_true, eq_true hv.2.2, s_f2, tl_in (show k < 6 by omega) (show 6 < 2 ^ 31 by omega), tl_cl (show k < 2 ^ 31 by omega), true_and, hc, h4, tl_ix4', nI_add, tl_in (show 4 * k + c < 24 by omega) (show 24 < 2 ^ 31 by omega), tl_cl (show 4 * k + c < 2 ^ 31 by omega), t_a3, Nat.reduceEqDiff, nI_1, s_u, h9]
theorem p_copy (hI : Inv σ) : pr2 (d + 4) 127 [.ref 4, .int p0, .int p1, .int p2, .ref 58] 95 [.ref 5, .int p0, .int p1, .int p2] σ gd := by
  unfold pr2
  have hI0 := hI
  obtain ⟨hWW, s, l, ch, cp, fr, to, hS⟩ := hI
  obtain ⟨s1, s2, s3, s4, s5, s6, s7, s8⟩ := hS
  have hs := s1.1
  by_cases h0 : vp_in p0 s
  · obtain ⟨k, hk, e0⟩ := vin (by omega) h0
    subst e0
    by_cases hv : cyA p1 p2
    · obtain ⟨g1, g2⟩ := s1.2.2.2.2.1 k (by omega)
      obtain ⟨g3, _⟩ := s2.2.2.2.2.1 k (by omega)
      rcases Nat.lt_or_ge (cp k) 4 with q | q
      · rw [k_copy hs s1.2.2.1 hk hv g1 q]
        refine ⟨0, rfl, ?_⟩
        rw [m_copy (d := d + 1) (c := cp k) (σ := ex_sB (ex_sA (ex_sA (ex_sA σ 17 (4 * k + cp k) p1) 18 (4 * k + cp k) p2) 16 k (nI (cp k + 1))) 58 0 (nI (cp k)).toInt64) hs s2.2.2.1 hk hv g3 q]
        refine ⟨_, rfl, ⟨hWW, s, l, ch, pl_up cp k (cp k + 1), fr, to, ⟨hs, s1.2.1, s1.2.2.1, s1.2.2.2.1, fun x hx => ?_, s1.2.2.2.2.2⟩, ⟨hs, s2.2.1, s2.2.2.1, s2.2.2.2.1, fun x hx => ?_, s2.2.2.2.2.2⟩, s3, s4, s5, fun x hx => ?_, s7, s8⟩, rfl, fun _ => rfl⟩
        · show (if x = k then nI (cp k + 1) else σ.2.2.1 16 x) = nI (pl_up cp k (cp k + 1) x) ∧ pl_up cp k (cp k + 1) x ≤ 4
          by_cases e : x = k
          · rw [if_pos e, e, pl_up_at]
            exact ⟨rfl, by omega⟩
          · rw [if_neg e, pl_up_ne _ _ e]
            exact s1.2.2.2.2.1 x hx
        · show (if x = k then nI (cp k + 1) else σ.2.2.1 44 x) = nI (pl_up cp k (cp k + 1) x) ∧ pl_up cp k (cp k + 1) x ≤ 4
          by_cases e : x = k
          · rw [if_pos e, e, pl_up_at]
            exact ⟨rfl, by omega⟩
          · rw [if_neg e, pl_up_ne _ _ e]
            exact s2.2.2.2.2.1 x hx
        · show (if x = 4 * k + cp k then p1 else σ.2.2.1 41 x) = (if x = 4 * k + cp k then p1 else σ.2.2.1 17 x) ∧ (if x = 4 * k + cp k then p2 else σ.2.2.1 42 x) = (if x = 4 * k + cp k then p2 else σ.2.2.1 18 x) ∧ σ.2.2.1 43 x = σ.2.2.1 19 x ∧ 0 ≤ (if x = 4 * k + cp k then p1 else σ.2.2.1 17 x) ∧ 0 ≤ (if x = 4 * k + cp k then p2 else σ.2.2.1 18 x) ∧ (σ.2.2.1 19 x = 0 ∨ σ.2.2.1 19 x = 1)
          obtain ⟨y1, y2, y3, y4, y5, y6⟩ := s6 x hx
          by_cases e : x = 4 * k + cp k
          · simp only [if_pos e]
            exact ⟨trivial, trivial, y3, hv.1.1, hv.2.1.1, y6⟩
          · simp only [if_neg e]
            exact ⟨y1, y2, y3, y4, y5, y6⟩
      · have e4 : cp k = 4 := by omega
        rw [e4] at g1 g3
        rw [k_copyU hs s1.2.2.1 hk hv g1]
        refine ⟨3, rfl, ?_⟩
        rw [m_copyU (d := d + 1) hs s2.2.2.1 hk hv g3]
        exact ⟨0, rfl, inv_thr _ (inv_thr _ hI0), rfl, fun q => absurd q (by decide)⟩
    · rw [k_copyA hs s1.2.2.1 hk hv]
      refine ⟨2, rfl, ?_⟩
      rw [m_copyA (d := d + 1) hs s2.2.2.1 hk hv]
      exact ⟨0, rfl, inv_thr _ (inv_thr _ hI0), rfl, fun q => absurd q (by decide)⟩
  · rw [k_copyT hs s1.2.2.1 h0]
    refine ⟨1, rfl, ?_⟩
    rw [m_copyT (d := d + 1) hs s2.2.2.1 h0]
    exact ⟨0, rfl, inv_thr _ (inv_thr _ hI0), rfl, fun q => absurd q (by decide)⟩
/-! torn -/
theorem p_torn {sb : Bool} (hI : Inv σ) : pr2 (d + 4) 128 [.ref 4, .int p0, .int p1, .int (bI sb), .ref 58] 96 [.ref 5, .int p0, .int p1, .int (bI sb)] σ (fun k v τ => gd k v τ ∧ (v = 0 ∨ v = 1)) := by
  unfold pr2
  have hI0 := hI
  obtain ⟨hWW, s, l, ch, cp, fr, to, hS⟩ := hI
  obtain ⟨s1, s2, s3, s4, s5, s6, s7, s8⟩ := hS
  have hs := s1.1
  have hbb : ex_bool (bI sb) = True := by cases sb <;> simp [bI, ex_bool]
  by_cases h0 : vp_in p0 s
  · obtain ⟨k, hk, e0⟩ := vin (by omega) h0
    subst e0
    obtain ⟨g1, g2⟩ := s1.2.2.2.2.1 k (by omega)
    obtain ⟨g3, _⟩ := s2.2.2.2.2.1 k (by omega)
    have hk6 := tl_in (show k < 6 by omega) (show 6 < 2 ^ 31 by omega)
    have hkc := tl_cl (show k < 2 ^ 31 by omega)
    by_cases h1 : vp_in p1 (cp k)
    · obtain ⟨c, hc, e1⟩ := vin (by omega) h1
      subst e1
      obtain ⟨y1, y2, y3, y4, y5, y6⟩ := s6 (4 * k + c) (by omega)
      have hci := tl_in (show 4 * k + c < 24 by omega) (show 24 < 2 ^ 31 by omega)
      have hcc := tl_cl (show 4 * k + c < 2 ^ 31 by omega)
      have hkk : ex_C (d + 4) 128 [.ref 4, .int (nI k), .int (nI c), .int (bI sb), .ref 58] σ (fun o σ1 => ∃ k2, o = .inl (some (.int k2)) ∧ ex_C (d + 4) 96 [.ref 5, .int (nI k), .int (nI c), .int (bI sb)] σ1 (fun o2 σ2 => ∃ v, o2 = .inl (some (.int v)) ∧ (gd k2 v σ2 ∧ (v = 0 ∨ v = 1)))) = ((∃ k2, (Sum.inl (some (.int 0)) : ex_O) = .inl (some (.int k2)) ∧ ex_C (d + 4) 96 [.ref 5, .int (nI k), .int (nI c), .int (bI sb)] (ex_sB (ex_sA σ 19 (4 * k + c) (bI sb)) 58 0 (if σ.2.2.1 19 (4 * k + c) = bI sb then 0 else 1)) (fun o2 σ2 => ∃ v, o2 = .inl (some (.int v)) ∧ (gd k2 v σ2 ∧ (v = 0 ∨ v = 1))))) := by
        simp only [r_L_torn, r_L_torn_0, r_L_torn_2, r_L_torn_3, r_L_torn_4, r_L_torn_5, r_L_torn_6, r_L_torn_7, r_L_torn_10, r_L_torn_13, r_L_torn_14, r_L_torn_17, r_L_torn_18, r_L_torn_19, r_L_torn_24, r_L_torn_25, r_L_torn_26, r_L_torn_27, Nat.le_refl, Nat.reduceSub, Nat.reduceLeDiff, true_and, r_X4_torn, r_X4_torn_0, r_X4_torn_1, r_X4_torn_2, r_X4_torn_5, r_X4_torn_6, r_X4_torn_9, r_X4_torn_10, r_X4_torn_11, r_X4_torn_14, r_X4_torn_17, r_X4_torn_18, r_X4_torn_19, r_X4_torn_22, r_X4_torn_32, r_X4_torn_33, r_X4_torn_36, r_X4_torn_37, r_X4_torn_38, r_X4_torn_39, r_X4_torn_42, c_reqS hs s1.2.2.1 hk, Option.toList, List.cons_append, List.nil_append, tl_lt0 (show c < 2 ^ 31 by omega), if_false, hk6, hkc, g1, show (nI c < nI (cp k)) = True from eq_true (nI_lt hc (by omega)), if_true, r_X2_setTorn, r_X2_setTorn_0, r_X2_setTorn_1, r_X2_setTorn_2, r_X2_setTorn_3, r_X2_setTorn_4, r_X2_setTorn_5, r_X2_setTorn_7, r_X2_setTorn_8, r_X2_setTorn_11, r_X2_setTorn_13, r_X2_setTorn_14, r_X2_setTorn_15, r_X2_setTorn_18, r_X2_setTorn_19, r_X2_setTorn_22, r_X2_setTorn_23, r_X2_setTorn_25, r_X2_setTorn_26, r_X2_setTorn_29, r_X2_setTorn_31, r_X2_setTorn_32, r_X2_setTorn_33, r_X2_setTorn_35, tl_ix4, hci, hcc, hbb]
        by_cases q : σ.2.2.1 19 (4 * k + c) = bI sb
        · simp only [if_pos q, tl_b0, tl_b1, Nat.reduceSub, Nat.reduceLeDiff, true_and, Option.toList, List.cons_append, List.nil_append, r_X4_torn_0, r_X4_torn_1, r_X4_torn_2, r_X4_torn_5, r_X4_torn_6, r_X4_torn_9, r_X4_torn_10, r_X4_torn_11, r_X4_torn_14, r_X4_torn_17, r_X4_torn_18, r_X4_torn_19, r_X4_torn_22, r_X4_torn_32, r_X4_torn_33, r_X4_torn_36, r_X4_torn_37, r_X4_torn_38, r_X4_torn_39, r_X4_torn_42, r_L_torn_0, r_L_torn_2, r_L_torn_3, r_L_torn_4, r_L_torn_5, r_L_torn_6, r_L_torn_7, r_L_torn_10, r_L_torn_13, r_L_torn_14, r_L_torn_17, r_L_torn_18, r_L_torn_19, r_L_torn_24, r_L_torn_25, r_L_torn_26, r_L_torn_27, if_true, v01, cl0]
        · simp only [if_neg q, tl_b0, tl_b1, Nat.reduceSub, Nat.reduceLeDiff, true_and, Option.toList, List.cons_append, List.nil_append, r_X4_torn_0, r_X4_torn_1, r_X4_torn_2, r_X4_torn_5, r_X4_torn_6, r_X4_torn_9, r_X4_torn_10, r_X4_torn_11, r_X4_torn_14, r_X4_torn_17, r_X4_torn_18, r_X4_torn_19, r_X4_torn_22, r_X4_torn_32, r_X4_torn_33, r_X4_torn_36, r_X4_torn_37, r_X4_torn_38, r_X4_torn_39, r_X4_torn_42, r_L_torn_0, r_L_torn_2, r_L_torn_3, r_L_torn_4, r_L_torn_5, r_L_torn_6, r_L_torn_7, r_L_torn_10, r_L_torn_13, r_L_torn_14, r_L_torn_17, r_L_torn_18, r_L_torn_19, r_L_torn_24, r_L_torn_25, r_L_torn_26, r_L_torn_27, i10, if_false, v01, cl0]
      rw [hkk]
      refine ⟨0, rfl, ?_⟩
      have h11 : (0 : Int32) ≤ nI c ∧ nI c ≤ nI (cp k) - 1 := (tl_win (by omega)).mpr h1
      have h5 : (ex_sF (ex_sB (ex_sA σ 19 (4 * k + c) (bI sb)) 58 0 (if σ.2.2.1 19 (4 * k + c) = bI sb then 0 else 1)) 500 0).1 515 = nI s := s2.2.2.1
      have h44 : (ex_sF (ex_sB (ex_sA σ 19 (4 * k + c) (bI sb)) 58 0 (if σ.2.2.1 19 (4 * k + c) = bI sb then 0 else 1)) 500 0).2.2.1 44 k = nI (cp k) := g3
      have h43 : (ex_sF (ex_sB (ex_sA σ 19 (4 * k + c) (bI sb)) 58 0 (if σ.2.2.1 19 (4 * k + c) = bI sb then 0 else 1)) 500 0).2.2.1 43 (4 * k + c) = σ.2.2.1 19 (4 * k + c) := y3
      simp only [r_X5_torn, r_X5_torn_0, r_X5_torn_1, r_X5_torn_2, r_X5_torn_5, r_X5_torn_6, r_X5_torn_7, r_X5_torn_8, r_X5_torn_11, r_X5_torn_14, r_X5_torn_15, r_X5_torn_16, r_X5_torn_17, r_X5_torn_20, r_X5_torn_21, r_X5_torn_22, r_X5_torn_23, r_X5_torn_24, r_X5_torn_27, r_X5_torn_30, r_X5_torn_31, r_X5_torn_34, r_X5_torn_35, r_X5_torn_36, r_X5_torn_39, r_X5_torn_42, r_X5_torn_43, r_X5_torn_44, r_X5_torn_45, r_X5_torn_48, r_X5_torn_49, r_X5_torn_50, r_X5_torn_51, r_X5_torn_52, r_X5_torn_53, r_X5_torn_54, r_X5_torn_56, r_X5_torn_57, r_X5_torn_60, r_X5_torn_61, r_X5_torn_62, r_X5_torn_63, r_X5_torn_64, r_X5_torn_65, r_X5_torn_66, r_X5_torn_67, r_X5_torn_69, r_X5_torn_70, r_X5_torn_73, r_X5_torn_74, r_X5_torn_77, r_X5_torn_78, c_noStore hs h5 h0, Option.toList, List.cons_append, List.nil_append, if_true, hk6, hkc, true_and, h44, c_in, if_pos h11, i10, if_false, c_throwsIf0, tl_ix4', nI_add, hci, hcc, hbb, h43]
      have hfin : Inv (ex_sA (ex_sF (ex_sB (ex_sA σ 19 (4 * k + c) (bI sb)) 58 0 (if σ.2.2.1 19 (4 * k + c) = bI sb then 0 else 1)) 500 0) 43 (4 * k + c) (bI sb)) := by
        refine ⟨hWW, s, l, ch, cp, fr, to, s1, s2, s3, s4, s5, fun x hx => ?_, s7, s8⟩
        show σ.2.2.1 41 x = σ.2.2.1 17 x ∧ σ.2.2.1 42 x = σ.2.2.1 18 x ∧ (if x = 4 * k + c then bI sb else σ.2.2.1 43 x) = (if x = 4 * k + c then bI sb else σ.2.2.1 19 x) ∧ 0 ≤ σ.2.2.1 17 x ∧ 0 ≤ σ.2.2.1 18 x ∧ ((if x = 4 * k + c then bI sb else σ.2.2.1 19 x) = 0 ∨ (if x = 4 * k + c then bI sb else σ.2.2.1 19 x) = 1)
        obtain ⟨y1, y2, y3, y4, y5, y6⟩ := s6 x hx
        by_cases e : x = 4 * k + c
        · simp only [if_pos e]
          exact ⟨y1, y2, trivial, y4, y5, by cases sb <;> simp [bI]⟩
        · simp only [if_neg e]
          exact ⟨y1, y2, y3, y4, y5, y6⟩
      by_cases q : σ.2.2.1 19 (4 * k + c) = bI sb
      · simp only [if_pos q, tl_b0, true_and]
        simp only [if_pos q] at hfin
        exact ⟨0, rfl, ⟨hfin, rfl, fun _ => rfl⟩, Or.inl rfl⟩
      · simp only [if_neg q, tl_b1, true_and]
        simp only [if_neg q] at hfin
        exact ⟨1, rfl, ⟨hfin, rfl, fun _ => rfl⟩, Or.inr rfl⟩
    · have hno : ¬ ((0 : Int32) ≤ p1 ∧ p1 ≤ nI (cp k) - 1) := fun q => h1 ((tl_win (by omega)).mp q)
      have hkk : ∀ F : ex_O → ex_S → Prop, ex_C (d + 4) 128 [.ref 4, .int (nI k), .int p1, .int (bI sb), .ref 58] σ F = F (.inl (some (.int 1))) σ := by
        intro F
        simp only [r_L_torn, r_L_torn_0, r_L_torn_2, r_L_torn_3, r_L_torn_4, r_L_torn_5, r_L_torn_6, r_L_torn_7, r_L_torn_10, r_L_torn_13, r_L_torn_14, r_L_torn_17, r_L_torn_18, r_L_torn_19, r_L_torn_24, r_L_torn_25, r_L_torn_26, r_L_torn_27, Nat.le_refl, Nat.reduceSub, Nat.reduceLeDiff, true_and, r_X4_torn, r_X4_torn_0, r_X4_torn_1, r_X4_torn_2, r_X4_torn_5, r_X4_torn_6, r_X4_torn_9, r_X4_torn_10, r_X4_torn_11, r_X4_torn_14, r_X4_torn_17, r_X4_torn_18, r_X4_torn_19, r_X4_torn_22, r_X4_torn_32, r_X4_torn_33, r_X4_torn_36, r_X4_torn_37, r_X4_torn_38, r_X4_torn_39, r_X4_torn_42, c_reqS hs s1.2.2.1 hk, Option.toList, List.cons_append, List.nil_append, hk6, hkc, g1]
        rcases (tl_wout (n := cp k) (by omega)).mpr h1 with q | q
        · simp only [if_pos q, Nat.reduceSub, Nat.reduceLeDiff, true_and, xc_torn_1, r_L_torn_0, r_L_torn_2, r_L_torn_3, r_L_torn_4, r_L_torn_5, r_L_torn_6, r_L_torn_7, r_L_torn_10, r_L_torn_13, r_L_torn_14, r_L_torn_17, r_L_torn_18, r_L_torn_19, r_L_torn_24, r_L_torn_25, r_L_torn_26, r_L_torn_27]
        · by_cases q2 : p1 < 0
          · simp only [if_pos q2, Nat.reduceSub, Nat.reduceLeDiff, true_and, xc_torn_1, r_L_torn_0, r_L_torn_2, r_L_torn_3, r_L_torn_4, r_L_torn_5, r_L_torn_6, r_L_torn_7, r_L_torn_10, r_L_torn_13, r_L_torn_14, r_L_torn_17, r_L_torn_18, r_L_torn_19, r_L_torn_24, r_L_torn_25, r_L_torn_26, r_L_torn_27]
          · simp only [if_neg q2, if_neg (Int32.not_lt.mpr q), Nat.reduceSub, Nat.reduceLeDiff, true_and, xc_torn_1, r_L_torn_0, r_L_torn_2, r_L_torn_3, r_L_torn_4, r_L_torn_5, r_L_torn_6, r_L_torn_7, r_L_torn_10, r_L_torn_13, r_L_torn_14, r_L_torn_17, r_L_torn_18, r_L_torn_19, r_L_torn_24, r_L_torn_25, r_L_torn_26, r_L_torn_27]
      rw [hkk]
      refine ⟨1, rfl, ?_⟩
      have h5 : (ex_sF σ 500 0).1 515 = nI s := s2.2.2.1
      have h44 : (ex_sF σ 500 0).2.2.1 44 k = nI (cp k) := g3
      simp only [r_X5_torn, r_X5_torn_0, r_X5_torn_1, r_X5_torn_2, r_X5_torn_5, r_X5_torn_6, r_X5_torn_7, r_X5_torn_8, r_X5_torn_11, r_X5_torn_14, r_X5_torn_15, r_X5_torn_16, r_X5_torn_17, r_X5_torn_20, r_X5_torn_21, r_X5_torn_22, r_X5_torn_23, r_X5_torn_24, r_X5_torn_27, r_X5_torn_30, r_X5_torn_31, r_X5_torn_34, r_X5_torn_35, r_X5_torn_36, r_X5_torn_39, r_X5_torn_42, r_X5_torn_43, r_X5_torn_44, r_X5_torn_45, r_X5_torn_48, r_X5_torn_49, r_X5_torn_50, r_X5_torn_51, r_X5_torn_52, r_X5_torn_53, r_X5_torn_54, r_X5_torn_56, r_X5_torn_57, r_X5_torn_60, r_X5_torn_61, r_X5_torn_62, r_X5_torn_63, r_X5_torn_64, r_X5_torn_65, r_X5_torn_66, r_X5_torn_67, r_X5_torn_69, r_X5_torn_70, r_X5_torn_73, r_X5_torn_74, r_X5_torn_77, r_X5_torn_78, c_noStore hs h5 h0, Option.toList, List.cons_append, List.nil_append, if_true, hk6, hkc, true_and, h44, c_in, if_neg hno, c_throwsIf1, i10, if_false, tl_b0]
      exact ⟨0, rfl, ⟨inv_thr _ (inv_thr _ hI0), rfl, fun q => absurd q (by decide)⟩, Or.inl rfl⟩
  · simp only [r_L_torn, r_L_torn_0, r_L_torn_2, r_L_torn_3, r_L_torn_4, r_L_torn_5, r_L_torn_6, r_L_torn_7, r_L_torn_10, r_L_torn_13, r_L_torn_14, r_L_torn_17, r_L_torn_18, r_L_torn_19, r_L_torn_24, r_L_torn_25, r_L_torn_26, r_L_torn_27, Nat.le_refl, Nat.reduceSub, Nat.reduceLeDiff, true_and, r_X4_torn, r_X4_torn_0, r_X4_torn_1, r_X4_torn_2, r_X4_torn_5, r_X4_torn_6, r_X4_torn_9, r_X4_torn_10, r_X4_torn_11, r_X4_torn_14, r_X4_torn_17, r_X4_torn_18, r_X4_torn_19, r_X4_torn_22, r_X4_torn_32, r_X4_torn_33, r_X4_torn_36, r_X4_torn_37, r_X4_torn_38, r_X4_torn_39, r_X4_torn_42, c_reqST hs s1.2.2.1 h0, xc_torn_1]
    refine ⟨1, rfl, ?_⟩
    have h5 : (ex_sF σ 500 0).1 515 = nI s := s2.2.2.1
    simp only [r_X5_torn, r_X5_torn_0, r_X5_torn_1, r_X5_torn_2, r_X5_torn_5, r_X5_torn_6, r_X5_torn_7, r_X5_torn_8, r_X5_torn_11, r_X5_torn_14, r_X5_torn_15, r_X5_torn_16, r_X5_torn_17, r_X5_torn_20, r_X5_torn_21, r_X5_torn_22, r_X5_torn_23, r_X5_torn_24, r_X5_torn_27, r_X5_torn_30, r_X5_torn_31, r_X5_torn_34, r_X5_torn_35, r_X5_torn_36, r_X5_torn_39, r_X5_torn_42, r_X5_torn_43, r_X5_torn_44, r_X5_torn_45, r_X5_torn_48, r_X5_torn_49, r_X5_torn_50, r_X5_torn_51, r_X5_torn_52, r_X5_torn_53, r_X5_torn_54, r_X5_torn_56, r_X5_torn_57, r_X5_torn_60, r_X5_torn_61, r_X5_torn_62, r_X5_torn_63, r_X5_torn_64, r_X5_torn_65, r_X5_torn_66, r_X5_torn_67, r_X5_torn_69, r_X5_torn_70, r_X5_torn_73, r_X5_torn_74, r_X5_torn_77, r_X5_torn_78, c_noStoreT hs h5 h0, Option.toList, List.cons_append, List.nil_append, i10, if_false, if_true, c_throwsIf1, tl_b0, true_and]
    exact ⟨0, rfl, ⟨inv_thr _ (inv_thr _ hI0), rfl, fun q => absurd q (by decide)⟩, Or.inl rfl⟩
end OS
