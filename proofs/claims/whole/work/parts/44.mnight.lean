/-! ===== the night of the model ===== -/
section MN
def is1 (f : Nat → Int32) (k : Nat) : Bool := decide (f k = 1)
def isge (v : Int32) (f : Nat → Int32) (k : Nat) : Bool := !decide (f k < v)
theorem c_mfree {d : Nat} {E : ex_O → ex_S → Prop} {σ : ex_S} {n : Nat} (hn : n ≤ 8) (h : σ.1 505 = nI n) : ex_C (d + 1) 112 [.ref 5] σ E = E (.inl (some (.int (nt_fh (σ.2.2.1 34) (σ.1 533) (is1 (σ.2.2.1 55)) n)))) σ := by
  simp only [r_X5_free, r_X5_free_0, r_X5_free_1, r_X5_free_4, r_X5_free_5, r_X5_free_6, r_X5_free_8, r_X5_free_9, r_X5_free_12, r_X5_free_15, r_X5_free_16, r_X5_free_17, r_X5_free_20, r_X5_free_21, r_X5_free_22, r_X5_free_23, r_X5_free_26, r_X5_free_27, r_X5_free_30, r_X5_free_31, r_X5_free_32, r_X5_free_35, r_X5_free_36, r_X5_free_37, r_X5_free_38, r_X5_free_41, r_X5_free_44, r_X5_free_45]
  refine (tl_for (A := fun i => ex_r none d ex_m_X5_free E 7 [.ref 5, .int (nt_fh (σ.2.2.1 34) (σ.1 533) (is1 (σ.2.2.1 55)) i), .int (nI i)] [] σ 0) (n := n) ?_).trans ?_
  · intro i hi R hR
    simp only [r_X5_free_7]
    simp only [r_X5_free_0, r_X5_free_1, r_X5_free_4, r_X5_free_5, r_X5_free_6, r_X5_free_8, r_X5_free_9, r_X5_free_12, r_X5_free_15, r_X5_free_16, r_X5_free_17, r_X5_free_20, r_X5_free_21, r_X5_free_22, r_X5_free_23, r_X5_free_26, r_X5_free_27, r_X5_free_30, r_X5_free_31, r_X5_free_32, r_X5_free_35, r_X5_free_36, r_X5_free_37, r_X5_free_38, r_X5_free_41, r_X5_free_44, r_X5_free_45, h, tl_in (show i < 8 by omega) (show 8 < 2 ^ 31 by omega), tl_cl (show i < 2 ^ 31 by omega), true_and, nI_1, Int32.sub_zero]
    rw [if_neg (nI_ge hi (by omega))]
    subst hR
    rw [nt_fh]
    by_cases q : σ.2.2.1 55 i = 1 <;> simp [q, is1]
  · simp only [r_X5_free_7]
    simp only [r_X5_free_0, r_X5_free_1, r_X5_free_4, r_X5_free_5, r_X5_free_6, r_X5_free_8, r_X5_free_9, r_X5_free_12, r_X5_free_15, r_X5_free_16, r_X5_free_17, r_X5_free_20, r_X5_free_21, r_X5_free_22, r_X5_free_23, r_X5_free_26, r_X5_free_27, r_X5_free_30, r_X5_free_31, r_X5_free_32, r_X5_free_35, r_X5_free_36, r_X5_free_37, r_X5_free_38, r_X5_free_41, r_X5_free_44, r_X5_free_45, h, Int32.le_refl, if_true]
def sdm (nr nd : Nat → Nat) (so : Nat → Bool) (w : Nat) (p : Bool) (I : Nat → Bool) : Nat → Bool
  | 0 => true
  | k + 1 => sdm nr nd so w p I k && (!decide (nr k = w) || (p && so k) || I (nd k))
theorem sdm_iff {nr nd : Nat → Nat} {so : Nat → Bool} {w : Nat} {p : Bool} {I : Nat → Bool} : ∀ {m : Nat}, sdm nr nd so w p I m = true ↔ ∀ j, j < m → nr j = w → (p = true ∧ so j = true) ∨ I (nd j) = true
  | 0 => ⟨fun _ j hj => by omega, fun _ => rfl⟩
  | m + 1 => by
    rw [sdm, Bool.and_eq_true, sdm_iff]
    constructor
    · rintro ⟨h1, h2⟩ j hj e
      rcases Nat.lt_or_ge j m with q | q
      · exact h1 j q e
      · have e2 : j = m := by omega
        subst e2
        simpa [e] using h2
    · intro h
      refine ⟨fun j hj => h j (by omega), ?_⟩
      by_cases e : nr m = w
      · simpa [e] using h m (by omega) e
      · simp [e]
theorem c_stands {d : Nat} {E : ex_O → ex_S → Prop} {σ : ex_S} {n m w : Nat} {nr nd : Nat → Nat} {so : Nat → Bool} {p : Bool} {lv : Int32} (h : md_at σ n m nr nd so) (hw : w < n) : ex_C (d + 1) 113 [.ref 5, .int (nI w), .int (if p = true then 1 else 0), .int lv] σ E = E (.inl (some (.int (if sdm nr nd so w p (isge lv (σ.2.2.1 55)) m = true then 1 else 0)))) σ := by
  have hn := h.1
  have hm := h.2.1
  simp only [r_X5_stands, r_X5_stands_0, r_X5_stands_1, r_X5_stands_3, r_X5_stands_4, r_X5_stands_8, r_X5_stands_9, r_X5_stands_12, r_X5_stands_15, r_X5_stands_17, r_X5_stands_20, r_X5_stands_21, r_X5_stands_24, r_X5_stands_26, r_X5_stands_27, r_X5_stands_28, r_X5_stands_31, r_X5_stands_32, r_X5_stands_35, r_X5_stands_36, r_X5_stands_39, r_X5_stands_41, r_X5_stands_42, r_X5_stands_45, r_X5_stands_46, r_X5_stands_49, r_X5_stands_50, r_X5_stands_53, r_X5_stands_55, r_X5_stands_56, r_X5_stands_57, r_X5_stands_58, r_X5_stands_61, r_X5_stands_62, r_X5_stands_65, r_X5_stands_66, r_X5_stands_68, r_X5_stands_71, r_X5_stands_74, r_X5_stands_76]
  refine (tl_for (A := fun i => ex_r none d ex_m_X5_stands E 6 [.ref 5, .int (nI w), .int (if p = true then 1 else 0), .int lv, .int (if sdm nr nd so w p (isge lv (σ.2.2.1 55)) i = true then 1 else 0), .int (nI i)] [] σ 0) (n := m) ?_).trans ?_
  · intro i hi R hR
    obtain ⟨h1, h2, h3, h4, h5⟩ := h.2.2.2.2 i hi
    simp only [r_X5_stands_6]
    simp only [r_X5_stands_0, r_X5_stands_1, r_X5_stands_3, r_X5_stands_4, r_X5_stands_8, r_X5_stands_9, r_X5_stands_12, r_X5_stands_15, r_X5_stands_17, r_X5_stands_20, r_X5_stands_21, r_X5_stands_24, r_X5_stands_26, r_X5_stands_27, r_X5_stands_28, r_X5_stands_31, r_X5_stands_32, r_X5_stands_35, r_X5_stands_36, r_X5_stands_39, r_X5_stands_41, r_X5_stands_42, r_X5_stands_45, r_X5_stands_46, r_X5_stands_49, r_X5_stands_50, r_X5_stands_53, r_X5_stands_55, r_X5_stands_56, r_X5_stands_57, r_X5_stands_58, r_X5_stands_61, r_X5_stands_62, r_X5_stands_65, r_X5_stands_66, r_X5_stands_68, r_X5_stands_71, r_X5_stands_74, r_X5_stands_76, h.2.2.2.1, tl_in (show i < 40 by omega) (show 40 < 2 ^ 31 by omega), tl_cl (show i < 2 ^ 31 by omega), true_and, nI_1, h1, h2, h3, tl_in (show nd i < 8 by omega) (show 8 < 2 ^ 31 by omega), tl_cl (show nd i < 2 ^ 31 by omega), tl_eq (show nr i < 2 ^ 31 by omega) (show w < 2 ^ 31 by omega)]
    rw [if_neg (nI_ge hi (by omega))]
    subst hR
    rw [sdm]
    cases q1 : sdm nr nd so w p (isge lv (σ.2.2.1 55)) i <;> by_cases q2 : nr i = w <;> cases p <;> cases q3 : so i <;> by_cases q4 : σ.2.2.1 55 (nd i) < lv <;> simp [q2, q4, isge]
  · simp only [r_X5_stands_6]
    simp only [r_X5_stands_0, r_X5_stands_1, r_X5_stands_3, r_X5_stands_4, r_X5_stands_8, r_X5_stands_9, r_X5_stands_12, r_X5_stands_15, r_X5_stands_17, r_X5_stands_20, r_X5_stands_21, r_X5_stands_24, r_X5_stands_26, r_X5_stands_27, r_X5_stands_28, r_X5_stands_31, r_X5_stands_32, r_X5_stands_35, r_X5_stands_36, r_X5_stands_39, r_X5_stands_41, r_X5_stands_42, r_X5_stands_45, r_X5_stands_46, r_X5_stands_49, r_X5_stands_50, r_X5_stands_53, r_X5_stands_55, r_X5_stands_56, r_X5_stands_57, r_X5_stands_58, r_X5_stands_61, r_X5_stands_62, r_X5_stands_65, r_X5_stands_66, r_X5_stands_68, r_X5_stands_71, r_X5_stands_74, r_X5_stands_76, h.2.2.2.1, Int32.le_refl, if_true, tl_bi, true_and]
theorem c_falls {d : Nat} {E : ex_O → ex_S → Prop} {σ : ex_S} {w : Nat} (hw : w < 8) : ex_C (d + 1) 117 [.ref 5, .int (nI w)] σ E = E (.inl none) (ex_sA (ex_sA (ex_sA σ 55 w 0) 56 w 0) 57 w 0) := by
  simp only [r_X5_falls, r_X5_falls_0, r_X5_falls_1, r_X5_falls_4, r_X5_falls_5, r_X5_falls_6, r_X5_falls_7, r_X5_falls_8, r_X5_falls_11, r_X5_falls_12, r_X5_falls_13, r_X5_falls_14, r_X5_falls_15, r_X5_falls_18, r_X5_falls_19, r_X5_falls_20, r_X5_falls_21, tl_in hw (show 8 < 2 ^ 31 by omega), tl_cl (show w < 2 ^ 31 by omega), true_and, tl_b0]
def mb_ok (is w0 : Int32) (p : Bool) (fr hw : Int32) (sd : Bool) : Bool := decide (is = 0) && !(p && decide (w0 < 0)) && !decide (fr < hw) && sd
theorem c_mbegin {d : Nat} {E : ex_O → ex_S → Prop} {σ : ex_S} {n m w : Nat} {nr nd : Nat → Nat} {so : Nat → Bool} {p : Bool} (h : md_at σ n m nr nd so) (hw : w < n) (hN : σ.1 532 = 1) : ex_C (d + 3) 114 [.ref 5, .int (nI w), .int (if p = true then 1 else 0)] σ E = if mb_ok (σ.2.2.1 55 w) (σ.2.2.1 36 w) p (nt_fh (σ.2.2.1 34) (σ.1 533) (is1 (σ.2.2.1 55)) n) (σ.2.2.1 34 w) (sdm nr nd so w p (isge 2 (σ.2.2.1 55)) m) = true then E (.inl (some (.int 1))) (ex_sF (ex_sA (ex_sA (ex_sA (ex_sF σ 500 0) 55 w 1) 56 w (σ.2.2.1 33 w)) 57 w (if p = true then 1 else 0)) 535 (σ.1 535 + if p = true then σ.2.2.1 36 w else 0)) else E (.inl (some (.int 0))) (ex_sF σ 500 0) := by
  have hn := h.1
  have h0 := md_thr h 0
  simp only [r_X5_begin, r_X5_begin_0, r_X5_begin_1, r_X5_begin_2, r_X5_begin_5, r_X5_begin_6, r_X5_begin_7, r_X5_begin_8, r_X5_begin_11, r_X5_begin_12, r_X5_begin_15, r_X5_begin_18, r_X5_begin_19, r_X5_begin_20, r_X5_begin_23, r_X5_begin_26, r_X5_begin_27, r_X5_begin_30, r_X5_begin_31, r_X5_begin_32, r_X5_begin_35, r_X5_begin_38, r_X5_begin_39, r_X5_begin_40, r_X5_begin_41, r_X5_begin_44, r_X5_begin_45, r_X5_begin_46, r_X5_begin_49, r_X5_begin_50, r_X5_begin_53, r_X5_begin_54, r_X5_begin_55, r_X5_begin_58, r_X5_begin_61, r_X5_begin_62, r_X5_begin_65, r_X5_begin_66, r_X5_begin_67, r_X5_begin_68, r_X5_begin_71, r_X5_begin_74, r_X5_begin_75, r_X5_begin_76, r_X5_begin_77, r_X5_begin_78, r_X5_begin_81, r_X5_begin_84, r_X5_begin_85, r_X5_begin_86, r_X5_begin_87, r_X5_begin_90, r_X5_begin_91, r_X5_begin_92, r_X5_begin_93, r_X5_begin_94, r_X5_begin_97, r_X5_begin_98, r_X5_begin_99, r_X5_begin_102, r_X5_begin_103, r_X5_begin_104, r_X5_begin_105, r_X5_begin_106, r_X5_begin_109, r_X5_begin_110, r_X5_begin_111, r_X5_begin_112, r_X5_begin_113, r_X5_begin_114, r_X5_begin_117, r_X5_begin_118, r_X5_begin_121, r_X5_begin_122, r_X5_begin_125, r_X5_begin_126, r_X5_begin_127, r_X5_begin_130, r_X5_begin_131, r_X5_begin_132, r_X5_begin_135, r_X5_begin_136, c_noWork hn h0.2.2.1 (vp_in_nI hw (by omega)), c_throwsIf0, if_true, Option.toList, List.cons_append, List.nil_append, s_f1, s_f2, Nat.reduceEqDiff, if_false, hN, i10, tl_b0, true_and, tl_in (show w < 8 by omega) (show 8 < 2 ^ 31 by omega), tl_cl (show w < 2 ^ 31 by omega)]
  simp only [c_mcan (show w < 8 by omega), c_mfree hn h0.2.2.1, c_stands h0 hw, Option.toList, List.cons_append, List.nil_append, r_X5_begin_0, r_X5_begin_1, r_X5_begin_2, r_X5_begin_5, r_X5_begin_6, r_X5_begin_7, r_X5_begin_8, r_X5_begin_11, r_X5_begin_12, r_X5_begin_15, r_X5_begin_18, r_X5_begin_19, r_X5_begin_20, r_X5_begin_23, r_X5_begin_26, r_X5_begin_27, r_X5_begin_30, r_X5_begin_31, r_X5_begin_32, r_X5_begin_35, r_X5_begin_38, r_X5_begin_39, r_X5_begin_40, r_X5_begin_41, r_X5_begin_44, r_X5_begin_45, r_X5_begin_46, r_X5_begin_49, r_X5_begin_50, r_X5_begin_53, r_X5_begin_54, r_X5_begin_55, r_X5_begin_58, r_X5_begin_61, r_X5_begin_62, r_X5_begin_65, r_X5_begin_66, r_X5_begin_67, r_X5_begin_68, r_X5_begin_71, r_X5_begin_74, r_X5_begin_75, r_X5_begin_76, r_X5_begin_77, r_X5_begin_78, r_X5_begin_81, r_X5_begin_84, r_X5_begin_85, r_X5_begin_86, r_X5_begin_87, r_X5_begin_90, r_X5_begin_91, r_X5_begin_92, r_X5_begin_93, r_X5_begin_94, r_X5_begin_97, r_X5_begin_98, r_X5_begin_99, r_X5_begin_102, r_X5_begin_103, r_X5_begin_104, r_X5_begin_105, r_X5_begin_106, r_X5_begin_109, r_X5_begin_110, r_X5_begin_111, r_X5_begin_112, r_X5_begin_113, r_X5_begin_114, r_X5_begin_117, r_X5_begin_118, r_X5_begin_121, r_X5_begin_122, r_X5_begin_125, r_X5_begin_126, r_X5_begin_127, r_X5_begin_130, r_X5_begin_131, r_X5_begin_132, r_X5_begin_135, r_X5_begin_136, s_f1, s_f2, s_a, s_r1, s_r3, Nat.reduceEqDiff, if_false, if_true, tl_b0, tl_b1, tl_bi, true_and, tl_in (show w < 8 by omega) (show 8 < 2 ^ 31 by omega), tl_cl (show w < 2 ^ 31 by omega)]
  unfold mb_ok
  cases p
  · by_cases q1 : σ.2.2.1 55 w = 0 <;> by_cases q2 : σ.2.2.1 36 w < 0 <;> by_cases q3 : nt_fh (σ.2.2.1 34) (σ.1 533) (is1 (σ.2.2.1 55)) n < σ.2.2.1 34 w <;> rcases Bool.eq_false_or_eq_true (sdm nr nd so w false (isge 2 (σ.2.2.1 55)) m) with q4 | q4 <;> simp [q1, q2, q3, q4, i10]
  · by_cases q1 : σ.2.2.1 55 w = 0 <;> by_cases q2 : σ.2.2.1 36 w < 0 <;> by_cases q3 : nt_fh (σ.2.2.1 34) (σ.1 533) (is1 (σ.2.2.1 55)) n < σ.2.2.1 34 w <;> rcases Bool.eq_false_or_eq_true (sdm nr nd so w true (isge 2 (σ.2.2.1 55)) m) with q4 | q4 <;> simp [q1, q2, q3, q4, i10]
theorem c_mfail {d : Nat} {E : ex_O → ex_S → Prop} {σ : ex_S} {n w : Nat} (hn : n ≤ 8) (h5 : σ.1 505 = nI n) (hw : w < n) (hN : σ.1 532 = 1) : ex_C (d + 3) 116 [.ref 5, .int (nI w)] σ E = if σ.2.2.1 55 w = 1 then E (.inl (some (.int 1))) (ex_sA (ex_sF σ 500 0) 56 w (σ.2.2.1 33 w)) else E (.inl (some (.int 0))) (ex_sF σ 500 0) := by
  have h0 : (ex_sF σ 500 0).1 505 = nI n := h5
  simp only [r_X5_fail, r_X5_fail_0, r_X5_fail_1, r_X5_fail_2, r_X5_fail_5, r_X5_fail_6, r_X5_fail_7, r_X5_fail_8, r_X5_fail_11, r_X5_fail_12, r_X5_fail_15, r_X5_fail_18, r_X5_fail_19, r_X5_fail_20, r_X5_fail_23, r_X5_fail_26, r_X5_fail_27, r_X5_fail_30, r_X5_fail_31, r_X5_fail_32, r_X5_fail_35, r_X5_fail_38, r_X5_fail_39, r_X5_fail_42, r_X5_fail_43, r_X5_fail_44, r_X5_fail_45, r_X5_fail_48, r_X5_fail_49, r_X5_fail_50, r_X5_fail_51, r_X5_fail_54, r_X5_fail_55, r_X5_fail_56, r_X5_fail_59, r_X5_fail_60, r_X5_fail_61, r_X5_fail_62, r_X5_fail_63, c_noWork hn h0 (vp_in_nI hw (by omega)), c_throwsIf0, if_true, Option.toList, List.cons_append, List.nil_append, s_f1, s_f2, Nat.reduceEqDiff, if_false, hN, i10, tl_b0, tl_b1, true_and, tl_in (show w < 8 by omega) (show 8 < 2 ^ 31 by omega), tl_cl (show w < 2 ^ 31 by omega)]
end MN
