/-! ===== look, now ===== -/
section OJ
variable {d n : Nat} {E : ex_O → ex_S → Prop} {σ : ex_S} {p0 p1 : Int32}
theorem p_look (hI : Inv σ) : pr2 (d + 5) 140 [.ref 4, .int p0, .int p1, .ref 58] 119 [.ref 5, .int p0, .int p1] σ gd := by
  unfold pr2
  have hI0 := hI
  obtain ⟨⟨n, m, nr, nd, t, h, wt, ha, al, so, hW, hP, hN⟩, s, l, ch, cp, fr, to, hS⟩ := hI
  have hn := hW.1.1
  by_cases h0 : vp_in p0 n
  · obtain ⟨w, hw, e0⟩ := vin (by omega) h0
    subst e0
    have hw8 := tl_in (show w < 8 by omega) (show 8 < 2 ^ 31 by omega)
    have hwc := tl_cl (show w < 2 ^ 31 by omega)
    rcases hN with ⟨g1, g2⟩ | ⟨g1, g2, g3, g4, g5, st, th, hQ⟩
    · simp only [r_L_look, r_L_look_0, r_L_look_1, r_L_look_2, r_L_look_3, r_L_look_4, r_L_look_5, r_L_look_8, r_L_look_9, r_L_look_10, r_L_look_15, r_L_look_16, r_L_look_19, r_L_look_20, r_L_look_23, r_L_look_24, r_L_look_25, r_L_look_26, Nat.le_refl, Nat.reduceSub, Nat.reduceLeDiff, true_and, r_X4_look, r_X4_look_0, r_X4_look_1, r_X4_look_2, r_X4_look_5, r_X4_look_6, r_X4_look_9, r_X4_look_36, r_X4_look_37, r_X4_look_40, r_X4_look_41, r_X4_look_44, r_X4_look_45, r_X4_look_46, r_X4_look_49, r_X4_look_52, r_X4_look_53, r_X4_look_54, r_X4_look_55, r_X4_look_56, r_X4_look_59, r_X4_look_62, r_X4_look_63, r_X4_look_64, r_X4_look_65, r_X4_look_66, r_X4_look_67, c_reqW hn hW.1.2.1 hw, Option.toList, List.cons_append, List.nil_append, c_reqNT g1, xc_look_2]
      refine ⟨2, rfl, ?_⟩
      have h5 : (ex_sF σ 500 0).1 505 = nI n := hW.2.1.2.2.1
      have h6 : (ex_sF σ 500 0).1 532 = 0 := g2
      simp only [r_X5_look, r_X5_look_0, r_X5_look_1, r_X5_look_2, r_X5_look_5, r_X5_look_6, r_X5_look_7, r_X5_look_8, r_X5_look_11, r_X5_look_12, r_X5_look_15, r_X5_look_18, r_X5_look_19, r_X5_look_20, r_X5_look_23, r_X5_look_26, r_X5_look_27, r_X5_look_30, r_X5_look_31, r_X5_look_32, r_X5_look_35, r_X5_look_38, r_X5_look_39, r_X5_look_40, r_X5_look_68, r_X5_look_69, r_X5_look_72, r_X5_look_73, r_X5_look_74, r_X5_look_75, r_X5_look_76, r_X5_look_79, r_X5_look_80, r_X5_look_81, r_X5_look_82, r_X5_look_85, r_X5_look_86, r_X5_look_89, r_X5_look_90, r_X5_look_91, r_X5_look_94, r_X5_look_95, r_X5_look_96, r_X5_look_97, r_X5_look_100, r_X5_look_101, r_X5_look_102, r_X5_look_105, r_X5_look_106, r_X5_look_109, r_X5_look_110, r_X5_look_111, r_X5_look_112, r_X5_look_113, r_X5_look_116, r_X5_look_117, c_noWork hn h5 h0, Option.toList, List.cons_append, List.nil_append, c_throwsIf0, if_true, h6, c_throwsIf1, i10, if_false]
      exact ⟨0, rfl, inv_thr _ (inv_thr _ hI0), rfl, fun q => absurd q (by decide)⟩
    · obtain ⟨y1, y2, y3, y4, y5, y6⟩ := hQ.2.2.2 w hw
      have b2 : tb (σ.1 6) w = isA 2 st w := by
        rw [hQ.1]
        exact mk_tb hn hw
      have b1 : tb (σ.1 7) w = isA 1 st w := by
        rw [hQ.2.1]
        exact mk_tb hn hw
      have b8 : tb (σ.1 8) w = th w := by
        rw [hQ.2.2.1]
        exact mk_tb hn hw
      have mgo : ∀ (v : Int64) (F : ex_O → ex_S → Prop), ex_C (d + 5) 119 [.ref 5, .int (nI w), .int p1] (ex_sB σ 58 0 v) F = ex_r none (d + 4) ex_m_X5_look F 41 [.ref 5, .int (nI w), .int p1] [.int p1] (ex_sF (ex_sB σ 58 0 v) 500 0) 0 := by
        intro v F
        have h5 : (ex_sF (ex_sB σ 58 0 v) 500 0).1 505 = nI n := hW.2.1.2.2.1
        have h6 : (ex_sF (ex_sB σ 58 0 v) 500 0).1 532 = 1 := g2
        simp only [r_X5_look, r_X5_look_0, r_X5_look_1, r_X5_look_2, r_X5_look_5, r_X5_look_6, r_X5_look_7, r_X5_look_8, r_X5_look_11, r_X5_look_12, r_X5_look_15, r_X5_look_18, r_X5_look_19, r_X5_look_20, r_X5_look_23, r_X5_look_26, r_X5_look_27, r_X5_look_30, r_X5_look_31, r_X5_look_32, r_X5_look_35, r_X5_look_38, r_X5_look_39, r_X5_look_40, r_X5_look_68, r_X5_look_69, r_X5_look_72, r_X5_look_73, r_X5_look_74, r_X5_look_75, r_X5_look_76, r_X5_look_79, r_X5_look_80, r_X5_look_81, r_X5_look_82, r_X5_look_85, r_X5_look_86, r_X5_look_89, r_X5_look_90, r_X5_look_91, r_X5_look_94, r_X5_look_95, r_X5_look_96, r_X5_look_97, r_X5_look_100, r_X5_look_101, r_X5_look_102, r_X5_look_105, r_X5_look_106, r_X5_look_109, r_X5_look_110, r_X5_look_111, r_X5_look_112, r_X5_look_113, r_X5_look_116, r_X5_look_117, c_noWork hn h5 h0, Option.toList, List.cons_append, List.nil_append, c_throwsIf0, if_true, h6, i10, if_false]
      simp only [r_L_look, r_L_look_0, r_L_look_1, r_L_look_2, r_L_look_3, r_L_look_4, r_L_look_5, r_L_look_8, r_L_look_9, r_L_look_10, r_L_look_15, r_L_look_16, r_L_look_19, r_L_look_20, r_L_look_23, r_L_look_24, r_L_look_25, r_L_look_26, Nat.le_refl, Nat.reduceSub, Nat.reduceLeDiff, true_and, r_X4_look, r_X4_look_0, r_X4_look_1, r_X4_look_2, r_X4_look_5, r_X4_look_6, r_X4_look_9, r_X4_look_36, r_X4_look_37, r_X4_look_40, r_X4_look_41, r_X4_look_44, r_X4_look_45, r_X4_look_46, r_X4_look_49, r_X4_look_52, r_X4_look_53, r_X4_look_54, r_X4_look_55, r_X4_look_56, r_X4_look_59, r_X4_look_62, r_X4_look_63, r_X4_look_64, r_X4_look_65, r_X4_look_66, r_X4_look_67, c_reqW hn hW.1.2.1 hw, Option.toList, List.cons_append, List.nil_append, c_reqN g1]
      rcases sw_k p1 2 (by decide) with ⟨k, hk, e⟩ | q
      · subst e
        rcases (show k = 0 ∨ k = 1 ∨ k = 2 by omega) with e | e | e
        · subst e
          simp only [show nI 0 = (0 : Int32) from rfl] at mgo ⊢
          simp only [r_X4_look_0, r_X4_look_1, r_X4_look_2, r_X4_look_5, r_X4_look_6, r_X4_look_9, r_X4_look_10_0, r_X4_look_10_1, r_X4_look_10_2, r_X4_look_36, r_X4_look_37, r_X4_look_40, r_X4_look_41, r_X4_look_44, r_X4_look_45, r_X4_look_46, r_X4_look_49, r_X4_look_52, r_X4_look_53, r_X4_look_54, r_X4_look_55, r_X4_look_56, r_X4_look_59, r_X4_look_62, r_X4_look_63, r_X4_look_64, r_X4_look_65, r_X4_look_66, r_X4_look_67]
          rw [c_stage, b2, b1]
          simp only [Option.toList, List.cons_append, List.nil_append, r_X4_look_0, r_X4_look_1, r_X4_look_2, r_X4_look_5, r_X4_look_6, r_X4_look_9, r_X4_look_10_0, r_X4_look_10_1, r_X4_look_10_2, r_X4_look_36, r_X4_look_37, r_X4_look_40, r_X4_look_41, r_X4_look_44, r_X4_look_45, r_X4_look_46, r_X4_look_49, r_X4_look_52, r_X4_look_53, r_X4_look_54, r_X4_look_55, r_X4_look_56, r_X4_look_59, r_X4_look_62, r_X4_look_63, r_X4_look_64, r_X4_look_65, r_X4_look_66, r_X4_look_67, r_L_look_0, r_L_look_1, r_L_look_2, r_L_look_3, r_L_look_4, r_L_look_5, r_L_look_8, r_L_look_9, r_L_look_10, r_L_look_15, r_L_look_16, r_L_look_19, r_L_look_20, r_L_look_23, r_L_look_24, r_L_look_25, r_L_look_26, v01, cl0, true_and]
          refine ⟨0, rfl, ?_⟩
          rw [mgo]
          simp only [r_X5_look_0, r_X5_look_1, r_X5_look_2, r_X5_look_5, r_X5_look_6, r_X5_look_7, r_X5_look_8, r_X5_look_11, r_X5_look_12, r_X5_look_15, r_X5_look_18, r_X5_look_19, r_X5_look_20, r_X5_look_23, r_X5_look_26, r_X5_look_27, r_X5_look_30, r_X5_look_31, r_X5_look_32, r_X5_look_35, r_X5_look_38, r_X5_look_39, r_X5_look_40, r_X5_look_41_0, r_X5_look_41_1, r_X5_look_41_2, r_X5_look_68, r_X5_look_69, r_X5_look_72, r_X5_look_73, r_X5_look_74, r_X5_look_75, r_X5_look_76, r_X5_look_79, r_X5_look_80, r_X5_look_81, r_X5_look_82, r_X5_look_85, r_X5_look_86, r_X5_look_89, r_X5_look_90, r_X5_look_91, r_X5_look_94, r_X5_look_95, r_X5_look_96, r_X5_look_97, r_X5_look_100, r_X5_look_101, r_X5_look_102, r_X5_look_105, r_X5_look_106, r_X5_look_109, r_X5_look_110, r_X5_look_111, r_X5_look_112, r_X5_look_113, r_X5_look_116, r_X5_look_117, hw8, hwc, true_and]
          refine ⟨_, rfl, inv_thr _ (inv_out _ hI0), rfl, fun _ => ?_⟩
          show (if isA 2 st w = true then (2 : Int32) else if isA 1 st w = true then 1 else 0).toInt64 = (σ.2.2.1 55 w).toInt64
          rw [y1]
          unfold isA
          rcases (show st w = 0 ∨ st w = 1 ∨ st w = 2 by omega) with e | e | e <;> rw [e] <;> rfl
        · subst e
          simp only [show nI 1 = (1 : Int32) from rfl] at mgo ⊢
          simp only [r_X4_look_0, r_X4_look_1, r_X4_look_2, r_X4_look_5, r_X4_look_6, r_X4_look_9, r_X4_look_10_0, r_X4_look_10_1, r_X4_look_10_2, r_X4_look_36, r_X4_look_37, r_X4_look_40, r_X4_look_41, r_X4_look_44, r_X4_look_45, r_X4_look_46, r_X4_look_49, r_X4_look_52, r_X4_look_53, r_X4_look_54, r_X4_look_55, r_X4_look_56, r_X4_look_59, r_X4_look_62, r_X4_look_63, r_X4_look_64, r_X4_look_65, r_X4_look_66, r_X4_look_67, hw8, hwc, true_and, r_L_look_0, r_L_look_1, r_L_look_2, r_L_look_3, r_L_look_4, r_L_look_5, r_L_look_8, r_L_look_9, r_L_look_10, r_L_look_15, r_L_look_16, r_L_look_19, r_L_look_20, r_L_look_23, r_L_look_24, r_L_look_25, r_L_look_26, Option.toList, List.cons_append, List.nil_append, v01, cl0]
          refine ⟨0, rfl, ?_⟩
          rw [mgo]
          simp only [r_X5_look_0, r_X5_look_1, r_X5_look_2, r_X5_look_5, r_X5_look_6, r_X5_look_7, r_X5_look_8, r_X5_look_11, r_X5_look_12, r_X5_look_15, r_X5_look_18, r_X5_look_19, r_X5_look_20, r_X5_look_23, r_X5_look_26, r_X5_look_27, r_X5_look_30, r_X5_look_31, r_X5_look_32, r_X5_look_35, r_X5_look_38, r_X5_look_39, r_X5_look_40, r_X5_look_41_0, r_X5_look_41_1, r_X5_look_41_2, r_X5_look_68, r_X5_look_69, r_X5_look_72, r_X5_look_73, r_X5_look_74, r_X5_look_75, r_X5_look_76, r_X5_look_79, r_X5_look_80, r_X5_look_81, r_X5_look_82, r_X5_look_85, r_X5_look_86, r_X5_look_89, r_X5_look_90, r_X5_look_91, r_X5_look_94, r_X5_look_95, r_X5_look_96, r_X5_look_97, r_X5_look_100, r_X5_look_101, r_X5_look_102, r_X5_look_105, r_X5_look_106, r_X5_look_109, r_X5_look_110, r_X5_look_111, r_X5_look_112, r_X5_look_113, r_X5_look_116, r_X5_look_117, hw8, hwc, true_and]
          have h1 := iQ_is hn hQ 1 (by decide) w hw
          rw [show nI 1 = (1 : Int32) from rfl] at h1
          by_cases q2 : st w = 1
          · rw [if_pos (show (ex_sF (ex_sB σ 58 0 (σ.2.2.1 6 w).toInt64) 500 0).2.2.1 55 w = 1 from h1.mpr q2)]
            refine ⟨_, rfl, inv_thr _ (inv_out _ hI0), rfl, fun _ => ?_⟩
            show (σ.2.2.1 6 w).toInt64 = (σ.2.2.1 56 w).toInt64
            rw [y5 q2]
          · rw [if_neg (show ¬ (ex_sF (ex_sB σ 58 0 (σ.2.2.1 6 w).toInt64) 500 0).2.2.1 55 w = 1 from fun q3 => q2 (h1.mp q3))]
            refine ⟨_, rfl, inv_thr _ (inv_out _ hI0), rfl, fun _ => ?_⟩
            show (σ.2.2.1 6 w).toInt64 = (0 : Int32).toInt64
            rw [y6 q2]
        · subst e
          simp only [show nI 2 = (2 : Int32) from rfl] at mgo ⊢
          simp only [r_X4_look_0, r_X4_look_1, r_X4_look_2, r_X4_look_5, r_X4_look_6, r_X4_look_9, r_X4_look_10_0, r_X4_look_10_1, r_X4_look_10_2, r_X4_look_36, r_X4_look_37, r_X4_look_40, r_X4_look_41, r_X4_look_44, r_X4_look_45, r_X4_look_46, r_X4_look_49, r_X4_look_52, r_X4_look_53, r_X4_look_54, r_X4_look_55, r_X4_look_56, r_X4_look_59, r_X4_look_62, r_X4_look_63, r_X4_look_64, r_X4_look_65, r_X4_look_66, r_X4_look_67, r_L_look_0, r_L_look_1, r_L_look_2, r_L_look_3, r_L_look_4, r_L_look_5, r_L_look_8, r_L_look_9, r_L_look_10, r_L_look_15, r_L_look_16, r_L_look_19, r_L_look_20, r_L_look_23, r_L_look_24, r_L_look_25, r_L_look_26, Option.toList, List.cons_append, List.nil_append, v01, cl0, true_and, tbv, b8]
          refine ⟨0, rfl, ?_⟩
          rw [mgo]
          have e57 : (ex_sF (ex_sB σ 58 0 (if th w = true then (1 : Int32) else 0).toInt64) 500 0).2.2.1 57 w = if th w = true then 1 else 0 := y3
          simp only [r_X5_look_0, r_X5_look_1, r_X5_look_2, r_X5_look_5, r_X5_look_6, r_X5_look_7, r_X5_look_8, r_X5_look_11, r_X5_look_12, r_X5_look_15, r_X5_look_18, r_X5_look_19, r_X5_look_20, r_X5_look_23, r_X5_look_26, r_X5_look_27, r_X5_look_30, r_X5_look_31, r_X5_look_32, r_X5_look_35, r_X5_look_38, r_X5_look_39, r_X5_look_40, r_X5_look_41_0, r_X5_look_41_1, r_X5_look_41_2, r_X5_look_68, r_X5_look_69, r_X5_look_72, r_X5_look_73, r_X5_look_74, r_X5_look_75, r_X5_look_76, r_X5_look_79, r_X5_look_80, r_X5_look_81, r_X5_look_82, r_X5_look_85, r_X5_look_86, r_X5_look_89, r_X5_look_90, r_X5_look_91, r_X5_look_94, r_X5_look_95, r_X5_look_96, r_X5_look_97, r_X5_look_100, r_X5_look_101, r_X5_look_102, r_X5_look_105, r_X5_look_106, r_X5_look_109, r_X5_look_110, r_X5_look_111, r_X5_look_112, r_X5_look_113, r_X5_look_116, r_X5_look_117, hw8, hwc, true_and, e57]
          cases q2 : th w with
          | true =>
            simp only [q2, if_true, i10, if_false]
            exact ⟨_, rfl, inv_thr _ (inv_out _ hI0), rfl, fun _ => rfl⟩
          | false =>
            simp only [q2, if_true, Bool.false_eq_true, if_false]
            exact ⟨_, rfl, inv_thr _ (inv_out _ hI0), rfl, fun _ => rfl⟩
      · rw [r_X4_look_10_d _ _ _ _ _ _ _ q]
        simp only [r_X4_look_0, r_X4_look_1, r_X4_look_2, r_X4_look_5, r_X4_look_6, r_X4_look_9, r_X4_look_36, r_X4_look_37, r_X4_look_40, r_X4_look_41, r_X4_look_44, r_X4_look_45, r_X4_look_46, r_X4_look_49, r_X4_look_52, r_X4_look_53, r_X4_look_54, r_X4_look_55, r_X4_look_56, r_X4_look_59, r_X4_look_62, r_X4_look_63, r_X4_look_64, r_X4_look_65, r_X4_look_66, r_X4_look_67, Nat.reduceSub, Nat.reduceLeDiff, true_and, xc_look_3, r_L_look_0, r_L_look_1, r_L_look_2, r_L_look_3, r_L_look_4, r_L_look_5, r_L_look_8, r_L_look_9, r_L_look_10, r_L_look_15, r_L_look_16, r_L_look_19, r_L_look_20, r_L_look_23, r_L_look_24, r_L_look_25, r_L_look_26]
        refine ⟨3, rfl, ?_⟩
        have h5 : (ex_sF σ 500 0).1 505 = nI n := hW.2.1.2.2.1
        have h6 : (ex_sF σ 500 0).1 532 = 1 := g2
        simp only [r_X5_look, r_X5_look_0, r_X5_look_1, r_X5_look_2, r_X5_look_5, r_X5_look_6, r_X5_look_7, r_X5_look_8, r_X5_look_11, r_X5_look_12, r_X5_look_15, r_X5_look_18, r_X5_look_19, r_X5_look_20, r_X5_look_23, r_X5_look_26, r_X5_look_27, r_X5_look_30, r_X5_look_31, r_X5_look_32, r_X5_look_35, r_X5_look_38, r_X5_look_39, r_X5_look_40, r_X5_look_68, r_X5_look_69, r_X5_look_72, r_X5_look_73, r_X5_look_74, r_X5_look_75, r_X5_look_76, r_X5_look_79, r_X5_look_80, r_X5_look_81, r_X5_look_82, r_X5_look_85, r_X5_look_86, r_X5_look_89, r_X5_look_90, r_X5_look_91, r_X5_look_94, r_X5_look_95, r_X5_look_96, r_X5_look_97, r_X5_look_100, r_X5_look_101, r_X5_look_102, r_X5_look_105, r_X5_look_106, r_X5_look_109, r_X5_look_110, r_X5_look_111, r_X5_look_112, r_X5_look_113, r_X5_look_116, r_X5_look_117, c_noWork hn h5 h0, Option.toList, List.cons_append, List.nil_append, c_throwsIf0, if_true, h6, i10, if_false]
        rw [r_X5_look_41_d _ _ _ _ _ _ _ q]
        simp only [r_X5_look_0, r_X5_look_1, r_X5_look_2, r_X5_look_5, r_X5_look_6, r_X5_look_7, r_X5_look_8, r_X5_look_11, r_X5_look_12, r_X5_look_15, r_X5_look_18, r_X5_look_19, r_X5_look_20, r_X5_look_23, r_X5_look_26, r_X5_look_27, r_X5_look_30, r_X5_look_31, r_X5_look_32, r_X5_look_35, r_X5_look_38, r_X5_look_39, r_X5_look_40, r_X5_look_68, r_X5_look_69, r_X5_look_72, r_X5_look_73, r_X5_look_74, r_X5_look_75, r_X5_look_76, r_X5_look_79, r_X5_look_80, r_X5_look_81, r_X5_look_82, r_X5_look_85, r_X5_look_86, r_X5_look_89, r_X5_look_90, r_X5_look_91, r_X5_look_94, r_X5_look_95, r_X5_look_96, r_X5_look_97, r_X5_look_100, r_X5_look_101, r_X5_look_102, r_X5_look_105, r_X5_look_106, r_X5_look_109, r_X5_look_110, r_X5_look_111, r_X5_look_112, r_X5_look_113, r_X5_look_116, r_X5_look_117]
        exact ⟨_, rfl, inv_thr _ (inv_thr _ hI0), rfl, fun q => absurd q (by decide)⟩
  · simp only [r_L_look, r_L_look_0, r_L_look_1, r_L_look_2, r_L_look_3, r_L_look_4, r_L_look_5, r_L_look_8, r_L_look_9, r_L_look_10, r_L_look_15, r_L_look_16, r_L_look_19, r_L_look_20, r_L_look_23, r_L_look_24, r_L_look_25, r_L_look_26, Nat.le_refl, Nat.reduceSub, Nat.reduceLeDiff, true_and, r_X4_look, r_X4_look_0, r_X4_look_1, r_X4_look_2, r_X4_look_5, r_X4_look_6, r_X4_look_9, r_X4_look_36, r_X4_look_37, r_X4_look_40, r_X4_look_41, r_X4_look_44, r_X4_look_45, r_X4_look_46, r_X4_look_49, r_X4_look_52, r_X4_look_53, r_X4_look_54, r_X4_look_55, r_X4_look_56, r_X4_look_59, r_X4_look_62, r_X4_look_63, r_X4_look_64, r_X4_look_65, r_X4_look_66, r_X4_look_67, c_reqWT hn hW.1.2.1 h0, xc_look_1]
    refine ⟨1, rfl, ?_⟩
    have h5 : (ex_sF σ 500 0).1 505 = nI n := hW.2.1.2.2.1
    simp only [r_X5_look, r_X5_look_0, r_X5_look_1, r_X5_look_2, r_X5_look_5, r_X5_look_6, r_X5_look_7, r_X5_look_8, r_X5_look_11, r_X5_look_12, r_X5_look_15, r_X5_look_18, r_X5_look_19, r_X5_look_20, r_X5_look_23, r_X5_look_26, r_X5_look_27, r_X5_look_30, r_X5_look_31, r_X5_look_32, r_X5_look_35, r_X5_look_38, r_X5_look_39, r_X5_look_40, r_X5_look_68, r_X5_look_69, r_X5_look_72, r_X5_look_73, r_X5_look_74, r_X5_look_75, r_X5_look_76, r_X5_look_79, r_X5_look_80, r_X5_look_81, r_X5_look_82, r_X5_look_85, r_X5_look_86, r_X5_look_89, r_X5_look_90, r_X5_look_91, r_X5_look_94, r_X5_look_95, r_X5_look_96, r_X5_look_97, r_X5_look_100, r_X5_look_101, r_X5_look_102, r_X5_look_105, r_X5_look_106, r_X5_look_109, r_X5_look_110, r_X5_look_111, r_X5_look_112, r_X5_look_113, r_X5_look_116, r_X5_look_117, c_noWorkT hn h5 h0, Option.toList, List.cons_append, List.nil_append, c_throwsIf1, i10, if_false]
    exact ⟨0, rfl, inv_thr _ (inv_thr _ hI0), rfl, fun q => absurd q (by decide)⟩
theorem c_mup {st : Nat → Nat} (hn : n ≤ 8) (h : σ.1 505 = nI n) (hs : ∀ k, k < n → σ.2.2.1 55 k = nI (st k) ∧ st k ≤ 2) : ex_r none d ex_m_X5_now E 79 [.ref 5, .int p0, .int 0, .int 0] [] σ 0 = E (.inl (some (.int (nI (mk n (isA 2 st)))))) σ := by
  refine (tl_for (A := fun i => ex_r none d ex_m_X5_now E 79 [.ref 5, .int p0, .int (nI (mk i (isA 2 st))), .int (nI i)] [] σ 0) (n := n) ?_).trans ?_
  · intro i hi R hR
    obtain ⟨y1, y2⟩ := hs i hi
    have e2 : (nI (st i) = 2) = (st i = 2) := tl_eq (b := 2) (by omega) (by decide)
    simp only [r_X5_now_79]
    simp only [r_X5_now_0, r_X5_now_1, r_X5_now_2, r_X5_now_5, r_X5_now_6, r_X5_now_7, r_X5_now_10, r_X5_now_13, r_X5_now_14, r_X5_now_17, r_X5_now_18, r_X5_now_19, r_X5_now_22, r_X5_now_25, r_X5_now_26, r_X5_now_27, r_X5_now_60, r_X5_now_61, r_X5_now_64, r_X5_now_65, r_X5_now_66, r_X5_now_69, r_X5_now_70, r_X5_now_71, r_X5_now_74, r_X5_now_75, r_X5_now_76, r_X5_now_77, r_X5_now_78, r_X5_now_80, r_X5_now_81, r_X5_now_84, r_X5_now_87, r_X5_now_88, r_X5_now_89, r_X5_now_92, r_X5_now_93, r_X5_now_94, r_X5_now_95, r_X5_now_98, r_X5_now_99, r_X5_now_100, r_X5_now_101, r_X5_now_104, r_X5_now_105, r_X5_now_106, r_X5_now_107, r_X5_now_110, r_X5_now_113, r_X5_now_114, r_X5_now_115, r_X5_now_116, r_X5_now_117, r_X5_now_120, r_X5_now_121, h, tl_in (show i < 8 by omega) (show 8 < 2 ^ 31 by omega), tl_cl (show i < 2 ^ 31 by omega), true_and, y1, e2, tl_shl i (by omega), tl_or, nI_1]
    rw [if_neg (nI_ge hi (by omega))]
    subst hR
    have e3 : mk (i + 1) (isA 2 st) = mk i (isA 2 st) ||| (if isA 2 st i = true then 2 ^ i else 0) := rfl
    rw [e3]
    unfold isA
    by_cases q : st i = 2
    · rw [if_pos q, if_pos (decide_eq_true q)]
    · rw [if_neg q, if_neg (fun q2 => q (of_decide_eq_true q2)), Nat.or_zero]
      congr 1
      show [Value.ref 5, Value.int p0, Value.int (nI (mk i (fun k => decide (st k = 2))) ||| nI 0), Value.int (nI (i + 1))] = _
      rw [tl_or, Nat.or_zero]
  · simp only [r_X5_now_79]
    simp only [r_X5_now_0, r_X5_now_1, r_X5_now_2, r_X5_now_5, r_X5_now_6, r_X5_now_7, r_X5_now_10, r_X5_now_13, r_X5_now_14, r_X5_now_17, r_X5_now_18, r_X5_now_19, r_X5_now_22, r_X5_now_25, r_X5_now_26, r_X5_now_27, r_X5_now_60, r_X5_now_61, r_X5_now_64, r_X5_now_65, r_X5_now_66, r_X5_now_69, r_X5_now_70, r_X5_now_71, r_X5_now_74, r_X5_now_75, r_X5_now_76, r_X5_now_77, r_X5_now_78, r_X5_now_80, r_X5_now_81, r_X5_now_84, r_X5_now_87, r_X5_now_88, r_X5_now_89, r_X5_now_92, r_X5_now_93, r_X5_now_94, r_X5_now_95, r_X5_now_98, r_X5_now_99, r_X5_now_100, r_X5_now_101, r_X5_now_104, r_X5_now_105, r_X5_now_106, r_X5_now_107, r_X5_now_110, r_X5_now_113, r_X5_now_114, r_X5_now_115, r_X5_now_116, r_X5_now_117, r_X5_now_120, r_X5_now_121, h, Int32.le_refl, if_true]
theorem p_now (hI : Inv σ) : pr2 (d + 4) 141 [.ref 4, .int p0, .ref 58] 120 [.ref 5, .int p0] σ gd := by
  unfold pr2
  have hI0 := hI
  obtain ⟨⟨n, m, nr, nd, t, h, wt, ha, al, so, hW, hP, hN⟩, s, l, ch, cp, fr, to, hS⟩ := hI
  have hn := hW.1.1
  rcases hN with ⟨g1, g2⟩ | ⟨g1, g2, g3, g4, g5, st, th, hQ⟩
  · simp only [r_L_now, r_L_now_0, r_L_now_1, r_L_now_2, r_L_now_3, r_L_now_4, r_L_now_7, r_L_now_8, r_L_now_9, r_L_now_13, r_L_now_14, r_L_now_16, r_L_now_17, r_L_now_18, r_L_now_19, Nat.le_refl, Nat.reduceSub, Nat.reduceLeDiff, true_and, r_X4_now, r_X4_now_0, r_X4_now_1, r_X4_now_4, r_X4_now_36, r_X4_now_37, r_X4_now_40, r_X4_now_43, r_X4_now_44, r_X4_now_45, r_X4_now_48, r_X4_now_51, r_X4_now_52, r_X4_now_53, r_X4_now_56, r_X4_now_59, r_X4_now_60, r_X4_now_61, r_X4_now_64, r_X4_now_67, r_X4_now_68, Option.toList, List.cons_append, List.nil_append, c_reqNT g1, xc_now_1]
    refine ⟨1, rfl, ?_⟩
    have h6 : (ex_sF σ 500 0).1 532 = 0 := g2
    simp only [r_X5_now, r_X5_now_0, r_X5_now_1, r_X5_now_2, r_X5_now_5, r_X5_now_6, r_X5_now_7, r_X5_now_10, r_X5_now_13, r_X5_now_14, r_X5_now_17, r_X5_now_18, r_X5_now_19, r_X5_now_22, r_X5_now_25, r_X5_now_26, r_X5_now_27, r_X5_now_60, r_X5_now_61, r_X5_now_64, r_X5_now_65, r_X5_now_66, r_X5_now_69, r_X5_now_70, r_X5_now_71, r_X5_now_74, r_X5_now_75, r_X5_now_76, r_X5_now_77, r_X5_now_78, r_X5_now_80, r_X5_now_81, r_X5_now_84, r_X5_now_87, r_X5_now_88, r_X5_now_89, r_X5_now_92, r_X5_now_93, r_X5_now_94, r_X5_now_95, r_X5_now_98, r_X5_now_99, r_X5_now_100, r_X5_now_101, r_X5_now_104, r_X5_now_105, r_X5_now_106, r_X5_now_107, r_X5_now_110, r_X5_now_113, r_X5_now_114, r_X5_now_115, r_X5_now_116, r_X5_now_117, r_X5_now_120, r_X5_now_121, Option.toList, List.cons_append, List.nil_append, if_true, h6, c_throwsIf1, i10, if_false]
    exact ⟨0, rfl, inv_thr _ (inv_thr _ hI0), rfl, fun q => absurd q (by decide)⟩
  · have mgo : ∀ (v : Int64) (F : ex_O → ex_S → Prop), ex_C (d + 4) 120 [.ref 5, .int p0] (ex_sB σ 58 0 v) F = ex_r none (d + 3) ex_m_X5_now F 28 [.ref 5, .int p0, .retAddr 0, .retAddr 0] [.int p0] (ex_sF (ex_sB σ 58 0 v) 500 0) 0 := by
      intro v F
      have h6 : (ex_sF (ex_sB σ 58 0 v) 500 0).1 532 = 1 := g2
      simp only [r_X5_now, r_X5_now_0, r_X5_now_1, r_X5_now_2, r_X5_now_5, r_X5_now_6, r_X5_now_7, r_X5_now_10, r_X5_now_13, r_X5_now_14, r_X5_now_17, r_X5_now_18, r_X5_now_19, r_X5_now_22, r_X5_now_25, r_X5_now_26, r_X5_now_27, r_X5_now_60, r_X5_now_61, r_X5_now_64, r_X5_now_65, r_X5_now_66, r_X5_now_69, r_X5_now_70, r_X5_now_71, r_X5_now_74, r_X5_now_75, r_X5_now_76, r_X5_now_77, r_X5_now_78, r_X5_now_80, r_X5_now_81, r_X5_now_84, r_X5_now_87, r_X5_now_88, r_X5_now_89, r_X5_now_92, r_X5_now_93, r_X5_now_94, r_X5_now_95, r_X5_now_98, r_X5_now_99, r_X5_now_100, r_X5_now_101, r_X5_now_104, r_X5_now_105, r_X5_now_106, r_X5_now_107, r_X5_now_110, r_X5_now_113, r_X5_now_114, r_X5_now_115, r_X5_now_116, r_X5_now_117, r_X5_now_120, r_X5_now_121, Option.toList, List.cons_append, List.nil_append, c_throwsIf0, if_true, h6, i10, if_false]
    simp only [r_L_now, r_L_now_0, r_L_now_1, r_L_now_2, r_L_now_3, r_L_now_4, r_L_now_7, r_L_now_8, r_L_now_9, r_L_now_13, r_L_now_14, r_L_now_16, r_L_now_17, r_L_now_18, r_L_now_19, Nat.le_refl, Nat.reduceSub, Nat.reduceLeDiff, true_and, r_X4_now, r_X4_now_0, r_X4_now_1, r_X4_now_4, r_X4_now_36, r_X4_now_37, r_X4_now_40, r_X4_now_43, r_X4_now_44, r_X4_now_45, r_X4_now_48, r_X4_now_51, r_X4_now_52, r_X4_now_53, r_X4_now_56, r_X4_now_59, r_X4_now_60, r_X4_now_61, r_X4_now_64, r_X4_now_67, r_X4_now_68, Option.toList, List.cons_append, List.nil_append, c_reqN g1]
    rcases sw_k p0 3 (by decide) with ⟨k, hk, e⟩ | q
    · subst e
      rcases (show k = 0 ∨ k = 1 ∨ k = 2 ∨ k = 3 by omega) with e | e | e | e
      · subst e
        simp only [show nI 0 = (0 : Int32) from rfl] at mgo ⊢
        simp only [r_X4_now_0, r_X4_now_1, r_X4_now_4, r_X4_now_5_0, r_X4_now_5_1, r_X4_now_5_2, r_X4_now_5_3, r_X4_now_36, r_X4_now_37, r_X4_now_40, r_X4_now_43, r_X4_now_44, r_X4_now_45, r_X4_now_48, r_X4_now_51, r_X4_now_52, r_X4_now_53, r_X4_now_56, r_X4_now_59, r_X4_now_60, r_X4_now_61, r_X4_now_64, r_X4_now_67, r_X4_now_68, r_L_now_0, r_L_now_1, r_L_now_2, r_L_now_3, r_L_now_4, r_L_now_7, r_L_now_8, r_L_now_9, r_L_now_13, r_L_now_14, r_L_now_16, r_L_now_17, r_L_now_18, r_L_now_19, Option.toList, List.cons_append, List.nil_append, v01, cl0, true_and]
        refine ⟨0, rfl, ?_⟩
        rw [mgo]
        simp only [r_X5_now_0, r_X5_now_1, r_X5_now_2, r_X5_now_5, r_X5_now_6, r_X5_now_7, r_X5_now_10, r_X5_now_13, r_X5_now_14, r_X5_now_17, r_X5_now_18, r_X5_now_19, r_X5_now_22, r_X5_now_25, r_X5_now_26, r_X5_now_27, r_X5_now_28_0, r_X5_now_28_1, r_X5_now_28_2, r_X5_now_28_3, r_X5_now_60, r_X5_now_61, r_X5_now_64, r_X5_now_65, r_X5_now_66, r_X5_now_69, r_X5_now_70, r_X5_now_71, r_X5_now_74, r_X5_now_75, r_X5_now_76, r_X5_now_77, r_X5_now_78, r_X5_now_80, r_X5_now_81, r_X5_now_84, r_X5_now_87, r_X5_now_88, r_X5_now_89, r_X5_now_92, r_X5_now_93, r_X5_now_94, r_X5_now_95, r_X5_now_98, r_X5_now_99, r_X5_now_100, r_X5_now_101, r_X5_now_104, r_X5_now_105, r_X5_now_106, r_X5_now_107, r_X5_now_110, r_X5_now_113, r_X5_now_114, r_X5_now_115, r_X5_now_116, r_X5_now_117, r_X5_now_120, r_X5_now_121]
        refine ⟨_, rfl, inv_thr _ (inv_out _ hI0), rfl, fun _ => ?_⟩
        show (σ.1 4).toInt64 = (σ.1 534).toInt64
        rw [g4]
      · subst e
        simp only [show nI 1 = (1 : Int32) from rfl] at mgo ⊢
        simp only [r_X4_now_0, r_X4_now_1, r_X4_now_4, r_X4_now_5_0, r_X4_now_5_1, r_X4_now_5_2, r_X4_now_5_3, r_X4_now_36, r_X4_now_37, r_X4_now_40, r_X4_now_43, r_X4_now_44, r_X4_now_45, r_X4_now_48, r_X4_now_51, r_X4_now_52, r_X4_now_53, r_X4_now_56, r_X4_now_59, r_X4_now_60, r_X4_now_61, r_X4_now_64, r_X4_now_67, r_X4_now_68]
        rw [c_freeHands hn hW.1.2.1]
        simp only [Option.toList, List.cons_append, List.nil_append, r_X4_now_0, r_X4_now_1, r_X4_now_4, r_X4_now_5_0, r_X4_now_5_1, r_X4_now_5_2, r_X4_now_5_3, r_X4_now_36, r_X4_now_37, r_X4_now_40, r_X4_now_43, r_X4_now_44, r_X4_now_45, r_X4_now_48, r_X4_now_51, r_X4_now_52, r_X4_now_53, r_X4_now_56, r_X4_now_59, r_X4_now_60, r_X4_now_61, r_X4_now_64, r_X4_now_67, r_X4_now_68, r_L_now_0, r_L_now_1, r_L_now_2, r_L_now_3, r_L_now_4, r_L_now_7, r_L_now_8, r_L_now_9, r_L_now_13, r_L_now_14, r_L_now_16, r_L_now_17, r_L_now_18, r_L_now_19, v01, cl0, true_and]
        refine ⟨0, rfl, ?_⟩
        rw [mgo]
        simp only [r_X5_now_0, r_X5_now_1, r_X5_now_2, r_X5_now_5, r_X5_now_6, r_X5_now_7, r_X5_now_10, r_X5_now_13, r_X5_now_14, r_X5_now_17, r_X5_now_18, r_X5_now_19, r_X5_now_22, r_X5_now_25, r_X5_now_26, r_X5_now_27, r_X5_now_28_0, r_X5_now_28_1, r_X5_now_28_2, r_X5_now_28_3, r_X5_now_60, r_X5_now_61, r_X5_now_64, r_X5_now_65, r_X5_now_66, r_X5_now_69, r_X5_now_70, r_X5_now_71, r_X5_now_74, r_X5_now_75, r_X5_now_76, r_X5_now_77, r_X5_now_78, r_X5_now_80, r_X5_now_81, r_X5_now_84, r_X5_now_87, r_X5_now_88, r_X5_now_89, r_X5_now_92, r_X5_now_93, r_X5_now_94, r_X5_now_95, r_X5_now_98, r_X5_now_99, r_X5_now_100, r_X5_now_101, r_X5_now_104, r_X5_now_105, r_X5_now_106, r_X5_now_107, r_X5_now_110, r_X5_now_113, r_X5_now_114, r_X5_now_115, r_X5_now_116, r_X5_now_117, r_X5_now_120, r_X5_now_121]
        rw [c_mfree (σ := ex_sF (ex_sB σ 58 0 (nt_fh (σ.2.2.1 28) (σ.1 3) (tb (σ.1 7)) n).toInt64) 500 0) hn hW.2.1.2.2.1]
        simp only [Option.toList, List.cons_append, List.nil_append, r_X5_now_0, r_X5_now_1, r_X5_now_2, r_X5_now_5, r_X5_now_6, r_X5_now_7, r_X5_now_10, r_X5_now_13, r_X5_now_14, r_X5_now_17, r_X5_now_18, r_X5_now_19, r_X5_now_22, r_X5_now_25, r_X5_now_26, r_X5_now_27, r_X5_now_28_0, r_X5_now_28_1, r_X5_now_28_2, r_X5_now_28_3, r_X5_now_60, r_X5_now_61, r_X5_now_64, r_X5_now_65, r_X5_now_66, r_X5_now_69, r_X5_now_70, r_X5_now_71, r_X5_now_74, r_X5_now_75, r_X5_now_76, r_X5_now_77, r_X5_now_78, r_X5_now_80, r_X5_now_81, r_X5_now_84, r_X5_now_87, r_X5_now_88, r_X5_now_89, r_X5_now_92, r_X5_now_93, r_X5_now_94, r_X5_now_95, r_X5_now_98, r_X5_now_99, r_X5_now_100, r_X5_now_101, r_X5_now_104, r_X5_now_105, r_X5_now_106, r_X5_now_107, r_X5_now_110, r_X5_now_113, r_X5_now_114, r_X5_now_115, r_X5_now_116, r_X5_now_117, r_X5_now_120, r_X5_now_121]
        refine ⟨_, rfl, inv_thr _ (inv_out _ hI0), rfl, fun _ => ?_⟩
        show (nt_fh (σ.2.2.1 28) (σ.1 3) (tb (σ.1 7)) n).toInt64 = (nt_fh (σ.2.2.1 34) (σ.1 533) (is1 (σ.2.2.1 55)) n).toInt64
        congr 1
        rw [g3]
        apply nt_fh_congr
        intro k hk2
        refine ⟨by rw [(hW.2.2.2.2.1 k hk2).2.1, (hW.2.2.2.2.2.1 k hk2).2.1], ?_⟩
        rw [hQ.2.1, mk_tb hn hk2]
        unfold isA is1
        have := iQ_is hn hQ 1 (by decide) k hk2
        by_cases q : st k = 1
        · have := this.mpr q
          rw [show nI 1 = (1 : Int32) from rfl] at this
          simp [q, this]
        · have q2 : ¬ σ.2.2.1 55 k = 1 := fun q3 => q (this.mp q3)
          simp [q, q2]
      · subst e
        simp only [show nI 2 = (2 : Int32) from rfl] at mgo ⊢
        simp only [r_X4_now_0, r_X4_now_1, r_X4_now_4, r_X4_now_5_0, r_X4_now_5_1, r_X4_now_5_2, r_X4_now_5_3, r_X4_now_36, r_X4_now_37, r_X4_now_40, r_X4_now_43, r_X4_now_44, r_X4_now_45, r_X4_now_48, r_X4_now_51, r_X4_now_52, r_X4_now_53, r_X4_now_56, r_X4_now_59, r_X4_now_60, r_X4_now_61, r_X4_now_64, r_X4_now_67, r_X4_now_68, r_L_now_0, r_L_now_1, r_L_now_2, r_L_now_3, r_L_now_4, r_L_now_7, r_L_now_8, r_L_now_9, r_L_now_13, r_L_now_14, r_L_now_16, r_L_now_17, r_L_now_18, r_L_now_19, Option.toList, List.cons_append, List.nil_append, v01, cl0, true_and]
        refine ⟨0, rfl, ?_⟩
        rw [mgo]
        simp only [r_X5_now_0, r_X5_now_1, r_X5_now_2, r_X5_now_5, r_X5_now_6, r_X5_now_7, r_X5_now_10, r_X5_now_13, r_X5_now_14, r_X5_now_17, r_X5_now_18, r_X5_now_19, r_X5_now_22, r_X5_now_25, r_X5_now_26, r_X5_now_27, r_X5_now_28_0, r_X5_now_28_1, r_X5_now_28_2, r_X5_now_28_3, r_X5_now_60, r_X5_now_61, r_X5_now_64, r_X5_now_65, r_X5_now_66, r_X5_now_69, r_X5_now_70, r_X5_now_71, r_X5_now_74, r_X5_now_75, r_X5_now_76, r_X5_now_77, r_X5_now_78, r_X5_now_80, r_X5_now_81, r_X5_now_84, r_X5_now_87, r_X5_now_88, r_X5_now_89, r_X5_now_92, r_X5_now_93, r_X5_now_94, r_X5_now_95, r_X5_now_98, r_X5_now_99, r_X5_now_100, r_X5_now_101, r_X5_now_104, r_X5_now_105, r_X5_now_106, r_X5_now_107, r_X5_now_110, r_X5_now_113, r_X5_now_114, r_X5_now_115, r_X5_now_116, r_X5_now_117, r_X5_now_120, r_X5_now_121]
        refine ⟨_, rfl, inv_thr _ (inv_out _ hI0), rfl, fun _ => ?_⟩
        show (σ.1 5).toInt64 = (σ.1 535).toInt64
        rw [g5]
      · subst e
        simp only [show nI 3 = (3 : Int32) from rfl] at mgo ⊢
        simp only [r_X4_now_0, r_X4_now_1, r_X4_now_4, r_X4_now_5_0, r_X4_now_5_1, r_X4_now_5_2, r_X4_now_5_3, r_X4_now_36, r_X4_now_37, r_X4_now_40, r_X4_now_43, r_X4_now_44, r_X4_now_45, r_X4_now_48, r_X4_now_51, r_X4_now_52, r_X4_now_53, r_X4_now_56, r_X4_now_59, r_X4_now_60, r_X4_now_61, r_X4_now_64, r_X4_now_67, r_X4_now_68, r_L_now_0, r_L_now_1, r_L_now_2, r_L_now_3, r_L_now_4, r_L_now_7, r_L_now_8, r_L_now_9, r_L_now_13, r_L_now_14, r_L_now_16, r_L_now_17, r_L_now_18, r_L_now_19, Option.toList, List.cons_append, List.nil_append, v01, cl0, true_and]
        refine ⟨0, rfl, ?_⟩
        rw [mgo]
        simp only [r_X5_now_0, r_X5_now_1, r_X5_now_2, r_X5_now_5, r_X5_now_6, r_X5_now_7, r_X5_now_10, r_X5_now_13, r_X5_now_14, r_X5_now_17, r_X5_now_18, r_X5_now_19, r_X5_now_22, r_X5_now_25, r_X5_now_26, r_X5_now_27, r_X5_now_28_0, r_X5_now_28_1, r_X5_now_28_2, r_X5_now_28_3, r_X5_now_60, r_X5_now_61, r_X5_now_64, r_X5_now_65, r_X5_now_66, r_X5_now_69, r_X5_now_70, r_X5_now_71, r_X5_now_74, r_X5_now_75, r_X5_now_76, r_X5_now_77, r_X5_now_78, r_X5_now_80, r_X5_now_81, r_X5_now_84, r_X5_now_87, r_X5_now_88, r_X5_now_89, r_X5_now_92, r_X5_now_93, r_X5_now_94, r_X5_now_95, r_X5_now_98, r_X5_now_99, r_X5_now_100, r_X5_now_101, r_X5_now_104, r_X5_now_105, r_X5_now_106, r_X5_now_107, r_X5_now_110, r_X5_now_113, r_X5_now_114, r_X5_now_115, r_X5_now_116, r_X5_now_117, r_X5_now_120, r_X5_now_121]
        rw [c_mup (σ := ex_sF (ex_sB σ 58 0 (σ.1 6).toInt64) 500 0) (n := n) (st := st) hn hW.2.1.2.2.1 (fun k hk2 => ⟨(hQ.2.2.2 k hk2).1, (hQ.2.2.2 k hk2).2.1⟩)]
        refine ⟨_, rfl, inv_thr _ (inv_out _ hI0), rfl, fun _ => ?_⟩
        show (σ.1 6).toInt64 = (nI (mk n (isA 2 st))).toInt64
        rw [hQ.1]
    · rw [r_X4_now_5_d _ _ _ _ _ _ q]
      simp only [r_X4_now_0, r_X4_now_1, r_X4_now_4, r_X4_now_36, r_X4_now_37, r_X4_now_40, r_X4_now_43, r_X4_now_44, r_X4_now_45, r_X4_now_48, r_X4_now_51, r_X4_now_52, r_X4_now_53, r_X4_now_56, r_X4_now_59, r_X4_now_60, r_X4_now_61, r_X4_now_64, r_X4_now_67, r_X4_now_68, Nat.reduceSub, Nat.reduceLeDiff, true_and, xc_now_2, r_L_now_0, r_L_now_1, r_L_now_2, r_L_now_3, r_L_now_4, r_L_now_7, r_L_now_8, r_L_now_9, r_L_now_13, r_L_now_14, r_L_now_16, r_L_now_17, r_L_now_18, r_L_now_19]
      refine ⟨2, rfl, ?_⟩
      have h6 : (ex_sF σ 500 0).1 532 = 1 := g2
      simp only [r_X5_now, r_X5_now_0, r_X5_now_1, r_X5_now_2, r_X5_now_5, r_X5_now_6, r_X5_now_7, r_X5_now_10, r_X5_now_13, r_X5_now_14, r_X5_now_17, r_X5_now_18, r_X5_now_19, r_X5_now_22, r_X5_now_25, r_X5_now_26, r_X5_now_27, r_X5_now_60, r_X5_now_61, r_X5_now_64, r_X5_now_65, r_X5_now_66, r_X5_now_69, r_X5_now_70, r_X5_now_71, r_X5_now_74, r_X5_now_75, r_X5_now_76, r_X5_now_77, r_X5_now_78, r_X5_now_80, r_X5_now_81, r_X5_now_84, r_X5_now_87, r_X5_now_88, r_X5_now_89, r_X5_now_92, r_X5_now_93, r_X5_now_94, r_X5_now_95, r_X5_now_98, r_X5_now_99, r_X5_now_100, r_X5_now_101, r_X5_now_104, r_X5_now_105, r_X5_now_106, r_X5_now_107, r_X5_now_110, r_X5_now_113, r_X5_now_114, r_X5_now_115, r_X5_now_116, r_X5_now_117, r_X5_now_120, r_X5_now_121, Option.toList, List.cons_append, List.nil_append, c_throwsIf0, if_true, h6, i10, if_false]
      rw [r_X5_now_28_d _ _ _ _ _ _ q]
      simp only [r_X5_now_0, r_X5_now_1, r_X5_now_2, r_X5_now_5, r_X5_now_6, r_X5_now_7, r_X5_now_10, r_X5_now_13, r_X5_now_14, r_X5_now_17, r_X5_now_18, r_X5_now_19, r_X5_now_22, r_X5_now_25, r_X5_now_26, r_X5_now_27, r_X5_now_60, r_X5_now_61, r_X5_now_64, r_X5_now_65, r_X5_now_66, r_X5_now_69, r_X5_now_70, r_X5_now_71, r_X5_now_74, r_X5_now_75, r_X5_now_76, r_X5_now_77, r_X5_now_78, r_X5_now_80, r_X5_now_81, r_X5_now_84, r_X5_now_87, r_X5_now_88, r_X5_now_89, r_X5_now_92, r_X5_now_93, r_X5_now_94, r_X5_now_95, r_X5_now_98, r_X5_now_99, r_X5_now_100, r_X5_now_101, r_X5_now_104, r_X5_now_105, r_X5_now_106, r_X5_now_107, r_X5_now_110, r_X5_now_113, r_X5_now_114, r_X5_now_115, r_X5_now_116, r_X5_now_117, r_X5_now_120, r_X5_now_121]
      exact ⟨_, rfl, inv_thr _ (inv_thr _ hI0), rfl, fun q => absurd q (by decide)⟩
end OJ
