/-! ===== tick, blow ===== -/
section OK
variable {d n : Nat} {E : ex_O → ex_S → Prop} {σ : ex_S} {p0 p1 : Int32}
theorem tk_a_c2 {wt wu : Nat → Int32} {st su : Nat → Nat} {a : Int32} : ∀ {n : Nat}, (∀ k, k < n → wt k = wu k ∧ st k = su k) → tk_a wt st a n = tk_a wu su a n
  | 0, _ => rfl
  | n + 1, h => by rw [tk_a, tk_a, tk_a_c2 (fun k hk => h k (by omega)), (h n (by omega)).1, (h n (by omega)).2]
theorem tk_rel {wt wu : Nat → Int32} {a : Int32} {st : Nat → Nat} {g g2 : Nat → Int32} (hwt : ∀ k, k < n → wt k = wu k) (hg : ∀ k, k < n → (st k = 1 → g k = g2 k) ∧ (st k ≠ 1 → g k = 0) ∧ st k ≤ 2) : ∀ i, (tkN n wt (a, st, g) i).1 = (tkN n wu (a, st, g2) i).1 ∧ ∀ k, k < n → (tkN n wt (a, st, g) i).2.1 k = (tkN n wu (a, st, g2) i).2.1 k ∧ ((tkN n wt (a, st, g) i).2.1 k = 1 → (tkN n wt (a, st, g) i).2.2 k = (tkN n wu (a, st, g2) i).2.2 k) ∧ ((tkN n wt (a, st, g) i).2.1 k ≠ 1 → (tkN n wt (a, st, g) i).2.2 k = 0) ∧ ((tkN n wt (a, st, g) i).2.1 k = 0 ↔ st k = 0) ∧ (tkN n wt (a, st, g) i).2.1 k ≤ 2
  | 0 => ⟨rfl, fun k hk => ⟨rfl, (hg k hk).1, (hg k hk).2.1, Iff.rfl, (hg k hk).2.2⟩⟩
  | i + 1 => by
    obtain ⟨h1, h2⟩ := tk_rel hwt hg (a := a) i
    rw [tkN, tkN]
    generalize tkN n wt (a, st, g) i = P at h1 h2 ⊢
    generalize tkN n wu (a, st, g2) i = Q at h1 h2 ⊢
    unfold tk1
    simp only
    refine ⟨?_, fun k hk => ?_⟩
    · rw [h1]
      exact tk_a_c2 (fun k hk => ⟨hwt k hk, (h2 k hk).1⟩)
    · obtain ⟨y1, y2, y3, y4, y5⟩ := h2 k hk
      unfold tk_s tk_g
      rw [← y1]
      by_cases q : P.2.1 k = 1
      · have e := y2 q
        rw [← e]
        by_cases q2 : P.2.2 k - 1 = 0
        · simp only [if_pos (show k < n ∧ P.2.1 k = 1 ∧ P.2.2 k - 1 = 0 from ⟨hk, q, q2⟩), if_pos (show k < n ∧ P.2.1 k = 1 from ⟨hk, q⟩)]
          refine ⟨trivial, fun _ => trivial, fun _ => q2, ?_, by decide⟩
          rw [← y4, q]
          constructor <;> intro q3 <;> omega
        · simp only [if_neg (show ¬ (k < n ∧ P.2.1 k = 1 ∧ P.2.2 k - 1 = 0) from fun q3 => q2 q3.2.2), if_pos (show k < n ∧ P.2.1 k = 1 from ⟨hk, q⟩)]
          exact ⟨trivial, fun _ => trivial, fun q3 => absurd q q3, y4, y5⟩
      · have n1 : ∀ X : Prop, ¬ (k < n ∧ P.2.1 k = 1 ∧ X) := fun X q3 => q q3.2.1
        have n2 : ¬ (k < n ∧ P.2.1 k = 1) := fun q3 => q q3.2
        simp only [if_neg (n1 _), if_neg n2]
        exact ⟨trivial, y2, y3, y4, y5⟩
theorem p_tick (hI : Inv σ) : pr2 (d + 4) 137 [.ref 4, .int p0, .ref 58] 115 [.ref 5, .int p0] σ gd := by
  unfold pr2
  have hI0 := hI
  obtain ⟨⟨n, m, nr, nd, t, h, wt, ha, al, so, hW, hP, hN⟩, s, l, ch, cp, fr, to, hS⟩ := hI
  have hn := hW.1.1
  rcases hN with ⟨g1, g2⟩ | ⟨g1, g2, g3, g4, g5, st, th, hQ⟩
  · simp only [r_L_tick, r_L_tick_0, r_L_tick_1, r_L_tick_2, r_L_tick_3, r_L_tick_4, r_L_tick_7, r_L_tick_8, r_L_tick_9, r_L_tick_13, r_L_tick_14, r_L_tick_16, r_L_tick_17, r_L_tick_18, r_L_tick_19, Nat.le_refl, Nat.reduceSub, Nat.reduceLeDiff, true_and, r_X4_tick, r_X4_tick_0, r_X4_tick_1, r_X4_tick_4, r_X4_tick_5, r_X4_tick_6, r_X4_tick_8, r_X4_tick_11, r_X4_tick_14, r_X4_tick_24, r_X4_tick_25, r_X4_tick_28, r_X4_tick_29, r_X4_tick_32, c_reqNT g1, xc_tick_1]
    refine ⟨1, rfl, ?_⟩
    have h6 : (ex_sF σ 500 0).1 532 = 0 := g2
    simp only [r_X5_tick, r_X5_tick_0, r_X5_tick_1, r_X5_tick_2, r_X5_tick_5, r_X5_tick_6, r_X5_tick_7, r_X5_tick_10, r_X5_tick_13, r_X5_tick_14, r_X5_tick_17, r_X5_tick_18, r_X5_tick_19, r_X5_tick_22, r_X5_tick_25, r_X5_tick_26, r_X5_tick_27, r_X5_tick_28, r_X5_tick_30, r_X5_tick_33, r_X5_tick_36, r_X5_tick_37, r_X5_tick_40, r_X5_tick_41, r_X5_tick_42, r_X5_tick_45, r_X5_tick_48, r_X5_tick_49, r_X5_tick_50, r_X5_tick_51, r_X5_tick_53, r_X5_tick_54, r_X5_tick_57, r_X5_tick_58, r_X5_tick_60, r_X5_tick_61, r_X5_tick_64, r_X5_tick_67, r_X5_tick_68, r_X5_tick_69, r_X5_tick_72, r_X5_tick_73, r_X5_tick_76, r_X5_tick_77, r_X5_tick_78, r_X5_tick_79, r_X5_tick_82, r_X5_tick_83, r_X5_tick_86, r_X5_tick_87, r_X5_tick_90, r_X5_tick_91, r_X5_tick_92, r_X5_tick_93, r_X5_tick_96, r_X5_tick_99, r_X5_tick_102, r_X5_tick_103, r_X5_tick_104, r_X5_tick_106, r_X5_tick_109, r_X5_tick_112, r_X5_tick_113, r_X5_tick_116, r_X5_tick_117, r_X5_tick_118, r_X5_tick_119, r_X5_tick_122, r_X5_tick_125, r_X5_tick_126, r_X5_tick_129, r_X5_tick_130, r_X5_tick_131, r_X5_tick_132, r_X5_tick_133, r_X5_tick_134, r_X5_tick_135, r_X5_tick_136, r_X5_tick_139, r_X5_tick_140, r_X5_tick_141, r_X5_tick_144, r_X5_tick_145, r_X5_tick_148, r_X5_tick_149, r_X5_tick_150, r_X5_tick_151, r_X5_tick_154, r_X5_tick_157, r_X5_tick_158, r_X5_tick_159, r_X5_tick_162, r_X5_tick_163, r_X5_tick_164, r_X5_tick_167, r_X5_tick_170, r_X5_tick_173, r_X5_tick_174, r_X5_tick_177, h6, if_true, Option.toList, List.cons_append, List.nil_append, c_throwsIf1, i10, if_false]
    exact ⟨0, rfl, inv_thr _ (inv_thr _ hI0), rfl, fun q => absurd q (by decide)⟩
  · by_cases hv : (0 : Int32) ≤ p0 ∧ p0 ≤ 100
    · obtain ⟨N, e0, _, hN100⟩ := rng (a := 0) (b := 100) (by decide) (by decide) hv.1 hv.2
      subst e0
      simp only [r_L_tick, r_L_tick_0, r_L_tick_1, r_L_tick_2, r_L_tick_3, r_L_tick_4, r_L_tick_7, r_L_tick_8, r_L_tick_9, r_L_tick_13, r_L_tick_14, r_L_tick_16, r_L_tick_17, r_L_tick_18, r_L_tick_19, Nat.le_refl, Nat.reduceSub, Nat.reduceLeDiff, true_and, r_X4_tick, r_X4_tick_0, r_X4_tick_1, r_X4_tick_4, r_X4_tick_5, r_X4_tick_6, r_X4_tick_8, r_X4_tick_11, r_X4_tick_14, r_X4_tick_24, r_X4_tick_25, r_X4_tick_28, r_X4_tick_29, r_X4_tick_32, c_reqN g1, Option.toList, List.cons_append, List.nil_append, c_within, if_pos hv, i10, if_false]
      have e1 : nk σ (σ.1 4) (σ.1 5) (nI (mk n (isA 2 st))) (nI (mk n (isA 1 st))) (σ.2.2.1 6) = σ := by
        rw [← hQ.1, ← hQ.2.1]
        exact nk_self σ
      have hps := fun E => c_pass (d := d) (E := E) (σ := σ) (n := n) (N := N) (c := σ.1 4) (p := (σ.1 5, st, σ.2.2.1 6)) hn hW.1.2.1 hN100
      simp only [e1] at hps
      rw [hps]
      have hrel := tk_rel (n := n) (wt := σ.2.2.1 29) (wu := σ.2.2.1 35) (a := σ.1 5) (st := st) (g := σ.2.2.1 6) (g2 := σ.2.2.1 56) (fun k hk => by rw [(hW.2.2.2.2.1 k hk).2.2.1, (hW.2.2.2.2.2.1 k hk).2.2.1]) (fun k hk => ⟨(hQ.2.2.2 k hk).2.2.2.2.1, (hQ.2.2.2 k hk).2.2.2.2.2, (hQ.2.2.2 k hk).2.1⟩) N
      generalize hPc : tkN n (σ.2.2.1 29) (σ.1 5, st, σ.2.2.1 6) N = P at hrel
      simp only [Option.toList, List.cons_append, List.nil_append, r_X4_tick_0, r_X4_tick_1, r_X4_tick_4, r_X4_tick_5, r_X4_tick_6, r_X4_tick_8, r_X4_tick_11, r_X4_tick_14, r_X4_tick_24, r_X4_tick_25, r_X4_tick_28, r_X4_tick_29, r_X4_tick_32, r_L_tick_0, r_L_tick_1, r_L_tick_2, r_L_tick_3, r_L_tick_4, r_L_tick_7, r_L_tick_8, r_L_tick_9, r_L_tick_13, r_L_tick_14, r_L_tick_16, r_L_tick_17, r_L_tick_18, r_L_tick_19, v01, cl0, true_and]
      refine ⟨0, rfl, ?_⟩
      generalize hτ : ex_sB (nk σ (σ.1 4 + nI N) P.1 (nI (mk n (isA 2 P.2.1))) (nI (mk n (isA 1 P.2.1))) P.2.2) 58 0 (σ.1 4 + nI N).toInt64 = τ
      have t505 : τ.1 505 = nI n := by rw [← hτ]; exact hW.2.1.2.2.1
      have t532 : τ.1 532 = 1 := by rw [← hτ]; exact g2
      have t534 : τ.1 534 = σ.1 4 := by rw [← hτ]; exact g4
      have t535 : τ.1 535 = σ.1 5 := by rw [← hτ]; exact g5
      have t35 : τ.2.2.1 35 = σ.2.2.1 35 := by rw [← hτ]; rfl
      have t55 : τ.2.2.1 55 = σ.2.2.1 55 := by rw [← hτ]; rfl
      have t56 : τ.2.2.1 56 = σ.2.2.1 56 := by rw [← hτ]; rfl
      have e2 : mn τ (σ.1 4) (σ.1 5) (isf (σ.2.2.1 55) st n) (σ.2.2.1 56) = τ := by
        have e3 : isf (σ.2.2.1 55) st n = σ.2.2.1 55 := by
          funext k
          unfold isf
          by_cases q : k < n
          · rw [if_pos q, (hQ.2.2.2 k q).1]
          · rw [if_neg q]
        rw [e3, ← t534, ← t535, ← t55, ← t56]
        exact mn_self τ
      have hmt := fun E => c_mtick (d := d + 2) (E := E) (σ := τ) (n := n) (N := N) (c := σ.1 4) (f := σ.2.2.1 55) (p := (σ.1 5, st, σ.2.2.1 56)) hn t505 t532 hN100 (fun k hk => (hQ.2.2.2 k hk).2.1)
      simp only [e2, t35] at hmt
      rw [hmt]
      generalize hPm : tkN n (σ.2.2.1 35) (σ.1 5, st, σ.2.2.1 56) N = Q at hrel
      refine ⟨_, rfl, ⟨⟨n, m, nr, nd, t, h, wt, ha, al, so, ?_, ?_, Or.inr ⟨?_, ?_, ?_, ?_, ?_, P.2.1, th, ?_, ?_, ?_, fun k hk => ?_⟩⟩, s, l, ch, cp, fr, to, ?_⟩, rfl, fun _ => ?_⟩
      · rw [← hτ]; exact hW
      · rw [← hτ]; exact hP
      · rw [← hτ]; exact g1
      · rw [← hτ]; exact g2
      · rw [← hτ]; exact g3
      · rw [← hτ]; rfl
      · rw [← hτ]; exact hrel.1.symm
      · rw [← hτ]; rfl
      · rw [← hτ]; rfl
      · rw [← hτ]; exact hQ.2.2.1
      · obtain ⟨y1, y2, y3, y4, y5⟩ := hrel.2 k hk
        have u55 : (mn (ex_sF τ 500 0) (σ.1 4 + nI N) Q.1 (isf (σ.2.2.1 55) Q.2.1 n) Q.2.2).2.2.1 55 k = nI (Q.2.1 k) := by
          show isf (σ.2.2.1 55) Q.2.1 n k = nI (Q.2.1 k)
          unfold isf
          rw [if_pos hk]
        have u57 : (mn (ex_sF τ 500 0) (σ.1 4 + nI N) Q.1 (isf (σ.2.2.1 55) Q.2.1 n) Q.2.2).2.2.1 57 k = σ.2.2.1 57 k := by rw [← hτ]; rfl
        have u6 : (mn (ex_sF τ 500 0) (σ.1 4 + nI N) Q.1 (isf (σ.2.2.1 55) Q.2.1 n) Q.2.2).2.2.1 6 k = P.2.2 k := by rw [← hτ]; rfl
        have u56 : (mn (ex_sF τ 500 0) (σ.1 4 + nI N) Q.1 (isf (σ.2.2.1 55) Q.2.1 n) Q.2.2).2.2.1 56 k = Q.2.2 k := rfl
        rw [u55, u57, u6, u56, ← y1]
        exact ⟨rfl, y5, (hQ.2.2.2 k hk).2.2.1, fun q q2 => (hQ.2.2.2 k hk).2.2.2.1 q (y4.mp q2), y2, y3⟩
      · rw [← hτ]; exact hS
      · rw [← hτ]; rfl
    · simp only [r_L_tick, r_L_tick_0, r_L_tick_1, r_L_tick_2, r_L_tick_3, r_L_tick_4, r_L_tick_7, r_L_tick_8, r_L_tick_9, r_L_tick_13, r_L_tick_14, r_L_tick_16, r_L_tick_17, r_L_tick_18, r_L_tick_19, Nat.le_refl, Nat.reduceSub, Nat.reduceLeDiff, true_and, r_X4_tick, r_X4_tick_0, r_X4_tick_1, r_X4_tick_4, r_X4_tick_5, r_X4_tick_6, r_X4_tick_8, r_X4_tick_11, r_X4_tick_14, r_X4_tick_24, r_X4_tick_25, r_X4_tick_28, r_X4_tick_29, r_X4_tick_32, c_reqN g1, Option.toList, List.cons_append, List.nil_append, c_within, if_neg hv, if_true, xc_tick_2]
      refine ⟨2, rfl, ?_⟩
      have h6 : (ex_sF σ 500 0).1 532 = 1 := g2
      simp only [r_X5_tick, r_X5_tick_0, r_X5_tick_1, r_X5_tick_2, r_X5_tick_5, r_X5_tick_6, r_X5_tick_7, r_X5_tick_10, r_X5_tick_13, r_X5_tick_14, r_X5_tick_17, r_X5_tick_18, r_X5_tick_19, r_X5_tick_22, r_X5_tick_25, r_X5_tick_26, r_X5_tick_27, r_X5_tick_28, r_X5_tick_30, r_X5_tick_33, r_X5_tick_36, r_X5_tick_37, r_X5_tick_40, r_X5_tick_41, r_X5_tick_42, r_X5_tick_45, r_X5_tick_48, r_X5_tick_49, r_X5_tick_50, r_X5_tick_51, r_X5_tick_53, r_X5_tick_54, r_X5_tick_57, r_X5_tick_58, r_X5_tick_60, r_X5_tick_61, r_X5_tick_64, r_X5_tick_67, r_X5_tick_68, r_X5_tick_69, r_X5_tick_72, r_X5_tick_73, r_X5_tick_76, r_X5_tick_77, r_X5_tick_78, r_X5_tick_79, r_X5_tick_82, r_X5_tick_83, r_X5_tick_86, r_X5_tick_87, r_X5_tick_90, r_X5_tick_91, r_X5_tick_92, r_X5_tick_93, r_X5_tick_96, r_X5_tick_99, r_X5_tick_102, r_X5_tick_103, r_X5_tick_104, r_X5_tick_106, r_X5_tick_109, r_X5_tick_112, r_X5_tick_113, r_X5_tick_116, r_X5_tick_117, r_X5_tick_118, r_X5_tick_119, r_X5_tick_122, r_X5_tick_125, r_X5_tick_126, r_X5_tick_129, r_X5_tick_130, r_X5_tick_131, r_X5_tick_132, r_X5_tick_133, r_X5_tick_134, r_X5_tick_135, r_X5_tick_136, r_X5_tick_139, r_X5_tick_140, r_X5_tick_141, r_X5_tick_144, r_X5_tick_145, r_X5_tick_148, r_X5_tick_149, r_X5_tick_150, r_X5_tick_151, r_X5_tick_154, r_X5_tick_157, r_X5_tick_158, r_X5_tick_159, r_X5_tick_162, r_X5_tick_163, r_X5_tick_164, r_X5_tick_167, r_X5_tick_170, r_X5_tick_173, r_X5_tick_174, r_X5_tick_177, h6, i10, if_false, Option.toList, List.cons_append, List.nil_append, c_throwsIf0, if_true, c_in, if_neg hv, c_throwsIf1]
      exact ⟨0, rfl, inv_thr _ (inv_thr _ hI0), rfl, fun q => absurd q (by decide)⟩
theorem p_blow (hI : Inv σ) : pr2 (d + 5) 139 [.ref 4, .int p0, .ref 58] 118 [.ref 5, .int p0] σ gd := by
  unfold pr2
  have hI0 := hI
  obtain ⟨⟨n, m, nr, nd, t, h, wt, ha, al, so, hW, hP, hN⟩, s, l, ch, cp, fr, to, hS⟩ := hI
  have hn := hW.1.1
  by_cases h0 : vp_in p0 n
  · obtain ⟨w, hw, e0⟩ := vin (by omega) h0
    subst e0
    rcases hN with ⟨g1, g2⟩ | ⟨g1, g2, g3, g4, g5, st, th, hQ⟩
    · simp only [r_L_blow, r_L_blow_0, r_L_blow_1, r_L_blow_2, r_L_blow_3, r_L_blow_4, r_L_blow_7, r_L_blow_8, r_L_blow_9, r_L_blow_13, r_L_blow_14, r_L_blow_16, r_L_blow_17, r_L_blow_18, r_L_blow_19, Nat.le_refl, Nat.reduceSub, Nat.reduceLeDiff, true_and, r_X4_blow, r_X4_blow_0, r_X4_blow_1, r_X4_blow_2, r_X4_blow_5, r_X4_blow_6, r_X4_blow_9, r_X4_blow_10, r_X4_blow_13, r_X4_blow_14, r_X4_blow_17, c_reqW hn hW.1.2.1 hw, Option.toList, List.cons_append, List.nil_append, c_reqNT g1, xc_blow_2]
      refine ⟨2, rfl, ?_⟩
      have h5 : (ex_sF σ 500 0).1 505 = nI n := hW.2.1.2.2.1
      have h6 : (ex_sF σ 500 0).1 532 = 0 := g2
      simp only [r_X5_blow, r_X5_blow_0, r_X5_blow_1, r_X5_blow_2, r_X5_blow_5, r_X5_blow_6, r_X5_blow_7, r_X5_blow_8, r_X5_blow_11, r_X5_blow_12, r_X5_blow_15, r_X5_blow_18, r_X5_blow_19, r_X5_blow_20, r_X5_blow_23, r_X5_blow_26, r_X5_blow_27, r_X5_blow_30, r_X5_blow_31, r_X5_blow_32, r_X5_blow_35, r_X5_blow_38, r_X5_blow_39, r_X5_blow_42, r_X5_blow_43, r_X5_blow_44, r_X5_blow_47, r_X5_blow_48, r_X5_blow_49, r_X5_blow_50, r_X5_blow_51, r_X5_blow_54, r_X5_blow_55, r_X5_blow_56, r_X5_blow_57, r_X5_blow_58, r_X5_blow_59, r_X5_blow_61, r_X5_blow_62, r_X5_blow_65, r_X5_blow_68, r_X5_blow_69, r_X5_blow_73, r_X5_blow_74, r_X5_blow_77, r_X5_blow_80, r_X5_blow_81, r_X5_blow_84, r_X5_blow_86, r_X5_blow_87, r_X5_blow_90, r_X5_blow_91, r_X5_blow_93, r_X5_blow_94, r_X5_blow_97, r_X5_blow_99, r_X5_blow_100, r_X5_blow_101, r_X5_blow_104, r_X5_blow_107, r_X5_blow_110, r_X5_blow_111, r_X5_blow_113, r_X5_blow_116, r_X5_blow_117, r_X5_blow_118, r_X5_blow_120, r_X5_blow_121, r_X5_blow_122, r_X5_blow_123, r_X5_blow_126, r_X5_blow_129, r_X5_blow_132, r_X5_blow_135, r_X5_blow_136, c_noWork hn h5 h0, Option.toList, List.cons_append, List.nil_append, c_throwsIf0, if_true, h6, c_throwsIf1, i10, if_false]
      exact ⟨0, rfl, inv_thr _ (inv_thr _ hI0), rfl, fun q => absurd q (by decide)⟩
    · have hub : mk n (isA 2 st) ||| mk n (isA 1 st) = mk n (fun k => decide (st k ≠ 0)) := by
        rw [mk_or]
        apply mk_ext
        intro k hk
        have h2 := (hQ.2.2.2 k hk).2.1
        unfold isA
        rcases (show st k = 0 ∨ st k = 1 ∨ st k = 2 by omega) with e | e | e <;> simp [e]
      have hL0 : tl_df (mk n (isA 2 st) ||| mk n (isA 1 st)) (2 ^ w) = mk n (fun k => decide (st k ≠ 0) && !decide (k = w)) := by
        rw [hub, mk_one hw, mk_df]
      have hL : sd_it (wk_nb ha al (tb (nI (mk n th)))) n n (tl_df (mk n (isA 2 st) ||| mk n (isA 1 st)) (2 ^ w)) = mk n (ga_r (sS m nr nd so th) n n (fun k => decide (st k ≠ 0) && !decide (k = w))) := by
        rw [hL0, sd_it_congr (nc := wk_nb ha al th) (fun k hk => wk_nb_congr (mk_tb hn hk)), sd_it_mask hW.2.2.1 (iW_mm hW) hn]
        apply mk_ext
        intro k hk
        exact sd_same (sS_mono (iW_mm hW)) _ k hk
      generalize hB : ga_r (sS m nr nd so th) n n (fun k => decide (st k ≠ 0) && !decide (k = w)) = B at hL
      have hBst : ∀ k, B k = true → st k ≠ 0 := by
        intro k q
        rw [← hB] at q
        have := ga_r_sub q
        simp at this
        exact this.1
      have hdn : tl_df (mk n (isA 2 st) ||| mk n (isA 1 st)) (mk n B) = mk n (dn st B) := by
        rw [hub, mk_df]
        rfl
      have hbit : ((mk n (isA 2 st) ||| mk n (isA 1 st)).testBit w = false) = (st w = 0) := by
        rw [hub, mk_at hw]
        simp
      have h55 := iQ_is hn hQ 0 (by decide) w hw
      simp only [r_L_blow, r_L_blow_0, r_L_blow_1, r_L_blow_2, r_L_blow_3, r_L_blow_4, r_L_blow_7, r_L_blow_8, r_L_blow_9, r_L_blow_13, r_L_blow_14, r_L_blow_16, r_L_blow_17, r_L_blow_18, r_L_blow_19, Nat.le_refl, Nat.reduceSub, Nat.reduceLeDiff, true_and, r_X4_blow, r_X4_blow_0, r_X4_blow_1, r_X4_blow_2, r_X4_blow_5, r_X4_blow_6, r_X4_blow_9, r_X4_blow_10, r_X4_blow_13, r_X4_blow_14, r_X4_blow_17, c_reqW hn hW.1.2.1 hw, Option.toList, List.cons_append, List.nil_append, c_reqN g1]
      rw [c_strike (d := d) (n := n) (u := mk n (isA 2 st)) (b := mk n (isA 1 st)) (t := mk n th) hW.1 hw mk_lt mk_lt hQ.1 hQ.2.1 hQ.2.2.1, hL, hdn]
      by_cases q : st w = 0
      · rw [if_pos (by rw [hbit]; exact q)]
        simp only [Option.toList, List.cons_append, List.nil_append, r_X4_blow_0, r_X4_blow_1, r_X4_blow_2, r_X4_blow_5, r_X4_blow_6, r_X4_blow_9, r_X4_blow_10, r_X4_blow_13, r_X4_blow_14, r_X4_blow_17, r_L_blow_0, r_L_blow_1, r_L_blow_2, r_L_blow_3, r_L_blow_4, r_L_blow_7, r_L_blow_8, r_L_blow_9, r_L_blow_13, r_L_blow_14, r_L_blow_16, r_L_blow_17, r_L_blow_18, r_L_blow_19, v01, cl0, true_and]
        refine ⟨0, rfl, ?_⟩
        rw [c_mblow (d := d + 2) (σ := ex_sB σ 58 0 (0 : Int32).toInt64) (st := st) (th := th) hW.2.1 hw g2 (fun k hk => ⟨(hQ.2.2.2 k hk).1, (hQ.2.2.2 k hk).2.1, (hQ.2.2.2 k hk).2.2.1⟩), if_pos q]
        exact ⟨0, rfl, inv_thr _ (inv_out _ hI0), rfl, fun _ => rfl⟩
      · rw [if_neg (by rw [hbit]; exact q)]
        simp only [Option.toList, List.cons_append, List.nil_append, r_X4_blow_0, r_X4_blow_1, r_X4_blow_2, r_X4_blow_5, r_X4_blow_6, r_X4_blow_9, r_X4_blow_10, r_X4_blow_13, r_X4_blow_14, r_X4_blow_17, r_L_blow_0, r_L_blow_1, r_L_blow_2, r_L_blow_3, r_L_blow_4, r_L_blow_7, r_L_blow_8, r_L_blow_9, r_L_blow_13, r_L_blow_14, r_L_blow_16, r_L_blow_17, r_L_blow_18, r_L_blow_19, v01, cl0, true_and]
        refine ⟨0, rfl, ?_⟩
        rw [c_mblow (d := d + 2) (σ := ex_sB (nt_sk σ n (mk n (isA 2 st)) (mk n (isA 1 st)) (mk n th) (mk n B)) 58 0 (nI (mk n (dn st B))).toInt64) (st := st) (th := th) hW.2.1 hw g2 (fun k hk => ⟨(hQ.2.2.2 k hk).1, (hQ.2.2.2 k hk).2.1, (hQ.2.2.2 k hk).2.2.1⟩), if_neg q, hB]
        have ms : ∀ v, v ≠ 0 → mk n (isA v (fun k => if B k = true then st k else 0)) = mk n (isA v st) &&& mk n B := by
          intro v hv
          rw [mk_and]
          apply mk_ext
          intro k hk
          unfold isA
          cases q2 : B k with
          | true => simp [q2]
          | false =>
            simp [q2]
            omega
        refine ⟨_, rfl, ⟨⟨n, m, nr, nd, t, h, wt, ha, al, so, hW, hP, Or.inr ⟨g1, g2, g3, g4, g5, fun k => if B k = true then st k else 0, fun k => th k && B k, ?_, ?_, ?_, fun k hk => ?_⟩⟩, s, l, ch, cp, fr, to, hS⟩, rfl, fun _ => rfl⟩
        · rw [ms 2 (by decide)]
          rfl
        · rw [ms 1 (by decide)]
          rfl
        · rw [← mk_and]
          rfl
        · obtain ⟨y1, y2, y3, y4, y5, y6⟩ := hQ.2.2.2 k hk
          show bz n st B (σ.2.2.1 55) k = nI (if B k = true then st k else 0) ∧ (if B k = true then st k else 0) ≤ 2 ∧ bz n st B (σ.2.2.1 57) k = (if (th k && B k) = true then 1 else 0) ∧ ((th k && B k) = true → (if B k = true then st k else 0) ≠ 0) ∧ ((if B k = true then st k else 0) = 1 → sd_g n (tl_df (mk n (isA 2 st) ||| mk n (isA 1 st)) (mk n B)) (σ.2.2.1 6) k = bz n st B (σ.2.2.1 56) k) ∧ ((if B k = true then st k else 0) ≠ 1 → sd_g n (tl_df (mk n (isA 2 st) ||| mk n (isA 1 st)) (mk n B)) (σ.2.2.1 6) k = 0)
          rw [hdn]
          unfold bz sd_g
          rw [mk_at hk]
          unfold dn
          cases q2 : B k with
          | true =>
            simp only [hk, Bool.true_eq_false, and_false, if_false, if_true, Bool.and_true, Bool.not_true, Bool.and_false, Bool.false_eq_true]
            exact ⟨y1, y2, y3, y4, y5, y6⟩
          | false =>
            by_cases q3 : st k = 0
            · have hth : th k = false := by
                cases q4 : th k with
                | false => rfl
                | true => exact absurd q3 (y4 q4)
              have h6z := y6 (by omega)
              rw [hth] at y3
              rw [q3] at y1
              simp only [q3, ne_eq, not_true_eq_false, false_and, and_false, if_false, decide_false, Bool.false_and, Bool.false_eq_true, hth]
              exact ⟨y1, by decide, y3, fun q5 => absurd q5 (by decide), fun q5 => absurd q5 (by decide), fun _ => h6z⟩
            · simp only [hk, q3, ne_eq, not_false_eq_true, and_self, if_true, decide_true, Bool.not_false, Bool.and_false, Bool.false_eq_true, if_false]
              exact ⟨rfl, by decide, trivial, fun q5 => absurd q5 (by decide), fun q5 => absurd q5 (by decide), fun _ => by simp⟩
  · simp only [r_L_blow, r_L_blow_0, r_L_blow_1, r_L_blow_2, r_L_blow_3, r_L_blow_4, r_L_blow_7, r_L_blow_8, r_L_blow_9, r_L_blow_13, r_L_blow_14, r_L_blow_16, r_L_blow_17, r_L_blow_18, r_L_blow_19, Nat.le_refl, Nat.reduceSub, Nat.reduceLeDiff, true_and, r_X4_blow, r_X4_blow_0, r_X4_blow_1, r_X4_blow_2, r_X4_blow_5, r_X4_blow_6, r_X4_blow_9, r_X4_blow_10, r_X4_blow_13, r_X4_blow_14, r_X4_blow_17, c_reqWT hn hW.1.2.1 h0, xc_blow_1]
    refine ⟨1, rfl, ?_⟩
    have h5 : (ex_sF σ 500 0).1 505 = nI n := hW.2.1.2.2.1
    simp only [r_X5_blow, r_X5_blow_0, r_X5_blow_1, r_X5_blow_2, r_X5_blow_5, r_X5_blow_6, r_X5_blow_7, r_X5_blow_8, r_X5_blow_11, r_X5_blow_12, r_X5_blow_15, r_X5_blow_18, r_X5_blow_19, r_X5_blow_20, r_X5_blow_23, r_X5_blow_26, r_X5_blow_27, r_X5_blow_30, r_X5_blow_31, r_X5_blow_32, r_X5_blow_35, r_X5_blow_38, r_X5_blow_39, r_X5_blow_42, r_X5_blow_43, r_X5_blow_44, r_X5_blow_47, r_X5_blow_48, r_X5_blow_49, r_X5_blow_50, r_X5_blow_51, r_X5_blow_54, r_X5_blow_55, r_X5_blow_56, r_X5_blow_57, r_X5_blow_58, r_X5_blow_59, r_X5_blow_61, r_X5_blow_62, r_X5_blow_65, r_X5_blow_68, r_X5_blow_69, r_X5_blow_73, r_X5_blow_74, r_X5_blow_77, r_X5_blow_80, r_X5_blow_81, r_X5_blow_84, r_X5_blow_86, r_X5_blow_87, r_X5_blow_90, r_X5_blow_91, r_X5_blow_93, r_X5_blow_94, r_X5_blow_97, r_X5_blow_99, r_X5_blow_100, r_X5_blow_101, r_X5_blow_104, r_X5_blow_107, r_X5_blow_110, r_X5_blow_111, r_X5_blow_113, r_X5_blow_116, r_X5_blow_117, r_X5_blow_118, r_X5_blow_120, r_X5_blow_121, r_X5_blow_122, r_X5_blow_123, r_X5_blow_126, r_X5_blow_129, r_X5_blow_132, r_X5_blow_135, r_X5_blow_136, c_noWorkT hn h5 h0, Option.toList, List.cons_append, List.nil_append, c_throwsIf1, i10, if_false]
    exact ⟨0, rfl, inv_thr _ (inv_thr _ hI0), rfl, fun q => absurd q (by decide)⟩
end OK
