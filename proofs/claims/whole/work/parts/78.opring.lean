/-! ===== hangs, steps, rings, cut ===== -/
section OR
variable {d n m : Nat} {E : ex_O → ex_S → Prop} {σ : ex_S} {p0 p1 : Int32}
theorem inv_40 {σ : ex_S} (F : Nat → Int32) (h : Inv σ) : Inv (ex_row σ 40 F) := h
def pr1 (d Wm : Nat) (wa : List Value) (Mm : Nat) (ma : List Value) (σ : ex_S) : Prop := ex_C d Wm wa σ (fun o σ1 => ∃ k, o = .inl (some (.int k)) ∧ ex_C d Mm ma σ1 (fun o2 σ2 => o2 = .inl (some (.int k)) ∧ Inv σ2))
theorem iW_neg {nr nd t h wt ha al : Nat → Nat} {so : Nat → Bool} (hW : iW σ n m nr nd t h wt ha al so) : ∀ a, a < n → (σ.2.2.1 36 a < 0 ↔ σ.2.2.1 30 a = -1) := by
  intro a ha2
  obtain ⟨h1, h2⟩ := hW.2.2.2.2.2.2 a ha2
  rw [h1]
  rcases h2 with h2 | ⟨k, hk, h2⟩
  · rw [h2]
    exact ⟨fun _ => rfl, fun _ => by decide⟩
  · rw [h2]
    constructor
    · intro q
      exact absurd q (nI_nlt (b := 0) (by omega) (by omega))
    · intro q
      exact absurd q (nI_ne1 (by omega))
theorem iW_T {nr nd t h wt ha al : Nat → Nat} {so : Nat → Bool} {th : Int32} (hW : iW σ n m nr nd t h wt ha al so) : ∀ a, a < n → tb (nI (wk_can (σ.2.2.1 30) th n)) a = (tb th a && !decide (σ.2.2.1 36 a < 0)) := by
  intro a ha2
  have hn := hW.1.1
  have hp8 := tl_p8 hn
  have hlt := wk_can_lt (c := σ.2.2.1 30) (s := th) (n := n)
  rw [tb_nI (by omega) (by omega)]
  apply tl_bool_ext
  rw [wk_can_bit, Bool.and_eq_true, Bool.not_eq_true', decide_eq_false_iff_not, iW_neg hW a ha2]
  simp [ha2]
theorem tb_z (a : Nat) (ha : a < 32) : tb 0 a = false := by
  have := tb_nI (x := 0) (j := a) (by decide) ha
  rw [Nat.zero_testBit] at this
  exact this
theorem iW_nb {nr nd t h wt ha al : Nat → Nat} {so : Nat → Bool} (hW : iW σ n m nr nd t h wt ha al so) (T : Nat → Bool) : ∀ a, a < n → wk_nb ha al T a < 2 ^ n := fun a ha2 => wk_nb_lt hW.1 (by have := hW.1.1; omega)
theorem iW_mm {nr nd t h wt ha al : Nat → Nat} {so : Nat → Bool} (hW : iW σ n m nr nd t h wt ha al so) : ∀ j, j < m → nr j < n ∧ nd j < n := fun j hj => ⟨(hW.2.1.2.2.2.2 j hj).2.2.2.1, (hW.2.1.2.2.2.2 j hj).2.2.2.2⟩
theorem m_hangsT (hn : n ≤ 8) (h5 : σ.1 505 = nI n) (h : ¬ vp_in p0 n) : ex_C (d + 3) 87 [.ref 5, .int p0] σ E = E (.inl (some (.int 0))) (ex_sF (ex_sF σ 500 0) 500 1) := by
  simp only [r_X5_hangs, r_X5_hangs_0, r_X5_hangs_1, r_X5_hangs_2, r_X5_hangs_5, r_X5_hangs_6, r_X5_hangs_7, r_X5_hangs_8, r_X5_hangs_11, r_X5_hangs_12, r_X5_hangs_15, r_X5_hangs_18, r_X5_hangs_19, r_X5_hangs_20, r_X5_hangs_21, r_X5_hangs_22, r_X5_hangs_25, r_X5_hangs_26, r_X5_hangs_28, r_X5_hangs_29, r_X5_hangs_30, r_X5_hangs_31, r_X5_hangs_34, r_X5_hangs_37, r_X5_hangs_38, r_X5_hangs_39, r_X5_hangs_42, r_X5_hangs_44, r_X5_hangs_45, r_X5_hangs_46, r_X5_hangs_47, r_X5_hangs_48, r_X5_hangs_49, r_X5_hangs_51, r_X5_hangs_54, r_X5_hangs_55, r_X5_hangs_56, r_X5_hangs_57, r_X5_hangs_60, r_X5_hangs_61, r_X5_hangs_62, r_X5_hangs_63, r_X5_hangs_66, r_X5_hangs_69, r_X5_hangs_70, c_noWorkT (σ := ex_sF σ 500 0) hn h5 h, Option.toList, List.cons_append, List.nil_append, i10, if_false, if_true, c_throwsIf1]
theorem p_hangs (hI : Inv σ) : pr2 (d + 5) 124 [.ref 4, .int p0, .ref 58] 87 [.ref 5, .int p0] σ gd := by
  unfold pr2
  have hI0 := hI
  obtain ⟨⟨n, m, nr, nd, t, hh, wt, ha, al, so, hW, hP, hN⟩, s, l, ch, cp, fr, to, hS⟩ := hI
  have hW0 := hW
  obtain ⟨w1, w2, w3, w4, w5, w6, w7⟩ := hW
  have hn := w1.1
  by_cases h0 : vp_in p0 n
  · obtain ⟨w, hw, e0⟩ := vin (by omega) h0
    subst e0
    have hT : ∀ a, a < n → tb 0 a = (tb 0 a && !decide (σ.2.2.1 36 a < 0)) := fun a ha2 => by rw [tb_z a (by omega)]; rfl
    simp only [r_L_hangs, r_L_hangs_0, r_L_hangs_1, r_L_hangs_2, r_L_hangs_3, r_L_hangs_4, r_L_hangs_7, r_L_hangs_8, r_L_hangs_9, r_L_hangs_13, r_L_hangs_14, r_L_hangs_15, r_L_hangs_16, Nat.le_refl, true_and, r_X4_hangs, r_X4_hangs_0, r_X4_hangs_1, r_X4_hangs_2, r_X4_hangs_5, r_X4_hangs_6, r_X4_hangs_9, r_X4_hangs_10, r_X4_hangs_11, r_X4_hangs_14, c_reqW hn w1.2.1 hw, Option.toList, List.cons_append, List.nil_append]
    rw [c_reachOf w1 (by omega)]
    simp only [Option.toList, List.cons_append, List.nil_append, r_X4_hangs_0, r_X4_hangs_1, r_X4_hangs_2, r_X4_hangs_5, r_X4_hangs_6, r_X4_hangs_9, r_X4_hangs_10, r_X4_hangs_11, r_X4_hangs_14, r_L_hangs_0, r_L_hangs_1, r_L_hangs_2, r_L_hangs_3, r_L_hangs_4, r_L_hangs_7, r_L_hangs_8, r_L_hangs_9, r_L_hangs_13, r_L_hangs_14, r_L_hangs_15, r_L_hangs_16, v01, cl0, true_and]
    refine ⟨0, rfl, ?_⟩
    rw [c_mhangs (d := d + 1) (σ := ex_sB σ 58 0 (nI (wk_it ha al (tb 0) n n (wk_nb ha al (tb 0) w))).toInt64) w2 hw]
    refine ⟨_, rfl, inv_40 _ (inv_thr _ (inv_out _ hI0)), rfl, fun _ => ?_⟩
    show (nI (wk_it ha al (tb 0) n n (wk_nb ha al (tb 0) w))).toInt64 = (nI (tl_fo (fun k => if fw (σ.2.2.1 36) 0 n m nr nd so (σ.2.2.1 40) (8 * w + k) < 1000000 then 2 ^ k else 0) n)).toInt64
    rw [lm_hangs hn (iW_mm hW0) w3 hT (iW_nb hW0 _) (wk_it_lt w1 (wk_nb_lt w1 (by omega))) hw]
  · simp only [r_L_hangs, r_L_hangs_0, r_L_hangs_1, r_L_hangs_2, r_L_hangs_3, r_L_hangs_4, r_L_hangs_7, r_L_hangs_8, r_L_hangs_9, r_L_hangs_13, r_L_hangs_14, r_L_hangs_15, r_L_hangs_16, Nat.le_refl, true_and, r_X4_hangs, r_X4_hangs_0, r_X4_hangs_1, r_X4_hangs_2, r_X4_hangs_5, r_X4_hangs_6, r_X4_hangs_9, r_X4_hangs_10, r_X4_hangs_11, r_X4_hangs_14, c_reqWT hn w1.2.1 h0, xc_hangs_1]
    refine ⟨1, rfl, ?_⟩
    rw [m_hangsT hn w2.2.2.1 h0]
    exact ⟨0, rfl, inv_thr _ (inv_thr _ hI0), rfl, fun q => absurd q (by decide)⟩
theorem m_stepsT (hn : n ≤ 8) (h5 : σ.1 505 = nI n) (h : ¬ vp_in p0 n ∨ ¬ vp_in p1 n) : ex_C (d + 3) 88 [.ref 5, .int p0, .int p1] σ E = E (.inl (some (.int 0))) (ex_sF (ex_sF σ 500 0) 500 1) := by
  by_cases h0 : vp_in p0 n
  · have h1 : ¬ vp_in p1 n := by
      rcases h with h | h
      · exact absurd h0 h
      · exact h
    simp only [r_X5_steps, r_X5_steps_0, r_X5_steps_1, r_X5_steps_2, r_X5_steps_5, r_X5_steps_6, r_X5_steps_7, r_X5_steps_8, r_X5_steps_11, r_X5_steps_14, r_X5_steps_15, r_X5_steps_16, r_X5_steps_19, r_X5_steps_22, r_X5_steps_23, r_X5_steps_26, r_X5_steps_27, r_X5_steps_28, r_X5_steps_31, r_X5_steps_34, r_X5_steps_35, r_X5_steps_36, r_X5_steps_37, r_X5_steps_38, r_X5_steps_41, r_X5_steps_42, r_X5_steps_45, r_X5_steps_47, r_X5_steps_48, r_X5_steps_49, r_X5_steps_50, r_X5_steps_51, r_X5_steps_52, r_X5_steps_53, r_X5_steps_54, r_X5_steps_56, r_X5_steps_59, r_X5_steps_60, r_X5_steps_63, r_X5_steps_64, c_noWork (σ := ex_sF σ 500 0) hn h5 h0, c_noWorkT (σ := ex_sF σ 500 0) hn h5 h1, Option.toList, List.cons_append, List.nil_append, i10, if_false, if_true, c_throwsIf1]
  · simp only [r_X5_steps, r_X5_steps_0, r_X5_steps_1, r_X5_steps_2, r_X5_steps_5, r_X5_steps_6, r_X5_steps_7, r_X5_steps_8, r_X5_steps_11, r_X5_steps_14, r_X5_steps_15, r_X5_steps_16, r_X5_steps_19, r_X5_steps_22, r_X5_steps_23, r_X5_steps_26, r_X5_steps_27, r_X5_steps_28, r_X5_steps_31, r_X5_steps_34, r_X5_steps_35, r_X5_steps_36, r_X5_steps_37, r_X5_steps_38, r_X5_steps_41, r_X5_steps_42, r_X5_steps_45, r_X5_steps_47, r_X5_steps_48, r_X5_steps_49, r_X5_steps_50, r_X5_steps_51, r_X5_steps_52, r_X5_steps_53, r_X5_steps_54, r_X5_steps_56, r_X5_steps_59, r_X5_steps_60, r_X5_steps_63, r_X5_steps_64, c_noWorkT (σ := ex_sF σ 500 0) hn h5 h0, Option.toList, List.cons_append, List.nil_append, i10, if_false, if_true, c_throwsIf1]
theorem k_stepsT (hn : n ≤ 8) (h3 : σ.1 306 = nI n) (h : ¬ vp_in p0 n ∨ ¬ vp_in p1 n) : ex_C (d + 3) 125 [.ref 4, .int p0, .int p1, .ref 58] σ E = E (.inl (some (.int 1))) σ := by
  by_cases h0 : vp_in p0 n
  · obtain ⟨k, hk, e⟩ := vin (by omega) h0
    subst e
    have h1 : ¬ vp_in p1 n := by
      rcases h with h | h
      · exact absurd h0 h
      · exact h
    simp only [r_L_steps, r_L_steps_0, r_L_steps_1, r_L_steps_2, r_L_steps_3, r_L_steps_4, r_L_steps_5, r_L_steps_8, r_L_steps_9, r_L_steps_10, r_L_steps_15, r_L_steps_16, r_L_steps_17, r_L_steps_18, Nat.le_refl, true_and, r_X4_steps, r_X4_steps_0, r_X4_steps_1, r_X4_steps_2, r_X4_steps_5, r_X4_steps_6, r_X4_steps_7, r_X4_steps_10, r_X4_steps_11, r_X4_steps_14, r_X4_steps_15, r_X4_steps_16, r_X4_steps_19, c_reqW hn h3 hk, c_reqWT hn h3 h1, Option.toList, List.nil_append, xc_steps_1, show (1 ≤ 2 - 1) = True from eq_true (by decide), show (1 ≤ 2) = True from eq_true (by decide)]
  · simp only [r_L_steps, r_L_steps_0, r_L_steps_1, r_L_steps_2, r_L_steps_3, r_L_steps_4, r_L_steps_5, r_L_steps_8, r_L_steps_9, r_L_steps_10, r_L_steps_15, r_L_steps_16, r_L_steps_17, r_L_steps_18, Nat.le_refl, true_and, r_X4_steps, r_X4_steps_0, r_X4_steps_1, r_X4_steps_2, r_X4_steps_5, r_X4_steps_6, r_X4_steps_7, r_X4_steps_10, r_X4_steps_11, r_X4_steps_14, r_X4_steps_15, r_X4_steps_16, r_X4_steps_19, c_reqWT hn h3 h0, xc_steps_1, show (1 ≤ 2) = True from eq_true (by decide)]
theorem p_steps (hI : Inv σ) : pr2 (d + 5) 125 [.ref 4, .int p0, .int p1, .ref 58] 88 [.ref 5, .int p0, .int p1] σ gd := by
  unfold pr2
  have hI0 := hI
  obtain ⟨⟨n, m, nr, nd, t, hh, wt, ha, al, so, hW, hP, hN⟩, s, l, ch, cp, fr, to, hS⟩ := hI
  have hW0 := hW
  obtain ⟨w1, w2, w3, w4, w5, w6, w7⟩ := hW
  have hn := w1.1
  by_cases h : ¬ vp_in p0 n ∨ ¬ vp_in p1 n
  · rw [k_stepsT hn w1.2.1 h]
    refine ⟨1, rfl, ?_⟩
    rw [m_stepsT hn w2.2.2.1 h]
    exact ⟨0, rfl, inv_thr _ (inv_thr _ hI0), rfl, fun q => absurd q (by decide)⟩
  · have h0 : vp_in p0 n := Classical.byContradiction fun q => h (Or.inl q)
    have h1 : vp_in p1 n := Classical.byContradiction fun q => h (Or.inr q)
    obtain ⟨w, hw, e0⟩ := vin (by omega) h0
    obtain ⟨v, hv, e1⟩ := vin (by omega) h1
    subst e0 e1
    have hT : ∀ a, a < n → tb 0 a = (tb 0 a && !decide (σ.2.2.1 36 a < 0)) := fun a ha2 => by rw [tb_z a (by omega)]; rfl
    simp only [r_L_steps, r_L_steps_0, r_L_steps_1, r_L_steps_2, r_L_steps_3, r_L_steps_4, r_L_steps_5, r_L_steps_8, r_L_steps_9, r_L_steps_10, r_L_steps_15, r_L_steps_16, r_L_steps_17, r_L_steps_18, Nat.le_refl, true_and, r_X4_steps, r_X4_steps_0, r_X4_steps_1, r_X4_steps_2, r_X4_steps_5, r_X4_steps_6, r_X4_steps_7, r_X4_steps_10, r_X4_steps_11, r_X4_steps_14, r_X4_steps_15, r_X4_steps_16, r_X4_steps_19, c_reqW hn w1.2.1 hw, c_reqW hn w1.2.1 hv, Option.toList, List.cons_append, List.nil_append, show (1 ≤ 2 - 1) = True from eq_true (by decide), show (1 ≤ 2) = True from eq_true (by decide)]
    rw [c_leastSteps w1 (by omega) (by omega)]
    simp only [Option.toList, List.cons_append, List.nil_append, r_X4_steps_0, r_X4_steps_1, r_X4_steps_2, r_X4_steps_5, r_X4_steps_6, r_X4_steps_7, r_X4_steps_10, r_X4_steps_11, r_X4_steps_14, r_X4_steps_15, r_X4_steps_16, r_X4_steps_19, r_L_steps_0, r_L_steps_1, r_L_steps_2, r_L_steps_3, r_L_steps_4, r_L_steps_5, r_L_steps_8, r_L_steps_9, r_L_steps_10, r_L_steps_15, r_L_steps_16, r_L_steps_17, r_L_steps_18, v01, cl0, true_and]
    refine ⟨0, rfl, ?_⟩
    rw [c_msteps (d := d + 1) (σ := ex_sB σ 58 0 (wk_ls (wk_fr ha al (tb 0) n w) v n 0).toInt64) w2 hw hv]
    refine ⟨_, rfl, inv_40 _ (inv_thr _ (inv_out _ hI0)), rfl, fun _ => ?_⟩
    show (wk_ls (wk_fr ha al (tb 0) n w) v n 0).toInt64 = (if fw (σ.2.2.1 36) 0 n m nr nd so (σ.2.2.1 40) (8 * w + v) < 1000000 then fw (σ.2.2.1 36) 0 n m nr nd so (σ.2.2.1 40) (8 * w + v) else -1).toInt64
    rw [lm_steps hn (iW_mm hW0) w3 hT (iW_nb hW0 _) hw hv]
theorem p_rings (hI : Inv σ) : pr1 (d + 5) 50 [.ref 4, .int p0] 90 [.ref 5, .int p0] σ := by
  unfold pr1
  have hI0 := hI
  obtain ⟨⟨n, m, nr, nd, t, hh, wt, ha, al, so, hW, hP, hN⟩, s, l, ch, cp, fr, to, hS⟩ := hI
  have hW0 := hW
  obtain ⟨w1, w2, w3, w4, w5, w6, w7⟩ := hW
  have hn := w1.1
  simp only [r_X4_rings, r_X4_rings_0, r_X4_rings_1, r_X4_rings_4, r_X4_rings_5, r_X4_rings_8, r_X4_rings_9, r_X4_rings_12, r_X4_rings_15]
  rw [c_thoseThatCan hn w1.2.1]
  simp only [Option.toList, List.cons_append, List.nil_append, r_X4_rings_0, r_X4_rings_1, r_X4_rings_4, r_X4_rings_5, r_X4_rings_8, r_X4_rings_9, r_X4_rings_12, r_X4_rings_15]
  rw [c_inRings w1]
  simp only [Option.toList, List.cons_append, List.nil_append, r_X4_rings_0, r_X4_rings_1, r_X4_rings_4, r_X4_rings_5, r_X4_rings_8, r_X4_rings_9, r_X4_rings_12, r_X4_rings_15]
  refine ⟨_, rfl, ?_⟩
  rw [c_mrings w2]
  refine ⟨?_, inv_40 _ (inv_thr _ hI0)⟩
  unfold md_rg
  rw [lm_rings hn (iW_mm hW0) w3 (iW_T hW0) (iW_nb hW0 _)]
theorem p_cut (hI : Inv σ) : pr1 (d + 5) 51 [.ref 4] 91 [.ref 5] σ := by
  unfold pr1
  have hI0 := hI
  obtain ⟨⟨n, m, nr, nd, t, hh, wt, ha, al, so, hW, hP, hN⟩, s, l, ch, cp, fr, to, hS⟩ := hI
  have hW0 := hW
  obtain ⟨w1, w2, w3, w4, w5, w6, w7⟩ := hW
  have hn := w1.1
  simp only [r_X4_cut, r_X4_cut_0, r_X4_cut_1, r_X4_cut_4, r_X4_cut_7]
  rw [c_cheapestCut w1]
  simp only [Option.toList, List.cons_append, List.nil_append, r_X4_cut_0, r_X4_cut_1, r_X4_cut_4, r_X4_cut_7]
  refine ⟨_, rfl, ?_⟩
  rw [c_mcut w2]
  refine ⟨?_, inv_40 _ (inv_thr _ hI0)⟩
  rw [(lm_cut (c := σ.2.2.1 36) (e := σ.2.2.1 30) hn (iW_mm hW0) w3 (fun T => iW_nb hW0 T) (fun a ha2 => by rw [iW_neg hW0 a ha2, (w7 a ha2).1]) (fun i hi => (w7 i hi).1) (2 ^ n) (Nat.le_refl _)).1]
end OR
