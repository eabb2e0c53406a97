/-! ===== Works: contracts ===== -/
section WKC
theorem c_everyWork {d : Nat} {E : ex_O → ex_S → Prop} {σ : ex_S} {n : Nat} {ha al : Nat → Nat} (h : wk_at σ n ha al) : ex_C (d + 1) 35 [.ref 3] σ E = E (.inl (some (.int (nI (2 ^ n - 1))))) σ := by
  have hn := h.1
  simp only [r_X3_everyWork, r_X3_everyWork_0, r_X3_everyWork_1, r_X3_everyWork_2, r_X3_everyWork_5, r_X3_everyWork_6, r_X3_everyWork_7, r_X3_everyWork_8, h.2.1, tl_shl n (by omega)]
  rw [show (1 : Int32) = nI 1 from rfl, pk_sub (Nat.one_le_two_pow)]
theorem c_needsOf {d : Nat} {E : ex_O → ex_S → Prop} {σ : ex_S} {n w : Nat} {t : Int32} {ha al : Nat → Nat} (h : wk_at σ n ha al) (hw : w < 8) : ex_C (d + 1) 38 [.ref 3, .int (nI w), .int t] σ E = E (.inl (some (.int (nI (wk_nb ha al (tb t) w))))) σ := by
  simp only [r_X3_needsOf, r_X3_needsOf_0, r_X3_needsOf_1, r_X3_needsOf_2, r_X3_needsOf_3, r_X3_needsOf_4, r_X3_needsOf_5, r_X3_needsOf_8, r_X3_needsOf_9, r_X3_needsOf_12, r_X3_needsOf_13, r_X3_needsOf_14, r_X3_needsOf_17, r_X3_needsOf_18, r_X3_needsOf_21, r_X3_needsOf_22, r_X3_needsOf_23]
  simp only [tb0, tl_in hw (show 8 < 2 ^ 31 by omega), tl_cl (show w < 2 ^ 31 by omega), (h.2.2 w hw).1, (h.2.2 w hw).2.1, true_and]
  unfold wk_nb
  cases ht2 : tb t w <;> simp
theorem c_needsOfAll {d : Nat} {E : ex_O → ex_S → Prop} {σ : ex_S} {n s : Nat} {t : Int32} {ha al : Nat → Nat} (h : wk_at σ n ha al) (hs : s < 256) : ex_C (d + 2) 39 [.ref 3, .int (nI s), .int t] σ E = E (.inl (some (.int (nI (wk_all ha al (tb t) n s))))) σ := by
  have hn := h.1
  simp only [r_X3_needsOfAll, r_X3_needsOfAll_0, r_X3_needsOfAll_1, r_X3_needsOfAll_2, r_X3_needsOfAll_3, r_X3_needsOfAll_7, r_X3_needsOfAll_8, r_X3_needsOfAll_11, r_X3_needsOfAll_14, r_X3_needsOfAll_15, r_X3_needsOfAll_17, r_X3_needsOfAll_18, r_X3_needsOfAll_19, r_X3_needsOfAll_20, r_X3_needsOfAll_23, r_X3_needsOfAll_24, r_X3_needsOfAll_25, r_X3_needsOfAll_27, r_X3_needsOfAll_28, r_X3_needsOfAll_31, r_X3_needsOfAll_32, r_X3_needsOfAll_33, r_X3_needsOfAll_36, r_X3_needsOfAll_39, r_X3_needsOfAll_40]
  refine (tl_for (A := fun i => ex_r none (d + 1) ex_m_X3_needsOfAll E 5 [.ref 3, .int (nI s), .int t, .int (nI (tl_fo (fun w => if s.testBit w then wk_nb ha al (tb t) w else 0) i)), .int (nI i)] [] σ 0) (n := n) ?_).trans ?_
  · intro i hi R hR
    simp only [r_X3_needsOfAll_5]
    simp only [r_X3_needsOfAll_0, r_X3_needsOfAll_1, r_X3_needsOfAll_2, r_X3_needsOfAll_3, r_X3_needsOfAll_7, r_X3_needsOfAll_8, r_X3_needsOfAll_11, r_X3_needsOfAll_14, r_X3_needsOfAll_15, r_X3_needsOfAll_17, r_X3_needsOfAll_18, r_X3_needsOfAll_19, r_X3_needsOfAll_20, r_X3_needsOfAll_23, r_X3_needsOfAll_24, r_X3_needsOfAll_25, r_X3_needsOfAll_27, r_X3_needsOfAll_28, r_X3_needsOfAll_31, r_X3_needsOfAll_32, r_X3_needsOfAll_33, r_X3_needsOfAll_36, r_X3_needsOfAll_39, r_X3_needsOfAll_40, h.2.1, tb0, tb_nI (show s < 2 ^ 31 by omega) (show i < 32 by omega)]
    rw [if_neg (nI_ge hi (by omega)), c_needsOf h (by omega)]
    simp only [Option.toList, List.cons_append, List.nil_append, r_X3_needsOfAll_0, r_X3_needsOfAll_1, r_X3_needsOfAll_2, r_X3_needsOfAll_3, r_X3_needsOfAll_7, r_X3_needsOfAll_8, r_X3_needsOfAll_11, r_X3_needsOfAll_14, r_X3_needsOfAll_15, r_X3_needsOfAll_17, r_X3_needsOfAll_18, r_X3_needsOfAll_19, r_X3_needsOfAll_20, r_X3_needsOfAll_23, r_X3_needsOfAll_24, r_X3_needsOfAll_25, r_X3_needsOfAll_27, r_X3_needsOfAll_28, r_X3_needsOfAll_31, r_X3_needsOfAll_32, r_X3_needsOfAll_33, r_X3_needsOfAll_36, r_X3_needsOfAll_39, r_X3_needsOfAll_40, tl_or, nI_1]
    subst hR
    rw [tl_fo]
    cases s.testBit i <;> simp
  · simp only [r_X3_needsOfAll_5]
    simp only [r_X3_needsOfAll_0, r_X3_needsOfAll_1, r_X3_needsOfAll_2, r_X3_needsOfAll_3, r_X3_needsOfAll_7, r_X3_needsOfAll_8, r_X3_needsOfAll_11, r_X3_needsOfAll_14, r_X3_needsOfAll_15, r_X3_needsOfAll_17, r_X3_needsOfAll_18, r_X3_needsOfAll_19, r_X3_needsOfAll_20, r_X3_needsOfAll_23, r_X3_needsOfAll_24, r_X3_needsOfAll_25, r_X3_needsOfAll_27, r_X3_needsOfAll_28, r_X3_needsOfAll_31, r_X3_needsOfAll_32, r_X3_needsOfAll_33, r_X3_needsOfAll_36, r_X3_needsOfAll_39, r_X3_needsOfAll_40, h.2.1, Int32.le_refl, if_true, wk_all]
theorem c_canBeThin {d : Nat} {E : ex_O → ex_S → Prop} {σ : ex_S} {w : Nat} (hw : w < 8) : ex_C (d + 1) 36 [.ref 3, .int (nI w)] σ E = E (.inl (some (.int (if σ.2.2.1 30 w = -1 then 0 else 1)))) σ := by
  simp only [r_X3_canBeThin, r_X3_canBeThin_0, r_X3_canBeThin_1, r_X3_canBeThin_4, r_X3_canBeThin_5, r_X3_canBeThin_6, r_X3_canBeThin_7, r_X3_canBeThin_10, r_X3_canBeThin_11, r_X3_canBeThin_14, r_X3_canBeThin_15]
  simp only [tl_in hw (show 8 < 2 ^ 31 by omega), tl_cl (show w < 2 ^ 31 by omega), true_and]
  by_cases q : σ.2.2.1 30 w = -1 <;> simp [q, tl_b0, tl_b1]
theorem c_thoseThatCan {d : Nat} {E : ex_O → ex_S → Prop} {σ : ex_S} {n : Nat} {s : Int32} (hn : n ≤ 8) (h : σ.1 306 = nI n) : ex_C (d + 2) 37 [.ref 3, .int s] σ E = E (.inl (some (.int (nI (wk_can (σ.2.2.1 30) s n))))) σ := by
  simp only [r_X3_thoseThatCan, r_X3_thoseThatCan_0, r_X3_thoseThatCan_1, r_X3_thoseThatCan_2, r_X3_thoseThatCan_3, r_X3_thoseThatCan_5, r_X3_thoseThatCan_6, r_X3_thoseThatCan_9, r_X3_thoseThatCan_12, r_X3_thoseThatCan_13, r_X3_thoseThatCan_14, r_X3_thoseThatCan_15, r_X3_thoseThatCan_16, r_X3_thoseThatCan_17, r_X3_thoseThatCan_20, r_X3_thoseThatCan_21, r_X3_thoseThatCan_22, r_X3_thoseThatCan_25, r_X3_thoseThatCan_28, r_X3_thoseThatCan_29, r_X3_thoseThatCan_30, r_X3_thoseThatCan_31, r_X3_thoseThatCan_32, r_X3_thoseThatCan_33, r_X3_thoseThatCan_34, r_X3_thoseThatCan_37, r_X3_thoseThatCan_40, r_X3_thoseThatCan_41]
  refine (tl_for (A := fun i => ex_r none (d + 1) ex_m_X3_thoseThatCan E 4 [.ref 3, .int s, .int (nI (wk_can (σ.2.2.1 30) s i)), .int (nI i)] [] σ 0) (n := n) ?_).trans ?_
  · intro i hi R hR
    simp only [r_X3_thoseThatCan_4]
    simp only [r_X3_thoseThatCan_0, r_X3_thoseThatCan_1, r_X3_thoseThatCan_2, r_X3_thoseThatCan_3, r_X3_thoseThatCan_5, r_X3_thoseThatCan_6, r_X3_thoseThatCan_9, r_X3_thoseThatCan_12, r_X3_thoseThatCan_13, r_X3_thoseThatCan_14, r_X3_thoseThatCan_15, r_X3_thoseThatCan_16, r_X3_thoseThatCan_17, r_X3_thoseThatCan_20, r_X3_thoseThatCan_21, r_X3_thoseThatCan_22, r_X3_thoseThatCan_25, r_X3_thoseThatCan_28, r_X3_thoseThatCan_29, r_X3_thoseThatCan_30, r_X3_thoseThatCan_31, r_X3_thoseThatCan_32, r_X3_thoseThatCan_33, r_X3_thoseThatCan_34, r_X3_thoseThatCan_37, r_X3_thoseThatCan_40, r_X3_thoseThatCan_41, h, tb0]
    rw [if_neg (nI_ge hi (by omega)), c_canBeThin (by omega)]
    simp only [Option.toList, List.cons_append, List.nil_append, r_X3_thoseThatCan_0, r_X3_thoseThatCan_1, r_X3_thoseThatCan_2, r_X3_thoseThatCan_3, r_X3_thoseThatCan_5, r_X3_thoseThatCan_6, r_X3_thoseThatCan_9, r_X3_thoseThatCan_12, r_X3_thoseThatCan_13, r_X3_thoseThatCan_14, r_X3_thoseThatCan_15, r_X3_thoseThatCan_16, r_X3_thoseThatCan_17, r_X3_thoseThatCan_20, r_X3_thoseThatCan_21, r_X3_thoseThatCan_22, r_X3_thoseThatCan_25, r_X3_thoseThatCan_28, r_X3_thoseThatCan_29, r_X3_thoseThatCan_30, r_X3_thoseThatCan_31, r_X3_thoseThatCan_32, r_X3_thoseThatCan_33, r_X3_thoseThatCan_34, r_X3_thoseThatCan_37, r_X3_thoseThatCan_40, r_X3_thoseThatCan_41, tl_shl i (by omega), tl_or, nI_1]
    subst hR
    unfold wk_can
    rw [tl_fo]
    by_cases q : σ.2.2.1 30 i = -1 <;> cases q2 : tb s i <;> simp [q]
  · simp only [r_X3_thoseThatCan_4]
    simp only [r_X3_thoseThatCan_0, r_X3_thoseThatCan_1, r_X3_thoseThatCan_2, r_X3_thoseThatCan_3, r_X3_thoseThatCan_5, r_X3_thoseThatCan_6, r_X3_thoseThatCan_9, r_X3_thoseThatCan_12, r_X3_thoseThatCan_13, r_X3_thoseThatCan_14, r_X3_thoseThatCan_15, r_X3_thoseThatCan_16, r_X3_thoseThatCan_17, r_X3_thoseThatCan_20, r_X3_thoseThatCan_21, r_X3_thoseThatCan_22, r_X3_thoseThatCan_25, r_X3_thoseThatCan_28, r_X3_thoseThatCan_29, r_X3_thoseThatCan_30, r_X3_thoseThatCan_31, r_X3_thoseThatCan_32, r_X3_thoseThatCan_33, r_X3_thoseThatCan_34, r_X3_thoseThatCan_37, r_X3_thoseThatCan_40, r_X3_thoseThatCan_41, h, Int32.le_refl, if_true]
theorem c_reachOf {d : Nat} {E : ex_O → ex_S → Prop} {σ : ex_S} {n w : Nat} {t : Int32} {ha al : Nat → Nat} (h : wk_at σ n ha al) (hw : w < 8) : ex_C (d + 3) 40 [.ref 3, .int (nI w), .int t] σ E = E (.inl (some (.int (nI (wk_it ha al (tb t) n n (wk_nb ha al (tb t) w)))))) σ := by
  have hn := h.1
  have h8 := tl_p8 hn
  simp only [r_X3_reachOf, r_X3_reachOf_0, r_X3_reachOf_1, r_X3_reachOf_2, r_X3_reachOf_3, r_X3_reachOf_6, r_X3_reachOf_7, r_X3_reachOf_8, r_X3_reachOf_12, r_X3_reachOf_13, r_X3_reachOf_16, r_X3_reachOf_19, r_X3_reachOf_20, r_X3_reachOf_21, r_X3_reachOf_22, r_X3_reachOf_23, r_X3_reachOf_26, r_X3_reachOf_27, r_X3_reachOf_29, r_X3_reachOf_31, r_X3_reachOf_32, r_X3_reachOf_35, r_X3_reachOf_38, r_X3_reachOf_40, r_X3_reachOf_41, r_X3_reachOf_44, r_X3_reachOf_47, r_X3_reachOf_48]
  rw [c_needsOf h hw]
  simp only [Option.toList, List.cons_append, List.nil_append, r_X3_reachOf_0, r_X3_reachOf_1, r_X3_reachOf_2, r_X3_reachOf_3, r_X3_reachOf_6, r_X3_reachOf_7, r_X3_reachOf_8, r_X3_reachOf_12, r_X3_reachOf_13, r_X3_reachOf_16, r_X3_reachOf_19, r_X3_reachOf_20, r_X3_reachOf_21, r_X3_reachOf_22, r_X3_reachOf_23, r_X3_reachOf_26, r_X3_reachOf_27, r_X3_reachOf_29, r_X3_reachOf_31, r_X3_reachOf_32, r_X3_reachOf_35, r_X3_reachOf_38, r_X3_reachOf_40, r_X3_reachOf_41, r_X3_reachOf_44, r_X3_reachOf_47, r_X3_reachOf_48]
  have key : ∀ (k i r : Nat) (z : Value), i + k = n → r < 2 ^ n → ex_r none (d + 2) ex_m_X3_reachOf E 10 [.ref 3, .int (nI w), .int t, .int (nI r), .int (nI i), z] [] σ 0 = E (.inl (some (.int (nI (wk_it ha al (tb t) n k r))))) σ := by
    intro k
    induction k with
    | zero =>
      intro i r z hi hr
      have e : i = n := by omega
      subst e
      simp only [r_X3_reachOf_10]
      simp only [r_X3_reachOf_0, r_X3_reachOf_1, r_X3_reachOf_2, r_X3_reachOf_3, r_X3_reachOf_6, r_X3_reachOf_7, r_X3_reachOf_8, r_X3_reachOf_12, r_X3_reachOf_13, r_X3_reachOf_16, r_X3_reachOf_19, r_X3_reachOf_20, r_X3_reachOf_21, r_X3_reachOf_22, r_X3_reachOf_23, r_X3_reachOf_26, r_X3_reachOf_27, r_X3_reachOf_29, r_X3_reachOf_31, r_X3_reachOf_32, r_X3_reachOf_35, r_X3_reachOf_38, r_X3_reachOf_40, r_X3_reachOf_41, r_X3_reachOf_44, r_X3_reachOf_47, r_X3_reachOf_48, h.2.1, Int32.le_refl, if_true, wk_it]
    | succ k ih =>
      intro i r z hi hr
      have hl := wk_all_lt (s := r) (T := tb t) h
      simp only [r_X3_reachOf_10]
      simp only [r_X3_reachOf_0, r_X3_reachOf_1, r_X3_reachOf_2, r_X3_reachOf_3, r_X3_reachOf_6, r_X3_reachOf_7, r_X3_reachOf_8, r_X3_reachOf_12, r_X3_reachOf_13, r_X3_reachOf_16, r_X3_reachOf_19, r_X3_reachOf_20, r_X3_reachOf_21, r_X3_reachOf_22, r_X3_reachOf_23, r_X3_reachOf_26, r_X3_reachOf_27, r_X3_reachOf_29, r_X3_reachOf_31, r_X3_reachOf_32, r_X3_reachOf_35, r_X3_reachOf_38, r_X3_reachOf_40, r_X3_reachOf_41, r_X3_reachOf_44, r_X3_reachOf_47, r_X3_reachOf_48, h.2.1]
      rw [if_neg (nI_ge (show i < n by omega) (by omega)), c_needsOfAll h (by omega)]
      simp only [Option.toList, List.cons_append, List.nil_append, r_X3_reachOf_0, r_X3_reachOf_1, r_X3_reachOf_2, r_X3_reachOf_3, r_X3_reachOf_6, r_X3_reachOf_7, r_X3_reachOf_8, r_X3_reachOf_12, r_X3_reachOf_13, r_X3_reachOf_16, r_X3_reachOf_19, r_X3_reachOf_20, r_X3_reachOf_21, r_X3_reachOf_22, r_X3_reachOf_23, r_X3_reachOf_26, r_X3_reachOf_27, r_X3_reachOf_29, r_X3_reachOf_31, r_X3_reachOf_32, r_X3_reachOf_35, r_X3_reachOf_38, r_X3_reachOf_40, r_X3_reachOf_41, r_X3_reachOf_44, r_X3_reachOf_47, r_X3_reachOf_48, tl_or, nI_1]
      have hl2 := Nat.or_lt_two_pow hr hl
      by_cases q : r ||| wk_all ha al (tb t) n r = r
      · rw [q, if_pos rfl, wk_it_fix q]
      · rw [if_neg (by rw [nI_eq (by omega) (by omega)]; exact q), ih _ _ _ (by omega) hl2, wk_it]
  exact key n 0 _ _ (by omega) (wk_nb_lt h hw)
theorem c_leastSteps {d : Nat} {E : ex_O → ex_S → Prop} {σ : ex_S} {n w v : Nat} {ha al : Nat → Nat} (h : wk_at σ n ha al) (hw : w < 8) (hv : v < 8) : ex_C (d + 3) 41 [.ref 3, .int (nI w), .int (nI v)] σ E = E (.inl (some (.int (wk_ls (wk_fr ha al (tb 0) n w) v n 0)))) σ := by
  have hn := h.1
  have h8 := tl_p8 hn
  simp only [r_X3_leastSteps, r_X3_leastSteps_0, r_X3_leastSteps_1, r_X3_leastSteps_2, r_X3_leastSteps_3, r_X3_leastSteps_6, r_X3_leastSteps_7, r_X3_leastSteps_8, r_X3_leastSteps_12, r_X3_leastSteps_13, r_X3_leastSteps_16, r_X3_leastSteps_19, r_X3_leastSteps_20, r_X3_leastSteps_21, r_X3_leastSteps_22, r_X3_leastSteps_23, r_X3_leastSteps_24, r_X3_leastSteps_27, r_X3_leastSteps_29, r_X3_leastSteps_30, r_X3_leastSteps_31, r_X3_leastSteps_32, r_X3_leastSteps_33, r_X3_leastSteps_36, r_X3_leastSteps_37, r_X3_leastSteps_40, r_X3_leastSteps_43, r_X3_leastSteps_44]
  rw [c_needsOf h hw]
  simp only [Option.toList, List.cons_append, List.nil_append, r_X3_leastSteps_0, r_X3_leastSteps_1, r_X3_leastSteps_2, r_X3_leastSteps_3, r_X3_leastSteps_6, r_X3_leastSteps_7, r_X3_leastSteps_8, r_X3_leastSteps_12, r_X3_leastSteps_13, r_X3_leastSteps_16, r_X3_leastSteps_19, r_X3_leastSteps_20, r_X3_leastSteps_21, r_X3_leastSteps_22, r_X3_leastSteps_23, r_X3_leastSteps_24, r_X3_leastSteps_27, r_X3_leastSteps_29, r_X3_leastSteps_30, r_X3_leastSteps_31, r_X3_leastSteps_32, r_X3_leastSteps_33, r_X3_leastSteps_36, r_X3_leastSteps_37, r_X3_leastSteps_40, r_X3_leastSteps_43, r_X3_leastSteps_44]
  have hlt : ∀ k, wk_fr ha al (tb 0) n w k < 2 ^ n := by
    intro k
    cases k with
    | zero => exact wk_nb_lt h hw
    | succ k => exact wk_all_lt h
  have key : ∀ (r k : Nat), k + r = n → ex_r none (d + 2) ex_m_X3_leastSteps E 10 [.ref 3, .int (nI w), .int (nI v), .int (nI (wk_fr ha al (tb 0) n w k)), .int (nI (k + 1))] [] σ 0 = E (.inl (some (.int (wk_ls (wk_fr ha al (tb 0) n w) v r k)))) σ := by
    intro r
    induction r with
    | zero =>
      intro k hk
      have e : k = n := by omega
      subst e
      simp only [r_X3_leastSteps_10]
      simp only [r_X3_leastSteps_0, r_X3_leastSteps_1, r_X3_leastSteps_2, r_X3_leastSteps_3, r_X3_leastSteps_6, r_X3_leastSteps_7, r_X3_leastSteps_8, r_X3_leastSteps_12, r_X3_leastSteps_13, r_X3_leastSteps_16, r_X3_leastSteps_19, r_X3_leastSteps_20, r_X3_leastSteps_21, r_X3_leastSteps_22, r_X3_leastSteps_23, r_X3_leastSteps_24, r_X3_leastSteps_27, r_X3_leastSteps_29, r_X3_leastSteps_30, r_X3_leastSteps_31, r_X3_leastSteps_32, r_X3_leastSteps_33, r_X3_leastSteps_36, r_X3_leastSteps_37, r_X3_leastSteps_40, r_X3_leastSteps_43, r_X3_leastSteps_44, h.2.1]
      rw [if_pos (nI_lt (by omega) (by omega)), wk_ls]
    | succ r ih =>
      intro k hk
      have h1 := hlt k
      simp only [r_X3_leastSteps_10]
      simp only [r_X3_leastSteps_0, r_X3_leastSteps_1, r_X3_leastSteps_2, r_X3_leastSteps_3, r_X3_leastSteps_6, r_X3_leastSteps_7, r_X3_leastSteps_8, r_X3_leastSteps_12, r_X3_leastSteps_13, r_X3_leastSteps_16, r_X3_leastSteps_19, r_X3_leastSteps_20, r_X3_leastSteps_21, r_X3_leastSteps_22, r_X3_leastSteps_23, r_X3_leastSteps_24, r_X3_leastSteps_27, r_X3_leastSteps_29, r_X3_leastSteps_30, r_X3_leastSteps_31, r_X3_leastSteps_32, r_X3_leastSteps_33, r_X3_leastSteps_36, r_X3_leastSteps_37, r_X3_leastSteps_40, r_X3_leastSteps_43, r_X3_leastSteps_44, h.2.1, tb0, tb_nI (show wk_fr ha al (tb 0) n w k < 2 ^ 31 by omega) (show v < 32 by omega)]
      rw [if_neg (nI_nlt (by omega) (by omega)), c_needsOfAll h (by omega)]
      simp only [Option.toList, List.cons_append, List.nil_append, r_X3_leastSteps_0, r_X3_leastSteps_1, r_X3_leastSteps_2, r_X3_leastSteps_3, r_X3_leastSteps_6, r_X3_leastSteps_7, r_X3_leastSteps_8, r_X3_leastSteps_12, r_X3_leastSteps_13, r_X3_leastSteps_16, r_X3_leastSteps_19, r_X3_leastSteps_20, r_X3_leastSteps_21, r_X3_leastSteps_22, r_X3_leastSteps_23, r_X3_leastSteps_24, r_X3_leastSteps_27, r_X3_leastSteps_29, r_X3_leastSteps_30, r_X3_leastSteps_31, r_X3_leastSteps_32, r_X3_leastSteps_33, r_X3_leastSteps_36, r_X3_leastSteps_37, r_X3_leastSteps_40, r_X3_leastSteps_43, r_X3_leastSteps_44, nI_1]
      have h2 := ih (k + 1) (by omega)
      rw [wk_fr] at h2
      rw [h2, wk_ls]
      cases (wk_fr ha al (tb 0) n w k).testBit v <;> simp
  exact key n 0 (by omega)
theorem c_inRings {d : Nat} {E : ex_O → ex_S → Prop} {σ : ex_S} {n : Nat} {t : Int32} {ha al : Nat → Nat} (h : wk_at σ n ha al) : ex_C (d + 4) 42 [.ref 3, .int t] σ E = E (.inl (some (.int (nI (tl_fo (fun w => if (wk_it ha al (tb t) n n (wk_nb ha al (tb t) w)).testBit w = true then 2 ^ w else 0) n))))) σ := by
  have hn := h.1
  have h8 := tl_p8 hn
  simp only [r_X3_inRings, r_X3_inRings_0, r_X3_inRings_1, r_X3_inRings_2, r_X3_inRings_3, r_X3_inRings_5, r_X3_inRings_6, r_X3_inRings_9, r_X3_inRings_12, r_X3_inRings_13, r_X3_inRings_14, r_X3_inRings_15, r_X3_inRings_18, r_X3_inRings_19, r_X3_inRings_20, r_X3_inRings_21, r_X3_inRings_22, r_X3_inRings_25, r_X3_inRings_26, r_X3_inRings_27, r_X3_inRings_28, r_X3_inRings_29, r_X3_inRings_30, r_X3_inRings_31, r_X3_inRings_34, r_X3_inRings_37, r_X3_inRings_38]
  refine (tl_for (A := fun i => ex_r none (d + 3) ex_m_X3_inRings E 4 [.ref 3, .int t, .int (nI (tl_fo (fun w => if (wk_it ha al (tb t) n n (wk_nb ha al (tb t) w)).testBit w = true then 2 ^ w else 0) i)), .int (nI i)] [] σ 0) (n := n) ?_).trans ?_
  · intro i hi R hR
    have hl := wk_it_lt (k := n) (T := tb t) h (wk_nb_lt (T := tb t) (w := i) h (by omega))
    simp only [r_X3_inRings_4]
    simp only [r_X3_inRings_0, r_X3_inRings_1, r_X3_inRings_2, r_X3_inRings_3, r_X3_inRings_5, r_X3_inRings_6, r_X3_inRings_9, r_X3_inRings_12, r_X3_inRings_13, r_X3_inRings_14, r_X3_inRings_15, r_X3_inRings_18, r_X3_inRings_19, r_X3_inRings_20, r_X3_inRings_21, r_X3_inRings_22, r_X3_inRings_25, r_X3_inRings_26, r_X3_inRings_27, r_X3_inRings_28, r_X3_inRings_29, r_X3_inRings_30, r_X3_inRings_31, r_X3_inRings_34, r_X3_inRings_37, r_X3_inRings_38, h.2.1]
    rw [if_neg (nI_ge hi (by omega)), c_reachOf h (by omega)]
    simp only [Option.toList, List.cons_append, List.nil_append, r_X3_inRings_0, r_X3_inRings_1, r_X3_inRings_2, r_X3_inRings_3, r_X3_inRings_5, r_X3_inRings_6, r_X3_inRings_9, r_X3_inRings_12, r_X3_inRings_13, r_X3_inRings_14, r_X3_inRings_15, r_X3_inRings_18, r_X3_inRings_19, r_X3_inRings_20, r_X3_inRings_21, r_X3_inRings_22, r_X3_inRings_25, r_X3_inRings_26, r_X3_inRings_27, r_X3_inRings_28, r_X3_inRings_29, r_X3_inRings_30, r_X3_inRings_31, r_X3_inRings_34, r_X3_inRings_37, r_X3_inRings_38, tb0, tl_shl i (by omega), tl_or, nI_1]
    subst hR
    rw [tb_nI (by omega) (by omega), tl_fo]
    cases q2 : (wk_it ha al (tb t) n n (wk_nb ha al (tb t) i)).testBit i <;> simp
  · simp only [r_X3_inRings_4]
    simp only [r_X3_inRings_0, r_X3_inRings_1, r_X3_inRings_2, r_X3_inRings_3, r_X3_inRings_5, r_X3_inRings_6, r_X3_inRings_9, r_X3_inRings_12, r_X3_inRings_13, r_X3_inRings_14, r_X3_inRings_15, r_X3_inRings_18, r_X3_inRings_19, r_X3_inRings_20, r_X3_inRings_21, r_X3_inRings_22, r_X3_inRings_25, r_X3_inRings_26, r_X3_inRings_27, r_X3_inRings_28, r_X3_inRings_29, r_X3_inRings_30, r_X3_inRings_31, r_X3_inRings_34, r_X3_inRings_37, r_X3_inRings_38, h.2.1, Int32.le_refl, if_true]
theorem c_costOf {d : Nat} {E : ex_O → ex_S → Prop} {σ : ex_S} {n : Nat} {s : Int32} (hn : n ≤ 8) (h : σ.1 306 = nI n) : ex_C (d + 1) 45 [.ref 3, .int s] σ E = E (.inl (some (.int (wk_co (σ.2.2.1 30) s n)))) σ := by
  simp only [r_X3_costOf, r_X3_costOf_0, r_X3_costOf_1, r_X3_costOf_2, r_X3_costOf_3, r_X3_costOf_5, r_X3_costOf_6, r_X3_costOf_9, r_X3_costOf_12, r_X3_costOf_13, r_X3_costOf_14, r_X3_costOf_15, r_X3_costOf_16, r_X3_costOf_17, r_X3_costOf_20, r_X3_costOf_21, r_X3_costOf_22, r_X3_costOf_25, r_X3_costOf_26, r_X3_costOf_27, r_X3_costOf_28, r_X3_costOf_29, r_X3_costOf_32, r_X3_costOf_35, r_X3_costOf_36]
  refine (tl_for (A := fun i => ex_r none d ex_m_X3_costOf E 4 [.ref 3, .int s, .int (wk_co (σ.2.2.1 30) s i), .int (nI i)] [] σ 0) (n := n) ?_).trans ?_
  · intro i hi R hR
    simp only [r_X3_costOf_4]
    simp only [r_X3_costOf_0, r_X3_costOf_1, r_X3_costOf_2, r_X3_costOf_3, r_X3_costOf_5, r_X3_costOf_6, r_X3_costOf_9, r_X3_costOf_12, r_X3_costOf_13, r_X3_costOf_14, r_X3_costOf_15, r_X3_costOf_16, r_X3_costOf_17, r_X3_costOf_20, r_X3_costOf_21, r_X3_costOf_22, r_X3_costOf_25, r_X3_costOf_26, r_X3_costOf_27, r_X3_costOf_28, r_X3_costOf_29, r_X3_costOf_32, r_X3_costOf_35, r_X3_costOf_36, h, tb0, tl_in (show i < 8 by omega) (show 8 < 2 ^ 31 by omega), tl_cl (show i < 2 ^ 31 by omega), true_and, nI_1]
    subst hR
    rw [if_neg (nI_ge hi (by omega)), wk_co]
    cases q2 : tb s i <;> simp
  · simp only [r_X3_costOf_4]
    simp only [r_X3_costOf_0, r_X3_costOf_1, r_X3_costOf_2, r_X3_costOf_3, r_X3_costOf_5, r_X3_costOf_6, r_X3_costOf_9, r_X3_costOf_12, r_X3_costOf_13, r_X3_costOf_14, r_X3_costOf_15, r_X3_costOf_16, r_X3_costOf_17, r_X3_costOf_20, r_X3_costOf_21, r_X3_costOf_22, r_X3_costOf_25, r_X3_costOf_26, r_X3_costOf_27, r_X3_costOf_28, r_X3_costOf_29, r_X3_costOf_32, r_X3_costOf_35, r_X3_costOf_36, h, Int32.le_refl, if_true]
theorem c_hasRing {d : Nat} {E : ex_O → ex_S → Prop} {σ : ex_S} {n : Nat} {t : Int32} {ha al : Nat → Nat} (h : wk_at σ n ha al) : ex_C (d + 2) 43 [.ref 3, .int t] σ E = E (.inl (some (.int (if wk_kb ha al (tb t) n n (2 ^ n - 1) = true then 1 else 0)))) σ := by
  have hn := h.1
  have h8 := tl_p8 hn
  have hp := Nat.two_pow_pos n
  simp only [r_X3_hasRing, r_X3_hasRing_0, r_X3_hasRing_1, r_X3_hasRing_4, r_X3_hasRing_5, r_X3_hasRing_6, r_X3_hasRing_8, r_X3_hasRing_9, r_X3_hasRing_12, r_X3_hasRing_15, r_X3_hasRing_16, r_X3_hasRing_19, r_X3_hasRing_20, r_X3_hasRing_22, r_X3_hasRing_23, r_X3_hasRing_27, r_X3_hasRing_28, r_X3_hasRing_31, r_X3_hasRing_34, r_X3_hasRing_35, r_X3_hasRing_37, r_X3_hasRing_38, r_X3_hasRing_39, r_X3_hasRing_40, r_X3_hasRing_43, r_X3_hasRing_44, r_X3_hasRing_46, r_X3_hasRing_47, r_X3_hasRing_50, r_X3_hasRing_51, r_X3_hasRing_52, r_X3_hasRing_55, r_X3_hasRing_56, r_X3_hasRing_57, r_X3_hasRing_59, r_X3_hasRing_60, r_X3_hasRing_61, r_X3_hasRing_62, r_X3_hasRing_63, r_X3_hasRing_64, r_X3_hasRing_67, r_X3_hasRing_70, r_X3_hasRing_71, r_X3_hasRing_73, r_X3_hasRing_76, r_X3_hasRing_77, r_X3_hasRing_78, r_X3_hasRing_81, r_X3_hasRing_84, r_X3_hasRing_85, r_X3_hasRing_88, r_X3_hasRing_89, r_X3_hasRing_92, r_X3_hasRing_93]
  rw [c_everyWork h]
  simp only [Option.toList, List.cons_append, List.nil_append, r_X3_hasRing_0, r_X3_hasRing_1, r_X3_hasRing_4, r_X3_hasRing_5, r_X3_hasRing_6, r_X3_hasRing_8, r_X3_hasRing_9, r_X3_hasRing_12, r_X3_hasRing_15, r_X3_hasRing_16, r_X3_hasRing_19, r_X3_hasRing_20, r_X3_hasRing_22, r_X3_hasRing_23, r_X3_hasRing_27, r_X3_hasRing_28, r_X3_hasRing_31, r_X3_hasRing_34, r_X3_hasRing_35, r_X3_hasRing_37, r_X3_hasRing_38, r_X3_hasRing_39, r_X3_hasRing_40, r_X3_hasRing_43, r_X3_hasRing_44, r_X3_hasRing_46, r_X3_hasRing_47, r_X3_hasRing_50, r_X3_hasRing_51, r_X3_hasRing_52, r_X3_hasRing_55, r_X3_hasRing_56, r_X3_hasRing_57, r_X3_hasRing_59, r_X3_hasRing_60, r_X3_hasRing_61, r_X3_hasRing_62, r_X3_hasRing_63, r_X3_hasRing_64, r_X3_hasRing_67, r_X3_hasRing_70, r_X3_hasRing_71, r_X3_hasRing_73, r_X3_hasRing_76, r_X3_hasRing_77, r_X3_hasRing_78, r_X3_hasRing_81, r_X3_hasRing_84, r_X3_hasRing_85, r_X3_hasRing_88, r_X3_hasRing_89, r_X3_hasRing_92, r_X3_hasRing_93]
  have inner : ∀ (k r : Nat), r < 2 ^ n → ex_r none (d + 1) ex_m_X3_hasRing E 25 [.ref 3, .int t, .int (nI r), .int (nI k), .int (nI r), .int (nI 0)] [] σ 0 = ex_r none (d + 1) ex_m_X3_hasRing E 25 [.ref 3, .int t, .int (nI (wk_kr ha al (tb t) r n)), .int (nI k), .int (nI r), .int (nI n)] [] σ 0 := by
    intro k r hr
    refine (tl_for (A := fun i => ex_r none (d + 1) ex_m_X3_hasRing E 25 [.ref 3, .int t, .int (nI (wk_kr ha al (tb t) r i)), .int (nI k), .int (nI r), .int (nI i)] [] σ 0) (n := n) ?_)
    intro i hi R hR
    have hl := wk_kr_lt (ha := ha) (al := al) (T := tb t) hr i
    have hl2 := wk_nb_lt (T := tb t) (w := i) h (by omega)
    have hl3 := Nat.and_lt_two_pow (wk_nb ha al (tb t) i) hl
    have he := tb_nI (x := wk_kr ha al (tb t) r i) (j := i) (by omega) (by omega)
    simp only [r_X3_hasRing_25]
    simp only [r_X3_hasRing_0, r_X3_hasRing_1, r_X3_hasRing_4, r_X3_hasRing_5, r_X3_hasRing_6, r_X3_hasRing_8, r_X3_hasRing_9, r_X3_hasRing_12, r_X3_hasRing_15, r_X3_hasRing_16, r_X3_hasRing_19, r_X3_hasRing_20, r_X3_hasRing_22, r_X3_hasRing_23, r_X3_hasRing_27, r_X3_hasRing_28, r_X3_hasRing_31, r_X3_hasRing_34, r_X3_hasRing_35, r_X3_hasRing_37, r_X3_hasRing_38, r_X3_hasRing_39, r_X3_hasRing_40, r_X3_hasRing_43, r_X3_hasRing_44, r_X3_hasRing_46, r_X3_hasRing_47, r_X3_hasRing_50, r_X3_hasRing_51, r_X3_hasRing_52, r_X3_hasRing_55, r_X3_hasRing_56, r_X3_hasRing_57, r_X3_hasRing_59, r_X3_hasRing_60, r_X3_hasRing_61, r_X3_hasRing_62, r_X3_hasRing_63, r_X3_hasRing_64, r_X3_hasRing_67, r_X3_hasRing_70, r_X3_hasRing_71, r_X3_hasRing_73, r_X3_hasRing_76, r_X3_hasRing_77, r_X3_hasRing_78, r_X3_hasRing_81, r_X3_hasRing_84, r_X3_hasRing_85, r_X3_hasRing_88, r_X3_hasRing_89, r_X3_hasRing_92, r_X3_hasRing_93, h.2.1, tb0, he]
    rw [if_neg (nI_ge hi (by omega)), c_needsOf h (by omega)]
    simp only [Option.toList, List.cons_append, List.nil_append, r_X3_hasRing_0, r_X3_hasRing_1, r_X3_hasRing_4, r_X3_hasRing_5, r_X3_hasRing_6, r_X3_hasRing_8, r_X3_hasRing_9, r_X3_hasRing_12, r_X3_hasRing_15, r_X3_hasRing_16, r_X3_hasRing_19, r_X3_hasRing_20, r_X3_hasRing_22, r_X3_hasRing_23, r_X3_hasRing_27, r_X3_hasRing_28, r_X3_hasRing_31, r_X3_hasRing_34, r_X3_hasRing_35, r_X3_hasRing_37, r_X3_hasRing_38, r_X3_hasRing_39, r_X3_hasRing_40, r_X3_hasRing_43, r_X3_hasRing_44, r_X3_hasRing_46, r_X3_hasRing_47, r_X3_hasRing_50, r_X3_hasRing_51, r_X3_hasRing_52, r_X3_hasRing_55, r_X3_hasRing_56, r_X3_hasRing_57, r_X3_hasRing_59, r_X3_hasRing_60, r_X3_hasRing_61, r_X3_hasRing_62, r_X3_hasRing_63, r_X3_hasRing_64, r_X3_hasRing_67, r_X3_hasRing_70, r_X3_hasRing_71, r_X3_hasRing_73, r_X3_hasRing_76, r_X3_hasRing_77, r_X3_hasRing_78, r_X3_hasRing_81, r_X3_hasRing_84, r_X3_hasRing_85, r_X3_hasRing_88, r_X3_hasRing_89, r_X3_hasRing_92, r_X3_hasRing_93, tl_shl i (by omega), tl_and, tl_andnot, nI_1]
    subst hR
    rw [wk_kr]
    simp only [tl_eq0 (show wk_nb ha al (tb t) i &&& wk_kr ha al (tb t) r i < 2 ^ 31 by omega)]
    by_cases q : (wk_nb ha al (tb t) i &&& wk_kr ha al (tb t) r i) = 0 <;> cases q2 : (wk_kr ha al (tb t) r i).testBit i <;> simp [q]
  have key : ∀ (k i r : Nat) (z1 z2 : Value), i + k = n → r < 2 ^ n → ex_r none (d + 1) ex_m_X3_hasRing E 7 [.ref 3, .int t, .int (nI r), .int (nI i), z1, z2] [] σ 0 = E (.inl (some (.int (if wk_kb ha al (tb t) n k r = true then 1 else 0)))) σ := by
    intro k
    induction k with
    | zero =>
      intro i r z1 z2 hi hr
      have e : i = n := by omega
      subst e
      simp only [r_X3_hasRing_7]
      simp only [r_X3_hasRing_0, r_X3_hasRing_1, r_X3_hasRing_4, r_X3_hasRing_5, r_X3_hasRing_6, r_X3_hasRing_8, r_X3_hasRing_9, r_X3_hasRing_12, r_X3_hasRing_15, r_X3_hasRing_16, r_X3_hasRing_19, r_X3_hasRing_20, r_X3_hasRing_22, r_X3_hasRing_23, r_X3_hasRing_27, r_X3_hasRing_28, r_X3_hasRing_31, r_X3_hasRing_34, r_X3_hasRing_35, r_X3_hasRing_37, r_X3_hasRing_38, r_X3_hasRing_39, r_X3_hasRing_40, r_X3_hasRing_43, r_X3_hasRing_44, r_X3_hasRing_46, r_X3_hasRing_47, r_X3_hasRing_50, r_X3_hasRing_51, r_X3_hasRing_52, r_X3_hasRing_55, r_X3_hasRing_56, r_X3_hasRing_57, r_X3_hasRing_59, r_X3_hasRing_60, r_X3_hasRing_61, r_X3_hasRing_62, r_X3_hasRing_63, r_X3_hasRing_64, r_X3_hasRing_67, r_X3_hasRing_70, r_X3_hasRing_71, r_X3_hasRing_73, r_X3_hasRing_76, r_X3_hasRing_77, r_X3_hasRing_78, r_X3_hasRing_81, r_X3_hasRing_84, r_X3_hasRing_85, r_X3_hasRing_88, r_X3_hasRing_89, r_X3_hasRing_92, r_X3_hasRing_93, h.2.1, Int32.le_refl, if_true, wk_kb]
      simp only [tl_eq0 (show r < 2 ^ 31 by omega)]
      by_cases q : r = 0 <;> simp [q, tl_b0, tl_b1]
    | succ k ih =>
      intro i r z1 z2 hi hr
      have hl := wk_kr_lt (ha := ha) (al := al) (T := tb t) hr n
      simp only [r_X3_hasRing_7]
      simp only [r_X3_hasRing_0, r_X3_hasRing_1, r_X3_hasRing_4, r_X3_hasRing_5, r_X3_hasRing_6, r_X3_hasRing_8, r_X3_hasRing_9, r_X3_hasRing_12, r_X3_hasRing_15, r_X3_hasRing_16, r_X3_hasRing_19, r_X3_hasRing_20, r_X3_hasRing_22, r_X3_hasRing_23, r_X3_hasRing_27, r_X3_hasRing_28, r_X3_hasRing_31, r_X3_hasRing_34, r_X3_hasRing_35, r_X3_hasRing_37, r_X3_hasRing_38, r_X3_hasRing_39, r_X3_hasRing_40, r_X3_hasRing_43, r_X3_hasRing_44, r_X3_hasRing_46, r_X3_hasRing_47, r_X3_hasRing_50, r_X3_hasRing_51, r_X3_hasRing_52, r_X3_hasRing_55, r_X3_hasRing_56, r_X3_hasRing_57, r_X3_hasRing_59, r_X3_hasRing_60, r_X3_hasRing_61, r_X3_hasRing_62, r_X3_hasRing_63, r_X3_hasRing_64, r_X3_hasRing_67, r_X3_hasRing_70, r_X3_hasRing_71, r_X3_hasRing_73, r_X3_hasRing_76, r_X3_hasRing_77, r_X3_hasRing_78, r_X3_hasRing_81, r_X3_hasRing_84, r_X3_hasRing_85, r_X3_hasRing_88, r_X3_hasRing_89, r_X3_hasRing_92, r_X3_hasRing_93, h.2.1]
      rw [if_neg (nI_ge (show i < n by omega) (by omega))]
      have e := inner i r hr
      simp only [show nI 0 = (0 : Int32) from rfl] at e
      rw [e]
      simp only [r_X3_hasRing_25]
      simp only [r_X3_hasRing_0, r_X3_hasRing_1, r_X3_hasRing_4, r_X3_hasRing_5, r_X3_hasRing_6, r_X3_hasRing_8, r_X3_hasRing_9, r_X3_hasRing_12, r_X3_hasRing_15, r_X3_hasRing_16, r_X3_hasRing_19, r_X3_hasRing_20, r_X3_hasRing_22, r_X3_hasRing_23, r_X3_hasRing_27, r_X3_hasRing_28, r_X3_hasRing_31, r_X3_hasRing_34, r_X3_hasRing_35, r_X3_hasRing_37, r_X3_hasRing_38, r_X3_hasRing_39, r_X3_hasRing_40, r_X3_hasRing_43, r_X3_hasRing_44, r_X3_hasRing_46, r_X3_hasRing_47, r_X3_hasRing_50, r_X3_hasRing_51, r_X3_hasRing_52, r_X3_hasRing_55, r_X3_hasRing_56, r_X3_hasRing_57, r_X3_hasRing_59, r_X3_hasRing_60, r_X3_hasRing_61, r_X3_hasRing_62, r_X3_hasRing_63, r_X3_hasRing_64, r_X3_hasRing_67, r_X3_hasRing_70, r_X3_hasRing_71, r_X3_hasRing_73, r_X3_hasRing_76, r_X3_hasRing_77, r_X3_hasRing_78, r_X3_hasRing_81, r_X3_hasRing_84, r_X3_hasRing_85, r_X3_hasRing_88, r_X3_hasRing_89, r_X3_hasRing_92, r_X3_hasRing_93, h.2.1, Int32.le_refl, if_true, nI_1]
      rw [ih _ _ _ _ (by omega) hl, wk_kb]
      simp only [tl_eq0 (show r < 2 ^ 31 by omega), tl_eq (show wk_kr ha al (tb t) r n < 2 ^ 31 by omega) (show r < 2 ^ 31 by omega)]
      by_cases q : r = 0 <;> by_cases q2 : wk_kr ha al (tb t) r n = r <;> simp [q, q2, tl_b0, tl_b1]
  exact key n 0 _ _ _ (by omega) (by omega)
theorem c_cheapestCut {d : Nat} {E : ex_O → ex_S → Prop} {σ : ex_S} {n : Nat} {ha al : Nat → Nat} (h : wk_at σ n ha al) : ex_C (d + 3) 44 [.ref 3] σ E = E (.inl (some (.int (wk_cc ha al (σ.2.2.1 30) n (2 ^ n)).1))) σ := by
  have hn := h.1
  have h8 := tl_p8 hn
  have hp := Nat.two_pow_pos n
  simp only [r_X3_cheapestCut, r_X3_cheapestCut_0, r_X3_cheapestCut_1, r_X3_cheapestCut_2, r_X3_cheapestCut_3, r_X3_cheapestCut_4, r_X3_cheapestCut_5, r_X3_cheapestCut_8, r_X3_cheapestCut_9, r_X3_cheapestCut_10, r_X3_cheapestCut_14, r_X3_cheapestCut_15, r_X3_cheapestCut_18, r_X3_cheapestCut_19, r_X3_cheapestCut_21, r_X3_cheapestCut_24, r_X3_cheapestCut_26, r_X3_cheapestCut_29, r_X3_cheapestCut_32, r_X3_cheapestCut_33, r_X3_cheapestCut_35, r_X3_cheapestCut_38, r_X3_cheapestCut_40, r_X3_cheapestCut_41, r_X3_cheapestCut_42, r_X3_cheapestCut_45, r_X3_cheapestCut_47, r_X3_cheapestCut_48, r_X3_cheapestCut_51, r_X3_cheapestCut_52, r_X3_cheapestCut_54, r_X3_cheapestCut_57, r_X3_cheapestCut_60, r_X3_cheapestCut_62, r_X3_cheapestCut_63, r_X3_cheapestCut_65, r_X3_cheapestCut_66, r_X3_cheapestCut_69, r_X3_cheapestCut_72, r_X3_cheapestCut_73]
  rw [c_everyWork h]
  simp only [Option.toList, List.cons_append, List.nil_append, r_X3_cheapestCut_0, r_X3_cheapestCut_1, r_X3_cheapestCut_2, r_X3_cheapestCut_3, r_X3_cheapestCut_4, r_X3_cheapestCut_5, r_X3_cheapestCut_8, r_X3_cheapestCut_9, r_X3_cheapestCut_10, r_X3_cheapestCut_14, r_X3_cheapestCut_15, r_X3_cheapestCut_18, r_X3_cheapestCut_19, r_X3_cheapestCut_21, r_X3_cheapestCut_24, r_X3_cheapestCut_26, r_X3_cheapestCut_29, r_X3_cheapestCut_32, r_X3_cheapestCut_33, r_X3_cheapestCut_35, r_X3_cheapestCut_38, r_X3_cheapestCut_40, r_X3_cheapestCut_41, r_X3_cheapestCut_42, r_X3_cheapestCut_45, r_X3_cheapestCut_47, r_X3_cheapestCut_48, r_X3_cheapestCut_51, r_X3_cheapestCut_52, r_X3_cheapestCut_54, r_X3_cheapestCut_57, r_X3_cheapestCut_60, r_X3_cheapestCut_62, r_X3_cheapestCut_63, r_X3_cheapestCut_65, r_X3_cheapestCut_66, r_X3_cheapestCut_69, r_X3_cheapestCut_72, r_X3_cheapestCut_73]
  refine tl_forz (A := fun k z => ex_r none (d + 2) ex_m_X3_cheapestCut E 12 [.ref 3, .int (wk_cc ha al (σ.2.2.1 30) n k).1, .int (wk_cc ha al (σ.2.2.1 30) n k).2, .int (nI (2 ^ n - 1)), .int (nI k), z] [] σ 0) (n := 2 ^ n) ?_ ?_ _
  · intro k hk z R hR
    have hcl : wk_can (σ.2.2.1 30) (nI k) n < 2 ^ n := by
      apply tl_fo_lt
      intro i hi
      split
      · exact Nat.pow_lt_pow_right (by decide) hi
      · exact Nat.two_pow_pos n
    simp only [r_X3_cheapestCut_12]
    simp only [r_X3_cheapestCut_0, r_X3_cheapestCut_1, r_X3_cheapestCut_2, r_X3_cheapestCut_3, r_X3_cheapestCut_4, r_X3_cheapestCut_5, r_X3_cheapestCut_8, r_X3_cheapestCut_9, r_X3_cheapestCut_10, r_X3_cheapestCut_14, r_X3_cheapestCut_15, r_X3_cheapestCut_18, r_X3_cheapestCut_19, r_X3_cheapestCut_21, r_X3_cheapestCut_24, r_X3_cheapestCut_26, r_X3_cheapestCut_29, r_X3_cheapestCut_32, r_X3_cheapestCut_33, r_X3_cheapestCut_35, r_X3_cheapestCut_38, r_X3_cheapestCut_40, r_X3_cheapestCut_41, r_X3_cheapestCut_42, r_X3_cheapestCut_45, r_X3_cheapestCut_47, r_X3_cheapestCut_48, r_X3_cheapestCut_51, r_X3_cheapestCut_52, r_X3_cheapestCut_54, r_X3_cheapestCut_57, r_X3_cheapestCut_60, r_X3_cheapestCut_62, r_X3_cheapestCut_63, r_X3_cheapestCut_65, r_X3_cheapestCut_66, r_X3_cheapestCut_69, r_X3_cheapestCut_72, r_X3_cheapestCut_73]
    rw [if_neg (nI_nlt (by omega) (by omega)), c_thoseThatCan hn h.2.1]
    simp only [Option.toList, List.cons_append, List.nil_append, r_X3_cheapestCut_0, r_X3_cheapestCut_1, r_X3_cheapestCut_2, r_X3_cheapestCut_3, r_X3_cheapestCut_4, r_X3_cheapestCut_5, r_X3_cheapestCut_8, r_X3_cheapestCut_9, r_X3_cheapestCut_10, r_X3_cheapestCut_14, r_X3_cheapestCut_15, r_X3_cheapestCut_18, r_X3_cheapestCut_19, r_X3_cheapestCut_21, r_X3_cheapestCut_24, r_X3_cheapestCut_26, r_X3_cheapestCut_29, r_X3_cheapestCut_32, r_X3_cheapestCut_33, r_X3_cheapestCut_35, r_X3_cheapestCut_38, r_X3_cheapestCut_40, r_X3_cheapestCut_41, r_X3_cheapestCut_42, r_X3_cheapestCut_45, r_X3_cheapestCut_47, r_X3_cheapestCut_48, r_X3_cheapestCut_51, r_X3_cheapestCut_52, r_X3_cheapestCut_54, r_X3_cheapestCut_57, r_X3_cheapestCut_60, r_X3_cheapestCut_62, r_X3_cheapestCut_63, r_X3_cheapestCut_65, r_X3_cheapestCut_66, r_X3_cheapestCut_69, r_X3_cheapestCut_72, r_X3_cheapestCut_73, tl_eq (show wk_can (σ.2.2.1 30) (nI k) n < 2 ^ 31 by omega) (show k < 2 ^ 31 by omega)]
    rw [c_costOf hn h.2.1]
    simp only [Option.toList, List.cons_append, List.nil_append, r_X3_cheapestCut_0, r_X3_cheapestCut_1, r_X3_cheapestCut_2, r_X3_cheapestCut_3, r_X3_cheapestCut_4, r_X3_cheapestCut_5, r_X3_cheapestCut_8, r_X3_cheapestCut_9, r_X3_cheapestCut_10, r_X3_cheapestCut_14, r_X3_cheapestCut_15, r_X3_cheapestCut_18, r_X3_cheapestCut_19, r_X3_cheapestCut_21, r_X3_cheapestCut_24, r_X3_cheapestCut_26, r_X3_cheapestCut_29, r_X3_cheapestCut_32, r_X3_cheapestCut_33, r_X3_cheapestCut_35, r_X3_cheapestCut_38, r_X3_cheapestCut_40, r_X3_cheapestCut_41, r_X3_cheapestCut_42, r_X3_cheapestCut_45, r_X3_cheapestCut_47, r_X3_cheapestCut_48, r_X3_cheapestCut_51, r_X3_cheapestCut_52, r_X3_cheapestCut_54, r_X3_cheapestCut_57, r_X3_cheapestCut_60, r_X3_cheapestCut_62, r_X3_cheapestCut_63, r_X3_cheapestCut_65, r_X3_cheapestCut_66, r_X3_cheapestCut_69, r_X3_cheapestCut_72, r_X3_cheapestCut_73]
    rw [c_hasRing h]
    simp only [Option.toList, List.cons_append, List.nil_append, r_X3_cheapestCut_0, r_X3_cheapestCut_1, r_X3_cheapestCut_2, r_X3_cheapestCut_3, r_X3_cheapestCut_4, r_X3_cheapestCut_5, r_X3_cheapestCut_8, r_X3_cheapestCut_9, r_X3_cheapestCut_10, r_X3_cheapestCut_14, r_X3_cheapestCut_15, r_X3_cheapestCut_18, r_X3_cheapestCut_19, r_X3_cheapestCut_21, r_X3_cheapestCut_24, r_X3_cheapestCut_26, r_X3_cheapestCut_29, r_X3_cheapestCut_32, r_X3_cheapestCut_33, r_X3_cheapestCut_35, r_X3_cheapestCut_38, r_X3_cheapestCut_40, r_X3_cheapestCut_41, r_X3_cheapestCut_42, r_X3_cheapestCut_45, r_X3_cheapestCut_47, r_X3_cheapestCut_48, r_X3_cheapestCut_51, r_X3_cheapestCut_52, r_X3_cheapestCut_54, r_X3_cheapestCut_57, r_X3_cheapestCut_60, r_X3_cheapestCut_62, r_X3_cheapestCut_63, r_X3_cheapestCut_65, r_X3_cheapestCut_66, r_X3_cheapestCut_69, r_X3_cheapestCut_72, r_X3_cheapestCut_73, nI_1]
    rw [wk_cc] at hR
    by_cases q : wk_can (σ.2.2.1 30) (nI k) n = k
    · by_cases q2 : wk_kb ha al (tb (nI k)) n n (2 ^ n - 1) = true
      · simp only [q, q2, if_true, if_false, Bool.true_eq_false, and_false] at hR ⊢
        simp [hR]
      · by_cases q3 : (wk_cc ha al (σ.2.2.1 30) n k).1 = -1
        · simp [q, q2, q3] at hR ⊢
          rw [hR]
        · by_cases q4 : wk_co (σ.2.2.1 30) (nI k) n < (wk_cc ha al (σ.2.2.1 30) n k).2
          · have q5 : ¬ (wk_cc ha al (σ.2.2.1 30) n k).2 ≤ wk_co (σ.2.2.1 30) (nI k) n := Int32.not_le.mpr q4
            simp [q, q2, q3, q4, q5] at hR ⊢
            rw [hR]
          · have q5 : (wk_cc ha al (σ.2.2.1 30) n k).2 ≤ wk_co (σ.2.2.1 30) (nI k) n := Int32.not_lt.mp q4
            simp [q, q2, q3, q4, q5] at hR ⊢
            rw [hR]
    · simp [q] at hR ⊢
      rw [hR]
  · intro z
    simp only [r_X3_cheapestCut_12]
    simp only [r_X3_cheapestCut_0, r_X3_cheapestCut_1, r_X3_cheapestCut_2, r_X3_cheapestCut_3, r_X3_cheapestCut_4, r_X3_cheapestCut_5, r_X3_cheapestCut_8, r_X3_cheapestCut_9, r_X3_cheapestCut_10, r_X3_cheapestCut_14, r_X3_cheapestCut_15, r_X3_cheapestCut_18, r_X3_cheapestCut_19, r_X3_cheapestCut_21, r_X3_cheapestCut_24, r_X3_cheapestCut_26, r_X3_cheapestCut_29, r_X3_cheapestCut_32, r_X3_cheapestCut_33, r_X3_cheapestCut_35, r_X3_cheapestCut_38, r_X3_cheapestCut_40, r_X3_cheapestCut_41, r_X3_cheapestCut_42, r_X3_cheapestCut_45, r_X3_cheapestCut_47, r_X3_cheapestCut_48, r_X3_cheapestCut_51, r_X3_cheapestCut_52, r_X3_cheapestCut_54, r_X3_cheapestCut_57, r_X3_cheapestCut_60, r_X3_cheapestCut_62, r_X3_cheapestCut_63, r_X3_cheapestCut_65, r_X3_cheapestCut_66, r_X3_cheapestCut_69, r_X3_cheapestCut_72, r_X3_cheapestCut_73]
    rw [if_pos (nI_lt (by omega) (by omega))]
end WKC
