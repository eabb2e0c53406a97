/-! ===== the law's loop ===== -/
section LP
theorem inv_0 : Inv ls_s0 := by
  refine ⟨⟨0, 0, fun _ => 0, fun _ => 0, fun _ => 0, fun _ => 0, fun _ => 0, fun _ => 0, fun _ => 0, fun _ => false, ⟨⟨by decide, rfl, fun k _ => ⟨rfl, rfl, Nat.one_pos, Nat.one_pos⟩⟩, ⟨by decide, by decide, rfl, rfl, fun j hj => absurd hj (by omega)⟩, fun a _ => ⟨rfl, rfl⟩, rfl, fun w hw => absurd hw (by omega), fun w hw => absurd hw (by omega), fun w hw => absurd hw (by omega)⟩, ⟨fun q _ => ⟨0, by decide, rfl⟩, Or.inl ⟨rfl, rfl⟩⟩, Or.inl ⟨rfl, rfl⟩⟩, 0, 0, 0, fun _ => 0, fun _ => 0, fun _ => 0, ⟨by decide, by decide, rfl, rfl, fun k _ => ⟨rfl, Nat.zero_le _⟩, fun j hj => absurd hj (by omega)⟩, ⟨by decide, by decide, rfl, rfl, fun k _ => ⟨rfl, Nat.zero_le _⟩, fun j hj => absurd hj (by omega)⟩, by decide, rfl, rfl, fun x _ => ⟨rfl, rfl, rfl, Int32.le_refl 0, Int32.le_refl 0, Or.inl rfl⟩, fun j hj => absurd hj (by omega), fun j hj => absurd hj (by omega)⟩
theorem lw_end {L i : Nat} (hL : L ≤ 2560) (hi : i ≤ 3000) : (Int32.ofNat L - 5 < nI i) = (L < i + 5) := by
  apply propext
  show nI L - 5 < nI i ↔ L < i + 5
  rw [Int32.lt_iff_toInt_lt, show (5 : Int32) = nI 5 from rfl, pk_sub_toInt (by omega) (by omega), nI_toInt (by omega)]
  omega
theorem lw_loop {L : Nat} {xs : Nat → Int32} {d : Nat} (hL : L ≤ 2560) : ∀ (r i b : Nat) (σ : ex_S) (x5 x6 : Value), Inv σ → L < i + 5 * (r + 1) → i ≤ 2560 → 5 * r ≤ b → ex_r (some (L, xs)) (d + 40) ex_m_L_law law_E 23 [.ref 999, .ref 4, .ref 5, .ref 58, .int (nI i), x5, x6] [] σ b := by
  intro r
  induction r with
  | zero =>
    intro i b σ x5 x6 hI h1 h2 h3
    simp only [r_L_law_23, r_L_law_25, r_L_law_26, r_L_law_27, r_L_law_28, r_L_law_29, r_L_law_32, r_L_law_33, r_L_law_35, r_L_law_36, r_L_law_38, lw_end hL (show i ≤ 3000 by omega)]
    rw [if_pos (show L < i + 5 by omega)]
    simp only [r_L_law_1591, r_L_law_1592, tl_b1, true_and]
    rfl
  | succ r ih =>
    intro i b σ x5 x6 hI h1 h2 h3
    simp only [r_L_law_23, r_L_law_25, r_L_law_26, r_L_law_27, r_L_law_28, r_L_law_29, r_L_law_32, r_L_law_33, r_L_law_35, r_L_law_36, r_L_law_38, lw_end hL (show i ≤ 3000 by omega)]
    by_cases q : L < i + 5
    · rw [if_pos q]
      simp only [r_L_law_1591, r_L_law_1592, tl_b1, true_and]
      rfl
    · rw [if_neg q, tl_in (show i < L by omega) (show L < 2 ^ 31 by omega), tl_cl (show i < 2 ^ 31 by omega)]
      refine ⟨trivial, ?_⟩
      have hnext : lNext L xs d law_E i b := by
        intro τ y5 y6 b2 hT hb2
        simp only [r_L_law_1585, r_L_law_1588, nI_p5]
        exact ih (i + 5) b2 τ y5 y6 hT (by omega) (by omega) (by omega)
      obtain ⟨k, hk, e⟩ := pk_andE (xs i) (m := 31) 5 (by decide)
      rw [e]
      rcases (show k = 0 ∨ k = 1 ∨ k = 2 ∨ k = 3 ∨ k = 4 ∨ k = 5 ∨ k = 6 ∨ k = 7 ∨ k = 8 ∨ k = 9 ∨ k = 10 ∨ k = 11 ∨ k = 12 ∨ k = 13 ∨ k = 14 ∨ k = 15 ∨ k = 16 ∨ k = 17 ∨ k = 18 ∨ k = 19 ∨ k = 20 ∨ k = 21 ∨ k = 22 ∨ k = 23 ∨ 24 ≤ k by omega) with e2 | e2 | e2 | e2 | e2 | e2 | e2 | e2 | e2 | e2 | e2 | e2 | e2 | e2 | e2 | e2 | e2 | e2 | e2 | e2 | e2 | e2 | e2 | e2 | e2
      · subst e2
        rw [show nI 0 = (0 : Int32) from rfl, r_L_law_39_0]
        exact lw_work hI (by omega) hL (by omega) hnext
      · subst e2
        rw [show nI 1 = (1 : Int32) from rfl, r_L_law_39_1]
        exact lw_need hI (by omega) hL (by omega) hnext
      · subst e2
        rw [show nI 2 = (2 : Int32) from rfl, r_L_law_39_2]
        exact lw_hangs hI (by omega) hL (by omega) hnext
      · subst e2
        rw [show nI 3 = (3 : Int32) from rfl, r_L_law_39_3]
        exact lw_steps hI (by omega) hL (by omega) hnext
      · subst e2
        rw [show nI 4 = (4 : Int32) from rfl, r_L_law_39_4]
        exact lw_rings hI (by omega) hL (by omega) hnext
      · subst e2
        rw [show nI 5 = (5 : Int32) from rfl, r_L_law_39_5]
        exact lw_cut hI (by omega) hL (by omega) hnext
      · subst e2
        rw [show nI 6 = (6 : Int32) from rfl, r_L_law_39_6]
        exact lw_store hI (by omega) hL (by omega) hnext
      · subst e2
        rw [show nI 7 = (7 : Int32) from rfl, r_L_law_39_7]
        exact lw_copy hI (by omega) hL (by omega) hnext
      · subst e2
        rw [show nI 8 = (8 : Int32) from rfl, r_L_law_39_8]
        exact lw_torn hI (by omega) hL (by omega) hnext
      · subst e2
        rw [show nI 9 = (9 : Int32) from rfl, r_L_law_39_9]
        exact lw_letter hI (by omega) hL (by omega) hnext
      · subst e2
        rw [show nI 10 = (10 : Int32) from rfl, r_L_law_39_10]
        exact lw_change hI (by omega) hL (by omega) hnext
      · subst e2
        rw [show nI 11 = (11 : Int32) from rfl, r_L_law_39_11]
        exact lw_together hI (by omega) hL (by omega) hnext
      · subst e2
        rw [show nI 12 = (12 : Int32) from rfl, r_L_law_39_12]
        exact lw_state hI (by omega) hL (by omega) hnext
      · subst e2
        rw [show nI 13 = (13 : Int32) from rfl, r_L_law_39_13]
        exact lw_lost hI (by omega) hL (by omega) hnext
      · subst e2
        rw [show nI 14 = (14 : Int32) from rfl, r_L_law_39_14]
        exact lw_plan hI (by omega) hL (by omega) hnext
      · subst e2
        rw [show nI 15 = (15 : Int32) from rfl, r_L_law_39_15]
        exact lw_begins hI (by omega) hL (by omega) hnext
      · subst e2
        rw [show nI 16 = (16 : Int32) from rfl, r_L_law_39_16]
        exact lw_night hI (by omega) hL (by omega) hnext
      · subst e2
        rw [show nI 17 = (17 : Int32) from rfl, r_L_law_39_17]
        exact lw_begin hI (by omega) hL (by omega) hnext
      · subst e2
        rw [show nI 18 = (18 : Int32) from rfl, r_L_law_39_18]
        exact lw_tick hI (by omega) hL (by omega) hnext
      · subst e2
        rw [show nI 19 = (19 : Int32) from rfl, r_L_law_39_19]
        exact lw_fail hI (by omega) hL (by omega) hnext
      · subst e2
        rw [show nI 20 = (20 : Int32) from rfl, r_L_law_39_20]
        exact lw_blow hI (by omega) hL (by omega) hnext
      · subst e2
        rw [show nI 21 = (21 : Int32) from rfl, r_L_law_39_21]
        exact lw_look hI (by omega) hL (by omega) hnext
      · subst e2
        rw [show nI 22 = (22 : Int32) from rfl, r_L_law_39_22]
        exact lw_now hI (by omega) hL (by omega) hnext
      · subst e2
        rw [show nI 23 = (23 : Int32) from rfl, r_L_law_39_23]
        exact lw_count hI (by omega) hL (by omega) hnext
      · rw [r_L_law_39_d _ _ _ _ _ _ _ _ _ (Or.inr (by rw [nI_toInt (by omega)]; omega))]
        exact hnext σ x5 x6 b hI (by omega)
theorem law_holds : law_pure := by
  intro L xs hL
  exact ⟨0 + 40, by decide, lw_loop (d := 0) hL 512 0 4000 ls_s0 (.retAddr 0) (.retAddr 0) inv_0 (by omega) (by omega) (by omega)⟩
end LP
