/-! ===== together, state, lost ===== -/
section OT
variable {d n : Nat} {E : ex_O → ex_S → Prop} {σ : ex_S} {p0 : Int32} {s l cg : Nat} {cp fr to : Nat → Nat}
theorem inv_26 {σ : ex_S} (F : Nat → Int32) (h : Inv σ) : Inv (ex_row σ 26 F) := h
theorem inv_51 {σ : ex_S} (F : Nat → Int32) (h : Inv σ) : Inv (ex_row σ 51 F) := h
def gC (σ : ex_S) (cp : Nat → Nat) (k : Nat) (lim : Int32) : Int32 := gu (σ.2.2.1 17) (σ.2.2.1 18) (σ.2.2.1 19) lim k (cp k)
def gM (σ : ex_S) (cp : Nat → Nat) (k : Nat) (lim : Int32) : Int32 := gu (σ.2.2.1 41) (σ.2.2.1 42) (σ.2.2.1 43) lim k (cp k)
theorem gM_sign (hS : iS σ s l cg cp fr to) : ∀ k lim, k < s → (gM σ cp k lim < 0 ↔ gM σ cp k lim = -1) := by
  intro k lim hk
  have hs := hS.1.1
  have hc := (hS.1.2.2.2.2.1 k (by omega)).2
  apply gu_sign
  intro i hi
  obtain ⟨y1, y2, y3, y4, y5, y6⟩ := hS.2.2.2.2.2.1 (4 * k + i) (by omega)
  rw [y1, y2]
  exact ⟨y4, y5⟩
theorem gC_gM (hS : iS σ s l cg cp fr to) : ∀ k lim, k < s → gC σ cp k lim = gM σ cp k lim := by
  intro k lim hk
  have hs := hS.1.1
  have hc := (hS.1.2.2.2.2.1 k (by omega)).2
  apply gu_congr
  intro i hi
  obtain ⟨y1, y2, y3, y4, y5, y6⟩ := hS.2.2.2.2.2.1 (4 * k + i) (by omega)
  exact ⟨y1.symm, y2.symm, y3.symm⟩
theorem gM_lt (hS : iS σ s l cg cp fr to) : ∀ j, j < l → gM σ cp (to j) (σ.2.2.1 48 j - 1) < σ.2.2.1 48 j := by
  intro j hj
  obtain ⟨y1, y2, y3⟩ := hS.2.2.2.2.2.2.1 j hj
  rw [y2]
  have h0 := y3
  rw [Int32.le_iff_toInt_le] at h0
  have hz : (0 : Int32).toInt = 0 := by decide
  have hmx := (σ.2.2.1 23 j).toInt_lt
  have h1 : (σ.2.2.1 23 j - 1).toInt = (σ.2.2.1 23 j).toInt - 1 := by
    obtain ⟨k, hk⟩ : ∃ k, σ.2.2.1 23 j = nI k ∧ k < 2 ^ 31 := by
      refine ⟨(σ.2.2.1 23 j).toInt.toNat, ?_, by omega⟩
      apply Int32.toInt_inj.mp
      rw [nI_toInt (by omega)]
      omega
    rw [hk.1, nI_toInt hk.2]
    rcases Nat.eq_zero_or_pos k with q | q
    · subst q
      decide
    · rw [show (1 : Int32) = nI 1 from rfl, pk_sub (by omega), nI_toInt (by omega)]
      omega
  have hle : gM σ cp (to j) (σ.2.2.1 23 j - 1) ≤ σ.2.2.1 23 j - 1 := gu_le (by
    rw [Int32.le_iff_toInt_le, h1]
    have : (-1 : Int32).toInt = -1 := by decide
    omega)
  rw [Int32.le_iff_toInt_le, h1] at hle
  rw [Int32.lt_iff_toInt_lt]
  omega
def cC (σ : ex_S) (cp fr to : Nat → Nat) (s l : Nat) : Bool × (Nat → Int32) := ch (gC σ cp) (σ.2.2.1 23) (σ.2.2.1 21) fr to s l (σ.2.2.1 26)
def cM (σ : ex_S) (cp fr to : Nat → Nat) (s l : Nat) : Bool × (Nat → Int32) := chm (gM σ cp) (σ.2.2.1 48) (σ.2.2.1 46) fr to s l (σ.2.2.1 51)
theorem so_same {τ : ex_S} (hS : iS σ s l cg cp fr to) (h41 : τ.2.2.1 41 = σ.2.2.1 41) (h42 : τ.2.2.1 42 = σ.2.2.1 42) (h43 : τ.2.2.1 43 = σ.2.2.1 43) (h46 : τ.2.2.1 46 = σ.2.2.1 46) (h48 : τ.2.2.1 48 = σ.2.2.1 48) : (cC σ cp fr to s l).1 = (cM τ cp fr to s l).1 ∧ ((cC σ cp fr to s l).1 = true → ∀ k, k < s → (cC σ cp fr to s l).2 k = (cM τ cp fr to s l).2 k) := by
  have e : gM τ cp = gM σ cp := by
    unfold gM
    rw [h41, h42, h43]
  unfold cC cM
  rw [e, h46, h48]
  apply ch_same (gC_gM hS) (gM_sign hS)
  intro j hj
  obtain ⟨y1, y2, y3⟩ := hS.2.2.2.2.2.2.1 j hj
  have y4 := hS.1.2.2.2.2.2 j hj
  exact ⟨y2.symm, y1.symm, y4.2.2.1, y4.2.2.2⟩
theorem so_C (hS : iS σ s l cg cp fr to) : ex_C (d + 2) 30 [.ref 2] σ E = E (.inl (some (.int (if (cC σ cp fr to s l).1 = true then 1 else 0)))) (ex_row σ 26 (cC σ cp fr to s l).2) := c_choose hS.1
theorem so_M (hS : iS σ s l cg cp fr to) : ex_C (d + 2) 100 [.ref 5] σ E = E (.inl (some (.int (if (cM σ cp fr to s l).1 = true then 1 else 0)))) (ex_row σ 51 (cM σ cp fr to s l).2) := c_chooses (G := gM σ cp) hS.2.1 (fun k lim => rfl) (gM_sign hS) (gM_lt hS)
theorem p_together (hI : Inv σ) : pr1 (d + 4) 57 [.ref 4] 101 [.ref 5] σ := by
  unfold pr1
  have hI0 := hI
  obtain ⟨hWW, s, l, cg, cp, fr, to, hS⟩ := hI
  simp only [r_X4_together, r_X4_together_0, r_X4_together_1, r_X4_together_4, r_X4_together_7]
  rw [so_C (d := d + 1) hS]
  simp only [Option.toList, List.cons_append, List.nil_append, r_X4_together_0, r_X4_together_1, r_X4_together_4, r_X4_together_7, tl_bi, true_and]
  refine ⟨_, rfl, ?_⟩
  have hS2 : iS (ex_sF (ex_row σ 26 (cC σ cp fr to s l).2) 500 0) s l cg cp fr to := hS
  simp only [r_X5_together, r_X5_together_0, r_X5_together_1, r_X5_together_2, r_X5_together_5, r_X5_together_6, r_X5_together_9]
  rw [so_M (d := d + 1) hS2]
  simp only [Option.toList, List.cons_append, List.nil_append, r_X5_together_0, r_X5_together_1, r_X5_together_2, r_X5_together_5, r_X5_together_6, r_X5_together_9, tl_bi, true_and]
  refine ⟨?_, inv_51 _ (inv_thr _ (inv_26 _ hI0))⟩
  rw [(so_same (τ := ex_sF (ex_row σ 26 (cC σ cp fr to s l).2) 500 0) hS rfl rfl rfl rfl rfl).1]
theorem p_state (hI : Inv σ) : pr2 (d + 5) 131 [.ref 4, .int p0, .ref 58] 102 [.ref 5, .int p0] σ gd := by
  unfold pr2
  have hI0 := hI
  obtain ⟨hWW, s, l, cg, cp, fr, to, hS⟩ := hI
  have hs := hS.1.1
  by_cases h0 : vp_in p0 s
  · obtain ⟨k, hk, e0⟩ := vin (by omega) h0
    subst e0
    have hk6 := tl_in (show k < 6 by omega) (show 6 < 2 ^ 31 by omega)
    have hkc := tl_cl (show k < 2 ^ 31 by omega)
    simp only [r_L_state, r_L_state_0, r_L_state_1, r_L_state_2, r_L_state_3, r_L_state_4, r_L_state_7, r_L_state_8, r_L_state_9, r_L_state_13, r_L_state_14, r_L_state_15, r_L_state_16, Nat.le_refl, Nat.reduceSub, Nat.reduceLeDiff, true_and, r_X4_state, r_X4_state_0, r_X4_state_1, r_X4_state_2, r_X4_state_5, r_X4_state_6, r_X4_state_9, r_X4_state_12, r_X4_state_15, r_X4_state_16, r_X4_state_19, r_X4_state_22, r_X4_state_23, r_X4_state_24, r_X4_state_27, r_X4_state_28, c_reqS hs hS.1.2.2.1 hk, Option.toList, List.cons_append, List.nil_append]
    rw [so_C (d := d + 1) hS]
    simp only [Option.toList, List.cons_append, List.nil_append, r_X4_state_0, r_X4_state_1, r_X4_state_2, r_X4_state_5, r_X4_state_6, r_X4_state_9, r_X4_state_12, r_X4_state_15, r_X4_state_16, r_X4_state_19, r_X4_state_22, r_X4_state_23, r_X4_state_24, r_X4_state_27, r_X4_state_28, hk6, hkc, true_and, tl_row_at]
    have key : ∀ (v : Int32), (∀ τ : ex_S, iS τ s l cg cp fr to → τ.2.2.1 41 = σ.2.2.1 41 → τ.2.2.1 42 = σ.2.2.1 42 → τ.2.2.1 43 = σ.2.2.1 43 → τ.2.2.1 46 = σ.2.2.1 46 → τ.2.2.1 48 = σ.2.2.1 48 → (if (cM τ cp fr to s l).1 = true then (cM τ cp fr to s l).2 k else -1) = v) → ex_C (d + 5) 102 [.ref 5, .int (nI k)] (ex_sB (ex_row σ 26 (cC σ cp fr to s l).2) 58 0 v.toInt64) (fun o2 σ2 => ∃ v2, o2 = .inl (some (.int v2)) ∧ gd 0 v2 σ2) := by
      intro v hv
      have hS2 : iS (ex_sF (ex_sB (ex_row σ 26 (cC σ cp fr to s l).2) 58 0 v.toInt64) 500 0) s l cg cp fr to := hS
      have h5 : (ex_sF (ex_sB (ex_row σ 26 (cC σ cp fr to s l).2) 58 0 v.toInt64) 500 0).1 515 = nI s := hS.2.1.2.2.1
      simp only [r_X5_state, r_X5_state_0, r_X5_state_1, r_X5_state_2, r_X5_state_5, r_X5_state_6, r_X5_state_7, r_X5_state_8, r_X5_state_11, r_X5_state_12, r_X5_state_15, r_X5_state_18, r_X5_state_19, r_X5_state_20, r_X5_state_21, r_X5_state_24, r_X5_state_27, r_X5_state_28, r_X5_state_31, r_X5_state_32, r_X5_state_33, r_X5_state_36, r_X5_state_37, c_noStore hs h5 h0, Option.toList, List.cons_append, List.nil_append, c_throwsIf0, if_true]
      rw [so_M (d := d + 2) hS2]
      simp only [Option.toList, List.cons_append, List.nil_append, r_X5_state_0, r_X5_state_1, r_X5_state_2, r_X5_state_5, r_X5_state_6, r_X5_state_7, r_X5_state_8, r_X5_state_11, r_X5_state_12, r_X5_state_15, r_X5_state_18, r_X5_state_19, r_X5_state_20, r_X5_state_21, r_X5_state_24, r_X5_state_27, r_X5_state_28, r_X5_state_31, r_X5_state_32, r_X5_state_33, r_X5_state_36, r_X5_state_37, hk6, hkc, true_and, tl_row_at]
      have hvv := hv _ hS2 rfl rfl rfl rfl rfl
      by_cases q : (cM (ex_sF (ex_sB (ex_row σ 26 (cC σ cp fr to s l).2) 58 0 v.toInt64) 500 0) cp fr to s l).1 = true
      · rw [if_pos q] at hvv
        rw [if_pos q, if_neg (by decide)]
        exact ⟨_, rfl, inv_51 _ (inv_thr _ (inv_out _ (inv_26 _ hI0))), rfl, fun _ => by rw [hvv]; rfl⟩
      · rw [if_neg q] at hvv
        rw [if_neg q, if_pos rfl]
        exact ⟨_, rfl, inv_51 _ (inv_thr _ (inv_out _ (inv_26 _ hI0))), rfl, fun _ => by rw [hvv]; rfl⟩
    by_cases q : (cC σ cp fr to s l).1 = true
    · rw [if_pos q, if_neg (by decide)]
      simp only [Option.toList, List.cons_append, List.nil_append, r_X4_state_0, r_X4_state_1, r_X4_state_2, r_X4_state_5, r_X4_state_6, r_X4_state_9, r_X4_state_12, r_X4_state_15, r_X4_state_16, r_X4_state_19, r_X4_state_22, r_X4_state_23, r_X4_state_24, r_X4_state_27, r_X4_state_28, r_L_state_0, r_L_state_1, r_L_state_2, r_L_state_3, r_L_state_4, r_L_state_7, r_L_state_8, r_L_state_9, r_L_state_13, r_L_state_14, r_L_state_15, r_L_state_16, v01, cl0, true_and]
      refine ⟨0, rfl, key _ (fun τ hτ a1 a2 a3 a4 a5 => ?_)⟩
      have := so_same (τ := τ) hS a1 a2 a3 a4 a5
      rw [if_pos (this.1 ▸ q), this.2 q k hk]
    · rw [if_neg q, if_pos rfl]
      simp only [Option.toList, List.cons_append, List.nil_append, r_X4_state_0, r_X4_state_1, r_X4_state_2, r_X4_state_5, r_X4_state_6, r_X4_state_9, r_X4_state_12, r_X4_state_15, r_X4_state_16, r_X4_state_19, r_X4_state_22, r_X4_state_23, r_X4_state_24, r_X4_state_27, r_X4_state_28, r_L_state_0, r_L_state_1, r_L_state_2, r_L_state_3, r_L_state_4, r_L_state_7, r_L_state_8, r_L_state_9, r_L_state_13, r_L_state_14, r_L_state_15, r_L_state_16, v01, cl0, true_and]
      refine ⟨0, rfl, key (-1) (fun τ hτ a1 a2 a3 a4 a5 => ?_)⟩
      have := so_same (τ := τ) hS a1 a2 a3 a4 a5
      rw [if_neg (this.1 ▸ q)]
  · simp only [r_L_state, r_L_state_0, r_L_state_1, r_L_state_2, r_L_state_3, r_L_state_4, r_L_state_7, r_L_state_8, r_L_state_9, r_L_state_13, r_L_state_14, r_L_state_15, r_L_state_16, Nat.le_refl, Nat.reduceSub, Nat.reduceLeDiff, true_and, r_X4_state, r_X4_state_0, r_X4_state_1, r_X4_state_2, r_X4_state_5, r_X4_state_6, r_X4_state_9, r_X4_state_12, r_X4_state_15, r_X4_state_16, r_X4_state_19, r_X4_state_22, r_X4_state_23, r_X4_state_24, r_X4_state_27, r_X4_state_28, c_reqST hs hS.1.2.2.1 h0, xc_state_1]
    refine ⟨1, rfl, ?_⟩
    have h5 : (ex_sF σ 500 0).1 515 = nI s := hS.2.1.2.2.1
    simp only [r_X5_state, r_X5_state_0, r_X5_state_1, r_X5_state_2, r_X5_state_5, r_X5_state_6, r_X5_state_7, r_X5_state_8, r_X5_state_11, r_X5_state_12, r_X5_state_15, r_X5_state_18, r_X5_state_19, r_X5_state_20, r_X5_state_21, r_X5_state_24, r_X5_state_27, r_X5_state_28, r_X5_state_31, r_X5_state_32, r_X5_state_33, r_X5_state_36, r_X5_state_37, c_noStoreT hs h5 h0, Option.toList, List.cons_append, List.nil_append, c_throwsIf1, i10, if_false]
    exact ⟨0, rfl, inv_thr _ (inv_thr _ hI0), rfl, fun q => absurd q (by decide)⟩
theorem c_mlost_loop {k c : Nat} (hk : k < 6) (hc : c ≤ 80) (h : σ.1 523 = nI c) : ex_r none d ex_m_X5_lost E 33 [.ref 5, .int (nI k), .int 0, .int 0] [] σ 0 = E (.inl (some (.int (cbh (σ.2.2.1 49) (σ.2.2.1 50) (nI k) (σ.2.2.1 51 k) c)))) σ := by
  have hk6 := tl_in (show k < 6 by omega) (show 6 < 2 ^ 31 by omega)
  have hkc := tl_cl (show k < 2 ^ 31 by omega)
  refine (tl_for (A := fun j => ex_r none d ex_m_X5_lost E 33 [.ref 5, .int (nI k), .int (cbh (σ.2.2.1 49) (σ.2.2.1 50) (nI k) (σ.2.2.1 51 k) j), .int (nI j)] [] σ 0) (n := c) ?_).trans ?_
  · intro j hj R hR
    simp only [r_X5_lost_33]
    simp only [r_X5_lost_0, r_X5_lost_1, r_X5_lost_2, r_X5_lost_5, r_X5_lost_6, r_X5_lost_7, r_X5_lost_8, r_X5_lost_11, r_X5_lost_12, r_X5_lost_15, r_X5_lost_18, r_X5_lost_19, r_X5_lost_20, r_X5_lost_21, r_X5_lost_24, r_X5_lost_27, r_X5_lost_28, r_X5_lost_29, r_X5_lost_30, r_X5_lost_31, r_X5_lost_32, r_X5_lost_34, r_X5_lost_35, r_X5_lost_38, r_X5_lost_41, r_X5_lost_42, r_X5_lost_43, r_X5_lost_46, r_X5_lost_47, r_X5_lost_48, r_X5_lost_49, r_X5_lost_52, r_X5_lost_53, r_X5_lost_56, r_X5_lost_57, r_X5_lost_58, r_X5_lost_59, r_X5_lost_62, r_X5_lost_63, r_X5_lost_64, r_X5_lost_67, r_X5_lost_68, r_X5_lost_71, r_X5_lost_72, r_X5_lost_73, r_X5_lost_74, r_X5_lost_77, r_X5_lost_80, r_X5_lost_81, h, tl_in (show j < 80 by omega) (show 80 < 2 ^ 31 by omega), tl_cl (show j < 2 ^ 31 by omega), hk6, hkc, true_and, nI_1]
    rw [if_neg (nI_ge hj (by omega))]
    subst hR
    rw [cbh]
    by_cases q1 : σ.2.2.1 49 j = nI k
    · by_cases q2 : σ.2.2.1 51 k < σ.2.2.1 50 j
      · have q3 : ¬ σ.2.2.1 50 j ≤ σ.2.2.1 51 k := Int32.not_le.mpr q2
        rw [if_pos q1, if_neg q3, if_pos ⟨q1, q2⟩]
      · have q3 : σ.2.2.1 50 j ≤ σ.2.2.1 51 k := Int32.not_lt.mp q2
        rw [if_pos q1, if_pos q3, if_neg (fun q => q2 q.2), Int32.add_zero]
    · rw [if_neg q1, if_neg (fun q => q1 q.1), Int32.add_zero]
  · simp only [r_X5_lost_33]
    simp only [r_X5_lost_0, r_X5_lost_1, r_X5_lost_2, r_X5_lost_5, r_X5_lost_6, r_X5_lost_7, r_X5_lost_8, r_X5_lost_11, r_X5_lost_12, r_X5_lost_15, r_X5_lost_18, r_X5_lost_19, r_X5_lost_20, r_X5_lost_21, r_X5_lost_24, r_X5_lost_27, r_X5_lost_28, r_X5_lost_29, r_X5_lost_30, r_X5_lost_31, r_X5_lost_32, r_X5_lost_34, r_X5_lost_35, r_X5_lost_38, r_X5_lost_41, r_X5_lost_42, r_X5_lost_43, r_X5_lost_46, r_X5_lost_47, r_X5_lost_48, r_X5_lost_49, r_X5_lost_52, r_X5_lost_53, r_X5_lost_56, r_X5_lost_57, r_X5_lost_58, r_X5_lost_59, r_X5_lost_62, r_X5_lost_63, r_X5_lost_64, r_X5_lost_67, r_X5_lost_68, r_X5_lost_71, r_X5_lost_72, r_X5_lost_73, r_X5_lost_74, r_X5_lost_77, r_X5_lost_80, r_X5_lost_81, h, Int32.le_refl, if_true]
theorem p_lost (hI : Inv σ) : pr2 (d + 5) 132 [.ref 4, .int p0, .ref 58] 103 [.ref 5, .int p0] σ gd := by
  unfold pr2
  have hI0 := hI
  obtain ⟨hWW, s, l, cg, cp, fr, to, hS⟩ := hI
  have hs := hS.1.1
  by_cases h0 : vp_in p0 s
  · obtain ⟨k, hk, e0⟩ := vin (by omega) h0
    subst e0
    have hk6 := tl_in (show k < 6 by omega) (show 6 < 2 ^ 31 by omega)
    have hkc := tl_cl (show k < 2 ^ 31 by omega)
    simp only [r_L_lost, r_L_lost_0, r_L_lost_1, r_L_lost_2, r_L_lost_3, r_L_lost_4, r_L_lost_7, r_L_lost_8, r_L_lost_9, r_L_lost_13, r_L_lost_14, r_L_lost_15, r_L_lost_16, Nat.le_refl, Nat.reduceSub, Nat.reduceLeDiff, true_and, r_X4_lost, r_X4_lost_0, r_X4_lost_1, r_X4_lost_2, r_X4_lost_5, r_X4_lost_6, r_X4_lost_9, r_X4_lost_12, r_X4_lost_15, r_X4_lost_16, r_X4_lost_19, r_X4_lost_20, r_X4_lost_21, r_X4_lost_24, r_X4_lost_27, r_X4_lost_28, r_X4_lost_29, r_X4_lost_32, r_X4_lost_35, r_X4_lost_36, c_reqS hs hS.1.2.2.1 hk, Option.toList, List.cons_append, List.nil_append]
    rw [so_C (d := d + 1) hS]
    simp only [Option.toList, List.cons_append, List.nil_append, r_X4_lost_0, r_X4_lost_1, r_X4_lost_2, r_X4_lost_5, r_X4_lost_6, r_X4_lost_9, r_X4_lost_12, r_X4_lost_15, r_X4_lost_16, r_X4_lost_19, r_X4_lost_20, r_X4_lost_21, r_X4_lost_24, r_X4_lost_27, r_X4_lost_28, r_X4_lost_29, r_X4_lost_32, r_X4_lost_35, r_X4_lost_36, hk6, hkc, true_and, tl_row_at]
    have key : ∀ (v : Int32), (∀ τ : ex_S, iS τ s l cg cp fr to → τ.2.2.1 41 = σ.2.2.1 41 → τ.2.2.1 42 = σ.2.2.1 42 → τ.2.2.1 43 = σ.2.2.1 43 → τ.2.2.1 46 = σ.2.2.1 46 → τ.2.2.1 48 = σ.2.2.1 48 → (if (cM τ cp fr to s l).1 = true then cbh (σ.2.2.1 49) (σ.2.2.1 50) (nI k) ((cM τ cp fr to s l).2 k) cg else -1) = v) → ex_C (d + 5) 103 [.ref 5, .int (nI k)] (ex_sB (ex_row σ 26 (cC σ cp fr to s l).2) 58 0 v.toInt64) (fun o2 σ2 => ∃ v2, o2 = .inl (some (.int v2)) ∧ gd 0 v2 σ2) := by
      intro v hv
      have hS2 : iS (ex_sF (ex_sB (ex_row σ 26 (cC σ cp fr to s l).2) 58 0 v.toInt64) 500 0) s l cg cp fr to := hS
      have h5 : (ex_sF (ex_sB (ex_row σ 26 (cC σ cp fr to s l).2) 58 0 v.toInt64) 500 0).1 515 = nI s := hS.2.1.2.2.1
      simp only [r_X5_lost, r_X5_lost_0, r_X5_lost_1, r_X5_lost_2, r_X5_lost_5, r_X5_lost_6, r_X5_lost_7, r_X5_lost_8, r_X5_lost_11, r_X5_lost_12, r_X5_lost_15, r_X5_lost_18, r_X5_lost_19, r_X5_lost_20, r_X5_lost_21, r_X5_lost_24, r_X5_lost_27, r_X5_lost_28, r_X5_lost_29, r_X5_lost_30, r_X5_lost_31, r_X5_lost_32, r_X5_lost_34, r_X5_lost_35, r_X5_lost_38, r_X5_lost_41, r_X5_lost_42, r_X5_lost_43, r_X5_lost_46, r_X5_lost_47, r_X5_lost_48, r_X5_lost_49, r_X5_lost_52, r_X5_lost_53, r_X5_lost_56, r_X5_lost_57, r_X5_lost_58, r_X5_lost_59, r_X5_lost_62, r_X5_lost_63, r_X5_lost_64, r_X5_lost_67, r_X5_lost_68, r_X5_lost_71, r_X5_lost_72, r_X5_lost_73, r_X5_lost_74, r_X5_lost_77, r_X5_lost_80, r_X5_lost_81, c_noStore hs h5 h0, Option.toList, List.cons_append, List.nil_append, c_throwsIf0, if_true]
      rw [so_M (d := d + 2) hS2]
      simp only [Option.toList, List.cons_append, List.nil_append, r_X5_lost_0, r_X5_lost_1, r_X5_lost_2, r_X5_lost_5, r_X5_lost_6, r_X5_lost_7, r_X5_lost_8, r_X5_lost_11, r_X5_lost_12, r_X5_lost_15, r_X5_lost_18, r_X5_lost_19, r_X5_lost_20, r_X5_lost_21, r_X5_lost_24, r_X5_lost_27, r_X5_lost_28, r_X5_lost_29, r_X5_lost_30, r_X5_lost_31, r_X5_lost_32, r_X5_lost_34, r_X5_lost_35, r_X5_lost_38, r_X5_lost_41, r_X5_lost_42, r_X5_lost_43, r_X5_lost_46, r_X5_lost_47, r_X5_lost_48, r_X5_lost_49, r_X5_lost_52, r_X5_lost_53, r_X5_lost_56, r_X5_lost_57, r_X5_lost_58, r_X5_lost_59, r_X5_lost_62, r_X5_lost_63, r_X5_lost_64, r_X5_lost_67, r_X5_lost_68, r_X5_lost_71, r_X5_lost_72, r_X5_lost_73, r_X5_lost_74, r_X5_lost_77, r_X5_lost_80, r_X5_lost_81]
      have hvv := hv _ hS2 rfl rfl rfl rfl rfl
      by_cases q : (cM (ex_sF (ex_sB (ex_row σ 26 (cC σ cp fr to s l).2) 58 0 v.toInt64) 500 0) cp fr to s l).1 = true
      · rw [if_pos q] at hvv
        rw [if_pos q, if_neg (by decide), c_mlost_loop (σ := ex_row (ex_sF (ex_sB (ex_row σ 26 (cC σ cp fr to s l).2) 58 0 v.toInt64) 500 0) 51 (cM (ex_sF (ex_sB (ex_row σ 26 (cC σ cp fr to s l).2) 58 0 v.toInt64) 500 0) cp fr to s l).2) (show k < 6 by omega) hS.2.2.1 hS.2.2.2.2.1, tl_row_at]
        refine ⟨_, rfl, inv_51 _ (inv_thr _ (inv_out _ (inv_26 _ hI0))), rfl, fun _ => ?_⟩
        show v.toInt64 = (cbh (σ.2.2.1 49) (σ.2.2.1 50) (nI k) _ cg).toInt64
        rw [hvv]
      · rw [if_neg q] at hvv
        rw [if_neg q, if_pos rfl]
        exact ⟨_, rfl, inv_51 _ (inv_thr _ (inv_out _ (inv_26 _ hI0))), rfl, fun _ => by rw [hvv]; rfl⟩
    by_cases q : (cC σ cp fr to s l).1 = true
    · rw [if_pos q, if_neg (by decide), c_changesBehind (σ := ex_row σ 26 (cC σ cp fr to s l).2) hS.2.2.1 hS.2.2.2.1]
      simp only [Option.toList, List.cons_append, List.nil_append, r_X4_lost_0, r_X4_lost_1, r_X4_lost_2, r_X4_lost_5, r_X4_lost_6, r_X4_lost_9, r_X4_lost_12, r_X4_lost_15, r_X4_lost_16, r_X4_lost_19, r_X4_lost_20, r_X4_lost_21, r_X4_lost_24, r_X4_lost_27, r_X4_lost_28, r_X4_lost_29, r_X4_lost_32, r_X4_lost_35, r_X4_lost_36, r_L_lost_0, r_L_lost_1, r_L_lost_2, r_L_lost_3, r_L_lost_4, r_L_lost_7, r_L_lost_8, r_L_lost_9, r_L_lost_13, r_L_lost_14, r_L_lost_15, r_L_lost_16, v01, cl0, true_and]
      refine ⟨0, rfl, key _ (fun τ hτ a1 a2 a3 a4 a5 => ?_)⟩
      have := so_same (τ := τ) hS a1 a2 a3 a4 a5
      rw [if_pos (this.1 ▸ q), ← this.2 q k hk]
      show cbh (σ.2.2.1 49) (σ.2.2.1 50) (nI k) ((cC σ cp fr to s l).2 k) cg = cbh (σ.2.2.1 24) (σ.2.2.1 25) (nI k) ((cC σ cp fr to s l).2 k) cg
      exact cbh_congr hS.2.2.2.2.2.2.2
    · rw [if_neg q, if_pos rfl]
      simp only [Option.toList, List.cons_append, List.nil_append, r_X4_lost_0, r_X4_lost_1, r_X4_lost_2, r_X4_lost_5, r_X4_lost_6, r_X4_lost_9, r_X4_lost_12, r_X4_lost_15, r_X4_lost_16, r_X4_lost_19, r_X4_lost_20, r_X4_lost_21, r_X4_lost_24, r_X4_lost_27, r_X4_lost_28, r_X4_lost_29, r_X4_lost_32, r_X4_lost_35, r_X4_lost_36, r_L_lost_0, r_L_lost_1, r_L_lost_2, r_L_lost_3, r_L_lost_4, r_L_lost_7, r_L_lost_8, r_L_lost_9, r_L_lost_13, r_L_lost_14, r_L_lost_15, r_L_lost_16, v01, cl0, true_and]
      refine ⟨0, rfl, key (-1) (fun τ hτ a1 a2 a3 a4 a5 => ?_)⟩
      have := so_same (τ := τ) hS a1 a2 a3 a4 a5
      rw [if_neg (this.1 ▸ q)]
  · simp only [r_L_lost, r_L_lost_0, r_L_lost_1, r_L_lost_2, r_L_lost_3, r_L_lost_4, r_L_lost_7, r_L_lost_8, r_L_lost_9, r_L_lost_13, r_L_lost_14, r_L_lost_15, r_L_lost_16, Nat.le_refl, Nat.reduceSub, Nat.reduceLeDiff, true_and, r_X4_lost, r_X4_lost_0, r_X4_lost_1, r_X4_lost_2, r_X4_lost_5, r_X4_lost_6, r_X4_lost_9, r_X4_lost_12, r_X4_lost_15, r_X4_lost_16, r_X4_lost_19, r_X4_lost_20, r_X4_lost_21, r_X4_lost_24, r_X4_lost_27, r_X4_lost_28, r_X4_lost_29, r_X4_lost_32, r_X4_lost_35, r_X4_lost_36, c_reqST hs hS.1.2.2.1 h0, xc_lost_1]
    refine ⟨1, rfl, ?_⟩
    have h5 : (ex_sF σ 500 0).1 515 = nI s := hS.2.1.2.2.1
    simp only [r_X5_lost, r_X5_lost_0, r_X5_lost_1, r_X5_lost_2, r_X5_lost_5, r_X5_lost_6, r_X5_lost_7, r_X5_lost_8, r_X5_lost_11, r_X5_lost_12, r_X5_lost_15, r_X5_lost_18, r_X5_lost_19, r_X5_lost_20, r_X5_lost_21, r_X5_lost_24, r_X5_lost_27, r_X5_lost_28, r_X5_lost_29, r_X5_lost_30, r_X5_lost_31, r_X5_lost_32, r_X5_lost_34, r_X5_lost_35, r_X5_lost_38, r_X5_lost_41, r_X5_lost_42, r_X5_lost_43, r_X5_lost_46, r_X5_lost_47, r_X5_lost_48, r_X5_lost_49, r_X5_lost_52, r_X5_lost_53, r_X5_lost_56, r_X5_lost_57, r_X5_lost_58, r_X5_lost_59, r_X5_lost_62, r_X5_lost_63, r_X5_lost_64, r_X5_lost_67, r_X5_lost_68, r_X5_lost_71, r_X5_lost_72, r_X5_lost_73, r_X5_lost_74, r_X5_lost_77, r_X5_lost_80, r_X5_lost_81, c_noStoreT hs h5 h0, Option.toList, List.cons_append, List.nil_append, c_throwsIf1, i10, if_false]
    exact ⟨0, rfl, inv_thr _ (inv_thr _ hI0), rfl, fun q => absurd q (by decide)⟩
end OT
