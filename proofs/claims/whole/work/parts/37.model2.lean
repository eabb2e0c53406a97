/-! ===== the model's hangs, steps, rings, cut ===== -/
section M2
theorem tl_fo_congr {f g : Nat → Nat} : ∀ {n : Nat}, (∀ i, i < n → f i = g i) → tl_fo f n = tl_fo g n
  | 0, _ => rfl
  | n + 1, h => by rw [tl_fo, tl_fo, tl_fo_congr (fun i hi => h i (by omega)), h n (by omega)]
/-- a mask of those that .. -/
theorem tl_fo_set {p : Nat → Prop} [DecidablePred p] {n j : Nat} : (tl_fo (fun k => if p k then 2 ^ k else 0) n).testBit j = true ↔ j < n ∧ p j := by
  rw [tl_fo_bit]
  constructor
  · rintro ⟨i, hi, h⟩
    split at h
    · rename_i q
      rw [tl_two_bit] at h
      have e := of_decide_eq_true h
      subst e
      exact ⟨hi, q⟩
    · rw [Nat.zero_testBit] at h
      simp at h
  · rintro ⟨h1, h2⟩
    exact ⟨j, h1, by rw [if_pos h2, tl_two_bit]; simp⟩
theorem tl_fo_set_lt {p : Nat → Prop} [DecidablePred p] {n : Nat} : tl_fo (fun k => if p k then 2 ^ k else 0) n < 2 ^ n := by
  apply tl_fo_lt
  intro i hi
  split
  · exact Nat.pow_lt_pow_right (by decide) hi
  · exact Nat.two_pow_pos n
theorem tl_bool_ext {a b : Bool} (h : a = true ↔ b = true) : a = b := by
  cases a <;> cases b <;> simp_all
theorem lm_hangs {c : Nat → Int32} {t : Int32} {n m w : Nat} {nr nd : Nat → Nat} {so : Nat → Bool} {g : Nat → Int32} {ha al : Nat → Nat} {T : Nat → Bool} (h8 : n ≤ 8) (hm : ∀ j, j < m → nr j < n ∧ nd j < n) (hl : lk m nr nd so ha al) (hT : ∀ a, a < n → T a = (tb t a && !decide (c a < 0))) (hlt : ∀ a, a < n → wk_nb ha al T a < 2 ^ n) (hit : wk_it ha al T n n (wk_nb ha al T w) < 2 ^ n) (hw : w < n) : tl_fo (fun k => if fw c t n m nr nd so g (8 * w + k) < 1000000 then 2 ^ k else 0) n = wk_it ha al T n n (wk_nb ha al T w) := by
  apply tl_mask_eq (n := n) tl_fo_set_lt hit
  intro j hj
  apply tl_bool_ext
  rw [tl_fo_set, wk_reach_bit hlt hw, fw_iff h8 hm hw hj]
  constructor
  · rintro ⟨_, l, h⟩
    exact ⟨l, (lk_gw h8 hl hT hw).mp h⟩
  · rintro ⟨l, h⟩
    exact ⟨hj, l, (lk_gw h8 hl hT hw).mpr h⟩
theorem lm_rings {c : Nat → Int32} {t : Int32} {n m : Nat} {nr nd : Nat → Nat} {so : Nat → Bool} {g : Nat → Int32} {ha al : Nat → Nat} {T : Nat → Bool} (h8 : n ≤ 8) (hm : ∀ j, j < m → nr j < n ∧ nd j < n) (hl : lk m nr nd so ha al) (hT : ∀ a, a < n → T a = (tb t a && !decide (c a < 0))) (hlt : ∀ a, a < n → wk_nb ha al T a < 2 ^ n) : tl_fo (fun k => if fw c t n m nr nd so g (8 * k + k) < 1000000 then 2 ^ k else 0) n = tl_fo (fun w => if (wk_it ha al T n n (wk_nb ha al T w)).testBit w = true then 2 ^ w else 0) n := by
  apply tl_mask_eq (n := n) tl_fo_set_lt tl_fo_set_lt
  intro j hj
  apply tl_bool_ext
  rw [tl_fo_set, tl_fo_set, wk_reach_bit hlt hj, fw_iff h8 hm hj hj]
  constructor
  · rintro ⟨_, l, h⟩
    exact ⟨hj, l, (lk_gw h8 hl hT hj).mp h⟩
  · rintro ⟨_, l, h⟩
    exact ⟨hj, l, (lk_gw h8 hl hT hj).mpr h⟩
theorem lm_ring0 {c : Nat → Int32} {t : Int32} {n m : Nat} {nr nd : Nat → Nat} {so : Nat → Bool} {g : Nat → Int32} {ha al : Nat → Nat} {T : Nat → Bool} (h8 : n ≤ 8) (hm : ∀ j, j < m → nr j < n ∧ nd j < n) (hl : lk m nr nd so ha al) (hT : ∀ a, a < n → T a = (tb t a && !decide (c a < 0))) (hlt : ∀ a, a < n → wk_nb ha al T a < 2 ^ n) : (tl_fo (fun k => if fw c t n m nr nd so g (8 * k + k) < 1000000 then 2 ^ k else 0) n = 0) = (wk_kb ha al T n n (2 ^ n - 1) = false) := by
  apply propext
  have h1 := wk_hasRing_iff hlt
  constructor
  · intro h
    cases q : wk_kb ha al T n n (2 ^ n - 1) with
    | false => rfl
    | true =>
      obtain ⟨a, l, ha2, hg⟩ := h1.mp q
      have h2 := tl_zero_bits.mp h a
      rw [← Bool.not_eq_true, tl_fo_set] at h2
      exfalso
      apply h2
      refine ⟨ha2, ?_⟩
      rw [fw_iff h8 hm ha2 ha2]
      exact ⟨l, (lk_gw h8 hl hT ha2).mpr hg⟩
  · intro h
    apply tl_zero_bits.mpr
    intro j
    rw [← Bool.not_eq_true, tl_fo_set]
    rintro ⟨hj, h2⟩
    rw [fw_iff h8 hm hj hj] at h2
    obtain ⟨l, h3⟩ := h2
    rw [h1.mpr ⟨j, l, hj, (lk_gw h8 hl hT hj).mp h3⟩] at h
    simp at h
theorem lm_steps {c : Nat → Int32} {t : Int32} {n m w v : Nat} {nr nd : Nat → Nat} {so : Nat → Bool} {g : Nat → Int32} {ha al : Nat → Nat} {T : Nat → Bool} (h8 : n ≤ 8) (hm : ∀ j, j < m → nr j < n ∧ nd j < n) (hl : lk m nr nd so ha al) (hT : ∀ a, a < n → T a = (tb t a && !decide (c a < 0))) (hlt : ∀ a, a < n → wk_nb ha al T a < 2 ^ n) (hw : w < n) (hv : v < n) : (if fw c t n m nr nd so g (8 * w + v) < 1000000 then fw c t n m nr nd so g (8 * w + v) else -1) = wk_ls (wk_fr ha al T n w) v n 0 := by
  by_cases q : fw c t n m nr nd so g (8 * w + v) < 1000000
  · rw [if_pos q]
    obtain ⟨h1, h2⟩ := fw_final (c := c) (t := t) (so := so) (g := g) h8 hm
    obtain ⟨e, u, x⟩ := h1 w v hw hv
    rw [fw_iff h8 hm hw hv] at q
    obtain ⟨l, q⟩ := q
    obtain ⟨l2, h3, h4⟩ := gw_short (R := md_R (md_cn c t nr so) m nr nd) (by
      rintro c b ⟨k, k1, _, _, k4⟩
      rw [← k4]
      exact (hm k k1).2) q
    have h5 := h2 w v hw hv l2 h4
    have h6 := x (by omega)
    have h7 := gw_pos h6
    rw [e]
    obtain ⟨f, hf⟩ : ∃ f, fv (fw c t n m nr nd so g) w v = f + 1 := ⟨fv (fw c t n m nr nd so g) w v - 1, by omega⟩
    rw [hf] at h6 ⊢
    rw [wk_ls_some (j := f)]
    · exact (wk_fr_bit hw).mpr ((lk_gw h8 hl hT hw).mp h6)
    · omega
    · omega
    · intro i _ hi
      rw [← Bool.not_eq_true]
      intro h8'
      have := h2 w v hw hv (i + 1) ((lk_gw h8 hl hT hw).mpr ((wk_fr_bit hw).mp h8'))
      omega
  · rw [if_neg q, wk_ls_none]
    intro i _ _
    rw [← Bool.not_eq_true]
    intro h1
    apply q
    rw [fw_iff h8 hm hw hv]
    exact ⟨i + 1, (lk_gw h8 hl hT hw).mpr ((wk_fr_bit hw).mp h1)⟩
/-! contracts -/
def md_rg (c : Nat → Int32) (t : Int32) (n m : Nat) (nr nd : Nat → Nat) (so : Nat → Bool) (g : Nat → Int32) : Nat := tl_fo (fun k => if fw c t n m nr nd so g (8 * k + k) < 1000000 then 2 ^ k else 0) n
theorem c_ringsOf {d : Nat} {E : ex_O → ex_S → Prop} {σ : ex_S} {n m : Nat} {nr nd : Nat → Nat} {so : Nat → Bool} {t : Int32} (h : md_at σ n m nr nd so) : ex_C (d + 4) 89 [.ref 5, .int t] σ E = E (.inl (some (.int (nI (md_rg (σ.2.2.1 36) t n m nr nd so (σ.2.2.1 40)))))) (ex_row σ 40 (fw (σ.2.2.1 36) t n m nr nd so (σ.2.2.1 40))) := by
  have hn := h.1
  simp only [r_X5_ringsOf, r_X5_ringsOf_0, r_X5_ringsOf_1, r_X5_ringsOf_2, r_X5_ringsOf_5, r_X5_ringsOf_6, r_X5_ringsOf_7, r_X5_ringsOf_8, r_X5_ringsOf_10, r_X5_ringsOf_11, r_X5_ringsOf_14, r_X5_ringsOf_17, r_X5_ringsOf_18, r_X5_ringsOf_19, r_X5_ringsOf_22, r_X5_ringsOf_24, r_X5_ringsOf_25, r_X5_ringsOf_26, r_X5_ringsOf_27, r_X5_ringsOf_28, r_X5_ringsOf_29, r_X5_ringsOf_31, r_X5_ringsOf_34, r_X5_ringsOf_35, r_X5_ringsOf_36, r_X5_ringsOf_37, r_X5_ringsOf_40, r_X5_ringsOf_41, r_X5_ringsOf_42, r_X5_ringsOf_43, r_X5_ringsOf_46, r_X5_ringsOf_49, r_X5_ringsOf_50, c_measures h, Option.toList, List.nil_append]
  refine (tl_for (A := fun i => ex_r none (d + 3) ex_m_X5_ringsOf E 9 [.ref 5, .int t, .int (nI (tl_fo (fun k => if fw (σ.2.2.1 36) t n m nr nd so (σ.2.2.1 40) (8 * k + k) < 1000000 then 2 ^ k else 0) i)), .int (nI i)] [] (ex_row σ 40 (fw (σ.2.2.1 36) t n m nr nd so (σ.2.2.1 40))) 0) (n := n) ?_).trans ?_
  · intro i hi R hR
    simp only [r_X5_ringsOf_9]
    simp only [r_X5_ringsOf_0, r_X5_ringsOf_1, r_X5_ringsOf_2, r_X5_ringsOf_5, r_X5_ringsOf_6, r_X5_ringsOf_7, r_X5_ringsOf_8, r_X5_ringsOf_10, r_X5_ringsOf_11, r_X5_ringsOf_14, r_X5_ringsOf_17, r_X5_ringsOf_18, r_X5_ringsOf_19, r_X5_ringsOf_22, r_X5_ringsOf_24, r_X5_ringsOf_25, r_X5_ringsOf_26, r_X5_ringsOf_27, r_X5_ringsOf_28, r_X5_ringsOf_29, r_X5_ringsOf_31, r_X5_ringsOf_34, r_X5_ringsOf_35, r_X5_ringsOf_36, r_X5_ringsOf_37, r_X5_ringsOf_40, r_X5_ringsOf_41, r_X5_ringsOf_42, r_X5_ringsOf_43, r_X5_ringsOf_46, r_X5_ringsOf_49, r_X5_ringsOf_50, s_r1, h.2.2.1]
    rw [if_neg (nI_ge hi (by omega))]
    simp only [tl_ix, tl_in (show 8 * i + i < 64 by omega) (show 64 < 2 ^ 31 by omega), tl_cl (show 8 * i + i < 2 ^ 31 by omega), s_r3, if_true, true_and, tl_shl i (by omega), tl_or, nI_1]
    subst hR
    rw [tl_fo]
    by_cases q : fw (σ.2.2.1 36) t n m nr nd so (σ.2.2.1 40) (8 * i + i) < 1000000
    · rw [if_neg (Int32.not_le.mpr q), if_pos q]
    · rw [if_pos (Int32.not_lt.mp q), if_neg q, show (0 : Int32) = nI 0 from rfl, tl_or]
  · unfold md_rg
    simp only [r_X5_ringsOf_9]
    simp only [r_X5_ringsOf_0, r_X5_ringsOf_1, r_X5_ringsOf_2, r_X5_ringsOf_5, r_X5_ringsOf_6, r_X5_ringsOf_7, r_X5_ringsOf_8, r_X5_ringsOf_10, r_X5_ringsOf_11, r_X5_ringsOf_14, r_X5_ringsOf_17, r_X5_ringsOf_18, r_X5_ringsOf_19, r_X5_ringsOf_22, r_X5_ringsOf_24, r_X5_ringsOf_25, r_X5_ringsOf_26, r_X5_ringsOf_27, r_X5_ringsOf_28, r_X5_ringsOf_29, r_X5_ringsOf_31, r_X5_ringsOf_34, r_X5_ringsOf_35, r_X5_ringsOf_36, r_X5_ringsOf_37, r_X5_ringsOf_40, r_X5_ringsOf_41, r_X5_ringsOf_42, r_X5_ringsOf_43, r_X5_ringsOf_46, r_X5_ringsOf_49, r_X5_ringsOf_50, s_r1, h.2.2.1, Int32.le_refl, if_true]
theorem md_thr {σ : ex_S} {n m : Nat} {nr nd : Nat → Nat} {so : Nat → Bool} (h : md_at σ n m nr nd so) (v : Int32) : md_at (ex_sF σ 500 v) n m nr nd so := h
theorem c_mrings {d : Nat} {E : ex_O → ex_S → Prop} {σ : ex_S} {n m : Nat} {nr nd : Nat → Nat} {so : Nat → Bool} {t : Int32} (h : md_at σ n m nr nd so) : ex_C (d + 5) 90 [.ref 5, .int t] σ E = E (.inl (some (.int (nI (md_rg (σ.2.2.1 36) t n m nr nd so (σ.2.2.1 40)))))) (ex_row (ex_sF σ 500 0) 40 (fw (σ.2.2.1 36) t n m nr nd so (σ.2.2.1 40))) := by
  simp only [r_X5_rings, r_X5_rings_0, r_X5_rings_1, r_X5_rings_2, r_X5_rings_5, r_X5_rings_6, r_X5_rings_7, r_X5_rings_10, c_ringsOf (md_thr h 0), Option.toList, List.cons_append, List.nil_append, s_f2]
theorem c_mhangs {d : Nat} {E : ex_O → ex_S → Prop} {σ : ex_S} {n m w : Nat} {nr nd : Nat → Nat} {so : Nat → Bool} (h : md_at σ n m nr nd so) (hw : w < n) : ex_C (d + 4) 87 [.ref 5, .int (nI w)] σ E = E (.inl (some (.int (nI (tl_fo (fun k => if fw (σ.2.2.1 36) 0 n m nr nd so (σ.2.2.1 40) (8 * w + k) < 1000000 then 2 ^ k else 0) n))))) (ex_row (ex_sF σ 500 0) 40 (fw (σ.2.2.1 36) 0 n m nr nd so (σ.2.2.1 40))) := by
  have hn := h.1
  have h0 := md_thr h 0
  simp only [r_X5_hangs, r_X5_hangs_0, r_X5_hangs_1, r_X5_hangs_2, r_X5_hangs_5, r_X5_hangs_6, r_X5_hangs_7, r_X5_hangs_8, r_X5_hangs_11, r_X5_hangs_12, r_X5_hangs_15, r_X5_hangs_18, r_X5_hangs_19, r_X5_hangs_20, r_X5_hangs_21, r_X5_hangs_22, r_X5_hangs_25, r_X5_hangs_26, r_X5_hangs_27, r_X5_hangs_28, r_X5_hangs_30, r_X5_hangs_31, r_X5_hangs_34, r_X5_hangs_37, r_X5_hangs_38, r_X5_hangs_39, r_X5_hangs_42, r_X5_hangs_44, r_X5_hangs_45, r_X5_hangs_46, r_X5_hangs_47, r_X5_hangs_48, r_X5_hangs_49, r_X5_hangs_51, r_X5_hangs_54, r_X5_hangs_55, r_X5_hangs_56, r_X5_hangs_57, r_X5_hangs_60, r_X5_hangs_61, r_X5_hangs_62, r_X5_hangs_63, r_X5_hangs_66, r_X5_hangs_69, r_X5_hangs_70, c_noWork hn h0.2.2.1 (vp_in_nI hw (by omega)), c_throwsIf0, if_true, c_measures h0, Option.toList, List.cons_append, List.nil_append]
  refine (tl_for (A := fun i => ex_r none (d + 3) ex_m_X5_hangs E 29 [.ref 5, .int (nI w), .int (nI (tl_fo (fun k => if fw (σ.2.2.1 36) 0 n m nr nd so (σ.2.2.1 40) (8 * w + k) < 1000000 then 2 ^ k else 0) i)), .int (nI i)] [] (ex_row (ex_sF σ 500 0) 40 (fw (σ.2.2.1 36) 0 n m nr nd so (σ.2.2.1 40))) 0) (n := n) ?_).trans ?_
  · intro i hi R hR
    simp only [r_X5_hangs_29]
    simp only [r_X5_hangs_0, r_X5_hangs_1, r_X5_hangs_2, r_X5_hangs_5, r_X5_hangs_6, r_X5_hangs_7, r_X5_hangs_8, r_X5_hangs_11, r_X5_hangs_12, r_X5_hangs_15, r_X5_hangs_18, r_X5_hangs_19, r_X5_hangs_20, r_X5_hangs_21, r_X5_hangs_22, r_X5_hangs_25, r_X5_hangs_26, r_X5_hangs_27, r_X5_hangs_28, r_X5_hangs_30, r_X5_hangs_31, r_X5_hangs_34, r_X5_hangs_37, r_X5_hangs_38, r_X5_hangs_39, r_X5_hangs_42, r_X5_hangs_44, r_X5_hangs_45, r_X5_hangs_46, r_X5_hangs_47, r_X5_hangs_48, r_X5_hangs_49, r_X5_hangs_51, r_X5_hangs_54, r_X5_hangs_55, r_X5_hangs_56, r_X5_hangs_57, r_X5_hangs_60, r_X5_hangs_61, r_X5_hangs_62, r_X5_hangs_63, r_X5_hangs_66, r_X5_hangs_69, r_X5_hangs_70, s_r1, h0.2.2.1]
    rw [if_neg (nI_ge hi (by omega))]
    simp only [tl_ix, tl_in (show 8 * w + i < 64 by omega) (show 64 < 2 ^ 31 by omega), tl_cl (show 8 * w + i < 2 ^ 31 by omega), s_r3, if_true, true_and, tl_shl i (by omega), tl_or, nI_1]
    subst hR
    rw [tl_fo]
    by_cases q : fw (σ.2.2.1 36) 0 n m nr nd so (σ.2.2.1 40) (8 * w + i) < 1000000
    · rw [if_neg (Int32.not_le.mpr q), if_pos q]
    · rw [if_pos (Int32.not_lt.mp q), if_neg q, show (0 : Int32) = nI 0 from rfl, tl_or]
  · simp only [r_X5_hangs_29]
    simp only [r_X5_hangs_0, r_X5_hangs_1, r_X5_hangs_2, r_X5_hangs_5, r_X5_hangs_6, r_X5_hangs_7, r_X5_hangs_8, r_X5_hangs_11, r_X5_hangs_12, r_X5_hangs_15, r_X5_hangs_18, r_X5_hangs_19, r_X5_hangs_20, r_X5_hangs_21, r_X5_hangs_22, r_X5_hangs_25, r_X5_hangs_26, r_X5_hangs_27, r_X5_hangs_28, r_X5_hangs_30, r_X5_hangs_31, r_X5_hangs_34, r_X5_hangs_37, r_X5_hangs_38, r_X5_hangs_39, r_X5_hangs_42, r_X5_hangs_44, r_X5_hangs_45, r_X5_hangs_46, r_X5_hangs_47, r_X5_hangs_48, r_X5_hangs_49, r_X5_hangs_51, r_X5_hangs_54, r_X5_hangs_55, r_X5_hangs_56, r_X5_hangs_57, r_X5_hangs_60, r_X5_hangs_61, r_X5_hangs_62, r_X5_hangs_63, r_X5_hangs_66, r_X5_hangs_69, r_X5_hangs_70, s_r1, h0.2.2.1, Int32.le_refl, if_true]
theorem c_msteps {d : Nat} {E : ex_O → ex_S → Prop} {σ : ex_S} {n m w v : Nat} {nr nd : Nat → Nat} {so : Nat → Bool} (h : md_at σ n m nr nd so) (hw : w < n) (hv : v < n) : ex_C (d + 4) 88 [.ref 5, .int (nI w), .int (nI v)] σ E = E (.inl (some (.int (if fw (σ.2.2.1 36) 0 n m nr nd so (σ.2.2.1 40) (8 * w + v) < 1000000 then fw (σ.2.2.1 36) 0 n m nr nd so (σ.2.2.1 40) (8 * w + v) else -1)))) (ex_row (ex_sF σ 500 0) 40 (fw (σ.2.2.1 36) 0 n m nr nd so (σ.2.2.1 40))) := by
  have hn := h.1
  have h0 := md_thr h 0
  simp only [r_X5_steps, r_X5_steps_0, r_X5_steps_1, r_X5_steps_2, r_X5_steps_5, r_X5_steps_6, r_X5_steps_7, r_X5_steps_8, r_X5_steps_11, r_X5_steps_14, r_X5_steps_15, r_X5_steps_16, r_X5_steps_19, r_X5_steps_22, r_X5_steps_23, r_X5_steps_26, r_X5_steps_27, r_X5_steps_28, r_X5_steps_31, r_X5_steps_34, r_X5_steps_35, r_X5_steps_36, r_X5_steps_37, r_X5_steps_38, r_X5_steps_41, r_X5_steps_42, r_X5_steps_45, r_X5_steps_47, r_X5_steps_48, r_X5_steps_49, r_X5_steps_50, r_X5_steps_51, r_X5_steps_52, r_X5_steps_53, r_X5_steps_54, r_X5_steps_56, r_X5_steps_59, r_X5_steps_60, r_X5_steps_63, r_X5_steps_64, c_noWork hn h0.2.2.1 (vp_in_nI hw (by omega)), c_noWork hn h0.2.2.1 (vp_in_nI hv (by omega)), c_throwsIf0, if_true, c_measures h0, Option.toList, List.cons_append, List.nil_append, tl_b0, true_and]
  simp only [tl_ix, tl_in (show 8 * w + v < 64 by omega) (show 64 < 2 ^ 31 by omega), tl_cl (show 8 * w + v < 2 ^ 31 by omega), s_r3, s_f2, if_true, true_and]
  by_cases q : fw (σ.2.2.1 36) 0 n m nr nd so (σ.2.2.1 40) (8 * w + v) < 1000000
  · rw [if_neg (Int32.not_le.mpr q), if_pos q]
  · rw [if_pos (Int32.not_lt.mp q), if_neg q]
def md_ca (c : Nat → Int32) (s : Int32) : Nat → Bool
  | 0 => true
  | k + 1 => if tb s k = true then (md_ca c s k && !decide (c k < 0)) else md_ca c s k
noncomputable def md_cc (c : Nat → Int32) (n m : Nat) (nr nd : Nat → Nat) (so : Nat → Bool) (g : Nat → Int32) : Nat → Int32 × Int32 × (Nat → Int32)
  | 0 => (-1, 0, g)
  | s + 1 => if md_ca c (nI s) n = true ∧ ((md_cc c n m nr nd so g s).1 < 0 ∨ wk_co c (nI s) n < (md_cc c n m nr nd so g s).2.1) then
      (if md_rg c (nI s) n m nr nd so (md_cc c n m nr nd so g s).2.2 = 0 then (nI s, wk_co c (nI s) n, fw c (nI s) n m nr nd so (md_cc c n m nr nd so g s).2.2) else ((md_cc c n m nr nd so g s).1, (md_cc c n m nr nd so g s).2.1, fw c (nI s) n m nr nd so (md_cc c n m nr nd so g s).2.2))
    else md_cc c n m nr nd so g s
theorem c_mcut {d : Nat} {E : ex_O → ex_S → Prop} {σ : ex_S} {n m : Nat} {nr nd : Nat → Nat} {so : Nat → Bool} (h : md_at σ n m nr nd so) : ex_C (d + 5) 91 [.ref 5] σ E = E (.inl (some (.int (md_cc (σ.2.2.1 36) n m nr nd so (σ.2.2.1 40) (2 ^ n)).1))) (ex_row (ex_sF σ 500 0) 40 (md_cc (σ.2.2.1 36) n m nr nd so (σ.2.2.1 40) (2 ^ n)).2.2) := by
  have hn := h.1
  have h8 := tl_p8 hn
  have h0 := md_thr h 0
  simp only [r_X5_cut, r_X5_cut_0, r_X5_cut_1, r_X5_cut_2, r_X5_cut_5, r_X5_cut_6, r_X5_cut_7, r_X5_cut_8, r_X5_cut_9, r_X5_cut_10, r_X5_cut_12, r_X5_cut_13, r_X5_cut_14, r_X5_cut_17, r_X5_cut_18, r_X5_cut_21, r_X5_cut_22, r_X5_cut_24, r_X5_cut_25, r_X5_cut_27, r_X5_cut_28, r_X5_cut_32, r_X5_cut_33, r_X5_cut_36, r_X5_cut_39, r_X5_cut_40, r_X5_cut_42, r_X5_cut_43, r_X5_cut_44, r_X5_cut_45, r_X5_cut_48, r_X5_cut_51, r_X5_cut_53, r_X5_cut_56, r_X5_cut_57, r_X5_cut_59, r_X5_cut_62, r_X5_cut_65, r_X5_cut_66, r_X5_cut_69, r_X5_cut_70, r_X5_cut_72, r_X5_cut_74, r_X5_cut_75, r_X5_cut_78, r_X5_cut_80, r_X5_cut_81, r_X5_cut_82, r_X5_cut_84, r_X5_cut_87, r_X5_cut_90, r_X5_cut_92, r_X5_cut_95, r_X5_cut_96, r_X5_cut_99, r_X5_cut_101, r_X5_cut_102, r_X5_cut_105, r_X5_cut_106, r_X5_cut_107, r_X5_cut_110, r_X5_cut_113, r_X5_cut_116, r_X5_cut_117, r_X5_cut_118, r_X5_cut_120, r_X5_cut_121, r_X5_cut_124, r_X5_cut_127, r_X5_cut_128]
  have e0 : ex_row (ex_sF σ 500 0) 40 (md_cc (σ.2.2.1 36) n m nr nd so (σ.2.2.1 40) 0).2.2 = ex_sF σ 500 0 := tl_row_self (ex_sF σ 500 0) 40
  have l := tl_forz (A := fun (s : Nat) (z : Value × Value × Value) => ex_r none (d + 4) ex_m_X5_cut E 11 [.ref 5, .int (md_cc (σ.2.2.1 36) n m nr nd so (σ.2.2.1 40) s).1, .int (md_cc (σ.2.2.1 36) n m nr nd so (σ.2.2.1 40) s).2.1, .int (nI s), z.1, z.2.1, z.2.2] [] (ex_row (ex_sF σ 500 0) 40 (md_cc (σ.2.2.1 36) n m nr nd so (σ.2.2.1 40) s).2.2) 0) (n := 2 ^ n) (Z := E (.inl (some (.int (md_cc (σ.2.2.1 36) n m nr nd so (σ.2.2.1 40) (2 ^ n)).1))) (ex_row (ex_sF σ 500 0) 40 (md_cc (σ.2.2.1 36) n m nr nd so (σ.2.2.1 40) (2 ^ n)).2.2)) ?_ ?_ (.retAddr 0, .retAddr 0, .retAddr 0)
  · simp only [e0] at l
    exact l
  · intro s hs z R hR
    simp only [r_X5_cut_11]
    simp only [r_X5_cut_0, r_X5_cut_1, r_X5_cut_2, r_X5_cut_5, r_X5_cut_6, r_X5_cut_7, r_X5_cut_8, r_X5_cut_9, r_X5_cut_10, r_X5_cut_12, r_X5_cut_13, r_X5_cut_14, r_X5_cut_17, r_X5_cut_18, r_X5_cut_21, r_X5_cut_22, r_X5_cut_24, r_X5_cut_25, r_X5_cut_27, r_X5_cut_28, r_X5_cut_32, r_X5_cut_33, r_X5_cut_36, r_X5_cut_39, r_X5_cut_40, r_X5_cut_42, r_X5_cut_43, r_X5_cut_44, r_X5_cut_45, r_X5_cut_48, r_X5_cut_51, r_X5_cut_53, r_X5_cut_56, r_X5_cut_57, r_X5_cut_59, r_X5_cut_62, r_X5_cut_65, r_X5_cut_66, r_X5_cut_69, r_X5_cut_70, r_X5_cut_72, r_X5_cut_74, r_X5_cut_75, r_X5_cut_78, r_X5_cut_80, r_X5_cut_81, r_X5_cut_82, r_X5_cut_84, r_X5_cut_87, r_X5_cut_90, r_X5_cut_92, r_X5_cut_95, r_X5_cut_96, r_X5_cut_99, r_X5_cut_101, r_X5_cut_102, r_X5_cut_105, r_X5_cut_106, r_X5_cut_107, r_X5_cut_110, r_X5_cut_113, r_X5_cut_116, r_X5_cut_117, r_X5_cut_118, r_X5_cut_120, r_X5_cut_121, r_X5_cut_124, r_X5_cut_127, r_X5_cut_128, s_r1, h0.2.2.1, tl_shl n (by omega)]
    rw [if_neg (nI_ge hs (by omega))]
    rw [md_cc] at hR
    generalize md_cc (σ.2.2.1 36) n m nr nd so (σ.2.2.1 40) s = p at hR ⊢
    have li := tl_for (A := fun i => ex_r none (d + 4) ex_m_X5_cut E 30 [.ref 5, .int p.1, .int p.2.1, .int (nI s), .int (wk_co (σ.2.2.1 36) (nI s) i), .int (if md_ca (σ.2.2.1 36) (nI s) i = true then 1 else 0), .int (nI i)] [] (ex_row (ex_sF σ 500 0) 40 p.2.2) 0) (n := n) (by
      intro i hi S hS
      simp only [r_X5_cut_30]
      simp only [r_X5_cut_0, r_X5_cut_1, r_X5_cut_2, r_X5_cut_5, r_X5_cut_6, r_X5_cut_7, r_X5_cut_8, r_X5_cut_9, r_X5_cut_10, r_X5_cut_12, r_X5_cut_13, r_X5_cut_14, r_X5_cut_17, r_X5_cut_18, r_X5_cut_21, r_X5_cut_22, r_X5_cut_24, r_X5_cut_25, r_X5_cut_27, r_X5_cut_28, r_X5_cut_32, r_X5_cut_33, r_X5_cut_36, r_X5_cut_39, r_X5_cut_40, r_X5_cut_42, r_X5_cut_43, r_X5_cut_44, r_X5_cut_45, r_X5_cut_48, r_X5_cut_51, r_X5_cut_53, r_X5_cut_56, r_X5_cut_57, r_X5_cut_59, r_X5_cut_62, r_X5_cut_65, r_X5_cut_66, r_X5_cut_69, r_X5_cut_70, r_X5_cut_72, r_X5_cut_74, r_X5_cut_75, r_X5_cut_78, r_X5_cut_80, r_X5_cut_81, r_X5_cut_82, r_X5_cut_84, r_X5_cut_87, r_X5_cut_90, r_X5_cut_92, r_X5_cut_95, r_X5_cut_96, r_X5_cut_99, r_X5_cut_101, r_X5_cut_102, r_X5_cut_105, r_X5_cut_106, r_X5_cut_107, r_X5_cut_110, r_X5_cut_113, r_X5_cut_116, r_X5_cut_117, r_X5_cut_118, r_X5_cut_120, r_X5_cut_121, r_X5_cut_124, r_X5_cut_127, r_X5_cut_128, s_r1, h0.2.2.1, tb0, c_mcan (show i < 8 by omega)]
      rw [if_neg (nI_ge hi (by omega))]
      simp only [Option.toList, List.cons_append, List.nil_append, r_X5_cut_0, r_X5_cut_1, r_X5_cut_2, r_X5_cut_5, r_X5_cut_6, r_X5_cut_7, r_X5_cut_8, r_X5_cut_9, r_X5_cut_10, r_X5_cut_12, r_X5_cut_13, r_X5_cut_14, r_X5_cut_17, r_X5_cut_18, r_X5_cut_21, r_X5_cut_22, r_X5_cut_24, r_X5_cut_25, r_X5_cut_27, r_X5_cut_28, r_X5_cut_32, r_X5_cut_33, r_X5_cut_36, r_X5_cut_39, r_X5_cut_40, r_X5_cut_42, r_X5_cut_43, r_X5_cut_44, r_X5_cut_45, r_X5_cut_48, r_X5_cut_51, r_X5_cut_53, r_X5_cut_56, r_X5_cut_57, r_X5_cut_59, r_X5_cut_62, r_X5_cut_65, r_X5_cut_66, r_X5_cut_69, r_X5_cut_70, r_X5_cut_72, r_X5_cut_74, r_X5_cut_75, r_X5_cut_78, r_X5_cut_80, r_X5_cut_81, r_X5_cut_82, r_X5_cut_84, r_X5_cut_87, r_X5_cut_90, r_X5_cut_92, r_X5_cut_95, r_X5_cut_96, r_X5_cut_99, r_X5_cut_101, r_X5_cut_102, r_X5_cut_105, r_X5_cut_106, r_X5_cut_107, r_X5_cut_110, r_X5_cut_113, r_X5_cut_116, r_X5_cut_117, r_X5_cut_118, r_X5_cut_120, r_X5_cut_121, r_X5_cut_124, r_X5_cut_127, r_X5_cut_128, tl_in (show i < 8 by omega) (show 8 < 2 ^ 31 by omega), tl_cl (show i < 2 ^ 31 by omega), true_and, nI_1, s_r3, s_f2, Nat.reduceEqDiff, if_false]
      subst hS
      rw [wk_co, md_ca]
      by_cases q : σ.2.2.1 36 i < 0 <;> cases q2 : tb (nI s) i <;> cases q3 : md_ca (σ.2.2.1 36) (nI s) i <;> simp [q])
    refine Eq.trans li ?_
    simp only [r_X5_cut_30]
    simp only [r_X5_cut_0, r_X5_cut_1, r_X5_cut_2, r_X5_cut_5, r_X5_cut_6, r_X5_cut_7, r_X5_cut_8, r_X5_cut_9, r_X5_cut_10, r_X5_cut_12, r_X5_cut_13, r_X5_cut_14, r_X5_cut_17, r_X5_cut_18, r_X5_cut_21, r_X5_cut_22, r_X5_cut_24, r_X5_cut_25, r_X5_cut_27, r_X5_cut_28, r_X5_cut_32, r_X5_cut_33, r_X5_cut_36, r_X5_cut_39, r_X5_cut_40, r_X5_cut_42, r_X5_cut_43, r_X5_cut_44, r_X5_cut_45, r_X5_cut_48, r_X5_cut_51, r_X5_cut_53, r_X5_cut_56, r_X5_cut_57, r_X5_cut_59, r_X5_cut_62, r_X5_cut_65, r_X5_cut_66, r_X5_cut_69, r_X5_cut_70, r_X5_cut_72, r_X5_cut_74, r_X5_cut_75, r_X5_cut_78, r_X5_cut_80, r_X5_cut_81, r_X5_cut_82, r_X5_cut_84, r_X5_cut_87, r_X5_cut_90, r_X5_cut_92, r_X5_cut_95, r_X5_cut_96, r_X5_cut_99, r_X5_cut_101, r_X5_cut_102, r_X5_cut_105, r_X5_cut_106, r_X5_cut_107, r_X5_cut_110, r_X5_cut_113, r_X5_cut_116, r_X5_cut_117, r_X5_cut_118, r_X5_cut_120, r_X5_cut_121, r_X5_cut_124, r_X5_cut_127, r_X5_cut_128, s_r1, h0.2.2.1, Int32.le_refl, if_true, c_ringsOf (md_row h0 p.2.2), Option.toList, List.cons_append, List.nil_append, tl_row_row, nI_1]
    have hlt : md_rg (σ.2.2.1 36) (nI s) n m nr nd so p.2.2 < 2 ^ n := tl_fo_set_lt
    have e1 : md_rg ((ex_row (ex_sF σ 500 0) 40 p.2.2).2.2.1 36) (nI s) n m nr nd so ((ex_row (ex_sF σ 500 0) 40 p.2.2).2.2.1 40) = md_rg (σ.2.2.1 36) (nI s) n m nr nd so p.2.2 := rfl
    have e2 : fw ((ex_row (ex_sF σ 500 0) 40 p.2.2).2.2.1 36) (nI s) n m nr nd so ((ex_row (ex_sF σ 500 0) 40 p.2.2).2.2.1 40) = fw (σ.2.2.1 36) (nI s) n m nr nd so p.2.2 := rfl
    simp only [e1, e2, tl_eq0 (show md_rg (σ.2.2.1 36) (nI s) n m nr nd so p.2.2 < 2 ^ 31 by omega)]
    have hR1 := hR (.int (wk_co (σ.2.2.1 36) (nI s) n), .int (if md_ca (σ.2.2.1 36) (nI s) n = true then 1 else 0), .int (nI n))
    clear hR
    by_cases q : md_ca (σ.2.2.1 36) (nI s) n = true
    · by_cases q2 : p.1 < 0
      · by_cases q4 : md_rg (σ.2.2.1 36) (nI s) n m nr nd so p.2.2 = 0
        · simp [q, q2, q4] at hR1 ⊢
          rw [hR1]
        · simp [q, q2, q4] at hR1 ⊢
          rw [hR1]
      · by_cases q3 : wk_co (σ.2.2.1 36) (nI s) n < p.2.1
        · have q5 : ¬ p.2.1 ≤ wk_co (σ.2.2.1 36) (nI s) n := Int32.not_le.mpr q3
          by_cases q4 : md_rg (σ.2.2.1 36) (nI s) n m nr nd so p.2.2 = 0
          · simp [q, q2, q3, q4, q5] at hR1 ⊢
            rw [hR1]
          · simp [q, q2, q3, q4, q5] at hR1 ⊢
            rw [hR1]
        · have q5 : p.2.1 ≤ wk_co (σ.2.2.1 36) (nI s) n := Int32.not_lt.mp q3
          simp [q, q2, q3, q5] at hR1 ⊢
          rw [hR1]
    · simp [q] at hR1 ⊢
      rw [hR1]
  · intro z
    simp only [r_X5_cut_11]
    simp only [r_X5_cut_0, r_X5_cut_1, r_X5_cut_2, r_X5_cut_5, r_X5_cut_6, r_X5_cut_7, r_X5_cut_8, r_X5_cut_9, r_X5_cut_10, r_X5_cut_12, r_X5_cut_13, r_X5_cut_14, r_X5_cut_17, r_X5_cut_18, r_X5_cut_21, r_X5_cut_22, r_X5_cut_24, r_X5_cut_25, r_X5_cut_27, r_X5_cut_28, r_X5_cut_32, r_X5_cut_33, r_X5_cut_36, r_X5_cut_39, r_X5_cut_40, r_X5_cut_42, r_X5_cut_43, r_X5_cut_44, r_X5_cut_45, r_X5_cut_48, r_X5_cut_51, r_X5_cut_53, r_X5_cut_56, r_X5_cut_57, r_X5_cut_59, r_X5_cut_62, r_X5_cut_65, r_X5_cut_66, r_X5_cut_69, r_X5_cut_70, r_X5_cut_72, r_X5_cut_74, r_X5_cut_75, r_X5_cut_78, r_X5_cut_80, r_X5_cut_81, r_X5_cut_82, r_X5_cut_84, r_X5_cut_87, r_X5_cut_90, r_X5_cut_92, r_X5_cut_95, r_X5_cut_96, r_X5_cut_99, r_X5_cut_101, r_X5_cut_102, r_X5_cut_105, r_X5_cut_106, r_X5_cut_107, r_X5_cut_110, r_X5_cut_113, r_X5_cut_116, r_X5_cut_117, r_X5_cut_118, r_X5_cut_120, r_X5_cut_121, r_X5_cut_124, r_X5_cut_127, r_X5_cut_128, s_r1, h0.2.2.1, tl_shl n (by omega), Int32.le_refl, if_true]
end M2
