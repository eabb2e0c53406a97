/-! ===== rows filled; the night of the class, once more ===== -/
section FI
def fi (g : Nat → Int32) (v : Int32) : Nat → Nat → Int32
  | 0 => g
  | i + 1 => upd (fi g v i) i v
theorem fi_val {g : Nat → Int32} {v : Int32} {j : Nat} : ∀ {k : Nat}, fi g v k j = if j < k then v else g j
  | 0 => by simp [fi]
  | k + 1 => by
    rw [fi, s_u, fi_val]
    by_cases h : j = k
    · rw [if_pos h, if_pos (by omega)]
    · rw [if_neg h]
      by_cases h2 : j < k
      · rw [if_pos h2, if_pos (by omega)]
      · rw [if_neg h2, if_neg (by omega)]
theorem c_fill_6 {d : Nat} {E : ex_O → ex_S → Prop} {σ : ex_S} {v : Int32} : ex_C (d + 1) 143 [.ref 6, .int v] σ E = E (.inl none) (ex_row σ 6 (fi (σ.2.2.1 6) v 8)) := by
  simp only [r_J7_fill_53178_k6, r_J7_fill_53178_k6_0, r_J7_fill_53178_k6_1, r_J7_fill_53178_k6_2, r_J7_fill_53178_k6_3, r_J7_fill_53178_k6_4, r_J7_fill_53178_k6_6, r_J7_fill_53178_k6_7, r_J7_fill_53178_k6_10, r_J7_fill_53178_k6_11, r_J7_fill_53178_k6_12, r_J7_fill_53178_k6_13, r_J7_fill_53178_k6_14, r_J7_fill_53178_k6_17, r_J7_fill_53178_k6_20]
  have l := tl_for (A := fun i => ex_r none d ex_m_J7_fill_53178 E 5 [.ref 6, .int v, .int (nI i), .int 8] [] (ex_row σ 6 (fi (σ.2.2.1 6) v i)) 0) (n := 8) (by
    intro i hi R hR
    simp only [r_J7_fill_53178_k6_5]
    simp only [r_J7_fill_53178_k6_0, r_J7_fill_53178_k6_1, r_J7_fill_53178_k6_2, r_J7_fill_53178_k6_3, r_J7_fill_53178_k6_4, r_J7_fill_53178_k6_6, r_J7_fill_53178_k6_7, r_J7_fill_53178_k6_10, r_J7_fill_53178_k6_11, r_J7_fill_53178_k6_12, r_J7_fill_53178_k6_13, r_J7_fill_53178_k6_14, r_J7_fill_53178_k6_17, r_J7_fill_53178_k6_20, tl_in (show i < 8 by omega) (show 8 < 2 ^ 31 by omega), tl_cl (show i < 2 ^ 31 by omega), true_and, nI_1, s_ar]
    rw [if_neg (show ¬ (8 : Int32) ≤ nI i from nI_ge (b := 8) hi (by omega))]
    exact hR)
  simp only [show fi (σ.2.2.1 6) v 0 = σ.2.2.1 6 from rfl, tl_row_self] at l
  refine Eq.trans l ?_
  simp only [r_J7_fill_53178_k6_5, r_J7_fill_53178_k6_6, r_J7_fill_53178_k6_7, r_J7_fill_53178_k6_20]
  rw [if_pos (show (8 : Int32) ≤ nI 8 from nI_le (a := 8) (b := 8) (by omega) (by omega))]
theorem c_fill_10 {d : Nat} {E : ex_O → ex_S → Prop} {σ : ex_S} {v : Int32} : ex_C (d + 1) 143 [.ref 10, .int v] σ E = E (.inl none) (ex_row σ 10 (fi (σ.2.2.1 10) v 97)) := by
  simp only [r_J7_fill_53178_k10, r_J7_fill_53178_k10_0, r_J7_fill_53178_k10_1, r_J7_fill_53178_k10_2, r_J7_fill_53178_k10_3, r_J7_fill_53178_k10_4, r_J7_fill_53178_k10_6, r_J7_fill_53178_k10_7, r_J7_fill_53178_k10_10, r_J7_fill_53178_k10_11, r_J7_fill_53178_k10_12, r_J7_fill_53178_k10_13, r_J7_fill_53178_k10_14, r_J7_fill_53178_k10_17, r_J7_fill_53178_k10_20]
  have l := tl_for (A := fun i => ex_r none d ex_m_J7_fill_53178 E 5 [.ref 10, .int v, .int (nI i), .int 97] [] (ex_row σ 10 (fi (σ.2.2.1 10) v i)) 0) (n := 97) (by
    intro i hi R hR
    simp only [r_J7_fill_53178_k10_5]
    simp only [r_J7_fill_53178_k10_0, r_J7_fill_53178_k10_1, r_J7_fill_53178_k10_2, r_J7_fill_53178_k10_3, r_J7_fill_53178_k10_4, r_J7_fill_53178_k10_6, r_J7_fill_53178_k10_7, r_J7_fill_53178_k10_10, r_J7_fill_53178_k10_11, r_J7_fill_53178_k10_12, r_J7_fill_53178_k10_13, r_J7_fill_53178_k10_14, r_J7_fill_53178_k10_17, r_J7_fill_53178_k10_20, tl_in (show i < 97 by omega) (show 97 < 2 ^ 31 by omega), tl_cl (show i < 2 ^ 31 by omega), true_and, nI_1, s_ar]
    rw [if_neg (show ¬ (97 : Int32) ≤ nI i from nI_ge (b := 97) hi (by omega))]
    exact hR)
  simp only [show fi (σ.2.2.1 10) v 0 = σ.2.2.1 10 from rfl, tl_row_self] at l
  refine Eq.trans l ?_
  simp only [r_J7_fill_53178_k10_5, r_J7_fill_53178_k10_6, r_J7_fill_53178_k10_7, r_J7_fill_53178_k10_20]
  rw [if_pos (show (97 : Int32) ≤ nI 97 from nI_le (a := 97) (b := 97) (by omega) (by omega))]
theorem c_fill_12 {d : Nat} {E : ex_O → ex_S → Prop} {σ : ex_S} {v : Int32} : ex_C (d + 1) 143 [.ref 12, .int v] σ E = E (.inl none) (ex_row σ 12 (fi (σ.2.2.1 12) v 72)) := by
  simp only [r_J7_fill_53178_k12, r_J7_fill_53178_k12_0, r_J7_fill_53178_k12_1, r_J7_fill_53178_k12_2, r_J7_fill_53178_k12_3, r_J7_fill_53178_k12_4, r_J7_fill_53178_k12_6, r_J7_fill_53178_k12_7, r_J7_fill_53178_k12_10, r_J7_fill_53178_k12_11, r_J7_fill_53178_k12_12, r_J7_fill_53178_k12_13, r_J7_fill_53178_k12_14, r_J7_fill_53178_k12_17, r_J7_fill_53178_k12_20]
  have l := tl_for (A := fun i => ex_r none d ex_m_J7_fill_53178 E 5 [.ref 12, .int v, .int (nI i), .int 72] [] (ex_row σ 12 (fi (σ.2.2.1 12) v i)) 0) (n := 72) (by
    intro i hi R hR
    simp only [r_J7_fill_53178_k12_5]
    simp only [r_J7_fill_53178_k12_0, r_J7_fill_53178_k12_1, r_J7_fill_53178_k12_2, r_J7_fill_53178_k12_3, r_J7_fill_53178_k12_4, r_J7_fill_53178_k12_6, r_J7_fill_53178_k12_7, r_J7_fill_53178_k12_10, r_J7_fill_53178_k12_11, r_J7_fill_53178_k12_12, r_J7_fill_53178_k12_13, r_J7_fill_53178_k12_14, r_J7_fill_53178_k12_17, r_J7_fill_53178_k12_20, tl_in (show i < 72 by omega) (show 72 < 2 ^ 31 by omega), tl_cl (show i < 2 ^ 31 by omega), true_and, nI_1, s_ar]
    rw [if_neg (show ¬ (72 : Int32) ≤ nI i from nI_ge (b := 72) hi (by omega))]
    exact hR)
  simp only [show fi (σ.2.2.1 12) v 0 = σ.2.2.1 12 from rfl, tl_row_self] at l
  refine Eq.trans l ?_
  simp only [r_J7_fill_53178_k12_5, r_J7_fill_53178_k12_6, r_J7_fill_53178_k12_7, r_J7_fill_53178_k12_20]
  rw [if_pos (show (72 : Int32) ≤ nI 72 from nI_le (a := 72) (b := 72) (by omega) (by omega))]
theorem c_fill_13 {d : Nat} {E : ex_O → ex_S → Prop} {σ : ex_S} {v : Int32} : ex_C (d + 1) 143 [.ref 13, .int v] σ E = E (.inl none) (ex_row σ 13 (fi (σ.2.2.1 13) v 256)) := by
  simp only [r_J7_fill_53178_k13, r_J7_fill_53178_k13_0, r_J7_fill_53178_k13_1, r_J7_fill_53178_k13_2, r_J7_fill_53178_k13_3, r_J7_fill_53178_k13_4, r_J7_fill_53178_k13_6, r_J7_fill_53178_k13_7, r_J7_fill_53178_k13_10, r_J7_fill_53178_k13_11, r_J7_fill_53178_k13_12, r_J7_fill_53178_k13_13, r_J7_fill_53178_k13_14, r_J7_fill_53178_k13_17, r_J7_fill_53178_k13_20]
  have l := tl_for (A := fun i => ex_r none d ex_m_J7_fill_53178 E 5 [.ref 13, .int v, .int (nI i), .int 256] [] (ex_row σ 13 (fi (σ.2.2.1 13) v i)) 0) (n := 256) (by
    intro i hi R hR
    simp only [r_J7_fill_53178_k13_5]
    simp only [r_J7_fill_53178_k13_0, r_J7_fill_53178_k13_1, r_J7_fill_53178_k13_2, r_J7_fill_53178_k13_3, r_J7_fill_53178_k13_4, r_J7_fill_53178_k13_6, r_J7_fill_53178_k13_7, r_J7_fill_53178_k13_10, r_J7_fill_53178_k13_11, r_J7_fill_53178_k13_12, r_J7_fill_53178_k13_13, r_J7_fill_53178_k13_14, r_J7_fill_53178_k13_17, r_J7_fill_53178_k13_20, tl_in (show i < 256 by omega) (show 256 < 2 ^ 31 by omega), tl_cl (show i < 2 ^ 31 by omega), true_and, nI_1, s_ar]
    rw [if_neg (show ¬ (256 : Int32) ≤ nI i from nI_ge (b := 256) hi (by omega))]
    exact hR)
  simp only [show fi (σ.2.2.1 13) v 0 = σ.2.2.1 13 from rfl, tl_row_self] at l
  refine Eq.trans l ?_
  simp only [r_J7_fill_53178_k13_5, r_J7_fill_53178_k13_6, r_J7_fill_53178_k13_7, r_J7_fill_53178_k13_20]
  rw [if_pos (show (256 : Int32) ≤ nI 256 from nI_le (a := 256) (b := 256) (by omega) (by omega))]
theorem c_fall {d : Nat} {E : ex_O → ex_S → Prop} {σ : ex_S} {v : Int32} : ex_C (d + 2) 0 [.ref 0, .int v] σ E = E (.inl none) (ex_row (ex_sF (ex_sF (ex_sF (ex_sF (ex_sF (ex_sF (ex_sF σ 2 1) 3 v) 4 0) 5 0) 6 0) 7 0) 8 0) 6 (fi (σ.2.2.1 6) 0 8)) := by
  simp only [r_X0_fall, r_X0_fall_0, r_X0_fall_1, r_X0_fall_2, r_X0_fall_5, r_X0_fall_6, r_X0_fall_7, r_X0_fall_10, r_X0_fall_11, r_X0_fall_12, r_X0_fall_15, r_X0_fall_16, r_X0_fall_17, r_X0_fall_20, r_X0_fall_21, r_X0_fall_22, r_X0_fall_25, r_X0_fall_26, r_X0_fall_27, r_X0_fall_30, r_X0_fall_31, r_X0_fall_32, r_X0_fall_35, r_X0_fall_36, r_X0_fall_39, r_X0_fall_40, r_X0_fall_43, tl_b1, true_and, c_fill_6, Option.toList, List.nil_append, s_f2]
end FI
section NQ
def tk1 (n : Nat) (wt : Nat → Int32) (p : Int32 × (Nat → Nat) × (Nat → Int32)) : Int32 × (Nat → Nat) × (Nat → Int32) := (tk_a wt p.2.1 p.1 n, tk_s n p.2.1 p.2.2, tk_g n p.2.1 p.2.2)
def tkN (n : Nat) (wt : Nat → Int32) (p : Int32 × (Nat → Nat) × (Nat → Int32)) : Nat → Int32 × (Nat → Nat) × (Nat → Int32)
  | 0 => p
  | i + 1 => tk1 n wt (tkN n wt p i)
theorem c_pass {d : Nat} {E : ex_O → ex_S → Prop} {σ : ex_S} {n N : Nat} {c : Int32} {p : Int32 × (Nat → Nat) × (Nat → Int32)} (hn : n ≤ 8) (h : σ.1 306 = nI n) (hN : N ≤ 100) : ex_C (d + 2) 4 [.ref 0, .int (nI N)] (nk σ c p.1 (nI (mk n (isA 2 p.2.1))) (nI (mk n (isA 1 p.2.1))) p.2.2) E = E (.inl (some (.int (c + nI N)))) (nk σ (c + nI N) (tkN n (σ.2.2.1 29) p N).1 (nI (mk n (isA 2 (tkN n (σ.2.2.1 29) p N).2.1))) (nI (mk n (isA 1 (tkN n (σ.2.2.1 29) p N).2.1))) (tkN n (σ.2.2.1 29) p N).2.2) := by
  simp only [r_X0_pass, r_X0_pass_0, r_X0_pass_1, r_X0_pass_3, r_X0_pass_4, r_X0_pass_7, r_X0_pass_8, r_X0_pass_11, r_X0_pass_14, r_X0_pass_17, r_X0_pass_18, r_X0_pass_21]
  have l := tl_for (A := fun i => ex_r none (d + 1) ex_m_X0_pass E 2 [.ref 0, .int (nI N), .int (nI i)] [] (nk σ (c + nI i) (tkN n (σ.2.2.1 29) p i).1 (nI (mk n (isA 2 (tkN n (σ.2.2.1 29) p i).2.1))) (nI (mk n (isA 1 (tkN n (σ.2.2.1 29) p i).2.1))) (tkN n (σ.2.2.1 29) p i).2.2) 0) (n := N) (by
    intro i hi R hR
    simp only [r_X0_pass_2]
    simp only [r_X0_pass_0, r_X0_pass_1, r_X0_pass_3, r_X0_pass_4, r_X0_pass_7, r_X0_pass_8, r_X0_pass_11, r_X0_pass_14, r_X0_pass_17, r_X0_pass_18, r_X0_pass_21]
    rw [if_neg (nI_ge hi (by omega)), c_passOne hn h]
    simp only [Option.toList, List.nil_append, r_X0_pass_0, r_X0_pass_1, r_X0_pass_3, r_X0_pass_4, r_X0_pass_7, r_X0_pass_8, r_X0_pass_11, r_X0_pass_14, r_X0_pass_17, r_X0_pass_18, r_X0_pass_21, nI_1, Int32.add_assoc]
    exact hR)
  have e : c + nI 0 = c := Int32.add_zero c
  simp only [e] at l
  refine Eq.trans l ?_
  simp only [r_X0_pass_2]
  simp only [r_X0_pass_0, r_X0_pass_1, r_X0_pass_3, r_X0_pass_4, r_X0_pass_7, r_X0_pass_8, r_X0_pass_11, r_X0_pass_14, r_X0_pass_17, r_X0_pass_18, r_X0_pass_21, Int32.le_refl, if_true, nk_1]
/-- those of a mask whose needs are all in it -/
def sd_f (nb : Nat → Nat) (n l : Nat) : Nat := mk n (fun k => l.testBit k && decide (tl_df (nb k) l = 0))
def sd_it (nb : Nat → Nat) (n : Nat) : Nat → Nat → Nat
  | 0, l => l
  | k + 1, l => sd_it nb n k (sd_f nb n l)
theorem sd_it_fix {nb : Nat → Nat} {n l : Nat} (h : sd_f nb n l = l) : ∀ k, sd_it nb n k l = l
  | 0 => rfl
  | k + 1 => by rw [sd_it, h, sd_it_fix h k]
theorem sd_it_lt {nb : Nat → Nat} {n : Nat} : ∀ {k l : Nat}, l < 2 ^ n → sd_it nb n k l < 2 ^ n
  | 0, _, h => h
  | k + 1, l, _ => sd_it_lt (k := k) (show sd_f nb n l < 2 ^ n from mk_lt)
def sd_g (n dn : Nat) (g : Nat → Int32) (k : Nat) : Int32 := if k < n ∧ dn.testBit k = true then 0 else g k
theorem c_thoseThatStand {d : Nat} {E : ex_O → ex_S → Prop} {σ : ex_S} {n l : Nat} {ha al : Nat → Nat} (h : wk_at σ n ha al) (hl : l < 2 ^ n) : ex_C (d + 2) 8 [.ref 0, .int (nI l)] σ E = E (.inl (some (.int (nI (sd_f (wk_nb ha al (tb (σ.1 8))) n l))))) σ := by
  have hn := h.1
  have hp := tl_p8 hn
  simp only [r_X0_thoseThatStand, r_X0_thoseThatStand_0, r_X0_thoseThatStand_1, r_X0_thoseThatStand_2, r_X0_thoseThatStand_3, r_X0_thoseThatStand_5, r_X0_thoseThatStand_6, r_X0_thoseThatStand_9, r_X0_thoseThatStand_12, r_X0_thoseThatStand_15, r_X0_thoseThatStand_16, r_X0_thoseThatStand_17, r_X0_thoseThatStand_18, r_X0_thoseThatStand_19, r_X0_thoseThatStand_20, r_X0_thoseThatStand_23, r_X0_thoseThatStand_24, r_X0_thoseThatStand_27, r_X0_thoseThatStand_28, r_X0_thoseThatStand_29, r_X0_thoseThatStand_32, r_X0_thoseThatStand_35, r_X0_thoseThatStand_36, r_X0_thoseThatStand_37, r_X0_thoseThatStand_38, r_X0_thoseThatStand_39, r_X0_thoseThatStand_42, r_X0_thoseThatStand_43, r_X0_thoseThatStand_44, r_X0_thoseThatStand_45, r_X0_thoseThatStand_46, r_X0_thoseThatStand_47, r_X0_thoseThatStand_48, r_X0_thoseThatStand_51, r_X0_thoseThatStand_54, r_X0_thoseThatStand_55]
  refine (tl_for (A := fun i => ex_r none (d + 1) ex_m_X0_thoseThatStand E 4 [.ref 0, .int (nI l), .int (nI (mk i (fun k => l.testBit k && decide (tl_df (wk_nb ha al (tb (σ.1 8)) k) l = 0)))), .int (nI i)] [] σ 0) (n := n) ?_).trans ?_
  · intro i hi R hR
    have l1 := tl_df_lt (wk_nb_lt (T := tb (σ.1 8)) h (show i < 8 by omega)) l
    simp only [r_X0_thoseThatStand_4]
    simp only [r_X0_thoseThatStand_0, r_X0_thoseThatStand_1, r_X0_thoseThatStand_2, r_X0_thoseThatStand_3, r_X0_thoseThatStand_5, r_X0_thoseThatStand_6, r_X0_thoseThatStand_9, r_X0_thoseThatStand_12, r_X0_thoseThatStand_15, r_X0_thoseThatStand_16, r_X0_thoseThatStand_17, r_X0_thoseThatStand_18, r_X0_thoseThatStand_19, r_X0_thoseThatStand_20, r_X0_thoseThatStand_23, r_X0_thoseThatStand_24, r_X0_thoseThatStand_27, r_X0_thoseThatStand_28, r_X0_thoseThatStand_29, r_X0_thoseThatStand_32, r_X0_thoseThatStand_35, r_X0_thoseThatStand_36, r_X0_thoseThatStand_37, r_X0_thoseThatStand_38, r_X0_thoseThatStand_39, r_X0_thoseThatStand_42, r_X0_thoseThatStand_43, r_X0_thoseThatStand_44, r_X0_thoseThatStand_45, r_X0_thoseThatStand_46, r_X0_thoseThatStand_47, r_X0_thoseThatStand_48, r_X0_thoseThatStand_51, r_X0_thoseThatStand_54, r_X0_thoseThatStand_55, h.2.1, tb0, tb_nI (show l < 2 ^ 31 by omega) (show i < 32 by omega)]
    rw [if_neg (nI_ge hi (by omega)), c_needsOf h (by omega)]
    simp only [Option.toList, List.cons_append, List.nil_append, r_X0_thoseThatStand_0, r_X0_thoseThatStand_1, r_X0_thoseThatStand_2, r_X0_thoseThatStand_3, r_X0_thoseThatStand_5, r_X0_thoseThatStand_6, r_X0_thoseThatStand_9, r_X0_thoseThatStand_12, r_X0_thoseThatStand_15, r_X0_thoseThatStand_16, r_X0_thoseThatStand_17, r_X0_thoseThatStand_18, r_X0_thoseThatStand_19, r_X0_thoseThatStand_20, r_X0_thoseThatStand_23, r_X0_thoseThatStand_24, r_X0_thoseThatStand_27, r_X0_thoseThatStand_28, r_X0_thoseThatStand_29, r_X0_thoseThatStand_32, r_X0_thoseThatStand_35, r_X0_thoseThatStand_36, r_X0_thoseThatStand_37, r_X0_thoseThatStand_38, r_X0_thoseThatStand_39, r_X0_thoseThatStand_42, r_X0_thoseThatStand_43, r_X0_thoseThatStand_44, r_X0_thoseThatStand_45, r_X0_thoseThatStand_46, r_X0_thoseThatStand_47, r_X0_thoseThatStand_48, r_X0_thoseThatStand_51, r_X0_thoseThatStand_54, r_X0_thoseThatStand_55, tl_shl i (by omega), tl_andnot, tl_or, nI_1, tl_eq0 (show tl_df (wk_nb ha al (tb (σ.1 8)) i) l < 2 ^ 31 by omega)]
    subst hR
    unfold mk
    rw [tl_fo]
    cases q0 : l.testBit i <;> by_cases q : tl_df (wk_nb ha al (tb (σ.1 8)) i) l = 0 <;> simp [q, q0]
  · simp only [r_X0_thoseThatStand_4]
    simp only [r_X0_thoseThatStand_0, r_X0_thoseThatStand_1, r_X0_thoseThatStand_2, r_X0_thoseThatStand_3, r_X0_thoseThatStand_5, r_X0_thoseThatStand_6, r_X0_thoseThatStand_9, r_X0_thoseThatStand_12, r_X0_thoseThatStand_15, r_X0_thoseThatStand_16, r_X0_thoseThatStand_17, r_X0_thoseThatStand_18, r_X0_thoseThatStand_19, r_X0_thoseThatStand_20, r_X0_thoseThatStand_23, r_X0_thoseThatStand_24, r_X0_thoseThatStand_27, r_X0_thoseThatStand_28, r_X0_thoseThatStand_29, r_X0_thoseThatStand_32, r_X0_thoseThatStand_35, r_X0_thoseThatStand_36, r_X0_thoseThatStand_37, r_X0_thoseThatStand_38, r_X0_thoseThatStand_39, r_X0_thoseThatStand_42, r_X0_thoseThatStand_43, r_X0_thoseThatStand_44, r_X0_thoseThatStand_45, r_X0_thoseThatStand_46, r_X0_thoseThatStand_47, r_X0_thoseThatStand_48, r_X0_thoseThatStand_51, r_X0_thoseThatStand_54, r_X0_thoseThatStand_55, h.2.1, Int32.le_refl, if_true, sd_f]
theorem c_stopThose {d : Nat} {E : ex_O → ex_S → Prop} {σ : ex_S} {n l : Nat} (hn : n ≤ 8) (h : σ.1 306 = nI n) (hl : l < 2 ^ n) : ex_C (d + 1) 9 [.ref 0, .int (nI l)] σ E = E (.inl none) (ex_row σ 6 (sd_g n l (σ.2.2.1 6))) := by
  have hp := tl_p8 hn
  simp only [r_X0_stopThose, r_X0_stopThose_0, r_X0_stopThose_1, r_X0_stopThose_3, r_X0_stopThose_4, r_X0_stopThose_7, r_X0_stopThose_10, r_X0_stopThose_13, r_X0_stopThose_14, r_X0_stopThose_15, r_X0_stopThose_16, r_X0_stopThose_17, r_X0_stopThose_18, r_X0_stopThose_21, r_X0_stopThose_22, r_X0_stopThose_25, r_X0_stopThose_26, r_X0_stopThose_27, r_X0_stopThose_28, r_X0_stopThose_31, r_X0_stopThose_34]
  have e : ex_row σ 6 (sd_g 0 l (σ.2.2.1 6)) = σ := by
    have : sd_g 0 l (σ.2.2.1 6) = σ.2.2.1 6 := by funext k; simp [sd_g]
    rw [this, tl_row_self]
  have L := tl_for (A := fun i => ex_r none d ex_m_X0_stopThose E 2 [.ref 0, .int (nI l), .int (nI i)] [] (ex_row σ 6 (sd_g i l (σ.2.2.1 6))) 0) (n := n) (by
    intro i hi R hR
    simp only [r_X0_stopThose_2]
    simp only [r_X0_stopThose_0, r_X0_stopThose_1, r_X0_stopThose_3, r_X0_stopThose_4, r_X0_stopThose_7, r_X0_stopThose_10, r_X0_stopThose_13, r_X0_stopThose_14, r_X0_stopThose_15, r_X0_stopThose_16, r_X0_stopThose_17, r_X0_stopThose_18, r_X0_stopThose_21, r_X0_stopThose_22, r_X0_stopThose_25, r_X0_stopThose_26, r_X0_stopThose_27, r_X0_stopThose_28, r_X0_stopThose_31, r_X0_stopThose_34, s_r1, h, tb0, tb_nI (show l < 2 ^ 31 by omega) (show i < 32 by omega), tl_in (show i < 8 by omega) (show 8 < 2 ^ 31 by omega), tl_cl (show i < 2 ^ 31 by omega), true_and, nI_1, s_ar]
    rw [if_neg (nI_ge hi (by omega))]
    subst hR
    cases q : l.testBit i with
    | true =>
      have : upd (sd_g i l (σ.2.2.1 6)) i 0 = sd_g (i + 1) l (σ.2.2.1 6) := by
        funext k
        rw [s_u]
        unfold sd_g
        by_cases q2 : k = i
        · subst q2
          simp [q]
        · rw [if_neg q2]
          have : (k < i + 1 ∧ l.testBit k = true) = (k < i ∧ l.testBit k = true) := by
            apply propext
            constructor
            · rintro ⟨h1, h2⟩; exact ⟨by omega, h2⟩
            · rintro ⟨h1, h2⟩; exact ⟨by omega, h2⟩
          simp only [this]
      simp [this]
    | false =>
      have : sd_g i l (σ.2.2.1 6) = sd_g (i + 1) l (σ.2.2.1 6) := by
        funext k
        unfold sd_g
        by_cases q2 : k = i
        · subst q2
          simp [q]
        · have : (k < i + 1 ∧ l.testBit k = true) = (k < i ∧ l.testBit k = true) := by
            apply propext
            constructor
            · rintro ⟨h1, h2⟩; exact ⟨by omega, h2⟩
            · rintro ⟨h1, h2⟩; exact ⟨by omega, h2⟩
          simp only [this]
      simp [this])
  simp only [e] at L
  refine Eq.trans L ?_
  simp only [r_X0_stopThose_2]
  simp only [r_X0_stopThose_0, r_X0_stopThose_1, r_X0_stopThose_3, r_X0_stopThose_4, r_X0_stopThose_7, r_X0_stopThose_10, r_X0_stopThose_13, r_X0_stopThose_14, r_X0_stopThose_15, r_X0_stopThose_16, r_X0_stopThose_17, r_X0_stopThose_18, r_X0_stopThose_21, r_X0_stopThose_22, r_X0_stopThose_25, r_X0_stopThose_26, r_X0_stopThose_27, r_X0_stopThose_28, r_X0_stopThose_31, r_X0_stopThose_34, s_r1, h, Int32.le_refl, if_true]
def nt_sk (σ : ex_S) (n u b t L : Nat) : ex_S := ex_row (ex_sF (ex_sF (ex_sF σ 6 (nI (u &&& L))) 7 (nI (b &&& L))) 8 (nI (t &&& L))) 6 (sd_g n (tl_df (u ||| b) L) (σ.2.2.1 6))
theorem c_strike {d : Nat} {E : ex_O → ex_S → Prop} {σ : ex_S} {n w u b t : Nat} {ha al : Nat → Nat} (h : wk_at σ n ha al) (hw : w < n) (hu : u < 2 ^ n) (hb : b < 2 ^ n) (h6 : σ.1 6 = nI u) (h7 : σ.1 7 = nI b) (h8 : σ.1 8 = nI t) : ex_C (d + 3) 7 [.ref 0, .int (nI w)] σ E = if (u ||| b).testBit w = false then E (.inl (some (.int 0))) σ else E (.inl (some (.int (nI (tl_df (u ||| b) (sd_it (wk_nb ha al (tb (nI t))) n n (tl_df (u ||| b) (2 ^ w)))))))) (nt_sk σ n u b t (sd_it (wk_nb ha al (tb (nI t))) n n (tl_df (u ||| b) (2 ^ w)))) := by
  have hn := h.1
  have hp := tl_p8 hn
  have hub := Nat.or_lt_two_pow hu hb
  simp only [r_X0_strike, r_X0_strike_0, r_X0_strike_1, r_X0_strike_4, r_X0_strike_5, r_X0_strike_8, r_X0_strike_9, r_X0_strike_10, r_X0_strike_11, r_X0_strike_12, r_X0_strike_13, r_X0_strike_14, r_X0_strike_15, r_X0_strike_18, r_X0_strike_19, r_X0_strike_20, r_X0_strike_21, r_X0_strike_22, r_X0_strike_23, r_X0_strike_24, r_X0_strike_25, r_X0_strike_26, r_X0_strike_27, r_X0_strike_28, r_X0_strike_29, r_X0_strike_33, r_X0_strike_34, r_X0_strike_37, r_X0_strike_40, r_X0_strike_43, r_X0_strike_44, r_X0_strike_45, r_X0_strike_48, r_X0_strike_50, r_X0_strike_52, r_X0_strike_53, r_X0_strike_56, r_X0_strike_59, r_X0_strike_61, r_X0_strike_62, r_X0_strike_65, r_X0_strike_68, r_X0_strike_69, r_X0_strike_70, r_X0_strike_73, r_X0_strike_74, r_X0_strike_75, r_X0_strike_78, r_X0_strike_79, r_X0_strike_80, r_X0_strike_83, r_X0_strike_84, r_X0_strike_85, r_X0_strike_88, r_X0_strike_89, r_X0_strike_90, r_X0_strike_93, r_X0_strike_94, r_X0_strike_95, r_X0_strike_98, r_X0_strike_99, r_X0_strike_100, r_X0_strike_101, r_X0_strike_102, r_X0_strike_103, r_X0_strike_105, r_X0_strike_106, r_X0_strike_108, r_X0_strike_111, r_X0_strike_113, h6, h7, tl_or, tb0, tb_nI (show u ||| b < 2 ^ 31 by omega) (show w < 32 by omega), tl_shl w (by omega), tl_andnot]
  by_cases q : (u ||| b).testBit w = false
  · rw [if_pos q, if_pos q]
  · rw [if_neg q, if_neg q]
    have key : ∀ (k i l : Nat) (z : Value), i + k = n → l < 2 ^ n → ex_r none (d + 2) ex_m_X0_strike E 31 [.ref 0, .int (nI w), .int (nI (u ||| b)), .int (nI l), .int (nI i), z] [] σ 0 = E (.inl (some (.int (nI (tl_df (u ||| b) (sd_it (wk_nb ha al (tb (nI t))) n k l)))))) (nt_sk σ n u b t (sd_it (wk_nb ha al (tb (nI t))) n k l)) := by
      intro k
      have fin : ∀ (l : Nat) (y : Int32) (z : Value), l < 2 ^ n → ex_r none (d + 2) ex_m_X0_strike E 68 [.ref 0, .int (nI w), .int (nI (u ||| b)), .int (nI l), .int y, z] [] σ 0 = E (.inl (some (.int (nI (tl_df (u ||| b) l))))) (nt_sk σ n u b t l) := by
        intro l y z hl
        have l1 := tl_df_lt hub l
        simp only [r_X0_strike_0, r_X0_strike_1, r_X0_strike_4, r_X0_strike_5, r_X0_strike_8, r_X0_strike_9, r_X0_strike_10, r_X0_strike_11, r_X0_strike_12, r_X0_strike_13, r_X0_strike_14, r_X0_strike_15, r_X0_strike_18, r_X0_strike_19, r_X0_strike_20, r_X0_strike_21, r_X0_strike_22, r_X0_strike_23, r_X0_strike_24, r_X0_strike_25, r_X0_strike_26, r_X0_strike_27, r_X0_strike_28, r_X0_strike_29, r_X0_strike_33, r_X0_strike_34, r_X0_strike_37, r_X0_strike_40, r_X0_strike_43, r_X0_strike_44, r_X0_strike_45, r_X0_strike_48, r_X0_strike_50, r_X0_strike_52, r_X0_strike_53, r_X0_strike_56, r_X0_strike_59, r_X0_strike_61, r_X0_strike_62, r_X0_strike_65, r_X0_strike_68, r_X0_strike_69, r_X0_strike_70, r_X0_strike_73, r_X0_strike_74, r_X0_strike_75, r_X0_strike_78, r_X0_strike_79, r_X0_strike_80, r_X0_strike_83, r_X0_strike_84, r_X0_strike_85, r_X0_strike_88, r_X0_strike_89, r_X0_strike_90, r_X0_strike_93, r_X0_strike_94, r_X0_strike_95, r_X0_strike_98, r_X0_strike_99, r_X0_strike_100, r_X0_strike_101, r_X0_strike_102, r_X0_strike_103, r_X0_strike_105, r_X0_strike_106, r_X0_strike_108, r_X0_strike_111, r_X0_strike_113, h6, h7, h8, s_f1, Nat.reduceEqDiff, if_false, tl_and, tl_andnot]
        rw [c_stopThose (σ := ex_sF (ex_sF (ex_sF σ 6 (nI (u &&& l))) 7 (nI (b &&& l))) 8 (nI (t &&& l))) (n := n) hn h.2.1 l1]
        simp only [Option.toList, List.nil_append, r_X0_strike_0, r_X0_strike_1, r_X0_strike_4, r_X0_strike_5, r_X0_strike_8, r_X0_strike_9, r_X0_strike_10, r_X0_strike_11, r_X0_strike_12, r_X0_strike_13, r_X0_strike_14, r_X0_strike_15, r_X0_strike_18, r_X0_strike_19, r_X0_strike_20, r_X0_strike_21, r_X0_strike_22, r_X0_strike_23, r_X0_strike_24, r_X0_strike_25, r_X0_strike_26, r_X0_strike_27, r_X0_strike_28, r_X0_strike_29, r_X0_strike_33, r_X0_strike_34, r_X0_strike_37, r_X0_strike_40, r_X0_strike_43, r_X0_strike_44, r_X0_strike_45, r_X0_strike_48, r_X0_strike_50, r_X0_strike_52, r_X0_strike_53, r_X0_strike_56, r_X0_strike_59, r_X0_strike_61, r_X0_strike_62, r_X0_strike_65, r_X0_strike_68, r_X0_strike_69, r_X0_strike_70, r_X0_strike_73, r_X0_strike_74, r_X0_strike_75, r_X0_strike_78, r_X0_strike_79, r_X0_strike_80, r_X0_strike_83, r_X0_strike_84, r_X0_strike_85, r_X0_strike_88, r_X0_strike_89, r_X0_strike_90, r_X0_strike_93, r_X0_strike_94, r_X0_strike_95, r_X0_strike_98, r_X0_strike_99, r_X0_strike_100, r_X0_strike_101, r_X0_strike_102, r_X0_strike_103, r_X0_strike_105, r_X0_strike_106, r_X0_strike_108, r_X0_strike_111, r_X0_strike_113]
        rfl
      induction k with
      | zero =>
        intro i l z hi hl
        have e : i = n := by omega
        subst e
        simp only [r_X0_strike_31, r_X0_strike_33, r_X0_strike_34, r_X0_strike_37, r_X0_strike_40, h.2.1, Int32.le_refl, if_true]
        rw [fin l _ _ hl]
        rfl
      | succ k ih =>
        intro i l z hi hl
        have hl2 : sd_f (wk_nb ha al (tb (nI t))) n l < 2 ^ n := mk_lt
        simp only [r_X0_strike_31, r_X0_strike_33, r_X0_strike_34, r_X0_strike_37, r_X0_strike_40, h.2.1]
        rw [if_neg (nI_ge (show i < n by omega) (by omega))]
        simp only [r_X0_strike_43, r_X0_strike_44, r_X0_strike_45]
        rw [c_thoseThatStand h hl, h8]
        simp only [Option.toList, List.cons_append, List.nil_append, r_X0_strike_48, r_X0_strike_50, r_X0_strike_52, r_X0_strike_53, r_X0_strike_56, r_X0_strike_59, r_X0_strike_61, r_X0_strike_62, r_X0_strike_65, nI_1]
        by_cases q2 : sd_f (wk_nb ha al (tb (nI t))) n l = l
        · rw [q2, if_pos rfl, fin l _ _ hl, sd_it_fix q2]
        · rw [if_neg (by rw [nI_eq (by omega) (by omega)]; exact q2), ih _ _ _ (by omega) hl2, sd_it]
    exact key n 0 _ _ (by omega) (tl_df_lt hub _)
end NQ
