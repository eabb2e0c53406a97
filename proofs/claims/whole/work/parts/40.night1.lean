/-! ===== masks, and the night of the class ===== -/
section NT
/-- the mask of those below n that .. -/
def mk (n : Nat) (f : Nat → Bool) : Nat := tl_fo (fun k => if f k = true then 2 ^ k else 0) n
theorem mk_bit {n : Nat} {f : Nat → Bool} {j : Nat} : (mk n f).testBit j = true ↔ j < n ∧ f j = true := tl_fo_set (p := fun k => f k = true)
theorem mk_lt {n : Nat} {f : Nat → Bool} : mk n f < 2 ^ n := tl_fo_set_lt (p := fun k => f k = true)
theorem mk_at {n : Nat} {f : Nat → Bool} {j : Nat} (h : j < n) : (mk n f).testBit j = f j := tl_bool_ext (by rw [mk_bit]; simp [h])
theorem mk_ext {n : Nat} {f g : Nat → Bool} (h : ∀ k, k < n → f k = g k) : mk n f = mk n g := by
  apply tl_fo_congr
  intro i hi
  rw [h i hi]
theorem mk_of {n a : Nat} (h : a < 2 ^ n) : a = mk n (fun k => a.testBit k) := by
  apply tl_mask_eq h mk_lt
  intro j hj
  rw [mk_at hj]
theorem mk_or {n : Nat} {f g : Nat → Bool} : mk n f ||| mk n g = mk n (fun k => f k || g k) := by
  apply tl_mask_eq (n := n) (Nat.or_lt_two_pow mk_lt mk_lt) mk_lt
  intro j hj
  rw [Nat.testBit_or, mk_at hj, mk_at hj, mk_at hj]
theorem mk_and {n : Nat} {f g : Nat → Bool} : mk n f &&& mk n g = mk n (fun k => f k && g k) := by
  apply tl_mask_eq (n := n) (Nat.and_lt_two_pow _ mk_lt) mk_lt
  intro j hj
  rw [Nat.testBit_and, mk_at hj, mk_at hj, mk_at hj]
theorem mk_df {n : Nat} {f g : Nat → Bool} : tl_df (mk n f) (mk n g) = mk n (fun k => f k && !g k) := by
  apply tl_mask_eq (n := n) (tl_df_lt mk_lt _) mk_lt
  intro j hj
  rw [tl_df_bit, mk_at hj, mk_at hj, mk_at hj]
theorem mk_one {n w : Nat} (h : w < n) : 2 ^ w = mk n (fun k => decide (k = w)) := by
  apply tl_mask_eq (n := n) (Nat.pow_lt_pow_right (by decide) h) mk_lt
  intro j hj
  rw [mk_at hj, tl_two_bit]
  apply decide_eq_decide.mpr
  omega
theorem mk_tb {n j : Nat} {f : Nat → Bool} (h8 : n ≤ 8) (h : j < n) : tb (nI (mk n f)) j = f j := by
  have := tl_p8 h8
  have h2 := mk_lt (n := n) (f := f)
  rw [tb_nI (by omega) (by omega), mk_at h]
theorem mk_0 {n : Nat} : mk n (fun _ => false) = 0 := by
  apply tl_zero_bits.mpr
  intro j
  rw [← Bool.not_eq_true, mk_bit]
  simp
theorem mk_eq0 {n : Nat} {f : Nat → Bool} : mk n f = 0 ↔ ∀ k, k < n → f k = false := by
  constructor
  · intro h k hk
    have := tl_zero_bits.mp h k
    rw [mk_at hk] at this
    exact this
  · intro h
    rw [← mk_0 (n := n)]
    exact mk_ext h
theorem tl_and2 {x w : Nat} : (x &&& 2 ^ w = 0) = (x.testBit w = false) := by
  apply propext
  constructor
  · intro h
    have := tl_zero_bits.mp h w
    rw [Nat.testBit_and, tl_two_bit] at this
    simpa using this
  · intro h
    apply tl_zero_bits.mpr
    intro j
    rw [Nat.testBit_and, tl_two_bit]
    by_cases e : w = j
    · subst e
      rw [h]
      rfl
    · simp [e]
/-- what is left of the hands -/
def nt_fh (hd : Nat → Int32) (h : Int32) (B : Nat → Bool) : Nat → Int32
  | 0 => h
  | k + 1 => if B k = true then nt_fh hd h B k - hd k else nt_fh hd h B k
theorem nt_fh_congr {hd he : Nat → Int32} {h : Int32} {B D : Nat → Bool} : ∀ {n : Nat}, (∀ k, k < n → hd k = he k ∧ B k = D k) → nt_fh hd h B n = nt_fh he h D n
  | 0, _ => rfl
  | n + 1, q => by rw [nt_fh, nt_fh, nt_fh_congr (fun k hk => q k (by omega)), (q n (by omega)).1, (q n (by omega)).2]
theorem c_stage {d : Nat} {E : ex_O → ex_S → Prop} {σ : ex_S} {w : Nat} : ex_C (d + 1) 1 [.ref 0, .int (nI w)] σ E = E (.inl (some (.int (if tb (σ.1 6) w = true then 2 else if tb (σ.1 7) w = true then 1 else 0)))) σ := by
  simp only [r_X0_stage, r_X0_stage_0, r_X0_stage_1, r_X0_stage_4, r_X0_stage_5, r_X0_stage_6, r_X0_stage_7, r_X0_stage_8, r_X0_stage_11, r_X0_stage_12, r_X0_stage_13, r_X0_stage_14, r_X0_stage_17, r_X0_stage_18, r_X0_stage_19, r_X0_stage_20, r_X0_stage_21, tb0]
  cases q : tb (σ.1 6) w with
  | true => simp
  | false => simp [tbv]
theorem c_freeHands {d : Nat} {E : ex_O → ex_S → Prop} {σ : ex_S} {n : Nat} (hn : n ≤ 8) (h : σ.1 306 = nI n) : ex_C (d + 1) 2 [.ref 0] σ E = E (.inl (some (.int (nt_fh (σ.2.2.1 28) (σ.1 3) (tb (σ.1 7)) n)))) σ := by
  simp only [r_X0_freeHands, r_X0_freeHands_0, r_X0_freeHands_1, r_X0_freeHands_4, r_X0_freeHands_5, r_X0_freeHands_6, r_X0_freeHands_8, r_X0_freeHands_9, r_X0_freeHands_12, r_X0_freeHands_15, r_X0_freeHands_18, r_X0_freeHands_19, r_X0_freeHands_22, r_X0_freeHands_23, r_X0_freeHands_24, r_X0_freeHands_25, r_X0_freeHands_26, r_X0_freeHands_29, r_X0_freeHands_30, r_X0_freeHands_31, r_X0_freeHands_34, r_X0_freeHands_37, r_X0_freeHands_38, r_X0_freeHands_39, r_X0_freeHands_40, r_X0_freeHands_41, r_X0_freeHands_44, r_X0_freeHands_47, r_X0_freeHands_48]
  refine (tl_for (A := fun i => ex_r none d ex_m_X0_freeHands E 7 [.ref 0, .int (nt_fh (σ.2.2.1 28) (σ.1 3) (tb (σ.1 7)) i), .int (nI i)] [] σ 0) (n := n) ?_).trans ?_
  · intro i hi R hR
    simp only [r_X0_freeHands_7]
    simp only [r_X0_freeHands_0, r_X0_freeHands_1, r_X0_freeHands_4, r_X0_freeHands_5, r_X0_freeHands_6, r_X0_freeHands_8, r_X0_freeHands_9, r_X0_freeHands_12, r_X0_freeHands_15, r_X0_freeHands_18, r_X0_freeHands_19, r_X0_freeHands_22, r_X0_freeHands_23, r_X0_freeHands_24, r_X0_freeHands_25, r_X0_freeHands_26, r_X0_freeHands_29, r_X0_freeHands_30, r_X0_freeHands_31, r_X0_freeHands_34, r_X0_freeHands_37, r_X0_freeHands_38, r_X0_freeHands_39, r_X0_freeHands_40, r_X0_freeHands_41, r_X0_freeHands_44, r_X0_freeHands_47, r_X0_freeHands_48, h, tb0, tl_in (show i < 8 by omega) (show 8 < 2 ^ 31 by omega), tl_cl (show i < 2 ^ 31 by omega), true_and, nI_1]
    rw [if_neg (nI_ge hi (by omega))]
    subst hR
    rw [nt_fh]
    cases tb (σ.1 7) i <;> simp
  · simp only [r_X0_freeHands_7]
    simp only [r_X0_freeHands_0, r_X0_freeHands_1, r_X0_freeHands_4, r_X0_freeHands_5, r_X0_freeHands_6, r_X0_freeHands_8, r_X0_freeHands_9, r_X0_freeHands_12, r_X0_freeHands_15, r_X0_freeHands_18, r_X0_freeHands_19, r_X0_freeHands_22, r_X0_freeHands_23, r_X0_freeHands_24, r_X0_freeHands_25, r_X0_freeHands_26, r_X0_freeHands_29, r_X0_freeHands_30, r_X0_freeHands_31, r_X0_freeHands_34, r_X0_freeHands_37, r_X0_freeHands_38, r_X0_freeHands_39, r_X0_freeHands_40, r_X0_freeHands_41, r_X0_freeHands_44, r_X0_freeHands_47, r_X0_freeHands_48, h, Int32.le_refl, if_true]
def la_ok (u b : Nat) (w : Nat) (p : Bool) (cw : Int32) (nbm : Nat) (fr hw : Int32) : Bool := !u.testBit w && !b.testBit w && !(p && decide (cw = -1)) && decide (tl_df nbm u = 0) && !decide (fr < hw)
def nt_la (σ : ex_S) (w : Nat) (p : Bool) (b t : Nat) : ex_S := if p = true then ex_sF (ex_sF (ex_sA (ex_sF σ 7 (nI (b ||| 2 ^ w))) 6 w (σ.2.2.1 27 w)) 8 (nI (t ||| 2 ^ w))) 5 (σ.1 5 + σ.2.2.1 30 w) else ex_sA (ex_sF σ 7 (nI (b ||| 2 ^ w))) 6 w (σ.2.2.1 27 w)
theorem c_launch {d : Nat} {E : ex_O → ex_S → Prop} {σ : ex_S} {n w u b t : Nat} {p : Bool} {ha al : Nat → Nat} (h : wk_at σ n ha al) (hw : w < n) (hu : u < 2 ^ n) (hb : b < 2 ^ n) (h6 : σ.1 6 = nI u) (h7 : σ.1 7 = nI b) (h8 : σ.1 8 = nI t) : ex_C (d + 2) 3 [.ref 0, .int (nI w), .int (if p = true then 1 else 0)] σ E = if la_ok u b w p (σ.2.2.1 30 w) (if p = true then ha w else al w) (nt_fh (σ.2.2.1 28) (σ.1 3) (tb (σ.1 7)) n) (σ.2.2.1 28 w) = true then E (.inl (some (.int 1))) (nt_la σ w p b t) else E (.inl (some (.int 0))) σ := by
  have hn := h.1
  have hp := tl_p8 hn
  have hub := Nat.or_lt_two_pow hu hb
  have hpw : 2 ^ w < 2 ^ n := Nat.pow_lt_pow_right (by decide) hw
  have hub2 := Nat.and_lt_two_pow (u ||| b) hpw
  simp only [r_X0_launch, r_X0_launch_0, r_X0_launch_1, r_X0_launch_2, r_X0_launch_3, r_X0_launch_4, r_X0_launch_5, r_X0_launch_8, r_X0_launch_9, r_X0_launch_12, r_X0_launch_13, r_X0_launch_14, r_X0_launch_15, r_X0_launch_18, r_X0_launch_19, r_X0_launch_22, r_X0_launch_23, r_X0_launch_26, r_X0_launch_27, r_X0_launch_30, r_X0_launch_33, r_X0_launch_34, r_X0_launch_35, r_X0_launch_36, r_X0_launch_39, r_X0_launch_40, r_X0_launch_41, r_X0_launch_44, r_X0_launch_45, r_X0_launch_48, r_X0_launch_49, r_X0_launch_52, r_X0_launch_54, r_X0_launch_56, r_X0_launch_57, r_X0_launch_60, r_X0_launch_61, r_X0_launch_62, r_X0_launch_63, r_X0_launch_66, r_X0_launch_67, r_X0_launch_70, r_X0_launch_73, r_X0_launch_74, r_X0_launch_75, r_X0_launch_76, r_X0_launch_79, r_X0_launch_82, r_X0_launch_83, r_X0_launch_84, r_X0_launch_85, r_X0_launch_86, r_X0_launch_89, r_X0_launch_90, r_X0_launch_91, r_X0_launch_94, r_X0_launch_95, r_X0_launch_98, r_X0_launch_99, r_X0_launch_100, r_X0_launch_103, r_X0_launch_106, r_X0_launch_107, r_X0_launch_108, r_X0_launch_109, r_X0_launch_110, r_X0_launch_113, r_X0_launch_114, r_X0_launch_115, r_X0_launch_118, r_X0_launch_119, r_X0_launch_120, r_X0_launch_123, r_X0_launch_124, r_X0_launch_125, r_X0_launch_128, r_X0_launch_129, r_X0_launch_132, r_X0_launch_135, r_X0_launch_136, r_X0_launch_137, r_X0_launch_138, r_X0_launch_141, r_X0_launch_142, tl_shl w (by omega), h6, h7, tl_or, tl_and, tl_eq0 (show (u ||| b) &&& 2 ^ w < 2 ^ 31 by omega), tl_and2, Nat.testBit_or, c_canBeThin (show w < 8 by omega), Option.toList, List.cons_append, List.nil_append]
  have e1 : ∀ x : Int32, wk_nb ha al (tb x) w = if tb x w = true then ha w else al w := fun _ => rfl
  have e2 : tb (nI (2 ^ w)) w = true := by
    rw [tb_nI (by have := Nat.pow_lt_pow_right (a := 2) (by decide) hw; omega) (by omega), tl_two_bit]
    simp
  have e3 : tb 0 w = false := by
    rw [show (0 : Int32) = nI 0 from rfl, tb_nI (by omega) (by omega), Nat.zero_testBit]
  have l1 := tl_df_lt (h.2.2 w (by omega)).2.2.1 u
  have l2 := tl_df_lt (h.2.2 w (by omega)).2.2.2 u
  simp only [c_needsOf h (show w < 8 by omega), Option.toList, List.cons_append, List.nil_append, r_X0_launch_0, r_X0_launch_1, r_X0_launch_2, r_X0_launch_3, r_X0_launch_4, r_X0_launch_5, r_X0_launch_8, r_X0_launch_9, r_X0_launch_12, r_X0_launch_13, r_X0_launch_14, r_X0_launch_15, r_X0_launch_18, r_X0_launch_19, r_X0_launch_22, r_X0_launch_23, r_X0_launch_26, r_X0_launch_27, r_X0_launch_30, r_X0_launch_33, r_X0_launch_34, r_X0_launch_35, r_X0_launch_36, r_X0_launch_39, r_X0_launch_40, r_X0_launch_41, r_X0_launch_44, r_X0_launch_45, r_X0_launch_48, r_X0_launch_49, r_X0_launch_52, r_X0_launch_54, r_X0_launch_56, r_X0_launch_57, r_X0_launch_60, r_X0_launch_61, r_X0_launch_62, r_X0_launch_63, r_X0_launch_66, r_X0_launch_67, r_X0_launch_70, r_X0_launch_73, r_X0_launch_74, r_X0_launch_75, r_X0_launch_76, r_X0_launch_79, r_X0_launch_82, r_X0_launch_83, r_X0_launch_84, r_X0_launch_85, r_X0_launch_86, r_X0_launch_89, r_X0_launch_90, r_X0_launch_91, r_X0_launch_94, r_X0_launch_95, r_X0_launch_98, r_X0_launch_99, r_X0_launch_100, r_X0_launch_103, r_X0_launch_106, r_X0_launch_107, r_X0_launch_108, r_X0_launch_109, r_X0_launch_110, r_X0_launch_113, r_X0_launch_114, r_X0_launch_115, r_X0_launch_118, r_X0_launch_119, r_X0_launch_120, r_X0_launch_123, r_X0_launch_124, r_X0_launch_125, r_X0_launch_128, r_X0_launch_129, r_X0_launch_132, r_X0_launch_135, r_X0_launch_136, r_X0_launch_137, r_X0_launch_138, r_X0_launch_141, r_X0_launch_142, h6, tl_andnot, e1, e2, e3, if_true, Bool.false_eq_true, if_false]
  simp only [tl_eq0 (show tl_df (al w) u < 2 ^ 31 by omega), tl_eq0 (show tl_df (ha w) u < 2 ^ 31 by omega), tl_in (show w < 8 by omega) (show 8 < 2 ^ 31 by omega), tl_cl (show w < 2 ^ 31 by omega), true_and, c_freeHands hn h.2.1, Option.toList, List.cons_append, List.nil_append, r_X0_launch_0, r_X0_launch_1, r_X0_launch_2, r_X0_launch_3, r_X0_launch_4, r_X0_launch_5, r_X0_launch_8, r_X0_launch_9, r_X0_launch_12, r_X0_launch_13, r_X0_launch_14, r_X0_launch_15, r_X0_launch_18, r_X0_launch_19, r_X0_launch_22, r_X0_launch_23, r_X0_launch_26, r_X0_launch_27, r_X0_launch_30, r_X0_launch_33, r_X0_launch_34, r_X0_launch_35, r_X0_launch_36, r_X0_launch_39, r_X0_launch_40, r_X0_launch_41, r_X0_launch_44, r_X0_launch_45, r_X0_launch_48, r_X0_launch_49, r_X0_launch_52, r_X0_launch_54, r_X0_launch_56, r_X0_launch_57, r_X0_launch_60, r_X0_launch_61, r_X0_launch_62, r_X0_launch_63, r_X0_launch_66, r_X0_launch_67, r_X0_launch_70, r_X0_launch_73, r_X0_launch_74, r_X0_launch_75, r_X0_launch_76, r_X0_launch_79, r_X0_launch_82, r_X0_launch_83, r_X0_launch_84, r_X0_launch_85, r_X0_launch_86, r_X0_launch_89, r_X0_launch_90, r_X0_launch_91, r_X0_launch_94, r_X0_launch_95, r_X0_launch_98, r_X0_launch_99, r_X0_launch_100, r_X0_launch_103, r_X0_launch_106, r_X0_launch_107, r_X0_launch_108, r_X0_launch_109, r_X0_launch_110, r_X0_launch_113, r_X0_launch_114, r_X0_launch_115, r_X0_launch_118, r_X0_launch_119, r_X0_launch_120, r_X0_launch_123, r_X0_launch_124, r_X0_launch_125, r_X0_launch_128, r_X0_launch_129, r_X0_launch_132, r_X0_launch_135, r_X0_launch_136, r_X0_launch_137, r_X0_launch_138, r_X0_launch_141, r_X0_launch_142, s_f1, s_f2, s_a, s_r1, s_r3, h7, h8, tl_or, Nat.reduceEqDiff, if_false, if_true, tl_b0, tl_b1]
  unfold la_ok nt_la
  have q4 : ∀ x y : Int32, (x ≤ y) = ¬ (y < x) := fun x y => propext Int32.not_lt.symm
  simp only [q4, s_a, s_f2]
  cases p
  · cases u.testBit w <;> cases b.testBit w <;> by_cases q2 : tl_df (al w) u = 0 <;> by_cases q3 : nt_fh (σ.2.2.1 28) (σ.1 3) (tb (nI b)) n < σ.2.2.1 28 w <;> simp [q2, q3, i10, h7]
  · by_cases q1 : σ.2.2.1 30 w = -1 <;> cases u.testBit w <;> cases b.testBit w <;> by_cases q2 : tl_df (ha w) u = 0 <;> by_cases q3 : nt_fh (σ.2.2.1 28) (σ.1 3) (tb (nI b)) n < σ.2.2.1 28 w <;> simp [q1, q2, q3, i10, h7]
theorem c_stumble {d : Nat} {E : ex_O → ex_S → Prop} {σ : ex_S} {w : Nat} (hw : w < 8) : ex_C (d + 1) 6 [.ref 0, .int (nI w)] σ E = if tb (σ.1 7) w = true then E (.inl (some (.int 1))) (ex_sA σ 6 w (σ.2.2.1 27 w)) else E (.inl (some (.int 0))) σ := by
  simp only [r_X0_stumble, r_X0_stumble_0, r_X0_stumble_1, r_X0_stumble_4, r_X0_stumble_5, r_X0_stumble_6, r_X0_stumble_7, r_X0_stumble_8, r_X0_stumble_11, r_X0_stumble_12, r_X0_stumble_13, r_X0_stumble_14, r_X0_stumble_17, r_X0_stumble_18, r_X0_stumble_19, r_X0_stumble_22, r_X0_stumble_25, r_X0_stumble_26, r_X0_stumble_27, r_X0_stumble_28, r_X0_stumble_29, tb0, tl_in hw (show 8 < 2 ^ 31 by omega), tl_cl (show w < 2 ^ 31 by omega), true_and, tl_b0, tl_b1]
  cases tb (σ.1 7) w <;> simp
end NT
