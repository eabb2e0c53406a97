/-! ===== the class's planner: the small methods (wb_, pf_ rows begin with laws/BITS.to-paste) ===== -/
section PA
theorem wb_tb (n : Nat) : (lN n).toBitVec = BitVec.ofNat 64 n := rfl
theorem wb_inj {a b : Int64} (h : a.toBitVec = b.toBitVec) : a = b := Int64.toBitVec_inj.mp h
theorem wb_c : ∀ k, k < 64 → ((nI k).toInt64 &&& 63) = lN k := by decide +kernel
theorem wb_sm : ∀ k, k < 64 → (BitVec.ofNat 64 k).smod 64 = BitVec.ofNat 64 k := by decide +kernel
theorem wb_shl (n : Nat) {k : Nat} (hk : k < 64) : lN n <<< ((nI k).toInt64 &&& 63) = lN (n * 2 ^ k) := by
  rw [wb_c k hk]
  apply wb_inj
  rw [Int64.toBitVec_shiftLeft, wb_tb, wb_tb, wb_tb, wb_sm k hk]
  apply BitVec.eq_of_toNat_eq
  rw [BitVec.shiftLeft_eq', BitVec.toNat_shiftLeft, BitVec.toNat_ofNat, BitVec.toNat_ofNat, BitVec.toNat_ofNat, Nat.mod_eq_of_lt (show k < 2 ^ 64 by omega), Nat.shiftLeft_eq, Nat.mul_mod, Nat.mod_mod, ← Nat.mul_mod]
theorem pf_lI {a : Nat} (h : a < 2 ^ 63) : (lN a).toInt = (a : Int) := lg_ofNat_toInt h
theorem pf_shr {a d : Nat} {D : Int64} (hD : (D.toBitVec.smod 64).toNat = d) (h : a < 2 ^ 62) : lN a >>> D = lN (a / 2 ^ d) := by
  have hd : a / 2 ^ d ≤ a := Nat.div_le_self _ _
  apply Int64.toInt_inj.mp
  have e : (lN a >>> D).toInt = (lN a).toInt >>> d := by
    rw [← hD]
    exact BitVec.toInt_sshiftRight ..
  rw [e, Int.shiftRight_eq_div_pow, pf_lI (by omega), pf_lI (by omega)]
  rfl
theorem pq_sm : ∀ k, k < 64 → (((nI k).toInt64 &&& 63).toBitVec.smod 64).toNat = k := by decide +kernel
theorem pq_pw (w : Nat) : 2 ^ (7 * (7 - w)) = 128 ^ (7 - w) := by rw [Nat.pow_mul]
/-- the work's place in a key -/
theorem pq_digit {K w : Nat} (hK : K < 2 ^ 62) (hw : w < 8) : (lN K >>> ((nI (7 * (7 - w))).toInt64 &&& 63)).toInt32 &&& 127 = nI (K / 128 ^ (7 - w) % 128) := by
  rw [pf_shr (pq_sm _ (by omega)) hK, lN_i, show (127 : Int32) = nI 127 from rfl, tl_and, pq_pw]
  congr 1
  exact Nat.and_two_pow_sub_one_eq_mod _ 7
theorem c_shiftOf {d : Nat} {E : ex_O → ex_S → Prop} {σ : ex_S} {w : Nat} (hw : w < 8) : ex_C (d + 1) 22 [.int (nI w)] σ E = E (.inl (some (.int (nI (7 * (7 - w)))))) σ := by
  simp only [r_X1_shiftOf, r_X1_shiftOf_0, r_X1_shiftOf_2, r_X1_shiftOf_3, r_X1_shiftOf_4, r_X1_shiftOf_6, r_X1_shiftOf_7]
  rw [show (7 : Int32) = nI 7 from rfl, pk_sub (by omega), pk_mul, Nat.mul_comm]
theorem c_keyOf {d : Nat} {E : ex_O → ex_S → Prop} {σ : ex_S} {w a : Nat} (hw : w < 8) (ha : a < 2 ^ 31) : ex_C (d + 2) 21 [.int (nI w), .int (nI a)] σ E = E (.inl (some (.long (lN (a * 128 ^ (7 - w)))))) σ := by
  simp only [r_X1_keyOf, r_X1_keyOf_0, r_X1_keyOf_1, r_X1_keyOf_2, r_X1_keyOf_3, r_X1_keyOf_6, r_X1_keyOf_7]
  rw [c_shiftOf hw]
  simp only [Option.toList, List.cons_append, List.nil_append, r_X1_keyOf_0, r_X1_keyOf_1, r_X1_keyOf_2, r_X1_keyOf_3, r_X1_keyOf_6, r_X1_keyOf_7]
  rw [nI_l ha, wb_shl _ (by omega), pq_pw]
theorem c_awayBy {d : Nat} {E : ex_O → ex_S → Prop} {σ : ex_S} {w a t0 w0 : Nat} (hw : w < 8) (ht : σ.2.2.1 27 w = nI t0) (hwt : σ.2.2.1 29 w = nI w0) : ex_C (d + 1) 20 [.ref 1, .int (nI w), .int (nI a)] σ E = E (.inl (some (.int (nI (w0 * (a + t0)))))) σ := by
  simp only [r_X1_awayBy, r_X1_awayBy_0, r_X1_awayBy_1, r_X1_awayBy_4, r_X1_awayBy_7, r_X1_awayBy_8, r_X1_awayBy_9, r_X1_awayBy_10, r_X1_awayBy_11, r_X1_awayBy_14, r_X1_awayBy_17, r_X1_awayBy_18, r_X1_awayBy_19, r_X1_awayBy_20, r_X1_awayBy_21, tl_in hw (show 8 < 2 ^ 31 by omega), tl_cl (show w < 2 ^ 31 by omega), true_and, ht, hwt, nI_add, pk_mul]
theorem c_isLess {d : Nat} {E : ex_O → ex_S → Prop} {σ : ex_S} {a a2 k k2 : Nat} (ha : a < 2 ^ 31) (ha2 : a2 < 2 ^ 31) (hk : k < 2 ^ 60) (hk2 : k2 < 2 ^ 60) : ex_C (d + 1) 23 [.int (nI a), .long (lN k), .int (nI a2), .long (lN k2)] σ E = E (.inl (some (.int (if a * 2 ^ 60 + k < a2 * 2 ^ 60 + k2 then 1 else 0)))) σ := by
  have e : (0 ≤ lg_cmp (lN k) (lN k2)) = (k2 ≤ k) := propext (by rw [lg_cmp_ge]; exact pk_lLE (by omega) (by omega))
  simp only [r_X1_isLess, r_X1_isLess_0, r_X1_isLess_1, r_X1_isLess_2, r_X1_isLess_5, r_X1_isLess_6, r_X1_isLess_7, r_X1_isLess_10, r_X1_isLess_11, r_X1_isLess_13, r_X1_isLess_14, r_X1_isLess_17, r_X1_isLess_18, r_X1_isLess_21, r_X1_isLess_22, tl_lt ha ha2, tl_eq ha ha2, e, tl_b0, tl_b1, true_and]
  by_cases q1 : a < a2
  · rw [if_pos q1, if_pos (by omega)]
  · rw [if_neg q1]
    by_cases q2 : a = a2
    · rw [if_pos q2]
      by_cases q3 : k2 ≤ k
      · rw [if_pos q3, if_neg (by omega)]
      · rw [if_neg q3, if_pos (by omega)]
    · rw [if_neg q2, if_neg (by omega)]
/-- where a work's needs are up, from f on -/
def mw (M : Nat) (e t : Nat → Nat) (f : Nat) : Nat → Nat
  | 0 => f
  | v + 1 => if M.testBit v = true then max (mw M e t f v) (e v + t v) else mw M e t f v
theorem mw_f {M f : Nat} {e t : Nat → Nat} : ∀ {n : Nat}, f ≤ mw M e t f n
  | 0 => Nat.le_refl f
  | n + 1 => by
    have := mw_f (M := M) (f := f) (e := e) (t := t) (n := n)
    rw [mw]
    split <;> omega
theorem mw_ge {M f v : Nat} {e t : Nat → Nat} (h : M.testBit v = true) : ∀ {n : Nat}, v < n → e v + t v ≤ mw M e t f n
  | 0, hv => absurd hv (by omega)
  | n + 1, hv => by
    rw [mw]
    rcases Nat.lt_or_ge v n with q | q
    · have := mw_ge (f := f) (e := e) (t := t) h q
      split <;> omega
    · have e2 : v = n := by omega
      subst e2
      rw [if_pos h]
      omega
theorem mw_le {M f x : Nat} {e t : Nat → Nat} (hf : f ≤ x) : ∀ {n : Nat}, (∀ v, v < n → M.testBit v = true → e v + t v ≤ x) → mw M e t f n ≤ x
  | 0, _ => hf
  | n + 1, h => by
    have h1 := mw_le hf (n := n) (fun v hv => h v (by omega))
    rw [mw]
    split
    · rename_i q
      have := h n (by omega) q
      omega
    · exact h1
theorem mw_stop {M f i : Nat} {e t : Nat → Nat} (h : M / 2 ^ i = 0) : ∀ {j : Nat}, mw M e t f (i + j) = mw M e t f i
  | 0 => rfl
  | j + 1 => by
    rw [← Nat.add_assoc, mw, if_neg, mw_stop h]
    intro hb
    have h1 : M < 2 ^ i := by
      rcases Nat.lt_or_ge M (2 ^ i) with q | q
      · exact q
      · have := Nat.div_pos q (Nat.two_pow_pos i)
        omega
    have := tl_bit_lt h1 hb
    omega
theorem c_xearliest {d : Nat} {E : ex_O → ex_S → Prop} {σ : ex_S} {n w M h0 H f r R0 : Nat} {e t u : Nat → Nat} (hn : n ≤ 8) (h3 : σ.1 306 = nI n) (hH : σ.1 111 = nI H) (hw : w < 8) (hM : σ.2.2.1 7 w = nI M) (hMn : M < 2 ^ n) (hh : σ.2.2.1 28 w = nI h0) (hR : R0 + 8 ≤ 72) (hv : ∀ v, v < n → M.testBit v = true → σ.2.2.1 12 (R0 + v) = nI (e v) ∧ σ.2.2.1 27 v = nI (t v) ∧ e v + t v ≤ 1000) (hf : f ≤ 1000) (hu : ∀ x, x < 96 → σ.2.2.1 10 x = nI (u x) ∧ u x ≤ 100) (b2 : h0 ≤ 100) (b3 : H ≤ 100) (r1 : mw M e t f n ≤ r) (r2 : r < 96 → u r + h0 ≤ H) (r3 : ∀ s, mw M e t f n ≤ s → s < r → s < 96 ∧ ¬ u s + h0 ≤ H) : ex_C (d + 1) 17 [.ref 1, .int (nI w), .int (nI R0), .int (nI f)] σ E = E (.inl (some (.int (nI r)))) σ := by
  have h8 := tl_p8 hn
  have hw8 := tl_in hw (show 8 < 2 ^ 31 by omega)
  have hwc := tl_cl (show w < 2 ^ 31 by omega)
  have hmw : ∀ i, i ≤ n → mw M e t f i ≤ 1000 := fun i hi => mw_le hf (fun v hvi hb => (hv v (by omega) hb).2.2)
  simp only [r_X1_earliest, r_X1_earliest_0, r_X1_earliest_1, r_X1_earliest_3, r_X1_earliest_4, r_X1_earliest_7, r_X1_earliest_8, r_X1_earliest_9, r_X1_earliest_11, r_X1_earliest_12, r_X1_earliest_16, r_X1_earliest_17, r_X1_earliest_20, r_X1_earliest_23, r_X1_earliest_26, r_X1_earliest_28, r_X1_earliest_30, r_X1_earliest_31, r_X1_earliest_34, r_X1_earliest_36, r_X1_earliest_38, r_X1_earliest_39, r_X1_earliest_40, r_X1_earliest_41, r_X1_earliest_44, r_X1_earliest_46, r_X1_earliest_47, r_X1_earliest_50, r_X1_earliest_51, r_X1_earliest_53, r_X1_earliest_54, r_X1_earliest_55, r_X1_earliest_56, r_X1_earliest_59, r_X1_earliest_62, r_X1_earliest_64, r_X1_earliest_65, r_X1_earliest_66, r_X1_earliest_69, r_X1_earliest_71, r_X1_earliest_74, r_X1_earliest_79, r_X1_earliest_81, r_X1_earliest_84, r_X1_earliest_85, r_X1_earliest_88, r_X1_earliest_90, r_X1_earliest_91, r_X1_earliest_92, r_X1_earliest_95, r_X1_earliest_98, r_X1_earliest_99, r_X1_earliest_100, r_X1_earliest_101, r_X1_earliest_102, r_X1_earliest_105, r_X1_earliest_108, r_X1_earliest_111, r_X1_earliest_114, r_X1_earliest_116, hw8, hwc, true_and, hM]
  have loop2 : ∀ (k a i : Nat), a + k = r → mw M e t f n ≤ a → ex_r none d ex_m_X1_earliest E 77 [.ref 1, .int (nI w), .int (nI R0), .int (nI f), .int (nI a), .int (nI M), .int (nI i)] [] σ 0 = E (.inl (some (.int (nI r)))) σ := by
    intro k
    induction k with
    | zero =>
      intro a i ha hma
      have e1 : a = r := by omega
      subst e1
      simp only [r_X1_earliest_77]
      simp only [r_X1_earliest_0, r_X1_earliest_1, r_X1_earliest_3, r_X1_earliest_4, r_X1_earliest_7, r_X1_earliest_8, r_X1_earliest_9, r_X1_earliest_11, r_X1_earliest_12, r_X1_earliest_16, r_X1_earliest_17, r_X1_earliest_20, r_X1_earliest_23, r_X1_earliest_26, r_X1_earliest_28, r_X1_earliest_30, r_X1_earliest_31, r_X1_earliest_34, r_X1_earliest_36, r_X1_earliest_38, r_X1_earliest_39, r_X1_earliest_40, r_X1_earliest_41, r_X1_earliest_44, r_X1_earliest_46, r_X1_earliest_47, r_X1_earliest_50, r_X1_earliest_51, r_X1_earliest_53, r_X1_earliest_54, r_X1_earliest_55, r_X1_earliest_56, r_X1_earliest_59, r_X1_earliest_62, r_X1_earliest_64, r_X1_earliest_65, r_X1_earliest_66, r_X1_earliest_69, r_X1_earliest_71, r_X1_earliest_74, r_X1_earliest_79, r_X1_earliest_81, r_X1_earliest_84, r_X1_earliest_85, r_X1_earliest_88, r_X1_earliest_90, r_X1_earliest_91, r_X1_earliest_92, r_X1_earliest_95, r_X1_earliest_98, r_X1_earliest_99, r_X1_earliest_100, r_X1_earliest_101, r_X1_earliest_102, r_X1_earliest_105, r_X1_earliest_108, r_X1_earliest_111, r_X1_earliest_114, r_X1_earliest_116, hw8, hwc, true_and, hh, hH]
      by_cases q : a < 96
      · have hq := hu a q
        have hrn : a < 2 ^ 31 := by omega
        rw [if_neg (show ¬ (96 : Int32) ≤ nI a from nI_ge (b := 96) q (by omega))]
        simp only [tl_in (show a < 97 by omega) (show 97 < 2 ^ 31 by omega), tl_cl hrn, true_and, hq.1, nI_add, tl_le (show u a + h0 < 2 ^ 31 by omega) (show H < 2 ^ 31 by omega), if_pos (r2 q)]
      · have hr1000 : a ≤ 1000 ∨ 1000 < a := by omega
        rcases hr1000 with hr | hr
        · rw [if_pos (show (96 : Int32) ≤ nI a from nI_le (a := 96) (by omega) (by omega))]
        · exfalso
          have := hmw n (Nat.le_refl n)
          have := r3 (a - 1) (by omega) (by omega)
          omega
    | succ k ih =>
      intro a i ha hma
      obtain ⟨y1, y2⟩ := r3 a hma (by omega)
      have hq := hu a y1
      simp only [r_X1_earliest_77]
      simp only [r_X1_earliest_0, r_X1_earliest_1, r_X1_earliest_3, r_X1_earliest_4, r_X1_earliest_7, r_X1_earliest_8, r_X1_earliest_9, r_X1_earliest_11, r_X1_earliest_12, r_X1_earliest_16, r_X1_earliest_17, r_X1_earliest_20, r_X1_earliest_23, r_X1_earliest_26, r_X1_earliest_28, r_X1_earliest_30, r_X1_earliest_31, r_X1_earliest_34, r_X1_earliest_36, r_X1_earliest_38, r_X1_earliest_39, r_X1_earliest_40, r_X1_earliest_41, r_X1_earliest_44, r_X1_earliest_46, r_X1_earliest_47, r_X1_earliest_50, r_X1_earliest_51, r_X1_earliest_53, r_X1_earliest_54, r_X1_earliest_55, r_X1_earliest_56, r_X1_earliest_59, r_X1_earliest_62, r_X1_earliest_64, r_X1_earliest_65, r_X1_earliest_66, r_X1_earliest_69, r_X1_earliest_71, r_X1_earliest_74, r_X1_earliest_79, r_X1_earliest_81, r_X1_earliest_84, r_X1_earliest_85, r_X1_earliest_88, r_X1_earliest_90, r_X1_earliest_91, r_X1_earliest_92, r_X1_earliest_95, r_X1_earliest_98, r_X1_earliest_99, r_X1_earliest_100, r_X1_earliest_101, r_X1_earliest_102, r_X1_earliest_105, r_X1_earliest_108, r_X1_earliest_111, r_X1_earliest_114, r_X1_earliest_116, hw8, hwc, true_and, hh, hH]
      rw [if_neg (show ¬ (96 : Int32) ≤ nI a from nI_ge (b := 96) y1 (by omega))]
      simp only [tl_in (show a < 97 by omega) (show 97 < 2 ^ 31 by omega), tl_cl (show a < 2 ^ 31 by omega), true_and, hq.1, nI_add, tl_le (show u a + h0 < 2 ^ 31 by omega) (show H < 2 ^ 31 by omega), if_neg y2, nI_1]
      exact ih (a + 1) i (by omega) (by omega)
  have loop1 : ∀ (k i : Nat), i + k = n → ex_r none d ex_m_X1_earliest E 14 [.ref 1, .int (nI w), .int (nI R0), .int (nI f), .int (nI (mw M e t f i)), .int (nI M), .int (nI i)] [] σ 0 = E (.inl (some (.int (nI r)))) σ := by
    intro k
    induction k with
    | zero =>
      intro i hi
      have e1 : i = n := by omega
      subst e1
      simp only [r_X1_earliest_14]
      simp only [r_X1_earliest_0, r_X1_earliest_1, r_X1_earliest_3, r_X1_earliest_4, r_X1_earliest_7, r_X1_earliest_8, r_X1_earliest_9, r_X1_earliest_11, r_X1_earliest_12, r_X1_earliest_16, r_X1_earliest_17, r_X1_earliest_20, r_X1_earliest_23, r_X1_earliest_26, r_X1_earliest_28, r_X1_earliest_30, r_X1_earliest_31, r_X1_earliest_34, r_X1_earliest_36, r_X1_earliest_38, r_X1_earliest_39, r_X1_earliest_40, r_X1_earliest_41, r_X1_earliest_44, r_X1_earliest_46, r_X1_earliest_47, r_X1_earliest_50, r_X1_earliest_51, r_X1_earliest_53, r_X1_earliest_54, r_X1_earliest_55, r_X1_earliest_56, r_X1_earliest_59, r_X1_earliest_62, r_X1_earliest_64, r_X1_earliest_65, r_X1_earliest_66, r_X1_earliest_69, r_X1_earliest_71, r_X1_earliest_74, r_X1_earliest_79, r_X1_earliest_81, r_X1_earliest_84, r_X1_earliest_85, r_X1_earliest_88, r_X1_earliest_90, r_X1_earliest_91, r_X1_earliest_92, r_X1_earliest_95, r_X1_earliest_98, r_X1_earliest_99, r_X1_earliest_100, r_X1_earliest_101, r_X1_earliest_102, r_X1_earliest_105, r_X1_earliest_108, r_X1_earliest_111, r_X1_earliest_114, r_X1_earliest_116, h3, Int32.le_refl, if_true]
      exact loop2 (r - mw M e t f i) _ _ (by omega) (Nat.le_refl _)
    | succ k ih =>
      intro i hi
      have hdv : M / 2 ^ i ≤ M := Nat.div_le_self _ _
      simp only [r_X1_earliest_14]
      simp only [r_X1_earliest_0, r_X1_earliest_1, r_X1_earliest_3, r_X1_earliest_4, r_X1_earliest_7, r_X1_earliest_8, r_X1_earliest_9, r_X1_earliest_11, r_X1_earliest_12, r_X1_earliest_16, r_X1_earliest_17, r_X1_earliest_20, r_X1_earliest_23, r_X1_earliest_26, r_X1_earliest_28, r_X1_earliest_30, r_X1_earliest_31, r_X1_earliest_34, r_X1_earliest_36, r_X1_earliest_38, r_X1_earliest_39, r_X1_earliest_40, r_X1_earliest_41, r_X1_earliest_44, r_X1_earliest_46, r_X1_earliest_47, r_X1_earliest_50, r_X1_earliest_51, r_X1_earliest_53, r_X1_earliest_54, r_X1_earliest_55, r_X1_earliest_56, r_X1_earliest_59, r_X1_earliest_62, r_X1_earliest_64, r_X1_earliest_65, r_X1_earliest_66, r_X1_earliest_69, r_X1_earliest_71, r_X1_earliest_74, r_X1_earliest_79, r_X1_earliest_81, r_X1_earliest_84, r_X1_earliest_85, r_X1_earliest_88, r_X1_earliest_90, r_X1_earliest_91, r_X1_earliest_92, r_X1_earliest_95, r_X1_earliest_98, r_X1_earliest_99, r_X1_earliest_100, r_X1_earliest_101, r_X1_earliest_102, r_X1_earliest_105, r_X1_earliest_108, r_X1_earliest_111, r_X1_earliest_114, r_X1_earliest_116, h3, tb0, tb_nI (show M < 2 ^ 31 by omega) (show i < 32 by omega)]
      simp only [tl_shr (show M < 2 ^ 31 by omega) (show i < 32 by omega), tl_eq0 (show M / 2 ^ i < 2 ^ 31 by omega), nI_add, tl_in (show R0 + i < 72 by omega) (show 72 < 2 ^ 31 by omega), tl_cl (show R0 + i < 2 ^ 31 by omega), tl_in (show i < 8 by omega) (show 8 < 2 ^ 31 by omega), tl_cl (show i < 2 ^ 31 by omega), true_and, nI_1]
      rw [if_neg (nI_ge (show i < n by omega) (by omega))]
      by_cases q : M / 2 ^ i = 0
      · rw [if_pos q]
        have hst := mw_stop (f := f) (e := e) (t := t) q (j := n - i)
        rw [show i + (n - i) = n by omega] at hst
        exact loop2 (r - mw M e t f i) _ _ (by omega) (by omega)
      · rw [if_neg q]
        have hih := ih (i + 1) (by omega)
        rw [mw] at hih
        have hb := hmw i (by omega)
        by_cases q2 : M.testBit i = true
        · obtain ⟨y1, y2, y3⟩ := hv i (by omega) q2
          rw [if_neg (by rw [q2]; decide), y1, y2, nI_add, tl_max (by omega) (by omega)]
          rw [if_pos q2] at hih
          exact hih
        · rw [if_pos (by simpa using q2)]
          rw [if_neg q2] at hih
          exact hih
  have := loop1 n 0 (by omega)
  exact this
theorem c_occupy {d : Nat} {E : ex_O → ex_S → Prop} {σ : ex_S} {w b0 t0 : Nat} {v : Int32} (hw : w < 8) (hb : σ.2.2.1 11 w = nI b0) (ht : σ.2.2.1 27 w = nI t0) (b1 : b0 ≤ 96) (b2 : t0 ≤ 100) : ex_C (d + 1) 19 [.ref 1, .int (nI w), .int v] σ E = E (.inl none) (ex_row σ 10 (rg (σ.2.2.1 10) b0 (fun x => x + v) (min (b0 + t0) 96 - b0))) := by
  have hw8 := tl_in hw (show 8 < 2 ^ 31 by omega)
  have hwc := tl_cl (show w < 2 ^ 31 by omega)
  simp only [r_X1_occupy, r_X1_occupy_0, r_X1_occupy_1, r_X1_occupy_4, r_X1_occupy_5, r_X1_occupy_6, r_X1_occupy_7, r_X1_occupy_10, r_X1_occupy_13, r_X1_occupy_14, r_X1_occupy_15, r_X1_occupy_16, r_X1_occupy_18, r_X1_occupy_21, r_X1_occupy_22, r_X1_occupy_23, r_X1_occupy_26, r_X1_occupy_27, r_X1_occupy_28, r_X1_occupy_32, r_X1_occupy_33, r_X1_occupy_36, r_X1_occupy_37, r_X1_occupy_40, r_X1_occupy_42, r_X1_occupy_43, r_X1_occupy_44, r_X1_occupy_45, r_X1_occupy_46, r_X1_occupy_47, r_X1_occupy_50, r_X1_occupy_53, hw8, hwc, true_and, hb, ht, nI_add]
  rw [show (if (96 : Int32) < nI (b0 + t0) then (96 : Int32) else nI (b0 + t0)) = nI (min (b0 + t0) 96) from tl_min (a := b0 + t0) (b := 96) (by omega) (by omega)]
  have hm : min (b0 + t0) 96 ≤ 96 := Nat.min_le_right _ _
  have hm2 : b0 ≤ min (b0 + t0) 96 := Nat.le_min.mpr ⟨by omega, b1⟩
  have l1 := tl_for (A := fun j => ex_r none d ex_m_X1_occupy E 30 [.ref 1, .int (nI w), .int v, .int (nI (min (b0 + t0) 96)), .int (nI (b0 + j))] [] (ex_row σ 10 (rg (σ.2.2.1 10) b0 (fun x => x + v) j)) 0) (n := min (b0 + t0) 96 - b0) (by
    intro j hj R hR
    simp only [r_X1_occupy_30]
    simp only [r_X1_occupy_0, r_X1_occupy_1, r_X1_occupy_4, r_X1_occupy_5, r_X1_occupy_6, r_X1_occupy_7, r_X1_occupy_10, r_X1_occupy_13, r_X1_occupy_14, r_X1_occupy_15, r_X1_occupy_16, r_X1_occupy_18, r_X1_occupy_21, r_X1_occupy_22, r_X1_occupy_23, r_X1_occupy_26, r_X1_occupy_27, r_X1_occupy_28, r_X1_occupy_32, r_X1_occupy_33, r_X1_occupy_36, r_X1_occupy_37, r_X1_occupy_40, r_X1_occupy_42, r_X1_occupy_43, r_X1_occupy_44, r_X1_occupy_45, r_X1_occupy_46, r_X1_occupy_47, r_X1_occupy_50, r_X1_occupy_53, tl_in (show b0 + j < 97 by omega) (show 97 < 2 ^ 31 by omega), tl_cl (show b0 + j < 2 ^ 31 by omega), true_and, nI_1, s_ar, tl_row_at]
    rw [if_neg (nI_ge (by omega) (by omega)), rg_s (σ.2.2.1 10) b0 j (fun x => x + v)]
    exact hR)
  simp only [rg_0, Nat.add_zero, tl_row_self] at l1
  rw [l1]
  simp only [r_X1_occupy_30]
  simp only [r_X1_occupy_0, r_X1_occupy_1, r_X1_occupy_4, r_X1_occupy_5, r_X1_occupy_6, r_X1_occupy_7, r_X1_occupy_10, r_X1_occupy_13, r_X1_occupy_14, r_X1_occupy_15, r_X1_occupy_16, r_X1_occupy_18, r_X1_occupy_21, r_X1_occupy_22, r_X1_occupy_23, r_X1_occupy_26, r_X1_occupy_27, r_X1_occupy_28, r_X1_occupy_32, r_X1_occupy_33, r_X1_occupy_36, r_X1_occupy_37, r_X1_occupy_40, r_X1_occupy_42, r_X1_occupy_43, r_X1_occupy_44, r_X1_occupy_45, r_X1_occupy_46, r_X1_occupy_47, r_X1_occupy_50, r_X1_occupy_53]
  rw [if_pos (nI_le (by omega) (by omega))]
/-- can all that follows here follow there -/
def oo (t b : Nat → Nat) (K s p : Nat) : Nat → Bool
  | 0 => true
  | w + 1 => oo t b K s p w && !(p.testBit w && decide (b w < K / 128 ^ (7 - w) % 128) && decide (s < K / 128 ^ (7 - w) % 128 + t w))
theorem oo_iff {t b : Nat → Nat} {K s p : Nat} : ∀ {n : Nat}, oo t b K s p n = true ↔ ∀ w, w < n → p.testBit w = true → K / 128 ^ (7 - w) % 128 ≤ b w ∨ K / 128 ^ (7 - w) % 128 + t w ≤ s
  | 0 => ⟨fun _ w hw => absurd hw (by omega), fun _ => rfl⟩
  | n + 1 => by
    rw [oo, Bool.and_eq_true, oo_iff]
    constructor
    · rintro ⟨h1, h2⟩ w hw hp
      rcases Nat.lt_or_ge w n with q | q
      · exact h1 w q hp
      · have e : w = n := by omega
        subst e
        simp [hp] at h2
        omega
    · intro h1
      refine ⟨fun w hw => h1 w (by omega), ?_⟩
      have h2 := h1 n (by omega)
      cases q : p.testBit n with
      | false => simp
      | true =>
        have := h2 q
        simp
        omega
theorem c_isOutdone {d : Nat} {E : ex_O → ex_S → Prop} {σ : ex_S} {n p a a2 k k2 s : Nat} {b t : Nat → Nat} (hn : n ≤ 8) (h3 : σ.1 306 = nI n) (hp : p < 2 ^ n) (ha : a < 2 ^ 31) (ha2 : a2 < 2 ^ 31) (hk : k < 2 ^ 60) (hk2 : k2 < 2 ^ 60) (hs : s ≤ 1000) (h13 : σ.2.2.1 13 p = nI a2) (h14 : σ.2.2.2 14 p = lN k2) (h116 : σ.1 116 = nI s) (hb : ∀ w, w < n → p.testBit w = true → σ.2.2.1 11 w = nI (b w) ∧ b w < 2 ^ 31) (ht : ∀ w, w < n → σ.2.2.1 27 w = nI (t w) ∧ t w ≤ 100) : ex_C (d + 2) 18 [.ref 1, .int (nI p), .int (nI a), .long (lN k)] σ E = if a2 * 2 ^ 60 + k2 < a * 2 ^ 60 + k then E (.inl (some (.int (if oo t b k2 s p n = true then 1 else 0)))) σ else E (.inl (some (.int 0))) (ex_sB (ex_sA σ 13 p (nI a)) 14 p (lN k)) := by
  have h8 := tl_p8 hn
  have hpi := tl_in (show p < 256 by omega) (show 256 < 2 ^ 31 by omega)
  have hpc := tl_cl (show p < 2 ^ 31 by omega)
  simp only [r_X1_isOutdone, r_X1_isOutdone_0, r_X1_isOutdone_1, r_X1_isOutdone_4, r_X1_isOutdone_5, r_X1_isOutdone_6, r_X1_isOutdone_7, r_X1_isOutdone_10, r_X1_isOutdone_11, r_X1_isOutdone_12, r_X1_isOutdone_13, r_X1_isOutdone_14, r_X1_isOutdone_17, r_X1_isOutdone_20, r_X1_isOutdone_21, r_X1_isOutdone_24, r_X1_isOutdone_25, r_X1_isOutdone_26, r_X1_isOutdone_27, r_X1_isOutdone_28, r_X1_isOutdone_31, r_X1_isOutdone_32, r_X1_isOutdone_33, r_X1_isOutdone_34, r_X1_isOutdone_35, r_X1_isOutdone_36, r_X1_isOutdone_37, r_X1_isOutdone_41, r_X1_isOutdone_42, r_X1_isOutdone_45, r_X1_isOutdone_48, r_X1_isOutdone_51, r_X1_isOutdone_52, r_X1_isOutdone_54, r_X1_isOutdone_55, r_X1_isOutdone_56, r_X1_isOutdone_57, r_X1_isOutdone_60, r_X1_isOutdone_61, r_X1_isOutdone_64, r_X1_isOutdone_65, r_X1_isOutdone_66, r_X1_isOutdone_68, r_X1_isOutdone_71, r_X1_isOutdone_72, r_X1_isOutdone_73, r_X1_isOutdone_75, r_X1_isOutdone_76, r_X1_isOutdone_78, r_X1_isOutdone_80, r_X1_isOutdone_81, r_X1_isOutdone_84, r_X1_isOutdone_86, r_X1_isOutdone_87, r_X1_isOutdone_90, r_X1_isOutdone_92, r_X1_isOutdone_93, r_X1_isOutdone_96, r_X1_isOutdone_99, r_X1_isOutdone_101, r_X1_isOutdone_102, r_X1_isOutdone_103, r_X1_isOutdone_104, r_X1_isOutdone_107, r_X1_isOutdone_110, r_X1_isOutdone_111, r_X1_isOutdone_112, r_X1_isOutdone_115, r_X1_isOutdone_118, r_X1_isOutdone_119, hpi, hpc, true_and, h13, h14]
  rw [c_isLess ha2 ha hk2 hk]
  simp only [Option.toList, List.cons_append, List.nil_append, r_X1_isOutdone_0, r_X1_isOutdone_1, r_X1_isOutdone_4, r_X1_isOutdone_5, r_X1_isOutdone_6, r_X1_isOutdone_7, r_X1_isOutdone_10, r_X1_isOutdone_11, r_X1_isOutdone_12, r_X1_isOutdone_13, r_X1_isOutdone_14, r_X1_isOutdone_17, r_X1_isOutdone_20, r_X1_isOutdone_21, r_X1_isOutdone_24, r_X1_isOutdone_25, r_X1_isOutdone_26, r_X1_isOutdone_27, r_X1_isOutdone_28, r_X1_isOutdone_31, r_X1_isOutdone_32, r_X1_isOutdone_33, r_X1_isOutdone_34, r_X1_isOutdone_35, r_X1_isOutdone_36, r_X1_isOutdone_37, r_X1_isOutdone_41, r_X1_isOutdone_42, r_X1_isOutdone_45, r_X1_isOutdone_48, r_X1_isOutdone_51, r_X1_isOutdone_52, r_X1_isOutdone_54, r_X1_isOutdone_55, r_X1_isOutdone_56, r_X1_isOutdone_57, r_X1_isOutdone_60, r_X1_isOutdone_61, r_X1_isOutdone_64, r_X1_isOutdone_65, r_X1_isOutdone_66, r_X1_isOutdone_68, r_X1_isOutdone_71, r_X1_isOutdone_72, r_X1_isOutdone_73, r_X1_isOutdone_75, r_X1_isOutdone_76, r_X1_isOutdone_78, r_X1_isOutdone_80, r_X1_isOutdone_81, r_X1_isOutdone_84, r_X1_isOutdone_86, r_X1_isOutdone_87, r_X1_isOutdone_90, r_X1_isOutdone_92, r_X1_isOutdone_93, r_X1_isOutdone_96, r_X1_isOutdone_99, r_X1_isOutdone_101, r_X1_isOutdone_102, r_X1_isOutdone_103, r_X1_isOutdone_104, r_X1_isOutdone_107, r_X1_isOutdone_110, r_X1_isOutdone_111, r_X1_isOutdone_112, r_X1_isOutdone_115, r_X1_isOutdone_118, r_X1_isOutdone_119, hpi, hpc, true_and, tl_b0]
  by_cases q : a2 * 2 ^ 60 + k2 < a * 2 ^ 60 + k
  · rw [if_pos q, if_pos q, if_neg (by decide)]
    have key : ∀ (r w : Nat) (z : Value), w + r = n → oo t b k2 s p w = true → ex_r none (d + 1) ex_m_X1_isOutdone E 39 [.ref 1, .int (nI p), .int (nI a), .long (lN k), .retAddr 0, .int (nI w), z] [] σ 0 = E (.inl (some (.int (if oo t b k2 s p n = true then 1 else 0)))) σ := by
      intro r
      induction r with
      | zero =>
        intro w z hw ho
        have e : w = n := by omega
        subst e
        simp only [r_X1_isOutdone_39]
        simp only [r_X1_isOutdone_0, r_X1_isOutdone_1, r_X1_isOutdone_4, r_X1_isOutdone_5, r_X1_isOutdone_6, r_X1_isOutdone_7, r_X1_isOutdone_10, r_X1_isOutdone_11, r_X1_isOutdone_12, r_X1_isOutdone_13, r_X1_isOutdone_14, r_X1_isOutdone_17, r_X1_isOutdone_20, r_X1_isOutdone_21, r_X1_isOutdone_24, r_X1_isOutdone_25, r_X1_isOutdone_26, r_X1_isOutdone_27, r_X1_isOutdone_28, r_X1_isOutdone_31, r_X1_isOutdone_32, r_X1_isOutdone_33, r_X1_isOutdone_34, r_X1_isOutdone_35, r_X1_isOutdone_36, r_X1_isOutdone_37, r_X1_isOutdone_41, r_X1_isOutdone_42, r_X1_isOutdone_45, r_X1_isOutdone_48, r_X1_isOutdone_51, r_X1_isOutdone_52, r_X1_isOutdone_54, r_X1_isOutdone_55, r_X1_isOutdone_56, r_X1_isOutdone_57, r_X1_isOutdone_60, r_X1_isOutdone_61, r_X1_isOutdone_64, r_X1_isOutdone_65, r_X1_isOutdone_66, r_X1_isOutdone_68, r_X1_isOutdone_71, r_X1_isOutdone_72, r_X1_isOutdone_73, r_X1_isOutdone_75, r_X1_isOutdone_76, r_X1_isOutdone_78, r_X1_isOutdone_80, r_X1_isOutdone_81, r_X1_isOutdone_84, r_X1_isOutdone_86, r_X1_isOutdone_87, r_X1_isOutdone_90, r_X1_isOutdone_92, r_X1_isOutdone_93, r_X1_isOutdone_96, r_X1_isOutdone_99, r_X1_isOutdone_101, r_X1_isOutdone_102, r_X1_isOutdone_103, r_X1_isOutdone_104, r_X1_isOutdone_107, r_X1_isOutdone_110, r_X1_isOutdone_111, r_X1_isOutdone_112, r_X1_isOutdone_115, r_X1_isOutdone_118, r_X1_isOutdone_119, h3, Int32.le_refl, if_true, ho, tl_b1, true_and]
      | succ r ih =>
        intro w z hw ho
        have hdg : k2 / 128 ^ (7 - w) % 128 < 128 := Nat.mod_lt _ (by decide)
        obtain ⟨ht1, ht2⟩ := ht w (by omega)
        simp only [r_X1_isOutdone_39]
        simp only [r_X1_isOutdone_0, r_X1_isOutdone_1, r_X1_isOutdone_4, r_X1_isOutdone_5, r_X1_isOutdone_6, r_X1_isOutdone_7, r_X1_isOutdone_10, r_X1_isOutdone_11, r_X1_isOutdone_12, r_X1_isOutdone_13, r_X1_isOutdone_14, r_X1_isOutdone_17, r_X1_isOutdone_20, r_X1_isOutdone_21, r_X1_isOutdone_24, r_X1_isOutdone_25, r_X1_isOutdone_26, r_X1_isOutdone_27, r_X1_isOutdone_28, r_X1_isOutdone_31, r_X1_isOutdone_32, r_X1_isOutdone_33, r_X1_isOutdone_34, r_X1_isOutdone_35, r_X1_isOutdone_36, r_X1_isOutdone_37, r_X1_isOutdone_41, r_X1_isOutdone_42, r_X1_isOutdone_45, r_X1_isOutdone_48, r_X1_isOutdone_51, r_X1_isOutdone_52, r_X1_isOutdone_54, r_X1_isOutdone_55, r_X1_isOutdone_56, r_X1_isOutdone_57, r_X1_isOutdone_60, r_X1_isOutdone_61, r_X1_isOutdone_64, r_X1_isOutdone_65, r_X1_isOutdone_66, r_X1_isOutdone_68, r_X1_isOutdone_71, r_X1_isOutdone_72, r_X1_isOutdone_73, r_X1_isOutdone_75, r_X1_isOutdone_76, r_X1_isOutdone_78, r_X1_isOutdone_80, r_X1_isOutdone_81, r_X1_isOutdone_84, r_X1_isOutdone_86, r_X1_isOutdone_87, r_X1_isOutdone_90, r_X1_isOutdone_92, r_X1_isOutdone_93, r_X1_isOutdone_96, r_X1_isOutdone_99, r_X1_isOutdone_101, r_X1_isOutdone_102, r_X1_isOutdone_103, r_X1_isOutdone_104, r_X1_isOutdone_107, r_X1_isOutdone_110, r_X1_isOutdone_111, r_X1_isOutdone_112, r_X1_isOutdone_115, r_X1_isOutdone_118, r_X1_isOutdone_119, h3, hpi, hpc, true_and, tb0, tb_nI (show p < 2 ^ 31 by omega) (show w < 32 by omega), c_shiftOf (show w < 8 by omega), h14]
        rw [if_neg (nI_ge (show w < n by omega) (by omega))]
        simp only [Option.toList, List.cons_append, List.nil_append, r_X1_isOutdone_0, r_X1_isOutdone_1, r_X1_isOutdone_4, r_X1_isOutdone_5, r_X1_isOutdone_6, r_X1_isOutdone_7, r_X1_isOutdone_10, r_X1_isOutdone_11, r_X1_isOutdone_12, r_X1_isOutdone_13, r_X1_isOutdone_14, r_X1_isOutdone_17, r_X1_isOutdone_20, r_X1_isOutdone_21, r_X1_isOutdone_24, r_X1_isOutdone_25, r_X1_isOutdone_26, r_X1_isOutdone_27, r_X1_isOutdone_28, r_X1_isOutdone_31, r_X1_isOutdone_32, r_X1_isOutdone_33, r_X1_isOutdone_34, r_X1_isOutdone_35, r_X1_isOutdone_36, r_X1_isOutdone_37, r_X1_isOutdone_41, r_X1_isOutdone_42, r_X1_isOutdone_45, r_X1_isOutdone_48, r_X1_isOutdone_51, r_X1_isOutdone_52, r_X1_isOutdone_54, r_X1_isOutdone_55, r_X1_isOutdone_56, r_X1_isOutdone_57, r_X1_isOutdone_60, r_X1_isOutdone_61, r_X1_isOutdone_64, r_X1_isOutdone_65, r_X1_isOutdone_66, r_X1_isOutdone_68, r_X1_isOutdone_71, r_X1_isOutdone_72, r_X1_isOutdone_73, r_X1_isOutdone_75, r_X1_isOutdone_76, r_X1_isOutdone_78, r_X1_isOutdone_80, r_X1_isOutdone_81, r_X1_isOutdone_84, r_X1_isOutdone_86, r_X1_isOutdone_87, r_X1_isOutdone_90, r_X1_isOutdone_92, r_X1_isOutdone_93, r_X1_isOutdone_96, r_X1_isOutdone_99, r_X1_isOutdone_101, r_X1_isOutdone_102, r_X1_isOutdone_103, r_X1_isOutdone_104, r_X1_isOutdone_107, r_X1_isOutdone_110, r_X1_isOutdone_111, r_X1_isOutdone_112, r_X1_isOutdone_115, r_X1_isOutdone_118, r_X1_isOutdone_119, pq_digit (show k2 < 2 ^ 62 by omega) (show w < 8 by omega), tl_in (show w < 8 by omega) (show 8 < 2 ^ 31 by omega), tl_cl (show w < 2 ^ 31 by omega), true_and, ht1, h116, nI_add, tl_le (show k2 / 128 ^ (7 - w) % 128 + t w < 2 ^ 31 by omega) (show s < 2 ^ 31 by omega), nI_1, tl_b0]
        by_cases q1 : p.testBit w = true
        · obtain ⟨hb1, hb2⟩ := hb w (by omega) q1
          rw [if_neg (by rw [q1]; decide), hb1]
          simp only [tl_le (show k2 / 128 ^ (7 - w) % 128 < 2 ^ 31 by omega) hb2]
          by_cases q2 : k2 / 128 ^ (7 - w) % 128 ≤ b w
          · rw [if_pos q2]
            exact ih (w + 1) _ (by omega) (by rw [oo, ho]; simp; omega)
          · rw [if_neg q2]
            by_cases q3 : k2 / 128 ^ (7 - w) % 128 + t w ≤ s
            · rw [if_pos q3]
              exact ih (w + 1) _ (by omega) (by rw [oo, ho]; simp; omega)
            · rw [if_neg q3, if_neg]
              intro hall
              have := oo_iff.mp hall w (by omega) q1
              omega
        · rw [if_pos (by simpa using q1)]
          exact ih (w + 1) _ (by omega) (by rw [oo, ho]; simp [q1])
    exact key n 0 _ (by omega) rfl
  · rw [if_neg q, if_neg q, if_pos rfl]
end PA
