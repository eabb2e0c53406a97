/-! ===== Works: the small methods ===== -/
section WK
/-- a work's needs: those that stay when it is thin, or all -/
def wk_nb (ha al : Nat → Nat) (t w : Nat) : Nat := if t.testBit w then ha w else al w
/-- what the cells of Works say -/
def wk_at (σ : ex_S) (n : Nat) (ha al : Nat → Nat) : Prop := n ≤ 8 ∧ σ.1 306 = nI n ∧ (∀ k, k < 8 → σ.2.2.1 31 k = nI (al k) ∧ σ.2.2.1 32 k = nI (ha k) ∧ al k < 256 ∧ ha k < 256)
theorem wk_nb_lt {ha al : Nat → Nat} {σ : ex_S} {n : Nat} (h : wk_at σ n ha al) {t w : Nat} (hw : w < 8) : wk_nb ha al t w < 256 := by
  unfold wk_nb
  split
  · exact (h.2.2 w hw).2.2.2
  · exact (h.2.2 w hw).2.2.1
theorem c_everyWork (d : Nat) (E : ex_O → ex_S → Prop) (σ : ex_S) : ex_C (d + 1) 35 [.ref 3] σ E = E (.inl (some (.int (((1 : Int32) <<< (σ.1 306 &&& 31)) - 1)))) σ := by
  simp only [r_X3_everyWork, r_X3_everyWork_0, r_X3_everyWork_1, r_X3_everyWork_2, r_X3_everyWork_5, r_X3_everyWork_6, r_X3_everyWork_7, r_X3_everyWork_8]
theorem c_needsOf {d : Nat} {E : ex_O → ex_S → Prop} {σ : ex_S} {n w t : Nat} {ha al : Nat → Nat} (h : wk_at σ n ha al) (hw : w < 8) (ht : t < 256) : ex_C (d + 1) 38 [.ref 3, .int (nI w), .int (nI t)] σ E = E (.inl (some (.int (nI (wk_nb ha al t w))))) σ := by
  simp only [r_X3_needsOf, r_X3_needsOf_0, r_X3_needsOf_1, r_X3_needsOf_2, r_X3_needsOf_3, r_X3_needsOf_4, r_X3_needsOf_5, r_X3_needsOf_8, r_X3_needsOf_9, r_X3_needsOf_12, r_X3_needsOf_13, r_X3_needsOf_14, r_X3_needsOf_17, r_X3_needsOf_18, r_X3_needsOf_21, r_X3_needsOf_22, r_X3_needsOf_23]
  rw [tl_bit0 (by omega) (by omega), tl_in (by omega) (by omega), tl_cl (by omega), (h.2.2 w hw).1, (h.2.2 w hw).2.1]
  unfold wk_nb
  cases ht2 : t.testBit w <;> simp
theorem l_needsOfAll {d : Nat} {E : ex_O → ex_S → Prop} {σ : ex_S} {n s t b : Nat} {ha al : Nat → Nat} (h : wk_at σ n ha al) (hs : s < 256) (ht : t < 256) : ∀ (k i : Nat), i + k = n → ex_r none (d + 1) ex_m_X3_needsOfAll E 5 [.ref 3, .int (nI s), .int (nI t), .int (nI (tl_fo (fun w => if s.testBit w then wk_nb ha al t w else 0) i)), .int (nI i)] [] σ b = E (.inl (some (.int (nI (tl_fo (fun w => if s.testBit w then wk_nb ha al t w else 0) n))))) σ
  | 0, i, hi => by
    have hn := h.1
    have e1 : i = n := by omega
    subst e1
    rw [r_X3_needsOfAll_5]
    simp only [r_X3_needsOfAll_0, r_X3_needsOfAll_1, r_X3_needsOfAll_2, r_X3_needsOfAll_3, r_X3_needsOfAll_7, r_X3_needsOfAll_8, r_X3_needsOfAll_11, r_X3_needsOfAll_14, r_X3_needsOfAll_15, r_X3_needsOfAll_17, r_X3_needsOfAll_18, r_X3_needsOfAll_19, r_X3_needsOfAll_20, r_X3_needsOfAll_23, r_X3_needsOfAll_24, r_X3_needsOfAll_25, r_X3_needsOfAll_27, r_X3_needsOfAll_28, r_X3_needsOfAll_31, r_X3_needsOfAll_32, r_X3_needsOfAll_33, r_X3_needsOfAll_36, r_X3_needsOfAll_39, r_X3_needsOfAll_40, h.2.1, Int32.le_refl, if_true]
  | k + 1, i, hi => by
    have hn := h.1
    rw [r_X3_needsOfAll_5]
    simp only [r_X3_needsOfAll_0, r_X3_needsOfAll_1, r_X3_needsOfAll_2, r_X3_needsOfAll_3, r_X3_needsOfAll_7, r_X3_needsOfAll_8, r_X3_needsOfAll_11, r_X3_needsOfAll_14, r_X3_needsOfAll_15, r_X3_needsOfAll_17, r_X3_needsOfAll_18, r_X3_needsOfAll_19, r_X3_needsOfAll_20, r_X3_needsOfAll_23, r_X3_needsOfAll_24, r_X3_needsOfAll_25, r_X3_needsOfAll_27, r_X3_needsOfAll_28, r_X3_needsOfAll_31, r_X3_needsOfAll_32, r_X3_needsOfAll_33, r_X3_needsOfAll_36, r_X3_needsOfAll_39, r_X3_needsOfAll_40, h.2.1]
    rw [tl_le (by omega) (by omega), if_neg (by omega), tl_bit0 (by omega) (by omega)]
    have ih := l_needsOfAll (d := d) (E := E) (b := b) h hs ht k (i + 1) (by omega)
    by_cases hb : s.testBit i = true
    · rw [if_neg (by rw [hb]; decide), c_needsOf h (by omega) ht]
      simp only [Option.toList, List.cons_append, List.nil_append, r_X3_needsOfAll_0, r_X3_needsOfAll_1, r_X3_needsOfAll_2, r_X3_needsOfAll_3, r_X3_needsOfAll_7, r_X3_needsOfAll_8, r_X3_needsOfAll_11, r_X3_needsOfAll_14, r_X3_needsOfAll_15, r_X3_needsOfAll_17, r_X3_needsOfAll_18, r_X3_needsOfAll_19, r_X3_needsOfAll_20, r_X3_needsOfAll_23, r_X3_needsOfAll_24, r_X3_needsOfAll_25, r_X3_needsOfAll_27, r_X3_needsOfAll_28, r_X3_needsOfAll_31, r_X3_needsOfAll_32, r_X3_needsOfAll_33, r_X3_needsOfAll_36, r_X3_needsOfAll_39, r_X3_needsOfAll_40]
      rw [tl_or, nI_1]
      simpa only [tl_fo, hb, if_true] using ih
    · rw [if_pos (by simpa using hb), nI_1]
      simpa only [tl_fo, hb, if_false, Nat.or_zero, Bool.false_eq_true] using ih
theorem c_needsOfAll {d : Nat} {E : ex_O → ex_S → Prop} {σ : ex_S} {n s t : Nat} {ha al : Nat → Nat} (h : wk_at σ n ha al) (hs : s < 256) (ht : t < 256) : ex_C (d + 2) 39 [.ref 3, .int (nI s), .int (nI t)] σ E = E (.inl (some (.int (nI (tl_fo (fun w => if s.testBit w then wk_nb ha al t w else 0) n))))) σ := by
  simp only [r_X3_needsOfAll, r_X3_needsOfAll_0, r_X3_needsOfAll_1, r_X3_needsOfAll_2, r_X3_needsOfAll_3, r_X3_needsOfAll_7, r_X3_needsOfAll_8, r_X3_needsOfAll_11, r_X3_needsOfAll_14, r_X3_needsOfAll_15, r_X3_needsOfAll_17, r_X3_needsOfAll_18, r_X3_needsOfAll_19, r_X3_needsOfAll_20, r_X3_needsOfAll_23, r_X3_needsOfAll_24, r_X3_needsOfAll_25, r_X3_needsOfAll_27, r_X3_needsOfAll_28, r_X3_needsOfAll_31, r_X3_needsOfAll_32, r_X3_needsOfAll_33, r_X3_needsOfAll_36, r_X3_needsOfAll_39, r_X3_needsOfAll_40]
  exact l_needsOfAll h hs ht n 0 (by omega)
end WK
