/-! ===== the model's plan: the small methods ===== -/
section MP
theorem tl_lt0 {a : Nat} (ha : a < 2 ^ 31) : (nI a < 0) = False := eq_false (nI_nlt (b := 0) (Nat.zero_le a) ha)
theorem c_firstFree {d : Nat} {E : ex_O → ex_S → Prop} {σ : ex_S} {w t0 h0 H f r : Nat} {u : Nat → Nat} (hw : w < 8) (ht : σ.2.2.1 33 w = nI t0) (hh : σ.2.2.1 34 w = nI h0) (hH : σ.1 529 = nI H) (hu : ∀ x, x < 200 → σ.2.2.1 54 x = nI (u x) ∧ u x ≤ 100) (b1 : t0 ≤ 12) (b2 : h0 ≤ 100) (b3 : H ≤ 100) (hfr : f ≤ r) (hr : r + t0 ≤ 200) (hgood : ∀ x, r ≤ x → x < r + t0 → u x + h0 ≤ H) (hleast : ∀ s, f ≤ s → s < r → ∃ x, s ≤ x ∧ x < s + t0 ∧ ¬ u x + h0 ≤ H) : ex_C (d + 1) 105 [.ref 5, .int (nI w), .int (nI f)] σ E = E (.inl (some (.int (nI r)))) σ := by
  simp only [r_X5_firstFree, r_X5_firstFree_0, r_X5_firstFree_1, r_X5_firstFree_2, r_X5_firstFree_3, r_X5_firstFree_7, r_X5_firstFree_8, r_X5_firstFree_9, r_X5_firstFree_12, r_X5_firstFree_13, r_X5_firstFree_14, r_X5_firstFree_15, r_X5_firstFree_18, r_X5_firstFree_19, r_X5_firstFree_22, r_X5_firstFree_24, r_X5_firstFree_25, r_X5_firstFree_26, r_X5_firstFree_29, r_X5_firstFree_30, r_X5_firstFree_31, r_X5_firstFree_32, r_X5_firstFree_33, r_X5_firstFree_36, r_X5_firstFree_39, r_X5_firstFree_41, r_X5_firstFree_42, r_X5_firstFree_43, r_X5_firstFree_44, r_X5_firstFree_47, r_X5_firstFree_50, r_X5_firstFree_51]
  have key : ∀ (k a s : Nat), a + k = r + t0 → f ≤ s → s ≤ r → s ≤ a → a ≤ s + t0 → (∀ x, s ≤ x → x < a → u x + h0 ≤ H) → ex_r none d ex_m_X5_firstFree E 5 [.ref 5, .int (nI w), .int (nI f), .int (nI s), .int (nI a)] [] σ 0 = E (.inl (some (.int (nI r)))) σ := by
    intro k
    induction k with
    | zero =>
      intro a s h1 h2 h3 h4 h5 h6
      have e : s = r := by omega
      subst e
      simp only [r_X5_firstFree_5]
      simp only [r_X5_firstFree_0, r_X5_firstFree_1, r_X5_firstFree_2, r_X5_firstFree_3, r_X5_firstFree_7, r_X5_firstFree_8, r_X5_firstFree_9, r_X5_firstFree_12, r_X5_firstFree_13, r_X5_firstFree_14, r_X5_firstFree_15, r_X5_firstFree_18, r_X5_firstFree_19, r_X5_firstFree_22, r_X5_firstFree_24, r_X5_firstFree_25, r_X5_firstFree_26, r_X5_firstFree_29, r_X5_firstFree_30, r_X5_firstFree_31, r_X5_firstFree_32, r_X5_firstFree_33, r_X5_firstFree_36, r_X5_firstFree_39, r_X5_firstFree_41, r_X5_firstFree_42, r_X5_firstFree_43, r_X5_firstFree_44, r_X5_firstFree_47, r_X5_firstFree_50, r_X5_firstFree_51, tl_in hw (show 8 < 2 ^ 31 by omega), tl_cl (show w < 2 ^ 31 by omega), ht, nI_add, true_and, tl_le (show s + t0 < 2 ^ 31 by omega) (show a < 2 ^ 31 by omega)]
      rw [if_pos (by omega)]
    | succ k ih =>
      intro a s h1 h2 h3 h4 h5 h6
      simp only [r_X5_firstFree_5]
      simp only [r_X5_firstFree_0, r_X5_firstFree_1, r_X5_firstFree_2, r_X5_firstFree_3, r_X5_firstFree_7, r_X5_firstFree_8, r_X5_firstFree_9, r_X5_firstFree_12, r_X5_firstFree_13, r_X5_firstFree_14, r_X5_firstFree_15, r_X5_firstFree_18, r_X5_firstFree_19, r_X5_firstFree_22, r_X5_firstFree_24, r_X5_firstFree_25, r_X5_firstFree_26, r_X5_firstFree_29, r_X5_firstFree_30, r_X5_firstFree_31, r_X5_firstFree_32, r_X5_firstFree_33, r_X5_firstFree_36, r_X5_firstFree_39, r_X5_firstFree_41, r_X5_firstFree_42, r_X5_firstFree_43, r_X5_firstFree_44, r_X5_firstFree_47, r_X5_firstFree_50, r_X5_firstFree_51, tl_in hw (show 8 < 2 ^ 31 by omega), tl_cl (show w < 2 ^ 31 by omega), ht, hh, hH, nI_add, true_and, tl_le (show s + t0 < 2 ^ 31 by omega) (show a < 2 ^ 31 by omega)]
      by_cases q : s + t0 ≤ a
      · rw [if_pos q]
        have e : s = r := by
          rcases Nat.lt_or_ge s r with q2 | q2
          · obtain ⟨x, y1, y2, y3⟩ := hleast s h2 q2
            exact absurd (h6 x y1 (by omega)) y3
          · omega
        rw [e]
      · rw [if_neg q]
        have ha : a < 200 := by omega
        obtain ⟨hua, hub⟩ := hu a ha
        simp only [tl_in ha (show 200 < 2 ^ 31 by omega), tl_cl (show a < 2 ^ 31 by omega), true_and, hua, nI_add, tl_le (show u a + h0 < 2 ^ 31 by omega) (show H < 2 ^ 31 by omega), nI_1]
        by_cases q2 : u a + h0 ≤ H
        · rw [if_pos q2]
          apply ih (a + 1) s (by omega) h2 h3 (by omega) (by omega)
          intro x y1 y2
          rcases Nat.lt_or_ge x a with q3 | q3
          · exact h6 x y1 q3
          · rw [show x = a by omega]
            exact q2
        · rw [if_neg q2]
          have hlt : a < r := by
            rcases Nat.lt_or_ge a r with q3 | q3
            · exact q3
            · exact absurd (hgood a q3 (by omega)) q2
          exact ih (a + 1) (a + 1) (by omega) (by omega) (by omega) (by omega) (by omega) (fun x y1 y2 => by omega)
  exact key (r + t0 - f) f f (by omega) (Nat.le_refl f) hfr (Nat.le_refl f) (by omega) (fun x y1 y2 => by omega)
/-- where the needs are up -/
def me (nr nd : Nat → Nat) (cn : Nat → Bool) (b t : Nat → Nat) (w : Nat) : Nat → Nat
  | 0 => 0
  | j + 1 => if nr j = w ∧ cn j = true then max (me nr nd cn b t w j) (b (nd j) + t (nd j)) else me nr nd cn b t w j
theorem me_ge {nr nd : Nat → Nat} {cn : Nat → Bool} {b t : Nat → Nat} {w j : Nat} : ∀ {m : Nat}, j < m → nr j = w → cn j = true → b (nd j) + t (nd j) ≤ me nr nd cn b t w m
  | 0, h, _, _ => absurd h (by omega)
  | m + 1, h, h1, h2 => by
    rw [me]
    rcases Nat.lt_or_ge j m with q | q
    · have := me_ge (b := b) (t := t) (nd := nd) q h1 h2
      split <;> omega
    · have e : j = m := by omega
      subst e
      rw [if_pos ⟨h1, h2⟩]
      omega
theorem me_le {nr nd : Nat → Nat} {cn : Nat → Bool} {b t : Nat → Nat} {w x : Nat} : ∀ {m : Nat}, (∀ j, j < m → nr j = w → cn j = true → b (nd j) + t (nd j) ≤ x) → me nr nd cn b t w m ≤ x
  | 0, _ => Nat.zero_le _
  | m + 1, h => by
    have h1 := me_le (m := m) (fun j hj => h j (by omega))
    have h2 := h m (by omega)
    rw [me]
    split
    · rename_i q
      have := h2 q.1 q.2
      omega
    · exact h1
theorem tl_max {a b : Nat} (ha : a < 2 ^ 31) (hb : b < 2 ^ 31) : (if nI a < nI b then nI b else nI a) = nI (max a b) := by
  simp only [tl_lt ha hb]
  by_cases q : a < b
  · rw [if_pos q, Nat.max_eq_right (by omega)]
  · rw [if_neg q, Nat.max_eq_left (by omega)]
theorem tl_min {a b : Nat} (ha : a < 2 ^ 31) (hb : b < 2 ^ 31) : (if nI b < nI a then nI b else nI a) = nI (min a b) := by
  simp only [tl_lt hb ha]
  by_cases q : b < a
  · rw [if_pos q, Nat.min_eq_right (by omega)]
  · rw [if_neg q, Nat.min_eq_left (by omega)]
theorem c_mearliest {d : Nat} {E : ex_O → ex_S → Prop} {σ : ex_S} {n m w t0 h0 H r : Nat} {nr nd : Nat → Nat} {so cn : Nat → Bool} {b t u : Nat → Nat} {th : Int32} (h : md_at σ n m nr nd so) (hth : σ.1 530 = th) (hcn : ∀ j, md_cn (σ.2.2.1 36) th nr so j = cn j) (hb : ∀ j, j < m → nr j = w → cn j = true → σ.2.2.1 53 (nd j) = nI (b (nd j)) ∧ σ.2.2.1 33 (nd j) = nI (t (nd j)) ∧ b (nd j) + t (nd j) ≤ 1000) (hw : w < 8) (ht : σ.2.2.1 33 w = nI t0) (hh : σ.2.2.1 34 w = nI h0) (hH : σ.1 529 = nI H) (hu : ∀ x, x < 200 → σ.2.2.1 54 x = nI (u x) ∧ u x ≤ 100) (b1 : t0 ≤ 12) (b2 : h0 ≤ 100) (b3 : H ≤ 100) (hfr : me nr nd cn b t w m ≤ r) (hr : r + t0 ≤ 200) (hgood : ∀ x, r ≤ x → x < r + t0 → u x + h0 ≤ H) (hleast : ∀ s, me nr nd cn b t w m ≤ s → s < r → ∃ x, s ≤ x ∧ x < s + t0 ∧ ¬ u x + h0 ≤ H) : ex_C (d + 3) 104 [.ref 5, .int (nI w)] σ E = E (.inl (some (.int (nI r)))) σ := by
  have hm := h.2.1
  have hn := h.1
  simp only [r_X5_earliest, r_X5_earliest_0, r_X5_earliest_1, r_X5_earliest_2, r_X5_earliest_3, r_X5_earliest_5, r_X5_earliest_6, r_X5_earliest_9, r_X5_earliest_12, r_X5_earliest_13, r_X5_earliest_16, r_X5_earliest_17, r_X5_earliest_18, r_X5_earliest_19, r_X5_earliest_22, r_X5_earliest_23, r_X5_earliest_24, r_X5_earliest_25, r_X5_earliest_28, r_X5_earliest_31, r_X5_earliest_34, r_X5_earliest_35, r_X5_earliest_36, r_X5_earliest_39, r_X5_earliest_40, r_X5_earliest_43, r_X5_earliest_44, r_X5_earliest_45, r_X5_earliest_46, r_X5_earliest_47, r_X5_earliest_50, r_X5_earliest_51, r_X5_earliest_54, r_X5_earliest_55, r_X5_earliest_56, r_X5_earliest_57, r_X5_earliest_58, r_X5_earliest_61, r_X5_earliest_62, r_X5_earliest_65, r_X5_earliest_68, r_X5_earliest_69, r_X5_earliest_70, r_X5_earliest_71, r_X5_earliest_74]
  refine (tl_for (A := fun j => ex_r none (d + 2) ex_m_X5_earliest E 4 [.ref 5, .int (nI w), .int (nI (me nr nd cn b t w j)), .int (nI j)] [] σ 0) (n := m) ?_).trans ?_
  · intro j hj R hR
    obtain ⟨h1, h2, h3, h4, h5⟩ := h.2.2.2.2 j hj
    have hme : me nr nd cn b t w j ≤ 1000 := me_le (fun i hi q1 q2 => (hb i (by omega) q1 q2).2.2)
    simp only [r_X5_earliest_4]
    simp only [r_X5_earliest_0, r_X5_earliest_1, r_X5_earliest_2, r_X5_earliest_3, r_X5_earliest_5, r_X5_earliest_6, r_X5_earliest_9, r_X5_earliest_12, r_X5_earliest_13, r_X5_earliest_16, r_X5_earliest_17, r_X5_earliest_18, r_X5_earliest_19, r_X5_earliest_22, r_X5_earliest_23, r_X5_earliest_24, r_X5_earliest_25, r_X5_earliest_28, r_X5_earliest_31, r_X5_earliest_34, r_X5_earliest_35, r_X5_earliest_36, r_X5_earliest_39, r_X5_earliest_40, r_X5_earliest_43, r_X5_earliest_44, r_X5_earliest_45, r_X5_earliest_46, r_X5_earliest_47, r_X5_earliest_50, r_X5_earliest_51, r_X5_earliest_54, r_X5_earliest_55, r_X5_earliest_56, r_X5_earliest_57, r_X5_earliest_58, r_X5_earliest_61, r_X5_earliest_62, r_X5_earliest_65, r_X5_earliest_68, r_X5_earliest_69, r_X5_earliest_70, r_X5_earliest_71, r_X5_earliest_74, h.2.2.2.1, tl_in (show j < 40 by omega) (show 40 < 2 ^ 31 by omega), tl_cl (show j < 2 ^ 31 by omega), true_and, h1, h2, hth, tl_eq (show nr j < 2 ^ 31 by omega) (show w < 2 ^ 31 by omega)]
    rw [if_neg (nI_ge hj (by omega)), c_counts h hj, hcn]
    simp only [Option.toList, List.cons_append, List.nil_append, r_X5_earliest_0, r_X5_earliest_1, r_X5_earliest_2, r_X5_earliest_3, r_X5_earliest_5, r_X5_earliest_6, r_X5_earliest_9, r_X5_earliest_12, r_X5_earliest_13, r_X5_earliest_16, r_X5_earliest_17, r_X5_earliest_18, r_X5_earliest_19, r_X5_earliest_22, r_X5_earliest_23, r_X5_earliest_24, r_X5_earliest_25, r_X5_earliest_28, r_X5_earliest_31, r_X5_earliest_34, r_X5_earliest_35, r_X5_earliest_36, r_X5_earliest_39, r_X5_earliest_40, r_X5_earliest_43, r_X5_earliest_44, r_X5_earliest_45, r_X5_earliest_46, r_X5_earliest_47, r_X5_earliest_50, r_X5_earliest_51, r_X5_earliest_54, r_X5_earliest_55, r_X5_earliest_56, r_X5_earliest_57, r_X5_earliest_58, r_X5_earliest_61, r_X5_earliest_62, r_X5_earliest_65, r_X5_earliest_68, r_X5_earliest_69, r_X5_earliest_70, r_X5_earliest_71, r_X5_earliest_74, tl_in (show j < 40 by omega) (show 40 < 2 ^ 31 by omega), tl_cl (show j < 2 ^ 31 by omega), tl_in (show nd j < 8 by omega) (show 8 < 2 ^ 31 by omega), tl_cl (show nd j < 2 ^ 31 by omega), true_and, h2, nI_1]
    subst hR
    rw [me]
    by_cases q1 : nr j = w
    · by_cases q2 : cn j = true
      · obtain ⟨y1, y2, y3⟩ := hb j hj q1 q2
        rw [if_pos q1, if_neg (by rw [if_pos q2]; decide), y1, y2, nI_add, tl_max (by omega) (by omega), if_pos (show nr j = w ∧ cn j = true from ⟨q1, q2⟩)]
      · rw [if_pos q1, if_pos (by rw [if_neg q2]), if_neg (show ¬ (nr j = w ∧ cn j = true) from fun q => q2 q.2)]
    · rw [if_neg q1, if_neg (show ¬ (nr j = w ∧ cn j = true) from fun q => q1 q.1)]
  · simp only [r_X5_earliest_4]
    simp only [r_X5_earliest_0, r_X5_earliest_1, r_X5_earliest_2, r_X5_earliest_3, r_X5_earliest_5, r_X5_earliest_6, r_X5_earliest_9, r_X5_earliest_12, r_X5_earliest_13, r_X5_earliest_16, r_X5_earliest_17, r_X5_earliest_18, r_X5_earliest_19, r_X5_earliest_22, r_X5_earliest_23, r_X5_earliest_24, r_X5_earliest_25, r_X5_earliest_28, r_X5_earliest_31, r_X5_earliest_34, r_X5_earliest_35, r_X5_earliest_36, r_X5_earliest_39, r_X5_earliest_40, r_X5_earliest_43, r_X5_earliest_44, r_X5_earliest_45, r_X5_earliest_46, r_X5_earliest_47, r_X5_earliest_50, r_X5_earliest_51, r_X5_earliest_54, r_X5_earliest_55, r_X5_earliest_56, r_X5_earliest_57, r_X5_earliest_58, r_X5_earliest_61, r_X5_earliest_62, r_X5_earliest_65, r_X5_earliest_68, r_X5_earliest_69, r_X5_earliest_70, r_X5_earliest_71, r_X5_earliest_74, h.2.2.2.1, Int32.le_refl, if_true]
    rw [c_firstFree hw ht hh hH hu b1 b2 b3 hfr hr hgood hleast]
    simp only [Option.toList, List.cons_append, List.nil_append, r_X5_earliest_0, r_X5_earliest_1, r_X5_earliest_2, r_X5_earliest_3, r_X5_earliest_5, r_X5_earliest_6, r_X5_earliest_9, r_X5_earliest_12, r_X5_earliest_13, r_X5_earliest_16, r_X5_earliest_17, r_X5_earliest_18, r_X5_earliest_19, r_X5_earliest_22, r_X5_earliest_23, r_X5_earliest_24, r_X5_earliest_25, r_X5_earliest_28, r_X5_earliest_31, r_X5_earliest_34, r_X5_earliest_35, r_X5_earliest_36, r_X5_earliest_39, r_X5_earliest_40, r_X5_earliest_43, r_X5_earliest_44, r_X5_earliest_45, r_X5_earliest_46, r_X5_earliest_47, r_X5_earliest_50, r_X5_earliest_51, r_X5_earliest_54, r_X5_earliest_55, r_X5_earliest_56, r_X5_earliest_57, r_X5_earliest_58, r_X5_earliest_61, r_X5_earliest_62, r_X5_earliest_65, r_X5_earliest_68, r_X5_earliest_69, r_X5_earliest_70, r_X5_earliest_71, r_X5_earliest_74]
def mr (nr nd : Nat → Nat) (cn : Nat → Bool) (p w : Nat) : Nat → Bool
  | 0 => true
  | j + 1 => mr nr nd cn p w j && !(decide (nr j = w) && cn j && !p.testBit (nd j))
theorem mr_iff {nr nd : Nat → Nat} {cn : Nat → Bool} {p w : Nat} : ∀ {m : Nat}, mr nr nd cn p w m = true ↔ ∀ j, j < m → nr j = w → cn j = true → p.testBit (nd j) = true
  | 0 => ⟨fun _ j hj => absurd hj (by omega), fun _ => rfl⟩
  | m + 1 => by
    rw [mr, Bool.and_eq_true, mr_iff]
    constructor
    · rintro ⟨h1, h2⟩ j hj q1 q2
      rcases Nat.lt_or_ge j m with q | q
      · exact h1 j q q1 q2
      · have e : j = m := by omega
        subst e
        simpa [q1, q2] using h2
    · intro h1
      refine ⟨fun j hj => h1 j (by omega), ?_⟩
      have h2 := h1 m (by omega)
      by_cases q1 : nr m = w
      · cases q2 : cn m with
        | false => simp
        | true => simp [q1, h2 q1 q2]
      · simp [q1]
theorem c_isReady {d : Nat} {E : ex_O → ex_S → Prop} {σ : ex_S} {n m w p : Nat} {nr nd : Nat → Nat} {so cn : Nat → Bool} {th : Int32} (h : md_at σ n m nr nd so) (hth : σ.1 530 = th) (hcn : ∀ j, md_cn (σ.2.2.1 36) th nr so j = cn j) (hw : w < 8) (hp : p < 2 ^ 31) : ex_C (d + 3) 106 [.ref 5, .int (nI w), .int (nI p)] σ E = E (.inl (some (.int (if mr nr nd cn p w m = true then 1 else 0)))) σ := by
  have hm := h.2.1
  have hn := h.1
  simp only [r_X5_isReady, r_X5_isReady_0, r_X5_isReady_1, r_X5_isReady_2, r_X5_isReady_3, r_X5_isReady_7, r_X5_isReady_8, r_X5_isReady_11, r_X5_isReady_14, r_X5_isReady_15, r_X5_isReady_18, r_X5_isReady_19, r_X5_isReady_22, r_X5_isReady_24, r_X5_isReady_25, r_X5_isReady_26, r_X5_isReady_29, r_X5_isReady_30, r_X5_isReady_32, r_X5_isReady_33, r_X5_isReady_36, r_X5_isReady_39, r_X5_isReady_42, r_X5_isReady_43, r_X5_isReady_44, r_X5_isReady_47, r_X5_isReady_49, r_X5_isReady_50, r_X5_isReady_51, r_X5_isReady_52, r_X5_isReady_53, r_X5_isReady_54, r_X5_isReady_57, r_X5_isReady_58, r_X5_isReady_61, r_X5_isReady_62, r_X5_isReady_63, r_X5_isReady_66, r_X5_isReady_69, r_X5_isReady_70]
  refine (tl_for (A := fun j => ex_r none (d + 2) ex_m_X5_isReady E 5 [.ref 5, .int (nI w), .int (nI p), .int (if mr nr nd cn p w j = true then 1 else 0), .int (nI j)] [] σ 0) (n := m) ?_).trans ?_
  · intro j hj R hR
    obtain ⟨h1, h2, h3, h4, h5⟩ := h.2.2.2.2 j hj
    simp only [r_X5_isReady_5]
    simp only [r_X5_isReady_0, r_X5_isReady_1, r_X5_isReady_2, r_X5_isReady_3, r_X5_isReady_7, r_X5_isReady_8, r_X5_isReady_11, r_X5_isReady_14, r_X5_isReady_15, r_X5_isReady_18, r_X5_isReady_19, r_X5_isReady_22, r_X5_isReady_24, r_X5_isReady_25, r_X5_isReady_26, r_X5_isReady_29, r_X5_isReady_30, r_X5_isReady_32, r_X5_isReady_33, r_X5_isReady_36, r_X5_isReady_39, r_X5_isReady_42, r_X5_isReady_43, r_X5_isReady_44, r_X5_isReady_47, r_X5_isReady_49, r_X5_isReady_50, r_X5_isReady_51, r_X5_isReady_52, r_X5_isReady_53, r_X5_isReady_54, r_X5_isReady_57, r_X5_isReady_58, r_X5_isReady_61, r_X5_isReady_62, r_X5_isReady_63, r_X5_isReady_66, r_X5_isReady_69, r_X5_isReady_70, h.2.2.2.1, tl_in (show j < 40 by omega) (show 40 < 2 ^ 31 by omega), tl_cl (show j < 2 ^ 31 by omega), true_and, h1, h2, hth, tl_eq (show nr j < 2 ^ 31 by omega) (show w < 2 ^ 31 by omega)]
    rw [if_neg (nI_ge hj (by omega)), c_counts h hj, hcn]
    simp only [Option.toList, List.cons_append, List.nil_append, r_X5_isReady_0, r_X5_isReady_1, r_X5_isReady_2, r_X5_isReady_3, r_X5_isReady_7, r_X5_isReady_8, r_X5_isReady_11, r_X5_isReady_14, r_X5_isReady_15, r_X5_isReady_18, r_X5_isReady_19, r_X5_isReady_22, r_X5_isReady_24, r_X5_isReady_25, r_X5_isReady_26, r_X5_isReady_29, r_X5_isReady_30, r_X5_isReady_32, r_X5_isReady_33, r_X5_isReady_36, r_X5_isReady_39, r_X5_isReady_42, r_X5_isReady_43, r_X5_isReady_44, r_X5_isReady_47, r_X5_isReady_49, r_X5_isReady_50, r_X5_isReady_51, r_X5_isReady_52, r_X5_isReady_53, r_X5_isReady_54, r_X5_isReady_57, r_X5_isReady_58, r_X5_isReady_61, r_X5_isReady_62, r_X5_isReady_63, r_X5_isReady_66, r_X5_isReady_69, r_X5_isReady_70, tl_in (show j < 40 by omega) (show 40 < 2 ^ 31 by omega), tl_cl (show j < 2 ^ 31 by omega), true_and, h2, tb1, tb_nI hp (show nd j < 32 by omega), nI_1]
    subst hR
    rw [mr]
    cases q0 : mr nr nd cn p w j <;> by_cases q1 : nr j = w <;> cases q2 : cn j <;> cases q3 : p.testBit (nd j) <;> simp [q1, i10]
  · simp only [r_X5_isReady_5]
    simp only [r_X5_isReady_0, r_X5_isReady_1, r_X5_isReady_2, r_X5_isReady_3, r_X5_isReady_7, r_X5_isReady_8, r_X5_isReady_11, r_X5_isReady_14, r_X5_isReady_15, r_X5_isReady_18, r_X5_isReady_19, r_X5_isReady_22, r_X5_isReady_24, r_X5_isReady_25, r_X5_isReady_26, r_X5_isReady_29, r_X5_isReady_30, r_X5_isReady_32, r_X5_isReady_33, r_X5_isReady_36, r_X5_isReady_39, r_X5_isReady_42, r_X5_isReady_43, r_X5_isReady_44, r_X5_isReady_47, r_X5_isReady_49, r_X5_isReady_50, r_X5_isReady_51, r_X5_isReady_52, r_X5_isReady_53, r_X5_isReady_54, r_X5_isReady_57, r_X5_isReady_58, r_X5_isReady_61, r_X5_isReady_62, r_X5_isReady_63, r_X5_isReady_66, r_X5_isReady_69, r_X5_isReady_70, h.2.2.2.1, Int32.le_refl, if_true, tl_bi, true_and]
theorem c_isBetter0 {d : Nat} {E : ex_O → ex_S → Prop} {σ : ex_S} {a : Int32} (h : σ.1 531 = -1) : ex_C (d + 1) 107 [.ref 5, .int a] σ E = E (.inl (some (.int 1))) σ := by
  simp only [r_X5_isBetter, r_X5_isBetter_0, r_X5_isBetter_1, r_X5_isBetter_4, r_X5_isBetter_7, r_X5_isBetter_8, r_X5_isBetter_9, r_X5_isBetter_12, r_X5_isBetter_15, r_X5_isBetter_16, r_X5_isBetter_19, r_X5_isBetter_22, r_X5_isBetter_23, r_X5_isBetter_24, r_X5_isBetter_27, r_X5_isBetter_30, r_X5_isBetter_31, r_X5_isBetter_34, r_X5_isBetter_35, r_X5_isBetter_36, r_X5_isBetter_37, r_X5_isBetter_39, r_X5_isBetter_40, r_X5_isBetter_43, r_X5_isBetter_46, r_X5_isBetter_47, r_X5_isBetter_50, r_X5_isBetter_51, r_X5_isBetter_52, r_X5_isBetter_53, r_X5_isBetter_56, r_X5_isBetter_57, r_X5_isBetter_58, r_X5_isBetter_61, r_X5_isBetter_62, r_X5_isBetter_65, r_X5_isBetter_66, r_X5_isBetter_67, r_X5_isBetter_68, r_X5_isBetter_71, r_X5_isBetter_72, r_X5_isBetter_73, r_X5_isBetter_76, r_X5_isBetter_77, r_X5_isBetter_80, r_X5_isBetter_81, r_X5_isBetter_82, r_X5_isBetter_85, r_X5_isBetter_88, r_X5_isBetter_89, h, show ((-1 : Int32) < 0) = True from eq_true (by decide), if_true, tl_b1, true_and]
theorem c_isBetter {d : Nat} {E : ex_O → ex_S → Prop} {σ : ex_S} {n a a2 : Nat} {b c : Nat → Nat} (hn : n ≤ 8) (h5 : σ.1 505 = nI n) (h : σ.1 531 = nI a2) (ha : a < 2 ^ 31) (ha2 : a2 < 2 ^ 31) (hb : ∀ k, k < n → σ.2.2.1 53 k = nI (b k) ∧ σ.2.2.1 52 k = nI (c k) ∧ b k < 128 ∧ c k < 128) : ex_C (d + 1) 107 [.ref 5, .int (nI a)] σ E = E (.inl (some (.int (if a * 2 ^ 60 + pl_K n (2 ^ n - 1) b < a2 * 2 ^ 60 + pl_K n (2 ^ n - 1) c then 1 else 0)))) σ := by
  have kb := pl_K_lt56 (p := 2 ^ n - 1) (b := b) hn (fun w hw _ => (hb w hw).2.2.1)
  have kc := pl_K_lt56 (p := 2 ^ n - 1) (b := c) hn (fun w hw _ => (hb w hw).2.2.2)
  simp only [r_X5_isBetter, r_X5_isBetter_0, r_X5_isBetter_1, r_X5_isBetter_4, r_X5_isBetter_7, r_X5_isBetter_8, r_X5_isBetter_9, r_X5_isBetter_12, r_X5_isBetter_15, r_X5_isBetter_16, r_X5_isBetter_19, r_X5_isBetter_22, r_X5_isBetter_23, r_X5_isBetter_24, r_X5_isBetter_27, r_X5_isBetter_30, r_X5_isBetter_31, r_X5_isBetter_34, r_X5_isBetter_35, r_X5_isBetter_36, r_X5_isBetter_37, r_X5_isBetter_39, r_X5_isBetter_40, r_X5_isBetter_43, r_X5_isBetter_46, r_X5_isBetter_47, r_X5_isBetter_50, r_X5_isBetter_51, r_X5_isBetter_52, r_X5_isBetter_53, r_X5_isBetter_56, r_X5_isBetter_57, r_X5_isBetter_58, r_X5_isBetter_61, r_X5_isBetter_62, r_X5_isBetter_65, r_X5_isBetter_66, r_X5_isBetter_67, r_X5_isBetter_68, r_X5_isBetter_71, r_X5_isBetter_72, r_X5_isBetter_73, r_X5_isBetter_76, r_X5_isBetter_77, r_X5_isBetter_80, r_X5_isBetter_81, r_X5_isBetter_82, r_X5_isBetter_85, r_X5_isBetter_88, r_X5_isBetter_89, h, tl_lt0 ha2, tl_eq ha ha2, tl_le ha2 ha, if_false, tl_b0, tl_b1, true_and]
  by_cases q : a = a2
  · subst q
    rw [if_pos rfl]
    have gb : ∀ w, pl_g n (2 ^ n - 1) b w < 128 := pl_g_lt (fun w hw _ => (hb w hw).2.2.1)
    have gc : ∀ w, pl_g n (2 ^ n - 1) c w < 128 := pl_g_lt (fun w hw _ => (hb w hw).2.2.2)
    have ev : ∀ (f : Nat → Nat) k, k < n → pl_g n (2 ^ n - 1) f k = f k := fun f k hk => if_pos ⟨hk, pl_fb hk⟩
    have key : ∀ (r k : Nat), k + r = n → (∀ i, i < k → b i = c i) → ex_r none d ex_m_X5_isBetter E 38 [.ref 5, .int (nI a), .int (nI k)] [] σ 0 = E (.inl (some (.int (if a * 2 ^ 60 + pl_K n (2 ^ n - 1) b < a * 2 ^ 60 + pl_K n (2 ^ n - 1) c then 1 else 0)))) σ := by
      intro r
      induction r with
      | zero =>
        intro k hk he
        have e : k = n := by omega
        subst e
        simp only [r_X5_isBetter_38]
        simp only [r_X5_isBetter_0, r_X5_isBetter_1, r_X5_isBetter_4, r_X5_isBetter_7, r_X5_isBetter_8, r_X5_isBetter_9, r_X5_isBetter_12, r_X5_isBetter_15, r_X5_isBetter_16, r_X5_isBetter_19, r_X5_isBetter_22, r_X5_isBetter_23, r_X5_isBetter_24, r_X5_isBetter_27, r_X5_isBetter_30, r_X5_isBetter_31, r_X5_isBetter_34, r_X5_isBetter_35, r_X5_isBetter_36, r_X5_isBetter_37, r_X5_isBetter_39, r_X5_isBetter_40, r_X5_isBetter_43, r_X5_isBetter_46, r_X5_isBetter_47, r_X5_isBetter_50, r_X5_isBetter_51, r_X5_isBetter_52, r_X5_isBetter_53, r_X5_isBetter_56, r_X5_isBetter_57, r_X5_isBetter_58, r_X5_isBetter_61, r_X5_isBetter_62, r_X5_isBetter_65, r_X5_isBetter_66, r_X5_isBetter_67, r_X5_isBetter_68, r_X5_isBetter_71, r_X5_isBetter_72, r_X5_isBetter_73, r_X5_isBetter_76, r_X5_isBetter_77, r_X5_isBetter_80, r_X5_isBetter_81, r_X5_isBetter_82, r_X5_isBetter_85, r_X5_isBetter_88, r_X5_isBetter_89, h5, Int32.le_refl, if_true, tl_b0, true_and]
        rw [pl_K_congr (b := b) (c := c) (fun w hw _ => he w hw), if_neg (by omega)]
      | succ r ih =>
        intro k hk he
        obtain ⟨y1, y2, y3, y4⟩ := hb k (by omega)
        simp only [r_X5_isBetter_38]
        simp only [r_X5_isBetter_0, r_X5_isBetter_1, r_X5_isBetter_4, r_X5_isBetter_7, r_X5_isBetter_8, r_X5_isBetter_9, r_X5_isBetter_12, r_X5_isBetter_15, r_X5_isBetter_16, r_X5_isBetter_19, r_X5_isBetter_22, r_X5_isBetter_23, r_X5_isBetter_24, r_X5_isBetter_27, r_X5_isBetter_30, r_X5_isBetter_31, r_X5_isBetter_34, r_X5_isBetter_35, r_X5_isBetter_36, r_X5_isBetter_37, r_X5_isBetter_39, r_X5_isBetter_40, r_X5_isBetter_43, r_X5_isBetter_46, r_X5_isBetter_47, r_X5_isBetter_50, r_X5_isBetter_51, r_X5_isBetter_52, r_X5_isBetter_53, r_X5_isBetter_56, r_X5_isBetter_57, r_X5_isBetter_58, r_X5_isBetter_61, r_X5_isBetter_62, r_X5_isBetter_65, r_X5_isBetter_66, r_X5_isBetter_67, r_X5_isBetter_68, r_X5_isBetter_71, r_X5_isBetter_72, r_X5_isBetter_73, r_X5_isBetter_76, r_X5_isBetter_77, r_X5_isBetter_80, r_X5_isBetter_81, r_X5_isBetter_82, r_X5_isBetter_85, r_X5_isBetter_88, r_X5_isBetter_89, h5, tl_in (show k < 8 by omega) (show 8 < 2 ^ 31 by omega), tl_cl (show k < 2 ^ 31 by omega), true_and, y1, y2, tl_eq (show b k < 2 ^ 31 by omega) (show c k < 2 ^ 31 by omega), tl_le (show c k < 2 ^ 31 by omega) (show b k < 2 ^ 31 by omega), tl_b0, tl_b1, nI_1]
        rw [if_neg (nI_ge (show k < n by omega) (by omega))]
        by_cases q : b k = c k
        · rw [if_pos q]
          exact ih (k + 1) (by omega) (fun i hi => by
            rcases Nat.lt_or_ge i k with q3 | q3
            · exact he i q3
            · rw [show i = k by omega]
              exact q)
        · rw [if_neg q]
          have hd : pl_d (pl_g n (2 ^ n - 1) b) k = pl_d (pl_g n (2 ^ n - 1) c) k := pl_d_congr (fun i hi => by rw [ev b i (by omega), ev c i (by omega), he i hi])
          by_cases q2 : c k ≤ b k
          · rw [if_pos q2]
            have h1 : pl_d (pl_g n (2 ^ n - 1) c) (k + 1) < pl_d (pl_g n (2 ^ n - 1) b) (k + 1) := by
              rw [pl_d, pl_d, ev b k (by omega), ev c k (by omega)]
              omega
            have h2 := pl_d_up gc gb h1 (j := 7 - k)
            rw [show k + 1 + (7 - k) = 8 by omega, ← pl_K_d hn, ← pl_K_d hn] at h2
            rw [if_neg (by omega)]
          · rw [if_neg q2]
            have h1 : pl_d (pl_g n (2 ^ n - 1) b) (k + 1) < pl_d (pl_g n (2 ^ n - 1) c) (k + 1) := by
              rw [pl_d, pl_d, ev b k (by omega), ev c k (by omega)]
              omega
            have h2 := pl_d_up gb gc h1 (j := 7 - k)
            rw [show k + 1 + (7 - k) = 8 by omega, ← pl_K_d hn, ← pl_K_d hn] at h2
            rw [if_pos (by omega)]
    exact key n 0 (by omega) (fun i hi => absurd hi (by omega))
  · rw [if_neg q]
    by_cases q2 : a2 ≤ a
    · rw [if_pos q2, if_neg (by omega)]
    · rw [if_neg q2, if_pos (by omega)]
end MP
