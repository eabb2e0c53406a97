/-! ===== the night of the class: ticks and blows ===== -/
section NP
def nk (σ : ex_S) (c a u b : Int32) (g : Nat → Int32) : ex_S := (fun j => if j = 4 then c else if j = 5 then a else if j = 6 then u else if j = 7 then b else σ.1 j, σ.2.1, fun k => if k = 6 then g else σ.2.2.1 k, σ.2.2.2)
theorem nk_self (σ : ex_S) : nk σ (σ.1 4) (σ.1 5) (σ.1 6) (σ.1 7) (σ.2.2.1 6) = σ := by
  unfold nk
  refine Prod.ext ?_ (Prod.ext rfl (Prod.ext ?_ rfl))
  · funext j
    show (if j = 4 then σ.1 4 else if j = 5 then σ.1 5 else if j = 6 then σ.1 6 else if j = 7 then σ.1 7 else σ.1 j) = σ.1 j
    by_cases h1 : j = 4
    · rw [if_pos h1, h1]
    · rw [if_neg h1]
      by_cases h2 : j = 5
      · rw [if_pos h2, h2]
      · rw [if_neg h2]
        by_cases h3 : j = 6
        · rw [if_pos h3, h3]
        · rw [if_neg h3]
          by_cases h4 : j = 7
          · rw [if_pos h4, h4]
          · rw [if_neg h4]
  · funext j
    show (if j = 6 then σ.2.2.1 6 else σ.2.2.1 j) = σ.2.2.1 j
    by_cases h1 : j = 6
    · rw [if_pos h1, h1]
    · rw [if_neg h1]
theorem nk_4 (σ : ex_S) (c a u b : Int32) (g : Nat → Int32) (v : Int32) : ex_sF (nk σ c a u b g) 4 v = nk σ v a u b g := by
  refine Prod.ext ?_ rfl
  funext j
  show (if j = 4 then v else if j = 4 then c else if j = 5 then a else if j = 6 then u else if j = 7 then b else σ.1 j) = (if j = 4 then v else if j = 5 then a else if j = 6 then u else if j = 7 then b else σ.1 j)
  by_cases h1 : j = 4 <;> simp [h1]
theorem nk_5 (σ : ex_S) (c a u b : Int32) (g : Nat → Int32) (v : Int32) : ex_sF (nk σ c a u b g) 5 v = nk σ c v u b g := by
  refine Prod.ext ?_ rfl
  funext j
  show (if j = 5 then v else if j = 4 then c else if j = 5 then a else if j = 6 then u else if j = 7 then b else σ.1 j) = (if j = 4 then c else if j = 5 then v else if j = 6 then u else if j = 7 then b else σ.1 j)
  by_cases h1 : j = 5 <;> simp [h1]
theorem nk_6 (σ : ex_S) (c a u b : Int32) (g : Nat → Int32) (v : Int32) : ex_sF (nk σ c a u b g) 6 v = nk σ c a v b g := by
  refine Prod.ext ?_ rfl
  funext j
  show (if j = 6 then v else if j = 4 then c else if j = 5 then a else if j = 6 then u else if j = 7 then b else σ.1 j) = (if j = 4 then c else if j = 5 then a else if j = 6 then v else if j = 7 then b else σ.1 j)
  by_cases h1 : j = 6 <;> simp [h1]
theorem nk_7 (σ : ex_S) (c a u b : Int32) (g : Nat → Int32) (v : Int32) : ex_sF (nk σ c a u b g) 7 v = nk σ c a u v g := by
  refine Prod.ext ?_ rfl
  funext j
  show (if j = 7 then v else if j = 4 then c else if j = 5 then a else if j = 6 then u else if j = 7 then b else σ.1 j) = (if j = 4 then c else if j = 5 then a else if j = 6 then u else if j = 7 then v else σ.1 j)
  by_cases h1 : j = 7 <;> simp [h1]
theorem nk_r (σ : ex_S) (c a u b : Int32) (g f : Nat → Int32) : ex_row (nk σ c a u b g) 6 f = nk σ c a u b f := by
  refine Prod.ext rfl (Prod.ext rfl (Prod.ext ?_ rfl))
  funext k
  show (if k = 6 then f else if k = 6 then g else σ.2.2.1 k) = (if k = 6 then f else σ.2.2.1 k)
  by_cases h1 : k = 6 <;> simp [h1]
theorem nk_a (σ : ex_S) (c a u b : Int32) (g : Nat → Int32) (i : Nat) (v : Int32) : ex_sA (nk σ c a u b g) 6 i v = nk σ c a u b (upd g i v) := by
  rw [s_a, nk_r]
  rfl
theorem nk_1 (σ : ex_S) (c a u b : Int32) (g : Nat → Int32) (j : Nat) : (nk σ c a u b g).1 j = if j = 4 then c else if j = 5 then a else if j = 6 then u else if j = 7 then b else σ.1 j := rfl
theorem nk_3 (σ : ex_S) (c a u b : Int32) (g : Nat → Int32) (k : Nat) : (nk σ c a u b g).2.2.1 k = if k = 6 then g else σ.2.2.1 k := rfl
/-- one tick -/
def tk_s (n : Nat) (st : Nat → Nat) (g : Nat → Int32) (k : Nat) : Nat := if k < n ∧ st k = 1 ∧ g k - 1 = 0 then 2 else st k
def tk_g (n : Nat) (st : Nat → Nat) (g : Nat → Int32) (k : Nat) : Int32 := if k < n ∧ st k = 1 then g k - 1 else g k
def tk_a (wt : Nat → Int32) (st : Nat → Nat) (a : Int32) : Nat → Int32
  | 0 => a
  | k + 1 => if st k = 2 then tk_a wt st a k else tk_a wt st a k + wt k
theorem tk_a_congr {wt wu : Nat → Int32} {st : Nat → Nat} {a : Int32} : ∀ {n : Nat}, (∀ k, k < n → wt k = wu k) → tk_a wt st a n = tk_a wu st a n
  | 0, _ => rfl
  | n + 1, h => by rw [tk_a, tk_a, tk_a_congr (fun k hk => h k (by omega)), h n (by omega)]
def isA (v : Nat) (st : Nat → Nat) (k : Nat) : Bool := decide (st k = v)
theorem c_passOne {d : Nat} {E : ex_O → ex_S → Prop} {σ : ex_S} {n : Nat} {c a : Int32} {st : Nat → Nat} {g : Nat → Int32} (hn : n ≤ 8) (h : σ.1 306 = nI n) : ex_C (d + 1) 5 [.ref 0] (nk σ c a (nI (mk n (isA 2 st))) (nI (mk n (isA 1 st))) g) E = E (.inl none) (nk σ (c + 1) (tk_a (σ.2.2.1 29) st a n) (nI (mk n (isA 2 (tk_s n st g)))) (nI (mk n (isA 1 (tk_s n st g)))) (tk_g n st g)) := by
  have hp := tl_p8 hn
  simp only [r_X0_passOne, r_X0_passOne_0, r_X0_passOne_1, r_X0_passOne_2, r_X0_passOne_5, r_X0_passOne_6, r_X0_passOne_7, r_X0_passOne_10, r_X0_passOne_11, r_X0_passOne_13, r_X0_passOne_14, r_X0_passOne_17, r_X0_passOne_20, r_X0_passOne_23, r_X0_passOne_24, r_X0_passOne_25, r_X0_passOne_26, r_X0_passOne_27, r_X0_passOne_28, r_X0_passOne_31, r_X0_passOne_32, r_X0_passOne_33, r_X0_passOne_36, r_X0_passOne_37, r_X0_passOne_38, r_X0_passOne_41, r_X0_passOne_42, r_X0_passOne_45, r_X0_passOne_48, r_X0_passOne_49, r_X0_passOne_50, r_X0_passOne_51, r_X0_passOne_54, r_X0_passOne_55, r_X0_passOne_58, r_X0_passOne_59, r_X0_passOne_60, r_X0_passOne_63, r_X0_passOne_64, r_X0_passOne_67, r_X0_passOne_68, r_X0_passOne_69, r_X0_passOne_70, r_X0_passOne_71, r_X0_passOne_72, r_X0_passOne_73, r_X0_passOne_74, r_X0_passOne_77, r_X0_passOne_78, r_X0_passOne_79, r_X0_passOne_82, r_X0_passOne_83, r_X0_passOne_84, r_X0_passOne_87, r_X0_passOne_88, r_X0_passOne_89, r_X0_passOne_90, r_X0_passOne_91, r_X0_passOne_94, r_X0_passOne_95, r_X0_passOne_96, r_X0_passOne_99, r_X0_passOne_100, r_X0_passOne_101, r_X0_passOne_104, r_X0_passOne_107, r_X0_passOne_110, nk_1, Nat.reduceEqDiff, if_true, nk_4]
  have l := tl_forz (A := fun (i : Nat) (z : Value) => ex_r none d ex_m_X0_passOne E 12 [.ref 0, .int (nI i), z] [] (nk σ (c + 1) (tk_a (σ.2.2.1 29) st a i) (nI (mk n (isA 2 (tk_s i st g)))) (nI (mk n (isA 1 (tk_s i st g)))) (tk_g i st g)) 0) (n := n) (Z := E (.inl none) (nk σ (c + 1) (tk_a (σ.2.2.1 29) st a n) (nI (mk n (isA 2 (tk_s n st g)))) (nI (mk n (isA 1 (tk_s n st g)))) (tk_g n st g))) ?_ ?_ (.retAddr 0)
  · have e1 : tk_s 0 st g = st := by funext k; simp [tk_s]
    have e2 : tk_g 0 st g = g := by funext k; simp [tk_g]
    rw [e1, e2] at l
    exact l
  · intro i hi z R hR
    have hR := hR (.int (nI (2 ^ i)))
    have e0 : tk_s i st g i = st i := by simp [tk_s]
    have e1 : tk_g i st g i = g i := by simp [tk_g]
    have l1 : mk n (isA 2 (tk_s i st g)) < 2 ^ n := mk_lt
    have l2 : mk n (isA 1 (tk_s i st g)) < 2 ^ n := mk_lt
    have l3 := Nat.and_lt_two_pow (mk n (isA 2 (tk_s i st g))) (show 2 ^ i < 2 ^ n from Nat.pow_lt_pow_right (by decide) hi)
    have l4 := Nat.and_lt_two_pow (mk n (isA 1 (tk_s i st g))) (show 2 ^ i < 2 ^ n from Nat.pow_lt_pow_right (by decide) hi)
    have ns : ∀ k, k ≠ i → tk_s (i + 1) st g k = tk_s i st g k := by
      intro k hk
      unfold tk_s
      have : (k < i + 1 ∧ st k = 1 ∧ g k - 1 = 0) = (k < i ∧ st k = 1 ∧ g k - 1 = 0) := by
        apply propext
        constructor
        · rintro ⟨h1, h2⟩; exact ⟨by omega, h2⟩
        · rintro ⟨h1, h2⟩; exact ⟨by omega, h2⟩
      simp only [this]
    have ng : ∀ k, k ≠ i → tk_g (i + 1) st g k = tk_g i st g k := by
      intro k hk
      unfold tk_g
      have : (k < i + 1 ∧ st k = 1) = (k < i ∧ st k = 1) := by
        apply propext
        constructor
        · rintro ⟨h1, h2⟩; exact ⟨by omega, h2⟩
        · rintro ⟨h1, h2⟩; exact ⟨by omega, h2⟩
      simp only [this]
    simp only [r_X0_passOne_12]
    simp only [r_X0_passOne_0, r_X0_passOne_1, r_X0_passOne_2, r_X0_passOne_5, r_X0_passOne_6, r_X0_passOne_7, r_X0_passOne_10, r_X0_passOne_11, r_X0_passOne_13, r_X0_passOne_14, r_X0_passOne_17, r_X0_passOne_20, r_X0_passOne_23, r_X0_passOne_24, r_X0_passOne_25, r_X0_passOne_26, r_X0_passOne_27, r_X0_passOne_28, r_X0_passOne_31, r_X0_passOne_32, r_X0_passOne_33, r_X0_passOne_36, r_X0_passOne_37, r_X0_passOne_38, r_X0_passOne_41, r_X0_passOne_42, r_X0_passOne_45, r_X0_passOne_48, r_X0_passOne_49, r_X0_passOne_50, r_X0_passOne_51, r_X0_passOne_54, r_X0_passOne_55, r_X0_passOne_58, r_X0_passOne_59, r_X0_passOne_60, r_X0_passOne_63, r_X0_passOne_64, r_X0_passOne_67, r_X0_passOne_68, r_X0_passOne_69, r_X0_passOne_70, r_X0_passOne_71, r_X0_passOne_72, r_X0_passOne_73, r_X0_passOne_74, r_X0_passOne_77, r_X0_passOne_78, r_X0_passOne_79, r_X0_passOne_82, r_X0_passOne_83, r_X0_passOne_84, r_X0_passOne_87, r_X0_passOne_88, r_X0_passOne_89, r_X0_passOne_90, r_X0_passOne_91, r_X0_passOne_94, r_X0_passOne_95, r_X0_passOne_96, r_X0_passOne_99, r_X0_passOne_100, r_X0_passOne_101, r_X0_passOne_104, r_X0_passOne_107, r_X0_passOne_110, nk_1, nk_3, nk_5, nk_6, nk_7, nk_a, h, Nat.reduceEqDiff, if_false, if_true, tl_shl i (by omega), tl_and, tl_or, tl_andnot, tl_in (show i < 8 by omega) (show 8 < 2 ^ 31 by omega), tl_cl (show i < 2 ^ 31 by omega), true_and, nI_1, tl_eq0 (show mk n (isA 2 (tk_s i st g)) &&& 2 ^ i < 2 ^ 31 by omega), tl_eq0 (show mk n (isA 1 (tk_s i st g)) &&& 2 ^ i < 2 ^ 31 by omega), tl_and2, mk_at hi, s_u]
    rw [if_neg (nI_ge hi (by omega))]
    simp only [isA, e0, e1, decide_eq_false_iff_not] at hR ⊢
    rw [tk_a] at hR
    by_cases q1 : st i = 1
    · by_cases q2 : g i - 1 = 0
      · have e2 : mk n (isA 2 (tk_s i st g)) ||| 2 ^ i = mk n (isA 2 (tk_s (i + 1) st g)) := by
          rw [mk_one hi, mk_or]
          apply mk_ext
          intro k hk
          unfold isA
          by_cases q3 : k = i
          · subst q3
            simp [tk_s, q1, q2]
          · rw [ns k q3]
            simp [q3]
        have e3 : tl_df (mk n (isA 1 (tk_s i st g))) (2 ^ i) = mk n (isA 1 (tk_s (i + 1) st g)) := by
          rw [mk_one hi, mk_df]
          apply mk_ext
          intro k hk
          unfold isA
          by_cases q3 : k = i
          · subst q3
            simp [tk_s, q1, q2]
          · rw [ns k q3]
            simp [q3]
        have e4 : upd (tk_g i st g) i (g i - 1) = tk_g (i + 1) st g := by
          funext k
          rw [s_u]
          by_cases q3 : k = i
          · subst q3
            simp [tk_g, q1]
          · rw [if_neg q3, ng k q3]
        simp only [q1, q2, e2, e3, e4, Nat.reduceEqDiff, not_true_eq_false, not_false_eq_true, if_true, if_false] at hR ⊢
        rw [← e4, q2] at hR
        exact hR
      · have e2 : mk n (isA 2 (tk_s i st g)) = mk n (isA 2 (tk_s (i + 1) st g)) := by
          apply mk_ext
          intro k hk
          unfold isA
          by_cases q3 : k = i
          · subst q3
            simp [tk_s, q2]
          · rw [ns k q3]
        have e3 : mk n (isA 1 (tk_s i st g)) = mk n (isA 1 (tk_s (i + 1) st g)) := by
          apply mk_ext
          intro k hk
          unfold isA
          by_cases q3 : k = i
          · subst q3
            simp [tk_s, q2]
          · rw [ns k q3]
        have e4 : upd (tk_g i st g) i (g i - 1) = tk_g (i + 1) st g := by
          funext k
          rw [s_u]
          by_cases q3 : k = i
          · subst q3
            simp [tk_g, q1]
          · rw [if_neg q3, ng k q3]
        simp only [q1, q2, e2, e3, e4, Nat.reduceEqDiff, not_true_eq_false, not_false_eq_true, if_true, if_false] at hR ⊢
        exact hR
    · have e2 : mk n (isA 2 (tk_s i st g)) = mk n (isA 2 (tk_s (i + 1) st g)) := by
        apply mk_ext
        intro k hk
        unfold isA
        by_cases q3 : k = i
        · subst q3
          simp [tk_s, q1]
        · rw [ns k q3]
      have e3 : mk n (isA 1 (tk_s i st g)) = mk n (isA 1 (tk_s (i + 1) st g)) := by
        apply mk_ext
        intro k hk
        unfold isA
        by_cases q3 : k = i
        · subst q3
          simp [tk_s, q1]
        · rw [ns k q3]
      have e4 : tk_g i st g = tk_g (i + 1) st g := by
        funext k
        by_cases q3 : k = i
        · subst q3
          simp [tk_g, q1]
        · rw [ng k q3]
      by_cases q4 : st i = 2
      · simp only [q4, e2, e3, e4, Nat.reduceEqDiff, not_true_eq_false, not_false_eq_true, if_true, if_false] at hR ⊢
        exact hR
      · simp only [q1, q4, e2, e3, e4, Nat.reduceEqDiff, not_true_eq_false, not_false_eq_true, if_true, if_false] at hR ⊢
        exact hR
  · intro z
    simp only [r_X0_passOne_12]
    simp only [r_X0_passOne_0, r_X0_passOne_1, r_X0_passOne_2, r_X0_passOne_5, r_X0_passOne_6, r_X0_passOne_7, r_X0_passOne_10, r_X0_passOne_11, r_X0_passOne_13, r_X0_passOne_14, r_X0_passOne_17, r_X0_passOne_20, r_X0_passOne_23, r_X0_passOne_24, r_X0_passOne_25, r_X0_passOne_26, r_X0_passOne_27, r_X0_passOne_28, r_X0_passOne_31, r_X0_passOne_32, r_X0_passOne_33, r_X0_passOne_36, r_X0_passOne_37, r_X0_passOne_38, r_X0_passOne_41, r_X0_passOne_42, r_X0_passOne_45, r_X0_passOne_48, r_X0_passOne_49, r_X0_passOne_50, r_X0_passOne_51, r_X0_passOne_54, r_X0_passOne_55, r_X0_passOne_58, r_X0_passOne_59, r_X0_passOne_60, r_X0_passOne_63, r_X0_passOne_64, r_X0_passOne_67, r_X0_passOne_68, r_X0_passOne_69, r_X0_passOne_70, r_X0_passOne_71, r_X0_passOne_72, r_X0_passOne_73, r_X0_passOne_74, r_X0_passOne_77, r_X0_passOne_78, r_X0_passOne_79, r_X0_passOne_82, r_X0_passOne_83, r_X0_passOne_84, r_X0_passOne_87, r_X0_passOne_88, r_X0_passOne_89, r_X0_passOne_90, r_X0_passOne_91, r_X0_passOne_94, r_X0_passOne_95, r_X0_passOne_96, r_X0_passOne_99, r_X0_passOne_100, r_X0_passOne_101, r_X0_passOne_104, r_X0_passOne_107, r_X0_passOne_110, nk_1, h, Nat.reduceEqDiff, if_false, Int32.le_refl, if_true]
end NP
