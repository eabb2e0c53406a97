/-! ===== Stores: what a copy gives, and how the states are chosen ===== -/
section SO
def mxI (x y : Int32) : Int32 := if x < y then y else x
def mnI (x y : Int32) : Int32 := if y < x then y else x
/-- the greatest state up to lim of so many copies -/
def gu (ag lo tn : Nat → Int32) (lim : Int32) (s : Nat) : Nat → Int32
  | 0 => -1
  | k + 1 => if tn (4 * s + k) = 0 ∧ ¬ lim < ag (4 * s + k) then mxI (gu ag lo tn lim s k) (mnI (lo (4 * s + k)) lim) else gu ag lo tn lim s k
theorem tl_ix4 (a b : Nat) : nI a * (4 : Int32) + nI b = nI (4 * a + b) := by
  rw [show (4 : Int32) = nI 4 from rfl, pk_mul, nI_add, Nat.mul_comm]
theorem tl_ix4' (a : Nat) : (4 : Int32) * nI a = nI (4 * a) := by
  rw [show (4 : Int32) = nI 4 from rfl, pk_mul]
theorem c_greatestUpTo {d : Nat} {E : ex_O → ex_S → Prop} {σ : ex_S} {k c : Nat} {lim : Int32} (hk : k < 6) (hc : c ≤ 4) (h : σ.2.2.1 16 k = nI c) : ex_C (d + 1) 29 [.ref 2, .int (nI k), .int lim] σ E = E (.inl (some (.int (gu (σ.2.2.1 17) (σ.2.2.1 18) (σ.2.2.1 19) lim k c)))) σ := by
  simp only [r_X2_greatestUpTo, r_X2_greatestUpTo_0, r_X2_greatestUpTo_1, r_X2_greatestUpTo_2, r_X2_greatestUpTo_3, r_X2_greatestUpTo_7, r_X2_greatestUpTo_8, r_X2_greatestUpTo_11, r_X2_greatestUpTo_12, r_X2_greatestUpTo_13, r_X2_greatestUpTo_16, r_X2_greatestUpTo_17, r_X2_greatestUpTo_18, r_X2_greatestUpTo_19, r_X2_greatestUpTo_21, r_X2_greatestUpTo_22, r_X2_greatestUpTo_24, r_X2_greatestUpTo_25, r_X2_greatestUpTo_28, r_X2_greatestUpTo_30, r_X2_greatestUpTo_31, r_X2_greatestUpTo_34, r_X2_greatestUpTo_35, r_X2_greatestUpTo_38, r_X2_greatestUpTo_40, r_X2_greatestUpTo_41, r_X2_greatestUpTo_42, r_X2_greatestUpTo_45, r_X2_greatestUpTo_46, r_X2_greatestUpTo_47, r_X2_greatestUpTo_50, r_X2_greatestUpTo_52, r_X2_greatestUpTo_53, r_X2_greatestUpTo_54, r_X2_greatestUpTo_57, r_X2_greatestUpTo_60, r_X2_greatestUpTo_61, r_X2_greatestUpTo_64, r_X2_greatestUpTo_67, r_X2_greatestUpTo_68]
  refine tl_forz (A := fun (i : Nat) (z : Value) => ex_r none d ex_m_X2_greatestUpTo E 5 [.ref 2, .int (nI k), .int lim, .int (gu (σ.2.2.1 17) (σ.2.2.1 18) (σ.2.2.1 19) lim k i), .int (nI i), z] [] σ 0) (n := c) ?_ ?_ (.retAddr 0)
  · intro i hi z R hR
    have hR := hR (.int (nI (4 * k + i)))
    simp only [r_X2_greatestUpTo_5]
    simp only [r_X2_greatestUpTo_0, r_X2_greatestUpTo_1, r_X2_greatestUpTo_2, r_X2_greatestUpTo_3, r_X2_greatestUpTo_7, r_X2_greatestUpTo_8, r_X2_greatestUpTo_11, r_X2_greatestUpTo_12, r_X2_greatestUpTo_13, r_X2_greatestUpTo_16, r_X2_greatestUpTo_17, r_X2_greatestUpTo_18, r_X2_greatestUpTo_19, r_X2_greatestUpTo_21, r_X2_greatestUpTo_22, r_X2_greatestUpTo_24, r_X2_greatestUpTo_25, r_X2_greatestUpTo_28, r_X2_greatestUpTo_30, r_X2_greatestUpTo_31, r_X2_greatestUpTo_34, r_X2_greatestUpTo_35, r_X2_greatestUpTo_38, r_X2_greatestUpTo_40, r_X2_greatestUpTo_41, r_X2_greatestUpTo_42, r_X2_greatestUpTo_45, r_X2_greatestUpTo_46, r_X2_greatestUpTo_47, r_X2_greatestUpTo_50, r_X2_greatestUpTo_52, r_X2_greatestUpTo_53, r_X2_greatestUpTo_54, r_X2_greatestUpTo_57, r_X2_greatestUpTo_60, r_X2_greatestUpTo_61, r_X2_greatestUpTo_64, r_X2_greatestUpTo_67, r_X2_greatestUpTo_68, tl_in hk (show 6 < 2 ^ 31 by omega), tl_cl (show k < 2 ^ 31 by omega), true_and, h, tl_ix4, tl_in (show 4 * k + i < 24 by omega) (show 24 < 2 ^ 31 by omega), tl_cl (show 4 * k + i < 2 ^ 31 by omega), nI_1]
    rw [if_neg (nI_ge hi (by omega))]
    rw [gu] at hR
    unfold mxI mnI at hR
    by_cases q1 : σ.2.2.1 19 (4 * k + i) = 0
    · by_cases q2 : lim < σ.2.2.1 17 (4 * k + i)
      · rw [if_pos q1, if_pos q2]
        rw [if_neg (fun q3 => q3.2 q2)] at hR
        exact hR
      · rw [if_pos q1, if_neg q2]
        rw [if_pos ⟨q1, q2⟩] at hR
        exact hR
    · rw [if_neg q1]
      rw [if_neg (fun q3 => q1 q3.1)] at hR
      exact hR
  · intro z
    simp only [r_X2_greatestUpTo_5]
    simp only [r_X2_greatestUpTo_0, r_X2_greatestUpTo_1, r_X2_greatestUpTo_2, r_X2_greatestUpTo_3, r_X2_greatestUpTo_7, r_X2_greatestUpTo_8, r_X2_greatestUpTo_11, r_X2_greatestUpTo_12, r_X2_greatestUpTo_13, r_X2_greatestUpTo_16, r_X2_greatestUpTo_17, r_X2_greatestUpTo_18, r_X2_greatestUpTo_19, r_X2_greatestUpTo_21, r_X2_greatestUpTo_22, r_X2_greatestUpTo_24, r_X2_greatestUpTo_25, r_X2_greatestUpTo_28, r_X2_greatestUpTo_30, r_X2_greatestUpTo_31, r_X2_greatestUpTo_34, r_X2_greatestUpTo_35, r_X2_greatestUpTo_38, r_X2_greatestUpTo_40, r_X2_greatestUpTo_41, r_X2_greatestUpTo_42, r_X2_greatestUpTo_45, r_X2_greatestUpTo_46, r_X2_greatestUpTo_47, r_X2_greatestUpTo_50, r_X2_greatestUpTo_52, r_X2_greatestUpTo_53, r_X2_greatestUpTo_54, r_X2_greatestUpTo_57, r_X2_greatestUpTo_60, r_X2_greatestUpTo_61, r_X2_greatestUpTo_64, r_X2_greatestUpTo_67, r_X2_greatestUpTo_68, tl_in hk (show 6 < 2 ^ 31 by omega), tl_cl (show k < 2 ^ 31 by omega), true_and, h, Int32.le_refl, if_true]
theorem c_upTo {d : Nat} {E : ex_O → ex_S → Prop} {σ : ex_S} {k c : Nat} {lim : Int32} (hk : k < 6) (hc : c ≤ 4) (h : σ.2.2.1 44 k = nI c) : ex_C (d + 1) 99 [.ref 5, .int (nI k), .int lim] σ E = E (.inl (some (.int (gu (σ.2.2.1 41) (σ.2.2.1 42) (σ.2.2.1 43) lim k c)))) σ := by
  simp only [r_X5_upTo, r_X5_upTo_0, r_X5_upTo_1, r_X5_upTo_2, r_X5_upTo_3, r_X5_upTo_4, r_X5_upTo_5, r_X5_upTo_9, r_X5_upTo_10, r_X5_upTo_11, r_X5_upTo_12, r_X5_upTo_13, r_X5_upTo_16, r_X5_upTo_17, r_X5_upTo_18, r_X5_upTo_19, r_X5_upTo_22, r_X5_upTo_23, r_X5_upTo_26, r_X5_upTo_28, r_X5_upTo_29, r_X5_upTo_32, r_X5_upTo_33, r_X5_upTo_36, r_X5_upTo_38, r_X5_upTo_39, r_X5_upTo_40, r_X5_upTo_43, r_X5_upTo_44, r_X5_upTo_45, r_X5_upTo_48, r_X5_upTo_50, r_X5_upTo_51, r_X5_upTo_52, r_X5_upTo_55, r_X5_upTo_58, r_X5_upTo_59, r_X5_upTo_62, r_X5_upTo_65, r_X5_upTo_66, tl_ix4']
  refine (tl_for (A := fun i => ex_r none d ex_m_X5_upTo E 7 [.ref 5, .int (nI k), .int lim, .int (gu (σ.2.2.1 41) (σ.2.2.1 42) (σ.2.2.1 43) lim k i), .int (nI (4 * k + i))] [] σ 0) (n := c) ?_).trans ?_
  · intro i hi R hR
    simp only [r_X5_upTo_7]
    simp only [r_X5_upTo_0, r_X5_upTo_1, r_X5_upTo_2, r_X5_upTo_3, r_X5_upTo_4, r_X5_upTo_5, r_X5_upTo_9, r_X5_upTo_10, r_X5_upTo_11, r_X5_upTo_12, r_X5_upTo_13, r_X5_upTo_16, r_X5_upTo_17, r_X5_upTo_18, r_X5_upTo_19, r_X5_upTo_22, r_X5_upTo_23, r_X5_upTo_26, r_X5_upTo_28, r_X5_upTo_29, r_X5_upTo_32, r_X5_upTo_33, r_X5_upTo_36, r_X5_upTo_38, r_X5_upTo_39, r_X5_upTo_40, r_X5_upTo_43, r_X5_upTo_44, r_X5_upTo_45, r_X5_upTo_48, r_X5_upTo_50, r_X5_upTo_51, r_X5_upTo_52, r_X5_upTo_55, r_X5_upTo_58, r_X5_upTo_59, r_X5_upTo_62, r_X5_upTo_65, r_X5_upTo_66, tl_in hk (show 6 < 2 ^ 31 by omega), tl_cl (show k < 2 ^ 31 by omega), true_and, h, tl_ix4', nI_add, tl_in (show 4 * k + i < 24 by omega) (show 24 < 2 ^ 31 by omega), tl_cl (show 4 * k + i < 2 ^ 31 by omega), nI_1]
    rw [if_neg (nI_ge (show 4 * k + i < 4 * k + c by omega) (by omega))]
    rw [gu] at hR
    unfold mxI mnI at hR
    by_cases q1 : σ.2.2.1 43 (4 * k + i) = 0
    · by_cases q2 : lim < σ.2.2.1 41 (4 * k + i)
      · rw [if_pos q1, if_pos q2]
        rw [if_neg (fun q3 => q3.2 q2)] at hR
        exact hR
      · rw [if_pos q1, if_neg q2]
        rw [if_pos ⟨q1, q2⟩] at hR
        exact hR
    · rw [if_neg q1]
      rw [if_neg (fun q3 => q1 q3.1)] at hR
      exact hR
  · simp only [r_X5_upTo_7]
    simp only [r_X5_upTo_0, r_X5_upTo_1, r_X5_upTo_2, r_X5_upTo_3, r_X5_upTo_4, r_X5_upTo_5, r_X5_upTo_9, r_X5_upTo_10, r_X5_upTo_11, r_X5_upTo_12, r_X5_upTo_13, r_X5_upTo_16, r_X5_upTo_17, r_X5_upTo_18, r_X5_upTo_19, r_X5_upTo_22, r_X5_upTo_23, r_X5_upTo_26, r_X5_upTo_28, r_X5_upTo_29, r_X5_upTo_32, r_X5_upTo_33, r_X5_upTo_36, r_X5_upTo_38, r_X5_upTo_39, r_X5_upTo_40, r_X5_upTo_43, r_X5_upTo_44, r_X5_upTo_45, r_X5_upTo_48, r_X5_upTo_50, r_X5_upTo_51, r_X5_upTo_52, r_X5_upTo_55, r_X5_upTo_58, r_X5_upTo_59, r_X5_upTo_62, r_X5_upTo_65, r_X5_upTo_66, tl_in hk (show 6 < 2 ^ 31 by omega), tl_cl (show k < 2 ^ 31 by omega), true_and, h, tl_ix4', nI_add, Int32.le_refl, if_true]
/-! choosing -/
def ch0 (G : Nat → Int32 → Int32) : Nat → Nat → (Nat → Int32) → Bool × (Nat → Int32)
  | 0, _, v => (true, v)
  | r + 1, k, v => if G k 100000 = -1 then (false, upd v k (G k 100000)) else ch0 G r (k + 1) (upd v k (G k 100000))
def chC (gt st : Nat → Int32) (fr to : Nat → Nat) (v : Nat → Int32) (j : Nat) : Bool := !decide (v (to j) < gt j) && decide (v (fr j) < st j)
def ch1 (G : Nat → Int32 → Int32) (gt st : Nat → Int32) (fr to : Nat → Nat) : Nat → Nat → (Nat → Int32) → Bool → Option Bool × (Nat → Int32)
  | 0, _, v, f => (some f, v)
  | r + 1, j, v, f => if chC gt st fr to v j = true then (if G (to j) (gt j - 1) = -1 then (none, upd v (to j) (G (to j) (gt j - 1))) else ch1 G gt st fr to r (j + 1) (upd v (to j) (G (to j) (gt j - 1))) true) else ch1 G gt st fr to r (j + 1) v f
def ch2 (G : Nat → Int32 → Int32) (gt st : Nat → Int32) (fr to : Nat → Nat) (l : Nat) : Nat → (Nat → Int32) → Bool × (Nat → Int32)
  | 0, v => (true, v)
  | r + 1, v => match ch1 G gt st fr to l 0 v false with
    | (none, u) => (false, u)
    | (some false, u) => (true, u)
    | (some true, u) => ch2 G gt st fr to l r u
def ch (G : Nat → Int32 → Int32) (gt st : Nat → Int32) (fr to : Nat → Nat) (s l : Nat) (v : Nat → Int32) : Bool × (Nat → Int32) := if (ch0 G s 0 v).1 = true then ch2 G gt st fr to l (l + 1) (ch0 G s 0 v).2 else (false, (ch0 G s 0 v).2)
def sc (σ : ex_S) (s l : Nat) (cp fr to : Nat → Nat) : Prop := s ≤ 6 ∧ l ≤ 30 ∧ σ.1 211 = nI s ∧ σ.1 212 = nI l ∧ (∀ k, k < 6 → σ.2.2.1 16 k = nI (cp k) ∧ cp k ≤ 4) ∧ ∀ j, j < l → σ.2.2.1 20 j = nI (fr j) ∧ σ.2.2.1 22 j = nI (to j) ∧ fr j < s ∧ to j < s
theorem c_isGot {d : Nat} {E : ex_O → ex_S → Prop} {σ : ex_S} {s l j : Nat} {cp fr to : Nat → Nat} (h : sc σ s l cp fr to) (hj : j < l) : ex_C (d + 1) 31 [.ref 2, .int (nI j)] σ E = E (.inl (some (.int (if chC (σ.2.2.1 23) (σ.2.2.1 21) fr to (σ.2.2.1 26) j = true then 1 else 0)))) σ := by
  obtain ⟨h1, h2, h3, h4, h5, h6⟩ := h
  obtain ⟨g1, g2, g3, g4⟩ := h6 j hj
  simp only [r_X2_isGotButNotSent, r_X2_isGotButNotSent_0, r_X2_isGotButNotSent_1, r_X2_isGotButNotSent_4, r_X2_isGotButNotSent_5, r_X2_isGotButNotSent_6, r_X2_isGotButNotSent_7, r_X2_isGotButNotSent_10, r_X2_isGotButNotSent_11, r_X2_isGotButNotSent_14, r_X2_isGotButNotSent_15, r_X2_isGotButNotSent_16, r_X2_isGotButNotSent_17, r_X2_isGotButNotSent_20, r_X2_isGotButNotSent_21, r_X2_isGotButNotSent_24, r_X2_isGotButNotSent_25, r_X2_isGotButNotSent_26, r_X2_isGotButNotSent_27, r_X2_isGotButNotSent_30, r_X2_isGotButNotSent_31, r_X2_isGotButNotSent_34, r_X2_isGotButNotSent_35, r_X2_isGotButNotSent_36, r_X2_isGotButNotSent_37, r_X2_isGotButNotSent_40, r_X2_isGotButNotSent_41, r_X2_isGotButNotSent_44, r_X2_isGotButNotSent_45, tl_in (show j < 30 by omega) (show 30 < 2 ^ 31 by omega), tl_cl (show j < 2 ^ 31 by omega), true_and, g1, g2, tl_in (show fr j < 6 by omega) (show 6 < 2 ^ 31 by omega), tl_cl (show fr j < 2 ^ 31 by omega), tl_in (show to j < 6 by omega) (show 6 < 2 ^ 31 by omega), tl_cl (show to j < 2 ^ 31 by omega), tl_b0, tl_b1]
  unfold chC
  have q4 : ∀ x y : Int32, (x ≤ y) = ¬ (y < x) := fun x y => propext Int32.not_lt.symm
  simp only [q4]
  by_cases q1 : σ.2.2.1 26 (to j) < σ.2.2.1 23 j <;> by_cases q2 : σ.2.2.1 26 (fr j) < σ.2.2.1 21 j <;> simp [q1, q2]
theorem c_choose {d : Nat} {E : ex_O → ex_S → Prop} {σ : ex_S} {s l : Nat} {cp fr to : Nat → Nat} (h : sc σ s l cp fr to) : ex_C (d + 2) 30 [.ref 2] σ E = E (.inl (some (.int (if (ch (fun k lim => gu (σ.2.2.1 17) (σ.2.2.1 18) (σ.2.2.1 19) lim k (cp k)) (σ.2.2.1 23) (σ.2.2.1 21) fr to s l (σ.2.2.1 26)).1 = true then 1 else 0)))) (ex_row σ 26 (ch (fun k lim => gu (σ.2.2.1 17) (σ.2.2.1 18) (σ.2.2.1 19) lim k (cp k)) (σ.2.2.1 23) (σ.2.2.1 21) fr to s l (σ.2.2.1 26)).2) := by
  have hall : ∀ v, sc (ex_row σ 26 v) s l cp fr to := fun _ => h
  obtain ⟨h1, h2, h3, h4, h5, h6⟩ := h
  generalize hG : (fun k lim => gu (σ.2.2.1 17) (σ.2.2.1 18) (σ.2.2.1 19) lim k (cp k)) = G
  have hGc : ∀ (k : Nat) (lim : Int32) (v : Nat → Int32) (e : Nat) (F : ex_O → ex_S → Prop), k < 6 → ex_C (e + 1) 29 [.ref 2, .int (nI k), .int lim] (ex_row σ 26 v) F = F (.inl (some (.int (G k lim)))) (ex_row σ 26 v) := by
    intro k lim v e F hk
    rw [c_greatestUpTo (σ := ex_row σ 26 v) hk (h5 k hk).2 (h5 k hk).1, ← hG]
    rfl
  simp only [r_X2_choose, r_X2_choose_0, r_X2_choose_1, r_X2_choose_3, r_X2_choose_4, r_X2_choose_7, r_X2_choose_10, r_X2_choose_11, r_X2_choose_14, r_X2_choose_15, r_X2_choose_16, r_X2_choose_17, r_X2_choose_19, r_X2_choose_22, r_X2_choose_23, r_X2_choose_24, r_X2_choose_27, r_X2_choose_28, r_X2_choose_29, r_X2_choose_30, r_X2_choose_33, r_X2_choose_34, r_X2_choose_35, r_X2_choose_38, r_X2_choose_41, r_X2_choose_42, r_X2_choose_44, r_X2_choose_45, r_X2_choose_48, r_X2_choose_51, r_X2_choose_52, r_X2_choose_53, r_X2_choose_54, r_X2_choose_56, r_X2_choose_57, r_X2_choose_60, r_X2_choose_63, r_X2_choose_64, r_X2_choose_65, r_X2_choose_68, r_X2_choose_71, r_X2_choose_74, r_X2_choose_75, r_X2_choose_78, r_X2_choose_79, r_X2_choose_80, r_X2_choose_82, r_X2_choose_83, r_X2_choose_86, r_X2_choose_88, r_X2_choose_89, r_X2_choose_91, r_X2_choose_92, r_X2_choose_95, r_X2_choose_96, r_X2_choose_97, r_X2_choose_98, r_X2_choose_99, r_X2_choose_102, r_X2_choose_103, r_X2_choose_104, r_X2_choose_107, r_X2_choose_109, r_X2_choose_110, r_X2_choose_111, r_X2_choose_114, r_X2_choose_115, r_X2_choose_116, r_X2_choose_117, r_X2_choose_118, r_X2_choose_121, r_X2_choose_124, r_X2_choose_125, r_X2_choose_128, r_X2_choose_129, r_X2_choose_130, r_X2_choose_133, r_X2_choose_136, r_X2_choose_137]
  have st0 : ∀ (r k : Nat) (v : Nat → Int32), k + r = s → ex_r none (d + 1) ex_m_X2_choose E 2 [.ref 2, .int (nI k), .retAddr 0, .retAddr 0, .retAddr 0] [] (ex_row σ 26 v) 0 = if (ch0 G r k v).1 = true then ex_r none (d + 1) ex_m_X2_choose E 43 [.ref 2, .int 0, .retAddr 0, .retAddr 0, .retAddr 0] [] (ex_row σ 26 (ch0 G r k v).2) 0 else E (.inl (some (.int 0))) (ex_row σ 26 (ch0 G r k v).2) := by
    intro r
    induction r with
    | zero =>
      intro k v hk
      have e : k = s := by omega
      subst e
      simp only [r_X2_choose_2]
      simp only [r_X2_choose_0, r_X2_choose_1, r_X2_choose_3, r_X2_choose_4, r_X2_choose_7, r_X2_choose_10, r_X2_choose_11, r_X2_choose_14, r_X2_choose_15, r_X2_choose_16, r_X2_choose_17, r_X2_choose_19, r_X2_choose_22, r_X2_choose_23, r_X2_choose_24, r_X2_choose_27, r_X2_choose_28, r_X2_choose_29, r_X2_choose_30, r_X2_choose_33, r_X2_choose_34, r_X2_choose_35, r_X2_choose_38, r_X2_choose_41, r_X2_choose_42, r_X2_choose_44, r_X2_choose_45, r_X2_choose_48, r_X2_choose_51, r_X2_choose_52, r_X2_choose_53, r_X2_choose_54, r_X2_choose_56, r_X2_choose_57, r_X2_choose_60, r_X2_choose_63, r_X2_choose_64, r_X2_choose_65, r_X2_choose_68, r_X2_choose_71, r_X2_choose_74, r_X2_choose_75, r_X2_choose_78, r_X2_choose_79, r_X2_choose_80, r_X2_choose_82, r_X2_choose_83, r_X2_choose_86, r_X2_choose_88, r_X2_choose_89, r_X2_choose_91, r_X2_choose_92, r_X2_choose_95, r_X2_choose_96, r_X2_choose_97, r_X2_choose_98, r_X2_choose_99, r_X2_choose_102, r_X2_choose_103, r_X2_choose_104, r_X2_choose_107, r_X2_choose_109, r_X2_choose_110, r_X2_choose_111, r_X2_choose_114, r_X2_choose_115, r_X2_choose_116, r_X2_choose_117, r_X2_choose_118, r_X2_choose_121, r_X2_choose_124, r_X2_choose_125, r_X2_choose_128, r_X2_choose_129, r_X2_choose_130, r_X2_choose_133, r_X2_choose_136, r_X2_choose_137, s_r1, h3, Int32.le_refl, if_true, ch0]
    | succ r ih =>
      intro k v hk
      simp only [r_X2_choose_2]
      simp only [r_X2_choose_0, r_X2_choose_1, r_X2_choose_3, r_X2_choose_4, r_X2_choose_7, r_X2_choose_10, r_X2_choose_11, r_X2_choose_14, r_X2_choose_15, r_X2_choose_16, r_X2_choose_17, r_X2_choose_19, r_X2_choose_22, r_X2_choose_23, r_X2_choose_24, r_X2_choose_27, r_X2_choose_28, r_X2_choose_29, r_X2_choose_30, r_X2_choose_33, r_X2_choose_34, r_X2_choose_35, r_X2_choose_38, r_X2_choose_41, r_X2_choose_42, r_X2_choose_44, r_X2_choose_45, r_X2_choose_48, r_X2_choose_51, r_X2_choose_52, r_X2_choose_53, r_X2_choose_54, r_X2_choose_56, r_X2_choose_57, r_X2_choose_60, r_X2_choose_63, r_X2_choose_64, r_X2_choose_65, r_X2_choose_68, r_X2_choose_71, r_X2_choose_74, r_X2_choose_75, r_X2_choose_78, r_X2_choose_79, r_X2_choose_80, r_X2_choose_82, r_X2_choose_83, r_X2_choose_86, r_X2_choose_88, r_X2_choose_89, r_X2_choose_91, r_X2_choose_92, r_X2_choose_95, r_X2_choose_96, r_X2_choose_97, r_X2_choose_98, r_X2_choose_99, r_X2_choose_102, r_X2_choose_103, r_X2_choose_104, r_X2_choose_107, r_X2_choose_109, r_X2_choose_110, r_X2_choose_111, r_X2_choose_114, r_X2_choose_115, r_X2_choose_116, r_X2_choose_117, r_X2_choose_118, r_X2_choose_121, r_X2_choose_124, r_X2_choose_125, r_X2_choose_128, r_X2_choose_129, r_X2_choose_130, r_X2_choose_133, r_X2_choose_136, r_X2_choose_137, s_r1, h3]
      rw [if_neg (nI_ge (show k < s by omega) (by omega)), hGc k _ v d _ (by omega)]
      simp only [Option.toList, List.cons_append, List.nil_append, r_X2_choose_0, r_X2_choose_1, r_X2_choose_3, r_X2_choose_4, r_X2_choose_7, r_X2_choose_10, r_X2_choose_11, r_X2_choose_14, r_X2_choose_15, r_X2_choose_16, r_X2_choose_17, r_X2_choose_19, r_X2_choose_22, r_X2_choose_23, r_X2_choose_24, r_X2_choose_27, r_X2_choose_28, r_X2_choose_29, r_X2_choose_30, r_X2_choose_33, r_X2_choose_34, r_X2_choose_35, r_X2_choose_38, r_X2_choose_41, r_X2_choose_42, r_X2_choose_44, r_X2_choose_45, r_X2_choose_48, r_X2_choose_51, r_X2_choose_52, r_X2_choose_53, r_X2_choose_54, r_X2_choose_56, r_X2_choose_57, r_X2_choose_60, r_X2_choose_63, r_X2_choose_64, r_X2_choose_65, r_X2_choose_68, r_X2_choose_71, r_X2_choose_74, r_X2_choose_75, r_X2_choose_78, r_X2_choose_79, r_X2_choose_80, r_X2_choose_82, r_X2_choose_83, r_X2_choose_86, r_X2_choose_88, r_X2_choose_89, r_X2_choose_91, r_X2_choose_92, r_X2_choose_95, r_X2_choose_96, r_X2_choose_97, r_X2_choose_98, r_X2_choose_99, r_X2_choose_102, r_X2_choose_103, r_X2_choose_104, r_X2_choose_107, r_X2_choose_109, r_X2_choose_110, r_X2_choose_111, r_X2_choose_114, r_X2_choose_115, r_X2_choose_116, r_X2_choose_117, r_X2_choose_118, r_X2_choose_121, r_X2_choose_124, r_X2_choose_125, r_X2_choose_128, r_X2_choose_129, r_X2_choose_130, r_X2_choose_133, r_X2_choose_136, r_X2_choose_137, tl_in (show k < 6 by omega) (show 6 < 2 ^ 31 by omega), tl_cl (show k < 2 ^ 31 by omega), true_and, s_ar, s_r3, if_true, s_u, nI_1, tl_b0]
      rw [ch0]
      by_cases q : G k 100000 = -1
      · rw [if_pos q, if_pos q]
        simp
      · rw [if_neg q, if_neg q]
        exact ih (k + 1) _ (by omega)
  have st1 : ∀ (r j i : Nat) (v : Nat → Int32) (f : Bool) (z : Value) (Z : Prop), j + r = l → (∀ (f2 : Bool) (z2 : Value), (ch1 G (σ.2.2.1 23) (σ.2.2.1 21) fr to r j v f).1 = some f2 → ex_r none (d + 1) ex_m_X2_choose E 124 [.ref 2, .int (nI i), .int (if f2 = true then 1 else 0), .int (nI l), z2] [] (ex_row σ 26 (ch1 G (σ.2.2.1 23) (σ.2.2.1 21) fr to r j v f).2) 0 = Z) → ((ch1 G (σ.2.2.1 23) (σ.2.2.1 21) fr to r j v f).1 = none → E (.inl (some (.int 0))) (ex_row σ 26 (ch1 G (σ.2.2.1 23) (σ.2.2.1 21) fr to r j v f).2) = Z) → ex_r none (d + 1) ex_m_X2_choose E 55 [.ref 2, .int (nI i), .int (if f = true then 1 else 0), .int (nI j), z] [] (ex_row σ 26 v) 0 = Z := by
    intro r
    induction r with
    | zero =>
      intro j i v f z Z hj hZ1 hZ2
      have e : j = l := by omega
      subst e
      simp only [r_X2_choose_55]
      simp only [r_X2_choose_56, r_X2_choose_57, r_X2_choose_60, s_r1, h4, Int32.le_refl, if_true]
      exact hZ1 f z rfl
    | succ r ih =>
      intro j i v f z Z hj hZ1 hZ2
      obtain ⟨g1, g2, g3, g4⟩ := h6 j (by omega)
      simp only [r_X2_choose_55]
      simp only [r_X2_choose_0, r_X2_choose_1, r_X2_choose_3, r_X2_choose_4, r_X2_choose_7, r_X2_choose_10, r_X2_choose_11, r_X2_choose_14, r_X2_choose_15, r_X2_choose_16, r_X2_choose_17, r_X2_choose_19, r_X2_choose_22, r_X2_choose_23, r_X2_choose_24, r_X2_choose_27, r_X2_choose_28, r_X2_choose_29, r_X2_choose_30, r_X2_choose_33, r_X2_choose_34, r_X2_choose_35, r_X2_choose_38, r_X2_choose_41, r_X2_choose_42, r_X2_choose_44, r_X2_choose_45, r_X2_choose_48, r_X2_choose_51, r_X2_choose_52, r_X2_choose_53, r_X2_choose_54, r_X2_choose_56, r_X2_choose_57, r_X2_choose_60, r_X2_choose_63, r_X2_choose_64, r_X2_choose_65, r_X2_choose_68, r_X2_choose_71, r_X2_choose_74, r_X2_choose_75, r_X2_choose_78, r_X2_choose_79, r_X2_choose_80, r_X2_choose_82, r_X2_choose_83, r_X2_choose_86, r_X2_choose_88, r_X2_choose_89, r_X2_choose_91, r_X2_choose_92, r_X2_choose_95, r_X2_choose_96, r_X2_choose_97, r_X2_choose_98, r_X2_choose_99, r_X2_choose_102, r_X2_choose_103, r_X2_choose_104, r_X2_choose_107, r_X2_choose_109, r_X2_choose_110, r_X2_choose_111, r_X2_choose_114, r_X2_choose_115, r_X2_choose_116, r_X2_choose_117, r_X2_choose_118, r_X2_choose_121, r_X2_choose_125, r_X2_choose_128, r_X2_choose_129, r_X2_choose_130, r_X2_choose_133, r_X2_choose_136, r_X2_choose_137, s_r1, h4]
      rw [if_neg (nI_ge (show j < l by omega) (by omega)), c_isGot (hall v) (show j < l by omega)]
      have e1 : (ex_row σ 26 v).2.2.1 26 = v := tl_row_at σ 26 v
      have e2 : (ex_row σ 26 v).2.2.1 23 = σ.2.2.1 23 := rfl
      have e3 : (ex_row σ 26 v).2.2.1 21 = σ.2.2.1 21 := rfl
      rw [e1, e2, e3]
      rw [ch1] at hZ1 hZ2
      simp only [Option.toList, List.cons_append, List.nil_append, r_X2_choose_0, r_X2_choose_1, r_X2_choose_3, r_X2_choose_4, r_X2_choose_7, r_X2_choose_10, r_X2_choose_11, r_X2_choose_14, r_X2_choose_15, r_X2_choose_16, r_X2_choose_17, r_X2_choose_19, r_X2_choose_22, r_X2_choose_23, r_X2_choose_24, r_X2_choose_27, r_X2_choose_28, r_X2_choose_29, r_X2_choose_30, r_X2_choose_33, r_X2_choose_34, r_X2_choose_35, r_X2_choose_38, r_X2_choose_41, r_X2_choose_42, r_X2_choose_44, r_X2_choose_45, r_X2_choose_48, r_X2_choose_51, r_X2_choose_52, r_X2_choose_53, r_X2_choose_54, r_X2_choose_56, r_X2_choose_57, r_X2_choose_60, r_X2_choose_63, r_X2_choose_64, r_X2_choose_65, r_X2_choose_68, r_X2_choose_71, r_X2_choose_74, r_X2_choose_75, r_X2_choose_78, r_X2_choose_79, r_X2_choose_80, r_X2_choose_82, r_X2_choose_83, r_X2_choose_86, r_X2_choose_88, r_X2_choose_89, r_X2_choose_91, r_X2_choose_92, r_X2_choose_95, r_X2_choose_96, r_X2_choose_97, r_X2_choose_98, r_X2_choose_99, r_X2_choose_102, r_X2_choose_103, r_X2_choose_104, r_X2_choose_107, r_X2_choose_109, r_X2_choose_110, r_X2_choose_111, r_X2_choose_114, r_X2_choose_115, r_X2_choose_116, r_X2_choose_117, r_X2_choose_118, r_X2_choose_121, r_X2_choose_125, r_X2_choose_128, r_X2_choose_129, r_X2_choose_130, r_X2_choose_133, r_X2_choose_136, r_X2_choose_137]
      by_cases q : chC (σ.2.2.1 23) (σ.2.2.1 21) fr to v j = true
      · rw [if_pos q] at hZ1 hZ2 ⊢
        rw [if_neg (by decide)]
        simp only [tl_in (show j < 30 by omega) (show 30 < 2 ^ 31 by omega), tl_cl (show j < 2 ^ 31 by omega), true_and, s_r3, Nat.reduceEqDiff, if_false, g2]
        rw [hGc (to j) _ v d _ (by omega)]
        simp only [Option.toList, List.cons_append, List.nil_append, r_X2_choose_0, r_X2_choose_1, r_X2_choose_3, r_X2_choose_4, r_X2_choose_7, r_X2_choose_10, r_X2_choose_11, r_X2_choose_14, r_X2_choose_15, r_X2_choose_16, r_X2_choose_17, r_X2_choose_19, r_X2_choose_22, r_X2_choose_23, r_X2_choose_24, r_X2_choose_27, r_X2_choose_28, r_X2_choose_29, r_X2_choose_30, r_X2_choose_33, r_X2_choose_34, r_X2_choose_35, r_X2_choose_38, r_X2_choose_41, r_X2_choose_42, r_X2_choose_44, r_X2_choose_45, r_X2_choose_48, r_X2_choose_51, r_X2_choose_52, r_X2_choose_53, r_X2_choose_54, r_X2_choose_56, r_X2_choose_57, r_X2_choose_60, r_X2_choose_63, r_X2_choose_64, r_X2_choose_65, r_X2_choose_68, r_X2_choose_71, r_X2_choose_74, r_X2_choose_75, r_X2_choose_78, r_X2_choose_79, r_X2_choose_80, r_X2_choose_82, r_X2_choose_83, r_X2_choose_86, r_X2_choose_88, r_X2_choose_89, r_X2_choose_91, r_X2_choose_92, r_X2_choose_95, r_X2_choose_96, r_X2_choose_97, r_X2_choose_98, r_X2_choose_99, r_X2_choose_102, r_X2_choose_103, r_X2_choose_104, r_X2_choose_107, r_X2_choose_109, r_X2_choose_110, r_X2_choose_111, r_X2_choose_114, r_X2_choose_115, r_X2_choose_116, r_X2_choose_117, r_X2_choose_118, r_X2_choose_121, r_X2_choose_125, r_X2_choose_128, r_X2_choose_129, r_X2_choose_130, r_X2_choose_133, r_X2_choose_136, r_X2_choose_137, tl_in (show to j < 6 by omega) (show 6 < 2 ^ 31 by omega), tl_cl (show to j < 2 ^ 31 by omega), true_and, s_ar, s_r3, if_true, s_u, nI_1, tl_b0]
        by_cases q2 : G (to j) (σ.2.2.1 23 j - 1) = -1
        · rw [if_pos q2] at hZ1 hZ2 ⊢
          exact hZ2 rfl
        · rw [if_neg q2] at hZ1 hZ2 ⊢
          exact ih (j + 1) i _ true (.int (nI (to j))) Z (by omega) hZ1 hZ2
      · rw [if_neg q] at hZ1 hZ2 ⊢
        rw [if_pos rfl]
        simp only [nI_1]
        exact ih (j + 1) i _ f z Z (by omega) hZ1 hZ2
  have st2 : ∀ (r i : Nat) (v : Nat → Int32) (y1 y2 y3 : Value), i + r = l + 1 → ex_r none (d + 1) ex_m_X2_choose E 43 [.ref 2, .int (nI i), y1, y2, y3] [] (ex_row σ 26 v) 0 = E (.inl (some (.int (if (ch2 G (σ.2.2.1 23) (σ.2.2.1 21) fr to l r v).1 = true then 1 else 0)))) (ex_row σ 26 (ch2 G (σ.2.2.1 23) (σ.2.2.1 21) fr to l r v).2) := by
    intro r
    induction r with
    | zero =>
      intro i v y1 y2 y3 hi
      simp only [r_X2_choose_43]
      simp only [r_X2_choose_0, r_X2_choose_1, r_X2_choose_3, r_X2_choose_4, r_X2_choose_7, r_X2_choose_10, r_X2_choose_11, r_X2_choose_14, r_X2_choose_15, r_X2_choose_16, r_X2_choose_17, r_X2_choose_19, r_X2_choose_22, r_X2_choose_23, r_X2_choose_24, r_X2_choose_27, r_X2_choose_28, r_X2_choose_29, r_X2_choose_30, r_X2_choose_33, r_X2_choose_34, r_X2_choose_35, r_X2_choose_38, r_X2_choose_41, r_X2_choose_42, r_X2_choose_44, r_X2_choose_45, r_X2_choose_48, r_X2_choose_51, r_X2_choose_52, r_X2_choose_53, r_X2_choose_54, r_X2_choose_56, r_X2_choose_57, r_X2_choose_60, r_X2_choose_63, r_X2_choose_64, r_X2_choose_65, r_X2_choose_68, r_X2_choose_71, r_X2_choose_74, r_X2_choose_75, r_X2_choose_78, r_X2_choose_79, r_X2_choose_80, r_X2_choose_82, r_X2_choose_83, r_X2_choose_86, r_X2_choose_88, r_X2_choose_89, r_X2_choose_91, r_X2_choose_92, r_X2_choose_95, r_X2_choose_96, r_X2_choose_97, r_X2_choose_98, r_X2_choose_99, r_X2_choose_102, r_X2_choose_103, r_X2_choose_104, r_X2_choose_107, r_X2_choose_109, r_X2_choose_110, r_X2_choose_111, r_X2_choose_114, r_X2_choose_115, r_X2_choose_116, r_X2_choose_117, r_X2_choose_118, r_X2_choose_121, r_X2_choose_124, r_X2_choose_125, r_X2_choose_128, r_X2_choose_129, r_X2_choose_130, r_X2_choose_133, r_X2_choose_136, r_X2_choose_137, s_r1, h4, tl_b1, true_and]
      rw [if_pos (nI_lt (by omega) (by omega))]
      simp [ch2]
    | succ r ih =>
      intro i v y1 y2 y3 hi
      simp only [r_X2_choose_43]
      simp only [r_X2_choose_0, r_X2_choose_1, r_X2_choose_3, r_X2_choose_4, r_X2_choose_7, r_X2_choose_10, r_X2_choose_11, r_X2_choose_14, r_X2_choose_15, r_X2_choose_16, r_X2_choose_17, r_X2_choose_19, r_X2_choose_22, r_X2_choose_23, r_X2_choose_24, r_X2_choose_27, r_X2_choose_28, r_X2_choose_29, r_X2_choose_30, r_X2_choose_33, r_X2_choose_34, r_X2_choose_35, r_X2_choose_38, r_X2_choose_41, r_X2_choose_42, r_X2_choose_44, r_X2_choose_45, r_X2_choose_48, r_X2_choose_51, r_X2_choose_52, r_X2_choose_53, r_X2_choose_54, r_X2_choose_56, r_X2_choose_57, r_X2_choose_60, r_X2_choose_63, r_X2_choose_64, r_X2_choose_65, r_X2_choose_68, r_X2_choose_71, r_X2_choose_74, r_X2_choose_75, r_X2_choose_78, r_X2_choose_79, r_X2_choose_80, r_X2_choose_82, r_X2_choose_83, r_X2_choose_86, r_X2_choose_88, r_X2_choose_89, r_X2_choose_91, r_X2_choose_92, r_X2_choose_95, r_X2_choose_96, r_X2_choose_97, r_X2_choose_98, r_X2_choose_99, r_X2_choose_102, r_X2_choose_103, r_X2_choose_104, r_X2_choose_107, r_X2_choose_109, r_X2_choose_110, r_X2_choose_111, r_X2_choose_114, r_X2_choose_115, r_X2_choose_116, r_X2_choose_117, r_X2_choose_118, r_X2_choose_121, r_X2_choose_125, r_X2_choose_128, r_X2_choose_129, r_X2_choose_130, r_X2_choose_133, r_X2_choose_136, r_X2_choose_137, s_r1, h4]
      rw [if_neg (nI_nlt (by omega) (by omega))]
      refine st1 l 0 i v false y3 _ (by omega) ?_ ?_
      · intro f2 z2 hf
        have e : ch1 G (σ.2.2.1 23) (σ.2.2.1 21) fr to l 0 v false = (some f2, (ch1 G (σ.2.2.1 23) (σ.2.2.1 21) fr to l 0 v false).2) := by rw [← hf]
        simp only [r_X2_choose_0, r_X2_choose_1, r_X2_choose_3, r_X2_choose_4, r_X2_choose_7, r_X2_choose_10, r_X2_choose_11, r_X2_choose_14, r_X2_choose_15, r_X2_choose_16, r_X2_choose_17, r_X2_choose_19, r_X2_choose_22, r_X2_choose_23, r_X2_choose_24, r_X2_choose_27, r_X2_choose_28, r_X2_choose_29, r_X2_choose_30, r_X2_choose_33, r_X2_choose_34, r_X2_choose_35, r_X2_choose_38, r_X2_choose_41, r_X2_choose_42, r_X2_choose_44, r_X2_choose_45, r_X2_choose_48, r_X2_choose_51, r_X2_choose_52, r_X2_choose_53, r_X2_choose_54, r_X2_choose_56, r_X2_choose_57, r_X2_choose_60, r_X2_choose_63, r_X2_choose_64, r_X2_choose_65, r_X2_choose_68, r_X2_choose_71, r_X2_choose_74, r_X2_choose_75, r_X2_choose_78, r_X2_choose_79, r_X2_choose_80, r_X2_choose_82, r_X2_choose_83, r_X2_choose_86, r_X2_choose_88, r_X2_choose_89, r_X2_choose_91, r_X2_choose_92, r_X2_choose_95, r_X2_choose_96, r_X2_choose_97, r_X2_choose_98, r_X2_choose_99, r_X2_choose_102, r_X2_choose_103, r_X2_choose_104, r_X2_choose_107, r_X2_choose_109, r_X2_choose_110, r_X2_choose_111, r_X2_choose_114, r_X2_choose_115, r_X2_choose_116, r_X2_choose_117, r_X2_choose_118, r_X2_choose_121, r_X2_choose_124, r_X2_choose_125, r_X2_choose_128, r_X2_choose_129, r_X2_choose_130, r_X2_choose_133, r_X2_choose_136, r_X2_choose_137, nI_1, tl_b1, true_and]
        rw [ch2, e]
        cases f2
        · simp
        · simp [ih (i + 1) _ (.int 1) (.int (nI l)) z2 (by omega), i10]
      · intro hf
        have e : ch1 G (σ.2.2.1 23) (σ.2.2.1 21) fr to l 0 v false = (none, (ch1 G (σ.2.2.1 23) (σ.2.2.1 21) fr to l 0 v false).2) := by rw [← hf]
        rw [ch2, e]
        simp
  have s0 := st0 s 0 (σ.2.2.1 26) (by omega)
  rw [tl_row_self] at s0
  refine Eq.trans s0 ?_
  unfold ch
  by_cases q : (ch0 G s 0 (σ.2.2.1 26)).1 = true
  · rw [if_pos q, if_pos q]
    exact st2 (l + 1) 0 _ _ _ _ (by omega)
  · rw [if_neg q, if_neg q]
    simp
end SO
