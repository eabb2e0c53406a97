/-! ===== the two cuts are one ===== -/
section CU
theorem wk_co_congr {c e : Nat → Int32} {s : Int32} : ∀ {n : Nat}, (∀ i, i < n → c i = e i) → wk_co c s n = wk_co e s n
  | 0, _ => rfl
  | n + 1, h => by rw [wk_co, wk_co, wk_co_congr (fun i hi => h i (by omega)), h n (by omega)]
theorem md_ca_iff {c : Nat → Int32} {s : Int32} : ∀ {n : Nat}, md_ca c s n = true ↔ ∀ i, i < n → tb s i = true → ¬ c i < 0
  | 0 => ⟨fun _ i hi => by omega, fun _ => rfl⟩
  | n + 1 => by
    rw [md_ca]
    have ih := md_ca_iff (c := c) (s := s) (n := n)
    constructor
    · intro h i hi hb
      rcases Nat.lt_or_ge i n with q | q
      · split at h
        · rw [Bool.and_eq_true] at h
          exact ih.mp h.1 i q hb
        · exact ih.mp h i q hb
      · have e : i = n := by omega
        subst e
        rw [if_pos hb, Bool.and_eq_true] at h
        simpa using h.2
    · intro h
      have h1 := ih.mpr (fun i hi => h i (by omega))
      split
      · rename_i q
        rw [h1]
        simpa using h n (by omega) q
      · exact h1
theorem wk_can_bit {c : Nat → Int32} {s : Int32} {n j : Nat} : (wk_can c s n).testBit j = true ↔ j < n ∧ tb s j = true ∧ c j ≠ -1 := tl_fo_set (p := fun w => tb s w = true ∧ c w ≠ -1)
theorem wk_can_lt {c : Nat → Int32} {s : Int32} {n : Nat} : wk_can c s n < 2 ^ n := tl_fo_set_lt (p := fun w => tb s w = true ∧ c w ≠ -1)
theorem wk_can_iff {c : Nat → Int32} {s n : Nat} (h8 : n ≤ 8) (hs : s < 2 ^ n) : wk_can c (nI s) n = s ↔ ∀ i, i < n → tb (nI s) i = true → c i ≠ -1 := by
  have hp := tl_p8 h8
  constructor
  · intro h i hi hb
    rw [tb_nI (by omega) (by omega), ← h] at hb
    exact (wk_can_bit.mp hb).2.2
  · intro h
    apply tl_mask_eq wk_can_lt hs
    intro j hj
    apply tl_bool_ext
    rw [wk_can_bit, tb_nI (by omega) (by omega)]
    constructor
    · intro q; exact q.2.1
    · intro q
      exact ⟨hj, q, h j hj (by rw [tb_nI (by omega) (by omega)]; exact q)⟩
def co_ok (c : Nat → Int32) (n : Nat) : Prop := ∀ a, a < n → (c a < 0 ↔ c a = -1)
theorem lm_cut {c e : Nat → Int32} {n m : Nat} {nr nd : Nat → Nat} {so : Nat → Bool} {g : Nat → Int32} {ha al : Nat → Nat} (h8 : n ≤ 8) (hm : ∀ j, j < m → nr j < n ∧ nd j < n) (hl : lk m nr nd so ha al) (hlt : ∀ T a, a < n → wk_nb ha al T a < 2 ^ n) (hc : co_ok c n) (hce : ∀ i, i < n → c i = e i) : ∀ s, s ≤ 2 ^ n → (md_cc c n m nr nd so g s).1 = (wk_cc ha al e n s).1 ∧ (md_cc c n m nr nd so g s).2.1 = (wk_cc ha al e n s).2 ∧ ((wk_cc ha al e n s).1 < 0 ↔ (wk_cc ha al e n s).1 = -1)
  | 0, _ => ⟨rfl, rfl, by simp [wk_cc]⟩
  | s + 1, hs => by
    have hp := tl_p8 h8
    obtain ⟨i1, i2, i3⟩ := lm_cut (g := g) h8 hm hl hlt hc hce s (by omega)
    rw [md_cc, wk_cc, i1, i2]
    have k1 : md_ca c (nI s) n = true ↔ wk_can e (nI s) n = s := by
      rw [md_ca_iff, wk_can_iff h8 (by omega)]
      constructor
      · intro h i hi hb q
        rw [← hce i hi] at q
        exact h i hi hb ((hc i hi).mpr q)
      · intro h i hi hb q
        have := (hc i hi).mp q
        rw [hce i hi] at this
        exact h i hi hb this
    have k2 : wk_co c (nI s) n = wk_co e (nI s) n := wk_co_congr hce
    by_cases q : wk_can e (nI s) n = s
    · have k3 : (md_rg c (nI s) n m nr nd so (md_cc c n m nr nd so g s).2.2 = 0) = (wk_kb ha al (tb (nI s)) n n (2 ^ n - 1) = false) := by
        apply lm_ring0 h8 hm hl _ (hlt _)
        intro a hn
        have := (md_ca_iff.mp (k1.mpr q)) a hn
        cases q1 : tb (nI s) a with
        | false => rfl
        | true => simpa using Int32.not_lt.mp (this q1)
      by_cases q2 : (wk_cc ha al e n s).1 < 0 ∨ wk_co e (nI s) n < (wk_cc ha al e n s).2
      · rw [if_pos ⟨k1.mpr q, by rw [k2]; exact q2⟩]
        have q3 : (wk_cc ha al e n s).1 = -1 ∨ wk_co e (nI s) n < (wk_cc ha al e n s).2 := by
          rcases q2 with q4 | q4
          · exact Or.inl (i3.mp q4)
          · exact Or.inr q4
        by_cases q4 : wk_kb ha al (tb (nI s)) n n (2 ^ n - 1) = false
        · rw [if_pos (k3 ▸ q4), if_pos ⟨q, q3, q4⟩]
          refine ⟨rfl, k2, ?_⟩
          constructor
          · intro h; exact absurd h (nI_pos (by omega))
          · intro h
            have : nI s < 0 := by rw [show nI s = -1 from h]; decide
            exact absurd this (nI_pos (by omega))
        · rw [if_neg (k3 ▸ q4), if_neg (fun q5 => q4 q5.2.2)]
          exact ⟨rfl, rfl, i3⟩
      · rw [if_neg (by rw [k2]; exact fun q5 => q2 q5.2), if_neg ?_]
        · exact ⟨i1, i2, i3⟩
        · rintro ⟨_, q5, _⟩
          apply q2
          rcases q5 with q6 | q6
          · exact Or.inl (i3.mpr q6)
          · exact Or.inr q6
    · rw [if_neg (fun q5 => q (k1.mp q5.1)), if_neg (fun q5 => q q5.1)]
      exact ⟨i1, i2, i3⟩
end CU
