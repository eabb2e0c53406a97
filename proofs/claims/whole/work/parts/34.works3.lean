/-! ===== what Works' numbers mean ===== -/
section WKM
def wk_R (ha al : Nat → Nat) (T : Nat → Bool) (n a b : Nat) : Prop := a < n ∧ (wk_nb ha al T a).testBit b = true
theorem wk_all_bit {ha al : Nat → Nat} {T : Nat → Bool} {n s j : Nat} : (wk_all ha al T n s).testBit j = true ↔ ∃ i, i < n ∧ s.testBit i = true ∧ wk_R ha al T n i j := by
  unfold wk_all
  rw [tl_fo_bit]
  constructor
  · rintro ⟨i, hi, h⟩
    by_cases q : s.testBit i = true
    · rw [if_pos q] at h
      exact ⟨i, hi, q, hi, h⟩
    · rw [if_neg q, Nat.zero_testBit] at h
      simp at h
  · rintro ⟨i, hi, q, _, h⟩
    exact ⟨i, hi, by rw [if_pos q]; exact h⟩
theorem wk_fr_bit {ha al : Nat → Nat} {T : Nat → Bool} {n w : Nat} (hw : w < n) : ∀ {k j : Nat}, (wk_fr ha al T n w k).testBit j = true ↔ gw (wk_R ha al T n) n (k + 1) w j
  | 0, j => ⟨fun h => ⟨hw, h⟩, fun h => h.2⟩
  | k + 1, j => by
    rw [wk_fr, wk_all_bit, gw_snoc]
    constructor
    · rintro ⟨i, hi, h1, h2⟩
      exact ⟨i, hi, (wk_fr_bit hw).mp h1, h2⟩
    · rintro ⟨i, hi, h1, h2⟩
      exact ⟨i, hi, (wk_fr_bit hw).mpr h1, h2⟩
theorem wk_it_comm {ha al : Nat → Nat} {T : Nat → Bool} {n : Nat} : ∀ {k r : Nat}, wk_it ha al T n (k + 1) r = wk_it ha al T n k r ||| wk_all ha al T n (wk_it ha al T n k r)
  | 0, r => rfl
  | k + 1, r => by
    rw [wk_it, wk_it_comm (k := k)]
    rfl
theorem wk_it_bit {ha al : Nat → Nat} {T : Nat → Bool} {n w : Nat} : ∀ {k j : Nat}, (wk_it ha al T n k (wk_nb ha al T w)).testBit j = true ↔ ∃ l, l ≤ k ∧ (wk_fr ha al T n w l).testBit j = true
  | 0, j => by
    constructor
    · intro h
      exact ⟨0, Nat.le_refl 0, h⟩
    · rintro ⟨l, hl, h⟩
      rw [show l = 0 by omega] at h
      exact h
  | k + 1, j => by
    rw [wk_it_comm, Nat.testBit_or, Bool.or_eq_true, wk_it_bit, wk_all_bit]
    constructor
    · rintro (⟨l, hl, h⟩ | ⟨i, hi, h1, h2⟩)
      · exact ⟨l, by omega, h⟩
      · obtain ⟨l, hl, h3⟩ := wk_it_bit.mp h1
        exact ⟨l + 1, by omega, by rw [wk_fr, wk_all_bit]; exact ⟨i, hi, h3, h2⟩⟩
    · rintro ⟨l, hl, h⟩
      rcases Nat.lt_or_ge k l with q | q
      · have e : l = k + 1 := by omega
        subst e
        rw [wk_fr, wk_all_bit] at h
        obtain ⟨i, hi, h1, h2⟩ := h
        exact Or.inr ⟨i, hi, wk_it_bit.mpr ⟨k, Nat.le_refl k, h1⟩, h2⟩
      · exact Or.inl ⟨l, q, h⟩
theorem wk_R_lt {ha al : Nat → Nat} {T : Nat → Bool} {n : Nat} (hlt : ∀ a, a < n → wk_nb ha al T a < 2 ^ n) : ∀ c b, wk_R ha al T n c b → b < n := by
  intro c b h
  exact tl_bit_lt (hlt c h.1) h.2
theorem wk_reach_bit {ha al : Nat → Nat} {T : Nat → Bool} {n w j : Nat} (hlt : ∀ a, a < n → wk_nb ha al T a < 2 ^ n) (hw : w < n) : (wk_it ha al T n n (wk_nb ha al T w)).testBit j = true ↔ ∃ l, gw (wk_R ha al T n) n l w j := by
  rw [wk_it_bit]
  constructor
  · rintro ⟨l, hl, h⟩
    exact ⟨l + 1, (wk_fr_bit hw).mp h⟩
  · rintro ⟨l, h⟩
    obtain ⟨l2, h1, h2⟩ := gw_short (wk_R_lt hlt) h
    have := gw_pos h2
    obtain ⟨l3, e⟩ : ∃ l3, l2 = l3 + 1 := ⟨l2 - 1, by omega⟩
    subst e
    exact ⟨l3, by omega, (wk_fr_bit hw).mpr h2⟩
theorem wk_ls_some {f : Nat → Nat} {v j : Nat} (hj : (f j).testBit v = true) : ∀ {r k : Nat}, k ≤ j → j < k + r → (∀ i, k ≤ i → i < j → (f i).testBit v = false) → wk_ls f v r k = nI (j + 1)
  | 0, k, h1, h2, _ => absurd h2 (by omega)
  | r + 1, k, h1, h2, h3 => by
    rw [wk_ls]
    rcases Nat.lt_or_ge k j with q | q
    · rw [h3 k (Nat.le_refl k) q]
      exact wk_ls_some hj (by omega) (by omega) (fun i h4 h5 => h3 i (by omega) h5)
    · rw [show k = j by omega, hj]
      rfl
theorem wk_ls_none {f : Nat → Nat} {v : Nat} : ∀ {r k : Nat}, (∀ i, k ≤ i → i < k + r → (f i).testBit v = false) → wk_ls f v r k = -1
  | 0, k, _ => rfl
  | r + 1, k, h => by
    rw [wk_ls, h k (Nat.le_refl k) (by omega)]
    exact wk_ls_none (fun i h1 h2 => h i (by omega) (by omega))
/-- taking away leaves what lies in a ring -/
theorem wk_kr_sub {ha al : Nat → Nat} {T : Nat → Bool} {r j : Nat} : ∀ {i k : Nat}, (wk_kr ha al T r (k + i)).testBit j = true → (wk_kr ha al T r k).testBit j = true
  | 0, k, h => h
  | i + 1, k, h => by
    apply wk_kr_sub (i := i)
    rw [← Nat.add_assoc, wk_kr] at h
    split at h
    · rw [tl_df_bit] at h
      revert h
      cases (wk_kr ha al T r (k + i)).testBit j <;> simp
    · exact h
theorem wk_kr_ring {ha al : Nat → Nat} {T : Nat → Bool} {n r : Nat} (hlt : ∀ a, a < n → wk_nb ha al T a < 2 ^ n) (h : ∀ a l, gw (wk_R ha al T n) n l a a → r.testBit a = true) : ∀ {i : Nat}, i ≤ n → ∀ a l, gw (wk_R ha al T n) n l a a → (wk_kr ha al T r i).testBit a = true
  | 0, _ => h
  | i + 1, hi => by
    intro a l hg
    have ih := wk_kr_ring hlt h (i := i) (by omega)
    rw [wk_kr]
    split
    · rename_i q
      rw [tl_df_bit, ih a l hg, tl_two_bit]
      by_cases e : i = a
      · subst e
        exfalso
        have : ∃ c, c < n ∧ wk_R ha al T n i c ∧ ∃ l2, gw (wk_R ha al T n) n l2 c c := by
          match l, hg with
          | 1, hg => exact ⟨i, hi, hg, 1, hg⟩
          | l + 2, ⟨c, hc, h1, h2⟩ => exact ⟨c, hc, h1, _, gw_app (l2 := 1) (show i < n by omega) (show gw (wk_R ha al T n) n 1 i c from h1) h2⟩
        obtain ⟨c, hc, h1, l2, h2⟩ := this
        have h3 := ih c l2 h2
        have h4 := tl_zero_bits.mp q.2 c
        rw [Nat.testBit_and, h1.2, h3] at h4
        simp at h4
      · simp [e]
    · exact ih a l hg
theorem wk_kr_fix {ha al : Nat → Nat} {T : Nat → Bool} {n r : Nat} (hlt : ∀ a, a < n → wk_nb ha al T a < 2 ^ n) (h : wk_kr ha al T r n = r) : ∀ a, a < n → r.testBit a = true → ∃ c, c < n ∧ r.testBit c = true ∧ wk_R ha al T n a c := by
  intro a ha2 hb
  have hall : ∀ i, i ≤ n → wk_kr ha al T r i = r := by
    intro i hi
    apply Nat.eq_of_testBit_eq
    intro j
    have h1 : (wk_kr ha al T r i).testBit j = true → r.testBit j = true := by
      intro q
      have := wk_kr_sub (ha := ha) (al := al) (T := T) (r := r) (j := j) (i := i) (k := 0)
      rw [Nat.zero_add] at this
      exact this q
    have h2 : r.testBit j = true → (wk_kr ha al T r i).testBit j = true := by
      intro q
      apply wk_kr_sub (i := n - i)
      rw [show i + (n - i) = n by omega, h]
      exact q
    cases q1 : (wk_kr ha al T r i).testBit j <;> cases q2 : r.testBit j <;> simp_all
  have h1 := hall (a + 1) (by omega)
  rw [wk_kr, hall a (by omega)] at h1
  by_cases q : wk_nb ha al T a &&& r = 0
  · rw [if_pos ⟨hb, q⟩] at h1
    have h2 := tl_df_bit r (2 ^ a) a
    rw [h1, hb, tl_two_bit] at h2
    simp at h2
  · have : ∃ c, (wk_nb ha al T a &&& r).testBit c = true := by
      apply Classical.byContradiction
      intro h3
      apply q
      apply tl_zero_bits.mpr
      intro j
      cases h4 : (wk_nb ha al T a &&& r).testBit j with
      | false => rfl
      | true => exact absurd ⟨j, h4⟩ h3
    obtain ⟨c, hc⟩ := this
    rw [Nat.testBit_and, Bool.and_eq_true] at hc
    exact ⟨c, tl_bit_lt (hlt a ha2) hc.1, hc.2, ha2, hc.1⟩
theorem wk_kb_iff {ha al : Nat → Nat} {T : Nat → Bool} {n : Nat} (hlt : ∀ a, a < n → wk_nb ha al T a < 2 ^ n) : ∀ {k r : Nat}, r < 2 ^ n → tl_ct (fun i => r.testBit i) n ≤ k → (∀ a l, gw (wk_R ha al T n) n l a a → r.testBit a = true) → (wk_kb ha al T n k r = true ↔ ∃ a l, a < n ∧ gw (wk_R ha al T n) n l a a)
  | k, r, hr, hk, hg => by
    by_cases q : r = 0
    · subst q
      have h1 : wk_kb ha al T n k 0 = false := by
        cases k with
        | zero => rfl
        | succ k => simp [wk_kb]
      rw [h1]
      constructor
      · intro h; simp at h
      · rintro ⟨a, l, h2, h3⟩
        have := hg a l h3
        rw [Nat.zero_testBit] at this
        simp at this
    · cases k with
      | zero =>
        exfalso
        apply q
        apply tl_zero_bits.mpr
        intro j
        rcases Nat.lt_or_ge j n with h1 | h1
        · exact tl_ct_zero (Nat.le_zero.mp hk) j h1
        · exact Nat.testBit_lt_two_pow (Nat.lt_of_lt_of_le hr (Nat.pow_le_pow_right (by decide) h1))
      | succ k =>
        rw [wk_kb, if_neg q]
        by_cases q2 : wk_kr ha al T r n = r
        · rw [if_pos q2]
          refine ⟨fun _ => ?_, fun _ => rfl⟩
          have : ∃ c, c < n ∧ r.testBit c = true := by
            apply Classical.byContradiction
            intro h3
            apply q
            apply tl_zero_bits.mpr
            intro j
            cases h4 : r.testBit j with
            | false => rfl
            | true => exact absurd ⟨j, tl_bit_lt hr h4, h4⟩ h3
          obtain ⟨c, hc, h1⟩ := this
          exact gw_ring (fun a => r.testBit a = true) (fun a h2 h3 => wk_kr_fix hlt q2 a h2 h3) _ c hc h1 (Nat.le_refl _)
        · rw [if_neg q2]
          refine wk_kb_iff hlt (wk_kr_lt hr n) ?_ (wk_kr_ring hlt hg (Nat.le_refl n))
          have hsub : ∀ j, (wk_kr ha al T r n).testBit j = true → r.testBit j = true := by
            intro j h1
            have := wk_kr_sub (ha := ha) (al := al) (T := T) (r := r) (j := j) (i := n) (k := 0)
            rw [Nat.zero_add] at this
            exact this h1
          have : tl_ct (fun i => (wk_kr ha al T r n).testBit i) n < tl_ct (fun i => r.testBit i) n := by
            apply tl_ct_lt (fun i _ h1 => hsub i h1)
            apply Classical.byContradiction
            intro h3
            apply q2
            apply tl_mask_eq (wk_kr_lt hr n) hr
            intro j hj
            cases h4 : r.testBit j <;> cases h5 : (wk_kr ha al T r n).testBit j
            · rfl
            · have := hsub j h5
              rw [h4] at this
              exact this.symm
            · exact absurd ⟨j, hj, h5, h4⟩ h3
            · rfl
          omega
  termination_by k => k
theorem wk_hasRing_iff {ha al : Nat → Nat} {T : Nat → Bool} {n : Nat} (hlt : ∀ a, a < n → wk_nb ha al T a < 2 ^ n) : wk_kb ha al T n n (2 ^ n - 1) = true ↔ ∃ a l, a < n ∧ gw (wk_R ha al T n) n l a a := by
  apply wk_kb_iff hlt (by have := Nat.two_pow_pos n; omega)
  · exact tl_ct_le _ n
  · intro a l h
    rw [Nat.testBit_two_pow_sub_one]
    match l, h with
    | 1, h => exact decide_eq_true h.1
    | l + 2, ⟨c, _, h1, _⟩ => exact decide_eq_true h1.1
end WKM
