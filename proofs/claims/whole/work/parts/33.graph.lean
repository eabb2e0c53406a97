/-! ===== walks ===== -/
section GR
noncomputable def cb (p : Prop) : Bool := @decide p (Classical.propDecidable p)
theorem cb_iff {p : Prop} : cb p = true ↔ p := by
  unfold cb
  exact @decide_eq_true_iff p (Classical.propDecidable p)
theorem cb_not {p : Prop} : cb p = false ↔ ¬ p := by
  unfold cb
  exact @decide_eq_false_iff_not p (Classical.propDecidable p)
/-- a walk of so many steps, all that lies between being below m -/
def gw (R : Nat → Nat → Prop) (m : Nat) : Nat → Nat → Nat → Prop
  | 0, _, _ => False
  | 1, a, b => R a b
  | k + 2, a, b => ∃ c, c < m ∧ R a c ∧ gw R m (k + 1) c b
theorem gw_pos {R : Nat → Nat → Prop} {m l a b : Nat} (h : gw R m l a b) : 0 < l := by
  cases l with
  | zero => exact absurd h (by simp [gw])
  | succ l => omega
theorem gw_cons {R : Nat → Nat → Prop} {m l a b c : Nat} (hc : c < m) (hr : R a c) (h : gw R m l c b) : gw R m (l + 1) a b := by
  cases l with
  | zero => exact absurd h (by simp [gw])
  | succ l => exact ⟨c, hc, hr, h⟩
theorem gw_mono {R : Nat → Nat → Prop} {m m2 : Nat} (hm : m ≤ m2) : ∀ {l a b : Nat}, gw R m l a b → gw R m2 l a b
  | 0, _, _, h => h
  | 1, _, _, h => h
  | l + 2, _, _, ⟨c, hc, hr, h⟩ => ⟨c, by omega, hr, gw_mono hm h⟩
theorem gw_app {R : Nat → Nat → Prop} {m c b l2 : Nat} (hc : c < m) (h2 : gw R m l2 c b) : ∀ {l a : Nat}, gw R m l a c → gw R m (l + l2) a b
  | 0, _, h => absurd h (by simp [gw])
  | 1, a, h => by
    rw [Nat.add_comm]
    exact gw_cons hc h h2
  | l + 2, a, ⟨e, he, hr, h⟩ => by
    have := gw_cons he hr (gw_app hc h2 h)
    rw [show l + 2 + l2 = l + 1 + l2 + 1 by omega]
    exact this
theorem gw_split {R : Nat → Nat → Prop} {m b : Nat} : ∀ {l a : Nat}, gw R (m + 1) l a b → (∃ l2, l2 ≤ l ∧ gw R m l2 a b) ∨ (∃ l1 l2, l1 + l2 ≤ l ∧ gw R m l1 a m ∧ gw R m l2 m b)
  | 0, _, h => absurd h (by simp [gw])
  | 1, a, h => Or.inl ⟨1, by omega, h⟩
  | l + 2, a, ⟨c, hc, hr, h⟩ => by
    rcases gw_split h with ⟨l2, h1, h2⟩ | ⟨l1, l2, h1, h2, h3⟩
    · rcases Nat.lt_or_ge c m with q | q
      · exact Or.inl ⟨l2 + 1, by omega, gw_cons q hr h2⟩
      · have e : c = m := by omega
        subst e
        exact Or.inr ⟨1, l2, by omega, hr, h2⟩
    · rcases Nat.lt_or_ge c m with q | q
      · exact Or.inr ⟨l1 + 1, l2, by omega, gw_cons q hr h2, h3⟩
      · have e : c = m := by omega
        subst e
        exact Or.inr ⟨1, l2, by have := gw_pos h2; omega, hr, h3⟩
theorem gw_snoc {R : Nat → Nat → Prop} {m b : Nat} : ∀ {l a : Nat}, gw R m (l + 2) a b ↔ ∃ c, c < m ∧ gw R m (l + 1) a c ∧ R c b
  | 0, a => by
    constructor
    · rintro ⟨c, hc, h1, h2⟩
      exact ⟨c, hc, h1, h2⟩
    · rintro ⟨c, hc, h1, h2⟩
      exact ⟨c, hc, h1, h2⟩
  | l + 1, a => by
    constructor
    · rintro ⟨c, hc, h1, h2⟩
      obtain ⟨e, he, h3, h4⟩ := gw_snoc.mp h2
      exact ⟨e, he, ⟨c, hc, h1, h3⟩, h4⟩
    · rintro ⟨e, he, ⟨c, hc, h1, h3⟩, h4⟩
      exact ⟨c, hc, h1, gw_snoc.mpr ⟨e, he, h3, h4⟩⟩
theorem gw_congr {R S : Nat → Nat → Prop} {m : Nat} (h : ∀ a b, a < m → (R a b ↔ S a b)) : ∀ {l a b : Nat}, a < m → (gw R m l a b ↔ gw S m l a b)
  | 0, _, _, _ => Iff.rfl
  | 1, a, b, ha => h a b ha
  | l + 2, a, b, ha => by
    constructor
    · rintro ⟨c, hc, h1, h2⟩
      exact ⟨c, hc, (h a c ha).mp h1, (gw_congr h hc).mp h2⟩
    · rintro ⟨c, hc, h1, h2⟩
      exact ⟨c, hc, (h a c ha).mpr h1, (gw_congr h hc).mpr h2⟩
/-- a chain of growing sets stands still by n -/
theorem tl_chain (f : Nat → Nat → Bool) (n : Nat) (hm : ∀ k i, i < n → f k i = true → f (k + 1) i = true) : ∃ k, k ≤ n ∧ ∀ i, i < n → f (k + 1) i = true → f k i = true := by
  apply Classical.byContradiction
  intro hno
  have key : ∀ k, k ≤ n + 1 → k ≤ tl_ct (f k) n := by
    intro k
    induction k with
    | zero => intro _; omega
    | succ k ih =>
      intro hk
      have h1 := ih (by omega)
      have h2 : tl_ct (f k) n < tl_ct (f (k + 1)) n := by
        apply tl_ct_lt (hm k)
        apply Classical.byContradiction
        intro h3
        apply hno
        refine ⟨k, by omega, ?_⟩
        intro i hi h4
        cases h5 : f k i with
        | true => rfl
        | false => exact absurd ⟨i, hi, h5, h4⟩ h3
      omega
  have h1 := key (n + 1) (Nat.le_refl _)
  have h2 := tl_ct_le (f (n + 1)) n
  omega
/-- where there is a walk there is one of at most n steps -/
theorem gw_short {R : Nat → Nat → Prop} {n a : Nat} (hR : ∀ c b, R c b → b < n) {l b : Nat} (h : gw R n l a b) : ∃ l2, l2 ≤ n ∧ gw R n l2 a b := by
  have hb : ∀ {l b : Nat}, gw R n l a b → b < n := by
    intro l b h
    match l, h with
    | 1, h => exact hR _ _ h
    | l + 2, h =>
      obtain ⟨c, _, _, h2⟩ := gw_snoc.mp h
      exact hR _ _ h2
  obtain ⟨k, hk, hs⟩ := tl_chain (fun k i => cb (∃ l, l ≤ k ∧ gw R n l a i)) n (by
    intro k i _ h1
    obtain ⟨l, h2, h3⟩ := cb_iff.mp h1
    exact cb_iff.mpr ⟨l, by omega, h3⟩)
  have hall : ∀ l i, gw R n l a i → ∃ l2, l2 ≤ k ∧ gw R n l2 a i := by
    intro l
    induction l with
    | zero => intro i h1; exact absurd h1 (by simp [gw])
    | succ l ih =>
      intro i h1
      apply cb_iff.mp
      apply hs i (hb h1)
      apply cb_iff.mpr
      match l, h1, ih with
      | 0, h1, _ => exact ⟨1, by omega, h1⟩
      | l + 1, h1, ih =>
        obtain ⟨c, hc, h2, h3⟩ := gw_snoc.mp h1
        obtain ⟨l2, h4, h5⟩ := ih c h2
        refine ⟨l2 + 1, by omega, ?_⟩
        have := gw_pos h5
        obtain ⟨l3, e⟩ : ∃ l3, l2 = l3 + 1 := ⟨l2 - 1, by omega⟩
        subst e
        exact gw_snoc.mpr ⟨c, hc, h5, h3⟩
  obtain ⟨l2, h1, h2⟩ := hall l b h
  exact ⟨l2, by omega, h2⟩
/-- a set that never ends has a ring -/
theorem gw_ring {R : Nat → Nat → Prop} {n : Nat} (s : Nat → Prop) (hs : ∀ a, a < n → s a → ∃ c, c < n ∧ s c ∧ R a c) : ∀ (k a : Nat), a < n → s a → tl_ct (fun i => cb (∃ l, gw R n l a i)) n ≤ k → ∃ a l, a < n ∧ gw R n l a a
  | 0, a, ha, h, hk => by
    obtain ⟨c, hc, _, hr⟩ := hs a ha h
    have := tl_ct_pos (f := fun i => cb (∃ l, gw R n l a i)) hc (cb_iff.mpr ⟨1, hr⟩)
    omega
  | k + 1, a, ha, h, hk => by
    obtain ⟨c, hc, h2, hr⟩ := hs a ha h
    by_cases q : ∃ l, gw R n l c c
    · obtain ⟨l, q⟩ := q
      exact ⟨c, l, hc, q⟩
    · refine gw_ring s hs k c hc h2 ?_
      have : tl_ct (fun i => cb (∃ l, gw R n l c i)) n < tl_ct (fun i => cb (∃ l, gw R n l a i)) n := by
        apply tl_ct_lt
        · intro i _ h3
          obtain ⟨l, h4⟩ := cb_iff.mp h3
          exact cb_iff.mpr ⟨l + 1, gw_cons hc hr h4⟩
        · exact ⟨c, hc, cb_not.mpr q, cb_iff.mpr ⟨1, hr⟩⟩
      omega
end GR
