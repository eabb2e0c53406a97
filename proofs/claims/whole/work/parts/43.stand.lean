/-! ===== the greatest set that stands, found in two ways ===== -/
section SD
def sd_mono (n : Nat) (S : Nat → (Nat → Bool) → Bool) : Prop := ∀ k A B, k < n → (∀ j, j < n → A j = true → B j = true) → S k A = true → S k B = true
def sd_cl (n : Nat) (S : Nat → (Nat → Bool) → Bool) (A : Nat → Bool) : Prop := ∀ k, k < n → A k = true → S k A = true
def sd_J (S : Nat → (Nat → Bool) → Bool) (A : Nat → Bool) (k : Nat) : Bool := A k && S k A
def sd_Ji (S : Nat → (Nat → Bool) → Bool) : Nat → (Nat → Bool) → Nat → Bool
  | 0, A => A
  | k + 1, A => sd_Ji S k (sd_J S A)
def ga_i (S : Nat → (Nat → Bool) → Bool) (A : Nat → Bool) : Nat → Nat → Bool
  | 0 => A
  | k + 1 => if ga_i S A k k = true ∧ S k (ga_i S A k) = false then (fun j => ga_i S A k j && !decide (j = k)) else ga_i S A k
def ga_r (S : Nat → (Nat → Bool) → Bool) (n : Nat) : Nat → (Nat → Bool) → Nat → Bool
  | 0, A => A
  | r + 1, A => ga_r S n r (ga_i S A n)
theorem sd_J_sub {S : Nat → (Nat → Bool) → Bool} {A : Nat → Bool} {j : Nat} (h : sd_J S A j = true) : A j = true := by
  unfold sd_J at h
  rw [Bool.and_eq_true] at h
  exact h.1
theorem sd_Ji_sub {S : Nat → (Nat → Bool) → Bool} {j : Nat} : ∀ {k : Nat} {A : Nat → Bool}, sd_Ji S k A j = true → A j = true
  | 0, _, h => h
  | k + 1, A, h => sd_J_sub (sd_Ji_sub (k := k) h)
theorem ga_i_sub {S : Nat → (Nat → Bool) → Bool} {A : Nat → Bool} {j : Nat} : ∀ {k : Nat}, ga_i S A k j = true → A j = true
  | 0, h => h
  | k + 1, h => by
    rw [ga_i] at h
    split at h
    · rw [Bool.and_eq_true] at h
      exact ga_i_sub h.1
    · exact ga_i_sub h
theorem ga_i_sub2 {S : Nat → (Nat → Bool) → Bool} {A : Nat → Bool} {j k : Nat} : ∀ {i : Nat}, ga_i S A (k + i) j = true → ga_i S A k j = true
  | 0, h => h
  | i + 1, h => by
    rw [← Nat.add_assoc, ga_i] at h
    split at h
    · rw [Bool.and_eq_true] at h
      exact ga_i_sub2 h.1
    · exact ga_i_sub2 h
theorem ga_r_sub {S : Nat → (Nat → Bool) → Bool} {n j : Nat} : ∀ {r : Nat} {A : Nat → Bool}, ga_r S n r A j = true → A j = true
  | 0, _, h => h
  | r + 1, A, h => ga_i_sub (ga_r_sub (r := r) h)
theorem sd_J_cl {n : Nat} {S : Nat → (Nat → Bool) → Bool} {A : Nat → Bool} (h : sd_cl n S A) (hm : sd_mono n S) : sd_cl n S (sd_J S A) := by
  intro k hk hj
  refine hm k A _ hk ?_ (h k hk (sd_J_sub hj))
  intro j h1 h2
  unfold sd_J
  rw [h2, h j h1 h2]
  rfl
theorem sd_Ji_cl {n : Nat} {S : Nat → (Nat → Bool) → Bool} (hm : sd_mono n S) : ∀ {k : Nat} {A : Nat → Bool}, sd_cl n S A → sd_cl n S (sd_Ji S k A)
  | 0, _, h => h
  | k + 1, A, h => sd_Ji_cl hm (k := k) (sd_J_cl h hm)
theorem sd_Ji_end {n : Nat} {S : Nat → (Nat → Bool) → Bool} (hm : sd_mono n S) : ∀ {k : Nat} {A : Nat → Bool}, tl_ct A n ≤ k → sd_cl n S (sd_Ji S k A)
  | 0, A, h => by
    intro k hk h1
    rw [show sd_Ji S 0 A k = A k from rfl, tl_ct_zero (Nat.le_zero.mp h) k hk] at h1
    simp at h1
  | k + 1, A, h => by
    by_cases q : sd_cl n S A
    · exact sd_Ji_cl hm q
    · rw [sd_Ji]
      apply sd_Ji_end hm
      have : tl_ct (sd_J S A) n < tl_ct A n := by
        apply tl_ct_lt (fun i _ h1 => sd_J_sub h1)
        apply Classical.byContradiction
        intro h3
        apply q
        intro k2 hk2 h4
        cases h5 : S k2 A with
        | true => rfl
        | false => exact absurd ⟨k2, hk2, by unfold sd_J; rw [h5]; simp, h4⟩ h3
      omega
theorem ga_i_cl {n : Nat} {S : Nat → (Nat → Bool) → Bool} {A : Nat → Bool} (h : sd_cl n S A) : ∀ {k : Nat}, k ≤ n → ga_i S A k = A
  | 0, _ => rfl
  | k + 1, hk => by
    rw [ga_i, ga_i_cl h (by omega), if_neg]
    rintro ⟨h1, h2⟩
    rw [h k (by omega) h1] at h2
    simp at h2
theorem ga_r_cl {n : Nat} {S : Nat → (Nat → Bool) → Bool} : ∀ {r : Nat} {A : Nat → Bool}, sd_cl n S A → sd_cl n S (ga_r S n r A)
  | 0, _, h => h
  | r + 1, A, h => by
    rw [ga_r, ga_i_cl h (Nat.le_refl n)]
    exact ga_r_cl h
theorem ga_r_end {n : Nat} {S : Nat → (Nat → Bool) → Bool} (hm : sd_mono n S) : ∀ {r : Nat} {A : Nat → Bool}, tl_ct A n ≤ r → sd_cl n S (ga_r S n r A)
  | 0, A, h => by
    intro k hk h1
    rw [show ga_r S n 0 A k = A k from rfl, tl_ct_zero (Nat.le_zero.mp h) k hk] at h1
    simp at h1
  | r + 1, A, h => by
    by_cases q : sd_cl n S A
    · exact ga_r_cl q
    · rw [ga_r]
      apply ga_r_end hm
      have : tl_ct (ga_i S A n) n < tl_ct A n := by
        apply tl_ct_lt (fun i _ h1 => ga_i_sub h1)
        apply Classical.byContradiction
        intro h3
        apply q
        intro k hk h4
        cases h5 : S k A with
        | true => rfl
        | false =>
          refine absurd ⟨k, hk, ?_, h4⟩ h3
          rw [← Bool.not_eq_true]
          intro h6
          have h7 : ga_i S A (k + 1) k = true := ga_i_sub2 (i := n - (k + 1)) (by rw [show k + 1 + (n - (k + 1)) = n by omega]; exact h6)
          rw [ga_i] at h7
          split at h7
          · simp at h7
          · rename_i h8
            apply h8
            refine ⟨h7, ?_⟩
            rw [← Bool.not_eq_true]
            intro h9
            have := hm k _ A hk (fun j _ h10 => ga_i_sub h10) h9
            rw [h5] at this
            simp at this
      omega
theorem sd_Ji_great {n : Nat} {S : Nat → (Nat → Bool) → Bool} (hm : sd_mono n S) {C : Nat → Bool} (hC : sd_cl n S C) : ∀ {k : Nat} {A : Nat → Bool}, (∀ j, j < n → C j = true → A j = true) → ∀ j, j < n → C j = true → sd_Ji S k A j = true
  | 0, _, h => h
  | k + 1, A, h => by
    rw [sd_Ji]
    apply sd_Ji_great hm hC
    intro j hj h1
    unfold sd_J
    rw [h j hj h1, hm j C A hj h (hC j hj h1)]
    rfl
theorem ga_i_great {n : Nat} {S : Nat → (Nat → Bool) → Bool} (hm : sd_mono n S) {C : Nat → Bool} (hC : sd_cl n S C) {A : Nat → Bool} (h : ∀ j, j < n → C j = true → A j = true) : ∀ {k : Nat}, k ≤ n → ∀ j, j < n → C j = true → ga_i S A k j = true
  | 0, _ => h
  | k + 1, hk => by
    intro j hj h1
    have ih := ga_i_great hm hC h (k := k) (by omega)
    rw [ga_i]
    split
    · rename_i q
      show (ga_i S A k j && !decide (j = k)) = true
      rw [ih j hj h1]
      by_cases e : j = k
      · subst e
        rw [hm j C _ hj ih (hC j hj h1)] at q
        simp at q
      · simp [e]
    · exact ih j hj h1
theorem ga_r_great {n : Nat} {S : Nat → (Nat → Bool) → Bool} (hm : sd_mono n S) {C : Nat → Bool} (hC : sd_cl n S C) : ∀ {r : Nat} {A : Nat → Bool}, (∀ j, j < n → C j = true → A j = true) → ∀ j, j < n → C j = true → ga_r S n r A j = true
  | 0, _, h => h
  | r + 1, A, h => by
    rw [ga_r]
    exact ga_r_great hm hC (ga_i_great hm hC h (Nat.le_refl n))
theorem sd_same {n : Nat} {S : Nat → (Nat → Bool) → Bool} (hm : sd_mono n S) (A : Nat → Bool) : ∀ j, j < n → sd_Ji S n A j = ga_r S n n A j := by
  intro j hj
  have h1 := sd_Ji_end hm (tl_ct_le A n)
  have h2 := ga_r_end hm (tl_ct_le A n)
  apply tl_bool_ext
  constructor
  · intro h
    exact ga_r_great hm h1 (fun i _ hi => sd_Ji_sub hi) j hj h
  · intro h
    exact sd_Ji_great hm h2 (fun i _ hi => ga_r_sub hi) j hj h
/-- all needs of k in A, those that thin doesn't need left out -/
noncomputable def sS (m : Nat) (nr nd : Nat → Nat) (so : Nat → Bool) (th : Nat → Bool) (k : Nat) (A : Nat → Bool) : Bool := cb (∀ j, j < m → nr j = k → (th k = true ∧ so j = true) ∨ A (nd j) = true)
theorem sS_mono {n m : Nat} {nr nd : Nat → Nat} {so th : Nat → Bool} (hm : ∀ j, j < m → nr j < n ∧ nd j < n) : sd_mono n (sS m nr nd so th) := by
  intro k A B hk h hs
  apply cb_iff.mpr
  intro j hj e
  rcases cb_iff.mp hs j hj e with q | q
  · exact Or.inl q
  · exact Or.inr (h _ (hm j hj).2 q)
/-- the class's way to say it -/
theorem sS_mask {n m : Nat} {nr nd : Nat → Nat} {so th : Nat → Bool} {ha al : Nat → Nat} (hl : lk m nr nd so ha al) (hm : ∀ j, j < m → nr j < n ∧ nd j < n) {A : Nat → Bool} {k : Nat} (h8 : n ≤ 8) (hk : k < n) : decide (tl_df (wk_nb ha al th k) (mk n A) = 0) = sS m nr nd so th k A := by
  obtain ⟨h1, h2⟩ := hl k (by omega)
  apply tl_bool_ext
  rw [decide_eq_true_iff]
  unfold sS
  rw [cb_iff, tl_zero_bits]
  constructor
  · intro h j hj e
    by_cases q : th k = true ∧ so j = true
    · exact Or.inl q
    · right
      have h3 := h (nd j)
      rw [tl_df_bit] at h3
      have h4 : (wk_nb ha al th k).testBit (nd j) = true := by
        unfold wk_nb
        split
        · rename_i q2
          rw [h2, tl_fo_bit]
          refine ⟨j, hj, ?_⟩
          rw [if_pos ⟨e, by cases q3 : so j with | false => rfl | true => exact absurd ⟨q2, q3⟩ q⟩, tl_two_bit]
          simp
        · rw [h1, tl_fo_bit]
          refine ⟨j, hj, ?_⟩
          rw [if_pos e, tl_two_bit]
          simp
      rw [h4, mk_at (hm j hj).2] at h3
      simpa using h3
  · intro h j
    rw [tl_df_bit]
    cases h3 : (wk_nb ha al th k).testBit j with
    | false => rfl
    | true =>
      have : ∃ i, i < m ∧ nr i = k ∧ nd i = j ∧ (th k = true → so i = false) := by
        unfold wk_nb at h3
        split at h3
        · rename_i q2
          rw [h2, tl_fo_bit] at h3
          obtain ⟨i, hi, h4⟩ := h3
          split at h4
          · rename_i q3
            rw [tl_two_bit] at h4
            exact ⟨i, hi, q3.1, of_decide_eq_true h4, fun _ => q3.2⟩
          · rw [Nat.zero_testBit] at h4
            simp at h4
        · rename_i q2
          rw [h1, tl_fo_bit] at h3
          obtain ⟨i, hi, h4⟩ := h3
          split at h4
          · rename_i q3
            rw [tl_two_bit] at h4
            exact ⟨i, hi, q3, of_decide_eq_true h4, fun q4 => absurd q4 q2⟩
          · rw [Nat.zero_testBit] at h4
            simp at h4
      obtain ⟨i, hi, e1, e2, e3⟩ := this
      rcases h i hi e1 with q | q
      · rw [e3 q.1] at q
        simp at q
      · subst e2
        rw [mk_at (hm i hi).2, q]
        rfl
theorem sd_f_mask {n m : Nat} {nr nd : Nat → Nat} {so th : Nat → Bool} {ha al : Nat → Nat} (hl : lk m nr nd so ha al) (hm : ∀ j, j < m → nr j < n ∧ nd j < n) (h8 : n ≤ 8) {A : Nat → Bool} : sd_f (wk_nb ha al th) n (mk n A) = mk n (sd_J (sS m nr nd so th) A) := by
  unfold sd_f
  apply mk_ext
  intro k hk
  rw [mk_at hk, sS_mask hl hm h8 hk]
  rfl
theorem sd_it_mask {n m : Nat} {nr nd : Nat → Nat} {so th : Nat → Bool} {ha al : Nat → Nat} (hl : lk m nr nd so ha al) (hm : ∀ j, j < m → nr j < n ∧ nd j < n) (h8 : n ≤ 8) : ∀ {k : Nat} {A : Nat → Bool}, sd_it (wk_nb ha al th) n k (mk n A) = mk n (sd_Ji (sS m nr nd so th) k A)
  | 0, _ => rfl
  | k + 1, A => by rw [sd_it, sd_f_mask hl hm h8, sd_it_mask hl hm h8, sd_Ji]
theorem wk_nb_congr {ha al : Nat → Nat} {T U : Nat → Bool} {k : Nat} (h : T k = U k) : wk_nb ha al T k = wk_nb ha al U k := by
  unfold wk_nb
  rw [h]
theorem sd_f_congr {nb nc : Nat → Nat} {n l : Nat} (h : ∀ k, k < n → nb k = nc k) : sd_f nb n l = sd_f nc n l := by
  unfold sd_f
  apply mk_ext
  intro k hk
  rw [h k hk]
theorem sd_it_congr {nb nc : Nat → Nat} {n : Nat} (h : ∀ k, k < n → nb k = nc k) : ∀ {k l : Nat}, sd_it nb n k l = sd_it nc n k l
  | 0, _ => rfl
  | k + 1, l => by rw [sd_it, sd_it, sd_f_congr h, sd_it_congr h]
end SD
