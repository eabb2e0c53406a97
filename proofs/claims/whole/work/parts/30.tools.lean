/-! ===== tools: small numbers, bits, reading and writing of the state ===== -/
section TL
theorem tl_lit (n : Nat) : (OfNat.ofNat n : Int32) = nI n := rfl
theorem tl_b0 : ex_bool 0 = True := by simp [ex_bool]
theorem tl_b1 : ex_bool 1 = True := by simp [ex_bool]
theorem tl_le {a b : Nat} (ha : a < 2 ^ 31) (hb : b < 2 ^ 31) : (nI a ≤ nI b) = (a ≤ b) := propext (nI_leI ha hb)
theorem tl_lt {a b : Nat} (ha : a < 2 ^ 31) (hb : b < 2 ^ 31) : (nI a < nI b) = (a < b) := propext (nI_ltI ha hb)
theorem tl_eq {a b : Nat} (ha : a < 2 ^ 31) (hb : b < 2 ^ 31) : (nI a = nI b) = (a = b) := propext (nI_eq ha hb)
theorem tl_eq0 {a : Nat} (ha : a < 2 ^ 31) : (nI a = 0) = (a = 0) := tl_eq ha (by decide)
theorem tl_bi (p : Prop) [Decidable p] : ex_bool (if p then 1 else 0) = True := by
  by_cases h : p <;> simp [h, ex_bool]
theorem tl_bj (p : Prop) [Decidable p] : ex_bool (if p then 0 else 1) = True := by
  by_cases h : p <;> simp [h, ex_bool]
theorem tl_or (a b : Nat) : nI a ||| nI b = nI (a ||| b) := by
  apply Int32.toBitVec_inj.1
  show BitVec.ofNat 32 a ||| BitVec.ofNat 32 b = BitVec.ofNat 32 (a ||| b)
  apply BitVec.eq_of_getLsbD_eq
  intro i hi
  simp [hi]
theorem tl_and (a b : Nat) : nI a &&& nI b = nI (a &&& b) := by
  apply Int32.toBitVec_inj.1
  show BitVec.ofNat 32 a &&& BitVec.ofNat 32 b = BitVec.ofNat 32 (a &&& b)
  apply BitVec.eq_of_getLsbD_eq
  intro i hi
  simp [hi]
/-- what is in a and not in b -/
def tl_df (a b : Nat) : Nat := a ^^^ (a &&& b)
theorem tl_df_bit (a b j : Nat) : (tl_df a b).testBit j = (a.testBit j && !b.testBit j) := by
  unfold tl_df
  rw [Nat.testBit_xor, Nat.testBit_and]
  cases a.testBit j <;> cases b.testBit j <;> rfl
theorem tl_andnot (a b : Nat) : nI a &&& (nI b ^^^ (-1)) = nI (tl_df a b) := by
  apply Int32.toBitVec_inj.1
  show BitVec.ofNat 32 a &&& (BitVec.ofNat 32 b ^^^ (-1 : Int32).toBitVec) = BitVec.ofNat 32 (tl_df a b)
  rw [show (-1 : Int32).toBitVec = BitVec.allOnes 32 by decide]
  apply BitVec.eq_of_getLsbD_eq
  intro i hi
  simp only [BitVec.getLsbD_and, BitVec.getLsbD_xor, BitVec.getLsbD_ofNat, BitVec.getLsbD_allOnes, hi, tl_df_bit, decide_true, Bool.true_and, Bool.xor_true]
theorem tl_df_lt {a k : Nat} (h : a < 2 ^ k) (b : Nat) : tl_df a b < 2 ^ k := by
  unfold tl_df
  exact Nat.xor_lt_two_pow h (by rw [Nat.and_comm]; exact Nat.and_lt_two_pow b h)
theorem tl_sm : ∀ n, n < 32 → ((nI n &&& 31).toBitVec.smod 32).toNat = n := by decide +kernel
theorem tl_shr {x j : Nat} (hx : x < 2 ^ 31) (hj : j < 32) : nI x >>> (nI j &&& 31) = nI (x / 2 ^ j) := pk_shrN hx _ j (tl_sm j hj)
theorem tl_bit {x j : Nat} (hx : x < 2 ^ 31) (hj : j < 32) : (nI x >>> (nI j &&& 31)) &&& 1 = nI (if x.testBit j then 1 else 0) := by
  rw [tl_shr hx hj, show (1 : Int32) = nI 1 from rfl, tl_and]
  congr 1
  rw [Nat.and_one_is_mod, Nat.testBit_eq_decide_div_mod_eq]
  by_cases h : x / 2 ^ j % 2 = 1
  · simp [h]
  · simp [h]; omega
theorem tl_bit0 {x j : Nat} (hx : x < 2 ^ 31) (hj : j < 32) : ((nI x >>> (nI j &&& 31)) &&& 1 = 0) = (x.testBit j = false) := by
  rw [tl_bit hx hj]
  cases x.testBit j <;> simp [nI]
theorem tl_shl : ∀ j, j < 31 → (1 : Int32) <<< (nI j &&& 31) = nI (2 ^ j) := by decide +kernel
theorem tl_cl {n : Nat} (h : n < 2 ^ 31) : (nI n).toNatClampNeg = n := nI_clamp h
theorem tl_in {n N : Nat} (h : n < N) (hN : N < 2 ^ 31) : vp_in (nI n) N = True := eq_true (vp_in_nI h hN)
/-- or over the first places -/
def tl_fo (f : Nat → Nat) : Nat → Nat
  | 0 => 0
  | k + 1 => tl_fo f k ||| f k
theorem tl_fo_bit (f : Nat → Nat) (j : Nat) : ∀ n, (tl_fo f n).testBit j = true ↔ ∃ i, i < n ∧ (f i).testBit j = true
  | 0 => by simp [tl_fo]
  | n + 1 => by
    rw [tl_fo, Nat.testBit_or, Bool.or_eq_true, tl_fo_bit f j n]
    constructor
    · rintro (⟨i, h1, h2⟩ | h)
      · exact ⟨i, by omega, h2⟩
      · exact ⟨n, by omega, h⟩
    · rintro ⟨i, h1, h2⟩
      rcases Nat.lt_or_ge i n with q | q
      · exact Or.inl ⟨i, q, h2⟩
      · exact Or.inr (by rw [show n = i by omega]; exact h2)
theorem tl_fo_lt {f : Nat → Nat} {k : Nat} : ∀ {n : Nat}, (∀ i, i < n → f i < 2 ^ k) → tl_fo f n < 2 ^ k
  | 0, _ => Nat.two_pow_pos k
  | n + 1, h => Nat.or_lt_two_pow (tl_fo_lt (fun i hi => h i (by omega))) (h n (by omega))
/-- a bit of any number -/
def tb (x : Int32) (j : Nat) : Bool := !decide ((x >>> (nI j &&& 31)) &&& 1 = 0)
theorem tb0 (x : Int32) (j : Nat) : (((x >>> (nI j &&& 31)) &&& 1) = 0) = (tb x j = false) := by
  unfold tb
  by_cases h : (x >>> (nI j &&& 31)) &&& 1 = 0 <;> simp [h]
theorem tl_and1 (y : Int32) : y &&& 1 = 0 ∨ y &&& 1 = 1 := by
  obtain ⟨j, hj, e⟩ := pk_andE y (m := 1) 1 (by decide)
  rcases (show j = 0 ∨ j = 1 by omega) with h | h
  · subst h
    exact Or.inl e
  · subst h
    exact Or.inr e
theorem tb1 (x : Int32) (j : Nat) : (((x >>> (nI j &&& 31)) &&& 1) = 1) = (tb x j = true) := by
  unfold tb
  rcases tl_and1 (x >>> (nI j &&& 31)) with h | h <;> rw [h] <;> simp
theorem tbv (x : Int32) (j : Nat) : ((x >>> (nI j &&& 31)) &&& 1) = if tb x j = true then 1 else 0 := by
  rcases tl_and1 (x >>> (nI j &&& 31)) with h | h
  · have := (tb0 x j).mp h
    rw [h, this]
    rfl
  · have := (tb1 x j).mp h
    rw [h, this]
    rfl
theorem tb_nI {x j : Nat} (hx : x < 2 ^ 31) (hj : j < 32) : tb (nI x) j = x.testBit j := by
  have h := tb0 (nI x) j
  rw [tl_bit0 hx hj] at h
  cases h1 : x.testBit j <;> cases h2 : tb (nI x) j <;> simp_all
theorem tl_for {A : Nat → Prop} {n : Nat} (h : ∀ i, i < n → ∀ R : Prop, A (i + 1) = R → A i = R) : A 0 = A n := by
  have key : ∀ k, k ≤ n → A 0 = A k := by
    intro k
    induction k with
    | zero => intro _; rfl
    | succ k ih => intro hk; rw [ih (by omega), h k (by omega) _ rfl]
  exact key n (Nat.le_refl n)
theorem tl_forz {τ : Type} {A : Nat → τ → Prop} {n : Nat} {Z : Prop} (h : ∀ i, i < n → ∀ (z : τ) (R : Prop), (∀ z2, A (i + 1) z2 = R) → A i z = R) (hz : ∀ z, A n z = Z) (z : τ) : A 0 z = Z := by
  have key : ∀ k i, i + k = n → ∀ z, A i z = Z := by
    intro k
    induction k with
    | zero => intro i hi; rw [show i = n by omega]; exact hz
    | succ k ih => intro i hi z; exact h i (by omega) z Z (ih (i + 1) (by omega))
  exact key n 0 (by omega) z
theorem tl_row_row (σ : ex_S) (a : Nat) (f g : Nat → Int32) : ex_row (ex_row σ a f) a g = ex_row σ a g := by
  unfold ex_row
  refine Prod.ext rfl (Prod.ext rfl (Prod.ext ?_ rfl))
  funext k
  by_cases h : k = a <;> simp [h]
theorem tl_row_self (σ : ex_S) (a : Nat) : ex_row σ a (σ.2.2.1 a) = σ := by
  unfold ex_row
  refine Prod.ext rfl (Prod.ext rfl (Prod.ext ?_ rfl))
  funext k
  by_cases h : k = a <;> simp [h]
theorem tl_row_at (σ : ex_S) (a : Nat) (f : Nat → Int32) : (ex_row σ a f).2.2.1 a = f := by simp [ex_row]
theorem tl_row_ne (σ : ex_S) {a b : Nat} (f : Nat → Int32) (h : b ≠ a) : (ex_row σ a f).2.2.1 b = σ.2.2.1 b := by simp [ex_row, h]
/-- how many of the first places -/
def tl_ct (f : Nat → Bool) : Nat → Nat
  | 0 => 0
  | k + 1 => tl_ct f k + (if f k then 1 else 0)
theorem tl_ct_le (f : Nat → Bool) : ∀ n, tl_ct f n ≤ n
  | 0 => Nat.le_refl 0
  | n + 1 => by
    have := tl_ct_le f n
    rw [tl_ct]
    split <;> omega
theorem tl_ct_mono {f g : Nat → Bool} : ∀ {n : Nat}, (∀ i, i < n → f i = true → g i = true) → tl_ct f n ≤ tl_ct g n
  | 0, _ => Nat.le_refl 0
  | n + 1, h => by
    have := tl_ct_mono (n := n) (fun i hi => h i (by omega))
    have h1 := h n (by omega)
    rw [tl_ct, tl_ct]
    cases hf : f n <;> cases hg : g n <;> simp_all <;> omega
theorem tl_ct_lt {f g : Nat → Bool} : ∀ {n : Nat}, (∀ i, i < n → f i = true → g i = true) → (∃ i, i < n ∧ f i = false ∧ g i = true) → tl_ct f n < tl_ct g n
  | 0, _, ⟨i, hi, _⟩ => absurd hi (by omega)
  | n + 1, h, ⟨i, hi, h1, h2⟩ => by
    have hm := tl_ct_mono (n := n) (fun i hi => h i (by omega))
    rw [tl_ct, tl_ct]
    rcases Nat.lt_or_ge i n with q | q
    · have := tl_ct_lt (n := n) (fun i hi => h i (by omega)) ⟨i, q, h1, h2⟩
      have h1 := h n (by omega)
      cases hf : f n <;> cases hg : g n <;> simp_all <;> omega
    · have e : i = n := by omega
      subst e
      rw [h1, h2]
      simp
      omega
theorem tl_ct_pos {f : Nat → Bool} {n i : Nat} (hi : i < n) (h : f i = true) : 0 < tl_ct f n := by
  have := tl_ct_lt (f := fun _ => false) (g := f) (n := n) (fun _ _ q => by simp at q) ⟨i, hi, rfl, h⟩
  omega
theorem tl_ct_zero {f : Nat → Bool} {n : Nat} (h : tl_ct f n = 0) : ∀ i, i < n → f i = false := by
  intro i hi
  cases hf : f i with
  | false => rfl
  | true => have := tl_ct_pos hi hf; omega
theorem tl_ct_all : ∀ n, tl_ct (fun _ => true) n = n
  | 0 => rfl
  | n + 1 => by rw [tl_ct, tl_ct_all n]; rfl
/-- a mask whose bits are all below n -/
theorem tl_bit_lt {a n j : Nat} (h : a < 2 ^ n) (hb : a.testBit j = true) : j < n := by
  rcases Nat.lt_or_ge j n with q | q
  · exact q
  · rw [Nat.testBit_lt_two_pow (Nat.lt_of_lt_of_le h (Nat.pow_le_pow_right (by decide) q))] at hb
    simp at hb
theorem tl_p8 {n : Nat} (h : n ≤ 8) : 2 ^ n ≤ 256 := Nat.pow_le_pow_right (by decide) h
theorem tl_mask_eq {a b n : Nat} (ha : a < 2 ^ n) (hb : b < 2 ^ n) (h : ∀ j, j < n → a.testBit j = b.testBit j) : a = b := by
  apply Nat.eq_of_testBit_eq
  intro j
  rcases Nat.lt_or_ge j n with q | q
  · exact h j q
  · rw [Nat.testBit_lt_two_pow (Nat.lt_of_lt_of_le ha (Nat.pow_le_pow_right (by decide) q)), Nat.testBit_lt_two_pow (Nat.lt_of_lt_of_le hb (Nat.pow_le_pow_right (by decide) q))]
theorem tl_zero_bits {a : Nat} : a = 0 ↔ ∀ j, a.testBit j = false := by
  constructor
  · intro h j
    rw [h]
    exact Nat.zero_testBit j
  · intro h
    apply Nat.eq_of_testBit_eq
    intro j
    rw [h j, Nat.zero_testBit]
theorem tl_two_bit (i j : Nat) : (2 ^ i).testBit j = decide (i = j) := Nat.testBit_two_pow
end TL
