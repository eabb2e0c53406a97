/-! ===== tools: small numbers, bits, reading and writing of the state ===== -/
section TL
theorem tl_lit (n : Nat) : (OfNat.ofNat n : Int32) = nI n := rfl
theorem tl_b0 : ex_bool 0 = True := by simp [ex_bool]
theorem tl_b1 : ex_bool 1 = True := by simp [ex_bool]
theorem tl_le {a b : Nat} (ha : a < 2 ^ 31) (hb : b < 2 ^ 31) : (nI a ≤ nI b) = (a ≤ b) := propext (nI_leI ha hb)
theorem tl_lt {a b : Nat} (ha : a < 2 ^ 31) (hb : b < 2 ^ 31) : (nI a < nI b) = (a < b) := propext (nI_ltI ha hb)
theorem tl_eq {a b : Nat} (ha : a < 2 ^ 31) (hb : b < 2 ^ 31) : (nI a = nI b) = (a = b) := propext (nI_eq ha hb)
theorem tl_or (a b : Nat) : nI a ||| nI b = nI (a ||| b) := by
  apply Int32.toBitVec_inj.1
  show BitVec.ofNat 32 a ||| BitVec.ofNat 32 b = BitVec.ofNat 32 (a ||| b)
  apply BitVec.eq_of_getLsbD_eq
  intro i hi
  simp [hi]
theorem tl_and (a b : Nat) : nI a &&& nI b = nI (a &&& b) := by
  apply Int32.toBitVec_inj.1
  show BitVec.ofNat 32 a &&& BitVec.ofNat 32 b = BitVec.ofNat 32 (a &&& b)
  apply BitVec.eq_of_getLsbD_eq
  intro i hi
  simp [hi]
/-- what is in a and not in b -/
def tl_df (a b : Nat) : Nat := a ^^^ (a &&& b)
theorem tl_df_bit (a b j : Nat) : (tl_df a b).testBit j = (a.testBit j && !b.testBit j) := by
  unfold tl_df
  rw [Nat.testBit_xor, Nat.testBit_and]
  cases a.testBit j <;> cases b.testBit j <;> rfl
theorem tl_andnot (a b : Nat) : nI a &&& (nI b ^^^ (-1)) = nI (tl_df a b) := by
  apply Int32.toBitVec_inj.1
  show BitVec.ofNat 32 a &&& (BitVec.ofNat 32 b ^^^ (-1 : Int32).toBitVec) = BitVec.ofNat 32 (tl_df a b)
  rw [show (-1 : Int32).toBitVec = BitVec.allOnes 32 by decide]
  apply BitVec.eq_of_getLsbD_eq
  intro i hi
  simp only [BitVec.getLsbD_and, BitVec.getLsbD_xor, BitVec.getLsbD_ofNat, BitVec.getLsbD_allOnes, hi, tl_df_bit, decide_true, Bool.true_and, Bool.xor_true]
theorem tl_df_lt {a k : Nat} (h : a < 2 ^ k) (b : Nat) : tl_df a b < 2 ^ k := by
  unfold tl_df
  exact Nat.xor_lt_two_pow h (by rw [Nat.and_comm]; exact Nat.and_lt_two_pow b h)
theorem tl_sm : ∀ n, n < 32 → ((nI n &&& 31).toBitVec.smod 32).toNat = n := by decide +kernel
theorem tl_shr {x j : Nat} (hx : x < 2 ^ 31) (hj : j < 32) : nI x >>> (nI j &&& 31) = nI (x / 2 ^ j) := pk_shrN hx _ j (tl_sm j hj)
theorem tl_bit {x j : Nat} (hx : x < 2 ^ 31) (hj : j < 32) : (nI x >>> (nI j &&& 31)) &&& 1 = nI (if x.testBit j then 1 else 0) := by
  rw [tl_shr hx hj, show (1 : Int32) = nI 1 from rfl, tl_and]
  congr 1
  rw [Nat.and_one_is_mod, Nat.testBit_eq_decide_div_mod_eq]
  by_cases h : x / 2 ^ j % 2 = 1
  · simp [h]
  · simp [h]; omega
theorem tl_bit0 {x j : Nat} (hx : x < 2 ^ 31) (hj : j < 32) : ((nI x >>> (nI j &&& 31)) &&& 1 = 0) = (x.testBit j = false) := by
  rw [tl_bit hx hj]
  cases x.testBit j <;> simp [nI]
theorem tl_shl : ∀ j, j < 31 → (1 : Int32) <<< (nI j &&& 31) = nI (2 ^ j) := by decide +kernel
theorem tl_cl {n : Nat} (h : n < 2 ^ 31) : (nI n).toNatClampNeg = n := nI_clamp h
theorem tl_in {n N : Nat} (h : n < N) (hN : N < 2 ^ 31) : vp_in (nI n) N = True := eq_true (vp_in_nI h hN)
/-- or over the first places -/
def tl_fo (f : Nat → Nat) : Nat → Nat
  | 0 => 0
  | k + 1 => tl_fo f k ||| f k
theorem tl_fo_bit (f : Nat → Nat) (j : Nat) : ∀ n, (tl_fo f n).testBit j = true ↔ ∃ i, i < n ∧ (f i).testBit j = true
  | 0 => by simp [tl_fo]
  | n + 1 => by
    rw [tl_fo, Nat.testBit_or, Bool.or_eq_true, tl_fo_bit f j n]
    constructor
    · rintro (⟨i, h1, h2⟩ | h)
      · exact ⟨i, by omega, h2⟩
      · exact ⟨n, by omega, h⟩
    · rintro ⟨i, h1, h2⟩
      rcases Nat.lt_or_ge i n with q | q
      · exact Or.inl ⟨i, q, h2⟩
      · exact Or.inr (by rw [show n = i by omega]; exact h2)
theorem tl_fo_lt {f : Nat → Nat} {k : Nat} : ∀ {n : Nat}, (∀ i, i < n → f i < 2 ^ k) → tl_fo f n < 2 ^ k
  | 0, _ => Nat.two_pow_pos k
  | n + 1, h => Nat.or_lt_two_pow (tl_fo_lt (fun i hi => h i (by omega))) (h n (by omega))
end TL
