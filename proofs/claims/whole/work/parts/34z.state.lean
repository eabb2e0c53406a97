/-! ===== reading what was written ===== -/
section ST
theorem s_f1 (σ : ex_S) (i : Nat) (v : Int32) (j : Nat) : (ex_sF σ i v).1 j = if j = i then v else σ.1 j := rfl
theorem s_f2 (σ : ex_S) (i : Nat) (v : Int32) : (ex_sF σ i v).2 = σ.2 := rfl
theorem s_g1 (σ : ex_S) (i : Nat) (v : Int64) : (ex_sG σ i v).1 = σ.1 := rfl
theorem s_g2 (σ : ex_S) (i : Nat) (v : Int64) (j : Nat) : (ex_sG σ i v).2.1 j = if j = i then v else σ.2.1 j := rfl
theorem s_g3 (σ : ex_S) (i : Nat) (v : Int64) : (ex_sG σ i v).2.2 = σ.2.2 := rfl
theorem s_r1 (σ : ex_S) (a : Nat) (f : Nat → Int32) : (ex_row σ a f).1 = σ.1 := rfl
theorem s_r2 (σ : ex_S) (a : Nat) (f : Nat → Int32) : (ex_row σ a f).2.1 = σ.2.1 := rfl
theorem s_r3 (σ : ex_S) (a : Nat) (f : Nat → Int32) (b : Nat) : (ex_row σ a f).2.2.1 b = if b = a then f else σ.2.2.1 b := rfl
theorem s_r4 (σ : ex_S) (a : Nat) (f : Nat → Int32) : (ex_row σ a f).2.2.2 = σ.2.2.2 := rfl
theorem s_a (σ : ex_S) (a i : Nat) (v : Int32) : ex_sA σ a i v = ex_row σ a (upd (σ.2.2.1 a) i v) := rfl
theorem s_b1 (σ : ex_S) (a i : Nat) (v : Int64) : (ex_sB σ a i v).1 = σ.1 := rfl
theorem s_b2 (σ : ex_S) (a i : Nat) (v : Int64) : (ex_sB σ a i v).2.1 = σ.2.1 := rfl
theorem s_b3 (σ : ex_S) (a i : Nat) (v : Int64) : (ex_sB σ a i v).2.2.1 = σ.2.2.1 := rfl
theorem s_b4 (σ : ex_S) (a i : Nat) (v : Int64) (b : Nat) : (ex_sB σ a i v).2.2.2 b = if b = a then vp_updL (σ.2.2.2 a) i v else σ.2.2.2 b := rfl
theorem s_u (f : Nat → Int32) (i : Nat) (v : Int32) (j : Nat) : upd f i v j = if j = i then v else f j := rfl
theorem s_ar (σ : ex_S) (a i : Nat) (f : Nat → Int32) (v : Int32) : ex_sA (ex_row σ a f) a i v = ex_row σ a (upd f i v) := by
  rw [s_a, tl_row_row, tl_row_at]
theorem s_ff (σ : ex_S) (i : Nat) (v w : Int32) : ex_sF (ex_sF σ i v) i w = ex_sF σ i w := by
  unfold ex_sF
  refine Prod.ext ?_ rfl
  funext j
  by_cases h : j = i <;> simp [s_u, h]
theorem s_fs (σ : ex_S) (i : Nat) : ex_sF σ i (σ.1 i) = σ := by
  unfold ex_sF
  refine Prod.ext ?_ rfl
  funext j
  by_cases h : j = i <;> simp [s_u, h]
theorem i10 : ((1 : Int32) = 0) = False := by decide
theorem i01 : ((0 : Int32) = 1) = False := by decide
/-- a place among n, and none -/
theorem tl_win {x : Int32} {n : Nat} (hn : n < 2 ^ 30) : (0 ≤ x ∧ x ≤ nI n - 1) ↔ vp_in x n := by
  rw [vp_in_iff, Int32.le_iff_toInt_le, Int32.le_iff_toInt_le, show (1 : Int32) = nI 1 from rfl, pk_sub_toInt hn (by decide)]
  simp only [Int32.toInt_zero]
  omega
theorem tl_wout {x : Int32} {n : Nat} (hn : n < 2 ^ 30) : (x < 0 ∨ nI n ≤ x) ↔ ¬ vp_in x n := by
  rw [vp_in_iff, Int32.lt_iff_toInt_lt, Int32.le_iff_toInt_le, nI_toInt (by omega)]
  simp only [Int32.toInt_zero]
  omega
end ST
