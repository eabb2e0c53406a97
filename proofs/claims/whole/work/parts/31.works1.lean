/-! ===== Works: the small methods ===== -/
section WK
/-- a work's needs: those that stay when it is thin, or all -/
def wk_nb (ha al : Nat → Nat) (T : Nat → Bool) (w : Nat) : Nat := if T w then ha w else al w
/-- what the cells of Works say -/
def wk_at (σ : ex_S) (n : Nat) (ha al : Nat → Nat) : Prop := n ≤ 8 ∧ σ.1 306 = nI n ∧ (∀ k, k < 8 → σ.2.2.1 31 k = nI (al k) ∧ σ.2.2.1 32 k = nI (ha k) ∧ al k < 2 ^ n ∧ ha k < 2 ^ n)
theorem wk_nb_lt {ha al : Nat → Nat} {σ : ex_S} {n : Nat} (h : wk_at σ n ha al) {T : Nat → Bool} {w : Nat} (hw : w < 8) : wk_nb ha al T w < 2 ^ n := by
  unfold wk_nb
  split
  · exact (h.2.2 w hw).2.2.2
  · exact (h.2.2 w hw).2.2.1
def wk_all (ha al : Nat → Nat) (T : Nat → Bool) (n s : Nat) : Nat := tl_fo (fun w => if s.testBit w then wk_nb ha al T w else 0) n
theorem wk_all_lt {ha al : Nat → Nat} {σ : ex_S} {n s : Nat} (h : wk_at σ n ha al) {T : Nat → Bool} : wk_all ha al T n s < 2 ^ n := by
  apply tl_fo_lt
  intro i hi
  have hn := h.1
  split
  · exact wk_nb_lt h (by omega)
  · exact Nat.two_pow_pos n
def wk_it (ha al : Nat → Nat) (T : Nat → Bool) (n : Nat) : Nat → Nat → Nat
  | 0, r => r
  | k + 1, r => wk_it ha al T n k (r ||| wk_all ha al T n r)
theorem wk_it_fix {ha al : Nat → Nat} {T : Nat → Bool} {n r : Nat} (h : r ||| wk_all ha al T n r = r) : ∀ k, wk_it ha al T n k r = r
  | 0 => rfl
  | k + 1 => by rw [wk_it, h, wk_it_fix h k]
theorem wk_it_lt {ha al : Nat → Nat} {σ : ex_S} {n : Nat} (h : wk_at σ n ha al) {T : Nat → Bool} : ∀ {k r : Nat}, r < 2 ^ n → wk_it ha al T n k r < 2 ^ n
  | 0, r, hr => hr
  | k + 1, r, hr => by
    rw [wk_it]
    exact wk_it_lt h (Nat.or_lt_two_pow hr (wk_all_lt h))
def wk_fr (ha al : Nat → Nat) (T : Nat → Bool) (n w : Nat) : Nat → Nat
  | 0 => wk_nb ha al T w
  | k + 1 => wk_all ha al T n (wk_fr ha al T n w k)
def wk_ls (f : Nat → Nat) (v : Nat) : Nat → Nat → Int32
  | 0, _ => -1
  | r + 1, k => if (f k).testBit v then nI (k + 1) else wk_ls f v r (k + 1)
def wk_can (c : Nat → Int32) (s : Int32) (n : Nat) : Nat := tl_fo (fun w => if tb s w = true ∧ c w ≠ -1 then 2 ^ w else 0) n
def wk_co (c : Nat → Int32) (s : Int32) : Nat → Int32
  | 0 => 0
  | i + 1 => if tb s i = true then wk_co c s i + c i else wk_co c s i
/-- one round of taking away -/
def wk_kr (ha al : Nat → Nat) (T : Nat → Bool) (r : Nat) : Nat → Nat
  | 0 => r
  | i + 1 => if (wk_kr ha al T r i).testBit i = true ∧ wk_nb ha al T i &&& wk_kr ha al T r i = 0 then tl_df (wk_kr ha al T r i) (2 ^ i) else wk_kr ha al T r i
def wk_kb (ha al : Nat → Nat) (T : Nat → Bool) (n : Nat) : Nat → Nat → Bool
  | 0, r => decide (r ≠ 0)
  | k + 1, r => if r = 0 then false else if wk_kr ha al T r n = r then true else wk_kb ha al T n k (wk_kr ha al T r n)
theorem wk_kr_lt {ha al : Nat → Nat} {T : Nat → Bool} {r n : Nat} (h : r < 2 ^ n) : ∀ i, wk_kr ha al T r i < 2 ^ n
  | 0 => h
  | i + 1 => by
    rw [wk_kr]
    split
    · exact tl_df_lt (wk_kr_lt h i) _
    · exact wk_kr_lt h i
noncomputable def wk_cc (ha al : Nat → Nat) (c : Nat → Int32) (n : Nat) : Nat → Int32 × Int32
  | 0 => (-1, 0)
  | s + 1 => if wk_can c (nI s) n = s ∧ ((wk_cc ha al c n s).1 = -1 ∨ wk_co c (nI s) n < (wk_cc ha al c n s).2) ∧ wk_kb ha al (tb (nI s)) n n (2 ^ n - 1) = false then (nI s, wk_co c (nI s) n) else wk_cc ha al c n s
end WK
