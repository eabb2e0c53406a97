/-! ===== the model's search ===== -/
section MK
def mz (σ : ex_S) (le : Int32) (f g k : Nat → Int32) : ex_S := (fun j => if j = 531 then le else σ.1 j, σ.2.1, fun r => if r = 52 then f else if r = 53 then g else if r = 54 then k else σ.2.2.1 r, σ.2.2.2)
theorem mz_531 (σ : ex_S) (le : Int32) (f g k : Nat → Int32) (v : Int32) : ex_sF (mz σ le f g k) 531 v = mz σ v f g k := by
  refine Prod.ext ?_ rfl
  funext j
  show (if j = 531 then v else if j = 531 then le else σ.1 j) = (if j = 531 then v else σ.1 j)
  by_cases h1 : j = 531 <;> simp [h1]
theorem mz_52 (σ : ex_S) (le : Int32) (f g k : Nat → Int32) (i : Nat) (v : Int32) : ex_sA (mz σ le f g k) 52 i v = mz σ le (upd f i v) g k := by
  refine Prod.ext rfl (Prod.ext rfl (Prod.ext ?_ rfl))
  funext r
  show (if r = 52 then upd f i v else if r = 52 then f else if r = 53 then g else if r = 54 then k else σ.2.2.1 r) = (if r = 52 then upd f i v else if r = 53 then g else if r = 54 then k else σ.2.2.1 r)
  by_cases h1 : r = 52 <;> simp [h1]
theorem mz_53 (σ : ex_S) (le : Int32) (f g k : Nat → Int32) (i : Nat) (v : Int32) : ex_sA (mz σ le f g k) 53 i v = mz σ le f (upd g i v) k := by
  refine Prod.ext rfl (Prod.ext rfl (Prod.ext ?_ rfl))
  funext r
  show (if r = 53 then upd g i v else if r = 52 then f else if r = 53 then g else if r = 54 then k else σ.2.2.1 r) = (if r = 52 then f else if r = 53 then upd g i v else if r = 54 then k else σ.2.2.1 r)
  by_cases h1 : r = 53 <;> simp [h1]
theorem mz_54 (σ : ex_S) (le : Int32) (f g k : Nat → Int32) (i : Nat) (v : Int32) : ex_sA (mz σ le f g k) 54 i v = mz σ le f g (upd k i v) := by
  refine Prod.ext rfl (Prod.ext rfl (Prod.ext ?_ rfl))
  funext r
  show (if r = 54 then upd k i v else if r = 52 then f else if r = 53 then g else if r = 54 then k else σ.2.2.1 r) = (if r = 52 then f else if r = 53 then g else if r = 54 then upd k i v else σ.2.2.1 r)
  by_cases h1 : r = 54 <;> simp [h1]
theorem mz_1 (σ : ex_S) (le : Int32) (f g k : Nat → Int32) (j : Nat) : (mz σ le f g k).1 j = if j = 531 then le else σ.1 j := rfl
theorem mz_3 (σ : ex_S) (le : Int32) (f g k : Nat → Int32) (r : Nat) : (mz σ le f g k).2.2.1 r = if r = 52 then f else if r = 53 then g else if r = 54 then k else σ.2.2.1 r := rfl
theorem tl_fori {τ : Type} {A I : Nat → τ → Prop} {n : Nat} (h : ∀ i, i < n → ∀ z, I i z → (∀ z2, I (i + 1) z2 → A (i + 1) z2) → A i z) (hz : ∀ z, I n z → A n z) : ∀ z, I 0 z → A 0 z := by
  have key : ∀ k i, i + k = n → ∀ z, I i z → A i z := by
    intro k
    induction k with
    | zero => intro i hi; rw [show i = n by omega]; exact hz
    | succ k ih => intro i hi z hI; exact h i (by omega) z hI (ih (i + 1) (by omega))
  exact key n 0 (by omega)
theorem tl_least (P : Nat → Prop) : ∀ T, P T → ∃ r, r ≤ T ∧ P r ∧ ∀ s, s < r → ¬ P s := by
  intro T
  induction T using Nat.strongRecOn with
  | ind T ih =>
    intro h
    by_cases q : ∃ s, s < T ∧ P s
    · obtain ⟨s, h1, h2⟩ := q
      obtain ⟨r, h3, h4, h5⟩ := ih s h1 h2
      exact ⟨r, by omega, h4, h5⟩
    · exact ⟨T, Nat.le_refl T, h, fun s hs hp => q ⟨s, hs, hp⟩⟩
def pl_T (n : Nat) (t : Nat → Nat) (p : Nat) : Nat := pl_s (fun w => if p.testBit w = true then t w else 0) n
def mS (σ : ex_S) (n m H : Nat) (nr nd t h wt N : Nat → Nat) (so cn : Nat → Bool) (th : Int32) : Prop := md_at σ n m nr nd so ∧ σ.1 530 = th ∧ σ.1 529 = nI H ∧ (∀ j, md_cn (σ.2.2.1 36) th nr so j = cn j) ∧ (∀ w, w < n → σ.2.2.1 33 w = nI (t w) ∧ σ.2.2.1 34 w = nI (h w) ∧ σ.2.2.1 35 w = nI (wt w) ∧ 1 ≤ t w ∧ t w ≤ 12 ∧ h w ≤ H ∧ wt w ≤ 100) ∧ H ≤ 8 ∧ (∀ w, w < n → N w < 2 ^ n) ∧ ∀ w v, w < n → ((N w).testBit v = true ↔ md_R cn m nr nd w v)
def mC (n H cs : Nat) (t h wt N : Nat → Nat) (le : Int32) (f : Nat → Int32) (c : Nat → Nat) : Prop := pl_ok n H t h N (2 ^ n - 1) c ∧ (∀ w, w < n → c w + t w ≤ 96) ∧ le = nI (cs + pl_A n t wt (2 ^ n - 1) c) ∧ ∀ w, w < n → f w = nI (c w)
def mB (n H cs : Nat) (t h wt N : Nat → Nat) (le : Int32) (f : Nat → Int32) : Prop := le = -1 ∨ ∃ c, mC n H cs t h wt N le f c
def mLe (n H cs : Nat) (t h wt N : Nat → Nat) (le : Int32) (f : Nat → Int32) (X : Nat) : Prop := ∃ c, mC n H cs t h wt N le f c ∧ pl_V n t wt (2 ^ n - 1) c ≤ X
def mN (n H : Nat) (t h N : Nat → Nat) (p : Nat) (b : Nat → Nat) (g k : Nat → Int32) : Prop := p < 2 ^ n ∧ pl_ok n H t h N p b ∧ (∀ w, w < n → p.testBit w = true → g w = nI (b w) ∧ b w + t w ≤ pl_T n t p) ∧ ∀ x, x < 200 → k x = nI (pl_u n t h p b x)
def mE (n H : Nat) (t h N : Nat → Nat) (p : Nat) (b S : Nat → Nat) : Prop := pl_ok n H t h N (2 ^ n - 1) S ∧ (∀ w, w < n → p.testBit w = true → b w ≤ S w) ∧ ∀ v u, v < n → u < n → p.testBit v = true → p.testBit u = false → S v ≤ S u
def mP (n H cs : Nat) (t h wt N : Nat → Nat) (p : Nat) (b : Nat → Nat) (le : Int32) (f : Nat → Int32) (le2 : Int32) (f2 g2 k2 : Nat → Int32) : Prop := mB n H cs t h wt N le2 f2 ∧ mN n H t h N p b g2 k2 ∧ (∀ X, mLe n H cs t h wt N le f X → mLe n H cs t h wt N le2 f2 X) ∧ ∀ S, mE n H t h N p b S → mLe n H cs t h wt N le2 f2 (pl_V n t wt (2 ^ n - 1) S)
variable {n m H cs : Nat} {nr nd t h wt N : Nat → Nat} {so cn : Nat → Bool} {th : Int32} {σ : ex_S}
theorem pl_T_le (h8 : n ≤ 8) (ht : ∀ w, w < n → t w ≤ 12) {p : Nat} : pl_T n t p ≤ 96 := by
  have := pl_s_bd (f := fun w => if p.testBit w = true then t w else 0) (c := 12) (n := n) (fun i hi => by
    have := ht i hi
    split <;> omega)
  unfold pl_T
  omega
theorem pl_T_add {p w : Nat} (hw : w < n) (hp : p.testBit w = false) : pl_T n t (p ||| 2 ^ w) = pl_T n t p + t w := by
  have h2 := pl_s_upd (f := fun k => if (p ||| 2 ^ w).testBit k = true then t k else 0) (g := fun k => if p.testBit k = true then t k else 0) hw (fun i _ hi => by rw [pl_ib]; simp [Ne.symm hi])
  simp only [pl_ib, hp] at h2
  simp at h2
  unfold pl_T
  simp only [pl_ib] at h2 ⊢
  simp at h2 ⊢
  omega
theorem pl_u_le (h8 : n ≤ 8) (hh : ∀ w, w < n → h w ≤ 8) {p : Nat} {b : Nat → Nat} {x : Nat} : pl_u n t h p b x ≤ 64 := by
  have := pl_s_bd (f := fun w => if p.testBit w = true ∧ b w ≤ x ∧ x < b w + t w then h w else 0) (c := 8) (n := n) (fun i hi => by
    have := hh i hi
    split <;> omega)
  unfold pl_u
  omega
theorem pl_A_bd (h8 : n ≤ 8) (hw : ∀ w, w < n → wt w ≤ 100) {p c : Nat} {b : Nat → Nat} (hb : ∀ w, w < n → p.testBit w = true → b w + t w ≤ c) : pl_A n t wt p b ≤ 800 * c := by
  have := pl_s_bd (f := fun w => if p.testBit w = true then wt w * (b w + t w) else 0) (c := 100 * c) (n := n) (fun i hi => by
    by_cases q : p.testBit i = true
    · rw [if_pos q]
      exact Nat.mul_le_mul (hw i hi) (hb i hi q)
    · rw [if_neg q]
      exact Nat.zero_le _)
  unfold pl_A
  have h2 : 100 * c * n ≤ 100 * c * 8 := Nat.mul_le_mul_left _ h8
  omega
theorem pl_u_zero {p T : Nat} {b : Nat → Nat} (hb : ∀ w, w < n → p.testBit w = true → b w + t w ≤ T) {x : Nat} (hx : T ≤ x) : pl_u n t h p b x = 0 := by
  have : pl_u n t h p b x = pl_s (fun _ => 0) n := by
    apply pl_s_congr
    intro i hi
    apply if_neg
    rintro ⟨q1, q2, q3⟩
    have := hb i hi q1
    omega
  rw [this, pl_s_zero]
/-- what is placed weighs no more than all -/
theorem pl_A_sub {p : Nat} {b S : Nat → Nat} (hb : ∀ w, w < n → p.testBit w = true → b w ≤ S w) : pl_A n t wt p b ≤ pl_A n t wt (2 ^ n - 1) S := by
  apply pl_s_le
  intro i hi
  rw [if_pos (pl_fb hi)]
  by_cases q : p.testBit i = true
  · rw [if_pos q]
    have := hb i hi q
    exact Nat.mul_le_mul_left _ (by omega)
  · rw [if_neg q]
    exact Nat.zero_le _
theorem mLe_mono {le : Int32} {f : Nat → Int32} {X Y : Nat} (h1 : mLe n H cs t h wt N le f X) (h2 : X ≤ Y) : mLe n H cs t h wt N le f Y := by
  obtain ⟨c, h3, h4⟩ := h1
  exact ⟨c, h3, by omega⟩
/-- cells of a row, so many from a on, changed -/
def rg (k : Nat → Int32) (a : Nat) (v : Int32 → Int32) (j x : Nat) : Int32 := if a ≤ x ∧ x < a + j then v (k x) else k x
theorem rg_0 (k : Nat → Int32) (a : Nat) (v : Int32 → Int32) : rg k a v 0 = k := by
  funext x
  unfold rg
  rw [if_neg (by omega)]
theorem rg_s (k : Nat → Int32) (a j : Nat) (v : Int32 → Int32) : upd (rg k a v j) (a + j) (v (rg k a v j (a + j))) = rg k a v (j + 1) := by
  funext x
  rw [s_u]
  unfold rg
  by_cases q : x = a + j
  · subst q
    rw [if_pos rfl, if_neg (by omega), if_pos (by omega)]
  · rw [if_neg q]
    by_cases q2 : a ≤ x ∧ x < a + j
    · rw [if_pos q2, if_pos (by omega)]
    · rw [if_neg q2, if_neg (by omega)]
def cp (f g : Nat → Int32) (i x : Nat) : Int32 := if x < i then g x else f x
theorem cp_0 (f g : Nat → Int32) : cp f g 0 = f := by
  funext x
  unfold cp
  rw [if_neg (by omega)]
theorem cp_s (f g : Nat → Int32) (i : Nat) : upd (cp f g i) i (g i) = cp f g (i + 1) := by
  funext x
  rw [s_u]
  unfold cp
  by_cases q : x = i
  · subst q
    rw [if_pos rfl, if_pos (by omega)]
  · rw [if_neg q]
    by_cases q2 : x < i
    · rw [if_pos q2, if_pos (by omega)]
    · rw [if_neg q2, if_neg (by omega)]
/-- the child's first tick -/
theorem mS_first {p w : Nat} {b : Nat → Nat} {g k : Nat → Int32} (hs : mS σ n m H nr nd t h wt N so cn th) (hN : mN n H t h N p b g k) (hw : w < n) (hrd : ∀ v, (N w).testBit v = true → p.testBit v = true) : ∃ r, me nr nd cn b t w m ≤ r ∧ r ≤ pl_T n t p ∧ (∀ x, r ≤ x → x < r + t w → pl_u n t h p b x + h w ≤ H) ∧ (∀ s, me nr nd cn b t w m ≤ s → s < r → ∃ x, s ≤ x ∧ x < s + t w ∧ ¬ pl_u n t h p b x + h w ≤ H) := by
  obtain ⟨h1, h2, h3, h4, h5, h6, h7, h8⟩ := hs
  have hme : me nr nd cn b t w m ≤ pl_T n t p := by
    apply me_le
    intro j hj q1 q2
    have hv : (N w).testBit (nd j) = true := (h8 w (nd j) hw).mpr ⟨j, hj, q2, q1, rfl⟩
    exact (hN.2.2.1 (nd j) (tl_bit_lt (h7 w hw) hv) (hrd _ hv)).2
  obtain ⟨r, y1, y2, y3⟩ := tl_least (fun r => me nr nd cn b t w m ≤ r ∧ ∀ x, r ≤ x → x < r + t w → pl_u n t h p b x + h w ≤ H) (pl_T n t p) ⟨hme, fun x hx _ => by
    rw [pl_u_zero (fun w hw hp => (hN.2.2.1 w hw hp).2) hx]
    have := (h5 w hw).2.2.2.2.2.1
    omega⟩
  refine ⟨r, y2.1, y1, y2.2, fun s q1 q2 => ?_⟩
  apply Classical.byContradiction
  intro hno
  apply y3 s q2
  refine ⟨q1, fun x z1 z2 => ?_⟩
  apply Classical.byContradiction
  intro z3
  exact hno ⟨x, z1, z2, z3⟩
theorem mN_child {p w r : Nat} {b : Nat → Nat} {g k : Nat → Int32} (hs : mS σ n m H nr nd t h wt N so cn th) (hN : mN n H t h N p b g k) (hw : w < n) (hp : p.testBit w = false) (hrd : ∀ v, (N w).testBit v = true → p.testBit v = true) (hr : me nr nd cn b t w m ≤ r) (hT : r ≤ pl_T n t p) (hg : ∀ x, r ≤ x → x < r + t w → pl_u n t h p b x + h w ≤ H) : mN n H t h N (p ||| 2 ^ w) (pl_up b w r) (upd g w (nI r)) (rg k r (fun v => v + nI (h w)) (t w)) := by
  obtain ⟨h1, h2, h3, h4, h5, h6, h7, h8⟩ := hs
  refine ⟨Nat.or_lt_two_pow hN.1 (Nat.pow_lt_pow_right (by decide) hw), ?_, ?_, ?_⟩
  · refine pl_ok_add hN.2.1 h7 hw hp (fun v hv => ⟨hrd v hv, ?_⟩) hg
    obtain ⟨j, y1, y2, y3, y4⟩ := (h8 w v hw).mp hv
    have := me_ge (b := b) (t := t) (nd := nd) y1 y3 y2
    rw [y4] at this
    omega
  · intro x hx hq
    rw [pl_T_add hw hp, s_u]
    by_cases e : x = w
    · subst e
      rw [if_pos rfl, pl_up_at]
      exact ⟨rfl, by omega⟩
    · rw [pl_ib] at hq
      have h9 : p.testBit x = true := by simpa [Ne.symm e] using hq
      have := hN.2.2.1 x hx h9
      rw [if_neg e, pl_up_ne _ _ e]
      exact ⟨this.1, by omega⟩
  · intro x hx
    rw [pl_u_add hw hp]
    unfold rg
    rw [hN.2.2.2 x hx]
    by_cases q : r ≤ x ∧ x < r + t w
    · rw [if_pos q, if_pos q]
      exact nI_add _ _
    · rw [if_neg q, if_neg q, Nat.add_zero]
theorem mN_back {p w r : Nat} {b : Nat → Nat} {g k : Nat → Int32} (hk0 : mN n H t h N p b g k) {g2 k2 : Nat → Int32} (hN : mN n H t h N (p ||| 2 ^ w) (pl_up b w r) g2 k2) (hw : w < n) (hp : p.testBit w = false) : mN n H t h N p b g2 (rg k2 r (fun v => v - nI (h w)) (t w)) := by
  refine ⟨hk0.1, hk0.2.1, fun x hx hq => ?_, fun x hx => ?_⟩
  · have e : x ≠ w := fun e => by subst e; rw [hp] at hq; cases hq
    have := hN.2.2.1 x hx (by rw [pl_ib, hq]; rfl)
    rw [pl_up_ne _ _ e] at this
    exact ⟨this.1, (hk0.2.2.1 x hx hq).2⟩
  · have h1 := hN.2.2.2 x hx
    rw [pl_u_add hw hp] at h1
    unfold rg
    rw [h1]
    by_cases q : r ≤ x ∧ x < r + t w
    · rw [if_pos q, if_pos q]
      show nI (pl_u n t h p b x + h w) - nI (h w) = nI (pl_u n t h p b x)
      rw [pk_sub (by omega), Nat.add_sub_cancel]
    · rw [if_neg q, if_neg q, Nat.add_zero]
end MK
