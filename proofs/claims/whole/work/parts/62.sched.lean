/-! ===== schedules: sums, usage, what is away ===== -/
section SC
def pl_s (f : Nat → Nat) : Nat → Nat
  | 0 => 0
  | k + 1 => pl_s f k + f k
theorem pl_s_congr {f g : Nat → Nat} : ∀ {n : Nat}, (∀ i, i < n → f i = g i) → pl_s f n = pl_s g n
  | 0, _ => rfl
  | n + 1, h => by rw [pl_s, pl_s, pl_s_congr (fun i hi => h i (by omega)), h n (by omega)]
theorem pl_s_le {f g : Nat → Nat} : ∀ {n : Nat}, (∀ i, i < n → f i ≤ g i) → pl_s f n ≤ pl_s g n
  | 0, _ => Nat.le_refl 0
  | n + 1, h => by
    have h1 := pl_s_le (n := n) (fun i hi => h i (by omega))
    have h2 := h n (by omega)
    rw [pl_s, pl_s]
    omega
theorem pl_s_lt {f g : Nat → Nat} {k : Nat} (hs : f k < g k) : ∀ {n : Nat}, k < n → (∀ i, i < n → f i ≤ g i) → pl_s f n < pl_s g n
  | 0, hk, _ => absurd hk (by omega)
  | n + 1, hk, h => by
    rw [pl_s, pl_s]
    rcases Nat.lt_or_ge k n with q | q
    · have h1 := pl_s_lt hs q (fun i hi => h i (by omega))
      have h2 := h n (by omega)
      omega
    · have e : k = n := by omega
      subst e
      have h1 := pl_s_le (n := k) (fun i hi => h i (by omega))
      omega
theorem pl_s_add {f g : Nat → Nat} : ∀ {n : Nat}, pl_s (fun i => f i + g i) n = pl_s f n + pl_s g n
  | 0 => rfl
  | n + 1 => by
    rw [pl_s, pl_s, pl_s, pl_s_add (n := n)]
    omega
theorem pl_s_upd {f g : Nat → Nat} {k : Nat} : ∀ {n : Nat}, k < n → (∀ i, i < n → i ≠ k → f i = g i) → pl_s f n + g k = pl_s g n + f k
  | 0, hk, _ => absurd hk (by omega)
  | n + 1, hk, h => by
    rw [pl_s, pl_s]
    rcases Nat.lt_or_ge k n with q | q
    · have h1 := pl_s_upd q (fun i hi => h i (by omega))
      have h2 := h n (by omega) (by omega)
      omega
    · have e : k = n := by omega
      subst e
      have h1 := pl_s_congr (n := k) (fun i hi => h i (by omega) (by omega))
      omega
theorem pl_s_zero : ∀ {n : Nat}, pl_s (fun _ => 0) n = 0
  | 0 => rfl
  | n + 1 => by rw [pl_s, pl_s_zero]
theorem pl_s_bd {f : Nat → Nat} {c : Nat} : ∀ {n : Nat}, (∀ i, i < n → f i ≤ c) → pl_s f n ≤ c * n
  | 0, _ => Nat.zero_le _
  | n + 1, h => by
    have h1 := pl_s_bd (n := n) (fun i hi => h i (by omega))
    have h2 := h n (by omega)
    rw [pl_s, Nat.mul_succ]
    omega
theorem pl_s_ge {f : Nat → Nat} {k n : Nat} (hk : k < n) : f k ≤ pl_s f n := by
  have h1 := pl_s_upd (f := f) (g := fun i => if i = k then 0 else f i) hk (fun i _ hi => by simp [hi])
  simp at h1
  omega
/-- the hands in use at a tick -/
def pl_u (n : Nat) (t h : Nat → Nat) (p : Nat) (b : Nat → Nat) (x : Nat) : Nat := pl_s (fun w => if p.testBit w = true ∧ b w ≤ x ∧ x < b w + t w then h w else 0) n
def pl_ok (n H : Nat) (t h N : Nat → Nat) (p : Nat) (b : Nat → Nat) : Prop := (∀ w v, w < n → p.testBit w = true → (N w).testBit v = true → p.testBit v = true ∧ b v + t v ≤ b w) ∧ ∀ x, pl_u n t h p b x ≤ H
def pl_A (n : Nat) (t wt : Nat → Nat) (p : Nat) (b : Nat → Nat) : Nat := pl_s (fun w => if p.testBit w = true then wt w * (b w + t w) else 0) n
def pl_K (n p : Nat) (b : Nat → Nat) : Nat := pl_s (fun w => if p.testBit w = true then b w * 128 ^ (7 - w) else 0) n
def pl_V (n : Nat) (t wt : Nat → Nat) (p : Nat) (b : Nat → Nat) : Nat := pl_A n t wt p b * 2 ^ 60 + pl_K n p b
def pl_up (b : Nat → Nat) (w a k : Nat) : Nat := if k = w then a else b k
theorem pl_up_at (b : Nat → Nat) (w a : Nat) : pl_up b w a w = a := by simp [pl_up]
theorem pl_up_ne (b : Nat → Nat) {w k : Nat} (a : Nat) (h : k ≠ w) : pl_up b w a k = b k := by simp [pl_up, h]
theorem pl_fb {n w : Nat} (h : w < n) : (2 ^ n - 1).testBit w = true := by
  rw [Nat.testBit_two_pow_sub_one]
  exact decide_eq_true h
theorem pl_ib {p w k : Nat} : (p ||| 2 ^ w).testBit k = (p.testBit k || decide (w = k)) := by
  rw [Nat.testBit_or, tl_two_bit]
variable {n H : Nat} {t h wt N : Nat → Nat}
theorem pl_A_le {p : Nat} {b c : Nat → Nat} (hb : ∀ w, w < n → p.testBit w = true → b w ≤ c w) : pl_A n t wt p b ≤ pl_A n t wt p c := by
  apply pl_s_le
  intro i hi
  by_cases q : p.testBit i = true
  · have := hb i hi q
    simp only [q, if_true]
    exact Nat.mul_le_mul_left _ (by omega)
  · simp [q]
theorem pl_K_le {p : Nat} {b c : Nat → Nat} (hb : ∀ w, w < n → p.testBit w = true → b w ≤ c w) : pl_K n p b ≤ pl_K n p c := by
  apply pl_s_le
  intro i hi
  by_cases q : p.testBit i = true
  · simp only [q, if_true]
    exact Nat.mul_le_mul_right _ (hb i hi q)
  · simp [q]
theorem pl_K_lt {p : Nat} {b c : Nat → Nat} {k : Nat} (hk : k < n) (hp : p.testBit k = true) (hs : b k < c k) (hb : ∀ w, w < n → p.testBit w = true → b w ≤ c w) : pl_K n p b < pl_K n p c := by
  apply pl_s_lt (k := k) _ hk
  · intro i hi
    by_cases q : p.testBit i = true
    · simp only [q, if_true]
      exact Nat.mul_le_mul_right _ (hb i hi q)
    · simp [q]
  · simp only [hp, if_true]
    exact Nat.mul_lt_mul_of_pos_right hs (Nat.pow_pos (by decide))
theorem pl_V_le {p : Nat} {b c : Nat → Nat} (hb : ∀ w, w < n → p.testBit w = true → b w ≤ c w) : pl_V n t wt p b ≤ pl_V n t wt p c := by
  have h1 := pl_A_le (t := t) (wt := wt) hb
  have h2 := pl_K_le hb
  have h3 := Nat.mul_le_mul_right (2 ^ 60) h1
  exact Nat.add_le_add h3 h2
theorem pl_V_lt {p : Nat} {b c : Nat → Nat} {k : Nat} (hk : k < n) (hp : p.testBit k = true) (hs : b k < c k) (hb : ∀ w, w < n → p.testBit w = true → b w ≤ c w) : pl_V n t wt p b < pl_V n t wt p c := by
  have h1 := pl_A_le (t := t) (wt := wt) hb
  have h2 := pl_K_lt hk hp hs hb
  have h3 := Nat.mul_le_mul_right (2 ^ 60) h1
  exact Nat.add_lt_add_of_le_of_lt h3 h2
theorem pl_u_congr {p : Nat} {b c : Nat → Nat} {x : Nat} (hb : ∀ w, w < n → p.testBit w = true → b w = c w) : pl_u n t h p b x = pl_u n t h p c x := by
  apply pl_s_congr
  intro i hi
  by_cases q : p.testBit i = true
  · rw [hb i hi q]
  · simp [q]
theorem pl_A_congr {p : Nat} {b c : Nat → Nat} (hb : ∀ w, w < n → p.testBit w = true → b w = c w) : pl_A n t wt p b = pl_A n t wt p c := by
  apply pl_s_congr
  intro i hi
  by_cases q : p.testBit i = true
  · simp only [q, if_true]
    rw [hb i hi q]
  · simp [q]
theorem pl_K_congr {p : Nat} {b c : Nat → Nat} (hb : ∀ w, w < n → p.testBit w = true → b w = c w) : pl_K n p b = pl_K n p c := by
  apply pl_s_congr
  intro i hi
  by_cases q : p.testBit i = true
  · simp only [q, if_true]
    rw [hb i hi q]
  · simp [q]
theorem pl_ok_congr {p : Nat} {b c : Nat → Nat} (hN : ∀ w, w < n → N w < 2 ^ n) (hb : ∀ w, w < n → p.testBit w = true → b w = c w) (hok : pl_ok n H t h N p b) : pl_ok n H t h N p c := by
  refine ⟨fun w v hw hp hv => ?_, fun x => ?_⟩
  · have h1 := hok.1 w v hw hp hv
    rw [← hb w hw hp, ← hb v (tl_bit_lt (hN w hw) hv) h1.1]
    exact h1
  · rw [← pl_u_congr hb]
    exact hok.2 x
/-- one work earlier -/
theorem pl_move {S : Nat → Nat} {w a : Nat} (hok : pl_ok n H t h N (2 ^ n - 1) S) (hN : ∀ w, w < n → N w < 2 ^ n) (hw : w < n) (ha : a < S w) (hnd : ∀ v, (N w).testBit v = true → S v + t v ≤ a) (hu : ∀ x, a ≤ x → x < a + t w → x < S w → pl_u n t h (2 ^ n - 1) S x + h w ≤ H) : pl_ok n H t h N (2 ^ n - 1) (pl_up S w a) := by
  refine ⟨fun x v hx hp hv => ?_, fun x => ?_⟩
  · have h1 := hok.1 x v hx hp hv
    refine ⟨h1.1, ?_⟩
    by_cases e : x = w
    · subst e
      have h2 := hnd v hv
      have h3 : v ≠ x := fun e => by subst e; omega
      rw [pl_up_at, pl_up_ne _ _ h3]
      exact h2
    · rw [pl_up_ne _ _ e]
      by_cases e2 : v = w
      · subst e2
        rw [pl_up_at]
        omega
      · rw [pl_up_ne _ _ e2]
        exact h1.2
  · have h1 := hok.2 x
    have h2 := pl_s_upd (f := fun k => if (2 ^ n - 1).testBit k = true ∧ pl_up S w a k ≤ x ∧ x < pl_up S w a k + t k then h k else 0) (g := fun k => if (2 ^ n - 1).testBit k = true ∧ S k ≤ x ∧ x < S k + t k then h k else 0) hw (fun i _ hi => by rw [pl_up_ne _ _ hi])
    have h3 := hu x
    simp only [pl_up_at, pl_fb hw, true_and] at h2
    unfold pl_u at h1 h3 ⊢
    by_cases q : a ≤ x ∧ x < a + t w
    · rw [if_pos q] at h2
      by_cases q2 : x < S w
      · have h4 := h3 q.1 q.2 q2
        rw [if_neg (by omega)] at h2
        omega
      · rw [if_pos (by omega)] at h2
        omega
    · rw [if_neg q] at h2
      omega
/-- another beginning of the same works -/
def pl_mix (p : Nat) (P S : Nat → Nat) (w : Nat) : Nat := if p.testBit w = true then P w else S w
theorem pl_exch {S P : Nat → Nat} {p q : Nat} (hS : pl_ok n H t h N (2 ^ n - 1) S) (hP : pl_ok n H t h N p P) (hN : ∀ w, w < n → N w < 2 ^ n) (hq : ∀ w, w < n → p.testBit w = false → q ≤ S w) (hf : ∀ w, w < n → p.testBit w = true → S w ≤ q) (hc : ∀ w, w < n → p.testBit w = true → P w ≤ S w ∨ P w + t w ≤ q) : pl_ok n H t h N (2 ^ n - 1) (pl_mix p P S) := by
  refine ⟨fun x v hx hp hv => ?_, fun x => ?_⟩
  · have h1 := hS.1 x v hx hp hv
    have hvn := tl_bit_lt (hN x hx) hv
    refine ⟨h1.1, ?_⟩
    unfold pl_mix
    by_cases e : p.testBit x = true
    · have h2 := hP.1 x v hx e hv
      rw [if_pos e, if_pos h2.1]
      exact h2.2
    · rw [if_neg e]
      by_cases e2 : p.testBit v = true
      · rw [if_pos e2]
        have h3 := hc v hvn e2
        have h4 := hq x hx (by simpa using e)
        omega
      · rw [if_neg e2]
        exact h1.2
  · rcases Nat.lt_or_ge x q with hx | hx
    · refine Nat.le_trans (pl_s_le ?_) (hP.2 x)
      intro i hi
      unfold pl_mix
      by_cases e : p.testBit i = true
      · simp [e, pl_fb hi]
      · have h4 := hq i hi (by simpa using e)
        rw [if_neg e, if_neg (by omega)]
        exact Nat.zero_le _
    · refine Nat.le_trans (pl_s_le ?_) (hS.2 x)
      intro i hi
      unfold pl_mix
      by_cases e : p.testBit i = true
      · have h3 := hc i hi e
        have h4 := hf i hi e
        simp only [if_pos e, pl_fb hi, true_and]
        by_cases e2 : P i ≤ x ∧ x < P i + t i
        · rw [if_pos e2, if_pos (by omega)]
          exact Nat.le_refl _
        · rw [if_neg e2]
          exact Nat.zero_le _
      · rw [if_neg e]
        exact Nat.le_refl _
theorem pl_exch_V {S P : Nat → Nat} {p : Nat} : pl_V n t wt (2 ^ n - 1) (pl_mix p P S) + pl_V n t wt p S = pl_V n t wt (2 ^ n - 1) S + pl_V n t wt p P := by
  have h1 : pl_A n t wt (2 ^ n - 1) (pl_mix p P S) + pl_A n t wt p S = pl_A n t wt (2 ^ n - 1) S + pl_A n t wt p P := by
    unfold pl_A
    rw [← pl_s_add, ← pl_s_add]
    apply pl_s_congr
    intro i hi
    simp only [pl_fb hi, if_true, pl_mix]
    by_cases e : p.testBit i = true
    · simp only [e, if_true]
      omega
    · simp [e]
  have h2 : pl_K n (2 ^ n - 1) (pl_mix p P S) + pl_K n p S = pl_K n (2 ^ n - 1) S + pl_K n p P := by
    unfold pl_K
    rw [← pl_s_add, ← pl_s_add]
    apply pl_s_congr
    intro i hi
    simp only [pl_fb hi, if_true, pl_mix]
    by_cases e : p.testBit i = true
    · simp only [e, if_true]
      omega
    · simp [e]
  have h3 := congrArg (fun z => z * 2 ^ 60) h1
  simp only [Nat.add_mul] at h3
  unfold pl_V
  generalize 2 ^ 60 = B at *
  omega
/-- one work more -/
theorem pl_u_add {p w a x : Nat} {b : Nat → Nat} (hw : w < n) (hp : p.testBit w = false) : pl_u n t h (p ||| 2 ^ w) (pl_up b w a) x = pl_u n t h p b x + if a ≤ x ∧ x < a + t w then h w else 0 := by
  have h2 := pl_s_upd (f := fun k => if (p ||| 2 ^ w).testBit k = true ∧ pl_up b w a k ≤ x ∧ x < pl_up b w a k + t k then h k else 0) (g := fun k => if p.testBit k = true ∧ b k ≤ x ∧ x < b k + t k then h k else 0) hw (fun i _ hi => by rw [pl_up_ne _ _ hi, pl_ib]; simp [Ne.symm hi])
  simp only [pl_up_at, pl_ib, hp] at h2
  simp at h2
  unfold pl_u
  simp only [pl_ib] at h2 ⊢
  simp at h2 ⊢
  omega
theorem pl_A_add {p w a : Nat} {b : Nat → Nat} (hw : w < n) (hp : p.testBit w = false) : pl_A n t wt (p ||| 2 ^ w) (pl_up b w a) = pl_A n t wt p b + wt w * (a + t w) := by
  have h2 := pl_s_upd (f := fun k => if (p ||| 2 ^ w).testBit k = true then wt k * (pl_up b w a k + t k) else 0) (g := fun k => if p.testBit k = true then wt k * (b k + t k) else 0) hw (fun i _ hi => by rw [pl_up_ne _ _ hi, pl_ib]; simp [Ne.symm hi])
  simp only [pl_up_at, pl_ib, hp] at h2
  simp at h2
  unfold pl_A
  simp only [pl_ib] at h2 ⊢
  simp at h2 ⊢
  omega
theorem pl_K_add {p w a : Nat} {b : Nat → Nat} (hw : w < n) (hp : p.testBit w = false) : pl_K n (p ||| 2 ^ w) (pl_up b w a) = pl_K n p b + a * 128 ^ (7 - w) := by
  have h2 := pl_s_upd (f := fun k => if (p ||| 2 ^ w).testBit k = true then pl_up b w a k * 128 ^ (7 - k) else 0) (g := fun k => if p.testBit k = true then b k * 128 ^ (7 - k) else 0) hw (fun i _ hi => by rw [pl_up_ne _ _ hi, pl_ib]; simp [Ne.symm hi])
  simp only [pl_up_at, pl_ib, hp] at h2
  simp at h2
  unfold pl_K
  simp only [pl_ib] at h2 ⊢
  simp at h2 ⊢
  omega
theorem pl_ok_add {p w a : Nat} {b : Nat → Nat} (hok : pl_ok n H t h N p b) (hN : ∀ w, w < n → N w < 2 ^ n) (hw : w < n) (hp : p.testBit w = false) (hnd : ∀ v, (N w).testBit v = true → p.testBit v = true ∧ b v + t v ≤ a) (hu : ∀ x, a ≤ x → x < a + t w → pl_u n t h p b x + h w ≤ H) : pl_ok n H t h N (p ||| 2 ^ w) (pl_up b w a) := by
  have hne : ∀ v, p.testBit v = true → v ≠ w := fun v hv e => by subst e; rw [hp] at hv; cases hv
  refine ⟨fun x v hx hq hv => ?_, fun x => ?_⟩
  · rw [pl_ib] at hq ⊢
    by_cases e : x = w
    · subst e
      have h2 := hnd v hv
      rw [pl_up_at, pl_up_ne _ _ (hne v h2.1), h2.1]
      exact ⟨rfl, h2.2⟩
    · have h1 : p.testBit x = true := by simpa [Ne.symm e] using hq
      have h2 := hok.1 x v hx h1 hv
      rw [pl_up_ne _ _ e, pl_up_ne _ _ (hne v h2.1), h2.1]
      exact ⟨rfl, h2.2⟩
  · rw [pl_u_add hw hp]
    have h1 := hok.2 x
    have h2 := hu x
    by_cases q : a ≤ x ∧ x < a + t w
    · rw [if_pos q]
      exact h2 q.1 q.2
    · rw [if_neg q]
      exact h1
/-- all have begun: hands that are free stay free -/
theorem pl_u_anti {p x y : Nat} {b : Nat → Nat} (hb : ∀ w, w < n → p.testBit w = true → b w ≤ x) (hxy : x ≤ y) : pl_u n t h p b y ≤ pl_u n t h p b x := by
  apply pl_s_le
  intro i hi
  by_cases q : p.testBit i = true ∧ b i ≤ y ∧ y < b i + t i
  · rw [if_pos q, if_pos ⟨q.1, hb i hi q.1, by omega⟩]
    exact Nat.le_refl _
  · rw [if_neg q]
    exact Nat.zero_le _
/-- the work that any good schedule begins next fits by its tick there -/
theorem pl_next {p w x : Nat} {b S : Nat → Nat} (hS : pl_ok n H t h N (2 ^ n - 1) S) (hb : ∀ v, v < n → p.testBit v = true → b v ≤ S v) (hw : w < n) (hp : p.testBit w = false) (ho : ∀ v, v < n → p.testBit v = true → S v ≤ S w) (h1 : S w ≤ x) (h2 : x < S w + t w) : pl_u n t h p b x + h w ≤ H := by
  refine Nat.le_trans ?_ (hS.2 x)
  have h3 := pl_s_upd (f := fun k => if (p.testBit k = true ∧ b k ≤ x ∧ x < b k + t k) ∨ k = w then h k else 0) (g := fun k => if p.testBit k = true ∧ b k ≤ x ∧ x < b k + t k then h k else 0) hw (fun i _ hi => by simp [hi])
  simp [hp] at h3
  unfold pl_u
  rw [← h3]
  apply pl_s_le
  intro i hi
  by_cases e : i = w
  · subst e
    simp [pl_fb hi, h1, h2]
  · by_cases q : p.testBit i = true ∧ b i ≤ x ∧ x < b i + t i
    · have h4 := hb i hi q.1
      have h5 := ho i hi q.1
      rw [if_pos (Or.inl q), if_pos ⟨pl_fb hi, by omega, by omega⟩]
      exact Nat.le_refl _
    · rw [if_neg (by rintro (q2 | q2); exact q q2; exact e q2)]
      exact Nat.zero_le _
/-- of those that are left the one that begins first, of several the lowest -/
theorem pl_min (S : Nat → Nat) (Q : Nat → Prop) : ∀ n, (∃ w, w < n ∧ Q w) → ∃ w, w < n ∧ Q w ∧ ∀ u, u < n → Q u → S w < S u ∨ (S w = S u ∧ w ≤ u)
  | 0, ⟨w, hw, _⟩ => absurd hw (by omega)
  | n + 1, ⟨w, hw, hq⟩ => by
    by_cases q : ∃ w, w < n ∧ Q w
    · obtain ⟨v, h1, h2, h3⟩ := pl_min S Q n q
      by_cases q2 : Q n ∧ S n < S v
      · refine ⟨n, by omega, q2.1, fun u hu hq => ?_⟩
        rcases Nat.lt_or_ge u n with q3 | q3
        · have := h3 u q3 hq
          omega
        · exact Or.inr ⟨by rw [show u = n by omega], by omega⟩
      · refine ⟨v, by omega, h2, fun u hu hq => ?_⟩
        rcases Nat.lt_or_ge u n with q3 | q3
        · exact h3 u q3 hq
        · have e : u = n := by omega
          subst e
          have : ¬ S u < S v := fun q4 => q2 ⟨hq, q4⟩
          omega
    · have e : w = n := by
        rcases Nat.lt_or_ge w n with q3 | q3
        · exact absurd ⟨w, q3, hq⟩ q
        · omega
      subst e
      refine ⟨w, by omega, hq, fun u hu hq2 => ?_⟩
      rcases Nat.lt_or_ge u w with q3 | q3
      · exact absurd ⟨u, q3, hq2⟩ q
      · exact Or.inr ⟨by rw [show u = w by omega], q3⟩
/-- a set that isn't all lacks one -/
theorem pl_lack {p n : Nat} (hp : p < 2 ^ n) (h : p ≠ 2 ^ n - 1) : ∃ w, w < n ∧ p.testBit w = false := by
  apply Classical.byContradiction
  intro hno
  apply h
  apply tl_mask_eq hp (by have := Nat.two_pow_pos n; omega)
  intro j hj
  rw [pl_fb hj]
  cases hb : p.testBit j with
  | true => rfl
  | false => exact absurd ⟨j, hj, hb⟩ hno
theorem pl_next_ready {p w : Nat} {S : Nat → Nat} (hS : pl_ok n H t h N (2 ^ n - 1) S) (ht : ∀ w, w < n → 1 ≤ t w) (hN : ∀ w, w < n → N w < 2 ^ n) (hw : w < n) (hm : ∀ u, u < n → p.testBit u = false → S w ≤ S u) : ∀ v, (N w).testBit v = true → p.testBit v = true := by
  intro v hv
  have h1 := hS.1 w v hw (pl_fb hw) hv
  have hvn := tl_bit_lt (hN w hw) hv
  have h2 := ht v hvn
  cases hb : p.testBit v with
  | true => rfl
  | false =>
    have := hm v hvn hb
    omega
/-! keys -/
def pl_d (f : Nat → Nat) : Nat → Nat
  | 0 => 0
  | k + 1 => pl_d f k * 128 + f k
theorem pl_d_s {f : Nat → Nat} : ∀ {k j : Nat}, pl_d f k * 128 ^ j = pl_s (fun w => f w * 128 ^ (k + j - 1 - w)) k
  | 0, j => by simp [pl_d, pl_s]
  | k + 1, j => by
    have h1 := pl_d_s (f := f) (k := k) (j := j + 1)
    rw [pl_d, pl_s, Nat.add_mul, Nat.mul_assoc, show 128 * 128 ^ j = 128 ^ (j + 1) by rw [Nat.pow_succ, Nat.mul_comm], h1]
    congr 1
    · apply pl_s_congr
      intro i hi
      congr 2
      omega
    · congr 2
      omega
theorem pl_d_div {f : Nat → Nat} (hf : ∀ w, f w < 128) {k : Nat} : ∀ {j : Nat}, pl_d f (k + j) / 128 ^ j = pl_d f k
  | 0 => by simp
  | j + 1 => by
    rw [← Nat.add_assoc, pl_d, Nat.pow_succ, Nat.mul_comm (128 ^ j), ← Nat.div_div_eq_div_mul]
    have h1 := hf (k + j)
    rw [show (pl_d f (k + j) * 128 + f (k + j)) / 128 = pl_d f (k + j) by omega]
    exact pl_d_div hf
theorem pl_d_lt {f : Nat → Nat} (hf : ∀ w, f w < 128) : ∀ {k : Nat}, pl_d f k < 128 ^ k
  | 0 => by simp [pl_d]
  | k + 1 => by
    have h1 := pl_d_lt hf (k := k)
    have h2 := hf k
    rw [pl_d, Nat.pow_succ]
    omega
theorem pl_d_up {f g : Nat → Nat} (hf : ∀ w, f w < 128) (hg : ∀ w, g w < 128) {k : Nat} (h : pl_d f k < pl_d g k) : ∀ {j : Nat}, pl_d f (k + j) < pl_d g (k + j)
  | 0 => h
  | j + 1 => by
    have h1 := pl_d_up hf hg h (j := j)
    have h2 := hf (k + j)
    rw [← Nat.add_assoc, pl_d, pl_d]
    omega
theorem pl_d_congr {f g : Nat → Nat} : ∀ {k : Nat}, (∀ i, i < k → f i = g i) → pl_d f k = pl_d g k
  | 0, _ => rfl
  | k + 1, h => by rw [pl_d, pl_d, pl_d_congr (fun i hi => h i (by omega)), h k (by omega)]
def pl_g (n p : Nat) (b : Nat → Nat) (w : Nat) : Nat := if w < n ∧ p.testBit w = true then b w else 0
theorem pl_s_more {f : Nat → Nat} {n : Nat} : ∀ {j : Nat}, (∀ i, n ≤ i → f i = 0) → pl_s f (n + j) = pl_s f n
  | 0, _ => rfl
  | j + 1, h => by rw [← Nat.add_assoc, pl_s, pl_s_more h, h (n + j) (by omega), Nat.add_zero]
theorem pl_K_d {p : Nat} {b : Nat → Nat} (h8 : n ≤ 8) : pl_K n p b = pl_d (pl_g n p b) 8 := by
  have h1 := pl_d_s (f := pl_g n p b) (k := 8) (j := 0)
  rw [Nat.pow_zero, Nat.mul_one] at h1
  rw [h1]
  have h2 := pl_s_more (f := fun w => pl_g n p b w * 128 ^ (8 + 0 - 1 - w)) (n := n) (j := 8 - n) (fun i hi => by
    rw [show pl_g n p b i = 0 from if_neg (by omega), Nat.zero_mul])
  rw [show n + (8 - n) = 8 by omega] at h2
  rw [h2]
  apply pl_s_congr
  intro i hi
  unfold pl_g
  by_cases q : p.testBit i = true
  · simp [q, hi]
  · simp [q]
theorem pl_g_lt {p : Nat} {b : Nat → Nat} (hb : ∀ w, w < n → p.testBit w = true → b w < 128) (w : Nat) : pl_g n p b w < 128 := by
  unfold pl_g
  split
  · rename_i q
    exact hb w q.1 q.2
  · decide
theorem pl_K_digit {p w : Nat} {b : Nat → Nat} (h8 : n ≤ 8) (hb : ∀ w, w < n → p.testBit w = true → b w < 128) (hw : w < n) (hp : p.testBit w = true) : pl_K n p b / 128 ^ (7 - w) % 128 = b w := by
  rw [pl_K_d h8]
  have h1 := pl_d_div (f := pl_g n p b) (pl_g_lt hb) (k := w + 1) (j := 7 - w)
  rw [show w + 1 + (7 - w) = 8 by omega] at h1
  rw [h1, pl_d]
  have h2 := pl_g_lt hb w
  rw [show (pl_d (pl_g n p b) w * 128 + pl_g n p b w) % 128 = pl_g n p b w by omega]
  exact if_pos ⟨hw, hp⟩
theorem pl_K_lt56 {p : Nat} {b : Nat → Nat} (h8 : n ≤ 8) (hb : ∀ w, w < n → p.testBit w = true → b w < 128) : pl_K n p b < 2 ^ 56 := by
  rw [pl_K_d h8]
  exact pl_d_lt (pl_g_lt hb) (k := 8)
/-- a key tells the beginnings -/
theorem pl_K_inj {p : Nat} {b c : Nat → Nat} (h8 : n ≤ 8) (hb : ∀ w, w < n → p.testBit w = true → b w < 128) (hc : ∀ w, w < n → p.testBit w = true → c w < 128) (e : pl_K n p b = pl_K n p c) : ∀ w, w < n → p.testBit w = true → b w = c w := by
  intro w hw hp
  rw [← pl_K_digit h8 hb hw hp, e, pl_K_digit h8 hc hw hp]
/-- (away, key) compared -/
theorem pl_less {a k a2 k2 : Nat} (h1 : k < 2 ^ 60) (h2 : k2 < 2 ^ 60) : (a < a2 ∨ (a = a2 ∧ k < k2)) ↔ a * 2 ^ 60 + k < a2 * 2 ^ 60 + k2 := by
  omega
end SC
