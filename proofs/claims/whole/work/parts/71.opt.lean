/-! ===== there is a best plan, and it ends early ===== -/
section PF
variable {n H : Nat} {t h wt N : Nat → Nat}
def nR (N : Nat → Nat) (n a b : Nat) : Prop := a < n ∧ (N a).testBit b = true
def noRing (N : Nat → Nat) (n : Nat) : Prop := ¬ ∃ a l, a < n ∧ gw (nR N n) n l a a
/-- of those that are left one needs none of the others -/
theorem pl_free {D : Nat} (hN : ∀ w, w < n → N w < 2 ^ n) (hr : noRing N n) (hD : ∃ w, w < n ∧ D.testBit w = false) : ∃ w, w < n ∧ D.testBit w = false ∧ ∀ v, (N w).testBit v = true → D.testBit v = true := by
  apply Classical.byContradiction
  intro hno
  apply hr
  obtain ⟨w, hw, hDw⟩ := hD
  refine gw_ring (R := nR N n) (fun a => D.testBit a = false) (fun a ha hs => ?_) _ w hw hDw (Nat.le_refl _)
  apply Classical.byContradiction
  intro h2
  apply hno
  refine ⟨a, ha, hs, fun v hv => ?_⟩
  cases q : D.testBit v with
  | true => rfl
  | false => exact absurd ⟨v, tl_bit_lt (hN a ha) hv, q, ha, hv⟩ h2
theorem pl_lack2 {D : Nat} {k : Nat} (hk : k < n) (hc : tl_ct (fun i => D.testBit i) n = k) : ∃ w, w < n ∧ D.testBit w = false := by
  apply Classical.byContradiction
  intro hno
  have h1 : n ≤ tl_ct (fun i => D.testBit i) n := by
    have := tl_ct_mono (f := fun _ => true) (g := fun i => D.testBit i) (n := n) (fun i hi _ => by
      cases q : D.testBit i with
      | true => rfl
      | false => exact absurd ⟨i, hi, q⟩ hno)
    rw [tl_ct_all] at this
    exact this
  omega
theorem pl_seq (hN : ∀ w, w < n → N w < 2 ^ n) (hr : noRing N n) : ∀ k, k ≤ n → ∃ (S : Nat → Nat) (D : Nat), D < 2 ^ n ∧ tl_ct (fun i => D.testBit i) n = k ∧ (∀ w v, w < n → D.testBit w = true → (N w).testBit v = true → D.testBit v = true ∧ S v + 12 ≤ S w) ∧ (∀ w, w < n → D.testBit w = true → S w + 12 ≤ 12 * k) ∧ ∀ v w, v < n → w < n → D.testBit v = true → D.testBit w = true → v ≠ w → S v + 12 ≤ S w ∨ S w + 12 ≤ S v := by
  intro k
  induction k with
  | zero =>
    intro _
    refine ⟨fun _ => 0, 0, Nat.two_pow_pos n, ?_, fun w v _ hq => ?_, fun w _ hq => ?_, fun v w _ _ hq => ?_⟩
    · have : ∀ m, tl_ct (fun i => Nat.testBit 0 i) m = 0 := by
        intro m
        induction m with
        | zero => rfl
        | succ m ih => rw [tl_ct, ih]; simp
      exact this n
    · rw [Nat.zero_testBit] at hq
      cases hq
    · rw [Nat.zero_testBit] at hq
      cases hq
    · rw [Nat.zero_testBit] at hq
      cases hq
  | succ k ih =>
    intro hk
    obtain ⟨S, D, h1, h2, h3, h4, h5⟩ := ih (by omega)
    obtain ⟨w, hw, hDw, hop⟩ := pl_free hN hr (pl_lack2 (show k < n by omega) h2)
    have hne : ∀ v, D.testBit v = true → v ≠ w := fun v hv e => by rw [e, hDw] at hv; cases hv
    have hin : ∀ v, (D ||| 2 ^ w).testBit v = true → v ≠ w → D.testBit v = true := fun v hv e => by
      rw [pl_ib] at hv
      simpa [Ne.symm e] using hv
    refine ⟨pl_up S w (12 * k), D ||| 2 ^ w, Nat.or_lt_two_pow h1 (Nat.pow_lt_pow_right (by decide) hw), ?_, fun x v hx hq hv => ?_, fun x hx hq => ?_, fun v x hv hx hqv hqx hvx => ?_⟩
    · rw [← h2]
      apply tl_ct_upd (k := w) _ hDw hw
      · intro x _ hxw
        show (D ||| 2 ^ w).testBit x = D.testBit x
        rw [pl_ib]
        simp [Ne.symm hxw]
      · show (D ||| 2 ^ w).testBit w = true
        rw [pl_ib]
        simp
    · by_cases e : x = w
      · subst e
        have hDv := hop v hv
        rw [pl_up_at, pl_up_ne _ _ (hne v hDv), pl_ib, hDv]
        exact ⟨rfl, h4 v (tl_bit_lt (hN x hx) hv) hDv⟩
      · have g := h3 x v hx (hin x hq e) hv
        rw [pl_up_ne _ _ e, pl_up_ne _ _ (hne v g.1), pl_ib, g.1]
        exact ⟨rfl, g.2⟩
    · by_cases e : x = w
      · subst e
        rw [pl_up_at]
        omega
      · rw [pl_up_ne _ _ e]
        have := h4 x hx (hin x hq e)
        omega
    · by_cases e : v = w
      · subst e
        rw [pl_up_at, pl_up_ne _ _ (Ne.symm hvx)]
        have := h4 x hx (hin x hqx (Ne.symm hvx))
        omega
      · by_cases e2 : x = w
        · subst e2
          rw [pl_up_at, pl_up_ne _ _ e]
          have := h4 v hv (hin v hqv e)
          omega
        · rw [pl_up_ne _ _ e, pl_up_ne _ _ e2]
          exact h5 v x hv hx (hin v hqv e) (hin x hqx e2) hvx
theorem pl_s_single {f : Nat → Nat} {c : Nat} (hc : ∀ i, f i ≤ c) : ∀ {n : Nat}, (∀ i j, i < n → j < n → f i ≠ 0 → f j ≠ 0 → i = j) → pl_s f n ≤ c
  | 0, _ => Nat.zero_le c
  | n + 1, h => by
    rw [pl_s]
    by_cases q : f n = 0
    · have := pl_s_single hc (n := n) (fun i j hi hj => h i j (by omega) (by omega))
      omega
    · have h1 : pl_s f n = pl_s (fun _ => 0) n := by
        apply pl_s_congr
        intro i hi
        apply Classical.byContradiction
        intro q2
        have := h i n (by omega) (by omega) q2 q
        omega
      rw [h1, pl_s_zero]
      have := hc n
      omega
theorem pl_some (hN : ∀ w, w < n → N w < 2 ^ n) (hr : noRing N n) (ht : ∀ w, w < n → t w ≤ 12) (hh : ∀ w, w < n → h w ≤ H) : ∃ S, pl_ok n H t h N (2 ^ n - 1) S := by
  obtain ⟨S, D, h1, h2, h3, h4, h5⟩ := pl_seq hN hr n (Nat.le_refl n)
  have hall : ∀ w, w < n → D.testBit w = true := tl_ct_full h2
  refine ⟨S, fun w v hw _ hv => ?_, fun x => ?_⟩
  · have hvn := tl_bit_lt (hN w hw) hv
    have := (h3 w v hw (hall w hw) hv).2
    have := ht v hvn
    exact ⟨pl_fb hvn, by omega⟩
  · have h6 : pl_u n t h (2 ^ n - 1) S x = pl_s (fun w => if w < n ∧ S w ≤ x ∧ x < S w + t w then h w else 0) n := by
      apply pl_s_congr
      intro i hi
      simp [pl_fb hi, hi]
    rw [h6]
    apply pl_s_single
    · intro i
      by_cases q : i < n ∧ S i ≤ x ∧ x < S i + t i
      · rw [if_pos q]
        exact hh i q.1
      · rw [if_neg q]
        exact Nat.zero_le _
    · intro i j hi hj q1 q2
      apply Classical.byContradiction
      intro hij
      have g1 : i < n ∧ S i ≤ x ∧ x < S i + t i := by
        apply Classical.byContradiction
        intro g
        rw [if_neg g] at q1
        exact q1 rfl
      have g2 : j < n ∧ S j ≤ x ∧ x < S j + t j := by
        apply Classical.byContradiction
        intro g
        rw [if_neg g] at q2
        exact q2 rfl
      have g3 := h5 i j hi hj (hall i hi) (hall j hj) hij
      have g4 := ht i hi
      have g5 := ht j hj
      omega
theorem pl_s_swap {I : Nat → Nat → Nat} {n : Nat} : ∀ {M : Nat}, pl_s (fun x => pl_s (fun w => I x w) n) M = pl_s (fun w => pl_s (fun x => I x w) M) n
  | 0 => by
    rw [pl_s, show (fun w => pl_s (fun x => I x w) 0) = (fun _ => 0) from rfl, pl_s_zero]
  | M + 1 => by
    rw [pl_s, pl_s_swap (M := M), ← pl_s_add]
    rfl
theorem pl_s_int {a c : Nat} : ∀ {M : Nat}, pl_s (fun x => if a ≤ x ∧ x < a + c then 1 else 0) M ≤ c ∧ pl_s (fun x => if a ≤ x ∧ x < a + c then 1 else 0) M ≤ M - a
  | 0 => ⟨Nat.zero_le _, Nat.zero_le _⟩
  | M + 1 => by
    have h1 := pl_s_int (a := a) (c := c) (M := M)
    rw [pl_s]
    by_cases q : a ≤ M ∧ M < a + c
    · rw [if_pos q]
      omega
    · rw [if_neg q]
      omega
/-- in the best plan no tick is idle before the last begins -/
theorem pl_busy {S : Nat → Nat} (hS : pl_ok n H t h N (2 ^ n - 1) S) (hopt : ∀ S2, pl_ok n H t h N (2 ^ n - 1) S2 → pl_V n t wt (2 ^ n - 1) S ≤ pl_V n t wt (2 ^ n - 1) S2) (hN : ∀ w, w < n → N w < 2 ^ n) (ht : ∀ w, w < n → 1 ≤ t w) (hh : ∀ w, w < n → h w ≤ H) {x w : Nat} (hw : w < n) (hx : x < S w) : ∃ v, v < n ∧ S v ≤ x ∧ x < S v + t v := by
  apply Classical.byContradiction
  intro hno
  have hidle : ∀ v, v < n → S v ≤ x → S v + t v ≤ x := fun v hv h1 => by
    rcases Nat.lt_or_ge x (S v + t v) with q | q
    · exact absurd ⟨v, hv, h1, q⟩ hno
    · exact q
  obtain ⟨w, hw, hx, hmin⟩ := pl_min S (fun w => x < S w) n ⟨w, hw, hx⟩
  have hlow : ∀ v, v < n → S v < S w → S v + t v ≤ x := fun v hv h1 => by
    rcases Nat.lt_or_ge x (S v) with q | q
    · have := hmin v hv q
      omega
    · exact hidle v hv q
  have hmv := pl_move (a := S w - 1) hS hN hw (by omega) (fun v hv => by
    have hvn := tl_bit_lt (hN w hw) hv
    have h1 := (hS.1 w v hw (pl_fb hw) hv).2
    have h2 := ht v hvn
    have := hlow v hvn (by omega)
    omega) (fun y y1 y2 y3 => by
    have e : pl_u n t h (2 ^ n - 1) S y = 0 := by
      have : pl_u n t h (2 ^ n - 1) S y = pl_s (fun _ => 0) n := by
        apply pl_s_congr
        intro i hi
        apply if_neg
        rintro ⟨_, q2, q3⟩
        have := hlow i hi (by omega)
        omega
      rw [this, pl_s_zero]
    have := hh w hw
    omega)
  have h2 := hopt _ hmv
  have h3 := pl_V_lt (t := t) (wt := wt) (p := 2 ^ n - 1) (b := pl_up S w (S w - 1)) (c := S) hw (pl_fb hw) (by rw [pl_up_at]; omega) (fun v _ _ => by
    by_cases e : v = w
    · subst e
      rw [pl_up_at]
      omega
    · rw [pl_up_ne _ _ e]
      exact Nat.le_refl _)
  omega
theorem pl_end {S : Nat → Nat} (h8 : n ≤ 8) (hS : pl_ok n H t h N (2 ^ n - 1) S) (hopt : ∀ S2, pl_ok n H t h N (2 ^ n - 1) S2 → pl_V n t wt (2 ^ n - 1) S ≤ pl_V n t wt (2 ^ n - 1) S2) (hN : ∀ w, w < n → N w < 2 ^ n) (ht : ∀ w, w < n → 1 ≤ t w ∧ t w ≤ 12) (hh : ∀ w, w < n → h w ≤ H) : ∀ w, w < n → S w < 96 := by
  intro w hw
  have h1 : S w ≤ pl_s (fun x => pl_s (fun v => if S v ≤ x ∧ x < S v + t v then 1 else 0) n) (S w) := by
    have : ∀ M, M ≤ S w → M ≤ pl_s (fun x => pl_s (fun v => if S v ≤ x ∧ x < S v + t v then 1 else 0) n) M := by
      intro M
      induction M with
      | zero => intro _; omega
      | succ M ih =>
        intro hM
        obtain ⟨v, hv, q1, q2⟩ := pl_busy hS hopt hN (fun w hw => (ht w hw).1) hh hw (show M < S w by omega)
        have := pl_s_ge (f := fun v => if S v ≤ M ∧ M < S v + t v then 1 else 0) hv
        rw [if_pos ⟨q1, q2⟩] at this
        have := ih (by omega)
        rw [pl_s]
        omega
    exact this (S w) (Nat.le_refl _)
  rw [pl_s_swap] at h1
  have h2 : pl_s (fun v => pl_s (fun x => if S v ≤ x ∧ x < S v + t v then 1 else 0) (S w)) n < pl_s t n := by
    apply pl_s_lt (k := w) _ hw (fun i _ => pl_s_int.1)
    have := (pl_s_int (a := S w) (c := t w) (M := S w)).2
    have := (ht w hw).1
    omega
  have h3 := pl_s_bd (f := t) (c := 12) (n := n) (fun i hi => (ht i hi).2)
  omega
theorem pl_best (h8 : n ≤ 8) (hN : ∀ w, w < n → N w < 2 ^ n) (hr : noRing N n) (ht : ∀ w, w < n → 1 ≤ t w ∧ t w ≤ 12) (hh : ∀ w, w < n → h w ≤ H) : ∃ S, xOpt n H t h wt N S := by
  obtain ⟨S0, hS0⟩ := pl_some (t := t) hN hr (fun w hw => (ht w hw).2) hh
  obtain ⟨r, h1, ⟨S, h2, h3⟩, h4⟩ := tl_least (fun r => ∃ S, pl_ok n H t h N (2 ^ n - 1) S ∧ pl_V n t wt (2 ^ n - 1) S = r) _ ⟨S0, hS0, rfl⟩
  have hopt : ∀ S2, pl_ok n H t h N (2 ^ n - 1) S2 → pl_V n t wt (2 ^ n - 1) S ≤ pl_V n t wt (2 ^ n - 1) S2 := by
    intro S2 hS2
    rcases Nat.lt_or_ge (pl_V n t wt (2 ^ n - 1) S2) (pl_V n t wt (2 ^ n - 1) S) with q | q
    · exact absurd ⟨S2, hS2, rfl⟩ (h4 _ (by omega))
    · exact q
  exact ⟨S, h2, hopt, pl_end h8 h2 hopt hN ht hh⟩
/-- the best is one -/
theorem pl_one {S c : Nat → Nat} (h8 : n ≤ 8) (hS : ∀ w, w < n → S w < 96) (hc : ∀ w, w < n → c w < 96) (e : pl_V n t wt (2 ^ n - 1) S = pl_V n t wt (2 ^ n - 1) c) : pl_A n t wt (2 ^ n - 1) S = pl_A n t wt (2 ^ n - 1) c ∧ ∀ w, w < n → S w = c w := by
  have k1 := pl_K_lt56 (n := n) (p := 2 ^ n - 1) (b := S) h8 (fun w hw _ => by have := hS w hw; omega)
  have k2 := pl_K_lt56 (n := n) (p := 2 ^ n - 1) (b := c) h8 (fun w hw _ => by have := hc w hw; omega)
  unfold pl_V at e
  have h1 : pl_A n t wt (2 ^ n - 1) S = pl_A n t wt (2 ^ n - 1) c := by omega
  have h2 : pl_K n (2 ^ n - 1) S = pl_K n (2 ^ n - 1) c := by omega
  exact ⟨h1, fun w hw => pl_K_inj h8 (fun w hw _ => by have := hS w hw; omega) (fun w hw _ => by have := hc w hw; omega) h2 w hw (pl_fb hw)⟩
end PF
