/-! ===== the class's planner: why nothing that matters is cut ===== -/
section PC
variable {n H : Nat} {t h wt N od : Nat → Nat}
theorem tl_ct_upd {f g : Nat → Bool} {k : Nat} (h1 : f k = true) (h2 : g k = false) : ∀ {n : Nat}, k < n → (∀ i, i < n → i ≠ k → f i = g i) → tl_ct f n = tl_ct g n + 1
  | 0, hk, _ => absurd hk (by omega)
  | n + 1, hk, h => by
    rw [tl_ct, tl_ct]
    rcases Nat.lt_or_ge k n with q | q
    · rw [tl_ct_upd h1 h2 q (fun i hi => h i (by omega)), h n (by omega) (by omega)]
      omega
    · have e : k = n := by omega
      subst e
      have h3 : ∀ {m : Nat}, m ≤ k → tl_ct f m = tl_ct g m := by
        intro m
        induction m with
        | zero => intro _; rfl
        | succ m ih => intro hm; rw [tl_ct, tl_ct, ih (by omega), h m (by omega) (by omega)]
      rw [h3 (Nat.le_refl k), h1, h2]
      rfl
theorem tl_ct_full {f : Nat → Bool} : ∀ {n : Nat}, tl_ct f n = n → ∀ i, i < n → f i = true
  | 0, _, i, hi => absurd hi (by omega)
  | n + 1, h, i, hi => by
    have h1 := tl_ct_le f n
    rw [tl_ct] at h
    cases q : f n with
    | false =>
      rw [q] at h
      simp at h
      omega
    | true =>
      rw [q] at h
      simp at h
      rcases Nat.lt_or_ge i n with q2 | q2
      · exact tl_ct_full h i q2
      · rw [show i = n by omega]
        exact q
theorem pl_K_bd {p : Nat} {e : Nat → Nat} (h8 : n ≤ 8) (he : ∀ w, w < n → p.testBit w = true → e w ≤ 254) : pl_K n p e < 2 ^ 60 := by
  have h1 : pl_K n p e ≤ pl_K n p (fun _ => 127) + pl_K n p (fun _ => 127) := by
    unfold pl_K
    rw [← pl_s_add]
    apply pl_s_le
    intro i hi
    by_cases q : p.testBit i = true
    · simp only [q, if_true]
      rw [← Nat.add_mul]
      exact Nat.mul_le_mul_right _ (he i hi q)
    · simp [q]
  have h2 := pl_K_lt56 (n := n) (p := p) (b := fun _ => 127) h8 (fun _ _ _ => by decide)
  omega
/-- at a tick ahead of all that are left only the placed ones are in use -/
theorem pl_u_part {p x : Nat} {S : Nat → Nat} (hx : ∀ u, u < n → p.testBit u = false → x < S u) : pl_u n t h (2 ^ n - 1) S x = pl_u n t h p S x := by
  apply pl_s_congr
  intro i hi
  by_cases q : p.testBit i = true
  · simp [q, pl_fb hi]
  · have := hx i hi (by simpa using q)
    rw [if_neg (by omega), if_neg (by simp [q])]
/-- no work of the best plan can be moved to an earlier tick -/
theorem xm_false {p v a : Nat} {S : Nat → Nat} (hS : pl_ok n H t h N (2 ^ n - 1) S) (hopt : ∀ S2, pl_ok n H t h N (2 ^ n - 1) S2 → pl_V n t wt (2 ^ n - 1) S ≤ pl_V n t wt (2 ^ n - 1) S2) (hN : ∀ w, w < n → N w < 2 ^ n) (hv : v < n) (hb : ∀ w, w < n → p.testBit w = true → S w ≤ a) (hnd : ∀ x, (N v).testBit x = true → S x + t x ≤ a) (hfit : pl_u n t h p S a + h v ≤ H) (hlt : a < S v) (hm : ∀ x, a ≤ x → x < a + t v → x < S v → ∀ u, u < n → p.testBit u = false → x < S u) : False := by
  have h1 := pl_move hS hN hv hlt hnd (fun x x1 x2 x3 => by
    rw [pl_u_part (hm x x1 x2 x3)]
    have := pl_u_anti (t := t) (h := h) (y := x) hb x1
    omega)
  have h2 := hopt _ h1
  have h3 := pl_V_lt (t := t) (wt := wt) (p := 2 ^ n - 1) (b := pl_up S v a) (c := S) hv (pl_fb hv) (by rw [pl_up_at]; exact hlt) (fun w _ _ => by
    by_cases e : w = v
    · subst e
      rw [pl_up_at]
      omega
    · rw [pl_up_ne _ _ e]
      exact Nat.le_refl _)
  omega
/-- the placed works are the first of S, as S has them -/
def xP (n p : Nat) (b bf S : Nat → Nat) : Prop := (∀ w, w < n → p.testBit w = true → b w = S w) ∧ (∀ v u, v < n → u < n → p.testBit v = true → p.testBit u = false → S v < S u ∨ (S v = S u ∧ v < u)) ∧ ∀ w, w < n → p.testBit w = false → bf w ≤ S w
def xNext (n p : Nat) (S : Nat → Nat) (w : Nat) : Prop := w < n ∧ p.testBit w = false ∧ ∀ u, u < n → p.testBit u = false → S w < S u ∨ (S w = S u ∧ w ≤ u)
theorem xP_low {n p : Nat} {b bf S : Nat → Nat} (h : xP n p b bf S) {v u : Nat} (hv : v < n) (hu : u < n) (hpv : p.testBit v = true) (hpu : p.testBit u = false) : S v ≤ S u := by
  have := h.2.1 v u hv hu hpv hpu
  omega
/-- what is hoped for is no later than S -/
theorem xe_le {p fr : Nat} {b bf e S : Nat → Nat} (hS : pl_ok n H t h N (2 ^ n - 1) S) (h96 : ∀ w, w < n → S w < 96) (hN : ∀ w, w < n → N w < 2 ^ n) (ht : ∀ w, w < n → 1 ≤ t w) (hP : xP n p b bf S) (hfr : ∀ w, w < n → p.testBit w = false → fr ≤ S w) (hob : ∀ i, i < n → od i < n) (hod : ∀ i v, i < n → (N (od i)).testBit v = true → ∃ j, j < i ∧ od j = v) (he : ∀ w, w < n → p.testBit w = true → e w = b w) (hsp : ∀ j, j < n → p.testBit (od j) = false → hSp H t h N fr bf (pl_u n t h p b) e (od j)) : ∀ i, i < n → p.testBit (od i) = false → e (od i) ≤ S (od i) := by
  intro i
  induction i using Nat.strongRecOn with
  | ind i ih =>
    intro hi hpi
    obtain ⟨y1, y2, y3, y4, y5⟩ := hsp i hi hpi
    have hwn := hob i hi
    refine y5 (S (od i)) (by have := h96 _ hwn; omega) (hfr _ hwn hpi) (hP.2.2 _ hwn hpi) (fun v hv => ?_) (fun _ => ?_)
    · obtain ⟨j, hj, e1⟩ := hod i v hi hv
      have h1 := hS.1 (od i) v hwn (pl_fb hwn) hv
      have hvn := tl_bit_lt (hN _ hwn) hv
      by_cases q : p.testBit v = true
      · rw [he v hvn q, hP.1 v hvn q]
        exact h1.2
      · have h2 := ih j hj (by omega) (by rw [e1]; simpa using q)
        rw [e1] at h2
        omega
    · exact pl_next hS (fun v hv hpv => Nat.le_of_eq (hP.1 v hv hpv)) hwn hpi (fun v hv hpv => xP_low hP hv hwn hpv hpi) (Nat.le_refl _) (by have := ht _ hwn; omega)
/-- the next work of S begins when it is hoped to -/
theorem xe_eq {p fr w : Nat} {b bf e S : Nat → Nat} (hS : pl_ok n H t h N (2 ^ n - 1) S) (hopt : ∀ S2, pl_ok n H t h N (2 ^ n - 1) S2 → pl_V n t wt (2 ^ n - 1) S ≤ pl_V n t wt (2 ^ n - 1) S2) (h96 : ∀ w, w < n → S w < 96) (hN : ∀ w, w < n → N w < 2 ^ n) (hP : xP n p b bf S) (hbf : ∀ w, w < n → p.testBit w = true → b w ≤ fr) (he : ∀ w, w < n → p.testBit w = true → e w = b w) (hsp : hSp H t h N fr bf (pl_u n t h p b) e w) (hop : hOpen N p w) (hnx : xNext n p S w) (hle : e w ≤ S w) : e w = S w := by
  obtain ⟨y1, y2, y3, y4, y5⟩ := hsp
  have hw9 := h96 w hnx.1
  rcases Nat.lt_or_ge (e w) (S w) with q | q
  · exfalso
    refine xm_false hS hopt hN hnx.1 (p := p) (a := e w) (fun v hv hpv => ?_) (fun v hv => ?_) ?_ q (fun x x1 x2 x3 u hu hpu => ?_)
    · rw [← hP.1 v hv hpv]
      have := hbf v hv hpv
      omega
    · have hvn := tl_bit_lt (hN w hnx.1) hv
      have hpv := hop v hv
      have := y3 v hv
      rw [he v hvn hpv, hP.1 v hvn hpv] at this
      exact this
    · rw [← pl_u_congr hP.1]
      exact y4 (by omega)
    · have := hnx.2.2 u hu hpu
      omega
  · omega
/-- nor does it begin when another one could be up -/
theorem xe_until {p fr w v : Nat} {b bf e S : Nat → Nat} (hS : pl_ok n H t h N (2 ^ n - 1) S) (hopt : ∀ S2, pl_ok n H t h N (2 ^ n - 1) S2 → pl_V n t wt (2 ^ n - 1) S ≤ pl_V n t wt (2 ^ n - 1) S2) (h96 : ∀ w, w < n → S w < 96) (hN : ∀ w, w < n → N w < 2 ^ n) (ht : ∀ w, w < n → 1 ≤ t w) (hP : xP n p b bf S) (hbf : ∀ w, w < n → p.testBit w = true → b w ≤ fr) (he : ∀ w, w < n → p.testBit w = true → e w = b w) (hnx : xNext n p S w) (hle : e w ≤ S w) (hv : v < n) (hpv : p.testBit v = false) (hsp : hSp H t h N fr bf (pl_u n t h p b) e v) (hop : hOpen N p v) (hev : e v + t v ≤ e w) : False := by
  obtain ⟨y1, y2, y3, y4, y5⟩ := hsp
  have hvS := hnx.2.2 v hv hpv
  have ht1 := ht v hv
  have hw9 := h96 w hnx.1
  refine xm_false hS hopt hN hv (p := p) (a := e v) (fun u hu hpu => ?_) (fun u hu => ?_) ?_ (by omega) (fun x x1 x2 x3 u hu hpu => ?_)
  · rw [← hP.1 u hu hpu]
    have := hbf u hu hpu
    omega
  · have hun := tl_bit_lt (hN v hv) hu
    have hpu := hop u hu
    have := y3 u hu
    rw [he u hun hpu, hP.1 u hun hpu] at this
    exact this
  · rw [← pl_u_congr hP.1]
    exact y4 (by omega)
  · have := hnx.2.2 u hu hpu
    omega
/-- nor are its first works outdone -/
theorem xe_out {p s fr : Nat} {b bf e S P : Nat → Nat} (hS : pl_ok n H t h N (2 ^ n - 1) S) (hopt : ∀ S2, pl_ok n H t h N (2 ^ n - 1) S2 → pl_V n t wt (2 ^ n - 1) S ≤ pl_V n t wt (2 ^ n - 1) S2) (hN : ∀ w, w < n → N w < 2 ^ n) (hP : xP n p b bf S) (hbf : ∀ w, w < n → p.testBit w = true → b w ≤ fr) (hfs : fr ≤ s) (hse : ∀ w, w < n → p.testBit w = false → s ≤ e w) (hle : ∀ w, w < n → p.testBit w = false → e w ≤ S w) (hok : pl_ok n H t h N p P) (hV : pl_V n t wt p P < pl_V n t wt p b) (hc : ∀ w, w < n → p.testBit w = true → P w ≤ b w ∨ P w + t w ≤ s) : False := by
  have h1 := pl_exch (q := s) hS hok hN (fun w hw hpw => by
    have := hse w hw hpw
    have := hle w hw hpw
    omega) (fun w hw hpw => by
    rw [← hP.1 w hw hpw]
    have := hbf w hw hpw
    omega) (fun w hw hpw => by
    rw [← hP.1 w hw hpw]
    exact hc w hw hpw)
  have h2 := hopt _ h1
  have h3 := pl_exch_V (n := n) (t := t) (wt := wt) (S := S) (P := P) (p := p)
  have h4 : pl_V n t wt p b = pl_V n t wt p S := by
    unfold pl_V
    rw [pl_A_congr hP.1, pl_K_congr hP.1]
  omega
end PC
