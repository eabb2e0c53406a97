/-! ===== far: the least walks ===== -/
section FW
def md_R (cn : Nat → Bool) (m : Nat) (nr nd : Nat → Nat) (a b : Nat) : Prop := ∃ k, k < m ∧ cn k = true ∧ nr k = a ∧ nd k = b
def fv (g : Nat → Int32) (a b : Nat) : Nat := (g (8 * a + b)).toNatClampNeg
def fw_ok (R : Nat → Nat → Prop) (n : Nat) (g : Nat → Int32) : Prop := ∀ a b, a < n → b < n → g (8 * a + b) = nI (fv g a b) ∧ fv g a b ≤ 1000000 ∧ (fv g a b < 1000000 → gw R n (fv g a b) a b)
theorem fw_step {R : Nat → Nat → Prop} {n m a b : Nat} {g : Nat → Int32} (h8 : n ≤ 8) (hm : m < n) (ha : a < n) (hb : b < n) (h : fw_ok R n g) : fw_ok R n (fw_s g m a b) ∧ (∀ c e, c < n → e < n → fv (fw_s g m a b) c e ≤ fv g c e) ∧ fv (fw_s g m a b) a b ≤ fv g a m + fv g m b := by
  obtain ⟨e1, u1, w1⟩ := h a m ha hm
  obtain ⟨e2, u2, w2⟩ := h m b hm hb
  obtain ⟨e3, u3, w3⟩ := h a b ha hb
  have key : fw_s g m a b = if fv g a m + fv g m b < fv g a b then upd g (8 * a + b) (nI (fv g a m + fv g m b)) else g := by
    unfold fw_s
    rw [e1, e2, e3, nI_add]
    by_cases q : fv g a m + fv g m b < fv g a b
    · rw [if_pos q, if_pos ((nI_ltI (by omega) (by omega)).mpr q)]
    · rw [if_neg q, if_neg (fun q2 => q ((nI_ltI (by omega) (by omega)).mp q2))]
  by_cases q : fv g a m + fv g m b < fv g a b
  · rw [if_pos q] at key
    have hv : ∀ c e, c < n → e < n → fv (fw_s g m a b) c e = if c = a ∧ e = b then fv g a m + fv g m b else fv g c e := by
      intro c e hc he
      unfold fv
      rw [key, s_u]
      by_cases q2 : c = a ∧ e = b
      · rw [if_pos (by omega), if_pos q2]
        exact nI_clamp (by omega)
      · rw [if_neg (by omega), if_neg q2]
    refine ⟨?_, ?_, ?_⟩
    · intro c e hc he
      rw [hv c e hc he]
      by_cases q2 : c = a ∧ e = b
      · rw [if_pos q2, key, s_u, if_pos (by omega)]
        refine ⟨rfl, by omega, ?_⟩
        intro _
        rw [q2.1, q2.2]
        exact gw_app hm (w2 (by omega)) (w1 (by omega))
      · rw [if_neg q2, key, s_u, if_neg (by omega)]
        exact h c e hc he
    · intro c e hc he
      rw [hv c e hc he]
      by_cases q2 : c = a ∧ e = b
      · rw [if_pos q2, q2.1, q2.2]
        omega
      · rw [if_neg q2]
        exact Nat.le_refl _
    · rw [hv a b ha hb, if_pos ⟨rfl, rfl⟩]
      exact Nat.le_refl _
  · rw [if_neg q] at key
    rw [key]
    exact ⟨h, fun c e _ _ => Nat.le_refl _, by omega⟩
def fw_P (R : Nat → Nat → Prop) (n m : Nat) (S : Nat → Nat → Prop) (g : Nat → Int32) : Prop := fw_ok R n g ∧ (∀ a b, a < n → b < n → ∀ l, gw R m l a b → fv g a b ≤ l) ∧ (∀ a b, a < n → b < n → S a b → ∀ l, gw R (m + 1) l a b → fv g a b ≤ l)
theorem fw_P_b {R : Nat → Nat → Prop} {n m a : Nat} {S : Nat → Nat → Prop} {g : Nat → Int32} (h8 : n ≤ 8) (hm : m < n) (ha : a < n) (h : fw_P R n m S g) : ∀ b, b ≤ n → fw_P R n m (fun c e => S c e ∨ (c = a ∧ e < b)) (fw_b g m a b)
  | 0, _ => ⟨h.1, h.2.1, fun c e hc he hs => h.2.2 c e hc he (by rcases hs with q | q; exact q; omega)⟩
  | b + 1, hb => by
    have ih := fw_P_b h8 hm ha h b (by omega)
    obtain ⟨s1, s2, s3⟩ := fw_step h8 hm ha (show b < n by omega) ih.1
    rw [fw_b]
    refine ⟨s1, ?_, ?_⟩
    · intro c e hc he l hl
      exact Nat.le_trans (s2 c e hc he) (ih.2.1 c e hc he l hl)
    · intro c e hc he hs l hl
      by_cases q : c = a ∧ e = b
      · rw [q.1, q.2] at hl ⊢
        rcases gw_split hl with ⟨l2, h1, h2⟩ | ⟨l1, l2, h1, h2, h3⟩
        · have h4 := ih.2.1 a b ha (by omega) l2 h2
          have h5 := s2 a b ha (by omega)
          omega
        · have h4 := ih.2.1 a m ha hm l1 h2
          have h5 := ih.2.1 m b hm (by omega) l2 h3
          omega
      · refine Nat.le_trans (s2 c e hc he) (ih.2.2 c e hc he ?_ l hl)
        rcases hs with h1 | h1
        · exact Or.inl h1
        · exact Or.inr (by omega)
theorem fw_P_a {R : Nat → Nat → Prop} {n m : Nat} {g : Nat → Int32} (h8 : n ≤ 8) (hm : m < n) (h : fw_P R n m (fun _ _ => False) g) : ∀ a, a ≤ n → fw_P R n m (fun c _ => c < a) (fw_a g n m a)
  | 0, _ => ⟨h.1, h.2.1, fun c e hc he hs => absurd hs (by omega)⟩
  | a + 1, ha => by
    have ih := fw_P_a h8 hm h a (by omega)
    have := fw_P_b h8 hm (show a < n by omega) ih n (Nat.le_refl n)
    rw [fw_a]
    refine ⟨this.1, this.2.1, ?_⟩
    intro c e hc he hs
    exact this.2.2 c e hc he (by omega)
theorem fw_P_m {R : Nat → Nat → Prop} {n : Nat} {g : Nat → Int32} (h8 : n ≤ 8) (h : fw_P R n 0 (fun _ _ => False) g) : ∀ m, m ≤ n → fw_P R n m (fun _ _ => False) (fw_m g n m)
  | 0, _ => h
  | m + 1, hm => by
    have ih := fw_P_m h8 h m (by omega)
    have := fw_P_a h8 (show m < n by omega) ih n (Nat.le_refl n)
    rw [fw_m]
    refine ⟨this.1, ?_, fun _ _ _ _ q => absurd q (by simp)⟩
    intro a b ha hb
    exact this.2.2 a b ha hb ha
theorem fw_1_val (g : Nat → Int32) : ∀ {k i : Nat}, i < k → fw_1 g k i = 1000000
  | k + 1, i, h => by
    rw [fw_1, s_u]
    by_cases q : i = k
    · rw [if_pos q]
    · rw [if_neg q]
      exact fw_1_val g (by omega)
theorem fw_2_val {cn : Nat → Bool} {nr nd : Nat → Nat} {g : Nat → Int32} {n a b : Nat} (h8 : n ≤ 8) (ha : a < n) (hb : b < n) (hg : g (8 * a + b) = 1000000) : ∀ m, (∀ j, j < m → nr j < n ∧ nd j < n) → (md_R cn m nr nd a b ∧ fw_2 cn nr nd g m (8 * a + b) = 1) ∨ (¬ md_R cn m nr nd a b ∧ fw_2 cn nr nd g m (8 * a + b) = 1000000)
  | 0, _ => Or.inr ⟨fun ⟨k, h, _⟩ => by omega, hg⟩
  | m + 1, hm => by
    have ih := fw_2_val (cn := cn) h8 ha hb hg m (fun j hj => hm j (by omega))
    obtain ⟨h1, h2⟩ := hm m (by omega)
    rw [fw_2]
    by_cases q : cn m = true
    · rw [if_pos q, s_u]
      by_cases q2 : nr m = a ∧ nd m = b
      · rw [if_pos (by omega)]
        exact Or.inl ⟨⟨m, by omega, q, q2.1, q2.2⟩, rfl⟩
      · rw [if_neg (by omega)]
        rcases ih with ⟨⟨k, k1, k2⟩, e⟩ | ⟨k1, e⟩
        · exact Or.inl ⟨⟨k, by omega, k2⟩, e⟩
        · refine Or.inr ⟨?_, e⟩
          rintro ⟨k, k2, k3, k4⟩
          rcases Nat.lt_or_ge k m with q3 | q3
          · exact k1 ⟨k, q3, k3, k4⟩
          · exact q2 (by rw [show k = m by omega] at k4; exact k4)
    · rw [if_neg q]
      rcases ih with ⟨⟨k, k1, k2⟩, e⟩ | ⟨k1, e⟩
      · exact Or.inl ⟨⟨k, by omega, k2⟩, e⟩
      · refine Or.inr ⟨?_, e⟩
        rintro ⟨k, k2, k3, k4⟩
        rcases Nat.lt_or_ge k m with q3 | q3
        · exact k1 ⟨k, q3, k3, k4⟩
        · exact q (by rw [show k = m by omega] at k3; exact k3)
theorem fw_final {c : Nat → Int32} {t : Int32} {n m : Nat} {nr nd : Nat → Nat} {so : Nat → Bool} {g : Nat → Int32} (h8 : n ≤ 8) (hm : ∀ j, j < m → nr j < n ∧ nd j < n) : fw_ok (md_R (md_cn c t nr so) m nr nd) n (fw c t n m nr nd so g) ∧ ∀ a b, a < n → b < n → ∀ l, gw (md_R (md_cn c t nr so) m nr nd) n l a b → fv (fw c t n m nr nd so g) a b ≤ l := by
  have h0 : fw_P (md_R (md_cn c t nr so) m nr nd) n 0 (fun _ _ => False) (fw_2 (md_cn c t nr so) nr nd (fw_1 g 64) m) := by
    refine ⟨?_, ?_, fun _ _ _ _ q => absurd q (by simp)⟩
    · intro a b ha hb
      rcases fw_2_val (cn := md_cn c t nr so) h8 ha hb (fw_1_val g (show 8 * a + b < 64 by omega)) m hm with ⟨h1, h2⟩ | ⟨h1, h2⟩
      · have e : fv (fw_2 (md_cn c t nr so) nr nd (fw_1 g 64) m) a b = 1 := by
          unfold fv
          rw [h2]
          decide
        rw [e, h2]
        exact ⟨rfl, by omega, fun _ => h1⟩
      · have e : fv (fw_2 (md_cn c t nr so) nr nd (fw_1 g 64) m) a b = 1000000 := by
          unfold fv
          rw [h2]
          decide
        rw [e, h2]
        exact ⟨rfl, by omega, fun q => by omega⟩
    · intro a b ha hb l hl
      match l, hl with
      | 1, hl =>
        rcases fw_2_val (cn := md_cn c t nr so) h8 ha hb (fw_1_val g (show 8 * a + b < 64 by omega)) m hm with ⟨h1, h2⟩ | ⟨h1, h2⟩
        · unfold fv
          rw [h2]
          decide
        · exact absurd hl h1
      | l + 2, ⟨e, he, _⟩ => omega
  have := fw_P_m h8 h0 n (Nat.le_refl n)
  exact ⟨this.1, this.2.1⟩
/-- far is below the number for it just where there is a walk -/
theorem fw_iff {c : Nat → Int32} {t : Int32} {n m : Nat} {nr nd : Nat → Nat} {so : Nat → Bool} {g : Nat → Int32} (h8 : n ≤ 8) (hm : ∀ j, j < m → nr j < n ∧ nd j < n) {a b : Nat} (ha : a < n) (hb : b < n) : (fw c t n m nr nd so g (8 * a + b) < 1000000) = ∃ l, gw (md_R (md_cn c t nr so) m nr nd) n l a b := by
  obtain ⟨h1, h2⟩ := fw_final (c := c) (t := t) (so := so) (g := g) h8 hm
  obtain ⟨e, u, w⟩ := h1 a b ha hb
  rw [e, show (1000000 : Int32) = nI 1000000 from rfl, tl_lt (by omega) (by omega)]
  apply propext
  constructor
  · intro q
    exact ⟨_, w q⟩
  · rintro ⟨l, hl⟩
    obtain ⟨l2, h3, h4⟩ := gw_short (R := md_R (md_cn c t nr so) m nr nd) (by
      rintro c b ⟨k, k1, _, _, k4⟩
      rw [← k4]
      exact (hm k k1).2) hl
    have := h2 a b ha hb l2 h4
    omega
/-- how the two hold the needs -/
def lk (m : Nat) (nr nd : Nat → Nat) (so : Nat → Bool) (ha al : Nat → Nat) : Prop := ∀ a, a < 8 → al a = tl_fo (fun j => if nr j = a then 2 ^ nd j else 0) m ∧ ha a = tl_fo (fun j => if nr j = a ∧ so j = false then 2 ^ nd j else 0) m
theorem lk_R {m n : Nat} {nr nd : Nat → Nat} {so : Nat → Bool} {ha al : Nat → Nat} {c : Nat → Int32} {t : Int32} {T : Nat → Bool} (h8 : n ≤ 8) (h : lk m nr nd so ha al) (hT : ∀ a, a < n → T a = (tb t a && !decide (c a < 0))) : ∀ a b, a < n → (md_R (md_cn c t nr so) m nr nd a b ↔ wk_R ha al T n a b) := by
  intro a b hn
  obtain ⟨h1, h2⟩ := h a (by omega)
  unfold wk_R wk_nb md_R md_cn
  rw [hT a hn]
  constructor
  · rintro ⟨k, k1, k2, k3, k4⟩
    subst k3
    refine ⟨hn, ?_⟩
    split
    · rename_i q
      rw [h2, tl_fo_bit]
      have : so k = false := by
        cases q2 : so k with
        | false => rfl
        | true => rw [q2, Bool.true_and, q] at k2; simp at k2
      refine ⟨k, k1, ?_⟩
      rw [if_pos ⟨rfl, this⟩, tl_two_bit, k4]
      simp
    · rw [h1, tl_fo_bit]
      refine ⟨k, k1, ?_⟩
      rw [if_pos rfl, tl_two_bit, k4]
      simp
  · rintro ⟨_, q⟩
    split at q
    · rename_i q0
      rw [h2, tl_fo_bit] at q
      obtain ⟨k, k1, k2⟩ := q
      split at k2
      · rename_i q3
        rw [tl_two_bit] at k2
        exact ⟨k, k1, by rw [q3.2]; rfl, q3.1, of_decide_eq_true k2⟩
      · rw [Nat.zero_testBit] at k2
        simp at k2
    · rename_i q0
      rw [h1, tl_fo_bit] at q
      obtain ⟨k, k1, k2⟩ := q
      split at k2
      · rename_i q3
        rw [tl_two_bit] at k2
        refine ⟨k, k1, ?_, q3, of_decide_eq_true k2⟩
        rw [q3]
        revert q0
        cases tb t a <;> cases decide (c a < 0) <;> simp
      · rw [Nat.zero_testBit] at k2
        simp at k2
theorem lk_gw {m n : Nat} {nr nd : Nat → Nat} {so : Nat → Bool} {ha al : Nat → Nat} {c : Nat → Int32} {t : Int32} {T : Nat → Bool} (h8 : n ≤ 8) (h : lk m nr nd so ha al) (hT : ∀ a, a < n → T a = (tb t a && !decide (c a < 0))) {l a b : Nat} (hn : a < n) : gw (md_R (md_cn c t nr so) m nr nd) n l a b ↔ gw (wk_R ha al T n) n l a b := gw_congr (lk_R h8 h hT) hn
end FW
