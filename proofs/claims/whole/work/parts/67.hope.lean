/-! ===== the class's planner: what may be hoped for ===== -/
section PB
def hz (σ : ex_S) (er : Nat → Int32) (ha : Int32) (hk : Int64) (so fu : Int32) : ex_S := (fun j => if j = 114 then ha else if j = 116 then so else if j = 117 then fu else σ.1 j, fun j => if j = 115 then hk else σ.2.1 j, fun r => if r = 12 then er else σ.2.2.1 r, σ.2.2.2)
theorem hz_0 (σ : ex_S) (ha : Int32) (hk : Int64) (so fu : Int32) : ex_sF (ex_sF (ex_sG (ex_sF σ 114 ha) 115 hk) 116 so) 117 fu = hz σ (σ.2.2.1 12) ha hk so fu := by
  refine Prod.ext ?_ (Prod.ext rfl (Prod.ext ?_ rfl))
  · funext j
    show (if j = 117 then fu else if j = 116 then so else if j = 114 then ha else σ.1 j) = (if j = 114 then ha else if j = 116 then so else if j = 117 then fu else σ.1 j)
    by_cases h1 : j = 114
    · simp [h1]
    · by_cases h2 : j = 116
      · simp [h2]
      · by_cases h3 : j = 117
        · simp [h3]
        · simp [h1, h2, h3]
  · funext r
    show σ.2.2.1 r = (if r = 12 then σ.2.2.1 12 else σ.2.2.1 r)
    by_cases h1 : r = 12 <;> simp [h1]
theorem hz_114 (σ : ex_S) (er : Nat → Int32) (ha : Int32) (hk : Int64) (so fu v : Int32) : ex_sF (hz σ er ha hk so fu) 114 v = hz σ er v hk so fu := by
  refine Prod.ext ?_ rfl
  funext j
  show (if j = 114 then v else if j = 114 then ha else if j = 116 then so else if j = 117 then fu else σ.1 j) = (if j = 114 then v else if j = 116 then so else if j = 117 then fu else σ.1 j)
  by_cases h1 : j = 114 <;> simp [h1]
theorem hz_116 (σ : ex_S) (er : Nat → Int32) (ha : Int32) (hk : Int64) (so fu v : Int32) : ex_sF (hz σ er ha hk so fu) 116 v = hz σ er ha hk v fu := by
  refine Prod.ext ?_ rfl
  funext j
  show (if j = 116 then v else if j = 114 then ha else if j = 116 then so else if j = 117 then fu else σ.1 j) = (if j = 114 then ha else if j = 116 then v else if j = 117 then fu else σ.1 j)
  by_cases h1 : j = 116 <;> simp [h1]
theorem hz_117 (σ : ex_S) (er : Nat → Int32) (ha : Int32) (hk : Int64) (so fu v : Int32) : ex_sF (hz σ er ha hk so fu) 117 v = hz σ er ha hk so v := by
  refine Prod.ext ?_ rfl
  funext j
  show (if j = 117 then v else if j = 114 then ha else if j = 116 then so else if j = 117 then fu else σ.1 j) = (if j = 114 then ha else if j = 116 then so else if j = 117 then v else σ.1 j)
  by_cases h1 : j = 117 <;> simp [h1]
theorem hz_115 (σ : ex_S) (er : Nat → Int32) (ha : Int32) (hk v : Int64) (so fu : Int32) : ex_sG (hz σ er ha hk so fu) 115 v = hz σ er ha v so fu := by
  refine Prod.ext rfl (Prod.ext ?_ rfl)
  funext j
  show (if j = 115 then v else if j = 115 then hk else σ.2.1 j) = (if j = 115 then v else σ.2.1 j)
  by_cases h1 : j = 115 <;> simp [h1]
theorem hz_12 (σ : ex_S) (er : Nat → Int32) (ha : Int32) (hk : Int64) (so fu : Int32) (i : Nat) (v : Int32) : ex_sA (hz σ er ha hk so fu) 12 i v = hz σ (upd er i v) ha hk so fu := by
  refine Prod.ext rfl (Prod.ext rfl (Prod.ext ?_ rfl))
  funext r
  show (if r = 12 then upd er i v else if r = 12 then er else σ.2.2.1 r) = (if r = 12 then upd er i v else σ.2.2.1 r)
  by_cases h1 : r = 12 <;> simp [h1]
theorem hz_1 (σ : ex_S) (er : Nat → Int32) (ha : Int32) (hk : Int64) (so fu : Int32) (j : Nat) : (hz σ er ha hk so fu).1 j = if j = 114 then ha else if j = 116 then so else if j = 117 then fu else σ.1 j := rfl
theorem hz_2 (σ : ex_S) (er : Nat → Int32) (ha : Int32) (hk : Int64) (so fu : Int32) (j : Nat) : (hz σ er ha hk so fu).2.1 j = if j = 115 then hk else σ.2.1 j := rfl
theorem hz_3 (σ : ex_S) (er : Nat → Int32) (ha : Int32) (hk : Int64) (so fu : Int32) (r : Nat) : (hz σ er ha hk so fu).2.2.1 r = if r = 12 then er else σ.2.2.1 r := rfl
theorem hz_4 (σ : ex_S) (er : Nat → Int32) (ha : Int32) (hk : Int64) (so fu : Int32) : (hz σ er ha hk so fu).2.2.2 = σ.2.2.2 := rfl
/-- what the planner works with -/
def xS (σ : ex_S) (n H : Nat) (t h wt N od bw : Nat → Nat) : Prop := n ≤ 8 ∧ H ≤ 8 ∧ σ.1 306 = nI n ∧ σ.1 111 = nI H ∧ (∀ w, w < n → σ.2.2.1 27 w = nI (t w) ∧ σ.2.2.1 28 w = nI (h w) ∧ σ.2.2.1 29 w = nI (wt w) ∧ σ.2.2.1 7 w = nI (N w) ∧ 1 ≤ t w ∧ t w ≤ 12 ∧ h w ≤ H ∧ wt w ≤ 100 ∧ N w < 2 ^ n) ∧ (∀ i, i < n → σ.2.2.1 8 i = nI (od i) ∧ od i < n ∧ σ.2.2.1 9 i = nI (bw i) ∧ bw i < n) ∧ (∀ w, w < n → (∃ i, i < n ∧ od i = w) ∧ ∃ i, i < n ∧ bw i = w) ∧ (∀ i j, i < n → j < n → od i = od j → i = j) ∧ ∀ i v, i < n → (N (od i)).testBit v = true → ∃ j, j < i ∧ od j = v
def hOpen (N : Nat → Nat) (p w : Nat) : Prop := ∀ v, (N w).testBit v = true → p.testBit v = true
/-- the earliest tick of a work that isn't placed -/
def hSp (H : Nat) (t h N : Nat → Nat) (fr : Nat) (bf u e : Nat → Nat) (w : Nat) : Prop := fr ≤ e w ∧ bf w ≤ e w ∧ (∀ v, (N w).testBit v = true → e v + t v ≤ e w) ∧ (e w < 96 → u (e w) + h w ≤ H) ∧ ∀ X, X ≤ 96 → fr ≤ X → bf w ≤ X → (∀ v, (N w).testBit v = true → e v + t v ≤ X) → (X < 96 → u X + h w ≤ H) → e w ≤ X
def oq (od : Nat → Nat) (p : Nat) : Nat → Nat
  | 0 => p
  | i + 1 => oq od p i ||| 2 ^ od i
theorem oq_bit {od : Nat → Nat} {p x : Nat} : ∀ {i : Nat}, (oq od p i).testBit x = true ↔ p.testBit x = true ∨ ∃ j, j < i ∧ od j = x
  | 0 => ⟨fun h => Or.inl h, fun h => by
    rcases h with h | ⟨j, hj, _⟩
    · exact h
    · omega⟩
  | i + 1 => by
    rw [oq, pl_ib, Bool.or_eq_true, oq_bit, decide_eq_true_iff]
    constructor
    · rintro ((h | ⟨j, hj, e⟩) | h)
      · exact Or.inl h
      · exact Or.inr ⟨j, by omega, e⟩
      · exact Or.inr ⟨i, by omega, h⟩
    · rintro (h | ⟨j, hj, e⟩)
      · exact Or.inl (Or.inl h)
      · rcases Nat.lt_or_ge j i with q | q
        · exact Or.inl (Or.inr ⟨j, q, e⟩)
        · rw [show j = i by omega] at e
          exact Or.inr e
theorem pl_or_self {p w : Nat} (h : p.testBit w = true) : p ||| 2 ^ w = p := by
  apply Nat.eq_of_testBit_eq
  intro x
  rw [pl_ib]
  by_cases e : w = x
  · subst e
    simp [h]
  · simp [e]
theorem pl_open {M p : Nat} : tl_df M p = 0 ↔ ∀ v, M.testBit v = true → p.testBit v = true := by
  rw [tl_zero_bits]
  constructor
  · intro h v hv
    have := h v
    rw [tl_df_bit, hv] at this
    simpa using this
  · intro h v
    rw [tl_df_bit]
    cases hv : M.testBit v with
    | false => rfl
    | true => rw [h v hv]; rfl
variable {n H : Nat} {t h wt N od bw : Nat → Nat}
theorem pl_A_mask {p q : Nat} {b : Nat → Nat} (hq : ∀ w, w < n → p.testBit w = q.testBit w) : pl_A n t wt p b = pl_A n t wt q b := by
  apply pl_s_congr
  intro i hi
  rw [hq i hi]
theorem pl_K_mask {p q : Nat} {b : Nat → Nat} (hq : ∀ w, w < n → p.testBit w = q.testBit w) : pl_K n p b = pl_K n q b := by
  apply pl_s_congr
  intro i hi
  rw [hq i hi]
theorem xS_first {M fr h0 : Nat} {e u : Nat → Nat} {f : Nat} : ∃ r, mw M e t f n ≤ r ∧ r ≤ max (mw M e t f n) 96 ∧ (r < 96 → u r + h0 ≤ H) ∧ ∀ s, mw M e t f n ≤ s → s < r → s < 96 ∧ ¬ u s + h0 ≤ H := by
  obtain ⟨r, y1, y2, y3⟩ := tl_least (fun r => mw M e t f n ≤ r ∧ (r < 96 → u r + h0 ≤ H)) (max (mw M e t f n) 96) ⟨Nat.le_max_left _ _, fun hlt => by
    have := Nat.le_max_right (mw M e t f n) 96
    omega⟩
  refine ⟨r, y2.1, y1, y2.2, fun s q1 q2 => ?_⟩
  have := y3 s q2
  by_cases q3 : s < 96
  · refine ⟨q3, fun q4 => this ⟨q1, fun _ => q4⟩⟩
  · exact absurd ⟨q1, fun q4 => absurd q4 q3⟩ this
def hI (σ : ex_S) (n H dp p fr : Nat) (t h N od b bf u : Nat → Nat) (i : Nat) (z : (Nat → Nat) × (Nat → Int32) × Nat × Nat × Value × Value × Value) : Prop :=
  (∀ w, w < n → p.testBit w = true → z.1 w = b w) ∧ (∀ j, j < i → p.testBit (od j) = false → hSp H t h N fr bf u z.1 (od j) ∧ z.2.2.1 ≤ z.1 (od j) ∧ z.1 (od j) ≤ 96 + 12 * j ∧ (hOpen N p (od j) → z.2.2.2.1 ≤ z.1 (od j) + t (od j))) ∧ (∀ j, j < i → z.2.1 (8 * dp + od j) = nI (z.1 (od j))) ∧ (∀ x, x < 8 * dp → z.2.1 x = σ.2.2.1 12 x) ∧ fr ≤ z.2.2.1 ∧ z.2.2.1 ≤ 96 ∧ z.2.2.2.1 ≤ 96 ∧ (z.2.2.2.1 = 96 ∨ ∃ j, j < i ∧ p.testBit (od j) = false ∧ hOpen N p (od j) ∧ z.2.2.2.1 = z.1 (od j) + t (od j))
theorem c_hope {d dp p fr : Nat} {b bf u : Nat → Nat} {E : ex_O → ex_S → Prop} {σ : ex_S} (hx : xS σ n H t h wt N od bw) (hdp : dp ≤ 8) (hp : p < 2 ^ n) (hb : ∀ w, w < n → p.testBit w = true → σ.2.2.1 11 w = nI (b w) ∧ b w < 96) (hfr : fr < 96) (hbf : ∀ i, i < n → p.testBit (od i) = false → (dp = 0 → bf (od i) = 0) ∧ (0 < dp → σ.2.2.1 12 (8 * (dp - 1) + od i) = nI (bf (od i))) ∧ bf (od i) ≤ 96 + 12 * i) (hu : ∀ x, x < 96 → σ.2.2.1 10 x = nI (u x) ∧ u x ≤ 100)
    (hE : ∀ (e : Nat → Nat) (er : Nat → Int32) (s f1 : Nat) (z : Value × Value × Value), hI σ n H dp p fr t h N od b bf u n (e, er, s, f1, z) → E (.inl none) (hz σ er (nI (pl_A n t wt (2 ^ n - 1) e)) (lN (pl_K n (2 ^ n - 1) e)) (nI s) (nI f1))) : ex_C (d + 3) 16 [.ref 1, .int (nI dp), .int (nI p), .int (nI fr), .int (nI (pl_A n t wt p b)), .long (lN (pl_K n p b))] σ E := by
  obtain ⟨hn, hH, h3, h4, h5, h6, h7, h8, h9⟩ := hx
  have hp8 := tl_p8 hn
  simp only [r_X1_hope, r_X1_hope_0, r_X1_hope_1, r_X1_hope_3, r_X1_hope_6, r_X1_hope_7, r_X1_hope_9, r_X1_hope_12, r_X1_hope_13, r_X1_hope_15, r_X1_hope_18, r_X1_hope_19, r_X1_hope_21, r_X1_hope_24, r_X1_hope_25, r_X1_hope_27, r_X1_hope_28, r_X1_hope_30, r_X1_hope_31, r_X1_hope_35, r_X1_hope_36, r_X1_hope_39, r_X1_hope_42, r_X1_hope_45, r_X1_hope_46, r_X1_hope_49, r_X1_hope_51, r_X1_hope_52, r_X1_hope_54, r_X1_hope_55, r_X1_hope_57, r_X1_hope_58, r_X1_hope_59, r_X1_hope_60, r_X1_hope_63, r_X1_hope_64, r_X1_hope_67, r_X1_hope_69, r_X1_hope_71, r_X1_hope_72, r_X1_hope_73, r_X1_hope_76, r_X1_hope_78, r_X1_hope_79, r_X1_hope_80, r_X1_hope_83, r_X1_hope_85, r_X1_hope_88, r_X1_hope_89, r_X1_hope_92, r_X1_hope_93, r_X1_hope_96, r_X1_hope_98, r_X1_hope_100, r_X1_hope_101, r_X1_hope_103, r_X1_hope_104, r_X1_hope_105, r_X1_hope_107, r_X1_hope_108, r_X1_hope_110, r_X1_hope_112, r_X1_hope_113, r_X1_hope_115, r_X1_hope_118, r_X1_hope_121, r_X1_hope_123, r_X1_hope_124, r_X1_hope_127, r_X1_hope_129, r_X1_hope_131, r_X1_hope_132, r_X1_hope_134, r_X1_hope_135, r_X1_hope_136, r_X1_hope_137, r_X1_hope_140, r_X1_hope_141, r_X1_hope_143, r_X1_hope_145, r_X1_hope_148, r_X1_hope_149, r_X1_hope_152, r_X1_hope_153, r_X1_hope_154, r_X1_hope_157, r_X1_hope_159, r_X1_hope_161, r_X1_hope_164, r_X1_hope_165, r_X1_hope_168, r_X1_hope_169, r_X1_hope_170, r_X1_hope_173, r_X1_hope_175, r_X1_hope_178, r_X1_hope_181, r_X1_hope_182, r_X1_hope_185, r_X1_hope_187, r_X1_hope_188, r_X1_hope_189, r_X1_hope_190, r_X1_hope_191, r_X1_hope_192, r_X1_hope_195, r_X1_hope_196, r_X1_hope_197, r_X1_hope_200, r_X1_hope_202, r_X1_hope_203, r_X1_hope_206, r_X1_hope_209, r_X1_hope_211, r_X1_hope_212, r_X1_hope_213, r_X1_hope_216, r_X1_hope_219, r_X1_hope_222, r_X1_hope_225, hz_0]
  rw [show nI dp * (8 : Int32) = nI (8 * dp) by rw [show (8 : Int32) = nI 8 from rfl, pk_mul, Nat.mul_comm]]
  have hloop := tl_fori (τ := (Nat → Nat) × (Nat → Int32) × Nat × Nat × Value × Value × Value)
    (I := hI σ n H dp p fr t h N od b bf u)
    (A := fun i z => ex_r none (d + 2) ex_m_X1_hope E 33 [.ref 1, .int (nI dp), .int (nI p), .int (nI fr), .int (nI (pl_A n t wt p b)), .long (lN (pl_K n p b)), .retAddr 0, .int (nI (8 * dp)), .int (nI i), z.2.2.2.2.1, z.2.2.2.2.2.1, z.2.2.2.2.2.2] [] (hz σ z.2.1 (nI (pl_A n t wt (oq od p i) z.1)) (lN (pl_K n (oq od p i) z.1)) (nI z.2.2.1) (nI z.2.2.2.1)) 0) (n := n) ?_ ?_
  · exact hloop (b, σ.2.2.1 12, 96, 96, .retAddr 0, .retAddr 0, .retAddr 0) ⟨fun w _ _ => rfl, fun j hj => absurd hj (by omega), fun j hj => absurd hj (by omega), fun x _ => rfl, by show fr ≤ 96; omega, Nat.le_refl 96, Nat.le_refl 96, Or.inl rfl⟩
  · rintro i hi ⟨e, er, s, f1, z9, z10, z11⟩ ⟨i1, i2, i3, i4, i5, i6, i7, i8⟩ hnext
    simp only at i1 i2 i3 i4 i5 i6 i7 i8 hnext ⊢
    obtain ⟨ho1, ho2, _, _⟩ := h6 i hi
    generalize hwd : od i = w at ho1 ho2
    obtain ⟨ht, hh, hwt, hM, ht1, ht2, hh2, hwt2, hMn⟩ := h5 w ho2
    have hne : ∀ j, j < i → od j ≠ w := fun j hj e2 => by
      have := h8 j i (by omega) hi (by rw [hwd]; exact e2)
      omega
    have hw8 := tl_in (show w < 8 by omega) (show 8 < 2 ^ 31 by omega)
    have hwc := tl_cl (show w < 2 ^ 31 by omega)
    have hri := tl_in (show 8 * dp + w < 72 by omega) (show 72 < 2 ^ 31 by omega)
    have hrc := tl_cl (show 8 * dp + w < 2 ^ 31 by omega)
    simp only [r_X1_hope_33]
    simp only [r_X1_hope_0, r_X1_hope_1, r_X1_hope_3, r_X1_hope_6, r_X1_hope_7, r_X1_hope_9, r_X1_hope_12, r_X1_hope_13, r_X1_hope_15, r_X1_hope_18, r_X1_hope_19, r_X1_hope_21, r_X1_hope_24, r_X1_hope_25, r_X1_hope_27, r_X1_hope_28, r_X1_hope_30, r_X1_hope_31, r_X1_hope_35, r_X1_hope_36, r_X1_hope_39, r_X1_hope_42, r_X1_hope_45, r_X1_hope_46, r_X1_hope_49, r_X1_hope_51, r_X1_hope_52, r_X1_hope_54, r_X1_hope_55, r_X1_hope_57, r_X1_hope_58, r_X1_hope_59, r_X1_hope_60, r_X1_hope_63, r_X1_hope_64, r_X1_hope_67, r_X1_hope_69, r_X1_hope_71, r_X1_hope_72, r_X1_hope_73, r_X1_hope_76, r_X1_hope_78, r_X1_hope_79, r_X1_hope_80, r_X1_hope_85, r_X1_hope_88, r_X1_hope_89, r_X1_hope_92, r_X1_hope_93, r_X1_hope_96, r_X1_hope_98, r_X1_hope_100, r_X1_hope_101, r_X1_hope_103, r_X1_hope_104, r_X1_hope_105, r_X1_hope_107, r_X1_hope_108, r_X1_hope_110, r_X1_hope_112, r_X1_hope_113, r_X1_hope_115, r_X1_hope_118, r_X1_hope_121, r_X1_hope_123, r_X1_hope_124, r_X1_hope_127, r_X1_hope_129, r_X1_hope_131, r_X1_hope_132, r_X1_hope_134, r_X1_hope_135, r_X1_hope_136, r_X1_hope_137, r_X1_hope_140, r_X1_hope_141, r_X1_hope_143, r_X1_hope_145, r_X1_hope_148, r_X1_hope_149, r_X1_hope_152, r_X1_hope_153, r_X1_hope_154, r_X1_hope_157, r_X1_hope_159, r_X1_hope_161, r_X1_hope_164, r_X1_hope_165, r_X1_hope_168, r_X1_hope_169, r_X1_hope_170, r_X1_hope_173, r_X1_hope_175, r_X1_hope_178, r_X1_hope_181, r_X1_hope_182, r_X1_hope_185, r_X1_hope_187, r_X1_hope_188, r_X1_hope_189, r_X1_hope_190, r_X1_hope_191, r_X1_hope_192, r_X1_hope_195, r_X1_hope_196, r_X1_hope_197, r_X1_hope_200, r_X1_hope_202, r_X1_hope_203, r_X1_hope_206, r_X1_hope_209, r_X1_hope_211, r_X1_hope_212, r_X1_hope_213, r_X1_hope_216, r_X1_hope_219, r_X1_hope_222, r_X1_hope_225, hz_1, hz_3, Nat.reduceEqDiff, if_false, if_true, h3, tl_in (show i < 8 by omega) (show 8 < 2 ^ 31 by omega), tl_cl (show i < 2 ^ 31 by omega), ho1, hw8, hwc, true_and, tb0, tb_nI (show p < 2 ^ 31 by omega) (show w < 32 by omega), nI_add, hri, hrc, hz_12, nI_1]
    rw [if_neg (nI_ge hi (by omega))]
    by_cases hpw : p.testBit w = true
    · rw [if_neg (by rw [hpw]; decide), (hb w ho2 hpw).1]
      have hnx := hnext (e, upd er (8 * dp + w) (nI (b w)), s, f1, .int (nI w), z10, z11) ⟨i1, fun j hj hq => ?_, fun j hj => ?_, fun x hx => ?_, i5, i6, i7, ?_⟩
      · simp only at hnx
        rw [show oq od p (i + 1) = oq od p i by rw [oq, hwd]; exact pl_or_self (oq_bit.mpr (Or.inl hpw))] at hnx
        exact hnx
      · rcases Nat.lt_or_ge j i with q | q
        · exact i2 j q hq
        · have e2 : j = i := by omega
          subst e2
          rw [hwd, hpw] at hq
          cases hq
      · simp only
        rcases Nat.lt_or_ge j i with q | q
        · rw [s_u, if_neg (by have := hne j q; omega)]
          exact i3 j q
        · have e2 : j = i := by omega
          subst e2
          rw [hwd, s_u, if_pos rfl, i1 w ho2 hpw]
      · simp only
        rw [s_u, if_neg (by omega)]
        exact i4 x hx
      · rcases i8 with i8 | ⟨j, y1, y2⟩
        · exact Or.inl i8
        · exact Or.inr ⟨j, by omega, y2⟩
    · have hpf : p.testBit w = false := by simpa using hpw
      rw [if_pos hpf]
      obtain ⟨g1, g2, g3⟩ := hbf i hi (by rw [hwd]; exact hpf)
      rw [hwd] at g1 g2 g3
      have hbefore : ∀ (z : Value), ex_r none (d + 2) ex_m_X1_hope E 105 [.ref 1, .int (nI dp), .int (nI p), .int (nI fr), .int (nI (pl_A n t wt p b)), .long (lN (pl_K n p b)), .retAddr 0, .int (nI (8 * dp)), .int (nI i), .int (nI w), z10, z11] [.int (nI (bf w))] (hz σ er (nI (pl_A n t wt (oq od p i) e)) (lN (pl_K n (oq od p i) e)) (nI s) (nI f1)) 0 → ex_r none (d + 2) ex_m_X1_hope E 83 [.ref 1, .int (nI dp), .int (nI p), .int (nI fr), .int (nI (pl_A n t wt p b)), .long (lN (pl_K n p b)), .retAddr 0, .int (nI (8 * dp)), .int (nI i), .int (nI w), z10, z11] [] (hz σ er (nI (pl_A n t wt (oq od p i) e)) (lN (pl_K n (oq od p i) e)) (nI s) (nI f1)) 0 := by
        intro _ hz5
        simp only [r_X1_hope_0, r_X1_hope_1, r_X1_hope_3, r_X1_hope_6, r_X1_hope_7, r_X1_hope_9, r_X1_hope_12, r_X1_hope_13, r_X1_hope_15, r_X1_hope_18, r_X1_hope_19, r_X1_hope_21, r_X1_hope_24, r_X1_hope_25, r_X1_hope_27, r_X1_hope_28, r_X1_hope_30, r_X1_hope_31, r_X1_hope_35, r_X1_hope_36, r_X1_hope_39, r_X1_hope_42, r_X1_hope_45, r_X1_hope_46, r_X1_hope_49, r_X1_hope_51, r_X1_hope_52, r_X1_hope_54, r_X1_hope_55, r_X1_hope_57, r_X1_hope_58, r_X1_hope_59, r_X1_hope_60, r_X1_hope_63, r_X1_hope_64, r_X1_hope_67, r_X1_hope_69, r_X1_hope_71, r_X1_hope_72, r_X1_hope_73, r_X1_hope_76, r_X1_hope_78, r_X1_hope_79, r_X1_hope_80, r_X1_hope_83, r_X1_hope_85, r_X1_hope_88, r_X1_hope_89, r_X1_hope_92, r_X1_hope_93, r_X1_hope_96, r_X1_hope_98, r_X1_hope_100, r_X1_hope_101, r_X1_hope_103, r_X1_hope_104, r_X1_hope_107, r_X1_hope_108, r_X1_hope_110, r_X1_hope_112, r_X1_hope_113, r_X1_hope_115, r_X1_hope_118, r_X1_hope_121, r_X1_hope_123, r_X1_hope_124, r_X1_hope_127, r_X1_hope_129, r_X1_hope_131, r_X1_hope_132, r_X1_hope_134, r_X1_hope_135, r_X1_hope_136, r_X1_hope_137, r_X1_hope_140, r_X1_hope_141, r_X1_hope_143, r_X1_hope_145, r_X1_hope_148, r_X1_hope_149, r_X1_hope_152, r_X1_hope_153, r_X1_hope_154, r_X1_hope_157, r_X1_hope_159, r_X1_hope_161, r_X1_hope_164, r_X1_hope_165, r_X1_hope_168, r_X1_hope_169, r_X1_hope_170, r_X1_hope_173, r_X1_hope_175, r_X1_hope_178, r_X1_hope_181, r_X1_hope_182, r_X1_hope_185, r_X1_hope_187, r_X1_hope_188, r_X1_hope_189, r_X1_hope_190, r_X1_hope_191, r_X1_hope_192, r_X1_hope_195, r_X1_hope_196, r_X1_hope_197, r_X1_hope_200, r_X1_hope_202, r_X1_hope_203, r_X1_hope_206, r_X1_hope_209, r_X1_hope_211, r_X1_hope_212, r_X1_hope_213, r_X1_hope_216, r_X1_hope_219, r_X1_hope_222, r_X1_hope_225, tl_eq0 (show 8 * dp < 2 ^ 31 by omega)]
        by_cases q : dp = 0
        · rw [if_pos (by omega)]
          rw [g1 q] at hz5
          exact hz5
        · rw [if_neg (by omega), show nI (8 * dp) - (8 : Int32) = nI (8 * (dp - 1)) by rw [show (8 : Int32) = nI 8 from rfl, pk_sub (by omega)]; congr 1; omega, nI_add, tl_in (show 8 * (dp - 1) + w < 72 by omega) (show 72 < 2 ^ 31 by omega), tl_cl (show 8 * (dp - 1) + w < 2 ^ 31 by omega)]
          rw [hz_3, if_pos rfl, i4 _ (by omega), g2 (by omega)]
          exact ⟨trivial, hz5⟩
      apply hbefore (.retAddr 0)
      have hposs : ∀ v, (N w).testBit v = true → ∃ j, j < i ∧ od j = v := fun v hv => h9 i v hi (by rw [hwd]; exact hv)
      have hev : ∀ v, (N w).testBit v = true → v < n ∧ er (8 * dp + v) = nI (e v) ∧ e v + t v ≤ 96 + 12 * i := by
        intro v hv
        obtain ⟨j, hj, e2⟩ := hposs v hv
        have hvn := tl_bit_lt hMn hv
        refine ⟨hvn, ?_, ?_⟩
        · rw [← e2]
          exact i3 j hj
        · have ht9 := (h5 v hvn).2.2.2.2.2.1
          by_cases q : p.testBit v = true
          · have y1 := i1 v hvn q
            have y2 := (hb v hvn q).2
            omega
          · have y1 := (i2 j hj (by rw [e2]; simpa using q)).2.2.1
            rw [e2] at y1
            omega
      obtain ⟨r, r1, r2, r3, r4⟩ := xS_first (n := n) (H := H) (t := t) (M := N w) (h0 := h w) (e := e) (u := u) (f := max fr (bf w)) (fr := 0)
      have hmx : max fr (bf w) ≤ 96 + 12 * i := Nat.max_le.mpr ⟨by omega, g3⟩
      have hmw : mw (N w) e t (max fr (bf w)) n ≤ 96 + 12 * i := mw_le hmx (fun v hv hb2 => (hev v hb2).2.2)
      have hr96 : r ≤ 96 + 12 * i := Nat.le_trans r2 (Nat.max_le.mpr ⟨hmw, by omega⟩)
      simp only [r_X1_hope_0, r_X1_hope_1, r_X1_hope_3, r_X1_hope_6, r_X1_hope_7, r_X1_hope_9, r_X1_hope_12, r_X1_hope_13, r_X1_hope_15, r_X1_hope_18, r_X1_hope_19, r_X1_hope_21, r_X1_hope_24, r_X1_hope_25, r_X1_hope_27, r_X1_hope_28, r_X1_hope_30, r_X1_hope_31, r_X1_hope_35, r_X1_hope_36, r_X1_hope_39, r_X1_hope_42, r_X1_hope_45, r_X1_hope_46, r_X1_hope_49, r_X1_hope_51, r_X1_hope_52, r_X1_hope_54, r_X1_hope_55, r_X1_hope_57, r_X1_hope_58, r_X1_hope_59, r_X1_hope_60, r_X1_hope_63, r_X1_hope_64, r_X1_hope_67, r_X1_hope_69, r_X1_hope_71, r_X1_hope_72, r_X1_hope_73, r_X1_hope_76, r_X1_hope_78, r_X1_hope_79, r_X1_hope_80, r_X1_hope_83, r_X1_hope_85, r_X1_hope_88, r_X1_hope_89, r_X1_hope_92, r_X1_hope_93, r_X1_hope_96, r_X1_hope_98, r_X1_hope_100, r_X1_hope_101, r_X1_hope_103, r_X1_hope_104, r_X1_hope_105, r_X1_hope_107, r_X1_hope_108, r_X1_hope_110, r_X1_hope_112, r_X1_hope_113, r_X1_hope_115, r_X1_hope_118, r_X1_hope_121, r_X1_hope_123, r_X1_hope_124, r_X1_hope_127, r_X1_hope_129, r_X1_hope_131, r_X1_hope_132, r_X1_hope_134, r_X1_hope_135, r_X1_hope_136, r_X1_hope_137, r_X1_hope_140, r_X1_hope_141, r_X1_hope_143, r_X1_hope_145, r_X1_hope_148, r_X1_hope_149, r_X1_hope_152, r_X1_hope_153, r_X1_hope_154, r_X1_hope_157, r_X1_hope_159, r_X1_hope_161, r_X1_hope_164, r_X1_hope_165, r_X1_hope_168, r_X1_hope_169, r_X1_hope_170, r_X1_hope_173, r_X1_hope_175, r_X1_hope_178, r_X1_hope_181, r_X1_hope_182, r_X1_hope_185, r_X1_hope_187, r_X1_hope_188, r_X1_hope_189, r_X1_hope_190, r_X1_hope_191, r_X1_hope_192, r_X1_hope_195, r_X1_hope_196, r_X1_hope_197, r_X1_hope_200, r_X1_hope_202, r_X1_hope_203, r_X1_hope_206, r_X1_hope_209, r_X1_hope_211, r_X1_hope_212, r_X1_hope_213, r_X1_hope_216, r_X1_hope_219, r_X1_hope_222, r_X1_hope_225, tl_max (show fr < 2 ^ 31 by omega) (show bf w < 2 ^ 31 by omega)]
      rw [c_xearliest (σ := hz σ er (nI (pl_A n t wt (oq od p i) e)) (lN (pl_K n (oq od p i) e)) (nI s) (nI f1)) (M := N w) (e := e) (t := t) (u := u) (r := r) (h0 := h w) (H := H) hn h3 h4 (by omega) hM hMn hh (by omega) (fun v hv hb2 => ⟨(hev v hb2).2.1, (h5 v hv).1, by have := (hev v hb2).2.2; omega⟩) (by omega) hu (by omega) (by omega) r1 r3 r4]
      simp only [Option.toList, List.cons_append, List.nil_append, r_X1_hope_0, r_X1_hope_1, r_X1_hope_3, r_X1_hope_6, r_X1_hope_7, r_X1_hope_9, r_X1_hope_12, r_X1_hope_13, r_X1_hope_15, r_X1_hope_18, r_X1_hope_19, r_X1_hope_21, r_X1_hope_24, r_X1_hope_25, r_X1_hope_27, r_X1_hope_28, r_X1_hope_30, r_X1_hope_31, r_X1_hope_35, r_X1_hope_36, r_X1_hope_39, r_X1_hope_42, r_X1_hope_45, r_X1_hope_46, r_X1_hope_49, r_X1_hope_51, r_X1_hope_52, r_X1_hope_54, r_X1_hope_55, r_X1_hope_57, r_X1_hope_58, r_X1_hope_59, r_X1_hope_60, r_X1_hope_63, r_X1_hope_64, r_X1_hope_67, r_X1_hope_69, r_X1_hope_71, r_X1_hope_72, r_X1_hope_73, r_X1_hope_76, r_X1_hope_78, r_X1_hope_79, r_X1_hope_80, r_X1_hope_83, r_X1_hope_85, r_X1_hope_88, r_X1_hope_89, r_X1_hope_92, r_X1_hope_93, r_X1_hope_96, r_X1_hope_98, r_X1_hope_100, r_X1_hope_101, r_X1_hope_103, r_X1_hope_104, r_X1_hope_105, r_X1_hope_107, r_X1_hope_108, r_X1_hope_110, r_X1_hope_112, r_X1_hope_113, r_X1_hope_115, r_X1_hope_118, r_X1_hope_121, r_X1_hope_123, r_X1_hope_124, r_X1_hope_127, r_X1_hope_129, r_X1_hope_131, r_X1_hope_132, r_X1_hope_134, r_X1_hope_135, r_X1_hope_136, r_X1_hope_137, r_X1_hope_140, r_X1_hope_141, r_X1_hope_143, r_X1_hope_145, r_X1_hope_148, r_X1_hope_149, r_X1_hope_152, r_X1_hope_153, r_X1_hope_154, r_X1_hope_157, r_X1_hope_159, r_X1_hope_161, r_X1_hope_164, r_X1_hope_165, r_X1_hope_168, r_X1_hope_169, r_X1_hope_170, r_X1_hope_173, r_X1_hope_175, r_X1_hope_178, r_X1_hope_181, r_X1_hope_182, r_X1_hope_185, r_X1_hope_187, r_X1_hope_188, r_X1_hope_189, r_X1_hope_190, r_X1_hope_191, r_X1_hope_192, r_X1_hope_195, r_X1_hope_196, r_X1_hope_197, r_X1_hope_200, r_X1_hope_202, r_X1_hope_203, r_X1_hope_206, r_X1_hope_209, r_X1_hope_211, r_X1_hope_212, r_X1_hope_213, r_X1_hope_216, r_X1_hope_219, r_X1_hope_222, r_X1_hope_225, nI_add, hri, hrc, true_and, hz_12, hz_1, if_true]
      rw [c_awayBy (σ := hz σ (upd er (8 * dp + w) (nI r)) (nI (pl_A n t wt (oq od p i) e)) (lN (pl_K n (oq od p i) e)) (nI s) (nI f1)) (t0 := t w) (w0 := wt w) (by omega) ht hwt]
      simp only [Option.toList, List.cons_append, List.nil_append, r_X1_hope_0, r_X1_hope_1, r_X1_hope_3, r_X1_hope_6, r_X1_hope_7, r_X1_hope_9, r_X1_hope_12, r_X1_hope_13, r_X1_hope_15, r_X1_hope_18, r_X1_hope_19, r_X1_hope_21, r_X1_hope_24, r_X1_hope_25, r_X1_hope_27, r_X1_hope_28, r_X1_hope_30, r_X1_hope_31, r_X1_hope_35, r_X1_hope_36, r_X1_hope_39, r_X1_hope_42, r_X1_hope_45, r_X1_hope_46, r_X1_hope_49, r_X1_hope_51, r_X1_hope_52, r_X1_hope_54, r_X1_hope_55, r_X1_hope_57, r_X1_hope_58, r_X1_hope_59, r_X1_hope_60, r_X1_hope_63, r_X1_hope_64, r_X1_hope_67, r_X1_hope_69, r_X1_hope_71, r_X1_hope_72, r_X1_hope_73, r_X1_hope_76, r_X1_hope_78, r_X1_hope_79, r_X1_hope_80, r_X1_hope_83, r_X1_hope_85, r_X1_hope_88, r_X1_hope_89, r_X1_hope_92, r_X1_hope_93, r_X1_hope_96, r_X1_hope_98, r_X1_hope_100, r_X1_hope_101, r_X1_hope_103, r_X1_hope_104, r_X1_hope_105, r_X1_hope_107, r_X1_hope_108, r_X1_hope_110, r_X1_hope_112, r_X1_hope_113, r_X1_hope_115, r_X1_hope_118, r_X1_hope_121, r_X1_hope_123, r_X1_hope_124, r_X1_hope_127, r_X1_hope_129, r_X1_hope_131, r_X1_hope_132, r_X1_hope_134, r_X1_hope_135, r_X1_hope_136, r_X1_hope_137, r_X1_hope_140, r_X1_hope_141, r_X1_hope_143, r_X1_hope_145, r_X1_hope_148, r_X1_hope_149, r_X1_hope_152, r_X1_hope_153, r_X1_hope_154, r_X1_hope_157, r_X1_hope_159, r_X1_hope_161, r_X1_hope_164, r_X1_hope_165, r_X1_hope_168, r_X1_hope_169, r_X1_hope_170, r_X1_hope_173, r_X1_hope_175, r_X1_hope_178, r_X1_hope_181, r_X1_hope_182, r_X1_hope_185, r_X1_hope_187, r_X1_hope_188, r_X1_hope_189, r_X1_hope_190, r_X1_hope_191, r_X1_hope_192, r_X1_hope_195, r_X1_hope_196, r_X1_hope_197, r_X1_hope_200, r_X1_hope_202, r_X1_hope_203, r_X1_hope_206, r_X1_hope_209, r_X1_hope_211, r_X1_hope_212, r_X1_hope_213, r_X1_hope_216, r_X1_hope_219, r_X1_hope_222, r_X1_hope_225, nI_add, hz_114, hz_2, if_true]
      rw [c_keyOf (by omega) (by omega)]
      simp only [Option.toList, List.cons_append, List.nil_append, r_X1_hope_0, r_X1_hope_1, r_X1_hope_3, r_X1_hope_6, r_X1_hope_7, r_X1_hope_9, r_X1_hope_12, r_X1_hope_13, r_X1_hope_15, r_X1_hope_18, r_X1_hope_19, r_X1_hope_21, r_X1_hope_24, r_X1_hope_25, r_X1_hope_27, r_X1_hope_28, r_X1_hope_30, r_X1_hope_31, r_X1_hope_35, r_X1_hope_36, r_X1_hope_39, r_X1_hope_42, r_X1_hope_45, r_X1_hope_46, r_X1_hope_49, r_X1_hope_51, r_X1_hope_52, r_X1_hope_54, r_X1_hope_55, r_X1_hope_57, r_X1_hope_58, r_X1_hope_59, r_X1_hope_60, r_X1_hope_63, r_X1_hope_64, r_X1_hope_67, r_X1_hope_69, r_X1_hope_71, r_X1_hope_72, r_X1_hope_73, r_X1_hope_76, r_X1_hope_78, r_X1_hope_79, r_X1_hope_80, r_X1_hope_83, r_X1_hope_85, r_X1_hope_88, r_X1_hope_89, r_X1_hope_92, r_X1_hope_93, r_X1_hope_96, r_X1_hope_98, r_X1_hope_100, r_X1_hope_101, r_X1_hope_103, r_X1_hope_104, r_X1_hope_105, r_X1_hope_107, r_X1_hope_108, r_X1_hope_110, r_X1_hope_112, r_X1_hope_113, r_X1_hope_115, r_X1_hope_118, r_X1_hope_121, r_X1_hope_123, r_X1_hope_124, r_X1_hope_127, r_X1_hope_129, r_X1_hope_131, r_X1_hope_132, r_X1_hope_134, r_X1_hope_135, r_X1_hope_136, r_X1_hope_137, r_X1_hope_140, r_X1_hope_141, r_X1_hope_143, r_X1_hope_145, r_X1_hope_148, r_X1_hope_149, r_X1_hope_152, r_X1_hope_153, r_X1_hope_154, r_X1_hope_157, r_X1_hope_159, r_X1_hope_161, r_X1_hope_164, r_X1_hope_165, r_X1_hope_168, r_X1_hope_169, r_X1_hope_170, r_X1_hope_173, r_X1_hope_175, r_X1_hope_178, r_X1_hope_181, r_X1_hope_182, r_X1_hope_185, r_X1_hope_187, r_X1_hope_188, r_X1_hope_189, r_X1_hope_190, r_X1_hope_191, r_X1_hope_192, r_X1_hope_195, r_X1_hope_196, r_X1_hope_197, r_X1_hope_200, r_X1_hope_202, r_X1_hope_203, r_X1_hope_206, r_X1_hope_209, r_X1_hope_211, r_X1_hope_212, r_X1_hope_213, r_X1_hope_216, r_X1_hope_219, r_X1_hope_222, r_X1_hope_225, lN_add, hz_115, hz_1, Nat.reduceEqDiff, if_false, if_true, tl_min (show s < 2 ^ 31 by omega) (show r < 2 ^ 31 by omega), hz_116, hz_3, hw8, hwc, true_and, hM, tl_andnot, ht, nI_add, tl_min (show f1 < 2 ^ 31 by omega) (show r + t w < 2 ^ 31 by omega), hz_117, nI_1, tl_eq0 (show tl_df (N w) p < 2 ^ 31 by have := tl_df_lt hMn p; omega)]
      have hqf : (oq od p i).testBit w = false := by
        cases hq : (oq od p i).testBit w with
        | false => rfl
        | true =>
          rcases oq_bit.mp hq with h10 | ⟨j, hj, e2⟩
          · rw [hpf] at h10
            cases h10
          · exact absurd e2 (hne j hj)
      rw [← pl_A_add (b := e) (t := t) (wt := wt) (a := r) ho2 hqf, ← pl_K_add (b := e) (a := r) ho2 hqf]
      have hNw : (N w).testBit w = false := by
        cases hq : (N w).testBit w with
        | false => rfl
        | true =>
          obtain ⟨j, hj, e2⟩ := hposs w hq
          exact absurd e2 (hne j hj)
      have hup : ∀ v, v ≠ w → pl_up e w r v = e v := fun v hv => pl_up_ne e r hv
      have hspw : hSp H t h N fr bf u (pl_up e w r) w := by
        have hnv : ∀ v, (N w).testBit v = true → v ≠ w := fun v hv e2 => by
          rw [e2, hNw] at hv
          cases hv
        refine ⟨?_, ?_, fun v hv => ?_, fun hlt => ?_, fun X x0 x1 x2 x3 x4 => ?_⟩
        · rw [pl_up_at]
          exact Nat.le_trans (Nat.le_max_left fr (bf w)) (Nat.le_trans mw_f r1)
        · rw [pl_up_at]
          exact Nat.le_trans (Nat.le_max_right fr (bf w)) (Nat.le_trans mw_f r1)
        · rw [pl_up_at, hup v (hnv v hv)]
          exact Nat.le_trans (mw_ge hv (tl_bit_lt hMn hv)) r1
        · rw [pl_up_at] at hlt ⊢
          exact r3 hlt
        · rw [pl_up_at]
          rcases Nat.lt_or_ge X r with q | q
          · exfalso
            have hmX : mw (N w) e t (max fr (bf w)) n ≤ X := mw_le (Nat.max_le.mpr ⟨x1, x2⟩) (fun v hv hb2 => by
              have := x3 v hb2
              rw [hup v (hnv v hb2)] at this
              exact this)
            obtain ⟨y1, y2⟩ := r4 X hmX q
            exact y2 (x4 y1)
          · exact q
      have hspj : ∀ j, j < i → p.testBit (od j) = false → hSp H t h N fr bf u (pl_up e w r) (od j) := by
        intro j hj hq
        obtain ⟨y1, y2, y3, y4, y5⟩ := (i2 j hj hq).1
        have hnv : ∀ v, (N (od j)).testBit v = true → v ≠ w := fun v hv => by
          obtain ⟨j2, hj2, e2⟩ := h9 j v (by omega) hv
          rw [← e2]
          exact hne j2 (by omega)
        have hej := hup (od j) (hne j hj)
        unfold hSp
        rw [hej]
        refine ⟨y1, y2, fun v hv => ?_, y4, fun X x0 x1 x2 x3 x4 => ?_⟩
        · rw [hup v (hnv v hv)]
          exact y3 v hv
        · apply y5 X x0 x1 x2 _ x4
          intro v hv
          have := x3 v hv
          rw [hup v (hnv v hv)] at this
          exact this
      have hrow : ∀ j, j < i + 1 → upd er (8 * dp + w) (nI r) (8 * dp + od j) = nI (pl_up e w r (od j)) := by
        intro j hj
        rcases Nat.lt_or_ge j i with q | q
        · rw [s_u, if_neg (by have := hne j q; omega), hup _ (hne j q)]
          exact i3 j q
        · have e2 : j = i := by omega
          subst e2
          rw [hwd, s_u, if_pos rfl, pl_up_at]
      have hi1 : ∀ v, v < n → p.testBit v = true → pl_up e w r v = b v := fun v hv hq => by
        rw [hup v (fun e2 => by rw [e2, hpf] at hq; cases hq)]
        exact i1 v hv hq
      have hpre : ∀ x, x < 8 * dp → upd er (8 * dp + w) (nI r) x = σ.2.2.1 12 x := fun x hx => by
        rw [s_u, if_neg (by omega)]
        exact i4 x hx
      have hfrr : fr ≤ r := by
        have := hspw.1
        rw [pl_up_at] at this
        exact this
      have hs1 : fr ≤ min s r := Nat.le_min.mpr ⟨i5, hfrr⟩
      have hs2 : min s r ≤ 96 := Nat.le_trans (Nat.min_le_left _ _) i6
      by_cases hop : tl_df (N w) p = 0
      · rw [if_pos hop]
        have hopn : hOpen N p w := pl_open.mp hop
        refine hnext (pl_up e w r, upd er (8 * dp + w) (nI r), min s r, min f1 (r + t w), .int (nI w), .int (nI (bf w)), .int (nI r)) ⟨hi1, fun j hj hq => ?_, hrow, hpre, hs1, hs2, Nat.le_trans (Nat.min_le_left _ _) i7, ?_⟩ |> (fun hh => by
          simp only at hh
          rw [show oq od p (i + 1) = oq od p i ||| 2 ^ w by rw [oq, hwd]] at hh
          exact hh)
        · simp only
          rcases Nat.lt_or_ge j i with q | q
          · obtain ⟨y1, y2, y3, y4⟩ := i2 j q hq
            rw [hup _ (hne j q)]
            exact ⟨hspj j q hq, Nat.le_trans (Nat.min_le_left _ _) y2, y3, fun ho => Nat.le_trans (Nat.min_le_left _ _) (y4 ho)⟩
          · have e2 : j = i := by omega
            subst e2
            rw [hwd, pl_up_at]
            exact ⟨hspw, Nat.min_le_right _ _, hr96, fun _ => Nat.min_le_right _ _⟩
        · simp only
          rcases Nat.le_total f1 (r + t w) with q | q
          · rw [Nat.min_eq_left q]
            rcases i8 with i8 | ⟨j, y1, y2, y3, y4⟩
            · exact Or.inl i8
            · exact Or.inr ⟨j, by omega, y2, y3, by rw [hup _ (hne j y1)]; exact y4⟩
          · rw [Nat.min_eq_right q]
            exact Or.inr ⟨i, by omega, by rw [hwd]; exact hpf, by rw [hwd]; exact hopn, by rw [hwd, pl_up_at]⟩
      · rw [if_neg hop]
        have hopn : ¬ hOpen N p w := fun q => hop (pl_open.mpr q)
        refine hnext (pl_up e w r, upd er (8 * dp + w) (nI r), min s r, f1, .int (nI w), .int (nI (bf w)), .int (nI r)) ⟨hi1, fun j hj hq => ?_, hrow, hpre, hs1, hs2, i7, ?_⟩ |> (fun hh => by
          simp only at hh
          rw [show oq od p (i + 1) = oq od p i ||| 2 ^ w by rw [oq, hwd]] at hh
          exact hh)
        · simp only
          rcases Nat.lt_or_ge j i with q | q
          · obtain ⟨y1, y2, y3, y4⟩ := i2 j q hq
            rw [hup _ (hne j q)]
            exact ⟨hspj j q hq, Nat.le_trans (Nat.min_le_left _ _) y2, y3, y4⟩
          · have e2 : j = i := by omega
            subst e2
            rw [hwd, pl_up_at]
            exact ⟨hspw, Nat.min_le_right _ _, hr96, fun q => absurd q hopn⟩
        · simp only
          rcases i8 with i8 | ⟨j, y1, y2, y3, y4⟩
          · exact Or.inl i8
          · exact Or.inr ⟨j, by omega, y2, y3, by rw [hup _ (hne j y1)]; exact y4⟩
  · rintro ⟨e, er, s, f1, z9, z10, z11⟩ hI0
    simp only
    have hfm : ∀ w, w < n → (oq od p n).testBit w = (2 ^ n - 1).testBit w := fun w hw => by
      rw [pl_fb hw]
      exact oq_bit.mpr (Or.inr (h7 w hw).1)
    simp only [r_X1_hope_33]
    simp only [r_X1_hope_0, r_X1_hope_1, r_X1_hope_3, r_X1_hope_6, r_X1_hope_7, r_X1_hope_9, r_X1_hope_12, r_X1_hope_13, r_X1_hope_15, r_X1_hope_18, r_X1_hope_19, r_X1_hope_21, r_X1_hope_24, r_X1_hope_25, r_X1_hope_27, r_X1_hope_28, r_X1_hope_30, r_X1_hope_31, r_X1_hope_35, r_X1_hope_36, r_X1_hope_39, r_X1_hope_42, r_X1_hope_45, r_X1_hope_46, r_X1_hope_49, r_X1_hope_51, r_X1_hope_52, r_X1_hope_54, r_X1_hope_55, r_X1_hope_57, r_X1_hope_58, r_X1_hope_59, r_X1_hope_60, r_X1_hope_63, r_X1_hope_64, r_X1_hope_67, r_X1_hope_69, r_X1_hope_71, r_X1_hope_72, r_X1_hope_73, r_X1_hope_76, r_X1_hope_78, r_X1_hope_79, r_X1_hope_80, r_X1_hope_83, r_X1_hope_85, r_X1_hope_88, r_X1_hope_89, r_X1_hope_92, r_X1_hope_93, r_X1_hope_96, r_X1_hope_98, r_X1_hope_100, r_X1_hope_101, r_X1_hope_103, r_X1_hope_104, r_X1_hope_105, r_X1_hope_107, r_X1_hope_108, r_X1_hope_110, r_X1_hope_112, r_X1_hope_113, r_X1_hope_115, r_X1_hope_118, r_X1_hope_121, r_X1_hope_123, r_X1_hope_124, r_X1_hope_127, r_X1_hope_129, r_X1_hope_131, r_X1_hope_132, r_X1_hope_134, r_X1_hope_135, r_X1_hope_136, r_X1_hope_137, r_X1_hope_140, r_X1_hope_141, r_X1_hope_143, r_X1_hope_145, r_X1_hope_148, r_X1_hope_149, r_X1_hope_152, r_X1_hope_153, r_X1_hope_154, r_X1_hope_157, r_X1_hope_159, r_X1_hope_161, r_X1_hope_164, r_X1_hope_165, r_X1_hope_168, r_X1_hope_169, r_X1_hope_170, r_X1_hope_173, r_X1_hope_175, r_X1_hope_178, r_X1_hope_181, r_X1_hope_182, r_X1_hope_185, r_X1_hope_187, r_X1_hope_188, r_X1_hope_189, r_X1_hope_190, r_X1_hope_191, r_X1_hope_192, r_X1_hope_195, r_X1_hope_196, r_X1_hope_197, r_X1_hope_200, r_X1_hope_202, r_X1_hope_203, r_X1_hope_206, r_X1_hope_209, r_X1_hope_211, r_X1_hope_212, r_X1_hope_213, r_X1_hope_216, r_X1_hope_219, r_X1_hope_222, r_X1_hope_225, hz_1, Nat.reduceEqDiff, if_false, h3, Int32.le_refl, if_true]
    rw [pl_A_mask hfm, pl_K_mask hfm]
    exact hE e er s f1 (z9, z10, z11) hI0
end PB
