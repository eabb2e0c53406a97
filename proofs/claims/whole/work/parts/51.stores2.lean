/-! ===== the model's choice is the class's ===== -/
section SP
theorem gu_sign {ag lo tn : Nat → Int32} {lim : Int32} {s : Nat} : ∀ {c : Nat}, (∀ k, k < c → 0 ≤ ag (4 * s + k) ∧ 0 ≤ lo (4 * s + k)) → (gu ag lo tn lim s c < 0 ↔ gu ag lo tn lim s c = -1)
  | 0, _ => by simp [gu]
  | c + 1, h => by
    have ih := gu_sign (tn := tn) (lim := lim) (c := c) (fun k hk => h k (by omega))
    obtain ⟨h1, h2⟩ := h c (by omega)
    rw [gu]
    split
    · rename_i q
      have h3 : 0 ≤ mnI (lo (4 * s + c)) lim := by
        unfold mnI
        split
        · exact Int32.le_trans h1 (Int32.not_lt.mp q.2)
        · exact h2
      have h4 : 0 ≤ mxI (gu ag lo tn lim s c) (mnI (lo (4 * s + c)) lim) := by
        unfold mxI
        split
        · exact h3
        · rename_i q2
          exact Int32.le_trans h3 (Int32.not_lt.mp q2)
      constructor
      · intro h5
        exact absurd h5 (Int32.not_lt.mpr h4)
      · intro h5
        rw [h5] at h4
        exact absurd h4 (by decide)
    · exact ih
theorem gu_le {ag lo tn : Nat → Int32} {lim : Int32} {s : Nat} (hl : -1 ≤ lim) : ∀ {c : Nat}, gu ag lo tn lim s c ≤ lim
  | 0 => hl
  | c + 1 => by
    have ih := gu_le (ag := ag) (lo := lo) (tn := tn) (s := s) hl (c := c)
    rw [gu]
    split
    · unfold mxI
      split
      · unfold mnI
        split
        · exact Int32.le_refl _
        · rename_i q2
          exact Int32.not_lt.mp q2
      · exact ih
    · exact ih
theorem gu_congr {ag ah lo lp tn to : Nat → Int32} {lim : Int32} {s : Nat} : ∀ {c : Nat}, (∀ k, k < c → ag (4 * s + k) = ah (4 * s + k) ∧ lo (4 * s + k) = lp (4 * s + k) ∧ tn (4 * s + k) = to (4 * s + k)) → gu ag lo tn lim s c = gu ah lp to lim s c
  | 0, _ => rfl
  | c + 1, h => by
    obtain ⟨h1, h2, h3⟩ := h c (by omega)
    rw [gu, gu, gu_congr (fun k hk => h k (by omega)), h1, h2, h3]
/-- the letters that may still force -/
def lv (gt : Nat → Int32) (to : Nat → Nat) (v : Nat → Int32) (j : Nat) : Bool := !decide (v (to j) < gt j)
theorem ch1_live {G : Nat → Int32 → Int32} {gt st : Nat → Int32} {fr to : Nat → Nat} {l : Nat} (hG : ∀ j, j < l → G (to j) (gt j - 1) < gt j) : ∀ {r j : Nat} {v u : Nat → Int32} {f f2 : Bool}, j + r = l → ch1 G gt st fr to r j v f = (some f2, u) → (∀ i, i < l → lv gt to u i = true → lv gt to v i = true) ∧ (f2 = true → f = true ∨ ∃ i, i < l ∧ lv gt to u i = false ∧ lv gt to v i = true)
  | 0, j, v, u, f, f2, _, h => by
    rw [ch1] at h
    obtain ⟨h1, h2⟩ := Prod.mk.inj h
    subst h2
    have := Option.some.inj h1
    subst this
    exact ⟨fun i _ q => q, fun q => Or.inl q⟩
  | r + 1, j, v, u, f, f2, hj, h => by
    rw [ch1] at h
    by_cases q : chC gt st fr to v j = true
    · rw [if_pos q] at h
      by_cases q2 : G (to j) (gt j - 1) = -1
      · rw [if_pos q2] at h
        exact absurd (Prod.mk.inj h).1 (by simp)
      · rw [if_neg q2] at h
        obtain ⟨i1, i2⟩ := ch1_live hG (by omega) h
        unfold chC at q
        rw [Bool.and_eq_true] at q
        have q3 : ¬ v (to j) < gt j := by simpa using Int32.not_lt.mpr (by simpa using q.1)
        have hgj := hG j (by omega)
        have mono : ∀ i, i < l → lv gt to (upd v (to j) (G (to j) (gt j - 1))) i = true → lv gt to v i = true := by
          intro i hi h1
          unfold lv at h1 ⊢
          rw [s_u] at h1
          split at h1
          · rename_i e
            rw [e]
            have h2 : ¬ G (to j) (gt j - 1) < gt i := by
              intro h3
              rw [decide_eq_true h3] at h1
              simp at h1
            have h3 : ¬ v (to j) < gt i := by
              intro h4
              apply h2
              exact Int32.lt_of_lt_of_le hgj (Int32.le_trans (Int32.not_lt.mp q3) (Int32.le_of_lt h4))
            rw [decide_eq_false h3]
            rfl
          · exact h1
        refine ⟨fun i hi h1 => mono i hi (i1 i hi h1), fun h1 => Or.inr ?_⟩
        refine ⟨j, by omega, ?_, ?_⟩
        · rw [← Bool.not_eq_true]
          intro h2
          have h3 := i1 j (by omega) h2
          unfold lv at h3
          rw [s_u, if_pos rfl, decide_eq_true hgj] at h3
          simp at h3
        · unfold lv
          rw [decide_eq_false q3]
          rfl
    · rw [if_neg q] at h
      exact ch1_live hG (by omega) h
def mv (G : Nat → Int32 → Int32) (v : Nat → Int32) : Nat → Nat → Int32
  | 0 => v
  | k + 1 => upd (mv G v k) k (G k 100000)
def ma (G : Nat → Int32 → Int32) : Nat → Bool
  | 0 => true
  | k + 1 => ma G k && !decide (G k 100000 < 0)
def chm (G : Nat → Int32 → Int32) (gt st : Nat → Int32) (fr to : Nat → Nat) (s l : Nat) (v : Nat → Int32) : Bool × (Nat → Int32) := if ma G s = true then ch2 G gt st fr to l (l + 1) (mv G v s) else (false, mv G v s)
def sm (σ : ex_S) (s l : Nat) (cp fr to : Nat → Nat) : Prop := s ≤ 6 ∧ l ≤ 30 ∧ σ.1 515 = nI s ∧ σ.1 520 = nI l ∧ (∀ k, k < 6 → σ.2.2.1 44 k = nI (cp k) ∧ cp k ≤ 4) ∧ ∀ j, j < l → σ.2.2.1 45 j = nI (fr j) ∧ σ.2.2.1 47 j = nI (to j) ∧ fr j < s ∧ to j < s
theorem c_chooses {d : Nat} {E : ex_O → ex_S → Prop} {σ : ex_S} {s l : Nat} {cp fr to : Nat → Nat} {G : Nat → Int32 → Int32} (h : sm σ s l cp fr to) (hG : ∀ k lim, gu (σ.2.2.1 41) (σ.2.2.1 42) (σ.2.2.1 43) lim k (cp k) = G k lim) (hs : ∀ k lim, k < s → (G k lim < 0 ↔ G k lim = -1)) (hd : ∀ j, j < l → G (to j) (σ.2.2.1 48 j - 1) < σ.2.2.1 48 j) : ex_C (d + 2) 100 [.ref 5] σ E = E (.inl (some (.int (if (chm G (σ.2.2.1 48) (σ.2.2.1 46) fr to s l (σ.2.2.1 51)).1 = true then 1 else 0)))) (ex_row σ 51 (chm G (σ.2.2.1 48) (σ.2.2.1 46) fr to s l (σ.2.2.1 51)).2) := by
  have hall : ∀ v, sm (ex_row σ 51 v) s l cp fr to := fun _ => h
  obtain ⟨h1, h2, h3, h4, h5, h6⟩ := h
  have hGc : ∀ (k : Nat) (lim : Int32) (v : Nat → Int32) (e : Nat) (F : ex_O → ex_S → Prop), k < 6 → ex_C (e + 1) 99 [.ref 5, .int (nI k), .int lim] (ex_row σ 51 v) F = F (.inl (some (.int (G k lim)))) (ex_row σ 51 v) := by
    intro k lim v e F hk
    rw [c_upTo (σ := ex_row σ 51 v) hk (h5 k hk).2 (h5 k hk).1, ← hG]
    rfl
  simp only [r_X5_chooses, r_X5_chooses_0, r_X5_chooses_1, r_X5_chooses_2, r_X5_chooses_3, r_X5_chooses_5, r_X5_chooses_6, r_X5_chooses_9, r_X5_chooses_12, r_X5_chooses_13, r_X5_chooses_16, r_X5_chooses_17, r_X5_chooses_18, r_X5_chooses_19, r_X5_chooses_21, r_X5_chooses_24, r_X5_chooses_25, r_X5_chooses_26, r_X5_chooses_29, r_X5_chooses_30, r_X5_chooses_33, r_X5_chooses_34, r_X5_chooses_35, r_X5_chooses_38, r_X5_chooses_39, r_X5_chooses_42, r_X5_chooses_43, r_X5_chooses_44, r_X5_chooses_47, r_X5_chooses_50, r_X5_chooses_51, r_X5_chooses_53, r_X5_chooses_56, r_X5_chooses_57, r_X5_chooses_58, r_X5_chooses_59, r_X5_chooses_61, r_X5_chooses_62, r_X5_chooses_65, r_X5_chooses_68, r_X5_chooses_69, r_X5_chooses_72, r_X5_chooses_73, r_X5_chooses_74, r_X5_chooses_75, r_X5_chooses_78, r_X5_chooses_79, r_X5_chooses_82, r_X5_chooses_83, r_X5_chooses_84, r_X5_chooses_85, r_X5_chooses_88, r_X5_chooses_89, r_X5_chooses_92, r_X5_chooses_93, r_X5_chooses_94, r_X5_chooses_95, r_X5_chooses_98, r_X5_chooses_99, r_X5_chooses_102, r_X5_chooses_103, r_X5_chooses_104, r_X5_chooses_105, r_X5_chooses_108, r_X5_chooses_111, r_X5_chooses_112, r_X5_chooses_115, r_X5_chooses_116, r_X5_chooses_119, r_X5_chooses_120, r_X5_chooses_121, r_X5_chooses_122, r_X5_chooses_123, r_X5_chooses_126, r_X5_chooses_127, r_X5_chooses_128, r_X5_chooses_129, r_X5_chooses_132, r_X5_chooses_133, r_X5_chooses_134, r_X5_chooses_135, r_X5_chooses_136, r_X5_chooses_139, r_X5_chooses_140, r_X5_chooses_141, r_X5_chooses_144, r_X5_chooses_145, r_X5_chooses_148, r_X5_chooses_149, r_X5_chooses_150, r_X5_chooses_151, r_X5_chooses_154, r_X5_chooses_155, r_X5_chooses_156, r_X5_chooses_157, r_X5_chooses_158, r_X5_chooses_161, r_X5_chooses_164, r_X5_chooses_167, r_X5_chooses_168]
  have L0 := tl_for (A := fun k => ex_r none (d + 1) ex_m_X5_chooses E 4 [.ref 5, .int (if ma G k = true then 1 else 0), .int (nI k), .retAddr 0] [] (ex_row σ 51 (mv G (σ.2.2.1 51) k)) 0) (n := s) (by
    intro k hk R hR
    simp only [r_X5_chooses_4]
    simp only [r_X5_chooses_0, r_X5_chooses_1, r_X5_chooses_2, r_X5_chooses_3, r_X5_chooses_5, r_X5_chooses_6, r_X5_chooses_9, r_X5_chooses_12, r_X5_chooses_13, r_X5_chooses_16, r_X5_chooses_17, r_X5_chooses_18, r_X5_chooses_19, r_X5_chooses_21, r_X5_chooses_24, r_X5_chooses_25, r_X5_chooses_26, r_X5_chooses_29, r_X5_chooses_30, r_X5_chooses_33, r_X5_chooses_34, r_X5_chooses_35, r_X5_chooses_38, r_X5_chooses_39, r_X5_chooses_42, r_X5_chooses_43, r_X5_chooses_44, r_X5_chooses_47, r_X5_chooses_50, r_X5_chooses_51, r_X5_chooses_53, r_X5_chooses_56, r_X5_chooses_57, r_X5_chooses_58, r_X5_chooses_59, r_X5_chooses_61, r_X5_chooses_62, r_X5_chooses_65, r_X5_chooses_68, r_X5_chooses_69, r_X5_chooses_72, r_X5_chooses_73, r_X5_chooses_74, r_X5_chooses_75, r_X5_chooses_78, r_X5_chooses_79, r_X5_chooses_82, r_X5_chooses_83, r_X5_chooses_84, r_X5_chooses_85, r_X5_chooses_88, r_X5_chooses_89, r_X5_chooses_92, r_X5_chooses_93, r_X5_chooses_94, r_X5_chooses_95, r_X5_chooses_98, r_X5_chooses_99, r_X5_chooses_102, r_X5_chooses_103, r_X5_chooses_104, r_X5_chooses_105, r_X5_chooses_108, r_X5_chooses_111, r_X5_chooses_112, r_X5_chooses_115, r_X5_chooses_116, r_X5_chooses_119, r_X5_chooses_120, r_X5_chooses_121, r_X5_chooses_122, r_X5_chooses_123, r_X5_chooses_126, r_X5_chooses_127, r_X5_chooses_128, r_X5_chooses_129, r_X5_chooses_132, r_X5_chooses_133, r_X5_chooses_134, r_X5_chooses_135, r_X5_chooses_136, r_X5_chooses_139, r_X5_chooses_140, r_X5_chooses_141, r_X5_chooses_144, r_X5_chooses_145, r_X5_chooses_148, r_X5_chooses_149, r_X5_chooses_150, r_X5_chooses_151, r_X5_chooses_154, r_X5_chooses_155, r_X5_chooses_156, r_X5_chooses_157, r_X5_chooses_158, r_X5_chooses_161, r_X5_chooses_164, r_X5_chooses_167, r_X5_chooses_168, s_r1, h3]
    rw [if_neg (nI_ge hk (by omega)), hGc k _ _ d _ (by omega)]
    simp only [Option.toList, List.cons_append, List.nil_append, r_X5_chooses_0, r_X5_chooses_1, r_X5_chooses_2, r_X5_chooses_3, r_X5_chooses_5, r_X5_chooses_6, r_X5_chooses_9, r_X5_chooses_12, r_X5_chooses_13, r_X5_chooses_16, r_X5_chooses_17, r_X5_chooses_18, r_X5_chooses_19, r_X5_chooses_21, r_X5_chooses_24, r_X5_chooses_25, r_X5_chooses_26, r_X5_chooses_29, r_X5_chooses_30, r_X5_chooses_33, r_X5_chooses_34, r_X5_chooses_35, r_X5_chooses_38, r_X5_chooses_39, r_X5_chooses_42, r_X5_chooses_43, r_X5_chooses_44, r_X5_chooses_47, r_X5_chooses_50, r_X5_chooses_51, r_X5_chooses_53, r_X5_chooses_56, r_X5_chooses_57, r_X5_chooses_58, r_X5_chooses_59, r_X5_chooses_61, r_X5_chooses_62, r_X5_chooses_65, r_X5_chooses_68, r_X5_chooses_69, r_X5_chooses_72, r_X5_chooses_73, r_X5_chooses_74, r_X5_chooses_75, r_X5_chooses_78, r_X5_chooses_79, r_X5_chooses_82, r_X5_chooses_83, r_X5_chooses_84, r_X5_chooses_85, r_X5_chooses_88, r_X5_chooses_89, r_X5_chooses_92, r_X5_chooses_93, r_X5_chooses_94, r_X5_chooses_95, r_X5_chooses_98, r_X5_chooses_99, r_X5_chooses_102, r_X5_chooses_103, r_X5_chooses_104, r_X5_chooses_105, r_X5_chooses_108, r_X5_chooses_111, r_X5_chooses_112, r_X5_chooses_115, r_X5_chooses_116, r_X5_chooses_119, r_X5_chooses_120, r_X5_chooses_121, r_X5_chooses_122, r_X5_chooses_123, r_X5_chooses_126, r_X5_chooses_127, r_X5_chooses_128, r_X5_chooses_129, r_X5_chooses_132, r_X5_chooses_133, r_X5_chooses_134, r_X5_chooses_135, r_X5_chooses_136, r_X5_chooses_139, r_X5_chooses_140, r_X5_chooses_141, r_X5_chooses_144, r_X5_chooses_145, r_X5_chooses_148, r_X5_chooses_149, r_X5_chooses_150, r_X5_chooses_151, r_X5_chooses_154, r_X5_chooses_155, r_X5_chooses_156, r_X5_chooses_157, r_X5_chooses_158, r_X5_chooses_161, r_X5_chooses_164, r_X5_chooses_167, r_X5_chooses_168, tl_in (show k < 6 by omega) (show 6 < 2 ^ 31 by omega), tl_cl (show k < 2 ^ 31 by omega), true_and, s_ar, s_r3, if_true, s_u, nI_1]
    subst hR
    rw [mv, ma]
    cases ma G k <;> by_cases q : G k 100000 < 0 <;> simp [q])
  simp only [show mv G (σ.2.2.1 51) 0 = σ.2.2.1 51 from rfl, tl_row_self] at L0
  refine Eq.trans L0 ?_
  simp only [r_X5_chooses_4]
  simp only [r_X5_chooses_0, r_X5_chooses_1, r_X5_chooses_2, r_X5_chooses_3, r_X5_chooses_5, r_X5_chooses_6, r_X5_chooses_9, r_X5_chooses_12, r_X5_chooses_13, r_X5_chooses_16, r_X5_chooses_17, r_X5_chooses_18, r_X5_chooses_19, r_X5_chooses_21, r_X5_chooses_24, r_X5_chooses_25, r_X5_chooses_26, r_X5_chooses_29, r_X5_chooses_30, r_X5_chooses_33, r_X5_chooses_34, r_X5_chooses_35, r_X5_chooses_38, r_X5_chooses_39, r_X5_chooses_42, r_X5_chooses_43, r_X5_chooses_44, r_X5_chooses_47, r_X5_chooses_50, r_X5_chooses_51, r_X5_chooses_53, r_X5_chooses_56, r_X5_chooses_57, r_X5_chooses_58, r_X5_chooses_59, r_X5_chooses_61, r_X5_chooses_62, r_X5_chooses_65, r_X5_chooses_68, r_X5_chooses_69, r_X5_chooses_72, r_X5_chooses_73, r_X5_chooses_74, r_X5_chooses_75, r_X5_chooses_78, r_X5_chooses_79, r_X5_chooses_82, r_X5_chooses_83, r_X5_chooses_84, r_X5_chooses_85, r_X5_chooses_88, r_X5_chooses_89, r_X5_chooses_92, r_X5_chooses_93, r_X5_chooses_94, r_X5_chooses_95, r_X5_chooses_98, r_X5_chooses_99, r_X5_chooses_102, r_X5_chooses_103, r_X5_chooses_104, r_X5_chooses_105, r_X5_chooses_108, r_X5_chooses_111, r_X5_chooses_112, r_X5_chooses_115, r_X5_chooses_116, r_X5_chooses_119, r_X5_chooses_120, r_X5_chooses_121, r_X5_chooses_122, r_X5_chooses_123, r_X5_chooses_126, r_X5_chooses_127, r_X5_chooses_128, r_X5_chooses_129, r_X5_chooses_132, r_X5_chooses_133, r_X5_chooses_134, r_X5_chooses_135, r_X5_chooses_136, r_X5_chooses_139, r_X5_chooses_140, r_X5_chooses_141, r_X5_chooses_144, r_X5_chooses_145, r_X5_chooses_148, r_X5_chooses_149, r_X5_chooses_150, r_X5_chooses_151, r_X5_chooses_154, r_X5_chooses_155, r_X5_chooses_156, r_X5_chooses_157, r_X5_chooses_158, r_X5_chooses_161, r_X5_chooses_164, r_X5_chooses_167, r_X5_chooses_168, s_r1, h3, Int32.le_refl, if_true]
  unfold chm
  by_cases q : ma G s = true
  · rw [if_pos q, if_pos q]
    have st1 : ∀ (r j : Nat) (v : Nat → Int32) (f : Bool) (Z : Prop), j + r = l → (∀ f2 : Bool, (ch1 G (σ.2.2.1 48) (σ.2.2.1 46) fr to r j v f).1 = some f2 → ex_r none (d + 1) ex_m_X5_chooses E 52 [.ref 5, .int 1, .int (if f2 = true then 1 else 0), .int (nI l)] [] (ex_row σ 51 (ch1 G (σ.2.2.1 48) (σ.2.2.1 46) fr to r j v f).2) 0 = Z) → ((ch1 G (σ.2.2.1 48) (σ.2.2.1 46) fr to r j v f).1 = none → E (.inl (some (.int 0))) (ex_row σ 51 (ch1 G (σ.2.2.1 48) (σ.2.2.1 46) fr to r j v f).2) = Z) → ex_r none (d + 1) ex_m_X5_chooses E 60 [.ref 5, .int 1, .int (if f = true then 1 else 0), .int (nI j)] [] (ex_row σ 51 v) 0 = Z := by
      intro r
      induction r with
      | zero =>
        intro j v f Z hj hZ1 hZ2
        have e : j = l := by omega
        subst e
        simp only [r_X5_chooses_60]
        simp only [r_X5_chooses_0, r_X5_chooses_1, r_X5_chooses_2, r_X5_chooses_3, r_X5_chooses_5, r_X5_chooses_6, r_X5_chooses_9, r_X5_chooses_12, r_X5_chooses_13, r_X5_chooses_16, r_X5_chooses_17, r_X5_chooses_18, r_X5_chooses_19, r_X5_chooses_21, r_X5_chooses_24, r_X5_chooses_25, r_X5_chooses_26, r_X5_chooses_29, r_X5_chooses_30, r_X5_chooses_33, r_X5_chooses_34, r_X5_chooses_35, r_X5_chooses_38, r_X5_chooses_39, r_X5_chooses_42, r_X5_chooses_43, r_X5_chooses_44, r_X5_chooses_47, r_X5_chooses_50, r_X5_chooses_51, r_X5_chooses_53, r_X5_chooses_56, r_X5_chooses_57, r_X5_chooses_58, r_X5_chooses_59, r_X5_chooses_61, r_X5_chooses_62, r_X5_chooses_65, r_X5_chooses_68, r_X5_chooses_69, r_X5_chooses_72, r_X5_chooses_73, r_X5_chooses_74, r_X5_chooses_75, r_X5_chooses_78, r_X5_chooses_79, r_X5_chooses_82, r_X5_chooses_83, r_X5_chooses_84, r_X5_chooses_85, r_X5_chooses_88, r_X5_chooses_89, r_X5_chooses_92, r_X5_chooses_93, r_X5_chooses_94, r_X5_chooses_95, r_X5_chooses_98, r_X5_chooses_99, r_X5_chooses_102, r_X5_chooses_103, r_X5_chooses_104, r_X5_chooses_105, r_X5_chooses_108, r_X5_chooses_111, r_X5_chooses_112, r_X5_chooses_115, r_X5_chooses_116, r_X5_chooses_119, r_X5_chooses_120, r_X5_chooses_121, r_X5_chooses_122, r_X5_chooses_123, r_X5_chooses_126, r_X5_chooses_127, r_X5_chooses_128, r_X5_chooses_129, r_X5_chooses_132, r_X5_chooses_133, r_X5_chooses_134, r_X5_chooses_135, r_X5_chooses_136, r_X5_chooses_139, r_X5_chooses_140, r_X5_chooses_141, r_X5_chooses_144, r_X5_chooses_145, r_X5_chooses_148, r_X5_chooses_149, r_X5_chooses_150, r_X5_chooses_151, r_X5_chooses_154, r_X5_chooses_155, r_X5_chooses_156, r_X5_chooses_157, r_X5_chooses_158, r_X5_chooses_161, r_X5_chooses_164, r_X5_chooses_167, r_X5_chooses_168, s_r1, h4, Int32.le_refl, if_true]
        exact hZ1 f rfl
      | succ r ih =>
        intro j v f Z hj hZ1 hZ2
        obtain ⟨g1, g2, g3, g4⟩ := h6 j (by omega)
        simp only [r_X5_chooses_60]
        simp only [r_X5_chooses_0, r_X5_chooses_1, r_X5_chooses_2, r_X5_chooses_3, r_X5_chooses_5, r_X5_chooses_6, r_X5_chooses_9, r_X5_chooses_12, r_X5_chooses_13, r_X5_chooses_16, r_X5_chooses_17, r_X5_chooses_18, r_X5_chooses_19, r_X5_chooses_21, r_X5_chooses_24, r_X5_chooses_25, r_X5_chooses_26, r_X5_chooses_29, r_X5_chooses_30, r_X5_chooses_33, r_X5_chooses_34, r_X5_chooses_35, r_X5_chooses_38, r_X5_chooses_39, r_X5_chooses_42, r_X5_chooses_43, r_X5_chooses_44, r_X5_chooses_47, r_X5_chooses_50, r_X5_chooses_51, r_X5_chooses_53, r_X5_chooses_56, r_X5_chooses_57, r_X5_chooses_58, r_X5_chooses_59, r_X5_chooses_61, r_X5_chooses_62, r_X5_chooses_65, r_X5_chooses_68, r_X5_chooses_69, r_X5_chooses_72, r_X5_chooses_73, r_X5_chooses_74, r_X5_chooses_75, r_X5_chooses_78, r_X5_chooses_79, r_X5_chooses_82, r_X5_chooses_83, r_X5_chooses_84, r_X5_chooses_85, r_X5_chooses_88, r_X5_chooses_89, r_X5_chooses_92, r_X5_chooses_93, r_X5_chooses_94, r_X5_chooses_95, r_X5_chooses_98, r_X5_chooses_99, r_X5_chooses_102, r_X5_chooses_103, r_X5_chooses_104, r_X5_chooses_105, r_X5_chooses_108, r_X5_chooses_111, r_X5_chooses_112, r_X5_chooses_115, r_X5_chooses_116, r_X5_chooses_119, r_X5_chooses_120, r_X5_chooses_121, r_X5_chooses_122, r_X5_chooses_123, r_X5_chooses_126, r_X5_chooses_127, r_X5_chooses_128, r_X5_chooses_129, r_X5_chooses_132, r_X5_chooses_133, r_X5_chooses_134, r_X5_chooses_135, r_X5_chooses_136, r_X5_chooses_139, r_X5_chooses_140, r_X5_chooses_141, r_X5_chooses_144, r_X5_chooses_145, r_X5_chooses_148, r_X5_chooses_149, r_X5_chooses_150, r_X5_chooses_151, r_X5_chooses_154, r_X5_chooses_155, r_X5_chooses_156, r_X5_chooses_157, r_X5_chooses_158, r_X5_chooses_161, r_X5_chooses_164, r_X5_chooses_167, r_X5_chooses_168, s_r1, h4, tl_in (show j < 30 by omega) (show 30 < 2 ^ 31 by omega), tl_cl (show j < 2 ^ 31 by omega), true_and, s_r3, Nat.reduceEqDiff, if_false, if_true, g1, g2, tl_in (show fr j < 6 by omega) (show 6 < 2 ^ 31 by omega), tl_cl (show fr j < 2 ^ 31 by omega), tl_in (show to j < 6 by omega) (show 6 < 2 ^ 31 by omega), tl_cl (show to j < 2 ^ 31 by omega), nI_1]
        rw [if_neg (nI_ge (show j < l by omega) (by omega)), hGc (to j) _ v d _ (by omega)]
        rw [ch1] at hZ1 hZ2
        unfold chC at hZ1 hZ2
        by_cases q1 : v (to j) < σ.2.2.1 48 j
        · simp only [q1, decide_true, Bool.not_true, Bool.false_and, Bool.false_eq_true, if_false] at hZ1 hZ2
          rw [if_pos q1]
          exact ih (j + 1) v f Z (by omega) hZ1 hZ2
        · rw [if_neg q1]
          by_cases q2 : v (fr j) < σ.2.2.1 46 j
          · simp only [q1, q2, decide_true, decide_false, Bool.not_false, Bool.true_and, if_true] at hZ1 hZ2
            rw [if_pos q2]
            simp only [Option.toList, List.cons_append, List.nil_append, r_X5_chooses_0, r_X5_chooses_1, r_X5_chooses_2, r_X5_chooses_3, r_X5_chooses_5, r_X5_chooses_6, r_X5_chooses_9, r_X5_chooses_12, r_X5_chooses_13, r_X5_chooses_16, r_X5_chooses_17, r_X5_chooses_18, r_X5_chooses_19, r_X5_chooses_21, r_X5_chooses_24, r_X5_chooses_25, r_X5_chooses_26, r_X5_chooses_29, r_X5_chooses_30, r_X5_chooses_33, r_X5_chooses_34, r_X5_chooses_35, r_X5_chooses_38, r_X5_chooses_39, r_X5_chooses_42, r_X5_chooses_43, r_X5_chooses_44, r_X5_chooses_47, r_X5_chooses_50, r_X5_chooses_51, r_X5_chooses_53, r_X5_chooses_56, r_X5_chooses_57, r_X5_chooses_58, r_X5_chooses_59, r_X5_chooses_61, r_X5_chooses_62, r_X5_chooses_65, r_X5_chooses_68, r_X5_chooses_69, r_X5_chooses_72, r_X5_chooses_73, r_X5_chooses_74, r_X5_chooses_75, r_X5_chooses_78, r_X5_chooses_79, r_X5_chooses_82, r_X5_chooses_83, r_X5_chooses_84, r_X5_chooses_85, r_X5_chooses_88, r_X5_chooses_89, r_X5_chooses_92, r_X5_chooses_93, r_X5_chooses_94, r_X5_chooses_95, r_X5_chooses_98, r_X5_chooses_99, r_X5_chooses_102, r_X5_chooses_103, r_X5_chooses_104, r_X5_chooses_105, r_X5_chooses_108, r_X5_chooses_111, r_X5_chooses_112, r_X5_chooses_115, r_X5_chooses_116, r_X5_chooses_119, r_X5_chooses_120, r_X5_chooses_121, r_X5_chooses_122, r_X5_chooses_123, r_X5_chooses_126, r_X5_chooses_127, r_X5_chooses_128, r_X5_chooses_129, r_X5_chooses_132, r_X5_chooses_133, r_X5_chooses_134, r_X5_chooses_135, r_X5_chooses_136, r_X5_chooses_139, r_X5_chooses_140, r_X5_chooses_141, r_X5_chooses_144, r_X5_chooses_145, r_X5_chooses_148, r_X5_chooses_149, r_X5_chooses_150, r_X5_chooses_151, r_X5_chooses_154, r_X5_chooses_155, r_X5_chooses_156, r_X5_chooses_157, r_X5_chooses_158, r_X5_chooses_161, r_X5_chooses_164, r_X5_chooses_167, r_X5_chooses_168, tl_in (show to j < 6 by omega) (show 6 < 2 ^ 31 by omega), tl_cl (show to j < 2 ^ 31 by omega), tl_in (show j < 30 by omega) (show 30 < 2 ^ 31 by omega), tl_cl (show j < 2 ^ 31 by omega), true_and, s_ar, s_r3, Nat.reduceEqDiff, if_false, g2, if_true, s_u, nI_1, tl_b0]
            by_cases q3 : G (to j) (σ.2.2.1 48 j - 1) = -1
            · rw [if_pos q3] at hZ1 hZ2
              rw [if_neg (Int32.not_le.mpr ((hs _ _ g4).mpr q3))]
              exact hZ2 rfl
            · rw [if_neg q3] at hZ1 hZ2
              rw [if_pos (Int32.not_lt.mp (fun q4 => q3 ((hs _ _ g4).mp q4)))]
              exact ih (j + 1) _ true Z (by omega) hZ1 hZ2
          · simp only [q1, q2, decide_false, Bool.not_false, Bool.and_false, Bool.false_eq_true, if_false] at hZ1 hZ2
            rw [if_neg q2]
            exact ih (j + 1) v f Z (by omega) hZ1 hZ2
    have st2 : ∀ (r : Nat) (v : Nat → Int32) (y : Value), tl_ct (lv (σ.2.2.1 48) to v) l ≤ r → ex_r none (d + 1) ex_m_X5_chooses E 52 [.ref 5, .int 1, .int 1, y] [] (ex_row σ 51 v) 0 = E (.inl (some (.int (if (ch2 G (σ.2.2.1 48) (σ.2.2.1 46) fr to l (r + 1) v).1 = true then 1 else 0)))) (ex_row σ 51 (ch2 G (σ.2.2.1 48) (σ.2.2.1 46) fr to l (r + 1) v).2) := by
      intro r
      induction r with
      | zero =>
        intro v y hr
        simp only [r_X5_chooses_52]
        simp only [r_X5_chooses_0, r_X5_chooses_1, r_X5_chooses_2, r_X5_chooses_3, r_X5_chooses_5, r_X5_chooses_6, r_X5_chooses_9, r_X5_chooses_12, r_X5_chooses_13, r_X5_chooses_16, r_X5_chooses_17, r_X5_chooses_18, r_X5_chooses_19, r_X5_chooses_21, r_X5_chooses_24, r_X5_chooses_25, r_X5_chooses_26, r_X5_chooses_29, r_X5_chooses_30, r_X5_chooses_33, r_X5_chooses_34, r_X5_chooses_35, r_X5_chooses_38, r_X5_chooses_39, r_X5_chooses_42, r_X5_chooses_43, r_X5_chooses_44, r_X5_chooses_47, r_X5_chooses_50, r_X5_chooses_51, r_X5_chooses_53, r_X5_chooses_56, r_X5_chooses_57, r_X5_chooses_58, r_X5_chooses_59, r_X5_chooses_61, r_X5_chooses_62, r_X5_chooses_65, r_X5_chooses_68, r_X5_chooses_69, r_X5_chooses_72, r_X5_chooses_73, r_X5_chooses_74, r_X5_chooses_75, r_X5_chooses_78, r_X5_chooses_79, r_X5_chooses_82, r_X5_chooses_83, r_X5_chooses_84, r_X5_chooses_85, r_X5_chooses_88, r_X5_chooses_89, r_X5_chooses_92, r_X5_chooses_93, r_X5_chooses_94, r_X5_chooses_95, r_X5_chooses_98, r_X5_chooses_99, r_X5_chooses_102, r_X5_chooses_103, r_X5_chooses_104, r_X5_chooses_105, r_X5_chooses_108, r_X5_chooses_111, r_X5_chooses_112, r_X5_chooses_115, r_X5_chooses_116, r_X5_chooses_119, r_X5_chooses_120, r_X5_chooses_121, r_X5_chooses_122, r_X5_chooses_123, r_X5_chooses_126, r_X5_chooses_127, r_X5_chooses_128, r_X5_chooses_129, r_X5_chooses_132, r_X5_chooses_133, r_X5_chooses_134, r_X5_chooses_135, r_X5_chooses_136, r_X5_chooses_139, r_X5_chooses_140, r_X5_chooses_141, r_X5_chooses_144, r_X5_chooses_145, r_X5_chooses_148, r_X5_chooses_149, r_X5_chooses_150, r_X5_chooses_151, r_X5_chooses_154, r_X5_chooses_155, r_X5_chooses_156, r_X5_chooses_157, r_X5_chooses_158, r_X5_chooses_161, r_X5_chooses_164, r_X5_chooses_167, r_X5_chooses_168, i10, if_false]
        refine st1 l 0 v false _ (by omega) ?_ ?_
        · intro f2 hf
          have e : ch1 G (σ.2.2.1 48) (σ.2.2.1 46) fr to l 0 v false = (some f2, (ch1 G (σ.2.2.1 48) (σ.2.2.1 46) fr to l 0 v false).2) := by rw [← hf]
          rw [ch2, e]
          cases f2
          · simp only [r_X5_chooses_52]
            simp [r_X5_chooses_53, r_X5_chooses_167, r_X5_chooses_168, tl_b1]
          · obtain ⟨i1, i2⟩ := ch1_live hd (by omega) e
            rcases i2 rfl with i3 | ⟨i, hi, _, i4⟩
            · simp at i3
            · rw [tl_ct_zero (Nat.le_zero.mp hr) i hi] at i4
              simp at i4
        · intro hf
          have e : ch1 G (σ.2.2.1 48) (σ.2.2.1 46) fr to l 0 v false = (none, (ch1 G (σ.2.2.1 48) (σ.2.2.1 46) fr to l 0 v false).2) := by rw [← hf]
          rw [ch2, e]
          simp
      | succ r ih =>
        intro v y hr
        simp only [r_X5_chooses_52]
        simp only [r_X5_chooses_0, r_X5_chooses_1, r_X5_chooses_2, r_X5_chooses_3, r_X5_chooses_5, r_X5_chooses_6, r_X5_chooses_9, r_X5_chooses_12, r_X5_chooses_13, r_X5_chooses_16, r_X5_chooses_17, r_X5_chooses_18, r_X5_chooses_19, r_X5_chooses_21, r_X5_chooses_24, r_X5_chooses_25, r_X5_chooses_26, r_X5_chooses_29, r_X5_chooses_30, r_X5_chooses_33, r_X5_chooses_34, r_X5_chooses_35, r_X5_chooses_38, r_X5_chooses_39, r_X5_chooses_42, r_X5_chooses_43, r_X5_chooses_44, r_X5_chooses_47, r_X5_chooses_50, r_X5_chooses_51, r_X5_chooses_53, r_X5_chooses_56, r_X5_chooses_57, r_X5_chooses_58, r_X5_chooses_59, r_X5_chooses_61, r_X5_chooses_62, r_X5_chooses_65, r_X5_chooses_68, r_X5_chooses_69, r_X5_chooses_72, r_X5_chooses_73, r_X5_chooses_74, r_X5_chooses_75, r_X5_chooses_78, r_X5_chooses_79, r_X5_chooses_82, r_X5_chooses_83, r_X5_chooses_84, r_X5_chooses_85, r_X5_chooses_88, r_X5_chooses_89, r_X5_chooses_92, r_X5_chooses_93, r_X5_chooses_94, r_X5_chooses_95, r_X5_chooses_98, r_X5_chooses_99, r_X5_chooses_102, r_X5_chooses_103, r_X5_chooses_104, r_X5_chooses_105, r_X5_chooses_108, r_X5_chooses_111, r_X5_chooses_112, r_X5_chooses_115, r_X5_chooses_116, r_X5_chooses_119, r_X5_chooses_120, r_X5_chooses_121, r_X5_chooses_122, r_X5_chooses_123, r_X5_chooses_126, r_X5_chooses_127, r_X5_chooses_128, r_X5_chooses_129, r_X5_chooses_132, r_X5_chooses_133, r_X5_chooses_134, r_X5_chooses_135, r_X5_chooses_136, r_X5_chooses_139, r_X5_chooses_140, r_X5_chooses_141, r_X5_chooses_144, r_X5_chooses_145, r_X5_chooses_148, r_X5_chooses_149, r_X5_chooses_150, r_X5_chooses_151, r_X5_chooses_154, r_X5_chooses_155, r_X5_chooses_156, r_X5_chooses_157, r_X5_chooses_158, r_X5_chooses_161, r_X5_chooses_164, r_X5_chooses_167, r_X5_chooses_168, i10, if_false]
        refine st1 l 0 v false _ (by omega) ?_ ?_
        · intro f2 hf
          have e : ch1 G (σ.2.2.1 48) (σ.2.2.1 46) fr to l 0 v false = (some f2, (ch1 G (σ.2.2.1 48) (σ.2.2.1 46) fr to l 0 v false).2) := by rw [← hf]
          rw [ch2, e]
          cases f2
          · simp only [r_X5_chooses_52]
            simp [r_X5_chooses_53, r_X5_chooses_167, r_X5_chooses_168, tl_b1]
          · obtain ⟨i1, i2⟩ := ch1_live hd (by omega) e
            rcases i2 rfl with i3 | i3
            · simp at i3
            · have := tl_ct_lt i1 i3
              simp only [if_true]
              exact ih _ _ (by omega)
        · intro hf
          have e : ch1 G (σ.2.2.1 48) (σ.2.2.1 46) fr to l 0 v false = (none, (ch1 G (σ.2.2.1 48) (σ.2.2.1 46) fr to l 0 v false).2) := by rw [← hf]
          rw [ch2, e]
          simp
    exact st2 l _ _ (tl_ct_le _ l)
  · rw [if_neg q, if_neg q]
    simp only [r_X5_chooses_52]
    simp [r_X5_chooses_53, r_X5_chooses_167, r_X5_chooses_168, tl_b0]
end SP
