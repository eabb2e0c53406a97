/-! ===== the model's ticks, blows and nightfall ===== -/
section MT
def mn (σ : ex_S) (c a : Int32) (f g : Nat → Int32) : ex_S := (fun j => if j = 534 then c else if j = 535 then a else σ.1 j, σ.2.1, fun k => if k = 55 then f else if k = 56 then g else σ.2.2.1 k, σ.2.2.2)
theorem mn_self (σ : ex_S) : mn σ (σ.1 534) (σ.1 535) (σ.2.2.1 55) (σ.2.2.1 56) = σ := by
  unfold mn
  refine Prod.ext ?_ (Prod.ext rfl (Prod.ext ?_ rfl))
  · funext j
    show (if j = 534 then σ.1 534 else if j = 535 then σ.1 535 else σ.1 j) = σ.1 j
    by_cases h1 : j = 534
    · rw [if_pos h1, h1]
    · rw [if_neg h1]
      by_cases h2 : j = 535
      · rw [if_pos h2, h2]
      · rw [if_neg h2]
  · funext j
    show (if j = 55 then σ.2.2.1 55 else if j = 56 then σ.2.2.1 56 else σ.2.2.1 j) = σ.2.2.1 j
    by_cases h1 : j = 55
    · rw [if_pos h1, h1]
    · rw [if_neg h1]
      by_cases h2 : j = 56
      · rw [if_pos h2, h2]
      · rw [if_neg h2]
theorem mn_534 (σ : ex_S) (c a : Int32) (f g : Nat → Int32) (v : Int32) : ex_sF (mn σ c a f g) 534 v = mn σ v a f g := by
  refine Prod.ext ?_ rfl
  funext j
  show (if j = 534 then v else if j = 534 then c else if j = 535 then a else σ.1 j) = (if j = 534 then v else if j = 535 then a else σ.1 j)
  by_cases h1 : j = 534 <;> simp [h1]
theorem mn_535 (σ : ex_S) (c a : Int32) (f g : Nat → Int32) (v : Int32) : ex_sF (mn σ c a f g) 535 v = mn σ c v f g := by
  refine Prod.ext ?_ rfl
  funext j
  show (if j = 535 then v else if j = 534 then c else if j = 535 then a else σ.1 j) = (if j = 534 then c else if j = 535 then v else σ.1 j)
  by_cases h1 : j = 535 <;> simp [h1]
theorem mn_500 (σ : ex_S) (c a : Int32) (f g : Nat → Int32) (v : Int32) : ex_sF (mn σ c a f g) 500 v = mn (ex_sF σ 500 v) c a f g := by
  refine Prod.ext ?_ rfl
  funext j
  show (if j = 500 then v else if j = 534 then c else if j = 535 then a else σ.1 j) = (if j = 534 then c else if j = 535 then a else if j = 500 then v else σ.1 j)
  by_cases h1 : j = 500 <;> simp [h1]
theorem mn_55 (σ : ex_S) (c a : Int32) (f g : Nat → Int32) (i : Nat) (v : Int32) : ex_sA (mn σ c a f g) 55 i v = mn σ c a (upd f i v) g := by
  refine Prod.ext rfl (Prod.ext rfl (Prod.ext ?_ rfl))
  funext k
  show (if k = 55 then upd f i v else if k = 55 then f else if k = 56 then g else σ.2.2.1 k) = (if k = 55 then upd f i v else if k = 56 then g else σ.2.2.1 k)
  by_cases h1 : k = 55 <;> simp [h1]
theorem mn_56 (σ : ex_S) (c a : Int32) (f g : Nat → Int32) (i : Nat) (v : Int32) : ex_sA (mn σ c a f g) 56 i v = mn σ c a f (upd g i v) := by
  refine Prod.ext rfl (Prod.ext rfl (Prod.ext ?_ rfl))
  funext k
  show (if k = 56 then upd g i v else if k = 55 then f else if k = 56 then g else σ.2.2.1 k) = (if k = 55 then f else if k = 56 then upd g i v else σ.2.2.1 k)
  by_cases h1 : k = 56 <;> simp [h1]
theorem mn_1 (σ : ex_S) (c a : Int32) (f g : Nat → Int32) (j : Nat) : (mn σ c a f g).1 j = if j = 534 then c else if j = 535 then a else σ.1 j := rfl
theorem mn_3 (σ : ex_S) (c a : Int32) (f g : Nat → Int32) (k : Nat) : (mn σ c a f g).2.2.1 k = if k = 55 then f else if k = 56 then g else σ.2.2.1 k := rfl
def isf (f : Nat → Int32) (st : Nat → Nat) (n k : Nat) : Int32 := if k < n then nI (st k) else f k
theorem tk_s_le {n : Nat} {st : Nat → Nat} {g : Nat → Int32} {k : Nat} (h : st k ≤ 2) : tk_s n st g k ≤ 2 := by
  unfold tk_s
  split
  · exact Nat.le_refl 2
  · exact h
theorem tkN_le {n : Nat} {wt : Nat → Int32} {p : Int32 × (Nat → Nat) × (Nat → Int32)} (h : ∀ k, k < n → p.2.1 k ≤ 2) : ∀ i k, k < n → (tkN n wt p i).2.1 k ≤ 2
  | 0, k, hk => h k hk
  | i + 1, k, hk => tk_s_le (tkN_le h i k hk)
theorem c_mtick {d : Nat} {E : ex_O → ex_S → Prop} {σ : ex_S} {n N : Nat} {c : Int32} {f : Nat → Int32} {p : Int32 × (Nat → Nat) × (Nat → Int32)} (hn : n ≤ 8) (h : σ.1 505 = nI n) (h2 : σ.1 532 = 1) (hN : N ≤ 100) (hst : ∀ k, k < n → p.2.1 k ≤ 2) : ex_C (d + 2) 115 [.ref 5, .int (nI N)] (mn σ c p.1 (isf f p.2.1 n) p.2.2) E = E (.inl (some (.int (c + nI N)))) (mn (ex_sF σ 500 0) (c + nI N) (tkN n (σ.2.2.1 35) p N).1 (isf f (tkN n (σ.2.2.1 35) p N).2.1 n) (tkN n (σ.2.2.1 35) p N).2.2) := by
  have l0 : (0 : Int32) ≤ nI N ∧ nI N ≤ 100 := ⟨nI_pos' (by omega), nI_le (b := 100) hN (by omega)⟩
  simp only [r_X5_tick, r_X5_tick_0, r_X5_tick_1, r_X5_tick_2, r_X5_tick_5, r_X5_tick_6, r_X5_tick_7, r_X5_tick_10, r_X5_tick_13, r_X5_tick_14, r_X5_tick_17, r_X5_tick_18, r_X5_tick_19, r_X5_tick_22, r_X5_tick_25, r_X5_tick_26, r_X5_tick_27, r_X5_tick_28, r_X5_tick_30, r_X5_tick_33, r_X5_tick_36, r_X5_tick_37, r_X5_tick_40, r_X5_tick_41, r_X5_tick_42, r_X5_tick_45, r_X5_tick_48, r_X5_tick_49, r_X5_tick_50, r_X5_tick_51, r_X5_tick_53, r_X5_tick_54, r_X5_tick_57, r_X5_tick_58, r_X5_tick_60, r_X5_tick_61, r_X5_tick_64, r_X5_tick_67, r_X5_tick_68, r_X5_tick_69, r_X5_tick_72, r_X5_tick_73, r_X5_tick_76, r_X5_tick_77, r_X5_tick_78, r_X5_tick_79, r_X5_tick_82, r_X5_tick_83, r_X5_tick_86, r_X5_tick_87, r_X5_tick_90, r_X5_tick_91, r_X5_tick_92, r_X5_tick_93, r_X5_tick_96, r_X5_tick_99, r_X5_tick_102, r_X5_tick_103, r_X5_tick_105, r_X5_tick_106, r_X5_tick_109, r_X5_tick_112, r_X5_tick_113, r_X5_tick_116, r_X5_tick_117, r_X5_tick_118, r_X5_tick_119, r_X5_tick_122, r_X5_tick_125, r_X5_tick_126, r_X5_tick_129, r_X5_tick_130, r_X5_tick_131, r_X5_tick_132, r_X5_tick_133, r_X5_tick_134, r_X5_tick_135, r_X5_tick_136, r_X5_tick_139, r_X5_tick_140, r_X5_tick_141, r_X5_tick_144, r_X5_tick_145, r_X5_tick_148, r_X5_tick_149, r_X5_tick_150, r_X5_tick_151, r_X5_tick_154, r_X5_tick_157, r_X5_tick_158, r_X5_tick_159, r_X5_tick_162, r_X5_tick_163, r_X5_tick_164, r_X5_tick_167, r_X5_tick_170, r_X5_tick_173, r_X5_tick_174, r_X5_tick_177, mn_500, mn_1, s_f1, h2, Nat.reduceEqDiff, if_false, i10, c_throwsIf0, if_true, c_in, Option.toList, List.cons_append, List.nil_append, tl_b0, true_and, l0, and_self]
  have h0 : (ex_sF σ 500 0).1 505 = nI n := h
  generalize hτ : ex_sF σ 500 0 = τ at h0 ⊢
  have hw : τ.2.2.1 35 = σ.2.2.1 35 := by rw [← hτ]; rfl
  have L := tl_forz (A := fun (i : Nat) (z : Value) => ex_r none (d + 1) ex_m_X5_tick E 52 [.ref 5, .int (nI N), .int (nI i), z] [] (mn τ (c + nI i) (tkN n (σ.2.2.1 35) p i).1 (isf f (tkN n (σ.2.2.1 35) p i).2.1 n) (tkN n (σ.2.2.1 35) p i).2.2) 0) (n := N) (Z := E (.inl (some (.int (c + nI N)))) (mn τ (c + nI N) (tkN n (σ.2.2.1 35) p N).1 (isf f (tkN n (σ.2.2.1 35) p N).2.1 n) (tkN n (σ.2.2.1 35) p N).2.2)) ?_ ?_ (.retAddr 0)
  · have e : c + nI 0 = c := Int32.add_zero c
    simp only [e] at L
    exact L
  · intro i hi z R hR
    have hR := hR (.int (nI n))
    simp only [r_X5_tick_52]
    simp only [r_X5_tick_0, r_X5_tick_1, r_X5_tick_2, r_X5_tick_5, r_X5_tick_6, r_X5_tick_7, r_X5_tick_10, r_X5_tick_13, r_X5_tick_14, r_X5_tick_17, r_X5_tick_18, r_X5_tick_19, r_X5_tick_22, r_X5_tick_25, r_X5_tick_26, r_X5_tick_27, r_X5_tick_28, r_X5_tick_30, r_X5_tick_33, r_X5_tick_36, r_X5_tick_37, r_X5_tick_40, r_X5_tick_41, r_X5_tick_42, r_X5_tick_45, r_X5_tick_48, r_X5_tick_49, r_X5_tick_50, r_X5_tick_51, r_X5_tick_53, r_X5_tick_54, r_X5_tick_57, r_X5_tick_58, r_X5_tick_60, r_X5_tick_61, r_X5_tick_64, r_X5_tick_67, r_X5_tick_68, r_X5_tick_69, r_X5_tick_72, r_X5_tick_73, r_X5_tick_76, r_X5_tick_77, r_X5_tick_78, r_X5_tick_79, r_X5_tick_82, r_X5_tick_83, r_X5_tick_86, r_X5_tick_87, r_X5_tick_90, r_X5_tick_91, r_X5_tick_92, r_X5_tick_93, r_X5_tick_96, r_X5_tick_99, r_X5_tick_102, r_X5_tick_103, r_X5_tick_105, r_X5_tick_106, r_X5_tick_109, r_X5_tick_112, r_X5_tick_113, r_X5_tick_116, r_X5_tick_117, r_X5_tick_118, r_X5_tick_119, r_X5_tick_122, r_X5_tick_125, r_X5_tick_126, r_X5_tick_129, r_X5_tick_130, r_X5_tick_131, r_X5_tick_132, r_X5_tick_133, r_X5_tick_134, r_X5_tick_135, r_X5_tick_136, r_X5_tick_139, r_X5_tick_140, r_X5_tick_141, r_X5_tick_144, r_X5_tick_145, r_X5_tick_148, r_X5_tick_149, r_X5_tick_150, r_X5_tick_151, r_X5_tick_154, r_X5_tick_157, r_X5_tick_158, r_X5_tick_159, r_X5_tick_162, r_X5_tick_163, r_X5_tick_164, r_X5_tick_167, r_X5_tick_170, r_X5_tick_173, r_X5_tick_174, r_X5_tick_177]
    rw [if_neg (nI_ge hi (by omega))]
    have hl := tkN_le (wt := σ.2.2.1 35) hst i
    rw [show tkN n (σ.2.2.1 35) p (i + 1) = tk1 n (σ.2.2.1 35) (tkN n (σ.2.2.1 35) p i) from rfl] at hR
    generalize tkN n (σ.2.2.1 35) p i = q at hl hR ⊢
    unfold tk1 at hR
    have L1 := tl_for (A := fun k => ex_r none (d + 1) ex_m_X5_tick E 59 [.ref 5, .int (nI N), .int (nI i), .int (nI k)] [] (mn τ (c + nI i) (tk_a (σ.2.2.1 35) q.2.1 q.1 k) (isf f q.2.1 n) q.2.2) 0) (n := n) (by
      intro k hk S hS
      have e1 : isf f q.2.1 n k = nI (q.2.1 k) := if_pos hk
      have e2 := hl k hk
      simp only [r_X5_tick_59]
      simp only [r_X5_tick_0, r_X5_tick_1, r_X5_tick_2, r_X5_tick_5, r_X5_tick_6, r_X5_tick_7, r_X5_tick_10, r_X5_tick_13, r_X5_tick_14, r_X5_tick_17, r_X5_tick_18, r_X5_tick_19, r_X5_tick_22, r_X5_tick_25, r_X5_tick_26, r_X5_tick_27, r_X5_tick_28, r_X5_tick_30, r_X5_tick_33, r_X5_tick_36, r_X5_tick_37, r_X5_tick_40, r_X5_tick_41, r_X5_tick_42, r_X5_tick_45, r_X5_tick_48, r_X5_tick_49, r_X5_tick_50, r_X5_tick_51, r_X5_tick_53, r_X5_tick_54, r_X5_tick_57, r_X5_tick_58, r_X5_tick_60, r_X5_tick_61, r_X5_tick_64, r_X5_tick_67, r_X5_tick_68, r_X5_tick_69, r_X5_tick_72, r_X5_tick_73, r_X5_tick_76, r_X5_tick_77, r_X5_tick_78, r_X5_tick_79, r_X5_tick_82, r_X5_tick_83, r_X5_tick_86, r_X5_tick_87, r_X5_tick_90, r_X5_tick_91, r_X5_tick_92, r_X5_tick_93, r_X5_tick_96, r_X5_tick_99, r_X5_tick_102, r_X5_tick_103, r_X5_tick_105, r_X5_tick_106, r_X5_tick_109, r_X5_tick_112, r_X5_tick_113, r_X5_tick_116, r_X5_tick_117, r_X5_tick_118, r_X5_tick_119, r_X5_tick_122, r_X5_tick_125, r_X5_tick_126, r_X5_tick_129, r_X5_tick_130, r_X5_tick_131, r_X5_tick_132, r_X5_tick_133, r_X5_tick_134, r_X5_tick_135, r_X5_tick_136, r_X5_tick_139, r_X5_tick_140, r_X5_tick_141, r_X5_tick_144, r_X5_tick_145, r_X5_tick_148, r_X5_tick_149, r_X5_tick_150, r_X5_tick_151, r_X5_tick_154, r_X5_tick_157, r_X5_tick_158, r_X5_tick_159, r_X5_tick_162, r_X5_tick_163, r_X5_tick_164, r_X5_tick_167, r_X5_tick_170, r_X5_tick_173, r_X5_tick_174, r_X5_tick_177, mn_1, mn_3, h0, hw, Nat.reduceEqDiff, if_false, if_true, tl_in (show k < 8 by omega) (show 8 < 2 ^ 31 by omega), tl_cl (show k < 2 ^ 31 by omega), true_and, nI_1, mn_535, e1, Int32.add_zero]
      rw [if_neg (nI_ge hk (by omega))]
      subst hS
      rw [tk_a]
      have e3 : (nI (q.2.1 k) = 2) = (q.2.1 k = 2) := tl_eq (b := 2) (by omega) (by omega)
      simp only [e3]
      by_cases q3 : q.2.1 k = 2 <;> simp [q3])
    refine Eq.trans L1 ?_
    simp only [r_X5_tick_59]
    simp only [r_X5_tick_0, r_X5_tick_1, r_X5_tick_2, r_X5_tick_5, r_X5_tick_6, r_X5_tick_7, r_X5_tick_10, r_X5_tick_13, r_X5_tick_14, r_X5_tick_17, r_X5_tick_18, r_X5_tick_19, r_X5_tick_22, r_X5_tick_25, r_X5_tick_26, r_X5_tick_27, r_X5_tick_28, r_X5_tick_30, r_X5_tick_33, r_X5_tick_36, r_X5_tick_37, r_X5_tick_40, r_X5_tick_41, r_X5_tick_42, r_X5_tick_45, r_X5_tick_48, r_X5_tick_49, r_X5_tick_50, r_X5_tick_51, r_X5_tick_53, r_X5_tick_54, r_X5_tick_57, r_X5_tick_58, r_X5_tick_60, r_X5_tick_61, r_X5_tick_64, r_X5_tick_67, r_X5_tick_68, r_X5_tick_69, r_X5_tick_72, r_X5_tick_73, r_X5_tick_76, r_X5_tick_77, r_X5_tick_78, r_X5_tick_79, r_X5_tick_82, r_X5_tick_83, r_X5_tick_86, r_X5_tick_87, r_X5_tick_90, r_X5_tick_91, r_X5_tick_92, r_X5_tick_93, r_X5_tick_96, r_X5_tick_99, r_X5_tick_102, r_X5_tick_103, r_X5_tick_105, r_X5_tick_106, r_X5_tick_109, r_X5_tick_112, r_X5_tick_113, r_X5_tick_116, r_X5_tick_117, r_X5_tick_118, r_X5_tick_119, r_X5_tick_122, r_X5_tick_125, r_X5_tick_126, r_X5_tick_129, r_X5_tick_130, r_X5_tick_131, r_X5_tick_132, r_X5_tick_133, r_X5_tick_134, r_X5_tick_135, r_X5_tick_136, r_X5_tick_139, r_X5_tick_140, r_X5_tick_141, r_X5_tick_144, r_X5_tick_145, r_X5_tick_148, r_X5_tick_149, r_X5_tick_150, r_X5_tick_151, r_X5_tick_154, r_X5_tick_157, r_X5_tick_158, r_X5_tick_159, r_X5_tick_162, r_X5_tick_163, r_X5_tick_164, r_X5_tick_167, r_X5_tick_170, r_X5_tick_173, r_X5_tick_174, r_X5_tick_177, mn_1, h0, Nat.reduceEqDiff, if_false, Int32.le_refl, if_true]
    have L2 := tl_for (A := fun k => ex_r none (d + 1) ex_m_X5_tick E 104 [.ref 5, .int (nI N), .int (nI i), .int (nI k)] [] (mn τ (c + nI i) (tk_a (σ.2.2.1 35) q.2.1 q.1 n) (isf f (tk_s k q.2.1 q.2.2) n) (tk_g k q.2.1 q.2.2)) 0) (n := n) (by
      intro k hk S hS
      have e0 : tk_s k q.2.1 q.2.2 k = q.2.1 k := by simp [tk_s]
      have e1 : isf f (tk_s k q.2.1 q.2.2) n k = nI (q.2.1 k) := by unfold isf; rw [if_pos hk, e0]
      have e2 := hl k hk
      have e3 : tk_g k q.2.1 q.2.2 k = q.2.2 k := by simp [tk_g]
      have e4 : (nI (q.2.1 k) = 1) = (q.2.1 k = 1) := tl_eq (b := 1) (by omega) (by omega)
      have ns : ∀ j, j ≠ k → tk_s (k + 1) q.2.1 q.2.2 j = tk_s k q.2.1 q.2.2 j := by
        intro j hj
        unfold tk_s
        have : (j < k + 1 ∧ q.2.1 j = 1 ∧ q.2.2 j - 1 = 0) = (j < k ∧ q.2.1 j = 1 ∧ q.2.2 j - 1 = 0) := by
          apply propext
          constructor
          · rintro ⟨h1, h2⟩; exact ⟨by omega, h2⟩
          · rintro ⟨h1, h2⟩; exact ⟨by omega, h2⟩
        simp only [this]
      have ng : ∀ j, j ≠ k → tk_g (k + 1) q.2.1 q.2.2 j = tk_g k q.2.1 q.2.2 j := by
        intro j hj
        unfold tk_g
        have : (j < k + 1 ∧ q.2.1 j = 1) = (j < k ∧ q.2.1 j = 1) := by
          apply propext
          constructor
          · rintro ⟨h1, h2⟩; exact ⟨by omega, h2⟩
          · rintro ⟨h1, h2⟩; exact ⟨by omega, h2⟩
        simp only [this]
      simp only [r_X5_tick_104]
      simp only [r_X5_tick_0, r_X5_tick_1, r_X5_tick_2, r_X5_tick_5, r_X5_tick_6, r_X5_tick_7, r_X5_tick_10, r_X5_tick_13, r_X5_tick_14, r_X5_tick_17, r_X5_tick_18, r_X5_tick_19, r_X5_tick_22, r_X5_tick_25, r_X5_tick_26, r_X5_tick_27, r_X5_tick_28, r_X5_tick_30, r_X5_tick_33, r_X5_tick_36, r_X5_tick_37, r_X5_tick_40, r_X5_tick_41, r_X5_tick_42, r_X5_tick_45, r_X5_tick_48, r_X5_tick_49, r_X5_tick_50, r_X5_tick_51, r_X5_tick_53, r_X5_tick_54, r_X5_tick_57, r_X5_tick_58, r_X5_tick_60, r_X5_tick_61, r_X5_tick_64, r_X5_tick_67, r_X5_tick_68, r_X5_tick_69, r_X5_tick_72, r_X5_tick_73, r_X5_tick_76, r_X5_tick_77, r_X5_tick_78, r_X5_tick_79, r_X5_tick_82, r_X5_tick_83, r_X5_tick_86, r_X5_tick_87, r_X5_tick_90, r_X5_tick_91, r_X5_tick_92, r_X5_tick_93, r_X5_tick_96, r_X5_tick_99, r_X5_tick_102, r_X5_tick_103, r_X5_tick_105, r_X5_tick_106, r_X5_tick_109, r_X5_tick_112, r_X5_tick_113, r_X5_tick_116, r_X5_tick_117, r_X5_tick_118, r_X5_tick_119, r_X5_tick_122, r_X5_tick_125, r_X5_tick_126, r_X5_tick_129, r_X5_tick_130, r_X5_tick_131, r_X5_tick_132, r_X5_tick_133, r_X5_tick_134, r_X5_tick_135, r_X5_tick_136, r_X5_tick_139, r_X5_tick_140, r_X5_tick_141, r_X5_tick_144, r_X5_tick_145, r_X5_tick_148, r_X5_tick_149, r_X5_tick_150, r_X5_tick_151, r_X5_tick_154, r_X5_tick_157, r_X5_tick_158, r_X5_tick_159, r_X5_tick_162, r_X5_tick_163, r_X5_tick_164, r_X5_tick_167, r_X5_tick_170, r_X5_tick_173, r_X5_tick_174, r_X5_tick_177, mn_1, mn_3, h0, Nat.reduceEqDiff, if_false, if_true, tl_in (show k < 8 by omega) (show 8 < 2 ^ 31 by omega), tl_cl (show k < 2 ^ 31 by omega), true_and, nI_1, mn_55, mn_56, e1, e3, e4, s_u]
      rw [if_neg (nI_ge hk (by omega))]
      subst hS
      by_cases q1 : q.2.1 k = 1
      · have e5 : upd (tk_g k q.2.1 q.2.2) k (q.2.2 k - 1) = tk_g (k + 1) q.2.1 q.2.2 := by
          funext j
          rw [s_u]
          by_cases q3 : j = k
          · subst q3
            simp [tk_g, q1]
          · rw [if_neg q3, ng j q3]
        by_cases q2 : q.2.2 k - 1 = 0
        · have e6 : upd (isf f (tk_s k q.2.1 q.2.2) n) k 2 = isf f (tk_s (k + 1) q.2.1 q.2.2) n := by
            funext j
            rw [s_u]
            by_cases q3 : j = k
            · subst q3
              simp [isf, hk, tk_s, q1, q2, nI]
            · rw [if_neg q3]
              unfold isf
              rw [ns j q3]
          rw [q2] at e5
          simp [q1, q2, e5, e6]
        · have e6 : isf f (tk_s k q.2.1 q.2.2) n = isf f (tk_s (k + 1) q.2.1 q.2.2) n := by
            funext j
            unfold isf
            by_cases q3 : j = k
            · subst q3
              simp [tk_s, q2]
            · rw [ns j q3]
          simp [q1, q2, e5, e6]
      · have e5 : tk_g k q.2.1 q.2.2 = tk_g (k + 1) q.2.1 q.2.2 := by
          funext j
          by_cases q3 : j = k
          · subst q3
            simp [tk_g, q1]
          · rw [ng j q3]
        have e6 : isf f (tk_s k q.2.1 q.2.2) n = isf f (tk_s (k + 1) q.2.1 q.2.2) n := by
          funext j
          unfold isf
          by_cases q3 : j = k
          · subst q3
            simp [tk_s, q1]
          · rw [ns j q3]
        simp [q1, e5, e6])
    have z1 : tk_s 0 q.2.1 q.2.2 = q.2.1 := by funext k; simp [tk_s]
    have z2 : tk_g 0 q.2.1 q.2.2 = q.2.2 := by funext k; simp [tk_g]
    simp only [z1, z2] at L2
    refine Eq.trans L2 ?_
    simp only [r_X5_tick_104]
    simp only [r_X5_tick_0, r_X5_tick_1, r_X5_tick_2, r_X5_tick_5, r_X5_tick_6, r_X5_tick_7, r_X5_tick_10, r_X5_tick_13, r_X5_tick_14, r_X5_tick_17, r_X5_tick_18, r_X5_tick_19, r_X5_tick_22, r_X5_tick_25, r_X5_tick_26, r_X5_tick_27, r_X5_tick_28, r_X5_tick_30, r_X5_tick_33, r_X5_tick_36, r_X5_tick_37, r_X5_tick_40, r_X5_tick_41, r_X5_tick_42, r_X5_tick_45, r_X5_tick_48, r_X5_tick_49, r_X5_tick_50, r_X5_tick_51, r_X5_tick_53, r_X5_tick_54, r_X5_tick_57, r_X5_tick_58, r_X5_tick_60, r_X5_tick_61, r_X5_tick_64, r_X5_tick_67, r_X5_tick_68, r_X5_tick_69, r_X5_tick_72, r_X5_tick_73, r_X5_tick_76, r_X5_tick_77, r_X5_tick_78, r_X5_tick_79, r_X5_tick_82, r_X5_tick_83, r_X5_tick_86, r_X5_tick_87, r_X5_tick_90, r_X5_tick_91, r_X5_tick_92, r_X5_tick_93, r_X5_tick_96, r_X5_tick_99, r_X5_tick_102, r_X5_tick_103, r_X5_tick_105, r_X5_tick_106, r_X5_tick_109, r_X5_tick_112, r_X5_tick_113, r_X5_tick_116, r_X5_tick_117, r_X5_tick_118, r_X5_tick_119, r_X5_tick_122, r_X5_tick_125, r_X5_tick_126, r_X5_tick_129, r_X5_tick_130, r_X5_tick_131, r_X5_tick_132, r_X5_tick_133, r_X5_tick_134, r_X5_tick_135, r_X5_tick_136, r_X5_tick_139, r_X5_tick_140, r_X5_tick_141, r_X5_tick_144, r_X5_tick_145, r_X5_tick_148, r_X5_tick_149, r_X5_tick_150, r_X5_tick_151, r_X5_tick_154, r_X5_tick_157, r_X5_tick_158, r_X5_tick_159, r_X5_tick_162, r_X5_tick_163, r_X5_tick_164, r_X5_tick_167, r_X5_tick_170, r_X5_tick_173, r_X5_tick_174, r_X5_tick_177, mn_1, h0, Nat.reduceEqDiff, if_false, Int32.le_refl, if_true, mn_534, nI_1, Int32.add_assoc]
    exact hR
  · intro z
    simp only [r_X5_tick_52]
    simp only [r_X5_tick_0, r_X5_tick_1, r_X5_tick_2, r_X5_tick_5, r_X5_tick_6, r_X5_tick_7, r_X5_tick_10, r_X5_tick_13, r_X5_tick_14, r_X5_tick_17, r_X5_tick_18, r_X5_tick_19, r_X5_tick_22, r_X5_tick_25, r_X5_tick_26, r_X5_tick_27, r_X5_tick_28, r_X5_tick_30, r_X5_tick_33, r_X5_tick_36, r_X5_tick_37, r_X5_tick_40, r_X5_tick_41, r_X5_tick_42, r_X5_tick_45, r_X5_tick_48, r_X5_tick_49, r_X5_tick_50, r_X5_tick_51, r_X5_tick_53, r_X5_tick_54, r_X5_tick_57, r_X5_tick_58, r_X5_tick_60, r_X5_tick_61, r_X5_tick_64, r_X5_tick_67, r_X5_tick_68, r_X5_tick_69, r_X5_tick_72, r_X5_tick_73, r_X5_tick_76, r_X5_tick_77, r_X5_tick_78, r_X5_tick_79, r_X5_tick_82, r_X5_tick_83, r_X5_tick_86, r_X5_tick_87, r_X5_tick_90, r_X5_tick_91, r_X5_tick_92, r_X5_tick_93, r_X5_tick_96, r_X5_tick_99, r_X5_tick_102, r_X5_tick_103, r_X5_tick_105, r_X5_tick_106, r_X5_tick_109, r_X5_tick_112, r_X5_tick_113, r_X5_tick_116, r_X5_tick_117, r_X5_tick_118, r_X5_tick_119, r_X5_tick_122, r_X5_tick_125, r_X5_tick_126, r_X5_tick_129, r_X5_tick_130, r_X5_tick_131, r_X5_tick_132, r_X5_tick_133, r_X5_tick_134, r_X5_tick_135, r_X5_tick_136, r_X5_tick_139, r_X5_tick_140, r_X5_tick_141, r_X5_tick_144, r_X5_tick_145, r_X5_tick_148, r_X5_tick_149, r_X5_tick_150, r_X5_tick_151, r_X5_tick_154, r_X5_tick_157, r_X5_tick_158, r_X5_tick_159, r_X5_tick_162, r_X5_tick_163, r_X5_tick_164, r_X5_tick_167, r_X5_tick_170, r_X5_tick_173, r_X5_tick_174, r_X5_tick_177, Int32.le_refl, if_true, mn_1]
end MT
