/-! ===== the model's plan ===== -/
section PI
variable {n m H : Nat} {nr nd t h wt N S cN : Nat → Nat} {so : Nat → Bool} {th : Int32}
theorem mz_self (σ : ex_S) : mz σ (σ.1 531) (σ.2.2.1 52) (σ.2.2.1 53) (σ.2.2.1 54) = σ := by
  refine Prod.ext ?_ (Prod.ext rfl (Prod.ext ?_ rfl))
  · funext j
    show (if j = 531 then σ.1 531 else σ.1 j) = σ.1 j
    by_cases h1 : j = 531
    · rw [if_pos h1, h1]
    · rw [if_neg h1]
  · funext r
    show (if r = 52 then σ.2.2.1 52 else if r = 53 then σ.2.2.1 53 else if r = 54 then σ.2.2.1 54 else σ.2.2.1 r) = σ.2.2.1 r
    by_cases h1 : r = 52
    · rw [if_pos h1, h1]
    · rw [if_neg h1]
      by_cases h2 : r = 53
      · rw [if_pos h2, h2]
      · rw [if_neg h2]
        by_cases h3 : r = 54
        · rw [if_pos h3, h3]
        · rw [if_neg h3]
def qF (σ τ : ex_S) : Prop := (∀ j, j ≠ 500 → j ≠ 525 → j ≠ 529 → j ≠ 530 → j ≠ 531 → τ.1 j = σ.1 j) ∧ τ.2.1 = σ.2.1 ∧ (∀ r, r ≠ 40 → r ≠ 52 → r ≠ 53 → r ≠ 54 → τ.2.2.1 r = σ.2.2.1 r) ∧ τ.2.2.2 = σ.2.2.2
def mW (σ : ex_S) (n : Nat) (t h wt : Nat → Nat) : Prop := ∀ w, w < n → σ.2.2.1 33 w = nI (t w) ∧ σ.2.2.1 34 w = nI (h w) ∧ σ.2.2.1 35 w = nI (wt w) ∧ 1 ≤ t w ∧ t w ≤ 12 ∧ h w ≤ 100 ∧ wt w ≤ 100
def tT (c : Nat → Int32) (th : Int32) (w : Nat) : Bool := tb th w && !decide (c w < 0)
def mcs (c : Nat → Int32) (th : Int32) (cN : Nat → Nat) (n : Nat) : Nat := pl_s (fun w => if tT c th w = true then cN w else 0) n
/-- the costs and the hands are looked through -/
theorem c_mplan_loop {d : Nat} {σ : ex_S} {E : ex_O → ex_S → Prop} (hn : n ≤ 8) (h5 : σ.1 505 = nI n) (hH : H < 2 ^ 31) (hh : ∀ w, w < n → σ.2.2.1 34 w = nI (h w) ∧ h w < 2 ^ 31) (hc : ∀ w, w < n → tT (σ.2.2.1 36) th w = true → σ.2.2.1 36 w = nI (cN w)) : ex_r none (d + 1) ex_m_X5_plan E 60 [.ref 5, .int (nI H), .int th, .int 0, .int 0] [] σ 0 = if fH h H n = true then ex_r none (d + 1) ex_m_X5_plan E 121 [.ref 5, .int (nI H), .int th, .int (nI (mcs (σ.2.2.1 36) th cN n)), .int (nI n)] [] σ 0 else E (.inl (some (.int (-1)))) σ := by
  have key : ∀ (r w : Nat), w + r = n → fH h H w = true → ex_r none (d + 1) ex_m_X5_plan E 60 [.ref 5, .int (nI H), .int th, .int (nI (mcs (σ.2.2.1 36) th cN w)), .int (nI w)] [] σ 0 = if fH h H n = true then ex_r none (d + 1) ex_m_X5_plan E 121 [.ref 5, .int (nI H), .int th, .int (nI (mcs (σ.2.2.1 36) th cN n)), .int (nI n)] [] σ 0 else E (.inl (some (.int (-1)))) σ := by
    intro r
    induction r with
    | zero =>
      intro w hw hf
      have e : w = n := by omega
      subst e
      simp only [r_X5_plan_60]
      simp only [r_X5_plan_0, r_X5_plan_1, r_X5_plan_2, r_X5_plan_5, r_X5_plan_6, r_X5_plan_7, r_X5_plan_8, r_X5_plan_10, r_X5_plan_13, r_X5_plan_16, r_X5_plan_17, r_X5_plan_20, r_X5_plan_21, r_X5_plan_22, r_X5_plan_25, r_X5_plan_28, r_X5_plan_29, r_X5_plan_30, r_X5_plan_31, r_X5_plan_32, r_X5_plan_35, r_X5_plan_36, r_X5_plan_37, r_X5_plan_40, r_X5_plan_41, r_X5_plan_42, r_X5_plan_45, r_X5_plan_46, r_X5_plan_47, r_X5_plan_50, r_X5_plan_53, r_X5_plan_54, r_X5_plan_55, r_X5_plan_56, r_X5_plan_57, r_X5_plan_58, r_X5_plan_62, r_X5_plan_63, r_X5_plan_66, r_X5_plan_69, r_X5_plan_70, r_X5_plan_73, r_X5_plan_75, r_X5_plan_76, r_X5_plan_77, r_X5_plan_80, r_X5_plan_81, r_X5_plan_82, r_X5_plan_83, r_X5_plan_84, r_X5_plan_86, r_X5_plan_87, r_X5_plan_88, r_X5_plan_89, r_X5_plan_90, r_X5_plan_93, r_X5_plan_94, r_X5_plan_96, r_X5_plan_99, r_X5_plan_102, r_X5_plan_103, r_X5_plan_106, r_X5_plan_108, r_X5_plan_109, r_X5_plan_112, r_X5_plan_113, r_X5_plan_114, r_X5_plan_115, r_X5_plan_118, r_X5_plan_122, r_X5_plan_124, r_X5_plan_126, r_X5_plan_129, r_X5_plan_132, r_X5_plan_133, r_X5_plan_136, r_X5_plan_138, r_X5_plan_139, r_X5_plan_140, r_X5_plan_143, r_X5_plan_146, r_X5_plan_147, r_X5_plan_148, r_X5_plan_151, r_X5_plan_152, r_X5_plan_153, r_X5_plan_154, r_X5_plan_157, r_X5_plan_158, r_X5_plan_159, r_X5_plan_162, r_X5_plan_163, r_X5_plan_166, h5, Int32.le_refl, if_true, hf]
    | succ r ih =>
      intro w hw hf
      obtain ⟨y1, y2⟩ := hh w (by omega)
      have hw8 := tl_in (show w < 8 by omega) (show 8 < 2 ^ 31 by omega)
      have hwc := tl_cl (show w < 2 ^ 31 by omega)
      simp only [r_X5_plan_60]
      simp only [r_X5_plan_0, r_X5_plan_1, r_X5_plan_2, r_X5_plan_5, r_X5_plan_6, r_X5_plan_7, r_X5_plan_8, r_X5_plan_10, r_X5_plan_13, r_X5_plan_16, r_X5_plan_17, r_X5_plan_20, r_X5_plan_21, r_X5_plan_22, r_X5_plan_25, r_X5_plan_28, r_X5_plan_29, r_X5_plan_30, r_X5_plan_31, r_X5_plan_32, r_X5_plan_35, r_X5_plan_36, r_X5_plan_37, r_X5_plan_40, r_X5_plan_41, r_X5_plan_42, r_X5_plan_45, r_X5_plan_46, r_X5_plan_47, r_X5_plan_50, r_X5_plan_53, r_X5_plan_54, r_X5_plan_55, r_X5_plan_56, r_X5_plan_57, r_X5_plan_58, r_X5_plan_62, r_X5_plan_63, r_X5_plan_66, r_X5_plan_69, r_X5_plan_70, r_X5_plan_73, r_X5_plan_75, r_X5_plan_76, r_X5_plan_77, r_X5_plan_80, r_X5_plan_81, r_X5_plan_82, r_X5_plan_83, r_X5_plan_84, r_X5_plan_86, r_X5_plan_87, r_X5_plan_88, r_X5_plan_89, r_X5_plan_90, r_X5_plan_93, r_X5_plan_94, r_X5_plan_96, r_X5_plan_99, r_X5_plan_102, r_X5_plan_103, r_X5_plan_106, r_X5_plan_108, r_X5_plan_109, r_X5_plan_112, r_X5_plan_113, r_X5_plan_114, r_X5_plan_115, r_X5_plan_118, r_X5_plan_122, r_X5_plan_124, r_X5_plan_126, r_X5_plan_129, r_X5_plan_132, r_X5_plan_133, r_X5_plan_136, r_X5_plan_138, r_X5_plan_139, r_X5_plan_140, r_X5_plan_143, r_X5_plan_146, r_X5_plan_147, r_X5_plan_148, r_X5_plan_151, r_X5_plan_152, r_X5_plan_153, r_X5_plan_154, r_X5_plan_157, r_X5_plan_158, r_X5_plan_159, r_X5_plan_162, r_X5_plan_163, r_X5_plan_166, h5, hw8, hwc, true_and, y1, tl_le y2 hH, tb1, c_mcan (show w < 8 by omega)]
      simp only [Option.toList, List.cons_append, List.nil_append, r_X5_plan_0, r_X5_plan_1, r_X5_plan_2, r_X5_plan_5, r_X5_plan_6, r_X5_plan_7, r_X5_plan_8, r_X5_plan_10, r_X5_plan_13, r_X5_plan_16, r_X5_plan_17, r_X5_plan_20, r_X5_plan_21, r_X5_plan_22, r_X5_plan_25, r_X5_plan_28, r_X5_plan_29, r_X5_plan_30, r_X5_plan_31, r_X5_plan_32, r_X5_plan_35, r_X5_plan_36, r_X5_plan_37, r_X5_plan_40, r_X5_plan_41, r_X5_plan_42, r_X5_plan_45, r_X5_plan_46, r_X5_plan_47, r_X5_plan_50, r_X5_plan_53, r_X5_plan_54, r_X5_plan_55, r_X5_plan_56, r_X5_plan_57, r_X5_plan_58, r_X5_plan_62, r_X5_plan_63, r_X5_plan_66, r_X5_plan_69, r_X5_plan_70, r_X5_plan_73, r_X5_plan_75, r_X5_plan_76, r_X5_plan_77, r_X5_plan_80, r_X5_plan_81, r_X5_plan_82, r_X5_plan_83, r_X5_plan_84, r_X5_plan_86, r_X5_plan_87, r_X5_plan_88, r_X5_plan_89, r_X5_plan_90, r_X5_plan_93, r_X5_plan_94, r_X5_plan_96, r_X5_plan_99, r_X5_plan_102, r_X5_plan_103, r_X5_plan_106, r_X5_plan_108, r_X5_plan_109, r_X5_plan_112, r_X5_plan_113, r_X5_plan_114, r_X5_plan_115, r_X5_plan_118, r_X5_plan_122, r_X5_plan_124, r_X5_plan_126, r_X5_plan_129, r_X5_plan_132, r_X5_plan_133, r_X5_plan_136, r_X5_plan_138, r_X5_plan_139, r_X5_plan_140, r_X5_plan_143, r_X5_plan_146, r_X5_plan_147, r_X5_plan_148, r_X5_plan_151, r_X5_plan_152, r_X5_plan_153, r_X5_plan_154, r_X5_plan_157, r_X5_plan_158, r_X5_plan_159, r_X5_plan_162, r_X5_plan_163, r_X5_plan_166, hw8, hwc, true_and, nI_1]
      rw [if_neg (nI_ge (show w < n by omega) (by omega))]
      by_cases q : h w ≤ H
      · rw [if_pos q]
        have hih := ih (w + 1) (by omega) (by rw [fH, hf]; simp [q])
        rw [← hih]
        have e1 : mcs (σ.2.2.1 36) th cN (w + 1) = mcs (σ.2.2.1 36) th cN w + (if tT (σ.2.2.1 36) th w = true then cN w else 0) := rfl
        rw [e1]
        have hcw := hc w (by omega)
        unfold tT at hcw ⊢
        by_cases q1 : tb th w = true
        · by_cases q2 : σ.2.2.1 36 w < 0
          · simp only [q1, q2, if_true]
            simp
          · have hT : (tb th w && !decide (σ.2.2.1 36 w < 0)) = true := by simp only [q1, q2, decide_false, Bool.not_false, Bool.and_true]
            have hcv := hcw hT
            rw [if_pos hT]
            simp only [q1, q2, if_true, if_false, i10]
            rw [hcv, nI_add]
        · simp only [q1, if_false]
          simp
      · rw [if_neg q, if_neg]
        intro hall
        exact q (fH_iff.mp hall w (by omega))
  exact key n 0 (by omega) rfl
theorem c_mplan {d : Nat} {σ : ex_S} {E : ex_O → ex_S → Prop} (hm : md_at σ n m nr nd so) (hs : mW σ n t h wt) (h1 : 1 ≤ H) (hH : H ≤ 8) (hc : ∀ w, w < n → tT (σ.2.2.1 36) th w = true → σ.2.2.1 36 w = nI (cN w) ∧ cN w ≤ 1000)
    (hb : (fH h H n = false ∨ ∀ g, md_rg (σ.2.2.1 36) th n m nr nd so g ≠ 0) → ∀ τ, qF σ τ → τ.1 500 = 0 → τ.1 525 = 0 → E (.inl (some (.int (-1)))) τ)
    (hg : (fH h H n = true ∧ ∀ g, md_rg (σ.2.2.1 36) th n m nr nd so g = 0) → xOpt n H t h wt N S ∧ (∀ w, w < n → N w < 2 ^ n) ∧ (∀ w v, w < n → ((N w).testBit v = true ↔ md_R (md_cn (σ.2.2.1 36) th nr so) m nr nd w v)) ∧ ∀ τ, qF σ τ → τ.1 500 = 0 → τ.1 525 = 1 → (∀ w, w < n → τ.2.2.1 52 w = nI (S w)) → E (.inl (some (.int (nI (mcs (σ.2.2.1 36) th cN n + pl_A n t wt (2 ^ n - 1) S))))) τ)
    (hrg : (∀ g, md_rg (σ.2.2.1 36) th n m nr nd so g = 0) ∨ ∀ g, md_rg (σ.2.2.1 36) th n m nr nd so g ≠ 0) : ex_C (d + n + 5) 109 [.ref 5, .int (nI H), .int th] σ E := by
  have hn := hm.1
  have hp8 := tl_p8 hn
  have hin : (1 : Int32) ≤ nI H ∧ nI H ≤ 8 := ⟨nI_le (a := 1) h1 (by omega), nI_le (b := 8) hH (by omega)⟩
  simp only [r_X5_plan, r_X5_plan_0, r_X5_plan_1, r_X5_plan_2, r_X5_plan_5, r_X5_plan_6, r_X5_plan_7, r_X5_plan_8, r_X5_plan_10, r_X5_plan_13, r_X5_plan_16, r_X5_plan_17, r_X5_plan_20, r_X5_plan_21, r_X5_plan_22, r_X5_plan_25, r_X5_plan_28, r_X5_plan_29, r_X5_plan_30, r_X5_plan_31, r_X5_plan_32, r_X5_plan_35, r_X5_plan_36, r_X5_plan_37, r_X5_plan_40, r_X5_plan_41, r_X5_plan_42, r_X5_plan_45, r_X5_plan_46, r_X5_plan_47, r_X5_plan_50, r_X5_plan_53, r_X5_plan_54, r_X5_plan_55, r_X5_plan_56, r_X5_plan_57, r_X5_plan_58, r_X5_plan_62, r_X5_plan_63, r_X5_plan_66, r_X5_plan_69, r_X5_plan_70, r_X5_plan_73, r_X5_plan_75, r_X5_plan_76, r_X5_plan_77, r_X5_plan_80, r_X5_plan_81, r_X5_plan_82, r_X5_plan_83, r_X5_plan_84, r_X5_plan_86, r_X5_plan_87, r_X5_plan_88, r_X5_plan_89, r_X5_plan_90, r_X5_plan_93, r_X5_plan_94, r_X5_plan_96, r_X5_plan_99, r_X5_plan_102, r_X5_plan_103, r_X5_plan_106, r_X5_plan_108, r_X5_plan_109, r_X5_plan_112, r_X5_plan_113, r_X5_plan_114, r_X5_plan_115, r_X5_plan_118, r_X5_plan_122, r_X5_plan_124, r_X5_plan_126, r_X5_plan_129, r_X5_plan_132, r_X5_plan_133, r_X5_plan_136, r_X5_plan_138, r_X5_plan_139, r_X5_plan_140, r_X5_plan_143, r_X5_plan_146, r_X5_plan_147, r_X5_plan_148, r_X5_plan_151, r_X5_plan_152, r_X5_plan_153, r_X5_plan_154, r_X5_plan_157, r_X5_plan_158, r_X5_plan_159, r_X5_plan_162, r_X5_plan_163, r_X5_plan_166, c_in, if_pos hin, Option.toList, List.cons_append, List.nil_append, i10, if_false, c_throwsIf0, if_true, tl_b0, true_and]
  generalize hσ1 : ex_sF (ex_sF (ex_sF (ex_sF σ 500 0) 525 0) 529 (nI H)) 530 th = σ1
  have s1 : ∀ j, j ≠ 500 → j ≠ 525 → j ≠ 529 → j ≠ 530 → σ1.1 j = σ.1 j := fun j a b c e => by
    rw [← hσ1]
    show (if j = 530 then th else if j = 529 then nI H else if j = 525 then (0 : Int32) else if j = 500 then (0 : Int32) else σ.1 j) = σ.1 j
    rw [if_neg e, if_neg c, if_neg b, if_neg a]
  have s2 : σ1.2 = σ.2 := by rw [← hσ1]; rfl
  have i500 : σ1.1 500 = 0 := by rw [← hσ1]; rfl
  have i525 : σ1.1 525 = 0 := by rw [← hσ1]; rfl
  have i529 : σ1.1 529 = nI H := by rw [← hσ1]; rfl
  have i530 : σ1.1 530 = th := by rw [← hσ1]; rfl
  have hm1 : md_at σ1 n m nr nd so := by rw [← hσ1]; exact hm
  rw [c_ringsOf (d := d + n) hm1, s2]
  simp only [Option.toList, List.cons_append, List.nil_append, r_X5_plan_0, r_X5_plan_1, r_X5_plan_2, r_X5_plan_5, r_X5_plan_6, r_X5_plan_7, r_X5_plan_8, r_X5_plan_10, r_X5_plan_13, r_X5_plan_16, r_X5_plan_17, r_X5_plan_20, r_X5_plan_21, r_X5_plan_22, r_X5_plan_25, r_X5_plan_28, r_X5_plan_29, r_X5_plan_30, r_X5_plan_31, r_X5_plan_32, r_X5_plan_35, r_X5_plan_36, r_X5_plan_37, r_X5_plan_40, r_X5_plan_41, r_X5_plan_42, r_X5_plan_45, r_X5_plan_46, r_X5_plan_47, r_X5_plan_50, r_X5_plan_53, r_X5_plan_54, r_X5_plan_55, r_X5_plan_56, r_X5_plan_57, r_X5_plan_58, r_X5_plan_62, r_X5_plan_63, r_X5_plan_66, r_X5_plan_69, r_X5_plan_70, r_X5_plan_73, r_X5_plan_75, r_X5_plan_76, r_X5_plan_77, r_X5_plan_80, r_X5_plan_81, r_X5_plan_82, r_X5_plan_83, r_X5_plan_84, r_X5_plan_86, r_X5_plan_87, r_X5_plan_88, r_X5_plan_89, r_X5_plan_90, r_X5_plan_93, r_X5_plan_94, r_X5_plan_96, r_X5_plan_99, r_X5_plan_102, r_X5_plan_103, r_X5_plan_106, r_X5_plan_108, r_X5_plan_109, r_X5_plan_112, r_X5_plan_113, r_X5_plan_114, r_X5_plan_115, r_X5_plan_118, r_X5_plan_122, r_X5_plan_124, r_X5_plan_126, r_X5_plan_129, r_X5_plan_132, r_X5_plan_133, r_X5_plan_136, r_X5_plan_138, r_X5_plan_139, r_X5_plan_140, r_X5_plan_143, r_X5_plan_146, r_X5_plan_147, r_X5_plan_148, r_X5_plan_151, r_X5_plan_152, r_X5_plan_153, r_X5_plan_154, r_X5_plan_157, r_X5_plan_158, r_X5_plan_159, r_X5_plan_162, r_X5_plan_163, r_X5_plan_166, tl_eq0 (show md_rg (σ.2.2.1 36) th n m nr nd so (σ.2.2.1 40) < 2 ^ 31 by
    have : md_rg (σ.2.2.1 36) th n m nr nd so (σ.2.2.1 40) < 2 ^ n := tl_fo_set_lt (p := fun k => fw (σ.2.2.1 36) th n m nr nd so (σ.2.2.1 40) (8 * k + k) < 1000000)
    omega)]
  generalize hFW : fw (σ.2.2.1 36) th n m nr nd so (σ.2.2.1 40) = F
  have hq1 : qF σ (ex_row σ1 40 F) := ⟨fun j a b c e _ => s1 j a b c e, by show σ1.2.1 = σ.2.1; rw [s2], fun r a _ _ _ => by rw [s_r3, if_neg a, s2], by show σ1.2.2.2 = σ.2.2.2; rw [s2]⟩
  rcases hrg with hr | hr
  · rw [if_pos (hr _)]
    have e36 : (ex_row σ1 40 F).2.2.1 36 = σ.2.2.1 36 := by show σ1.2.2.1 36 = σ.2.2.1 36; rw [s2]
    have hlp := c_mplan_loop (d := d + n + 3) (σ := ex_row σ1 40 F) (E := E) (n := n) (H := H) (h := h) (th := th) (cN := cN) hn hm1.2.2.1 (by omega) (fun w hw => ⟨by show σ1.2.2.1 34 w = nI (h w); rw [s2]; exact (hs w hw).2.1, by have := (hs w hw).2.2.2.2.2.1; omega⟩) (fun w hw ht => by rw [e36] at ht ⊢; exact (hc w hw ht).1)
    rw [hlp]
    by_cases hf : fH h H n = true
    · rw [if_pos hf, e36]
      obtain ⟨hS, hNn, hNR, hE⟩ := hg ⟨hf, hr⟩
      simp only [r_X5_plan_121]
      simp only [r_X5_plan_0, r_X5_plan_1, r_X5_plan_2, r_X5_plan_5, r_X5_plan_6, r_X5_plan_7, r_X5_plan_8, r_X5_plan_10, r_X5_plan_13, r_X5_plan_16, r_X5_plan_17, r_X5_plan_20, r_X5_plan_21, r_X5_plan_22, r_X5_plan_25, r_X5_plan_28, r_X5_plan_29, r_X5_plan_30, r_X5_plan_31, r_X5_plan_32, r_X5_plan_35, r_X5_plan_36, r_X5_plan_37, r_X5_plan_40, r_X5_plan_41, r_X5_plan_42, r_X5_plan_45, r_X5_plan_46, r_X5_plan_47, r_X5_plan_50, r_X5_plan_53, r_X5_plan_54, r_X5_plan_55, r_X5_plan_56, r_X5_plan_57, r_X5_plan_58, r_X5_plan_62, r_X5_plan_63, r_X5_plan_66, r_X5_plan_69, r_X5_plan_70, r_X5_plan_73, r_X5_plan_75, r_X5_plan_76, r_X5_plan_77, r_X5_plan_80, r_X5_plan_81, r_X5_plan_82, r_X5_plan_83, r_X5_plan_84, r_X5_plan_86, r_X5_plan_87, r_X5_plan_88, r_X5_plan_89, r_X5_plan_90, r_X5_plan_93, r_X5_plan_94, r_X5_plan_96, r_X5_plan_99, r_X5_plan_102, r_X5_plan_103, r_X5_plan_106, r_X5_plan_108, r_X5_plan_109, r_X5_plan_112, r_X5_plan_113, r_X5_plan_114, r_X5_plan_115, r_X5_plan_118, r_X5_plan_122, r_X5_plan_126, r_X5_plan_129, r_X5_plan_132, r_X5_plan_133, r_X5_plan_136, r_X5_plan_138, r_X5_plan_139, r_X5_plan_140, r_X5_plan_143, r_X5_plan_146, r_X5_plan_147, r_X5_plan_148, r_X5_plan_151, r_X5_plan_152, r_X5_plan_153, r_X5_plan_154, r_X5_plan_157, r_X5_plan_158, r_X5_plan_159, r_X5_plan_162, r_X5_plan_163, r_X5_plan_166]
      have l1 := tl_for (A := fun i => ex_r none (d + n + 4) ex_m_X5_plan E 124 [.ref 5, .int (nI H), .int th, .int (nI (mcs (σ.2.2.1 36) th cN n)), .int (nI i)] [] (ex_row (ex_row σ1 40 F) 54 (fi ((ex_row σ1 40 F).2.2.1 54) 0 i)) 0) (n := 200) (by
        intro i hi R hR
        simp only [r_X5_plan_124]
        simp only [r_X5_plan_0, r_X5_plan_1, r_X5_plan_2, r_X5_plan_5, r_X5_plan_6, r_X5_plan_7, r_X5_plan_8, r_X5_plan_10, r_X5_plan_13, r_X5_plan_16, r_X5_plan_17, r_X5_plan_20, r_X5_plan_21, r_X5_plan_22, r_X5_plan_25, r_X5_plan_28, r_X5_plan_29, r_X5_plan_30, r_X5_plan_31, r_X5_plan_32, r_X5_plan_35, r_X5_plan_36, r_X5_plan_37, r_X5_plan_40, r_X5_plan_41, r_X5_plan_42, r_X5_plan_45, r_X5_plan_46, r_X5_plan_47, r_X5_plan_50, r_X5_plan_53, r_X5_plan_54, r_X5_plan_55, r_X5_plan_56, r_X5_plan_57, r_X5_plan_58, r_X5_plan_62, r_X5_plan_63, r_X5_plan_66, r_X5_plan_69, r_X5_plan_70, r_X5_plan_73, r_X5_plan_75, r_X5_plan_76, r_X5_plan_77, r_X5_plan_80, r_X5_plan_81, r_X5_plan_82, r_X5_plan_83, r_X5_plan_84, r_X5_plan_86, r_X5_plan_87, r_X5_plan_88, r_X5_plan_89, r_X5_plan_90, r_X5_plan_93, r_X5_plan_94, r_X5_plan_96, r_X5_plan_99, r_X5_plan_102, r_X5_plan_103, r_X5_plan_106, r_X5_plan_108, r_X5_plan_109, r_X5_plan_112, r_X5_plan_113, r_X5_plan_114, r_X5_plan_115, r_X5_plan_118, r_X5_plan_122, r_X5_plan_126, r_X5_plan_129, r_X5_plan_132, r_X5_plan_133, r_X5_plan_136, r_X5_plan_138, r_X5_plan_139, r_X5_plan_140, r_X5_plan_143, r_X5_plan_146, r_X5_plan_147, r_X5_plan_148, r_X5_plan_151, r_X5_plan_152, r_X5_plan_153, r_X5_plan_154, r_X5_plan_157, r_X5_plan_158, r_X5_plan_159, r_X5_plan_162, r_X5_plan_163, r_X5_plan_166, tl_in (show i < 200 by omega) (show 200 < 2 ^ 31 by omega), tl_cl (show i < 2 ^ 31 by omega), true_and, nI_1, s_ar]
        rw [if_neg (show ¬ (200 : Int32) ≤ nI i from nI_ge (b := 200) hi (by omega))]
        exact hR)
      have e0 : fi ((ex_row σ1 40 F).2.2.1 54) 0 0 = (ex_row σ1 40 F).2.2.1 54 := rfl
      simp only [e0, tl_row_self] at l1
      refine Eq.mpr l1 ?_
      simp only [r_X5_plan_124]
      simp only [r_X5_plan_0, r_X5_plan_1, r_X5_plan_2, r_X5_plan_5, r_X5_plan_6, r_X5_plan_7, r_X5_plan_8, r_X5_plan_10, r_X5_plan_13, r_X5_plan_16, r_X5_plan_17, r_X5_plan_20, r_X5_plan_21, r_X5_plan_22, r_X5_plan_25, r_X5_plan_28, r_X5_plan_29, r_X5_plan_30, r_X5_plan_31, r_X5_plan_32, r_X5_plan_35, r_X5_plan_36, r_X5_plan_37, r_X5_plan_40, r_X5_plan_41, r_X5_plan_42, r_X5_plan_45, r_X5_plan_46, r_X5_plan_47, r_X5_plan_50, r_X5_plan_53, r_X5_plan_54, r_X5_plan_55, r_X5_plan_56, r_X5_plan_57, r_X5_plan_58, r_X5_plan_62, r_X5_plan_63, r_X5_plan_66, r_X5_plan_69, r_X5_plan_70, r_X5_plan_73, r_X5_plan_75, r_X5_plan_76, r_X5_plan_77, r_X5_plan_80, r_X5_plan_81, r_X5_plan_82, r_X5_plan_83, r_X5_plan_84, r_X5_plan_86, r_X5_plan_87, r_X5_plan_88, r_X5_plan_89, r_X5_plan_90, r_X5_plan_93, r_X5_plan_94, r_X5_plan_96, r_X5_plan_99, r_X5_plan_102, r_X5_plan_103, r_X5_plan_106, r_X5_plan_108, r_X5_plan_109, r_X5_plan_112, r_X5_plan_113, r_X5_plan_114, r_X5_plan_115, r_X5_plan_118, r_X5_plan_122, r_X5_plan_126, r_X5_plan_129, r_X5_plan_132, r_X5_plan_133, r_X5_plan_136, r_X5_plan_138, r_X5_plan_139, r_X5_plan_140, r_X5_plan_143, r_X5_plan_146, r_X5_plan_147, r_X5_plan_148, r_X5_plan_151, r_X5_plan_152, r_X5_plan_153, r_X5_plan_154, r_X5_plan_157, r_X5_plan_158, r_X5_plan_159, r_X5_plan_162, r_X5_plan_163, r_X5_plan_166]
      rw [if_pos (show (200 : Int32) ≤ nI 200 from nI_le (a := 200) (b := 200) (by omega) (by omega))]
      generalize hF2 : fi ((ex_row σ1 40 F).2.2.1 54) 0 200 = F2
      have hF2v : ∀ x, x < 200 → F2 x = nI 0 := fun x hx => by
        rw [← hF2, fi_val, if_pos hx]
        rfl
      generalize hσ4 : ex_sF (ex_row (ex_row σ1 40 F) 54 F2) 531 (-1) = σ4
      have t1 : ∀ j, j ≠ 531 → σ4.1 j = σ1.1 j := fun j a => by
        rw [← hσ4]
        show (if j = 531 then (-1 : Int32) else σ1.1 j) = σ1.1 j
        rw [if_neg a]
      have t3 : ∀ r, r ≠ 40 → r ≠ 54 → σ4.2.2.1 r = σ.2.2.1 r := fun r a b => by
        rw [← hσ4]
        show (if r = 54 then F2 else if r = 40 then F else σ1.2.2.1 r) = σ.2.2.1 r
        rw [if_neg b, if_neg a, s2]
      have r54 : σ4.2.2.1 54 = F2 := by rw [← hσ4]; rfl
      have i531 : σ4.1 531 = -1 := by rw [← hσ4]; rfl
      have hm4 : md_at σ4 n m nr nd so := by rw [← hσ4]; exact hm1
      have z0 : ∀ w, (0 : Nat).testBit w = true → False := fun w q => by
        rw [Nat.zero_testBit] at q
        cases q
      have hcs : mcs (σ.2.2.1 36) th cN n ≤ 8000 := by
        have := pl_s_bd (f := fun w => if tT (σ.2.2.1 36) th w = true then cN w else 0) (c := 1000) (n := n) (fun i hi => by
          by_cases q : tT (σ.2.2.1 36) th i = true
          · rw [if_pos q]
            exact (hc i hi q).2
          · rw [if_neg q]
            exact Nat.zero_le _)
        unfold mcs
        omega
      have hmS : mS σ4 n m H nr nd t h wt N so (md_cn (σ.2.2.1 36) th nr so) th := by
        refine ⟨hm4, by rw [t1 530 (by decide)]; exact i530, by rw [t1 529 (by decide)]; exact i529, fun j => by rw [t3 36 (by decide) (by decide)], fun w hw => ?_, hH, hNn, hNR⟩
        have q := hs w hw
        rw [t3 33 (by decide) (by decide), t3 34 (by decide) (by decide), t3 35 (by decide) (by decide)]
        exact ⟨q.1, q.2.1, q.2.2.1, q.2.2.2.1, q.2.2.2.2.1, fH_iff.mp hf w hw, q.2.2.2.2.2.2⟩
      have pA0 : pl_A n t wt 0 (fun _ => 0) = 0 := by
        have : pl_A n t wt 0 (fun _ => 0) = pl_s (fun _ => 0) n := pl_s_congr (fun i _ => by simp)
        rw [this, pl_s_zero]
      have pu0 : ∀ x, pl_u n t h 0 (fun _ => 0) x = 0 := fun x => by
        have : pl_u n t h 0 (fun _ => 0) x = pl_s (fun _ => 0) n := pl_s_congr (fun i _ => by simp)
        rw [this, pl_s_zero]
      have hsk := c_seeks (d := d) (cs := mcs (σ.2.2.1 36) th cN n) hmS hcs n 0 (fun _ => 0) (σ4.1 531) (σ4.2.2.1 52) (σ4.2.2.1 53) (σ4.2.2.1 54) (fun o σ => match o with | .inl v => ex_r none (d + n + 4) ex_m_X5_plan E 157 [.ref 5, .int (nI H), .int th, .int (nI (mcs (σ4.2.2.1 36) th cN n)), .int (nI 200)] (v.toList ++ []) σ 0 | .inr x => E (.inr x) σ) (tl_ct_le _ n) ⟨Nat.two_pow_pos n, ⟨fun w v _ q => absurd q (fun q => z0 w q), fun x => by rw [pu0 x]; exact Nat.zero_le _⟩, fun w _ q => absurd q (fun q => z0 w q), fun x hx => by rw [r54, pu0 x]; exact hF2v x hx⟩ (Or.inl i531)
      rw [pA0, mz_self, t3 36 (by decide) (by decide)] at hsk
      apply hsk
      intro le2 f2 g2 k2 hP
      obtain ⟨c, hcc, hV⟩ := hP.2.2.2 S ⟨hS.1, fun w _ q => absurd q (fun q => z0 w q), fun v u _ _ q => absurd q (fun q => z0 v q)⟩
      have hVe : pl_V n t wt (2 ^ n - 1) S = pl_V n t wt (2 ^ n - 1) c := Nat.le_antisymm (hS.2.1 c hcc.1) hV
      obtain ⟨hAe, hce⟩ := pl_one hn hS.2.2 (fun w hw => by have := hcc.2.1 w hw; have := (hs w hw).2.2.2.1; omega) hVe
      simp only [Option.toList, List.nil_append, r_X5_plan_0, r_X5_plan_1, r_X5_plan_2, r_X5_plan_5, r_X5_plan_6, r_X5_plan_7, r_X5_plan_8, r_X5_plan_10, r_X5_plan_13, r_X5_plan_16, r_X5_plan_17, r_X5_plan_20, r_X5_plan_21, r_X5_plan_22, r_X5_plan_25, r_X5_plan_28, r_X5_plan_29, r_X5_plan_30, r_X5_plan_31, r_X5_plan_32, r_X5_plan_35, r_X5_plan_36, r_X5_plan_37, r_X5_plan_40, r_X5_plan_41, r_X5_plan_42, r_X5_plan_45, r_X5_plan_46, r_X5_plan_47, r_X5_plan_50, r_X5_plan_53, r_X5_plan_54, r_X5_plan_55, r_X5_plan_56, r_X5_plan_57, r_X5_plan_58, r_X5_plan_62, r_X5_plan_63, r_X5_plan_66, r_X5_plan_69, r_X5_plan_70, r_X5_plan_73, r_X5_plan_75, r_X5_plan_76, r_X5_plan_77, r_X5_plan_80, r_X5_plan_81, r_X5_plan_82, r_X5_plan_83, r_X5_plan_84, r_X5_plan_86, r_X5_plan_87, r_X5_plan_88, r_X5_plan_89, r_X5_plan_90, r_X5_plan_93, r_X5_plan_94, r_X5_plan_96, r_X5_plan_99, r_X5_plan_102, r_X5_plan_103, r_X5_plan_106, r_X5_plan_108, r_X5_plan_109, r_X5_plan_112, r_X5_plan_113, r_X5_plan_114, r_X5_plan_115, r_X5_plan_118, r_X5_plan_122, r_X5_plan_126, r_X5_plan_129, r_X5_plan_132, r_X5_plan_133, r_X5_plan_136, r_X5_plan_138, r_X5_plan_139, r_X5_plan_140, r_X5_plan_143, r_X5_plan_146, r_X5_plan_147, r_X5_plan_148, r_X5_plan_151, r_X5_plan_152, r_X5_plan_153, r_X5_plan_154, r_X5_plan_157, r_X5_plan_158, r_X5_plan_159, r_X5_plan_162, r_X5_plan_163, r_X5_plan_166, tl_b1, true_and, s_f1, mz_1, Nat.reduceEqDiff, if_false, if_true]
      rw [hcc.2.2.1, ← hAe]
      apply hE
      · refine ⟨fun j a b c e f => ?_, ?_, fun r a b c e => ?_, ?_⟩
        · rw [s_f1, if_neg b, mz_1, if_neg f, t1 j f]
          exact s1 j a b c e
        · show σ4.2.1 = σ.2.1
          rw [← hσ4]
          show σ1.2.1 = σ.2.1
          rw [s2]
        · rw [s_f2, mz_3, if_neg b, if_neg c, if_neg e]
          exact t3 r a e
        · show σ4.2.2.2 = σ.2.2.2
          rw [← hσ4]
          show σ1.2.2.2 = σ.2.2.2
          rw [s2]
      · show σ4.1 500 = 0
        rw [t1 500 (by decide)]
        exact i500
      · rfl
      · intro w hw
        show f2 w = nI (S w)
        rw [hcc.2.2.2 w hw, hce w hw]
    · rw [if_neg hf]
      exact hb (Or.inl (by simpa using hf)) _ hq1 i500 i525
  · rw [if_neg (hr _)]
    exact hb (Or.inr hr) _ hq1 i500 i525
theorem c_mplanT {d : Nat} {σ : ex_S} {E : ex_O → ex_S → Prop} {v : Int32} (hv : ¬ ((1 : Int32) ≤ v ∧ v ≤ 8)) : ex_C (d + 2) 109 [.ref 5, .int v, .int th] σ E = E (.inl (some (.int 0))) (ex_sF (ex_sF σ 500 0) 500 1) := by
  simp only [r_X5_plan, r_X5_plan_0, r_X5_plan_1, r_X5_plan_2, r_X5_plan_5, r_X5_plan_6, r_X5_plan_7, r_X5_plan_8, r_X5_plan_10, r_X5_plan_13, r_X5_plan_16, r_X5_plan_17, r_X5_plan_20, r_X5_plan_21, r_X5_plan_22, r_X5_plan_25, r_X5_plan_28, r_X5_plan_29, r_X5_plan_30, r_X5_plan_31, r_X5_plan_32, r_X5_plan_35, r_X5_plan_36, r_X5_plan_37, r_X5_plan_40, r_X5_plan_41, r_X5_plan_42, r_X5_plan_45, r_X5_plan_46, r_X5_plan_47, r_X5_plan_50, r_X5_plan_53, r_X5_plan_54, r_X5_plan_55, r_X5_plan_56, r_X5_plan_57, r_X5_plan_58, r_X5_plan_62, r_X5_plan_63, r_X5_plan_66, r_X5_plan_69, r_X5_plan_70, r_X5_plan_73, r_X5_plan_75, r_X5_plan_76, r_X5_plan_77, r_X5_plan_80, r_X5_plan_81, r_X5_plan_82, r_X5_plan_83, r_X5_plan_84, r_X5_plan_86, r_X5_plan_87, r_X5_plan_88, r_X5_plan_89, r_X5_plan_90, r_X5_plan_93, r_X5_plan_94, r_X5_plan_96, r_X5_plan_99, r_X5_plan_102, r_X5_plan_103, r_X5_plan_106, r_X5_plan_108, r_X5_plan_109, r_X5_plan_112, r_X5_plan_113, r_X5_plan_114, r_X5_plan_115, r_X5_plan_118, r_X5_plan_122, r_X5_plan_124, r_X5_plan_126, r_X5_plan_129, r_X5_plan_132, r_X5_plan_133, r_X5_plan_136, r_X5_plan_138, r_X5_plan_139, r_X5_plan_140, r_X5_plan_143, r_X5_plan_146, r_X5_plan_147, r_X5_plan_148, r_X5_plan_151, r_X5_plan_152, r_X5_plan_153, r_X5_plan_154, r_X5_plan_157, r_X5_plan_158, r_X5_plan_159, r_X5_plan_162, r_X5_plan_163, r_X5_plan_166, c_in, if_neg hv, Option.toList, List.cons_append, List.nil_append, if_true, c_throwsIf1, i10, if_false]
end PI
