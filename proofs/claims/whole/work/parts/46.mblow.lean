/-! ===== the model's blow and nightfall ===== -/
section MB
def bl (σ : ex_S) (f g h : Nat → Int32) : ex_S := (σ.1, σ.2.1, fun k => if k = 55 then f else if k = 56 then g else if k = 57 then h else σ.2.2.1 k, σ.2.2.2)
theorem bl_self (σ : ex_S) : bl σ (σ.2.2.1 55) (σ.2.2.1 56) (σ.2.2.1 57) = σ := by
  refine Prod.ext rfl (Prod.ext rfl (Prod.ext ?_ rfl))
  funext j
  show (if j = 55 then σ.2.2.1 55 else if j = 56 then σ.2.2.1 56 else if j = 57 then σ.2.2.1 57 else σ.2.2.1 j) = σ.2.2.1 j
  by_cases h1 : j = 55
  · rw [if_pos h1, h1]
  · rw [if_neg h1]
    by_cases h2 : j = 56
    · rw [if_pos h2, h2]
    · rw [if_neg h2]
      by_cases h3 : j = 57
      · rw [if_pos h3, h3]
      · rw [if_neg h3]
theorem bl_55 (σ : ex_S) (f g h : Nat → Int32) (i : Nat) (v : Int32) : ex_sA (bl σ f g h) 55 i v = bl σ (upd f i v) g h := by
  refine Prod.ext rfl (Prod.ext rfl (Prod.ext ?_ rfl))
  funext k
  show (if k = 55 then upd f i v else if k = 55 then f else if k = 56 then g else if k = 57 then h else σ.2.2.1 k) = (if k = 55 then upd f i v else if k = 56 then g else if k = 57 then h else σ.2.2.1 k)
  by_cases h1 : k = 55 <;> simp [h1]
theorem bl_56 (σ : ex_S) (f g h : Nat → Int32) (i : Nat) (v : Int32) : ex_sA (bl σ f g h) 56 i v = bl σ f (upd g i v) h := by
  refine Prod.ext rfl (Prod.ext rfl (Prod.ext ?_ rfl))
  funext k
  show (if k = 56 then upd g i v else if k = 55 then f else if k = 56 then g else if k = 57 then h else σ.2.2.1 k) = (if k = 55 then f else if k = 56 then upd g i v else if k = 57 then h else σ.2.2.1 k)
  by_cases h1 : k = 56 <;> simp [h1]
theorem bl_57 (σ : ex_S) (f g h : Nat → Int32) (i : Nat) (v : Int32) : ex_sA (bl σ f g h) 57 i v = bl σ f g (upd h i v) := by
  refine Prod.ext rfl (Prod.ext rfl (Prod.ext ?_ rfl))
  funext k
  show (if k = 57 then upd h i v else if k = 55 then f else if k = 56 then g else if k = 57 then h else σ.2.2.1 k) = (if k = 55 then f else if k = 56 then g else if k = 57 then upd h i v else σ.2.2.1 k)
  by_cases h1 : k = 57 <;> simp [h1]
theorem bl_1 (σ : ex_S) (f g h : Nat → Int32) : (bl σ f g h).1 = σ.1 := rfl
theorem bl_3 (σ : ex_S) (f g h : Nat → Int32) (k : Nat) : (bl σ f g h).2.2.1 k = if k = 55 then f else if k = 56 then g else if k = 57 then h else σ.2.2.1 k := rfl
theorem c_mnight {d : Nat} {E : ex_O → ex_S → Prop} {σ : ex_S} {v : Int32} (hv : (1 : Int32) ≤ v ∧ v ≤ 8) : ex_C (d + 2) 111 [.ref 5, .int v] σ E = E (.inl none) (bl (ex_sF (ex_sF (ex_sF (ex_sF (ex_sF σ 500 0) 532 1) 533 v) 534 0) 535 0) (fi (σ.2.2.1 55) 0 8) (fi (σ.2.2.1 56) 0 8) (fi (σ.2.2.1 57) 0 8)) := by
  simp only [r_X5_night, r_X5_night_0, r_X5_night_1, r_X5_night_2, r_X5_night_5, r_X5_night_6, r_X5_night_7, r_X5_night_8, r_X5_night_10, r_X5_night_13, r_X5_night_16, r_X5_night_17, r_X5_night_20, r_X5_night_21, r_X5_night_22, r_X5_night_25, r_X5_night_28, r_X5_night_29, r_X5_night_30, r_X5_night_31, r_X5_night_34, r_X5_night_35, r_X5_night_36, r_X5_night_39, r_X5_night_40, r_X5_night_41, r_X5_night_44, r_X5_night_45, r_X5_night_46, r_X5_night_49, r_X5_night_50, r_X5_night_52, r_X5_night_54, r_X5_night_57, r_X5_night_58, r_X5_night_61, r_X5_night_62, r_X5_night_63, r_X5_night_64, r_X5_night_65, r_X5_night_68, r_X5_night_69, r_X5_night_70, r_X5_night_71, r_X5_night_72, r_X5_night_75, r_X5_night_76, r_X5_night_77, r_X5_night_78, r_X5_night_81, r_X5_night_84, c_in, hv, and_self, if_true, Option.toList, List.cons_append, List.nil_append, i10, if_false, tl_b0, tl_b1, true_and, c_throwsIf0]
  have L := tl_for (A := fun i => ex_r none (d + 1) ex_m_X5_night E 51 [.ref 5, .int v, .int (nI i)] [] (bl (ex_sF (ex_sF (ex_sF (ex_sF (ex_sF σ 500 0) 532 1) 533 v) 534 0) 535 0) (fi (σ.2.2.1 55) 0 i) (fi (σ.2.2.1 56) 0 i) (fi (σ.2.2.1 57) 0 i)) 0) (n := 8) (by
    intro i hi R hR
    simp only [r_X5_night_51]
    simp only [r_X5_night_0, r_X5_night_1, r_X5_night_2, r_X5_night_5, r_X5_night_6, r_X5_night_7, r_X5_night_8, r_X5_night_10, r_X5_night_13, r_X5_night_16, r_X5_night_17, r_X5_night_20, r_X5_night_21, r_X5_night_22, r_X5_night_25, r_X5_night_28, r_X5_night_29, r_X5_night_30, r_X5_night_31, r_X5_night_34, r_X5_night_35, r_X5_night_36, r_X5_night_39, r_X5_night_40, r_X5_night_41, r_X5_night_44, r_X5_night_45, r_X5_night_46, r_X5_night_49, r_X5_night_50, r_X5_night_52, r_X5_night_54, r_X5_night_57, r_X5_night_58, r_X5_night_61, r_X5_night_62, r_X5_night_63, r_X5_night_64, r_X5_night_65, r_X5_night_68, r_X5_night_69, r_X5_night_70, r_X5_night_71, r_X5_night_72, r_X5_night_75, r_X5_night_76, r_X5_night_77, r_X5_night_78, r_X5_night_81, r_X5_night_84, tl_in hi (show 8 < 2 ^ 31 by omega), tl_cl (show i < 2 ^ 31 by omega), true_and, nI_1, tl_b0, bl_55, bl_56, bl_57]
    rw [if_neg (show ¬ (8 : Int32) ≤ nI i from nI_ge (b := 8) hi (by omega))]
    exact hR)
  have e : bl (ex_sF (ex_sF (ex_sF (ex_sF (ex_sF σ 500 0) 532 1) 533 v) 534 0) 535 0) (fi (σ.2.2.1 55) 0 0) (fi (σ.2.2.1 56) 0 0) (fi (σ.2.2.1 57) 0 0) = ex_sF (ex_sF (ex_sF (ex_sF (ex_sF σ 500 0) 532 1) 533 v) 534 0) 535 0 := bl_self (ex_sF (ex_sF (ex_sF (ex_sF (ex_sF σ 500 0) 532 1) 533 v) 534 0) 535 0)
  simp only [e] at L
  refine Eq.trans L ?_
  simp only [r_X5_night_51, r_X5_night_52, r_X5_night_54, r_X5_night_84]
  rw [if_pos (show (8 : Int32) ≤ nI 8 from nI_le (a := 8) (b := 8) (by omega) (by omega))]
theorem c_mnightT {d : Nat} {E : ex_O → ex_S → Prop} {σ : ex_S} {v : Int32} (hv : ¬ ((1 : Int32) ≤ v ∧ v ≤ 8)) : ex_C (d + 2) 111 [.ref 5, .int v] σ E = E (.inl none) (ex_sF (ex_sF σ 500 0) 500 1) := by
  simp only [r_X5_night, r_X5_night_0, r_X5_night_1, r_X5_night_2, r_X5_night_5, r_X5_night_6, r_X5_night_7, r_X5_night_8, r_X5_night_10, r_X5_night_13, r_X5_night_16, r_X5_night_17, r_X5_night_20, r_X5_night_21, r_X5_night_22, r_X5_night_25, r_X5_night_28, r_X5_night_29, r_X5_night_30, r_X5_night_31, r_X5_night_34, r_X5_night_35, r_X5_night_36, r_X5_night_39, r_X5_night_40, r_X5_night_41, r_X5_night_44, r_X5_night_45, r_X5_night_46, r_X5_night_49, r_X5_night_50, r_X5_night_52, r_X5_night_54, r_X5_night_57, r_X5_night_58, r_X5_night_61, r_X5_night_62, r_X5_night_63, r_X5_night_64, r_X5_night_65, r_X5_night_68, r_X5_night_69, r_X5_night_70, r_X5_night_71, r_X5_night_72, r_X5_night_75, r_X5_night_76, r_X5_night_77, r_X5_night_78, r_X5_night_81, r_X5_night_84, c_in, hv, if_true, Option.toList, List.cons_append, List.nil_append, i10, if_false, tl_b0, tl_b1, true_and, c_throwsIf1]
def bz (n : Nat) (st : Nat → Nat) (A : Nat → Bool) (f : Nat → Int32) (k : Nat) : Int32 := if k < n ∧ st k ≠ 0 ∧ A k = false then 0 else f k
theorem bz_step {n k : Nat} {st : Nat → Nat} {A : Nat → Bool} {f : Nat → Int32} (hk : k < n) (hs : st k ≠ 0) : upd (bz n st A f) k 0 = bz n st (fun j => A j && !decide (j = k)) f := by
  funext j
  rw [s_u]
  unfold bz
  by_cases e : j = k
  · subst e
    simp [hk, hs]
  · simp [e]
def dn (st : Nat → Nat) (A : Nat → Bool) (k : Nat) : Bool := decide (st k ≠ 0) && !A k
theorem c_mblow {d : Nat} {E : ex_O → ex_S → Prop} {σ : ex_S} {n m w : Nat} {nr nd : Nat → Nat} {so th : Nat → Bool} {st : Nat → Nat} (h : md_at σ n m nr nd so) (hw : w < n) (hN : σ.1 532 = 1) (hf : ∀ k, k < n → σ.2.2.1 55 k = nI (st k) ∧ st k ≤ 2 ∧ σ.2.2.1 57 k = if th k = true then 1 else 0) : ex_C (d + 3) 118 [.ref 5, .int (nI w)] σ E = if st w = 0 then E (.inl (some (.int 0))) (ex_sF σ 500 0) else E (.inl (some (.int (nI (mk n (dn st (ga_r (sS m nr nd so th) n n (fun k => decide (st k ≠ 0) && !decide (k = w))))))))) (bl (ex_sF σ 500 0) (bz n st (ga_r (sS m nr nd so th) n n (fun k => decide (st k ≠ 0) && !decide (k = w))) (σ.2.2.1 55)) (bz n st (ga_r (sS m nr nd so th) n n (fun k => decide (st k ≠ 0) && !decide (k = w))) (σ.2.2.1 56)) (bz n st (ga_r (sS m nr nd so th) n n (fun k => decide (st k ≠ 0) && !decide (k = w))) (σ.2.2.1 57))) := by
  have hn := h.1
  have h0 := md_thr h 0
  have hm : ∀ j, j < m → nr j < n ∧ nd j < n := fun j hj => (h.2.2.2.2 j hj).2.2.2
  have e1 : (nI (st w) = 0) = (st w = 0) := tl_eq0 (by have := (hf w hw).2.1; omega)
  simp only [r_X5_blow, r_X5_blow_0, r_X5_blow_1, r_X5_blow_2, r_X5_blow_5, r_X5_blow_6, r_X5_blow_7, r_X5_blow_8, r_X5_blow_11, r_X5_blow_12, r_X5_blow_15, r_X5_blow_18, r_X5_blow_19, r_X5_blow_20, r_X5_blow_23, r_X5_blow_26, r_X5_blow_27, r_X5_blow_30, r_X5_blow_31, r_X5_blow_32, r_X5_blow_35, r_X5_blow_38, r_X5_blow_39, r_X5_blow_42, r_X5_blow_43, r_X5_blow_44, r_X5_blow_47, r_X5_blow_48, r_X5_blow_49, r_X5_blow_50, r_X5_blow_51, r_X5_blow_54, r_X5_blow_55, r_X5_blow_56, r_X5_blow_57, r_X5_blow_58, r_X5_blow_59, r_X5_blow_61, r_X5_blow_62, r_X5_blow_65, r_X5_blow_68, r_X5_blow_69, r_X5_blow_73, r_X5_blow_74, r_X5_blow_77, r_X5_blow_80, r_X5_blow_81, r_X5_blow_84, r_X5_blow_86, r_X5_blow_87, r_X5_blow_90, r_X5_blow_91, r_X5_blow_93, r_X5_blow_94, r_X5_blow_97, r_X5_blow_99, r_X5_blow_100, r_X5_blow_101, r_X5_blow_104, r_X5_blow_107, r_X5_blow_110, r_X5_blow_111, r_X5_blow_113, r_X5_blow_116, r_X5_blow_117, r_X5_blow_118, r_X5_blow_120, r_X5_blow_121, r_X5_blow_122, r_X5_blow_123, r_X5_blow_126, r_X5_blow_129, r_X5_blow_132, r_X5_blow_135, r_X5_blow_136, c_noWork hn h0.2.2.1 (vp_in_nI hw (by omega)), c_throwsIf0, if_true, Option.toList, List.cons_append, List.nil_append, s_f1, s_f2, Nat.reduceEqDiff, if_false, hN, i10, tl_b0, true_and, tl_in (show w < 8 by omega) (show 8 < 2 ^ 31 by omega), tl_cl (show w < 2 ^ 31 by omega), (hf w hw).1, e1, c_falls (show w < 8 by omega), tl_shl w (by omega)]
  by_cases q : st w = 0
  · rw [if_pos q, if_pos q]
  · rw [if_neg q, if_neg q]
    generalize hA0 : (fun k => decide (st k ≠ 0) && !decide (k = w)) = A0
    have s1 : ex_sA (ex_sA (ex_sA (ex_sF σ 500 0) 55 w 0) 56 w 0) 57 w 0 = bl (ex_sF σ 500 0) (bz n st A0 (σ.2.2.1 55)) (bz n st A0 (σ.2.2.1 56)) (bz n st A0 (σ.2.2.1 57)) := by
      have e2 : ∀ τ : ex_S, ex_sA (ex_sA (ex_sA τ 55 w 0) 56 w 0) 57 w 0 = bl τ (upd (τ.2.2.1 55) w 0) (upd (τ.2.2.1 56) w 0) (upd (τ.2.2.1 57) w 0) := by
        intro τ
        conv => lhs; rw [← bl_self τ, bl_55, bl_56, bl_57]
      rw [e2]
      have : ∀ f : Nat → Int32, upd f w 0 = bz n st A0 f := by
        intro f
        funext k
        rw [s_u, ← hA0]
        unfold bz
        by_cases e : k = w
        · subst e
          simp [hw, q]
        · by_cases q2 : st k = 0 <;> simp [e, q2]
      rw [this, this, this]
      rfl
    have s2 : 2 ^ w = mk n (dn st A0) := by
      rw [mk_one hw]
      apply mk_ext
      intro k hk
      rw [← hA0]
      unfold dn
      by_cases e : k = w
      · subst e
        simp [q]
      · by_cases q2 : st k = 0 <;> simp [e, q2]
    have s3 : ∀ j, A0 j = true → st j ≠ 0 := by
      intro j
      rw [← hA0]
      simp
      intro h1 _
      exact h1
    rw [s1, s2]
    clear s1 s2 hA0
    have inner : ∀ (A : Nat → Bool) (i : Nat), (∀ j, A j = true → st j ≠ 0) → ex_r none (d + 2) ex_m_X5_blow E 71 [.ref 5, .int (nI w), .int (nI (mk n (dn st A))), .int (nI i), .int (nI 0)] [] (bl (ex_sF σ 500 0) (bz n st A (σ.2.2.1 55)) (bz n st A (σ.2.2.1 56)) (bz n st A (σ.2.2.1 57))) 0 = ex_r none (d + 2) ex_m_X5_blow E 71 [.ref 5, .int (nI w), .int (nI (mk n (dn st (ga_i (sS m nr nd so th) A n)))), .int (nI i), .int (nI n)] [] (bl (ex_sF σ 500 0) (bz n st (ga_i (sS m nr nd so th) A n) (σ.2.2.1 55)) (bz n st (ga_i (sS m nr nd so th) A n) (σ.2.2.1 56)) (bz n st (ga_i (sS m nr nd so th) A n) (σ.2.2.1 57))) 0 := by
      intro A i hA
      refine tl_for (A := fun k => ex_r none (d + 2) ex_m_X5_blow E 71 [.ref 5, .int (nI w), .int (nI (mk n (dn st (ga_i (sS m nr nd so th) A k)))), .int (nI i), .int (nI k)] [] (bl (ex_sF σ 500 0) (bz n st (ga_i (sS m nr nd so th) A k) (σ.2.2.1 55)) (bz n st (ga_i (sS m nr nd so th) A k) (σ.2.2.1 56)) (bz n st (ga_i (sS m nr nd so th) A k) (σ.2.2.1 57))) 0) (n := n) ?_
      intro k hk R hR
      have hB : ∀ j, ga_i (sS m nr nd so th) A k j = true → st j ≠ 0 := fun j hj => hA j (ga_i_sub hj)
      rw [ga_i] at hR
      generalize ga_i (sS m nr nd so th) A k = B at hB hR ⊢
      obtain ⟨f1, f2, f3⟩ := hf k hk
      have hmd : md_at (bl (ex_sF σ 500 0) (bz n st B (σ.2.2.1 55)) (bz n st B (σ.2.2.1 56)) (bz n st B (σ.2.2.1 57))) n m nr nd so := h
      have b1 : ∀ j, j < n → (bz n st B (σ.2.2.1 55) j = 0 ↔ B j = false) := by
        intro j hj
        unfold bz
        cases q2 : B j with
        | true =>
          have := hB j q2
          rw [if_neg (by simp), (hf j hj).1, tl_eq0 (by have := (hf j hj).2.1; omega)]
          simp [this]
        | false =>
          by_cases q3 : st j = 0
          · rw [if_neg (fun q4 => q4.2.1 q3), (hf j hj).1, q3]
            simp [nI]
          · rw [if_pos ⟨hj, q3, rfl⟩]
            simp
      have b2 : ∀ j, j < n → isge 1 (bz n st B (σ.2.2.1 55)) j = B j := by
        intro j hj
        unfold isge bz
        cases q2 : B j with
        | true =>
          have := hB j q2
          have h2 : ¬ nI (st j) < 1 := by
            rw [show (1 : Int32) = nI 1 from rfl, nI_ltI (by have := (hf j hj).2.1; omega) (by omega)]
            omega
          rw [if_neg (by simp), (hf j hj).1]
          simpa using Int32.not_lt.mp h2
        | false =>
          by_cases q3 : st j = 0
          · rw [if_neg (fun q4 => q4.2.1 q3), (hf j hj).1, q3]
            decide
          · rw [if_pos ⟨hj, q3, rfl⟩]
            decide
      simp only [r_X5_blow_71]
      simp only [r_X5_blow_0, r_X5_blow_1, r_X5_blow_2, r_X5_blow_5, r_X5_blow_6, r_X5_blow_7, r_X5_blow_8, r_X5_blow_11, r_X5_blow_12, r_X5_blow_15, r_X5_blow_18, r_X5_blow_19, r_X5_blow_20, r_X5_blow_23, r_X5_blow_26, r_X5_blow_27, r_X5_blow_30, r_X5_blow_31, r_X5_blow_32, r_X5_blow_35, r_X5_blow_38, r_X5_blow_39, r_X5_blow_42, r_X5_blow_43, r_X5_blow_44, r_X5_blow_47, r_X5_blow_48, r_X5_blow_49, r_X5_blow_50, r_X5_blow_51, r_X5_blow_54, r_X5_blow_55, r_X5_blow_56, r_X5_blow_57, r_X5_blow_58, r_X5_blow_59, r_X5_blow_61, r_X5_blow_62, r_X5_blow_65, r_X5_blow_68, r_X5_blow_69, r_X5_blow_73, r_X5_blow_74, r_X5_blow_77, r_X5_blow_80, r_X5_blow_81, r_X5_blow_84, r_X5_blow_86, r_X5_blow_87, r_X5_blow_90, r_X5_blow_91, r_X5_blow_93, r_X5_blow_94, r_X5_blow_97, r_X5_blow_99, r_X5_blow_100, r_X5_blow_101, r_X5_blow_104, r_X5_blow_107, r_X5_blow_110, r_X5_blow_111, r_X5_blow_113, r_X5_blow_116, r_X5_blow_117, r_X5_blow_118, r_X5_blow_120, r_X5_blow_121, r_X5_blow_122, r_X5_blow_123, r_X5_blow_126, r_X5_blow_129, r_X5_blow_132, r_X5_blow_135, r_X5_blow_136, bl_1, bl_3, s_f1, h0.2.2.1, Nat.reduceEqDiff, if_false, if_true, tl_in (show k < 8 by omega) (show 8 < 2 ^ 31 by omega), tl_cl (show k < 2 ^ 31 by omega), true_and]
      rw [show σ.1 505 = nI n from h.2.2.1, if_neg (nI_ge hk (by omega))]
      cases q2 : B k with
      | false =>
        rw [if_pos ((b1 k hk).mpr q2)]
        simp only [q2, Bool.false_eq_true, false_and, if_false] at hR
        simp only [nI_1]
        exact hR
      | true =>
        rw [if_neg (fun q3 => by rw [(b1 k hk).mp q3] at q2; simp at q2)]
        have e3 : bz n st B (σ.2.2.1 57) k = if th k = true then 1 else 0 := by
          unfold bz
          rw [if_neg (by simp [q2]), f3]
        rw [e3, c_stands hmd hk]
        have e4 : sdm nr nd so k (th k) (isge 1 ((bl (ex_sF σ 500 0) (bz n st B (σ.2.2.1 55)) (bz n st B (σ.2.2.1 56)) (bz n st B (σ.2.2.1 57))).2.2.1 55)) m = sS m nr nd so th k B := by
          apply tl_bool_ext
          rw [sdm_iff]
          unfold sS
          rw [cb_iff]
          constructor
          · intro h1 j hj e
            rcases h1 j hj e with h2 | h2
            · exact Or.inl h2
            · exact Or.inr ((b2 _ (hm j hj).2).symm.trans h2)
          · intro h1 j hj e
            rcases h1 j hj e with h2 | h2
            · exact Or.inl h2
            · exact Or.inr ((b2 _ (hm j hj).2).trans h2)
        rw [e4]
        simp only [Option.toList, List.cons_append, List.nil_append, r_X5_blow_0, r_X5_blow_1, r_X5_blow_2, r_X5_blow_5, r_X5_blow_6, r_X5_blow_7, r_X5_blow_8, r_X5_blow_11, r_X5_blow_12, r_X5_blow_15, r_X5_blow_18, r_X5_blow_19, r_X5_blow_20, r_X5_blow_23, r_X5_blow_26, r_X5_blow_27, r_X5_blow_30, r_X5_blow_31, r_X5_blow_32, r_X5_blow_35, r_X5_blow_38, r_X5_blow_39, r_X5_blow_42, r_X5_blow_43, r_X5_blow_44, r_X5_blow_47, r_X5_blow_48, r_X5_blow_49, r_X5_blow_50, r_X5_blow_51, r_X5_blow_54, r_X5_blow_55, r_X5_blow_56, r_X5_blow_57, r_X5_blow_58, r_X5_blow_59, r_X5_blow_61, r_X5_blow_62, r_X5_blow_65, r_X5_blow_68, r_X5_blow_69, r_X5_blow_73, r_X5_blow_74, r_X5_blow_77, r_X5_blow_80, r_X5_blow_81, r_X5_blow_84, r_X5_blow_86, r_X5_blow_87, r_X5_blow_90, r_X5_blow_91, r_X5_blow_93, r_X5_blow_94, r_X5_blow_97, r_X5_blow_99, r_X5_blow_100, r_X5_blow_101, r_X5_blow_104, r_X5_blow_107, r_X5_blow_110, r_X5_blow_111, r_X5_blow_113, r_X5_blow_116, r_X5_blow_117, r_X5_blow_118, r_X5_blow_120, r_X5_blow_121, r_X5_blow_122, r_X5_blow_123, r_X5_blow_126, r_X5_blow_129, r_X5_blow_132, r_X5_blow_135, r_X5_blow_136, nI_1, c_falls (show k < 8 by omega), bl_55, bl_56, bl_57, tl_shl k (by omega), tl_or]
        cases q3 : sS m nr nd so th k B with
        | true =>
          simp only [q2, q3, Bool.true_eq_false, and_false, if_false] at hR
          simpa [i10] using hR
        | false =>
          have hsk := hB k q2
          simp only [q2, q3, and_self, if_true] at hR
          have e5 : mk n (dn st B) ||| 2 ^ k = mk n (dn st (fun j => B j && !decide (j = k))) := by
            rw [mk_one hk, mk_or]
            apply mk_ext
            intro j hj
            unfold dn
            by_cases e : j = k
            · subst e
              simp [hsk]
            · simp [e]
          rw [bz_step hk hsk, bz_step hk hsk, bz_step hk hsk, e5]
          simpa using hR
    have key : ∀ (k i : Nat) (A : Nat → Bool) (z : Value), i + k = n → (∀ j, A j = true → st j ≠ 0) → ex_r none (d + 2) ex_m_X5_blow E 60 [.ref 5, .int (nI w), .int (nI (mk n (dn st A))), .int (nI i), z] [] (bl (ex_sF σ 500 0) (bz n st A (σ.2.2.1 55)) (bz n st A (σ.2.2.1 56)) (bz n st A (σ.2.2.1 57))) 0 = E (.inl (some (.int (nI (mk n (dn st (ga_r (sS m nr nd so th) n k A))))))) (bl (ex_sF σ 500 0) (bz n st (ga_r (sS m nr nd so th) n k A) (σ.2.2.1 55)) (bz n st (ga_r (sS m nr nd so th) n k A) (σ.2.2.1 56)) (bz n st (ga_r (sS m nr nd so th) n k A) (σ.2.2.1 57))) := by
      intro k
      induction k with
      | zero =>
        intro i A z hi hA
        have e : i = n := by omega
        subst e
        simp only [r_X5_blow_60]
        simp only [r_X5_blow_0, r_X5_blow_1, r_X5_blow_2, r_X5_blow_5, r_X5_blow_6, r_X5_blow_7, r_X5_blow_8, r_X5_blow_11, r_X5_blow_12, r_X5_blow_15, r_X5_blow_18, r_X5_blow_19, r_X5_blow_20, r_X5_blow_23, r_X5_blow_26, r_X5_blow_27, r_X5_blow_30, r_X5_blow_31, r_X5_blow_32, r_X5_blow_35, r_X5_blow_38, r_X5_blow_39, r_X5_blow_42, r_X5_blow_43, r_X5_blow_44, r_X5_blow_47, r_X5_blow_48, r_X5_blow_49, r_X5_blow_50, r_X5_blow_51, r_X5_blow_54, r_X5_blow_55, r_X5_blow_56, r_X5_blow_57, r_X5_blow_58, r_X5_blow_59, r_X5_blow_61, r_X5_blow_62, r_X5_blow_65, r_X5_blow_68, r_X5_blow_69, r_X5_blow_73, r_X5_blow_74, r_X5_blow_77, r_X5_blow_80, r_X5_blow_81, r_X5_blow_84, r_X5_blow_86, r_X5_blow_87, r_X5_blow_90, r_X5_blow_91, r_X5_blow_93, r_X5_blow_94, r_X5_blow_97, r_X5_blow_99, r_X5_blow_100, r_X5_blow_101, r_X5_blow_104, r_X5_blow_107, r_X5_blow_110, r_X5_blow_111, r_X5_blow_113, r_X5_blow_116, r_X5_blow_117, r_X5_blow_118, r_X5_blow_120, r_X5_blow_121, r_X5_blow_122, r_X5_blow_123, r_X5_blow_126, r_X5_blow_129, r_X5_blow_132, r_X5_blow_135, r_X5_blow_136, bl_1, h0.2.2.1, Int32.le_refl, if_true, ga_r]
      | succ k ih =>
        intro i A z hi hA
        simp only [r_X5_blow_60]
        simp only [r_X5_blow_0, r_X5_blow_1, r_X5_blow_2, r_X5_blow_5, r_X5_blow_6, r_X5_blow_7, r_X5_blow_8, r_X5_blow_11, r_X5_blow_12, r_X5_blow_15, r_X5_blow_18, r_X5_blow_19, r_X5_blow_20, r_X5_blow_23, r_X5_blow_26, r_X5_blow_27, r_X5_blow_30, r_X5_blow_31, r_X5_blow_32, r_X5_blow_35, r_X5_blow_38, r_X5_blow_39, r_X5_blow_42, r_X5_blow_43, r_X5_blow_44, r_X5_blow_47, r_X5_blow_48, r_X5_blow_49, r_X5_blow_50, r_X5_blow_51, r_X5_blow_54, r_X5_blow_55, r_X5_blow_56, r_X5_blow_57, r_X5_blow_58, r_X5_blow_59, r_X5_blow_61, r_X5_blow_62, r_X5_blow_65, r_X5_blow_68, r_X5_blow_69, r_X5_blow_73, r_X5_blow_74, r_X5_blow_77, r_X5_blow_80, r_X5_blow_81, r_X5_blow_84, r_X5_blow_86, r_X5_blow_87, r_X5_blow_90, r_X5_blow_91, r_X5_blow_93, r_X5_blow_94, r_X5_blow_97, r_X5_blow_99, r_X5_blow_100, r_X5_blow_101, r_X5_blow_104, r_X5_blow_107, r_X5_blow_110, r_X5_blow_111, r_X5_blow_113, r_X5_blow_116, r_X5_blow_117, r_X5_blow_118, r_X5_blow_120, r_X5_blow_121, r_X5_blow_122, r_X5_blow_123, r_X5_blow_126, r_X5_blow_129, r_X5_blow_132, r_X5_blow_135, r_X5_blow_136, bl_1, h0.2.2.1]
        rw [if_neg (nI_ge (show i < n by omega) (by omega))]
        have e := inner A i hA
        simp only [show nI 0 = (0 : Int32) from rfl] at e
        rw [e]
        simp only [r_X5_blow_71]
        simp only [r_X5_blow_0, r_X5_blow_1, r_X5_blow_2, r_X5_blow_5, r_X5_blow_6, r_X5_blow_7, r_X5_blow_8, r_X5_blow_11, r_X5_blow_12, r_X5_blow_15, r_X5_blow_18, r_X5_blow_19, r_X5_blow_20, r_X5_blow_23, r_X5_blow_26, r_X5_blow_27, r_X5_blow_30, r_X5_blow_31, r_X5_blow_32, r_X5_blow_35, r_X5_blow_38, r_X5_blow_39, r_X5_blow_42, r_X5_blow_43, r_X5_blow_44, r_X5_blow_47, r_X5_blow_48, r_X5_blow_49, r_X5_blow_50, r_X5_blow_51, r_X5_blow_54, r_X5_blow_55, r_X5_blow_56, r_X5_blow_57, r_X5_blow_58, r_X5_blow_59, r_X5_blow_61, r_X5_blow_62, r_X5_blow_65, r_X5_blow_68, r_X5_blow_69, r_X5_blow_73, r_X5_blow_74, r_X5_blow_77, r_X5_blow_80, r_X5_blow_81, r_X5_blow_84, r_X5_blow_86, r_X5_blow_87, r_X5_blow_90, r_X5_blow_91, r_X5_blow_93, r_X5_blow_94, r_X5_blow_97, r_X5_blow_99, r_X5_blow_100, r_X5_blow_101, r_X5_blow_104, r_X5_blow_107, r_X5_blow_110, r_X5_blow_111, r_X5_blow_113, r_X5_blow_116, r_X5_blow_117, r_X5_blow_118, r_X5_blow_120, r_X5_blow_121, r_X5_blow_122, r_X5_blow_123, r_X5_blow_126, r_X5_blow_129, r_X5_blow_132, r_X5_blow_135, r_X5_blow_136, bl_1, h0.2.2.1, Int32.le_refl, if_true, nI_1]
        rw [ih _ _ _ (by omega) (fun j hj => hA j (ga_i_sub hj)), ga_r]
    exact key n 0 A0 _ (by omega) s3
end MB
