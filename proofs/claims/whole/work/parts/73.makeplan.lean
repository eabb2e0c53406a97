/-! ===== the class's planner: the plan ===== -/
section PH
variable {n H : Nat} {t h wt ha al S : Nat → Nat} {th : Int32}
def wS (σ : ex_S) (n : Nat) (t h wt : Nat → Nat) : Prop := ∀ w, w < n → σ.2.2.1 27 w = nI (t w) ∧ σ.2.2.1 28 w = nI (h w) ∧ σ.2.2.1 29 w = nI (wt w) ∧ 1 ≤ t w ∧ t w ≤ 12 ∧ h w ≤ 100 ∧ wt w ≤ 100
def pF (σ τ : ex_S) : Prop := (∀ j, j ≠ 110 → j ≠ 111 → j ≠ 112 → j ≠ 114 → j ≠ 116 → j ≠ 117 → τ.1 j = σ.1 j) ∧ (∀ j, j ≠ 113 → j ≠ 115 → τ.2.1 j = σ.2.1 j) ∧ (∀ r, r ≠ 7 → r ≠ 8 → r ≠ 9 → r ≠ 10 → r ≠ 11 → r ≠ 12 → r ≠ 13 → r ≠ 15 → τ.2.2.1 r = σ.2.2.1 r) ∧ ∀ r, r ≠ 14 → τ.2.2.2 r = σ.2.2.2 r
theorem c_makePlan_bad {d : Nat} {σ : ex_S} {E : ex_O → ex_S → Prop} (hw : wk_at σ n ha al) (hs : wS σ n t h wt) (hH : H ≤ 8) (hbad : fH h H n = false ∨ wk_kb ha al (tb th) n n (2 ^ n - 1) = true) : ex_C (d + 3) 10 [.ref 1, .int (nI H), .int th] σ E = E (.inl (some (.int (-1)))) (ex_sF (ex_sF σ 110 0) 111 (nI H)) := by
  simp only [r_X1_makePlan, r_X1_makePlan_0, r_X1_makePlan_1, r_X1_makePlan_2, r_X1_makePlan_5, r_X1_makePlan_6, r_X1_makePlan_7, r_X1_makePlan_10, r_X1_makePlan_11, r_X1_makePlan_14, r_X1_makePlan_17, r_X1_makePlan_18, r_X1_makePlan_21, r_X1_makePlan_22, r_X1_makePlan_25, r_X1_makePlan_28, r_X1_makePlan_29, r_X1_makePlan_30, r_X1_makePlan_31, r_X1_makePlan_32, r_X1_makePlan_35, r_X1_makePlan_36, r_X1_makePlan_39, r_X1_makePlan_40, r_X1_makePlan_43, r_X1_makePlan_44, r_X1_makePlan_47, r_X1_makePlan_48, r_X1_makePlan_51, r_X1_makePlan_52, r_X1_makePlan_55, r_X1_makePlan_56, r_X1_makePlan_59, r_X1_makePlan_61, r_X1_makePlan_64, r_X1_makePlan_65, r_X1_makePlan_67, r_X1_makePlan_70, r_X1_makePlan_71, r_X1_makePlan_72, r_X1_makePlan_75, r_X1_makePlan_76, r_X1_makePlan_77, r_X1_makePlan_78, r_X1_makePlan_79, r_X1_makePlan_80, r_X1_makePlan_81, r_X1_makePlan_84, r_X1_makePlan_85, r_X1_makePlan_86, r_X1_makePlan_89, r_X1_makePlan_90, r_X1_makePlan_93, r_X1_makePlan_94, r_X1_makePlan_97, r_X1_makePlan_98, r_X1_makePlan_101, r_X1_makePlan_102, tl_b0, true_and]
  rw [c_fitsHands (σ := ex_sF (ex_sF σ 110 0) 111 (nI H)) (n := n) (H := H) (h := h) hw.1 hw.2.1 rfl (by omega) (fun w hw2 => ⟨(hs w hw2).2.1, by have := (hs w hw2).2.2.2.2.2.1; omega⟩)]
  simp only [Option.toList, List.cons_append, List.nil_append, r_X1_makePlan_0, r_X1_makePlan_1, r_X1_makePlan_2, r_X1_makePlan_5, r_X1_makePlan_6, r_X1_makePlan_7, r_X1_makePlan_10, r_X1_makePlan_11, r_X1_makePlan_14, r_X1_makePlan_17, r_X1_makePlan_18, r_X1_makePlan_21, r_X1_makePlan_22, r_X1_makePlan_25, r_X1_makePlan_28, r_X1_makePlan_29, r_X1_makePlan_30, r_X1_makePlan_31, r_X1_makePlan_32, r_X1_makePlan_35, r_X1_makePlan_36, r_X1_makePlan_39, r_X1_makePlan_40, r_X1_makePlan_43, r_X1_makePlan_44, r_X1_makePlan_47, r_X1_makePlan_48, r_X1_makePlan_51, r_X1_makePlan_52, r_X1_makePlan_55, r_X1_makePlan_56, r_X1_makePlan_59, r_X1_makePlan_61, r_X1_makePlan_64, r_X1_makePlan_65, r_X1_makePlan_67, r_X1_makePlan_70, r_X1_makePlan_71, r_X1_makePlan_72, r_X1_makePlan_75, r_X1_makePlan_76, r_X1_makePlan_77, r_X1_makePlan_78, r_X1_makePlan_79, r_X1_makePlan_80, r_X1_makePlan_81, r_X1_makePlan_84, r_X1_makePlan_85, r_X1_makePlan_86, r_X1_makePlan_89, r_X1_makePlan_90, r_X1_makePlan_93, r_X1_makePlan_94, r_X1_makePlan_97, r_X1_makePlan_98, r_X1_makePlan_101, r_X1_makePlan_102]
  by_cases q : fH h H n = true
  · rw [if_pos q, if_neg (by decide), c_hasRing (σ := ex_sF (ex_sF σ 110 0) 111 (nI H)) hw]
    simp only [Option.toList, List.cons_append, List.nil_append, r_X1_makePlan_0, r_X1_makePlan_1, r_X1_makePlan_2, r_X1_makePlan_5, r_X1_makePlan_6, r_X1_makePlan_7, r_X1_makePlan_10, r_X1_makePlan_11, r_X1_makePlan_14, r_X1_makePlan_17, r_X1_makePlan_18, r_X1_makePlan_21, r_X1_makePlan_22, r_X1_makePlan_25, r_X1_makePlan_28, r_X1_makePlan_29, r_X1_makePlan_30, r_X1_makePlan_31, r_X1_makePlan_32, r_X1_makePlan_35, r_X1_makePlan_36, r_X1_makePlan_39, r_X1_makePlan_40, r_X1_makePlan_43, r_X1_makePlan_44, r_X1_makePlan_47, r_X1_makePlan_48, r_X1_makePlan_51, r_X1_makePlan_52, r_X1_makePlan_55, r_X1_makePlan_56, r_X1_makePlan_59, r_X1_makePlan_61, r_X1_makePlan_64, r_X1_makePlan_65, r_X1_makePlan_67, r_X1_makePlan_70, r_X1_makePlan_71, r_X1_makePlan_72, r_X1_makePlan_75, r_X1_makePlan_76, r_X1_makePlan_77, r_X1_makePlan_78, r_X1_makePlan_79, r_X1_makePlan_80, r_X1_makePlan_81, r_X1_makePlan_84, r_X1_makePlan_85, r_X1_makePlan_86, r_X1_makePlan_89, r_X1_makePlan_90, r_X1_makePlan_93, r_X1_makePlan_94, r_X1_makePlan_97, r_X1_makePlan_98, r_X1_makePlan_101, r_X1_makePlan_102]
    rcases hbad with hb | hb
    · rw [hb] at q
      cases q
    · rw [if_pos hb, if_neg (by decide)]
  · rw [if_neg q, if_pos rfl]
theorem c_makePlan {d : Nat} {σ : ex_S} {E : ex_O → ex_S → Prop} (hw : wk_at σ n ha al) (hs : wS σ n t h wt) (hH : H ≤ 8) (hfit : fH h H n = true) (hring : wk_kb ha al (tb th) n n (2 ^ n - 1) = false) (hS : xOpt n H t h wt (wk_nb ha al (tb th)) S) (hK : xK σ) (hE : ∀ τ, pF σ τ → τ.1 110 = 1 → xK τ → (∀ w, w < n → τ.2.2.1 15 w = nI (S w)) → E (.inl (some (.int (nI (pl_A n t wt (2 ^ n - 1) S) + wk_co (σ.2.2.1 30) th n)))) τ) : ex_C (d + n + 5) 10 [.ref 1, .int (nI H), .int th] σ E := by
  have hn := hw.1
  have hnr : noRing (wk_nb ha al (tb th)) n := by
    rintro ⟨a, l, h1, h2⟩
    have := (wk_hasRing_iff (ha := ha) (al := al) (T := tb th) (fun a ha2 => wk_nb_lt hw (by omega))).mpr ⟨a, l, h1, h2⟩
    rw [hring] at this
    cases this
  simp only [r_X1_makePlan, r_X1_makePlan_0, r_X1_makePlan_1, r_X1_makePlan_2, r_X1_makePlan_5, r_X1_makePlan_6, r_X1_makePlan_7, r_X1_makePlan_10, r_X1_makePlan_11, r_X1_makePlan_14, r_X1_makePlan_17, r_X1_makePlan_18, r_X1_makePlan_21, r_X1_makePlan_22, r_X1_makePlan_25, r_X1_makePlan_28, r_X1_makePlan_29, r_X1_makePlan_30, r_X1_makePlan_31, r_X1_makePlan_32, r_X1_makePlan_35, r_X1_makePlan_36, r_X1_makePlan_39, r_X1_makePlan_40, r_X1_makePlan_43, r_X1_makePlan_44, r_X1_makePlan_47, r_X1_makePlan_48, r_X1_makePlan_51, r_X1_makePlan_52, r_X1_makePlan_55, r_X1_makePlan_56, r_X1_makePlan_59, r_X1_makePlan_61, r_X1_makePlan_64, r_X1_makePlan_65, r_X1_makePlan_67, r_X1_makePlan_70, r_X1_makePlan_71, r_X1_makePlan_72, r_X1_makePlan_75, r_X1_makePlan_76, r_X1_makePlan_77, r_X1_makePlan_78, r_X1_makePlan_79, r_X1_makePlan_80, r_X1_makePlan_81, r_X1_makePlan_84, r_X1_makePlan_85, r_X1_makePlan_86, r_X1_makePlan_89, r_X1_makePlan_90, r_X1_makePlan_93, r_X1_makePlan_94, r_X1_makePlan_97, r_X1_makePlan_98, r_X1_makePlan_101, r_X1_makePlan_102, tl_b0, true_and]
  rw [c_fitsHands (σ := ex_sF (ex_sF σ 110 0) 111 (nI H)) (n := n) (H := H) (h := h) hn hw.2.1 rfl (by omega) (fun w hw2 => ⟨(hs w hw2).2.1, by have := (hs w hw2).2.2.2.2.2.1; omega⟩)]
  simp only [Option.toList, List.cons_append, List.nil_append, r_X1_makePlan_0, r_X1_makePlan_1, r_X1_makePlan_2, r_X1_makePlan_5, r_X1_makePlan_6, r_X1_makePlan_7, r_X1_makePlan_10, r_X1_makePlan_11, r_X1_makePlan_14, r_X1_makePlan_17, r_X1_makePlan_18, r_X1_makePlan_21, r_X1_makePlan_22, r_X1_makePlan_25, r_X1_makePlan_28, r_X1_makePlan_29, r_X1_makePlan_30, r_X1_makePlan_31, r_X1_makePlan_32, r_X1_makePlan_35, r_X1_makePlan_36, r_X1_makePlan_39, r_X1_makePlan_40, r_X1_makePlan_43, r_X1_makePlan_44, r_X1_makePlan_47, r_X1_makePlan_48, r_X1_makePlan_51, r_X1_makePlan_52, r_X1_makePlan_55, r_X1_makePlan_56, r_X1_makePlan_59, r_X1_makePlan_61, r_X1_makePlan_64, r_X1_makePlan_65, r_X1_makePlan_67, r_X1_makePlan_70, r_X1_makePlan_71, r_X1_makePlan_72, r_X1_makePlan_75, r_X1_makePlan_76, r_X1_makePlan_77, r_X1_makePlan_78, r_X1_makePlan_79, r_X1_makePlan_80, r_X1_makePlan_81, r_X1_makePlan_84, r_X1_makePlan_85, r_X1_makePlan_86, r_X1_makePlan_89, r_X1_makePlan_90, r_X1_makePlan_93, r_X1_makePlan_94, r_X1_makePlan_97, r_X1_makePlan_98, r_X1_makePlan_101, r_X1_makePlan_102]
  rw [if_pos hfit, if_neg (by decide), c_hasRing (σ := ex_sF (ex_sF σ 110 0) 111 (nI H)) hw]
  simp only [Option.toList, List.cons_append, List.nil_append, r_X1_makePlan_0, r_X1_makePlan_1, r_X1_makePlan_2, r_X1_makePlan_5, r_X1_makePlan_6, r_X1_makePlan_7, r_X1_makePlan_10, r_X1_makePlan_11, r_X1_makePlan_14, r_X1_makePlan_17, r_X1_makePlan_18, r_X1_makePlan_21, r_X1_makePlan_22, r_X1_makePlan_25, r_X1_makePlan_28, r_X1_makePlan_29, r_X1_makePlan_30, r_X1_makePlan_31, r_X1_makePlan_32, r_X1_makePlan_35, r_X1_makePlan_36, r_X1_makePlan_39, r_X1_makePlan_40, r_X1_makePlan_43, r_X1_makePlan_44, r_X1_makePlan_47, r_X1_makePlan_48, r_X1_makePlan_51, r_X1_makePlan_52, r_X1_makePlan_55, r_X1_makePlan_56, r_X1_makePlan_59, r_X1_makePlan_61, r_X1_makePlan_64, r_X1_makePlan_65, r_X1_makePlan_67, r_X1_makePlan_70, r_X1_makePlan_71, r_X1_makePlan_72, r_X1_makePlan_75, r_X1_makePlan_76, r_X1_makePlan_77, r_X1_makePlan_78, r_X1_makePlan_79, r_X1_makePlan_80, r_X1_makePlan_81, r_X1_makePlan_84, r_X1_makePlan_85, r_X1_makePlan_86, r_X1_makePlan_89, r_X1_makePlan_90, r_X1_makePlan_93, r_X1_makePlan_94, r_X1_makePlan_97, r_X1_makePlan_98, r_X1_makePlan_101, r_X1_makePlan_102]
  rw [if_pos (by rw [hring]; decide)]
  refine c_sortByNeed (σ := ex_sF (ex_sF σ 110 0) 111 (nI H)) (d := d + n + 2) hw hnr ?_
  intro g f od D hg hsN
  simp only [Option.toList, List.nil_append, r_X1_makePlan_0, r_X1_makePlan_1, r_X1_makePlan_2, r_X1_makePlan_5, r_X1_makePlan_6, r_X1_makePlan_7, r_X1_makePlan_10, r_X1_makePlan_11, r_X1_makePlan_14, r_X1_makePlan_17, r_X1_makePlan_18, r_X1_makePlan_21, r_X1_makePlan_22, r_X1_makePlan_25, r_X1_makePlan_28, r_X1_makePlan_29, r_X1_makePlan_30, r_X1_makePlan_31, r_X1_makePlan_32, r_X1_makePlan_35, r_X1_makePlan_36, r_X1_makePlan_39, r_X1_makePlan_40, r_X1_makePlan_43, r_X1_makePlan_44, r_X1_makePlan_47, r_X1_makePlan_48, r_X1_makePlan_51, r_X1_makePlan_52, r_X1_makePlan_55, r_X1_makePlan_56, r_X1_makePlan_59, r_X1_makePlan_61, r_X1_makePlan_64, r_X1_makePlan_65, r_X1_makePlan_67, r_X1_makePlan_70, r_X1_makePlan_71, r_X1_makePlan_72, r_X1_makePlan_75, r_X1_makePlan_76, r_X1_makePlan_77, r_X1_makePlan_78, r_X1_makePlan_79, r_X1_makePlan_80, r_X1_makePlan_81, r_X1_makePlan_84, r_X1_makePlan_85, r_X1_makePlan_86, r_X1_makePlan_89, r_X1_makePlan_90, r_X1_makePlan_93, r_X1_makePlan_94, r_X1_makePlan_97, r_X1_makePlan_98, r_X1_makePlan_101, r_X1_makePlan_102]
  refine c_sortByWorth (σ := nz (ex_sF (ex_sF σ 110 0) 111 (nI H)) g f) (d := d + n + 2) hn hw.2.1 ?_
  intro f9 bw hsW
  simp only [Option.toList, List.nil_append, r_X1_makePlan_0, r_X1_makePlan_1, r_X1_makePlan_2, r_X1_makePlan_5, r_X1_makePlan_6, r_X1_makePlan_7, r_X1_makePlan_10, r_X1_makePlan_11, r_X1_makePlan_14, r_X1_makePlan_17, r_X1_makePlan_18, r_X1_makePlan_21, r_X1_makePlan_22, r_X1_makePlan_25, r_X1_makePlan_28, r_X1_makePlan_29, r_X1_makePlan_30, r_X1_makePlan_31, r_X1_makePlan_32, r_X1_makePlan_35, r_X1_makePlan_36, r_X1_makePlan_39, r_X1_makePlan_40, r_X1_makePlan_43, r_X1_makePlan_44, r_X1_makePlan_47, r_X1_makePlan_48, r_X1_makePlan_51, r_X1_makePlan_52, r_X1_makePlan_55, r_X1_makePlan_56, r_X1_makePlan_59, r_X1_makePlan_61, r_X1_makePlan_64, r_X1_makePlan_65, r_X1_makePlan_67, r_X1_makePlan_70, r_X1_makePlan_71, r_X1_makePlan_72, r_X1_makePlan_75, r_X1_makePlan_76, r_X1_makePlan_77, r_X1_makePlan_78, r_X1_makePlan_79, r_X1_makePlan_80, r_X1_makePlan_81, r_X1_makePlan_84, r_X1_makePlan_85, r_X1_makePlan_86, r_X1_makePlan_89, r_X1_makePlan_90, r_X1_makePlan_93, r_X1_makePlan_94, r_X1_makePlan_97, r_X1_makePlan_98, r_X1_makePlan_101, r_X1_makePlan_102]
  rw [c_fill_10]
  simp only [Option.toList, List.nil_append, r_X1_makePlan_0, r_X1_makePlan_1, r_X1_makePlan_2, r_X1_makePlan_5, r_X1_makePlan_6, r_X1_makePlan_7, r_X1_makePlan_10, r_X1_makePlan_11, r_X1_makePlan_14, r_X1_makePlan_17, r_X1_makePlan_18, r_X1_makePlan_21, r_X1_makePlan_22, r_X1_makePlan_25, r_X1_makePlan_28, r_X1_makePlan_29, r_X1_makePlan_30, r_X1_makePlan_31, r_X1_makePlan_32, r_X1_makePlan_35, r_X1_makePlan_36, r_X1_makePlan_39, r_X1_makePlan_40, r_X1_makePlan_43, r_X1_makePlan_44, r_X1_makePlan_47, r_X1_makePlan_48, r_X1_makePlan_51, r_X1_makePlan_52, r_X1_makePlan_55, r_X1_makePlan_56, r_X1_makePlan_59, r_X1_makePlan_61, r_X1_makePlan_64, r_X1_makePlan_65, r_X1_makePlan_67, r_X1_makePlan_70, r_X1_makePlan_71, r_X1_makePlan_72, r_X1_makePlan_75, r_X1_makePlan_76, r_X1_makePlan_77, r_X1_makePlan_78, r_X1_makePlan_79, r_X1_makePlan_80, r_X1_makePlan_81, r_X1_makePlan_84, r_X1_makePlan_85, r_X1_makePlan_86, r_X1_makePlan_89, r_X1_makePlan_90, r_X1_makePlan_93, r_X1_makePlan_94, r_X1_makePlan_97, r_X1_makePlan_98, r_X1_makePlan_101, r_X1_makePlan_102]
  rw [c_fill_12]
  simp only [Option.toList, List.nil_append, r_X1_makePlan_0, r_X1_makePlan_1, r_X1_makePlan_2, r_X1_makePlan_5, r_X1_makePlan_6, r_X1_makePlan_7, r_X1_makePlan_10, r_X1_makePlan_11, r_X1_makePlan_14, r_X1_makePlan_17, r_X1_makePlan_18, r_X1_makePlan_21, r_X1_makePlan_22, r_X1_makePlan_25, r_X1_makePlan_28, r_X1_makePlan_29, r_X1_makePlan_30, r_X1_makePlan_31, r_X1_makePlan_32, r_X1_makePlan_35, r_X1_makePlan_36, r_X1_makePlan_39, r_X1_makePlan_40, r_X1_makePlan_43, r_X1_makePlan_44, r_X1_makePlan_47, r_X1_makePlan_48, r_X1_makePlan_51, r_X1_makePlan_52, r_X1_makePlan_55, r_X1_makePlan_56, r_X1_makePlan_59, r_X1_makePlan_61, r_X1_makePlan_64, r_X1_makePlan_65, r_X1_makePlan_67, r_X1_makePlan_70, r_X1_makePlan_71, r_X1_makePlan_72, r_X1_makePlan_75, r_X1_makePlan_76, r_X1_makePlan_77, r_X1_makePlan_78, r_X1_makePlan_79, r_X1_makePlan_80, r_X1_makePlan_81, r_X1_makePlan_84, r_X1_makePlan_85, r_X1_makePlan_86, r_X1_makePlan_89, r_X1_makePlan_90, r_X1_makePlan_93, r_X1_makePlan_94, r_X1_makePlan_97, r_X1_makePlan_98, r_X1_makePlan_101, r_X1_makePlan_102]
  rw [c_fill_13]
  simp only [Option.toList, List.nil_append, r_X1_makePlan_0, r_X1_makePlan_1, r_X1_makePlan_2, r_X1_makePlan_5, r_X1_makePlan_6, r_X1_makePlan_7, r_X1_makePlan_10, r_X1_makePlan_11, r_X1_makePlan_14, r_X1_makePlan_17, r_X1_makePlan_18, r_X1_makePlan_21, r_X1_makePlan_22, r_X1_makePlan_25, r_X1_makePlan_28, r_X1_makePlan_29, r_X1_makePlan_30, r_X1_makePlan_31, r_X1_makePlan_32, r_X1_makePlan_35, r_X1_makePlan_36, r_X1_makePlan_39, r_X1_makePlan_40, r_X1_makePlan_43, r_X1_makePlan_44, r_X1_makePlan_47, r_X1_makePlan_48, r_X1_makePlan_51, r_X1_makePlan_52, r_X1_makePlan_55, r_X1_makePlan_56, r_X1_makePlan_59, r_X1_makePlan_61, r_X1_makePlan_64, r_X1_makePlan_65, r_X1_makePlan_67, r_X1_makePlan_70, r_X1_makePlan_71, r_X1_makePlan_72, r_X1_makePlan_75, r_X1_makePlan_76, r_X1_makePlan_77, r_X1_makePlan_78, r_X1_makePlan_79, r_X1_makePlan_80, r_X1_makePlan_81, r_X1_makePlan_84, r_X1_makePlan_85, r_X1_makePlan_86, r_X1_makePlan_89, r_X1_makePlan_90, r_X1_makePlan_93, r_X1_makePlan_94, r_X1_makePlan_97, r_X1_makePlan_98, r_X1_makePlan_101, r_X1_makePlan_102]
  generalize hA1 : fi ((ex_row (nz (ex_sF (ex_sF σ 110 0) 111 (nI H)) g f) 9 f9).2.2.1 10) 0 97 = a1
  have hA1v : ∀ x, x < 96 → a1 x = nI 0 := fun x hx => by
    rw [← hA1, fi_val, if_pos (by omega)]
    rfl
  generalize hA2 : fi ((ex_row (ex_row (nz (ex_sF (ex_sF σ 110 0) 111 (nI H)) g f) 9 f9) 10 a1).2.2.1 12) 0 72 = a2
  generalize hA3 : fi ((ex_row (ex_row (ex_row (nz (ex_sF (ex_sF σ 110 0) 111 (nI H)) g f) 9 f9) 10 a1) 12 a2).2.2.1 13) 1000000 256 = a3
  have hA3v : ∀ q, q < 256 → a3 q = nI 1000000 := fun q hq => by
    rw [← hA3, fi_val, if_pos hq]
    rfl
  generalize hσ3 : ex_sG (ex_sF (ex_row (ex_row (ex_row (ex_row (nz (ex_sF (ex_sF σ 110 0) 111 (nI H)) g f) 9 f9) 10 a1) 12 a2) 13 a3) 112 1000000) 113 0 = σ3
  have hp8 := tl_p8 hn
  have z0 : ∀ w, (0 : Nat).testBit w = true → False := fun w q => by
    rw [Nat.zero_testBit] at q
    cases q
  have s1 : ∀ j, j ≠ 110 → j ≠ 111 → j ≠ 112 → σ3.1 j = σ.1 j := fun j a b c => by
    rw [← hσ3]
    show (if j = 112 then (1000000 : Int32) else if j = 111 then nI H else if j = 110 then (0 : Int32) else σ.1 j) = σ.1 j
    rw [if_neg c, if_neg b, if_neg a]
  have s2 : ∀ j, j ≠ 113 → σ3.2.1 j = σ.2.1 j := fun j a => by
    rw [← hσ3]
    show (if j = 113 then (0 : Int64) else σ.2.1 j) = σ.2.1 j
    rw [if_neg a]
  have s3 : ∀ r, r ≠ 7 → r ≠ 8 → r ≠ 9 → r ≠ 10 → r ≠ 12 → r ≠ 13 → σ3.2.2.1 r = σ.2.2.1 r := fun r a b c e1 e2 e3 => by
    rw [← hσ3]
    show (if r = 13 then a3 else if r = 12 then a2 else if r = 10 then a1 else if r = 9 then f9 else if r = 7 then g else if r = 8 then f else σ.2.2.1 r) = σ.2.2.1 r
    rw [if_neg e3, if_neg e2, if_neg e1, if_neg c, if_neg a, if_neg b]
  have s4 : σ3.2.2.2 = σ.2.2.2 := by rw [← hσ3]; rfl
  have r7 : σ3.2.2.1 7 = g := by rw [← hσ3]; rfl
  have r8 : σ3.2.2.1 8 = f := by rw [← hσ3]; rfl
  have r9 : σ3.2.2.1 9 = f9 := by rw [← hσ3]; rfl
  have r10 : σ3.2.2.1 10 = a1 := by rw [← hσ3]; rfl
  have r13 : σ3.2.2.1 13 = a3 := by rw [← hσ3]; rfl
  have i111 : σ3.1 111 = nI H := by rw [← hσ3]; rfl
  have i112 : σ3.1 112 = nI 1000000 := by rw [← hσ3]; rfl
  have l113 : σ3.2.1 113 = lN 0 := by rw [← hσ3]; rfl
  have i306 : σ3.1 306 = nI n := by rw [s1 306 (by decide) (by decide) (by decide)]; exact hw.2.1
  have hx : xS σ3 n H t h wt (wk_nb ha al (tb th)) od bw := by
    refine ⟨hn, hH, i306, i111, fun w hw2 => ?_, fun i hi => ?_, fun w hw2 => ⟨?_, hsW.2 w hw2⟩, hsN.2.2.2.2.1, hsN.2.2.2.2.2⟩
    · have q := hs w hw2
      rw [s3 27 (by decide) (by decide) (by decide) (by decide) (by decide) (by decide), s3 28 (by decide) (by decide) (by decide) (by decide) (by decide) (by decide), s3 29 (by decide) (by decide) (by decide) (by decide) (by decide) (by decide), r7]
      exact ⟨q.1, q.2.1, q.2.2.1, hg w hw2, q.2.2.2.1, q.2.2.2.2.1, fH_iff.mp hfit w hw2, q.2.2.2.2.2.2, wk_nb_lt hw (by omega)⟩
    · rw [r8, r9]
      exact ⟨(hsN.2.2.1 i hi).1, (hsN.2.2.1 i hi).2, (hsW.1 i hi).1, (hsW.1 i hi).2⟩
    · exact (hsN.2.2.2.1 w).mp (tl_ct_full hsN.2.1 w hw2)
  have pA0 : pl_A n t wt 0 (fun _ => 0) = 0 := by
    have : pl_A n t wt 0 (fun _ => 0) = pl_s (fun _ => 0) n := pl_s_congr (fun i _ => by simp)
    rw [this, pl_s_zero]
  have pK0 : pl_K n 0 (fun _ => 0) = 0 := by
    have : pl_K n 0 (fun _ => 0) = pl_s (fun _ => 0) n := pl_s_congr (fun i _ => by simp)
    rw [this, pl_s_zero]
  have pu0 : ∀ x, pl_u n t h 0 (fun _ => 0) x = 0 := fun x => by
    have : pl_u n t h 0 (fun _ => 0) x = pl_s (fun _ => 0) n := pl_s_congr (fun i _ => by simp)
    rw [this, pl_s_zero]
  have pc0 : tl_ct (fun i => Nat.testBit 0 i) n = 0 := by
    have : ∀ m, tl_ct (fun i => Nat.testBit 0 i) m = 0 := by
      intro m
      induction m with
      | zero => rfl
      | succ m ih => rw [tl_ct, ih]; simp
    exact this n
  have hexp := c_explore (d := d) (od := od) (bw := bw) (t := t) (h := h) (wt := wt) (N := wk_nb ha al (tb th)) (H := H) hS n 0 0 0 (-1) (fun _ => 0) (fun _ => 0) σ3 (fun o σ => match o with | .inl v => ex_r none (d + n + 4) ex_m_X1_makePlan E 84 [.ref 1, .int (nI H), .int th] (v.toList ++ []) σ 0 | .inr x => E (.inr x) σ) (by omega) hx ⟨Nat.two_pow_pos n, ⟨fun w v _ q => absurd q (fun q => z0 w q), fun x => by rw [pu0 x]; exact Nat.zero_le _⟩, fun w _ q => absurd q (fun q => z0 w q), by decide, fun x hx => by rw [r10, pu0 x]; exact hA1v x hx, pc0⟩ (Or.inl ⟨rfl, rfl, rfl⟩) (fun i _ _ => ⟨fun _ => rfl, fun q => absurd q (by omega), Nat.zero_le _⟩) (fun q hq => Or.inl (by rw [r13]; exact hA3v q (by omega))) (fun q hq => by rw [s4]; exact hK q hq) (Or.inl ⟨i112, l113⟩)
  rw [pA0, pK0] at hexp
  apply hexp
  intro ρ hO hPre
  obtain ⟨c, hc, hV⟩ := hPre ⟨fun w _ q => absurd q (fun q => z0 w q), fun v u _ _ q => absurd q (fun q => z0 v q), fun w _ _ => Nat.zero_le _⟩
  have hVe : pl_V n t wt (2 ^ n - 1) S = pl_V n t wt (2 ^ n - 1) c := Nat.le_antisymm (hS.2.1 c hc.1) hV
  obtain ⟨hAe, hce⟩ := pl_one hn hS.2.2 hc.2.1 hVe
  have o1 := hO.1
  have i306r : ρ.1 306 = nI n := by rw [o1.1 306 (by decide) (by decide) (by decide) (by decide)]; exact i306
  simp only [Option.toList, List.nil_append, r_X1_makePlan_0, r_X1_makePlan_1, r_X1_makePlan_2, r_X1_makePlan_5, r_X1_makePlan_6, r_X1_makePlan_7, r_X1_makePlan_10, r_X1_makePlan_11, r_X1_makePlan_14, r_X1_makePlan_17, r_X1_makePlan_18, r_X1_makePlan_21, r_X1_makePlan_22, r_X1_makePlan_25, r_X1_makePlan_28, r_X1_makePlan_29, r_X1_makePlan_30, r_X1_makePlan_31, r_X1_makePlan_32, r_X1_makePlan_35, r_X1_makePlan_36, r_X1_makePlan_39, r_X1_makePlan_40, r_X1_makePlan_43, r_X1_makePlan_44, r_X1_makePlan_47, r_X1_makePlan_48, r_X1_makePlan_51, r_X1_makePlan_52, r_X1_makePlan_55, r_X1_makePlan_56, r_X1_makePlan_59, r_X1_makePlan_61, r_X1_makePlan_64, r_X1_makePlan_65, r_X1_makePlan_67, r_X1_makePlan_70, r_X1_makePlan_71, r_X1_makePlan_72, r_X1_makePlan_75, r_X1_makePlan_76, r_X1_makePlan_77, r_X1_makePlan_78, r_X1_makePlan_79, r_X1_makePlan_80, r_X1_makePlan_81, r_X1_makePlan_84, r_X1_makePlan_85, r_X1_makePlan_86, r_X1_makePlan_89, r_X1_makePlan_90, r_X1_makePlan_93, r_X1_makePlan_94, r_X1_makePlan_97, r_X1_makePlan_98, r_X1_makePlan_101, r_X1_makePlan_102, tl_b1, true_and]
  rw [c_costOf (σ := ex_sF ρ 110 1) hn i306r]
  simp only [Option.toList, List.cons_append, List.nil_append, r_X1_makePlan_0, r_X1_makePlan_1, r_X1_makePlan_2, r_X1_makePlan_5, r_X1_makePlan_6, r_X1_makePlan_7, r_X1_makePlan_10, r_X1_makePlan_11, r_X1_makePlan_14, r_X1_makePlan_17, r_X1_makePlan_18, r_X1_makePlan_21, r_X1_makePlan_22, r_X1_makePlan_25, r_X1_makePlan_28, r_X1_makePlan_29, r_X1_makePlan_30, r_X1_makePlan_31, r_X1_makePlan_32, r_X1_makePlan_35, r_X1_makePlan_36, r_X1_makePlan_39, r_X1_makePlan_40, r_X1_makePlan_43, r_X1_makePlan_44, r_X1_makePlan_47, r_X1_makePlan_48, r_X1_makePlan_51, r_X1_makePlan_52, r_X1_makePlan_55, r_X1_makePlan_56, r_X1_makePlan_59, r_X1_makePlan_61, r_X1_makePlan_64, r_X1_makePlan_65, r_X1_makePlan_67, r_X1_makePlan_70, r_X1_makePlan_71, r_X1_makePlan_72, r_X1_makePlan_75, r_X1_makePlan_76, r_X1_makePlan_77, r_X1_makePlan_78, r_X1_makePlan_79, r_X1_makePlan_80, r_X1_makePlan_81, r_X1_makePlan_84, r_X1_makePlan_85, r_X1_makePlan_86, r_X1_makePlan_89, r_X1_makePlan_90, r_X1_makePlan_93, r_X1_makePlan_94, r_X1_makePlan_97, r_X1_makePlan_98, r_X1_makePlan_101, r_X1_makePlan_102]
  rw [show (ex_sF ρ 110 1).1 112 = nI (pl_A n t wt (2 ^ n - 1) S) by rw [hAe]; exact hc.2.2.1, show (ex_sF ρ 110 1).2.2.1 30 = σ.2.2.1 30 by
    show ρ.2.2.1 30 = σ.2.2.1 30
    rw [o1.2.2.1 30 (by decide) (by decide) (by decide) (by decide) (by decide), s3 30 (by decide) (by decide) (by decide) (by decide) (by decide) (by decide)]]
  apply hE
  · refine ⟨fun j a1 a2 a3 a4 a5 a6 => ?_, fun j a1 a2 => ?_, fun r a1 a2 a3 a4 a5 a6 a7 a8 => ?_, fun r a1 => ?_⟩
    · rw [s_f1, if_neg a1, o1.1 j a3 a4 a5 a6]
      exact s1 j a1 a2 a3
    · show ρ.2.1 j = σ.2.1 j
      rw [o1.2.1 j a1 a2]
      exact s2 j a1
    · show ρ.2.2.1 r = σ.2.2.1 r
      rw [o1.2.2.1 r a4 a5 a6 a7 a8]
      exact s3 r a1 a2 a3 a4 a6 a7
    · show ρ.2.2.2 r = σ.2.2.2 r
      rw [o1.2.2.2 r a1, s4]
  · rfl
  · exact hO.2.2.2.2.2.1
  · intro w hw2
    show ρ.2.2.1 15 w = nI (S w)
    rw [hc.2.2.2.2 w hw2, hce w hw2]
end PH
