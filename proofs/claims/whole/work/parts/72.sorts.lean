/-! ===== the class's planner: orders ===== -/
section PG
def nz (σ : ex_S) (g f : Nat → Int32) : ex_S := (σ.1, σ.2.1, fun r => if r = 7 then g else if r = 8 then f else σ.2.2.1 r, σ.2.2.2)
theorem nz_self (σ : ex_S) : nz σ (σ.2.2.1 7) (σ.2.2.1 8) = σ := by
  refine Prod.ext rfl (Prod.ext rfl (Prod.ext ?_ rfl))
  funext r
  show (if r = 7 then σ.2.2.1 7 else if r = 8 then σ.2.2.1 8 else σ.2.2.1 r) = σ.2.2.1 r
  by_cases h1 : r = 7
  · rw [if_pos h1, h1]
  · rw [if_neg h1]
    by_cases h2 : r = 8
    · rw [if_pos h2, h2]
    · rw [if_neg h2]
theorem nz_7 (σ : ex_S) (g f : Nat → Int32) (i : Nat) (v : Int32) : ex_sA (nz σ g f) 7 i v = nz σ (upd g i v) f := by
  refine Prod.ext rfl (Prod.ext rfl (Prod.ext ?_ rfl))
  funext r
  show (if r = 7 then upd g i v else if r = 7 then g else if r = 8 then f else σ.2.2.1 r) = (if r = 7 then upd g i v else if r = 8 then f else σ.2.2.1 r)
  by_cases h1 : r = 7 <;> simp [h1]
theorem nz_8 (σ : ex_S) (g f : Nat → Int32) (i : Nat) (v : Int32) : ex_sA (nz σ g f) 8 i v = nz σ g (upd f i v) := by
  refine Prod.ext rfl (Prod.ext rfl (Prod.ext ?_ rfl))
  funext r
  show (if r = 8 then upd f i v else if r = 7 then g else if r = 8 then f else σ.2.2.1 r) = (if r = 7 then g else if r = 8 then upd f i v else σ.2.2.1 r)
  by_cases h1 : r = 8 <;> simp [h1]
theorem nz_1 (σ : ex_S) (g f : Nat → Int32) : (nz σ g f).1 = σ.1 := rfl
theorem nz_3 (σ : ex_S) (g f : Nat → Int32) (r : Nat) : (nz σ g f).2.2.1 r = if r = 7 then g else if r = 8 then f else σ.2.2.1 r := rfl
/-- what is sorted so far -/
def sN (n : Nat) (N : Nat → Nat) (k D : Nat) (od : Nat → Nat) (f : Nat → Int32) : Prop := D < 2 ^ n ∧ tl_ct (fun i => D.testBit i) n = k ∧ (∀ j, j < k → f j = nI (od j) ∧ od j < n) ∧ (∀ x, D.testBit x = true ↔ ∃ j, j < k ∧ od j = x) ∧ (∀ i j, i < k → j < k → od i = od j → i = j) ∧ ∀ i v, i < k → (N (od i)).testBit v = true → ∃ j, j < i ∧ od j = v
theorem c_sortByNeed {d : Nat} {E : ex_O → ex_S → Prop} {σ : ex_S} {n : Nat} {th : Int32} {ha al : Nat → Nat} (h : wk_at σ n ha al) (hr : noRing (wk_nb ha al (tb th)) n) (hE : ∀ (g f : Nat → Int32) (od : Nat → Nat) (D : Nat), (∀ w, w < n → g w = nI (wk_nb ha al (tb th) w)) → sN n (wk_nb ha al (tb th)) n D od f → E (.inl none) (nz σ g f)) : ex_C (d + 2) 12 [.ref 1, .int th] σ E := by
  have hn := h.1
  have h8 := tl_p8 hn
  generalize hNd : wk_nb ha al (tb th) = N at *
  have hNn : ∀ w, w < n → N w < 2 ^ n := fun w hw => by rw [← hNd]; exact wk_nb_lt h (by omega)
  simp only [r_X1_sortByNeed, r_X1_sortByNeed_0, r_X1_sortByNeed_1, r_X1_sortByNeed_2, r_X1_sortByNeed_3, r_X1_sortByNeed_4, r_X1_sortByNeed_5, r_X1_sortByNeed_9, r_X1_sortByNeed_10, r_X1_sortByNeed_13, r_X1_sortByNeed_16, r_X1_sortByNeed_19, r_X1_sortByNeed_20, r_X1_sortByNeed_24, r_X1_sortByNeed_25, r_X1_sortByNeed_28, r_X1_sortByNeed_31, r_X1_sortByNeed_34, r_X1_sortByNeed_35, r_X1_sortByNeed_38, r_X1_sortByNeed_40, r_X1_sortByNeed_41, r_X1_sortByNeed_44, r_X1_sortByNeed_46, r_X1_sortByNeed_47, r_X1_sortByNeed_50, r_X1_sortByNeed_51, r_X1_sortByNeed_52, r_X1_sortByNeed_54, r_X1_sortByNeed_55, r_X1_sortByNeed_56, r_X1_sortByNeed_57, r_X1_sortByNeed_60, r_X1_sortByNeed_61, r_X1_sortByNeed_64, r_X1_sortByNeed_66, r_X1_sortByNeed_67, r_X1_sortByNeed_68, r_X1_sortByNeed_69, r_X1_sortByNeed_70, r_X1_sortByNeed_71, r_X1_sortByNeed_74, r_X1_sortByNeed_75, r_X1_sortByNeed_77, r_X1_sortByNeed_80, r_X1_sortByNeed_81, r_X1_sortByNeed_84, r_X1_sortByNeed_85, r_X1_sortByNeed_87, r_X1_sortByNeed_88, r_X1_sortByNeed_91, r_X1_sortByNeed_92, r_X1_sortByNeed_93, r_X1_sortByNeed_95, r_X1_sortByNeed_96, r_X1_sortByNeed_97, r_X1_sortByNeed_98, r_X1_sortByNeed_101, r_X1_sortByNeed_104, r_X1_sortByNeed_107, r_X1_sortByNeed_110]
  have hloop := tl_fori (τ := Nat × Nat × (Nat → Nat) × (Nat → Int32) × (Nat → Int32) × Value)
    (I := fun i z => sN n N z.1 z.2.1 z.2.2.1 z.2.2.2.2.1 ∧ i ≤ z.1 ∧ (0 < i → ∀ w, w < n → z.2.2.2.1 w = nI (N w)))
    (A := fun i z => ex_r none (d + 1) ex_m_X1_sortByNeed E 7 [.ref 1, .int th, .int (nI z.1), .int (nI z.2.1), .int (nI i), z.2.2.2.2.2] [] (nz σ z.2.2.2.1 z.2.2.2.2.1) 0) (n := n) ?_ ?_
  · have := hloop (0, 0, fun _ => 0, σ.2.2.1 7, σ.2.2.1 8, .retAddr 0) ⟨⟨Nat.two_pow_pos n, ?_, fun j hj => absurd hj (by omega), fun x => ?_, fun i j hi => absurd hi (by omega), fun i v hi => absurd hi (by omega)⟩, Nat.le_refl 0, fun hlt => absurd hlt (by omega)⟩
    · simp only [nz_self] at this
      exact this
    · have : ∀ m, tl_ct (fun i => Nat.testBit 0 i) m = 0 := by
        intro m
        induction m with
        | zero => rfl
        | succ m ih => rw [tl_ct, ih]; simp
      exact this n
    · rw [Nat.zero_testBit]
      constructor
      · intro q
        cases q
      · rintro ⟨j, hj, _⟩
        omega
  · rintro i hi ⟨k, D, od, g, f, z5⟩ ⟨i1, i2, i3⟩ hnext
    simp only at i1 i2 i3 hnext ⊢
    simp only [r_X1_sortByNeed_7]
    simp only [r_X1_sortByNeed_0, r_X1_sortByNeed_1, r_X1_sortByNeed_2, r_X1_sortByNeed_3, r_X1_sortByNeed_4, r_X1_sortByNeed_5, r_X1_sortByNeed_9, r_X1_sortByNeed_10, r_X1_sortByNeed_13, r_X1_sortByNeed_16, r_X1_sortByNeed_19, r_X1_sortByNeed_20, r_X1_sortByNeed_24, r_X1_sortByNeed_25, r_X1_sortByNeed_28, r_X1_sortByNeed_31, r_X1_sortByNeed_34, r_X1_sortByNeed_35, r_X1_sortByNeed_38, r_X1_sortByNeed_40, r_X1_sortByNeed_41, r_X1_sortByNeed_44, r_X1_sortByNeed_46, r_X1_sortByNeed_47, r_X1_sortByNeed_50, r_X1_sortByNeed_51, r_X1_sortByNeed_52, r_X1_sortByNeed_54, r_X1_sortByNeed_55, r_X1_sortByNeed_56, r_X1_sortByNeed_57, r_X1_sortByNeed_60, r_X1_sortByNeed_61, r_X1_sortByNeed_64, r_X1_sortByNeed_66, r_X1_sortByNeed_67, r_X1_sortByNeed_68, r_X1_sortByNeed_69, r_X1_sortByNeed_70, r_X1_sortByNeed_71, r_X1_sortByNeed_74, r_X1_sortByNeed_75, r_X1_sortByNeed_77, r_X1_sortByNeed_80, r_X1_sortByNeed_81, r_X1_sortByNeed_84, r_X1_sortByNeed_85, r_X1_sortByNeed_87, r_X1_sortByNeed_88, r_X1_sortByNeed_91, r_X1_sortByNeed_92, r_X1_sortByNeed_93, r_X1_sortByNeed_95, r_X1_sortByNeed_96, r_X1_sortByNeed_97, r_X1_sortByNeed_98, r_X1_sortByNeed_101, r_X1_sortByNeed_104, r_X1_sortByNeed_107, r_X1_sortByNeed_110, nz_1, h.2.1]
    rw [if_neg (nI_ge hi (by omega))]
    have hin := tl_fori (τ := Nat × Nat × (Nat → Nat) × (Nat → Int32) × (Nat → Int32))
      (I := fun w z => sN n N z.1 z.2.1 z.2.2.1 z.2.2.2.2 ∧ k ≤ z.1 ∧ (∀ x, D.testBit x = true → z.2.1.testBit x = true) ∧ (∀ v, v < w → D.testBit v = false → (∀ x, (N v).testBit x = true → D.testBit x = true) → z.2.1.testBit v = true) ∧ ∀ v, v < w → z.2.2.2.1 v = nI (N v))
      (A := fun w z => ex_r none (d + 1) ex_m_X1_sortByNeed E 22 [.ref 1, .int th, .int (nI z.1), .int (nI z.2.1), .int (nI i), .int (nI w)] [] (nz σ z.2.2.2.1 z.2.2.2.2) 0) (n := n) ?_ ?_
    · exact hin (k, D, od, g, f) ⟨i1, Nat.le_refl k, fun x hx => hx, fun v hv => absurd hv (by omega), fun v hv => absurd hv (by omega)⟩
    · rintro w hw ⟨k2, D2, od2, g2, f2⟩ ⟨j1, j2, j3, j4, j5⟩ hnx
      simp only at j1 j2 j3 j4 j5 hnx ⊢
      obtain ⟨m1, m2, m3, m4, m5, m6⟩ := j1
      have hw8 := tl_in (show w < 8 by omega) (show 8 < 2 ^ 31 by omega)
      have hwc := tl_cl (show w < 2 ^ 31 by omega)
      have hdf := tl_df_lt (hNn w hw) D2
      have hk2 : k2 ≤ n := by
        rw [← m2]
        exact tl_ct_le _ n
      have hg2 : ∀ v, v < w + 1 → upd g2 w (nI (N w)) v = nI (N v) := by
        intro v hv
        rw [s_u]
        by_cases e : v = w
        · rw [if_pos e, e]
        · rw [if_neg e]
          exact j5 v (by omega)
      simp only [r_X1_sortByNeed_22]
      simp only [r_X1_sortByNeed_0, r_X1_sortByNeed_1, r_X1_sortByNeed_2, r_X1_sortByNeed_3, r_X1_sortByNeed_4, r_X1_sortByNeed_5, r_X1_sortByNeed_9, r_X1_sortByNeed_10, r_X1_sortByNeed_13, r_X1_sortByNeed_16, r_X1_sortByNeed_19, r_X1_sortByNeed_20, r_X1_sortByNeed_24, r_X1_sortByNeed_25, r_X1_sortByNeed_28, r_X1_sortByNeed_31, r_X1_sortByNeed_34, r_X1_sortByNeed_35, r_X1_sortByNeed_38, r_X1_sortByNeed_40, r_X1_sortByNeed_41, r_X1_sortByNeed_44, r_X1_sortByNeed_46, r_X1_sortByNeed_47, r_X1_sortByNeed_50, r_X1_sortByNeed_51, r_X1_sortByNeed_52, r_X1_sortByNeed_54, r_X1_sortByNeed_55, r_X1_sortByNeed_56, r_X1_sortByNeed_57, r_X1_sortByNeed_60, r_X1_sortByNeed_61, r_X1_sortByNeed_64, r_X1_sortByNeed_66, r_X1_sortByNeed_67, r_X1_sortByNeed_68, r_X1_sortByNeed_69, r_X1_sortByNeed_70, r_X1_sortByNeed_71, r_X1_sortByNeed_74, r_X1_sortByNeed_75, r_X1_sortByNeed_77, r_X1_sortByNeed_80, r_X1_sortByNeed_81, r_X1_sortByNeed_84, r_X1_sortByNeed_85, r_X1_sortByNeed_87, r_X1_sortByNeed_88, r_X1_sortByNeed_91, r_X1_sortByNeed_92, r_X1_sortByNeed_93, r_X1_sortByNeed_95, r_X1_sortByNeed_96, r_X1_sortByNeed_97, r_X1_sortByNeed_98, r_X1_sortByNeed_101, r_X1_sortByNeed_104, r_X1_sortByNeed_107, r_X1_sortByNeed_110, nz_1, h.2.1]
      rw [if_neg (nI_ge hw (by omega)), c_needsOf (σ := nz σ g2 f2) h (by omega), hNd]
      simp only [Option.toList, List.cons_append, List.nil_append, r_X1_sortByNeed_0, r_X1_sortByNeed_1, r_X1_sortByNeed_2, r_X1_sortByNeed_3, r_X1_sortByNeed_4, r_X1_sortByNeed_5, r_X1_sortByNeed_9, r_X1_sortByNeed_10, r_X1_sortByNeed_13, r_X1_sortByNeed_16, r_X1_sortByNeed_19, r_X1_sortByNeed_20, r_X1_sortByNeed_24, r_X1_sortByNeed_25, r_X1_sortByNeed_28, r_X1_sortByNeed_31, r_X1_sortByNeed_34, r_X1_sortByNeed_35, r_X1_sortByNeed_38, r_X1_sortByNeed_40, r_X1_sortByNeed_41, r_X1_sortByNeed_44, r_X1_sortByNeed_46, r_X1_sortByNeed_47, r_X1_sortByNeed_50, r_X1_sortByNeed_51, r_X1_sortByNeed_52, r_X1_sortByNeed_54, r_X1_sortByNeed_55, r_X1_sortByNeed_56, r_X1_sortByNeed_57, r_X1_sortByNeed_60, r_X1_sortByNeed_61, r_X1_sortByNeed_64, r_X1_sortByNeed_66, r_X1_sortByNeed_67, r_X1_sortByNeed_68, r_X1_sortByNeed_69, r_X1_sortByNeed_70, r_X1_sortByNeed_71, r_X1_sortByNeed_74, r_X1_sortByNeed_75, r_X1_sortByNeed_77, r_X1_sortByNeed_80, r_X1_sortByNeed_81, r_X1_sortByNeed_84, r_X1_sortByNeed_85, r_X1_sortByNeed_87, r_X1_sortByNeed_88, r_X1_sortByNeed_91, r_X1_sortByNeed_92, r_X1_sortByNeed_93, r_X1_sortByNeed_95, r_X1_sortByNeed_96, r_X1_sortByNeed_97, r_X1_sortByNeed_98, r_X1_sortByNeed_101, r_X1_sortByNeed_104, r_X1_sortByNeed_107, r_X1_sortByNeed_110, hw8, hwc, true_and, nz_7, nz_3, if_true, s_u, tb0, tb_nI (show D2 < 2 ^ 31 by omega) (show w < 32 by omega), tl_andnot, tl_eq0 (show tl_df (N w) D2 < 2 ^ 31 by omega), nI_1]
      by_cases q1 : D2.testBit w = false
      · rw [if_pos q1]
        by_cases q2 : tl_df (N w) D2 = 0
        · have hop := pl_open.mp q2
          have hlt : k2 < n := by
            rw [← m2]
            have := tl_ct_lt (f := fun i => D2.testBit i) (g := fun _ => true) (n := n) (fun _ _ _ => rfl) ⟨w, hw, q1, rfl⟩
            rw [tl_ct_all] at this
            exact this
          have hne : ∀ j, j < k2 → od2 j ≠ w := fun j hj e => by
            have := (m4 w).mpr ⟨j, hj, e⟩
            rw [q1] at this
            cases this
          rw [if_pos q2, if_neg (show ¬ (8 : Int32) ≤ nI k2 from nI_ge (b := 8) (by omega) (by omega))]
          simp only [tl_in (show k2 < 8 by omega) (show 8 < 2 ^ 31 by omega), tl_cl (show k2 < 2 ^ 31 by omega), true_and, nz_8, tl_shl w (by omega), tl_or]
          refine hnx (k2 + 1, D2 ||| 2 ^ w, pl_up od2 k2 w, upd g2 w (nI (N w)), upd f2 k2 (nI w)) ⟨⟨Nat.or_lt_two_pow m1 (Nat.pow_lt_pow_right (by decide) hw), ?_, fun j hj => ?_, fun x => ?_, fun a b ha hb e => ?_, fun a v ha hv => ?_⟩, by show k ≤ k2 + 1; omega, fun x hx => ?_, fun v hv h1 h2 => ?_, hg2⟩
          · rw [← m2]
            apply tl_ct_upd (k := w) _ q1 hw
            · intro x _ hxw
              show (D2 ||| 2 ^ w).testBit x = D2.testBit x
              rw [pl_ib]
              simp [Ne.symm hxw]
            · show (D2 ||| 2 ^ w).testBit w = true
              rw [pl_ib]
              simp
          · show upd f2 k2 (nI w) j = nI (pl_up od2 k2 w j) ∧ pl_up od2 k2 w j < n
            rw [s_u]
            by_cases e : j = k2
            · subst e
              rw [if_pos rfl, pl_up_at]
              exact ⟨rfl, hw⟩
            · rw [if_neg e, pl_up_ne _ _ e]
              exact m3 j (by omega)
          · show (D2 ||| 2 ^ w).testBit x = true ↔ ∃ j, j < k2 + 1 ∧ pl_up od2 k2 w j = x
            rw [pl_ib, Bool.or_eq_true, m4, decide_eq_true_iff]
            constructor
            · rintro (⟨j, hj, e⟩ | e)
              · exact ⟨j, by omega, by rw [pl_up_ne _ _ (by omega)]; exact e⟩
              · exact ⟨k2, by omega, by rw [pl_up_at]; exact e⟩
            · rintro ⟨j, hj, e⟩
              by_cases e2 : j = k2
              · rw [e2, pl_up_at] at e
                exact Or.inr e
              · rw [pl_up_ne _ _ e2] at e
                exact Or.inl ⟨j, by omega, e⟩
          · simp only at e ha hb
            by_cases e1 : a = k2
            · by_cases e2 : b = k2
              · omega
              · rw [e1, pl_up_at, pl_up_ne _ _ e2] at e
                exact absurd e.symm (hne b (by omega))
            · by_cases e2 : b = k2
              · rw [e2, pl_up_at, pl_up_ne _ _ e1] at e
                exact absurd e (hne a (by omega))
              · rw [pl_up_ne _ _ e1, pl_up_ne _ _ e2] at e
                exact m5 a b (by omega) (by omega) e
          · simp only at ha hv ⊢
            by_cases e1 : a = k2
            · rw [e1, pl_up_at] at hv
              obtain ⟨j, hj, e⟩ := (m4 v).mp (hop v hv)
              exact ⟨j, by omega, by rw [pl_up_ne _ _ (by omega)]; exact e⟩
            · rw [pl_up_ne _ _ e1] at hv
              obtain ⟨j, hj, e⟩ := m6 a v (by omega) hv
              exact ⟨j, hj, by rw [pl_up_ne _ _ (by omega)]; exact e⟩
          · show (D2 ||| 2 ^ w).testBit x = true
            rw [pl_ib, j3 x hx]
            rfl
          · show (D2 ||| 2 ^ w).testBit v = true
            rw [pl_ib]
            rcases Nat.lt_or_ge v w with q | q
            · rw [j4 v q h1 h2]
              rfl
            · rw [show v = w by omega]
              simp
        · rw [if_neg q2]
          refine hnx (k2, D2, od2, upd g2 w (nI (N w)), f2) ⟨⟨m1, m2, m3, m4, m5, m6⟩, j2, j3, fun v hv h1 h2 => ?_, hg2⟩
          rcases Nat.lt_or_ge v w with q | q
          · exact j4 v q h1 h2
          · have e : v = w := by omega
            subst e
            exact absurd (pl_open.mpr (fun x hx => j3 x (h2 x hx))) q2
      · rw [if_neg q1]
        refine hnx (k2, D2, od2, upd g2 w (nI (N w)), f2) ⟨⟨m1, m2, m3, m4, m5, m6⟩, j2, j3, fun v hv h1 h2 => ?_, hg2⟩
        rcases Nat.lt_or_ge v w with q | q
        · exact j4 v q h1 h2
        · rw [show v = w by omega]
          simpa using q1
    · rintro ⟨k2, D2, od2, g2, f2⟩ ⟨j1, j2, j3, j4, j5⟩
      simp only at j1 j2 j3 j4 j5 ⊢
      simp only [r_X1_sortByNeed_22]
      simp only [r_X1_sortByNeed_0, r_X1_sortByNeed_1, r_X1_sortByNeed_2, r_X1_sortByNeed_3, r_X1_sortByNeed_4, r_X1_sortByNeed_5, r_X1_sortByNeed_9, r_X1_sortByNeed_10, r_X1_sortByNeed_13, r_X1_sortByNeed_16, r_X1_sortByNeed_19, r_X1_sortByNeed_20, r_X1_sortByNeed_24, r_X1_sortByNeed_25, r_X1_sortByNeed_28, r_X1_sortByNeed_31, r_X1_sortByNeed_34, r_X1_sortByNeed_35, r_X1_sortByNeed_38, r_X1_sortByNeed_40, r_X1_sortByNeed_41, r_X1_sortByNeed_44, r_X1_sortByNeed_46, r_X1_sortByNeed_47, r_X1_sortByNeed_50, r_X1_sortByNeed_51, r_X1_sortByNeed_52, r_X1_sortByNeed_54, r_X1_sortByNeed_55, r_X1_sortByNeed_56, r_X1_sortByNeed_57, r_X1_sortByNeed_60, r_X1_sortByNeed_61, r_X1_sortByNeed_64, r_X1_sortByNeed_66, r_X1_sortByNeed_67, r_X1_sortByNeed_68, r_X1_sortByNeed_69, r_X1_sortByNeed_70, r_X1_sortByNeed_71, r_X1_sortByNeed_74, r_X1_sortByNeed_75, r_X1_sortByNeed_77, r_X1_sortByNeed_80, r_X1_sortByNeed_81, r_X1_sortByNeed_84, r_X1_sortByNeed_85, r_X1_sortByNeed_87, r_X1_sortByNeed_88, r_X1_sortByNeed_91, r_X1_sortByNeed_92, r_X1_sortByNeed_93, r_X1_sortByNeed_95, r_X1_sortByNeed_96, r_X1_sortByNeed_97, r_X1_sortByNeed_98, r_X1_sortByNeed_101, r_X1_sortByNeed_104, r_X1_sortByNeed_107, r_X1_sortByNeed_110, nz_1, h.2.1, Int32.le_refl, if_true, nI_1]
      refine hnext (k2, D2, od2, g2, f2, .int (nI n)) ⟨j1, ?_, fun _ => j5⟩
      show i + 1 ≤ k2
      rcases Nat.lt_or_ge k n with q | q
      · obtain ⟨w, hw, q1, q2⟩ := pl_free hNn hr (pl_lack2 q i1.2.1)
        have h1 := j4 w hw q1 q2
        have h2 := tl_ct_lt (f := fun i => D.testBit i) (g := fun i => D2.testBit i) (n := n) (fun x _ hx => j3 x hx) ⟨w, hw, q1, h1⟩
        rw [i1.2.1, j1.2.1] at h2
        omega
      · omega
  · rintro ⟨k, D, od, g, f, z5⟩ ⟨i1, i2, i3⟩
    simp only at i1 i2 i3 ⊢
    simp only [r_X1_sortByNeed_7]
    simp only [r_X1_sortByNeed_0, r_X1_sortByNeed_1, r_X1_sortByNeed_2, r_X1_sortByNeed_3, r_X1_sortByNeed_4, r_X1_sortByNeed_5, r_X1_sortByNeed_9, r_X1_sortByNeed_10, r_X1_sortByNeed_13, r_X1_sortByNeed_16, r_X1_sortByNeed_19, r_X1_sortByNeed_20, r_X1_sortByNeed_24, r_X1_sortByNeed_25, r_X1_sortByNeed_28, r_X1_sortByNeed_31, r_X1_sortByNeed_34, r_X1_sortByNeed_35, r_X1_sortByNeed_38, r_X1_sortByNeed_40, r_X1_sortByNeed_41, r_X1_sortByNeed_44, r_X1_sortByNeed_46, r_X1_sortByNeed_47, r_X1_sortByNeed_50, r_X1_sortByNeed_51, r_X1_sortByNeed_52, r_X1_sortByNeed_54, r_X1_sortByNeed_55, r_X1_sortByNeed_56, r_X1_sortByNeed_57, r_X1_sortByNeed_60, r_X1_sortByNeed_61, r_X1_sortByNeed_64, r_X1_sortByNeed_66, r_X1_sortByNeed_67, r_X1_sortByNeed_68, r_X1_sortByNeed_69, r_X1_sortByNeed_70, r_X1_sortByNeed_71, r_X1_sortByNeed_74, r_X1_sortByNeed_75, r_X1_sortByNeed_77, r_X1_sortByNeed_80, r_X1_sortByNeed_81, r_X1_sortByNeed_84, r_X1_sortByNeed_85, r_X1_sortByNeed_87, r_X1_sortByNeed_88, r_X1_sortByNeed_91, r_X1_sortByNeed_92, r_X1_sortByNeed_93, r_X1_sortByNeed_95, r_X1_sortByNeed_96, r_X1_sortByNeed_97, r_X1_sortByNeed_98, r_X1_sortByNeed_101, r_X1_sortByNeed_104, r_X1_sortByNeed_107, r_X1_sortByNeed_110, nz_1, h.2.1, Int32.le_refl, if_true]
    have hk : k = n := by
      have := tl_ct_le (fun i => D.testBit i) n
      rw [i1.2.1] at this
      omega
    subst hk
    refine hE g f od D (fun w hw => i3 (by omega) w hw) i1
/-! by worth -/
theorem c_isWorthMore {d : Nat} {E : ex_O → ex_S → Prop} {σ : ex_S} {a b : Nat} (ha : a < 8) (hb : b < 8) : ex_C (d + 1) 14 [.ref 1, .int (nI a), .int (nI b)] σ E = E (.inl (some (.int (if σ.2.2.1 29 a * σ.2.2.1 27 b * σ.2.2.1 28 b ≤ σ.2.2.1 29 b * σ.2.2.1 27 a * σ.2.2.1 28 a then 0 else 1)))) σ := by
  simp only [r_X1_isWorthMore, r_X1_isWorthMore_0, r_X1_isWorthMore_1, r_X1_isWorthMore_4, r_X1_isWorthMore_7, r_X1_isWorthMore_8, r_X1_isWorthMore_9, r_X1_isWorthMore_10, r_X1_isWorthMore_13, r_X1_isWorthMore_16, r_X1_isWorthMore_17, r_X1_isWorthMore_18, r_X1_isWorthMore_19, r_X1_isWorthMore_20, r_X1_isWorthMore_23, r_X1_isWorthMore_26, r_X1_isWorthMore_27, r_X1_isWorthMore_28, r_X1_isWorthMore_29, r_X1_isWorthMore_30, r_X1_isWorthMore_33, r_X1_isWorthMore_36, r_X1_isWorthMore_37, r_X1_isWorthMore_38, r_X1_isWorthMore_39, r_X1_isWorthMore_42, r_X1_isWorthMore_45, r_X1_isWorthMore_46, r_X1_isWorthMore_47, r_X1_isWorthMore_48, r_X1_isWorthMore_49, r_X1_isWorthMore_52, r_X1_isWorthMore_55, r_X1_isWorthMore_56, r_X1_isWorthMore_57, r_X1_isWorthMore_58, r_X1_isWorthMore_61, r_X1_isWorthMore_62, r_X1_isWorthMore_65, r_X1_isWorthMore_66, tl_in ha (show 8 < 2 ^ 31 by omega), tl_cl (show a < 2 ^ 31 by omega), tl_in hb (show 8 < 2 ^ 31 by omega), tl_cl (show b < 2 ^ 31 by omega), true_and, tl_b0, tl_b1]
  by_cases q : σ.2.2.1 29 a * σ.2.2.1 27 b * σ.2.2.1 28 b ≤ σ.2.2.1 29 b * σ.2.2.1 27 a * σ.2.2.1 28 a
  · rw [if_pos q, if_pos q]
  · rw [if_neg q, if_neg q]
/-- so many places hold so many works, each -/
def sW (m : Nat) (bw : Nat → Nat) (f : Nat → Int32) : Prop := (∀ j, j < m → f j = nI (bw j) ∧ bw j < m) ∧ ∀ w, w < m → ∃ j, j < m ∧ bw j = w
theorem c_sortByWorth {d : Nat} {E : ex_O → ex_S → Prop} {σ : ex_S} {n : Nat} (hn : n ≤ 8) (h3 : σ.1 306 = nI n) (hE : ∀ (f : Nat → Int32) (bw : Nat → Nat), sW n bw f → E (.inl none) (ex_row σ 9 f)) : ex_C (d + 2) 13 [.ref 1] σ E := by
  simp only [r_X1_sortByWorth, r_X1_sortByWorth_0, r_X1_sortByWorth_1, r_X1_sortByWorth_3, r_X1_sortByWorth_4, r_X1_sortByWorth_7, r_X1_sortByWorth_10, r_X1_sortByWorth_13, r_X1_sortByWorth_14, r_X1_sortByWorth_16, r_X1_sortByWorth_19, r_X1_sortByWorth_20, r_X1_sortByWorth_21, r_X1_sortByWorth_22, r_X1_sortByWorth_25, r_X1_sortByWorth_26, r_X1_sortByWorth_27, r_X1_sortByWorth_28, r_X1_sortByWorth_29, r_X1_sortByWorth_32, r_X1_sortByWorth_35, r_X1_sortByWorth_36, r_X1_sortByWorth_39, r_X1_sortByWorth_40, r_X1_sortByWorth_41, r_X1_sortByWorth_44, r_X1_sortByWorth_45, r_X1_sortByWorth_46, r_X1_sortByWorth_47, r_X1_sortByWorth_48, r_X1_sortByWorth_49, r_X1_sortByWorth_52, r_X1_sortByWorth_55, r_X1_sortByWorth_56, r_X1_sortByWorth_59, r_X1_sortByWorth_60, r_X1_sortByWorth_61, r_X1_sortByWorth_62, r_X1_sortByWorth_65, r_X1_sortByWorth_68]
  have hloop := tl_fori (τ := (Nat → Nat) × (Nat → Int32) × Value)
    (I := fun m z => sW m z.1 z.2.1)
    (A := fun m z => ex_r none (d + 1) ex_m_X1_sortByWorth E 2 [.ref 1, .int (nI m), z.2.2] [] (ex_row σ 9 z.2.1) 0) (n := n) ?_ ?_
  · have := hloop (fun _ => 0, σ.2.2.1 9, .retAddr 0) ⟨fun j hj => absurd hj (by omega), fun w hw => absurd hw (by omega)⟩
    simp only [tl_row_self] at this
    exact this
  · rintro m hm ⟨bw, g, z2⟩ ⟨i1, i2⟩ hnext
    simp only at i1 i2 hnext ⊢
    simp only [r_X1_sortByWorth_2]
    simp only [r_X1_sortByWorth_0, r_X1_sortByWorth_1, r_X1_sortByWorth_3, r_X1_sortByWorth_4, r_X1_sortByWorth_7, r_X1_sortByWorth_10, r_X1_sortByWorth_13, r_X1_sortByWorth_14, r_X1_sortByWorth_16, r_X1_sortByWorth_19, r_X1_sortByWorth_20, r_X1_sortByWorth_21, r_X1_sortByWorth_22, r_X1_sortByWorth_25, r_X1_sortByWorth_26, r_X1_sortByWorth_27, r_X1_sortByWorth_28, r_X1_sortByWorth_29, r_X1_sortByWorth_32, r_X1_sortByWorth_35, r_X1_sortByWorth_36, r_X1_sortByWorth_39, r_X1_sortByWorth_40, r_X1_sortByWorth_41, r_X1_sortByWorth_44, r_X1_sortByWorth_45, r_X1_sortByWorth_46, r_X1_sortByWorth_47, r_X1_sortByWorth_48, r_X1_sortByWorth_49, r_X1_sortByWorth_52, r_X1_sortByWorth_55, r_X1_sortByWorth_56, r_X1_sortByWorth_59, r_X1_sortByWorth_60, r_X1_sortByWorth_61, r_X1_sortByWorth_62, r_X1_sortByWorth_65, r_X1_sortByWorth_68, s_r1, h3]
    rw [if_neg (nI_ge hm (by omega))]
    have key : ∀ (pl : Nat), pl ≤ m → ∀ (f : Nat → Int32), (∀ j, j < pl → f j = g j) → (∀ j, pl < j → j ≤ m → f j = g (j - 1)) → ex_r none (d + 1) ex_m_X1_sortByWorth E 15 [.ref 1, .int (nI m), .int (nI pl)] [] (ex_row σ 9 f) 0 := by
      intro pl
      have fin : ∀ (pl : Nat), pl ≤ m → ∀ (f : Nat → Int32), (∀ j, j < pl → f j = g j) → (∀ j, pl < j → j ≤ m → f j = g (j - 1)) → ex_r none (d + 1) ex_m_X1_sortByWorth E 55 [.ref 1, .int (nI m), .int (nI pl)] [] (ex_row σ 9 f) 0 := by
        intro pl hpl f f1 f2
        simp only [r_X1_sortByWorth_0, r_X1_sortByWorth_1, r_X1_sortByWorth_3, r_X1_sortByWorth_4, r_X1_sortByWorth_7, r_X1_sortByWorth_10, r_X1_sortByWorth_13, r_X1_sortByWorth_14, r_X1_sortByWorth_16, r_X1_sortByWorth_19, r_X1_sortByWorth_20, r_X1_sortByWorth_21, r_X1_sortByWorth_22, r_X1_sortByWorth_25, r_X1_sortByWorth_26, r_X1_sortByWorth_27, r_X1_sortByWorth_28, r_X1_sortByWorth_29, r_X1_sortByWorth_32, r_X1_sortByWorth_35, r_X1_sortByWorth_36, r_X1_sortByWorth_39, r_X1_sortByWorth_40, r_X1_sortByWorth_41, r_X1_sortByWorth_44, r_X1_sortByWorth_45, r_X1_sortByWorth_46, r_X1_sortByWorth_47, r_X1_sortByWorth_48, r_X1_sortByWorth_49, r_X1_sortByWorth_52, r_X1_sortByWorth_55, r_X1_sortByWorth_56, r_X1_sortByWorth_59, r_X1_sortByWorth_60, r_X1_sortByWorth_61, r_X1_sortByWorth_62, r_X1_sortByWorth_65, r_X1_sortByWorth_68, tl_in (show pl < 8 by omega) (show 8 < 2 ^ 31 by omega), tl_cl (show pl < 2 ^ 31 by omega), true_and, s_ar, nI_1]
        refine hnext (fun j => if j < pl then bw j else if j = pl then m else bw (j - 1), upd f pl (nI m), .int (nI pl)) ⟨fun j hj => ?_, fun w hw => ?_⟩
        · simp only [s_u]
          by_cases q1 : j < pl
          · rw [if_neg (by omega), if_pos q1, f1 j q1]
            have := i1 j (by omega)
            exact ⟨this.1, by omega⟩
          · by_cases q2 : j = pl
            · rw [if_pos q2, if_neg q1, if_pos q2]
              exact ⟨rfl, by omega⟩
            · rw [if_neg q2, if_neg q1, if_neg q2, f2 j (by omega) (by omega)]
              have := i1 (j - 1) (by omega)
              exact ⟨this.1, by omega⟩
        · simp only
          rcases Nat.lt_or_ge w m with q | q
          · obtain ⟨j, hj, e⟩ := i2 w q
            rcases Nat.lt_or_ge j pl with q2 | q2
            · exact ⟨j, by omega, by rw [if_pos q2]; exact e⟩
            · exact ⟨j + 1, by omega, by rw [if_neg (by omega), if_neg (by omega), show j + 1 - 1 = j by omega]; exact e⟩
          · exact ⟨pl, by omega, by rw [if_neg (by omega), if_pos rfl]; omega⟩
      induction pl with
      | zero =>
        intro hpl f f1 f2
        simp only [r_X1_sortByWorth_15]
        simp only [r_X1_sortByWorth_0, r_X1_sortByWorth_1, r_X1_sortByWorth_3, r_X1_sortByWorth_4, r_X1_sortByWorth_7, r_X1_sortByWorth_10, r_X1_sortByWorth_13, r_X1_sortByWorth_14, r_X1_sortByWorth_16, r_X1_sortByWorth_19, r_X1_sortByWorth_20, r_X1_sortByWorth_21, r_X1_sortByWorth_22, r_X1_sortByWorth_25, r_X1_sortByWorth_26, r_X1_sortByWorth_27, r_X1_sortByWorth_28, r_X1_sortByWorth_29, r_X1_sortByWorth_32, r_X1_sortByWorth_35, r_X1_sortByWorth_36, r_X1_sortByWorth_39, r_X1_sortByWorth_40, r_X1_sortByWorth_41, r_X1_sortByWorth_44, r_X1_sortByWorth_45, r_X1_sortByWorth_46, r_X1_sortByWorth_47, r_X1_sortByWorth_48, r_X1_sortByWorth_49, r_X1_sortByWorth_52, r_X1_sortByWorth_56, r_X1_sortByWorth_59, r_X1_sortByWorth_60, r_X1_sortByWorth_61, r_X1_sortByWorth_62, r_X1_sortByWorth_65, r_X1_sortByWorth_68]
        rw [if_pos (show nI 0 ≤ (0 : Int32) from Int32.le_refl 0)]
        exact fin 0 hpl f f1 f2
      | succ pl ih =>
        intro hpl f f1 f2
        have hgl := i1 pl (by omega)
        have hfp : f pl = nI (bw pl) := by rw [f1 pl (by omega)]; exact hgl.1
        simp only [r_X1_sortByWorth_15]
        simp only [r_X1_sortByWorth_0, r_X1_sortByWorth_1, r_X1_sortByWorth_3, r_X1_sortByWorth_4, r_X1_sortByWorth_7, r_X1_sortByWorth_10, r_X1_sortByWorth_13, r_X1_sortByWorth_14, r_X1_sortByWorth_16, r_X1_sortByWorth_19, r_X1_sortByWorth_20, r_X1_sortByWorth_21, r_X1_sortByWorth_22, r_X1_sortByWorth_25, r_X1_sortByWorth_26, r_X1_sortByWorth_27, r_X1_sortByWorth_28, r_X1_sortByWorth_29, r_X1_sortByWorth_32, r_X1_sortByWorth_35, r_X1_sortByWorth_36, r_X1_sortByWorth_39, r_X1_sortByWorth_40, r_X1_sortByWorth_41, r_X1_sortByWorth_44, r_X1_sortByWorth_45, r_X1_sortByWorth_46, r_X1_sortByWorth_47, r_X1_sortByWorth_48, r_X1_sortByWorth_49, r_X1_sortByWorth_52, r_X1_sortByWorth_56, r_X1_sortByWorth_59, r_X1_sortByWorth_60, r_X1_sortByWorth_61, r_X1_sortByWorth_62, r_X1_sortByWorth_65, r_X1_sortByWorth_68]
        rw [if_neg (show ¬ nI (pl + 1) ≤ (0 : Int32) from nI_ge (a := 0) (by omega) (by omega)), show nI (pl + 1) - (1 : Int32) = nI pl by rw [show (1 : Int32) = nI 1 from rfl, pk_sub (by omega)]; rfl, tl_in (show pl < 8 by omega) (show 8 < 2 ^ 31 by omega), tl_cl (show pl < 2 ^ 31 by omega), tl_row_at, hfp]
        refine ⟨trivial, ?_⟩
        rw [c_isWorthMore (by omega) (by omega)]
        simp only [Option.toList, List.cons_append, List.nil_append, r_X1_sortByWorth_0, r_X1_sortByWorth_1, r_X1_sortByWorth_3, r_X1_sortByWorth_4, r_X1_sortByWorth_7, r_X1_sortByWorth_10, r_X1_sortByWorth_13, r_X1_sortByWorth_14, r_X1_sortByWorth_16, r_X1_sortByWorth_19, r_X1_sortByWorth_20, r_X1_sortByWorth_21, r_X1_sortByWorth_22, r_X1_sortByWorth_25, r_X1_sortByWorth_26, r_X1_sortByWorth_27, r_X1_sortByWorth_28, r_X1_sortByWorth_29, r_X1_sortByWorth_32, r_X1_sortByWorth_35, r_X1_sortByWorth_36, r_X1_sortByWorth_39, r_X1_sortByWorth_40, r_X1_sortByWorth_41, r_X1_sortByWorth_44, r_X1_sortByWorth_45, r_X1_sortByWorth_46, r_X1_sortByWorth_47, r_X1_sortByWorth_48, r_X1_sortByWorth_49, r_X1_sortByWorth_52, r_X1_sortByWorth_56, r_X1_sortByWorth_59, r_X1_sortByWorth_60, r_X1_sortByWorth_61, r_X1_sortByWorth_62, r_X1_sortByWorth_65, r_X1_sortByWorth_68]
        generalize (if (ex_row σ 9 f).2.2.1 29 m * (ex_row σ 9 f).2.2.1 27 (bw pl) * (ex_row σ 9 f).2.2.1 28 (bw pl) ≤ (ex_row σ 9 f).2.2.1 29 (bw pl) * (ex_row σ 9 f).2.2.1 27 m * (ex_row σ 9 f).2.2.1 28 m then (0 : Int32) else 1) = v
        by_cases q : v = 0
        · rw [if_pos q]
          exact fin (pl + 1) hpl f f1 f2
        · rw [if_neg q, show nI (pl + 1) - (1 : Int32) = nI pl by rw [show (1 : Int32) = nI 1 from rfl, pk_sub (by omega)]; rfl, tl_in (show pl < 8 by omega) (show 8 < 2 ^ 31 by omega), tl_cl (show pl < 2 ^ 31 by omega), tl_in (show pl + 1 < 8 by omega) (show 8 < 2 ^ 31 by omega), tl_cl (show pl + 1 < 2 ^ 31 by omega), tl_row_at, s_ar]
          refine ⟨trivial, trivial, ?_⟩
          rw [show nI (pl + 1) + (-1 : Int32) = nI pl by rw [← nI_1]; exact tl_anc _ _]
          apply ih (by omega) (upd f (pl + 1) (f pl))
          · intro j hj
            rw [s_u, if_neg (by omega)]
            exact f1 j (by omega)
          · intro j hj1 hj2
            rw [s_u]
            by_cases e : j = pl + 1
            · rw [if_pos e, e, f1 pl (by omega)]
              rfl
            · rw [if_neg e]
              exact f2 j (by omega) hj2
    exact key m (Nat.le_refl m) g (fun j _ => rfl) (fun j h1 h2 => by omega)
  · rintro ⟨bw, g, z2⟩ hI
    simp only at hI ⊢
    simp only [r_X1_sortByWorth_2]
    simp only [r_X1_sortByWorth_0, r_X1_sortByWorth_1, r_X1_sortByWorth_3, r_X1_sortByWorth_4, r_X1_sortByWorth_7, r_X1_sortByWorth_10, r_X1_sortByWorth_13, r_X1_sortByWorth_14, r_X1_sortByWorth_16, r_X1_sortByWorth_19, r_X1_sortByWorth_20, r_X1_sortByWorth_21, r_X1_sortByWorth_22, r_X1_sortByWorth_25, r_X1_sortByWorth_26, r_X1_sortByWorth_27, r_X1_sortByWorth_28, r_X1_sortByWorth_29, r_X1_sortByWorth_32, r_X1_sortByWorth_35, r_X1_sortByWorth_36, r_X1_sortByWorth_39, r_X1_sortByWorth_40, r_X1_sortByWorth_41, r_X1_sortByWorth_44, r_X1_sortByWorth_45, r_X1_sortByWorth_46, r_X1_sortByWorth_47, r_X1_sortByWorth_48, r_X1_sortByWorth_49, r_X1_sortByWorth_52, r_X1_sortByWorth_55, r_X1_sortByWorth_56, r_X1_sortByWorth_59, r_X1_sortByWorth_60, r_X1_sortByWorth_61, r_X1_sortByWorth_62, r_X1_sortByWorth_65, r_X1_sortByWorth_68, s_r1, h3, Int32.le_refl, if_true]
    exact hE g bw hI
def fH (h : Nat → Nat) (H : Nat) : Nat → Bool
  | 0 => true
  | k + 1 => fH h H k && decide (h k ≤ H)
theorem fH_iff {h : Nat → Nat} {H : Nat} : ∀ {n : Nat}, fH h H n = true ↔ ∀ w, w < n → h w ≤ H
  | 0 => ⟨fun _ w hw => absurd hw (by omega), fun _ => rfl⟩
  | n + 1 => by
    rw [fH, Bool.and_eq_true, fH_iff, decide_eq_true_iff]
    constructor
    · rintro ⟨h1, h2⟩ w hw
      rcases Nat.lt_or_ge w n with q | q
      · exact h1 w q
      · rw [show w = n by omega]
        exact h2
    · intro h1
      exact ⟨fun w hw => h1 w (by omega), h1 n (by omega)⟩
theorem c_fitsHands {d : Nat} {E : ex_O → ex_S → Prop} {σ : ex_S} {n H : Nat} {h : Nat → Nat} (hn : n ≤ 8) (h3 : σ.1 306 = nI n) (hH : σ.1 111 = nI H) (hH2 : H < 2 ^ 31) (hh : ∀ w, w < n → σ.2.2.1 28 w = nI (h w) ∧ h w < 2 ^ 31) : ex_C (d + 1) 11 [.ref 1] σ E = E (.inl (some (.int (if fH h H n = true then 1 else 0)))) σ := by
  simp only [r_X1_fitsHands, r_X1_fitsHands_0, r_X1_fitsHands_1, r_X1_fitsHands_3, r_X1_fitsHands_4, r_X1_fitsHands_7, r_X1_fitsHands_10, r_X1_fitsHands_13, r_X1_fitsHands_14, r_X1_fitsHands_17, r_X1_fitsHands_20, r_X1_fitsHands_21, r_X1_fitsHands_22, r_X1_fitsHands_23, r_X1_fitsHands_26, r_X1_fitsHands_29, r_X1_fitsHands_30, r_X1_fitsHands_31, r_X1_fitsHands_34, r_X1_fitsHands_37, r_X1_fitsHands_38]
  have key : ∀ (r w : Nat), w + r = n → fH h H w = true → ex_r none d ex_m_X1_fitsHands E 2 [.ref 1, .int (nI w)] [] σ 0 = E (.inl (some (.int (if fH h H n = true then 1 else 0)))) σ := by
    intro r
    induction r with
    | zero =>
      intro w hw hf
      have e : w = n := by omega
      subst e
      simp only [r_X1_fitsHands_2]
      simp only [r_X1_fitsHands_0, r_X1_fitsHands_1, r_X1_fitsHands_3, r_X1_fitsHands_4, r_X1_fitsHands_7, r_X1_fitsHands_10, r_X1_fitsHands_13, r_X1_fitsHands_14, r_X1_fitsHands_17, r_X1_fitsHands_20, r_X1_fitsHands_21, r_X1_fitsHands_22, r_X1_fitsHands_23, r_X1_fitsHands_26, r_X1_fitsHands_29, r_X1_fitsHands_30, r_X1_fitsHands_31, r_X1_fitsHands_34, r_X1_fitsHands_37, r_X1_fitsHands_38, h3, Int32.le_refl, if_true, hf, tl_b1, true_and]
    | succ r ih =>
      intro w hw hf
      obtain ⟨y1, y2⟩ := hh w (by omega)
      simp only [r_X1_fitsHands_2]
      simp only [r_X1_fitsHands_0, r_X1_fitsHands_1, r_X1_fitsHands_3, r_X1_fitsHands_4, r_X1_fitsHands_7, r_X1_fitsHands_10, r_X1_fitsHands_13, r_X1_fitsHands_14, r_X1_fitsHands_17, r_X1_fitsHands_20, r_X1_fitsHands_21, r_X1_fitsHands_22, r_X1_fitsHands_23, r_X1_fitsHands_26, r_X1_fitsHands_29, r_X1_fitsHands_30, r_X1_fitsHands_31, r_X1_fitsHands_34, r_X1_fitsHands_37, r_X1_fitsHands_38, h3, hH, tl_in (show w < 8 by omega) (show 8 < 2 ^ 31 by omega), tl_cl (show w < 2 ^ 31 by omega), true_and, y1, tl_le y2 hH2, nI_1, tl_b0]
      rw [if_neg (nI_ge (show w < n by omega) (by omega))]
      by_cases q : h w ≤ H
      · rw [if_pos q]
        exact ih (w + 1) (by omega) (by rw [fH, hf]; simp [q])
      · rw [if_neg q, if_neg]
        intro hall
        exact q (fH_iff.mp hall w (by omega))
  exact key n 0 (by omega) rfl
end PG
