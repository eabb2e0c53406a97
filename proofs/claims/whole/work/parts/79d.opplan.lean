/-! ===== plan, begins, count ===== -/
section OP
variable {d : Nat} {E : ex_O → ex_S → Prop} {σ : ex_S} {p0 p1 : Int32}
theorem wk_co_mcs {c e : Nat → Int32} {th th2 : Int32} {cN : Nat → Nat} : ∀ {n : Nat}, (∀ i, i < n → tb th2 i = tT e th i ∧ (tT e th i = true → c i = nI (cN i))) → wk_co c th2 n = nI (mcs e th cN n)
  | 0, _ => rfl
  | n + 1, h => by
    have ih := wk_co_mcs (c := c) (e := e) (th := th) (th2 := th2) (cN := cN) (n := n) (fun i hi => h i (by omega))
    obtain ⟨h1, h2⟩ := h n (by omega)
    have e1 : mcs e th cN (n + 1) = mcs e th cN n + (if tT e th n = true then cN n else 0) := rfl
    rw [wk_co, e1, ih, h1]
    by_cases q : tT e th n = true
    · rw [if_pos q, if_pos q, h2 q, nI_add]
    · rw [if_neg q, if_neg q, Nat.add_zero]
theorem p_plan (hI : Inv σ) : pr2 (d + 16) 133 [.ref 4, .int p0, .int p1, .ref 58] 109 [.ref 5, .int p0, .int p1] σ gd := by
  unfold pr2
  have hI0 := hI
  obtain ⟨⟨n, m, nr, nd, t, h, wt, ha, al, so, hW, hP, hN⟩, s, l, ch, cp, fr, to, hS⟩ := hI
  have hW0 := hW
  obtain ⟨w1, w2, w3, w4, w5, w6, w7⟩ := hW
  have hn := w1.1
  by_cases hH : (1 : Int32) ≤ p0 ∧ p0 ≤ 8
  · obtain ⟨H, e0, hH1, hH8⟩ := rng (a := 1) (b := 8) (by decide) (by decide) hH.1 hH.2
    subst e0
    have hT := iW_T (th := p1) hW0
    generalize hth : nI (wk_can (σ.2.2.1 30) p1 n) = th2 at hT
    have hkb : ∀ g, (md_rg (σ.2.2.1 36) p1 n m nr nd so g = 0) = (wk_kb ha al (tb th2) n n (2 ^ n - 1) = false) := fun g => lm_ring0 hn (iW_mm hW0) w3 hT (iW_nb hW0 _)
    have hcost : ∀ w, w < n → tT (σ.2.2.1 36) p1 w = true → σ.2.2.1 36 w = nI ((σ.2.2.1 36 w).toNatClampNeg) ∧ (σ.2.2.1 36 w).toNatClampNeg ≤ 1000 := by
      intro w hw hq
      obtain ⟨y1, y2⟩ := w7 w hw
      rw [y1]
      rcases y2 with y2 | ⟨k, hk, y2⟩
      · exfalso
        unfold tT at hq
        rw [y1, y2] at hq
        simp at hq
      · rw [y2, tl_cl (by omega)]
        exact ⟨rfl, hk⟩
    refine ex_C_le (d := d + n + 7) (by omega) ?_
    simp only [r_L_plan, r_L_plan_0, r_L_plan_1, r_L_plan_2, r_L_plan_3, r_L_plan_4, r_L_plan_5, r_L_plan_8, r_L_plan_9, r_L_plan_10, r_L_plan_15, r_L_plan_16, r_L_plan_17, r_L_plan_18, Nat.le_refl, Nat.reduceSub, Nat.reduceLeDiff, true_and, r_X4_plan, r_X4_plan_0, r_X4_plan_1, r_X4_plan_4, r_X4_plan_5, r_X4_plan_8, r_X4_plan_9, r_X4_plan_10, r_X4_plan_13, r_X4_plan_14, r_X4_plan_17, r_X4_plan_20, c_reqH hH, Option.toList, List.cons_append, List.nil_append]
    rw [c_thoseThatCan hn w1.2.1, hth]
    simp only [Option.toList, List.cons_append, List.nil_append, r_X4_plan_0, r_X4_plan_1, r_X4_plan_4, r_X4_plan_5, r_X4_plan_8, r_X4_plan_9, r_X4_plan_10, r_X4_plan_13, r_X4_plan_14, r_X4_plan_17, r_X4_plan_20]
    by_cases hgood : fH h H n = true ∧ wk_kb ha al (tb th2) n n (2 ^ n - 1) = false
    · obtain ⟨hf, hk⟩ := hgood
      have hnr : noRing (wk_nb ha al (tb th2)) n := by
        rintro ⟨a, l2, h1, h2⟩
        have := (wk_hasRing_iff (ha := ha) (al := al) (T := tb th2) (iW_nb hW0 _)).mpr ⟨a, l2, h1, h2⟩
        rw [hk] at this
        cases this
      obtain ⟨S, hSo⟩ := pl_best (n := n) (H := H) (t := t) (h := h) (wt := wt) (N := wk_nb ha al (tb th2)) hn (iW_nb hW0 _) hnr (fun w hw => ⟨(w5 w hw).2.2.2.1, (w5 w hw).2.2.2.2.1⟩) (fH_iff.mp hf)
      refine c_makePlan (d := d) (S := S) w1 w5 hH8 hf hk hSo hP.1 ?_
      intro τ hF t110 tK t15
      simp only [Option.toList, List.cons_append, List.nil_append, r_X4_plan_0, r_X4_plan_1, r_X4_plan_4, r_X4_plan_5, r_X4_plan_8, r_X4_plan_9, r_X4_plan_10, r_X4_plan_13, r_X4_plan_14, r_X4_plan_17, r_X4_plan_20, r_L_plan_0, r_L_plan_1, r_L_plan_2, r_L_plan_3, r_L_plan_4, r_L_plan_5, r_L_plan_8, r_L_plan_9, r_L_plan_10, r_L_plan_15, r_L_plan_16, r_L_plan_17, r_L_plan_18, v01, cl0, true_and]
      refine ⟨0, rfl, ?_⟩
      generalize hv : nI (pl_A n t wt (2 ^ n - 1) S) + wk_co (σ.2.2.1 30) th2 n = v
      have f36 : τ.2.2.1 36 = σ.2.2.1 36 := hF.2.2.1 36 (by decide) (by decide) (by decide) (by decide) (by decide) (by decide) (by decide) (by decide)
      have fr7 : ∀ r, 16 ≤ r → τ.2.2.1 r = σ.2.2.1 r := fun r hr => hF.2.2.1 r (by omega) (by omega) (by omega) (by omega) (by omega) (by omega) (by omega) (by omega)
      have f6 : τ.2.2.1 6 = σ.2.2.1 6 := hF.2.2.1 6 (by decide) (by decide) (by decide) (by decide) (by decide) (by decide) (by decide) (by decide)
      have fi1 : ∀ j, j ≤ 8 ∨ 200 ≤ j → τ.1 j = σ.1 j := fun j hj => hF.1 j (by omega) (by omega) (by omega) (by omega) (by omega) (by omega)
      have hWt : iW τ n m nr nd t h wt ha al so := iW_fr (fi1 306 (by decide)) (fi1 307 (by decide)) (fi1 505 (by decide)) (fi1 509 (by decide)) (fun r h1 h2 => fr7 r (by omega)) hW0
      refine ex_C_le (d := d + n + 5) (by omega) ?_
      refine c_mplan (d := d) (σ := ex_sB τ 58 0 v.toInt64) (S := S) (N := wk_nb ha al (tb th2)) (cN := fun w => (σ.2.2.1 36 w).toNatClampNeg) (t := t) (h := h) (wt := wt) (H := H) hWt.2.1 hWt.2.2.2.2.2.1 hH1 hH8 ?_ ?_ ?_ ?_
      · show ∀ w, w < n → tT (τ.2.2.1 36) p1 w = true → τ.2.2.1 36 w = nI ((σ.2.2.1 36 w).toNatClampNeg) ∧ (σ.2.2.1 36 w).toNatClampNeg ≤ 1000
        rw [f36]
        exact hcost
      · intro hbad
        exfalso
        rcases hbad with hb | hb
        · rw [hf] at hb
          cases hb
        · have := hb (fun _ => 0)
          apply this
          show md_rg (τ.2.2.1 36) p1 n m nr nd so _ = 0
          rw [f36, hkb]
          exact hk
      · intro _
        refine ⟨hSo, iW_nb hW0 _, ?_, ?_⟩
        · show ∀ w v, w < n → ((wk_nb ha al (tb th2) w).testBit v = true ↔ md_R (md_cn (τ.2.2.1 36) p1 nr so) m nr nd w v)
          rw [f36]
          intro w v hw
          rw [lk_R hn w3 hT w v hw]
          exact ⟨fun q => ⟨hw, q⟩, fun q => q.2⟩
        · intro ρ hQ r500 r525 r52
          refine ⟨_, rfl, ⟨⟨n, m, nr, nd, t, h, wt, ha, al, so, ?_, ⟨?_, Or.inr ⟨?_, r525, fun w hw => ?_⟩⟩, ?_⟩, s, l, ch, cp, fr, to, ?_⟩, r500, fun _ => ?_⟩
          · have qi : ∀ j, j < 500 → ρ.1 j = τ.1 j := fun j hj => hQ.1 j (by omega) (by omega) (by omega) (by omega) (by omega)
            exact iW_fr (qi 306 (by decide)) (qi 307 (by decide)) (hQ.1 505 (by decide) (by decide) (by decide) (by decide) (by decide)) (hQ.1 509 (by decide) (by decide) (by decide) (by decide) (by decide)) (fun r h1 h2 => hQ.2.2.1 r (by omega) (by omega) (by omega) (by omega)) hWt
          · refine xK_eq ?_ tK
            rw [hQ.2.2.2]
            rfl
          · rw [hQ.1 110 (by decide) (by decide) (by decide) (by decide) (by decide)]
            exact t110
          · rw [r52 w hw, hQ.2.2.1 15 (by decide) (by decide) (by decide) (by decide)]
            exact t15 w hw
          · refine iN_fr (σ := σ) (fun j h1 h2 => ?_) (fun j h1 h2 => ?_) ?_ (fun r h1 h2 => ?_) hN
            · rw [hQ.1 j (by omega) (by omega) (by omega) (by omega) (by omega)]
              exact fi1 j (by omega)
            · rw [hQ.1 j (by omega) (by omega) (by omega) (by omega) (by omega)]
              exact fi1 j (by omega)
            · rw [hQ.2.2.1 6 (by decide) (by decide) (by decide) (by decide)]
              exact f6
            · rw [hQ.2.2.1 r (by omega) (by omega) (by omega) (by omega)]
              exact fr7 r (by omega)
          · refine iS_fr (σ := σ) (fun j h1 h2 => ?_) (fun j h1 h2 => ?_) (fun r h1 h2 => ?_) (fun r h1 h2 => ?_) hS
            · rw [hQ.1 j (by omega) (by omega) (by omega) (by omega) (by omega)]
              exact fi1 j (by omega)
            · rw [hQ.1 j (by omega) (by omega) (by omega) (by omega) (by omega)]
              exact fi1 j (by omega)
            · rw [hQ.2.2.1 r (by omega) (by omega) (by omega) (by omega)]
              exact fr7 r (by omega)
            · rw [hQ.2.2.1 r (by omega) (by omega) (by omega) (by omega)]
              exact fr7 r (by omega)
          · rw [hQ.2.2.2]
            show v.toInt64 = (nI (mcs (τ.2.2.1 36) p1 _ n + pl_A n t wt (2 ^ n - 1) S)).toInt64
            rw [f36, ← hv, wk_co_mcs (e := σ.2.2.1 36) (th := p1) (cN := fun w => (σ.2.2.1 36 w).toNatClampNeg) (fun i hi => ⟨hT i hi, fun q => by rw [← (w7 i hi).1]; exact (hcost i hi q).1⟩), nI_add, Nat.add_comm]
      · left
        intro g
        show md_rg (τ.2.2.1 36) p1 n m nr nd so g = 0
        rw [f36, hkb]
        exact hk
    · have hbad : fH h H n = false ∨ wk_kb ha al (tb th2) n n (2 ^ n - 1) = true := by
        cases q1 : fH h H n with
        | false => exact Or.inl rfl
        | true =>
          cases q2 : wk_kb ha al (tb th2) n n (2 ^ n - 1) with
          | true => exact Or.inr rfl
          | false => exact absurd ⟨q1, q2⟩ hgood
      rw [c_makePlan_bad (d := d + n + 2) w1 w5 hH8 hbad]
      simp only [Option.toList, List.cons_append, List.nil_append, r_X4_plan_0, r_X4_plan_1, r_X4_plan_4, r_X4_plan_5, r_X4_plan_8, r_X4_plan_9, r_X4_plan_10, r_X4_plan_13, r_X4_plan_14, r_X4_plan_17, r_X4_plan_20, r_L_plan_0, r_L_plan_1, r_L_plan_2, r_L_plan_3, r_L_plan_4, r_L_plan_5, r_L_plan_8, r_L_plan_9, r_L_plan_10, r_L_plan_15, r_L_plan_16, r_L_plan_17, r_L_plan_18, v01, cl0, true_and]
      refine ⟨0, rfl, ?_⟩
      refine ex_C_le (d := d + n + 5) (by omega) ?_
      refine c_mplan (d := d) (σ := ex_sB (ex_sF (ex_sF σ 110 0) 111 (nI H)) 58 0 (-1 : Int32).toInt64) (S := fun _ => 0) (N := wk_nb ha al (tb th2)) (cN := fun w => (σ.2.2.1 36 w).toNatClampNeg) (t := t) (h := h) (wt := wt) (H := H) w2 w6 hH1 hH8 hcost ?_ ?_ ?_
      · intro _ ρ hQ r500 r525
        refine ⟨_, rfl, ⟨⟨n, m, nr, nd, t, h, wt, ha, al, so, ?_, ⟨?_, Or.inl ⟨?_, r525⟩⟩, ?_⟩, s, l, ch, cp, fr, to, ?_⟩, r500, fun _ => ?_⟩
        · have qi : ∀ j, j < 500 → ρ.1 j = (ex_sF (ex_sF σ 110 0) 111 (nI H)).1 j := fun j hj => hQ.1 j (by omega) (by omega) (by omega) (by omega) (by omega)
          exact iW_fr (qi 306 (by decide)) (qi 307 (by decide)) (hQ.1 505 (by decide) (by decide) (by decide) (by decide) (by decide)) (hQ.1 509 (by decide) (by decide) (by decide) (by decide) (by decide)) (fun r h1 h2 => hQ.2.2.1 r (by omega) (by omega) (by omega) (by omega)) (σ := ex_sF (ex_sF σ 110 0) 111 (nI H)) hW0
        · refine xK_eq (σ := σ) ?_ hP.1
          rw [hQ.2.2.2]
          rfl
        · rw [hQ.1 110 (by decide) (by decide) (by decide) (by decide) (by decide)]
          rfl
        · refine iN_fr (σ := ex_sF (ex_sF σ 110 0) 111 (nI H)) (fun j h1 h2 => ?_) (fun j h1 h2 => ?_) ?_ (fun r h1 h2 => ?_) hN
          · exact hQ.1 j (by omega) (by omega) (by omega) (by omega) (by omega)
          · exact hQ.1 j (by omega) (by omega) (by omega) (by omega) (by omega)
          · exact hQ.2.2.1 6 (by decide) (by decide) (by decide) (by decide)
          · exact hQ.2.2.1 r (by omega) (by omega) (by omega) (by omega)
        · refine iS_fr (σ := ex_sF (ex_sF σ 110 0) 111 (nI H)) (fun j h1 h2 => ?_) (fun j h1 h2 => ?_) (fun r h1 h2 => ?_) (fun r h1 h2 => ?_) hS
          · exact hQ.1 j (by omega) (by omega) (by omega) (by omega) (by omega)
          · exact hQ.1 j (by omega) (by omega) (by omega) (by omega) (by omega)
          · exact hQ.2.2.1 r (by omega) (by omega) (by omega) (by omega)
          · exact hQ.2.2.1 r (by omega) (by omega) (by omega) (by omega)
        · rw [hQ.2.2.2]
          rfl
      · rintro ⟨g1, g2⟩
        exfalso
        have g3 := g2 (fun _ => 0)
        have g4 : md_rg (σ.2.2.1 36) p1 n m nr nd so (fun _ => 0) = 0 := g3
        rw [hkb] at g4
        rcases hbad with hb | hb
        · rw [g1] at hb
          cases hb
        · rw [g4] at hb
          cases hb
      · by_cases q : wk_kb ha al (tb th2) n n (2 ^ n - 1) = false
        · left
          intro g
          show md_rg (σ.2.2.1 36) p1 n m nr nd so g = 0
          rw [hkb]
          exact q
        · right
          intro g
          show md_rg (σ.2.2.1 36) p1 n m nr nd so g ≠ 0
          intro q2
          rw [hkb] at q2
          exact q q2
  · simp only [r_L_plan, r_L_plan_0, r_L_plan_1, r_L_plan_2, r_L_plan_3, r_L_plan_4, r_L_plan_5, r_L_plan_8, r_L_plan_9, r_L_plan_10, r_L_plan_15, r_L_plan_16, r_L_plan_17, r_L_plan_18, Nat.le_refl, Nat.reduceSub, Nat.reduceLeDiff, true_and, r_X4_plan, r_X4_plan_0, r_X4_plan_1, r_X4_plan_4, r_X4_plan_5, r_X4_plan_8, r_X4_plan_9, r_X4_plan_10, r_X4_plan_13, r_X4_plan_14, r_X4_plan_17, r_X4_plan_20, c_reqHT hH, xc_plan_1]
    refine ⟨1, rfl, ?_⟩
    rw [c_mplanT hH]
    exact ⟨0, rfl, inv_thr _ (inv_thr _ hI0), rfl, fun q => absurd q (by decide)⟩
theorem p_begins (hI : Inv σ) : pr2 (d + 4) 134 [.ref 4, .int p0, .ref 58] 110 [.ref 5, .int p0] σ gd := by
  unfold pr2
  have hI0 := hI
  obtain ⟨⟨n, m, nr, nd, t, h, wt, ha, al, so, hW, hP, hN⟩, s, l, ch, cp, fr, to, hS⟩ := hI
  obtain ⟨w1, w2, w3, w4, w5, w6, w7⟩ := hW
  have hn := w1.1
  by_cases h0 : vp_in p0 n
  · obtain ⟨w, hw, e0⟩ := vin (by omega) h0
    subst e0
    have hw8 := tl_in (show w < 8 by omega) (show 8 < 2 ^ 31 by omega)
    have hwc := tl_cl (show w < 2 ^ 31 by omega)
    rcases hP.2 with ⟨g1, g2⟩ | ⟨g1, g2, g3⟩
    · simp only [r_L_begins, r_L_begins_0, r_L_begins_1, r_L_begins_2, r_L_begins_3, r_L_begins_4, r_L_begins_7, r_L_begins_8, r_L_begins_9, r_L_begins_13, r_L_begins_14, r_L_begins_15, r_L_begins_16, Nat.le_refl, Nat.reduceSub, Nat.reduceLeDiff, true_and, r_X4_begins, r_X4_begins_0, r_X4_begins_1, r_X4_begins_2, r_X4_begins_5, r_X4_begins_6, r_X4_begins_9, r_X4_begins_12, r_X4_begins_15, r_X4_begins_16, r_X4_begins_19, r_X4_begins_22, r_X4_begins_23, r_X4_begins_24, r_X4_begins_27, r_X4_begins_28, c_reqW hn w1.2.1 hw, Option.toList, List.cons_append, List.nil_append, g1, if_true, v01, cl0]
      refine ⟨0, rfl, ?_⟩
      have h5 : (ex_sF (ex_sB σ 58 0 (-1 : Int32).toInt64) 500 0).1 505 = nI n := w2.2.2.1
      have h6 : (ex_sF (ex_sB σ 58 0 (-1 : Int32).toInt64) 500 0).1 525 = 0 := g2
      simp only [r_X5_begins, r_X5_begins_0, r_X5_begins_1, r_X5_begins_2, r_X5_begins_5, r_X5_begins_6, r_X5_begins_7, r_X5_begins_8, r_X5_begins_11, r_X5_begins_12, r_X5_begins_15, r_X5_begins_18, r_X5_begins_19, r_X5_begins_20, r_X5_begins_21, r_X5_begins_24, r_X5_begins_27, r_X5_begins_28, r_X5_begins_31, r_X5_begins_32, r_X5_begins_33, r_X5_begins_36, r_X5_begins_37, c_noWork hn h5 h0, Option.toList, List.cons_append, List.nil_append, c_throwsIf0, if_true, h6]
      exact ⟨_, rfl, inv_thr _ (inv_out _ hI0), rfl, fun _ => rfl⟩
    · simp only [r_L_begins, r_L_begins_0, r_L_begins_1, r_L_begins_2, r_L_begins_3, r_L_begins_4, r_L_begins_7, r_L_begins_8, r_L_begins_9, r_L_begins_13, r_L_begins_14, r_L_begins_15, r_L_begins_16, Nat.le_refl, Nat.reduceSub, Nat.reduceLeDiff, true_and, r_X4_begins, r_X4_begins_0, r_X4_begins_1, r_X4_begins_2, r_X4_begins_5, r_X4_begins_6, r_X4_begins_9, r_X4_begins_12, r_X4_begins_15, r_X4_begins_16, r_X4_begins_19, r_X4_begins_22, r_X4_begins_23, r_X4_begins_24, r_X4_begins_27, r_X4_begins_28, c_reqW hn w1.2.1 hw, Option.toList, List.cons_append, List.nil_append, g1, i10, if_false, hw8, hwc, v01, cl0]
      refine ⟨0, rfl, ?_⟩
      have h5 : (ex_sF (ex_sB σ 58 0 (σ.2.2.1 15 w).toInt64) 500 0).1 505 = nI n := w2.2.2.1
      have h6 : (ex_sF (ex_sB σ 58 0 (σ.2.2.1 15 w).toInt64) 500 0).1 525 = 1 := g2
      simp only [r_X5_begins, r_X5_begins_0, r_X5_begins_1, r_X5_begins_2, r_X5_begins_5, r_X5_begins_6, r_X5_begins_7, r_X5_begins_8, r_X5_begins_11, r_X5_begins_12, r_X5_begins_15, r_X5_begins_18, r_X5_begins_19, r_X5_begins_20, r_X5_begins_21, r_X5_begins_24, r_X5_begins_27, r_X5_begins_28, r_X5_begins_31, r_X5_begins_32, r_X5_begins_33, r_X5_begins_36, r_X5_begins_37, c_noWork hn h5 h0, Option.toList, List.cons_append, List.nil_append, c_throwsIf0, if_true, h6, i10, if_false, hw8, hwc, true_and]
      refine ⟨_, rfl, inv_thr _ (inv_out _ hI0), rfl, fun _ => ?_⟩
      show (σ.2.2.1 15 w).toInt64 = (σ.2.2.1 52 w).toInt64
      rw [g3 w hw]
  · simp only [r_L_begins, r_L_begins_0, r_L_begins_1, r_L_begins_2, r_L_begins_3, r_L_begins_4, r_L_begins_7, r_L_begins_8, r_L_begins_9, r_L_begins_13, r_L_begins_14, r_L_begins_15, r_L_begins_16, Nat.le_refl, Nat.reduceSub, Nat.reduceLeDiff, true_and, r_X4_begins, r_X4_begins_0, r_X4_begins_1, r_X4_begins_2, r_X4_begins_5, r_X4_begins_6, r_X4_begins_9, r_X4_begins_12, r_X4_begins_15, r_X4_begins_16, r_X4_begins_19, r_X4_begins_22, r_X4_begins_23, r_X4_begins_24, r_X4_begins_27, r_X4_begins_28, c_reqWT hn w1.2.1 h0, xc_begins_1]
    refine ⟨1, rfl, ?_⟩
    have h5 : (ex_sF σ 500 0).1 505 = nI n := w2.2.2.1
    simp only [r_X5_begins, r_X5_begins_0, r_X5_begins_1, r_X5_begins_2, r_X5_begins_5, r_X5_begins_6, r_X5_begins_7, r_X5_begins_8, r_X5_begins_11, r_X5_begins_12, r_X5_begins_15, r_X5_begins_18, r_X5_begins_19, r_X5_begins_20, r_X5_begins_21, r_X5_begins_24, r_X5_begins_27, r_X5_begins_28, r_X5_begins_31, r_X5_begins_32, r_X5_begins_33, r_X5_begins_36, r_X5_begins_37, c_noWorkT hn h5 h0, Option.toList, List.cons_append, List.nil_append, c_throwsIf1, i10, if_false]
    exact ⟨0, rfl, inv_thr _ (inv_thr _ hI0), rfl, fun q => absurd q (by decide)⟩
theorem sw_k (x : Int32) (N : Nat) (hN : N < 2 ^ 31) : (∃ k, k ≤ N ∧ x = nI k) ∨ (x.toInt < 0 ∨ (N : Int) < x.toInt) := by
  by_cases q : x.toInt < 0 ∨ (N : Int) < x.toInt
  · exact Or.inr q
  · left
    refine ⟨x.toInt.toNat, by omega, ?_⟩
    apply Int32.toInt_inj.mp
    rw [nI_toInt (by omega)]
    omega
theorem p_count (hI : Inv σ) : pr1 (d + 2) 69 [.ref 4, .int p0] 121 [.ref 5, .int p0] σ := by
  unfold pr1
  have hI0 := hI
  obtain ⟨⟨n, m, nr, nd, t, h, wt, ha, al, so, hW, hP, hN⟩, s, l, ch, cp, fr, to, hS⟩ := hI
  obtain ⟨w1, w2, w3, w4, w5, w6, w7⟩ := hW
  have a0 : (ex_sF σ 500 0).1 505 = σ.1 306 := w2.2.2.1.trans w1.2.1.symm
  have a1 : (ex_sF σ 500 0).1 509 = σ.1 307 := w2.2.2.2.1.trans w4.symm
  have a2 : (ex_sF σ 500 0).1 515 = σ.1 211 := hS.2.1.2.2.1.trans hS.1.2.2.1.symm
  have a3 : (ex_sF σ 500 0).1 520 = σ.1 212 := hS.2.1.2.2.2.1.trans hS.1.2.2.2.1.symm
  have a4 : (ex_sF σ 500 0).1 523 = σ.1 213 := hS.2.2.2.2.1.trans hS.2.2.2.1.symm
  have a5 : (ex_sF σ 500 0).1 525 = σ.1 110 := by
    rcases hP.2 with ⟨g1, g2⟩ | ⟨g1, g2, _⟩
    · exact g2.trans g1.symm
    · exact g2.trans g1.symm
  have a6 : (ex_sF σ 500 0).1 532 = σ.1 2 := by
    rcases hN with ⟨g1, g2⟩ | ⟨g1, g2, _⟩
    · exact g2.trans g1.symm
    · exact g2.trans g1.symm
  rcases sw_k p0 6 (by decide) with ⟨k, hk, e⟩ | q
  · subst e
    rcases (show k = 0 ∨ k = 1 ∨ k = 2 ∨ k = 3 ∨ k = 4 ∨ k = 5 ∨ k = 6 by omega) with e | e | e | e | e | e | e
    · subst e
      simp only [show nI 0 = (0 : Int32) from rfl, r_X4_count, r_X4_count_0, r_X4_count_1_0, r_X4_count_1_1, r_X4_count_1_2, r_X4_count_1_3, r_X4_count_1_4, r_X4_count_1_5, r_X4_count_1_6, r_X4_count_44, r_X4_count_45, r_X4_count_48, r_X4_count_51, r_X4_count_52, r_X4_count_53, r_X4_count_56, r_X4_count_59, r_X4_count_60, r_X4_count_61, r_X4_count_64, r_X4_count_67, r_X4_count_68, r_X4_count_69, r_X4_count_72, r_X4_count_75, r_X4_count_76, r_X4_count_77, r_X4_count_80, r_X4_count_83, r_X4_count_84, r_X4_count_85, r_X4_count_88, r_X4_count_91, r_X4_count_94, r_X4_count_95, r_X4_count_98, r_X4_count_99, r_X4_count_100, r_X4_count_101, r_X4_count_104, r_X4_count_107, r_X4_count_110, r_X4_count_111, r_X4_count_114, r_X4_count_115, r_X4_count_116, r_X4_count_117]
      refine ⟨_, rfl, ?_⟩
      simp only [r_X5_count, r_X5_count_0, r_X5_count_1, r_X5_count_2, r_X5_count_5, r_X5_count_6_0, r_X5_count_6_1, r_X5_count_6_2, r_X5_count_6_3, r_X5_count_6_4, r_X5_count_6_5, r_X5_count_6_6, r_X5_count_48, r_X5_count_49, r_X5_count_52, r_X5_count_53, r_X5_count_54, r_X5_count_57, r_X5_count_58, r_X5_count_59, r_X5_count_62, r_X5_count_63, r_X5_count_64, r_X5_count_67, r_X5_count_68, r_X5_count_69, r_X5_count_72, r_X5_count_73, r_X5_count_74, r_X5_count_77, r_X5_count_80, r_X5_count_81, r_X5_count_84, r_X5_count_85, r_X5_count_86, r_X5_count_87, r_X5_count_90, r_X5_count_93, r_X5_count_94, r_X5_count_97, r_X5_count_98, r_X5_count_99, r_X5_count_100, a0]
      exact ⟨trivial, inv_thr _ hI0⟩
    · subst e
      simp only [show nI 1 = (1 : Int32) from rfl, r_X4_count, r_X4_count_0, r_X4_count_1_0, r_X4_count_1_1, r_X4_count_1_2, r_X4_count_1_3, r_X4_count_1_4, r_X4_count_1_5, r_X4_count_1_6, r_X4_count_44, r_X4_count_45, r_X4_count_48, r_X4_count_51, r_X4_count_52, r_X4_count_53, r_X4_count_56, r_X4_count_59, r_X4_count_60, r_X4_count_61, r_X4_count_64, r_X4_count_67, r_X4_count_68, r_X4_count_69, r_X4_count_72, r_X4_count_75, r_X4_count_76, r_X4_count_77, r_X4_count_80, r_X4_count_83, r_X4_count_84, r_X4_count_85, r_X4_count_88, r_X4_count_91, r_X4_count_94, r_X4_count_95, r_X4_count_98, r_X4_count_99, r_X4_count_100, r_X4_count_101, r_X4_count_104, r_X4_count_107, r_X4_count_110, r_X4_count_111, r_X4_count_114, r_X4_count_115, r_X4_count_116, r_X4_count_117]
      refine ⟨_, rfl, ?_⟩
      simp only [r_X5_count, r_X5_count_0, r_X5_count_1, r_X5_count_2, r_X5_count_5, r_X5_count_6_0, r_X5_count_6_1, r_X5_count_6_2, r_X5_count_6_3, r_X5_count_6_4, r_X5_count_6_5, r_X5_count_6_6, r_X5_count_48, r_X5_count_49, r_X5_count_52, r_X5_count_53, r_X5_count_54, r_X5_count_57, r_X5_count_58, r_X5_count_59, r_X5_count_62, r_X5_count_63, r_X5_count_64, r_X5_count_67, r_X5_count_68, r_X5_count_69, r_X5_count_72, r_X5_count_73, r_X5_count_74, r_X5_count_77, r_X5_count_80, r_X5_count_81, r_X5_count_84, r_X5_count_85, r_X5_count_86, r_X5_count_87, r_X5_count_90, r_X5_count_93, r_X5_count_94, r_X5_count_97, r_X5_count_98, r_X5_count_99, r_X5_count_100, a1]
      exact ⟨trivial, inv_thr _ hI0⟩
    · subst e
      simp only [show nI 2 = (2 : Int32) from rfl, r_X4_count, r_X4_count_0, r_X4_count_1_0, r_X4_count_1_1, r_X4_count_1_2, r_X4_count_1_3, r_X4_count_1_4, r_X4_count_1_5, r_X4_count_1_6, r_X4_count_44, r_X4_count_45, r_X4_count_48, r_X4_count_51, r_X4_count_52, r_X4_count_53, r_X4_count_56, r_X4_count_59, r_X4_count_60, r_X4_count_61, r_X4_count_64, r_X4_count_67, r_X4_count_68, r_X4_count_69, r_X4_count_72, r_X4_count_75, r_X4_count_76, r_X4_count_77, r_X4_count_80, r_X4_count_83, r_X4_count_84, r_X4_count_85, r_X4_count_88, r_X4_count_91, r_X4_count_94, r_X4_count_95, r_X4_count_98, r_X4_count_99, r_X4_count_100, r_X4_count_101, r_X4_count_104, r_X4_count_107, r_X4_count_110, r_X4_count_111, r_X4_count_114, r_X4_count_115, r_X4_count_116, r_X4_count_117]
      refine ⟨_, rfl, ?_⟩
      simp only [r_X5_count, r_X5_count_0, r_X5_count_1, r_X5_count_2, r_X5_count_5, r_X5_count_6_0, r_X5_count_6_1, r_X5_count_6_2, r_X5_count_6_3, r_X5_count_6_4, r_X5_count_6_5, r_X5_count_6_6, r_X5_count_48, r_X5_count_49, r_X5_count_52, r_X5_count_53, r_X5_count_54, r_X5_count_57, r_X5_count_58, r_X5_count_59, r_X5_count_62, r_X5_count_63, r_X5_count_64, r_X5_count_67, r_X5_count_68, r_X5_count_69, r_X5_count_72, r_X5_count_73, r_X5_count_74, r_X5_count_77, r_X5_count_80, r_X5_count_81, r_X5_count_84, r_X5_count_85, r_X5_count_86, r_X5_count_87, r_X5_count_90, r_X5_count_93, r_X5_count_94, r_X5_count_97, r_X5_count_98, r_X5_count_99, r_X5_count_100, a2]
      exact ⟨trivial, inv_thr _ hI0⟩
    · subst e
      simp only [show nI 3 = (3 : Int32) from rfl, r_X4_count, r_X4_count_0, r_X4_count_1_0, r_X4_count_1_1, r_X4_count_1_2, r_X4_count_1_3, r_X4_count_1_4, r_X4_count_1_5, r_X4_count_1_6, r_X4_count_44, r_X4_count_45, r_X4_count_48, r_X4_count_51, r_X4_count_52, r_X4_count_53, r_X4_count_56, r_X4_count_59, r_X4_count_60, r_X4_count_61, r_X4_count_64, r_X4_count_67, r_X4_count_68, r_X4_count_69, r_X4_count_72, r_X4_count_75, r_X4_count_76, r_X4_count_77, r_X4_count_80, r_X4_count_83, r_X4_count_84, r_X4_count_85, r_X4_count_88, r_X4_count_91, r_X4_count_94, r_X4_count_95, r_X4_count_98, r_X4_count_99, r_X4_count_100, r_X4_count_101, r_X4_count_104, r_X4_count_107, r_X4_count_110, r_X4_count_111, r_X4_count_114, r_X4_count_115, r_X4_count_116, r_X4_count_117]
      refine ⟨_, rfl, ?_⟩
      simp only [r_X5_count, r_X5_count_0, r_X5_count_1, r_X5_count_2, r_X5_count_5, r_X5_count_6_0, r_X5_count_6_1, r_X5_count_6_2, r_X5_count_6_3, r_X5_count_6_4, r_X5_count_6_5, r_X5_count_6_6, r_X5_count_48, r_X5_count_49, r_X5_count_52, r_X5_count_53, r_X5_count_54, r_X5_count_57, r_X5_count_58, r_X5_count_59, r_X5_count_62, r_X5_count_63, r_X5_count_64, r_X5_count_67, r_X5_count_68, r_X5_count_69, r_X5_count_72, r_X5_count_73, r_X5_count_74, r_X5_count_77, r_X5_count_80, r_X5_count_81, r_X5_count_84, r_X5_count_85, r_X5_count_86, r_X5_count_87, r_X5_count_90, r_X5_count_93, r_X5_count_94, r_X5_count_97, r_X5_count_98, r_X5_count_99, r_X5_count_100, a3]
      exact ⟨trivial, inv_thr _ hI0⟩
    · subst e
      simp only [show nI 4 = (4 : Int32) from rfl, r_X4_count, r_X4_count_0, r_X4_count_1_0, r_X4_count_1_1, r_X4_count_1_2, r_X4_count_1_3, r_X4_count_1_4, r_X4_count_1_5, r_X4_count_1_6, r_X4_count_44, r_X4_count_45, r_X4_count_48, r_X4_count_51, r_X4_count_52, r_X4_count_53, r_X4_count_56, r_X4_count_59, r_X4_count_60, r_X4_count_61, r_X4_count_64, r_X4_count_67, r_X4_count_68, r_X4_count_69, r_X4_count_72, r_X4_count_75, r_X4_count_76, r_X4_count_77, r_X4_count_80, r_X4_count_83, r_X4_count_84, r_X4_count_85, r_X4_count_88, r_X4_count_91, r_X4_count_94, r_X4_count_95, r_X4_count_98, r_X4_count_99, r_X4_count_100, r_X4_count_101, r_X4_count_104, r_X4_count_107, r_X4_count_110, r_X4_count_111, r_X4_count_114, r_X4_count_115, r_X4_count_116, r_X4_count_117]
      refine ⟨_, rfl, ?_⟩
      simp only [r_X5_count, r_X5_count_0, r_X5_count_1, r_X5_count_2, r_X5_count_5, r_X5_count_6_0, r_X5_count_6_1, r_X5_count_6_2, r_X5_count_6_3, r_X5_count_6_4, r_X5_count_6_5, r_X5_count_6_6, r_X5_count_48, r_X5_count_49, r_X5_count_52, r_X5_count_53, r_X5_count_54, r_X5_count_57, r_X5_count_58, r_X5_count_59, r_X5_count_62, r_X5_count_63, r_X5_count_64, r_X5_count_67, r_X5_count_68, r_X5_count_69, r_X5_count_72, r_X5_count_73, r_X5_count_74, r_X5_count_77, r_X5_count_80, r_X5_count_81, r_X5_count_84, r_X5_count_85, r_X5_count_86, r_X5_count_87, r_X5_count_90, r_X5_count_93, r_X5_count_94, r_X5_count_97, r_X5_count_98, r_X5_count_99, r_X5_count_100, a4]
      exact ⟨trivial, inv_thr _ hI0⟩
    · subst e
      simp only [show nI 5 = (5 : Int32) from rfl, r_X4_count, r_X4_count_0, r_X4_count_1_0, r_X4_count_1_1, r_X4_count_1_2, r_X4_count_1_3, r_X4_count_1_4, r_X4_count_1_5, r_X4_count_1_6, r_X4_count_44, r_X4_count_45, r_X4_count_48, r_X4_count_51, r_X4_count_52, r_X4_count_53, r_X4_count_56, r_X4_count_59, r_X4_count_60, r_X4_count_61, r_X4_count_64, r_X4_count_67, r_X4_count_68, r_X4_count_69, r_X4_count_72, r_X4_count_75, r_X4_count_76, r_X4_count_77, r_X4_count_80, r_X4_count_83, r_X4_count_84, r_X4_count_85, r_X4_count_88, r_X4_count_91, r_X4_count_94, r_X4_count_95, r_X4_count_98, r_X4_count_99, r_X4_count_100, r_X4_count_101, r_X4_count_104, r_X4_count_107, r_X4_count_110, r_X4_count_111, r_X4_count_114, r_X4_count_115, r_X4_count_116, r_X4_count_117]
      by_cases q : σ.1 110 = 0
      · rw [if_pos q]
        refine ⟨_, rfl, ?_⟩
        simp only [r_X5_count, r_X5_count_0, r_X5_count_1, r_X5_count_2, r_X5_count_5, r_X5_count_6_0, r_X5_count_6_1, r_X5_count_6_2, r_X5_count_6_3, r_X5_count_6_4, r_X5_count_6_5, r_X5_count_6_6, r_X5_count_48, r_X5_count_49, r_X5_count_52, r_X5_count_53, r_X5_count_54, r_X5_count_57, r_X5_count_58, r_X5_count_59, r_X5_count_62, r_X5_count_63, r_X5_count_64, r_X5_count_67, r_X5_count_68, r_X5_count_69, r_X5_count_72, r_X5_count_73, r_X5_count_74, r_X5_count_77, r_X5_count_80, r_X5_count_81, r_X5_count_84, r_X5_count_85, r_X5_count_86, r_X5_count_87, r_X5_count_90, r_X5_count_93, r_X5_count_94, r_X5_count_97, r_X5_count_98, r_X5_count_99, r_X5_count_100, a5]
        rw [if_pos q]
        exact ⟨trivial, inv_thr _ hI0⟩
      · rw [if_neg q]
        refine ⟨_, rfl, ?_⟩
        simp only [r_X5_count, r_X5_count_0, r_X5_count_1, r_X5_count_2, r_X5_count_5, r_X5_count_6_0, r_X5_count_6_1, r_X5_count_6_2, r_X5_count_6_3, r_X5_count_6_4, r_X5_count_6_5, r_X5_count_6_6, r_X5_count_48, r_X5_count_49, r_X5_count_52, r_X5_count_53, r_X5_count_54, r_X5_count_57, r_X5_count_58, r_X5_count_59, r_X5_count_62, r_X5_count_63, r_X5_count_64, r_X5_count_67, r_X5_count_68, r_X5_count_69, r_X5_count_72, r_X5_count_73, r_X5_count_74, r_X5_count_77, r_X5_count_80, r_X5_count_81, r_X5_count_84, r_X5_count_85, r_X5_count_86, r_X5_count_87, r_X5_count_90, r_X5_count_93, r_X5_count_94, r_X5_count_97, r_X5_count_98, r_X5_count_99, r_X5_count_100, a5]
        rw [if_neg q]
        exact ⟨trivial, inv_thr _ hI0⟩
    · subst e
      simp only [show nI 6 = (6 : Int32) from rfl, r_X4_count, r_X4_count_0, r_X4_count_1_0, r_X4_count_1_1, r_X4_count_1_2, r_X4_count_1_3, r_X4_count_1_4, r_X4_count_1_5, r_X4_count_1_6, r_X4_count_44, r_X4_count_45, r_X4_count_48, r_X4_count_51, r_X4_count_52, r_X4_count_53, r_X4_count_56, r_X4_count_59, r_X4_count_60, r_X4_count_61, r_X4_count_64, r_X4_count_67, r_X4_count_68, r_X4_count_69, r_X4_count_72, r_X4_count_75, r_X4_count_76, r_X4_count_77, r_X4_count_80, r_X4_count_83, r_X4_count_84, r_X4_count_85, r_X4_count_88, r_X4_count_91, r_X4_count_94, r_X4_count_95, r_X4_count_98, r_X4_count_99, r_X4_count_100, r_X4_count_101, r_X4_count_104, r_X4_count_107, r_X4_count_110, r_X4_count_111, r_X4_count_114, r_X4_count_115, r_X4_count_116, r_X4_count_117]
      by_cases q : σ.1 2 = 0
      · rw [if_pos q]
        refine ⟨_, rfl, ?_⟩
        simp only [r_X5_count, r_X5_count_0, r_X5_count_1, r_X5_count_2, r_X5_count_5, r_X5_count_6_0, r_X5_count_6_1, r_X5_count_6_2, r_X5_count_6_3, r_X5_count_6_4, r_X5_count_6_5, r_X5_count_6_6, r_X5_count_48, r_X5_count_49, r_X5_count_52, r_X5_count_53, r_X5_count_54, r_X5_count_57, r_X5_count_58, r_X5_count_59, r_X5_count_62, r_X5_count_63, r_X5_count_64, r_X5_count_67, r_X5_count_68, r_X5_count_69, r_X5_count_72, r_X5_count_73, r_X5_count_74, r_X5_count_77, r_X5_count_80, r_X5_count_81, r_X5_count_84, r_X5_count_85, r_X5_count_86, r_X5_count_87, r_X5_count_90, r_X5_count_93, r_X5_count_94, r_X5_count_97, r_X5_count_98, r_X5_count_99, r_X5_count_100, a6]
        rw [if_pos q]
        exact ⟨trivial, inv_thr _ hI0⟩
      · rw [if_neg q]
        refine ⟨_, rfl, ?_⟩
        simp only [r_X5_count, r_X5_count_0, r_X5_count_1, r_X5_count_2, r_X5_count_5, r_X5_count_6_0, r_X5_count_6_1, r_X5_count_6_2, r_X5_count_6_3, r_X5_count_6_4, r_X5_count_6_5, r_X5_count_6_6, r_X5_count_48, r_X5_count_49, r_X5_count_52, r_X5_count_53, r_X5_count_54, r_X5_count_57, r_X5_count_58, r_X5_count_59, r_X5_count_62, r_X5_count_63, r_X5_count_64, r_X5_count_67, r_X5_count_68, r_X5_count_69, r_X5_count_72, r_X5_count_73, r_X5_count_74, r_X5_count_77, r_X5_count_80, r_X5_count_81, r_X5_count_84, r_X5_count_85, r_X5_count_86, r_X5_count_87, r_X5_count_90, r_X5_count_93, r_X5_count_94, r_X5_count_97, r_X5_count_98, r_X5_count_99, r_X5_count_100, a6]
        rw [if_neg q]
        exact ⟨trivial, inv_thr _ hI0⟩
  · simp only [r_X4_count, r_X4_count_0, r_X4_count_1_d _ _ _ _ _ _ q, r_X4_count_44, r_X4_count_45, r_X4_count_48, r_X4_count_51, r_X4_count_52, r_X4_count_53, r_X4_count_56, r_X4_count_59, r_X4_count_60, r_X4_count_61, r_X4_count_64, r_X4_count_67, r_X4_count_68, r_X4_count_69, r_X4_count_72, r_X4_count_75, r_X4_count_76, r_X4_count_77, r_X4_count_80, r_X4_count_83, r_X4_count_84, r_X4_count_85, r_X4_count_88, r_X4_count_91, r_X4_count_94, r_X4_count_95, r_X4_count_98, r_X4_count_99, r_X4_count_100, r_X4_count_101, r_X4_count_104, r_X4_count_107, r_X4_count_110, r_X4_count_111, r_X4_count_114, r_X4_count_115, r_X4_count_116, r_X4_count_117]
    refine ⟨_, rfl, ?_⟩
    simp only [r_X5_count, r_X5_count_0, r_X5_count_1, r_X5_count_2, r_X5_count_5, r_X5_count_48, r_X5_count_49, r_X5_count_52, r_X5_count_53, r_X5_count_54, r_X5_count_57, r_X5_count_58, r_X5_count_59, r_X5_count_62, r_X5_count_63, r_X5_count_64, r_X5_count_67, r_X5_count_68, r_X5_count_69, r_X5_count_72, r_X5_count_73, r_X5_count_74, r_X5_count_77, r_X5_count_80, r_X5_count_81, r_X5_count_84, r_X5_count_85, r_X5_count_86, r_X5_count_87, r_X5_count_90, r_X5_count_93, r_X5_count_94, r_X5_count_97, r_X5_count_98, r_X5_count_99, r_X5_count_100, r_X5_count_6_d _ _ _ _ _ _ q]
    exact ⟨trivial, inv_thr _ hI0⟩
end OP
