/-! ===== night, begin, tick, fail ===== -/
section OG
variable {d n : Nat} {E : ex_O → ex_S → Prop} {σ : ex_S} {p0 p1 : Int32}
def pr0 (d Wm : Nat) (wa : List Value) (Mm : Nat) (ma : List Value) (σ : ex_S) : Prop := ex_C d Wm wa σ (fun o σ1 => ∃ k, o = .inl (some (.int k)) ∧ ex_C d Mm ma σ1 (fun o2 σ2 => o2 = .inl none ∧ Inv σ2 ∧ σ2.1 500 = k))
theorem p_night (hI : Inv σ) : pr0 (d + 4) 135 [.ref 4, .int p0] 111 [.ref 5, .int p0] σ := by
  unfold pr0
  have hI0 := hI
  obtain ⟨⟨n, m, nr, nd, t, h, wt, ha, al, so, hW, hP, hN⟩, s, l, ch, cp, fr, to, hS⟩ := hI
  have hn := hW.1.1
  by_cases hH : (1 : Int32) ≤ p0 ∧ p0 ≤ 8
  · simp only [r_L_night, r_L_night_0, r_L_night_1, r_L_night_2, r_L_night_5, r_L_night_9, r_L_night_10, r_L_night_11, r_L_night_12, Nat.le_refl, Nat.reduceSub, Nat.reduceLeDiff, true_and, r_X4_night, r_X4_night_0, r_X4_night_1, r_X4_night_4, r_X4_night_5, r_X4_night_8, r_X4_night_9, r_X4_night_12, c_reqH hH, Option.toList, List.cons_append, List.nil_append]
    rw [c_fall]
    simp only [Option.toList, List.cons_append, List.nil_append, r_X4_night_0, r_X4_night_1, r_X4_night_4, r_X4_night_5, r_X4_night_8, r_X4_night_9, r_X4_night_12, r_L_night_0, r_L_night_1, r_L_night_2, r_L_night_5, r_L_night_9, r_L_night_10, r_L_night_11, r_L_night_12]
    refine ⟨0, rfl, ?_⟩
    rw [c_mnight hH]
    have e0 : ∀ v, v ≠ 0 → mk n (isA v (fun _ => 0)) = 0 := fun v hv => mk_eq0.mpr (fun _ _ => decide_eq_false (fun q => hv q.symm))
    have e1 : mk n (fun _ => false) = 0 := mk_0
    refine ⟨rfl, ⟨⟨n, m, nr, nd, t, h, wt, ha, al, so, hW, hP, Or.inr ⟨rfl, rfl, rfl, rfl, rfl, fun _ => 0, fun _ => false, ?_, ?_, ?_, fun k hk => ⟨?_, Nat.zero_le _, ?_, (fun q => by cases q), (fun q => by cases q), fun _ => ?_⟩⟩⟩, s, l, ch, cp, fr, to, hS⟩, rfl⟩
    · rw [e0 2 (by decide)]
      rfl
    · rw [e0 1 (by decide)]
      rfl
    · rw [e1]
      rfl
    · show fi (σ.2.2.1 55) 0 8 k = nI 0
      rw [fi_val, if_pos (by omega)]
      rfl
    · show fi (σ.2.2.1 57) 0 8 k = (if false = true then 1 else 0)
      rw [fi_val, if_pos (by omega)]
      rfl
    · show fi (σ.2.2.1 6) 0 8 k = 0
      rw [fi_val, if_pos (by omega)]
  · simp only [r_L_night, r_L_night_0, r_L_night_1, r_L_night_2, r_L_night_5, r_L_night_9, r_L_night_10, r_L_night_11, r_L_night_12, Nat.le_refl, Nat.reduceSub, Nat.reduceLeDiff, true_and, r_X4_night, r_X4_night_0, r_X4_night_1, r_X4_night_4, r_X4_night_5, r_X4_night_8, r_X4_night_9, r_X4_night_12, c_reqHT hH, xc_night_1]
    refine ⟨1, rfl, ?_⟩
    rw [c_mnightT hH]
    exact ⟨rfl, inv_thr _ (inv_thr _ hI0), rfl⟩
/-! what the two nights have in common -/
theorem iQ_is {st : Nat → Nat} {th : Nat → Bool} (hn : n ≤ 8) (hQ : iQ σ n st th) (v : Nat) (hv : v < 2 ^ 31) : ∀ k, k < n → (σ.2.2.1 55 k = nI v ↔ st k = v) := by
  intro k hk
  obtain ⟨y1, y2, _⟩ := hQ.2.2.2 k hk
  rw [y1]
  exact nI_eq (by omega) hv
theorem la_mb {m w : Nat} {nr nd t h wt ha al : Nat → Nat} {so : Nat → Bool} {st : Nat → Nat} {th : Nat → Bool} {p : Bool} (hW : iW σ n m nr nd t h wt ha al so) (hQ : iQ σ n st th) (h3 : σ.1 533 = σ.1 3) (hw : w < n) : la_ok (mk n (isA 2 st)) (mk n (isA 1 st)) w p (σ.2.2.1 30 w) (if p = true then ha w else al w) (nt_fh (σ.2.2.1 28) (σ.1 3) (tb (σ.1 7)) n) (σ.2.2.1 28 w) = mb_ok (σ.2.2.1 55 w) (σ.2.2.1 36 w) p (nt_fh (σ.2.2.1 34) (σ.1 533) (is1 (σ.2.2.1 55)) n) (σ.2.2.1 34 w) (sdm nr nd so w p (isge 2 (σ.2.2.1 55)) m) := by
  have hn := hW.1.1
  have hfh : nt_fh (σ.2.2.1 28) (σ.1 3) (tb (σ.1 7)) n = nt_fh (σ.2.2.1 34) (σ.1 533) (is1 (σ.2.2.1 55)) n := by
    rw [h3]
    apply nt_fh_congr
    intro k hk
    refine ⟨by rw [(hW.2.2.2.2.1 k hk).2.1, (hW.2.2.2.2.2.1 k hk).2.1], ?_⟩
    rw [hQ.2.1, mk_tb hn hk]
    unfold isA is1
    have := iQ_is hn hQ 1 (by decide) k hk
    by_cases q : st k = 1
    · have := this.mpr q
      rw [show nI 1 = (1 : Int32) from rfl] at this
      simp [q, this]
    · have q2 : ¬ σ.2.2.1 55 k = 1 := fun q3 => q (this.mp q3)
      simp [q, q2]
  have hh : σ.2.2.1 28 w = σ.2.2.1 34 w := by rw [(hW.2.2.2.2.1 w hw).2.1, (hW.2.2.2.2.2.1 w hw).2.1]
  have hsd : decide (tl_df (if p = true then ha w else al w) (mk n (isA 2 st)) = 0) = sdm nr nd so w p (isge 2 (σ.2.2.1 55)) m := by
    have e1 := sS_mask (th := fun _ => p) (A := isA 2 st) hW.2.2.1 (iW_mm hW) hn hw
    have e2 : wk_nb ha al (fun _ => p) w = (if p = true then ha w else al w) := rfl
    rw [← e2, e1]
    apply tl_bool_ext
    rw [sdm_iff]
    unfold sS
    rw [cb_iff]
    have hI : ∀ j, j < m → (isA 2 st (nd j) = true ↔ isge 2 (σ.2.2.1 55) (nd j) = true) := by
      intro j hj
      have hnd := (iW_mm hW j hj).2
      obtain ⟨y1, y2, _⟩ := hQ.2.2.2 (nd j) hnd
      unfold isA isge
      rw [y1, Bool.not_eq_true', decide_eq_false_iff_not, decide_eq_true_iff, show (2 : Int32) = nI 2 from rfl, tl_lt (by omega) (by omega)]
      omega
    constructor
    · intro q j hj e
      rcases q j hj e with q | q
      · exact Or.inl q
      · exact Or.inr ((hI j hj).mp q)
    · intro q j hj e
      rcases q j hj e with q | q
      · exact Or.inl q
      · exact Or.inr ((hI j hj).mpr q)
  have hst : (!(mk n (isA 2 st)).testBit w && !(mk n (isA 1 st)).testBit w) = decide (σ.2.2.1 55 w = 0) := by
    rw [mk_at hw, mk_at hw]
    have h0 := iQ_is hn hQ 0 (by decide) w hw
    have h2 := (hQ.2.2.2 w hw).2.1
    rw [show nI 0 = (0 : Int32) from rfl] at h0
    unfold isA
    by_cases q : st w = 0
    · simp [q, h0.mpr q]
    · have q3 : ¬ σ.2.2.1 55 w = 0 := fun q4 => q (h0.mp q4)
      rcases (show st w = 1 ∨ st w = 2 by omega) with e | e <;> simp [e, q3]
  have hc : decide (σ.2.2.1 30 w = -1) = decide (σ.2.2.1 36 w < 0) := by
    have := iW_neg hW w hw
    by_cases q : σ.2.2.1 36 w < 0
    · simp [q, this.mp q]
    · have q2 : ¬ σ.2.2.1 30 w = -1 := fun q3 => q (this.mpr q3)
      simp [q, q2]
  unfold la_ok mb_ok
  rw [hst, hc, hsd, hfh, hh]
  cases decide (σ.2.2.1 55 w = 0) <;> cases (!(p && decide (σ.2.2.1 36 w < 0))) <;> cases sdm nr nd so w p (isge 2 (σ.2.2.1 55)) m <;> cases (!decide (nt_fh (σ.2.2.1 34) (σ.1 533) (is1 (σ.2.2.1 55)) n < σ.2.2.1 34 w)) <;> rfl
theorem p_begin {sb : Bool} (hI : Inv σ) : pr2 (d + 4) 136 [.ref 4, .int p0, .int (bI sb), .ref 58] 114 [.ref 5, .int p0, .int (bI sb)] σ (fun k v τ => gd k v τ ∧ (v = 0 ∨ v = 1)) := by
  unfold pr2
  have hI0 := hI
  obtain ⟨⟨n, m, nr, nd, t, h, wt, ha, al, so, hW, hP, hN⟩, s, l, ch, cp, fr, to, hS⟩ := hI
  have hn := hW.1.1
  by_cases h0 : vp_in p0 n
  · obtain ⟨w, hw, e0⟩ := vin (by omega) h0
    subst e0
    rcases hN with ⟨g1, g2⟩ | ⟨g1, g2, g3, g4, g5, st, th, hQ⟩
    · simp only [r_L_begin, r_L_begin_0, r_L_begin_1, r_L_begin_2, r_L_begin_3, r_L_begin_4, r_L_begin_5, r_L_begin_8, r_L_begin_11, r_L_begin_12, r_L_begin_15, r_L_begin_16, r_L_begin_17, r_L_begin_22, r_L_begin_23, r_L_begin_26, r_L_begin_27, r_L_begin_28, r_L_begin_29, Nat.le_refl, Nat.reduceSub, Nat.reduceLeDiff, true_and, r_X4_begin, r_X4_begin_0, r_X4_begin_1, r_X4_begin_2, r_X4_begin_5, r_X4_begin_6, r_X4_begin_9, r_X4_begin_10, r_X4_begin_13, r_X4_begin_14, r_X4_begin_15, r_X4_begin_18, c_reqW hn hW.1.2.1 hw, Option.toList, List.cons_append, List.nil_append, c_reqNT g1, xc_begin_2]
      refine ⟨2, rfl, ?_⟩
      have h5 : (ex_sF σ 500 0).1 505 = nI n := hW.2.1.2.2.1
      have h6 : (ex_sF σ 500 0).1 532 = 0 := g2
      simp only [r_X5_begin, r_X5_begin_0, r_X5_begin_1, r_X5_begin_2, r_X5_begin_5, r_X5_begin_6, r_X5_begin_7, r_X5_begin_8, r_X5_begin_11, r_X5_begin_12, r_X5_begin_15, r_X5_begin_18, r_X5_begin_19, r_X5_begin_20, r_X5_begin_23, r_X5_begin_26, r_X5_begin_27, r_X5_begin_30, r_X5_begin_31, r_X5_begin_32, r_X5_begin_35, r_X5_begin_38, r_X5_begin_39, r_X5_begin_40, r_X5_begin_41, r_X5_begin_44, r_X5_begin_45, r_X5_begin_46, r_X5_begin_49, r_X5_begin_50, r_X5_begin_53, r_X5_begin_54, r_X5_begin_55, r_X5_begin_58, r_X5_begin_61, r_X5_begin_62, r_X5_begin_65, r_X5_begin_66, r_X5_begin_67, r_X5_begin_68, r_X5_begin_71, r_X5_begin_74, r_X5_begin_75, r_X5_begin_76, r_X5_begin_77, r_X5_begin_78, r_X5_begin_81, r_X5_begin_84, r_X5_begin_85, r_X5_begin_86, r_X5_begin_87, r_X5_begin_90, r_X5_begin_91, r_X5_begin_92, r_X5_begin_93, r_X5_begin_94, r_X5_begin_97, r_X5_begin_98, r_X5_begin_99, r_X5_begin_102, r_X5_begin_103, r_X5_begin_104, r_X5_begin_105, r_X5_begin_106, r_X5_begin_109, r_X5_begin_110, r_X5_begin_111, r_X5_begin_112, r_X5_begin_113, r_X5_begin_114, r_X5_begin_117, r_X5_begin_118, r_X5_begin_121, r_X5_begin_122, r_X5_begin_125, r_X5_begin_126, r_X5_begin_127, r_X5_begin_130, r_X5_begin_131, r_X5_begin_132, r_X5_begin_135, r_X5_begin_136, c_noWork hn h5 h0, Option.toList, List.cons_append, List.nil_append, c_throwsIf0, if_true, h6, c_throwsIf1, i10, if_false, tl_b0, true_and]
      exact ⟨0, rfl, ⟨inv_thr _ (inv_thr _ hI0), rfl, fun q => absurd q (by decide)⟩, Or.inl rfl⟩
    · simp only [r_L_begin, r_L_begin_0, r_L_begin_1, r_L_begin_2, r_L_begin_3, r_L_begin_4, r_L_begin_5, r_L_begin_8, r_L_begin_11, r_L_begin_12, r_L_begin_15, r_L_begin_16, r_L_begin_17, r_L_begin_22, r_L_begin_23, r_L_begin_26, r_L_begin_27, r_L_begin_28, r_L_begin_29, Nat.le_refl, Nat.reduceSub, Nat.reduceLeDiff, true_and, r_X4_begin, r_X4_begin_0, r_X4_begin_1, r_X4_begin_2, r_X4_begin_5, r_X4_begin_6, r_X4_begin_9, r_X4_begin_10, r_X4_begin_13, r_X4_begin_14, r_X4_begin_15, r_X4_begin_18, c_reqW hn hW.1.2.1 hw, Option.toList, List.cons_append, List.nil_append, c_reqN g1]
      unfold bI
      have hlam := la_mb (p := sb) hW hQ g3 hw
      rw [c_launch (n := n) (u := mk n (isA 2 st)) (b := mk n (isA 1 st)) (t := mk n th) (d := d) hW.1 hw mk_lt mk_lt hQ.1 hQ.2.1 hQ.2.2.1]
      by_cases q : la_ok (mk n (isA 2 st)) (mk n (isA 1 st)) w sb (σ.2.2.1 30 w) (if sb = true then ha w else al w) (nt_fh (σ.2.2.1 28) (σ.1 3) (tb (σ.1 7)) n) (σ.2.2.1 28 w) = true
      · rw [if_pos q]
        simp only [Option.toList, List.cons_append, List.nil_append, r_X4_begin_0, r_X4_begin_1, r_X4_begin_2, r_X4_begin_5, r_X4_begin_6, r_X4_begin_9, r_X4_begin_10, r_X4_begin_13, r_X4_begin_14, r_X4_begin_15, r_X4_begin_18, r_L_begin_0, r_L_begin_1, r_L_begin_2, r_L_begin_3, r_L_begin_4, r_L_begin_5, r_L_begin_8, r_L_begin_11, r_L_begin_12, r_L_begin_15, r_L_begin_16, r_L_begin_17, r_L_begin_22, r_L_begin_23, r_L_begin_26, r_L_begin_27, r_L_begin_28, r_L_begin_29, tl_b1, true_and, i10, if_false, v01, cl0]
        refine ⟨0, rfl, ?_⟩
        have hm1 : md_at (ex_sB (nt_la σ w sb (mk n (isA 1 st)) (mk n th)) 58 0 1) n m nr nd so := by cases sb <;> exact hW.2.1
        have hc1 : (ex_sB (nt_la σ w sb (mk n (isA 1 st)) (mk n th)) 58 0 1).1 532 = 1 := by cases sb <;> exact g2
        rw [c_mbegin (p := sb) hm1 hw hc1]
        have q2 : mb_ok ((ex_sB (nt_la σ w sb (mk n (isA 1 st)) (mk n th)) 58 0 1).2.2.1 55 w) ((ex_sB (nt_la σ w sb (mk n (isA 1 st)) (mk n th)) 58 0 1).2.2.1 36 w) sb (nt_fh ((ex_sB (nt_la σ w sb (mk n (isA 1 st)) (mk n th)) 58 0 1).2.2.1 34) ((ex_sB (nt_la σ w sb (mk n (isA 1 st)) (mk n th)) 58 0 1).1 533) (is1 ((ex_sB (nt_la σ w sb (mk n (isA 1 st)) (mk n th)) 58 0 1).2.2.1 55)) n) ((ex_sB (nt_la σ w sb (mk n (isA 1 st)) (mk n th)) 58 0 1).2.2.1 34 w) (sdm nr nd so w sb (isge 2 ((ex_sB (nt_la σ w sb (mk n (isA 1 st)) (mk n th)) 58 0 1).2.2.1 55)) m) = true := by
          rw [hlam] at q
          cases sb <;> exact q
        rw [if_pos q2]
        have hst0 : st w = 0 := by
          have h1 : (!(mk n (isA 2 st)).testBit w && !(mk n (isA 1 st)).testBit w) = true := by
            unfold la_ok at q
            simp only [Bool.and_eq_true] at q ⊢
            exact ⟨q.1.1.1.1, q.1.1.1.2⟩
          rw [mk_at hw, mk_at hw] at h1
          have h2 := (hQ.2.2.2 w hw).2.1
          unfold isA at h1
          rcases (show st w = 0 ∨ st w = 1 ∨ st w = 2 by omega) with e | e | e
          · exact e
          · rw [e] at h1
            simp at h1
          · rw [e] at h1
            simp at h1
        have hth0 : th w = false := by
          cases q3 : th w with
          | false => rfl
          | true => exact absurd hst0 ((hQ.2.2.2 w hw).2.2.2.1 q3)
        have hm2 : mk n (isA 2 (pl_up st w 1)) = mk n (isA 2 st) := mk_ext (fun k hk => by
          unfold isA
          by_cases e : k = w
          · rw [e, pl_up_at, hst0]
            rfl
          · rw [pl_up_ne _ _ e])
        have hm3 : mk n (isA 1 (pl_up st w 1)) = mk n (isA 1 st) ||| 2 ^ w := by
          rw [mk_one hw, mk_or]
          apply mk_ext
          intro k hk
          unfold isA
          by_cases e : k = w
          · rw [e, pl_up_at]
            simp
          · rw [pl_up_ne _ _ e]
            simp [e]
        have hm4 : mk n (fun k => if k = w then sb else th k) = if sb = true then mk n th ||| 2 ^ w else mk n th := by
          cases sb with
          | true =>
            rw [if_pos rfl, mk_one hw, mk_or]
            apply mk_ext
            intro k hk
            by_cases e : k = w <;> simp [e]
          | false =>
            rw [if_neg (by decide)]
            apply mk_ext
            intro k hk
            by_cases e : k = w
            · rw [if_pos e, e, hth0]
            · rw [if_neg e]
        have ht27 : σ.2.2.1 27 w = σ.2.2.1 33 w := by rw [(hW.2.2.2.2.1 w hw).1, (hW.2.2.2.2.2.1 w hw).1]
        have hc30 := (hW.2.2.2.2.2.2 w hw).1
        refine ⟨1, rfl, ⟨⟨⟨n, m, nr, nd, t, h, wt, ha, al, so, by cases sb <;> exact hW, by cases sb <;> exact hP, Or.inr ⟨by cases sb <;> exact g1, by cases sb <;> exact g2, by cases sb <;> exact g3, by cases sb <;> exact g4, ?_, pl_up st w 1, fun k => if k = w then sb else th k, ?_, ?_, ?_, fun k hk => ?_⟩⟩, s, l, ch, cp, fr, to, by cases sb <;> exact hS⟩, by cases sb <;> rfl, fun _ => by cases sb <;> rfl⟩, Or.inr rfl⟩
        · cases sb with
          | true =>
            show σ.1 535 + σ.2.2.1 36 w = σ.1 5 + σ.2.2.1 30 w
            rw [g5, hc30]
          | false =>
            show σ.1 535 + 0 = σ.1 5
            rw [g5, Int32.add_zero]
        · rw [hm2]
          cases sb <;> exact hQ.1
        · rw [hm3]
          cases sb <;> rfl
        · rw [hm4]
          cases sb
          · exact hQ.2.2.1
          · rfl
        · obtain ⟨y1, y2, y3, y4, y5, y6⟩ := hQ.2.2.2 k hk
          have e55 : (ex_sF (ex_sA (ex_sA (ex_sA (ex_sF (ex_sB (nt_la σ w sb (mk n (isA 1 st)) (mk n th)) 58 0 1) 500 0) 55 w 1) 56 w ((ex_sB (nt_la σ w sb (mk n (isA 1 st)) (mk n th)) 58 0 1).2.2.1 33 w)) 57 w (if sb = true then 1 else 0)) 535 ((ex_sB (nt_la σ w sb (mk n (isA 1 st)) (mk n th)) 58 0 1).1 535 + if sb = true then (ex_sB (nt_la σ w sb (mk n (isA 1 st)) (mk n th)) 58 0 1).2.2.1 36 w else 0)).2.2.1 55 k = if k = w then 1 else σ.2.2.1 55 k := by cases sb <;> rfl
          have e57 : (ex_sF (ex_sA (ex_sA (ex_sA (ex_sF (ex_sB (nt_la σ w sb (mk n (isA 1 st)) (mk n th)) 58 0 1) 500 0) 55 w 1) 56 w ((ex_sB (nt_la σ w sb (mk n (isA 1 st)) (mk n th)) 58 0 1).2.2.1 33 w)) 57 w (if sb = true then 1 else 0)) 535 ((ex_sB (nt_la σ w sb (mk n (isA 1 st)) (mk n th)) 58 0 1).1 535 + if sb = true then (ex_sB (nt_la σ w sb (mk n (isA 1 st)) (mk n th)) 58 0 1).2.2.1 36 w else 0)).2.2.1 57 k = if k = w then (if sb = true then 1 else 0) else σ.2.2.1 57 k := by cases sb <;> rfl
          have e56 : (ex_sF (ex_sA (ex_sA (ex_sA (ex_sF (ex_sB (nt_la σ w sb (mk n (isA 1 st)) (mk n th)) 58 0 1) 500 0) 55 w 1) 56 w ((ex_sB (nt_la σ w sb (mk n (isA 1 st)) (mk n th)) 58 0 1).2.2.1 33 w)) 57 w (if sb = true then 1 else 0)) 535 ((ex_sB (nt_la σ w sb (mk n (isA 1 st)) (mk n th)) 58 0 1).1 535 + if sb = true then (ex_sB (nt_la σ w sb (mk n (isA 1 st)) (mk n th)) 58 0 1).2.2.1 36 w else 0)).2.2.1 56 k = if k = w then σ.2.2.1 33 w else σ.2.2.1 56 k := by cases sb <;> rfl
          have e6 : (ex_sF (ex_sA (ex_sA (ex_sA (ex_sF (ex_sB (nt_la σ w sb (mk n (isA 1 st)) (mk n th)) 58 0 1) 500 0) 55 w 1) 56 w ((ex_sB (nt_la σ w sb (mk n (isA 1 st)) (mk n th)) 58 0 1).2.2.1 33 w)) 57 w (if sb = true then 1 else 0)) 535 ((ex_sB (nt_la σ w sb (mk n (isA 1 st)) (mk n th)) 58 0 1).1 535 + if sb = true then (ex_sB (nt_la σ w sb (mk n (isA 1 st)) (mk n th)) 58 0 1).2.2.1 36 w else 0)).2.2.1 6 k = if k = w then σ.2.2.1 27 w else σ.2.2.1 6 k := by cases sb <;> rfl
          rw [e55, e56, e57, e6]
          by_cases e : k = w
          · subst e
            simp only [if_true, pl_up_at]
            exact ⟨rfl, by decide, trivial, fun _ => by decide, fun _ => ht27, fun q => absurd rfl q⟩
          · simp only [if_neg e, pl_up_ne _ _ e]
            exact ⟨y1, y2, y3, y4, y5, y6⟩
      · rw [if_neg q]
        simp only [Option.toList, List.cons_append, List.nil_append, r_X4_begin_0, r_X4_begin_1, r_X4_begin_2, r_X4_begin_5, r_X4_begin_6, r_X4_begin_9, r_X4_begin_10, r_X4_begin_13, r_X4_begin_14, r_X4_begin_15, r_X4_begin_18, r_L_begin_0, r_L_begin_1, r_L_begin_2, r_L_begin_3, r_L_begin_4, r_L_begin_5, r_L_begin_8, r_L_begin_11, r_L_begin_12, r_L_begin_15, r_L_begin_16, r_L_begin_17, r_L_begin_22, r_L_begin_23, r_L_begin_26, r_L_begin_27, r_L_begin_28, r_L_begin_29, tl_b0, true_and, if_true, v01, cl0]
        refine ⟨0, rfl, ?_⟩
        rw [c_mbegin (σ := ex_sB σ 58 0 0) (p := sb) hW.2.1 hw g2]
        rw [hlam] at q
        rw [if_neg (show ¬ mb_ok ((ex_sB σ 58 0 0).2.2.1 55 w) ((ex_sB σ 58 0 0).2.2.1 36 w) sb (nt_fh ((ex_sB σ 58 0 0).2.2.1 34) ((ex_sB σ 58 0 0).1 533) (is1 ((ex_sB σ 58 0 0).2.2.1 55)) n) ((ex_sB σ 58 0 0).2.2.1 34 w) (sdm nr nd so w sb (isge 2 ((ex_sB σ 58 0 0).2.2.1 55)) m) = true from q)]
        exact ⟨0, rfl, ⟨inv_thr _ (inv_out _ hI0), rfl, fun _ => rfl⟩, Or.inl rfl⟩
  · simp only [r_L_begin, r_L_begin_0, r_L_begin_1, r_L_begin_2, r_L_begin_3, r_L_begin_4, r_L_begin_5, r_L_begin_8, r_L_begin_11, r_L_begin_12, r_L_begin_15, r_L_begin_16, r_L_begin_17, r_L_begin_22, r_L_begin_23, r_L_begin_26, r_L_begin_27, r_L_begin_28, r_L_begin_29, Nat.le_refl, Nat.reduceSub, Nat.reduceLeDiff, true_and, r_X4_begin, r_X4_begin_0, r_X4_begin_1, r_X4_begin_2, r_X4_begin_5, r_X4_begin_6, r_X4_begin_9, r_X4_begin_10, r_X4_begin_13, r_X4_begin_14, r_X4_begin_15, r_X4_begin_18, c_reqWT hn hW.1.2.1 h0, xc_begin_1]
    refine ⟨1, rfl, ?_⟩
    have h5 : (ex_sF σ 500 0).1 505 = nI n := hW.2.1.2.2.1
    simp only [r_X5_begin, r_X5_begin_0, r_X5_begin_1, r_X5_begin_2, r_X5_begin_5, r_X5_begin_6, r_X5_begin_7, r_X5_begin_8, r_X5_begin_11, r_X5_begin_12, r_X5_begin_15, r_X5_begin_18, r_X5_begin_19, r_X5_begin_20, r_X5_begin_23, r_X5_begin_26, r_X5_begin_27, r_X5_begin_30, r_X5_begin_31, r_X5_begin_32, r_X5_begin_35, r_X5_begin_38, r_X5_begin_39, r_X5_begin_40, r_X5_begin_41, r_X5_begin_44, r_X5_begin_45, r_X5_begin_46, r_X5_begin_49, r_X5_begin_50, r_X5_begin_53, r_X5_begin_54, r_X5_begin_55, r_X5_begin_58, r_X5_begin_61, r_X5_begin_62, r_X5_begin_65, r_X5_begin_66, r_X5_begin_67, r_X5_begin_68, r_X5_begin_71, r_X5_begin_74, r_X5_begin_75, r_X5_begin_76, r_X5_begin_77, r_X5_begin_78, r_X5_begin_81, r_X5_begin_84, r_X5_begin_85, r_X5_begin_86, r_X5_begin_87, r_X5_begin_90, r_X5_begin_91, r_X5_begin_92, r_X5_begin_93, r_X5_begin_94, r_X5_begin_97, r_X5_begin_98, r_X5_begin_99, r_X5_begin_102, r_X5_begin_103, r_X5_begin_104, r_X5_begin_105, r_X5_begin_106, r_X5_begin_109, r_X5_begin_110, r_X5_begin_111, r_X5_begin_112, r_X5_begin_113, r_X5_begin_114, r_X5_begin_117, r_X5_begin_118, r_X5_begin_121, r_X5_begin_122, r_X5_begin_125, r_X5_begin_126, r_X5_begin_127, r_X5_begin_130, r_X5_begin_131, r_X5_begin_132, r_X5_begin_135, r_X5_begin_136, c_noWorkT hn h5 h0, Option.toList, List.cons_append, List.nil_append, c_throwsIf1, i10, if_false, tl_b0, true_and]
    exact ⟨0, rfl, ⟨inv_thr _ (inv_thr _ hI0), rfl, fun q => absurd q (by decide)⟩, Or.inl rfl⟩
theorem p_fail (hI : Inv σ) : pr2 (d + 4) 138 [.ref 4, .int p0, .ref 58] 116 [.ref 5, .int p0] σ (fun k v τ => gd k v τ ∧ (v = 0 ∨ v = 1)) := by
  unfold pr2
  have hI0 := hI
  obtain ⟨⟨n, m, nr, nd, t, h, wt, ha, al, so, hW, hP, hN⟩, s, l, ch, cp, fr, to, hS⟩ := hI
  have hn := hW.1.1
  by_cases h0 : vp_in p0 n
  · obtain ⟨w, hw, e0⟩ := vin (by omega) h0
    subst e0
    rcases hN with ⟨g1, g2⟩ | ⟨g1, g2, g3, g4, g5, st, th, hQ⟩
    · simp only [r_L_fail, r_L_fail_0, r_L_fail_1, r_L_fail_2, r_L_fail_3, r_L_fail_4, r_L_fail_7, r_L_fail_10, r_L_fail_11, r_L_fail_14, r_L_fail_15, r_L_fail_16, r_L_fail_20, r_L_fail_21, r_L_fail_23, r_L_fail_24, r_L_fail_25, r_L_fail_26, Nat.le_refl, Nat.reduceSub, Nat.reduceLeDiff, true_and, r_X4_fail, r_X4_fail_0, r_X4_fail_1, r_X4_fail_2, r_X4_fail_5, r_X4_fail_6, r_X4_fail_9, r_X4_fail_10, r_X4_fail_13, r_X4_fail_14, r_X4_fail_17, c_reqW hn hW.1.2.1 hw, Option.toList, List.cons_append, List.nil_append, c_reqNT g1, xc_fail_2]
      refine ⟨2, rfl, ?_⟩
      have h5 : (ex_sF σ 500 0).1 505 = nI n := hW.2.1.2.2.1
      have h6 : (ex_sF σ 500 0).1 532 = 0 := g2
      simp only [r_X5_fail, r_X5_fail_0, r_X5_fail_1, r_X5_fail_2, r_X5_fail_5, r_X5_fail_6, r_X5_fail_7, r_X5_fail_8, r_X5_fail_11, r_X5_fail_12, r_X5_fail_15, r_X5_fail_18, r_X5_fail_19, r_X5_fail_20, r_X5_fail_23, r_X5_fail_26, r_X5_fail_27, r_X5_fail_30, r_X5_fail_31, r_X5_fail_32, r_X5_fail_35, r_X5_fail_38, r_X5_fail_39, r_X5_fail_42, r_X5_fail_43, r_X5_fail_44, r_X5_fail_45, r_X5_fail_48, r_X5_fail_49, r_X5_fail_50, r_X5_fail_51, r_X5_fail_54, r_X5_fail_55, r_X5_fail_56, r_X5_fail_59, r_X5_fail_60, r_X5_fail_61, r_X5_fail_62, r_X5_fail_63, c_noWork hn h5 h0, Option.toList, List.cons_append, List.nil_append, c_throwsIf0, if_true, h6, c_throwsIf1, i10, if_false, tl_b0, true_and]
      exact ⟨0, rfl, ⟨inv_thr _ (inv_thr _ hI0), rfl, fun q => absurd q (by decide)⟩, Or.inl rfl⟩
    · have hbq : tb (σ.1 7) w = isA 1 st w := by
        rw [hQ.2.1]
        exact mk_tb hn hw
      have h1 := iQ_is hn hQ 1 (by decide) w hw
      rw [show nI 1 = (1 : Int32) from rfl] at h1
      simp only [r_L_fail, r_L_fail_0, r_L_fail_1, r_L_fail_2, r_L_fail_3, r_L_fail_4, r_L_fail_7, r_L_fail_10, r_L_fail_11, r_L_fail_14, r_L_fail_15, r_L_fail_16, r_L_fail_20, r_L_fail_21, r_L_fail_23, r_L_fail_24, r_L_fail_25, r_L_fail_26, Nat.le_refl, Nat.reduceSub, Nat.reduceLeDiff, true_and, r_X4_fail, r_X4_fail_0, r_X4_fail_1, r_X4_fail_2, r_X4_fail_5, r_X4_fail_6, r_X4_fail_9, r_X4_fail_10, r_X4_fail_13, r_X4_fail_14, r_X4_fail_17, c_reqW hn hW.1.2.1 hw, Option.toList, List.cons_append, List.nil_append, c_reqN g1]
      rw [c_stumble (by omega), hbq]
      by_cases q : st w = 1
      · rw [if_pos (show isA 1 st w = true from decide_eq_true q)]
        simp only [Option.toList, List.cons_append, List.nil_append, r_X4_fail_0, r_X4_fail_1, r_X4_fail_2, r_X4_fail_5, r_X4_fail_6, r_X4_fail_9, r_X4_fail_10, r_X4_fail_13, r_X4_fail_14, r_X4_fail_17, r_L_fail_0, r_L_fail_1, r_L_fail_2, r_L_fail_3, r_L_fail_4, r_L_fail_7, r_L_fail_10, r_L_fail_11, r_L_fail_14, r_L_fail_15, r_L_fail_16, r_L_fail_20, r_L_fail_21, r_L_fail_23, r_L_fail_24, r_L_fail_25, r_L_fail_26, tl_b1, true_and, i10, if_false, v01, cl0]
        refine ⟨0, rfl, ?_⟩
        rw [c_mfail (σ := ex_sB (ex_sA σ 6 w (σ.2.2.1 27 w)) 58 0 1) hn hW.2.1.2.2.1 hw g2, if_pos (show (ex_sB (ex_sA σ 6 w (σ.2.2.1 27 w)) 58 0 1).2.2.1 55 w = 1 from h1.mpr q)]
        have ht27 : σ.2.2.1 27 w = σ.2.2.1 33 w := by rw [(hW.2.2.2.2.1 w hw).1, (hW.2.2.2.2.2.1 w hw).1]
        refine ⟨1, rfl, ⟨⟨⟨n, m, nr, nd, t, h, wt, ha, al, so, hW, hP, Or.inr ⟨g1, g2, g3, g4, g5, st, th, hQ.1, hQ.2.1, hQ.2.2.1, fun k hk => ?_⟩⟩, s, l, ch, cp, fr, to, hS⟩, rfl, fun _ => rfl⟩, Or.inr rfl⟩
        obtain ⟨y1, y2, y3, y4, y5, y6⟩ := hQ.2.2.2 k hk
        show σ.2.2.1 55 k = nI (st k) ∧ st k ≤ 2 ∧ σ.2.2.1 57 k = (if th k = true then 1 else 0) ∧ (th k = true → st k ≠ 0) ∧ (st k = 1 → (if k = w then σ.2.2.1 27 w else σ.2.2.1 6 k) = (if k = w then σ.2.2.1 33 w else σ.2.2.1 56 k)) ∧ (st k ≠ 1 → (if k = w then σ.2.2.1 27 w else σ.2.2.1 6 k) = 0)
        by_cases e : k = w
        · subst e
          simp only [if_true]
          exact ⟨y1, y2, y3, y4, fun _ => ht27, fun q2 => absurd q q2⟩
        · simp only [if_neg e]
          exact ⟨y1, y2, y3, y4, y5, y6⟩
      · rw [if_neg (show ¬ isA 1 st w = true from fun q2 => q (of_decide_eq_true q2))]
        simp only [Option.toList, List.cons_append, List.nil_append, r_X4_fail_0, r_X4_fail_1, r_X4_fail_2, r_X4_fail_5, r_X4_fail_6, r_X4_fail_9, r_X4_fail_10, r_X4_fail_13, r_X4_fail_14, r_X4_fail_17, r_L_fail_0, r_L_fail_1, r_L_fail_2, r_L_fail_3, r_L_fail_4, r_L_fail_7, r_L_fail_10, r_L_fail_11, r_L_fail_14, r_L_fail_15, r_L_fail_16, r_L_fail_20, r_L_fail_21, r_L_fail_23, r_L_fail_24, r_L_fail_25, r_L_fail_26, tl_b0, true_and, if_true, v01, cl0]
        refine ⟨0, rfl, ?_⟩
        rw [c_mfail (σ := ex_sB σ 58 0 0) hn hW.2.1.2.2.1 hw g2, if_neg (show ¬ (ex_sB σ 58 0 0).2.2.1 55 w = 1 from fun q2 => q (h1.mp q2))]
        exact ⟨0, rfl, ⟨inv_thr _ (inv_out _ hI0), rfl, fun _ => rfl⟩, Or.inl rfl⟩
  · simp only [r_L_fail, r_L_fail_0, r_L_fail_1, r_L_fail_2, r_L_fail_3, r_L_fail_4, r_L_fail_7, r_L_fail_10, r_L_fail_11, r_L_fail_14, r_L_fail_15, r_L_fail_16, r_L_fail_20, r_L_fail_21, r_L_fail_23, r_L_fail_24, r_L_fail_25, r_L_fail_26, Nat.le_refl, Nat.reduceSub, Nat.reduceLeDiff, true_and, r_X4_fail, r_X4_fail_0, r_X4_fail_1, r_X4_fail_2, r_X4_fail_5, r_X4_fail_6, r_X4_fail_9, r_X4_fail_10, r_X4_fail_13, r_X4_fail_14, r_X4_fail_17, c_reqWT hn hW.1.2.1 h0, xc_fail_1]
    refine ⟨1, rfl, ?_⟩
    have h5 : (ex_sF σ 500 0).1 505 = nI n := hW.2.1.2.2.1
    simp only [r_X5_fail, r_X5_fail_0, r_X5_fail_1, r_X5_fail_2, r_X5_fail_5, r_X5_fail_6, r_X5_fail_7, r_X5_fail_8, r_X5_fail_11, r_X5_fail_12, r_X5_fail_15, r_X5_fail_18, r_X5_fail_19, r_X5_fail_20, r_X5_fail_23, r_X5_fail_26, r_X5_fail_27, r_X5_fail_30, r_X5_fail_31, r_X5_fail_32, r_X5_fail_35, r_X5_fail_38, r_X5_fail_39, r_X5_fail_42, r_X5_fail_43, r_X5_fail_44, r_X5_fail_45, r_X5_fail_48, r_X5_fail_49, r_X5_fail_50, r_X5_fail_51, r_X5_fail_54, r_X5_fail_55, r_X5_fail_56, r_X5_fail_59, r_X5_fail_60, r_X5_fail_61, r_X5_fail_62, r_X5_fail_63, c_noWorkT hn h5 h0, Option.toList, List.cons_append, List.nil_append, c_throwsIf1, i10, if_false, tl_b0, true_and]
    exact ⟨0, rfl, ⟨inv_thr _ (inv_thr _ hI0), rfl, fun q => absurd q (by decide)⟩, Or.inl rfl⟩
end OG
