/-! ===== the class's planner: the search, its walk ===== -/
section PE
variable {n H : Nat} {t h wt N od bw S : Nat → Nat}
theorem tl_anc (a b : Int32) : a + b + -b = a := by rw [Int32.add_assoc, Int32.add_right_neg, Int32.add_zero]
theorem c_explore_step {d dp p fr : Nat} {la : Int32} {b bf : Nat → Nat} {σ : ex_S} {E : ex_O → ex_S → Prop} (hx : xS σ n H t h wt N od bw) (hS : xOpt n H t h wt N S) (hN : xN σ n H dp p fr t h N b) (hL : xL la n p fr b) (hEr : xE σ n dp p od bf) (hW : xW σ n H t h wt N) (hK : xK σ) (hB : xB σ n H t h wt N)
    (hrec : ∀ (p2 fr2 l2 : Nat) (b2 bf2 : Nat → Nat) (τ : ex_S) (E2 : ex_O → ex_S → Prop), dp + 1 ≤ n → xS τ n H t h wt N od bw → xN τ n H (dp + 1) p2 fr2 t h N b2 → xL (nI l2) n p2 fr2 b2 → xE τ n (dp + 1) p2 od bf2 → xW τ n H t h wt N → xK τ → xB τ n H t h wt N → (∀ ρ, xO τ ρ n H (dp + 1) p2 t h wt N → (xP n p2 b2 bf2 S → xLe ρ n H t h wt N (pl_V n t wt (2 ^ n - 1) S)) → E2 (.inl none) ρ) → ex_C (d + 3) 15 [.ref 1, .int (nI (dp + 1)), .int (nI p2), .int (nI l2), .int (nI (pl_A n t wt p2 b2)), .long (lN (pl_K n p2 b2))] τ E2)
    (hE : ∀ ρ, xO σ ρ n H dp p t h wt N → (xP n p b bf S → xLe ρ n H t h wt N (pl_V n t wt (2 ^ n - 1) S)) → E (.inl none) ρ) : ex_C (d + 4) 15 [.ref 1, .int (nI dp), .int (nI p), .int la, .int (nI (pl_A n t wt p b)), .long (lN (pl_K n p b))] σ E := by
  have hx0 := hx
  obtain ⟨hn, hH, h3, h4, h5, h6, h7, h8, h9⟩ := hx
  obtain ⟨hS1, hS2, hS3⟩ := hS
  obtain ⟨n1, n2, n3, n4, n5, n6⟩ := hN
  have hp8 := tl_p8 hn
  have hpow := Nat.two_pow_pos n
  have hNn : ∀ w, w < n → N w < 2 ^ n := fun w hw => (h5 w hw).2.2.2.2.2.2.2.2
  have ht1 : ∀ w, w < n → 1 ≤ t w := fun w hw => (h5 w hw).2.2.2.2.1
  have ht12 : ∀ w, w < n → t w ≤ 12 := fun w hw => (h5 w hw).2.2.2.2.2.1
  have hwt : ∀ w, w < n → wt w ≤ 100 := fun w hw => (h5 w hw).2.2.2.2.2.2.2.1
  have hh8 : ∀ w, w < n → h w ≤ 8 := fun w hw => by
    have := (h5 w hw).2.2.2.2.2.2.1
    omega
  have hdp : dp ≤ n := by
    have := tl_ct_le (fun i => p.testBit i) n
    omega
  have hA : pl_A n t wt p b ≤ 800 * 108 := pl_A_bd hn hwt (fun w hw hp => by
    have := (n3 w hw hp).2.1
    have := ht12 w hw
    omega)
  have hKb : pl_K n p b < 2 ^ 60 := pl_K_bd hn (fun w hw hp => by
    have := (n3 w hw hp).2.1
    omega)
  have hu8 : ∀ x, pl_u n t h p b x ≤ 64 := fun x => pl_u_le hn hh8
  have key24 : ex_r none (d + 3) ex_m_X1_explore E 24 [.ref 1, .int (nI dp), .int (nI p), .int la, .int (nI (pl_A n t wt p b)), .long (lN (pl_K n p b)), .retAddr 0, .int (nI fr), .retAddr 0, .retAddr 0, .retAddr 0, .retAddr 0, .retAddr 0] [] σ 0 := by
    simp only [r_X1_explore_24]
    simp only [r_X1_explore_0, r_X1_explore_1, r_X1_explore_3, r_X1_explore_6, r_X1_explore_7, r_X1_explore_8, r_X1_explore_9, r_X1_explore_12, r_X1_explore_13, r_X1_explore_16, r_X1_explore_17, r_X1_explore_20, r_X1_explore_21, r_X1_explore_22, r_X1_explore_25, r_X1_explore_26, r_X1_explore_27, r_X1_explore_29, r_X1_explore_31, r_X1_explore_33, r_X1_explore_36, r_X1_explore_37, r_X1_explore_40, r_X1_explore_41, r_X1_explore_44, r_X1_explore_45, r_X1_explore_48, r_X1_explore_49, r_X1_explore_52, r_X1_explore_55, r_X1_explore_58, r_X1_explore_59, r_X1_explore_60, r_X1_explore_61, r_X1_explore_64, r_X1_explore_67, r_X1_explore_70, r_X1_explore_71, r_X1_explore_73, r_X1_explore_76, r_X1_explore_77, r_X1_explore_79, r_X1_explore_82, r_X1_explore_83, r_X1_explore_86, r_X1_explore_87, r_X1_explore_88, r_X1_explore_91, r_X1_explore_92, r_X1_explore_94, r_X1_explore_97, r_X1_explore_98, r_X1_explore_99, r_X1_explore_100, r_X1_explore_102, r_X1_explore_104, r_X1_explore_107, r_X1_explore_110, r_X1_explore_111, r_X1_explore_112, r_X1_explore_115, r_X1_explore_117, r_X1_explore_118, r_X1_explore_122, r_X1_explore_123, r_X1_explore_126, r_X1_explore_129, r_X1_explore_132, r_X1_explore_133, r_X1_explore_136, r_X1_explore_138, r_X1_explore_139, r_X1_explore_141, r_X1_explore_142, r_X1_explore_145, r_X1_explore_146, r_X1_explore_148, r_X1_explore_149, r_X1_explore_151, r_X1_explore_152, r_X1_explore_153, r_X1_explore_155, r_X1_explore_156, r_X1_explore_158, r_X1_explore_159, r_X1_explore_160, r_X1_explore_161, r_X1_explore_164, r_X1_explore_165, r_X1_explore_168, r_X1_explore_170, r_X1_explore_171, r_X1_explore_172, r_X1_explore_173, r_X1_explore_174, r_X1_explore_175, r_X1_explore_178, r_X1_explore_179, r_X1_explore_182, r_X1_explore_183, r_X1_explore_185, r_X1_explore_187, r_X1_explore_190, r_X1_explore_192, r_X1_explore_194, r_X1_explore_197, r_X1_explore_199, r_X1_explore_201, r_X1_explore_204, r_X1_explore_206, r_X1_explore_207, r_X1_explore_210, r_X1_explore_213, r_X1_explore_214, r_X1_explore_217, r_X1_explore_219, r_X1_explore_221, r_X1_explore_222, r_X1_explore_223, r_X1_explore_225, r_X1_explore_226, r_X1_explore_229, r_X1_explore_232, r_X1_explore_234, r_X1_explore_235, r_X1_explore_238, r_X1_explore_239, r_X1_explore_240, r_X1_explore_241, r_X1_explore_242, r_X1_explore_243, r_X1_explore_244, r_X1_explore_246, r_X1_explore_247, r_X1_explore_248, r_X1_explore_250, r_X1_explore_252, r_X1_explore_253, r_X1_explore_255, r_X1_explore_257, r_X1_explore_260, r_X1_explore_261, r_X1_explore_263, r_X1_explore_265, r_X1_explore_267, r_X1_explore_270, r_X1_explore_271, r_X1_explore_274, r_X1_explore_275, r_X1_explore_277, r_X1_explore_278, r_X1_explore_281, r_X1_explore_284, r_X1_explore_286, r_X1_explore_287, r_X1_explore_288, r_X1_explore_291, r_X1_explore_294, r_X1_explore_297]
    refine c_hope (bf := bf) (u := pl_u n t h p b) hx0 (by omega) n1 (fun w hw hp => ⟨(n3 w hw hp).1, (n3 w hw hp).2.1⟩) n4 hEr (fun x hx => ⟨n5 x hx, by have := hu8 x; omega⟩) ?_
    rintro e er s f1 ⟨z9, z10, z11⟩ ⟨i1, i2, i3, i4, i5, i6, i7, i8⟩
    simp only at i1 i2 i3 i4 i5 i6 i7 i8
    -- by works, not by places
    have hplace : ∀ w, w < n → ∃ j, j < n ∧ od j = w := fun w hw => (h7 w hw).1
    have hspw : ∀ w, w < n → p.testBit w = false → hSp H t h N fr bf (pl_u n t h p b) e w ∧ s ≤ e w ∧ e w ≤ 180 ∧ (hOpen N p w → f1 ≤ e w + t w) := by
      intro w hw hpw
      obtain ⟨j, hj, e1⟩ := hplace w hw
      have := i2 j hj (by rw [e1]; exact hpw)
      rw [e1] at this
      exact ⟨this.1, this.2.1, by omega, this.2.2.2⟩
    have he180 : ∀ w, w < n → e w ≤ 180 := by
      intro w hw
      by_cases q : p.testBit w = true
      · rw [i1 w hw q]
        have := (n3 w hw q).2.1
        omega
      · exact (hspw w hw (by simpa using q)).2.2.1
    have her : ∀ w, w < n → er (8 * dp + w) = nI (e w) := by
      intro w hw
      obtain ⟨j, hj, e1⟩ := hplace w hw
      rw [← e1]
      exact i3 j hj
    have hAe : pl_A n t wt (2 ^ n - 1) e ≤ 800 * 200 := pl_A_bd hn hwt (fun w hw _ => by
      have := he180 w hw
      have := ht12 w hw
      omega)
    have hKe : pl_K n (2 ^ n - 1) e < 2 ^ 60 := pl_K_bd hn (fun w hw _ => by
      have := he180 w hw
      omega)
    have hfrS : xP n p b bf S → ∀ w, w < n → p.testBit w = false → fr ≤ S w := by
      intro hP w hw hpw
      rcases hL with ⟨_, hf, _⟩ | ⟨l, l1, l2, l3, l4⟩
      · omega
      · rw [← l4, hP.1 l l1 l3]
        exact xP_low hP l1 hw l3 hpw
    have hbfr : ∀ w, w < n → p.testBit w = true → b w ≤ fr := fun w hw hp => (n3 w hw hp).2.2
    have heS : xP n p b bf S → ∀ w, w < n → p.testBit w = false → e w ≤ S w := by
      intro hP w hw hpw
      obtain ⟨j, hj, e1⟩ := hplace w hw
      have := xe_le (od := od) hS1 hS3 hNn ht1 hP (hfrS hP) (fun i hi => (h6 i hi).2.1) h9 i1 (fun j hj hq => (i2 j hj hq).1) j hj (by rw [e1]; exact hpw)
      rw [e1] at this
      exact this
    have heS2 : xP n p b bf S → pl_V n t wt (2 ^ n - 1) e ≤ pl_V n t wt (2 ^ n - 1) S := by
      intro hP
      apply pl_V_le
      intro w hw _
      by_cases q : p.testBit w = true
      · rw [i1 w hw q, hP.1 w hw q]
        exact Nat.le_refl _
      · exact heS hP w hw (by simpa using q)
    have hz1F := xF_hz σ er (nI (pl_A n t wt (2 ^ n - 1) e)) (lN (pl_K n (2 ^ n - 1) e)) (nI s) (nI f1)
    have hz1O : xO σ (hz σ er (nI (pl_A n t wt (2 ^ n - 1) e)) (lN (pl_K n (2 ^ n - 1) e)) (nI s) (nI f1)) n H dp p t h wt N := ⟨hz1F, fun w _ _ => rfl, fun x _ => rfl, fun x hx => i4 x hx, xW_eq rfl rfl hW, xK_eq rfl hK, xB_eq rfl rfl rfl hB, fun X hX => xLe_eq rfl rfl rfl hX⟩
    obtain ⟨ab, kb, q1, q2, q3, q4, q5⟩ : ∃ ab kb, σ.1 112 = nI ab ∧ σ.2.1 113 = lN kb ∧ ab < 2 ^ 31 ∧ kb < 2 ^ 60 ∧ ((ab = 1000000 ∧ ∀ X, ¬ xLe σ n H t h wt N X) ∨ ∃ c, xC σ n H t h wt N c ∧ ab = pl_A n t wt (2 ^ n - 1) c ∧ kb = pl_K n (2 ^ n - 1) c ∧ ∀ X, xLe σ n H t h wt N X → pl_V n t wt (2 ^ n - 1) c ≤ X) := by
      rcases hB with ⟨g1, g2⟩ | ⟨c, hc⟩
      · refine ⟨1000000, 0, g1, g2, by decide, by decide, Or.inl ⟨rfl, ?_⟩⟩
        rintro X ⟨c, hc, _⟩
        have g3 := hc.2.2.1
        rw [g1] at g3
        have g4 : pl_A n t wt (2 ^ n - 1) c ≤ 800 * 108 := pl_A_bd hn hwt (fun w hw _ => by
          have := hc.2.1 w hw
          have := ht12 w hw
          omega)
        have := (nI_eq (by decide) (by omega)).mp g3
        omega
      · have g4 : pl_A n t wt (2 ^ n - 1) c ≤ 800 * 108 := pl_A_bd hn hwt (fun w hw _ => by
          have := hc.2.1 w hw
          have := ht12 w hw
          omega)
        refine ⟨_, _, hc.2.2.1, hc.2.2.2.1, by omega, pl_K_bd hn (fun w hw _ => by have := hc.2.1 w hw; omega), Or.inr ⟨c, hc, rfl, rfl, ?_⟩⟩
        rintro X ⟨c2, hc2, hX⟩
        have he : ∀ w, w < n → (2 ^ n - 1).testBit w = true → c2 w = c w := fun w hw _ => by
          have y1 := hc.2.2.2.2 w hw
          rw [hc2.2.2.2.2 w hw] at y1
          exact (nI_eq (by have := hc2.2.1 w hw; omega) (by have := hc.2.1 w hw; omega)).mp y1
        unfold pl_V at hX ⊢
        rw [pl_A_congr he, pl_K_congr he] at hX
        exact hX
    simp only [Option.toList, List.nil_append, r_X1_explore_0, r_X1_explore_1, r_X1_explore_3, r_X1_explore_6, r_X1_explore_7, r_X1_explore_8, r_X1_explore_9, r_X1_explore_12, r_X1_explore_13, r_X1_explore_16, r_X1_explore_17, r_X1_explore_20, r_X1_explore_21, r_X1_explore_22, r_X1_explore_25, r_X1_explore_26, r_X1_explore_27, r_X1_explore_29, r_X1_explore_31, r_X1_explore_33, r_X1_explore_36, r_X1_explore_37, r_X1_explore_40, r_X1_explore_41, r_X1_explore_44, r_X1_explore_45, r_X1_explore_48, r_X1_explore_49, r_X1_explore_52, r_X1_explore_55, r_X1_explore_58, r_X1_explore_59, r_X1_explore_60, r_X1_explore_61, r_X1_explore_64, r_X1_explore_67, r_X1_explore_70, r_X1_explore_71, r_X1_explore_73, r_X1_explore_76, r_X1_explore_77, r_X1_explore_79, r_X1_explore_82, r_X1_explore_83, r_X1_explore_86, r_X1_explore_87, r_X1_explore_88, r_X1_explore_91, r_X1_explore_92, r_X1_explore_94, r_X1_explore_97, r_X1_explore_98, r_X1_explore_99, r_X1_explore_100, r_X1_explore_102, r_X1_explore_104, r_X1_explore_107, r_X1_explore_110, r_X1_explore_111, r_X1_explore_112, r_X1_explore_115, r_X1_explore_117, r_X1_explore_118, r_X1_explore_122, r_X1_explore_123, r_X1_explore_126, r_X1_explore_129, r_X1_explore_132, r_X1_explore_133, r_X1_explore_136, r_X1_explore_138, r_X1_explore_139, r_X1_explore_141, r_X1_explore_142, r_X1_explore_145, r_X1_explore_146, r_X1_explore_148, r_X1_explore_149, r_X1_explore_151, r_X1_explore_152, r_X1_explore_153, r_X1_explore_155, r_X1_explore_156, r_X1_explore_158, r_X1_explore_159, r_X1_explore_160, r_X1_explore_161, r_X1_explore_164, r_X1_explore_165, r_X1_explore_168, r_X1_explore_170, r_X1_explore_171, r_X1_explore_172, r_X1_explore_173, r_X1_explore_174, r_X1_explore_175, r_X1_explore_178, r_X1_explore_179, r_X1_explore_182, r_X1_explore_183, r_X1_explore_185, r_X1_explore_187, r_X1_explore_190, r_X1_explore_192, r_X1_explore_194, r_X1_explore_197, r_X1_explore_199, r_X1_explore_201, r_X1_explore_204, r_X1_explore_206, r_X1_explore_207, r_X1_explore_210, r_X1_explore_213, r_X1_explore_214, r_X1_explore_217, r_X1_explore_219, r_X1_explore_221, r_X1_explore_222, r_X1_explore_223, r_X1_explore_225, r_X1_explore_226, r_X1_explore_229, r_X1_explore_232, r_X1_explore_234, r_X1_explore_235, r_X1_explore_238, r_X1_explore_239, r_X1_explore_240, r_X1_explore_241, r_X1_explore_242, r_X1_explore_243, r_X1_explore_244, r_X1_explore_246, r_X1_explore_247, r_X1_explore_248, r_X1_explore_250, r_X1_explore_252, r_X1_explore_253, r_X1_explore_255, r_X1_explore_257, r_X1_explore_260, r_X1_explore_261, r_X1_explore_263, r_X1_explore_265, r_X1_explore_267, r_X1_explore_270, r_X1_explore_271, r_X1_explore_274, r_X1_explore_275, r_X1_explore_277, r_X1_explore_278, r_X1_explore_281, r_X1_explore_284, r_X1_explore_286, r_X1_explore_287, r_X1_explore_288, r_X1_explore_291, r_X1_explore_294, r_X1_explore_297, hz_1, hz_2, Nat.reduceEqDiff, if_false, if_true, q1, q2]
    rw [c_isLess (by omega) q3 hKe q4]
    simp only [Option.toList, List.cons_append, List.nil_append, r_X1_explore_0, r_X1_explore_1, r_X1_explore_3, r_X1_explore_6, r_X1_explore_7, r_X1_explore_8, r_X1_explore_9, r_X1_explore_12, r_X1_explore_13, r_X1_explore_16, r_X1_explore_17, r_X1_explore_20, r_X1_explore_21, r_X1_explore_22, r_X1_explore_25, r_X1_explore_26, r_X1_explore_27, r_X1_explore_29, r_X1_explore_31, r_X1_explore_33, r_X1_explore_36, r_X1_explore_37, r_X1_explore_40, r_X1_explore_41, r_X1_explore_44, r_X1_explore_45, r_X1_explore_48, r_X1_explore_49, r_X1_explore_52, r_X1_explore_55, r_X1_explore_58, r_X1_explore_59, r_X1_explore_60, r_X1_explore_61, r_X1_explore_64, r_X1_explore_67, r_X1_explore_70, r_X1_explore_71, r_X1_explore_73, r_X1_explore_76, r_X1_explore_77, r_X1_explore_79, r_X1_explore_82, r_X1_explore_83, r_X1_explore_86, r_X1_explore_87, r_X1_explore_88, r_X1_explore_91, r_X1_explore_92, r_X1_explore_94, r_X1_explore_97, r_X1_explore_98, r_X1_explore_99, r_X1_explore_100, r_X1_explore_102, r_X1_explore_104, r_X1_explore_107, r_X1_explore_110, r_X1_explore_111, r_X1_explore_112, r_X1_explore_115, r_X1_explore_117, r_X1_explore_118, r_X1_explore_122, r_X1_explore_123, r_X1_explore_126, r_X1_explore_129, r_X1_explore_132, r_X1_explore_133, r_X1_explore_136, r_X1_explore_138, r_X1_explore_139, r_X1_explore_141, r_X1_explore_142, r_X1_explore_145, r_X1_explore_146, r_X1_explore_148, r_X1_explore_149, r_X1_explore_151, r_X1_explore_152, r_X1_explore_153, r_X1_explore_155, r_X1_explore_156, r_X1_explore_158, r_X1_explore_159, r_X1_explore_160, r_X1_explore_161, r_X1_explore_164, r_X1_explore_165, r_X1_explore_168, r_X1_explore_170, r_X1_explore_171, r_X1_explore_172, r_X1_explore_173, r_X1_explore_174, r_X1_explore_175, r_X1_explore_178, r_X1_explore_179, r_X1_explore_182, r_X1_explore_183, r_X1_explore_185, r_X1_explore_187, r_X1_explore_190, r_X1_explore_192, r_X1_explore_194, r_X1_explore_197, r_X1_explore_199, r_X1_explore_201, r_X1_explore_204, r_X1_explore_206, r_X1_explore_207, r_X1_explore_210, r_X1_explore_213, r_X1_explore_214, r_X1_explore_217, r_X1_explore_219, r_X1_explore_221, r_X1_explore_222, r_X1_explore_223, r_X1_explore_225, r_X1_explore_226, r_X1_explore_229, r_X1_explore_232, r_X1_explore_234, r_X1_explore_235, r_X1_explore_238, r_X1_explore_239, r_X1_explore_240, r_X1_explore_241, r_X1_explore_242, r_X1_explore_243, r_X1_explore_244, r_X1_explore_246, r_X1_explore_247, r_X1_explore_248, r_X1_explore_250, r_X1_explore_252, r_X1_explore_253, r_X1_explore_255, r_X1_explore_257, r_X1_explore_260, r_X1_explore_261, r_X1_explore_263, r_X1_explore_265, r_X1_explore_267, r_X1_explore_270, r_X1_explore_271, r_X1_explore_274, r_X1_explore_275, r_X1_explore_277, r_X1_explore_278, r_X1_explore_281, r_X1_explore_284, r_X1_explore_286, r_X1_explore_287, r_X1_explore_288, r_X1_explore_291, r_X1_explore_294, r_X1_explore_297]
    by_cases hless : pl_A n t wt (2 ^ n - 1) e * 2 ^ 60 + pl_K n (2 ^ n - 1) e < ab * 2 ^ 60 + kb
    · rw [if_pos hless, if_neg (by decide), c_everyWork2 (σ := hz σ er (nI (pl_A n t wt (2 ^ n - 1) e)) (lN (pl_K n (2 ^ n - 1) e)) (nI s) (nI f1)) hn h3]
      simp only [Option.toList, List.cons_append, List.nil_append, r_X1_explore_0, r_X1_explore_1, r_X1_explore_3, r_X1_explore_6, r_X1_explore_7, r_X1_explore_8, r_X1_explore_9, r_X1_explore_12, r_X1_explore_13, r_X1_explore_16, r_X1_explore_17, r_X1_explore_20, r_X1_explore_21, r_X1_explore_22, r_X1_explore_25, r_X1_explore_26, r_X1_explore_27, r_X1_explore_29, r_X1_explore_31, r_X1_explore_33, r_X1_explore_36, r_X1_explore_37, r_X1_explore_40, r_X1_explore_41, r_X1_explore_44, r_X1_explore_45, r_X1_explore_48, r_X1_explore_49, r_X1_explore_52, r_X1_explore_55, r_X1_explore_58, r_X1_explore_59, r_X1_explore_60, r_X1_explore_61, r_X1_explore_64, r_X1_explore_67, r_X1_explore_70, r_X1_explore_71, r_X1_explore_73, r_X1_explore_76, r_X1_explore_77, r_X1_explore_79, r_X1_explore_82, r_X1_explore_83, r_X1_explore_86, r_X1_explore_87, r_X1_explore_88, r_X1_explore_91, r_X1_explore_92, r_X1_explore_94, r_X1_explore_97, r_X1_explore_98, r_X1_explore_99, r_X1_explore_100, r_X1_explore_102, r_X1_explore_104, r_X1_explore_107, r_X1_explore_110, r_X1_explore_112, r_X1_explore_115, r_X1_explore_117, r_X1_explore_118, r_X1_explore_122, r_X1_explore_123, r_X1_explore_126, r_X1_explore_129, r_X1_explore_132, r_X1_explore_133, r_X1_explore_136, r_X1_explore_138, r_X1_explore_139, r_X1_explore_141, r_X1_explore_142, r_X1_explore_145, r_X1_explore_146, r_X1_explore_148, r_X1_explore_149, r_X1_explore_151, r_X1_explore_152, r_X1_explore_153, r_X1_explore_155, r_X1_explore_156, r_X1_explore_158, r_X1_explore_159, r_X1_explore_160, r_X1_explore_161, r_X1_explore_164, r_X1_explore_165, r_X1_explore_168, r_X1_explore_170, r_X1_explore_171, r_X1_explore_172, r_X1_explore_173, r_X1_explore_174, r_X1_explore_175, r_X1_explore_178, r_X1_explore_179, r_X1_explore_182, r_X1_explore_183, r_X1_explore_185, r_X1_explore_187, r_X1_explore_190, r_X1_explore_192, r_X1_explore_194, r_X1_explore_197, r_X1_explore_199, r_X1_explore_201, r_X1_explore_204, r_X1_explore_206, r_X1_explore_207, r_X1_explore_210, r_X1_explore_213, r_X1_explore_214, r_X1_explore_217, r_X1_explore_219, r_X1_explore_221, r_X1_explore_222, r_X1_explore_223, r_X1_explore_225, r_X1_explore_226, r_X1_explore_229, r_X1_explore_232, r_X1_explore_234, r_X1_explore_235, r_X1_explore_238, r_X1_explore_239, r_X1_explore_240, r_X1_explore_241, r_X1_explore_242, r_X1_explore_243, r_X1_explore_244, r_X1_explore_246, r_X1_explore_247, r_X1_explore_248, r_X1_explore_250, r_X1_explore_252, r_X1_explore_253, r_X1_explore_255, r_X1_explore_257, r_X1_explore_260, r_X1_explore_261, r_X1_explore_263, r_X1_explore_265, r_X1_explore_267, r_X1_explore_270, r_X1_explore_271, r_X1_explore_274, r_X1_explore_275, r_X1_explore_277, r_X1_explore_278, r_X1_explore_281, r_X1_explore_284, r_X1_explore_286, r_X1_explore_287, r_X1_explore_288, r_X1_explore_291, r_X1_explore_294, r_X1_explore_297, tl_eq (show p < 2 ^ 31 by omega) (show 2 ^ n - 1 < 2 ^ 31 by omega)]
      by_cases hfull : p = 2 ^ n - 1
      · rw [if_pos hfull]
        subst hfull
        have heb : ∀ w, w < n → (2 ^ n - 1).testBit w = true → e w = b w := i1
        have hVe : pl_V n t wt (2 ^ n - 1) e = pl_V n t wt (2 ^ n - 1) b := by
          unfold pl_V
          rw [pl_A_congr heb, pl_K_congr heb]
        refine ⟨by decide, by decide, by decide, by decide, by decide, ?_⟩
        have hC : xC (ex_row (ex_sG (ex_sF (hz σ er (nI (pl_A n t wt (2 ^ n - 1) e)) (lN (pl_K n (2 ^ n - 1) e)) (nI s) (nI f1)) 112 (nI (pl_A n t wt (2 ^ n - 1) b))) 113 (lN (pl_K n (2 ^ n - 1) b))) 15 (va_cpy (σ.2.2.1 11) (σ.2.2.1 15) (0 : Int32).toNatClampNeg (0 : Int32).toNatClampNeg (8 : Int32).toNatClampNeg)) n H t h wt N b := by
          refine ⟨n2, fun w hw => (n3 w hw (pl_fb hw)).2.1, rfl, rfl, fun w hw => ?_⟩
          rw [s_r3, if_pos rfl]
          show (if 0 ≤ w ∧ w < 0 + 8 then σ.2.2.1 11 (0 + (w - 0)) else σ.2.2.1 15 w) = nI (b w)
          rw [if_pos (by omega), show 0 + (w - 0) = w by omega]
          exact (n3 w hw (pl_fb hw)).1
        apply hE
        · refine ⟨xF_trans hz1F (xF_trans (xF_sF _ _) (xF_trans (xF_sG _ _) (xF_row _ _ _ (by decide)))), fun w _ _ => rfl, fun x _ => rfl, fun x hx => i4 x hx, xW_eq rfl rfl hW, xK_eq rfl hK, Or.inr ⟨b, hC⟩, fun X hX => ⟨b, hC, ?_⟩⟩
          rcases q5 with ⟨_, g2⟩ | ⟨c, g1, g2, g3, g4⟩
          · exact absurd hX (g2 X)
          · have := g4 X hX
            rw [g2, g3] at hless
            rw [← hVe]
            unfold pl_V at this ⊢
            generalize (2 : Nat) ^ 60 = B at hless this ⊢
            omega
        · intro hP
          exact ⟨b, hC, by rw [← hVe]; exact heS2 hP⟩
      · rw [if_neg hfull]
        have hcont : ∀ τ, xF σ τ → τ.2.2.1 10 = σ.2.2.1 10 → τ.2.2.1 11 = σ.2.2.1 11 → τ.2.2.1 12 = er → τ.1 112 = σ.1 112 → τ.2.1 113 = σ.2.1 113 → τ.2.2.1 15 = σ.2.2.1 15 → xW τ n H t h wt N → xK τ → τ.1 117 = nI f1 → ex_r none (d + 3) ex_m_X1_explore E 111 [.ref 1, .int (nI dp), .int (nI p), .int la, .int (nI (pl_A n t wt p b)), .long (lN (pl_K n p b)), .retAddr 0, .int (nI fr), .retAddr 0, .retAddr 0, .retAddr 0, .retAddr 0, .retAddr 0] [] τ 0 := by
          intro τ0 c1 c2 c3 c4 c5 c6 c7 c8 c9 c10
          simp only [r_X1_explore_111]
          simp only [r_X1_explore_0, r_X1_explore_1, r_X1_explore_3, r_X1_explore_6, r_X1_explore_7, r_X1_explore_8, r_X1_explore_9, r_X1_explore_12, r_X1_explore_13, r_X1_explore_16, r_X1_explore_17, r_X1_explore_20, r_X1_explore_21, r_X1_explore_22, r_X1_explore_25, r_X1_explore_26, r_X1_explore_27, r_X1_explore_29, r_X1_explore_31, r_X1_explore_33, r_X1_explore_36, r_X1_explore_37, r_X1_explore_40, r_X1_explore_41, r_X1_explore_44, r_X1_explore_45, r_X1_explore_48, r_X1_explore_49, r_X1_explore_52, r_X1_explore_55, r_X1_explore_58, r_X1_explore_59, r_X1_explore_60, r_X1_explore_61, r_X1_explore_64, r_X1_explore_67, r_X1_explore_70, r_X1_explore_71, r_X1_explore_73, r_X1_explore_76, r_X1_explore_77, r_X1_explore_79, r_X1_explore_82, r_X1_explore_83, r_X1_explore_86, r_X1_explore_87, r_X1_explore_88, r_X1_explore_91, r_X1_explore_92, r_X1_explore_94, r_X1_explore_97, r_X1_explore_98, r_X1_explore_99, r_X1_explore_100, r_X1_explore_102, r_X1_explore_104, r_X1_explore_107, r_X1_explore_110, r_X1_explore_112, r_X1_explore_115, r_X1_explore_117, r_X1_explore_118, r_X1_explore_122, r_X1_explore_123, r_X1_explore_126, r_X1_explore_129, r_X1_explore_132, r_X1_explore_133, r_X1_explore_136, r_X1_explore_138, r_X1_explore_139, r_X1_explore_141, r_X1_explore_142, r_X1_explore_145, r_X1_explore_146, r_X1_explore_148, r_X1_explore_149, r_X1_explore_151, r_X1_explore_152, r_X1_explore_153, r_X1_explore_155, r_X1_explore_156, r_X1_explore_158, r_X1_explore_159, r_X1_explore_160, r_X1_explore_161, r_X1_explore_164, r_X1_explore_165, r_X1_explore_168, r_X1_explore_170, r_X1_explore_171, r_X1_explore_172, r_X1_explore_173, r_X1_explore_174, r_X1_explore_175, r_X1_explore_178, r_X1_explore_179, r_X1_explore_182, r_X1_explore_183, r_X1_explore_185, r_X1_explore_187, r_X1_explore_190, r_X1_explore_192, r_X1_explore_194, r_X1_explore_197, r_X1_explore_199, r_X1_explore_201, r_X1_explore_204, r_X1_explore_206, r_X1_explore_207, r_X1_explore_210, r_X1_explore_213, r_X1_explore_214, r_X1_explore_217, r_X1_explore_219, r_X1_explore_221, r_X1_explore_222, r_X1_explore_223, r_X1_explore_225, r_X1_explore_226, r_X1_explore_229, r_X1_explore_232, r_X1_explore_234, r_X1_explore_235, r_X1_explore_238, r_X1_explore_239, r_X1_explore_240, r_X1_explore_241, r_X1_explore_242, r_X1_explore_243, r_X1_explore_244, r_X1_explore_246, r_X1_explore_247, r_X1_explore_248, r_X1_explore_250, r_X1_explore_252, r_X1_explore_253, r_X1_explore_255, r_X1_explore_257, r_X1_explore_260, r_X1_explore_261, r_X1_explore_263, r_X1_explore_265, r_X1_explore_267, r_X1_explore_270, r_X1_explore_271, r_X1_explore_274, r_X1_explore_275, r_X1_explore_277, r_X1_explore_278, r_X1_explore_281, r_X1_explore_284, r_X1_explore_286, r_X1_explore_287, r_X1_explore_288, r_X1_explore_291, r_X1_explore_294, r_X1_explore_297, c10]
          have hloop := tl_fori (τ := ex_S × Value × Value × Value)
            (I := fun i z => xF σ z.1 ∧ (∀ w, w < n → p.testBit w = true → z.1.2.2.1 11 w = σ.2.2.1 11 w) ∧ (∀ x, x < 96 → z.1.2.2.1 10 x = σ.2.2.1 10 x) ∧ (∀ x, x < 8 * (dp + 1) → z.1.2.2.1 12 x = er x) ∧ xW z.1 n H t h wt N ∧ xK z.1 ∧ xB z.1 n H t h wt N ∧ (∀ X, xLe σ n H t h wt N X → xLe z.1 n H t h wt N X) ∧ (xP n p b bf S → ∀ j, j < i → xNext n p S (bw j) → xLe z.1 n H t h wt N (pl_V n t wt (2 ^ n - 1) S)))
            (A := fun i z => ex_r none (d + 3) ex_m_X1_explore E 120 [.ref 1, .int (nI dp), .int (nI p), .int la, .int (nI (pl_A n t wt p b)), .long (lN (pl_K n p b)), .retAddr 0, .int (nI fr), .int (nI f1), .int (nI i), z.2.1, z.2.2.1, z.2.2.2] [] z.1 0) (n := n) ?_ ?_
          · exact hloop (τ0, .retAddr 0, .retAddr 0, .retAddr 0) ⟨c1, fun w _ _ => by rw [c3], fun x _ => by rw [c2], fun x _ => by rw [c4], c8, c9, xB_eq c5 c6 c7 hB, fun X hX => xLe_eq c5 c6 c7 hX, fun _ j hj => absurd hj (by omega)⟩
          · rintro i hi ⟨τ, z10, z11, z12⟩ ⟨j1, j2, j3, j4, j5, j6, j7, j8, j9⟩ hnext
            simp only at j1 j2 j3 j4 j5 j6 j7 j8 j9 hnext ⊢
            have hxτ := xS_fr j1 hx0
            obtain ⟨_, _, k3, k4, k5, k6, _, _, _⟩ := hxτ
            obtain ⟨_, _, kw1, kw2⟩ := k6 i hi
            generalize hwd : bw i = w at kw1 kw2
            obtain ⟨kt, kh, kwt, kM, _, kt2, kh2, kwt2, kMn⟩ := k5 w kw2
            have hw8 := tl_in (show w < 8 by omega) (show 8 < 2 ^ 31 by omega)
            have hwc := tl_cl (show w < 2 ^ 31 by omega)
            have hew := he180 w kw2
            have hdf := tl_df_lt kMn p
            have hrow : τ.2.2.1 12 (8 * dp + w) = nI (e w) := by
              rw [j4 _ (by omega)]
              exact her w kw2
            -- a work that is passed over isn't the next one
            have skip : (xP n p b bf S → xNext n p S w → False) → ∀ z10 z11 z12, ex_r none (d + 3) ex_m_X1_explore E 120 [.ref 1, .int (nI dp), .int (nI p), .int la, .int (nI (pl_A n t wt p b)), .long (lN (pl_K n p b)), .retAddr 0, .int (nI fr), .int (nI f1), .int (nI (i + 1)), z10, z11, z12] [] τ 0 := by
              intro hsk z10 z11 z12
              refine hnext (τ, z10, z11, z12) ⟨j1, j2, j3, j4, j5, j6, j7, j8, fun hP j hj hnx => ?_⟩
              rcases Nat.lt_or_ge j i with q | q
              · exact j9 hP j q hnx
              · have e1 : j = i := by omega
                subst e1
                rw [hwd] at hnx
                exact absurd hnx (hsk hP)
            simp only [r_X1_explore_120]
            simp only [r_X1_explore_0, r_X1_explore_1, r_X1_explore_3, r_X1_explore_6, r_X1_explore_7, r_X1_explore_8, r_X1_explore_9, r_X1_explore_12, r_X1_explore_13, r_X1_explore_16, r_X1_explore_17, r_X1_explore_20, r_X1_explore_21, r_X1_explore_22, r_X1_explore_25, r_X1_explore_26, r_X1_explore_27, r_X1_explore_29, r_X1_explore_31, r_X1_explore_33, r_X1_explore_36, r_X1_explore_37, r_X1_explore_40, r_X1_explore_41, r_X1_explore_44, r_X1_explore_45, r_X1_explore_48, r_X1_explore_49, r_X1_explore_52, r_X1_explore_55, r_X1_explore_58, r_X1_explore_59, r_X1_explore_60, r_X1_explore_61, r_X1_explore_64, r_X1_explore_67, r_X1_explore_70, r_X1_explore_71, r_X1_explore_73, r_X1_explore_76, r_X1_explore_77, r_X1_explore_79, r_X1_explore_82, r_X1_explore_83, r_X1_explore_86, r_X1_explore_87, r_X1_explore_88, r_X1_explore_91, r_X1_explore_92, r_X1_explore_94, r_X1_explore_97, r_X1_explore_98, r_X1_explore_99, r_X1_explore_100, r_X1_explore_102, r_X1_explore_104, r_X1_explore_107, r_X1_explore_110, r_X1_explore_112, r_X1_explore_115, r_X1_explore_117, r_X1_explore_118, r_X1_explore_122, r_X1_explore_123, r_X1_explore_126, r_X1_explore_129, r_X1_explore_132, r_X1_explore_133, r_X1_explore_136, r_X1_explore_138, r_X1_explore_139, r_X1_explore_141, r_X1_explore_142, r_X1_explore_145, r_X1_explore_146, r_X1_explore_148, r_X1_explore_149, r_X1_explore_151, r_X1_explore_152, r_X1_explore_153, r_X1_explore_155, r_X1_explore_156, r_X1_explore_158, r_X1_explore_159, r_X1_explore_160, r_X1_explore_161, r_X1_explore_164, r_X1_explore_165, r_X1_explore_168, r_X1_explore_170, r_X1_explore_171, r_X1_explore_172, r_X1_explore_173, r_X1_explore_174, r_X1_explore_175, r_X1_explore_178, r_X1_explore_179, r_X1_explore_182, r_X1_explore_185, r_X1_explore_187, r_X1_explore_190, r_X1_explore_192, r_X1_explore_194, r_X1_explore_197, r_X1_explore_199, r_X1_explore_201, r_X1_explore_204, r_X1_explore_206, r_X1_explore_207, r_X1_explore_210, r_X1_explore_213, r_X1_explore_214, r_X1_explore_217, r_X1_explore_219, r_X1_explore_221, r_X1_explore_222, r_X1_explore_223, r_X1_explore_225, r_X1_explore_226, r_X1_explore_229, r_X1_explore_232, r_X1_explore_234, r_X1_explore_235, r_X1_explore_238, r_X1_explore_239, r_X1_explore_240, r_X1_explore_241, r_X1_explore_242, r_X1_explore_243, r_X1_explore_244, r_X1_explore_246, r_X1_explore_247, r_X1_explore_248, r_X1_explore_250, r_X1_explore_252, r_X1_explore_253, r_X1_explore_255, r_X1_explore_257, r_X1_explore_260, r_X1_explore_261, r_X1_explore_263, r_X1_explore_265, r_X1_explore_267, r_X1_explore_270, r_X1_explore_271, r_X1_explore_274, r_X1_explore_275, r_X1_explore_277, r_X1_explore_278, r_X1_explore_281, r_X1_explore_284, r_X1_explore_286, r_X1_explore_287, r_X1_explore_288, r_X1_explore_291, r_X1_explore_294, r_X1_explore_297, k3, tl_in (show i < 8 by omega) (show 8 < 2 ^ 31 by omega), tl_cl (show i < 2 ^ 31 by omega), kw1, true_and, hw8, hwc, kM, tb0, tb_nI (show p < 2 ^ 31 by omega) (show w < 32 by omega), tl_andnot, tl_eq0 (show tl_df (N w) p < 2 ^ 31 by omega)]
            rw [if_neg (nI_ge hi (by omega)), show nI dp * (8 : Int32) = nI (8 * dp) by rw [show (8 : Int32) = nI 8 from rfl, pk_mul, Nat.mul_comm], nI_add, tl_in (show 8 * dp + w < 72 by omega) (show 72 < 2 ^ 31 by omega), tl_cl (show 8 * dp + w < 2 ^ 31 by omega), hrow]
            refine ⟨trivial, ?_⟩
            by_cases hpw : p.testBit w = true
            · rw [if_neg (by rw [hpw]; decide)]
              simp only [r_X1_explore_0, r_X1_explore_1, r_X1_explore_3, r_X1_explore_6, r_X1_explore_7, r_X1_explore_8, r_X1_explore_9, r_X1_explore_12, r_X1_explore_13, r_X1_explore_16, r_X1_explore_17, r_X1_explore_20, r_X1_explore_21, r_X1_explore_22, r_X1_explore_25, r_X1_explore_26, r_X1_explore_27, r_X1_explore_29, r_X1_explore_31, r_X1_explore_33, r_X1_explore_36, r_X1_explore_37, r_X1_explore_40, r_X1_explore_41, r_X1_explore_44, r_X1_explore_45, r_X1_explore_48, r_X1_explore_49, r_X1_explore_52, r_X1_explore_55, r_X1_explore_58, r_X1_explore_59, r_X1_explore_60, r_X1_explore_61, r_X1_explore_64, r_X1_explore_67, r_X1_explore_70, r_X1_explore_71, r_X1_explore_73, r_X1_explore_76, r_X1_explore_77, r_X1_explore_79, r_X1_explore_82, r_X1_explore_83, r_X1_explore_86, r_X1_explore_87, r_X1_explore_88, r_X1_explore_91, r_X1_explore_92, r_X1_explore_94, r_X1_explore_97, r_X1_explore_98, r_X1_explore_99, r_X1_explore_100, r_X1_explore_102, r_X1_explore_104, r_X1_explore_107, r_X1_explore_110, r_X1_explore_112, r_X1_explore_115, r_X1_explore_117, r_X1_explore_118, r_X1_explore_122, r_X1_explore_123, r_X1_explore_126, r_X1_explore_129, r_X1_explore_132, r_X1_explore_133, r_X1_explore_136, r_X1_explore_138, r_X1_explore_139, r_X1_explore_141, r_X1_explore_142, r_X1_explore_145, r_X1_explore_146, r_X1_explore_148, r_X1_explore_149, r_X1_explore_151, r_X1_explore_152, r_X1_explore_153, r_X1_explore_155, r_X1_explore_156, r_X1_explore_158, r_X1_explore_159, r_X1_explore_160, r_X1_explore_161, r_X1_explore_164, r_X1_explore_165, r_X1_explore_168, r_X1_explore_170, r_X1_explore_171, r_X1_explore_172, r_X1_explore_173, r_X1_explore_174, r_X1_explore_175, r_X1_explore_178, r_X1_explore_179, r_X1_explore_182, r_X1_explore_183, r_X1_explore_185, r_X1_explore_187, r_X1_explore_190, r_X1_explore_192, r_X1_explore_194, r_X1_explore_197, r_X1_explore_199, r_X1_explore_201, r_X1_explore_204, r_X1_explore_206, r_X1_explore_207, r_X1_explore_210, r_X1_explore_213, r_X1_explore_214, r_X1_explore_217, r_X1_explore_219, r_X1_explore_221, r_X1_explore_222, r_X1_explore_223, r_X1_explore_225, r_X1_explore_226, r_X1_explore_229, r_X1_explore_232, r_X1_explore_234, r_X1_explore_235, r_X1_explore_238, r_X1_explore_239, r_X1_explore_240, r_X1_explore_241, r_X1_explore_242, r_X1_explore_243, r_X1_explore_244, r_X1_explore_246, r_X1_explore_247, r_X1_explore_248, r_X1_explore_250, r_X1_explore_252, r_X1_explore_253, r_X1_explore_255, r_X1_explore_257, r_X1_explore_260, r_X1_explore_261, r_X1_explore_263, r_X1_explore_265, r_X1_explore_267, r_X1_explore_270, r_X1_explore_271, r_X1_explore_274, r_X1_explore_275, r_X1_explore_277, r_X1_explore_278, r_X1_explore_281, r_X1_explore_284, r_X1_explore_286, r_X1_explore_287, r_X1_explore_288, r_X1_explore_291, r_X1_explore_294, r_X1_explore_297, if_true, nI_1]
              refine skip (fun _ hnx => ?_) _ _ _
              rw [hnx.2.1] at hpw
              cases hpw
            · have hpf : p.testBit w = false := by simpa using hpw
              rw [if_pos hpf]
              by_cases hop : tl_df (N w) p = 0
              · rw [if_pos hop]
                have hopn : hOpen N p w := pl_open.mp hop
                obtain ⟨hsp, hse, _, hfu⟩ := hspw w kw2 hpf
                simp only [r_X1_explore_0, r_X1_explore_1, r_X1_explore_3, r_X1_explore_6, r_X1_explore_7, r_X1_explore_8, r_X1_explore_9, r_X1_explore_12, r_X1_explore_13, r_X1_explore_16, r_X1_explore_17, r_X1_explore_20, r_X1_explore_21, r_X1_explore_22, r_X1_explore_25, r_X1_explore_26, r_X1_explore_27, r_X1_explore_29, r_X1_explore_31, r_X1_explore_33, r_X1_explore_36, r_X1_explore_37, r_X1_explore_40, r_X1_explore_41, r_X1_explore_44, r_X1_explore_45, r_X1_explore_48, r_X1_explore_49, r_X1_explore_52, r_X1_explore_55, r_X1_explore_58, r_X1_explore_59, r_X1_explore_60, r_X1_explore_61, r_X1_explore_64, r_X1_explore_67, r_X1_explore_70, r_X1_explore_71, r_X1_explore_73, r_X1_explore_76, r_X1_explore_77, r_X1_explore_79, r_X1_explore_82, r_X1_explore_83, r_X1_explore_86, r_X1_explore_87, r_X1_explore_88, r_X1_explore_91, r_X1_explore_92, r_X1_explore_94, r_X1_explore_97, r_X1_explore_98, r_X1_explore_99, r_X1_explore_100, r_X1_explore_102, r_X1_explore_104, r_X1_explore_107, r_X1_explore_110, r_X1_explore_112, r_X1_explore_115, r_X1_explore_117, r_X1_explore_118, r_X1_explore_122, r_X1_explore_123, r_X1_explore_126, r_X1_explore_129, r_X1_explore_132, r_X1_explore_133, r_X1_explore_136, r_X1_explore_138, r_X1_explore_139, r_X1_explore_141, r_X1_explore_142, r_X1_explore_145, r_X1_explore_146, r_X1_explore_148, r_X1_explore_149, r_X1_explore_151, r_X1_explore_152, r_X1_explore_153, r_X1_explore_155, r_X1_explore_156, r_X1_explore_158, r_X1_explore_159, r_X1_explore_160, r_X1_explore_161, r_X1_explore_164, r_X1_explore_165, r_X1_explore_168, r_X1_explore_170, r_X1_explore_171, r_X1_explore_172, r_X1_explore_173, r_X1_explore_174, r_X1_explore_175, r_X1_explore_178, r_X1_explore_179, r_X1_explore_182, r_X1_explore_183, r_X1_explore_185, r_X1_explore_187, r_X1_explore_190, r_X1_explore_192, r_X1_explore_194, r_X1_explore_197, r_X1_explore_199, r_X1_explore_201, r_X1_explore_204, r_X1_explore_206, r_X1_explore_207, r_X1_explore_210, r_X1_explore_214, r_X1_explore_217, r_X1_explore_219, r_X1_explore_221, r_X1_explore_222, r_X1_explore_223, r_X1_explore_225, r_X1_explore_226, r_X1_explore_229, r_X1_explore_232, r_X1_explore_234, r_X1_explore_235, r_X1_explore_238, r_X1_explore_239, r_X1_explore_240, r_X1_explore_241, r_X1_explore_242, r_X1_explore_243, r_X1_explore_244, r_X1_explore_246, r_X1_explore_247, r_X1_explore_248, r_X1_explore_250, r_X1_explore_252, r_X1_explore_253, r_X1_explore_255, r_X1_explore_257, r_X1_explore_260, r_X1_explore_261, r_X1_explore_263, r_X1_explore_265, r_X1_explore_267, r_X1_explore_270, r_X1_explore_271, r_X1_explore_274, r_X1_explore_275, r_X1_explore_277, r_X1_explore_278, r_X1_explore_281, r_X1_explore_284, r_X1_explore_286, r_X1_explore_287, r_X1_explore_288, r_X1_explore_291, r_X1_explore_294, r_X1_explore_297, i10, if_false, nI_1, tl_le (show f1 < 2 ^ 31 by omega) (show e w < 2 ^ 31 by omega), tl_eq (show e w < 2 ^ 31 by omega) (show fr < 2 ^ 31 by omega)]
                by_cases hun : f1 ≤ e w
                · rw [if_pos hun]
                  refine skip (fun hP hnx => ?_) _ _ _
                  have hle := heS hP w kw2 hpf
                  rcases i8 with g1 | ⟨j, g1, g2, g3, g4⟩
                  · have := hS3 w kw2
                    omega
                  · exact xe_until hS1 hS2 hS3 hNn ht1 hP hbfr i1 hnx hle (h6 j g1).2.1 g2 (i2 j g1 g2).1 g3 (by omega)
                · rw [if_neg hun]
                  have he96 : e w < 96 := by omega
                  have hee : xP n p b bf S → xNext n p S w → e w = S w := fun hP hnx => xe_eq hS1 hS2 hS3 hNn hP hbfr i1 hsp hopn hnx (heS hP w kw2 hpf)
                  have key213 : ex_r none (d + 3) ex_m_X1_explore E 213 [.ref 1, .int (nI dp), .int (nI p), .int la, .int (nI (pl_A n t wt p b)), .long (lN (pl_K n p b)), .retAddr 0, .int (nI fr), .int (nI f1), .int (nI i), .int (nI w), .int (nI (e w)), .int 1] [] τ 0 := by
                    have hfrw : fr ≤ e w := hsp.1
                    have hmn : e w ≤ min (e w + t w) 96 := Nat.le_min.mpr ⟨by omega, by omega⟩
                    have hrgx : ∀ x, x < 96 → ((e w ≤ x ∧ x < e w + (min (e w + t w) 96 - e w)) ↔ (e w ≤ x ∧ x < e w + t w)) := by
                      intro x hx
                      have g1 := Nat.min_le_left (e w + t w) 96
                      constructor
                      · intro g
                        omega
                      · intro g
                        refine ⟨g.1, ?_⟩
                        have : x < min (e w + t w) 96 := Nat.lt_min.mpr ⟨g.2, hx⟩
                        omega
                    simp only [r_X1_explore_213]
                    simp only [r_X1_explore_0, r_X1_explore_1, r_X1_explore_3, r_X1_explore_6, r_X1_explore_7, r_X1_explore_8, r_X1_explore_9, r_X1_explore_12, r_X1_explore_13, r_X1_explore_16, r_X1_explore_17, r_X1_explore_20, r_X1_explore_21, r_X1_explore_22, r_X1_explore_25, r_X1_explore_26, r_X1_explore_27, r_X1_explore_29, r_X1_explore_31, r_X1_explore_33, r_X1_explore_36, r_X1_explore_37, r_X1_explore_40, r_X1_explore_41, r_X1_explore_44, r_X1_explore_45, r_X1_explore_48, r_X1_explore_49, r_X1_explore_52, r_X1_explore_55, r_X1_explore_58, r_X1_explore_59, r_X1_explore_60, r_X1_explore_61, r_X1_explore_64, r_X1_explore_67, r_X1_explore_70, r_X1_explore_71, r_X1_explore_73, r_X1_explore_76, r_X1_explore_77, r_X1_explore_79, r_X1_explore_82, r_X1_explore_83, r_X1_explore_86, r_X1_explore_87, r_X1_explore_88, r_X1_explore_91, r_X1_explore_92, r_X1_explore_94, r_X1_explore_97, r_X1_explore_98, r_X1_explore_99, r_X1_explore_100, r_X1_explore_102, r_X1_explore_104, r_X1_explore_107, r_X1_explore_110, r_X1_explore_112, r_X1_explore_115, r_X1_explore_117, r_X1_explore_118, r_X1_explore_122, r_X1_explore_123, r_X1_explore_126, r_X1_explore_129, r_X1_explore_132, r_X1_explore_133, r_X1_explore_136, r_X1_explore_138, r_X1_explore_139, r_X1_explore_141, r_X1_explore_142, r_X1_explore_145, r_X1_explore_146, r_X1_explore_148, r_X1_explore_149, r_X1_explore_151, r_X1_explore_152, r_X1_explore_153, r_X1_explore_155, r_X1_explore_156, r_X1_explore_158, r_X1_explore_159, r_X1_explore_160, r_X1_explore_161, r_X1_explore_164, r_X1_explore_165, r_X1_explore_168, r_X1_explore_170, r_X1_explore_171, r_X1_explore_172, r_X1_explore_173, r_X1_explore_174, r_X1_explore_175, r_X1_explore_178, r_X1_explore_179, r_X1_explore_182, r_X1_explore_183, r_X1_explore_185, r_X1_explore_187, r_X1_explore_190, r_X1_explore_192, r_X1_explore_194, r_X1_explore_197, r_X1_explore_199, r_X1_explore_201, r_X1_explore_204, r_X1_explore_206, r_X1_explore_207, r_X1_explore_210, r_X1_explore_214, r_X1_explore_217, r_X1_explore_219, r_X1_explore_221, r_X1_explore_222, r_X1_explore_223, r_X1_explore_225, r_X1_explore_226, r_X1_explore_229, r_X1_explore_232, r_X1_explore_234, r_X1_explore_235, r_X1_explore_238, r_X1_explore_239, r_X1_explore_240, r_X1_explore_241, r_X1_explore_242, r_X1_explore_243, r_X1_explore_244, r_X1_explore_246, r_X1_explore_247, r_X1_explore_248, r_X1_explore_250, r_X1_explore_252, r_X1_explore_253, r_X1_explore_255, r_X1_explore_257, r_X1_explore_260, r_X1_explore_261, r_X1_explore_263, r_X1_explore_265, r_X1_explore_267, r_X1_explore_270, r_X1_explore_271, r_X1_explore_274, r_X1_explore_275, r_X1_explore_277, r_X1_explore_278, r_X1_explore_281, r_X1_explore_284, r_X1_explore_286, r_X1_explore_287, r_X1_explore_288, r_X1_explore_291, r_X1_explore_294, r_X1_explore_297, hw8, hwc, true_and, s_a, s_r3, Nat.reduceEqDiff, if_false, kh]
                    rw [c_occupy (σ := ex_row τ 11 (upd (τ.2.2.1 11) w (nI (e w)))) (b0 := e w) (t0 := t w) (by omega) (by rw [s_r3, if_pos rfl, s_u, if_pos rfl]) kt (by omega) (by omega)]
                    simp only [Option.toList, List.nil_append, r_X1_explore_0, r_X1_explore_1, r_X1_explore_3, r_X1_explore_6, r_X1_explore_7, r_X1_explore_8, r_X1_explore_9, r_X1_explore_12, r_X1_explore_13, r_X1_explore_16, r_X1_explore_17, r_X1_explore_20, r_X1_explore_21, r_X1_explore_22, r_X1_explore_25, r_X1_explore_26, r_X1_explore_27, r_X1_explore_29, r_X1_explore_31, r_X1_explore_33, r_X1_explore_36, r_X1_explore_37, r_X1_explore_40, r_X1_explore_41, r_X1_explore_44, r_X1_explore_45, r_X1_explore_48, r_X1_explore_49, r_X1_explore_52, r_X1_explore_55, r_X1_explore_58, r_X1_explore_59, r_X1_explore_60, r_X1_explore_61, r_X1_explore_64, r_X1_explore_67, r_X1_explore_70, r_X1_explore_71, r_X1_explore_73, r_X1_explore_76, r_X1_explore_77, r_X1_explore_79, r_X1_explore_82, r_X1_explore_83, r_X1_explore_86, r_X1_explore_87, r_X1_explore_88, r_X1_explore_91, r_X1_explore_92, r_X1_explore_94, r_X1_explore_97, r_X1_explore_98, r_X1_explore_99, r_X1_explore_100, r_X1_explore_102, r_X1_explore_104, r_X1_explore_107, r_X1_explore_110, r_X1_explore_112, r_X1_explore_115, r_X1_explore_117, r_X1_explore_118, r_X1_explore_122, r_X1_explore_123, r_X1_explore_126, r_X1_explore_129, r_X1_explore_132, r_X1_explore_133, r_X1_explore_136, r_X1_explore_138, r_X1_explore_139, r_X1_explore_141, r_X1_explore_142, r_X1_explore_145, r_X1_explore_146, r_X1_explore_148, r_X1_explore_149, r_X1_explore_151, r_X1_explore_152, r_X1_explore_153, r_X1_explore_155, r_X1_explore_156, r_X1_explore_158, r_X1_explore_159, r_X1_explore_160, r_X1_explore_161, r_X1_explore_164, r_X1_explore_165, r_X1_explore_168, r_X1_explore_170, r_X1_explore_171, r_X1_explore_172, r_X1_explore_173, r_X1_explore_174, r_X1_explore_175, r_X1_explore_178, r_X1_explore_179, r_X1_explore_182, r_X1_explore_183, r_X1_explore_185, r_X1_explore_187, r_X1_explore_190, r_X1_explore_192, r_X1_explore_194, r_X1_explore_197, r_X1_explore_199, r_X1_explore_201, r_X1_explore_204, r_X1_explore_206, r_X1_explore_207, r_X1_explore_210, r_X1_explore_213, r_X1_explore_214, r_X1_explore_217, r_X1_explore_219, r_X1_explore_221, r_X1_explore_222, r_X1_explore_223, r_X1_explore_225, r_X1_explore_226, r_X1_explore_229, r_X1_explore_232, r_X1_explore_234, r_X1_explore_235, r_X1_explore_238, r_X1_explore_239, r_X1_explore_240, r_X1_explore_241, r_X1_explore_242, r_X1_explore_243, r_X1_explore_244, r_X1_explore_246, r_X1_explore_247, r_X1_explore_248, r_X1_explore_250, r_X1_explore_252, r_X1_explore_253, r_X1_explore_255, r_X1_explore_257, r_X1_explore_260, r_X1_explore_261, r_X1_explore_263, r_X1_explore_265, r_X1_explore_267, r_X1_explore_270, r_X1_explore_271, r_X1_explore_274, r_X1_explore_275, r_X1_explore_277, r_X1_explore_278, r_X1_explore_281, r_X1_explore_284, r_X1_explore_286, r_X1_explore_287, r_X1_explore_288, r_X1_explore_291, r_X1_explore_294, r_X1_explore_297]
                    rw [c_awayBy (σ := ex_row (ex_row τ 11 (upd (τ.2.2.1 11) w (nI (e w)))) 10 (rg ((ex_row τ 11 (upd (τ.2.2.1 11) w (nI (e w)))).2.2.1 10) (e w) (fun x => x + nI (h w)) (min (e w + t w) 96 - e w))) (t0 := t w) (w0 := wt w) (by omega) kt kwt]
                    simp only [Option.toList, List.cons_append, List.nil_append, r_X1_explore_0, r_X1_explore_1, r_X1_explore_3, r_X1_explore_6, r_X1_explore_7, r_X1_explore_8, r_X1_explore_9, r_X1_explore_12, r_X1_explore_13, r_X1_explore_16, r_X1_explore_17, r_X1_explore_20, r_X1_explore_21, r_X1_explore_22, r_X1_explore_25, r_X1_explore_26, r_X1_explore_27, r_X1_explore_29, r_X1_explore_31, r_X1_explore_33, r_X1_explore_36, r_X1_explore_37, r_X1_explore_40, r_X1_explore_41, r_X1_explore_44, r_X1_explore_45, r_X1_explore_48, r_X1_explore_49, r_X1_explore_52, r_X1_explore_55, r_X1_explore_58, r_X1_explore_59, r_X1_explore_60, r_X1_explore_61, r_X1_explore_64, r_X1_explore_67, r_X1_explore_70, r_X1_explore_71, r_X1_explore_73, r_X1_explore_76, r_X1_explore_77, r_X1_explore_79, r_X1_explore_82, r_X1_explore_83, r_X1_explore_86, r_X1_explore_87, r_X1_explore_88, r_X1_explore_91, r_X1_explore_92, r_X1_explore_94, r_X1_explore_97, r_X1_explore_98, r_X1_explore_99, r_X1_explore_100, r_X1_explore_102, r_X1_explore_104, r_X1_explore_107, r_X1_explore_110, r_X1_explore_112, r_X1_explore_115, r_X1_explore_117, r_X1_explore_118, r_X1_explore_122, r_X1_explore_123, r_X1_explore_126, r_X1_explore_129, r_X1_explore_132, r_X1_explore_133, r_X1_explore_136, r_X1_explore_138, r_X1_explore_139, r_X1_explore_141, r_X1_explore_142, r_X1_explore_145, r_X1_explore_146, r_X1_explore_148, r_X1_explore_149, r_X1_explore_151, r_X1_explore_152, r_X1_explore_153, r_X1_explore_155, r_X1_explore_156, r_X1_explore_158, r_X1_explore_159, r_X1_explore_160, r_X1_explore_161, r_X1_explore_164, r_X1_explore_165, r_X1_explore_168, r_X1_explore_170, r_X1_explore_171, r_X1_explore_172, r_X1_explore_173, r_X1_explore_174, r_X1_explore_175, r_X1_explore_178, r_X1_explore_179, r_X1_explore_182, r_X1_explore_183, r_X1_explore_185, r_X1_explore_187, r_X1_explore_190, r_X1_explore_192, r_X1_explore_194, r_X1_explore_197, r_X1_explore_199, r_X1_explore_201, r_X1_explore_204, r_X1_explore_206, r_X1_explore_207, r_X1_explore_210, r_X1_explore_213, r_X1_explore_214, r_X1_explore_217, r_X1_explore_219, r_X1_explore_221, r_X1_explore_222, r_X1_explore_223, r_X1_explore_225, r_X1_explore_226, r_X1_explore_229, r_X1_explore_232, r_X1_explore_234, r_X1_explore_235, r_X1_explore_238, r_X1_explore_239, r_X1_explore_240, r_X1_explore_241, r_X1_explore_242, r_X1_explore_243, r_X1_explore_244, r_X1_explore_246, r_X1_explore_247, r_X1_explore_248, r_X1_explore_250, r_X1_explore_252, r_X1_explore_253, r_X1_explore_255, r_X1_explore_257, r_X1_explore_260, r_X1_explore_261, r_X1_explore_263, r_X1_explore_265, r_X1_explore_267, r_X1_explore_270, r_X1_explore_271, r_X1_explore_274, r_X1_explore_275, r_X1_explore_277, r_X1_explore_278, r_X1_explore_281, r_X1_explore_284, r_X1_explore_286, r_X1_explore_287, r_X1_explore_288, r_X1_explore_291, r_X1_explore_294, r_X1_explore_297]
                    rw [c_keyOf (by omega) (by omega)]
                    simp only [Option.toList, List.cons_append, List.nil_append, r_X1_explore_0, r_X1_explore_1, r_X1_explore_3, r_X1_explore_6, r_X1_explore_7, r_X1_explore_8, r_X1_explore_9, r_X1_explore_12, r_X1_explore_13, r_X1_explore_16, r_X1_explore_17, r_X1_explore_20, r_X1_explore_21, r_X1_explore_22, r_X1_explore_25, r_X1_explore_26, r_X1_explore_27, r_X1_explore_29, r_X1_explore_31, r_X1_explore_33, r_X1_explore_36, r_X1_explore_37, r_X1_explore_40, r_X1_explore_41, r_X1_explore_44, r_X1_explore_45, r_X1_explore_48, r_X1_explore_49, r_X1_explore_52, r_X1_explore_55, r_X1_explore_58, r_X1_explore_59, r_X1_explore_60, r_X1_explore_61, r_X1_explore_64, r_X1_explore_67, r_X1_explore_70, r_X1_explore_71, r_X1_explore_73, r_X1_explore_76, r_X1_explore_77, r_X1_explore_79, r_X1_explore_82, r_X1_explore_83, r_X1_explore_86, r_X1_explore_87, r_X1_explore_88, r_X1_explore_91, r_X1_explore_92, r_X1_explore_94, r_X1_explore_97, r_X1_explore_98, r_X1_explore_99, r_X1_explore_100, r_X1_explore_102, r_X1_explore_104, r_X1_explore_107, r_X1_explore_110, r_X1_explore_112, r_X1_explore_115, r_X1_explore_117, r_X1_explore_118, r_X1_explore_122, r_X1_explore_123, r_X1_explore_126, r_X1_explore_129, r_X1_explore_132, r_X1_explore_133, r_X1_explore_136, r_X1_explore_138, r_X1_explore_139, r_X1_explore_141, r_X1_explore_142, r_X1_explore_145, r_X1_explore_146, r_X1_explore_148, r_X1_explore_149, r_X1_explore_151, r_X1_explore_152, r_X1_explore_153, r_X1_explore_155, r_X1_explore_156, r_X1_explore_158, r_X1_explore_159, r_X1_explore_160, r_X1_explore_161, r_X1_explore_164, r_X1_explore_165, r_X1_explore_168, r_X1_explore_170, r_X1_explore_171, r_X1_explore_172, r_X1_explore_173, r_X1_explore_174, r_X1_explore_175, r_X1_explore_178, r_X1_explore_179, r_X1_explore_182, r_X1_explore_183, r_X1_explore_185, r_X1_explore_187, r_X1_explore_190, r_X1_explore_192, r_X1_explore_194, r_X1_explore_197, r_X1_explore_199, r_X1_explore_201, r_X1_explore_204, r_X1_explore_206, r_X1_explore_207, r_X1_explore_210, r_X1_explore_213, r_X1_explore_214, r_X1_explore_217, r_X1_explore_219, r_X1_explore_221, r_X1_explore_222, r_X1_explore_223, r_X1_explore_225, r_X1_explore_226, r_X1_explore_229, r_X1_explore_232, r_X1_explore_234, r_X1_explore_235, r_X1_explore_238, r_X1_explore_239, r_X1_explore_240, r_X1_explore_241, r_X1_explore_242, r_X1_explore_243, r_X1_explore_244, r_X1_explore_246, r_X1_explore_247, r_X1_explore_248, r_X1_explore_250, r_X1_explore_252, r_X1_explore_253, r_X1_explore_255, r_X1_explore_257, r_X1_explore_260, r_X1_explore_261, r_X1_explore_263, r_X1_explore_265, r_X1_explore_267, r_X1_explore_270, r_X1_explore_271, r_X1_explore_274, r_X1_explore_275, r_X1_explore_277, r_X1_explore_278, r_X1_explore_281, r_X1_explore_284, r_X1_explore_286, r_X1_explore_287, r_X1_explore_288, r_X1_explore_291, r_X1_explore_294, r_X1_explore_297, nI_add, nI_1, lN_add, tl_shl w (by omega), tl_or]
                    rw [← pl_A_add (b := b) (t := t) (wt := wt) (a := e w) kw2 hpf, ← pl_K_add (b := b) (a := e w) kw2 hpf]
                    generalize hτ1 : ex_row τ 11 (upd (τ.2.2.1 11) w (nI (e w))) = τ1
                    generalize hτ2 : ex_row τ1 10 (rg (τ1.2.2.1 10) (e w) (fun x => x + nI (h w)) (min (e w + t w) 96 - e w)) = τ2
                    have f1F : xF τ τ1 := by rw [← hτ1]; exact xF_row _ _ _ (by decide)
                    have f2F : xF τ1 τ2 := by rw [← hτ2]; exact xF_row _ _ _ (by decide)
                    have f12 := xF_trans f1F f2F
                    have e11 : τ2.2.2.1 11 = upd (τ.2.2.1 11) w (nI (e w)) := by rw [← hτ2, ← hτ1]; rfl
                    have e10 : τ2.2.2.1 10 = rg (τ.2.2.1 10) (e w) (fun x => x + nI (h w)) (min (e w + t w) 96 - e w) := by rw [← hτ2, ← hτ1]; rfl
                    have e12 : τ2.2.2.1 12 = τ.2.2.1 12 := by rw [← hτ2, ← hτ1]; rfl
                    have e13 : τ2.2.2.1 13 = τ.2.2.1 13 := by rw [← hτ2, ← hτ1]; rfl
                    have e15 : τ2.2.2.1 15 = τ.2.2.1 15 := by rw [← hτ2, ← hτ1]; rfl
                    have e14 : τ2.2.2.2 14 = τ.2.2.2 14 := by rw [← hτ2, ← hτ1]; rfl
                    have e112 : τ2.1 112 = τ.1 112 := by rw [← hτ2, ← hτ1]; rfl
                    have e113 : τ2.2.1 113 = τ.2.1 113 := by rw [← hτ2, ← hτ1]; rfl
                    have hct : tl_ct (fun i => (p ||| 2 ^ w).testBit i) n = dp + 1 := by
                      rw [← n6]
                      apply tl_ct_upd (k := w) _ hpf kw2
                      · intro x _ hxw
                        show (p ||| 2 ^ w).testBit x = p.testBit x
                        rw [pl_ib]
                        simp [Ne.symm hxw]
                      · show (p ||| 2 ^ w).testBit w = true
                        rw [pl_ib]
                        simp
                    have hokc : pl_ok n H t h N (p ||| 2 ^ w) (pl_up b w (e w)) := by
                      refine pl_ok_add n2 hNn kw2 hpf (fun v hv => ⟨hopn v hv, ?_⟩) (fun x x1 x2 => ?_)
                      · have := hsp.2.2.1 v hv
                        rw [i1 v (tl_bit_lt kMn hv) (hopn v hv)] at this
                        exact this
                      · have g1 := hsp.2.2.2.1 he96
                        have g2 := pl_u_anti (t := t) (h := h) (p := p) (b := b) (x := e w) (y := x) (fun v hv hp => by have := hbfr v hv hp; omega) x1
                        omega
                    apply hrec (p ||| 2 ^ w) (e w) w (pl_up b w (e w)) e τ2
                    · have := tl_ct_le (fun i => (p ||| 2 ^ w).testBit i) n
                      omega
                    · exact xS_fr (xF_trans j1 f12) hx0
                    · refine ⟨Nat.or_lt_two_pow n1 (Nat.pow_lt_pow_right (by decide) kw2), hokc, fun v hv hq => ?_, he96, fun x hx => ?_, hct⟩
                      · rw [e11, s_u]
                        by_cases e1 : v = w
                        · subst e1
                          rw [if_pos rfl, pl_up_at]
                          exact ⟨rfl, he96, Nat.le_refl _⟩
                        · rw [pl_ib] at hq
                          have hpv : p.testBit v = true := by simpa [Ne.symm e1] using hq
                          rw [if_neg e1, pl_up_ne _ _ e1, j2 v hv hpv]
                          have g1 := n3 v hv hpv
                          exact ⟨g1.1, g1.2.1, by omega⟩
                      · rw [e10, pl_u_add kw2 hpf]
                        unfold rg
                        rw [j3 x hx, n5 x hx]
                        by_cases g : e w ≤ x ∧ x < e w + t w
                        · rw [if_pos ((hrgx x hx).mpr g), if_pos g]
                          exact nI_add _ _
                        · rw [if_neg (fun g2 => g ((hrgx x hx).mp g2)), if_neg g, Nat.add_zero]
                    · exact Or.inr ⟨w, kw2, rfl, by rw [pl_ib]; simp, pl_up_at _ _ _⟩
                    · intro j hj hq
                      have hq2 : p.testBit (od j) = false := by
                        rw [pl_ib] at hq
                        revert hq
                        cases p.testBit (od j) <;> simp
                      refine ⟨fun g => by omega, fun _ => ?_, (i2 j hj hq2).2.2.1⟩
                      rw [e12, show dp + 1 - 1 = dp by omega, j4 _ (by have := (h6 j hj).2.1; omega)]
                      exact i3 j hj
                    · exact xW_eq e13 e14 j5
                    · exact xK_eq e14 j6
                    · exact xB_eq e112 e113 e15 j7
                    · intro ρ hO hPre
                      obtain ⟨o1, o2, o3, o4, o5, o6, o7, o8⟩ := hO
                      have hxρ := xS_fr (xF_trans (xF_trans j1 f12) o1) hx0
                      obtain ⟨pt, ph, _⟩ := hxρ.2.2.2.2.1 w kw2
                      have p11 : ρ.2.2.1 11 w = nI (e w) := by
                        rw [o2 w kw2 (by rw [pl_ib]; simp), e11, s_u, if_pos rfl]
                      simp only [Option.toList, List.nil_append, r_X1_explore_0, r_X1_explore_1, r_X1_explore_3, r_X1_explore_6, r_X1_explore_7, r_X1_explore_8, r_X1_explore_9, r_X1_explore_12, r_X1_explore_13, r_X1_explore_16, r_X1_explore_17, r_X1_explore_20, r_X1_explore_21, r_X1_explore_22, r_X1_explore_25, r_X1_explore_26, r_X1_explore_27, r_X1_explore_29, r_X1_explore_31, r_X1_explore_33, r_X1_explore_36, r_X1_explore_37, r_X1_explore_40, r_X1_explore_41, r_X1_explore_44, r_X1_explore_45, r_X1_explore_48, r_X1_explore_49, r_X1_explore_52, r_X1_explore_55, r_X1_explore_58, r_X1_explore_59, r_X1_explore_60, r_X1_explore_61, r_X1_explore_64, r_X1_explore_67, r_X1_explore_70, r_X1_explore_71, r_X1_explore_73, r_X1_explore_76, r_X1_explore_77, r_X1_explore_79, r_X1_explore_82, r_X1_explore_83, r_X1_explore_86, r_X1_explore_87, r_X1_explore_88, r_X1_explore_91, r_X1_explore_92, r_X1_explore_94, r_X1_explore_97, r_X1_explore_98, r_X1_explore_99, r_X1_explore_100, r_X1_explore_102, r_X1_explore_104, r_X1_explore_107, r_X1_explore_110, r_X1_explore_112, r_X1_explore_115, r_X1_explore_117, r_X1_explore_118, r_X1_explore_122, r_X1_explore_123, r_X1_explore_126, r_X1_explore_129, r_X1_explore_132, r_X1_explore_133, r_X1_explore_136, r_X1_explore_138, r_X1_explore_139, r_X1_explore_141, r_X1_explore_142, r_X1_explore_145, r_X1_explore_146, r_X1_explore_148, r_X1_explore_149, r_X1_explore_151, r_X1_explore_152, r_X1_explore_153, r_X1_explore_155, r_X1_explore_156, r_X1_explore_158, r_X1_explore_159, r_X1_explore_160, r_X1_explore_161, r_X1_explore_164, r_X1_explore_165, r_X1_explore_168, r_X1_explore_170, r_X1_explore_171, r_X1_explore_172, r_X1_explore_173, r_X1_explore_174, r_X1_explore_175, r_X1_explore_178, r_X1_explore_179, r_X1_explore_182, r_X1_explore_183, r_X1_explore_185, r_X1_explore_187, r_X1_explore_190, r_X1_explore_192, r_X1_explore_194, r_X1_explore_197, r_X1_explore_199, r_X1_explore_201, r_X1_explore_204, r_X1_explore_206, r_X1_explore_207, r_X1_explore_210, r_X1_explore_213, r_X1_explore_214, r_X1_explore_217, r_X1_explore_219, r_X1_explore_221, r_X1_explore_222, r_X1_explore_223, r_X1_explore_225, r_X1_explore_226, r_X1_explore_229, r_X1_explore_232, r_X1_explore_234, r_X1_explore_235, r_X1_explore_238, r_X1_explore_239, r_X1_explore_240, r_X1_explore_241, r_X1_explore_242, r_X1_explore_243, r_X1_explore_244, r_X1_explore_246, r_X1_explore_247, r_X1_explore_248, r_X1_explore_250, r_X1_explore_252, r_X1_explore_253, r_X1_explore_255, r_X1_explore_257, r_X1_explore_260, r_X1_explore_261, r_X1_explore_263, r_X1_explore_265, r_X1_explore_267, r_X1_explore_270, r_X1_explore_271, r_X1_explore_274, r_X1_explore_275, r_X1_explore_277, r_X1_explore_278, r_X1_explore_281, r_X1_explore_284, r_X1_explore_286, r_X1_explore_287, r_X1_explore_288, r_X1_explore_291, r_X1_explore_294, r_X1_explore_297, hw8, hwc, true_and, ph]
                      rw [c_occupy (σ := ρ) (b0 := e w) (t0 := t w) (by omega) p11 pt (by omega) (by omega)]
                      simp only [Option.toList, List.nil_append, r_X1_explore_0, r_X1_explore_1, r_X1_explore_3, r_X1_explore_6, r_X1_explore_7, r_X1_explore_8, r_X1_explore_9, r_X1_explore_12, r_X1_explore_13, r_X1_explore_16, r_X1_explore_17, r_X1_explore_20, r_X1_explore_21, r_X1_explore_22, r_X1_explore_25, r_X1_explore_26, r_X1_explore_27, r_X1_explore_29, r_X1_explore_31, r_X1_explore_33, r_X1_explore_36, r_X1_explore_37, r_X1_explore_40, r_X1_explore_41, r_X1_explore_44, r_X1_explore_45, r_X1_explore_48, r_X1_explore_49, r_X1_explore_52, r_X1_explore_55, r_X1_explore_58, r_X1_explore_59, r_X1_explore_60, r_X1_explore_61, r_X1_explore_64, r_X1_explore_67, r_X1_explore_70, r_X1_explore_71, r_X1_explore_73, r_X1_explore_76, r_X1_explore_77, r_X1_explore_79, r_X1_explore_82, r_X1_explore_83, r_X1_explore_86, r_X1_explore_87, r_X1_explore_88, r_X1_explore_91, r_X1_explore_92, r_X1_explore_94, r_X1_explore_97, r_X1_explore_98, r_X1_explore_99, r_X1_explore_100, r_X1_explore_102, r_X1_explore_104, r_X1_explore_107, r_X1_explore_110, r_X1_explore_112, r_X1_explore_115, r_X1_explore_117, r_X1_explore_118, r_X1_explore_122, r_X1_explore_123, r_X1_explore_126, r_X1_explore_129, r_X1_explore_132, r_X1_explore_133, r_X1_explore_136, r_X1_explore_138, r_X1_explore_139, r_X1_explore_141, r_X1_explore_142, r_X1_explore_145, r_X1_explore_146, r_X1_explore_148, r_X1_explore_149, r_X1_explore_151, r_X1_explore_152, r_X1_explore_153, r_X1_explore_155, r_X1_explore_156, r_X1_explore_158, r_X1_explore_159, r_X1_explore_160, r_X1_explore_161, r_X1_explore_164, r_X1_explore_165, r_X1_explore_168, r_X1_explore_170, r_X1_explore_171, r_X1_explore_172, r_X1_explore_173, r_X1_explore_174, r_X1_explore_175, r_X1_explore_178, r_X1_explore_179, r_X1_explore_182, r_X1_explore_183, r_X1_explore_185, r_X1_explore_187, r_X1_explore_190, r_X1_explore_192, r_X1_explore_194, r_X1_explore_197, r_X1_explore_199, r_X1_explore_201, r_X1_explore_204, r_X1_explore_206, r_X1_explore_207, r_X1_explore_210, r_X1_explore_213, r_X1_explore_214, r_X1_explore_217, r_X1_explore_219, r_X1_explore_221, r_X1_explore_222, r_X1_explore_223, r_X1_explore_225, r_X1_explore_226, r_X1_explore_229, r_X1_explore_232, r_X1_explore_234, r_X1_explore_235, r_X1_explore_238, r_X1_explore_239, r_X1_explore_240, r_X1_explore_241, r_X1_explore_242, r_X1_explore_243, r_X1_explore_244, r_X1_explore_246, r_X1_explore_247, r_X1_explore_248, r_X1_explore_250, r_X1_explore_252, r_X1_explore_253, r_X1_explore_255, r_X1_explore_257, r_X1_explore_260, r_X1_explore_261, r_X1_explore_263, r_X1_explore_265, r_X1_explore_267, r_X1_explore_270, r_X1_explore_271, r_X1_explore_274, r_X1_explore_275, r_X1_explore_277, r_X1_explore_278, r_X1_explore_281, r_X1_explore_284, r_X1_explore_286, r_X1_explore_287, r_X1_explore_288, r_X1_explore_291, r_X1_explore_294, r_X1_explore_297, nI_1]
                      refine hnext (ex_row ρ 10 (rg (ρ.2.2.1 10) (e w) (fun x => x + -nI (h w)) (min (e w + t w) 96 - e w)), .int (nI w), .int (nI (e w)), .int 1) ⟨xF_trans (xF_trans (xF_trans j1 f12) o1) (xF_row _ _ _ (by decide)), fun v hv hpv => ?_, fun x hx => ?_, fun x hx => ?_, xW_eq rfl rfl o5, xK_eq rfl o6, xB_eq rfl rfl rfl o7, fun X hX => xLe_eq rfl rfl rfl (o8 X (xLe_eq e112 e113 e15 (j8 X hX))), fun hP j hj hnx => ?_⟩
                      · show ρ.2.2.1 11 v = σ.2.2.1 11 v
                        rw [o2 v hv (by rw [pl_ib, hpv]; rfl), e11, s_u, if_neg (fun e1 => by rw [e1, hpf] at hpv; cases hpv)]
                        exact j2 v hv hpv
                      · show rg (ρ.2.2.1 10) (e w) (fun x => x + -nI (h w)) (min (e w + t w) 96 - e w) x = σ.2.2.1 10 x
                        unfold rg
                        rw [o3 x hx, e10]
                        unfold rg
                        rw [j3 x hx]
                        by_cases g : e w ≤ x ∧ x < e w + (min (e w + t w) 96 - e w)
                        · rw [if_pos g, if_pos g]
                          exact tl_anc _ _
                        · rw [if_neg g, if_neg g]
                      · show ρ.2.2.1 12 x = er x
                        rw [o4 x hx, e12]
                        exact j4 x hx
                      · refine xLe_eq (σ := ρ) rfl rfl rfl ?_
                        rcases Nat.lt_or_ge j i with q | q
                        · exact o8 _ (xLe_eq e112 e113 e15 (j9 hP j q hnx))
                        · have e1 : j = i := by omega
                          subst e1
                          rw [hwd] at hnx
                          apply hPre
                          have g1 := hee hP hnx
                          refine ⟨fun v hv hq => ?_, fun v u hv hu hqv hqu => ?_, fun v hv hqv => ?_⟩
                          · by_cases e1 : v = w
                            · subst e1
                              rw [pl_up_at]
                              exact g1
                            · rw [pl_up_ne _ _ e1]
                              rw [pl_ib] at hq
                              exact hP.1 v hv (by simpa [Ne.symm e1] using hq)
                          · rw [pl_ib] at hqv hqu
                            have hqu2 : p.testBit u = false := by
                              revert hqu
                              cases p.testBit u <;> simp
                            have huw : u ≠ w := fun e2 => by
                              rw [e2] at hqu
                              simp at hqu
                            by_cases e1 : v = w
                            · subst e1
                              have := hnx.2.2 u hu hqu2
                              omega
                            · exact hP.2.1 v u hv hu (by simpa [Ne.symm e1] using hqv) hqu2
                          · apply heS hP v hv
                            rw [pl_ib] at hqv
                            revert hqv
                            cases p.testBit v <;> simp
                  by_cases hfe : e w = fr
                  · rw [if_pos hfe]
                    rcases hL with ⟨l1, l2, l3⟩ | ⟨l, l1, l2, l3, l4⟩
                    · rw [l1, if_pos (show (-1 : Int32) ≤ nI w from by rw [Int32.le_iff_toInt_le, nI_toInt (by omega)]; simp)]
                      rw [l1] at key213
                      exact key213
                    · rw [l2]
                      simp only [tl_le (show l < 2 ^ 31 by omega) (show w < 2 ^ 31 by omega)]
                      rw [l2] at key213 skip
                      by_cases hlw : l ≤ w
                      · rw [if_pos hlw]
                        exact key213
                      · rw [if_neg hlw]
                        refine skip (fun hP hnx => ?_) _ _ _
                        have g1 := hee hP hnx
                        have g2 := hP.2.1 l w l1 kw2 l3 hpf
                        have g3 := hP.1 l l1 l3
                        omega
                  · rw [if_neg hfe]
                    exact key213
              · rw [if_neg hop]
                simp only [r_X1_explore_0, r_X1_explore_1, r_X1_explore_3, r_X1_explore_6, r_X1_explore_7, r_X1_explore_8, r_X1_explore_9, r_X1_explore_12, r_X1_explore_13, r_X1_explore_16, r_X1_explore_17, r_X1_explore_20, r_X1_explore_21, r_X1_explore_22, r_X1_explore_25, r_X1_explore_26, r_X1_explore_27, r_X1_explore_29, r_X1_explore_31, r_X1_explore_33, r_X1_explore_36, r_X1_explore_37, r_X1_explore_40, r_X1_explore_41, r_X1_explore_44, r_X1_explore_45, r_X1_explore_48, r_X1_explore_49, r_X1_explore_52, r_X1_explore_55, r_X1_explore_58, r_X1_explore_59, r_X1_explore_60, r_X1_explore_61, r_X1_explore_64, r_X1_explore_67, r_X1_explore_70, r_X1_explore_71, r_X1_explore_73, r_X1_explore_76, r_X1_explore_77, r_X1_explore_79, r_X1_explore_82, r_X1_explore_83, r_X1_explore_86, r_X1_explore_87, r_X1_explore_88, r_X1_explore_91, r_X1_explore_92, r_X1_explore_94, r_X1_explore_97, r_X1_explore_98, r_X1_explore_99, r_X1_explore_100, r_X1_explore_102, r_X1_explore_104, r_X1_explore_107, r_X1_explore_110, r_X1_explore_112, r_X1_explore_115, r_X1_explore_117, r_X1_explore_118, r_X1_explore_122, r_X1_explore_123, r_X1_explore_126, r_X1_explore_129, r_X1_explore_132, r_X1_explore_133, r_X1_explore_136, r_X1_explore_138, r_X1_explore_139, r_X1_explore_141, r_X1_explore_142, r_X1_explore_145, r_X1_explore_146, r_X1_explore_148, r_X1_explore_149, r_X1_explore_151, r_X1_explore_152, r_X1_explore_153, r_X1_explore_155, r_X1_explore_156, r_X1_explore_158, r_X1_explore_159, r_X1_explore_160, r_X1_explore_161, r_X1_explore_164, r_X1_explore_165, r_X1_explore_168, r_X1_explore_170, r_X1_explore_171, r_X1_explore_172, r_X1_explore_173, r_X1_explore_174, r_X1_explore_175, r_X1_explore_178, r_X1_explore_179, r_X1_explore_182, r_X1_explore_183, r_X1_explore_185, r_X1_explore_187, r_X1_explore_190, r_X1_explore_192, r_X1_explore_194, r_X1_explore_197, r_X1_explore_199, r_X1_explore_201, r_X1_explore_204, r_X1_explore_206, r_X1_explore_207, r_X1_explore_210, r_X1_explore_213, r_X1_explore_214, r_X1_explore_217, r_X1_explore_219, r_X1_explore_221, r_X1_explore_222, r_X1_explore_223, r_X1_explore_225, r_X1_explore_226, r_X1_explore_229, r_X1_explore_232, r_X1_explore_234, r_X1_explore_235, r_X1_explore_238, r_X1_explore_239, r_X1_explore_240, r_X1_explore_241, r_X1_explore_242, r_X1_explore_243, r_X1_explore_244, r_X1_explore_246, r_X1_explore_247, r_X1_explore_248, r_X1_explore_250, r_X1_explore_252, r_X1_explore_253, r_X1_explore_255, r_X1_explore_257, r_X1_explore_260, r_X1_explore_261, r_X1_explore_263, r_X1_explore_265, r_X1_explore_267, r_X1_explore_270, r_X1_explore_271, r_X1_explore_274, r_X1_explore_275, r_X1_explore_277, r_X1_explore_278, r_X1_explore_281, r_X1_explore_284, r_X1_explore_286, r_X1_explore_287, r_X1_explore_288, r_X1_explore_291, r_X1_explore_294, r_X1_explore_297, if_true, nI_1]
                refine skip (fun _ hnx => ?_) _ _ _
                apply hop
                apply pl_open.mpr
                exact pl_next_ready hS1 ht1 hNn kw2 (fun u hu hpu => by
                  have := hnx.2.2 u hu hpu
                  omega)
          · rintro ⟨τ, z10, z11, z12⟩ ⟨j1, j2, j3, j4, j5, j6, j7, j8, j9⟩
            simp only at j1 j2 j3 j4 j5 j6 j7 j8 j9 ⊢
            simp only [r_X1_explore_120]
            simp only [r_X1_explore_0, r_X1_explore_1, r_X1_explore_3, r_X1_explore_6, r_X1_explore_7, r_X1_explore_8, r_X1_explore_9, r_X1_explore_12, r_X1_explore_13, r_X1_explore_16, r_X1_explore_17, r_X1_explore_20, r_X1_explore_21, r_X1_explore_22, r_X1_explore_25, r_X1_explore_26, r_X1_explore_27, r_X1_explore_29, r_X1_explore_31, r_X1_explore_33, r_X1_explore_36, r_X1_explore_37, r_X1_explore_40, r_X1_explore_41, r_X1_explore_44, r_X1_explore_45, r_X1_explore_48, r_X1_explore_49, r_X1_explore_52, r_X1_explore_55, r_X1_explore_58, r_X1_explore_59, r_X1_explore_60, r_X1_explore_61, r_X1_explore_64, r_X1_explore_67, r_X1_explore_70, r_X1_explore_71, r_X1_explore_73, r_X1_explore_76, r_X1_explore_77, r_X1_explore_79, r_X1_explore_82, r_X1_explore_83, r_X1_explore_86, r_X1_explore_87, r_X1_explore_88, r_X1_explore_91, r_X1_explore_92, r_X1_explore_94, r_X1_explore_97, r_X1_explore_98, r_X1_explore_99, r_X1_explore_100, r_X1_explore_102, r_X1_explore_104, r_X1_explore_107, r_X1_explore_110, r_X1_explore_112, r_X1_explore_115, r_X1_explore_117, r_X1_explore_118, r_X1_explore_122, r_X1_explore_123, r_X1_explore_126, r_X1_explore_129, r_X1_explore_132, r_X1_explore_133, r_X1_explore_136, r_X1_explore_138, r_X1_explore_139, r_X1_explore_141, r_X1_explore_142, r_X1_explore_145, r_X1_explore_146, r_X1_explore_148, r_X1_explore_149, r_X1_explore_151, r_X1_explore_152, r_X1_explore_153, r_X1_explore_155, r_X1_explore_156, r_X1_explore_158, r_X1_explore_159, r_X1_explore_160, r_X1_explore_161, r_X1_explore_164, r_X1_explore_165, r_X1_explore_168, r_X1_explore_170, r_X1_explore_171, r_X1_explore_172, r_X1_explore_173, r_X1_explore_174, r_X1_explore_175, r_X1_explore_178, r_X1_explore_179, r_X1_explore_182, r_X1_explore_183, r_X1_explore_185, r_X1_explore_187, r_X1_explore_190, r_X1_explore_192, r_X1_explore_194, r_X1_explore_197, r_X1_explore_199, r_X1_explore_201, r_X1_explore_204, r_X1_explore_206, r_X1_explore_207, r_X1_explore_210, r_X1_explore_213, r_X1_explore_214, r_X1_explore_217, r_X1_explore_219, r_X1_explore_221, r_X1_explore_222, r_X1_explore_223, r_X1_explore_225, r_X1_explore_226, r_X1_explore_229, r_X1_explore_232, r_X1_explore_234, r_X1_explore_235, r_X1_explore_238, r_X1_explore_239, r_X1_explore_240, r_X1_explore_241, r_X1_explore_242, r_X1_explore_243, r_X1_explore_244, r_X1_explore_246, r_X1_explore_247, r_X1_explore_248, r_X1_explore_250, r_X1_explore_252, r_X1_explore_253, r_X1_explore_255, r_X1_explore_257, r_X1_explore_260, r_X1_explore_261, r_X1_explore_263, r_X1_explore_265, r_X1_explore_267, r_X1_explore_270, r_X1_explore_271, r_X1_explore_274, r_X1_explore_275, r_X1_explore_277, r_X1_explore_278, r_X1_explore_281, r_X1_explore_284, r_X1_explore_286, r_X1_explore_287, r_X1_explore_288, r_X1_explore_291, r_X1_explore_294, r_X1_explore_297, (xS_fr j1 hx0).2.2.1, Int32.le_refl, if_true]
            refine hE τ ⟨j1, j2, j3, fun x hx => ?_, j5, j6, j7, j8⟩ (fun hP => ?_)
            · rw [j4 x (by omega)]
              exact i4 x hx
            · obtain ⟨w, hw, hpw⟩ := pl_lack n1 hfull
              obtain ⟨w, hw, hpw, hmin⟩ := pl_min S (fun w => p.testBit w = false) n ⟨w, hw, hpw⟩
              obtain ⟨j, hj, e1⟩ := (h7 w hw).2
              refine j9 hP j hj ?_
              rw [e1]
              exact ⟨hw, hpw, hmin⟩
        have hstore : ex_r none (d + 3) ex_m_X1_explore E 111 [.ref 1, .int (nI dp), .int (nI p), .int la, .int (nI (pl_A n t wt p b)), .long (lN (pl_K n p b)), .retAddr 0, .int (nI fr), .retAddr 0, .retAddr 0, .retAddr 0, .retAddr 0, .retAddr 0] [] (ex_sB (ex_sA (hz σ er (nI (pl_A n t wt (2 ^ n - 1) e)) (lN (pl_K n (2 ^ n - 1) e)) (nI s) (nI f1)) 13 p (nI (pl_A n t wt p b))) 14 p (lN (pl_K n p b))) 0 := by
          refine hcont _ (xF_trans hz1F (xF_trans (xF_row _ _ _ (by decide)) (xF_sB _ _ _))) rfl rfl rfl rfl rfl rfl (fun q hq => ?_) (fun q hq => ?_) rfl
          · show upd (σ.2.2.1 13) p (nI (pl_A n t wt p b)) q = nI 1000000 ∨ ∃ P, pl_ok n H t h N q P ∧ (∀ w, w < n → q.testBit w = true → P w < 96) ∧ upd (σ.2.2.1 13) p (nI (pl_A n t wt p b)) q = nI (pl_A n t wt q P) ∧ vp_updL (σ.2.2.2 14) p (lN (pl_K n p b)) q = lN (pl_K n q P)
            by_cases e1 : q = p
            · subst e1
              exact Or.inr ⟨b, n2, fun w hw hq => (n3 w hw hq).2.1, by simp [s_u], by simp [vp_updL]⟩
            · have := hW q hq
              simp only [s_u, vp_updL, e1, if_false]
              exact this
          · show ∃ k, k < 2 ^ 60 ∧ vp_updL (σ.2.2.2 14) p (lN (pl_K n p b)) q = lN k
            by_cases e1 : q = p
            · subst e1
              exact ⟨_, hKb, by simp [vp_updL]⟩
            · obtain ⟨k, g1, g2⟩ := hK q hq
              exact ⟨k, g1, by simp only [vp_updL, e1, if_false]; exact g2⟩
        have hht : ∀ w, w < n → σ.2.2.1 27 w = nI (t w) ∧ t w ≤ 100 := fun w hw => ⟨(h5 w hw).1, by have := ht12 w hw; omega⟩
        have hhb : ∀ w, w < n → p.testBit w = true → σ.2.2.1 11 w = nI (b w) ∧ b w < 2 ^ 31 := fun w hw hp => ⟨(n3 w hw hp).1, by have := (n3 w hw hp).2.1; omega⟩
        rcases hW p n1 with g1 | ⟨P, g1, g2, g3, g4⟩
        · obtain ⟨k2, g2, g3⟩ := hK p (by omega)
          rw [c_isOutdone (σ := hz σ er (nI (pl_A n t wt (2 ^ n - 1) e)) (lN (pl_K n (2 ^ n - 1) e)) (nI s) (nI f1)) (a2 := 1000000) (k2 := k2) (s := s) (b := b) (t := t) hn h3 n1 (by omega) (by decide) hKb g2 (by omega) g1 g3 rfl hhb hht, if_neg (by omega)]
          simp only [Option.toList, List.cons_append, List.nil_append, r_X1_explore_0, r_X1_explore_1, r_X1_explore_3, r_X1_explore_6, r_X1_explore_7, r_X1_explore_8, r_X1_explore_9, r_X1_explore_12, r_X1_explore_13, r_X1_explore_16, r_X1_explore_17, r_X1_explore_20, r_X1_explore_21, r_X1_explore_22, r_X1_explore_25, r_X1_explore_26, r_X1_explore_27, r_X1_explore_29, r_X1_explore_31, r_X1_explore_33, r_X1_explore_36, r_X1_explore_37, r_X1_explore_40, r_X1_explore_41, r_X1_explore_44, r_X1_explore_45, r_X1_explore_48, r_X1_explore_49, r_X1_explore_52, r_X1_explore_55, r_X1_explore_58, r_X1_explore_59, r_X1_explore_60, r_X1_explore_61, r_X1_explore_64, r_X1_explore_67, r_X1_explore_70, r_X1_explore_71, r_X1_explore_73, r_X1_explore_76, r_X1_explore_77, r_X1_explore_79, r_X1_explore_82, r_X1_explore_83, r_X1_explore_86, r_X1_explore_87, r_X1_explore_88, r_X1_explore_91, r_X1_explore_92, r_X1_explore_94, r_X1_explore_97, r_X1_explore_98, r_X1_explore_99, r_X1_explore_100, r_X1_explore_102, r_X1_explore_104, r_X1_explore_107, r_X1_explore_110, r_X1_explore_112, r_X1_explore_115, r_X1_explore_117, r_X1_explore_118, r_X1_explore_122, r_X1_explore_123, r_X1_explore_126, r_X1_explore_129, r_X1_explore_132, r_X1_explore_133, r_X1_explore_136, r_X1_explore_138, r_X1_explore_139, r_X1_explore_141, r_X1_explore_142, r_X1_explore_145, r_X1_explore_146, r_X1_explore_148, r_X1_explore_149, r_X1_explore_151, r_X1_explore_152, r_X1_explore_153, r_X1_explore_155, r_X1_explore_156, r_X1_explore_158, r_X1_explore_159, r_X1_explore_160, r_X1_explore_161, r_X1_explore_164, r_X1_explore_165, r_X1_explore_168, r_X1_explore_170, r_X1_explore_171, r_X1_explore_172, r_X1_explore_173, r_X1_explore_174, r_X1_explore_175, r_X1_explore_178, r_X1_explore_179, r_X1_explore_182, r_X1_explore_183, r_X1_explore_185, r_X1_explore_187, r_X1_explore_190, r_X1_explore_192, r_X1_explore_194, r_X1_explore_197, r_X1_explore_199, r_X1_explore_201, r_X1_explore_204, r_X1_explore_206, r_X1_explore_207, r_X1_explore_210, r_X1_explore_213, r_X1_explore_214, r_X1_explore_217, r_X1_explore_219, r_X1_explore_221, r_X1_explore_222, r_X1_explore_223, r_X1_explore_225, r_X1_explore_226, r_X1_explore_229, r_X1_explore_232, r_X1_explore_234, r_X1_explore_235, r_X1_explore_238, r_X1_explore_239, r_X1_explore_240, r_X1_explore_241, r_X1_explore_242, r_X1_explore_243, r_X1_explore_244, r_X1_explore_246, r_X1_explore_247, r_X1_explore_248, r_X1_explore_250, r_X1_explore_252, r_X1_explore_253, r_X1_explore_255, r_X1_explore_257, r_X1_explore_260, r_X1_explore_261, r_X1_explore_263, r_X1_explore_265, r_X1_explore_267, r_X1_explore_270, r_X1_explore_271, r_X1_explore_274, r_X1_explore_275, r_X1_explore_277, r_X1_explore_278, r_X1_explore_281, r_X1_explore_284, r_X1_explore_286, r_X1_explore_287, r_X1_explore_288, r_X1_explore_291, r_X1_explore_294, r_X1_explore_297, if_true]
          exact hstore
        · have g5 : pl_A n t wt p P ≤ 800 * 108 := pl_A_bd hn hwt (fun w hw hp => by
            have := g2 w hw hp
            have := ht12 w hw
            omega)
          rw [c_isOutdone (σ := hz σ er (nI (pl_A n t wt (2 ^ n - 1) e)) (lN (pl_K n (2 ^ n - 1) e)) (nI s) (nI f1)) (a2 := pl_A n t wt p P) (k2 := pl_K n p P) (s := s) (b := b) (t := t) hn h3 n1 (by omega) (by omega) hKb (pl_K_bd hn (fun w hw hp => by have := g2 w hw hp; omega)) (by omega) g3 g4 rfl hhb hht]
          by_cases hl2 : pl_A n t wt p P * 2 ^ 60 + pl_K n p P < pl_A n t wt p b * 2 ^ 60 + pl_K n p b
          · rw [if_pos hl2]
            by_cases hoo : oo t b (pl_K n p P) s p n = true
            · rw [if_pos hoo]
              simp only [Option.toList, List.cons_append, List.nil_append, r_X1_explore_0, r_X1_explore_1, r_X1_explore_3, r_X1_explore_6, r_X1_explore_7, r_X1_explore_8, r_X1_explore_9, r_X1_explore_12, r_X1_explore_13, r_X1_explore_16, r_X1_explore_17, r_X1_explore_20, r_X1_explore_21, r_X1_explore_22, r_X1_explore_25, r_X1_explore_26, r_X1_explore_27, r_X1_explore_29, r_X1_explore_31, r_X1_explore_33, r_X1_explore_36, r_X1_explore_37, r_X1_explore_40, r_X1_explore_41, r_X1_explore_44, r_X1_explore_45, r_X1_explore_48, r_X1_explore_49, r_X1_explore_52, r_X1_explore_55, r_X1_explore_58, r_X1_explore_59, r_X1_explore_60, r_X1_explore_61, r_X1_explore_64, r_X1_explore_67, r_X1_explore_70, r_X1_explore_71, r_X1_explore_73, r_X1_explore_76, r_X1_explore_77, r_X1_explore_79, r_X1_explore_82, r_X1_explore_83, r_X1_explore_86, r_X1_explore_87, r_X1_explore_88, r_X1_explore_91, r_X1_explore_92, r_X1_explore_94, r_X1_explore_97, r_X1_explore_98, r_X1_explore_99, r_X1_explore_100, r_X1_explore_102, r_X1_explore_104, r_X1_explore_107, r_X1_explore_110, r_X1_explore_112, r_X1_explore_115, r_X1_explore_117, r_X1_explore_118, r_X1_explore_122, r_X1_explore_123, r_X1_explore_126, r_X1_explore_129, r_X1_explore_132, r_X1_explore_133, r_X1_explore_136, r_X1_explore_138, r_X1_explore_139, r_X1_explore_141, r_X1_explore_142, r_X1_explore_145, r_X1_explore_146, r_X1_explore_148, r_X1_explore_149, r_X1_explore_151, r_X1_explore_152, r_X1_explore_153, r_X1_explore_155, r_X1_explore_156, r_X1_explore_158, r_X1_explore_159, r_X1_explore_160, r_X1_explore_161, r_X1_explore_164, r_X1_explore_165, r_X1_explore_168, r_X1_explore_170, r_X1_explore_171, r_X1_explore_172, r_X1_explore_173, r_X1_explore_174, r_X1_explore_175, r_X1_explore_178, r_X1_explore_179, r_X1_explore_182, r_X1_explore_183, r_X1_explore_185, r_X1_explore_187, r_X1_explore_190, r_X1_explore_192, r_X1_explore_194, r_X1_explore_197, r_X1_explore_199, r_X1_explore_201, r_X1_explore_204, r_X1_explore_206, r_X1_explore_207, r_X1_explore_210, r_X1_explore_213, r_X1_explore_214, r_X1_explore_217, r_X1_explore_219, r_X1_explore_221, r_X1_explore_222, r_X1_explore_223, r_X1_explore_225, r_X1_explore_226, r_X1_explore_229, r_X1_explore_232, r_X1_explore_234, r_X1_explore_235, r_X1_explore_238, r_X1_explore_239, r_X1_explore_240, r_X1_explore_241, r_X1_explore_242, r_X1_explore_243, r_X1_explore_244, r_X1_explore_246, r_X1_explore_247, r_X1_explore_248, r_X1_explore_250, r_X1_explore_252, r_X1_explore_253, r_X1_explore_255, r_X1_explore_257, r_X1_explore_260, r_X1_explore_261, r_X1_explore_263, r_X1_explore_265, r_X1_explore_267, r_X1_explore_270, r_X1_explore_271, r_X1_explore_274, r_X1_explore_275, r_X1_explore_277, r_X1_explore_278, r_X1_explore_281, r_X1_explore_284, r_X1_explore_286, r_X1_explore_287, r_X1_explore_288, r_X1_explore_291, r_X1_explore_294, r_X1_explore_297, i10, if_false]
              refine hE _ hz1O (fun hP => ?_)
              exfalso
              have hdig : ∀ w, w < n → p.testBit w = true → pl_K n p P / 128 ^ (7 - w) % 128 = P w := fun w hw hp => pl_K_digit hn (fun w hw hp => by have := g2 w hw hp; omega) hw hp
              refine xe_out (e := e) (s := s) hS1 hS2 hNn hP hbfr i5 (fun w hw hpw => (hspw w hw hpw).2.1) (heS hP) g1 hl2 (fun w hw hp => ?_)
              have := oo_iff.mp hoo w hw hp
              rw [hdig w hw hp] at this
              exact this
            · rw [if_neg hoo]
              simp only [Option.toList, List.cons_append, List.nil_append, r_X1_explore_0, r_X1_explore_1, r_X1_explore_3, r_X1_explore_6, r_X1_explore_7, r_X1_explore_8, r_X1_explore_9, r_X1_explore_12, r_X1_explore_13, r_X1_explore_16, r_X1_explore_17, r_X1_explore_20, r_X1_explore_21, r_X1_explore_22, r_X1_explore_25, r_X1_explore_26, r_X1_explore_27, r_X1_explore_29, r_X1_explore_31, r_X1_explore_33, r_X1_explore_36, r_X1_explore_37, r_X1_explore_40, r_X1_explore_41, r_X1_explore_44, r_X1_explore_45, r_X1_explore_48, r_X1_explore_49, r_X1_explore_52, r_X1_explore_55, r_X1_explore_58, r_X1_explore_59, r_X1_explore_60, r_X1_explore_61, r_X1_explore_64, r_X1_explore_67, r_X1_explore_70, r_X1_explore_71, r_X1_explore_73, r_X1_explore_76, r_X1_explore_77, r_X1_explore_79, r_X1_explore_82, r_X1_explore_83, r_X1_explore_86, r_X1_explore_87, r_X1_explore_88, r_X1_explore_91, r_X1_explore_92, r_X1_explore_94, r_X1_explore_97, r_X1_explore_98, r_X1_explore_99, r_X1_explore_100, r_X1_explore_102, r_X1_explore_104, r_X1_explore_107, r_X1_explore_110, r_X1_explore_112, r_X1_explore_115, r_X1_explore_117, r_X1_explore_118, r_X1_explore_122, r_X1_explore_123, r_X1_explore_126, r_X1_explore_129, r_X1_explore_132, r_X1_explore_133, r_X1_explore_136, r_X1_explore_138, r_X1_explore_139, r_X1_explore_141, r_X1_explore_142, r_X1_explore_145, r_X1_explore_146, r_X1_explore_148, r_X1_explore_149, r_X1_explore_151, r_X1_explore_152, r_X1_explore_153, r_X1_explore_155, r_X1_explore_156, r_X1_explore_158, r_X1_explore_159, r_X1_explore_160, r_X1_explore_161, r_X1_explore_164, r_X1_explore_165, r_X1_explore_168, r_X1_explore_170, r_X1_explore_171, r_X1_explore_172, r_X1_explore_173, r_X1_explore_174, r_X1_explore_175, r_X1_explore_178, r_X1_explore_179, r_X1_explore_182, r_X1_explore_183, r_X1_explore_185, r_X1_explore_187, r_X1_explore_190, r_X1_explore_192, r_X1_explore_194, r_X1_explore_197, r_X1_explore_199, r_X1_explore_201, r_X1_explore_204, r_X1_explore_206, r_X1_explore_207, r_X1_explore_210, r_X1_explore_213, r_X1_explore_214, r_X1_explore_217, r_X1_explore_219, r_X1_explore_221, r_X1_explore_222, r_X1_explore_223, r_X1_explore_225, r_X1_explore_226, r_X1_explore_229, r_X1_explore_232, r_X1_explore_234, r_X1_explore_235, r_X1_explore_238, r_X1_explore_239, r_X1_explore_240, r_X1_explore_241, r_X1_explore_242, r_X1_explore_243, r_X1_explore_244, r_X1_explore_246, r_X1_explore_247, r_X1_explore_248, r_X1_explore_250, r_X1_explore_252, r_X1_explore_253, r_X1_explore_255, r_X1_explore_257, r_X1_explore_260, r_X1_explore_261, r_X1_explore_263, r_X1_explore_265, r_X1_explore_267, r_X1_explore_270, r_X1_explore_271, r_X1_explore_274, r_X1_explore_275, r_X1_explore_277, r_X1_explore_278, r_X1_explore_281, r_X1_explore_284, r_X1_explore_286, r_X1_explore_287, r_X1_explore_288, r_X1_explore_291, r_X1_explore_294, r_X1_explore_297, if_true]
              exact hcont _ hz1F rfl rfl rfl rfl rfl rfl (xW_eq rfl rfl hW) (xK_eq rfl hK) rfl
          · rw [if_neg hl2]
            simp only [Option.toList, List.cons_append, List.nil_append, r_X1_explore_0, r_X1_explore_1, r_X1_explore_3, r_X1_explore_6, r_X1_explore_7, r_X1_explore_8, r_X1_explore_9, r_X1_explore_12, r_X1_explore_13, r_X1_explore_16, r_X1_explore_17, r_X1_explore_20, r_X1_explore_21, r_X1_explore_22, r_X1_explore_25, r_X1_explore_26, r_X1_explore_27, r_X1_explore_29, r_X1_explore_31, r_X1_explore_33, r_X1_explore_36, r_X1_explore_37, r_X1_explore_40, r_X1_explore_41, r_X1_explore_44, r_X1_explore_45, r_X1_explore_48, r_X1_explore_49, r_X1_explore_52, r_X1_explore_55, r_X1_explore_58, r_X1_explore_59, r_X1_explore_60, r_X1_explore_61, r_X1_explore_64, r_X1_explore_67, r_X1_explore_70, r_X1_explore_71, r_X1_explore_73, r_X1_explore_76, r_X1_explore_77, r_X1_explore_79, r_X1_explore_82, r_X1_explore_83, r_X1_explore_86, r_X1_explore_87, r_X1_explore_88, r_X1_explore_91, r_X1_explore_92, r_X1_explore_94, r_X1_explore_97, r_X1_explore_98, r_X1_explore_99, r_X1_explore_100, r_X1_explore_102, r_X1_explore_104, r_X1_explore_107, r_X1_explore_110, r_X1_explore_112, r_X1_explore_115, r_X1_explore_117, r_X1_explore_118, r_X1_explore_122, r_X1_explore_123, r_X1_explore_126, r_X1_explore_129, r_X1_explore_132, r_X1_explore_133, r_X1_explore_136, r_X1_explore_138, r_X1_explore_139, r_X1_explore_141, r_X1_explore_142, r_X1_explore_145, r_X1_explore_146, r_X1_explore_148, r_X1_explore_149, r_X1_explore_151, r_X1_explore_152, r_X1_explore_153, r_X1_explore_155, r_X1_explore_156, r_X1_explore_158, r_X1_explore_159, r_X1_explore_160, r_X1_explore_161, r_X1_explore_164, r_X1_explore_165, r_X1_explore_168, r_X1_explore_170, r_X1_explore_171, r_X1_explore_172, r_X1_explore_173, r_X1_explore_174, r_X1_explore_175, r_X1_explore_178, r_X1_explore_179, r_X1_explore_182, r_X1_explore_183, r_X1_explore_185, r_X1_explore_187, r_X1_explore_190, r_X1_explore_192, r_X1_explore_194, r_X1_explore_197, r_X1_explore_199, r_X1_explore_201, r_X1_explore_204, r_X1_explore_206, r_X1_explore_207, r_X1_explore_210, r_X1_explore_213, r_X1_explore_214, r_X1_explore_217, r_X1_explore_219, r_X1_explore_221, r_X1_explore_222, r_X1_explore_223, r_X1_explore_225, r_X1_explore_226, r_X1_explore_229, r_X1_explore_232, r_X1_explore_234, r_X1_explore_235, r_X1_explore_238, r_X1_explore_239, r_X1_explore_240, r_X1_explore_241, r_X1_explore_242, r_X1_explore_243, r_X1_explore_244, r_X1_explore_246, r_X1_explore_247, r_X1_explore_248, r_X1_explore_250, r_X1_explore_252, r_X1_explore_253, r_X1_explore_255, r_X1_explore_257, r_X1_explore_260, r_X1_explore_261, r_X1_explore_263, r_X1_explore_265, r_X1_explore_267, r_X1_explore_270, r_X1_explore_271, r_X1_explore_274, r_X1_explore_275, r_X1_explore_277, r_X1_explore_278, r_X1_explore_281, r_X1_explore_284, r_X1_explore_286, r_X1_explore_287, r_X1_explore_288, r_X1_explore_291, r_X1_explore_294, r_X1_explore_297, if_true]
            exact hstore
    · rw [if_neg hless, if_pos rfl]
      apply hE _ hz1O
      intro hP
      have hVS := heS2 hP
      rcases q5 with ⟨g1, _⟩ | ⟨c, g1, g2, g3, g4⟩
      · exfalso
        rw [g1] at hless
        omega
      · refine xLe_eq (σ := σ) rfl rfl rfl ⟨c, g1, ?_⟩
        unfold pl_V at hVS ⊢
        rw [g2, g3] at hless
        generalize (2 : Nat) ^ 60 = B at hless hVS ⊢
        omega
  simp only [r_X1_explore, r_X1_explore_0, r_X1_explore_1, r_X1_explore_3, r_X1_explore_6, r_X1_explore_7, r_X1_explore_8, r_X1_explore_9, r_X1_explore_12, r_X1_explore_13, r_X1_explore_16, r_X1_explore_17, r_X1_explore_20, r_X1_explore_21, r_X1_explore_22, r_X1_explore_25, r_X1_explore_26, r_X1_explore_27, r_X1_explore_29, r_X1_explore_31, r_X1_explore_33, r_X1_explore_36, r_X1_explore_37, r_X1_explore_40, r_X1_explore_41, r_X1_explore_44, r_X1_explore_45, r_X1_explore_48, r_X1_explore_49, r_X1_explore_52, r_X1_explore_55, r_X1_explore_58, r_X1_explore_59, r_X1_explore_60, r_X1_explore_61, r_X1_explore_64, r_X1_explore_67, r_X1_explore_70, r_X1_explore_71, r_X1_explore_73, r_X1_explore_76, r_X1_explore_77, r_X1_explore_79, r_X1_explore_82, r_X1_explore_83, r_X1_explore_86, r_X1_explore_87, r_X1_explore_88, r_X1_explore_91, r_X1_explore_92, r_X1_explore_94, r_X1_explore_97, r_X1_explore_98, r_X1_explore_99, r_X1_explore_100, r_X1_explore_102, r_X1_explore_104, r_X1_explore_107, r_X1_explore_110, r_X1_explore_111, r_X1_explore_112, r_X1_explore_115, r_X1_explore_117, r_X1_explore_118, r_X1_explore_122, r_X1_explore_123, r_X1_explore_126, r_X1_explore_129, r_X1_explore_132, r_X1_explore_133, r_X1_explore_136, r_X1_explore_138, r_X1_explore_139, r_X1_explore_141, r_X1_explore_142, r_X1_explore_145, r_X1_explore_146, r_X1_explore_148, r_X1_explore_149, r_X1_explore_151, r_X1_explore_152, r_X1_explore_153, r_X1_explore_155, r_X1_explore_156, r_X1_explore_158, r_X1_explore_159, r_X1_explore_160, r_X1_explore_161, r_X1_explore_164, r_X1_explore_165, r_X1_explore_168, r_X1_explore_170, r_X1_explore_171, r_X1_explore_172, r_X1_explore_173, r_X1_explore_174, r_X1_explore_175, r_X1_explore_178, r_X1_explore_179, r_X1_explore_182, r_X1_explore_183, r_X1_explore_185, r_X1_explore_187, r_X1_explore_190, r_X1_explore_192, r_X1_explore_194, r_X1_explore_197, r_X1_explore_199, r_X1_explore_201, r_X1_explore_204, r_X1_explore_206, r_X1_explore_207, r_X1_explore_210, r_X1_explore_213, r_X1_explore_214, r_X1_explore_217, r_X1_explore_219, r_X1_explore_221, r_X1_explore_222, r_X1_explore_223, r_X1_explore_225, r_X1_explore_226, r_X1_explore_229, r_X1_explore_232, r_X1_explore_234, r_X1_explore_235, r_X1_explore_238, r_X1_explore_239, r_X1_explore_240, r_X1_explore_241, r_X1_explore_242, r_X1_explore_243, r_X1_explore_244, r_X1_explore_246, r_X1_explore_247, r_X1_explore_248, r_X1_explore_250, r_X1_explore_252, r_X1_explore_253, r_X1_explore_255, r_X1_explore_257, r_X1_explore_260, r_X1_explore_261, r_X1_explore_263, r_X1_explore_265, r_X1_explore_267, r_X1_explore_270, r_X1_explore_271, r_X1_explore_274, r_X1_explore_275, r_X1_explore_277, r_X1_explore_278, r_X1_explore_281, r_X1_explore_284, r_X1_explore_286, r_X1_explore_287, r_X1_explore_288, r_X1_explore_291, r_X1_explore_294, r_X1_explore_297]
  rw [if_pos (show nI dp ≤ (8 : Int32) from nI_le (b := 8) (by omega) (by omega))]
  rcases hL with ⟨l1, l2, l3⟩ | ⟨l, l1, l2, l3, l4⟩
  · rw [if_pos l1]
    rw [l2] at key24
    exact key24
  · rw [if_neg (by rw [l2]; exact nI_ne1 (by omega)), show σ.2.2.1 11 la.toNatClampNeg = nI fr by rw [l2, tl_cl (by omega), (n3 l l1 l3).1, l4]]
    exact ⟨by rw [l2]; exact vp_in_nI (by omega) (by omega), key24⟩
theorem c_explore {d : Nat} (hS : xOpt n H t h wt N S) : ∀ (r dp p fr : Nat) (la : Int32) (b bf : Nat → Nat) (σ : ex_S) (E : ex_O → ex_S → Prop), dp + r = n → xS σ n H t h wt N od bw → xN σ n H dp p fr t h N b → xL la n p fr b → xE σ n dp p od bf → xW σ n H t h wt N → xK σ → xB σ n H t h wt N → (∀ ρ, xO σ ρ n H dp p t h wt N → (xP n p b bf S → xLe ρ n H t h wt N (pl_V n t wt (2 ^ n - 1) S)) → E (.inl none) ρ) → ex_C (d + r + 4) 15 [.ref 1, .int (nI dp), .int (nI p), .int la, .int (nI (pl_A n t wt p b)), .long (lN (pl_K n p b))] σ E := by
  intro r
  induction r with
  | zero =>
    intro dp p fr la b bf σ E hr hx hN hL hEr hW hK hB hE
    exact c_explore_step hx hS hN hL hEr hW hK hB (fun p2 fr2 l2 b2 bf2 τ E2 hlt => absurd hlt (by omega)) hE
  | succ r ih =>
    intro dp p fr la b bf σ E hr hx hN hL hEr hW hK hB hE
    exact c_explore_step (d := d + r + 1) hx hS hN hL hEr hW hK hB (fun p2 fr2 l2 b2 bf2 τ E2 hlt a1 a2 a3 a4 a5 a6 a7 a8 => ih (dp + 1) p2 fr2 (nI l2) b2 bf2 τ E2 (by omega) a1 a2 a3 a4 a5 a6 a7 a8) hE
end PE
