/-! ===== the model's search: the walk ===== -/
section ML
variable {n m H cs : Nat} {nr nd t h wt N : Nat → Nat} {so cn : Nat → Bool} {th : Int32} {σ : ex_S}
theorem c_seeks_step {d : Nat} {p : Nat} {b : Nat → Nat} {le : Int32} {f g k : Nat → Int32} {E : ex_O → ex_S → Prop} (hs : mS σ n m H nr nd t h wt N so cn th) (hcs : cs ≤ 8000) (hN : mN n H t h N p b g k) (hB : mB n H cs t h wt N le f) (hrec : ∀ (p2 : Nat) (b2 : Nat → Nat) (le : Int32) (f g k : Nat → Int32) (E : ex_O → ex_S → Prop), tl_ct (fun i => !p2.testBit i) n < tl_ct (fun i => !p.testBit i) n → mN n H t h N p2 b2 g k → mB n H cs t h wt N le f → (∀ le2 f2 g2 k2, mP n H cs t h wt N p2 b2 le f le2 f2 g2 k2 → E (.inl none) (mz σ le2 f2 g2 k2)) → ex_C (d + 3) 108 [.ref 5, .int (nI p2), .int (nI (cs + pl_A n t wt p2 b2))] (mz σ le f g k) E) (hE : ∀ le2 f2 g2 k2, mP n H cs t h wt N p b le f le2 f2 g2 k2 → E (.inl none) (mz σ le2 f2 g2 k2)) : ex_C (d + 4) 108 [.ref 5, .int (nI p), .int (nI (cs + pl_A n t wt p b))] (mz σ le f g k) E := by
  have hs0 := hs
  obtain ⟨h1, h2, h3, h4, h5, h6, h7, h8⟩ := hs
  have hn := h1.1
  have hp8 := tl_p8 hn
  have hpn := hN.1
  have hpow := Nat.two_pow_pos n
  have hT : pl_T n t p ≤ 96 := pl_T_le hn (fun w hw => (h5 w hw).2.2.2.2.1)
  have hbd : ∀ w, w < n → p.testBit w = true → b w + t w ≤ 96 := fun w hw hp => by
    have := (hN.2.2.1 w hw hp).2
    omega
  have hA : pl_A n t wt p b ≤ 800 * 96 := pl_A_bd hn (fun w hw => (h5 w hw).2.2.2.2.2.2) hbd
  have hmd : ∀ le f g k, md_at (mz σ le f g k) n m nr nd so := fun le f g k => h1
  have key16 : ex_r none (d + 3) ex_m_X5_seeks E 16 [.ref 5, .int (nI p), .int (nI (cs + pl_A n t wt p b)), .retAddr 0, .retAddr 0, .retAddr 0] [] (mz σ le f g k) 0 := by
    simp only [r_X5_seeks_0, r_X5_seeks_1, r_X5_seeks_4, r_X5_seeks_7, r_X5_seeks_8, r_X5_seeks_9, r_X5_seeks_12, r_X5_seeks_15, r_X5_seeks_16, r_X5_seeks_17, r_X5_seeks_18, r_X5_seeks_19, r_X5_seeks_22, r_X5_seeks_23, r_X5_seeks_24, r_X5_seeks_25, r_X5_seeks_28, r_X5_seeks_29, r_X5_seeks_30, r_X5_seeks_33, r_X5_seeks_36, r_X5_seeks_37, r_X5_seeks_38, r_X5_seeks_39, r_X5_seeks_42, r_X5_seeks_43, r_X5_seeks_45, r_X5_seeks_46, r_X5_seeks_49, r_X5_seeks_52, r_X5_seeks_53, r_X5_seeks_56, r_X5_seeks_57, r_X5_seeks_58, r_X5_seeks_61, r_X5_seeks_62, r_X5_seeks_63, r_X5_seeks_64, r_X5_seeks_67, r_X5_seeks_70, r_X5_seeks_71, r_X5_seeks_72, r_X5_seeks_74, r_X5_seeks_75, r_X5_seeks_78, r_X5_seeks_81, r_X5_seeks_82, r_X5_seeks_83, r_X5_seeks_84, r_X5_seeks_85, r_X5_seeks_86, r_X5_seeks_87, r_X5_seeks_90, r_X5_seeks_91, r_X5_seeks_92, r_X5_seeks_93, r_X5_seeks_96, r_X5_seeks_99, r_X5_seeks_102, r_X5_seeks_103, r_X5_seeks_104, r_X5_seeks_107, r_X5_seeks_109, r_X5_seeks_110, r_X5_seeks_113, r_X5_seeks_114, r_X5_seeks_116, r_X5_seeks_117, r_X5_seeks_119, r_X5_seeks_123, r_X5_seeks_125, r_X5_seeks_126, r_X5_seeks_129, r_X5_seeks_130, r_X5_seeks_131, r_X5_seeks_132, r_X5_seeks_135, r_X5_seeks_136, r_X5_seeks_139, r_X5_seeks_141, r_X5_seeks_142, r_X5_seeks_143, r_X5_seeks_144, r_X5_seeks_147, r_X5_seeks_148, r_X5_seeks_149, r_X5_seeks_150, r_X5_seeks_151, r_X5_seeks_154, r_X5_seeks_157, r_X5_seeks_158, r_X5_seeks_159, r_X5_seeks_160, r_X5_seeks_161, r_X5_seeks_162, r_X5_seeks_163, r_X5_seeks_164, r_X5_seeks_165, r_X5_seeks_168, r_X5_seeks_169, r_X5_seeks_170, r_X5_seeks_172, r_X5_seeks_173, r_X5_seeks_176, r_X5_seeks_177, r_X5_seeks_178, r_X5_seeks_179, r_X5_seeks_180, r_X5_seeks_181, r_X5_seeks_184, r_X5_seeks_186, r_X5_seeks_190, r_X5_seeks_192, r_X5_seeks_193, r_X5_seeks_196, r_X5_seeks_197, r_X5_seeks_198, r_X5_seeks_199, r_X5_seeks_202, r_X5_seeks_203, r_X5_seeks_206, r_X5_seeks_208, r_X5_seeks_209, r_X5_seeks_210, r_X5_seeks_211, r_X5_seeks_214, r_X5_seeks_215, r_X5_seeks_216, r_X5_seeks_217, r_X5_seeks_218, r_X5_seeks_221, r_X5_seeks_224, r_X5_seeks_227, r_X5_seeks_230, mz_1, Nat.reduceEqDiff, if_false, h1.2.2.1, tl_shl n (by omega)]
    rw [show (1 : Int32) = nI 1 from rfl, pk_sub (Nat.one_le_two_pow)]
    simp only [tl_eq (show p < 2 ^ 31 by omega) (show 2 ^ n - 1 < 2 ^ 31 by omega)]
    by_cases hfull : p = 2 ^ n - 1
    · rw [if_pos hfull]
      subst hfull
      have hfb : ∀ w, w < n → (2 ^ n - 1).testBit w = true := fun w hw => pl_fb hw
      have hbl : ∀ w, w < n → b w < 128 := fun w hw => by
        have := hbd w hw (hfb w hw)
        omega
      have hmine : ∀ f2, (∀ w, w < n → f2 w = nI (b w)) → mC n H cs t h wt N (nI (cs + pl_A n t wt (2 ^ n - 1) b)) f2 b := fun f2 hf2 => ⟨hN.2.1, fun w hw => hbd w hw (hfb w hw), rfl, hf2⟩
      have hSV : ∀ S, mE n H t h N (2 ^ n - 1) b S → pl_V n t wt (2 ^ n - 1) b ≤ pl_V n t wt (2 ^ n - 1) S := fun S hS => pl_V_le hS.2.1
      have better : (∀ X, mLe n H cs t h wt N le f X → pl_V n t wt (2 ^ n - 1) b ≤ X) → ex_r none (d + 3) ex_m_X5_seeks E 44 [.ref 5, .int (nI (2 ^ n - 1)), .int (nI (cs + pl_A n t wt (2 ^ n - 1) b)), .int (nI 0), .retAddr 0, .retAddr 0] [] (mz σ (nI (cs + pl_A n t wt (2 ^ n - 1) b)) (cp f g 0) g k) 0 := by
        intro hbet
        rw [tl_for (A := fun i => ex_r none (d + 3) ex_m_X5_seeks E 44 [.ref 5, .int (nI (2 ^ n - 1)), .int (nI (cs + pl_A n t wt (2 ^ n - 1) b)), .int (nI i), .retAddr 0, .retAddr 0] [] (mz σ (nI (cs + pl_A n t wt (2 ^ n - 1) b)) (cp f g i) g k) 0) (n := n) (by
          intro i hi R hR
          simp only [r_X5_seeks_44]
          simp only [r_X5_seeks_0, r_X5_seeks_1, r_X5_seeks_4, r_X5_seeks_7, r_X5_seeks_8, r_X5_seeks_9, r_X5_seeks_12, r_X5_seeks_15, r_X5_seeks_16, r_X5_seeks_17, r_X5_seeks_18, r_X5_seeks_19, r_X5_seeks_22, r_X5_seeks_23, r_X5_seeks_24, r_X5_seeks_25, r_X5_seeks_28, r_X5_seeks_29, r_X5_seeks_30, r_X5_seeks_33, r_X5_seeks_36, r_X5_seeks_37, r_X5_seeks_38, r_X5_seeks_39, r_X5_seeks_42, r_X5_seeks_43, r_X5_seeks_45, r_X5_seeks_46, r_X5_seeks_49, r_X5_seeks_52, r_X5_seeks_53, r_X5_seeks_56, r_X5_seeks_57, r_X5_seeks_58, r_X5_seeks_61, r_X5_seeks_62, r_X5_seeks_63, r_X5_seeks_64, r_X5_seeks_67, r_X5_seeks_70, r_X5_seeks_71, r_X5_seeks_72, r_X5_seeks_74, r_X5_seeks_75, r_X5_seeks_78, r_X5_seeks_81, r_X5_seeks_82, r_X5_seeks_83, r_X5_seeks_84, r_X5_seeks_85, r_X5_seeks_86, r_X5_seeks_87, r_X5_seeks_90, r_X5_seeks_91, r_X5_seeks_92, r_X5_seeks_93, r_X5_seeks_96, r_X5_seeks_99, r_X5_seeks_102, r_X5_seeks_103, r_X5_seeks_104, r_X5_seeks_107, r_X5_seeks_109, r_X5_seeks_110, r_X5_seeks_113, r_X5_seeks_114, r_X5_seeks_116, r_X5_seeks_117, r_X5_seeks_119, r_X5_seeks_123, r_X5_seeks_125, r_X5_seeks_126, r_X5_seeks_129, r_X5_seeks_130, r_X5_seeks_131, r_X5_seeks_132, r_X5_seeks_135, r_X5_seeks_136, r_X5_seeks_139, r_X5_seeks_141, r_X5_seeks_142, r_X5_seeks_143, r_X5_seeks_144, r_X5_seeks_147, r_X5_seeks_148, r_X5_seeks_149, r_X5_seeks_150, r_X5_seeks_151, r_X5_seeks_154, r_X5_seeks_157, r_X5_seeks_158, r_X5_seeks_159, r_X5_seeks_160, r_X5_seeks_161, r_X5_seeks_162, r_X5_seeks_163, r_X5_seeks_164, r_X5_seeks_165, r_X5_seeks_168, r_X5_seeks_169, r_X5_seeks_170, r_X5_seeks_172, r_X5_seeks_173, r_X5_seeks_176, r_X5_seeks_177, r_X5_seeks_178, r_X5_seeks_179, r_X5_seeks_180, r_X5_seeks_181, r_X5_seeks_184, r_X5_seeks_186, r_X5_seeks_190, r_X5_seeks_192, r_X5_seeks_193, r_X5_seeks_196, r_X5_seeks_197, r_X5_seeks_198, r_X5_seeks_199, r_X5_seeks_202, r_X5_seeks_203, r_X5_seeks_206, r_X5_seeks_208, r_X5_seeks_209, r_X5_seeks_210, r_X5_seeks_211, r_X5_seeks_214, r_X5_seeks_215, r_X5_seeks_216, r_X5_seeks_217, r_X5_seeks_218, r_X5_seeks_221, r_X5_seeks_224, r_X5_seeks_227, r_X5_seeks_230, mz_1, mz_3, Nat.reduceEqDiff, if_false, if_true, h1.2.2.1, tl_in (show i < 8 by omega) (show 8 < 2 ^ 31 by omega), tl_cl (show i < 2 ^ 31 by omega), true_and, nI_1, mz_52, cp_s]
          rw [if_neg (nI_ge hi (by omega))]
          exact hR)]
        simp only [r_X5_seeks_44]
        simp only [r_X5_seeks_0, r_X5_seeks_1, r_X5_seeks_4, r_X5_seeks_7, r_X5_seeks_8, r_X5_seeks_9, r_X5_seeks_12, r_X5_seeks_15, r_X5_seeks_16, r_X5_seeks_17, r_X5_seeks_18, r_X5_seeks_19, r_X5_seeks_22, r_X5_seeks_23, r_X5_seeks_24, r_X5_seeks_25, r_X5_seeks_28, r_X5_seeks_29, r_X5_seeks_30, r_X5_seeks_33, r_X5_seeks_36, r_X5_seeks_37, r_X5_seeks_38, r_X5_seeks_39, r_X5_seeks_42, r_X5_seeks_43, r_X5_seeks_45, r_X5_seeks_46, r_X5_seeks_49, r_X5_seeks_52, r_X5_seeks_53, r_X5_seeks_56, r_X5_seeks_57, r_X5_seeks_58, r_X5_seeks_61, r_X5_seeks_62, r_X5_seeks_63, r_X5_seeks_64, r_X5_seeks_67, r_X5_seeks_70, r_X5_seeks_71, r_X5_seeks_72, r_X5_seeks_74, r_X5_seeks_75, r_X5_seeks_78, r_X5_seeks_81, r_X5_seeks_82, r_X5_seeks_83, r_X5_seeks_84, r_X5_seeks_85, r_X5_seeks_86, r_X5_seeks_87, r_X5_seeks_90, r_X5_seeks_91, r_X5_seeks_92, r_X5_seeks_93, r_X5_seeks_96, r_X5_seeks_99, r_X5_seeks_102, r_X5_seeks_103, r_X5_seeks_104, r_X5_seeks_107, r_X5_seeks_109, r_X5_seeks_110, r_X5_seeks_113, r_X5_seeks_114, r_X5_seeks_116, r_X5_seeks_117, r_X5_seeks_119, r_X5_seeks_123, r_X5_seeks_125, r_X5_seeks_126, r_X5_seeks_129, r_X5_seeks_130, r_X5_seeks_131, r_X5_seeks_132, r_X5_seeks_135, r_X5_seeks_136, r_X5_seeks_139, r_X5_seeks_141, r_X5_seeks_142, r_X5_seeks_143, r_X5_seeks_144, r_X5_seeks_147, r_X5_seeks_148, r_X5_seeks_149, r_X5_seeks_150, r_X5_seeks_151, r_X5_seeks_154, r_X5_seeks_157, r_X5_seeks_158, r_X5_seeks_159, r_X5_seeks_160, r_X5_seeks_161, r_X5_seeks_162, r_X5_seeks_163, r_X5_seeks_164, r_X5_seeks_165, r_X5_seeks_168, r_X5_seeks_169, r_X5_seeks_170, r_X5_seeks_172, r_X5_seeks_173, r_X5_seeks_176, r_X5_seeks_177, r_X5_seeks_178, r_X5_seeks_179, r_X5_seeks_180, r_X5_seeks_181, r_X5_seeks_184, r_X5_seeks_186, r_X5_seeks_190, r_X5_seeks_192, r_X5_seeks_193, r_X5_seeks_196, r_X5_seeks_197, r_X5_seeks_198, r_X5_seeks_199, r_X5_seeks_202, r_X5_seeks_203, r_X5_seeks_206, r_X5_seeks_208, r_X5_seeks_209, r_X5_seeks_210, r_X5_seeks_211, r_X5_seeks_214, r_X5_seeks_215, r_X5_seeks_216, r_X5_seeks_217, r_X5_seeks_218, r_X5_seeks_221, r_X5_seeks_224, r_X5_seeks_227, r_X5_seeks_230, mz_1, Nat.reduceEqDiff, if_false, h1.2.2.1, Int32.le_refl, if_true]
        have hc := hmine (cp f g n) (fun w hw => by
          unfold cp
          rw [if_pos hw]
          exact (hN.2.2.1 w hw (hfb w hw)).1)
        apply hE
        exact ⟨Or.inr ⟨b, hc⟩, hN, fun X hX => ⟨b, hc, hbet X hX⟩, fun S hS => ⟨b, hc, hSV S hS⟩⟩
      rw [cp_0] at better
      rcases hB with hB | ⟨c, hc⟩
      · rw [c_isBetter0 (σ := mz σ le f g k) (show (mz σ le f g k).1 531 = -1 from hB)]
        simp only [Option.toList, List.cons_append, List.nil_append, r_X5_seeks_0, r_X5_seeks_1, r_X5_seeks_4, r_X5_seeks_7, r_X5_seeks_8, r_X5_seeks_9, r_X5_seeks_12, r_X5_seeks_15, r_X5_seeks_16, r_X5_seeks_17, r_X5_seeks_18, r_X5_seeks_19, r_X5_seeks_22, r_X5_seeks_23, r_X5_seeks_24, r_X5_seeks_25, r_X5_seeks_28, r_X5_seeks_29, r_X5_seeks_30, r_X5_seeks_33, r_X5_seeks_36, r_X5_seeks_37, r_X5_seeks_38, r_X5_seeks_39, r_X5_seeks_42, r_X5_seeks_43, r_X5_seeks_45, r_X5_seeks_46, r_X5_seeks_49, r_X5_seeks_52, r_X5_seeks_53, r_X5_seeks_56, r_X5_seeks_57, r_X5_seeks_58, r_X5_seeks_61, r_X5_seeks_62, r_X5_seeks_63, r_X5_seeks_64, r_X5_seeks_67, r_X5_seeks_70, r_X5_seeks_71, r_X5_seeks_72, r_X5_seeks_74, r_X5_seeks_75, r_X5_seeks_78, r_X5_seeks_81, r_X5_seeks_82, r_X5_seeks_83, r_X5_seeks_84, r_X5_seeks_85, r_X5_seeks_86, r_X5_seeks_87, r_X5_seeks_90, r_X5_seeks_91, r_X5_seeks_92, r_X5_seeks_93, r_X5_seeks_96, r_X5_seeks_99, r_X5_seeks_102, r_X5_seeks_103, r_X5_seeks_104, r_X5_seeks_107, r_X5_seeks_109, r_X5_seeks_110, r_X5_seeks_113, r_X5_seeks_114, r_X5_seeks_116, r_X5_seeks_117, r_X5_seeks_119, r_X5_seeks_123, r_X5_seeks_125, r_X5_seeks_126, r_X5_seeks_129, r_X5_seeks_130, r_X5_seeks_131, r_X5_seeks_132, r_X5_seeks_135, r_X5_seeks_136, r_X5_seeks_139, r_X5_seeks_141, r_X5_seeks_142, r_X5_seeks_143, r_X5_seeks_144, r_X5_seeks_147, r_X5_seeks_148, r_X5_seeks_149, r_X5_seeks_150, r_X5_seeks_151, r_X5_seeks_154, r_X5_seeks_157, r_X5_seeks_158, r_X5_seeks_159, r_X5_seeks_160, r_X5_seeks_161, r_X5_seeks_162, r_X5_seeks_163, r_X5_seeks_164, r_X5_seeks_165, r_X5_seeks_168, r_X5_seeks_169, r_X5_seeks_170, r_X5_seeks_172, r_X5_seeks_173, r_X5_seeks_176, r_X5_seeks_177, r_X5_seeks_178, r_X5_seeks_179, r_X5_seeks_180, r_X5_seeks_181, r_X5_seeks_184, r_X5_seeks_186, r_X5_seeks_190, r_X5_seeks_192, r_X5_seeks_193, r_X5_seeks_196, r_X5_seeks_197, r_X5_seeks_198, r_X5_seeks_199, r_X5_seeks_202, r_X5_seeks_203, r_X5_seeks_206, r_X5_seeks_208, r_X5_seeks_209, r_X5_seeks_210, r_X5_seeks_211, r_X5_seeks_214, r_X5_seeks_215, r_X5_seeks_216, r_X5_seeks_217, r_X5_seeks_218, r_X5_seeks_221, r_X5_seeks_224, r_X5_seeks_227, r_X5_seeks_230, i10, if_false, mz_531]
        apply better
        rintro X ⟨c, hc, _⟩
        have hle := hc.2.2.1
        rw [hB] at hle
        have hAc : pl_A n t wt (2 ^ n - 1) c ≤ 800 * 96 := pl_A_bd hn (fun w hw => (h5 w hw).2.2.2.2.2.2) (fun w hw _ => hc.2.1 w hw)
        have := congrArg Int32.toInt hle
        rw [nI_toInt (by omega)] at this
        simp at this
        omega
      · have hAc : pl_A n t wt (2 ^ n - 1) c ≤ 800 * 96 := pl_A_bd hn (fun w hw => (h5 w hw).2.2.2.2.2.2) (fun w hw _ => hc.2.1 w hw)
        rw [c_isBetter (σ := mz σ le f g k) (n := n) (a2 := cs + pl_A n t wt (2 ^ n - 1) c) (b := b) (c := c) hn h1.2.2.1 hc.2.2.1 (by omega) (by omega) (fun w hw => ⟨(hN.2.2.1 w hw (hfb w hw)).1, hc.2.2.2 w hw, hbl w hw, by have := hc.2.1 w hw; omega⟩)]
        simp only [Option.toList, List.cons_append, List.nil_append, r_X5_seeks_0, r_X5_seeks_1, r_X5_seeks_4, r_X5_seeks_7, r_X5_seeks_8, r_X5_seeks_9, r_X5_seeks_12, r_X5_seeks_15, r_X5_seeks_16, r_X5_seeks_17, r_X5_seeks_18, r_X5_seeks_19, r_X5_seeks_22, r_X5_seeks_23, r_X5_seeks_24, r_X5_seeks_25, r_X5_seeks_28, r_X5_seeks_29, r_X5_seeks_30, r_X5_seeks_33, r_X5_seeks_36, r_X5_seeks_37, r_X5_seeks_38, r_X5_seeks_39, r_X5_seeks_42, r_X5_seeks_43, r_X5_seeks_45, r_X5_seeks_46, r_X5_seeks_49, r_X5_seeks_52, r_X5_seeks_53, r_X5_seeks_56, r_X5_seeks_57, r_X5_seeks_58, r_X5_seeks_61, r_X5_seeks_62, r_X5_seeks_63, r_X5_seeks_64, r_X5_seeks_67, r_X5_seeks_70, r_X5_seeks_71, r_X5_seeks_72, r_X5_seeks_74, r_X5_seeks_75, r_X5_seeks_78, r_X5_seeks_81, r_X5_seeks_82, r_X5_seeks_83, r_X5_seeks_84, r_X5_seeks_85, r_X5_seeks_86, r_X5_seeks_87, r_X5_seeks_90, r_X5_seeks_91, r_X5_seeks_92, r_X5_seeks_93, r_X5_seeks_96, r_X5_seeks_99, r_X5_seeks_102, r_X5_seeks_103, r_X5_seeks_104, r_X5_seeks_107, r_X5_seeks_109, r_X5_seeks_110, r_X5_seeks_113, r_X5_seeks_114, r_X5_seeks_116, r_X5_seeks_117, r_X5_seeks_119, r_X5_seeks_123, r_X5_seeks_125, r_X5_seeks_126, r_X5_seeks_129, r_X5_seeks_130, r_X5_seeks_131, r_X5_seeks_132, r_X5_seeks_135, r_X5_seeks_136, r_X5_seeks_139, r_X5_seeks_141, r_X5_seeks_142, r_X5_seeks_143, r_X5_seeks_144, r_X5_seeks_147, r_X5_seeks_148, r_X5_seeks_149, r_X5_seeks_150, r_X5_seeks_151, r_X5_seeks_154, r_X5_seeks_157, r_X5_seeks_158, r_X5_seeks_159, r_X5_seeks_160, r_X5_seeks_161, r_X5_seeks_162, r_X5_seeks_163, r_X5_seeks_164, r_X5_seeks_165, r_X5_seeks_168, r_X5_seeks_169, r_X5_seeks_170, r_X5_seeks_172, r_X5_seeks_173, r_X5_seeks_176, r_X5_seeks_177, r_X5_seeks_178, r_X5_seeks_179, r_X5_seeks_180, r_X5_seeks_181, r_X5_seeks_184, r_X5_seeks_186, r_X5_seeks_190, r_X5_seeks_192, r_X5_seeks_193, r_X5_seeks_196, r_X5_seeks_197, r_X5_seeks_198, r_X5_seeks_199, r_X5_seeks_202, r_X5_seeks_203, r_X5_seeks_206, r_X5_seeks_208, r_X5_seeks_209, r_X5_seeks_210, r_X5_seeks_211, r_X5_seeks_214, r_X5_seeks_215, r_X5_seeks_216, r_X5_seeks_217, r_X5_seeks_218, r_X5_seeks_221, r_X5_seeks_224, r_X5_seeks_227, r_X5_seeks_230, mz_531]
        have huniq : ∀ c2, mC n H cs t h wt N le f c2 → pl_V n t wt (2 ^ n - 1) c2 = pl_V n t wt (2 ^ n - 1) c := by
          intro c2 hc2
          have he : ∀ w, w < n → (2 ^ n - 1).testBit w = true → c2 w = c w := fun w hw _ => by
            have y1 := hc.2.2.2 w hw
            rw [hc2.2.2.2 w hw] at y1
            exact (nI_eq (by have := hc2.2.1 w hw; omega) (by have := hc.2.1 w hw; omega)).mp y1
          unfold pl_V
          rw [pl_A_congr he, pl_K_congr he]
        by_cases q : (cs + pl_A n t wt (2 ^ n - 1) b) * 2 ^ 60 + pl_K n (2 ^ n - 1) b < (cs + pl_A n t wt (2 ^ n - 1) c) * 2 ^ 60 + pl_K n (2 ^ n - 1) c
        · rw [if_pos q, if_neg (by decide)]
          apply better
          rintro X ⟨c2, hc2, hX⟩
          rw [huniq c2 hc2] at hX
          unfold pl_V at hX ⊢
          rw [Nat.add_mul, Nat.add_mul] at q
          generalize (2 : Nat) ^ 60 = B at q hX ⊢
          omega
        · rw [if_neg q, if_pos rfl]
          apply hE
          refine ⟨Or.inr ⟨c, hc⟩, hN, fun X hX => hX, fun S hS => ⟨c, hc, ?_⟩⟩
          have := hSV S hS
          unfold pl_V at this ⊢
          rw [Nat.add_mul, Nat.add_mul] at q
          generalize (2 : Nat) ^ 60 = B at q this ⊢
          omega
    · rw [if_neg hfull]
      have hloop := tl_fori (τ := Int32 × (Nat → Int32) × (Nat → Int32) × (Nat → Int32) × Value × Value)
        (I := fun i z => mB n H cs t h wt N z.1 z.2.1 ∧ mN n H t h N p b z.2.2.1 z.2.2.2.1 ∧ (∀ X, mLe n H cs t h wt N le f X → mLe n H cs t h wt N z.1 z.2.1 X) ∧ ∀ S, mE n H t h N p b S → ∀ w, w < i → w < n → p.testBit w = false → (∀ u, u < n → p.testBit u = false → S w ≤ S u) → mLe n H cs t h wt N z.1 z.2.1 (pl_V n t wt (2 ^ n - 1) S))
        (A := fun i z => ex_r none (d + 3) ex_m_X5_seeks E 73 [.ref 5, .int (nI p), .int (nI (cs + pl_A n t wt p b)), .int (nI i), z.2.2.2.2.1, z.2.2.2.2.2] [] (mz σ z.1 z.2.1 z.2.2.1 z.2.2.2.1) 0) (n := n) ?_ ?_
      · exact hloop (le, f, g, k, .retAddr 0, .retAddr 0) ⟨hB, hN, fun X hX => hX, fun S _ w hw => absurd hw (by omega)⟩
      · rintro i hi ⟨le1, f1, g1, k1, z1, z2⟩ ⟨i1, i2, i3, i4⟩ hnext
        simp only at i1 i2 i3 i4 hnext ⊢
        obtain ⟨ht1, hh1, hw1, ht2, ht3, hh2, hw2⟩ := h5 i hi
        simp only [r_X5_seeks_73]
        simp only [r_X5_seeks_0, r_X5_seeks_1, r_X5_seeks_4, r_X5_seeks_7, r_X5_seeks_8, r_X5_seeks_9, r_X5_seeks_12, r_X5_seeks_15, r_X5_seeks_16, r_X5_seeks_17, r_X5_seeks_18, r_X5_seeks_19, r_X5_seeks_22, r_X5_seeks_23, r_X5_seeks_24, r_X5_seeks_25, r_X5_seeks_28, r_X5_seeks_29, r_X5_seeks_30, r_X5_seeks_33, r_X5_seeks_36, r_X5_seeks_37, r_X5_seeks_38, r_X5_seeks_39, r_X5_seeks_42, r_X5_seeks_43, r_X5_seeks_45, r_X5_seeks_46, r_X5_seeks_49, r_X5_seeks_52, r_X5_seeks_53, r_X5_seeks_56, r_X5_seeks_57, r_X5_seeks_58, r_X5_seeks_61, r_X5_seeks_62, r_X5_seeks_63, r_X5_seeks_64, r_X5_seeks_67, r_X5_seeks_70, r_X5_seeks_71, r_X5_seeks_72, r_X5_seeks_74, r_X5_seeks_75, r_X5_seeks_78, r_X5_seeks_81, r_X5_seeks_82, r_X5_seeks_83, r_X5_seeks_84, r_X5_seeks_85, r_X5_seeks_86, r_X5_seeks_87, r_X5_seeks_90, r_X5_seeks_91, r_X5_seeks_92, r_X5_seeks_93, r_X5_seeks_96, r_X5_seeks_99, r_X5_seeks_102, r_X5_seeks_103, r_X5_seeks_104, r_X5_seeks_107, r_X5_seeks_109, r_X5_seeks_110, r_X5_seeks_113, r_X5_seeks_114, r_X5_seeks_116, r_X5_seeks_117, r_X5_seeks_119, r_X5_seeks_123, r_X5_seeks_125, r_X5_seeks_126, r_X5_seeks_129, r_X5_seeks_130, r_X5_seeks_131, r_X5_seeks_132, r_X5_seeks_135, r_X5_seeks_136, r_X5_seeks_139, r_X5_seeks_141, r_X5_seeks_142, r_X5_seeks_143, r_X5_seeks_144, r_X5_seeks_147, r_X5_seeks_148, r_X5_seeks_149, r_X5_seeks_150, r_X5_seeks_151, r_X5_seeks_154, r_X5_seeks_157, r_X5_seeks_158, r_X5_seeks_159, r_X5_seeks_160, r_X5_seeks_161, r_X5_seeks_162, r_X5_seeks_163, r_X5_seeks_164, r_X5_seeks_165, r_X5_seeks_168, r_X5_seeks_169, r_X5_seeks_170, r_X5_seeks_172, r_X5_seeks_173, r_X5_seeks_176, r_X5_seeks_177, r_X5_seeks_178, r_X5_seeks_179, r_X5_seeks_180, r_X5_seeks_181, r_X5_seeks_184, r_X5_seeks_186, r_X5_seeks_190, r_X5_seeks_192, r_X5_seeks_193, r_X5_seeks_196, r_X5_seeks_197, r_X5_seeks_198, r_X5_seeks_199, r_X5_seeks_202, r_X5_seeks_203, r_X5_seeks_206, r_X5_seeks_208, r_X5_seeks_209, r_X5_seeks_210, r_X5_seeks_211, r_X5_seeks_214, r_X5_seeks_215, r_X5_seeks_216, r_X5_seeks_217, r_X5_seeks_218, r_X5_seeks_221, r_X5_seeks_224, r_X5_seeks_227, r_X5_seeks_230, mz_1, Nat.reduceEqDiff, if_false, h1.2.2.1, tb1, tb_nI (show p < 2 ^ 31 by omega) (show i < 32 by omega), nI_1]
        rw [if_neg (nI_ge hi (by omega))]
        have skip : (p.testBit i = true ∨ ∃ v, (N i).testBit v = true ∧ p.testBit v = false) → ex_r none (d + 3) ex_m_X5_seeks E 73 [.ref 5, .int (nI p), .int (nI (cs + pl_A n t wt p b)), .int (nI (i + 1)), z1, z2] [] (mz σ le1 f1 g1 k1) 0 := by
          intro hsk
          apply hnext (le1, f1, g1, k1, z1, z2)
          refine ⟨i1, i2, i3, fun S hS w hw hwn hpw hmin => ?_⟩
          rcases Nat.lt_or_ge w i with q | q
          · exact i4 S hS w q hwn hpw hmin
          · have e : w = i := by omega
            subst e
            exfalso
            rcases hsk with hsk | ⟨v, hv1, hv2⟩
            · rw [hpw] at hsk
              cases hsk
            · have := pl_next_ready hS.1 (fun w hw => (h5 w hw).2.2.2.1) h7 hwn hmin v hv1
              rw [hv2] at this
              cases this
        by_cases hpi : p.testBit i = true
        · rw [if_pos hpi]
          exact skip (Or.inl hpi)
        · rw [if_neg hpi]
          have hpf : p.testBit i = false := by simpa using hpi
          rw [c_isReady (hmd le1 f1 g1 k1) h2 h4 (by omega) (by omega)]
          simp only [Option.toList, List.cons_append, List.nil_append, r_X5_seeks_0, r_X5_seeks_1, r_X5_seeks_4, r_X5_seeks_7, r_X5_seeks_8, r_X5_seeks_9, r_X5_seeks_12, r_X5_seeks_15, r_X5_seeks_16, r_X5_seeks_17, r_X5_seeks_18, r_X5_seeks_19, r_X5_seeks_22, r_X5_seeks_23, r_X5_seeks_24, r_X5_seeks_25, r_X5_seeks_28, r_X5_seeks_29, r_X5_seeks_30, r_X5_seeks_33, r_X5_seeks_36, r_X5_seeks_37, r_X5_seeks_38, r_X5_seeks_39, r_X5_seeks_42, r_X5_seeks_43, r_X5_seeks_45, r_X5_seeks_46, r_X5_seeks_49, r_X5_seeks_52, r_X5_seeks_53, r_X5_seeks_56, r_X5_seeks_57, r_X5_seeks_58, r_X5_seeks_61, r_X5_seeks_62, r_X5_seeks_63, r_X5_seeks_64, r_X5_seeks_67, r_X5_seeks_70, r_X5_seeks_71, r_X5_seeks_72, r_X5_seeks_74, r_X5_seeks_75, r_X5_seeks_78, r_X5_seeks_81, r_X5_seeks_82, r_X5_seeks_83, r_X5_seeks_84, r_X5_seeks_85, r_X5_seeks_86, r_X5_seeks_87, r_X5_seeks_90, r_X5_seeks_91, r_X5_seeks_92, r_X5_seeks_93, r_X5_seeks_96, r_X5_seeks_99, r_X5_seeks_102, r_X5_seeks_103, r_X5_seeks_104, r_X5_seeks_107, r_X5_seeks_109, r_X5_seeks_110, r_X5_seeks_113, r_X5_seeks_114, r_X5_seeks_116, r_X5_seeks_117, r_X5_seeks_119, r_X5_seeks_123, r_X5_seeks_125, r_X5_seeks_126, r_X5_seeks_129, r_X5_seeks_130, r_X5_seeks_131, r_X5_seeks_132, r_X5_seeks_135, r_X5_seeks_136, r_X5_seeks_139, r_X5_seeks_141, r_X5_seeks_142, r_X5_seeks_143, r_X5_seeks_144, r_X5_seeks_147, r_X5_seeks_148, r_X5_seeks_149, r_X5_seeks_150, r_X5_seeks_151, r_X5_seeks_154, r_X5_seeks_157, r_X5_seeks_158, r_X5_seeks_159, r_X5_seeks_160, r_X5_seeks_161, r_X5_seeks_162, r_X5_seeks_163, r_X5_seeks_164, r_X5_seeks_165, r_X5_seeks_168, r_X5_seeks_169, r_X5_seeks_170, r_X5_seeks_172, r_X5_seeks_173, r_X5_seeks_176, r_X5_seeks_177, r_X5_seeks_178, r_X5_seeks_179, r_X5_seeks_180, r_X5_seeks_181, r_X5_seeks_184, r_X5_seeks_186, r_X5_seeks_190, r_X5_seeks_192, r_X5_seeks_193, r_X5_seeks_196, r_X5_seeks_197, r_X5_seeks_198, r_X5_seeks_199, r_X5_seeks_202, r_X5_seeks_203, r_X5_seeks_206, r_X5_seeks_208, r_X5_seeks_209, r_X5_seeks_210, r_X5_seeks_211, r_X5_seeks_214, r_X5_seeks_215, r_X5_seeks_216, r_X5_seeks_217, r_X5_seeks_218, r_X5_seeks_221, r_X5_seeks_224, r_X5_seeks_227, r_X5_seeks_230, mz_1, Nat.reduceEqDiff, if_false, nI_1]
          by_cases hrdy : mr nr nd cn p i m = true
          · rw [if_pos hrdy, if_neg (by decide)]
            have hrd : ∀ v, (N i).testBit v = true → p.testBit v = true := by
              intro v hv
              obtain ⟨j, y1, y2, y3, y4⟩ := (h8 i v hi).mp hv
              rw [← y4]
              exact mr_iff.mp hrdy j y1 y3 y2
            obtain ⟨r, r1, r2, r3, r4⟩ := mS_first hs0 i2 hi hrd
            have hchild := mN_child hs0 i2 hi hpf hrd r1 r2 r3
            have hh8 : ∀ w, w < n → h w ≤ 8 := fun w hw => by
              have := (h5 w hw).2.2.2.2.2.1
              omega
            rw [c_mearliest (σ := mz σ le1 f1 g1 k1) (b := b) (t := t) (u := pl_u n t h p b) (r := r) (t0 := t i) (h0 := h i) (H := H) (hmd le1 f1 g1 k1) h2 h4 (fun j hj q1 q2 => by
              have hv : (N i).testBit (nd j) = true := (h8 i (nd j) hi).mpr ⟨j, hj, q2, q1, rfl⟩
              have hvn := tl_bit_lt (h7 i hi) hv
              have y1 := i2.2.2.1 (nd j) hvn (hrd _ hv)
              exact ⟨y1.1, (h5 (nd j) hvn).1, by omega⟩) (by omega) ht1 hh1 h3 (fun x hx => ⟨i2.2.2.2 x hx, by have := pl_u_le (t := t) (p := p) (b := b) (x := x) hn hh8; omega⟩) ht3 (by omega) (by omega) r1 (by omega) r3 r4]
            simp only [Option.toList, List.cons_append, List.nil_append, r_X5_seeks_0, r_X5_seeks_1, r_X5_seeks_4, r_X5_seeks_7, r_X5_seeks_8, r_X5_seeks_9, r_X5_seeks_12, r_X5_seeks_15, r_X5_seeks_16, r_X5_seeks_17, r_X5_seeks_18, r_X5_seeks_19, r_X5_seeks_22, r_X5_seeks_23, r_X5_seeks_24, r_X5_seeks_25, r_X5_seeks_28, r_X5_seeks_29, r_X5_seeks_30, r_X5_seeks_33, r_X5_seeks_36, r_X5_seeks_37, r_X5_seeks_38, r_X5_seeks_39, r_X5_seeks_42, r_X5_seeks_43, r_X5_seeks_45, r_X5_seeks_46, r_X5_seeks_49, r_X5_seeks_52, r_X5_seeks_53, r_X5_seeks_56, r_X5_seeks_57, r_X5_seeks_58, r_X5_seeks_61, r_X5_seeks_62, r_X5_seeks_63, r_X5_seeks_64, r_X5_seeks_67, r_X5_seeks_70, r_X5_seeks_71, r_X5_seeks_72, r_X5_seeks_74, r_X5_seeks_75, r_X5_seeks_78, r_X5_seeks_81, r_X5_seeks_82, r_X5_seeks_83, r_X5_seeks_84, r_X5_seeks_85, r_X5_seeks_86, r_X5_seeks_87, r_X5_seeks_90, r_X5_seeks_91, r_X5_seeks_92, r_X5_seeks_93, r_X5_seeks_96, r_X5_seeks_99, r_X5_seeks_102, r_X5_seeks_103, r_X5_seeks_104, r_X5_seeks_107, r_X5_seeks_109, r_X5_seeks_110, r_X5_seeks_113, r_X5_seeks_114, r_X5_seeks_116, r_X5_seeks_117, r_X5_seeks_119, r_X5_seeks_123, r_X5_seeks_125, r_X5_seeks_126, r_X5_seeks_129, r_X5_seeks_130, r_X5_seeks_131, r_X5_seeks_132, r_X5_seeks_135, r_X5_seeks_136, r_X5_seeks_139, r_X5_seeks_141, r_X5_seeks_142, r_X5_seeks_143, r_X5_seeks_144, r_X5_seeks_147, r_X5_seeks_148, r_X5_seeks_149, r_X5_seeks_150, r_X5_seeks_151, r_X5_seeks_154, r_X5_seeks_157, r_X5_seeks_158, r_X5_seeks_159, r_X5_seeks_160, r_X5_seeks_161, r_X5_seeks_162, r_X5_seeks_163, r_X5_seeks_164, r_X5_seeks_165, r_X5_seeks_168, r_X5_seeks_169, r_X5_seeks_170, r_X5_seeks_172, r_X5_seeks_173, r_X5_seeks_176, r_X5_seeks_177, r_X5_seeks_178, r_X5_seeks_179, r_X5_seeks_180, r_X5_seeks_181, r_X5_seeks_184, r_X5_seeks_186, r_X5_seeks_190, r_X5_seeks_192, r_X5_seeks_193, r_X5_seeks_196, r_X5_seeks_197, r_X5_seeks_198, r_X5_seeks_199, r_X5_seeks_202, r_X5_seeks_203, r_X5_seeks_206, r_X5_seeks_208, r_X5_seeks_209, r_X5_seeks_210, r_X5_seeks_211, r_X5_seeks_214, r_X5_seeks_215, r_X5_seeks_216, r_X5_seeks_217, r_X5_seeks_218, r_X5_seeks_221, r_X5_seeks_224, r_X5_seeks_227, r_X5_seeks_230, tl_in (show i < 8 by omega) (show 8 < 2 ^ 31 by omega), tl_cl (show i < 2 ^ 31 by omega), true_and, mz_53]
            have l1 := tl_for (A := fun j => ex_r none (d + 3) ex_m_X5_seeks E 121 [.ref 5, .int (nI p), .int (nI (cs + pl_A n t wt p b)), .int (nI i), .int (nI r), .int (nI (r + j))] [] (mz σ le1 f1 (upd g1 i (nI r)) (rg k1 r (fun v => v + nI (h i)) j)) 0) (n := t i) (by
              intro j hj R hR
              simp only [r_X5_seeks_121]
              simp only [r_X5_seeks_0, r_X5_seeks_1, r_X5_seeks_4, r_X5_seeks_7, r_X5_seeks_8, r_X5_seeks_9, r_X5_seeks_12, r_X5_seeks_15, r_X5_seeks_16, r_X5_seeks_17, r_X5_seeks_18, r_X5_seeks_19, r_X5_seeks_22, r_X5_seeks_23, r_X5_seeks_24, r_X5_seeks_25, r_X5_seeks_28, r_X5_seeks_29, r_X5_seeks_30, r_X5_seeks_33, r_X5_seeks_36, r_X5_seeks_37, r_X5_seeks_38, r_X5_seeks_39, r_X5_seeks_42, r_X5_seeks_43, r_X5_seeks_45, r_X5_seeks_46, r_X5_seeks_49, r_X5_seeks_52, r_X5_seeks_53, r_X5_seeks_56, r_X5_seeks_57, r_X5_seeks_58, r_X5_seeks_61, r_X5_seeks_62, r_X5_seeks_63, r_X5_seeks_64, r_X5_seeks_67, r_X5_seeks_70, r_X5_seeks_71, r_X5_seeks_72, r_X5_seeks_74, r_X5_seeks_75, r_X5_seeks_78, r_X5_seeks_81, r_X5_seeks_82, r_X5_seeks_83, r_X5_seeks_84, r_X5_seeks_85, r_X5_seeks_86, r_X5_seeks_87, r_X5_seeks_90, r_X5_seeks_91, r_X5_seeks_92, r_X5_seeks_93, r_X5_seeks_96, r_X5_seeks_99, r_X5_seeks_102, r_X5_seeks_103, r_X5_seeks_104, r_X5_seeks_107, r_X5_seeks_109, r_X5_seeks_110, r_X5_seeks_113, r_X5_seeks_114, r_X5_seeks_116, r_X5_seeks_117, r_X5_seeks_119, r_X5_seeks_123, r_X5_seeks_125, r_X5_seeks_126, r_X5_seeks_129, r_X5_seeks_130, r_X5_seeks_131, r_X5_seeks_132, r_X5_seeks_135, r_X5_seeks_136, r_X5_seeks_139, r_X5_seeks_141, r_X5_seeks_142, r_X5_seeks_143, r_X5_seeks_144, r_X5_seeks_147, r_X5_seeks_148, r_X5_seeks_149, r_X5_seeks_150, r_X5_seeks_151, r_X5_seeks_154, r_X5_seeks_157, r_X5_seeks_158, r_X5_seeks_159, r_X5_seeks_160, r_X5_seeks_161, r_X5_seeks_162, r_X5_seeks_163, r_X5_seeks_164, r_X5_seeks_165, r_X5_seeks_168, r_X5_seeks_169, r_X5_seeks_170, r_X5_seeks_172, r_X5_seeks_173, r_X5_seeks_176, r_X5_seeks_177, r_X5_seeks_178, r_X5_seeks_179, r_X5_seeks_180, r_X5_seeks_181, r_X5_seeks_184, r_X5_seeks_186, r_X5_seeks_190, r_X5_seeks_192, r_X5_seeks_193, r_X5_seeks_196, r_X5_seeks_197, r_X5_seeks_198, r_X5_seeks_199, r_X5_seeks_202, r_X5_seeks_203, r_X5_seeks_206, r_X5_seeks_208, r_X5_seeks_209, r_X5_seeks_210, r_X5_seeks_211, r_X5_seeks_214, r_X5_seeks_215, r_X5_seeks_216, r_X5_seeks_217, r_X5_seeks_218, r_X5_seeks_221, r_X5_seeks_224, r_X5_seeks_227, r_X5_seeks_230, mz_1, mz_3, Nat.reduceEqDiff, if_false, if_true, tl_in (show i < 8 by omega) (show 8 < 2 ^ 31 by omega), tl_cl (show i < 2 ^ 31 by omega), ht1, hh1, true_and, nI_add, nI_1, tl_in (show r + j < 200 by omega) (show 200 < 2 ^ 31 by omega), tl_cl (show r + j < 2 ^ 31 by omega), mz_54]
              rw [if_neg (nI_ge (by omega) (by omega)), rg_s k1 r j (fun v => v + nI (h i))]
              exact hR)
            simp only [rg_0, Nat.add_zero] at l1
            rw [l1]
            simp only [r_X5_seeks_121]
            simp only [r_X5_seeks_0, r_X5_seeks_1, r_X5_seeks_4, r_X5_seeks_7, r_X5_seeks_8, r_X5_seeks_9, r_X5_seeks_12, r_X5_seeks_15, r_X5_seeks_16, r_X5_seeks_17, r_X5_seeks_18, r_X5_seeks_19, r_X5_seeks_22, r_X5_seeks_23, r_X5_seeks_24, r_X5_seeks_25, r_X5_seeks_28, r_X5_seeks_29, r_X5_seeks_30, r_X5_seeks_33, r_X5_seeks_36, r_X5_seeks_37, r_X5_seeks_38, r_X5_seeks_39, r_X5_seeks_42, r_X5_seeks_43, r_X5_seeks_45, r_X5_seeks_46, r_X5_seeks_49, r_X5_seeks_52, r_X5_seeks_53, r_X5_seeks_56, r_X5_seeks_57, r_X5_seeks_58, r_X5_seeks_61, r_X5_seeks_62, r_X5_seeks_63, r_X5_seeks_64, r_X5_seeks_67, r_X5_seeks_70, r_X5_seeks_71, r_X5_seeks_72, r_X5_seeks_74, r_X5_seeks_75, r_X5_seeks_78, r_X5_seeks_81, r_X5_seeks_82, r_X5_seeks_83, r_X5_seeks_84, r_X5_seeks_85, r_X5_seeks_86, r_X5_seeks_87, r_X5_seeks_90, r_X5_seeks_91, r_X5_seeks_92, r_X5_seeks_93, r_X5_seeks_96, r_X5_seeks_99, r_X5_seeks_102, r_X5_seeks_103, r_X5_seeks_104, r_X5_seeks_107, r_X5_seeks_109, r_X5_seeks_110, r_X5_seeks_113, r_X5_seeks_114, r_X5_seeks_116, r_X5_seeks_117, r_X5_seeks_119, r_X5_seeks_123, r_X5_seeks_125, r_X5_seeks_126, r_X5_seeks_129, r_X5_seeks_130, r_X5_seeks_131, r_X5_seeks_132, r_X5_seeks_135, r_X5_seeks_136, r_X5_seeks_139, r_X5_seeks_141, r_X5_seeks_142, r_X5_seeks_143, r_X5_seeks_144, r_X5_seeks_147, r_X5_seeks_148, r_X5_seeks_149, r_X5_seeks_150, r_X5_seeks_151, r_X5_seeks_154, r_X5_seeks_157, r_X5_seeks_158, r_X5_seeks_159, r_X5_seeks_160, r_X5_seeks_161, r_X5_seeks_162, r_X5_seeks_163, r_X5_seeks_164, r_X5_seeks_165, r_X5_seeks_168, r_X5_seeks_169, r_X5_seeks_170, r_X5_seeks_172, r_X5_seeks_173, r_X5_seeks_176, r_X5_seeks_177, r_X5_seeks_178, r_X5_seeks_179, r_X5_seeks_180, r_X5_seeks_181, r_X5_seeks_184, r_X5_seeks_186, r_X5_seeks_190, r_X5_seeks_192, r_X5_seeks_193, r_X5_seeks_196, r_X5_seeks_197, r_X5_seeks_198, r_X5_seeks_199, r_X5_seeks_202, r_X5_seeks_203, r_X5_seeks_206, r_X5_seeks_208, r_X5_seeks_209, r_X5_seeks_210, r_X5_seeks_211, r_X5_seeks_214, r_X5_seeks_215, r_X5_seeks_216, r_X5_seeks_217, r_X5_seeks_218, r_X5_seeks_221, r_X5_seeks_224, r_X5_seeks_227, r_X5_seeks_230, mz_1, mz_3, Nat.reduceEqDiff, if_false, if_true, tl_in (show i < 8 by omega) (show 8 < 2 ^ 31 by omega), tl_cl (show i < 2 ^ 31 by omega), ht1, hw1, true_and, nI_add, Int32.le_refl, tl_shl i (by omega), tl_or, pk_mul]
            rw [Nat.add_assoc cs, ← pl_A_add (b := b) (t := t) (wt := wt) (a := r) hi hpf]
            apply hrec
            · apply tl_ct_lt
              · intro x _ hx
                rw [pl_ib] at hx
                revert hx
                cases p.testBit x <;> simp
              · exact ⟨i, hi, by rw [pl_ib]; simp, by rw [hpf]; rfl⟩
            · exact hchild
            · exact i1
            · intro le2 f2 g2 k2 hP
              simp only [Option.toList, List.nil_append, r_X5_seeks_0, r_X5_seeks_1, r_X5_seeks_4, r_X5_seeks_7, r_X5_seeks_8, r_X5_seeks_9, r_X5_seeks_12, r_X5_seeks_15, r_X5_seeks_16, r_X5_seeks_17, r_X5_seeks_18, r_X5_seeks_19, r_X5_seeks_22, r_X5_seeks_23, r_X5_seeks_24, r_X5_seeks_25, r_X5_seeks_28, r_X5_seeks_29, r_X5_seeks_30, r_X5_seeks_33, r_X5_seeks_36, r_X5_seeks_37, r_X5_seeks_38, r_X5_seeks_39, r_X5_seeks_42, r_X5_seeks_43, r_X5_seeks_45, r_X5_seeks_46, r_X5_seeks_49, r_X5_seeks_52, r_X5_seeks_53, r_X5_seeks_56, r_X5_seeks_57, r_X5_seeks_58, r_X5_seeks_61, r_X5_seeks_62, r_X5_seeks_63, r_X5_seeks_64, r_X5_seeks_67, r_X5_seeks_70, r_X5_seeks_71, r_X5_seeks_72, r_X5_seeks_74, r_X5_seeks_75, r_X5_seeks_78, r_X5_seeks_81, r_X5_seeks_82, r_X5_seeks_83, r_X5_seeks_84, r_X5_seeks_85, r_X5_seeks_86, r_X5_seeks_87, r_X5_seeks_90, r_X5_seeks_91, r_X5_seeks_92, r_X5_seeks_93, r_X5_seeks_96, r_X5_seeks_99, r_X5_seeks_102, r_X5_seeks_103, r_X5_seeks_104, r_X5_seeks_107, r_X5_seeks_109, r_X5_seeks_110, r_X5_seeks_113, r_X5_seeks_114, r_X5_seeks_116, r_X5_seeks_117, r_X5_seeks_119, r_X5_seeks_123, r_X5_seeks_125, r_X5_seeks_126, r_X5_seeks_129, r_X5_seeks_130, r_X5_seeks_131, r_X5_seeks_132, r_X5_seeks_135, r_X5_seeks_136, r_X5_seeks_139, r_X5_seeks_141, r_X5_seeks_142, r_X5_seeks_143, r_X5_seeks_144, r_X5_seeks_147, r_X5_seeks_148, r_X5_seeks_149, r_X5_seeks_150, r_X5_seeks_151, r_X5_seeks_154, r_X5_seeks_157, r_X5_seeks_158, r_X5_seeks_159, r_X5_seeks_160, r_X5_seeks_161, r_X5_seeks_162, r_X5_seeks_163, r_X5_seeks_164, r_X5_seeks_165, r_X5_seeks_168, r_X5_seeks_169, r_X5_seeks_170, r_X5_seeks_172, r_X5_seeks_173, r_X5_seeks_176, r_X5_seeks_177, r_X5_seeks_178, r_X5_seeks_179, r_X5_seeks_180, r_X5_seeks_181, r_X5_seeks_184, r_X5_seeks_186, r_X5_seeks_190, r_X5_seeks_192, r_X5_seeks_193, r_X5_seeks_196, r_X5_seeks_197, r_X5_seeks_198, r_X5_seeks_199, r_X5_seeks_202, r_X5_seeks_203, r_X5_seeks_206, r_X5_seeks_208, r_X5_seeks_209, r_X5_seeks_210, r_X5_seeks_211, r_X5_seeks_214, r_X5_seeks_215, r_X5_seeks_216, r_X5_seeks_217, r_X5_seeks_218, r_X5_seeks_221, r_X5_seeks_224, r_X5_seeks_227, r_X5_seeks_230]
              have l2 := tl_for (A := fun j => ex_r none (d + 3) ex_m_X5_seeks E 188 [.ref 5, .int (nI p), .int (nI (cs + pl_A n t wt p b)), .int (nI i), .int (nI r), .int (nI (r + j))] [] (mz σ le2 f2 g2 (rg k2 r (fun v => v - nI (h i)) j)) 0) (n := t i) (by
                intro j hj R hR
                simp only [r_X5_seeks_188]
                simp only [r_X5_seeks_0, r_X5_seeks_1, r_X5_seeks_4, r_X5_seeks_7, r_X5_seeks_8, r_X5_seeks_9, r_X5_seeks_12, r_X5_seeks_15, r_X5_seeks_16, r_X5_seeks_17, r_X5_seeks_18, r_X5_seeks_19, r_X5_seeks_22, r_X5_seeks_23, r_X5_seeks_24, r_X5_seeks_25, r_X5_seeks_28, r_X5_seeks_29, r_X5_seeks_30, r_X5_seeks_33, r_X5_seeks_36, r_X5_seeks_37, r_X5_seeks_38, r_X5_seeks_39, r_X5_seeks_42, r_X5_seeks_43, r_X5_seeks_45, r_X5_seeks_46, r_X5_seeks_49, r_X5_seeks_52, r_X5_seeks_53, r_X5_seeks_56, r_X5_seeks_57, r_X5_seeks_58, r_X5_seeks_61, r_X5_seeks_62, r_X5_seeks_63, r_X5_seeks_64, r_X5_seeks_67, r_X5_seeks_70, r_X5_seeks_71, r_X5_seeks_72, r_X5_seeks_74, r_X5_seeks_75, r_X5_seeks_78, r_X5_seeks_81, r_X5_seeks_82, r_X5_seeks_83, r_X5_seeks_84, r_X5_seeks_85, r_X5_seeks_86, r_X5_seeks_87, r_X5_seeks_90, r_X5_seeks_91, r_X5_seeks_92, r_X5_seeks_93, r_X5_seeks_96, r_X5_seeks_99, r_X5_seeks_102, r_X5_seeks_103, r_X5_seeks_104, r_X5_seeks_107, r_X5_seeks_109, r_X5_seeks_110, r_X5_seeks_113, r_X5_seeks_114, r_X5_seeks_116, r_X5_seeks_117, r_X5_seeks_119, r_X5_seeks_123, r_X5_seeks_125, r_X5_seeks_126, r_X5_seeks_129, r_X5_seeks_130, r_X5_seeks_131, r_X5_seeks_132, r_X5_seeks_135, r_X5_seeks_136, r_X5_seeks_139, r_X5_seeks_141, r_X5_seeks_142, r_X5_seeks_143, r_X5_seeks_144, r_X5_seeks_147, r_X5_seeks_148, r_X5_seeks_149, r_X5_seeks_150, r_X5_seeks_151, r_X5_seeks_154, r_X5_seeks_157, r_X5_seeks_158, r_X5_seeks_159, r_X5_seeks_160, r_X5_seeks_161, r_X5_seeks_162, r_X5_seeks_163, r_X5_seeks_164, r_X5_seeks_165, r_X5_seeks_168, r_X5_seeks_169, r_X5_seeks_170, r_X5_seeks_172, r_X5_seeks_173, r_X5_seeks_176, r_X5_seeks_177, r_X5_seeks_178, r_X5_seeks_179, r_X5_seeks_180, r_X5_seeks_181, r_X5_seeks_184, r_X5_seeks_186, r_X5_seeks_190, r_X5_seeks_192, r_X5_seeks_193, r_X5_seeks_196, r_X5_seeks_197, r_X5_seeks_198, r_X5_seeks_199, r_X5_seeks_202, r_X5_seeks_203, r_X5_seeks_206, r_X5_seeks_208, r_X5_seeks_209, r_X5_seeks_210, r_X5_seeks_211, r_X5_seeks_214, r_X5_seeks_215, r_X5_seeks_216, r_X5_seeks_217, r_X5_seeks_218, r_X5_seeks_221, r_X5_seeks_224, r_X5_seeks_227, r_X5_seeks_230, mz_1, mz_3, Nat.reduceEqDiff, if_false, if_true, tl_in (show i < 8 by omega) (show 8 < 2 ^ 31 by omega), tl_cl (show i < 2 ^ 31 by omega), ht1, hh1, true_and, nI_add, nI_1, tl_in (show r + j < 200 by omega) (show 200 < 2 ^ 31 by omega), tl_cl (show r + j < 2 ^ 31 by omega), mz_54]
                rw [if_neg (nI_ge (by omega) (by omega)), rg_s k2 r j (fun v => v - nI (h i))]
                exact hR)
              simp only [rg_0, Nat.add_zero] at l2
              rw [l2]
              simp only [r_X5_seeks_188]
              simp only [r_X5_seeks_0, r_X5_seeks_1, r_X5_seeks_4, r_X5_seeks_7, r_X5_seeks_8, r_X5_seeks_9, r_X5_seeks_12, r_X5_seeks_15, r_X5_seeks_16, r_X5_seeks_17, r_X5_seeks_18, r_X5_seeks_19, r_X5_seeks_22, r_X5_seeks_23, r_X5_seeks_24, r_X5_seeks_25, r_X5_seeks_28, r_X5_seeks_29, r_X5_seeks_30, r_X5_seeks_33, r_X5_seeks_36, r_X5_seeks_37, r_X5_seeks_38, r_X5_seeks_39, r_X5_seeks_42, r_X5_seeks_43, r_X5_seeks_45, r_X5_seeks_46, r_X5_seeks_49, r_X5_seeks_52, r_X5_seeks_53, r_X5_seeks_56, r_X5_seeks_57, r_X5_seeks_58, r_X5_seeks_61, r_X5_seeks_62, r_X5_seeks_63, r_X5_seeks_64, r_X5_seeks_67, r_X5_seeks_70, r_X5_seeks_71, r_X5_seeks_72, r_X5_seeks_74, r_X5_seeks_75, r_X5_seeks_78, r_X5_seeks_81, r_X5_seeks_82, r_X5_seeks_83, r_X5_seeks_84, r_X5_seeks_85, r_X5_seeks_86, r_X5_seeks_87, r_X5_seeks_90, r_X5_seeks_91, r_X5_seeks_92, r_X5_seeks_93, r_X5_seeks_96, r_X5_seeks_99, r_X5_seeks_102, r_X5_seeks_103, r_X5_seeks_104, r_X5_seeks_107, r_X5_seeks_109, r_X5_seeks_110, r_X5_seeks_113, r_X5_seeks_114, r_X5_seeks_116, r_X5_seeks_117, r_X5_seeks_119, r_X5_seeks_123, r_X5_seeks_125, r_X5_seeks_126, r_X5_seeks_129, r_X5_seeks_130, r_X5_seeks_131, r_X5_seeks_132, r_X5_seeks_135, r_X5_seeks_136, r_X5_seeks_139, r_X5_seeks_141, r_X5_seeks_142, r_X5_seeks_143, r_X5_seeks_144, r_X5_seeks_147, r_X5_seeks_148, r_X5_seeks_149, r_X5_seeks_150, r_X5_seeks_151, r_X5_seeks_154, r_X5_seeks_157, r_X5_seeks_158, r_X5_seeks_159, r_X5_seeks_160, r_X5_seeks_161, r_X5_seeks_162, r_X5_seeks_163, r_X5_seeks_164, r_X5_seeks_165, r_X5_seeks_168, r_X5_seeks_169, r_X5_seeks_170, r_X5_seeks_172, r_X5_seeks_173, r_X5_seeks_176, r_X5_seeks_177, r_X5_seeks_178, r_X5_seeks_179, r_X5_seeks_180, r_X5_seeks_181, r_X5_seeks_184, r_X5_seeks_186, r_X5_seeks_190, r_X5_seeks_192, r_X5_seeks_193, r_X5_seeks_196, r_X5_seeks_197, r_X5_seeks_198, r_X5_seeks_199, r_X5_seeks_202, r_X5_seeks_203, r_X5_seeks_206, r_X5_seeks_208, r_X5_seeks_209, r_X5_seeks_210, r_X5_seeks_211, r_X5_seeks_214, r_X5_seeks_215, r_X5_seeks_216, r_X5_seeks_217, r_X5_seeks_218, r_X5_seeks_221, r_X5_seeks_224, r_X5_seeks_227, r_X5_seeks_230, mz_1, mz_3, Nat.reduceEqDiff, if_false, if_true, tl_in (show i < 8 by omega) (show 8 < 2 ^ 31 by omega), tl_cl (show i < 2 ^ 31 by omega), ht1, true_and, nI_add, Int32.le_refl, nI_1]
              apply hnext (le2, f2, g2, rg k2 r (fun v => v - nI (h i)) (t i), .int (nI r), .int (nI (r + t i)))
              obtain ⟨p1, p2, p3, p4⟩ := hP
              refine ⟨p1, mN_back i2 p2 hi hpf, fun X hX => p3 X (i3 X hX), fun S hS w hw hwn hpw hmin => ?_⟩
              rcases Nat.lt_or_ge w i with q | q
              · exact p3 _ (i4 S hS w q hwn hpw hmin)
              · have e : w = i := by omega
                subst e
                apply p4 S
                have hrS : r ≤ S w := by
                  rcases Nat.lt_or_ge (S w) r with q2 | q2
                  · exfalso
                    obtain ⟨x, y1, y2, y3⟩ := r4 (S w) (me_le (fun j hj q3 q4 => by
                      have hv : (N w).testBit (nd j) = true := (h8 w (nd j) hi).mpr ⟨j, hj, q4, q3, rfl⟩
                      have y4 := hS.1.1 w (nd j) hi (pl_fb hi) hv
                      have y5 := hS.2.1 (nd j) (tl_bit_lt (h7 w hi) hv) (hrd _ hv)
                      omega)) q2
                    exact y3 (pl_next hS.1 hS.2.1 hi hpf (fun v hv hpv => hS.2.2 v w hv hi hpv hpf) y1 y2)
                  · exact q2
                refine ⟨hS.1, fun v hv hpv => ?_, fun v u hv hu hpv hpu => ?_⟩
                · by_cases e : v = w
                  · subst e
                    rw [pl_up_at]
                    exact hrS
                  · rw [pl_up_ne _ _ e]
                    rw [pl_ib] at hpv
                    exact hS.2.1 v hv (by simpa [Ne.symm e] using hpv)
                · rw [pl_ib] at hpv hpu
                  have hpu2 : p.testBit u = false := by
                    revert hpu
                    cases p.testBit u <;> simp
                  by_cases e : v = w
                  · subst e
                    exact hmin u hu hpu2
                  · exact hS.2.2 v u hv hu (by simpa [Ne.symm e] using hpv) hpu2
          · rw [if_neg hrdy, if_pos rfl]
            apply skip
            right
            apply Classical.byContradiction
            intro hno
            apply hrdy
            apply mr_iff.mpr
            intro j hj q1 q2
            cases q3 : p.testBit (nd j) with
            | true => rfl
            | false => exact absurd ⟨nd j, (h8 i (nd j) hi).mpr ⟨j, hj, q2, q1, rfl⟩, q3⟩ hno
      · rintro ⟨le1, f1, g1, k1, z1, z2⟩ ⟨i1, i2, i3, i4⟩
        simp only at i1 i2 i3 i4 ⊢
        simp only [r_X5_seeks_73]
        simp only [r_X5_seeks_0, r_X5_seeks_1, r_X5_seeks_4, r_X5_seeks_7, r_X5_seeks_8, r_X5_seeks_9, r_X5_seeks_12, r_X5_seeks_15, r_X5_seeks_16, r_X5_seeks_17, r_X5_seeks_18, r_X5_seeks_19, r_X5_seeks_22, r_X5_seeks_23, r_X5_seeks_24, r_X5_seeks_25, r_X5_seeks_28, r_X5_seeks_29, r_X5_seeks_30, r_X5_seeks_33, r_X5_seeks_36, r_X5_seeks_37, r_X5_seeks_38, r_X5_seeks_39, r_X5_seeks_42, r_X5_seeks_43, r_X5_seeks_45, r_X5_seeks_46, r_X5_seeks_49, r_X5_seeks_52, r_X5_seeks_53, r_X5_seeks_56, r_X5_seeks_57, r_X5_seeks_58, r_X5_seeks_61, r_X5_seeks_62, r_X5_seeks_63, r_X5_seeks_64, r_X5_seeks_67, r_X5_seeks_70, r_X5_seeks_71, r_X5_seeks_72, r_X5_seeks_74, r_X5_seeks_75, r_X5_seeks_78, r_X5_seeks_81, r_X5_seeks_82, r_X5_seeks_83, r_X5_seeks_84, r_X5_seeks_85, r_X5_seeks_86, r_X5_seeks_87, r_X5_seeks_90, r_X5_seeks_91, r_X5_seeks_92, r_X5_seeks_93, r_X5_seeks_96, r_X5_seeks_99, r_X5_seeks_102, r_X5_seeks_103, r_X5_seeks_104, r_X5_seeks_107, r_X5_seeks_109, r_X5_seeks_110, r_X5_seeks_113, r_X5_seeks_114, r_X5_seeks_116, r_X5_seeks_117, r_X5_seeks_119, r_X5_seeks_123, r_X5_seeks_125, r_X5_seeks_126, r_X5_seeks_129, r_X5_seeks_130, r_X5_seeks_131, r_X5_seeks_132, r_X5_seeks_135, r_X5_seeks_136, r_X5_seeks_139, r_X5_seeks_141, r_X5_seeks_142, r_X5_seeks_143, r_X5_seeks_144, r_X5_seeks_147, r_X5_seeks_148, r_X5_seeks_149, r_X5_seeks_150, r_X5_seeks_151, r_X5_seeks_154, r_X5_seeks_157, r_X5_seeks_158, r_X5_seeks_159, r_X5_seeks_160, r_X5_seeks_161, r_X5_seeks_162, r_X5_seeks_163, r_X5_seeks_164, r_X5_seeks_165, r_X5_seeks_168, r_X5_seeks_169, r_X5_seeks_170, r_X5_seeks_172, r_X5_seeks_173, r_X5_seeks_176, r_X5_seeks_177, r_X5_seeks_178, r_X5_seeks_179, r_X5_seeks_180, r_X5_seeks_181, r_X5_seeks_184, r_X5_seeks_186, r_X5_seeks_190, r_X5_seeks_192, r_X5_seeks_193, r_X5_seeks_196, r_X5_seeks_197, r_X5_seeks_198, r_X5_seeks_199, r_X5_seeks_202, r_X5_seeks_203, r_X5_seeks_206, r_X5_seeks_208, r_X5_seeks_209, r_X5_seeks_210, r_X5_seeks_211, r_X5_seeks_214, r_X5_seeks_215, r_X5_seeks_216, r_X5_seeks_217, r_X5_seeks_218, r_X5_seeks_221, r_X5_seeks_224, r_X5_seeks_227, r_X5_seeks_230, mz_1, Nat.reduceEqDiff, if_false, h1.2.2.1, Int32.le_refl, if_true]
        apply hE
        refine ⟨i1, i2, i3, fun S hS => ?_⟩
        obtain ⟨w, hw, hpw⟩ := pl_lack hpn hfull
        obtain ⟨w, hw, hpw, hmin⟩ := pl_min S (fun w => p.testBit w = false) n ⟨w, hw, hpw⟩
        exact i4 S hS w hw hw hpw (fun u hu hpu => by
          have := hmin u hu hpu
          omega)
  simp only [r_X5_seeks, r_X5_seeks_0, r_X5_seeks_1, r_X5_seeks_4, r_X5_seeks_7, r_X5_seeks_8, r_X5_seeks_9, r_X5_seeks_12, r_X5_seeks_15, r_X5_seeks_17, r_X5_seeks_18, r_X5_seeks_19, r_X5_seeks_22, r_X5_seeks_23, r_X5_seeks_24, r_X5_seeks_25, r_X5_seeks_28, r_X5_seeks_29, r_X5_seeks_30, r_X5_seeks_33, r_X5_seeks_36, r_X5_seeks_37, r_X5_seeks_38, r_X5_seeks_39, r_X5_seeks_42, r_X5_seeks_43, r_X5_seeks_45, r_X5_seeks_46, r_X5_seeks_49, r_X5_seeks_52, r_X5_seeks_53, r_X5_seeks_56, r_X5_seeks_57, r_X5_seeks_58, r_X5_seeks_61, r_X5_seeks_62, r_X5_seeks_63, r_X5_seeks_64, r_X5_seeks_67, r_X5_seeks_70, r_X5_seeks_71, r_X5_seeks_72, r_X5_seeks_74, r_X5_seeks_75, r_X5_seeks_78, r_X5_seeks_81, r_X5_seeks_82, r_X5_seeks_83, r_X5_seeks_84, r_X5_seeks_85, r_X5_seeks_86, r_X5_seeks_87, r_X5_seeks_90, r_X5_seeks_91, r_X5_seeks_92, r_X5_seeks_93, r_X5_seeks_96, r_X5_seeks_99, r_X5_seeks_102, r_X5_seeks_103, r_X5_seeks_104, r_X5_seeks_107, r_X5_seeks_109, r_X5_seeks_110, r_X5_seeks_113, r_X5_seeks_114, r_X5_seeks_116, r_X5_seeks_117, r_X5_seeks_119, r_X5_seeks_123, r_X5_seeks_125, r_X5_seeks_126, r_X5_seeks_129, r_X5_seeks_130, r_X5_seeks_131, r_X5_seeks_132, r_X5_seeks_135, r_X5_seeks_136, r_X5_seeks_139, r_X5_seeks_141, r_X5_seeks_142, r_X5_seeks_143, r_X5_seeks_144, r_X5_seeks_147, r_X5_seeks_148, r_X5_seeks_149, r_X5_seeks_150, r_X5_seeks_151, r_X5_seeks_154, r_X5_seeks_157, r_X5_seeks_158, r_X5_seeks_159, r_X5_seeks_160, r_X5_seeks_161, r_X5_seeks_162, r_X5_seeks_163, r_X5_seeks_164, r_X5_seeks_165, r_X5_seeks_168, r_X5_seeks_169, r_X5_seeks_170, r_X5_seeks_172, r_X5_seeks_173, r_X5_seeks_176, r_X5_seeks_177, r_X5_seeks_178, r_X5_seeks_179, r_X5_seeks_180, r_X5_seeks_181, r_X5_seeks_184, r_X5_seeks_186, r_X5_seeks_190, r_X5_seeks_192, r_X5_seeks_193, r_X5_seeks_196, r_X5_seeks_197, r_X5_seeks_198, r_X5_seeks_199, r_X5_seeks_202, r_X5_seeks_203, r_X5_seeks_206, r_X5_seeks_208, r_X5_seeks_209, r_X5_seeks_210, r_X5_seeks_211, r_X5_seeks_214, r_X5_seeks_215, r_X5_seeks_216, r_X5_seeks_217, r_X5_seeks_218, r_X5_seeks_221, r_X5_seeks_224, r_X5_seeks_227, r_X5_seeks_230, mz_1, if_true]
  rcases hB with hB | ⟨c, hc⟩
  · rw [if_pos (by rw [hB]; decide)]
    exact key16
  · have hAc : pl_A n t wt (2 ^ n - 1) c ≤ 800 * 96 := pl_A_bd hn (fun w hw => (h5 w hw).2.2.2.2.2.2) (fun w hw _ => hc.2.1 w hw)
    have hle := hc.2.2.1
    have c1 : ¬ le < 0 := by
      rw [hle]
      exact nI_nlt (b := 0) (by omega) (by omega)
    have c2 : (nI (cs + pl_A n t wt p b) ≤ le) = (cs + pl_A n t wt p b ≤ cs + pl_A n t wt (2 ^ n - 1) c) := by
      rw [hle]
      exact tl_le (by omega) (by omega)
    simp only [c2]
    rw [if_neg c1]
    by_cases q : cs + pl_A n t wt p b ≤ cs + pl_A n t wt (2 ^ n - 1) c
    · rw [if_pos q]
      exact key16
    · rw [if_neg q]
      refine hE le f g k ⟨Or.inr ⟨c, hc⟩, hN, fun X hX => hX, fun S hS => ⟨c, hc, ?_⟩⟩
      have y1 := pl_A_sub (t := t) (wt := wt) hS.2.1
      have y2 := pl_K_lt56 (p := 2 ^ n - 1) (b := c) hn (fun w hw _ => by have := hc.2.1 w hw; omega)
      unfold pl_V
      omega
theorem c_seeks {d : Nat} (hs : mS σ n m H nr nd t h wt N so cn th) (hcs : cs ≤ 8000) : ∀ (r p : Nat) (b : Nat → Nat) (le : Int32) (f g k : Nat → Int32) (E : ex_O → ex_S → Prop), tl_ct (fun i => !p.testBit i) n ≤ r → mN n H t h N p b g k → mB n H cs t h wt N le f → (∀ le2 f2 g2 k2, mP n H cs t h wt N p b le f le2 f2 g2 k2 → E (.inl none) (mz σ le2 f2 g2 k2)) → ex_C (d + r + 4) 108 [.ref 5, .int (nI p), .int (nI (cs + pl_A n t wt p b))] (mz σ le f g k) E := by
  intro r
  induction r with
  | zero =>
    intro p b le f g k E hr hN hB hE
    exact c_seeks_step hs hcs hN hB (fun p2 b2 le f g k E hlt => absurd hlt (by omega)) hE
  | succ r ih =>
    intro p b le f g k E hr hN hB hE
    exact c_seeks_step (d := d + r + 1) hs hcs hN hB (fun p2 b2 le f g k E hlt hN2 hB2 hE2 => ih p2 b2 le f g k E (by omega) hN2 hB2 hE2) hE
end ML
