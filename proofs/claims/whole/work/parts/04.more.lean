/-! ===== the pure machine: what holds of more holds of less ===== -/
section EXM
theorem ex_p1_m {st : List Value} {k k' : Int32 → List Value → Prop} (h : ∀ x r, k x r → k' x r) : ex_p1 st k → ex_p1 st k' := by
  unfold ex_p1; split
  · exact h _ _
  · exact id
theorem ex_p2_m {st : List Value} {k k' : Int32 → Int32 → List Value → Prop} (h : ∀ x y r, k x y r → k' x y r) : ex_p2 st k → ex_p2 st k' := by
  unfold ex_p2; split
  · exact h _ _ _
  · exact id
theorem ex_pl_m {st : List Value} {k k' : Int64 → List Value → Prop} (h : ∀ x r, k x r → k' x r) : ex_pl st k → ex_pl st k' := by
  unfold ex_pl; split
  · exact h _ _
  · exact id
theorem ex_pll_m {st : List Value} {k k' : Int64 → Int64 → List Value → Prop} (h : ∀ x y r, k x y r → k' x y r) : ex_pll st k → ex_pll st k' := by
  unfold ex_pll; split
  · exact h _ _ _
  · exact id
theorem ex_pli_m {st : List Value} {k k' : Int64 → Int32 → List Value → Prop} (h : ∀ x y r, k x y r → k' x y r) : ex_pli st k → ex_pli st k' := by
  unfold ex_pli; split
  · exact h _ _ _
  · exact id
theorem ex_pr_m {st : List Value} {k k' : Nat → List Value → Prop} (h : ∀ x r, k x r → k' x r) : ex_pr st k → ex_pr st k' := by
  unfold ex_pr; split
  · exact h _ _
  · exact id
theorem ex_pa_m {st : List Value} {k k' : Nat → Int32 → List Value → Prop} (h : ∀ x y r, k x y r → k' x y r) : ex_pa st k → ex_pa st k' := by
  unfold ex_pa; split
  · exact h _ _ _
  · exact id
theorem ex_pai_m {st : List Value} {k k' : Nat → Int32 → Int32 → List Value → Prop} (h : ∀ x y z r, k x y z r → k' x y z r) : ex_pai st k → ex_pai st k' := by
  unfold ex_pai; split
  · exact h _ _ _ _
  · exact id
theorem ex_pal_m {st : List Value} {k k' : Nat → Int32 → Int64 → List Value → Prop} (h : ∀ x y z r, k x y z r → k' x y z r) : ex_pal st k → ex_pal st k' := by
  unfold ex_pal; split
  · exact h _ _ _ _
  · exact id
theorem ex_jmp_m {pc : Nat} {off : Int} {k k' : Nat → Prop} (h : ∀ t, k t → k' t) : ex_jmp pc off k → ex_jmp pc off k' := by
  unfold ex_jmp; split
  · exact h _
  · exact id
theorem ex_br_m {c : ClassFile.Cond} {x y : Int32} {A B A' B' : Prop} (h1 : A → A') (h2 : B → B') : ex_br c x y A B → ex_br c x y A' B' := by
  unfold ex_br; split <;> split <;> first | exact h1 | exact h2
theorem ex_ldI_m {lv : List Value} {i : Nat} {k k' : Int32 → Prop} (h : ∀ x, k x → k' x) : ex_ldI lv i k → ex_ldI lv i k' := by
  unfold ex_ldI; split
  · exact h _
  · exact id
theorem ex_ldL_m {lv : List Value} {i : Nat} {k k' : Int64 → Prop} (h : ∀ x, k x → k' x) : ex_ldL lv i k → ex_ldL lv i k' := by
  unfold ex_ldL; split
  · exact h _
  · exact id
theorem ex_ldR_m {lv : List Value} {i : Nat} {k k' : Nat → Prop} (h : ∀ x, k x → k' x) : ex_ldR lv i k → ex_ldR lv i k' := by
  unfold ex_ldR; split
  · exact h _
  · exact id
theorem ex_put_m {lg : List Nat} {lv : List Value} {i : Nat} {v : Value} {k k' : List Value → Prop} (h : ∀ x, k x → k' x) : ex_put lg lv i v k → ex_put lg lv i v k' := by
  unfold ex_put; split
  · exact h _
  · exact id
theorem ex_getf_m {K idx a : Nat} {σ : ex_S} {k k' : Value → Prop} (h : ∀ x, k x → k' x) : ex_getf K idx a σ k → ex_getf K idx a σ k' := by
  unfold ex_getf; split
  · split
    · split
      · split
        · exact h _
        · exact id
      · exact id
    · exact id
  · exact id
theorem ex_putf_m {K idx a : Nat} {k k' : Nat → Nat → Bool → Prop} (h : ∀ x y z, k x y z → k' x y z) : ex_putf K idx a k → ex_putf K idx a k' := by
  unfold ex_putf; split
  · split
    · split
      · split
        · split
          · split
            · exact id
            · split
              · exact h _ _ _
              · split
                · exact h _ _ _
                · exact id
          · exact id
        · split
          · split
            · exact id
            · split
              · exact h _ _ _
              · exact id
          · exact id
        · exact id
      · exact id
    · exact id
  · exact id
theorem ex_arr_m {kind a : Nat} {k k' : Nat → Nat → Prop} (h : ∀ x y, k x y → k' x y) : ex_arr kind a k → ex_arr kind a k' := by
  unfold ex_arr; split
  · split
    · exact h _ _
    · exact id
  · exact id
theorem ex_ild_m {X : Option (Nat × (Nat → Int32))} {a : Nat} {i : Int32} {σ : ex_S} {k k' : Int32 → Prop} (h : ∀ x, k x → k' x) : ex_ild X a i σ k → ex_ild X a i σ k' := by
  unfold ex_ild; split
  · split
    · exact fun q => ⟨q.1, h _ q.2⟩
    · exact id
  · exact ex_arr_m (fun n id q => ⟨q.1, h _ q.2⟩)
theorem ex_len_m {X : Option (Nat × (Nat → Int32))} {a : Nat} {k k' : Int32 → Prop} (h : ∀ x, k x → k' x) : ex_len X a k → ex_len X a k' := by
  unfold ex_len; split
  · split
    · exact h _
    · exact id
  · split
    · exact h _
    · exact id
theorem ex_pay_m {mc b : Nat} {k k' : Nat → Prop} (h : ∀ x, k x → k' x) : ex_pay mc b k → ex_pay mc b k' := by
  unfold ex_pay; split
  · exact h _
  · exact fun q => ⟨q.1, h _ q.2⟩
theorem ex_exc_m {μ : ex_MD} {pc : Nat} {lv : List Value} {x : String} {k k' : Nat → List Value → List Value → Prop} {o o' : Prop} (h : ∀ a b c, k a b c → k' a b c) (ho : o → o') : ex_exc μ pc lv x k o → ex_exc μ pc lv x k' o' := by
  unfold ex_exc; split
  · exact ho
  · split
    · split
      · exact ex_put_m (fun _ => h _ _ _)
      · exact ex_put_m (fun _ => h _ _ _)
      · exact id
    · exact id
abbrev ex_CT : Type := Nat → List Value → ex_S → (ex_O → ex_S → Prop) → Prop
theorem ex_call_m {C C' : ex_CT} {μ : ex_MD} {inst idx pc : Nat} {lv st : List Value} {σ : ex_S} {b : Nat} {P P' : ex_Q → Prop} {E E' : ex_O → ex_S → Prop} (hC : ∀ M a σ F F', (∀ o σ, F o σ → F' o σ) → C M a σ F → C' M a σ F') (hP : ∀ q, P q → P' q) (hE : ∀ o σ, E o σ → E' o σ) : ex_call C μ inst idx pc lv st σ b P E → ex_call C' μ inst idx pc lv st σ b P' E' := by
  unfold ex_call; split
  · split
    · split
      · split
        · refine ex_pay_m (fun b' => hC _ _ _ _ _ ?_)
          intro o σ'
          cases o with
          | inl v => exact hP _
          | inr x => exact ex_exc_m (fun _ _ _ => hP _) (hE _ _)
        · exact id
      · exact id
    · exact id
  · exact id
theorem ex_copy_m {st : List Value} {σ : ex_S} {k k' : List Value → ex_S → Prop} (h : ∀ r σ, k r σ → k' r σ) : ex_copy st σ k → ex_copy st σ k' := by
  unfold ex_copy; split
  · split
    · exact ex_arr_m (fun _ _ => ex_arr_m (fun _ _ q => ⟨q.1, q.2.1, q.2.2.1, q.2.2.2.1, q.2.2.2.2.1, h _ _ q.2.2.2.2.2⟩))
    · exact id
  · exact id
theorem ex_ins_m {X : Option (Nat × (Nat → Int32))} {C C' : ex_CT} {μ : ex_MD} {ins : Instr} {len pc : Nat} {lv st : List Value} {σ : ex_S} {b : Nat} {P P' : ex_Q → Prop} {E E' : ex_O → ex_S → Prop} (hC : ∀ M a σ F F', (∀ o σ, F o σ → F' o σ) → C M a σ F → C' M a σ F') (hP : ∀ q, P q → P' q) (hE : ∀ o σ, E o σ → E' o σ) : ex_ins X C μ ins len pc lv st σ b P E → ex_ins X C' μ ins len pc lv st σ b P' E' := by
  cases ins
  case iconst => exact hP _
  case bipush => exact hP _
  case sipush => exact hP _
  case lconst => exact hP _
  case ldc => 
    simp only [ex_ins]; split
    · exact hP _
    · exact id
  case iload_n => exact ex_ldI_m (fun _ => hP _)
  case iload => exact ex_ldI_m (fun _ => hP _)
  case lload_n => exact ex_ldL_m (fun _ => hP _)
  case lload => exact ex_ldL_m (fun _ => hP _)
  case aload_n => exact ex_ldR_m (fun _ => hP _)
  case aload => exact ex_ldR_m (fun _ => hP _)
  case istore_n => exact ex_p1_m (fun _ _ => ex_put_m (fun _ => hP _))
  case istore => exact ex_p1_m (fun _ _ => ex_put_m (fun _ => hP _))
  case iinc => exact ex_ldI_m (fun _ => ex_put_m (fun _ => hP _))
  case iadd => exact ex_p2_m (fun _ _ _ => hP _)
  case isub => exact ex_p2_m (fun _ _ _ => hP _)
  case imul => exact ex_p2_m (fun _ _ _ => hP _)
  case iand => exact ex_p2_m (fun _ _ _ => hP _)
  case ior => exact ex_p2_m (fun _ _ _ => hP _)
  case ixor => exact ex_p2_m (fun _ _ _ => hP _)
  case ishl => exact ex_p2_m (fun _ _ _ => hP _)
  case ishr => exact ex_p2_m (fun _ _ _ => hP _)
  case ineg => exact ex_p1_m (fun _ _ => hP _)
  case ladd => exact ex_pll_m (fun _ _ _ => hP _)
  case lshl => exact ex_pli_m (fun _ _ _ => hP _)
  case lshr => exact ex_pli_m (fun _ _ _ => hP _)
  case lcmp => exact ex_pll_m (fun _ _ _ => hP _)
  case i2l => exact ex_p1_m (fun _ _ => hP _)
  case l2i => exact ex_pl_m (fun _ _ => hP _)
  case dup =>
    simp only [ex_ins]; split
    · exact hP _
    · exact hP _
    · exact id
  case dup2 => exact ex_pa_m (fun _ _ _ => hP _)
  case goto => exact ex_jmp_m (fun _ => hP _)
  case if_icmp => exact ex_p2_m (fun _ _ _ => ex_jmp_m (fun _ => ex_br_m (hP _) (hP _)))
  case ifCond => exact ex_p1_m (fun _ _ => ex_jmp_m (fun _ => ex_br_m (hP _) (hP _)))
  case tableswitch =>
    refine ex_p1_m (fun _ _ => ?_)
    split
    · exact ex_jmp_m (fun _ => hP _)
    · split
      · exact ex_jmp_m (fun _ => hP _)
      · exact id
  case getfield => exact ex_pr_m (fun _ _ => ex_getf_m (fun _ => hP _))
  case putfield =>
    simp only [ex_ins]; split
    · refine ex_putf_m (fun _ _ _ => ?_)
      split
      · exact hP _
      · exact fun q => ⟨q.1, hP _ q.2⟩
      · exact id
    · refine ex_putf_m (fun _ _ _ => ?_)
      split
      · exact hP _
      · exact id
    · exact id
  case iaload => exact ex_pa_m (fun _ _ _ => ex_ild_m (fun _ => hP _))
  case baload => exact ex_pa_m (fun _ _ _ => ex_arr_m (fun _ _ q => ⟨q.1, hP _ q.2⟩))
  case laload => exact ex_pa_m (fun _ _ _ => ex_arr_m (fun _ _ q => ⟨q.1, hP _ q.2⟩))
  case iastore => exact ex_pai_m (fun _ _ _ _ => ex_arr_m (fun _ _ q => ⟨q.1, hP _ q.2⟩))
  case bastore => exact ex_pai_m (fun _ _ _ _ => ex_arr_m (fun _ _ q => ⟨q.1, q.2.1, hP _ q.2.2⟩))
  case lastore => exact ex_pal_m (fun _ _ _ _ => ex_arr_m (fun _ _ q => ⟨q.1, hP _ q.2⟩))
  case arraylength => exact ex_pr_m (fun _ _ => ex_len_m (fun _ => hP _))
  case invokevirtual => exact ex_call_m hC hP hE
  case invokestatic =>
    simp only [ex_ins]; split
    · exact ex_call_m hC hP hE
    · exact ex_copy_m (fun _ _ => hP _)
    · refine ex_p2_m (fun _ _ _ => ?_)
      split
      · exact hP _
      · exact id
    · refine ex_p2_m (fun _ _ _ => ?_)
      split
      · exact hP _
      · exact id
    · exact id
  case new =>
    simp only [ex_ins]; split
    · exact fun q => ⟨q.1, hE _ _ q.2⟩
    · exact id
  case ireturn =>
    simp only [ex_ins]; split
    · split
      · exact hE _ _
      · exact fun q => ⟨q.1, hE _ _ q.2⟩
      · exact id
    · exact id
  case lreturn =>
    simp only [ex_ins]; split
    · split
      · exact hE _ _
      · exact id
    · exact id
  case return_ =>
    simp only [ex_ins]; split
    · split
      · exact hE _ _
      · exact id
    · exact id
  all_goals exact fun h => h.elim
theorem ex_stp_m {X : Option (Nat × (Nat → Int32))} {C C' : ex_CT} {μ : ex_MD} {P P' : ex_Q → Prop} {E E' : ex_O → ex_S → Prop} {q : ex_Q} (hC : ∀ M a σ F F', (∀ o σ, F o σ → F' o σ) → C M a σ F → C' M a σ F') (hP : ∀ q, P q → P' q) (hE : ∀ o σ, E o σ → E' o σ) : ex_stp X C μ E P q → ex_stp X C' μ E' P' q := by
  unfold ex_stp; split
  · exact ex_ins_m hC hP hE
  · exact id
theorem ex_R_m {X : Option (Nat × (Nat → Int32))} {C C' : ex_CT} {μ : ex_MD} {E E' : ex_O → ex_S → Prop} {q : ex_Q} (hC : ∀ M a σ F F', (∀ o σ, F o σ → F' o σ) → C M a σ F → C' M a σ F') (hE : ∀ o σ, E o σ → E' o σ) (h : ex_R X C μ E q) : ex_R X C' μ E' q :=
  fun P hP => h P (fun q hq => hP q (ex_stp_m hC (fun _ z => z) hE hq))
theorem ex_C_m : ∀ (d : Nat) (M : Nat) (a : List Value) (σ : ex_S) (F F' : ex_O → ex_S → Prop), (∀ o σ, F o σ → F' o σ) → ex_C d M a σ F → ex_C d M a σ F'
  | 0, _, _, _, _, _, _, h => h
  | d + 1, M, a, σ, F, F', hF, h => by
    unfold ex_C at h ⊢
    split at h
    · exact ex_R_m (ex_C_m d) hF h
    · exact h
theorem ex_C_s : ∀ (d : Nat) (M : Nat) (a : List Value) (σ : ex_S) (F F' : ex_O → ex_S → Prop), (∀ o σ, F o σ → F' o σ) → ex_C d M a σ F → ex_C (d + 1) M a σ F'
  | 0, _, _, _, _, _, _, h => h.elim
  | d + 1, M, a, σ, F, F', hF, h => by
    unfold ex_C at h ⊢
    split at h
    · exact ex_R_m (ex_C_s d) hF h
    · exact h
theorem ex_C_le {d d' : Nat} (hd : d ≤ d') {M : Nat} {a : List Value} {σ : ex_S} {F : ex_O → ex_S → Prop} (h : ex_C d M a σ F) : ex_C d' M a σ F := by
  induction hd with
  | refl => exact h
  | step _ ih => exact ex_C_s _ _ _ _ _ _ (fun _ _ z => z) ih
theorem ex_R_in {X : Option (Nat × (Nat → Int32))} {d : Nat} {μ : ex_MD} {E : ex_O → ex_S → Prop} {q : ex_Q} (h : ex_stp X (ex_C d) μ E (ex_R X (ex_C d) μ E) q) : ex_R X (ex_C d) μ E q :=
  fun P hP => hP q (ex_stp_m (ex_C_m d) (fun _ z => z P hP) (fun _ _ z => z) h)
theorem ex_R_out {X : Option (Nat × (Nat → Int32))} {d : Nat} {μ : ex_MD} {E : ex_O → ex_S → Prop} {q : ex_Q} (h : ex_R X (ex_C d) μ E q) : ex_stp X (ex_C d) μ E (ex_R X (ex_C d) μ E) q :=
  h (fun q => ex_stp X (ex_C d) μ E (ex_R X (ex_C d) μ E) q) (fun _ hq => ex_stp_m (ex_C_m d) (fun _ z => ex_R_in z) (fun _ _ z => z) hq)
theorem ex_Req (X : Option (Nat × (Nat → Int32))) (d : Nat) (μ : ex_MD) (E : ex_O → ex_S → Prop) (q : ex_Q) : ex_R X (ex_C d) μ E q = ex_stp X (ex_C d) μ E (ex_R X (ex_C d) μ E) q := propext ⟨ex_R_out, ex_R_in⟩
end EXM
