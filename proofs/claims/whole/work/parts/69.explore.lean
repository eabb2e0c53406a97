/-! ===== the class's planner: the search ===== -/
section PD
variable {n H : Nat} {t h wt N od bw S : Nat → Nat}
def xF (σ τ : ex_S) : Prop := (∀ j, j ≠ 112 → j ≠ 114 → j ≠ 116 → j ≠ 117 → τ.1 j = σ.1 j) ∧ (∀ j, j ≠ 113 → j ≠ 115 → τ.2.1 j = σ.2.1 j) ∧ (∀ r, r ≠ 10 → r ≠ 11 → r ≠ 12 → r ≠ 13 → r ≠ 15 → τ.2.2.1 r = σ.2.2.1 r) ∧ ∀ r, r ≠ 14 → τ.2.2.2 r = σ.2.2.2 r
theorem xF_refl (σ : ex_S) : xF σ σ := ⟨fun _ _ _ _ _ => rfl, fun _ _ _ => rfl, fun _ _ _ _ _ _ => rfl, fun _ _ => rfl⟩
theorem xF_trans {σ τ ρ : ex_S} (h1 : xF σ τ) (h2 : xF τ ρ) : xF σ ρ := ⟨fun j a b c e => (h2.1 j a b c e).trans (h1.1 j a b c e), fun j a b => (h2.2.1 j a b).trans (h1.2.1 j a b), fun r a b c e f => (h2.2.2.1 r a b c e f).trans (h1.2.2.1 r a b c e f), fun r a => (h2.2.2.2 r a).trans (h1.2.2.2 r a)⟩
theorem xF_hz (σ : ex_S) (er : Nat → Int32) (ha : Int32) (hk : Int64) (so fu : Int32) : xF σ (hz σ er ha hk so fu) := by
  refine ⟨fun j a b c e => ?_, fun j a b => ?_, fun r a b c e f => ?_, fun _ _ => rfl⟩
  · rw [hz_1, if_neg b, if_neg c, if_neg e]
  · rw [hz_2, if_neg b]
  · rw [hz_3, if_neg c]
theorem xF_row (σ : ex_S) (a : Nat) (f : Nat → Int32) (ha : a = 10 ∨ a = 11 ∨ a = 12 ∨ a = 13 ∨ a = 15) : xF σ (ex_row σ a f) := by
  refine ⟨fun _ _ _ _ _ => rfl, fun _ _ _ => rfl, fun r a1 b c e f => ?_, fun _ _ => rfl⟩
  rw [s_r3, if_neg (by omega)]
theorem xF_sB (σ : ex_S) (i : Nat) (v : Int64) : xF σ (ex_sB σ 14 i v) := by
  refine ⟨fun _ _ _ _ _ => rfl, fun _ _ _ => rfl, fun _ _ _ _ _ _ => rfl, fun r a => ?_⟩
  rw [s_b4, if_neg a]
theorem xF_sF (σ : ex_S) (v : Int32) : xF σ (ex_sF σ 112 v) := by
  refine ⟨fun j a _ _ _ => ?_, fun _ _ _ => rfl, fun _ _ _ _ _ _ => rfl, fun _ _ => rfl⟩
  rw [s_f1, if_neg a]
theorem xF_sG (σ : ex_S) (v : Int64) : xF σ (ex_sG σ 113 v) := by
  refine ⟨fun _ _ _ _ _ => rfl, fun j a _ => ?_, fun _ _ _ _ _ _ => rfl, fun _ _ => rfl⟩
  rw [s_g2, if_neg a]
theorem xS_fr {σ τ : ex_S} (hF : xF σ τ) (hx : xS σ n H t h wt N od bw) : xS τ n H t h wt N od bw := by
  have r7 := hF.2.2.1 7 (by decide) (by decide) (by decide) (by decide) (by decide)
  have r8 := hF.2.2.1 8 (by decide) (by decide) (by decide) (by decide) (by decide)
  have r9 := hF.2.2.1 9 (by decide) (by decide) (by decide) (by decide) (by decide)
  have r27 := hF.2.2.1 27 (by decide) (by decide) (by decide) (by decide) (by decide)
  have r28 := hF.2.2.1 28 (by decide) (by decide) (by decide) (by decide) (by decide)
  have r29 := hF.2.2.1 29 (by decide) (by decide) (by decide) (by decide) (by decide)
  have i1 := hF.1 306 (by decide) (by decide) (by decide) (by decide)
  have i2 := hF.1 111 (by decide) (by decide) (by decide) (by decide)
  unfold xS at hx ⊢
  rw [r7, r8, r9, r27, r28, r29, i1, i2]
  exact hx
def xL (la : Int32) (n p fr : Nat) (b : Nat → Nat) : Prop := (la = -1 ∧ fr = 0 ∧ p = 0) ∨ ∃ l, l < n ∧ la = nI l ∧ p.testBit l = true ∧ b l = fr
def xN (σ : ex_S) (n H dp p fr : Nat) (t h N b : Nat → Nat) : Prop := p < 2 ^ n ∧ pl_ok n H t h N p b ∧ (∀ w, w < n → p.testBit w = true → σ.2.2.1 11 w = nI (b w) ∧ b w < 96 ∧ b w ≤ fr) ∧ fr < 96 ∧ (∀ x, x < 96 → σ.2.2.1 10 x = nI (pl_u n t h p b x)) ∧ tl_ct (fun i => p.testBit i) n = dp
def xE (σ : ex_S) (n dp p : Nat) (od bf : Nat → Nat) : Prop := ∀ i, i < n → p.testBit (od i) = false → (dp = 0 → bf (od i) = 0) ∧ (0 < dp → σ.2.2.1 12 (8 * (dp - 1) + od i) = nI (bf (od i))) ∧ bf (od i) ≤ 96 + 12 * i
def xW (σ : ex_S) (n H : Nat) (t h wt N : Nat → Nat) : Prop := ∀ q, q < 2 ^ n → σ.2.2.1 13 q = nI 1000000 ∨ ∃ P, pl_ok n H t h N q P ∧ (∀ w, w < n → q.testBit w = true → P w < 96) ∧ σ.2.2.1 13 q = nI (pl_A n t wt q P) ∧ σ.2.2.2 14 q = lN (pl_K n q P)
def xK (σ : ex_S) : Prop := ∀ q, q < 256 → ∃ k, k < 2 ^ 60 ∧ σ.2.2.2 14 q = lN k
def xC (σ : ex_S) (n H : Nat) (t h wt N c : Nat → Nat) : Prop := pl_ok n H t h N (2 ^ n - 1) c ∧ (∀ w, w < n → c w < 96) ∧ σ.1 112 = nI (pl_A n t wt (2 ^ n - 1) c) ∧ σ.2.1 113 = lN (pl_K n (2 ^ n - 1) c) ∧ ∀ w, w < n → σ.2.2.1 15 w = nI (c w)
def xB (σ : ex_S) (n H : Nat) (t h wt N : Nat → Nat) : Prop := (σ.1 112 = nI 1000000 ∧ σ.2.1 113 = lN 0) ∨ ∃ c, xC σ n H t h wt N c
def xLe (σ : ex_S) (n H : Nat) (t h wt N : Nat → Nat) (X : Nat) : Prop := ∃ c, xC σ n H t h wt N c ∧ pl_V n t wt (2 ^ n - 1) c ≤ X
/-- what stays, and what is found -/
def xO (σ τ : ex_S) (n H dp p : Nat) (t h wt N : Nat → Nat) : Prop := xF σ τ ∧ (∀ w, w < n → p.testBit w = true → τ.2.2.1 11 w = σ.2.2.1 11 w) ∧ (∀ x, x < 96 → τ.2.2.1 10 x = σ.2.2.1 10 x) ∧ (∀ x, x < 8 * dp → τ.2.2.1 12 x = σ.2.2.1 12 x) ∧ xW τ n H t h wt N ∧ xK τ ∧ xB τ n H t h wt N ∧ ∀ X, xLe σ n H t h wt N X → xLe τ n H t h wt N X
def xOpt (n H : Nat) (t h wt N S : Nat → Nat) : Prop := pl_ok n H t h N (2 ^ n - 1) S ∧ (∀ S2, pl_ok n H t h N (2 ^ n - 1) S2 → pl_V n t wt (2 ^ n - 1) S ≤ pl_V n t wt (2 ^ n - 1) S2) ∧ ∀ w, w < n → S w < 96
theorem xW_eq {σ τ : ex_S} (h13 : τ.2.2.1 13 = σ.2.2.1 13) (h14 : τ.2.2.2 14 = σ.2.2.2 14) (hw : xW σ n H t h wt N) : xW τ n H t h wt N := by
  unfold xW at hw ⊢
  rw [h13, h14]
  exact hw
theorem xK_eq {σ τ : ex_S} (h14 : τ.2.2.2 14 = σ.2.2.2 14) (hw : xK σ) : xK τ := by
  unfold xK at hw ⊢
  rw [h14]
  exact hw
theorem xC_eq {σ τ : ex_S} {c : Nat → Nat} (h1 : τ.1 112 = σ.1 112) (h2 : τ.2.1 113 = σ.2.1 113) (h3 : τ.2.2.1 15 = σ.2.2.1 15) (hw : xC σ n H t h wt N c) : xC τ n H t h wt N c := by
  unfold xC at hw ⊢
  rw [h1, h2, h3]
  exact hw
theorem xB_eq {σ τ : ex_S} (h1 : τ.1 112 = σ.1 112) (h2 : τ.2.1 113 = σ.2.1 113) (h3 : τ.2.2.1 15 = σ.2.2.1 15) (hw : xB σ n H t h wt N) : xB τ n H t h wt N := by
  rcases hw with hw | ⟨c, hc⟩
  · exact Or.inl ⟨h1.trans hw.1, h2.trans hw.2⟩
  · exact Or.inr ⟨c, xC_eq h1 h2 h3 hc⟩
theorem xLe_eq {σ τ : ex_S} (h1 : τ.1 112 = σ.1 112) (h2 : τ.2.1 113 = σ.2.1 113) (h3 : τ.2.2.1 15 = σ.2.2.1 15) {X : Nat} (hw : xLe σ n H t h wt N X) : xLe τ n H t h wt N X := by
  obtain ⟨c, hc, hX⟩ := hw
  exact ⟨c, xC_eq h1 h2 h3 hc, hX⟩
theorem nI_ne1 {l : Nat} (hl : l < 2 ^ 31) : ¬ nI l = -1 := by
  intro e
  have := congrArg Int32.toInt e
  rw [nI_toInt hl] at this
  simp at this
theorem c_everyWork2 {d : Nat} {E : ex_O → ex_S → Prop} {σ : ex_S} (hn : n ≤ 8) (h3 : σ.1 306 = nI n) : ex_C (d + 1) 35 [.ref 3] σ E = E (.inl (some (.int (nI (2 ^ n - 1))))) σ := by
  simp only [r_X3_everyWork, r_X3_everyWork_0, r_X3_everyWork_1, r_X3_everyWork_2, r_X3_everyWork_5, r_X3_everyWork_6, r_X3_everyWork_7, r_X3_everyWork_8, h3, tl_shl n (by omega)]
  rw [show (1 : Int32) = nI 1 from rfl, pk_sub (Nat.one_le_two_pow)]
end PD
