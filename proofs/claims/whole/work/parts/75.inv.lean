/-! ===== what class and model have in common; what the wrappers catch (xc_ rows printed by wip/whole/exc.py) ===== -/
section IV
theorem rng {x : Int32} {a b : Nat} (ha : a < 2 ^ 31) (hb : b < 2 ^ 31) (h1 : nI a ≤ x) (h2 : x ≤ nI b) : ∃ k, x = nI k ∧ a ≤ k ∧ k ≤ b := by
  rw [Int32.le_iff_toInt_le, nI_toInt ha] at h1
  rw [Int32.le_iff_toInt_le, nI_toInt hb] at h2
  refine ⟨x.toInt.toNat, ?_, by omega, by omega⟩
  apply Int32.toInt_inj.mp
  rw [nI_toInt (by omega)]
  omega
theorem vin {x : Int32} {N : Nat} (hN : N < 2 ^ 31) (h : vp_in x N) : ∃ k, k < N ∧ x = nI k := by
  rw [vp_in_iff] at h
  refine ⟨x.toInt.toNat, by omega, ?_⟩
  apply Int32.toInt_inj.mp
  rw [nI_toInt (by omega)]
  omega
def iW (σ : ex_S) (n m : Nat) (nr nd t h wt ha al : Nat → Nat) (so : Nat → Bool) : Prop := wk_at σ n ha al ∧ md_at σ n m nr nd so ∧ lk m nr nd so ha al ∧ σ.1 307 = nI m ∧ wS σ n t h wt ∧ mW σ n t h wt ∧ ∀ w, w < n → σ.2.2.1 36 w = σ.2.2.1 30 w ∧ (σ.2.2.1 30 w = -1 ∨ ∃ k, k ≤ 1000 ∧ σ.2.2.1 30 w = nI k)
def iP (σ : ex_S) (n : Nat) : Prop := xK σ ∧ ((σ.1 110 = 0 ∧ σ.1 525 = 0) ∨ (σ.1 110 = 1 ∧ σ.1 525 = 1 ∧ ∀ w, w < n → σ.2.2.1 15 w = σ.2.2.1 52 w))
def iQ (σ : ex_S) (n : Nat) (st : Nat → Nat) (th : Nat → Bool) : Prop := σ.1 6 = nI (mk n (isA 2 st)) ∧ σ.1 7 = nI (mk n (isA 1 st)) ∧ σ.1 8 = nI (mk n th) ∧ ∀ k, k < n → σ.2.2.1 55 k = nI (st k) ∧ st k ≤ 2 ∧ σ.2.2.1 57 k = (if th k = true then 1 else 0) ∧ (th k = true → st k ≠ 0) ∧ (st k = 1 → σ.2.2.1 6 k = σ.2.2.1 56 k) ∧ (st k ≠ 1 → σ.2.2.1 6 k = 0)
def iN (σ : ex_S) (n : Nat) : Prop := (σ.1 2 = 0 ∧ σ.1 532 = 0) ∨ (σ.1 2 = 1 ∧ σ.1 532 = 1 ∧ σ.1 533 = σ.1 3 ∧ σ.1 534 = σ.1 4 ∧ σ.1 535 = σ.1 5 ∧ ∃ st th, iQ σ n st th)
def iS (σ : ex_S) (s l ch : Nat) (cp fr to : Nat → Nat) : Prop := sc σ s l cp fr to ∧ sm σ s l cp fr to ∧ ch ≤ 80 ∧ σ.1 213 = nI ch ∧ σ.1 523 = nI ch ∧ (∀ x, x < 24 → σ.2.2.1 41 x = σ.2.2.1 17 x ∧ σ.2.2.1 42 x = σ.2.2.1 18 x ∧ σ.2.2.1 43 x = σ.2.2.1 19 x ∧ 0 ≤ σ.2.2.1 17 x ∧ 0 ≤ σ.2.2.1 18 x ∧ (σ.2.2.1 19 x = 0 ∨ σ.2.2.1 19 x = 1)) ∧ (∀ j, j < l → σ.2.2.1 46 j = σ.2.2.1 21 j ∧ σ.2.2.1 48 j = σ.2.2.1 23 j ∧ 0 ≤ σ.2.2.1 23 j) ∧ ∀ j, j < ch → σ.2.2.1 49 j = σ.2.2.1 24 j ∧ σ.2.2.1 50 j = σ.2.2.1 25 j
def Inv (σ : ex_S) : Prop := (∃ n m nr nd t h wt ha al so, iW σ n m nr nd t h wt ha al so ∧ iP σ n ∧ iN σ n) ∧ ∃ s l ch cp fr to, iS σ s l ch cp fr to
/-- an answer of both -/
def gd (k v : Int32) (σ : ex_S) : Prop := Inv σ ∧ σ.1 500 = k ∧ (k = 0 → σ.2.2.2 58 0 = v.toInt64)
def pr2 (d Wm : Nat) (wa : List Value) (Mm : Nat) (ma : List Value) (σ : ex_S) (Q : Int32 → Int32 → ex_S → Prop) : Prop := ex_C d Wm wa σ (fun o σ1 => ∃ k, o = .inl (some (.int k)) ∧ ex_C d Mm ma σ1 (fun o2 σ2 => ∃ v, o2 = .inl (some (.int v)) ∧ Q k v σ2))
theorem inv_thr {σ : ex_S} (v : Int32) (h : Inv σ) : Inv (ex_sF σ 500 v) := h
theorem inv_out {σ : ex_S} (v : Int64) (h : Inv σ) : Inv (ex_sB σ 58 0 v) := h
theorem iW_fr {σ τ : ex_S} {n m : Nat} {nr nd t h wt ha al : Nat → Nat} {so : Nat → Bool} (h1 : τ.1 306 = σ.1 306) (h2 : τ.1 307 = σ.1 307) (h3 : τ.1 505 = σ.1 505) (h4 : τ.1 509 = σ.1 509) (hr : ∀ r, 27 ≤ r → r ≤ 39 → τ.2.2.1 r = σ.2.2.1 r) (hi : iW σ n m nr nd t h wt ha al so) : iW τ n m nr nd t h wt ha al so := by
  unfold iW wk_at md_at wS mW at hi ⊢
  rw [h1, h2, h3, h4, hr 27 (by decide) (by decide), hr 28 (by decide) (by decide), hr 29 (by decide) (by decide), hr 30 (by decide) (by decide), hr 31 (by decide) (by decide), hr 32 (by decide) (by decide), hr 33 (by decide) (by decide), hr 34 (by decide) (by decide), hr 35 (by decide) (by decide), hr 36 (by decide) (by decide), hr 37 (by decide) (by decide), hr 38 (by decide) (by decide), hr 39 (by decide) (by decide)]
  exact hi
theorem iN_fr {σ τ : ex_S} {n : Nat} (h1 : ∀ j, 2 ≤ j → j ≤ 8 → τ.1 j = σ.1 j) (h2 : ∀ j, 532 ≤ j → j ≤ 535 → τ.1 j = σ.1 j) (h3 : τ.2.2.1 6 = σ.2.2.1 6) (h4 : ∀ r, 55 ≤ r → r ≤ 57 → τ.2.2.1 r = σ.2.2.1 r) (hi : iN σ n) : iN τ n := by
  unfold iN iQ at hi ⊢
  rw [h1 2 (by decide) (by decide), h1 3 (by decide) (by decide), h1 4 (by decide) (by decide), h1 5 (by decide) (by decide), h1 6 (by decide) (by decide), h1 7 (by decide) (by decide), h1 8 (by decide) (by decide), h2 532 (by decide) (by decide), h2 533 (by decide) (by decide), h2 534 (by decide) (by decide), h2 535 (by decide) (by decide), h3, h4 55 (by decide) (by decide), h4 56 (by decide) (by decide), h4 57 (by decide) (by decide)]
  exact hi
theorem iS_fr {σ τ : ex_S} {s l ch : Nat} {cp fr to : Nat → Nat} (h1 : ∀ j, 211 ≤ j → j ≤ 213 → τ.1 j = σ.1 j) (h2 : ∀ j, 515 ≤ j → j ≤ 523 → τ.1 j = σ.1 j) (h3 : ∀ r, 16 ≤ r → r ≤ 25 → τ.2.2.1 r = σ.2.2.1 r) (h4 : ∀ r, 41 ≤ r → r ≤ 50 → τ.2.2.1 r = σ.2.2.1 r) (hi : iS σ s l ch cp fr to) : iS τ s l ch cp fr to := by
  unfold iS sc sm at hi ⊢
  rw [h1 211 (by decide) (by decide), h1 212 (by decide) (by decide), h1 213 (by decide) (by decide), h2 515 (by decide) (by decide), h2 520 (by decide) (by decide), h2 523 (by decide) (by decide), h3 16 (by decide) (by decide), h3 17 (by decide) (by decide), h3 18 (by decide) (by decide), h3 19 (by decide) (by decide), h3 20 (by decide) (by decide), h3 21 (by decide) (by decide), h3 22 (by decide) (by decide), h3 23 (by decide) (by decide), h3 24 (by decide) (by decide), h3 25 (by decide) (by decide), h4 41 (by decide) (by decide), h4 42 (by decide) (by decide), h4 43 (by decide) (by decide), h4 44 (by decide) (by decide), h4 45 (by decide) (by decide), h4 46 (by decide) (by decide), h4 47 (by decide) (by decide), h4 48 (by decide) (by decide), h4 49 (by decide) (by decide), h4 50 (by decide) (by decide)]
  exact hi
/-! tests -/
theorem c_within {d : Nat} {E : ex_O → ex_S → Prop} {σ : ex_S} (v a b : Int32) : ex_C (d + 1) 71 [.int v, .int a, .int b] σ E = E (.inl (some (.int (if a ≤ v ∧ v ≤ b then 1 else 0)))) σ := by
  simp only [r_X4_isWithin, r_X4_isWithin_0, r_X4_isWithin_1, r_X4_isWithin_2, r_X4_isWithin_5, r_X4_isWithin_6, r_X4_isWithin_7, r_X4_isWithin_10, r_X4_isWithin_11, r_X4_isWithin_14, r_X4_isWithin_15]
  by_cases h1 : v < a
  · have h3 : ¬ a ≤ v := Int32.not_le.mpr h1
    simp [h1, h3, tl_b0]
  · have h3 : a ≤ v := Int32.not_lt.mp h1
    by_cases h2 : b < v
    · have h4 : ¬ v ≤ b := Int32.not_le.mpr h2
      simp [h1, h2, h4, tl_b0]
    · have h4 : v ≤ b := Int32.not_lt.mp h2
      simp [h1, h2, h3, h4, tl_b1]
theorem c_reqW {d : Nat} {E : ex_O → ex_S → Prop} {σ : ex_S} {n k : Nat} (hn : n ≤ 8) (h : σ.1 306 = nI n) (hk : k < n) : ex_C (d + 1) 72 [.ref 4, .int (nI k)] σ E = E (.inl none) σ := by
  simp only [r_X4_requireWork, r_X4_requireWork_0, r_X4_requireWork_1, r_X4_requireWork_4, r_X4_requireWork_5, r_X4_requireWork_6, r_X4_requireWork_9, r_X4_requireWork_12, r_X4_requireWork_15, r_X4_requireWork_25, h, tl_lt0 (show k < 2 ^ 31 by omega), if_false, tl_lt (show k < 2 ^ 31 by omega) (show n < 2 ^ 31 by omega), if_pos hk]
theorem c_reqWT {d : Nat} {E : ex_O → ex_S → Prop} {σ : ex_S} {n : Nat} {v : Int32} (hn : n ≤ 8) (h : σ.1 306 = nI n) (hv : ¬ vp_in v n) : ex_C (d + 1) 72 [.ref 4, .int v] σ E = E (.inr "java/lang/IndexOutOfBoundsException") σ := by
  simp only [r_X4_requireWork, r_X4_requireWork_0, r_X4_requireWork_1, r_X4_requireWork_4, r_X4_requireWork_5, r_X4_requireWork_6, r_X4_requireWork_9, r_X4_requireWork_12, r_X4_requireWork_15, r_X4_requireWork_25, h, Nat.le_refl, true_and]
  rcases (tl_wout (n := n) (by omega)).mpr hv with q | q
  · rw [if_pos q]
  · by_cases q2 : v < 0
    · rw [if_pos q2]
    · rw [if_neg q2, if_neg (Int32.not_lt.mpr q)]
theorem c_reqS {d : Nat} {E : ex_O → ex_S → Prop} {σ : ex_S} {n k : Nat} (hn : n ≤ 6) (h : σ.1 211 = nI n) (hk : k < n) : ex_C (d + 1) 73 [.ref 4, .int (nI k)] σ E = E (.inl none) σ := by
  simp only [r_X4_requireStore, r_X4_requireStore_0, r_X4_requireStore_1, r_X4_requireStore_4, r_X4_requireStore_5, r_X4_requireStore_6, r_X4_requireStore_9, r_X4_requireStore_12, r_X4_requireStore_15, r_X4_requireStore_25, h, tl_lt0 (show k < 2 ^ 31 by omega), if_false, tl_lt (show k < 2 ^ 31 by omega) (show n < 2 ^ 31 by omega), if_pos hk]
theorem c_reqST {d : Nat} {E : ex_O → ex_S → Prop} {σ : ex_S} {n : Nat} {v : Int32} (hn : n ≤ 6) (h : σ.1 211 = nI n) (hv : ¬ vp_in v n) : ex_C (d + 1) 73 [.ref 4, .int v] σ E = E (.inr "java/lang/IndexOutOfBoundsException") σ := by
  simp only [r_X4_requireStore, r_X4_requireStore_0, r_X4_requireStore_1, r_X4_requireStore_4, r_X4_requireStore_5, r_X4_requireStore_6, r_X4_requireStore_9, r_X4_requireStore_12, r_X4_requireStore_15, r_X4_requireStore_25, h, Nat.le_refl, true_and]
  rcases (tl_wout (n := n) (by omega)).mpr hv with q | q
  · rw [if_pos q]
  · by_cases q2 : v < 0
    · rw [if_pos q2]
    · rw [if_neg q2, if_neg (Int32.not_lt.mpr q)]
theorem c_reqTick {d : Nat} {E : ex_O → ex_S → Prop} {σ : ex_S} {v : Int32} (hv : (0 : Int32) ≤ v ∧ v ≤ 100000) : ex_C (d + 2) 74 [.int v] σ E = E (.inl none) σ := by
  simp only [r_X4_requireTick, r_X4_requireTick_0, r_X4_requireTick_1, r_X4_requireTick_2, r_X4_requireTick_4, r_X4_requireTick_7, r_X4_requireTick_10, r_X4_requireTick_20, c_within, if_pos hv, Option.toList, List.cons_append, List.nil_append, i10, if_false]
theorem c_reqTickT {d : Nat} {E : ex_O → ex_S → Prop} {σ : ex_S} {v : Int32} (hv : ¬ ((0 : Int32) ≤ v ∧ v ≤ 100000)) : ex_C (d + 2) 74 [.int v] σ E = E (.inr "java/lang/IllegalArgumentException") σ := by
  simp only [r_X4_requireTick, r_X4_requireTick_0, r_X4_requireTick_1, r_X4_requireTick_2, r_X4_requireTick_4, r_X4_requireTick_7, r_X4_requireTick_10, r_X4_requireTick_20, c_within, if_neg hv, Option.toList, List.cons_append, List.nil_append, if_true, Nat.le_refl, true_and]
theorem c_reqH {d : Nat} {E : ex_O → ex_S → Prop} {σ : ex_S} {v : Int32} (hv : (1 : Int32) ≤ v ∧ v ≤ 8) : ex_C (d + 2) 75 [.int v] σ E = E (.inl none) σ := by
  simp only [r_X4_requireHands, r_X4_requireHands_0, r_X4_requireHands_1, r_X4_requireHands_2, r_X4_requireHands_4, r_X4_requireHands_7, r_X4_requireHands_10, r_X4_requireHands_20, c_within, if_pos hv, Option.toList, List.cons_append, List.nil_append, i10, if_false]
theorem c_reqHT {d : Nat} {E : ex_O → ex_S → Prop} {σ : ex_S} {v : Int32} (hv : ¬ ((1 : Int32) ≤ v ∧ v ≤ 8)) : ex_C (d + 2) 75 [.int v] σ E = E (.inr "java/lang/IllegalArgumentException") σ := by
  simp only [r_X4_requireHands, r_X4_requireHands_0, r_X4_requireHands_1, r_X4_requireHands_2, r_X4_requireHands_4, r_X4_requireHands_7, r_X4_requireHands_10, r_X4_requireHands_20, c_within, if_neg hv, Option.toList, List.cons_append, List.nil_append, if_true, Nat.le_refl, true_and]
theorem c_reqN {d : Nat} {E : ex_O → ex_S → Prop} {σ : ex_S} (h : σ.1 2 = 1) : ex_C (d + 1) 76 [.ref 4] σ E = E (.inl none) σ := by
  simp only [r_X4_requireNight, r_X4_requireNight_0, r_X4_requireNight_1, r_X4_requireNight_4, r_X4_requireNight_7, r_X4_requireNight_10, r_X4_requireNight_20, h, i10, if_false]
theorem c_reqNT {d : Nat} {E : ex_O → ex_S → Prop} {σ : ex_S} (h : σ.1 2 = 0) : ex_C (d + 1) 76 [.ref 4] σ E = E (.inr "java/lang/IllegalStateException") σ := by
  simp only [r_X4_requireNight, r_X4_requireNight_0, r_X4_requireNight_1, r_X4_requireNight_4, r_X4_requireNight_7, r_X4_requireNight_10, r_X4_requireNight_20, h, if_true, Nat.le_refl, true_and]
theorem c_endPN {d : Nat} {E : ex_O → ex_S → Prop} {σ : ex_S} : ex_C (d + 1) 70 [.ref 4] σ E = E (.inl none) (ex_sF (ex_sF σ 110 0) 2 0) := by
  simp only [r_X4_endPlanAndNight, r_X4_endPlanAndNight_0, r_X4_endPlanAndNight_1, r_X4_endPlanAndNight_4, r_X4_endPlanAndNight_5, r_X4_endPlanAndNight_8, r_X4_endPlanAndNight_9, r_X4_endPlanAndNight_12, r_X4_endPlanAndNight_13, r_X4_endPlanAndNight_16, tl_b0, true_and]
theorem c_mends {d : Nat} {E : ex_O → ex_S → Prop} {σ : ex_S} : ex_C (d + 1) 81 [.ref 5] σ E = E (.inl none) (ex_sF (ex_sF σ 532 0) 525 0) := by
  simp only [r_X5_ends, r_X5_ends_0, r_X5_ends_1, r_X5_ends_2, r_X5_ends_5, r_X5_ends_6, r_X5_ends_7, r_X5_ends_10, tl_b0, true_and]
theorem c_thrown {d : Nat} {E : ex_O → ex_S → Prop} {σ : ex_S} : ex_C (d + 1) 77 [.ref 5] σ E = E (.inl (some (.int (σ.1 500)))) σ := by
  simp only [r_X5_thrown, r_X5_thrown_0, r_X5_thrown_1, r_X5_thrown_4]
theorem xc_begin_1 (x1 : Int32) (x2 : Int32) (k : Nat → List Value → List Value → Prop) (o : Prop) : ex_exc ex_m_L_begin 5 [.ref 4, .int x1, .int x2, .ref 58, .retAddr 0] "java/lang/IndexOutOfBoundsException" k o = k 22 [.ref 4, .int x1, .int x2, .ref 58, .retAddr 0] [] := rfl
theorem xc_begin_2 (x1 : Int32) (x2 : Int32) (k : Nat → List Value → List Value → Prop) (o : Prop) : ex_exc ex_m_L_begin 5 [.ref 4, .int x1, .int x2, .ref 58, .retAddr 0] "java/lang/IllegalStateException" k o = k 26 [.ref 4, .int x1, .int x2, .ref 58, .retAddr 0] [] := rfl
theorem xc_begins_1 (x1 : Int32) (k : Nat → List Value → List Value → Prop) (o : Prop) : ex_exc ex_m_L_begins 4 [.ref 4, .int x1, .ref 58, .retAddr 0] "java/lang/IndexOutOfBoundsException" k o = k 13 [.ref 4, .int x1, .ref 58, .retAddr 0] [] := rfl
theorem xc_blow_1 (x1 : Int32) (k : Nat → List Value → List Value → Prop) (o : Prop) : ex_exc ex_m_L_blow 4 [.ref 4, .int x1, .ref 58, .retAddr 0] "java/lang/IndexOutOfBoundsException" k o = k 13 [.ref 4, .int x1, .ref 58, .retAddr 0] [] := rfl
theorem xc_blow_2 (x1 : Int32) (k : Nat → List Value → List Value → Prop) (o : Prop) : ex_exc ex_m_L_blow 4 [.ref 4, .int x1, .ref 58, .retAddr 0] "java/lang/IllegalStateException" k o = k 16 [.ref 4, .int x1, .ref 58, .retAddr 0] [] := rfl
theorem xc_change_1 (x1 : Int32) (x2 : Int32) (k : Nat → List Value → List Value → Prop) (o : Prop) : ex_exc ex_m_L_change 5 [.ref 4, .int x1, .int x2, .ref 58, .retAddr 0] "java/lang/IndexOutOfBoundsException" k o = k 15 [.ref 4, .int x1, .int x2, .ref 58, .retAddr 0] [] := rfl
theorem xc_change_2 (x1 : Int32) (x2 : Int32) (k : Nat → List Value → List Value → Prop) (o : Prop) : ex_exc ex_m_L_change 5 [.ref 4, .int x1, .int x2, .ref 58, .retAddr 0] "java/lang/IllegalArgumentException" k o = k 19 [.ref 4, .int x1, .int x2, .ref 58, .retAddr 0] [] := rfl
theorem xc_change_3 (x1 : Int32) (x2 : Int32) (k : Nat → List Value → List Value → Prop) (o : Prop) : ex_exc ex_m_L_change 5 [.ref 4, .int x1, .int x2, .ref 58, .retAddr 0] "java/lang/UnsupportedOperationException" k o = k 23 [.ref 4, .int x1, .int x2, .ref 58, .retAddr 0] [] := rfl
theorem xc_copy_1 (x1 : Int32) (x2 : Int32) (x3 : Int32) (k : Nat → List Value → List Value → Prop) (o : Prop) : ex_exc ex_m_L_copy 7 [.ref 4, .int x1, .int x2, .int x3, .ref 58, .retAddr 0] "java/lang/IndexOutOfBoundsException" k o = k 17 [.ref 4, .int x1, .int x2, .int x3, .ref 58, .retAddr 0] [] := rfl
theorem xc_copy_2 (x1 : Int32) (x2 : Int32) (x3 : Int32) (k : Nat → List Value → List Value → Prop) (o : Prop) : ex_exc ex_m_L_copy 7 [.ref 4, .int x1, .int x2, .int x3, .ref 58, .retAddr 0] "java/lang/IllegalArgumentException" k o = k 21 [.ref 4, .int x1, .int x2, .int x3, .ref 58, .retAddr 0] [] := rfl
theorem xc_copy_3 (x1 : Int32) (x2 : Int32) (x3 : Int32) (k : Nat → List Value → List Value → Prop) (o : Prop) : ex_exc ex_m_L_copy 7 [.ref 4, .int x1, .int x2, .int x3, .ref 58, .retAddr 0] "java/lang/UnsupportedOperationException" k o = k 25 [.ref 4, .int x1, .int x2, .int x3, .ref 58, .retAddr 0] [] := rfl
theorem xc_fail_1 (x1 : Int32) (k : Nat → List Value → List Value → Prop) (o : Prop) : ex_exc ex_m_L_fail 4 [.ref 4, .int x1, .ref 58, .retAddr 0] "java/lang/IndexOutOfBoundsException" k o = k 20 [.ref 4, .int x1, .ref 58, .retAddr 0] [] := rfl
theorem xc_fail_2 (x1 : Int32) (k : Nat → List Value → List Value → Prop) (o : Prop) : ex_exc ex_m_L_fail 4 [.ref 4, .int x1, .ref 58, .retAddr 0] "java/lang/IllegalStateException" k o = k 23 [.ref 4, .int x1, .ref 58, .retAddr 0] [] := rfl
theorem xc_hangs_1 (x1 : Int32) (k : Nat → List Value → List Value → Prop) (o : Prop) : ex_exc ex_m_L_hangs 4 [.ref 4, .int x1, .ref 58, .retAddr 0] "java/lang/IndexOutOfBoundsException" k o = k 13 [.ref 4, .int x1, .ref 58, .retAddr 0] [] := rfl
theorem xc_letter_1 (x1 : Int32) (x2 : Int32) (x3 : Int32) (x4 : Int32) (k : Nat → List Value → List Value → Prop) (o : Prop) : ex_exc ex_m_L_letter 9 [.ref 4, .int x1, .int x2, .int x3, .int x4, .ref 58, .retAddr 0] "java/lang/IndexOutOfBoundsException" k o = k 19 [.ref 4, .int x1, .int x2, .int x3, .int x4, .ref 58, .retAddr 0] [] := rfl
theorem xc_letter_2 (x1 : Int32) (x2 : Int32) (x3 : Int32) (x4 : Int32) (k : Nat → List Value → List Value → Prop) (o : Prop) : ex_exc ex_m_L_letter 9 [.ref 4, .int x1, .int x2, .int x3, .int x4, .ref 58, .retAddr 0] "java/lang/IllegalArgumentException" k o = k 23 [.ref 4, .int x1, .int x2, .int x3, .int x4, .ref 58, .retAddr 0] [] := rfl
theorem xc_letter_3 (x1 : Int32) (x2 : Int32) (x3 : Int32) (x4 : Int32) (k : Nat → List Value → List Value → Prop) (o : Prop) : ex_exc ex_m_L_letter 9 [.ref 4, .int x1, .int x2, .int x3, .int x4, .ref 58, .retAddr 0] "java/lang/UnsupportedOperationException" k o = k 27 [.ref 4, .int x1, .int x2, .int x3, .int x4, .ref 58, .retAddr 0] [] := rfl
theorem xc_look_1 (x1 : Int32) (x2 : Int32) (k : Nat → List Value → List Value → Prop) (o : Prop) : ex_exc ex_m_L_look 5 [.ref 4, .int x1, .int x2, .ref 58, .retAddr 0] "java/lang/IndexOutOfBoundsException" k o = k 15 [.ref 4, .int x1, .int x2, .ref 58, .retAddr 0] [] := rfl
theorem xc_look_2 (x1 : Int32) (x2 : Int32) (k : Nat → List Value → List Value → Prop) (o : Prop) : ex_exc ex_m_L_look 5 [.ref 4, .int x1, .int x2, .ref 58, .retAddr 0] "java/lang/IllegalStateException" k o = k 19 [.ref 4, .int x1, .int x2, .ref 58, .retAddr 0] [] := rfl
theorem xc_look_3 (x1 : Int32) (x2 : Int32) (k : Nat → List Value → List Value → Prop) (o : Prop) : ex_exc ex_m_L_look 5 [.ref 4, .int x1, .int x2, .ref 58, .retAddr 0] "java/util/NoSuchElementException" k o = k 23 [.ref 4, .int x1, .int x2, .ref 58, .retAddr 0] [] := rfl
theorem xc_lost_1 (x1 : Int32) (k : Nat → List Value → List Value → Prop) (o : Prop) : ex_exc ex_m_L_lost 4 [.ref 4, .int x1, .ref 58, .retAddr 0] "java/lang/IndexOutOfBoundsException" k o = k 13 [.ref 4, .int x1, .ref 58, .retAddr 0] [] := rfl
theorem xc_need_1 (x1 : Int32) (x2 : Int32) (x3 : Int32) (k : Nat → List Value → List Value → Prop) (o : Prop) : ex_exc ex_m_L_need 7 [.ref 4, .int x1, .int x2, .int x3, .ref 58, .retAddr 0] "java/lang/IndexOutOfBoundsException" k o = k 17 [.ref 4, .int x1, .int x2, .int x3, .ref 58, .retAddr 0] [] := rfl
theorem xc_need_2 (x1 : Int32) (x2 : Int32) (x3 : Int32) (k : Nat → List Value → List Value → Prop) (o : Prop) : ex_exc ex_m_L_need 7 [.ref 4, .int x1, .int x2, .int x3, .ref 58, .retAddr 0] "java/lang/IllegalArgumentException" k o = k 21 [.ref 4, .int x1, .int x2, .int x3, .ref 58, .retAddr 0] [] := rfl
theorem xc_need_3 (x1 : Int32) (x2 : Int32) (x3 : Int32) (k : Nat → List Value → List Value → Prop) (o : Prop) : ex_exc ex_m_L_need 7 [.ref 4, .int x1, .int x2, .int x3, .ref 58, .retAddr 0] "java/lang/UnsupportedOperationException" k o = k 25 [.ref 4, .int x1, .int x2, .int x3, .ref 58, .retAddr 0] [] := rfl
theorem xc_night_1 (x1 : Int32) (k : Nat → List Value → List Value → Prop) (o : Prop) : ex_exc ex_m_L_night 2 [.ref 4, .int x1, .retAddr 0] "java/lang/IllegalArgumentException" k o = k 9 [.ref 4, .int x1, .retAddr 0] [] := rfl
theorem xc_now_1 (x1 : Int32) (k : Nat → List Value → List Value → Prop) (o : Prop) : ex_exc ex_m_L_now 4 [.ref 4, .int x1, .ref 58, .retAddr 0] "java/lang/IllegalStateException" k o = k 13 [.ref 4, .int x1, .ref 58, .retAddr 0] [] := rfl
theorem xc_now_2 (x1 : Int32) (k : Nat → List Value → List Value → Prop) (o : Prop) : ex_exc ex_m_L_now 4 [.ref 4, .int x1, .ref 58, .retAddr 0] "java/util/NoSuchElementException" k o = k 16 [.ref 4, .int x1, .ref 58, .retAddr 0] [] := rfl
theorem xc_plan_1 (x1 : Int32) (x2 : Int32) (k : Nat → List Value → List Value → Prop) (o : Prop) : ex_exc ex_m_L_plan 5 [.ref 4, .int x1, .int x2, .ref 58, .retAddr 0] "java/lang/IllegalArgumentException" k o = k 15 [.ref 4, .int x1, .int x2, .ref 58, .retAddr 0] [] := rfl
theorem xc_state_1 (x1 : Int32) (k : Nat → List Value → List Value → Prop) (o : Prop) : ex_exc ex_m_L_state 4 [.ref 4, .int x1, .ref 58, .retAddr 0] "java/lang/IndexOutOfBoundsException" k o = k 13 [.ref 4, .int x1, .ref 58, .retAddr 0] [] := rfl
theorem xc_steps_1 (x1 : Int32) (x2 : Int32) (k : Nat → List Value → List Value → Prop) (o : Prop) : ex_exc ex_m_L_steps 5 [.ref 4, .int x1, .int x2, .ref 58, .retAddr 0] "java/lang/IndexOutOfBoundsException" k o = k 15 [.ref 4, .int x1, .int x2, .ref 58, .retAddr 0] [] := rfl
theorem xc_store_1  (k : Nat → List Value → List Value → Prop) (o : Prop) : ex_exc ex_m_L_store 3 [.ref 4, .ref 58, .retAddr 0] "java/lang/UnsupportedOperationException" k o = k 12 [.ref 4, .ref 58, .retAddr 0] [] := rfl
theorem xc_tick_1 (x1 : Int32) (k : Nat → List Value → List Value → Prop) (o : Prop) : ex_exc ex_m_L_tick 4 [.ref 4, .int x1, .ref 58, .retAddr 0] "java/lang/IllegalStateException" k o = k 13 [.ref 4, .int x1, .ref 58, .retAddr 0] [] := rfl
theorem xc_tick_2 (x1 : Int32) (k : Nat → List Value → List Value → Prop) (o : Prop) : ex_exc ex_m_L_tick 4 [.ref 4, .int x1, .ref 58, .retAddr 0] "java/lang/IllegalArgumentException" k o = k 16 [.ref 4, .int x1, .ref 58, .retAddr 0] [] := rfl
theorem xc_torn_1 (x1 : Int32) (x2 : Int32) (x3 : Int32) (k : Nat → List Value → List Value → Prop) (o : Prop) : ex_exc ex_m_L_torn 7 [.ref 4, .int x1, .int x2, .int x3, .ref 58, .retAddr 0] "java/lang/IndexOutOfBoundsException" k o = k 24 [.ref 4, .int x1, .int x2, .int x3, .ref 58, .retAddr 0] [] := rfl
theorem xc_work_1 (x1 : Int32) (x2 : Int32) (x3 : Int32) (x4 : Int32) (k : Nat → List Value → List Value → Prop) (o : Prop) : ex_exc ex_m_L_work 9 [.ref 4, .int x1, .int x2, .int x3, .int x4, .ref 58, .retAddr 0] "java/lang/IllegalArgumentException" k o = k 19 [.ref 4, .int x1, .int x2, .int x3, .int x4, .ref 58, .retAddr 0] [] := rfl
theorem xc_work_2 (x1 : Int32) (x2 : Int32) (x3 : Int32) (x4 : Int32) (k : Nat → List Value → List Value → Prop) (o : Prop) : ex_exc ex_m_L_work 9 [.ref 4, .int x1, .int x2, .int x3, .int x4, .ref 58, .retAddr 0] "java/lang/UnsupportedOperationException" k o = k 23 [.ref 4, .int x1, .int x2, .int x3, .int x4, .ref 58, .retAddr 0] [] := rfl
end IV
