/-! ===== the two choices are one; what is lost ===== -/
section SQ
theorem ch1_congr {G H : Nat → Int32 → Int32} {gt st gu su : Nat → Int32} {fr to : Nat → Nat} {s l : Nat} (hG : ∀ k lim, k < s → G k lim = H k lim) (hl : ∀ j, j < l → gt j = gu j ∧ st j = su j ∧ fr j < s ∧ to j < s) : ∀ {r j : Nat} {v u : Nat → Int32} {f : Bool}, j + r = l → (∀ k, k < s → v k = u k) → (ch1 G gt st fr to r j v f).1 = (ch1 H gu su fr to r j u f).1 ∧ ∀ k, k < s → (ch1 G gt st fr to r j v f).2 k = (ch1 H gu su fr to r j u f).2 k
  | 0, j, v, u, f, _, h => ⟨rfl, h⟩
  | r + 1, j, v, u, f, hj, h => by
    obtain ⟨h1, h2, h3, h4⟩ := hl j (by omega)
    have e1 : chC gt st fr to v j = chC gu su fr to u j := by
      unfold chC
      rw [h1, h2, h _ h3, h _ h4]
    have e2 : ∀ k, k < s → upd v (to j) (G (to j) (gt j - 1)) k = upd u (to j) (H (to j) (gu j - 1)) k := by
      intro k hk
      rw [s_u, s_u, hG _ _ h4, h1, h k hk]
    rw [ch1, ch1, e1, hG _ _ h4, h1]
    rw [hG _ _ h4, h1] at e2
    by_cases q : chC gu su fr to u j = true
    · rw [if_pos q, if_pos q]
      by_cases q2 : H (to j) (gu j - 1) = -1
      · rw [if_pos q2, if_pos q2]
        exact ⟨rfl, e2⟩
      · rw [if_neg q2, if_neg q2]
        exact ch1_congr hG hl (by omega) e2
    · rw [if_neg q, if_neg q]
      exact ch1_congr hG hl (by omega) h
theorem ch2_congr {G H : Nat → Int32 → Int32} {gt st gu su : Nat → Int32} {fr to : Nat → Nat} {s l : Nat} (hG : ∀ k lim, k < s → G k lim = H k lim) (hl : ∀ j, j < l → gt j = gu j ∧ st j = su j ∧ fr j < s ∧ to j < s) : ∀ {r : Nat} {v u : Nat → Int32}, (∀ k, k < s → v k = u k) → (ch2 G gt st fr to l r v).1 = (ch2 H gu su fr to l r u).1 ∧ ∀ k, k < s → (ch2 G gt st fr to l r v).2 k = (ch2 H gu su fr to l r u).2 k
  | 0, v, u, h => ⟨rfl, h⟩
  | r + 1, v, u, h => by
    obtain ⟨e1, e2⟩ := ch1_congr hG hl (r := l) (j := 0) (f := false) (by omega) h
    rw [ch2, ch2]
    rcases h1 : ch1 G gt st fr to l 0 v false with ⟨a, x⟩
    rcases h2 : ch1 H gu su fr to l 0 u false with ⟨b, y⟩
    rw [h1, h2] at e1 e2
    simp only at e1 e2
    subst e1
    match a with
    | none => exact ⟨rfl, e2⟩
    | some false => exact ⟨rfl, e2⟩
    | some true => exact ch2_congr hG hl e2
theorem ch0_spec {G : Nat → Int32 → Int32} : ∀ {r k : Nat} {v : Nat → Int32}, ((ch0 G r k v).1 = true ↔ ∀ i, k ≤ i → i < k + r → G i 100000 ≠ -1) ∧ ((ch0 G r k v).1 = true → ∀ i, (k ≤ i → i < k + r → (ch0 G r k v).2 i = G i 100000) ∧ (i < k → (ch0 G r k v).2 i = v i))
  | 0, k, v => ⟨⟨fun _ i h1 h2 => by omega, fun _ => rfl⟩, fun _ i => ⟨fun h1 h2 => by omega, fun _ => rfl⟩⟩
  | r + 1, k, v => by
    rw [ch0]
    by_cases q : G k 100000 = -1
    · rw [if_pos q]
      refine ⟨⟨fun h => by simp at h, fun h => absurd q (h k (Nat.le_refl k) (by omega))⟩, fun h => by simp at h⟩
    · rw [if_neg q]
      obtain ⟨i1, i2⟩ := ch0_spec (G := G) (r := r) (k := k + 1) (v := upd v k (G k 100000))
      refine ⟨?_, ?_⟩
      · rw [i1]
        constructor
        · intro h i h1 h2
          rcases Nat.lt_or_ge k i with q2 | q2
          · exact h i q2 (by omega)
          · rw [show i = k by omega]
            exact q
        · intro h i h1 h2
          exact h i (by omega) (by omega)
      · intro h i
        obtain ⟨j1, j2⟩ := i2 h i
        refine ⟨?_, ?_⟩
        · intro h1 h2
          rcases Nat.lt_or_ge k i with q2 | q2
          · exact j1 q2 (by omega)
          · rw [j2 (by omega), s_u, if_pos (by omega), show i = k by omega]
        · intro h1
          rw [j2 (by omega), s_u, if_neg (by omega)]
theorem mv_spec {G : Nat → Int32 → Int32} {v : Nat → Int32} : ∀ {s k : Nat}, k < s → mv G v s k = G k 100000
  | s + 1, k, h => by
    rw [mv, s_u]
    by_cases e : k = s
    · rw [if_pos e, e]
    · rw [if_neg e]
      exact mv_spec (by omega)
theorem ma_spec {G : Nat → Int32 → Int32} : ∀ {s : Nat}, ma G s = true ↔ ∀ k, k < s → ¬ G k 100000 < 0
  | 0 => ⟨fun _ k hk => by omega, fun _ => rfl⟩
  | s + 1 => by
    rw [ma, Bool.and_eq_true, ma_spec]
    constructor
    · rintro ⟨h1, h2⟩ k hk
      rcases Nat.lt_or_ge k s with q | q
      · exact h1 k q
      · rw [show k = s by omega]
        simpa using h2
    · intro h
      exact ⟨fun k hk => h k (by omega), by simpa using h s (by omega)⟩
theorem ch_same {G H : Nat → Int32 → Int32} {gt st gu su : Nat → Int32} {fr to : Nat → Nat} {s l : Nat} {v u : Nat → Int32} (hG : ∀ k lim, k < s → G k lim = H k lim) (hs : ∀ k lim, k < s → (H k lim < 0 ↔ H k lim = -1)) (hl : ∀ j, j < l → gt j = gu j ∧ st j = su j ∧ fr j < s ∧ to j < s) : (ch G gt st fr to s l v).1 = (chm H gu su fr to s l u).1 ∧ ((ch G gt st fr to s l v).1 = true → ∀ k, k < s → (ch G gt st fr to s l v).2 k = (chm H gu su fr to s l u).2 k) := by
  unfold ch chm
  obtain ⟨h1, h2⟩ := ch0_spec (G := G) (r := s) (k := 0) (v := v)
  by_cases q : (ch0 G s 0 v).1 = true
  · have q2 : ma H s = true := by
      rw [ma_spec]
      intro k hk h3
      have := h1.mp q k (by omega) (by omega)
      rw [hG k _ hk] at this
      exact this ((hs k _ hk).mp h3)
    rw [if_pos q, if_pos q2]
    have e : ∀ k, k < s → (ch0 G s 0 v).2 k = mv H u s k := by
      intro k hk
      rw [mv_spec hk, (h2 q k).1 (by omega) (by omega), hG k _ hk]
    obtain ⟨e1, e2⟩ := ch2_congr hG hl (r := l + 1) e
    exact ⟨e1, fun _ => e2⟩
  · have q2 : ¬ ma H s = true := by
      rw [ma_spec]
      intro h3
      apply q
      rw [h1]
      intro i _ hi h4
      rw [hG i _ (by omega)] at h4
      exact h3 i (by omega) ((hs i _ (by omega)).mpr h4)
    rw [if_neg q, if_neg q2]
    exact ⟨rfl, fun h => by simp at h⟩
def cbh (cr ca : Nat → Int32) (k x : Int32) : Nat → Int32
  | 0 => 0
  | j + 1 => if cr j = k ∧ x < ca j then cbh cr ca k x j + 1 else cbh cr ca k x j
theorem cbh_congr {cr ca cs cb : Nat → Int32} {k x : Int32} : ∀ {c : Nat}, (∀ j, j < c → cr j = cs j ∧ ca j = cb j) → cbh cr ca k x c = cbh cs cb k x c
  | 0, _ => rfl
  | c + 1, h => by rw [cbh, cbh, cbh_congr (fun j hj => h j (by omega)), (h c (by omega)).1, (h c (by omega)).2]
theorem c_changesBehind {d : Nat} {E : ex_O → ex_S → Prop} {σ : ex_S} {c : Nat} {k x : Int32} (hc : c ≤ 80) (h : σ.1 213 = nI c) : ex_C (d + 1) 32 [.ref 2, .int k, .int x] σ E = E (.inl (some (.int (cbh (σ.2.2.1 24) (σ.2.2.1 25) k x c)))) σ := by
  simp only [r_X2_changesBehind, r_X2_changesBehind_0, r_X2_changesBehind_1, r_X2_changesBehind_2, r_X2_changesBehind_3, r_X2_changesBehind_7, r_X2_changesBehind_8, r_X2_changesBehind_11, r_X2_changesBehind_14, r_X2_changesBehind_15, r_X2_changesBehind_18, r_X2_changesBehind_20, r_X2_changesBehind_21, r_X2_changesBehind_22, r_X2_changesBehind_25, r_X2_changesBehind_26, r_X2_changesBehind_29, r_X2_changesBehind_31, r_X2_changesBehind_32, r_X2_changesBehind_33, r_X2_changesBehind_36, r_X2_changesBehind_39, r_X2_changesBehind_42, r_X2_changesBehind_45, r_X2_changesBehind_46]
  refine (tl_for (A := fun i => ex_r none d ex_m_X2_changesBehind E 5 [.ref 2, .int k, .int x, .int (cbh (σ.2.2.1 24) (σ.2.2.1 25) k x i), .int (nI i)] [] σ 0) (n := c) ?_).trans ?_
  · intro i hi R hR
    simp only [r_X2_changesBehind_5]
    simp only [r_X2_changesBehind_0, r_X2_changesBehind_1, r_X2_changesBehind_2, r_X2_changesBehind_3, r_X2_changesBehind_7, r_X2_changesBehind_8, r_X2_changesBehind_11, r_X2_changesBehind_14, r_X2_changesBehind_15, r_X2_changesBehind_18, r_X2_changesBehind_20, r_X2_changesBehind_21, r_X2_changesBehind_22, r_X2_changesBehind_25, r_X2_changesBehind_26, r_X2_changesBehind_29, r_X2_changesBehind_31, r_X2_changesBehind_32, r_X2_changesBehind_33, r_X2_changesBehind_36, r_X2_changesBehind_39, r_X2_changesBehind_42, r_X2_changesBehind_45, r_X2_changesBehind_46, h, tl_in (show i < 80 by omega) (show 80 < 2 ^ 31 by omega), tl_cl (show i < 2 ^ 31 by omega), true_and, nI_1]
    rw [if_neg (nI_ge hi (by omega))]
    subst hR
    rw [cbh]
    by_cases q1 : σ.2.2.1 24 i = k
    · by_cases q2 : x < σ.2.2.1 25 i
      · rw [if_pos q1, if_neg (Int32.not_le.mpr q2), if_pos ⟨q1, q2⟩]
      · rw [if_pos q1, if_pos (Int32.not_lt.mp q2), if_neg (fun q => q2 q.2)]
    · rw [if_neg q1, if_neg (fun q => q1 q.1)]
  · simp only [r_X2_changesBehind_5]
    simp only [r_X2_changesBehind_0, r_X2_changesBehind_1, r_X2_changesBehind_2, r_X2_changesBehind_3, r_X2_changesBehind_7, r_X2_changesBehind_8, r_X2_changesBehind_11, r_X2_changesBehind_14, r_X2_changesBehind_15, r_X2_changesBehind_18, r_X2_changesBehind_20, r_X2_changesBehind_21, r_X2_changesBehind_22, r_X2_changesBehind_25, r_X2_changesBehind_26, r_X2_changesBehind_29, r_X2_changesBehind_31, r_X2_changesBehind_32, r_X2_changesBehind_33, r_X2_changesBehind_36, r_X2_changesBehind_39, r_X2_changesBehind_42, r_X2_changesBehind_45, r_X2_changesBehind_46, h, Int32.le_refl, if_true]
theorem c_noStore {d : Nat} {E : ex_O → ex_S → Prop} {σ : ex_S} {n : Nat} {v : Int32} (hn : n ≤ 6) (h : σ.1 515 = nI n) (hv : vp_in v n) : ex_C (d + 2) 92 [.ref 5, .int v] σ E = E (.inl (some (.int 0))) σ := by
  simp only [r_X5_noStore, r_X5_noStore_0, r_X5_noStore_1, r_X5_noStore_2, r_X5_noStore_3, r_X5_noStore_6, r_X5_noStore_7, r_X5_noStore_8, r_X5_noStore_11, r_X5_noStore_14, r_X5_noStore_15, r_X5_noStore_18, r_X5_noStore_19, h, c_in]
  rw [if_pos ((tl_win (by omega)).mpr hv)]
  simp only [Option.toList, List.cons_append, List.nil_append, r_X5_noStore_0, r_X5_noStore_1, r_X5_noStore_2, r_X5_noStore_3, r_X5_noStore_6, r_X5_noStore_7, r_X5_noStore_8, r_X5_noStore_11, r_X5_noStore_14, r_X5_noStore_15, r_X5_noStore_18, r_X5_noStore_19, i10, if_false, tl_b0, true_and]
theorem c_noStoreT {d : Nat} {E : ex_O → ex_S → Prop} {σ : ex_S} {n : Nat} {v : Int32} (hn : n ≤ 6) (h : σ.1 515 = nI n) (hv : ¬ vp_in v n) : ex_C (d + 2) 92 [.ref 5, .int v] σ E = E (.inl (some (.int 1))) σ := by
  simp only [r_X5_noStore, r_X5_noStore_0, r_X5_noStore_1, r_X5_noStore_2, r_X5_noStore_3, r_X5_noStore_6, r_X5_noStore_7, r_X5_noStore_8, r_X5_noStore_11, r_X5_noStore_14, r_X5_noStore_15, r_X5_noStore_18, r_X5_noStore_19, h, c_in]
  rw [if_neg (fun q => hv ((tl_win (by omega)).mp q))]
  simp only [Option.toList, List.cons_append, List.nil_append, r_X5_noStore_0, r_X5_noStore_1, r_X5_noStore_2, r_X5_noStore_3, r_X5_noStore_6, r_X5_noStore_7, r_X5_noStore_8, r_X5_noStore_11, r_X5_noStore_14, r_X5_noStore_15, r_X5_noStore_18, r_X5_noStore_19, if_true, tl_b1, true_and]
end SQ
