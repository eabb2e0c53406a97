/-! ===== the machine does what the pure machine does: one instruction ===== -/
section EXE
theorem ex_p1_e {st : List Value} {k : Int32 → List Value → Prop} (h : ex_p1 st k) : ∃ x r, st = .int x :: r ∧ k x r := by
  unfold ex_p1 at h; split at h
  · exact ⟨_, _, rfl, h⟩
  · exact h.elim
theorem ex_p2_e {st : List Value} {k : Int32 → Int32 → List Value → Prop} (h : ex_p2 st k) : ∃ x y r, st = .int y :: .int x :: r ∧ k x y r := by
  unfold ex_p2 at h; split at h
  · exact ⟨_, _, _, rfl, h⟩
  · exact h.elim
theorem ex_pl_e {st : List Value} {k : Int64 → List Value → Prop} (h : ex_pl st k) : ∃ x r, st = .long x :: r ∧ k x r := by
  unfold ex_pl at h; split at h
  · exact ⟨_, _, rfl, h⟩
  · exact h.elim
theorem ex_pll_e {st : List Value} {k : Int64 → Int64 → List Value → Prop} (h : ex_pll st k) : ∃ x y r, st = .long y :: .long x :: r ∧ k x y r := by
  unfold ex_pll at h; split at h
  · exact ⟨_, _, _, rfl, h⟩
  · exact h.elim
theorem ex_pli_e {st : List Value} {k : Int64 → Int32 → List Value → Prop} (h : ex_pli st k) : ∃ x y r, st = .int y :: .long x :: r ∧ k x y r := by
  unfold ex_pli at h; split at h
  · exact ⟨_, _, _, rfl, h⟩
  · exact h.elim
theorem ex_pr_e {st : List Value} {k : Nat → List Value → Prop} (h : ex_pr st k) : ∃ x r, st = .ref x :: r ∧ k x r := by
  unfold ex_pr at h; split at h
  · exact ⟨_, _, rfl, h⟩
  · exact h.elim
theorem ex_pa_e {st : List Value} {k : Nat → Int32 → List Value → Prop} (h : ex_pa st k) : ∃ a i r, st = .int i :: .ref a :: r ∧ k a i r := by
  unfold ex_pa at h; split at h
  · exact ⟨_, _, _, rfl, h⟩
  · exact h.elim
theorem ex_pai_e {st : List Value} {k : Nat → Int32 → Int32 → List Value → Prop} (h : ex_pai st k) : ∃ a i v r, st = .int v :: .int i :: .ref a :: r ∧ k a i v r := by
  unfold ex_pai at h; split at h
  · exact ⟨_, _, _, _, rfl, h⟩
  · exact h.elim
theorem ex_pal_e {st : List Value} {k : Nat → Int32 → Int64 → List Value → Prop} (h : ex_pal st k) : ∃ a i v r, st = .long v :: .int i :: .ref a :: r ∧ k a i v r := by
  unfold ex_pal at h; split at h
  · exact ⟨_, _, _, _, rfl, h⟩
  · exact h.elim
theorem ex_jmp_e {pc : Nat} {off : Int} {k : Nat → Prop} (h : ex_jmp pc off k) : ∃ t : Nat, (pc : Int) + off = (t : Int) ∧ k t := by
  unfold ex_jmp at h; split at h
  · rename_i t ht
    exact ⟨t, ht, h⟩
  · exact h.elim
theorem ex_ldI_e {lv : List Value} {i : Nat} {k : Int32 → Prop} (h : ex_ldI lv i k) : ∃ x, lv[i]? = some (.int x) ∧ k x := by
  unfold ex_ldI at h; split at h
  · rename_i x hx
    exact ⟨x, hx, h⟩
  · exact h.elim
theorem ex_ldL_e {lv : List Value} {i : Nat} {k : Int64 → Prop} (h : ex_ldL lv i k) : ∃ x, lv[i]? = some (.long x) ∧ k x := by
  unfold ex_ldL at h; split at h
  · rename_i x hx
    exact ⟨x, hx, h⟩
  · exact h.elim
theorem ex_ldR_e {lv : List Value} {i : Nat} {k : Nat → Prop} (h : ex_ldR lv i k) : ∃ x, lv[i]? = some (.ref x) ∧ k x := by
  unfold ex_ldR at h; split at h
  · rename_i x hx
    exact ⟨x, hx, h⟩
  · exact h.elim
theorem ex_put_e {lg : List Nat} {lv : List Value} {i : Nat} {v : Value} {k : List Value → Prop} (h : ex_put lg lv i v k) : ex_can lg lv.length i = true ∧ k (lv.set i v) := by
  unfold ex_put at h; split at h
  · rename_i hx
    exact ⟨hx, h⟩
  · exact h.elim
theorem ex_getf_e {K idx a : Nat} {σ : ex_S} {k : Value → Prop} (h : ex_getf K idx a σ k) : ∃ ci j ne fs q, ex_find (ex_fld K) idx = some (ci, j, ne) ∧ ex_lay[a]? = some (.inr (ci, fs)) ∧ fs[j]? = some q ∧ k (ex_fa σ q) := by
  unfold ex_getf at h
  split at h
  · rename_i ci j ne h1
    split at h
    · rename_i cj fs h2
      split at h
      · rename_i h3
        subst h3
        split at h
        · rename_i q h4
          exact ⟨_, _, _, _, _, h1, h2, h4, h⟩
        · exact h.elim
      · exact h.elim
    · exact h.elim
  · exact h.elim
theorem ex_putf_e {K idx a : Nat} {k : Nat → Nat → Bool → Prop} (h : ex_putf K idx a k) : ∃ ci j ne fs t n z, ex_find (ex_fld K) idx = some (ci, j, ne) ∧ ex_lay[a]? = some (.inr (ci, fs)) ∧ fs[j]? = some (t, n) ∧ k t n z ∧ ∀ q, ex_cl[ci]? = some q → (q.2.1 j).2.2.2 = false ∧ ((t = 0 ∧ z = false ∧ (q.2.1 j).2.2.1 = "I") ∨ (t = 0 ∧ z = true ∧ (q.2.1 j).2.2.1 = "Z") ∨ (t = 1 ∧ z = false ∧ (q.2.1 j).2.2.1 = "J")) := by
  unfold ex_putf at h
  split at h
  · rename_i ci j ne h1
    split at h
    · rename_i cj fs h2
      split at h
      · rename_i h3
        subst h3
        split at h
        · rename_i n h4
          split at h
          · rename_i q hq
            split at h
            · exact h.elim
            · rename_i hf
              split at h
              · rename_i hd
                exact ⟨_, _, _, _, _, _, _, h1, h2, h4, h, fun q' hq' => by cases hq.symm.trans hq'; exact ⟨by simpa using hf, Or.inl ⟨rfl, rfl, beq_iff_eq.mp hd⟩⟩⟩
              · split at h
                · rename_i hd
                  exact ⟨_, _, _, _, _, _, _, h1, h2, h4, h, fun q' hq' => by cases hq.symm.trans hq'; exact ⟨by simpa using hf, Or.inr (Or.inl ⟨rfl, rfl, beq_iff_eq.mp hd⟩)⟩⟩
                · exact h.elim
          · exact h.elim
        · rename_i n h4
          split at h
          · rename_i q hq
            split at h
            · exact h.elim
            · rename_i hf
              split at h
              · rename_i hd
                exact ⟨_, _, _, _, _, _, _, h1, h2, h4, h, fun q' hq' => by cases hq.symm.trans hq'; exact ⟨by simpa using hf, Or.inr (Or.inr ⟨rfl, rfl, beq_iff_eq.mp hd⟩)⟩⟩
              · exact h.elim
          · exact h.elim
        · exact h.elim
      · exact h.elim
    · exact h.elim
  · exact h.elim
theorem ex_arr_e {kind a : Nat} {k : Nat → Nat → Prop} (h : ex_arr kind a k) : ∃ n id, ex_lay[a]? = some (.inl (kind, n, id)) ∧ k n id := by
  unfold ex_arr at h
  split at h
  · rename_i kd n id h1
    split at h
    · rename_i h2
      subst h2
      exact ⟨_, _, h1, h⟩
    · exact h.elim
  · exact h.elim
theorem ex_room_e {st : List Value} (h : ex_room st = true) (ad : Nat → Nat) : ((st.map (ex_cv ad)).map fun v => v.category).sum ≤ 8 := by
  have e : (st.map (ex_cv ad)).map (fun v => v.category) = st.map fun v => v.category := by
    rw [List.map_map]
    exact List.map_congr_left (fun v _ => ex_cvc v)
  rw [e]
  exact Nat.le_of_ble_eq_true h
theorem ex_bool_n {v : Int32} (h : ex_bool v) : narrow .boolean (.int v) = .int v ∧ fits .boolean (.int v) = true ∧ vp_nar .boolean v = v := by
  rcases h with rfl | rfl <;> decide +kernel
theorem ex_hnd_e {K pc : Nat} {x : String} : ∀ {hh : List (Nat × Nat × Nat × Nat)} {h : Nat}, ex_hnd K pc x hh = some h → ∃ pre z suf, hh = pre ++ z :: suf ∧ (z.1 ≤ pc ∧ pc < z.2.1) ∧ z.2.2.1 = h ∧ ex_find (ex_cat K) z.2.2.2 = some x ∧ ∀ y ∈ pre, ¬ (y.1 ≤ pc ∧ pc < y.2.1) ∨ ∃ n, ex_find (ex_cat K) y.2.2.2 = some n ∧ n ≠ x
  | [], _, e => by cases e
  | (a, b, g, t) :: r, h, e => by
    unfold ex_hnd at e
    split at e
    · rename_i hc
      rw [Bool.and_eq_true] at hc
      split at e
      · rename_i n hn
        split at e
        · rename_i hx
          cases e
          exact ⟨[], _, r, rfl, ⟨Nat.le_of_ble_eq_true hc.1, Nat.le_of_ble_eq_true hc.2⟩, rfl, by rw [hn, beq_iff_eq.mp hx], fun _ q => nomatch q⟩
        · rename_i hx
          obtain ⟨pre, z, suf, h1, h2, h3, h4, h5⟩ := ex_hnd_e e
          refine ⟨(a, b, g, t) :: pre, z, suf, by rw [h1]; rfl, h2, h3, h4, fun y hy => ?_⟩
          rcases List.mem_cons.mp hy with rfl | hy
          · exact Or.inr ⟨n, hn, fun q => hx (beq_iff_eq.mpr q)⟩
          · exact h5 y hy
      · cases e
    · rename_i hc
      obtain ⟨pre, z, suf, h1, h2, h3, h4, h5⟩ := ex_hnd_e e
      refine ⟨(a, b, g, t) :: pre, z, suf, by rw [h1]; rfl, h2, h3, h4, fun y hy => ?_⟩
      rcases List.mem_cons.mp hy with rfl | hy
      · refine Or.inl (fun q => hc ?_)
        rw [Bool.and_eq_true]
        exact ⟨Nat.ble_eq_true_of_le q.1, Nat.ble_eq_true_of_le q.2⟩
      · exact h5 y hy
end EXE
