/-! ===== methods: what the pure machine says of a call, the machine does ===== -/
section EXF
variable {ad : Nat → Nat}
theorem ex_args_in : ∀ (a : List Value) (k j : Nat) (v : Value), a.all ex_kn = true → (ex_args a)[j]? = some v → ex_kn v = true → (k + j, ex_cv ad v) ∈ lv_args k (a.map (ex_cv ad))
  | [], _, _, _, _, h, _ => by simp [ex_args] at h
  | w :: t, k, j, v, ha, h, hv => by
    simp only [List.all_cons, Bool.and_eq_true] at ha
    cases w with
    | long x =>
      match j, h with
      | 0, h => simp only [ex_args, List.getElem?_cons_zero, Option.some.injEq] at h; subst h; exact List.mem_cons_self
      | 1, h => simp only [ex_args, List.getElem?_cons_succ, List.getElem?_cons_zero, Option.some.injEq] at h; subst h; cases hv
      | j + 2, h =>
        simp only [ex_args, List.getElem?_cons_succ] at h
        have h9 := ex_args_in t (k + 2) j v ha.2 h hv
        rw [show k + (j + 2) = k + 2 + j by omega]
        exact List.mem_cons_of_mem _ h9
    | int x =>
      match j, h with
      | 0, h => simp only [ex_args, List.getElem?_cons_zero, Option.some.injEq] at h; subst h; exact List.mem_cons_self
      | j + 1, h =>
        simp only [ex_args, List.getElem?_cons_succ] at h
        have h9 := ex_args_in t (k + 1) j v ha.2 h hv
        rw [show k + (j + 1) = k + 1 + j by omega]
        exact List.mem_cons_of_mem _ h9
    | ref x =>
      match j, h with
      | 0, h => simp only [ex_args, List.getElem?_cons_zero, Option.some.injEq] at h; subst h; exact List.mem_cons_self
      | j + 1, h =>
        simp only [ex_args, List.getElem?_cons_succ] at h
        have h9 := ex_args_in t (k + 1) j v ha.2 h hv
        rw [show k + (j + 1) = k + 1 + j by omega]
        exact List.mem_cons_of_mem _ h9
    | null => exact absurd ha.1 (by decide)
    | float x => exact absurd ha.1 (by simp [ex_kn])
    | double x => exact absurd ha.1 (by simp [ex_kn])
    | retAddr x => exact absurd ha.1 (by simp [ex_kn])
theorem ex_args_len : ∀ (a : List Value), a.all ex_kn = true → (lg_sl (a.map (ex_cv ad))).length = (ex_args a).length
  | [], _ => rfl
  | w :: t, ha => by
    simp only [List.all_cons, Bool.and_eq_true] at ha
    have ih := ex_args_len t ha.2
    cases w with
    | long x =>
      show (lg_sl (.long x :: t.map (ex_cv ad))).length = (ex_args t).length + 1 + 1
      rw [← ih]; simp [lg_sl, Value.category]
    | int x =>
      show (lg_sl (.int x :: t.map (ex_cv ad))).length = (ex_args t).length + 1
      rw [← ih]; simp [lg_sl, Value.category]
    | ref x =>
      show (lg_sl (.ref (ad x) :: t.map (ex_cv ad))).length = (ex_args t).length + 1
      rw [← ih]; simp [lg_sl, Value.category]
    | null => exact absurd ha.1 (by decide)
    | float x => exact absurd ha.1 (by simp [ex_kn])
    | double x => exact absurd ha.1 (by simp [ex_kn])
    | retAddr x => exact absurd ha.1 (by simp [ex_kn])
theorem ex_has_0 {μ : ex_MD} {a : List Value} (h : ex_argok μ a = true) : ex_has ad ((lg_sl (a.map (ex_cv ad)) ++ List.replicate (ex_maxL μ - (lg_sl (a.map (ex_cv ad))).length) Slot.unset).toArray) (ex_maxL μ) (ex_lg μ) (ex_pad (ex_maxL μ) (ex_args a)) := by
  unfold ex_argok at h
  simp only [Bool.and_eq_true, List.all_eq_true, List.mem_range] at h
  obtain ⟨⟨h1, h2⟩, h3⟩ := h
  have h1' : a.all ex_kn = true := List.all_eq_true.mpr h1
  have h2' : (ex_args a).length ≤ ex_maxL μ := Nat.le_of_ble_eq_true h2
  have hl := lv_entry (a.map (ex_cv ad)) (n := ex_maxL μ) (by rw [ex_args_len a h1']; exact h2')
  have hpad : ∀ (i : Nat) (v : Value), (ex_pad (ex_maxL μ) (ex_args a))[i]? = some v → (ex_args a)[i]? = some v ∨ v = .retAddr 0 := fun i v hi => by
    unfold ex_pad at hi
    rcases Nat.lt_or_ge i (ex_args a).length with q | q
    · rw [List.getElem?_append_left q] at hi
      exact Or.inl hi
    · rw [List.getElem?_append_right q] at hi
      exact Or.inr (List.mem_replicate.mp (List.mem_of_getElem? hi)).2
  refine ⟨hl.1, hl.2.1, ?_, fun i v hi hk => ?_, fun i x hi => ?_⟩
  · unfold ex_pad
    rw [List.length_append, List.length_replicate]
    omega
  · rcases hpad i v hi with q | q
    · have h9 := ex_args_in (ad := ad) a 0 i v h1' q hk
      rw [Nat.zero_add] at h9
      exact hl.2.2 _ h9
    · subst q; cases hk
  · rcases hpad i _ hi with q | q
    · have h9 := h3 i (List.getElem?_eq_some_iff.mp q).1
      rw [q] at h9
      simpa using h9
    · cases q
theorem ex_site_e {μ : ex_MD} {pc ik : Nat} {x : String} (h : ex_site μ pc ik = some x) : ∃ (is ic : Nat) (text : String), ex_at μ (pc + 3) = some (.dup, 1) ∧ ex_at μ (pc + 4) = some (.ldc is, 2) ∧ ex_at μ (pc + 6) = some (.invokespecial ic, 3) ∧ ex_at μ (pc + 9) = some (.athrow, 1) ∧ (ik, is, ic, x, text) ∈ ex_thr (ex_K μ) := by
  unfold ex_site at h
  split at h
  · rename_i is ic h1 h2 h3 h4
    cases hf : (ex_thr (ex_K μ)).find? (fun q => q.1 == ik && q.2.1 == is && q.2.2.1 == ic) with
    | none => rw [hf] at h; cases h
    | some q =>
      rw [hf] at h
      have e1 := List.find?_some hf
      have e2 := List.mem_of_find?_eq_some hf
      obtain ⟨a1, a2, a3, a4, a5⟩ := q
      simp only [Bool.and_eq_true, beq_iff_eq] at e1
      obtain ⟨⟨rfl, rfl⟩, rfl⟩ := e1
      cases h
      exact ⟨_, _, a5, h1, h2, h3, h4, e2⟩
  · cases h
theorem ex_thr_4 : ∀ K, K < 8 → K ≠ 4 → ex_thr K = [] := by decide +kernel
theorem ex_K4_hh : ∀ μ ∈ ex_mds, ex_K μ = 4 → ex_hh μ = none := by decide +kernel
theorem ex_fit : ∀ n ∈ ex_nms, Bundle.fit n = true := by decide +kernel
end EXF
