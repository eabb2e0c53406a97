/-! ===== the world that a pure state stands for ===== -/
section EXW
def ex_cv (ad : Nat → Nat) : Value → Value
  | .ref k => .ref (ad k)
  | v => v
def ex_fc (ad : Nat → Nat) (σ : ex_S) (q : Nat × Nat) : Value := ex_cv ad (ex_fa σ q)
def ex_cell (G : Nat → ClassId) (ad : Nat → Nat) (σ : ex_S) (x : ex_L) : va_E := match x with
  | .inl (0, n, a) => .inl (G 0, n, .inl (σ.2.2.1 a))
  | .inl (1, n, a) => .inl (G 1, n, .inl (σ.2.2.1 a))
  | .inl (_, n, a) => .inl (G 2, n, .inr (.inl (σ.2.2.2 a)))
  | .inr (ci, fs) => .inr (ci, fs.map (ex_fc ad σ))
def ex_W (G : Nat → ClassId) (ad : Nat → Nat) (σ : ex_S) : va_W := ex_lay.mapIdx (fun k x => (ad k, ex_cell G ad σ x))
def ex_tys (G : Nat → ClassId) : List (ClassId × FieldType) := [(G 0, .int), (G 1, .boolean), (G 2, .long)]
def ex_inj (ad : Nat → Nat) : Prop := ∀ i j, i < 59 → j < 59 → ad i = ad j → i = j
def ex_A (ad : Nat → Nat) (sz : Nat) : Nat → Prop := fun q => (∃ k, k < 59 ∧ ad k = q) ∨ sz ≤ q
variable {G : Nat → ClassId} {ad : Nat → Nat} {σ : ex_S}
theorem ex_W_at {k : Nat} {x : ex_L} (h : ex_lay[k]? = some x) : (ex_W G ad σ)[k]? = some (ad k, ex_cell G ad σ x) := by
  unfold ex_W; rw [List.getElem?_mapIdx, h]; rfl
theorem ex_W_of {k : Nat} {q : Nat × va_E} (h : (ex_W G ad σ)[k]? = some q) : ∃ x, ex_lay[k]? = some x ∧ q = (ad k, ex_cell G ad σ x) := by
  unfold ex_W at h
  rw [List.getElem?_mapIdx] at h
  cases hx : ex_lay[k]? with
  | none => rw [hx] at h; cases h
  | some x => rw [hx] at h; exact ⟨x, rfl, (Option.some.inj h).symm⟩
theorem ex_lay_lt {k : Nat} {x : ex_L} (h : ex_lay[k]? = some x) : k < 59 := by
  have := (List.getElem?_eq_some_iff.mp h).1
  rwa [ex_lay_len] at this
theorem ex_W_set {σ' : ex_S} {k : Nat} {x : ex_L} {e : va_E} (h : ex_lay[k]? = some x) (he : e = ex_cell G ad σ' x) (ho : ∀ (k' : Nat) (x' : ex_L), k' ≠ k → ex_lay[k']? = some x' → ex_cell G ad σ' x' = ex_cell G ad σ x') : (ex_W G ad σ).set k (ad k, e) = ex_W G ad σ' := by
  apply List.ext_getElem?
  intro i
  by_cases hi : i = k
  · subst hi
    rw [List.getElem?_set_self (by unfold ex_W; rw [List.length_mapIdx]; exact (List.getElem?_eq_some_iff.mp h).1), ex_W_at h, he]
  · rw [List.getElem?_set_ne (Ne.symm hi)]
    cases hx : ex_lay[i]? with
    | none =>
      unfold ex_W
      rw [List.getElem?_mapIdx, List.getElem?_mapIdx, hx]; rfl
    | some x' => rw [ex_W_at hx, ex_W_at hx, ho i x' hi hx]
theorem ex_W_D {A : Nat → Prop} (hi : ex_inj ad) (hA : ∀ k, k < 59 → A (ad k)) : va_D A (ex_W G ad σ) := by
  refine ⟨fun i j p q hp hq he => ?_, fun k q hq => ?_⟩
  · obtain ⟨x, h1, rfl⟩ := ex_W_of hp
    obtain ⟨y, h2, rfl⟩ := ex_W_of hq
    exact hi i j (ex_lay_lt h1) (ex_lay_lt h2) he
  · obtain ⟨x, h1, rfl⟩ := ex_W_of hq
    exact hA k (ex_lay_lt h1)
theorem ex_lay_obj {k ci : Nat} {fs : List (Nat × Nat)} (h : ex_lay[k]? = some (.inr (ci, fs))) : ci = k ∧ ci < 6 ∧ ∀ (j t n : Nat), fs[j]? = some (t, n) → j < 100 ∧ ((t = 0 ∨ t = 1) → n = 100 * k + j) := by
  have h1 := ex_okl_all k (ex_lay_lt h)
  unfold ex_okl at h1
  rw [h] at h1
  simp only [Bool.and_eq_true, beq_iff_eq, List.all_eq_true, List.mem_range] at h1
  obtain ⟨⟨⟨h2, h3⟩, h4⟩, h5⟩ := h1
  refine ⟨h2, Nat.le_of_ble_eq_true h3, fun j t n hj => ?_⟩
  have hl := (List.getElem?_eq_some_iff.mp hj).1
  have h6 := h5 j hl
  rw [hj] at h6
  refine ⟨Nat.lt_trans hl (Nat.le_of_ble_eq_true h4), fun ht => ?_⟩
  rcases ht with rfl | rfl
  · exact of_decide_eq_true (by simpa using h6)
  · exact of_decide_eq_true (by simpa using h6)
theorem ex_lay_arr {k kd n id : Nat} (h : ex_lay[k]? = some (.inl (kd, n, id))) : id = k ∧ kd < 3 ∧ n < 1000 := by
  have h1 := ex_okl_all k (ex_lay_lt h)
  unfold ex_okl at h1
  rw [h] at h1
  simp only [Bool.and_eq_true, beq_iff_eq] at h1
  exact ⟨h1.1.1, Nat.le_of_ble_eq_true h1.1.2, Nat.le_of_ble_eq_true h1.2⟩
/-- a state that answers alike at an object's fields gives the same cell -/
theorem ex_cell_obj {σ' : ex_S} {ci : Nat} {fs : List (Nat × Nat)} (h : ∀ (j : Nat) (q : Nat × Nat), fs[j]? = some q → ex_fa σ' q = ex_fa σ q) : ex_cell G ad σ' (.inr (ci, fs)) = ex_cell G ad σ (.inr (ci, fs)) := by
  show Sum.inr (ci, fs.map (ex_fc ad σ')) = Sum.inr (ci, fs.map (ex_fc ad σ))
  congr 2
  apply List.map_congr_left
  intro q hq
  obtain ⟨j, hj⟩ := List.getElem?_of_mem hq
  unfold ex_fc
  rw [h j q hj]
theorem ex_cell_arr {σ' : ex_S} {kd n id : Nat} (h1 : σ'.2.2.1 id = σ.2.2.1 id) (h2 : σ'.2.2.2 id = σ.2.2.2 id) : ex_cell G ad σ' (.inl (kd, n, id)) = ex_cell G ad σ (.inl (kd, n, id)) := by
  unfold ex_cell
  split <;> simp_all
theorem ex_fa_sF {n : Nat} {v : Int32} {q : Nat × Nat} (h : ¬ (q.1 = 0 ∧ q.2 = n)) : ex_fa (ex_sF σ n v) q = ex_fa σ q := by
  obtain ⟨t, m⟩ := q
  unfold ex_fa ex_sF
  match t, h with
  | 0, h => simp only; rw [pk_un (fun e => h ⟨rfl, e⟩)]
  | 1, _ => rfl
  | t + 2, _ => rfl
theorem ex_fa_sG {n : Nat} {v : Int64} {q : Nat × Nat} (h : ¬ (q.1 = 1 ∧ q.2 = n)) : ex_fa (ex_sG σ n v) q = ex_fa σ q := by
  obtain ⟨t, m⟩ := q
  unfold ex_fa ex_sG
  match t, h with
  | 0, _ => rfl
  | 1, h => simp only; rw [pk_uLn (fun e => h ⟨rfl, e⟩)]
  | t + 2, _ => rfl
theorem ex_W_sF {k ci j n : Nat} {fs : List (Nat × Nat)} {v : Int32} (h : ex_lay[k]? = some (.inr (ci, fs))) (hj : fs[j]? = some (0, n)) : (ex_W G ad σ).set k (ad k, .inr (ci, (fs.map (ex_fc ad σ)).set j (.int v))) = ex_W G ad (ex_sF σ n v) := by
  obtain ⟨e1, -, hf⟩ := ex_lay_obj h
  have en := (hf j 0 n hj).2 (Or.inl rfl)
  have hj1 := (hf j 0 n hj).1
  refine ex_W_set h ?_ (fun k' x' hk' hx' => ?_)
  · show Sum.inr (ci, (fs.map (ex_fc ad σ)).set j (.int v)) = Sum.inr (ci, fs.map (ex_fc ad (ex_sF σ n v)))
    congr 2
    apply List.ext_getElem?
    intro i
    rw [List.getElem?_map]
    by_cases hi : i = j
    · subst hi
      rw [List.getElem?_set_self (by rw [List.length_map]; exact (List.getElem?_eq_some_iff.mp hj).1), hj]
      show some (Value.int v) = some (ex_cv ad (.int (upd σ.1 n v n)))
      rw [pk_us]; rfl
    · rw [List.getElem?_set_ne (Ne.symm hi), List.getElem?_map]
      cases hq : fs[i]? with
      | none => rfl
      | some q =>
        show some (ex_fc ad σ q) = some (ex_fc ad (ex_sF σ n v) q)
        unfold ex_fc
        rw [ex_fa_sF (fun z => hi ?_)]
        have := (hf i q.1 q.2 hq).2 (Or.inl z.1)
        omega
  · cases x' with
    | inl a =>
      obtain ⟨kd, m, id⟩ := a
      exact ex_cell_arr rfl rfl
    | inr o =>
      obtain ⟨cj, gs⟩ := o
      obtain ⟨e2, -, hg⟩ := ex_lay_obj hx'
      refine ex_cell_obj (fun i q hq => ex_fa_sF (fun z => hk' ?_))
      have h1 := (hg i q.1 q.2 hq).2 (Or.inl z.1)
      have h2 := (hg i q.1 q.2 hq).1
      omega
theorem ex_W_sG {k ci j n : Nat} {fs : List (Nat × Nat)} {v : Int64} (h : ex_lay[k]? = some (.inr (ci, fs))) (hj : fs[j]? = some (1, n)) : (ex_W G ad σ).set k (ad k, .inr (ci, (fs.map (ex_fc ad σ)).set j (.long v))) = ex_W G ad (ex_sG σ n v) := by
  obtain ⟨e1, -, hf⟩ := ex_lay_obj h
  have en := (hf j 1 n hj).2 (Or.inr rfl)
  have hj1 := (hf j 1 n hj).1
  refine ex_W_set h ?_ (fun k' x' hk' hx' => ?_)
  · show Sum.inr (ci, (fs.map (ex_fc ad σ)).set j (.long v)) = Sum.inr (ci, fs.map (ex_fc ad (ex_sG σ n v)))
    congr 2
    apply List.ext_getElem?
    intro i
    rw [List.getElem?_map]
    by_cases hi : i = j
    · subst hi
      rw [List.getElem?_set_self (by rw [List.length_map]; exact (List.getElem?_eq_some_iff.mp hj).1), hj]
      show some (Value.long v) = some (ex_cv ad (.long (vp_updL σ.2.1 n v n)))
      rw [pk_uLs]; rfl
    · rw [List.getElem?_set_ne (Ne.symm hi), List.getElem?_map]
      cases hq : fs[i]? with
      | none => rfl
      | some q =>
        show some (ex_fc ad σ q) = some (ex_fc ad (ex_sG σ n v) q)
        unfold ex_fc
        rw [ex_fa_sG (fun z => hi ?_)]
        have := (hf i q.1 q.2 hq).2 (Or.inr z.1)
        omega
  · cases x' with
    | inl a =>
      obtain ⟨kd, m, id⟩ := a
      exact ex_cell_arr rfl rfl
    | inr o =>
      obtain ⟨cj, gs⟩ := o
      obtain ⟨e2, -, hg⟩ := ex_lay_obj hx'
      refine ex_cell_obj (fun i q hq => ex_fa_sG (fun z => hk' ?_))
      have h1 := (hg i q.1 q.2 hq).2 (Or.inr z.1)
      have h2 := (hg i q.1 q.2 hq).1
      omega
theorem ex_W_row {k n id : Nat} {f : Nat → Int32} (kd : Nat) (hkd : kd < 2) (h : ex_lay[k]? = some (.inl (kd, n, id))) : (ex_W G ad σ).set k (ad k, .inl (G kd, n, .inl f)) = ex_W G ad (ex_row σ id f) := by
  obtain ⟨e1, -, -⟩ := ex_lay_arr h
  have hs : (ex_row σ id f).2.2.1 id = f := if_pos rfl
  refine ex_W_set h ?_ (fun k' x' hk' hx' => ?_)
  · match kd, hkd with
    | 0, _ => show _ = Sum.inl (G 0, n, Sum.inl ((ex_row σ id f).2.2.1 id)); rw [hs]
    | 1, _ => show _ = Sum.inl (G 1, n, Sum.inl ((ex_row σ id f).2.2.1 id)); rw [hs]
  · cases x' with
    | inl a =>
      obtain ⟨kd', m, id'⟩ := a
      obtain ⟨e2, -, -⟩ := ex_lay_arr hx'
      exact ex_cell_arr (if_neg (fun z => hk' (by omega))) rfl
    | inr o => exact ex_cell_obj (fun i q hq => rfl)
theorem ex_W_sB {k n id i : Nat} {v : Int64} (h : ex_lay[k]? = some (.inl (2, n, id))) : (ex_W G ad σ).set k (ad k, .inl (G 2, n, .inr (.inl (vp_updL (σ.2.2.2 id) i v)))) = ex_W G ad (ex_sB σ id i v) := by
  obtain ⟨e1, -, -⟩ := ex_lay_arr h
  have hs : (ex_sB σ id i v).2.2.2 id = vp_updL (σ.2.2.2 id) i v := if_pos rfl
  refine ex_W_set h ?_ (fun k' x' hk' hx' => ?_)
  · show _ = Sum.inl (G 2, n, Sum.inr (Sum.inl ((ex_sB σ id i v).2.2.2 id)))
    rw [hs]
  · cases x' with
    | inl a =>
      obtain ⟨kd', m, id'⟩ := a
      obtain ⟨e2, -, -⟩ := ex_lay_arr hx'
      exact ex_cell_arr rfl (if_neg (fun z => hk' (by omega)))
    | inr o => exact ex_cell_obj (fun i q hq => rfl)
/-! locals -/
def ex_has (ad : Nat → Nat) (ls : Array Slot) (n : Nat) (lg : List Nat) (lv : List Value) : Prop := ls.size = n ∧ lv_wf ls ∧ lv.length = n ∧ (∀ (i : Nat) (v : Value), lv[i]? = some v → ex_kn v = true → ls[i]? = some (.val (ex_cv ad v))) ∧ ∀ (i : Nat) (x : Int64), lv[i]? = some (.long x) → i + 1 ∈ lg
def ex_al (ad : Nat → Nat) (lv : List Value) : List (Nat × Value) := (List.range lv.length).filterMap (fun i => match lv[i]? with
  | some v => if ex_kn v then some (i, ex_cv ad v) else none
  | none => none)
theorem ex_al_in {lv : List Value} {i : Nat} {v : Value} (h : lv[i]? = some v) (hk : ex_kn v = true) : (i, ex_cv ad v) ∈ ex_al ad lv := by
  refine List.mem_filterMap.mpr ⟨i, List.mem_range.mpr (List.getElem?_eq_some_iff.mp h).1, ?_⟩
  rw [h]; simp [hk]
theorem ex_al_of {lv : List Value} {q : Nat × Value} (h : q ∈ ex_al ad lv) : ∃ v, lv[q.1]? = some v ∧ ex_kn v = true ∧ q.2 = ex_cv ad v := by
  obtain ⟨i, -, h2⟩ := List.mem_filterMap.mp h
  cases hv : lv[i]? with
  | none => rw [hv] at h2; cases h2
  | some v =>
    rw [hv] at h2
    by_cases hk : ex_kn v = true
    · simp only [hk, if_true, Option.some.injEq] at h2
      subst h2
      exact ⟨v, hv, hk, rfl⟩
    · simp [hk] at h2
theorem ex_has.lv {ls : Array Slot} {n : Nat} {lg : List Nat} {lv : List Value} (h : ex_has ad ls n lg lv) : lv_has ls n (ex_al ad lv) := ⟨h.1, h.2.1, fun q hq => by
  obtain ⟨v, h1, h2, h3⟩ := ex_al_of hq
  rw [h3]
  exact h.2.2.2.1 q.1 v h1 h2⟩
theorem ex_cvc (v : Value) : (ex_cv ad v).category = v.category := by cases v <;> rfl
/-- behind a store -/
theorem ex_has.put {ls ls' : Array Slot} {n i : Nat} {lg : List Nat} {lv : List Value} {v w : Value} (h : ex_has ad ls n lg lv) (hc : ex_can lg lv.length i = true) (hv : ex_kn v = true → w = ex_cv ad v) (h2 : v.category = 1)
    (hl : lv_has ls' n ((i, w) :: (ex_al ad lv).filter (fun q => !(q.1 == i) && !(q.1 + 1 == i && q.2.category == 2)))) : ex_has ad ls' n lg (lv.set i v) := by
  simp only [ex_can, Bool.and_eq_true, Bool.not_eq_true'] at hc
  have hi : i < lv.length := Nat.le_of_ble_eq_true hc.1
  have hg : i ∉ lg := fun z => by simp [z] at hc
  refine ⟨hl.1, hl.2.1, by rw [List.length_set]; exact h.2.2.1, fun j u hj hk => ?_, fun j x hj => ?_⟩
  · by_cases e : j = i
    · subst e
      rw [List.getElem?_set_self hi] at hj
      cases hj
      exact hl.2.2 (j, ex_cv ad v) (by rw [hv hk]; exact List.mem_cons_self)
    · rw [List.getElem?_set_ne (Ne.symm e)] at hj
      refine hl.2.2 (j, ex_cv ad u) (List.mem_cons_of_mem _ (List.mem_filter.mpr ⟨ex_al_in hj hk, ?_⟩))
      have e1 : (j == i) = false := by simpa using e
      simp only [e1, Bool.not_false, Bool.true_and, Bool.not_eq_true', Bool.and_eq_false_iff, beq_eq_false_iff_ne, ne_eq]
      by_cases e2 : j + 1 = i
      · right
        rw [ex_cvc]
        intro hz
        cases u <;> simp [Value.category, ex_kn] at hz hk
        · exact hg (e2 ▸ h.2.2.2.2 j _ hj)
      · exact Or.inl e2
  · by_cases e : j = i
    · subst e
      rw [List.getElem?_set_self hi] at hj
      cases hj
      simp [Value.category] at h2
    · rw [List.getElem?_set_ne (Ne.symm e)] at hj
      exact h.2.2.2.2 j x hj
end EXW
