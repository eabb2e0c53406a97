/-! ===== what the pure machine's words rest on ===== -/
section EXS
set_option maxRecDepth 20000
def ex_strs : List (String × Nat × String) := (ex_thr 4).map (fun q => (RX4, q.2.1, q.2.2.2.2))
def ex_xs : List String := (ex_cat 6).map Prod.snd
/-- what a method finds around its world: tables, Throwable's statics, texts, words that don't stay by themselves -/
def ex_cx (D : va_G) (G : Nat → ClassId) (A : Nat → Prop) (U : State) (H : Heap) : Prop :=
  va_K D ex_cl (ex_tys G) U ∧ vx_Zq Bundle.tN "UNASSIGNED_STACK" Bundle.steD A U H ∧ vx_Zq Bundle.tN "SUPPRESSED_SENTINEL" Bundle.listD A U H ∧ (∀ w ∈ ex_nw, va_Nw w U) ∧ (∀ q ∈ ex_strs, ∃ sa, vk_R q.1 q.2.1 q.2.2 sa U) ∧ ∀ x ∈ ex_xs, ∀ y ∈ ex_xs, x ≠ y → va_Nc x y U
theorem ex_cx.warm {D : va_G} {G : Nat → ClassId} {A : Nat → Prop} {s U : State} {H : Heap} (hW : s.WarmedH U.vm) (h : ex_cx D G A s H) : ex_cx D G A U H := by
  obtain ⟨h1, h2, h3, h4, h5, h6⟩ := h
  refine ⟨va_K.moved hW.alike h1, h2.moved hW.alike, h3.moved hW.alike, fun w hw => ?_, fun q hq => ?_, fun x hx y hy hn => (h6 x hx y hy hn).moved hW.alike⟩
  · have h7 := h4 w hw
    have h8 := (List.mem_filter.mp hw).2
    cases w <;> simp [ex_isn] at h8
    case fieldLinkNest => exact va_Nw.warmF hW h7
    case declares => exact va_Nw.warmD hW h7
    case castable => exact va_Nw.warmC hW h7
  · obtain ⟨sa, h7⟩ := h5 q hq
    exact ⟨sa, vk_R.warm hW h7⟩
theorem ex_cx.kept {D : va_G} {G : Nat → ClassId} {A : Nat → Prop} {U : State} {H H1 : Heap} (hq : ∀ a : Nat, a < H.size → ¬ A a → H1[a]? = H[a]?) (h : ex_cx D G A U H) : ex_cx D G A U H1 :=
  ⟨h.1, h.2.1.kept hq, h.2.2.1.kept hq, h.2.2.2⟩
theorem ex_cx.narrow {D : va_G} {G : Nat → ClassId} {A B : Nat → Prop} {U : State} {H : Heap} (h : ex_cx D G A U H) (hAB : ∀ q, B q → A q) : ex_cx D G B U H :=
  ⟨h.1, h.2.1.narrow hAB, h.2.2.1.narrow hAB, h.2.2.2⟩
def ex_Pc (D : va_G) (G : Nat → ClassId) (ad : Nat → Nat) (a : List Value) (σ : ex_S) (sz : Nat) : Array Value → State → Prop := va_Pc (a.map (ex_cv ad)) (fun U => U.heap.size = sz ∧ va_P D ex_cl (ex_W G ad σ) U.heap ∧ ex_cx D G (ex_A ad sz) U U.heap)
def ex_Qc (D : va_G) (G : Nat → ClassId) (ad : Nat → Nat) (E : ex_O → ex_S → Prop) (sz : Nat) : Array Value → State → Outcome → State → Prop := fun _ st oc t => (∃ (v : Option Value) (σ' : ex_S), oc = .returned (v.map (ex_cv ad)) ∧ E (.inl v) σ' ∧ va_P D ex_cl (ex_W G ad σ') t.heap) ∧ va_F (ex_A ad sz) st t
def ex_XC (D : va_G) (G : Nat → ClassId) (ad : Nat → Nat) (E : ex_O → ex_S → Prop) (sz : Nat) : String → State → State → Prop := fun x st t => ∃ σ' : ex_S, E (.inr x) σ' ∧ va_P D ex_cl (ex_W G ad σ') t.heap ∧ va_F (ex_A ad sz) st t
def ex_rm (d : Nat) (μ : ex_MD) : Room := { frames := d + 6, cells := ex_mc μ, slots := 6 * ex_mc μ, locals := 60 * d + 200 }
def ex_Met (l : Launch) (D : va_G) (G : Nat → ClassId) (ad : Nat → Nat) (d : Nat) (μ : ex_MD) (a : List Value) (σ : ex_S) (E : ex_O → ex_S → Prop) (sz : Nat) : Prop :=
  vx_Met l (ex_y μ) (ex_cw μ :: ex_tb) (ex_rm d μ) (ex_Pc D G ad a σ sz) (ex_Qc D G ad E sz) (ex_XC D G ad E sz) (ex_mc μ) (6 * ex_mc μ) (ex_A ad sz)
theorem ex_Pc.blind {D : va_G} {G : Nat → ClassId} {ad : Nat → Nat} {a : List Value} {σ : ex_S} {sz : Nat} : FrameBlind (ex_Pc D G ad a σ sz) := fun v U g mk h => ⟨h.1, h.2.1, h.2.2.1, ex_cx.warm (State.WarmedH.refl U) h.2.2.2⟩
/-! tables -/
theorem ex_find_mem {α : Type} : ∀ {l : List (Nat × α)} {n : Nat} {a : α}, ex_find l n = some a → (n, a) ∈ l
  | [], _, _, h => by cases h
  | (k, b) :: t, n, a, h => by
    unfold ex_find at h
    split at h
    · rename_i hk
      cases h
      rw [beq_iff_eq.mp hk]
      exact List.mem_cons_self
    · exact List.mem_cons_of_mem _ (ex_find_mem h)
theorem ex_md_mem {M : Nat} {μ : ex_MD} (h : ex_md M = some μ) : μ ∈ ex_mds := List.mem_of_getElem? h
theorem ex_cls_ok {ci : Nat} {q : vw_C} (h : ex_cl[ci]? = some q) : (∀ w ∈ u_ws q.1 q.2.1 q.2.2, w ∈ ex_tb) ∧ (∃ ty0 : Nat → FieldType, ∀ k, k < q.2.2 → parseFieldDescriptor (q.2.1 k).2.2.1 = some (ty0 k)) ∧ ∀ a, a < q.2.2 → ∀ b, b < q.2.2 → a ≠ b → (q.2.1 a).2.1 ≠ (q.2.1 b).2.1 := by
  have key : ∀ {ws : List Cond} {ps : List Nat}, ex_all2 (fun w i => ex_wp i w && goodWord w) ws ps = true → ∀ w ∈ ws, w ∈ ex_tb := fun h w hw => by
    obtain ⟨i, hi⟩ := ex_all2_at h w hw
    exact ex_wp_tb hi
  match ci, h with
  | 0, h => cases h; exact ⟨key ex_ok_lays_0, ⟨_, tyX0_ok⟩, nmX0⟩
  | 1, h => cases h; exact ⟨key ex_ok_lays_1, ⟨_, tyX1_ok⟩, nmX1⟩
  | 2, h => cases h; exact ⟨key ex_ok_lays_2, ⟨_, tyX2_ok⟩, nmX2⟩
  | 3, h => cases h; exact ⟨key ex_ok_lays_3, ⟨_, tyX3_ok⟩, nmX3⟩
  | 4, h => cases h; exact ⟨key ex_ok_lays_4, ⟨_, tyX4_ok⟩, nmX4⟩
  | 5, h => cases h; exact ⟨key ex_ok_lays_5, ⟨_, tyX5_ok⟩, nmX5⟩
  | n + 6, h => simp at h
theorem ex_fld_ok {K idx ci j : Nat} {ne : Bool} (hK : K < 8) (h : ex_find (ex_fld K) idx = some (ci, j, ne)) : ∃ q : vw_C, ex_cl[ci]? = some q ∧ j < q.2.2 ∧ (ne = false → Cond.fieldLink (ex_own K) idx (q.2.1 j).1 (q.2.1 j).2.1 (q.2.1 j).2.2.1 ∈ ex_tb) ∧ (ne = true → Cond.fieldLinkNest (ex_own K) idx (q.2.1 j).1 (q.2.1 j).2.1 (q.2.1 j).2.2.1 "DarkDesk" ∈ ex_nw) := by
  obtain ⟨i, hi⟩ := ex_all2_at (ex_okf_all K hK) _ (ex_find_mem h)
  unfold ex_okf at hi
  split at hi
  · rename_i C T N hc
    dsimp only at hc hi
    rw [Bool.and_eq_true] at hi
    refine ⟨_, hc, of_decide_eq_true hi.1, fun e => ?_, fun e => ?_⟩
    · subst e
      exact List.mem_filter.mpr ⟨ex_wp_in hi.2, rfl⟩
    · subst e
      exact List.mem_filter.mpr ⟨ex_wp_in hi.2, rfl⟩
  · cases hi
theorem ex_cst_ok {K idx : Nat} {v : Int32} (hK : K < 8) (h : ex_find (ex_cst K) idx = some v) : Cond.constant (ex_own K) idx v ∈ ex_tb := by
  obtain ⟨i, hi⟩ := ex_all2_at (ex_ok_cst K hK) _ (ex_find_mem h)
  exact List.mem_filter.mpr ⟨ex_wp_in hi, rfl⟩
theorem ex_nat_ok {K idx n : Nat} (hK : K < 8) (h : ex_find (ex_nat K) idx = some n) : Cond.methodLink (ex_own K) idx (ex_natn n) ∈ ex_tb := by
  obtain ⟨i, hi⟩ := ex_all2_at (ex_okn_all K hK) _ (ex_find_mem h)
  exact List.mem_filter.mpr ⟨ex_wp_in hi, rfl⟩
theorem ex_nat_ws : Cond.static Lib.Math.max.name ∈ ex_tb ∧ Cond.static Lib.Math.min.name ∈ ex_tb ∧ Cond.static arraycopyName ∈ ex_tb ∧ Cond.native arraycopyName ∈ ex_tb ∧ Cond.initialized "java/lang/Math" ∈ ex_tb ∧ Cond.initialized "java/lang/System" ∈ ex_tb ∧ Cond.code Lib.Math.max.name Lib.Math.max.code 2 (some .int) ∈ ex_tb ∧ Cond.code Lib.Math.min.name Lib.Math.min.code 2 (some .int) ∈ ex_tb := by
  have h := ex_nat_w
  simp only [Bool.and_eq_true] at h
  obtain ⟨⟨⟨⟨⟨h1, h2⟩, h3⟩, h4⟩, h5⟩, h6⟩ := h
  exact ⟨List.mem_filter.mpr ⟨ex_wp_in h1, rfl⟩, List.mem_filter.mpr ⟨ex_wp_in h2, rfl⟩, List.mem_filter.mpr ⟨ex_wp_in h3, rfl⟩, List.mem_filter.mpr ⟨ex_wp_in h4, rfl⟩, List.mem_filter.mpr ⟨ex_wp_in h5, rfl⟩, List.mem_filter.mpr ⟨ex_wp_in h6, rfl⟩, List.mem_filter.mpr ⟨List.mem_of_getElem? ex_nat_max, rfl⟩, List.mem_filter.mpr ⟨List.mem_of_getElem? ex_nat_min, rfl⟩⟩
theorem ex_cal_law : ∀ K, K < 8 → ∀ q ∈ ex_cal K, q.2 ≠ ex_law := by decide +kernel
theorem ex_md_ok {M : Nat} {μ : ex_MD} (h : ex_md M = some μ) : plainName (ex_y μ).cls = true ∧ ((ex_y μ).cls ≠ "java/lang/invoke/MethodHandle" ∧ (ex_y μ).cls ≠ "java/lang/invoke/VarHandle" ∧ (parseMethodDescriptor (ex_y μ).desc).map (fun d => d.parameters.length) = some (ex_np μ)) ∧ ex_maxL μ ≤ 40 ∧ ex_own (ex_K μ) = (ex_y μ).cls := by
  have h1 := ex_okm_all μ (ex_md_mem h)
  simp only [ex_okm, Bool.and_eq_true, bne_iff_ne, ne_eq, decide_eq_true_eq, beq_iff_eq] at h1
  obtain ⟨⟨⟨⟨⟨a1, a2⟩, a3⟩, a4⟩, a5⟩, a6⟩ := h1
  exact ⟨a1, ⟨a2, a3, a4⟩, Nat.le_of_ble_eq_true a5, a6⟩
theorem ex_cw_good (μ : ex_MD) : goodWord (ex_cw μ) = true := by
  unfold ex_cw
  split <;> rfl
theorem ex_cw_ok {M : Nat} {μ : ex_MD} (h : ex_md M = some μ) (hl : M ≠ ex_law) : ex_cw μ ∈ ex_tb := by
  have hM : M < ex_mds.length := (List.getElem?_eq_some_iff.mp h).1
  rw [ex_mds_len] at hM
  obtain ⟨i, hi⟩ := ex_okw_all M hM hl
  unfold ex_okw at hi
  rw [h] at hi
  exact List.mem_filter.mpr ⟨List.mem_of_getElem? hi, ex_cw_good μ⟩
theorem ex_cal_ok {K idx M : Nat} (hK : K < 8) (h : ex_find (ex_cal K) idx = some M) {μ : ex_MD} (hm : ex_md M = some μ) : ex_cw μ ∈ ex_tb ∧ Cond.methodLink (ex_own K) idx (ex_y μ) ∈ ex_tb ∧ Cond.initialized (ex_y μ).cls ∈ ex_tb ∧ (ex_inst μ = 0 → Cond.static (ex_y μ) ∈ ex_tb) ∧ (ex_inst μ = 1 → Cond.instanceMethod (ex_y μ) ∈ ex_tb ∧ Cond.selects (ex_y μ).cls (ex_y μ) (ex_y μ) ∈ ex_tb ∧ ∃ z, ex_cl[ex_K μ]? = some z ∧ z.1 = (ex_y μ).cls) := by
  obtain ⟨i, hi⟩ := ex_all2_at (ex_okc_all K hK) _ (ex_find_mem h)
  unfold ex_okc at hi
  rw [hm] at hi
  simp only [Bool.and_eq_true] at hi
  obtain ⟨⟨h1, h2⟩, h3⟩ := hi
  refine ⟨ex_cw_ok hm (ex_cal_law K hK _ (ex_find_mem h)), List.mem_filter.mpr ⟨ex_wp_in h1, rfl⟩, List.mem_filter.mpr ⟨ex_wp_in h2, rfl⟩, fun e => ?_, fun e => ?_⟩
  · rw [e] at h3
    exact List.mem_filter.mpr ⟨ex_wp_in h3, rfl⟩
  · rw [e] at h3
    simp only [Bool.and_eq_true] at h3
    obtain ⟨⟨h4, h5⟩, h6⟩ := h3
    refine ⟨List.mem_filter.mpr ⟨ex_wp_in h4, rfl⟩, List.mem_filter.mpr ⟨ex_wp_in h5, rfl⟩, ?_⟩
    split at h6
    · rename_i z hz
      exact ⟨z, hz, beq_iff_eq.mp h6⟩
    · cases h6
theorem ex_cat_ok : ∀ K, K < 8 → ∀ q ∈ ex_cat K, (Cond.classLink (ex_own K) q.1 q.2 ∈ lw_tbl) ∧ (Cond.castable q.2 q.2 ∈ lw_tbl) ∧ q.1 ≠ 0 ∧ q.2 ∈ ex_xs := by decide +kernel
theorem ex_K_lt : ∀ μ ∈ ex_mds, ex_K μ < 8 := by decide +kernel
theorem ex_good_in {ws : List Cond} (h : ∀ w ∈ ws, w ∈ ex_tb) : GoodIn ex_tb ws := fun w hw => ⟨h w hw, good_of_word (List.mem_filter.mp (h w hw)).2⟩
end EXS
