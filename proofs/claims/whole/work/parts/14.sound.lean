/-! ===== a call of the pure machine is a contract of the machine ===== -/
section EXG
variable {p : Program} {l : Launch} {e : Env} {R : Room} {s : State} {m : MethodId} {args : Array Value} {below : List Frame} {meth : Method} {c : Code} {H : Heap} {locs : List Loc} {cells slots : Nat}
variable {D : va_G} {G : Nat → ClassId} {ad : Nat → Nat}
theorem ex_sound_1 (hl : l.stackTraces = false) (hinj : ex_inj ad) {d : Nat} (hC : ∀ M a σ E', ex_C d M a σ E' → ∀ ν, ex_md M = some ν → M ≠ ex_law → ex_self ν a = true → ∃ d', (d' + 7 ≤ d + 6 ∧ 60 * d' + 259 ≤ 60 * d + 200) ∧ ∀ sz, ex_Met l D G ad d' ν a σ E' sz)
    {M : Nat} {μ : ex_MD} {a : List Value} {σ : ex_S} {E : ex_O → ex_S → Prop} {sz : Nat} (hMl : M ≠ ex_law) (hmd : ex_md M = some μ) (hself : ex_self μ a = true) (h : ex_C (d + 1) M a σ E) : ex_Met l D G ad d μ a σ E sz := by
  obtain ⟨o1, o2, o3, o4⟩ := ex_md_ok hmd
  have hK := ex_K_lt μ (ex_md_mem hmd)
  have hargok : ex_argok μ a = true := by
    unfold ex_self at hself
    rw [Bool.and_eq_true] at hself
    exact hself.1
  have body : ∀ p e s m args below meth c s₁, BodyLoose p l (ex_y μ) (headSpec (ex_cw μ :: ex_tb) (ex_rm d μ)) (ex_bytes μ) (ex_maxL μ) (ex_ret μ) e s m args below meth c s₁ → c.maxLocals = ex_maxL μ → (∀ hh, ex_hh μ = some hh → c.exceptionTable.toList = tableOf hh) → (ex_hh μ = none → ∀ x ∈ c.exceptionTable.toList, False) → ex_Pc D G ad a σ sz args s →
      W p l e (headSpec (ex_cw μ :: ex_tb) (ex_rm d μ)).room s m args below meth c s.heap [] 0 0 (vx_MQ below (ex_Qc D G ad E sz) (ex_XC D G ad E sz) args s (ex_mc μ) (6 * ex_mc μ) (ex_A ad sz)) (entryFrame m args (ex_maxL μ)) := by
    intro p e s m args below meth c s₁ B hml ht1 ht2 hv
    obtain ⟨rfl, hsz, hP, hcx⟩ := hv
    subst hsz
    have hts0 := atoms_spec (ws := ex_cw μ :: ex_tb) B.pre
    have hts : ∀ w ∈ ex_tb, w.before (a.map (ex_cv ad)).toArray s = true := fun w hw => hts0 w (List.mem_cons_of_mem _ hw)
    have hown : s.vm.findClass (ex_own (ex_K μ)) = some m.cls := by rw [o4]; exact findClass_of_methodNamed B.named
    have hx := B.exec
    have hb := B.bytes
    have hlocks := B.notSynchronized
    have hA : ∀ q, s.heap.size ≤ q → ex_A ad s.heap.size q := fun q z => Or.inr z
    have hAk : ∀ k, k < 59 → ex_A ad s.heap.size (ad k) := fun k hk => Or.inl ⟨k, hk, rfl⟩
    simp only [ex_C, hmd] at h
    rw [lg_entry_eq]
    refine h _ (ex_close (X := none) (C := ex_C d) (E := E) (mcR := ex_mc μ) (msR := 6 * ex_mc μ) hx hb hml hK hown hts hcx hinj hA hAk (ex_okp_all μ (ex_md_mem hmd)) ?_ ?_ (Nat.le_refl _) (Nat.le_refl _) hC (fun L xs z => by cases z) ht1 ?_ ?_ ?_) s.heap [] 0 0 _ hP va_S.rf (ex_has_0 hargok) ?_ ?_
    · show 6 ≤ d + 6
      omega
    · show 200 ≤ 60 * d + 200
      omega
    · intro v σ' H locs cells slots ls pc ins hE hP' hS' hc hs hdg hrv
      refine W.widen (k := ex_mc μ) (n := 6 * ex_mc μ) hc hs (vx_ret ?_)
      rcases hrv with ⟨x, rfl, rfl, hr⟩ | ⟨x, rfl, rfl, hr⟩ | ⟨rfl, rfl, hr⟩
      · rcases hr with hr | ⟨hr, hz⟩
        · exact W.zret hx hb (by rw [B.returns]; exact hr) rfl (fun t ht hW => ⟨⟨some (.int x), σ', rfl, hE, by rw [ht]; exact hP'⟩, hS'.F ht⟩) hS'.2.2 hdg hlocks
        · exact W.zret hx hb (by rw [B.returns]; exact hr) (ex_bool_n hz).1 (fun t ht hW => ⟨⟨some (.int x), σ', rfl, hE, by rw [ht]; exact hP'⟩, hS'.F ht⟩) hS'.2.2 hdg hlocks
      · exact W.lret hx hb (by rw [B.returns]; exact hr) (fun t ht hW => ⟨⟨some (.long x), σ', rfl, hE, by rw [ht]; exact hP'⟩, hS'.F ht⟩) hS'.2.2 hdg hlocks
      · exact W.vret hx hb (by rw [B.returns]; exact hr) (fun t ht hW => ⟨⟨none, σ', rfl, hE, by rw [ht]; exact hP'⟩, hS'.F ht⟩) hS'.2.2 hdg hlocks
    · intro x σ' H locs cells slots ls pc ik st hE hsite hat hP' hS' hsz hc hs hcat
      obtain ⟨is, ic, text, a3, a4, a6, a9, hmem⟩ := ex_site_e hsite
      have hK4 : ex_K μ = 4 := by
        by_cases z : ex_K μ = 4
        · exact z
        · rw [ex_thr_4 _ hK z] at hmem; cases hmem
      have hno := ht2 (ex_K4_hh μ (ex_md_mem hmd) hK4)
      rw [hK4] at hmem hown
      have hd := ex_okp_all μ (ex_md_mem hmd)
      obtain ⟨okw, okf⟩ := ex_okx_all _ hmem
      dsimp only at okw okf
      obtain ⟨sa, hsa⟩ := hcx.2.2.2.2.1 (RX4, is, text) (List.mem_map.mpr ⟨_, hmem, rfl⟩)
      have hw : ∀ w ∈ Cond.classLink RX4 ik x :: Cond.initialized x :: ex_atT ic x, w.before (a.map (ex_cv ad)).toArray s = true := fun w hw => by
        obtain ⟨w1, w2, -⟩ := okw w hw
        rcases w2 with w2 | w2
        · exact hts w (List.mem_filter.mpr ⟨w1, w2⟩)
        · have h9 := hcx.2.2.2.1 w (List.mem_filter.mpr ⟨w1, w2⟩)
          refine va_Nw.use ?_ h9
          cases w <;> simp [ex_isn] at w2 <;> rfl
      have hxx : ∀ t : State, s.vm.Alike t.vm → H.size ≤ t.heap.size → (∀ q : Nat, q < H.size → t.heap[q]? = H[q]?) → ex_XC D G ad E s.heap.size x s t := fun t _ h1 h2 => ⟨σ', hE, va_P.kept hP' (fun k q hk => h2 q.1 (hP' k q hk).lt), Nat.le_trans hS'.1 h1, fun q q1 q2 => by rw [h2 q (Nat.lt_of_lt_of_le q1 hS'.1)]; exact hS'.2.1 q q1 q2⟩
      have hR1 : (ex_nms).length + 3 < (headSpec (ex_cw μ :: ex_tb) (ex_rm d μ)).room.frames := by show 2 + 3 < d + 6; omega
      have hR2 : (st.map fun v => v.category).sum + (13 * (ex_nms.length + 1) + 43) ≤ (headSpec (ex_cw μ :: ex_tb) (ex_rm d μ)).room.locals := by show (st.map fun v => v.category).sum + (13 * (2 + 1) + 43) ≤ 60 * d + 200; omega
      by_cases hN : x = "java/util/NoSuchElementException"
      · have eT : ex_atT ic x = ex_atX RX4 ic x 13 ex_rx "java/lang/RuntimeException" ["java/lang/Exception"] := if_pos hN
        rw [eT] at hw okw
        exact ex_throwN hx hb hl (by decide +kernel) (by decide +kernel) (by decide +kernel) (by decide +kernel) hown okf (by decide +kernel) (by decide +kernel) (hw _ List.mem_cons_self) (hw _ (List.mem_cons_of_mem _ List.mem_cons_self)) hsa (fun w z => hw w (List.mem_cons_of_mem _ (List.mem_cons_of_mem _ z))) (fun w z => (okw w z).2.2) hcx.2.1 hcx.2.2.1 hS' (hsz.trans hml.symm) (hd _ (ex_find_mem hat)).1 (hd _ (ex_find_mem a3)).1 (hd _ (ex_find_mem a4)).1 (hd _ (ex_find_mem a6)).1 (hd _ (ex_find_mem a9)).1 (fun z hz => (hno z hz).elim) (by show 1 + 4 < d + 6; omega) (by show (st.map fun v => v.category).sum + (13 * (1 + 2) + 43) ≤ 60 * d + 200; omega) (Nat.le_trans hc (Nat.le_refl _)) (Nat.le_trans hs (Nat.le_refl _)) hlocks hxx hS'.2.2 hc hs
      · have eT : ex_atT ic x = vx_atS RX4 ic x ex_nms := if_neg hN
        rw [eT] at hw okw
        exact vx_throwS hx hb hl hown okf ex_fit (hw _ List.mem_cons_self) (hw _ (List.mem_cons_of_mem _ List.mem_cons_self)) hsa (fun w z => hw w (List.mem_cons_of_mem _ (List.mem_cons_of_mem _ z))) (fun w z => (okw w z).2.2) hcx.2.1 hcx.2.2.1 hS' (hsz.trans hml.symm) (hd _ (ex_find_mem hat)).1 (hd _ (ex_find_mem a3)).1 (hd _ (ex_find_mem a4)).1 (hd _ (ex_find_mem a6)).1 (hd _ (ex_find_mem a9)).1 (fun z hz => (hno z hz).elim) hR1 hR2 (Nat.le_trans hc (Nat.le_refl _)) (Nat.le_trans hs (Nat.le_refl _)) hlocks hxx hS'.2.2 hc hs
    · intro x σ' ce q9 H locs cells slots ls pc rest hh hE hP' hS' hce hcv hcl hc hs
      exact vx_out (fun z hz => (ht2 hh z hz).elim) hlocks hce hcv hcl (fun t ht _ => ⟨σ', hE, by rw [ht]; exact hP', hS'.F ht⟩) hS'.2.2 hc hs
    · show 0 + ex_mc μ ≤ ex_mc μ
      omega
    · show 0 + 6 * ex_mc μ ≤ 6 * ex_mc μ
      omega
  unfold ex_Met
  cases hh : ex_hh μ with
  | none =>
    have hcw : ex_cw μ = Cond.code (ex_y μ) (ex_bytes μ) (ex_maxL μ) (ex_ret μ) := by unfold ex_cw; rw [hh]
    exact vx_ofW o1 (by rw [hcw]) (fun p e s m args below meth c s₁ B hml ht hv => body p e s m args below meth c s₁ B hml (fun z hz => by rw [hh] at hz; cases hz) (fun _ => ht) hv)
  | some hh' =>
    have hcw : ex_cw μ = Cond.codeWith (ex_y μ) (ex_bytes μ) (ex_maxL μ) (ex_ret μ) hh' := by unfold ex_cw; rw [hh]
    refine vx_ofWH o1 (by rw [hcw]) (fun p e s m args below meth c s₁ B hml hv => body p e s m args below meth c s₁ B hml (fun z hz => ?_) (fun z => by rw [hh] at z; cases z) hv)
    have h9 := atoms_spec (ws := ex_cw μ :: ex_tb) B.pre _ List.mem_cons_self
    rw [hcw] at h9
    rw [hh] at hz
    cases hz
    exact vx_table (x := ex_y μ) B h9
theorem ex_sound (hl : l.stackTraces = false) (hinj : ex_inj ad) : ∀ (d M : Nat) (μ : ex_MD) (a : List Value) (σ : ex_S) (E : ex_O → ex_S → Prop) (sz : Nat), M ≠ ex_law → ex_md M = some μ → ex_self μ a = true → ex_C (d + 1) M a σ E → ex_Met l D G ad d μ a σ E sz := by
  intro d
  induction d with
  | zero =>
    intro M μ a σ E sz h1 h2 h3 h4
    exact ex_sound_1 (d := 0) hl hinj (fun M a σ E' h => False.elim h) h1 h2 h3 h4
  | succ d ih =>
    intro M μ a σ E sz h1 h2 h3 h4
    refine ex_sound_1 hl hinj (fun M a σ E' h ν k1 k2 k3 => ⟨d, ⟨by omega, by omega⟩, fun sz => ih M ν a σ E' sz k2 k1 k3 h⟩) h1 h2 h3 h4
end EXG
