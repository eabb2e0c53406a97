/-! ===== the machine does what the pure machine does ===== -/
section EXC
variable {p : Program} {l : Launch} {e : Env} {R : Room} {s : State} {m : MethodId} {args : Array Value} {below : List Frame} {meth : Method} {c : Code} {Q : State → Prop}
variable {D : va_G} {G : Nat → ClassId} {ad : Nat → Nat} {A : Nat → Prop} {μ : ex_MD} {mcR msR : Nat} {H : Heap} {locs : List Loc} {cells slots : Nat} {pc : Nat} {ls : Array Slot}
theorem ex_AA {sz : Nat} (hsz : s.heap.size ≤ sz) (hA : ∀ q, s.heap.size ≤ q → A q) (hAk : ∀ k, k < 59 → A (ad k)) : ∀ q, ex_A ad sz q → A q := fun q h => by
  rcases h with ⟨k, hk, rfl⟩ | h
  · exact hAk k hk
  · exact hA q (Nat.le_trans hsz h)
theorem ex_callrow {mc ms : Nat} {st0 rest : List Value} {a : Array Value} {E' : ex_O → ex_S → Prop} (hr : vx_Run p l e R s m args below meth c H locs cells slots mc ms (F0 m pc ls st0) rest (ex_Qc D G ad E' H.size a) (ex_XC D G ad E' H.size) (ex_A ad H.size)) (hS : va_S A s.heap H locs) (hA : ∀ q, s.heap.size ≤ q → A q) (hAk : ∀ k, k < 59 → A (ad k))
    (kk : ∀ (v : Option Value) (σ' : ex_S) (H1 : Heap) (locs1 : List Loc), E' (.inl v) σ' → va_P D ex_cl (ex_W G ad σ') H1 → va_S A s.heap H1 locs1 → W p l e R s m args below meth c H1 locs1 (cells + mc) (slots + ms) Q (F0 m (pc + 3) ls ((v.map (ex_cv ad)).toList ++ rest)))
    (kx : ∀ (x : String) (σ' : ex_S) (ce : Cell) (q9 : Addr) (H1 : Heap) (locs1 : List Loc), E' (.inr x) σ' → va_P D ex_cl (ex_W G ad σ') H1 → va_S A s.heap H1 locs1 → H1[q9]? = some ce → ce.vm = .none → s.vm.findClass x = some ce.cls → vx_W p l e R s m args below meth c H1 locs1 (cells + mc) (slots + ms) Q (F0 m pc ls rest) q9) :
    W p l e R s m args below meth c H locs cells slots Q (F0 m pc ls st0) := by
  intro T hT X
  have hAA := ex_AA (A := A) (ad := ad) hS.1 hA hAk
  rcases hr T hT X with ⟨v, st₀, t, T', L, h0, X', hL, e1, e2, ⟨⟨w, σ', hv, hE, hP⟩, hF⟩, st⟩ | ⟨q, st₀, t, T', L, x, ce, h0, X', hL, e1, e2, ⟨σ', hE, hP, hF⟩, hce, hcv, hcl, st⟩
  · cases hv
    obtain ⟨k1, k2, k3⟩ := vx_keep h0 e1 hS (fun q _ h => hAA q h) hAA hL hF
    obtain ⟨t2, a1, b1⟩ := kk w σ' T'.heap (locs ++ L) hE (by rw [e1]; exact hP) k3 T' rfl X'
    exact ⟨t2, st t2 a1, b1⟩
  · obtain ⟨k1, k2, k3⟩ := vx_keep h0 e1 hS (fun q _ h => hAA q h) hAA hL hF
    obtain ⟨t2, a1, b1⟩ := kx x σ' ce q T'.heap (locs ++ L) hE (by rw [e1]; exact hP) k3 (by rw [e1]; exact hce) hcv hcl T' rfl X'
    exact ⟨t2, st.trans a1, b1⟩
theorem ex_pre {a : List Value} {σ : ex_S} (hcx : ex_cx D G A s s.heap) (hP : va_P D ex_cl (ex_W G ad σ) H) (hS : va_S A s.heap H locs) (hA : ∀ q, s.heap.size ≤ q → A q) (hAk : ∀ k, k < 59 → A (ad k)) (U : State) (hU : U.heap = H) (hW : s.WarmedH U.vm) : ex_Pc D G ad a σ H.size (a.map (ex_cv ad)).toArray U := by
  refine ⟨rfl, by rw [hU], by rw [hU]; exact hP, ?_⟩
  rw [hU]
  exact ex_cx.warm hW ((hcx.kept hS.2.1).narrow (ex_AA hS.1 hA hAk))
theorem ex_inst_hh : ∀ μ ∈ ex_mds, ex_inst μ = 1 → ex_hh μ = none := by decide +kernel
/-- a call of a method of the tables -/
theorem ex_run {idx M d inst : Nat} {ν : ex_MD} {a rest : List Value} {σ : ex_S} {E' : ex_O → ex_S → Prop} (hx : p.tables.exec = Jvm.exec) (hb : c.code = ex_bytes μ) (hml : c.maxLocals = ex_maxL μ) (hK : ex_K μ < 8) (hown : s.vm.findClass (ex_own (ex_K μ)) = some m.cls) (hts : ∀ w ∈ ex_tb, w.before args s = true) (hcx : ex_cx D G A s s.heap) (hA : ∀ q, s.heap.size ≤ q → A q) (hAk : ∀ k, k < 59 → A (ad k))
    (hcal : ex_find (ex_cal (ex_K μ)) idx = some M) (hmd : ex_md M = some ν) (hi : inst = ex_inst ν) (hM : ex_Met l D G ad d ν a σ E' H.size) (hself : ex_self ν a = true) (hroom : ex_room rest = true)
    (hP : va_P D ex_cl (ex_W G ad σ) H) (hS : va_S A s.heap H locs) (hsize : ls.size = ex_maxL μ) (hR : d + 7 ≤ R.frames ∧ 60 * d + 259 ≤ R.locals) (hf : cells + ex_mc ν ≤ R.cells ∧ slots + 6 * ex_mc ν ≤ R.slots)
    (hd1 : inst = 1 → decode (ex_bytes μ) pc = .ok (.invokevirtual idx, 3)) (hd0 : inst = 0 → decode (ex_bytes μ) pc = .ok (.invokestatic idx, 3)) (hii : inst = 0 ∨ inst = 1) :
    vx_Run p l e R s m args below meth c H locs cells slots (ex_mc ν) (6 * ex_mc ν) (F0 m pc ls ((a.reverse ++ rest).map (ex_cv ad))) (rest.map (ex_cv ad)) (ex_Qc D G ad E' H.size (a.map (ex_cv ad)).toArray) (ex_XC D G ad E' H.size) (ex_A ad H.size) := by
  obtain ⟨k1, k2, k3, k4, k5⟩ := ex_cal_ok hK hcal hmd
  obtain ⟨o1, o2, o3, o4⟩ := ex_md_ok hmd
  have hRR : (ex_rm d ν).frames + 1 ≤ R.frames ∧ 8 + (ex_maxL ν + 11) + (ex_rm d ν).locals ≤ R.locals := by
    show d + 6 + 1 ≤ R.frames ∧ 8 + (ex_maxL ν + 11) + (60 * d + 200) ≤ R.locals
    omega
  have hst : (a.reverse ++ rest).map (ex_cv ad) = (a.map (ex_cv ad)).reverse ++ rest.map (ex_cv ad) := by
    rw [List.map_append, List.map_reverse]
  have hroom' := lv_room (m := m) (pc := pc) (ls := ls) (rest := (a.reverse ++ rest).map (ex_cv ad)) (ex_room_e hroom ad)
  rcases hii with rfl | rfl
  · have hlen : (a.map (ex_cv ad)).length = ex_np ν := by
      rw [List.length_map]
      unfold ex_self at hself
      rw [← hi, Bool.and_eq_true] at hself
      exact beq_iff_eq.mp hself.2
    have hpre : PreS s H (ex_Pc D G ad a σ H.size) (a.map (ex_cv ad)) := ⟨ex_Pc.blind, fun U hU hW => ex_pre hcx hP hS hA hAk U hU hW⟩
    cases hh : ex_hh ν with
    | none =>
      have hcw : ex_cw ν = Cond.code (ex_y ν) (ex_bytes ν) (ex_maxL ν) (ex_ret ν) := by unfold ex_cw; rw [hh]
      have hg : GoodIn ex_tb (va_wsS (ex_own (ex_K μ)) idx (ex_y ν) (ex_cw ν :: ex_tb)) := ex_good_in (fun w hw => by
        simp only [va_wsS, List.mem_append, List.mem_cons, List.not_mem_nil, or_false] at hw
        rcases hw with (rfl | rfl | rfl) | rfl | hw
        · exact k2
        · exact k4 hi.symm
        · exact k3
        · exact k1
        · exact hw)
      exact vx_runS (S := ⟨hx, hb, hml, hown, hts⟩) hM (va_cwS (bytes := ex_bytes ν) (maxL := ex_maxL ν) (ret := ex_ret ν) (ex_np ν) hts hg (by rw [hcw]) rfl rfl o2 hRR) hpre rfl hlen hsize hst hroom' (hd0 rfl) hf
    | some hh' =>
      have hcw : ex_cw ν = Cond.codeWith (ex_y ν) (ex_bytes ν) (ex_maxL ν) (ex_ret ν) hh' := by unfold ex_cw; rw [hh]
      have hg : GoodIn ex_tb (va_wsS (ex_own (ex_K μ)) idx (ex_y ν) (ex_cw ν :: ex_tb)) := ex_good_in (fun w hw => by
        simp only [va_wsS, List.mem_append, List.mem_cons, List.not_mem_nil, or_false] at hw
        rcases hw with (rfl | rfl | rfl) | rfl | hw
        · exact k2
        · exact k4 hi.symm
        · exact k3
        · exact k1
        · exact hw)
      exact vx_runSX (S := ⟨hx, hb, hml, hown, hts⟩) hM (vx_cwSW (bytes := ex_bytes ν) (maxL := ex_maxL ν) (ret := ex_ret ν) (ex_np ν) hts hg (by rw [hcw]) rfl rfl o2 hRR) hpre rfl hlen hsize hst hroom' (hd0 rfl) hf
  · have hh : ex_hh ν = none := ex_inst_hh ν (ex_md_mem hmd) hi.symm
    have hcw : ex_cw ν = Cond.code (ex_y ν) (ex_bytes ν) (ex_maxL ν) (ex_ret ν) := by unfold ex_cw; rw [hh]
    obtain ⟨j1, j2, z, j3, j4⟩ := k5 hi.symm
    unfold ex_self at hself
    rw [← hi] at hself
    simp only [Bool.and_eq_true] at hself
    obtain ⟨-, hl1, hself⟩ := hself
    split at hself
    · rename_i r as'
      split at hself
      · rename_i ci fs hlay
        have hci : ci = ex_K ν := beq_iff_eq.mp hself
        subst hci
        have hlen : (as'.map (ex_cv ad)).length = ex_np ν := by
          rw [List.length_map]
          have := beq_iff_eq.mp hl1
          simp only [List.length_cons] at this
          omega
        have hg : GoodIn ex_tb (wsV (ex_own (ex_K μ)) idx (ex_y ν).cls (ex_y ν) (ex_cw ν :: ex_tb)) := ex_good_in (fun w hw => by
          simp only [wsV, List.mem_append, List.mem_cons, List.not_mem_nil, or_false] at hw
          rcases hw with (rfl | rfl | rfl | rfl) | rfl | hw
          · exact k2
          · exact j1
          · exact j2
          · exact k3
          · exact k1
          · exact hw)
        have hrecv := va_recv hcx.1 hP j3 (ex_W_at hlay)
        rw [j4] at hrecv
        have hpre : PreV s H (ex_y ν).cls (ad r) (ex_Pc D G ad (.ref r :: as') σ H.size) (as'.map (ex_cv ad)) := ⟨ex_Pc.blind, hrecv, fun U hU hW => ex_pre hcx hP hS hA hAk U hU hW⟩
        refine vx_runV (S := ⟨hx, hb, hml, hown, hts⟩) hM (cwV (bytes := ex_bytes ν) (maxL := ex_maxL ν) (ret := ex_ret ν) (ex_np ν) hts hg (by rw [hcw]) rfl rfl ⟨rfl, o2⟩ hRR) hpre rfl hlen hsize ?_ hroom' (hd1 rfl) hf
        rw [show (F0 m pc ls (List.map (ex_cv ad) ((Value.ref r :: as').reverse ++ rest))).stack = List.map (ex_cv ad) ((Value.ref r :: as').reverse ++ rest) from rfl, hst]
        simp [ex_cv]
      · cases hself
    · cases hself
theorem ex_pay_e {mc b : Nat} {k : Nat → Prop} (h : ex_pay mc b k) : mc ≤ b ∧ k (b - mc) := by
  unfold ex_pay at h
  split at h
  · exact ⟨Nat.zero_le _, h⟩
  · exact h
theorem ex_call_e {C : ex_CT} {inst idx : Nat} {lv st : List Value} {σ : ex_S} {b : Nat} {P : ex_Q → Prop} {E : ex_O → ex_S → Prop} (h : ex_call C μ inst idx pc lv st σ b P E) : ∃ M ν, ex_find (ex_cal (ex_K μ)) idx = some M ∧ ex_md M = some ν ∧ inst = ex_inst ν ∧ ex_self ν (st.take (ex_np ν + inst)).reverse = true ∧ ex_room (st.drop (ex_np ν + inst)) = true ∧ ex_mc ν ≤ b ∧ C M (st.take (ex_np ν + inst)).reverse σ (fun o σ' => match o with
        | .inl v => P (pc + 3, lv, v.toList ++ st.drop (ex_np ν + inst), σ', b - ex_mc ν)
        | .inr x => ex_exc μ pc lv x (fun pc' lv' st' => P (pc', lv', st', σ', b - ex_mc ν)) (E (.inr x) σ')) := by
  unfold ex_call at h
  split at h
  · rename_i M hM
    split at h
    · rename_i ν hν
      split at h
      · rename_i hi
        split at h
        · rename_i h1 h2
          obtain ⟨h3, h4⟩ := ex_pay_e h
          exact ⟨M, ν, hM, hν, hi, h1, h2, h3, h4⟩
        · exact h.elim
      · exact h.elim
    · exact h.elim
  · exact h.elim
end EXC
