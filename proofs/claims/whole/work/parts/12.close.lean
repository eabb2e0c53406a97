/-! ===== every instruction ===== -/
section EXD
def ex_P (p : Program) (l : Launch) (e : Env) (R : Room) (s : State) (m : MethodId) (args : Array Value) (below : List Frame) (meth : Method) (c : Code) (Q : State → Prop) (D : va_G) (G : Nat → ClassId) (ad : Nat → Nat) (A : Nat → Prop) (μ : ex_MD) (mcR msR : Nat) (q : ex_Q) : Prop :=
  ∀ (H : Heap) (locs : List Loc) (cells slots : Nat) (ls : Array Slot), va_P D ex_cl (ex_W G ad q.2.2.2.1) H → va_S A s.heap H locs → ex_has ad ls (ex_maxL μ) (ex_lg μ) q.2.1 → cells + q.2.2.2.2 ≤ mcR → slots + 6 * q.2.2.2.2 ≤ msR → W p l e R s m args below meth c H locs cells slots Q (F0 m q.1 ls (q.2.2.1.map (ex_cv ad)))
/-- an answer, and the instruction that gives it -/
def ex_rv (μ : ex_MD) (v : Option Value) (ins : Instr) : Prop := (∃ x, v = some (.int x) ∧ ins = .ireturn ∧ (ex_ret μ = some .int ∨ (ex_ret μ = some .boolean ∧ ex_bool x))) ∨ (∃ x, v = some (.long x) ∧ ins = .lreturn ∧ ex_ret μ = some .long) ∨ (v = none ∧ ins = .return_ ∧ ex_ret μ = none)
theorem ex_copy_e {st : List Value} {σ : ex_S} {k : List Value → ex_S → Prop} (h : ex_copy st σ k) : ∃ (n dp : Int32) (a1 : Nat) (sp : Int32) (a0 : Nat) (r : List Value), st = .int n :: .int dp :: .ref a1 :: .int sp :: .ref a0 :: r ∧ ex_room r = true ∧ ∃ n0 i0, ex_lay[a0]? = some (.inl (0, n0, i0)) ∧ ∃ n1 i1, ex_lay[a1]? = some (.inl (0, n1, i1)) ∧ ¬ sp < 0 ∧ ¬ dp < 0 ∧ ¬ n < 0 ∧ sp.toNatClampNeg + n.toNatClampNeg ≤ n0 ∧ dp.toNatClampNeg + n.toNatClampNeg ≤ n1 ∧ k r (ex_row σ i1 (va_cpy (σ.2.2.1 i0) (σ.2.2.1 i1) sp.toNatClampNeg dp.toNatClampNeg n.toNatClampNeg)) := by
  unfold ex_copy at h
  split at h
  · split at h
    · rename_i hr
      replace h := ex_arr_e h
      obtain ⟨n0, i0, h1, h⟩ := h
      replace h := ex_arr_e h
      obtain ⟨n1, i1, h2, h⟩ := h
      exact ⟨_, _, _, _, _, _, rfl, hr, n0, i0, h1, n1, i1, h2, h⟩
    · exact h.elim
  · exact h.elim
variable {p : Program} {l : Launch} {e : Env} {R : Room} {s : State} {m : MethodId} {args : Array Value} {below : List Frame} {meth : Method} {c : Code} {Q : State → Prop}
variable {D : va_G} {G : Nat → ClassId} {ad : Nat → Nat} {A : Nat → Prop} {μ : ex_MD} {mcR msR : Nat}
set_option maxHeartbeats 4000000 in
theorem ex_close {X : Option (Nat × (Nat → Int32))} {C : ex_CT} {E : ex_O → ex_S → Prop} (hx : p.tables.exec = Jvm.exec) (hb : c.code = ex_bytes μ) (hml : c.maxLocals = ex_maxL μ) (hK : ex_K μ < 8) (hown : s.vm.findClass (ex_own (ex_K μ)) = some m.cls) (hts : ∀ w ∈ ex_tb, w.before args s = true) (hcx : ex_cx D G A s s.heap) (hinj : ex_inj ad) (hA : ∀ q, s.heap.size ≤ q → A q) (hAk : ∀ k, k < 59 → A (ad k))
    (hp : ex_okp (ex_bytes μ) (ex_prog μ)) (hRf : 6 ≤ R.frames) (hRl : 200 ≤ R.locals) (hRc : mcR ≤ R.cells) (hRs : msR ≤ R.slots)
    (hC : ∀ M a σ E', C M a σ E' → ∀ ν, ex_md M = some ν → M ≠ ex_law → ex_self ν a = true → ∃ d, (d + 7 ≤ R.frames ∧ 60 * d + 259 ≤ R.locals) ∧ ∀ sz, ex_Met l D G ad d ν a σ E' sz)
    (hX : ∀ L xs, X = some (L, xs) → va_X (ad 999) L xs s s.heap ∧ ad 999 < s.heap.size ∧ ¬ A (ad 999))
    (htab : ∀ hh, ex_hh μ = some hh → c.exceptionTable.toList = tableOf hh)
    (hret : ∀ (v : Option Value) (σ' : ex_S) (H : Heap) (locs : List Loc) (cells slots : Nat) (ls : Array Slot) (pc : Nat) (ins : Instr), E (.inl v) σ' → va_P D ex_cl (ex_W G ad σ') H → va_S A s.heap H locs → cells ≤ mcR → slots ≤ msR → decode (ex_bytes μ) pc = .ok (ins, 1) → ex_rv μ v ins → W p l e R s m args below meth c H locs cells slots Q (F0 m pc ls v.toList))
    (hthr : ∀ (x : String) (σ' : ex_S) (H : Heap) (locs : List Loc) (cells slots : Nat) (ls : Array Slot) (pc ik : Nat) (st : List Value), E (.inr x) σ' → ex_site μ pc ik = some x → ex_at μ pc = some (.new ik, 3) → va_P D ex_cl (ex_W G ad σ') H → va_S A s.heap H locs → ls.size = ex_maxL μ → cells + 1 ≤ mcR → slots + 6 ≤ msR → (st.map fun v => v.category).sum ≤ 8 → W p l e R s m args below meth c H locs cells slots Q (F0 m pc ls st))
    (hout : ∀ (x : String) (σ' : ex_S) (ce : Cell) (q9 : Addr) (H : Heap) (locs : List Loc) (cells slots : Nat) (ls : Array Slot) (pc : Nat) (rest : List Value), ex_hh μ = none → E (.inr x) σ' → va_P D ex_cl (ex_W G ad σ') H → va_S A s.heap H locs → H[q9]? = some ce → ce.vm = .none → s.vm.findClass x = some ce.cls → cells ≤ mcR → slots ≤ msR → vx_W p l e R s m args below meth c H locs cells slots Q (F0 m pc ls rest) q9) :
    ∀ q, ex_stp X C μ E (ex_P p l e R s m args below meth c Q D G ad A μ mcR msR) q → ex_P p l e R s m args below meth c Q D G ad A μ mcR msR q := by
  rintro ⟨pc, lv, st, σ, b⟩ h H locs cells slots ls hP hS hl hc hs
  unfold ex_stp at h
  split at h
  case h_2 => exact h.elim
  rename_i ins len hat
  dsimp only at h hat hP hl hc hs ⊢
  obtain ⟨hdg, hok⟩ := hp _ (ex_find_mem hat)
  dsimp only at hdg hok
  have hD : va_D A (ex_W G ad σ) := ex_W_D hinj hAk
  have htsz : ls.size = ex_maxL μ := hl.1
  have hcat1 : ∀ (i : Nat) (v : Value), lv[i]? = some v → ex_kn v = true → ls[i]? = some (.val (ex_cv ad v)) := hl.2.2.2.1
  have hcanlt : ∀ i, ex_can (ex_lg μ) lv.length i = true → i < ex_maxL μ := fun i hi => by
    simp only [ex_can, Bool.and_eq_true] at hi
    rw [← hl.2.2.1]
    exact Nat.le_of_ble_eq_true hi.1
  have hcall : ∀ inst idx : Nat, (inst = 0 ∨ inst = 1) → (inst = 1 → decode (ex_bytes μ) pc = .ok (.invokevirtual idx, 3)) → (inst = 0 → decode (ex_bytes μ) pc = .ok (.invokestatic idx, 3)) → ex_call C μ inst idx pc lv st σ b (ex_P p l e R s m args below meth c Q D G ad A μ mcR msR) E → W p l e R s m args below meth c H locs cells slots Q (F0 m pc ls (st.map (ex_cv ad))) := by
    intro inst idx hii hd1 hd0 h
    replace h := ex_call_e h
    obtain ⟨M, ν, k1, k2, k3, k4, k5, k6, h⟩ := h
    obtain ⟨d, hR, hMet⟩ := hC M _ σ _ h ν k2 (ex_cal_law _ hK _ (ex_find_mem k1)) k4
    have hst : (st.take (ex_np ν + inst)).reverse.reverse ++ st.drop (ex_np ν + inst) = st := by rw [List.reverse_reverse, List.take_append_drop]
    have hrun := ex_run (locs := locs) (cells := cells) (slots := slots) (meth := meth) (below := below) (e := e) hx hb hml hK hown hts hcx hA hAk k1 k2 k3 (hMet H.size) k4 k5 hP hS htsz hR ⟨by omega, by omega⟩ hd1 hd0 hii
    rw [hst] at hrun
    refine ex_callrow hrun hS hA hAk (fun v σ' H1 locs1 hE hP1 hS1 => ?_) (fun x σ' ce q9 H1 locs1 hE hP1 hS1 hce hcv hcl => ?_)
    · have h9 := hE H1 locs1 (cells + ex_mc ν) (slots + 6 * ex_mc ν) ls hP1 hS1 hl (by dsimp only; omega) (by dsimp only; omega)
      cases v <;> simpa using h9
    · dsimp only at hE
      unfold ex_exc at hE
      split at hE
      · rename_i hh
        exact hout x σ' ce q9 H1 locs1 _ _ ls pc _ hh hE hP1 hS1 hce hcv hcl (by omega) (by omega)
      · rename_i hh hhe
        split at hE
        · rename_i h' hh'
          obtain ⟨pre, z, suf, e1, e2, e3, e4, e5⟩ := ex_hnd_e hh'
          have okz := ex_cat_ok _ hK _ (ex_find_mem e4)
          dsimp only at okz
          refine cg_catch (own := ex_own (ex_K μ)) (name := x) (E := x) hown (tableOf pre) ⟨z.1, z.2.1, z.2.2.1, z.2.2.2⟩ (tableOf suf) (by rw [htab hh hhe, e1]; simp [tableOf]) (fun y hy => ?_) ?_ okz.2.2.1 (hts _ (List.mem_filter.mpr ⟨okz.1, rfl⟩)) (va_Nw.use rfl (hcx.2.2.2.1 _ (List.mem_filter.mpr ⟨okz.2.1, rfl⟩))) hce hcv hcl ?_
          · obtain ⟨y', hy', rfl⟩ := List.mem_map.mp hy
            rcases e5 y' hy' with q | ⟨n, q1, q2⟩
            · left
              simp only [covers]
              by_cases qa : y'.1 ≤ pc
              · have qb : ¬ pc < y'.2.1 := fun z => q ⟨qa, z⟩
                simp [qb]
              · simp [qa]
            · right
              have oky := ex_cat_ok _ hK _ (ex_find_mem q1)
              dsimp only at oky
              exact ⟨oky.2.2.1, n, hts _ (List.mem_filter.mpr ⟨oky.1, rfl⟩), hcx.2.2.2.2.2 x okz.2.2.2 n oky.2.2.2 (fun z => q2 z.symm)⟩
          · simp [covers, e2.1, e2.2]
          · show W p l e R s m args below meth c H1 locs1 _ _ Q (F0 m z.2.2.1 ls [.ref q9])
            rw [e3]
            split at hE
            · rename_i i hati
              obtain ⟨hdg2, -⟩ := hp _ (ex_find_mem hati)
              obtain ⟨hi, hE⟩ := ex_put_e hE
              exact lv_astore_n hx hb hdg2 rfl hl.lv (hcanlt _ hi) rfl (fun ls' hl' => hE H1 locs1 _ _ ls' hP1 hS1 (hl.put hi (fun z => by cases z) rfl hl') (by dsimp only; omega) (by dsimp only; omega))
            · rename_i i hati
              obtain ⟨hdg2, -⟩ := hp _ (ex_find_mem hati)
              obtain ⟨hi, hE⟩ := ex_put_e hE
              exact lv_astore hx hb hdg2 hl.lv (hcanlt _ hi) rfl (fun ls' hl' => hE H1 locs1 _ _ ls' hP1 hS1 (hl.put hi (fun z => by cases z) rfl hl') (by dsimp only; omega) (by dsimp only; omega))
            · exact hE.elim
        · exact hE.elim
  cases ins
  case iconst i =>
    have e1 : len = 1 := beq_iff_eq.mp hok
    subst e1
    simp only [ex_ins] at h
    exact lv_iconst hx hb hdg rfl (h H locs cells slots ls hP hS hl hc hs)
  case bipush i =>
    have e1 : len = 2 := beq_iff_eq.mp hok
    subst e1
    simp only [ex_ins] at h
    exact lv_bipush hx hb hdg rfl (h H locs cells slots ls hP hS hl hc hs)
  case sipush i =>
    have e1 : len = 3 := beq_iff_eq.mp hok
    subst e1
    simp only [ex_ins] at h
    exact lv_sipush hx hb hdg rfl (h H locs cells slots ls hP hS hl hc hs)
  case lconst i =>
    have e1 : len = 1 := beq_iff_eq.mp hok
    subst e1
    simp only [ex_ins] at h
    exact lv_lconst hx hb hdg rfl (h H locs cells slots ls hP hS hl hc hs)
  case ldc idx =>
    have e1 : len = 2 := beq_iff_eq.mp hok
    subst e1
    simp only [ex_ins] at h
    split at h
    · rename_i v hv
      exact lv_ldc hx hb hown (hts _ (ex_cst_ok hK hv)) hdg (h H locs cells slots ls hP hS hl hc hs)
    · exact h.elim
  case iload_n i =>
    have e1 : len = 1 := beq_iff_eq.mp hok
    subst e1
    simp only [ex_ins] at h
    replace h := ex_ldI_e h
    obtain ⟨x, hi, h⟩ := h
    exact lv_iload_n hx hb hdg rfl (hcat1 _ _ hi rfl) (h H locs cells slots ls hP hS hl hc hs)
  case iload i =>
    have e1 : len = 2 := beq_iff_eq.mp hok
    subst e1
    simp only [ex_ins] at h
    replace h := ex_ldI_e h
    obtain ⟨x, hi, h⟩ := h
    exact lv_iload hx hb hdg (hcat1 _ _ hi rfl) (h H locs cells slots ls hP hS hl hc hs)
  case lload_n i =>
    have e1 : len = 1 := beq_iff_eq.mp hok
    subst e1
    simp only [ex_ins] at h
    replace h := ex_ldL_e h
    obtain ⟨x, hi, h⟩ := h
    exact lv_lload_n hx hb hdg rfl (hcat1 _ _ hi rfl) (h H locs cells slots ls hP hS hl hc hs)
  case lload i =>
    have e1 : len = 2 := beq_iff_eq.mp hok
    subst e1
    simp only [ex_ins] at h
    replace h := ex_ldL_e h
    obtain ⟨x, hi, h⟩ := h
    exact lv_lload hx hb hdg (hcat1 _ _ hi rfl) (h H locs cells slots ls hP hS hl hc hs)
  case aload_n i =>
    have e1 : len = 1 := beq_iff_eq.mp hok
    subst e1
    simp only [ex_ins] at h
    replace h := ex_ldR_e h
    obtain ⟨x, hi, h⟩ := h
    exact lv_aload_n hx hb hdg rfl (hcat1 _ _ hi rfl) (h H locs cells slots ls hP hS hl hc hs)
  case aload i =>
    have e1 : len = 2 := beq_iff_eq.mp hok
    subst e1
    simp only [ex_ins] at h
    replace h := ex_ldR_e h
    obtain ⟨x, hi, h⟩ := h
    exact lv_aload hx hb hdg (hcat1 _ _ hi rfl) (h H locs cells slots ls hP hS hl hc hs)
  case istore_n i =>
    have e1 : len = 1 := beq_iff_eq.mp hok
    subst e1
    simp only [ex_ins] at h
    replace h := ex_p1_e h
    obtain ⟨x, r, rfl, h⟩ := h
    replace h := ex_put_e h
    obtain ⟨hi, h⟩ := h
    exact lv_istore_n hx hb hdg rfl hl.lv (hcanlt _ hi) rfl (fun ls' hl' => h H locs cells slots ls' hP hS (hl.put hi (fun _ => rfl) rfl hl') hc hs)
  case istore i =>
    have e1 : len = 2 := beq_iff_eq.mp hok
    subst e1
    simp only [ex_ins] at h
    replace h := ex_p1_e h
    obtain ⟨x, r, rfl, h⟩ := h
    replace h := ex_put_e h
    obtain ⟨hi, h⟩ := h
    exact lv_istore hx hb hdg hl.lv (hcanlt _ hi) rfl (fun ls' hl' => h H locs cells slots ls' hP hS (hl.put hi (fun _ => rfl) rfl hl') hc hs)
  case iinc i n =>
    have e1 : len = 3 := beq_iff_eq.mp hok
    subst e1
    simp only [ex_ins] at h
    replace h := ex_ldI_e h
    obtain ⟨x, hi, h⟩ := h
    replace h := ex_put_e h
    obtain ⟨hi2, h⟩ := h
    obtain ⟨k, hk⟩ := List.getElem?_of_mem (ex_al_in (ad := ad) hi rfl)
    exact lv_iinc hx hb hdg hl.lv hk rfl (hcanlt _ hi2) rfl (fun ls' hl' => h H locs cells slots ls' hP hS (hl.put hi2 (fun _ => rfl) rfl hl') hc hs)
  case iadd =>
    have e1 : len = 1 := beq_iff_eq.mp hok
    subst e1
    simp only [ex_ins] at h
    replace h := ex_p2_e h
    obtain ⟨x, y, r, rfl, h⟩ := h
    exact lv_iadd hx hb hdg (h H locs cells slots ls hP hS hl hc hs)
  case isub =>
    have e1 : len = 1 := beq_iff_eq.mp hok
    subst e1
    simp only [ex_ins] at h
    replace h := ex_p2_e h
    obtain ⟨x, y, r, rfl, h⟩ := h
    exact lv_isub hx hb hdg (h H locs cells slots ls hP hS hl hc hs)
  case imul =>
    have e1 : len = 1 := beq_iff_eq.mp hok
    subst e1
    simp only [ex_ins] at h
    replace h := ex_p2_e h
    obtain ⟨x, y, r, rfl, h⟩ := h
    exact lv_imul hx hb hdg (h H locs cells slots ls hP hS hl hc hs)
  case iand =>
    have e1 : len = 1 := beq_iff_eq.mp hok
    subst e1
    simp only [ex_ins] at h
    replace h := ex_p2_e h
    obtain ⟨x, y, r, rfl, h⟩ := h
    exact lv_iand hx hb hdg (h H locs cells slots ls hP hS hl hc hs)
  case ior =>
    have e1 : len = 1 := beq_iff_eq.mp hok
    subst e1
    simp only [ex_ins] at h
    replace h := ex_p2_e h
    obtain ⟨x, y, r, rfl, h⟩ := h
    exact lv_ior hx hb hdg (h H locs cells slots ls hP hS hl hc hs)
  case ixor =>
    have e1 : len = 1 := beq_iff_eq.mp hok
    subst e1
    simp only [ex_ins] at h
    replace h := ex_p2_e h
    obtain ⟨x, y, r, rfl, h⟩ := h
    exact lv_ixor hx hb hdg (h H locs cells slots ls hP hS hl hc hs)
  case ishl =>
    have e1 : len = 1 := beq_iff_eq.mp hok
    subst e1
    simp only [ex_ins] at h
    replace h := ex_p2_e h
    obtain ⟨x, y, r, rfl, h⟩ := h
    exact lv_ishl hx hb hdg (h H locs cells slots ls hP hS hl hc hs)
  case ishr =>
    have e1 : len = 1 := beq_iff_eq.mp hok
    subst e1
    simp only [ex_ins] at h
    replace h := ex_p2_e h
    obtain ⟨x, y, r, rfl, h⟩ := h
    exact lv_ishr hx hb hdg (h H locs cells slots ls hP hS hl hc hs)
  case ineg =>
    have e1 : len = 1 := beq_iff_eq.mp hok
    subst e1
    simp only [ex_ins] at h
    replace h := ex_p1_e h
    obtain ⟨x, r, rfl, h⟩ := h
    exact lv_ineg hx hb hdg (h H locs cells slots ls hP hS hl hc hs)
  case ladd =>
    have e1 : len = 1 := beq_iff_eq.mp hok
    subst e1
    simp only [ex_ins] at h
    replace h := ex_pll_e h
    obtain ⟨x, y, r, rfl, h⟩ := h
    exact lv_ladd hx hb hdg (h H locs cells slots ls hP hS hl hc hs)
  case lshl =>
    have e1 : len = 1 := beq_iff_eq.mp hok
    subst e1
    simp only [ex_ins] at h
    replace h := ex_pli_e h
    obtain ⟨x, y, r, rfl, h⟩ := h
    exact lv_lshl hx hb hdg rfl (h H locs cells slots ls hP hS hl hc hs)
  case lshr =>
    have e1 : len = 1 := beq_iff_eq.mp hok
    subst e1
    simp only [ex_ins] at h
    replace h := ex_pli_e h
    obtain ⟨x, y, r, rfl, h⟩ := h
    exact lv_lshr hx hb hdg rfl (h H locs cells slots ls hP hS hl hc hs)
  case lcmp =>
    have e1 : len = 1 := beq_iff_eq.mp hok
    subst e1
    simp only [ex_ins] at h
    replace h := ex_pll_e h
    obtain ⟨x, y, r, rfl, h⟩ := h
    exact W.lcmp hx hb hdg (h H locs cells slots ls hP hS hl hc hs)
  case i2l =>
    have e1 : len = 1 := beq_iff_eq.mp hok
    subst e1
    simp only [ex_ins] at h
    replace h := ex_p1_e h
    obtain ⟨x, r, rfl, h⟩ := h
    exact lv_i2l hx hb hdg rfl (h H locs cells slots ls hP hS hl hc hs)
  case l2i =>
    have e1 : len = 1 := beq_iff_eq.mp hok
    subst e1
    simp only [ex_ins] at h
    replace h := ex_pl_e h
    obtain ⟨x, r, rfl, h⟩ := h
    exact lv_l2i hx hb hdg rfl (h H locs cells slots ls hP hS hl hc hs)
  case dup =>
    have e1 : len = 1 := beq_iff_eq.mp hok
    subst e1
    simp only [ex_ins] at h
    split at h
    · exact lv_dup hx hb hdg rfl (h H locs cells slots ls hP hS hl hc hs)
    · exact lv_dup hx hb hdg rfl (h H locs cells slots ls hP hS hl hc hs)
    · exact h.elim
  case dup2 =>
    have e1 : len = 1 := beq_iff_eq.mp hok
    subst e1
    simp only [ex_ins] at h
    replace h := ex_pa_e h
    obtain ⟨a, i, r, rfl, h⟩ := h
    exact lv_dup2_11 hx hb hdg rfl rfl (h H locs cells slots ls hP hS hl hc hs)
  case goto off =>
    have e1 : len = 3 := beq_iff_eq.mp hok
    subst e1
    simp only [ex_ins] at h
    replace h := ex_jmp_e h
    obtain ⟨t, ht, h⟩ := h
    exact lv_goto hx hb hdg ht (h H locs cells slots ls hP hS hl hc hs)
  case if_icmp cc off =>
    have e1 : len = 3 := beq_iff_eq.mp hok
    subst e1
    simp only [ex_ins] at h
    replace h := ex_p2_e h
    obtain ⟨x, y, r, rfl, h⟩ := h
    replace h := ex_jmp_e h
    obtain ⟨t, ht, h⟩ := h
    cases cc <;> dsimp only [ex_br] at h
    · exact lv_icmp_eq hx hb hdg ht (fun q => by rw [if_pos q] at h; exact h H locs cells slots ls hP hS hl hc hs) (fun q => by rw [if_neg q] at h; exact h H locs cells slots ls hP hS hl hc hs)
    · exact lv_icmp_ne hx hb hdg ht (fun q => by rw [if_neg q] at h; exact h H locs cells slots ls hP hS hl hc hs) (fun q => by rw [if_pos q] at h; exact h H locs cells slots ls hP hS hl hc hs)
    · exact lv_icmp_lt hx hb hdg ht (fun q => by rw [if_pos q] at h; exact h H locs cells slots ls hP hS hl hc hs) (fun q => by rw [if_neg q] at h; exact h H locs cells slots ls hP hS hl hc hs)
    · exact lv_icmp_ge hx hb hdg ht (fun q => by rw [if_pos q] at h; exact h H locs cells slots ls hP hS hl hc hs) (fun q => by rw [if_neg q] at h; exact h H locs cells slots ls hP hS hl hc hs)
    · exact lv_icmp_gt hx hb hdg ht (fun q => by rw [if_pos q] at h; exact h H locs cells slots ls hP hS hl hc hs) (fun q => by rw [if_neg q] at h; exact h H locs cells slots ls hP hS hl hc hs)
    · exact lv_icmp_le hx hb hdg ht (fun q => by rw [if_pos q] at h; exact h H locs cells slots ls hP hS hl hc hs) (fun q => by rw [if_neg q] at h; exact h H locs cells slots ls hP hS hl hc hs)
  case ifCond cc off =>
    have e1 : len = 3 := beq_iff_eq.mp hok
    subst e1
    simp only [ex_ins] at h
    replace h := ex_p1_e h
    obtain ⟨x, r, rfl, h⟩ := h
    replace h := ex_jmp_e h
    obtain ⟨t, ht, h⟩ := h
    cases cc <;> dsimp only [ex_br] at h
    · exact lv_if_eq hx hb hdg ht (fun q => by rw [if_pos q] at h; exact h H locs cells slots ls hP hS hl hc hs) (fun q => by rw [if_neg q] at h; exact h H locs cells slots ls hP hS hl hc hs)
    · exact lv_if_ne hx hb hdg ht (fun q => by rw [if_neg q] at h; exact h H locs cells slots ls hP hS hl hc hs) (fun q => by rw [if_pos q] at h; exact h H locs cells slots ls hP hS hl hc hs)
    · exact lv_if_lt hx hb hdg ht (fun q => by rw [if_pos q] at h; exact h H locs cells slots ls hP hS hl hc hs) (fun q => by rw [if_neg q] at h; exact h H locs cells slots ls hP hS hl hc hs)
    · exact lv_if_ge hx hb hdg ht (fun q => by rw [if_pos q] at h; exact h H locs cells slots ls hP hS hl hc hs) (fun q => by rw [if_neg q] at h; exact h H locs cells slots ls hP hS hl hc hs)
    · exact lv_if_gt hx hb hdg ht (fun q => by rw [if_pos q] at h; exact h H locs cells slots ls hP hS hl hc hs) (fun q => by rw [if_neg q] at h; exact h H locs cells slots ls hP hS hl hc hs)
    · exact lv_if_le hx hb hdg ht (fun q => by rw [if_pos q] at h; exact h H locs cells slots ls hP hS hl hc hs) (fun q => by rw [if_neg q] at h; exact h H locs cells slots ls hP hS hl hc hs)
  case tableswitch dflt lo hi offs =>
    simp only [ex_ins] at h
    replace h := ex_p1_e h
    obtain ⟨x, r, rfl, h⟩ := h
    by_cases q : x.toInt < lo ∨ hi < x.toInt
    · rw [if_pos q] at h
      replace h := ex_jmp_e h
      obtain ⟨t, ht, h⟩ := h
      exact lv_tableOut hx hb hdg q ht (h H locs cells slots ls hP hS hl hc hs)
    · rw [if_neg q] at h
      split at h
      · rename_i off ho
        replace h := ex_jmp_e h
        obtain ⟨t, ht, h⟩ := h
        exact lv_tableIn hx hb hdg (fun z => q (Or.inl z)) (fun z => q (Or.inr z)) ho ht (h H locs cells slots ls hP hS hl hc hs)
      · exact h.elim
  case getfield idx =>
    have e1 : len = 3 := beq_iff_eq.mp hok
    subst e1
    simp only [ex_ins] at h
    replace h := ex_pr_e h
    obtain ⟨a, r, rfl, h⟩ := h
    replace h := ex_getf_e h
    obtain ⟨ci, j, ne, fs, q, h1, h2, h3, h⟩ := h
    obtain ⟨z, f1, f2, f3, f4⟩ := ex_fld_ok hK h1
    have hv : (fs.map (ex_fc ad σ))[j]? = some (ex_fc ad σ q) := by rw [List.getElem?_map, h3]; rfl
    cases ne
    · exact va_get (D := D) (ci := ci) (v := ex_fc ad σ q) (C := z.1) (T := z.2.1) (N := z.2.2) (ref := (z.2.1 j).1) hx hb hts (ex_cls_ok f1).1 hown hcx.1 hP a (ex_W_at h2) f1 j f2 (hts _ (f3 rfl)) (fun _ h9 => h9) hv hdg (h H locs cells slots ls hP hS hl hc hs)
    · exact va_getN (D := D) (ci := ci) (v := ex_fc ad σ q) (C := z.1) (T := z.2.1) (N := z.2.2) (ref := (z.2.1 j).1) (host := "DarkDesk") hx hb hts (ex_cls_ok f1).1 hown hcx.1 hP a (ex_W_at h2) f1 j f2 (va_Nw.use rfl (hcx.2.2.2.1 _ (f4 rfl))) (fun _ h9 => h9) hv hdg (h H locs cells slots ls hP hS hl hc hs)
  case putfield idx =>
    have e1 : len = 3 := beq_iff_eq.mp hok
    subst e1
    simp only [ex_ins] at h
    split at h
    · rename_i v a r
      replace h := ex_putf_e h
      obtain ⟨ci, j, ne, fs, t, n, zz, h1, h2, h3, h, h4⟩ := h
      obtain ⟨z, f1, f2, f3, f4⟩ := ex_fld_ok hK h1
      obtain ⟨g1, g2⟩ := h4 z f1
      obtain ⟨c1, ⟨ty0, c2⟩, c3⟩ := ex_cls_ok f1
      have hlen : j < (fs.map (ex_fc ad σ)).length := by rw [List.length_map]; exact (List.getElem?_eq_some_iff.mp h3).1
      have fin : ∀ (ty : FieldType), t = 0 → parseFieldDescriptor (z.2.1 j).2.2.1 = some ty → narrow ty (.int v) = .int v → fits ty (.int v) = true → ex_P p l e R s m args below meth c Q D G ad A μ mcR msR (pc + 3, lv, r, ex_sF σ n v, b) → W p l e R s m args below meth c H locs cells slots Q (F0 m pc ls (.int v :: .ref (ad a) :: r.map (ex_cv ad))) := fun ty ht hty hn hfit hh => by
        subst ht
        have kk : ∀ (H1 : Heap) (locs1 : List Loc), va_P D ex_cl ((ex_W G ad σ).set a (ad a, .inr (ci, (fs.map (ex_fc ad σ)).set j (.int v)))) H1 → va_D A ((ex_W G ad σ).set a (ad a, .inr (ci, (fs.map (ex_fc ad σ)).set j (.int v)))) → va_S A s.heap H1 locs1 → W p l e R s m args below meth c H1 locs1 cells slots Q (F0 m (pc + 3) ls (r.map (ex_cv ad))) := fun H1 locs1 hP1 _ hS1 => by
          rw [ex_W_sF h2 h3] at hP1
          exact hh H1 locs1 cells slots ls hP1 hS1 hl hc hs
        cases ne
        · exact va_put (D := D) (ci := ci) (C := z.1) (T := z.2.1) (N := z.2.2) (ref := (z.2.1 j).1) hx hb hts c1 ty0 c2 c3 hown hcx.1 hP hD hS a (ex_W_at h2) f1 j f2 (hts _ (f3 rfl)) (fun _ h9 => h9) g1 hty hn hfit hlen hdg kk
        · exact va_putN (D := D) (ci := ci) (C := z.1) (T := z.2.1) (N := z.2.2) (ref := (z.2.1 j).1) (host := "DarkDesk") hx hb hts c1 ty0 c2 c3 hown hcx.1 hP hD hS a (ex_W_at h2) f1 j f2 (va_Nw.use rfl (hcx.2.2.2.1 _ (f4 rfl))) (fun _ h9 => h9) g1 hty hn hfit hlen hdg kk
      rcases g2 with ⟨rfl, rfl, hd⟩ | ⟨rfl, rfl, hd⟩ | ⟨rfl, rfl, hd⟩
      · exact fin .int rfl (by rw [hd]; decide +kernel) rfl rfl h
      · exact fin .boolean rfl (by rw [hd]; decide +kernel) (ex_bool_n h.1).1 (ex_bool_n h.1).2.1 h.2
      · exact h.elim
    · rename_i v a r
      replace h := ex_putf_e h
      obtain ⟨ci, j, ne, fs, t, n, zz, h1, h2, h3, h, h4⟩ := h
      obtain ⟨z, f1, f2, f3, f4⟩ := ex_fld_ok hK h1
      obtain ⟨g1, g2⟩ := h4 z f1
      obtain ⟨c1, ⟨ty0, c2⟩, c3⟩ := ex_cls_ok f1
      have hlen : j < (fs.map (ex_fc ad σ)).length := by rw [List.length_map]; exact (List.getElem?_eq_some_iff.mp h3).1
      rcases g2 with ⟨rfl, rfl, hd⟩ | ⟨rfl, rfl, hd⟩ | ⟨rfl, rfl, hd⟩
      · exact h.elim
      · exact h.elim
      · have kk : ∀ (H1 : Heap) (locs1 : List Loc), va_P D ex_cl ((ex_W G ad σ).set a (ad a, .inr (ci, (fs.map (ex_fc ad σ)).set j (.long v)))) H1 → va_D A ((ex_W G ad σ).set a (ad a, .inr (ci, (fs.map (ex_fc ad σ)).set j (.long v)))) → va_S A s.heap H1 locs1 → W p l e R s m args below meth c H1 locs1 cells slots Q (F0 m (pc + 3) ls (r.map (ex_cv ad))) := fun H1 locs1 hP1 _ hS1 => by
          rw [ex_W_sG h2 h3] at hP1
          exact h H1 locs1 cells slots ls hP1 hS1 hl hc hs
        cases ne
        · exact va_put (D := D) (ci := ci) (ty := .long) (C := z.1) (T := z.2.1) (N := z.2.2) (ref := (z.2.1 j).1) hx hb hts c1 ty0 c2 c3 hown hcx.1 hP hD hS a (ex_W_at h2) f1 j f2 (hts _ (f3 rfl)) (fun _ h9 => h9) g1 (by rw [hd]; decide +kernel) rfl rfl hlen hdg kk
        · exact va_putN (D := D) (ci := ci) (ty := .long) (C := z.1) (T := z.2.1) (N := z.2.2) (ref := (z.2.1 j).1) (host := "DarkDesk") hx hb hts c1 ty0 c2 c3 hown hcx.1 hP hD hS a (ex_W_at h2) f1 j f2 (va_Nw.use rfl (hcx.2.2.2.1 _ (f4 rfl))) (fun _ h9 => h9) g1 (by rw [hd]; decide +kernel) rfl rfl hlen hdg kk
    · exact h.elim
  case iaload =>
    have e1 : len = 1 := beq_iff_eq.mp hok
    subst e1
    simp only [ex_ins] at h
    replace h := ex_pa_e h
    obtain ⟨a, i, r, rfl, h⟩ := h
    unfold ex_ild at h
    split at h
    · split at h
      · rename_i L xs
        obtain ⟨x1, x2, x3⟩ := hX L xs rfl
        exact va_sld hx hb x1 x2 x3 hS h.1 hdg (h.2 H locs cells slots ls hP hS hl hc hs)
      · exact h.elim
    · replace h := ex_arr_e h
      obtain ⟨n, id, h1, h2, h⟩ := h
      exact va_iald hx hb hcx.1 hP _ 0 (ex_W_at h1) rfl h2 hdg (h H locs cells slots ls hP hS hl hc hs)
  case baload =>
    have e1 : len = 1 := beq_iff_eq.mp hok
    subst e1
    simp only [ex_ins] at h
    replace h := ex_pa_e h
    obtain ⟨a, i, r, rfl, h⟩ := h
    replace h := ex_arr_e h
    obtain ⟨n, id, h1, h2, h⟩ := h
    exact va_zald hx hb hcx.1 hP _ 1 (ex_W_at h1) rfl h2 hdg (h H locs cells slots ls hP hS hl hc hs)
  case laload =>
    have e1 : len = 1 := beq_iff_eq.mp hok
    subst e1
    simp only [ex_ins] at h
    replace h := ex_pa_e h
    obtain ⟨a, i, r, rfl, h⟩ := h
    replace h := ex_arr_e h
    obtain ⟨n, id, h1, h2, h⟩ := h
    exact va_lald hx hb hcx.1 hP _ 2 (ex_W_at h1) rfl h2 hdg (h H locs cells slots ls hP hS hl hc hs)
  case iastore =>
    have e1 : len = 1 := beq_iff_eq.mp hok
    subst e1
    simp only [ex_ins] at h
    replace h := ex_pai_e h
    obtain ⟨a, i, v, r, rfl, h⟩ := h
    replace h := ex_arr_e h
    obtain ⟨n, id, h1, h2, h⟩ := h
    refine va_iast hx hb hcx.1 hP hD hS _ 0 (ex_W_at h1) rfl h2 hdg (fun H1 locs1 hP1 _ hS1 => ?_)
    rw [ex_W_row 0 (by decide) h1] at hP1
    exact h H1 locs1 cells slots ls hP1 hS1 hl hc hs
  case bastore =>
    have e1 : len = 1 := beq_iff_eq.mp hok
    subst e1
    simp only [ex_ins] at h
    replace h := ex_pai_e h
    obtain ⟨a, i, v, r, rfl, h⟩ := h
    replace h := ex_arr_e h
    obtain ⟨n, id, h1, h2, h3, h⟩ := h
    refine va_zast hx hb hcx.1 hP hD hS _ 1 (ex_W_at h1) rfl h2 hdg (fun H1 locs1 hP1 _ hS1 => ?_)
    rw [(ex_bool_n h3).2.2, ex_W_row 1 (by decide) h1] at hP1
    exact h H1 locs1 cells slots ls hP1 hS1 hl hc hs
  case lastore =>
    have e1 : len = 1 := beq_iff_eq.mp hok
    subst e1
    simp only [ex_ins] at h
    replace h := ex_pal_e h
    obtain ⟨a, i, v, r, rfl, h⟩ := h
    replace h := ex_arr_e h
    obtain ⟨n, id, h1, h2, h⟩ := h
    refine va_last hx hb hcx.1 hP hD hS _ 2 (ex_W_at h1) rfl h2 hdg (fun H1 locs1 hP1 _ hS1 => ?_)
    rw [ex_W_sB h1] at hP1
    exact h H1 locs1 cells slots ls hP1 hS1 hl hc hs
  case arraylength =>
    have e1 : len = 1 := beq_iff_eq.mp hok
    subst e1
    simp only [ex_ins] at h
    replace h := ex_pr_e h
    obtain ⟨a, r, rfl, h⟩ := h
    unfold ex_len at h
    split at h
    · split at h
      · rename_i L xs
        obtain ⟨x1, x2, x3⟩ := hX L _ rfl
        exact va_slen hx hb x1 x2 x3 hS hdg (h H locs cells slots ls hP hS hl hc hs)
      · exact h.elim
    · split at h
      · rename_i kd n id h1
        have hkd := (ex_lay_arr h1).2.1
        match kd, hkd, h1 with
        | 0, _, h1 => exact va_alen hx hb hcx.1 hP _ 0 (ex_W_at h1) rfl rfl hdg (h H locs cells slots ls hP hS hl hc hs)
        | 1, _, h1 => exact va_alen hx hb hcx.1 hP _ 1 (ex_W_at h1) rfl rfl hdg (h H locs cells slots ls hP hS hl hc hs)
        | 2, _, h1 => exact va_alen hx hb hcx.1 hP _ 2 (ex_W_at h1) rfl rfl hdg (h H locs cells slots ls hP hS hl hc hs)
      · exact h.elim
  case invokevirtual idx =>
    have e1 : len = 3 := beq_iff_eq.mp hok
    subst e1
    simp only [ex_ins] at h
    exact hcall 1 idx (Or.inr rfl) (fun _ => hdg) (fun z => by cases z) h
  case invokestatic idx =>
    have e1 : len = 3 := beq_iff_eq.mp hok
    subst e1
    simp only [ex_ins] at h
    obtain ⟨w1, w2, w3, w4, w5, w6, w7, w8⟩ := ex_nat_ws
    split at h
    · exact hcall 0 idx (Or.inl rfl) (fun z => by cases z) (fun _ => hdg) h
    · rename_i hn
      replace h := ex_copy_e h
      obtain ⟨n, dp, a1, sp, a0, r, rfl, hr, n0, i0, h1, n1, i1, h2, c1, c2, c3, c4, c5, h⟩ := h
      refine va_copyi hx hb (by rw [hml, htsz]) hown (hts _ (ex_nat_ok hK hn)) (hts _ w4) (hts _ w3) (hts _ w6) hcx.1 hP hD hS a0 a1 0 0 (ex_W_at h1) (ex_W_at h2) rfl rfl rfl c1 c2 c3 c4 c5 (fun _ _ => rfl) (by omega) ?_ hdg (fun H1 locs1 hP1 _ hS1 => ?_)
      · have := ex_room_e hr ad
        have h8 : nativeFrameWords "java/lang/System" "arraycopy" 5 ≤ 150 := by decide +kernel
        omega
      · rw [ex_W_row 0 (by decide) h2] at hP1
        exact h H1 locs1 cells slots ls hP1 hS1 hl hc hs
    · rename_i hn
      replace h := ex_p2_e h
      obtain ⟨x, y, r, rfl, h⟩ := h
      split at h
      · rename_i hr
        have := ex_room_e hr ad
        exact va_mmax hx hb (by rw [hml, htsz]) hown (hts _ (ex_nat_ok hK hn)) (hts _ w1) (hts _ w5) (hts _ w7) (by omega) (by omega) (by omega) (by omega) hdg (h H locs cells slots ls hP hS hl hc hs)
      · exact h.elim
    · rename_i hn
      replace h := ex_p2_e h
      obtain ⟨x, y, r, rfl, h⟩ := h
      split at h
      · rename_i hr
        have := ex_room_e hr ad
        exact va_mmin hx hb (by rw [hml, htsz]) hown (hts _ (ex_nat_ok hK hn)) (hts _ w2) (hts _ w5) (hts _ w8) (by omega) (by omega) (by omega) (by omega) hdg (h H locs cells slots ls hP hS hl hc hs)
      · exact h.elim
    · exact h.elim
  case new ik =>
    have e1 : len = 3 := beq_iff_eq.mp hok
    subst e1
    simp only [ex_ins] at h
    split at h
    · rename_i x h1 h2
      exact hthr x σ H locs cells slots ls pc ik _ h.2 h1 hat hP hS htsz (by omega) (by omega) (ex_room_e h2 ad)
    · exact h.elim
  case ireturn =>
    have e1 : len = 1 := beq_iff_eq.mp hok
    subst e1
    simp only [ex_ins] at h
    split at h
    · rename_i v
      split at h
      · rename_i hr
        exact hret (some (.int v)) σ H locs cells slots ls pc .ireturn h hP hS (by omega) (by omega) hdg (Or.inl ⟨v, rfl, rfl, Or.inl hr⟩)
      · rename_i hr
        exact hret (some (.int v)) σ H locs cells slots ls pc .ireturn h.2 hP hS (by omega) (by omega) hdg (Or.inl ⟨v, rfl, rfl, Or.inr ⟨hr, h.1⟩⟩)
      · exact h.elim
    · exact h.elim
  case lreturn =>
    have e1 : len = 1 := beq_iff_eq.mp hok
    subst e1
    simp only [ex_ins] at h
    split at h
    · rename_i v
      split at h
      · rename_i hr
        exact hret (some (.long v)) σ H locs cells slots ls pc .lreturn h hP hS (by omega) (by omega) hdg (Or.inr (Or.inl ⟨v, rfl, rfl, hr⟩))
      · exact h.elim
    · exact h.elim
  case return_ =>
    have e1 : len = 1 := beq_iff_eq.mp hok
    subst e1
    simp only [ex_ins] at h
    split at h
    · split at h
      · rename_i hr
        exact hret none σ H locs cells slots ls pc .return_ h hP hS (by omega) (by omega) hdg (Or.inr (Or.inr ⟨rfl, rfl, hr⟩))
      · exact h.elim
    · exact h.elim
  all_goals exact h.elim
end EXD
