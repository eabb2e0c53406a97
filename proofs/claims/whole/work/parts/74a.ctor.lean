/-! ===== constructors: rows made one behind another ===== -/
section CT
/-- length of the push, places, kind, entry of the field, field, where the link's word stands -/
abbrev ct_sp : Type := Nat × Nat × Nat × Nat × Nat × Nat
def ct_push (pl n : Nat) : Instr := match pl with
  | 1 => .iconst n
  | 2 => .bipush n
  | _ => .sipush n
def ct_pv (pl n : Nat) : Int32 := match pl with
  | 1 => Int32.ofInt n
  | 2 => (Int8.ofInt n).toInt32
  | _ => (Int16.ofInt n).toInt32
def ct_at (kd : Nat) : ArrayType := match kd with
  | 0 => .int
  | 1 => .boolean
  | _ => .long
def ct_ft (kd : Nat) : FieldType := match kd with
  | 0 => .int
  | 1 => .boolean
  | _ => .long
def ct_cell (G : Nat → ClassId) (kd n : Nat) : va_E := match kd with
  | 0 => .inl (G 0, n, .inl (fun _ => 0))
  | 1 => .inl (G 1, n, .inl (fun _ => 0))
  | _ => .inl (G 2, n, .inr (.inl (fun _ => 0)))
def ct_ok (cc : ByteArray) (own : String) (T : u_T) (N : Nat) : Nat → List ct_sp → Nat → Bool
  | pc, [], e => pc == e
  | pc, (pl, n, kd, idx, j, i) :: t, e => decide (decode cc pc = .ok (.aload_n 0, 1)) && decide (decode cc (pc + 1) = .ok (ct_push pl n, pl)) && decide (decode cc (pc + 1 + pl) = .ok (.newarray (ct_at kd), 2)) && decide (decode cc (pc + 1 + pl + 2) = .ok (.putfield idx, 3)) && ex_wp i (.fieldLink own idx (T j).1 (T j).2.1 (T j).2.2.1) && decide (j < N) && (T j).2.2.2 && ((T j).1 == own) && decide (parseFieldDescriptor (T j).2.2.1 = some (.array (ct_ft kd))) && decide (n < 1000) && decide (kd < 3) && decide (1 ≤ pl ∧ pl < 4) && decide (ct_pv pl n = nI n) && ct_ok cc own T N (pc + 1 + pl + 2 + 3) t e
def ct_fs (fs : List Value) : List ct_sp → List Nat → List Value
  | sp :: t, q :: qs => ct_fs (fs.set sp.2.2.2.2.1 (.ref q)) t qs
  | _, _ => fs
def ct_cells (G : Nat → ClassId) : List ct_sp → List Nat → va_W
  | sp :: t, q :: qs => (q, ct_cell G sp.2.2.1 sp.2.1) :: ct_cells G t qs
  | _, _ => []
def ct_sum : List ct_sp → Nat
  | [] => 0
  | sp :: t => sp.2.1 + ct_sum t
variable {p : Program} {l : Launch} {e : Env} {R : Room} {s : State} {m : MethodId} {args : Array Value} {below : List Frame} {meth : Method} {c : Code} {Q : State → Prop} {cc : ByteArray}
variable {D : va_G} {G : Nat → ClassId} {A : Nat → Prop} {ls : Array Slot} {rest : List Value}
theorem ct_arrw : Cond.arrayClass .int ∈ ex_tb ∧ Cond.arrayClass .boolean ∈ ex_tb ∧ Cond.arrayClass .long ∈ ex_tb := ⟨List.mem_filter.mpr ⟨List.mem_of_getElem? (i := 105) rfl, rfl⟩, List.mem_filter.mpr ⟨List.mem_of_getElem? (i := 160) rfl, rfl⟩, List.mem_filter.mpr ⟨List.mem_of_getElem? (i := 224) rfl, rfl⟩⟩
theorem ct_newa {H : Heap} {locs : List Loc} {cells slots pc kd n : Nat} {ws : va_W} (hx : p.tables.exec = Jvm.exec) (hb : c.code = cc) (hts : ∀ w ∈ ex_tb, w.before args s = true) (hK : va_K D ex_cl (ex_tys G) s) (hP : va_P D ex_cl ws H) (hD : va_D A ws) (hS : va_S A s.heap H locs) (hA : ∀ q, s.heap.size ≤ q → A q)
    (hkd : kd < 3) (hn : n < 1000) (hcells : cells + 1 ≤ R.cells) (hslots : slots + n ≤ R.slots) (hdg : decode cc pc = .ok (.newarray (ct_at kd), 2))
    (kk : ∀ (q : Nat) (H1 : Heap), va_P D ex_cl (ws ++ [(q, ct_cell G kd n)]) H1 → va_D A (ws ++ [(q, ct_cell G kd n)]) → va_S A s.heap H1 locs → W p l e R s m args below meth c H1 locs (cells + 1) (slots + n) Q (F0 m (pc + 2) ls (.ref q :: rest))) : W p l e R s m args below meth c H locs cells slots Q (F0 m pc ls (.int (nI n) :: rest)) := by
  have h1 : ¬ nI n < 0 := nI_pos (by omega)
  have h2 : (nI n).toNatClampNeg = n := nI_clamp (by omega)
  match kd, hkd with
  | 0, _ =>
    refine va_newa (atype := .int) hx hb (hts _ ct_arrw.1) rfl hK hP hD hS hA (a0 := (n, .inl (fun _ => 0))) (fun _ => rfl) h1 h2 (by show n * 4 ≤ _; omega) hcells hslots hdg (fun q cA H1 hK1 hP1 hD1 hS1 => ?_)
    have e1 : cA = G 0 := Option.some.inj ((hK1.2 3 _ rfl).2.symm.trans (hK.2 0 _ rfl).2)
    subst e1
    exact kk q H1 hP1 hD1 hS1
  | 1, _ =>
    refine va_newa (atype := .boolean) hx hb (hts _ ct_arrw.2.1) rfl hK hP hD hS hA (a0 := (n, .inl (fun _ => 0))) (fun _ => rfl) h1 h2 (by show n * 1 ≤ _; omega) hcells hslots hdg (fun q cA H1 hK1 hP1 hD1 hS1 => ?_)
    have e1 : cA = G 1 := Option.some.inj ((hK1.2 3 _ rfl).2.symm.trans (hK.2 1 _ rfl).2)
    subst e1
    exact kk q H1 hP1 hD1 hS1
  | 2, _ =>
    refine va_newa (atype := .long) hx hb (hts _ ct_arrw.2.2) rfl hK hP hD hS hA (a0 := (n, .inr (.inl (fun _ => 0)))) (fun _ => rfl) h1 h2 (by show n * 8 ≤ _; omega) hcells hslots hdg (fun q cA H1 hK1 hP1 hD1 hS1 => ?_)
    have e1 : cA = G 2 := Option.some.inj ((hK1.2 3 _ rfl).2.symm.trans (hK.2 2 _ rfl).2)
    subst e1
    exact kk q H1 hP1 hD1 hS1
theorem ct_arrays {ci h0 : Nat} {z : vw_C} (hx : p.tables.exec = Jvm.exec) (hb : c.code = cc) (hts : ∀ w ∈ ex_tb, w.before args s = true) (hown : s.vm.findClass z.1 = some m.cls) (hnm : meth.name = "<init>") (hK : va_K D ex_cl (ex_tys G) s) (hA : ∀ q, s.heap.size ≤ q → A q) (hc : ex_cl[ci]? = some z) (hl0 : ls[0]? = some (.val (.ref h0))) :
    ∀ (L : List ct_sp) (pc pe cells slots : Nat) (fs : List Value) (ws : va_W) (H : Heap) (locs : List Loc), ct_ok cc z.1 z.2.1 z.2.2 pc L pe = true → fs.length = z.2.2 → va_P D ex_cl ((h0, .inr (ci, fs)) :: ws) H → va_D A ((h0, .inr (ci, fs)) :: ws) → va_S A s.heap H locs → cells + L.length ≤ R.cells → slots + ct_sum L ≤ R.slots →
      (∀ (qs : List Nat) (H1 : Heap) (locs1 : List Loc), qs.length = L.length → va_P D ex_cl ((h0, .inr (ci, ct_fs fs L qs)) :: (ws ++ ct_cells G L qs)) H1 → va_D A ((h0, .inr (ci, ct_fs fs L qs)) :: (ws ++ ct_cells G L qs)) → va_S A s.heap H1 locs1 → W p l e R s m args below meth c H1 locs1 (cells + L.length) (slots + ct_sum L) Q (F0 m pe ls [])) →
      W p l e R s m args below meth c H locs cells slots Q (F0 m pc ls [])
  | [], pc, pe, cells, slots, fs, ws, H, locs, hok, hfl, hP, hD, hS, hc1, hs1, kk => by
    have e1 : pc = pe := beq_iff_eq.mp hok
    subst e1
    exact kk [] H locs rfl (by rw [show ct_cells G [] [] = [] from rfl, List.append_nil]; exact hP) (by rw [show ct_cells G [] [] = [] from rfl, List.append_nil]; exact hD) hS
  | (pl, n, kd, idx, j, i) :: t, pc, pe, cells, slots, fs, ws, H, locs, hok, hfl, hP, hD, hS, hc1, hs1, kk => by
    simp only [ct_ok, Bool.and_eq_true, decide_eq_true_eq, beq_iff_eq] at hok
    obtain ⟨⟨⟨⟨⟨⟨⟨⟨⟨⟨⟨⟨⟨d0, d1⟩, d2⟩, d3⟩, hw⟩, hj⟩, hfin⟩, hdecl⟩, hty⟩, hn⟩, hkd⟩, hpl⟩, hpv⟩, hrest⟩ := hok
    obtain ⟨c1, ⟨ty0, c2⟩, c3⟩ := ex_cls_ok hc
    simp only [List.length_cons, ct_sum] at hc1 hs1 kk
    refine lv_aload_n hx hb d0 rfl hl0 ?_
    have push : W p l e R s m args below meth c H locs cells slots Q (F0 m (pc + 1 + pl) ls (.int (nI n) :: [.ref h0])) → W p l e R s m args below meth c H locs cells slots Q (F0 m (pc + 1) ls [.ref h0]) := fun k => by
      rcases (show pl = 1 ∨ pl = 2 ∨ pl = 3 by omega) with rfl | rfl | rfl
      · exact lv_iconst hx hb d1 hpv k
      · exact lv_bipush hx hb d1 hpv k
      · exact lv_sipush hx hb d1 hpv k
    refine push (ct_newa hx hb hts hK hP hD hS hA hkd hn (by omega) (by omega) d2 (fun q H1 hP1 hD1 hS1 => ?_))
    refine va_putF (D := D) (ci := ci) (C := z.1) (T := z.2.1) (N := z.2.2) (ref := (z.2.1 j).1) (ty := .array (ct_ft kd)) hx hb hts c1 ty0 c2 c3 hown hK hP1 hD1 hS1 0 rfl hc j hj (hts _ (List.mem_filter.mpr ⟨ex_wp_in hw, rfl⟩)) (fun _ h9 => h9) hfin hnm hdecl hty rfl rfl (by rw [hfl]; exact hj) d3 (fun H2 locs2 hP2 hD2 hS2 => ?_)
    refine ct_arrays hx hb hts hown hnm hK hA hc hl0 t _ pe (cells + 1) (slots + n) (fs.set j (.ref q)) (ws ++ [(q, ct_cell G kd n)]) H2 locs2 hrest (by rw [List.length_set]; exact hfl) hP2 hD2 hS2 (by omega) (by omega) (fun qs H3 locs3 hq hP3 hD3 hS3 => ?_)
    have h9 := kk (q :: qs) H3 locs3 (by rw [List.length_cons, hq]) (by rw [List.append_assoc] at hP3; exact hP3) (by rw [List.append_assoc] at hD3; exact hD3) hS3
    rw [show cells + 1 + t.length = cells + (t.length + 1) by omega, show slots + n + ct_sum t = slots + (n + ct_sum t) by omega]
    exact h9
theorem ct_obj : Cond.instanceMethod objectInit ∈ ex_tb ∧ Cond.code objectInit ⟨#[0xb1]⟩ 1 none ∈ ex_tb := ⟨List.mem_filter.mpr ⟨List.mem_of_getElem? (i := 61) (by decide +kernel), rfl⟩, List.mem_filter.mpr ⟨List.mem_of_getElem? (i := 62) (by decide +kernel), rfl⟩⟩
/-- the world behind a constructor: the object, its rows -/
abbrev ct_w (G : Nat → ClassId) (ci h0 : Nat) (fs : List Value) (L : List ct_sp) (qs : List Nat) : va_W := (h0, .inr (ci, ct_fs fs L qs)) :: ct_cells G L qs
abbrev ct_Pc (D : va_G) (G : Nat → ClassId) (ci h0 : Nat) (a : List Value) (fs : List Value) (sz : Nat) : Array Value → State → Prop := va_Pc (.ref h0 :: a) (fun U => U.heap.size = sz ∧ va_P D ex_cl [(h0, .inr (ci, fs))] U.heap ∧ va_K D ex_cl (ex_tys G) U)
abbrev ct_Qc (D : va_G) (G : Nat → ClassId) (ci h0 : Nat) (fs : List Value) (L : List ct_sp) (f : List Value → List Value) (sz : Nat) : Array Value → State → Outcome → State → Prop := va_Qv (fun qs : List Nat => qs.length = L.length) (fun qs t => va_P D ex_cl ((h0, .inr (ci, f (ct_fs fs L qs))) :: ct_cells G L qs) t.heap ∧ va_D (va_A [(h0, .inr (ci, fs))] sz) ((h0, .inr (ci, f (ct_fs fs L qs))) :: ct_cells G L qs)) (va_A [(h0, .inr (ci, fs))] sz)
theorem ct_init0 {l : Launch} {D : va_G} {G : Nat → ClassId} {ci h0 sz i1 p1 pe : Nat} {z : vw_C} {fs : List Value} {L : List ct_sp} {y : MethodName} {bytes : ByteArray} (hy : plainName y.cls = true) (hyc : y.cls = z.1) (hyn : y.name = "<init>") (hc : ex_cl[ci]? = some z) (hfl : fs.length = z.2.2)
    (d0 : decode bytes 0 = .ok (.aload_n 0, 1)) (d1 : decode bytes 1 = .ok (.invokespecial i1, 3)) (hw1 : ex_wp p1 (.methodLink z.1 i1 objectInit) = true) (hok : ct_ok bytes z.1 z.2.1 z.2.2 4 L pe = true) (de : decode bytes pe = .ok (.return_, 1)) :
    Met l y (Cond.code y bytes 1 none :: ex_tb) { frames := 1, cells := L.length, slots := ct_sum L, locals := 12 } (ct_Pc D G ci h0 [] fs sz) (ct_Qc D G ci h0 fs L id sz) L.length (ct_sum L) (va_A [(h0, .inr (ci, fs))] sz) := by
  refine Met.ofW (cc := bytes) (maxL := 1) (ret := none) hy rfl ?_
  intro p e s m args below meth c s₁ B hml hv
  obtain ⟨rfl, hsz, hP, hK⟩ := hv
  have hx := B.exec
  have hb := B.bytes
  have hr := B.returns
  have hts0 := atoms_spec (ws := Cond.code y bytes 1 none :: ex_tb) B.pre
  have hts : ∀ w ∈ ex_tb, w.before [Value.ref h0].toArray s = true := fun w hw => hts0 w (List.mem_cons_of_mem _ hw)
  have hown : s.vm.findClass z.1 = some m.cls := by rw [← hyc]; exact findClass_of_methodNamed B.named
  have hlocks := B.notSynchronized
  have hin : meth.name = "<init>" := by rw [(name_of_methodNamed B.named B.method).1]; exact hyn
  subst hsz
  have hD : va_D (va_A [(h0, .inr (ci, fs))] s.heap.size) [(h0, .inr (ci, fs))] := ⟨fun i j p q hp hq he => by
    match i, j, hp, hq with
    | 0, 0, _, _ => rfl
    | 0, j + 1, _, hq => simp at hq
    | i + 1, _, hp, _ => simp at hp, fun k q hk => va_A.in hk⟩
  have hA : ∀ q : Nat, s.heap.size ≤ q → va_A [(h0, .inr (ci, fs))] s.heap.size q := fun q h => Or.inr h
  have hS : va_S (va_A [(h0, .inr (ci, fs))] s.heap.size) s.heap s.heap [] := va_S.rf
  have hl := lv_entry ([.ref h0]) (n := 1) (Nat.le_of_ble_eq_true rfl)
  rw [lg_entry_eq]
  generalize (lg_sl ([.ref h0]) ++ List.replicate (1 - (lg_sl ([.ref h0])).length) Slot.unset).toArray = ls at hl ⊢
  have hl : lv_has ls 1 [(0, .ref h0)] := hl
  refine lv_aload_n hx hb d0 rfl (lv_at hl 0 rfl) ?_
  refine W.objInit hx hb hown (hts _ (List.mem_filter.mpr ⟨ex_wp_in hw1, rfl⟩)) (hts _ ct_obj.1) (hts _ ct_obj.2) rfl (by rw [hml]; exact hl.1) rfl d1 (Nat.le_of_ble_eq_true rfl) (Nat.le_of_ble_eq_true rfl) ?_
  refine W.eq (g2 := F0 m 4 ls []) rfl ?_
  refine ct_arrays (A := va_A [(h0, .inr (ci, fs))] s.heap.size) hx hb hts hown hin hK hA hc (lv_at hl 0 rfl) L 4 pe 0 0 fs [] s.heap [] hok hfl hP hD hS (by show 0 + L.length ≤ L.length; omega) (by show 0 + ct_sum L ≤ ct_sum L; omega) (fun qs H1 locs1 hq hP1 hD1 hS1 => ?_)
  rw [Nat.zero_add, Nat.zero_add]
  exact W.vret hx hb hr (fun t ht hW => ⟨⟨qs, rfl, hq, by rw [ht]; exact hP1, hD1⟩, hS1.F ht⟩) hS1.2.2 de
theorem ct_init1 {l : Launch} {D : va_G} {G : Nat → ClassId} {ci h0 w0 sz i1 p1 pe idx j p2 : Nat} {z : vw_C} {fs : List Value} {L : List ct_sp} {y : MethodName} {bytes : ByteArray} {cn : String} (hy : plainName y.cls = true) (hyc : y.cls = z.1) (hyn : y.name = "<init>") (hc : ex_cl[ci]? = some z) (hfl : fs.length = z.2.2) (hfl2 : ∀ qs, (ct_fs fs L qs).length = z.2.2)
    (d0 : decode bytes 0 = .ok (.aload_n 0, 1)) (d1 : decode bytes 1 = .ok (.invokespecial i1, 3)) (hw1 : ex_wp p1 (.methodLink z.1 i1 objectInit) = true) (hok : ct_ok bytes z.1 z.2.1 z.2.2 4 L pe = true)
    (e0 : decode bytes pe = .ok (.aload_n 0, 1)) (e1 : decode bytes (pe + 1) = .ok (.aload_n 1, 1)) (e2 : decode bytes (pe + 2) = .ok (.putfield idx, 3)) (de : decode bytes (pe + 5) = .ok (.return_, 1))
    (hj : j < z.2.2) (hw2 : ex_wp p2 (.fieldLink z.1 idx (z.2.1 j).1 (z.2.1 j).2.1 (z.2.1 j).2.2.1) = true) (hfin : (z.2.1 j).2.2.2 = true) (hdecl : (z.2.1 j).1 = z.1) (hty : parseFieldDescriptor (z.2.1 j).2.2.1 = some (.object cn)) :
    Met l y (Cond.code y bytes 2 none :: ex_tb) { frames := 1, cells := L.length, slots := ct_sum L, locals := 12 } (ct_Pc D G ci h0 [.ref w0] fs sz) (ct_Qc D G ci h0 fs L (fun f => f.set j (.ref w0)) sz) L.length (ct_sum L) (va_A [(h0, .inr (ci, fs))] sz) := by
  refine Met.ofW (cc := bytes) (maxL := 2) (ret := none) hy rfl ?_
  intro p e s m args below meth c s₁ B hml hv
  obtain ⟨rfl, hsz, hP, hK⟩ := hv
  have hx := B.exec
  have hb := B.bytes
  have hr := B.returns
  have hts0 := atoms_spec (ws := Cond.code y bytes 2 none :: ex_tb) B.pre
  have hts : ∀ w ∈ ex_tb, w.before [Value.ref h0, Value.ref w0].toArray s = true := fun w hw => hts0 w (List.mem_cons_of_mem _ hw)
  have hown : s.vm.findClass z.1 = some m.cls := by rw [← hyc]; exact findClass_of_methodNamed B.named
  have hlocks := B.notSynchronized
  have hin : meth.name = "<init>" := by rw [(name_of_methodNamed B.named B.method).1]; exact hyn
  subst hsz
  have hD : va_D (va_A [(h0, .inr (ci, fs))] s.heap.size) [(h0, .inr (ci, fs))] := ⟨fun i j p q hp hq he => by
    match i, j, hp, hq with
    | 0, 0, _, _ => rfl
    | 0, j + 1, _, hq => simp at hq
    | i + 1, _, hp, _ => simp at hp, fun k q hk => va_A.in hk⟩
  have hA : ∀ q : Nat, s.heap.size ≤ q → va_A [(h0, .inr (ci, fs))] s.heap.size q := fun q h => Or.inr h
  have hS : va_S (va_A [(h0, .inr (ci, fs))] s.heap.size) s.heap s.heap [] := va_S.rf
  have hl := lv_entry ([.ref h0, .ref w0]) (n := 2) (Nat.le_of_ble_eq_true rfl)
  rw [lg_entry_eq]
  generalize (lg_sl ([.ref h0, .ref w0]) ++ List.replicate (2 - (lg_sl ([.ref h0, .ref w0])).length) Slot.unset).toArray = ls at hl ⊢
  have hl : lv_has ls 2 [(0, .ref h0), (1, .ref w0)] := hl
  obtain ⟨c1, ⟨ty0, c2⟩, c3⟩ := ex_cls_ok hc
  refine lv_aload_n hx hb d0 rfl (lv_at hl 0 rfl) ?_
  refine W.objInit hx hb hown (hts _ (List.mem_filter.mpr ⟨ex_wp_in hw1, rfl⟩)) (hts _ ct_obj.1) (hts _ ct_obj.2) rfl (by rw [hml]; exact hl.1) rfl d1 (Nat.le_of_ble_eq_true rfl) (Nat.le_of_ble_eq_true rfl) ?_
  refine W.eq (g2 := F0 m 4 ls []) rfl ?_
  refine ct_arrays (A := va_A [(h0, .inr (ci, fs))] s.heap.size) hx hb hts hown hin hK hA hc (lv_at hl 0 rfl) L 4 pe 0 0 fs [] s.heap [] hok hfl hP hD hS (by show 0 + L.length ≤ L.length; omega) (by show 0 + ct_sum L ≤ ct_sum L; omega) (fun qs H1 locs1 hq hP1 hD1 hS1 => ?_)
  rw [Nat.zero_add, Nat.zero_add]
  refine lv_aload_n hx hb e0 rfl (lv_at hl 0 rfl) ?_
  refine lv_aload_n hx hb e1 rfl (lv_at hl 1 rfl) ?_
  refine va_putF (D := D) (ci := ci) (C := z.1) (T := z.2.1) (N := z.2.2) (ref := (z.2.1 j).1) (ty := .object cn) hx hb hts c1 ty0 c2 c3 hown hK hP1 hD1 hS1 0 rfl hc j hj (hts _ (List.mem_filter.mpr ⟨ex_wp_in hw2, rfl⟩)) (fun _ h9 => h9) hfin hin hdecl hty rfl rfl (by rw [hfl2 qs]; exact hj) e2 (fun H2 locs2 hP2 hD2 hS2 => ?_)
  exact W.vret hx hb hr (fun t ht hW => ⟨⟨qs, rfl, hq, by rw [ht]; exact hP2, hD2⟩, hS2.F ht⟩) hS2.2.2 de
end CT
