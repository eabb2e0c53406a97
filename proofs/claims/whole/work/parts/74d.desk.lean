/-! ===== DarkDesk's constructor ===== -/
section CW
set_option maxRecDepth 20000
abbrev ct_S4 : Type := (Nat × List Nat) × (Nat × List Nat) × (Nat × List Nat) × (Nat × List Nat)
/-- Works, Stores, Planner, Night behind the desk -/
def ct_w4 (G : Nat → ClassId) (h0 : Nat) (u : ct_S4) : va_W := (h0, .inr (4, [.ref u.1.1, .ref u.2.1.1, .ref u.2.2.1.1, .ref u.2.2.2.1])) :: (((u.1.1, .inr (3, ct_fs ct_f3 ct_L3 u.1.2)) :: ct_cells G ct_L3 u.1.2) ++ (((u.2.1.1, .inr (2, ct_fs ct_f2 ct_L2 u.2.1.2)) :: ct_cells G ct_L2 u.2.1.2) ++ (((u.2.2.1.1, .inr (1, (ct_fs ct_f1 ct_L1 u.2.2.1.2).set 0 (.ref u.1.1))) :: ct_cells G ct_L1 u.2.2.1.2) ++ ((u.2.2.2.1, .inr (0, (ct_fs ct_f0 ct_L0 u.2.2.2.2).set 0 (.ref u.1.1))) :: ct_cells G ct_L0 u.2.2.2.2))))
def ct_p4 (u : ct_S4) : Prop := u.1.2.length = ct_L3.length ∧ u.2.1.2.length = ct_L2.length ∧ u.2.2.1.2.length = ct_L1.length ∧ u.2.2.2.2.length = ct_L0.length
abbrev ct_f4 : List Value := [.null, .null, .null, .null]
abbrev ct_mc : Nat := 4 + (ct_L3.length + ct_L2.length + ct_L1.length + ct_L0.length)
abbrev ct_ms : Nat := 49 + (ct_sum ct_L3 + ct_sum ct_L2 + ct_sum ct_L1 + ct_sum ct_L0)
theorem ct_num : ct_L3.length = 6 ∧ ct_L2.length = 11 ∧ ct_L1.length = 9 ∧ ct_L0.length = 1 := by decide
abbrev ct_rm4 : Room := { frames := 3, cells := ct_mc, slots := ct_ms, locals := 60 }
abbrev ct_N (U : State) : Prop := va_Nw (.methodLinkNest RX4 9 yX3_init "DarkDesk") U ∧ va_Nw (.methodLinkNest RX4 18 yX2_init "DarkDesk") U
abbrev ct_P4 (D : va_G) (G : Nat → ClassId) (h0 sz : Nat) : Array Value → State → Prop := va_Pc [.ref h0] (fun U => U.heap.size = sz ∧ va_P D ex_cl [(h0, .inr (4, ct_f4))] U.heap ∧ va_K D ex_cl (ex_tys G) U ∧ ct_N U)
theorem ct_wd {i : Nat} {w : Cond} (h : ex_wp i w = true) (hg : goodWord w = true) : w ∈ ex_tb := List.mem_filter.mpr ⟨ex_wp_in h, hg⟩
theorem ct_code {i : Nat} {w : Cond} (h : lw_tbl[i]? = some w) (hg : goodWord w = true) : GoodIn ex_tb (w :: ex_tb) := ex_good_in (fun z hz => by
  rcases List.mem_cons.mp hz with rfl | hz
  · exact List.mem_filter.mpr ⟨List.mem_of_getElem? h, hg⟩
  · exact hz)
theorem ct_d4_0 : decode cX4_init 0 = .ok (.aload_n 0, 1) := by decide +kernel
theorem ct_d4_1 : decode cX4_init 1 = .ok (.invokespecial 1, 3) := by decide +kernel
theorem ct_d4_4 : decode cX4_init 4 = .ok (.aload_n 0, 1) := by decide +kernel
theorem ct_d4_5 : decode cX4_init 5 = .ok (.new 7, 3) := by decide +kernel
theorem ct_d4_8 : decode cX4_init 8 = .ok (.dup, 1) := by decide +kernel
theorem ct_d4_9 : decode cX4_init 9 = .ok (.invokespecial 9, 3) := by decide +kernel
theorem ct_d4_12 : decode cX4_init 12 = .ok (.putfield 10, 3) := by decide +kernel
theorem ct_d4_15 : decode cX4_init 15 = .ok (.aload_n 0, 1) := by decide +kernel
theorem ct_d4_16 : decode cX4_init 16 = .ok (.new 16, 3) := by decide +kernel
theorem ct_d4_19 : decode cX4_init 19 = .ok (.dup, 1) := by decide +kernel
theorem ct_d4_20 : decode cX4_init 20 = .ok (.invokespecial 18, 3) := by decide +kernel
theorem ct_d4_23 : decode cX4_init 23 = .ok (.putfield 19, 3) := by decide +kernel
theorem ct_d4_26 : decode cX4_init 26 = .ok (.aload_n 0, 1) := by decide +kernel
theorem ct_d4_27 : decode cX4_init 27 = .ok (.new 23, 3) := by decide +kernel
theorem ct_d4_30 : decode cX4_init 30 = .ok (.dup, 1) := by decide +kernel
theorem ct_d4_31 : decode cX4_init 31 = .ok (.aload_n 0, 1) := by decide +kernel
theorem ct_d4_32 : decode cX4_init 32 = .ok (.getfield 10, 3) := by decide +kernel
theorem ct_d4_35 : decode cX4_init 35 = .ok (.invokespecial 25, 3) := by decide +kernel
theorem ct_d4_38 : decode cX4_init 38 = .ok (.putfield 28, 3) := by decide +kernel
theorem ct_d4_41 : decode cX4_init 41 = .ok (.aload_n 0, 1) := by decide +kernel
theorem ct_d4_42 : decode cX4_init 42 = .ok (.new 32, 3) := by decide +kernel
theorem ct_d4_45 : decode cX4_init 45 = .ok (.dup, 1) := by decide +kernel
theorem ct_d4_46 : decode cX4_init 46 = .ok (.aload_n 0, 1) := by decide +kernel
theorem ct_d4_47 : decode cX4_init 47 = .ok (.getfield 10, 3) := by decide +kernel
theorem ct_d4_50 : decode cX4_init 50 = .ok (.invokespecial 34, 3) := by decide +kernel
theorem ct_d4_53 : decode cX4_init 53 = .ok (.putfield 35, 3) := by decide +kernel
theorem ct_d4_56 : decode cX4_init 56 = .ok (.return_, 1) := by decide +kernel
set_option maxHeartbeats 4000000 in
theorem ct_c4 {l : Launch} {D : va_G} {G : Nat → ClassId} (h0 sz : Nat) : Met l yX4_init (Cond.code yX4_init cX4_init 1 none :: ex_tb) ct_rm4 (ct_P4 D G h0 sz) (va_Qv ct_p4 (fun u t => va_P D ex_cl (ct_w4 G h0 u) t.heap ∧ va_D (va_A [(h0, .inr (4, ct_f4))] sz) (ct_w4 G h0 u)) (va_A [(h0, .inr (4, ct_f4))] sz)) ct_mc ct_ms (va_A [(h0, .inr (4, ct_f4))] sz) := by
  refine Met.ofW (cc := cX4_init) (maxL := 1) (ret := none) (by decide +kernel) rfl ?_
  intro p e s m args below meth c s₁ B hml hv
  obtain ⟨rfl, hsz, hP, hK, hN1, hN2⟩ := hv
  have hx := B.exec
  have hb := B.bytes
  have hr := B.returns
  have hts0 := atoms_spec (ws := Cond.code yX4_init cX4_init 1 none :: ex_tb) B.pre
  have hts : ∀ w ∈ ex_tb, w.before [Value.ref h0].toArray s = true := fun w hw => hts0 w (List.mem_cons_of_mem _ hw)
  have hown : s.vm.findClass RX4 = some m.cls := findClass_of_methodNamed B.named
  have hlocks := B.notSynchronized
  have hin : meth.name = "<init>" := (name_of_methodNamed B.named B.method).1
  subst hsz
  have hD0 : va_D (va_A [(h0, .inr (4, ct_f4))] s.heap.size) ([] ++ [(h0, .inr (4, ct_f4))]) := ⟨fun i j p q hp hq he => by
    match i, j, hp, hq with
    | 0, 0, _, _ => rfl
    | 0, j + 1, _, hq => simp at hq
    | i + 1, _, hp, _ => simp at hp, fun k q hk => va_A.in hk⟩
  generalize hAe : va_A [(h0, .inr (4, ct_f4))] s.heap.size = A at hD0 ⊢
  have hA : ∀ q : Nat, s.heap.size ≤ q → A q := fun q h => by rw [← hAe]; exact Or.inr h
  have hS : va_S A s.heap s.heap [] := va_S.rf
  have hP : va_P D ex_cl [(h0, .inr (4, ct_f4))] s.heap := hP
  have hD : va_D A [(h0, .inr (4, ct_f4))] := hD0
  have hl := lv_entry ([.ref h0]) (n := 1) (Nat.le_of_ble_eq_true rfl)
  rw [lg_entry_eq]
  generalize (lg_sl ([.ref h0]) ++ List.replicate (1 - (lg_sl ([.ref h0])).length) Slot.unset).toArray = ls at hl ⊢
  have hl : lv_has ls 1 [(0, .ref h0)] := hl
  obtain ⟨n3, n2, n1, n0⟩ := ct_num
  have c4 := ex_cls_ok (ci := 4) (q := (RX4, TX4, 4)) rfl
  have c3 := ex_cls_ok (ci := 3) (q := (RX3, TX3, 8)) rfl
  have c2 := ex_cls_ok (ci := 2) (q := (RX2, TX2, 14)) rfl
  have c1 := ex_cls_ok (ci := 1) (q := (RX1, TX1, 18)) rfl
  have c0 := ex_cls_ok (ci := 0) (q := (RX0, TX0, 9)) rfl
  refine lv_aload_n hx hb ct_d4_0 rfl (lv_at hl 0 rfl) ?_
  refine W.objInit hx hb hown (hts _ (ct_wd (i := 60) (by decide +kernel) rfl)) (hts _ ct_obj.1) (hts _ ct_obj.2) rfl (by rw [hml]; exact hl.1) rfl (idx := 1) ct_d4_1 (Nat.le_of_ble_eq_true rfl) (Nat.le_of_ble_eq_true rfl) ?_
  refine W.eq (g2 := F0 m 4 ls []) rfl ?_
  -- DarkDesk$Works
  refine lv_aload_n hx hb ct_d4_4 rfl (lv_at hl 0 rfl) ?_
  refine va_new (ci := 3) (fs := ct_f3) (C := RX3) (T := TX3) (N := 8) (index := 7) hx hb hts c3.1 tyX3 tyX3_ok hown (hts _ (ct_wd (i := 63) (by decide +kernel) rfl)) (hts _ (ct_wd (i := 64) (by decide +kernel) rfl)) (hts _ (ct_wd (i := 39) (by decide +kernel) rfl)) hK hP hD hS hA rfl (by decide) (by show _ ≤ 4 + _; omega) (by show _ ≤ 49 + _; omega) ct_d4_5 (fun q3 H hP hD hS => ?_)
  refine lv_dup hx hb ct_d4_8 rfl ?_
  refine ct_done (w1 := fun qs => (q3, .inr (3, ct_fs ct_f3 ct_L3 qs)) :: ct_cells G ct_L3 qs) hP hD hS hA (va_runIN (As := []) (rest := [.ref q3, .ref h0]) (index := 9) (host := "DarkDesk") ⟨hx, hb, hml, hown, hts⟩ (ct_c3 q3 H.size) ⟨va_cnB 0 hts (ct_code (i := 67) (w := Cond.code yX3_init cX3_init 1 none) (by rfl) rfl) rfl rfl rfl hN1 (hts _ (ct_wd (i := 39) (by decide +kernel) rfl)) ⟨by decide +kernel, by decide +kernel, by decide +kernel⟩ ⟨by show 1 + 1 ≤ 3; omega, by show 8 + (1 + 11) + 12 ≤ 60; omega⟩, rfl, hts _ (ct_wd (i := 66) (by decide +kernel) rfl)⟩ ⟨ct_blind, fun U hU hW => ct_pre hK hP U hU hW⟩ rfl rfl hl.1 rfl (lv_room (Nat.le_of_ble_eq_true rfl)) ct_d4_9 ⟨by show _ ≤ 4 + _; omega, by show _ ≤ 49 + _; omega⟩) (fun u3 H locs h3 hP hD hS => ?_)
  refine va_putF (D := D) (ci := 4) (C := RX4) (T := TX4) (N := 4) (ref := RX4) (index := 10) (ty := .object "DarkDesk$Works") hx hb hts c4.1 tyX4 tyX4_ok nmX4 hown hK hP hD hS 0 rfl rfl 0 (by decide) (hts _ (ct_wd (i := 265) (by decide +kernel) rfl)) (fun _ h9 => h9) rfl hin rfl (by decide +kernel) rfl rfl (Nat.le_of_ble_eq_true rfl) ct_d4_12 (fun H locs hP hD hS => ?_)
  have hP : va_P D ex_cl ((h0, .inr (4, [.ref q3, .null, .null, .null])) :: ((q3, .inr (3, ct_fs ct_f3 ct_L3 u3)) :: ct_cells G ct_L3 u3)) H := hP
  have hD : va_D A ((h0, .inr (4, [.ref q3, .null, .null, .null])) :: ((q3, .inr (3, ct_fs ct_f3 ct_L3 u3)) :: ct_cells G ct_L3 u3)) := hD
  -- DarkDesk$Stores
  refine lv_aload_n hx hb ct_d4_15 rfl (lv_at hl 0 rfl) ?_
  refine va_new (ci := 2) (fs := ct_f2) (C := RX2) (T := TX2) (N := 14) (index := 16) hx hb hts c2.1 tyX2 tyX2_ok hown (hts _ (ct_wd (i := 106) (by decide +kernel) rfl)) (hts _ (ct_wd (i := 107) (by decide +kernel) rfl)) (hts _ (ct_wd (i := 40) (by decide +kernel) rfl)) hK hP hD hS hA rfl (by decide) (by show _ ≤ 4 + _; omega) (by show _ ≤ 49 + _; omega) ct_d4_16 (fun q2 H hP hD hS => ?_)
  refine lv_dup hx hb ct_d4_19 rfl ?_
  refine ct_done (w1 := fun qs => (q2, .inr (2, ct_fs ct_f2 ct_L2 qs)) :: ct_cells G ct_L2 qs) hP hD hS hA (va_runIN (As := []) (rest := [.ref q2, .ref h0]) (index := 18) (host := "DarkDesk") ⟨hx, hb, hml, hown, hts⟩ (ct_c2 q2 H.size) ⟨va_cnB 0 hts (ct_code (i := 110) (w := Cond.code yX2_init cX2_init 1 none) (by rfl) rfl) rfl rfl rfl hN2 (hts _ (ct_wd (i := 40) (by decide +kernel) rfl)) ⟨by decide +kernel, by decide +kernel, by decide +kernel⟩ ⟨by show 1 + 1 ≤ 3; omega, by show 8 + (1 + 11) + 12 ≤ 60; omega⟩, rfl, hts _ (ct_wd (i := 109) (by decide +kernel) rfl)⟩ ⟨ct_blind, fun U hU hW => ct_pre hK hP U hU hW⟩ rfl rfl hl.1 rfl (lv_room (Nat.le_of_ble_eq_true rfl)) ct_d4_20 ⟨by show _ ≤ 4 + _; omega, by show _ ≤ 49 + _; omega⟩) (fun u2 H locs h2 hP hD hS => ?_)
  refine va_putF (D := D) (ci := 4) (C := RX4) (T := TX4) (N := 4) (ref := RX4) (index := 19) (ty := .object "DarkDesk$Stores") hx hb hts c4.1 tyX4 tyX4_ok nmX4 hown hK hP hD hS 0 rfl rfl 1 (by decide) (hts _ (ct_wd (i := 266) (by decide +kernel) rfl)) (fun _ h9 => h9) rfl hin rfl (by decide +kernel) rfl rfl (Nat.le_of_ble_eq_true rfl) ct_d4_23 (fun H locs hP hD hS => ?_)
  have hP : va_P D ex_cl ((h0, .inr (4, [.ref q3, .ref q2, .null, .null])) :: (((q3, .inr (3, ct_fs ct_f3 ct_L3 u3)) :: ct_cells G ct_L3 u3) ++ ((q2, .inr (2, ct_fs ct_f2 ct_L2 u2)) :: ct_cells G ct_L2 u2))) H := hP
  have hD : va_D A ((h0, .inr (4, [.ref q3, .ref q2, .null, .null])) :: (((q3, .inr (3, ct_fs ct_f3 ct_L3 u3)) :: ct_cells G ct_L3 u3) ++ ((q2, .inr (2, ct_fs ct_f2 ct_L2 u2)) :: ct_cells G ct_L2 u2))) := hD
  -- DarkDesk$Planner
  refine lv_aload_n hx hb ct_d4_26 rfl (lv_at hl 0 rfl) ?_
  refine va_new (ci := 1) (fs := ct_f1) (C := RX1) (T := TX1) (N := 18) (index := 23) hx hb hts c1.1 tyX1 tyX1_ok hown (hts _ (ct_wd (i := 161) (by decide +kernel) rfl)) (hts _ (ct_wd (i := 162) (by decide +kernel) rfl)) (hts _ (ct_wd (i := 41) (by decide +kernel) rfl)) hK hP hD hS hA rfl (by decide) (by show _ ≤ 4 + _; omega) (by show _ ≤ 49 + _; omega) ct_d4_27 (fun q1 H hP hD hS => ?_)
  refine lv_dup hx hb ct_d4_30 rfl ?_
  refine lv_aload_n hx hb ct_d4_31 rfl (lv_at hl 0 rfl) ?_
  refine va_get (D := D) (ci := 4) (v := .ref q3) (C := RX4) (T := TX4) (N := 4) (ref := RX4) (index := 10) hx hb hts c4.1 hown hK hP 0 rfl rfl 0 (by decide) (hts _ (ct_wd (i := 265) (by decide +kernel) rfl)) (fun _ h9 => h9) rfl ct_d4_32 ?_
  refine ct_done (w1 := fun qs => (q1, .inr (1, (ct_fs ct_f1 ct_L1 qs).set 0 (.ref q3))) :: ct_cells G ct_L1 qs) hP hD hS hA (va_runI (As := [.ref q3]) (rest := [.ref q1, .ref h0]) (index := 25) ⟨hx, hb, hml, hown, hts⟩ (ct_c1 q1 q3 H.size) (cwI 1 hts (ct_code (i := 165) (w := Cond.code yX1_init cX1_init 2 none) (by rfl) rfl) rfl rfl rfl (hts _ (ct_wd (i := 41) (by decide +kernel) rfl)) (hts _ (ct_wd (i := 163) (by decide +kernel) rfl)) (hts _ (ct_wd (i := 164) (by decide +kernel) rfl)) rfl ⟨by decide +kernel, by decide +kernel, by decide +kernel⟩ ⟨by show 1 + 1 ≤ 3; omega, by show 8 + (2 + 11) + 12 ≤ 60; omega⟩) ⟨ct_blind, fun U hU hW => ct_pre hK hP U hU hW⟩ rfl rfl hl.1 rfl (lv_room (Nat.le_of_ble_eq_true rfl)) ct_d4_35 ⟨by show _ ≤ 4 + _; omega, by show _ ≤ 49 + _; omega⟩) (fun u1 H locs h1 hP hD hS => ?_)
  refine va_putF (D := D) (ci := 4) (C := RX4) (T := TX4) (N := 4) (ref := RX4) (index := 28) (ty := .object "DarkDesk$Planner") hx hb hts c4.1 tyX4 tyX4_ok nmX4 hown hK hP hD hS 0 rfl rfl 2 (by decide) (hts _ (ct_wd (i := 267) (by decide +kernel) rfl)) (fun _ h9 => h9) rfl hin rfl (by decide +kernel) rfl rfl (Nat.le_of_ble_eq_true rfl) ct_d4_38 (fun H locs hP hD hS => ?_)
  have hP : va_P D ex_cl ((h0, .inr (4, [.ref q3, .ref q2, .ref q1, .null])) :: ((((q3, .inr (3, ct_fs ct_f3 ct_L3 u3)) :: ct_cells G ct_L3 u3) ++ ((q2, .inr (2, ct_fs ct_f2 ct_L2 u2)) :: ct_cells G ct_L2 u2)) ++ ((q1, .inr (1, (ct_fs ct_f1 ct_L1 u1).set 0 (.ref q3))) :: ct_cells G ct_L1 u1))) H := hP
  have hD : va_D A ((h0, .inr (4, [.ref q3, .ref q2, .ref q1, .null])) :: ((((q3, .inr (3, ct_fs ct_f3 ct_L3 u3)) :: ct_cells G ct_L3 u3) ++ ((q2, .inr (2, ct_fs ct_f2 ct_L2 u2)) :: ct_cells G ct_L2 u2)) ++ ((q1, .inr (1, (ct_fs ct_f1 ct_L1 u1).set 0 (.ref q3))) :: ct_cells G ct_L1 u1))) := hD
  -- DarkDesk$Night
  refine lv_aload_n hx hb ct_d4_41 rfl (lv_at hl 0 rfl) ?_
  refine va_new (ci := 0) (fs := ct_f0) (C := RX0) (T := TX0) (N := 9) (index := 32) hx hb hts c0.1 tyX0 tyX0_ok hown (hts _ (ct_wd (i := 225) (by decide +kernel) rfl)) (hts _ (ct_wd (i := 226) (by decide +kernel) rfl)) (hts _ (ct_wd (i := 42) (by decide +kernel) rfl)) hK hP hD hS hA rfl (by decide) (by show _ ≤ 4 + _; omega) (by show _ ≤ 49 + _; omega) ct_d4_42 (fun q0 H hP hD hS => ?_)
  refine lv_dup hx hb ct_d4_45 rfl ?_
  refine lv_aload_n hx hb ct_d4_46 rfl (lv_at hl 0 rfl) ?_
  refine va_get (D := D) (ci := 4) (v := .ref q3) (C := RX4) (T := TX4) (N := 4) (ref := RX4) (index := 10) hx hb hts c4.1 hown hK hP 0 rfl rfl 0 (by decide) (hts _ (ct_wd (i := 265) (by decide +kernel) rfl)) (fun _ h9 => h9) rfl ct_d4_47 ?_
  refine ct_done (w1 := fun qs => (q0, .inr (0, (ct_fs ct_f0 ct_L0 qs).set 0 (.ref q3))) :: ct_cells G ct_L0 qs) hP hD hS hA (va_runI (As := [.ref q3]) (rest := [.ref q0, .ref h0]) (index := 34) ⟨hx, hb, hml, hown, hts⟩ (ct_c0 q0 q3 H.size) (cwI 1 hts (ct_code (i := 229) (w := Cond.code yX0_init cX0_init 2 none) (by rfl) rfl) rfl rfl rfl (hts _ (ct_wd (i := 42) (by decide +kernel) rfl)) (hts _ (ct_wd (i := 227) (by decide +kernel) rfl)) (hts _ (ct_wd (i := 228) (by decide +kernel) rfl)) rfl ⟨by decide +kernel, by decide +kernel, by decide +kernel⟩ ⟨by show 1 + 1 ≤ 3; omega, by show 8 + (2 + 11) + 12 ≤ 60; omega⟩) ⟨ct_blind, fun U hU hW => ct_pre hK hP U hU hW⟩ rfl rfl hl.1 rfl (lv_room (Nat.le_of_ble_eq_true rfl)) ct_d4_50 ⟨by show _ ≤ 4 + _; omega, by show _ ≤ 49 + _; omega⟩) (fun u0 H locs h00 hP hD hS => ?_)
  refine va_putF (D := D) (ci := 4) (C := RX4) (T := TX4) (N := 4) (ref := RX4) (index := 35) (ty := .object "DarkDesk$Night") hx hb hts c4.1 tyX4 tyX4_ok nmX4 hown hK hP hD hS 0 rfl rfl 3 (by decide) (hts _ (ct_wd (i := 268) (by decide +kernel) rfl)) (fun _ h9 => h9) rfl hin rfl (by decide +kernel) rfl rfl (Nat.le_of_ble_eq_true rfl) ct_d4_53 (fun H locs hP hD hS => ?_)
  have hP : va_P D ex_cl ((h0, .inr (4, [.ref q3, .ref q2, .ref q1, .ref q0])) :: (((((q3, .inr (3, ct_fs ct_f3 ct_L3 u3)) :: ct_cells G ct_L3 u3) ++ ((q2, .inr (2, ct_fs ct_f2 ct_L2 u2)) :: ct_cells G ct_L2 u2)) ++ ((q1, .inr (1, (ct_fs ct_f1 ct_L1 u1).set 0 (.ref q3))) :: ct_cells G ct_L1 u1)) ++ ((q0, .inr (0, (ct_fs ct_f0 ct_L0 u0).set 0 (.ref q3))) :: ct_cells G ct_L0 u0))) H := hP
  have hD : va_D A ((h0, .inr (4, [.ref q3, .ref q2, .ref q1, .ref q0])) :: (((((q3, .inr (3, ct_fs ct_f3 ct_L3 u3)) :: ct_cells G ct_L3 u3) ++ ((q2, .inr (2, ct_fs ct_f2 ct_L2 u2)) :: ct_cells G ct_L2 u2)) ++ ((q1, .inr (1, (ct_fs ct_f1 ct_L1 u1).set 0 (.ref q3))) :: ct_cells G ct_L1 u1)) ++ ((q0, .inr (0, (ct_fs ct_f0 ct_L0 u0).set 0 (.ref q3))) :: ct_cells G ct_L0 u0))) := hD
  have e9 : (h0, .inr (4, [.ref q3, .ref q2, .ref q1, .ref q0])) :: (((((q3, .inr (3, ct_fs ct_f3 ct_L3 u3)) :: ct_cells G ct_L3 u3) ++ ((q2, .inr (2, ct_fs ct_f2 ct_L2 u2)) :: ct_cells G ct_L2 u2)) ++ ((q1, .inr (1, (ct_fs ct_f1 ct_L1 u1).set 0 (.ref q3))) :: ct_cells G ct_L1 u1)) ++ ((q0, .inr (0, (ct_fs ct_f0 ct_L0 u0).set 0 (.ref q3))) :: ct_cells G ct_L0 u0)) = ct_w4 G h0 ((q3, u3), (q2, u2), (q1, u1), (q0, u0)) := by unfold ct_w4; simp only [List.append_assoc]
  rw [e9] at hP hD
  refine W.widen (k := ct_mc) (n := ct_ms) (by show _ ≤ 4 + _; omega) (by show _ ≤ 49 + _; omega) ?_
  exact W.vret hx hb hr (fun t ht hW => ⟨⟨((q3, u3), (q2, u2), (q1, u1), (q0, u0)), rfl, ⟨h3, h2, h1, h00⟩, by rw [ht]; exact hP, hD⟩, hS.F ht⟩) hS.2.2 ct_d4_56
end CW
