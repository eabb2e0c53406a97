/-! ===== the law, from its entry to the head of its loop ===== -/
section LT
set_option maxRecDepth 20000
theorem ls_d_0 : decode code 0 = .ok (.new 8, 3) := by decide +kernel
theorem ls_d_3 : decode code 3 = .ok (.dup, 1) := by decide +kernel
theorem ls_d_4 : decode code 4 = .ok (.invokespecial 89, 3) := by decide +kernel
theorem ls_d_7 : decode code 7 = .ok (.astore_n 1, 1) := by decide +kernel
theorem ls_d_8 : decode code 8 = .ok (.new 90, 3) := by decide +kernel
theorem ls_d_11 : decode code 11 = .ok (.dup, 1) := by decide +kernel
theorem ls_d_12 : decode code 12 = .ok (.invokespecial 92, 3) := by decide +kernel
theorem ls_d_15 : decode code 15 = .ok (.astore_n 2, 1) := by decide +kernel
theorem ls_d_16 : decode code 16 = .ok (.iconst 1, 1) := by decide +kernel
theorem ls_d_17 : decode code 17 = .ok (.newarray .long, 2) := by decide +kernel
theorem ls_d_19 : decode code 19 = .ok (.astore_n 3, 1) := by decide +kernel
theorem ls_d_20 : decode code 20 = .ok (.iconst 0, 1) := by decide +kernel
theorem ls_d_21 : decode code 21 = .ok (.istore 4, 2) := by decide +kernel
def law_E : ex_O → ex_S → Prop := fun o _ => o = .inl (some (.int 1))
/-- WHAT IS LEFT: the pure machine runs the law's loop to true -/
def law_pure : Prop := ∀ (L : Nat) (xs : Nat → Int32), L ≤ 2560 → ∃ d, d ≤ 1000 ∧ ex_R (some (L, xs)) (ex_C d) ex_m_L_law law_E (23, [.ref 999, .ref 4, .ref 5, .ref 58, .int 0, .retAddr 0, .retAddr 0], [], ls_s0, 4000)
theorem ls_strs : ∀ q ∈ ex_strs, Cond.stringRef q.1 q.2.1 q.2.2 ∈ lw_tbl ∧ Cond.exactly (.string q.1 q.2.1) "java/lang/String" ∈ flatC (Jvm.Cond.and given_1 narrow_1) := by decide +kernel
theorem ls_ncs : ∀ x ∈ ex_xs, ∀ y ∈ ex_xs, x ≠ y → Cond.not (.castable x y) ∈ flatC (Jvm.Cond.and given_1 narrow_1) := by decide +kernel
theorem ls_refs : Cond.isRef (.static Bundle.tN "UNASSIGNED_STACK" Bundle.steD) ∈ flatC (Jvm.Cond.and given_1 narrow_1) ∧ Cond.isRef (.static Bundle.tN "SUPPRESSED_SENTINEL" Bundle.listD) ∈ flatC (Jvm.Cond.and given_1 narrow_1) := by decide +kernel
theorem ls_nest : Cond.methodLinkNest RX4 9 yX3_init "DarkDesk" ∈ lw_tbl ∧ Cond.methodLinkNest RX4 18 yX2_init "DarkDesk" ∈ lw_tbl := ⟨ex_wp_in (i := 65) (by decide +kernel), ex_wp_in (i := 108) (by decide +kernel)⟩
theorem ls_tabs : ex_wp 393 (Cond.laysStatic Bundle.tN "UNASSIGNED_STACK" Bundle.steD) = true ∧ ex_wp 395 (Cond.laysStatic Bundle.tN "SUPPRESSED_SENTINEL" Bundle.listD) = true ∧ ex_wp 44 (Cond.initialized Bundle.tN) = true := by decide +kernel
theorem ls_sums : ct_mc = 31 ∧ ct_L5.length = 25 ∧ ct_ms + ct_sum ct_L5 ≤ 3000 := by decide +kernel
set_option maxHeartbeats 8000000 in
theorem law_start (hpure : law_pure) {p : Program} {e : Env} {s : State} {m : MethodId} {below : List Frame} {meth : Method} {c : Code} (l : Launch) (hl9 : l.stackTraces = false) {b L : Nat} {xs : Nat → Int32} (hL : L ≤ 2560) (C0 : lw_At p s m meth c b L xs) : W p l e room_1 s m #[Value.ref b] below meth c s.heap [] 0 0 (lw_Z below #[Value.ref b] s) (entryFrame m ([Value.ref b] : List Value).toArray 7) := by
  obtain ⟨hx, hb, hr, hml, hown, hts0, hX, hbl, hlocks, hgv⟩ := id C0
  have hts : ∀ w ∈ ex_tb, w.before #[Value.ref b] s = true := fun w hw => hts0 w (List.mem_filter.mp hw).1
  have hfl := flat_of_before _ hgv
  have hA : ∀ q : Nat, s.heap.size ≤ q → (fun q : Nat => s.heap.size ≤ q) q := fun _ h => h
  have hnA : ∀ q : Nat, q < s.heap.size → ¬ (fun q : Nat => s.heap.size ≤ q) q := fun q h z => Nat.not_lt.mpr z h
  obtain ⟨c0, iS0, hKn0⟩ := u_known (C := RX0) (T := TX0) (N := 9) (n := 9) hts (ex_cls_ok (ci := 0) (q := (RX0, TX0, 9)) rfl).1 (hts _ (ct_wd (i := 226) (by decide +kernel) rfl))
  obtain ⟨c1, iS1, hKn1⟩ := u_known (C := RX1) (T := TX1) (N := 18) (n := 18) hts (ex_cls_ok (ci := 1) (q := (RX1, TX1, 18)) rfl).1 (hts _ (ct_wd (i := 162) (by decide +kernel) rfl))
  obtain ⟨c2, iS2, hKn2⟩ := u_known (C := RX2) (T := TX2) (N := 14) (n := 14) hts (ex_cls_ok (ci := 2) (q := (RX2, TX2, 14)) rfl).1 (hts _ (ct_wd (i := 107) (by decide +kernel) rfl))
  obtain ⟨c3, iS3, hKn3⟩ := u_known (C := RX3) (T := TX3) (N := 8) (n := 8) hts (ex_cls_ok (ci := 3) (q := (RX3, TX3, 8)) rfl).1 (hts _ (ct_wd (i := 64) (by decide +kernel) rfl))
  obtain ⟨c4, iS4, hKn4⟩ := u_known (C := RX4) (T := TX4) (N := 4) (n := 4) hts (ex_cls_ok (ci := 4) (q := (RX4, TX4, 4)) rfl).1 (hts _ (ct_wd (i := 56) (by decide +kernel) rfl))
  obtain ⟨c5, iS5, hKn5⟩ := u_known (C := RX5) (T := TX5) (N := 39) (n := 39) hts (ex_cls_ok (ci := 5) (q := (RX5, TX5, 39)) rfl).1 (hts _ (ct_wd (i := 821) (by decide +kernel) rfl))
  obtain ⟨cI, kI, eI, gI1, gI2, gI3⟩ := Cond.arrayClass_spec (hts _ ct_arrw.1)
  obtain ⟨cZ, kZ, eZ, gZ1, gZ2, gZ3⟩ := Cond.arrayClass_spec (hts _ ct_arrw.2.1)
  obtain ⟨cJ, kJ, eJ, gJ1, gJ2, gJ3⟩ := Cond.arrayClass_spec (hts _ ct_arrw.2.2)
  obtain ⟨D, hKc⟩ : ∃ D : va_G, ∀ (k : Nat) (q : vw_C), ex_cl[k]? = some q → u_Kn s q.1 q.2.1 q.2.2 (D.1 k) (D.2 k) := by
    refine ⟨(fun k => if k = 0 then c0 else if k = 1 then c1 else if k = 2 then c2 else if k = 3 then c3 else if k = 4 then c4 else c5, fun k => if k = 0 then iS0 else if k = 1 then iS1 else if k = 2 then iS2 else if k = 3 then iS3 else if k = 4 then iS4 else iS5), ?_⟩
    intro k q hq
    match k, hq with
    | 0, hq => cases hq; exact hKn0
    | 1, hq => cases hq; exact hKn1
    | 2, hq => cases hq; exact hKn2
    | 3, hq => cases hq; exact hKn3
    | 4, hq => cases hq; exact hKn4
    | 5, hq => cases hq; exact hKn5
    | k + 6, hq => simp at hq
  obtain ⟨G, hK⟩ : ∃ G : Nat → ClassId, va_K D ex_cl (ex_tys G) s := by
    refine ⟨fun k => if k = 0 then cI else if k = 1 then cZ else cJ, hKc, fun k q hq => ?_⟩
    match k, hq with
    | 0, hq => cases hq; exact ⟨fun n z => ⟨fun k h => (by cases h), kI, gI2, eI, gI3⟩, gI1⟩
    | 1, hq => cases hq; exact ⟨fun n z => ⟨fun k h => (by cases h), kZ, gZ2, eZ, gZ3⟩, gZ1⟩
    | 2, hq => cases hq; exact ⟨fun n z => ⟨fun k h => (by cases h), kJ, gJ2, eJ, gJ3⟩, gJ1⟩
    | k + 3, hq => simp [ex_tys] at hq
  have hcx : ex_cx D G (fun q : Nat => s.heap.size ≤ q) s s.heap := by
    refine ⟨hK, vx_Zqof (hts0 _ (ex_wp_in ls_tabs.1)) (hts0 _ (ex_wp_in ls_tabs.2.2)) (hfl _ ls_refs.1) hnA, vx_Zqof (hts0 _ (ex_wp_in ls_tabs.2.1)) (hts0 _ (ex_wp_in ls_tabs.2.2)) (hfl _ ls_refs.2) hnA, fun w hw => ?_, fun q hq => ?_, fun x hx y hy hn => va_Nc.of (hfl _ (ls_ncs x hx y hy hn))⟩
    · have h1 := List.mem_filter.mp hw
      have h2 := h1.2
      refine va_Nw.of ?_ (hts0 w h1.1)
      cases w <;> simp [ex_isn] at h2 <;> rfl
    · obtain ⟨h1, h2⟩ := ls_strs q hq
      obtain ⟨a, c9, cell, k9, q1, -⟩ := Cond.exactly_spec (hfl _ h2)
      exact ⟨a, vk_R.of (hts0 _ h1) q1⟩
  have hN1 : va_Nw (.methodLinkNest RX4 9 yX3_init "DarkDesk") s := va_Nw.of rfl (hts0 _ ls_nest.1)
  have hN2 : va_Nw (.methodLinkNest RX4 18 yX2_init "DarkDesk") s := va_Nw.of rfl (hts0 _ ls_nest.2)
  have hS : va_S (fun q : Nat => s.heap.size ≤ q) s.heap s.heap [] := va_S.rf
  have hP : va_P D ex_cl [] s.heap := fun k q h => by simp at h
  have hD : va_D (fun q : Nat => s.heap.size ≤ q) [] := ⟨fun i j p q h => by simp at h, fun k q h => by simp at h⟩
  have hl := lv_entry ([.ref b]) (n := 7) (Nat.le_of_ble_eq_true rfl)
  rw [lg_entry_eq]
  generalize (lg_sl ([.ref b]) ++ List.replicate (7 - (lg_sl ([.ref b])).length) Slot.unset).toArray = ls at hl ⊢
  have hl : lv_has ls 7 [(0, .ref b)] := hl
  obtain ⟨n3, n2, n1, n0'⟩ := ct_num
  obtain ⟨s1', s2', s3'⟩ := ls_sums
  have k4 := ex_cls_ok (ci := 4) (q := (RX4, TX4, 4)) rfl
  have k5 := ex_cls_ok (ci := 5) (q := (RX5, TX5, 39)) rfl
  refine va_new (ci := 4) (fs := ct_f4) (C := RX4) (T := TX4) (N := 4) (index := 8) hx hb hts k4.1 tyX4 tyX4_ok hown (hts _ (ct_wd (i := 55) (by decide +kernel) rfl)) (hts _ (ct_wd (i := 56) (by decide +kernel) rfl)) (hts _ (ct_wd (i := 38) (by decide +kernel) rfl)) hK hP hD hS hA rfl (by decide) (by show _ ≤ 601024; omega) (by show _ ≤ 7293034; omega) ls_d_0 (fun h0 H hP hD hS => ?_)
  refine lv_dup hx hb ls_d_3 rfl ?_
  refine ct_done (w1 := ct_w4 G h0) hP hD hS hA (va_runI (As := []) (rest := [.ref h0]) (index := 89) ⟨hx, hb, hml, hown, hts⟩ (ct_c4 h0 H.size) (cwI 0 hts (ct_code (i := 59) (w := Cond.code yX4_init cX4_init 1 none) (by rfl) rfl) rfl rfl rfl (hts _ (ct_wd (i := 38) (by decide +kernel) rfl)) (hts _ (ct_wd (i := 57) (by decide +kernel) rfl)) (hts _ (ct_wd (i := 58) (by decide +kernel) rfl)) rfl ⟨by decide +kernel, by decide +kernel, by decide +kernel⟩ ⟨by show 3 + 1 ≤ 2048; omega, by show 8 + (1 + 11) + 60 ≤ 84000; omega⟩) ⟨fun v U g mk h => ⟨h.1, h.2.1, h.2.2.1, va_K.moved (u := U) (U := U.calling g mk v) (Vm.Alike.refl U.vm) h.2.2.2.1, va_Nw.same rfl rfl h.2.2.2.2.1, va_Nw.same rfl rfl h.2.2.2.2.2⟩, fun U hU hW => ⟨rfl, by rw [hU], by rw [hU]; exact hP, va_K.moved hW.alike hK, va_Nw.warmM hW hN1, va_Nw.warmM hW hN2⟩⟩ rfl rfl hl.1 rfl (lv_room (Nat.le_of_ble_eq_true rfl)) ls_d_4 ⟨by show _ ≤ 601024; omega, by show _ ≤ 7293034; omega⟩) (fun u H locs hu hP hD hS => ?_)
  refine lv_astore_n (lv' := [(1, .ref h0), (0, .ref b)]) hx hb ls_d_7 rfl hl (by decide) rfl (fun ls hl => ?_)
  refine va_new (ci := 5) (fs := ct_f5) (C := RX5) (T := TX5) (N := 39) (index := 90) hx hb hts k5.1 tyX5 tyX5_ok hown (hts _ (ct_wd (i := 820) (by decide +kernel) rfl)) (hts _ (ct_wd (i := 821) (by decide +kernel) rfl)) (hts _ (ct_wd (i := 43) (by decide +kernel) rfl)) hK hP hD hS hA rfl (by decide) (by show _ ≤ 601024; omega) (by show _ ≤ 7293034; omega) ls_d_8 (fun m0 H hP hD hS => ?_)
  refine lv_dup hx hb ls_d_11 rfl ?_
  refine ct_done (w1 := fun qs => (m0, .inr (5, ct_fs ct_f5 ct_L5 qs)) :: ct_cells G ct_L5 qs) hP hD hS hA (va_runI (As := []) (rest := [.ref m0]) (index := 92) ⟨hx, hb, hml, hown, hts⟩ (ct_c5 m0 H.size) (cwI 0 hts (ct_code (i := 824) (w := Cond.code yX5_init cX5_init 1 none) (by rfl) rfl) rfl rfl rfl (hts _ (ct_wd (i := 43) (by decide +kernel) rfl)) (hts _ (ct_wd (i := 822) (by decide +kernel) rfl)) (hts _ (ct_wd (i := 823) (by decide +kernel) rfl)) rfl ⟨by decide +kernel, by decide +kernel, by decide +kernel⟩ ⟨by show 1 + 1 ≤ 2048; omega, by show 8 + (1 + 11) + 12 ≤ 84000; omega⟩) ⟨ct_blind, fun U hU hW => ct_pre hK hP U hU hW⟩ rfl rfl hl.1 rfl (lv_room (Nat.le_of_ble_eq_true rfl)) ls_d_12 ⟨by show _ ≤ 601024; omega, by show _ ≤ 7293034; omega⟩) (fun um H locs hum hP hD hS => ?_)
  refine lv_astore_n (lv' := [(2, .ref m0), (1, .ref h0), (0, .ref b)]) hx hb ls_d_15 rfl hl (by decide) rfl (fun ls hl => ?_)
  refine lv_iconst (v := nI 1) hx hb ls_d_16 (by decide) ?_
  refine ct_newa (kd := 2) hx hb hts hK hP hD hS hA (by decide) (by decide) (by show _ ≤ 601024; omega) (by show _ ≤ 7293034; omega) ls_d_17 (fun o0 H hP hD hS => ?_)
  refine lv_astore_n (lv' := [(3, .ref o0), (2, .ref m0), (1, .ref h0), (0, .ref b)]) hx hb ls_d_19 rfl hl (by decide) rfl (fun ls hl => ?_)
  refine lv_iconst (v := 0) hx hb ls_d_20 (by decide) ?_
  refine lv_istore (lv' := [(4, .int 0), (3, .ref o0), (2, .ref m0), (1, .ref h0), (0, .ref b)]) hx hb ls_d_21 hl (by decide) rfl (fun ls hl => ?_)
  obtain ⟨⟨w0, uw⟩, ⟨s0, us⟩, ⟨p0, up⟩, ⟨n0, un⟩⟩ := u
  obtain ⟨h3, h2, h1, h00⟩ := hu
  dsimp only at h3 h2 h1 h00 hum
  obtain ⟨w1, w2, w3, w4, w5, w6, rfl⟩ := ls_len6 (h3.trans n3)
  obtain ⟨s1, s2, s3, s4, s5, s6, s7, s8, s9, s10, s11, rfl⟩ := ls_len11 (h2.trans n2)
  obtain ⟨p1, p2, p3, p4, p5, p6, p7, p8, p9, rfl⟩ := ls_len9 (h1.trans n1)
  obtain ⟨n1, rfl⟩ := ls_len1 (h00.trans n0')
  obtain ⟨m1, m2, m3, m4, m5, m6, m7, m8, m9, m10, m11, m12, m13, m14, m15, m16, m17, m18, m19, m20, m21, m22, m23, m24, m25, rfl⟩ := ls_len25 (hum.trans s2')
  have hP := ls_P (b := b) (ls_eq G h0 w0 w1 w2 w3 w4 w5 w6 s0 s1 s2 s3 s4 s5 s6 s7 s8 s9 s10 s11 p0 p1 p2 p3 p4 p5 p6 p7 p8 p9 n0 n1 m0 m1 m2 m3 m4 m5 m6 m7 m8 m9 m10 m11 m12 m13 m14 m15 m16 m17 m18 m19 m20 m21 m22 m23 m24 m25 o0 ▸ hP)
  obtain ⟨hinj, hAk⟩ := ls_D (b := b) (ls_eq G h0 w0 w1 w2 w3 w4 w5 w6 s0 s1 s2 s3 s4 s5 s6 s7 s8 s9 s10 s11 p0 p1 p2 p3 p4 p5 p6 p7 p8 p9 n0 n1 m0 m1 m2 m3 m4 m5 m6 m7 m8 m9 m10 m11 m12 m13 m14 m15 m16 m17 m18 m19 m20 m21 m22 m23 m24 m25 o0 ▸ hD)
  obtain ⟨d, hd, hrun⟩ := hpure L xs hL
  have key := hrun _ (ex_close (p := p) (l := l) (e := e) (R := room_1) (s := s) (m := m) (args := #[Value.ref b]) (below := below) (meth := meth) (c := c) (Q := lw_Z below #[Value.ref b] s) (D := D) (G := G) (ad := ls_ad b (ls_al h0 w0 w1 w2 w3 w4 w5 w6 s0 s1 s2 s3 s4 s5 s6 s7 s8 s9 s10 s11 p0 p1 p2 p3 p4 p5 p6 p7 p8 p9 n0 n1 m0 m1 m2 m3 m4 m5 m6 m7 m8 m9 m10 m11 m12 m13 m14 m15 m16 m17 m18 m19 m20 m21 m22 m23 m24 m25 o0)) (A := fun q : Nat => s.heap.size ≤ q) (μ := ex_m_L_law) (mcR := 601024) (msR := 7293034) (X := some (L, xs)) (C := ex_C d) (E := law_E) hx hb hml (by decide) hown hts hcx hinj hA hAk (ex_okp_all _ (ex_md_mem (M := ex_law) rfl)) (by show 6 ≤ 2048; omega) (by show 200 ≤ 84000; omega) (Nat.le_refl _) (Nat.le_refl _) (fun M a σ E' h ν k1 k2 k3 => by
      cases d with
      | zero => exact False.elim h
      | succ d => exact ⟨d, ⟨by show d + 7 ≤ 2048; omega, by show 60 * d + 259 ≤ 84000; omega⟩, fun sz => ex_sound hl9 hinj d M ν a σ E' sz k2 k1 k3 h⟩) (fun L' xs' h => by cases h; exact ⟨hX, hbl, Nat.not_le.mpr hbl⟩) (fun hh h => by cases h)
    (fun v σ' H locs cells slots ls pc ins hE hP hS hc hs hdg hrv => by
      cases hE
      rcases hrv with ⟨x, e1, rfl, -⟩ | ⟨x, e1, -⟩ | ⟨e1, -⟩
      · refine va_forget (fun q hq => hS.2.2 q hq) ?_
        refine W.widen (k := 601024) (n := 7293034) hc hs ?_
        exact lw_ret hx hb hr hlocks hdg
      · cases e1
      · cases e1)
    (fun x σ' H locs cells slots ls pc ik st hE => by cases hE)
    (fun x σ' ce q9 H locs cells slots ls pc rest hh hE => by cases hE))
  refine key H locs _ _ ls hP hS ⟨hl.1, hl.2.1, rfl, fun i v hi hk => ?_, fun i x hi => ?_⟩ ?_ ?_
  · match i, hi with
    | 0, hi => cases hi; exact hl.2.2 (0, .ref b) (by simp)
    | 1, hi => cases hi; exact hl.2.2 (1, .ref h0) (by simp)
    | 2, hi => cases hi; exact hl.2.2 (2, .ref m0) (by simp)
    | 3, hi => cases hi; exact hl.2.2 (3, .ref o0) (by simp)
    | 4, hi => cases hi; exact hl.2.2 (4, .int 0) (by simp)
    | 5, hi => cases hi; cases hk
    | 6, hi => cases hi; cases hk
    | i + 7, hi => simp at hi
  · match i, hi with
    | 0, hi => cases hi
    | 1, hi => cases hi
    | 2, hi => cases hi
    | 3, hi => cases hi
    | 4, hi => cases hi
    | 5, hi => cases hi
    | 6, hi => cases hi
    | i + 7, hi => simp at hi
  · show _ + 4000 ≤ 601024
    omega
  · have key9 : ∀ x y : Nat, x + y ≤ 3000 → 0 + 4 + x + 39 + y + 1 + 6 * 4000 ≤ 7293034 := fun x y h => by omega
    exact key9 ct_ms (ct_sum ct_L5) s3'
end LT
