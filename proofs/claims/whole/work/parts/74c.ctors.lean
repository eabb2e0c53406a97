/-! ===== the constructors of the classes (lists by wip/whole/ctor.py) ===== -/
section CV
set_option maxRecDepth 20000
def ct_L0 : List ct_sp := [(2, 8, 0, 9, 1, 232)]
abbrev ct_f0 : List Value := [.null, .null, .int 0, .int 0, .int 0, .int 0, .int 0, .int 0, .int 0]
theorem ct_ok0 : ct_ok cX0_init RX0 TX0 9 4 ct_L0 12 = true := by decide +kernel
theorem ct_n0 : ∀ qs : List Nat, (ct_fs ct_f0 ct_L0 qs).length = 9 := fun qs => by
  have key : ∀ (L : List ct_sp) (fs : List Value) (qs : List Nat), (ct_fs fs L qs).length = fs.length := by
    intro L
    induction L with
    | nil => intro fs qs; cases qs <;> rfl
    | cons a t ih =>
      intro fs qs
      cases qs with
      | nil => rfl
      | cons q qs => simp only [ct_fs]; rw [ih, List.length_set]
  rw [key]; rfl
theorem ct_c0 {l : Launch} {D : va_G} {G : Nat → ClassId} (h0 w0 sz : Nat) : Met l yX0_init (Cond.code yX0_init cX0_init 2 none :: ex_tb) { frames := 1, cells := ct_L0.length, slots := ct_sum ct_L0, locals := 12 } (ct_Pc D G 0 h0 [.ref w0] ct_f0 sz) (ct_Qc D G 0 h0 ct_f0 ct_L0 (fun f => f.set 0 (.ref w0)) sz) ct_L0.length (ct_sum ct_L0) (va_A [(h0, .inr (0, ct_f0))] sz) :=
  ct_init1 (z := (RX0, TX0, 9)) (i1 := 3) (p1 := 230) (pe := 12) (idx := 15) (j := 0) (p2 := 231) (cn := "DarkDesk$Works") (by decide +kernel) rfl rfl rfl rfl ct_n0 (by decide +kernel) (by decide +kernel) (by decide +kernel) ct_ok0 (by decide +kernel) (by decide +kernel) (by decide +kernel) (by decide +kernel) (by decide) (by decide +kernel) rfl rfl (by decide +kernel)
def ct_L1 : List ct_sp := [(2, 8, 0, 9, 1, 168), (2, 8, 0, 15, 2, 169), (2, 8, 0, 18, 3, 170), (2, 97, 0, 21, 4, 171), (2, 8, 0, 24, 5, 172), (2, 72, 0, 27, 6, 173), (3, 256, 0, 30, 7, 174), (3, 256, 2, 33, 8, 175), (2, 8, 0, 37, 9, 176)]
abbrev ct_f1 : List Value := [.null, .null, .null, .null, .null, .null, .null, .null, .null, .null, .int 0, .int 0, .int 0, .long 0, .int 0, .long 0, .int 0, .int 0]
theorem ct_ok1 : ct_ok cX1_init RX1 TX1 18 4 ct_L1 78 = true := by decide +kernel
theorem ct_n1 : ∀ qs : List Nat, (ct_fs ct_f1 ct_L1 qs).length = 18 := fun qs => by
  have key : ∀ (L : List ct_sp) (fs : List Value) (qs : List Nat), (ct_fs fs L qs).length = fs.length := by
    intro L
    induction L with
    | nil => intro fs qs; cases qs <;> rfl
    | cons a t ih =>
      intro fs qs
      cases qs with
      | nil => rfl
      | cons q qs => simp only [ct_fs]; rw [ih, List.length_set]
  rw [key]; rfl
theorem ct_c1 {l : Launch} {D : va_G} {G : Nat → ClassId} (h0 w0 sz : Nat) : Met l yX1_init (Cond.code yX1_init cX1_init 2 none :: ex_tb) { frames := 1, cells := ct_L1.length, slots := ct_sum ct_L1, locals := 12 } (ct_Pc D G 1 h0 [.ref w0] ct_f1 sz) (ct_Qc D G 1 h0 ct_f1 ct_L1 (fun f => f.set 0 (.ref w0)) sz) ct_L1.length (ct_sum ct_L1) (va_A [(h0, .inr (1, ct_f1))] sz) :=
  ct_init1 (z := (RX1, TX1, 18)) (i1 := 3) (p1 := 166) (pe := 78) (idx := 40) (j := 0) (p2 := 167) (cn := "DarkDesk$Works") (by decide +kernel) rfl rfl rfl rfl ct_n1 (by decide +kernel) (by decide +kernel) (by decide +kernel) ct_ok1 (by decide +kernel) (by decide +kernel) (by decide +kernel) (by decide +kernel) (by decide) (by decide +kernel) rfl rfl (by decide +kernel)
def ct_L2 : List ct_sp := [(2, 6, 0, 9, 0, 112), (2, 24, 0, 15, 1, 114), (2, 24, 0, 18, 2, 115), (2, 24, 1, 21, 3, 116), (2, 30, 0, 25, 4, 117), (2, 30, 0, 28, 5, 118), (2, 30, 0, 31, 6, 119), (2, 30, 0, 34, 7, 120), (2, 80, 0, 37, 8, 121), (2, 80, 0, 40, 9, 122), (2, 6, 0, 43, 10, 123)]
abbrev ct_f2 : List Value := [.null, .null, .null, .null, .null, .null, .null, .null, .null, .null, .null, .int 0, .int 0, .int 0]
theorem ct_ok2 : ct_ok cX2_init RX2 TX2 14 4 ct_L2 92 = true := by decide +kernel
theorem ct_c2 {l : Launch} {D : va_G} {G : Nat → ClassId} (h0 sz : Nat) : Met l yX2_init (Cond.code yX2_init cX2_init 1 none :: ex_tb) { frames := 1, cells := ct_L2.length, slots := ct_sum ct_L2, locals := 12 } (ct_Pc D G 2 h0 [] ct_f2 sz) (ct_Qc D G 2 h0 ct_f2 ct_L2 id sz) ct_L2.length (ct_sum ct_L2) (va_A [(h0, .inr (2, ct_f2))] sz) :=
  ct_init0 (z := (RX2, TX2, 14)) (i1 := 3) (p1 := 111) (pe := 92) (by decide +kernel) rfl rfl rfl rfl (by decide +kernel) (by decide +kernel) (by decide +kernel) ct_ok2 (by decide +kernel)
def ct_L3 : List ct_sp := [(2, 8, 0, 9, 0, 69), (2, 8, 0, 15, 1, 72), (2, 8, 0, 18, 2, 75), (2, 8, 0, 21, 3, 78), (2, 8, 0, 24, 4, 80), (2, 8, 0, 27, 5, 81)]
abbrev ct_f3 : List Value := [.null, .null, .null, .null, .null, .null, .int 0, .int 0]
theorem ct_ok3 : ct_ok cX3_init RX3 TX3 8 4 ct_L3 52 = true := by decide +kernel
theorem ct_c3 {l : Launch} {D : va_G} {G : Nat → ClassId} (h0 sz : Nat) : Met l yX3_init (Cond.code yX3_init cX3_init 1 none :: ex_tb) { frames := 1, cells := ct_L3.length, slots := ct_sum ct_L3, locals := 12 } (ct_Pc D G 3 h0 [] ct_f3 sz) (ct_Qc D G 3 h0 ct_f3 ct_L3 id sz) ct_L3.length (ct_sum ct_L3) (va_A [(h0, .inr (3, ct_f3))] sz) :=
  ct_init0 (z := (RX3, TX3, 8)) (i1 := 3) (p1 := 68) (pe := 52) (by decide +kernel) rfl rfl rfl rfl (by decide +kernel) (by decide +kernel) (by decide +kernel) ct_ok3 (by decide +kernel)
def ct_L5 : List ct_sp := [(2, 8, 0, 9, 1, 827), (2, 8, 0, 13, 2, 828), (2, 8, 0, 16, 3, 829), (2, 8, 0, 19, 4, 830), (2, 40, 0, 22, 6, 832), (2, 40, 0, 25, 7, 833), (2, 40, 1, 28, 8, 834), (2, 64, 0, 32, 10, 836), (2, 24, 0, 35, 11, 837), (2, 24, 0, 38, 12, 838), (2, 24, 1, 41, 13, 839), (2, 6, 0, 44, 14, 840), (2, 30, 0, 47, 16, 842), (2, 30, 0, 50, 17, 843), (2, 30, 0, 53, 18, 844), (2, 30, 0, 56, 19, 845), (2, 80, 0, 59, 21, 847), (2, 80, 0, 62, 22, 848), (2, 6, 0, 65, 24, 850), (2, 8, 0, 68, 26, 852), (2, 8, 0, 71, 27, 853), (3, 200, 0, 74, 28, 854), (2, 8, 0, 77, 36, 862), (2, 8, 0, 80, 37, 863), (2, 8, 1, 83, 38, 864)]
abbrev ct_f5 : List Value := [.int 0, .null, .null, .null, .null, .int 0, .null, .null, .null, .int 0, .null, .null, .null, .null, .null, .int 0, .null, .null, .null, .null, .int 0, .null, .null, .int 0, .null, .int 0, .null, .null, .null, .int 0, .int 0, .int 0, .int 0, .int 0, .int 0, .int 0, .null, .null, .null]
theorem ct_ok5 : ct_ok cX5_init RX5 TX5 39 4 ct_L5 205 = true := by decide +kernel
theorem ct_c5 {l : Launch} {D : va_G} {G : Nat → ClassId} (h0 sz : Nat) : Met l yX5_init (Cond.code yX5_init cX5_init 1 none :: ex_tb) { frames := 1, cells := ct_L5.length, slots := ct_sum ct_L5, locals := 12 } (ct_Pc D G 5 h0 [] ct_f5 sz) (ct_Qc D G 5 h0 ct_f5 ct_L5 id sz) ct_L5.length (ct_sum ct_L5) (va_A [(h0, .inr (5, ct_f5))] sz) :=
  ct_init0 (z := (RX5, TX5, 39)) (i1 := 1) (p1 := 825) (pe := 205) (by decide +kernel) rfl rfl rfl rfl (by decide +kernel) (by decide +kernel) (by decide +kernel) ct_ok5 (by decide +kernel)
end CV
