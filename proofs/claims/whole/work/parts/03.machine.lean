/-! ===== the pure machine ===== -/
/-- ints, longs, rows of ints (and of booleans), rows of longs: by their numbers -/
abbrev ex_S : Type := (Nat → Int32) × (Nat → Int64) × (Nat → Nat → Int32) × (Nat → Nat → Int64)
/-- an answer, or the name of what was thrown -/
abbrev ex_O : Type := Option Value ⊕ String
/-- pc, locals, stack, state, cells that may be made -/
abbrev ex_Q : Type := Nat × List Value × List Value × ex_S × Nat
def ex_sF (σ : ex_S) (i : Nat) (v : Int32) : ex_S := (upd σ.1 i v, σ.2)
def ex_sG (σ : ex_S) (i : Nat) (v : Int64) : ex_S := (σ.1, vp_updL σ.2.1 i v, σ.2.2)
def ex_row (σ : ex_S) (a : Nat) (f : Nat → Int32) : ex_S := (σ.1, σ.2.1, fun k => if k = a then f else σ.2.2.1 k, σ.2.2.2)
def ex_sA (σ : ex_S) (a i : Nat) (v : Int32) : ex_S := ex_row σ a (upd (σ.2.2.1 a) i v)
def ex_sB (σ : ex_S) (a i : Nat) (v : Int64) : ex_S := (σ.1, σ.2.1, σ.2.2.1, fun k => if k = a then vp_updL (σ.2.2.2 a) i v else σ.2.2.2 k)
/-- what a field holds, in the pure machine -/
def ex_fa (σ : ex_S) (q : Nat × Nat) : Value := match q.1 with
  | 0 => .int (σ.1 q.2)
  | 1 => .long (σ.2.1 q.2)
  | _ => .ref q.2
def ex_y (μ : ex_MD) : MethodName := μ.1
def ex_bytes (μ : ex_MD) : ByteArray := μ.2.1
def ex_maxL (μ : ex_MD) : Nat := μ.2.2.1
def ex_ret (μ : ex_MD) : Option FieldType := μ.2.2.2.1
def ex_K (μ : ex_MD) : Nat := μ.2.2.2.2.1
def ex_hh (μ : ex_MD) : Option (List (Nat × Nat × Nat × Nat)) := μ.2.2.2.2.2.1
def ex_mc (μ : ex_MD) : Nat := μ.2.2.2.2.2.2.1
def ex_inst (μ : ex_MD) : Nat := μ.2.2.2.2.2.2.2.1
def ex_np (μ : ex_MD) : Nat := μ.2.2.2.2.2.2.2.2.1
def ex_lg (μ : ex_MD) : List Nat := μ.2.2.2.2.2.2.2.2.2.1
def ex_prog (μ : ex_MD) : List (Nat × Instr × Nat) := μ.2.2.2.2.2.2.2.2.2.2
def ex_find {α : Type} : List (Nat × α) → Nat → Option α
  | [], _ => none
  | (k, a) :: t, n => if k == n then some a else ex_find t n
def ex_at (μ : ex_MD) (pc : Nat) : Option (Instr × Nat) := ex_find (ex_prog μ) pc
def ex_md (M : Nat) : Option ex_MD := ex_mds[M]?
def ex_p1 (st : List Value) (k : Int32 → List Value → Prop) : Prop := match st with
  | .int x :: r => k x r
  | _ => False
def ex_p2 (st : List Value) (k : Int32 → Int32 → List Value → Prop) : Prop := match st with
  | .int y :: .int x :: r => k x y r
  | _ => False
def ex_pl (st : List Value) (k : Int64 → List Value → Prop) : Prop := match st with
  | .long x :: r => k x r
  | _ => False
def ex_pll (st : List Value) (k : Int64 → Int64 → List Value → Prop) : Prop := match st with
  | .long y :: .long x :: r => k x y r
  | _ => False
def ex_pli (st : List Value) (k : Int64 → Int32 → List Value → Prop) : Prop := match st with
  | .int y :: .long x :: r => k x y r
  | _ => False
def ex_pr (st : List Value) (k : Nat → List Value → Prop) : Prop := match st with
  | .ref a :: r => k a r
  | _ => False
/-- a row and a place in it -/
def ex_pa (st : List Value) (k : Nat → Int32 → List Value → Prop) : Prop := match st with
  | .int i :: .ref a :: r => k a i r
  | _ => False
def ex_pai (st : List Value) (k : Nat → Int32 → Int32 → List Value → Prop) : Prop := match st with
  | .int v :: .int i :: .ref a :: r => k a i v r
  | _ => False
def ex_pal (st : List Value) (k : Nat → Int32 → Int64 → List Value → Prop) : Prop := match st with
  | .long v :: .int i :: .ref a :: r => k a i v r
  | _ => False
def ex_jmp (pc : Nat) (off : Int) (k : Nat → Prop) : Prop := match (pc : Int) + off with
  | .ofNat t => k t
  | .negSucc _ => False
def ex_br (c : ClassFile.Cond) (x y : Int32) (A B : Prop) : Prop := match c with
  | .eq => if x = y then A else B
  | .ne => if x = y then B else A
  | .lt => if x < y then A else B
  | .ge => if y ≤ x then A else B
  | .gt => if y < x then A else B
  | .le => if x ≤ y then A else B
def ex_ldI (lv : List Value) (i : Nat) (k : Int32 → Prop) : Prop := match lv[i]? with
  | some (.int x) => k x
  | _ => False
def ex_ldL (lv : List Value) (i : Nat) (k : Int64 → Prop) : Prop := match lv[i]? with
  | some (.long x) => k x
  | _ => False
def ex_ldR (lv : List Value) (i : Nat) (k : Nat → Prop) : Prop := match lv[i]? with
  | some (.ref x) => k x
  | _ => False
/-- a place that may be stored to: it is there, and isn't a long's second half -/
def ex_can (lg : List Nat) (n i : Nat) : Bool := Nat.blt i n && !lg.contains i
def ex_put (lg : List Nat) (lv : List Value) (i : Nat) (v : Value) (k : List Value → Prop) : Prop := match ex_can lg lv.length i with
  | true => k (lv.set i v)
  | false => False
def ex_getf (K idx a : Nat) (σ : ex_S) (k : Value → Prop) : Prop := match ex_find (ex_fld K) idx with
  | some (ci, j, _) => match ex_lay[a]? with
    | some (.inr (cj, fs)) => if cj = ci then (match fs[j]? with
      | some q => k (ex_fa σ q)
      | none => False) else False
    | _ => False
  | none => False
def ex_bool (v : Int32) : Prop := v = 0 ∨ v = 1
/-- a field is set: which (tag, number) it is, and whether it is a boolean -/
def ex_putf (K idx a : Nat) (k : Nat → Nat → Bool → Prop) : Prop := match ex_find (ex_fld K) idx with
  | some (ci, j, _) => match ex_lay[a]? with
    | some (.inr (cj, fs)) => if cj = ci then (match fs[j]? with
      | some (0, n) => (match ex_cl[ci]? with
        | some q => if (q.2.1 j).2.2.2 then False else if (q.2.1 j).2.2.1 == "I" then k 0 n false else if (q.2.1 j).2.2.1 == "Z" then k 0 n true else False
        | none => False)
      | some (1, n) => (match ex_cl[ci]? with
        | some q => if (q.2.1 j).2.2.2 then False else if (q.2.1 j).2.2.1 == "J" then k 1 n false else False
        | none => False)
      | _ => False) else False
    | _ => False
  | none => False
def ex_arr (kind a : Nat) (k : Nat → Nat → Prop) : Prop := match ex_lay[a]? with
  | some (.inl (kd, n, id)) => if kd = kind then k n id else False
  | _ => False
/-- a row of ints of the world, or the script -/
def ex_ild (X : Option (Nat × (Nat → Int32))) (a : Nat) (i : Int32) (σ : ex_S) (k : Int32 → Prop) : Prop := match a with
  | 999 => (match X with
    | some (L, xs) => vp_in i L ∧ k (xs i.toNatClampNeg)
    | none => False)
  | a => ex_arr 0 a (fun n id => vp_in i n ∧ k (σ.2.2.1 id i.toNatClampNeg))
def ex_len (X : Option (Nat × (Nat → Int32))) (a : Nat) (k : Int32 → Prop) : Prop := match a with
  | 999 => (match X with
    | some (L, _) => k (Int32.ofNat L)
    | none => False)
  | a => (match ex_lay[a]? with
    | some (.inl (_, n, _)) => k (Int32.ofNat n)
    | _ => False)
/-- 'throw new E("text")' begins here -/
def ex_site (μ : ex_MD) (pc ik : Nat) : Option String := match ex_at μ (pc + 3), ex_at μ (pc + 4), ex_at μ (pc + 6), ex_at μ (pc + 9) with
  | some (.dup, 1), some (.ldc s, 2), some (.invokespecial ic, 3), some (.athrow, 1) => ((ex_thr (ex_K μ)).find? (fun q => q.1 == ik && q.2.1 == s && q.2.2.1 == ic)).map (fun q => q.2.2.2.1)
  | _, _, _, _ => none
def ex_room (st : List Value) : Bool := Nat.ble ((st.map fun v => v.category).sum) 8
/-- the first row of the table that covers pc and names what was thrown; rows ahead that cover it name others -/
def ex_hnd (K pc : Nat) (x : String) : List (Nat × Nat × Nat × Nat) → Option Nat
  | [] => none
  | (a, b, h, t) :: r => if Nat.ble a pc && Nat.blt pc b then (match ex_find (ex_cat K) t with
    | some n => if n == x then some h else ex_hnd K pc x r
    | none => none) else ex_hnd K pc x r
def ex_pay (mc b : Nat) (k : Nat → Prop) : Prop := match mc with
  | 0 => k b
  | _ => mc ≤ b ∧ k (b - mc)
/-- behind a call that has thrown x -/
def ex_exc (μ : ex_MD) (pc : Nat) (lv : List Value) (x : String) (k : Nat → List Value → List Value → Prop) (out : Prop) : Prop := match ex_hh μ with
  | none => out
  | some hh => (match ex_hnd (ex_K μ) pc x hh with
    | some h => (match ex_at μ h with
      | some (.astore_n i, 1) => ex_put (ex_lg μ) lv i (.retAddr 0) (fun lv' => k (h + 1) lv' [])
      | some (.astore i, 2) => ex_put (ex_lg μ) lv i (.retAddr 0) (fun lv' => k (h + 2) lv' [])
      | _ => False)
    | none => False)
def ex_kn : Value → Bool
  | .int _ => true
  | .long _ => true
  | .ref _ => true
  | _ => false
def ex_args : List Value → List Value
  | [] => []
  | .long x :: t => .long x :: .retAddr 0 :: ex_args t
  | v :: t => v :: ex_args t
/-- arguments that fit the method's places -/
def ex_argok (μ : ex_MD) (a : List Value) : Bool := a.all ex_kn && Nat.ble (ex_args a).length (ex_maxL μ) && (List.range (ex_args a).length).all (fun i => match (ex_args a)[i]? with
  | some (.long _) => (ex_lg μ).contains (i + 1)
  | _ => true)
/-- is the first argument of an instance method an object of its class -/
def ex_self (μ : ex_MD) (a : List Value) : Bool := ex_argok μ a && match ex_inst μ with
  | 0 => a.length == ex_np μ
  | _ => a.length == ex_np μ + 1 && (match a with
    | .ref r :: _ => (match ex_lay[r]? with
      | some (.inr (ci, _)) => ci == ex_K μ
      | _ => false)
    | _ => false)
def ex_call (C : Nat → List Value → ex_S → (ex_O → ex_S → Prop) → Prop) (μ : ex_MD) (inst idx pc : Nat) (lv st : List Value) (σ : ex_S) (b : Nat) (P : ex_Q → Prop) (E : ex_O → ex_S → Prop) : Prop := match ex_find (ex_cal (ex_K μ)) idx with
  | some M => (match ex_md M with
    | some ν => if inst = ex_inst ν then (match ex_self ν (st.take (ex_np ν + inst)).reverse, ex_room (st.drop (ex_np ν + inst)) with
      | true, true => ex_pay (ex_mc ν) b (fun b' => C M (st.take (ex_np ν + inst)).reverse σ (fun o σ' => match o with
        | .inl v => P (pc + 3, lv, v.toList ++ st.drop (ex_np ν + inst), σ', b')
        | .inr x => ex_exc μ pc lv x (fun pc' lv' st' => P (pc', lv', st', σ', b')) (E (.inr x) σ')))
      | _, _ => False) else False
    | none => False)
  | none => False
/-- System.arraycopy(a0, 0, a1, 0, n) of two rows of ints: the only native -/
def ex_copy (st : List Value) (σ : ex_S) (k : List Value → ex_S → Prop) : Prop := match st with
  | .int n :: .int dp :: .ref a1 :: .int sp :: .ref a0 :: r => (match ex_room r with
    | true => ex_arr 0 a0 (fun n0 i0 => ex_arr 0 a1 (fun n1 i1 => ¬ sp < 0 ∧ ¬ dp < 0 ∧ ¬ n < 0 ∧ sp.toNatClampNeg + n.toNatClampNeg ≤ n0 ∧ dp.toNatClampNeg + n.toNatClampNeg ≤ n1 ∧ k r (ex_row σ i1 (va_cpy (σ.2.2.1 i0) (σ.2.2.1 i1) sp.toNatClampNeg dp.toNatClampNeg n.toNatClampNeg))))
    | false => False)
  | _ => False
def ex_ins (X : Option (Nat × (Nat → Int32))) (C : Nat → List Value → ex_S → (ex_O → ex_S → Prop) → Prop) (μ : ex_MD) (ins : Instr) (len pc : Nat) (lv st : List Value) (σ : ex_S) (b : Nat) (P : ex_Q → Prop) (E : ex_O → ex_S → Prop) : Prop := match ins with
  | .iconst i => P (pc + len, lv, .int (Int32.ofInt i) :: st, σ, b)
  | .bipush i => P (pc + len, lv, .int (Int8.ofInt i).toInt32 :: st, σ, b)
  | .sipush i => P (pc + len, lv, .int (Int16.ofInt i).toInt32 :: st, σ, b)
  | .lconst i => P (pc + len, lv, .long (Int64.ofNat (i : Nat)) :: st, σ, b)
  | .ldc idx => (match ex_find (ex_cst (ex_K μ)) idx with
    | some v => P (pc + len, lv, .int v :: st, σ, b)
    | none => False)
  | .iload_n i => ex_ldI lv i (fun x => P (pc + len, lv, .int x :: st, σ, b))
  | .iload i => ex_ldI lv i (fun x => P (pc + len, lv, .int x :: st, σ, b))
  | .lload_n i => ex_ldL lv i (fun x => P (pc + len, lv, .long x :: st, σ, b))
  | .lload i => ex_ldL lv i (fun x => P (pc + len, lv, .long x :: st, σ, b))
  | .aload_n i => ex_ldR lv i (fun x => P (pc + len, lv, .ref x :: st, σ, b))
  | .aload i => ex_ldR lv i (fun x => P (pc + len, lv, .ref x :: st, σ, b))
  | .istore_n i => ex_p1 st (fun x r => ex_put (ex_lg μ) lv i (.int x) (fun lv' => P (pc + len, lv', r, σ, b)))
  | .istore i => ex_p1 st (fun x r => ex_put (ex_lg μ) lv i (.int x) (fun lv' => P (pc + len, lv', r, σ, b)))
  | .iinc i n => ex_ldI lv i (fun x => ex_put (ex_lg μ) lv i (.int (x + Int32.ofInt n)) (fun lv' => P (pc + len, lv', st, σ, b)))
  | .iadd => ex_p2 st (fun x y r => P (pc + len, lv, .int (x + y) :: r, σ, b))
  | .isub => ex_p2 st (fun x y r => P (pc + len, lv, .int (x - y) :: r, σ, b))
  | .imul => ex_p2 st (fun x y r => P (pc + len, lv, .int (x * y) :: r, σ, b))
  | .iand => ex_p2 st (fun x y r => P (pc + len, lv, .int (x &&& y) :: r, σ, b))
  | .ior => ex_p2 st (fun x y r => P (pc + len, lv, .int (x ||| y) :: r, σ, b))
  | .ixor => ex_p2 st (fun x y r => P (pc + len, lv, .int (x ^^^ y) :: r, σ, b))
  | .ishl => ex_p2 st (fun x y r => P (pc + len, lv, .int (x <<< (y &&& 31)) :: r, σ, b))
  | .ishr => ex_p2 st (fun x y r => P (pc + len, lv, .int (x >>> (y &&& 31)) :: r, σ, b))
  | .ineg => ex_p1 st (fun x r => P (pc + len, lv, .int (-x) :: r, σ, b))
  | .ladd => ex_pll st (fun x y r => P (pc + len, lv, .long (x + y) :: r, σ, b))
  | .lshl => ex_pli st (fun x y r => P (pc + len, lv, .long (x <<< (y.toInt64 &&& 63)) :: r, σ, b))
  | .lshr => ex_pli st (fun x y r => P (pc + len, lv, .long (x >>> (y.toInt64 &&& 63)) :: r, σ, b))
  | .lcmp => ex_pll st (fun x y r => P (pc + len, lv, .int (lg_cmp x y) :: r, σ, b))
  | .i2l => ex_p1 st (fun x r => P (pc + len, lv, .long x.toInt64 :: r, σ, b))
  | .l2i => ex_pl st (fun x r => P (pc + len, lv, .int x.toInt32 :: r, σ, b))
  | .dup => (match st with
    | .int x :: r => P (pc + len, lv, .int x :: .int x :: r, σ, b)
    | .ref x :: r => P (pc + len, lv, .ref x :: .ref x :: r, σ, b)
    | _ => False)
  | .dup2 => ex_pa st (fun a i r => P (pc + len, lv, .int i :: .ref a :: .int i :: .ref a :: r, σ, b))
  | .goto off => ex_jmp pc off (fun t => P (t, lv, st, σ, b))
  | .if_icmp c off => ex_p2 st (fun x y r => ex_jmp pc off (fun t => ex_br c x y (P (t, lv, r, σ, b)) (P (pc + len, lv, r, σ, b))))
  | .ifCond c off => ex_p1 st (fun x r => ex_jmp pc off (fun t => ex_br c x 0 (P (t, lv, r, σ, b)) (P (pc + len, lv, r, σ, b))))
  | .tableswitch dflt lo hi offs => ex_p1 st (fun x r => if x.toInt < lo ∨ hi < x.toInt then ex_jmp pc dflt (fun t => P (t, lv, r, σ, b)) else (match offs[(x.toInt - lo).toNat]? with
    | some off => ex_jmp pc off (fun t => P (t, lv, r, σ, b))
    | none => False))
  | .getfield idx => ex_pr st (fun a r => ex_getf (ex_K μ) idx a σ (fun v => P (pc + len, lv, v :: r, σ, b)))
  | .putfield idx => (match st with
    | .int v :: .ref a :: r => ex_putf (ex_K μ) idx a (fun tag n z => match tag, z with
      | 0, false => P (pc + len, lv, r, ex_sF σ n v, b)
      | 0, true => ex_bool v ∧ P (pc + len, lv, r, ex_sF σ n v, b)
      | _, _ => False)
    | .long v :: .ref a :: r => ex_putf (ex_K μ) idx a (fun tag n z => match tag, z with
      | 1, false => P (pc + len, lv, r, ex_sG σ n v, b)
      | _, _ => False)
    | _ => False)
  | .iaload => ex_pa st (fun a i r => ex_ild X a i σ (fun v => P (pc + len, lv, .int v :: r, σ, b)))
  | .baload => ex_pa st (fun a i r => ex_arr 1 a (fun n id => vp_in i n ∧ P (pc + len, lv, .int (σ.2.2.1 id i.toNatClampNeg) :: r, σ, b)))
  | .laload => ex_pa st (fun a i r => ex_arr 2 a (fun n id => vp_in i n ∧ P (pc + len, lv, .long (σ.2.2.2 id i.toNatClampNeg) :: r, σ, b)))
  | .iastore => ex_pai st (fun a i v r => ex_arr 0 a (fun n id => vp_in i n ∧ P (pc + len, lv, r, ex_sA σ id i.toNatClampNeg v, b)))
  | .bastore => ex_pai st (fun a i v r => ex_arr 1 a (fun n id => vp_in i n ∧ ex_bool v ∧ P (pc + len, lv, r, ex_sA σ id i.toNatClampNeg v, b)))
  | .lastore => ex_pal st (fun a i v r => ex_arr 2 a (fun n id => vp_in i n ∧ P (pc + len, lv, r, ex_sB σ id i.toNatClampNeg v, b)))
  | .arraylength => ex_pr st (fun a r => ex_len X a (fun v => P (pc + len, lv, .int v :: r, σ, b)))
  | .invokevirtual idx => ex_call C μ 1 idx pc lv st σ b P E
  | .invokestatic idx => (match ex_find (ex_nat (ex_K μ)) idx with
    | none => ex_call C μ 0 idx pc lv st σ b P E
    | some 1 => ex_copy st σ (fun r σ' => P (pc + 3, lv, r, σ', b))
    | some 2 => ex_p2 st (fun x y r => match ex_room r with
      | true => P (pc + 3, lv, .int (if x < y then y else x) :: r, σ, b)
      | false => False)
    | some 3 => ex_p2 st (fun x y r => match ex_room r with
      | true => P (pc + 3, lv, .int (if y < x then y else x) :: r, σ, b)
      | false => False)
    | _ => False)
  | .new ik => (match ex_site μ pc ik, ex_room st with
    | some x, true => 1 ≤ b ∧ E (.inr x) σ
    | _, _ => False)
  | .ireturn => (match st with
    | [.int v] => (match ex_ret μ with
      | some .int => E (.inl (some (.int v))) σ
      | some .boolean => ex_bool v ∧ E (.inl (some (.int v))) σ
      | _ => False)
    | _ => False)
  | .lreturn => (match st with
    | [.long v] => (match ex_ret μ with
      | some .long => E (.inl (some (.long v))) σ
      | _ => False)
    | _ => False)
  | .return_ => (match st with
    | [] => (match ex_ret μ with
      | none => E (.inl none) σ
      | _ => False)
    | _ => False)
  | _ => False
def ex_stp (X : Option (Nat × (Nat → Int32))) (C : Nat → List Value → ex_S → (ex_O → ex_S → Prop) → Prop) (μ : ex_MD) (E : ex_O → ex_S → Prop) (P : ex_Q → Prop) (q : ex_Q) : Prop := match ex_at μ q.1 with
  | some (ins, len) => ex_ins X C μ ins len q.1 q.2.1 q.2.2.1 q.2.2.2.1 q.2.2.2.2 P E
  | none => False
/-- a run from q comes to an end that E takes: the least such -/
def ex_R (X : Option (Nat × (Nat → Int32))) (C : Nat → List Value → ex_S → (ex_O → ex_S → Prop) → Prop) (μ : ex_MD) (E : ex_O → ex_S → Prop) (q : ex_Q) : Prop := ∀ P : ex_Q → Prop, (∀ q, ex_stp X C μ E P q → P q) → P q
def ex_pad (n : Nat) (l : List Value) : List Value := l ++ List.replicate (n - l.length) (.retAddr 0)
/-- method M, called with these arguments, by at most d frames more -/
def ex_C : Nat → Nat → List Value → ex_S → (ex_O → ex_S → Prop) → Prop
  | 0, _, _, _, _ => False
  | d + 1, M, a, σ, E => match ex_md M with
    | some μ => ex_R none (ex_C d) μ E (0, ex_pad (ex_maxL μ) (ex_args a), [], σ, ex_mc μ)
    | none => False
