/-! ===== constructors: a new object and its constructor's call ===== -/
section CU
theorem ct_left {α : Type} {wr : List α} {a x : α} {k : Nat} (h : wr[k]? = some x) : (wr ++ [a])[k]? = some x := by
  rw [List.getElem?_append_left (List.getElem?_eq_some_iff.mp h).1]; exact h
theorem ct_join {A0 : Nat → Prop} {D : va_G} {cl : List vw_C} {wr w1 : va_W} {q : Nat} {e : va_E} {H H1 : Heap} (hP : va_P D cl (wr ++ [(q, e)]) H) (hD : va_D A0 (wr ++ [(q, e)])) (hk : ∀ z : Nat, z < H.size → ¬ va_A [(q, e)] H.size z → H1[z]? = H[z]?) (hF : ∀ z, va_A [(q, e)] H.size z → A0 z) (hP1 : va_P D cl w1 H1) (hD1 : va_D (va_A [(q, e)] H.size) w1) : va_P D cl (wr ++ w1) H1 ∧ va_D A0 (wr ++ w1) := by
  have hlast : (wr ++ [(q, e)])[wr.length]? = some (q, e) := by simp
  have apart : ∀ (k : Nat) (x : Nat × va_E), wr[k]? = some x → x.1 < H.size ∧ ¬ va_A [(q, e)] H.size x.1 := by
    intro k x hx
    have hl := (hP k x (ct_left hx)).lt
    refine ⟨hl, fun h => ?_⟩
    rcases h with ⟨k2, e2, h⟩ | h
    · match k2, h with
      | 0, h =>
        have e3 : (q, e) = (x.1, e2) := Option.some.inj h
        have := hD.1 k wr.length x (q, e) (ct_left hx) hlast (by rw [e3])
        have hkl := (List.getElem?_eq_some_iff.mp hx).1
        omega
      | k2 + 1, h => simp at h
    · omega
  refine ⟨va_P.app (fun k x hx => ?_) hP1, va_D.app ⟨fun i j a b ha hb he => hD.1 i j a b (ct_left ha) (ct_left hb) he, fun k x hx => hD.2 k x (ct_left hx)⟩ (hD1.weaken (fun k x _ h => hF x.1 h)) (fun i j x y hx hy hxy => ?_)⟩
  · obtain ⟨g1, g2⟩ := apart k x hx
    exact (hP k x (ct_left hx)).kept (hk x.1 g1 g2)
  · exact (apart i x hx).2 (by rw [hxy]; exact hD1.2 j y hy)
theorem ct_free {A0 : Nat → Prop} {wr : va_W} {q : Nat} {e : va_E} {H0 H : Heap} {locs : List Loc} (hD : va_D A0 (wr ++ [(q, e)])) (hS : va_S A0 H0 H locs) (hA : ∀ z, H0.size ≤ z → A0 z) : ∀ z, va_A [(q, e)] H.size z → A0 z := by
  intro z h
  rcases h with ⟨k, e2, h⟩ | h
  · match k, h with
    | 0, h =>
      have e3 : (q, e) = (z, e2) := Option.some.inj h
      have := hD.2 wr.length (q, e) (by simp)
      rw [e3] at this
      exact this
    | k + 1, h => simp at h
  · exact hA z (Nat.le_trans hS.1 h)
variable {p : Program} {l : Launch} {e : Env} {R : Room} {s : State} {m : MethodId} {args : Array Value} {below : List Frame} {meth : Method} {c : Code} {Q : State → Prop} {cc : ByteArray}
variable {D : va_G} {G : Nat → ClassId} {A : Nat → Prop} {ls : Array Slot} {rest : List Value} {H : Heap} {locs : List Loc} {cells slots : Nat}
/-- the call of a constructor that is done with, over the new object, the last of the world -/
theorem ct_done {S : Type} {mc ms pc q ci : Nat} {fs : List Value} {ws : va_W} {st0 rs : List Value} {a : Array Value} {post : S → Prop} {w1 : S → va_W} (hP : va_P D ex_cl (ws ++ [(q, .inr (ci, fs))]) H) (hD : va_D A (ws ++ [(q, .inr (ci, fs))])) (hS : va_S A s.heap H locs) (hA : ∀ z, s.heap.size ≤ z → A z)
    (hr : va_Run p l e R s m args below meth c H locs cells slots mc ms (F0 m pc ls st0) rs (va_Qv post (fun u t => va_P D ex_cl (w1 u) t.heap ∧ va_D (va_A [(q, .inr (ci, fs))] H.size) (w1 u)) (va_A [(q, .inr (ci, fs))] H.size) a) (va_A [(q, .inr (ci, fs))] H.size))
    (kk : ∀ (u : S) (H1 : Heap) (locs1 : List Loc), post u → va_P D ex_cl (ws ++ w1 u) H1 → va_D A (ws ++ w1 u) → va_S A s.heap H1 locs1 → W p l e R s m args below meth c H1 locs1 (cells + mc) (slots + ms) Q (F0 m (pc + 3) ls rs)) : W p l e R s m args below meth c H locs cells slots Q (F0 m pc ls st0) := by
  have hF := ct_free hD hS hA
  refine va_callv hr hS (fun z _ h => hF z h) hF (fun u t H1 locs1 ht hvm hw hB hz1 hk1 hS1 => ?_)
  obtain ⟨hP1, hD1⟩ := hB
  rw [ht] at hP1
  obtain ⟨hP2, hD2⟩ := ct_join hP hD hk1 hF hP1 hD1
  exact kk u H1 locs1 hw hP2 hD2 hS1
theorem ct_blind {ci h0 sz : Nat} {a fs : List Value} : FrameBlind (ct_Pc D G ci h0 a fs sz) := fun v U g mk h => ⟨h.1, h.2.1, h.2.2.1, va_K.moved (u := U) (U := U.calling g mk v) (Vm.Alike.refl U.vm) h.2.2.2⟩
theorem ct_pre {ci q : Nat} {a fs : List Value} {ws : va_W} (hK : va_K D ex_cl (ex_tys G) s) (hP : va_P D ex_cl (ws ++ [(q, .inr (ci, fs))]) H) (U : State) (hU : U.heap = H) (hW : s.WarmedH U.vm) : ct_Pc D G ci q a fs H.size (Value.ref q :: a).toArray U := by
  refine ⟨rfl, by rw [hU], ?_, va_K.moved hW.alike hK⟩
  rw [hU]
  intro k x hk
  match k, hk with
  | 0, hk => cases hk; exact hP ws.length _ (by simp)
  | k + 1, hk => simp at hk
end CU
