def ex_r (X : Option (Nat × (Nat → Int32))) (d : Nat) (μ : ex_MD) (E : ex_O → ex_S → Prop) (pc : Nat) (lv st : List Value) (σ : ex_S) (b : Nat) : Prop := ex_R X (ex_C d) μ E (pc, lv, st, σ, b)
