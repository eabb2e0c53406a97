set_option maxRecDepth 20000
abbrev ex_nms : List String := ["java/lang/RuntimeException", "java/lang/Exception"]
/-- the words of a throw whose first constructor hands on by another entry of its own file -/
def ex_atX (own : String) (ic : Nat) (x : String) (ix : Nat) (rx : ByteArray) (y : String) (names : List String) : List Cond := (Bundle.throwableAtoms ++ Bundle.throwableSAtoms ++ (Bundle.passSAtoms x y ix rx ++ Bundle.chainSAtoms y names) ++ ([.methodLink own ic (Bundle.initS x), .instantiable x 6, .castable x x, .selects x Bundle.tFill0 Bundle.tFill0, .selects x Bundle.tFill Bundle.tFill, .lays x Bundle.tN "cause" "Ljava/lang/Throwable;", .lays x Bundle.tN "stackTrace" Bundle.steD, .lays x Bundle.tN "suppressedExceptions" Bundle.listD, .lays x Bundle.tN "detailMessage" "Ljava/lang/String;", .isRef (.static Bundle.tN "UNASSIGNED_STACK" Bundle.steD), .isRef (.static Bundle.tN "SUPPRESSED_SENTINEL" Bundle.listD), .fieldLink Bundle.tN 198 Bundle.tN "backtrace" "Ljava/lang/Object;", .lays Bundle.tN Bundle.tN "backtrace" "Ljava/lang/Object;", .lays x Bundle.tN "backtrace" "Ljava/lang/Object;"] : List Cond)).filter vx_no
def ex_rx : ByteArray := ⟨#[0x2a, 0x2b, 0xb7, 0x00, 0x0d, 0xb1]⟩
def ex_atT (ic : Nat) (x : String) : List Cond := if x = "java/util/NoSuchElementException" then ex_atX RX4 ic x 13 ex_rx "java/lang/RuntimeException" ["java/lang/Exception"] else vx_atS RX4 ic x ex_nms
def ex_okx (ik ic : Nat) (x : String) : Prop := (∀ w ∈ Cond.classLink RX4 ik x :: Cond.initialized x :: ex_atT ic x, w ∈ lw_tbl ∧ (goodWord w = true ∨ ex_isn w = true) ∧ vx_ot w = true) ∧ Bundle.fit x = true
theorem ex_okx_0 : ex_okx 43 47 "java/lang/IllegalArgumentException" := by unfold ex_okx; decide +kernel
theorem ex_okx_1 : ex_okx 54 58 "java/lang/UnsupportedOperationException" := by unfold ex_okx; decide +kernel
theorem ex_okx_2 : ex_okx 123 127 "java/lang/IndexOutOfBoundsException" := by unfold ex_okx; decide +kernel
theorem ex_okx_3 : ex_okx 204 208 "java/util/NoSuchElementException" := by unfold ex_okx; decide +kernel
theorem ex_okx_4 : ex_okx 233 237 "java/lang/IllegalStateException" := by unfold ex_okx; decide +kernel
theorem ex_okx_all : ∀ q ∈ ex_thr 4, ex_okx q.1 q.2.2.1 q.2.2.2.1 := by
  unfold ex_thr
  exact List.forall_mem_cons.mpr ⟨ex_okx_0, List.forall_mem_cons.mpr ⟨ex_okx_1, List.forall_mem_cons.mpr ⟨ex_okx_0, List.forall_mem_cons.mpr ⟨ex_okx_1, List.forall_mem_cons.mpr ⟨ex_okx_1, List.forall_mem_cons.mpr ⟨ex_okx_0, List.forall_mem_cons.mpr ⟨ex_okx_1, List.forall_mem_cons.mpr ⟨ex_okx_2, List.forall_mem_cons.mpr ⟨ex_okx_0, List.forall_mem_cons.mpr ⟨ex_okx_1, List.forall_mem_cons.mpr ⟨ex_okx_1, List.forall_mem_cons.mpr ⟨ex_okx_0, List.forall_mem_cons.mpr ⟨ex_okx_3, List.forall_mem_cons.mpr ⟨ex_okx_3, List.forall_mem_cons.mpr ⟨ex_okx_2, List.forall_mem_cons.mpr ⟨ex_okx_2, List.forall_mem_cons.mpr ⟨ex_okx_0, List.forall_mem_cons.mpr ⟨ex_okx_0, List.forall_mem_cons.mpr ⟨ex_okx_4, fun _ h => absurd h List.not_mem_nil⟩⟩⟩⟩⟩⟩⟩⟩⟩⟩⟩⟩⟩⟩⟩⟩⟩⟩⟩
