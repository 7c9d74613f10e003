/-- booleans as the machine has them -/
def bi (b : Bool) : Int32 := if b = true then 1 else 0
theorem bi_t : bi true = 1 := rfl
theorem bi_f : bi false = 0 := rfl
theorem bi_eq0 {b : Bool} : bi b = 0 ↔ b = false := by cases b <;> decide
theorem bi_ne0 {b : Bool} : ¬ bi b = 0 ↔ b = true := by cases b <;> decide
theorem bi_nar (b : Bool) : narrow .boolean (.int (bi b)) = .int (bi b) := by cases b <;> decide +kernel
def lfi (i : Nat) (L : List (Nat × Value)) : List (Nat × Value) := L.filter (fun q => !(q.1 == i) && !(q.1 + 1 == i && q.2.category == 2))
def lfl (i : Nat) (L : List (Nat × Value)) : List (Nat × Value) := L.filter (fun q => !(q.1 == i) && (!(q.1 == i + 1) && !(q.1 + 1 == i && q.2.category == 2)))
theorem lfi_tv (g : GX) (i : Nat) : ∀ L : List (Nat × Value), (L.map fun q => (q.1, tv g q.2)).filter (fun q => !(q.1 == i) && !(q.1 + 1 == i && q.2.category == 2)) = (lfi i L).map fun q => (q.1, tv g q.2)
  | [] => rfl
  | a :: L => by
    have ih := lfi_tv g i L
    simp only [lfi, List.map_cons, List.filter_cons, tv_cat] at ih ⊢
    rw [ih]
    split <;> rfl
theorem lfl_tv (g : GX) (i : Nat) : ∀ L : List (Nat × Value), (L.map fun q => (q.1, tv g q.2)).filter (fun q => !(q.1 == i) && (!(q.1 == i + 1) && !(q.1 + 1 == i && q.2.category == 2))) = (lfl i L).map fun q => (q.1, tv g q.2)
  | [] => rfl
  | a :: L => by
    have ih := lfl_tv g i L
    simp only [lfl, List.map_cons, List.filter_cons, tv_cat] at ih ⊢
    rw [ih]
    split <;> rfl
theorem lat {g : GX} {ls : Array Slot} {nL : Nat} {L : List (Nat × Value)} (hl : lv_has ls nL (L.map fun q => (q.1, tv g q.2))) (j : Nat) {i : Nat} {v : Value} (h : L[j]? = some (i, v)) : ls[i]? = some (.val (tv g v)) :=
  lv_at hl j (by rw [List.getElem?_map, h]; rfl)
section ROWS
variable {g : GX} {μ : MT} {θ : TH} {h : AH} {k n : Nat} {L L' : List (Nat × Value)} {pc q : Nat} {S : List Value}
theorem V_iconst {c : Int} {v : Int32} (hd : decode μ.2.1 pc = .ok (.iconst c, 1)) (hq : pc + 1 = q) (hv : Int32.ofInt c = v) (kk : V g μ θ h k n L q (.int v :: S)) : V g μ θ h k n L pc S := by
  subst hq
  exact fun p e s m args below meth c H locs ls B R hS hl => lv_iconst B.1 B.2.1 hd hv (kk p e s m args below meth c H locs ls B R hS hl)
theorem V_bipush {c : Int} {v : Int32} (hd : decode μ.2.1 pc = .ok (.bipush c, 2)) (hq : pc + 2 = q) (hv : (Int8.ofInt c).toInt32 = v) (kk : V g μ θ h k n L q (.int v :: S)) : V g μ θ h k n L pc S := by
  subst hq
  exact fun p e s m args below meth c H locs ls B R hS hl => lv_bipush B.1 B.2.1 hd hv (kk p e s m args below meth c H locs ls B R hS hl)
theorem V_sipush {c : Int} {v : Int32} (hd : decode μ.2.1 pc = .ok (.sipush c, 3)) (hq : pc + 3 = q) (hv : (Int16.ofInt c).toInt32 = v) (kk : V g μ θ h k n L q (.int v :: S)) : V g μ θ h k n L pc S := by
  subst hq
  exact fun p e s m args below meth c H locs ls B R hS hl => lv_sipush B.1 B.2.1 hd hv (kk p e s m args below meth c H locs ls B R hS hl)
theorem V_iload_n {j : Nat} {i : Fin 4} {x : Int32} (hd : decode μ.2.1 pc = .ok (.iload_n i, 1)) (hq : pc + 1 = q) (hj : L[j]? = some ((i : Nat), .int x)) (kk : V g μ θ h k n L q (.int x :: S)) : V g μ θ h k n L pc S := by
  subst hq
  exact fun p e s m args below meth c H locs ls B R hS hl => lv_iload_n B.1 B.2.1 hd rfl (lat hl j hj) (kk p e s m args below meth c H locs ls B R hS hl)
theorem V_iload {j i : Nat} {x : Int32} (hd : decode μ.2.1 pc = .ok (.iload i, 2)) (hq : pc + 2 = q) (hj : L[j]? = some (i, .int x)) (kk : V g μ θ h k n L q (.int x :: S)) : V g μ θ h k n L pc S := by
  subst hq
  exact fun p e s m args below meth c H locs ls B R hS hl => lv_iload B.1 B.2.1 hd (lat hl j hj) (kk p e s m args below meth c H locs ls B R hS hl)
theorem V_aload_n {j : Nat} {i : Fin 4} {a : Nat} (hd : decode μ.2.1 pc = .ok (.aload_n i, 1)) (hq : pc + 1 = q) (hj : L[j]? = some ((i : Nat), .ref a)) (kk : V g μ θ h k n L q (.ref a :: S)) : V g μ θ h k n L pc S := by
  subst hq
  exact fun p e s m args below meth c H locs ls B R hS hl => lv_aload_n B.1 B.2.1 hd rfl (lat hl j hj) (kk p e s m args below meth c H locs ls B R hS hl)
theorem V_aload {j i a : Nat} (hd : decode μ.2.1 pc = .ok (.aload i, 2)) (hq : pc + 2 = q) (hj : L[j]? = some (i, .ref a)) (kk : V g μ θ h k n L q (.ref a :: S)) : V g μ θ h k n L pc S := by
  subst hq
  exact fun p e s m args below meth c H locs ls B R hS hl => lv_aload B.1 B.2.1 hd (lat hl j hj) (kk p e s m args below meth c H locs ls B R hS hl)
theorem V_sload_n {j : Nat} {i : Fin 4} (hd : decode μ.2.1 pc = .ok (.aload_n i, 1)) (hq : pc + 1 = q) (hj : L[j]? = some ((i : Nat), .float 0)) (kk : V g μ θ h k n L q (.float 0 :: S)) : V g μ θ h k n L pc S := by
  subst hq
  exact fun p e s m args below meth c H locs ls B R hS hl => lv_aload_n B.1 B.2.1 hd rfl (lat hl j hj) (kk p e s m args below meth c H locs ls B R hS hl)
theorem V_lload_n {j : Nat} {i : Fin 4} {x : Int64} (hd : decode μ.2.1 pc = .ok (.lload_n i, 1)) (hq : pc + 1 = q) (hj : L[j]? = some ((i : Nat), .long x)) (kk : V g μ θ h k n L q (.long x :: S)) : V g μ θ h k n L pc S := by
  subst hq
  exact fun p e s m args below meth c H locs ls B R hS hl => lv_lload_n B.1 B.2.1 hd rfl (lat hl j hj) (kk p e s m args below meth c H locs ls B R hS hl)
theorem V_istore_n {i : Fin 4} {x : Int32} (hd : decode μ.2.1 pc = .ok (.istore_n i, 1)) (hq : pc + 1 = q) (hi : Nat.blt i μ.2.2.1 = true) (hL : ((i : Nat), Value.int x) :: lfi i L = L') (kk : V g μ θ h k n L' q S) : V g μ θ h k n L pc (.int x :: S) := by
  subst hq; subst hL
  exact fun p e s m args below meth c H locs ls B R hS hl => lv_istore_n B.1 B.2.1 hd rfl hl (Nat.le_of_ble_eq_true hi) (by rw [lfi_tv]; rfl) (fun ls hl => kk p e s m args below meth c H locs ls B R hS hl)
theorem V_istore {i : Nat} {x : Int32} (hd : decode μ.2.1 pc = .ok (.istore i, 2)) (hq : pc + 2 = q) (hi : Nat.blt i μ.2.2.1 = true) (hL : (i, Value.int x) :: lfi i L = L') (kk : V g μ θ h k n L' q S) : V g μ θ h k n L pc (.int x :: S) := by
  subst hq; subst hL
  exact fun p e s m args below meth c H locs ls B R hS hl => lv_istore B.1 B.2.1 hd hl (Nat.le_of_ble_eq_true hi) (by rw [lfi_tv]; rfl) (fun ls hl => kk p e s m args below meth c H locs ls B R hS hl)
theorem V_astore_n {i : Fin 4} {a : Nat} (hd : decode μ.2.1 pc = .ok (.astore_n i, 1)) (hq : pc + 1 = q) (hi : Nat.blt i μ.2.2.1 = true) (hL : ((i : Nat), Value.ref a) :: lfi i L = L') (kk : V g μ θ h k n L' q S) : V g μ θ h k n L pc (.ref a :: S) := by
  subst hq; subst hL
  exact fun p e s m args below meth c H locs ls B R hS hl => lv_astore_n B.1 B.2.1 hd rfl hl (Nat.le_of_ble_eq_true hi) (by rw [lfi_tv]; rfl) (fun ls hl => kk p e s m args below meth c H locs ls B R hS hl)
theorem V_astore {i a : Nat} (hd : decode μ.2.1 pc = .ok (.astore i, 2)) (hq : pc + 2 = q) (hi : Nat.blt i μ.2.2.1 = true) (hL : (i, Value.ref a) :: lfi i L = L') (kk : V g μ θ h k n L' q S) : V g μ θ h k n L pc (.ref a :: S) := by
  subst hq; subst hL
  exact fun p e s m args below meth c H locs ls B R hS hl => lv_astore B.1 B.2.1 hd hl (Nat.le_of_ble_eq_true hi) (by rw [lfi_tv]; rfl) (fun ls hl => kk p e s m args below meth c H locs ls B R hS hl)
theorem V_lstore_n {i : Fin 4} {x : Int64} (hd : decode μ.2.1 pc = .ok (.lstore_n i, 1)) (hq : pc + 1 = q) (hi : Nat.blt (i + 1) μ.2.2.1 = true) (hL : ((i : Nat), Value.long x) :: lfl i L = L') (kk : V g μ θ h k n L' q S) : V g μ θ h k n L pc (.long x :: S) := by
  subst hq; subst hL
  exact fun p e s m args below meth c H locs ls B R hS hl => lv_lstore_n B.1 B.2.1 hd rfl hl (Nat.le_of_ble_eq_true hi) (by rw [lfl_tv]; rfl) (fun ls hl => kk p e s m args below meth c H locs ls B R hS hl)
theorem V_iinc {j i : Nat} {c : Int} {x v : Int32} (hd : decode μ.2.1 pc = .ok (.iinc i c, 3)) (hq : pc + 3 = q) (hj : L[j]? = some (i, .int x)) (hv : x + Int32.ofInt c = v) (hi : Nat.blt i μ.2.2.1 = true) (hL : (i, Value.int v) :: lfi i L = L') (kk : V g μ θ h k n L' q S) : V g μ θ h k n L pc S := by
  subst hq; subst hL
  exact fun p e s m args below meth c H locs ls B R hS hl => lv_iinc B.1 B.2.1 hd hl (k := j) (by rw [List.getElem?_map, hj]; rfl) hv (Nat.le_of_ble_eq_true hi) (by rw [lfi_tv]; rfl) (fun ls hl => kk p e s m args below meth c H locs ls B R hS hl)
theorem V_iadd {x y : Int32} (hd : decode μ.2.1 pc = .ok (.iadd, 1)) (hq : pc + 1 = q) (kk : V g μ θ h k n L q (.int (x + y) :: S)) : V g μ θ h k n L pc (.int y :: .int x :: S) := by
  subst hq
  exact fun p e s m args below meth c H locs ls B R hS hl => lv_iadd B.1 B.2.1 hd (kk p e s m args below meth c H locs ls B R hS hl)
theorem V_isub {x y : Int32} (hd : decode μ.2.1 pc = .ok (.isub, 1)) (hq : pc + 1 = q) (kk : V g μ θ h k n L q (.int (x - y) :: S)) : V g μ θ h k n L pc (.int y :: .int x :: S) := by
  subst hq
  exact fun p e s m args below meth c H locs ls B R hS hl => lv_isub B.1 B.2.1 hd (kk p e s m args below meth c H locs ls B R hS hl)
theorem V_imul {x y : Int32} (hd : decode μ.2.1 pc = .ok (.imul, 1)) (hq : pc + 1 = q) (kk : V g μ θ h k n L q (.int (x * y) :: S)) : V g μ θ h k n L pc (.int y :: .int x :: S) := by
  subst hq
  exact fun p e s m args below meth c H locs ls B R hS hl => lv_imul B.1 B.2.1 hd (kk p e s m args below meth c H locs ls B R hS hl)
theorem V_iand {x y : Int32} (hd : decode μ.2.1 pc = .ok (.iand, 1)) (hq : pc + 1 = q) (kk : V g μ θ h k n L q (.int (x &&& y) :: S)) : V g μ θ h k n L pc (.int y :: .int x :: S) := by
  subst hq
  exact fun p e s m args below meth c H locs ls B R hS hl => lv_iand B.1 B.2.1 hd (kk p e s m args below meth c H locs ls B R hS hl)
theorem V_ior {x y : Int32} (hd : decode μ.2.1 pc = .ok (.ior, 1)) (hq : pc + 1 = q) (kk : V g μ θ h k n L q (.int (x ||| y) :: S)) : V g μ θ h k n L pc (.int y :: .int x :: S) := by
  subst hq
  exact fun p e s m args below meth c H locs ls B R hS hl => lv_ior B.1 B.2.1 hd (kk p e s m args below meth c H locs ls B R hS hl)
theorem V_ishl {x y : Int32} (hd : decode μ.2.1 pc = .ok (.ishl, 1)) (hq : pc + 1 = q) (kk : V g μ θ h k n L q (.int (x <<< (y &&& 31)) :: S)) : V g μ θ h k n L pc (.int y :: .int x :: S) := by
  subst hq
  exact fun p e s m args below meth c H locs ls B R hS hl => lv_ishl B.1 B.2.1 hd (kk p e s m args below meth c H locs ls B R hS hl)
theorem V_ishr {x y : Int32} (hd : decode μ.2.1 pc = .ok (.ishr, 1)) (hq : pc + 1 = q) (kk : V g μ θ h k n L q (.int (x >>> (y &&& 31)) :: S)) : V g μ θ h k n L pc (.int y :: .int x :: S) := by
  subst hq
  exact fun p e s m args below meth c H locs ls B R hS hl => lv_ishr B.1 B.2.1 hd (kk p e s m args below meth c H locs ls B R hS hl)
theorem V_iushr {x y : Int32} (hd : decode μ.2.1 pc = .ok (.iushr, 1)) (hq : pc + 1 = q) (kk : V g μ θ h k n L q (.int ((x.toUInt32 >>> (y.toUInt32 &&& Int32.toUInt32 31)).toInt32) :: S)) : V g μ θ h k n L pc (.int y :: .int x :: S) := by
  subst hq
  exact fun p e s m args below meth c H locs ls B R hS hl => lv_iushr B.1 B.2.1 hd rfl (kk p e s m args below meth c H locs ls B R hS hl)
theorem V_irem {x y : Int32} (hd : decode μ.2.1 pc = .ok (.irem, 1)) (hq : pc + 1 = q) (hy : ¬ y = 0) (kk : V g μ θ h k n L q (.int (x - x / y * y) :: S)) : V g μ θ h k n L pc (.int y :: .int x :: S) := by
  subst hq
  exact fun p e s m args below meth c H locs ls B R hS hl => lv_irem B.1 B.2.1 hd hy (kk p e s m args below meth c H locs ls B R hS hl)
theorem V_dup {v : Value} (hd : decode μ.2.1 pc = .ok (.dup, 1)) (hq : pc + 1 = q) (hv : v.category = 1) (kk : V g μ θ h k n L q (v :: v :: S)) : V g μ θ h k n L pc (v :: S) := by
  subst hq
  exact fun p e s m args below meth c H locs ls B R hS hl => lv_dup B.1 B.2.1 hd (by rw [tv_cat]; exact hv) (kk p e s m args below meth c H locs ls B R hS hl)
theorem V_dup2 {v w : Value} (hd : decode μ.2.1 pc = .ok (.dup2, 1)) (hq : pc + 1 = q) (hv : v.category = 1) (hw : w.category = 1) (kk : V g μ θ h k n L q (v :: w :: v :: w :: S)) : V g μ θ h k n L pc (v :: w :: S) := by
  subst hq
  exact fun p e s m args below meth c H locs ls B R hS hl => lv_dup2_11 B.1 B.2.1 hd (by rw [tv_cat]; exact hv) (by rw [tv_cat]; exact hw) (kk p e s m args below meth c H locs ls B R hS hl)
theorem V_goto {off : Int} (hd : decode μ.2.1 pc = .ok (.goto off, 3)) (ht : (pc : Int) + off = (q : Int)) (kk : V g μ θ h k n L q S) : V g μ θ h k n L pc S :=
  fun p e s m args below meth c H locs ls B R hS hl => lv_goto B.1 B.2.1 hd ht (kk p e s m args below meth c H locs ls B R hS hl)
end ROWS
