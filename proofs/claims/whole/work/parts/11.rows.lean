section
variable {l : Launch} {D : va_G} {α : gz_P → Nat} {cA : Nat → ClassId} {own : String} {cc : ByteArray} {ret : Option FieldType} {nL d : Nat} {Q : Option Value → gz_M → Prop} {I : gz_M} {L : List (Option Value)} {st : List Value} {pc : Nat}
theorem gz_ti {a : Int} (h : -2147483648 ≤ a ∧ a ≤ 2147483647) : (Int32.ofInt a).toInt = a := Int32.toInt_ofInt_of_le (by have := h.1; simpa using this) (by have := h.2; omega)
theorem gz_tn {a : Int} (h : 0 ≤ a ∧ a ≤ 2147483647) : (Int32.ofInt a).toNatClampNeg = a.toNat := by
  show (Int32.ofInt a).toInt.toNat = a.toNat
  rw [gz_ti ⟨by omega, h.2⟩]
theorem gz_clt {a b : Int} (ra : -2147483648 ≤ a ∧ a ≤ 2147483647) (rb : -2147483648 ≤ b ∧ b ≤ 2147483647) : Int32.ofInt a < Int32.ofInt b ↔ a < b := by rw [Int32.lt_iff_toInt_lt, gz_ti ra, gz_ti rb]
theorem gz_cle {a b : Int} (ra : -2147483648 ≤ a ∧ a ≤ 2147483647) (rb : -2147483648 ≤ b ∧ b ≤ 2147483647) : Int32.ofInt a ≤ Int32.ofInt b ↔ a ≤ b := by rw [Int32.le_iff_toInt_le, gz_ti ra, gz_ti rb]
theorem gz_ceq {a b : Int} (ra : -2147483648 ≤ a ∧ a ≤ 2147483647) (rb : -2147483648 ≤ b ∧ b ≤ 2147483647) : Int32.ofInt a = Int32.ofInt b ↔ a = b := by rw [← Int32.toInt_inj, gz_ti ra, gz_ti rb]
theorem gz_z0 : (0 : Int32) = Int32.ofInt 0 := rfl
theorem gz_r0 : -2147483648 ≤ (0 : Int) ∧ (0 : Int) ≤ 2147483647 := by decide
theorem gz_pin {a : Int} {n : Nat} (h : 0 ≤ a ∧ a < n) (hn : n ≤ 2147483647) : vp_in (Int32.ofInt a) n := by
  rw [vp_in_iff, gz_ti ⟨by omega, by omega⟩]
  exact h
theorem gz_arg (x : Int32) : Value.int x = gz_i x.toInt := by
  show Value.int x = Value.int (Int32.ofInt x.toInt)
  rw [Int32.ofInt_toInt]
theorem gz_rng (x : Int32) : -2147483648 ≤ x.toInt ∧ x.toInt ≤ 2147483647 := ⟨by have := Int32.minValue_le_toInt x; simpa using this, by have := Int32.toInt_le x; have h2 : Int32.maxValue.toInt = 2147483647 := rfl; omega⟩
theorem gz_iconst {n : Int} (hd : decode cc pc = .ok (.iconst n, 1)) (k : gz_V l D α cA own cc ret nL d Q I L (gz_i n :: st) (pc + 1)) : gz_V l D α cA own cc ret nL d Q I L st pc := by
  intro p e R s m args below meth c A H locs ls cells slots QQ C hP hS hl hQ
  exact lv_iconst C.1 C.2.1 hd rfl (k p e R s m args below meth c A H locs ls cells slots QQ C hP hS hl hQ)
theorem gz_bipush {n : Int} (hd : decode cc pc = .ok (.bipush n, 2)) (hv : (Int8.ofInt n).toInt32 = Int32.ofInt n) (k : gz_V l D α cA own cc ret nL d Q I L (gz_i n :: st) (pc + 2)) : gz_V l D α cA own cc ret nL d Q I L st pc := by
  intro p e R s m args below meth c A H locs ls cells slots QQ C hP hS hl hQ
  exact lv_bipush C.1 C.2.1 hd hv (k p e R s m args below meth c A H locs ls cells slots QQ C hP hS hl hQ)
theorem gz_sipush {n : Int} (hd : decode cc pc = .ok (.sipush n, 3)) (hv : (Int16.ofInt n).toInt32 = Int32.ofInt n) (k : gz_V l D α cA own cc ret nL d Q I L (gz_i n :: st) (pc + 3)) : gz_V l D α cA own cc ret nL d Q I L st pc := by
  intro p e R s m args below meth c A H locs ls cells slots QQ C hP hS hl hQ
  exact lv_sipush C.1 C.2.1 hd hv (k p e R s m args below meth c A H locs ls cells slots QQ C hP hS hl hQ)
theorem gz_iload_n {j : Fin 4} {a : Int} (hd : decode cc pc = .ok (.iload_n j, 1)) (hL : L[(j : Nat)]? = some (some (gz_i a))) (k : gz_V l D α cA own cc ret nL d Q I L (gz_i a :: st) (pc + 1)) : gz_V l D α cA own cc ret nL d Q I L st pc := by
  intro p e R s m args below meth c A H locs ls cells slots QQ C hP hS hl hQ
  exact lv_iload_n C.1 C.2.1 hd rfl (hl.2.2 _ _ hL) (k p e R s m args below meth c A H locs ls cells slots QQ C hP hS hl hQ)
theorem gz_iload {j : Nat} {a : Int} (hd : decode cc pc = .ok (.iload j, 2)) (hL : L[j]? = some (some (gz_i a))) (k : gz_V l D α cA own cc ret nL d Q I L (gz_i a :: st) (pc + 2)) : gz_V l D α cA own cc ret nL d Q I L st pc := by
  intro p e R s m args below meth c A H locs ls cells slots QQ C hP hS hl hQ
  exact lv_iload C.1 C.2.1 hd (hl.2.2 _ _ hL) (k p e R s m args below meth c A H locs ls cells slots QQ C hP hS hl hQ)
theorem gz_istore_n {j : Fin 4} {a : Int} (hd : decode cc pc = .ok (.istore_n j, 1)) (hn : gz_nl L j = true) (hi : Nat.ble (j.val + 1) L.length = true) (hi2 : Nat.ble (j.val + 1) nL = true) (k : gz_V l D α cA own cc ret nL d Q I (L.set j (some (gz_i a))) st (pc + 1)) : gz_V l D α cA own cc ret nL d Q I L (gz_i a :: st) pc := by
  intro p e R s m args below meth c A H locs ls cells slots QQ C hP hS hl hQ
  exact lv_istore_n C.1 C.2.1 hd rfl hl.has (Nat.le_of_ble_eq_true hi2) rfl (fun ls' hl' => (k p e R s m args below meth c A H locs ls' cells slots QQ C hP hS (gz_L.set hn (Nat.le_of_ble_eq_true hi) hl') hQ))
theorem gz_istore {j : Nat} {a : Int} (hd : decode cc pc = .ok (.istore j, 2)) (hn : gz_nl L j = true) (hi : Nat.ble (j + 1) L.length = true) (hi2 : Nat.ble (j + 1) nL = true) (k : gz_V l D α cA own cc ret nL d Q I (L.set j (some (gz_i a))) st (pc + 2)) : gz_V l D α cA own cc ret nL d Q I L (gz_i a :: st) pc := by
  intro p e R s m args below meth c A H locs ls cells slots QQ C hP hS hl hQ
  exact lv_istore C.1 C.2.1 hd hl.has (Nat.le_of_ble_eq_true hi2) rfl (fun ls' hl' => (k p e R s m args below meth c A H locs ls' cells slots QQ C hP hS (gz_L.set hn (Nat.le_of_ble_eq_true hi) hl') hQ))
theorem gz_aload_n {j : Fin 4} {a : Nat} (hd : decode cc pc = .ok (.aload_n j, 1)) (hL : L[(j : Nat)]? = some (some (.ref a))) (k : gz_V l D α cA own cc ret nL d Q I L (.ref a :: st) (pc + 1)) : gz_V l D α cA own cc ret nL d Q I L st pc := by
  intro p e R s m args below meth c A H locs ls cells slots QQ C hP hS hl hQ
  exact lv_aload_n C.1 C.2.1 hd rfl (hl.2.2 _ _ hL) (k p e R s m args below meth c A H locs ls cells slots QQ C hP hS hl hQ)
theorem gz_aload {j : Nat} {a : Nat} (hd : decode cc pc = .ok (.aload j, 2)) (hL : L[j]? = some (some (.ref a))) (k : gz_V l D α cA own cc ret nL d Q I L (.ref a :: st) (pc + 2)) : gz_V l D α cA own cc ret nL d Q I L st pc := by
  intro p e R s m args below meth c A H locs ls cells slots QQ C hP hS hl hQ
  exact lv_aload C.1 C.2.1 hd (hl.2.2 _ _ hL) (k p e R s m args below meth c A H locs ls cells slots QQ C hP hS hl hQ)
theorem gz_astore_n {j : Fin 4} {a : Nat} (hd : decode cc pc = .ok (.astore_n j, 1)) (hn : gz_nl L j = true) (hi : Nat.ble (j.val + 1) L.length = true) (hi2 : Nat.ble (j.val + 1) nL = true) (k : gz_V l D α cA own cc ret nL d Q I (L.set j (some (.ref a))) st (pc + 1)) : gz_V l D α cA own cc ret nL d Q I L (.ref a :: st) pc := by
  intro p e R s m args below meth c A H locs ls cells slots QQ C hP hS hl hQ
  exact lv_astore_n C.1 C.2.1 hd rfl hl.has (Nat.le_of_ble_eq_true hi2) rfl (fun ls' hl' => (k p e R s m args below meth c A H locs ls' cells slots QQ C hP hS (gz_L.set hn (Nat.le_of_ble_eq_true hi) hl') hQ))
theorem gz_astore {j : Nat} {a : Nat} (hd : decode cc pc = .ok (.astore j, 2)) (hn : gz_nl L j = true) (hi : Nat.ble (j + 1) L.length = true) (hi2 : Nat.ble (j + 1) nL = true) (k : gz_V l D α cA own cc ret nL d Q I (L.set j (some (.ref a))) st (pc + 2)) : gz_V l D α cA own cc ret nL d Q I L (.ref a :: st) pc := by
  intro p e R s m args below meth c A H locs ls cells slots QQ C hP hS hl hQ
  exact lv_astore C.1 C.2.1 hd hl.has (Nat.le_of_ble_eq_true hi2) rfl (fun ls' hl' => (k p e R s m args below meth c A H locs ls' cells slots QQ C hP hS (gz_L.set hn (Nat.le_of_ble_eq_true hi) hl') hQ))
theorem gz_aload_nN {j : Fin 4}  (hd : decode cc pc = .ok (.aload_n j, 1)) (hL : L[(j : Nat)]? = some (some (.null))) (k : gz_V l D α cA own cc ret nL d Q I L (.null :: st) (pc + 1)) : gz_V l D α cA own cc ret nL d Q I L st pc := by
  intro p e R s m args below meth c A H locs ls cells slots QQ C hP hS hl hQ
  exact lv_aload_nN C.1 C.2.1 hd rfl (hl.2.2 _ _ hL) (k p e R s m args below meth c A H locs ls cells slots QQ C hP hS hl hQ)
theorem gz_aloadN {j : Nat}  (hd : decode cc pc = .ok (.aload j, 2)) (hL : L[j]? = some (some (.null))) (k : gz_V l D α cA own cc ret nL d Q I L (.null :: st) (pc + 2)) : gz_V l D α cA own cc ret nL d Q I L st pc := by
  intro p e R s m args below meth c A H locs ls cells slots QQ C hP hS hl hQ
  exact lv_aloadN C.1 C.2.1 hd (hl.2.2 _ _ hL) (k p e R s m args below meth c A H locs ls cells slots QQ C hP hS hl hQ)
theorem gz_astore_nN {j : Fin 4}  (hd : decode cc pc = .ok (.astore_n j, 1)) (hn : gz_nl L j = true) (hi : Nat.ble (j.val + 1) L.length = true) (hi2 : Nat.ble (j.val + 1) nL = true) (k : gz_V l D α cA own cc ret nL d Q I (L.set j (some (.null))) st (pc + 1)) : gz_V l D α cA own cc ret nL d Q I L (.null :: st) pc := by
  intro p e R s m args below meth c A H locs ls cells slots QQ C hP hS hl hQ
  exact lv_astore_nN C.1 C.2.1 hd rfl hl.has (Nat.le_of_ble_eq_true hi2) rfl (fun ls' hl' => (k p e R s m args below meth c A H locs ls' cells slots QQ C hP hS (gz_L.set hn (Nat.le_of_ble_eq_true hi) hl') hQ))
theorem gz_astoreN {j : Nat}  (hd : decode cc pc = .ok (.astore j, 2)) (hn : gz_nl L j = true) (hi : Nat.ble (j + 1) L.length = true) (hi2 : Nat.ble (j + 1) nL = true) (k : gz_V l D α cA own cc ret nL d Q I (L.set j (some (.null))) st (pc + 2)) : gz_V l D α cA own cc ret nL d Q I L (.null :: st) pc := by
  intro p e R s m args below meth c A H locs ls cells slots QQ C hP hS hl hQ
  exact lv_astoreN C.1 C.2.1 hd hl.has (Nat.le_of_ble_eq_true hi2) rfl (fun ls' hl' => (k p e R s m args below meth c A H locs ls' cells slots QQ C hP hS (gz_L.set hn (Nat.le_of_ble_eq_true hi) hl') hQ))
theorem gz_lload {j : Nat} {a : Int64} (hd : decode cc pc = .ok (.lload j, 2)) (hL : L[j]? = some (some (.long a))) (k : gz_V l D α cA own cc ret nL d Q I L (.long a :: st) (pc + 2)) : gz_V l D α cA own cc ret nL d Q I L st pc := by
  intro p e R s m args below meth c A H locs ls cells slots QQ C hP hS hl hQ
  exact lv_lload C.1 C.2.1 hd (hl.2.2 _ _ hL) (k p e R s m args below meth c A H locs ls cells slots QQ C hP hS hl hQ)
theorem gz_iinc {j : Nat} {n a : Int} (hd : decode cc pc = .ok (.iinc j n, 3)) (hL : L[j]? = some (some (gz_i a))) (hn : gz_nl L j = true) (hi : Nat.ble (j + 1) L.length = true) (hi2 : Nat.ble (j + 1) nL = true) (k : gz_V l D α cA own cc ret nL d Q I (L.set j (some (gz_i (a + n)))) st (pc + 3)) : gz_V l D α cA own cc ret nL d Q I L st pc := by
  intro p e R s m args below meth c A H locs ls cells slots QQ C hP hS hl hQ
  obtain ⟨q, hq⟩ := List.getElem?_of_mem (gz_as_mem.mpr hL)
  exact lv_iinc (k := q) (v := Int32.ofInt (a + n)) C.1 C.2.1 hd hl.has hq (by rw [Int32.ofInt_add]) (Nat.le_of_ble_eq_true hi2) rfl (fun ls' hl' => (k p e R s m args below meth c A H locs ls' cells slots QQ C hP hS (gz_L.set hn (Nat.le_of_ble_eq_true hi) hl') hQ))
theorem gz_iadd {a b : Int} (hd : decode cc pc = .ok (.iadd, 1)) (k : gz_V l D α cA own cc ret nL d Q I L (gz_i (a + b) :: st) (pc + 1)) : gz_V l D α cA own cc ret nL d Q I L (gz_i b :: gz_i a :: st) pc := by
  intro p e R s m args below meth c A H locs ls cells slots QQ C hP hS hl hQ
  exact lv_iadd C.1 C.2.1 hd (by rw [← Int32.ofInt_add]; exact (k p e R s m args below meth c A H locs ls cells slots QQ C hP hS hl hQ))
theorem gz_isub {a b : Int} (hd : decode cc pc = .ok (.isub, 1)) (k : gz_V l D α cA own cc ret nL d Q I L (gz_i (a - b) :: st) (pc + 1)) : gz_V l D α cA own cc ret nL d Q I L (gz_i b :: gz_i a :: st) pc := by
  intro p e R s m args below meth c A H locs ls cells slots QQ C hP hS hl hQ
  exact lv_isub C.1 C.2.1 hd (by rw [← Int32.ofInt_sub]; exact (k p e R s m args below meth c A H locs ls cells slots QQ C hP hS hl hQ))
theorem gz_imul {a b : Int} (hd : decode cc pc = .ok (.imul, 1)) (k : gz_V l D α cA own cc ret nL d Q I L (gz_i (a * b) :: st) (pc + 1)) : gz_V l D α cA own cc ret nL d Q I L (gz_i b :: gz_i a :: st) pc := by
  intro p e R s m args below meth c A H locs ls cells slots QQ C hP hS hl hQ
  exact lv_imul C.1 C.2.1 hd (by rw [← Int32.ofInt_mul]; exact (k p e R s m args below meth c A H locs ls cells slots QQ C hP hS hl hQ))
theorem gz_dv {a b : Int} (ra : 0 ≤ a ∧ a ≤ 2147483647) (rb : 0 < b ∧ b ≤ 2147483647) : Int32.ofInt a / Int32.ofInt b = Int32.ofInt (a / b) := by
  have h0 : 0 ≤ a / b := Int.ediv_nonneg ra.1 (by omega)
  have h1 : a / b ≤ a := Int.ediv_le_self b ra.1
  rw [← Int32.toInt_inj, Int32.toInt_div_of_ne_left, gz_ti ⟨by omega, ra.2⟩, gz_ti ⟨by omega, rb.2⟩, gz_ti ⟨by omega, by omega⟩, Int.tdiv_eq_ediv_of_nonneg ra.1]
  intro h
  have := congrArg Int32.toInt h
  rw [gz_ti ⟨by omega, ra.2⟩] at this
  have h3 : Int32.minValue.toInt = -2147483648 := by decide
  omega
theorem gz_md {a b : Int} (ra : 0 ≤ a ∧ a ≤ 2147483647) (rb : 0 < b ∧ b ≤ 2147483647) : Int32.ofInt a - Int32.ofInt a / Int32.ofInt b * Int32.ofInt b = Int32.ofInt (a % b) := by
  rw [gz_dv ra rb, ← Int32.ofInt_mul, ← Int32.ofInt_sub]
  congr 1
  have := Int.emod_add_mul_ediv a b
  rw [Int.mul_comm (a / b) b]
  omega
theorem gz_nz {b : Int} (rb : 0 < b ∧ b ≤ 2147483647) : ¬ Int32.ofInt b = 0 := by
  rw [gz_z0, gz_ceq ⟨by omega, rb.2⟩ gz_r0]
  omega
theorem gz_an (a : Int) : Int32.ofInt a &&& Int32.ofInt 255 = Int32.ofInt (a % 256) := by
  apply Int32.toBitVec.inj
  rw [Int32.toBitVec_and, Int32.toBitVec_ofInt, Int32.toBitVec_ofInt, Int32.toBitVec_ofInt]
  apply BitVec.eq_of_toNat_eq
  rw [BitVec.toNat_and, BitVec.toNat_ofInt, BitVec.toNat_ofInt, BitVec.toNat_ofInt]
  have e : (((255 : Int) % ((2 ^ 32 : Nat) : Int)).toNat) = 2 ^ 8 - 1 := by decide
  rw [e, Nat.and_two_pow_sub_one_eq_mod]
  omega
theorem gz_idiv {a b : Int} (hd : decode cc pc = .ok (.idiv, 1)) (ra : 0 ≤ a ∧ a ≤ 2147483647) (rb : 0 < b ∧ b ≤ 2147483647) (k : gz_V l D α cA own cc ret nL d Q I L (gz_i (a / b) :: st) (pc + 1)) : gz_V l D α cA own cc ret nL d Q I L (gz_i b :: gz_i a :: st) pc := by
  intro p e R s m args below meth c A H locs ls cells slots QQ C hP hS hl hQ
  exact lv_idiv C.1 C.2.1 hd (gz_nz rb) (by rw [gz_dv ra rb]; exact (k p e R s m args below meth c A H locs ls cells slots QQ C hP hS hl hQ))
theorem gz_irem {a b : Int} (hd : decode cc pc = .ok (.irem, 1)) (ra : 0 ≤ a ∧ a ≤ 2147483647) (rb : 0 < b ∧ b ≤ 2147483647) (k : gz_V l D α cA own cc ret nL d Q I L (gz_i (a % b) :: st) (pc + 1)) : gz_V l D α cA own cc ret nL d Q I L (gz_i b :: gz_i a :: st) pc := by
  intro p e R s m args below meth c A H locs ls cells slots QQ C hP hS hl hQ
  exact lv_irem C.1 C.2.1 hd (gz_nz rb) (by rw [gz_md ra rb]; exact (k p e R s m args below meth c A H locs ls cells slots QQ C hP hS hl hQ))
theorem gz_iand {a : Int} (hd : decode cc pc = .ok (.iand, 1)) (k : gz_V l D α cA own cc ret nL d Q I L (gz_i (a % 256) :: st) (pc + 1)) : gz_V l D α cA own cc ret nL d Q I L (gz_i 255 :: gz_i a :: st) pc := by
  intro p e R s m args below meth c A H locs ls cells slots QQ C hP hS hl hQ
  exact lv_iand C.1 C.2.1 hd (by rw [gz_an]; exact (k p e R s m args below meth c A H locs ls cells slots QQ C hP hS hl hQ))
def gz_x (a b : Int) : Int := (Int32.ofInt a ^^^ Int32.ofInt b).toInt
theorem gz_ixor {a b : Int} (hd : decode cc pc = .ok (.ixor, 1)) (k : gz_V l D α cA own cc ret nL d Q I L (gz_i (gz_x a b) :: st) (pc + 1)) : gz_V l D α cA own cc ret nL d Q I L (gz_i b :: gz_i a :: st) pc := by
  intro p e R s m args below meth c A H locs ls cells slots QQ C hP hS hl hQ
  exact lv_ixor C.1 C.2.1 hd (by have h := (k p e R s m args below meth c A H locs ls cells slots QQ C hP hS hl hQ); unfold gz_x gz_i at h; rw [Int32.ofInt_toInt] at h; exact h)
theorem gz_dup {v : Value} (hd : decode cc pc = .ok (.dup, 1)) (hv : v.category = 1) (k : gz_V l D α cA own cc ret nL d Q I L (v :: v :: st) (pc + 1)) : gz_V l D α cA own cc ret nL d Q I L (v :: st) pc := by
  intro p e R s m args below meth c A H locs ls cells slots QQ C hP hS hl hQ
  exact lv_dup C.1 C.2.1 hd hv (k p e R s m args below meth c A H locs ls cells slots QQ C hP hS hl hQ)
theorem gz_dup2 {v w : Value} (hd : decode cc pc = .ok (.dup2, 1)) (hv : v.category = 1) (hw : w.category = 1) (k : gz_V l D α cA own cc ret nL d Q I L (v :: w :: v :: w :: st) (pc + 1)) : gz_V l D α cA own cc ret nL d Q I L (v :: w :: st) pc := by
  intro p e R s m args below meth c A H locs ls cells slots QQ C hP hS hl hQ
  exact lv_dup2_11 C.1 C.2.1 hd hv hw (k p e R s m args below meth c A H locs ls cells slots QQ C hP hS hl hQ)
theorem gz_null  (hd : decode cc pc = .ok (.aconst_null, 1)) (k : gz_V l D α cA own cc ret nL d Q I L (.null :: st) (pc + 1)) : gz_V l D α cA own cc ret nL d Q I L st pc := by
  intro p e R s m args below meth c A H locs ls cells slots QQ C hP hS hl hQ
  exact lv_null C.1 C.2.1 hd (k p e R s m args below meth c A H locs ls cells slots QQ C hP hS hl hQ)
theorem gz_goto {off : Int} {tgt : Nat} (hd : decode cc pc = .ok (.goto off, 3)) (ht : (pc : Int) + off = (tgt : Int)) (k : gz_V l D α cA own cc ret nL d Q I L st tgt) : gz_V l D α cA own cc ret nL d Q I L st pc := by
  intro p e R s m args below meth c A H locs ls cells slots QQ C hP hS hl hQ
  exact lv_goto C.1 C.2.1 hd ht (k p e R s m args below meth c A H locs ls cells slots QQ C hP hS hl hQ)
theorem gz_ifnull {off : Int} {x : Nat} (hd : decode cc pc = .ok (.ifnull off, 3)) (k : gz_V l D α cA own cc ret nL d Q I L st (pc + 3)) : gz_V l D α cA own cc ret nL d Q I L (.ref x :: st) pc := by
  intro p e R s m args below meth c A H locs ls cells slots QQ C hP hS hl hQ
  exact lv_ifnull C.1 C.2.1 hd (k p e R s m args below meth c A H locs ls cells slots QQ C hP hS hl hQ)
theorem gz_ifnullN {off : Int} {tgt : Nat} (hd : decode cc pc = .ok (.ifnull off, 3)) (ht : (pc : Int) + off = (tgt : Int)) (k : gz_V l D α cA own cc ret nL d Q I L st tgt) : gz_V l D α cA own cc ret nL d Q I L (.null :: st) pc := by
  intro p e R s m args below meth c A H locs ls cells slots QQ C hP hS hl hQ
  exact lv_ifnullN C.1 C.2.1 hd ht (k p e R s m args below meth c A H locs ls cells slots QQ C hP hS hl hQ)
theorem gz_ifnonnull {off : Int} {tgt : Nat} {x : Nat} (hd : decode cc pc = .ok (.ifnonnull off, 3)) (ht : (pc : Int) + off = (tgt : Int)) (k : gz_V l D α cA own cc ret nL d Q I L st tgt) : gz_V l D α cA own cc ret nL d Q I L (.ref x :: st) pc := by
  intro p e R s m args below meth c A H locs ls cells slots QQ C hP hS hl hQ
  exact lv_ifnonnull C.1 C.2.1 hd ht (k p e R s m args below meth c A H locs ls cells slots QQ C hP hS hl hQ)
theorem gz_ifnonnullN {off : Int} (hd : decode cc pc = .ok (.ifnonnull off, 3)) (k : gz_V l D α cA own cc ret nL d Q I L st (pc + 3)) : gz_V l D α cA own cc ret nL d Q I L (.null :: st) pc := by
  intro p e R s m args below meth c A H locs ls cells slots QQ C hP hS hl hQ
  exact lv_ifnonnullN C.1 C.2.1 hd (k p e R s m args below meth c A H locs ls cells slots QQ C hP hS hl hQ)
theorem gz_i2l {a : Int} (hd : decode cc pc = .ok (.i2l, 1)) (k : gz_V l D α cA own cc ret nL d Q I L (.long (Int32.ofInt a).toInt64 :: st) (pc + 1)) : gz_V l D α cA own cc ret nL d Q I L (gz_i a :: st) pc := by
  intro p e R s m args below meth c A H locs ls cells slots QQ C hP hS hl hQ
  exact lv_i2l C.1 C.2.1 hd rfl (k p e R s m args below meth c A H locs ls cells slots QQ C hP hS hl hQ)
theorem gz_l2i {x : Int64} (hd : decode cc pc = .ok (.l2i, 1)) (k : gz_V l D α cA own cc ret nL d Q I L (gz_i x.toInt32.toInt :: st) (pc + 1)) : gz_V l D α cA own cc ret nL d Q I L (.long x :: st) pc := by
  intro p e R s m args below meth c A H locs ls cells slots QQ C hP hS hl hQ
  exact lv_l2i C.1 C.2.1 hd rfl (by have h := (k p e R s m args below meth c A H locs ls cells slots QQ C hP hS hl hQ); unfold gz_i at h; rw [Int32.ofInt_toInt] at h; exact h)
theorem gz_lshl {x : Int64} {a : Int} (hd : decode cc pc = .ok (.lshl, 1)) (k : gz_V l D α cA own cc ret nL d Q I L (.long (x <<< ((Int32.ofInt a).toInt64 &&& 63)) :: st) (pc + 1)) : gz_V l D α cA own cc ret nL d Q I L (gz_i a :: .long x :: st) pc := by
  intro p e R s m args below meth c A H locs ls cells slots QQ C hP hS hl hQ
  exact lv_lshl C.1 C.2.1 hd rfl (k p e R s m args below meth c A H locs ls cells slots QQ C hP hS hl hQ)
theorem gz_lushr {x : Int64} {a : Int} (hd : decode cc pc = .ok (.lushr, 1)) (k : gz_V l D α cA own cc ret nL d Q I L (.long ((x.toUInt64 >>> ((Int32.ofInt a).toInt64.toUInt64 &&& Int64.toUInt64 63)).toInt64) :: st) (pc + 1)) : gz_V l D α cA own cc ret nL d Q I L (gz_i a :: .long x :: st) pc := by
  intro p e R s m args below meth c A H locs ls cells slots QQ C hP hS hl hQ
  exact lv_lushr C.1 C.2.1 hd rfl (k p e R s m args below meth c A H locs ls cells slots QQ C hP hS hl hQ)
theorem gz_land {x y : Int64} (hd : decode cc pc = .ok (.land, 1)) (k : gz_V l D α cA own cc ret nL d Q I L (.long (x &&& y) :: st) (pc + 1)) : gz_V l D α cA own cc ret nL d Q I L (.long y :: .long x :: st) pc := by
  intro p e R s m args below meth c A H locs ls cells slots QQ C hP hS hl hQ
  exact lv_land C.1 C.2.1 hd (k p e R s m args below meth c A H locs ls cells slots QQ C hP hS hl hQ)
theorem gz_lor {x y : Int64} (hd : decode cc pc = .ok (.lor, 1)) (k : gz_V l D α cA own cc ret nL d Q I L (.long (x ||| y) :: st) (pc + 1)) : gz_V l D α cA own cc ret nL d Q I L (.long y :: .long x :: st) pc := by
  intro p e R s m args below meth c A H locs ls cells slots QQ C hP hS hl hQ
  exact lv_lor C.1 C.2.1 hd (k p e R s m args below meth c A H locs ls cells slots QQ C hP hS hl hQ)
theorem gz_ldc2 {idx : Nat} {v : Int64} (hd : decode cc pc = .ok (.ldc2_w idx, 3)) (hw : Cond.constantLong own idx v ∈ gz_ts) (k : gz_V l D α cA own cc ret nL d Q I L (.long v :: st) (pc + 3)) : gz_V l D α cA own cc ret nL d Q I L st pc := by
  intro p e R s m args below meth c A H locs ls cells slots QQ C hP hS hl hQ
  exact lv_ldc2 C.1 C.2.1 C.2.2.2.2.1 (C.2.2.2.2.2.1 _ hw) hd (k p e R s m args below meth c A H locs ls cells slots QQ C hP hS hl hQ)
theorem gz_icmp_lt {off : Int} {tgt : Nat} {a b : Int} (hd : decode cc pc = .ok (.if_icmp .lt off, 3)) (ht : (pc : Int) + off = (tgt : Int)) (ra : -2147483648 ≤ a ∧ a ≤ 2147483647) (rb : -2147483648 ≤ b ∧ b ≤ 2147483647) (kt : a < b → gz_V l D α cA own cc ret nL d Q I L st tgt) (kf : b ≤ a → gz_V l D α cA own cc ret nL d Q I L st (pc + 3)) : gz_V l D α cA own cc ret nL d Q I L (gz_i b :: gz_i a :: st) pc := by
  intro p e R s m args below meth c A H locs ls cells slots QQ C hP hS hl hQ
  exact lv_icmp_lt C.1 C.2.1 hd ht (fun h => kt ((gz_clt ra rb).mp h) p e R s m args below meth c A H locs ls cells slots QQ C hP hS hl hQ) (fun h => kf (Int.not_lt.mp (fun q => h ((gz_clt ra rb).mpr q))) p e R s m args below meth c A H locs ls cells slots QQ C hP hS hl hQ)
theorem gz_if_lt {off : Int} {tgt : Nat} {a : Int} (hd : decode cc pc = .ok (.ifCond .lt off, 3)) (ht : (pc : Int) + off = (tgt : Int)) (ra : -2147483648 ≤ a ∧ a ≤ 2147483647) (kt : a < 0 → gz_V l D α cA own cc ret nL d Q I L st tgt) (kf : 0 ≤ a → gz_V l D α cA own cc ret nL d Q I L st (pc + 3)) : gz_V l D α cA own cc ret nL d Q I L (gz_i a :: st) pc := by
  intro p e R s m args below meth c A H locs ls cells slots QQ C hP hS hl hQ
  exact lv_if_lt C.1 C.2.1 hd ht (fun h => kt ((gz_clt ra gz_r0).mp h) p e R s m args below meth c A H locs ls cells slots QQ C hP hS hl hQ) (fun h => kf (Int.not_lt.mp (fun q => h ((gz_clt ra gz_r0).mpr q))) p e R s m args below meth c A H locs ls cells slots QQ C hP hS hl hQ)
theorem gz_icmp_ge {off : Int} {tgt : Nat} {a b : Int} (hd : decode cc pc = .ok (.if_icmp .ge off, 3)) (ht : (pc : Int) + off = (tgt : Int)) (ra : -2147483648 ≤ a ∧ a ≤ 2147483647) (rb : -2147483648 ≤ b ∧ b ≤ 2147483647) (kt : b ≤ a → gz_V l D α cA own cc ret nL d Q I L st tgt) (kf : a < b → gz_V l D α cA own cc ret nL d Q I L st (pc + 3)) : gz_V l D α cA own cc ret nL d Q I L (gz_i b :: gz_i a :: st) pc := by
  intro p e R s m args below meth c A H locs ls cells slots QQ C hP hS hl hQ
  exact lv_icmp_ge C.1 C.2.1 hd ht (fun h => kt ((gz_cle rb ra).mp h) p e R s m args below meth c A H locs ls cells slots QQ C hP hS hl hQ) (fun h => kf (Int.not_le.mp (fun q => h ((gz_cle rb ra).mpr q))) p e R s m args below meth c A H locs ls cells slots QQ C hP hS hl hQ)
theorem gz_if_ge {off : Int} {tgt : Nat} {a : Int} (hd : decode cc pc = .ok (.ifCond .ge off, 3)) (ht : (pc : Int) + off = (tgt : Int)) (ra : -2147483648 ≤ a ∧ a ≤ 2147483647) (kt : 0 ≤ a → gz_V l D α cA own cc ret nL d Q I L st tgt) (kf : a < 0 → gz_V l D α cA own cc ret nL d Q I L st (pc + 3)) : gz_V l D α cA own cc ret nL d Q I L (gz_i a :: st) pc := by
  intro p e R s m args below meth c A H locs ls cells slots QQ C hP hS hl hQ
  exact lv_if_ge C.1 C.2.1 hd ht (fun h => kt ((gz_cle gz_r0 ra).mp h) p e R s m args below meth c A H locs ls cells slots QQ C hP hS hl hQ) (fun h => kf (Int.not_le.mp (fun q => h ((gz_cle gz_r0 ra).mpr q))) p e R s m args below meth c A H locs ls cells slots QQ C hP hS hl hQ)
theorem gz_icmp_gt {off : Int} {tgt : Nat} {a b : Int} (hd : decode cc pc = .ok (.if_icmp .gt off, 3)) (ht : (pc : Int) + off = (tgt : Int)) (ra : -2147483648 ≤ a ∧ a ≤ 2147483647) (rb : -2147483648 ≤ b ∧ b ≤ 2147483647) (kt : b < a → gz_V l D α cA own cc ret nL d Q I L st tgt) (kf : a ≤ b → gz_V l D α cA own cc ret nL d Q I L st (pc + 3)) : gz_V l D α cA own cc ret nL d Q I L (gz_i b :: gz_i a :: st) pc := by
  intro p e R s m args below meth c A H locs ls cells slots QQ C hP hS hl hQ
  exact lv_icmp_gt C.1 C.2.1 hd ht (fun h => kt ((gz_clt rb ra).mp h) p e R s m args below meth c A H locs ls cells slots QQ C hP hS hl hQ) (fun h => kf (Int.not_lt.mp (fun q => h ((gz_clt rb ra).mpr q))) p e R s m args below meth c A H locs ls cells slots QQ C hP hS hl hQ)
theorem gz_if_gt {off : Int} {tgt : Nat} {a : Int} (hd : decode cc pc = .ok (.ifCond .gt off, 3)) (ht : (pc : Int) + off = (tgt : Int)) (ra : -2147483648 ≤ a ∧ a ≤ 2147483647) (kt : 0 < a → gz_V l D α cA own cc ret nL d Q I L st tgt) (kf : a ≤ 0 → gz_V l D α cA own cc ret nL d Q I L st (pc + 3)) : gz_V l D α cA own cc ret nL d Q I L (gz_i a :: st) pc := by
  intro p e R s m args below meth c A H locs ls cells slots QQ C hP hS hl hQ
  exact lv_if_gt C.1 C.2.1 hd ht (fun h => kt ((gz_clt gz_r0 ra).mp h) p e R s m args below meth c A H locs ls cells slots QQ C hP hS hl hQ) (fun h => kf (Int.not_lt.mp (fun q => h ((gz_clt gz_r0 ra).mpr q))) p e R s m args below meth c A H locs ls cells slots QQ C hP hS hl hQ)
theorem gz_icmp_le {off : Int} {tgt : Nat} {a b : Int} (hd : decode cc pc = .ok (.if_icmp .le off, 3)) (ht : (pc : Int) + off = (tgt : Int)) (ra : -2147483648 ≤ a ∧ a ≤ 2147483647) (rb : -2147483648 ≤ b ∧ b ≤ 2147483647) (kt : a ≤ b → gz_V l D α cA own cc ret nL d Q I L st tgt) (kf : b < a → gz_V l D α cA own cc ret nL d Q I L st (pc + 3)) : gz_V l D α cA own cc ret nL d Q I L (gz_i b :: gz_i a :: st) pc := by
  intro p e R s m args below meth c A H locs ls cells slots QQ C hP hS hl hQ
  exact lv_icmp_le C.1 C.2.1 hd ht (fun h => kt ((gz_cle ra rb).mp h) p e R s m args below meth c A H locs ls cells slots QQ C hP hS hl hQ) (fun h => kf (Int.not_le.mp (fun q => h ((gz_cle ra rb).mpr q))) p e R s m args below meth c A H locs ls cells slots QQ C hP hS hl hQ)
theorem gz_if_le {off : Int} {tgt : Nat} {a : Int} (hd : decode cc pc = .ok (.ifCond .le off, 3)) (ht : (pc : Int) + off = (tgt : Int)) (ra : -2147483648 ≤ a ∧ a ≤ 2147483647) (kt : a ≤ 0 → gz_V l D α cA own cc ret nL d Q I L st tgt) (kf : 0 < a → gz_V l D α cA own cc ret nL d Q I L st (pc + 3)) : gz_V l D α cA own cc ret nL d Q I L (gz_i a :: st) pc := by
  intro p e R s m args below meth c A H locs ls cells slots QQ C hP hS hl hQ
  exact lv_if_le C.1 C.2.1 hd ht (fun h => kt ((gz_cle ra gz_r0).mp h) p e R s m args below meth c A H locs ls cells slots QQ C hP hS hl hQ) (fun h => kf (Int.not_le.mp (fun q => h ((gz_cle ra gz_r0).mpr q))) p e R s m args below meth c A H locs ls cells slots QQ C hP hS hl hQ)
theorem gz_icmp_eq {off : Int} {tgt : Nat} {a b : Int} (hd : decode cc pc = .ok (.if_icmp .eq off, 3)) (ht : (pc : Int) + off = (tgt : Int)) (ra : -2147483648 ≤ a ∧ a ≤ 2147483647) (rb : -2147483648 ≤ b ∧ b ≤ 2147483647) (kt : a = b → gz_V l D α cA own cc ret nL d Q I L st tgt) (kf : ¬ a = b → gz_V l D α cA own cc ret nL d Q I L st (pc + 3)) : gz_V l D α cA own cc ret nL d Q I L (gz_i b :: gz_i a :: st) pc := by
  intro p e R s m args below meth c A H locs ls cells slots QQ C hP hS hl hQ
  exact lv_icmp_eq C.1 C.2.1 hd ht (fun h => kt ((gz_ceq ra rb).mp h) p e R s m args below meth c A H locs ls cells slots QQ C hP hS hl hQ) (fun h => kf (fun q => h ((gz_ceq ra rb).mpr q)) p e R s m args below meth c A H locs ls cells slots QQ C hP hS hl hQ)
theorem gz_if_eq {off : Int} {tgt : Nat} {a : Int} (hd : decode cc pc = .ok (.ifCond .eq off, 3)) (ht : (pc : Int) + off = (tgt : Int)) (ra : -2147483648 ≤ a ∧ a ≤ 2147483647) (kt : a = 0 → gz_V l D α cA own cc ret nL d Q I L st tgt) (kf : ¬ a = 0 → gz_V l D α cA own cc ret nL d Q I L st (pc + 3)) : gz_V l D α cA own cc ret nL d Q I L (gz_i a :: st) pc := by
  intro p e R s m args below meth c A H locs ls cells slots QQ C hP hS hl hQ
  exact lv_if_eq C.1 C.2.1 hd ht (fun h => kt ((gz_ceq ra gz_r0).mp h) p e R s m args below meth c A H locs ls cells slots QQ C hP hS hl hQ) (fun h => kf (fun q => h ((gz_ceq ra gz_r0).mpr q)) p e R s m args below meth c A H locs ls cells slots QQ C hP hS hl hQ)
theorem gz_icmp_ne {off : Int} {tgt : Nat} {a b : Int} (hd : decode cc pc = .ok (.if_icmp .ne off, 3)) (ht : (pc : Int) + off = (tgt : Int)) (ra : -2147483648 ≤ a ∧ a ≤ 2147483647) (rb : -2147483648 ≤ b ∧ b ≤ 2147483647) (kt : ¬ a = b → gz_V l D α cA own cc ret nL d Q I L st tgt) (kf : a = b → gz_V l D α cA own cc ret nL d Q I L st (pc + 3)) : gz_V l D α cA own cc ret nL d Q I L (gz_i b :: gz_i a :: st) pc := by
  intro p e R s m args below meth c A H locs ls cells slots QQ C hP hS hl hQ
  exact lv_icmp_ne C.1 C.2.1 hd ht (fun h => kt (fun q => h ((gz_ceq ra rb).mpr q)) p e R s m args below meth c A H locs ls cells slots QQ C hP hS hl hQ) (fun h => kf ((gz_ceq ra rb).mp h) p e R s m args below meth c A H locs ls cells slots QQ C hP hS hl hQ)
theorem gz_if_ne {off : Int} {tgt : Nat} {a : Int} (hd : decode cc pc = .ok (.ifCond .ne off, 3)) (ht : (pc : Int) + off = (tgt : Int)) (ra : -2147483648 ≤ a ∧ a ≤ 2147483647) (kt : ¬ a = 0 → gz_V l D α cA own cc ret nL d Q I L st tgt) (kf : a = 0 → gz_V l D α cA own cc ret nL d Q I L st (pc + 3)) : gz_V l D α cA own cc ret nL d Q I L (gz_i a :: st) pc := by
  intro p e R s m args below meth c A H locs ls cells slots QQ C hP hS hl hQ
  exact lv_if_ne C.1 C.2.1 hd ht (fun h => kt (fun q => h ((gz_ceq ra gz_r0).mpr q)) p e R s m args below meth c A H locs ls cells slots QQ C hP hS hl hQ) (fun h => kf ((gz_ceq ra gz_r0).mp h) p e R s m args below meth c A H locs ls cells slots QQ C hP hS hl hQ)
theorem gz_swOut {dflt lo hi : Int} {offs : Array Int} {len : Nat} {a : Int} {tgt : Nat} (hd : decode cc pc = .ok (.tableswitch dflt lo hi offs, len)) (ht : (pc : Int) + dflt = (tgt : Int)) (ra : -2147483648 ≤ a ∧ a ≤ 2147483647) (h : a < lo ∨ hi < a) (k : gz_V l D α cA own cc ret nL d Q I L st tgt) : gz_V l D α cA own cc ret nL d Q I L (gz_i a :: st) pc := by
  intro p e R s m args below meth c A H locs ls cells slots QQ C hP hS hl hQ
  exact lv_tableOut C.1 C.2.1 hd (by rw [gz_ti ra]; exact h) ht (k p e R s m args below meth c A H locs ls cells slots QQ C hP hS hl hQ)
theorem gz_swIn {dflt lo hi : Int} {offs : Array Int} {len : Nat} {a : Int} {off : Int} {tgt : Nat} (hd : decode cc pc = .ok (.tableswitch dflt lo hi offs, len)) (b : Int) (e : a = b) (rb : -2147483648 ≤ b ∧ b ≤ 2147483647) (h1 : ¬ b < lo) (h2 : ¬ hi < b) (ho : offs[(b - lo).toNat]? = some off) (ht : (pc : Int) + off = (tgt : Int)) (k : gz_V l D α cA own cc ret nL d Q I L st tgt) : gz_V l D α cA own cc ret nL d Q I L (gz_i a :: st) pc := by
  subst e
  intro p e R s m args below meth c A H locs ls cells slots QQ C hP hS hl hQ
  exact lv_tableIn C.1 C.2.1 hd (by rw [gz_ti rb]; exact h1) (by rw [gz_ti rb]; exact h2) (by rw [gz_ti rb]; exact ho) ht (k p e R s m args below meth c A H locs ls cells slots QQ C hP hS hl hQ)
def gz_Qi (P : Int → gz_M → Prop) : Option Value → gz_M → Prop := fun r I' => ∃ x : Int, r = some (gz_i x) ∧ P x I'
def gz_Qv (P : gz_M → Prop) : Option Value → gz_M → Prop := fun r I' => r = none ∧ P I'
def gz_Qr (P : Value → gz_M → Prop) : Option Value → gz_M → Prop := fun r I' => ∃ v : Value, r = some v ∧ P v I'
theorem gz_iret {P : Int → gz_M → Prop} {a : Int} (hd : decode cc pc = .ok (.ireturn, 1)) (hr : ret = some .int) (h : P a I) : gz_V l D α cA own cc ret nL d (gz_Qi P) I L [gz_i a] pc := by
  intro p e R s m args below meth c A H locs ls cells slots QQ C hP hS hl hQ
  exact hQ (some (gz_i a)) I H locs ls pc ⟨a, rfl, h⟩ hP hS (Or.inl ⟨hr, hd, _, rfl⟩)
theorem gz_zret {P : Int → gz_M → Prop} {a : Int} (hd : decode cc pc = .ok (.ireturn, 1)) (hr : ret = some .boolean) (hz : a = 0 ∨ a = 1) (h : P a I) : gz_V l D α cA own cc ret nL d (gz_Qi P) I L [gz_i a] pc := by
  intro p e R s m args below meth c A H locs ls cells slots QQ C hP hS hl hQ
  refine hQ (some (gz_i a)) I H locs ls pc ⟨a, rfl, h⟩ hP hS (Or.inr (Or.inl ⟨hr, hd, _, rfl, ?_⟩))
  rcases hz with rfl | rfl <;> rfl
theorem gz_vret {P : gz_M → Prop} (hd : decode cc pc = .ok (.return_, 1)) (hr : ret = none) (h : P I) : gz_V l D α cA own cc ret nL d (gz_Qv P) I L [] pc := by
  intro p e R s m args below meth c A H locs ls cells slots QQ C hP hS hl hQ
  exact hQ none I H locs ls pc ⟨rfl, h⟩ hP hS (Or.inr (Or.inr (Or.inr ⟨hr, hd, rfl⟩)))
theorem gz_aret {P : Value → gz_M → Prop} {a : Nat} {n : String} (hd : decode cc pc = .ok (.areturn, 1)) (hr : ret = some (.object n)) (h : P (.ref a) I) : gz_V l D α cA own cc ret nL d (gz_Qr P) I L [.ref a] pc := by
  intro p e R s m args below meth c A H locs ls cells slots QQ C hP hS hl hQ
  exact hQ (some (.ref a)) I H locs ls pc ⟨_, rfl, h⟩ hP hS (Or.inr (Or.inr (Or.inl ⟨⟨n, hr⟩, hd, _, rfl, Or.inr ⟨_, rfl⟩⟩)))
theorem gz_aretN {P : Value → gz_M → Prop} {n : String} (hd : decode cc pc = .ok (.areturn, 1)) (hr : ret = some (.object n)) (h : P .null I) : gz_V l D α cA own cc ret nL d (gz_Qr P) I L [.null] pc := by
  intro p e R s m args below meth c A H locs ls cells slots QQ C hP hS hl hQ
  exact hQ (some .null) I H locs ls pc ⟨_, rfl, h⟩ hP hS (Or.inr (Or.inr (Or.inl ⟨⟨n, hr⟩, hd, _, rfl, Or.inl rfl⟩)))
theorem gz_w {Q2 : Option Value → gz_M → Prop} (hq : ∀ r I', Q2 r I' → Q r I') (k : gz_V l D α cA own cc ret nL d Q2 I L st pc) : gz_V l D α cA own cc ret nL d Q I L st pc := by
  intro p e R s m args below meth c A H locs ls cells slots QQ C hP hS hl hQ
  exact k p e R s m args below meth c A H locs ls cells slots QQ C hP hS hl (fun r I' H' locs' ls' pc' h => hQ r I' H' locs' ls' pc' (hq r I' h))
theorem gz_mono {d' : Nat} (h : d' ≤ d) (k : gz_V l D α cA own cc ret nL d' Q I L st pc) : gz_V l D α cA own cc ret nL d Q I L st pc := by
  intro p e R s m args below meth c A H locs ls cells slots QQ C hP hS hl hQ
  obtain ⟨c1, c2, c3, c4, c5, c6, c7, c8, c9, c10, c11⟩ := C
  exact k p e R s m args below meth c A H locs ls cells slots QQ ⟨c1, c2, c3, c4, c5, c6, c7, c8, Nat.le_trans h c9, Nat.le_trans (Nat.mul_le_mul_left 38 h) c10, c11⟩ hP hS hl hQ
end
