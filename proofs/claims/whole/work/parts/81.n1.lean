theorem wk_L_7 : Cond.classLink RL 7 RX4 ∈ gz_ts := gz_go (gz_tb (List.mem_append_left _ (List.mem_of_getElem? (i := 9) rfl))) rfl
theorem wj_X4 : Cond.instantiable RX4 9 ∈ gz_ts := gz_go (gz_tb (List.mem_append_left _ (List.mem_of_getElem? (i := 10) rfl))) rfl
theorem wk_X4_9 : Cond.classLink RX4 9 RX2 ∈ gz_ts := gz_go (gz_tb (List.mem_append_left _ (List.mem_of_getElem? (i := 17) rfl))) rfl
theorem wo_X2 : Cond.arrayOver (.object RX2) ∈ lw_tbl := gz_tb (List.mem_append_left _ (List.mem_of_getElem? (i := 18) rfl))
theorem wk_X4_15 : Cond.classLink RX4 15 RX1 ∈ gz_ts := gz_go (gz_tb (List.mem_append_left _ (List.mem_of_getElem? (i := 19) rfl))) rfl
theorem wo_X1 : Cond.arrayOver (.object RX1) ∈ lw_tbl := gz_tb (List.mem_append_left _ (List.mem_of_getElem? (i := 20) rfl))
theorem wk_X4_21 : Cond.classLink RX4 21 RX3 ∈ gz_ts := gz_go (gz_tb (List.mem_append_left _ (List.mem_of_getElem? (i := 21) rfl))) rfl
theorem wj_X3 : Cond.instantiable RX3 8 ∈ gz_ts := gz_go (gz_tb (List.mem_append_left _ (List.mem_of_getElem? (i := 22) rfl))) rfl
theorem wx_X4_23 : Cond.methodLinkNest RX4 23 yX3_init RX4 ∈ lw_tbl := gz_tb (List.mem_append_left _ (List.mem_of_getElem? (i := 23) rfl))
theorem wk_X3_9 : Cond.classLink RX3 9 RX1 ∈ gz_ts := gz_go (gz_tb (List.mem_append_left _ (List.mem_of_getElem? (i := 27) rfl))) rfl
theorem wj_X1 : Cond.instantiable RX1 2 ∈ gz_ts := gz_go (gz_tb (List.mem_append_left _ (List.mem_of_getElem? (i := 28) rfl))) rfl
theorem wx_X3_11 : Cond.methodLinkNest RX3 11 yX1_init RX4 ∈ lw_tbl := gz_tb (List.mem_append_left _ (List.mem_of_getElem? (i := 29) rfl))
theorem wa_boolean : Cond.arrayClass .boolean ∈ gz_ts := gz_go (gz_tb (List.mem_append_left _ (List.mem_of_getElem? (i := 44) rfl))) rfl
theorem wa_int : Cond.arrayClass .int ∈ gz_ts := gz_go (gz_tb (List.mem_append_left _ (List.mem_of_getElem? (i := 45) rfl))) rfl
theorem wk_X4_28 : Cond.classLink RX4 28 RX0 ∈ gz_ts := gz_go (gz_tb (List.mem_append_left _ (List.mem_of_getElem? (i := 77) rfl))) rfl
theorem wo_X0 : Cond.arrayOver (.object RX0) ∈ lw_tbl := gz_tb (List.mem_append_left _ (List.mem_of_getElem? (i := 78) rfl))
theorem wj_X2 : Cond.instantiable RX2 3 ∈ gz_ts := gz_go (gz_tb (List.mem_append_left _ (List.mem_of_getElem? (i := 79) rfl))) rfl
theorem wx_X4_52 : Cond.methodLinkNest RX4 52 yX2_init RX4 ∈ lw_tbl := gz_tb (List.mem_append_left _ (List.mem_of_getElem? (i := 80) rfl))
theorem wx_X4_53 : Cond.methodLinkNest RX4 53 yX1_init RX4 ∈ lw_tbl := gz_tb (List.mem_append_left _ (List.mem_of_getElem? (i := 96) rfl))
theorem wj_X0 : Cond.instantiable RX0 9 ∈ gz_ts := gz_go (gz_tb (List.mem_append_left _ (List.mem_of_getElem? (i := 97) rfl))) rfl
theorem wx_X4_54 : Cond.methodLinkNest RX4 54 yX0_init RX4 ∈ lw_tbl := gz_tb (List.mem_append_left _ (List.mem_of_getElem? (i := 98) rfl))
theorem wk_X0_9 : Cond.classLink RX0 9 "[[I" ∈ gz_ts := gz_go (gz_tb (List.mem_append_left _ (List.mem_of_getElem? (i := 102) rfl))) rfl
theorem wo_A : Cond.arrayOver (.array .int) ∈ lw_tbl := gz_tb (List.mem_append_left _ (List.mem_of_getElem? (i := 103) rfl))
theorem wx_X3_48 : Cond.methodLinkNest RX3 48 yX4_digestOf RX4 ∈ lw_tbl := gz_tb (List.mem_append_right _ (List.mem_append_left _ (List.mem_of_getElem? (i := 33) rfl)))
theorem wk_L_10 : Cond.classLink RL 10 RX5 ∈ gz_ts := gz_go (gz_tb (List.mem_append_right _ (List.mem_append_right _ (List.mem_of_getElem? (i := 1) rfl)))) rfl
theorem wj_X5 : Cond.instantiable RX5 21 ∈ gz_ts := gz_go (gz_tb (List.mem_append_right _ (List.mem_append_right _ (List.mem_of_getElem? (i := 2) rfl)))) rfl
/-! THE BEGINNING: a world of n cells from the address h on, the cell i with the entry E i -/
def gn_ws (h n : Nat) (E : Nat → va_E) : va_W := (List.range n).map fun i => (h + i, E i)
theorem gn_len {h n : Nat} {E : Nat → va_E} : (gn_ws h n E).length = n := by
  unfold gn_ws
  rw [List.length_map, List.length_range]
theorem gn_get {h n : Nat} {E : Nat → va_E} {k : Nat} (hk : k < n) : (gn_ws h n E)[k]? = some (h + k, E k) := by
  unfold gn_ws
  rw [List.getElem?_map, List.getElem?_range hk]
  rfl
theorem gn_at {h n : Nat} {E : Nat → va_E} {k : Nat} {q : Nat × va_E} (hq : (gn_ws h n E)[k]? = some q) : k < n ∧ q = (h + k, E k) := by
  have hl : k < n := by
    have := (List.getElem?_eq_some_iff.mp hq).1
    rw [gn_len] at this
    exact this
  rw [gn_get hl] at hq
  exact ⟨hl, (Option.some.inj hq).symm⟩
theorem gn_D {h n : Nat} {E : Nat → va_E} : va_D (fun q => h ≤ q) (gn_ws h n E) := ⟨fun i j p q hp hq e => by
    obtain ⟨-, rfl⟩ := gn_at hp
    obtain ⟨-, rfl⟩ := gn_at hq
    have e' : h + i = h + j := e
    omega, fun k q hq => by
    obtain ⟨-, rfl⟩ := gn_at hq
    exact Nat.le_add_right h k⟩
theorem gn_P {D : va_G} {cl : List vw_C} {h n : Nat} {E : Nat → va_E} {H : Heap} : va_P D cl (gn_ws h n E) H ↔ ∀ i, i < n → va_at D cl (h + i, E i) H := ⟨fun hP i hi => hP i _ (gn_get hi), fun hh k q hq => by
    obtain ⟨h1, rfl⟩ := gn_at hq
    exact hh k h1⟩
/-- one cell has changed -/
theorem gn_up {D : va_G} {cl : List vw_C} {h n a : Nat} {E : Nat → va_E} {e : va_E} {H H1 : Heap} (hP : va_P D cl (gn_ws h n E) H) (he : va_at D cl (h + a, e) H1) (oq : ∀ q : Nat, q ≠ h + a → H1[q]? = H[q]?) : va_P D cl (gn_ws h n (va_up E a e)) H1 := gn_P.mpr fun i hi => by
  by_cases hia : i = a
  · subst hia
    rw [va_up_self]
    exact he
  · rw [va_up_ne _ _ hia]
    exact (gn_P.mp hP i hi).kept (oq (h + i) (by omega))
/-- a cell has come -/
theorem gn_push {D : va_G} {cl : List vw_C} {h n : Nat} {E E' : Nat → va_E} {H H1 : Heap} (hP : va_P D cl (gn_ws h n E) H) (hE : ∀ i, i < n → E' i = E i) (he : va_at D cl (h + n, E' n) H1) (oq : ∀ q : Nat, q < h + n → H1[q]? = H[q]?) : va_P D cl (gn_ws h (n + 1) E') H1 := gn_P.mpr fun i hi => by
  by_cases hia : i = n
  · subst hia
    exact he
  · rw [hE i (by omega)]
    exact (gn_P.mp hP i (by omega)).kept (oq (h + i) (by omega))
theorem gn_S {h n : Nat} {H0 H H1 : Heap} {locs : List Loc} (hS : va_S (fun q => h ≤ q) H0 H locs) (hsz : H.size = h + n) (z : h + n ≤ H1.size) (o1 : ∀ q : Nat, q < h + n → H1[q]? = H[q]?) : va_S (fun q => h ≤ q) H0 H1 locs := ⟨Nat.le_trans hS.1 (by omega), fun x h1 h2 => (o1 x (by have := hS.1; omega)).trans (hS.2.1 x h1 h2), hS.2.2⟩
/-- words that are no words of every method's tables: how constructors are linked, arrays over a class -/
def gn_Z (U : State) : Prop := (va_AO RX0 U ∧ va_AO RX1 U ∧ va_AO RX2 U ∧ (Cond.arrayOver (.array .int)).before #[] U = true) ∧ va_Nw (.methodLinkNest RX3 48 yX4_digestOf RX4) U ∧ va_Nw (.methodLinkNest RX3 11 yX1_init RX4) U ∧ va_Nw (.methodLinkNest RX4 23 yX3_init RX4) U ∧ va_Nw (.methodLinkNest RX4 52 yX2_init RX4) U ∧ va_Nw (.methodLinkNest RX4 53 yX1_init RX4) U ∧ va_Nw (.methodLinkNest RX4 54 yX0_init RX4) U
theorem gn_Z.warm {s U : State} (hW : s.WarmedH U.vm) (h : gn_Z s) : gn_Z U := by
  obtain ⟨⟨a1, a2, a3, a4⟩, b1, b2, b3, b4, b5, b6⟩ := h
  exact ⟨⟨a1.moved hW.alike, a2.moved hW.alike, a3.moved hW.alike, over_moved hW.alike a4⟩, va_Nw.warmM hW b1, va_Nw.warmM hW b2, va_Nw.warmM hW b3, va_Nw.warmM hW b4, va_Nw.warmM hW b5, va_Nw.warmM hW b6⟩
theorem gn_Z.same {s U : State} (e : s.vm = U.vm) (h : gn_Z s) : gn_Z U := by
  have hal : s.vm.Alike U.vm := by rw [e]; exact Vm.Alike.refl _
  obtain ⟨⟨a1, a2, a3, a4⟩, b1, b2, b3, b4, b5, b6⟩ := h
  exact ⟨⟨a1.moved hal, a2.moved hal, a3.moved hal, over_moved hal a4⟩, va_Nw.same rfl e b1, va_Nw.same rfl e b2, va_Nw.same rfl e b3, va_Nw.same rfl e b4, va_Nw.same rfl e b5, va_Nw.same rfl e b6⟩
def gn_C (D : va_G) (cA : Nat → ClassId) (h : Nat) (own : String) (cc : ByteArray) (ret : Option FieldType) (nL d : Nat) (ini : Bool) (p : Program) (R : Room) (s : State) (m : MethodId) (args : Array Value) (meth : Method) (c : Code) : Prop :=
  p.tables.exec = Jvm.exec ∧ c.code = cc ∧ meth.sig.returnType = ret ∧ c.maxLocals = nL ∧ s.vm.findClass own = some m.cls ∧ (∀ w ∈ gz_ts, w.before args s = true) ∧ va_K D gz_cl (gz_tys cA) s ∧ gn_Z s ∧ d ≤ R.frames ∧ 38 * d ≤ R.locals ∧ h ≤ s.heap.size ∧ (ini = true → meth.name = "<init>")
/-- THE JUDGEMENT: at pc, with locals L, stack st and the world of n cells E, the method comes to a place where Z holds; mc cells and ms slots are left -/
def gn_V (l : Launch) (D : va_G) (cA : Nat → ClassId) (h : Nat) (own : String) (cc : ByteArray) (ret : Option FieldType) (nL d : Nat) (ini : Bool) (Z : Nat → (Nat → va_E) → List (Option Value) → List Value → Nat → Prop) (mc ms n : Nat) (E : Nat → va_E) (L : List (Option Value)) (st : List Value) (pc : Nat) : Prop :=
  ∀ (p : Program) (e : Env) (R : Room) (s : State) (m : MethodId) (args : Array Value) (below : List Frame) (meth : Method) (c : Code) (H : Heap) (locs : List Loc) (ls : Array Slot) (cells slots : Nat) (QQ : State → Prop),
    gn_C D cA h own cc ret nL d ini p R s m args meth c → cells + mc ≤ R.cells → slots + ms ≤ R.slots → H.size = h + n → va_P D gz_cl (gn_ws h n E) H → va_S (fun q => h ≤ q) s.heap H locs → gz_L ls nL L →
    (∀ (n' : Nat) (E' : Nat → va_E) (L' : List (Option Value)) (st' : List Value) (pc' : Nat) (H' : Heap) (locs' : List Loc) (ls' : Array Slot), Z n' E' L' st' pc' → H'.size = h + n' → va_P D gz_cl (gn_ws h n' E') H' → va_S (fun q => h ≤ q) s.heap H' locs' → gz_L ls' nL L' → W p l e R s m args below meth c H' locs' (cells + mc) (slots + ms) QQ (F0 m pc' ls' st')) →
    W p l e R s m args below meth c H locs cells slots QQ (F0 m pc ls st)
section
variable {l : Launch} {D : va_G} {cA : Nat → ClassId} {h : Nat} {own : String} {cc : ByteArray} {ret : Option FieldType} {nL d : Nat} {ini : Bool} {Z : Nat → (Nat → va_E) → List (Option Value) → List Value → Nat → Prop} {mc ms n : Nat} {E : Nat → va_E} {L : List (Option Value)} {st : List Value} {pc : Nat}
theorem gn_stop (hZ : Z n E L st pc) : gn_V l D cA h own cc ret nL d ini Z mc ms n E L st pc := by
  intro p e R s m args below meth c H locs ls cells slots QQ C hm hs hsz hP hS hl hQ
  exact W.widen (Nat.le_add_right _ _) (Nat.le_add_right _ _) (hQ n E L st pc H locs ls hZ hsz hP hS hl)
/-- what lies behind the world's end doesn't count -/
theorem gn_re {E' : Nat → va_E} (hE : ∀ i, i < n → va_at D gz_cl (h + i, E i) = va_at D gz_cl (h + i, E' i)) (k : gn_V l D cA h own cc ret nL d ini Z mc ms n E' L st pc) : gn_V l D cA h own cc ret nL d ini Z mc ms n E L st pc := by
  intro p e R s m args below meth c H locs ls cells slots QQ C hm hs hsz hP hS hl hQ
  exact k p e R s m args below meth c H locs ls cells slots QQ C hm hs hsz (gn_P.mpr fun i hi => by rw [← hE i hi]; exact gn_P.mp hP i hi) hS hl hQ
theorem gn_iconst {a : Int} (hd : decode cc pc = .ok (.iconst a, 1)) (k : gn_V l D cA h own cc ret nL d ini Z mc ms n E L (gz_i a :: st) (pc + 1)) : gn_V l D cA h own cc ret nL d ini Z mc ms n E L st pc := by
  intro p e R s m args below meth c H locs ls cells slots QQ C hm hs hsz hP hS hl hQ
  exact lv_iconst C.1 C.2.1 hd rfl (k p e R s m args below meth c H locs ls cells slots QQ C hm hs hsz hP hS hl hQ)
theorem gn_bipush {a : Int} (hd : decode cc pc = .ok (.bipush a, 2)) (hv : (Int8.ofInt a).toInt32 = Int32.ofInt a) (k : gn_V l D cA h own cc ret nL d ini Z mc ms n E L (gz_i a :: st) (pc + 2)) : gn_V l D cA h own cc ret nL d ini Z mc ms n E L st pc := by
  intro p e R s m args below meth c H locs ls cells slots QQ C hm hs hsz hP hS hl hQ
  exact lv_bipush C.1 C.2.1 hd hv (k p e R s m args below meth c H locs ls cells slots QQ C hm hs hsz hP hS hl hQ)
theorem gn_sipush {a : Int} (hd : decode cc pc = .ok (.sipush a, 3)) (hv : (Int16.ofInt a).toInt32 = Int32.ofInt a) (k : gn_V l D cA h own cc ret nL d ini Z mc ms n E L (gz_i a :: st) (pc + 3)) : gn_V l D cA h own cc ret nL d ini Z mc ms n E L st pc := by
  intro p e R s m args below meth c H locs ls cells slots QQ C hm hs hsz hP hS hl hQ
  exact lv_sipush C.1 C.2.1 hd hv (k p e R s m args below meth c H locs ls cells slots QQ C hm hs hsz hP hS hl hQ)
theorem gn_iload_n {j : Fin 4} {a : Int} (hd : decode cc pc = .ok (.iload_n j, 1)) (hL : L[(j : Nat)]? = some (some (gz_i a))) (k : gn_V l D cA h own cc ret nL d ini Z mc ms n E L (gz_i a :: st) (pc + 1)) : gn_V l D cA h own cc ret nL d ini Z mc ms n E L st pc := by
  intro p e R s m args below meth c H locs ls cells slots QQ C hm hs hsz hP hS hl hQ
  exact lv_iload_n C.1 C.2.1 hd rfl (hl.2.2 _ _ hL) (k p e R s m args below meth c H locs ls cells slots QQ C hm hs hsz hP hS hl hQ)
theorem gn_aload_n {j : Fin 4} {a : Nat} (hd : decode cc pc = .ok (.aload_n j, 1)) (hL : L[(j : Nat)]? = some (some (.ref a))) (k : gn_V l D cA h own cc ret nL d ini Z mc ms n E L (.ref a :: st) (pc + 1)) : gn_V l D cA h own cc ret nL d ini Z mc ms n E L st pc := by
  intro p e R s m args below meth c H locs ls cells slots QQ C hm hs hsz hP hS hl hQ
  exact lv_aload_n C.1 C.2.1 hd rfl (hl.2.2 _ _ hL) (k p e R s m args below meth c H locs ls cells slots QQ C hm hs hsz hP hS hl hQ)
theorem gn_istore_n {j : Fin 4} {a : Int} (hd : decode cc pc = .ok (.istore_n j, 1)) (hn : gz_nl L j = true) (hi : Nat.ble (j.val + 1) L.length = true) (hi2 : Nat.ble (j.val + 1) nL = true) (k : gn_V l D cA h own cc ret nL d ini Z mc ms n E (L.set j (some (gz_i a))) st (pc + 1)) : gn_V l D cA h own cc ret nL d ini Z mc ms n E L (gz_i a :: st) pc := by
  intro p e R s m args below meth c H locs ls cells slots QQ C hm hs hsz hP hS hl hQ
  exact lv_istore_n C.1 C.2.1 hd rfl hl.has (Nat.le_of_ble_eq_true hi2) rfl (fun ls' hl' => (k p e R s m args below meth c H locs ls' cells slots QQ C hm hs hsz hP hS (gz_L.set hn (Nat.le_of_ble_eq_true hi) hl') hQ))
theorem gn_astore_n {j : Fin 4} {a : Nat} (hd : decode cc pc = .ok (.astore_n j, 1)) (hn : gz_nl L j = true) (hi : Nat.ble (j.val + 1) L.length = true) (hi2 : Nat.ble (j.val + 1) nL = true) (k : gn_V l D cA h own cc ret nL d ini Z mc ms n E (L.set j (some (.ref a))) st (pc + 1)) : gn_V l D cA h own cc ret nL d ini Z mc ms n E L (.ref a :: st) pc := by
  intro p e R s m args below meth c H locs ls cells slots QQ C hm hs hsz hP hS hl hQ
  exact lv_astore_n C.1 C.2.1 hd rfl hl.has (Nat.le_of_ble_eq_true hi2) rfl (fun ls' hl' => (k p e R s m args below meth c H locs ls' cells slots QQ C hm hs hsz hP hS (gz_L.set hn (Nat.le_of_ble_eq_true hi) hl') hQ))
theorem gn_iinc {j : Nat} {b a : Int} (hd : decode cc pc = .ok (.iinc j b, 3)) (hL : L[j]? = some (some (gz_i a))) (hn : gz_nl L j = true) (hi : Nat.ble (j + 1) L.length = true) (hi2 : Nat.ble (j + 1) nL = true) (k : gn_V l D cA h own cc ret nL d ini Z mc ms n E (L.set j (some (gz_i (a + b)))) st (pc + 3)) : gn_V l D cA h own cc ret nL d ini Z mc ms n E L st pc := by
  intro p e R s m args below meth c H locs ls cells slots QQ C hm hs hsz hP hS hl hQ
  obtain ⟨q, hq⟩ := List.getElem?_of_mem (gz_as_mem.mpr hL)
  exact lv_iinc (k := q) (v := Int32.ofInt (a + b)) C.1 C.2.1 hd hl.has hq (by rw [Int32.ofInt_add]) (Nat.le_of_ble_eq_true hi2) rfl (fun ls' hl' => (k p e R s m args below meth c H locs ls' cells slots QQ C hm hs hsz hP hS (gz_L.set hn (Nat.le_of_ble_eq_true hi) hl') hQ))
theorem gn_goto {off : Int} {tgt : Nat} (hd : decode cc pc = .ok (.goto off, 3)) (ht : (pc : Int) + off = (tgt : Int)) (k : gn_V l D cA h own cc ret nL d ini Z mc ms n E L st tgt) : gn_V l D cA h own cc ret nL d ini Z mc ms n E L st pc := by
  intro p e R s m args below meth c H locs ls cells slots QQ C hm hs hsz hP hS hl hQ
  exact lv_goto C.1 C.2.1 hd ht (k p e R s m args below meth c H locs ls cells slots QQ C hm hs hsz hP hS hl hQ)
theorem gn_icmp_ge {off : Int} {tgt : Nat} {a b : Int} (hd : decode cc pc = .ok (.if_icmp .ge off, 3)) (ht : (pc : Int) + off = (tgt : Int)) (ra : -2147483648 ≤ a ∧ a ≤ 2147483647) (rb : -2147483648 ≤ b ∧ b ≤ 2147483647) (kt : b ≤ a → gn_V l D cA h own cc ret nL d ini Z mc ms n E L st tgt) (kf : a < b → gn_V l D cA h own cc ret nL d ini Z mc ms n E L st (pc + 3)) : gn_V l D cA h own cc ret nL d ini Z mc ms n E L (gz_i b :: gz_i a :: st) pc := by
  intro p e R s m args below meth c H locs ls cells slots QQ C hm hs hsz hP hS hl hQ
  exact lv_icmp_ge C.1 C.2.1 hd ht (fun h => kt ((gz_cle rb ra).mp h) p e R s m args below meth c H locs ls cells slots QQ C hm hs hsz hP hS hl hQ) (fun h => kf (Int.not_le.mp (fun q => h ((gz_cle rb ra).mpr q))) p e R s m args below meth c H locs ls cells slots QQ C hm hs hsz hP hS hl hQ)
theorem gn_dup {v : Value} (hd : decode cc pc = .ok (.dup, 1)) (hv : v.category = 1) (k : gn_V l D cA h own cc ret nL d ini Z mc ms n E L (v :: v :: st) (pc + 1)) : gn_V l D cA h own cc ret nL d ini Z mc ms n E L (v :: st) pc := by
  intro p e R s m args below meth c H locs ls cells slots QQ C hm hs hsz hP hS hl hQ
  exact lv_dup C.1 C.2.1 hd hv (k p e R s m args below meth c H locs ls cells slots QQ C hm hs hsz hP hS hl hQ)
theorem gn_obj {idx a : Nat} (hd : decode cc pc = .ok (.invokespecial idx, 3)) (hm9 : Cond.methodLink own idx objectInit ∈ gz_ts) (hdd : Nat.ble 1 d = true) (hw : (st.map fun v => v.category).sum ≤ 8) (k : gn_V l D cA h own cc ret nL d ini Z mc ms n E L st (pc + 3)) : gn_V l D cA h own cc ret nL d ini Z mc ms n E L (.ref a :: st) pc := by
  intro p e R s m args below meth c H locs ls cells slots QQ C hm hs hsz hP hS hl hQ
  obtain ⟨hx, hb, hret, hml, hown, hts, hK, hZ, hfr, hlo, hh, hin⟩ := id C
  have h1 : 1 ≤ d := Nat.le_of_ble_eq_true hdd
  refine W.objInit hx hb hown (hts _ hm9) (hts _ wi_objectInit) (hts _ wc_objectInit) rfl (by rw [hml]; exact hl.1) rfl hd (by omega) ?_ ?_
  · have h9 : 2 * (F0 m pc ls (.ref a :: st)).monitorRoom + (st.map fun v => v.category).sum ≤ 8 := lv_room hw
    omega
  · exact k p e R s m args below meth c H locs ls cells slots QQ C hm hs hsz hP hS hl hQ
theorem gn_new {idx ci N mc' ms' : Nat} {C9 : String} {T9 : u_T} {ty : Nat → FieldType} {fs : List Value} (hd : decode cc pc = .ok (.new idx, 3)) (hc : gz_cl[ci]? = some (C9, T9, N)) (w1 : Cond.classLink own idx C9 ∈ gz_ts) (w2 : Cond.instantiable C9 N ∈ gz_ts) (w3 : Cond.initialized C9 ∈ gz_ts) (w4 : ∀ w ∈ u_ws C9 T9 N, w ∈ gz_ts) (hty : ∀ k, k < N → parseFieldDescriptor (T9 k).2.2.1 = some (ty k)) (hfs : ∀ j, j < N → defaultValue (ty j) = vp_V fs j) (hmc : 1 + mc' = mc) (hms : N + ms' = ms) (k : gn_V l D cA h own cc ret nL d ini Z mc' ms' (n + 1) (va_up E n (.inr (ci, fs))) L (.ref (h + n) :: st) (pc + 3)) : gn_V l D cA h own cc ret nL d ini Z mc ms n E L st pc := by
  subst hmc
  subst hms
  intro p e R s m args below meth c H locs ls cells slots QQ C hm hs hsz hP hS hl hQ
  obtain ⟨hx, hb, hret, hml, hown, hts, hK, hZ, hfr, hlo, hh, hin⟩ := id C
  have hKn := hK.1 ci _ hc
  refine W.newcK hx hb hown (hts _ w1) (hts _ w2) (hts _ w3) rfl hd (by omega) (by omega) hKn.2.1 hsz fun H1 kC hkC e1 z1 o1 => ?_
  refine k p e R s m args below meth c H1 locs ls (cells + 1) (slots + N) QQ C (by omega) (by omega) (by rw [z1]; rfl) (gn_push hP (fun i hi => va_up_ne _ _ (by omega)) ?_ o1) (gn_S hS hsz (by omega) o1) hl (fun n' E' L' st' pc' H' locs' ls' a1 a2 a3 a4 a5 => by rw [Nat.add_assoc, Nat.add_assoc]; exact hQ n' E' L' st' pc' H' locs' ls' a1 a2 a3 a4 a5)
  rw [va_up_self]
  exact ⟨_, hc, (u_born ty hts w4 hKn hkC e1 hty).to hfs⟩
theorem gn_newa0 {atype : ArrayType} {ty : FieldType} {cK : ClassId} {a : Int} {N mc' ms' : Nat} {E' : Nat → va_E} (hty : newarray.typeOf atype = ty) (hdv : defaultValue ty = .int 0) (hd : decode cc pc = .ok (.newarray atype, 2)) (wa : Cond.arrayClass ty ∈ gz_ts) (hra : ∀ s : State, va_K D gz_cl (gz_tys cA) s → s.vm.findClass ("[" ++ ty.toString) = some cK) (hn0 : ¬ Int32.ofInt a < 0) (hN : (Int32.ofInt a).toNatClampNeg = N) (hby : N * componentBytes ty ≤ 536870912) (hE0 : ∀ i, i < n → E' i = E i) (hE1 : E' n = .inl (cK, N, .inl (fun _ => 0))) (hmc : 1 + mc' = mc) (hms : N + ms' = ms) (k : gn_V l D cA h own cc ret nL d ini Z mc' ms' (n + 1) E' L (.ref (h + n) :: st) (pc + 2)) : gn_V l D cA h own cc ret nL d ini Z mc ms n E L (gz_i a :: st) pc := by
  subst hmc
  subst hms
  subst hty
  intro p e R s m args below meth c H locs ls cells slots QQ C hm hs hsz hP hS hl hQ
  obtain ⟨hx, hb, hret, hml, hown, hts, hK, hZ, hfr, hlo, hh, hin⟩ := id C
  refine va_newaK hx hb (hts _ wa) rfl hd rfl hn0 hN hby (by omega) (by omega) hsz fun H1 c9 e1 z1 o1 hAr hNm => ?_
  have ec : c9 = cK := Option.some.inj (hNm.symm.trans (hra s hK))
  subst ec
  refine k p e R s m args below meth c H1 locs ls (cells + 1) (slots + N) QQ C (by omega) (by omega) (by rw [z1]; rfl) (gn_push hP hE0 ?_ o1) (gn_S hS hsz (by omega) o1) hl (fun n' E' L' st' pc' H' locs' ls' a1 a2 a3 a4 a5 => by rw [Nat.add_assoc, Nat.add_assoc]; exact hQ n' E' L' st' pc' H' locs' ls' a1 a2 a3 a4 a5)
  rw [hE1]
  show H1[h + n]? = some (vp_cell c9 (N, .inl (fun _ => 0)))
  rw [e1, hdv]
  rfl
theorem gn_newaI {a : Int} {N mc' ms' : Nat} {E' : Nat → va_E} (hd : decode cc pc = .ok (.newarray .int, 2)) (hn0 : ¬ Int32.ofInt a < 0) (hN : (Int32.ofInt a).toNatClampNeg = N) (hby : N * componentBytes .int ≤ 536870912) (hE0 : ∀ i, i < n → E' i = E i) (hE1 : E' n = .inl (cA 0, N, .inl (fun _ => 0))) (hmc : 1 + mc' = mc) (hms : N + ms' = ms) (k : gn_V l D cA h own cc ret nL d ini Z mc' ms' (n + 1) E' L (.ref (h + n) :: st) (pc + 2)) : gn_V l D cA h own cc ret nL d ini Z mc ms n E L (gz_i a :: st) pc := gn_newa0 (atype := .int) rfl rfl hd wa_int (fun s hK => (hK.2 0 _ rfl).2) hn0 hN hby hE0 hE1 hmc hms k
theorem gn_newaZ {a : Int} {N mc' ms' : Nat} {E' : Nat → va_E} (hd : decode cc pc = .ok (.newarray .boolean, 2)) (hn0 : ¬ Int32.ofInt a < 0) (hN : (Int32.ofInt a).toNatClampNeg = N) (hby : N * componentBytes .boolean ≤ 536870912) (hE0 : ∀ i, i < n → E' i = E i) (hE1 : E' n = .inl (cA 1, N, .inl (fun _ => 0))) (hmc : 1 + mc' = mc) (hms : N + ms' = ms) (k : gn_V l D cA h own cc ret nL d ini Z mc' ms' (n + 1) E' L (.ref (h + n) :: st) (pc + 2)) : gn_V l D cA h own cc ret nL d ini Z mc ms n E L (gz_i a :: st) pc := gn_newa0 (atype := .boolean) rfl rfl hd wa_boolean (fun s hK => (hK.2 1 _ rfl).2) hn0 hN hby hE0 hE1 hmc hms k
theorem gn_anew {idx kd N mc' ms' : Nat} {C9 : String} {a : Int} {E' : Nat → va_E} (hd : decode cc pc = .ok (.anewarray idx, 3)) (w1 : Cond.classLink own idx C9 ∈ gz_ts) (w2 : ∀ s : State, gn_Z s → va_AO C9 s) (hk : (gz_tys cA)[kd]? = some (cA kd, .object C9)) (hn0 : ¬ Int32.ofInt a < 0) (hN : (Int32.ofInt a).toNatClampNeg = N) (hby : N * 4 ≤ 536870912) (hE0 : ∀ i, i < n → E' i = E i) (hE1 : E' n = .inl (cA kd, N, .inr (.inr (.inr (.inr (fun _ => none)))))) (hmc : 1 + mc' = mc) (hms : N + ms' = ms) (k : gn_V l D cA h own cc ret nL d ini Z mc' ms' (n + 1) E' L (.ref (h + n) :: st) (pc + 3)) : gn_V l D cA h own cc ret nL d ini Z mc ms n E L (gz_i a :: st) pc := by
  subst hmc
  subst hms
  subst hN
  intro p e R s m args below meth c H locs ls cells slots QQ C hm hs hsz hP hS hl hQ
  obtain ⟨hx, hb, hret, hml, hown, hts, hK, hZ, hfr, hlo, hh, hin⟩ := id C
  refine W.anew hx hb hown (hts _ w1) (va_AO.use (w2 s hZ)) rfl hd rfl hn0 hby (by omega) (by omega) fun c9 kA comp f1 f2 f3 f4 => ?_
  have ec : c9 = cA kd := by
    obtain ⟨kA', comp', g1, g2, g3, g4⟩ := (hK.2 kd _ hk).2
    exact Option.some.inj (f1.symm.trans g4)
  subst ec
  have z1 : (H.push ({ cls := cA kd, slots := Array.replicate (Int32.ofInt a).toNatClampNeg .null, vm := .none } : Cell)).size = h + n + 1 := by rw [Array.size_push, hsz]
  have o1 : ∀ q : Nat, q < h + n → (H.push ({ cls := cA kd, slots := Array.replicate (Int32.ofInt a).toNatClampNeg .null, vm := .none } : Cell))[q]? = H[q]? := fun q hq => by rw [Array.getElem?_push, if_neg (by omega)]
  have e1 : (H.push ({ cls := cA kd, slots := Array.replicate (Int32.ofInt a).toNatClampNeg .null, vm := .none } : Cell))[h + n]? = some (arrV (cA kd) (Int32.ofInt a).toNatClampNeg (fun _ => .null)) := by rw [← hsz, Array.getElem?_push_size, ← arrV_new]
  generalize H.push ({ cls := cA kd, slots := Array.replicate (Int32.ofInt a).toNatClampNeg .null, vm := .none } : Cell) = H1 at z1 o1 e1 ⊢
  refine W.eq (g2 := F0 m (pc + 3) ls (.ref (h + n) :: st)) (by rw [← hsz]) ?_
  refine k p e R s m args below meth c H1 locs ls (cells + 1) _ QQ C (by omega) (by omega) (by rw [z1]; rfl) (gn_push hP hE0 ?_ o1) (gn_S hS hsz (by omega) o1) hl (fun n' E' L' st' pc' H' locs' ls' a1 a2 a3 a4 a5 => by rw [Nat.add_assoc, Nat.add_assoc]; exact hQ n' E' L' st' pc' H' locs' ls' a1 a2 a3 a4 a5)
  rw [hE1]
  show H1[h + n]? = some (vp_cell (cA kd) ((Int32.ofInt a).toNatClampNeg, .inr (.inr (.inr (.inr (fun _ => none))))))
  rw [vp_cell_q]
  exact e1
theorem gn_put {idx ci a k9 N : Nat} {C9 : String} {T9 : u_T} {ty0 : Nat → FieldType} {fs : List Value} {v : Value} {E' : Nat → va_E} (hd : decode cc pc = .ok (.putfield idx, 3)) (hc : gz_cl[ci]? = some (C9, T9, N)) (w1 : Cond.fieldLink own idx (T9 k9).1 (T9 k9).2.1 (T9 k9).2.2.1 ∈ gz_ts) (w4 : ∀ w ∈ u_ws C9 T9 N, w ∈ gz_ts) (hty : ∀ k, k < N → parseFieldDescriptor (T9 k).2.2.1 = some (ty0 k)) (hnm : ∀ a, a < N → ∀ b, b < N → a ≠ b → (T9 a).2.1 ≠ (T9 b).2.1) (hk : k9 < N) (ha : a < n) (hEa : E a = .inr (ci, fs)) (hfl : (T9 k9).2.2.2 = false ∨ (T9 k9).2.2.2 = true ∧ ini = true ∧ (T9 k9).1 = own) (hn : narrow (ty0 k9) v = v) (hfit : fits (ty0 k9) v = true) (hlf : k9 < fs.length) (hE' : va_up E a (.inr (ci, fs.set k9 v)) = E') (k : gn_V l D cA h own cc ret nL d ini Z mc ms n E' L st (pc + 3)) : gn_V l D cA h own cc ret nL d ini Z mc ms n E L (v :: .ref (h + a) :: st) pc := by
  subst hE'
  intro p e R s m args below meth c H locs ls cells slots QQ C hm hs hsz hP hS hl hQ
  obtain ⟨hx, hb, hret, hml, hown, hts, hK, hZ, hfr, hlo, hh, hin⟩ := id C
  have hap := va_apart (own := own) hts w4 ty0 hty hnm hK hc
  have hPa := gn_P.mp hP a ha
  rw [hEa] at hPa
  obtain ⟨r, h1, cell, q1, q2, q3, q4⟩ := hPa
  have hr : r = (C9, T9, N) := Option.some.inj (h1.symm.trans hc)
  subst hr
  obtain ⟨hSl, hfc, kC, hkC, hkind⟩ := hK.1 ci _ hc
  obtain ⟨cf, kf, fi, f, hi, hsl⟩ := hSl k9 hk
  have hlay := hts _ (w4 _ (u_in_lay hk))
  have hst := (u_facts hfc hkC (u_lays hts w4 hk) hi).1
  have go : ∀ H1 : Heap, H1[h + a]? = some (cell.setSlot f.slot v) → H1.size = H.size → (∀ q : Nat, q ≠ h + a → H1[q]? = H[q]?) → W p l e R s m args below meth c H1 (locs ++ [⟨h + a, f.slot⟩]) cells slots QQ (F0 m (pc + 3) ls st) := fun H1 e1 e2 e3 => by
    rw [hsl] at e1 ⊢
    exact k p e R s m args below meth c H1 _ ls cells slots QQ C hm hs (by rw [e2]; exact hsz) (gn_up hP ⟨_, hc, t_OB.to (V := updV (vp_V fs) k9 v) ⟨_, e1, q2, q3, t_set q4 hap hk v⟩ (fun j _ => vp_updV_set hlf v j)⟩ e3) (hS.put e2 e3 (Nat.le_add_right h a)) hl hQ
  unfold u_lay at hlay
  rcases hfl with hfin | ⟨hfin, hi0, hdecl⟩
  · rw [if_neg (by rw [hfin]; decide)] at hlay
    have h6 := u_store hfc hkC hkind hlay hi (hty k9 hk) hn hfit
    exact W.putK hx hb (f := f) ⟨hown, hts _ w1, ⟨_, _, _, hi⟩, hst⟩ (by rw [q2]; exact h6) q1 q3 (by rw [hsl]; exact k2_hasslot (q4 k9 hk)) rfl rfl hd go
  · rw [if_pos hfin] at hlay
    have hcf : m.cls = cf := by
      obtain ⟨_, _, c', _, _, _, -, -, hf', -, -, -, hown2, -⟩ := Cond.laysFinal_spec hlay
      have e1 : c' = cf := by have := hi.symm.trans hf'; simp at this; exact this.1.symm
      rw [hdecl] at hown2
      rw [← e1]; exact Option.some.inj (hown.symm.trans hown2)
    have h6 := u_fits hfc hkC hkind (Or.inr hlay) hi (hty k9 hk) hn hfit
    exact W.putFinK hx hb hown (hts _ w1) hi hst hcf (hin hi0) (by rw [q2]; exact h6) q1 q3 (by rw [hsl]; exact k2_hasslot (q4 k9 hk)) rfl rfl hd go
theorem gn_getf {idx ci a k9 : Nat} {fs : List Value} {v : Value} (hd : decode cc pc = .ok (.getfield idx, 3)) (fl : gz_FL own idx ci k9) (ha : a < n) (hEa : E a = .inr (ci, fs)) (hv : fs[k9]? = some v) (k : gn_V l D cA h own cc ret nL d ini Z mc ms n E L (v :: st) (pc + 3)) : gn_V l D cA h own cc ret nL d ini Z mc ms n E L (.ref (h + a) :: st) pc := by
  intro p e R s m args below meth c H locs ls cells slots QQ C hm hs hsz hP hS hl hQ
  obtain ⟨hx, hb, hret, hml, hown, hts, hK, hZ, hfr, hlo, hh, hin⟩ := id C
  obtain ⟨C1, T, N, ty0, h1, h2, h3, h4, h5, h6⟩ := fl
  exact va_get hx hb hts h4 hown hK hP a (by rw [gn_get ha, hEa]) h1 k9 h2 (hts _ h3) (fun _ h => h) hv hd (k p e R s m args below meth c H locs ls cells slots QQ C hm hs hsz hP hS hl hQ)
theorem gn_iast {a N : Nat} {f : Nat → Int32} {j v : Int} {E' : Nat → va_E} (hd : decode cc pc = .ok (.iastore, 1)) (ha : a < n) (hEa : E a = .inl (cA 0, N, .inl f)) (hj : vp_in (Int32.ofInt j) N) (hE' : va_up E a (.inl (cA 0, N, .inl (upd f (Int32.ofInt j).toNatClampNeg (Int32.ofInt v)))) = E') (k : gn_V l D cA h own cc ret nL d ini Z mc ms n E' L st (pc + 1)) : gn_V l D cA h own cc ret nL d ini Z mc ms n E L (gz_i v :: gz_i j :: .ref (h + a) :: st) pc := by
  subst hE'
  intro p e R s m args below meth c H locs ls cells slots QQ C hm hs hsz hP hS hl hQ
  obtain ⟨hx, hb, hret, hml, hown, hts, hK, hZ, hfr, hlo, hh, hin⟩ := id C
  have hPa := gn_P.mp hP a ha
  rw [hEa] at hPa
  have hPa : H[h + a]? = some (vp_cell (cA 0) (N, .inl f)) := hPa
  refine W.iast hx hb hPa ((hK.2 0 _ rfl).1 N (fun j => .int (f j))) (fun q => by cases q) (by show ¬ (Int32.ofInt j < 0 ∨ (arrV _ _ _).slots.size ≤ _); rw [arrV_size]; exact hj) rfl rfl hd fun H1 e1 z oq => ?_
  refine k p e R s m args below meth c H1 _ ls cells slots QQ C hm hs (by rw [z]; exact hsz) (gn_up hP ?_ oq) (hS.put z oq (Nat.le_add_right h a)) hl hQ
  show H1[h + a]? = some (vp_cell _ _)
  rw [e1, vp_cell_i, vp_cell_i, arrV_store]
  congr 2
  funext q
  by_cases hq : q = (Int32.ofInt j).toNatClampNeg
  · subst hq
    simp [updV, upd]
  · simp [updV, upd, hq]
theorem gn_aast {a b N kd ci : Nat} {r9 : vw_C} {f : Nat → Option Nat} {j : Int} {vs : List Value} {E' : Nat → va_E} (hd : decode cc pc = .ok (.aastore, 1)) (ha : a < n) (hEa : E a = .inl (cA kd, N, .inr (.inr (.inr (.inr f))))) (hkd : (gz_tys cA)[kd]? = some (cA kd, .object r9.1)) (hb9 : b < n) (hEb : E b = .inr (ci, vs)) (hc : gz_cl[ci]? = some r9) (hj : vp_in (Int32.ofInt j) N) (hE' : va_up E a (.inl (cA kd, N, .inr (.inr (.inr (.inr (va_up f (Int32.ofInt j).toNatClampNeg (some (h + b)))))))) = E') (k : gn_V l D cA h own cc ret nL d ini Z mc ms n E' L st (pc + 1)) : gn_V l D cA h own cc ret nL d ini Z mc ms n E L (.ref (h + b) :: gz_i j :: .ref (h + a) :: st) pc := by
  subst hE'
  intro p e R s m args below meth c H locs ls cells slots QQ C hm hs hsz hP hS hl hQ
  obtain ⟨hx, hb, hret, hml, hown, hts, hK, hZ, hfr, hlo, hh, hin⟩ := id C
  have hPa := gn_P.mp hP a ha
  rw [hEa] at hPa
  have hPa : H[h + a]? = some (vp_cell (cA kd) (N, .inr (.inr (.inr (.inr f))))) := hPa
  have hPb := gn_P.mp hP b hb9
  rw [hEb] at hPb
  obtain ⟨r', hr', cellV, g1, g2, g3, -⟩ := hPb
  have hlt : (Int32.ofInt j).toNatClampNeg < N := Nat.not_le.mp fun q => hj (Or.inr q)
  have h0 : ¬ Int32.ofInt j < 0 := fun q => hj (Or.inl q)
  have hcls := (hK.1 ci r9 hc).2
  obtain ⟨kA, comp, k1, k2, k3, -⟩ := (hK.2 kd _ hkd).2
  have hcomp : comp = D.1 ci := Option.some.inj (k3.symm.trans hcls.1)
  subst hcomp
  obtain ⟨kC, hkC, -⟩ := hcls.2
  refine W.aast hx hb hPa (fun q h => by cases h) (fun h => by cases h) k1 k2 rfl hkC ⟨h0, by show _ < (arrV _ _ _).slots.size; rw [arrV_size]; exact hlt⟩ g1 (fun q h => by rw [g3] at h; cases h) (by rw [g2]; exact hkC) (by rw [g2]; exact va_assign hcls) rfl rfl hd fun H1 e1 z oq => ?_
  refine k p e R s m args below meth c H1 _ ls cells slots QQ C hm hs (by rw [z]; exact hsz) (gn_up hP ?_ oq) (hS.put z oq (Nat.le_add_right h a)) hl hQ
  show H1[h + a]? = some (vp_cell _ _)
  rw [e1, vp_cell_q, vp_cell_q, arrV_store]
  congr 2
  funext q
  by_cases hq : q = (Int32.ofInt j).toNatClampNeg
  · subst hq
    simp [updV, va_up, va_rf]
  · simp [updV, va_up, hq]
end
