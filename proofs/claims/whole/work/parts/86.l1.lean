/-! THE LAW: the judgement with the script, whose cell is none of the world's -/
def gl_V (bb bL : Nat) (xs : Nat → Int32) (l : Launch) (D : va_G) (α : gz_P → Nat) (cA : Nat → ClassId) (own : String) (cc : ByteArray) (ret : Option FieldType) (nL d : Nat) (Q : Option Value → gz_M → Prop) (I : gz_M) (L : List (Option Value)) (st : List Value) (pc : Nat) : Prop :=
  ∀ (p : Program) (e : Env) (R : Room) (s : State) (m : MethodId) (args : Array Value) (below : List Frame) (meth : Method) (c : Code) (A : Nat → Prop) (H : Heap) (locs : List Loc) (ls : Array Slot) (cells slots : Nat) (QQ : State → Prop),
    gz_C D α cA own cc ret nL d p R s m args meth c A cells slots → (va_X bb bL xs s s.heap ∧ bb < s.heap.size ∧ ¬ A bb) → va_P D gz_cl (gz_ws α cA I) H → va_S A s.heap H locs → gz_L ls nL L →
    (∀ (r : Option Value) (I' : gz_M) (H' : Heap) (locs' : List Loc) (ls' : Array Slot) (pc' : Nat), Q r I' → va_P D gz_cl (gz_ws α cA I') H' → va_S A s.heap H' locs' → gz_ret cc ret pc' r → W p l e R s m args below meth c H' locs' cells slots QQ (F0 m pc' ls' r.toList)) →
    W p l e R s m args below meth c H locs cells slots QQ (F0 m pc ls st)
section
variable {bb bL : Nat} {xs : Nat → Int32} {l : Launch} {D : va_G} {α : gz_P → Nat} {cA : Nat → ClassId} {own : String} {cc : ByteArray} {ret : Option FieldType} {nL d : Nat} {Q : Option Value → gz_M → Prop} {I : gz_M} {L : List (Option Value)} {st : List Value} {pc : Nat}
theorem gl_iconst {n : Int} (hd : decode cc pc = .ok (.iconst n, 1)) (k : gl_V bb bL xs l D α cA own cc ret nL d Q I L (gz_i n :: st) (pc + 1)) : gl_V bb bL xs l D α cA own cc ret nL d Q I L st pc := by
  intro p e R s m args below meth c A H locs ls cells slots QQ C hB hP hS hl hQ
  exact lv_iconst C.1 C.2.1 hd rfl (k p e R s m args below meth c A H locs ls cells slots QQ C hB hP hS hl hQ)
theorem gl_bipush {n : Int} (hd : decode cc pc = .ok (.bipush n, 2)) (hv : (Int8.ofInt n).toInt32 = Int32.ofInt n) (k : gl_V bb bL xs l D α cA own cc ret nL d Q I L (gz_i n :: st) (pc + 2)) : gl_V bb bL xs l D α cA own cc ret nL d Q I L st pc := by
  intro p e R s m args below meth c A H locs ls cells slots QQ C hB hP hS hl hQ
  exact lv_bipush C.1 C.2.1 hd hv (k p e R s m args below meth c A H locs ls cells slots QQ C hB hP hS hl hQ)
theorem gl_iload_n {j : Fin 4} {a : Int} (hd : decode cc pc = .ok (.iload_n j, 1)) (hL : L[(j : Nat)]? = some (some (gz_i a))) (k : gl_V bb bL xs l D α cA own cc ret nL d Q I L (gz_i a :: st) (pc + 1)) : gl_V bb bL xs l D α cA own cc ret nL d Q I L st pc := by
  intro p e R s m args below meth c A H locs ls cells slots QQ C hB hP hS hl hQ
  exact lv_iload_n C.1 C.2.1 hd rfl (hl.2.2 _ _ hL) (k p e R s m args below meth c A H locs ls cells slots QQ C hB hP hS hl hQ)
theorem gl_aload_n {j : Fin 4} {a : Nat} (hd : decode cc pc = .ok (.aload_n j, 1)) (hL : L[(j : Nat)]? = some (some (.ref a))) (k : gl_V bb bL xs l D α cA own cc ret nL d Q I L (.ref a :: st) (pc + 1)) : gl_V bb bL xs l D α cA own cc ret nL d Q I L st pc := by
  intro p e R s m args below meth c A H locs ls cells slots QQ C hB hP hS hl hQ
  exact lv_aload_n C.1 C.2.1 hd rfl (hl.2.2 _ _ hL) (k p e R s m args below meth c A H locs ls cells slots QQ C hB hP hS hl hQ)
theorem gl_istore_n {j : Fin 4} {a : Int} (hd : decode cc pc = .ok (.istore_n j, 1)) (hn : gz_nl L j = true) (hi : Nat.ble (j.val + 1) L.length = true) (hi2 : Nat.ble (j.val + 1) nL = true) (k : gl_V bb bL xs l D α cA own cc ret nL d Q I (L.set j (some (gz_i a))) st (pc + 1)) : gl_V bb bL xs l D α cA own cc ret nL d Q I L (gz_i a :: st) pc := by
  intro p e R s m args below meth c A H locs ls cells slots QQ C hB hP hS hl hQ
  exact lv_istore_n C.1 C.2.1 hd rfl hl.has (Nat.le_of_ble_eq_true hi2) rfl (fun ls' hl' => (k p e R s m args below meth c A H locs ls' cells slots QQ C hB hP hS (gz_L.set hn (Nat.le_of_ble_eq_true hi) hl') hQ))
theorem gl_iinc {j : Nat} {n a : Int} (hd : decode cc pc = .ok (.iinc j n, 3)) (hL : L[j]? = some (some (gz_i a))) (hn : gz_nl L j = true) (hi : Nat.ble (j + 1) L.length = true) (hi2 : Nat.ble (j + 1) nL = true) (k : gl_V bb bL xs l D α cA own cc ret nL d Q I (L.set j (some (gz_i (a + n)))) st (pc + 3)) : gl_V bb bL xs l D α cA own cc ret nL d Q I L st pc := by
  intro p e R s m args below meth c A H locs ls cells slots QQ C hB hP hS hl hQ
  obtain ⟨q, hq⟩ := List.getElem?_of_mem (gz_as_mem.mpr hL)
  exact lv_iinc (k := q) (v := Int32.ofInt (a + n)) C.1 C.2.1 hd hl.has hq (by rw [Int32.ofInt_add]) (Nat.le_of_ble_eq_true hi2) rfl (fun ls' hl' => (k p e R s m args below meth c A H locs ls' cells slots QQ C hB hP hS (gz_L.set hn (Nat.le_of_ble_eq_true hi) hl') hQ))
theorem gl_iadd {a b : Int} (hd : decode cc pc = .ok (.iadd, 1)) (k : gl_V bb bL xs l D α cA own cc ret nL d Q I L (gz_i (a + b) :: st) (pc + 1)) : gl_V bb bL xs l D α cA own cc ret nL d Q I L (gz_i b :: gz_i a :: st) pc := by
  intro p e R s m args below meth c A H locs ls cells slots QQ C hB hP hS hl hQ
  exact lv_iadd C.1 C.2.1 hd (by rw [← Int32.ofInt_add]; exact (k p e R s m args below meth c A H locs ls cells slots QQ C hB hP hS hl hQ))
theorem gl_isub {a b : Int} (hd : decode cc pc = .ok (.isub, 1)) (k : gl_V bb bL xs l D α cA own cc ret nL d Q I L (gz_i (a - b) :: st) (pc + 1)) : gl_V bb bL xs l D α cA own cc ret nL d Q I L (gz_i b :: gz_i a :: st) pc := by
  intro p e R s m args below meth c A H locs ls cells slots QQ C hB hP hS hl hQ
  exact lv_isub C.1 C.2.1 hd (by rw [← Int32.ofInt_sub]; exact (k p e R s m args below meth c A H locs ls cells slots QQ C hB hP hS hl hQ))
theorem gl_goto {off : Int} {tgt : Nat} (hd : decode cc pc = .ok (.goto off, 3)) (ht : (pc : Int) + off = (tgt : Int)) (k : gl_V bb bL xs l D α cA own cc ret nL d Q I L st tgt) : gl_V bb bL xs l D α cA own cc ret nL d Q I L st pc := by
  intro p e R s m args below meth c A H locs ls cells slots QQ C hB hP hS hl hQ
  exact lv_goto C.1 C.2.1 hd ht (k p e R s m args below meth c A H locs ls cells slots QQ C hB hP hS hl hQ)
theorem gl_icmp_gt {off : Int} {tgt : Nat} {a b : Int} (hd : decode cc pc = .ok (.if_icmp .gt off, 3)) (ht : (pc : Int) + off = (tgt : Int)) (ra : -2147483648 ≤ a ∧ a ≤ 2147483647) (rb : -2147483648 ≤ b ∧ b ≤ 2147483647) (kt : b < a → gl_V bb bL xs l D α cA own cc ret nL d Q I L st tgt) (kf : a ≤ b → gl_V bb bL xs l D α cA own cc ret nL d Q I L st (pc + 3)) : gl_V bb bL xs l D α cA own cc ret nL d Q I L (gz_i b :: gz_i a :: st) pc := by
  intro p e R s m args below meth c A H locs ls cells slots QQ C hB hP hS hl hQ
  exact lv_icmp_gt C.1 C.2.1 hd ht (fun h => kt ((gz_clt rb ra).mp h) p e R s m args below meth c A H locs ls cells slots QQ C hB hP hS hl hQ) (fun h => kf (Int.not_lt.mp (fun q => h ((gz_clt rb ra).mpr q))) p e R s m args below meth c A H locs ls cells slots QQ C hB hP hS hl hQ)
theorem gl_i2l {a : Int} (hd : decode cc pc = .ok (.i2l, 1)) (k : gl_V bb bL xs l D α cA own cc ret nL d Q I L (.long (Int32.ofInt a).toInt64 :: st) (pc + 1)) : gl_V bb bL xs l D α cA own cc ret nL d Q I L (gz_i a :: st) pc := by
  intro p e R s m args below meth c A H locs ls cells slots QQ C hB hP hS hl hQ
  exact lv_i2l C.1 C.2.1 hd rfl (k p e R s m args below meth c A H locs ls cells slots QQ C hB hP hS hl hQ)
theorem gl_lshl {x : Int64} {a : Int} (hd : decode cc pc = .ok (.lshl, 1)) (k : gl_V bb bL xs l D α cA own cc ret nL d Q I L (.long (x <<< ((Int32.ofInt a).toInt64 &&& 63)) :: st) (pc + 1)) : gl_V bb bL xs l D α cA own cc ret nL d Q I L (gz_i a :: .long x :: st) pc := by
  intro p e R s m args below meth c A H locs ls cells slots QQ C hB hP hS hl hQ
  exact lv_lshl C.1 C.2.1 hd rfl (k p e R s m args below meth c A H locs ls cells slots QQ C hB hP hS hl hQ)
theorem gl_land {x y : Int64} (hd : decode cc pc = .ok (.land, 1)) (k : gl_V bb bL xs l D α cA own cc ret nL d Q I L (.long (x &&& y) :: st) (pc + 1)) : gl_V bb bL xs l D α cA own cc ret nL d Q I L (.long y :: .long x :: st) pc := by
  intro p e R s m args below meth c A H locs ls cells slots QQ C hB hP hS hl hQ
  exact lv_land C.1 C.2.1 hd (k p e R s m args below meth c A H locs ls cells slots QQ C hB hP hS hl hQ)
theorem gl_lor {x y : Int64} (hd : decode cc pc = .ok (.lor, 1)) (k : gl_V bb bL xs l D α cA own cc ret nL d Q I L (.long (x ||| y) :: st) (pc + 1)) : gl_V bb bL xs l D α cA own cc ret nL d Q I L (.long y :: .long x :: st) pc := by
  intro p e R s m args below meth c A H locs ls cells slots QQ C hB hP hS hl hQ
  exact lv_lor C.1 C.2.1 hd (k p e R s m args below meth c A H locs ls cells slots QQ C hB hP hS hl hQ)
theorem gl_ldc2 {idx : Nat} {v : Int64} (hd : decode cc pc = .ok (.ldc2_w idx, 3)) (hw : Cond.constantLong own idx v ∈ gz_ts) (k : gl_V bb bL xs l D α cA own cc ret nL d Q I L (.long v :: st) (pc + 3)) : gl_V bb bL xs l D α cA own cc ret nL d Q I L st pc := by
  intro p e R s m args below meth c A H locs ls cells slots QQ C hB hP hS hl hQ
  exact lv_ldc2 C.1 C.2.1 C.2.2.2.2.1 (C.2.2.2.2.2.1 _ hw) hd (k p e R s m args below meth c A H locs ls cells slots QQ C hB hP hS hl hQ)
theorem gl_swOut {dflt lo hi : Int} {offs : Array Int} {len : Nat} {a : Int} {tgt : Nat} (hd : decode cc pc = .ok (.tableswitch dflt lo hi offs, len)) (ht : (pc : Int) + dflt = (tgt : Int)) (ra : -2147483648 ≤ a ∧ a ≤ 2147483647) (h : a < lo ∨ hi < a) (k : gl_V bb bL xs l D α cA own cc ret nL d Q I L st tgt) : gl_V bb bL xs l D α cA own cc ret nL d Q I L (gz_i a :: st) pc := by
  intro p e R s m args below meth c A H locs ls cells slots QQ C hB hP hS hl hQ
  exact lv_tableOut C.1 C.2.1 hd (by rw [gz_ti ra]; exact h) ht (k p e R s m args below meth c A H locs ls cells slots QQ C hB hP hS hl hQ)
theorem gl_swIn {dflt lo hi : Int} {offs : Array Int} {len : Nat} {a : Int} {off : Int} {tgt : Nat} (hd : decode cc pc = .ok (.tableswitch dflt lo hi offs, len)) (b : Int) (e : a = b) (rb : -2147483648 ≤ b ∧ b ≤ 2147483647) (h1 : ¬ b < lo) (h2 : ¬ hi < b) (ho : offs[(b - lo).toNat]? = some off) (ht : (pc : Int) + off = (tgt : Int)) (k : gl_V bb bL xs l D α cA own cc ret nL d Q I L st tgt) : gl_V bb bL xs l D α cA own cc ret nL d Q I L (gz_i a :: st) pc := by
  subst e
  intro p e R s m args below meth c A H locs ls cells slots QQ C hB hP hS hl hQ
  exact lv_tableIn C.1 C.2.1 hd (by rw [gz_ti rb]; exact h1) (by rw [gz_ti rb]; exact h2) (by rw [gz_ti rb]; exact ho) ht (k p e R s m args below meth c A H locs ls cells slots QQ C hB hP hS hl hQ)
theorem gl_zret {P : Int → gz_M → Prop} {a : Int} (hd : decode cc pc = .ok (.ireturn, 1)) (hr : ret = some .boolean) (hz : a = 0 ∨ a = 1) (h : P a I) : gl_V bb bL xs l D α cA own cc ret nL d (gz_Qi P) I L [gz_i a] pc := by
  intro p e R s m args below meth c A H locs ls cells slots QQ C hB hP hS hl hQ
  refine hQ (some (gz_i a)) I H locs ls pc ⟨a, rfl, h⟩ hP hS (Or.inr (Or.inl ⟨hr, hd, _, rfl, ?_⟩))
  rcases hz with rfl | rfl <;> rfl
theorem gl_back {p : Program} {e : Env} {R : Room} {s : State} {m : MethodId} {args : Array Value} {below : List Frame} {meth : Method} {c : Code} {A : Nat → Prop} {H : Heap} {locs : List Loc} {ls : Array Slot} {cells slots : Nat} {QQ : State → Prop} {Q' : Option Value → gz_M → Prop} {st0 rest : List Value} {a : Array Value}
    (C : gz_C D α cA own cc ret nL d p R s m args meth c A cells slots) (hB : va_X bb bL xs s s.heap ∧ bb < s.heap.size ∧ ¬ A bb) (hS : va_S A s.heap H locs) (hl : gz_L ls nL L)
    (hQ : ∀ (r : Option Value) (I' : gz_M) (H' : Heap) (locs' : List Loc) (ls' : Array Slot) (pc' : Nat), Q r I' → va_P D gz_cl (gz_ws α cA I') H' → va_S A s.heap H' locs' → gz_ret cc ret pc' r → W p l e R s m args below meth c H' locs' cells slots QQ (F0 m pc' ls' r.toList))
    (hr : va_Run p l e R s m args below meth c H locs cells slots 0 0 (F0 m pc ls st0) rest (gz_Post D α cA Q' a) (gz_A α))
    (kk : ∀ (r : Option Value) (I' : gz_M), Q' r I' → gl_V bb bL xs l D α cA own cc ret nL d Q I' L (r.toList ++ rest) (pc + 3)) : W p l e R s m args below meth c H locs cells slots QQ (F0 m pc ls st0) := by
  intro T hT X
  obtain ⟨v, st₀, t, T', L2, h0, X', hL2, e1, e2, ⟨⟨r, I', hv, hq, hP'⟩, hz, hk⟩, stp⟩ := hr T hT X
  cases hv
  rw [h0] at hz hk
  have hA := gz_in_A (C.2.2.2.2.2.2.2.2.2.2.2.2 (fun _ _ => 0))
  obtain ⟨t2, a1, b1⟩ := kk v I' hq p e R s m args below meth c A T'.heap (locs ++ L2) ls cells slots QQ C hB (by rw [e1]; exact hP')
    ⟨Nat.le_trans hS.1 (by rw [e1]; exact hz), fun q h1 h2 => by rw [e1, hk q (Nat.lt_of_lt_of_le h1 hS.1) (fun z => h2 (hA q z))]; exact hS.2.1 q h1 h2, fun q hq => by
      rcases List.mem_append.mp hq with h | h
      · exact hS.2.2 q h
      · exact hA _ (hL2 q h)⟩ hl hQ T' rfl X'
  exact ⟨t2, stp t2 a1, b1⟩
theorem gl_cV {y : MethodName} {cc' : ByteArray} {nL' n' d' idx : Nat} {ret' : Option FieldType} {Q' : Option Value → gz_M → Prop} {r ci n na nb : Nat} {a b : Int} {As rest : List Value}
    (hd : decode cc pc = .ok (.invokevirtual idx, 3)) (hm : Cond.methodLink own idx y ∈ gz_ts) (hy : gz_YV y cc' nL' ret' n' ci) (hn : As.length = n') (hdd : Nat.ble (d' + 1) d = true) (hnl : Nat.ble nL' 19 = true) (hs : gz_shp r = (10 + ci, n, na, nb)) (hr : Nat.blt r 40 = true) (ho : gz_B a b na nb) (hw : (rest.map fun v => v.category).sum ≤ 8) (hlen : (lg_sl (.ref (α (r, a, b)) :: As)).length ≤ nL')
    (hV : gz_V l D α cA y.cls cc' ret' nL' d' Q' I (gz_args (.ref (α (r, a, b)) :: As) nL') [] 0)
    (kk : ∀ (x : Option Value) (I' : gz_M), Q' x I' → gl_V bb bL xs l D α cA own cc ret nL d Q I' L (x.toList ++ rest) (pc + 3)) : gl_V bb bL xs l D α cA own cc ret nL d Q I L (As.reverse ++ .ref (α (r, a, b)) :: rest) pc := by
  intro p e R s m args below meth c A H locs ls cells slots QQ C hB hP hS hl hQ
  obtain ⟨hx, hb, hret, hml, hown, hts, hK, hN, hfr, hlo, hce, hsl, hDD⟩ := id C
  obtain ⟨q0, he, -⟩ := gz_ws_get (I := I) (gz_mem (Nat.le_of_ble_eq_true hr) (by rw [hs]) ho.1 ho.2) (hDD I)
  rw [gz_cell_o hs] at he
  obtain ⟨T0, N0, hc⟩ := hy.2.2.2
  have h1 : d' + 1 ≤ d := Nat.le_of_ble_eq_true hdd
  have h2 : nL' ≤ 19 := Nat.le_of_ble_eq_true hnl
  refine gl_back C hB hS hl hQ (va_runV (As := As) (rest := rest) (C := y.cls) (bytes := cc') (maxL := nL') (ret := ret') (n := n') (ws := .code y cc' nL' ret' :: gz_ts) ⟨hx, hb, hml, hown, hts⟩ (gz_met hy.1.2.2.1 hlen hV) ⟨callB_of n' hts (gz_goodY hy.1) rfl rfl rfl (hts _ hy.1.2.1) (hts _ hm) hy.1.2.2.2 ⟨by show d' + 1 ≤ R.frames; omega, by show 8 + (nL' + 11) + 38 * d' ≤ R.locals; omega⟩, hts _ hy.2.1, hts _ hy.2.2.1⟩ ⟨gz_blind, va_recv hK hP hc he, fun U hU hW => ⟨rfl, by rw [hU]; exact hP, va_K.moved hW.alike hK, va_Nw.warmM hW hN, (hDD I).weaken (fun _ _ _ _ => trivial)⟩⟩ rfl hn hl.1 rfl (lv_room hw) hd ⟨hce, hsl⟩) kk
theorem gl_cV1i {y : MethodName} {cc' : ByteArray} {nL' d' idx : Nat} {ret' : Option FieldType} {P' : Int → gz_M → Prop} {r ci n na nb : Nat} {a b : Int} {v1 : Value} {rest : List Value} {L' : List (Option Value)} (hd : decode cc pc = .ok (.invokevirtual idx, 3)) (hm : Cond.methodLink own idx y ∈ gz_ts) (hy : gz_YV y cc' nL' ret' 1 ci) (hs : gz_shp r = (10 + ci, n, na, nb)) (hA : gz_args [.ref (α (r, a, b)), v1] nL' = L') (hbb : (Nat.ble (d' + 1) d && Nat.ble nL' 19 && Nat.blt r 40 && Nat.ble (rest.map fun v => v.category).sum 8 && Nat.ble (lg_sl [.ref (α (r, a, b)), v1]).length nL') = true) (ho : gz_B a b na nb) (hV : gz_V l D α cA y.cls cc' ret' nL' d' (gz_Qi P') I L' [] 0) (kk : ∀ (x : Int) (I' : gz_M), P' x I' → gl_V bb bL xs l D α cA own cc ret nL d Q I' L (gz_i x :: rest) (pc + 3)) : gl_V bb bL xs l D α cA own cc ret nL d Q I L (v1 :: .ref (α (r, a, b)) :: rest) pc := by
  subst hA
  rw [Bool.and_eq_true, Bool.and_eq_true, Bool.and_eq_true, Bool.and_eq_true] at hbb
  exact gl_cV (As := [v1]) hd hm hy rfl hbb.1.1.1.1 hbb.1.1.1.2 hs hbb.1.1.2 ho (Nat.le_of_ble_eq_true hbb.1.2) (Nat.le_of_ble_eq_true hbb.2) hV (fun x I' h => by obtain ⟨z, rfl, hz⟩ := h; exact kk z I' hz)
theorem gl_cV2i {y : MethodName} {cc' : ByteArray} {nL' d' idx : Nat} {ret' : Option FieldType} {P' : Int → gz_M → Prop} {r ci n na nb : Nat} {a b : Int} {v1 v2 : Value} {rest : List Value} {L' : List (Option Value)} (hd : decode cc pc = .ok (.invokevirtual idx, 3)) (hm : Cond.methodLink own idx y ∈ gz_ts) (hy : gz_YV y cc' nL' ret' 2 ci) (hs : gz_shp r = (10 + ci, n, na, nb)) (hA : gz_args [.ref (α (r, a, b)), v1, v2] nL' = L') (hbb : (Nat.ble (d' + 1) d && Nat.ble nL' 19 && Nat.blt r 40 && Nat.ble (rest.map fun v => v.category).sum 8 && Nat.ble (lg_sl [.ref (α (r, a, b)), v1, v2]).length nL') = true) (ho : gz_B a b na nb) (hV : gz_V l D α cA y.cls cc' ret' nL' d' (gz_Qi P') I L' [] 0) (kk : ∀ (x : Int) (I' : gz_M), P' x I' → gl_V bb bL xs l D α cA own cc ret nL d Q I' L (gz_i x :: rest) (pc + 3)) : gl_V bb bL xs l D α cA own cc ret nL d Q I L (v2 :: v1 :: .ref (α (r, a, b)) :: rest) pc := by
  subst hA
  rw [Bool.and_eq_true, Bool.and_eq_true, Bool.and_eq_true, Bool.and_eq_true] at hbb
  exact gl_cV (As := [v1, v2]) hd hm hy rfl hbb.1.1.1.1 hbb.1.1.1.2 hs hbb.1.1.2 ho (Nat.le_of_ble_eq_true hbb.1.2) (Nat.le_of_ble_eq_true hbb.2) hV (fun x I' h => by obtain ⟨z, rfl, hz⟩ := h; exact kk z I' hz)
theorem gl_cV3i {y : MethodName} {cc' : ByteArray} {nL' d' idx : Nat} {ret' : Option FieldType} {P' : Int → gz_M → Prop} {r ci n na nb : Nat} {a b : Int} {v1 v2 v3 : Value} {rest : List Value} {L' : List (Option Value)} (hd : decode cc pc = .ok (.invokevirtual idx, 3)) (hm : Cond.methodLink own idx y ∈ gz_ts) (hy : gz_YV y cc' nL' ret' 3 ci) (hs : gz_shp r = (10 + ci, n, na, nb)) (hA : gz_args [.ref (α (r, a, b)), v1, v2, v3] nL' = L') (hbb : (Nat.ble (d' + 1) d && Nat.ble nL' 19 && Nat.blt r 40 && Nat.ble (rest.map fun v => v.category).sum 8 && Nat.ble (lg_sl [.ref (α (r, a, b)), v1, v2, v3]).length nL') = true) (ho : gz_B a b na nb) (hV : gz_V l D α cA y.cls cc' ret' nL' d' (gz_Qi P') I L' [] 0) (kk : ∀ (x : Int) (I' : gz_M), P' x I' → gl_V bb bL xs l D α cA own cc ret nL d Q I' L (gz_i x :: rest) (pc + 3)) : gl_V bb bL xs l D α cA own cc ret nL d Q I L (v3 :: v2 :: v1 :: .ref (α (r, a, b)) :: rest) pc := by
  subst hA
  rw [Bool.and_eq_true, Bool.and_eq_true, Bool.and_eq_true, Bool.and_eq_true] at hbb
  exact gl_cV (As := [v1, v2, v3]) hd hm hy rfl hbb.1.1.1.1 hbb.1.1.1.2 hs hbb.1.1.2 ho (Nat.le_of_ble_eq_true hbb.1.2) (Nat.le_of_ble_eq_true hbb.2) hV (fun x I' h => by obtain ⟨z, rfl, hz⟩ := h; exact kk z I' hz)
theorem gl_cV4i {y : MethodName} {cc' : ByteArray} {nL' d' idx : Nat} {ret' : Option FieldType} {P' : Int → gz_M → Prop} {r ci n na nb : Nat} {a b : Int} {v1 v2 v3 v4 : Value} {rest : List Value} {L' : List (Option Value)} (hd : decode cc pc = .ok (.invokevirtual idx, 3)) (hm : Cond.methodLink own idx y ∈ gz_ts) (hy : gz_YV y cc' nL' ret' 4 ci) (hs : gz_shp r = (10 + ci, n, na, nb)) (hA : gz_args [.ref (α (r, a, b)), v1, v2, v3, v4] nL' = L') (hbb : (Nat.ble (d' + 1) d && Nat.ble nL' 19 && Nat.blt r 40 && Nat.ble (rest.map fun v => v.category).sum 8 && Nat.ble (lg_sl [.ref (α (r, a, b)), v1, v2, v3, v4]).length nL') = true) (ho : gz_B a b na nb) (hV : gz_V l D α cA y.cls cc' ret' nL' d' (gz_Qi P') I L' [] 0) (kk : ∀ (x : Int) (I' : gz_M), P' x I' → gl_V bb bL xs l D α cA own cc ret nL d Q I' L (gz_i x :: rest) (pc + 3)) : gl_V bb bL xs l D α cA own cc ret nL d Q I L (v4 :: v3 :: v2 :: v1 :: .ref (α (r, a, b)) :: rest) pc := by
  subst hA
  rw [Bool.and_eq_true, Bool.and_eq_true, Bool.and_eq_true, Bool.and_eq_true] at hbb
  exact gl_cV (As := [v1, v2, v3, v4]) hd hm hy rfl hbb.1.1.1.1 hbb.1.1.1.2 hs hbb.1.1.2 ho (Nat.le_of_ble_eq_true hbb.1.2) (Nat.le_of_ble_eq_true hbb.2) hV (fun x I' h => by obtain ⟨z, rfl, hz⟩ := h; exact kk z I' hz)
theorem gl_eq {off : Int} {tgt : Nat} {a : Int} (hd : decode cc pc = .ok (.if_icmp .eq off, 3)) (ht : (pc : Int) + off = (tgt : Int)) (k : gl_V bb bL xs l D α cA own cc ret nL d Q I L st tgt) : gl_V bb bL xs l D α cA own cc ret nL d Q I L (gz_i a :: gz_i a :: st) pc := by
  intro p e R s m args below meth c A H locs ls cells slots QQ C hB hP hS hl hQ
  exact lv_icmp_eq C.1 C.2.1 hd ht (fun _ => k p e R s m args below meth c A H locs ls cells slots QQ C hB hP hS hl hQ) (fun h => absurd rfl h)
theorem gl_iand {a b : Int} (hd : decode cc pc = .ok (.iand, 1)) (k : ∀ w : Int, (-2147483648 ≤ w ∧ w ≤ 2147483647) → gl_V bb bL xs l D α cA own cc ret nL d Q I L (gz_i w :: st) (pc + 1)) : gl_V bb bL xs l D α cA own cc ret nL d Q I L (gz_i b :: gz_i a :: st) pc := by
  intro p e R s m args below meth c A H locs ls cells slots QQ C hB hP hS hl hQ
  exact lv_iand C.1 C.2.1 hd (by rw [gz_arg (Int32.ofInt a &&& Int32.ofInt b)]; exact k _ (gz_rng _) p e R s m args below meth c A H locs ls cells slots QQ C hB hP hS hl hQ)
theorem gl_slen (hd : decode cc pc = .ok (.arraylength, 1)) (k : gl_V bb bL xs l D α cA own cc ret nL d Q I L (gz_i bL :: st) (pc + 1)) : gl_V bb bL xs l D α cA own cc ret nL d Q I L (.ref bb :: st) pc := by
  intro p e R s m args below meth c A H locs ls cells slots QQ C hB hP hS hl hQ
  exact va_slen C.1 C.2.1 hB.1 hB.2.1 hB.2.2 hS hd (k p e R s m args below meth c A H locs ls cells slots QQ C hB hP hS hl hQ)
theorem gl_sld {j : Int} (hd : decode cc pc = .ok (.iaload, 1)) (hL : bL ≤ 3072) (hj : 0 ≤ j ∧ j < bL) (k : gl_V bb bL xs l D α cA own cc ret nL d Q I L (gz_i (xs j.toNat).toInt :: st) (pc + 1)) : gl_V bb bL xs l D α cA own cc ret nL d Q I L (gz_i j :: .ref bb :: st) pc := by
  intro p e R s m args below meth c A H locs ls cells slots QQ C hB hP hS hl hQ
  exact va_sld C.1 C.2.1 hB.1 hB.2.1 hB.2.2 hS (gz_pin hj (by omega)) hd (by rw [gz_tn ⟨hj.1, by omega⟩, gz_arg (xs j.toNat)]; exact k p e R s m args below meth c A H locs ls cells slots QQ C hB hP hS hl hQ)
end
/-- what the reference's back asks -/
theorem gz_RR.kt5 {n : Int} {I J : gz_M} (hT : gz_T I) (h : gz_RR n I J) : ∀ s, 0 ≤ s → s < 12 → ¬ J (30, 0, 0) s = -1 → J (31, 0, 0) s = 1 → 1 ≤ J (33, 0, 0) s ∧ ∀ t, 0 ≤ t → t < J (33, 0, 0) s → gz_sm (fun m => J (24, 0, 0) (gz_lM J s t m)) (gz_LS J s t) ≤ 300 := fun s a b c e => by
  rcases h.m2 s a b with z | ⟨i, i1, i2⟩
  · exact absurd z c
  · obtain ⟨⟨m3, -, m5, -⟩, m9⟩ := h.m3 i s i1.1 i1.2 a b i2
    obtain ⟨k1, k2⟩ := h.kp i i1.1 i1.2 (by rw [m3]; exact e)
    rw [← m5]
    refine ⟨k1, fun t t1 t2 => ?_⟩
    obtain ⟨q1, q2⟩ := m9 t t1 t2
    obtain ⟨-, k4⟩ := k2 t t1 t2
    have e19 := gz_t19 hT (I (4, 0, 0) i) 0 t
    have hls : gz_LS J s t = (I (19, I (4, 0, 0) i, 0) t).toNat := by unfold gz_LS; rw [← q1]
    rw [hls, gz_sm_cong (f := fun m => J (24, 0, 0) (gz_lM J s t m)) (g := fun m => I (13, 0, 0) (I (18, I (4, 0, 0) i, t) m)) (fun j j1 j2 => ?_)]
    · exact k4
    · have e18 := gz_t18 hT (I (4, 0, 0) i) t j
      show J (24, 0, 0) (J (35, 0, 0) (80 * (4 * s + t) + j)) = I (13, 0, 0) (I (18, I (4, 0, 0) i, t) j)
      rw [← q2 j j1 (by omega)]
      exact h.p24 (by omega)
