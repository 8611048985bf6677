/-! calls: a method's judgement at its entry is its contract -/
def gz_rm (d : Nat) : Room := { frames := d, cells := 0, slots := 0, locals := 38 * d }
def gz_A (α : gz_P → Nat) : Nat → Prop := fun q => ∃ p ∈ gz_ptrs, q = α p
def gz_so (x : Slot) : Option Value := match x with
  | .val v => some v
  | _ => none
def gz_args (vs : List Value) (n : Nat) : List (Option Value) := (lg_sl vs ++ List.replicate (n - (lg_sl vs).length) Slot.unset).map gz_so
def gz_Pre (D : va_G) (α : gz_P → Nat) (cA : Nat → ClassId) (I : gz_M) (U : State) : Prop := va_P D gz_cl (gz_ws α cA I) U.heap ∧ va_K D gz_cl (gz_tys cA) U ∧ va_Nw (.methodLinkNest RX3 48 yX4_digestOf RX4) U ∧ va_D (fun _ => True) (gz_ws α cA I)
def gz_Post (D : va_G) (α : gz_P → Nat) (cA : Nat → ClassId) (Q : Option Value → gz_M → Prop) : Array Value → State → Outcome → State → Prop := fun _ st oc t => (∃ (r : Option Value) (I' : gz_M), oc = .returned r ∧ Q r I' ∧ va_P D gz_cl (gz_ws α cA I') t.heap) ∧ va_F (gz_A α) st t
theorem gz_D_any {α : gz_P → Nat} {cA : Nat → ClassId} {A : Nat → Prop} {I : gz_M} (h : va_D A (gz_ws α cA I)) (I' : gz_M) : va_D (gz_A α) (gz_ws α cA I') := by
  have at' : ∀ (I1 : gz_M) (k : Nat) (q : Nat × va_E), (gz_ws α cA I1)[k]? = some q → ∃ p, gz_ptrs[k]? = some p ∧ q = (α p, gz_cell α cA I1 p) := by
    intro I1 k q hq
    unfold gz_ws at hq
    rw [List.getElem?_map] at hq
    cases hp : gz_ptrs[k]? with
    | none => rw [hp] at hq; cases hq
    | some p => rw [hp] at hq; exact ⟨p, rfl, (Option.some.inj hq).symm⟩
  have back : ∀ (k : Nat) (p : gz_P), gz_ptrs[k]? = some p → (gz_ws α cA I)[k]? = some (α p, gz_cell α cA I p) := by
    intro k p hp
    unfold gz_ws
    rw [List.getElem?_map, hp]
    rfl
  refine ⟨fun i j x y hx hy hxy => ?_, fun k q hq => ?_⟩
  · obtain ⟨p1, h1, rfl⟩ := at' I' i x hx
    obtain ⟨p2, h2, rfl⟩ := at' I' j y hy
    exact h.1 i j _ _ (back i p1 h1) (back j p2 h2) hxy
  · obtain ⟨p1, h1, rfl⟩ := at' I' k q hq
    exact ⟨p1, List.mem_of_getElem? h1, rfl⟩
theorem gz_in_A {α : gz_P → Nat} {cA : Nat → ClassId} {A : Nat → Prop} {I : gz_M} (h : va_D A (gz_ws α cA I)) : ∀ q, gz_A α q → A q := by
  rintro q ⟨p, hp, rfl⟩
  obtain ⟨k, hk⟩ := List.getElem?_of_mem hp
  have h2 : (gz_ws α cA I)[k]? = some (α p, gz_cell α cA I p) := by
    unfold gz_ws
    rw [List.getElem?_map, hk]
    rfl
  exact h.2 k _ h2
theorem gz_args_L {vs : List Value} {n : Nat} (h : (lg_sl vs).length ≤ n) : gz_L ((lg_sl vs ++ List.replicate (n - (lg_sl vs).length) Slot.unset).toArray) n (gz_args vs n) := by
  have h1 := lv_entry vs h
  refine ⟨h1.1, h1.2.1, fun i v hv => ?_⟩
  unfold gz_args at hv
  rw [List.getElem?_map] at hv
  rw [List.getElem?_toArray]
  cases hs : (lg_sl vs ++ List.replicate (n - (lg_sl vs).length) Slot.unset)[i]? with
  | none => rw [hs] at hv; cases hv
  | some x =>
    rw [hs] at hv
    have hx : gz_so x = some v := Option.some.inj hv
    cases x with
    | val w => cases hx; rfl
    | unset => cases hx
    | second => cases hx
theorem gz_met {l : Launch} {D : va_G} {α : gz_P → Nat} {cA : Nat → ClassId} {cc : ByteArray} {ret : Option FieldType} {nL d : Nat} {Q : Option Value → gz_M → Prop} {I : gz_M} {y : MethodName} {vs : List Value} (hy : plainName y.cls = true) (hlen : (lg_sl vs).length ≤ nL) (hV : gz_V l D α cA y.cls cc ret nL d Q I (gz_args vs nL) [] 0) :
    Met l y (.code y cc nL ret :: gz_ts) (gz_rm d) (va_Pc vs (gz_Pre D α cA I)) (gz_Post D α cA Q) 0 0 (gz_A α) := by
  refine Met.ofW (cc := cc) (maxL := nL) (ret := ret) hy rfl ?_
  intro p e s m args below meth c s₁ B hml hv
  obtain ⟨rfl, hP, hK, hN, hD⟩ := hv
  have hts := atoms_spec (ws := .code y cc nL ret :: gz_ts) B.pre
  have hown : s.vm.findClass y.cls = some m.cls := findClass_of_methodNamed B.named
  have hlocks := B.notSynchronized
  rw [lg_entry_eq]
  refine hV p e _ s m _ below meth c (gz_A α) s.heap [] _ 0 0 _ ⟨B.exec, B.bytes, B.returns, hml, hown, fun w hw => hts w (List.mem_cons_of_mem _ hw), hK, hN, Nat.le_refl _, Nat.le_refl _, Nat.zero_le _, Nat.zero_le _, gz_D_any hD⟩ hP va_S.rf (gz_args_L hlen) ?_
  intro r I' H' locs' ls' pc' hQ hP' hS' hret
  rcases hret with ⟨h1, h2, x, rfl⟩ | ⟨h1, h2, x, rfl, h3⟩ | ⟨⟨n, h1⟩, h2, v, rfl, h3⟩ | ⟨h1, h2, rfl⟩
  · exact W.iret B.exec B.bytes (B.returns.trans h1) (fun t ht hW => ⟨⟨_, I', rfl, hQ, by rw [ht]; exact hP'⟩, hS'.F ht⟩) hS'.2.2 h2
  · exact W.zret B.exec B.bytes (B.returns.trans h1) h3 (fun t ht hW => ⟨⟨_, I', rfl, hQ, by rw [ht]; exact hP'⟩, hS'.F ht⟩) hS'.2.2 h2
  · exact W.aret B.exec B.bytes (B.returns.trans h1) (Or.inl ⟨n, rfl⟩) h3 (fun t ht hW => ⟨⟨_, I', rfl, hQ, by rw [ht]; exact hP'⟩, hS'.F ht⟩) hS'.2.2 h2
  · exact W.vret B.exec B.bytes (B.returns.trans h1) (fun t ht hW => ⟨⟨_, I', rfl, hQ, by rw [ht]; exact hP'⟩, hS'.F ht⟩) hS'.2.2 h2
/-- what the tables say of a method: n parameters -/
def gz_Y (y : MethodName) (cc : ByteArray) (nL : Nat) (ret : Option FieldType) (n : Nat) : Prop := Cond.code y cc nL ret ∈ gz_ts ∧ Cond.initialized y.cls ∈ gz_ts ∧ plainName y.cls = true ∧ (y.cls ≠ "java/lang/invoke/MethodHandle" ∧ y.cls ≠ "java/lang/invoke/VarHandle" ∧ (parseMethodDescriptor y.desc).map (fun d => d.parameters.length) = some n)
def gz_YV (y : MethodName) (cc : ByteArray) (nL : Nat) (ret : Option FieldType) (n ci : Nat) : Prop := gz_Y y cc nL ret n ∧ Cond.instanceMethod y ∈ gz_ts ∧ Cond.selects y.cls y y ∈ gz_ts ∧ ∃ (T : u_T) (N : Nat), gz_cl[ci]? = some (y.cls, T, N)
def gz_YS (y : MethodName) (cc : ByteArray) (nL : Nat) (ret : Option FieldType) (n : Nat) : Prop := gz_Y y cc nL ret n ∧ Cond.static y ∈ gz_ts
section
variable {l : Launch} {D : va_G} {α : gz_P → Nat} {cA : Nat → ClassId} {own : String} {cc : ByteArray} {ret : Option FieldType} {nL d : Nat} {Q : Option Value → gz_M → Prop} {I : gz_M} {L : List (Option Value)} {st : List Value} {pc : Nat}
theorem gz_goodY {y : MethodName} {cc' : ByteArray} {nL' : Nat} {ret' : Option FieldType} {n : Nat} (hy : gz_Y y cc' nL' ret' n) : GoodIn gz_ts (Cond.code y cc' nL' ret' :: gz_ts) := fun w h => by
  rcases List.mem_cons.mp h with rfl | h
  · exact gz_ts_self _ hy.1
  · exact gz_ts_self _ h
/-- behind a call -/
theorem gz_back {p : Program} {e : Env} {R : Room} {s : State} {m : MethodId} {args : Array Value} {below : List Frame} {meth : Method} {c : Code} {A : Nat → Prop} {H : Heap} {locs : List Loc} {ls : Array Slot} {cells slots : Nat} {QQ : State → Prop} {Q' : Option Value → gz_M → Prop} {st0 rest : List Value} {a : Array Value}
    (C : gz_C D α cA own cc ret nL d p R s m args meth c A cells slots) (hS : va_S A s.heap H locs) (hl : gz_L ls nL L)
    (hQ : ∀ (r : Option Value) (I' : gz_M) (H' : Heap) (locs' : List Loc) (ls' : Array Slot) (pc' : Nat), Q r I' → va_P D gz_cl (gz_ws α cA I') H' → va_S A s.heap H' locs' → gz_ret cc ret pc' r → W p l e R s m args below meth c H' locs' cells slots QQ (F0 m pc' ls' r.toList))
    (hr : va_Run p l e R s m args below meth c H locs cells slots 0 0 (F0 m pc ls st0) rest (gz_Post D α cA Q' a) (gz_A α))
    (kk : ∀ (r : Option Value) (I' : gz_M), Q' r I' → gz_V l D α cA own cc ret nL d Q I' L (r.toList ++ rest) (pc + 3)) : W p l e R s m args below meth c H locs cells slots QQ (F0 m pc ls st0) := by
  intro T hT X
  obtain ⟨v, st₀, t, T', L2, h0, X', hL2, e1, e2, ⟨⟨r, I', hv, hq, hP'⟩, hz, hk⟩, stp⟩ := hr T hT X
  cases hv
  rw [h0] at hz hk
  have hA := gz_in_A (C.2.2.2.2.2.2.2.2.2.2.2.2 (fun _ _ => 0))
  obtain ⟨t2, a1, b1⟩ := kk v I' hq p e R s m args below meth c A T'.heap (locs ++ L2) ls cells slots QQ C (by rw [e1]; exact hP')
    ⟨Nat.le_trans hS.1 (by rw [e1]; exact hz), fun q h1 h2 => by rw [e1, hk q (Nat.lt_of_lt_of_le h1 hS.1) (fun z => h2 (hA q z))]; exact hS.2.1 q h1 h2, fun q hq => by
      rcases List.mem_append.mp hq with h | h
      · exact hS.2.2 q h
      · exact hA _ (hL2 q h)⟩ hl hQ T' rfl X'
  exact ⟨t2, stp t2 a1, b1⟩
theorem gz_blind {vs : List Value} {I1 : gz_M} : FrameBlind (va_Pc vs (gz_Pre D α cA I1)) := fun a U g mk q => by
  obtain ⟨q0, qP, qK, qN, qD⟩ := q
  exact ⟨q0, qP, va_K.moved (u := U) (U := U.calling g mk a) (Vm.Alike.refl U.vm) qK, va_Nw.same rfl (u := U) (U := U.calling g mk a) rfl qN, qD⟩
theorem gz_cV {y : MethodName} {cc' : ByteArray} {nL' n' d' idx : Nat} {ret' : Option FieldType} {Q' : Option Value → gz_M → Prop} {r ci n na nb : Nat} {a b : Int} {As rest : List Value}
    (hd : decode cc pc = .ok (.invokevirtual idx, 3)) (hm : Cond.methodLink own idx y ∈ gz_ts) (hy : gz_YV y cc' nL' ret' n' ci) (hn : As.length = n') (hdd : Nat.ble (d' + 1) d = true) (hnl : Nat.ble nL' 19 = true) (hs : gz_shp r = (10 + ci, n, na, nb)) (hr : Nat.blt r 40 = true) (ho : gz_B a b na nb) (hw : (rest.map fun v => v.category).sum ≤ 8) (hlen : (lg_sl (.ref (α (r, a, b)) :: As)).length ≤ nL')
    (hV : gz_V l D α cA y.cls cc' ret' nL' d' Q' I (gz_args (.ref (α (r, a, b)) :: As) nL') [] 0)
    (kk : ∀ (x : Option Value) (I' : gz_M), Q' x I' → gz_V l D α cA own cc ret nL d Q I' L (x.toList ++ rest) (pc + 3)) : gz_V l D α cA own cc ret nL d Q I L (As.reverse ++ .ref (α (r, a, b)) :: rest) pc := by
  intro p e R s m args below meth c A H locs ls cells slots QQ C hP hS hl hQ
  obtain ⟨hx, hb, hret, hml, hown, hts, hK, hN, hfr, hlo, hce, hsl, hDD⟩ := id C
  obtain ⟨q0, he, -⟩ := gz_ws_get (I := I) (gz_mem (Nat.le_of_ble_eq_true hr) (by rw [hs]) ho.1 ho.2) (hDD I)
  rw [gz_cell_o hs] at he
  obtain ⟨T0, N0, hc⟩ := hy.2.2.2
  have h1 : d' + 1 ≤ d := Nat.le_of_ble_eq_true hdd
  have h2 : nL' ≤ 19 := Nat.le_of_ble_eq_true hnl
  refine gz_back C hS hl hQ (va_runV (As := As) (rest := rest) (C := y.cls) (bytes := cc') (maxL := nL') (ret := ret') (n := n') (ws := .code y cc' nL' ret' :: gz_ts) ⟨hx, hb, hml, hown, hts⟩ (gz_met hy.1.2.2.1 hlen hV) ⟨callB_of n' hts (gz_goodY hy.1) rfl rfl rfl (hts _ hy.1.2.1) (hts _ hm) hy.1.2.2.2 ⟨by show d' + 1 ≤ R.frames; omega, by show 8 + (nL' + 11) + 38 * d' ≤ R.locals; omega⟩, hts _ hy.2.1, hts _ hy.2.2.1⟩ ⟨gz_blind, va_recv hK hP hc he, fun U hU hW => ⟨rfl, by rw [hU]; exact hP, va_K.moved hW.alike hK, va_Nw.warmM hW hN, (hDD I).weaken (fun _ _ _ _ => trivial)⟩⟩ rfl hn hl.1 rfl (lv_room hw) hd ⟨hce, hsl⟩) kk
theorem gz_cS {y : MethodName} {cc' : ByteArray} {nL' n' d' idx : Nat} {ret' : Option FieldType} {Q' : Option Value → gz_M → Prop} {As rest : List Value}
    (hd : decode cc pc = .ok (.invokestatic idx, 3)) (hm : Cond.methodLink own idx y ∈ gz_ts) (hy : gz_YS y cc' nL' ret' n') (hn : As.length = n') (hdd : Nat.ble (d' + 1) d = true) (hnl : Nat.ble nL' 19 = true) (hw : (rest.map fun v => v.category).sum ≤ 8) (hlen : (lg_sl As).length ≤ nL')
    (hV : gz_V l D α cA y.cls cc' ret' nL' d' Q' I (gz_args As nL') [] 0)
    (kk : ∀ (x : Option Value) (I' : gz_M), Q' x I' → gz_V l D α cA own cc ret nL d Q I' L (x.toList ++ rest) (pc + 3)) : gz_V l D α cA own cc ret nL d Q I L (As.reverse ++ rest) pc := by
  intro p e R s m args below meth c A H locs ls cells slots QQ C hP hS hl hQ
  obtain ⟨hx, hb, hret, hml, hown, hts, hK, hN, hfr, hlo, hce, hsl, hDD⟩ := id C
  have h1 : d' + 1 ≤ d := Nat.le_of_ble_eq_true hdd
  have h2 : nL' ≤ 19 := Nat.le_of_ble_eq_true hnl
  refine gz_back C hS hl hQ (va_runS (As := As) (rest := rest) (bytes := cc') (maxL := nL') (ret := ret') (n := n') (ws := .code y cc' nL' ret' :: gz_ts) ⟨hx, hb, hml, hown, hts⟩ (gz_met hy.1.2.2.1 hlen hV) ⟨callB_of n' hts (gz_goodY hy.1) rfl rfl rfl (hts _ hy.1.2.1) (hts _ hm) hy.1.2.2.2 ⟨by show d' + 1 ≤ R.frames; omega, by show 8 + (nL' + 11) + 38 * d' ≤ R.locals; omega⟩, hts _ hy.2⟩ ⟨gz_blind, fun U hU hW => ⟨rfl, by rw [hU]; exact hP, va_K.moved hW.alike hK, va_Nw.warmM hW hN, (hDD I).weaken (fun _ _ _ _ => trivial)⟩⟩ rfl hn hl.1 rfl (lv_room hw) hd ⟨hce, hsl⟩) kk
/-- digestOf, called out of the store's class -/
theorem gz_cN {nL' d' : Nat} {Q' : Option Value → gz_M → Prop} {As rest : List Value} {cc' : ByteArray} {ret' : Option FieldType}
    (hd : decode cc pc = .ok (.invokestatic 48, 3)) (ho : own = RX3) (hy : gz_YS yX4_digestOf cc' nL' ret' 3) (hn : As.length = 3) (hdd : Nat.ble (d' + 1) d = true) (hnl : Nat.ble nL' 19 = true) (hw : (rest.map fun v => v.category).sum ≤ 8) (hlen : (lg_sl As).length ≤ nL')
    (hV : gz_V l D α cA yX4_digestOf.cls cc' ret' nL' d' Q' I (gz_args As nL') [] 0)
    (kk : ∀ (x : Option Value) (I' : gz_M), Q' x I' → gz_V l D α cA own cc ret nL d Q I' L (x.toList ++ rest) (pc + 3)) : gz_V l D α cA own cc ret nL d Q I L (As.reverse ++ rest) pc := by
  subst ho
  intro p e R s m args below meth c A H locs ls cells slots QQ C hP hS hl hQ
  obtain ⟨hx, hb, hret, hml, hown, hts, hK, hN, hfr, hlo, hce, hsl, hDD⟩ := id C
  have h1 : d' + 1 ≤ d := Nat.le_of_ble_eq_true hdd
  have h2 : nL' ≤ 19 := Nat.le_of_ble_eq_true hnl
  refine gz_back C hS hl hQ (va_runSN (As := As) (rest := rest) (bytes := cc') (maxL := nL') (ret := ret') (n := 3) (ws := .code yX4_digestOf cc' nL' ret' :: gz_ts) ⟨hx, hb, hml, hown, hts⟩ (gz_met hy.1.2.2.1 hlen hV) ⟨va_cnB 3 hts (gz_goodY hy.1) rfl rfl rfl hN (hts _ hy.1.2.1) hy.1.2.2.2 ⟨by show d' + 1 ≤ R.frames; omega, by show 8 + (nL' + 11) + 38 * d' ≤ R.locals; omega⟩, hts _ hy.2, trivial⟩ ⟨gz_blind, fun U hU hW => ⟨rfl, by rw [hU]; exact hP, va_K.moved hW.alike hK, va_Nw.warmM hW hN, (hDD I).weaken (fun _ _ _ _ => trivial)⟩⟩ rfl hn hl.1 rfl (lv_room hw) hd ⟨hce, hsl⟩) kk
/-- n ints of the row p, from sp on, come to the row q, from dp on -/
def gz_cp (I : gz_M) (p q : gz_P) (sp dp n : Int) : gz_M := fun x i => if x = q ∧ dp ≤ i ∧ i < dp + n then I p (sp + (i - dp)) else I x i
theorem gz_copy {r1 n1 na1 nb1 r2 n2 na2 nb2 idx : Nat} {a1 b1 a2 b2 sp dp n : Int} (hd : decode cc pc = .ok (.invokestatic idx, 3)) (hm : Cond.methodLink own idx arraycopyName ∈ gz_ts) (hs1 : gz_shp r1 = (0, n1, na1, nb1)) (hs2 : gz_shp r2 = (0, n2, na2, nb2)) (hr : (Nat.blt r1 40 && Nat.blt r2 40 && Nat.ble n1 65536 && Nat.ble n2 65536) = true) (hdd : Nat.ble 1 d = true) (hw : (st.map fun v => v.category).sum ≤ 8) (ho1 : gz_B a1 b1 na1 nb1) (ho2 : gz_B a2 b2 na2 nb2) (h1 : 0 ≤ sp ∧ 0 ≤ dp ∧ 0 ≤ n ∧ sp + n ≤ n1 ∧ dp + n ≤ n2)
    (kk : gz_V l D α cA own cc ret nL d Q (gz_cp I (r1, a1, b1) (r2, a2, b2) sp dp n) L st (pc + 3)) : gz_V l D α cA own cc ret nL d Q I L (gz_i n :: gz_i dp :: .ref (α (r2, a2, b2)) :: gz_i sp :: .ref (α (r1, a1, b1)) :: st) pc := by
  intro p e R s m args below meth c A H locs ls cells slots QQ C hP hS hl hQ
  obtain ⟨hx, hb, hret, hml, hown, hts, hK, hN, hfr, hlo, hce, hsl, hDD⟩ := id C
  rw [Bool.and_eq_true, Bool.and_eq_true, Bool.and_eq_true] at hr
  have hn1 : n1 ≤ 65536 := Nat.le_of_ble_eq_true hr.1.2
  have hn2 : n2 ≤ 65536 := Nat.le_of_ble_eq_true hr.2
  have hd1 : 1 ≤ d := Nat.le_of_ble_eq_true hdd
  obtain ⟨q0, he0, -⟩ := gz_ws_get (I := I) (gz_mem (Nat.le_of_ble_eq_true hr.1.1.1) (by rw [hs1]) ho1.1 ho1.2) (hDD I)
  obtain ⟨q1, he1, hset⟩ := gz_ws_get (I := I) (gz_mem (Nat.le_of_ble_eq_true hr.1.1.2) (by rw [hs2]) ho2.1 ho2.2) (hDD I)
  rw [gz_cell_i hs1 rfl] at he0
  rw [gz_cell_i hs2 rfl] at he1
  have t1 : (Int32.ofInt sp).toNatClampNeg = sp.toNat := gz_tn ⟨by omega, by omega⟩
  have t2 : (Int32.ofInt dp).toNatClampNeg = dp.toNat := gz_tn ⟨by omega, by omega⟩
  have t3 : (Int32.ofInt n).toNatClampNeg = n.toNat := gz_tn ⟨by omega, by omega⟩
  have nn : ∀ {z : Int}, 0 ≤ z ∧ z ≤ 65536 → ¬ Int32.ofInt z < 0 := fun {z} h => by rw [gz_z0, gz_clt ⟨by omega, by omega⟩ gz_r0]; omega
  have s1 : ¬ Int32.ofInt sp < 0 := nn ⟨by omega, by omega⟩
  have s2 : ¬ Int32.ofInt dp < 0 := nn ⟨by omega, by omega⟩
  have s3 : ¬ Int32.ofInt n < 0 := nn ⟨by omega, by omega⟩
  have hnf : nativeFrameWords "java/lang/System" "arraycopy" 5 = 7 := by decide
  have s4 : 1 ≤ R.frames := by omega
  have s5 : (st.map fun v => v.category).sum + (nativeFrameWords "java/lang/System" "arraycopy" 5 + 11) ≤ R.locals := by omega
  have s6 : (Int32.ofInt sp).toNatClampNeg + (Int32.ofInt n).toNatClampNeg ≤ n1 := by rw [t1, t3]; omega
  have s7 : (Int32.ofInt dp).toNatClampNeg + (Int32.ofInt n).toNatClampNeg ≤ n2 := by rw [t2, t3]; omega
  refine va_copyi hx hb (hml.trans hl.1.symm) hown (hts _ hm) (hts _ wv_arraycopy) (hts _ ws_arraycopyName) (hts _ wn_J10) hK hP (hDD I) hS q0 q1 0 0 he0 he1 rfl rfl rfl s1 s2 s3 s6 s7 (fun i hi => rfl) s4 s5 hd ?_
  intro H1 locs1 hP1 hD1 hS1
  have hset' := hset (gz_cp I (r1, a1, b1) (r2, a2, b2) sp dp n) (fun q hq => gz_cell_eq (by funext i; unfold gz_cp; rw [if_neg (fun e => hq e.1)]))
  rw [gz_cell_i hs2 rfl] at hset'
  have e1 : va_cpy (fun i : Nat => Int32.ofInt (I (r1, a1, b1) i)) (fun i : Nat => Int32.ofInt (I (r2, a2, b2) i)) (Int32.ofInt sp).toNatClampNeg (Int32.ofInt dp).toNatClampNeg (Int32.ofInt n).toNatClampNeg = (fun i : Nat => Int32.ofInt (gz_cp I (r1, a1, b1) (r2, a2, b2) sp dp n (r2, a2, b2) i)) := by
    rw [t1, t2, t3]
    funext i
    unfold va_cpy gz_cp
    by_cases h : dp.toNat ≤ i ∧ i < dp.toNat + n.toNat
    · rw [if_pos h, if_pos ⟨rfl, by omega, by omega⟩]
      have e9 : ((sp.toNat + (i - dp.toNat) : Nat) : Int) = sp + ((i : Int) - dp) := by omega
      show Int32.ofInt (I (r1, a1, b1) ((sp.toNat + (i - dp.toNat) : Nat) : Int)) = _
      rw [e9]
    · rw [if_neg h, if_neg (fun q => h ⟨by omega, by omega⟩)]
  rw [e1, hset'] at hP1
  exact kk p e R s m args below meth c A H1 locs1 ls cells slots QQ C hP1 hS1 hl hQ
theorem gz_cV0i {y : MethodName} {cc' : ByteArray} {nL' d' idx : Nat} {ret' : Option FieldType} {P' : Int → gz_M → Prop} {r ci n na nb : Nat} {a b : Int} {rest : List Value} {L' : List (Option Value)} (hd : decode cc pc = .ok (.invokevirtual idx, 3)) (hm : Cond.methodLink own idx y ∈ gz_ts) (hy : gz_YV y cc' nL' ret' 0 ci) (hs : gz_shp r = (10 + ci, n, na, nb)) (hA : gz_args [.ref (α (r, a, b))] nL' = L') (hbb : (Nat.ble (d' + 1) d && Nat.ble nL' 19 && Nat.blt r 40 && Nat.ble (rest.map fun v => v.category).sum 8 && Nat.ble (lg_sl [.ref (α (r, a, b))]).length nL') = true) (ho : gz_B a b na nb) (hV : gz_V l D α cA y.cls cc' ret' nL' d' (gz_Qi P') I L' [] 0) (kk : ∀ (x : Int) (I' : gz_M), P' x I' → gz_V l D α cA own cc ret nL d Q I' L (gz_i x :: rest) (pc + 3)) : gz_V l D α cA own cc ret nL d Q I L (.ref (α (r, a, b)) :: rest) pc := by
  subst hA
  rw [Bool.and_eq_true, Bool.and_eq_true, Bool.and_eq_true, Bool.and_eq_true] at hbb
  exact gz_cV (As := []) hd hm hy rfl hbb.1.1.1.1 hbb.1.1.1.2 hs hbb.1.1.2 ho (Nat.le_of_ble_eq_true hbb.1.2) (Nat.le_of_ble_eq_true hbb.2) hV (fun x I' h => by obtain ⟨z, rfl, hz⟩ := h; exact kk z I' hz)
theorem gz_cV0v {y : MethodName} {cc' : ByteArray} {nL' d' idx : Nat} {ret' : Option FieldType} {P' : gz_M → Prop} {r ci n na nb : Nat} {a b : Int} {rest : List Value} {L' : List (Option Value)} (hd : decode cc pc = .ok (.invokevirtual idx, 3)) (hm : Cond.methodLink own idx y ∈ gz_ts) (hy : gz_YV y cc' nL' ret' 0 ci) (hs : gz_shp r = (10 + ci, n, na, nb)) (hA : gz_args [.ref (α (r, a, b))] nL' = L') (hbb : (Nat.ble (d' + 1) d && Nat.ble nL' 19 && Nat.blt r 40 && Nat.ble (rest.map fun v => v.category).sum 8 && Nat.ble (lg_sl [.ref (α (r, a, b))]).length nL') = true) (ho : gz_B a b na nb) (hV : gz_V l D α cA y.cls cc' ret' nL' d' (gz_Qv P') I L' [] 0) (kk : ∀ I' : gz_M, P' I' → gz_V l D α cA own cc ret nL d Q I' L rest (pc + 3)) : gz_V l D α cA own cc ret nL d Q I L (.ref (α (r, a, b)) :: rest) pc := by
  subst hA
  rw [Bool.and_eq_true, Bool.and_eq_true, Bool.and_eq_true, Bool.and_eq_true] at hbb
  exact gz_cV (As := []) hd hm hy rfl hbb.1.1.1.1 hbb.1.1.1.2 hs hbb.1.1.2 ho (Nat.le_of_ble_eq_true hbb.1.2) (Nat.le_of_ble_eq_true hbb.2) hV (fun x I' h => by obtain ⟨rfl, hz⟩ := h; exact kk I' hz)
theorem gz_cV0r {y : MethodName} {cc' : ByteArray} {nL' d' idx : Nat} {ret' : Option FieldType} {P' : Value → gz_M → Prop} {r ci n na nb : Nat} {a b : Int} {rest : List Value} {L' : List (Option Value)} (hd : decode cc pc = .ok (.invokevirtual idx, 3)) (hm : Cond.methodLink own idx y ∈ gz_ts) (hy : gz_YV y cc' nL' ret' 0 ci) (hs : gz_shp r = (10 + ci, n, na, nb)) (hA : gz_args [.ref (α (r, a, b))] nL' = L') (hbb : (Nat.ble (d' + 1) d && Nat.ble nL' 19 && Nat.blt r 40 && Nat.ble (rest.map fun v => v.category).sum 8 && Nat.ble (lg_sl [.ref (α (r, a, b))]).length nL') = true) (ho : gz_B a b na nb) (hV : gz_V l D α cA y.cls cc' ret' nL' d' (gz_Qr P') I L' [] 0) (kk : ∀ (x : Value) (I' : gz_M), P' x I' → gz_V l D α cA own cc ret nL d Q I' L (x :: rest) (pc + 3)) : gz_V l D α cA own cc ret nL d Q I L (.ref (α (r, a, b)) :: rest) pc := by
  subst hA
  rw [Bool.and_eq_true, Bool.and_eq_true, Bool.and_eq_true, Bool.and_eq_true] at hbb
  exact gz_cV (As := []) hd hm hy rfl hbb.1.1.1.1 hbb.1.1.1.2 hs hbb.1.1.2 ho (Nat.le_of_ble_eq_true hbb.1.2) (Nat.le_of_ble_eq_true hbb.2) hV (fun x I' h => by obtain ⟨z, rfl, hz⟩ := h; exact kk z I' hz)
theorem gz_cV1i {y : MethodName} {cc' : ByteArray} {nL' d' idx : Nat} {ret' : Option FieldType} {P' : Int → gz_M → Prop} {r ci n na nb : Nat} {a b : Int} {v1 : Value} {rest : List Value} {L' : List (Option Value)} (hd : decode cc pc = .ok (.invokevirtual idx, 3)) (hm : Cond.methodLink own idx y ∈ gz_ts) (hy : gz_YV y cc' nL' ret' 1 ci) (hs : gz_shp r = (10 + ci, n, na, nb)) (hA : gz_args [.ref (α (r, a, b)), v1] nL' = L') (hbb : (Nat.ble (d' + 1) d && Nat.ble nL' 19 && Nat.blt r 40 && Nat.ble (rest.map fun v => v.category).sum 8 && Nat.ble (lg_sl [.ref (α (r, a, b)), v1]).length nL') = true) (ho : gz_B a b na nb) (hV : gz_V l D α cA y.cls cc' ret' nL' d' (gz_Qi P') I L' [] 0) (kk : ∀ (x : Int) (I' : gz_M), P' x I' → gz_V l D α cA own cc ret nL d Q I' L (gz_i x :: rest) (pc + 3)) : gz_V l D α cA own cc ret nL d Q I L (v1 :: .ref (α (r, a, b)) :: rest) pc := by
  subst hA
  rw [Bool.and_eq_true, Bool.and_eq_true, Bool.and_eq_true, Bool.and_eq_true] at hbb
  exact gz_cV (As := [v1]) hd hm hy rfl hbb.1.1.1.1 hbb.1.1.1.2 hs hbb.1.1.2 ho (Nat.le_of_ble_eq_true hbb.1.2) (Nat.le_of_ble_eq_true hbb.2) hV (fun x I' h => by obtain ⟨z, rfl, hz⟩ := h; exact kk z I' hz)
theorem gz_cV1v {y : MethodName} {cc' : ByteArray} {nL' d' idx : Nat} {ret' : Option FieldType} {P' : gz_M → Prop} {r ci n na nb : Nat} {a b : Int} {v1 : Value} {rest : List Value} {L' : List (Option Value)} (hd : decode cc pc = .ok (.invokevirtual idx, 3)) (hm : Cond.methodLink own idx y ∈ gz_ts) (hy : gz_YV y cc' nL' ret' 1 ci) (hs : gz_shp r = (10 + ci, n, na, nb)) (hA : gz_args [.ref (α (r, a, b)), v1] nL' = L') (hbb : (Nat.ble (d' + 1) d && Nat.ble nL' 19 && Nat.blt r 40 && Nat.ble (rest.map fun v => v.category).sum 8 && Nat.ble (lg_sl [.ref (α (r, a, b)), v1]).length nL') = true) (ho : gz_B a b na nb) (hV : gz_V l D α cA y.cls cc' ret' nL' d' (gz_Qv P') I L' [] 0) (kk : ∀ I' : gz_M, P' I' → gz_V l D α cA own cc ret nL d Q I' L rest (pc + 3)) : gz_V l D α cA own cc ret nL d Q I L (v1 :: .ref (α (r, a, b)) :: rest) pc := by
  subst hA
  rw [Bool.and_eq_true, Bool.and_eq_true, Bool.and_eq_true, Bool.and_eq_true] at hbb
  exact gz_cV (As := [v1]) hd hm hy rfl hbb.1.1.1.1 hbb.1.1.1.2 hs hbb.1.1.2 ho (Nat.le_of_ble_eq_true hbb.1.2) (Nat.le_of_ble_eq_true hbb.2) hV (fun x I' h => by obtain ⟨rfl, hz⟩ := h; exact kk I' hz)
theorem gz_cV1r {y : MethodName} {cc' : ByteArray} {nL' d' idx : Nat} {ret' : Option FieldType} {P' : Value → gz_M → Prop} {r ci n na nb : Nat} {a b : Int} {v1 : Value} {rest : List Value} {L' : List (Option Value)} (hd : decode cc pc = .ok (.invokevirtual idx, 3)) (hm : Cond.methodLink own idx y ∈ gz_ts) (hy : gz_YV y cc' nL' ret' 1 ci) (hs : gz_shp r = (10 + ci, n, na, nb)) (hA : gz_args [.ref (α (r, a, b)), v1] nL' = L') (hbb : (Nat.ble (d' + 1) d && Nat.ble nL' 19 && Nat.blt r 40 && Nat.ble (rest.map fun v => v.category).sum 8 && Nat.ble (lg_sl [.ref (α (r, a, b)), v1]).length nL') = true) (ho : gz_B a b na nb) (hV : gz_V l D α cA y.cls cc' ret' nL' d' (gz_Qr P') I L' [] 0) (kk : ∀ (x : Value) (I' : gz_M), P' x I' → gz_V l D α cA own cc ret nL d Q I' L (x :: rest) (pc + 3)) : gz_V l D α cA own cc ret nL d Q I L (v1 :: .ref (α (r, a, b)) :: rest) pc := by
  subst hA
  rw [Bool.and_eq_true, Bool.and_eq_true, Bool.and_eq_true, Bool.and_eq_true] at hbb
  exact gz_cV (As := [v1]) hd hm hy rfl hbb.1.1.1.1 hbb.1.1.1.2 hs hbb.1.1.2 ho (Nat.le_of_ble_eq_true hbb.1.2) (Nat.le_of_ble_eq_true hbb.2) hV (fun x I' h => by obtain ⟨z, rfl, hz⟩ := h; exact kk z I' hz)
theorem gz_cV2i {y : MethodName} {cc' : ByteArray} {nL' d' idx : Nat} {ret' : Option FieldType} {P' : Int → gz_M → Prop} {r ci n na nb : Nat} {a b : Int} {v1 v2 : Value} {rest : List Value} {L' : List (Option Value)} (hd : decode cc pc = .ok (.invokevirtual idx, 3)) (hm : Cond.methodLink own idx y ∈ gz_ts) (hy : gz_YV y cc' nL' ret' 2 ci) (hs : gz_shp r = (10 + ci, n, na, nb)) (hA : gz_args [.ref (α (r, a, b)), v1, v2] nL' = L') (hbb : (Nat.ble (d' + 1) d && Nat.ble nL' 19 && Nat.blt r 40 && Nat.ble (rest.map fun v => v.category).sum 8 && Nat.ble (lg_sl [.ref (α (r, a, b)), v1, v2]).length nL') = true) (ho : gz_B a b na nb) (hV : gz_V l D α cA y.cls cc' ret' nL' d' (gz_Qi P') I L' [] 0) (kk : ∀ (x : Int) (I' : gz_M), P' x I' → gz_V l D α cA own cc ret nL d Q I' L (gz_i x :: rest) (pc + 3)) : gz_V l D α cA own cc ret nL d Q I L (v2 :: v1 :: .ref (α (r, a, b)) :: rest) pc := by
  subst hA
  rw [Bool.and_eq_true, Bool.and_eq_true, Bool.and_eq_true, Bool.and_eq_true] at hbb
  exact gz_cV (As := [v1, v2]) hd hm hy rfl hbb.1.1.1.1 hbb.1.1.1.2 hs hbb.1.1.2 ho (Nat.le_of_ble_eq_true hbb.1.2) (Nat.le_of_ble_eq_true hbb.2) hV (fun x I' h => by obtain ⟨z, rfl, hz⟩ := h; exact kk z I' hz)
theorem gz_cV2v {y : MethodName} {cc' : ByteArray} {nL' d' idx : Nat} {ret' : Option FieldType} {P' : gz_M → Prop} {r ci n na nb : Nat} {a b : Int} {v1 v2 : Value} {rest : List Value} {L' : List (Option Value)} (hd : decode cc pc = .ok (.invokevirtual idx, 3)) (hm : Cond.methodLink own idx y ∈ gz_ts) (hy : gz_YV y cc' nL' ret' 2 ci) (hs : gz_shp r = (10 + ci, n, na, nb)) (hA : gz_args [.ref (α (r, a, b)), v1, v2] nL' = L') (hbb : (Nat.ble (d' + 1) d && Nat.ble nL' 19 && Nat.blt r 40 && Nat.ble (rest.map fun v => v.category).sum 8 && Nat.ble (lg_sl [.ref (α (r, a, b)), v1, v2]).length nL') = true) (ho : gz_B a b na nb) (hV : gz_V l D α cA y.cls cc' ret' nL' d' (gz_Qv P') I L' [] 0) (kk : ∀ I' : gz_M, P' I' → gz_V l D α cA own cc ret nL d Q I' L rest (pc + 3)) : gz_V l D α cA own cc ret nL d Q I L (v2 :: v1 :: .ref (α (r, a, b)) :: rest) pc := by
  subst hA
  rw [Bool.and_eq_true, Bool.and_eq_true, Bool.and_eq_true, Bool.and_eq_true] at hbb
  exact gz_cV (As := [v1, v2]) hd hm hy rfl hbb.1.1.1.1 hbb.1.1.1.2 hs hbb.1.1.2 ho (Nat.le_of_ble_eq_true hbb.1.2) (Nat.le_of_ble_eq_true hbb.2) hV (fun x I' h => by obtain ⟨rfl, hz⟩ := h; exact kk I' hz)
theorem gz_cV2r {y : MethodName} {cc' : ByteArray} {nL' d' idx : Nat} {ret' : Option FieldType} {P' : Value → gz_M → Prop} {r ci n na nb : Nat} {a b : Int} {v1 v2 : Value} {rest : List Value} {L' : List (Option Value)} (hd : decode cc pc = .ok (.invokevirtual idx, 3)) (hm : Cond.methodLink own idx y ∈ gz_ts) (hy : gz_YV y cc' nL' ret' 2 ci) (hs : gz_shp r = (10 + ci, n, na, nb)) (hA : gz_args [.ref (α (r, a, b)), v1, v2] nL' = L') (hbb : (Nat.ble (d' + 1) d && Nat.ble nL' 19 && Nat.blt r 40 && Nat.ble (rest.map fun v => v.category).sum 8 && Nat.ble (lg_sl [.ref (α (r, a, b)), v1, v2]).length nL') = true) (ho : gz_B a b na nb) (hV : gz_V l D α cA y.cls cc' ret' nL' d' (gz_Qr P') I L' [] 0) (kk : ∀ (x : Value) (I' : gz_M), P' x I' → gz_V l D α cA own cc ret nL d Q I' L (x :: rest) (pc + 3)) : gz_V l D α cA own cc ret nL d Q I L (v2 :: v1 :: .ref (α (r, a, b)) :: rest) pc := by
  subst hA
  rw [Bool.and_eq_true, Bool.and_eq_true, Bool.and_eq_true, Bool.and_eq_true] at hbb
  exact gz_cV (As := [v1, v2]) hd hm hy rfl hbb.1.1.1.1 hbb.1.1.1.2 hs hbb.1.1.2 ho (Nat.le_of_ble_eq_true hbb.1.2) (Nat.le_of_ble_eq_true hbb.2) hV (fun x I' h => by obtain ⟨z, rfl, hz⟩ := h; exact kk z I' hz)
theorem gz_cV3i {y : MethodName} {cc' : ByteArray} {nL' d' idx : Nat} {ret' : Option FieldType} {P' : Int → gz_M → Prop} {r ci n na nb : Nat} {a b : Int} {v1 v2 v3 : Value} {rest : List Value} {L' : List (Option Value)} (hd : decode cc pc = .ok (.invokevirtual idx, 3)) (hm : Cond.methodLink own idx y ∈ gz_ts) (hy : gz_YV y cc' nL' ret' 3 ci) (hs : gz_shp r = (10 + ci, n, na, nb)) (hA : gz_args [.ref (α (r, a, b)), v1, v2, v3] nL' = L') (hbb : (Nat.ble (d' + 1) d && Nat.ble nL' 19 && Nat.blt r 40 && Nat.ble (rest.map fun v => v.category).sum 8 && Nat.ble (lg_sl [.ref (α (r, a, b)), v1, v2, v3]).length nL') = true) (ho : gz_B a b na nb) (hV : gz_V l D α cA y.cls cc' ret' nL' d' (gz_Qi P') I L' [] 0) (kk : ∀ (x : Int) (I' : gz_M), P' x I' → gz_V l D α cA own cc ret nL d Q I' L (gz_i x :: rest) (pc + 3)) : gz_V l D α cA own cc ret nL d Q I L (v3 :: v2 :: v1 :: .ref (α (r, a, b)) :: rest) pc := by
  subst hA
  rw [Bool.and_eq_true, Bool.and_eq_true, Bool.and_eq_true, Bool.and_eq_true] at hbb
  exact gz_cV (As := [v1, v2, v3]) hd hm hy rfl hbb.1.1.1.1 hbb.1.1.1.2 hs hbb.1.1.2 ho (Nat.le_of_ble_eq_true hbb.1.2) (Nat.le_of_ble_eq_true hbb.2) hV (fun x I' h => by obtain ⟨z, rfl, hz⟩ := h; exact kk z I' hz)
theorem gz_cV3v {y : MethodName} {cc' : ByteArray} {nL' d' idx : Nat} {ret' : Option FieldType} {P' : gz_M → Prop} {r ci n na nb : Nat} {a b : Int} {v1 v2 v3 : Value} {rest : List Value} {L' : List (Option Value)} (hd : decode cc pc = .ok (.invokevirtual idx, 3)) (hm : Cond.methodLink own idx y ∈ gz_ts) (hy : gz_YV y cc' nL' ret' 3 ci) (hs : gz_shp r = (10 + ci, n, na, nb)) (hA : gz_args [.ref (α (r, a, b)), v1, v2, v3] nL' = L') (hbb : (Nat.ble (d' + 1) d && Nat.ble nL' 19 && Nat.blt r 40 && Nat.ble (rest.map fun v => v.category).sum 8 && Nat.ble (lg_sl [.ref (α (r, a, b)), v1, v2, v3]).length nL') = true) (ho : gz_B a b na nb) (hV : gz_V l D α cA y.cls cc' ret' nL' d' (gz_Qv P') I L' [] 0) (kk : ∀ I' : gz_M, P' I' → gz_V l D α cA own cc ret nL d Q I' L rest (pc + 3)) : gz_V l D α cA own cc ret nL d Q I L (v3 :: v2 :: v1 :: .ref (α (r, a, b)) :: rest) pc := by
  subst hA
  rw [Bool.and_eq_true, Bool.and_eq_true, Bool.and_eq_true, Bool.and_eq_true] at hbb
  exact gz_cV (As := [v1, v2, v3]) hd hm hy rfl hbb.1.1.1.1 hbb.1.1.1.2 hs hbb.1.1.2 ho (Nat.le_of_ble_eq_true hbb.1.2) (Nat.le_of_ble_eq_true hbb.2) hV (fun x I' h => by obtain ⟨rfl, hz⟩ := h; exact kk I' hz)
theorem gz_cV3r {y : MethodName} {cc' : ByteArray} {nL' d' idx : Nat} {ret' : Option FieldType} {P' : Value → gz_M → Prop} {r ci n na nb : Nat} {a b : Int} {v1 v2 v3 : Value} {rest : List Value} {L' : List (Option Value)} (hd : decode cc pc = .ok (.invokevirtual idx, 3)) (hm : Cond.methodLink own idx y ∈ gz_ts) (hy : gz_YV y cc' nL' ret' 3 ci) (hs : gz_shp r = (10 + ci, n, na, nb)) (hA : gz_args [.ref (α (r, a, b)), v1, v2, v3] nL' = L') (hbb : (Nat.ble (d' + 1) d && Nat.ble nL' 19 && Nat.blt r 40 && Nat.ble (rest.map fun v => v.category).sum 8 && Nat.ble (lg_sl [.ref (α (r, a, b)), v1, v2, v3]).length nL') = true) (ho : gz_B a b na nb) (hV : gz_V l D α cA y.cls cc' ret' nL' d' (gz_Qr P') I L' [] 0) (kk : ∀ (x : Value) (I' : gz_M), P' x I' → gz_V l D α cA own cc ret nL d Q I' L (x :: rest) (pc + 3)) : gz_V l D α cA own cc ret nL d Q I L (v3 :: v2 :: v1 :: .ref (α (r, a, b)) :: rest) pc := by
  subst hA
  rw [Bool.and_eq_true, Bool.and_eq_true, Bool.and_eq_true, Bool.and_eq_true] at hbb
  exact gz_cV (As := [v1, v2, v3]) hd hm hy rfl hbb.1.1.1.1 hbb.1.1.1.2 hs hbb.1.1.2 ho (Nat.le_of_ble_eq_true hbb.1.2) (Nat.le_of_ble_eq_true hbb.2) hV (fun x I' h => by obtain ⟨z, rfl, hz⟩ := h; exact kk z I' hz)
theorem gz_cV4i {y : MethodName} {cc' : ByteArray} {nL' d' idx : Nat} {ret' : Option FieldType} {P' : Int → gz_M → Prop} {r ci n na nb : Nat} {a b : Int} {v1 v2 v3 v4 : Value} {rest : List Value} {L' : List (Option Value)} (hd : decode cc pc = .ok (.invokevirtual idx, 3)) (hm : Cond.methodLink own idx y ∈ gz_ts) (hy : gz_YV y cc' nL' ret' 4 ci) (hs : gz_shp r = (10 + ci, n, na, nb)) (hA : gz_args [.ref (α (r, a, b)), v1, v2, v3, v4] nL' = L') (hbb : (Nat.ble (d' + 1) d && Nat.ble nL' 19 && Nat.blt r 40 && Nat.ble (rest.map fun v => v.category).sum 8 && Nat.ble (lg_sl [.ref (α (r, a, b)), v1, v2, v3, v4]).length nL') = true) (ho : gz_B a b na nb) (hV : gz_V l D α cA y.cls cc' ret' nL' d' (gz_Qi P') I L' [] 0) (kk : ∀ (x : Int) (I' : gz_M), P' x I' → gz_V l D α cA own cc ret nL d Q I' L (gz_i x :: rest) (pc + 3)) : gz_V l D α cA own cc ret nL d Q I L (v4 :: v3 :: v2 :: v1 :: .ref (α (r, a, b)) :: rest) pc := by
  subst hA
  rw [Bool.and_eq_true, Bool.and_eq_true, Bool.and_eq_true, Bool.and_eq_true] at hbb
  exact gz_cV (As := [v1, v2, v3, v4]) hd hm hy rfl hbb.1.1.1.1 hbb.1.1.1.2 hs hbb.1.1.2 ho (Nat.le_of_ble_eq_true hbb.1.2) (Nat.le_of_ble_eq_true hbb.2) hV (fun x I' h => by obtain ⟨z, rfl, hz⟩ := h; exact kk z I' hz)
theorem gz_cV4v {y : MethodName} {cc' : ByteArray} {nL' d' idx : Nat} {ret' : Option FieldType} {P' : gz_M → Prop} {r ci n na nb : Nat} {a b : Int} {v1 v2 v3 v4 : Value} {rest : List Value} {L' : List (Option Value)} (hd : decode cc pc = .ok (.invokevirtual idx, 3)) (hm : Cond.methodLink own idx y ∈ gz_ts) (hy : gz_YV y cc' nL' ret' 4 ci) (hs : gz_shp r = (10 + ci, n, na, nb)) (hA : gz_args [.ref (α (r, a, b)), v1, v2, v3, v4] nL' = L') (hbb : (Nat.ble (d' + 1) d && Nat.ble nL' 19 && Nat.blt r 40 && Nat.ble (rest.map fun v => v.category).sum 8 && Nat.ble (lg_sl [.ref (α (r, a, b)), v1, v2, v3, v4]).length nL') = true) (ho : gz_B a b na nb) (hV : gz_V l D α cA y.cls cc' ret' nL' d' (gz_Qv P') I L' [] 0) (kk : ∀ I' : gz_M, P' I' → gz_V l D α cA own cc ret nL d Q I' L rest (pc + 3)) : gz_V l D α cA own cc ret nL d Q I L (v4 :: v3 :: v2 :: v1 :: .ref (α (r, a, b)) :: rest) pc := by
  subst hA
  rw [Bool.and_eq_true, Bool.and_eq_true, Bool.and_eq_true, Bool.and_eq_true] at hbb
  exact gz_cV (As := [v1, v2, v3, v4]) hd hm hy rfl hbb.1.1.1.1 hbb.1.1.1.2 hs hbb.1.1.2 ho (Nat.le_of_ble_eq_true hbb.1.2) (Nat.le_of_ble_eq_true hbb.2) hV (fun x I' h => by obtain ⟨rfl, hz⟩ := h; exact kk I' hz)
theorem gz_cV4r {y : MethodName} {cc' : ByteArray} {nL' d' idx : Nat} {ret' : Option FieldType} {P' : Value → gz_M → Prop} {r ci n na nb : Nat} {a b : Int} {v1 v2 v3 v4 : Value} {rest : List Value} {L' : List (Option Value)} (hd : decode cc pc = .ok (.invokevirtual idx, 3)) (hm : Cond.methodLink own idx y ∈ gz_ts) (hy : gz_YV y cc' nL' ret' 4 ci) (hs : gz_shp r = (10 + ci, n, na, nb)) (hA : gz_args [.ref (α (r, a, b)), v1, v2, v3, v4] nL' = L') (hbb : (Nat.ble (d' + 1) d && Nat.ble nL' 19 && Nat.blt r 40 && Nat.ble (rest.map fun v => v.category).sum 8 && Nat.ble (lg_sl [.ref (α (r, a, b)), v1, v2, v3, v4]).length nL') = true) (ho : gz_B a b na nb) (hV : gz_V l D α cA y.cls cc' ret' nL' d' (gz_Qr P') I L' [] 0) (kk : ∀ (x : Value) (I' : gz_M), P' x I' → gz_V l D α cA own cc ret nL d Q I' L (x :: rest) (pc + 3)) : gz_V l D α cA own cc ret nL d Q I L (v4 :: v3 :: v2 :: v1 :: .ref (α (r, a, b)) :: rest) pc := by
  subst hA
  rw [Bool.and_eq_true, Bool.and_eq_true, Bool.and_eq_true, Bool.and_eq_true] at hbb
  exact gz_cV (As := [v1, v2, v3, v4]) hd hm hy rfl hbb.1.1.1.1 hbb.1.1.1.2 hs hbb.1.1.2 ho (Nat.le_of_ble_eq_true hbb.1.2) (Nat.le_of_ble_eq_true hbb.2) hV (fun x I' h => by obtain ⟨z, rfl, hz⟩ := h; exact kk z I' hz)
theorem gz_cV5i {y : MethodName} {cc' : ByteArray} {nL' d' idx : Nat} {ret' : Option FieldType} {P' : Int → gz_M → Prop} {r ci n na nb : Nat} {a b : Int} {v1 v2 v3 v4 v5 : Value} {rest : List Value} {L' : List (Option Value)} (hd : decode cc pc = .ok (.invokevirtual idx, 3)) (hm : Cond.methodLink own idx y ∈ gz_ts) (hy : gz_YV y cc' nL' ret' 5 ci) (hs : gz_shp r = (10 + ci, n, na, nb)) (hA : gz_args [.ref (α (r, a, b)), v1, v2, v3, v4, v5] nL' = L') (hbb : (Nat.ble (d' + 1) d && Nat.ble nL' 19 && Nat.blt r 40 && Nat.ble (rest.map fun v => v.category).sum 8 && Nat.ble (lg_sl [.ref (α (r, a, b)), v1, v2, v3, v4, v5]).length nL') = true) (ho : gz_B a b na nb) (hV : gz_V l D α cA y.cls cc' ret' nL' d' (gz_Qi P') I L' [] 0) (kk : ∀ (x : Int) (I' : gz_M), P' x I' → gz_V l D α cA own cc ret nL d Q I' L (gz_i x :: rest) (pc + 3)) : gz_V l D α cA own cc ret nL d Q I L (v5 :: v4 :: v3 :: v2 :: v1 :: .ref (α (r, a, b)) :: rest) pc := by
  subst hA
  rw [Bool.and_eq_true, Bool.and_eq_true, Bool.and_eq_true, Bool.and_eq_true] at hbb
  exact gz_cV (As := [v1, v2, v3, v4, v5]) hd hm hy rfl hbb.1.1.1.1 hbb.1.1.1.2 hs hbb.1.1.2 ho (Nat.le_of_ble_eq_true hbb.1.2) (Nat.le_of_ble_eq_true hbb.2) hV (fun x I' h => by obtain ⟨z, rfl, hz⟩ := h; exact kk z I' hz)
theorem gz_cV5v {y : MethodName} {cc' : ByteArray} {nL' d' idx : Nat} {ret' : Option FieldType} {P' : gz_M → Prop} {r ci n na nb : Nat} {a b : Int} {v1 v2 v3 v4 v5 : Value} {rest : List Value} {L' : List (Option Value)} (hd : decode cc pc = .ok (.invokevirtual idx, 3)) (hm : Cond.methodLink own idx y ∈ gz_ts) (hy : gz_YV y cc' nL' ret' 5 ci) (hs : gz_shp r = (10 + ci, n, na, nb)) (hA : gz_args [.ref (α (r, a, b)), v1, v2, v3, v4, v5] nL' = L') (hbb : (Nat.ble (d' + 1) d && Nat.ble nL' 19 && Nat.blt r 40 && Nat.ble (rest.map fun v => v.category).sum 8 && Nat.ble (lg_sl [.ref (α (r, a, b)), v1, v2, v3, v4, v5]).length nL') = true) (ho : gz_B a b na nb) (hV : gz_V l D α cA y.cls cc' ret' nL' d' (gz_Qv P') I L' [] 0) (kk : ∀ I' : gz_M, P' I' → gz_V l D α cA own cc ret nL d Q I' L rest (pc + 3)) : gz_V l D α cA own cc ret nL d Q I L (v5 :: v4 :: v3 :: v2 :: v1 :: .ref (α (r, a, b)) :: rest) pc := by
  subst hA
  rw [Bool.and_eq_true, Bool.and_eq_true, Bool.and_eq_true, Bool.and_eq_true] at hbb
  exact gz_cV (As := [v1, v2, v3, v4, v5]) hd hm hy rfl hbb.1.1.1.1 hbb.1.1.1.2 hs hbb.1.1.2 ho (Nat.le_of_ble_eq_true hbb.1.2) (Nat.le_of_ble_eq_true hbb.2) hV (fun x I' h => by obtain ⟨rfl, hz⟩ := h; exact kk I' hz)
theorem gz_cV5r {y : MethodName} {cc' : ByteArray} {nL' d' idx : Nat} {ret' : Option FieldType} {P' : Value → gz_M → Prop} {r ci n na nb : Nat} {a b : Int} {v1 v2 v3 v4 v5 : Value} {rest : List Value} {L' : List (Option Value)} (hd : decode cc pc = .ok (.invokevirtual idx, 3)) (hm : Cond.methodLink own idx y ∈ gz_ts) (hy : gz_YV y cc' nL' ret' 5 ci) (hs : gz_shp r = (10 + ci, n, na, nb)) (hA : gz_args [.ref (α (r, a, b)), v1, v2, v3, v4, v5] nL' = L') (hbb : (Nat.ble (d' + 1) d && Nat.ble nL' 19 && Nat.blt r 40 && Nat.ble (rest.map fun v => v.category).sum 8 && Nat.ble (lg_sl [.ref (α (r, a, b)), v1, v2, v3, v4, v5]).length nL') = true) (ho : gz_B a b na nb) (hV : gz_V l D α cA y.cls cc' ret' nL' d' (gz_Qr P') I L' [] 0) (kk : ∀ (x : Value) (I' : gz_M), P' x I' → gz_V l D α cA own cc ret nL d Q I' L (x :: rest) (pc + 3)) : gz_V l D α cA own cc ret nL d Q I L (v5 :: v4 :: v3 :: v2 :: v1 :: .ref (α (r, a, b)) :: rest) pc := by
  subst hA
  rw [Bool.and_eq_true, Bool.and_eq_true, Bool.and_eq_true, Bool.and_eq_true] at hbb
  exact gz_cV (As := [v1, v2, v3, v4, v5]) hd hm hy rfl hbb.1.1.1.1 hbb.1.1.1.2 hs hbb.1.1.2 ho (Nat.le_of_ble_eq_true hbb.1.2) (Nat.le_of_ble_eq_true hbb.2) hV (fun x I' h => by obtain ⟨z, rfl, hz⟩ := h; exact kk z I' hz)
theorem gz_cS2i {y : MethodName} {cc' : ByteArray} {nL' d' idx : Nat} {ret' : Option FieldType} {P' : Int → gz_M → Prop} {v1 v2 : Value} {rest : List Value} {L' : List (Option Value)} (hd : decode cc pc = .ok (.invokestatic idx, 3)) (hm : Cond.methodLink own idx y ∈ gz_ts) (hy : gz_YS y cc' nL' ret' 2) (hA : gz_args [v1, v2] nL' = L') (hbb : (Nat.ble (d' + 1) d && Nat.ble nL' 19 && Nat.ble (rest.map fun v => v.category).sum 8 && Nat.ble (lg_sl [v1, v2]).length nL') = true) (hV : gz_V l D α cA y.cls cc' ret' nL' d' (gz_Qi P') I L' [] 0) (kk : ∀ (x : Int) (I' : gz_M), P' x I' → gz_V l D α cA own cc ret nL d Q I' L (gz_i x :: rest) (pc + 3)) : gz_V l D α cA own cc ret nL d Q I L (v2 :: v1 :: rest) pc := by
  subst hA
  rw [Bool.and_eq_true, Bool.and_eq_true, Bool.and_eq_true] at hbb
  exact gz_cS (As := [v1, v2]) hd hm hy rfl hbb.1.1.1 hbb.1.1.2 (Nat.le_of_ble_eq_true hbb.1.2) (Nat.le_of_ble_eq_true hbb.2) hV (fun x I' h => by obtain ⟨z, rfl, hz⟩ := h; exact kk z I' hz)
theorem gz_cS3i {y : MethodName} {cc' : ByteArray} {nL' d' idx : Nat} {ret' : Option FieldType} {P' : Int → gz_M → Prop} {v1 v2 v3 : Value} {rest : List Value} {L' : List (Option Value)} (hd : decode cc pc = .ok (.invokestatic idx, 3)) (hm : Cond.methodLink own idx y ∈ gz_ts) (hy : gz_YS y cc' nL' ret' 3) (hA : gz_args [v1, v2, v3] nL' = L') (hbb : (Nat.ble (d' + 1) d && Nat.ble nL' 19 && Nat.ble (rest.map fun v => v.category).sum 8 && Nat.ble (lg_sl [v1, v2, v3]).length nL') = true) (hV : gz_V l D α cA y.cls cc' ret' nL' d' (gz_Qi P') I L' [] 0) (kk : ∀ (x : Int) (I' : gz_M), P' x I' → gz_V l D α cA own cc ret nL d Q I' L (gz_i x :: rest) (pc + 3)) : gz_V l D α cA own cc ret nL d Q I L (v3 :: v2 :: v1 :: rest) pc := by
  subst hA
  rw [Bool.and_eq_true, Bool.and_eq_true, Bool.and_eq_true] at hbb
  exact gz_cS (As := [v1, v2, v3]) hd hm hy rfl hbb.1.1.1 hbb.1.1.2 (Nat.le_of_ble_eq_true hbb.1.2) (Nat.le_of_ble_eq_true hbb.2) hV (fun x I' h => by obtain ⟨z, rfl, hz⟩ := h; exact kk z I' hz)
theorem gz_cN3i {cc' : ByteArray} {nL' d' : Nat} {ret' : Option FieldType} {P' : Int → gz_M → Prop} {v1 v2 v3 : Value} {rest : List Value} {L' : List (Option Value)} (hd : decode cc pc = .ok (.invokestatic 48, 3)) (ho : own = RX3) (hy : gz_YS yX4_digestOf cc' nL' ret' 3) (hA : gz_args [v1, v2, v3] nL' = L') (hbb : (Nat.ble (d' + 1) d && Nat.ble nL' 19 && Nat.ble (rest.map fun v => v.category).sum 8 && Nat.ble (lg_sl [v1, v2, v3]).length nL') = true) (hV : gz_V l D α cA yX4_digestOf.cls cc' ret' nL' d' (gz_Qi P') I L' [] 0) (kk : ∀ (x : Int) (I' : gz_M), P' x I' → gz_V l D α cA own cc ret nL d Q I' L (gz_i x :: rest) (pc + 3)) : gz_V l D α cA own cc ret nL d Q I L (v3 :: v2 :: v1 :: rest) pc := by
  subst hA
  rw [Bool.and_eq_true, Bool.and_eq_true, Bool.and_eq_true] at hbb
  exact gz_cN (As := [v1, v2, v3]) hd ho hy rfl hbb.1.1.1 hbb.1.1.2 (Nat.le_of_ble_eq_true hbb.1.2) (Nat.le_of_ble_eq_true hbb.2) hV (fun x I' h => by obtain ⟨z, rfl, hz⟩ := h; exact kk z I' hz)
end
