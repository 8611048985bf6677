def gn_Pre (D : va_G) (cA : Nat → ClassId) (h n : Nat) (E : Nat → va_E) (U : State) : Prop := U.heap.size = h + n ∧ va_P D gz_cl (gn_ws h n E) U.heap ∧ va_K D gz_cl (gz_tys cA) U ∧ gn_Z U ∧ h ≤ U.heap.size
def gn_Post (D : va_G) (h : Nat) (Q : Nat → (Nat → va_E) → Prop) : Array Value → State → Outcome → State → Prop := fun _ st oc t => (∃ (n' : Nat) (E' : Nat → va_E), oc = .returned none ∧ Q n' E' ∧ t.heap.size = h + n' ∧ va_P D gz_cl (gn_ws h n' E') t.heap) ∧ va_F (fun q => h ≤ q) st t
def gn_rm (d mc ms : Nat) : Room := { frames := d, cells := mc, slots := ms, locals := 38 * d }
/-- a constructor's end -/
def gn_end (cc : ByteArray) (Q : Nat → (Nat → va_E) → Prop) : Nat → (Nat → va_E) → List (Option Value) → List Value → Nat → Prop := fun n' E' _ st' pc' => Q n' E' ∧ st' = [] ∧ decode cc pc' = .ok (.return_, 1)
theorem gn_met {l : Launch} {D : va_G} {cA : Nat → ClassId} {h : Nat} {cc : ByteArray} {nL d mc ms n k : Nat} {E : Nat → va_E} {Q : Nat → (Nat → va_E) → Prop} {y : MethodName} (hy : plainName y.cls = true) (hnm : y.name = "<init>") (hlen : (lg_sl [.ref (h + k)]).length ≤ nL) (hV : gn_V l D cA h y.cls cc none nL d true (gn_end cc Q) mc ms n E (gz_args [.ref (h + k)] nL) [] 0) :
    Met l y (.code y cc nL none :: gz_ts) (gn_rm d mc ms) (va_Pc [.ref (h + k)] (gn_Pre D cA h n E)) (gn_Post D h Q) mc ms (fun q => h ≤ q) := by
  refine Met.ofW (cc := cc) (maxL := nL) (ret := none) hy rfl ?_
  intro p e s m args below meth c s₁ B hml hv
  obtain ⟨rfl, hsz, hP, hK, hZ, hh⟩ := hv
  have hts := atoms_spec (ws := .code y cc nL none :: gz_ts) B.pre
  have hown : s.vm.findClass y.cls = some m.cls := findClass_of_methodNamed B.named
  have hlocks := B.notSynchronized
  have hin : meth.name = "<init>" := (name_of_methodNamed B.named B.method).1.trans hnm
  rw [lg_entry_eq]
  refine hV p e _ s m _ below meth c s.heap [] _ 0 0 _ ⟨B.exec, B.bytes, B.returns, hml, hown, fun w hw => hts w (List.mem_cons_of_mem _ hw), hK, hZ, Nat.le_refl _, Nat.le_refl _, hh, fun _ => hin⟩ (by rw [Nat.zero_add]; exact Nat.le_refl _) (by rw [Nat.zero_add]; exact Nat.le_refl _) hsz hP va_S.rf (gz_args_L hlen) ?_
  rintro n' E' L' st' pc' H' locs' ls' ⟨hQ, rfl, hd⟩ hsz' hP' hS' hl'
  rw [Nat.zero_add, Nat.zero_add]
  exact W.vret B.exec B.bytes B.returns (fun t ht hW => ⟨⟨n', E', rfl, hQ, by rw [ht]; exact hsz', by rw [ht]; exact hP'⟩, hS'.F ht⟩) hS'.2.2 hd
theorem gn_blind {D : va_G} {cA : Nat → ClassId} {h n : Nat} {E : Nat → va_E} {vs : List Value} : FrameBlind (va_Pc vs (gn_Pre D cA h n E)) := fun a U g mk q => by
  obtain ⟨q0, q1, qP, qK, qZ, qh⟩ := q
  exact ⟨q0, q1, qP, va_K.moved (u := U) (U := U.calling g mk a) (Vm.Alike.refl U.vm) qK, gn_Z.same rfl qZ, qh⟩
/-- what the tables say of a constructor -/
def gn_Y (y : MethodName) (cc : ByteArray) (nL : Nat) : Prop := Cond.code y cc nL none ∈ gz_ts ∧ Cond.initialized y.cls ∈ gz_ts ∧ plainName y.cls = true ∧ (y.cls ≠ "java/lang/invoke/MethodHandle" ∧ y.cls ≠ "java/lang/invoke/VarHandle" ∧ (parseMethodDescriptor y.desc).map (fun d => d.parameters.length) = some 0) ∧ Cond.instanceMethod y ∈ gz_ts ∧ y.name = "<init>"
theorem gn_good {y : MethodName} {cc : ByteArray} {nL : Nat} (hy : gn_Y y cc nL) : GoodIn gz_ts (Cond.code y cc nL none :: gz_ts) := fun w h => by
  rcases List.mem_cons.mp h with rfl | h
  · exact gz_ts_self _ hy.1
  · exact gz_ts_self _ h
section
variable {l : Launch} {D : va_G} {cA : Nat → ClassId} {h : Nat} {own : String} {cc : ByteArray} {ret : Option FieldType} {nL d : Nat} {ini : Bool} {Z : Nat → (Nat → va_E) → List (Option Value) → List Value → Nat → Prop} {mc ms n : Nat} {E : Nat → va_E} {L : List (Option Value)} {st : List Value} {pc : Nat}
/-- behind a constructor -/
theorem gn_back {p : Program} {e : Env} {R : Room} {s : State} {m : MethodId} {args : Array Value} {below : List Frame} {meth : Method} {c : Code} {H : Heap} {locs : List Loc} {ls : Array Slot} {cells slots mc1 ms1 mc2 ms2 : Nat} {QQ : State → Prop} {Q' : Nat → (Nat → va_E) → Prop} {st0 rest : List Value} {a : Array Value}
    (C : gn_C D cA h own cc ret nL d ini p R s m args meth c) (hm : cells + (mc1 + mc2) ≤ R.cells) (hs : slots + (ms1 + ms2) ≤ R.slots) (hS : va_S (fun q => h ≤ q) s.heap H locs) (hl : gz_L ls nL L)
    (hQ : ∀ (n' : Nat) (E' : Nat → va_E) (L' : List (Option Value)) (st' : List Value) (pc' : Nat) (H' : Heap) (locs' : List Loc) (ls' : Array Slot), Z n' E' L' st' pc' → H'.size = h + n' → va_P D gz_cl (gn_ws h n' E') H' → va_S (fun q => h ≤ q) s.heap H' locs' → gz_L ls' nL L' → W p l e R s m args below meth c H' locs' (cells + (mc1 + mc2)) (slots + (ms1 + ms2)) QQ (F0 m pc' ls' st'))
    (hr : va_Run p l e R s m args below meth c H locs cells slots mc1 ms1 (F0 m pc ls st0) rest (gn_Post D h Q' a) (fun q => h ≤ q))
    (kk : ∀ (n' : Nat) (E' : Nat → va_E), Q' n' E' → gn_V l D cA h own cc ret nL d ini Z mc2 ms2 n' E' L rest (pc + 3)) : W p l e R s m args below meth c H locs cells slots QQ (F0 m pc ls st0) := by
  intro T hT X
  obtain ⟨v, st₀, t, T', L2, h0, X', hL2, e1, e2, ⟨⟨n', E', hv, hq, hsz', hP'⟩, hz, hk⟩, stp⟩ := hr T hT X
  cases hv
  rw [h0] at hz hk
  obtain ⟨t2, a1, b1⟩ := kk n' E' hq p e R s m args below meth c T'.heap (locs ++ L2) ls (cells + mc1) (slots + ms1) QQ C (by omega) (by omega) (by rw [e1]; exact hsz') (by rw [e1]; exact hP')
    ⟨Nat.le_trans hS.1 (by rw [e1]; exact hz), fun q h1 h2 => by rw [e1, hk q (Nat.lt_of_lt_of_le h1 hS.1) h2]; exact hS.2.1 q h1 h2, fun q hq => by
      rcases List.mem_append.mp hq with h | h
      · exact hS.2.2 q h
      · exact hL2 q h⟩ hl (fun n' E' L' st' pc' H' locs' ls' a1 a2 a3 a4 a5 => by rw [Nat.add_assoc, Nat.add_assoc]; exact hQ n' E' L' st' pc' H' locs' ls' a1 a2 a3 a4 a5) T' rfl X'
  exact ⟨t2, stp t2 a1, b1⟩
/-- a constructor of a nest mate -/
theorem gn_cN {y : MethodName} {cc' : ByteArray} {nL' d' idx mc1 ms1 mc2 ms2 k : Nat} {Q' : Nat → (Nat → va_E) → Prop} (hd : decode cc pc = .ok (.invokespecial idx, 3)) (hN : ∀ s : State, gn_Z s → va_Nw (.methodLinkNest own idx y RX4) s) (hy : gn_Y y cc' nL') (hmc : mc1 + mc2 = mc) (hms : ms1 + ms2 = ms) (hdd : Nat.ble (d' + 1) d = true) (hnl : (Nat.ble nL' 19 && Nat.ble 1 nL') = true) (hw : Nat.ble (st.map fun v => v.category).sum 8 = true)
    (hV : gn_V l D cA h y.cls cc' none nL' d' true (gn_end cc' Q') mc1 ms1 n E (gz_args [.ref (h + k)] nL') [] 0)
    (kk : ∀ (n' : Nat) (E' : Nat → va_E), Q' n' E' → gn_V l D cA h own cc ret nL d ini Z mc2 ms2 n' E' L st (pc + 3)) : gn_V l D cA h own cc ret nL d ini Z mc ms n E L (.ref (h + k) :: st) pc := by
  subst hmc
  subst hms
  intro p e R s m args below meth c H locs ls cells slots QQ C hm hs hsz hP hS hl hQ
  obtain ⟨hx, hb, hret, hml, hown, hts, hK, hZ, hfr, hlo, hh, hin⟩ := id C
  rw [Bool.and_eq_true] at hnl
  have h1 : d' + 1 ≤ d := Nat.le_of_ble_eq_true hdd
  have h2 : nL' ≤ 19 := Nat.le_of_ble_eq_true hnl.1
  refine gn_back C hm hs hS hl hQ (va_runIN (As := []) (rest := st) (b := h + k) (bytes := cc') (maxL := nL') (n := 0) (ws := .code y cc' nL' none :: gz_ts) ⟨hx, hb, hml, hown, hts⟩ (gn_met hy.2.2.1 hy.2.2.2.2.2 (Nat.le_of_ble_eq_true hnl.2) hV) ⟨va_cnB 0 hts (gn_good hy) rfl rfl rfl (hN s hZ) (hts _ hy.2.1) hy.2.2.2.1 ⟨by show d' + 1 ≤ R.frames; omega, by show 8 + (nL' + 11) + 38 * d' ≤ R.locals; omega⟩, hy.2.2.2.2.2, hts _ hy.2.2.2.2.1⟩ ⟨gn_blind, fun U hU hW => ⟨rfl, by rw [hU]; exact hsz, by rw [hU]; exact hP, va_K.moved hW.alike hK, hZ.warm hW, by rw [hU, hsz]; exact Nat.le_add_right _ _⟩⟩ rfl rfl hl.1 rfl (lv_room (Nat.le_of_ble_eq_true hw)) hd ⟨by omega, by omega⟩) kk
/-- ... of another class -/
theorem gn_cI {y : MethodName} {cc' : ByteArray} {nL' d' idx mc1 ms1 mc2 ms2 k : Nat} {Q' : Nat → (Nat → va_E) → Prop} (hd : decode cc pc = .ok (.invokespecial idx, 3)) (hN : Cond.methodLink own idx y ∈ gz_ts) (hy : gn_Y y cc' nL') (hmc : mc1 + mc2 = mc) (hms : ms1 + ms2 = ms) (hdd : Nat.ble (d' + 1) d = true) (hnl : (Nat.ble nL' 19 && Nat.ble 1 nL') = true) (hw : Nat.ble (st.map fun v => v.category).sum 8 = true)
    (hV : gn_V l D cA h y.cls cc' none nL' d' true (gn_end cc' Q') mc1 ms1 n E (gz_args [.ref (h + k)] nL') [] 0)
    (kk : ∀ (n' : Nat) (E' : Nat → va_E), Q' n' E' → gn_V l D cA h own cc ret nL d ini Z mc2 ms2 n' E' L st (pc + 3)) : gn_V l D cA h own cc ret nL d ini Z mc ms n E L (.ref (h + k) :: st) pc := by
  subst hmc
  subst hms
  intro p e R s m args below meth c H locs ls cells slots QQ C hm hs hsz hP hS hl hQ
  obtain ⟨hx, hb, hret, hml, hown, hts, hK, hZ, hfr, hlo, hh, hin⟩ := id C
  rw [Bool.and_eq_true] at hnl
  have h1 : d' + 1 ≤ d := Nat.le_of_ble_eq_true hdd
  have h2 : nL' ≤ 19 := Nat.le_of_ble_eq_true hnl.1
  refine gn_back C hm hs hS hl hQ (va_runI (As := []) (rest := st) (b := h + k) (bytes := cc') (maxL := nL') (n := 0) (ws := .code y cc' nL' none :: gz_ts) ⟨hx, hb, hml, hown, hts⟩ (gn_met hy.2.2.1 hy.2.2.2.2.2 (Nat.le_of_ble_eq_true hnl.2) hV) ⟨callB_of 0 hts (gn_good hy) rfl rfl rfl (hts _ hy.2.1) (hts _ hN) hy.2.2.2.1 ⟨by show d' + 1 ≤ R.frames; omega, by show 8 + (nL' + 11) + 38 * d' ≤ R.locals; omega⟩, hy.2.2.2.2.2, hts _ hy.2.2.2.2.1⟩ ⟨gn_blind, fun U hU hW => ⟨rfl, by rw [hU]; exact hsz, by rw [hU]; exact hP, va_K.moved hW.alike hK, hZ.warm hW, by rw [hU, hsz]; exact Nat.le_add_right _ _⟩⟩ rfl rfl hl.1 rfl (lv_room (Nat.le_of_ble_eq_true hw)) hd ⟨by omega, by omega⟩) kk
end
theorem gy_X0 : gn_Y yX0_init cX0_init 1 := ⟨wc_X0_init, wn_X0, rfl, ⟨by decide +kernel, by decide +kernel, by decide +kernel⟩, wi_X0_init, rfl⟩
theorem gy_X1 : gn_Y yX1_init cX1_init 1 := ⟨wc_X1_init, wn_X1, rfl, ⟨by decide +kernel, by decide +kernel, by decide +kernel⟩, wi_X1_init, rfl⟩
theorem gy_X2 : gn_Y yX2_init cX2_init 1 := ⟨wc_X2_init, wn_X2, rfl, ⟨by decide +kernel, by decide +kernel, by decide +kernel⟩, wi_X2_init, rfl⟩
theorem gy_X3 : gn_Y yX3_init cX3_init 1 := ⟨wc_X3_init, wn_X3, rfl, ⟨by decide +kernel, by decide +kernel, by decide +kernel⟩, wi_X3_init, rfl⟩
theorem gy_X4 : gn_Y yX4_init cX4_init 2 := ⟨wc_X4_init, wn_X4, rfl, ⟨by decide +kernel, by decide +kernel, by decide +kernel⟩, wi_X4_init, rfl⟩
theorem gy_X5 : gn_Y yX5_init cX5_init 2 := ⟨wc_X5_init, wn_X5, rfl, ⟨by decide +kernel, by decide +kernel, by decide +kernel⟩, wi_X5_init, rfl⟩
