section
variable {l : Launch} {D : va_G} {α : gz_P → Nat} {cA : Nat → ClassId} {own : String} {cc : ByteArray} {ret : Option FieldType} {nL d : Nat} {Q : Option Value → gz_M → Prop} {I : gz_M} {L : List (Option Value)} {st : List Value} {pc : Nat}
theorem gz_min {idx : Nat} {a b : Int} (hd : decode cc pc = .ok (.invokestatic idx, 3)) (hm : Cond.methodLink own idx yJ9_min_7cf53 ∈ gz_ts) (hbb : (Nat.ble 1 d && Nat.ble (st.map fun v => v.category).sum 8) = true) (ra : -2147483648 ≤ a ∧ a ≤ 2147483647) (rb : -2147483648 ≤ b ∧ b ≤ 2147483647) (kk : gz_V l D α cA own cc ret nL d Q I L (gz_i (if b < a then b else a) :: st) (pc + 3)) : gz_V l D α cA own cc ret nL d Q I L (gz_i b :: gz_i a :: st) pc := by
  intro p e R s m args below meth c A H locs ls cells slots QQ C hP hS hl hQ
  obtain ⟨hx, hb, hret, hml, hown, hts, hK, hN, hfr, hlo, hce, hsl, hDD⟩ := id C
  rw [Bool.and_eq_true] at hbb
  have h1 : 1 ≤ d := Nat.le_of_ble_eq_true hbb.1
  have h2 : (st.map fun v => v.category).sum ≤ 8 := Nat.le_of_ble_eq_true hbb.2
  have s4 : 1 ≤ R.frames := by omega
  have s5 : (st.map fun v => v.category).sum + 13 ≤ R.locals := by omega
  refine va_mmin hx hb (hml.trans hl.1.symm) hown (hts _ hm) (hts _ ws_J9_min_7cf53) (hts _ wn_J9) (hts _ wc_J9_min_7cf53) s4 s5 hce hsl hd ?_
  have e9 : (if Int32.ofInt b < Int32.ofInt a then Int32.ofInt b else Int32.ofInt a) = Int32.ofInt (if b < a then b else a) := by
    by_cases h : b < a
    · rw [if_pos h, if_pos ((gz_clt rb ra).mpr h)]
    · rw [if_neg h, if_neg (fun q => h ((gz_clt rb ra).mp q))]
  rw [e9]
  exact kk p e R s m args below meth c A H locs ls cells slots QQ C hP hS hl hQ
theorem gz_getI {idx ci k r n na nb : Nat} {a b : Int} (ki : Int) (hd : decode cc pc = .ok (.getfield idx, 3)) (fl : gz_FL own idx ci k) (hki : (k : Int) = ki) (hs : gz_shp r = (10 + ci, n, na, nb)) (hr : (Nat.blt r 40 && Nat.blt k n) = true) (hq : gz_rfo r k = none) (ho : gz_B a b na nb) (kk : gz_V l D α cA own cc ret nL d Q I L (gz_i (I (r, a, b) ki) :: st) (pc + 3)) : gz_V l D α cA own cc ret nL d Q I L (.ref (α (r, a, b)) :: st) pc := by
  subst hki
  exact gz_geti hd fl hs hr hq ho kk
theorem gz_putI {idx ci k r n na nb : Nat} {a b v : Int} {ty : FieldType} (ki : Int) (hd : decode cc pc = .ok (.putfield idx, 3)) (fl : gz_FW own idx ci k ty) (hki : (k : Int) = ki) (hs : gz_shp r = (10 + ci, n, na, nb)) (hr : (Nat.blt r 40 && Nat.blt k n) = true) (hq : gz_rfo r k = none) (ho : gz_B a b na nb) (hv : ty = .int ∨ ty = .boolean ∧ (v = 0 ∨ v = 1)) (kk : gz_V l D α cA own cc ret nL d Q (gz_up I (r, a, b) ki v) L st (pc + 3)) : gz_V l D α cA own cc ret nL d Q I L (gz_i v :: .ref (α (r, a, b)) :: st) pc := by
  subst hki
  exact gz_puti hd fl hs hr hq ho hv kk
end
section
variable {l : Launch} {D : va_G} {α : gz_P → Nat} {cA : Nat → ClassId} {own : String} {cc : ByteArray} {ret : Option FieldType} {nL d : Nat} {Q : Option Value → gz_M → Prop} {I : gz_M} {L : List (Option Value)} {st : List Value} {pc : Nat}
theorem gz_imulc {a b : Int} (hd : decode cc pc = .ok (.imul, 1)) (k : gz_V l D α cA own cc ret nL d Q I L (gz_i (b * a) :: st) (pc + 1)) : gz_V l D α cA own cc ret nL d Q I L (gz_i b :: gz_i a :: st) pc := gz_imul hd (by rw [Int.mul_comm a b]; exact k)
end
