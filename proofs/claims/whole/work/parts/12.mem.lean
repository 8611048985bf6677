/-! rows that read and write the memory; calls -/
theorem gz_cell_eq {α : gz_P → Nat} {cA : Nat → ClassId} {I I' : gz_M} {q : gz_P} (h : I' q = I q) : gz_cell α cA I' q = gz_cell α cA I q := by
  unfold gz_cell
  have h1 : gz_fv α I' q = gz_fv α I q := by
    funext k
    unfold gz_fv
    rw [h]
  have h2 : (fun i : Nat => some (α (gz_tgt I' q i))) = (fun i : Nat => some (α (gz_tgt I q i))) := by
    funext i
    unfold gz_tgt
    rw [h]
  rw [h, h1, h2]
theorem gz_up_ne {I : gz_M} {p q : gz_P} {j v : Int} (h : q ≠ p) : gz_up I p j v q = I q := by
  funext i
  unfold gz_up
  rw [if_neg (fun e => h e.1)]
theorem gz_up_eq {I : gz_M} {p : gz_P} {j v i : Int} : gz_up I p j v p i = if i = j then v else I p i := by
  unfold gz_up
  by_cases h : i = j
  · rw [if_pos ⟨rfl, h⟩, if_pos h]
  · rw [if_neg (fun e => h e.2), if_neg h]
theorem gz_fv_up {α : gz_P → Nat} {I : gz_M} {p : gz_P} {k j : Nat} {v : Int} (h : j ≠ k) : gz_fv α (gz_up I p k v) p j = gz_fv α I p j := by
  unfold gz_fv
  have e : gz_up I p k v p j = I p j := by rw [gz_up_eq, if_neg (by omega)]
  rw [e]
theorem gz_cell_i {α : gz_P → Nat} {cA : Nat → ClassId} {I : gz_M} {r kd n na nb : Nat} {a b : Int} (hs : gz_shp r = (kd, n, na, nb)) (hk : Nat.blt kd 2 = true) : gz_cell α cA I (r, a, b) = .inl (cA kd, n, .inl (fun i => Int32.ofInt (I (r, a, b) i))) := by
  unfold gz_cell
  show (if (gz_shp r).1 < 2 then _ else _) = _
  rw [hs, if_pos (show kd < 2 from Nat.le_of_ble_eq_true hk)]
theorem gz_cell_q {α : gz_P → Nat} {cA : Nat → ClassId} {I : gz_M} {r kd n na nb : Nat} {a b : Int} (hs : gz_shp r = (kd, n, na, nb)) (hk : (Nat.ble 2 kd && Nat.blt kd 10) = true) : gz_cell α cA I (r, a, b) = .inl (cA kd, n, .inr (.inr (.inr (.inr (fun i => some (α (gz_tgt I (r, a, b) i))))))) := by
  rw [Bool.and_eq_true] at hk
  unfold gz_cell
  show (if (gz_shp r).1 < 2 then _ else if (gz_shp r).1 < 10 then _ else _) = _
  rw [hs, if_neg (Nat.not_lt.mpr (Nat.le_of_ble_eq_true hk.1)), if_pos (show kd < 10 from Nat.le_of_ble_eq_true hk.2)]
theorem gz_cell_o {α : gz_P → Nat} {cA : Nat → ClassId} {I : gz_M} {r ci n na nb : Nat} {a b : Int} (hs : gz_shp r = (10 + ci, n, na, nb)) : gz_cell α cA I (r, a, b) = .inr (ci, (List.range n).map (gz_fv α I (r, a, b))) := by
  unfold gz_cell
  show (if (gz_shp r).1 < 2 then _ else if (gz_shp r).1 < 10 then _ else _) = _
  rw [hs, if_neg (by show ¬ 10 + ci < 2; omega), if_neg (by show ¬ 10 + ci < 10; omega)]
  show Sum.inr (10 + ci - 10, _) = _
  rw [Nat.add_sub_cancel_left]
/-- the field that an instruction's entry links: field k of the class number ci -/
def gz_FL (own : String) (idx ci k : Nat) : Prop := ∃ (C : String) (T : u_T) (N : Nat) (ty0 : Nat → FieldType), gz_cl[ci]? = some (C, T, N) ∧ k < N ∧ Cond.fieldLink own idx (T k).1 (T k).2.1 (T k).2.2.1 ∈ gz_ts ∧ (∀ w ∈ u_ws C T N, w ∈ gz_ts) ∧ (∀ k, k < N → parseFieldDescriptor (T k).2.2.1 = some (ty0 k)) ∧ (∀ a, a < N → ∀ b, b < N → a ≠ b → (T a).2.1 ≠ (T b).2.1)
/-- ... that is no final one, of type ty -/
def gz_FW (own : String) (idx ci k : Nat) (ty : FieldType) : Prop := ∃ (C : String) (T : u_T) (N : Nat) (ty0 : Nat → FieldType), gz_cl[ci]? = some (C, T, N) ∧ k < N ∧ Cond.fieldLink own idx (T k).1 (T k).2.1 (T k).2.2.1 ∈ gz_ts ∧ (∀ w ∈ u_ws C T N, w ∈ gz_ts) ∧ (∀ k, k < N → parseFieldDescriptor (T k).2.2.1 = some (ty0 k)) ∧ (∀ a, a < N → ∀ b, b < N → a ≠ b → (T a).2.1 ≠ (T b).2.1) ∧ (T k).2.2.2 = false ∧ ty0 k = ty
abbrev gz_B (a b : Int) (na nb : Nat) : Prop := (0 ≤ a ∧ a < na) ∧ 0 ≤ b ∧ b < nb
theorem gz_B1 : gz_B 0 0 1 1 := by decide
section
variable {l : Launch} {D : va_G} {α : gz_P → Nat} {cA : Nat → ClassId} {own : String} {cc : ByteArray} {ret : Option FieldType} {nL d : Nat} {Q : Option Value → gz_M → Prop} {I : gz_M} {L : List (Option Value)} {st : List Value} {pc : Nat}
theorem gz_geti {idx ci k r n na nb : Nat} {a b : Int} (hd : decode cc pc = .ok (.getfield idx, 3)) (fl : gz_FL own idx ci k) (hs : gz_shp r = (10 + ci, n, na, nb)) (hr : (Nat.blt r 40 && Nat.blt k n) = true) (hq : gz_rfo r k = none) (ho : gz_B a b na nb) (kk : gz_V l D α cA own cc ret nL d Q I L (gz_i (I (r, a, b) k) :: st) (pc + 3)) : gz_V l D α cA own cc ret nL d Q I L (.ref (α (r, a, b)) :: st) pc := by
  intro p e R s m args below meth c A H locs ls cells slots QQ C hP hS hl hQ
  obtain ⟨hx, hb, hret, hml, hown, hts, hK, hN, hfr, hlo, hce, hsl, hDD⟩ := id C
  rw [Bool.and_eq_true] at hr
  obtain ⟨q0, he, -⟩ := gz_ws_get (I := I) (gz_mem (Nat.le_of_ble_eq_true hr.1) (by rw [hs]) ho.1 ho.2) (hDD I)
  rw [gz_cell_o hs] at he
  obtain ⟨C1, T, N, ty0, h1, h2, h3, h4, h5, h6⟩ := fl
  refine va_get hx hb hts h4 hown hK hP q0 he h1 k h2 (hts _ h3) (fun _ h => h) (v := gz_i (I (r, a, b) k)) ?_ hd (kk p e R s m args below meth c A H locs ls cells slots QQ C hP hS hl hQ)
  rw [List.getElem?_map, List.getElem?_range (Nat.le_of_ble_eq_true hr.2)]
  show some (gz_fv α I (r, a, b) k) = _
  unfold gz_fv
  show some (match gz_rfo r k with | some g => _ | none => _) = _
  rw [hq]
theorem gz_getr {idx ci k r n na nb : Nat} {a b : Int} {g : Int → Int → gz_P} (hd : decode cc pc = .ok (.getfield idx, 3)) (fl : gz_FL own idx ci k) (hs : gz_shp r = (10 + ci, n, na, nb)) (hr : (Nat.blt r 40 && Nat.blt k n) = true) (hq : gz_rfo r k = some g) (ho : gz_B a b na nb) (kk : gz_V l D α cA own cc ret nL d Q I L (.ref (α (g a b)) :: st) (pc + 3)) : gz_V l D α cA own cc ret nL d Q I L (.ref (α (r, a, b)) :: st) pc := by
  intro p e R s m args below meth c A H locs ls cells slots QQ C hP hS hl hQ
  obtain ⟨hx, hb, hret, hml, hown, hts, hK, hN, hfr, hlo, hce, hsl, hDD⟩ := id C
  rw [Bool.and_eq_true] at hr
  obtain ⟨q0, he, -⟩ := gz_ws_get (I := I) (gz_mem (Nat.le_of_ble_eq_true hr.1) (by rw [hs]) ho.1 ho.2) (hDD I)
  rw [gz_cell_o hs] at he
  obtain ⟨C1, T, N, ty0, h1, h2, h3, h4, h5, h6⟩ := fl
  refine va_get hx hb hts h4 hown hK hP q0 he h1 k h2 (hts _ h3) (fun _ h => h) (v := .ref (α (g a b))) ?_ hd (kk p e R s m args below meth c A H locs ls cells slots QQ C hP hS hl hQ)
  rw [List.getElem?_map, List.getElem?_range (Nat.le_of_ble_eq_true hr.2)]
  show some (gz_fv α I (r, a, b) k) = _
  unfold gz_fv
  show some (match gz_rfo r k with | some g => _ | none => _) = _
  rw [hq]
theorem gz_puti {idx ci k r n na nb : Nat} {a b v : Int} {ty : FieldType} (hd : decode cc pc = .ok (.putfield idx, 3)) (fl : gz_FW own idx ci k ty) (hs : gz_shp r = (10 + ci, n, na, nb)) (hr : (Nat.blt r 40 && Nat.blt k n) = true) (hq : gz_rfo r k = none) (ho : gz_B a b na nb) (hv : ty = .int ∨ ty = .boolean ∧ (v = 0 ∨ v = 1)) (kk : gz_V l D α cA own cc ret nL d Q (gz_up I (r, a, b) k v) L st (pc + 3)) : gz_V l D α cA own cc ret nL d Q I L (gz_i v :: .ref (α (r, a, b)) :: st) pc := by
  intro p e R s m args below meth c A H locs ls cells slots QQ C hP hS hl hQ
  obtain ⟨hx, hb, hret, hml, hown, hts, hK, hN, hfr, hlo, hce, hsl, hDD⟩ := id C
  rw [Bool.and_eq_true] at hr
  obtain ⟨q0, he, hset⟩ := gz_ws_get (I := I) (gz_mem (Nat.le_of_ble_eq_true hr.1) (by rw [hs]) ho.1 ho.2) (hDD I)
  rw [gz_cell_o hs] at he
  obtain ⟨C1, T, N, ty0, h1, h2, h3, h4, h5, h6, h7, h8⟩ := fl
  have hset' := hset (gz_up I (r, a, b) k v) (fun q hq => gz_cell_eq (gz_up_ne hq))
  have e1 : ((List.range n).map (gz_fv α I (r, a, b))).set k (gz_i v) = (List.range n).map (gz_fv α (gz_up I (r, a, b) k v) (r, a, b)) := by
    apply List.ext_getElem?
    intro j
    by_cases hj : k = j
    · subst hj
      rw [List.getElem?_set_self (by rw [List.length_map, List.length_range]; exact Nat.le_of_ble_eq_true hr.2), List.getElem?_map, List.getElem?_range (Nat.le_of_ble_eq_true hr.2)]
      show _ = some (gz_fv α _ (r, a, b) k)
      unfold gz_fv
      show _ = some (match gz_rfo r k with | some g => _ | none => _)
      rw [hq, gz_up_eq, if_pos rfl]
    · rw [List.getElem?_set_ne hj, List.getElem?_map, List.getElem?_map]
      by_cases hjn : j < n
      · rw [List.getElem?_range hjn]
        show some (gz_fv α I (r, a, b) j) = some (gz_fv α _ (r, a, b) j)
        rw [gz_fv_up (fun e => hj e.symm)]
      · rw [List.getElem?_eq_none (by rw [List.length_range]; omega)]
        rfl
  rw [gz_cell_o hs, ← e1] at hset'
  refine va_put hx hb hts h4 ty0 h5 h6 hown hK hP (hDD I) hS q0 he h1 k h2 (hts _ h3) (fun _ h => h) h7 (ty := ty) (h8 ▸ h5 k h2) ?_ ?_ (by rw [List.length_map, List.length_range]; exact Nat.le_of_ble_eq_true hr.2) hd ?_
  · rcases hv with rfl | ⟨rfl, rfl | rfl⟩ <;> rfl
  · rcases hv with rfl | ⟨rfl, rfl | rfl⟩ <;> rfl
  · intro H1 locs1 hP1 hD1 hS1
    rw [hset'] at hP1
    exact kk p e R s m args below meth c A H1 locs1 ls cells slots QQ C hP1 hS1 hl hQ
/-- the cell of a row of ints or of booleans behind a store -/
theorem gz_stA {kd n na nb r : Nat} {a b j v : Int} {A : Nat → Prop} (hs : gz_shp r = (kd, n, na, nb)) (hk : Nat.blt kd 2 = true) (hr : Nat.blt r 40 = true) (ho : gz_B a b na nb) (hj : 0 ≤ j ∧ j < n) (hn : n ≤ 2147483647) (hD : va_D A (gz_ws α cA I)) : ∃ q0, (gz_ws α cA I)[q0]? = some (α (r, a, b), .inl (cA kd, n, .inl (fun i => Int32.ofInt (I (r, a, b) i)))) ∧ (gz_ws α cA I).set q0 (α (r, a, b), .inl (cA kd, n, .inl (upd (fun i => Int32.ofInt (I (r, a, b) i)) (Int32.ofInt j).toNatClampNeg (Int32.ofInt v)))) = gz_ws α cA (gz_up I (r, a, b) j v) := by
  obtain ⟨q0, he, hset⟩ := gz_ws_get (I := I) (gz_mem (Nat.le_of_ble_eq_true hr) (by rw [hs]) ho.1 ho.2) hD
  refine ⟨q0, by rw [gz_cell_i hs hk] at he; exact he, ?_⟩
  rw [← hset _ (fun q hq => gz_cell_eq (gz_up_ne hq)), gz_cell_i hs hk, gz_tn ⟨hj.1, by omega⟩]
  congr 6
  funext i
  rw [gz_up_eq]
  unfold upd
  by_cases h : i = j.toNat
  · rw [if_pos h, if_pos (by omega)]
  · rw [if_neg h, if_neg (by omega)]
theorem gz_iald {r n na nb : Nat} {a b j : Int} (hd : decode cc pc = .ok (.iaload, 1)) (hs : gz_shp r = (0, n, na, nb)) (hr : (Nat.blt r 40 && Nat.ble n 65536) = true) (ho : gz_B a b na nb) (hj : 0 ≤ j ∧ j < n) (kk : gz_V l D α cA own cc ret nL d Q I L (gz_i (I (r, a, b) j) :: st) (pc + 1)) : gz_V l D α cA own cc ret nL d Q I L (gz_i j :: .ref (α (r, a, b)) :: st) pc := by
  intro p e R s m args below meth c A H locs ls cells slots QQ C hP hS hl hQ
  obtain ⟨hx, hb, hret, hml, hown, hts, hK, hN, hfr, hlo, hce, hsl, hDD⟩ := id C
  rw [Bool.and_eq_true] at hr
  have hn : n ≤ 65536 := Nat.le_of_ble_eq_true hr.2
  obtain ⟨q0, he, -⟩ := gz_ws_get (I := I) (gz_mem (Nat.le_of_ble_eq_true hr.1) (by rw [hs]) ho.1 ho.2) (hDD I)
  rw [gz_cell_i hs rfl] at he
  refine va_iald hx hb hK hP q0 0 he rfl (gz_pin hj (by omega)) hd ?_
  rw [gz_tn ⟨hj.1, by omega⟩]
  show W p l e R s m args below meth c H locs cells slots QQ (F0 m (pc + 1) ls (Value.int (Int32.ofInt (I (r, a, b) j.toNat)) :: st))
  rw [Int.toNat_of_nonneg hj.1]
  exact kk p e R s m args below meth c A H locs ls cells slots QQ C hP hS hl hQ
theorem gz_zald {r n na nb : Nat} {a b j : Int} (hd : decode cc pc = .ok (.baload, 1)) (hs : gz_shp r = (1, n, na, nb)) (hr : (Nat.blt r 40 && Nat.ble n 65536) = true) (ho : gz_B a b na nb) (hj : 0 ≤ j ∧ j < n) (kk : gz_V l D α cA own cc ret nL d Q I L (gz_i (I (r, a, b) j) :: st) (pc + 1)) : gz_V l D α cA own cc ret nL d Q I L (gz_i j :: .ref (α (r, a, b)) :: st) pc := by
  intro p e R s m args below meth c A H locs ls cells slots QQ C hP hS hl hQ
  obtain ⟨hx, hb, hret, hml, hown, hts, hK, hN, hfr, hlo, hce, hsl, hDD⟩ := id C
  rw [Bool.and_eq_true] at hr
  have hn : n ≤ 65536 := Nat.le_of_ble_eq_true hr.2
  obtain ⟨q0, he, -⟩ := gz_ws_get (I := I) (gz_mem (Nat.le_of_ble_eq_true hr.1) (by rw [hs]) ho.1 ho.2) (hDD I)
  rw [gz_cell_i hs rfl] at he
  refine va_zald hx hb hK hP q0 1 he rfl (gz_pin hj (by omega)) hd ?_
  rw [gz_tn ⟨hj.1, by omega⟩]
  show W p l e R s m args below meth c H locs cells slots QQ (F0 m (pc + 1) ls (Value.int (Int32.ofInt (I (r, a, b) j.toNat)) :: st))
  rw [Int.toNat_of_nonneg hj.1]
  exact kk p e R s m args below meth c A H locs ls cells slots QQ C hP hS hl hQ
theorem gz_iast {r n na nb : Nat} {a b j v : Int} (hd : decode cc pc = .ok (.iastore, 1)) (hs : gz_shp r = (0, n, na, nb)) (hr : (Nat.blt r 40 && Nat.ble n 65536) = true) (ho : gz_B a b na nb) (hj : 0 ≤ j ∧ j < n) (kk : gz_V l D α cA own cc ret nL d Q (gz_up I (r, a, b) j v) L st (pc + 1)) : gz_V l D α cA own cc ret nL d Q I L (gz_i v :: gz_i j :: .ref (α (r, a, b)) :: st) pc := by
  intro p e R s m args below meth c A H locs ls cells slots QQ C hP hS hl hQ
  obtain ⟨hx, hb, hret, hml, hown, hts, hK, hN, hfr, hlo, hce, hsl, hDD⟩ := id C
  rw [Bool.and_eq_true] at hr
  have hn : n ≤ 65536 := Nat.le_of_ble_eq_true hr.2
  obtain ⟨q0, he, hset⟩ := gz_stA (v := v) hs rfl hr.1 ho hj (by omega) (hDD I)
  refine va_iast hx hb hK hP (hDD I) hS q0 0 he rfl (gz_pin hj (by omega)) hd ?_
  intro H1 locs1 hP1 hD1 hS1
  rw [hset] at hP1
  exact kk p e R s m args below meth c A H1 locs1 ls cells slots QQ C hP1 hS1 hl hQ
theorem gz_zast {r n na nb : Nat} {a b j v : Int} (hd : decode cc pc = .ok (.bastore, 1)) (hs : gz_shp r = (1, n, na, nb)) (hr : (Nat.blt r 40 && Nat.ble n 65536) = true) (ho : gz_B a b na nb) (hj : 0 ≤ j ∧ j < n) (hv : v = 0 ∨ v = 1) (kk : gz_V l D α cA own cc ret nL d Q (gz_up I (r, a, b) j v) L st (pc + 1)) : gz_V l D α cA own cc ret nL d Q I L (gz_i v :: gz_i j :: .ref (α (r, a, b)) :: st) pc := by
  intro p e R s m args below meth c A H locs ls cells slots QQ C hP hS hl hQ
  obtain ⟨hx, hb, hret, hml, hown, hts, hK, hN, hfr, hlo, hce, hsl, hDD⟩ := id C
  rw [Bool.and_eq_true] at hr
  have hn : n ≤ 65536 := Nat.le_of_ble_eq_true hr.2
  obtain ⟨q0, he, hset⟩ := gz_stA (v := v) hs rfl hr.1 ho hj (by omega) (hDD I)
  refine va_zast hx hb hK hP (hDD I) hS q0 1 he rfl (gz_pin hj (by omega)) hd ?_
  intro H1 locs1 hP1 hD1 hS1
  have hnar : vp_nar .boolean (Int32.ofInt v) = Int32.ofInt v := by rcases hv with rfl | rfl <;> rfl
  rw [hnar, hset] at hP1
  exact kk p e R s m args below meth c A H1 locs1 ls cells slots QQ C hP1 hS1 hl hQ
/-- a place of a row of references -/
theorem gz_aald {r kd n na nb : Nat} {a b j : Int} (hd : decode cc pc = .ok (.aaload, 1)) (hs : gz_shp r = (kd, n, na, nb)) (hk : (Nat.ble 2 kd && Nat.blt kd 6) = true) (hr : (Nat.blt r 40 && Nat.ble n 65536) = true) (ho : gz_B a b na nb) (hj : 0 ≤ j ∧ j < n) (kk : gz_V l D α cA own cc ret nL d Q I L (.ref (α (gz_tgt I (r, a, b) j)) :: st) (pc + 1)) : gz_V l D α cA own cc ret nL d Q I L (gz_i j :: .ref (α (r, a, b)) :: st) pc := by
  intro p e R s m args below meth c A H locs ls cells slots QQ C hP hS hl hQ
  obtain ⟨hx, hb, hret, hml, hown, hts, hK, hN, hfr, hlo, hce, hsl, hDD⟩ := id C
  rw [Bool.and_eq_true] at hr hk
  have hk1 : 2 ≤ kd := Nat.le_of_ble_eq_true hk.1
  have hk2 : kd < 6 := Nat.le_of_ble_eq_true hk.2
  have hn : n ≤ 65536 := Nat.le_of_ble_eq_true hr.2
  obtain ⟨q0, he, -⟩ := gz_ws_get (I := I) (gz_mem (Nat.le_of_ble_eq_true hr.1) (by rw [hs]) ho.1 ho.2) (hDD I)
  rw [gz_cell_q hs (by rw [Bool.and_eq_true]; exact ⟨hk.1, Nat.ble_eq_true_of_le (by omega)⟩)] at he
  have hin := gz_pin hj (by omega : n ≤ 2147483647)
  have hlt : (Int32.ofInt j).toNatClampNeg < n := Nat.not_le.mp fun q => hin (Or.inr q)
  have hkk : W p l e R s m args below meth c H locs cells slots QQ (F0 m (pc + 1) ls (va_rf (some (α (gz_tgt I (r, a, b) (Int32.ofInt j).toNatClampNeg))) :: st)) := by
    rw [gz_tn ⟨hj.1, by omega⟩, Int.toNat_of_nonneg hj.1]
    exact kk p e R s m args below meth c A H locs ls cells slots QQ C hP hS hl hQ
  obtain ⟨ty, ht, hty⟩ : ∃ ty, (gz_tys cA)[kd]? = some (cA kd, ty) ∧ ty.isReference = true := by
    match kd, hk1, hk2 with
    | 2, _, _ => exact ⟨_, rfl, rfl⟩
    | 3, _, _ => exact ⟨_, rfl, rfl⟩
    | 4, _, _ => exact ⟨_, rfl, rfl⟩
    | 5, _, _ => exact ⟨_, rfl, rfl⟩
  exact W.aald (v := va_rf (some (α (gz_tgt I (r, a, b) (Int32.ofInt j).toNatClampNeg)))) (ty := ty) hx hb (hP q0 _ he) ((hK.2 kd _ ht).1 n (fun j => va_rf (some (α (gz_tgt I (r, a, b) j))))) hty (fun q => by cases q) (by show ¬ (Int32.ofInt j < 0 ∨ (arrV _ _ _).slots.size ≤ _); rw [arrV_size]; exact hin) (by show (arrV _ _ _).slots[_]? = _; rw [arrV_read _ _ hlt]) rfl rfl hd hkk
/-- states[j], copies[j], held[j], lists[j] -/
theorem gz_ald1 {j : Int} (hd : decode cc pc = .ok (.aaload, 1)) (hj : 0 ≤ j ∧ j < 4) (kk : gz_V l D α cA own cc ret nL d Q I L (.ref (α (7, j, 0)) :: st) (pc + 1)) : gz_V l D α cA own cc ret nL d Q I L (gz_i j :: .ref (α (1, 0, 0)) :: st) pc := gz_aald hd rfl rfl rfl gz_B1 hj kk
theorem gz_ald2 {j : Int} (hd : decode cc pc = .ok (.aaload, 1)) (hj : 0 ≤ j ∧ j < 4) (kk : gz_V l D α cA own cc ret nL d Q I L (.ref (α (10, j, 0)) :: st) (pc + 1)) : gz_V l D α cA own cc ret nL d Q I L (gz_i j :: .ref (α (2, 0, 0)) :: st) pc := gz_aald hd rfl rfl rfl gz_B1 hj kk
theorem gz_ald4 {j : Int} (hd : decode cc pc = .ok (.aaload, 1)) (hj : 0 ≤ j ∧ j < 12) (kk : gz_V l D α cA own cc ret nL d Q I L (.ref (α (16, I (4, 0, 0) j, 0)) :: st) (pc + 1)) : gz_V l D α cA own cc ret nL d Q I L (gz_i j :: .ref (α (4, 0, 0)) :: st) pc := gz_aald hd rfl rfl rfl gz_B1 hj kk
theorem gz_ald17 {a j : Int} (hd : decode cc pc = .ok (.aaload, 1)) (ho : gz_B a 0 12 1) (hj : 0 ≤ j ∧ j < 4) (kk : gz_V l D α cA own cc ret nL d Q I L (.ref (α (18, a, j)) :: st) (pc + 1)) : gz_V l D α cA own cc ret nL d Q I L (gz_i j :: .ref (α (17, a, 0)) :: st) pc := gz_aald hd rfl rfl rfl ho hj kk
/-- held[j] = a mark -/
theorem gz_ast4 {j k : Int} (hd : decode cc pc = .ok (.aastore, 1)) (hj : 0 ≤ j ∧ j < 12) (hk : 0 ≤ k ∧ k < 12) (kk : gz_V l D α cA own cc ret nL d Q (gz_up I (4, 0, 0) j k) L st (pc + 1)) : gz_V l D α cA own cc ret nL d Q I L (.ref (α (16, k, 0)) :: gz_i j :: .ref (α (4, 0, 0)) :: st) pc := by
  intro p e R s m args below meth c A H locs ls cells slots QQ C hP hS hl hQ
  obtain ⟨hx, hb, hret, hml, hown, hts, hK, hN, hfr, hlo, hce, hsl, hDD⟩ := id C
  obtain ⟨q0, he, hset⟩ := gz_ws_get (I := I) (gz_mem (r := 4) (a := 0) (b := 0) (na := 1) (nb := 1) (by decide) rfl (by decide) (by decide)) (hDD I)
  obtain ⟨q1, he1, -⟩ := gz_ws_get (I := I) (gz_mem (r := 16) (a := k) (b := 0) (na := 12) (nb := 1) (by decide) rfl hk (by decide)) (hDD I)
  rw [gz_cell_q (r := 4) (kd := 4) (n := 12) rfl rfl] at he
  rw [gz_cell_o (r := 16) (ci := 0) (n := 9) rfl] at he1
  refine va_astq hx hb hK hP (hDD I) hS q0 4 q1 0 (r := (RX0, TX0, 9)) he rfl he1 rfl (gz_pin hj (by decide)) hd ?_
  intro H1 locs1 hP1 hD1 hS1
  have hset' := hset (gz_up I (4, 0, 0) j k) (fun q hq => gz_cell_eq (gz_up_ne hq))
  rw [gz_cell_q (r := 4) (kd := 4) (n := 12) rfl rfl] at hset'
  have e1 : va_up (fun i : Nat => some (α (gz_tgt I (4, 0, 0) i))) (Int32.ofInt j).toNatClampNeg (some (α (16, k, 0))) = (fun i : Nat => some (α (gz_tgt (gz_up I (4, 0, 0) j k) (4, 0, 0) i))) := by
    rw [gz_tn ⟨hj.1, by omega⟩]
    funext i
    unfold va_up
    show _ = some (α (16, gz_up I (4, 0, 0) j k (4, 0, 0) i, 0))
    rw [gz_up_eq]
    by_cases h : i = j.toNat
    · rw [if_pos h, if_pos (by omega)]
    · rw [if_neg h, if_neg (by omega)]
      rfl
  rw [e1, hset'] at hP1
  exact kk p e R s m args below meth c A H1 locs1 ls cells slots QQ C hP1 hS1 hl hQ
end
