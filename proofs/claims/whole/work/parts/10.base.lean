/-! THE PURE MEMORY: a cell is a triple (region, a, b); what int fields, int and boolean arrays hold is a function of cell and place; references are fixed by the shape, but the row 'held', whose place i names the mark object (16, I (4,0,0) i, 0). -/
abbrev gz_P : Type := Nat × Int × Int
abbrev gz_M : Type := gz_P → Int → Int
abbrev gz_i (a : Int) : Value := .int (Int32.ofInt a)
def gz_up (I : gz_M) (p : gz_P) (j v : Int) : gz_M := fun q i => if q = p ∧ i = j then v else I q i
/-- kind (0 int[], 1 boolean[], 2 State[], 3 Shelf[], 4 Mark[], 5 int[][], 10 + a class's number), length or fields, how many a, how many b -/
def gz_shp (r : Nat) : Nat × Nat × Nat × Nat := match r with
  | 0 => (14, 9, 1, 1)
  | 1 => (2, 4, 1, 1)
  | 2 => (3, 4, 1, 1)
  | 3 => (13, 8, 1, 1)
  | 4 => (4, 12, 1, 1)
  | 5 => (0, 1200, 1, 1)
  | 6 => (1, 120, 1, 1)
  | 7 => (12, 3, 4, 1)
  | 8 => (0, 300, 4, 1)
  | 9 => (0, 75, 4, 1)
  | 10 => (11, 2, 5, 1)
  | 11 => (1, 120, 5, 1)
  | 12 => (0, 3840, 5, 1)
  | 13 => (0, 120, 1, 1)
  | 14 => (0, 120, 1, 1)
  | 15 => (0, 120, 1, 1)
  | 16 => (10, 9, 12, 1)
  | 17 => (5, 4, 12, 1)
  | 18 => (0, 75, 12, 4)
  | 19 => (0, 4, 12, 1)
  | 20 => (15, 21, 1, 1)
  | 21 => (0, 4, 1, 1)
  | 22 => (0, 1200, 1, 1)
  | 23 => (0, 1200, 1, 1)
  | 24 => (0, 120, 1, 1)
  | 25 => (0, 120, 1, 1)
  | 26 => (1, 120, 1, 1)
  | 27 => (0, 3840, 1, 1)
  | 28 => (1, 480, 1, 1)
  | 29 => (0, 15360, 1, 1)
  | 30 => (0, 12, 1, 1)
  | 31 => (1, 12, 1, 1)
  | 32 => (0, 12, 1, 1)
  | 33 => (0, 12, 1, 1)
  | 34 => (0, 48, 1, 1)
  | 35 => (0, 3840, 1, 1)
  | 36 => (0, 12, 1, 1)
  | 37 => (0, 12, 1, 1)
  | 38 => (0, 12, 1, 1)
  | 39 => (1, 120, 1, 1)
  | _ => (0, 0, 0, 0)
/-- fields that are references: of which cell, by the object's a and b -/
def gz_rfo (r k : Nat) : Option (Int → Int → gz_P) := match r, k with
  | 0, 0 => some (fun _ _ => (1, 0, 0))
  | 0, 1 => some (fun _ _ => (2, 0, 0))
  | 0, 2 => some (fun _ _ => (3, 0, 0))
  | 0, 3 => some (fun _ _ => (4, 0, 0))
  | 0, 4 => some (fun _ _ => (5, 0, 0))
  | 0, 5 => some (fun _ _ => (6, 0, 0))
  | 3, 0 => some (fun _ _ => (10, 4, 0))
  | 3, 1 => some (fun _ _ => (13, 0, 0))
  | 3, 2 => some (fun _ _ => (14, 0, 0))
  | 3, 3 => some (fun _ _ => (15, 0, 0))
  | 7, 0 => some (fun a _ => (8, a, 0))
  | 7, 1 => some (fun a _ => (9, a, 0))
  | 10, 0 => some (fun a _ => (11, a, 0))
  | 10, 1 => some (fun a _ => (12, a, 0))
  | 16, 0 => some (fun a _ => (17, a, 0))
  | 16, 1 => some (fun a _ => (19, a, 0))
  | 20, 1 => some (fun _ _ => (21, 0, 0))
  | 20, 2 => some (fun _ _ => (22, 0, 0))
  | 20, 3 => some (fun _ _ => (23, 0, 0))
  | 20, 4 => some (fun _ _ => (24, 0, 0))
  | 20, 5 => some (fun _ _ => (25, 0, 0))
  | 20, 6 => some (fun _ _ => (26, 0, 0))
  | 20, 7 => some (fun _ _ => (27, 0, 0))
  | 20, 8 => some (fun _ _ => (28, 0, 0))
  | 20, 9 => some (fun _ _ => (29, 0, 0))
  | 20, 11 => some (fun _ _ => (30, 0, 0))
  | 20, 12 => some (fun _ _ => (31, 0, 0))
  | 20, 13 => some (fun _ _ => (32, 0, 0))
  | 20, 14 => some (fun _ _ => (33, 0, 0))
  | 20, 15 => some (fun _ _ => (34, 0, 0))
  | 20, 16 => some (fun _ _ => (35, 0, 0))
  | 20, 17 => some (fun _ _ => (36, 0, 0))
  | 20, 18 => some (fun _ _ => (37, 0, 0))
  | 20, 19 => some (fun _ _ => (38, 0, 0))
  | 20, 20 => some (fun _ _ => (39, 0, 0))
  | _, _ => none
/-- what a row of references names at place i -/
def gz_tgt (I : gz_M) (p : gz_P) (i : Int) : gz_P := match p.1 with
  | 1 => (7, i, 0)
  | 2 => (10, i, 0)
  | 4 => (16, I p i, 0)
  | _ => (18, p.2.1, i)
def gz_fv (α : gz_P → Nat) (I : gz_M) (p : gz_P) (k : Nat) : Value := match gz_rfo p.1 k with
  | some g => .ref (α (g p.2.1 p.2.2))
  | none => gz_i (I p k)
def gz_cell (α : gz_P → Nat) (cA : Nat → ClassId) (I : gz_M) (p : gz_P) : va_E :=
  if (gz_shp p.1).1 < 2 then .inl (cA (gz_shp p.1).1, (gz_shp p.1).2.1, .inl (fun i => Int32.ofInt (I p i)))
  else if (gz_shp p.1).1 < 10 then .inl (cA (gz_shp p.1).1, (gz_shp p.1).2.1, .inr (.inr (.inr (.inr (fun i => some (α (gz_tgt I p i)))))))
  else .inr ((gz_shp p.1).1 - 10, (List.range (gz_shp p.1).2.1).map (gz_fv α I p))
def gz_ptrs : List gz_P := (List.range 40).flatMap fun r => (List.range (gz_shp r).2.2.1).flatMap fun (a : Nat) => (List.range (gz_shp r).2.2.2).map fun (b : Nat) => ((r, Int.ofNat a, Int.ofNat b) : gz_P)
def gz_ws (α : gz_P → Nat) (cA : Nat → ClassId) (I : gz_M) : va_W := gz_ptrs.map fun p => (α p, gz_cell α cA I p)
abbrev gz_cl : List vw_C := [(RX0, TX0, 9), (RX1, TX1, 2), (RX2, TX2, 3), (RX3, TX3, 8), (RX4, TX4, 9), (RX5, TX5, 21)]
abbrev gz_tys (cA : Nat → ClassId) : List (ClassId × FieldType) := [(cA 0, .int), (cA 1, .boolean), (cA 2, .object RX2), (cA 3, .object RX1), (cA 4, .object RX0), (cA 5, .array .int)]
theorem gz_mem {r : Nat} {a b : Int} {na nb : Nat} (hr : r < 40) (h : (gz_shp r).2.2 = (na, nb)) (ha : 0 ≤ a ∧ a < na) (hb : 0 ≤ b ∧ b < nb) : ((r, a, b) : gz_P) ∈ gz_ptrs := by
  have h1 : (gz_shp r).2.2.1 = na := by rw [h]
  have h2 : (gz_shp r).2.2.2 = nb := by rw [h]
  have hA : a.toNat < (gz_shp r).2.2.1 := by rw [h1]; omega
  have hB : b.toNat < (gz_shp r).2.2.2 := by rw [h2]; omega
  unfold gz_ptrs
  refine List.mem_flatMap.mpr ⟨r, List.mem_range.mpr hr, List.mem_flatMap.mpr ⟨a.toNat, List.mem_range.mpr hA, List.mem_map.mpr ⟨b.toNat, List.mem_range.mpr hB, ?_⟩⟩⟩
  rw [Int.ofNat_eq_natCast, Int.ofNat_eq_natCast, Int.toNat_of_nonneg ha.1, Int.toNat_of_nonneg hb.1]
theorem gz_ws_get {α : gz_P → Nat} {cA : Nat → ClassId} {I : gz_M} {A : Nat → Prop} {p : gz_P} (hp : p ∈ gz_ptrs) (hD : va_D A (gz_ws α cA I)) : ∃ k : Nat, (gz_ws α cA I)[k]? = some (α p, gz_cell α cA I p) ∧ ∀ I' : gz_M, (∀ q : gz_P, q ≠ p → gz_cell α cA I' q = gz_cell α cA I q) → (gz_ws α cA I).set k (α p, gz_cell α cA I' p) = gz_ws α cA I' := by
  obtain ⟨k, hk⟩ := List.getElem?_of_mem hp
  have hk2 : (gz_ws α cA I)[k]? = some (α p, gz_cell α cA I p) := by unfold gz_ws; rw [List.getElem?_map, hk]; rfl
  refine ⟨k, hk2, fun I' h => ?_⟩
  apply List.ext_getElem?
  intro j
  by_cases hj : k = j
  · subst hj
    have hlt : k < (gz_ws α cA I).length := (List.getElem?_eq_some_iff.mp hk2).1
    rw [List.getElem?_set_self hlt]
    unfold gz_ws
    rw [List.getElem?_map, hk]
    rfl
  · rw [List.getElem?_set_ne hj]
    unfold gz_ws
    rw [List.getElem?_map, List.getElem?_map]
    cases hq : gz_ptrs[j]? with
    | none => rfl
    | some q =>
      have hqp : q ≠ p := fun e => by
        subst e
        have h2 : (gz_ws α cA I)[j]? = some (α q, gz_cell α cA I q) := by unfold gz_ws; rw [List.getElem?_map, hq]; rfl
        exact hj (hD.1 k j _ _ hk2 h2 rfl)
      show some (α q, gz_cell α cA I q) = some (α q, gz_cell α cA I' q)
      rw [h q hqp]
/-- locals -/
def gz_L (ls : Array Slot) (nL : Nat) (L : List (Option Value)) : Prop := ls.size = nL ∧ lv_wf ls ∧ ∀ (i : Nat) (v : Value), L[i]? = some (some v) → ls[i]? = some (.val v)
def gz_as (L : List (Option Value)) : List (Nat × Value) := (List.range L.length).filterMap fun i => (L[i]?.join).map fun v => (i, v)
theorem gz_as_mem {L : List (Option Value)} {i : Nat} {v : Value} : (i, v) ∈ gz_as L ↔ L[i]? = some (some v) := by
  unfold gz_as
  rw [List.mem_filterMap]
  constructor
  · rintro ⟨j, hj, h⟩
    cases hL : L[j]? with
    | none => rw [hL] at h; simp at h
    | some o =>
      cases o with
      | none => rw [hL] at h; simp at h
      | some w =>
        rw [hL] at h
        simp at h
        obtain ⟨rfl, rfl⟩ := h
        exact hL
  · intro h
    exact ⟨i, List.mem_range.mpr (List.getElem?_eq_some_iff.mp h).1, by rw [h]; rfl⟩
theorem gz_L.has {ls : Array Slot} {nL : Nat} {L : List (Option Value)} (h : gz_L ls nL L) : lv_has ls nL (gz_as L) := ⟨h.1, h.2.1, fun q hq => h.2.2 q.1 q.2 (gz_as_mem.mp hq)⟩
/-- no long ends at place i -/
def gz_nl (L : List (Option Value)) (i : Nat) : Bool := match i with
  | 0 => true
  | j + 1 => match L[j]? with
    | some (some v) => v.category == 1
    | _ => true
theorem gz_L.set {ls' : Array Slot} {nL : Nat} {L : List (Option Value)} {i : Nat} {x : Value} (hn : gz_nl L i = true) (hi : i < L.length) (h : lv_has ls' nL ((i, x) :: (gz_as L).filter (fun q => !(q.1 == i) && !(q.1 + 1 == i && q.2.category == 2)))) : gz_L ls' nL (L.set i (some x)) := by
  refine ⟨h.1, h.2.1, fun j v hj => ?_⟩
  by_cases e : i = j
  · subst e
    rw [List.getElem?_set_self hi] at hj
    cases hj
    exact h.2.2 (i, x) List.mem_cons_self
  · rw [List.getElem?_set_ne e] at hj
    refine h.2.2 (j, v) (List.mem_cons_of_mem _ (List.mem_filter.mpr ⟨gz_as_mem.mpr hj, ?_⟩))
    have h1 : (j == i) = false := by simp; omega
    by_cases e2 : j + 1 = i
    · subst e2
      have hc : v.category = 1 := by simp only [gz_nl, hj] at hn; simpa using hn
      simp [hc]
    · have h2 : (j + 1 == i) = false := by simp; omega
      simp [h1, h2]
/-- a return instruction with its answer -/
def gz_ret (cc : ByteArray) (ret : Option FieldType) (pc : Nat) (r : Option Value) : Prop :=
  (ret = some .int ∧ decode cc pc = .ok (.ireturn, 1) ∧ ∃ x : Int32, r = some (.int x)) ∨
  (ret = some .boolean ∧ decode cc pc = .ok (.ireturn, 1) ∧ ∃ x : Int32, r = some (.int x) ∧ narrow .boolean (.int x) = .int x) ∨
  ((∃ n, ret = some (.object n)) ∧ decode cc pc = .ok (.areturn, 1) ∧ ∃ v : Value, r = some v ∧ (v = .null ∨ ∃ a, v = .ref a)) ∨
  (ret = none ∧ decode cc pc = .ok (.return_, 1) ∧ r = none)
/-- what stays while a method runs -/
def gz_C (D : va_G) (α : gz_P → Nat) (cA : Nat → ClassId) (own : String) (cc : ByteArray) (ret : Option FieldType) (nL d : Nat) (p : Program) (R : Room) (s : State) (m : MethodId) (args : Array Value) (meth : Method) (c : Code) (A : Nat → Prop) (cells slots : Nat) : Prop :=
  p.tables.exec = Jvm.exec ∧ c.code = cc ∧ meth.sig.returnType = ret ∧ c.maxLocals = nL ∧ s.vm.findClass own = some m.cls ∧ (∀ w ∈ gz_ts, w.before args s = true) ∧ va_K D gz_cl (gz_tys cA) s ∧ va_Nw (.methodLinkNest RX3 48 yX4_digestOf RX4) s ∧ d ≤ R.frames ∧ 38 * d ≤ R.locals ∧ cells ≤ R.cells ∧ slots ≤ R.slots ∧ ∀ I, va_D A (gz_ws α cA I)
/-- THE JUDGEMENT: at pc, with locals L, stack st and memory I, the method comes to an end with Q -/
def gz_V (l : Launch) (D : va_G) (α : gz_P → Nat) (cA : Nat → ClassId) (own : String) (cc : ByteArray) (ret : Option FieldType) (nL d : Nat) (Q : Option Value → gz_M → Prop) (I : gz_M) (L : List (Option Value)) (st : List Value) (pc : Nat) : Prop :=
  ∀ (p : Program) (e : Env) (R : Room) (s : State) (m : MethodId) (args : Array Value) (below : List Frame) (meth : Method) (c : Code) (A : Nat → Prop) (H : Heap) (locs : List Loc) (ls : Array Slot) (cells slots : Nat) (QQ : State → Prop),
    gz_C D α cA own cc ret nL d p R s m args meth c A cells slots → va_P D gz_cl (gz_ws α cA I) H → va_S A s.heap H locs → gz_L ls nL L →
    (∀ (r : Option Value) (I' : gz_M) (H' : Heap) (locs' : List Loc) (ls' : Array Slot) (pc' : Nat), Q r I' → va_P D gz_cl (gz_ws α cA I') H' → va_S A s.heap H' locs' → gz_ret cc ret pc' r → W p l e R s m args below meth c H' locs' cells slots QQ (F0 m pc' ls' r.toList)) →
    W p l e R s m args below meth c H locs cells slots QQ (F0 m pc ls st)
