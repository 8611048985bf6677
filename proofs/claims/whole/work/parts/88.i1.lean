/-! where each cell comes to lie behind the constructors, and what it holds -/
def gi_off (p : gz_P) : Nat := match p.1 with
  | 0 => 0
  | 1 => 1
  | 2 => 2
  | 3 => 3
  | 4 => 10
  | 5 => 11
  | 6 => 12
  | 7 => 13 + 6 * p.2.1.toNat
  | 8 => 13 + 6 * p.2.1.toNat + 1
  | 9 => 13 + 6 * p.2.1.toNat + 1 + 1
  | 10 => if p.2.1 = 4 then 4 else 16 + 6 * p.2.1.toNat
  | 11 => if p.2.1 = 4 then 5 else 16 + 6 * p.2.1.toNat + 1
  | 12 => if p.2.1 = 4 then 6 else 16 + 6 * p.2.1.toNat + 1 + 1
  | 13 => 7
  | 14 => 8
  | 15 => 9
  | 16 => 37 + 7 * p.2.1.toNat
  | 17 => 37 + 7 * p.2.1.toNat + 1
  | 18 => 37 + 7 * p.2.1.toNat + 1 + 1 + p.2.2.toNat
  | 19 => 37 + 7 * p.2.1.toNat + 1 + 5
  | 20 => 121
  | r => r + 101
def gi_α (h : Nat) : gz_P → Nat := fun p => h + gi_off p
def gi_I : gz_M := fun p i => match p.1 with
  | 0 => if i = 6 then 2 else 0
  | 4 => if 0 ≤ i ∧ i < 12 then i else 0
  | 16 => if i = 2 then -1 else if i = 4 then -1 else 0
  | 20 => if i = 0 then 2 else 0
  | 30 => if 0 ≤ i ∧ i < 12 then -1 else 0
  | _ => 0
def gi_ptr (j : Nat) : gz_P := (gz_ptrs.find? (fun p => gi_off p == j)).getD (0, 0, 0)
theorem gi_ptr_all : gz_ptrs.all (fun p => gi_ptr (gi_off p) == p && Nat.blt (gi_off p) 141) = true := by decide +kernel
theorem gi_idx_all : (List.range gz_ptrs.length).all (fun i => gz_ptrs.findIdx (fun q => q == gz_ptrs.getD i (0, 0, 0)) == i) = true := by decide +kernel
theorem gi_ptr_off {p : gz_P} (hp : p ∈ gz_ptrs) : gi_ptr (gi_off p) = p ∧ gi_off p < 141 := by
  have h := List.all_eq_true.mp gi_ptr_all p hp
  rw [Bool.and_eq_true] at h
  exact ⟨eq_of_beq h.1, Nat.le_of_ble_eq_true h.2⟩
def gi_F (h : Nat) (cA : Nat → ClassId) : Nat → va_E := fun j => gz_cell (gi_α h) cA gi_I (gi_ptr j)
theorem gi_F_at {h : Nat} {cA : Nat → ClassId} {p : gz_P} (hp : p ∈ gz_ptrs) : gi_F h cA (gi_off p) = gz_cell (gi_α h) cA gi_I p := by
  unfold gi_F
  rw [(gi_ptr_off hp).1]
theorem gi_D {h : Nat} {cA : Nat → ClassId} (I : gz_M) : va_D (fun q => h ≤ q) (gz_ws (gi_α h) cA I) := by
  have at' : ∀ (k : Nat) (q : Nat × va_E), (gz_ws (gi_α h) cA I)[k]? = some q → ∃ p, gz_ptrs[k]? = some p ∧ q = (gi_α h p, gz_cell (gi_α h) cA I p) := by
    intro k q hq
    unfold gz_ws at hq
    rw [List.getElem?_map] at hq
    cases hp : gz_ptrs[k]? with
    | none => rw [hp] at hq; cases hq
    | some p => rw [hp] at hq; exact ⟨p, rfl, (Option.some.inj hq).symm⟩
  have idx : ∀ (k : Nat) (p : gz_P), gz_ptrs[k]? = some p → gz_ptrs.findIdx (fun q => q == p) = k := by
    intro k p hp
    have h1 := List.all_eq_true.mp gi_idx_all k (List.mem_range.mpr (List.getElem?_eq_some_iff.mp hp).1)
    have h2 : gz_ptrs.getD k (0, 0, 0) = p := by rw [List.getD_eq_getElem?_getD, hp]; rfl
    rw [h2] at h1
    exact eq_of_beq h1
  refine ⟨fun i j x y hx hy hxy => ?_, fun k q hq => ?_⟩
  · obtain ⟨p1, h1, rfl⟩ := at' i x hx
    obtain ⟨p2, h2, rfl⟩ := at' j y hy
    have e1 : h + gi_off p1 = h + gi_off p2 := hxy
    have e2 : gi_off p1 = gi_off p2 := by omega
    have e3 : p1 = p2 := by rw [← (gi_ptr_off (List.mem_of_getElem? h1)).1, ← (gi_ptr_off (List.mem_of_getElem? h2)).1, e2]
    rw [← idx i p1 h1, ← idx j p2 h2, e3]
  · obtain ⟨p1, h1, rfl⟩ := at' k q hq
    exact Nat.le_add_right _ _
theorem gi_P {D : va_G} {h : Nat} {cA : Nat → ClassId} {H : Heap} (hP : va_P D gz_cl (gn_ws h 141 (gi_F h cA)) H) : va_P D gz_cl (gz_ws (gi_α h) cA gi_I) H := fun k q hq => by
  unfold gz_ws at hq
  rw [List.getElem?_map] at hq
  cases hp : gz_ptrs[k]? with
  | none => rw [hp] at hq; cases hq
  | some p =>
    rw [hp] at hq
    have hm := List.mem_of_getElem? hp
    have h1 := gn_P.mp hP (gi_off p) (gi_ptr_off hm).2
    rw [gi_F_at hm] at h1
    have e : q = (gi_α h p, gz_cell (gi_α h) cA gi_I p) := (Option.some.inj hq).symm
    rw [e]
    exact h1
theorem gi_0 {p : gz_P} {i : Int} (h : (p.1 == 0 || p.1 == 4 || p.1 == 16 || p.1 == 20 || p.1 == 30) = false) : gi_I p i = 0 := by
  obtain ⟨r, a, b⟩ := p
  unfold gi_I
  simp only [Bool.or_eq_false_iff, beq_eq_false_iff_ne] at h
  obtain ⟨⟨⟨⟨h0, h4⟩, h16⟩, h20⟩, h30⟩ := h
  split
  · next e => exact absurd e h0
  · next e => exact absurd e h4
  · next e => exact absurd e h16
  · next e => exact absurd e h20
  · next e => exact absurd e h30
  · rfl
theorem gi_T : gz_T gi_I := by
  intro r a b i
  by_cases h : (r == 0 || r == 4 || r == 16 || r == 20 || r == 30) = true
  · simp only [Bool.or_eq_true, beq_iff_eq] at h
    rcases h with (((rfl | rfl) | rfl) | rfl) | rfl
    · show (if i = 6 then (1 : Int) else if i = 7 then 0 else -2147483648) ≤ (if i = 6 then 2 else 0) ∧ (if i = 6 then (2 : Int) else 0) ≤ (if i = 6 then 4 else if i = 7 then 12 else 2147483647)
      by_cases h6 : i = 6
      · simp only [if_pos h6]; decide
      · simp only [if_neg h6]
        by_cases h7 : i = 7
        · simp only [if_pos h7]; decide
        · simp only [if_neg h7]; decide
    · show (0 : Int) ≤ (if 0 ≤ i ∧ i < 12 then i else 0) ∧ (if 0 ≤ i ∧ i < 12 then i else 0) ≤ (11 : Int)
      by_cases h6 : 0 ≤ i ∧ i < 12
      · rw [if_pos h6]; omega
      · rw [if_neg h6]; decide
    · show (if i = 3 then (0 : Int) else if i = 5 then 0 else -2147483648) ≤ (if i = 2 then -1 else if i = 4 then -1 else 0) ∧ (if i = 2 then (-1 : Int) else if i = 4 then -1 else 0) ≤ (if i = 3 then 1 else if i = 5 then 4 else 2147483647)
      by_cases h2 : i = 2
      · simp only [if_pos h2, if_neg (show ¬ i = 3 by omega), if_neg (show ¬ i = 5 by omega)]; decide
      · simp only [if_neg h2]
        by_cases h4 : i = 4
        · simp only [if_pos h4, if_neg (show ¬ i = 3 by omega), if_neg (show ¬ i = 5 by omega)]; decide
        · simp only [if_neg h4]
          by_cases h3 : i = 3
          · simp only [if_pos h3]; decide
          · simp only [if_neg h3]
            by_cases h5 : i = 5
            · simp only [if_pos h5]; decide
            · simp only [if_neg h5]; decide
    · show (if i = 0 then (1 : Int) else -2147483648) ≤ (if i = 0 then 2 else 0) ∧ (if i = 0 then (2 : Int) else 0) ≤ (if i = 0 then 4 else 2147483647)
      by_cases h6 : i = 0
      · simp only [if_pos h6]; decide
      · simp only [if_neg h6]; decide
    · show (-2147483648 : Int) ≤ (if 0 ≤ i ∧ i < 12 then -1 else 0) ∧ (if 0 ≤ i ∧ i < 12 then -1 else 0) ≤ (2147483647 : Int)
      by_cases h6 : 0 ≤ i ∧ i < 12
      · rw [if_pos h6]; decide
      · rw [if_neg h6]; decide
  · have h' : (r == 0 || r == 4 || r == 16 || r == 20 || r == 30) = false := by
      cases hc : (r == 0 || r == 4 || r == 16 || r == 20 || r == 30) with
      | false => rfl
      | true => exact absurd hc h
    rw [gi_0 (p := (r, a, b)) h']
    simp only [Bool.or_eq_false_iff, beq_eq_false_iff_ne] at h'
    obtain ⟨⟨⟨⟨h0, h4⟩, h16⟩, h20⟩, h30⟩ := h'
    unfold gz_lo gz_hi
    constructor
    · split <;> first | decide | (split <;> first | decide | (split <;> decide)) | (exfalso; omega)
    · split <;> first | decide | (split <;> first | decide | (split <;> decide)) | (exfalso; omega)
theorem gi_fm (t i : Int) : gz_fm gi_I t i = 0 := gi_0 (p := (22, 0, 0)) rfl
theorem gi_R : gz_R 0 gi_I := by
  have z : ∀ (r : Nat) (a b i : Int), (r == 0 || r == 4 || r == 16 || r == 20 || r == 30) = false → gi_I (r, a, b) i = 0 := fun r a b i h => gi_0 (p := (r, a, b)) h
  have hX0 : ∀ p : Int, gz_aX gi_I 0 p 0 = 0 := fun p => by
    show (if 0 ≤ p ∧ p < 120 then gi_I (13, 0, 0) p else 0) = 0
    by_cases h : 0 ≤ p ∧ p < 120
    · rw [if_pos h]; exact z 13 0 0 p rfl
    · rw [if_neg h]
  have hcnt : gz_cnt (gz_aX gi_I) = 0 := gz_sm_zero (fun p _ _ => by
    show (if 0 < gz_aX gi_I 0 p 0 then (1 : Int) else 0) = 0
    rw [hX0, if_neg (by decide)])
  have htot : gz_tot (gz_aX gi_I) = 0 := gz_sm_zero (fun p _ _ => hX0 p)
  have h7 : gi_I (0, 0, 0) 7 = 0 := rfl
  refine ⟨gi_T, ⟨⟨?_, ?_⟩, ?_, ?_⟩, ⟨rfl, rfl, by decide⟩, ⟨?_, ?_, ?_, ?_, ?_⟩, ⟨?_, ?_, ?_, ?_, ?_, ?_, ?_, ?_, ?_⟩⟩
  · rw [hcnt]; exact z 3 0 0 6 rfl
  · rw [htot]; exact z 3 0 0 7 rfl
  · exact gz_A_mk (fun p _ _ => by rw [z 24 0 0 p rfl, z 13 0 0 p rfl]) (fun p _ _ hp => by rw [z 13 0 0 p rfl] at hp; exact absurd hp (by decide))
  · rw [htot]; decide
  · intro t _ _
    rw [z 21 0 0 t rfl, z 7 t 0 2 rfl]
    split <;> rfl
  · intro t i _ _ _ _
    rw [gi_fm, z 8 t 0 i rfl]
  · intro t p _ _ _ _
    rw [z 28 0 0 _ rfl, z 11 t 0 p rfl]
  · intro t p _ _ _ _
    rw [z 29 0 0 _ rfl, z 12 t 0 p rfl]
  · intro t p _ _ _ _
    exact z 11 t 0 p rfl
  · intro i j a b c d e
    have e1 : (if 0 ≤ i ∧ i < 12 then i else 0) = if 0 ≤ j ∧ j < 12 then j else 0 := e
    rw [if_pos ⟨a, b⟩, if_pos ⟨c, d⟩] at e1
    exact e1
  · intro i j a b c
    rw [h7] at c
    omega
  · intro j a b
    rw [h7] at b
    omega
  · intro j a b
    rw [h7] at b
    omega
  · intro j a b
    rw [h7] at b
    omega
  · intro s a b
    left
    show (if 0 ≤ s ∧ s < 12 then (-1 : Int) else 0) = -1
    rw [if_pos ⟨a, b⟩]
  · intro i s a b
    rw [h7] at b
    omega
  · intro s s' a b c d e f
    have f1 : 0 ≤ (if 0 ≤ s ∧ s < 12 then (-1 : Int) else 0) := f
    rw [if_pos ⟨a, b⟩] at f1
    exact absurd f1 (by decide)
  · intro i a b
    rw [h7] at b
    omega
