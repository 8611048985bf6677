/-! pure words and their lemmas -/
theorem gz_upto {P : Int → Prop} (N : Int) (h : ∀ i, i ≤ N → (∀ j, i < j → j ≤ N → P j) → P i) : ∀ i, i ≤ N → P i := by
  have key : ∀ n : Nat, ∀ i, i ≤ N → N - i ≤ n → P i := by
    intro n
    induction n with
    | zero => exact fun i hi hn => h i hi (fun j hj hj2 => by omega)
    | succ n ih => exact fun i hi hn => h i hi (fun j hj hj2 => ih j hj2 (by omega))
  exact fun i hi => key (N - i).toNat i hi (by omega)
theorem gz_downto {P : Int → Prop} (N : Int) (h : ∀ i, N ≤ i → (∀ j, j < i → N ≤ j → P j) → P i) : ∀ i, N ≤ i → P i := by
  have key : ∀ n : Nat, ∀ i, N ≤ i → i - N ≤ n → P i := by
    intro n
    induction n with
    | zero => exact fun i hi hn => h i hi (fun j hj hj2 => by omega)
    | succ n ih => exact fun i hi hn => h i hi (fun j hj hj2 => ih j hj2 (by omega))
  exact fun i hi => key (i - N).toNat i hi (by omega)
theorem gz_up_r {I : gz_M} {r r' : Nat} {a b a' b' j v i : Int} (h : r' ≠ r) : gz_up I (r, a, b) j v (r', a', b') i = I (r', a', b') i := by
  unfold gz_up
  rw [if_neg (fun e => h (congrArg Prod.fst e.1))]
theorem gz_up_s {I : gz_M} {p : gz_P} {j v : Int} : gz_up I p j v p j = v := by
  unfold gz_up
  rw [if_pos ⟨rfl, rfl⟩]
theorem gz_up_k {I : gz_M} {r : Nat} {a b a' b' j v i : Int} : gz_up I (r, a, b) j v (r, a', b') i = if (a' = a ∧ b' = b) ∧ i = j then v else I (r, a', b') i := by
  unfold gz_up
  simp only [Prod.mk.injEq, true_and]
theorem gz_cp_r {I : gz_M} {p : gz_P} {r r' : Nat} {a b a' b' sp dp n i : Int} (h : r' ≠ r) : gz_cp I p (r, a, b) sp dp n (r', a', b') i = I (r', a', b') i := by
  unfold gz_cp
  rw [if_neg (fun e => h (congrArg Prod.fst e.1))]
theorem gz_cp_k {I : gz_M} {p : gz_P} {r : Nat} {a b a' b' sp dp n i : Int} : gz_cp I p (r, a, b) sp dp n (r, a', b') i = if (a' = a ∧ b' = b) ∧ dp ≤ i ∧ i < dp + n then I p (sp + (i - dp)) else I (r, a', b') i := by
  unfold gz_cp
  simp only [Prod.mk.injEq, true_and]
/-- I' is I but for the cells of P -/
def gz_fr (P : gz_P → Prop) (I I' : gz_M) : Prop := ∀ q, ¬ P q → I' q = I q
/-- CUTTING -/
abbrev gz_stop (f : Int → Int) (s at_ k : Int) : Prop := 32 ≤ k ∨ (4 ≤ k ∧ (3 * f (at_ + k - 3) + 5 * f (at_ + k - 2) + 7 * f (at_ + k - 1)) % 11 = 0) ∨ at_ + k = s
def gz_clf (f : Int → Int) (s at_ : Int) : Nat → Int → Int
  | 0, k => k
  | n + 1, k => if gz_stop f s at_ k then k else gz_clf f s at_ n (k + 1)
def gz_ck (f : Int → Int) (s at_ : Int) : Int := gz_clf f s at_ 31 1
theorem gz_clf_eq {f : Int → Int} {s at_ k : Int} : ∀ (n : Nat) (j : Int), j ≤ k → k ≤ j + n → gz_stop f s at_ k → (∀ i, j ≤ i → i < k → ¬ gz_stop f s at_ i) → gz_clf f s at_ n j = k
  | 0, j, h1, h2, _, _ => by unfold gz_clf; omega
  | n + 1, j, h1, h2, h3, h4 => by
    unfold gz_clf
    by_cases h : j = k
    · subst h
      rw [if_pos h3]
    · rw [if_neg (h4 j (by omega) (by omega))]
      exact gz_clf_eq n (j + 1) (by omega) (by omega) h3 (fun i hi hi2 => h4 i (by omega) hi2)
theorem gz_ck_eq {f : Int → Int} {s at_ k : Int} (h1 : 1 ≤ k) (h3 : gz_stop f s at_ k) (h4 : ∀ i, 1 ≤ i → i < k → ¬ gz_stop f s at_ i) : gz_ck f s at_ = k := by
  have h5 : k ≤ 32 := by
    apply Int.not_lt.mp
    intro h
    exact h4 32 (by omega) h (Or.inl (Int.le_refl 32))
  exact gz_clf_eq 31 1 h1 (by omega) h3 h4
theorem gz_clf_ok {f : Int → Int} {s at_ : Int} : ∀ (n : Nat) (j : Int), j + n = 32 → gz_stop f s at_ (gz_clf f s at_ n j) ∧ j ≤ gz_clf f s at_ n j ∧ gz_clf f s at_ n j ≤ 32 ∧ ∀ i, j ≤ i → i < gz_clf f s at_ n j → ¬ gz_stop f s at_ i
  | 0, j, h => by
    unfold gz_clf
    exact ⟨Or.inl (by omega), by omega, by omega, fun i h1 h2 => by omega⟩
  | n + 1, j, h => by
    unfold gz_clf
    by_cases h0 : gz_stop f s at_ j
    · rw [if_pos h0]
      exact ⟨h0, by omega, by omega, fun i h1 h2 => by omega⟩
    · rw [if_neg h0]
      obtain ⟨a, b, c, d⟩ := gz_clf_ok (f := f) (s := s) (at_ := at_) n (j + 1) (by omega)
      refine ⟨a, by omega, c, fun i h1 h2 => ?_⟩
      by_cases e : i = j
      · subst e
        exact h0
      · exact d i (by omega) h2
theorem gz_ck_ok (f : Int → Int) (s at_ : Int) : gz_stop f s at_ (gz_ck f s at_) ∧ 1 ≤ gz_ck f s at_ ∧ gz_ck f s at_ ≤ 32 ∧ ∀ i, 1 ≤ i → i < gz_ck f s at_ → ¬ gz_stop f s at_ i := gz_clf_ok 31 1 rfl
theorem gz_ck_le {f : Int → Int} {s at_ : Int} (h : at_ < s) : at_ + gz_ck f s at_ ≤ s := by
  obtain ⟨-, -, -, d⟩ := gz_ck_ok f s at_
  apply Int.not_lt.mp
  intro h1
  exact d (s - at_) (by omega) (by omega) (Or.inr (Or.inr (by omega)))
theorem gz_ck_4 {f : Int → Int} {s at_ : Int} (h : at_ + gz_ck f s at_ < s) : 4 ≤ gz_ck f s at_ := by
  obtain ⟨a, -, -, -⟩ := gz_ck_ok f s at_
  rcases a with a | a | a <;> omega
/-- where the chunks begin -/
def gz_cs (f : Int → Int) (s : Int) : Nat → Int
  | 0 => 0
  | n + 1 => gz_cs f s n + gz_ck f s (gz_cs f s n)
theorem gz_cs_mono (f : Int → Int) (s : Int) (n : Nat) : gz_cs f s n < gz_cs f s (n + 1) := by
  have := (gz_ck_ok f s (gz_cs f s n)).2.1
  show gz_cs f s n < gz_cs f s n + gz_ck f s (gz_cs f s n)
  omega
theorem gz_cs_lt (f : Int → Int) (s : Int) {i : Nat} : ∀ {j : Nat}, i < j → gz_cs f s i < gz_cs f s j
  | 0, h => by omega
  | j + 1, h => by
    have h1 := gz_cs_mono f s j
    by_cases e : i = j
    · subst e
      exact h1
    · have h2 := gz_cs_lt f s (i := i) (j := j) (by omega)
      omega
theorem gz_cs_le (f : Int → Int) (s : Int) {i j : Nat} (h : i ≤ j) : gz_cs f s i ≤ gz_cs f s j := by
  by_cases e : i = j
  · subst e
    omega
  · have := gz_cs_lt f s (i := i) (j := j) (by omega)
    omega
theorem gz_cs_0 (f : Int → Int) (s : Int) (n : Nat) : 0 ≤ gz_cs f s n := gz_cs_le f s (Nat.zero_le n)
theorem gz_cs_4 {f : Int → Int} {s : Int} : ∀ {n : Nat}, gz_cs f s n < s → 4 * (n : Int) ≤ gz_cs f s n
  | 0, _ => by
    show (4 * ((0 : Nat) : Int)) ≤ 0
    omega
  | n + 1, h => by
    have h1 := gz_cs_mono f s n
    have h2 := gz_cs_4 (f := f) (s := s) (n := n) (by omega)
    have h3 : gz_cs f s (n + 1) = gz_cs f s n + gz_ck f s (gz_cs f s n) := rfl
    have h4 := gz_ck_4 (f := f) (s := s) (at_ := gz_cs f s n) (by omega)
    omega
/-- there are c chunks -/
def gz_cn (f : Int → Int) (s : Int) (c : Nat) : Prop := gz_cs f s c = s
theorem gz_cn_uq {f : Int → Int} {s : Int} {c c' : Nat} (h : gz_cn f s c) (h' : gz_cn f s c') : c = c' := by
  unfold gz_cn at h h'
  rcases Nat.lt_trichotomy c c' with h1 | h1 | h1
  · have := gz_cs_lt f s h1; omega
  · exact h1
  · have := gz_cs_lt f s h1; omega
theorem gz_cn_lt {f : Int → Int} {s : Int} {c j : Nat} (h : gz_cn f s c) (hj : j < c) : gz_cs f s j < s := by
  have := gz_cs_lt f s hj
  unfold gz_cn at h
  omega
theorem gz_cn_75 {f : Int → Int} {s : Int} {c : Nat} (h : gz_cn f s c) (hs : s ≤ 300) : c ≤ 75 := by
  cases c with
  | zero => omega
  | succ c =>
    have h1 := gz_cn_lt h (Nat.lt_succ_self c)
    have h2 := gz_cs_4 h1
    omega
/-- functions that agree below s are cut alike -/
theorem gz_stop_eq {f g : Int → Int} {s at_ k : Int} (h0 : 0 ≤ at_) (hk : at_ + k ≤ s) (e : ∀ i, 0 ≤ i → i < s → f i = g i) : gz_stop f s at_ k ↔ gz_stop g s at_ k := by
  unfold gz_stop
  by_cases h4 : 4 ≤ k
  · rw [e (at_ + k - 3) (by omega) (by omega), e (at_ + k - 2) (by omega) (by omega), e (at_ + k - 1) (by omega) (by omega)]
  · constructor
    · rintro (h | h | h)
      · exact Or.inl h
      · exact absurd h.1 h4
      · exact Or.inr (Or.inr h)
    · rintro (h | h | h)
      · exact Or.inl h
      · exact absurd h.1 h4
      · exact Or.inr (Or.inr h)
theorem gz_ck_cong {f g : Int → Int} {s at_ : Int} (h0 : 0 ≤ at_) (h : at_ < s) (e : ∀ i, 0 ≤ i → i < s → f i = g i) : gz_ck f s at_ = gz_ck g s at_ := by
  obtain ⟨a, b, c, d⟩ := gz_ck_ok g s at_
  have hl := gz_ck_le (f := g) h
  refine gz_ck_eq b ((gz_stop_eq h0 hl e).mpr a) (fun i h1 h2 q => d i h1 h2 ((gz_stop_eq h0 (by omega) e).mp q))
theorem gz_cs_cong {f g : Int → Int} {s : Int} (e : ∀ i, 0 ≤ i → i < s → f i = g i) : ∀ {n : Nat}, (∀ j, j < n → gz_cs f s j < s) → gz_cs f s n = gz_cs g s n
  | 0, _ => rfl
  | n + 1, h => by
    have h1 := gz_cs_cong e (n := n) (fun j hj => h j (by omega))
    have h2 := h n (Nat.lt_succ_self n)
    show gz_cs f s n + gz_ck f s (gz_cs f s n) = gz_cs g s n + gz_ck g s (gz_cs g s n)
    rw [← h1, gz_ck_cong (gz_cs_0 f s n) h2 e]
/-- DIGEST -/
def gz_dg (f : Int → Int) : Nat → Int
  | 0 => 1
  | n + 1 => (31 * gz_dg f n + f n) % 61
theorem gz_dg_in (f : Int → Int) (n : Nat) : 0 ≤ gz_dg f n ∧ gz_dg f n < 61 := by
  cases n with
  | zero => unfold gz_dg; omega
  | succ n =>
    unfold gz_dg
    omega
theorem gz_dg_cong {f g : Int → Int} : ∀ {n : Nat}, (∀ i : Int, 0 ≤ i → i < n → f i = g i) → gz_dg f n = gz_dg g n
  | 0, _ => rfl
  | n + 1, h => by
    unfold gz_dg
    rw [gz_dg_cong (n := n) (fun i h1 h2 => h i h1 (by omega)), h n (by omega) (by omega)]
theorem gz_ne {r r' : Nat} {a b a' b' : Int} (h : (r == r') = false) : ((r, a, b) : gz_P) ≠ (r', a', b') := fun e => by
  have e1 : r = r' := congrArg Prod.fst e
  subst e1
  simp at h
/-- the ranges of the places -/
def gz_lo (r : Nat) (i : Int) : Int := match r with
  | 0 => if i = 6 then 1 else if i = 7 then 0 else -2147483648
  | 3 => -2147483648
  | 16 => if i = 3 then 0 else if i = 5 then 0 else -2147483648
  | 20 => if i = 0 then 1 else -2147483648
  | 30 => -2147483648
  | 32 => -2147483648
  | 35 => -1
  | 36 => -2147483648
  | 37 => -2147483648
  | 38 => -2147483648
  | _ => 0
def gz_hi (r : Nat) (i : Int) : Int := match r with
  | 0 => if i = 6 then 4 else if i = 7 then 12 else 2147483647
  | 4 => 11
  | 5 => 255
  | 6 => 1
  | 7 => 300
  | 8 => 255
  | 9 => 300
  | 11 => 1
  | 12 => 255
  | 13 => 32
  | 14 => 60
  | 15 => 119
  | 16 => if i = 3 then 1 else if i = 5 then 4 else 2147483647
  | 18 => 119
  | 19 => 75
  | 20 => if i = 0 then 4 else 2147483647
  | 21 => 300
  | 22 => 255
  | 23 => 255
  | 24 => 32
  | 25 => 60
  | 26 => 1
  | 27 => 255
  | 28 => 1
  | 29 => 255
  | 31 => 1
  | 33 => 4
  | 34 => 75
  | 35 => 119
  | 39 => 1
  | _ => 2147483647
def gz_T (I : gz_M) : Prop := ∀ (r : Nat) (a b i : Int), gz_lo r i ≤ I (r, a, b) i ∧ I (r, a, b) i ≤ gz_hi r i
theorem gz_T_up {I : gz_M} {r : Nat} {a b j v : Int} (h : gz_T I) (hv : gz_lo r j ≤ v ∧ v ≤ gz_hi r j) : gz_T (gz_up I (r, a, b) j v) := by
  intro r' a' b' i
  unfold gz_up
  by_cases e : ((r', a', b') : gz_P) = (r, a, b) ∧ i = j
  · rw [if_pos e]
    have e1 : r' = r := congrArg Prod.fst e.1
    rw [e1, e.2]
    exact hv
  · rw [if_neg e]
    exact h r' a' b' i
theorem gz_T_cp {I : gz_M} {r1 r2 : Nat} {a1 b1 a2 b2 sp dp n : Int} (h : gz_T I) (h1 : ∀ i, gz_lo r1 i = 0 ∧ gz_hi r1 i = 255) (h2 : ∀ i, gz_lo r2 i = 0 ∧ gz_hi r2 i = 255) : gz_T (gz_cp I (r1, a1, b1) (r2, a2, b2) sp dp n) := by
  intro r' a' b' i
  unfold gz_cp
  by_cases e : ((r', a', b') : gz_P) = (r2, a2, b2) ∧ dp ≤ i ∧ i < dp + n
  · rw [if_pos e]
    have e1 : r' = r2 := congrArg Prod.fst e.1
    rw [e1, (h2 i).1, (h2 i).2]
    have := h r1 a1 b1 (sp + (i - dp))
    rw [(h1 _).1, (h1 _).2] at this
    exact this
  · rw [if_neg e]
    exact h r' a' b' i
theorem gz_t4 {I : gz_M} (h : gz_T I) (a b i : Int) : 0 ≤ I (4, a, b) i ∧ I (4, a, b) i ≤ 11 := h 4 a b i
theorem gz_t5 {I : gz_M} (h : gz_T I) (a b i : Int) : 0 ≤ I (5, a, b) i ∧ I (5, a, b) i ≤ 255 := h 5 a b i
theorem gz_t6 {I : gz_M} (h : gz_T I) (a b i : Int) : 0 ≤ I (6, a, b) i ∧ I (6, a, b) i ≤ 1 := h 6 a b i
theorem gz_t7 {I : gz_M} (h : gz_T I) (a b i : Int) : 0 ≤ I (7, a, b) i ∧ I (7, a, b) i ≤ 300 := h 7 a b i
theorem gz_t8 {I : gz_M} (h : gz_T I) (a b i : Int) : 0 ≤ I (8, a, b) i ∧ I (8, a, b) i ≤ 255 := h 8 a b i
theorem gz_t9 {I : gz_M} (h : gz_T I) (a b i : Int) : 0 ≤ I (9, a, b) i ∧ I (9, a, b) i ≤ 300 := h 9 a b i
theorem gz_t11 {I : gz_M} (h : gz_T I) (a b i : Int) : 0 ≤ I (11, a, b) i ∧ I (11, a, b) i ≤ 1 := h 11 a b i
theorem gz_t12 {I : gz_M} (h : gz_T I) (a b i : Int) : 0 ≤ I (12, a, b) i ∧ I (12, a, b) i ≤ 255 := h 12 a b i
theorem gz_t13 {I : gz_M} (h : gz_T I) (a b i : Int) : 0 ≤ I (13, a, b) i ∧ I (13, a, b) i ≤ 32 := h 13 a b i
theorem gz_t14 {I : gz_M} (h : gz_T I) (a b i : Int) : 0 ≤ I (14, a, b) i ∧ I (14, a, b) i ≤ 60 := h 14 a b i
theorem gz_t15 {I : gz_M} (h : gz_T I) (a b i : Int) : 0 ≤ I (15, a, b) i ∧ I (15, a, b) i ≤ 119 := h 15 a b i
theorem gz_t18 {I : gz_M} (h : gz_T I) (a b i : Int) : 0 ≤ I (18, a, b) i ∧ I (18, a, b) i ≤ 119 := h 18 a b i
theorem gz_t19 {I : gz_M} (h : gz_T I) (a b i : Int) : 0 ≤ I (19, a, b) i ∧ I (19, a, b) i ≤ 75 := h 19 a b i
theorem gz_t21 {I : gz_M} (h : gz_T I) (a b i : Int) : 0 ≤ I (21, a, b) i ∧ I (21, a, b) i ≤ 300 := h 21 a b i
theorem gz_t22 {I : gz_M} (h : gz_T I) (a b i : Int) : 0 ≤ I (22, a, b) i ∧ I (22, a, b) i ≤ 255 := h 22 a b i
theorem gz_t23 {I : gz_M} (h : gz_T I) (a b i : Int) : 0 ≤ I (23, a, b) i ∧ I (23, a, b) i ≤ 255 := h 23 a b i
theorem gz_t24 {I : gz_M} (h : gz_T I) (a b i : Int) : 0 ≤ I (24, a, b) i ∧ I (24, a, b) i ≤ 32 := h 24 a b i
theorem gz_t25 {I : gz_M} (h : gz_T I) (a b i : Int) : 0 ≤ I (25, a, b) i ∧ I (25, a, b) i ≤ 60 := h 25 a b i
theorem gz_t26 {I : gz_M} (h : gz_T I) (a b i : Int) : 0 ≤ I (26, a, b) i ∧ I (26, a, b) i ≤ 1 := h 26 a b i
theorem gz_t27 {I : gz_M} (h : gz_T I) (a b i : Int) : 0 ≤ I (27, a, b) i ∧ I (27, a, b) i ≤ 255 := h 27 a b i
theorem gz_t28 {I : gz_M} (h : gz_T I) (a b i : Int) : 0 ≤ I (28, a, b) i ∧ I (28, a, b) i ≤ 1 := h 28 a b i
theorem gz_t29 {I : gz_M} (h : gz_T I) (a b i : Int) : 0 ≤ I (29, a, b) i ∧ I (29, a, b) i ≤ 255 := h 29 a b i
theorem gz_t30 {I : gz_M} (h : gz_T I) (a b i : Int) : -2147483648 ≤ I (30, a, b) i ∧ I (30, a, b) i ≤ 2147483647 := h 30 a b i
theorem gz_t31 {I : gz_M} (h : gz_T I) (a b i : Int) : 0 ≤ I (31, a, b) i ∧ I (31, a, b) i ≤ 1 := h 31 a b i
theorem gz_t32 {I : gz_M} (h : gz_T I) (a b i : Int) : -2147483648 ≤ I (32, a, b) i ∧ I (32, a, b) i ≤ 2147483647 := h 32 a b i
theorem gz_t33 {I : gz_M} (h : gz_T I) (a b i : Int) : 0 ≤ I (33, a, b) i ∧ I (33, a, b) i ≤ 4 := h 33 a b i
theorem gz_t34 {I : gz_M} (h : gz_T I) (a b i : Int) : 0 ≤ I (34, a, b) i ∧ I (34, a, b) i ≤ 75 := h 34 a b i
theorem gz_t35 {I : gz_M} (h : gz_T I) (a b i : Int) : -1 ≤ I (35, a, b) i ∧ I (35, a, b) i ≤ 119 := h 35 a b i
theorem gz_t39 {I : gz_M} (h : gz_T I) (a b i : Int) : 0 ≤ I (39, a, b) i ∧ I (39, a, b) i ≤ 1 := h 39 a b i
theorem gz_tk {I : gz_M} (h : gz_T I) (a b : Int) : 1 ≤ I (0, a, b) 6 ∧ I (0, a, b) 6 ≤ 4 := h 0 a b 6
theorem gz_th {I : gz_M} (h : gz_T I) (a b : Int) : 0 ≤ I (0, a, b) 7 ∧ I (0, a, b) 7 ≤ 12 := h 0 a b 7
theorem gz_tn8 {I : gz_M} (h : gz_T I) (a b : Int) : -2147483648 ≤ I (0, a, b) 8 ∧ I (0, a, b) 8 ≤ 2147483647 := h 0 a b 8
theorem gz_tm2 {I : gz_M} (h : gz_T I) (a b : Int) : -2147483648 ≤ I (16, a, b) 2 ∧ I (16, a, b) 2 ≤ 2147483647 := h 16 a b 2
theorem gz_tm3 {I : gz_M} (h : gz_T I) (a b : Int) : 0 ≤ I (16, a, b) 3 ∧ I (16, a, b) 3 ≤ 1 := h 16 a b 3
theorem gz_tm4 {I : gz_M} (h : gz_T I) (a b : Int) : -2147483648 ≤ I (16, a, b) 4 ∧ I (16, a, b) 4 ≤ 2147483647 := h 16 a b 4
theorem gz_tm5 {I : gz_M} (h : gz_T I) (a b : Int) : 0 ≤ I (16, a, b) 5 ∧ I (16, a, b) 5 ≤ 4 := h 16 a b 5
theorem gz_tM0 {I : gz_M} (h : gz_T I) (a b : Int) : 1 ≤ I (20, a, b) 0 ∧ I (20, a, b) 0 ≤ 4 := h 20 a b 0
theorem gz_tM10 {I : gz_M} (h : gz_T I) (a b : Int) : -2147483648 ≤ I (20, a, b) 10 ∧ I (20, a, b) 10 ≤ 2147483647 := h 20 a b 10
