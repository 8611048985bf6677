/-- count and bytes of the store are what they say -/
def gz_E (I : gz_M) : Prop := I (3, 0, 0) 6 = gz_cnt (gz_aX I) ∧ I (3, 0, 0) 7 = gz_tot (gz_aX I)
def gz_del (S : gz_S) (x : Int) : gz_S := fun c p i => if p = x then 0 else S c p i
theorem gz_tk1_a {I : gz_M} {x : Int} : gz_aX (gz_tk1 I x) = gz_del (gz_aX I) x := by
  have h12 : ∀ i, gz_tk1 I x (12, 4, 0) i = I (12, 4, 0) i := fun i => by rw [gz_tk1_o ⟨gz_ne rfl, gz_ne rfl, gz_ne rfl⟩]
  have h14 : ∀ i, gz_tk1 I x (14, 0, 0) i = I (14, 0, 0) i := fun i => by rw [gz_tk1_o ⟨gz_ne rfl, gz_ne rfl, gz_ne rfl⟩]
  funext c p i
  unfold gz_aX gz_del
  match c with
  | 0 =>
    show (if 0 ≤ p ∧ p < 120 then gz_tk1 I x (13, 0, 0) p else 0) = if p = x then 0 else if 0 ≤ p ∧ p < 120 then I (13, 0, 0) p else 0
    rw [gz_tk1_13]
    by_cases e : p = x
    · rw [if_pos e, if_pos e, ite_self]
    · rw [if_neg e, if_neg e]
  | 1 =>
    show (if (0 ≤ p ∧ p < 120) ∧ 0 < gz_tk1 I x (13, 0, 0) p then gz_tk1 I x (14, 0, 0) p else 0) = if p = x then 0 else if (0 ≤ p ∧ p < 120) ∧ 0 < I (13, 0, 0) p then I (14, 0, 0) p else 0
    rw [gz_tk1_13, h14]
    by_cases e : p = x
    · rw [if_pos e, if_pos e, if_neg (by omega)]
    · rw [if_neg e, if_neg e]
  | 2 =>
    show (if (0 ≤ p ∧ p < 120) ∧ 0 < gz_tk1 I x (13, 0, 0) p then gz_tk1 I x (11, 4, 0) p else 0) = if p = x then 0 else if (0 ≤ p ∧ p < 120) ∧ 0 < I (13, 0, 0) p then I (11, 4, 0) p else 0
    rw [gz_tk1_13, gz_tk1_11]
    by_cases e : p = x
    · rw [if_pos e, if_pos e, if_neg (by omega)]
    · rw [if_neg e, if_neg e, if_neg (show ¬ ((4 : Int) = 4 ∧ p = x) from fun q => e q.2)]
  | 3 =>
    show (if (0 ≤ p ∧ p < 120) ∧ 0 ≤ i ∧ i < gz_tk1 I x (13, 0, 0) p then gz_tk1 I x (12, 4, 0) (32 * p + i) else 0) = if p = x then 0 else if (0 ≤ p ∧ p < 120) ∧ 0 ≤ i ∧ i < I (13, 0, 0) p then I (12, 4, 0) (32 * p + i) else 0
    rw [gz_tk1_13, h12]
    by_cases e : p = x
    · rw [if_pos e, if_pos e, if_neg (by omega)]
    · rw [if_neg e, if_neg e]
  | c + 4 =>
    show (0 : Int) = if p = x then 0 else 0
    rw [ite_self]
theorem gz_cnt_del {S : gz_S} {x : Int} (hx : 0 ≤ x ∧ x < 120) (h : 0 < S 0 x 0) : gz_cnt (gz_del S x) = gz_cnt S - 1 := by
  unfold gz_cnt
  have h1 := gz_sm_up (f := fun p => if 0 < S 0 p 0 then 1 else 0) (g := fun p => if 0 < gz_del S x 0 p 0 then 1 else 0) (q := x) (fun i hi => by unfold gz_del; simp only [if_neg hi]) 120
  rw [if_pos (by omega)] at h1
  have h2 : gz_del S x 0 x 0 = 0 := by unfold gz_del; rw [if_pos rfl]
  rw [h2, if_neg (by omega), if_pos h] at h1
  omega
theorem gz_tot_del {S : gz_S} {x : Int} (hx : 0 ≤ x ∧ x < 120) : gz_tot (gz_del S x) = gz_tot S - S 0 x 0 := by
  unfold gz_tot
  have h1 := gz_sm_up (f := fun p => S 0 p 0) (g := fun p => gz_del S x 0 p 0) (q := x) (fun i hi => by unfold gz_del; simp only [if_neg hi]) 120
  rw [if_pos (by omega)] at h1
  have h2 : gz_del S x 0 x 0 = 0 := by unfold gz_del; rw [if_pos rfl]
  rw [h2] at h1
  omega
theorem gz_cnt_add {S : gz_S} {x n : Int} {f : Int → Int} (hx : 0 ≤ x ∧ x < 120) (h : S 0 x 0 = 0) (hn : 0 < n) : gz_cnt (gz_add S x f n) = gz_cnt S + 1 := by
  unfold gz_cnt
  have h1 := gz_sm_up (f := fun p => if 0 < S 0 p 0 then 1 else 0) (g := fun p => if 0 < gz_add S x f n 0 p 0 then 1 else 0) (q := x) (fun i hi => by unfold gz_add; simp only [if_neg hi]) 120
  rw [if_pos (by omega)] at h1
  have h2 : gz_add S x f n 0 x 0 = n := by show (if x = x then n else S 0 x 0) = n; rw [if_pos rfl]
  rw [h2, h, if_pos hn, if_neg (by omega)] at h1
  omega
theorem gz_tot_add {S : gz_S} {x n : Int} {f : Int → Int} (hx : 0 ≤ x ∧ x < 120) (h : S 0 x 0 = 0) : gz_tot (gz_add S x f n) = gz_tot S + n := by
  unfold gz_tot
  have h1 := gz_sm_up (f := fun p => S 0 p 0) (g := fun p => gz_add S x f n 0 p 0) (q := x) (fun i hi => by unfold gz_add; simp only [if_neg hi]) 120
  rw [if_pos (by omega)] at h1
  have h2 : gz_add S x f n 0 x 0 = n := by show (if x = x then n else S 0 x 0) = n; rw [if_pos rfl]
  rw [h2, h] at h1
  omega
theorem gz_tk1_E {I : gz_M} {x : Int} (hE : gz_E I) (hx : 0 ≤ x ∧ x < 120) (h : 0 < I (13, 0, 0) x) : gz_E (gz_tk1 I x) := by
  have h0 : gz_aX I 0 x 0 = I (13, 0, 0) x := if_pos hx
  unfold gz_E
  rw [gz_tk1_a, gz_cnt_del hx (by rw [h0]; exact h), gz_tot_del hx, h0, gz_tk1_3, gz_tk1_3, ← hE.1, ← hE.2]
  exact ⟨rfl, rfl⟩
theorem gz_mkp_3 {I : gz_M} {w : gz_P} {s n g x i : Int} : gz_mkp I w s n g x (3, 0, 0) i = if i = 5 then I (3, 0, 0) 5 + n else if i = 4 then I (3, 0, 0) 4 + 1 else if i = 7 then I (3, 0, 0) 7 + n else if i = 6 then I (3, 0, 0) 6 + 1 else I (3, 0, 0) i := by
  unfold gz_mkp
  simp (decide := true) only [gz_up_r, gz_cp_r, gz_up_k, and_self, true_and]
theorem gz_mkp_15 {I : gz_M} {w : gz_P} {s n g x i : Int} : gz_mkp I w s n g x (15, 0, 0) i = if i = I (3, 0, 0) 4 then x else I (15, 0, 0) i := by
  unfold gz_mkp
  simp (decide := true) only [gz_up_r, gz_cp_r, gz_up_k, and_self, true_and]
theorem gz_mkp_E {I : gz_M} (hT : gz_T I) {w : gz_P} {s n x : Int} (hE : gz_E I) (hn : 0 < n ∧ n ≤ 32) (hx : 0 ≤ x ∧ x < 120) (h : I (13, 0, 0) x = 0) : gz_E (gz_mkp I w s n (gz_dg (fun i => I w (s + i)) n.toNat) x) := by
  have h0 : gz_aX I 0 x 0 = 0 := (gz_z_X hx).mpr h
  unfold gz_E
  rw [gz_mkp_a hT hn hx, gz_cnt_add hx h0 hn.1, gz_tot_add hx h0, gz_mkp_3, gz_mkp_3, ← hE.1, ← hE.2]
  exact ⟨rfl, rfl⟩
theorem gz_cnt_in (S : gz_S) : 0 ≤ gz_cnt S ∧ gz_cnt S ≤ 120 := by
  have := gz_sm_in (f := fun p => if 0 < S 0 p 0 then 1 else 0) (lo := 0) (hi := 1) (fun p => by split <;> omega) 120
  unfold gz_cnt
  omega
theorem gz_mkp_T {I : gz_M} (hT : gz_T I) {r : Nat} {b c s n g x : Int} (hr : ∀ i, gz_lo r i = 0 ∧ gz_hi r i = 255) (hE : gz_E I) (hn : 0 < n ∧ n ≤ 32) (hg : 0 ≤ g ∧ g ≤ 60) (hx : 0 ≤ x ∧ x < 120) (h4 : 0 ≤ I (3, 0, 0) 4 ∧ I (3, 0, 0) 4 ≤ 120) (h5 : -100000 ≤ I (3, 0, 0) 5 ∧ I (3, 0, 0) 5 ≤ 100000) : gz_T (gz_mkp I (r, b, c) s n g x) := by
  have e1 := gz_tot_in hT
  have e2 := gz_cnt_in (gz_aX I)
  have e3 := hE.1
  have e4 := hE.2
  exact gz_Tu3 (gz_Tu3 (gz_Tu15 (gz_Tu3 (gz_Tu3 (gz_Tu14 (gz_Tu13 (gz_Tu11 (gz_T_cp hT hr (fun _ => ⟨rfl, rfl⟩)) (by decide)) (by omega)) hg) (by omega)) (by omega)) (by omega)) (by omega)) (by omega)
/-- the parts that a marking has made so far: I0 the memory at its beginning, I now -/
def gz_FI (I0 I : gz_M) : Prop := (0 ≤ I (3, 0, 0) 4 ∧ I (3, 0, 0) 4 ≤ 120) ∧ (∀ j, 0 ≤ j → j < I (3, 0, 0) 4 → I0 (13, 0, 0) (I (15, 0, 0) j) = 0 ∧ 0 < I (13, 0, 0) (I (15, 0, 0) j)) ∧ (∀ i j, 0 ≤ i → i < I (3, 0, 0) 4 → 0 ≤ j → j < I (3, 0, 0) 4 → I (15, 0, 0) i = I (15, 0, 0) j → i = j) ∧ (∀ p, 0 ≤ p → p < 120 → (∀ j, 0 ≤ j → j < I (3, 0, 0) 4 → ¬ I (15, 0, 0) j = p) → I (13, 0, 0) p = I0 (13, 0, 0) p) ∧ (∀ p, 0 ≤ p → p < 120 → 0 < I0 (13, 0, 0) p → I (13, 0, 0) p = I0 (13, 0, 0) p ∧ I (14, 0, 0) p = I0 (14, 0, 0) p ∧ I (11, 4, 0) p = I0 (11, 4, 0) p ∧ ∀ i, 0 ≤ i → i < I0 (13, 0, 0) p → I (12, 4, 0) (32 * p + i) = I0 (12, 4, 0) (32 * p + i)) ∧ I (3, 0, 0) 4 ≤ gz_cnt (gz_aX I) ∧ I (3, 0, 0) 5 = gz_tot (gz_aX I) - gz_tot (gz_aX I0)
theorem gz_FI_same {I0 I I' : gz_M} (h : gz_FI I0 I) (h3 : I' (3, 0, 0) = I (3, 0, 0)) (h11 : I' (11, 4, 0) = I (11, 4, 0)) (h12 : I' (12, 4, 0) = I (12, 4, 0)) (h13 : I' (13, 0, 0) = I (13, 0, 0)) (h14 : I' (14, 0, 0) = I (14, 0, 0)) (h15 : I' (15, 0, 0) = I (15, 0, 0)) : gz_FI I0 I' ∧ gz_aX I' = gz_aX I := by
  have ha : gz_aX I' = gz_aX I := by
    funext c p i
    unfold gz_aX
    rw [h11, h12, h13, h14]
  refine ⟨?_, ha⟩
  unfold gz_FI
  rw [ha, h3, h11, h12, h13, h14, h15]
  exact h
theorem gz_FI_mkp {I0 I : gz_M} (hT0 : gz_T I0) (hT : gz_T I) {w : gz_P} {s n x : Int} (h : gz_FI I0 I) (hn : 0 < n ∧ n ≤ 32) (hx : 0 ≤ x ∧ x < 120) (hz : I (13, 0, 0) x = 0) : gz_FI I0 (gz_mkp I w s n (gz_dg (fun i => I w (s + i)) n.toNat) x) := by
  obtain ⟨f1, f2, f3, f4, f5, f6, f7⟩ := h
  have h0 : gz_aX I 0 x 0 = 0 := (gz_z_X hx).mpr hz
  have hlt := gz_cnt_lt (S := gz_aX I) hx h0
  have hx0 : I0 (13, 0, 0) x = 0 := by
    apply Classical.byContradiction
    intro hne
    have := gz_t13 hT0 0 0 x
    have := (f5 x hx.1 hx.2 (by omega)).1
    omega
  have r4 : gz_mkp I w s n (gz_dg (fun i => I w (s + i)) n.toNat) x (3, 0, 0) 4 = I (3, 0, 0) 4 + 1 := by rw [gz_mkp_3]; rfl
  have r5 : gz_mkp I w s n (gz_dg (fun i => I w (s + i)) n.toNat) x (3, 0, 0) 5 = I (3, 0, 0) 5 + n := by rw [gz_mkp_3]; rfl
  unfold gz_FI
  rw [r4, r5, gz_mkp_a hT hn hx, gz_cnt_add hx h0 hn.1, gz_tot_add hx h0]
  refine ⟨by omega, fun j a1 a2 => ?_, fun i j a1 a2 a3 a4 e => ?_, fun p a1 a2 a3 => ?_, fun p a1 a2 a3 => ?_, by omega, by omega⟩
  · rw [gz_mkp_15]
    by_cases z : j = I (3, 0, 0) 4
    · rw [if_pos z, gz_mkp_13, if_pos rfl]
      exact ⟨hx0, hn.1⟩
    · rw [if_neg z, gz_mkp_13]
      have := f2 j a1 (by omega)
      refine ⟨this.1, ?_⟩
      split
      · exact hn.1
      · exact this.2
  · rw [gz_mkp_15, gz_mkp_15] at e
    by_cases z1 : i = I (3, 0, 0) 4
    · by_cases z2 : j = I (3, 0, 0) 4
      · omega
      · rw [if_pos z1, if_neg z2] at e
        have := (f2 j a3 (by omega)).2
        rw [← e] at this
        omega
    · by_cases z2 : j = I (3, 0, 0) 4
      · rw [if_neg z1, if_pos z2] at e
        have := (f2 i a1 (by omega)).2
        rw [e] at this
        omega
      · rw [if_neg z1, if_neg z2] at e
        exact f3 i j a1 (by omega) a3 (by omega) e
  · have hpx : ¬ p = x := fun e => a3 (I (3, 0, 0) 4) (by omega) (by omega) (by rw [gz_mkp_15, if_pos rfl]; exact e.symm)
    rw [gz_mkp_13, if_neg hpx]
    refine f4 p a1 a2 (fun j b1 b2 e => a3 j b1 (by omega) ?_)
    rw [gz_mkp_15, if_neg (by omega)]
    exact e
  · have hpx : ¬ p = x := fun e => by rw [e] at a3; omega
    obtain ⟨g1, g2, g3, g4⟩ := f5 p a1 a2 a3
    refine ⟨by rw [gz_mkp_13, if_neg hpx]; exact g1, by rw [gz_mkp_14, if_neg hpx]; exact g2, by rw [gz_mkp_11, if_neg (fun e => hpx e.2)]; exact g3, fun i b1 b2 => ?_⟩
    have := gz_t13 hT0 0 0 p
    rw [gz_mkp_12, if_neg (by omega)]
    exact g4 i b1 b2
theorem gz_aX_eq {I I0 : gz_M} (h13 : ∀ p, 0 ≤ p → p < 120 → I (13, 0, 0) p = I0 (13, 0, 0) p) (h : ∀ p, 0 ≤ p → p < 120 → 0 < I0 (13, 0, 0) p → I (14, 0, 0) p = I0 (14, 0, 0) p ∧ I (11, 4, 0) p = I0 (11, 4, 0) p ∧ ∀ i, 0 ≤ i → i < I0 (13, 0, 0) p → I (12, 4, 0) (32 * p + i) = I0 (12, 4, 0) (32 * p + i)) : gz_aX I = gz_aX I0 := by
  funext c p i
  unfold gz_aX
  by_cases hp : 0 ≤ p ∧ p < 120
  · rw [h13 p hp.1 hp.2]
    by_cases hz : 0 < I0 (13, 0, 0) p
    · obtain ⟨h1, h2, h3⟩ := h p hp.1 hp.2 hz
      rw [h1, h2]
      match c with
      | 0 => rfl
      | 1 => rfl
      | 2 => rfl
      | 3 =>
        show (if (0 ≤ p ∧ p < 120) ∧ 0 ≤ i ∧ i < I0 (13, 0, 0) p then I (12, 4, 0) (32 * p + i) else 0) = if (0 ≤ p ∧ p < 120) ∧ 0 ≤ i ∧ i < I0 (13, 0, 0) p then I0 (12, 4, 0) (32 * p + i) else 0
        by_cases hi : (0 ≤ p ∧ p < 120) ∧ 0 ≤ i ∧ i < I0 (13, 0, 0) p
        · rw [if_pos hi, if_pos hi, h3 i hi.2.1 hi.2.2]
        · rw [if_neg hi, if_neg hi]
      | c + 4 => rfl
    · match c with
      | 0 => rfl
      | 1 =>
        show (if (0 ≤ p ∧ p < 120) ∧ 0 < I0 (13, 0, 0) p then _ else 0) = if (0 ≤ p ∧ p < 120) ∧ 0 < I0 (13, 0, 0) p then _ else 0
        rw [if_neg (fun e => hz e.2), if_neg (fun e => hz e.2)]
      | 2 =>
        show (if (0 ≤ p ∧ p < 120) ∧ 0 < I0 (13, 0, 0) p then _ else 0) = if (0 ≤ p ∧ p < 120) ∧ 0 < I0 (13, 0, 0) p then _ else 0
        rw [if_neg (fun e => hz e.2), if_neg (fun e => hz e.2)]
      | 3 =>
        show (if (0 ≤ p ∧ p < 120) ∧ 0 ≤ i ∧ i < I0 (13, 0, 0) p then _ else 0) = if (0 ≤ p ∧ p < 120) ∧ 0 ≤ i ∧ i < I0 (13, 0, 0) p then _ else 0
        rw [if_neg (by omega), if_neg (by omega)]
      | c + 4 => rfl
  · match c with
    | 0 =>
      show (if 0 ≤ p ∧ p < 120 then _ else 0) = if 0 ≤ p ∧ p < 120 then _ else 0
      rw [if_neg hp, if_neg hp]
    | 1 =>
      show (if (0 ≤ p ∧ p < 120) ∧ _ then _ else 0) = if (0 ≤ p ∧ p < 120) ∧ _ then _ else 0
      rw [if_neg (fun e => hp e.1), if_neg (fun e => hp e.1)]
    | 2 =>
      show (if (0 ≤ p ∧ p < 120) ∧ _ then _ else 0) = if (0 ≤ p ∧ p < 120) ∧ _ then _ else 0
      rw [if_neg (fun e => hp e.1), if_neg (fun e => hp e.1)]
    | 3 =>
      show (if (0 ≤ p ∧ p < 120) ∧ _ then _ else 0) = if (0 ≤ p ∧ p < 120) ∧ _ then _ else 0
      rw [if_neg (fun e => hp e.1), if_neg (fun e => hp e.1)]
    | c + 4 => rfl
set_option maxHeartbeats 4000000 in
set_option maxRecDepth 100000 in
theorem lp_X3_undoMarking (l : Launch) (D : va_G) (α : gz_P → Nat) (cA : Nat → ClassId) {I0 I1 : gz_M} (hT0 : gz_T I0) (hF : gz_FI I0 I1) : ∀ i, i ≤ I1 (3, 0, 0) 4 → ∀ I : gz_M, 0 ≤ i → gz_T I → gz_E I → I (3, 0, 0) 4 = I1 (3, 0, 0) 4 → (∀ q, q ≠ (3, 0, 0) → q ≠ (11, 4, 0) → q ≠ (13, 0, 0) → I q = I1 q) → (∀ j, 0 ≤ j → j < i → I (13, 0, 0) (I1 (15, 0, 0) j) = 0) → (∀ p, (∀ j, 0 ≤ j → j < i → ¬ I1 (15, 0, 0) j = p) → I (13, 0, 0) p = I1 (13, 0, 0) p ∧ I (11, 4, 0) p = I1 (11, 4, 0) p) → gz_V l D α cA RX3 cX3_undoMarking none 2 1 (gz_Qv fun I' => gz_T I' ∧ gz_E I' ∧ gz_aX I' = gz_aX I0 ∧ (∀ q, q ≠ (3, 0, 0) → q ≠ (11, 4, 0) → q ≠ (13, 0, 0) → I' q = I1 q) ∧ ∀ p, 0 ≤ p → p < 120 → I' (13, 0, 0) p = I0 (13, 0, 0) p) I [some (.ref (α (3, 0, 0))), some (gz_i (i))] [] 2 := by
  obtain ⟨f1, f2, f3, f4, f5, f6, f7⟩ := hF
  refine gz_upto _ ?_
  intro i hi ih I h0 hTI hEI h4 hI hj hk
  have r15 : I (15, 0, 0) i = I1 (15, 0, 0) i := by rw [hI _ (gz_ne rfl) (gz_ne rfl) (gz_ne rfl)]
  have e15 := gz_t15 hTI 0 0 i
  have e1 := hEI.1
  have e2 := hEI.2
  have e3 := gz_cnt_in (gz_aX I)
  have e4 := gz_tot_in hTI
  refine gz_iload_n (pc := 2) dX3_undoMarking_2 rfl ?_
  first | refine gz_aload_n (pc := 3) dX3_undoMarking_3 rfl ?_ | refine gz_aload_nN (pc := 3) dX3_undoMarking_3 rfl ?_
  refine gz_getI (pc := 4) 4 dX3_undoMarking_4 fl_X3_28 rfl rfl rfl rfl (by first | exact gz_B1 | (omega)) ?_
  refine gz_icmp_ge (pc := 7) (tgt := 26) dX3_undoMarking_7 (by decide) (by omega) (by omega) (fun h7 => ?_) (fun h7 => ?_)
  · refine gz_vret (pc := 26) dX3_undoMarking_26 rfl ?_
    have h13 : ∀ p, 0 ≤ p → p < 120 → I (13, 0, 0) p = I0 (13, 0, 0) p := by
      intro p b1 b2
      by_cases z : ∃ j, (0 ≤ j ∧ j < i) ∧ I1 (15, 0, 0) j = p
      · obtain ⟨j, b3, b4⟩ := z
        rw [← b4, hj j b3.1 b3.2]
        exact (f2 j b3.1 (by omega)).1.symm
      · have z2 : ∀ j, 0 ≤ j → j < i → ¬ I1 (15, 0, 0) j = p := fun j b3 b4 b5 => z ⟨j, ⟨b3, b4⟩, b5⟩
        rw [(hk p z2).1]
        exact f4 p b1 b2 (fun j b3 b4 => z2 j b3 (by omega))
    refine ⟨hTI, hEI, gz_aX_eq h13 (fun p b1 b2 b3 => ?_), hI, h13⟩
    obtain ⟨g1, g2, g3, g4⟩ := f5 p b1 b2 b3
    have z2 : ∀ j, 0 ≤ j → j < i → ¬ I1 (15, 0, 0) j = p := fun j b3 b4 b5 => by have := (f2 j b3 (by omega)).1; rw [b5] at this; omega
    rw [(hk p z2).2, hI (14, 0, 0) (gz_ne rfl) (gz_ne rfl) (gz_ne rfl), hI (12, 4, 0) (gz_ne rfl) (gz_ne rfl) (gz_ne rfl)]
    exact ⟨g2, g3, g4⟩
  · first | refine gz_aload_n (pc := 10) dX3_undoMarking_10 rfl ?_ | refine gz_aload_nN (pc := 10) dX3_undoMarking_10 rfl ?_
    first | refine gz_aload_n (pc := 11) dX3_undoMarking_11 rfl ?_ | refine gz_aload_nN (pc := 11) dX3_undoMarking_11 rfl ?_
    refine gz_getr (pc := 12) dX3_undoMarking_12 fl_X3_25 rfl rfl rfl (by first | exact gz_B1 | (omega)) ?_
    refine gz_iload_n (pc := 15) dX3_undoMarking_15 rfl ?_
    refine gz_iald (pc := 16) dX3_undoMarking_16 rfl rfl (by first | exact gz_B1 | (omega)) (by omega) ?_
    rw [r15]
    refine gz_cV1v (pc := 17) dX3_undoMarking_17 wm_X3_60 my_X3_takeAway rfl rfl rfl (by first | exact gz_B1 | (omega)) (ct_X3_takeAway l D α cA (by omega)) (fun I17 h17 => ?_)
    subst h17
    refine gz_iinc (pc := 20) dX3_undoMarking_20 rfl rfl rfl rfl ?_
    refine gz_goto (pc := 23) (tgt := 2) dX3_undoMarking_23 (by decide) ?_
    have hpos : 0 < I (13, 0, 0) (I1 (15, 0, 0) i) := by
      rw [(hk _ (fun j b1 b2 e => by have := f3 j i b1 (by omega) h0 (by omega) e; omega)).1]
      exact (f2 i h0 (by omega)).2
    refine ih (i + 1) (by omega) (by omega) _ (by omega) (gz_tk1_T hTI (by omega) (by omega)) (gz_tk1_E hEI (by omega) hpos) (by rw [gz_tk1_3]; exact h4) (fun q q1 q2 q3 => by rw [gz_tk1_o ⟨q1, q3, q2⟩]; exact hI q q1 q2 q3) (fun j b1 b2 => ?_) (fun p hp => ?_)
    · rw [gz_tk1_13]
      by_cases z : j = i
      · rw [z, if_pos rfl]
      · split
        · rfl
        · exact hj j b1 (by omega)
    · have hne : ¬ p = I1 (15, 0, 0) i := fun e => hp i h0 (by omega) e.symm
      rw [gz_tk1_13, gz_tk1_11, if_neg hne, if_neg (fun e => hne e.2)]
      exact hk p (fun j b1 b2 => hp j b1 (by omega))
set_option maxHeartbeats 4000000 in
set_option maxRecDepth 100000 in
theorem ct_X3_undoMarking (l : Launch) (D : va_G) (α : gz_P → Nat) (cA : Nat → ClassId) {I0 I1 : gz_M} (hT0 : gz_T I0) (hF : gz_FI I0 I1) (hT : gz_T I1) (hE : gz_E I1) : gz_V l D α cA RX3 cX3_undoMarking none 2 1 (gz_Qv fun I' => gz_T I' ∧ gz_E I' ∧ gz_aX I' = gz_aX I0 ∧ (∀ q, q ≠ (3, 0, 0) → q ≠ (11, 4, 0) → q ≠ (13, 0, 0) → I' q = I1 q) ∧ ∀ p, 0 ≤ p → p < 120 → I' (13, 0, 0) p = I0 (13, 0, 0) p) I1 [some (.ref (α (3, 0, 0))), none] [] 0 := by
  refine gz_iconst (pc := 0) dX3_undoMarking_0 ?_
  refine gz_istore_n (pc := 1) dX3_undoMarking_1 rfl rfl rfl ?_
  exact lp_X3_undoMarking l D α cA hT0 hF 0 hF.1.1 I1 (by omega) hT hE rfl (fun q _ _ _ => rfl) (fun j a1 a2 => by omega) (fun p _ => ⟨rfl, rfl⟩)
