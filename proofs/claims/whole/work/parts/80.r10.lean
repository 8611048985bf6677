theorem gz_hi_ne {q : gz_P} {r : Nat} {a b : Int} (h : 20 ≤ q.1) (hr : Nat.blt r 20 = true) : q ≠ (r, a, b) := fun e => by
  rw [e] at h
  have hr' : r + 1 ≤ 20 := Nat.le_of_ble_eq_true hr
  have h' : 20 ≤ r := h
  omega
theorem gz_lo_ne {q : gz_P} {r : Nat} {a b : Int} (h : q.1 < 20) (hr : Nat.ble 20 r = true) : q ≠ (r, a, b) := fun e => by
  rw [e] at h
  have hr' : 20 ≤ r := Nat.le_of_ble_eq_true hr
  have h' : r < 20 := h
  omega
theorem gz_hi_n1 {q : gz_P} {r : Nat} (h : 20 ≤ q.1) (hr : Nat.blt r 20 = true) : q.1 ≠ r := fun e => by
  have hr' : r + 1 ≤ 20 := Nat.le_of_ble_eq_true hr
  omega
/-- what a call of the class leaves: the reference's regions; and the types hold -/
def gz_fX (I I1 : gz_M) : Prop := gz_T I1 ∧ ∀ q : gz_P, 20 ≤ q.1 → I1 q = I q
/-- what a call of the reference leaves: the class's regions -/
def gz_fM (I I1 : gz_M) : Prop := gz_T I1 ∧ ∀ q : gz_P, q.1 < 20 → I1 q = I q
theorem gz_fX_e {I I1 : gz_M} (hT : gz_T I) (e : I = I1) : gz_fX I I1 := by
  subst e
  exact ⟨hT, fun _ _ => rfl⟩
theorem gz_fM_e {I I1 : gz_M} (hT : gz_T I) (e : I = I1) : gz_fM I I1 := by
  subst e
  exact ⟨hT, fun _ _ => rfl⟩
theorem fX_state {I I1 : gz_M} (hT : gz_T I) {t i : Int} {x : Int} (hX : gz_qX_state I t i x I1) : gz_fX I I1 := gz_fX_e hT hX.1
theorem fM_state {J J2 : gz_M} (hT : gz_T J) {t i : Int} {y : Int} (hM : gz_qM_state J t i y J2) : gz_fM J J2 := gz_fM_e hT hM.1
theorem fX_usable {I I1 : gz_M} (hT : gz_T I) {m : Int} {x : Int} (hX : gz_qX_usable I m x I1) : gz_fX I I1 := gz_fX_e hT hX.1
theorem fM_usable {J J2 : gz_M} (hT : gz_T J) {m : Int} {y : Int} (hM : gz_qM_usable J m y J2) : gz_fM J J2 := gz_fM_e hT hM.1
theorem fX_markTold {I I1 : gz_M} (hT : gz_T I) {m w : Int} {x : Int} (hX : gz_qX_markTold I m w x I1) : gz_fX I I1 := gz_fX_e hT hX.1
theorem fM_markTold {J J2 : gz_M} (hT : gz_T J) {m w : Int} {y : Int} (hM : gz_qM_markTold J m w y J2) : gz_fM J J2 := gz_fM_e hT hM.1
theorem fX_list {I I1 : gz_M} (hT : gz_T I) {m t j : Int} {x : Int} (hX : gz_qX_list I m t j x I1) : gz_fX I I1 := gz_fX_e hT hX.1
theorem fM_list {J J2 : gz_M} (hT : gz_T J) {m t j : Int} {y : Int} (hM : gz_qM_list J m t j y J2) : gz_fM J J2 := gz_fM_e hT hM.1
theorem fX_same {I I1 : gz_M} (hT : gz_T I) {m n : Int} {x : Int} (hX : gz_qX_same I m n x I1) : gz_fX I I1 := gz_fX_e hT hX.1
theorem fM_same {J J2 : gz_M} (hT : gz_T J) {m n : Int} {y : Int} (hM : gz_qM_same J m n y J2) : gz_fM J J2 := gz_fM_e hT hM.1
theorem fX_partTold {I I1 : gz_M} (hT : gz_T I) {p w : Int} {x : Int} (hX : gz_qX_partTold I p w x I1) : gz_fX I I1 := gz_fX_e hT hX.1
theorem fM_partTold {J J2 : gz_M} (hT : gz_T J) {p w : Int} {y : Int} (hM : gz_qM_partTold J p w y J2) : gz_fM J J2 := gz_fM_e hT hM.1
theorem fX_partByte {I I1 : gz_M} (hT : gz_T I) {p t i : Int} {x : Int} (hX : gz_qX_partByte I p t i x I1) : gz_fX I I1 := gz_fX_e hT hX.1
theorem fM_partByte {J J2 : gz_M} (hT : gz_T J) {p t i : Int} {y : Int} (hM : gz_qM_partByte J p t i y J2) : gz_fM J J2 := gz_fM_e hT hM.1
theorem fX_told {I I1 : gz_M} (hT : gz_T I) {w : Int} {x : Int} (hX : gz_qX_told I w x I1) : gz_fX I I1 := gz_fX_e hT hX.1
theorem fM_told {J J2 : gz_M} (hT : gz_T J) {w : Int} {y : Int} (hM : gz_qM_told J w y J2) : gz_fM J J2 := gz_fM_e hT hM.1
theorem fM_chunk {J J2 : gz_M} (hT : gz_T J) {t i : Int} {y : Int} (hM : gz_qM_chunk J t i y J2) : gz_fM J J2 := gz_fM_e hT hM.1
theorem fX_chunk {I I1 : gz_M} (hT : gz_T I) {t i : Int} {x : Int} (hX : gz_qX_chunk I t i x I1) : gz_fX I I1 := ⟨hX.1, fun q h => hX.2.1 q (gz_hi_n1 h rfl)⟩
theorem fX_insert {I I1 : gz_M} (hT : gz_T I) {t a n : Int} {v : Int64} {x : Int} (hX : gz_qX_insert I t a n v x I1) : gz_fX I I1 := by
  rcases hX with ⟨-, -, e⟩ | ⟨-, -, -, e⟩ | ⟨-, -, -, t, -, -, f⟩
  · exact gz_fX_e hT e
  · exact gz_fX_e hT e
  · exact ⟨t, fun q h => f q (gz_hi_ne h rfl) (gz_hi_ne h rfl)⟩
theorem fM_insert {J J2 : gz_M} (hT : gz_T J) {t a n : Int} {v : Int64} {y : Int} (hM : gz_qM_insert J t a n v y J2) : gz_fM J J2 := by
  rcases hM with ⟨-, -, e⟩ | ⟨-, -, -, e⟩ | ⟨-, -, -, t, -, -, -, -, f⟩
  · exact gz_fM_e hT e
  · exact gz_fM_e hT e
  · exact ⟨t, fun q h => f q (gz_lo_ne h rfl) (gz_lo_ne h rfl)⟩
theorem fX_extend {I I1 : gz_M} (hT : gz_T I) {t n v w : Int} {x : Int} (hX : gz_qX_extend I t n v w x I1) : gz_fX I I1 := by
  rcases hX with ⟨-, -, e⟩ | ⟨-, -, -, e⟩ | ⟨-, -, -, t, -, -, f⟩
  · exact gz_fX_e hT e
  · exact gz_fX_e hT e
  · exact ⟨t, fun q h => f q (gz_hi_ne h rfl) (gz_hi_ne h rfl)⟩
theorem fM_extend {J J2 : gz_M} (hT : gz_T J) {t n v w : Int} {y : Int} (hM : gz_qM_extend J t n v w y J2) : gz_fM J J2 := by
  rcases hM with ⟨-, -, e⟩ | ⟨-, -, -, e⟩ | ⟨-, -, -, t, -, -, -, -, f⟩
  · exact gz_fM_e hT e
  · exact gz_fM_e hT e
  · exact ⟨t, fun q h => f q (gz_lo_ne h rfl) (gz_lo_ne h rfl)⟩
theorem fX_remove {I I1 : gz_M} (hT : gz_T I) {t a n : Int} {x : Int} (hX : gz_qX_remove I t a n x I1) : gz_fX I I1 := by
  rcases hX with ⟨-, -, e⟩ | ⟨-, -, t, -, -, f⟩
  · exact gz_fX_e hT e
  · exact ⟨t, fun q h => f q (gz_hi_ne h rfl) (gz_hi_ne h rfl)⟩
theorem fM_remove {J J2 : gz_M} (hT : gz_T J) {t a n : Int} {y : Int} (hM : gz_qM_remove J t a n y J2) : gz_fM J J2 := by
  rcases hM with ⟨-, -, e⟩ | ⟨-, -, t, -, -, -, -, f⟩
  · exact gz_fM_e hT e
  · exact ⟨t, fun q h => f q (gz_lo_ne h rfl) (gz_lo_ne h rfl)⟩
theorem fX_rescale {I I1 : gz_M} (hT : gz_T I) {n : Int} {x : Int} (hX : gz_qX_rescale I n x I1) : gz_fX I I1 := by
  rcases hX with ⟨-, -, e⟩ | ⟨-, -, -, e⟩ | ⟨-, -, -, t, -, -, -, -, f⟩
  · exact gz_fX_e hT e
  · exact gz_fX_e hT e
  · exact ⟨t, fun q h => f q (gz_hi_ne h rfl) (gz_hi_ne h rfl) (fun _ _ _ => ⟨(gz_hi_ne h rfl), (gz_hi_ne h rfl)⟩) (fun _ _ _ => (gz_hi_ne h rfl))⟩
theorem fM_rescale {J J2 : gz_M} (hT : gz_T J) {n : Int} {y : Int} (hM : gz_qM_rescale J n y J2) : gz_fM J J2 := by
  rcases hM with ⟨-, -, e⟩ | ⟨-, K1, t, f, -, ⟨-, -, rfl⟩ | ⟨-, -, K, ⟨-, -, -, f2⟩, t3, -, -, -, -, f3⟩⟩
  · exact gz_fM_e hT e
  · exact ⟨t, fun q h => f q (gz_lo_ne h rfl)⟩
  · exact ⟨t3, fun q h => by rw [f3 q (gz_lo_ne h rfl) (gz_lo_ne h rfl) (gz_lo_ne h rfl), f2 q (gz_lo_ne h rfl) (gz_lo_ne h rfl), f q (gz_lo_ne h rfl)]⟩
theorem fX_mark {I I1 : gz_M} (hT : gz_T I) {k w : Int} {x : Int} (hX : gz_qX_mark I k w x I1) : gz_fX I I1 := by
  rcases hX with ⟨-, -, e⟩ | ⟨-, -, -, e⟩ | ⟨-, -, -, -, t, -, -, -, f⟩ | ⟨-, -, -, ⟨t, -⟩, -, -, -, -, -, f⟩
  · exact gz_fX_e hT e
  · exact gz_fX_e hT e
  · exact ⟨t, fun q h => f q (gz_hi_n1 h rfl) (gz_hi_n1 h rfl) (gz_hi_n1 h rfl) (gz_hi_n1 h rfl) (gz_hi_n1 h rfl) (gz_hi_ne h rfl) (gz_hi_ne h rfl) (fun _ => (gz_hi_ne h rfl)) (gz_hi_ne h rfl) (gz_hi_ne h rfl)⟩
  · exact ⟨t, fun q h => f q (gz_hi_n1 h rfl) (gz_hi_n1 h rfl) (gz_hi_n1 h rfl) (gz_hi_n1 h rfl) (gz_hi_n1 h rfl) (gz_hi_ne h rfl) (gz_hi_ne h rfl) (fun _ => (gz_hi_ne h rfl)) (gz_hi_ne h rfl) (gz_hi_ne h rfl) (gz_hi_ne h rfl) (fun _ _ _ => ⟨(gz_hi_ne h rfl), (gz_hi_ne h rfl)⟩)⟩
theorem fM_mark {J J2 : gz_M} (hT : gz_T J) {w : Int} {y : Int} (hM : gz_MkQ J w y J2) : gz_fM J J2 := by
  rcases hM with ⟨-, -, e⟩ | ⟨-, -, -, e⟩ | ⟨-, s, -, -, ⟨-, t, -, ⟨f, -, -⟩, -⟩ | ⟨-, K1, u, ⟨-, ⟨f, -, -⟩, -⟩, -, t, -, -, -, f2⟩⟩
  · exact gz_fM_e hT e
  · exact gz_fM_e hT e
  · exact ⟨t, fun q h => f q (gz_lo_ne h rfl) (gz_lo_ne h rfl) (gz_lo_ne h rfl) (gz_lo_ne h rfl) (gz_lo_ne h rfl) (gz_lo_ne h rfl) (gz_lo_ne h rfl)⟩
  · exact ⟨t, fun q h => by rw [f2 q (gz_lo_ne h rfl) (gz_lo_ne h rfl), gz_up_ne (gz_lo_ne h rfl), gz_m1_o (gz_lo_ne h rfl) (gz_lo_ne h rfl) (gz_lo_ne h rfl) (gz_lo_ne h rfl) (gz_lo_ne h rfl) (gz_lo_ne h rfl) (gz_lo_ne h rfl), f q (gz_lo_ne h rfl) (gz_lo_ne h rfl) (gz_lo_ne h rfl) (gz_lo_ne h rfl) (gz_lo_ne h rfl) (gz_lo_ne h rfl) (gz_lo_ne h rfl)]⟩
theorem fX_drop {I I1 : gz_M} (hT : gz_T I) {m : Int} {x : Int} (hX : gz_qX_drop I m x I1) : gz_fX I I1 := by
  rcases hX with ⟨-, -, e⟩ | ⟨i, -, -, K, hL, -, t, -, -, -, -, f⟩
  · exact gz_fX_e hT e
  · exact ⟨t, fun q h => by rw [f q (gz_hi_n1 h rfl) (gz_hi_n1 h rfl) (gz_hi_n1 h rfl) (gz_hi_n1 h rfl), hL.2.2.2.1 q (gz_hi_ne h rfl) (gz_hi_ne h rfl), gz_up_ne (gz_hi_ne h rfl)]⟩
theorem fM_drop {J J2 : gz_M} (hT : gz_T J) {m : Int} {y : Int} (hM : gz_qM_drop J m y J2) : gz_fM J J2 := by
  rcases hM with ⟨-, e, -⟩ | ⟨s, -, K, ⟨-, -, -, f1⟩, ⟨⟨t, f2, -⟩, -⟩, -⟩
  · exact gz_fM_e hT e
  · exact ⟨t, fun q h => by rw [f2 q (gz_lo_ne h rfl), f1 q (gz_lo_ne h rfl) (gz_lo_ne h rfl), gz_up_ne (gz_lo_ne h rfl)]⟩
theorem fX_back {I I1 : gz_M} (hT : gz_T I) {m : Int} {x : Int} (hX : gz_qX_back I m x I1) : gz_fX I I1 := by
  rcases hX with ⟨-, -, e⟩ | ⟨-, -, -, e⟩ | ⟨-, i, -, -, -, -, t, -, -, -, -, f⟩
  · exact gz_fX_e hT e
  · exact gz_fX_e hT e
  · exact ⟨t, fun q h => f q (gz_hi_ne h rfl) (fun _ _ _ => ⟨(gz_hi_ne h rfl), (gz_hi_ne h rfl), (gz_hi_ne h rfl), (gz_hi_ne h rfl)⟩) (fun _ _ _ => (gz_hi_ne h rfl))⟩
theorem fM_back {J J2 : gz_M} (hT : gz_T J) {m : Int} {y : Int} (hM : gz_qM_back J m y J2) : gz_fM J J2 := by
  rcases hM with ⟨-, -, e⟩ | ⟨-, -, -, e⟩ | ⟨-, s, -, -, -, -, ⟨t, -, -, f⟩, -⟩
  · exact gz_fM_e hT e
  · exact gz_fM_e hT e
  · exact ⟨t, fun q h => f q (gz_lo_ne h rfl) (gz_lo_ne h rfl) (gz_lo_ne h rfl) (gz_lo_ne h rfl) (gz_lo_ne h rfl)⟩
theorem fX_alter {I I1 : gz_M} (hT : gz_T I) {p t i z : Int} {x : Int} (hX : gz_qX_alter I p t i z x I1) : gz_fX I I1 := by
  rcases hX with ⟨-, e, -⟩ | ⟨a, -, ⟨-, -, e⟩ | ⟨c, -, rfl⟩⟩
  · exact gz_fX_e hT e
  · exact gz_fX_e hT e
  · exact ⟨gz_Tu12 hT (gz_x_in (gz_t12 hT _ _ _) c.2), fun q h => gz_up_ne (gz_hi_ne h rfl)⟩
theorem fM_alter {J J2 : gz_M} (hT : gz_T J) {p t i z : Int} {y : Int} (hM : gz_qM_alter J p t i z y J2) : gz_fM J J2 := by
  rcases hM with ⟨-, -, e⟩ | ⟨c, ⟨-, -, rfl⟩ | ⟨-, -, rfl⟩⟩
  · exact gz_fM_e hT e
  · exact ⟨gz_Tu27 hT (gz_x_in (gz_t27 hT _ _ _) c.2), fun q h => gz_up_ne (gz_lo_ne h rfl)⟩
  · exact ⟨gz_Tu29 hT (gz_x_in (gz_t29 hT _ _ _) c.2), fun q h => gz_up_ne (gz_lo_ne h rfl)⟩
theorem fX_lose {I I1 : gz_M} (hT : gz_T I) {p t : Int} {x : Int} (hX : gz_qX_lose I p t x I1) : gz_fX I I1 := by
  rcases hX with ⟨-, e, -⟩ | ⟨a, -, ⟨-, -, e⟩ | ⟨c, -, rfl⟩⟩
  · exact gz_fX_e hT e
  · exact gz_fX_e hT e
  · exact ⟨gz_Tu11 hT (by decide), fun q h => gz_up_ne (gz_hi_ne h rfl)⟩
theorem fM_lose {J J2 : gz_M} (hT : gz_T J) {p t : Int} {y : Int} (hM : gz_qM_lose J p t y J2) : gz_fM J J2 := by
  rcases hM with ⟨-, -, e⟩ | ⟨c, -, ⟨-, rfl⟩ | ⟨-, rfl⟩⟩
  · exact gz_fM_e hT e
  · exact ⟨gz_Tu26 hT (by decide), fun q h => gz_up_ne (gz_lo_ne h rfl)⟩
  · exact ⟨gz_Tu28 hT (by decide), fun q h => gz_up_ne (gz_lo_ne h rfl)⟩
theorem gz_RR.loc {n : Int} {I J I' J' : gz_M} (hT : gz_T I) (h : gz_RR n I J) (hI : ∀ q : gz_P, q.1 < 20 → I' q = I q) (hJ : ∀ q : gz_P, 20 ≤ q.1 → J' q = J q) : gz_RR n I' J' := by
  have hk4 := gz_tk hT 0 0
  have i : ∀ (r : Nat) (a b : Int), Nat.blt r 20 = true → I' (r, a, b) = I (r, a, b) := fun r a b e => hI _ (Nat.le_of_ble_eq_true e)
  have j : ∀ (r : Nat), Nat.ble 20 r = true → J' (r, 0, 0) = J (r, 0, 0) := fun r e => hJ _ (Nat.le_of_ble_eq_true e)
  refine ⟨h.1.cong (i _ _ _ rfl) (gz_aX_cong (i _ _ _ rfl) (i _ _ _ rfl) (i _ _ _ rfl) (i _ _ _ rfl)) (gz_aM_cong (j _ rfl) (j _ rfl) (j _ rfl) (j _ rfl)), ?_, h.2.2.1.cong (by omega) (by rw [i _ _ _ rfl]) (fun _ => i _ _ _ rfl) (fun _ => i _ _ _ rfl) (fun _ _ _ => i _ _ _ rfl) (fun _ _ _ => i _ _ _ rfl) (j _ rfl) (j _ rfl) (j _ rfl) (j _ rfl), h.2.2.2.cong (i _ _ _ rfl) (by rw [i _ _ _ rfl]) (by rw [i _ _ _ rfl]; omega) (fun _ => i _ _ _ rfl) (fun _ => i _ _ _ rfl) (fun _ _ => i _ _ _ rfl) (i _ _ _ rfl) (fun q a b => hJ q (by omega))⟩
  unfold gz_RB
  rw [i _ _ _ rfl, j _ rfl]
  exact h.2.1
/-- THE INVARIANT: class and reference in one memory -/
def gz_R (n : Int) (I : gz_M) : Prop := gz_T I ∧ gz_RR n I I
theorem gz_R.step {n : Int} {I I1 I2 : gz_M} (hT : gz_T I) (h : gz_RR n I I) (f1 : gz_fX I I1) (f2 : gz_fM I1 I2) (k : gz_RR n I I1 → gz_RR (n + 1) I1 I2) : gz_R (n + 1) I2 := ⟨f2.1, (k (h.loc hT (fun _ _ => rfl) f1.2)).loc f1.1 f2.2 (fun _ _ => rfl)⟩
theorem st_insert {c : Int} {I I1 I2 : gz_M} (h : gz_R c I) {t a n : Int} {v : Int64} {x y : Int} (hX : gz_qX_insert I t a n v x I1) (hM : gz_qM_insert I1 t a n v y I2) : x = y ∧ gz_R (c + 1) I2 := by
  have f1 := fX_insert h.1 hX
  have f2 := fM_insert f1.1 hM
  have e := pr_insert h.1 f1.1 (h.2.loc h.1 (fun _ _ => rfl) f1.2) hX hM
  exact ⟨e.1, gz_R.step h.1 h.2 f1 f2 (fun _ => e.2)⟩
theorem st_remove {c : Int} {I I1 I2 : gz_M} (h : gz_R c I) {t a n : Int} {x y : Int} (hX : gz_qX_remove I t a n x I1) (hM : gz_qM_remove I1 t a n y I2) : x = y ∧ gz_R (c + 1) I2 := by
  have f1 := fX_remove h.1 hX
  have f2 := fM_remove f1.1 hM
  have e := pr_remove h.1 f1.1 (h.2.loc h.1 (fun _ _ => rfl) f1.2) hX hM
  exact ⟨e.1, gz_R.step h.1 h.2 f1 f2 (fun _ => e.2)⟩
theorem st_extend {c : Int} {I I1 I2 : gz_M} (h : gz_R c I) {t n v w : Int} {x y : Int} (hX : gz_qX_extend I t n v w x I1) (hM : gz_qM_extend I1 t n v w y I2) : x = y ∧ gz_R (c + 1) I2 := by
  have f1 := fX_extend h.1 hX
  have f2 := fM_extend f1.1 hM
  have e := pr_extend h.1 f1.1 (h.2.loc h.1 (fun _ _ => rfl) f1.2) hX hM
  exact ⟨e.1, gz_R.step h.1 h.2 f1 f2 (fun _ => e.2)⟩
theorem st_state {c : Int} {I I1 I2 : gz_M} (h : gz_R c I) {t i : Int} {x y : Int} (hX : gz_qX_state I t i x I1) (hM : gz_qM_state I1 t i y I2) : x = y ∧ gz_R (c + 1) I2 := by
  have f1 := fX_state h.1 hX
  have f2 := fM_state f1.1 hM
  obtain ⟨e, e1, e2⟩ := pr_state h.1 f1.1 (h.2.loc h.1 (fun _ _ => rfl) f1.2) hX hM
  subst e1
  subst e2
  exact ⟨e, h.1, h.2.up⟩
theorem gz_RR.ch9 {n : Int} {I J I' : gz_M} (hT : gz_T I) (h : gz_RR n I J) (hI : ∀ q : gz_P, q.1 ≠ 9 → I' q = I q) : gz_RR n I' J := by
  have hk4 := gz_tk hT 0 0
  have i : ∀ (r : Nat) (a b : Int), (r == 9) = false → I' (r, a, b) = I (r, a, b) := fun r a b e => hI _ (gz_nb e)
  refine ⟨h.1.cong (i _ _ _ rfl) (gz_aX_cong (i _ _ _ rfl) (i _ _ _ rfl) (i _ _ _ rfl) (i _ _ _ rfl)) rfl, ?_, h.2.2.1.cong (by omega) (by rw [i _ _ _ rfl]) (fun _ => i _ _ _ rfl) (fun _ => i _ _ _ rfl) (fun _ _ _ => i _ _ _ rfl) (fun _ _ _ => i _ _ _ rfl) rfl rfl rfl rfl, h.2.2.2.cong (i _ _ _ rfl) (by rw [i _ _ _ rfl]) (by rw [i _ _ _ rfl]; omega) (fun _ => i _ _ _ rfl) (fun _ => i _ _ _ rfl) (fun _ _ => i _ _ _ rfl) (i _ _ _ rfl) (fun q a b => rfl)⟩
  unfold gz_RB
  rw [i _ _ _ rfl]
  exact h.2.1
theorem st_chunk {c : Int} {I I1 I2 : gz_M} (h : gz_R c I) {t i : Int} {x y : Int} (hX : gz_qX_chunk I t i x I1) (hM : gz_qM_chunk I1 t i y I2) : x = y ∧ gz_R (c + 1) I2 := by
  have f1 := fX_chunk h.1 hX
  have f2 := fM_chunk f1.1 hM
  obtain ⟨e, e2⟩ := pr_chunk h.1 f1.1 (h.2.loc h.1 (fun _ _ => rfl) f1.2) hX hM
  subst e2
  refine ⟨e, gz_R.step h.1 h.2 f1 f2 (fun g => ?_)⟩
  refine (gz_RR.ch9 h.1 g hX.2.1).up
theorem st_rescale {c : Int} {I I1 I2 : gz_M} (h : gz_R c I) {n : Int} {x y : Int} (hX : gz_qX_rescale I n x I1) (hM : gz_qM_rescale I1 n y I2) : x = y ∧ gz_R (c + 1) I2 := by
  have f1 := fX_rescale h.1 hX
  have f2 := fM_rescale f1.1 hM
  have e := pr_rescale h.1 f1.1 (h.2.loc h.1 (fun _ _ => rfl) f1.2) hX hM
  exact ⟨e.1, gz_R.step h.1 h.2 f1 f2 (fun _ => e.2)⟩
theorem st_mark {c : Int} {I I1 I2 : gz_M} (h : gz_R c I) {k w : Int} (hk : k = I (4, 0, 0) (I (0, 0, 0) 7)) {x y : Int} (hX : gz_qX_mark I k w x I1) (hM : gz_MkQ I1 w y I2) : x = y ∧ gz_R (c + 1) I2 := by
  have f1 := fX_mark h.1 hX
  have f2 := fM_mark f1.1 hM
  have e := pr_mark h.1 f1.1 (h.2.loc h.1 (fun _ _ => rfl) f1.2) hk hX hM
  exact ⟨e.1, gz_R.step h.1 h.2 f1 f2 (fun _ => e.2)⟩
theorem st_drop {c : Int} {I I1 I2 : gz_M} (h : gz_R c I) {m : Int} {x y : Int} (hX : gz_qX_drop I m x I1) (hM : gz_qM_drop I1 m y I2) : x = y ∧ gz_R (c + 1) I2 := by
  have f1 := fX_drop h.1 hX
  have f2 := fM_drop f1.1 hM
  have e := pr_drop h.1 f1.1 (h.2.loc h.1 (fun _ _ => rfl) f1.2) hX hM
  exact ⟨e.1, gz_R.step h.1 h.2 f1 f2 (fun _ => e.2)⟩
theorem st_back {c : Int} {I I1 I2 : gz_M} (h : gz_R c I) {m : Int} {x y : Int} (hX : gz_qX_back I m x I1) (hM : gz_qM_back I1 m y I2) : x = y ∧ gz_R (c + 1) I2 := by
  have f1 := fX_back h.1 hX
  have f2 := fM_back f1.1 hM
  have e := pr_back h.1 f1.1 (h.2.loc h.1 (fun _ _ => rfl) f1.2) hX hM
  exact ⟨e.1, gz_R.step h.1 h.2 f1 f2 (fun _ => e.2)⟩
theorem st_usable {c : Int} {I I1 I2 : gz_M} (h : gz_R c I) {m : Int} {x y : Int} (hX : gz_qX_usable I m x I1) (hM : gz_qM_usable I1 m y I2) : x = y ∧ gz_R (c + 1) I2 := by
  have f1 := fX_usable h.1 hX
  have f2 := fM_usable f1.1 hM
  obtain ⟨e, e1, e2⟩ := pr_usable h.1 f1.1 (h.2.loc h.1 (fun _ _ => rfl) f1.2) hX hM
  subst e1
  subst e2
  exact ⟨e, h.1, h.2.up⟩
theorem st_markTold {c : Int} {I I1 I2 : gz_M} (h : gz_R c I) {m w : Int} {x y : Int} (hX : gz_qX_markTold I m w x I1) (hM : gz_qM_markTold I1 m w y I2) : x = y ∧ gz_R (c + 1) I2 := by
  have f1 := fX_markTold h.1 hX
  have f2 := fM_markTold f1.1 hM
  obtain ⟨e, e1, e2⟩ := pr_markTold h.1 f1.1 (h.2.loc h.1 (fun _ _ => rfl) f1.2) hX hM
  subst e1
  subst e2
  exact ⟨e, h.1, h.2.up⟩
theorem st_list {c : Int} {I I1 I2 : gz_M} (h : gz_R c I) {m t j : Int} {x y : Int} (hX : gz_qX_list I m t j x I1) (hM : gz_qM_list I1 m t j y I2) : x = y ∧ gz_R (c + 1) I2 := by
  have f1 := fX_list h.1 hX
  have f2 := fM_list f1.1 hM
  obtain ⟨e, e1, e2⟩ := pr_list h.1 f1.1 (h.2.loc h.1 (fun _ _ => rfl) f1.2) hX hM
  subst e1
  subst e2
  exact ⟨e, h.1, h.2.up⟩
theorem st_same {c : Int} {I I1 I2 : gz_M} (h : gz_R c I) {m n : Int} {x y : Int} (hX : gz_qX_same I m n x I1) (hM : gz_qM_same I1 m n y I2) : x = y ∧ gz_R (c + 1) I2 := by
  have f1 := fX_same h.1 hX
  have f2 := fM_same f1.1 hM
  obtain ⟨e, e1, e2⟩ := pr_same h.1 f1.1 (h.2.loc h.1 (fun _ _ => rfl) f1.2) hX hM
  subst e1
  subst e2
  exact ⟨e, h.1, h.2.up⟩
theorem st_partTold {c : Int} {I I1 I2 : gz_M} (h : gz_R c I) {p w : Int} {x y : Int} (hX : gz_qX_partTold I p w x I1) (hM : gz_qM_partTold I1 p w y I2) : x = y ∧ gz_R (c + 1) I2 := by
  have f1 := fX_partTold h.1 hX
  have f2 := fM_partTold f1.1 hM
  obtain ⟨e, e1, e2⟩ := pr_partTold h.1 f1.1 (h.2.loc h.1 (fun _ _ => rfl) f1.2) hX hM
  subst e1
  subst e2
  exact ⟨e, h.1, h.2.up⟩
theorem st_partByte {c : Int} {I I1 I2 : gz_M} (h : gz_R c I) {p t i : Int} {x y : Int} (hX : gz_qX_partByte I p t i x I1) (hM : gz_qM_partByte I1 p t i y I2) : x = y ∧ gz_R (c + 1) I2 := by
  have f1 := fX_partByte h.1 hX
  have f2 := fM_partByte f1.1 hM
  obtain ⟨e, e1, e2⟩ := pr_partByte h.1 f1.1 (h.2.loc h.1 (fun _ _ => rfl) f1.2) hX hM
  subst e1
  subst e2
  exact ⟨e, h.1, h.2.up⟩
theorem st_alter {c : Int} {I I1 I2 : gz_M} (h : gz_R c I) {p t i z : Int} {x y : Int} (hX : gz_qX_alter I p t i z x I1) (hM : gz_qM_alter I1 p t i z y I2) : x = y ∧ gz_R (c + 1) I2 := by
  have f1 := fX_alter h.1 hX
  have f2 := fM_alter f1.1 hM
  have e := pr_alter h.1 f1.1 (h.2.loc h.1 (fun _ _ => rfl) f1.2) hX hM
  exact ⟨e.1, gz_R.step h.1 h.2 f1 f2 (fun _ => e.2)⟩
theorem st_lose {c : Int} {I I1 I2 : gz_M} (h : gz_R c I) {p t : Int} {x y : Int} (hX : gz_qX_lose I p t x I1) (hM : gz_qM_lose I1 p t y I2) : x = y ∧ gz_R (c + 1) I2 := by
  have f1 := fX_lose h.1 hX
  have f2 := fM_lose f1.1 hM
  have e := pr_lose h.1 f1.1 (h.2.loc h.1 (fun _ _ => rfl) f1.2) hX hM
  exact ⟨e.1, gz_R.step h.1 h.2 f1 f2 (fun _ => e.2)⟩
theorem st_told {c : Int} {I I1 I2 : gz_M} (h : gz_R c I) {w : Int} {x y : Int} (hX : gz_qX_told I w x I1) (hM : gz_qM_told I1 w y I2) : x = y ∧ gz_R (c + 1) I2 := by
  have f1 := fX_told h.1 hX
  have f2 := fM_told f1.1 hM
  obtain ⟨e, e1, e2⟩ := pr_told h.1 f1.1 (h.2.loc h.1 (fun _ _ => rfl) f1.2) hX hM
  subst e1
  subst e2
  exact ⟨e, h.1, h.2.up⟩
