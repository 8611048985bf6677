theorem gz_RR.up {n : Int} {I J : gz_M} (h : gz_RR n I J) : gz_RR (n + 1) I J := ⟨h.1, ⟨h.2.1.1, h.2.1.2.1, ⟨h.n0.1, by have := h.n0.2; omega⟩⟩, h.2.2⟩
theorem gz_RR.by4 {n : Int} {I J : gz_M} (hTJ : gz_T J) (h : gz_RR n I J) {p i : Int} : gz_BY J p (-1) i ↔ ((0 ≤ p ∧ p < 120 ∧ 0 < I (13, 0, 0) p) ∧ I (11, 4, 0) p = 1 ∧ 0 ≤ i ∧ i < I (13, 0, 0) p) := by
  have e26 := gz_t26 hTJ 0 0 p
  unfold gz_BY
  constructor
  · rintro ⟨a, b, c⟩
    have e24 := h.p24 (p := p) ⟨a.1, a.2.1⟩
    have e := h.p26 (p := p) ⟨a.1, a.2.1⟩ (by omega)
    rcases c with c | c <;> omega
  · rintro ⟨a, b, c⟩
    have e24 := h.p24 (p := p) ⟨a.1, a.2.1⟩
    have e := h.p26 (p := p) ⟨a.1, a.2.1⟩ (by omega)
    exact ⟨by omega, by omega, Or.inl ⟨rfl, by omega⟩⟩
theorem gz_RR.byt {n : Int} {I J : gz_M} (hT : gz_T I) (h : gz_RR n I J) {t p i : Int} (ht : 0 ≤ t ∧ t < I (0, 0, 0) 6) : gz_BY J p t i ↔ ((0 ≤ p ∧ p < 120 ∧ 0 < I (13, 0, 0) p) ∧ I (11, t, 0) p = 1 ∧ 0 ≤ i ∧ i < I (13, 0, 0) p) := by
  have htk := h.tk
  have hk4 := gz_tk hT 0 0
  unfold gz_BY
  constructor
  · rintro ⟨a, b, c⟩
    have e24 := h.p24 (p := p) ⟨a.1, a.2.1⟩
    have e := h.hs t p ht.1 (by omega) a.1 a.2.1
    rcases c with c | c <;> omega
  · rintro ⟨a, b, c⟩
    have e24 := h.p24 (p := p) ⟨a.1, a.2.1⟩
    have e := h.hs t p ht.1 (by omega) a.1 a.2.1
    exact ⟨by omega, by omega, Or.inr ⟨by omega, by omega⟩⟩
theorem gz_RR.byn {n : Int} {I J : gz_M} (hT : gz_T I) (h : gz_RR n I J) {t p i : Int} (ht : ¬ (t = -1 ∨ 0 ≤ t ∧ t < I (0, 0, 0) 6)) : ¬ gz_BY J p t i := by
  have htk := h.tk
  unfold gz_BY
  rintro ⟨a, b, c⟩
  omega
/-- the store as seen, place by place -/
theorem gz_A_mk {I J : gz_M} (h24 : ∀ p, 0 ≤ p → p < 120 → J (24, 0, 0) p = I (13, 0, 0) p) (h : ∀ p, 0 ≤ p → p < 120 → 0 < I (13, 0, 0) p → J (25, 0, 0) p = I (14, 0, 0) p ∧ 1 - J (26, 0, 0) p = I (11, 4, 0) p ∧ ∀ i, 0 ≤ i → i < I (13, 0, 0) p → J (27, 0, 0) (32 * p + i) = I (12, 4, 0) (32 * p + i)) : gz_aX I = gz_aM J := by
  funext c p i
  unfold gz_aX gz_aM
  match c with
  | 0 =>
    show (if 0 ≤ p ∧ p < 120 then I (13, 0, 0) p else 0) = if 0 ≤ p ∧ p < 120 then J (24, 0, 0) p else 0
    by_cases hp : 0 ≤ p ∧ p < 120
    · rw [if_pos hp, if_pos hp, h24 p hp.1 hp.2]
    · rw [if_neg hp, if_neg hp]
  | 1 =>
    show (if (0 ≤ p ∧ p < 120) ∧ 0 < I (13, 0, 0) p then I (14, 0, 0) p else 0) = if (0 ≤ p ∧ p < 120) ∧ 0 < J (24, 0, 0) p then J (25, 0, 0) p else 0
    by_cases hp : (0 ≤ p ∧ p < 120) ∧ 0 < I (13, 0, 0) p
    · have e := h24 p hp.1.1 hp.1.2
      rw [if_pos hp, if_pos ⟨hp.1, by omega⟩, (h p hp.1.1 hp.1.2 hp.2).1]
    · rw [if_neg hp, if_neg (fun z => hp ⟨z.1, by have := h24 p z.1.1 z.1.2; have := z.2; omega⟩)]
  | 2 =>
    show (if (0 ≤ p ∧ p < 120) ∧ 0 < I (13, 0, 0) p then I (11, 4, 0) p else 0) = if (0 ≤ p ∧ p < 120) ∧ 0 < J (24, 0, 0) p then 1 - J (26, 0, 0) p else 0
    by_cases hp : (0 ≤ p ∧ p < 120) ∧ 0 < I (13, 0, 0) p
    · have e := h24 p hp.1.1 hp.1.2
      rw [if_pos hp, if_pos ⟨hp.1, by omega⟩, (h p hp.1.1 hp.1.2 hp.2).2.1]
    · rw [if_neg hp, if_neg (fun z => hp ⟨z.1, by have := h24 p z.1.1 z.1.2; have := z.2; omega⟩)]
  | 3 =>
    show (if (0 ≤ p ∧ p < 120) ∧ 0 ≤ i ∧ i < I (13, 0, 0) p then I (12, 4, 0) (32 * p + i) else 0) = if (0 ≤ p ∧ p < 120) ∧ 0 ≤ i ∧ i < J (24, 0, 0) p then J (27, 0, 0) (32 * p + i) else 0
    by_cases hp : (0 ≤ p ∧ p < 120) ∧ 0 ≤ i ∧ i < I (13, 0, 0) p
    · have e := h24 p hp.1.1 hp.1.2
      rw [if_pos hp, if_pos ⟨hp.1, by omega⟩, (h p hp.1.1 hp.1.2 (by omega)).2.2 i hp.2.1 hp.2.2]
    · rw [if_neg hp, if_neg (fun z => hp ⟨z.1, by have := h24 p z.1.1 z.1.2; have := z.2; omega⟩)]
  | c + 4 => rfl
theorem gz_ct13 {I I1 : gz_M} (e : I1 (13, 0, 0) = I (13, 0, 0)) : gz_cnt (gz_aX I1) = gz_cnt (gz_aX I) ∧ gz_tot (gz_aX I1) = gz_tot (gz_aX I) := by
  have h : ∀ p, gz_aX I1 0 p 0 = gz_aX I 0 p 0 := fun p => by
    show (if 0 ≤ p ∧ p < 120 then I1 (13, 0, 0) p else 0) = if 0 ≤ p ∧ p < 120 then I (13, 0, 0) p else 0
    rw [e]
  unfold gz_cnt gz_tot
  simp only [h]
  exact ⟨trivial, trivial⟩
theorem gz_RS.alt {I J I1 J2 : gz_M} (h : gz_RS I J) (e3 : I1 (3, 0, 0) = I (3, 0, 0)) (e13 : I1 (13, 0, 0) = I (13, 0, 0)) (hA : gz_aX I1 = gz_aM J2) : gz_RS I1 J2 := by
  have hc := gz_ct13 e13
  refine ⟨?_, hA, by rw [hc.2]; exact h.tot⟩
  unfold gz_E
  rw [e3, hc.1, hc.2]
  exact h.E
theorem pr_partByte {n : Int} {I J I1 J2 : gz_M} (hT : gz_T I) (hTJ : gz_T J) (h : gz_RR n I J) {p t i : Int} {x y : Int} (hX : gz_qX_partByte I p t i x I1) (hM : gz_qM_partByte J p t i y J2) : x = y ∧ I = I1 ∧ J = J2 := by
  have htk := h.tk
  have hk4 := gz_tk hT 0 0
  obtain ⟨x1, x2⟩ := hX
  obtain ⟨y1, y2⟩ := hM
  refine ⟨?_, x1, y1⟩
  rcases x2 with ⟨rfl, a⟩ | ⟨a, ⟨rfl, rfl⟩ | ⟨ht, rfl⟩, x2⟩
  · rcases y2 with ⟨-, rfl⟩ | ⟨b, -⟩
    · rfl
    · exact absurd b (h.byn hT a)
  · have hb := h.by4 hTJ (p := p) (i := i)
    rcases x2 with ⟨c, rfl⟩ | ⟨c, rfl⟩
    · rcases y2 with ⟨-, rfl⟩ | ⟨b, -⟩
      · rfl
      · exact absurd (hb.mp b) c
    · rcases y2 with ⟨b, -⟩ | ⟨-, ⟨-, rfl⟩ | ⟨b, -⟩⟩
      · exact absurd (hb.mpr c) b
      · exact (h.p27 ⟨c.1.1, c.1.2.1⟩ c.2.2).symm
      · exact absurd rfl b
  · have hb := h.byt hT (p := p) (i := i) ht
    have e13 := gz_t13 hT 0 0 p
    rcases x2 with ⟨c, rfl⟩ | ⟨c, rfl⟩
    · rcases y2 with ⟨-, rfl⟩ | ⟨b, -⟩
      · rfl
      · exact absurd (hb.mp b) c
    · rcases y2 with ⟨b, -⟩ | ⟨-, ⟨b, -⟩ | ⟨-, rfl⟩⟩
      · exact absurd (hb.mpr c) b
      · omega
      · rw [← h.cp a (32 * p + i) ht.1 (by omega) (by omega) (by omega), show 3840 * a + (32 * p + i) = 32 * (120 * a + p) + i by omega]
theorem pr_alter {n : Int} {I J I1 J2 : gz_M} (hT : gz_T I) (hTJ : gz_T J) (h : gz_RR n I J) {p t i z : Int} {x y : Int} (hX : gz_qX_alter I p t i z x I1) (hM : gz_qM_alter J p t i z y J2) : x = y ∧ gz_RR (n + 1) I1 J2 := by
  have htk := h.tk
  have hk4 := gz_tk hT 0 0
  have hup := h.up
  rcases hX with ⟨rfl, rfl, a⟩ | ⟨a, ⟨rfl, rfl⟩ | ⟨ht, rfl⟩, x2⟩
  · rcases hM with ⟨-, rfl, rfl⟩ | ⟨b, -⟩
    · exact ⟨rfl, hup⟩
    · exact absurd b.1 (h.byn hT a)
  · have hb := h.by4 hTJ (p := p) (i := i)
    rcases x2 with ⟨c, rfl, rfl⟩ | ⟨c, rfl, rfl⟩
    · rcases hM with ⟨-, rfl, rfl⟩ | ⟨b, -⟩
      · exact ⟨rfl, hup⟩
      · exact absurd ⟨hb.mp b.1, b.2⟩ c
    · rcases hM with ⟨b, -⟩ | ⟨-, ⟨-, rfl, rfl⟩ | ⟨b, -⟩⟩
      · exact absurd ⟨hb.mpr c.1, c.2⟩ b
      · have e := h.p27 ⟨c.1.1.1, c.1.1.2.1⟩ c.1.2.2
        have e13 := gz_t13 hT 0 0 p
        rw [e]
        refine ⟨rfl, h.1.alt (gz_up_ne (gz_ne rfl)) (gz_up_ne (gz_ne rfl)) (gz_A_mk (fun q b1 b2 => ?_) (fun q b1 b2 b3 => ⟨?_, ?_, fun j b4 b5 => ?_⟩)), ?_, hup.2.2.1.cong (by omega) (by rw [gz_up_r (by decide)]) (fun _ => gz_up_ne (gz_ne rfl)) (fun _ => gz_up_ne (gz_ne rfl)) (fun _ _ _ => gz_up_ne (gz_ne rfl)) (fun u b1 b2 => gz_up_ne (fun e9 => by injection e9 with _ e9; injection e9 with e9; omega)) (gz_up_ne (gz_ne rfl)) (gz_up_ne (gz_ne rfl)) (gz_up_ne (gz_ne rfl)) (gz_up_ne (gz_ne rfl)), hup.2.2.2.cong (gz_up_ne (gz_ne rfl)) (by rw [gz_up_r (by decide)]) (by rw [gz_up_r (by decide)]; omega) (fun _ => gz_up_ne (gz_ne rfl)) (fun _ => gz_up_ne (gz_ne rfl)) (fun _ _ => gz_up_ne (gz_ne rfl)) (gz_up_ne (gz_ne rfl)) (fun q b1 b2 => gz_up_ne (fun e9 => by rw [e9] at b1; exact absurd b1 (by decide)))⟩
        · rw [gz_up_r (by decide), gz_up_r (by decide)]; exact h.p24 ⟨b1, b2⟩
        · rw [gz_up_r (by decide)] at b3; rw [gz_up_r (by decide), gz_up_r (by decide)]; exact h.p25 ⟨b1, b2⟩ b3
        · rw [gz_up_r (by decide)] at b3; rw [gz_up_r (by decide), gz_up_r (by decide)]; exact h.p26 ⟨b1, b2⟩ b3
        · rw [gz_up_r (by decide)] at b5
          rw [gz_up_eq, gz_up_eq, h.p27 ⟨b1, b2⟩ ⟨b4, b5⟩]
        · exact ⟨by rw [gz_up_r (by decide), gz_up_r (by decide)]; exact hup.tk, by rw [gz_up_r (by decide), gz_up_r (by decide)]; exact hup.nx, by rw [gz_up_r (by decide)]; exact hup.n0⟩
      · exact absurd rfl b
  · have hb := h.byt hT (p := p) (i := i) ht
    have e13 := gz_t13 hT 0 0 p
    rcases x2 with ⟨c, rfl, rfl⟩ | ⟨c, rfl, rfl⟩
    · rcases hM with ⟨-, rfl, rfl⟩ | ⟨b, -⟩
      · exact ⟨rfl, hup⟩
      · exact absurd ⟨hb.mp b.1, b.2⟩ c
    · rcases hM with ⟨b, -⟩ | ⟨-, ⟨b, -⟩ | ⟨-, rfl, rfl⟩⟩
      · exact absurd ⟨hb.mpr c.1, c.2⟩ b
      · omega
      · have e : J (29, 0, 0) (32 * (120 * a + p) + i) = I (12, a, 0) (32 * p + i) := by
          rw [← h.cp a (32 * p + i) ht.1 (by omega) (by omega) (by omega), show 3840 * a + (32 * p + i) = 32 * (120 * a + p) + i by omega]
        rw [e]
        have hne : ((12, a, 0) : gz_P) ≠ (12, 4, 0) := fun e9 => by injection e9 with _ e9; injection e9 with e9; omega
        refine ⟨rfl, h.1.cong (gz_up_ne (gz_ne rfl)) (gz_aX_cong (gz_up_ne (gz_ne rfl)) (gz_up_ne (gz_ne rfl)) (gz_up_ne (gz_ne rfl)) (gz_up_ne hne.symm)) (gz_aM_cong (gz_up_ne (gz_ne rfl)) (gz_up_ne (gz_ne rfl)) (gz_up_ne (gz_ne rfl)) (gz_up_ne (gz_ne rfl))), ?_, ⟨?_, ?_, ?_, ?_, ?_⟩, hup.2.2.2.cong (gz_up_ne (gz_ne rfl)) (by rw [gz_up_r (by decide)]) (by rw [gz_up_r (by decide)]; omega) (fun _ => gz_up_ne (gz_ne rfl)) (fun _ => gz_up_ne (gz_ne rfl)) (fun _ _ => gz_up_ne (gz_ne rfl)) (gz_up_ne (gz_ne rfl)) (fun q b1 b2 => gz_up_ne (fun e9 => by rw [e9] at b1; exact absurd b1 (by decide)))⟩
        · exact ⟨by rw [gz_up_r (by decide), gz_up_r (by decide)]; exact hup.tk, by rw [gz_up_r (by decide), gz_up_r (by decide)]; exact hup.nx, by rw [gz_up_r (by decide)]; exact hup.n0⟩
        · intro u b1 b2; rw [gz_up_r (by decide), gz_up_r (by decide), gz_up_r (by decide)]; exact h.sz u b1 b2
        · intro u j b1 b2 b3 b4
          show gz_up _ _ _ _ (22, 0, 0) _ = _
          rw [gz_up_r (by decide), gz_up_r (by decide)]; exact h.bt u j b1 b2 b3 b4
        · intro u q b1 b2 b3 b4; rw [gz_up_r (by decide), gz_up_r (by decide)]; exact h.hs u q b1 b2 b3 b4
        · intro u j b1 b2 b3 b4
          rw [gz_up_eq, gz_up_k, h.cp u j b1 b2 b3 b4]
          by_cases z9 : u = a ∧ j = 32 * p + i
          · rw [if_pos (by omega), if_pos ⟨⟨z9.1, rfl⟩, z9.2⟩]
          · rw [if_neg (by omega), if_neg (fun z => z9 ⟨z.1.1, z.2⟩)]
        · intro u q b1 b2 b3 b4; rw [gz_up_r (by decide)] at b1 ⊢; exact h.ho u q b1 b2 b3 b4
theorem pr_lose {n : Int} {I J I1 J2 : gz_M} (hT : gz_T I) (hTJ : gz_T J) (h : gz_RR n I J) {p t : Int} {x y : Int} (hX : gz_qX_lose I p t x I1) (hM : gz_qM_lose J p t y J2) : x = y ∧ gz_RR (n + 1) I1 J2 := by
  have htk := h.tk
  have hk4 := gz_tk hT 0 0
  have hup := h.up
  rcases hX with ⟨rfl, rfl, a⟩ | ⟨a, ⟨rfl, rfl⟩ | ⟨ht, rfl⟩, x2⟩
  · rcases hM with ⟨-, rfl, rfl⟩ | ⟨b, -⟩
    · exact ⟨rfl, hup⟩
    · exact absurd b (h.byn hT a)
  · have hb := h.by4 hTJ (p := p) (i := 0)
    rcases x2 with ⟨c, rfl, rfl⟩ | ⟨c, rfl, rfl⟩
    · rcases hM with ⟨-, rfl, rfl⟩ | ⟨b, -⟩
      · exact ⟨rfl, hup⟩
      · have b2 := hb.mp b
        exact absurd ⟨b2.1, b2.2.1⟩ c
    · rcases hM with ⟨b, -⟩ | ⟨-, rfl, ⟨-, rfl⟩ | ⟨b, -⟩⟩
      · exact absurd (hb.mpr ⟨c.1, c.2, Int.le_refl 0, c.1.2.2⟩) b
      · refine ⟨rfl, h.1.alt (gz_up_ne (gz_ne rfl)) (gz_up_ne (gz_ne rfl)) (gz_A_mk (fun q b1 b2 => ?_) (fun q b1 b2 b3 => ⟨?_, ?_, fun j b4 b5 => ?_⟩)), ?_, hup.2.2.1.cong (by omega) (by rw [gz_up_r (by decide)]) (fun _ => gz_up_ne (gz_ne rfl)) (fun _ => gz_up_ne (gz_ne rfl)) (fun u b1 b2 => gz_up_ne (fun e9 => by injection e9 with _ e9; injection e9 with e9; omega)) (fun _ _ _ => gz_up_ne (gz_ne rfl)) (gz_up_ne (gz_ne rfl)) (gz_up_ne (gz_ne rfl)) (gz_up_ne (gz_ne rfl)) (gz_up_ne (gz_ne rfl)), hup.2.2.2.cong (gz_up_ne (gz_ne rfl)) (by rw [gz_up_r (by decide)]) (by rw [gz_up_r (by decide)]; omega) (fun _ => gz_up_ne (gz_ne rfl)) (fun _ => gz_up_ne (gz_ne rfl)) (fun _ _ => gz_up_ne (gz_ne rfl)) (gz_up_ne (gz_ne rfl)) (fun q b1 b2 => gz_up_ne (fun e9 => by rw [e9] at b1; exact absurd b1 (by decide)))⟩
        · rw [gz_up_r (by decide), gz_up_r (by decide)]; exact h.p24 ⟨b1, b2⟩
        · rw [gz_up_r (by decide)] at b3; rw [gz_up_r (by decide), gz_up_r (by decide)]; exact h.p25 ⟨b1, b2⟩ b3
        · rw [gz_up_r (by decide)] at b3
          have e9 := h.p26 ⟨b1, b2⟩ b3
          rw [gz_up_eq, gz_up_eq]
          by_cases z9 : q = p
          · rw [if_pos z9, if_pos z9]; rfl
          · rw [if_neg z9, if_neg z9]; exact e9
        · rw [gz_up_r (by decide)] at b5
          rw [gz_up_r (by decide), gz_up_r (by decide), h.p27 ⟨b1, b2⟩ ⟨b4, b5⟩]
        · exact ⟨by rw [gz_up_r (by decide), gz_up_r (by decide)]; exact hup.tk, by rw [gz_up_r (by decide), gz_up_r (by decide)]; exact hup.nx, by rw [gz_up_r (by decide)]; exact hup.n0⟩
      · exact absurd rfl b
  · have hb := h.byt hT (p := p) (i := 0) ht
    rcases x2 with ⟨c, rfl, rfl⟩ | ⟨c, rfl, rfl⟩
    · rcases hM with ⟨-, rfl, rfl⟩ | ⟨b, -⟩
      · exact ⟨rfl, hup⟩
      · have b2 := hb.mp b
        exact absurd ⟨b2.1, b2.2.1⟩ c
    · rcases hM with ⟨b, -⟩ | ⟨-, rfl, ⟨b, -⟩ | ⟨-, rfl⟩⟩
      · exact absurd (hb.mpr ⟨c.1, c.2, Int.le_refl 0, c.1.2.2⟩) b
      · omega
      · have hne : ((11, a, 0) : gz_P) ≠ (11, 4, 0) := fun e9 => by injection e9 with _ e9; injection e9 with e9; omega
        refine ⟨rfl, h.1.cong (gz_up_ne (gz_ne rfl)) (gz_aX_cong (gz_up_ne (gz_ne rfl)) (gz_up_ne (gz_ne rfl)) (gz_up_ne hne.symm) (gz_up_ne (gz_ne rfl))) (gz_aM_cong (gz_up_ne (gz_ne rfl)) (gz_up_ne (gz_ne rfl)) (gz_up_ne (gz_ne rfl)) (gz_up_ne (gz_ne rfl))), ?_, ⟨?_, ?_, ?_, ?_, ?_⟩, hup.2.2.2.cong (gz_up_ne (gz_ne rfl)) (by rw [gz_up_r (by decide)]) (by rw [gz_up_r (by decide)]; omega) (fun _ => gz_up_ne (gz_ne rfl)) (fun _ => gz_up_ne (gz_ne rfl)) (fun _ _ => gz_up_ne (gz_ne rfl)) (gz_up_ne (gz_ne rfl)) (fun q b1 b2 => gz_up_ne (fun e9 => by rw [e9] at b1; exact absurd b1 (by decide)))⟩
        · exact ⟨by rw [gz_up_r (by decide), gz_up_r (by decide)]; exact hup.tk, by rw [gz_up_r (by decide), gz_up_r (by decide)]; exact hup.nx, by rw [gz_up_r (by decide)]; exact hup.n0⟩
        · intro u b1 b2; rw [gz_up_r (by decide), gz_up_r (by decide), gz_up_r (by decide)]; exact h.sz u b1 b2
        · intro u j b1 b2 b3 b4
          show gz_up _ _ _ _ (22, 0, 0) _ = _
          rw [gz_up_r (by decide), gz_up_r (by decide)]; exact h.bt u j b1 b2 b3 b4
        · intro u q b1 b2 b3 b4
          have hp1 := c.1.1
          have hp2 := c.1.2.1
          rw [gz_up_eq, gz_up_k, h.hs u q b1 b2 b3 b4]
          by_cases z9 : u = a ∧ q = p
          · rw [if_pos (by omega), if_pos ⟨⟨z9.1, rfl⟩, z9.2⟩]
          · rw [if_neg (by omega), if_neg (fun z => z9 ⟨z.1.1, z.2⟩)]
        · intro u j b1 b2 b3 b4; rw [gz_up_r (by decide), gz_up_r (by decide)]; exact h.cp u j b1 b2 b3 b4
        · intro u q b1 b2 b3 b4
          rw [gz_up_r (by decide)] at b1
          rw [gz_up_k, if_neg (fun z => by have := z.1.1; omega)]
          exact h.ho u q b1 b2 b3 b4
