theorem gz_A24 {I J : gz_M} (h : gz_aX I = gz_aM J) {p : Int} (hp : 0 ≤ p ∧ p < 120) : J (24, 0, 0) p = I (13, 0, 0) p := by
  have e : gz_aX I 0 p 0 = gz_aM J 0 p 0 := by rw [h]
  rw [gz_z_M hp] at e
  have e2 : gz_aX I 0 p 0 = I (13, 0, 0) p := by
    show (if 0 ≤ p ∧ p < 120 then I (13, 0, 0) p else 0) = _
    rw [if_pos hp]
  omega
theorem gz_X0 {I : gz_M} {p : Int} (hp : 0 ≤ p ∧ p < 120) : gz_aX I 0 p 0 = I (13, 0, 0) p := by
  show (if 0 ≤ p ∧ p < 120 then I (13, 0, 0) p else 0) = _
  rw [if_pos hp]
/-- which mark is the base, and what is the new mark's own -/
theorem gz_mk_base {n : Int} {I J I1 J1 : gz_M} (hT : gz_T I) (h : gz_RR n I J) {k s w u a : Int} (hsn : J (30, 0, 0) s = -1) (hs : 0 ≤ s ∧ s < 12) (mF : gz_Mf J J1 s) (hl : gz_lat J1 w u) (hT1 : gz_T I1) (hL : ∀ t, 0 ≤ t → t < I (0, 0, 0) 6 → I1 (19, k, 0) t = J1 (34, 0, 0) (4 * s + t) ∧ ∀ j, 0 ≤ j → j < I1 (19, k, 0) t → I1 (18, k, t) j = J1 (35, 0, 0) (80 * (4 * s + t) + j)) (hx : (w = 1 ∨ ∀ j, 0 ≤ j → j < I (0, 0, 0) 7 → I (16, I (4, 0, 0) (j), 0) 3 = 0) ∧ I1 (16, k, 0) 4 = -1 ∧ I1 (16, k, 0) 6 = gz_sm (fun t => I1 (19, k, 0) t) (I (0, 0, 0) 6).toNat ∨ ¬ w = 1 ∧ ∃ i, (0 ≤ i ∧ i < I (0, 0, 0) 7) ∧ I (16, I (4, 0, 0) (i), 0) 3 = 1 ∧ (∀ j, i < j → j < I (0, 0, 0) 7 → I (16, I (4, 0, 0) (j), 0) 3 = 0) ∧ I1 (16, k, 0) 4 = I (16, I (4, 0, 0) (i), 0) 2 ∧ I1 (16, k, 0) 6 = gz_sm (fun t => I1 (19, k, 0) t) (I (0, 0, 0) 6).toNat - gz_sm (fun t => gz_sh (I1 (18, k, t)) (I1 (19, k, 0) t) (I (18, I (4, 0, 0) (i), t)) (I (19, I (4, 0, 0) (i), 0) t)) (if I (16, I (4, 0, 0) (i), 0) 5 < (I (0, 0, 0) 6) then I (16, I (4, 0, 0) (i), 0) 5 else (I (0, 0, 0) 6)).toNat) : I1 (16, k, 0) 4 = (if u = -1 then -1 else J (30, 0, 0) u) ∧ I1 (16, k, 0) 6 = gz_sm (gz_tl (gz_m1 J1 s a u) s u) (I (0, 0, 0) 6).toNat ∧ I1 (16, k, 0) 4 < I (0, 0, 0) 8 := by
  have hk4 := gz_tk hT 0 0
  have hn0 := h.n0
  have hnx := h.nx
  obtain ⟨mq, m34, m35⟩ := mF
  have j30 : J1 (30, 0, 0) = J (30, 0, 0) := mq _ (gz_ne rfl) (gz_ne rfl) (gz_ne rfl) (gz_ne rfl) (gz_ne rfl) (gz_ne rfl) (gz_ne rfl)
  have j31 : J1 (31, 0, 0) = J (31, 0, 0) := mq _ (gz_ne rfl) (gz_ne rfl) (gz_ne rfl) (gz_ne rfl) (gz_ne rfl) (gz_ne rfl) (gz_ne rfl)
  have j20 : J1 (20, 0, 0) = J (20, 0, 0) := mq _ (gz_ne rfl) (gz_ne rfl) (gz_ne rfl) (gz_ne rfl) (gz_ne rfl) (gz_ne rfl) (gz_ne rfl)
  have j33 : J1 (33, 0, 0) = J (33, 0, 0) := mq _ (gz_ne rfl) (gz_ne rfl) (gz_ne rfl) (gz_ne rfl) (gz_ne rfl) (gz_ne rfl) (gz_ne rfl)
  have k34 : gz_m1 J1 s a u (34, 0, 0) = J1 (34, 0, 0) := gz_m1_o (gz_ne rfl) (gz_ne rfl) (gz_ne rfl) (gz_ne rfl) (gz_ne rfl) (gz_ne rfl) (gz_ne rfl)
  have k35 : gz_m1 J1 s a u (35, 0, 0) = J1 (35, 0, 0) := gz_m1_o (gz_ne rfl) (gz_ne rfl) (gz_ne rfl) (gz_ne rfl) (gz_ne rfl) (gz_ne rfl) (gz_ne rfl)
  unfold gz_lat at hl
  rw [j30, j31, j20, ← hnx] at hl
  have hu1 : u = -1 → I1 (16, k, 0) 6 = gz_sm (fun t => I1 (19, k, 0) t) (I (0, 0, 0) 6).toNat → I1 (16, k, 0) 6 = gz_sm (gz_tl (gz_m1 J1 s a u) s u) (I (0, 0, 0) 6).toNat := fun e e2 => by
    rw [e2]
    exact gz_sm_cong (fun t t1 t2 => by
      show I1 (19, k, 0) t = gz_m1 J1 s a u (34, 0, 0) (4 * s + t) - (if ¬ u = -1 ∧ t < gz_m1 J1 s a u (33, 0, 0) u then _ else 0)
      rw [if_neg (fun z => z.1 e), k34, (hL t t1 (by omega)).1]
      omega)
  rcases hx with ⟨x1, x2, x3⟩ | ⟨x1, i, x2, x3, x4, x5, x6⟩
  · rcases hl with ⟨l1, l2⟩ | ⟨l1, ⟨l2, l3⟩ | ⟨l2, l3, l4⟩⟩
    · exact ⟨by rw [x2, if_pos l2], hu1 l2 x3, by omega⟩
    · exact ⟨by rw [x2, if_pos l2], hu1 l2 x3, by omega⟩
    · rcases h.m2 u l2.1 l2.2 with e | ⟨i, i1, i2⟩
      · exact absurd e l3.1
      · have hm := h.m3 i u i1.1 i1.2 l2.1 l2.2 i2
        rcases x1 with e | e
        · exact absurd e l1
        · have := e i i1.1 i1.2
          have := hm.1.1
          omega
  · have hn := h.num i x2.1 x2.2
    rcases hl with ⟨l1, l2⟩ | ⟨l1, ⟨l2, l3⟩ | ⟨l2, l3, l4⟩⟩
    · exact absurd l1 x1
    · obtain ⟨z, z1, z2⟩ := h.m1 i x2.1 x2.2
      have hm := h.m3 i z x2.1 x2.2 z1.1 z1.2 z2
      have := hm.1.1
      exact absurd ⟨by omega, by omega, by omega⟩ (l3 z z1.1 z1.2)
    · have hu : J (30, 0, 0) u = I (16, I (4, 0, 0) i, 0) 2 := by
        rcases h.m2 u l2.1 l2.2 with e | ⟨j, j1, j2⟩
        · exact absurd e l3.1
        · have hm := h.m3 j u j1.1 j1.2 l2.1 l2.2 j2
          have hj : j ≤ i := Int.not_lt.mp (fun z => by
            have := x4 j z j1.2
            have := hm.1.1
            omega)
          obtain ⟨z, z1, z2⟩ := h.m1 i x2.1 x2.2
          have hm2 := h.m3 i z x2.1 x2.2 z1.1 z1.2 z2
          have hm21 := hm2.1.1
          have := l4 z z1.1 z1.2 ⟨by omega, by omega, by omega⟩
          by_cases e : j = i
          · rw [← e]; exact j2
          · have := h.srt j i j1.1 (by omega) x2.2
            omega
      have hus : u ≠ s := fun e => by rw [e] at hu; omega
      have hu0 : ¬ u = -1 := by omega
      obtain ⟨⟨-, -, m5, -⟩, m9⟩ := h.m3 i u x2.1 x2.2 l2.1 l2.2 hu
      have k33 : gz_m1 J1 s a u (33, 0, 0) u = I (16, I (4, 0, 0) i, 0) 5 := by rw [gz_m1_33, if_neg hus, j33, m5]
      have h5 := gz_tm5 hT (I (4, 0, 0) i) 0
      refine ⟨by rw [x5, if_neg hu0, hu], ?_, by omega⟩
      rw [x6]
      have e1 : gz_sm (gz_tl (gz_m1 J1 s a u) s u) (I (0, 0, 0) 6).toNat = gz_sm (fun t => I1 (19, k, 0) t - (if t < I (16, I (4, 0, 0) i, 0) 5 then gz_sh (I1 (18, k, t)) (I1 (19, k, 0) t) (I (18, I (4, 0, 0) (i), t)) (I (19, I (4, 0, 0) (i), 0) t) else 0)) (I (0, 0, 0) 6).toNat := gz_sm_cong (fun t t1 t2 => by
        obtain ⟨q1, q2⟩ := hL t t1 (by omega)
        show gz_m1 J1 s a u (34, 0, 0) (4 * s + t) - (if ¬ u = -1 ∧ t < gz_m1 J1 s a u (33, 0, 0) u then gz_sh (gz_lM (gz_m1 J1 s a u) s t) (gz_m1 J1 s a u (34, 0, 0) (4 * s + t)) (gz_lM (gz_m1 J1 s a u) u t) (gz_m1 J1 s a u (34, 0, 0) (4 * u + t)) else 0) = I1 (19, k, 0) t - (if t < I (16, I (4, 0, 0) i, 0) 5 then gz_sh (I1 (18, k, t)) (I1 (19, k, 0) t) (I (18, I (4, 0, 0) (i), t)) (I (19, I (4, 0, 0) (i), 0) t) else 0)
        rw [k33, k34, ← q1]
        by_cases e : t < I (16, I (4, 0, 0) i, 0) 5
        · rw [if_pos ⟨hu0, e⟩, if_pos e]
          obtain ⟨w1, w2⟩ := m9 t t1 e
          have f34 : J1 (34, 0, 0) (4 * u + t) = I (19, I (4, 0, 0) i, 0) t := by rw [m34 _ (by omega), w1]
          rw [f34]
          have e19 := gz_t19 hT (I (4, 0, 0) i) 0 t
          congr 1
          refine gz_sh_cong (by have := gz_t19 hT1 k 0 t; omega) e19.1 (fun j j1 j2 => ?_) (fun j j1 j2 => ?_)
          · show gz_m1 J1 s a u (35, 0, 0) (80 * (4 * s + t) + j) = _
            rw [k35, q2 j j1 j2]
          · show gz_m1 J1 s a u (35, 0, 0) (80 * (4 * u + t) + j) = _
            rw [k35, m35 _ (by omega), w2 j j1 j2]
        · rw [if_neg (fun z => e z.2), if_neg e])
      rw [e1, gz_sm_mi]
      congr 1
      have hle : (if I (16, I (4, 0, 0) (i), 0) 5 < (I (0, 0, 0) 6) then I (16, I (4, 0, 0) (i), 0) 5 else (I (0, 0, 0) 6)).toNat ≤ (I (0, 0, 0) 6).toNat := by split <;> omega
      rw [gz_sm_tail (f := fun t => if t < I (16, I (4, 0, 0) i, 0) 5 then gz_sh (I1 (18, k, t)) (I1 (19, k, 0) t) (I (18, I (4, 0, 0) (i), t)) (I (19, I (4, 0, 0) (i), 0) t) else 0) hle (fun t t1 t2 => by
        show (if t < I (16, I (4, 0, 0) i, 0) 5 then _ else 0) = 0
        rw [if_neg (by split at t1 <;> omega)])]
      exact gz_sm_cong (fun t t1 t2 => by
        show _ = if t < I (16, I (4, 0, 0) i, 0) 5 then _ else 0
        rw [if_pos (by split at t2 <;> omega)])
theorem gz_mk_ok {n : Int} {I J I1 J1 J2 : gz_M} (hT : gz_T I) (h : gz_RR n I J) {k s w u : Int} (hk : k = I (4, 0, 0) (I (0, 0, 0) 7)) (hH : I (0, 0, 0) 7 < 12) (hs : 0 ≤ s ∧ s < 12) (hsn : J (30, 0, 0) s = -1)
    (hT1 : gz_T I1) (xE : gz_E I1) (xK : ∀ u, 0 ≤ u → u < (I (0, 0, 0) 6) → gz_fk (fun t => I (8, t, 0)) (fun t => I (7, t, 0) 2) (gz_aX I) (u).toNat) (xA : gz_aX I1 = gz_ft (fun t => I (8, t, 0)) (fun t => I (7, t, 0) 2) (gz_aX I) (I (0, 0, 0) 6).toNat)
    (xL : ∀ u, 0 ≤ u → u < (I (0, 0, 0) 6) → (I1 (19, k, 0) u = (gz_cc (I (8, u, 0)) (I (7, u, 0) 2) : Nat) ∧ ∀ j : Nat, j < gz_cc (I (8, u, 0)) (I (7, u, 0) 2) → I1 (18, k, u) j = gz_fp (I (8, u, 0)) (I (7, u, 0) 2) (gz_ft (fun t => I (8, t, 0)) (fun t => I (7, t, 0) 2) (gz_aX I) (u).toNat) j))
    (x2 : I1 (16, k, 0) 2 = I (0, 0, 0) 8) (x3 : I1 (16, k, 0) 3 = 1) (x5 : I1 (16, k, 0) 5 = (I (0, 0, 0) 6)) (x7 : I1 (16, k, 0) 7 = gz_sm (fun t => I (7, t, 0) 2) (I (0, 0, 0) 6).toNat) (x8 : I1 (16, k, 0) 8 = gz_tot (gz_aX I1) - gz_tot (gz_aX I))
    (xB : (w = 1 ∨ ∀ j, 0 ≤ j → j < I (0, 0, 0) 7 → I (16, I (4, 0, 0) (j), 0) 3 = 0) ∧ I1 (16, k, 0) 4 = -1 ∧ I1 (16, k, 0) 6 = gz_sm (fun t => I1 (19, k, 0) t) (I (0, 0, 0) 6).toNat ∨ ¬ w = 1 ∧ ∃ i, (0 ≤ i ∧ i < I (0, 0, 0) 7) ∧ I (16, I (4, 0, 0) (i), 0) 3 = 1 ∧ (∀ j, i < j → j < I (0, 0, 0) 7 → I (16, I (4, 0, 0) (j), 0) 3 = 0) ∧ I1 (16, k, 0) 4 = I (16, I (4, 0, 0) (i), 0) 2 ∧ I1 (16, k, 0) 6 = gz_sm (fun t => I1 (19, k, 0) t) (I (0, 0, 0) 6).toNat - gz_sm (fun t => gz_sh (I1 (18, k, t)) (I1 (19, k, 0) t) (I (18, I (4, 0, 0) (i), t)) (I (19, I (4, 0, 0) (i), 0) t)) (if I (16, I (4, 0, 0) (i), 0) 5 < (I (0, 0, 0) 6) then I (16, I (4, 0, 0) (i), 0) 5 else (I (0, 0, 0) 6)).toNat)
    (y7 : I1 (0, 0, 0) 7 = I (0, 0, 0) 7 + 1) (y8 : I1 (0, 0, 0) 8 = I (0, 0, 0) 8 + 1) (y6 : I1 (0, 0, 0) 6 = (I (0, 0, 0) 6))
    (xC : ∀ u, 0 ≤ u → u < (I (0, 0, 0) 6) → I1 (11, u, 0) = gz_hw (I1 (18, k, u)) (I (11, u, 0)) (gz_cc (I (8, u, 0)) (I (7, u, 0) 2)) ∧ I1 (12, u, 0) = gz_cw (I1 (18, k, u)) (I1 (13, 0, 0)) (I (8, u, 0)) (I (12, u, 0)) (gz_cc (I (8, u, 0)) (I (7, u, 0) 2)))
    (xF : ∀ q : gz_P, q.1 ≠ 9 → q.1 ≠ 3 → q.1 ≠ 13 → q.1 ≠ 14 → q.1 ≠ 15 → q ≠ (11, 4, 0) → q ≠ (12, 4, 0) → (∀ t, q ≠ (18, k, t)) → q ≠ (19, k, 0) → q ≠ (16, k, 0) → q ≠ (0, 0, 0) → (∀ u, 0 ≤ u → u < (I (0, 0, 0) 6) → q ≠ (11, u, 0) ∧ q ≠ (12, u, 0)) → I1 q = I q)
    (mF : gz_Mf J J1 s) (mN : gz_NI J J1) (mL : ∀ v, 0 ≤ v → v < J (20, 0, 0) 0 → gz_Ml J J1 s v) (mA : gz_aM J1 = gz_ft (gz_FM J) (gz_ZM J) (gz_aM J) (J (20, 0, 0) 0).toNat) (hl : gz_lat J1 w u)
    (hC : gz_CI (gz_up (gz_m1 J1 s (gz_sm (gz_ZM J) (J (20, 0, 0) 0).toNat) u) (36, 0, 0) s (gz_sm (gz_tl (gz_m1 J1 s (gz_sm (gz_ZM J) (J (20, 0, 0) 0).toNat) u) s u) (J1 (20, 0, 0) 0).toNat)) J2 s (J1 (20, 0, 0) 0)) : gz_RR (n + 1) I1 J2 := by
  have eH := gz_th hT 0 0
  have hk4 := gz_tk hT 0 0
  have hn0 := h.n0
  have hnx := h.nx
  have htk := h.tk
  have hne : ∀ j, 0 ≤ j → j < I (0, 0, 0) 7 → I (4, 0, 0) j ≠ k := fun j a b e => by
    have := h.inj j (I (0, 0, 0) 7) a (by omega) eH.1 hH (e.trans hk)
    omega
  -- the states
  have hcg : ∀ t : Nat, t < (I (0, 0, 0) 6).toNat → (fun t => I (7, t, 0) 2) (t : Int) = gz_ZM J t ∧ (0 ≤ (fun t => I (7, t, 0) 2) (t : Int) ∧ (fun t => I (7, t, 0) 2) (t : Int) ≤ 300) ∧ ∀ i, 0 ≤ i → i < (fun t => I (7, t, 0) 2) (t : Int) → (fun t => I (8, t, 0)) (t : Int) i = gz_FM J t i := fun t ht => by
    have e := h.sz t (by omega) (by omega)
    rw [if_pos (by omega)] at e
    have e7 := gz_t7 hT t 0 2
    refine ⟨e.symm, e7, fun i a b => ?_⟩
    have b' : i < I (7, (t : Int), 0) 2 := b
    exact (h.bt t i (by omega) (by omega) a (by omega)).symm
  have hA2 : gz_aX I1 = gz_aM J1 := by
    rw [xA, mA, h.A, ← htk]
    exact gz_ft_cong hcg _ (Nat.le_refl _)
  have hz1 : ∀ p, 0 ≤ p → p < 120 → J1 (24, 0, 0) p = I1 (13, 0, 0) p := fun p a b => gz_A24 hA2 ⟨a, b⟩
  have hcc : ∀ t, 0 ≤ t → t < I (0, 0, 0) 6 → gz_cc (I (8, t, 0)) (I (7, t, 0) 2) = gz_cc (gz_FM J t) (gz_ZM J t) := fun t a b => by
    obtain ⟨h1, h2, h3⟩ := hcg t.toNat (by omega)
    rw [Int.toNat_of_nonneg a] at h1 h2 h3
    have h1' : I (7, t, 0) 2 = gz_ZM J t := h1
    rw [← h1']
    exact gz_cc_cong h3 h2
  have hLL : ∀ t, 0 ≤ t → t < I (0, 0, 0) 6 → I1 (19, k, 0) t = J1 (34, 0, 0) (4 * s + t) ∧ ∀ j, 0 ≤ j → j < I1 (19, k, 0) t → I1 (18, k, t) j = J1 (35, 0, 0) (80 * (4 * s + t) + j) := fun t a b => by
    obtain ⟨p1, p2⟩ := xL t a b
    obtain ⟨q1, q2⟩ := mL t a (by omega)
    refine ⟨by rw [p1, q1, hcc t a b], fun j j1 j2 => ?_⟩
    rw [p1] at j2
    have r1 := p2 j.toNat (by omega)
    have r2 := q2 j.toNat (by rw [← hcc t a b]; omega)
    have r3 := gz_fpt_cong (F := fun t => I (8, t, 0)) (Z := fun t => I (7, t, 0) 2) (S := gz_aX I) hcg (t := t.toNat) (j := j.toNat) (by omega) (by show j.toNat < gz_cc (I (8, (t.toNat : Int), 0)) (I (7, (t.toNat : Int), 0) 2); rw [Int.toNat_of_nonneg a]; omega)
    rw [Int.toNat_of_nonneg a] at r3
    rw [Int.toNat_of_nonneg j1] at r1 r2
    rw [r1, r2, ← h.A]
    exact r3
  obtain ⟨b1, b2, b3⟩ := gz_mk_base (a := gz_sm (gz_ZM J) (J (20, 0, 0) 0).toNat) hT h hsn hs mF hl hT1 hLL xB
  -- the new mark's parts are there
  have hcs : ∀ t, 0 ≤ t → t < I (0, 0, 0) 6 → ∀ j : Nat, j < gz_cc (I (8, t, 0)) (I (7, t, 0) 2) → I1 (13, 0, 0) (I1 (18, k, t) j) = gz_ck (I (8, t, 0)) (I (7, t, 0) 2) (gz_cs (I (8, t, 0)) (I (7, t, 0) 2) j) := fun t a b j hj => by
    have e18 := gz_t18 hT1 k t j
    rw [← gz_X0 (I := I1) (p := I1 (18, k, t) j) (by omega), xA, (xL t a b).2 j hj]
    have r := gz_ft_sz (xK t a b) (j := j) (n := (I (0, 0, 0) 6).toNat) (by show j < gz_cc (I (8, (t.toNat : Int), 0)) (I (7, (t.toNat : Int), 0) 2); rw [Int.toNat_of_nonneg a]; exact hj) (by omega)
    rw [Int.toNat_of_nonneg a] at r
    exact r
  have hcn : ∀ t, 0 ≤ t → t < I (0, 0, 0) 6 → gz_cs (I (8, t, 0)) (I (7, t, 0) 2) (gz_cc (I (8, t, 0)) (I (7, t, 0) 2)) = I (7, t, 0) 2 := fun t a b => by
    obtain ⟨c, hc⟩ := gz_cn_ex (I (8, t, 0)) (gz_t7 hT t 0 2)
    rw [gz_cc_eq hc (gz_t7 hT t 0 2).2]
    exact hc
  have hsm : ∀ t, 0 ≤ t → t < I (0, 0, 0) 6 → gz_sm (fun m => I1 (13, 0, 0) (I1 (18, k, t) m)) (gz_cc (I (8, t, 0)) (I (7, t, 0) 2)) ≤ 300 := fun t a b => by
    rw [gz_cs_sm (f := I (8, t, 0)) (s := I (7, t, 0) 2) (g := fun m => I1 (13, 0, 0) (I1 (18, k, t) m)) (fun j hj => hcs t a b j hj), hcn t a b]
    exact (gz_t7 hT t 0 2).2
  have hKP : gz_KP I1 k := by
    unfold gz_KP
    rw [x5]
    refine ⟨hk4.1, fun t a b => ?_⟩
    have p1 := (xL t a b).1
    rw [p1]
    refine ⟨fun j j1 j2 => ?_, by rw [Int.toNat_natCast]; exact hsm t a b⟩
    have r := hcs t a b j.toNat (by omega)
    rw [Int.toNat_of_nonneg j1] at r
    rw [r]
    have := (gz_ck_ok (I (8, t, 0)) (I (7, t, 0) 2) (gz_cs (I (8, t, 0)) (I (7, t, 0) 2) j.toNat)).2.1
    omega
  -- the frames
  have F0 : ∀ (r : Nat) (a b : Int), (r == 9) = false → (r == 3) = false → (r == 13) = false → (r == 14) = false → (r == 15) = false → (r == 11) = false → (r == 12) = false → (r == 18) = false → (r == 19) = false → (r == 16) = false → (r == 0) = false → I1 (r, a, b) = I (r, a, b) := fun r a b a1 a2 a3 a4 a5 a6 a7 a8 a9 a10 a11 => xF _ (gz_nb a1) (gz_nb a2) (gz_nb a3) (gz_nb a4) (gz_nb a5) (gz_ne a6) (gz_ne a7) (fun _ => gz_ne a8) (gz_ne a9) (gz_ne a10) (gz_ne a11) (fun _ _ _ => ⟨gz_ne a6, gz_ne a7⟩)
  have i4 : I1 (4, 0, 0) = I (4, 0, 0) := F0 4 0 0 rfl rfl rfl rfl rfl rfl rfl rfl rfl rfl rfl
  have i7 : ∀ t, I1 (7, t, 0) = I (7, t, 0) := fun t => F0 7 t 0 rfl rfl rfl rfl rfl rfl rfl rfl rfl rfl rfl
  have i8 : ∀ t, I1 (8, t, 0) = I (8, t, 0) := fun t => F0 8 t 0 rfl rfl rfl rfl rfl rfl rfl rfl rfl rfl rfl
  have i16 : ∀ j, 0 ≤ j → j < I (0, 0, 0) 7 → I1 (16, I (4, 0, 0) j, 0) = I (16, I (4, 0, 0) j, 0) := fun j a b => xF _ (gz_nb rfl) (gz_nb rfl) (gz_nb rfl) (gz_nb rfl) (gz_nb rfl) (gz_ne rfl) (gz_ne rfl) (fun t => gz_ne rfl) (gz_ne rfl) (gz_ne18 (hne j a b)) (gz_ne rfl) (fun _ _ _ => ⟨gz_ne rfl, gz_ne rfl⟩)
  have i19 : ∀ j, 0 ≤ j → j < I (0, 0, 0) 7 → I1 (19, I (4, 0, 0) j, 0) = I (19, I (4, 0, 0) j, 0) := fun j a b => xF _ (gz_nb rfl) (gz_nb rfl) (gz_nb rfl) (gz_nb rfl) (gz_nb rfl) (gz_ne rfl) (gz_ne rfl) (fun t => gz_ne rfl) (gz_ne18 (hne j a b)) (gz_ne rfl) (gz_ne rfl) (fun _ _ _ => ⟨gz_ne rfl, gz_ne rfl⟩)
  have i18 : ∀ j, 0 ≤ j → j < I (0, 0, 0) 7 → ∀ t, I1 (18, I (4, 0, 0) j, t) = I (18, I (4, 0, 0) j, t) := fun j a b t => xF _ (gz_nb rfl) (gz_nb rfl) (gz_nb rfl) (gz_nb rfl) (gz_nb rfl) (gz_ne rfl) (gz_ne rfl) (fun t => gz_ne18 (hne j a b)) (gz_ne rfl) (gz_ne rfl) (gz_ne rfl) (fun _ _ _ => ⟨gz_ne rfl, gz_ne rfl⟩)
  have i11 : ∀ t, I (0, 0, 0) 6 ≤ t → t < 4 → I1 (11, t, 0) = I (11, t, 0) := fun t a b => xF _ (gz_nb rfl) (gz_nb rfl) (gz_nb rfl) (gz_nb rfl) (gz_nb rfl) (gz_ne18 (by omega)) (gz_ne rfl) (fun t => gz_ne rfl) (gz_ne rfl) (gz_ne rfl) (gz_ne rfl) (fun _ _ _ => ⟨gz_ne18 (by omega), gz_ne rfl⟩)
  have i12 : ∀ t, I (0, 0, 0) 6 ≤ t → t < 4 → I1 (12, t, 0) = I (12, t, 0) := fun t a b => xF _ (gz_nb rfl) (gz_nb rfl) (gz_nb rfl) (gz_nb rfl) (gz_nb rfl) (gz_ne rfl) (gz_ne18 (by omega)) (fun t => gz_ne rfl) (gz_ne rfl) (gz_ne rfl) (gz_ne rfl) (fun _ _ _ => ⟨gz_ne rfl, gz_ne18 (by omega)⟩)
  have mF' := mF
  obtain ⟨mq, m34, m35⟩ := mF'
  have jq : ∀ r : Nat, (r == 24) = false → (r == 25) = false → (r == 26) = false → (r == 27) = false → (r == 39) = false → (r == 34) = false → (r == 35) = false → J1 (r, 0, 0) = J (r, 0, 0) := fun r a b c d e f g => mq _ (gz_ne a) (gz_ne b) (gz_ne c) (gz_ne d) (gz_ne e) (gz_ne f) (gz_ne g)
  have j20 := jq 20 rfl rfl rfl rfl rfl rfl rfl
  rw [j20, ← htk] at hC
  obtain ⟨hT2, c1, c28, c29, cF⟩ := hC
  have hZs : gz_sm (gz_ZM J) (J (20, 0, 0) 0).toNat = gz_sm (fun t => I (7, t, 0) 2) (I (0, 0, 0) 6).toNat := by
    rw [← htk]
    exact gz_sm_cong (fun t a b => by
      have e := h.sz t a (by omega)
      rw [if_pos (by omega)] at e
      exact e)
  rw [← htk] at hZs b2
  rw [hZs] at c1 c28 c29 cF b2
  generalize hW : gz_sm (fun t => I (7, t, 0) 2) (I (0, 0, 0) 6).toNat = W at *
  generalize hO : gz_sm (gz_tl (gz_m1 J1 s W u) s u) (I (0, 0, 0) 6).toNat = O at *
  -- the reference's memory after
  have K2o : ∀ q : gz_P, q ≠ (36, 0, 0) → gz_up (gz_m1 J1 s W u) (36, 0, 0) s O q = gz_m1 J1 s W u q := fun q hq => by
    funext i
    unfold gz_up
    rw [if_neg (fun e => hq e.1)]
  have K2p : ∀ r : Nat, (r == 36) = false → (r == 20) = false → (r == 30) = false → (r == 31) = false → (r == 32) = false → (r == 33) = false → (r == 37) = false → (r == 38) = false → gz_up (gz_m1 J1 s W u) (36, 0, 0) s O (r, 0, 0) = J1 (r, 0, 0) := fun r a0 a1 a2 a3 a4 a5 a6 a7 => by
    rw [K2o _ (gz_ne a0), gz_m1_o (gz_ne a1) (gz_ne a2) (gz_ne a3) (gz_ne a4) (gz_ne a5) (gz_ne a6) (gz_ne a7)]
  have J2p : ∀ r : Nat, (r == 28) = false → (r == 29) = false → (r == 36) = false → (r == 20) = false → (r == 30) = false → (r == 31) = false → (r == 32) = false → (r == 33) = false → (r == 37) = false → (r == 38) = false → J2 (r, 0, 0) = J1 (r, 0, 0) := fun r z1 z2 a0 a1 a2 a3 a4 a5 a6 a7 => by
    rw [cF _ (gz_ne z1) (gz_ne z2), K2p r a0 a1 a2 a3 a4 a5 a6 a7]
  have J2o : ∀ r : Nat, (r == 28) = false → (r == 29) = false → (r == 36) = false → J2 (r, 0, 0) = gz_m1 J1 s W u (r, 0, 0) := fun r z1 z2 a0 => by
    rw [cF _ (gz_ne z1) (gz_ne z2), K2o _ (gz_ne a0)]
  have n20 : ∀ i, J2 (20, 0, 0) i = if i = 10 then I (0, 0, 0) 8 + 1 else J (20, 0, 0) i := fun i => by
    rw [J2o 20 rfl rfl rfl, gz_m1_20, j20, ← hnx]
  have n30 : ∀ i, J2 (30, 0, 0) i = if i = s then I (0, 0, 0) 8 else J (30, 0, 0) i := fun i => by
    rw [J2o 30 rfl rfl rfl, gz_m1_30, j20, ← hnx, jq 30 rfl rfl rfl rfl rfl rfl rfl]
  have n31 : ∀ i, J2 (31, 0, 0) i = if i = s then 1 else J (31, 0, 0) i := fun i => by
    rw [J2o 31 rfl rfl rfl, gz_m1_31, jq 31 rfl rfl rfl rfl rfl rfl rfl]
  have n32 : ∀ i, J2 (32, 0, 0) i = if i = s then (if u = -1 then -1 else J (30, 0, 0) u) else J (32, 0, 0) i := fun i => by
    rw [J2o 32 rfl rfl rfl, gz_m1_32, jq 32 rfl rfl rfl rfl rfl rfl rfl, jq 30 rfl rfl rfl rfl rfl rfl rfl]
  have n33 : ∀ i, J2 (33, 0, 0) i = if i = s then I (0, 0, 0) 6 else J (33, 0, 0) i := fun i => by
    rw [J2o 33 rfl rfl rfl, gz_m1_33, jq 33 rfl rfl rfl rfl rfl rfl rfl, j20, ← htk]
  have n36 : ∀ i, J2 (36, 0, 0) i = if i = s then O else J (36, 0, 0) i := fun i => by
    rw [cF _ (gz_ne rfl) (gz_ne rfl)]
    have e : gz_up (gz_m1 J1 s W u) (36, 0, 0) s O (36, 0, 0) i = if i = s then O else gz_m1 J1 s W u (36, 0, 0) i := by
      unfold gz_up
      by_cases z : i = s
      · rw [if_pos ⟨rfl, z⟩, if_pos z]
      · rw [if_neg (fun y => z y.2), if_neg z]
    rw [e, gz_m1_o (gz_ne rfl) (gz_ne rfl) (gz_ne rfl) (gz_ne rfl) (gz_ne rfl) (gz_ne rfl) (gz_ne rfl), jq 36 rfl rfl rfl rfl rfl rfl rfl]
  have n37 : ∀ i, J2 (37, 0, 0) i = if i = s then W else J (37, 0, 0) i := fun i => by
    rw [J2o 37 rfl rfl rfl, gz_m1_37, jq 37 rfl rfl rfl rfl rfl rfl rfl]
  have n38 : ∀ i, J2 (38, 0, 0) i = if i = s then gz_tot (gz_aM J1) - gz_tot (gz_aM J) else J (38, 0, 0) i := fun i => by
    rw [J2o 38 rfl rfl rfl, gz_m1_38, jq 38 rfl rfl rfl rfl rfl rfl rfl, gz_fb_tot mN]
  have n34 := J2p 34 rfl rfl rfl rfl rfl rfl rfl rfl rfl rfl
  have n35 := J2p 35 rfl rfl rfl rfl rfl rfl rfl rfl rfl rfl
  have n22 : J2 (22, 0, 0) = J (22, 0, 0) := by rw [J2p 22 rfl rfl rfl rfl rfl rfl rfl rfl rfl rfl, jq 22 rfl rfl rfl rfl rfl rfl rfl]
  have n21 : J2 (21, 0, 0) = J (21, 0, 0) := by rw [J2p 21 rfl rfl rfl rfl rfl rfl rfl rfl rfl rfl, jq 21 rfl rfl rfl rfl rfl rfl rfl]
  have k28 : gz_up (gz_m1 J1 s W u) (36, 0, 0) s O (28, 0, 0) = J (28, 0, 0) := by rw [K2p 28 rfl rfl rfl rfl rfl rfl rfl rfl, jq 28 rfl rfl rfl rfl rfl rfl rfl]
  have k29 : gz_up (gz_m1 J1 s W u) (36, 0, 0) s O (29, 0, 0) = J (29, 0, 0) := by rw [K2p 29 rfl rfl rfl rfl rfl rfl rfl rfl, jq 29 rfl rfl rfl rfl rfl rfl rfl]
  have k22 : gz_up (gz_m1 J1 s W u) (36, 0, 0) s O (22, 0, 0) = J (22, 0, 0) := by rw [K2p 22 rfl rfl rfl rfl rfl rfl rfl rfl, jq 22 rfl rfl rfl rfl rfl rfl rfl]
  have k34 := K2p 34 rfl rfl rfl rfl rfl rfl rfl rfl
  have k35 := K2p 35 rfl rfl rfl rfl rfl rfl rfl rfl
  have k24 := K2p 24 rfl rfl rfl rfl rfl rfl rfl rfl
  have hA3 : gz_aX I1 = gz_aM J2 := by
    rw [hA2]
    exact (gz_aM_cong (J2p 24 rfl rfl rfl rfl rfl rfl rfl rfl rfl rfl) (J2p 25 rfl rfl rfl rfl rfl rfl rfl rfl rfl rfl) (J2p 26 rfl rfl rfl rfl rfl rfl rfl rfl rfl rfl) (J2p 27 rfl rfl rfl rfl rfl rfl rfl rfl rfl rfl)).symm
  have hlM : ∀ t, 0 ≤ t → t < I (0, 0, 0) 6 → ∀ j : Nat, j < gz_cc (I (8, t, 0)) (I (7, t, 0) 2) → I1 (18, k, t) j = gz_lM (gz_up (gz_m1 J1 s W u) (36, 0, 0) s O) s t j := fun t a b j hj => by
    show _ = gz_up (gz_m1 J1 s W u) (36, 0, 0) s O (35, 0, 0) (80 * (4 * s + t) + j)
    rw [k35]
    exact (hLL t a b).2 j (by omega) (by rw [(xL t a b).1]; omega)
  have hMM : gz_MM I1 J2 k s := by
    unfold gz_MM
    rw [x3, x5, x7, x8, b1, b2, n31, n32, n33, n36, n37, n38, if_pos rfl, if_pos rfl, if_pos rfl, if_pos rfl, if_pos rfl, if_pos rfl, n34, n35, hA2, h.A]
    exact ⟨⟨rfl, rfl, rfl, rfl, rfl, rfl⟩, hLL⟩
  refine ⟨⟨xE, hA3, by rw [xA]; exact gz_ft_tot h.tot _⟩, ⟨?_, ?_, ?_⟩, ⟨?_, ?_, ?_, ?_, ?_⟩, ?_⟩
  · rw [y6, n20, if_neg (by decide)]; exact htk
  · rw [y8, n20, if_pos rfl]
  · rw [y8]; omega
  · rw [n21, y6]; simp only [i7]; exact h.sz
  · unfold gz_fm; rw [n22]; simp only [i8]; exact h.bt
  · intro t p a b c d
    by_cases e : t < I (0, 0, 0) 6
    · have h9 := (c1 t a e).1 p c d
      rw [h9, (xC t a e).1, k34, ← (hLL t a e).1, (xL t a e).1, Int.toNat_natCast]
      exact (gz_hw_cong (hlM t a e) (fun p p1 p2 => by
        show I (11, t, 0) p = gz_up (gz_m1 J1 s W u) (36, 0, 0) s O (28, 0, 0) (120 * t + p)
        rw [k28]
        exact (h.hs t p a b p1 p2).symm) p c d).symm
    · rw [c28 _ (by omega), k28, i11 t (by omega) b]
      exact h.hs t p a b c d
  · intro t p a b c d
    by_cases e : t < I (0, 0, 0) 6
    · have h9 := (c1 t a e).2 p c d
      rw [h9, (xC t a e).2, k34, ← (hLL t a e).1, (xL t a e).1, Int.toNat_natCast, k24]
      refine ((gz_cw_cong (fun j hj => ⟨hlM t a e j hj, (gz_t13 hT1 0 0 _).1, ?_⟩) (hsm t a e) (fun i i1 i2 => ?_) (fun p p1 p2 => ?_)).2.2 p c d).symm
      · have e18 := gz_t18 hT1 k t j
        exact (hz1 _ (by omega) (by omega)).symm
      · show I (8, t, 0) i = gz_up (gz_m1 J1 s W u) (36, 0, 0) s O (22, 0, 0) (300 * t + i)
        rw [k22]
        exact (h.bt t i a b i1 i2).symm
      · show I (12, t, 0) p = gz_up (gz_m1 J1 s W u) (36, 0, 0) s O (29, 0, 0) (3840 * t + p)
        rw [k29]
        exact (h.cp t p a b p1 p2).symm
    · rw [c29 _ (by omega), k29, i12 t (by omega) b]
      exact h.cp t p a b c d
  · intro t p a b c d
    rw [y6] at a
    rw [i11 t a b]
    exact h.ho t p a b c d
  · have hsl : ∀ i z, 0 ≤ i → i < I (0, 0, 0) 7 → 0 ≤ z → z < 12 → J2 (30, 0, 0) z = I (16, I (4, 0, 0) i, 0) 2 → z ≠ s ∧ J (30, 0, 0) z = I (16, I (4, 0, 0) i, 0) 2 := fun i z a b c d e => by
      have hn := h.num i a b
      rw [n30] at e
      by_cases ez : z = s
      · rw [if_pos ez] at e; omega
      · rw [if_neg ez] at e; exact ⟨ez, e⟩
    have hnew : ∀ z, 0 ≤ z → z < 12 → J2 (30, 0, 0) z = I (0, 0, 0) 8 → z = s := fun z a b e => by
      rw [n30] at e
      by_cases ez : z = s
      · exact ez
      · rw [if_neg ez] at e
        rcases h.m2 z a b with e2 | ⟨i, i1, i2⟩
        · omega
        · have := h.num i i1.1 i1.2
          omega
    refine ⟨?_, ?_, ?_, ?_, ?_, ?_, ?_, ?_, ?_⟩
    · rw [i4]; exact h.inj
    · rw [i4, y7]; intro i j a b c
      by_cases e : j < I (0, 0, 0) 7
      · rw [i16 i a (by omega), i16 j (by omega) e]; exact h.srt i j a b e
      · have ej : j = I (0, 0, 0) 7 := by omega
        rw [ej, ← hk, x2, i16 i a (by omega)]
        exact (h.num i a (by omega)).2
    · rw [i4, y7]; intro j a b
      by_cases e : j < I (0, 0, 0) 7
      · rw [i16 j a e]; exact h.bas j a e
      · have ej : j = I (0, 0, 0) 7 := by omega
        rw [ej, ← hk, x2]
        exact b3
    · rw [i4, y7, y8]; intro j a b
      by_cases e : j < I (0, 0, 0) 7
      · rw [i16 j a e]
        have := h.num j a e
        omega
      · have ej : j = I (0, 0, 0) 7 := by omega
        rw [ej, ← hk, x2]
        omega
    · rw [i4, y7]; intro j a b
      by_cases e : j < I (0, 0, 0) 7
      · rw [i16 j a e]
        obtain ⟨z, z1, z2⟩ := h.m1 j a e
        have hn := h.num j a e
        exact ⟨z, z1, by rw [n30, if_neg (fun ez => by rw [ez] at z2; omega)]; exact z2⟩
      · have ej : j = I (0, 0, 0) 7 := by omega
        rw [ej, ← hk, x2]
        exact ⟨s, hs, by rw [n30, if_pos rfl]⟩
    · rw [i4, y7]; intro z a b
      by_cases ez : z = s
      · exact Or.inr ⟨I (0, 0, 0) 7, by omega, by rw [← hk, x2, ez, n30, if_pos rfl]⟩
      · rw [n30, if_neg ez]
        rcases h.m2 z a b with e | ⟨i, i1, i2⟩
        · exact Or.inl e
        · exact Or.inr ⟨i, by omega, by rw [i16 i i1.1 i1.2]; exact i2⟩
    · rw [i4, y7]; intro i z a b c d e
      by_cases ei : i < I (0, 0, 0) 7
      · rw [i16 i a ei] at e
        obtain ⟨hz, e'⟩ := hsl i z a ei c d e
        refine (h.m3 i z a ei c d e').cong2 hT (i16 i a ei) (i19 i a ei) (i18 i a ei) (fun r r1 r2 r3 r4 => ?_) (fun t t1 t2 => by rw [n34]; exact m34 _ (by omega)) (fun t j t1 t2 j1 j2 => by rw [n35]; exact m35 _ (by omega))
        have hr : r = 31 ∨ r = 32 ∨ r = 33 ∨ r = 36 ∨ r = 37 ∨ r = 38 := by omega
        rcases hr with rfl | rfl | rfl | rfl | rfl | rfl
        · rw [n31, if_neg hz]
        · rw [n32, if_neg hz]
        · rw [n33, if_neg hz]
        · rw [n36, if_neg hz]
        · rw [n37, if_neg hz]
        · rw [n38, if_neg hz]
      · have ej : i = I (0, 0, 0) 7 := by omega
        rw [ej, ← hk] at e ⊢
        rw [x2] at e
        rw [hnew z c d e]
        exact hMM
    · intro z z' a b c d e e0
      by_cases ez : z = s
      · have : J2 (30, 0, 0) z' = I (0, 0, 0) 8 := by rw [← e, n30, if_pos ez]
        rw [ez, hnew z' c d this]
      · by_cases ez' : z' = s
        · have : J2 (30, 0, 0) z = I (0, 0, 0) 8 := by rw [e, n30, if_pos ez']
          exact absurd (hnew z a b this) ez
        · rw [n30, n30, if_neg ez, if_neg ez'] at e
          rw [n30, if_neg ez] at e0
          exact h.dis z z' a b c d e e0
    · rw [i4, y7]; intro i a b c
      by_cases ei : i < I (0, 0, 0) 7
      · rw [i16 i a ei] at c
        refine (h.kp i a ei c).cong2 hT (i16 i a ei) (i19 i a ei) (i18 i a ei) (fun p p1 p2 p3 => ?_)
        rw [← gz_X0 (I := I1) ⟨p1, p2⟩, xA, gz_ft_old (by rw [gz_X0 ⟨p1, p2⟩]; exact p3), gz_X0 ⟨p1, p2⟩]
      · have ej : i = I (0, 0, 0) 7 := by omega
        rw [ej, ← hk]
        exact hKP
theorem pr_mark {n : Int} {I J I1 J2 : gz_M} (hT : gz_T I) (hTJ : gz_T J) (h : gz_RR n I J) {k : Int} (hk : k = I (4, 0, 0) (I (0, 0, 0) 7)) {w x y : Int} (hX : gz_qX_mark I k w x I1) (hM : gz_MkQ J w y J2) : x = y ∧ gz_RR (n + 1) I1 J2 := by
  have hup := h.up
  have eH := gz_th hT 0 0
  have hk4 := gz_tk hT 0 0
  have htk := h.tk
  have hc2 : I (0, 0, 0) 7 = gz_sm (fun s => gz_b (¬ J (30, 0, 0) s = -1)) 12 := by
    have h9 : gz_sm (fun _ => 1) (I (0, 0, 0) 7).toNat = gz_sm (fun s => gz_b (¬ J (30, 0, 0) s = -1)) 12 := h.ct hT (fun s a b e => gz_b0 (fun z => z e)) (fun i s a b c d e => by
      have hn := h.num i a b
      rw [gz_b1 (P := ¬ J (30, 0, 0) s = -1) (by omega)])
    have h8 : ∀ k : Nat, gz_sm (fun _ => 1) k = k := fun k => by
      induction k with
      | zero => rfl
      | succ k ih => rw [gz_sm_s, ih]; omega
    rw [h8] at h9
    omega
  have h12 : ∀ s, 0 ≤ s → s < 12 → J (30, 0, 0) s = -1 → I (0, 0, 0) 7 < 12 := fun s a b e => by
    have hle : gz_sm (fun s => gz_b (¬ J (30, 0, 0) s = -1)) 12 ≤ gz_sm (fun z => if z = s then 0 else 1) 12 := gz_sm_le (fun z _ _ => by
      show gz_b (¬ J (30, 0, 0) z = -1) ≤ if z = s then 0 else 1
      by_cases ez : z = s
      · rw [if_pos ez, ez, gz_b0 (P := ¬ J (30, 0, 0) s = -1) (fun y => y e)]; decide
      · rw [if_neg ez]; exact (gz_b_in _).2)
    have h5 := gz_sm_up (f := fun _ => 1) (g := fun z => if z = s then 0 else 1) (q := s) (fun i hi => by
      show (if i = s then (0 : Int) else 1) = 1
      rw [if_neg hi]) 12
    rw [if_pos (by omega)] at h5
    have h6 : (fun z : Int => if z = s then (0 : Int) else 1) s - (fun _ : Int => (1 : Int)) s = -1 := by
      show (if s = s then (0 : Int) else 1) - 1 = -1
      rw [if_pos rfl]; rfl
    have h7 : gz_sm (fun _ => 1) 12 = 12 := rfl
    omega
  have hcg : ∀ t : Nat, t < (I (0, 0, 0) 6).toNat → (fun t => I (7, t, 0) 2) (t : Int) = gz_ZM J t ∧ (0 ≤ (fun t => I (7, t, 0) 2) (t : Int) ∧ (fun t => I (7, t, 0) 2) (t : Int) ≤ 300) ∧ ∀ i, 0 ≤ i → i < (fun t => I (7, t, 0) 2) (t : Int) → (fun t => I (8, t, 0)) (t : Int) i = gz_FM J t i := fun t ht => by
    have e := h.sz t (by omega) (by omega)
    rw [if_pos (by omega)] at e
    have e7 := gz_t7 hT t 0 2
    refine ⟨e.symm, e7, fun i a b => ?_⟩
    have b' : i < I (7, (t : Int), 0) 2 := b
    exact (h.bt t i (by omega) (by omega) a (by omega)).symm
  have hfk : ∀ u : Int, 0 ≤ u → u < I (0, 0, 0) 6 → (gz_fk (fun t => I (8, t, 0)) (fun t => I (7, t, 0) 2) (gz_aX I) u.toNat ↔ gz_fk (gz_FM J) (gz_ZM J) (gz_aM J) u.toNat) := fun u a b => by
    rw [← h.A]
    exact gz_fk_cong hcg (by omega)
  rcases hM with ⟨m1, rfl, rfl⟩ | ⟨m1, m2, rfl, rfl⟩ | ⟨m1, s, hs, hsn, hm⟩
  · rcases hX with ⟨x1, rfl, rfl⟩ | ⟨x1, -⟩ | ⟨x1, -⟩ | ⟨x1, -⟩
    · exact ⟨rfl, hup⟩
    · exact absurd x1 m1
    · exact absurd x1 m1
    · exact absurd x1 m1
  · rcases hX with ⟨x1, -⟩ | ⟨x1, x2, rfl, rfl⟩ | ⟨x1, x2, -⟩ | ⟨x1, x2, -⟩
    · exact absurd m1 x1
    · exact ⟨rfl, hup⟩
    · omega
    · omega
  · have hH := h12 s hs.1 hs.2 hsn
    rcases hX with ⟨x1, -⟩ | ⟨x1, x2, -⟩ | ⟨x1, x2, rfl, ⟨u, u1, u2⟩, c1, c2, c3, c4, c5⟩ | ⟨x1, x2, rfl, ⟨c1, c2, c3, c4, c5⟩, ⟨d2, d3, d5, d7, d8, dB⟩, e7, e8, e6, eC, eF⟩
    · exact absurd m1 x1
    · omega
    · rcases hm with ⟨rfl, f1, f2, f3, -⟩ | ⟨-, K1, v, ⟨g1, g2, g3, g4, g5⟩, -⟩
      · exact ⟨rfl, gz_mk_fail hT h hk hH hs hsn c2 c3 c4 c5 f2 f3⟩
      · exact absurd ((hfk u u1.1 u1.2).mpr (g4 u u1.1 (by omega)).1) u2
    · rcases hm with ⟨-, f1, f2, f3, u, u1, u2⟩ | ⟨rfl, K1, v, ⟨g1, g2, g3, g4, g5⟩, g6, g7⟩
      · exact absurd ((hfk u u1.1 (by omega)).mp (c3 u u1.1 (by omega))) u2
      · exact ⟨h.nx, gz_mk_ok hT h hk hH hs hsn c1 c2 c3 c4 c5 d2 d3 d5 d7 d8 dB e7 e8 e6 eC eF g2 g3 (fun v a b => (g4 v a b).2) g5 g6 g7⟩
