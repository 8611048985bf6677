theorem gz_flt_M {J J2 : gz_M} {N : Int → Prop} (h24 : ∀ p, 0 ≤ p → p < 120 → J2 (24, 0, 0) p = (1 - gz_b (0 < J (24, 0, 0) p ∧ ¬ N p)) * J (24, 0, 0) p) (h0 : ∀ p, 0 ≤ J (24, 0, 0) p) (h25 : J2 (25, 0, 0) = J (25, 0, 0)) (h26 : J2 (26, 0, 0) = J (26, 0, 0)) (h27 : J2 (27, 0, 0) = J (27, 0, 0)) : gz_aM J2 = gz_flt N (gz_aM J) := by
  have hk : ∀ p, 0 ≤ p → p < 120 → N p → J2 (24, 0, 0) p = J (24, 0, 0) p := fun p a b z => by
    rw [h24 p a b, gz_b0 (fun y => y.2 z)]
    omega
  have hd : ∀ p, 0 ≤ p → p < 120 → ¬ N p → J2 (24, 0, 0) p = 0 := fun p a b z => by
    rw [h24 p a b]
    have := h0 p
    by_cases e : 0 < J (24, 0, 0) p
    · rw [gz_b1 ⟨e, z⟩]; omega
    · rw [show J (24, 0, 0) p = 0 by omega]; exact Int.mul_zero _
  funext c p i
  unfold gz_flt gz_aM
  rw [h25, h26, h27]
  by_cases hp : 0 ≤ p ∧ p < 120
  · by_cases hN : N p
    · rw [if_pos hN, hk p hp.1 hp.2 hN]
    · rw [if_neg hN, hd p hp.1 hp.2 hN]
      match c with
      | 0 => exact ite_self 0
      | 1 => exact if_neg (fun z => absurd z.2 (Int.lt_irrefl 0))
      | 2 => exact if_neg (fun z => absurd z.2 (Int.lt_irrefl 0))
      | 3 => exact if_neg (fun z => by have := z.2; omega)
      | c + 4 => rfl
  · have hz : ∀ v : Int, @ite _ (N p) (Classical.propDecidable _) v 0 = @ite _ (N p) (Classical.propDecidable _) v 0 := fun _ => rfl
    match c with
    | 0 =>
      show (if 0 ≤ p ∧ p < 120 then J2 (24, 0, 0) p else 0) = @ite _ (N p) (Classical.propDecidable _) (if 0 ≤ p ∧ p < 120 then J (24, 0, 0) p else 0) 0
      rw [if_neg hp, if_neg hp, ite_self]
    | 1 =>
      show (if (0 ≤ p ∧ p < 120) ∧ 0 < J2 (24, 0, 0) p then J (25, 0, 0) p else 0) = @ite _ (N p) (Classical.propDecidable _) (if (0 ≤ p ∧ p < 120) ∧ 0 < J (24, 0, 0) p then J (25, 0, 0) p else 0) 0
      rw [if_neg (show ¬ ((0 ≤ p ∧ p < 120) ∧ 0 < J2 (24, 0, 0) p) from fun z => hp z.1), if_neg (show ¬ ((0 ≤ p ∧ p < 120) ∧ 0 < J (24, 0, 0) p) from fun z => hp z.1), ite_self]
    | 2 =>
      show (if (0 ≤ p ∧ p < 120) ∧ 0 < J2 (24, 0, 0) p then 1 - J (26, 0, 0) p else 0) = @ite _ (N p) (Classical.propDecidable _) (if (0 ≤ p ∧ p < 120) ∧ 0 < J (24, 0, 0) p then 1 - J (26, 0, 0) p else 0) 0
      rw [if_neg (show ¬ ((0 ≤ p ∧ p < 120) ∧ 0 < J2 (24, 0, 0) p) from fun z => hp z.1), if_neg (show ¬ ((0 ≤ p ∧ p < 120) ∧ 0 < J (24, 0, 0) p) from fun z => hp z.1), ite_self]
    | 3 =>
      show (if (0 ≤ p ∧ p < 120) ∧ 0 ≤ i ∧ i < J2 (24, 0, 0) p then J (27, 0, 0) (32 * p + i) else 0) = @ite _ (N p) (Classical.propDecidable _) (if (0 ≤ p ∧ p < 120) ∧ 0 ≤ i ∧ i < J (24, 0, 0) p then J (27, 0, 0) (32 * p + i) else 0) 0
      rw [if_neg (show ¬ ((0 ≤ p ∧ p < 120) ∧ 0 ≤ i ∧ i < J2 (24, 0, 0) p) from fun z => hp z.1), if_neg (show ¬ ((0 ≤ p ∧ p < 120) ∧ 0 ≤ i ∧ i < J (24, 0, 0) p) from fun z => hp z.1), ite_self]
    | c + 4 =>
      show (0 : Int) = @ite _ (N p) (Classical.propDecidable _) 0 0
      rw [ite_self]
theorem gz_dr_step {n : Int} {I J K L I1 J2 : gz_M} (hT : gz_T I) (hTJ : gz_T J) (hTL : gz_T K) (h : gz_RR n I J) (hL : gz_LG I K) (hF : gz_DF J L 120) (hX : gz_DX L J2) (c2 : gz_E I1) (c3 : gz_aX I1 = gz_flt (fun p => gz_kn K (K (0, 0, 0) 7) p) (gz_aX K)) (c4 : ∀ p, 0 ≤ p → p < 120 → I1 (13, 0, 0) p = gz_b (0 < K (13, 0, 0) p ∧ ¬ gz_kn K (K (0, 0, 0) 7) p) * 0 + (1 - gz_b (0 < K (13, 0, 0) p ∧ ¬ gz_kn K (K (0, 0, 0) 7) p)) * K (13, 0, 0) p) (c5 : ∀ a, 0 ≤ a → a < 4 → ∀ p, 0 ≤ p → p < 120 → I1 (11, a, 0) p = (1 - gz_b (0 < K (13, 0, 0) p ∧ ¬ gz_kn K (K (0, 0, 0) 7) p)) * K (11, a, 0) p) (c6 : ∀ q : gz_P, q.1 ≠ 3 → q.1 ≠ 11 → q.1 ≠ 13 → q.1 ≠ 6 → I1 q = K q) : gz_sm (fun p => gz_b (0 < K (13, 0, 0) p ∧ ¬ gz_kn K (K (0, 0, 0) 7) p)) 120 = gz_sm (fun p => gz_b (gz_gn J p)) 120 ∧ gz_RR n I1 J2 := by
  have hnam : ∀ p, gz_kn K (K (0, 0, 0) 7) p ↔ gz_nMk J p 12 := fun p => gz_dr_named hT h hL
  obtain ⟨f1, f2, f3, f4⟩ := hF
  have hLJ : ∀ q : gz_P, 30 ≤ q.1 → L q = J q := fun q hq => f4 q (fun e => by rw [e] at hq; exact absurd hq (by decide)) (fun e => by rw [e] at hq; exact absurd hq (by decide))
  have hheld := gz_dr_held h hL hLJ hX
  have hLs := hL
  obtain ⟨l1, l2, l3, l4, l5, l6, l7, l8⟩ := hL
  obtain ⟨⟨d1, d2, d3⟩, d4⟩ := hX
  have l30 := hLJ (30, 0, 0) (by decide)
  rw [l30] at d3
  have jq : ∀ q : gz_P, q ≠ (24, 0, 0) → q ≠ (28, 0, 0) → q ≠ (30, 0, 0) → J2 q = J q := fun q q1 q2 q3 => by rw [d2 q q3, f4 q q1 q2]
  have kq : ∀ q : gz_P, q ≠ (0, 0, 0) → q ≠ (4, 0, 0) → K q = I q := l4
  have k13 := kq (13, 0, 0) (gz_ne rfl) (gz_ne rfl)
  have hbb : ∀ p, 0 ≤ p → p < 120 → gz_b (0 < K (13, 0, 0) p ∧ ¬ gz_kn K (K (0, 0, 0) 7) p) = gz_b (gz_gn J p) := fun p a b => gz_b_cong (by
    unfold gz_gn
    rw [hnam p, k13, h.p24 ⟨a, b⟩])
  have hb2 : ∀ p, 0 ≤ p → p < 120 → gz_b (p < 120 ∧ gz_gn J p) = gz_b (gz_gn J p) := fun p a b => gz_b_cong ⟨fun z => z.2, fun z => ⟨b, z⟩⟩
  have x24 : ∀ p, 0 ≤ p → p < 120 → J2 (24, 0, 0) p = (1 - gz_b (gz_gn J p)) * J (24, 0, 0) p := fun p a b => by rw [d2 _ (gz_ne rfl), f2 p a b, hb2 p a b]
  have i0 : ∀ i, i ≠ 7 → I1 (0, 0, 0) i = I (0, 0, 0) i := fun i hi => by rw [c6 _ (by decide) (by decide) (by decide) (by decide)]; exact l3 i hi
  have i07 : I1 (0, 0, 0) 7 = K (0, 0, 0) 7 := by rw [c6 _ (by decide) (by decide) (by decide) (by decide)]
  have i4 : I1 (4, 0, 0) = K (4, 0, 0) := c6 _ (by decide) (by decide) (by decide) (by decide)
  have iq : ∀ q : gz_P, q.1 ≠ 0 → q.1 ≠ 3 → q.1 ≠ 4 → q.1 ≠ 6 → q.1 ≠ 11 → q.1 ≠ 13 → I1 q = I q := fun q q0 q3 q4 q6 q11 q13 => by rw [c6 q q3 q11 q13 q6]; exact kq q (fun e => q0 (by rw [e])) (fun e => q4 (by rw [e]))
  have i16 : ∀ k, I1 (16, k, 0) = I (16, k, 0) := fun k => iq _ (gz_nb rfl) (gz_nb rfl) (gz_nb rfl) (gz_nb rfl) (gz_nb rfl) (gz_nb rfl)
  have i19 : ∀ k, I1 (19, k, 0) = I (19, k, 0) := fun k => iq _ (gz_nb rfl) (gz_nb rfl) (gz_nb rfl) (gz_nb rfl) (gz_nb rfl) (gz_nb rfl)
  have i18 : ∀ k t, I1 (18, k, t) = I (18, k, t) := fun k t => iq _ (gz_nb rfl) (gz_nb rfl) (gz_nb rfl) (gz_nb rfl) (gz_nb rfl) (gz_nb rfl)
  have i6 := i0 6 (by decide)
  have i8 := i0 8 (by decide)
  have aK : gz_aX K = gz_aX I := gz_aX_cong k13 (kq _ (gz_ne rfl) (gz_ne rfl)) (kq _ (gz_ne rfl) (gz_ne rfl)) (kq _ (gz_ne rfl) (gz_ne rfl))
  have hA : gz_aX I1 = gz_aM J2 := by
    rw [c3, aK, h.A]
    have hN : (fun p => gz_kn K (K (0, 0, 0) 7) p) = (fun p => gz_nMk J p 12) := funext (fun p => propext (hnam p))
    rw [hN]
    exact (gz_flt_M (N := fun p => gz_nMk J p 12) x24 (fun p => (gz_t24 hTJ 0 0 p).1) (jq _ (gz_ne rfl) (gz_ne rfl) (gz_ne rfl)) (jq _ (gz_ne rfl) (gz_ne rfl) (gz_ne rfl)) (jq _ (gz_ne rfl) (gz_ne rfl) (gz_ne rfl))).symm
  have s30 : ∀ s, 0 ≤ s → s < 12 → ¬ J2 (30, 0, 0) s = -1 → J2 (30, 0, 0) s = J (30, 0, 0) s := fun s a b z => by
    rcases d3 s a b with y | ⟨y, -⟩
    · exact y
    · exact absurd y z
  refine ⟨gz_sm_cong (fun p a b => hbb p a (by omega)), ⟨c2, hA, ?_⟩, ⟨?_, ?_, ?_⟩, ⟨?_, ?_, ?_, ?_, ?_⟩, ?_, ?_, ?_, ?_, ?_, ?_, ?_, ?_, ?_⟩
  · refine Int.le_trans ?_ h.tot
    unfold gz_tot
    refine gz_sm_le (fun p a b => ?_)
    have e1 : gz_aX I1 0 p 0 = I1 (13, 0, 0) p := by
      show (if 0 ≤ p ∧ p < 120 then I1 (13, 0, 0) p else 0) = _
      rw [if_pos ⟨a, by omega⟩]
    have e2 : gz_aX I 0 p 0 = I (13, 0, 0) p := by
      show (if 0 ≤ p ∧ p < 120 then I (13, 0, 0) p else 0) = _
      rw [if_pos ⟨a, by omega⟩]
    have e3 := gz_t13 hT 0 0 p
    show gz_aX I1 0 p 0 ≤ gz_aX I 0 p 0
    rw [e1, e2, c4 p a (by omega), k13]
    rcases gz_b_01 (0 < I (13, 0, 0) p ∧ ¬ gz_kn K (K (0, 0, 0) 7) p) with z | z <;> rw [z] <;> omega
  · rw [i6, jq _ (gz_ne rfl) (gz_ne rfl) (gz_ne rfl)]; exact h.tk
  · rw [i8, jq _ (gz_ne rfl) (gz_ne rfl) (gz_ne rfl)]; exact h.nx
  · rw [i8]; exact h.n0
  · intro t a b
    rw [jq _ (gz_ne rfl) (gz_ne rfl) (gz_ne rfl), i6, iq _ (gz_nb rfl) (gz_nb rfl) (gz_nb rfl) (gz_nb rfl) (gz_nb rfl) (gz_nb rfl)]
    exact h.sz t a b
  · intro t i a b c d
    show J2 (22, 0, 0) _ = _
    rw [jq _ (gz_ne rfl) (gz_ne rfl) (gz_ne rfl), iq _ (gz_nb rfl) (gz_nb rfl) (gz_nb rfl) (gz_nb rfl) (gz_nb rfl) (gz_nb rfl)]
    exact h.bt t i a b c d
  · intro t p a b c d
    rw [d2 _ (gz_ne rfl), f3 t p a b c d, hb2 p c d, c5 t a b p c d, hbb p c d, h.hs t p a b c d, kq _ (gz_ne rfl) (gz_ne rfl)]
  · intro t i a b c d
    rw [jq _ (gz_ne rfl) (gz_ne rfl) (gz_ne rfl), iq _ (gz_nb rfl) (gz_nb rfl) (gz_nb rfl) (gz_nb rfl) (gz_nb rfl) (gz_nb rfl)]
    exact h.cp t i a b c d
  · intro t p a b c d
    have e6 := gz_tk hT 0 0
    rw [i6] at a
    rw [c5 t (by omega) b p c d, kq (11, t, 0) (gz_ne rfl) (gz_ne rfl), h.ho t p a b c d]
    exact Int.mul_zero _
  · rw [i4]; exact l5
  · rw [i4, i07]
    intro i j a b c
    rw [i16, i16]
    exact l6 i j a b c
  · rw [i4, i07]
    intro v a b
    obtain ⟨j, j1, j2⟩ := l7 v a b
    rw [i16, j2]
    exact h.bas j j1.1 j1.2
  · rw [i4, i07, i8]
    intro v a b
    obtain ⟨j, j1, j2⟩ := l7 v a b
    rw [i16, j2]
    exact h.num j j1.1 j1.2
  · rw [i4, i07]
    intro v a b
    obtain ⟨j, j1, j2⟩ := l7 v a b
    obtain ⟨s, s1, s2⟩ := h.m1 j j1.1 j1.2
    have hn := h.num j j1.1 j1.2
    have hne := (hheld _ (by omega) j s j1 s1 rfl s2).mp ⟨v, ⟨a, b⟩, j2⟩
    exact ⟨s, s1, by rw [s30 s s1.1 s1.2 hne, i16, j2]; exact s2⟩
  · rw [i4, i07]
    intro s a b
    by_cases hne : J2 (30, 0, 0) s = -1
    · exact Or.inl hne
    · right
      have e := s30 s a b hne
      rcases h.m2 s a b with z | ⟨j, j1, j2⟩
      · rw [e] at hne; exact absurd z hne
      · have hn := h.num j j1.1 j1.2
        obtain ⟨v, v1, v2⟩ := (hheld _ (by omega) j s j1 ⟨a, b⟩ rfl j2).mpr hne
        exact ⟨v, v1, by rw [i16, v2, e]; exact j2⟩
  · rw [i4, i07]
    intro v s a b c d e
    obtain ⟨j, j1, j2⟩ := l7 v a b
    have hn := h.num j j1.1 j1.2
    rw [i16, j2] at e
    have e2 := s30 s c d (by omega)
    rw [j2]
    exact (h.m3 j s j1.1 j1.2 c d (by omega)).cong (i16 _) (i19 _) (i18 _) (fun q q1 q2 => jq q (fun e => by rw [e] at q1; exact absurd q1 (by decide)) (fun e => by rw [e] at q1; exact absurd q1 (by decide)) (fun e => by rw [e] at q1; exact absurd q1 (by decide)))
  · intro s s' a b c d e f
    have e1 := s30 s a b (by omega)
    have e2 := s30 s' c d (by omega)
    exact h.dis s s' a b c d (by omega) (by omega)
  · rw [i4, i07]
    intro v a b z
    obtain ⟨j, j1, j2⟩ := l7 v a b
    rw [i16, j2] at z
    rw [j2]
    have hk := h.kp j j1.1 j1.2 z
    have hpt : ∀ t, 0 ≤ t → t < I (16, I (4, 0, 0) j, 0) 5 → ∀ i, 0 ≤ i → i < I (19, I (4, 0, 0) j, 0) t → I1 (13, 0, 0) (I (18, I (4, 0, 0) j, t) i) = I (13, 0, 0) (I (18, I (4, 0, 0) j, t) i) := fun t t1 t2 i i1 i2 => by
      have e18 := gz_t18 hT (I (4, 0, 0) j) t i
      have hkn : gz_kn K (K (0, 0, 0) 7) (I (18, I (4, 0, 0) j, t) i) := ⟨v, ⟨a, b⟩, by rw [j2, hLs.k16]; exact z, by
        rw [j2]
        exact ⟨t, i, by rw [hLs.k16]; exact ⟨t1, t2⟩, by rw [kq _ (gz_ne rfl) (gz_ne rfl)]; exact ⟨i1, i2⟩, by rw [kq _ (gz_ne rfl) (gz_ne rfl)]⟩⟩
      rw [c4 _ (by omega) (by omega), gz_b0 (fun y => y.2 hkn), k13]
      omega
    unfold gz_KP
    rw [i16, i19]
    refine ⟨hk.1, fun t t1 t2 => ?_⟩
    rw [i18]
    obtain ⟨q1, q2⟩ := hk.2 t t1 t2
    refine ⟨fun i i1 i2 => by rw [hpt t t1 t2 i i1 i2]; exact q1 i i1 i2, ?_⟩
    have e19 := gz_t19 hT (I (4, 0, 0) j) 0 t
    rw [gz_sm_cong (f := fun m => I1 (13, 0, 0) (I (18, I (4, 0, 0) j, t) m)) (g := fun m => I (13, 0, 0) (I (18, I (4, 0, 0) j, t) m)) (fun i i1 i2 => hpt t t1 t2 i i1 (by omega))]
    exact q2
theorem pr_drop {n : Int} {I J I1 J2 : gz_M} (hT : gz_T I) (hTJ : gz_T J) (h : gz_RR n I J) {m : Int} {x y : Int} (hX : gz_qX_drop I m x I1) (hM : gz_qM_drop J m y J2) : x = y ∧ gz_RR (n + 1) I1 J2 := by
  have eH := gz_th hT 0 0
  rcases hX with ⟨rfl, a, rfl⟩ | ⟨i, ⟨i1, i2, -⟩, i3, K, hL, hx, c1, c2, c3, c4, c5, c6⟩
  · rcases hM with ⟨rfl, rfl, -⟩ | ⟨s, ⟨s1, s2, s3, s4⟩, -⟩
    · exact ⟨rfl, h.up⟩
    · obtain ⟨i, i1, i2⟩ := h.sx s1 s3 s2
      have := a i (h.ix i1 i2)
      have hm := h.m3 i s i1.1 i1.2 s1.1 s1.2 (by omega)
      have := hm.1.1
      omega
  · have hn := h.num i i1.1 i1.2
    rcases hM with ⟨rfl, rfl, b⟩ | ⟨s, ⟨s1, s2, s3, s4⟩, L, e1, e2, hy⟩
    · obtain ⟨s, s1, s2⟩ := h.m1 i i1.1 i1.2
      have hm := h.m3 i s i1.1 i1.2 s1.1 s1.2 s2
      have := b s s1.1 s1.2 (by omega) (by omega)
      have := hm.1.1
      omega
    · have h' := h.unk hT i1 eH.2 s1 (by omega)
      obtain ⟨r1, r2⟩ := gz_dr_step (gz_Tu16_3 hT (by decide)) (gz_Tu31 hTJ (by decide)) hL.1 h' hL e1 e2 c2 c3 c4 c5 c6
      exact ⟨hx.trans (r1.trans hy.symm), r2.up⟩
