theorem gz_cn2 {f g : Int → Int} {s : Int} {c : Nat} (e : ∀ i, 0 ≤ i → i < s → f i = g i) (h : gz_cn f s c) : gz_cn g s c ∧ ∀ i : Nat, i < c → gz_cs f s i = gz_cs g s i ∧ gz_ck f s (gz_cs f s i) = gz_ck g s (gz_cs g s i) := by
  have h1 : ∀ i : Nat, i ≤ c → gz_cs f s i = gz_cs g s i := fun i hi => gz_cs_cong e (fun j hj => gz_cn_lt h (by omega))
  refine ⟨?_, fun i hi => ⟨h1 i (by omega), ?_⟩⟩
  · unfold gz_cn
    rw [← h1 c (Nat.le_refl c)]
    exact h
  · rw [← h1 i (by omega)]
    exact gz_ck_cong (gz_cs_0 f s i) (gz_cn_lt h hi) e
theorem pr_state {n : Int} {I J I1 J2 : gz_M} (hT : gz_T I) (hTJ : gz_T J) (h : gz_RR n I J) {t i : Int} {x y : Int} (hX : gz_qX_state I t i x I1) (hM : gz_qM_state J t i y J2) : x = y ∧ I = I1 ∧ J = J2 := by
  have htk := h.tk
  have hk4 := gz_tk hT 0 0
  obtain ⟨x1, x2⟩ := hX
  obtain ⟨y1, y2⟩ := hM
  refine ⟨?_, x1, y1⟩
  by_cases ht : 0 ≤ t ∧ t < I (0, 0, 0) 6
  · have hs := h.sz t ht.1 (by omega)
    rw [if_pos ht.2] at hs
    have e7 := gz_t7 hT t 0 2
    rcases x2 with ⟨a, rfl⟩ | ⟨a, rfl⟩
    · rcases y2 with ⟨b, rfl⟩ | ⟨b, rfl⟩
      · exact (h.bt t i ht.1 (by omega) a.2.1 (by omega)).symm
      · exact absurd ⟨⟨ht.1, by omega⟩, a.2.1, by omega⟩ b
    · rcases y2 with ⟨b, rfl⟩ | ⟨b, rfl⟩
      · exact absurd ⟨ht, b.2.1, by have := b.2.2; omega⟩ a
      · rfl
  · rcases x2 with ⟨a, rfl⟩ | ⟨a, rfl⟩
    · exact absurd a.1 ht
    · rcases y2 with ⟨b, rfl⟩ | ⟨b, rfl⟩
      · exact absurd ⟨b.1.1, by have := b.1.2; omega⟩ ht
      · rfl
theorem pr_chunk {n : Int} {I J I1 J2 : gz_M} (hT : gz_T I) (hTJ : gz_T J) (h : gz_RR n I J) {t i : Int} {x y : Int} (hX : gz_qX_chunk I t i x I1) (hM : gz_qM_chunk J t i y J2) : x = y ∧ J = J2 := by
  have htk := h.tk
  have hk4 := gz_tk hT 0 0
  obtain ⟨-, -, x2⟩ := hX
  obtain ⟨y1, y2⟩ := hM
  refine ⟨?_, y1⟩
  by_cases ht : (0 ≤ t ∧ t < I (0, 0, 0) 6) ∧ -1 ≤ i
  · have hs := h.sz t ht.1.1 (by omega)
    rw [if_pos ht.1.2] at hs
    have e7 := gz_t7 hT t 0 2
    rcases x2 with ⟨a, rfl⟩ | ⟨-, c, c1, c2⟩
    · exact absurd ht a
    · rcases y2 with ⟨b, rfl⟩ | ⟨-, c', d1, d2⟩
      · exact absurd ⟨⟨ht.1.1, by omega⟩, ht.2⟩ b
      · rw [hs] at d1 d2
        obtain ⟨g1, g2⟩ := gz_cn2 (g := gz_fm J t) (fun i a b => (h.bt t i ht.1.1 (by omega) a (by omega)).symm) c1
        have hc := gz_cn_uq g1 d1
        subst hc
        rcases c2 with c2 | c2 | c2
        · rcases d2 with d2 | d2 | d2 <;> omega
        · rcases d2 with d2 | d2 | d2
          · omega
          · rw [c2.2, d2.2]
            exact (g2 i.toNat (by omega)).2
          · omega
        · rcases d2 with d2 | d2 | d2 <;> omega
  · rcases x2 with ⟨a, rfl⟩ | ⟨a, -⟩
    · rcases y2 with ⟨b, rfl⟩ | ⟨b, -⟩
      · rfl
      · exact absurd ⟨⟨b.1.1, by have := b.1.2; omega⟩, b.2⟩ ht
    · exact absurd a ht
theorem pr_usable {n : Int} {I J I1 J2 : gz_M} (hT : gz_T I) (hTJ : gz_T J) (h : gz_RR n I J) {m : Int} {x y : Int} (hX : gz_qX_usable I m x I1) (hM : gz_qM_usable J m y J2) : x = y ∧ I = I1 ∧ J = J2 := by
  obtain ⟨x1, x2⟩ := hX
  obtain ⟨y1, y2⟩ := hM
  refine ⟨?_, x1, y1⟩
  rcases x2 with ⟨rfl, a⟩ | ⟨i, ⟨i1, i2, -⟩, i3, rfl⟩
  · rcases y2 with ⟨rfl, -⟩ | ⟨s, ⟨s1, s2, s3, s4⟩, -⟩
    · rfl
    · obtain ⟨i, i1, i2⟩ := h.sx s1 s3 s2
      have := a i (h.ix i1 i2)
      have hm := h.m3 i s i1.1 i1.2 s1.1 s1.2 (by omega)
      have := hm.1.1
      omega
  · have hn := h.num i i1.1 i1.2
    rcases y2 with ⟨rfl, b⟩ | ⟨s, ⟨s1, s2, s3, s4⟩, rfl⟩
    · obtain ⟨s, s1, s2⟩ := h.m1 i i1.1 i1.2
      have hm := h.m3 i s i1.1 i1.2 s1.1 s1.2 s2
      have := b s s1.1 s1.2 (by omega) (by omega)
      have := hm.1.1
      omega
    · have hm := h.m3 i s i1.1 i1.2 s1.1 s1.2 (by omega)
      exact gz_b_cong (h.usb hT i1 i3 hm)
theorem pr_markTold {n : Int} {I J I1 J2 : gz_M} (hT : gz_T I) (hTJ : gz_T J) (h : gz_RR n I J) {m w : Int} {x y : Int} (hX : gz_qX_markTold I m w x I1) (hM : gz_qM_markTold J m w y J2) : x = y ∧ I = I1 ∧ J = J2 := by
  obtain ⟨x1, x2⟩ := hX
  obtain ⟨y1, y2⟩ := hM
  refine ⟨?_, x1, y1⟩
  rcases x2 with ⟨rfl, a⟩ | ⟨i, ⟨i1, i2, -⟩, i3⟩
  · rcases y2 with ⟨rfl, -⟩ | ⟨s, ⟨s1, s2, s3⟩, s4⟩
    · rfl
    · rcases a with a | a
      · obtain ⟨i, i1, i2⟩ := h.sx s1 s3 s2
        exact absurd i2 (a i i1.1 i1.2)
      · exfalso
        omega
  · have hn := h.num i i1.1 i1.2
    rcases y2 with ⟨rfl, b⟩ | ⟨s, ⟨s1, s2, s3⟩, s4⟩
    · rcases b with b | b
      · obtain ⟨s, s1, s2⟩ := h.m1 i i1.1 i1.2
        exact absurd (s2.trans i2) (b s s1.1 s1.2 (by omega))
      · exfalso
        omega
    · obtain ⟨⟨m3, m4, m5, m6, m7, m8⟩, m9⟩ := h.m3 i s i1.1 i1.2 s1.1 s1.2 (by omega)
      have hsum : gz_sm (fun t => I (19, I (4, 0, 0) i, 0) t) (I (16, I (4, 0, 0) i, 0) 5).toNat = gz_sm (fun t => J (34, 0, 0) (4 * s + t)) (J (33, 0, 0) s).toNat := by
        rw [← m5]
        exact gz_sm_cong (fun t a b => (m9 t a (by omega)).1)
      rw [hsum] at i3
      omega
theorem pr_list {n : Int} {I J I1 J2 : gz_M} (hT : gz_T I) (hTJ : gz_T J) (h : gz_RR n I J) {m t j : Int} {x y : Int} (hX : gz_qX_list I m t j x I1) (hM : gz_qM_list J m t j y J2) : x = y ∧ I = I1 ∧ J = J2 := by
  obtain ⟨x1, x2⟩ := hX
  obtain ⟨y1, y2⟩ := hM
  refine ⟨?_, x1, y1⟩
  rcases x2 with ⟨rfl, a⟩ | ⟨i, ⟨i1, i2, -⟩, i3, i4⟩
  · rcases y2 with ⟨rfl, -⟩ | ⟨s, ⟨s1, s2, s3, s4⟩, -⟩
    · rfl
    · obtain ⟨i, i1, i2⟩ := h.sx s1 s3 s2
      have := a i (h.ix i1 i2)
      have hm := h.m3 i s i1.1 i1.2 s1.1 s1.2 (by omega)
      have := hm.1.1
      omega
  · have hn := h.num i i1.1 i1.2
    rcases y2 with ⟨rfl, b⟩ | ⟨s, ⟨s1, s2, s3, s4⟩, s5⟩
    · obtain ⟨s, s1, s2⟩ := h.m1 i i1.1 i1.2
      have hm := h.m3 i s i1.1 i1.2 s1.1 s1.2 s2
      have := b s s1.1 s1.2 (by omega) (by omega)
      have := hm.1.1
      omega
    · obtain ⟨⟨m3, m4, m5, -⟩, m9⟩ := h.m3 i s i1.1 i1.2 s1.1 s1.2 (by omega)
      by_cases ht : (0 ≤ t ∧ t < I (16, I (4, 0, 0) i, 0) 5) ∧ 0 ≤ j
      · obtain ⟨q1, q2⟩ := m9 t ht.1.1 ht.1.2
        have q3 := q2 j ht.2
        have q4 : gz_lM J s t j = J (35, 0, 0) (80 * (4 * s + t) + j) := rfl
        rcases i4 with ⟨a, -⟩ | ⟨-, a⟩
        · exact absurd ht a
        · rcases s5 with ⟨b, -⟩ | ⟨-, b⟩
          · exact absurd ⟨⟨ht.1.1, by omega⟩, ht.2⟩ b
          · omega
      · omega
theorem pr_same {n : Int} {I J I1 J2 : gz_M} (hT : gz_T I) (hTJ : gz_T J) (h : gz_RR n I J) {m w : Int} {x y : Int} (hX : gz_qX_same I m w x I1) (hM : gz_qM_same J m w y J2) : x = y ∧ I = I1 ∧ J = J2 := by
  obtain ⟨x1, x2⟩ := hX
  obtain ⟨y1, y2⟩ := hM
  refine ⟨?_, x1, y1⟩
  have key : ∀ q i s, (0 ≤ i ∧ i < I (0, 0, 0) 7) → I (16, I (4, 0, 0) i, 0) 2 = q → I (16, I (4, 0, 0) i, 0) 3 = 1 → (∀ s, 0 ≤ s → s < 12 → 0 ≤ q → J (30, 0, 0) s = q → J (31, 0, 0) s = 0) → s = 0 → False := fun q i _ i1 i2 i3 b _ => by
    have hn := h.num i i1.1 i1.2
    obtain ⟨s, s1, s2⟩ := h.m1 i i1.1 i1.2
    have hm := h.m3 i s i1.1 i1.2 s1.1 s1.2 s2
    have := b s s1.1 s1.2 (by omega) (by omega)
    have := hm.1.1
    omega
  have key2 : ∀ q s, ((0 ≤ s ∧ s < 12) ∧ 0 ≤ q ∧ J (30, 0, 0) s = q ∧ J (31, 0, 0) s = 1) → (∀ i, ((0 ≤ i ∧ i < I (0, 0, 0) 7) ∧ I (16, I (4, 0, 0) i, 0) 2 = q ∧ ∀ j, 0 ≤ j → j < i → ¬ I (16, I (4, 0, 0) j, 0) 2 = q) → I (16, I (4, 0, 0) i, 0) 3 = 0) → False := fun q s hs a => by
    obtain ⟨s1, s2, s3, s4⟩ := hs
    obtain ⟨i, i1, i2⟩ := h.sx s1 s3 s2
    have := a i (h.ix i1 i2)
    have hm := h.m3 i s i1.1 i1.2 s1.1 s1.2 (by omega)
    have := hm.1.1
    omega
  rcases x2 with ⟨rfl, a⟩ | ⟨i, i', ⟨i1, i2, -⟩, i3, ⟨j1, j2, -⟩, j3, rfl⟩
  · rcases y2 with ⟨rfl, -⟩ | ⟨s, s', hs, hs', -⟩
    · rfl
    · rcases a with a | a
      · exact (key2 m s hs a).elim
      · exact (key2 w s' hs' a).elim
  · rcases y2 with ⟨rfl, b⟩ | ⟨s, s', ⟨s1, s2, s3, s4⟩, ⟨r1, r2, r3, r4⟩, rfl⟩
    · rcases b with b | b
      · exact (key m i 0 i1 i2 i3 b rfl).elim
      · exact (key w i' 0 j1 j2 j3 b rfl).elim
    · obtain ⟨⟨-, -, m5, -⟩, m9⟩ := h.m3 i s i1.1 i1.2 s1.1 s1.2 (by omega)
      obtain ⟨⟨-, -, m5', -⟩, m9'⟩ := h.m3 i' s' j1.1 j1.2 r1.1 r1.2 (by omega)
      apply gz_b_cong
      unfold gz_smM gz_alM
      rw [← m5, ← m5']
      constructor
      · rintro ⟨z1, z2⟩
        refine ⟨z1, fun t a b => ?_⟩
        obtain ⟨z3, z4⟩ := z2 t a b
        obtain ⟨q1, q2⟩ := m9 t a b
        obtain ⟨q1', q2'⟩ := m9' t a (by omega)
        refine ⟨by omega, fun j c d => ?_⟩
        have := q2 j c (by omega)
        have := q2' j c (by omega)
        have := z4 j c (by omega)
        show J (35, 0, 0) _ = J (35, 0, 0) _
        omega
      · rintro ⟨z1, z2⟩
        refine ⟨z1, fun t a b => ?_⟩
        obtain ⟨z3, z4⟩ := z2 t a b
        obtain ⟨q1, q2⟩ := m9 t a b
        obtain ⟨q1', q2'⟩ := m9' t a (by omega)
        refine ⟨by omega, fun j c d => ?_⟩
        have := q2 j c (by omega)
        have := q2' j c (by omega)
        have z5 : J (35, 0, 0) (80 * (4 * s + t) + j) = J (35, 0, 0) (80 * (4 * s' + t) + j) := z4 j c (by omega)
        omega
theorem pr_partTold {n : Int} {I J I1 J2 : gz_M} (hT : gz_T I) (hTJ : gz_T J) (h : gz_RR n I J) {p w : Int} {x y : Int} (hX : gz_qX_partTold I p w x I1) (hM : gz_qM_partTold J p w y J2) : x = y ∧ I = I1 ∧ J = J2 := by
  have htk := h.tk
  have hk4 := gz_tk hT 0 0
  obtain ⟨x1, x2⟩ := hX
  obtain ⟨y1, y2⟩ := hM
  refine ⟨?_, x1, y1⟩
  by_cases hp : 0 ≤ p ∧ p < 120 ∧ 0 < I (13, 0, 0) p
  · have hp2 : 0 ≤ p ∧ p < 120 := ⟨hp.1, hp.2.1⟩
    have e24 := h.p24 hp2
    have e25 := h.p25 hp2 hp.2.2
    have hsn := gz_b_cong (h.snd4 hp2 hp.2.2)
    have hn2 : gz_sm (fun j => gz_b (I (16, I (4, 0, 0) (j), 0) 3 = 1 ∧ gz_nmd I (I (4, 0, 0) (j)) p)) (I (0, 0, 0) 7).toNat = gz_sm (fun s => gz_b (¬ J (30, 0, 0) s = -1 ∧ J (31, 0, 0) s = 1 ∧ gz_hpM J s p)) 12 := h.ct hT (fun s a b e => gz_b0 (fun z => z.1 e)) (fun i s a b c d e => gz_b_cong (by
      have hm := h.m3 i s a b c d e
      have hn := h.num i a b
      rw [gz_RR.nmd (p := p) hT hm, hm.1.1]
      constructor
      · exact fun z => ⟨by omega, z.1, z.2⟩
      · exact fun z => z.2))
    have hn4 : gz_sm (fun t => I (11, t, 0) p) (I (0, 0, 0) 6).toNat = gz_sm (fun t => J (28, 0, 0) (120 * t + p)) 4 := by
      rw [gz_sm_cong (n := 4) (f := fun t => J (28, 0, 0) (120 * t + p)) (g := fun t => I (11, t, 0) p) (fun t a b => h.hs t p a (by omega) hp.1 hp.2.1)]
      exact (gz_sm_tail (f := fun t => I (11, t, 0) p) (b := 4) (by omega) (fun t a b => h.ho t p (by omega) (by omega) hp.1 hp.2.1)).symm
    rcases x2 with ⟨rfl, a⟩ | ⟨-, a⟩
    · rcases y2 with ⟨rfl, b⟩ | ⟨-, b⟩
      · rfl
      · rcases a with a | a
        · exact absurd hp a
        · exfalso; omega
    · rcases y2 with ⟨rfl, b⟩ | ⟨-, b⟩
      · rcases b with b | b
        · exact absurd ⟨hp.1, hp.2.1, by omega⟩ b
        · exfalso; omega
      · rw [hn2, hn4, hsn] at a
        omega
  · rcases x2 with ⟨rfl, a⟩ | ⟨a, -⟩
    · rcases y2 with ⟨rfl, b⟩ | ⟨b, -⟩
      · rfl
      · have e24 := h.p24 (p := p) ⟨b.1, b.2.1⟩
        exact absurd ⟨b.1, b.2.1, by have := b.2.2; omega⟩ hp
    · exact absurd a hp
