theorem pr_told {n : Int} {I J I1 J2 : gz_M} (hT : gz_T I) (hTJ : gz_T J) (h : gz_RR n I J) {w : Int} {x y : Int} (hX : gz_qX_told I w x I1) (hM : gz_qM_told J w y J2) : x = y ∧ I = I1 ∧ J = J2 := by
  have htk := h.tk
  have hk4 := gz_tk hT 0 0
  obtain ⟨x1, x2⟩ := hX
  obtain ⟨y1, y2⟩ := hM
  refine ⟨?_, x1, y1⟩
  have hc1 : gz_sm (fun j => I (16, I (4, 0, 0) (j), 0) 3) (I (0, 0, 0) 7).toNat = gz_sm (fun s => gz_b (¬ J (30, 0, 0) s = -1 ∧ J (31, 0, 0) s = 1)) 12 := h.ct hT (fun s a b e => gz_b0 (fun z => z.1 e)) (fun i s a b c d e => by
    have hm := h.m3 i s a b c d e
    have hn := h.num i a b
    have e31 := gz_t31 hTJ 0 0 s
    rw [hm.1.1]
    by_cases z : J (31, 0, 0) s = 1
    · rw [gz_b1 (P := (¬ J (30, 0, 0) s = -1 ∧ J (31, 0, 0) s = 1)) ⟨by omega, z⟩]; exact z
    · rw [gz_b0 (P := (¬ J (30, 0, 0) s = -1 ∧ J (31, 0, 0) s = 1)) (fun y => z y.2)]; omega)
  have hc2 : I (0, 0, 0) 7 = gz_hc J := by
    have eH := gz_th hT 0 0
    have h9 : gz_sm (fun _ => 1) (I (0, 0, 0) 7).toNat = gz_sm (fun s => gz_b (¬ J (30, 0, 0) s = -1)) 12 := h.ct hT (fun s a b e => gz_b0 (fun z => z e)) (fun i s a b c d e => by
      have hn := h.num i a b
      rw [gz_b1 (P := ¬ J (30, 0, 0) s = -1) (by omega)])
    have h8 : ∀ k : Nat, gz_sm (fun _ => 1) k = k := fun k => by
      induction k with
      | zero => rfl
      | succ k ih => rw [gz_sm_s, ih]; omega
    rw [h8] at h9
    unfold gz_hc
    omega
  have hc3 : I (3, 0, 0) 6 = gz_sm (fun p => if 0 < J (24, 0, 0) p then 1 else 0) 120 := by
    rw [h.E.1]
    unfold gz_cnt
    exact gz_sm_cong (fun p a b => by
      have e := h.p24 (p := p) ⟨a, by omega⟩
      have e2 : gz_aX I 0 p 0 = I (13, 0, 0) p := by
        show (if 0 ≤ p ∧ p < 120 then I (13, 0, 0) p else 0) = _
        rw [if_pos ⟨a, by omega⟩]
      show (if 0 < gz_aX I 0 p 0 then 1 else 0) = if 0 < J (24, 0, 0) p then 1 else 0
      rw [e2, e])
  have hc4 : I (3, 0, 0) 7 = gz_tot (gz_aM J) := by rw [h.E.2, h.A]
  have hc6 : gz_sm (fun p => if 0 < I (13, 0, 0) p ∧ ¬ (I (11, 4, 0) p = 1 ∧ gz_dg (fun i => I (12, 4, 0) (32 * p + i)) (I (13, 0, 0) p).toNat = I (14, 0, 0) p) then 1 else 0) 120 = gz_sm (fun p => gz_b (0 < J (24, 0, 0) p ∧ ¬ gz_snM J p)) 120 := gz_sm_cong (fun p a b => by
    have e := h.p24 (p := p) ⟨a, by omega⟩
    show (if 0 < I (13, 0, 0) p ∧ ¬ (I (11, 4, 0) p = 1 ∧ gz_dg (fun i => I (12, 4, 0) (32 * p + i)) (I (13, 0, 0) p).toNat = I (14, 0, 0) p) then 1 else 0) = gz_b (0 < J (24, 0, 0) p ∧ ¬ gz_snM J p)
    by_cases z : 0 < I (13, 0, 0) p
    · have e3 : (I (11, 4, 0) p = 1 ∧ gz_dg (fun i => I (12, 4, 0) (32 * p + i)) (I (13, 0, 0) p).toNat = I (14, 0, 0) p) ↔ gz_snM J p := h.snd4 (p := p) ⟨a, by omega⟩ z
      by_cases z2 : gz_snM J p
      · rw [if_neg (fun y => y.2 (e3.mpr z2)), gz_b0 (P := (0 < J (24, 0, 0) p ∧ ¬ gz_snM J p)) (fun y => y.2 z2)]
      · rw [if_pos ⟨z, fun y => z2 (e3.mp y)⟩, gz_b1 (P := (0 < J (24, 0, 0) p ∧ ¬ gz_snM J p)) ⟨by omega, z2⟩]
    · rw [if_neg (fun y => z y.1), gz_b0 (P := (0 < J (24, 0, 0) p ∧ ¬ gz_snM J p)) (fun y => by have := y.1; omega)])
  have hc7 : gz_sm (fun p => gz_sm (fun t => I (11, t, 0) p) (I (0, 0, 0) 6).toNat) 120 = gz_sm (fun k => J (28, 0, 0) k) 480 := by
    have a1 : gz_sm (fun p => gz_sm (fun t => I (11, t, 0) p) (I (0, 0, 0) 6).toNat) 120 = gz_sm (fun p => gz_sm (fun t => J (28, 0, 0) (120 * t + p)) 4) 120 := gz_sm_cong (fun p a b => by
      show gz_sm (fun t => I (11, t, 0) p) (I (0, 0, 0) 6).toNat = gz_sm (fun t => J (28, 0, 0) (120 * t + p)) 4
      rw [gz_sm_cong (n := 4) (f := fun t => J (28, 0, 0) (120 * t + p)) (g := fun t => I (11, t, 0) p) (fun t c d => h.hs t p c (by omega) a (by omega))]
      exact (gz_sm_tail (f := fun t => I (11, t, 0) p) (b := 4) (by omega) (fun t c d => h.ho t p (by omega) (by omega) a (by omega))).symm)
    have a2 : gz_sm (fun k => J (28, 0, 0) k) 480 = gz_sm (fun p => J (28, 0, 0) p) 120 + gz_sm (fun p => J (28, 0, 0) ((120 : Nat) + p)) 120 + gz_sm (fun p => J (28, 0, 0) ((240 : Nat) + p)) 120 + gz_sm (fun p => J (28, 0, 0) ((360 : Nat) + p)) 120 := by
      rw [show 480 = 360 + 120 from rfl, gz_sm_app, show 360 = 240 + 120 from rfl, gz_sm_app, show 240 = 120 + 120 from rfl, gz_sm_app]
    have a3 : gz_sm (fun p => gz_sm (fun t => J (28, 0, 0) (120 * t + p)) 4) 120 = gz_sm (fun t => gz_sm (fun p => J (28, 0, 0) (120 * t + p)) 120) 4 := gz_sm_sw
    have a4 : gz_sm (fun t => gz_sm (fun p => J (28, 0, 0) (120 * t + p)) 120) 4 = 0 + gz_sm (fun p => J (28, 0, 0) (120 * ((0 : Nat) : Int) + p)) 120 + gz_sm (fun p => J (28, 0, 0) (120 * ((1 : Nat) : Int) + p)) 120 + gz_sm (fun p => J (28, 0, 0) (120 * ((2 : Nat) : Int) + p)) 120 + gz_sm (fun p => J (28, 0, 0) (120 * ((3 : Nat) : Int) + p)) 120 := rfl
    have b0 : gz_sm (fun p => J (28, 0, 0) (120 * ((0 : Nat) : Int) + p)) 120 = gz_sm (fun p => J (28, 0, 0) p) 120 := gz_sm_cong (fun p _ _ => by rw [show 120 * ((0 : Nat) : Int) + p = p by omega])
    have b1 : gz_sm (fun p => J (28, 0, 0) (120 * ((1 : Nat) : Int) + p)) 120 = gz_sm (fun p => J (28, 0, 0) ((120 : Nat) + p)) 120 := gz_sm_cong (fun p _ _ => by rw [show 120 * ((1 : Nat) : Int) + p = (120 : Nat) + p by omega])
    have b2 : gz_sm (fun p => J (28, 0, 0) (120 * ((2 : Nat) : Int) + p)) 120 = gz_sm (fun p => J (28, 0, 0) ((240 : Nat) + p)) 120 := gz_sm_cong (fun p _ _ => by rw [show 120 * ((2 : Nat) : Int) + p = (240 : Nat) + p by omega])
    have b3 : gz_sm (fun p => J (28, 0, 0) (120 * ((3 : Nat) : Int) + p)) 120 = gz_sm (fun p => J (28, 0, 0) ((360 : Nat) + p)) 120 := gz_sm_cong (fun p _ _ => by rw [show 120 * ((3 : Nat) : Int) + p = (360 : Nat) + p by omega])
    rw [a1, a3, a4, a2, b0, b1, b2, b3]
    omega
  have hc8 : gz_sm (fun t => I (7, t, 0) 2) (I (0, 0, 0) 6).toNat = gz_sm (fun t => J (21, 0, 0) t) (J (20, 0, 0) 0).toNat := by
    rw [← htk]
    exact gz_sm_cong (fun t a b => by
      have e := h.sz t a (by omega)
      rw [if_pos (by omega)] at e
      exact e.symm)
  have hc5 := h.nx
  rw [hc1, hc6, hc7, hc8] at x2
  omega
theorem gz_RR.st {n : Int} {I J I1 J2 : gz_M} (hT : gz_T I) (h : gz_RR n I J) {t : Int} (ht : 0 ≤ t ∧ t < I (0, 0, 0) 6) (hI : ∀ q, q ≠ (7, t, 0) → q ≠ (8, t, 0) → I1 q = I q) (hJ : ∀ q, q ≠ (21, 0, 0) → q ≠ (22, 0, 0) → J2 q = J q) (hz : J2 (21, 0, 0) t = I1 (7, t, 0) 2) (hz2 : ∀ u, u ≠ t → J2 (21, 0, 0) u = J (21, 0, 0) u) (hb : ∀ i, 0 ≤ i → i < 300 → gz_fm J2 t i = I1 (8, t, 0) i) (hb2 : ∀ u i, u ≠ t → 0 ≤ i → i < 300 → gz_fm J2 u i = gz_fm J u i) : gz_RR (n + 1) I1 J2 := by
  have hup := h.up
  have i0 : I1 (0, 0, 0) = I (0, 0, 0) := hI _ (gz_ne rfl) (gz_ne rfl)
  have j20 : J2 (20, 0, 0) = J (20, 0, 0) := hJ _ (gz_ne rfl) (gz_ne rfl)
  refine ⟨h.1.cong (hI _ (gz_ne rfl) (gz_ne rfl)) (gz_aX_cong (hI _ (gz_ne rfl) (gz_ne rfl)) (hI _ (gz_ne rfl) (gz_ne rfl)) (hI _ (gz_ne rfl) (gz_ne rfl)) (hI _ (gz_ne rfl) (gz_ne rfl))) (gz_aM_cong (hJ _ (gz_ne rfl) (gz_ne rfl)) (hJ _ (gz_ne rfl) (gz_ne rfl)) (hJ _ (gz_ne rfl) (gz_ne rfl)) (hJ _ (gz_ne rfl) (gz_ne rfl))), ?_, ⟨?_, ?_, ?_, ?_, ?_⟩, hup.2.2.2.cong (hI _ (gz_ne rfl) (gz_ne rfl)) (by rw [i0]) (by rw [i0]; omega) (fun _ => hI _ (gz_ne rfl) (gz_ne rfl)) (fun _ => hI _ (gz_ne rfl) (gz_ne rfl)) (fun _ _ => hI _ (gz_ne rfl) (gz_ne rfl)) (hI _ (gz_ne rfl) (gz_ne rfl)) (fun q b1 b2 => hJ q (fun e => by rw [e] at b1; exact absurd b1 (by decide)) (fun e => by rw [e] at b1; exact absurd b1 (by decide)))⟩
  · unfold gz_RB
    rw [i0, j20]
    exact hup.2.1
  · intro u a b
    rw [i0]
    by_cases e : u = t
    · rw [e, if_pos ht.2, hz]
    · rw [hz2 u e, hI (7, u, 0) (fun e9 => e (by injection e9 with _ e9; injection e9)) (gz_ne rfl)]
      exact h.sz u a b
  · intro u i a b c d
    by_cases e : u = t
    · rw [e]; exact hb i c d
    · rw [hb2 u i e c d, hI (8, u, 0) (gz_ne rfl) (fun e9 => e (by injection e9 with _ e9; injection e9))]
      exact h.bt u i a b c d
  · intro u p a b c d
    rw [hJ _ (gz_ne rfl) (gz_ne rfl), hI _ (gz_ne rfl) (gz_ne rfl)]
    exact h.hs u p a b c d
  · intro u p a b c d
    rw [hJ _ (gz_ne rfl) (gz_ne rfl), hI _ (gz_ne rfl) (gz_ne rfl)]
    exact h.cp u p a b c d
  · intro u p a b c d
    rw [i0] at a
    rw [hI _ (gz_ne rfl) (gz_ne rfl)]
    exact h.ho u p a b c d
theorem pr_remove {n : Int} {I J I1 J2 : gz_M} (hT : gz_T I) (hTJ : gz_T J) (h : gz_RR n I J) {t a m : Int} {x y : Int} (hX : gz_qX_remove I t a m x I1) (hM : gz_qM_remove J t a m y J2) : x = y ∧ gz_RR (n + 1) I1 J2 := by
  have htk := h.tk
  have hk4 := gz_tk hT 0 0
  have hup := h.up
  have hsz : 0 ≤ t ∧ t < I (0, 0, 0) 6 → J (21, 0, 0) t = I (7, t, 0) 2 := fun z => by
    have := h.sz t z.1 (by omega)
    rw [if_pos z.2] at this
    exact this
  have e7 := gz_t7 hT t 0 2
  rcases hX with ⟨c, rfl, rfl⟩ | ⟨c, rfl, c1, c2, c3, c4⟩
  · rcases hM with ⟨d, rfl, rfl⟩ | ⟨d, rfl, d1, d2, d3, d4, d5, d6⟩
    · exact ⟨rfl, hup⟩
    · have e := hsz ⟨d.1.1, by omega⟩
      exact absurd ⟨⟨d.1.1, by omega⟩, d.2.1, d.2.2.1, by omega, by omega⟩ c
  · have e := hsz c.1
    rcases hM with ⟨d, rfl, rfl⟩ | ⟨d, rfl, d1, d2, d3, d4, d5, d6⟩
    · exact absurd ⟨⟨c.1.1, by omega⟩, c.2.1, c.2.2.1, by omega, by omega⟩ d
    · refine ⟨by omega, h.st hT c.1 c4 d6 (by omega) d3 (fun i b1 b2 => ?_) d5⟩
      rw [d4 i b1 b2, c3, e]
      unfold gz_rem
      by_cases z : a ≤ i ∧ i < I (7, t, 0) 2 - m
      · rw [if_pos z, if_pos z]; exact h.bt t _ c.1.1 (by omega) (by omega) (by omega)
      · rw [if_neg z, if_neg z]; exact h.bt t _ c.1.1 (by omega) (by omega) (by omega)
theorem pr_extend {n : Int} {I J I1 J2 : gz_M} (hT : gz_T I) (hTJ : gz_T J) (h : gz_RR n I J) {t m v w : Int} {x y : Int} (hX : gz_qX_extend I t m v w x I1) (hM : gz_qM_extend J t m v w y J2) : x = y ∧ gz_RR (n + 1) I1 J2 := by
  have htk := h.tk
  have hk4 := gz_tk hT 0 0
  have hup := h.up
  have hsz : 0 ≤ t ∧ t < I (0, 0, 0) 6 → J (21, 0, 0) t = I (7, t, 0) 2 := fun z => by
    have := h.sz t z.1 (by omega)
    rw [if_pos z.2] at this
    exact this
  have e7 := gz_t7 hT t 0 2
  rcases hX with ⟨c, rfl, rfl⟩ | ⟨c, c0, rfl, rfl⟩ | ⟨c, c0, rfl, c1, c2, c3, c4⟩
  · rcases hM with ⟨d, rfl, rfl⟩ | ⟨d, d0, rfl, rfl⟩ | ⟨d, d0, rfl, d1, d2, d3, d4, d5, d6⟩
    · exact ⟨rfl, hup⟩
    · exact absurd ⟨⟨d.1.1, by omega⟩, d.2⟩ c
    · exact absurd ⟨⟨d.1.1, by omega⟩, d.2⟩ c
  · have e := hsz c.1
    rcases hM with ⟨d, rfl, rfl⟩ | ⟨d, d0, rfl, rfl⟩ | ⟨d, d0, rfl, d1, d2, d3, d4, d5, d6⟩
    · exact absurd ⟨⟨c.1.1, by omega⟩, c.2⟩ d
    · exact ⟨rfl, hup⟩
    · omega
  · have e := hsz c.1
    rcases hM with ⟨d, rfl, rfl⟩ | ⟨d, d0, rfl, rfl⟩ | ⟨d, d0, rfl, d1, d2, d3, d4, d5, d6⟩
    · exact absurd ⟨⟨c.1.1, by omega⟩, c.2⟩ d
    · omega
    · refine ⟨by omega, h.st hT c.1 c4 d6 (by omega) d3 (fun i b1 b2 => ?_) d5⟩
      rw [d4 i b1 b2, c3, e]
      unfold gz_ext
      by_cases z : I (7, t, 0) 2 ≤ i ∧ i < I (7, t, 0) 2 + m
      · rw [if_pos z, if_pos z]
      · rw [if_neg z, if_neg z]; exact h.bt t _ c.1.1 (by omega) (by omega) (by omega)
theorem pr_insert {n : Int} {I J I1 J2 : gz_M} (hT : gz_T I) (hTJ : gz_T J) (h : gz_RR n I J) {t a m : Int} {v : Int64} {x y : Int} (hX : gz_qX_insert I t a m v x I1) (hM : gz_qM_insert J t a m v y J2) : x = y ∧ gz_RR (n + 1) I1 J2 := by
  have htk := h.tk
  have hk4 := gz_tk hT 0 0
  have hup := h.up
  have hsz : 0 ≤ t ∧ t < I (0, 0, 0) 6 → J (21, 0, 0) t = I (7, t, 0) 2 := fun z => by
    have := h.sz t z.1 (by omega)
    rw [if_pos z.2] at this
    exact this
  have e7 := gz_t7 hT t 0 2
  rcases hX with ⟨c, rfl, rfl⟩ | ⟨c, c0, rfl, rfl⟩ | ⟨c, c0, rfl, c1, c2, c3, c4⟩
  · rcases hM with ⟨d, rfl, rfl⟩ | ⟨d, d0, rfl, rfl⟩ | ⟨d, d0, rfl, d1, d2, d3, d4, d5, d6⟩
    · exact ⟨rfl, hup⟩
    · have e := hsz ⟨d.1.1, by omega⟩
      exact absurd ⟨⟨d.1.1, by omega⟩, d.2.1, d.2.2.1, by omega⟩ c
    · have e := hsz ⟨d.1.1, by omega⟩
      exact absurd ⟨⟨d.1.1, by omega⟩, d.2.1, d.2.2.1, by omega⟩ c
  · have e := hsz c.1
    rcases hM with ⟨d, rfl, rfl⟩ | ⟨d, d0, rfl, rfl⟩ | ⟨d, d0, rfl, d1, d2, d3, d4, d5, d6⟩
    · exact absurd ⟨⟨c.1.1, by omega⟩, c.2.1, c.2.2.1, by omega⟩ d
    · exact ⟨rfl, hup⟩
    · omega
  · have e := hsz c.1
    rcases hM with ⟨d, rfl, rfl⟩ | ⟨d, d0, rfl, rfl⟩ | ⟨d, d0, rfl, d1, d2, d3, d4, d5, d6⟩
    · exact absurd ⟨⟨c.1.1, by omega⟩, c.2.1, c.2.2.1, by omega⟩ d
    · omega
    · refine ⟨by omega, h.st hT c.1 c4 d6 (by omega) d3 (fun i b1 b2 => ?_) d5⟩
      rw [d4 i b1 b2, c3, e]
      unfold gz_ins
      by_cases z : a ≤ i ∧ i < a + m
      · rw [if_pos z, if_pos z]
      · rw [if_neg z, if_neg z]
        by_cases z2 : a + m ≤ i ∧ i < I (7, t, 0) 2 + m
        · rw [if_pos z2, if_pos z2]; exact h.bt t _ c.1.1 (by omega) (by omega) (by omega)
        · rw [if_neg z2, if_neg z2]; exact h.bt t _ c.1.1 (by omega) (by omega) (by omega)
theorem gz_find (Z : Int → Int) (hZ : ∀ v, 0 ≤ Z v) (z : Int) : ∀ (k : Nat), (0 ≤ z ∧ z < gz_sm Z k) → ∃ (v : Nat) (j : Int), v < k ∧ (0 ≤ j ∧ j < Z v) ∧ z = gz_sm Z v + j
  | 0, h => by
    have : gz_sm Z 0 = 0 := rfl
    omega
  | k + 1, h => by
    rw [gz_sm_s] at h
    by_cases e : z < gz_sm Z k
    · obtain ⟨v, j, a, b, c⟩ := gz_find Z hZ z k ⟨h.1, e⟩
      exact ⟨v, j, by omega, b, c⟩
    · exact ⟨k, z - gz_sm Z k, by omega, by omega, by omega⟩
theorem pr_rescale {n : Int} {I J I1 J2 : gz_M} (hT : gz_T I) (hTJ : gz_T J) (h : gz_RR n I J) {m : Int} {x y : Int} (hX : gz_qX_rescale I m x I1) (hM : gz_qM_rescale J m y J2) : x = y ∧ gz_RR (n + 1) I1 J2 := by
  have htk := h.tk
  have hk4 := gz_tk hT 0 0
  have hup := h.up
  have hZ : gz_sm (fun t => I (7, t, 0) 2) (I (0, 0, 0) 6).toNat = gz_sm (gz_ZM J) (J (20, 0, 0) 0).toNat := by
    rw [← htk]
    exact gz_sm_cong (fun t a b => by
      have e := h.sz t a (by omega)
      rw [if_pos (by omega)] at e
      exact e.symm)
  have hZt : ∀ t : Int, 0 ≤ t → t ≤ I (0, 0, 0) 6 → gz_sm (fun t => I (7, t, 0) 2) t.toNat = gz_sm (gz_ZM J) t.toNat := fun t a b => gz_sm_cong (fun u c d => by
      have e := h.sz u c (by omega)
      rw [if_pos (by omega)] at e
      exact e.symm)
  have hA0 := gz_sm_in (f := fun t => I (7, t, 0) 2) (lo := 0) (hi := 300) (fun i => gz_t7 hT i 0 2) (I (0, 0, 0) 6).toNat
  unfold gz_qX_rescale at hX
  unfold gz_qM_rescale at hM
  rw [hZ] at hX hA0
  rcases hX with ⟨c, rfl, rfl⟩ | ⟨c, ⟨t, ht, c0⟩, rfl, rfl⟩ | ⟨c, c0, rfl, c1, c2, c3, ⟨B, b1, b2⟩, c4, c5⟩
  · rcases hM with ⟨d, rfl, rfl⟩ | ⟨d, -⟩
    · exact ⟨rfl, hup⟩
    · exact absurd d c
  · rcases hM with ⟨d, -⟩ | ⟨d, K1, k1, k2, k3, ⟨-, rfl, rfl⟩ | ⟨d0, -⟩⟩
    · exact absurd c d
    · refine ⟨rfl, h.1.cong rfl rfl (gz_aM_cong (k2 _ (gz_ne rfl)) (k2 _ (gz_ne rfl)) (k2 _ (gz_ne rfl)) (k2 _ (gz_ne rfl))), ?_, hup.2.2.1.cong (by omega) rfl (fun _ => rfl) (fun _ => rfl) (fun _ _ _ => rfl) (fun _ _ _ => rfl) (k2 _ (gz_ne rfl)) (k2 _ (gz_ne rfl)) (k2 _ (gz_ne rfl)) (k2 _ (gz_ne rfl)), hup.2.2.2.cong rfl rfl (Int.le_refl _) (fun _ => rfl) (fun _ => rfl) (fun _ _ => rfl) rfl (fun q b1 b2 => k2 q (fun e => by rw [e] at b1; exact absurd b1 (by decide)))⟩
      unfold gz_RB
      rw [k2 _ (gz_ne rfl)]
      exact hup.2.1
    · have := d0 t ht.1 ht.2
      unfold gz_shr at this
      omega
  · rcases hM with ⟨d, -⟩ | ⟨d, K1, k1, k2, k3, ⟨⟨t, ht, d0⟩, -⟩ | ⟨d0, rfl, K, d1, d2⟩⟩
    · exact absurd c d
    · have := c0 t ht.1 ht.2
      unfold gz_shr at d0
      omega
    · obtain ⟨r1, r2, r3, r4⟩ := d1
      obtain ⟨s1, s2, s3, s4, s5, s6⟩ := d2
      have hJ : ∀ q : gz_P, q ≠ (20, 0, 0) → q ≠ (21, 0, 0) → q ≠ (22, 0, 0) → q ≠ (23, 0, 0) → q ≠ (28, 0, 0) → J2 q = J q := fun q q1 q2 q3 q4 q5 => by rw [s6 q q1 q2 q5, r4 q q2 q3, k2 q q4]
      have i8 : I1 (0, 0, 0) 8 = I (0, 0, 0) 8 := c3 8 (by decide)
      have i7 : I1 (0, 0, 0) 7 = I (0, 0, 0) 7 := c3 7 (by decide)
      have hI : ∀ q : gz_P, q.1 ≠ 0 → q.1 ≠ 5 → q.1 ≠ 7 → q.1 ≠ 8 → (∀ t, 0 ≤ t → t < 4 → q ≠ (11, t, 0)) → I1 q = I q := fun q q1 q2 q3 q4 q5 => c5 q (fun e => q1 (by rw [e])) (fun e => q2 (by rw [e])) (fun t _ _ => ⟨fun e => q3 (by rw [e]), fun e => q4 (by rw [e])⟩) (fun t a b => q5 t (by omega) (by omega))
      have hI2 : ∀ q : gz_P, q.1 ≠ 0 → q.1 ≠ 5 → q.1 ≠ 7 → q.1 ≠ 8 → q.1 ≠ 11 → I1 q = I q := fun q q1 q2 q3 q4 q5 => hI q q1 q2 q3 q4 (fun t _ _ e => q5 (by rw [e]))
      have j20 : J2 (20, 0, 0) 10 = J (20, 0, 0) 10 := by rw [s3 10 (by decide), r4 _ (gz_ne rfl) (gz_ne rfl), k2 _ (gz_ne rfl)]
      have hx4 : I1 (11, 4, 0) = I (11, 4, 0) := hI _ (by decide) (by decide) (by decide) (by decide) (fun t a b e => by injection e with _ e; injection e with e; omega)
      have hA : 0 ≤ gz_sm (gz_ZM J) (J (20, 0, 0) 0).toNat := by have := hA0.1; omega
      refine ⟨htk, h.1.cong (hI2 _ (by decide) (by decide) (by decide) (by decide) (by decide)) (gz_aX_cong (hI2 _ (by decide) (by decide) (by decide) (by decide) (by decide)) (hI2 _ (by decide) (by decide) (by decide) (by decide) (by decide)) hx4 (hI2 _ (by decide) (by decide) (by decide) (by decide) (by decide))) (gz_aM_cong (hJ _ (gz_ne rfl) (gz_ne rfl) (gz_ne rfl) (gz_ne rfl) (gz_ne rfl)) (hJ _ (gz_ne rfl) (gz_ne rfl) (gz_ne rfl) (gz_ne rfl) (gz_ne rfl)) (hJ _ (gz_ne rfl) (gz_ne rfl) (gz_ne rfl) (gz_ne rfl) (gz_ne rfl)) (hJ _ (gz_ne rfl) (gz_ne rfl) (gz_ne rfl) (gz_ne rfl) (gz_ne rfl))), ?_, ⟨?_, ?_, ?_, ?_, ?_⟩, hup.2.2.2.cong (hI2 _ (by decide) (by decide) (by decide) (by decide) (by decide)) i7 (by omega) (fun _ => hI2 _ (gz_nb rfl) (gz_nb rfl) (gz_nb rfl) (gz_nb rfl) (gz_nb rfl)) (fun _ => hI2 _ (gz_nb rfl) (gz_nb rfl) (gz_nb rfl) (gz_nb rfl) (gz_nb rfl)) (fun _ _ => hI2 _ (gz_nb rfl) (gz_nb rfl) (gz_nb rfl) (gz_nb rfl) (gz_nb rfl)) (hI2 _ (by decide) (by decide) (by decide) (by decide) (by decide)) (fun q b1 b2 => hJ q (fun e => by rw [e] at b1; exact absurd b1 (by decide)) (fun e => by rw [e] at b1; exact absurd b1 (by decide)) (fun e => by rw [e] at b1; exact absurd b1 (by decide)) (fun e => by rw [e] at b1; exact absurd b1 (by decide)) (fun e => by rw [e] at b1; exact absurd b1 (by decide)))⟩
      · exact ⟨by rw [c2, s2], by rw [i8, j20]; exact h.nx, by rw [i8]; exact hup.n0⟩
      · intro u a b
        rw [s4 u a b, c2]
        by_cases e : m ≤ u
        · rw [if_pos e, if_neg (by omega)]
        · rw [if_neg e, if_pos (by omega), r2 u a b, if_pos (by omega), (b2 u a (by omega)).1]
          rfl
      · intro u i a b c' d'
        have e1 : gz_fm J2 u i = gz_fm K u i := by
          unfold gz_fm
          rw [s6 _ (gz_ne rfl) (gz_ne rfl) (gz_ne rfl)]
        rw [e1, r3 u i a b c' d']
        by_cases e : u < m
        · rw [(b2 u a e).2 i]
          by_cases e2 : i < gz_shr (gz_sm (gz_ZM J) (J (20, 0, 0) 0).toNat) m u
          · have s9 := gz_share (a := gz_sm (gz_ZM J) (J (20, 0, 0) 0).toNat) hA c.1 (t := u) ⟨a, e⟩
            have e3 : gz_shr (gz_sm (gz_ZM J) (J (20, 0, 0) 0).toNat) m u = gz_sm (gz_ZM J) (J (20, 0, 0) 0).toNat * (u + 1) / m - gz_sm (gz_ZM J) (J (20, 0, 0) 0).toNat * u / m := rfl
            rw [if_pos ⟨e, e2⟩, if_pos ⟨c', e2⟩]
            have hpos : 0 ≤ gz_sm (gz_ZM J) (J (20, 0, 0) 0).toNat * u / m + i ∧ gz_sm (gz_ZM J) (J (20, 0, 0) 0).toNat * u / m + i < gz_sm (gz_ZM J) (J (20, 0, 0) 0).toNat := by omega
            generalize gz_sm (gz_ZM J) (J (20, 0, 0) 0).toNat * u / m + i = z at hpos
            obtain ⟨v, j, v1, v2, v3⟩ := gz_find (gz_ZM J) (fun v => (gz_t21 hTJ 0 0 v).1) z (J (20, 0, 0) 0).toNat hpos
            have v4 : (v : Int) < I (0, 0, 0) 6 := by omega
            have q1 := k3 v (by omega) (by omega) j v2.1 v2.2
            have e7 := h.sz v (by omega) (by omega)
            rw [if_pos v4] at e7
            have q2 := b1 v (by omega) v4 j v2.1 (by have := v2.2; show j < I (7, v, 0) 2; rw [← e7]; exact this)
            have q3 := hZt v (by omega) (by omega)
            have e9 := gz_t7 hT v 0 2
            rw [Int.toNat_natCast] at q1 q2 q3
            rw [q3] at q2
            rw [v3, q1, q2]
            exact h.bt v j (by omega) (by omega) v2.1 (by have := v2.2; have : j < J (21, 0, 0) v := this; omega)
          · rw [if_neg (fun z => e2 z.2), if_neg (fun z => e2 z.2)]
            exact h.bt u i a b c' d'
        · rw [if_neg (fun z => e z.1), c5 (8, u, 0) (gz_ne rfl) (gz_ne rfl) (fun t x1 x2 => ⟨gz_ne rfl, fun e9 => by injection e9 with _ e9; injection e9 with e9; omega⟩) (fun t _ _ => gz_ne rfl)]
          exact h.bt u i a b c' d'
      · intro u p a b c' d'
        rw [s5 _ (by omega) (by omega)]
        by_cases e : m ≤ u
        · rw [if_pos (by omega)]
          by_cases e2 : u < I (0, 0, 0) 6
          · exact (c4 u e e2 p c' d').symm
          · rw [c5 (11, u, 0) (gz_ne rfl) (gz_ne rfl) (fun _ _ _ => ⟨gz_ne rfl, gz_ne rfl⟩) (fun t x1 x2 e9 => by injection e9 with _ e9; injection e9 with e9; omega)]
            exact (h.ho u p (by omega) b c' d').symm
        · rw [if_neg (by omega), r4 _ (gz_ne rfl) (gz_ne rfl), k2 _ (gz_ne rfl), c5 (11, u, 0) (gz_ne rfl) (gz_ne rfl) (fun _ _ _ => ⟨gz_ne rfl, gz_ne rfl⟩) (fun t x1 x2 e9 => by injection e9 with _ e9; injection e9 with e9; omega)]
          exact h.hs u p a b c' d'
      · intro u i a b c' d'
        rw [hJ _ (gz_ne rfl) (gz_ne rfl) (gz_ne rfl) (gz_ne rfl) (gz_ne rfl), hI2 _ (gz_nb rfl) (gz_nb rfl) (gz_nb rfl) (gz_nb rfl) (gz_nb rfl)]
        exact h.cp u i a b c' d'
      · intro u p a b c' d'
        rw [c2] at a
        by_cases e2 : u < I (0, 0, 0) 6
        · exact c4 u a e2 p c' d'
        · rw [c5 (11, u, 0) (gz_ne rfl) (gz_ne rfl) (fun _ _ _ => ⟨gz_ne rfl, gz_ne rfl⟩) (fun t x1 x2 e9 => by injection e9 with _ e9; injection e9 with e9; omega)]
          exact h.ho u p (by omega) b c' d' 
