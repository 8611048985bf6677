theorem gz_r1_cong2 {z z' g g' B B' h h' b b' : Int → Int} {p : Int} (hp : 0 ≤ p ∧ p < 120) (hz : 0 ≤ z p ∧ z p ≤ 32) (ez : z p = z' p) (eg : g p = g' p) (eB : ∀ i, 0 ≤ i → i < z p → B (32 * p + i) = B' (32 * p + i)) (e1 : ∀ q, 0 ≤ q → q < 120 → h q = h' q) (e2 : ∀ i, 0 ≤ i → i < 3840 → b i = b' i) : (∀ q, 0 ≤ q → q < 120 → (gz_r1 z g B p h b).1 q = (gz_r1 z' g' B' p h' b').1 q) ∧ (∀ i, 0 ≤ i → i < 3840 → (gz_r1 z g B p h b).2 i = (gz_r1 z' g' B' p h' b').2 i) := by
  have hd : gz_dg (fun i => b (32 * p + i)) (z p).toNat = gz_dg (fun i => b' (32 * p + i)) (z p).toNat := gz_dg_cong (fun i a1 a2 => e2 _ (by omega) (by omega))
  unfold gz_r1
  rw [← ez, ← eg, hd, e1 p hp.1 hp.2]
  by_cases hc : h' p = 1 ∧ gz_dg (fun i => b' (32 * p + i)) (z p).toNat = g p
  · rw [if_pos hc, if_pos hc]
    exact ⟨e1, e2⟩
  · rw [if_neg hc, if_neg hc]
    refine ⟨fun q a1 a2 => ?_, fun i a1 a2 => ?_⟩
    · show (if q = p then 1 else h q) = if q = p then 1 else h' q
      rw [e1 q a1 a2]
    · show (if 32 * p ≤ i ∧ i < 32 * p + z p then B i else b i) = if 32 * p ≤ i ∧ i < 32 * p + z p then B' i else b' i
      rw [e2 i a1 a2]
      by_cases y : 32 * p ≤ i ∧ i < 32 * p + z p
      · rw [if_pos y, if_pos y]
        have := eB (i - 32 * p) (by omega) (by omega)
        rw [show 32 * p + (i - 32 * p) = i by omega] at this
        exact this
      · rw [if_neg y, if_neg y]
theorem gz_rs_cong {L L' z z' g g' B B' h h' b b' s s' : Int → Int} {n : Nat} (hL : ∀ j : Nat, j < n → L j = L' j ∧ (0 ≤ L j ∧ L j < 120) ∧ z (L j) = z' (L j) ∧ (0 ≤ z (L j) ∧ z (L j) ≤ 32) ∧ g (L j) = g' (L j) ∧ ∀ i, 0 ≤ i → i < z (L j) → B (32 * L j + i) = B' (32 * L j + i)) (e1 : ∀ q, 0 ≤ q → q < 120 → h q = h' q) (e2 : ∀ i, 0 ≤ i → i < 3840 → b i = b' i) (e3 : ∀ i, 0 ≤ i → i < 300 → s i = s' i) : ∀ k : Nat, k ≤ n → gz_sm (fun m => z (L m)) k = gz_sm (fun m => z' (L' m)) k ∧ (∀ q, 0 ≤ q → q < 120 → (gz_rs L z g B h b s k).1 q = (gz_rs L' z' g' B' h' b' s' k).1 q) ∧ (∀ i, 0 ≤ i → i < 3840 → (gz_rs L z g B h b s k).2.1 i = (gz_rs L' z' g' B' h' b' s' k).2.1 i) ∧ (∀ i, 0 ≤ i → i < 300 → (gz_rs L z g B h b s k).2.2 i = (gz_rs L' z' g' B' h' b' s' k).2.2 i)
  | 0, _ => ⟨rfl, e1, e2, e3⟩
  | k + 1, hk => by
    obtain ⟨i0, i1, i2, i3⟩ := gz_rs_cong hL e1 e2 e3 k (by omega)
    obtain ⟨l1, l2, l3, l4, l5, l6⟩ := hL k (by omega)
    have hc := gz_r1_cong2 l2 l4 l3 l5 l6 i1 i2
    refine ⟨?_, ?_, ?_, ?_⟩
    · rw [gz_sm_s, gz_sm_s, i0]
      show _ + z (L k) = _ + z' (L' k)
      rw [← l1, l3]
    · show ∀ q, 0 ≤ q → q < 120 → (gz_r1 z g B (L k) _ _).1 q = (gz_r1 z' g' B' (L' k) _ _).1 q
      rw [← l1]
      exact hc.1
    · show ∀ i, 0 ≤ i → i < 3840 → (gz_r1 z g B (L k) _ _).2 i = (gz_r1 z' g' B' (L' k) _ _).2 i
      rw [← l1]
      exact hc.2
    · intro i a1 a2
      show (if gz_sm (fun m => z (L m)) k ≤ i ∧ i < gz_sm (fun m => z (L m)) k + z (L k) then (gz_r1 z g B (L k) _ _).2 (32 * L k + (i - gz_sm (fun m => z (L m)) k)) else (gz_rs L z g B h b s k).2.2 i) = if gz_sm (fun m => z' (L' m)) k ≤ i ∧ i < gz_sm (fun m => z' (L' m)) k + z' (L' k) then (gz_r1 z' g' B' (L' k) _ _).2 (32 * L' k + (i - gz_sm (fun m => z' (L' m)) k)) else (gz_rs L' z' g' B' h' b' s' k).2.2 i
      rw [← l1, ← l3, ← i0]
      by_cases y : gz_sm (fun m => z (L m)) k ≤ i ∧ i < gz_sm (fun m => z (L m)) k + z (L k)
      · rw [if_pos y, if_pos y]
        exact hc.2 _ (by omega) (by omega)
      · rw [if_neg y, if_neg y]
        exact i3 i a1 a2
theorem pr_back {n : Int} {I J I1 J2 : gz_M} (hT : gz_T I) (hTJ : gz_T J) (h : gz_RR n I J) {m : Int} {x y : Int} (hX : gz_qX_back I m x I1) (hM : gz_qM_back J m y J2) : x = y ∧ gz_RR (n + 1) I1 J2 := by
  have hnx := h.nx
  have hup := h.up
  have hk4 := gz_tk hT 0 0
  have hfw : ∀ i, 0 ≤ i → i < I (0, 0, 0) 7 → I (16, I (4, 0, 0) i, 0) 2 ≤ m → gz_usb I (I (4, 0, 0) i) → ∃ s, (0 ≤ s ∧ s < 12) ∧ J (30, 0, 0) s = I (16, I (4, 0, 0) i, 0) 2 ∧ (¬ J (30, 0, 0) s = -1 ∧ J (31, 0, 0) s = 1 ∧ J (30, 0, 0) s ≤ m) ∧ gz_usM J s := fun i a b c d => by
    obtain ⟨s, s1, s2⟩ := h.m1 i a b
    have hm := h.m3 i s a b s1.1 s1.2 s2
    have hn := h.num i a b
    exact ⟨s, s1, s2, ⟨by omega, by rw [← hm.1.1]; exact d.1, by omega⟩, (h.usb hT ⟨a, b⟩ d.1 hm).mp d⟩
  have hbw : ∀ s, 0 ≤ s → s < 12 → (¬ J (30, 0, 0) s = -1 ∧ J (31, 0, 0) s = 1 ∧ J (30, 0, 0) s ≤ m) → gz_usM J s → ∃ i, (0 ≤ i ∧ i < I (0, 0, 0) 7) ∧ J (30, 0, 0) s = I (16, I (4, 0, 0) i, 0) 2 ∧ I (16, I (4, 0, 0) i, 0) 2 ≤ m ∧ gz_usb I (I (4, 0, 0) i) := fun s a b c d => by
    rcases h.m2 s a b with z | ⟨i, i1, i2⟩
    · exact absurd z c.1
    · have hm := h.m3 i s i1.1 i1.2 a b i2
      have hk : I (16, I (4, 0, 0) i, 0) 3 = 1 := by rw [hm.1.1]; exact c.2.1
      exact ⟨i, i1, i2, by have := c.2.2; omega, (h.usb hT i1 hk hm).mpr d⟩
  rcases hX with ⟨a, rfl, rfl⟩ | ⟨a, rfl, a2, rfl⟩ | ⟨a, i, i1, ⟨i2, i3⟩, i4, rfl, c1, c2, c3, c4, c5, c6⟩
  · rcases hM with ⟨b, rfl, rfl⟩ | ⟨b, -⟩ | ⟨b, -⟩
    · exact ⟨rfl, hup⟩
    · exact absurd ⟨b.1, by omega⟩ a
    · exact absurd ⟨b.1, by omega⟩ a
  · rcases hM with ⟨b, -⟩ | ⟨b, rfl, -, rfl⟩ | ⟨b, s, s1, ⟨s2, s3⟩, -⟩
    · exact absurd ⟨a.1, by omega⟩ b
    · exact ⟨rfl, hup⟩
    · obtain ⟨i, i1, -, i3, i4⟩ := hbw s s1.1 s1.2 s2 s3
      exact absurd ⟨i3, i4⟩ (a2 i i1.1 i1.2)
  · rcases hM with ⟨b, -⟩ | ⟨b, rfl, b2, rfl⟩ | ⟨b, s, s1, ⟨s2, s3⟩, s4, rfl, d⟩
    · exact absurd ⟨a.1, by omega⟩ b
    · obtain ⟨s, s1, -, s3, s4⟩ := hfw i i1.1 i1.2 i2 i3
      exact absurd s4 (b2 s s1.1 s1.2 s3)
    · have heq : J (30, 0, 0) s = I (16, I (4, 0, 0) i, 0) 2 := by
        obtain ⟨s', t1, t2, t3, t4⟩ := hfw i i1.1 i1.2 i2 i3
        have h1 := s4 s' t1.1 t1.2 t3 t4
        obtain ⟨j, j1, j2, j3, j4⟩ := hbw s s1.1 s1.2 s2 s3
        have h2 : j ≤ i := Int.not_lt.mp (fun z => i4 j z j1.2 ⟨j3, j4⟩)
        by_cases e : j = i
        · rw [← e]; exact j2
        · have := h.srt j i j1.1 (by omega) i1.2
          omega
      have hm := h.m3 i s i1.1 i1.2 s1.1 s1.2 heq
      have hk := h.kp i i1.1 i1.2 i3.1
      obtain ⟨⟨-, -, m5, -⟩, m9⟩ := hm
      obtain ⟨⟨b1, b2, b3, b4⟩, b5, b6⟩ := d
      have e5 := gz_tm5 hT (I (4, 0, 0) i) 0
      rw [← m5] at b2 b5 b6
      have jq : ∀ q : gz_P, q ≠ (20, 0, 0) → q ≠ (21, 0, 0) → q ≠ (22, 0, 0) → q ≠ (28, 0, 0) → q ≠ (29, 0, 0) → J2 q = J q := b4
      have iq : ∀ q : gz_P, q.1 ≠ 0 → q.1 ≠ 7 → q.1 ≠ 8 → q.1 ≠ 11 → q.1 ≠ 12 → I1 q = I q := fun q q0 q7 q8 q11 q12 => c6 q (fun e => q0 (by rw [e])) (fun u _ _ => ⟨fun e => q11 (by rw [e]), fun e => q12 (by rw [e]), fun e => q8 (by rw [e]), fun e => q7 (by rw [e])⟩) (fun u _ _ e => q11 (by rw [e]))
      have ne4 : ∀ (r : Nat) (u v : Int), u ≠ v → ((r, u, 0) : gz_P) ≠ (r, v, 0) := fun r u v hu e => hu (by injection e with _ e; injection e)
      have i114 : I1 (11, 4, 0) = I (11, 4, 0) := c6 _ (gz_ne rfl) (fun u a1 a2 => ⟨ne4 _ _ _ (by omega), gz_ne rfl, gz_ne rfl, gz_ne rfl⟩) (fun u a1 a2 => ne4 _ _ _ (by omega))
      have i124 : I1 (12, 4, 0) = I (12, 4, 0) := c6 _ (gz_ne rfl) (fun u a1 a2 => ⟨gz_ne rfl, ne4 _ _ _ (by omega), gz_ne rfl, gz_ne rfl⟩) (fun u a1 a2 => gz_ne rfl)
      have cong : ∀ u, 0 ≤ u → u < I (16, I (4, 0, 0) i, 0) 5 → gz_sm (fun m => I (13, 0, 0) (I (18, I (4, 0, 0) i, u) m)) (I (19, I (4, 0, 0) i, 0) u).toNat = gz_sm (fun m => J (24, 0, 0) (gz_lM J s u m)) (gz_LS J s u) ∧ (∀ q, 0 ≤ q → q < 120 → I1 (11, u, 0) q = (gz_rsM J s u (gz_LS J s u)).1 q) ∧ (∀ j, 0 ≤ j → j < 3840 → I1 (12, u, 0) j = (gz_rsM J s u (gz_LS J s u)).2.1 j) ∧ (∀ j, 0 ≤ j → j < 300 → I1 (8, u, 0) j = (gz_rsM J s u (gz_LS J s u)).2.2 j) := fun u u1 u2 => by
        obtain ⟨q1, q2⟩ := m9 u u1 u2
        have e19 := gz_t19 hT (I (4, 0, 0) i) 0 u
        have hls : gz_LS J s u = (I (19, I (4, 0, 0) i, 0) u).toNat := by unfold gz_LS; rw [← q1]
        rw [hls]
        obtain ⟨w1, w2, w3, w4⟩ := gz_rs_cong (L := I (18, I (4, 0, 0) i, u)) (L' := gz_lM J s u) (z := I (13, 0, 0)) (z' := J (24, 0, 0)) (g := I (14, 0, 0)) (g' := J (25, 0, 0)) (B := I (12, 4, 0)) (B' := J (27, 0, 0)) (h := I (11, u, 0)) (h' := gz_hM J u) (b := I (12, u, 0)) (b' := gz_bM J u) (s := I (8, u, 0)) (s' := gz_fm J u) (n := (I (19, I (4, 0, 0) i, 0) u).toNat) (fun j hj => by
          have e18 := gz_t18 hT (I (4, 0, 0) i) u j
          have hz := (hk.2 u u1 u2).1 j (by omega) (by omega)
          have hp : 0 ≤ I (18, I (4, 0, 0) i, u) j ∧ I (18, I (4, 0, 0) i, u) j < 120 := by omega
          exact ⟨q2 j (by omega) (by omega), hp, (h.p24 hp).symm, gz_t13 hT 0 0 _, (h.p25 hp hz).symm, fun l l1 l2 => (h.p27 hp ⟨l1, l2⟩).symm⟩) (fun q x1 x2 => (h.hs u q u1 (by omega) x1 x2).symm) (fun j x1 x2 => (h.cp u j u1 (by omega) x1 x2).symm) (fun j x1 x2 => (h.bt u j u1 (by omega) x1 x2).symm) _ (Nat.le_refl _)
        have hr := (c4 u u1 u2).1
        have r1 : I1 (11, u, 0) = (gz_rs (I (18, I (4, 0, 0) i, u)) (I (13, 0, 0)) (I (14, 0, 0)) (I (12, 4, 0)) (I (11, u, 0)) (I (12, u, 0)) (I (8, u, 0)) (I (19, I (4, 0, 0) i, 0) u).toNat).1 := by rw [← hr]
        have r2 : I1 (12, u, 0) = (gz_rs (I (18, I (4, 0, 0) i, u)) (I (13, 0, 0)) (I (14, 0, 0)) (I (12, 4, 0)) (I (11, u, 0)) (I (12, u, 0)) (I (8, u, 0)) (I (19, I (4, 0, 0) i, 0) u).toNat).2.1 := by rw [← hr]
        have r3 : I1 (8, u, 0) = (gz_rs (I (18, I (4, 0, 0) i, u)) (I (13, 0, 0)) (I (14, 0, 0)) (I (12, 4, 0)) (I (11, u, 0)) (I (12, u, 0)) (I (8, u, 0)) (I (19, I (4, 0, 0) i, 0) u).toNat).2.2 := by rw [← hr]
        rw [r1, r2, r3]
        exact ⟨w1, w2, w3, w4⟩
      refine ⟨heq.symm, h.1.cong (iq _ (by decide) (by decide) (by decide) (by decide) (by decide)) (gz_aX_cong (iq _ (by decide) (by decide) (by decide) (by decide) (by decide)) (iq _ (by decide) (by decide) (by decide) (by decide) (by decide)) i114 i124) (gz_aM_cong (jq _ (gz_ne rfl) (gz_ne rfl) (gz_ne rfl) (gz_ne rfl) (gz_ne rfl)) (jq _ (gz_ne rfl) (gz_ne rfl) (gz_ne rfl) (gz_ne rfl) (gz_ne rfl)) (jq _ (gz_ne rfl) (gz_ne rfl) (gz_ne rfl) (gz_ne rfl) (gz_ne rfl)) (jq _ (gz_ne rfl) (gz_ne rfl) (gz_ne rfl) (gz_ne rfl) (gz_ne rfl))), ⟨?_, ?_, ?_⟩, ⟨?_, ?_, ?_, ?_, ?_⟩, hup.2.2.2.cong (iq _ (by decide) (by decide) (by decide) (by decide) (by decide)) (c3 7 (by decide)) (by rw [c3 8 (by decide)]; omega) (fun _ => iq _ (gz_nb rfl) (gz_nb rfl) (gz_nb rfl) (gz_nb rfl) (gz_nb rfl)) (fun _ => iq _ (gz_nb rfl) (gz_nb rfl) (gz_nb rfl) (gz_nb rfl) (gz_nb rfl)) (fun _ _ => iq _ (gz_nb rfl) (gz_nb rfl) (gz_nb rfl) (gz_nb rfl) (gz_nb rfl)) (iq _ (by decide) (by decide) (by decide) (by decide) (by decide)) (fun q q1 q2 => jq q (fun e => by rw [e] at q1; exact absurd q1 (by decide)) (fun e => by rw [e] at q1; exact absurd q1 (by decide)) (fun e => by rw [e] at q1; exact absurd q1 (by decide)) (fun e => by rw [e] at q1; exact absurd q1 (by decide)) (fun e => by rw [e] at q1; exact absurd q1 (by decide)))⟩
      · rw [c2, b2]
      · rw [c3 8 (by decide), b3 10 (by decide)]; exact h.nx
      · rw [c3 8 (by decide)]; exact hup.n0
      · intro t t1 t2
        rw [c2]
        by_cases e : t < I (16, I (4, 0, 0) i, 0) 5
        · rw [if_pos e, (b5 t t1 e).2.2.2, (c4 t t1 e).2]
          exact (cong t t1 e).1.symm
        · rw [if_neg e, (b6 t (by omega) t2).1, if_pos (by omega)]
      · intro t j t1 t2 j1 j2
        by_cases e : t < I (16, I (4, 0, 0) i, 0) 5
        · rw [(b5 t t1 e).2.2.1 j j1 j2]
          exact ((cong t t1 e).2.2.2 j j1 j2).symm
        · rw [(b6 t (by omega) t2).2.2.2 j j1 j2, c6 (8, t, 0) (gz_ne rfl) (fun u a1 a2 => ⟨gz_ne rfl, gz_ne rfl, ne4 _ _ _ (by omega), gz_ne rfl⟩) (fun u a1 a2 => gz_ne rfl)]
          exact h.bt t j t1 t2 j1 j2
      · intro t q t1 t2 q1 q2
        by_cases e : t < I (16, I (4, 0, 0) i, 0) 5
        · have h9 := (b5 t t1 e).1 q q1 q2
          have h8 : J2 (28, 0, 0) (120 * t + q) = (gz_rsM J s t (gz_LS J s t)).1 q := h9
          rw [h8]
          exact ((cong t t1 e).2.1 q q1 q2).symm
        · have h9 := (b6 t (by omega) t2).2.1 q q1 q2
          rw [if_pos (by omega)] at h9
          have h8 : J2 (28, 0, 0) (120 * t + q) = 0 := h9
          rw [h8]
          by_cases e2 : t < I (0, 0, 0) 6
          · exact (c5 t (by omega) e2 q q1 q2).symm
          · rw [c6 (11, t, 0) (gz_ne rfl) (fun u a1 a2 => ⟨ne4 _ _ _ (by omega), gz_ne rfl, gz_ne rfl, gz_ne rfl⟩) (fun u a1 a2 => ne4 _ _ _ (by omega))]
            exact (h.ho t q (by omega) t2 q1 q2).symm
      · intro t j t1 t2 j1 j2
        by_cases e : t < I (16, I (4, 0, 0) i, 0) 5
        · have h9 := (b5 t t1 e).2.1 j j1 j2
          have h8 : J2 (29, 0, 0) (3840 * t + j) = (gz_rsM J s t (gz_LS J s t)).2.1 j := h9
          rw [h8]
          exact ((cong t t1 e).2.2.1 j j1 j2).symm
        · have h9 := (b6 t (by omega) t2).2.2.1 j j1 j2
          have h8 : J2 (29, 0, 0) (3840 * t + j) = J (29, 0, 0) (3840 * t + j) := h9
          rw [h8, c6 (12, t, 0) (gz_ne rfl) (fun u a1 a2 => ⟨gz_ne rfl, ne4 _ _ _ (by omega), gz_ne rfl, gz_ne rfl⟩) (fun u a1 a2 => gz_ne rfl)]
          exact h.cp t j t1 t2 j1 j2
      · intro t q t1 t2 q1 q2
        rw [c2] at t1
        by_cases e2 : t < I (0, 0, 0) 6
        · exact c5 t t1 e2 q q1 q2
        · rw [c6 (11, t, 0) (gz_ne rfl) (fun u a1 a2 => ⟨ne4 _ _ _ (by omega), gz_ne rfl, gz_ne rfl, gz_ne rfl⟩) (fun u a1 a2 => ne4 _ _ _ (by omega))]
          exact h.ho t q (by omega) t2 q1 q2
