theorem gz_sm_le {f g : Int → Int} : ∀ {n : Nat}, (∀ i : Int, 0 ≤ i → i < n → f i ≤ g i) → gz_sm f n ≤ gz_sm g n
  | 0, _ => Int.le_refl _
  | n + 1, h => by
    rw [gz_sm_s, gz_sm_s]
    have h1 := gz_sm_le (n := n) (fun i a b => h i a (by omega))
    have h2 := h n (by omega) (by omega)
    omega
theorem gz_RR.unk {n : Int} {I J : gz_M} (hT : gz_T I) (h : gz_RR n I J) {i s : Int} (hi : 0 ≤ i ∧ i < I (0, 0, 0) 7) (hi12 : I (0, 0, 0) 7 ≤ 12) (hs : 0 ≤ s ∧ s < 12) (e : J (30, 0, 0) s = I (16, I (4, 0, 0) i, 0) 2) : gz_RR n (gz_up I (16, I (4, 0, 0) i, 0) 3 0) (gz_up J (31, 0, 0) s 0) := by
  have x16 : ∀ k j, j ≠ 3 → gz_up I (16, I (4, 0, 0) i, 0) 3 0 (16, k, 0) j = I (16, k, 0) j := fun k j hj => by
    unfold gz_up
    rw [if_neg (fun z => hj z.2)]
  have xo : ∀ q : gz_P, q.1 ≠ 16 → gz_up I (16, I (4, 0, 0) i, 0) 3 0 q = I q := fun q hq => gz_up_ne (fun z => hq (by rw [z]))
  have jo : ∀ q : gz_P, q ≠ (31, 0, 0) → gz_up J (31, 0, 0) s 0 q = J q := fun q hq => gz_up_ne hq
  have x4 := xo (4, 0, 0) (by decide)
  have x0 := xo (0, 0, 0) (by decide)
  have j30 := jo (30, 0, 0) (gz_ne rfl)
  refine ⟨h.1.cong (xo _ (by decide)) (gz_aX_cong (xo _ (by decide)) (xo _ (by decide)) (xo _ (by decide)) (xo _ (by decide))) (gz_aM_cong (jo _ (gz_ne rfl)) (jo _ (gz_ne rfl)) (jo _ (gz_ne rfl)) (jo _ (gz_ne rfl))), ?_, h.2.2.1.cong ?_ (by rw [x0]) (fun _ => xo _ (gz_nb rfl)) (fun _ => xo _ (gz_nb rfl)) (fun _ _ _ => xo _ (gz_nb rfl)) (fun _ _ _ => xo _ (gz_nb rfl)) (jo _ (gz_ne rfl)) (jo _ (gz_ne rfl)) (jo _ (gz_ne rfl)) (jo _ (gz_ne rfl)), ?_, ?_, ?_, ?_, ?_, ?_, ?_, ?_, ?_⟩
  · unfold gz_RB
    rw [x0, jo _ (gz_ne rfl)]
    exact h.2.1
  · have := gz_tk hT 0 0; omega
  · rw [x4]; exact h.inj
  · simp only [x4, x0, x16 _ 2 (by decide)]; exact h.srt
  · simp only [x4, x0, x16 _ 2 (by decide), x16 _ 4 (by decide)]; exact h.bas
  · simp only [x4, x0, x16 _ 2 (by decide)]; exact h.num
  · simp only [x4, x0, x16 _ 2 (by decide), j30]; exact h.m1
  · simp only [x4, x0, x16 _ 2 (by decide), j30]; exact h.m2
  · simp only [x4, x0, x16 _ 2 (by decide), j30]
    intro j s' a b c d z
    obtain ⟨⟨q1, q2⟩, q3⟩ := h.m3 j s' a b c d z
    have hiff : j = i ↔ s' = s := by
      constructor
      · intro e1
        rw [e1] at z
        have hn := h.num i hi.1 hi.2
        exact h.dis s' s c d hs.1 hs.2 (by omega) (by omega)
      · intro e1
        rw [e1] at z
        exact h.uq ⟨a, b⟩ hi (by omega)
    refine ⟨⟨?_, ?_⟩, ?_⟩
    · rw [gz_up_eq]
      by_cases e1 : j = i
      · rw [if_pos (hiff.mp e1), e1, gz_up_s]
      · rw [if_neg (fun z => e1 (hiff.mpr z)), gz_up_k, if_neg (fun z => e1 (h.inj j i a (by omega) hi.1 (by omega) z.1.1))]
        exact q1
    · rw [x16 _ 4 (by decide), x16 _ 5 (by decide), x16 _ 6 (by decide), x16 _ 7 (by decide), x16 _ 8 (by decide), jo _ (gz_ne rfl), jo _ (gz_ne rfl), jo _ (gz_ne rfl), jo _ (gz_ne rfl), jo _ (gz_ne rfl)]
      exact q2
    · rw [x16 _ 5 (by decide), jo _ (gz_ne rfl), jo _ (gz_ne rfl), xo (19, _, 0) (gz_nb rfl)]
      intro t t1 t2
      rw [xo (18, _, t) (gz_nb rfl)]
      exact q3 t t1 t2
  · rw [j30]; exact h.dis
  · rw [x4, x0]
    intro j a b z
    have z2 : I (16, I (4, 0, 0) j, 0) 3 = 1 := by
      rw [gz_up_k] at z
      by_cases e1 : I (4, 0, 0) j = I (4, 0, 0) i
      · rw [if_pos ⟨⟨e1, rfl⟩, rfl⟩] at z; omega
      · rw [if_neg (fun y => e1 y.1.1)] at z; exact z
    have hk := h.kp j a b z2
    unfold gz_KP at hk ⊢
    rw [x16 _ 5 (by decide), xo (13, 0, 0) (by decide), xo (19, _, 0) (gz_nb rfl)]
    refine ⟨hk.1, fun t t1 t2 => ?_⟩
    rw [xo (18, _, t) (gz_nb rfl)]
    exact hk.2 t t1 t2
theorem gz_LG.k16 {I K : gz_M} (hL : gz_LG I K) (k : Int) : K (16, k, 0) = I (16, k, 0) := hL.2.2.2.1 _ (gz_ne rfl) (gz_ne rfl)
theorem gz_dr_named {n : Int} {I J K : gz_M} (hT : gz_T I) (h : gz_RR n I J) (hL : gz_LG I K) {p : Int} : gz_kn K (K (0, 0, 0) 7) p ↔ gz_nMk J p 12 := by
  obtain ⟨l1, l2, l3, l4, l5, l6, l7, l8⟩ := hL
  have k16 : ∀ k, K (16, k, 0) = I (16, k, 0) := fun k => l4 _ (gz_ne rfl) (gz_ne rfl)
  have knm : ∀ k, gz_nmd K k p ↔ gz_nmd I k p := fun k => gz_nmd_eq (k16 k) (l4 _ (gz_ne rfl) (gz_ne rfl)) (fun t => l4 _ (gz_ne rfl) (gz_ne rfl))
  unfold gz_kn gz_nMk
  constructor
  · rintro ⟨v, v1, v2, v3⟩
    obtain ⟨j, j1, j2⟩ := l7 v v1.1 v1.2
    rw [j2] at v2 v3
    rw [k16] at v2
    rw [knm] at v3
    obtain ⟨s, s1, s2⟩ := h.m1 j j1.1 j1.2
    have hm := h.m3 j s j1.1 j1.2 s1.1 s1.2 s2
    have hn := h.num j j1.1 j1.2
    exact ⟨s, s1, by omega, by rw [← hm.1.1]; exact v2, (gz_RR.nmd hT hm).mp v3⟩
  · rintro ⟨s, s1, s2, s3, s4⟩
    rcases h.m2 s s1.1 s1.2 with z | ⟨j, j1, j2⟩
    · exact absurd z s2
    · have hm := h.m3 j s j1.1 j1.2 s1.1 s1.2 j2
      have hk : I (16, I (4, 0, 0) j, 0) 3 = 1 := by rw [hm.1.1]; exact s3
      obtain ⟨v, v1, v2⟩ := (l8 j j1.1 j1.2).mpr (Or.inl hk)
      refine ⟨v, v1, ?_, ?_⟩
      · rw [v2, k16]; exact hk
      · rw [v2, knm]; exact (gz_RR.nmd hT hm).mpr s4
theorem gz_dr_held {n : Int} {I J K L J2 : gz_M} (h : gz_RR n I J) (hL : gz_LG I K) (hLJ : ∀ q : gz_P, 30 ≤ q.1 → L q = J q) (hX : gz_DX L J2) : ∀ N, N ≤ I (0, 0, 0) 8 → ∀ j s, (0 ≤ j ∧ j < I (0, 0, 0) 7) → (0 ≤ s ∧ s < 12) → I (16, I (4, 0, 0) j, 0) 2 = N → J (30, 0, 0) s = N → ((∃ v, (0 ≤ v ∧ v < K (0, 0, 0) 7) ∧ K (4, 0, 0) v = I (4, 0, 0) j) ↔ ¬ J2 (30, 0, 0) s = -1) := by
  obtain ⟨l1, l2, l3, l4, l5, l6, l7, l8⟩ := hL
  obtain ⟨⟨d1, d2, d3⟩, d4⟩ := hX
  have l30 := hLJ (30, 0, 0) (by decide)
  have l31 := hLJ (31, 0, 0) (by decide)
  have l32 := hLJ (32, 0, 0) (by decide)
  have j31 : J2 (31, 0, 0) = J (31, 0, 0) := by rw [d2 _ (gz_ne rfl), l31]
  have j32 : J2 (32, 0, 0) = J (32, 0, 0) := by rw [d2 _ (gz_ne rfl), l32]
  rw [l30, l31, l32] at d3
  refine gz_upto _ ?_
  intro N hN ih j s hj hs e1 e2
  have hm := h.m3 j s hj.1 hj.2 hs.1 hs.2 (by omega)
  have hn := h.num j hj.1 hj.2
  constructor
  · intro hv e9
    rcases d3 s hs.1 hs.2 with z | ⟨-, z⟩
    · omega
    · obtain ⟨z1, z2⟩ := z (by omega)
      rcases (l8 j hj.1 hj.2).mp hv with y | ⟨v, v1, v2⟩
      · have := hm.1.1; omega
      · obtain ⟨j', j1, j2⟩ := l7 v v1.1 v1.2
        rw [j2] at v2
        obtain ⟨s', s1, s2⟩ := h.m1 j' j1.1 j1.2
        have hm' := h.m3 j' s' j1.1 j1.2 s1.1 s1.2 s2
        have hb := h.bas j' j1.1 j1.2
        have hn' := h.num j' j1.1 j1.2
        have hk := (ih (I (16, I (4, 0, 0) j', 0) 2) (by omega) (by omega) j' s' j1 s1 rfl s2).mp ⟨v, v1, j2⟩
        exact z2 s' s1.1 s1.2 hk (by have := hm'.1.2.1; omega)
  · intro hne
    have e30 : J2 (30, 0, 0) s = J (30, 0, 0) s := by
      rcases d3 s hs.1 hs.2 with z | ⟨z, -⟩
      · exact z
      · exact absurd z hne
    apply (l8 j hj.1 hj.2).mpr
    rcases d4 s hs.1 hs.2 hne with z | ⟨s', s1, z1, z2, z3⟩
    · left
      rw [j31] at z
      rw [hm.1.1]; exact z
    · right
      rw [j32, e30] at z3
      have e30' : J2 (30, 0, 0) s' = J (30, 0, 0) s' := by
        rcases d3 s' s1.1 s1.2 with y | ⟨y, -⟩
        · exact y
        · exact absurd y z1
      rcases h.m2 s' s1.1 s1.2 with y | ⟨j', j1, j2⟩
      · omega
      · have hm' := h.m3 j' s' j1.1 j1.2 s1.1 s1.2 j2
        have hb := h.bas j' j1.1 j1.2
        have hn' := h.num j' j1.1 j1.2
        have hb2 := hm'.1.2.1
        obtain ⟨v, v1, v2⟩ := (ih (I (16, I (4, 0, 0) j', 0) 2) (by omega) (by omega) j' s' j1 s1 rfl j2).mpr z1
        exact ⟨v, v1, by rw [v2]; omega⟩
