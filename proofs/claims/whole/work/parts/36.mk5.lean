theorem gz_cn_ex (f : Int → Int) {s : Int} (hs : 0 ≤ s ∧ s ≤ 300) : ∃ c, gz_cn f s c := by
  have key : ∀ n : Nat, (∃ c, gz_cn f s c) ∨ (gz_cs f s n < s ∧ (n : Int) ≤ gz_cs f s n) := by
    intro n
    induction n with
    | zero =>
      by_cases h : s = 0
      · exact Or.inl ⟨0, h.symm⟩
      · exact Or.inr ⟨by show (0 : Int) < s; omega, by show ((0 : Nat) : Int) ≤ 0; omega⟩
    | succ n ih =>
      rcases ih with h | ⟨h1, h2⟩
      · exact Or.inl h
      · have h3 := gz_ck_le (f := f) h1
        have h4 := (gz_ck_ok f s (gz_cs f s n)).2.1
        have h5 : gz_cs f s (n + 1) = gz_cs f s n + gz_ck f s (gz_cs f s n) := rfl
        by_cases h : gz_cs f s (n + 1) = s
        · exact Or.inl ⟨n + 1, h⟩
        · exact Or.inr ⟨by omega, by omega⟩
  rcases key 301 with h | h
  · exact h
  · omega
set_option maxHeartbeats 4000000 in
set_option maxRecDepth 100000 in
theorem lp_X4_mark (l : Launch) (D : va_G) (α : gz_P → Nat) (cA : Nat → ClassId) {I : gz_M} (hT : gz_T I) {k w : Int} (hk : 0 ≤ k ∧ k < 12) (hw : w = 0 ∨ w = 1) (hhc : I (0, 0, 0) 7 < 12) (hnx : 0 ≤ I (0, 0, 0) 8 ∧ I (0, 0, 0) 8 ≤ 100000) : ∀ I2 : gz_M, (gz_T I2 ∧ gz_E I2 ∧ (∀ u, 0 ≤ u → u < (I (0, 0, 0) 6) → gz_fk (fun t => I (8, t, 0)) (fun t => I (7, t, 0) 2) (gz_aX I) (u).toNat) ∧ gz_aX I2 = gz_ft (fun t => I (8, t, 0)) (fun t => I (7, t, 0) 2) (gz_aX I) (I (0, 0, 0) 6).toNat ∧ (∀ u, 0 ≤ u → u < (I (0, 0, 0) 6) → (I2 (19, k, 0) u = (gz_cc (I (8, u, 0)) (I (7, u, 0) 2) : Nat) ∧ ∀ j : Nat, j < gz_cc (I (8, u, 0)) (I (7, u, 0) 2) → I2 (18, k, u) j = gz_fp (I (8, u, 0)) (I (7, u, 0) 2) (gz_ft (fun t => I (8, t, 0)) (fun t => I (7, t, 0) 2) (gz_aX I) (u).toNat) j))) → (I2 (16, k, 0) 2 = I (0, 0, 0) 8 ∧ I2 (16, k, 0) 3 = 1 ∧ I2 (16, k, 0) 5 = (I (0, 0, 0) 6) ∧ I2 (16, k, 0) 7 = gz_sm (fun t => I (7, t, 0) 2) (I (0, 0, 0) 6).toNat ∧ I2 (16, k, 0) 8 = gz_tot (gz_aX I2) - gz_tot (gz_aX I) ∧ ((w = 1 ∨ ∀ j, 0 ≤ j → j < I (0, 0, 0) 7 → I (16, I (4, 0, 0) (j), 0) 3 = 0) ∧ I2 (16, k, 0) 4 = -1 ∧ I2 (16, k, 0) 6 = gz_sm (fun t => I2 (19, k, 0) t) (I (0, 0, 0) 6).toNat ∨ ¬ w = 1 ∧ ∃ i, (0 ≤ i ∧ i < I (0, 0, 0) 7) ∧ I (16, I (4, 0, 0) (i), 0) 3 = 1 ∧ (∀ j, i < j → j < I (0, 0, 0) 7 → I (16, I (4, 0, 0) (j), 0) 3 = 0) ∧ I2 (16, k, 0) 4 = I (16, I (4, 0, 0) (i), 0) 2 ∧ I2 (16, k, 0) 6 = gz_sm (fun t => I2 (19, k, 0) t) (I (0, 0, 0) 6).toNat - gz_sm (fun t => gz_sh (I2 (18, k, t)) (I2 (19, k, 0) t) (I (18, I (4, 0, 0) (i), t)) (I (19, I (4, 0, 0) (i), 0) t)) (if I (16, I (4, 0, 0) (i), 0) 5 < (I (0, 0, 0) 6) then I (16, I (4, 0, 0) (i), 0) 5 else (I (0, 0, 0) 6)).toNat)) → (∀ q : gz_P, q.1 ≠ 9 → q.1 ≠ 3 → q.1 ≠ 13 → q.1 ≠ 14 → q.1 ≠ 15 → q ≠ (11, 4, 0) → q ≠ (12, 4, 0) → (∀ t, q ≠ (18, k, t)) → q ≠ (19, k, 0) → q ≠ (16, k, 0) → I2 q = I q) → gz_V l D α cA RX4 cX4_mark (some .int) 3 6 (gz_Qi fun x I' => ¬ (w = 0 ∨ w = 1) ∧ x = -2 ∧ I = I' ∨ (w = 0 ∨ w = 1) ∧ I (0, 0, 0) 7 = 12 ∧ x = -3 ∧ I = I' ∨ (w = 0 ∨ w = 1) ∧ I (0, 0, 0) 7 < 12 ∧ x = -3 ∧ (∃ u, (0 ≤ u ∧ u < (I (0, 0, 0) 6)) ∧ ¬ gz_fk (fun t => I (8, t, 0)) (fun t => I (7, t, 0) 2) (gz_aX I) (u).toNat) ∧ gz_T I' ∧ gz_E I' ∧ gz_aX I' = (gz_aX I) ∧ (∀ p, 0 ≤ p → p < 120 → I' (13, 0, 0) p = I (13, 0, 0) p) ∧ (∀ q : gz_P, q.1 ≠ 9 → q.1 ≠ 3 → q.1 ≠ 13 → q.1 ≠ 14 → q.1 ≠ 15 → q ≠ (11, 4, 0) → q ≠ (12, 4, 0) → (∀ t, q ≠ (18, k, t)) → q ≠ (19, k, 0) → q ≠ (16, k, 0) → I' q = I q) ∨ (w = 0 ∨ w = 1) ∧ I (0, 0, 0) 7 < 12 ∧ x = I (0, 0, 0) 8 ∧ (gz_T I' ∧ gz_E I' ∧ (∀ u, 0 ≤ u → u < (I (0, 0, 0) 6) → gz_fk (fun t => I (8, t, 0)) (fun t => I (7, t, 0) 2) (gz_aX I) (u).toNat) ∧ gz_aX I' = gz_ft (fun t => I (8, t, 0)) (fun t => I (7, t, 0) 2) (gz_aX I) (I (0, 0, 0) 6).toNat ∧ (∀ u, 0 ≤ u → u < (I (0, 0, 0) 6) → (I' (19, k, 0) u = (gz_cc (I (8, u, 0)) (I (7, u, 0) 2) : Nat) ∧ ∀ j : Nat, j < gz_cc (I (8, u, 0)) (I (7, u, 0) 2) → I' (18, k, u) j = gz_fp (I (8, u, 0)) (I (7, u, 0) 2) (gz_ft (fun t => I (8, t, 0)) (fun t => I (7, t, 0) 2) (gz_aX I) (u).toNat) j))) ∧ (I' (16, k, 0) 2 = I (0, 0, 0) 8 ∧ I' (16, k, 0) 3 = 1 ∧ I' (16, k, 0) 5 = (I (0, 0, 0) 6) ∧ I' (16, k, 0) 7 = gz_sm (fun t => I (7, t, 0) 2) (I (0, 0, 0) 6).toNat ∧ I' (16, k, 0) 8 = gz_tot (gz_aX I') - gz_tot (gz_aX I) ∧ ((w = 1 ∨ ∀ j, 0 ≤ j → j < I (0, 0, 0) 7 → I (16, I (4, 0, 0) (j), 0) 3 = 0) ∧ I' (16, k, 0) 4 = -1 ∧ I' (16, k, 0) 6 = gz_sm (fun t => I' (19, k, 0) t) (I (0, 0, 0) 6).toNat ∨ ¬ w = 1 ∧ ∃ i, (0 ≤ i ∧ i < I (0, 0, 0) 7) ∧ I (16, I (4, 0, 0) (i), 0) 3 = 1 ∧ (∀ j, i < j → j < I (0, 0, 0) 7 → I (16, I (4, 0, 0) (j), 0) 3 = 0) ∧ I' (16, k, 0) 4 = I (16, I (4, 0, 0) (i), 0) 2 ∧ I' (16, k, 0) 6 = gz_sm (fun t => I' (19, k, 0) t) (I (0, 0, 0) 6).toNat - gz_sm (fun t => gz_sh (I' (18, k, t)) (I' (19, k, 0) t) (I (18, I (4, 0, 0) (i), t)) (I (19, I (4, 0, 0) (i), 0) t)) (if I (16, I (4, 0, 0) (i), 0) 5 < (I (0, 0, 0) 6) then I (16, I (4, 0, 0) (i), 0) 5 else (I (0, 0, 0) 6)).toNat)) ∧ I' (0, 0, 0) 7 = I (0, 0, 0) 7 + 1 ∧ I' (0, 0, 0) 8 = I (0, 0, 0) 8 + 1 ∧ I' (0, 0, 0) 6 = (I (0, 0, 0) 6) ∧ (∀ u, 0 ≤ u → u < (I (0, 0, 0) 6) → I' (11, u, 0) = gz_hw (I' (18, k, u)) (I (11, u, 0)) (gz_cc (I (8, u, 0)) (I (7, u, 0) 2)) ∧ I' (12, u, 0) = gz_cw (I' (18, k, u)) (I' (13, 0, 0)) (I (8, u, 0)) (I (12, u, 0)) (gz_cc (I (8, u, 0)) (I (7, u, 0) 2))) ∧ (∀ q : gz_P, q.1 ≠ 9 → q.1 ≠ 3 → q.1 ≠ 13 → q.1 ≠ 14 → q.1 ≠ 15 → q ≠ (11, 4, 0) → q ≠ (12, 4, 0) → (∀ t, q ≠ (18, k, t)) → q ≠ (19, k, 0) → q ≠ (16, k, 0) → q ≠ (0, 0, 0) → (∀ u, 0 ≤ u → u < (I (0, 0, 0) 6) → q ≠ (11, u, 0) ∧ q ≠ (12, u, 0)) → I' q = I q)) I2 [some (.ref (α (0, 0, 0))), some (gz_i (w)), some (.ref (α (16, k, 0)))] [] 85 := by
  intro I2 hg hm hfr
  obtain ⟨g1, g2, g3, g4, g5⟩ := hg
  obtain ⟨m2, m3, m5, m7, m8, m9⟩ := hm
  have hsum : ∀ t, 0 ≤ t → t < I2 (16, k, 0) 5 → gz_sm (fun m => I2 (13, 0, 0) (I2 (18, k, t) m)) (I2 (19, k, 0) t).toNat ≤ 300 := by
    intro t a1 a2
    rw [m5] at a2
    obtain ⟨b1, b2⟩ := g5 t a1 a2
    have e3 := gz_t7 hT t 0 2
    have e0 := gz_tk hT 0 0
    have hcast : ((t.toNat : Nat) : Int) = t := Int.toNat_of_nonneg a1
    have hq : ∀ j : Nat, j < gz_cc (I (8, t, 0)) (I (7, t, 0) 2) → I2 (13, 0, 0) (I2 (18, k, t) j) = gz_ck (I (8, t, 0)) (I (7, t, 0) 2) (gz_cs (I (8, t, 0)) (I (7, t, 0) 2) j) := by
      intro j hj
      have hx := gz_t18 g1 k t j
      have h9 := gz_ft_sz (F := (fun t => I (8, t, 0))) (Z := (fun t => I (7, t, 0) 2)) (S := (gz_aX I)) (t := t.toNat) (n := (I (0, 0, 0) 6).toNat) (j := j) (g3 t a1 a2) (by rw [hcast]; exact hj) (by omega)
      rw [← g4, hcast] at h9
      have h10 := b2 j hj
      have h11 : gz_aX I2 0 (I2 (18, k, t) j) 0 = I2 (13, 0, 0) (I2 (18, k, t) j) := if_pos (by omega)
      rw [← h11, h10]
      exact h9
    rw [b1, Int.toNat_natCast, gz_cs_sm hq]
    have hcn := gz_cn_ex (I (8, t, 0)) e3
    obtain ⟨c, hc⟩ := hcn
    rw [gz_cc_eq hc e3.2]
    have h12 : gz_cs (I (8, t, 0)) (I (7, t, 0) 2) c = I (7, t, 0) 2 := hc
    omega
  first | refine gz_aload_n (pc := 85) dX4_mark_85 rfl ?_ | refine gz_aload_nN (pc := 85) dX4_mark_85 rfl ?_
  first | refine gz_aload_n (pc := 86) dX4_mark_86 rfl ?_ | refine gz_aload_nN (pc := 86) dX4_mark_86 rfl ?_
  refine gz_cV1v (pc := 87) dX4_mark_87 wm_X4_119 my_X4_copyStates rfl rfl rfl (by first | exact gz_B1 | (omega)) (ct_X4_copyStates l D α cA g1 hk hsum) (fun I87 h87 => ?_)
  obtain ⟨c1, c2, c3⟩ := h87
  rw [m5] at c2 c3
  have s0 : I87 (0, 0, 0) = I (0, 0, 0) := by rw [c3 _ (fun u _ _ => ⟨gz_ne rfl, gz_ne rfl⟩), hfr _ (gz_nb rfl) (gz_nb rfl) (gz_nb rfl) (gz_nb rfl) (gz_nb rfl) (gz_ne rfl) (gz_ne rfl) (fun _ => gz_ne rfl) (gz_ne rfl) (gz_ne rfl)]
  have s7 : I87 (0, 0, 0) 7 = I (0, 0, 0) 7 := by rw [s0]
  have s8 : I87 (0, 0, 0) 8 = I (0, 0, 0) 8 := by rw [s0]
  have s16 : ∀ i, I87 (16, k, 0) i = I2 (16, k, 0) i := fun i => by rw [c3 _ (fun u _ _ => ⟨gz_ne rfl, gz_ne rfl⟩)]
  have s18 : ∀ u, I87 (18, k, u) = I2 (18, k, u) := fun u => c3 _ (fun u _ _ => ⟨gz_ne rfl, gz_ne rfl⟩)
  have s19 : I87 (19, k, 0) = I2 (19, k, 0) := c3 _ (fun u _ _ => ⟨gz_ne rfl, gz_ne rfl⟩)
  have s13 : I87 (13, 0, 0) = I2 (13, 0, 0) := c3 _ (fun u _ _ => ⟨gz_ne rfl, gz_ne rfl⟩)
  have s3 : I87 (3, 0, 0) = I2 (3, 0, 0) := c3 _ (fun u _ _ => ⟨gz_ne rfl, gz_ne rfl⟩)
  have e0 := gz_tk hT 0 0
  have s11 : I87 (11, 4, 0) = I2 (11, 4, 0) := c3 _ (fun u a1 a2 => ⟨fun e => by injection e with _ e; injection e with e; omega, gz_ne rfl⟩)
  have s12 : I87 (12, 4, 0) = I2 (12, 4, 0) := c3 _ (fun u a1 a2 => ⟨gz_ne rfl, fun e => by injection e with _ e; injection e with e; omega⟩)
  have s14 : I87 (14, 0, 0) = I2 (14, 0, 0) := c3 _ (fun u _ _ => ⟨gz_ne rfl, gz_ne rfl⟩)
  first | refine gz_aload_n (pc := 90) dX4_mark_90 rfl ?_ | refine gz_aload_nN (pc := 90) dX4_mark_90 rfl ?_
  refine gz_dup (pc := 91) dX4_mark_91 rfl ?_
  refine gz_getI (pc := 92) 7 dX4_mark_92 fl_X4_46 rfl rfl rfl rfl (by first | exact gz_B1 | (omega)) ?_
  refine gz_iconst (pc := 95) dX4_mark_95 ?_
  rw [s7]
  refine gz_iadd (pc := 96) dX4_mark_96 ?_
  refine gz_putI (pc := 97) 7 dX4_mark_97 fw_X4_46 rfl rfl rfl rfl (by first | exact gz_B1 | (omega)) (Or.inl rfl) ?_
  first | refine gz_aload_n (pc := 100) dX4_mark_100 rfl ?_ | refine gz_aload_nN (pc := 100) dX4_mark_100 rfl ?_
  refine gz_dup (pc := 101) dX4_mark_101 rfl ?_
  refine gz_getI (pc := 102) 8 dX4_mark_102 fl_X4_49 rfl rfl rfl rfl (by first | exact gz_B1 | (omega)) ?_
  refine gz_iconst (pc := 105) dX4_mark_105 ?_
  rw [gz_up_eq, if_neg (by decide), s8]
  refine gz_iadd (pc := 106) dX4_mark_106 ?_
  refine gz_putI (pc := 107) 8 dX4_mark_107 fw_X4_49 rfl rfl rfl rfl (by first | exact gz_B1 | (omega)) (Or.inl rfl) ?_
  first | refine gz_aload_n (pc := 110) dX4_mark_110 rfl ?_ | refine gz_aload_nN (pc := 110) dX4_mark_110 rfl ?_
  refine gz_getI (pc := 111) 2 dX4_mark_111 fl_X4_122 rfl rfl rfl rfl (by first | exact gz_B1 | (omega)) ?_
  rw [gz_up_r (by decide), gz_up_r (by decide), s16, m2]
  refine gz_iret (pc := 114) dX4_mark_114 rfl ?_
  have e9 := gz_th hT 0 0
  have u0 : ∀ q, q ≠ (0, 0, 0) → gz_up (gz_up I87 (0, 0, 0) 7 (I (0, 0, 0) 7 + 1)) (0, 0, 0) 8 (I (0, 0, 0) 8 + 1) q = I87 q := fun q hq => by rw [gz_up_ne hq, gz_up_ne hq]
  have uz : gz_aX (gz_up (gz_up I87 (0, 0, 0) 7 (I (0, 0, 0) 7 + 1)) (0, 0, 0) 8 (I (0, 0, 0) 8 + 1)) = gz_aX I2 := by
    funext c p i
    unfold gz_aX
    rw [u0 _ (gz_ne rfl), u0 _ (gz_ne rfl), u0 _ (gz_ne rfl), u0 _ (gz_ne rfl), s11, s12, s13, s14]
  refine Or.inr (Or.inr (Or.inr ⟨hw, hhc, rfl, ⟨gz_Tu0_8 (gz_Tu0_7 c1 (by omega)) (by omega), ?_, g3, ?_, fun u a1 a2 => ?_⟩, ?_, ?_, ?_, ?_, fun u a1 a2 => ?_, fun q q1 q2 q3 q4 q5 q6 q7 q8 q9 q10 q11 q12 => ?_⟩))
  · unfold gz_E
    rw [uz, u0 _ (gz_ne rfl), s3]
    exact g2
  · rw [uz]; exact g4
  · rw [u0 _ (gz_ne rfl), u0 _ (gz_ne rfl), s18, s19]; exact g5 u a1 a2
  · rw [uz, u0 (16, k, 0) (gz_ne rfl), u0 (19, k, 0) (gz_ne rfl), s19, s16, s16, s16, s16, s16, s16, s16]
    have hs18 : ∀ t, gz_up (gz_up I87 (0, 0, 0) 7 (I (0, 0, 0) 7 + 1)) (0, 0, 0) 8 (I (0, 0, 0) 8 + 1) (18, k, t) = I2 (18, k, t) := fun t => by rw [u0 _ (gz_ne rfl), s18]
    simp only [hs18]
    exact ⟨m2, m3, m5, m7, m8, m9⟩
  · rw [gz_up_eq, if_neg (by decide), gz_up_s]
  · rw [gz_up_s]
  · rw [gz_up_eq, if_neg (by decide), gz_up_eq, if_neg (by decide), s0]
  · rw [u0 _ (gz_ne rfl), u0 _ (gz_ne rfl), u0 _ (gz_ne rfl), u0 _ (gz_ne rfl), s18, s13]
    have h9 := c2 u a1 a2
    rw [(g5 u a1 a2).1, Int.toNat_natCast, hfr (11, u, 0) (gz_nb rfl) (gz_nb rfl) (gz_nb rfl) (gz_nb rfl) (gz_nb rfl) (fun e => by injection e with _ e; injection e with e; omega) (gz_ne rfl) (fun _ => gz_ne rfl) (gz_ne rfl) (gz_ne rfl), hfr (12, u, 0) (gz_nb rfl) (gz_nb rfl) (gz_nb rfl) (gz_nb rfl) (gz_nb rfl) (gz_ne rfl) (fun e => by injection e with _ e; injection e with e; omega) (fun _ => gz_ne rfl) (gz_ne rfl) (gz_ne rfl), hfr (8, u, 0) (gz_nb rfl) (gz_nb rfl) (gz_nb rfl) (gz_nb rfl) (gz_nb rfl) (gz_ne rfl) (gz_ne rfl) (fun _ => gz_ne rfl) (gz_ne rfl) (gz_ne rfl)] at h9
    exact h9
  · rw [u0 q q11, c3 q q12]
    exact hfr q q1 q2 q3 q4 q5 q6 q7 q8 q9 q10
