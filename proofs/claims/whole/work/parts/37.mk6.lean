set_option maxHeartbeats 4000000 in
set_option maxRecDepth 100000 in
theorem lp_X4_mark12 (l : Launch) (D : va_G) (α : gz_P → Nat) (cA : Nat → ClassId) {I : gz_M} (hT : gz_T I) (hE : gz_E I) {k w : Int} (r_w : (-2147483648 ≤ w ∧ w ≤ 2147483647)) (hkd : k = I (4, 0, 0) (I (0, 0, 0) 7)) (hinj : ∀ i j, 0 ≤ i → i < 12 → 0 ≤ j → j < 12 → I (4, 0, 0) i = I (4, 0, 0) j → i = j) (hnx : 0 ≤ I (0, 0, 0) 8 ∧ I (0, 0, 0) 8 ≤ 100000) (hw : w = 0 ∨ w = 1) : gz_V l D α cA RX4 cX4_mark (some .int) 3 6 (gz_Qi fun x I' => ¬ (w = 0 ∨ w = 1) ∧ x = -2 ∧ I = I' ∨ (w = 0 ∨ w = 1) ∧ I (0, 0, 0) 7 = 12 ∧ x = -3 ∧ I = I' ∨ (w = 0 ∨ w = 1) ∧ I (0, 0, 0) 7 < 12 ∧ x = -3 ∧ (∃ u, (0 ≤ u ∧ u < (I (0, 0, 0) 6)) ∧ ¬ gz_fk (fun t => I (8, t, 0)) (fun t => I (7, t, 0) 2) (gz_aX I) (u).toNat) ∧ gz_T I' ∧ gz_E I' ∧ gz_aX I' = (gz_aX I) ∧ (∀ p, 0 ≤ p → p < 120 → I' (13, 0, 0) p = I (13, 0, 0) p) ∧ (∀ q : gz_P, q.1 ≠ 9 → q.1 ≠ 3 → q.1 ≠ 13 → q.1 ≠ 14 → q.1 ≠ 15 → q ≠ (11, 4, 0) → q ≠ (12, 4, 0) → (∀ t, q ≠ (18, k, t)) → q ≠ (19, k, 0) → q ≠ (16, k, 0) → I' q = I q) ∨ (w = 0 ∨ w = 1) ∧ I (0, 0, 0) 7 < 12 ∧ x = I (0, 0, 0) 8 ∧ (gz_T I' ∧ gz_E I' ∧ (∀ u, 0 ≤ u → u < (I (0, 0, 0) 6) → gz_fk (fun t => I (8, t, 0)) (fun t => I (7, t, 0) 2) (gz_aX I) (u).toNat) ∧ gz_aX I' = gz_ft (fun t => I (8, t, 0)) (fun t => I (7, t, 0) 2) (gz_aX I) (I (0, 0, 0) 6).toNat ∧ (∀ u, 0 ≤ u → u < (I (0, 0, 0) 6) → (I' (19, k, 0) u = (gz_cc (I (8, u, 0)) (I (7, u, 0) 2) : Nat) ∧ ∀ j : Nat, j < gz_cc (I (8, u, 0)) (I (7, u, 0) 2) → I' (18, k, u) j = gz_fp (I (8, u, 0)) (I (7, u, 0) 2) (gz_ft (fun t => I (8, t, 0)) (fun t => I (7, t, 0) 2) (gz_aX I) (u).toNat) j))) ∧ (I' (16, k, 0) 2 = I (0, 0, 0) 8 ∧ I' (16, k, 0) 3 = 1 ∧ I' (16, k, 0) 5 = (I (0, 0, 0) 6) ∧ I' (16, k, 0) 7 = gz_sm (fun t => I (7, t, 0) 2) (I (0, 0, 0) 6).toNat ∧ I' (16, k, 0) 8 = gz_tot (gz_aX I') - gz_tot (gz_aX I) ∧ ((w = 1 ∨ ∀ j, 0 ≤ j → j < I (0, 0, 0) 7 → I (16, I (4, 0, 0) (j), 0) 3 = 0) ∧ I' (16, k, 0) 4 = -1 ∧ I' (16, k, 0) 6 = gz_sm (fun t => I' (19, k, 0) t) (I (0, 0, 0) 6).toNat ∨ ¬ w = 1 ∧ ∃ i, (0 ≤ i ∧ i < I (0, 0, 0) 7) ∧ I (16, I (4, 0, 0) (i), 0) 3 = 1 ∧ (∀ j, i < j → j < I (0, 0, 0) 7 → I (16, I (4, 0, 0) (j), 0) 3 = 0) ∧ I' (16, k, 0) 4 = I (16, I (4, 0, 0) (i), 0) 2 ∧ I' (16, k, 0) 6 = gz_sm (fun t => I' (19, k, 0) t) (I (0, 0, 0) 6).toNat - gz_sm (fun t => gz_sh (I' (18, k, t)) (I' (19, k, 0) t) (I (18, I (4, 0, 0) (i), t)) (I (19, I (4, 0, 0) (i), 0) t)) (if I (16, I (4, 0, 0) (i), 0) 5 < (I (0, 0, 0) 6) then I (16, I (4, 0, 0) (i), 0) 5 else (I (0, 0, 0) 6)).toNat)) ∧ I' (0, 0, 0) 7 = I (0, 0, 0) 7 + 1 ∧ I' (0, 0, 0) 8 = I (0, 0, 0) 8 + 1 ∧ I' (0, 0, 0) 6 = (I (0, 0, 0) 6) ∧ (∀ u, 0 ≤ u → u < (I (0, 0, 0) 6) → I' (11, u, 0) = gz_hw (I' (18, k, u)) (I (11, u, 0)) (gz_cc (I (8, u, 0)) (I (7, u, 0) 2)) ∧ I' (12, u, 0) = gz_cw (I' (18, k, u)) (I' (13, 0, 0)) (I (8, u, 0)) (I (12, u, 0)) (gz_cc (I (8, u, 0)) (I (7, u, 0) 2))) ∧ (∀ q : gz_P, q.1 ≠ 9 → q.1 ≠ 3 → q.1 ≠ 13 → q.1 ≠ 14 → q.1 ≠ 15 → q ≠ (11, 4, 0) → q ≠ (12, 4, 0) → (∀ t, q ≠ (18, k, t)) → q ≠ (19, k, 0) → q ≠ (16, k, 0) → q ≠ (0, 0, 0) → (∀ u, 0 ≤ u → u < (I (0, 0, 0) 6) → q ≠ (11, u, 0) ∧ q ≠ (12, u, 0)) → I' q = I q)) I [some (.ref (α (0, 0, 0))), some (gz_i (w)), none] [] 12 := by
  have hhh := gz_th hT 0 0
  have hk : 0 ≤ k ∧ k < 12 := by have := gz_t4 hT 0 0 (I (0, 0, 0) 7); omega
  first | refine gz_aload_n (pc := 12) dX4_mark_12 rfl ?_ | refine gz_aload_nN (pc := 12) dX4_mark_12 rfl ?_
  refine gz_getI (pc := 13) 7 dX4_mark_13 fl_X4_46 rfl rfl rfl rfl (by first | exact gz_B1 | (omega)) ?_
  refine gz_bipush (pc := 16) dX4_mark_16 rfl ?_
  refine gz_icmp_lt (pc := 18) (tgt := 24) dX4_mark_18 (by decide) (by omega) (by omega) (fun h18 => ?_) (fun h18 => ?_)
  · have hhc : I (0, 0, 0) 7 < 12 := h18
    first | refine gz_aload_n (pc := 24) dX4_mark_24 rfl ?_ | refine gz_aload_nN (pc := 24) dX4_mark_24 rfl ?_
    refine gz_getr (pc := 25) dX4_mark_25 fl_X4_30 rfl rfl rfl (by first | exact gz_B1 | (omega)) ?_
    first | refine gz_aload_n (pc := 28) dX4_mark_28 rfl ?_ | refine gz_aload_nN (pc := 28) dX4_mark_28 rfl ?_
    refine gz_getI (pc := 29) 7 dX4_mark_29 fl_X4_46 rfl rfl rfl rfl (by first | exact gz_B1 | (omega)) ?_
    first | refine gz_ald1 (pc := 32) dX4_mark_32 (by omega) ?_ | refine gz_ald2 (pc := 32) dX4_mark_32 (by omega) ?_ | refine gz_ald4 (pc := 32) dX4_mark_32 (by omega) ?_ | refine gz_ald17 (pc := 32) dX4_mark_32 (by first | exact gz_B1 | (omega)) (by omega) ?_
    rw [← hkd]
    first | refine gz_astore_n (pc := 33) dX4_mark_33 rfl rfl rfl ?_ | refine gz_astore_nN (pc := 33) dX4_mark_33 rfl rfl rfl ?_
    first | refine gz_aload_n (pc := 34) dX4_mark_34 rfl ?_ | refine gz_aload_nN (pc := 34) dX4_mark_34 rfl ?_
    first | refine gz_aload_n (pc := 35) dX4_mark_35 rfl ?_ | refine gz_aload_nN (pc := 35) dX4_mark_35 rfl ?_
    refine gz_getI (pc := 36) 8 dX4_mark_36 fl_X4_49 rfl rfl rfl rfl (by first | exact gz_B1 | (omega)) ?_
    first | refine gz_aload_n (pc := 39) dX4_mark_39 rfl ?_ | refine gz_aload_nN (pc := 39) dX4_mark_39 rfl ?_
    refine gz_getI (pc := 40) 6 dX4_mark_40 fl_X4_42 rfl rfl rfl rfl (by first | exact gz_B1 | (omega)) ?_
    refine gz_cV2v (pc := 43) dX4_mark_43 wm_X4_98 my_X0_begin rfl rfl rfl (by first | exact gz_B1 | (omega)) (ct_X0_begin l D α cA hk) (fun I43 h43 => ?_)
    subst h43
    have e0 := gz_tk hT 0 0
    generalize hB : (gz_up (gz_up (gz_up (gz_up (gz_up I (16, k, 0) 2 (I (0, 0, 0) 8)) (16, k, 0) 3 1) (16, k, 0) 4 (-1)) (16, k, 0) 5 (I (0, 0, 0) 6)) (16, k, 0) 7 0) = IB at *
    have nb : ∀ q, q ≠ (16, k, 0) → IB q = I q := fun q hq => by rw [← hB, gz_up_ne hq, gz_up_ne hq, gz_up_ne hq, gz_up_ne hq, gz_up_ne hq]
    have b2 : IB (16, k, 0) 2 = I (0, 0, 0) 8 := by rw [← hB]; simp (decide := true) only [gz_up_eq, if_false, if_true, reduceIte]
    have b3 : IB (16, k, 0) 3 = 1 := by rw [← hB]; simp (decide := true) only [gz_up_eq, if_false, if_true, reduceIte]
    have b4 : IB (16, k, 0) 4 = -1 := by rw [← hB]; simp (decide := true) only [gz_up_eq, if_false, if_true, reduceIte]
    have b5 : IB (16, k, 0) 5 = I (0, 0, 0) 6 := by rw [← hB]; simp (decide := true) only [gz_up_eq, if_false, if_true, reduceIte]
    have b7 : IB (16, k, 0) 7 = 0 := by rw [← hB]; simp (decide := true) only [gz_up_eq, if_false, if_true, reduceIte]
    have bT : gz_T IB := by rw [← hB]; exact gz_Tu16_7 (gz_Tu16_5 (gz_Tu16_4 (gz_Tu16_3 (gz_Tu16_2 hT (by omega)) (by decide)) (by decide)) (by omega)) (by decide)
    have bA : gz_aX IB = gz_aX I := by
      funext c p i
      unfold gz_aX
      rw [nb _ (gz_ne rfl), nb _ (gz_ne rfl), nb _ (gz_ne rfl), nb _ (gz_ne rfl)]
    have bE : gz_E IB := by
      unfold gz_E
      rw [bA, nb _ (gz_ne rfl)]
      exact hE
    have bF : (fun t => IB (8, t, 0)) = (fun t => I (8, t, 0)) := funext fun t => nb _ (gz_ne rfl)
    have bZ : (fun t => IB (7, t, 0) 2) = (fun t => I (7, t, 0) 2) := funext fun t => by rw [nb _ (gz_ne rfl)]
    have b0 : IB (0, 0, 0) = I (0, 0, 0) := nb _ (gz_ne rfl)
    have b8 : ∀ t, IB (8, t, 0) = I (8, t, 0) := fun t => nb _ (gz_ne rfl)
    have b77 : ∀ t, IB (7, t, 0) = I (7, t, 0) := fun t => nb _ (gz_ne rfl)
    have b13 : IB (13, 0, 0) = I (13, 0, 0) := nb _ (gz_ne rfl)
    first | refine gz_aload_n (pc := 46) dX4_mark_46 rfl ?_ | refine gz_aload_nN (pc := 46) dX4_mark_46 rfl ?_
    first | refine gz_aload_n (pc := 47) dX4_mark_47 rfl ?_ | refine gz_aload_nN (pc := 47) dX4_mark_47 rfl ?_
    refine gz_cV1i (pc := 48) dX4_mark_48 wm_X4_101 my_X4_storeStates rfl rfl rfl (by first | exact gz_B1 | (omega)) (ct_X4_storeStates l D α cA bT bE hk (by omega)) (fun x48 I48 h48 => ?_)
    obtain ⟨s1, s2, ⟨s3, s4⟩, s5⟩ := h48
    rw [b7, bA, b0, bF, bZ, b13] at s5
    have sfr : (∀ q : gz_P, q.1 ≠ 9 → q.1 ≠ 3 → q.1 ≠ 13 → q.1 ≠ 14 → q.1 ≠ 15 → q ≠ (11, 4, 0) → q ≠ (12, 4, 0) → (∀ t, q ≠ (18, k, t)) → q ≠ (19, k, 0) → q ≠ (16, k, 0) → I48 q = I q) := by
      intro q q1 q2 q3 q4 q5 q6 q7 q8 q9 q10
      rw [s3 q q1 q2 q6 q7 q3 q4 q5 q8 q9 q10]
      exact nb q q10
    rcases s5 with ⟨rfl, t1, t2, t3, t4, t5⟩ | ⟨rfl, t1, t2, t3⟩
    · refine gz_if_ne (pc := 51) (tgt := 57) dX4_mark_51 (by decide) (by omega) (fun h51 => ?_) (fun h51 => ?_)
      · first | refine gz_aload_n (pc := 57) dX4_mark_57 rfl ?_ | refine gz_aload_nN (pc := 57) dX4_mark_57 rfl ?_
        first | refine gz_aload_n (pc := 58) dX4_mark_58 rfl ?_ | refine gz_aload_nN (pc := 58) dX4_mark_58 rfl ?_
        refine gz_getr (pc := 59) dX4_mark_59 fl_X4_24 rfl rfl rfl (by first | exact gz_B1 | (omega)) ?_
        refine gz_getI (pc := 62) 5 dX4_mark_62 fl_X4_105 rfl rfl rfl rfl (by first | exact gz_B1 | (omega)) ?_
        refine gz_putI (pc := 65) 8 dX4_mark_65 fw_X4_108 rfl rfl rfl rfl (by first | exact gz_B1 | (omega)) (Or.inl rfl) ?_
        generalize hJ : (gz_up I48 (16, k, 0) 8 (I48 (3, 0, 0) 5)) = J at *
        have nj : ∀ q, q ≠ (16, k, 0) → J q = I48 q := fun q hq => by rw [← hJ, gz_up_ne hq]
        have j8 : J (16, k, 0) 8 = I48 (3, 0, 0) 5 := by rw [← hJ, gz_up_s]
        have jo : ∀ i, i ≠ 8 → J (16, k, 0) i = I48 (16, k, 0) i := fun i hi => by rw [← hJ, gz_up_eq, if_neg hi]
        have e5 := gz_tot_in s1
        have e6 := gz_tot_in hT
        have jT : gz_T J := by rw [← hJ]; exact gz_Tu16_8 s1 (by omega)
        have j4 : J (4, 0, 0) = I (4, 0, 0) := by rw [nj _ (gz_ne rfl), sfr _ (gz_nb rfl) (gz_nb rfl) (gz_nb rfl) (gz_nb rfl) (gz_nb rfl) (gz_ne rfl) (gz_ne rfl) (fun _ => gz_ne rfl) (gz_ne rfl) (gz_ne rfl)]
        have j0 : J (0, 0, 0) = I (0, 0, 0) := by rw [nj _ (gz_ne rfl), sfr _ (gz_nb rfl) (gz_nb rfl) (gz_nb rfl) (gz_nb rfl) (gz_nb rfl) (gz_ne rfl) (gz_ne rfl) (fun _ => gz_ne rfl) (gz_ne rfl) (gz_ne rfl)]
        have hne : ∀ i, 0 ≤ i → i < I (0, 0, 0) 7 → ∀ r : Nat, ((r, I (4, 0, 0) i, 0) : gz_P) ≠ (r, k, 0) := fun i a1 a2 r e => by
          injection e with _ e
          injection e with e
          have := hinj i (I (0, 0, 0) 7) a1 (by omega) (by omega) (by omega) (e.trans hkd)
          omega
        have hne2 : ∀ i, 0 ≤ i → i < I (0, 0, 0) 7 → ∀ t u, ((18, I (4, 0, 0) i, t) : gz_P) ≠ (18, k, u) := fun i a1 a2 t u e => by
          injection e with _ e
          injection e with e
          have := hinj i (I (0, 0, 0) 7) a1 (by omega) (by omega) (by omega) (e.trans hkd)
          omega
        have j16 : ∀ i, 0 ≤ i → i < I (0, 0, 0) 7 → J (16, I (4, 0, 0) i, 0) = I (16, I (4, 0, 0) i, 0) := fun i a1 a2 => by
          rw [nj _ (hne i a1 a2 16), sfr _ (gz_nb rfl) (gz_nb rfl) (gz_nb rfl) (gz_nb rfl) (gz_nb rfl) (gz_ne rfl) (gz_ne rfl) (fun _ => gz_ne rfl) (gz_ne rfl) (hne i a1 a2 16)]
        have j19 : ∀ i, 0 ≤ i → i < I (0, 0, 0) 7 → J (19, I (4, 0, 0) i, 0) = I (19, I (4, 0, 0) i, 0) := fun i a1 a2 => by
          rw [nj _ (gz_ne rfl), sfr _ (gz_nb rfl) (gz_nb rfl) (gz_nb rfl) (gz_nb rfl) (gz_nb rfl) (gz_ne rfl) (gz_ne rfl) (fun _ => gz_ne rfl) (hne i a1 a2 19) (gz_ne rfl)]
        have j18 : ∀ i, 0 ≤ i → i < I (0, 0, 0) 7 → ∀ t, J (18, I (4, 0, 0) i, t) = I (18, I (4, 0, 0) i, t) := fun i a1 a2 t => by
          rw [nj _ (gz_ne rfl), sfr _ (gz_nb rfl) (gz_nb rfl) (gz_nb rfl) (gz_nb rfl) (gz_nb rfl) (gz_ne rfl) (gz_ne rfl) (hne2 i a1 a2 t) (gz_ne rfl) (gz_ne rfl)]
        have jk5 : J (16, k, 0) 5 = I (0, 0, 0) 6 := by rw [jo 5 (by decide), s4 5 (by decide), b5]
        first | refine gz_aload_n (pc := 68) dX4_mark_68 rfl ?_ | refine gz_aload_nN (pc := 68) dX4_mark_68 rfl ?_
        refine gz_iload_n (pc := 69) dX4_mark_69 rfl ?_
        refine gz_iconst (pc := 70) dX4_mark_70 ?_
        refine gz_icmp_ne (pc := 71) (tgt := 78) dX4_mark_71 (by decide) (by omega) (by omega) (fun h71 => ?_) (fun h71 => ?_)
        · first | refine gz_aload_n (pc := 78) dX4_mark_78 rfl ?_ | refine gz_aload_nN (pc := 78) dX4_mark_78 rfl ?_
          refine gz_cV0r (pc := 79) dX4_mark_79 wm_X4_111 my_X4_latestKept rfl rfl rfl (by first | exact gz_B1 | (omega)) (ct_X4_latestKept l D α cA jT) (fun x79 I79 h79 => ?_)
          obtain ⟨rfl, hl⟩ := h79
          rw [j4, j0] at hl
          rcases hl with ⟨rfl, hn⟩ | ⟨i, hi, l1, l2, rfl⟩
          · refine gz_cV1v (pc := 82) dX4_mark_82 wm_X4_115 my_X0_growUpon rfl rfl rfl (by first | exact gz_B1 | (omega)) (ct_X0_growUponN l D α cA jT hk) (fun I82 h82 => ?_)
            subst h82
            generalize hG : (gz_up J (16, k, 0) 6 (gz_sm (fun t => J (19, k, 0) t) (J (16, k, 0) 5).toNat)) = G at *
            have ng : ∀ q, q ≠ (16, k, 0) → G q = I48 q := fun q hq => by rw [← hG, gz_up_ne hq]; exact nj q hq
            have go : ∀ i, i ≠ 4 → i ≠ 6 → G (16, k, 0) i = J (16, k, 0) i := fun i _ h6 => by rw [← hG, gz_up_eq, if_neg h6]
            have e19 := gz_sm_in (f := fun t => J (19, k, 0) t) (lo := 0) (hi := 75) (fun i => gz_t19 jT k 0 i) (J (16, k, 0) 5).toNat
            have gA : gz_aX G = gz_aX I48 := by
              funext c p i
              unfold gz_aX
              rw [ng _ (gz_ne rfl), ng _ (gz_ne rfl), ng _ (gz_ne rfl), ng _ (gz_ne rfl)]
            have g18 : ∀ t, G (18, k, t) = J (18, k, t) := fun t => by rw [ng _ (gz_ne rfl), nj _ (gz_ne rfl)]
            have g19 : G (19, k, 0) = J (19, k, 0) := by rw [ng _ (gz_ne rfl), nj _ (gz_ne rfl)]
            refine lp_X4_mark l D α cA hT hk hw hhc hnx G ⟨(by rw [← hG]; exact gz_Tu16_6 jT (by omega)), ?_, t1, gA.trans t2, fun u a1 a2 => ?_⟩ ⟨?_, ?_, ?_, ?_, ?_, ?_⟩ (fun q q1 q2 q3 q4 q5 q6 q7 q8 q9 q10 => by rw [ng q q10]; exact sfr q q1 q2 q3 q4 q5 q6 q7 q8 q9 q10)
            · unfold gz_E
              rw [gA, ng _ (gz_ne rfl)]
              exact s2
            · rw [ng _ (gz_ne rfl), ng _ (gz_ne rfl)]
              have h9 := t3 u a1 a2
              try rw [b8, b77] at h9
              exact h9
            · rw [go 2 (by decide) (by decide), jo 2 (by decide), s4 2 (by decide), b2]
            · rw [go 3 (by decide) (by decide), jo 3 (by decide), s4 3 (by decide), b3]
            · rw [go 5 (by decide) (by decide), jk5]
            · rw [go 7 (by decide) (by decide), jo 7 (by decide), t4]; exact Int.zero_add _
            · rw [go 8 (by decide) (by decide), j8, gA]; exact t5
            · refine Or.inl ⟨Or.inr (fun j a1 a2 => by rw [← j16 j a1 a2]; exact hn j a1 a2), ?_, ?_⟩
              · rw [← hG, gz_up_eq, if_neg (by decide), jo 4 (by decide), s4 4 (by decide), b4]
              · rw [g19, ← hG, gz_up_s, jk5]
          · have e4 := gz_t4 hT 0 0 i
            rw [j16 i hi.1 hi.2] at l1
            replace l2 : ∀ j, i < j → j < I (0, 0, 0) 7 → I (16, I (4, 0, 0) j, 0) 3 = 0 := fun j a1 a2 => by rw [← j16 j (by omega) a2]; exact l2 j a1 a2
            refine gz_cV1v (pc := 82) dX4_mark_82 wm_X4_115 my_X0_growUpon rfl rfl rfl (by first | exact gz_B1 | (omega)) (ct_X0_growUpon l D α cA jT hk (by omega)) (fun I82 h82 => ?_)
            subst h82
            generalize hG : (gz_up (gz_up J (16, k, 0) 4 (J (16, I (4, 0, 0) i, 0) 2)) (16, k, 0) 6 (gz_sm (fun t => J (19, k, 0) t) (J (16, k, 0) 5).toNat - gz_sm (fun t => gz_sh (J (18, k, t)) (J (19, k, 0) t) (J (18, I (4, 0, 0) i, t)) (J (19, I (4, 0, 0) i, 0) t)) (if J (16, I (4, 0, 0) i, 0) 5 < J (16, k, 0) 5 then J (16, I (4, 0, 0) i, 0) 5 else J (16, k, 0) 5).toNat)) = G at *
            have ng : ∀ q, q ≠ (16, k, 0) → G q = I48 q := fun q hq => by rw [← hG, gz_up_ne hq, gz_up_ne hq]; exact nj q hq
            have go : ∀ i, i ≠ 4 → i ≠ 6 → G (16, k, 0) i = J (16, k, 0) i := fun i h4 h6 => by rw [← hG, gz_up_eq, if_neg h6, gz_up_eq, if_neg h4]
            have e19 := gz_sm_in (f := fun t => J (19, k, 0) t) (lo := 0) (hi := 75) (fun i => gz_t19 jT k 0 i) (J (16, k, 0) 5).toNat
            have esh := gz_sm_in (f := fun t => gz_sh (J (18, k, t)) (J (19, k, 0) t) (J (18, I (4, 0, 0) i, t)) (J (19, I (4, 0, 0) i, 0) t)) (lo := 0) (hi := 75) (fun u => by have a1 := gz_t19 jT k 0 u; have a2 := gz_t19 jT (I (4, 0, 0) i) 0 u; have a3 := gz_sh_in (f := J (18, k, u)) (g := J (18, I (4, 0, 0) i, u)) a1.1 a2.1; exact ⟨a3.1, by omega⟩) (if J (16, I (4, 0, 0) i, 0) 5 < J (16, k, 0) 5 then J (16, I (4, 0, 0) i, 0) 5 else J (16, k, 0) 5).toNat
            have ej5 := gz_tm5 jT k 0
            have ei5 := gz_tm5 jT (I (4, 0, 0) i) 0
            have emn : (if J (16, I (4, 0, 0) i, 0) 5 < J (16, k, 0) 5 then J (16, I (4, 0, 0) i, 0) 5 else J (16, k, 0) 5).toNat ≤ 4 := by split <;> omega
            have gA : gz_aX G = gz_aX I48 := by
              funext c p i
              unfold gz_aX
              rw [ng _ (gz_ne rfl), ng _ (gz_ne rfl), ng _ (gz_ne rfl), ng _ (gz_ne rfl)]
            have g18 : ∀ t, G (18, k, t) = J (18, k, t) := fun t => by rw [ng _ (gz_ne rfl), nj _ (gz_ne rfl)]
            have g19 : G (19, k, 0) = J (19, k, 0) := by rw [ng _ (gz_ne rfl), nj _ (gz_ne rfl)]
            refine lp_X4_mark l D α cA hT hk hw hhc hnx G ⟨(by rw [← hG]; exact gz_Tu16_6 (gz_Tu16_4 jT (gz_tm2 jT _ 0)) (by omega)), ?_, t1, gA.trans t2, fun u a1 a2 => ?_⟩ ⟨?_, ?_, ?_, ?_, ?_, ?_⟩ (fun q q1 q2 q3 q4 q5 q6 q7 q8 q9 q10 => by rw [ng q q10]; exact sfr q q1 q2 q3 q4 q5 q6 q7 q8 q9 q10)
            · unfold gz_E
              rw [gA, ng _ (gz_ne rfl)]
              exact s2
            · rw [ng _ (gz_ne rfl), ng _ (gz_ne rfl)]
              have h9 := t3 u a1 a2
              try rw [b8, b77] at h9
              exact h9
            · rw [go 2 (by decide) (by decide), jo 2 (by decide), s4 2 (by decide), b2]
            · rw [go 3 (by decide) (by decide), jo 3 (by decide), s4 3 (by decide), b3]
            · rw [go 5 (by decide) (by decide), jk5]
            · rw [go 7 (by decide) (by decide), jo 7 (by decide), t4]; exact Int.zero_add _
            · rw [go 8 (by decide) (by decide), j8, gA]; exact t5
            · refine Or.inr ⟨h71, i, hi, l1, l2, ?_, ?_⟩
              · rw [← hG, gz_up_eq, if_neg (by decide), gz_up_s, j16 i hi.1 hi.2]
              · rw [g19]
                simp only [g18]
                rw [← hG, gz_up_s, jk5, j16 i hi.1 hi.2, j19 i hi.1 hi.2]
                simp only [j18 i hi.1 hi.2]
        · skip
          · refine gz_null (pc := 74) dX4_mark_74 ?_
            refine gz_goto (pc := 75) (tgt := 82) dX4_mark_75 (by decide) ?_
            refine gz_cV1v (pc := 82) dX4_mark_82 wm_X4_115 my_X0_growUpon rfl rfl rfl (by first | exact gz_B1 | (omega)) (ct_X0_growUponN l D α cA jT hk) (fun I82 h82 => ?_)
            subst h82
            generalize hG : (gz_up J (16, k, 0) 6 (gz_sm (fun t => J (19, k, 0) t) (J (16, k, 0) 5).toNat)) = G at *
            have ng : ∀ q, q ≠ (16, k, 0) → G q = I48 q := fun q hq => by rw [← hG, gz_up_ne hq]; exact nj q hq
            have go : ∀ i, i ≠ 4 → i ≠ 6 → G (16, k, 0) i = J (16, k, 0) i := fun i _ h6 => by rw [← hG, gz_up_eq, if_neg h6]
            have e19 := gz_sm_in (f := fun t => J (19, k, 0) t) (lo := 0) (hi := 75) (fun i => gz_t19 jT k 0 i) (J (16, k, 0) 5).toNat
            have gA : gz_aX G = gz_aX I48 := by
              funext c p i
              unfold gz_aX
              rw [ng _ (gz_ne rfl), ng _ (gz_ne rfl), ng _ (gz_ne rfl), ng _ (gz_ne rfl)]
            have g18 : ∀ t, G (18, k, t) = J (18, k, t) := fun t => by rw [ng _ (gz_ne rfl), nj _ (gz_ne rfl)]
            have g19 : G (19, k, 0) = J (19, k, 0) := by rw [ng _ (gz_ne rfl), nj _ (gz_ne rfl)]
            refine lp_X4_mark l D α cA hT hk hw hhc hnx G ⟨(by rw [← hG]; exact gz_Tu16_6 jT (by omega)), ?_, t1, gA.trans t2, fun u a1 a2 => ?_⟩ ⟨?_, ?_, ?_, ?_, ?_, ?_⟩ (fun q q1 q2 q3 q4 q5 q6 q7 q8 q9 q10 => by rw [ng q q10]; exact sfr q q1 q2 q3 q4 q5 q6 q7 q8 q9 q10)
            · unfold gz_E
              rw [gA, ng _ (gz_ne rfl)]
              exact s2
            · rw [ng _ (gz_ne rfl), ng _ (gz_ne rfl)]
              have h9 := t3 u a1 a2
              try rw [b8, b77] at h9
              exact h9
            · rw [go 2 (by decide) (by decide), jo 2 (by decide), s4 2 (by decide), b2]
            · rw [go 3 (by decide) (by decide), jo 3 (by decide), s4 3 (by decide), b3]
            · rw [go 5 (by decide) (by decide), jk5]
            · rw [go 7 (by decide) (by decide), jo 7 (by decide), t4]; exact Int.zero_add _
            · rw [go 8 (by decide) (by decide), j8, gA]; exact t5
            · refine Or.inl ⟨Or.inl h71, ?_, ?_⟩
              · rw [← hG, gz_up_eq, if_neg (by decide), jo 4 (by decide), s4 4 (by decide), b4]
              · rw [g19, ← hG, gz_up_s, jk5]
      · refine gz_bipush (pc := 54) dX4_mark_54 rfl ?_
        refine gz_iret (pc := 56) dX4_mark_56 rfl ?_
        exact absurd h51 (by decide)
    · refine gz_if_ne (pc := 51) (tgt := 57) dX4_mark_51 (by decide) (by omega) (fun h51 => ?_) (fun h51 => ?_)
      · exact absurd rfl h51
      · refine gz_bipush (pc := 54) dX4_mark_54 rfl ?_
        refine gz_iret (pc := 56) dX4_mark_56 rfl ?_
        exact Or.inr (Or.inr (Or.inl ⟨hw, hhc, rfl, t1, s1, s2, t2, t3, sfr⟩))
  · refine gz_bipush (pc := 21) dX4_mark_21 rfl ?_
    refine gz_iret (pc := 23) dX4_mark_23 rfl ?_
    exact Or.inr (Or.inl ⟨by omega, by omega, rfl, rfl⟩)
set_option maxHeartbeats 4000000 in
set_option maxRecDepth 100000 in
theorem ct_X4_mark (l : Launch) (D : va_G) (α : gz_P → Nat) (cA : Nat → ClassId) {I : gz_M} (hT : gz_T I) (hE : gz_E I) {k w : Int} (r_w : (-2147483648 ≤ w ∧ w ≤ 2147483647)) (hkd : k = I (4, 0, 0) (I (0, 0, 0) 7)) (hinj : ∀ i j, 0 ≤ i → i < 12 → 0 ≤ j → j < 12 → I (4, 0, 0) i = I (4, 0, 0) j → i = j) (hnx : 0 ≤ I (0, 0, 0) 8 ∧ I (0, 0, 0) 8 ≤ 100000) : gz_V l D α cA RX4 cX4_mark (some .int) 3 6 (gz_Qi fun x I' => ¬ (w = 0 ∨ w = 1) ∧ x = -2 ∧ I = I' ∨ (w = 0 ∨ w = 1) ∧ I (0, 0, 0) 7 = 12 ∧ x = -3 ∧ I = I' ∨ (w = 0 ∨ w = 1) ∧ I (0, 0, 0) 7 < 12 ∧ x = -3 ∧ (∃ u, (0 ≤ u ∧ u < (I (0, 0, 0) 6)) ∧ ¬ gz_fk (fun t => I (8, t, 0)) (fun t => I (7, t, 0) 2) (gz_aX I) (u).toNat) ∧ gz_T I' ∧ gz_E I' ∧ gz_aX I' = (gz_aX I) ∧ (∀ p, 0 ≤ p → p < 120 → I' (13, 0, 0) p = I (13, 0, 0) p) ∧ (∀ q : gz_P, q.1 ≠ 9 → q.1 ≠ 3 → q.1 ≠ 13 → q.1 ≠ 14 → q.1 ≠ 15 → q ≠ (11, 4, 0) → q ≠ (12, 4, 0) → (∀ t, q ≠ (18, k, t)) → q ≠ (19, k, 0) → q ≠ (16, k, 0) → I' q = I q) ∨ (w = 0 ∨ w = 1) ∧ I (0, 0, 0) 7 < 12 ∧ x = I (0, 0, 0) 8 ∧ (gz_T I' ∧ gz_E I' ∧ (∀ u, 0 ≤ u → u < (I (0, 0, 0) 6) → gz_fk (fun t => I (8, t, 0)) (fun t => I (7, t, 0) 2) (gz_aX I) (u).toNat) ∧ gz_aX I' = gz_ft (fun t => I (8, t, 0)) (fun t => I (7, t, 0) 2) (gz_aX I) (I (0, 0, 0) 6).toNat ∧ (∀ u, 0 ≤ u → u < (I (0, 0, 0) 6) → (I' (19, k, 0) u = (gz_cc (I (8, u, 0)) (I (7, u, 0) 2) : Nat) ∧ ∀ j : Nat, j < gz_cc (I (8, u, 0)) (I (7, u, 0) 2) → I' (18, k, u) j = gz_fp (I (8, u, 0)) (I (7, u, 0) 2) (gz_ft (fun t => I (8, t, 0)) (fun t => I (7, t, 0) 2) (gz_aX I) (u).toNat) j))) ∧ (I' (16, k, 0) 2 = I (0, 0, 0) 8 ∧ I' (16, k, 0) 3 = 1 ∧ I' (16, k, 0) 5 = (I (0, 0, 0) 6) ∧ I' (16, k, 0) 7 = gz_sm (fun t => I (7, t, 0) 2) (I (0, 0, 0) 6).toNat ∧ I' (16, k, 0) 8 = gz_tot (gz_aX I') - gz_tot (gz_aX I) ∧ ((w = 1 ∨ ∀ j, 0 ≤ j → j < I (0, 0, 0) 7 → I (16, I (4, 0, 0) (j), 0) 3 = 0) ∧ I' (16, k, 0) 4 = -1 ∧ I' (16, k, 0) 6 = gz_sm (fun t => I' (19, k, 0) t) (I (0, 0, 0) 6).toNat ∨ ¬ w = 1 ∧ ∃ i, (0 ≤ i ∧ i < I (0, 0, 0) 7) ∧ I (16, I (4, 0, 0) (i), 0) 3 = 1 ∧ (∀ j, i < j → j < I (0, 0, 0) 7 → I (16, I (4, 0, 0) (j), 0) 3 = 0) ∧ I' (16, k, 0) 4 = I (16, I (4, 0, 0) (i), 0) 2 ∧ I' (16, k, 0) 6 = gz_sm (fun t => I' (19, k, 0) t) (I (0, 0, 0) 6).toNat - gz_sm (fun t => gz_sh (I' (18, k, t)) (I' (19, k, 0) t) (I (18, I (4, 0, 0) (i), t)) (I (19, I (4, 0, 0) (i), 0) t)) (if I (16, I (4, 0, 0) (i), 0) 5 < (I (0, 0, 0) 6) then I (16, I (4, 0, 0) (i), 0) 5 else (I (0, 0, 0) 6)).toNat)) ∧ I' (0, 0, 0) 7 = I (0, 0, 0) 7 + 1 ∧ I' (0, 0, 0) 8 = I (0, 0, 0) 8 + 1 ∧ I' (0, 0, 0) 6 = (I (0, 0, 0) 6) ∧ (∀ u, 0 ≤ u → u < (I (0, 0, 0) 6) → I' (11, u, 0) = gz_hw (I' (18, k, u)) (I (11, u, 0)) (gz_cc (I (8, u, 0)) (I (7, u, 0) 2)) ∧ I' (12, u, 0) = gz_cw (I' (18, k, u)) (I' (13, 0, 0)) (I (8, u, 0)) (I (12, u, 0)) (gz_cc (I (8, u, 0)) (I (7, u, 0) 2))) ∧ (∀ q : gz_P, q.1 ≠ 9 → q.1 ≠ 3 → q.1 ≠ 13 → q.1 ≠ 14 → q.1 ≠ 15 → q ≠ (11, 4, 0) → q ≠ (12, 4, 0) → (∀ t, q ≠ (18, k, t)) → q ≠ (19, k, 0) → q ≠ (16, k, 0) → q ≠ (0, 0, 0) → (∀ u, 0 ≤ u → u < (I (0, 0, 0) 6) → q ≠ (11, u, 0) ∧ q ≠ (12, u, 0)) → I' q = I q)) I [some (.ref (α (0, 0, 0))), some (gz_i (w)), none] [] 0 := by
  refine gz_iload_n (pc := 0) dX4_mark_0 rfl ?_
  refine gz_if_eq (pc := 1) (tgt := 12) dX4_mark_1 (by decide) (by omega) (fun h1 => ?_) (fun h1 => ?_)
  · exact lp_X4_mark12 l D α cA hT hE r_w hkd hinj hnx (by omega)
  · refine gz_iload_n (pc := 4) dX4_mark_4 rfl ?_
    refine gz_iconst (pc := 5) dX4_mark_5 ?_
    refine gz_icmp_eq (pc := 6) (tgt := 12) dX4_mark_6 (by decide) (by omega) (by omega) (fun h6 => ?_) (fun h6 => ?_)
    · exact lp_X4_mark12 l D α cA hT hE r_w hkd hinj hnx (by omega)
    · refine gz_bipush (pc := 9) dX4_mark_9 rfl ?_
      refine gz_iret (pc := 11) dX4_mark_11 rfl ?_
      exact Or.inl ⟨by omega, rfl, rfl⟩
