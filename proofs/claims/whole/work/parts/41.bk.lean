set_option maxHeartbeats 4000000 in
set_option maxRecDepth 100000 in
theorem lp_X4_back (l : Launch) (D : va_G) (α : gz_P → Nat) (cA : Nat → ClassId) {I1 : gz_M} (hT : gz_T I1) {k m : Int} (hk : 0 ≤ k ∧ k < 12) (hsum : ∀ t, 0 ≤ t → t < I1 (16, k, 0) 5 → gz_sm (fun m => I1 (13, 0, 0) (I1 (18, k, t) m)) (I1 (19, k, 0) t).toNat ≤ 300) : ∀ t, t ≤ I1 (16, k, 0) 5 → ∀ I : gz_M, 0 ≤ t → gz_T I → (∀ u, 0 ≤ u → u < t → ((I (11, u, 0), I (12, u, 0), I (8, u, 0)) = gz_rs (I1 (18, k, u)) (I1 (13, 0, 0)) (I1 (14, 0, 0)) (I1 (12, 4, 0)) (I1 (11, u, 0)) (I1 (12, u, 0)) (I1 (8, u, 0)) (I1 (19, k, 0) u).toNat ∧ I (7, u, 0) 2 = gz_sm (fun m => I1 (13, 0, 0) (I1 (18, k, u) m)) (I1 (19, k, 0) u).toNat)) → (∀ q, (∀ u, 0 ≤ u → u < t → q ≠ (11, u, 0) ∧ q ≠ (12, u, 0) ∧ q ≠ (8, u, 0) ∧ q ≠ (7, u, 0)) → I q = I1 q) → gz_V l D α cA RX4 cX4_back (some .int) 4 5 (gz_Qi fun x I' => x = I1 (16, k, 0) 2 ∧ gz_T I' ∧ (∀ u, 0 ≤ u → u < I1 (16, k, 0) 5 → ((I' (11, u, 0), I' (12, u, 0), I' (8, u, 0)) = gz_rs (I1 (18, k, u)) (I1 (13, 0, 0)) (I1 (14, 0, 0)) (I1 (12, 4, 0)) (I1 (11, u, 0)) (I1 (12, u, 0)) (I1 (8, u, 0)) (I1 (19, k, 0) u).toNat ∧ I' (7, u, 0) 2 = gz_sm (fun m => I1 (13, 0, 0) (I1 (18, k, u) m)) (I1 (19, k, 0) u).toNat)) ∧ ∀ q, (∀ u, 0 ≤ u → u < I1 (16, k, 0) 5 → q ≠ (11, u, 0) ∧ q ≠ (12, u, 0) ∧ q ≠ (8, u, 0) ∧ q ≠ (7, u, 0)) → I' q = I1 q) I [some (.ref (α (0, 0, 0))), some (gz_i (m)), some (.ref (α (16, k, 0))), some (gz_i (t))] [] 37 := by
  have e0 := gz_tm5 hT k 0
  refine gz_upto _ ?_
  intro t ht ih I h0 hTI hj hI
  have r5 : I (16, k, 0) 5 = I1 (16, k, 0) 5 := by rw [hI _ (fun u _ _ => ⟨gz_ne rfl, gz_ne rfl, gz_ne rfl, gz_ne rfl⟩)]
  have r2 : I (16, k, 0) 2 = I1 (16, k, 0) 2 := by rw [hI _ (fun u _ _ => ⟨gz_ne rfl, gz_ne rfl, gz_ne rfl, gz_ne rfl⟩)]
  have p18 : I (18, k, t) = I1 (18, k, t) := hI _ (fun u _ _ => ⟨gz_ne rfl, gz_ne rfl, gz_ne rfl, gz_ne rfl⟩)
  have p19 : I (19, k, 0) = I1 (19, k, 0) := hI _ (fun u _ _ => ⟨gz_ne rfl, gz_ne rfl, gz_ne rfl, gz_ne rfl⟩)
  have p13 : I (13, 0, 0) = I1 (13, 0, 0) := hI _ (fun u _ _ => ⟨gz_ne rfl, gz_ne rfl, gz_ne rfl, gz_ne rfl⟩)
  have p14 : I (14, 0, 0) = I1 (14, 0, 0) := hI _ (fun u _ _ => ⟨gz_ne rfl, gz_ne rfl, gz_ne rfl, gz_ne rfl⟩)
  have p12 : I (12, 4, 0) = I1 (12, 4, 0) := hI _ (fun u a1 a2 => ⟨by first | exact gz_ne rfl | exact (fun e => by injection e with _ e; injection e with e; omega), by first | exact gz_ne rfl | exact (fun e => by injection e with _ e; injection e with e; omega), by first | exact gz_ne rfl | exact (fun e => by injection e with _ e; injection e with e; omega), by first | exact gz_ne rfl | exact (fun e => by injection e with _ e; injection e with e; omega)⟩)
  have p11 : I (11, t, 0) = I1 (11, t, 0) := hI _ (fun u a1 a2 => ⟨by first | exact gz_ne rfl | exact (fun e => by injection e with _ e; injection e with e; omega), by first | exact gz_ne rfl | exact (fun e => by injection e with _ e; injection e with e; omega), by first | exact gz_ne rfl | exact (fun e => by injection e with _ e; injection e with e; omega), by first | exact gz_ne rfl | exact (fun e => by injection e with _ e; injection e with e; omega)⟩)
  have p12t : I (12, t, 0) = I1 (12, t, 0) := hI _ (fun u a1 a2 => ⟨by first | exact gz_ne rfl | exact (fun e => by injection e with _ e; injection e with e; omega), by first | exact gz_ne rfl | exact (fun e => by injection e with _ e; injection e with e; omega), by first | exact gz_ne rfl | exact (fun e => by injection e with _ e; injection e with e; omega), by first | exact gz_ne rfl | exact (fun e => by injection e with _ e; injection e with e; omega)⟩)
  have p8 : I (8, t, 0) = I1 (8, t, 0) := hI _ (fun u a1 a2 => ⟨by first | exact gz_ne rfl | exact (fun e => by injection e with _ e; injection e with e; omega), by first | exact gz_ne rfl | exact (fun e => by injection e with _ e; injection e with e; omega), by first | exact gz_ne rfl | exact (fun e => by injection e with _ e; injection e with e; omega), by first | exact gz_ne rfl | exact (fun e => by injection e with _ e; injection e with e; omega)⟩)
  have hs2 : t < I1 (16, k, 0) 5 → gz_sm (fun m => I (13, 0, 0) (I (18, k, t) m)) (I (19, k, 0) t).toNat ≤ 300 := fun h => by rw [p13, p18, p19]; exact hsum t h0 h
  refine gz_iload_n (pc := 37) dX4_back_37 rfl ?_
  first | refine gz_aload_n (pc := 38) dX4_back_38 rfl ?_ | refine gz_aload_nN (pc := 38) dX4_back_38 rfl ?_
  refine gz_getI (pc := 39) 5 dX4_back_39 fl_X4_142 rfl rfl rfl rfl (by first | exact gz_B1 | (omega)) ?_
  rw [r5]
  refine gz_icmp_ge (pc := 42) (tgt := 57) dX4_back_42 (by decide) (by omega) (by omega) (fun h42 => ?_) (fun h42 => ?_)
  · first | refine gz_aload_n (pc := 57) dX4_back_57 rfl ?_ | refine gz_aload_nN (pc := 57) dX4_back_57 rfl ?_
    refine gz_getI (pc := 58) 2 dX4_back_58 fl_X4_122 rfl rfl rfl rfl (by first | exact gz_B1 | (omega)) ?_
    rw [r2]
    refine gz_iret (pc := 61) dX4_back_61 rfl ?_
    exact ⟨rfl, hTI, fun u a1 a2 => hj u a1 (by omega), fun q hq => hI q (fun u a1 a2 => hq u a1 (by omega))⟩
  · first | refine gz_aload_n (pc := 45) dX4_back_45 rfl ?_ | refine gz_aload_nN (pc := 45) dX4_back_45 rfl ?_
    first | refine gz_aload_n (pc := 46) dX4_back_46 rfl ?_ | refine gz_aload_nN (pc := 46) dX4_back_46 rfl ?_
    refine gz_iload_n (pc := 47) dX4_back_47 rfl ?_
    refine gz_cV2v (pc := 48) dX4_back_48 wm_X4_145 my_X4_readState rfl rfl rfl (by first | exact gz_B1 | (omega)) (ct_X4_readState l D α cA hTI hk (by omega) (hs2 (by omega))) (fun I48 h48 => ?_)
    obtain ⟨c1, c2, c3, c4⟩ := h48
    rw [p18, p13, p14, p12, p11, p12t, p8, p19] at c2
    rw [p13, p18, p19] at c3
    refine gz_iinc (pc := 51) dX4_back_51 rfl rfl rfl rfl ?_
    refine gz_goto (pc := 54) (tgt := 37) dX4_back_54 (by decide) ?_
    refine ih (t + 1) (by omega) (by omega) _ (by omega) c1 (fun u a1 a2 => ?_) (fun q hq => ?_)
    · by_cases z : u = t
      · subst z
        exact ⟨c2, c3⟩
      · have hne : ∀ r : Nat, ((r, u, 0) : gz_P) ≠ (r, t, 0) := fun r e => by injection e with _ e; injection e with e; omega
        rw [c4 (11, u, 0) (hne 11) (gz_ne rfl) (gz_ne rfl) (gz_ne rfl), c4 (12, u, 0) (gz_ne rfl) (hne 12) (gz_ne rfl) (gz_ne rfl), c4 (8, u, 0) (gz_ne rfl) (gz_ne rfl) (hne 8) (gz_ne rfl), c4 (7, u, 0) (gz_ne rfl) (gz_ne rfl) (gz_ne rfl) (hne 7)]
        exact hj u a1 (by omega)
    · have h9 := hq t h0 (by omega)
      rw [c4 q h9.1 h9.2.1 h9.2.2.1 h9.2.2.2]
      exact hI q (fun u a1 a2 => hq u a1 (by omega))
set_option maxHeartbeats 4000000 in
set_option maxRecDepth 100000 in
theorem ct_X4_back (l : Launch) (D : va_G) (α : gz_P → Nat) (cA : Nat → ClassId) {I : gz_M} (hT : gz_T I) {m : Int} (r_m : (-2147483648 ≤ m ∧ m ≤ 2147483647)) (hkt : ∀ i, 0 ≤ i → i < I (0, 0, 0) 7 → I (16, I (4, 0, 0) (i), 0) 3 = 1 → 1 ≤ I (16, I (4, 0, 0) (i), 0) 5 ∧ ∀ t, 0 ≤ t → t < I (16, I (4, 0, 0) (i), 0) 5 → gz_sm (fun m => I (13, 0, 0) (I (18, (I (4, 0, 0) (i)), t) m)) (I (19, (I (4, 0, 0) (i)), 0) t).toNat ≤ 300) : gz_V l D α cA RX4 cX4_back (some .int) 4 5 (gz_Qi fun x I' => ¬ (0 ≤ m ∧ m < I (0, 0, 0) 8) ∧ x = -2 ∧ I = I' ∨ (0 ≤ m ∧ m < I (0, 0, 0) 8) ∧ x = -1 ∧ (∀ j, 0 ≤ j → j < I (0, 0, 0) 7 → ¬ (I (16, I (4, 0, 0) (j), 0) 2 ≤ m ∧ gz_usb I (I (4, 0, 0) (j)))) ∧ I = I' ∨ (0 ≤ m ∧ m < I (0, 0, 0) 8) ∧ ∃ i, (0 ≤ i ∧ i < I (0, 0, 0) 7) ∧ (I (16, I (4, 0, 0) (i), 0) 2 ≤ m ∧ gz_usb I (I (4, 0, 0) (i))) ∧ (∀ j, i < j → j < I (0, 0, 0) 7 → ¬ (I (16, I (4, 0, 0) (j), 0) 2 ≤ m ∧ gz_usb I (I (4, 0, 0) (j)))) ∧ x = I (16, I (4, 0, 0) (i), 0) 2 ∧ gz_T I' ∧ I' (0, 0, 0) 6 = I (16, (I (4, 0, 0) (i)), 0) 5 ∧ (∀ j, j ≠ 6 → I' (0, 0, 0) j = I (0, 0, 0) j) ∧ (∀ u, 0 ≤ u → u < I (16, (I (4, 0, 0) (i)), 0) 5 → (I' (11, u, 0), I' (12, u, 0), I' (8, u, 0)) = gz_rs (I (18, (I (4, 0, 0) (i)), u)) (I (13, 0, 0)) (I (14, 0, 0)) (I (12, 4, 0)) (I (11, u, 0)) (I (12, u, 0)) (I (8, u, 0)) (I (19, (I (4, 0, 0) (i)), 0) u).toNat ∧ I' (7, u, 0) 2 = gz_sm (fun m => I (13, 0, 0) (I (18, (I (4, 0, 0) (i)), u) m)) (I (19, (I (4, 0, 0) (i)), 0) u).toNat) ∧ (∀ u, I (16, (I (4, 0, 0) (i)), 0) 5 ≤ u → u < I (0, 0, 0) 6 → ∀ j, 0 ≤ j → j < 120 → I' (11, u, 0) j = 0) ∧ ∀ q, q ≠ (0, 0, 0) → (∀ u, 0 ≤ u → u < I (16, (I (4, 0, 0) (i)), 0) 5 → q ≠ (11, u, 0) ∧ q ≠ (12, u, 0) ∧ q ≠ (8, u, 0) ∧ q ≠ (7, u, 0)) → (∀ u, I (16, (I (4, 0, 0) (i)), 0) 5 ≤ u → u < I (0, 0, 0) 6 → q ≠ (11, u, 0)) → I' q = I q) I [some (.ref (α (0, 0, 0))), some (gz_i (m)), none, none] [] 0 := by
  have e8 := gz_tn8 hT 0 0
  refine gz_iload_n (pc := 0) dX4_back_0 rfl ?_
  refine gz_if_lt (pc := 1) (tgt := 12) dX4_back_1 (by decide) (by omega) (fun h1 => ?_) (fun h1 => ?_)
  · refine gz_bipush (pc := 12) dX4_back_12 rfl ?_
    refine gz_iret (pc := 14) dX4_back_14 rfl ?_
    exact Or.inl ⟨by omega, rfl, rfl⟩
  · refine gz_iload_n (pc := 4) dX4_back_4 rfl ?_
    first | refine gz_aload_n (pc := 5) dX4_back_5 rfl ?_ | refine gz_aload_nN (pc := 5) dX4_back_5 rfl ?_
    refine gz_getI (pc := 6) 8 dX4_back_6 fl_X4_49 rfl rfl rfl rfl (by first | exact gz_B1 | (omega)) ?_
    refine gz_icmp_lt (pc := 9) (tgt := 15) dX4_back_9 (by decide) (by omega) (by omega) (fun h9 => ?_) (fun h9 => ?_)
    · first | refine gz_aload_n (pc := 15) dX4_back_15 rfl ?_ | refine gz_aload_nN (pc := 15) dX4_back_15 rfl ?_
      refine gz_iload_n (pc := 16) dX4_back_16 rfl ?_
      refine gz_cV1r (pc := 17) dX4_back_17 wm_X4_139 my_X4_latestUsable rfl rfl rfl (by first | exact gz_B1 | (omega)) (ct_X4_latestUsable l D α cA hT r_m) (fun x17 I17 h17 => ?_)
      obtain ⟨rfl, ⟨rfl, hn⟩ | ⟨i, hi, l1, l2, rfl⟩⟩ := h17
      · first | refine gz_astore_n (pc := 20) dX4_back_20 rfl rfl rfl ?_ | refine gz_astore_nN (pc := 20) dX4_back_20 rfl rfl rfl ?_
        first | refine gz_aload_n (pc := 21) dX4_back_21 rfl ?_ | refine gz_aload_nN (pc := 21) dX4_back_21 rfl ?_
        refine gz_ifnonnullN (pc := 22) dX4_back_22 ?_
        refine gz_iconst (pc := 25) dX4_back_25 ?_
        refine gz_iret (pc := 26) dX4_back_26 rfl ?_
        exact Or.inr (Or.inl ⟨by omega, rfl, hn, rfl⟩)
      · have e4 := gz_t4 hT 0 0 i
        have e5 := gz_tm5 hT (I (4, 0, 0) (i)) 0
        have hk5 := hkt i hi.1 hi.2 l1.2.1
        first | refine gz_astore_n (pc := 20) dX4_back_20 rfl rfl rfl ?_ | refine gz_astore_nN (pc := 20) dX4_back_20 rfl rfl rfl ?_
        first | refine gz_aload_n (pc := 21) dX4_back_21 rfl ?_ | refine gz_aload_nN (pc := 21) dX4_back_21 rfl ?_
        refine gz_ifnonnull (pc := 22) (tgt := 27) dX4_back_22 (by decide) ?_
        first | refine gz_aload_n (pc := 27) dX4_back_27 rfl ?_ | refine gz_aload_nN (pc := 27) dX4_back_27 rfl ?_
        first | refine gz_aload_n (pc := 28) dX4_back_28 rfl ?_ | refine gz_aload_nN (pc := 28) dX4_back_28 rfl ?_
        refine gz_getI (pc := 29) 5 dX4_back_29 fl_X4_142 rfl rfl rfl rfl (by first | exact gz_B1 | (omega)) ?_
        refine gz_cV1v (pc := 32) dX4_back_32 wm_X4_90 my_X4_becomeTasks rfl rfl rfl (by first | exact gz_B1 | (omega)) (ct_X4_becomeTasks l D α cA hT (by omega)) (fun I32 h32 => ?_)
        obtain ⟨b1, b2, b3, b4, b5⟩ := h32
        refine gz_iconst (pc := 35) dX4_back_35 ?_
        refine gz_istore_n (pc := 36) dX4_back_36 rfl rfl rfl ?_
        have q16 : I32 (16, (I (4, 0, 0) (i)), 0) = I (16, (I (4, 0, 0) (i)), 0) := b4 _ (gz_ne rfl) (fun u _ _ => gz_ne rfl)
        have q18 : ∀ t, I32 (18, (I (4, 0, 0) (i)), t) = I (18, (I (4, 0, 0) (i)), t) := fun t => b4 _ (gz_ne rfl) (fun u _ _ => gz_ne rfl)
        have q19 : I32 (19, (I (4, 0, 0) (i)), 0) = I (19, (I (4, 0, 0) (i)), 0) := b4 _ (gz_ne rfl) (fun u _ _ => gz_ne rfl)
        have q13 : I32 (13, 0, 0) = I (13, 0, 0) := b4 _ (gz_ne rfl) (fun u _ _ => gz_ne rfl)
        have q14 : I32 (14, 0, 0) = I (14, 0, 0) := b4 _ (gz_ne rfl) (fun u _ _ => gz_ne rfl)
        have q12 : ∀ u, I32 (12, u, 0) = I (12, u, 0) := fun u => b4 _ (gz_ne rfl) (fun u _ _ => gz_ne rfl)
        have q8 : ∀ u, I32 (8, u, 0) = I (8, u, 0) := fun u => b4 _ (gz_ne rfl) (fun u _ _ => gz_ne rfl)
        have q11 : ∀ u, u < I (16, (I (4, 0, 0) (i)), 0) 5 → I32 (11, u, 0) = I (11, u, 0) := fun u hu => b4 _ (gz_ne rfl) (fun t a1 a2 e => by injection e with _ e; injection e with e; omega)
        refine gz_w ?_ (lp_X4_back l D α cA (I1 := I32) (k := (I (4, 0, 0) (i))) b1 (by omega) (fun t a1 a2 => ?_) 0 (by rw [q16]; omega) I32 (by omega) b1 (fun u a1 a2 => by omega) (fun q _ => rfl))
        · rintro r I' ⟨x, rfl, hx, h1, h2, h3⟩
          rw [q16] at hx h2 h3
          rw [q13, q14, q12] at h2
          refine ⟨x, rfl, Or.inr (Or.inr ⟨by omega, i, hi, l1, l2, hx, h1, ?_, fun j hj => ?_, fun u a1 a2 => ?_, fun u a1 a2 j a3 a4 => ?_, fun q q1 q2 q3 => ?_⟩)⟩
          · rw [h3 _ (fun u _ _ => ⟨gz_ne rfl, gz_ne rfl, gz_ne rfl, gz_ne rfl⟩)]; exact b2
          · rw [h3 _ (fun u _ _ => ⟨gz_ne rfl, gz_ne rfl, gz_ne rfl, gz_ne rfl⟩)]; exact b3 j hj
          · have h9 := h2 u a1 a2
            rw [q18, q19, q12, q8, q11 u a2] at h9
            exact h9
          · rw [h3 _ (fun v b1 b2 => ⟨fun e => by injection e with _ e; injection e with e; omega, gz_ne rfl, gz_ne rfl, gz_ne rfl⟩)]; exact b5 u a1 a2 j a3 a4
          · rw [h3 q q2]; exact b4 q q1 q3
        · rw [q16] at a2
          rw [q13, q18, q19]
          exact hk5.2 t a1 a2
    · refine gz_bipush (pc := 12) dX4_back_12 rfl ?_
      refine gz_iret (pc := 14) dX4_back_14 rfl ?_
      exact Or.inl ⟨by omega, rfl, rfl⟩
