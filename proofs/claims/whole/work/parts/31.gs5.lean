set_option maxHeartbeats 4000000 in
set_option maxRecDepth 100000 in
theorem lp_X4_rescale2 (l : Launch) (D : va_G) (α : gz_P → Nat) (cA : Nat → ClassId) {I1 : gz_M} {A n b : Int} (hA : 0 ≤ A ∧ A ≤ 1200) (hn : 1 ≤ n ∧ n ≤ 4) (hsh : ∀ t, 0 ≤ t → t < n → (A * (t + 1) / n - A * t / n) ≤ 300) : ∀ t, t ≤ n → ∀ I : gz_M, 0 ≤ t → gz_T I → (∀ u, 0 ≤ u → u < t → (I (7, u, 0) 2 = (A * (u + 1) / n - A * u / n) ∧ ∀ i, I (8, u, 0) i = if 0 ≤ i ∧ i < (A * (u + 1) / n - A * u / n) then I1 (5, 0, 0) (A * u / n + i) else I1 (8, u, 0) i)) → (∀ q, (∀ u, 0 ≤ u → u < t → q ≠ (7, u, 0) ∧ q ≠ (8, u, 0)) → I q = I1 q) → ∀ o : Option Value, gz_V l D α cA RX4 cX4_rescale (some .int) 6 2 (gz_Qi fun x I' => x = b ∧ gz_T I' ∧ (∀ u, 0 ≤ u → u < n → (I' (7, u, 0) 2 = (A * (u + 1) / n - A * u / n) ∧ ∀ i, I' (8, u, 0) i = if 0 ≤ i ∧ i < (A * (u + 1) / n - A * u / n) then I1 (5, 0, 0) (A * u / n + i) else I1 (8, u, 0) i)) ∧ ∀ q, (∀ u, 0 ≤ u → u < n → q ≠ (7, u, 0) ∧ q ≠ (8, u, 0)) → I' q = I1 q) I [some (.ref (α (0, 0, 0))), some (gz_i (n)), some (gz_i (A)), some (gz_i (b)), some (gz_i (t)), o] [] 72 := by
  refine gz_upto _ ?_
  intro t ht ih I h0 hTI hj hI o
  refine gz_iload (pc := 72) dX4_rescale_72 rfl ?_
  refine gz_iload_n (pc := 74) dX4_rescale_74 rfl ?_
  refine gz_icmp_ge (pc := 75) (tgt := 132) dX4_rescale_75 (by decide) (by omega) (by omega) (fun h75 => ?_) (fun h75 => ?_)
  · refine gz_iload_n (pc := 132) dX4_rescale_132 rfl ?_
    refine gz_iret (pc := 133) dX4_rescale_133 rfl ?_
    exact ⟨rfl, hTI, fun u a1 a2 => hj u a1 (by omega), fun q hq => hI q (fun u a1 a2 => hq u a1 (by omega))⟩
  · refine gz_iload_n (pc := 78) dX4_rescale_78 rfl ?_
    refine gz_iload (pc := 79) dX4_rescale_79 rfl ?_
    refine gz_iload_n (pc := 81) dX4_rescale_81 rfl ?_
    refine gz_cS3i (pc := 82) dX4_rescale_82 wm_X4_83 my_X4_shareStart rfl rfl (ct_X4_shareStart l D α cA hA (by omega) hn) (fun x82 I82 h82 => ?_)
    obtain ⟨rfl, rfl⟩ := h82
    have s1 := gz_share hA.1 hn.1 (t := t) ⟨h0, by omega⟩
    have s2 := hsh t h0 (by omega)
    refine gz_istore (pc := 85) dX4_rescale_85 rfl rfl rfl ?_
    first | refine gz_aload_n (pc := 87) dX4_rescale_87 rfl ?_ | refine gz_aload_nN (pc := 87) dX4_rescale_87 rfl ?_
    refine gz_getr (pc := 88) dX4_rescale_88 fl_X4_11 rfl rfl rfl (by first | exact gz_B1 | (omega)) ?_
    refine gz_iload (pc := 91) dX4_rescale_91 rfl ?_
    first | refine gz_ald1 (pc := 93) dX4_rescale_93 (by omega) ?_ | refine gz_ald2 (pc := 93) dX4_rescale_93 (by omega) ?_ | refine gz_ald4 (pc := 93) dX4_rescale_93 (by omega) ?_ | refine gz_ald17 (pc := 93) dX4_rescale_93 (by first | exact gz_B1 | (omega)) (by omega) ?_
    refine gz_iconst (pc := 94) dX4_rescale_94 ?_
    refine gz_putI (pc := 95) 2 dX4_rescale_95 fw_X4_59 rfl rfl rfl rfl (by first | exact gz_B1 | (omega)) (Or.inl rfl) ?_
    first | refine gz_aload_n (pc := 98) dX4_rescale_98 rfl ?_ | refine gz_aload_nN (pc := 98) dX4_rescale_98 rfl ?_
    refine gz_getr (pc := 99) dX4_rescale_99 fl_X4_11 rfl rfl rfl (by first | exact gz_B1 | (omega)) ?_
    refine gz_iload (pc := 102) dX4_rescale_102 rfl ?_
    first | refine gz_ald1 (pc := 104) dX4_rescale_104 (by omega) ?_ | refine gz_ald2 (pc := 104) dX4_rescale_104 (by omega) ?_ | refine gz_ald4 (pc := 104) dX4_rescale_104 (by omega) ?_ | refine gz_ald17 (pc := 104) dX4_rescale_104 (by first | exact gz_B1 | (omega)) (by omega) ?_
    first | refine gz_aload_n (pc := 105) dX4_rescale_105 rfl ?_ | refine gz_aload_nN (pc := 105) dX4_rescale_105 rfl ?_
    refine gz_getr (pc := 106) dX4_rescale_106 fl_X4_34 rfl rfl rfl (by first | exact gz_B1 | (omega)) ?_
    refine gz_iload (pc := 109) dX4_rescale_109 rfl ?_
    refine gz_iload_n (pc := 111) dX4_rescale_111 rfl ?_
    refine gz_iload (pc := 112) dX4_rescale_112 rfl ?_
    refine gz_iconst (pc := 114) dX4_rescale_114 ?_
    refine gz_iadd (pc := 115) dX4_rescale_115 ?_
    refine gz_iload_n (pc := 116) dX4_rescale_116 rfl ?_
    refine gz_cS3i (pc := 117) dX4_rescale_117 wm_X4_83 my_X4_shareStart rfl rfl (ct_X4_shareStart l D α cA hA (by omega) hn) (fun x117 I117 h117 => ?_)
    obtain ⟨rfl, rfl⟩ := h117
    refine gz_iload (pc := 120) dX4_rescale_120 rfl ?_
    refine gz_isub (pc := 122) dX4_rescale_122 ?_
    refine gz_cV3v (pc := 123) dX4_rescale_123 wm_X4_94 my_X2_append rfl rfl rfl (by first | exact gz_B1 | (omega)) (ct_X2_append l D α cA (r := 5) (by omega) (by rw [gz_up_s]; decide) rfl rfl gz_B1 (by omega) (by rw [gz_up_s]; omega)) (fun I123 h123 => ?_)
    rw [gz_up_s] at h123
    subst h123
    refine gz_iinc (pc := 126) dX4_rescale_126 rfl rfl rfl rfl ?_
    refine gz_goto (pc := 129) (tgt := 72) dX4_rescale_129 (by decide) ?_
    refine ih (t + 1) (by omega) (by omega) _ (by omega) (gz_Tu7 (gz_T_cp (gz_Tu7 hTI (by decide)) (fun _ => ⟨rfl, rfl⟩) (fun _ => ⟨rfl, rfl⟩)) (by omega)) (fun u a1 a2 => ?_) (fun q hq => ?_) _
    · have r5 : ∀ i, I (5, 0, 0) i = I1 (5, 0, 0) i := fun i => by rw [hI _ (fun u _ _ => ⟨gz_ne rfl, gz_ne rfl⟩)]
      by_cases z : u = t
      · subst z
        refine ⟨by rw [gz_up_s]; omega, fun i => ?_⟩
        rw [gz_up_r (by decide), gz_cp_k, gz_up_r (by decide), gz_up_r (by decide), r5]
        rw [hI (8, u, 0) (fun u2 b1 b2 => ⟨gz_ne rfl, fun e => by injection e with _ e; injection e with e; omega⟩)]
        by_cases z2 : 0 ≤ i ∧ i < (A * (u + 1) / n - A * u / n)
        · rw [if_pos z2, if_pos (by omega), show A * u / n + (i - 0) = A * u / n + i by omega]
        · rw [if_neg z2, if_neg (by omega)]
      · have z3 : ¬ (u = t ∧ (0 : Int) = 0) := fun e => z e.1
        have hd := hj u a1 (by omega)
        refine ⟨?_, fun i => ?_⟩
        · rw [gz_up_k, if_neg (fun e => z3 e.1), gz_cp_r (by decide), gz_up_k, if_neg (fun e => z3 e.1)]
          exact hd.1
        · rw [gz_up_r (by decide), gz_cp_k, if_neg (fun e => z3 e.1), gz_up_r (by decide)]
          exact hd.2 i
    · rw [gz_up_ne (hq t h0 (by omega)).1, ← hI q (fun u a1 a2 => hq u a1 (by omega))]
      funext i
      unfold gz_cp
      rw [if_neg (fun e => (hq t h0 (by omega)).2 e.1), gz_up_ne (hq t h0 (by omega)).1]
set_option maxHeartbeats 4000000 in
set_option maxRecDepth 100000 in
theorem lp_X4_rescale (l : Launch) (D : va_G) (α : gz_P → Nat) (cA : Nat → ClassId) {I : gz_M} (hT : gz_T I) {n : Int} (hn : 1 ≤ n ∧ n ≤ 4) : ∀ t, t ≤ n → 0 ≤ t → (∀ u, 0 ≤ u → u < t → ((gz_sm (fun t => I (7, t, 0) 2) (I (0, 0, 0) 6).toNat) * (u + 1) / n - (gz_sm (fun t => I (7, t, 0) 2) (I (0, 0, 0) 6).toNat) * u / n) ≤ 300) → gz_V l D α cA RX4 cX4_rescale (some .int) 6 2 (gz_Qi fun x I' => (¬ (1 ≤ n ∧ n ≤ 4) ∧ x = -2 ∧ I = I' ∨ (1 ≤ n ∧ n ≤ 4) ∧ (∃ t, (0 ≤ t ∧ t < n) ∧ 300 < ((gz_sm (fun t => I (7, t, 0) 2) (I (0, 0, 0) 6).toNat) * (t + 1) / n - (gz_sm (fun t => I (7, t, 0) 2) (I (0, 0, 0) 6).toNat) * t / n)) ∧ x = -3 ∧ I = I' ∨ (1 ≤ n ∧ n ≤ 4) ∧ (∀ t, 0 ≤ t → t < n → ((gz_sm (fun t => I (7, t, 0) 2) (I (0, 0, 0) 6).toNat) * (t + 1) / n - (gz_sm (fun t => I (7, t, 0) 2) (I (0, 0, 0) 6).toNat) * t / n) ≤ 300) ∧ x = I (0, 0, 0) 6 ∧ gz_T I' ∧ I' (0, 0, 0) 6 = n ∧ (∀ i, i ≠ 6 → I' (0, 0, 0) i = I (0, 0, 0) i) ∧ (∃ J : Int → Int, (∀ t, 0 ≤ t → t < I (0, 0, 0) 6 → ∀ i, 0 ≤ i → i < I (7, t, 0) 2 → J (gz_sm (fun t => I (7, t, 0) 2) t.toNat + i) = I (8, t, 0) i) ∧ ∀ t, 0 ≤ t → t < n → I' (7, t, 0) 2 = ((gz_sm (fun t => I (7, t, 0) 2) (I (0, 0, 0) 6).toNat) * (t + 1) / n - (gz_sm (fun t => I (7, t, 0) 2) (I (0, 0, 0) 6).toNat) * t / n) ∧ ∀ i, I' (8, t, 0) i = if 0 ≤ i ∧ i < ((gz_sm (fun t => I (7, t, 0) 2) (I (0, 0, 0) 6).toNat) * (t + 1) / n - (gz_sm (fun t => I (7, t, 0) 2) (I (0, 0, 0) 6).toNat) * t / n) then J ((gz_sm (fun t => I (7, t, 0) 2) (I (0, 0, 0) 6).toNat) * t / n + i) else I (8, t, 0) i) ∧ (∀ t, n ≤ t → t < I (0, 0, 0) 6 → ∀ i, 0 ≤ i → i < 120 → I' (11, t, 0) i = 0) ∧ ∀ q, q ≠ (0, 0, 0) → q ≠ (5, 0, 0) → (∀ t, 0 ≤ t → t < n → q ≠ (7, t, 0) ∧ q ≠ (8, t, 0)) → (∀ t, n ≤ t → t < I (0, 0, 0) 6 → q ≠ (11, t, 0)) → I' q = I q)) I [some (.ref (α (0, 0, 0))), some (gz_i (n)), some (gz_i ((gz_sm (fun t => I (7, t, 0) 2) (I (0, 0, 0) 6).toNat))), some (gz_i (t)), none, none] [] 20 := by
  have e1 := gz_tk hT 0 0
  have e2 := gz_sm_in (f := fun t => I (7, t, 0) 2) (lo := 0) (hi := 300) (fun i => gz_t7 hT i 0 2) (I (0, 0, 0) 6).toNat
  refine gz_upto _ ?_
  intro t ht ih h0 hs
  refine gz_iload_n (pc := 20) dX4_rescale_20 rfl ?_
  refine gz_iload_n (pc := 21) dX4_rescale_21 rfl ?_
  refine gz_icmp_ge (pc := 22) (tgt := 55) dX4_rescale_22 (by decide) (by omega) (by omega) (fun h22 => ?_) (fun h22 => ?_)
  · first | refine gz_aload_n (pc := 55) dX4_rescale_55 rfl ?_ | refine gz_aload_nN (pc := 55) dX4_rescale_55 rfl ?_
    refine gz_getI (pc := 56) 6 dX4_rescale_56 fl_X4_42 rfl rfl rfl rfl (by first | exact gz_B1 | (omega)) ?_
    refine gz_istore_n (pc := 59) dX4_rescale_59 rfl rfl rfl ?_
    first | refine gz_aload_n (pc := 60) dX4_rescale_60 rfl ?_ | refine gz_aload_nN (pc := 60) dX4_rescale_60 rfl ?_
    refine gz_cV0v (pc := 61) dX4_rescale_61 wm_X4_87 my_X4_joinStates rfl rfl rfl (by first | exact gz_B1 | (omega)) (ct_X4_joinStates l D α cA hT) (fun I61 h61 => ?_)
    obtain ⟨j1, j2, j3⟩ := h61
    first | refine gz_aload_n (pc := 64) dX4_rescale_64 rfl ?_ | refine gz_aload_nN (pc := 64) dX4_rescale_64 rfl ?_
    refine gz_iload_n (pc := 65) dX4_rescale_65 rfl ?_
    refine gz_cV1v (pc := 66) dX4_rescale_66 wm_X4_90 my_X4_becomeTasks rfl rfl rfl (by first | exact gz_B1 | (omega)) (ct_X4_becomeTasks l D α cA j1 hn) (fun I66 h66 => ?_)
    obtain ⟨b1, b2, b3, b4, b5⟩ := h66
    refine gz_iconst (pc := 69) dX4_rescale_69 ?_
    refine gz_istore (pc := 70) dX4_rescale_70 rfl rfl rfl ?_
    refine gz_w ?_ (lp_X4_rescale2 l D α cA (I1 := I66) (A := (gz_sm (fun t => I (7, t, 0) 2) (I (0, 0, 0) 6).toNat)) (b := I (0, 0, 0) 6) (by omega) hn (fun u a1 a2 => hs u a1 (by omega)) 0 (by omega) I66 (by omega) b1 (fun u a1 a2 => by omega) (fun q _ => rfl) _)
    rintro r I' ⟨x, rfl, hx, h1, h2, h3⟩
    have r0 : I61 (0, 0, 0) = I (0, 0, 0) := j2 _ (gz_ne rfl)
    rw [r0] at b3 b4 b5
    refine ⟨x, rfl, Or.inr (Or.inr ⟨hn, fun u a1 a2 => hs u a1 (by omega), hx, h1, ?_, fun i hi => ?_, ⟨I61 (5, 0, 0), j3, fun t a1 a2 => ?_⟩, fun t a1 a2 i a3 a4 => ?_, fun q q1 q2 q3 q4 => ?_⟩)⟩
    · rw [h3 _ (fun u _ _ => ⟨gz_ne rfl, gz_ne rfl⟩)]; exact b2
    · rw [h3 _ (fun u _ _ => ⟨gz_ne rfl, gz_ne rfl⟩)]; exact b3 i hi
    · have h9 := h2 t a1 a2
      rw [b4 (5, 0, 0) (gz_ne rfl) (fun u _ _ => gz_ne rfl), b4 (8, t, 0) (gz_ne rfl) (fun u _ _ => gz_ne rfl), j2 (8, t, 0) (gz_ne rfl)] at h9
      exact h9
    · rw [h3 _ (fun u _ _ => ⟨gz_ne rfl, gz_ne rfl⟩)]; exact b5 t a1 a2 i a3 a4
    · rw [h3 q q3, b4 q q1 q4, j2 q q2]
  · refine gz_iload_n (pc := 25) dX4_rescale_25 rfl ?_
    refine gz_iload_n (pc := 26) dX4_rescale_26 rfl ?_
    refine gz_iconst (pc := 27) dX4_rescale_27 ?_
    refine gz_iadd (pc := 28) dX4_rescale_28 ?_
    refine gz_iload_n (pc := 29) dX4_rescale_29 rfl ?_
    refine gz_cS3i (pc := 30) dX4_rescale_30 wm_X4_83 my_X4_shareStart rfl rfl (ct_X4_shareStart l D α cA (by omega) (by omega) hn) (fun x30 I30 h30 => ?_)
    obtain ⟨rfl, rfl⟩ := h30
    refine gz_iload_n (pc := 33) dX4_rescale_33 rfl ?_
    refine gz_iload_n (pc := 34) dX4_rescale_34 rfl ?_
    refine gz_iload_n (pc := 35) dX4_rescale_35 rfl ?_
    refine gz_cS3i (pc := 36) dX4_rescale_36 wm_X4_83 my_X4_shareStart rfl rfl (ct_X4_shareStart l D α cA (by omega) (by omega) hn) (fun x36 I36 h36 => ?_)
    obtain ⟨rfl, rfl⟩ := h36
    have s1 := gz_share (a := (gz_sm (fun t => I (7, t, 0) 2) (I (0, 0, 0) 6).toNat)) (by omega) hn.1 (t := t) ⟨h0, by omega⟩
    refine gz_isub (pc := 39) dX4_rescale_39 ?_
    refine gz_sipush (pc := 40) dX4_rescale_40 rfl ?_
    refine gz_icmp_le (pc := 43) (tgt := 49) dX4_rescale_43 (by decide) (by omega) (by omega) (fun h43 => ?_) (fun h43 => ?_)
    · refine gz_iinc (pc := 49) dX4_rescale_49 rfl rfl rfl rfl ?_
      refine gz_goto (pc := 52) (tgt := 20) dX4_rescale_52 (by decide) ?_
      refine ih (t + 1) (by omega) (by omega) (by omega) (fun u a1 a2 => ?_)
      by_cases z : u = t
      · rw [z]; exact h43
      · exact hs u a1 (by omega)
    · refine gz_bipush (pc := 46) dX4_rescale_46 rfl ?_
      refine gz_iret (pc := 48) dX4_rescale_48 rfl ?_
      exact Or.inr (Or.inl ⟨hn, ⟨t, by omega, h43⟩, rfl, rfl⟩)
set_option maxHeartbeats 4000000 in
set_option maxRecDepth 100000 in
theorem ct_X4_rescale (l : Launch) (D : va_G) (α : gz_P → Nat) (cA : Nat → ClassId) {I : gz_M} (hT : gz_T I) {n : Int} (r_n : (-2147483648 ≤ n ∧ n ≤ 2147483647)) : gz_V l D α cA RX4 cX4_rescale (some .int) 6 2 (gz_Qi fun x I' => (¬ (1 ≤ n ∧ n ≤ 4) ∧ x = -2 ∧ I = I' ∨ (1 ≤ n ∧ n ≤ 4) ∧ (∃ t, (0 ≤ t ∧ t < n) ∧ 300 < ((gz_sm (fun t => I (7, t, 0) 2) (I (0, 0, 0) 6).toNat) * (t + 1) / n - (gz_sm (fun t => I (7, t, 0) 2) (I (0, 0, 0) 6).toNat) * t / n)) ∧ x = -3 ∧ I = I' ∨ (1 ≤ n ∧ n ≤ 4) ∧ (∀ t, 0 ≤ t → t < n → ((gz_sm (fun t => I (7, t, 0) 2) (I (0, 0, 0) 6).toNat) * (t + 1) / n - (gz_sm (fun t => I (7, t, 0) 2) (I (0, 0, 0) 6).toNat) * t / n) ≤ 300) ∧ x = I (0, 0, 0) 6 ∧ gz_T I' ∧ I' (0, 0, 0) 6 = n ∧ (∀ i, i ≠ 6 → I' (0, 0, 0) i = I (0, 0, 0) i) ∧ (∃ J : Int → Int, (∀ t, 0 ≤ t → t < I (0, 0, 0) 6 → ∀ i, 0 ≤ i → i < I (7, t, 0) 2 → J (gz_sm (fun t => I (7, t, 0) 2) t.toNat + i) = I (8, t, 0) i) ∧ ∀ t, 0 ≤ t → t < n → I' (7, t, 0) 2 = ((gz_sm (fun t => I (7, t, 0) 2) (I (0, 0, 0) 6).toNat) * (t + 1) / n - (gz_sm (fun t => I (7, t, 0) 2) (I (0, 0, 0) 6).toNat) * t / n) ∧ ∀ i, I' (8, t, 0) i = if 0 ≤ i ∧ i < ((gz_sm (fun t => I (7, t, 0) 2) (I (0, 0, 0) 6).toNat) * (t + 1) / n - (gz_sm (fun t => I (7, t, 0) 2) (I (0, 0, 0) 6).toNat) * t / n) then J ((gz_sm (fun t => I (7, t, 0) 2) (I (0, 0, 0) 6).toNat) * t / n + i) else I (8, t, 0) i) ∧ (∀ t, n ≤ t → t < I (0, 0, 0) 6 → ∀ i, 0 ≤ i → i < 120 → I' (11, t, 0) i = 0) ∧ ∀ q, q ≠ (0, 0, 0) → q ≠ (5, 0, 0) → (∀ t, 0 ≤ t → t < n → q ≠ (7, t, 0) ∧ q ≠ (8, t, 0)) → (∀ t, n ≤ t → t < I (0, 0, 0) 6 → q ≠ (11, t, 0)) → I' q = I q)) I [some (.ref (α (0, 0, 0))), some (gz_i (n)), none, none, none, none] [] 0 := by
  refine gz_iload_n (pc := 0) dX4_rescale_0 rfl ?_
  refine gz_iconst (pc := 1) dX4_rescale_1 ?_
  refine gz_icmp_lt (pc := 2) (tgt := 10) dX4_rescale_2 (by decide) (by omega) (by omega) (fun h2 => ?_) (fun h2 => ?_)
  · refine gz_bipush (pc := 10) dX4_rescale_10 rfl ?_
    refine gz_iret (pc := 12) dX4_rescale_12 rfl ?_
    exact Or.inl ⟨by omega, rfl, rfl⟩
  · refine gz_iload_n (pc := 5) dX4_rescale_5 rfl ?_
    refine gz_iconst (pc := 6) dX4_rescale_6 ?_
    refine gz_icmp_le (pc := 7) (tgt := 13) dX4_rescale_7 (by decide) (by omega) (by omega) (fun h7 => ?_) (fun h7 => ?_)
    · first | refine gz_aload_n (pc := 13) dX4_rescale_13 rfl ?_ | refine gz_aload_nN (pc := 13) dX4_rescale_13 rfl ?_
      refine gz_cV0i (pc := 14) dX4_rescale_14 wm_X4_80 my_X4_totalStateBytes rfl rfl rfl (by first | exact gz_B1 | (omega)) (ct_X4_totalStateBytes l D α cA hT) (fun x14 I14 h14 => ?_)
      obtain ⟨rfl, rfl⟩ := h14
      refine gz_istore_n (pc := 17) dX4_rescale_17 rfl rfl rfl ?_
      refine gz_iconst (pc := 18) dX4_rescale_18 ?_
      refine gz_istore_n (pc := 19) dX4_rescale_19 rfl rfl rfl ?_
      exact lp_X4_rescale l D α cA hT ⟨by omega, by omega⟩ 0 (by omega) (by omega) (fun u a1 a2 => by omega)
    · refine gz_bipush (pc := 10) dX4_rescale_10 rfl ?_
      refine gz_iret (pc := 12) dX4_rescale_12 rfl ?_
      exact Or.inl ⟨by omega, rfl, rfl⟩
