set_option maxHeartbeats 4000000 in
set_option maxRecDepth 100000 in
theorem lp_X5_markO (l : Launch) (D : va_G) (α : gz_P → Nat) (cA : Nat → ClassId) {I0 : gz_M} (hT0 : gz_T I0) {s w : Int} (hs : 0 ≤ s ∧ s < 12) (hsn : I0 (30, 0, 0) s = -1) (hw : w = 0 ∨ w = 1) (hnx : 0 ≤ I0 (20, 0, 0) 10 ∧ I0 (20, 0, 0) 10 ≤ 100000) : ∀ t, t ≤ I0 (20, 0, 0) 0 → ∀ I : gz_M, 0 ≤ t → gz_T I → gz_Mf I0 I s → gz_NI I0 I → (∀ v, 0 ≤ v → v < t → gz_fk (gz_FM I0) (gz_ZM I0) (gz_aM I0) v.toNat ∧ gz_Ml I0 I s v) → gz_aM I = gz_ft (gz_FM I0) (gz_ZM I0) (gz_aM I0) (t).toNat → gz_tot (gz_aM I) ≤ 2400 → ∀ o6 o7 o8 o9 o10 : Option Value, gz_V l D α cA RX5 cX5_mark (some .int) 11 6 (gz_Qi (gz_MkQ I0 w)) I [some (.ref (α (20, 0, 0))), some (gz_i (w)), some (gz_i (s)), some (gz_i (1)), some (gz_i (gz_sm (gz_ZM I0) (t).toNat)), some (gz_i (t)), o6, o7, o8, o9, o10] [] 71 := by
  have e0 := gz_tM0 hT0 0 0
  refine gz_upto _ ?_
  intro t ht ih I h0 hTI hMf hNI hdn hA htot o6 o7 o8 o9 o10
  have r20 : I (20, 0, 0) = I0 (20, 0, 0) := hMf.1 _ (gz_ne rfl) (gz_ne rfl) (gz_ne rfl) (gz_ne rfl) (gz_ne rfl) (gz_ne rfl) (gz_ne rfl)
  have r200 : I (20, 0, 0) 0 = I0 (20, 0, 0) 0 := by rw [r20]
  have r21 : I (21, 0, 0) = I0 (21, 0, 0) := hMf.1 _ (gz_ne rfl) (gz_ne rfl) (gz_ne rfl) (gz_ne rfl) (gz_ne rfl) (gz_ne rfl) (gz_ne rfl)
  have r30 : I (30, 0, 0) = I0 (30, 0, 0) := hMf.1 _ (gz_ne rfl) (gz_ne rfl) (gz_ne rfl) (gz_ne rfl) (gz_ne rfl) (gz_ne rfl) (gz_ne rfl)
  refine gz_iload (pc := 71) dX5_mark_71 rfl ?_
  first | refine gz_aload_n (pc := 73) dX5_mark_73 rfl ?_ | refine gz_aload_nN (pc := 73) dX5_mark_73 rfl ?_
  refine gz_getI (pc := 74) 0 dX5_mark_74 fl_X5_7 rfl rfl rfl rfl (by first | exact gz_B1 | (omega)) ?_
  rw [r200]
  refine gz_icmp_ge (pc := 77) (tgt := 225) dX5_mark_77 (by decide) (by omega) (by omega) (fun h77 => ?_) (fun h77 => ?_)
  · refine gz_iload_n (pc := 225) dX5_mark_225 rfl ?_
    refine gz_if_ne (pc := 226) (tgt := 276) dX5_mark_226 (by decide) (by omega) (fun h226 => ?_) (fun h226 => ?_)
    · first
        | exact absurd h81 (by decide)
        | (have htt : t = I0 (20, 0, 0) 0 := by omega
           rw [htt] at hdn hA ⊢
           have hlf : ∀ v, 0 ≤ v → v < I0 (20, 0, 0) 0 → ∀ j : Nat, j < gz_cc (gz_FM I0 v) (gz_ZM I0 v) → (0 ≤ gz_fp (gz_FM I0 v) (gz_ZM I0 v) (gz_ft (gz_FM I0) (gz_ZM I0) (gz_aM I0) v.toNat) j ∧ gz_fp (gz_FM I0 v) (gz_ZM I0 v) (gz_ft (gz_FM I0) (gz_ZM I0) (gz_aM I0) v.toNat) j < 120) ∧ I (24, 0, 0) (gz_fp (gz_FM I0 v) (gz_ZM I0 v) (gz_ft (gz_FM I0) (gz_ZM I0) (gz_aM I0) v.toNat) j) = gz_ck (gz_FM I0 v) (gz_ZM I0 v) (gz_cs (gz_FM I0 v) (gz_ZM I0 v) j) := fun v b1 b2 j hj => by
             have h9 := (hdn v b1 b2).1
             have hv : ((v.toNat : Nat) : Int) = v := Int.toNat_of_nonneg b1
             have h8 : ¬ gz_fp (gz_FM I0 v) (gz_ZM I0 v) (gz_ft (gz_FM I0) (gz_ZM I0) (gz_aM I0) v.toNat) j = -1 := by
               have h7 := h9 j
               rw [hv] at h7
               exact h7 hj
             have h7 : -1 ≤ gz_fp (gz_FM I0 v) (gz_ZM I0 v) (gz_ft (gz_FM I0) (gz_ZM I0) (gz_aM I0) v.toNat) j ∧ gz_fp (gz_FM I0 v) (gz_ZM I0 v) (gz_ft (gz_FM I0) (gz_ZM I0) (gz_aM I0) v.toNat) j < 120 := gz_s1_in _ _ _
             have h5 : (0 ≤ gz_fp (gz_FM I0 v) (gz_ZM I0 v) (gz_ft (gz_FM I0) (gz_ZM I0) (gz_aM I0) v.toNat) j ∧ gz_fp (gz_FM I0 v) (gz_ZM I0 v) (gz_ft (gz_FM I0) (gz_ZM I0) (gz_aM I0) v.toNat) j < 120) := by omega
             refine ⟨h5, ?_⟩
             rw [← gz_z_M (I := I) h5, hA]
             have h6 := gz_ft_sz (j := j) (n := (I0 (20, 0, 0) 0).toNat) h9 (by rw [hv]; exact hj) (by omega)
             rw [hv] at h6
             exact h6
           have hsz := gz_sm_in (f := gz_ZM I0) (lo := 0) (hi := 300) (fun v => gz_t21 hT0 0 0 v) (I0 (20, 0, 0) 0).toNat
           refine lp_X5_markS0 l D α cA hTI hs hw (by omega) ?_ ?_ (by rw [r20]; exact hnx) (by rw [r30]; exact hsn) ?_
           · rw [r200]
             intro v b1 b2 j c1 c2
             have h9 := (hdn v b1 b2).2
             rw [h9.1] at c2
             have h8 := h9.2 j.toNat (by omega)
             rw [Int.toNat_of_nonneg c1] at h8
             rw [h8]
             exact (hlf v b1 b2 j.toNat (by omega)).1.1
           · rw [r200]
             intro v b1 b2
             have h9 := (hdn v b1 b2).2
             have e1 := gz_t21 hT0 0 0 v
             obtain ⟨cN, hcN⟩ := gz_cn_ex (gz_fm I0 v) e1
             have hcc := gz_cc_eq hcN e1.2
             rw [h9.1, Int.toNat_natCast]
             rw [gz_cs_sm (f := gz_fm I0 v) (s := I0 (21, 0, 0) v) (fun j hj => ?_)]
             · rw [hcc]; unfold gz_cn at hcN; omega
             · show I (24, 0, 0) (I (35, 0, 0) (80 * (4 * s + v) + j)) = _
               rw [h9.2 j hj]
               exact (hlf v b1 b2 j hj).2
           · intro I' u hu hC
             rw [r20]
             exact Or.inr (Or.inr ⟨hw, s, hs, hsn, Or.inr ⟨rfl, I, u, ⟨hTI, hMf, hNI, hdn, hA⟩, hu, hC⟩⟩))
    · first | exact absurd h81 (by decide) | exact absurd h226 (by decide) | exact absurd rfl h226
  · refine gz_iload_n (pc := 80) dX5_mark_80 rfl ?_
    refine gz_if_eq (pc := 81) (tgt := 225) dX5_mark_81 (by decide) (by omega) (fun h81 => ?_) (fun h81 => ?_)
    · refine gz_iload_n (pc := 225) dX5_mark_225 rfl ?_
      refine gz_if_ne (pc := 226) (tgt := 276) dX5_mark_226 (by decide) (by omega) (fun h226 => ?_) (fun h226 => ?_)
      · first
          | exact absurd h81 (by decide)
          | (have htt : t = I0 (20, 0, 0) 0 := by omega
             rw [htt] at hdn hA ⊢
             have hlf : ∀ v, 0 ≤ v → v < I0 (20, 0, 0) 0 → ∀ j : Nat, j < gz_cc (gz_FM I0 v) (gz_ZM I0 v) → (0 ≤ gz_fp (gz_FM I0 v) (gz_ZM I0 v) (gz_ft (gz_FM I0) (gz_ZM I0) (gz_aM I0) v.toNat) j ∧ gz_fp (gz_FM I0 v) (gz_ZM I0 v) (gz_ft (gz_FM I0) (gz_ZM I0) (gz_aM I0) v.toNat) j < 120) ∧ I (24, 0, 0) (gz_fp (gz_FM I0 v) (gz_ZM I0 v) (gz_ft (gz_FM I0) (gz_ZM I0) (gz_aM I0) v.toNat) j) = gz_ck (gz_FM I0 v) (gz_ZM I0 v) (gz_cs (gz_FM I0 v) (gz_ZM I0 v) j) := fun v b1 b2 j hj => by
               have h9 := (hdn v b1 b2).1
               have hv : ((v.toNat : Nat) : Int) = v := Int.toNat_of_nonneg b1
               have h8 : ¬ gz_fp (gz_FM I0 v) (gz_ZM I0 v) (gz_ft (gz_FM I0) (gz_ZM I0) (gz_aM I0) v.toNat) j = -1 := by
                 have h7 := h9 j
                 rw [hv] at h7
                 exact h7 hj
               have h7 : -1 ≤ gz_fp (gz_FM I0 v) (gz_ZM I0 v) (gz_ft (gz_FM I0) (gz_ZM I0) (gz_aM I0) v.toNat) j ∧ gz_fp (gz_FM I0 v) (gz_ZM I0 v) (gz_ft (gz_FM I0) (gz_ZM I0) (gz_aM I0) v.toNat) j < 120 := gz_s1_in _ _ _
               have h5 : (0 ≤ gz_fp (gz_FM I0 v) (gz_ZM I0 v) (gz_ft (gz_FM I0) (gz_ZM I0) (gz_aM I0) v.toNat) j ∧ gz_fp (gz_FM I0 v) (gz_ZM I0 v) (gz_ft (gz_FM I0) (gz_ZM I0) (gz_aM I0) v.toNat) j < 120) := by omega
               refine ⟨h5, ?_⟩
               rw [← gz_z_M (I := I) h5, hA]
               have h6 := gz_ft_sz (j := j) (n := (I0 (20, 0, 0) 0).toNat) h9 (by rw [hv]; exact hj) (by omega)
               rw [hv] at h6
               exact h6
             have hsz := gz_sm_in (f := gz_ZM I0) (lo := 0) (hi := 300) (fun v => gz_t21 hT0 0 0 v) (I0 (20, 0, 0) 0).toNat
             refine lp_X5_markS0 l D α cA hTI hs hw (by omega) ?_ ?_ (by rw [r20]; exact hnx) (by rw [r30]; exact hsn) ?_
             · rw [r200]
               intro v b1 b2 j c1 c2
               have h9 := (hdn v b1 b2).2
               rw [h9.1] at c2
               have h8 := h9.2 j.toNat (by omega)
               rw [Int.toNat_of_nonneg c1] at h8
               rw [h8]
               exact (hlf v b1 b2 j.toNat (by omega)).1.1
             · rw [r200]
               intro v b1 b2
               have h9 := (hdn v b1 b2).2
               have e1 := gz_t21 hT0 0 0 v
               obtain ⟨cN, hcN⟩ := gz_cn_ex (gz_fm I0 v) e1
               have hcc := gz_cc_eq hcN e1.2
               rw [h9.1, Int.toNat_natCast]
               rw [gz_cs_sm (f := gz_fm I0 v) (s := I0 (21, 0, 0) v) (fun j hj => ?_)]
               · rw [hcc]; unfold gz_cn at hcN; omega
               · show I (24, 0, 0) (I (35, 0, 0) (80 * (4 * s + v) + j)) = _
                 rw [h9.2 j hj]
                 exact (hlf v b1 b2 j hj).2
             · intro I' u hu hC
               rw [r20]
               exact Or.inr (Or.inr ⟨hw, s, hs, hsn, Or.inr ⟨rfl, I, u, ⟨hTI, hMf, hNI, hdn, hA⟩, hu, hC⟩⟩))
      · first | exact absurd h81 (by decide) | exact absurd h226 (by decide) | exact absurd rfl h226
    · refine gz_iconst (pc := 84) dX5_mark_84 ?_
      refine gz_istore (pc := 85) dX5_mark_85 rfl rfl rfl ?_
      first | refine gz_aload_n (pc := 87) dX5_mark_87 rfl ?_ | refine gz_aload_nN (pc := 87) dX5_mark_87 rfl ?_
      refine gz_getr (pc := 88) dX5_mark_88 fl_X5_54 rfl rfl rfl (by first | exact gz_B1 | (omega)) ?_
      refine gz_iconst (pc := 91) dX5_mark_91 ?_
      refine gz_iload_n (pc := 92) dX5_mark_92 rfl ?_
      refine gz_imul (pc := 93) dX5_mark_93 ?_
      refine gz_iload (pc := 94) dX5_mark_94 rfl ?_
      refine gz_iadd (pc := 96) dX5_mark_96 ?_
      refine gz_iconst (pc := 97) dX5_mark_97 ?_
      refine gz_iast (pc := 98) dX5_mark_98 rfl rfl (by first | exact gz_B1 | (omega)) (by omega) ?_
      rw [← Int.add_zero (gz_sm (gz_ZM I0) t.toNat)]
      refine lp_X5_markI l D α cA hT0 hs hsn hw t (by omega) (fun I9 a1 a2 a3 a4 a5 a6 => ih (t + 1) (by omega) (by omega) I9 (by omega) a1 a2 a3 a4 a5 a6) 0 (by have := gz_t21 hT0 0 0 t; omega) _ 0 rfl (gz_Tu34 hTI (by decide)) ⟨fun q q1 q2 q3 q4 q5 q6 q7 => by rw [gz_up_ne q6]; exact hMf.1 q q1 q2 q3 q4 q5 q6 q7, fun j hj => by rw [gz_up_eq, if_neg (by omega)]; exact hMf.2.1 j hj, fun j hj => by rw [gz_up_r (by decide)]; exact hMf.2.2 j hj⟩ ?_ (fun v b1 b2 => ⟨(hdn v b1 b2).1, ?_⟩) ?_ ?_ gz_up_s (fun j hj => absurd hj (Nat.not_lt_zero j)) _ _ _ _
      · intro p b1 b2
        simp (decide := true) only [gz_up_r]
        exact hNI p b1 b2
      · have h9 := (hdn v b1 b2).2
        refine ⟨?_, fun j hjl => ?_⟩
        · rw [gz_up_eq, if_neg (by omega)]; exact h9.1
        · rw [gz_up_r (by decide)]; exact h9.2 j hjl
      · have ha2 : gz_aM (gz_up I (34, 0, 0) (4 * s + t) 0) = gz_aM I := by
          unfold gz_aM
          simp (decide := true) only [gz_up_r]
        exact ha2.trans hA
      · have ha2 : gz_aM (gz_up I (34, 0, 0) (4 * s + t) 0) = gz_aM I := by
          unfold gz_aM
          simp (decide := true) only [gz_up_r]
        show gz_tot (gz_aM (gz_up I (34, 0, 0) (4 * s + t) 0)) ≤ 2400
        rw [ha2]; exact htot
set_option maxHeartbeats 4000000 in
set_option maxRecDepth 100000 in
theorem lp_X5_markN (l : Launch) (D : va_G) (α : gz_P → Nat) (cA : Nat → ClassId) {I0 : gz_M} (hT0 : gz_T I0) {s w : Int} (hs : 0 ≤ s ∧ s < 12) (hsn : I0 (30, 0, 0) s = -1) (hw : w = 0 ∨ w = 1) (hnx : 0 ≤ I0 (20, 0, 0) 10 ∧ I0 (20, 0, 0) 10 ≤ 100000) (htot : gz_tot (gz_aM I0) ≤ 2400) : ∀ k, k ≤ 120 → ∀ I : gz_M, 0 ≤ k → gz_T I → (∀ p, 0 ≤ p → p < k → I (39, 0, 0) p = 0) → (∀ q : gz_P, q ≠ (39, 0, 0) → I q = I0 q) → ∀ o4 o5 o6 o7 o8 o9 o10 : Option Value, gz_V l D α cA RX5 cX5_mark (some .int) 11 6 (gz_Qi (gz_MkQ I0 w)) I [some (.ref (α (20, 0, 0))), some (gz_i (w)), some (gz_i (s)), some (gz_i (k)), o4, o5, o6, o7, o8, o9, o10] [] 44 := by
  refine gz_upto _ ?_
  intro k hk ih I h0 hTI hj hI o4 o5 o6 o7 o8 o9 o10
  refine gz_iload_n (pc := 44) dX5_mark_44 rfl ?_
  refine gz_bipush (pc := 45) dX5_mark_45 rfl ?_
  refine gz_icmp_ge (pc := 47) (tgt := 63) dX5_mark_47 (by decide) (by omega) (by omega) (fun h47 => ?_) (fun h47 => ?_)
  · refine gz_iconst (pc := 63) dX5_mark_63 ?_
    refine gz_istore_n (pc := 64) dX5_mark_64 rfl rfl rfl ?_
    refine gz_iconst (pc := 65) dX5_mark_65 ?_
    refine gz_istore (pc := 66) dX5_mark_66 rfl rfl rfl ?_
    refine gz_iconst (pc := 68) dX5_mark_68 ?_
    refine gz_istore (pc := 69) dX5_mark_69 rfl rfl rfl ?_
    have ha2 : gz_aM I = gz_aM I0 := by
      unfold gz_aM
      rw [hI _ (gz_ne rfl), hI _ (gz_ne rfl), hI _ (gz_ne rfl), hI _ (gz_ne rfl)]
    refine lp_X5_markO l D α cA hT0 hs hsn hw hnx 0 (by have := gz_tM0 hT0 0 0; omega) I (by omega) hTI ⟨fun q _ _ _ _ q5 _ _ => hI q q5, fun j _ => by rw [hI _ (gz_ne rfl)], fun j _ => by rw [hI _ (gz_ne rfl)]⟩ (fun p b1 b2 => ?_) (fun v b1 b2 => by omega) ha2 (by rw [ha2]; exact htot) _ _ _ _ _
    rw [hI (24, 0, 0) (gz_ne rfl), hI (25, 0, 0) (gz_ne rfl), hI (26, 0, 0) (gz_ne rfl), hI (27, 0, 0) (gz_ne rfl)]
    exact Or.inr ⟨hj p b1 (by omega), rfl, rfl, rfl, fun _ _ _ => rfl⟩
  · first | refine gz_aload_n (pc := 50) dX5_mark_50 rfl ?_ | refine gz_aload_nN (pc := 50) dX5_mark_50 rfl ?_
    refine gz_getr (pc := 51) dX5_mark_51 fl_X5_69 rfl rfl rfl (by first | exact gz_B1 | (omega)) ?_
    refine gz_iload_n (pc := 54) dX5_mark_54 rfl ?_
    refine gz_iconst (pc := 55) dX5_mark_55 ?_
    refine gz_zast (pc := 56) dX5_mark_56 rfl rfl (by first | exact gz_B1 | (omega)) (by omega) (by omega) ?_
    refine gz_iinc (pc := 57) dX5_mark_57 rfl rfl rfl rfl ?_
    refine gz_goto (pc := 60) (tgt := 44) dX5_mark_60 (by decide) ?_
    refine ih (k + 1) (by omega) (by omega) _ (by omega) (gz_Tu39 hTI (by decide)) (fun p b1 b2 => ?_) (fun q hq => by rw [gz_up_ne hq]; exact hI q hq) _ _ _ _ _ _ _
    rw [gz_up_eq]
    by_cases z : p = k
    · rw [if_pos z]
    · rw [if_neg z]; exact hj p b1 (by omega)
set_option maxHeartbeats 4000000 in
set_option maxRecDepth 100000 in
theorem lp_X5_markD (l : Launch) (D : va_G) (α : gz_P → Nat) (cA : Nat → ClassId) {I0 : gz_M} (hT0 : gz_T I0) {w : Int} (hnx : 0 ≤ I0 (20, 0, 0) 10 ∧ I0 (20, 0, 0) 10 ≤ 100000) (htot : gz_tot (gz_aM I0) ≤ 2400) : (w = 0 ∨ w = 1) → ¬ gz_sm (fun s => gz_b (¬ I0 (30, 0, 0) s = -1)) 12 = 12 → ∀ k, k ≤ 12 → 0 ≤ k → (∀ j, 0 ≤ j → j < k → ¬ I0 (30, 0, 0) j = -1) → ∀ o3 o4 o5 o6 o7 o8 o9 o10 : Option Value, gz_V l D α cA RX5 cX5_mark (some .int) 11 6 (gz_Qi (gz_MkQ I0 w)) I0 [some (.ref (α (20, 0, 0))), some (gz_i (w)), some (gz_i (k)), o3, o4, o5, o6, o7, o8, o9, o10] [] 26 := by
  intro hw hns
  refine gz_upto _ ?_
  intro k hk ih h0 hj o3 o4 o5 o6 o7 o8 o9 o10
  have e30 := gz_t30 hT0 0 0 k
  have hk12 : k < 12 := by
    by_cases z : k = 12
    · exfalso
      apply hns
      have h9 : gz_sm (fun s => gz_b (¬ I0 (30, 0, 0) s = -1)) 12 = gz_sm (fun _ => 1) 12 := gz_sm_cong (fun i b1 b2 => gz_b1 (hj i b1 (by omega)))
      rw [h9]
      rfl
    · omega
  first | refine gz_aload_n (pc := 26) dX5_mark_26 rfl ?_ | refine gz_aload_nN (pc := 26) dX5_mark_26 rfl ?_
  refine gz_getr (pc := 27) dX5_mark_27 fl_X5_42 rfl rfl rfl (by first | exact gz_B1 | (omega)) ?_
  refine gz_iload_n (pc := 30) dX5_mark_30 rfl ?_
  refine gz_iald (pc := 31) dX5_mark_31 rfl rfl (by first | exact gz_B1 | (omega)) (by omega) ?_
  refine gz_iconst (pc := 32) dX5_mark_32 ?_
  refine gz_icmp_eq (pc := 33) (tgt := 42) dX5_mark_33 (by decide) (by omega) (by omega) (fun h33 => ?_) (fun h33 => ?_)
  · refine gz_iconst (pc := 42) dX5_mark_42 ?_
    refine gz_istore_n (pc := 43) dX5_mark_43 rfl rfl rfl ?_
    exact lp_X5_markN l D α cA hT0 (by omega) h33 hw hnx htot 0 (by omega) I0 (by omega) hT0 (fun p b1 b2 => by omega) (fun q _ => rfl) _ _ _ _ _ _ _
  · refine gz_iinc (pc := 36) dX5_mark_36 rfl rfl rfl rfl ?_
    refine gz_goto (pc := 39) (tgt := 26) dX5_mark_39 (by decide) ?_
    exact ih (k + 1) (by omega) (by omega) (by omega) (fun j b1 b2 => by
      by_cases z : j = k
      · rw [z]; exact h33
      · exact hj j b1 (by omega)) _ _ _ _ _ _ _ _
set_option maxHeartbeats 4000000 in
set_option maxRecDepth 100000 in
theorem ct_X5_mark (l : Launch) (D : va_G) (α : gz_P → Nat) (cA : Nat → ClassId) {I0 : gz_M} (hT0 : gz_T I0) {w : Int} (hnx : 0 ≤ I0 (20, 0, 0) 10 ∧ I0 (20, 0, 0) 10 ≤ 100000) (htot : gz_tot (gz_aM I0) ≤ 2400) (r_w : (-2147483648 ≤ w ∧ w ≤ 2147483647)) : gz_V l D α cA RX5 cX5_mark (some .int) 11 6 (gz_Qi (gz_MkQ I0 w)) I0 [some (.ref (α (20, 0, 0))), some (gz_i (w)), none, none, none, none, none, none, none, none, none] [] 0 := by
  refine gz_iload_n (pc := 0) dX5_mark_0 rfl ?_
  refine gz_iconst (pc := 1) dX5_mark_1 ?_
  refine gz_iconst (pc := 2) dX5_mark_2 ?_
  refine gz_cS3i (pc := 3) dX5_mark_3 wm_X5_72 my_X5_in rfl rfl (ct_X5_in l D α cA r_w (by omega) (by omega)) (fun x3 I3 h3 => ?_)
  obtain ⟨rfl, hx3⟩ := h3
  have hxr3 : 0 ≤ x3 ∧ x3 ≤ 1 := by rcases hx3 with h | h <;> omega
  refine gz_if_ne (pc := 6) (tgt := 12) dX5_mark_6 (by decide) (by omega) (fun h6 => ?_) (fun h6 => ?_)
  · first | refine gz_aload_n (pc := 12) dX5_mark_12 rfl ?_ | refine gz_aload_nN (pc := 12) dX5_mark_12 rfl ?_
    refine gz_cV0i (pc := 13) dX5_mark_13 wm_X5_118 my_X5_held rfl rfl rfl (by first | exact gz_B1 | (omega)) (ct_X5_held l D α cA hT0) (fun x13 I13 h13 => ?_)
    obtain ⟨rfl, rfl⟩ := h13
    have hhr := gz_sm_in (f := fun s => gz_b (¬ I0 (30, 0, 0) s = -1)) (lo := 0) (hi := 1) (fun s => gz_b_in _) 12
    refine gz_bipush (pc := 16) dX5_mark_16 rfl ?_
    refine gz_icmp_ne (pc := 18) (tgt := 24) dX5_mark_18 (by decide) (by omega) (by omega) (fun h18 => ?_) (fun h18 => ?_)
    · refine gz_iconst (pc := 24) dX5_mark_24 ?_
      refine gz_istore_n (pc := 25) dX5_mark_25 rfl rfl rfl ?_
      exact lp_X5_markD l D α cA hT0 hnx htot (by omega) h18 0 (by omega) (by omega) (fun j b1 b2 => by omega) _ _ _ _ _ _ _ _
    · refine gz_bipush (pc := 21) dX5_mark_21 rfl ?_
      refine gz_iret (pc := 23) dX5_mark_23 rfl ?_
      exact Or.inr (Or.inl ⟨by omega, h18, rfl, rfl⟩)
  · refine gz_bipush (pc := 9) dX5_mark_9 rfl ?_
    refine gz_iret (pc := 11) dX5_mark_11 rfl ?_
    exact Or.inl ⟨by omega, rfl, rfl⟩
