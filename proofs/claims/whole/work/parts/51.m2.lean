def gz_snM (I : gz_M) (p : Int) : Prop := I (26, 0, 0) p = 0 ∧ gz_dg (fun i => I (27, 0, 0) (32 * p + i)) (I (24, 0, 0) p).toNat = I (25, 0, 0) p
def gz_scM (I : gz_M) (t p : Int) : Prop := I (28, 0, 0) (120 * t + p) = 1 ∧ gz_dg (fun i => I (29, 0, 0) (32 * (120 * t + p) + i)) (I (24, 0, 0) p).toNat = I (25, 0, 0) p
def gz_rdM (I : gz_M) (t p : Int) : Prop := (0 ≤ p ∧ p < 120 ∧ 0 < I (24, 0, 0) p) ∧ (gz_scM I t p ∨ gz_snM I p)
def gz_hpM (I : gz_M) (m p : Int) : Prop := ∃ t j, (0 ≤ t ∧ t < I (33, 0, 0) m) ∧ (0 ≤ j ∧ j < I (34, 0, 0) (4 * m + t)) ∧ I (35, 0, 0) (80 * (4 * m + t) + j) = p
def gz_usM (I : gz_M) (m : Int) : Prop := ∀ t, 0 ≤ t → t < I (33, 0, 0) m → ∀ j, 0 ≤ j → j < I (34, 0, 0) (4 * m + t) → gz_rdM I t (I (35, 0, 0) (80 * (4 * m + t) + j))
set_option maxHeartbeats 4000000 in
set_option maxRecDepth 100000 in
theorem lp_X5_chunkFrom (l : Launch) (D : va_G) (α : gz_P → Nat) (cA : Nat → ClassId) {I : gz_M} (hT : gz_T I) {t a : Int} (ht : 0 ≤ t ∧ t < 4) (ha : 0 ≤ a ∧ a < (I (21, 0, 0) t)) : ∀ k, k ≤ 32 → 0 ≤ k → k < 32 → a + k < (I (21, 0, 0) t) → (∀ j, 1 ≤ j → j ≤ k → ¬ gz_stop (gz_fm I t) (I (21, 0, 0) t) a j) → ∀ o1 o2 : Option Value, gz_V l D α cA RX5 cX5_chunkFrom (some .int) 7 0 (gz_Qi fun x I' => I = I' ∧ x = gz_ck (gz_fm I t) (I (21, 0, 0) t) a) I [some (.ref (α (20, 0, 0))), some (gz_i (t)), some (gz_i (a)), some (gz_i (k)), some (gz_i (1)), o1, o2] [] 10 := by
  have e21 := gz_t21 hT 0 0 t
  refine gz_upto _ ?_
  intro k hk ih h0 h32 hs hj o1 o2
  have v2 : I (22, 0, 0) (300 * t + a + (k + 1) - 1 - 2) = gz_fm I t (a + (k + 1) - 3) := by unfold gz_fm; rw [show 300 * t + a + (k + 1) - 1 - 2 = 300 * t + (a + (k + 1) - 3) by omega]
  have v1 : I (22, 0, 0) (300 * t + a + (k + 1) - 1 - 1) = gz_fm I t (a + (k + 1) - 2) := by unfold gz_fm; rw [show 300 * t + a + (k + 1) - 1 - 1 = 300 * t + (a + (k + 1) - 2) by omega]
  have v0 : I (22, 0, 0) (300 * t + a + (k + 1) - 1) = gz_fm I t (a + (k + 1) - 1) := by unfold gz_fm; rw [show 300 * t + a + (k + 1) - 1 = 300 * t + (a + (k + 1) - 1) by omega]
  have b2 := gz_t22 hT 0 0 (300 * t + a + (k + 1) - 1 - 2)
  have b1 := gz_t22 hT 0 0 (300 * t + a + (k + 1) - 1 - 1)
  have b0 := gz_t22 hT 0 0 (300 * t + a + (k + 1) - 1)
  refine gz_iinc (pc := 10) dX5_chunkFrom_10 rfl rfl rfl rfl ?_
  refine gz_sipush (pc := 13) dX5_chunkFrom_13 rfl ?_
  refine gz_iload_n (pc := 16) dX5_chunkFrom_16 rfl ?_
  refine gz_imul (pc := 17) dX5_chunkFrom_17 ?_
  refine gz_iload_n (pc := 18) dX5_chunkFrom_18 rfl ?_
  refine gz_iadd (pc := 19) dX5_chunkFrom_19 ?_
  refine gz_iload_n (pc := 20) dX5_chunkFrom_20 rfl ?_
  refine gz_iadd (pc := 21) dX5_chunkFrom_21 ?_
  refine gz_iconst (pc := 22) dX5_chunkFrom_22 ?_
  refine gz_isub (pc := 23) dX5_chunkFrom_23 ?_
  refine gz_istore (pc := 24) dX5_chunkFrom_24 rfl rfl rfl ?_
  refine gz_iload_n (pc := 26) dX5_chunkFrom_26 rfl ?_
  refine gz_iconst (pc := 27) dX5_chunkFrom_27 ?_
  refine gz_icmp_lt (pc := 28) (tgt := 75) dX5_chunkFrom_28 (by decide) (by omega) (by omega) (fun h28 => ?_) (fun h28 => ?_)
  · refine gz_iconst (pc := 75) dX5_chunkFrom_75 ?_
    refine gz_istore (pc := 76) dX5_chunkFrom_76 rfl rfl rfl ?_
    refine gz_iload_n (pc := 78) dX5_chunkFrom_78 rfl ?_
    refine gz_bipush (pc := 79) dX5_chunkFrom_79 rfl ?_
    refine gz_icmp_ge (pc := 81) (tgt := 105) dX5_chunkFrom_81 (by decide) (by omega) (by omega) (fun h81 => ?_) (fun h81 => ?_)
    · refine gz_iconst (pc := 105) dX5_chunkFrom_105 ?_
      refine gz_istore (pc := 106) dX5_chunkFrom_106 rfl rfl rfl ?_
      refine gz_goto (pc := 108) (tgt := 5) dX5_chunkFrom_108 (by decide) ?_
      refine gz_iload (pc := 5) dX5_chunkFrom_5 rfl ?_
      refine gz_if_eq (pc := 7) (tgt := 111) dX5_chunkFrom_7 (by decide) (by omega) (fun h7 => ?_) (fun h7 => ?_)
      · refine gz_iload_n (pc := 111) dX5_chunkFrom_111 rfl ?_
        refine gz_iret (pc := 112) dX5_chunkFrom_112 rfl ?_
        first
          | exact absurd h7 (by decide)
          | exact ⟨rfl, (gz_ck_eq (by omega) (by unfold gz_stop; omega) (fun j a1 a2 => hj j a1 (by omega))).symm⟩
      · first
          | exact absurd rfl h7
          | exact ih (k + 1) (by omega) (by omega) (by omega) (by omega) (by omega) (fun j a1 a2 => by
              by_cases z : j = k + 1
              · rw [z]; unfold gz_stop; omega
              · exact hj j a1 (by omega)) _ _
    · refine gz_iload (pc := 84) dX5_chunkFrom_84 rfl ?_
      refine gz_if_ne (pc := 86) (tgt := 105) dX5_chunkFrom_86 (by decide) (by omega) (fun h86 => ?_) (fun h86 => ?_)
      · refine gz_iconst (pc := 105) dX5_chunkFrom_105 ?_
        refine gz_istore (pc := 106) dX5_chunkFrom_106 rfl rfl rfl ?_
        refine gz_goto (pc := 108) (tgt := 5) dX5_chunkFrom_108 (by decide) ?_
        refine gz_iload (pc := 5) dX5_chunkFrom_5 rfl ?_
        refine gz_if_eq (pc := 7) (tgt := 111) dX5_chunkFrom_7 (by decide) (by omega) (fun h7 => ?_) (fun h7 => ?_)
        · refine gz_iload_n (pc := 111) dX5_chunkFrom_111 rfl ?_
          refine gz_iret (pc := 112) dX5_chunkFrom_112 rfl ?_
          first
            | exact absurd h7 (by decide)
            | exact ⟨rfl, (gz_ck_eq (by omega) (by unfold gz_stop; omega) (fun j a1 a2 => hj j a1 (by omega))).symm⟩
        · first
            | exact absurd rfl h7
            | exact ih (k + 1) (by omega) (by omega) (by omega) (by omega) (by omega) (fun j a1 a2 => by
                by_cases z : j = k + 1
                · rw [z]; unfold gz_stop; omega
                · exact hj j a1 (by omega)) _ _
      · refine gz_iload_n (pc := 89) dX5_chunkFrom_89 rfl ?_
        refine gz_iload_n (pc := 90) dX5_chunkFrom_90 rfl ?_
        refine gz_iadd (pc := 91) dX5_chunkFrom_91 ?_
        first | refine gz_aload_n (pc := 92) dX5_chunkFrom_92 rfl ?_ | refine gz_aload_nN (pc := 92) dX5_chunkFrom_92 rfl ?_
        refine gz_getr (pc := 93) dX5_chunkFrom_93 fl_X5_13 rfl rfl rfl (by first | exact gz_B1 | (omega)) ?_
        refine gz_iload_n (pc := 96) dX5_chunkFrom_96 rfl ?_
        refine gz_iald (pc := 97) dX5_chunkFrom_97 rfl rfl (by first | exact gz_B1 | (omega)) (by omega) ?_
        refine gz_icmp_ge (pc := 98) (tgt := 105) dX5_chunkFrom_98 (by decide) (by omega) (by omega) (fun h98 => ?_) (fun h98 => ?_)
        · refine gz_iconst (pc := 105) dX5_chunkFrom_105 ?_
          refine gz_istore (pc := 106) dX5_chunkFrom_106 rfl rfl rfl ?_
          refine gz_goto (pc := 108) (tgt := 5) dX5_chunkFrom_108 (by decide) ?_
          refine gz_iload (pc := 5) dX5_chunkFrom_5 rfl ?_
          refine gz_if_eq (pc := 7) (tgt := 111) dX5_chunkFrom_7 (by decide) (by omega) (fun h7 => ?_) (fun h7 => ?_)
          · refine gz_iload_n (pc := 111) dX5_chunkFrom_111 rfl ?_
            refine gz_iret (pc := 112) dX5_chunkFrom_112 rfl ?_
            first
              | exact absurd h7 (by decide)
              | exact ⟨rfl, (gz_ck_eq (by omega) (by unfold gz_stop; omega) (fun j a1 a2 => hj j a1 (by omega))).symm⟩
          · first
              | exact absurd rfl h7
              | exact ih (k + 1) (by omega) (by omega) (by omega) (by omega) (by omega) (fun j a1 a2 => by
                  by_cases z : j = k + 1
                  · rw [z]; unfold gz_stop; omega
                  · exact hj j a1 (by omega)) _ _
        · refine gz_iconst (pc := 101) dX5_chunkFrom_101 ?_
          refine gz_goto (pc := 102) (tgt := 106) dX5_chunkFrom_102 (by decide) ?_
          refine gz_istore (pc := 106) dX5_chunkFrom_106 rfl rfl rfl ?_
          refine gz_goto (pc := 108) (tgt := 5) dX5_chunkFrom_108 (by decide) ?_
          refine gz_iload (pc := 5) dX5_chunkFrom_5 rfl ?_
          refine gz_if_eq (pc := 7) (tgt := 111) dX5_chunkFrom_7 (by decide) (by omega) (fun h7 => ?_) (fun h7 => ?_)
          · refine gz_iload_n (pc := 111) dX5_chunkFrom_111 rfl ?_
            refine gz_iret (pc := 112) dX5_chunkFrom_112 rfl ?_
            first
              | exact absurd h7 (by decide)
              | exact ⟨rfl, (gz_ck_eq (by omega) (by unfold gz_stop; omega) (fun j a1 a2 => hj j a1 (by omega))).symm⟩
          · first
              | exact absurd rfl h7
              | exact ih (k + 1) (by omega) (by omega) (by omega) (by omega) (by omega) (fun j a1 a2 => by
                  by_cases z : j = k + 1
                  · rw [z]; unfold gz_stop; omega
                  · exact hj j a1 (by omega)) _ _
  · refine gz_iconst (pc := 31) dX5_chunkFrom_31 ?_
    first | refine gz_aload_n (pc := 32) dX5_chunkFrom_32 rfl ?_ | refine gz_aload_nN (pc := 32) dX5_chunkFrom_32 rfl ?_
    refine gz_getr (pc := 33) dX5_chunkFrom_33 fl_X5_17 rfl rfl rfl (by first | exact gz_B1 | (omega)) ?_
    refine gz_iload (pc := 36) dX5_chunkFrom_36 rfl ?_
    refine gz_iconst (pc := 38) dX5_chunkFrom_38 ?_
    refine gz_isub (pc := 39) dX5_chunkFrom_39 ?_
    refine gz_iald (pc := 40) dX5_chunkFrom_40 rfl rfl (by first | exact gz_B1 | (omega)) (by omega) ?_
    refine gz_imul (pc := 41) dX5_chunkFrom_41 ?_
    refine gz_iconst (pc := 42) dX5_chunkFrom_42 ?_
    first | refine gz_aload_n (pc := 43) dX5_chunkFrom_43 rfl ?_ | refine gz_aload_nN (pc := 43) dX5_chunkFrom_43 rfl ?_
    refine gz_getr (pc := 44) dX5_chunkFrom_44 fl_X5_17 rfl rfl rfl (by first | exact gz_B1 | (omega)) ?_
    refine gz_iload (pc := 47) dX5_chunkFrom_47 rfl ?_
    refine gz_iconst (pc := 49) dX5_chunkFrom_49 ?_
    refine gz_isub (pc := 50) dX5_chunkFrom_50 ?_
    refine gz_iald (pc := 51) dX5_chunkFrom_51 rfl rfl (by first | exact gz_B1 | (omega)) (by omega) ?_
    refine gz_imul (pc := 52) dX5_chunkFrom_52 ?_
    refine gz_iadd (pc := 53) dX5_chunkFrom_53 ?_
    refine gz_bipush (pc := 54) dX5_chunkFrom_54 rfl ?_
    first | refine gz_aload_n (pc := 56) dX5_chunkFrom_56 rfl ?_ | refine gz_aload_nN (pc := 56) dX5_chunkFrom_56 rfl ?_
    refine gz_getr (pc := 57) dX5_chunkFrom_57 fl_X5_17 rfl rfl rfl (by first | exact gz_B1 | (omega)) ?_
    refine gz_iload (pc := 60) dX5_chunkFrom_60 rfl ?_
    refine gz_iald (pc := 62) dX5_chunkFrom_62 rfl rfl (by first | exact gz_B1 | (omega)) (by omega) ?_
    refine gz_imul (pc := 63) dX5_chunkFrom_63 ?_
    refine gz_iadd (pc := 64) dX5_chunkFrom_64 ?_
    refine gz_bipush (pc := 65) dX5_chunkFrom_65 rfl ?_
    refine gz_irem (pc := 67) dX5_chunkFrom_67 (by omega) (by omega) ?_
    refine gz_if_ne (pc := 68) (tgt := 75) dX5_chunkFrom_68 (by decide) (by omega) (fun h68 => ?_) (fun h68 => ?_)
    · refine gz_iconst (pc := 75) dX5_chunkFrom_75 ?_
      refine gz_istore (pc := 76) dX5_chunkFrom_76 rfl rfl rfl ?_
      refine gz_iload_n (pc := 78) dX5_chunkFrom_78 rfl ?_
      refine gz_bipush (pc := 79) dX5_chunkFrom_79 rfl ?_
      refine gz_icmp_ge (pc := 81) (tgt := 105) dX5_chunkFrom_81 (by decide) (by omega) (by omega) (fun h81 => ?_) (fun h81 => ?_)
      · refine gz_iconst (pc := 105) dX5_chunkFrom_105 ?_
        refine gz_istore (pc := 106) dX5_chunkFrom_106 rfl rfl rfl ?_
        refine gz_goto (pc := 108) (tgt := 5) dX5_chunkFrom_108 (by decide) ?_
        refine gz_iload (pc := 5) dX5_chunkFrom_5 rfl ?_
        refine gz_if_eq (pc := 7) (tgt := 111) dX5_chunkFrom_7 (by decide) (by omega) (fun h7 => ?_) (fun h7 => ?_)
        · refine gz_iload_n (pc := 111) dX5_chunkFrom_111 rfl ?_
          refine gz_iret (pc := 112) dX5_chunkFrom_112 rfl ?_
          first
            | exact absurd h7 (by decide)
            | exact ⟨rfl, (gz_ck_eq (by omega) (by unfold gz_stop; omega) (fun j a1 a2 => hj j a1 (by omega))).symm⟩
        · first
            | exact absurd rfl h7
            | exact ih (k + 1) (by omega) (by omega) (by omega) (by omega) (by omega) (fun j a1 a2 => by
                by_cases z : j = k + 1
                · rw [z]; unfold gz_stop; omega
                · exact hj j a1 (by omega)) _ _
      · refine gz_iload (pc := 84) dX5_chunkFrom_84 rfl ?_
        refine gz_if_ne (pc := 86) (tgt := 105) dX5_chunkFrom_86 (by decide) (by omega) (fun h86 => ?_) (fun h86 => ?_)
        · refine gz_iconst (pc := 105) dX5_chunkFrom_105 ?_
          refine gz_istore (pc := 106) dX5_chunkFrom_106 rfl rfl rfl ?_
          refine gz_goto (pc := 108) (tgt := 5) dX5_chunkFrom_108 (by decide) ?_
          refine gz_iload (pc := 5) dX5_chunkFrom_5 rfl ?_
          refine gz_if_eq (pc := 7) (tgt := 111) dX5_chunkFrom_7 (by decide) (by omega) (fun h7 => ?_) (fun h7 => ?_)
          · refine gz_iload_n (pc := 111) dX5_chunkFrom_111 rfl ?_
            refine gz_iret (pc := 112) dX5_chunkFrom_112 rfl ?_
            first
              | exact absurd h7 (by decide)
              | exact ⟨rfl, (gz_ck_eq (by omega) (by unfold gz_stop; omega) (fun j a1 a2 => hj j a1 (by omega))).symm⟩
          · first
              | exact absurd rfl h7
              | exact ih (k + 1) (by omega) (by omega) (by omega) (by omega) (by omega) (fun j a1 a2 => by
                  by_cases z : j = k + 1
                  · rw [z]; unfold gz_stop; omega
                  · exact hj j a1 (by omega)) _ _
        · refine gz_iload_n (pc := 89) dX5_chunkFrom_89 rfl ?_
          refine gz_iload_n (pc := 90) dX5_chunkFrom_90 rfl ?_
          refine gz_iadd (pc := 91) dX5_chunkFrom_91 ?_
          first | refine gz_aload_n (pc := 92) dX5_chunkFrom_92 rfl ?_ | refine gz_aload_nN (pc := 92) dX5_chunkFrom_92 rfl ?_
          refine gz_getr (pc := 93) dX5_chunkFrom_93 fl_X5_13 rfl rfl rfl (by first | exact gz_B1 | (omega)) ?_
          refine gz_iload_n (pc := 96) dX5_chunkFrom_96 rfl ?_
          refine gz_iald (pc := 97) dX5_chunkFrom_97 rfl rfl (by first | exact gz_B1 | (omega)) (by omega) ?_
          refine gz_icmp_ge (pc := 98) (tgt := 105) dX5_chunkFrom_98 (by decide) (by omega) (by omega) (fun h98 => ?_) (fun h98 => ?_)
          · refine gz_iconst (pc := 105) dX5_chunkFrom_105 ?_
            refine gz_istore (pc := 106) dX5_chunkFrom_106 rfl rfl rfl ?_
            refine gz_goto (pc := 108) (tgt := 5) dX5_chunkFrom_108 (by decide) ?_
            refine gz_iload (pc := 5) dX5_chunkFrom_5 rfl ?_
            refine gz_if_eq (pc := 7) (tgt := 111) dX5_chunkFrom_7 (by decide) (by omega) (fun h7 => ?_) (fun h7 => ?_)
            · refine gz_iload_n (pc := 111) dX5_chunkFrom_111 rfl ?_
              refine gz_iret (pc := 112) dX5_chunkFrom_112 rfl ?_
              first
                | exact absurd h7 (by decide)
                | exact ⟨rfl, (gz_ck_eq (by omega) (by unfold gz_stop; omega) (fun j a1 a2 => hj j a1 (by omega))).symm⟩
            · first
                | exact absurd rfl h7
                | exact ih (k + 1) (by omega) (by omega) (by omega) (by omega) (by omega) (fun j a1 a2 => by
                    by_cases z : j = k + 1
                    · rw [z]; unfold gz_stop; omega
                    · exact hj j a1 (by omega)) _ _
          · refine gz_iconst (pc := 101) dX5_chunkFrom_101 ?_
            refine gz_goto (pc := 102) (tgt := 106) dX5_chunkFrom_102 (by decide) ?_
            refine gz_istore (pc := 106) dX5_chunkFrom_106 rfl rfl rfl ?_
            refine gz_goto (pc := 108) (tgt := 5) dX5_chunkFrom_108 (by decide) ?_
            refine gz_iload (pc := 5) dX5_chunkFrom_5 rfl ?_
            refine gz_if_eq (pc := 7) (tgt := 111) dX5_chunkFrom_7 (by decide) (by omega) (fun h7 => ?_) (fun h7 => ?_)
            · refine gz_iload_n (pc := 111) dX5_chunkFrom_111 rfl ?_
              refine gz_iret (pc := 112) dX5_chunkFrom_112 rfl ?_
              first
                | exact absurd h7 (by decide)
                | exact ⟨rfl, (gz_ck_eq (by omega) (by unfold gz_stop; omega) (fun j a1 a2 => hj j a1 (by omega))).symm⟩
            · first
                | exact absurd rfl h7
                | exact ih (k + 1) (by omega) (by omega) (by omega) (by omega) (by omega) (fun j a1 a2 => by
                    by_cases z : j = k + 1
                    · rw [z]; unfold gz_stop; omega
                    · exact hj j a1 (by omega)) _ _
    · refine gz_iconst (pc := 71) dX5_chunkFrom_71 ?_
      refine gz_goto (pc := 72) (tgt := 76) dX5_chunkFrom_72 (by decide) ?_
      refine gz_istore (pc := 76) dX5_chunkFrom_76 rfl rfl rfl ?_
      refine gz_iload_n (pc := 78) dX5_chunkFrom_78 rfl ?_
      refine gz_bipush (pc := 79) dX5_chunkFrom_79 rfl ?_
      refine gz_icmp_ge (pc := 81) (tgt := 105) dX5_chunkFrom_81 (by decide) (by omega) (by omega) (fun h81 => ?_) (fun h81 => ?_)
      · refine gz_iconst (pc := 105) dX5_chunkFrom_105 ?_
        refine gz_istore (pc := 106) dX5_chunkFrom_106 rfl rfl rfl ?_
        refine gz_goto (pc := 108) (tgt := 5) dX5_chunkFrom_108 (by decide) ?_
        refine gz_iload (pc := 5) dX5_chunkFrom_5 rfl ?_
        refine gz_if_eq (pc := 7) (tgt := 111) dX5_chunkFrom_7 (by decide) (by omega) (fun h7 => ?_) (fun h7 => ?_)
        · refine gz_iload_n (pc := 111) dX5_chunkFrom_111 rfl ?_
          refine gz_iret (pc := 112) dX5_chunkFrom_112 rfl ?_
          first
            | exact absurd h7 (by decide)
            | exact ⟨rfl, (gz_ck_eq (by omega) (by unfold gz_stop; omega) (fun j a1 a2 => hj j a1 (by omega))).symm⟩
        · first
            | exact absurd rfl h7
            | exact ih (k + 1) (by omega) (by omega) (by omega) (by omega) (by omega) (fun j a1 a2 => by
                by_cases z : j = k + 1
                · rw [z]; unfold gz_stop; omega
                · exact hj j a1 (by omega)) _ _
      · refine gz_iload (pc := 84) dX5_chunkFrom_84 rfl ?_
        refine gz_if_ne (pc := 86) (tgt := 105) dX5_chunkFrom_86 (by decide) (by omega) (fun h86 => ?_) (fun h86 => ?_)
        · refine gz_iconst (pc := 105) dX5_chunkFrom_105 ?_
          refine gz_istore (pc := 106) dX5_chunkFrom_106 rfl rfl rfl ?_
          refine gz_goto (pc := 108) (tgt := 5) dX5_chunkFrom_108 (by decide) ?_
          refine gz_iload (pc := 5) dX5_chunkFrom_5 rfl ?_
          refine gz_if_eq (pc := 7) (tgt := 111) dX5_chunkFrom_7 (by decide) (by omega) (fun h7 => ?_) (fun h7 => ?_)
          · refine gz_iload_n (pc := 111) dX5_chunkFrom_111 rfl ?_
            refine gz_iret (pc := 112) dX5_chunkFrom_112 rfl ?_
            first
              | exact absurd h7 (by decide)
              | exact ⟨rfl, (gz_ck_eq (by omega) (by unfold gz_stop; omega) (fun j a1 a2 => hj j a1 (by omega))).symm⟩
          · first
              | exact absurd rfl h7
              | exact ih (k + 1) (by omega) (by omega) (by omega) (by omega) (by omega) (fun j a1 a2 => by
                  by_cases z : j = k + 1
                  · rw [z]; unfold gz_stop; omega
                  · exact hj j a1 (by omega)) _ _
        · refine gz_iload_n (pc := 89) dX5_chunkFrom_89 rfl ?_
          refine gz_iload_n (pc := 90) dX5_chunkFrom_90 rfl ?_
          refine gz_iadd (pc := 91) dX5_chunkFrom_91 ?_
          first | refine gz_aload_n (pc := 92) dX5_chunkFrom_92 rfl ?_ | refine gz_aload_nN (pc := 92) dX5_chunkFrom_92 rfl ?_
          refine gz_getr (pc := 93) dX5_chunkFrom_93 fl_X5_13 rfl rfl rfl (by first | exact gz_B1 | (omega)) ?_
          refine gz_iload_n (pc := 96) dX5_chunkFrom_96 rfl ?_
          refine gz_iald (pc := 97) dX5_chunkFrom_97 rfl rfl (by first | exact gz_B1 | (omega)) (by omega) ?_
          refine gz_icmp_ge (pc := 98) (tgt := 105) dX5_chunkFrom_98 (by decide) (by omega) (by omega) (fun h98 => ?_) (fun h98 => ?_)
          · refine gz_iconst (pc := 105) dX5_chunkFrom_105 ?_
            refine gz_istore (pc := 106) dX5_chunkFrom_106 rfl rfl rfl ?_
            refine gz_goto (pc := 108) (tgt := 5) dX5_chunkFrom_108 (by decide) ?_
            refine gz_iload (pc := 5) dX5_chunkFrom_5 rfl ?_
            refine gz_if_eq (pc := 7) (tgt := 111) dX5_chunkFrom_7 (by decide) (by omega) (fun h7 => ?_) (fun h7 => ?_)
            · refine gz_iload_n (pc := 111) dX5_chunkFrom_111 rfl ?_
              refine gz_iret (pc := 112) dX5_chunkFrom_112 rfl ?_
              first
                | exact absurd h7 (by decide)
                | exact ⟨rfl, (gz_ck_eq (by omega) (by unfold gz_stop; omega) (fun j a1 a2 => hj j a1 (by omega))).symm⟩
            · first
                | exact absurd rfl h7
                | exact ih (k + 1) (by omega) (by omega) (by omega) (by omega) (by omega) (fun j a1 a2 => by
                    by_cases z : j = k + 1
                    · rw [z]; unfold gz_stop; omega
                    · exact hj j a1 (by omega)) _ _
          · refine gz_iconst (pc := 101) dX5_chunkFrom_101 ?_
            refine gz_goto (pc := 102) (tgt := 106) dX5_chunkFrom_102 (by decide) ?_
            refine gz_istore (pc := 106) dX5_chunkFrom_106 rfl rfl rfl ?_
            refine gz_goto (pc := 108) (tgt := 5) dX5_chunkFrom_108 (by decide) ?_
            refine gz_iload (pc := 5) dX5_chunkFrom_5 rfl ?_
            refine gz_if_eq (pc := 7) (tgt := 111) dX5_chunkFrom_7 (by decide) (by omega) (fun h7 => ?_) (fun h7 => ?_)
            · refine gz_iload_n (pc := 111) dX5_chunkFrom_111 rfl ?_
              refine gz_iret (pc := 112) dX5_chunkFrom_112 rfl ?_
              first
                | exact absurd h7 (by decide)
                | exact ⟨rfl, (gz_ck_eq (by omega) (by unfold gz_stop; omega) (fun j a1 a2 => hj j a1 (by omega))).symm⟩
            · first
                | exact absurd rfl h7
                | exact ih (k + 1) (by omega) (by omega) (by omega) (by omega) (by omega) (fun j a1 a2 => by
                    by_cases z : j = k + 1
                    · rw [z]; unfold gz_stop; omega
                    · exact hj j a1 (by omega)) _ _
set_option maxHeartbeats 4000000 in
set_option maxRecDepth 100000 in
theorem ct_X5_chunkFrom (l : Launch) (D : va_G) (α : gz_P → Nat) (cA : Nat → ClassId) {I : gz_M} (hT : gz_T I) {t a : Int} (ht : 0 ≤ t ∧ t < 4) (ha : 0 ≤ a ∧ a < (I (21, 0, 0) t)) : gz_V l D α cA RX5 cX5_chunkFrom (some .int) 7 0 (gz_Qi fun x I' => I = I' ∧ x = gz_ck (gz_fm I t) (I (21, 0, 0) t) a) I [some (.ref (α (20, 0, 0))), some (gz_i (t)), some (gz_i (a)), none, none, none, none] [] 0 := by
  refine gz_iconst (pc := 0) dX5_chunkFrom_0 ?_
  refine gz_istore_n (pc := 1) dX5_chunkFrom_1 rfl rfl rfl ?_
  refine gz_iconst (pc := 2) dX5_chunkFrom_2 ?_
  refine gz_istore (pc := 3) dX5_chunkFrom_3 rfl rfl rfl ?_
  refine gz_iload (pc := 5) dX5_chunkFrom_5 rfl ?_
  refine gz_if_eq (pc := 7) (tgt := 111) dX5_chunkFrom_7 (by decide) (by omega) (fun h7 => ?_) (fun h7 => ?_)
  · refine gz_iload_n (pc := 111) dX5_chunkFrom_111 rfl ?_
    refine gz_iret (pc := 112) dX5_chunkFrom_112 rfl ?_
    exact absurd h7 (by decide)
  · exact lp_X5_chunkFrom l D α cA hT ht ha 0 (by omega) (by omega) (by omega) (by omega) (fun j a1 a2 => by omega) _ _
set_option maxHeartbeats 4000000 in
set_option maxRecDepth 100000 in
theorem lp_X5_chunk (l : Launch) (D : va_G) (α : gz_P → Nat) (cA : Nat → ClassId) {I : gz_M} (hT : gz_T I) {t i : Int} (ht : 0 ≤ t ∧ t < 4) (hi : -1 ≤ i ∧ i ≤ 2147483647) (htt : t < I (20, 0, 0) 0) : ∀ a, a ≤ (I (21, 0, 0) t) → ∀ n : Nat, gz_cs (gz_fm I t) (I (21, 0, 0) t) n = a → 0 ≤ a → (i = -1 ∨ (n : Int) ≤ i) → n ≤ 300 → ∀ o : Option Value, gz_V l D α cA RX5 cX5_chunk (some .int) 6 2 (gz_Qi fun x I' => I = I' ∧ (¬ ((0 ≤ t ∧ t < I (20, 0, 0) 0) ∧ -1 ≤ i) ∧ x = -2 ∨ ((0 ≤ t ∧ t < I (20, 0, 0) 0) ∧ -1 ≤ i) ∧ (∃ c : Nat, gz_cn (gz_fm I t) (I (21, 0, 0) t) c ∧ (i = -1 ∧ x = c ∨ (0 ≤ i ∧ i < c) ∧ x = gz_ck (gz_fm I t) (I (21, 0, 0) t) (gz_cs (gz_fm I t) (I (21, 0, 0) t) i.toNat) ∨ (c : Int) ≤ i ∧ x = -2)))) I [some (.ref (α (20, 0, 0))), some (gz_i (t)), some (gz_i (i)), some (gz_i (n)), some (gz_i (a)), o] [] 21 := by
  have e21 := gz_t21 hT 0 0 t
  refine gz_upto _ ?_
  intro a ha ih n hn h0 hin hn3 o
  refine gz_iload (pc := 21) dX5_chunk_21 rfl ?_
  first | refine gz_aload_n (pc := 23) dX5_chunk_23 rfl ?_ | refine gz_aload_nN (pc := 23) dX5_chunk_23 rfl ?_
  refine gz_getr (pc := 24) dX5_chunk_24 fl_X5_13 rfl rfl rfl (by first | exact gz_B1 | (omega)) ?_
  refine gz_iload_n (pc := 27) dX5_chunk_27 rfl ?_
  refine gz_iald (pc := 28) dX5_chunk_28 rfl rfl (by first | exact gz_B1 | (omega)) (by omega) ?_
  refine gz_icmp_ge (pc := 29) (tgt := 62) dX5_chunk_29 (by decide) (by omega) (by omega) (fun h29 => ?_) (fun h29 => ?_)
  · refine gz_iload_n (pc := 62) dX5_chunk_62 rfl ?_
    refine gz_iconst (pc := 63) dX5_chunk_63 ?_
    refine gz_icmp_ne (pc := 64) (tgt := 71) dX5_chunk_64 (by decide) (by omega) (by omega) (fun h64 => ?_) (fun h64 => ?_)
    · refine gz_bipush (pc := 71) dX5_chunk_71 rfl ?_
      refine gz_iret (pc := 73) dX5_chunk_73 rfl ?_
      have hc : gz_cn (gz_fm I t) (I (21, 0, 0) t) n := by unfold gz_cn; omega
      first
        | exact ⟨rfl, Or.inr ⟨by omega, n, hc, Or.inl ⟨h64, rfl⟩⟩⟩
        | exact ⟨rfl, Or.inr ⟨by omega, n, hc, Or.inr (Or.inr ⟨by omega, rfl⟩)⟩⟩
    · refine gz_iload_n (pc := 67) dX5_chunk_67 rfl ?_
      refine gz_goto (pc := 68) (tgt := 73) dX5_chunk_68 (by decide) ?_
      refine gz_iret (pc := 73) dX5_chunk_73 rfl ?_
      have hc : gz_cn (gz_fm I t) (I (21, 0, 0) t) n := by unfold gz_cn; omega
      first
        | exact ⟨rfl, Or.inr ⟨by omega, n, hc, Or.inl ⟨h64, rfl⟩⟩⟩
        | exact ⟨rfl, Or.inr ⟨by omega, n, hc, Or.inr (Or.inr ⟨by omega, rfl⟩)⟩⟩
  · first | refine gz_aload_n (pc := 32) dX5_chunk_32 rfl ?_ | refine gz_aload_nN (pc := 32) dX5_chunk_32 rfl ?_
    refine gz_iload_n (pc := 33) dX5_chunk_33 rfl ?_
    refine gz_iload (pc := 34) dX5_chunk_34 rfl ?_
    refine gz_cV2i (pc := 36) dX5_chunk_36 wm_X5_82 my_X5_chunkFrom rfl rfl rfl (by first | exact gz_B1 | (omega)) (ct_X5_chunkFrom l D α cA hT ht (by omega)) (fun x36 I36 h36 => ?_)
    obtain ⟨rfl, rfl⟩ := h36
    have k1 := gz_ck_le (f := gz_fm I t) (s := I (21, 0, 0) t) (at_ := a) (by omega)
    have k2 := (gz_ck_ok (gz_fm I t) (I (21, 0, 0) t) a).2.1
    have k3 := (gz_ck_ok (gz_fm I t) (I (21, 0, 0) t) a).2.2.1
    have k4 := gz_cs_4 (f := gz_fm I t) (s := I (21, 0, 0) t) (n := n) (by omega)
    refine gz_istore (pc := 39) dX5_chunk_39 rfl rfl rfl ?_
    refine gz_iload_n (pc := 41) dX5_chunk_41 rfl ?_
    refine gz_iload_n (pc := 42) dX5_chunk_42 rfl ?_
    refine gz_icmp_ne (pc := 43) (tgt := 49) dX5_chunk_43 (by decide) (by omega) (by omega) (fun h43 => ?_) (fun h43 => ?_)
    · refine gz_iload (pc := 49) dX5_chunk_49 rfl ?_
      refine gz_iload (pc := 51) dX5_chunk_51 rfl ?_
      refine gz_iadd (pc := 53) dX5_chunk_53 ?_
      refine gz_istore (pc := 54) dX5_chunk_54 rfl rfl rfl ?_
      refine gz_iinc (pc := 56) dX5_chunk_56 rfl rfl rfl rfl ?_
      refine gz_goto (pc := 59) (tgt := 21) dX5_chunk_59 (by decide) ?_
      have hcs : gz_cs (gz_fm I t) (I (21, 0, 0) t) (n + 1) = a + gz_ck (gz_fm I t) (I (21, 0, 0) t) a := by
        show gz_cs (gz_fm I t) (I (21, 0, 0) t) n + gz_ck (gz_fm I t) (I (21, 0, 0) t) (gz_cs (gz_fm I t) (I (21, 0, 0) t) n) = _
        rw [hn]
      exact ih (a + gz_ck (gz_fm I t) (I (21, 0, 0) t) a) (by omega) (by omega) (n + 1) hcs (by omega) (by omega) (by omega) _
    · refine gz_iload (pc := 46) dX5_chunk_46 rfl ?_
      refine gz_iret (pc := 48) dX5_chunk_48 rfl ?_
      obtain ⟨c, hc⟩ := gz_cn_ex (gz_fm I t) e21
      have hlt : n < c := by
        apply Nat.lt_of_not_le
        intro hle
        have := gz_cs_le (gz_fm I t) (I (21, 0, 0) t) hle
        unfold gz_cn at hc
        omega
      refine ⟨rfl, Or.inr ⟨by omega, c, hc, Or.inr (Or.inl ⟨by omega, ?_⟩)⟩⟩
      rw [← h43, Int.toNat_natCast, hn]
set_option maxHeartbeats 4000000 in
set_option maxRecDepth 100000 in
theorem ct_X5_chunk (l : Launch) (D : va_G) (α : gz_P → Nat) (cA : Nat → ClassId) {I : gz_M} (hT : gz_T I) {t i : Int} (r_t : (-2147483648 ≤ t ∧ t ≤ 2147483647)) (r_i : (-2147483648 ≤ i ∧ i ≤ 2147483647)) : gz_V l D α cA RX5 cX5_chunk (some .int) 6 2 (gz_Qi fun x I' => I = I' ∧ (¬ ((0 ≤ t ∧ t < I (20, 0, 0) 0) ∧ -1 ≤ i) ∧ x = -2 ∨ ((0 ≤ t ∧ t < I (20, 0, 0) 0) ∧ -1 ≤ i) ∧ (∃ c : Nat, gz_cn (gz_fm I t) (I (21, 0, 0) t) c ∧ (i = -1 ∧ x = c ∨ (0 ≤ i ∧ i < c) ∧ x = gz_ck (gz_fm I t) (I (21, 0, 0) t) (gz_cs (gz_fm I t) (I (21, 0, 0) t) i.toNat) ∨ (c : Int) ≤ i ∧ x = -2)))) I [some (.ref (α (20, 0, 0))), some (gz_i (t)), some (gz_i (i)), none, none, none] [] 0 := by
  first | refine gz_aload_n (pc := 0) dX5_chunk_0 rfl ?_ | refine gz_aload_nN (pc := 0) dX5_chunk_0 rfl ?_
  refine gz_iload_n (pc := 1) dX5_chunk_1 rfl ?_
  refine gz_cV1i (pc := 2) dX5_chunk_2 wm_X5_76 my_X5_isTask rfl rfl rfl (by first | exact gz_B1 | (omega)) (ct_X5_isTask l D α cA hT r_t) (fun x2 I2 h2 => ?_)
  obtain ⟨rfl, hx2⟩ := h2
  have e1 := gz_tM0 hT 0 0
  have e2 := gz_t21 hT 0 0 t
  refine gz_if_eq (pc := 5) (tgt := 13) dX5_chunk_5 (by decide) (by omega) (fun h5 => ?_) (fun h5 => ?_)
  · refine gz_bipush (pc := 13) dX5_chunk_13 rfl ?_
    refine gz_iret (pc := 15) dX5_chunk_15 rfl ?_
    exact ⟨rfl, Or.inl ⟨by omega, rfl⟩⟩
  · refine gz_iload_n (pc := 8) dX5_chunk_8 rfl ?_
    refine gz_iconst (pc := 9) dX5_chunk_9 ?_
    refine gz_icmp_ge (pc := 10) (tgt := 16) dX5_chunk_10 (by decide) (by omega) (by omega) (fun h10 => ?_) (fun h10 => ?_)
    · refine gz_iconst (pc := 16) dX5_chunk_16 ?_
      refine gz_istore_n (pc := 17) dX5_chunk_17 rfl rfl rfl ?_
      refine gz_iconst (pc := 18) dX5_chunk_18 ?_
      refine gz_istore (pc := 19) dX5_chunk_19 rfl rfl rfl ?_
      exact lp_X5_chunk l D α cA (t := t) (i := i) hT (by omega) (by omega) (by omega) 0 (by omega) 0 rfl (by omega) (by omega) (by omega) _
    · refine gz_bipush (pc := 13) dX5_chunk_13 rfl ?_
      refine gz_iret (pc := 15) dX5_chunk_15 rfl ?_
      exact ⟨rfl, Or.inl ⟨by omega, rfl⟩⟩
set_option maxHeartbeats 4000000 in
set_option maxRecDepth 100000 in
theorem ct_X5_isPart (l : Launch) (D : va_G) (α : gz_P → Nat) (cA : Nat → ClassId) {I : gz_M} (hT : gz_T I) {p : Int} (r_p : (-2147483648 ≤ p ∧ p ≤ 2147483647)) : gz_V l D α cA RX5 cX5_isPart (some .boolean) 2 1 (gz_Qi fun x I' => I = I' ∧ (x = 1 ∧ (0 ≤ p ∧ p < 120 ∧ 0 < I (24, 0, 0) p) ∨ x = 0 ∧ ¬ (0 ≤ p ∧ p < 120 ∧ 0 < I (24, 0, 0) p))) I [some (.ref (α (20, 0, 0))), some (gz_i (p))] [] 0 := by
  have e1 := gz_t24 hT 0 0 p
  refine gz_iload_n (pc := 0) dX5_isPart_0 rfl ?_
  refine gz_iconst (pc := 1) dX5_isPart_1 ?_
  refine gz_bipush (pc := 2) dX5_isPart_2 rfl ?_
  refine gz_cS3i (pc := 4) dX5_isPart_4 wm_X5_72 my_X5_in rfl rfl (ct_X5_in l D α cA r_p (by omega) (by omega)) (fun x4 I4 h4 => ?_)
  obtain ⟨rfl, hx4⟩ := h4
  have hxr4 : 0 ≤ x4 ∧ x4 ≤ 1 := by rcases hx4 with h | h <;> omega
  refine gz_if_eq (pc := 7) (tgt := 23) dX5_isPart_7 (by decide) (by omega) (fun h7 => ?_) (fun h7 => ?_)
  · refine gz_iconst (pc := 23) dX5_isPart_23 ?_
    refine gz_zret (pc := 24) dX5_isPart_24 rfl (by first | exact Or.inl rfl | exact Or.inr rfl | omega) ?_
    exact ⟨rfl, by omega⟩
  · first | refine gz_aload_n (pc := 10) dX5_isPart_10 rfl ?_ | refine gz_aload_nN (pc := 10) dX5_isPart_10 rfl ?_
    refine gz_getr (pc := 11) dX5_isPart_11 fl_X5_23 rfl rfl rfl (by first | exact gz_B1 | (omega)) ?_
    refine gz_iload_n (pc := 14) dX5_isPart_14 rfl ?_
    refine gz_iald (pc := 15) dX5_isPart_15 rfl rfl (by first | exact gz_B1 | (omega)) (by omega) ?_
    refine gz_if_le (pc := 16) (tgt := 23) dX5_isPart_16 (by decide) (by omega) (fun h16 => ?_) (fun h16 => ?_)
    · refine gz_iconst (pc := 23) dX5_isPart_23 ?_
      refine gz_zret (pc := 24) dX5_isPart_24 rfl (by first | exact Or.inl rfl | exact Or.inr rfl | omega) ?_
      exact ⟨rfl, by omega⟩
    · refine gz_iconst (pc := 19) dX5_isPart_19 ?_
      refine gz_goto (pc := 20) (tgt := 24) dX5_isPart_20 (by decide) ?_
      refine gz_zret (pc := 24) dX5_isPart_24 rfl (by first | exact Or.inl rfl | exact Or.inr rfl | omega) ?_
      exact ⟨rfl, by omega⟩
set_option maxHeartbeats 4000000 in
set_option maxRecDepth 100000 in
theorem lp_X5_isBroken (l : Launch) (D : va_G) (α : gz_P → Nat) (cA : Nat → ClassId) {I : gz_M} (hT : gz_T I) {p : Int} (hp : 0 ≤ p ∧ p < 120) : ∀ i, i ≤ I (24, 0, 0) p → ∀ h : Int, 0 ≤ i → h = gz_dg (fun i => I (27, 0, 0) (32 * p + i)) i.toNat → gz_V l D α cA RX5 cX5_isBroken (some .boolean) 4 0 (gz_Qi fun x I' => I = I' ∧ (x = 1 ∧ ¬ gz_snM I p ∨ x = 0 ∧ gz_snM I p)) I [some (.ref (α (20, 0, 0))), some (gz_i (p)), some (gz_i (h)), some (gz_i (i))] [] 4 := by
  have e24 := gz_t24 hT 0 0 p
  have e26 := gz_t26 hT 0 0 p
  have e25 := gz_t25 hT 0 0 p
  refine gz_upto _ ?_
  intro i hi ih h h0 hh
  have hd := gz_dg_in (fun i => I (27, 0, 0) (32 * p + i)) i.toNat
  have e1 := gz_t27 hT 0 0 (32 * p + i)
  refine gz_iload_n (pc := 4) dX5_isBroken_4 rfl ?_
  first | refine gz_aload_n (pc := 5) dX5_isBroken_5 rfl ?_ | refine gz_aload_nN (pc := 5) dX5_isBroken_5 rfl ?_
  refine gz_getr (pc := 6) dX5_isBroken_6 fl_X5_23 rfl rfl rfl (by first | exact gz_B1 | (omega)) ?_
  refine gz_iload_n (pc := 9) dX5_isBroken_9 rfl ?_
  refine gz_iald (pc := 10) dX5_isBroken_10 rfl rfl (by first | exact gz_B1 | (omega)) (by omega) ?_
  refine gz_icmp_ge (pc := 11) (tgt := 40) dX5_isBroken_11 (by decide) (by omega) (by omega) (fun h11 => ?_) (fun h11 => ?_)
  · first | refine gz_aload_n (pc := 40) dX5_isBroken_40 rfl ?_ | refine gz_aload_nN (pc := 40) dX5_isBroken_40 rfl ?_
    refine gz_getr (pc := 41) dX5_isBroken_41 fl_X5_29 rfl rfl rfl (by first | exact gz_B1 | (omega)) ?_
    refine gz_iload_n (pc := 44) dX5_isBroken_44 rfl ?_
    refine gz_zald (pc := 45) dX5_isBroken_45 rfl rfl (by first | exact gz_B1 | (omega)) (by omega) ?_
    refine gz_if_ne (pc := 46) (tgt := 59) dX5_isBroken_46 (by decide) (by omega) (fun h46 => ?_) (fun h46 => ?_)
    · refine gz_iconst (pc := 59) dX5_isBroken_59 ?_
      refine gz_goto (pc := 60) (tgt := 64) dX5_isBroken_60 (by decide) ?_
      refine gz_zret (pc := 64) dX5_isBroken_64 rfl (by first | exact Or.inl rfl | exact Or.inr rfl | omega) ?_
      rw [show i = I (24, 0, 0) p by omega] at hh
      first
        | exact ⟨rfl, Or.inl ⟨rfl, fun z => by have := z.1; omega⟩⟩
        | exact ⟨rfl, Or.inl ⟨rfl, fun z => h56 (hh.trans z.2)⟩⟩
        | exact ⟨rfl, Or.inr ⟨rfl, by omega, hh.symm.trans h56⟩⟩
    · refine gz_iload_n (pc := 49) dX5_isBroken_49 rfl ?_
      first | refine gz_aload_n (pc := 50) dX5_isBroken_50 rfl ?_ | refine gz_aload_nN (pc := 50) dX5_isBroken_50 rfl ?_
      refine gz_getr (pc := 51) dX5_isBroken_51 fl_X5_26 rfl rfl rfl (by first | exact gz_B1 | (omega)) ?_
      refine gz_iload_n (pc := 54) dX5_isBroken_54 rfl ?_
      refine gz_iald (pc := 55) dX5_isBroken_55 rfl rfl (by first | exact gz_B1 | (omega)) (by omega) ?_
      refine gz_icmp_eq (pc := 56) (tgt := 63) dX5_isBroken_56 (by decide) (by omega) (by omega) (fun h56 => ?_) (fun h56 => ?_)
      · refine gz_iconst (pc := 63) dX5_isBroken_63 ?_
        refine gz_zret (pc := 64) dX5_isBroken_64 rfl (by first | exact Or.inl rfl | exact Or.inr rfl | omega) ?_
        rw [show i = I (24, 0, 0) p by omega] at hh
        first
          | exact ⟨rfl, Or.inl ⟨rfl, fun z => by have := z.1; omega⟩⟩
          | exact ⟨rfl, Or.inl ⟨rfl, fun z => h56 (hh.trans z.2)⟩⟩
          | exact ⟨rfl, Or.inr ⟨rfl, by omega, hh.symm.trans h56⟩⟩
      · refine gz_iconst (pc := 59) dX5_isBroken_59 ?_
        refine gz_goto (pc := 60) (tgt := 64) dX5_isBroken_60 (by decide) ?_
        refine gz_zret (pc := 64) dX5_isBroken_64 rfl (by first | exact Or.inl rfl | exact Or.inr rfl | omega) ?_
        rw [show i = I (24, 0, 0) p by omega] at hh
        first
          | exact ⟨rfl, Or.inl ⟨rfl, fun z => by have := z.1; omega⟩⟩
          | exact ⟨rfl, Or.inl ⟨rfl, fun z => h56 (hh.trans z.2)⟩⟩
          | exact ⟨rfl, Or.inr ⟨rfl, by omega, hh.symm.trans h56⟩⟩
  · refine gz_bipush (pc := 14) dX5_isBroken_14 rfl ?_
    refine gz_iload_n (pc := 16) dX5_isBroken_16 rfl ?_
    refine gz_imul (pc := 17) dX5_isBroken_17 ?_
    first | refine gz_aload_n (pc := 18) dX5_isBroken_18 rfl ?_ | refine gz_aload_nN (pc := 18) dX5_isBroken_18 rfl ?_
    refine gz_getr (pc := 19) dX5_isBroken_19 fl_X5_33 rfl rfl rfl (by first | exact gz_B1 | (omega)) ?_
    refine gz_bipush (pc := 22) dX5_isBroken_22 rfl ?_
    refine gz_iload_n (pc := 24) dX5_isBroken_24 rfl ?_
    refine gz_imul (pc := 25) dX5_isBroken_25 ?_
    refine gz_iload_n (pc := 26) dX5_isBroken_26 rfl ?_
    refine gz_iadd (pc := 27) dX5_isBroken_27 ?_
    refine gz_iald (pc := 28) dX5_isBroken_28 rfl rfl (by first | exact gz_B1 | (omega)) (by omega) ?_
    refine gz_iadd (pc := 29) dX5_isBroken_29 ?_
    refine gz_bipush (pc := 30) dX5_isBroken_30 rfl ?_
    refine gz_irem (pc := 32) dX5_isBroken_32 (by omega) (by omega) ?_
    refine gz_istore_n (pc := 33) dX5_isBroken_33 rfl rfl rfl ?_
    refine gz_iinc (pc := 34) dX5_isBroken_34 rfl rfl rfl rfl ?_
    refine gz_goto (pc := 37) (tgt := 4) dX5_isBroken_37 (by decide) ?_
    refine ih (i + 1) (by omega) (by omega) _ (by omega) ?_
    rw [show (i + 1).toNat = i.toNat + 1 by omega]
    unfold gz_dg
    rw [← hh, Int.toNat_of_nonneg h0]
set_option maxHeartbeats 4000000 in
set_option maxRecDepth 100000 in
theorem ct_X5_isBroken (l : Launch) (D : va_G) (α : gz_P → Nat) (cA : Nat → ClassId) {I : gz_M} (hT : gz_T I) {p : Int} (hp : 0 ≤ p ∧ p < 120) : gz_V l D α cA RX5 cX5_isBroken (some .boolean) 4 0 (gz_Qi fun x I' => I = I' ∧ (x = 1 ∧ ¬ gz_snM I p ∨ x = 0 ∧ gz_snM I p)) I [some (.ref (α (20, 0, 0))), some (gz_i (p)), none, none] [] 0 := by
  refine gz_iconst (pc := 0) dX5_isBroken_0 ?_
  refine gz_istore_n (pc := 1) dX5_isBroken_1 rfl rfl rfl ?_
  refine gz_iconst (pc := 2) dX5_isBroken_2 ?_
  refine gz_istore_n (pc := 3) dX5_isBroken_3 rfl rfl rfl ?_
  exact lp_X5_isBroken l D α cA hT hp 0 (by have := gz_t24 hT 0 0 p; omega) 1 (by omega) rfl
set_option maxHeartbeats 4000000 in
set_option maxRecDepth 100000 in
theorem lp_X5_isGoodCopy (l : Launch) (D : va_G) (α : gz_P → Nat) (cA : Nat → ClassId) {I : gz_M} (hT : gz_T I) {t p : Int} (ht : 0 ≤ t ∧ t < 4) (hp : 0 ≤ p ∧ p < 120) : ∀ i, i ≤ I (24, 0, 0) p → ∀ h : Int, 0 ≤ i → h = gz_dg (fun i => I (29, 0, 0) (32 * (120 * t + p) + i)) i.toNat → gz_V l D α cA RX5 cX5_isGoodCopy (some .boolean) 5 0 (gz_Qi fun x I' => I = I' ∧ (x = 1 ∧ gz_scM I t p ∨ x = 0 ∧ ¬ gz_scM I t p)) I [some (.ref (α (20, 0, 0))), some (gz_i (t)), some (gz_i (p)), some (gz_i (h)), some (gz_i (i))] [] 5 := by
  have e24 := gz_t24 hT 0 0 p
  have e28 := gz_t28 hT 0 0 (120 * t + p)
  have e25 := gz_t25 hT 0 0 p
  refine gz_upto _ ?_
  intro i hi ih h h0 hh
  have hd := gz_dg_in (fun i => I (29, 0, 0) (32 * (120 * t + p) + i)) i.toNat
  have e1 := gz_t29 hT 0 0 (32 * (120 * t + p) + i)
  refine gz_iload (pc := 5) dX5_isGoodCopy_5 rfl ?_
  first | refine gz_aload_n (pc := 7) dX5_isGoodCopy_7 rfl ?_ | refine gz_aload_nN (pc := 7) dX5_isGoodCopy_7 rfl ?_
  refine gz_getr (pc := 8) dX5_isGoodCopy_8 fl_X5_23 rfl rfl rfl (by first | exact gz_B1 | (omega)) ?_
  refine gz_iload_n (pc := 11) dX5_isGoodCopy_11 rfl ?_
  refine gz_iald (pc := 12) dX5_isGoodCopy_12 rfl rfl (by first | exact gz_B1 | (omega)) (by omega) ?_
  refine gz_icmp_ge (pc := 13) (tgt := 48) dX5_isGoodCopy_13 (by decide) (by omega) (by omega) (fun h13 => ?_) (fun h13 => ?_)
  · first | refine gz_aload_n (pc := 48) dX5_isGoodCopy_48 rfl ?_ | refine gz_aload_nN (pc := 48) dX5_isGoodCopy_48 rfl ?_
    refine gz_getr (pc := 49) dX5_isGoodCopy_49 fl_X5_36 rfl rfl rfl (by first | exact gz_B1 | (omega)) ?_
    refine gz_bipush (pc := 52) dX5_isGoodCopy_52 rfl ?_
    refine gz_iload_n (pc := 54) dX5_isGoodCopy_54 rfl ?_
    refine gz_imul (pc := 55) dX5_isGoodCopy_55 ?_
    refine gz_iload_n (pc := 56) dX5_isGoodCopy_56 rfl ?_
    refine gz_iadd (pc := 57) dX5_isGoodCopy_57 ?_
    refine gz_zald (pc := 58) dX5_isGoodCopy_58 rfl rfl (by first | exact gz_B1 | (omega)) (by omega) ?_
    refine gz_if_eq (pc := 59) (tgt := 76) dX5_isGoodCopy_59 (by decide) (by omega) (fun h59 => ?_) (fun h59 => ?_)
    · refine gz_iconst (pc := 76) dX5_isGoodCopy_76 ?_
      refine gz_zret (pc := 77) dX5_isGoodCopy_77 rfl (by first | exact Or.inl rfl | exact Or.inr rfl | omega) ?_
      rw [show i = I (24, 0, 0) p by omega] at hh
      first
        | exact ⟨rfl, Or.inr ⟨rfl, fun z => by have := z.1; omega⟩⟩
        | exact ⟨rfl, Or.inr ⟨rfl, fun z => h69 (hh.trans z.2)⟩⟩
        | exact ⟨rfl, Or.inl ⟨rfl, by omega, hh.symm.trans h69⟩⟩
    · refine gz_iload_n (pc := 62) dX5_isGoodCopy_62 rfl ?_
      first | refine gz_aload_n (pc := 63) dX5_isGoodCopy_63 rfl ?_ | refine gz_aload_nN (pc := 63) dX5_isGoodCopy_63 rfl ?_
      refine gz_getr (pc := 64) dX5_isGoodCopy_64 fl_X5_26 rfl rfl rfl (by first | exact gz_B1 | (omega)) ?_
      refine gz_iload_n (pc := 67) dX5_isGoodCopy_67 rfl ?_
      refine gz_iald (pc := 68) dX5_isGoodCopy_68 rfl rfl (by first | exact gz_B1 | (omega)) (by omega) ?_
      refine gz_icmp_ne (pc := 69) (tgt := 76) dX5_isGoodCopy_69 (by decide) (by omega) (by omega) (fun h69 => ?_) (fun h69 => ?_)
      · refine gz_iconst (pc := 76) dX5_isGoodCopy_76 ?_
        refine gz_zret (pc := 77) dX5_isGoodCopy_77 rfl (by first | exact Or.inl rfl | exact Or.inr rfl | omega) ?_
        rw [show i = I (24, 0, 0) p by omega] at hh
        first
          | exact ⟨rfl, Or.inr ⟨rfl, fun z => by have := z.1; omega⟩⟩
          | exact ⟨rfl, Or.inr ⟨rfl, fun z => h69 (hh.trans z.2)⟩⟩
          | exact ⟨rfl, Or.inl ⟨rfl, by omega, hh.symm.trans h69⟩⟩
      · refine gz_iconst (pc := 72) dX5_isGoodCopy_72 ?_
        refine gz_goto (pc := 73) (tgt := 77) dX5_isGoodCopy_73 (by decide) ?_
        refine gz_zret (pc := 77) dX5_isGoodCopy_77 rfl (by first | exact Or.inl rfl | exact Or.inr rfl | omega) ?_
        rw [show i = I (24, 0, 0) p by omega] at hh
        first
          | exact ⟨rfl, Or.inr ⟨rfl, fun z => by have := z.1; omega⟩⟩
          | exact ⟨rfl, Or.inr ⟨rfl, fun z => h69 (hh.trans z.2)⟩⟩
          | exact ⟨rfl, Or.inl ⟨rfl, by omega, hh.symm.trans h69⟩⟩
  · refine gz_bipush (pc := 16) dX5_isGoodCopy_16 rfl ?_
    refine gz_iload_n (pc := 18) dX5_isGoodCopy_18 rfl ?_
    refine gz_imul (pc := 19) dX5_isGoodCopy_19 ?_
    first | refine gz_aload_n (pc := 20) dX5_isGoodCopy_20 rfl ?_ | refine gz_aload_nN (pc := 20) dX5_isGoodCopy_20 rfl ?_
    refine gz_getr (pc := 21) dX5_isGoodCopy_21 fl_X5_39 rfl rfl rfl (by first | exact gz_B1 | (omega)) ?_
    refine gz_bipush (pc := 24) dX5_isGoodCopy_24 rfl ?_
    refine gz_bipush (pc := 26) dX5_isGoodCopy_26 rfl ?_
    refine gz_iload_n (pc := 28) dX5_isGoodCopy_28 rfl ?_
    refine gz_imul (pc := 29) dX5_isGoodCopy_29 ?_
    refine gz_iload_n (pc := 30) dX5_isGoodCopy_30 rfl ?_
    refine gz_iadd (pc := 31) dX5_isGoodCopy_31 ?_
    refine gz_imul (pc := 32) dX5_isGoodCopy_32 ?_
    refine gz_iload (pc := 33) dX5_isGoodCopy_33 rfl ?_
    refine gz_iadd (pc := 35) dX5_isGoodCopy_35 ?_
    refine gz_iald (pc := 36) dX5_isGoodCopy_36 rfl rfl (by first | exact gz_B1 | (omega)) (by omega) ?_
    refine gz_iadd (pc := 37) dX5_isGoodCopy_37 ?_
    refine gz_bipush (pc := 38) dX5_isGoodCopy_38 rfl ?_
    refine gz_irem (pc := 40) dX5_isGoodCopy_40 (by omega) (by omega) ?_
    refine gz_istore_n (pc := 41) dX5_isGoodCopy_41 rfl rfl rfl ?_
    refine gz_iinc (pc := 42) dX5_isGoodCopy_42 rfl rfl rfl rfl ?_
    refine gz_goto (pc := 45) (tgt := 5) dX5_isGoodCopy_45 (by decide) ?_
    refine ih (i + 1) (by omega) (by omega) _ (by omega) ?_
    rw [show (i + 1).toNat = i.toNat + 1 by omega]
    unfold gz_dg
    rw [← hh, Int.toNat_of_nonneg h0]
set_option maxHeartbeats 4000000 in
set_option maxRecDepth 100000 in
theorem ct_X5_isGoodCopy (l : Launch) (D : va_G) (α : gz_P → Nat) (cA : Nat → ClassId) {I : gz_M} (hT : gz_T I) {t p : Int} (ht : 0 ≤ t ∧ t < 4) (hp : 0 ≤ p ∧ p < 120) : gz_V l D α cA RX5 cX5_isGoodCopy (some .boolean) 5 0 (gz_Qi fun x I' => I = I' ∧ (x = 1 ∧ gz_scM I t p ∨ x = 0 ∧ ¬ gz_scM I t p)) I [some (.ref (α (20, 0, 0))), some (gz_i (t)), some (gz_i (p)), none, none] [] 0 := by
  refine gz_iconst (pc := 0) dX5_isGoodCopy_0 ?_
  refine gz_istore_n (pc := 1) dX5_isGoodCopy_1 rfl rfl rfl ?_
  refine gz_iconst (pc := 2) dX5_isGoodCopy_2 ?_
  refine gz_istore (pc := 3) dX5_isGoodCopy_3 rfl rfl rfl ?_
  exact lp_X5_isGoodCopy l D α cA hT ht hp 0 (by have := gz_t24 hT 0 0 p; omega) 1 (by omega) rfl
set_option maxHeartbeats 4000000 in
set_option maxRecDepth 100000 in
theorem ct_X5_isReadable (l : Launch) (D : va_G) (α : gz_P → Nat) (cA : Nat → ClassId) {I : gz_M} (hT : gz_T I) {p : Int} (r_p : (-2147483648 ≤ p ∧ p ≤ 2147483647)) {t : Int} (ht : 0 ≤ t ∧ t < 4) : gz_V l D α cA RX5 cX5_isReadable (some .boolean) 3 2 (gz_Qi fun x I' => I = I' ∧ (x = 1 ∧ gz_rdM I t p ∨ x = 0 ∧ ¬ gz_rdM I t p)) I [some (.ref (α (20, 0, 0))), some (gz_i (t)), some (gz_i (p))] [] 0 := by
  first | refine gz_aload_n (pc := 0) dX5_isReadable_0 rfl ?_ | refine gz_aload_nN (pc := 0) dX5_isReadable_0 rfl ?_
  refine gz_iload_n (pc := 1) dX5_isReadable_1 rfl ?_
  refine gz_cV1i (pc := 2) dX5_isReadable_2 wm_X5_90 my_X5_isPart rfl rfl rfl (by first | exact gz_B1 | (omega)) (ct_X5_isPart l D α cA hT r_p) (fun x2 I2 h2 => ?_)
  obtain ⟨rfl, hx2⟩ := h2
  refine gz_if_eq (pc := 5) (tgt := 29) dX5_isReadable_5 (by decide) (by omega) (fun h5 => ?_) (fun h5 => ?_)
  · refine gz_iconst (pc := 29) dX5_isReadable_29 ?_
    refine gz_zret (pc := 30) dX5_isReadable_30 rfl (by first | exact Or.inl rfl | exact Or.inr rfl | omega) ?_
    first
      | exact absurd h14 (by decide)
      | exact absurd rfl h14
      | exact absurd h22 (by decide)
      | exact absurd rfl h22
      | exact ⟨rfl, Or.inr ⟨rfl, fun z => by have := z.1; omega⟩⟩
      | exact ⟨rfl, Or.inl ⟨rfl, by omega, Or.inr hb⟩⟩
      | exact ⟨rfl, Or.inl ⟨rfl, by omega, Or.inl hg⟩⟩
      | exact ⟨rfl, Or.inr ⟨rfl, fun z => z.2.elim hg hb⟩⟩
  · first | refine gz_aload_n (pc := 8) dX5_isReadable_8 rfl ?_ | refine gz_aload_nN (pc := 8) dX5_isReadable_8 rfl ?_
    refine gz_iload_n (pc := 9) dX5_isReadable_9 rfl ?_
    refine gz_iload_n (pc := 10) dX5_isReadable_10 rfl ?_
    refine gz_cV2i (pc := 11) dX5_isReadable_11 wm_X5_93 my_X5_isGoodCopy rfl rfl rfl (by first | exact gz_B1 | (omega)) (ct_X5_isGoodCopy l D α cA hT ht (by omega)) (fun x11 I11 h11 => ?_)
    obtain ⟨rfl, ⟨rfl, hg⟩ | ⟨rfl, hg⟩⟩ := h11
    · refine gz_if_ne (pc := 14) (tgt := 25) dX5_isReadable_14 (by decide) (by omega) (fun h14 => ?_) (fun h14 => ?_)
      · refine gz_iconst (pc := 25) dX5_isReadable_25 ?_
        refine gz_goto (pc := 26) (tgt := 30) dX5_isReadable_26 (by decide) ?_
        refine gz_zret (pc := 30) dX5_isReadable_30 rfl (by first | exact Or.inl rfl | exact Or.inr rfl | omega) ?_
        first
          | exact absurd h14 (by decide)
          | exact absurd rfl h14
          | exact absurd h22 (by decide)
          | exact absurd rfl h22
          | exact ⟨rfl, Or.inr ⟨rfl, fun z => by have := z.1; omega⟩⟩
          | exact ⟨rfl, Or.inl ⟨rfl, by omega, Or.inr hb⟩⟩
          | exact ⟨rfl, Or.inl ⟨rfl, by omega, Or.inl hg⟩⟩
          | exact ⟨rfl, Or.inr ⟨rfl, fun z => z.2.elim hg hb⟩⟩
      · first | refine gz_aload_n (pc := 17) dX5_isReadable_17 rfl ?_ | refine gz_aload_nN (pc := 17) dX5_isReadable_17 rfl ?_
        refine gz_iload_n (pc := 18) dX5_isReadable_18 rfl ?_
        refine gz_cV1i (pc := 19) dX5_isReadable_19 wm_X5_97 my_X5_isBroken rfl rfl rfl (by first | exact gz_B1 | (omega)) (ct_X5_isBroken l D α cA hT (by omega)) (fun x19 I19 h19 => ?_)
        obtain ⟨rfl, ⟨rfl, hb⟩ | ⟨rfl, hb⟩⟩ := h19
        · refine gz_if_ne (pc := 22) (tgt := 29) dX5_isReadable_22 (by decide) (by omega) (fun h22 => ?_) (fun h22 => ?_)
          · refine gz_iconst (pc := 29) dX5_isReadable_29 ?_
            refine gz_zret (pc := 30) dX5_isReadable_30 rfl (by first | exact Or.inl rfl | exact Or.inr rfl | omega) ?_
            first
              | exact absurd h14 (by decide)
              | exact absurd rfl h14
              | exact absurd h22 (by decide)
              | exact absurd rfl h22
              | exact ⟨rfl, Or.inr ⟨rfl, fun z => by have := z.1; omega⟩⟩
              | exact ⟨rfl, Or.inl ⟨rfl, by omega, Or.inr hb⟩⟩
              | exact ⟨rfl, Or.inl ⟨rfl, by omega, Or.inl hg⟩⟩
              | exact ⟨rfl, Or.inr ⟨rfl, fun z => z.2.elim hg hb⟩⟩
          · refine gz_iconst (pc := 25) dX5_isReadable_25 ?_
            refine gz_goto (pc := 26) (tgt := 30) dX5_isReadable_26 (by decide) ?_
            refine gz_zret (pc := 30) dX5_isReadable_30 rfl (by first | exact Or.inl rfl | exact Or.inr rfl | omega) ?_
            first
              | exact absurd h14 (by decide)
              | exact absurd rfl h14
              | exact absurd h22 (by decide)
              | exact absurd rfl h22
              | exact ⟨rfl, Or.inr ⟨rfl, fun z => by have := z.1; omega⟩⟩
              | exact ⟨rfl, Or.inl ⟨rfl, by omega, Or.inr hb⟩⟩
              | exact ⟨rfl, Or.inl ⟨rfl, by omega, Or.inl hg⟩⟩
              | exact ⟨rfl, Or.inr ⟨rfl, fun z => z.2.elim hg hb⟩⟩
        · refine gz_if_ne (pc := 22) (tgt := 29) dX5_isReadable_22 (by decide) (by omega) (fun h22 => ?_) (fun h22 => ?_)
          · refine gz_iconst (pc := 29) dX5_isReadable_29 ?_
            refine gz_zret (pc := 30) dX5_isReadable_30 rfl (by first | exact Or.inl rfl | exact Or.inr rfl | omega) ?_
            first
              | exact absurd h14 (by decide)
              | exact absurd rfl h14
              | exact absurd h22 (by decide)
              | exact absurd rfl h22
              | exact ⟨rfl, Or.inr ⟨rfl, fun z => by have := z.1; omega⟩⟩
              | exact ⟨rfl, Or.inl ⟨rfl, by omega, Or.inr hb⟩⟩
              | exact ⟨rfl, Or.inl ⟨rfl, by omega, Or.inl hg⟩⟩
              | exact ⟨rfl, Or.inr ⟨rfl, fun z => z.2.elim hg hb⟩⟩
          · refine gz_iconst (pc := 25) dX5_isReadable_25 ?_
            refine gz_goto (pc := 26) (tgt := 30) dX5_isReadable_26 (by decide) ?_
            refine gz_zret (pc := 30) dX5_isReadable_30 rfl (by first | exact Or.inl rfl | exact Or.inr rfl | omega) ?_
            first
              | exact absurd h14 (by decide)
              | exact absurd rfl h14
              | exact absurd h22 (by decide)
              | exact absurd rfl h22
              | exact ⟨rfl, Or.inr ⟨rfl, fun z => by have := z.1; omega⟩⟩
              | exact ⟨rfl, Or.inl ⟨rfl, by omega, Or.inr hb⟩⟩
              | exact ⟨rfl, Or.inl ⟨rfl, by omega, Or.inl hg⟩⟩
              | exact ⟨rfl, Or.inr ⟨rfl, fun z => z.2.elim hg hb⟩⟩
    · refine gz_if_ne (pc := 14) (tgt := 25) dX5_isReadable_14 (by decide) (by omega) (fun h14 => ?_) (fun h14 => ?_)
      · refine gz_iconst (pc := 25) dX5_isReadable_25 ?_
        refine gz_goto (pc := 26) (tgt := 30) dX5_isReadable_26 (by decide) ?_
        refine gz_zret (pc := 30) dX5_isReadable_30 rfl (by first | exact Or.inl rfl | exact Or.inr rfl | omega) ?_
        first
          | exact absurd h14 (by decide)
          | exact absurd rfl h14
          | exact absurd h22 (by decide)
          | exact absurd rfl h22
          | exact ⟨rfl, Or.inr ⟨rfl, fun z => by have := z.1; omega⟩⟩
          | exact ⟨rfl, Or.inl ⟨rfl, by omega, Or.inr hb⟩⟩
          | exact ⟨rfl, Or.inl ⟨rfl, by omega, Or.inl hg⟩⟩
          | exact ⟨rfl, Or.inr ⟨rfl, fun z => z.2.elim hg hb⟩⟩
      · first | refine gz_aload_n (pc := 17) dX5_isReadable_17 rfl ?_ | refine gz_aload_nN (pc := 17) dX5_isReadable_17 rfl ?_
        refine gz_iload_n (pc := 18) dX5_isReadable_18 rfl ?_
        refine gz_cV1i (pc := 19) dX5_isReadable_19 wm_X5_97 my_X5_isBroken rfl rfl rfl (by first | exact gz_B1 | (omega)) (ct_X5_isBroken l D α cA hT (by omega)) (fun x19 I19 h19 => ?_)
        obtain ⟨rfl, ⟨rfl, hb⟩ | ⟨rfl, hb⟩⟩ := h19
        · refine gz_if_ne (pc := 22) (tgt := 29) dX5_isReadable_22 (by decide) (by omega) (fun h22 => ?_) (fun h22 => ?_)
          · refine gz_iconst (pc := 29) dX5_isReadable_29 ?_
            refine gz_zret (pc := 30) dX5_isReadable_30 rfl (by first | exact Or.inl rfl | exact Or.inr rfl | omega) ?_
            first
              | exact absurd h14 (by decide)
              | exact absurd rfl h14
              | exact absurd h22 (by decide)
              | exact absurd rfl h22
              | exact ⟨rfl, Or.inr ⟨rfl, fun z => by have := z.1; omega⟩⟩
              | exact ⟨rfl, Or.inl ⟨rfl, by omega, Or.inr hb⟩⟩
              | exact ⟨rfl, Or.inl ⟨rfl, by omega, Or.inl hg⟩⟩
              | exact ⟨rfl, Or.inr ⟨rfl, fun z => z.2.elim hg hb⟩⟩
          · refine gz_iconst (pc := 25) dX5_isReadable_25 ?_
            refine gz_goto (pc := 26) (tgt := 30) dX5_isReadable_26 (by decide) ?_
            refine gz_zret (pc := 30) dX5_isReadable_30 rfl (by first | exact Or.inl rfl | exact Or.inr rfl | omega) ?_
            first
              | exact absurd h14 (by decide)
              | exact absurd rfl h14
              | exact absurd h22 (by decide)
              | exact absurd rfl h22
              | exact ⟨rfl, Or.inr ⟨rfl, fun z => by have := z.1; omega⟩⟩
              | exact ⟨rfl, Or.inl ⟨rfl, by omega, Or.inr hb⟩⟩
              | exact ⟨rfl, Or.inl ⟨rfl, by omega, Or.inl hg⟩⟩
              | exact ⟨rfl, Or.inr ⟨rfl, fun z => z.2.elim hg hb⟩⟩
        · refine gz_if_ne (pc := 22) (tgt := 29) dX5_isReadable_22 (by decide) (by omega) (fun h22 => ?_) (fun h22 => ?_)
          · refine gz_iconst (pc := 29) dX5_isReadable_29 ?_
            refine gz_zret (pc := 30) dX5_isReadable_30 rfl (by first | exact Or.inl rfl | exact Or.inr rfl | omega) ?_
            first
              | exact absurd h14 (by decide)
              | exact absurd rfl h14
              | exact absurd h22 (by decide)
              | exact absurd rfl h22
              | exact ⟨rfl, Or.inr ⟨rfl, fun z => by have := z.1; omega⟩⟩
              | exact ⟨rfl, Or.inl ⟨rfl, by omega, Or.inr hb⟩⟩
              | exact ⟨rfl, Or.inl ⟨rfl, by omega, Or.inl hg⟩⟩
              | exact ⟨rfl, Or.inr ⟨rfl, fun z => z.2.elim hg hb⟩⟩
          · refine gz_iconst (pc := 25) dX5_isReadable_25 ?_
            refine gz_goto (pc := 26) (tgt := 30) dX5_isReadable_26 (by decide) ?_
            refine gz_zret (pc := 30) dX5_isReadable_30 rfl (by first | exact Or.inl rfl | exact Or.inr rfl | omega) ?_
            first
              | exact absurd h14 (by decide)
              | exact absurd rfl h14
              | exact absurd h22 (by decide)
              | exact absurd rfl h22
              | exact ⟨rfl, Or.inr ⟨rfl, fun z => by have := z.1; omega⟩⟩
              | exact ⟨rfl, Or.inl ⟨rfl, by omega, Or.inr hb⟩⟩
              | exact ⟨rfl, Or.inl ⟨rfl, by omega, Or.inl hg⟩⟩
              | exact ⟨rfl, Or.inr ⟨rfl, fun z => z.2.elim hg hb⟩⟩
