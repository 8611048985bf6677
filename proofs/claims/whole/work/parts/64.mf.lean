set_option maxHeartbeats 4000000 in
set_option maxRecDepth 100000 in
theorem ct_X5_usable (l : Launch) (D : va_G) (α : gz_P → Nat) (cA : Nat → ClassId) {I : gz_M} (hT : gz_T I) {m : Int} (r_m : (-2147483648 ≤ m ∧ m ≤ 2147483647)) (hdis : (∀ s s', 0 ≤ s → s < 12 → 0 ≤ s' → s' < 12 → I (30, 0, 0) s = I (30, 0, 0) s' → 0 ≤ I (30, 0, 0) s → s = s')) : gz_V l D α cA RX5 cX5_usable (some .int) 3 4 (gz_Qi fun x I' => I = I' ∧ (x = -2 ∧ (∀ s, 0 ≤ s → s < 12 → 0 ≤ m → I (30, 0, 0) s = m → I (31, 0, 0) s = 0) ∨ ∃ s, ((0 ≤ s ∧ s < 12) ∧ 0 ≤ m ∧ I (30, 0, 0) s = m ∧ I (31, 0, 0) s = 1) ∧ x = gz_b (gz_usM I s))) I [some (.ref (α (20, 0, 0))), some (gz_i (m)), none] [] 0 := by
  first | refine gz_aload_n (pc := 0) dX5_usable_0 rfl ?_ | refine gz_aload_nN (pc := 0) dX5_usable_0 rfl ?_
  refine gz_iload_n (pc := 1) dX5_usable_1 rfl ?_
  refine gz_cV1i (pc := 2) dX5_usable_2 wm_X5_137 my_X5_keptSlot rfl rfl rfl (by first | exact gz_B1 | (omega)) (ct_X5_keptSlot l D α cA hT r_m hdis) (fun x2 I2 h2 => ?_)
  obtain ⟨rfl, hx2⟩ := h2
  have hxr2 : -1 ≤ x2 ∧ x2 < 12 := by rcases hx2 with h | h <;> omega
  refine gz_istore_n (pc := 5) dX5_usable_5 rfl rfl rfl ?_
  refine gz_iload_n (pc := 6) dX5_usable_6 rfl ?_
  refine gz_iconst (pc := 7) dX5_usable_7 ?_
  refine gz_icmp_ne (pc := 8) (tgt := 16) dX5_usable_8 (by decide) (by omega) (by omega) (fun h8 => ?_) (fun h8 => ?_)
  · first | refine gz_aload_n (pc := 16) dX5_usable_16 rfl ?_ | refine gz_aload_nN (pc := 16) dX5_usable_16 rfl ?_
    refine gz_iload_n (pc := 17) dX5_usable_17 rfl ?_
    refine gz_cV1i (pc := 18) dX5_usable_18 wm_X5_143 my_X5_isUsable rfl rfl rfl (by first | exact gz_B1 | (omega)) (ct_X5_isUsable l D α cA hT (by omega)) (fun x18 I18 h18 => ?_)
    obtain ⟨rfl, rfl⟩ := h18
    have hbb := gz_b_01 (gz_usM I x2)
    refine gz_if_eq (pc := 21) (tgt := 28) dX5_usable_21 (by decide) (by omega) (fun h21 => ?_) (fun h21 => ?_)
    · refine gz_iconst (pc := 28) dX5_usable_28 ?_
      refine gz_iret (pc := 29) dX5_usable_29 rfl ?_
      rcases hx2 with ⟨q1, q2⟩ | q
      · first
          | exact ⟨rfl, Or.inl ⟨rfl, q2⟩⟩
          | exact absurd q1 h8
      · first
          | exact absurd q.1 (by omega)
          | exact ⟨rfl, Or.inr ⟨x2, q, by omega⟩⟩
    · refine gz_iconst (pc := 24) dX5_usable_24 ?_
      refine gz_goto (pc := 25) (tgt := 29) dX5_usable_25 (by decide) ?_
      refine gz_iret (pc := 29) dX5_usable_29 rfl ?_
      rcases hx2 with ⟨q1, q2⟩ | q
      · first
          | exact ⟨rfl, Or.inl ⟨rfl, q2⟩⟩
          | exact absurd q1 h8
      · first
          | exact absurd q.1 (by omega)
          | exact ⟨rfl, Or.inr ⟨x2, q, by omega⟩⟩
  · refine gz_bipush (pc := 11) dX5_usable_11 rfl ?_
    refine gz_goto (pc := 13) (tgt := 29) dX5_usable_13 (by decide) ?_
    refine gz_iret (pc := 29) dX5_usable_29 rfl ?_
    rcases hx2 with ⟨q1, q2⟩ | q
    · first
        | exact ⟨rfl, Or.inl ⟨rfl, q2⟩⟩
        | exact absurd q1 h8
    · first
        | exact absurd q.1 (by omega)
        | exact ⟨rfl, Or.inr ⟨x2, q, by omega⟩⟩
set_option maxHeartbeats 4000000 in
set_option maxRecDepth 100000 in
theorem lp_X5_markTold (l : Launch) (D : va_G) (α : gz_P → Nat) (cA : Nat → ClassId) {I : gz_M} (hT : gz_T I) {m w : Int} (r_m : (-2147483648 ≤ m ∧ m ≤ 2147483647)) (r_w : (-2147483648 ≤ w ∧ w ≤ 2147483647)) : ∀ s, ((0 ≤ s ∧ s < 12) ∧ 0 ≤ m ∧ I (30, 0, 0) s = m) → (0 ≤ w ∧ w ≤ 6) → ∀ t, t ≤ I (33, 0, 0) s → ∀ n : Int, 0 ≤ t → n = gz_sm (fun t => I (34, 0, 0) (4 * s + t)) t.toNat → gz_V l D α cA RX5 cX5_markTold (some .int) 6 1 (gz_Qi fun x I' => I = I' ∧ (x = -2 ∧ ((∀ s, 0 ≤ s → s < 12 → 0 ≤ m → ¬ I (30, 0, 0) s = m) ∨ ¬ (0 ≤ w ∧ w ≤ 6)) ∨ ∃ s, ((0 ≤ s ∧ s < 12) ∧ 0 ≤ m ∧ I (30, 0, 0) s = m) ∧ (w = 0 ∧ x = I (31, 0, 0) s ∨ w = 1 ∧ x = I (32, 0, 0) s ∨ w = 2 ∧ x = I (33, 0, 0) s ∨ w = 3 ∧ x = gz_sm (fun t => I (34, 0, 0) (4 * s + t)) (I (33, 0, 0) s).toNat ∨ w = 4 ∧ x = I (36, 0, 0) s ∨ w = 5 ∧ x = I (37, 0, 0) s ∨ w = 6 ∧ x = I (38, 0, 0) s))) I [some (.ref (α (20, 0, 0))), some (gz_i (m)), some (gz_i (w)), some (gz_i (s)), some (gz_i (n)), some (gz_i (t))] [] 30 := by
  intro s hs hw
  have e33 := gz_t33 hT 0 0 s
  have e31 := gz_t31 hT 0 0 s
  refine gz_upto _ ?_
  intro t ht ih n h0 hn
  refine gz_iload (pc := 30) dX5_markTold_30 rfl ?_
  first | refine gz_aload_n (pc := 32) dX5_markTold_32 rfl ?_ | refine gz_aload_nN (pc := 32) dX5_markTold_32 rfl ?_
  refine gz_getr (pc := 33) dX5_markTold_33 fl_X5_51 rfl rfl rfl (by first | exact gz_B1 | (omega)) ?_
  refine gz_iload_n (pc := 36) dX5_markTold_36 rfl ?_
  refine gz_iald (pc := 37) dX5_markTold_37 rfl rfl (by first | exact gz_B1 | (omega)) (by omega) ?_
  refine gz_icmp_ge (pc := 38) (tgt := 63) dX5_markTold_38 (by decide) (by omega) (by omega) (fun h38 => ?_) (fun h38 => ?_)
  · refine gz_iload_n (pc := 63) dX5_markTold_63 rfl ?_
    refine gz_if_ne (pc := 64) (tgt := 84) dX5_markTold_64 (by decide) (by omega) (fun h64 => ?_) (fun h64 => ?_)
    · refine gz_iload_n (pc := 84) dX5_markTold_84 rfl ?_
      refine gz_iconst (pc := 85) dX5_markTold_85 ?_
      refine gz_icmp_ne (pc := 86) (tgt := 98) dX5_markTold_86 (by decide) (by omega) (by omega) (fun h86 => ?_) (fun h86 => ?_)
      · refine gz_iload_n (pc := 98) dX5_markTold_98 rfl ?_
        refine gz_iconst (pc := 99) dX5_markTold_99 ?_
        refine gz_icmp_ne (pc := 100) (tgt := 112) dX5_markTold_100 (by decide) (by omega) (by omega) (fun h100 => ?_) (fun h100 => ?_)
        · refine gz_iload_n (pc := 112) dX5_markTold_112 rfl ?_
          refine gz_iconst (pc := 113) dX5_markTold_113 ?_
          refine gz_icmp_ne (pc := 114) (tgt := 122) dX5_markTold_114 (by decide) (by omega) (by omega) (fun h114 => ?_) (fun h114 => ?_)
          · refine gz_iload_n (pc := 122) dX5_markTold_122 rfl ?_
            refine gz_iconst (pc := 123) dX5_markTold_123 ?_
            refine gz_icmp_ne (pc := 124) (tgt := 136) dX5_markTold_124 (by decide) (by omega) (by omega) (fun h124 => ?_) (fun h124 => ?_)
            · refine gz_iload_n (pc := 136) dX5_markTold_136 rfl ?_
              refine gz_iconst (pc := 137) dX5_markTold_137 ?_
              refine gz_icmp_ne (pc := 138) (tgt := 150) dX5_markTold_138 (by decide) (by omega) (by omega) (fun h138 => ?_) (fun h138 => ?_)
              · first | refine gz_aload_n (pc := 150) dX5_markTold_150 rfl ?_ | refine gz_aload_nN (pc := 150) dX5_markTold_150 rfl ?_
                refine gz_getr (pc := 151) dX5_markTold_151 fl_X5_66 rfl rfl rfl (by first | exact gz_B1 | (omega)) ?_
                refine gz_iload_n (pc := 154) dX5_markTold_154 rfl ?_
                refine gz_iald (pc := 155) dX5_markTold_155 rfl rfl (by first | exact gz_B1 | (omega)) (by omega) ?_
                refine gz_iret (pc := 156) dX5_markTold_156 rfl ?_
                first
                  | exact ⟨rfl, Or.inr ⟨s, hs, Or.inl ⟨by omega, by omega⟩⟩⟩
                  | exact ⟨rfl, Or.inr ⟨s, hs, Or.inr (Or.inl ⟨by omega, rfl⟩)⟩⟩
                  | exact ⟨rfl, Or.inr ⟨s, hs, Or.inr (Or.inr (Or.inl ⟨by omega, rfl⟩))⟩⟩
                  | exact ⟨rfl, Or.inr ⟨s, hs, Or.inr (Or.inr (Or.inr (Or.inl ⟨by omega, by rw [hn, show t = I (33, 0, 0) s by omega]⟩)))⟩⟩
                  | exact ⟨rfl, Or.inr ⟨s, hs, Or.inr (Or.inr (Or.inr (Or.inr (Or.inl ⟨by omega, rfl⟩))))⟩⟩
                  | exact ⟨rfl, Or.inr ⟨s, hs, Or.inr (Or.inr (Or.inr (Or.inr (Or.inr (Or.inl ⟨by omega, rfl⟩)))))⟩⟩
                  | exact ⟨rfl, Or.inr ⟨s, hs, Or.inr (Or.inr (Or.inr (Or.inr (Or.inr (Or.inr (⟨by omega, rfl⟩))))))⟩⟩
              · first | refine gz_aload_n (pc := 141) dX5_markTold_141 rfl ?_ | refine gz_aload_nN (pc := 141) dX5_markTold_141 rfl ?_
                refine gz_getr (pc := 142) dX5_markTold_142 fl_X5_63 rfl rfl rfl (by first | exact gz_B1 | (omega)) ?_
                refine gz_iload_n (pc := 145) dX5_markTold_145 rfl ?_
                refine gz_iald (pc := 146) dX5_markTold_146 rfl rfl (by first | exact gz_B1 | (omega)) (by omega) ?_
                refine gz_goto (pc := 147) (tgt := 156) dX5_markTold_147 (by decide) ?_
                refine gz_iret (pc := 156) dX5_markTold_156 rfl ?_
                first
                  | exact ⟨rfl, Or.inr ⟨s, hs, Or.inl ⟨by omega, by omega⟩⟩⟩
                  | exact ⟨rfl, Or.inr ⟨s, hs, Or.inr (Or.inl ⟨by omega, rfl⟩)⟩⟩
                  | exact ⟨rfl, Or.inr ⟨s, hs, Or.inr (Or.inr (Or.inl ⟨by omega, rfl⟩))⟩⟩
                  | exact ⟨rfl, Or.inr ⟨s, hs, Or.inr (Or.inr (Or.inr (Or.inl ⟨by omega, by rw [hn, show t = I (33, 0, 0) s by omega]⟩)))⟩⟩
                  | exact ⟨rfl, Or.inr ⟨s, hs, Or.inr (Or.inr (Or.inr (Or.inr (Or.inl ⟨by omega, rfl⟩))))⟩⟩
                  | exact ⟨rfl, Or.inr ⟨s, hs, Or.inr (Or.inr (Or.inr (Or.inr (Or.inr (Or.inl ⟨by omega, rfl⟩)))))⟩⟩
                  | exact ⟨rfl, Or.inr ⟨s, hs, Or.inr (Or.inr (Or.inr (Or.inr (Or.inr (Or.inr (⟨by omega, rfl⟩))))))⟩⟩
            · first | refine gz_aload_n (pc := 127) dX5_markTold_127 rfl ?_ | refine gz_aload_nN (pc := 127) dX5_markTold_127 rfl ?_
              refine gz_getr (pc := 128) dX5_markTold_128 fl_X5_60 rfl rfl rfl (by first | exact gz_B1 | (omega)) ?_
              refine gz_iload_n (pc := 131) dX5_markTold_131 rfl ?_
              refine gz_iald (pc := 132) dX5_markTold_132 rfl rfl (by first | exact gz_B1 | (omega)) (by omega) ?_
              refine gz_goto (pc := 133) (tgt := 156) dX5_markTold_133 (by decide) ?_
              refine gz_iret (pc := 156) dX5_markTold_156 rfl ?_
              first
                | exact ⟨rfl, Or.inr ⟨s, hs, Or.inl ⟨by omega, by omega⟩⟩⟩
                | exact ⟨rfl, Or.inr ⟨s, hs, Or.inr (Or.inl ⟨by omega, rfl⟩)⟩⟩
                | exact ⟨rfl, Or.inr ⟨s, hs, Or.inr (Or.inr (Or.inl ⟨by omega, rfl⟩))⟩⟩
                | exact ⟨rfl, Or.inr ⟨s, hs, Or.inr (Or.inr (Or.inr (Or.inl ⟨by omega, by rw [hn, show t = I (33, 0, 0) s by omega]⟩)))⟩⟩
                | exact ⟨rfl, Or.inr ⟨s, hs, Or.inr (Or.inr (Or.inr (Or.inr (Or.inl ⟨by omega, rfl⟩))))⟩⟩
                | exact ⟨rfl, Or.inr ⟨s, hs, Or.inr (Or.inr (Or.inr (Or.inr (Or.inr (Or.inl ⟨by omega, rfl⟩)))))⟩⟩
                | exact ⟨rfl, Or.inr ⟨s, hs, Or.inr (Or.inr (Or.inr (Or.inr (Or.inr (Or.inr (⟨by omega, rfl⟩))))))⟩⟩
          · refine gz_iload (pc := 117) dX5_markTold_117 rfl ?_
            refine gz_goto (pc := 119) (tgt := 156) dX5_markTold_119 (by decide) ?_
            refine gz_iret (pc := 156) dX5_markTold_156 rfl ?_
            first
              | exact ⟨rfl, Or.inr ⟨s, hs, Or.inl ⟨by omega, by omega⟩⟩⟩
              | exact ⟨rfl, Or.inr ⟨s, hs, Or.inr (Or.inl ⟨by omega, rfl⟩)⟩⟩
              | exact ⟨rfl, Or.inr ⟨s, hs, Or.inr (Or.inr (Or.inl ⟨by omega, rfl⟩))⟩⟩
              | exact ⟨rfl, Or.inr ⟨s, hs, Or.inr (Or.inr (Or.inr (Or.inl ⟨by omega, by rw [hn, show t = I (33, 0, 0) s by omega]⟩)))⟩⟩
              | exact ⟨rfl, Or.inr ⟨s, hs, Or.inr (Or.inr (Or.inr (Or.inr (Or.inl ⟨by omega, rfl⟩))))⟩⟩
              | exact ⟨rfl, Or.inr ⟨s, hs, Or.inr (Or.inr (Or.inr (Or.inr (Or.inr (Or.inl ⟨by omega, rfl⟩)))))⟩⟩
              | exact ⟨rfl, Or.inr ⟨s, hs, Or.inr (Or.inr (Or.inr (Or.inr (Or.inr (Or.inr (⟨by omega, rfl⟩))))))⟩⟩
        · first | refine gz_aload_n (pc := 103) dX5_markTold_103 rfl ?_ | refine gz_aload_nN (pc := 103) dX5_markTold_103 rfl ?_
          refine gz_getr (pc := 104) dX5_markTold_104 fl_X5_51 rfl rfl rfl (by first | exact gz_B1 | (omega)) ?_
          refine gz_iload_n (pc := 107) dX5_markTold_107 rfl ?_
          refine gz_iald (pc := 108) dX5_markTold_108 rfl rfl (by first | exact gz_B1 | (omega)) (by omega) ?_
          refine gz_goto (pc := 109) (tgt := 156) dX5_markTold_109 (by decide) ?_
          refine gz_iret (pc := 156) dX5_markTold_156 rfl ?_
          first
            | exact ⟨rfl, Or.inr ⟨s, hs, Or.inl ⟨by omega, by omega⟩⟩⟩
            | exact ⟨rfl, Or.inr ⟨s, hs, Or.inr (Or.inl ⟨by omega, rfl⟩)⟩⟩
            | exact ⟨rfl, Or.inr ⟨s, hs, Or.inr (Or.inr (Or.inl ⟨by omega, rfl⟩))⟩⟩
            | exact ⟨rfl, Or.inr ⟨s, hs, Or.inr (Or.inr (Or.inr (Or.inl ⟨by omega, by rw [hn, show t = I (33, 0, 0) s by omega]⟩)))⟩⟩
            | exact ⟨rfl, Or.inr ⟨s, hs, Or.inr (Or.inr (Or.inr (Or.inr (Or.inl ⟨by omega, rfl⟩))))⟩⟩
            | exact ⟨rfl, Or.inr ⟨s, hs, Or.inr (Or.inr (Or.inr (Or.inr (Or.inr (Or.inl ⟨by omega, rfl⟩)))))⟩⟩
            | exact ⟨rfl, Or.inr ⟨s, hs, Or.inr (Or.inr (Or.inr (Or.inr (Or.inr (Or.inr (⟨by omega, rfl⟩))))))⟩⟩
      · first | refine gz_aload_n (pc := 89) dX5_markTold_89 rfl ?_ | refine gz_aload_nN (pc := 89) dX5_markTold_89 rfl ?_
        refine gz_getr (pc := 90) dX5_markTold_90 fl_X5_48 rfl rfl rfl (by first | exact gz_B1 | (omega)) ?_
        refine gz_iload_n (pc := 93) dX5_markTold_93 rfl ?_
        refine gz_iald (pc := 94) dX5_markTold_94 rfl rfl (by first | exact gz_B1 | (omega)) (by omega) ?_
        refine gz_goto (pc := 95) (tgt := 156) dX5_markTold_95 (by decide) ?_
        refine gz_iret (pc := 156) dX5_markTold_156 rfl ?_
        first
          | exact ⟨rfl, Or.inr ⟨s, hs, Or.inl ⟨by omega, by omega⟩⟩⟩
          | exact ⟨rfl, Or.inr ⟨s, hs, Or.inr (Or.inl ⟨by omega, rfl⟩)⟩⟩
          | exact ⟨rfl, Or.inr ⟨s, hs, Or.inr (Or.inr (Or.inl ⟨by omega, rfl⟩))⟩⟩
          | exact ⟨rfl, Or.inr ⟨s, hs, Or.inr (Or.inr (Or.inr (Or.inl ⟨by omega, by rw [hn, show t = I (33, 0, 0) s by omega]⟩)))⟩⟩
          | exact ⟨rfl, Or.inr ⟨s, hs, Or.inr (Or.inr (Or.inr (Or.inr (Or.inl ⟨by omega, rfl⟩))))⟩⟩
          | exact ⟨rfl, Or.inr ⟨s, hs, Or.inr (Or.inr (Or.inr (Or.inr (Or.inr (Or.inl ⟨by omega, rfl⟩)))))⟩⟩
          | exact ⟨rfl, Or.inr ⟨s, hs, Or.inr (Or.inr (Or.inr (Or.inr (Or.inr (Or.inr (⟨by omega, rfl⟩))))))⟩⟩
    · first | refine gz_aload_n (pc := 67) dX5_markTold_67 rfl ?_ | refine gz_aload_nN (pc := 67) dX5_markTold_67 rfl ?_
      refine gz_getr (pc := 68) dX5_markTold_68 fl_X5_45 rfl rfl rfl (by first | exact gz_B1 | (omega)) ?_
      refine gz_iload_n (pc := 71) dX5_markTold_71 rfl ?_
      refine gz_zald (pc := 72) dX5_markTold_72 rfl rfl (by first | exact gz_B1 | (omega)) (by omega) ?_
      refine gz_if_eq (pc := 73) (tgt := 80) dX5_markTold_73 (by decide) (by omega) (fun h73 => ?_) (fun h73 => ?_)
      · refine gz_iconst (pc := 80) dX5_markTold_80 ?_
        refine gz_goto (pc := 81) (tgt := 156) dX5_markTold_81 (by decide) ?_
        refine gz_iret (pc := 156) dX5_markTold_156 rfl ?_
        first
          | exact ⟨rfl, Or.inr ⟨s, hs, Or.inl ⟨by omega, by omega⟩⟩⟩
          | exact ⟨rfl, Or.inr ⟨s, hs, Or.inr (Or.inl ⟨by omega, rfl⟩)⟩⟩
          | exact ⟨rfl, Or.inr ⟨s, hs, Or.inr (Or.inr (Or.inl ⟨by omega, rfl⟩))⟩⟩
          | exact ⟨rfl, Or.inr ⟨s, hs, Or.inr (Or.inr (Or.inr (Or.inl ⟨by omega, by rw [hn, show t = I (33, 0, 0) s by omega]⟩)))⟩⟩
          | exact ⟨rfl, Or.inr ⟨s, hs, Or.inr (Or.inr (Or.inr (Or.inr (Or.inl ⟨by omega, rfl⟩))))⟩⟩
          | exact ⟨rfl, Or.inr ⟨s, hs, Or.inr (Or.inr (Or.inr (Or.inr (Or.inr (Or.inl ⟨by omega, rfl⟩)))))⟩⟩
          | exact ⟨rfl, Or.inr ⟨s, hs, Or.inr (Or.inr (Or.inr (Or.inr (Or.inr (Or.inr (⟨by omega, rfl⟩))))))⟩⟩
      · refine gz_iconst (pc := 76) dX5_markTold_76 ?_
        refine gz_goto (pc := 77) (tgt := 156) dX5_markTold_77 (by decide) ?_
        refine gz_iret (pc := 156) dX5_markTold_156 rfl ?_
        first
          | exact ⟨rfl, Or.inr ⟨s, hs, Or.inl ⟨by omega, by omega⟩⟩⟩
          | exact ⟨rfl, Or.inr ⟨s, hs, Or.inr (Or.inl ⟨by omega, rfl⟩)⟩⟩
          | exact ⟨rfl, Or.inr ⟨s, hs, Or.inr (Or.inr (Or.inl ⟨by omega, rfl⟩))⟩⟩
          | exact ⟨rfl, Or.inr ⟨s, hs, Or.inr (Or.inr (Or.inr (Or.inl ⟨by omega, by rw [hn, show t = I (33, 0, 0) s by omega]⟩)))⟩⟩
          | exact ⟨rfl, Or.inr ⟨s, hs, Or.inr (Or.inr (Or.inr (Or.inr (Or.inl ⟨by omega, rfl⟩))))⟩⟩
          | exact ⟨rfl, Or.inr ⟨s, hs, Or.inr (Or.inr (Or.inr (Or.inr (Or.inr (Or.inl ⟨by omega, rfl⟩)))))⟩⟩
          | exact ⟨rfl, Or.inr ⟨s, hs, Or.inr (Or.inr (Or.inr (Or.inr (Or.inr (Or.inr (⟨by omega, rfl⟩))))))⟩⟩
  · refine gz_iload (pc := 41) dX5_markTold_41 rfl ?_
    first | refine gz_aload_n (pc := 43) dX5_markTold_43 rfl ?_ | refine gz_aload_nN (pc := 43) dX5_markTold_43 rfl ?_
    refine gz_getr (pc := 44) dX5_markTold_44 fl_X5_54 rfl rfl rfl (by first | exact gz_B1 | (omega)) ?_
    refine gz_iconst (pc := 47) dX5_markTold_47 ?_
    refine gz_iload_n (pc := 48) dX5_markTold_48 rfl ?_
    refine gz_imul (pc := 49) dX5_markTold_49 ?_
    refine gz_iload (pc := 50) dX5_markTold_50 rfl ?_
    refine gz_iadd (pc := 52) dX5_markTold_52 ?_
    refine gz_iald (pc := 53) dX5_markTold_53 rfl rfl (by first | exact gz_B1 | (omega)) (by omega) ?_
    refine gz_iadd (pc := 54) dX5_markTold_54 ?_
    refine gz_istore (pc := 55) dX5_markTold_55 rfl rfl rfl ?_
    refine gz_iinc (pc := 57) dX5_markTold_57 rfl rfl rfl rfl ?_
    refine gz_goto (pc := 60) (tgt := 30) dX5_markTold_60 (by decide) ?_
    refine ih (t + 1) (by omega) (by omega) _ (by omega) ?_
    rw [show (t + 1).toNat = t.toNat + 1 by omega, gz_sm_s, ← hn, Int.toNat_of_nonneg h0]
set_option maxHeartbeats 4000000 in
set_option maxRecDepth 100000 in
theorem ct_X5_markTold (l : Launch) (D : va_G) (α : gz_P → Nat) (cA : Nat → ClassId) {I : gz_M} (hT : gz_T I) {m w : Int} (r_m : (-2147483648 ≤ m ∧ m ≤ 2147483647)) (r_w : (-2147483648 ≤ w ∧ w ≤ 2147483647)) : gz_V l D α cA RX5 cX5_markTold (some .int) 6 1 (gz_Qi fun x I' => I = I' ∧ (x = -2 ∧ ((∀ s, 0 ≤ s → s < 12 → 0 ≤ m → ¬ I (30, 0, 0) s = m) ∨ ¬ (0 ≤ w ∧ w ≤ 6)) ∨ ∃ s, ((0 ≤ s ∧ s < 12) ∧ 0 ≤ m ∧ I (30, 0, 0) s = m) ∧ (w = 0 ∧ x = I (31, 0, 0) s ∨ w = 1 ∧ x = I (32, 0, 0) s ∨ w = 2 ∧ x = I (33, 0, 0) s ∨ w = 3 ∧ x = gz_sm (fun t => I (34, 0, 0) (4 * s + t)) (I (33, 0, 0) s).toNat ∨ w = 4 ∧ x = I (36, 0, 0) s ∨ w = 5 ∧ x = I (37, 0, 0) s ∨ w = 6 ∧ x = I (38, 0, 0) s))) I [some (.ref (α (20, 0, 0))), some (gz_i (m)), some (gz_i (w)), none, none, none] [] 0 := by
  first | refine gz_aload_n (pc := 0) dX5_markTold_0 rfl ?_ | refine gz_aload_nN (pc := 0) dX5_markTold_0 rfl ?_
  refine gz_iload_n (pc := 1) dX5_markTold_1 rfl ?_
  refine gz_cV1i (pc := 2) dX5_markTold_2 wm_X5_110 my_X5_slotOf rfl rfl rfl (by first | exact gz_B1 | (omega)) (ct_X5_slotOf l D α cA hT r_m) (fun x2 I2 h2 => ?_)
  obtain ⟨rfl, hx2⟩ := h2
  have hxr : -1 ≤ x2 ∧ x2 < 12 := by rcases hx2 with h | h <;> omega
  refine gz_istore_n (pc := 5) dX5_markTold_5 rfl rfl rfl ?_
  refine gz_iload_n (pc := 6) dX5_markTold_6 rfl ?_
  refine gz_iconst (pc := 7) dX5_markTold_7 ?_
  refine gz_icmp_eq (pc := 8) (tgt := 21) dX5_markTold_8 (by decide) (by omega) (by omega) (fun h8 => ?_) (fun h8 => ?_)
  · refine gz_bipush (pc := 21) dX5_markTold_21 rfl ?_
    refine gz_iret (pc := 23) dX5_markTold_23 rfl ?_
    first
      | exact ⟨rfl, Or.inl ⟨rfl, Or.inr (by omega)⟩⟩
      | (rcases hx2 with ⟨q1, q2⟩ | q
         · exact ⟨rfl, Or.inl ⟨rfl, Or.inl q2⟩⟩
         · exact absurd q.1 (by omega))
  · refine gz_iload_n (pc := 11) dX5_markTold_11 rfl ?_
    refine gz_iconst (pc := 12) dX5_markTold_12 ?_
    refine gz_bipush (pc := 13) dX5_markTold_13 rfl ?_
    refine gz_cS3i (pc := 15) dX5_markTold_15 wm_X5_72 my_X5_in rfl rfl (ct_X5_in l D α cA r_w (by omega) (by omega)) (fun x15 I15 h15 => ?_)
    obtain ⟨rfl, hx15⟩ := h15
    have hxr15 : 0 ≤ x15 ∧ x15 ≤ 1 := by rcases hx15 with h | h <;> omega
    refine gz_if_ne (pc := 18) (tgt := 24) dX5_markTold_18 (by decide) (by omega) (fun h18 => ?_) (fun h18 => ?_)
    · refine gz_iconst (pc := 24) dX5_markTold_24 ?_
      refine gz_istore (pc := 25) dX5_markTold_25 rfl rfl rfl ?_
      refine gz_iconst (pc := 27) dX5_markTold_27 ?_
      refine gz_istore (pc := 28) dX5_markTold_28 rfl rfl rfl ?_
      rcases hx2 with ⟨q1, _⟩ | q
      · exact absurd q1 h8
      · exact lp_X5_markTold l D α cA hT r_m r_w x2 q (by omega) 0 (by have := gz_t33 hT 0 0 x2; omega) 0 (by omega) rfl
    · refine gz_bipush (pc := 21) dX5_markTold_21 rfl ?_
      refine gz_iret (pc := 23) dX5_markTold_23 rfl ?_
      first
        | exact ⟨rfl, Or.inl ⟨rfl, Or.inr (by omega)⟩⟩
        | (rcases hx2 with ⟨q1, q2⟩ | q
           · exact ⟨rfl, Or.inl ⟨rfl, Or.inl q2⟩⟩
           · exact absurd q.1 (by omega))
set_option maxHeartbeats 4000000 in
set_option maxRecDepth 100000 in
theorem ct_X5_list (l : Launch) (D : va_G) (α : gz_P → Nat) (cA : Nat → ClassId) {I : gz_M} (hT : gz_T I) {m t j : Int} (r_m : (-2147483648 ≤ m ∧ m ≤ 2147483647)) (r_t : (-2147483648 ≤ t ∧ t ≤ 2147483647)) (r_j : (-2147483648 ≤ j ∧ j ≤ 2147483647)) (hdis : (∀ s s', 0 ≤ s → s < 12 → 0 ≤ s' → s' < 12 → I (30, 0, 0) s = I (30, 0, 0) s' → 0 ≤ I (30, 0, 0) s → s = s')) : gz_V l D α cA RX5 cX5_list (some .int) 5 2 (gz_Qi fun x I' => I = I' ∧ (x = -2 ∧ (∀ s, 0 ≤ s → s < 12 → 0 ≤ m → I (30, 0, 0) s = m → I (31, 0, 0) s = 0) ∨ ∃ s, ((0 ≤ s ∧ s < 12) ∧ 0 ≤ m ∧ I (30, 0, 0) s = m ∧ I (31, 0, 0) s = 1) ∧ (¬ ((0 ≤ t ∧ t < I (33, 0, 0) s) ∧ 0 ≤ j) ∧ x = -2 ∨ ((0 ≤ t ∧ t < I (33, 0, 0) s) ∧ 0 ≤ j) ∧ (j < I (34, 0, 0) (4 * s + t) ∧ x = gz_lM I s t j ∨ I (34, 0, 0) (4 * s + t) ≤ j ∧ x = -1)))) I [some (.ref (α (20, 0, 0))), some (gz_i (m)), some (gz_i (t)), some (gz_i (j)), none] [] 0 := by
  first | refine gz_aload_n (pc := 0) dX5_list_0 rfl ?_ | refine gz_aload_nN (pc := 0) dX5_list_0 rfl ?_
  refine gz_iload_n (pc := 1) dX5_list_1 rfl ?_
  refine gz_cV1i (pc := 2) dX5_list_2 wm_X5_137 my_X5_keptSlot rfl rfl rfl (by first | exact gz_B1 | (omega)) (ct_X5_keptSlot l D α cA hT r_m hdis) (fun x2 I2 h2 => ?_)
  obtain ⟨rfl, hx2⟩ := h2
  have hxr2 : -1 ≤ x2 ∧ x2 < 12 := by rcases hx2 with h | h <;> omega
  refine gz_istore (pc := 5) dX5_list_5 rfl rfl rfl ?_
  have e33 := gz_t33 hT 0 0 x2
  have e34 := gz_t34 hT 0 0 (4 * x2 + t)
  refine gz_iload (pc := 7) dX5_list_7 rfl ?_
  refine gz_iconst (pc := 9) dX5_list_9 ?_
  refine gz_icmp_eq (pc := 10) (tgt := 34) dX5_list_10 (by decide) (by omega) (by omega) (fun h10 => ?_) (fun h10 => ?_)
  · refine gz_bipush (pc := 34) dX5_list_34 rfl ?_
    refine gz_iret (pc := 36) dX5_list_36 rfl ?_
    rcases hx2 with ⟨q1, q2⟩ | q
    · first
        | exact ⟨rfl, Or.inl ⟨rfl, q2⟩⟩
    · first
        | exact absurd q.1 (by omega)
        | exact ⟨rfl, Or.inr ⟨x2, q, Or.inl ⟨by omega, rfl⟩⟩⟩
  · refine gz_iload_n (pc := 13) dX5_list_13 rfl ?_
    refine gz_iconst (pc := 14) dX5_list_14 ?_
    first | refine gz_aload_n (pc := 15) dX5_list_15 rfl ?_ | refine gz_aload_nN (pc := 15) dX5_list_15 rfl ?_
    refine gz_getr (pc := 16) dX5_list_16 fl_X5_51 rfl rfl rfl (by first | exact gz_B1 | (omega)) ?_
    refine gz_iload (pc := 19) dX5_list_19 rfl ?_
    refine gz_iald (pc := 21) dX5_list_21 rfl rfl (by first | exact gz_B1 | (omega)) (by omega) ?_
    refine gz_iconst (pc := 22) dX5_list_22 ?_
    refine gz_isub (pc := 23) dX5_list_23 ?_
    refine gz_cS3i (pc := 24) dX5_list_24 wm_X5_72 my_X5_in rfl rfl (ct_X5_in l D α cA r_t (by omega) (by omega)) (fun x24 I24 h24 => ?_)
    obtain ⟨rfl, hx24⟩ := h24
    have hxr24 : 0 ≤ x24 ∧ x24 ≤ 1 := by rcases hx24 with h | h <;> omega
    refine gz_if_eq (pc := 27) (tgt := 34) dX5_list_27 (by decide) (by omega) (fun h27 => ?_) (fun h27 => ?_)
    · refine gz_bipush (pc := 34) dX5_list_34 rfl ?_
      refine gz_iret (pc := 36) dX5_list_36 rfl ?_
      rcases hx2 with ⟨q1, q2⟩ | q
      · first
          | exact ⟨rfl, Or.inl ⟨rfl, q2⟩⟩
      · first
          | exact absurd q.1 (by omega)
          | exact ⟨rfl, Or.inr ⟨x2, q, Or.inl ⟨by omega, rfl⟩⟩⟩
    · refine gz_iload_n (pc := 30) dX5_list_30 rfl ?_
      refine gz_if_ge (pc := 31) (tgt := 37) dX5_list_31 (by decide) (by omega) (fun h31 => ?_) (fun h31 => ?_)
      · refine gz_iload_n (pc := 37) dX5_list_37 rfl ?_
        first | refine gz_aload_n (pc := 38) dX5_list_38 rfl ?_ | refine gz_aload_nN (pc := 38) dX5_list_38 rfl ?_
        refine gz_getr (pc := 39) dX5_list_39 fl_X5_54 rfl rfl rfl (by first | exact gz_B1 | (omega)) ?_
        refine gz_iconst (pc := 42) dX5_list_42 ?_
        refine gz_iload (pc := 43) dX5_list_43 rfl ?_
        refine gz_imul (pc := 45) dX5_list_45 ?_
        refine gz_iload_n (pc := 46) dX5_list_46 rfl ?_
        refine gz_iadd (pc := 47) dX5_list_47 ?_
        refine gz_iald (pc := 48) dX5_list_48 rfl rfl (by first | exact gz_B1 | (omega)) (by omega) ?_
        refine gz_icmp_ge (pc := 49) (tgt := 71) dX5_list_49 (by decide) (by omega) (by omega) (fun h49 => ?_) (fun h49 => ?_)
        · refine gz_iconst (pc := 71) dX5_list_71 ?_
          refine gz_iret (pc := 72) dX5_list_72 rfl ?_
          rcases hx2 with ⟨q1, q2⟩ | q
          · exact absurd q1 h10
          · first
              | exact ⟨rfl, Or.inr ⟨x2, q, Or.inr ⟨by omega, Or.inl ⟨by omega, rfl⟩⟩⟩⟩
              | exact ⟨rfl, Or.inr ⟨x2, q, Or.inr ⟨by omega, Or.inr ⟨by omega, rfl⟩⟩⟩⟩
        · first | refine gz_aload_n (pc := 52) dX5_list_52 rfl ?_ | refine gz_aload_nN (pc := 52) dX5_list_52 rfl ?_
          refine gz_getr (pc := 53) dX5_list_53 fl_X5_57 rfl rfl rfl (by first | exact gz_B1 | (omega)) ?_
          refine gz_bipush (pc := 56) dX5_list_56 rfl ?_
          refine gz_iconst (pc := 58) dX5_list_58 ?_
          refine gz_iload (pc := 59) dX5_list_59 rfl ?_
          refine gz_imul (pc := 61) dX5_list_61 ?_
          refine gz_iload_n (pc := 62) dX5_list_62 rfl ?_
          refine gz_iadd (pc := 63) dX5_list_63 ?_
          refine gz_imul (pc := 64) dX5_list_64 ?_
          refine gz_iload_n (pc := 65) dX5_list_65 rfl ?_
          refine gz_iadd (pc := 66) dX5_list_66 ?_
          refine gz_iald (pc := 67) dX5_list_67 rfl rfl (by first | exact gz_B1 | (omega)) (by omega) ?_
          refine gz_goto (pc := 68) (tgt := 72) dX5_list_68 (by decide) ?_
          refine gz_iret (pc := 72) dX5_list_72 rfl ?_
          rcases hx2 with ⟨q1, q2⟩ | q
          · exact absurd q1 h10
          · first
              | exact ⟨rfl, Or.inr ⟨x2, q, Or.inr ⟨by omega, Or.inl ⟨by omega, rfl⟩⟩⟩⟩
              | exact ⟨rfl, Or.inr ⟨x2, q, Or.inr ⟨by omega, Or.inr ⟨by omega, rfl⟩⟩⟩⟩
      · refine gz_bipush (pc := 34) dX5_list_34 rfl ?_
        refine gz_iret (pc := 36) dX5_list_36 rfl ?_
        rcases hx2 with ⟨q1, q2⟩ | q
        · first
            | exact ⟨rfl, Or.inl ⟨rfl, q2⟩⟩
        · first
            | exact absurd q.1 (by omega)
            | exact ⟨rfl, Or.inr ⟨x2, q, Or.inl ⟨by omega, rfl⟩⟩⟩
def gz_alM (I : gz_M) (s s' t : Int) : Prop := I (34, 0, 0) (4 * s + t) = I (34, 0, 0) (4 * s' + t) ∧ ∀ j, 0 ≤ j → j < I (34, 0, 0) (4 * s + t) → gz_lM I s t j = gz_lM I s' t j
def gz_smM (I : gz_M) (s s' : Int) : Prop := I (33, 0, 0) s = I (33, 0, 0) s' ∧ ∀ t, 0 ≤ t → t < I (33, 0, 0) s → gz_alM I s s' t
set_option maxHeartbeats 4000000 in
set_option maxRecDepth 100000 in
theorem lp_X5_same2 (l : Launch) (D : va_G) (α : gz_P → Nat) (cA : Nat → ClassId) {I : gz_M} (hT : gz_T I) {m n : Int} (r_m : (-2147483648 ≤ m ∧ m ≤ 2147483647)) (r_n : (-2147483648 ≤ n ∧ n ≤ 2147483647)) (hdis : (∀ s s', 0 ≤ s → s < 12 → 0 ≤ s' → s' < 12 → I (30, 0, 0) s = I (30, 0, 0) s' → 0 ≤ I (30, 0, 0) s → s = s')) : ∀ s s' t, ((0 ≤ s ∧ s < 12) ∧ 0 ≤ m ∧ I (30, 0, 0) s = m ∧ I (31, 0, 0) s = 1) → ((0 ≤ s' ∧ s' < 12) ∧ 0 ≤ n ∧ I (30, 0, 0) s' = n ∧ I (31, 0, 0) s' = 1) → (0 ≤ t ∧ t < I (33, 0, 0) s) → (∀ b : Int, (b = 1 ∧ gz_alM I s s' t ∨ b = 0 ∧ ¬ gz_alM I s s' t) → ∀ o : Option Value, gz_V l D α cA RX5 cX5_same (some .boolean) 8 2 (gz_Qi fun x I' => I = I' ∧ (x = 0 ∧ ((∀ s, 0 ≤ s → s < 12 → 0 ≤ m → I (30, 0, 0) s = m → I (31, 0, 0) s = 0) ∨ (∀ s, 0 ≤ s → s < 12 → 0 ≤ n → I (30, 0, 0) s = n → I (31, 0, 0) s = 0)) ∨ ∃ s s', ((0 ≤ s ∧ s < 12) ∧ 0 ≤ m ∧ I (30, 0, 0) s = m ∧ I (31, 0, 0) s = 1) ∧ ((0 ≤ s' ∧ s' < 12) ∧ 0 ≤ n ∧ I (30, 0, 0) s' = n ∧ I (31, 0, 0) s' = 1) ∧ x = gz_b (gz_smM I s s'))) I [some (.ref (α (20, 0, 0))), some (gz_i (m)), some (gz_i (n)), some (gz_i (s)), some (gz_i (s')), some (gz_i (b)), some (gz_i (t + 1)), o] [] 50) → ∀ k, k ≤ I (34, 0, 0) (4 * s + t) → 0 ≤ k → ∀ b : Int, (b = 1 ∧ I (34, 0, 0) (4 * s + t) = I (34, 0, 0) (4 * s' + t) ∧ (∀ i, 0 ≤ i → i < k → gz_lM I s t i = gz_lM I s' t i) ∨ b = 0 ∧ ¬ gz_alM I s s' t) → gz_V l D α cA RX5 cX5_same (some .boolean) 8 2 (gz_Qi fun x I' => I = I' ∧ (x = 0 ∧ ((∀ s, 0 ≤ s → s < 12 → 0 ≤ m → I (30, 0, 0) s = m → I (31, 0, 0) s = 0) ∨ (∀ s, 0 ≤ s → s < 12 → 0 ≤ n → I (30, 0, 0) s = n → I (31, 0, 0) s = 0)) ∨ ∃ s s', ((0 ≤ s ∧ s < 12) ∧ 0 ≤ m ∧ I (30, 0, 0) s = m ∧ I (31, 0, 0) s = 1) ∧ ((0 ≤ s' ∧ s' < 12) ∧ 0 ≤ n ∧ I (30, 0, 0) s' = n ∧ I (31, 0, 0) s' = 1) ∧ x = gz_b (gz_smM I s s'))) I [some (.ref (α (20, 0, 0))), some (gz_i (m)), some (gz_i (n)), some (gz_i (s)), some (gz_i (s')), some (gz_i (b)), some (gz_i (t)), some (gz_i (k))] [] 102 := by
  intro s s' t hs hs' ht kk
  have e33 := gz_t33 hT 0 0 s
  have e34 := gz_t34 hT 0 0 (4 * s + t)
  have e34' := gz_t34 hT 0 0 (4 * s' + t)
  have e6 := hs.1
  have e7 := hs'.1
  refine gz_upto _ ?_
  intro k hk ih h0 b hb
  have hbr : 0 ≤ b ∧ b ≤ 1 := by rcases hb with h | h <;> omega
  have e1 := gz_t35 hT 0 0 (80 * (4 * s + t) + k)
  have e2 := gz_t35 hT 0 0 (80 * (4 * s' + t) + k)
  refine gz_iload (pc := 102) dX5_same_102 rfl ?_
  refine gz_if_eq (pc := 104) (tgt := 174) dX5_same_104 (by decide) (by omega) (fun h104 => ?_) (fun h104 => ?_)
  · refine gz_iinc (pc := 174) dX5_same_174 rfl rfl rfl rfl ?_
    refine gz_goto (pc := 177) (tgt := 50) dX5_same_177 (by decide) ?_
    refine kk b ?_ _
    rcases hb with ⟨b1, b2, b3⟩ | ⟨b1, b2⟩
    · first
        | exact absurd b1 (by omega)
        | exact Or.inl ⟨b1, b2, fun j a1 a2 => b3 j a1 (by omega)⟩
    · exact Or.inr ⟨b1, b2⟩
  · refine gz_iload (pc := 107) dX5_same_107 rfl ?_
    first | refine gz_aload_n (pc := 109) dX5_same_109 rfl ?_ | refine gz_aload_nN (pc := 109) dX5_same_109 rfl ?_
    refine gz_getr (pc := 110) dX5_same_110 fl_X5_54 rfl rfl rfl (by first | exact gz_B1 | (omega)) ?_
    refine gz_iconst (pc := 113) dX5_same_113 ?_
    refine gz_iload_n (pc := 114) dX5_same_114 rfl ?_
    refine gz_imul (pc := 115) dX5_same_115 ?_
    refine gz_iload (pc := 116) dX5_same_116 rfl ?_
    refine gz_iadd (pc := 118) dX5_same_118 ?_
    refine gz_iald (pc := 119) dX5_same_119 rfl rfl (by first | exact gz_B1 | (omega)) (by omega) ?_
    refine gz_icmp_ge (pc := 120) (tgt := 174) dX5_same_120 (by decide) (by omega) (by omega) (fun h120 => ?_) (fun h120 => ?_)
    · refine gz_iinc (pc := 174) dX5_same_174 rfl rfl rfl rfl ?_
      refine gz_goto (pc := 177) (tgt := 50) dX5_same_177 (by decide) ?_
      refine kk b ?_ _
      rcases hb with ⟨b1, b2, b3⟩ | ⟨b1, b2⟩
      · first
          | exact absurd b1 (by omega)
          | exact Or.inl ⟨b1, b2, fun j a1 a2 => b3 j a1 (by omega)⟩
      · exact Or.inr ⟨b1, b2⟩
    · first | refine gz_aload_n (pc := 123) dX5_same_123 rfl ?_ | refine gz_aload_nN (pc := 123) dX5_same_123 rfl ?_
      refine gz_getr (pc := 124) dX5_same_124 fl_X5_57 rfl rfl rfl (by first | exact gz_B1 | (omega)) ?_
      refine gz_bipush (pc := 127) dX5_same_127 rfl ?_
      refine gz_iconst (pc := 129) dX5_same_129 ?_
      refine gz_iload_n (pc := 130) dX5_same_130 rfl ?_
      refine gz_imul (pc := 131) dX5_same_131 ?_
      refine gz_iload (pc := 132) dX5_same_132 rfl ?_
      refine gz_iadd (pc := 134) dX5_same_134 ?_
      refine gz_imul (pc := 135) dX5_same_135 ?_
      refine gz_iload (pc := 136) dX5_same_136 rfl ?_
      refine gz_iadd (pc := 138) dX5_same_138 ?_
      refine gz_iald (pc := 139) dX5_same_139 rfl rfl (by first | exact gz_B1 | (omega)) (by omega) ?_
      first | refine gz_aload_n (pc := 140) dX5_same_140 rfl ?_ | refine gz_aload_nN (pc := 140) dX5_same_140 rfl ?_
      refine gz_getr (pc := 141) dX5_same_141 fl_X5_57 rfl rfl rfl (by first | exact gz_B1 | (omega)) ?_
      refine gz_bipush (pc := 144) dX5_same_144 rfl ?_
      refine gz_iconst (pc := 146) dX5_same_146 ?_
      refine gz_iload (pc := 147) dX5_same_147 rfl ?_
      refine gz_imul (pc := 149) dX5_same_149 ?_
      refine gz_iload (pc := 150) dX5_same_150 rfl ?_
      refine gz_iadd (pc := 152) dX5_same_152 ?_
      refine gz_imul (pc := 153) dX5_same_153 ?_
      refine gz_iload (pc := 154) dX5_same_154 rfl ?_
      refine gz_iadd (pc := 156) dX5_same_156 ?_
      refine gz_iald (pc := 157) dX5_same_157 rfl rfl (by first | exact gz_B1 | (omega)) (by omega) ?_
      refine gz_icmp_ne (pc := 158) (tgt := 165) dX5_same_158 (by decide) (by omega) (by omega) (fun h158 => ?_) (fun h158 => ?_)
      · refine gz_iconst (pc := 165) dX5_same_165 ?_
        refine gz_istore (pc := 166) dX5_same_166 rfl rfl rfl ?_
        refine gz_iinc (pc := 168) dX5_same_168 rfl rfl rfl rfl ?_
        refine gz_goto (pc := 171) (tgt := 102) dX5_same_171 (by decide) ?_
        refine ih (k + 1) (by omega) (by omega) (by omega) _ ?_
        rcases hb with ⟨b1, b2, b3⟩ | ⟨b1, b2⟩
        · first
            | (refine Or.inl ⟨rfl, b2, fun i a1 a2 => ?_⟩
               by_cases z : i = k
               · rw [z]; exact h158
               · exact b3 i a1 (by omega))
            | exact Or.inr ⟨rfl, fun z => h158 (z.2 k h0 (by omega))⟩
        · exact absurd b1 (by omega)
      · refine gz_iconst (pc := 161) dX5_same_161 ?_
        refine gz_goto (pc := 162) (tgt := 166) dX5_same_162 (by decide) ?_
        refine gz_istore (pc := 166) dX5_same_166 rfl rfl rfl ?_
        refine gz_iinc (pc := 168) dX5_same_168 rfl rfl rfl rfl ?_
        refine gz_goto (pc := 171) (tgt := 102) dX5_same_171 (by decide) ?_
        refine ih (k + 1) (by omega) (by omega) (by omega) _ ?_
        rcases hb with ⟨b1, b2, b3⟩ | ⟨b1, b2⟩
        · first
            | (refine Or.inl ⟨rfl, b2, fun i a1 a2 => ?_⟩
               by_cases z : i = k
               · rw [z]; exact h158
               · exact b3 i a1 (by omega))
            | exact Or.inr ⟨rfl, fun z => h158 (z.2 k h0 (by omega))⟩
        · exact absurd b1 (by omega)
set_option maxHeartbeats 4000000 in
set_option maxRecDepth 100000 in
theorem lp_X5_same (l : Launch) (D : va_G) (α : gz_P → Nat) (cA : Nat → ClassId) {I : gz_M} (hT : gz_T I) {m n : Int} (r_m : (-2147483648 ≤ m ∧ m ≤ 2147483647)) (r_n : (-2147483648 ≤ n ∧ n ≤ 2147483647)) (hdis : (∀ s s', 0 ≤ s → s < 12 → 0 ≤ s' → s' < 12 → I (30, 0, 0) s = I (30, 0, 0) s' → 0 ≤ I (30, 0, 0) s → s = s')) : ∀ s s', ((0 ≤ s ∧ s < 12) ∧ 0 ≤ m ∧ I (30, 0, 0) s = m ∧ I (31, 0, 0) s = 1) → ((0 ≤ s' ∧ s' < 12) ∧ 0 ≤ n ∧ I (30, 0, 0) s' = n ∧ I (31, 0, 0) s' = 1) → ∀ t, t ≤ I (33, 0, 0) s → 0 ≤ t → ∀ b : Int, (b = 1 ∧ I (33, 0, 0) s = I (33, 0, 0) s' ∧ (∀ u, 0 ≤ u → u < t → gz_alM I s s' u) ∨ b = 0 ∧ ¬ gz_smM I s s') → ∀ o : Option Value, gz_V l D α cA RX5 cX5_same (some .boolean) 8 2 (gz_Qi fun x I' => I = I' ∧ (x = 0 ∧ ((∀ s, 0 ≤ s → s < 12 → 0 ≤ m → I (30, 0, 0) s = m → I (31, 0, 0) s = 0) ∨ (∀ s, 0 ≤ s → s < 12 → 0 ≤ n → I (30, 0, 0) s = n → I (31, 0, 0) s = 0)) ∨ ∃ s s', ((0 ≤ s ∧ s < 12) ∧ 0 ≤ m ∧ I (30, 0, 0) s = m ∧ I (31, 0, 0) s = 1) ∧ ((0 ≤ s' ∧ s' < 12) ∧ 0 ≤ n ∧ I (30, 0, 0) s' = n ∧ I (31, 0, 0) s' = 1) ∧ x = gz_b (gz_smM I s s'))) I [some (.ref (α (20, 0, 0))), some (gz_i (m)), some (gz_i (n)), some (gz_i (s)), some (gz_i (s')), some (gz_i (b)), some (gz_i (t)), o] [] 50 := by
  intro s s' hs hs'
  have e33 := gz_t33 hT 0 0 s
  have e6 := hs.1
  have e7 := hs'.1
  refine gz_upto _ ?_
  intro t ht ih h0 b hb o
  have hbr : 0 ≤ b ∧ b ≤ 1 := by rcases hb with h | h <;> omega
  have e34 := gz_t34 hT 0 0 (4 * s + t)
  have e34' := gz_t34 hT 0 0 (4 * s' + t)
  refine gz_iload (pc := 50) dX5_same_50 rfl ?_
  refine gz_if_eq (pc := 52) (tgt := 180) dX5_same_52 (by decide) (by omega) (fun h52 => ?_) (fun h52 => ?_)
  · refine gz_iload (pc := 180) dX5_same_180 rfl ?_
    refine gz_zret (pc := 182) dX5_same_182 rfl (by rcases hb with h | h; exact Or.inr h.1; exact Or.inl h.1) ?_
    refine ⟨rfl, Or.inr ⟨s, s', hs, hs', ?_⟩⟩
    rcases hb with ⟨c1, c2, c3⟩ | ⟨c1, c2⟩
    · first
        | exact absurd c1 (by omega)
        | (rw [gz_b1 ⟨c2, fun u a1 a2 => c3 u a1 (by omega)⟩]; exact c1)
    · rw [gz_b0 c2]; exact c1
  · refine gz_iload (pc := 55) dX5_same_55 rfl ?_
    first | refine gz_aload_n (pc := 57) dX5_same_57 rfl ?_ | refine gz_aload_nN (pc := 57) dX5_same_57 rfl ?_
    refine gz_getr (pc := 58) dX5_same_58 fl_X5_51 rfl rfl rfl (by first | exact gz_B1 | (omega)) ?_
    refine gz_iload_n (pc := 61) dX5_same_61 rfl ?_
    refine gz_iald (pc := 62) dX5_same_62 rfl rfl (by first | exact gz_B1 | (omega)) (by omega) ?_
    refine gz_icmp_ge (pc := 63) (tgt := 180) dX5_same_63 (by decide) (by omega) (by omega) (fun h63 => ?_) (fun h63 => ?_)
    · refine gz_iload (pc := 180) dX5_same_180 rfl ?_
      refine gz_zret (pc := 182) dX5_same_182 rfl (by rcases hb with h | h; exact Or.inr h.1; exact Or.inl h.1) ?_
      refine ⟨rfl, Or.inr ⟨s, s', hs, hs', ?_⟩⟩
      rcases hb with ⟨c1, c2, c3⟩ | ⟨c1, c2⟩
      · first
          | exact absurd c1 (by omega)
          | (rw [gz_b1 ⟨c2, fun u a1 a2 => c3 u a1 (by omega)⟩]; exact c1)
      · rw [gz_b0 c2]; exact c1
    · first | refine gz_aload_n (pc := 66) dX5_same_66 rfl ?_ | refine gz_aload_nN (pc := 66) dX5_same_66 rfl ?_
      refine gz_getr (pc := 67) dX5_same_67 fl_X5_54 rfl rfl rfl (by first | exact gz_B1 | (omega)) ?_
      refine gz_iconst (pc := 70) dX5_same_70 ?_
      refine gz_iload_n (pc := 71) dX5_same_71 rfl ?_
      refine gz_imul (pc := 72) dX5_same_72 ?_
      refine gz_iload (pc := 73) dX5_same_73 rfl ?_
      refine gz_iadd (pc := 75) dX5_same_75 ?_
      refine gz_iald (pc := 76) dX5_same_76 rfl rfl (by first | exact gz_B1 | (omega)) (by omega) ?_
      first | refine gz_aload_n (pc := 77) dX5_same_77 rfl ?_ | refine gz_aload_nN (pc := 77) dX5_same_77 rfl ?_
      refine gz_getr (pc := 78) dX5_same_78 fl_X5_54 rfl rfl rfl (by first | exact gz_B1 | (omega)) ?_
      refine gz_iconst (pc := 81) dX5_same_81 ?_
      refine gz_iload (pc := 82) dX5_same_82 rfl ?_
      refine gz_imul (pc := 84) dX5_same_84 ?_
      refine gz_iload (pc := 85) dX5_same_85 rfl ?_
      refine gz_iadd (pc := 87) dX5_same_87 ?_
      refine gz_iald (pc := 88) dX5_same_88 rfl rfl (by first | exact gz_B1 | (omega)) (by omega) ?_
      refine gz_icmp_ne (pc := 89) (tgt := 96) dX5_same_89 (by decide) (by omega) (by omega) (fun h89 => ?_) (fun h89 => ?_)
      · refine gz_iconst (pc := 96) dX5_same_96 ?_
        refine gz_istore (pc := 97) dX5_same_97 rfl rfl rfl ?_
        refine gz_iconst (pc := 99) dX5_same_99 ?_
        refine gz_istore (pc := 100) dX5_same_100 rfl rfl rfl ?_
        first
          | (refine lp_X5_same2 l D α cA hT r_m r_n hdis s s' t hs hs' (by omega) ?_ 0 (by omega) (by omega) _ (Or.inl ⟨rfl, h89, fun i a1 a2 => by omega⟩)
             intro b' hb' o
             refine ih (t + 1) (by omega) (by omega) (by omega) b' ?_ _
             rcases hb with ⟨c1, c2, c3⟩ | ⟨c1, c2⟩
             · rcases hb' with ⟨d1, d2⟩ | ⟨d1, d2⟩
               · refine Or.inl ⟨d1, c2, fun u a1 a2 => ?_⟩
                 by_cases z : u = t
                 · rw [z]; exact d2
                 · exact c3 u a1 (by omega)
               · exact Or.inr ⟨d1, fun z => d2 (z.2 t h0 (by omega))⟩
             · exact absurd c1 (by omega))
          | (refine lp_X5_same2 l D α cA hT r_m r_n hdis s s' t hs hs' (by omega) ?_ 0 (by omega) (by omega) _ (Or.inr ⟨rfl, fun z => h89 z.1⟩)
             intro b' hb' o
             refine ih (t + 1) (by omega) (by omega) (by omega) b' ?_ _
             rcases hb with ⟨c1, c2, c3⟩ | ⟨c1, c2⟩
             · rcases hb' with ⟨d1, d2⟩ | ⟨d1, d2⟩
               · refine Or.inl ⟨d1, c2, fun u a1 a2 => ?_⟩
                 by_cases z : u = t
                 · rw [z]; exact d2
                 · exact c3 u a1 (by omega)
               · exact Or.inr ⟨d1, fun z => d2 (z.2 t h0 (by omega))⟩
             · exact absurd c1 (by omega))
      · refine gz_iconst (pc := 92) dX5_same_92 ?_
        refine gz_goto (pc := 93) (tgt := 97) dX5_same_93 (by decide) ?_
        refine gz_istore (pc := 97) dX5_same_97 rfl rfl rfl ?_
        refine gz_iconst (pc := 99) dX5_same_99 ?_
        refine gz_istore (pc := 100) dX5_same_100 rfl rfl rfl ?_
        first
          | (refine lp_X5_same2 l D α cA hT r_m r_n hdis s s' t hs hs' (by omega) ?_ 0 (by omega) (by omega) _ (Or.inl ⟨rfl, h89, fun i a1 a2 => by omega⟩)
             intro b' hb' o
             refine ih (t + 1) (by omega) (by omega) (by omega) b' ?_ _
             rcases hb with ⟨c1, c2, c3⟩ | ⟨c1, c2⟩
             · rcases hb' with ⟨d1, d2⟩ | ⟨d1, d2⟩
               · refine Or.inl ⟨d1, c2, fun u a1 a2 => ?_⟩
                 by_cases z : u = t
                 · rw [z]; exact d2
                 · exact c3 u a1 (by omega)
               · exact Or.inr ⟨d1, fun z => d2 (z.2 t h0 (by omega))⟩
             · exact absurd c1 (by omega))
          | (refine lp_X5_same2 l D α cA hT r_m r_n hdis s s' t hs hs' (by omega) ?_ 0 (by omega) (by omega) _ (Or.inr ⟨rfl, fun z => h89 z.1⟩)
             intro b' hb' o
             refine ih (t + 1) (by omega) (by omega) (by omega) b' ?_ _
             rcases hb with ⟨c1, c2, c3⟩ | ⟨c1, c2⟩
             · rcases hb' with ⟨d1, d2⟩ | ⟨d1, d2⟩
               · refine Or.inl ⟨d1, c2, fun u a1 a2 => ?_⟩
                 by_cases z : u = t
                 · rw [z]; exact d2
                 · exact c3 u a1 (by omega)
               · exact Or.inr ⟨d1, fun z => d2 (z.2 t h0 (by omega))⟩
             · exact absurd c1 (by omega))
set_option maxHeartbeats 4000000 in
set_option maxRecDepth 100000 in
theorem ct_X5_same (l : Launch) (D : va_G) (α : gz_P → Nat) (cA : Nat → ClassId) {I : gz_M} (hT : gz_T I) {m n : Int} (r_m : (-2147483648 ≤ m ∧ m ≤ 2147483647)) (r_n : (-2147483648 ≤ n ∧ n ≤ 2147483647)) (hdis : (∀ s s', 0 ≤ s → s < 12 → 0 ≤ s' → s' < 12 → I (30, 0, 0) s = I (30, 0, 0) s' → 0 ≤ I (30, 0, 0) s → s = s')) : gz_V l D α cA RX5 cX5_same (some .boolean) 8 2 (gz_Qi fun x I' => I = I' ∧ (x = 0 ∧ ((∀ s, 0 ≤ s → s < 12 → 0 ≤ m → I (30, 0, 0) s = m → I (31, 0, 0) s = 0) ∨ (∀ s, 0 ≤ s → s < 12 → 0 ≤ n → I (30, 0, 0) s = n → I (31, 0, 0) s = 0)) ∨ ∃ s s', ((0 ≤ s ∧ s < 12) ∧ 0 ≤ m ∧ I (30, 0, 0) s = m ∧ I (31, 0, 0) s = 1) ∧ ((0 ≤ s' ∧ s' < 12) ∧ 0 ≤ n ∧ I (30, 0, 0) s' = n ∧ I (31, 0, 0) s' = 1) ∧ x = gz_b (gz_smM I s s'))) I [some (.ref (α (20, 0, 0))), some (gz_i (m)), some (gz_i (n)), none, none, none, none, none] [] 0 := by
  first | refine gz_aload_n (pc := 0) dX5_same_0 rfl ?_ | refine gz_aload_nN (pc := 0) dX5_same_0 rfl ?_
  refine gz_iload_n (pc := 1) dX5_same_1 rfl ?_
  refine gz_cV1i (pc := 2) dX5_same_2 wm_X5_137 my_X5_keptSlot rfl rfl rfl (by first | exact gz_B1 | (omega)) (ct_X5_keptSlot l D α cA hT r_m hdis) (fun x2 I2 h2 => ?_)
  obtain ⟨rfl, hx2⟩ := h2
  have hxr2 : -1 ≤ x2 ∧ x2 < 12 := by rcases hx2 with h | h <;> omega
  refine gz_istore_n (pc := 5) dX5_same_5 rfl rfl rfl ?_
  first | refine gz_aload_n (pc := 6) dX5_same_6 rfl ?_ | refine gz_aload_nN (pc := 6) dX5_same_6 rfl ?_
  refine gz_iload_n (pc := 7) dX5_same_7 rfl ?_
  refine gz_cV1i (pc := 8) dX5_same_8 wm_X5_137 my_X5_keptSlot rfl rfl rfl (by first | exact gz_B1 | (omega)) (ct_X5_keptSlot l D α cA hT r_n hdis) (fun x8 I8 h8 => ?_)
  obtain ⟨rfl, hx8⟩ := h8
  have hxr8 : -1 ≤ x8 ∧ x8 < 12 := by rcases hx8 with h | h <;> omega
  refine gz_istore (pc := 11) dX5_same_11 rfl rfl rfl ?_
  have a33 := gz_t33 hT 0 0 x2
  have b33 := gz_t33 hT 0 0 x8
  refine gz_iload_n (pc := 13) dX5_same_13 rfl ?_
  refine gz_iconst (pc := 14) dX5_same_14 ?_
  refine gz_icmp_eq (pc := 15) (tgt := 44) dX5_same_15 (by decide) (by omega) (by omega) (fun h15 => ?_) (fun h15 => ?_)
  · refine gz_iconst (pc := 44) dX5_same_44 ?_
    refine gz_istore (pc := 45) dX5_same_45 rfl rfl rfl ?_
    refine gz_iconst (pc := 47) dX5_same_47 ?_
    refine gz_istore (pc := 48) dX5_same_48 rfl rfl rfl ?_
    first
      | (have hz37 := h37
         rcases hx2 with ⟨q1, q2⟩ | q
         · exact absurd q1 h15
         · rcases hx8 with ⟨q1, q2⟩ | q3
           · exact absurd q1 h21
           · have ht0 := gz_t33 hT 0 0 x2
             first
               | exact lp_X5_same l D α cA hT r_m r_n hdis x2 x8 q q3 0 (by omega) (by omega) 1 (Or.inl ⟨rfl, h37, fun u a1 a2 => by omega⟩) _
               | exact lp_X5_same l D α cA hT r_m r_n hdis x2 x8 q q3 0 (by omega) (by omega) 0 (Or.inr ⟨rfl, fun z => h37 z.1⟩) _)
      | (refine gz_iload (pc := 50) dX5_same_50 rfl ?_
         refine gz_if_eq (pc := 52) (tgt := 180) dX5_same_52 (by decide) (by omega) (fun h52 => ?_) (fun h52 => ?_)
         · refine gz_iload (pc := 180) dX5_same_180 rfl ?_
           refine gz_zret (pc := 182) dX5_same_182 rfl (by first | exact Or.inl rfl | exact Or.inr rfl | omega) ?_
           rcases hx2 with ⟨q1, q2⟩ | q
           · exact ⟨rfl, Or.inl ⟨rfl, Or.inl q2⟩⟩
           · rcases hx8 with ⟨q1, q2⟩ | q3
             · exact ⟨rfl, Or.inl ⟨rfl, Or.inr q2⟩⟩
             · first
                 | exact absurd q.1 (by omega)
                 | exact absurd q3.1 (by omega)
         · exact absurd rfl h52)
  · refine gz_iload (pc := 18) dX5_same_18 rfl ?_
    refine gz_iconst (pc := 20) dX5_same_20 ?_
    refine gz_icmp_eq (pc := 21) (tgt := 44) dX5_same_21 (by decide) (by omega) (by omega) (fun h21 => ?_) (fun h21 => ?_)
    · refine gz_iconst (pc := 44) dX5_same_44 ?_
      refine gz_istore (pc := 45) dX5_same_45 rfl rfl rfl ?_
      refine gz_iconst (pc := 47) dX5_same_47 ?_
      refine gz_istore (pc := 48) dX5_same_48 rfl rfl rfl ?_
      first
        | (have hz37 := h37
           rcases hx2 with ⟨q1, q2⟩ | q
           · exact absurd q1 h15
           · rcases hx8 with ⟨q1, q2⟩ | q3
             · exact absurd q1 h21
             · have ht0 := gz_t33 hT 0 0 x2
               first
                 | exact lp_X5_same l D α cA hT r_m r_n hdis x2 x8 q q3 0 (by omega) (by omega) 1 (Or.inl ⟨rfl, h37, fun u a1 a2 => by omega⟩) _
                 | exact lp_X5_same l D α cA hT r_m r_n hdis x2 x8 q q3 0 (by omega) (by omega) 0 (Or.inr ⟨rfl, fun z => h37 z.1⟩) _)
        | (refine gz_iload (pc := 50) dX5_same_50 rfl ?_
           refine gz_if_eq (pc := 52) (tgt := 180) dX5_same_52 (by decide) (by omega) (fun h52 => ?_) (fun h52 => ?_)
           · refine gz_iload (pc := 180) dX5_same_180 rfl ?_
             refine gz_zret (pc := 182) dX5_same_182 rfl (by first | exact Or.inl rfl | exact Or.inr rfl | omega) ?_
             rcases hx2 with ⟨q1, q2⟩ | q
             · exact ⟨rfl, Or.inl ⟨rfl, Or.inl q2⟩⟩
             · rcases hx8 with ⟨q1, q2⟩ | q3
               · exact ⟨rfl, Or.inl ⟨rfl, Or.inr q2⟩⟩
               · first
                   | exact absurd q.1 (by omega)
                   | exact absurd q3.1 (by omega)
           · exact absurd rfl h52)
    · first | refine gz_aload_n (pc := 24) dX5_same_24 rfl ?_ | refine gz_aload_nN (pc := 24) dX5_same_24 rfl ?_
      refine gz_getr (pc := 25) dX5_same_25 fl_X5_51 rfl rfl rfl (by first | exact gz_B1 | (omega)) ?_
      refine gz_iload_n (pc := 28) dX5_same_28 rfl ?_
      refine gz_iald (pc := 29) dX5_same_29 rfl rfl (by first | exact gz_B1 | (omega)) (by omega) ?_
      first | refine gz_aload_n (pc := 30) dX5_same_30 rfl ?_ | refine gz_aload_nN (pc := 30) dX5_same_30 rfl ?_
      refine gz_getr (pc := 31) dX5_same_31 fl_X5_51 rfl rfl rfl (by first | exact gz_B1 | (omega)) ?_
      refine gz_iload (pc := 34) dX5_same_34 rfl ?_
      refine gz_iald (pc := 36) dX5_same_36 rfl rfl (by first | exact gz_B1 | (omega)) (by omega) ?_
      refine gz_icmp_ne (pc := 37) (tgt := 44) dX5_same_37 (by decide) (by omega) (by omega) (fun h37 => ?_) (fun h37 => ?_)
      · refine gz_iconst (pc := 44) dX5_same_44 ?_
        refine gz_istore (pc := 45) dX5_same_45 rfl rfl rfl ?_
        refine gz_iconst (pc := 47) dX5_same_47 ?_
        refine gz_istore (pc := 48) dX5_same_48 rfl rfl rfl ?_
        first
          | (have hz37 := h37
             rcases hx2 with ⟨q1, q2⟩ | q
             · exact absurd q1 h15
             · rcases hx8 with ⟨q1, q2⟩ | q3
               · exact absurd q1 h21
               · have ht0 := gz_t33 hT 0 0 x2
                 first
                   | exact lp_X5_same l D α cA hT r_m r_n hdis x2 x8 q q3 0 (by omega) (by omega) 1 (Or.inl ⟨rfl, h37, fun u a1 a2 => by omega⟩) _
                   | exact lp_X5_same l D α cA hT r_m r_n hdis x2 x8 q q3 0 (by omega) (by omega) 0 (Or.inr ⟨rfl, fun z => h37 z.1⟩) _)
          | (refine gz_iload (pc := 50) dX5_same_50 rfl ?_
             refine gz_if_eq (pc := 52) (tgt := 180) dX5_same_52 (by decide) (by omega) (fun h52 => ?_) (fun h52 => ?_)
             · refine gz_iload (pc := 180) dX5_same_180 rfl ?_
               refine gz_zret (pc := 182) dX5_same_182 rfl (by first | exact Or.inl rfl | exact Or.inr rfl | omega) ?_
               rcases hx2 with ⟨q1, q2⟩ | q
               · exact ⟨rfl, Or.inl ⟨rfl, Or.inl q2⟩⟩
               · rcases hx8 with ⟨q1, q2⟩ | q3
                 · exact ⟨rfl, Or.inl ⟨rfl, Or.inr q2⟩⟩
                 · first
                     | exact absurd q.1 (by omega)
                     | exact absurd q3.1 (by omega)
             · exact absurd rfl h52)
      · refine gz_iconst (pc := 40) dX5_same_40 ?_
        refine gz_goto (pc := 41) (tgt := 45) dX5_same_41 (by decide) ?_
        refine gz_istore (pc := 45) dX5_same_45 rfl rfl rfl ?_
        refine gz_iconst (pc := 47) dX5_same_47 ?_
        refine gz_istore (pc := 48) dX5_same_48 rfl rfl rfl ?_
        first
          | (have hz37 := h37
             rcases hx2 with ⟨q1, q2⟩ | q
             · exact absurd q1 h15
             · rcases hx8 with ⟨q1, q2⟩ | q3
               · exact absurd q1 h21
               · have ht0 := gz_t33 hT 0 0 x2
                 first
                   | exact lp_X5_same l D α cA hT r_m r_n hdis x2 x8 q q3 0 (by omega) (by omega) 1 (Or.inl ⟨rfl, h37, fun u a1 a2 => by omega⟩) _
                   | exact lp_X5_same l D α cA hT r_m r_n hdis x2 x8 q q3 0 (by omega) (by omega) 0 (Or.inr ⟨rfl, fun z => h37 z.1⟩) _)
          | (refine gz_iload (pc := 50) dX5_same_50 rfl ?_
             refine gz_if_eq (pc := 52) (tgt := 180) dX5_same_52 (by decide) (by omega) (fun h52 => ?_) (fun h52 => ?_)
             · refine gz_iload (pc := 180) dX5_same_180 rfl ?_
               refine gz_zret (pc := 182) dX5_same_182 rfl (by first | exact Or.inl rfl | exact Or.inr rfl | omega) ?_
               rcases hx2 with ⟨q1, q2⟩ | q
               · exact ⟨rfl, Or.inl ⟨rfl, Or.inl q2⟩⟩
               · rcases hx8 with ⟨q1, q2⟩ | q3
                 · exact ⟨rfl, Or.inl ⟨rfl, Or.inr q2⟩⟩
                 · first
                     | exact absurd q.1 (by omega)
                     | exact absurd q3.1 (by omega)
             · exact absurd rfl h52)
