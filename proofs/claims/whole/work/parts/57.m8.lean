def gz_MkF (I0 I' : gz_M) (s : Int) : Prop := gz_T I' ∧ gz_aM I' = gz_aM I0 ∧ gz_Mf I0 I' s ∧ ∃ u, (0 ≤ u ∧ u < I0 (20, 0, 0) 0) ∧ ¬ gz_fk (gz_FM I0) (gz_ZM I0) (gz_aM I0) u.toNat
def gz_MkS (I0 I' : gz_M) (s w : Int) : Prop := ∃ (I1 : gz_M) (u : Int), (gz_T I1 ∧ gz_Mf I0 I1 s ∧ gz_NI I0 I1 ∧ (∀ v, 0 ≤ v → v < I0 (20, 0, 0) 0 → gz_fk (gz_FM I0) (gz_ZM I0) (gz_aM I0) v.toNat ∧ gz_Ml I0 I1 s v) ∧ gz_aM I1 = gz_ft (gz_FM I0) (gz_ZM I0) (gz_aM I0) (I0 (20, 0, 0) 0).toNat) ∧ gz_lat I1 w u ∧ gz_CI (gz_up (gz_m1 I1 s (gz_sm (gz_ZM I0) (I0 (20, 0, 0) 0).toNat) u) (36, 0, 0) s (gz_sm (gz_tl (gz_m1 I1 s (gz_sm (gz_ZM I0) (I0 (20, 0, 0) 0).toNat) u) s u) (I1 (20, 0, 0) 0).toNat)) I' s (I1 (20, 0, 0) 0)
def gz_MkQ (I0 : gz_M) (w x : Int) (I' : gz_M) : Prop := ¬ (w = 0 ∨ w = 1) ∧ x = -2 ∧ I0 = I' ∨ (w = 0 ∨ w = 1) ∧ gz_sm (fun s => gz_b (¬ I0 (30, 0, 0) s = -1)) 12 = 12 ∧ x = -3 ∧ I0 = I' ∨ (w = 0 ∨ w = 1) ∧ ∃ s, (0 ≤ s ∧ s < 12) ∧ I0 (30, 0, 0) s = -1 ∧ (x = -3 ∧ gz_MkF I0 I' s ∨ x = I0 (20, 0, 0) 10 ∧ gz_MkS I0 I' s w)
def gz_Fl (I0 I : gz_M) (s : Int) : Prop := gz_T I ∧ gz_Mf I0 I s ∧ gz_NI I0 I ∧ ∃ u, (0 ≤ u ∧ u < I0 (20, 0, 0) 0) ∧ ¬ gz_fk (gz_FM I0) (gz_ZM I0) (gz_aM I0) u.toNat
set_option maxHeartbeats 4000000 in
set_option maxRecDepth 100000 in
theorem lp_X5_markF (l : Launch) (D : va_G) (α : gz_P → Nat) (cA : Nat → ClassId) {I0 : gz_M} (hT0 : gz_T I0) {s w : Int} (hs : 0 ≤ s ∧ s < 12) (hsn : I0 (30, 0, 0) s = -1) (hw : w = 0 ∨ w = 1) : ∀ I1 : gz_M, gz_Fl I0 I1 s → ∀ k, k ≤ 120 → ∀ I : gz_M, 0 ≤ k → gz_T I → (∀ p, 0 ≤ p → p < 120 → I (24, 0, 0) p = if p < k then I0 (24, 0, 0) p else I1 (24, 0, 0) p) → (∀ q : gz_P, q ≠ (24, 0, 0) → I q = I1 q) → ∀ (r4 : Int) (o6 o7 o8 o9 o10 : Option Value), gz_V l D α cA RX5 cX5_mark (some .int) 11 6 (gz_Qi (gz_MkQ I0 w)) I [some (.ref (α (20, 0, 0))), some (gz_i (w)), some (gz_i (s)), some (gz_i (0)), some (gz_i (r4)), some (gz_i (k)), o6, o7, o8, o9, o10] [] 232 := by
  intro I1 hF
  have hni := hF.2.2.1
  refine gz_upto _ ?_
  intro k hk ih I h0 hTI h24 hI r4 o6 o7 o8 o9 o10
  have e1 := gz_t24 hTI 0 0 k
  have r39 : I (39, 0, 0) k = I1 (39, 0, 0) k := by rw [hI _ (gz_ne rfl)]
  have e39 := gz_t39 hF.1 0 0 k
  have r24 : k < 120 → I (24, 0, 0) k = I1 (24, 0, 0) k := fun hlt => by rw [h24 k h0 hlt, if_neg (by omega)]
  refine gz_iload (pc := 232) dX5_mark_232 rfl ?_
  refine gz_bipush (pc := 234) dX5_mark_234 rfl ?_
  refine gz_icmp_ge (pc := 236) (tgt := 273) dX5_mark_236 (by decide) (by omega) (by omega) (fun h236 => ?_) (fun h236 => ?_)
  · refine gz_bipush (pc := 273) dX5_mark_273 rfl ?_
    refine gz_iret (pc := 275) dX5_mark_275 rfl ?_
    refine Or.inr (Or.inr ⟨hw, s, hs, hsn, Or.inl ⟨rfl, hTI, ?_, ⟨fun q q1 q2 q3 q4 q5 q6 q7 => by rw [hI q q1]; exact hF.2.1.1 q q1 q2 q3 q4 q5 q6 q7, fun j hj => by rw [hI _ (gz_ne rfl)]; exact hF.2.1.2.1 j hj, fun j hj => by rw [hI _ (gz_ne rfl)]; exact hF.2.1.2.2 j hj⟩, hF.2.2.2⟩⟩)
    have h24b : ∀ p, 0 ≤ p → p < 120 → I (24, 0, 0) p = I0 (24, 0, 0) p := fun p b1 b2 => by rw [h24 p b1 b2, if_pos (by omega)]
    refine gz_aM_eq h24b (fun p b1 b2 b3 => ?_)
    rw [hI _ (gz_ne rfl), hI _ (gz_ne rfl), hI _ (gz_ne rfl)]
    have e9 := gz_t24 hT0 0 0 p
    rcases hni p b1 b2 with h | h
    · omega
    · exact ⟨h.2.2.1, h.2.2.2.1, fun i c1 c2 => h.2.2.2.2 i c1 (by omega)⟩
  · first | refine gz_aload_n (pc := 239) dX5_mark_239 rfl ?_ | refine gz_aload_nN (pc := 239) dX5_mark_239 rfl ?_
    refine gz_getr (pc := 240) dX5_mark_240 fl_X5_23 rfl rfl rfl (by first | exact gz_B1 | (omega)) ?_
    refine gz_iload (pc := 243) dX5_mark_243 rfl ?_
    first | refine gz_aload_n (pc := 245) dX5_mark_245 rfl ?_ | refine gz_aload_nN (pc := 245) dX5_mark_245 rfl ?_
    refine gz_getr (pc := 246) dX5_mark_246 fl_X5_69 rfl rfl rfl (by first | exact gz_B1 | (omega)) ?_
    refine gz_iload (pc := 249) dX5_mark_249 rfl ?_
    refine gz_zald (pc := 251) dX5_mark_251 rfl rfl (by first | exact gz_B1 | (omega)) (by omega) ?_
    rw [r39]
    refine gz_if_eq (pc := 252) (tgt := 259) dX5_mark_252 (by decide) (by omega) (fun h252 => ?_) (fun h252 => ?_)
    · first | refine gz_aload_n (pc := 259) dX5_mark_259 rfl ?_ | refine gz_aload_nN (pc := 259) dX5_mark_259 rfl ?_
      refine gz_getr (pc := 260) dX5_mark_260 fl_X5_23 rfl rfl rfl (by first | exact gz_B1 | (omega)) ?_
      refine gz_iload (pc := 263) dX5_mark_263 rfl ?_
      refine gz_iald (pc := 265) dX5_mark_265 rfl rfl (by first | exact gz_B1 | (omega)) (by omega) ?_
      refine gz_iast (pc := 266) dX5_mark_266 rfl rfl (by first | exact gz_B1 | (omega)) (by omega) ?_
      refine gz_iinc (pc := 267) dX5_mark_267 rfl rfl rfl rfl ?_
      refine gz_goto (pc := 270) (tgt := 232) dX5_mark_270 (by decide) ?_
      refine ih (k + 1) (by omega) (by omega) _ (by omega) (gz_Tu24 hTI (by omega)) (fun p b1 b2 => ?_) (fun q hq => by rw [gz_up_ne hq]; exact hI q hq) _ _ _ _ _ _
      rw [gz_up_eq]
      by_cases z : p = k
      · rw [if_pos z, if_pos (by omega), z]
        rcases hni k h0 (by omega) with h | h
        · first
            | exact absurd h.1 (by omega)
            | (rw [h.2])
        · first
            | exact absurd h.1 (by omega)
            | (rw [r24 (by omega)]; exact h.2.1)
      · rw [if_neg z, h24 p b1 b2]
        by_cases z2 : p < k
        · rw [if_pos z2, if_pos (by omega)]
        · rw [if_neg z2, if_neg (by omega)]
    · refine gz_iconst (pc := 255) dX5_mark_255 ?_
      refine gz_goto (pc := 256) (tgt := 266) dX5_mark_256 (by decide) ?_
      refine gz_iast (pc := 266) dX5_mark_266 rfl rfl (by first | exact gz_B1 | (omega)) (by omega) ?_
      refine gz_iinc (pc := 267) dX5_mark_267 rfl rfl rfl rfl ?_
      refine gz_goto (pc := 270) (tgt := 232) dX5_mark_270 (by decide) ?_
      refine ih (k + 1) (by omega) (by omega) _ (by omega) (gz_Tu24 hTI (by omega)) (fun p b1 b2 => ?_) (fun q hq => by rw [gz_up_ne hq]; exact hI q hq) _ _ _ _ _ _
      rw [gz_up_eq]
      by_cases z : p = k
      · rw [if_pos z, if_pos (by omega), z]
        rcases hni k h0 (by omega) with h | h
        · first
            | exact absurd h.1 (by omega)
            | (rw [h.2])
        · first
            | exact absurd h.1 (by omega)
            | (rw [r24 (by omega)]; exact h.2.1)
      · rw [if_neg z, h24 p b1 b2]
        by_cases z2 : p < k
        · rw [if_pos z2, if_pos (by omega)]
        · rw [if_neg z2, if_neg (by omega)]
set_option maxHeartbeats 4000000 in
set_option maxRecDepth 100000 in
theorem lp_X5_markF71 (l : Launch) (D : va_G) (α : gz_P → Nat) (cA : Nat → ClassId) {I0 : gz_M} (hT0 : gz_T I0) {s w : Int} (hs : 0 ≤ s ∧ s < 12) (hsn : I0 (30, 0, 0) s = -1) (hw : w = 0 ∨ w = 1) {I : gz_M} (hF : gz_Fl I0 I s) {t a : Int} (ht : 0 ≤ t ∧ t ≤ 4) {o6 o7 o8 o9 o10 : Option Value} : gz_V l D α cA RX5 cX5_mark (some .int) 11 6 (gz_Qi (gz_MkQ I0 w)) I [some (.ref (α (20, 0, 0))), some (gz_i (w)), some (gz_i (s)), some (gz_i (0)), some (gz_i (a)), some (gz_i (t)), o6, o7, o8, o9, o10] [] 71 := by
  have e0 := gz_tM0 hF.1 0 0
  refine gz_iload (pc := 71) dX5_mark_71 rfl ?_
  first | refine gz_aload_n (pc := 73) dX5_mark_73 rfl ?_ | refine gz_aload_nN (pc := 73) dX5_mark_73 rfl ?_
  refine gz_getI (pc := 74) 0 dX5_mark_74 fl_X5_7 rfl rfl rfl rfl (by first | exact gz_B1 | (omega)) ?_
  refine gz_icmp_ge (pc := 77) (tgt := 225) dX5_mark_77 (by decide) (by omega) (by omega) (fun h77 => ?_) (fun h77 => ?_)
  · refine gz_iload_n (pc := 225) dX5_mark_225 rfl ?_
    refine gz_if_ne (pc := 226) (tgt := 276) dX5_mark_226 (by decide) (by omega) (fun h226 => ?_) (fun h226 => ?_)
    · first | exact absurd rfl h226 | exact absurd h226 (by decide)
    · refine gz_iconst (pc := 229) dX5_mark_229 ?_
      refine gz_istore (pc := 230) dX5_mark_230 rfl rfl rfl ?_
      exact lp_X5_markF l D α cA hT0 hs hsn hw I hF 0 (by omega) I (by omega) hF.1 (fun p b1 b2 => by rw [if_neg (by omega)]) (fun q _ => rfl) _ _ _ _ _ _
  · refine gz_iload_n (pc := 80) dX5_mark_80 rfl ?_
    refine gz_if_eq (pc := 81) (tgt := 225) dX5_mark_81 (by decide) (by omega) (fun h81 => ?_) (fun h81 => ?_)
    · refine gz_iload_n (pc := 225) dX5_mark_225 rfl ?_
      refine gz_if_ne (pc := 226) (tgt := 276) dX5_mark_226 (by decide) (by omega) (fun h226 => ?_) (fun h226 => ?_)
      · first | exact absurd rfl h226 | exact absurd h226 (by decide)
      · refine gz_iconst (pc := 229) dX5_mark_229 ?_
        refine gz_istore (pc := 230) dX5_mark_230 rfl rfl rfl ?_
        exact lp_X5_markF l D α cA hT0 hs hsn hw I hF 0 (by omega) I (by omega) hF.1 (fun p b1 b2 => by rw [if_neg (by omega)]) (fun q _ => rfl) _ _ _ _ _ _
    · first | exact absurd rfl h81 | exact absurd h81 (by decide)
set_option maxHeartbeats 4000000 in
set_option maxRecDepth 100000 in
theorem lp_X5_markF99 (l : Launch) (D : va_G) (α : gz_P → Nat) (cA : Nat → ClassId) {I0 : gz_M} (hT0 : gz_T I0) {s w : Int} (hs : 0 ≤ s ∧ s < 12) (hsn : I0 (30, 0, 0) s = -1) (hw : w = 0 ∨ w = 1) {I : gz_M} (hF : gz_Fl I0 I s) {t a : Int} {v6 : Int} (ht : 0 ≤ t ∧ t < 4) (h6 : 0 ≤ v6 ∧ v6 ≤ 2000) {o7 o8 o9 o10 : Option Value} : gz_V l D α cA RX5 cX5_mark (some .int) 11 6 (gz_Qi (gz_MkQ I0 w)) I [some (.ref (α (20, 0, 0))), some (gz_i (w)), some (gz_i (s)), some (gz_i (0)), some (gz_i (a)), some (gz_i (t)), some (gz_i (v6)), o7, o8, o9, o10] [] 99 := by
  have e0 := gz_t21 hF.1 0 0 t
  refine gz_iload (pc := 99) dX5_mark_99 rfl ?_
  first | refine gz_aload_n (pc := 101) dX5_mark_101 rfl ?_ | refine gz_aload_nN (pc := 101) dX5_mark_101 rfl ?_
  refine gz_getr (pc := 102) dX5_mark_102 fl_X5_13 rfl rfl rfl (by first | exact gz_B1 | (omega)) ?_
  refine gz_iload (pc := 105) dX5_mark_105 rfl ?_
  refine gz_iald (pc := 107) dX5_mark_107 rfl rfl (by first | exact gz_B1 | (omega)) (by omega) ?_
  refine gz_icmp_ge (pc := 108) (tgt := 219) dX5_mark_108 (by decide) (by omega) (by omega) (fun h108 => ?_) (fun h108 => ?_)
  · refine gz_iinc (pc := 219) dX5_mark_219 rfl rfl rfl rfl ?_
    refine gz_goto (pc := 222) (tgt := 71) dX5_mark_222 (by decide) ?_
    exact lp_X5_markF71 l D α cA hT0 hs hsn hw hF (by omega)
  · refine gz_iload_n (pc := 111) dX5_mark_111 rfl ?_
    refine gz_if_eq (pc := 112) (tgt := 219) dX5_mark_112 (by decide) (by omega) (fun h112 => ?_) (fun h112 => ?_)
    · refine gz_iinc (pc := 219) dX5_mark_219 rfl rfl rfl rfl ?_
      refine gz_goto (pc := 222) (tgt := 71) dX5_mark_222 (by decide) ?_
      exact lp_X5_markF71 l D α cA hT0 hs hsn hw hF (by omega)
    · first | exact absurd rfl h112 | exact absurd h112 (by decide)
set_option maxHeartbeats 4000000 in
set_option maxRecDepth 100000 in
theorem lp_X5_markI (l : Launch) (D : va_G) (α : gz_P → Nat) (cA : Nat → ClassId) {I0 : gz_M} (hT0 : gz_T I0) {s w : Int} (hs : 0 ≤ s ∧ s < 12) (hsn : I0 (30, 0, 0) s = -1) (hw : w = 0 ∨ w = 1) : ∀ t, (0 ≤ t ∧ t < I0 (20, 0, 0) 0) → (∀ I : gz_M, gz_T I → gz_Mf I0 I s → gz_NI I0 I → (∀ v, 0 ≤ v → v < t + 1 → gz_fk (gz_FM I0) (gz_ZM I0) (gz_aM I0) v.toNat ∧ gz_Ml I0 I s v) → gz_aM I = gz_ft (gz_FM I0) (gz_ZM I0) (gz_aM I0) (t + 1).toNat → gz_tot (gz_aM I) ≤ 2400 → ∀ o6 o7 o8 o9 o10 : Option Value, gz_V l D α cA RX5 cX5_mark (some .int) 11 6 (gz_Qi (gz_MkQ I0 w)) I [some (.ref (α (20, 0, 0))), some (gz_i (w)), some (gz_i (s)), some (gz_i (1)), some (gz_i (gz_sm (gz_ZM I0) (t + 1).toNat)), some (gz_i (t + 1)), o6, o7, o8, o9, o10] [] 71) → ∀ a, a ≤ (I0 (21, 0, 0) t) → ∀ (I : gz_M) (c : Nat), gz_cs (gz_fm I0 t) (I0 (21, 0, 0) t) c = a → gz_T I → gz_Mf I0 I s → gz_NI I0 I → (∀ v, 0 ≤ v → v < t → gz_fk (gz_FM I0) (gz_ZM I0) (gz_aM I0) v.toNat ∧ gz_Ml I0 I s v) → gz_aM I = gz_fo (gz_fm I0 t) (I0 (21, 0, 0) t) (gz_ft (gz_FM I0) (gz_ZM I0) (gz_aM I0) t.toNat) c → gz_tot (gz_aM I) ≤ 2400 → I (34, 0, 0) (4 * s + t) = (c : Nat) → (∀ j : Nat, j < c → ¬ gz_fp (gz_fm I0 t) (I0 (21, 0, 0) t) (gz_ft (gz_FM I0) (gz_ZM I0) (gz_aM I0) t.toNat) j = -1 ∧ I (35, 0, 0) (80 * (4 * s + t) + j) = gz_fp (gz_fm I0 t) (I0 (21, 0, 0) t) (gz_ft (gz_FM I0) (gz_ZM I0) (gz_aM I0) t.toNat) j) → ∀ o7 o8 o9 o10 : Option Value, gz_V l D α cA RX5 cX5_mark (some .int) 11 6 (gz_Qi (gz_MkQ I0 w)) I [some (.ref (α (20, 0, 0))), some (gz_i (w)), some (gz_i (s)), some (gz_i (1)), some (gz_i (gz_sm (gz_ZM I0) t.toNat + a)), some (gz_i (t)), some (gz_i (a)), o7, o8, o9, o10] [] 99 := by
  intro t ht kk
  have e0 := gz_tM0 hT0 0 0
  have e1 := gz_t21 hT0 0 0 t
  obtain ⟨cN, hcN⟩ := gz_cn_ex (gz_fm I0 t) e1
  have hcc := gz_cc_eq hcN e1.2
  have hc75 := gz_cn_75 hcN e1.2
  refine gz_upto _ ?_
  intro a ha ih I c hc hTI hMf hNI hdn hA htot h34 hj o7 o8 o9 o10
  have e2 := gz_cs_0 (gz_fm I0 t) (I0 (21, 0, 0) t) c
  rw [hc] at e2
  have r21 : ∀ u, I (21, 0, 0) u = I0 (21, 0, 0) u := fun u => by rw [hMf.1 _ (gz_ne rfl) (gz_ne rfl) (gz_ne rfl) (gz_ne rfl) (gz_ne rfl) (gz_ne rfl) (gz_ne rfl)]
  have r22 : I (22, 0, 0) = I0 (22, 0, 0) := hMf.1 _ (gz_ne rfl) (gz_ne rfl) (gz_ne rfl) (gz_ne rfl) (gz_ne rfl) (gz_ne rfl) (gz_ne rfl)
  have rfm : gz_fm I t = gz_fm I0 t := by unfold gz_fm; rw [r22]
  have r20 : I (20, 0, 0) 0 = I0 (20, 0, 0) 0 := by rw [hMf.1 _ (gz_ne rfl) (gz_ne rfl) (gz_ne rfl) (gz_ne rfl) (gz_ne rfl) (gz_ne rfl) (gz_ne rfl)]
  have hclt : a < (I0 (21, 0, 0) t) → c < cN := fun hlt => by
    apply Nat.lt_of_not_le
    intro hle
    have := gz_cs_le (gz_fm I0 t) (I0 (21, 0, 0) t) hle
    unfold gz_cn at hcN
    omega
  refine gz_iload (pc := 99) dX5_mark_99 rfl ?_
  first | refine gz_aload_n (pc := 101) dX5_mark_101 rfl ?_ | refine gz_aload_nN (pc := 101) dX5_mark_101 rfl ?_
  refine gz_getr (pc := 102) dX5_mark_102 fl_X5_13 rfl rfl rfl (by first | exact gz_B1 | (omega)) ?_
  refine gz_iload (pc := 105) dX5_mark_105 rfl ?_
  refine gz_iald (pc := 107) dX5_mark_107 rfl rfl (by first | exact gz_B1 | (omega)) (by omega) ?_
  rw [r21]
  refine gz_icmp_ge (pc := 108) (tgt := 219) dX5_mark_108 (by decide) (by omega) (by omega) (fun h108 => ?_) (fun h108 => ?_)
  · refine gz_iinc (pc := 219) dX5_mark_219 rfl rfl rfl rfl ?_
    refine gz_goto (pc := 222) (tgt := 71) dX5_mark_222 (by decide) ?_
    have hac : a = (I0 (21, 0, 0) t) := by omega
    have hcN2 : c = cN := gz_cn_uq (f := (gz_fm I0 t)) (s := (I0 (21, 0, 0) t)) (by unfold gz_cn; omega) hcN
    have h9 := kk I hTI hMf hNI (fun v b1 b2 => ?_) ?_ htot
    · rw [show (t + 1).toNat = t.toNat + 1 by omega, gz_sm_s, Int.toNat_of_nonneg ht.1] at h9
      rw [hac]
      exact h9 _ _ _ _ _
    · by_cases z : v = t
      · subst z
        refine ⟨?_, ?_, ?_⟩
        · unfold gz_fk
          rw [Int.toNat_of_nonneg ht.1]
          intro j hjl
          exact (hj j (by rw [hcN2, ← hcc]; exact hjl)).1
        · rw [h34, hcN2, ← hcc]
        · intro j hjl
          exact (hj j (by rw [hcN2, ← hcc]; exact hjl)).2
      · exact hdn v b1 (by omega)
    · rw [hA, show (t + 1).toNat = t.toNat + 1 by omega]
      show _ = gz_fo (gz_FM I0 ((t.toNat : Nat) : Int)) (gz_ZM I0 ((t.toNat : Nat) : Int)) (gz_ft (gz_FM I0) (gz_ZM I0) (gz_aM I0) t.toNat) (gz_cc (gz_FM I0 ((t.toNat : Nat) : Int)) (gz_ZM I0 ((t.toNat : Nat) : Int)))
      rw [Int.toNat_of_nonneg ht.1]
      rw [hcN2, ← hcc]
  · refine gz_iload_n (pc := 111) dX5_mark_111 rfl ?_
    refine gz_if_eq (pc := 112) (tgt := 219) dX5_mark_112 (by decide) (by omega) (fun h112 => ?_) (fun h112 => ?_)
    · refine gz_iinc (pc := 219) dX5_mark_219 rfl rfl rfl rfl ?_
      refine gz_goto (pc := 222) (tgt := 71) dX5_mark_222 (by decide) ?_
      have hac : a = (I0 (21, 0, 0) t) := by omega
      have hcN2 : c = cN := gz_cn_uq (f := (gz_fm I0 t)) (s := (I0 (21, 0, 0) t)) (by unfold gz_cn; omega) hcN
      have h9 := kk I hTI hMf hNI (fun v b1 b2 => ?_) ?_ htot
      · rw [show (t + 1).toNat = t.toNat + 1 by omega, gz_sm_s, Int.toNat_of_nonneg ht.1] at h9
        rw [hac]
        exact h9 _ _ _ _ _
      · by_cases z : v = t
        · subst z
          refine ⟨?_, ?_, ?_⟩
          · unfold gz_fk
            rw [Int.toNat_of_nonneg ht.1]
            intro j hjl
            exact (hj j (by rw [hcN2, ← hcc]; exact hjl)).1
          · rw [h34, hcN2, ← hcc]
          · intro j hjl
            exact (hj j (by rw [hcN2, ← hcc]; exact hjl)).2
        · exact hdn v b1 (by omega)
      · rw [hA, show (t + 1).toNat = t.toNat + 1 by omega]
        show _ = gz_fo (gz_FM I0 ((t.toNat : Nat) : Int)) (gz_ZM I0 ((t.toNat : Nat) : Int)) (gz_ft (gz_FM I0) (gz_ZM I0) (gz_aM I0) t.toNat) (gz_cc (gz_FM I0 ((t.toNat : Nat) : Int)) (gz_ZM I0 ((t.toNat : Nat) : Int)))
        rw [Int.toNat_of_nonneg ht.1]
        rw [hcN2, ← hcc]
    · first | refine gz_aload_n (pc := 115) dX5_mark_115 rfl ?_ | refine gz_aload_nN (pc := 115) dX5_mark_115 rfl ?_
      refine gz_iload (pc := 116) dX5_mark_116 rfl ?_
      refine gz_iload (pc := 118) dX5_mark_118 rfl ?_
      refine gz_cV2i (pc := 120) dX5_mark_120 wm_X5_82 my_X5_chunkFrom rfl rfl rfl (by first | exact gz_B1 | (omega)) (ct_X5_chunkFrom l D α cA hTI (by omega) (by rw [r21]; omega)) (fun x120 I120 h120 => ?_)
      obtain ⟨rfl, rfl⟩ := h120
      rw [rfm, r21]
      have k1 := gz_ck_le (f := (gz_fm I0 t)) (s := (I0 (21, 0, 0) t)) (at_ := a) (by omega)
      have k2 := (gz_ck_ok (gz_fm I0 t) (I0 (21, 0, 0) t) a).2.1
      have k3 := (gz_ck_ok (gz_fm I0 t) (I0 (21, 0, 0) t) a).2.2.1
      have hcl := hclt (by omega)
      refine gz_istore (pc := 123) dX5_mark_123 rfl rfl rfl ?_
      first | refine gz_aload_n (pc := 125) dX5_mark_125 rfl ?_ | refine gz_aload_nN (pc := 125) dX5_mark_125 rfl ?_
      refine gz_iload (pc := 126) dX5_mark_126 rfl ?_
      refine gz_iload (pc := 128) dX5_mark_128 rfl ?_
      refine gz_iload (pc := 130) dX5_mark_130 rfl ?_
      refine gz_cV3i (pc := 132) dX5_mark_132 wm_X5_122 my_X5_partFor rfl rfl rfl (by first | exact gz_B1 | (omega)) (ct_X5_partFor l D α cA hTI (by omega) (by omega)) (fun x132 I132 h132 => ?_)
      have hG : (fun i => I (22, 0, 0) (300 * t + a + i)) = (fun i => (gz_fm I0 t) (gz_cs (gz_fm I0 t) (I0 (21, 0, 0) t) c + i)) := by
        funext i
        show I (22, 0, 0) (300 * t + a + i) = I0 (22, 0, 0) (300 * t + (gz_cs (gz_fm I0 t) (I0 (21, 0, 0) t) c + i))
        rw [hc, r22, Int.add_assoc]
      have hfo : gz_fo (gz_fm I0 t) (I0 (21, 0, 0) t) (gz_ft (gz_FM I0) (gz_ZM I0) (gz_aM I0) t.toNat) (c + 1) = (gz_s1 (gz_aM I) (fun i => I (22, 0, 0) (300 * t + a + i)) (gz_ck (gz_fm I0 t) (I0 (21, 0, 0) t) a)).2 := by
        rw [hG, hA]
        show (gz_s1 _ _ (gz_ck (gz_fm I0 t) (I0 (21, 0, 0) t) (gz_cs (gz_fm I0 t) (I0 (21, 0, 0) t) c))).2 = _
        rw [hc]
      have hfp : gz_fp (gz_fm I0 t) (I0 (21, 0, 0) t) (gz_ft (gz_FM I0) (gz_ZM I0) (gz_aM I0) t.toNat) c = (gz_s1 (gz_aM I) (fun i => I (22, 0, 0) (300 * t + a + i)) (gz_ck (gz_fm I0 t) (I0 (21, 0, 0) t) a)).1 := by
        rw [hG, hA]
        show (gz_s1 _ _ (gz_ck (gz_fm I0 t) (I0 (21, 0, 0) t) (gz_cs (gz_fm I0 t) (I0 (21, 0, 0) t) c))).1 = _
        rw [hc]
      have hT2 : gz_T I132 ∧ gz_Mf I0 I132 s ∧ gz_NI I0 I132 ∧ (∀ q : gz_P, q ≠ (24, 0, 0) → q ≠ (25, 0, 0) → q ≠ (26, 0, 0) → q ≠ (27, 0, 0) → q ≠ (39, 0, 0) → I132 q = I q) ∧ (-1 ≤ x132 ∧ x132 < 120) := by
        rcases h132 with ⟨g1, _, _, rfl⟩ | ⟨_, g1, g2, _, g3, g4⟩ | ⟨g1, _, _, rfl⟩
        · exact ⟨hTI, hMf, hNI, fun q _ _ _ _ _ => rfl, by omega⟩
        · have ho := g4.2.2.2.2.2
          exact ⟨g3, ⟨fun q q1 q2 q3 q4 q5 q6 q7 => by rw [ho q q1 q2 q3 q4 q5]; exact hMf.1 q q1 q2 q3 q4 q5 q6 q7, fun j hj => by rw [ho _ (gz_ne rfl) (gz_ne rfl) (gz_ne rfl) (gz_ne rfl) (gz_ne rfl)]; exact hMf.2.1 j hj, fun j hj => by rw [ho _ (gz_ne rfl) (gz_ne rfl) (gz_ne rfl) (gz_ne rfl) (gz_ne rfl)]; exact hMf.2.2 j hj⟩, gz_NI_NW hNI (by omega) g1 g2 g4, ho, by omega⟩
        · exact ⟨hTI, hMf, hNI, fun q _ _ _ _ _ => rfl, by omega⟩
      obtain ⟨hT2, hMf2, hNI2, ho2, hxr⟩ := hT2
      have q34 : I132 (34, 0, 0) = I (34, 0, 0) := ho2 _ (gz_ne rfl) (gz_ne rfl) (gz_ne rfl) (gz_ne rfl) (gz_ne rfl)
      have q35 : I132 (35, 0, 0) = I (35, 0, 0) := ho2 _ (gz_ne rfl) (gz_ne rfl) (gz_ne rfl) (gz_ne rfl) (gz_ne rfl)
      have s34 : I132 (34, 0, 0) (4 * s + t) = (c : Nat) := by rw [q34]; exact h34
      have hmem : gz_T (gz_up (gz_up I132 (35, 0, 0) (80 * (4 * s + t) + c) x132) (34, 0, 0) (4 * s + t) (c + 1)) ∧ gz_Mf I0 (gz_up (gz_up I132 (35, 0, 0) (80 * (4 * s + t) + c) x132) (34, 0, 0) (4 * s + t) (c + 1)) s ∧ gz_NI I0 (gz_up (gz_up I132 (35, 0, 0) (80 * (4 * s + t) + c) x132) (34, 0, 0) (4 * s + t) (c + 1)) := by
        refine ⟨gz_Tu34 (gz_Tu35 hT2 (by omega)) (by omega), ⟨fun q q1 q2 q3 q4 q5 q6 q7 => by rw [gz_up_ne q6, gz_up_ne q7]; exact hMf2.1 q q1 q2 q3 q4 q5 q6 q7, fun j hj => by rw [gz_up_eq, if_neg (by omega), gz_up_r (by decide)]; exact hMf2.2.1 j hj, fun j hj => by rw [gz_up_r (by decide), gz_up_eq, if_neg (by omega)]; exact hMf2.2.2 j hj⟩, ?_⟩
        intro p b1 b2
        simp (decide := true) only [gz_up_r]
        exact hNI2 p b1 b2
      refine gz_istore (pc := 135) dX5_mark_135 rfl rfl rfl ?_
      refine gz_iload (pc := 137) dX5_mark_137 rfl ?_
      refine gz_iconst (pc := 139) dX5_mark_139 ?_
      refine gz_icmp_eq (pc := 140) (tgt := 157) dX5_mark_140 (by decide) (by omega) (by omega) (fun h140 => ?_) (fun h140 => ?_)
      · refine gz_iconst (pc := 157) dX5_mark_157 ?_
        refine gz_istore_n (pc := 158) dX5_mark_158 rfl rfl rfl ?_
        first | refine gz_aload_n (pc := 159) dX5_mark_159 rfl ?_ | refine gz_aload_nN (pc := 159) dX5_mark_159 rfl ?_
        refine gz_getr (pc := 160) dX5_mark_160 fl_X5_57 rfl rfl rfl (by first | exact gz_B1 | (omega)) ?_
        refine gz_bipush (pc := 163) dX5_mark_163 rfl ?_
        refine gz_iconst (pc := 165) dX5_mark_165 ?_
        refine gz_iload_n (pc := 166) dX5_mark_166 rfl ?_
        refine gz_imul (pc := 167) dX5_mark_167 ?_
        refine gz_iload (pc := 168) dX5_mark_168 rfl ?_
        refine gz_iadd (pc := 170) dX5_mark_170 ?_
        refine gz_imul (pc := 171) dX5_mark_171 ?_
        first | refine gz_aload_n (pc := 172) dX5_mark_172 rfl ?_ | refine gz_aload_nN (pc := 172) dX5_mark_172 rfl ?_
        refine gz_getr (pc := 173) dX5_mark_173 fl_X5_54 rfl rfl rfl (by first | exact gz_B1 | (omega)) ?_
        refine gz_iconst (pc := 176) dX5_mark_176 ?_
        refine gz_iload_n (pc := 177) dX5_mark_177 rfl ?_
        refine gz_imul (pc := 178) dX5_mark_178 ?_
        refine gz_iload (pc := 179) dX5_mark_179 rfl ?_
        refine gz_iadd (pc := 181) dX5_mark_181 ?_
        refine gz_iald (pc := 182) dX5_mark_182 rfl rfl (by first | exact gz_B1 | (omega)) (by omega) ?_
        rw [s34]
        refine gz_iadd (pc := 183) dX5_mark_183 ?_
        refine gz_iload (pc := 184) dX5_mark_184 rfl ?_
        refine gz_iast (pc := 186) dX5_mark_186 rfl rfl (by first | exact gz_B1 | (omega)) (by omega) ?_
        first | refine gz_aload_n (pc := 187) dX5_mark_187 rfl ?_ | refine gz_aload_nN (pc := 187) dX5_mark_187 rfl ?_
        refine gz_getr (pc := 188) dX5_mark_188 fl_X5_54 rfl rfl rfl (by first | exact gz_B1 | (omega)) ?_
        refine gz_iconst (pc := 191) dX5_mark_191 ?_
        refine gz_iload_n (pc := 192) dX5_mark_192 rfl ?_
        refine gz_imul (pc := 193) dX5_mark_193 ?_
        refine gz_iload (pc := 194) dX5_mark_194 rfl ?_
        refine gz_iadd (pc := 196) dX5_mark_196 ?_
        refine gz_dup2 (pc := 197) dX5_mark_197 rfl rfl ?_
        refine gz_iald (pc := 198) dX5_mark_198 rfl rfl (by first | exact gz_B1 | (omega)) (by omega) ?_
        rw [gz_up_r (by decide), s34]
        refine gz_iconst (pc := 199) dX5_mark_199 ?_
        refine gz_iadd (pc := 200) dX5_mark_200 ?_
        refine gz_iast (pc := 201) dX5_mark_201 rfl rfl (by first | exact gz_B1 | (omega)) (by omega) ?_
        refine gz_iload (pc := 202) dX5_mark_202 rfl ?_
        refine gz_iload (pc := 204) dX5_mark_204 rfl ?_
        refine gz_iadd (pc := 206) dX5_mark_206 ?_
        refine gz_istore (pc := 207) dX5_mark_207 rfl rfl rfl ?_
        refine gz_iload (pc := 209) dX5_mark_209 rfl ?_
        refine gz_iload (pc := 211) dX5_mark_211 rfl ?_
        refine gz_iadd (pc := 213) dX5_mark_213 ?_
        refine gz_istore (pc := 214) dX5_mark_214 rfl rfl rfl ?_
        rw [Int.add_assoc]
        refine gz_goto (pc := 216) (tgt := 99) dX5_mark_216 (by decide) ?_
        rcases h132 with ⟨g1, g2, g3, g4⟩ | ⟨g0, g1, g2, g3, g5, g4⟩ | ⟨g1, g2, g3, g4⟩
        · have hs1 : gz_s1 (gz_aM I) (fun i => I (22, 0, 0) (300 * t + a + i)) (gz_ck (gz_fm I0 t) (I0 (21, 0, 0) t) a) = (x132, gz_aM I) := gz_s1_hit g1 g2 g3
          have htot2 : gz_tot (gz_aM I132) ≤ 2400 := by rw [← g4]; exact htot
          have ha2 : gz_aM (gz_up (gz_up I132 (35, 0, 0) (80 * (4 * s + t) + c) x132) (34, 0, 0) (4 * s + t) (c + 1)) = gz_aM I132 := by
            unfold gz_aM
            simp (decide := true) only [gz_up_r]
          have ha4 : gz_aM I132 = gz_aM I := by rw [← g4]
          rw [ha4] at ha2
          have htot3 : gz_tot (gz_aM I132) = gz_tot (gz_aM I) := by rw [ha4]
          rw [ha4] at htot2
          first
            | (exfalso; omega)
            | (refine ih (a + (gz_ck (gz_fm I0 t) (I0 (21, 0, 0) t) a)) (by omega) (by omega) _ (c + 1) ?_ hmem.1 hmem.2.1 hmem.2.2 (fun v b1 b2 => ⟨(hdn v b1 b2).1, ?_⟩) ?_ ?_ ?_ (fun j hjl => ?_) _ _ _ _
               · show gz_cs (gz_fm I0 t) (I0 (21, 0, 0) t) c + gz_ck (gz_fm I0 t) (I0 (21, 0, 0) t) (gz_cs (gz_fm I0 t) (I0 (21, 0, 0) t) c) = _
                 rw [hc]
               · have h9 := (hdn v b1 b2).2
                 refine ⟨?_, fun j hjl => ?_⟩
                 · rw [gz_up_eq, if_neg (by omega), gz_up_r (by decide), q34]; exact h9.1
                 · have hj75 : (j : Int) < 75 := by
                     have h8 := h9.1
                     have h7 := gz_t34 hTI 0 0 (4 * s + v)
                     omega
                   rw [gz_up_r (by decide), gz_up_eq, if_neg (by omega), q35]; exact h9.2 j hjl
               · rw [ha2, hfo, hs1]
               · rw [ha2]; exact htot2
               · rw [gz_up_s]; omega
               · rw [gz_up_r (by decide), gz_up_eq]
                 by_cases z : j = c
                 · rw [if_pos (by omega), z, hfp, hs1]
                   exact ⟨by show ¬ x132 = -1; omega, rfl⟩
                 · rw [if_neg (by omega), q35]
                   exact hj j (by omega))
        · have hnw := gz_NW_a hTI (by omega) g1 g4
          have htt := gz_tot_add (S := gz_aM I) (x := x132) (n := (gz_ck (gz_fm I0 t) (I0 (21, 0, 0) t) a)) (f := (fun i => I (22, 0, 0) (300 * t + a + i))) g1 (by rw [gz_z_M g1]; exact g2)
          have ha2 : gz_aM (gz_up (gz_up I132 (35, 0, 0) (80 * (4 * s + t) + c) x132) (34, 0, 0) (4 * s + t) (c + 1)) = gz_aM I132 := by
            unfold gz_aM
            simp (decide := true) only [gz_up_r]
          rw [← hnw] at htt
          by_cases hroom : gz_tot (gz_aM I) + (gz_ck (gz_fm I0 t) (I0 (21, 0, 0) t) a) ≤ 2400
          · have hs1 : gz_s1 (gz_aM I) (fun i => I (22, 0, 0) (300 * t + a + i)) (gz_ck (gz_fm I0 t) (I0 (21, 0, 0) t) a) = (x132, gz_aM I132) := by rw [hnw]; exact gz_s1_new g0 g1 (by rw [gz_z_M g1]; exact g2) (fun q b1 b2 z => g3 q b1 b2 (by rw [gz_z_M ⟨b1, by omega⟩] at z; exact z)) hroom
            have htot2 : gz_tot (gz_aM I132) ≤ 2400 := by omega
            first
              | (exfalso; omega)
              | (refine ih (a + (gz_ck (gz_fm I0 t) (I0 (21, 0, 0) t) a)) (by omega) (by omega) _ (c + 1) ?_ hmem.1 hmem.2.1 hmem.2.2 (fun v b1 b2 => ⟨(hdn v b1 b2).1, ?_⟩) ?_ ?_ ?_ (fun j hjl => ?_) _ _ _ _
                 · show gz_cs (gz_fm I0 t) (I0 (21, 0, 0) t) c + gz_ck (gz_fm I0 t) (I0 (21, 0, 0) t) (gz_cs (gz_fm I0 t) (I0 (21, 0, 0) t) c) = _
                   rw [hc]
                 · have h9 := (hdn v b1 b2).2
                   refine ⟨?_, fun j hjl => ?_⟩
                   · rw [gz_up_eq, if_neg (by omega), gz_up_r (by decide), q34]; exact h9.1
                   · have hj75 : (j : Int) < 75 := by
                       have h8 := h9.1
                       have h7 := gz_t34 hTI 0 0 (4 * s + v)
                       omega
                     rw [gz_up_r (by decide), gz_up_eq, if_neg (by omega), q35]; exact h9.2 j hjl
                 · rw [ha2, hfo, hs1]
                 · rw [ha2]; exact htot2
                 · rw [gz_up_s]; omega
                 · rw [gz_up_r (by decide), gz_up_eq]
                   by_cases z : j = c
                   · rw [if_pos (by omega), z, hfp, hs1]
                     exact ⟨by show ¬ x132 = -1; omega, rfl⟩
                   · rw [if_neg (by omega), q35]
                     exact hj j (by omega))
          · have hs1 : gz_s1 (gz_aM I) (fun i => I (22, 0, 0) (300 * t + a + i)) (gz_ck (gz_fm I0 t) (I0 (21, 0, 0) t) a) = (-1, gz_aM I) := gz_s1_no g0 (Or.inr (by omega))
            first
              | (exfalso; omega)
              | (have hbad : ∃ u, (0 ≤ u ∧ u < I0 (20, 0, 0) 0) ∧ ¬ gz_fk (gz_FM I0) (gz_ZM I0) (gz_aM I0) u.toNat := by
                   refine ⟨t, ht, fun hk9 => ?_⟩
                   refine hk9 c ?_ ?_
                   · rw [Int.toNat_of_nonneg ht.1]; rw [hcc]; exact hcl
                   · rw [Int.toNat_of_nonneg ht.1]
                     show gz_fp (gz_fm I0 t) (I0 (21, 0, 0) t) (gz_ft (gz_FM I0) (gz_ZM I0) (gz_aM I0) t.toNat) c = -1
                     rw [hfp, hs1]
                 exact lp_X5_markF99 l D α cA hT0 hs hsn hw ⟨hmem.1, hmem.2.1, hmem.2.2, hbad⟩ (by omega) (by omega))
        · have hs1 : gz_s1 (gz_aM I) (fun i => I (22, 0, 0) (300 * t + a + i)) (gz_ck (gz_fm I0 t) (I0 (21, 0, 0) t) a) = (-1, gz_aM I) := gz_s1_no g2 (Or.inl (fun q b1 b2 z => g3 q b1 b2 (by rw [gz_z_M ⟨b1, b2⟩] at z; exact z)))
          first
            | (exfalso; omega)
            | (have hbad : ∃ u, (0 ≤ u ∧ u < I0 (20, 0, 0) 0) ∧ ¬ gz_fk (gz_FM I0) (gz_ZM I0) (gz_aM I0) u.toNat := by
                 refine ⟨t, ht, fun hk9 => ?_⟩
                 refine hk9 c ?_ ?_
                 · rw [Int.toNat_of_nonneg ht.1]; rw [hcc]; exact hcl
                 · rw [Int.toNat_of_nonneg ht.1]
                   show gz_fp (gz_fm I0 t) (I0 (21, 0, 0) t) (gz_ft (gz_FM I0) (gz_ZM I0) (gz_aM I0) t.toNat) c = -1
                   rw [hfp, hs1]
               exact lp_X5_markF99 l D α cA hT0 hs hsn hw ⟨hmem.1, hmem.2.1, hmem.2.2, hbad⟩ (by omega) (by omega))
      · first | refine gz_aload_n (pc := 143) dX5_mark_143 rfl ?_ | refine gz_aload_nN (pc := 143) dX5_mark_143 rfl ?_
        refine gz_cV0i (pc := 144) dX5_mark_144 wm_X5_125 my_X5_allBytes rfl rfl rfl (by first | exact gz_B1 | (omega)) (ct_X5_allBytes l D α cA hT2) (fun x144 I144 h144 => ?_)
        obtain ⟨rfl, rfl⟩ := h144
        rw [gz_tot_M]
        have htr := gz_sm_in (f := fun p => I132 (24, 0, 0) p) (lo := 0) (hi := 32) (fun p => gz_t24 hT2 0 0 p) 120
        rw [gz_tot_M] at htr
        refine gz_sipush (pc := 147) dX5_mark_147 rfl ?_
        refine gz_icmp_gt (pc := 150) (tgt := 157) dX5_mark_150 (by decide) (by omega) (by omega) (fun h150 => ?_) (fun h150 => ?_)
        · refine gz_iconst (pc := 157) dX5_mark_157 ?_
          refine gz_istore_n (pc := 158) dX5_mark_158 rfl rfl rfl ?_
          first | refine gz_aload_n (pc := 159) dX5_mark_159 rfl ?_ | refine gz_aload_nN (pc := 159) dX5_mark_159 rfl ?_
          refine gz_getr (pc := 160) dX5_mark_160 fl_X5_57 rfl rfl rfl (by first | exact gz_B1 | (omega)) ?_
          refine gz_bipush (pc := 163) dX5_mark_163 rfl ?_
          refine gz_iconst (pc := 165) dX5_mark_165 ?_
          refine gz_iload_n (pc := 166) dX5_mark_166 rfl ?_
          refine gz_imul (pc := 167) dX5_mark_167 ?_
          refine gz_iload (pc := 168) dX5_mark_168 rfl ?_
          refine gz_iadd (pc := 170) dX5_mark_170 ?_
          refine gz_imul (pc := 171) dX5_mark_171 ?_
          first | refine gz_aload_n (pc := 172) dX5_mark_172 rfl ?_ | refine gz_aload_nN (pc := 172) dX5_mark_172 rfl ?_
          refine gz_getr (pc := 173) dX5_mark_173 fl_X5_54 rfl rfl rfl (by first | exact gz_B1 | (omega)) ?_
          refine gz_iconst (pc := 176) dX5_mark_176 ?_
          refine gz_iload_n (pc := 177) dX5_mark_177 rfl ?_
          refine gz_imul (pc := 178) dX5_mark_178 ?_
          refine gz_iload (pc := 179) dX5_mark_179 rfl ?_
          refine gz_iadd (pc := 181) dX5_mark_181 ?_
          refine gz_iald (pc := 182) dX5_mark_182 rfl rfl (by first | exact gz_B1 | (omega)) (by omega) ?_
          rw [s34]
          refine gz_iadd (pc := 183) dX5_mark_183 ?_
          refine gz_iload (pc := 184) dX5_mark_184 rfl ?_
          refine gz_iast (pc := 186) dX5_mark_186 rfl rfl (by first | exact gz_B1 | (omega)) (by omega) ?_
          first | refine gz_aload_n (pc := 187) dX5_mark_187 rfl ?_ | refine gz_aload_nN (pc := 187) dX5_mark_187 rfl ?_
          refine gz_getr (pc := 188) dX5_mark_188 fl_X5_54 rfl rfl rfl (by first | exact gz_B1 | (omega)) ?_
          refine gz_iconst (pc := 191) dX5_mark_191 ?_
          refine gz_iload_n (pc := 192) dX5_mark_192 rfl ?_
          refine gz_imul (pc := 193) dX5_mark_193 ?_
          refine gz_iload (pc := 194) dX5_mark_194 rfl ?_
          refine gz_iadd (pc := 196) dX5_mark_196 ?_
          refine gz_dup2 (pc := 197) dX5_mark_197 rfl rfl ?_
          refine gz_iald (pc := 198) dX5_mark_198 rfl rfl (by first | exact gz_B1 | (omega)) (by omega) ?_
          rw [gz_up_r (by decide), s34]
          refine gz_iconst (pc := 199) dX5_mark_199 ?_
          refine gz_iadd (pc := 200) dX5_mark_200 ?_
          refine gz_iast (pc := 201) dX5_mark_201 rfl rfl (by first | exact gz_B1 | (omega)) (by omega) ?_
          refine gz_iload (pc := 202) dX5_mark_202 rfl ?_
          refine gz_iload (pc := 204) dX5_mark_204 rfl ?_
          refine gz_iadd (pc := 206) dX5_mark_206 ?_
          refine gz_istore (pc := 207) dX5_mark_207 rfl rfl rfl ?_
          refine gz_iload (pc := 209) dX5_mark_209 rfl ?_
          refine gz_iload (pc := 211) dX5_mark_211 rfl ?_
          refine gz_iadd (pc := 213) dX5_mark_213 ?_
          refine gz_istore (pc := 214) dX5_mark_214 rfl rfl rfl ?_
          rw [Int.add_assoc]
          refine gz_goto (pc := 216) (tgt := 99) dX5_mark_216 (by decide) ?_
          rcases h132 with ⟨g1, g2, g3, g4⟩ | ⟨g0, g1, g2, g3, g5, g4⟩ | ⟨g1, g2, g3, g4⟩
          · have hs1 : gz_s1 (gz_aM I) (fun i => I (22, 0, 0) (300 * t + a + i)) (gz_ck (gz_fm I0 t) (I0 (21, 0, 0) t) a) = (x132, gz_aM I) := gz_s1_hit g1 g2 g3
            have htot2 : gz_tot (gz_aM I132) ≤ 2400 := by rw [← g4]; exact htot
            have ha2 : gz_aM (gz_up (gz_up I132 (35, 0, 0) (80 * (4 * s + t) + c) x132) (34, 0, 0) (4 * s + t) (c + 1)) = gz_aM I132 := by
              unfold gz_aM
              simp (decide := true) only [gz_up_r]
            have ha4 : gz_aM I132 = gz_aM I := by rw [← g4]
            rw [ha4] at ha2
            have htot3 : gz_tot (gz_aM I132) = gz_tot (gz_aM I) := by rw [ha4]
            rw [ha4] at htot2
            first
              | (exfalso; omega)
              | (refine ih (a + (gz_ck (gz_fm I0 t) (I0 (21, 0, 0) t) a)) (by omega) (by omega) _ (c + 1) ?_ hmem.1 hmem.2.1 hmem.2.2 (fun v b1 b2 => ⟨(hdn v b1 b2).1, ?_⟩) ?_ ?_ ?_ (fun j hjl => ?_) _ _ _ _
                 · show gz_cs (gz_fm I0 t) (I0 (21, 0, 0) t) c + gz_ck (gz_fm I0 t) (I0 (21, 0, 0) t) (gz_cs (gz_fm I0 t) (I0 (21, 0, 0) t) c) = _
                   rw [hc]
                 · have h9 := (hdn v b1 b2).2
                   refine ⟨?_, fun j hjl => ?_⟩
                   · rw [gz_up_eq, if_neg (by omega), gz_up_r (by decide), q34]; exact h9.1
                   · have hj75 : (j : Int) < 75 := by
                       have h8 := h9.1
                       have h7 := gz_t34 hTI 0 0 (4 * s + v)
                       omega
                     rw [gz_up_r (by decide), gz_up_eq, if_neg (by omega), q35]; exact h9.2 j hjl
                 · rw [ha2, hfo, hs1]
                 · rw [ha2]; exact htot2
                 · rw [gz_up_s]; omega
                 · rw [gz_up_r (by decide), gz_up_eq]
                   by_cases z : j = c
                   · rw [if_pos (by omega), z, hfp, hs1]
                     exact ⟨by show ¬ x132 = -1; omega, rfl⟩
                   · rw [if_neg (by omega), q35]
                     exact hj j (by omega))
          · have hnw := gz_NW_a hTI (by omega) g1 g4
            have htt := gz_tot_add (S := gz_aM I) (x := x132) (n := (gz_ck (gz_fm I0 t) (I0 (21, 0, 0) t) a)) (f := (fun i => I (22, 0, 0) (300 * t + a + i))) g1 (by rw [gz_z_M g1]; exact g2)
            have ha2 : gz_aM (gz_up (gz_up I132 (35, 0, 0) (80 * (4 * s + t) + c) x132) (34, 0, 0) (4 * s + t) (c + 1)) = gz_aM I132 := by
              unfold gz_aM
              simp (decide := true) only [gz_up_r]
            rw [← hnw] at htt
            by_cases hroom : gz_tot (gz_aM I) + (gz_ck (gz_fm I0 t) (I0 (21, 0, 0) t) a) ≤ 2400
            · have hs1 : gz_s1 (gz_aM I) (fun i => I (22, 0, 0) (300 * t + a + i)) (gz_ck (gz_fm I0 t) (I0 (21, 0, 0) t) a) = (x132, gz_aM I132) := by rw [hnw]; exact gz_s1_new g0 g1 (by rw [gz_z_M g1]; exact g2) (fun q b1 b2 z => g3 q b1 b2 (by rw [gz_z_M ⟨b1, by omega⟩] at z; exact z)) hroom
              have htot2 : gz_tot (gz_aM I132) ≤ 2400 := by omega
              first
                | (exfalso; omega)
                | (refine ih (a + (gz_ck (gz_fm I0 t) (I0 (21, 0, 0) t) a)) (by omega) (by omega) _ (c + 1) ?_ hmem.1 hmem.2.1 hmem.2.2 (fun v b1 b2 => ⟨(hdn v b1 b2).1, ?_⟩) ?_ ?_ ?_ (fun j hjl => ?_) _ _ _ _
                   · show gz_cs (gz_fm I0 t) (I0 (21, 0, 0) t) c + gz_ck (gz_fm I0 t) (I0 (21, 0, 0) t) (gz_cs (gz_fm I0 t) (I0 (21, 0, 0) t) c) = _
                     rw [hc]
                   · have h9 := (hdn v b1 b2).2
                     refine ⟨?_, fun j hjl => ?_⟩
                     · rw [gz_up_eq, if_neg (by omega), gz_up_r (by decide), q34]; exact h9.1
                     · have hj75 : (j : Int) < 75 := by
                         have h8 := h9.1
                         have h7 := gz_t34 hTI 0 0 (4 * s + v)
                         omega
                       rw [gz_up_r (by decide), gz_up_eq, if_neg (by omega), q35]; exact h9.2 j hjl
                   · rw [ha2, hfo, hs1]
                   · rw [ha2]; exact htot2
                   · rw [gz_up_s]; omega
                   · rw [gz_up_r (by decide), gz_up_eq]
                     by_cases z : j = c
                     · rw [if_pos (by omega), z, hfp, hs1]
                       exact ⟨by show ¬ x132 = -1; omega, rfl⟩
                     · rw [if_neg (by omega), q35]
                       exact hj j (by omega))
            · have hs1 : gz_s1 (gz_aM I) (fun i => I (22, 0, 0) (300 * t + a + i)) (gz_ck (gz_fm I0 t) (I0 (21, 0, 0) t) a) = (-1, gz_aM I) := gz_s1_no g0 (Or.inr (by omega))
              first
                | (exfalso; omega)
                | (have hbad : ∃ u, (0 ≤ u ∧ u < I0 (20, 0, 0) 0) ∧ ¬ gz_fk (gz_FM I0) (gz_ZM I0) (gz_aM I0) u.toNat := by
                     refine ⟨t, ht, fun hk9 => ?_⟩
                     refine hk9 c ?_ ?_
                     · rw [Int.toNat_of_nonneg ht.1]; rw [hcc]; exact hcl
                     · rw [Int.toNat_of_nonneg ht.1]
                       show gz_fp (gz_fm I0 t) (I0 (21, 0, 0) t) (gz_ft (gz_FM I0) (gz_ZM I0) (gz_aM I0) t.toNat) c = -1
                       rw [hfp, hs1]
                   exact lp_X5_markF99 l D α cA hT0 hs hsn hw ⟨hmem.1, hmem.2.1, hmem.2.2, hbad⟩ (by omega) (by omega))
          · have hs1 : gz_s1 (gz_aM I) (fun i => I (22, 0, 0) (300 * t + a + i)) (gz_ck (gz_fm I0 t) (I0 (21, 0, 0) t) a) = (-1, gz_aM I) := gz_s1_no g2 (Or.inl (fun q b1 b2 z => g3 q b1 b2 (by rw [gz_z_M ⟨b1, b2⟩] at z; exact z)))
            first
              | (exfalso; omega)
              | (have hbad : ∃ u, (0 ≤ u ∧ u < I0 (20, 0, 0) 0) ∧ ¬ gz_fk (gz_FM I0) (gz_ZM I0) (gz_aM I0) u.toNat := by
                   refine ⟨t, ht, fun hk9 => ?_⟩
                   refine hk9 c ?_ ?_
                   · rw [Int.toNat_of_nonneg ht.1]; rw [hcc]; exact hcl
                   · rw [Int.toNat_of_nonneg ht.1]
                     show gz_fp (gz_fm I0 t) (I0 (21, 0, 0) t) (gz_ft (gz_FM I0) (gz_ZM I0) (gz_aM I0) t.toNat) c = -1
                     rw [hfp, hs1]
                 exact lp_X5_markF99 l D α cA hT0 hs hsn hw ⟨hmem.1, hmem.2.1, hmem.2.2, hbad⟩ (by omega) (by omega))
        · refine gz_iconst (pc := 153) dX5_mark_153 ?_
          refine gz_goto (pc := 154) (tgt := 158) dX5_mark_154 (by decide) ?_
          refine gz_istore_n (pc := 158) dX5_mark_158 rfl rfl rfl ?_
          first | refine gz_aload_n (pc := 159) dX5_mark_159 rfl ?_ | refine gz_aload_nN (pc := 159) dX5_mark_159 rfl ?_
          refine gz_getr (pc := 160) dX5_mark_160 fl_X5_57 rfl rfl rfl (by first | exact gz_B1 | (omega)) ?_
          refine gz_bipush (pc := 163) dX5_mark_163 rfl ?_
          refine gz_iconst (pc := 165) dX5_mark_165 ?_
          refine gz_iload_n (pc := 166) dX5_mark_166 rfl ?_
          refine gz_imul (pc := 167) dX5_mark_167 ?_
          refine gz_iload (pc := 168) dX5_mark_168 rfl ?_
          refine gz_iadd (pc := 170) dX5_mark_170 ?_
          refine gz_imul (pc := 171) dX5_mark_171 ?_
          first | refine gz_aload_n (pc := 172) dX5_mark_172 rfl ?_ | refine gz_aload_nN (pc := 172) dX5_mark_172 rfl ?_
          refine gz_getr (pc := 173) dX5_mark_173 fl_X5_54 rfl rfl rfl (by first | exact gz_B1 | (omega)) ?_
          refine gz_iconst (pc := 176) dX5_mark_176 ?_
          refine gz_iload_n (pc := 177) dX5_mark_177 rfl ?_
          refine gz_imul (pc := 178) dX5_mark_178 ?_
          refine gz_iload (pc := 179) dX5_mark_179 rfl ?_
          refine gz_iadd (pc := 181) dX5_mark_181 ?_
          refine gz_iald (pc := 182) dX5_mark_182 rfl rfl (by first | exact gz_B1 | (omega)) (by omega) ?_
          rw [s34]
          refine gz_iadd (pc := 183) dX5_mark_183 ?_
          refine gz_iload (pc := 184) dX5_mark_184 rfl ?_
          refine gz_iast (pc := 186) dX5_mark_186 rfl rfl (by first | exact gz_B1 | (omega)) (by omega) ?_
          first | refine gz_aload_n (pc := 187) dX5_mark_187 rfl ?_ | refine gz_aload_nN (pc := 187) dX5_mark_187 rfl ?_
          refine gz_getr (pc := 188) dX5_mark_188 fl_X5_54 rfl rfl rfl (by first | exact gz_B1 | (omega)) ?_
          refine gz_iconst (pc := 191) dX5_mark_191 ?_
          refine gz_iload_n (pc := 192) dX5_mark_192 rfl ?_
          refine gz_imul (pc := 193) dX5_mark_193 ?_
          refine gz_iload (pc := 194) dX5_mark_194 rfl ?_
          refine gz_iadd (pc := 196) dX5_mark_196 ?_
          refine gz_dup2 (pc := 197) dX5_mark_197 rfl rfl ?_
          refine gz_iald (pc := 198) dX5_mark_198 rfl rfl (by first | exact gz_B1 | (omega)) (by omega) ?_
          rw [gz_up_r (by decide), s34]
          refine gz_iconst (pc := 199) dX5_mark_199 ?_
          refine gz_iadd (pc := 200) dX5_mark_200 ?_
          refine gz_iast (pc := 201) dX5_mark_201 rfl rfl (by first | exact gz_B1 | (omega)) (by omega) ?_
          refine gz_iload (pc := 202) dX5_mark_202 rfl ?_
          refine gz_iload (pc := 204) dX5_mark_204 rfl ?_
          refine gz_iadd (pc := 206) dX5_mark_206 ?_
          refine gz_istore (pc := 207) dX5_mark_207 rfl rfl rfl ?_
          refine gz_iload (pc := 209) dX5_mark_209 rfl ?_
          refine gz_iload (pc := 211) dX5_mark_211 rfl ?_
          refine gz_iadd (pc := 213) dX5_mark_213 ?_
          refine gz_istore (pc := 214) dX5_mark_214 rfl rfl rfl ?_
          rw [Int.add_assoc]
          refine gz_goto (pc := 216) (tgt := 99) dX5_mark_216 (by decide) ?_
          rcases h132 with ⟨g1, g2, g3, g4⟩ | ⟨g0, g1, g2, g3, g5, g4⟩ | ⟨g1, g2, g3, g4⟩
          · have hs1 : gz_s1 (gz_aM I) (fun i => I (22, 0, 0) (300 * t + a + i)) (gz_ck (gz_fm I0 t) (I0 (21, 0, 0) t) a) = (x132, gz_aM I) := gz_s1_hit g1 g2 g3
            have htot2 : gz_tot (gz_aM I132) ≤ 2400 := by rw [← g4]; exact htot
            have ha2 : gz_aM (gz_up (gz_up I132 (35, 0, 0) (80 * (4 * s + t) + c) x132) (34, 0, 0) (4 * s + t) (c + 1)) = gz_aM I132 := by
              unfold gz_aM
              simp (decide := true) only [gz_up_r]
            have ha4 : gz_aM I132 = gz_aM I := by rw [← g4]
            rw [ha4] at ha2
            have htot3 : gz_tot (gz_aM I132) = gz_tot (gz_aM I) := by rw [ha4]
            rw [ha4] at htot2
            first
              | (exfalso; omega)
              | (refine ih (a + (gz_ck (gz_fm I0 t) (I0 (21, 0, 0) t) a)) (by omega) (by omega) _ (c + 1) ?_ hmem.1 hmem.2.1 hmem.2.2 (fun v b1 b2 => ⟨(hdn v b1 b2).1, ?_⟩) ?_ ?_ ?_ (fun j hjl => ?_) _ _ _ _
                 · show gz_cs (gz_fm I0 t) (I0 (21, 0, 0) t) c + gz_ck (gz_fm I0 t) (I0 (21, 0, 0) t) (gz_cs (gz_fm I0 t) (I0 (21, 0, 0) t) c) = _
                   rw [hc]
                 · have h9 := (hdn v b1 b2).2
                   refine ⟨?_, fun j hjl => ?_⟩
                   · rw [gz_up_eq, if_neg (by omega), gz_up_r (by decide), q34]; exact h9.1
                   · have hj75 : (j : Int) < 75 := by
                       have h8 := h9.1
                       have h7 := gz_t34 hTI 0 0 (4 * s + v)
                       omega
                     rw [gz_up_r (by decide), gz_up_eq, if_neg (by omega), q35]; exact h9.2 j hjl
                 · rw [ha2, hfo, hs1]
                 · rw [ha2]; exact htot2
                 · rw [gz_up_s]; omega
                 · rw [gz_up_r (by decide), gz_up_eq]
                   by_cases z : j = c
                   · rw [if_pos (by omega), z, hfp, hs1]
                     exact ⟨by show ¬ x132 = -1; omega, rfl⟩
                   · rw [if_neg (by omega), q35]
                     exact hj j (by omega))
          · have hnw := gz_NW_a hTI (by omega) g1 g4
            have htt := gz_tot_add (S := gz_aM I) (x := x132) (n := (gz_ck (gz_fm I0 t) (I0 (21, 0, 0) t) a)) (f := (fun i => I (22, 0, 0) (300 * t + a + i))) g1 (by rw [gz_z_M g1]; exact g2)
            have ha2 : gz_aM (gz_up (gz_up I132 (35, 0, 0) (80 * (4 * s + t) + c) x132) (34, 0, 0) (4 * s + t) (c + 1)) = gz_aM I132 := by
              unfold gz_aM
              simp (decide := true) only [gz_up_r]
            rw [← hnw] at htt
            by_cases hroom : gz_tot (gz_aM I) + (gz_ck (gz_fm I0 t) (I0 (21, 0, 0) t) a) ≤ 2400
            · have hs1 : gz_s1 (gz_aM I) (fun i => I (22, 0, 0) (300 * t + a + i)) (gz_ck (gz_fm I0 t) (I0 (21, 0, 0) t) a) = (x132, gz_aM I132) := by rw [hnw]; exact gz_s1_new g0 g1 (by rw [gz_z_M g1]; exact g2) (fun q b1 b2 z => g3 q b1 b2 (by rw [gz_z_M ⟨b1, by omega⟩] at z; exact z)) hroom
              have htot2 : gz_tot (gz_aM I132) ≤ 2400 := by omega
              first
                | (exfalso; omega)
                | (refine ih (a + (gz_ck (gz_fm I0 t) (I0 (21, 0, 0) t) a)) (by omega) (by omega) _ (c + 1) ?_ hmem.1 hmem.2.1 hmem.2.2 (fun v b1 b2 => ⟨(hdn v b1 b2).1, ?_⟩) ?_ ?_ ?_ (fun j hjl => ?_) _ _ _ _
                   · show gz_cs (gz_fm I0 t) (I0 (21, 0, 0) t) c + gz_ck (gz_fm I0 t) (I0 (21, 0, 0) t) (gz_cs (gz_fm I0 t) (I0 (21, 0, 0) t) c) = _
                     rw [hc]
                   · have h9 := (hdn v b1 b2).2
                     refine ⟨?_, fun j hjl => ?_⟩
                     · rw [gz_up_eq, if_neg (by omega), gz_up_r (by decide), q34]; exact h9.1
                     · have hj75 : (j : Int) < 75 := by
                         have h8 := h9.1
                         have h7 := gz_t34 hTI 0 0 (4 * s + v)
                         omega
                       rw [gz_up_r (by decide), gz_up_eq, if_neg (by omega), q35]; exact h9.2 j hjl
                   · rw [ha2, hfo, hs1]
                   · rw [ha2]; exact htot2
                   · rw [gz_up_s]; omega
                   · rw [gz_up_r (by decide), gz_up_eq]
                     by_cases z : j = c
                     · rw [if_pos (by omega), z, hfp, hs1]
                       exact ⟨by show ¬ x132 = -1; omega, rfl⟩
                     · rw [if_neg (by omega), q35]
                       exact hj j (by omega))
            · have hs1 : gz_s1 (gz_aM I) (fun i => I (22, 0, 0) (300 * t + a + i)) (gz_ck (gz_fm I0 t) (I0 (21, 0, 0) t) a) = (-1, gz_aM I) := gz_s1_no g0 (Or.inr (by omega))
              first
                | (exfalso; omega)
                | (have hbad : ∃ u, (0 ≤ u ∧ u < I0 (20, 0, 0) 0) ∧ ¬ gz_fk (gz_FM I0) (gz_ZM I0) (gz_aM I0) u.toNat := by
                     refine ⟨t, ht, fun hk9 => ?_⟩
                     refine hk9 c ?_ ?_
                     · rw [Int.toNat_of_nonneg ht.1]; rw [hcc]; exact hcl
                     · rw [Int.toNat_of_nonneg ht.1]
                       show gz_fp (gz_fm I0 t) (I0 (21, 0, 0) t) (gz_ft (gz_FM I0) (gz_ZM I0) (gz_aM I0) t.toNat) c = -1
                       rw [hfp, hs1]
                   exact lp_X5_markF99 l D α cA hT0 hs hsn hw ⟨hmem.1, hmem.2.1, hmem.2.2, hbad⟩ (by omega) (by omega))
          · have hs1 : gz_s1 (gz_aM I) (fun i => I (22, 0, 0) (300 * t + a + i)) (gz_ck (gz_fm I0 t) (I0 (21, 0, 0) t) a) = (-1, gz_aM I) := gz_s1_no g2 (Or.inl (fun q b1 b2 z => g3 q b1 b2 (by rw [gz_z_M ⟨b1, b2⟩] at z; exact z)))
            first
              | (exfalso; omega)
              | (have hbad : ∃ u, (0 ≤ u ∧ u < I0 (20, 0, 0) 0) ∧ ¬ gz_fk (gz_FM I0) (gz_ZM I0) (gz_aM I0) u.toNat := by
                   refine ⟨t, ht, fun hk9 => ?_⟩
                   refine hk9 c ?_ ?_
                   · rw [Int.toNat_of_nonneg ht.1]; rw [hcc]; exact hcl
                   · rw [Int.toNat_of_nonneg ht.1]
                     show gz_fp (gz_fm I0 t) (I0 (21, 0, 0) t) (gz_ft (gz_FM I0) (gz_ZM I0) (gz_aM I0) t.toNat) c = -1
                     rw [hfp, hs1]
                 exact lp_X5_markF99 l D α cA hT0 hs hsn hw ⟨hmem.1, hmem.2.1, hmem.2.2, hbad⟩ (by omega) (by omega))
