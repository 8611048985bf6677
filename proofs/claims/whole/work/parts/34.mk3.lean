set_option maxHeartbeats 4000000 in
set_option maxRecDepth 100000 in
theorem ct_X4_storeState (l : Launch) (D : va_G) (α : gz_P → Nat) (cA : Nat → ClassId) {I0 I1 : gz_M} (hT0 : gz_T I0) {t k : Int} (ht : 0 ≤ t ∧ t < 4) (hk : 0 ≤ k ∧ k < 12) (hT : gz_T I1) (hE : gz_E I1) (hF : gz_FI I0 I1) (hm7 : -100000 ≤ I1 (16, k, 0) 7 ∧ I1 (16, k, 0) 7 ≤ 100000) : gz_V l D α cA RX4 cX4_storeState (some .boolean) 7 4 (gz_Qi fun x I' => (gz_T I' ∧ gz_E I' ∧ gz_FI I0 I' ∧ (∀ q, q ≠ (9, t, 0) → q ≠ (3, 0, 0) → q ≠ (11, 4, 0) → q ≠ (12, 4, 0) → q ≠ (13, 0, 0) → q ≠ (14, 0, 0) → q ≠ (15, 0, 0) → q ≠ (18, k, t) → q ≠ (19, k, 0) → q ≠ (16, k, 0) → I' q = I1 q) ∧ (∀ i, i ≠ t → I' (19, k, 0) i = I1 (19, k, 0) i) ∧ (∀ i, i ≠ 7 → I' (16, k, 0) i = I1 (16, k, 0) i)) ∧ (x = 1 ∧ (∀ j : Nat, j < gz_cc (I1 (8, t, 0)) (I1 (7, t, 0) 2) → ¬ gz_fp (I1 (8, t, 0)) (I1 (7, t, 0) 2) (gz_aX I1) j = -1) ∧ gz_aX I' = gz_fo (I1 (8, t, 0)) (I1 (7, t, 0) 2) (gz_aX I1) (gz_cc (I1 (8, t, 0)) (I1 (7, t, 0) 2)) ∧ I' (19, k, 0) t = (gz_cc (I1 (8, t, 0)) (I1 (7, t, 0) 2) : Nat) ∧ (∀ j : Nat, j < gz_cc (I1 (8, t, 0)) (I1 (7, t, 0) 2) → I' (18, k, t) j = gz_fp (I1 (8, t, 0)) (I1 (7, t, 0) 2) (gz_aX I1) j) ∧ I' (16, k, 0) 7 = I1 (16, k, 0) 7 + (I1 (7, t, 0) 2) ∨ x = 0 ∧ ∃ j : Nat, j < gz_cc (I1 (8, t, 0)) (I1 (7, t, 0) 2) ∧ gz_fp (I1 (8, t, 0)) (I1 (7, t, 0) 2) (gz_aX I1) j = -1)) I1 [some (.ref (α (0, 0, 0))), some (.ref (α (16, k, 0))), some (gz_i (t)), none, none, none, none] [] 0 := by
  first | refine gz_aload_n (pc := 0) dX4_storeState_0 rfl ?_ | refine gz_aload_nN (pc := 0) dX4_storeState_0 rfl ?_
  refine gz_getr (pc := 1) dX4_storeState_1 fl_X4_11 rfl rfl rfl (by first | exact gz_B1 | (omega)) ?_
  refine gz_iload_n (pc := 4) dX4_storeState_4 rfl ?_
  first | refine gz_ald1 (pc := 5) dX4_storeState_5 (by omega) ?_ | refine gz_ald2 (pc := 5) dX4_storeState_5 (by omega) ?_ | refine gz_ald4 (pc := 5) dX4_storeState_5 (by omega) ?_ | refine gz_ald17 (pc := 5) dX4_storeState_5 (by first | exact gz_B1 | (omega)) (by omega) ?_
  first | refine gz_astore_n (pc := 6) dX4_storeState_6 rfl rfl rfl ?_ | refine gz_astore_nN (pc := 6) dX4_storeState_6 rfl rfl rfl ?_
  first | refine gz_aload_n (pc := 7) dX4_storeState_7 rfl ?_ | refine gz_aload_nN (pc := 7) dX4_storeState_7 rfl ?_
  refine gz_cV0i (pc := 8) dX4_storeState_8 wm_X4_72 my_X2_cut rfl rfl rfl (by first | exact gz_B1 | (omega)) (ct_X2_cut l D α cA ht (gz_t7 hT t 0 2) (fun i _ _ => gz_t8 hT t 0 i) hT) (fun x8 I8 h8 => ?_)
  obtain ⟨c1, c2, c, rfl, c3, c4⟩ := h8
  have e3 := gz_t7 hT t 0 2
  have c5 := gz_cn_75 c3 e3.2
  have hFs := gz_FI_same hF (c2 _ (gz_ne rfl)) (c2 _ (gz_ne rfl)) (c2 _ (gz_ne rfl)) (c2 _ (gz_ne rfl)) (c2 _ (gz_ne rfl)) (c2 _ (gz_ne rfl))
  refine gz_istore (pc := 11) dX4_storeState_11 rfl rfl rfl ?_
  refine gz_iconst (pc := 13) dX4_storeState_13 ?_
  refine gz_istore (pc := 14) dX4_storeState_14 rfl rfl rfl ?_
  exact lp_X4_storeState l D α cA hT0 ht hk hm7 c3 c5 e3 0 (by omega) I8 (by omega) ⟨c1, by unfold gz_E; rw [hFs.2, c2 _ (gz_ne rfl)]; exact hE, hFs.1, fun q q1 _ _ _ _ _ _ _ _ _ => c2 q q1, fun i _ => by rw [c2 _ (gz_ne rfl)], fun i _ => by rw [c2 _ (gz_ne rfl)]⟩ (by rw [c2 _ (gz_ne rfl)]) (by rw [c2 _ (gz_ne rfl)]) c4 hFs.2 (fun j a => by omega) _
set_option maxHeartbeats 4000000 in
set_option maxRecDepth 100000 in
theorem lp_X4_storeStates (l : Launch) (D : va_G) (α : gz_P → Nat) (cA : Nat → ClassId) {I0 I1 : gz_M} (hT0 : gz_T I0) (hT1 : gz_T I1) (h0a : gz_aX I0 = gz_aX I1) (h013 : I0 (13, 0, 0) = I1 (13, 0, 0)) {k : Int} (hk : 0 ≤ k ∧ k < 12) (hm7 : 0 ≤ I1 (16, k, 0) 7 ∧ I1 (16, k, 0) 7 ≤ 50000) : ∀ u, u ≤ I1 (0, 0, 0) 6 → ∀ I : gz_M, 0 ≤ u → gz_T I → gz_E I → gz_FI I0 I → ((∀ q : gz_P, q.1 ≠ 9 → q.1 ≠ 3 → q ≠ (11, 4, 0) → q ≠ (12, 4, 0) → q.1 ≠ 13 → q.1 ≠ 14 → q.1 ≠ 15 → (∀ t, q ≠ (18, k, t)) → q ≠ (19, k, 0) → q ≠ (16, k, 0) → I q = I1 q) ∧ (∀ i, i ≠ 7 → I (16, k, 0) i = I1 (16, k, 0) i)) → (∀ v, 0 ≤ v → v < u → gz_fk (fun t => I1 (8, t, 0)) (fun t => I1 (7, t, 0) 2) (gz_aX I1) (v).toNat) → gz_aX I = gz_ft (fun t => I1 (8, t, 0)) (fun t => I1 (7, t, 0) 2) (gz_aX I1) u.toNat → (∀ v, 0 ≤ v → v < u → (I (19, k, 0) v = (gz_cc ((fun t => I1 (8, t, 0)) v) ((fun t => I1 (7, t, 0) 2) v) : Nat) ∧ ∀ j : Nat, j < gz_cc ((fun t => I1 (8, t, 0)) v) ((fun t => I1 (7, t, 0) 2) v) → I (18, k, v) j = gz_fp ((fun t => I1 (8, t, 0)) v) ((fun t => I1 (7, t, 0) 2) v) (gz_ft (fun t => I1 (8, t, 0)) (fun t => I1 (7, t, 0) 2) (gz_aX I1) (v).toNat) j)) → I (16, k, 0) 7 = I1 (16, k, 0) 7 + gz_sm (fun t => I1 (7, t, 0) 2) u.toNat → gz_V l D α cA RX4 cX4_storeStates (some .boolean) 3 5 (gz_Qi fun x I' => gz_T I' ∧ gz_E I' ∧ ((∀ q : gz_P, q.1 ≠ 9 → q.1 ≠ 3 → q ≠ (11, 4, 0) → q ≠ (12, 4, 0) → q.1 ≠ 13 → q.1 ≠ 14 → q.1 ≠ 15 → (∀ t, q ≠ (18, k, t)) → q ≠ (19, k, 0) → q ≠ (16, k, 0) → I' q = I1 q) ∧ (∀ i, i ≠ 7 → I' (16, k, 0) i = I1 (16, k, 0) i)) ∧ (x = 1 ∧ (∀ u, 0 ≤ u → u < I1 (0, 0, 0) 6 → gz_fk (fun t => I1 (8, t, 0)) (fun t => I1 (7, t, 0) 2) (gz_aX I1) (u).toNat) ∧ gz_aX I' = gz_ft (fun t => I1 (8, t, 0)) (fun t => I1 (7, t, 0) 2) (gz_aX I1) (I1 (0, 0, 0) 6).toNat ∧ (∀ u, 0 ≤ u → u < I1 (0, 0, 0) 6 → (I' (19, k, 0) u = (gz_cc ((fun t => I1 (8, t, 0)) u) ((fun t => I1 (7, t, 0) 2) u) : Nat) ∧ ∀ j : Nat, j < gz_cc ((fun t => I1 (8, t, 0)) u) ((fun t => I1 (7, t, 0) 2) u) → I' (18, k, u) j = gz_fp ((fun t => I1 (8, t, 0)) u) ((fun t => I1 (7, t, 0) 2) u) (gz_ft (fun t => I1 (8, t, 0)) (fun t => I1 (7, t, 0) 2) (gz_aX I1) (u).toNat) j)) ∧ I' (16, k, 0) 7 = I1 (16, k, 0) 7 + gz_sm (fun t => I1 (7, t, 0) 2) (I1 (0, 0, 0) 6).toNat ∧ I' (3, 0, 0) 5 = gz_tot (gz_aX I') - gz_tot (gz_aX I1) ∨ x = 0 ∧ (∃ u, (0 ≤ u ∧ u < I1 (0, 0, 0) 6) ∧ ¬ gz_fk (fun t => I1 (8, t, 0)) (fun t => I1 (7, t, 0) 2) (gz_aX I1) (u).toNat) ∧ gz_aX I' = (gz_aX I1) ∧ ∀ p, 0 ≤ p → p < 120 → I' (13, 0, 0) p = I1 (13, 0, 0) p)) I [some (.ref (α (0, 0, 0))), some (.ref (α (16, k, 0))), some (gz_i (u))] [] 9 := by
  have e0 := gz_tk hT1 0 0
  refine gz_upto _ ?_
  intro u hu ih I h0 hTI hEI hFI hfr hfk hA hl h7
  obtain ⟨hfr, hf16⟩ := hfr
  have r0 : I (0, 0, 0) = I1 (0, 0, 0) := hfr _ (gz_nb rfl) (gz_nb rfl) (gz_ne rfl) (gz_ne rfl) (gz_nb rfl) (gz_nb rfl) (gz_nb rfl) (fun _ => gz_ne rfl) (gz_ne rfl) (gz_ne rfl)
  have r6 : I (0, 0, 0) 6 = I1 (0, 0, 0) 6 := by rw [r0]
  have r8 : ∀ v, I (8, v, 0) = I1 (8, v, 0) := fun v => hfr _ (gz_nb rfl) (gz_nb rfl) (gz_ne rfl) (gz_ne rfl) (gz_nb rfl) (gz_nb rfl) (gz_nb rfl) (fun _ => gz_ne rfl) (gz_ne rfl) (gz_ne rfl)
  have r7 : ∀ v, I (7, v, 0) = I1 (7, v, 0) := fun v => hfr _ (gz_nb rfl) (gz_nb rfl) (gz_ne rfl) (gz_ne rfl) (gz_nb rfl) (gz_nb rfl) (gz_nb rfl) (fun _ => gz_ne rfl) (gz_ne rfl) (gz_ne rfl)
  have e2 := gz_sm_in (f := (fun t => I1 (7, t, 0) 2)) (lo := 0) (hi := 300) (fun i => gz_t7 hT1 i 0 2) u.toNat
  refine gz_iload_n (pc := 9) dX4_storeStates_9 rfl ?_
  first | refine gz_aload_n (pc := 10) dX4_storeStates_10 rfl ?_ | refine gz_aload_nN (pc := 10) dX4_storeStates_10 rfl ?_
  refine gz_getI (pc := 11) 6 dX4_storeStates_11 fl_X4_42 rfl rfl rfl rfl (by first | exact gz_B1 | (omega)) ?_
  rw [r6]
  refine gz_icmp_ge (pc := 14) (tgt := 41) dX4_storeStates_14 (by decide) (by omega) (by omega) (fun h14 => ?_) (fun h14 => ?_)
  · refine gz_iconst (pc := 41) dX4_storeStates_41 ?_
    refine gz_zret (pc := 42) dX4_storeStates_42 rfl (by first | exact Or.inl rfl | exact Or.inr rfl | omega) ?_
    have hu2 : u = I1 (0, 0, 0) 6 := by omega
    rw [hu2] at hfk hA hl h7
    refine ⟨hTI, hEI, ⟨hfr, hf16⟩, Or.inl ⟨rfl, hfk, hA, hl, h7, ?_⟩⟩
    rw [← h0a]
    exact hFI.2.2.2.2.2.2
  · first | refine gz_aload_n (pc := 17) dX4_storeStates_17 rfl ?_ | refine gz_aload_nN (pc := 17) dX4_storeStates_17 rfl ?_
    first | refine gz_aload_n (pc := 18) dX4_storeStates_18 rfl ?_ | refine gz_aload_nN (pc := 18) dX4_storeStates_18 rfl ?_
    refine gz_iload_n (pc := 19) dX4_storeStates_19 rfl ?_
    refine gz_cV2i (pc := 20) dX4_storeStates_20 wm_X4_237 my_X4_storeState rfl rfl rfl (by first | exact gz_B1 | (omega)) (ct_X4_storeState l D α cA hT0 (by omega) hk hTI hEI hFI (by omega)) (fun x20 I20 h20 => ?_)
    obtain ⟨⟨d1, d2, d3, d4, d5, d6⟩, d7⟩ := h20
    rw [r8, r7, hA] at d7
    have hfr2 : (∀ q : gz_P, q.1 ≠ 9 → q.1 ≠ 3 → q ≠ (11, 4, 0) → q ≠ (12, 4, 0) → q.1 ≠ 13 → q.1 ≠ 14 → q.1 ≠ 15 → (∀ t, q ≠ (18, k, t)) → q ≠ (19, k, 0) → q ≠ (16, k, 0) → I20 q = I1 q) ∧ (∀ i, i ≠ 7 → I20 (16, k, 0) i = I1 (16, k, 0) i) := by
      refine ⟨fun q q1 q2 q3 q4 q5 q6 q7 q8 q9 q10 => ?_, fun i hi => (d6 i hi).trans (hf16 i hi)⟩
      rw [d4 q (fun e => q1 (by rw [e])) (fun e => q2 (by rw [e])) q3 q4 (fun e => q5 (by rw [e])) (fun e => q6 (by rw [e])) (fun e => q7 (by rw [e])) (q8 u) q9 q10]
      exact hfr q q1 q2 q3 q4 q5 q6 q7 q8 q9 q10
    rcases d7 with ⟨rfl, g1, g2, g3, g4, g5⟩ | ⟨rfl, g1⟩
    · refine gz_if_ne (pc := 23) (tgt := 35) dX4_storeStates_23 (by decide) (by omega) (fun h23 => ?_) (fun h23 => ?_)
      · refine gz_iinc (pc := 35) dX4_storeStates_35 rfl rfl rfl rfl ?_
        refine gz_goto (pc := 38) (tgt := 9) dX4_storeStates_38 (by decide) ?_
        first
          | exact absurd h23 (by decide)
          | (have hcast : ((u.toNat : Nat) : Int) = u := Int.toNat_of_nonneg h0
             refine ih (u + 1) (by omega) (by omega) _ (by omega) d1 d2 d3 hfr2 (fun v a1 a2 => ?_) ?_ (fun v a1 a2 => ?_) ?_
             · by_cases z : v = u
               · subst z
                 unfold gz_fk
                 rw [hcast]
                 exact g1
               · exact hfk v a1 (by omega)
             · rw [show (u + 1).toNat = u.toNat + 1 by omega]
               show _ = gz_fo ((fun t => I1 (8, t, 0)) ((u.toNat : Nat) : Int)) ((fun t => I1 (7, t, 0) 2) ((u.toNat : Nat) : Int)) (gz_ft (fun t => I1 (8, t, 0)) (fun t => I1 (7, t, 0) 2) (gz_aX I1) u.toNat) (gz_cc ((fun t => I1 (8, t, 0)) ((u.toNat : Nat) : Int)) ((fun t => I1 (7, t, 0) 2) ((u.toNat : Nat) : Int)))
               rw [hcast]
               exact g2
             · by_cases z : v = u
               · subst z
                 exact ⟨g3, g4⟩
               · have h9 := hl v a1 (by omega)
                 rw [d5 v z, d4 (18, k, v) (gz_ne rfl) (gz_ne rfl) (gz_ne rfl) (gz_ne rfl) (gz_ne rfl) (gz_ne rfl) (gz_ne rfl) (fun e => z (by injection e with _ e; injection e)) (gz_ne rfl) (gz_ne rfl)]
                 exact h9
             · rw [show (u + 1).toNat = u.toNat + 1 by omega, gz_sm_s, hcast, g5, h7]
               show _ + _ + I1 (7, u, 0) 2 = _ + (_ + I1 (7, u, 0) 2)
               omega)
      · first | refine gz_aload_n (pc := 26) dX4_storeStates_26 rfl ?_ | refine gz_aload_nN (pc := 26) dX4_storeStates_26 rfl ?_
        refine gz_getr (pc := 27) dX4_storeStates_27 fl_X4_24 rfl rfl rfl (by first | exact gz_B1 | (omega)) ?_
        refine gz_cV0v (pc := 30) dX4_storeStates_30 wm_X4_241 my_X3_undoMarking rfl rfl rfl (by first | exact gz_B1 | (omega)) (ct_X3_undoMarking l D α cA hT0 d3 d1 d2) (fun I30 h30 => ?_)
        obtain ⟨v1, v2, v3, v4, v5⟩ := h30
        refine gz_iconst (pc := 33) dX4_storeStates_33 ?_
        refine gz_zret (pc := 34) dX4_storeStates_34 rfl (by first | exact Or.inl rfl | exact Or.inr rfl | omega) ?_
        first
          | exact absurd h23 (by decide)
          | (refine ⟨v1, v2, ⟨fun q q1 q2 q3 q4 q5 q6 q7 q8 q9 q10 => ?_, fun i hi => ?_⟩, Or.inr ⟨rfl, ⟨u, by omega, ?_⟩, v3.trans h0a, fun p a1 a2 => by rw [v5 p a1 a2, h013]⟩⟩
             · rw [v4 q (fun e => q2 (by rw [e])) q3 (fun e => q5 (by rw [e]))]
               exact hfr2.1 q q1 q2 q3 q4 q5 q6 q7 q8 q9 q10
             · rw [v4 _ (gz_ne rfl) (gz_ne rfl) (gz_ne rfl)]
               exact hfr2.2 i hi
             · obtain ⟨j, g2, g3⟩ := g1
               intro hk9
               refine hk9 j ?_ ?_
               · rw [Int.toNat_of_nonneg h0]; exact g2
               · rw [Int.toNat_of_nonneg h0]; exact g3)
    · refine gz_if_ne (pc := 23) (tgt := 35) dX4_storeStates_23 (by decide) (by omega) (fun h23 => ?_) (fun h23 => ?_)
      · refine gz_iinc (pc := 35) dX4_storeStates_35 rfl rfl rfl rfl ?_
        refine gz_goto (pc := 38) (tgt := 9) dX4_storeStates_38 (by decide) ?_
        first
          | exact absurd h23 (by decide)
          | (have hcast : ((u.toNat : Nat) : Int) = u := Int.toNat_of_nonneg h0
             refine ih (u + 1) (by omega) (by omega) _ (by omega) d1 d2 d3 hfr2 (fun v a1 a2 => ?_) ?_ (fun v a1 a2 => ?_) ?_
             · by_cases z : v = u
               · subst z
                 unfold gz_fk
                 rw [hcast]
                 exact g1
               · exact hfk v a1 (by omega)
             · rw [show (u + 1).toNat = u.toNat + 1 by omega]
               show _ = gz_fo ((fun t => I1 (8, t, 0)) ((u.toNat : Nat) : Int)) ((fun t => I1 (7, t, 0) 2) ((u.toNat : Nat) : Int)) (gz_ft (fun t => I1 (8, t, 0)) (fun t => I1 (7, t, 0) 2) (gz_aX I1) u.toNat) (gz_cc ((fun t => I1 (8, t, 0)) ((u.toNat : Nat) : Int)) ((fun t => I1 (7, t, 0) 2) ((u.toNat : Nat) : Int)))
               rw [hcast]
               exact g2
             · by_cases z : v = u
               · subst z
                 exact ⟨g3, g4⟩
               · have h9 := hl v a1 (by omega)
                 rw [d5 v z, d4 (18, k, v) (gz_ne rfl) (gz_ne rfl) (gz_ne rfl) (gz_ne rfl) (gz_ne rfl) (gz_ne rfl) (gz_ne rfl) (fun e => z (by injection e with _ e; injection e)) (gz_ne rfl) (gz_ne rfl)]
                 exact h9
             · rw [show (u + 1).toNat = u.toNat + 1 by omega, gz_sm_s, hcast, g5, h7]
               show _ + _ + I1 (7, u, 0) 2 = _ + (_ + I1 (7, u, 0) 2)
               omega)
      · first | refine gz_aload_n (pc := 26) dX4_storeStates_26 rfl ?_ | refine gz_aload_nN (pc := 26) dX4_storeStates_26 rfl ?_
        refine gz_getr (pc := 27) dX4_storeStates_27 fl_X4_24 rfl rfl rfl (by first | exact gz_B1 | (omega)) ?_
        refine gz_cV0v (pc := 30) dX4_storeStates_30 wm_X4_241 my_X3_undoMarking rfl rfl rfl (by first | exact gz_B1 | (omega)) (ct_X3_undoMarking l D α cA hT0 d3 d1 d2) (fun I30 h30 => ?_)
        obtain ⟨v1, v2, v3, v4, v5⟩ := h30
        refine gz_iconst (pc := 33) dX4_storeStates_33 ?_
        refine gz_zret (pc := 34) dX4_storeStates_34 rfl (by first | exact Or.inl rfl | exact Or.inr rfl | omega) ?_
        first
          | exact absurd h23 (by decide)
          | (refine ⟨v1, v2, ⟨fun q q1 q2 q3 q4 q5 q6 q7 q8 q9 q10 => ?_, fun i hi => ?_⟩, Or.inr ⟨rfl, ⟨u, by omega, ?_⟩, v3.trans h0a, fun p a1 a2 => by rw [v5 p a1 a2, h013]⟩⟩
             · rw [v4 q (fun e => q2 (by rw [e])) q3 (fun e => q5 (by rw [e]))]
               exact hfr2.1 q q1 q2 q3 q4 q5 q6 q7 q8 q9 q10
             · rw [v4 _ (gz_ne rfl) (gz_ne rfl) (gz_ne rfl)]
               exact hfr2.2 i hi
             · obtain ⟨j, g2, g3⟩ := g1
               intro hk9
               refine hk9 j ?_ ?_
               · rw [Int.toNat_of_nonneg h0]; exact g2
               · rw [Int.toNat_of_nonneg h0]; exact g3)
set_option maxHeartbeats 4000000 in
set_option maxRecDepth 100000 in
theorem ct_X4_storeStates (l : Launch) (D : va_G) (α : gz_P → Nat) (cA : Nat → ClassId) {I1 : gz_M} (hT1 : gz_T I1) (hE : gz_E I1) {k : Int} (hk : 0 ≤ k ∧ k < 12) (hm7 : 0 ≤ I1 (16, k, 0) 7 ∧ I1 (16, k, 0) 7 ≤ 50000) : gz_V l D α cA RX4 cX4_storeStates (some .boolean) 3 5 (gz_Qi fun x I' => gz_T I' ∧ gz_E I' ∧ ((∀ q : gz_P, q.1 ≠ 9 → q.1 ≠ 3 → q ≠ (11, 4, 0) → q ≠ (12, 4, 0) → q.1 ≠ 13 → q.1 ≠ 14 → q.1 ≠ 15 → (∀ t, q ≠ (18, k, t)) → q ≠ (19, k, 0) → q ≠ (16, k, 0) → I' q = I1 q) ∧ (∀ i, i ≠ 7 → I' (16, k, 0) i = I1 (16, k, 0) i)) ∧ (x = 1 ∧ (∀ u, 0 ≤ u → u < I1 (0, 0, 0) 6 → gz_fk (fun t => I1 (8, t, 0)) (fun t => I1 (7, t, 0) 2) (gz_aX I1) (u).toNat) ∧ gz_aX I' = gz_ft (fun t => I1 (8, t, 0)) (fun t => I1 (7, t, 0) 2) (gz_aX I1) (I1 (0, 0, 0) 6).toNat ∧ (∀ u, 0 ≤ u → u < I1 (0, 0, 0) 6 → (I' (19, k, 0) u = (gz_cc ((fun t => I1 (8, t, 0)) u) ((fun t => I1 (7, t, 0) 2) u) : Nat) ∧ ∀ j : Nat, j < gz_cc ((fun t => I1 (8, t, 0)) u) ((fun t => I1 (7, t, 0) 2) u) → I' (18, k, u) j = gz_fp ((fun t => I1 (8, t, 0)) u) ((fun t => I1 (7, t, 0) 2) u) (gz_ft (fun t => I1 (8, t, 0)) (fun t => I1 (7, t, 0) 2) (gz_aX I1) (u).toNat) j)) ∧ I' (16, k, 0) 7 = I1 (16, k, 0) 7 + gz_sm (fun t => I1 (7, t, 0) 2) (I1 (0, 0, 0) 6).toNat ∧ I' (3, 0, 0) 5 = gz_tot (gz_aX I') - gz_tot (gz_aX I1) ∨ x = 0 ∧ (∃ u, (0 ≤ u ∧ u < I1 (0, 0, 0) 6) ∧ ¬ gz_fk (fun t => I1 (8, t, 0)) (fun t => I1 (7, t, 0) 2) (gz_aX I1) (u).toNat) ∧ gz_aX I' = (gz_aX I1) ∧ ∀ p, 0 ≤ p → p < 120 → I' (13, 0, 0) p = I1 (13, 0, 0) p)) I1 [some (.ref (α (0, 0, 0))), some (.ref (α (16, k, 0))), none] [] 0 := by
  first | refine gz_aload_n (pc := 0) dX4_storeStates_0 rfl ?_ | refine gz_aload_nN (pc := 0) dX4_storeStates_0 rfl ?_
  refine gz_getr (pc := 1) dX4_storeStates_1 fl_X4_24 rfl rfl rfl (by first | exact gz_B1 | (omega)) ?_
  refine gz_cV0v (pc := 4) dX4_storeStates_4 wm_X4_234 my_X3_beginMarking rfl rfl rfl (by first | exact gz_B1 | (omega)) (ct_X3_beginMarking l D α cA) (fun I4 h4 => ?_)
  subst h4
  refine gz_iconst (pc := 7) dX4_storeStates_7 ?_
  refine gz_istore_n (pc := 8) dX4_storeStates_8 rfl rfl rfl ?_
  have n3 : ∀ q, q ≠ (3, 0, 0) → (gz_up (gz_up I1 (3, 0, 0) 4 0) (3, 0, 0) 5 0) q = I1 q := fun q hq => by rw [gz_up_ne hq, gz_up_ne hq]
  have ha : gz_aX (gz_up (gz_up I1 (3, 0, 0) 4 0) (3, 0, 0) 5 0) = gz_aX I1 := by
    funext c p i
    unfold gz_aX
    rw [n3 _ (gz_ne rfl), n3 _ (gz_ne rfl), n3 _ (gz_ne rfl), n3 _ (gz_ne rfl)]
  have hTB : gz_T (gz_up (gz_up I1 (3, 0, 0) 4 0) (3, 0, 0) 5 0) := gz_Tu3 (gz_Tu3 hT1 (by decide)) (by decide)
  have b4 : (gz_up (gz_up I1 (3, 0, 0) 4 0) (3, 0, 0) 5 0) (3, 0, 0) 4 = 0 := by rw [gz_up_eq, if_neg (by decide), gz_up_s]
  have b5 : (gz_up (gz_up I1 (3, 0, 0) 4 0) (3, 0, 0) 5 0) (3, 0, 0) 5 = 0 := by rw [gz_up_s]
  have hEB : gz_E (gz_up (gz_up I1 (3, 0, 0) 4 0) (3, 0, 0) 5 0) := by
    unfold gz_E
    rw [ha, gz_up_eq, if_neg (by decide), gz_up_eq, if_neg (by decide), gz_up_eq, if_neg (by decide), gz_up_eq, if_neg (by decide)]
    exact hE
  have hFB : gz_FI (gz_up (gz_up I1 (3, 0, 0) 4 0) (3, 0, 0) 5 0) (gz_up (gz_up I1 (3, 0, 0) 4 0) (3, 0, 0) 5 0) := by
    have := gz_cnt_in (gz_aX I1)
    unfold gz_FI
    rw [b4, b5, ha]
    exact ⟨by omega, fun j a1 a2 => by omega, fun i j a1 a2 => by omega, fun p _ _ _ => rfl, fun p _ _ _ => ⟨rfl, rfl, rfl, fun _ _ _ => rfl⟩, by omega, by omega⟩
  have e0 := gz_tk hT1 0 0
  exact lp_X4_storeStates l D α cA hTB hT1 ha (n3 _ (gz_ne rfl)) hk hm7 0 (by omega) (gz_up (gz_up I1 (3, 0, 0) 4 0) (3, 0, 0) 5 0) (by omega) hTB hEB hFB ⟨fun q _ q2 _ _ _ _ _ _ _ _ => n3 q (fun e => q2 (by rw [e])), fun i _ => by rw [n3 _ (gz_ne rfl)]⟩ (fun v a1 a2 => by omega) ha (fun v a1 a2 => by omega) (by rw [n3 _ (gz_ne rfl)]; exact (Int.add_zero _).symm)
