theorem gi_F4 {h : Nat} {cA : Nat → ClassId} : gn_F4 cA h (gi_F h cA) := by
  refine ⟨⟨(gi_F_at (gz_mem (r := 3) (a := 0) (b := 0) (by decide) rfl (by decide) (by decide))).trans rfl, (gi_F_at (gz_mem (r := 10) (a := 4) (b := 0) (by decide) rfl (by decide) (by decide))).trans rfl, (gi_F_at (gz_mem (r := 11) (a := 4) (b := 0) (by decide) rfl (by decide) (by decide))).trans rfl, (gi_F_at (gz_mem (r := 12) (a := 4) (b := 0) (by decide) rfl (by decide) (by decide))).trans rfl, (gi_F_at (gz_mem (r := 13) (a := 0) (b := 0) (by decide) rfl (by decide) (by decide))).trans rfl, (gi_F_at (gz_mem (r := 14) (a := 0) (b := 0) (by decide) rfl (by decide) (by decide))).trans rfl, (gi_F_at (gz_mem (r := 15) (a := 0) (b := 0) (by decide) rfl (by decide) (by decide))).trans rfl, (gi_F_at (gz_mem (r := 5) (a := 0) (b := 0) (by decide) rfl (by decide) (by decide))).trans rfl, (gi_F_at (gz_mem (r := 6) (a := 0) (b := 0) (by decide) rfl (by decide) (by decide))).trans rfl⟩, fun t ht => ?_, fun k hk => ?_⟩
  · have e10 : gi_off (10, (t : Int), 0) = 16 + 6 * t := by
      show (if (t : Int) = 4 then 4 else 16 + 6 * (t : Int).toNat) = _
      rw [if_neg (by omega)]
      rfl
    have e11 : gi_off (11, (t : Int), 0) = 16 + 6 * t + 1 := by
      show (if (t : Int) = 4 then 5 else 16 + 6 * (t : Int).toNat + 1) = _
      rw [if_neg (by omega)]
      rfl
    have e12 : gi_off (12, (t : Int), 0) = 16 + 6 * t + 1 + 1 := by
      show (if (t : Int) = 4 then 6 else 16 + 6 * (t : Int).toNat + 1 + 1) = _
      rw [if_neg (by omega)]
      rfl
    refine ⟨(gi_F_at (p := (7, (t : Int), 0)) (gz_mem (r := 7) (a := (t : Int)) (b := 0) (by decide) rfl (by omega) (by decide))).trans rfl, (gi_F_at (p := (8, (t : Int), 0)) (gz_mem (r := 8) (a := (t : Int)) (b := 0) (by decide) rfl (by omega) (by decide))).trans rfl, (gi_F_at (p := (9, (t : Int), 0)) (gz_mem (r := 9) (a := (t : Int)) (b := 0) (by decide) rfl (by omega) (by decide))).trans rfl, ?_, ?_, ?_⟩
    · rw [← e10, gi_F_at (gz_mem (r := 10) (a := (t : Int)) (b := 0) (by decide) rfl (by omega) (by decide))]
      show Sum.inr (1, [Value.ref (h + gi_off (11, (t : Int), 0)), Value.ref (h + gi_off (12, (t : Int), 0))]) = _
      rw [e11, e12, e10]
    · rw [← e11, gi_F_at (gz_mem (r := 11) (a := (t : Int)) (b := 0) (by decide) rfl (by omega) (by decide))]
      rfl
    · rw [← e12, gi_F_at (gz_mem (r := 12) (a := (t : Int)) (b := 0) (by decide) rfl (by omega) (by decide))]
      rfl
  · refine ⟨(gi_F_at (p := (16, (k : Int), 0)) (gz_mem (r := 16) (a := (k : Int)) (b := 0) (by decide) rfl (by omega) (by decide))).trans rfl, ⟨fun i => some (gi_α h (18, (k : Int), (i : Int))), (gi_F_at (p := (17, (k : Int), 0)) (gz_mem (r := 17) (a := (k : Int)) (b := 0) (by decide) rfl (by omega) (by decide))).trans rfl, fun i _ => rfl⟩, fun j hj => ?_, (gi_F_at (p := (19, (k : Int), 0)) (gz_mem (r := 19) (a := (k : Int)) (b := 0) (by decide) rfl (by omega) (by decide))).trans rfl⟩
    exact (gi_F_at (p := (18, (k : Int), (j : Int))) (gz_mem (r := 18) (a := (k : Int)) (b := (j : Int)) (by decide) rfl (by omega) (by omega))).trans rfl
theorem gn_at_R {D : va_G} {a N : Nat} {c : ClassId} {f g : Nat → Option Nat} (hfg : ∀ j, j < N → f j = g j) : va_at D gz_cl (a, gn_R c N f) = va_at D gz_cl (a, gn_R c N g) := by
  funext H
  show (H[a]? = some (vp_cell c (N, .inr (.inr (.inr (.inr f)))))) = (H[a]? = some (vp_cell c (N, .inr (.inr (.inr (.inr g))))))
  rw [vp_cell_q, vp_cell_q, gn_arrV hfg]
theorem gi_re4 {D : va_G} {h : Nat} {cA : Nat → ClassId} : ∀ i, i < 121 → va_at D gz_cl (h + i, gn_E4 (gi_F h cA) [.ref (h + 1), .ref (h + 2), .ref (h + 3), .ref (h + 10), .ref (h + 11), .ref (h + 12), gz_i (2), gz_i (0), gz_i (0)] (gn_R (cA 2) 4 (gn_f h 13 6 4)) (gn_R (cA 3) 4 (gn_f h 16 6 4)) (gn_R (cA 4) 12 (gn_f h 37 7 12)) i) = va_at D gz_cl (h + i, gi_F h cA i) := fun i hi => by
  by_cases h0 : i = 0
  · subst h0
    have e : gi_F h cA 0 = .inr (4, [.ref (h + 1), .ref (h + 2), .ref (h + 3), .ref (h + 10), .ref (h + 11), .ref (h + 12), gz_i (2), gz_i (0), gz_i (0)]) := (gi_F_at (gz_mem (r := 0) (a := 0) (b := 0) (by decide) rfl (by decide) (by decide))).trans rfl
    rw [e]
    rfl
  · by_cases h1 : i = 1
    · subst h1
      have e : gi_F h cA 1 = gn_R (cA 2) 4 (fun i => some (gi_α h (7, (i : Int), 0))) := (gi_F_at (gz_mem (r := 1) (a := 0) (b := 0) (by decide) rfl (by decide) (by decide))).trans rfl
      rw [e]
      exact gn_at_R (fun j hj => by
        unfold gn_f
        rw [if_pos (by omega)]
        rfl)
    · by_cases h2 : i = 2
      · subst h2
        have e : gi_F h cA 2 = gn_R (cA 3) 4 (fun i => some (gi_α h (10, (i : Int), 0))) := (gi_F_at (gz_mem (r := 2) (a := 0) (b := 0) (by decide) rfl (by decide) (by decide))).trans rfl
        rw [e]
        refine gn_at_R (fun j hj => ?_)
        unfold gn_f
        rw [if_pos (by omega)]
        show _ = some (h + if (j : Int) = 4 then 4 else 16 + 6 * (j : Int).toNat)
        rw [if_neg (by omega)]
        rfl
      · by_cases h3 : i = 10
        · subst h3
          have e : gi_F h cA 10 = gn_R (cA 4) 12 (fun i => some (gi_α h (16, gi_I (4, 0, 0) (i : Int), 0))) := (gi_F_at (gz_mem (r := 4) (a := 0) (b := 0) (by decide) rfl (by decide) (by decide))).trans rfl
          rw [e]
          refine gn_at_R (fun j hj => ?_)
          unfold gn_f
          rw [if_pos (by omega)]
          show _ = some (h + (37 + 7 * (if 0 ≤ (j : Int) ∧ (j : Int) < 12 then (j : Int) else 0).toNat))
          rw [if_pos (by omega)]
          rfl
        · rw [gn_E4_o h0 h1 h2 h3]
theorem gi_f30 {h : Nat} {cA : Nat → ClassId} : gi_F h cA 131 = .inl (cA 0, 12, .inl (fun i : Nat => if (i : Int) < 12 then Int32.ofInt (-1) else 0)) := by
  have e : gi_F h cA 131 = .inl (cA 0, 12, .inl (fun i : Nat => Int32.ofInt (if 0 ≤ (i : Int) ∧ (i : Int) < 12 then -1 else 0))) := (gi_F_at (gz_mem (r := 30) (a := 0) (b := 0) (by decide) rfl (by decide) (by decide))).trans rfl
  rw [e]
  congr 4
  funext i
  by_cases h1 : (i : Int) < 12
  · rw [if_pos h1, if_pos (by omega)]
  · rw [if_neg h1, if_neg (by omega)]
    rfl
set_option maxHeartbeats 4000000 in
set_option maxRecDepth 100000 in
theorem gi_law (l : Launch) (D : va_G) (cA : Nat → ClassId) (h b : Nat) : gn_V l D cA h RL cL_law (some .boolean) 4 9 false (fun n' E' L' st' pc' => n' = 141 ∧ E' = gi_F h cA ∧ L' = [some (.ref b), some (.ref (h + 0)), some (.ref (h + 121)), some (gz_i 0)] ∧ st' = [] ∧ pc' = 18) 141 53400 0 (gi_F h cA) [some (.ref b), none, none, none] [] 0 := by
  refine gn_new (pc := 0) (ci := 4) (N := 9) (C9 := RX4) (T9 := TX4) (ty := tyX4) (fs := [.null, .null, .null, .null, .null, .null, .int 0, .int 0, .int 0]) (mc' := 140) (ms' := 53391) dL_law_0 rfl wk_L_7 wj_X4 wn_X4 wu_X4 tyX4_ok (fun j hj => by rcases (show j = 0 ∨ j = 1 ∨ j = 2 ∨ j = 3 ∨ j = 4 ∨ j = 5 ∨ j = 6 ∨ j = 7 ∨ j = 8 by omega) with rfl | rfl | rfl | rfl | rfl | rfl | rfl | rfl | rfl <;> rfl) rfl rfl ?_
  refine gn_dup (pc := 3) dL_law_3 rfl ?_
  refine gn_re (E' := gn_E4 (gi_F h cA) [.null, .null, .null, .null, .null, .null, .int 0, .int 0, .int 0] (gn_R (cA 2) 4 (gn_f h 13 6 0)) (gn_R (cA 3) 4 (gn_f h 16 6 0)) (gn_R (cA 4) 12 (gn_f h 37 7 0))) (fun i hi => ?_) ?_
  · rw [show i = 0 by omega]
    rfl
  refine gn_cI (pc := 4) (mc1 := 120) (ms1 := 26834) (mc2 := 20) (ms2 := 26557) (k := 0) dL_law_4 wm_L_9 gy_X4 rfl rfl rfl rfl rfl (nt_X4 l D cA h gi_F4) (fun n9 E9 h9 => ?_)
  obtain ⟨rfl, rfl⟩ := h9
  refine gn_re gi_re4 ?_
  refine gn_astore_n (pc := 7) dL_law_7 rfl rfl rfl ?_
  refine gn_new (pc := 8) (ci := 5) (N := 21) (C9 := RX5) (T9 := TX5) (ty := tyX5) (fs := [.int 0, .null, .null, .null, .null, .null, .null, .null, .null, .null, .int 0, .null, .null, .null, .null, .null, .null, .null, .null, .null, .null]) (mc' := 19) (ms' := 26536) dL_law_8 rfl wk_L_10 wj_X5 wn_X5 wu_X5 tyX5_ok (fun j hj => by rcases (show j = 0 ∨ j = 1 ∨ j = 2 ∨ j = 3 ∨ j = 4 ∨ j = 5 ∨ j = 6 ∨ j = 7 ∨ j = 8 ∨ j = 9 ∨ j = 10 ∨ j = 11 ∨ j = 12 ∨ j = 13 ∨ j = 14 ∨ j = 15 ∨ j = 16 ∨ j = 17 ∨ j = 18 ∨ j = 19 ∨ j = 20 by omega) with rfl | rfl | rfl | rfl | rfl | rfl | rfl | rfl | rfl | rfl | rfl | rfl | rfl | rfl | rfl | rfl | rfl | rfl | rfl | rfl | rfl <;> rfl) rfl rfl ?_
  refine gn_dup (pc := 11) dL_law_11 rfl ?_
  refine gn_re (E' := va_up (va_up (gi_F h cA) 131 (gn_I (cA 0) 12)) 121 (.inr (5, [.int 0, .null, .null, .null, .null, .null, .null, .null, .null, .null, .int 0, .null, .null, .null, .null, .null, .null, .null, .null, .null, .null]))) (fun i hi => ?_) ?_
  · by_cases e9 : i = 121
    · rw [e9, va_up_self, va_up_self]
    · rw [va_up_ne _ _ e9, va_up_ne _ _ e9, va_up_ne _ _ (by omega)]
  refine gn_cI (pc := 12) (mc1 := 19) (ms1 := 26536) (mc2 := 0) (ms2 := 0) (k := 121) dL_law_12 wm_L_12 gy_X5 rfl rfl rfl rfl rfl (nt_X5 l D cA h (n := 122) (k := 121) (E := (va_up (gi_F h cA) 131 (gn_I (cA 0) 12))) (by decide) (by rw [va_up_ne _ _ (by decide)]; exact (gi_F_at (gz_mem (r := 21) (a := 0) (b := 0) (by decide) rfl (by decide) (by decide))).trans rfl) (by rw [va_up_ne _ _ (by decide)]; exact (gi_F_at (gz_mem (r := 22) (a := 0) (b := 0) (by decide) rfl (by decide) (by decide))).trans rfl) (by rw [va_up_ne _ _ (by decide)]; exact (gi_F_at (gz_mem (r := 23) (a := 0) (b := 0) (by decide) rfl (by decide) (by decide))).trans rfl) (by rw [va_up_ne _ _ (by decide)]; exact (gi_F_at (gz_mem (r := 24) (a := 0) (b := 0) (by decide) rfl (by decide) (by decide))).trans rfl) (by rw [va_up_ne _ _ (by decide)]; exact (gi_F_at (gz_mem (r := 25) (a := 0) (b := 0) (by decide) rfl (by decide) (by decide))).trans rfl) (by rw [va_up_ne _ _ (by decide)]; exact (gi_F_at (gz_mem (r := 26) (a := 0) (b := 0) (by decide) rfl (by decide) (by decide))).trans rfl) (by rw [va_up_ne _ _ (by decide)]; exact (gi_F_at (gz_mem (r := 27) (a := 0) (b := 0) (by decide) rfl (by decide) (by decide))).trans rfl) (by rw [va_up_ne _ _ (by decide)]; exact (gi_F_at (gz_mem (r := 28) (a := 0) (b := 0) (by decide) rfl (by decide) (by decide))).trans rfl) (by rw [va_up_ne _ _ (by decide)]; exact (gi_F_at (gz_mem (r := 29) (a := 0) (b := 0) (by decide) rfl (by decide) (by decide))).trans rfl) (va_up_self _ _ _) (by rw [va_up_ne _ _ (by decide)]; exact (gi_F_at (gz_mem (r := 31) (a := 0) (b := 0) (by decide) rfl (by decide) (by decide))).trans rfl) (by rw [va_up_ne _ _ (by decide)]; exact (gi_F_at (gz_mem (r := 32) (a := 0) (b := 0) (by decide) rfl (by decide) (by decide))).trans rfl) (by rw [va_up_ne _ _ (by decide)]; exact (gi_F_at (gz_mem (r := 33) (a := 0) (b := 0) (by decide) rfl (by decide) (by decide))).trans rfl) (by rw [va_up_ne _ _ (by decide)]; exact (gi_F_at (gz_mem (r := 34) (a := 0) (b := 0) (by decide) rfl (by decide) (by decide))).trans rfl) (by rw [va_up_ne _ _ (by decide)]; exact (gi_F_at (gz_mem (r := 35) (a := 0) (b := 0) (by decide) rfl (by decide) (by decide))).trans rfl) (by rw [va_up_ne _ _ (by decide)]; exact (gi_F_at (gz_mem (r := 36) (a := 0) (b := 0) (by decide) rfl (by decide) (by decide))).trans rfl) (by rw [va_up_ne _ _ (by decide)]; exact (gi_F_at (gz_mem (r := 37) (a := 0) (b := 0) (by decide) rfl (by decide) (by decide))).trans rfl) (by rw [va_up_ne _ _ (by decide)]; exact (gi_F_at (gz_mem (r := 38) (a := 0) (b := 0) (by decide) rfl (by decide) (by decide))).trans rfl) (by rw [va_up_ne _ _ (by decide)]; exact (gi_F_at (gz_mem (r := 39) (a := 0) (b := 0) (by decide) rfl (by decide) (by decide))).trans rfl)) (fun n9 E9 h9 => ?_)
  obtain ⟨rfl, rfl⟩ := h9
  refine gn_re (E' := gi_F h cA) (fun i hi => ?_) ?_
  · by_cases e9 : i = 131
    · rw [e9, gi_f30]
      rfl
    · rw [va_up_ne _ _ e9]
      by_cases e8 : i = 121
      · have e : gi_F h cA 121 = .inr (5, [gz_i (2), .ref (h + 122), .ref (h + (122 + 1)), .ref (h + (122 + 2)), .ref (h + (122 + 3)), .ref (h + (122 + 4)), .ref (h + (122 + 5)), .ref (h + (122 + 6)), .ref (h + (122 + 7)), .ref (h + (122 + 8)), .int 0, .ref (h + (122 + 9)), .ref (h + (122 + 10)), .ref (h + (122 + 11)), .ref (h + (122 + 12)), .ref (h + (122 + 13)), .ref (h + (122 + 14)), .ref (h + (122 + 15)), .ref (h + (122 + 16)), .ref (h + (122 + 17)), .ref (h + (122 + 18))]) := (gi_F_at (gz_mem (r := 20) (a := 0) (b := 0) (by decide) rfl (by decide) (by decide))).trans rfl
        rw [e8, va_up_self, e]
      · rw [va_up_ne _ _ e8, va_up_ne _ _ e9]
  refine gn_astore_n (pc := 15) dL_law_15 rfl rfl rfl ?_
  refine gn_iconst (pc := 16) dL_law_16 ?_
  refine gn_istore_n (pc := 17) dL_law_17 rfl rfl rfl ?_
  exact gn_stop ⟨rfl, rfl, rfl, rfl, rfl⟩
