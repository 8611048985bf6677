def gz_fb (I : gz_M) : Int → Int := fun p => if I (39, 0, 0) p = 0 then 0 else I (24, 0, 0) p
def gz_m1 (I : gz_M) (s a u : Int) : gz_M := gz_up (gz_up (gz_up (gz_up (gz_up (gz_up (gz_up I (38, 0, 0) s (gz_sm (gz_fb I) 120)) (37, 0, 0) s a) (30, 0, 0) s (I (20, 0, 0) 10)) (20, 0, 0) 10 (I (20, 0, 0) 10 + 1)) (31, 0, 0) s 1) (33, 0, 0) s (I (20, 0, 0) 0)) (32, 0, 0) s (if u = -1 then -1 else I (30, 0, 0) u)
def gz_lat (I : gz_M) (w u : Int) : Prop := w = 1 ∧ u = -1 ∨ ¬ w = 1 ∧ (u = -1 ∧ (∀ s, 0 ≤ s → s < 12 → ¬ (¬ I (30, 0, 0) s = -1 ∧ I (31, 0, 0) s = 1 ∧ I (30, 0, 0) s < I (20, 0, 0) 10)) ∨ (0 ≤ u ∧ u < 12) ∧ (¬ I (30, 0, 0) u = -1 ∧ I (31, 0, 0) u = 1 ∧ I (30, 0, 0) u < I (20, 0, 0) 10) ∧ ∀ s, 0 ≤ s → s < 12 → (¬ I (30, 0, 0) s = -1 ∧ I (31, 0, 0) s = 1 ∧ I (30, 0, 0) s < I (20, 0, 0) 10) → I (30, 0, 0) s ≤ I (30, 0, 0) u)
theorem gz_fb_in {I : gz_M} (hT : gz_T I) (n : Nat) : 0 ≤ gz_sm (gz_fb I) n ∧ gz_sm (gz_fb I) n ≤ 32 * n := by
  have := gz_sm_in (f := gz_fb I) (lo := 0) (hi := 32) (fun p => by
    unfold gz_fb
    have := gz_t24 hT 0 0 p
    split <;> omega) n
  omega
theorem gz_m1_T {I : gz_M} (hT : gz_T I) {s a u : Int} (ha : 0 ≤ a ∧ a ≤ 2000) (hn : 0 ≤ I (20, 0, 0) 10 ∧ I (20, 0, 0) 10 ≤ 100000) : gz_T (gz_m1 I s a u) := by
  have h1 := gz_fb_in hT 120
  have h2 := gz_tM0 hT 0 0
  have h3 := gz_t30 hT 0 0 u
  exact gz_Tu32 (gz_Tu33 (gz_Tu31 (gz_Tu20_10 (gz_Tu30 (gz_Tu37 (gz_Tu38 hT (by omega)) (by omega)) (by omega)) (by omega)) (by decide)) (by omega)) (by split <;> omega)
theorem gz_m1_o {I : gz_M} {s a u : Int} {q : gz_P} (h0 : q ≠ (20, 0, 0)) (h1 : q ≠ (30, 0, 0)) (h2 : q ≠ (31, 0, 0)) (h3 : q ≠ (32, 0, 0)) (h4 : q ≠ (33, 0, 0)) (h5 : q ≠ (37, 0, 0)) (h6 : q ≠ (38, 0, 0)) : gz_m1 I s a u q = I q := by
  unfold gz_m1
  rw [gz_up_ne h3, gz_up_ne h4, gz_up_ne h2, gz_up_ne h0, gz_up_ne h1, gz_up_ne h5, gz_up_ne h6]
theorem gz_m1_20 {I : gz_M} {s a u i : Int} : gz_m1 I s a u (20, 0, 0) i = if i = 10 then I (20, 0, 0) 10 + 1 else I (20, 0, 0) i := by
  unfold gz_m1
  simp (decide := true) only [gz_up_r, gz_up_k, and_self, true_and]
theorem gz_m1_30 {I : gz_M} {s a u i : Int} : gz_m1 I s a u (30, 0, 0) i = if i = s then I (20, 0, 0) 10 else I (30, 0, 0) i := by
  unfold gz_m1
  simp (decide := true) only [gz_up_r, gz_up_k, and_self, true_and]
theorem gz_m1_31 {I : gz_M} {s a u i : Int} : gz_m1 I s a u (31, 0, 0) i = if i = s then 1 else I (31, 0, 0) i := by
  unfold gz_m1
  simp (decide := true) only [gz_up_r, gz_up_k, and_self, true_and]
theorem gz_m1_32 {I : gz_M} {s a u i : Int} : gz_m1 I s a u (32, 0, 0) i = if i = s then (if u = -1 then -1 else I (30, 0, 0) u) else I (32, 0, 0) i := by
  unfold gz_m1
  simp (decide := true) only [gz_up_r, gz_up_k, and_self, true_and]
theorem gz_m1_33 {I : gz_M} {s a u i : Int} : gz_m1 I s a u (33, 0, 0) i = if i = s then I (20, 0, 0) 0 else I (33, 0, 0) i := by
  unfold gz_m1
  simp (decide := true) only [gz_up_r, gz_up_k, and_self, true_and]
theorem gz_m1_37 {I : gz_M} {s a u i : Int} : gz_m1 I s a u (37, 0, 0) i = if i = s then a else I (37, 0, 0) i := by
  unfold gz_m1
  simp (decide := true) only [gz_up_r, gz_up_k, and_self, true_and]
theorem gz_m1_38 {I : gz_M} {s a u i : Int} : gz_m1 I s a u (38, 0, 0) i = if i = s then gz_sm (gz_fb I) 120 else I (38, 0, 0) i := by
  unfold gz_m1
  simp (decide := true) only [gz_up_r, gz_up_k, and_self, true_and]
set_option maxHeartbeats 4000000 in
set_option maxRecDepth 100000 in
theorem lp_X5_markS (l : Launch) (D : va_G) (α : gz_P → Nat) (cA : Nat → ClassId) {I1 : gz_M} (hT1 : gz_T I1) {s a w : Int} (hs : 0 ≤ s ∧ s < 12) (hw : w = 0 ∨ w = 1) (ha : 0 ≤ a ∧ a ≤ 2000) (hl : ∀ t, 0 ≤ t → t < I1 (20, 0, 0) 0 → ∀ j, 0 ≤ j → j < I1 (34, 0, 0) (4 * s + t) → 0 ≤ I1 (35, 0, 0) (80 * (4 * s + t) + j)) (hsum : ∀ t, 0 ≤ t → t < I1 (20, 0, 0) 0 → gz_sm (fun m => I1 (24, 0, 0) (gz_lM I1 s t m)) (I1 (34, 0, 0) (4 * s + t)).toNat ≤ 300) (hnx : 0 ≤ I1 (20, 0, 0) 10 ∧ I1 (20, 0, 0) 10 ≤ 100000) (hsn : I1 (30, 0, 0) s = -1) {P : Int → gz_M → Prop} (hP : ∀ (I' : gz_M) (u : Int), gz_lat I1 w u → gz_CI (gz_up (gz_m1 I1 s a u) (36, 0, 0) s (gz_sm (gz_tl (gz_m1 I1 s a u) s u) (I1 (20, 0, 0) 0).toNat)) I' s (I1 (20, 0, 0) 0) → P (I1 (20, 0, 0) 10) I') : ∀ u : Int, gz_lat I1 w u → ∀ k, k ≤ 120 → ∀ f : Int, 0 ≤ k → f = gz_sm (gz_fb I1) k.toNat → ∀ o7 o8 o9 o10 : Option Value, gz_V l D α cA RX5 cX5_mark (some .int) 11 6 (gz_Qi P) (gz_up I1 (38, 0, 0) s f) [some (.ref (α (20, 0, 0))), some (gz_i (w)), some (gz_i (s)), some (gz_i (1)), some (gz_i (a)), some (gz_i (u)), some (gz_i (k)), o7, o8, o9, o10] [] 305 := by
  intro u hu
  have hur : -1 ≤ u ∧ u < 12 ∧ (¬ u = -1 → ¬ u = s) := by
    rcases hu with h | ⟨_, h | h⟩
    · omega
    · omega
    · refine ⟨by omega, by omega, fun _ e => h.2.1.1 (by rw [e]; exact hsn)⟩
  have e0 := gz_tM0 hT1 0 0
  have hTm := gz_m1_T hT1 (s := s) (a := a) (u := u) ha hnx
  refine gz_upto _ ?_
  intro k hk ih f h0 hf o7 o8 o9 o10
  have e1 := gz_t39 hT1 0 0 k
  have e30 := gz_t30 hT1 0 0 u
  refine gz_iload (pc := 305) dX5_mark_305 rfl ?_
  refine gz_bipush (pc := 307) dX5_mark_307 rfl ?_
  refine gz_icmp_ge (pc := 309) (tgt := 348) dX5_mark_309 (by decide) (by omega) (by omega) (fun h309 => ?_) (fun h309 => ?_)
  · have hm1 : u = -1 → gz_up (gz_up (gz_up (gz_up (gz_up (gz_up (gz_up I1 (38, 0, 0) s f) (37, 0, 0) s a) (30, 0, 0) s (I1 (20, 0, 0) 10)) (20, 0, 0) 10 (I1 (20, 0, 0) 10 + 1)) (31, 0, 0) s 1) (33, 0, 0) s (I1 (20, 0, 0) 0)) (32, 0, 0) s  (-1) = (gz_m1 I1 s a u) := fun hq => by unfold gz_m1; rw [if_pos hq, hf, show k = 120 by omega]; rfl
    have hm2 : ¬ u = -1 → gz_up (gz_up (gz_up (gz_up (gz_up (gz_up (gz_up I1 (38, 0, 0) s f) (37, 0, 0) s a) (30, 0, 0) s (I1 (20, 0, 0) 10)) (20, 0, 0) 10 (I1 (20, 0, 0) 10 + 1)) (31, 0, 0) s 1) (33, 0, 0) s (I1 (20, 0, 0) 0)) (32, 0, 0) s  (I1 (30, 0, 0) u) = (gz_m1 I1 s a u) := fun hq => by unfold gz_m1; rw [if_neg hq, hf, show k = 120 by omega]; rfl
    first | refine gz_aload_n (pc := 348) dX5_mark_348 rfl ?_ | refine gz_aload_nN (pc := 348) dX5_mark_348 rfl ?_
    refine gz_getr (pc := 349) dX5_mark_349 fl_X5_63 rfl rfl rfl (by first | exact gz_B1 | (omega)) ?_
    refine gz_iload_n (pc := 352) dX5_mark_352 rfl ?_
    refine gz_iload (pc := 353) dX5_mark_353 rfl ?_
    refine gz_iast (pc := 355) dX5_mark_355 rfl rfl (by first | exact gz_B1 | (omega)) (by omega) ?_
    first | refine gz_aload_n (pc := 356) dX5_mark_356 rfl ?_ | refine gz_aload_nN (pc := 356) dX5_mark_356 rfl ?_
    refine gz_getr (pc := 357) dX5_mark_357 fl_X5_42 rfl rfl rfl (by first | exact gz_B1 | (omega)) ?_
    refine gz_iload_n (pc := 360) dX5_mark_360 rfl ?_
    first | refine gz_aload_n (pc := 361) dX5_mark_361 rfl ?_ | refine gz_aload_nN (pc := 361) dX5_mark_361 rfl ?_
    refine gz_getI (pc := 362) 10 dX5_mark_362 fl_X5_128 rfl rfl rfl rfl (by first | exact gz_B1 | (omega)) ?_
    simp (decide := true) only [gz_up_r, gz_up_s]
    refine gz_iast (pc := 365) dX5_mark_365 rfl rfl (by first | exact gz_B1 | (omega)) (by omega) ?_
    first | refine gz_aload_n (pc := 366) dX5_mark_366 rfl ?_ | refine gz_aload_nN (pc := 366) dX5_mark_366 rfl ?_
    refine gz_dup (pc := 367) dX5_mark_367 rfl ?_
    refine gz_getI (pc := 368) 10 dX5_mark_368 fl_X5_128 rfl rfl rfl rfl (by first | exact gz_B1 | (omega)) ?_
    simp (decide := true) only [gz_up_r, gz_up_s]
    refine gz_iconst (pc := 371) dX5_mark_371 ?_
    refine gz_iadd (pc := 372) dX5_mark_372 ?_
    refine gz_putI (pc := 373) 10 dX5_mark_373 fw_X5_128 rfl rfl rfl rfl (by first | exact gz_B1 | (omega)) (Or.inl rfl) ?_
    first | refine gz_aload_n (pc := 376) dX5_mark_376 rfl ?_ | refine gz_aload_nN (pc := 376) dX5_mark_376 rfl ?_
    refine gz_getr (pc := 377) dX5_mark_377 fl_X5_45 rfl rfl rfl (by first | exact gz_B1 | (omega)) ?_
    refine gz_iload_n (pc := 380) dX5_mark_380 rfl ?_
    refine gz_iconst (pc := 381) dX5_mark_381 ?_
    refine gz_zast (pc := 382) dX5_mark_382 rfl rfl (by first | exact gz_B1 | (omega)) (by omega) (by omega) ?_
    first | refine gz_aload_n (pc := 383) dX5_mark_383 rfl ?_ | refine gz_aload_nN (pc := 383) dX5_mark_383 rfl ?_
    refine gz_getr (pc := 384) dX5_mark_384 fl_X5_51 rfl rfl rfl (by first | exact gz_B1 | (omega)) ?_
    refine gz_iload_n (pc := 387) dX5_mark_387 rfl ?_
    first | refine gz_aload_n (pc := 388) dX5_mark_388 rfl ?_ | refine gz_aload_nN (pc := 388) dX5_mark_388 rfl ?_
    refine gz_getI (pc := 389) 0 dX5_mark_389 fl_X5_7 rfl rfl rfl rfl (by first | exact gz_B1 | (omega)) ?_
    simp (decide := true) only [gz_up_r, gz_up_s, gz_up_eq, if_false, ite_false, reduceIte]
    refine gz_iast (pc := 392) dX5_mark_392 rfl rfl (by first | exact gz_B1 | (omega)) (by omega) ?_
    first | refine gz_aload_n (pc := 393) dX5_mark_393 rfl ?_ | refine gz_aload_nN (pc := 393) dX5_mark_393 rfl ?_
    refine gz_getr (pc := 394) dX5_mark_394 fl_X5_48 rfl rfl rfl (by first | exact gz_B1 | (omega)) ?_
    refine gz_iload_n (pc := 397) dX5_mark_397 rfl ?_
    refine gz_iload (pc := 398) dX5_mark_398 rfl ?_
    refine gz_iconst (pc := 400) dX5_mark_400 ?_
    refine gz_icmp_ne (pc := 401) (tgt := 408) dX5_mark_401 (by decide) (by omega) (by omega) (fun h401 => ?_) (fun h401 => ?_)
    · first | refine gz_aload_n (pc := 408) dX5_mark_408 rfl ?_ | refine gz_aload_nN (pc := 408) dX5_mark_408 rfl ?_
      refine gz_getr (pc := 409) dX5_mark_409 fl_X5_42 rfl rfl rfl (by first | exact gz_B1 | (omega)) ?_
      refine gz_iload (pc := 412) dX5_mark_412 rfl ?_
      refine gz_iald (pc := 414) dX5_mark_414 rfl rfl (by first | exact gz_B1 | (omega)) (by omega) ?_
      try simp (decide := true) only [gz_up_r, gz_up_eq]
      try rw [if_neg (hur.2.2 h401)]
      refine gz_iast (pc := 415) dX5_mark_415 rfl rfl (by first | exact gz_B1 | (omega)) (by omega) ?_
      first | rw [hm1 h401] | rw [hm2 h401]
      first | refine gz_aload_n (pc := 416) dX5_mark_416 rfl ?_ | refine gz_aload_nN (pc := 416) dX5_mark_416 rfl ?_
      refine gz_getr (pc := 417) dX5_mark_417 fl_X5_60 rfl rfl rfl (by first | exact gz_B1 | (omega)) ?_
      refine gz_iload_n (pc := 420) dX5_mark_420 rfl ?_
      first | refine gz_aload_n (pc := 421) dX5_mark_421 rfl ?_ | refine gz_aload_nN (pc := 421) dX5_mark_421 rfl ?_
      refine gz_iload_n (pc := 422) dX5_mark_422 rfl ?_
      refine gz_iload (pc := 423) dX5_mark_423 rfl ?_
      refine gz_cV2i (pc := 425) dX5_mark_425 wm_X5_134 my_X5_tells rfl rfl rfl (by first | exact gz_B1 | (omega)) (ct_X5_tells l D α cA hTm hs (by omega)) (fun x425 I425 h425 => ?_)
      obtain ⟨rfl, rfl⟩ := h425
      have n33 : (gz_m1 I1 s a u) (33, 0, 0) s = I1 (20, 0, 0) 0 := by rw [gz_m1_33, if_pos rfl]
      rw [n33]
      have hown : -2147483648 ≤ gz_sm (gz_tl (gz_m1 I1 s a u) s u) (I1 (20, 0, 0) 0).toNat ∧ gz_sm (gz_tl (gz_m1 I1 s a u) s u) (I1 (20, 0, 0) 0).toNat ≤ 2147483647 := by
        have h9 := gz_sm_in (f := gz_tl (gz_m1 I1 s a u) s u) (lo := 0) (hi := 75) (fun t => by
          unfold gz_tl
          have h8 := gz_t34 hTm 0 0 (4 * s + t)
          have h7 := gz_t34 hTm 0 0 (4 * u + t)
          have h6 := gz_sh_in (f := gz_lM (gz_m1 I1 s a u) s t) (g := gz_lM (gz_m1 I1 s a u) u t) h8.1 h7.1
          split <;> omega) (I1 (20, 0, 0) 0).toNat
        omega
      refine gz_iast (pc := 428) dX5_mark_428 rfl rfl (by first | exact gz_B1 | (omega)) (by omega) ?_
      refine gz_iconst (pc := 429) dX5_mark_429 ?_
      refine gz_istore (pc := 430) dX5_mark_430 rfl rfl rfl ?_
      have o4 : ∀ q, q ≠ (36, 0, 0) → (gz_up (gz_m1 I1 s a u) (36, 0, 0) s (gz_sm (gz_tl (gz_m1 I1 s a u) s u) (I1 (20, 0, 0) 0).toNat)) q = (gz_m1 I1 s a u) q := fun q hq => gz_up_ne hq
      have n34 : (gz_up (gz_m1 I1 s a u) (36, 0, 0) s (gz_sm (gz_tl (gz_m1 I1 s a u) s u) (I1 (20, 0, 0) 0).toNat)) (34, 0, 0) = I1 (34, 0, 0) := by rw [o4 _ (gz_ne rfl), gz_m1_o (gz_ne rfl) (gz_ne rfl) (gz_ne rfl) (gz_ne rfl) (gz_ne rfl) (gz_ne rfl) (gz_ne rfl)]
      have n35 : (gz_up (gz_m1 I1 s a u) (36, 0, 0) s (gz_sm (gz_tl (gz_m1 I1 s a u) s u) (I1 (20, 0, 0) 0).toNat)) (35, 0, 0) = I1 (35, 0, 0) := by rw [o4 _ (gz_ne rfl), gz_m1_o (gz_ne rfl) (gz_ne rfl) (gz_ne rfl) (gz_ne rfl) (gz_ne rfl) (gz_ne rfl) (gz_ne rfl)]
      have n24 : (gz_up (gz_m1 I1 s a u) (36, 0, 0) s (gz_sm (gz_tl (gz_m1 I1 s a u) s u) (I1 (20, 0, 0) 0).toNat)) (24, 0, 0) = I1 (24, 0, 0) := by rw [o4 _ (gz_ne rfl), gz_m1_o (gz_ne rfl) (gz_ne rfl) (gz_ne rfl) (gz_ne rfl) (gz_ne rfl) (gz_ne rfl) (gz_ne rfl)]
      have n20 : (gz_up (gz_m1 I1 s a u) (36, 0, 0) s (gz_sm (gz_tl (gz_m1 I1 s a u) s u) (I1 (20, 0, 0) 0).toNat)) (20, 0, 0) 0 = I1 (20, 0, 0) 0 := by rw [o4 _ (gz_ne rfl), gz_m1_20]; rfl
      have n30 : (gz_up (gz_m1 I1 s a u) (36, 0, 0) s (gz_sm (gz_tl (gz_m1 I1 s a u) s u) (I1 (20, 0, 0) 0).toNat)) (30, 0, 0) s = I1 (20, 0, 0) 10 := by rw [o4 _ (gz_ne rfl), gz_m1_30, if_pos rfl]
      have nl : ∀ t, gz_lM (gz_up (gz_m1 I1 s a u) (36, 0, 0) s (gz_sm (gz_tl (gz_m1 I1 s a u) s u) (I1 (20, 0, 0) 0).toNat)) s t = gz_lM I1 s t := fun t => by unfold gz_lM; rw [n35]
      refine lp_X5_markC l D α cA (I2 := (gz_up (gz_m1 I1 s a u) (36, 0, 0) s (gz_sm (gz_tl (gz_m1 I1 s a u) s u) (I1 (20, 0, 0) 0).toNat))) (gz_Tu36 hTm hown) hs (by rw [n20, n34, n35]; exact hl) (by rw [n20, n34, n24]; simp only [nl]; exact hsum) (by rw [n20, n30]; exact fun I' h9 => hP I' u hu h9) 0 (by rw [n20]; omega) _ (by omega) ⟨gz_Tu36 hTm hown, fun _ b1 b2 => by omega, fun _ _ => rfl, fun _ _ => rfl, fun _ _ _ => rfl⟩ _ _ _ _
    · refine gz_iconst (pc := 404) dX5_mark_404 ?_
      refine gz_goto (pc := 405) (tgt := 415) dX5_mark_405 (by decide) ?_
      try simp (decide := true) only [gz_up_r, gz_up_eq]
      try rw [if_neg (hur.2.2 h401)]
      refine gz_iast (pc := 415) dX5_mark_415 rfl rfl (by first | exact gz_B1 | (omega)) (by omega) ?_
      first | rw [hm1 h401] | rw [hm2 h401]
      first | refine gz_aload_n (pc := 416) dX5_mark_416 rfl ?_ | refine gz_aload_nN (pc := 416) dX5_mark_416 rfl ?_
      refine gz_getr (pc := 417) dX5_mark_417 fl_X5_60 rfl rfl rfl (by first | exact gz_B1 | (omega)) ?_
      refine gz_iload_n (pc := 420) dX5_mark_420 rfl ?_
      first | refine gz_aload_n (pc := 421) dX5_mark_421 rfl ?_ | refine gz_aload_nN (pc := 421) dX5_mark_421 rfl ?_
      refine gz_iload_n (pc := 422) dX5_mark_422 rfl ?_
      refine gz_iload (pc := 423) dX5_mark_423 rfl ?_
      refine gz_cV2i (pc := 425) dX5_mark_425 wm_X5_134 my_X5_tells rfl rfl rfl (by first | exact gz_B1 | (omega)) (ct_X5_tells l D α cA hTm hs (by omega)) (fun x425 I425 h425 => ?_)
      obtain ⟨rfl, rfl⟩ := h425
      have n33 : (gz_m1 I1 s a u) (33, 0, 0) s = I1 (20, 0, 0) 0 := by rw [gz_m1_33, if_pos rfl]
      rw [n33]
      have hown : -2147483648 ≤ gz_sm (gz_tl (gz_m1 I1 s a u) s u) (I1 (20, 0, 0) 0).toNat ∧ gz_sm (gz_tl (gz_m1 I1 s a u) s u) (I1 (20, 0, 0) 0).toNat ≤ 2147483647 := by
        have h9 := gz_sm_in (f := gz_tl (gz_m1 I1 s a u) s u) (lo := 0) (hi := 75) (fun t => by
          unfold gz_tl
          have h8 := gz_t34 hTm 0 0 (4 * s + t)
          have h7 := gz_t34 hTm 0 0 (4 * u + t)
          have h6 := gz_sh_in (f := gz_lM (gz_m1 I1 s a u) s t) (g := gz_lM (gz_m1 I1 s a u) u t) h8.1 h7.1
          split <;> omega) (I1 (20, 0, 0) 0).toNat
        omega
      refine gz_iast (pc := 428) dX5_mark_428 rfl rfl (by first | exact gz_B1 | (omega)) (by omega) ?_
      refine gz_iconst (pc := 429) dX5_mark_429 ?_
      refine gz_istore (pc := 430) dX5_mark_430 rfl rfl rfl ?_
      have o4 : ∀ q, q ≠ (36, 0, 0) → (gz_up (gz_m1 I1 s a u) (36, 0, 0) s (gz_sm (gz_tl (gz_m1 I1 s a u) s u) (I1 (20, 0, 0) 0).toNat)) q = (gz_m1 I1 s a u) q := fun q hq => gz_up_ne hq
      have n34 : (gz_up (gz_m1 I1 s a u) (36, 0, 0) s (gz_sm (gz_tl (gz_m1 I1 s a u) s u) (I1 (20, 0, 0) 0).toNat)) (34, 0, 0) = I1 (34, 0, 0) := by rw [o4 _ (gz_ne rfl), gz_m1_o (gz_ne rfl) (gz_ne rfl) (gz_ne rfl) (gz_ne rfl) (gz_ne rfl) (gz_ne rfl) (gz_ne rfl)]
      have n35 : (gz_up (gz_m1 I1 s a u) (36, 0, 0) s (gz_sm (gz_tl (gz_m1 I1 s a u) s u) (I1 (20, 0, 0) 0).toNat)) (35, 0, 0) = I1 (35, 0, 0) := by rw [o4 _ (gz_ne rfl), gz_m1_o (gz_ne rfl) (gz_ne rfl) (gz_ne rfl) (gz_ne rfl) (gz_ne rfl) (gz_ne rfl) (gz_ne rfl)]
      have n24 : (gz_up (gz_m1 I1 s a u) (36, 0, 0) s (gz_sm (gz_tl (gz_m1 I1 s a u) s u) (I1 (20, 0, 0) 0).toNat)) (24, 0, 0) = I1 (24, 0, 0) := by rw [o4 _ (gz_ne rfl), gz_m1_o (gz_ne rfl) (gz_ne rfl) (gz_ne rfl) (gz_ne rfl) (gz_ne rfl) (gz_ne rfl) (gz_ne rfl)]
      have n20 : (gz_up (gz_m1 I1 s a u) (36, 0, 0) s (gz_sm (gz_tl (gz_m1 I1 s a u) s u) (I1 (20, 0, 0) 0).toNat)) (20, 0, 0) 0 = I1 (20, 0, 0) 0 := by rw [o4 _ (gz_ne rfl), gz_m1_20]; rfl
      have n30 : (gz_up (gz_m1 I1 s a u) (36, 0, 0) s (gz_sm (gz_tl (gz_m1 I1 s a u) s u) (I1 (20, 0, 0) 0).toNat)) (30, 0, 0) s = I1 (20, 0, 0) 10 := by rw [o4 _ (gz_ne rfl), gz_m1_30, if_pos rfl]
      have nl : ∀ t, gz_lM (gz_up (gz_m1 I1 s a u) (36, 0, 0) s (gz_sm (gz_tl (gz_m1 I1 s a u) s u) (I1 (20, 0, 0) 0).toNat)) s t = gz_lM I1 s t := fun t => by unfold gz_lM; rw [n35]
      refine lp_X5_markC l D α cA (I2 := (gz_up (gz_m1 I1 s a u) (36, 0, 0) s (gz_sm (gz_tl (gz_m1 I1 s a u) s u) (I1 (20, 0, 0) 0).toNat))) (gz_Tu36 hTm hown) hs (by rw [n20, n34, n35]; exact hl) (by rw [n20, n34, n24]; simp only [nl]; exact hsum) (by rw [n20, n30]; exact fun I' h9 => hP I' u hu h9) 0 (by rw [n20]; omega) _ (by omega) ⟨gz_Tu36 hTm hown, fun _ b1 b2 => by omega, fun _ _ => rfl, fun _ _ => rfl, fun _ _ _ => rfl⟩ _ _ _ _
  · first | refine gz_aload_n (pc := 312) dX5_mark_312 rfl ?_ | refine gz_aload_nN (pc := 312) dX5_mark_312 rfl ?_
    refine gz_getr (pc := 313) dX5_mark_313 fl_X5_66 rfl rfl rfl (by first | exact gz_B1 | (omega)) ?_
    refine gz_iload_n (pc := 316) dX5_mark_316 rfl ?_
    refine gz_dup2 (pc := 317) dX5_mark_317 rfl rfl ?_
    refine gz_iald (pc := 318) dX5_mark_318 rfl rfl (by first | exact gz_B1 | (omega)) (by omega) ?_
    simp (decide := true) only [gz_up_r, gz_up_s]
    first | refine gz_aload_n (pc := 319) dX5_mark_319 rfl ?_ | refine gz_aload_nN (pc := 319) dX5_mark_319 rfl ?_
    refine gz_getr (pc := 320) dX5_mark_320 fl_X5_69 rfl rfl rfl (by first | exact gz_B1 | (omega)) ?_
    refine gz_iload (pc := 323) dX5_mark_323 rfl ?_
    refine gz_zald (pc := 325) dX5_mark_325 rfl rfl (by first | exact gz_B1 | (omega)) (by omega) ?_
    simp (decide := true) only [gz_up_r, gz_up_s]
    refine gz_if_eq (pc := 326) (tgt := 339) dX5_mark_326 (by decide) (by omega) (fun h326 => ?_) (fun h326 => ?_)
    · refine gz_iconst (pc := 339) dX5_mark_339 ?_
      try simp (decide := true) only [gz_up_r, gz_up_s]
      refine gz_iadd (pc := 340) dX5_mark_340 ?_
      refine gz_iast (pc := 341) dX5_mark_341 rfl rfl (by first | exact gz_B1 | (omega)) (by omega) ?_
      refine gz_iinc (pc := 342) dX5_mark_342 rfl rfl rfl rfl ?_
      refine gz_goto (pc := 345) (tgt := 305) dX5_mark_345 (by decide) ?_
      have hcast : ((k.toNat : Nat) : Int) = k := Int.toNat_of_nonneg h0
      have hnew : ∀ v, v = gz_fb I1 k → f + v = gz_sm (gz_fb I1) (k + 1).toNat := fun v hv => by rw [show (k + 1).toNat = k.toNat + 1 by omega, gz_sm_s, hcast, ← hf, hv]
      simp only [gz_up_up2]
      refine ih (k + 1) (by omega) (by omega) _ (by omega) (hnew _ ?_) _ _ _ _
      unfold gz_fb
      first | (rw [if_pos h326]) | (rw [if_neg h326])
    · first | refine gz_aload_n (pc := 329) dX5_mark_329 rfl ?_ | refine gz_aload_nN (pc := 329) dX5_mark_329 rfl ?_
      refine gz_getr (pc := 330) dX5_mark_330 fl_X5_23 rfl rfl rfl (by first | exact gz_B1 | (omega)) ?_
      refine gz_iload (pc := 333) dX5_mark_333 rfl ?_
      refine gz_iald (pc := 335) dX5_mark_335 rfl rfl (by first | exact gz_B1 | (omega)) (by omega) ?_
      refine gz_goto (pc := 336) (tgt := 340) dX5_mark_336 (by decide) ?_
      try simp (decide := true) only [gz_up_r, gz_up_s]
      refine gz_iadd (pc := 340) dX5_mark_340 ?_
      refine gz_iast (pc := 341) dX5_mark_341 rfl rfl (by first | exact gz_B1 | (omega)) (by omega) ?_
      refine gz_iinc (pc := 342) dX5_mark_342 rfl rfl rfl rfl ?_
      refine gz_goto (pc := 345) (tgt := 305) dX5_mark_345 (by decide) ?_
      have hcast : ((k.toNat : Nat) : Int) = k := Int.toNat_of_nonneg h0
      have hnew : ∀ v, v = gz_fb I1 k → f + v = gz_sm (gz_fb I1) (k + 1).toNat := fun v hv => by rw [show (k + 1).toNat = k.toNat + 1 by omega, gz_sm_s, hcast, ← hf, hv]
      simp only [gz_up_up2]
      refine ih (k + 1) (by omega) (by omega) _ (by omega) (hnew _ ?_) _ _ _ _
      unfold gz_fb
      first | (rw [if_pos h326]) | (rw [if_neg h326])
set_option maxHeartbeats 4000000 in
set_option maxRecDepth 100000 in
theorem lp_X5_markS0 (l : Launch) (D : va_G) (α : gz_P → Nat) (cA : Nat → ClassId) {I1 : gz_M} (hT1 : gz_T I1) {s a w : Int} (hs : 0 ≤ s ∧ s < 12) (hw : w = 0 ∨ w = 1) (ha : 0 ≤ a ∧ a ≤ 2000) (hl : ∀ t, 0 ≤ t → t < I1 (20, 0, 0) 0 → ∀ j, 0 ≤ j → j < I1 (34, 0, 0) (4 * s + t) → 0 ≤ I1 (35, 0, 0) (80 * (4 * s + t) + j)) (hsum : ∀ t, 0 ≤ t → t < I1 (20, 0, 0) 0 → gz_sm (fun m => I1 (24, 0, 0) (gz_lM I1 s t m)) (I1 (34, 0, 0) (4 * s + t)).toNat ≤ 300) (hnx : 0 ≤ I1 (20, 0, 0) 10 ∧ I1 (20, 0, 0) 10 ≤ 100000) (hsn : I1 (30, 0, 0) s = -1) {P : Int → gz_M → Prop} (hP : ∀ (I' : gz_M) (u : Int), gz_lat I1 w u → gz_CI (gz_up (gz_m1 I1 s a u) (36, 0, 0) s (gz_sm (gz_tl (gz_m1 I1 s a u) s u) (I1 (20, 0, 0) 0).toNat)) I' s (I1 (20, 0, 0) 0) → P (I1 (20, 0, 0) 10) I') {v5 : Int} {o6 o7 o8 o9 o10 : Option Value} : gz_V l D α cA RX5 cX5_mark (some .int) 11 6 (gz_Qi P) I1 [some (.ref (α (20, 0, 0))), some (gz_i (w)), some (gz_i (s)), some (gz_i (1)), some (gz_i (a)), some (gz_i (v5)), o6, o7, o8, o9, o10] [] 276 := by
  refine gz_iload_n (pc := 276) dX5_mark_276 rfl ?_
  refine gz_iconst (pc := 277) dX5_mark_277 ?_
  refine gz_icmp_ne (pc := 278) (tgt := 285) dX5_mark_278 (by decide) (by omega) (by omega) (fun h278 => ?_) (fun h278 => ?_)
  · first | refine gz_aload_n (pc := 285) dX5_mark_285 rfl ?_ | refine gz_aload_nN (pc := 285) dX5_mark_285 rfl ?_
    first | refine gz_aload_n (pc := 286) dX5_mark_286 rfl ?_ | refine gz_aload_nN (pc := 286) dX5_mark_286 rfl ?_
    refine gz_getI (pc := 287) 10 dX5_mark_287 fl_X5_128 rfl rfl rfl rfl (by first | exact gz_B1 | (omega)) ?_
    refine gz_cV1i (pc := 290) dX5_mark_290 wm_X5_131 my_X5_latest rfl rfl rfl (by first | exact gz_B1 | (omega)) (ct_X5_latest l D α cA hT1 (by omega)) (fun x290 I290 h290 => ?_)
    obtain ⟨rfl, hx290⟩ := h290
    refine gz_istore (pc := 293) dX5_mark_293 rfl rfl rfl ?_
    first | refine gz_aload_n (pc := 295) dX5_mark_295 rfl ?_ | refine gz_aload_nN (pc := 295) dX5_mark_295 rfl ?_
    refine gz_getr (pc := 296) dX5_mark_296 fl_X5_66 rfl rfl rfl (by first | exact gz_B1 | (omega)) ?_
    refine gz_iload_n (pc := 299) dX5_mark_299 rfl ?_
    refine gz_iconst (pc := 300) dX5_mark_300 ?_
    refine gz_iast (pc := 301) dX5_mark_301 rfl rfl (by first | exact gz_B1 | (omega)) (by omega) ?_
    refine gz_iconst (pc := 302) dX5_mark_302 ?_
    refine gz_istore (pc := 303) dX5_mark_303 rfl rfl rfl ?_
    first
      | (have hlat : gz_lat I1 w (-1) := Or.inl ⟨h278, rfl⟩; exact lp_X5_markS l D α cA hT1 hs hw ha hl hsum hnx hsn hP _ hlat 0 (by omega) 0 (by omega) rfl _ _ _ _)
      | (have hlat : gz_lat I1 w x290 := Or.inr ⟨h278, hx290⟩; exact lp_X5_markS l D α cA hT1 hs hw ha hl hsum hnx hsn hP _ hlat 0 (by omega) 0 (by omega) rfl _ _ _ _)
  · refine gz_iconst (pc := 281) dX5_mark_281 ?_
    refine gz_goto (pc := 282) (tgt := 293) dX5_mark_282 (by decide) ?_
    refine gz_istore (pc := 293) dX5_mark_293 rfl rfl rfl ?_
    first | refine gz_aload_n (pc := 295) dX5_mark_295 rfl ?_ | refine gz_aload_nN (pc := 295) dX5_mark_295 rfl ?_
    refine gz_getr (pc := 296) dX5_mark_296 fl_X5_66 rfl rfl rfl (by first | exact gz_B1 | (omega)) ?_
    refine gz_iload_n (pc := 299) dX5_mark_299 rfl ?_
    refine gz_iconst (pc := 300) dX5_mark_300 ?_
    refine gz_iast (pc := 301) dX5_mark_301 rfl rfl (by first | exact gz_B1 | (omega)) (by omega) ?_
    refine gz_iconst (pc := 302) dX5_mark_302 ?_
    refine gz_istore (pc := 303) dX5_mark_303 rfl rfl rfl ?_
    first
      | (have hlat : gz_lat I1 w (-1) := Or.inl ⟨h278, rfl⟩; exact lp_X5_markS l D α cA hT1 hs hw ha hl hsum hnx hsn hP _ hlat 0 (by omega) 0 (by omega) rfl _ _ _ _)
      | (have hlat : gz_lat I1 w x290 := Or.inr ⟨h278, hx290⟩; exact lp_X5_markS l D α cA hT1 hs hw ha hl hsum hnx hsn hP _ hlat 0 (by omega) 0 (by omega) rfl _ _ _ _)
