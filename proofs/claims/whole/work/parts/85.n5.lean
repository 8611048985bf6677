def gn_E4 (E : Nat → va_E) (fs : List Value) (a b c : va_E) : Nat → va_E := fun j => if j = 0 then .inr (4, fs) else if j = 1 then a else if j = 2 then b else if j = 10 then c else E j
theorem gn_E4_o {E : Nat → va_E} {fs : List Value} {a b c : va_E} {j : Nat} (h0 : j ≠ 0) (h1 : j ≠ 1) (h2 : j ≠ 2) (h3 : j ≠ 10) : gn_E4 E fs a b c j = E j := by
  unfold gn_E4
  rw [if_neg h0, if_neg h1, if_neg h2, if_neg h3]
theorem gn_E4_0 {E : Nat → va_E} {fs fs' : List Value} {a b c : va_E} : va_up (gn_E4 E fs a b c) 0 (.inr (4, fs')) = gn_E4 E fs' a b c := by
  funext j
  unfold gn_E4 va_up
  by_cases h : j = 0
  · rw [if_pos h, if_pos h]
  · simp only [if_neg h]
theorem gn_E4_1 {E : Nat → va_E} {fs : List Value} {a b c a' : va_E} : va_up (gn_E4 E fs a b c) 1 a' = gn_E4 E fs a' b c := by
  funext j
  unfold gn_E4 va_up
  by_cases h : j = 1
  · rw [if_pos h, if_neg (by omega), if_pos h]
  · simp only [if_neg h]
theorem gn_E4_2 {E : Nat → va_E} {fs : List Value} {a b c b' : va_E} : va_up (gn_E4 E fs a b c) 2 b' = gn_E4 E fs a b' c := by
  funext j
  unfold gn_E4 va_up
  by_cases h : j = 2
  · rw [if_pos h, if_neg (by omega), if_neg (by omega), if_pos h]
  · simp only [if_neg h]
theorem gn_E4_3 {E : Nat → va_E} {fs : List Value} {a b c c' : va_E} : va_up (gn_E4 E fs a b c) 10 c' = gn_E4 E fs a b c' := by
  funext j
  unfold gn_E4 va_up
  by_cases h : j = 10
  · rw [if_pos h, if_neg (by omega), if_neg (by omega), if_neg (by omega), if_pos h]
  · simp only [if_neg h]
/-- a row of references filled up to t -/
def gn_f (h b m : Nat) (t : Int) : Nat → Option Nat := fun i => if (i : Int) < t then some (h + (b + m * i)) else none
theorem gn_f0 {h b m : Nat} : gn_f h b m 0 = fun _ => none := by
  funext i
  unfold gn_f
  rw [if_neg (by omega)]
theorem gn_fs {h b m : Nat} {t : Int} (ht : 0 ≤ t ∧ t < 100) : va_up (gn_f h b m t) (Int32.ofInt t).toNatClampNeg (some (h + (b + m * t.toNat))) = gn_f h b m (t + 1) := by
  rw [gz_tn ⟨ht.1, by omega⟩]
  funext i
  unfold gn_f va_up
  by_cases h1 : i = t.toNat
  · rw [if_pos h1, if_pos (by omega), h1]
  · rw [if_neg h1]
    show (if (i : Int) < t then some (h + (b + m * i)) else none) = if (i : Int) < t + 1 then some (h + (b + m * i)) else none
    by_cases h2 : (i : Int) < t
    · rw [if_pos h2, if_pos (by omega)]
    · rw [if_neg h2, if_neg (by omega)]
/-- what the finished cells are, but the object itself and its three rows of references -/
def gn_F4 (cA : Nat → ClassId) (h : Nat) (E : Nat → va_E) : Prop := (E 3 = .inr (3, [.ref (h + 4), .ref (h + 7), .ref (h + 8), .ref (h + 9), gz_i 0, gz_i 0, gz_i 0, gz_i 0]) ∧ E 4 = .inr (1, [.ref (h + 5), .ref (h + 6)]) ∧ E 5 = gn_I (cA 1) 120 ∧ E 6 = gn_I (cA 0) 3840 ∧ E 7 = gn_I (cA 0) 120 ∧ E 8 = gn_I (cA 0) 120 ∧ E 9 = gn_I (cA 0) 120 ∧ E 11 = gn_I (cA 0) 1200 ∧ E 12 = gn_I (cA 1) 120) ∧ (∀ t : Nat, t < 4 → E (13 + 6 * t) = .inr (2, [.ref (h + (13 + 6 * t + 1)), .ref (h + (13 + 6 * t + 1 + 1)), gz_i 0]) ∧ E (13 + 6 * t + 1) = gn_I (cA 0) 300 ∧ E (13 + 6 * t + 1 + 1) = gn_I (cA 0) 75 ∧ E (16 + 6 * t) = .inr (1, [.ref (h + (16 + 6 * t + 1)), .ref (h + (16 + 6 * t + 1 + 1))]) ∧ E (16 + 6 * t + 1) = gn_I (cA 1) 120 ∧ E (16 + 6 * t + 1 + 1) = gn_I (cA 0) 3840) ∧ ∀ k : Nat, k < 12 → E (37 + 7 * k) = .inr (0, [.ref (h + (37 + 7 * k + 1)), .ref (h + (37 + 7 * k + 1 + 5)), gz_i (-1), gz_i 0, gz_i (-1), gz_i 0, gz_i 0, gz_i 0, gz_i 0]) ∧ (∃ f : Nat → Option Nat, E (37 + 7 * k + 1) = gn_R (cA 5) 4 f ∧ ∀ i, i < 4 → f i = some (h + (37 + 7 * k + 1 + 1 + i))) ∧ (∀ j, j < 4 → E (37 + 7 * k + 1 + 1 + j) = gn_I (cA 0) 75) ∧ E (37 + 7 * k + 1 + 5) = gn_I (cA 0) 4
set_option maxHeartbeats 4000000 in
set_option maxRecDepth 100000 in
theorem np_X4b (l : Launch) (D : va_G) (cA : Nat → ClassId) (h : Nat) {E : Nat → va_E} (hF : gn_F4 cA h E) : ∀ t : Int, t ≤ 12 → 0 ≤ t → gn_V l D cA h RX4 cX4_init none 2 3 true (gn_end cX4_init (fun n' E' => n' = 121 ∧ E' = (gn_E4 E [.ref (h + 1), .ref (h + 2), .ref (h + 3), .ref (h + 10), .ref (h + 11), .ref (h + 12), gz_i (2), gz_i (0), gz_i (0)] (gn_R (cA 2) 4 (gn_f h 13 6 4)) (gn_R (cA 3) 4 (gn_f h 16 6 4)) (gn_R (cA 4) 12 (gn_f h 37 7 12))))) (7 * (12 - t).toNat) (317 * (12 - t).toNat) (37 + 7 * t.toNat) (gn_E4 E [.ref (h + 1), .ref (h + 2), .ref (h + 3), .ref (h + 10), .ref (h + 11), .ref (h + 12), gz_i (2), gz_i (0), gz_i (0)] (gn_R (cA 2) 4 (gn_f h 13 6 4)) (gn_R (cA 3) 4 (gn_f h 16 6 4)) (gn_R (cA 4) 12 (gn_f h 37 7 t))) [some (.ref (h + 0)), some (gz_i t)] [] 113 := by
  refine gz_upto _ ?_
  intro t ht ih h0
  refine gn_iload_n (pc := 113) dX4_init_113 rfl ?_
  refine gn_bipush (pc := 114) dX4_init_114 rfl ?_
  refine gn_icmp_ge (pc := 116) (tgt := 138) dX4_init_116 (by decide) (by omega) (by omega) (fun h1 => ?_) (fun h1 => ?_)
  · have e : t = 12 := by omega
    subst e
    exact gn_stop ⟨⟨rfl, rfl⟩, rfl, dX4_init_138⟩
  · obtain ⟨w1, ⟨f, w2, w3⟩, w4, w5⟩ := hF.2.2 t.toNat (by omega)
    have e1 : 7 * (12 - t).toNat = 1 + (6 + 7 * (12 - (t + 1)).toNat) := by omega
    have e2 : 317 * (12 - t).toNat = 9 + (308 + 317 * (12 - (t + 1)).toNat) := by omega
    refine gn_aload_n (pc := 119) dX4_init_119 rfl ?_
    refine gn_getf (pc := 120) (a := 0) (k9 := 3) (ci := 4) (fs := [.ref (h + 1), .ref (h + 2), .ref (h + 3), .ref (h + 10), .ref (h + 11), .ref (h + 12), gz_i (2), gz_i (0), gz_i (0)]) (v := .ref (h + 10)) dX4_init_120 fl_X4_30 (by omega) rfl rfl ?_
    refine gn_iload_n (pc := 123) dX4_init_123 rfl ?_
    refine gn_new (pc := 124) (ci := 0) (N := 9) (C9 := RX0) (T9 := TX0) (ty := tyX0) (fs := [.null, .null, .int 0, .int 0, .int 0, .int 0, .int 0, .int 0, .int 0]) (mc' := 6 + 7 * (12 - (t + 1)).toNat) (ms' := 308 + 317 * (12 - (t + 1)).toNat) dX4_init_124 rfl wk_X4_28 wj_X0 wn_X0 wu_X0 tyX0_ok (fun j hj => by rcases (show j = 0 ∨ j = 1 ∨ j = 2 ∨ j = 3 ∨ j = 4 ∨ j = 5 ∨ j = 6 ∨ j = 7 ∨ j = 8 by omega) with rfl | rfl | rfl | rfl | rfl | rfl | rfl | rfl | rfl <;> rfl) e1.symm e2.symm ?_
    refine gn_dup (pc := 127) dX4_init_127 rfl ?_
    refine gn_cN (pc := 128) (mc1 := 6) (ms1 := 308) (mc2 := 7 * (12 - (t + 1)).toNat) (ms2 := 317 * (12 - (t + 1)).toNat) (k := 37 + 7 * t.toNat) dX4_init_128 (fun s hz => hz.2.2.2.2.2.2) gy_X0 rfl rfl rfl rfl rfl (nt_X0 l D cA h (n := 37 + 7 * t.toNat + 1) (k := 37 + 7 * t.toNat) (E := (gn_E4 E [.ref (h + 1), .ref (h + 2), .ref (h + 3), .ref (h + 10), .ref (h + 11), .ref (h + 12), gz_i (2), gz_i (0), gz_i (0)] (gn_R (cA 2) 4 (gn_f h 13 6 4)) (gn_R (cA 3) 4 (gn_f h 16 6 4)) (gn_R (cA 4) 12 (gn_f h 37 7 t)))) (f := f) (by omega) (by rw [gn_E4_o (by omega) (by omega) (by omega) (by omega)]; exact w2) w3 (fun j hj => by rw [gn_E4_o (by omega) (by omega) (by omega) (by omega)]; exact w4 j hj) (by rw [gn_E4_o (by omega) (by omega) (by omega) (by omega)]; exact w5)) (fun n9 E9 h9 => ?_)
    obtain ⟨rfl, rfl⟩ := h9
    rw [gn_upsm (f := (gn_E4 E [.ref (h + 1), .ref (h + 2), .ref (h + 3), .ref (h + 10), .ref (h + 11), .ref (h + 12), gz_i (2), gz_i (0), gz_i (0)] (gn_R (cA 2) 4 (gn_f h 13 6 4)) (gn_R (cA 3) 4 (gn_f h 16 6 4)) (gn_R (cA 4) 12 (gn_f h 37 7 t)))) (k := 37 + 7 * t.toNat) (by rw [gn_E4_o (by omega) (by omega) (by omega) (by omega)]; exact w1)]
    refine gn_aast (pc := 131) (a := 10) (b := 37 + 7 * t.toNat) (N := 12) (kd := 4) (ci := 0) (r9 := (RX0, TX0, 9)) (E' := (gn_E4 E [.ref (h + 1), .ref (h + 2), .ref (h + 3), .ref (h + 10), .ref (h + 11), .ref (h + 12), gz_i (2), gz_i (0), gz_i (0)] (gn_R (cA 2) 4 (gn_f h 13 6 4)) (gn_R (cA 3) 4 (gn_f h 16 6 4)) (gn_R (cA 4) 12 (gn_f h 37 7 (t + 1))))) dX4_init_131 (by omega) rfl rfl (by omega) (by rw [gn_E4_o (by omega) (by omega) (by omega) (by omega)]; exact w1) rfl (gz_pin (by omega) (by decide)) (by rw [gn_E4_3, gn_fs ⟨h0, by omega⟩]; rfl) ?_
    refine gn_iinc (pc := 132) dX4_init_132 rfl rfl rfl rfl ?_
    refine gn_goto (pc := 135) (tgt := 113) dX4_init_135 (by decide) ?_
    have e3 : 37 + 7 * t.toNat + 1 + 6 = 37 + 7 * (t + 1).toNat := by omega
    rw [e3]
    exact ih (t + 1) (by omega) (by omega) (by omega)
set_option maxHeartbeats 4000000 in
set_option maxRecDepth 100000 in
theorem np_X4a (l : Launch) (D : va_G) (cA : Nat → ClassId) (h : Nat) {E : Nat → va_E} (hF : gn_F4 cA h E) : ∀ t : Int, t ≤ 4 → 0 ≤ t → gn_V l D cA h RX4 cX4_init none 2 3 true (gn_end cX4_init (fun n' E' => n' = 121 ∧ E' = (gn_E4 E [.ref (h + 1), .ref (h + 2), .ref (h + 3), .ref (h + 10), .ref (h + 11), .ref (h + 12), gz_i (2), gz_i (0), gz_i (0)] (gn_R (cA 2) 4 (gn_f h 13 6 4)) (gn_R (cA 3) 4 (gn_f h 16 6 4)) (gn_R (cA 4) 12 (gn_f h 37 7 12))))) (84 + 6 * (4 - t).toNat) (3804 + 4340 * (4 - t).toNat) (13 + 6 * t.toNat) (gn_E4 E [.ref (h + 1), .ref (h + 2), .ref (h + 3), .ref (h + 10), .ref (h + 11), .ref (h + 12), gz_i (2), gz_i (0), gz_i (0)] (gn_R (cA 2) 4 (gn_f h 13 6 t)) (gn_R (cA 3) 4 (gn_f h 16 6 t)) (gn_R (cA 4) 12 (gn_f h 37 7 0))) [some (.ref (h + 0)), some (gz_i t)] [] 74 := by
  refine gz_upto _ ?_
  intro t ht ih h0
  refine gn_iload_n (pc := 74) dX4_init_74 rfl ?_
  refine gn_iconst (pc := 75) dX4_init_75 ?_
  refine gn_icmp_ge (pc := 76) (tgt := 111) dX4_init_76 (by decide) (by omega) (by omega) (fun h1 => ?_) (fun h1 => ?_)
  · have e : t = 4 := by omega
    subst e
    refine gn_iconst (pc := 111) dX4_init_111 ?_
    refine gn_istore_n (pc := 112) dX4_init_112 rfl rfl rfl ?_
    exact np_X4b l D cA h hF 0 (by decide) (by decide)
  · obtain ⟨w1, w2, w3, w4, w5, w6⟩ := hF.2.1 t.toNat (by omega)
    have e1 : 84 + 6 * (4 - t).toNat = 1 + (2 + (1 + (2 + (84 + 6 * (4 - (t + 1)).toNat)))) := by omega
    have e2 : 3804 + 4340 * (4 - t).toNat = 3 + (375 + (2 + (3960 + (3804 + 4340 * (4 - (t + 1)).toNat)))) := by omega
    refine gn_aload_n (pc := 79) dX4_init_79 rfl ?_
    refine gn_getf (pc := 80) (a := 0) (k9 := 0) (ci := 4) (fs := [.ref (h + 1), .ref (h + 2), .ref (h + 3), .ref (h + 10), .ref (h + 11), .ref (h + 12), gz_i (2), gz_i (0), gz_i (0)]) (v := .ref (h + 1)) dX4_init_80 fl_X4_11 (by omega) rfl rfl ?_
    refine gn_iload_n (pc := 83) dX4_init_83 rfl ?_
    refine gn_new (pc := 84) (ci := 2) (N := 3) (C9 := RX2) (T9 := TX2) (ty := tyX2) (fs := [.null, .null, .int 0]) (mc' := 2 + (1 + (2 + (84 + 6 * (4 - (t + 1)).toNat)))) (ms' := 375 + (2 + (3960 + (3804 + 4340 * (4 - (t + 1)).toNat)))) dX4_init_84 rfl wk_X4_9 wj_X2 wn_X2 wu_X2 tyX2_ok (fun j hj => by rcases (show j = 0 ∨ j = 1 ∨ j = 2 by omega) with rfl | rfl | rfl <;> rfl) e1.symm e2.symm ?_
    refine gn_dup (pc := 87) dX4_init_87 rfl ?_
    refine gn_cN (pc := 88) (mc1 := 2) (ms1 := 375) (k := 13 + 6 * t.toNat) dX4_init_88 (fun s hz => hz.2.2.2.2.1) gy_X2 rfl rfl rfl rfl rfl (nt_X2 l D cA h (n := 13 + 6 * t.toNat + 1) (k := 13 + 6 * t.toNat) (E := (gn_E4 E [.ref (h + 1), .ref (h + 2), .ref (h + 3), .ref (h + 10), .ref (h + 11), .ref (h + 12), gz_i (2), gz_i (0), gz_i (0)] (gn_R (cA 2) 4 (gn_f h 13 6 t)) (gn_R (cA 3) 4 (gn_f h 16 6 t)) (gn_R (cA 4) 12 (gn_f h 37 7 0)))) (by omega) (by rw [gn_E4_o (by omega) (by omega) (by omega) (by omega)]; exact w2) (by rw [gn_E4_o (by omega) (by omega) (by omega) (by omega)]; exact w3)) (fun n9 E9 h9 => ?_)
    obtain ⟨rfl, rfl⟩ := h9
    rw [gn_upsm (f := (gn_E4 E [.ref (h + 1), .ref (h + 2), .ref (h + 3), .ref (h + 10), .ref (h + 11), .ref (h + 12), gz_i (2), gz_i (0), gz_i (0)] (gn_R (cA 2) 4 (gn_f h 13 6 t)) (gn_R (cA 3) 4 (gn_f h 16 6 t)) (gn_R (cA 4) 12 (gn_f h 37 7 0)))) (k := 13 + 6 * t.toNat) (by rw [gn_E4_o (by omega) (by omega) (by omega) (by omega)]; exact w1)]
    refine gn_aast (pc := 91) (a := 1) (b := 13 + 6 * t.toNat) (N := 4) (kd := 2) (ci := 2) (r9 := (RX2, TX2, 3)) (E' := (gn_E4 E [.ref (h + 1), .ref (h + 2), .ref (h + 3), .ref (h + 10), .ref (h + 11), .ref (h + 12), gz_i (2), gz_i (0), gz_i (0)] (gn_R (cA 2) 4 (gn_f h 13 6 (t + 1))) (gn_R (cA 3) 4 (gn_f h 16 6 t)) (gn_R (cA 4) 12 (gn_f h 37 7 0)))) dX4_init_91 (by omega) rfl rfl (by omega) (by rw [gn_E4_o (by omega) (by omega) (by omega) (by omega)]; exact w1) rfl (gz_pin (by omega) (by decide)) (by rw [gn_E4_1, gn_fs ⟨h0, by omega⟩]; rfl) ?_
    refine gn_aload_n (pc := 92) dX4_init_92 rfl ?_
    refine gn_getf (pc := 93) (a := 0) (k9 := 1) (ci := 4) (fs := [.ref (h + 1), .ref (h + 2), .ref (h + 3), .ref (h + 10), .ref (h + 11), .ref (h + 12), gz_i (2), gz_i (0), gz_i (0)]) (v := .ref (h + 2)) dX4_init_93 fl_X4_17 (by omega) rfl rfl ?_
    refine gn_iload_n (pc := 96) dX4_init_96 rfl ?_
    have e4 : 13 + 6 * t.toNat + 1 + 2 = 16 + 6 * t.toNat := by omega
    rw [e4]
    refine gn_new (pc := 97) (ci := 1) (N := 2) (C9 := RX1) (T9 := TX1) (ty := tyX1) (fs := [.null, .null]) (mc' := 2 + (84 + 6 * (4 - (t + 1)).toNat)) (ms' := 3960 + (3804 + 4340 * (4 - (t + 1)).toNat)) dX4_init_97 rfl wk_X4_15 wj_X1 wn_X1 wu_X1 tyX1_ok (fun j hj => by rcases (show j = 0 ∨ j = 1 by omega) with rfl | rfl <;> rfl) rfl rfl ?_
    refine gn_dup (pc := 100) dX4_init_100 rfl ?_
    refine gn_cN (pc := 101) (mc1 := 2) (ms1 := 3960) (k := 16 + 6 * t.toNat) dX4_init_101 (fun s hz => hz.2.2.2.2.2.1) gy_X1 rfl rfl rfl rfl rfl (nt_X1 l D cA h (n := 16 + 6 * t.toNat + 1) (k := 16 + 6 * t.toNat) (E := (gn_E4 E [.ref (h + 1), .ref (h + 2), .ref (h + 3), .ref (h + 10), .ref (h + 11), .ref (h + 12), gz_i (2), gz_i (0), gz_i (0)] (gn_R (cA 2) 4 (gn_f h 13 6 (t + 1))) (gn_R (cA 3) 4 (gn_f h 16 6 t)) (gn_R (cA 4) 12 (gn_f h 37 7 0)))) (by omega) (by rw [gn_E4_o (by omega) (by omega) (by omega) (by omega)]; exact w5) (by rw [gn_E4_o (by omega) (by omega) (by omega) (by omega)]; exact w6)) (fun n9 E9 h9 => ?_)
    obtain ⟨rfl, rfl⟩ := h9
    rw [gn_upsm (f := (gn_E4 E [.ref (h + 1), .ref (h + 2), .ref (h + 3), .ref (h + 10), .ref (h + 11), .ref (h + 12), gz_i (2), gz_i (0), gz_i (0)] (gn_R (cA 2) 4 (gn_f h 13 6 (t + 1))) (gn_R (cA 3) 4 (gn_f h 16 6 t)) (gn_R (cA 4) 12 (gn_f h 37 7 0)))) (k := 16 + 6 * t.toNat) (by rw [gn_E4_o (by omega) (by omega) (by omega) (by omega)]; exact w4)]
    refine gn_aast (pc := 104) (a := 2) (b := 16 + 6 * t.toNat) (N := 4) (kd := 3) (ci := 1) (r9 := (RX1, TX1, 2)) (E' := (gn_E4 E [.ref (h + 1), .ref (h + 2), .ref (h + 3), .ref (h + 10), .ref (h + 11), .ref (h + 12), gz_i (2), gz_i (0), gz_i (0)] (gn_R (cA 2) 4 (gn_f h 13 6 (t + 1))) (gn_R (cA 3) 4 (gn_f h 16 6 (t + 1))) (gn_R (cA 4) 12 (gn_f h 37 7 0)))) dX4_init_104 (by omega) rfl rfl (by omega) (by rw [gn_E4_o (by omega) (by omega) (by omega) (by omega)]; exact w4) rfl (gz_pin (by omega) (by decide)) (by rw [gn_E4_2, gn_fs ⟨h0, by omega⟩]; rfl) ?_
    refine gn_iinc (pc := 105) dX4_init_105 rfl rfl rfl rfl ?_
    refine gn_goto (pc := 108) (tgt := 74) dX4_init_108 (by decide) ?_
    have e3 : 16 + 6 * t.toNat + 1 + 2 = 13 + 6 * (t + 1).toNat := by omega
    rw [e3]
    exact ih (t + 1) (by omega) (by omega) (by omega)
set_option maxHeartbeats 4000000 in
set_option maxRecDepth 100000 in
theorem nt_X4 (l : Launch) (D : va_G) (cA : Nat → ClassId) (h : Nat) {E : Nat → va_E} (hF : gn_F4 cA h E) : gn_V l D cA h RX4 cX4_init none 2 3 true (gn_end cX4_init (fun n' E' => n' = 121 ∧ E' = (gn_E4 E [.ref (h + 1), .ref (h + 2), .ref (h + 3), .ref (h + 10), .ref (h + 11), .ref (h + 12), gz_i (2), gz_i (0), gz_i (0)] (gn_R (cA 2) 4 (gn_f h 13 6 4)) (gn_R (cA 3) 4 (gn_f h 16 6 4)) (gn_R (cA 4) 12 (gn_f h 37 7 12))))) 120 26834 1 (gn_E4 E [.null, .null, .null, .null, .null, .null, .int 0, .int 0, .int 0] (gn_R (cA 2) 4 (gn_f h 13 6 0)) (gn_R (cA 3) 4 (gn_f h 16 6 0)) (gn_R (cA 4) 12 (gn_f h 37 7 0))) [some (.ref (h + 0)), none] [] 0 := by
  refine gn_aload_n (pc := 0) dX4_init_0 rfl ?_
  refine gn_obj (pc := 1) dX4_init_1 wm_X4_3 rfl (Nat.le_of_ble_eq_true rfl) ?_
  refine gn_aload_n (pc := 4) dX4_init_4 rfl ?_
  refine gn_iconst (pc := 5) dX4_init_5 ?_
  refine gn_anew (pc := 6) (kd := 2) (N := 4) (C9 := RX2) (mc' := 119) (ms' := 26830) (E' := (gn_E4 E [.null, .null, .null, .null, .null, .null, .int 0, .int 0, .int 0] (gn_R (cA 2) 4 (gn_f h 13 6 0)) (gn_R (cA 3) 4 (gn_f h 16 6 0)) (gn_R (cA 4) 12 (gn_f h 37 7 0)))) dX4_init_6 wk_X4_9 (fun s hz => hz.1.2.2.1) rfl (by decide) rfl (by decide) (fun _ _ => rfl) (by show gn_R (cA 2) 4 (gn_f h _ _ 0) = _; rw [gn_f0]; rfl) rfl rfl ?_
  refine gn_put (pc := 9) (ci := 4) (a := 0) (k9 := 0) (N := 9) (C9 := RX4) (T9 := TX4) (ty0 := tyX4) (fs := [.null, .null, .null, .null, .null, .null, .int 0, .int 0, .int 0]) (E' := (gn_E4 E [.ref (h + 1), .null, .null, .null, .null, .null, .int 0, .int 0, .int 0] (gn_R (cA 2) 4 (gn_f h 13 6 0)) (gn_R (cA 3) 4 (gn_f h 16 6 0)) (gn_R (cA 4) 12 (gn_f h 37 7 0)))) dX4_init_9 rfl wf_X4_11 wu_X4 tyX4_ok nmX4 (by decide) (by omega) rfl (Or.inr ⟨rfl, rfl, rfl⟩) rfl rfl (Nat.le_of_ble_eq_true rfl) (by rw [gn_E4_0]; rfl) ?_
  refine gn_aload_n (pc := 12) dX4_init_12 rfl ?_
  refine gn_iconst (pc := 13) dX4_init_13 ?_
  refine gn_anew (pc := 14) (kd := 3) (N := 4) (C9 := RX1) (mc' := 118) (ms' := 26826) (E' := (gn_E4 E [.ref (h + 1), .null, .null, .null, .null, .null, .int 0, .int 0, .int 0] (gn_R (cA 2) 4 (gn_f h 13 6 0)) (gn_R (cA 3) 4 (gn_f h 16 6 0)) (gn_R (cA 4) 12 (gn_f h 37 7 0)))) dX4_init_14 wk_X4_15 (fun s hz => hz.1.2.1) rfl (by decide) rfl (by decide) (fun _ _ => rfl) (by show gn_R (cA 3) 4 (gn_f h _ _ 0) = _; rw [gn_f0]; rfl) rfl rfl ?_
  refine gn_put (pc := 17) (ci := 4) (a := 0) (k9 := 1) (N := 9) (C9 := RX4) (T9 := TX4) (ty0 := tyX4) (fs := [.ref (h + 1), .null, .null, .null, .null, .null, .int 0, .int 0, .int 0]) (E' := (gn_E4 E [.ref (h + 1), .ref (h + 2), .null, .null, .null, .null, .int 0, .int 0, .int 0] (gn_R (cA 2) 4 (gn_f h 13 6 0)) (gn_R (cA 3) 4 (gn_f h 16 6 0)) (gn_R (cA 4) 12 (gn_f h 37 7 0)))) dX4_init_17 rfl wf_X4_17 wu_X4 tyX4_ok nmX4 (by decide) (by omega) rfl (Or.inr ⟨rfl, rfl, rfl⟩) rfl rfl (Nat.le_of_ble_eq_true rfl) (by rw [gn_E4_0]; rfl) ?_
  refine gn_aload_n (pc := 20) dX4_init_20 rfl ?_
  refine gn_new (pc := 21) (ci := 3) (N := 8) (C9 := RX3) (T9 := TX3) (ty := tyX3) (fs := [.null, .null, .null, .null, .int 0, .int 0, .int 0, .int 0]) (mc' := 117) (ms' := 26818) dX4_init_21 rfl wk_X4_21 wj_X3 wn_X3 wu_X3 tyX3_ok (fun j hj => by rcases (show j = 0 ∨ j = 1 ∨ j = 2 ∨ j = 3 ∨ j = 4 ∨ j = 5 ∨ j = 6 ∨ j = 7 by omega) with rfl | rfl | rfl | rfl | rfl | rfl | rfl | rfl <;> rfl) rfl rfl ?_
  refine gn_dup (pc := 24) dX4_init_24 rfl ?_
  refine gn_cN (pc := 25) (mc1 := 6) (ms1 := 4322) (mc2 := 111) (ms2 := 22496) (k := 3) dX4_init_25 (fun s hz => hz.2.2.2.1) gy_X3 rfl rfl rfl rfl rfl (nt_X3 l D cA h (n := 4) (k := 3) (E := (gn_E4 E [.ref (h + 1), .ref (h + 2), .null, .null, .null, .null, .int 0, .int 0, .int 0] (gn_R (cA 2) 4 (gn_f h 13 6 0)) (gn_R (cA 3) 4 (gn_f h 16 6 0)) (gn_R (cA 4) 12 (gn_f h 37 7 0)))) (by omega) (by rw [gn_E4_o (by omega) (by omega) (by omega) (by omega)]; exact hF.1.2.1) (by rw [gn_E4_o (by omega) (by omega) (by omega) (by omega)]; exact hF.1.2.2.1) (by rw [gn_E4_o (by omega) (by omega) (by omega) (by omega)]; exact hF.1.2.2.2.1) (by rw [gn_E4_o (by omega) (by omega) (by omega) (by omega)]; exact hF.1.2.2.2.2.1) (by rw [gn_E4_o (by omega) (by omega) (by omega) (by omega)]; exact hF.1.2.2.2.2.2.1) (by rw [gn_E4_o (by omega) (by omega) (by omega) (by omega)]; exact hF.1.2.2.2.2.2.2.1)) (fun n9 E9 h9 => ?_)
  obtain ⟨rfl, rfl⟩ := h9
  rw [gn_upsm (f := (gn_E4 E [.ref (h + 1), .ref (h + 2), .null, .null, .null, .null, .int 0, .int 0, .int 0] (gn_R (cA 2) 4 (gn_f h 13 6 0)) (gn_R (cA 3) 4 (gn_f h 16 6 0)) (gn_R (cA 4) 12 (gn_f h 37 7 0)))) (k := 3) (by rw [gn_E4_o (by omega) (by omega) (by omega) (by omega)]; exact hF.1.1)]
  refine gn_put (pc := 28) (ci := 4) (a := 0) (k9 := 2) (N := 9) (C9 := RX4) (T9 := TX4) (ty0 := tyX4) (fs := [.ref (h + 1), .ref (h + 2), .null, .null, .null, .null, .int 0, .int 0, .int 0]) (E' := (gn_E4 E [.ref (h + 1), .ref (h + 2), .ref (h + 3), .null, .null, .null, .int 0, .int 0, .int 0] (gn_R (cA 2) 4 (gn_f h 13 6 0)) (gn_R (cA 3) 4 (gn_f h 16 6 0)) (gn_R (cA 4) 12 (gn_f h 37 7 0)))) dX4_init_28 rfl wf_X4_24 wu_X4 tyX4_ok nmX4 (by decide) (by omega) rfl (Or.inr ⟨rfl, rfl, rfl⟩) rfl rfl (Nat.le_of_ble_eq_true rfl) (by rw [gn_E4_0]; rfl) ?_
  refine gn_aload_n (pc := 31) dX4_init_31 rfl ?_
  refine gn_bipush (pc := 32) dX4_init_32 rfl ?_
  refine gn_anew (pc := 34) (kd := 4) (N := 12) (C9 := RX0) (mc' := 110) (ms' := 22484) (E' := (gn_E4 E [.ref (h + 1), .ref (h + 2), .ref (h + 3), .null, .null, .null, .int 0, .int 0, .int 0] (gn_R (cA 2) 4 (gn_f h 13 6 0)) (gn_R (cA 3) 4 (gn_f h 16 6 0)) (gn_R (cA 4) 12 (gn_f h 37 7 0)))) dX4_init_34 wk_X4_28 (fun s hz => hz.1.1) rfl (by decide) rfl (by decide) (fun _ _ => rfl) (by show gn_R (cA 4) 12 (gn_f h _ _ 0) = _; rw [gn_f0]; rfl) rfl rfl ?_
  refine gn_put (pc := 37) (ci := 4) (a := 0) (k9 := 3) (N := 9) (C9 := RX4) (T9 := TX4) (ty0 := tyX4) (fs := [.ref (h + 1), .ref (h + 2), .ref (h + 3), .null, .null, .null, .int 0, .int 0, .int 0]) (E' := (gn_E4 E [.ref (h + 1), .ref (h + 2), .ref (h + 3), .ref (h + 10), .null, .null, .int 0, .int 0, .int 0] (gn_R (cA 2) 4 (gn_f h 13 6 0)) (gn_R (cA 3) 4 (gn_f h 16 6 0)) (gn_R (cA 4) 12 (gn_f h 37 7 0)))) dX4_init_37 rfl wf_X4_30 wu_X4 tyX4_ok nmX4 (by decide) (by omega) rfl (Or.inr ⟨rfl, rfl, rfl⟩) rfl rfl (Nat.le_of_ble_eq_true rfl) (by rw [gn_E4_0]; rfl) ?_
  refine gn_aload_n (pc := 40) dX4_init_40 rfl ?_
  refine gn_sipush (pc := 41) dX4_init_41 rfl ?_
  refine gn_newaI (pc := 44) (N := 1200) (mc' := 109) (ms' := 21284) (E' := (gn_E4 E [.ref (h + 1), .ref (h + 2), .ref (h + 3), .ref (h + 10), .null, .null, .int 0, .int 0, .int 0] (gn_R (cA 2) 4 (gn_f h 13 6 0)) (gn_R (cA 3) 4 (gn_f h 16 6 0)) (gn_R (cA 4) 12 (gn_f h 37 7 0)))) dX4_init_44 (by decide) rfl (by decide) (fun _ _ => rfl) (by rw [gn_E4_o (by omega) (by omega) (by omega) (by omega)]; exact hF.1.2.2.2.2.2.2.2.1) rfl rfl ?_
  refine gn_put (pc := 46) (ci := 4) (a := 0) (k9 := 4) (N := 9) (C9 := RX4) (T9 := TX4) (ty0 := tyX4) (fs := [.ref (h + 1), .ref (h + 2), .ref (h + 3), .ref (h + 10), .null, .null, .int 0, .int 0, .int 0]) (E' := (gn_E4 E [.ref (h + 1), .ref (h + 2), .ref (h + 3), .ref (h + 10), .ref (h + 11), .null, .int 0, .int 0, .int 0] (gn_R (cA 2) 4 (gn_f h 13 6 0)) (gn_R (cA 3) 4 (gn_f h 16 6 0)) (gn_R (cA 4) 12 (gn_f h 37 7 0)))) dX4_init_46 rfl wf_X4_34 wu_X4 tyX4_ok nmX4 (by decide) (by omega) rfl (Or.inr ⟨rfl, rfl, rfl⟩) rfl rfl (Nat.le_of_ble_eq_true rfl) (by rw [gn_E4_0]; rfl) ?_
  refine gn_aload_n (pc := 49) dX4_init_49 rfl ?_
  refine gn_bipush (pc := 50) dX4_init_50 rfl ?_
  refine gn_newaZ (pc := 52) (N := 120) (mc' := 108) (ms' := 21164) (E' := (gn_E4 E [.ref (h + 1), .ref (h + 2), .ref (h + 3), .ref (h + 10), .ref (h + 11), .null, .int 0, .int 0, .int 0] (gn_R (cA 2) 4 (gn_f h 13 6 0)) (gn_R (cA 3) 4 (gn_f h 16 6 0)) (gn_R (cA 4) 12 (gn_f h 37 7 0)))) dX4_init_52 (by decide) rfl (by decide) (fun _ _ => rfl) (by rw [gn_E4_o (by omega) (by omega) (by omega) (by omega)]; exact hF.1.2.2.2.2.2.2.2.2) rfl rfl ?_
  refine gn_put (pc := 54) (ci := 4) (a := 0) (k9 := 5) (N := 9) (C9 := RX4) (T9 := TX4) (ty0 := tyX4) (fs := [.ref (h + 1), .ref (h + 2), .ref (h + 3), .ref (h + 10), .ref (h + 11), .null, .int 0, .int 0, .int 0]) (E' := (gn_E4 E [.ref (h + 1), .ref (h + 2), .ref (h + 3), .ref (h + 10), .ref (h + 11), .ref (h + 12), .int 0, .int 0, .int 0] (gn_R (cA 2) 4 (gn_f h 13 6 0)) (gn_R (cA 3) 4 (gn_f h 16 6 0)) (gn_R (cA 4) 12 (gn_f h 37 7 0)))) dX4_init_54 rfl wf_X4_38 wu_X4 tyX4_ok nmX4 (by decide) (by omega) rfl (Or.inr ⟨rfl, rfl, rfl⟩) rfl rfl (Nat.le_of_ble_eq_true rfl) (by rw [gn_E4_0]; rfl) ?_
  refine gn_aload_n (pc := 57) dX4_init_57 rfl ?_
  refine gn_iconst (pc := 58) dX4_init_58 ?_
  refine gn_put (pc := 59) (ci := 4) (a := 0) (k9 := 6) (N := 9) (C9 := RX4) (T9 := TX4) (ty0 := tyX4) (fs := [.ref (h + 1), .ref (h + 2), .ref (h + 3), .ref (h + 10), .ref (h + 11), .ref (h + 12), .int 0, .int 0, .int 0]) (E' := (gn_E4 E [.ref (h + 1), .ref (h + 2), .ref (h + 3), .ref (h + 10), .ref (h + 11), .ref (h + 12), gz_i (2), .int 0, .int 0] (gn_R (cA 2) 4 (gn_f h 13 6 0)) (gn_R (cA 3) 4 (gn_f h 16 6 0)) (gn_R (cA 4) 12 (gn_f h 37 7 0)))) dX4_init_59 rfl wf_X4_42 wu_X4 tyX4_ok nmX4 (by decide) (by omega) rfl (Or.inl rfl) rfl rfl (Nat.le_of_ble_eq_true rfl) (by rw [gn_E4_0]; rfl) ?_
  refine gn_aload_n (pc := 62) dX4_init_62 rfl ?_
  refine gn_iconst (pc := 63) dX4_init_63 ?_
  refine gn_put (pc := 64) (ci := 4) (a := 0) (k9 := 7) (N := 9) (C9 := RX4) (T9 := TX4) (ty0 := tyX4) (fs := [.ref (h + 1), .ref (h + 2), .ref (h + 3), .ref (h + 10), .ref (h + 11), .ref (h + 12), gz_i (2), .int 0, .int 0]) (E' := (gn_E4 E [.ref (h + 1), .ref (h + 2), .ref (h + 3), .ref (h + 10), .ref (h + 11), .ref (h + 12), gz_i (2), gz_i (0), .int 0] (gn_R (cA 2) 4 (gn_f h 13 6 0)) (gn_R (cA 3) 4 (gn_f h 16 6 0)) (gn_R (cA 4) 12 (gn_f h 37 7 0)))) dX4_init_64 rfl wf_X4_46 wu_X4 tyX4_ok nmX4 (by decide) (by omega) rfl (Or.inl rfl) rfl rfl (Nat.le_of_ble_eq_true rfl) (by rw [gn_E4_0]; rfl) ?_
  refine gn_aload_n (pc := 67) dX4_init_67 rfl ?_
  refine gn_iconst (pc := 68) dX4_init_68 ?_
  refine gn_put (pc := 69) (ci := 4) (a := 0) (k9 := 8) (N := 9) (C9 := RX4) (T9 := TX4) (ty0 := tyX4) (fs := [.ref (h + 1), .ref (h + 2), .ref (h + 3), .ref (h + 10), .ref (h + 11), .ref (h + 12), gz_i (2), gz_i (0), .int 0]) (E' := (gn_E4 E [.ref (h + 1), .ref (h + 2), .ref (h + 3), .ref (h + 10), .ref (h + 11), .ref (h + 12), gz_i (2), gz_i (0), gz_i (0)] (gn_R (cA 2) 4 (gn_f h 13 6 0)) (gn_R (cA 3) 4 (gn_f h 16 6 0)) (gn_R (cA 4) 12 (gn_f h 37 7 0)))) dX4_init_69 rfl wf_X4_49 wu_X4 tyX4_ok nmX4 (by decide) (by omega) rfl (Or.inl rfl) rfl rfl (Nat.le_of_ble_eq_true rfl) (by rw [gn_E4_0]; rfl) ?_
  refine gn_iconst (pc := 72) dX4_init_72 ?_
  refine gn_istore_n (pc := 73) dX4_init_73 rfl rfl rfl ?_
  exact np_X4a l D cA h hF 0 (by decide) (by decide)
