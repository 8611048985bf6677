set_option maxHeartbeats 4000000 in
set_option maxRecDepth 100000 in
theorem ct_X4_isTask (l : Launch) (D : va_G) (α : gz_P → Nat) (cA : Nat → ClassId) {I : gz_M} {t : Int} (ht : -2147483648 ≤ t ∧ t ≤ 2147483647) (hT : 1 ≤ I (0, 0, 0) 6 ∧ I (0, 0, 0) 6 ≤ 4) : gz_V l D α cA RX4 cX4_isTask (some .boolean) 2 0 (gz_Qi fun x I' => I' = I ∧ (x = 1 ∧ 0 ≤ t ∧ t < I (0, 0, 0) 6 ∨ x = 0 ∧ ¬ (0 ≤ t ∧ t < I (0, 0, 0) 6))) I [some (.ref (α (0, 0, 0))), some (gz_i (t))] [] 0 := by
  refine gz_iload_n (pc := 0) dX4_isTask_0 rfl ?_
  refine gz_if_lt (pc := 1) (tgt := 16) dX4_isTask_1 (by decide) (by omega) (fun h1 => ?_) (fun h1 => ?_)
  · refine gz_iconst (pc := 16) dX4_isTask_16 ?_
    refine gz_zret (pc := 17) dX4_isTask_17 rfl (by first | exact Or.inl rfl | exact Or.inr rfl | omega) ?_
    exact ⟨rfl, by omega⟩
  · refine gz_iload_n (pc := 4) dX4_isTask_4 rfl ?_
    first | refine gz_aload_n (pc := 5) dX4_isTask_5 rfl ?_ | refine gz_aload_nN (pc := 5) dX4_isTask_5 rfl ?_
    refine gz_getI (pc := 6) 6 dX4_isTask_6 fl_X4_42 rfl rfl rfl rfl (by first | exact gz_B1 | (omega)) ?_
    refine gz_icmp_ge (pc := 9) (tgt := 16) dX4_isTask_9 (by decide) (by omega) (by omega) (fun h9 => ?_) (fun h9 => ?_)
    · refine gz_iconst (pc := 16) dX4_isTask_16 ?_
      refine gz_zret (pc := 17) dX4_isTask_17 rfl (by first | exact Or.inl rfl | exact Or.inr rfl | omega) ?_
      exact ⟨rfl, by omega⟩
    · refine gz_iconst (pc := 12) dX4_isTask_12 ?_
      refine gz_goto (pc := 13) (tgt := 17) dX4_isTask_13 (by decide) ?_
      refine gz_zret (pc := 17) dX4_isTask_17 rfl (by first | exact Or.inl rfl | exact Or.inr rfl | omega) ?_
      exact ⟨rfl, by omega⟩
