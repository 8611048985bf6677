theorem gz_x_in {a b : Int} (ha : 0 ≤ a ∧ a ≤ 255) (hb : 0 ≤ b ∧ b ≤ 255) : 0 ≤ gz_x a b ∧ gz_x a b ≤ 255 := by
  have hn : ∀ c : Int, 0 ≤ c ∧ c ≤ 255 → (Int32.ofInt c).toBitVec.toNat = c.toNat := fun c hc => by
    show (BitVec.ofInt 32 c).toNat = c.toNat
    rw [BitVec.toNat_ofInt]
    omega
  have h1 : (Int32.ofInt a ^^^ Int32.ofInt b).toBitVec.toNat = a.toNat ^^^ b.toNat := by
    rw [Int32.toBitVec_xor, BitVec.toNat_xor, hn a ha, hn b hb]
  have h2 : a.toNat ^^^ b.toNat < 2 ^ 8 := Nat.xor_lt_two_pow (by omega) (by omega)
  have h3 : gz_x a b = ((Int32.ofInt a ^^^ Int32.ofInt b).toBitVec.toNat : Int) := by
    show (Int32.ofInt a ^^^ Int32.ofInt b).toBitVec.toInt = _
    exact BitVec.toInt_eq_toNat_of_lt (by rw [h1]; omega)
  rw [h3, h1]
  omega
def gz_BY (I : gz_M) (p t i : Int) : Prop := (0 ≤ p ∧ p < 120 ∧ 0 < I (24, 0, 0) p) ∧ (0 ≤ i ∧ i < I (24, 0, 0) p) ∧ (t = -1 ∧ I (26, 0, 0) p = 0 ∨ (0 ≤ t ∧ t < I (20, 0, 0) 0) ∧ I (28, 0, 0) (120 * t + p) = 1)
set_option maxHeartbeats 4000000 in
set_option maxRecDepth 100000 in
theorem ct_X5_isByte (l : Launch) (D : va_G) (α : gz_P → Nat) (cA : Nat → ClassId) {I : gz_M} (hT : gz_T I) {p t i : Int} (r_p : (-2147483648 ≤ p ∧ p ≤ 2147483647)) (r_t : (-2147483648 ≤ t ∧ t ≤ 2147483647)) (r_i : (-2147483648 ≤ i ∧ i ≤ 2147483647)) : gz_V l D α cA RX5 cX5_isByte (some .boolean) 4 2 (gz_Qi fun x I' => I = I' ∧ (x = 1 ∧ gz_BY I p t i ∨ x = 0 ∧ ¬ gz_BY I p t i)) I [some (.ref (α (20, 0, 0))), some (gz_i (p)), some (gz_i (t)), some (gz_i (i))] [] 0 := by
  first | refine gz_aload_n (pc := 0) dX5_isByte_0 rfl ?_ | refine gz_aload_nN (pc := 0) dX5_isByte_0 rfl ?_
  refine gz_iload_n (pc := 1) dX5_isByte_1 rfl ?_
  refine gz_cV1i (pc := 2) dX5_isByte_2 wm_X5_90 my_X5_isPart rfl rfl rfl (by first | exact gz_B1 | (omega)) (ct_X5_isPart l D α cA hT r_p) (fun x2 I2 h2 => ?_)
  obtain ⟨rfl, hx2⟩ := h2
  have e20 := gz_tM0 hT 0 0
  have e24 := gz_t24 hT 0 0 p
  have e26 := gz_t26 hT 0 0 p
  have e28 := gz_t28 hT 0 0 (120 * t + p)
  refine gz_if_eq (pc := 5) (tgt := 67) dX5_isByte_5 (by decide) (by omega) (fun h5 => ?_) (fun h5 => ?_)
  · refine gz_iconst (pc := 67) dX5_isByte_67 ?_
    refine gz_zret (pc := 68) dX5_isByte_68 rfl (by first | exact Or.inl rfl | exact Or.inr rfl | omega) ?_
    first
      | (refine ⟨rfl, Or.inl ⟨rfl, ?_⟩⟩; unfold gz_BY; omega)
      | (refine ⟨rfl, Or.inr ⟨rfl, ?_⟩⟩; unfold gz_BY; omega)
  · refine gz_iload_n (pc := 8) dX5_isByte_8 rfl ?_
    refine gz_iconst (pc := 9) dX5_isByte_9 ?_
    first | refine gz_aload_n (pc := 10) dX5_isByte_10 rfl ?_ | refine gz_aload_nN (pc := 10) dX5_isByte_10 rfl ?_
    refine gz_getr (pc := 11) dX5_isByte_11 fl_X5_23 rfl rfl rfl (by first | exact gz_B1 | (omega)) ?_
    refine gz_iload_n (pc := 14) dX5_isByte_14 rfl ?_
    refine gz_iald (pc := 15) dX5_isByte_15 rfl rfl (by first | exact gz_B1 | (omega)) (by omega) ?_
    refine gz_iconst (pc := 16) dX5_isByte_16 ?_
    refine gz_isub (pc := 17) dX5_isByte_17 ?_
    refine gz_cS3i (pc := 18) dX5_isByte_18 wm_X5_72 my_X5_in rfl rfl (ct_X5_in l D α cA r_i (by omega) (by omega)) (fun x18 I18 h18 => ?_)
    obtain ⟨rfl, hx18⟩ := h18
    have hxr18 : 0 ≤ x18 ∧ x18 ≤ 1 := by rcases hx18 with h | h <;> omega
    refine gz_if_eq (pc := 21) (tgt := 67) dX5_isByte_21 (by decide) (by omega) (fun h21 => ?_) (fun h21 => ?_)
    · refine gz_iconst (pc := 67) dX5_isByte_67 ?_
      refine gz_zret (pc := 68) dX5_isByte_68 rfl (by first | exact Or.inl rfl | exact Or.inr rfl | omega) ?_
      first
        | (refine ⟨rfl, Or.inl ⟨rfl, ?_⟩⟩; unfold gz_BY; omega)
        | (refine ⟨rfl, Or.inr ⟨rfl, ?_⟩⟩; unfold gz_BY; omega)
    · refine gz_iload_n (pc := 24) dX5_isByte_24 rfl ?_
      refine gz_iconst (pc := 25) dX5_isByte_25 ?_
      refine gz_icmp_ne (pc := 26) (tgt := 41) dX5_isByte_26 (by decide) (by omega) (by omega) (fun h26 => ?_) (fun h26 => ?_)
      · first | refine gz_aload_n (pc := 41) dX5_isByte_41 rfl ?_ | refine gz_aload_nN (pc := 41) dX5_isByte_41 rfl ?_
        refine gz_iload_n (pc := 42) dX5_isByte_42 rfl ?_
        refine gz_cV1i (pc := 43) dX5_isByte_43 wm_X5_76 my_X5_isTask rfl rfl rfl (by first | exact gz_B1 | (omega)) (ct_X5_isTask l D α cA hT r_t) (fun x43 I43 h43 => ?_)
        obtain ⟨rfl, hx43⟩ := h43
        refine gz_if_eq (pc := 46) (tgt := 67) dX5_isByte_46 (by decide) (by omega) (fun h46 => ?_) (fun h46 => ?_)
        · refine gz_iconst (pc := 67) dX5_isByte_67 ?_
          refine gz_zret (pc := 68) dX5_isByte_68 rfl (by first | exact Or.inl rfl | exact Or.inr rfl | omega) ?_
          first
            | (refine ⟨rfl, Or.inl ⟨rfl, ?_⟩⟩; unfold gz_BY; omega)
            | (refine ⟨rfl, Or.inr ⟨rfl, ?_⟩⟩; unfold gz_BY; omega)
        · first | refine gz_aload_n (pc := 49) dX5_isByte_49 rfl ?_ | refine gz_aload_nN (pc := 49) dX5_isByte_49 rfl ?_
          refine gz_getr (pc := 50) dX5_isByte_50 fl_X5_36 rfl rfl rfl (by first | exact gz_B1 | (omega)) ?_
          refine gz_bipush (pc := 53) dX5_isByte_53 rfl ?_
          refine gz_iload_n (pc := 55) dX5_isByte_55 rfl ?_
          refine gz_imul (pc := 56) dX5_isByte_56 ?_
          refine gz_iload_n (pc := 57) dX5_isByte_57 rfl ?_
          refine gz_iadd (pc := 58) dX5_isByte_58 ?_
          refine gz_zald (pc := 59) dX5_isByte_59 rfl rfl (by first | exact gz_B1 | (omega)) (by omega) ?_
          refine gz_if_eq (pc := 60) (tgt := 67) dX5_isByte_60 (by decide) (by omega) (fun h60 => ?_) (fun h60 => ?_)
          · refine gz_iconst (pc := 67) dX5_isByte_67 ?_
            refine gz_zret (pc := 68) dX5_isByte_68 rfl (by first | exact Or.inl rfl | exact Or.inr rfl | omega) ?_
            first
              | (refine ⟨rfl, Or.inl ⟨rfl, ?_⟩⟩; unfold gz_BY; omega)
              | (refine ⟨rfl, Or.inr ⟨rfl, ?_⟩⟩; unfold gz_BY; omega)
          · refine gz_iconst (pc := 63) dX5_isByte_63 ?_
            refine gz_goto (pc := 64) (tgt := 68) dX5_isByte_64 (by decide) ?_
            refine gz_zret (pc := 68) dX5_isByte_68 rfl (by first | exact Or.inl rfl | exact Or.inr rfl | omega) ?_
            first
              | (refine ⟨rfl, Or.inl ⟨rfl, ?_⟩⟩; unfold gz_BY; omega)
              | (refine ⟨rfl, Or.inr ⟨rfl, ?_⟩⟩; unfold gz_BY; omega)
      · first | refine gz_aload_n (pc := 29) dX5_isByte_29 rfl ?_ | refine gz_aload_nN (pc := 29) dX5_isByte_29 rfl ?_
        refine gz_getr (pc := 30) dX5_isByte_30 fl_X5_29 rfl rfl rfl (by first | exact gz_B1 | (omega)) ?_
        refine gz_iload_n (pc := 33) dX5_isByte_33 rfl ?_
        refine gz_zald (pc := 34) dX5_isByte_34 rfl rfl (by first | exact gz_B1 | (omega)) (by omega) ?_
        refine gz_if_ne (pc := 35) (tgt := 67) dX5_isByte_35 (by decide) (by omega) (fun h35 => ?_) (fun h35 => ?_)
        · refine gz_iconst (pc := 67) dX5_isByte_67 ?_
          refine gz_zret (pc := 68) dX5_isByte_68 rfl (by first | exact Or.inl rfl | exact Or.inr rfl | omega) ?_
          first
            | (refine ⟨rfl, Or.inl ⟨rfl, ?_⟩⟩; unfold gz_BY; omega)
            | (refine ⟨rfl, Or.inr ⟨rfl, ?_⟩⟩; unfold gz_BY; omega)
        · refine gz_goto (pc := 38) (tgt := 63) dX5_isByte_38 (by decide) ?_
          refine gz_iconst (pc := 63) dX5_isByte_63 ?_
          refine gz_goto (pc := 64) (tgt := 68) dX5_isByte_64 (by decide) ?_
          refine gz_zret (pc := 68) dX5_isByte_68 rfl (by first | exact Or.inl rfl | exact Or.inr rfl | omega) ?_
          first
            | (refine ⟨rfl, Or.inl ⟨rfl, ?_⟩⟩; unfold gz_BY; omega)
            | (refine ⟨rfl, Or.inr ⟨rfl, ?_⟩⟩; unfold gz_BY; omega)
set_option maxHeartbeats 4000000 in
set_option maxRecDepth 100000 in
theorem ct_X5_partByte (l : Launch) (D : va_G) (α : gz_P → Nat) (cA : Nat → ClassId) {I : gz_M} (hT : gz_T I) {p t i : Int} (r_p : (-2147483648 ≤ p ∧ p ≤ 2147483647)) (r_t : (-2147483648 ≤ t ∧ t ≤ 2147483647)) (r_i : (-2147483648 ≤ i ∧ i ≤ 2147483647)) : gz_V l D α cA RX5 cX5_partByte (some .int) 4 3 (gz_Qi fun x I' => I = I' ∧ (¬ gz_BY I p t i ∧ x = -2 ∨ gz_BY I p t i ∧ (t = -1 ∧ x = I (27, 0, 0) (32 * p + i) ∨ ¬ t = -1 ∧ x = I (29, 0, 0) (32 * (120 * t + p) + i)))) I [some (.ref (α (20, 0, 0))), some (gz_i (p)), some (gz_i (t)), some (gz_i (i))] [] 0 := by
  first | refine gz_aload_n (pc := 0) dX5_partByte_0 rfl ?_ | refine gz_aload_nN (pc := 0) dX5_partByte_0 rfl ?_
  refine gz_iload_n (pc := 1) dX5_partByte_1 rfl ?_
  refine gz_iload_n (pc := 2) dX5_partByte_2 rfl ?_
  refine gz_iload_n (pc := 3) dX5_partByte_3 rfl ?_
  refine gz_cV3i (pc := 4) dX5_partByte_4 wm_X5_103 my_X5_isByte rfl rfl rfl (by first | exact gz_B1 | (omega)) (ct_X5_isByte l D α cA hT r_p r_t r_i) (fun x4 I4 h4 => ?_)
  obtain ⟨rfl, ⟨rfl, hB⟩ | ⟨rfl, hB⟩⟩ := h4
  · have hB2 := hB
    unfold gz_BY at hB2
    have e20 := gz_tM0 hT 0 0
    have e24 := gz_t24 hT 0 0 p
    refine gz_if_ne (pc := 7) (tgt := 13) dX5_partByte_7 (by decide) (by omega) (fun h7 => ?_) (fun h7 => ?_)
    · refine gz_iload_n (pc := 13) dX5_partByte_13 rfl ?_
      refine gz_iconst (pc := 14) dX5_partByte_14 ?_
      refine gz_icmp_ne (pc := 15) (tgt := 32) dX5_partByte_15 (by decide) (by omega) (by omega) (fun h15 => ?_) (fun h15 => ?_)
      · first | refine gz_aload_n (pc := 32) dX5_partByte_32 rfl ?_ | refine gz_aload_nN (pc := 32) dX5_partByte_32 rfl ?_
        refine gz_getr (pc := 33) dX5_partByte_33 fl_X5_39 rfl rfl rfl (by first | exact gz_B1 | (omega)) ?_
        refine gz_bipush (pc := 36) dX5_partByte_36 rfl ?_
        refine gz_bipush (pc := 38) dX5_partByte_38 rfl ?_
        refine gz_iload_n (pc := 40) dX5_partByte_40 rfl ?_
        refine gz_imul (pc := 41) dX5_partByte_41 ?_
        refine gz_iload_n (pc := 42) dX5_partByte_42 rfl ?_
        refine gz_iadd (pc := 43) dX5_partByte_43 ?_
        refine gz_imul (pc := 44) dX5_partByte_44 ?_
        refine gz_iload_n (pc := 45) dX5_partByte_45 rfl ?_
        refine gz_iadd (pc := 46) dX5_partByte_46 ?_
        refine gz_iald (pc := 47) dX5_partByte_47 rfl rfl (by first | exact gz_B1 | (omega)) (by omega) ?_
        refine gz_iret (pc := 48) dX5_partByte_48 rfl ?_
        first
          | exact ⟨rfl, Or.inr ⟨hB, Or.inl ⟨h15, rfl⟩⟩⟩
          | exact ⟨rfl, Or.inr ⟨hB, Or.inr ⟨h15, rfl⟩⟩⟩
      · first | refine gz_aload_n (pc := 18) dX5_partByte_18 rfl ?_ | refine gz_aload_nN (pc := 18) dX5_partByte_18 rfl ?_
        refine gz_getr (pc := 19) dX5_partByte_19 fl_X5_33 rfl rfl rfl (by first | exact gz_B1 | (omega)) ?_
        refine gz_bipush (pc := 22) dX5_partByte_22 rfl ?_
        refine gz_iload_n (pc := 24) dX5_partByte_24 rfl ?_
        refine gz_imul (pc := 25) dX5_partByte_25 ?_
        refine gz_iload_n (pc := 26) dX5_partByte_26 rfl ?_
        refine gz_iadd (pc := 27) dX5_partByte_27 ?_
        refine gz_iald (pc := 28) dX5_partByte_28 rfl rfl (by first | exact gz_B1 | (omega)) (by omega) ?_
        refine gz_goto (pc := 29) (tgt := 48) dX5_partByte_29 (by decide) ?_
        refine gz_iret (pc := 48) dX5_partByte_48 rfl ?_
        first
          | exact ⟨rfl, Or.inr ⟨hB, Or.inl ⟨h15, rfl⟩⟩⟩
          | exact ⟨rfl, Or.inr ⟨hB, Or.inr ⟨h15, rfl⟩⟩⟩
    · exact absurd h7 (by decide)
  · refine gz_if_ne (pc := 7) (tgt := 13) dX5_partByte_7 (by decide) (by omega) (fun h7 => ?_) (fun h7 => ?_)
    · exact absurd rfl h7
    · refine gz_bipush (pc := 10) dX5_partByte_10 rfl ?_
      refine gz_iret (pc := 12) dX5_partByte_12 rfl ?_
      first
        | exact absurd h7 (by decide)
        | exact ⟨rfl, Or.inl ⟨hB, rfl⟩⟩
set_option maxHeartbeats 4000000 in
set_option maxRecDepth 100000 in
theorem ct_X5_alter (l : Launch) (D : va_G) (α : gz_P → Nat) (cA : Nat → ClassId) {I : gz_M} (hT : gz_T I) {p t i z : Int} (r_p : (-2147483648 ≤ p ∧ p ≤ 2147483647)) (r_t : (-2147483648 ≤ t ∧ t ≤ 2147483647)) (r_i : (-2147483648 ≤ i ∧ i ≤ 2147483647)) (r_z : (-2147483648 ≤ z ∧ z ≤ 2147483647)) : gz_V l D α cA RX5 cX5_alter (some .int) 5 4 (gz_Qi fun x I' => (¬ (gz_BY I p t i ∧ 0 ≤ z ∧ z ≤ 255) ∧ x = -2 ∧ I = I' ∨ (gz_BY I p t i ∧ 0 ≤ z ∧ z ≤ 255) ∧ (t = -1 ∧ x = gz_x (I (27, 0, 0) (32 * p + i)) z ∧ I' = gz_up I (27, 0, 0) (32 * p + i) (gz_x (I (27, 0, 0) (32 * p + i)) z) ∨ ¬ t = -1 ∧ x = gz_x (I (29, 0, 0) (32 * (120 * t + p) + i)) z ∧ I' = gz_up I (29, 0, 0) (32 * (120 * t + p) + i) (gz_x (I (29, 0, 0) (32 * (120 * t + p) + i)) z)))) I [some (.ref (α (20, 0, 0))), some (gz_i (p)), some (gz_i (t)), some (gz_i (i)), some (gz_i (z))] [] 0 := by
  first | refine gz_aload_n (pc := 0) dX5_alter_0 rfl ?_ | refine gz_aload_nN (pc := 0) dX5_alter_0 rfl ?_
  refine gz_iload_n (pc := 1) dX5_alter_1 rfl ?_
  refine gz_iload_n (pc := 2) dX5_alter_2 rfl ?_
  refine gz_iload_n (pc := 3) dX5_alter_3 rfl ?_
  refine gz_cV3i (pc := 4) dX5_alter_4 wm_X5_103 my_X5_isByte rfl rfl rfl (by first | exact gz_B1 | (omega)) (ct_X5_isByte l D α cA hT r_p r_t r_i) (fun x4 I4 h4 => ?_)
  obtain ⟨rfl, ⟨rfl, hB⟩ | ⟨rfl, hB⟩⟩ := h4
  · have hB2 := hB
    unfold gz_BY at hB2
    have e20 := gz_tM0 hT 0 0
    have e24 := gz_t24 hT 0 0 p
    have v27 := gz_t27 hT 0 0 (32 * p + i)
    have v29 := gz_t29 hT 0 0 (32 * (120 * t + p) + i)
    refine gz_if_eq (pc := 7) (tgt := 22) dX5_alter_7 (by decide) (by omega) (fun h7 => ?_) (fun h7 => ?_)
    · refine gz_bipush (pc := 22) dX5_alter_22 rfl ?_
      refine gz_iret (pc := 24) dX5_alter_24 rfl ?_
      first
        | exact absurd h7 (by decide)
        | exact Or.inl ⟨fun z => hB z.1, rfl, rfl⟩
        | exact Or.inl ⟨fun z => by have := z.2; omega, rfl, rfl⟩
    · refine gz_iload (pc := 10) dX5_alter_10 rfl ?_
      refine gz_iconst (pc := 12) dX5_alter_12 ?_
      refine gz_sipush (pc := 13) dX5_alter_13 rfl ?_
      refine gz_cS3i (pc := 16) dX5_alter_16 wm_X5_72 my_X5_in rfl rfl (ct_X5_in l D α cA r_z (by omega) (by omega)) (fun x16 I16 h16 => ?_)
      obtain ⟨rfl, hx16⟩ := h16
      have hxr16 : 0 ≤ x16 ∧ x16 ≤ 1 := by rcases hx16 with h | h <;> omega
      refine gz_if_ne (pc := 19) (tgt := 25) dX5_alter_19 (by decide) (by omega) (fun h19 => ?_) (fun h19 => ?_)
      · refine gz_iload_n (pc := 25) dX5_alter_25 rfl ?_
        refine gz_iconst (pc := 26) dX5_alter_26 ?_
        refine gz_icmp_ne (pc := 27) (tgt := 49) dX5_alter_27 (by decide) (by omega) (by omega) (fun h27 => ?_) (fun h27 => ?_)
        · first | refine gz_aload_n (pc := 49) dX5_alter_49 rfl ?_ | refine gz_aload_nN (pc := 49) dX5_alter_49 rfl ?_
          refine gz_getr (pc := 50) dX5_alter_50 fl_X5_39 rfl rfl rfl (by first | exact gz_B1 | (omega)) ?_
          refine gz_bipush (pc := 53) dX5_alter_53 rfl ?_
          refine gz_bipush (pc := 55) dX5_alter_55 rfl ?_
          refine gz_iload_n (pc := 57) dX5_alter_57 rfl ?_
          refine gz_imul (pc := 58) dX5_alter_58 ?_
          refine gz_iload_n (pc := 59) dX5_alter_59 rfl ?_
          refine gz_iadd (pc := 60) dX5_alter_60 ?_
          refine gz_imul (pc := 61) dX5_alter_61 ?_
          refine gz_iload_n (pc := 62) dX5_alter_62 rfl ?_
          refine gz_iadd (pc := 63) dX5_alter_63 ?_
          refine gz_dup2 (pc := 64) dX5_alter_64 rfl rfl ?_
          refine gz_iald (pc := 65) dX5_alter_65 rfl rfl (by first | exact gz_B1 | (omega)) (by omega) ?_
          refine gz_iload (pc := 66) dX5_alter_66 rfl ?_
          refine gz_ixor (pc := 68) dX5_alter_68 ?_
          refine gz_iast (pc := 69) dX5_alter_69 rfl rfl (by first | exact gz_B1 | (omega)) (by omega) ?_
          first | refine gz_aload_n (pc := 70) dX5_alter_70 rfl ?_ | refine gz_aload_nN (pc := 70) dX5_alter_70 rfl ?_
          refine gz_iload_n (pc := 71) dX5_alter_71 rfl ?_
          refine gz_iload_n (pc := 72) dX5_alter_72 rfl ?_
          refine gz_iload_n (pc := 73) dX5_alter_73 rfl ?_
          refine gz_cV3i (pc := 74) dX5_alter_74 wm_X5_106 my_X5_partByte rfl rfl rfl (by first | exact gz_B1 | (omega)) (ct_X5_partByte l D α cA (by first | exact gz_Tu27 hT (gz_x_in v27 (by omega)) | exact gz_Tu29 hT (gz_x_in v29 (by omega))) r_p r_t r_i) (fun x74 I74 h74 => ?_)
          obtain ⟨rfl, hx74⟩ := h74
          refine gz_iret (pc := 77) dX5_alter_77 rfl ?_
          rcases hx74 with ⟨q1, q2⟩ | ⟨q1, q2⟩
          · exfalso
            apply q1
            unfold gz_BY
            simp (decide := true) only [gz_up_r]
            exact hB2
          · first
              | (rcases q2 with q2 | q2
                 · refine Or.inr ⟨⟨hB, by omega⟩, Or.inl ⟨h27, ?_, rfl⟩⟩
                   rw [q2.2, gz_up_s]
                 · exact absurd h27 q2.1)
              | (rcases q2 with q2 | q2
                 · exact absurd q2.1 h27
                 · refine Or.inr ⟨⟨hB, by omega⟩, Or.inr ⟨h27, ?_, rfl⟩⟩
                   rw [q2.2, gz_up_s])
        · first | refine gz_aload_n (pc := 30) dX5_alter_30 rfl ?_ | refine gz_aload_nN (pc := 30) dX5_alter_30 rfl ?_
          refine gz_getr (pc := 31) dX5_alter_31 fl_X5_33 rfl rfl rfl (by first | exact gz_B1 | (omega)) ?_
          refine gz_bipush (pc := 34) dX5_alter_34 rfl ?_
          refine gz_iload_n (pc := 36) dX5_alter_36 rfl ?_
          refine gz_imul (pc := 37) dX5_alter_37 ?_
          refine gz_iload_n (pc := 38) dX5_alter_38 rfl ?_
          refine gz_iadd (pc := 39) dX5_alter_39 ?_
          refine gz_dup2 (pc := 40) dX5_alter_40 rfl rfl ?_
          refine gz_iald (pc := 41) dX5_alter_41 rfl rfl (by first | exact gz_B1 | (omega)) (by omega) ?_
          refine gz_iload (pc := 42) dX5_alter_42 rfl ?_
          refine gz_ixor (pc := 44) dX5_alter_44 ?_
          refine gz_iast (pc := 45) dX5_alter_45 rfl rfl (by first | exact gz_B1 | (omega)) (by omega) ?_
          refine gz_goto (pc := 46) (tgt := 70) dX5_alter_46 (by decide) ?_
          first | refine gz_aload_n (pc := 70) dX5_alter_70 rfl ?_ | refine gz_aload_nN (pc := 70) dX5_alter_70 rfl ?_
          refine gz_iload_n (pc := 71) dX5_alter_71 rfl ?_
          refine gz_iload_n (pc := 72) dX5_alter_72 rfl ?_
          refine gz_iload_n (pc := 73) dX5_alter_73 rfl ?_
          refine gz_cV3i (pc := 74) dX5_alter_74 wm_X5_106 my_X5_partByte rfl rfl rfl (by first | exact gz_B1 | (omega)) (ct_X5_partByte l D α cA (by first | exact gz_Tu27 hT (gz_x_in v27 (by omega)) | exact gz_Tu29 hT (gz_x_in v29 (by omega))) r_p r_t r_i) (fun x74 I74 h74 => ?_)
          obtain ⟨rfl, hx74⟩ := h74
          refine gz_iret (pc := 77) dX5_alter_77 rfl ?_
          rcases hx74 with ⟨q1, q2⟩ | ⟨q1, q2⟩
          · exfalso
            apply q1
            unfold gz_BY
            simp (decide := true) only [gz_up_r]
            exact hB2
          · first
              | (rcases q2 with q2 | q2
                 · refine Or.inr ⟨⟨hB, by omega⟩, Or.inl ⟨h27, ?_, rfl⟩⟩
                   rw [q2.2, gz_up_s]
                 · exact absurd h27 q2.1)
              | (rcases q2 with q2 | q2
                 · exact absurd q2.1 h27
                 · refine Or.inr ⟨⟨hB, by omega⟩, Or.inr ⟨h27, ?_, rfl⟩⟩
                   rw [q2.2, gz_up_s])
      · refine gz_bipush (pc := 22) dX5_alter_22 rfl ?_
        refine gz_iret (pc := 24) dX5_alter_24 rfl ?_
        first
          | exact absurd h7 (by decide)
          | exact Or.inl ⟨fun z => hB z.1, rfl, rfl⟩
          | exact Or.inl ⟨fun z => by have := z.2; omega, rfl, rfl⟩
  · refine gz_if_eq (pc := 7) (tgt := 22) dX5_alter_7 (by decide) (by omega) (fun h7 => ?_) (fun h7 => ?_)
    · refine gz_bipush (pc := 22) dX5_alter_22 rfl ?_
      refine gz_iret (pc := 24) dX5_alter_24 rfl ?_
      first
        | exact absurd h7 (by decide)
        | exact Or.inl ⟨fun z => hB z.1, rfl, rfl⟩
        | exact Or.inl ⟨fun z => by have := z.2; omega, rfl, rfl⟩
    · exact absurd rfl h7
set_option maxHeartbeats 4000000 in
set_option maxRecDepth 100000 in
theorem ct_X5_lose (l : Launch) (D : va_G) (α : gz_P → Nat) (cA : Nat → ClassId) {I : gz_M} (hT : gz_T I) {p t : Int} (r_p : (-2147483648 ≤ p ∧ p ≤ 2147483647)) (r_t : (-2147483648 ≤ t ∧ t ≤ 2147483647)) : gz_V l D α cA RX5 cX5_lose (some .int) 3 3 (gz_Qi fun x I' => (¬ gz_BY I p t 0 ∧ x = -2 ∧ I = I' ∨ gz_BY I p t 0 ∧ x = 1 ∧ (t = -1 ∧ I' = gz_up I (26, 0, 0) p 1 ∨ ¬ t = -1 ∧ I' = gz_up I (28, 0, 0) (120 * t + p) 0))) I [some (.ref (α (20, 0, 0))), some (gz_i (p)), some (gz_i (t))] [] 0 := by
  first | refine gz_aload_n (pc := 0) dX5_lose_0 rfl ?_ | refine gz_aload_nN (pc := 0) dX5_lose_0 rfl ?_
  refine gz_iload_n (pc := 1) dX5_lose_1 rfl ?_
  refine gz_iload_n (pc := 2) dX5_lose_2 rfl ?_
  refine gz_iconst (pc := 3) dX5_lose_3 ?_
  refine gz_cV3i (pc := 4) dX5_lose_4 wm_X5_103 my_X5_isByte rfl rfl rfl (by first | exact gz_B1 | (omega)) (ct_X5_isByte l D α cA hT r_p r_t (by decide)) (fun x4 I4 h4 => ?_)
  obtain ⟨rfl, ⟨rfl, hB⟩ | ⟨rfl, hB⟩⟩ := h4
  · have hB2 := hB
    unfold gz_BY at hB2
    have e20 := gz_tM0 hT 0 0
    have e24 := gz_t24 hT 0 0 p
    refine gz_if_ne (pc := 7) (tgt := 13) dX5_lose_7 (by decide) (by omega) (fun h7 => ?_) (fun h7 => ?_)
    · refine gz_iload_n (pc := 13) dX5_lose_13 rfl ?_
      refine gz_iconst (pc := 14) dX5_lose_14 ?_
      refine gz_icmp_ne (pc := 15) (tgt := 28) dX5_lose_15 (by decide) (by omega) (by omega) (fun h15 => ?_) (fun h15 => ?_)
      · first | refine gz_aload_n (pc := 28) dX5_lose_28 rfl ?_ | refine gz_aload_nN (pc := 28) dX5_lose_28 rfl ?_
        refine gz_getr (pc := 29) dX5_lose_29 fl_X5_36 rfl rfl rfl (by first | exact gz_B1 | (omega)) ?_
        refine gz_bipush (pc := 32) dX5_lose_32 rfl ?_
        refine gz_iload_n (pc := 34) dX5_lose_34 rfl ?_
        refine gz_imul (pc := 35) dX5_lose_35 ?_
        refine gz_iload_n (pc := 36) dX5_lose_36 rfl ?_
        refine gz_iadd (pc := 37) dX5_lose_37 ?_
        refine gz_iconst (pc := 38) dX5_lose_38 ?_
        refine gz_zast (pc := 39) dX5_lose_39 rfl rfl (by first | exact gz_B1 | (omega)) (by omega) (by omega) ?_
        refine gz_iconst (pc := 40) dX5_lose_40 ?_
        refine gz_iret (pc := 41) dX5_lose_41 rfl ?_
        first
          | exact Or.inr ⟨hB, rfl, Or.inl ⟨h15, rfl⟩⟩
          | exact Or.inr ⟨hB, rfl, Or.inr ⟨h15, rfl⟩⟩
      · first | refine gz_aload_n (pc := 18) dX5_lose_18 rfl ?_ | refine gz_aload_nN (pc := 18) dX5_lose_18 rfl ?_
        refine gz_getr (pc := 19) dX5_lose_19 fl_X5_29 rfl rfl rfl (by first | exact gz_B1 | (omega)) ?_
        refine gz_iload_n (pc := 22) dX5_lose_22 rfl ?_
        refine gz_iconst (pc := 23) dX5_lose_23 ?_
        refine gz_zast (pc := 24) dX5_lose_24 rfl rfl (by first | exact gz_B1 | (omega)) (by omega) (by omega) ?_
        refine gz_goto (pc := 25) (tgt := 40) dX5_lose_25 (by decide) ?_
        refine gz_iconst (pc := 40) dX5_lose_40 ?_
        refine gz_iret (pc := 41) dX5_lose_41 rfl ?_
        first
          | exact Or.inr ⟨hB, rfl, Or.inl ⟨h15, rfl⟩⟩
          | exact Or.inr ⟨hB, rfl, Or.inr ⟨h15, rfl⟩⟩
    · exact absurd h7 (by decide)
  · refine gz_if_ne (pc := 7) (tgt := 13) dX5_lose_7 (by decide) (by omega) (fun h7 => ?_) (fun h7 => ?_)
    · exact absurd rfl h7
    · refine gz_bipush (pc := 10) dX5_lose_10 rfl ?_
      refine gz_iret (pc := 12) dX5_lose_12 rfl ?_
      exact Or.inl ⟨hB, rfl, rfl⟩
set_option maxHeartbeats 4000000 in
set_option maxRecDepth 100000 in
theorem lp_X5_partTold2 (l : Launch) (D : va_G) (α : gz_P → Nat) (cA : Nat → ClassId) {I : gz_M} (hT : gz_T I) {p w : Int} (r_p : (-2147483648 ≤ p ∧ p ≤ 2147483647)) (r_w : (-2147483648 ≤ w ∧ w ≤ 2147483647)) : (0 ≤ p ∧ p < 120 ∧ 0 < I (24, 0, 0) p) → w = 2 → ∀ s, s ≤ 12 → ∀ n : Int, 0 ≤ s → n = gz_sm (fun s => gz_b (¬ I (30, 0, 0) s = -1 ∧ I (31, 0, 0) s = 1 ∧ gz_hpM I s p)) s.toNat → gz_V l D α cA RX5 cX5_partTold (some .int) 5 2 (gz_Qi fun x I' => I = I' ∧ (x = -2 ∧ (¬ (0 ≤ p ∧ p < 120 ∧ 0 < I (24, 0, 0) p) ∨ ¬ (0 ≤ w ∧ w ≤ 4)) ∨ (0 ≤ p ∧ p < 120 ∧ 0 < I (24, 0, 0) p) ∧ (w = 0 ∧ x = I (24, 0, 0) p ∨ w = 1 ∧ x = I (25, 0, 0) p ∨ w = 2 ∧ x = gz_sm (fun s => gz_b (¬ I (30, 0, 0) s = -1 ∧ I (31, 0, 0) s = 1 ∧ gz_hpM I s p)) 12 ∨ w = 3 ∧ x = 1 - gz_b (gz_snM I p) ∨ w = 4 ∧ x = gz_sm (fun t => I (28, 0, 0) (120 * t + p)) 4))) I [some (.ref (α (20, 0, 0))), some (gz_i (p)), some (gz_i (w)), some (gz_i (n)), some (gz_i (s))] [] 30 := by
  intro hp hw2
  refine gz_upto _ ?_
  intro s hs ih n h0 hn
  have e30 := gz_t30 hT 0 0 s
  have e31 := gz_t31 hT 0 0 s
  refine gz_iload (pc := 30) dX5_partTold_30 rfl ?_
  refine gz_bipush (pc := 32) dX5_partTold_32 rfl ?_
  refine gz_icmp_ge (pc := 34) (tgt := 82) dX5_partTold_34 (by decide) (by omega) (by omega) (fun h34 => ?_) (fun h34 => ?_)
  · refine gz_goto (pc := 82) (tgt := 128) dX5_partTold_82 (by decide) ?_
    have hn2 : n = gz_sm (fun s => gz_b (¬ I (30, 0, 0) s = -1 ∧ I (31, 0, 0) s = 1 ∧ gz_hpM I s p)) 12 := by rw [hn, show s = 12 by omega]; rfl
    refine gz_iload_n (pc := 128) dX5_partTold_128 rfl ?_
    refine gz_if_ne (pc := 129) (tgt := 141) dX5_partTold_129 (by decide) (by omega) (fun h129 => ?_) (fun h129 => ?_)
    · refine gz_iload_n (pc := 141) dX5_partTold_141 rfl ?_
      refine gz_iconst (pc := 142) dX5_partTold_142 ?_
      refine gz_icmp_ne (pc := 143) (tgt := 155) dX5_partTold_143 (by decide) (by omega) (by omega) (fun h143 => ?_) (fun h143 => ?_)
      · refine gz_iload_n (pc := 155) dX5_partTold_155 rfl ?_
        refine gz_iconst (pc := 156) dX5_partTold_156 ?_
        refine gz_icmp_ne (pc := 157) (tgt := 176) dX5_partTold_157 (by decide) (by omega) (by omega) (fun h157 => ?_) (fun h157 => ?_)
        · refine gz_iload_n (pc := 176) dX5_partTold_176 rfl ?_
          refine gz_iret (pc := 177) dX5_partTold_177 rfl ?_
          first
            | exact ⟨rfl, Or.inr ⟨by omega, Or.inl ⟨by omega, rfl⟩⟩⟩
            | exact ⟨rfl, Or.inr ⟨by omega, Or.inr (Or.inl ⟨by omega, rfl⟩)⟩⟩
            | exact absurd hw2 (by omega)
            | exact ⟨rfl, Or.inr ⟨by omega, Or.inr (Or.inr (Or.inl ⟨hw2, hn2⟩))⟩⟩
            | exact ⟨rfl, Or.inr ⟨by omega, Or.inr (Or.inr (Or.inr (Or.inr (⟨hw2, hn2⟩))))⟩⟩
        · first | refine gz_aload_n (pc := 160) dX5_partTold_160 rfl ?_ | refine gz_aload_nN (pc := 160) dX5_partTold_160 rfl ?_
          refine gz_iload_n (pc := 161) dX5_partTold_161 rfl ?_
          refine gz_cV1i (pc := 162) dX5_partTold_162 wm_X5_97 my_X5_isBroken rfl rfl rfl (by first | exact gz_B1 | (omega)) (ct_X5_isBroken l D α cA hT (by omega)) (fun x162 I162 h162 => ?_)
          obtain ⟨rfl, ⟨rfl, hb⟩ | ⟨rfl, hb⟩⟩ := h162
          · refine gz_if_eq (pc := 165) (tgt := 172) dX5_partTold_165 (by decide) (by omega) (fun h165 => ?_) (fun h165 => ?_)
            · refine gz_iconst (pc := 172) dX5_partTold_172 ?_
              refine gz_goto (pc := 173) (tgt := 177) dX5_partTold_173 (by decide) ?_
              refine gz_iret (pc := 177) dX5_partTold_177 rfl ?_
              first
                | exact absurd h165 (by decide)
                | exact absurd rfl h165
                | exact ⟨rfl, Or.inr ⟨by omega, Or.inr (Or.inr (Or.inr (Or.inl ⟨by omega, by rw [gz_b0 hb]; rfl⟩)))⟩⟩
            · refine gz_iconst (pc := 168) dX5_partTold_168 ?_
              refine gz_goto (pc := 169) (tgt := 177) dX5_partTold_169 (by decide) ?_
              refine gz_iret (pc := 177) dX5_partTold_177 rfl ?_
              first
                | exact absurd h165 (by decide)
                | exact absurd rfl h165
                | exact ⟨rfl, Or.inr ⟨by omega, Or.inr (Or.inr (Or.inr (Or.inl ⟨by omega, by rw [gz_b0 hb]; rfl⟩)))⟩⟩
          · refine gz_if_eq (pc := 165) (tgt := 172) dX5_partTold_165 (by decide) (by omega) (fun h165 => ?_) (fun h165 => ?_)
            · refine gz_iconst (pc := 172) dX5_partTold_172 ?_
              refine gz_goto (pc := 173) (tgt := 177) dX5_partTold_173 (by decide) ?_
              refine gz_iret (pc := 177) dX5_partTold_177 rfl ?_
              first
                | exact absurd h165 (by decide)
                | exact absurd rfl h165
                | exact ⟨rfl, Or.inr ⟨by omega, Or.inr (Or.inr (Or.inr (Or.inl ⟨by omega, by rw [gz_b1 hb]; rfl⟩)))⟩⟩
            · refine gz_iconst (pc := 168) dX5_partTold_168 ?_
              refine gz_goto (pc := 169) (tgt := 177) dX5_partTold_169 (by decide) ?_
              refine gz_iret (pc := 177) dX5_partTold_177 rfl ?_
              first
                | exact absurd h165 (by decide)
                | exact absurd rfl h165
                | exact ⟨rfl, Or.inr ⟨by omega, Or.inr (Or.inr (Or.inr (Or.inl ⟨by omega, by rw [gz_b1 hb]; rfl⟩)))⟩⟩
      · first | refine gz_aload_n (pc := 146) dX5_partTold_146 rfl ?_ | refine gz_aload_nN (pc := 146) dX5_partTold_146 rfl ?_
        refine gz_getr (pc := 147) dX5_partTold_147 fl_X5_26 rfl rfl rfl (by first | exact gz_B1 | (omega)) ?_
        refine gz_iload_n (pc := 150) dX5_partTold_150 rfl ?_
        refine gz_iald (pc := 151) dX5_partTold_151 rfl rfl (by first | exact gz_B1 | (omega)) (by omega) ?_
        refine gz_goto (pc := 152) (tgt := 177) dX5_partTold_152 (by decide) ?_
        refine gz_iret (pc := 177) dX5_partTold_177 rfl ?_
        first
          | exact ⟨rfl, Or.inr ⟨by omega, Or.inl ⟨by omega, rfl⟩⟩⟩
          | exact ⟨rfl, Or.inr ⟨by omega, Or.inr (Or.inl ⟨by omega, rfl⟩)⟩⟩
          | exact absurd hw2 (by omega)
          | exact ⟨rfl, Or.inr ⟨by omega, Or.inr (Or.inr (Or.inl ⟨hw2, hn2⟩))⟩⟩
          | exact ⟨rfl, Or.inr ⟨by omega, Or.inr (Or.inr (Or.inr (Or.inr (⟨hw2, hn2⟩))))⟩⟩
    · first | refine gz_aload_n (pc := 132) dX5_partTold_132 rfl ?_ | refine gz_aload_nN (pc := 132) dX5_partTold_132 rfl ?_
      refine gz_getr (pc := 133) dX5_partTold_133 fl_X5_23 rfl rfl rfl (by first | exact gz_B1 | (omega)) ?_
      refine gz_iload_n (pc := 136) dX5_partTold_136 rfl ?_
      refine gz_iald (pc := 137) dX5_partTold_137 rfl rfl (by first | exact gz_B1 | (omega)) (by omega) ?_
      refine gz_goto (pc := 138) (tgt := 177) dX5_partTold_138 (by decide) ?_
      refine gz_iret (pc := 177) dX5_partTold_177 rfl ?_
      first
        | exact ⟨rfl, Or.inr ⟨by omega, Or.inl ⟨by omega, rfl⟩⟩⟩
        | exact ⟨rfl, Or.inr ⟨by omega, Or.inr (Or.inl ⟨by omega, rfl⟩)⟩⟩
        | exact absurd hw2 (by omega)
        | exact ⟨rfl, Or.inr ⟨by omega, Or.inr (Or.inr (Or.inl ⟨hw2, hn2⟩))⟩⟩
        | exact ⟨rfl, Or.inr ⟨by omega, Or.inr (Or.inr (Or.inr (Or.inr (⟨hw2, hn2⟩))))⟩⟩
  · refine gz_iload_n (pc := 37) dX5_partTold_37 rfl ?_
    first | refine gz_aload_n (pc := 38) dX5_partTold_38 rfl ?_ | refine gz_aload_nN (pc := 38) dX5_partTold_38 rfl ?_
    refine gz_getr (pc := 39) dX5_partTold_39 fl_X5_42 rfl rfl rfl (by first | exact gz_B1 | (omega)) ?_
    refine gz_iload (pc := 42) dX5_partTold_42 rfl ?_
    refine gz_iald (pc := 44) dX5_partTold_44 rfl rfl (by first | exact gz_B1 | (omega)) (by omega) ?_
    refine gz_iconst (pc := 45) dX5_partTold_45 ?_
    refine gz_icmp_eq (pc := 46) (tgt := 73) dX5_partTold_46 (by decide) (by omega) (by omega) (fun h46 => ?_) (fun h46 => ?_)
    · refine gz_iconst (pc := 73) dX5_partTold_73 ?_
      refine gz_iadd (pc := 74) dX5_partTold_74 ?_
      refine gz_istore_n (pc := 75) dX5_partTold_75 rfl rfl rfl ?_
      refine gz_iinc (pc := 76) dX5_partTold_76 rfl rfl rfl rfl ?_
      refine gz_goto (pc := 79) (tgt := 30) dX5_partTold_79 (by decide) ?_
      refine ih (s + 1) (by omega) (by omega) _ (by omega) ?_
      rw [show (s + 1).toNat = s.toNat + 1 by omega, gz_sm_s, ← hn, Int.toNat_of_nonneg h0]
      show _ = n + gz_b _
      first
        | (rw [gz_b1 (P := (¬ I (30, 0, 0) s = -1 ∧ I (31, 0, 0) s = 1 ∧ gz_hpM I s p)) ⟨h46, by omega, gz_b_t (by omega)⟩])
        | (rw [gz_b0 (P := (¬ I (30, 0, 0) s = -1 ∧ I (31, 0, 0) s = 1 ∧ gz_hpM I s p)) (fun z => gz_b_f h66 z.2.2)])
        | (rw [gz_b0 (P := (¬ I (30, 0, 0) s = -1 ∧ I (31, 0, 0) s = 1 ∧ gz_hpM I s p)) (fun z => by have := z.2.1; omega)])
        | (rw [gz_b0 (P := (¬ I (30, 0, 0) s = -1 ∧ I (31, 0, 0) s = 1 ∧ gz_hpM I s p)) (fun z => z.1 h46)])
    · first | refine gz_aload_n (pc := 49) dX5_partTold_49 rfl ?_ | refine gz_aload_nN (pc := 49) dX5_partTold_49 rfl ?_
      refine gz_getr (pc := 50) dX5_partTold_50 fl_X5_45 rfl rfl rfl (by first | exact gz_B1 | (omega)) ?_
      refine gz_iload (pc := 53) dX5_partTold_53 rfl ?_
      refine gz_zald (pc := 55) dX5_partTold_55 rfl rfl (by first | exact gz_B1 | (omega)) (by omega) ?_
      refine gz_if_eq (pc := 56) (tgt := 73) dX5_partTold_56 (by decide) (by omega) (fun h56 => ?_) (fun h56 => ?_)
      · refine gz_iconst (pc := 73) dX5_partTold_73 ?_
        refine gz_iadd (pc := 74) dX5_partTold_74 ?_
        refine gz_istore_n (pc := 75) dX5_partTold_75 rfl rfl rfl ?_
        refine gz_iinc (pc := 76) dX5_partTold_76 rfl rfl rfl rfl ?_
        refine gz_goto (pc := 79) (tgt := 30) dX5_partTold_79 (by decide) ?_
        refine ih (s + 1) (by omega) (by omega) _ (by omega) ?_
        rw [show (s + 1).toNat = s.toNat + 1 by omega, gz_sm_s, ← hn, Int.toNat_of_nonneg h0]
        show _ = n + gz_b _
        first
          | (rw [gz_b1 (P := (¬ I (30, 0, 0) s = -1 ∧ I (31, 0, 0) s = 1 ∧ gz_hpM I s p)) ⟨h46, by omega, gz_b_t (by omega)⟩])
          | (rw [gz_b0 (P := (¬ I (30, 0, 0) s = -1 ∧ I (31, 0, 0) s = 1 ∧ gz_hpM I s p)) (fun z => gz_b_f h66 z.2.2)])
          | (rw [gz_b0 (P := (¬ I (30, 0, 0) s = -1 ∧ I (31, 0, 0) s = 1 ∧ gz_hpM I s p)) (fun z => by have := z.2.1; omega)])
          | (rw [gz_b0 (P := (¬ I (30, 0, 0) s = -1 ∧ I (31, 0, 0) s = 1 ∧ gz_hpM I s p)) (fun z => z.1 h46)])
      · first | refine gz_aload_n (pc := 59) dX5_partTold_59 rfl ?_ | refine gz_aload_nN (pc := 59) dX5_partTold_59 rfl ?_
        refine gz_iload (pc := 60) dX5_partTold_60 rfl ?_
        refine gz_iload_n (pc := 62) dX5_partTold_62 rfl ?_
        refine gz_cV2i (pc := 63) dX5_partTold_63 wm_X5_100 my_X5_hasPart rfl rfl rfl (by first | exact gz_B1 | (omega)) (ct_X5_hasPart l D α cA hT (by omega) (by omega)) (fun x63 I63 h63 => ?_)
        obtain ⟨rfl, rfl⟩ := h63
        have hbb := gz_b_01 (gz_hpM I s p)
        refine gz_if_eq (pc := 66) (tgt := 73) dX5_partTold_66 (by decide) (by omega) (fun h66 => ?_) (fun h66 => ?_)
        · refine gz_iconst (pc := 73) dX5_partTold_73 ?_
          refine gz_iadd (pc := 74) dX5_partTold_74 ?_
          refine gz_istore_n (pc := 75) dX5_partTold_75 rfl rfl rfl ?_
          refine gz_iinc (pc := 76) dX5_partTold_76 rfl rfl rfl rfl ?_
          refine gz_goto (pc := 79) (tgt := 30) dX5_partTold_79 (by decide) ?_
          refine ih (s + 1) (by omega) (by omega) _ (by omega) ?_
          rw [show (s + 1).toNat = s.toNat + 1 by omega, gz_sm_s, ← hn, Int.toNat_of_nonneg h0]
          show _ = n + gz_b _
          first
            | (rw [gz_b1 (P := (¬ I (30, 0, 0) s = -1 ∧ I (31, 0, 0) s = 1 ∧ gz_hpM I s p)) ⟨h46, by omega, gz_b_t (by omega)⟩])
            | (rw [gz_b0 (P := (¬ I (30, 0, 0) s = -1 ∧ I (31, 0, 0) s = 1 ∧ gz_hpM I s p)) (fun z => gz_b_f h66 z.2.2)])
            | (rw [gz_b0 (P := (¬ I (30, 0, 0) s = -1 ∧ I (31, 0, 0) s = 1 ∧ gz_hpM I s p)) (fun z => by have := z.2.1; omega)])
            | (rw [gz_b0 (P := (¬ I (30, 0, 0) s = -1 ∧ I (31, 0, 0) s = 1 ∧ gz_hpM I s p)) (fun z => z.1 h46)])
        · refine gz_iconst (pc := 69) dX5_partTold_69 ?_
          refine gz_goto (pc := 70) (tgt := 74) dX5_partTold_70 (by decide) ?_
          refine gz_iadd (pc := 74) dX5_partTold_74 ?_
          refine gz_istore_n (pc := 75) dX5_partTold_75 rfl rfl rfl ?_
          refine gz_iinc (pc := 76) dX5_partTold_76 rfl rfl rfl rfl ?_
          refine gz_goto (pc := 79) (tgt := 30) dX5_partTold_79 (by decide) ?_
          refine ih (s + 1) (by omega) (by omega) _ (by omega) ?_
          rw [show (s + 1).toNat = s.toNat + 1 by omega, gz_sm_s, ← hn, Int.toNat_of_nonneg h0]
          show _ = n + gz_b _
          first
            | (rw [gz_b1 (P := (¬ I (30, 0, 0) s = -1 ∧ I (31, 0, 0) s = 1 ∧ gz_hpM I s p)) ⟨h46, by omega, gz_b_t (by omega)⟩])
            | (rw [gz_b0 (P := (¬ I (30, 0, 0) s = -1 ∧ I (31, 0, 0) s = 1 ∧ gz_hpM I s p)) (fun z => gz_b_f h66 z.2.2)])
            | (rw [gz_b0 (P := (¬ I (30, 0, 0) s = -1 ∧ I (31, 0, 0) s = 1 ∧ gz_hpM I s p)) (fun z => by have := z.2.1; omega)])
            | (rw [gz_b0 (P := (¬ I (30, 0, 0) s = -1 ∧ I (31, 0, 0) s = 1 ∧ gz_hpM I s p)) (fun z => z.1 h46)])
set_option maxHeartbeats 4000000 in
set_option maxRecDepth 100000 in
theorem lp_X5_partTold4 (l : Launch) (D : va_G) (α : gz_P → Nat) (cA : Nat → ClassId) {I : gz_M} (hT : gz_T I) {p w : Int} (r_p : (-2147483648 ≤ p ∧ p ≤ 2147483647)) (r_w : (-2147483648 ≤ w ∧ w ≤ 2147483647)) : (0 ≤ p ∧ p < 120 ∧ 0 < I (24, 0, 0) p) → w = 4 → ∀ t, t ≤ 4 → ∀ n : Int, 0 ≤ t → n = gz_sm (fun t => I (28, 0, 0) (120 * t + p)) t.toNat → gz_V l D α cA RX5 cX5_partTold (some .int) 5 2 (gz_Qi fun x I' => I = I' ∧ (x = -2 ∧ (¬ (0 ≤ p ∧ p < 120 ∧ 0 < I (24, 0, 0) p) ∨ ¬ (0 ≤ w ∧ w ≤ 4)) ∨ (0 ≤ p ∧ p < 120 ∧ 0 < I (24, 0, 0) p) ∧ (w = 0 ∧ x = I (24, 0, 0) p ∨ w = 1 ∧ x = I (25, 0, 0) p ∨ w = 2 ∧ x = gz_sm (fun s => gz_b (¬ I (30, 0, 0) s = -1 ∧ I (31, 0, 0) s = 1 ∧ gz_hpM I s p)) 12 ∨ w = 3 ∧ x = 1 - gz_b (gz_snM I p) ∨ w = 4 ∧ x = gz_sm (fun t => I (28, 0, 0) (120 * t + p)) 4))) I [some (.ref (α (20, 0, 0))), some (gz_i (p)), some (gz_i (w)), some (gz_i (n)), some (gz_i (t))] [] 93 := by
  intro hp hw2
  refine gz_upto _ ?_
  intro t ht ih n h0 hn
  have e28 := gz_t28 hT 0 0 (120 * t + p)
  refine gz_iload (pc := 93) dX5_partTold_93 rfl ?_
  refine gz_iconst (pc := 95) dX5_partTold_95 ?_
  refine gz_icmp_ge (pc := 96) (tgt := 128) dX5_partTold_96 (by decide) (by omega) (by omega) (fun h96 => ?_) (fun h96 => ?_)
  · have hn2 : n = gz_sm (fun t => I (28, 0, 0) (120 * t + p)) 4 := by rw [hn, show t = 4 by omega]; rfl
    refine gz_iload_n (pc := 128) dX5_partTold_128 rfl ?_
    refine gz_if_ne (pc := 129) (tgt := 141) dX5_partTold_129 (by decide) (by omega) (fun h129 => ?_) (fun h129 => ?_)
    · refine gz_iload_n (pc := 141) dX5_partTold_141 rfl ?_
      refine gz_iconst (pc := 142) dX5_partTold_142 ?_
      refine gz_icmp_ne (pc := 143) (tgt := 155) dX5_partTold_143 (by decide) (by omega) (by omega) (fun h143 => ?_) (fun h143 => ?_)
      · refine gz_iload_n (pc := 155) dX5_partTold_155 rfl ?_
        refine gz_iconst (pc := 156) dX5_partTold_156 ?_
        refine gz_icmp_ne (pc := 157) (tgt := 176) dX5_partTold_157 (by decide) (by omega) (by omega) (fun h157 => ?_) (fun h157 => ?_)
        · refine gz_iload_n (pc := 176) dX5_partTold_176 rfl ?_
          refine gz_iret (pc := 177) dX5_partTold_177 rfl ?_
          first
            | exact ⟨rfl, Or.inr ⟨by omega, Or.inl ⟨by omega, rfl⟩⟩⟩
            | exact ⟨rfl, Or.inr ⟨by omega, Or.inr (Or.inl ⟨by omega, rfl⟩)⟩⟩
            | exact absurd hw2 (by omega)
            | exact ⟨rfl, Or.inr ⟨by omega, Or.inr (Or.inr (Or.inl ⟨hw2, hn2⟩))⟩⟩
            | exact ⟨rfl, Or.inr ⟨by omega, Or.inr (Or.inr (Or.inr (Or.inr (⟨hw2, hn2⟩))))⟩⟩
        · first | refine gz_aload_n (pc := 160) dX5_partTold_160 rfl ?_ | refine gz_aload_nN (pc := 160) dX5_partTold_160 rfl ?_
          refine gz_iload_n (pc := 161) dX5_partTold_161 rfl ?_
          refine gz_cV1i (pc := 162) dX5_partTold_162 wm_X5_97 my_X5_isBroken rfl rfl rfl (by first | exact gz_B1 | (omega)) (ct_X5_isBroken l D α cA hT (by omega)) (fun x162 I162 h162 => ?_)
          obtain ⟨rfl, ⟨rfl, hb⟩ | ⟨rfl, hb⟩⟩ := h162
          · refine gz_if_eq (pc := 165) (tgt := 172) dX5_partTold_165 (by decide) (by omega) (fun h165 => ?_) (fun h165 => ?_)
            · refine gz_iconst (pc := 172) dX5_partTold_172 ?_
              refine gz_goto (pc := 173) (tgt := 177) dX5_partTold_173 (by decide) ?_
              refine gz_iret (pc := 177) dX5_partTold_177 rfl ?_
              first
                | exact absurd h165 (by decide)
                | exact absurd rfl h165
                | exact ⟨rfl, Or.inr ⟨by omega, Or.inr (Or.inr (Or.inr (Or.inl ⟨by omega, by rw [gz_b0 hb]; rfl⟩)))⟩⟩
            · refine gz_iconst (pc := 168) dX5_partTold_168 ?_
              refine gz_goto (pc := 169) (tgt := 177) dX5_partTold_169 (by decide) ?_
              refine gz_iret (pc := 177) dX5_partTold_177 rfl ?_
              first
                | exact absurd h165 (by decide)
                | exact absurd rfl h165
                | exact ⟨rfl, Or.inr ⟨by omega, Or.inr (Or.inr (Or.inr (Or.inl ⟨by omega, by rw [gz_b0 hb]; rfl⟩)))⟩⟩
          · refine gz_if_eq (pc := 165) (tgt := 172) dX5_partTold_165 (by decide) (by omega) (fun h165 => ?_) (fun h165 => ?_)
            · refine gz_iconst (pc := 172) dX5_partTold_172 ?_
              refine gz_goto (pc := 173) (tgt := 177) dX5_partTold_173 (by decide) ?_
              refine gz_iret (pc := 177) dX5_partTold_177 rfl ?_
              first
                | exact absurd h165 (by decide)
                | exact absurd rfl h165
                | exact ⟨rfl, Or.inr ⟨by omega, Or.inr (Or.inr (Or.inr (Or.inl ⟨by omega, by rw [gz_b1 hb]; rfl⟩)))⟩⟩
            · refine gz_iconst (pc := 168) dX5_partTold_168 ?_
              refine gz_goto (pc := 169) (tgt := 177) dX5_partTold_169 (by decide) ?_
              refine gz_iret (pc := 177) dX5_partTold_177 rfl ?_
              first
                | exact absurd h165 (by decide)
                | exact absurd rfl h165
                | exact ⟨rfl, Or.inr ⟨by omega, Or.inr (Or.inr (Or.inr (Or.inl ⟨by omega, by rw [gz_b1 hb]; rfl⟩)))⟩⟩
      · first | refine gz_aload_n (pc := 146) dX5_partTold_146 rfl ?_ | refine gz_aload_nN (pc := 146) dX5_partTold_146 rfl ?_
        refine gz_getr (pc := 147) dX5_partTold_147 fl_X5_26 rfl rfl rfl (by first | exact gz_B1 | (omega)) ?_
        refine gz_iload_n (pc := 150) dX5_partTold_150 rfl ?_
        refine gz_iald (pc := 151) dX5_partTold_151 rfl rfl (by first | exact gz_B1 | (omega)) (by omega) ?_
        refine gz_goto (pc := 152) (tgt := 177) dX5_partTold_152 (by decide) ?_
        refine gz_iret (pc := 177) dX5_partTold_177 rfl ?_
        first
          | exact ⟨rfl, Or.inr ⟨by omega, Or.inl ⟨by omega, rfl⟩⟩⟩
          | exact ⟨rfl, Or.inr ⟨by omega, Or.inr (Or.inl ⟨by omega, rfl⟩)⟩⟩
          | exact absurd hw2 (by omega)
          | exact ⟨rfl, Or.inr ⟨by omega, Or.inr (Or.inr (Or.inl ⟨hw2, hn2⟩))⟩⟩
          | exact ⟨rfl, Or.inr ⟨by omega, Or.inr (Or.inr (Or.inr (Or.inr (⟨hw2, hn2⟩))))⟩⟩
    · first | refine gz_aload_n (pc := 132) dX5_partTold_132 rfl ?_ | refine gz_aload_nN (pc := 132) dX5_partTold_132 rfl ?_
      refine gz_getr (pc := 133) dX5_partTold_133 fl_X5_23 rfl rfl rfl (by first | exact gz_B1 | (omega)) ?_
      refine gz_iload_n (pc := 136) dX5_partTold_136 rfl ?_
      refine gz_iald (pc := 137) dX5_partTold_137 rfl rfl (by first | exact gz_B1 | (omega)) (by omega) ?_
      refine gz_goto (pc := 138) (tgt := 177) dX5_partTold_138 (by decide) ?_
      refine gz_iret (pc := 177) dX5_partTold_177 rfl ?_
      first
        | exact ⟨rfl, Or.inr ⟨by omega, Or.inl ⟨by omega, rfl⟩⟩⟩
        | exact ⟨rfl, Or.inr ⟨by omega, Or.inr (Or.inl ⟨by omega, rfl⟩)⟩⟩
        | exact absurd hw2 (by omega)
        | exact ⟨rfl, Or.inr ⟨by omega, Or.inr (Or.inr (Or.inl ⟨hw2, hn2⟩))⟩⟩
        | exact ⟨rfl, Or.inr ⟨by omega, Or.inr (Or.inr (Or.inr (Or.inr (⟨hw2, hn2⟩))))⟩⟩
  · refine gz_iload_n (pc := 99) dX5_partTold_99 rfl ?_
    first | refine gz_aload_n (pc := 100) dX5_partTold_100 rfl ?_ | refine gz_aload_nN (pc := 100) dX5_partTold_100 rfl ?_
    refine gz_getr (pc := 101) dX5_partTold_101 fl_X5_36 rfl rfl rfl (by first | exact gz_B1 | (omega)) ?_
    refine gz_bipush (pc := 104) dX5_partTold_104 rfl ?_
    refine gz_iload (pc := 106) dX5_partTold_106 rfl ?_
    refine gz_imul (pc := 108) dX5_partTold_108 ?_
    refine gz_iload_n (pc := 109) dX5_partTold_109 rfl ?_
    refine gz_iadd (pc := 110) dX5_partTold_110 ?_
    refine gz_zald (pc := 111) dX5_partTold_111 rfl rfl (by first | exact gz_B1 | (omega)) (by omega) ?_
    refine gz_if_eq (pc := 112) (tgt := 119) dX5_partTold_112 (by decide) (by omega) (fun h112 => ?_) (fun h112 => ?_)
    · refine gz_iconst (pc := 119) dX5_partTold_119 ?_
      refine gz_iadd (pc := 120) dX5_partTold_120 ?_
      refine gz_istore_n (pc := 121) dX5_partTold_121 rfl rfl rfl ?_
      refine gz_iinc (pc := 122) dX5_partTold_122 rfl rfl rfl rfl ?_
      refine gz_goto (pc := 125) (tgt := 93) dX5_partTold_125 (by decide) ?_
      refine ih (t + 1) (by omega) (by omega) _ (by omega) ?_
      rw [show (t + 1).toNat = t.toNat + 1 by omega, gz_sm_s, ← hn, Int.toNat_of_nonneg h0]
      show _ = n + I (28, 0, 0) (120 * t + p)
      omega
    · refine gz_iconst (pc := 115) dX5_partTold_115 ?_
      refine gz_goto (pc := 116) (tgt := 120) dX5_partTold_116 (by decide) ?_
      refine gz_iadd (pc := 120) dX5_partTold_120 ?_
      refine gz_istore_n (pc := 121) dX5_partTold_121 rfl rfl rfl ?_
      refine gz_iinc (pc := 122) dX5_partTold_122 rfl rfl rfl rfl ?_
      refine gz_goto (pc := 125) (tgt := 93) dX5_partTold_125 (by decide) ?_
      refine ih (t + 1) (by omega) (by omega) _ (by omega) ?_
      rw [show (t + 1).toNat = t.toNat + 1 by omega, gz_sm_s, ← hn, Int.toNat_of_nonneg h0]
      show _ = n + I (28, 0, 0) (120 * t + p)
      omega
set_option maxHeartbeats 4000000 in
set_option maxRecDepth 100000 in
theorem ct_X5_partTold (l : Launch) (D : va_G) (α : gz_P → Nat) (cA : Nat → ClassId) {I : gz_M} (hT : gz_T I) {p w : Int} (r_p : (-2147483648 ≤ p ∧ p ≤ 2147483647)) (r_w : (-2147483648 ≤ w ∧ w ≤ 2147483647)) : gz_V l D α cA RX5 cX5_partTold (some .int) 5 2 (gz_Qi fun x I' => I = I' ∧ (x = -2 ∧ (¬ (0 ≤ p ∧ p < 120 ∧ 0 < I (24, 0, 0) p) ∨ ¬ (0 ≤ w ∧ w ≤ 4)) ∨ (0 ≤ p ∧ p < 120 ∧ 0 < I (24, 0, 0) p) ∧ (w = 0 ∧ x = I (24, 0, 0) p ∨ w = 1 ∧ x = I (25, 0, 0) p ∨ w = 2 ∧ x = gz_sm (fun s => gz_b (¬ I (30, 0, 0) s = -1 ∧ I (31, 0, 0) s = 1 ∧ gz_hpM I s p)) 12 ∨ w = 3 ∧ x = 1 - gz_b (gz_snM I p) ∨ w = 4 ∧ x = gz_sm (fun t => I (28, 0, 0) (120 * t + p)) 4))) I [some (.ref (α (20, 0, 0))), some (gz_i (p)), some (gz_i (w)), none, none] [] 0 := by
  first | refine gz_aload_n (pc := 0) dX5_partTold_0 rfl ?_ | refine gz_aload_nN (pc := 0) dX5_partTold_0 rfl ?_
  refine gz_iload_n (pc := 1) dX5_partTold_1 rfl ?_
  refine gz_cV1i (pc := 2) dX5_partTold_2 wm_X5_90 my_X5_isPart rfl rfl rfl (by first | exact gz_B1 | (omega)) (ct_X5_isPart l D α cA hT r_p) (fun x2 I2 h2 => ?_)
  obtain ⟨rfl, hx2⟩ := h2
  refine gz_if_eq (pc := 5) (tgt := 17) dX5_partTold_5 (by decide) (by omega) (fun h5 => ?_) (fun h5 => ?_)
  · refine gz_bipush (pc := 17) dX5_partTold_17 rfl ?_
    refine gz_iret (pc := 19) dX5_partTold_19 rfl ?_
    exact ⟨rfl, Or.inl ⟨rfl, by omega⟩⟩
  · refine gz_iload_n (pc := 8) dX5_partTold_8 rfl ?_
    refine gz_iconst (pc := 9) dX5_partTold_9 ?_
    refine gz_iconst (pc := 10) dX5_partTold_10 ?_
    refine gz_cS3i (pc := 11) dX5_partTold_11 wm_X5_72 my_X5_in rfl rfl (ct_X5_in l D α cA r_w (by omega) (by omega)) (fun x11 I11 h11 => ?_)
    obtain ⟨rfl, hx11⟩ := h11
    have hxr11 : 0 ≤ x11 ∧ x11 ≤ 1 := by rcases hx11 with h | h <;> omega
    refine gz_if_ne (pc := 14) (tgt := 20) dX5_partTold_14 (by decide) (by omega) (fun h14 => ?_) (fun h14 => ?_)
    · refine gz_iconst (pc := 20) dX5_partTold_20 ?_
      refine gz_istore_n (pc := 21) dX5_partTold_21 rfl rfl rfl ?_
      refine gz_iload_n (pc := 22) dX5_partTold_22 rfl ?_
      refine gz_iconst (pc := 23) dX5_partTold_23 ?_
      refine gz_icmp_ne (pc := 24) (tgt := 85) dX5_partTold_24 (by decide) (by omega) (by omega) (fun h24 => ?_) (fun h24 => ?_)
      · refine gz_iload_n (pc := 85) dX5_partTold_85 rfl ?_
        refine gz_iconst (pc := 86) dX5_partTold_86 ?_
        refine gz_icmp_ne (pc := 87) (tgt := 128) dX5_partTold_87 (by decide) (by omega) (by omega) (fun h87 => ?_) (fun h87 => ?_)
        · refine gz_iload_n (pc := 128) dX5_partTold_128 rfl ?_
          refine gz_if_ne (pc := 129) (tgt := 141) dX5_partTold_129 (by decide) (by omega) (fun h129 => ?_) (fun h129 => ?_)
          · refine gz_iload_n (pc := 141) dX5_partTold_141 rfl ?_
            refine gz_iconst (pc := 142) dX5_partTold_142 ?_
            refine gz_icmp_ne (pc := 143) (tgt := 155) dX5_partTold_143 (by decide) (by omega) (by omega) (fun h143 => ?_) (fun h143 => ?_)
            · refine gz_iload_n (pc := 155) dX5_partTold_155 rfl ?_
              refine gz_iconst (pc := 156) dX5_partTold_156 ?_
              refine gz_icmp_ne (pc := 157) (tgt := 176) dX5_partTold_157 (by decide) (by omega) (by omega) (fun h157 => ?_) (fun h157 => ?_)
              · refine gz_iload_n (pc := 176) dX5_partTold_176 rfl ?_
                refine gz_iret (pc := 177) dX5_partTold_177 rfl ?_
                first
                  | exact ⟨rfl, Or.inr ⟨by omega, Or.inl ⟨by omega, rfl⟩⟩⟩
                  | exact ⟨rfl, Or.inr ⟨by omega, Or.inr (Or.inl ⟨by omega, rfl⟩)⟩⟩
                  | omega
              · first | refine gz_aload_n (pc := 160) dX5_partTold_160 rfl ?_ | refine gz_aload_nN (pc := 160) dX5_partTold_160 rfl ?_
                refine gz_iload_n (pc := 161) dX5_partTold_161 rfl ?_
                refine gz_cV1i (pc := 162) dX5_partTold_162 wm_X5_97 my_X5_isBroken rfl rfl rfl (by first | exact gz_B1 | (omega)) (ct_X5_isBroken l D α cA hT (by omega)) (fun x162 I162 h162 => ?_)
                obtain ⟨rfl, ⟨rfl, hb⟩ | ⟨rfl, hb⟩⟩ := h162
                · refine gz_if_eq (pc := 165) (tgt := 172) dX5_partTold_165 (by decide) (by omega) (fun h165 => ?_) (fun h165 => ?_)
                  · refine gz_iconst (pc := 172) dX5_partTold_172 ?_
                    refine gz_goto (pc := 173) (tgt := 177) dX5_partTold_173 (by decide) ?_
                    refine gz_iret (pc := 177) dX5_partTold_177 rfl ?_
                    first
                      | exact absurd h165 (by decide)
                      | exact absurd rfl h165
                      | exact ⟨rfl, Or.inr ⟨by omega, Or.inr (Or.inr (Or.inr (Or.inl ⟨by omega, by rw [gz_b0 hb]; rfl⟩)))⟩⟩
                  · refine gz_iconst (pc := 168) dX5_partTold_168 ?_
                    refine gz_goto (pc := 169) (tgt := 177) dX5_partTold_169 (by decide) ?_
                    refine gz_iret (pc := 177) dX5_partTold_177 rfl ?_
                    first
                      | exact absurd h165 (by decide)
                      | exact absurd rfl h165
                      | exact ⟨rfl, Or.inr ⟨by omega, Or.inr (Or.inr (Or.inr (Or.inl ⟨by omega, by rw [gz_b0 hb]; rfl⟩)))⟩⟩
                · refine gz_if_eq (pc := 165) (tgt := 172) dX5_partTold_165 (by decide) (by omega) (fun h165 => ?_) (fun h165 => ?_)
                  · refine gz_iconst (pc := 172) dX5_partTold_172 ?_
                    refine gz_goto (pc := 173) (tgt := 177) dX5_partTold_173 (by decide) ?_
                    refine gz_iret (pc := 177) dX5_partTold_177 rfl ?_
                    first
                      | exact absurd h165 (by decide)
                      | exact absurd rfl h165
                      | exact ⟨rfl, Or.inr ⟨by omega, Or.inr (Or.inr (Or.inr (Or.inl ⟨by omega, by rw [gz_b1 hb]; rfl⟩)))⟩⟩
                  · refine gz_iconst (pc := 168) dX5_partTold_168 ?_
                    refine gz_goto (pc := 169) (tgt := 177) dX5_partTold_169 (by decide) ?_
                    refine gz_iret (pc := 177) dX5_partTold_177 rfl ?_
                    first
                      | exact absurd h165 (by decide)
                      | exact absurd rfl h165
                      | exact ⟨rfl, Or.inr ⟨by omega, Or.inr (Or.inr (Or.inr (Or.inl ⟨by omega, by rw [gz_b1 hb]; rfl⟩)))⟩⟩
            · first | refine gz_aload_n (pc := 146) dX5_partTold_146 rfl ?_ | refine gz_aload_nN (pc := 146) dX5_partTold_146 rfl ?_
              refine gz_getr (pc := 147) dX5_partTold_147 fl_X5_26 rfl rfl rfl (by first | exact gz_B1 | (omega)) ?_
              refine gz_iload_n (pc := 150) dX5_partTold_150 rfl ?_
              refine gz_iald (pc := 151) dX5_partTold_151 rfl rfl (by first | exact gz_B1 | (omega)) (by omega) ?_
              refine gz_goto (pc := 152) (tgt := 177) dX5_partTold_152 (by decide) ?_
              refine gz_iret (pc := 177) dX5_partTold_177 rfl ?_
              first
                | exact ⟨rfl, Or.inr ⟨by omega, Or.inl ⟨by omega, rfl⟩⟩⟩
                | exact ⟨rfl, Or.inr ⟨by omega, Or.inr (Or.inl ⟨by omega, rfl⟩)⟩⟩
                | omega
          · first | refine gz_aload_n (pc := 132) dX5_partTold_132 rfl ?_ | refine gz_aload_nN (pc := 132) dX5_partTold_132 rfl ?_
            refine gz_getr (pc := 133) dX5_partTold_133 fl_X5_23 rfl rfl rfl (by first | exact gz_B1 | (omega)) ?_
            refine gz_iload_n (pc := 136) dX5_partTold_136 rfl ?_
            refine gz_iald (pc := 137) dX5_partTold_137 rfl rfl (by first | exact gz_B1 | (omega)) (by omega) ?_
            refine gz_goto (pc := 138) (tgt := 177) dX5_partTold_138 (by decide) ?_
            refine gz_iret (pc := 177) dX5_partTold_177 rfl ?_
            first
              | exact ⟨rfl, Or.inr ⟨by omega, Or.inl ⟨by omega, rfl⟩⟩⟩
              | exact ⟨rfl, Or.inr ⟨by omega, Or.inr (Or.inl ⟨by omega, rfl⟩)⟩⟩
              | omega
        · refine gz_iconst (pc := 90) dX5_partTold_90 ?_
          refine gz_istore (pc := 91) dX5_partTold_91 rfl rfl rfl ?_
          exact lp_X5_partTold4 l D α cA hT r_p r_w (by omega) h87 0 (by omega) 0 (by omega) rfl
      · refine gz_iconst (pc := 27) dX5_partTold_27 ?_
        refine gz_istore (pc := 28) dX5_partTold_28 rfl rfl rfl ?_
        exact lp_X5_partTold2 l D α cA hT r_p r_w (by omega) h24 0 (by omega) 0 (by omega) rfl
    · refine gz_bipush (pc := 17) dX5_partTold_17 rfl ?_
      refine gz_iret (pc := 19) dX5_partTold_19 rfl ?_
      exact ⟨rfl, Or.inl ⟨rfl, by omega⟩⟩
set_option maxHeartbeats 4000000 in
set_option maxRecDepth 100000 in
theorem lp_X5_told1 (l : Launch) (D : va_G) (α : gz_P → Nat) (cA : Nat → ClassId) {I : gz_M} (hT : gz_T I) {w : Int} (r_w : (-2147483648 ≤ w ∧ w ≤ 2147483647)) : w = 1 → ∀ k, k ≤ 12 → ∀ n : Int, 0 ≤ k → n = gz_sm (fun s => gz_b (¬ I (30, 0, 0) s = -1 ∧ I (31, 0, 0) s = 1)) k.toNat → gz_V l D α cA RX5 cX5_told (some .int) 4 1 (gz_Qi fun x I' => I = I' ∧ (x = -2 ∧ ¬ (0 ≤ w ∧ w ≤ 8) ∨ w = 0 ∧ x = I (20, 0, 0) 0 ∨ w = 1 ∧ x = gz_sm (fun s => gz_b (¬ I (30, 0, 0) s = -1 ∧ I (31, 0, 0) s = 1)) 12 ∨ w = 2 ∧ x = gz_hc I ∨ w = 3 ∧ x = gz_sm (fun p => if 0 < I (24, 0, 0) p then 1 else 0) 120 ∨ w = 4 ∧ x = gz_tot (gz_aM I) ∨ w = 5 ∧ x = I (20, 0, 0) 10 ∨ w = 6 ∧ x = gz_sm (fun p => gz_b (0 < I (24, 0, 0) p ∧ ¬ gz_snM I p)) 120 ∨ w = 7 ∧ x = gz_sm (fun k => I (28, 0, 0) k) 480 ∨ w = 8 ∧ x = gz_sm (fun t => I (21, 0, 0) t) (I (20, 0, 0) 0).toNat)) I [some (.ref (α (20, 0, 0))), some (gz_i (w)), some (gz_i (n)), some (gz_i (k))] [] 59 := by
  intro hw
  refine gz_upto _ ?_
  intro k hk ih n h0 hn
  have e30 := gz_t30 hT 0 0 k
  have e31 := gz_t31 hT 0 0 k
  refine gz_iload_n (pc := 59) dX5_told_59 rfl ?_
  refine gz_bipush (pc := 60) dX5_told_60 rfl ?_
  refine gz_icmp_ge (pc := 62) (tgt := 98) dX5_told_62 (by decide) (by omega) (by omega) (fun h62 => ?_) (fun h62 => ?_)
  · refine gz_iload_n (pc := 98) dX5_told_98 rfl ?_
    refine gz_iret (pc := 99) dX5_told_99 rfl ?_
    exact ⟨rfl, Or.inr (Or.inr (Or.inl ⟨hw, by rw [hn, show k = 12 by omega]; rfl⟩))⟩
  · refine gz_iload_n (pc := 65) dX5_told_65 rfl ?_
    first | refine gz_aload_n (pc := 66) dX5_told_66 rfl ?_ | refine gz_aload_nN (pc := 66) dX5_told_66 rfl ?_
    refine gz_getr (pc := 67) dX5_told_67 fl_X5_42 rfl rfl rfl (by first | exact gz_B1 | (omega)) ?_
    refine gz_iload_n (pc := 70) dX5_told_70 rfl ?_
    refine gz_iald (pc := 71) dX5_told_71 rfl rfl (by first | exact gz_B1 | (omega)) (by omega) ?_
    refine gz_iconst (pc := 72) dX5_told_72 ?_
    refine gz_icmp_eq (pc := 73) (tgt := 89) dX5_told_73 (by decide) (by omega) (by omega) (fun h73 => ?_) (fun h73 => ?_)
    · refine gz_iconst (pc := 89) dX5_told_89 ?_
      refine gz_iadd (pc := 90) dX5_told_90 ?_
      refine gz_istore_n (pc := 91) dX5_told_91 rfl rfl rfl ?_
      refine gz_iinc (pc := 92) dX5_told_92 rfl rfl rfl rfl ?_
      refine gz_goto (pc := 95) (tgt := 59) dX5_told_95 (by decide) ?_
      refine ih (k + 1) (by omega) (by omega) _ (by omega) ?_
      rw [show (k + 1).toNat = k.toNat + 1 by omega, gz_sm_s, ← hn, Int.toNat_of_nonneg h0]
      show _ = n + gz_b _
      first
        | (rw [gz_b1 (P := (¬ I (30, 0, 0) k = -1 ∧ I (31, 0, 0) k = 1)) ⟨h73, by omega⟩])
        | (rw [gz_b0 (P := (¬ I (30, 0, 0) k = -1 ∧ I (31, 0, 0) k = 1)) (fun z => z.1 h73)])
        | (rw [gz_b0 (P := (¬ I (30, 0, 0) k = -1 ∧ I (31, 0, 0) k = 1)) (fun z => by have := z.2; omega)])
    · first | refine gz_aload_n (pc := 76) dX5_told_76 rfl ?_ | refine gz_aload_nN (pc := 76) dX5_told_76 rfl ?_
      refine gz_getr (pc := 77) dX5_told_77 fl_X5_45 rfl rfl rfl (by first | exact gz_B1 | (omega)) ?_
      refine gz_iload_n (pc := 80) dX5_told_80 rfl ?_
      refine gz_zald (pc := 81) dX5_told_81 rfl rfl (by first | exact gz_B1 | (omega)) (by omega) ?_
      refine gz_if_eq (pc := 82) (tgt := 89) dX5_told_82 (by decide) (by omega) (fun h82 => ?_) (fun h82 => ?_)
      · refine gz_iconst (pc := 89) dX5_told_89 ?_
        refine gz_iadd (pc := 90) dX5_told_90 ?_
        refine gz_istore_n (pc := 91) dX5_told_91 rfl rfl rfl ?_
        refine gz_iinc (pc := 92) dX5_told_92 rfl rfl rfl rfl ?_
        refine gz_goto (pc := 95) (tgt := 59) dX5_told_95 (by decide) ?_
        refine ih (k + 1) (by omega) (by omega) _ (by omega) ?_
        rw [show (k + 1).toNat = k.toNat + 1 by omega, gz_sm_s, ← hn, Int.toNat_of_nonneg h0]
        show _ = n + gz_b _
        first
          | (rw [gz_b1 (P := (¬ I (30, 0, 0) k = -1 ∧ I (31, 0, 0) k = 1)) ⟨h73, by omega⟩])
          | (rw [gz_b0 (P := (¬ I (30, 0, 0) k = -1 ∧ I (31, 0, 0) k = 1)) (fun z => z.1 h73)])
          | (rw [gz_b0 (P := (¬ I (30, 0, 0) k = -1 ∧ I (31, 0, 0) k = 1)) (fun z => by have := z.2; omega)])
      · refine gz_iconst (pc := 85) dX5_told_85 ?_
        refine gz_goto (pc := 86) (tgt := 90) dX5_told_86 (by decide) ?_
        refine gz_iadd (pc := 90) dX5_told_90 ?_
        refine gz_istore_n (pc := 91) dX5_told_91 rfl rfl rfl ?_
        refine gz_iinc (pc := 92) dX5_told_92 rfl rfl rfl rfl ?_
        refine gz_goto (pc := 95) (tgt := 59) dX5_told_95 (by decide) ?_
        refine ih (k + 1) (by omega) (by omega) _ (by omega) ?_
        rw [show (k + 1).toNat = k.toNat + 1 by omega, gz_sm_s, ← hn, Int.toNat_of_nonneg h0]
        show _ = n + gz_b _
        first
          | (rw [gz_b1 (P := (¬ I (30, 0, 0) k = -1 ∧ I (31, 0, 0) k = 1)) ⟨h73, by omega⟩])
          | (rw [gz_b0 (P := (¬ I (30, 0, 0) k = -1 ∧ I (31, 0, 0) k = 1)) (fun z => z.1 h73)])
          | (rw [gz_b0 (P := (¬ I (30, 0, 0) k = -1 ∧ I (31, 0, 0) k = 1)) (fun z => by have := z.2; omega)])
set_option maxHeartbeats 4000000 in
set_option maxRecDepth 100000 in
theorem lp_X5_told3 (l : Launch) (D : va_G) (α : gz_P → Nat) (cA : Nat → ClassId) {I : gz_M} (hT : gz_T I) {w : Int} (r_w : (-2147483648 ≤ w ∧ w ≤ 2147483647)) : w = 3 → ∀ k, k ≤ 120 → ∀ n : Int, 0 ≤ k → n = gz_sm (fun p => if 0 < I (24, 0, 0) p then 1 else 0) k.toNat → gz_V l D α cA RX5 cX5_told (some .int) 4 1 (gz_Qi fun x I' => I = I' ∧ (x = -2 ∧ ¬ (0 ≤ w ∧ w ≤ 8) ∨ w = 0 ∧ x = I (20, 0, 0) 0 ∨ w = 1 ∧ x = gz_sm (fun s => gz_b (¬ I (30, 0, 0) s = -1 ∧ I (31, 0, 0) s = 1)) 12 ∨ w = 2 ∧ x = gz_hc I ∨ w = 3 ∧ x = gz_sm (fun p => if 0 < I (24, 0, 0) p then 1 else 0) 120 ∨ w = 4 ∧ x = gz_tot (gz_aM I) ∨ w = 5 ∧ x = I (20, 0, 0) 10 ∨ w = 6 ∧ x = gz_sm (fun p => gz_b (0 < I (24, 0, 0) p ∧ ¬ gz_snM I p)) 120 ∨ w = 7 ∧ x = gz_sm (fun k => I (28, 0, 0) k) 480 ∨ w = 8 ∧ x = gz_sm (fun t => I (21, 0, 0) t) (I (20, 0, 0) 0).toNat)) I [some (.ref (α (20, 0, 0))), some (gz_i (w)), some (gz_i (n)), some (gz_i (k))] [] 107 := by
  intro hw
  refine gz_upto _ ?_
  intro k hk ih n h0 hn
  have e24 := gz_t24 hT 0 0 k
  refine gz_iload_n (pc := 107) dX5_told_107 rfl ?_
  refine gz_bipush (pc := 108) dX5_told_108 rfl ?_
  refine gz_icmp_ge (pc := 110) (tgt := 136) dX5_told_110 (by decide) (by omega) (by omega) (fun h110 => ?_) (fun h110 => ?_)
  · refine gz_iload_n (pc := 136) dX5_told_136 rfl ?_
    refine gz_iret (pc := 137) dX5_told_137 rfl ?_
    exact ⟨rfl, Or.inr (Or.inr (Or.inr (Or.inr (Or.inl ⟨hw, by rw [hn, show k = 120 by omega]; rfl⟩))))⟩
  · refine gz_iload_n (pc := 113) dX5_told_113 rfl ?_
    first | refine gz_aload_n (pc := 114) dX5_told_114 rfl ?_ | refine gz_aload_nN (pc := 114) dX5_told_114 rfl ?_
    refine gz_getr (pc := 115) dX5_told_115 fl_X5_23 rfl rfl rfl (by first | exact gz_B1 | (omega)) ?_
    refine gz_iload_n (pc := 118) dX5_told_118 rfl ?_
    refine gz_iald (pc := 119) dX5_told_119 rfl rfl (by first | exact gz_B1 | (omega)) (by omega) ?_
    refine gz_if_le (pc := 120) (tgt := 127) dX5_told_120 (by decide) (by omega) (fun h120 => ?_) (fun h120 => ?_)
    · refine gz_iconst (pc := 127) dX5_told_127 ?_
      refine gz_iadd (pc := 128) dX5_told_128 ?_
      refine gz_istore_n (pc := 129) dX5_told_129 rfl rfl rfl ?_
      refine gz_iinc (pc := 130) dX5_told_130 rfl rfl rfl rfl ?_
      refine gz_goto (pc := 133) (tgt := 107) dX5_told_133 (by decide) ?_
      refine ih (k + 1) (by omega) (by omega) _ (by omega) ?_
      rw [show (k + 1).toNat = k.toNat + 1 by omega, gz_sm_s, ← hn, Int.toNat_of_nonneg h0]
      show _ = n + if 0 < I (24, 0, 0) k then 1 else 0
      first | rw [if_pos (by omega)] | rw [if_neg (by omega)]
    · refine gz_iconst (pc := 123) dX5_told_123 ?_
      refine gz_goto (pc := 124) (tgt := 128) dX5_told_124 (by decide) ?_
      refine gz_iadd (pc := 128) dX5_told_128 ?_
      refine gz_istore_n (pc := 129) dX5_told_129 rfl rfl rfl ?_
      refine gz_iinc (pc := 130) dX5_told_130 rfl rfl rfl rfl ?_
      refine gz_goto (pc := 133) (tgt := 107) dX5_told_133 (by decide) ?_
      refine ih (k + 1) (by omega) (by omega) _ (by omega) ?_
      rw [show (k + 1).toNat = k.toNat + 1 by omega, gz_sm_s, ← hn, Int.toNat_of_nonneg h0]
      show _ = n + if 0 < I (24, 0, 0) k then 1 else 0
      first | rw [if_pos (by omega)] | rw [if_neg (by omega)]
set_option maxHeartbeats 4000000 in
set_option maxRecDepth 100000 in
theorem lp_X5_told6 (l : Launch) (D : va_G) (α : gz_P → Nat) (cA : Nat → ClassId) {I : gz_M} (hT : gz_T I) {w : Int} (r_w : (-2147483648 ≤ w ∧ w ≤ 2147483647)) : w = 6 → ∀ k, k ≤ 120 → ∀ n : Int, 0 ≤ k → n = gz_sm (fun p => gz_b (0 < I (24, 0, 0) p ∧ ¬ gz_snM I p)) k.toNat → gz_V l D α cA RX5 cX5_told (some .int) 4 1 (gz_Qi fun x I' => I = I' ∧ (x = -2 ∧ ¬ (0 ≤ w ∧ w ≤ 8) ∨ w = 0 ∧ x = I (20, 0, 0) 0 ∨ w = 1 ∧ x = gz_sm (fun s => gz_b (¬ I (30, 0, 0) s = -1 ∧ I (31, 0, 0) s = 1)) 12 ∨ w = 2 ∧ x = gz_hc I ∨ w = 3 ∧ x = gz_sm (fun p => if 0 < I (24, 0, 0) p then 1 else 0) 120 ∨ w = 4 ∧ x = gz_tot (gz_aM I) ∨ w = 5 ∧ x = I (20, 0, 0) 10 ∨ w = 6 ∧ x = gz_sm (fun p => gz_b (0 < I (24, 0, 0) p ∧ ¬ gz_snM I p)) 120 ∨ w = 7 ∧ x = gz_sm (fun k => I (28, 0, 0) k) 480 ∨ w = 8 ∧ x = gz_sm (fun t => I (21, 0, 0) t) (I (20, 0, 0) 0).toNat)) I [some (.ref (α (20, 0, 0))), some (gz_i (w)), some (gz_i (n)), some (gz_i (k))] [] 150 := by
  intro hw
  refine gz_upto _ ?_
  intro k hk ih n h0 hn
  have e24 := gz_t24 hT 0 0 k
  refine gz_iload_n (pc := 150) dX5_told_150 rfl ?_
  refine gz_bipush (pc := 151) dX5_told_151 rfl ?_
  refine gz_icmp_ge (pc := 153) (tgt := 187) dX5_told_153 (by decide) (by omega) (by omega) (fun h153 => ?_) (fun h153 => ?_)
  · refine gz_iload_n (pc := 187) dX5_told_187 rfl ?_
    refine gz_iret (pc := 188) dX5_told_188 rfl ?_
    exact ⟨rfl, Or.inr (Or.inr (Or.inr (Or.inr (Or.inr (Or.inr (Or.inr (Or.inl ⟨hw, by rw [hn, show k = 120 by omega]; rfl⟩)))))))⟩
  · refine gz_iload_n (pc := 156) dX5_told_156 rfl ?_
    first | refine gz_aload_n (pc := 157) dX5_told_157 rfl ?_ | refine gz_aload_nN (pc := 157) dX5_told_157 rfl ?_
    refine gz_getr (pc := 158) dX5_told_158 fl_X5_23 rfl rfl rfl (by first | exact gz_B1 | (omega)) ?_
    refine gz_iload_n (pc := 161) dX5_told_161 rfl ?_
    refine gz_iald (pc := 162) dX5_told_162 rfl rfl (by first | exact gz_B1 | (omega)) (by omega) ?_
    refine gz_if_le (pc := 163) (tgt := 178) dX5_told_163 (by decide) (by omega) (fun h163 => ?_) (fun h163 => ?_)
    · refine gz_iconst (pc := 178) dX5_told_178 ?_
      refine gz_iadd (pc := 179) dX5_told_179 ?_
      refine gz_istore_n (pc := 180) dX5_told_180 rfl rfl rfl ?_
      refine gz_iinc (pc := 181) dX5_told_181 rfl rfl rfl rfl ?_
      refine gz_goto (pc := 184) (tgt := 150) dX5_told_184 (by decide) ?_
      refine ih (k + 1) (by omega) (by omega) _ (by omega) ?_
      rw [show (k + 1).toNat = k.toNat + 1 by omega, gz_sm_s, ← hn, Int.toNat_of_nonneg h0]
      show _ = n + gz_b _
      first
        | exact absurd rfl h171
        | exact absurd h171 (by decide)
        | (rw [gz_b1 (P := (0 < I (24, 0, 0) k ∧ ¬ gz_snM I k)) ⟨by omega, hb⟩])
        | (rw [gz_b0 (P := (0 < I (24, 0, 0) k ∧ ¬ gz_snM I k)) (fun z => z.2 hb)])
        | (rw [gz_b0 (P := (0 < I (24, 0, 0) k ∧ ¬ gz_snM I k)) (fun z => by have := z.1; omega)])
    · first | refine gz_aload_n (pc := 166) dX5_told_166 rfl ?_ | refine gz_aload_nN (pc := 166) dX5_told_166 rfl ?_
      refine gz_iload_n (pc := 167) dX5_told_167 rfl ?_
      refine gz_cV1i (pc := 168) dX5_told_168 wm_X5_97 my_X5_isBroken rfl rfl rfl (by first | exact gz_B1 | (omega)) (ct_X5_isBroken l D α cA hT (by omega)) (fun x168 I168 h168 => ?_)
      obtain ⟨rfl, ⟨rfl, hb⟩ | ⟨rfl, hb⟩⟩ := h168
      · refine gz_if_eq (pc := 171) (tgt := 178) dX5_told_171 (by decide) (by omega) (fun h171 => ?_) (fun h171 => ?_)
        · refine gz_iconst (pc := 178) dX5_told_178 ?_
          refine gz_iadd (pc := 179) dX5_told_179 ?_
          refine gz_istore_n (pc := 180) dX5_told_180 rfl rfl rfl ?_
          refine gz_iinc (pc := 181) dX5_told_181 rfl rfl rfl rfl ?_
          refine gz_goto (pc := 184) (tgt := 150) dX5_told_184 (by decide) ?_
          refine ih (k + 1) (by omega) (by omega) _ (by omega) ?_
          rw [show (k + 1).toNat = k.toNat + 1 by omega, gz_sm_s, ← hn, Int.toNat_of_nonneg h0]
          show _ = n + gz_b _
          first
            | exact absurd rfl h171
            | exact absurd h171 (by decide)
            | (rw [gz_b1 (P := (0 < I (24, 0, 0) k ∧ ¬ gz_snM I k)) ⟨by omega, hb⟩])
            | (rw [gz_b0 (P := (0 < I (24, 0, 0) k ∧ ¬ gz_snM I k)) (fun z => z.2 hb)])
            | (rw [gz_b0 (P := (0 < I (24, 0, 0) k ∧ ¬ gz_snM I k)) (fun z => by have := z.1; omega)])
        · refine gz_iconst (pc := 174) dX5_told_174 ?_
          refine gz_goto (pc := 175) (tgt := 179) dX5_told_175 (by decide) ?_
          refine gz_iadd (pc := 179) dX5_told_179 ?_
          refine gz_istore_n (pc := 180) dX5_told_180 rfl rfl rfl ?_
          refine gz_iinc (pc := 181) dX5_told_181 rfl rfl rfl rfl ?_
          refine gz_goto (pc := 184) (tgt := 150) dX5_told_184 (by decide) ?_
          refine ih (k + 1) (by omega) (by omega) _ (by omega) ?_
          rw [show (k + 1).toNat = k.toNat + 1 by omega, gz_sm_s, ← hn, Int.toNat_of_nonneg h0]
          show _ = n + gz_b _
          first
            | exact absurd rfl h171
            | exact absurd h171 (by decide)
            | (rw [gz_b1 (P := (0 < I (24, 0, 0) k ∧ ¬ gz_snM I k)) ⟨by omega, hb⟩])
            | (rw [gz_b0 (P := (0 < I (24, 0, 0) k ∧ ¬ gz_snM I k)) (fun z => z.2 hb)])
            | (rw [gz_b0 (P := (0 < I (24, 0, 0) k ∧ ¬ gz_snM I k)) (fun z => by have := z.1; omega)])
      · refine gz_if_eq (pc := 171) (tgt := 178) dX5_told_171 (by decide) (by omega) (fun h171 => ?_) (fun h171 => ?_)
        · refine gz_iconst (pc := 178) dX5_told_178 ?_
          refine gz_iadd (pc := 179) dX5_told_179 ?_
          refine gz_istore_n (pc := 180) dX5_told_180 rfl rfl rfl ?_
          refine gz_iinc (pc := 181) dX5_told_181 rfl rfl rfl rfl ?_
          refine gz_goto (pc := 184) (tgt := 150) dX5_told_184 (by decide) ?_
          refine ih (k + 1) (by omega) (by omega) _ (by omega) ?_
          rw [show (k + 1).toNat = k.toNat + 1 by omega, gz_sm_s, ← hn, Int.toNat_of_nonneg h0]
          show _ = n + gz_b _
          first
            | exact absurd rfl h171
            | exact absurd h171 (by decide)
            | (rw [gz_b1 (P := (0 < I (24, 0, 0) k ∧ ¬ gz_snM I k)) ⟨by omega, hb⟩])
            | (rw [gz_b0 (P := (0 < I (24, 0, 0) k ∧ ¬ gz_snM I k)) (fun z => z.2 hb)])
            | (rw [gz_b0 (P := (0 < I (24, 0, 0) k ∧ ¬ gz_snM I k)) (fun z => by have := z.1; omega)])
        · refine gz_iconst (pc := 174) dX5_told_174 ?_
          refine gz_goto (pc := 175) (tgt := 179) dX5_told_175 (by decide) ?_
          refine gz_iadd (pc := 179) dX5_told_179 ?_
          refine gz_istore_n (pc := 180) dX5_told_180 rfl rfl rfl ?_
          refine gz_iinc (pc := 181) dX5_told_181 rfl rfl rfl rfl ?_
          refine gz_goto (pc := 184) (tgt := 150) dX5_told_184 (by decide) ?_
          refine ih (k + 1) (by omega) (by omega) _ (by omega) ?_
          rw [show (k + 1).toNat = k.toNat + 1 by omega, gz_sm_s, ← hn, Int.toNat_of_nonneg h0]
          show _ = n + gz_b _
          first
            | exact absurd rfl h171
            | exact absurd h171 (by decide)
            | (rw [gz_b1 (P := (0 < I (24, 0, 0) k ∧ ¬ gz_snM I k)) ⟨by omega, hb⟩])
            | (rw [gz_b0 (P := (0 < I (24, 0, 0) k ∧ ¬ gz_snM I k)) (fun z => z.2 hb)])
            | (rw [gz_b0 (P := (0 < I (24, 0, 0) k ∧ ¬ gz_snM I k)) (fun z => by have := z.1; omega)])
set_option maxHeartbeats 4000000 in
set_option maxRecDepth 100000 in
theorem lp_X5_told7 (l : Launch) (D : va_G) (α : gz_P → Nat) (cA : Nat → ClassId) {I : gz_M} (hT : gz_T I) {w : Int} (r_w : (-2147483648 ≤ w ∧ w ≤ 2147483647)) : w = 7 → ∀ k, k ≤ 480 → ∀ n : Int, 0 ≤ k → n = gz_sm (fun k => I (28, 0, 0) k) k.toNat → gz_V l D α cA RX5 cX5_told (some .int) 4 1 (gz_Qi fun x I' => I = I' ∧ (x = -2 ∧ ¬ (0 ≤ w ∧ w ≤ 8) ∨ w = 0 ∧ x = I (20, 0, 0) 0 ∨ w = 1 ∧ x = gz_sm (fun s => gz_b (¬ I (30, 0, 0) s = -1 ∧ I (31, 0, 0) s = 1)) 12 ∨ w = 2 ∧ x = gz_hc I ∨ w = 3 ∧ x = gz_sm (fun p => if 0 < I (24, 0, 0) p then 1 else 0) 120 ∨ w = 4 ∧ x = gz_tot (gz_aM I) ∨ w = 5 ∧ x = I (20, 0, 0) 10 ∨ w = 6 ∧ x = gz_sm (fun p => gz_b (0 < I (24, 0, 0) p ∧ ¬ gz_snM I p)) 120 ∨ w = 7 ∧ x = gz_sm (fun k => I (28, 0, 0) k) 480 ∨ w = 8 ∧ x = gz_sm (fun t => I (21, 0, 0) t) (I (20, 0, 0) 0).toNat)) I [some (.ref (α (20, 0, 0))), some (gz_i (w)), some (gz_i (n)), some (gz_i (k))] [] 191 := by
  intro hw
  refine gz_upto _ ?_
  intro k hk ih n h0 hn
  have e28 := gz_t28 hT 0 0 k
  refine gz_iload_n (pc := 191) dX5_told_191 rfl ?_
  refine gz_sipush (pc := 192) dX5_told_192 rfl ?_
  refine gz_icmp_ge (pc := 195) (tgt := 221) dX5_told_195 (by decide) (by omega) (by omega) (fun h195 => ?_) (fun h195 => ?_)
  · refine gz_iload_n (pc := 221) dX5_told_221 rfl ?_
    refine gz_iret (pc := 222) dX5_told_222 rfl ?_
    exact ⟨rfl, Or.inr (Or.inr (Or.inr (Or.inr (Or.inr (Or.inr (Or.inr (Or.inr (Or.inl ⟨hw, by rw [hn, show k = 480 by omega]; rfl⟩))))))))⟩
  · refine gz_iload_n (pc := 198) dX5_told_198 rfl ?_
    first | refine gz_aload_n (pc := 199) dX5_told_199 rfl ?_ | refine gz_aload_nN (pc := 199) dX5_told_199 rfl ?_
    refine gz_getr (pc := 200) dX5_told_200 fl_X5_36 rfl rfl rfl (by first | exact gz_B1 | (omega)) ?_
    refine gz_iload_n (pc := 203) dX5_told_203 rfl ?_
    refine gz_zald (pc := 204) dX5_told_204 rfl rfl (by first | exact gz_B1 | (omega)) (by omega) ?_
    refine gz_if_eq (pc := 205) (tgt := 212) dX5_told_205 (by decide) (by omega) (fun h205 => ?_) (fun h205 => ?_)
    · refine gz_iconst (pc := 212) dX5_told_212 ?_
      refine gz_iadd (pc := 213) dX5_told_213 ?_
      refine gz_istore_n (pc := 214) dX5_told_214 rfl rfl rfl ?_
      refine gz_iinc (pc := 215) dX5_told_215 rfl rfl rfl rfl ?_
      refine gz_goto (pc := 218) (tgt := 191) dX5_told_218 (by decide) ?_
      refine ih (k + 1) (by omega) (by omega) _ (by omega) ?_
      rw [show (k + 1).toNat = k.toNat + 1 by omega, gz_sm_s, ← hn, Int.toNat_of_nonneg h0]
      show _ = n + I (28, 0, 0) k
      omega
    · refine gz_iconst (pc := 208) dX5_told_208 ?_
      refine gz_goto (pc := 209) (tgt := 213) dX5_told_209 (by decide) ?_
      refine gz_iadd (pc := 213) dX5_told_213 ?_
      refine gz_istore_n (pc := 214) dX5_told_214 rfl rfl rfl ?_
      refine gz_iinc (pc := 215) dX5_told_215 rfl rfl rfl rfl ?_
      refine gz_goto (pc := 218) (tgt := 191) dX5_told_218 (by decide) ?_
      refine ih (k + 1) (by omega) (by omega) _ (by omega) ?_
      rw [show (k + 1).toNat = k.toNat + 1 by omega, gz_sm_s, ← hn, Int.toNat_of_nonneg h0]
      show _ = n + I (28, 0, 0) k
      omega
set_option maxHeartbeats 4000000 in
set_option maxRecDepth 100000 in
theorem lp_X5_told8 (l : Launch) (D : va_G) (α : gz_P → Nat) (cA : Nat → ClassId) {I : gz_M} (hT : gz_T I) {w : Int} (r_w : (-2147483648 ≤ w ∧ w ≤ 2147483647)) : w = 8 → ∀ k, k ≤ I (20, 0, 0) 0 → ∀ n : Int, 0 ≤ k → n = gz_sm (fun t => I (21, 0, 0) t) k.toNat → gz_V l D α cA RX5 cX5_told (some .int) 4 1 (gz_Qi fun x I' => I = I' ∧ (x = -2 ∧ ¬ (0 ≤ w ∧ w ≤ 8) ∨ w = 0 ∧ x = I (20, 0, 0) 0 ∨ w = 1 ∧ x = gz_sm (fun s => gz_b (¬ I (30, 0, 0) s = -1 ∧ I (31, 0, 0) s = 1)) 12 ∨ w = 2 ∧ x = gz_hc I ∨ w = 3 ∧ x = gz_sm (fun p => if 0 < I (24, 0, 0) p then 1 else 0) 120 ∨ w = 4 ∧ x = gz_tot (gz_aM I) ∨ w = 5 ∧ x = I (20, 0, 0) 10 ∨ w = 6 ∧ x = gz_sm (fun p => gz_b (0 < I (24, 0, 0) p ∧ ¬ gz_snM I p)) 120 ∨ w = 7 ∧ x = gz_sm (fun k => I (28, 0, 0) k) 480 ∨ w = 8 ∧ x = gz_sm (fun t => I (21, 0, 0) t) (I (20, 0, 0) 0).toNat)) I [some (.ref (α (20, 0, 0))), some (gz_i (w)), some (gz_i (n)), some (gz_i (k))] [] 225 := by
  intro hw
  have e20 := gz_tM0 hT 0 0
  refine gz_upto _ ?_
  intro k hk ih n h0 hn
  refine gz_iload_n (pc := 225) dX5_told_225 rfl ?_
  first | refine gz_aload_n (pc := 226) dX5_told_226 rfl ?_ | refine gz_aload_nN (pc := 226) dX5_told_226 rfl ?_
  refine gz_getI (pc := 227) 0 dX5_told_227 fl_X5_7 rfl rfl rfl rfl (by first | exact gz_B1 | (omega)) ?_
  refine gz_icmp_ge (pc := 230) (tgt := 248) dX5_told_230 (by decide) (by omega) (by omega) (fun h230 => ?_) (fun h230 => ?_)
  · refine gz_iload_n (pc := 248) dX5_told_248 rfl ?_
    refine gz_iret (pc := 249) dX5_told_249 rfl ?_
    exact ⟨rfl, Or.inr (Or.inr (Or.inr (Or.inr (Or.inr (Or.inr (Or.inr (Or.inr (Or.inr (⟨hw, by rw [hn, show k = I (20, 0, 0) 0 by omega]⟩)))))))))⟩
  · refine gz_iload_n (pc := 233) dX5_told_233 rfl ?_
    first | refine gz_aload_n (pc := 234) dX5_told_234 rfl ?_ | refine gz_aload_nN (pc := 234) dX5_told_234 rfl ?_
    refine gz_getr (pc := 235) dX5_told_235 fl_X5_13 rfl rfl rfl (by first | exact gz_B1 | (omega)) ?_
    refine gz_iload_n (pc := 238) dX5_told_238 rfl ?_
    refine gz_iald (pc := 239) dX5_told_239 rfl rfl (by first | exact gz_B1 | (omega)) (by omega) ?_
    refine gz_iadd (pc := 240) dX5_told_240 ?_
    refine gz_istore_n (pc := 241) dX5_told_241 rfl rfl rfl ?_
    refine gz_iinc (pc := 242) dX5_told_242 rfl rfl rfl rfl ?_
    refine gz_goto (pc := 245) (tgt := 225) dX5_told_245 (by decide) ?_
    refine ih (k + 1) (by omega) (by omega) _ (by omega) ?_
    rw [show (k + 1).toNat = k.toNat + 1 by omega, gz_sm_s, ← hn, Int.toNat_of_nonneg h0]
set_option maxHeartbeats 4000000 in
set_option maxRecDepth 100000 in
theorem ct_X5_told (l : Launch) (D : va_G) (α : gz_P → Nat) (cA : Nat → ClassId) {I : gz_M} (hT : gz_T I) {w : Int} (r_w : (-2147483648 ≤ w ∧ w ≤ 2147483647)) : gz_V l D α cA RX5 cX5_told (some .int) 4 1 (gz_Qi fun x I' => I = I' ∧ (x = -2 ∧ ¬ (0 ≤ w ∧ w ≤ 8) ∨ w = 0 ∧ x = I (20, 0, 0) 0 ∨ w = 1 ∧ x = gz_sm (fun s => gz_b (¬ I (30, 0, 0) s = -1 ∧ I (31, 0, 0) s = 1)) 12 ∨ w = 2 ∧ x = gz_hc I ∨ w = 3 ∧ x = gz_sm (fun p => if 0 < I (24, 0, 0) p then 1 else 0) 120 ∨ w = 4 ∧ x = gz_tot (gz_aM I) ∨ w = 5 ∧ x = I (20, 0, 0) 10 ∨ w = 6 ∧ x = gz_sm (fun p => gz_b (0 < I (24, 0, 0) p ∧ ¬ gz_snM I p)) 120 ∨ w = 7 ∧ x = gz_sm (fun k => I (28, 0, 0) k) 480 ∨ w = 8 ∧ x = gz_sm (fun t => I (21, 0, 0) t) (I (20, 0, 0) 0).toNat)) I [some (.ref (α (20, 0, 0))), some (gz_i (w)), none, none] [] 0 := by
  refine gz_iconst (pc := 0) dX5_told_0 ?_
  refine gz_istore_n (pc := 1) dX5_told_1 rfl rfl rfl ?_
  refine gz_iload_n (pc := 2) dX5_told_2 rfl ?_
  by_cases hsw3 : w < 0 ∨ 8 < w
  · refine gz_swOut (pc := 3) (tgt := 250) dX5_told_3 (by decide) (by omega) hsw3 ?_
    refine gz_bipush (pc := 250) dX5_told_250 rfl ?_
    refine gz_iret (pc := 252) dX5_told_252 rfl ?_
    exact ⟨rfl, Or.inl ⟨rfl, by omega⟩⟩
  · have hsx3 : w = 0 ∨ w = 1 ∨ w = 2 ∨ w = 3 ∨ w = 4 ∨ w = 5 ∨ w = 6 ∨ w = 7 ∨ w = 8 := by omega
    rcases hsx3 with hsx3 | hsx3 | hsx3 | hsx3 | hsx3 | hsx3 | hsx3 | hsx3 | hsx3
    · refine gz_swIn (pc := 3) (off := 49) (tgt := 52) dX5_told_3 0 hsx3 (by decide) (by decide) (by decide) rfl (by decide) ?_
      first | refine gz_aload_n (pc := 52) dX5_told_52 rfl ?_ | refine gz_aload_nN (pc := 52) dX5_told_52 rfl ?_
      refine gz_getI (pc := 53) 0 dX5_told_53 fl_X5_7 rfl rfl rfl rfl (by first | exact gz_B1 | (omega)) ?_
      refine gz_iret (pc := 56) dX5_told_56 rfl ?_
      exact ⟨rfl, Or.inr (Or.inl ⟨hsx3, rfl⟩)⟩
    · refine gz_swIn (pc := 3) (off := 54) (tgt := 57) dX5_told_3 1 hsx3 (by decide) (by decide) (by decide) rfl (by decide) ?_
      refine gz_iconst (pc := 57) dX5_told_57 ?_
      refine gz_istore_n (pc := 58) dX5_told_58 rfl rfl rfl ?_
      exact lp_X5_told1 l D α cA hT r_w hsx3 0 (by omega) 0 (by omega) rfl
    · refine gz_swIn (pc := 3) (off := 97) (tgt := 100) dX5_told_3 2 hsx3 (by decide) (by decide) (by decide) rfl (by decide) ?_
      first | refine gz_aload_n (pc := 100) dX5_told_100 rfl ?_ | refine gz_aload_nN (pc := 100) dX5_told_100 rfl ?_
      refine gz_cV0i (pc := 101) dX5_told_101 wm_X5_118 my_X5_held rfl rfl rfl (by first | exact gz_B1 | (omega)) (ct_X5_held l D α cA hT) (fun x101 I101 h101 => ?_)
      obtain ⟨rfl, rfl⟩ := h101
      refine gz_iret (pc := 104) dX5_told_104 rfl ?_
      exact ⟨rfl, Or.inr (Or.inr (Or.inr (Or.inl ⟨hsx3, rfl⟩)))⟩
    · refine gz_swIn (pc := 3) (off := 102) (tgt := 105) dX5_told_3 3 hsx3 (by decide) (by decide) (by decide) rfl (by decide) ?_
      refine gz_iconst (pc := 105) dX5_told_105 ?_
      refine gz_istore_n (pc := 106) dX5_told_106 rfl rfl rfl ?_
      exact lp_X5_told3 l D α cA hT r_w hsx3 0 (by omega) 0 (by omega) rfl
    · refine gz_swIn (pc := 3) (off := 135) (tgt := 138) dX5_told_3 4 hsx3 (by decide) (by decide) (by decide) rfl (by decide) ?_
      first | refine gz_aload_n (pc := 138) dX5_told_138 rfl ?_ | refine gz_aload_nN (pc := 138) dX5_told_138 rfl ?_
      refine gz_cV0i (pc := 139) dX5_told_139 wm_X5_125 my_X5_allBytes rfl rfl rfl (by first | exact gz_B1 | (omega)) (ct_X5_allBytes l D α cA hT) (fun x139 I139 h139 => ?_)
      obtain ⟨rfl, rfl⟩ := h139
      refine gz_iret (pc := 142) dX5_told_142 rfl ?_
      exact ⟨rfl, Or.inr (Or.inr (Or.inr (Or.inr (Or.inr (Or.inl ⟨hsx3, gz_tot_M⟩)))))⟩
    · refine gz_swIn (pc := 3) (off := 140) (tgt := 143) dX5_told_3 5 hsx3 (by decide) (by decide) (by decide) rfl (by decide) ?_
      first | refine gz_aload_n (pc := 143) dX5_told_143 rfl ?_ | refine gz_aload_nN (pc := 143) dX5_told_143 rfl ?_
      refine gz_getI (pc := 144) 10 dX5_told_144 fl_X5_128 rfl rfl rfl rfl (by first | exact gz_B1 | (omega)) ?_
      refine gz_iret (pc := 147) dX5_told_147 rfl ?_
      exact ⟨rfl, Or.inr (Or.inr (Or.inr (Or.inr (Or.inr (Or.inr (Or.inl ⟨hsx3, rfl⟩))))))⟩
    · refine gz_swIn (pc := 3) (off := 145) (tgt := 148) dX5_told_3 6 hsx3 (by decide) (by decide) (by decide) rfl (by decide) ?_
      refine gz_iconst (pc := 148) dX5_told_148 ?_
      refine gz_istore_n (pc := 149) dX5_told_149 rfl rfl rfl ?_
      exact lp_X5_told6 l D α cA hT r_w hsx3 0 (by omega) 0 (by omega) rfl
    · refine gz_swIn (pc := 3) (off := 186) (tgt := 189) dX5_told_3 7 hsx3 (by decide) (by decide) (by decide) rfl (by decide) ?_
      refine gz_iconst (pc := 189) dX5_told_189 ?_
      refine gz_istore_n (pc := 190) dX5_told_190 rfl rfl rfl ?_
      exact lp_X5_told7 l D α cA hT r_w hsx3 0 (by omega) 0 (by omega) rfl
    · refine gz_swIn (pc := 3) (off := 220) (tgt := 223) dX5_told_3 8 hsx3 (by decide) (by decide) (by decide) rfl (by decide) ?_
      refine gz_iconst (pc := 223) dX5_told_223 ?_
      refine gz_istore_n (pc := 224) dX5_told_224 rfl rfl rfl ?_
      exact lp_X5_told8 l D α cA hT r_w hsx3 0 (by have := gz_tM0 hT 0 0; omega) 0 (by omega) rfl
