def gz_lM (I : gz_M) (s t : Int) : Int → Int := fun j => I (35, 0, 0) (80 * (4 * s + t) + j)
noncomputable def gz_tl (I : gz_M) (s u t : Int) : Int := I (34, 0, 0) (4 * s + t) - (if ¬ u = -1 ∧ t < I (33, 0, 0) u then gz_sh (gz_lM I s t) (I (34, 0, 0) (4 * s + t)) (gz_lM I u t) (I (34, 0, 0) (4 * u + t)) else 0)
set_option maxHeartbeats 4000000 in
set_option maxRecDepth 100000 in
theorem lp_X5_tells3 (l : Launch) (D : va_G) (α : gz_P → Nat) (cA : Nat → ClassId) {I : gz_M} (hT : gz_T I) {s u : Int} (hs : 0 ≤ s ∧ s < 12) (hu : -1 ≤ u ∧ u < 12) : ∀ t w, (0 ≤ t ∧ t < I (33, 0, 0) s) → (¬ u = -1 ∧ t < I (33, 0, 0) u) → (∀ o1 o2 o3 o4 o5 o6 : Option Value, gz_V l D α cA RX5 cX5_tells (some .int) 11 0 (gz_Qi fun x I' => I = I' ∧ x = gz_sm (gz_tl I s u) (I (33, 0, 0) s).toNat) I [some (.ref (α (20, 0, 0))), some (gz_i (s)), some (gz_i (u)), some (gz_i (w + gz_tl I s u t)), some (gz_i (t + 1)), o1, o2, o3, o4, o5, o6] [] 5) → ∀ e, e ≤ (if (I (34, 0, 0) (4 * u + t)) < (I (34, 0, 0) (4 * s + t)) then (I (34, 0, 0) (4 * u + t)) else (I (34, 0, 0) (4 * s + t))) - (gz_rn (fun j => (gz_lM I s t) j = (gz_lM I u t) j) (if (I (34, 0, 0) (4 * u + t)) < (I (34, 0, 0) (4 * s + t)) then (I (34, 0, 0) (4 * u + t)) else (I (34, 0, 0) (4 * s + t)))) → 0 ≤ e → (∀ j, 0 ≤ j → j < e → (gz_lM I s t) ((I (34, 0, 0) (4 * s + t)) - 1 - j) = (gz_lM I u t) ((I (34, 0, 0) (4 * u + t)) - 1 - j)) → gz_V l D α cA RX5 cX5_tells (some .int) 11 0 (gz_Qi fun x I' => I = I' ∧ x = gz_sm (gz_tl I s u) (I (33, 0, 0) s).toNat) I [some (.ref (α (20, 0, 0))), some (gz_i (s)), some (gz_i (u)), some (gz_i (w)), some (gz_i (t)), some (gz_i ((I (34, 0, 0) (4 * s + t)))), some (gz_i ((gz_rn (fun j => (gz_lM I s t) j = (gz_lM I u t) j) (if (I (34, 0, 0) (4 * u + t)) < (I (34, 0, 0) (4 * s + t)) then (I (34, 0, 0) (4 * u + t)) else (I (34, 0, 0) (4 * s + t)))))), some (gz_i ((I (34, 0, 0) (4 * u + t)))), some (gz_i (80 * (4 * s + t))), some (gz_i (80 * (4 * u + t))), some (gz_i (e))] [] 129 := by
  intro t w ht huv kk
  have e1 := gz_t34 hT 0 0 (4 * s + t)
  have e2 := gz_t34 hT 0 0 (4 * u + t)
  have e3 := gz_t33 hT 0 0 s
  have e4 := gz_t33 hT 0 0 u
  have hM0 : 0 ≤ (if (I (34, 0, 0) (4 * u + t)) < (I (34, 0, 0) (4 * s + t)) then (I (34, 0, 0) (4 * u + t)) else (I (34, 0, 0) (4 * s + t))) ∧ (if (I (34, 0, 0) (4 * u + t)) < (I (34, 0, 0) (4 * s + t)) then (I (34, 0, 0) (4 * u + t)) else (I (34, 0, 0) (4 * s + t))) ≤ (I (34, 0, 0) (4 * s + t)) ∧ (if (I (34, 0, 0) (4 * u + t)) < (I (34, 0, 0) (4 * s + t)) then (I (34, 0, 0) (4 * u + t)) else (I (34, 0, 0) (4 * s + t))) ≤ (I (34, 0, 0) (4 * u + t)) ∧ ((if (I (34, 0, 0) (4 * u + t)) < (I (34, 0, 0) (4 * s + t)) then (I (34, 0, 0) (4 * u + t)) else (I (34, 0, 0) (4 * s + t))) = (I (34, 0, 0) (4 * s + t)) ∨ (if (I (34, 0, 0) (4 * u + t)) < (I (34, 0, 0) (4 * s + t)) then (I (34, 0, 0) (4 * u + t)) else (I (34, 0, 0) (4 * s + t))) = (I (34, 0, 0) (4 * u + t))) := by split <;> omega
  have hR := gz_rn_in (P := fun j => (gz_lM I s t) j = (gz_lM I u t) j) (m := (if (I (34, 0, 0) (4 * u + t)) < (I (34, 0, 0) (4 * s + t)) then (I (34, 0, 0) (4 * u + t)) else (I (34, 0, 0) (4 * s + t)))) hM0.1
  refine gz_upto _ ?_
  intro e he ih h0 hj
  have i1 : 80 * (4 * s + t) + (I (34, 0, 0) (4 * s + t)) - 1 - e = 80 * (4 * s + t) + ((I (34, 0, 0) (4 * s + t)) - 1 - e) := by omega
  have i2 : 80 * (4 * u + t) + (I (34, 0, 0) (4 * u + t)) - 1 - e = 80 * (4 * u + t) + ((I (34, 0, 0) (4 * u + t)) - 1 - e) := by omega
  have b1 := gz_t35 hT 0 0 (80 * (4 * s + t) + (I (34, 0, 0) (4 * s + t)) - 1 - e)
  have b2 := gz_t35 hT 0 0 (80 * (4 * u + t) + (I (34, 0, 0) (4 * u + t)) - 1 - e)
  refine gz_iload (pc := 129) dX5_tells_129 rfl ?_
  refine gz_iload (pc := 131) dX5_tells_131 rfl ?_
  refine gz_iload (pc := 133) dX5_tells_133 rfl ?_
  refine gz_isub (pc := 135) dX5_tells_135 ?_
  refine gz_icmp_ge (pc := 136) (tgt := 188) dX5_tells_136 (by decide) (by omega) (by omega) (fun h136 => ?_) (fun h136 => ?_)
  · refine gz_iload (pc := 188) dX5_tells_188 rfl ?_
    refine gz_iload (pc := 190) dX5_tells_190 rfl ?_
    refine gz_iadd (pc := 192) dX5_tells_192 ?_
    refine gz_istore (pc := 193) dX5_tells_193 rfl rfl rfl ?_
    refine gz_iload_n (pc := 195) dX5_tells_195 rfl ?_
    refine gz_iload (pc := 196) dX5_tells_196 rfl ?_
    refine gz_iload (pc := 198) dX5_tells_198 rfl ?_
    refine gz_isub (pc := 200) dX5_tells_200 ?_
    refine gz_iadd (pc := 201) dX5_tells_201 ?_
    refine gz_istore_n (pc := 202) dX5_tells_202 rfl rfl rfl ?_
    refine gz_iinc (pc := 203) dX5_tells_203 rfl rfl rfl rfl ?_
    refine gz_goto (pc := 206) (tgt := 5) dX5_tells_206 (by decide) ?_
    have hsh : gz_sh (gz_lM I s t) (I (34, 0, 0) (4 * s + t)) (gz_lM I u t) (I (34, 0, 0) (4 * u + t)) = (gz_rn (fun j => (gz_lM I s t) j = (gz_lM I u t) j) (if (I (34, 0, 0) (4 * u + t)) < (I (34, 0, 0) (4 * s + t)) then (I (34, 0, 0) (4 * u + t)) else (I (34, 0, 0) (4 * s + t)))) + e := by
      unfold gz_sh
      rw [gz_rn_eq (P := fun j => (gz_lM I s t) ((I (34, 0, 0) (4 * s + t)) - 1 - j) = (gz_lM I u t) ((I (34, 0, 0) (4 * u + t)) - 1 - j)) (x := e) h0 (by omega) hj ?_]
      first
        | exact Or.inl (by omega)
        | (refine Or.inr (fun z => h179 ?_)
           have z2 : I (35, 0, 0) (80 * (4 * s + t) + ((I (34, 0, 0) (4 * s + t)) - 1 - e)) = I (35, 0, 0) (80 * (4 * u + t) + ((I (34, 0, 0) (4 * u + t)) - 1 - e)) := z
           rw [i1, i2]
           exact z2)
    have h9 := kk
    unfold gz_tl at h9
    rw [if_pos huv, hsh] at h9
    exact h9 _ _ _ _ _ _
  · refine gz_iload (pc := 139) dX5_tells_139 rfl ?_
    refine gz_iload (pc := 141) dX5_tells_141 rfl ?_
    refine gz_iload (pc := 143) dX5_tells_143 rfl ?_
    refine gz_isub (pc := 145) dX5_tells_145 ?_
    refine gz_icmp_ge (pc := 146) (tgt := 188) dX5_tells_146 (by decide) (by omega) (by omega) (fun h146 => ?_) (fun h146 => ?_)
    · refine gz_iload (pc := 188) dX5_tells_188 rfl ?_
      refine gz_iload (pc := 190) dX5_tells_190 rfl ?_
      refine gz_iadd (pc := 192) dX5_tells_192 ?_
      refine gz_istore (pc := 193) dX5_tells_193 rfl rfl rfl ?_
      refine gz_iload_n (pc := 195) dX5_tells_195 rfl ?_
      refine gz_iload (pc := 196) dX5_tells_196 rfl ?_
      refine gz_iload (pc := 198) dX5_tells_198 rfl ?_
      refine gz_isub (pc := 200) dX5_tells_200 ?_
      refine gz_iadd (pc := 201) dX5_tells_201 ?_
      refine gz_istore_n (pc := 202) dX5_tells_202 rfl rfl rfl ?_
      refine gz_iinc (pc := 203) dX5_tells_203 rfl rfl rfl rfl ?_
      refine gz_goto (pc := 206) (tgt := 5) dX5_tells_206 (by decide) ?_
      have hsh : gz_sh (gz_lM I s t) (I (34, 0, 0) (4 * s + t)) (gz_lM I u t) (I (34, 0, 0) (4 * u + t)) = (gz_rn (fun j => (gz_lM I s t) j = (gz_lM I u t) j) (if (I (34, 0, 0) (4 * u + t)) < (I (34, 0, 0) (4 * s + t)) then (I (34, 0, 0) (4 * u + t)) else (I (34, 0, 0) (4 * s + t)))) + e := by
        unfold gz_sh
        rw [gz_rn_eq (P := fun j => (gz_lM I s t) ((I (34, 0, 0) (4 * s + t)) - 1 - j) = (gz_lM I u t) ((I (34, 0, 0) (4 * u + t)) - 1 - j)) (x := e) h0 (by omega) hj ?_]
        first
          | exact Or.inl (by omega)
          | (refine Or.inr (fun z => h179 ?_)
             have z2 : I (35, 0, 0) (80 * (4 * s + t) + ((I (34, 0, 0) (4 * s + t)) - 1 - e)) = I (35, 0, 0) (80 * (4 * u + t) + ((I (34, 0, 0) (4 * u + t)) - 1 - e)) := z
             rw [i1, i2]
             exact z2)
      have h9 := kk
      unfold gz_tl at h9
      rw [if_pos huv, hsh] at h9
      exact h9 _ _ _ _ _ _
    · first | refine gz_aload_n (pc := 149) dX5_tells_149 rfl ?_ | refine gz_aload_nN (pc := 149) dX5_tells_149 rfl ?_
      refine gz_getr (pc := 150) dX5_tells_150 fl_X5_57 rfl rfl rfl (by first | exact gz_B1 | (omega)) ?_
      refine gz_iload (pc := 153) dX5_tells_153 rfl ?_
      refine gz_iload (pc := 155) dX5_tells_155 rfl ?_
      refine gz_iadd (pc := 157) dX5_tells_157 ?_
      refine gz_iconst (pc := 158) dX5_tells_158 ?_
      refine gz_isub (pc := 159) dX5_tells_159 ?_
      refine gz_iload (pc := 160) dX5_tells_160 rfl ?_
      refine gz_isub (pc := 162) dX5_tells_162 ?_
      refine gz_iald (pc := 163) dX5_tells_163 rfl rfl (by first | exact gz_B1 | (omega)) (by omega) ?_
      first | refine gz_aload_n (pc := 164) dX5_tells_164 rfl ?_ | refine gz_aload_nN (pc := 164) dX5_tells_164 rfl ?_
      refine gz_getr (pc := 165) dX5_tells_165 fl_X5_57 rfl rfl rfl (by first | exact gz_B1 | (omega)) ?_
      refine gz_iload (pc := 168) dX5_tells_168 rfl ?_
      refine gz_iload (pc := 170) dX5_tells_170 rfl ?_
      refine gz_iadd (pc := 172) dX5_tells_172 ?_
      refine gz_iconst (pc := 173) dX5_tells_173 ?_
      refine gz_isub (pc := 174) dX5_tells_174 ?_
      refine gz_iload (pc := 175) dX5_tells_175 rfl ?_
      refine gz_isub (pc := 177) dX5_tells_177 ?_
      refine gz_iald (pc := 178) dX5_tells_178 rfl rfl (by first | exact gz_B1 | (omega)) (by omega) ?_
      refine gz_icmp_ne (pc := 179) (tgt := 188) dX5_tells_179 (by decide) (by omega) (by omega) (fun h179 => ?_) (fun h179 => ?_)
      · refine gz_iload (pc := 188) dX5_tells_188 rfl ?_
        refine gz_iload (pc := 190) dX5_tells_190 rfl ?_
        refine gz_iadd (pc := 192) dX5_tells_192 ?_
        refine gz_istore (pc := 193) dX5_tells_193 rfl rfl rfl ?_
        refine gz_iload_n (pc := 195) dX5_tells_195 rfl ?_
        refine gz_iload (pc := 196) dX5_tells_196 rfl ?_
        refine gz_iload (pc := 198) dX5_tells_198 rfl ?_
        refine gz_isub (pc := 200) dX5_tells_200 ?_
        refine gz_iadd (pc := 201) dX5_tells_201 ?_
        refine gz_istore_n (pc := 202) dX5_tells_202 rfl rfl rfl ?_
        refine gz_iinc (pc := 203) dX5_tells_203 rfl rfl rfl rfl ?_
        refine gz_goto (pc := 206) (tgt := 5) dX5_tells_206 (by decide) ?_
        have hsh : gz_sh (gz_lM I s t) (I (34, 0, 0) (4 * s + t)) (gz_lM I u t) (I (34, 0, 0) (4 * u + t)) = (gz_rn (fun j => (gz_lM I s t) j = (gz_lM I u t) j) (if (I (34, 0, 0) (4 * u + t)) < (I (34, 0, 0) (4 * s + t)) then (I (34, 0, 0) (4 * u + t)) else (I (34, 0, 0) (4 * s + t)))) + e := by
          unfold gz_sh
          rw [gz_rn_eq (P := fun j => (gz_lM I s t) ((I (34, 0, 0) (4 * s + t)) - 1 - j) = (gz_lM I u t) ((I (34, 0, 0) (4 * u + t)) - 1 - j)) (x := e) h0 (by omega) hj ?_]
          first
            | exact Or.inl (by omega)
            | (refine Or.inr (fun z => h179 ?_)
               have z2 : I (35, 0, 0) (80 * (4 * s + t) + ((I (34, 0, 0) (4 * s + t)) - 1 - e)) = I (35, 0, 0) (80 * (4 * u + t) + ((I (34, 0, 0) (4 * u + t)) - 1 - e)) := z
               rw [i1, i2]
               exact z2)
        have h9 := kk
        unfold gz_tl at h9
        rw [if_pos huv, hsh] at h9
        exact h9 _ _ _ _ _ _
      · refine gz_iinc (pc := 182) dX5_tells_182 rfl rfl rfl rfl ?_
        refine gz_goto (pc := 185) (tgt := 129) dX5_tells_185 (by decide) ?_
        refine ih (e + 1) (by omega) (by omega) (by omega) (fun j a1 a2 => ?_)
        by_cases z : j = e
        · rw [z]
          show I (35, 0, 0) (80 * (4 * s + t) + ((I (34, 0, 0) (4 * s + t)) - 1 - e)) = I (35, 0, 0) (80 * (4 * u + t) + ((I (34, 0, 0) (4 * u + t)) - 1 - e))
          rw [← i1, ← i2]
          exact h179
        · exact hj j a1 (by omega)
set_option maxHeartbeats 4000000 in
set_option maxRecDepth 100000 in
theorem lp_X5_tells2 (l : Launch) (D : va_G) (α : gz_P → Nat) (cA : Nat → ClassId) {I : gz_M} (hT : gz_T I) {s u : Int} (hs : 0 ≤ s ∧ s < 12) (hu : -1 ≤ u ∧ u < 12) : ∀ t w, (0 ≤ t ∧ t < I (33, 0, 0) s) → (¬ u = -1 ∧ t < I (33, 0, 0) u) → (∀ o1 o2 o3 o4 o5 o6 : Option Value, gz_V l D α cA RX5 cX5_tells (some .int) 11 0 (gz_Qi fun x I' => I = I' ∧ x = gz_sm (gz_tl I s u) (I (33, 0, 0) s).toNat) I [some (.ref (α (20, 0, 0))), some (gz_i (s)), some (gz_i (u)), some (gz_i (w + gz_tl I s u t)), some (gz_i (t + 1)), o1, o2, o3, o4, o5, o6] [] 5) → ∀ k, k ≤ (if (I (34, 0, 0) (4 * u + t)) < (I (34, 0, 0) (4 * s + t)) then (I (34, 0, 0) (4 * u + t)) else (I (34, 0, 0) (4 * s + t))) → 0 ≤ k → (∀ j, 0 ≤ j → j < k → (gz_lM I s t) j = (gz_lM I u t) j) → ∀ o : Option Value, gz_V l D α cA RX5 cX5_tells (some .int) 11 0 (gz_Qi fun x I' => I = I' ∧ x = gz_sm (gz_tl I s u) (I (33, 0, 0) s).toNat) I [some (.ref (α (20, 0, 0))), some (gz_i (s)), some (gz_i (u)), some (gz_i (w)), some (gz_i (t)), some (gz_i ((I (34, 0, 0) (4 * s + t)))), some (gz_i (k)), some (gz_i ((I (34, 0, 0) (4 * u + t)))), some (gz_i (80 * (4 * s + t))), some (gz_i (80 * (4 * u + t))), o] [] 83 := by
  intro t w ht huv kk
  have e1 := gz_t34 hT 0 0 (4 * s + t)
  have e2 := gz_t34 hT 0 0 (4 * u + t)
  have e3 := gz_t33 hT 0 0 s
  have e4 := gz_t33 hT 0 0 u
  have hM0 : 0 ≤ (if (I (34, 0, 0) (4 * u + t)) < (I (34, 0, 0) (4 * s + t)) then (I (34, 0, 0) (4 * u + t)) else (I (34, 0, 0) (4 * s + t))) ∧ (if (I (34, 0, 0) (4 * u + t)) < (I (34, 0, 0) (4 * s + t)) then (I (34, 0, 0) (4 * u + t)) else (I (34, 0, 0) (4 * s + t))) ≤ (I (34, 0, 0) (4 * s + t)) ∧ (if (I (34, 0, 0) (4 * u + t)) < (I (34, 0, 0) (4 * s + t)) then (I (34, 0, 0) (4 * u + t)) else (I (34, 0, 0) (4 * s + t))) ≤ (I (34, 0, 0) (4 * u + t)) ∧ ((if (I (34, 0, 0) (4 * u + t)) < (I (34, 0, 0) (4 * s + t)) then (I (34, 0, 0) (4 * u + t)) else (I (34, 0, 0) (4 * s + t))) = (I (34, 0, 0) (4 * s + t)) ∨ (if (I (34, 0, 0) (4 * u + t)) < (I (34, 0, 0) (4 * s + t)) then (I (34, 0, 0) (4 * u + t)) else (I (34, 0, 0) (4 * s + t))) = (I (34, 0, 0) (4 * u + t))) := by split <;> omega
  have hR := gz_rn_in (P := fun j => (gz_lM I s t) j = (gz_lM I u t) j) (m := (if (I (34, 0, 0) (4 * u + t)) < (I (34, 0, 0) (4 * s + t)) then (I (34, 0, 0) (4 * u + t)) else (I (34, 0, 0) (4 * s + t)))) hM0.1
  refine gz_upto _ ?_
  intro k hk ih h0 hj o
  have b1 := gz_t35 hT 0 0 (80 * (4 * s + t) + k)
  have b2 := gz_t35 hT 0 0 (80 * (4 * u + t) + k)
  refine gz_iload (pc := 83) dX5_tells_83 rfl ?_
  refine gz_iload (pc := 85) dX5_tells_85 rfl ?_
  refine gz_icmp_ge (pc := 87) (tgt := 126) dX5_tells_87 (by decide) (by omega) (by omega) (fun h87 => ?_) (fun h87 => ?_)
  · refine gz_iconst (pc := 126) dX5_tells_126 ?_
    refine gz_istore (pc := 127) dX5_tells_127 rfl rfl rfl ?_
    have hrn : (gz_rn (fun j => (gz_lM I s t) j = (gz_lM I u t) j) (if (I (34, 0, 0) (4 * u + t)) < (I (34, 0, 0) (4 * s + t)) then (I (34, 0, 0) (4 * u + t)) else (I (34, 0, 0) (4 * s + t)))) = k := gz_rn_eq (P := fun j => (gz_lM I s t) j = (gz_lM I u t) j) h0 (by omega) hj (by
      first
        | exact Or.inl (by omega)
        | exact Or.inr (fun z => h117 z))
    have h9 := lp_X5_tells3 l D α cA hT hs hu t w ht huv kk 0 (by omega) (by omega) (fun j a1 a2 => by omega)
    rw [hrn] at h9
    exact h9
  · refine gz_iload (pc := 90) dX5_tells_90 rfl ?_
    refine gz_iload (pc := 92) dX5_tells_92 rfl ?_
    refine gz_icmp_ge (pc := 94) (tgt := 126) dX5_tells_94 (by decide) (by omega) (by omega) (fun h94 => ?_) (fun h94 => ?_)
    · refine gz_iconst (pc := 126) dX5_tells_126 ?_
      refine gz_istore (pc := 127) dX5_tells_127 rfl rfl rfl ?_
      have hrn : (gz_rn (fun j => (gz_lM I s t) j = (gz_lM I u t) j) (if (I (34, 0, 0) (4 * u + t)) < (I (34, 0, 0) (4 * s + t)) then (I (34, 0, 0) (4 * u + t)) else (I (34, 0, 0) (4 * s + t)))) = k := gz_rn_eq (P := fun j => (gz_lM I s t) j = (gz_lM I u t) j) h0 (by omega) hj (by
        first
          | exact Or.inl (by omega)
          | exact Or.inr (fun z => h117 z))
      have h9 := lp_X5_tells3 l D α cA hT hs hu t w ht huv kk 0 (by omega) (by omega) (fun j a1 a2 => by omega)
      rw [hrn] at h9
      exact h9
    · first | refine gz_aload_n (pc := 97) dX5_tells_97 rfl ?_ | refine gz_aload_nN (pc := 97) dX5_tells_97 rfl ?_
      refine gz_getr (pc := 98) dX5_tells_98 fl_X5_57 rfl rfl rfl (by first | exact gz_B1 | (omega)) ?_
      refine gz_iload (pc := 101) dX5_tells_101 rfl ?_
      refine gz_iload (pc := 103) dX5_tells_103 rfl ?_
      refine gz_iadd (pc := 105) dX5_tells_105 ?_
      refine gz_iald (pc := 106) dX5_tells_106 rfl rfl (by first | exact gz_B1 | (omega)) (by omega) ?_
      first | refine gz_aload_n (pc := 107) dX5_tells_107 rfl ?_ | refine gz_aload_nN (pc := 107) dX5_tells_107 rfl ?_
      refine gz_getr (pc := 108) dX5_tells_108 fl_X5_57 rfl rfl rfl (by first | exact gz_B1 | (omega)) ?_
      refine gz_iload (pc := 111) dX5_tells_111 rfl ?_
      refine gz_iload (pc := 113) dX5_tells_113 rfl ?_
      refine gz_iadd (pc := 115) dX5_tells_115 ?_
      refine gz_iald (pc := 116) dX5_tells_116 rfl rfl (by first | exact gz_B1 | (omega)) (by omega) ?_
      refine gz_icmp_ne (pc := 117) (tgt := 126) dX5_tells_117 (by decide) (by omega) (by omega) (fun h117 => ?_) (fun h117 => ?_)
      · refine gz_iconst (pc := 126) dX5_tells_126 ?_
        refine gz_istore (pc := 127) dX5_tells_127 rfl rfl rfl ?_
        have hrn : (gz_rn (fun j => (gz_lM I s t) j = (gz_lM I u t) j) (if (I (34, 0, 0) (4 * u + t)) < (I (34, 0, 0) (4 * s + t)) then (I (34, 0, 0) (4 * u + t)) else (I (34, 0, 0) (4 * s + t)))) = k := gz_rn_eq (P := fun j => (gz_lM I s t) j = (gz_lM I u t) j) h0 (by omega) hj (by
          first
            | exact Or.inl (by omega)
            | exact Or.inr (fun z => h117 z))
        have h9 := lp_X5_tells3 l D α cA hT hs hu t w ht huv kk 0 (by omega) (by omega) (fun j a1 a2 => by omega)
        rw [hrn] at h9
        exact h9
      · refine gz_iinc (pc := 120) dX5_tells_120 rfl rfl rfl rfl ?_
        refine gz_goto (pc := 123) (tgt := 83) dX5_tells_123 (by decide) ?_
        refine ih (k + 1) (by omega) (by omega) (by omega) (fun j a1 a2 => ?_) _
        by_cases z : j = k
        · rw [z]; exact h117
        · exact hj j a1 (by omega)
set_option maxHeartbeats 4000000 in
set_option maxRecDepth 100000 in
theorem lp_X5_tells (l : Launch) (D : va_G) (α : gz_P → Nat) (cA : Nat → ClassId) {I : gz_M} (hT : gz_T I) {s u : Int} (hs : 0 ≤ s ∧ s < 12) (hu : -1 ≤ u ∧ u < 12) : ∀ t, t ≤ I (33, 0, 0) s → 0 ≤ t → ∀ w, w = gz_sm (gz_tl I s u) t.toNat → ∀ o1 o2 o3 o4 o5 o6 : Option Value, gz_V l D α cA RX5 cX5_tells (some .int) 11 0 (gz_Qi fun x I' => I = I' ∧ x = gz_sm (gz_tl I s u) (I (33, 0, 0) s).toNat) I [some (.ref (α (20, 0, 0))), some (gz_i (s)), some (gz_i (u)), some (gz_i (w)), some (gz_i (t)), o1, o2, o3, o4, o5, o6] [] 5 := by
  have e3 := gz_t33 hT 0 0 s
  have e4 := gz_t33 hT 0 0 u
  refine gz_upto _ ?_
  intro t ht ih h0 w hw o1 o2 o3 o4 o5 o6
  refine gz_iload (pc := 5) dX5_tells_5 rfl ?_
  first | refine gz_aload_n (pc := 7) dX5_tells_7 rfl ?_ | refine gz_aload_nN (pc := 7) dX5_tells_7 rfl ?_
  refine gz_getr (pc := 8) dX5_tells_8 fl_X5_51 rfl rfl rfl (by first | exact gz_B1 | (omega)) ?_
  refine gz_iload_n (pc := 11) dX5_tells_11 rfl ?_
  refine gz_iald (pc := 12) dX5_tells_12 rfl rfl (by first | exact gz_B1 | (omega)) (by omega) ?_
  refine gz_icmp_ge (pc := 13) (tgt := 209) dX5_tells_13 (by decide) (by omega) (by omega) (fun h13 => ?_) (fun h13 => ?_)
  · refine gz_iload_n (pc := 209) dX5_tells_209 rfl ?_
    refine gz_iret (pc := 210) dX5_tells_210 rfl ?_
    exact ⟨rfl, by rw [hw, show t = I (33, 0, 0) s by omega]⟩
  · first | refine gz_aload_n (pc := 16) dX5_tells_16 rfl ?_ | refine gz_aload_nN (pc := 16) dX5_tells_16 rfl ?_
    refine gz_getr (pc := 17) dX5_tells_17 fl_X5_54 rfl rfl rfl (by first | exact gz_B1 | (omega)) ?_
    refine gz_iconst (pc := 20) dX5_tells_20 ?_
    refine gz_iload_n (pc := 21) dX5_tells_21 rfl ?_
    refine gz_imul (pc := 22) dX5_tells_22 ?_
    refine gz_iload (pc := 23) dX5_tells_23 rfl ?_
    refine gz_iadd (pc := 25) dX5_tells_25 ?_
    refine gz_iald (pc := 26) dX5_tells_26 rfl rfl (by first | exact gz_B1 | (omega)) (by omega) ?_
    refine gz_istore (pc := 27) dX5_tells_27 rfl rfl rfl ?_
    refine gz_iconst (pc := 29) dX5_tells_29 ?_
    refine gz_istore (pc := 30) dX5_tells_30 rfl rfl rfl ?_
    refine gz_iload_n (pc := 32) dX5_tells_32 rfl ?_
    refine gz_iconst (pc := 33) dX5_tells_33 ?_
    refine gz_icmp_eq (pc := 34) (tgt := 195) dX5_tells_34 (by decide) (by omega) (by omega) (fun h34 => ?_) (fun h34 => ?_)
    · refine gz_iload_n (pc := 195) dX5_tells_195 rfl ?_
      refine gz_iload (pc := 196) dX5_tells_196 rfl ?_
      refine gz_iload (pc := 198) dX5_tells_198 rfl ?_
      refine gz_isub (pc := 200) dX5_tells_200 ?_
      refine gz_iadd (pc := 201) dX5_tells_201 ?_
      refine gz_istore_n (pc := 202) dX5_tells_202 rfl rfl rfl ?_
      refine gz_iinc (pc := 203) dX5_tells_203 rfl rfl rfl rfl ?_
      refine gz_goto (pc := 206) (tgt := 5) dX5_tells_206 (by decide) ?_
      have hsm : w + gz_tl I s u t = gz_sm (gz_tl I s u) (t + 1).toNat := by rw [show (t + 1).toNat = t.toNat + 1 by omega, gz_sm_s, ← hw, Int.toNat_of_nonneg h0]
      have h9 := ih (t + 1) (by omega) (by omega) (by omega) _ hsm
      unfold gz_tl at h9
      rw [if_neg (by omega)] at h9
      exact h9 _ _ _ _ _ _
    · refine gz_iload (pc := 37) dX5_tells_37 rfl ?_
      first | refine gz_aload_n (pc := 39) dX5_tells_39 rfl ?_ | refine gz_aload_nN (pc := 39) dX5_tells_39 rfl ?_
      refine gz_getr (pc := 40) dX5_tells_40 fl_X5_51 rfl rfl rfl (by first | exact gz_B1 | (omega)) ?_
      refine gz_iload_n (pc := 43) dX5_tells_43 rfl ?_
      refine gz_iald (pc := 44) dX5_tells_44 rfl rfl (by first | exact gz_B1 | (omega)) (by omega) ?_
      refine gz_icmp_ge (pc := 45) (tgt := 195) dX5_tells_45 (by decide) (by omega) (by omega) (fun h45 => ?_) (fun h45 => ?_)
      · refine gz_iload_n (pc := 195) dX5_tells_195 rfl ?_
        refine gz_iload (pc := 196) dX5_tells_196 rfl ?_
        refine gz_iload (pc := 198) dX5_tells_198 rfl ?_
        refine gz_isub (pc := 200) dX5_tells_200 ?_
        refine gz_iadd (pc := 201) dX5_tells_201 ?_
        refine gz_istore_n (pc := 202) dX5_tells_202 rfl rfl rfl ?_
        refine gz_iinc (pc := 203) dX5_tells_203 rfl rfl rfl rfl ?_
        refine gz_goto (pc := 206) (tgt := 5) dX5_tells_206 (by decide) ?_
        have hsm : w + gz_tl I s u t = gz_sm (gz_tl I s u) (t + 1).toNat := by rw [show (t + 1).toNat = t.toNat + 1 by omega, gz_sm_s, ← hw, Int.toNat_of_nonneg h0]
        have h9 := ih (t + 1) (by omega) (by omega) (by omega) _ hsm
        unfold gz_tl at h9
        rw [if_neg (by omega)] at h9
        exact h9 _ _ _ _ _ _
      · first | refine gz_aload_n (pc := 48) dX5_tells_48 rfl ?_ | refine gz_aload_nN (pc := 48) dX5_tells_48 rfl ?_
        refine gz_getr (pc := 49) dX5_tells_49 fl_X5_54 rfl rfl rfl (by first | exact gz_B1 | (omega)) ?_
        refine gz_iconst (pc := 52) dX5_tells_52 ?_
        refine gz_iload_n (pc := 53) dX5_tells_53 rfl ?_
        refine gz_imul (pc := 54) dX5_tells_54 ?_
        refine gz_iload (pc := 55) dX5_tells_55 rfl ?_
        refine gz_iadd (pc := 57) dX5_tells_57 ?_
        refine gz_iald (pc := 58) dX5_tells_58 rfl rfl (by first | exact gz_B1 | (omega)) (by omega) ?_
        refine gz_istore (pc := 59) dX5_tells_59 rfl rfl rfl ?_
        refine gz_bipush (pc := 61) dX5_tells_61 rfl ?_
        refine gz_iconst (pc := 63) dX5_tells_63 ?_
        refine gz_iload_n (pc := 64) dX5_tells_64 rfl ?_
        refine gz_imul (pc := 65) dX5_tells_65 ?_
        refine gz_iload (pc := 66) dX5_tells_66 rfl ?_
        refine gz_iadd (pc := 68) dX5_tells_68 ?_
        refine gz_imul (pc := 69) dX5_tells_69 ?_
        refine gz_istore (pc := 70) dX5_tells_70 rfl rfl rfl ?_
        refine gz_bipush (pc := 72) dX5_tells_72 rfl ?_
        refine gz_iconst (pc := 74) dX5_tells_74 ?_
        refine gz_iload_n (pc := 75) dX5_tells_75 rfl ?_
        refine gz_imul (pc := 76) dX5_tells_76 ?_
        refine gz_iload (pc := 77) dX5_tells_77 rfl ?_
        refine gz_iadd (pc := 79) dX5_tells_79 ?_
        refine gz_imul (pc := 80) dX5_tells_80 ?_
        refine gz_istore (pc := 81) dX5_tells_81 rfl rfl rfl ?_
        have hsm : w + gz_tl I s u t = gz_sm (gz_tl I s u) (t + 1).toNat := by rw [show (t + 1).toNat = t.toNat + 1 by omega, gz_sm_s, ← hw, Int.toNat_of_nonneg h0]
        exact lp_X5_tells2 l D α cA hT hs hu t w (by omega) ⟨by omega, by omega⟩ (fun o1 o2 o3 o4 o5 o6 => ih (t + 1) (by omega) (by omega) (by omega) _ hsm _ _ _ _ _ _) 0 (by have := gz_t34 hT 0 0 (4 * s + t); have := gz_t34 hT 0 0 (4 * u + t); split <;> omega) (by omega) (fun j a1 a2 => by omega) _
set_option maxHeartbeats 4000000 in
set_option maxRecDepth 100000 in
theorem ct_X5_tells (l : Launch) (D : va_G) (α : gz_P → Nat) (cA : Nat → ClassId) {I : gz_M} (hT : gz_T I) {s u : Int} (hs : 0 ≤ s ∧ s < 12) (hu : -1 ≤ u ∧ u < 12) : gz_V l D α cA RX5 cX5_tells (some .int) 11 0 (gz_Qi fun x I' => I = I' ∧ x = gz_sm (gz_tl I s u) (I (33, 0, 0) s).toNat) I [some (.ref (α (20, 0, 0))), some (gz_i (s)), some (gz_i (u)), none, none, none, none, none, none, none, none] [] 0 := by
  refine gz_iconst (pc := 0) dX5_tells_0 ?_
  refine gz_istore_n (pc := 1) dX5_tells_1 rfl rfl rfl ?_
  refine gz_iconst (pc := 2) dX5_tells_2 ?_
  refine gz_istore (pc := 3) dX5_tells_3 rfl rfl rfl ?_
  exact lp_X5_tells l D α cA hT hs hu 0 (by have := gz_t33 hT 0 0 s; omega) (by omega) 0 rfl _ _ _ _ _ _
