def gn_R (c : ClassId) (N : Nat) (f : Nat → Option Nat) : va_E := .inl (c, N, .inr (.inr (.inr (.inr f))))
theorem gn_outer (c : ClassId) (N h0 : Nat) : ∀ i : Nat, Jvm.Free.Multi.outerC c N h0 i = arrV c N (fun j => va_rf (if j < i then some (h0 + 1 + j) else none))
  | 0 => by
    show ({ cls := c, slots := Array.replicate N .null, vm := .none } : Cell) = _
    rw [arrV_new]
    refine congrArg (arrV c N) (funext fun j => ?_)
    simp [va_rf]
  | i + 1 => by
    show (Jvm.Free.Multi.outerC c N h0 i).setSlot i (.ref (h0 + 1 + i)) = _
    rw [gn_outer c N h0 i, arrV_store]
    refine congrArg (arrV c N) (funext fun j => ?_)
    by_cases e : j = i
    · subst e
      simp [updV, va_rf]
    · by_cases h : j < i
      · simp [updV, e, h, Nat.lt_succ_of_lt h]
      · simp [updV, e, h, show ¬ j < i + 1 by omega]
theorem gn_arrV {c : ClassId} {N : Nat} {f g : Nat → Option Nat} (hfg : ∀ j, j < N → f j = g j) : arrV c N (fun j => va_rf (f j)) = arrV c N (fun j => va_rf (g j)) := by
  unfold arrV
  congr 1
  apply Array.ext
  · simp
  · intro i h1 h2
    simp only [Array.getElem_map, Array.getElem_range, Array.getElem_ofFn]
    rw [hfg i (by simpa using h1)]
set_option maxHeartbeats 4000000 in
set_option maxRecDepth 100000 in
theorem gn_mna {l : Launch} {D : va_G} {cA : Nat → ClassId} {h : Nat} {own : String} {cc : ByteArray} {ret : Option FieldType} {nL d : Nat} {ini : Bool} {Z : Nat → (Nat → va_E) → List (Option Value) → List Value → Nat → Prop} {mc ms n : Nat} {E : Nat → va_E} {L : List (Option Value)} {st : List Value} {pc idx mc' ms' : Nat} {f : Nat → Option Nat} (hd : decode cc pc = .ok (.multianewarray idx 2, 4)) (w1 : Cond.classLink own idx "[[I" ∈ gz_ts) (hE0 : E n = gn_R (cA 5) 4 f) (hf : ∀ i, i < 4 → f i = some (h + (n + 1 + i))) (hE1 : ∀ j, j < 4 → E (n + 1 + j) = gn_I (cA 0) 75) (hmc : 5 + mc' = mc) (hms : 304 + ms' = ms) (k : gn_V l D cA h own cc ret nL d ini Z mc' ms' (n + 5) E L (.ref (h + n) :: st) (pc + 4)) : gn_V l D cA h own cc ret nL d ini Z mc ms n E L (gz_i 75 :: gz_i 4 :: st) pc := by
  subst hmc
  subst hms
  intro p e R s m args below meth c H locs ls cells slots QQ C hm hs hsz hP hS hl hQ
  obtain ⟨hx, hb, hret, hml, hown, hts, hK, hZ, hfr, hlo, hh, hin⟩ := id C
  have e4 : (Int32.ofInt 4).toNatClampNeg = 4 := by decide
  have e75 : (Int32.ofInt 75).toNatClampNeg = 75 := by decide
  have hG : s.vm.findClass ("[" ++ (FieldType.array .int).toString) = some (cA 5) := (hK.2 5 _ rfl).2
  have hI : s.vm.findClass (FieldType.array .int).toString = some (cA 0) := (hK.2 0 _ rfl).2
  intro T hT X
  obtain ⟨vm₁, c9, comp, -, fA, fC, -, -, X', step⟩ := X.multianewarray2F hx hown (hts _ w1) (over_moved (Vm.Alike.refl _) hZ.1.2.2.2) (hts _ wa_int) (g := F0 m pc ls (gz_i 75 :: gz_i 4 :: st)) rfl (by rw [hb]; exact hd) rfl (by decide) (by decide) (by decide) (by decide) (by decide) rfl rfl (by rw [e4]; omega) (by rw [e4, e75]; omega)
  have ec : c9 = cA 5 := Option.some.inj (fA.symm.trans hG)
  have ed : comp = cA 0 := Option.some.inj (fC.symm.trans hI)
  subst ec
  subst ed
  rw [e4, e75] at X' step
  generalize hF : Jvm.Free.Multi.fill (T.setVm vm₁) (cA 5) (cA 0) 4 75 (defaultValue .int) 4 = F at X' step
  have hTh : (T.setVm vm₁).heap = H := hT
  obtain ⟨f1, f2, -, -⟩ := Jvm.Free.Multi.fill_facts (T.setVm vm₁) (cA 5) (cA 0) 4 75 (defaultValue .int) 4
  rw [hF, hTh] at f1 f2
  have hold : ∀ x : Nat, x < H.size → F.heap[x]? = H[x]? := fun x hx => by
    have := Jvm.Free.Multi.fill_old (T.setVm vm₁) (cA 5) (cA 0) 4 75 (defaultValue .int) (a := x) (by rw [hTh]; exact hx) 4
    rw [hF, hTh] at this
    exact this
  have hrow : ∀ j : Nat, j < 4 → F.heap[H.size + 1 + j]? = some (vp_cell (cA 0) (75, .inl (fun _ => 0))) := fun j hj => by
    have := Jvm.Free.Multi.fill_inner (T.setVm vm₁) (cA 5) (cA 0) 4 75 (defaultValue .int) 4 j hj
    rw [hF, hTh] at this
    rw [this, vp_cell_i, ← arrV_new]
    rfl
  have hout : Jvm.Free.Multi.outerC (cA 5) 4 H.size 4 = vp_cell (cA 5) (4, .inr (.inr (.inr (.inr f)))) := by
    rw [vp_cell_q, gn_outer]
    refine gn_arrV (fun j hj => ?_)
    rw [if_pos hj, hf j hj, hsz, show h + n + 1 + j = h + (n + 1 + j) by omega]
  rw [hout] at f2
  rw [hsz] at f1 f2 hold hrow
  have hP1 : va_P D gz_cl (gn_ws h (n + 5) E) F.heap := gn_P.mpr fun i hi => by
    by_cases i1 : i < n
    · exact (gn_P.mp hP i i1).kept (hold (h + i) (by omega))
    · by_cases i2 : i = n
      · subst i2
        rw [hE0]
        exact f2
      · obtain ⟨j, rfl⟩ : ∃ j, i = n + 1 + j := ⟨i - (n + 1), by omega⟩
        rw [hE1 j (by omega)]
        have := hrow j (by omega)
        rw [show h + n + 1 + j = h + (n + 1 + j) by omega] at this
        exact this
  have X2 : Stand p l e R s m args below meth c F locs (cells + 5) (slots + 304) := X'
  obtain ⟨t, a1, b1⟩ := k p e R s m args below meth c F.heap locs ls (cells + 5) (slots + 304) QQ C (by omega) (by omega) (by rw [f1]; omega) hP1 (gn_S hS hsz (by rw [f1]; omega) hold) hl (fun n' E' L' st' pc' H' locs' ls' a1 a2 a3 a4 a5 => by rw [Nat.add_assoc, Nat.add_assoc]; exact hQ n' E' L' st' pc' H' locs' ls' a1 a2 a3 a4 a5) F rfl X2
  refine ⟨t, step t ?_, b1⟩
  have e : T.heap.size = h + n := by rw [hT, hsz]
  rw [e]
  exact a1
set_option maxHeartbeats 4000000 in
set_option maxRecDepth 100000 in
theorem nt_X0 (l : Launch) (D : va_G) (cA : Nat → ClassId) (h : Nat) {n k : Nat} {E : Nat → va_E} {f : Nat → Option Nat} (hk : k < n) (hE0 : E n = gn_R (cA 5) 4 f) (hf : ∀ i, i < 4 → f i = some (h + (n + 1 + i))) (hE1 : ∀ j, j < 4 → E (n + 1 + j) = gn_I (cA 0) 75) (hE5 : E (n + 5) = gn_I (cA 0) 4) : gn_V l D cA h RX0 cX0_init none 1 1 true (gn_end cX0_init (fun n' E' => n' = n + 6 ∧ E' = va_up E k (.inr (0, [.ref (h + n), .ref (h + (n + 5)), gz_i (-1), gz_i (0), gz_i (-1), gz_i (0), gz_i (0), gz_i (0), gz_i (0)])))) 6 308 n (va_up E k (.inr (0, [.null, .null, .int 0, .int 0, .int 0, .int 0, .int 0, .int 0, .int 0]))) [some (.ref (h + k))] [] 0 := by
  refine gn_aload_n (pc := 0) dX0_init_0 rfl ?_
  refine gn_obj (pc := 1) dX0_init_1 wm_X0_3 rfl (Nat.le_of_ble_eq_true rfl) ?_
  refine gn_aload_n (pc := 4) dX0_init_4 rfl ?_
  refine gn_iconst (pc := 5) dX0_init_5 ?_
  refine gn_bipush (pc := 6) dX0_init_6 rfl ?_
  refine gn_mna (pc := 8) (mc' := 1) (ms' := 4) (f := f) dX0_init_8 wk_X0_9 (by rw [va_up_ne _ _ (by omega)]; exact hE0) hf (fun j hj => by rw [va_up_ne _ _ (by omega)]; exact hE1 j hj) rfl rfl ?_
  refine gn_put (pc := 12) (ci := 0) (a := k) (k9 := 0) (N := 9) (C9 := RX0) (T9 := TX0) (ty0 := tyX0) (fs := [.null, .null, .int 0, .int 0, .int 0, .int 0, .int 0, .int 0, .int 0]) (E' := (va_up E k (.inr (0, [.ref (h + n), .null, .int 0, .int 0, .int 0, .int 0, .int 0, .int 0, .int 0])))) dX0_init_12 rfl wf_X0_11 wu_X0 tyX0_ok nmX0 (by decide) (by omega) (va_up_self _ _ _) (Or.inr ⟨rfl, rfl, rfl⟩) rfl rfl (Nat.le_of_ble_eq_true rfl) (bx_uu _ _ _ _) ?_
  refine gn_aload_n (pc := 15) dX0_init_15 rfl ?_
  refine gn_iconst (pc := 16) dX0_init_16 ?_
  refine gn_newaI (pc := 17) (N := 4) (mc' := 0) (ms' := 0) (E' := (va_up E k (.inr (0, [.ref (h + n), .null, .int 0, .int 0, .int 0, .int 0, .int 0, .int 0, .int 0])))) dX0_init_17 (by decide) rfl (by decide) (fun _ _ => rfl) (by rw [va_up_ne _ _ (by omega)]; exact hE5) rfl rfl ?_
  refine gn_put (pc := 19) (ci := 0) (a := k) (k9 := 1) (N := 9) (C9 := RX0) (T9 := TX0) (ty0 := tyX0) (fs := [.ref (h + n), .null, .int 0, .int 0, .int 0, .int 0, .int 0, .int 0, .int 0]) (E' := (va_up E k (.inr (0, [.ref (h + n), .ref (h + (n + 5)), .int 0, .int 0, .int 0, .int 0, .int 0, .int 0, .int 0])))) dX0_init_19 rfl wf_X0_16 wu_X0 tyX0_ok nmX0 (by decide) (by omega) (va_up_self _ _ _) (Or.inr ⟨rfl, rfl, rfl⟩) rfl rfl (Nat.le_of_ble_eq_true rfl) (bx_uu _ _ _ _) ?_
  refine gn_aload_n (pc := 22) dX0_init_22 rfl ?_
  refine gn_iconst (pc := 23) dX0_init_23 ?_
  refine gn_put (pc := 24) (ci := 0) (a := k) (k9 := 2) (N := 9) (C9 := RX0) (T9 := TX0) (ty0 := tyX0) (fs := [.ref (h + n), .ref (h + (n + 5)), .int 0, .int 0, .int 0, .int 0, .int 0, .int 0, .int 0]) (E' := (va_up E k (.inr (0, [.ref (h + n), .ref (h + (n + 5)), gz_i (-1), .int 0, .int 0, .int 0, .int 0, .int 0, .int 0])))) dX0_init_24 rfl wf_X0_20 wu_X0 tyX0_ok nmX0 (by decide) (by omega) (va_up_self _ _ _) (Or.inl rfl) rfl rfl (Nat.le_of_ble_eq_true rfl) (bx_uu _ _ _ _) ?_
  refine gn_aload_n (pc := 27) dX0_init_27 rfl ?_
  refine gn_iconst (pc := 28) dX0_init_28 ?_
  refine gn_put (pc := 29) (ci := 0) (a := k) (k9 := 3) (N := 9) (C9 := RX0) (T9 := TX0) (ty0 := tyX0) (fs := [.ref (h + n), .ref (h + (n + 5)), gz_i (-1), .int 0, .int 0, .int 0, .int 0, .int 0, .int 0]) (E' := (va_up E k (.inr (0, [.ref (h + n), .ref (h + (n + 5)), gz_i (-1), gz_i (0), .int 0, .int 0, .int 0, .int 0, .int 0])))) dX0_init_29 rfl wf_X0_24 wu_X0 tyX0_ok nmX0 (by decide) (by omega) (va_up_self _ _ _) (Or.inl rfl) rfl rfl (Nat.le_of_ble_eq_true rfl) (bx_uu _ _ _ _) ?_
  refine gn_aload_n (pc := 32) dX0_init_32 rfl ?_
  refine gn_iconst (pc := 33) dX0_init_33 ?_
  refine gn_put (pc := 34) (ci := 0) (a := k) (k9 := 4) (N := 9) (C9 := RX0) (T9 := TX0) (ty0 := tyX0) (fs := [.ref (h + n), .ref (h + (n + 5)), gz_i (-1), gz_i (0), .int 0, .int 0, .int 0, .int 0, .int 0]) (E' := (va_up E k (.inr (0, [.ref (h + n), .ref (h + (n + 5)), gz_i (-1), gz_i (0), gz_i (-1), .int 0, .int 0, .int 0, .int 0])))) dX0_init_34 rfl wf_X0_28 wu_X0 tyX0_ok nmX0 (by decide) (by omega) (va_up_self _ _ _) (Or.inl rfl) rfl rfl (Nat.le_of_ble_eq_true rfl) (bx_uu _ _ _ _) ?_
  refine gn_aload_n (pc := 37) dX0_init_37 rfl ?_
  refine gn_iconst (pc := 38) dX0_init_38 ?_
  refine gn_put (pc := 39) (ci := 0) (a := k) (k9 := 5) (N := 9) (C9 := RX0) (T9 := TX0) (ty0 := tyX0) (fs := [.ref (h + n), .ref (h + (n + 5)), gz_i (-1), gz_i (0), gz_i (-1), .int 0, .int 0, .int 0, .int 0]) (E' := (va_up E k (.inr (0, [.ref (h + n), .ref (h + (n + 5)), gz_i (-1), gz_i (0), gz_i (-1), gz_i (0), .int 0, .int 0, .int 0])))) dX0_init_39 rfl wf_X0_31 wu_X0 tyX0_ok nmX0 (by decide) (by omega) (va_up_self _ _ _) (Or.inl rfl) rfl rfl (Nat.le_of_ble_eq_true rfl) (bx_uu _ _ _ _) ?_
  refine gn_aload_n (pc := 42) dX0_init_42 rfl ?_
  refine gn_iconst (pc := 43) dX0_init_43 ?_
  refine gn_put (pc := 44) (ci := 0) (a := k) (k9 := 6) (N := 9) (C9 := RX0) (T9 := TX0) (ty0 := tyX0) (fs := [.ref (h + n), .ref (h + (n + 5)), gz_i (-1), gz_i (0), gz_i (-1), gz_i (0), .int 0, .int 0, .int 0]) (E' := (va_up E k (.inr (0, [.ref (h + n), .ref (h + (n + 5)), gz_i (-1), gz_i (0), gz_i (-1), gz_i (0), gz_i (0), .int 0, .int 0])))) dX0_init_44 rfl wf_X0_34 wu_X0 tyX0_ok nmX0 (by decide) (by omega) (va_up_self _ _ _) (Or.inl rfl) rfl rfl (Nat.le_of_ble_eq_true rfl) (bx_uu _ _ _ _) ?_
  refine gn_aload_n (pc := 47) dX0_init_47 rfl ?_
  refine gn_iconst (pc := 48) dX0_init_48 ?_
  refine gn_put (pc := 49) (ci := 0) (a := k) (k9 := 7) (N := 9) (C9 := RX0) (T9 := TX0) (ty0 := tyX0) (fs := [.ref (h + n), .ref (h + (n + 5)), gz_i (-1), gz_i (0), gz_i (-1), gz_i (0), gz_i (0), .int 0, .int 0]) (E' := (va_up E k (.inr (0, [.ref (h + n), .ref (h + (n + 5)), gz_i (-1), gz_i (0), gz_i (-1), gz_i (0), gz_i (0), gz_i (0), .int 0])))) dX0_init_49 rfl wf_X0_37 wu_X0 tyX0_ok nmX0 (by decide) (by omega) (va_up_self _ _ _) (Or.inl rfl) rfl rfl (Nat.le_of_ble_eq_true rfl) (bx_uu _ _ _ _) ?_
  refine gn_aload_n (pc := 52) dX0_init_52 rfl ?_
  refine gn_iconst (pc := 53) dX0_init_53 ?_
  refine gn_put (pc := 54) (ci := 0) (a := k) (k9 := 8) (N := 9) (C9 := RX0) (T9 := TX0) (ty0 := tyX0) (fs := [.ref (h + n), .ref (h + (n + 5)), gz_i (-1), gz_i (0), gz_i (-1), gz_i (0), gz_i (0), gz_i (0), .int 0]) (E' := (va_up E k (.inr (0, [.ref (h + n), .ref (h + (n + 5)), gz_i (-1), gz_i (0), gz_i (-1), gz_i (0), gz_i (0), gz_i (0), gz_i (0)])))) dX0_init_54 rfl wf_X0_40 wu_X0 tyX0_ok nmX0 (by decide) (by omega) (va_up_self _ _ _) (Or.inl rfl) rfl rfl (Nat.le_of_ble_eq_true rfl) (bx_uu _ _ _ _) ?_
  exact gn_stop ⟨⟨rfl, rfl⟩, rfl, dX0_init_57⟩
