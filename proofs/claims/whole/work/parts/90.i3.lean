theorem gi_known {args : Array Value} {s : State} (hts : ∀ w ∈ gz_ts, w.before args s = true) (hZ : gn_Z s) : ∃ (D : va_G) (cA : Nat → ClassId), va_K D gz_cl (gz_tys cA) s := by
  obtain ⟨c0, i0, k0⟩ := u_known (C := RX0) (T := TX0) (N := 9) hts wu_X0 (hts _ wj_X0)
  obtain ⟨c1, i1, k1⟩ := u_known (C := RX1) (T := TX1) (N := 2) hts wu_X1 (hts _ wj_X1)
  obtain ⟨c2, i2, k2⟩ := u_known (C := RX2) (T := TX2) (N := 3) hts wu_X2 (hts _ wj_X2)
  obtain ⟨c3, i3, k3⟩ := u_known (C := RX3) (T := TX3) (N := 8) hts wu_X3 (hts _ wj_X3)
  obtain ⟨c4, i4, k4⟩ := u_known (C := RX4) (T := TX4) (N := 9) hts wu_X4 (hts _ wj_X4)
  obtain ⟨c5, i5, k5⟩ := u_known (C := RX5) (T := TX5) (N := 21) hts wu_X5 (hts _ wj_X5)
  obtain ⟨a0, q0, m0, f0, g0, h0⟩ := Cond.arrayClass_spec (hts _ wa_int)
  obtain ⟨a1, q1, m1, f1, g1, h1⟩ := Cond.arrayClass_spec (hts _ wa_boolean)
  obtain ⟨m2, a2, q2, e2, -, g2, h2, f2⟩ := Cond.arrayOver_spec hZ.1.2.2.1
  obtain ⟨m3, a3, q3, e3, -, g3, h3, f3⟩ := Cond.arrayOver_spec hZ.1.2.1
  obtain ⟨m4, a4, q4, e4, -, g4, h4, f4⟩ := Cond.arrayOver_spec hZ.1.1
  obtain ⟨m5, a5, q5, e5, -, g5, h5, f5⟩ := arrayOverA_spec hZ.1.2.2.2
  refine ⟨(fun c => match c with | 0 => c0 | 1 => c1 | 2 => c2 | 3 => c3 | 4 => c4 | _ => c5, fun c => match c with | 0 => i0 | 1 => i1 | 2 => i2 | 3 => i3 | 4 => i4 | _ => i5), fun k => match k with | 0 => a0 | 1 => a1 | 2 => a2 | 3 => a3 | 4 => a4 | _ => a5, ?_, ?_⟩
  · intro c q hq
    match c, hq with
    | 0, hq => cases hq; exact k0
    | 1, hq => cases hq; exact k1
    | 2, hq => cases hq; exact k2
    | 3, hq => cases hq; exact k3
    | 4, hq => cases hq; exact k4
    | 5, hq => cases hq; exact k5
    | n + 6, hq => cases hq
  · intro c q hq
    match c, hq with
    | 0, hq => cases hq; exact ⟨fun N z => ⟨(fun k h => by cases h), q0, g0, m0, h0⟩, f0⟩
    | 1, hq => cases hq; exact ⟨fun N z => ⟨(fun k h => by cases h), q1, g1, m1, h1⟩, f1⟩
    | 2, hq => cases hq; exact ⟨fun N z => ⟨(fun k h => by cases h), q2, g2, m2, h2⟩, ⟨q2, m2, g2, h2, e2, f2⟩⟩
    | 3, hq => cases hq; exact ⟨fun N z => ⟨(fun k h => by cases h), q3, g3, m3, h3⟩, ⟨q3, m3, g3, h3, e3, f3⟩⟩
    | 4, hq => cases hq; exact ⟨fun N z => ⟨(fun k h => by cases h), q4, g4, m4, h4⟩, ⟨q4, m4, g4, h4, e4, f4⟩⟩
    | 5, hq => cases hq; exact ⟨fun N z => ⟨(fun k h => by cases h), q5, g5, m5, h5⟩, f5⟩
    | n + 6, hq => cases hq
