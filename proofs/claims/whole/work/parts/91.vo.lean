/-! THE START in the great machine -/
set_option maxRecDepth 100000 in
set_option maxHeartbeats 4000000 in
theorem st_KA {s : State} {b : Nat} (hs : ∀ w ∈ flatC (Jvm.Cond.and given_1 narrow_1), w.before #[Value.ref b] s = true) {A : Nat → Prop} (hA : ∀ a : Nat, a < s.heap.size → ¬ A a) : ∃ t : Nat, (Term.static RX7 "KIND_ABOVE" "[I").eval #[Value.ref b] s none [] s = some (.ref t) ∧ va_T .int t 7 (fun j => .int (KA j)) A s s.heap := by
  refine va_Tof (by omega) (hs _ (by decide +kernel)) (va_eqt (hs (Cond.eq (.length (.static RX7 "KIND_ABOVE" "[I")) (.int 7)) (by decide +kernel))) (fun j hj => ?_) hA
  exact match j, hj with
    | 0, _ => va_eqt (hs (Cond.eq (.elem (.static RX7 "KIND_ABOVE" "[I") (.int 0)) (.int (-1))) (by decide +kernel))
    | 1, _ => va_eqt (hs (Cond.eq (.elem (.static RX7 "KIND_ABOVE" "[I") (.int 1)) (.int 0)) (by decide +kernel))
    | 2, _ => va_eqt (hs (Cond.eq (.elem (.static RX7 "KIND_ABOVE" "[I") (.int 2)) (.int 0)) (by decide +kernel))
    | 3, _ => va_eqt (hs (Cond.eq (.elem (.static RX7 "KIND_ABOVE" "[I") (.int 3)) (.int 0)) (by decide +kernel))
    | 4, _ => va_eqt (hs (Cond.eq (.elem (.static RX7 "KIND_ABOVE" "[I") (.int 4)) (.int 1)) (by decide +kernel))
    | 5, _ => va_eqt (hs (Cond.eq (.elem (.static RX7 "KIND_ABOVE" "[I") (.int 5)) (.int 2)) (by decide +kernel))
    | 6, _ => va_eqt (hs (Cond.eq (.elem (.static RX7 "KIND_ABOVE" "[I") (.int 6)) (.int 0)) (by decide +kernel))
    | j + 7, hj => absurd hj (by omega)
set_option maxRecDepth 100000 in
set_option maxHeartbeats 4000000 in
theorem st_BO {s : State} {b : Nat} (hs : ∀ w ∈ flatC (Jvm.Cond.and given_1 narrow_1), w.before #[Value.ref b] s = true) {A : Nat → Prop} (hA : ∀ a : Nat, a < s.heap.size → ¬ A a) : ∃ t : Nat, (Term.static RX7 "BODIES" "[I").eval #[Value.ref b] s none [] s = some (.ref t) ∧ va_T .int t 28 (fun j => .int (BO j)) A s s.heap := by
  refine va_Tof (by omega) (hs _ (by decide +kernel)) (va_eqt (hs (Cond.eq (.length (.static RX7 "BODIES" "[I")) (.int 28)) (by decide +kernel))) (fun j hj => ?_) hA
  exact match j, hj with
    | 0, _ => va_eqt (hs (Cond.eq (.elem (.static RX7 "BODIES" "[I") (.int 0)) (.int 10)) (by decide +kernel))
    | 1, _ => va_eqt (hs (Cond.eq (.elem (.static RX7 "BODIES" "[I") (.int 1)) (.int 11)) (by decide +kernel))
    | 2, _ => va_eqt (hs (Cond.eq (.elem (.static RX7 "BODIES" "[I") (.int 2)) (.int 12)) (by decide +kernel))
    | 3, _ => va_eqt (hs (Cond.eq (.elem (.static RX7 "BODIES" "[I") (.int 3)) (.int 13)) (by decide +kernel))
    | 4, _ => va_eqt (hs (Cond.eq (.elem (.static RX7 "BODIES" "[I") (.int 4)) (.int 20)) (by decide +kernel))
    | 5, _ => va_eqt (hs (Cond.eq (.elem (.static RX7 "BODIES" "[I") (.int 5)) (.int 0)) (by decide +kernel))
    | 6, _ => va_eqt (hs (Cond.eq (.elem (.static RX7 "BODIES" "[I") (.int 6)) (.int 0)) (by decide +kernel))
    | 7, _ => va_eqt (hs (Cond.eq (.elem (.static RX7 "BODIES" "[I") (.int 7)) (.int 21)) (by decide +kernel))
    | 8, _ => va_eqt (hs (Cond.eq (.elem (.static RX7 "BODIES" "[I") (.int 8)) (.int 0)) (by decide +kernel))
    | 9, _ => va_eqt (hs (Cond.eq (.elem (.static RX7 "BODIES" "[I") (.int 9)) (.int 30)) (by decide +kernel))
    | 10, _ => va_eqt (hs (Cond.eq (.elem (.static RX7 "BODIES" "[I") (.int 10)) (.int 0)) (by decide +kernel))
    | 11, _ => va_eqt (hs (Cond.eq (.elem (.static RX7 "BODIES" "[I") (.int 11)) (.int 0)) (by decide +kernel))
    | 12, _ => va_eqt (hs (Cond.eq (.elem (.static RX7 "BODIES" "[I") (.int 12)) (.int 0)) (by decide +kernel))
    | 13, _ => va_eqt (hs (Cond.eq (.elem (.static RX7 "BODIES" "[I") (.int 13)) (.int 0)) (by decide +kernel))
    | 14, _ => va_eqt (hs (Cond.eq (.elem (.static RX7 "BODIES" "[I") (.int 14)) (.int 40)) (by decide +kernel))
    | 15, _ => va_eqt (hs (Cond.eq (.elem (.static RX7 "BODIES" "[I") (.int 15)) (.int 0)) (by decide +kernel))
    | 16, _ => va_eqt (hs (Cond.eq (.elem (.static RX7 "BODIES" "[I") (.int 16)) (.int 50)) (by decide +kernel))
    | 17, _ => va_eqt (hs (Cond.eq (.elem (.static RX7 "BODIES" "[I") (.int 17)) (.int 0)) (by decide +kernel))
    | 18, _ => va_eqt (hs (Cond.eq (.elem (.static RX7 "BODIES" "[I") (.int 18)) (.int 51)) (by decide +kernel))
    | 19, _ => va_eqt (hs (Cond.eq (.elem (.static RX7 "BODIES" "[I") (.int 19)) (.int 0)) (by decide +kernel))
    | 20, _ => va_eqt (hs (Cond.eq (.elem (.static RX7 "BODIES" "[I") (.int 20)) (.int 0)) (by decide +kernel))
    | 21, _ => va_eqt (hs (Cond.eq (.elem (.static RX7 "BODIES" "[I") (.int 21)) (.int 60)) (by decide +kernel))
    | 22, _ => va_eqt (hs (Cond.eq (.elem (.static RX7 "BODIES" "[I") (.int 22)) (.int 0)) (by decide +kernel))
    | 23, _ => va_eqt (hs (Cond.eq (.elem (.static RX7 "BODIES" "[I") (.int 23)) (.int 0)) (by decide +kernel))
    | 24, _ => va_eqt (hs (Cond.eq (.elem (.static RX7 "BODIES" "[I") (.int 24)) (.int 70)) (by decide +kernel))
    | 25, _ => va_eqt (hs (Cond.eq (.elem (.static RX7 "BODIES" "[I") (.int 25)) (.int 71)) (by decide +kernel))
    | 26, _ => va_eqt (hs (Cond.eq (.elem (.static RX7 "BODIES" "[I") (.int 26)) (.int 0)) (by decide +kernel))
    | 27, _ => va_eqt (hs (Cond.eq (.elem (.static RX7 "BODIES" "[I") (.int 27)) (.int 0)) (by decide +kernel))
    | j + 28, hj => absurd hj (by omega)
set_option maxRecDepth 100000 in
set_option maxHeartbeats 4000000 in
theorem st_gl {s : State} {b L : Nat} {xs : Nat → Int32} (hts : ∀ w ∈ lw_tbl, w.before #[Value.ref b] s = true) (hX : va_X b L xs s s.heap) (hbl : b < s.heap.size) (hgv : (Jvm.Cond.and given_1 narrow_1).before #[Value.ref b] s = true) : ∃ g : xG, gB g = s.heap.size ∧ gR g 0 = b ∧ glR (roS L xs) g s s.heap := by
  have hs := flat_of_before _ hgv
  have hA : ∀ a : Nat, a < s.heap.size → ¬ (fun q : Nat => s.heap.size ≤ q) a := fun a ha => Nat.not_le.mpr ha
  obtain ⟨tK, eK, hK⟩ := st_KA hs hA
  obtain ⟨tB, eB, hB⟩ := st_BO hs hA
  have hgw : ∀ w ∈ gw, w.before #[Value.ref b] s = true := fun w hw => hts w (List.mem_filter.mp hw).1
  obtain ⟨c0, i0, k0⟩ := u_known (C := RX0) (T := TX0) (N := 16) (n := 16) hgw okC_X0 (hts (.instantiable RX0 16) (by decide +kernel))
  obtain ⟨c1, i1, k1⟩ := u_known (C := RX1) (T := TX1) (N := 7) (n := 7) hgw okC_X1 (hts (.instantiable RX1 7) (by decide +kernel))
  obtain ⟨c2, i2, k2⟩ := u_known (C := RX2) (T := TX2) (N := 5) (n := 5) hgw okC_X2 (hts (.instantiable RX2 5) (by decide +kernel))
  obtain ⟨c3, i3, k3⟩ := u_known (C := RX3) (T := TX3) (N := 6) (n := 6) hgw okC_X3 (hts (.instantiable RX3 6) (by decide +kernel))
  obtain ⟨c4, i4, k4⟩ := u_known (C := RX4) (T := TX4) (N := 3) (n := 3) hgw okC_X4 (hts (.instantiable RX4 3) (by decide +kernel))
  obtain ⟨c5, i5, k5⟩ := u_known (C := RX5) (T := TX5) (N := 6) (n := 6) hgw okC_X5 (hts (.instantiable RX5 6) (by decide +kernel))
  obtain ⟨c6, i6, k6⟩ := u_known (C := RX6) (T := TX6) (N := 3) (n := 3) hgw okC_X6 (hts (.instantiable RX6 3) (by decide +kernel))
  obtain ⟨c7, i7, k7⟩ := u_known (C := RX7) (T := TX7) (N := 8) (n := 8) hgw okC_X7 (hts (.instantiable RX7 8) (by decide +kernel))
  obtain ⟨c8, i8, k8⟩ := u_known (C := RX8) (T := TX8) (N := 24) (n := 24) hgw okC_X8 (hts (.instantiable RX8 24) (by decide +kernel))
  obtain ⟨dC, dI, hC⟩ : ∃ (dC : Nat → ClassId) (dI : Nat → Nat → Nat), ∀ (k : Nat) (q : vw_C), classes[k]? = some q → u_Kn s q.1 q.2.1 q.2.2 (dC k) (dI k) := by
    refine ⟨fun k => match k with
      | 0 => c0
      | 1 => c1
      | 2 => c2
      | 3 => c3
      | 4 => c4
      | 5 => c5
      | 6 => c6
      | 7 => c7
      | _ => c8, fun k => match k with
      | 0 => i0
      | 1 => i1
      | 2 => i2
      | 3 => i3
      | 4 => i4
      | 5 => i5
      | 6 => i6
      | 7 => i7
      | _ => i8, ?_⟩
    intro k q hq
    match k, hq with
    | 0, hq => cases hq; exact k0
    | 1, hq => cases hq; exact k1
    | 2, hq => cases hq; exact k2
    | 3, hq => cases hq; exact k3
    | 4, hq => cases hq; exact k4
    | 5, hq => cases hq; exact k5
    | 6, hq => cases hq; exact k6
    | 7, hq => cases hq; exact k7
    | 8, hq => cases hq; exact k8
    | k + 9, hq => simp [classes] at hq
  obtain ⟨cI, kI, pI, a1, a2, a3⟩ := Cond.arrayClass_spec (hts (.arrayClass .int) (by decide +kernel))
  obtain ⟨pP, cP, kP, b1, b2, b3, b4, b5⟩ := Cond.arrayOver_spec (hts (.arrayOver (.object RX1)) (by decide +kernel))
  obtain ⟨pS, cS, kS, d1, d2, d3, d4, d5⟩ := Cond.arrayOver_spec (hts (.arrayOver (.object RX4)) (by decide +kernel))
  refine ⟨(s.heap.size, (fun a => match a with
    | 0 => b
    | 1 => tK
    | _ => tB), (dC, dI), cI, cP, cS), rfl, rfl, ⟨hC, fun k q hq => ?_⟩, ?_, ?_, fun a ha => ?_, va_AO.of (hts (.arrayOver (.object RX1)) (by decide +kernel)), va_AO.of (hts (.arrayOver (.object RX4)) (by decide +kernel)), ?_⟩
  · match k, hq with
    | 0, hq => cases hq; exact ⟨fun n z => ⟨fun k h => (by cases h), kI, a2, pI, a3⟩, a1⟩
    | 1, hq => cases hq; exact ⟨fun n z => ⟨fun k h => (by cases h), kP, b3, pP, b4⟩, kP, pP, b3, b4, b1, b5⟩
    | 2, hq => cases hq; exact ⟨fun n z => ⟨fun k h => (by cases h), kS, d3, pS, d4⟩, kS, pS, d3, d4, d1, d5⟩
    | k + 3, hq => simp at hq
  · exact va_Zof (hts (.laysStatic RX7 "KIND_ABOVE" "[I") (by decide +kernel)) (hts (.initialized RX7) (by decide +kernel)) eK hA
  · exact va_Zof (hts (.laysStatic RX7 "BODIES" "[I") (by decide +kernel)) (hts (.initialized RX7) (by decide +kernel)) eB hA
  · match a, ha with
    | 0, _ =>
      obtain ⟨scr, x1, x2, x3, x4, x5⟩ := hX
      exact ⟨scr, x1, x2, x3, Nat.le_of_eq x4.symm, by rw [x4]; rfl, x5, hA b hbl⟩
    | 1, _ => exact hK
    | 2, _ => exact hB
    | a + 3, ha => exact absurd ha (by omega)
  · exact List.forall_mem_cons.mpr ⟨va_Nw.of rfl (hts _ (by decide +kernel)), List.forall_mem_cons.mpr ⟨va_Nw.of rfl (hts _ (by decide +kernel)), List.forall_mem_cons.mpr ⟨va_Nw.of rfl (hts _ (by decide +kernel)), List.forall_mem_cons.mpr ⟨va_Nw.of rfl (hts _ (by decide +kernel)), List.forall_mem_cons.mpr ⟨va_Nw.of rfl (hts _ (by decide +kernel)), fun _ q => absurd q List.not_mem_nil⟩⟩⟩⟩⟩
