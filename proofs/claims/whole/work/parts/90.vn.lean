/-! THE LAW: its start -/
theorem M0_z {k : Nat} (h1 : k ≠ 62) (h2 : k ≠ 1) (h3 : k ≠ 20) (j : Nat) : M0 k j = 0 := by
  unfold M0
  rw [nbeq_ne h1, nbeq_ne h2, nbeq_ne h3]
  rfl
theorem M0_r {j : Nat} (h0 : j ≠ 0) (h1 : j ≠ 1) (h5 : j ≠ 5) : M0 62 j = 0 := by
  show upd (upd (upd (fun _ => 0) 0 12) 1 6) 5 1 j = 0
  rw [upd_ne h5, upd_ne h1, upd_ne h0]
theorem iN_0 {b : Nat} : iN 0 b := ⟨0, Nat.zero_le b, rfl⟩
theorem rel_0 : Rel M0 := by
  refine ⟨⟨⟨?_, fun p j hp hj => ?_, fun i hi => ?_, fun i hi => ?_, fun i hi => ?_, ?_⟩, 0, 0, ?_, ?_, fun p hp => ?_, fun p hp => absurd hp (Nat.not_lt_zero p), fun i hi => ?_, ?_⟩, ⟨?_, fun q => ?_⟩, fun s hs => ?_, fun k a b => ?_, ⟨?_, ?_, fun i hi => ?_⟩, ?_⟩
  · exact ⟨rfl, rfl, rfl, rfl, rfl, rfl, rfl, rfl, rfl, rfl⟩
  · rw [M0_z (by omega) (by omega) (by omega), M0_r (by omega) (by omega) (by omega)]
  · rw [M0_z (by omega) (by omega) (by omega), M0_r (by omega) (by omega) (by omega)]
  · rw [M0_z (by omega) (by omega) (by omega), M0_r (by omega) (by omega) (by omega)]
  · rw [M0_z (by omega) (by omega) (by omega), M0_r (by omega) (by omega) (by omega)]
  · have e1 : M0 62 156 = 0 := M0_r (by omega) (by omega) (by omega)
    have e2 : M0 62 277 = 0 := M0_r (by omega) (by omega) (by omega)
    refine ⟨⟨?_, fun k hk => ?_⟩, ?_, fun k hk => ?_⟩
    · rw [M0_z (by omega) (by omega) (by omega), e1]
    · rw [e1] at hk
      exact absurd hk (Nat.not_lt_zero k)
    · rw [M0_z (by omega) (by omega) (by omega), e2]
    · rw [e2] at hk
      exact absurd hk (Nat.not_lt_zero k)
  · exact ⟨rfl, by omega, rfl, by omega⟩
  · exact ⟨iN_0, iN_0, ⟨12, by omega, rfl⟩, ⟨6, by omega, rfl⟩, iN_0, iN_0, iN_0⟩
  · rw [M0_r (by omega) (by omega) (by omega), M0_r (by omega) (by omega) (by omega), M0_r (by omega) (by omega) (by omega), M0_r (by omega) (by omega) (by omega), M0_r (by omega) (by omega) (by omega), M0_r (by omega) (by omega) (by omega), M0_r (by omega) (by omega) (by omega)]
    exact ⟨iN_0, iN_0, iN_0, iN_0, iN_0, iN_0, iN_0⟩
  · rw [M0_r (by omega) (by omega) (by omega)]
    exact ⟨iN_0, fun _ => rfl⟩
  · unfold rwT
    rw [M0_r (by omega) (by omega) (by omega), M0_r (j := 277) (by omega) (by omega) (by omega)]
    exact ⟨wfT_0 _ _, wfT_0 _ _⟩
  · rfl
  · exact absurd rfl q
  · rw [M0_z (by omega) (by omega) (by omega), M0_z (k := 65) (by omega) (by omega) (by omega), M0_z (k := 52 + 2 * s) (by omega) (by omega) (by omega), M0_z (k := 66) (by omega) (by omega) (by omega)]
    refine ⟨rfl, rfl, Or.inl rfl, iN_0, fun _ => rfl, fun i hi => ?_⟩
    rw [M0_z (by omega) (by omega) (by omega), M0_z (k := 67) (by omega) (by omega) (by omega)]
    exact ⟨fun q => absurd q (by decide), fun q => absurd q (by decide), fun q => absurd q (by decide), fun _ => ⟨rfl, rfl⟩⟩
  · rw [M0_z (by omega) (by omega) (by omega), M0_z (by omega) (by omega) (by omega)]
  · rfl
  · exact iN_0
  · rw [M0_z (by omega) (by omega) (by omega), M0_z (by omega) (by omega) (by omega)]
  · rfl
/-- the counters are only carried -/
theorem exec_sh (ro : xRO) : ∀ (n d : Nat) (md : MD) (pc : Nat) (L : xL) (st : List Value) (h : xH) (ca sa pcr : Nat) (v : Option Value) (h1 : xH) (c1 s1 k j : Nat), exec ro n d md pc L st h ca sa = some (pcr, v, h1, c1, s1) → exec ro n d md pc L st h (ca + k) (sa + j) = some (pcr, v, h1, c1 + k, s1 + j) := by
  intro n
  induction n with
  | zero => intro d md pc L st h ca sa pcr v h1 c1 s1 k j hx; cases hx
  | succ n ih =>
    intro d md pc L st h ca sa pcr v h1 c1 s1 k j hx
    unfold exec at hx ⊢
    split at hx
    · cases hx
    · rename_i i hi
      try rw [hi]
      try dsimp only
      cases hlen : xLen i.1 i.2 with
      | false => rw [hlen] at hx; cases hx
      | true =>
        rw [hlen, cond_true] at hx
        rw [cond_true]
        split at hx
        · rename_i hw
          try rw [hw]
          cases hx
          rfl
        · rename_i hw
          try rw [hw]
          split at hx
          · rename_i hc
            try rw [hc]
            try dsimp only
            split at hx
            · cases hx
            · split at hx
              · cases hx
              · rename_i hp
                try dsimp only
                try rw [hp]
                try dsimp only
                split at hx
                · cases hx
                · rename_i he
                  try rw [he]
                  try dsimp only
                  split at hx
                  · cases hx
                  · rename_i hq
                    try rw [hq]
                    try dsimp only
                    rw [Nat.add_right_comm ca k, Nat.add_right_comm sa j]
                    exact ih _ _ _ _ _ _ _ _ _ _ _ _ _ _ _ hx
          · rename_i hc
            try rw [hc]
            try dsimp only
            split at hx
            · cases hx
            · rename_i hs
              try rw [hs]
              try dsimp only
              rw [Nat.add_right_comm ca k, Nat.add_right_comm sa j]
              exact ih _ _ _ _ _ _ _ _ _ _ _ _ _ _ _ hx
theorem exec_dp (ro : xRO) : ∀ (n d : Nat) (md : MD) (pc : Nat) (L : xL) (st : List Value) (h : xH) (ca sa : Nat) (r : xR), exec ro n d md pc L st h ca sa = some r → exec ro n (d + 1) md pc L st h ca sa = some r := by
  intro n
  induction n with
  | zero => intro d md pc L st h ca sa r hx; cases hx
  | succ n ih =>
    intro d md pc L st h ca sa r hx
    unfold exec at hx ⊢
    split at hx
    · cases hx
    · rename_i i hi
      try rw [hi]
      try dsimp only
      cases hlen : xLen i.1 i.2 with
      | false => rw [hlen] at hx; cases hx
      | true =>
        rw [hlen, cond_true] at hx
        rw [cond_true]
        split at hx
        · rename_i hw
          try rw [hw]
          exact hx
        · rename_i hw
          try rw [hw]
          split at hx
          · rename_i hc
            try rw [hc]
            try dsimp only
            split at hx
            · cases hx
            · split at hx
              · cases hx
              · rename_i hp
                try rw [hp]
                try dsimp only
                split at hx
                · cases hx
                · rename_i he
                  try rw [he]
                  try dsimp only
                  split at hx
                  · cases hx
                  · rename_i hq
                    rw [ih _ _ _ _ _ _ _ _ _ hq]
                    exact ih _ _ _ _ _ _ _ _ _ hx
          · rename_i hc
            try rw [hc]
            try dsimp only
            split at hx
            · cases hx
            · rename_i hs
              try rw [hs]
              exact ih _ _ _ _ _ _ _ _ _ hx
theorem exec_dps (ro : xRO) {n d : Nat} {md : MD} {pc : Nat} {L : xL} {st : List Value} {h : xH} {ca sa : Nat} {r : xR} (hx : exec ro n d md pc L st h ca sa = some r) : ∀ k, exec ro n (d + k) md pc L st h ca sa = some r := by
  intro k
  induction k with
  | zero => exact hx
  | succ k ih => exact exec_dp ro _ _ _ _ _ _ _ _ _ _ ih
/-- a call, with the counters -/
theorem exec_call (ro : xRO) {d : Nat} {md : MD} {pc : Nat} {L : xL} {st : List Value} {h : xH} {i : Instr} {kd : Nat} {y : MD} {as r : List Value} {L0 : xL} {n pq : Nat} {v : Option Value} {h1 : xH} {ca sa c1 s1 : Nat} {w : xR} (hi : mdI md pc = some (i, 3)) (hl : xLen i 3 = true) (hr : xRet md i st = none) (hc : xCal md i = some (kd, y)) (hp : xPre kd y st h = some (as, r)) (he : xEnt y as = some L0) (hy : exec ro n d y 0 L0 [] h 0 0 = some (pq, v, h1, c1, s1)) (hk : exec ro n (d + 1) md (pc + 3) L (v.toList ++ r) h1 (ca + c1) (sa + s1) = some w) : exec ro (n + 1) (d + 1) md pc L st h ca sa = some w := by
  unfold exec
  rw [hi]
  dsimp only
  rw [hl, cond_true, hr]
  dsimp only
  rw [hc]
  dsimp only
  rw [hp]
  dsimp only
  rw [he]
  dsimp only
  rw [hy]
  exact hk
abbrev hpA : xH := (mk M0 50).take 61
set_option maxRecDepth 100000 in
set_option maxHeartbeats 4000000 in
theorem law_run {L : Nat} {xs : Nat → Int32} (hL : L ≤ 3072) : ∃ (n pcr : Nat) (h1 : xH), exec (roS L xs) n 91 M_L_law 0 [some (.ref 0), none, none, none] [] [] 0 0 = some (pcr, some (.int 1), h1, 76, 2575) := by
  obtain ⟨n, pcr, v, h1, hx, hv⟩ := lw_loop (xs := xs) hL (d := 0) L 0 M0 50 (Nat.zero_le L) (by omega) rel_0
  subst hv
  have hx := exec_le _ (exec_sh _ _ _ _ _ _ _ _ _ _ _ _ _ _ _ 76 2575 hx) (n' := n + 2000) (by omega)
  refine ⟨n + 2000 + 3 + 1 + 2 + 1 + 1 + 2, pcr, h1, ?_⟩
  have e1 : ∀ n, exec (roS L xs) (n + 2) 91 M_L_law 0 [some (.ref 0), none, none, none] [] [] 0 0 = exec (roS L xs) n 91 M_L_law 4 [some (.ref 0), none, none, none] [.ref 3, .ref 3] [.inl (7, xDef 7)] 1 8 := fun n => rfl
  have e2 : ∀ n, exec (roS L xs) (n + 2 + 1) 91 M_L_law 7 [some (.ref 0), none, none, none] [.ref 3] hpA 61 1409 = exec (roS L xs) n 91 M_L_law 12 [some (.ref 0), some (.ref 3), none, none] [.ref 64, .ref 64] (hpA ++ [.inl (8, xDef 8)]) 62 1433 := fun n => rfl
  have e3 : ∀ n, exec (roS L xs) (n + 3) 91 M_L_law 15 [some (.ref 0), some (.ref 3), none, none] [.ref 64] (mk M0 50) 76 2575 = exec (roS L xs) n 91 M_L_law 18 [some (.ref 0), some (.ref 3), some (.ref 64), some (.int (nI 0))] [] (mk M0 50) 76 2575 := fun n => rfl
  rw [e1]
  refine exec_call _ (i := .invokespecial 9) (kd := 2) (y := M_X7_init) (as := [.ref 3]) (r := [.ref 3]) (L0 := [some (.ref 3), none]) (v := none) (h1 := hpA) (c1 := 60) (s1 := 1401) rfl rfl rfl rfl rfl rfl (exec_le _ (exec_dps _ (init_x _) 81) (by omega)) ?_
  show exec (roS L xs) (n + 2000 + 3 + 1 + 2 + 1) 91 M_L_law 7 [some (.ref 0), none, none, none] [.ref 3] hpA 61 1409 = _
  rw [e2]
  refine exec_call _ (i := .invokespecial 12) (kd := 2) (y := M_X8_init) (as := [.ref 64]) (r := [.ref 64]) (L0 := [some (.ref 64)]) (v := none) (h1 := mk M0 50) (c1 := 14) (s1 := 1142) rfl rfl rfl rfl rfl rfl (exec_le _ (exec_dps _ (init_m _) 81) (by omega)) ?_
  show exec (roS L xs) (n + 2000 + 3) 91 M_L_law 15 [some (.ref 0), some (.ref 3), none, none] [.ref 64] (mk M0 50) 76 2575 = _
  rw [e3]
  rw [Nat.zero_add, Nat.zero_add] at hx
  exact hx
