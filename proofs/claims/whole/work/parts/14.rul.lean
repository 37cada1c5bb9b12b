/-! RULES for runs of the small machine that make no cell -/
theorem exec_mono (ro : xRO) : ∀ (n d : Nat) (md : MD) (pc : Nat) (L : xL) (st : List Value) (h : xH) (ca sa : Nat) (r : xR), exec ro n d md pc L st h ca sa = some r → exec ro (n + 1) d md pc L st h ca sa = some r := by
  intro n
  induction n with
  | zero => intro d md pc L st h ca sa r hx; cases hx
  | succ n ih =>
    intro d md pc L st h ca sa r hx
    unfold exec at hx ⊢
    split at hx
    · cases hx
    · rename_i i hi
      try rw [hi]
      try dsimp only
      cases hlen : xLen i.1 i.2 with
      | false => rw [hlen] at hx; cases hx
      | true =>
        rw [hlen, cond_true] at hx
        rw [cond_true]
        split at hx
        · rename_i hw
          try rw [hw]
          exact hx
        · rename_i hw
          try rw [hw]
          split at hx
          · rename_i hc
            try rw [hc]
            try dsimp only
            split at hx
            · cases hx
            · split at hx
              · cases hx
              · rename_i hp
                try dsimp only
                try rw [hp]
                try dsimp only
                split at hx
                · cases hx
                · rename_i he
                  try rw [he]
                  try dsimp only
                  split at hx
                  · cases hx
                  · rename_i hq
                    rw [ih _ _ _ _ _ _ _ _ _ hq]
                    exact ih _ _ _ _ _ _ _ _ _ hx
          · rename_i hc
            try rw [hc]
            try dsimp only
            split at hx
            · cases hx
            · rename_i hs
              try rw [hs]
              exact ih _ _ _ _ _ _ _ _ _ hx
theorem exec_add (ro : xRO) {n d : Nat} {md : MD} {pc : Nat} {L : xL} {st : List Value} {h : xH} {ca sa : Nat} {r : xR} (hx : exec ro n d md pc L st h ca sa = some r) (k : Nat) : exec ro (n + k) d md pc L st h ca sa = some r := by
  induction k with
  | zero => exact hx
  | succ k ih => exact exec_mono ro _ _ _ _ _ _ _ _ _ _ ih
theorem exec_le (ro : xRO) {n n' d : Nat} {md : MD} {pc : Nat} {L : xL} {st : List Value} {h : xH} {ca sa : Nat} {r : xR} (hx : exec ro n d md pc L st h ca sa = some r) (hn : n ≤ n') : exec ro n' d md pc L st h ca sa = some r := by
  rw [show n' = n + (n' - n) by omega]
  exact exec_add ro hx _
def Rn (ro : xRO) (d : Nat) (md : MD) (pc : Nat) (L : xL) (st : List Value) (h : xH) (Q : Option Value → xH → Prop) : Prop := ∃ (n pcr : Nat) (v : Option Value) (h1 : xH), exec ro n d md pc L st h 0 0 = some (pcr, v, h1, 0, 0) ∧ Q v h1
section RUL
variable {ro : xRO} {d : Nat} {md : MD} {pc : Nat} {L : xL} {st : List Value} {h : xH} {Q : Option Value → xH → Prop}
theorem Rn.imp {Q' : Option Value → xH → Prop} (hr : Rn ro d md pc L st h Q') (hq : ∀ v h1, Q' v h1 → Q v h1) : Rn ro d md pc L st h Q := by
  obtain ⟨n, pcr, v, h1, hx, q⟩ := hr
  exact ⟨n, pcr, v, h1, hx, hq _ _ q⟩
theorem R_go (k : Nat) {pc' : Nat} {L' : xL} {st' : List Value} {h' : xH} (e : ∀ n, exec ro (n + k) d md pc L st h 0 0 = exec ro n d md pc' L' st' h' 0 0) (kk : Rn ro d md pc' L' st' h' Q) : Rn ro d md pc L st h Q := by
  obtain ⟨n, pcr, v, h1, hx, q⟩ := kk
  exact ⟨n + k, pcr, v, h1, (e n).trans hx, q⟩
theorem R_if (k : Nat) {c : Prop} [Decidable c] {t f : Nat} {L' : xL} {st' : List Value} {h' : xH} (e : ∀ n, exec ro (n + k) d md pc L st h 0 0 = exec ro n d md (bif decide c then t else f) L' st' h' 0 0) (kt : c → Rn ro d md t L' st' h' Q) (kf : ¬ c → Rn ro d md f L' st' h' Q) : Rn ro d md pc L st h Q := by
  by_cases hc : c
  · exact R_go k (fun n => by rw [e n, decide_eq_true hc]; rfl) (kt hc)
  · exact R_go k (fun n => by rw [e n, decide_eq_false hc]; rfl) (kf hc)
theorem R_ifn (k : Nat) {c : Prop} [Decidable c] {t f : Nat} {L' : xL} {st' : List Value} {h' : xH} (e : ∀ n, exec ro (n + k) d md pc L st h 0 0 = exec ro n d md (bif decide (¬ c) then t else f) L' st' h' 0 0) (kt : ¬ c → Rn ro d md t L' st' h' Q) (kf : c → Rn ro d md f L' st' h' Q) : Rn ro d md pc L st h Q := R_if k e kt (fun q => kf (Decidable.not_not.mp q))
theorem R_ret (k : Nat) {pcr : Nat} {v : Option Value} {h' : xH} (e : ∀ n, exec ro (n + k) d md pc L st h 0 0 = some (pcr, v, h', 0, 0)) (q : Q v h') : Rn ro d md pc L st h Q := ⟨0 + k, pcr, v, h', e 0, q⟩
theorem R_call {i : Instr} {kd : Nat} {y : MD} {as r : List Value} {L0 : xL} {Q' : Option Value → xH → Prop} (hi : mdI md pc = some (i, 3)) (hl : xLen i 3 = true) (hr : xRet md i st = none) (hc : xCal md i = some (kd, y)) (hp : xPre kd y st h = some (as, r)) (he : xEnt y as = some L0) (hy : Rn ro d y 0 L0 [] h Q') (kk : ∀ v h1, Q' v h1 → Rn ro (d + 1) md (pc + 3) L (v.toList ++ r) h1 Q) : Rn ro (d + 1) md pc L st h Q := by
  obtain ⟨n, pcr, v, h1, hx, q⟩ := hy
  obtain ⟨n2, pcr2, v2, h2, hx2, q2⟩ := kk v h1 q
  refine ⟨(n + n2) + 1, pcr2, v2, h2, ?_, q2⟩
  unfold exec
  rw [hi]
  dsimp only
  rw [hl, cond_true, hr]
  dsimp only
  rw [hc]
  dsimp only
  rw [hp]
  dsimp only
  rw [he]
  dsimp only
  rw [exec_le ro hx (by omega)]
  exact exec_le ro hx2 (by omega)
/-- the answer and the heap are known -/
theorem R_callD {i : Instr} {kd : Nat} {y : MD} {as r : List Value} {L0 : xL} {v : Option Value} {h' : xH} (hi : mdI md pc = some (i, 3)) (hl : xLen i 3 = true) (hr : xRet md i st = none) (hc : xCal md i = some (kd, y)) (hp : xPre kd y st h = some (as, r)) (he : xEnt y as = some L0) (hy : Rn ro d y 0 L0 [] h (fun w h1 => w = v ∧ h1 = h')) {pc' : Nat} {st' : List Value} (kk : Rn ro (d + 1) md pc' L st' h' Q) (hpc : pc + 3 = pc' := by rfl) (hst : v.toList ++ r = st' := by rfl) : Rn ro (d + 1) md pc L st h Q := by
  subst hpc
  subst hst
  exact R_call hi hl hr hc hp he hy (fun w h1 q => by rw [q.1, q.2]; exact kk)
/-- one of two ways -/
theorem R_call2 {i : Instr} {kd : Nat} {y : MD} {as r : List Value} {L0 : xL} {A B : Prop} {v1 v2 : Option Value} {h1' h2' : xH} (hi : mdI md pc = some (i, 3)) (hl : xLen i 3 = true) (hr : xRet md i st = none) (hc : xCal md i = some (kd, y)) (hp : xPre kd y st h = some (as, r)) (he : xEnt y as = some L0) (hy : Rn ro d y 0 L0 [] h (fun w h1 => (A ∧ w = v1 ∧ h1 = h1') ∨ (B ∧ w = v2 ∧ h1 = h2'))) {pc' : Nat} {st1 st2 : List Value} (k1 : A → Rn ro (d + 1) md pc' L st1 h1' Q) (k2 : B → Rn ro (d + 1) md pc' L st2 h2' Q) (hpc : pc + 3 = pc' := by rfl) (hst1 : v1.toList ++ r = st1 := by rfl) (hst2 : v2.toList ++ r = st2 := by rfl) : Rn ro (d + 1) md pc L st h Q := by
  subst hpc
  subst hst1
  subst hst2
  refine R_call hi hl hr hc hp he hy (fun w h1 q => ?_)
  rcases q with ⟨a, b, c⟩ | ⟨a, b, c⟩
  · rw [b, c]; exact k1 a
  · rw [b, c]; exact k2 a
/-- some way -/
theorem R_callE {α : Type} {i : Instr} {kd : Nat} {y : MD} {as r : List Value} {L0 : xL} {A : α → Prop} {v : α → Option Value} {h' : α → xH} (hi : mdI md pc = some (i, 3)) (hl : xLen i 3 = true) (hr : xRet md i st = none) (hc : xCal md i = some (kd, y)) (hp : xPre kd y st h = some (as, r)) (he : xEnt y as = some L0) (hy : Rn ro d y 0 L0 [] h (fun w h1 => ∃ x : α, A x ∧ w = v x ∧ h1 = h' x)) {pc' : Nat} {st' : α → List Value} (kk : ∀ x : α, A x → Rn ro (d + 1) md pc' L (st' x) (h' x) Q) (hpc : pc + 3 = pc' := by rfl) (hst : ∀ x, (v x).toList ++ r = st' x := by intro x; rfl) : Rn ro (d + 1) md pc L st h Q := by
  subst hpc
  refine R_call hi hl hr hc hp he hy (fun w h1 q => ?_)
  obtain ⟨x, a, b, c⟩ := q
  rw [b, c, hst x]
  exact kk x a
theorem Rn.deep (hr : Rn ro d md pc L st h Q) : Rn ro (d + 1) md pc L st h Q := by
  have key : ∀ (n d : Nat) (md : MD) (pc : Nat) (L : xL) (st : List Value) (h : xH) (ca sa : Nat) (r : xR), exec ro n d md pc L st h ca sa = some r → exec ro n (d + 1) md pc L st h ca sa = some r := by
    intro n
    induction n with
    | zero => intro d md pc L st h ca sa r hx; cases hx
    | succ n ih =>
      intro d md pc L st h ca sa r hx
      unfold exec at hx ⊢
      split at hx
      · cases hx
      · rename_i i hi
        try rw [hi]
        try dsimp only
        cases hlen : xLen i.1 i.2 with
        | false => rw [hlen] at hx; cases hx
        | true =>
          rw [hlen, cond_true] at hx
          rw [cond_true]
          split at hx
          · rename_i hw
            try rw [hw]
            exact hx
          · rename_i hw
            try rw [hw]
            split at hx
            · rename_i hc
              try rw [hc]
              try dsimp only
              split at hx
              · cases hx
              · split at hx
                · cases hx
                · rename_i hp
                  try rw [hp]
                  try dsimp only
                  split at hx
                  · cases hx
                  · rename_i he
                    try rw [he]
                    try dsimp only
                    split at hx
                    · cases hx
                    · rename_i hq
                      rw [ih _ _ _ _ _ _ _ _ _ hq]
                      exact ih _ _ _ _ _ _ _ _ _ hx
            · rename_i hc
              try rw [hc]
              try dsimp only
              split at hx
              · cases hx
              · rename_i hs
                try rw [hs]
                exact ih _ _ _ _ _ _ _ _ _ hx
  obtain ⟨n, pcr, v, h1, hx, q⟩ := hr
  exact ⟨n, pcr, v, h1, key _ _ _ _ _ _ _ _ _ _ hx, q⟩
end RUL
