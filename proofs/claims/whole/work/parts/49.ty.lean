/-! TEXTS at work: the runs -/
set_option maxRecDepth 100000 in
set_option maxHeartbeats 4000000 in
theorem c_named_0 {ro : xRO} {d : Nat} {M : xM} {T : Nat} {a b c : Int32} : Rn ro d M_X6_named 0 [some (.int 10000), some (.int a), some (.int b), some (.int c)] [] (mk M T) (fun r h => r = some (.int a) ∧ h = mk M T) := by
  refine R_ret 6 (pcr := 33) (v := some (.int a)) (h' := mk M T) (fun _ => rfl) ?_
  exact ⟨rfl, rfl⟩
set_option maxRecDepth 100000 in
set_option maxHeartbeats 4000000 in
theorem c_named_1 {ro : xRO} {d : Nat} {M : xM} {T : Nat} {a b c : Int32} : Rn ro d M_X6_named 0 [some (.int 10001), some (.int a), some (.int b), some (.int c)] [] (mk M T) (fun r h => r = some (.int b) ∧ h = mk M T) := by
  refine R_ret 6 (pcr := 35) (v := some (.int b)) (h' := mk M T) (fun _ => rfl) ?_
  exact ⟨rfl, rfl⟩
set_option maxRecDepth 100000 in
set_option maxHeartbeats 4000000 in
theorem c_named_2 {ro : xRO} {d : Nat} {M : xM} {T : Nat} {a b c : Int32} : Rn ro d M_X6_named 0 [some (.int 10002), some (.int a), some (.int b), some (.int c)] [] (mk M T) (fun r h => r = some (.int c) ∧ h = mk M T) := by
  refine R_ret 6 (pcr := 37) (v := some (.int c)) (h' := mk M T) (fun _ => rfl) ?_
  exact ⟨rfl, rfl⟩
set_option maxRecDepth 100000 in
set_option maxHeartbeats 4000000 in
theorem w14_push {ro : xRO} {d : Nat} {M : xM} {T : Nat} {Q : Option Value → xH → Prop} {g : Nat → Int32} {a b c : Int32} {t i k : Nat} {w : Option Value} (hk : M 14 2 = nI k) (k60 : k ≤ 60) (hi : i < k) {v : Nat} (v4 : v ≤ 9999) (hs : M 15 i = nI v) (t60 : t < 60) (k1 : Rn ro (d + 2) M_X6_workOut 6 [some (.ref 17), some (.int a), some (.int b), some (.int c), some (.int (nI (t + 1))), some (.int (nI (i + 1))), some (.int (nI v))] [] (mk (upA M 16 (upd g t (nI v))) T) Q) : Rn ro (d + 2) M_X6_workOut 6 [some (.ref 17), some (.int a), some (.int b), some (.int c), some (.int (nI t)), some (.int (nI i)), w] [] (mk (upA M 16 g) T) Q := by
  refine R_go 3 (pc' := 12) (L' := [some (.ref 17), some (.int a), some (.int b), some (.int c), some (.int (nI t)), some (.int (nI i)), w]) (st' := [.int ((upA M 16 g) 14 2), .int (nI i)]) (h' := mk (upA M 16 g) T) (fun _ => rfl) ?_
  refine R_top (y := nI k) (hk) ?_
  refine R_if 1 (c := (nI k) ≤ (nI i)) (t := 178) (f := 15) (L' := [some (.ref 17), some (.int a), some (.int b), some (.int c), some (.int (nI t)), some (.int (nI i)), w]) (st' := []) (h' := mk (upA M 16 g) T) (fun _ => rfl) (fun g1 => ?_) (fun g1 => ?_)
  · replace g1 : k ≤ i := (nI_leI (a := k) (b := i) (by omega) (by omega)).mp g1
    omega
  · replace g1 : ¬ k ≤ i := fun q => g1 ((nI_leI (a := k) (b := i) (by omega) (by omega)).mpr q)
    refine R_if 5 (c := 60 ≤ (nI i)) (t := 178) (f := 25) (L' := [some (.ref 17), some (.int a), some (.int b), some (.int c), some (.int (nI t)), some (.int (nI i)), w]) (st' := []) (h' := mk (upA M 16 g) T) (fun _ => rfl) (fun g2 => ?_) (fun g2 => ?_)
    · replace g2 : 60 ≤ i := (nI_leI (a := 60) (b := i) (by omega) (by omega)).mp g2
      omega
    · replace g2 : ¬ 60 ≤ i := fun q => g2 ((nI_leI (a := 60) (b := i) (by omega) (by omega)).mpr q)
      refine R_go 3 (pc' := 31) (L' := [some (.ref 17), some (.int a), some (.int b), some (.int c), some (.int (nI t)), some (.int (nI i)), w]) (st' := [.int (nI i), .ref 18]) (h' := mk (upA M 16 g) T) (fun _ => rfl) ?_
      refine R_iald (c := 15) (n := 60) (j := i) rfl rfl (by omega) (by decide) ?_
      refine R_top (y := nI v) (hs) ?_
      refine R_if 4 (c := 20000 ≤ (nI v)) (t := 86) (f := 42) (L' := [some (.ref 17), some (.int a), some (.int b), some (.int c), some (.int (nI t)), some (.int (nI i)), some (.int (nI v))]) (st' := []) (h' := mk (upA M 16 g) T) (fun _ => rfl) (fun g3 => ?_) (fun g3 => ?_)
      · replace g3 : 20000 ≤ v := (nI_leI (a := 20000) (b := v) (by omega) (by omega)).mp g3
        omega
      · replace g3 : ¬ 20000 ≤ v := fun q => g3 ((nI_leI (a := 20000) (b := v) (by omega) (by omega)).mpr q)
        refine R_if 5 (c := 60 ≤ (nI t)) (t := 172) (f := 52) (L' := [some (.ref 17), some (.int a), some (.int b), some (.int c), some (.int (nI t)), some (.int (nI i)), some (.int (nI v))]) (st' := []) (h' := mk (upA M 16 g) T) (fun _ => rfl) (fun g4 => ?_) (fun g4 => ?_)
        · replace g4 : 60 ≤ t := (nI_leI (a := 60) (b := t) (by omega) (by omega)).mp g4
          omega
        · replace g4 : ¬ 60 ≤ t := fun q => g4 ((nI_leI (a := 60) (b := t) (by omega) (by omega)).mpr q)
          refine R_if 6 (c := 10000 ≤ (nI v)) (t := 71) (f := 66) (L' := [some (.ref 17), some (.int a), some (.int b), some (.int c), some (.int (nI t)), some (.int (nI i)), some (.int (nI v))]) (st' := [.int (nI t), .ref 19]) (h' := mk (upA M 16 g) T) (fun _ => rfl) (fun g5 => ?_) (fun g5 => ?_)
          · replace g5 : 10000 ≤ v := (nI_leI (a := 10000) (b := v) (by omega) (by omega)).mp g5
            omega
          · replace g5 : ¬ 10000 ≤ v := fun q => g5 ((nI_leI (a := 10000) (b := v) (by omega) (by omega)).mpr q)
            refine R_go 2 (pc' := 79) (L' := [some (.ref 17), some (.int a), some (.int b), some (.int c), some (.int (nI t)), some (.int (nI i)), some (.int (nI v))]) (st' := [.int (nI v), .int (nI t), .ref 19]) (h' := mk (upA M 16 g) T) (fun _ => rfl) ?_
            refine R_iast (c := 16) (n := 60) (j := t) rfl rfl (by omega) (by decide) ?_
            refine R_go 1 (pc' := 83) (L' := [some (.ref 17), some (.int a), some (.int b), some (.int c), some (.int ((nI t) + 1)), some (.int (nI i)), some (.int (nI v))]) (st' := []) (h' := mk (up (upA M 16 g) 16 t (nI v)) T) (fun _ => rfl) ?_
            rw [nI_1]
            refine R_go 2 (pc' := 175) (L' := [some (.ref 17), some (.int a), some (.int b), some (.int c), some (.int (nI (t + 1))), some (.int ((nI i) + 1)), some (.int (nI v))]) (st' := []) (h' := mk (up (upA M 16 g) 16 t (nI v)) T) (fun _ => rfl) ?_
            rw [nI_1]
            refine R_go 1 (pc' := 6) (L' := [some (.ref 17), some (.int a), some (.int b), some (.int c), some (.int (nI (t + 1))), some (.int (nI (i + 1))), some (.int (nI v))]) (st' := []) (h' := mk (up (upA M 16 g) 16 t (nI v)) T) (fun _ => rfl) ?_
            rw [up_upA]
            exact k1
set_option maxRecDepth 100000 in
set_option maxHeartbeats 4000000 in
theorem w14_name_0 {ro : xRO} {d : Nat} {M : xM} {T : Nat} {Q : Option Value → xH → Prop} {g : Nat → Int32} {a b c : Int32} {t i k : Nat} {w : Option Value} (hk : M 14 2 = nI k) (k60 : k ≤ 60) (hi : i < k) (hs : M 15 i = 10000) (t60 : t < 60) (k1 : Rn ro (d + 2) M_X6_workOut 6 [some (.ref 17), some (.int a), some (.int b), some (.int c), some (.int (nI (t + 1))), some (.int (nI (i + 1))), some (.int 10000)] [] (mk (upA M 16 (upd g t a)) T) Q) : Rn ro (d + 2) M_X6_workOut 6 [some (.ref 17), some (.int a), some (.int b), some (.int c), some (.int (nI t)), some (.int (nI i)), w] [] (mk (upA M 16 g) T) Q := by
  refine R_go 3 (pc' := 12) (L' := [some (.ref 17), some (.int a), some (.int b), some (.int c), some (.int (nI t)), some (.int (nI i)), w]) (st' := [.int ((upA M 16 g) 14 2), .int (nI i)]) (h' := mk (upA M 16 g) T) (fun _ => rfl) ?_
  refine R_top (y := nI k) (hk) ?_
  refine R_if 1 (c := (nI k) ≤ (nI i)) (t := 178) (f := 15) (L' := [some (.ref 17), some (.int a), some (.int b), some (.int c), some (.int (nI t)), some (.int (nI i)), w]) (st' := []) (h' := mk (upA M 16 g) T) (fun _ => rfl) (fun g1 => ?_) (fun g1 => ?_)
  · replace g1 : k ≤ i := (nI_leI (a := k) (b := i) (by omega) (by omega)).mp g1
    omega
  · replace g1 : ¬ k ≤ i := fun q => g1 ((nI_leI (a := k) (b := i) (by omega) (by omega)).mpr q)
    refine R_if 5 (c := 60 ≤ (nI i)) (t := 178) (f := 25) (L' := [some (.ref 17), some (.int a), some (.int b), some (.int c), some (.int (nI t)), some (.int (nI i)), w]) (st' := []) (h' := mk (upA M 16 g) T) (fun _ => rfl) (fun g2 => ?_) (fun g2 => ?_)
    · replace g2 : 60 ≤ i := (nI_leI (a := 60) (b := i) (by omega) (by omega)).mp g2
      omega
    · replace g2 : ¬ 60 ≤ i := fun q => g2 ((nI_leI (a := 60) (b := i) (by omega) (by omega)).mpr q)
      refine R_go 3 (pc' := 31) (L' := [some (.ref 17), some (.int a), some (.int b), some (.int c), some (.int (nI t)), some (.int (nI i)), w]) (st' := [.int (nI i), .ref 18]) (h' := mk (upA M 16 g) T) (fun _ => rfl) ?_
      refine R_iald (c := 15) (n := 60) (j := i) rfl rfl (by omega) (by decide) ?_
      refine R_top (y := 10000) (hs) ?_
      refine R_if 9 (c := 60 ≤ (nI t)) (t := 172) (f := 52) (L' := [some (.ref 17), some (.int a), some (.int b), some (.int c), some (.int (nI t)), some (.int (nI i)), some (.int 10000)]) (st' := []) (h' := mk (upA M 16 g) T) (fun _ => rfl) (fun g3 => ?_) (fun g3 => ?_)
      · replace g3 : 60 ≤ t := (nI_leI (a := 60) (b := t) (by omega) (by omega)).mp g3
        omega
      · replace g3 : ¬ 60 ≤ t := fun q => g3 ((nI_leI (a := 60) (b := t) (by omega) (by omega)).mpr q)
        refine R_go 10 (pc' := 76) (L' := [some (.ref 17), some (.int a), some (.int b), some (.int c), some (.int (nI t)), some (.int (nI i)), some (.int 10000)]) (st' := [.int c, .int b, .int a, .int 10000, .int (nI t), .ref 19]) (h' := mk (upA M 16 g) T) (fun _ => rfl) ?_
        refine R_callD (i := .invokestatic 28) (kd := 1) (y := M_X6_named) (as := [.int 10000, .int a, .int b, .int c]) (r := [.int (nI t), .ref 19]) (L0 := [some (.int 10000), some (.int a), some (.int b), some (.int c)]) (v := some (.int a)) (h' := mk (upA M 16 g) T) (pc' := 79) (st' := [.int a, .int (nI t), .ref 19]) rfl rfl rfl rfl rfl rfl (c_named_0) ?_
        refine R_iast (c := 16) (n := 60) (j := t) rfl rfl (by omega) (by decide) ?_
        refine R_go 1 (pc' := 83) (L' := [some (.ref 17), some (.int a), some (.int b), some (.int c), some (.int ((nI t) + 1)), some (.int (nI i)), some (.int 10000)]) (st' := []) (h' := mk (up (upA M 16 g) 16 t a) T) (fun _ => rfl) ?_
        rw [nI_1]
        refine R_go 2 (pc' := 175) (L' := [some (.ref 17), some (.int a), some (.int b), some (.int c), some (.int (nI (t + 1))), some (.int ((nI i) + 1)), some (.int 10000)]) (st' := []) (h' := mk (up (upA M 16 g) 16 t a) T) (fun _ => rfl) ?_
        rw [nI_1]
        refine R_go 1 (pc' := 6) (L' := [some (.ref 17), some (.int a), some (.int b), some (.int c), some (.int (nI (t + 1))), some (.int (nI (i + 1))), some (.int 10000)]) (st' := []) (h' := mk (up (upA M 16 g) 16 t a) T) (fun _ => rfl) ?_
        rw [up_upA]
        exact k1
set_option maxRecDepth 100000 in
set_option maxHeartbeats 4000000 in
theorem w14_name_1 {ro : xRO} {d : Nat} {M : xM} {T : Nat} {Q : Option Value → xH → Prop} {g : Nat → Int32} {a b c : Int32} {t i k : Nat} {w : Option Value} (hk : M 14 2 = nI k) (k60 : k ≤ 60) (hi : i < k) (hs : M 15 i = 10001) (t60 : t < 60) (k1 : Rn ro (d + 2) M_X6_workOut 6 [some (.ref 17), some (.int a), some (.int b), some (.int c), some (.int (nI (t + 1))), some (.int (nI (i + 1))), some (.int 10001)] [] (mk (upA M 16 (upd g t b)) T) Q) : Rn ro (d + 2) M_X6_workOut 6 [some (.ref 17), some (.int a), some (.int b), some (.int c), some (.int (nI t)), some (.int (nI i)), w] [] (mk (upA M 16 g) T) Q := by
  refine R_go 3 (pc' := 12) (L' := [some (.ref 17), some (.int a), some (.int b), some (.int c), some (.int (nI t)), some (.int (nI i)), w]) (st' := [.int ((upA M 16 g) 14 2), .int (nI i)]) (h' := mk (upA M 16 g) T) (fun _ => rfl) ?_
  refine R_top (y := nI k) (hk) ?_
  refine R_if 1 (c := (nI k) ≤ (nI i)) (t := 178) (f := 15) (L' := [some (.ref 17), some (.int a), some (.int b), some (.int c), some (.int (nI t)), some (.int (nI i)), w]) (st' := []) (h' := mk (upA M 16 g) T) (fun _ => rfl) (fun g1 => ?_) (fun g1 => ?_)
  · replace g1 : k ≤ i := (nI_leI (a := k) (b := i) (by omega) (by omega)).mp g1
    omega
  · replace g1 : ¬ k ≤ i := fun q => g1 ((nI_leI (a := k) (b := i) (by omega) (by omega)).mpr q)
    refine R_if 5 (c := 60 ≤ (nI i)) (t := 178) (f := 25) (L' := [some (.ref 17), some (.int a), some (.int b), some (.int c), some (.int (nI t)), some (.int (nI i)), w]) (st' := []) (h' := mk (upA M 16 g) T) (fun _ => rfl) (fun g2 => ?_) (fun g2 => ?_)
    · replace g2 : 60 ≤ i := (nI_leI (a := 60) (b := i) (by omega) (by omega)).mp g2
      omega
    · replace g2 : ¬ 60 ≤ i := fun q => g2 ((nI_leI (a := 60) (b := i) (by omega) (by omega)).mpr q)
      refine R_go 3 (pc' := 31) (L' := [some (.ref 17), some (.int a), some (.int b), some (.int c), some (.int (nI t)), some (.int (nI i)), w]) (st' := [.int (nI i), .ref 18]) (h' := mk (upA M 16 g) T) (fun _ => rfl) ?_
      refine R_iald (c := 15) (n := 60) (j := i) rfl rfl (by omega) (by decide) ?_
      refine R_top (y := 10001) (hs) ?_
      refine R_if 9 (c := 60 ≤ (nI t)) (t := 172) (f := 52) (L' := [some (.ref 17), some (.int a), some (.int b), some (.int c), some (.int (nI t)), some (.int (nI i)), some (.int 10001)]) (st' := []) (h' := mk (upA M 16 g) T) (fun _ => rfl) (fun g3 => ?_) (fun g3 => ?_)
      · replace g3 : 60 ≤ t := (nI_leI (a := 60) (b := t) (by omega) (by omega)).mp g3
        omega
      · replace g3 : ¬ 60 ≤ t := fun q => g3 ((nI_leI (a := 60) (b := t) (by omega) (by omega)).mpr q)
        refine R_go 10 (pc' := 76) (L' := [some (.ref 17), some (.int a), some (.int b), some (.int c), some (.int (nI t)), some (.int (nI i)), some (.int 10001)]) (st' := [.int c, .int b, .int a, .int 10001, .int (nI t), .ref 19]) (h' := mk (upA M 16 g) T) (fun _ => rfl) ?_
        refine R_callD (i := .invokestatic 28) (kd := 1) (y := M_X6_named) (as := [.int 10001, .int a, .int b, .int c]) (r := [.int (nI t), .ref 19]) (L0 := [some (.int 10001), some (.int a), some (.int b), some (.int c)]) (v := some (.int b)) (h' := mk (upA M 16 g) T) (pc' := 79) (st' := [.int b, .int (nI t), .ref 19]) rfl rfl rfl rfl rfl rfl (c_named_1) ?_
        refine R_iast (c := 16) (n := 60) (j := t) rfl rfl (by omega) (by decide) ?_
        refine R_go 1 (pc' := 83) (L' := [some (.ref 17), some (.int a), some (.int b), some (.int c), some (.int ((nI t) + 1)), some (.int (nI i)), some (.int 10001)]) (st' := []) (h' := mk (up (upA M 16 g) 16 t b) T) (fun _ => rfl) ?_
        rw [nI_1]
        refine R_go 2 (pc' := 175) (L' := [some (.ref 17), some (.int a), some (.int b), some (.int c), some (.int (nI (t + 1))), some (.int ((nI i) + 1)), some (.int 10001)]) (st' := []) (h' := mk (up (upA M 16 g) 16 t b) T) (fun _ => rfl) ?_
        rw [nI_1]
        refine R_go 1 (pc' := 6) (L' := [some (.ref 17), some (.int a), some (.int b), some (.int c), some (.int (nI (t + 1))), some (.int (nI (i + 1))), some (.int 10001)]) (st' := []) (h' := mk (up (upA M 16 g) 16 t b) T) (fun _ => rfl) ?_
        rw [up_upA]
        exact k1
set_option maxRecDepth 100000 in
set_option maxHeartbeats 4000000 in
theorem w14_name_2 {ro : xRO} {d : Nat} {M : xM} {T : Nat} {Q : Option Value → xH → Prop} {g : Nat → Int32} {a b c : Int32} {t i k : Nat} {w : Option Value} (hk : M 14 2 = nI k) (k60 : k ≤ 60) (hi : i < k) (hs : M 15 i = 10002) (t60 : t < 60) (k1 : Rn ro (d + 2) M_X6_workOut 6 [some (.ref 17), some (.int a), some (.int b), some (.int c), some (.int (nI (t + 1))), some (.int (nI (i + 1))), some (.int 10002)] [] (mk (upA M 16 (upd g t c)) T) Q) : Rn ro (d + 2) M_X6_workOut 6 [some (.ref 17), some (.int a), some (.int b), some (.int c), some (.int (nI t)), some (.int (nI i)), w] [] (mk (upA M 16 g) T) Q := by
  refine R_go 3 (pc' := 12) (L' := [some (.ref 17), some (.int a), some (.int b), some (.int c), some (.int (nI t)), some (.int (nI i)), w]) (st' := [.int ((upA M 16 g) 14 2), .int (nI i)]) (h' := mk (upA M 16 g) T) (fun _ => rfl) ?_
  refine R_top (y := nI k) (hk) ?_
  refine R_if 1 (c := (nI k) ≤ (nI i)) (t := 178) (f := 15) (L' := [some (.ref 17), some (.int a), some (.int b), some (.int c), some (.int (nI t)), some (.int (nI i)), w]) (st' := []) (h' := mk (upA M 16 g) T) (fun _ => rfl) (fun g1 => ?_) (fun g1 => ?_)
  · replace g1 : k ≤ i := (nI_leI (a := k) (b := i) (by omega) (by omega)).mp g1
    omega
  · replace g1 : ¬ k ≤ i := fun q => g1 ((nI_leI (a := k) (b := i) (by omega) (by omega)).mpr q)
    refine R_if 5 (c := 60 ≤ (nI i)) (t := 178) (f := 25) (L' := [some (.ref 17), some (.int a), some (.int b), some (.int c), some (.int (nI t)), some (.int (nI i)), w]) (st' := []) (h' := mk (upA M 16 g) T) (fun _ => rfl) (fun g2 => ?_) (fun g2 => ?_)
    · replace g2 : 60 ≤ i := (nI_leI (a := 60) (b := i) (by omega) (by omega)).mp g2
      omega
    · replace g2 : ¬ 60 ≤ i := fun q => g2 ((nI_leI (a := 60) (b := i) (by omega) (by omega)).mpr q)
      refine R_go 3 (pc' := 31) (L' := [some (.ref 17), some (.int a), some (.int b), some (.int c), some (.int (nI t)), some (.int (nI i)), w]) (st' := [.int (nI i), .ref 18]) (h' := mk (upA M 16 g) T) (fun _ => rfl) ?_
      refine R_iald (c := 15) (n := 60) (j := i) rfl rfl (by omega) (by decide) ?_
      refine R_top (y := 10002) (hs) ?_
      refine R_if 9 (c := 60 ≤ (nI t)) (t := 172) (f := 52) (L' := [some (.ref 17), some (.int a), some (.int b), some (.int c), some (.int (nI t)), some (.int (nI i)), some (.int 10002)]) (st' := []) (h' := mk (upA M 16 g) T) (fun _ => rfl) (fun g3 => ?_) (fun g3 => ?_)
      · replace g3 : 60 ≤ t := (nI_leI (a := 60) (b := t) (by omega) (by omega)).mp g3
        omega
      · replace g3 : ¬ 60 ≤ t := fun q => g3 ((nI_leI (a := 60) (b := t) (by omega) (by omega)).mpr q)
        refine R_go 10 (pc' := 76) (L' := [some (.ref 17), some (.int a), some (.int b), some (.int c), some (.int (nI t)), some (.int (nI i)), some (.int 10002)]) (st' := [.int c, .int b, .int a, .int 10002, .int (nI t), .ref 19]) (h' := mk (upA M 16 g) T) (fun _ => rfl) ?_
        refine R_callD (i := .invokestatic 28) (kd := 1) (y := M_X6_named) (as := [.int 10002, .int a, .int b, .int c]) (r := [.int (nI t), .ref 19]) (L0 := [some (.int 10002), some (.int a), some (.int b), some (.int c)]) (v := some (.int c)) (h' := mk (upA M 16 g) T) (pc' := 79) (st' := [.int c, .int (nI t), .ref 19]) rfl rfl rfl rfl rfl rfl (c_named_2) ?_
        refine R_iast (c := 16) (n := 60) (j := t) rfl rfl (by omega) (by decide) ?_
        refine R_go 1 (pc' := 83) (L' := [some (.ref 17), some (.int a), some (.int b), some (.int c), some (.int ((nI t) + 1)), some (.int (nI i)), some (.int 10002)]) (st' := []) (h' := mk (up (upA M 16 g) 16 t c) T) (fun _ => rfl) ?_
        rw [nI_1]
        refine R_go 2 (pc' := 175) (L' := [some (.ref 17), some (.int a), some (.int b), some (.int c), some (.int (nI (t + 1))), some (.int ((nI i) + 1)), some (.int 10002)]) (st' := []) (h' := mk (up (upA M 16 g) 16 t c) T) (fun _ => rfl) ?_
        rw [nI_1]
        refine R_go 1 (pc' := 6) (L' := [some (.ref 17), some (.int a), some (.int b), some (.int c), some (.int (nI (t + 1))), some (.int (nI (i + 1))), some (.int 10002)]) (st' := []) (h' := mk (up (upA M 16 g) 16 t c) T) (fun _ => rfl) ?_
        rw [up_upA]
        exact k1
set_option maxRecDepth 100000 in
set_option maxHeartbeats 4000000 in
theorem w14_not {ro : xRO} {d : Nat} {M : xM} {T : Nat} {Q : Option Value → xH → Prop} {g : Nat → Int32} {a b c : Int32} {t i k : Nat} {w : Option Value} (hk : M 14 2 = nI k) (k60 : k ≤ 60) (hi : i < k) (hs : M 15 i = 20033) (t1 : 1 ≤ t) (t60 : t ≤ 60) (k1 : Rn ro (d + 2) M_X6_workOut 6 [some (.ref 17), some (.int a), some (.int b), some (.int c), some (.int (nI t)), some (.int (nI (i + 1))), some (.int 20033)] [] (mk (upA M 16 (upd g (t - 1) (if g (t - 1) = 0 then 1 else 0))) T) Q) : Rn ro (d + 2) M_X6_workOut 6 [some (.ref 17), some (.int a), some (.int b), some (.int c), some (.int (nI t)), some (.int (nI i)), w] [] (mk (upA M 16 g) T) Q := by
  refine R_go 3 (pc' := 12) (L' := [some (.ref 17), some (.int a), some (.int b), some (.int c), some (.int (nI t)), some (.int (nI i)), w]) (st' := [.int ((upA M 16 g) 14 2), .int (nI i)]) (h' := mk (upA M 16 g) T) (fun _ => rfl) ?_
  refine R_top (y := nI k) (hk) ?_
  refine R_if 1 (c := (nI k) ≤ (nI i)) (t := 178) (f := 15) (L' := [some (.ref 17), some (.int a), some (.int b), some (.int c), some (.int (nI t)), some (.int (nI i)), w]) (st' := []) (h' := mk (upA M 16 g) T) (fun _ => rfl) (fun g1 => ?_) (fun g1 => ?_)
  · replace g1 : k ≤ i := (nI_leI (a := k) (b := i) (by omega) (by omega)).mp g1
    omega
  · replace g1 : ¬ k ≤ i := fun q => g1 ((nI_leI (a := k) (b := i) (by omega) (by omega)).mpr q)
    refine R_if 5 (c := 60 ≤ (nI i)) (t := 178) (f := 25) (L' := [some (.ref 17), some (.int a), some (.int b), some (.int c), some (.int (nI t)), some (.int (nI i)), w]) (st' := []) (h' := mk (upA M 16 g) T) (fun _ => rfl) (fun g2 => ?_) (fun g2 => ?_)
    · replace g2 : 60 ≤ i := (nI_leI (a := 60) (b := i) (by omega) (by omega)).mp g2
      omega
    · replace g2 : ¬ 60 ≤ i := fun q => g2 ((nI_leI (a := 60) (b := i) (by omega) (by omega)).mpr q)
      refine R_go 3 (pc' := 31) (L' := [some (.ref 17), some (.int a), some (.int b), some (.int c), some (.int (nI t)), some (.int (nI i)), w]) (st' := [.int (nI i), .ref 18]) (h' := mk (upA M 16 g) T) (fun _ => rfl) ?_
      refine R_iald (c := 15) (n := 60) (j := i) rfl rfl (by omega) (by decide) ?_
      refine R_top (y := 20033) (hs) ?_
      refine R_if 10 (c := (nI t) < 1) (t := 172) (f := 100) (L' := [some (.ref 17), some (.int a), some (.int b), some (.int c), some (.int (nI t)), some (.int (nI i)), some (.int 20033)]) (st' := []) (h' := mk (upA M 16 g) T) (fun _ => rfl) (fun g3 => ?_) (fun g3 => ?_)
      · replace g3 : t < 1 := (nI_ltI (a := t) (b := 1) (by omega) (by omega)).mp g3
        omega
      · replace g3 : ¬ t < 1 := fun q => g3 ((nI_ltI (a := t) (b := 1) (by omega) (by omega)).mpr q)
        refine R_go 5 (pc' := 108) (L' := [some (.ref 17), some (.int a), some (.int b), some (.int c), some (.int (nI t)), some (.int (nI i)), some (.int 20033)]) (st' := [.int (nI t - 1), .ref 19]) (h' := mk (upA M 16 g) T) (fun _ => rfl) ?_
        refine R_top (pk_sub (a := t) (b := 1) (by omega)) ?_
        refine R_go 5 (pc' := 116) (L' := [some (.ref 17), some (.int a), some (.int b), some (.int c), some (.int (nI t)), some (.int (nI i)), some (.int 20033)]) (st' := [.int (nI t - 1), .ref 19, .int (nI (t - 1)), .ref 19]) (h' := mk (upA M 16 g) T) (fun _ => rfl) ?_
        refine R_top (pk_sub (a := t) (b := 1) (by omega)) ?_
        refine R_iald (c := 16) (n := 60) (j := t - 1) rfl rfl (by omega) (by decide) ?_
        refine R_top (y := g (t - 1)) (congrFun upA_eq _) ?_
        refine R_ifn 1 (c := (g (t - 1)) = 0) (t := 124) (f := 120) (L' := [some (.ref 17), some (.int a), some (.int b), some (.int c), some (.int (nI t)), some (.int (nI i)), some (.int 20033)]) (st' := [.int (nI (t - 1)), .ref 19]) (h' := mk (upA M 16 g) T) (fun _ => rfl) (fun g4 => ?_) (fun g4 => ?_)
        · refine R_go 1 (pc' := 125) (L' := [some (.ref 17), some (.int a), some (.int b), some (.int c), some (.int (nI t)), some (.int (nI i)), some (.int 20033)]) (st' := [.int 0, .int (nI (t - 1)), .ref 19]) (h' := mk (upA M 16 g) T) (fun _ => rfl) ?_
          refine R_iast (c := 16) (n := 60) (j := t - 1) rfl rfl (by omega) (by decide) ?_
          refine R_go 2 (pc' := 175) (L' := [some (.ref 17), some (.int a), some (.int b), some (.int c), some (.int (nI t)), some (.int ((nI i) + 1)), some (.int 20033)]) (st' := []) (h' := mk (up (upA M 16 g) 16 (t - 1) 0) T) (fun _ => rfl) ?_
          rw [nI_1]
          refine R_go 1 (pc' := 6) (L' := [some (.ref 17), some (.int a), some (.int b), some (.int c), some (.int (nI t)), some (.int (nI (i + 1))), some (.int 20033)]) (st' := []) (h' := mk (up (upA M 16 g) 16 (t - 1) 0) T) (fun _ => rfl) ?_
          rw [if_neg g4] at k1
          rw [up_upA]
          exact k1
        · refine R_go 2 (pc' := 125) (L' := [some (.ref 17), some (.int a), some (.int b), some (.int c), some (.int (nI t)), some (.int (nI i)), some (.int 20033)]) (st' := [.int 1, .int (nI (t - 1)), .ref 19]) (h' := mk (upA M 16 g) T) (fun _ => rfl) ?_
          refine R_iast (c := 16) (n := 60) (j := t - 1) rfl rfl (by omega) (by decide) ?_
          refine R_go 2 (pc' := 175) (L' := [some (.ref 17), some (.int a), some (.int b), some (.int c), some (.int (nI t)), some (.int ((nI i) + 1)), some (.int 20033)]) (st' := []) (h' := mk (up (upA M 16 g) 16 (t - 1) 1) T) (fun _ => rfl) ?_
          rw [nI_1]
          refine R_go 1 (pc' := 6) (L' := [some (.ref 17), some (.int a), some (.int b), some (.int c), some (.int (nI t)), some (.int (nI (i + 1))), some (.int 20033)]) (st' := []) (h' := mk (up (upA M 16 g) 16 (t - 1) 1) T) (fun _ => rfl) ?_
          rw [if_pos g4] at k1
          rw [up_upA]
          exact k1
set_option maxRecDepth 100000 in
set_option maxHeartbeats 4000000 in
theorem w14_sig_124 {ro : xRO} {d : Nat} {M : xM} {T : Nat} {Q : Option Value → xH → Prop} {g : Nat → Int32} {a b c : Int32} {t i k : Nat} {w : Option Value} (hk : M 14 2 = nI k) (k60 : k ≤ 60) (hi : i < k) (hs : M 15 i = 20124) (t2 : 2 ≤ t) (t60 : t ≤ 60) (k1 : Rn ro (d + 2) M_X6_workOut 6 [some (.ref 17), some (.int a), some (.int b), some (.int c), some (.int (nI (t - 1))), some (.int (nI (i + 1))), some (.int 20124)] [] (mk (upA M 16 (upd g (t - 2) (jn 124 (g (t - 2)) (g (t - 1))))) T) Q) : Rn ro (d + 2) M_X6_workOut 6 [some (.ref 17), some (.int a), some (.int b), some (.int c), some (.int (nI t)), some (.int (nI i)), w] [] (mk (upA M 16 g) T) Q := by
  refine R_go 3 (pc' := 12) (L' := [some (.ref 17), some (.int a), some (.int b), some (.int c), some (.int (nI t)), some (.int (nI i)), w]) (st' := [.int ((upA M 16 g) 14 2), .int (nI i)]) (h' := mk (upA M 16 g) T) (fun _ => rfl) ?_
  refine R_top (y := nI k) (hk) ?_
  refine R_if 1 (c := (nI k) ≤ (nI i)) (t := 178) (f := 15) (L' := [some (.ref 17), some (.int a), some (.int b), some (.int c), some (.int (nI t)), some (.int (nI i)), w]) (st' := []) (h' := mk (upA M 16 g) T) (fun _ => rfl) (fun g1 => ?_) (fun g1 => ?_)
  · replace g1 : k ≤ i := (nI_leI (a := k) (b := i) (by omega) (by omega)).mp g1
    omega
  · replace g1 : ¬ k ≤ i := fun q => g1 ((nI_leI (a := k) (b := i) (by omega) (by omega)).mpr q)
    refine R_if 5 (c := 60 ≤ (nI i)) (t := 178) (f := 25) (L' := [some (.ref 17), some (.int a), some (.int b), some (.int c), some (.int (nI t)), some (.int (nI i)), w]) (st' := []) (h' := mk (upA M 16 g) T) (fun _ => rfl) (fun g2 => ?_) (fun g2 => ?_)
    · replace g2 : 60 ≤ i := (nI_leI (a := 60) (b := i) (by omega) (by omega)).mp g2
      omega
    · replace g2 : ¬ 60 ≤ i := fun q => g2 ((nI_leI (a := 60) (b := i) (by omega) (by omega)).mpr q)
      refine R_go 3 (pc' := 31) (L' := [some (.ref 17), some (.int a), some (.int b), some (.int c), some (.int (nI t)), some (.int (nI i)), w]) (st' := [.int (nI i), .ref 18]) (h' := mk (upA M 16 g) T) (fun _ => rfl) ?_
      refine R_iald (c := 15) (n := 60) (j := i) rfl rfl (by omega) (by decide) ?_
      refine R_top (y := 20124) (hs) ?_
      refine R_if 10 (c := (nI t) < 2) (t := 172) (f := 135) (L' := [some (.ref 17), some (.int a), some (.int b), some (.int c), some (.int (nI t)), some (.int (nI i)), some (.int 20124)]) (st' := []) (h' := mk (upA M 16 g) T) (fun _ => rfl) (fun g3 => ?_) (fun g3 => ?_)
      · replace g3 : t < 2 := (nI_ltI (a := t) (b := 2) (by omega) (by omega)).mp g3
        omega
      · replace g3 : ¬ t < 2 := fun q => g3 ((nI_ltI (a := t) (b := 2) (by omega) (by omega)).mpr q)
        refine R_stp (i := .iinc 4 (-1)) (len := 3) (pc' := 138) (L' := [some (.ref 17), some (.int a), some (.int b), some (.int c), some (.int ((nI t) + -1)), some (.int (nI i)), some (.int 20124)]) (st' := []) (h' := mk (upA M 16 g) T) rfl rfl rfl rfl rfl ?_
        rw [nI_m1 (t := t) (by omega)]
        refine R_go 5 (pc' := 146) (L' := [some (.ref 17), some (.int a), some (.int b), some (.int c), some (.int (nI (t - 1))), some (.int (nI i)), some (.int 20124)]) (st' := [.int (nI (t - 1) - 1), .ref 19]) (h' := mk (upA M 16 g) T) (fun _ => rfl) ?_
        refine R_top (pk_sub (a := t - 1) (b := 1) (by omega)) ?_
        refine R_go 8 (pc' := 160) (L' := [some (.ref 17), some (.int a), some (.int b), some (.int c), some (.int (nI (t - 1))), some (.int (nI i)), some (.int 20124)]) (st' := [.int (nI (t - 1) - 1), .ref 19, .int 124, .int (nI ((t - 1) - 1)), .ref 19]) (h' := mk (upA M 16 g) T) (fun _ => rfl) ?_
        refine R_top (pk_sub (a := t - 1) (b := 1) (by omega)) ?_
        refine R_iald (c := 16) (n := 60) (j := (t - 1) - 1) rfl rfl (by omega) (by decide) ?_
        refine R_top (y := g ((t - 1) - 1)) (congrFun upA_eq _) ?_
        refine R_go 3 (pc' := 167) (L' := [some (.ref 17), some (.int a), some (.int b), some (.int c), some (.int (nI (t - 1))), some (.int (nI i)), some (.int 20124)]) (st' := [.int (nI (t - 1)), .ref 19, .int (g ((t - 1) - 1)), .int 124, .int (nI ((t - 1) - 1)), .ref 19]) (h' := mk (upA M 16 g) T) (fun _ => rfl) ?_
        refine R_iald (c := 16) (n := 60) (j := t - 1) rfl rfl (by omega) (by decide) ?_
        refine R_top (y := g (t - 1)) (congrFun upA_eq _) ?_
        refine R_callD (i := .invokestatic 32) (kd := 1) (y := M_X6_joined) (as := [.int 124, .int (g ((t - 1) - 1)), .int (g (t - 1))]) (r := [.int (nI ((t - 1) - 1)), .ref 19]) (L0 := [some (.int 124), some (.int (g ((t - 1) - 1))), some (.int (g (t - 1)))]) (v := some (.int (jn 124 (g ((t - 1) - 1)) (g (t - 1))))) (h' := mk (upA M 16 g) T) (pc' := 171) (st' := [.int (jn 124 (g ((t - 1) - 1)) (g (t - 1))), .int (nI ((t - 1) - 1)), .ref 19]) rfl rfl rfl rfl rfl rfl (c_joined_124) ?_
        refine R_iast (c := 16) (n := 60) (j := (t - 1) - 1) rfl rfl (by omega) (by decide) ?_
        refine R_go 1 (pc' := 175) (L' := [some (.ref 17), some (.int a), some (.int b), some (.int c), some (.int (nI (t - 1))), some (.int ((nI i) + 1)), some (.int 20124)]) (st' := []) (h' := mk (up (upA M 16 g) 16 ((t - 1) - 1) (jn 124 (g ((t - 1) - 1)) (g (t - 1)))) T) (fun _ => rfl) ?_
        rw [nI_1]
        refine R_go 1 (pc' := 6) (L' := [some (.ref 17), some (.int a), some (.int b), some (.int c), some (.int (nI (t - 1))), some (.int (nI (i + 1))), some (.int 20124)]) (st' := []) (h' := mk (up (upA M 16 g) 16 ((t - 1) - 1) (jn 124 (g ((t - 1) - 1)) (g (t - 1)))) T) (fun _ => rfl) ?_
        rw [up_upA, show t - 1 - 1 = t - 2 by omega]
        exact k1
set_option maxRecDepth 100000 in
set_option maxHeartbeats 4000000 in
theorem w14_sig_38 {ro : xRO} {d : Nat} {M : xM} {T : Nat} {Q : Option Value → xH → Prop} {g : Nat → Int32} {a b c : Int32} {t i k : Nat} {w : Option Value} (hk : M 14 2 = nI k) (k60 : k ≤ 60) (hi : i < k) (hs : M 15 i = 20038) (t2 : 2 ≤ t) (t60 : t ≤ 60) (k1 : Rn ro (d + 2) M_X6_workOut 6 [some (.ref 17), some (.int a), some (.int b), some (.int c), some (.int (nI (t - 1))), some (.int (nI (i + 1))), some (.int 20038)] [] (mk (upA M 16 (upd g (t - 2) (jn 38 (g (t - 2)) (g (t - 1))))) T) Q) : Rn ro (d + 2) M_X6_workOut 6 [some (.ref 17), some (.int a), some (.int b), some (.int c), some (.int (nI t)), some (.int (nI i)), w] [] (mk (upA M 16 g) T) Q := by
  refine R_go 3 (pc' := 12) (L' := [some (.ref 17), some (.int a), some (.int b), some (.int c), some (.int (nI t)), some (.int (nI i)), w]) (st' := [.int ((upA M 16 g) 14 2), .int (nI i)]) (h' := mk (upA M 16 g) T) (fun _ => rfl) ?_
  refine R_top (y := nI k) (hk) ?_
  refine R_if 1 (c := (nI k) ≤ (nI i)) (t := 178) (f := 15) (L' := [some (.ref 17), some (.int a), some (.int b), some (.int c), some (.int (nI t)), some (.int (nI i)), w]) (st' := []) (h' := mk (upA M 16 g) T) (fun _ => rfl) (fun g1 => ?_) (fun g1 => ?_)
  · replace g1 : k ≤ i := (nI_leI (a := k) (b := i) (by omega) (by omega)).mp g1
    omega
  · replace g1 : ¬ k ≤ i := fun q => g1 ((nI_leI (a := k) (b := i) (by omega) (by omega)).mpr q)
    refine R_if 5 (c := 60 ≤ (nI i)) (t := 178) (f := 25) (L' := [some (.ref 17), some (.int a), some (.int b), some (.int c), some (.int (nI t)), some (.int (nI i)), w]) (st' := []) (h' := mk (upA M 16 g) T) (fun _ => rfl) (fun g2 => ?_) (fun g2 => ?_)
    · replace g2 : 60 ≤ i := (nI_leI (a := 60) (b := i) (by omega) (by omega)).mp g2
      omega
    · replace g2 : ¬ 60 ≤ i := fun q => g2 ((nI_leI (a := 60) (b := i) (by omega) (by omega)).mpr q)
      refine R_go 3 (pc' := 31) (L' := [some (.ref 17), some (.int a), some (.int b), some (.int c), some (.int (nI t)), some (.int (nI i)), w]) (st' := [.int (nI i), .ref 18]) (h' := mk (upA M 16 g) T) (fun _ => rfl) ?_
      refine R_iald (c := 15) (n := 60) (j := i) rfl rfl (by omega) (by decide) ?_
      refine R_top (y := 20038) (hs) ?_
      refine R_if 10 (c := (nI t) < 2) (t := 172) (f := 135) (L' := [some (.ref 17), some (.int a), some (.int b), some (.int c), some (.int (nI t)), some (.int (nI i)), some (.int 20038)]) (st' := []) (h' := mk (upA M 16 g) T) (fun _ => rfl) (fun g3 => ?_) (fun g3 => ?_)
      · replace g3 : t < 2 := (nI_ltI (a := t) (b := 2) (by omega) (by omega)).mp g3
        omega
      · replace g3 : ¬ t < 2 := fun q => g3 ((nI_ltI (a := t) (b := 2) (by omega) (by omega)).mpr q)
        refine R_stp (i := .iinc 4 (-1)) (len := 3) (pc' := 138) (L' := [some (.ref 17), some (.int a), some (.int b), some (.int c), some (.int ((nI t) + -1)), some (.int (nI i)), some (.int 20038)]) (st' := []) (h' := mk (upA M 16 g) T) rfl rfl rfl rfl rfl ?_
        rw [nI_m1 (t := t) (by omega)]
        refine R_go 5 (pc' := 146) (L' := [some (.ref 17), some (.int a), some (.int b), some (.int c), some (.int (nI (t - 1))), some (.int (nI i)), some (.int 20038)]) (st' := [.int (nI (t - 1) - 1), .ref 19]) (h' := mk (upA M 16 g) T) (fun _ => rfl) ?_
        refine R_top (pk_sub (a := t - 1) (b := 1) (by omega)) ?_
        refine R_go 8 (pc' := 160) (L' := [some (.ref 17), some (.int a), some (.int b), some (.int c), some (.int (nI (t - 1))), some (.int (nI i)), some (.int 20038)]) (st' := [.int (nI (t - 1) - 1), .ref 19, .int 38, .int (nI ((t - 1) - 1)), .ref 19]) (h' := mk (upA M 16 g) T) (fun _ => rfl) ?_
        refine R_top (pk_sub (a := t - 1) (b := 1) (by omega)) ?_
        refine R_iald (c := 16) (n := 60) (j := (t - 1) - 1) rfl rfl (by omega) (by decide) ?_
        refine R_top (y := g ((t - 1) - 1)) (congrFun upA_eq _) ?_
        refine R_go 3 (pc' := 167) (L' := [some (.ref 17), some (.int a), some (.int b), some (.int c), some (.int (nI (t - 1))), some (.int (nI i)), some (.int 20038)]) (st' := [.int (nI (t - 1)), .ref 19, .int (g ((t - 1) - 1)), .int 38, .int (nI ((t - 1) - 1)), .ref 19]) (h' := mk (upA M 16 g) T) (fun _ => rfl) ?_
        refine R_iald (c := 16) (n := 60) (j := t - 1) rfl rfl (by omega) (by decide) ?_
        refine R_top (y := g (t - 1)) (congrFun upA_eq _) ?_
        refine R_callD (i := .invokestatic 32) (kd := 1) (y := M_X6_joined) (as := [.int 38, .int (g ((t - 1) - 1)), .int (g (t - 1))]) (r := [.int (nI ((t - 1) - 1)), .ref 19]) (L0 := [some (.int 38), some (.int (g ((t - 1) - 1))), some (.int (g (t - 1)))]) (v := some (.int (jn 38 (g ((t - 1) - 1)) (g (t - 1))))) (h' := mk (upA M 16 g) T) (pc' := 171) (st' := [.int (jn 38 (g ((t - 1) - 1)) (g (t - 1))), .int (nI ((t - 1) - 1)), .ref 19]) rfl rfl rfl rfl rfl rfl (c_joined_38) ?_
        refine R_iast (c := 16) (n := 60) (j := (t - 1) - 1) rfl rfl (by omega) (by decide) ?_
        refine R_go 1 (pc' := 175) (L' := [some (.ref 17), some (.int a), some (.int b), some (.int c), some (.int (nI (t - 1))), some (.int ((nI i) + 1)), some (.int 20038)]) (st' := []) (h' := mk (up (upA M 16 g) 16 ((t - 1) - 1) (jn 38 (g ((t - 1) - 1)) (g (t - 1)))) T) (fun _ => rfl) ?_
        rw [nI_1]
        refine R_go 1 (pc' := 6) (L' := [some (.ref 17), some (.int a), some (.int b), some (.int c), some (.int (nI (t - 1))), some (.int (nI (i + 1))), some (.int 20038)]) (st' := []) (h' := mk (up (upA M 16 g) 16 ((t - 1) - 1) (jn 38 (g ((t - 1) - 1)) (g (t - 1)))) T) (fun _ => rfl) ?_
        rw [up_upA, show t - 1 - 1 = t - 2 by omega]
        exact k1
set_option maxRecDepth 100000 in
set_option maxHeartbeats 4000000 in
theorem w14_sig_60 {ro : xRO} {d : Nat} {M : xM} {T : Nat} {Q : Option Value → xH → Prop} {g : Nat → Int32} {a b c : Int32} {t i k : Nat} {w : Option Value} (hk : M 14 2 = nI k) (k60 : k ≤ 60) (hi : i < k) (hs : M 15 i = 20060) (t2 : 2 ≤ t) (t60 : t ≤ 60) (k1 : Rn ro (d + 2) M_X6_workOut 6 [some (.ref 17), some (.int a), some (.int b), some (.int c), some (.int (nI (t - 1))), some (.int (nI (i + 1))), some (.int 20060)] [] (mk (upA M 16 (upd g (t - 2) (jn 60 (g (t - 2)) (g (t - 1))))) T) Q) : Rn ro (d + 2) M_X6_workOut 6 [some (.ref 17), some (.int a), some (.int b), some (.int c), some (.int (nI t)), some (.int (nI i)), w] [] (mk (upA M 16 g) T) Q := by
  refine R_go 3 (pc' := 12) (L' := [some (.ref 17), some (.int a), some (.int b), some (.int c), some (.int (nI t)), some (.int (nI i)), w]) (st' := [.int ((upA M 16 g) 14 2), .int (nI i)]) (h' := mk (upA M 16 g) T) (fun _ => rfl) ?_
  refine R_top (y := nI k) (hk) ?_
  refine R_if 1 (c := (nI k) ≤ (nI i)) (t := 178) (f := 15) (L' := [some (.ref 17), some (.int a), some (.int b), some (.int c), some (.int (nI t)), some (.int (nI i)), w]) (st' := []) (h' := mk (upA M 16 g) T) (fun _ => rfl) (fun g1 => ?_) (fun g1 => ?_)
  · replace g1 : k ≤ i := (nI_leI (a := k) (b := i) (by omega) (by omega)).mp g1
    omega
  · replace g1 : ¬ k ≤ i := fun q => g1 ((nI_leI (a := k) (b := i) (by omega) (by omega)).mpr q)
    refine R_if 5 (c := 60 ≤ (nI i)) (t := 178) (f := 25) (L' := [some (.ref 17), some (.int a), some (.int b), some (.int c), some (.int (nI t)), some (.int (nI i)), w]) (st' := []) (h' := mk (upA M 16 g) T) (fun _ => rfl) (fun g2 => ?_) (fun g2 => ?_)
    · replace g2 : 60 ≤ i := (nI_leI (a := 60) (b := i) (by omega) (by omega)).mp g2
      omega
    · replace g2 : ¬ 60 ≤ i := fun q => g2 ((nI_leI (a := 60) (b := i) (by omega) (by omega)).mpr q)
      refine R_go 3 (pc' := 31) (L' := [some (.ref 17), some (.int a), some (.int b), some (.int c), some (.int (nI t)), some (.int (nI i)), w]) (st' := [.int (nI i), .ref 18]) (h' := mk (upA M 16 g) T) (fun _ => rfl) ?_
      refine R_iald (c := 15) (n := 60) (j := i) rfl rfl (by omega) (by decide) ?_
      refine R_top (y := 20060) (hs) ?_
      refine R_if 10 (c := (nI t) < 2) (t := 172) (f := 135) (L' := [some (.ref 17), some (.int a), some (.int b), some (.int c), some (.int (nI t)), some (.int (nI i)), some (.int 20060)]) (st' := []) (h' := mk (upA M 16 g) T) (fun _ => rfl) (fun g3 => ?_) (fun g3 => ?_)
      · replace g3 : t < 2 := (nI_ltI (a := t) (b := 2) (by omega) (by omega)).mp g3
        omega
      · replace g3 : ¬ t < 2 := fun q => g3 ((nI_ltI (a := t) (b := 2) (by omega) (by omega)).mpr q)
        refine R_stp (i := .iinc 4 (-1)) (len := 3) (pc' := 138) (L' := [some (.ref 17), some (.int a), some (.int b), some (.int c), some (.int ((nI t) + -1)), some (.int (nI i)), some (.int 20060)]) (st' := []) (h' := mk (upA M 16 g) T) rfl rfl rfl rfl rfl ?_
        rw [nI_m1 (t := t) (by omega)]
        refine R_go 5 (pc' := 146) (L' := [some (.ref 17), some (.int a), some (.int b), some (.int c), some (.int (nI (t - 1))), some (.int (nI i)), some (.int 20060)]) (st' := [.int (nI (t - 1) - 1), .ref 19]) (h' := mk (upA M 16 g) T) (fun _ => rfl) ?_
        refine R_top (pk_sub (a := t - 1) (b := 1) (by omega)) ?_
        refine R_go 8 (pc' := 160) (L' := [some (.ref 17), some (.int a), some (.int b), some (.int c), some (.int (nI (t - 1))), some (.int (nI i)), some (.int 20060)]) (st' := [.int (nI (t - 1) - 1), .ref 19, .int 60, .int (nI ((t - 1) - 1)), .ref 19]) (h' := mk (upA M 16 g) T) (fun _ => rfl) ?_
        refine R_top (pk_sub (a := t - 1) (b := 1) (by omega)) ?_
        refine R_iald (c := 16) (n := 60) (j := (t - 1) - 1) rfl rfl (by omega) (by decide) ?_
        refine R_top (y := g ((t - 1) - 1)) (congrFun upA_eq _) ?_
        refine R_go 3 (pc' := 167) (L' := [some (.ref 17), some (.int a), some (.int b), some (.int c), some (.int (nI (t - 1))), some (.int (nI i)), some (.int 20060)]) (st' := [.int (nI (t - 1)), .ref 19, .int (g ((t - 1) - 1)), .int 60, .int (nI ((t - 1) - 1)), .ref 19]) (h' := mk (upA M 16 g) T) (fun _ => rfl) ?_
        refine R_iald (c := 16) (n := 60) (j := t - 1) rfl rfl (by omega) (by decide) ?_
        refine R_top (y := g (t - 1)) (congrFun upA_eq _) ?_
        refine R_callD (i := .invokestatic 32) (kd := 1) (y := M_X6_joined) (as := [.int 60, .int (g ((t - 1) - 1)), .int (g (t - 1))]) (r := [.int (nI ((t - 1) - 1)), .ref 19]) (L0 := [some (.int 60), some (.int (g ((t - 1) - 1))), some (.int (g (t - 1)))]) (v := some (.int (jn 60 (g ((t - 1) - 1)) (g (t - 1))))) (h' := mk (upA M 16 g) T) (pc' := 171) (st' := [.int (jn 60 (g ((t - 1) - 1)) (g (t - 1))), .int (nI ((t - 1) - 1)), .ref 19]) rfl rfl rfl rfl rfl rfl (c_joined_60) ?_
        refine R_iast (c := 16) (n := 60) (j := (t - 1) - 1) rfl rfl (by omega) (by decide) ?_
        refine R_go 1 (pc' := 175) (L' := [some (.ref 17), some (.int a), some (.int b), some (.int c), some (.int (nI (t - 1))), some (.int ((nI i) + 1)), some (.int 20060)]) (st' := []) (h' := mk (up (upA M 16 g) 16 ((t - 1) - 1) (jn 60 (g ((t - 1) - 1)) (g (t - 1)))) T) (fun _ => rfl) ?_
        rw [nI_1]
        refine R_go 1 (pc' := 6) (L' := [some (.ref 17), some (.int a), some (.int b), some (.int c), some (.int (nI (t - 1))), some (.int (nI (i + 1))), some (.int 20060)]) (st' := []) (h' := mk (up (upA M 16 g) 16 ((t - 1) - 1) (jn 60 (g ((t - 1) - 1)) (g (t - 1)))) T) (fun _ => rfl) ?_
        rw [up_upA, show t - 1 - 1 = t - 2 by omega]
        exact k1
set_option maxRecDepth 100000 in
set_option maxHeartbeats 4000000 in
theorem w14_sig_61 {ro : xRO} {d : Nat} {M : xM} {T : Nat} {Q : Option Value → xH → Prop} {g : Nat → Int32} {a b c : Int32} {t i k : Nat} {w : Option Value} (hk : M 14 2 = nI k) (k60 : k ≤ 60) (hi : i < k) (hs : M 15 i = 20061) (t2 : 2 ≤ t) (t60 : t ≤ 60) (k1 : Rn ro (d + 2) M_X6_workOut 6 [some (.ref 17), some (.int a), some (.int b), some (.int c), some (.int (nI (t - 1))), some (.int (nI (i + 1))), some (.int 20061)] [] (mk (upA M 16 (upd g (t - 2) (jn 61 (g (t - 2)) (g (t - 1))))) T) Q) : Rn ro (d + 2) M_X6_workOut 6 [some (.ref 17), some (.int a), some (.int b), some (.int c), some (.int (nI t)), some (.int (nI i)), w] [] (mk (upA M 16 g) T) Q := by
  refine R_go 3 (pc' := 12) (L' := [some (.ref 17), some (.int a), some (.int b), some (.int c), some (.int (nI t)), some (.int (nI i)), w]) (st' := [.int ((upA M 16 g) 14 2), .int (nI i)]) (h' := mk (upA M 16 g) T) (fun _ => rfl) ?_
  refine R_top (y := nI k) (hk) ?_
  refine R_if 1 (c := (nI k) ≤ (nI i)) (t := 178) (f := 15) (L' := [some (.ref 17), some (.int a), some (.int b), some (.int c), some (.int (nI t)), some (.int (nI i)), w]) (st' := []) (h' := mk (upA M 16 g) T) (fun _ => rfl) (fun g1 => ?_) (fun g1 => ?_)
  · replace g1 : k ≤ i := (nI_leI (a := k) (b := i) (by omega) (by omega)).mp g1
    omega
  · replace g1 : ¬ k ≤ i := fun q => g1 ((nI_leI (a := k) (b := i) (by omega) (by omega)).mpr q)
    refine R_if 5 (c := 60 ≤ (nI i)) (t := 178) (f := 25) (L' := [some (.ref 17), some (.int a), some (.int b), some (.int c), some (.int (nI t)), some (.int (nI i)), w]) (st' := []) (h' := mk (upA M 16 g) T) (fun _ => rfl) (fun g2 => ?_) (fun g2 => ?_)
    · replace g2 : 60 ≤ i := (nI_leI (a := 60) (b := i) (by omega) (by omega)).mp g2
      omega
    · replace g2 : ¬ 60 ≤ i := fun q => g2 ((nI_leI (a := 60) (b := i) (by omega) (by omega)).mpr q)
      refine R_go 3 (pc' := 31) (L' := [some (.ref 17), some (.int a), some (.int b), some (.int c), some (.int (nI t)), some (.int (nI i)), w]) (st' := [.int (nI i), .ref 18]) (h' := mk (upA M 16 g) T) (fun _ => rfl) ?_
      refine R_iald (c := 15) (n := 60) (j := i) rfl rfl (by omega) (by decide) ?_
      refine R_top (y := 20061) (hs) ?_
      refine R_if 10 (c := (nI t) < 2) (t := 172) (f := 135) (L' := [some (.ref 17), some (.int a), some (.int b), some (.int c), some (.int (nI t)), some (.int (nI i)), some (.int 20061)]) (st' := []) (h' := mk (upA M 16 g) T) (fun _ => rfl) (fun g3 => ?_) (fun g3 => ?_)
      · replace g3 : t < 2 := (nI_ltI (a := t) (b := 2) (by omega) (by omega)).mp g3
        omega
      · replace g3 : ¬ t < 2 := fun q => g3 ((nI_ltI (a := t) (b := 2) (by omega) (by omega)).mpr q)
        refine R_stp (i := .iinc 4 (-1)) (len := 3) (pc' := 138) (L' := [some (.ref 17), some (.int a), some (.int b), some (.int c), some (.int ((nI t) + -1)), some (.int (nI i)), some (.int 20061)]) (st' := []) (h' := mk (upA M 16 g) T) rfl rfl rfl rfl rfl ?_
        rw [nI_m1 (t := t) (by omega)]
        refine R_go 5 (pc' := 146) (L' := [some (.ref 17), some (.int a), some (.int b), some (.int c), some (.int (nI (t - 1))), some (.int (nI i)), some (.int 20061)]) (st' := [.int (nI (t - 1) - 1), .ref 19]) (h' := mk (upA M 16 g) T) (fun _ => rfl) ?_
        refine R_top (pk_sub (a := t - 1) (b := 1) (by omega)) ?_
        refine R_go 8 (pc' := 160) (L' := [some (.ref 17), some (.int a), some (.int b), some (.int c), some (.int (nI (t - 1))), some (.int (nI i)), some (.int 20061)]) (st' := [.int (nI (t - 1) - 1), .ref 19, .int 61, .int (nI ((t - 1) - 1)), .ref 19]) (h' := mk (upA M 16 g) T) (fun _ => rfl) ?_
        refine R_top (pk_sub (a := t - 1) (b := 1) (by omega)) ?_
        refine R_iald (c := 16) (n := 60) (j := (t - 1) - 1) rfl rfl (by omega) (by decide) ?_
        refine R_top (y := g ((t - 1) - 1)) (congrFun upA_eq _) ?_
        refine R_go 3 (pc' := 167) (L' := [some (.ref 17), some (.int a), some (.int b), some (.int c), some (.int (nI (t - 1))), some (.int (nI i)), some (.int 20061)]) (st' := [.int (nI (t - 1)), .ref 19, .int (g ((t - 1) - 1)), .int 61, .int (nI ((t - 1) - 1)), .ref 19]) (h' := mk (upA M 16 g) T) (fun _ => rfl) ?_
        refine R_iald (c := 16) (n := 60) (j := t - 1) rfl rfl (by omega) (by decide) ?_
        refine R_top (y := g (t - 1)) (congrFun upA_eq _) ?_
        refine R_callD (i := .invokestatic 32) (kd := 1) (y := M_X6_joined) (as := [.int 61, .int (g ((t - 1) - 1)), .int (g (t - 1))]) (r := [.int (nI ((t - 1) - 1)), .ref 19]) (L0 := [some (.int 61), some (.int (g ((t - 1) - 1))), some (.int (g (t - 1)))]) (v := some (.int (jn 61 (g ((t - 1) - 1)) (g (t - 1))))) (h' := mk (upA M 16 g) T) (pc' := 171) (st' := [.int (jn 61 (g ((t - 1) - 1)) (g (t - 1))), .int (nI ((t - 1) - 1)), .ref 19]) rfl rfl rfl rfl rfl rfl (c_joined_61) ?_
        refine R_iast (c := 16) (n := 60) (j := (t - 1) - 1) rfl rfl (by omega) (by decide) ?_
        refine R_go 1 (pc' := 175) (L' := [some (.ref 17), some (.int a), some (.int b), some (.int c), some (.int (nI (t - 1))), some (.int ((nI i) + 1)), some (.int 20061)]) (st' := []) (h' := mk (up (upA M 16 g) 16 ((t - 1) - 1) (jn 61 (g ((t - 1) - 1)) (g (t - 1)))) T) (fun _ => rfl) ?_
        rw [nI_1]
        refine R_go 1 (pc' := 6) (L' := [some (.ref 17), some (.int a), some (.int b), some (.int c), some (.int (nI (t - 1))), some (.int (nI (i + 1))), some (.int 20061)]) (st' := []) (h' := mk (up (upA M 16 g) 16 ((t - 1) - 1) (jn 61 (g ((t - 1) - 1)) (g (t - 1)))) T) (fun _ => rfl) ?_
        rw [up_upA, show t - 1 - 1 = t - 2 by omega]
        exact k1
set_option maxRecDepth 100000 in
set_option maxHeartbeats 4000000 in
theorem w14_sig_62 {ro : xRO} {d : Nat} {M : xM} {T : Nat} {Q : Option Value → xH → Prop} {g : Nat → Int32} {a b c : Int32} {t i k : Nat} {w : Option Value} (hk : M 14 2 = nI k) (k60 : k ≤ 60) (hi : i < k) (hs : M 15 i = 20062) (t2 : 2 ≤ t) (t60 : t ≤ 60) (k1 : Rn ro (d + 2) M_X6_workOut 6 [some (.ref 17), some (.int a), some (.int b), some (.int c), some (.int (nI (t - 1))), some (.int (nI (i + 1))), some (.int 20062)] [] (mk (upA M 16 (upd g (t - 2) (jn 62 (g (t - 2)) (g (t - 1))))) T) Q) : Rn ro (d + 2) M_X6_workOut 6 [some (.ref 17), some (.int a), some (.int b), some (.int c), some (.int (nI t)), some (.int (nI i)), w] [] (mk (upA M 16 g) T) Q := by
  refine R_go 3 (pc' := 12) (L' := [some (.ref 17), some (.int a), some (.int b), some (.int c), some (.int (nI t)), some (.int (nI i)), w]) (st' := [.int ((upA M 16 g) 14 2), .int (nI i)]) (h' := mk (upA M 16 g) T) (fun _ => rfl) ?_
  refine R_top (y := nI k) (hk) ?_
  refine R_if 1 (c := (nI k) ≤ (nI i)) (t := 178) (f := 15) (L' := [some (.ref 17), some (.int a), some (.int b), some (.int c), some (.int (nI t)), some (.int (nI i)), w]) (st' := []) (h' := mk (upA M 16 g) T) (fun _ => rfl) (fun g1 => ?_) (fun g1 => ?_)
  · replace g1 : k ≤ i := (nI_leI (a := k) (b := i) (by omega) (by omega)).mp g1
    omega
  · replace g1 : ¬ k ≤ i := fun q => g1 ((nI_leI (a := k) (b := i) (by omega) (by omega)).mpr q)
    refine R_if 5 (c := 60 ≤ (nI i)) (t := 178) (f := 25) (L' := [some (.ref 17), some (.int a), some (.int b), some (.int c), some (.int (nI t)), some (.int (nI i)), w]) (st' := []) (h' := mk (upA M 16 g) T) (fun _ => rfl) (fun g2 => ?_) (fun g2 => ?_)
    · replace g2 : 60 ≤ i := (nI_leI (a := 60) (b := i) (by omega) (by omega)).mp g2
      omega
    · replace g2 : ¬ 60 ≤ i := fun q => g2 ((nI_leI (a := 60) (b := i) (by omega) (by omega)).mpr q)
      refine R_go 3 (pc' := 31) (L' := [some (.ref 17), some (.int a), some (.int b), some (.int c), some (.int (nI t)), some (.int (nI i)), w]) (st' := [.int (nI i), .ref 18]) (h' := mk (upA M 16 g) T) (fun _ => rfl) ?_
      refine R_iald (c := 15) (n := 60) (j := i) rfl rfl (by omega) (by decide) ?_
      refine R_top (y := 20062) (hs) ?_
      refine R_if 10 (c := (nI t) < 2) (t := 172) (f := 135) (L' := [some (.ref 17), some (.int a), some (.int b), some (.int c), some (.int (nI t)), some (.int (nI i)), some (.int 20062)]) (st' := []) (h' := mk (upA M 16 g) T) (fun _ => rfl) (fun g3 => ?_) (fun g3 => ?_)
      · replace g3 : t < 2 := (nI_ltI (a := t) (b := 2) (by omega) (by omega)).mp g3
        omega
      · replace g3 : ¬ t < 2 := fun q => g3 ((nI_ltI (a := t) (b := 2) (by omega) (by omega)).mpr q)
        refine R_stp (i := .iinc 4 (-1)) (len := 3) (pc' := 138) (L' := [some (.ref 17), some (.int a), some (.int b), some (.int c), some (.int ((nI t) + -1)), some (.int (nI i)), some (.int 20062)]) (st' := []) (h' := mk (upA M 16 g) T) rfl rfl rfl rfl rfl ?_
        rw [nI_m1 (t := t) (by omega)]
        refine R_go 5 (pc' := 146) (L' := [some (.ref 17), some (.int a), some (.int b), some (.int c), some (.int (nI (t - 1))), some (.int (nI i)), some (.int 20062)]) (st' := [.int (nI (t - 1) - 1), .ref 19]) (h' := mk (upA M 16 g) T) (fun _ => rfl) ?_
        refine R_top (pk_sub (a := t - 1) (b := 1) (by omega)) ?_
        refine R_go 8 (pc' := 160) (L' := [some (.ref 17), some (.int a), some (.int b), some (.int c), some (.int (nI (t - 1))), some (.int (nI i)), some (.int 20062)]) (st' := [.int (nI (t - 1) - 1), .ref 19, .int 62, .int (nI ((t - 1) - 1)), .ref 19]) (h' := mk (upA M 16 g) T) (fun _ => rfl) ?_
        refine R_top (pk_sub (a := t - 1) (b := 1) (by omega)) ?_
        refine R_iald (c := 16) (n := 60) (j := (t - 1) - 1) rfl rfl (by omega) (by decide) ?_
        refine R_top (y := g ((t - 1) - 1)) (congrFun upA_eq _) ?_
        refine R_go 3 (pc' := 167) (L' := [some (.ref 17), some (.int a), some (.int b), some (.int c), some (.int (nI (t - 1))), some (.int (nI i)), some (.int 20062)]) (st' := [.int (nI (t - 1)), .ref 19, .int (g ((t - 1) - 1)), .int 62, .int (nI ((t - 1) - 1)), .ref 19]) (h' := mk (upA M 16 g) T) (fun _ => rfl) ?_
        refine R_iald (c := 16) (n := 60) (j := t - 1) rfl rfl (by omega) (by decide) ?_
        refine R_top (y := g (t - 1)) (congrFun upA_eq _) ?_
        refine R_callD (i := .invokestatic 32) (kd := 1) (y := M_X6_joined) (as := [.int 62, .int (g ((t - 1) - 1)), .int (g (t - 1))]) (r := [.int (nI ((t - 1) - 1)), .ref 19]) (L0 := [some (.int 62), some (.int (g ((t - 1) - 1))), some (.int (g (t - 1)))]) (v := some (.int (jn 62 (g ((t - 1) - 1)) (g (t - 1))))) (h' := mk (upA M 16 g) T) (pc' := 171) (st' := [.int (jn 62 (g ((t - 1) - 1)) (g (t - 1))), .int (nI ((t - 1) - 1)), .ref 19]) rfl rfl rfl rfl rfl rfl (c_joined_62) ?_
        refine R_iast (c := 16) (n := 60) (j := (t - 1) - 1) rfl rfl (by omega) (by decide) ?_
        refine R_go 1 (pc' := 175) (L' := [some (.ref 17), some (.int a), some (.int b), some (.int c), some (.int (nI (t - 1))), some (.int ((nI i) + 1)), some (.int 20062)]) (st' := []) (h' := mk (up (upA M 16 g) 16 ((t - 1) - 1) (jn 62 (g ((t - 1) - 1)) (g (t - 1)))) T) (fun _ => rfl) ?_
        rw [nI_1]
        refine R_go 1 (pc' := 6) (L' := [some (.ref 17), some (.int a), some (.int b), some (.int c), some (.int (nI (t - 1))), some (.int (nI (i + 1))), some (.int 20062)]) (st' := []) (h' := mk (up (upA M 16 g) 16 ((t - 1) - 1) (jn 62 (g ((t - 1) - 1)) (g (t - 1)))) T) (fun _ => rfl) ?_
        rw [up_upA, show t - 1 - 1 = t - 2 by omega]
        exact k1
set_option maxRecDepth 100000 in
set_option maxHeartbeats 4000000 in
theorem w14_sig_43 {ro : xRO} {d : Nat} {M : xM} {T : Nat} {Q : Option Value → xH → Prop} {g : Nat → Int32} {a b c : Int32} {t i k : Nat} {w : Option Value} (hk : M 14 2 = nI k) (k60 : k ≤ 60) (hi : i < k) (hs : M 15 i = 20043) (t2 : 2 ≤ t) (t60 : t ≤ 60) (k1 : Rn ro (d + 2) M_X6_workOut 6 [some (.ref 17), some (.int a), some (.int b), some (.int c), some (.int (nI (t - 1))), some (.int (nI (i + 1))), some (.int 20043)] [] (mk (upA M 16 (upd g (t - 2) (jn 43 (g (t - 2)) (g (t - 1))))) T) Q) : Rn ro (d + 2) M_X6_workOut 6 [some (.ref 17), some (.int a), some (.int b), some (.int c), some (.int (nI t)), some (.int (nI i)), w] [] (mk (upA M 16 g) T) Q := by
  refine R_go 3 (pc' := 12) (L' := [some (.ref 17), some (.int a), some (.int b), some (.int c), some (.int (nI t)), some (.int (nI i)), w]) (st' := [.int ((upA M 16 g) 14 2), .int (nI i)]) (h' := mk (upA M 16 g) T) (fun _ => rfl) ?_
  refine R_top (y := nI k) (hk) ?_
  refine R_if 1 (c := (nI k) ≤ (nI i)) (t := 178) (f := 15) (L' := [some (.ref 17), some (.int a), some (.int b), some (.int c), some (.int (nI t)), some (.int (nI i)), w]) (st' := []) (h' := mk (upA M 16 g) T) (fun _ => rfl) (fun g1 => ?_) (fun g1 => ?_)
  · replace g1 : k ≤ i := (nI_leI (a := k) (b := i) (by omega) (by omega)).mp g1
    omega
  · replace g1 : ¬ k ≤ i := fun q => g1 ((nI_leI (a := k) (b := i) (by omega) (by omega)).mpr q)
    refine R_if 5 (c := 60 ≤ (nI i)) (t := 178) (f := 25) (L' := [some (.ref 17), some (.int a), some (.int b), some (.int c), some (.int (nI t)), some (.int (nI i)), w]) (st' := []) (h' := mk (upA M 16 g) T) (fun _ => rfl) (fun g2 => ?_) (fun g2 => ?_)
    · replace g2 : 60 ≤ i := (nI_leI (a := 60) (b := i) (by omega) (by omega)).mp g2
      omega
    · replace g2 : ¬ 60 ≤ i := fun q => g2 ((nI_leI (a := 60) (b := i) (by omega) (by omega)).mpr q)
      refine R_go 3 (pc' := 31) (L' := [some (.ref 17), some (.int a), some (.int b), some (.int c), some (.int (nI t)), some (.int (nI i)), w]) (st' := [.int (nI i), .ref 18]) (h' := mk (upA M 16 g) T) (fun _ => rfl) ?_
      refine R_iald (c := 15) (n := 60) (j := i) rfl rfl (by omega) (by decide) ?_
      refine R_top (y := 20043) (hs) ?_
      refine R_if 10 (c := (nI t) < 2) (t := 172) (f := 135) (L' := [some (.ref 17), some (.int a), some (.int b), some (.int c), some (.int (nI t)), some (.int (nI i)), some (.int 20043)]) (st' := []) (h' := mk (upA M 16 g) T) (fun _ => rfl) (fun g3 => ?_) (fun g3 => ?_)
      · replace g3 : t < 2 := (nI_ltI (a := t) (b := 2) (by omega) (by omega)).mp g3
        omega
      · replace g3 : ¬ t < 2 := fun q => g3 ((nI_ltI (a := t) (b := 2) (by omega) (by omega)).mpr q)
        refine R_stp (i := .iinc 4 (-1)) (len := 3) (pc' := 138) (L' := [some (.ref 17), some (.int a), some (.int b), some (.int c), some (.int ((nI t) + -1)), some (.int (nI i)), some (.int 20043)]) (st' := []) (h' := mk (upA M 16 g) T) rfl rfl rfl rfl rfl ?_
        rw [nI_m1 (t := t) (by omega)]
        refine R_go 5 (pc' := 146) (L' := [some (.ref 17), some (.int a), some (.int b), some (.int c), some (.int (nI (t - 1))), some (.int (nI i)), some (.int 20043)]) (st' := [.int (nI (t - 1) - 1), .ref 19]) (h' := mk (upA M 16 g) T) (fun _ => rfl) ?_
        refine R_top (pk_sub (a := t - 1) (b := 1) (by omega)) ?_
        refine R_go 8 (pc' := 160) (L' := [some (.ref 17), some (.int a), some (.int b), some (.int c), some (.int (nI (t - 1))), some (.int (nI i)), some (.int 20043)]) (st' := [.int (nI (t - 1) - 1), .ref 19, .int 43, .int (nI ((t - 1) - 1)), .ref 19]) (h' := mk (upA M 16 g) T) (fun _ => rfl) ?_
        refine R_top (pk_sub (a := t - 1) (b := 1) (by omega)) ?_
        refine R_iald (c := 16) (n := 60) (j := (t - 1) - 1) rfl rfl (by omega) (by decide) ?_
        refine R_top (y := g ((t - 1) - 1)) (congrFun upA_eq _) ?_
        refine R_go 3 (pc' := 167) (L' := [some (.ref 17), some (.int a), some (.int b), some (.int c), some (.int (nI (t - 1))), some (.int (nI i)), some (.int 20043)]) (st' := [.int (nI (t - 1)), .ref 19, .int (g ((t - 1) - 1)), .int 43, .int (nI ((t - 1) - 1)), .ref 19]) (h' := mk (upA M 16 g) T) (fun _ => rfl) ?_
        refine R_iald (c := 16) (n := 60) (j := t - 1) rfl rfl (by omega) (by decide) ?_
        refine R_top (y := g (t - 1)) (congrFun upA_eq _) ?_
        refine R_callD (i := .invokestatic 32) (kd := 1) (y := M_X6_joined) (as := [.int 43, .int (g ((t - 1) - 1)), .int (g (t - 1))]) (r := [.int (nI ((t - 1) - 1)), .ref 19]) (L0 := [some (.int 43), some (.int (g ((t - 1) - 1))), some (.int (g (t - 1)))]) (v := some (.int (jn 43 (g ((t - 1) - 1)) (g (t - 1))))) (h' := mk (upA M 16 g) T) (pc' := 171) (st' := [.int (jn 43 (g ((t - 1) - 1)) (g (t - 1))), .int (nI ((t - 1) - 1)), .ref 19]) rfl rfl rfl rfl rfl rfl (c_joined_43) ?_
        refine R_iast (c := 16) (n := 60) (j := (t - 1) - 1) rfl rfl (by omega) (by decide) ?_
        refine R_go 1 (pc' := 175) (L' := [some (.ref 17), some (.int a), some (.int b), some (.int c), some (.int (nI (t - 1))), some (.int ((nI i) + 1)), some (.int 20043)]) (st' := []) (h' := mk (up (upA M 16 g) 16 ((t - 1) - 1) (jn 43 (g ((t - 1) - 1)) (g (t - 1)))) T) (fun _ => rfl) ?_
        rw [nI_1]
        refine R_go 1 (pc' := 6) (L' := [some (.ref 17), some (.int a), some (.int b), some (.int c), some (.int (nI (t - 1))), some (.int (nI (i + 1))), some (.int 20043)]) (st' := []) (h' := mk (up (upA M 16 g) 16 ((t - 1) - 1) (jn 43 (g ((t - 1) - 1)) (g (t - 1)))) T) (fun _ => rfl) ?_
        rw [up_upA, show t - 1 - 1 = t - 2 by omega]
        exact k1
set_option maxRecDepth 100000 in
set_option maxHeartbeats 4000000 in
theorem w14_sig_45 {ro : xRO} {d : Nat} {M : xM} {T : Nat} {Q : Option Value → xH → Prop} {g : Nat → Int32} {a b c : Int32} {t i k : Nat} {w : Option Value} (hk : M 14 2 = nI k) (k60 : k ≤ 60) (hi : i < k) (hs : M 15 i = 20045) (t2 : 2 ≤ t) (t60 : t ≤ 60) (k1 : Rn ro (d + 2) M_X6_workOut 6 [some (.ref 17), some (.int a), some (.int b), some (.int c), some (.int (nI (t - 1))), some (.int (nI (i + 1))), some (.int 20045)] [] (mk (upA M 16 (upd g (t - 2) (jn 45 (g (t - 2)) (g (t - 1))))) T) Q) : Rn ro (d + 2) M_X6_workOut 6 [some (.ref 17), some (.int a), some (.int b), some (.int c), some (.int (nI t)), some (.int (nI i)), w] [] (mk (upA M 16 g) T) Q := by
  refine R_go 3 (pc' := 12) (L' := [some (.ref 17), some (.int a), some (.int b), some (.int c), some (.int (nI t)), some (.int (nI i)), w]) (st' := [.int ((upA M 16 g) 14 2), .int (nI i)]) (h' := mk (upA M 16 g) T) (fun _ => rfl) ?_
  refine R_top (y := nI k) (hk) ?_
  refine R_if 1 (c := (nI k) ≤ (nI i)) (t := 178) (f := 15) (L' := [some (.ref 17), some (.int a), some (.int b), some (.int c), some (.int (nI t)), some (.int (nI i)), w]) (st' := []) (h' := mk (upA M 16 g) T) (fun _ => rfl) (fun g1 => ?_) (fun g1 => ?_)
  · replace g1 : k ≤ i := (nI_leI (a := k) (b := i) (by omega) (by omega)).mp g1
    omega
  · replace g1 : ¬ k ≤ i := fun q => g1 ((nI_leI (a := k) (b := i) (by omega) (by omega)).mpr q)
    refine R_if 5 (c := 60 ≤ (nI i)) (t := 178) (f := 25) (L' := [some (.ref 17), some (.int a), some (.int b), some (.int c), some (.int (nI t)), some (.int (nI i)), w]) (st' := []) (h' := mk (upA M 16 g) T) (fun _ => rfl) (fun g2 => ?_) (fun g2 => ?_)
    · replace g2 : 60 ≤ i := (nI_leI (a := 60) (b := i) (by omega) (by omega)).mp g2
      omega
    · replace g2 : ¬ 60 ≤ i := fun q => g2 ((nI_leI (a := 60) (b := i) (by omega) (by omega)).mpr q)
      refine R_go 3 (pc' := 31) (L' := [some (.ref 17), some (.int a), some (.int b), some (.int c), some (.int (nI t)), some (.int (nI i)), w]) (st' := [.int (nI i), .ref 18]) (h' := mk (upA M 16 g) T) (fun _ => rfl) ?_
      refine R_iald (c := 15) (n := 60) (j := i) rfl rfl (by omega) (by decide) ?_
      refine R_top (y := 20045) (hs) ?_
      refine R_if 10 (c := (nI t) < 2) (t := 172) (f := 135) (L' := [some (.ref 17), some (.int a), some (.int b), some (.int c), some (.int (nI t)), some (.int (nI i)), some (.int 20045)]) (st' := []) (h' := mk (upA M 16 g) T) (fun _ => rfl) (fun g3 => ?_) (fun g3 => ?_)
      · replace g3 : t < 2 := (nI_ltI (a := t) (b := 2) (by omega) (by omega)).mp g3
        omega
      · replace g3 : ¬ t < 2 := fun q => g3 ((nI_ltI (a := t) (b := 2) (by omega) (by omega)).mpr q)
        refine R_stp (i := .iinc 4 (-1)) (len := 3) (pc' := 138) (L' := [some (.ref 17), some (.int a), some (.int b), some (.int c), some (.int ((nI t) + -1)), some (.int (nI i)), some (.int 20045)]) (st' := []) (h' := mk (upA M 16 g) T) rfl rfl rfl rfl rfl ?_
        rw [nI_m1 (t := t) (by omega)]
        refine R_go 5 (pc' := 146) (L' := [some (.ref 17), some (.int a), some (.int b), some (.int c), some (.int (nI (t - 1))), some (.int (nI i)), some (.int 20045)]) (st' := [.int (nI (t - 1) - 1), .ref 19]) (h' := mk (upA M 16 g) T) (fun _ => rfl) ?_
        refine R_top (pk_sub (a := t - 1) (b := 1) (by omega)) ?_
        refine R_go 8 (pc' := 160) (L' := [some (.ref 17), some (.int a), some (.int b), some (.int c), some (.int (nI (t - 1))), some (.int (nI i)), some (.int 20045)]) (st' := [.int (nI (t - 1) - 1), .ref 19, .int 45, .int (nI ((t - 1) - 1)), .ref 19]) (h' := mk (upA M 16 g) T) (fun _ => rfl) ?_
        refine R_top (pk_sub (a := t - 1) (b := 1) (by omega)) ?_
        refine R_iald (c := 16) (n := 60) (j := (t - 1) - 1) rfl rfl (by omega) (by decide) ?_
        refine R_top (y := g ((t - 1) - 1)) (congrFun upA_eq _) ?_
        refine R_go 3 (pc' := 167) (L' := [some (.ref 17), some (.int a), some (.int b), some (.int c), some (.int (nI (t - 1))), some (.int (nI i)), some (.int 20045)]) (st' := [.int (nI (t - 1)), .ref 19, .int (g ((t - 1) - 1)), .int 45, .int (nI ((t - 1) - 1)), .ref 19]) (h' := mk (upA M 16 g) T) (fun _ => rfl) ?_
        refine R_iald (c := 16) (n := 60) (j := t - 1) rfl rfl (by omega) (by decide) ?_
        refine R_top (y := g (t - 1)) (congrFun upA_eq _) ?_
        refine R_callD (i := .invokestatic 32) (kd := 1) (y := M_X6_joined) (as := [.int 45, .int (g ((t - 1) - 1)), .int (g (t - 1))]) (r := [.int (nI ((t - 1) - 1)), .ref 19]) (L0 := [some (.int 45), some (.int (g ((t - 1) - 1))), some (.int (g (t - 1)))]) (v := some (.int (jn 45 (g ((t - 1) - 1)) (g (t - 1))))) (h' := mk (upA M 16 g) T) (pc' := 171) (st' := [.int (jn 45 (g ((t - 1) - 1)) (g (t - 1))), .int (nI ((t - 1) - 1)), .ref 19]) rfl rfl rfl rfl rfl rfl (c_joined_45) ?_
        refine R_iast (c := 16) (n := 60) (j := (t - 1) - 1) rfl rfl (by omega) (by decide) ?_
        refine R_go 1 (pc' := 175) (L' := [some (.ref 17), some (.int a), some (.int b), some (.int c), some (.int (nI (t - 1))), some (.int ((nI i) + 1)), some (.int 20045)]) (st' := []) (h' := mk (up (upA M 16 g) 16 ((t - 1) - 1) (jn 45 (g ((t - 1) - 1)) (g (t - 1)))) T) (fun _ => rfl) ?_
        rw [nI_1]
        refine R_go 1 (pc' := 6) (L' := [some (.ref 17), some (.int a), some (.int b), some (.int c), some (.int (nI (t - 1))), some (.int (nI (i + 1))), some (.int 20045)]) (st' := []) (h' := mk (up (upA M 16 g) 16 ((t - 1) - 1) (jn 45 (g ((t - 1) - 1)) (g (t - 1)))) T) (fun _ => rfl) ?_
        rw [up_upA, show t - 1 - 1 = t - 2 by omega]
        exact k1
set_option maxRecDepth 100000 in
set_option maxHeartbeats 4000000 in
theorem w14_sig_42 {ro : xRO} {d : Nat} {M : xM} {T : Nat} {Q : Option Value → xH → Prop} {g : Nat → Int32} {a b c : Int32} {t i k : Nat} {w : Option Value} (hk : M 14 2 = nI k) (k60 : k ≤ 60) (hi : i < k) (hs : M 15 i = 20042) (t2 : 2 ≤ t) (t60 : t ≤ 60) (k1 : Rn ro (d + 2) M_X6_workOut 6 [some (.ref 17), some (.int a), some (.int b), some (.int c), some (.int (nI (t - 1))), some (.int (nI (i + 1))), some (.int 20042)] [] (mk (upA M 16 (upd g (t - 2) (jn 42 (g (t - 2)) (g (t - 1))))) T) Q) : Rn ro (d + 2) M_X6_workOut 6 [some (.ref 17), some (.int a), some (.int b), some (.int c), some (.int (nI t)), some (.int (nI i)), w] [] (mk (upA M 16 g) T) Q := by
  refine R_go 3 (pc' := 12) (L' := [some (.ref 17), some (.int a), some (.int b), some (.int c), some (.int (nI t)), some (.int (nI i)), w]) (st' := [.int ((upA M 16 g) 14 2), .int (nI i)]) (h' := mk (upA M 16 g) T) (fun _ => rfl) ?_
  refine R_top (y := nI k) (hk) ?_
  refine R_if 1 (c := (nI k) ≤ (nI i)) (t := 178) (f := 15) (L' := [some (.ref 17), some (.int a), some (.int b), some (.int c), some (.int (nI t)), some (.int (nI i)), w]) (st' := []) (h' := mk (upA M 16 g) T) (fun _ => rfl) (fun g1 => ?_) (fun g1 => ?_)
  · replace g1 : k ≤ i := (nI_leI (a := k) (b := i) (by omega) (by omega)).mp g1
    omega
  · replace g1 : ¬ k ≤ i := fun q => g1 ((nI_leI (a := k) (b := i) (by omega) (by omega)).mpr q)
    refine R_if 5 (c := 60 ≤ (nI i)) (t := 178) (f := 25) (L' := [some (.ref 17), some (.int a), some (.int b), some (.int c), some (.int (nI t)), some (.int (nI i)), w]) (st' := []) (h' := mk (upA M 16 g) T) (fun _ => rfl) (fun g2 => ?_) (fun g2 => ?_)
    · replace g2 : 60 ≤ i := (nI_leI (a := 60) (b := i) (by omega) (by omega)).mp g2
      omega
    · replace g2 : ¬ 60 ≤ i := fun q => g2 ((nI_leI (a := 60) (b := i) (by omega) (by omega)).mpr q)
      refine R_go 3 (pc' := 31) (L' := [some (.ref 17), some (.int a), some (.int b), some (.int c), some (.int (nI t)), some (.int (nI i)), w]) (st' := [.int (nI i), .ref 18]) (h' := mk (upA M 16 g) T) (fun _ => rfl) ?_
      refine R_iald (c := 15) (n := 60) (j := i) rfl rfl (by omega) (by decide) ?_
      refine R_top (y := 20042) (hs) ?_
      refine R_if 10 (c := (nI t) < 2) (t := 172) (f := 135) (L' := [some (.ref 17), some (.int a), some (.int b), some (.int c), some (.int (nI t)), some (.int (nI i)), some (.int 20042)]) (st' := []) (h' := mk (upA M 16 g) T) (fun _ => rfl) (fun g3 => ?_) (fun g3 => ?_)
      · replace g3 : t < 2 := (nI_ltI (a := t) (b := 2) (by omega) (by omega)).mp g3
        omega
      · replace g3 : ¬ t < 2 := fun q => g3 ((nI_ltI (a := t) (b := 2) (by omega) (by omega)).mpr q)
        refine R_stp (i := .iinc 4 (-1)) (len := 3) (pc' := 138) (L' := [some (.ref 17), some (.int a), some (.int b), some (.int c), some (.int ((nI t) + -1)), some (.int (nI i)), some (.int 20042)]) (st' := []) (h' := mk (upA M 16 g) T) rfl rfl rfl rfl rfl ?_
        rw [nI_m1 (t := t) (by omega)]
        refine R_go 5 (pc' := 146) (L' := [some (.ref 17), some (.int a), some (.int b), some (.int c), some (.int (nI (t - 1))), some (.int (nI i)), some (.int 20042)]) (st' := [.int (nI (t - 1) - 1), .ref 19]) (h' := mk (upA M 16 g) T) (fun _ => rfl) ?_
        refine R_top (pk_sub (a := t - 1) (b := 1) (by omega)) ?_
        refine R_go 8 (pc' := 160) (L' := [some (.ref 17), some (.int a), some (.int b), some (.int c), some (.int (nI (t - 1))), some (.int (nI i)), some (.int 20042)]) (st' := [.int (nI (t - 1) - 1), .ref 19, .int 42, .int (nI ((t - 1) - 1)), .ref 19]) (h' := mk (upA M 16 g) T) (fun _ => rfl) ?_
        refine R_top (pk_sub (a := t - 1) (b := 1) (by omega)) ?_
        refine R_iald (c := 16) (n := 60) (j := (t - 1) - 1) rfl rfl (by omega) (by decide) ?_
        refine R_top (y := g ((t - 1) - 1)) (congrFun upA_eq _) ?_
        refine R_go 3 (pc' := 167) (L' := [some (.ref 17), some (.int a), some (.int b), some (.int c), some (.int (nI (t - 1))), some (.int (nI i)), some (.int 20042)]) (st' := [.int (nI (t - 1)), .ref 19, .int (g ((t - 1) - 1)), .int 42, .int (nI ((t - 1) - 1)), .ref 19]) (h' := mk (upA M 16 g) T) (fun _ => rfl) ?_
        refine R_iald (c := 16) (n := 60) (j := t - 1) rfl rfl (by omega) (by decide) ?_
        refine R_top (y := g (t - 1)) (congrFun upA_eq _) ?_
        refine R_callD (i := .invokestatic 32) (kd := 1) (y := M_X6_joined) (as := [.int 42, .int (g ((t - 1) - 1)), .int (g (t - 1))]) (r := [.int (nI ((t - 1) - 1)), .ref 19]) (L0 := [some (.int 42), some (.int (g ((t - 1) - 1))), some (.int (g (t - 1)))]) (v := some (.int (jn 42 (g ((t - 1) - 1)) (g (t - 1))))) (h' := mk (upA M 16 g) T) (pc' := 171) (st' := [.int (jn 42 (g ((t - 1) - 1)) (g (t - 1))), .int (nI ((t - 1) - 1)), .ref 19]) rfl rfl rfl rfl rfl rfl (c_joined_42) ?_
        refine R_iast (c := 16) (n := 60) (j := (t - 1) - 1) rfl rfl (by omega) (by decide) ?_
        refine R_go 1 (pc' := 175) (L' := [some (.ref 17), some (.int a), some (.int b), some (.int c), some (.int (nI (t - 1))), some (.int ((nI i) + 1)), some (.int 20042)]) (st' := []) (h' := mk (up (upA M 16 g) 16 ((t - 1) - 1) (jn 42 (g ((t - 1) - 1)) (g (t - 1)))) T) (fun _ => rfl) ?_
        rw [nI_1]
        refine R_go 1 (pc' := 6) (L' := [some (.ref 17), some (.int a), some (.int b), some (.int c), some (.int (nI (t - 1))), some (.int (nI (i + 1))), some (.int 20042)]) (st' := []) (h' := mk (up (upA M 16 g) 16 ((t - 1) - 1) (jn 42 (g ((t - 1) - 1)) (g (t - 1)))) T) (fun _ => rfl) ?_
        rw [up_upA, show t - 1 - 1 = t - 2 by omega]
        exact k1
set_option maxRecDepth 100000 in
set_option maxHeartbeats 4000000 in
theorem w14_sig_47 {ro : xRO} {d : Nat} {M : xM} {T : Nat} {Q : Option Value → xH → Prop} {g : Nat → Int32} {a b c : Int32} {t i k : Nat} {w : Option Value} (hk : M 14 2 = nI k) (k60 : k ≤ 60) (hi : i < k) (hs : M 15 i = 20047) (t2 : 2 ≤ t) (t60 : t ≤ 60) (k1 : Rn ro (d + 2) M_X6_workOut 6 [some (.ref 17), some (.int a), some (.int b), some (.int c), some (.int (nI (t - 1))), some (.int (nI (i + 1))), some (.int 20047)] [] (mk (upA M 16 (upd g (t - 2) (jn 47 (g (t - 2)) (g (t - 1))))) T) Q) : Rn ro (d + 2) M_X6_workOut 6 [some (.ref 17), some (.int a), some (.int b), some (.int c), some (.int (nI t)), some (.int (nI i)), w] [] (mk (upA M 16 g) T) Q := by
  refine R_go 3 (pc' := 12) (L' := [some (.ref 17), some (.int a), some (.int b), some (.int c), some (.int (nI t)), some (.int (nI i)), w]) (st' := [.int ((upA M 16 g) 14 2), .int (nI i)]) (h' := mk (upA M 16 g) T) (fun _ => rfl) ?_
  refine R_top (y := nI k) (hk) ?_
  refine R_if 1 (c := (nI k) ≤ (nI i)) (t := 178) (f := 15) (L' := [some (.ref 17), some (.int a), some (.int b), some (.int c), some (.int (nI t)), some (.int (nI i)), w]) (st' := []) (h' := mk (upA M 16 g) T) (fun _ => rfl) (fun g1 => ?_) (fun g1 => ?_)
  · replace g1 : k ≤ i := (nI_leI (a := k) (b := i) (by omega) (by omega)).mp g1
    omega
  · replace g1 : ¬ k ≤ i := fun q => g1 ((nI_leI (a := k) (b := i) (by omega) (by omega)).mpr q)
    refine R_if 5 (c := 60 ≤ (nI i)) (t := 178) (f := 25) (L' := [some (.ref 17), some (.int a), some (.int b), some (.int c), some (.int (nI t)), some (.int (nI i)), w]) (st' := []) (h' := mk (upA M 16 g) T) (fun _ => rfl) (fun g2 => ?_) (fun g2 => ?_)
    · replace g2 : 60 ≤ i := (nI_leI (a := 60) (b := i) (by omega) (by omega)).mp g2
      omega
    · replace g2 : ¬ 60 ≤ i := fun q => g2 ((nI_leI (a := 60) (b := i) (by omega) (by omega)).mpr q)
      refine R_go 3 (pc' := 31) (L' := [some (.ref 17), some (.int a), some (.int b), some (.int c), some (.int (nI t)), some (.int (nI i)), w]) (st' := [.int (nI i), .ref 18]) (h' := mk (upA M 16 g) T) (fun _ => rfl) ?_
      refine R_iald (c := 15) (n := 60) (j := i) rfl rfl (by omega) (by decide) ?_
      refine R_top (y := 20047) (hs) ?_
      refine R_if 10 (c := (nI t) < 2) (t := 172) (f := 135) (L' := [some (.ref 17), some (.int a), some (.int b), some (.int c), some (.int (nI t)), some (.int (nI i)), some (.int 20047)]) (st' := []) (h' := mk (upA M 16 g) T) (fun _ => rfl) (fun g3 => ?_) (fun g3 => ?_)
      · replace g3 : t < 2 := (nI_ltI (a := t) (b := 2) (by omega) (by omega)).mp g3
        omega
      · replace g3 : ¬ t < 2 := fun q => g3 ((nI_ltI (a := t) (b := 2) (by omega) (by omega)).mpr q)
        refine R_stp (i := .iinc 4 (-1)) (len := 3) (pc' := 138) (L' := [some (.ref 17), some (.int a), some (.int b), some (.int c), some (.int ((nI t) + -1)), some (.int (nI i)), some (.int 20047)]) (st' := []) (h' := mk (upA M 16 g) T) rfl rfl rfl rfl rfl ?_
        rw [nI_m1 (t := t) (by omega)]
        refine R_go 5 (pc' := 146) (L' := [some (.ref 17), some (.int a), some (.int b), some (.int c), some (.int (nI (t - 1))), some (.int (nI i)), some (.int 20047)]) (st' := [.int (nI (t - 1) - 1), .ref 19]) (h' := mk (upA M 16 g) T) (fun _ => rfl) ?_
        refine R_top (pk_sub (a := t - 1) (b := 1) (by omega)) ?_
        refine R_go 8 (pc' := 160) (L' := [some (.ref 17), some (.int a), some (.int b), some (.int c), some (.int (nI (t - 1))), some (.int (nI i)), some (.int 20047)]) (st' := [.int (nI (t - 1) - 1), .ref 19, .int 47, .int (nI ((t - 1) - 1)), .ref 19]) (h' := mk (upA M 16 g) T) (fun _ => rfl) ?_
        refine R_top (pk_sub (a := t - 1) (b := 1) (by omega)) ?_
        refine R_iald (c := 16) (n := 60) (j := (t - 1) - 1) rfl rfl (by omega) (by decide) ?_
        refine R_top (y := g ((t - 1) - 1)) (congrFun upA_eq _) ?_
        refine R_go 3 (pc' := 167) (L' := [some (.ref 17), some (.int a), some (.int b), some (.int c), some (.int (nI (t - 1))), some (.int (nI i)), some (.int 20047)]) (st' := [.int (nI (t - 1)), .ref 19, .int (g ((t - 1) - 1)), .int 47, .int (nI ((t - 1) - 1)), .ref 19]) (h' := mk (upA M 16 g) T) (fun _ => rfl) ?_
        refine R_iald (c := 16) (n := 60) (j := t - 1) rfl rfl (by omega) (by decide) ?_
        refine R_top (y := g (t - 1)) (congrFun upA_eq _) ?_
        refine R_callD (i := .invokestatic 32) (kd := 1) (y := M_X6_joined) (as := [.int 47, .int (g ((t - 1) - 1)), .int (g (t - 1))]) (r := [.int (nI ((t - 1) - 1)), .ref 19]) (L0 := [some (.int 47), some (.int (g ((t - 1) - 1))), some (.int (g (t - 1)))]) (v := some (.int (jn 47 (g ((t - 1) - 1)) (g (t - 1))))) (h' := mk (upA M 16 g) T) (pc' := 171) (st' := [.int (jn 47 (g ((t - 1) - 1)) (g (t - 1))), .int (nI ((t - 1) - 1)), .ref 19]) rfl rfl rfl rfl rfl rfl (c_joined_47) ?_
        refine R_iast (c := 16) (n := 60) (j := (t - 1) - 1) rfl rfl (by omega) (by decide) ?_
        refine R_go 1 (pc' := 175) (L' := [some (.ref 17), some (.int a), some (.int b), some (.int c), some (.int (nI (t - 1))), some (.int ((nI i) + 1)), some (.int 20047)]) (st' := []) (h' := mk (up (upA M 16 g) 16 ((t - 1) - 1) (jn 47 (g ((t - 1) - 1)) (g (t - 1)))) T) (fun _ => rfl) ?_
        rw [nI_1]
        refine R_go 1 (pc' := 6) (L' := [some (.ref 17), some (.int a), some (.int b), some (.int c), some (.int (nI (t - 1))), some (.int (nI (i + 1))), some (.int 20047)]) (st' := []) (h' := mk (up (upA M 16 g) 16 ((t - 1) - 1) (jn 47 (g ((t - 1) - 1)) (g (t - 1)))) T) (fun _ => rfl) ?_
        rw [up_upA, show t - 1 - 1 = t - 2 by omega]
        exact k1
set_option maxRecDepth 100000 in
set_option maxHeartbeats 4000000 in
theorem w14_sig_37 {ro : xRO} {d : Nat} {M : xM} {T : Nat} {Q : Option Value → xH → Prop} {g : Nat → Int32} {a b c : Int32} {t i k : Nat} {w : Option Value} (hk : M 14 2 = nI k) (k60 : k ≤ 60) (hi : i < k) (hs : M 15 i = 20037) (t2 : 2 ≤ t) (t60 : t ≤ 60) (k1 : Rn ro (d + 2) M_X6_workOut 6 [some (.ref 17), some (.int a), some (.int b), some (.int c), some (.int (nI (t - 1))), some (.int (nI (i + 1))), some (.int 20037)] [] (mk (upA M 16 (upd g (t - 2) (jn 37 (g (t - 2)) (g (t - 1))))) T) Q) : Rn ro (d + 2) M_X6_workOut 6 [some (.ref 17), some (.int a), some (.int b), some (.int c), some (.int (nI t)), some (.int (nI i)), w] [] (mk (upA M 16 g) T) Q := by
  refine R_go 3 (pc' := 12) (L' := [some (.ref 17), some (.int a), some (.int b), some (.int c), some (.int (nI t)), some (.int (nI i)), w]) (st' := [.int ((upA M 16 g) 14 2), .int (nI i)]) (h' := mk (upA M 16 g) T) (fun _ => rfl) ?_
  refine R_top (y := nI k) (hk) ?_
  refine R_if 1 (c := (nI k) ≤ (nI i)) (t := 178) (f := 15) (L' := [some (.ref 17), some (.int a), some (.int b), some (.int c), some (.int (nI t)), some (.int (nI i)), w]) (st' := []) (h' := mk (upA M 16 g) T) (fun _ => rfl) (fun g1 => ?_) (fun g1 => ?_)
  · replace g1 : k ≤ i := (nI_leI (a := k) (b := i) (by omega) (by omega)).mp g1
    omega
  · replace g1 : ¬ k ≤ i := fun q => g1 ((nI_leI (a := k) (b := i) (by omega) (by omega)).mpr q)
    refine R_if 5 (c := 60 ≤ (nI i)) (t := 178) (f := 25) (L' := [some (.ref 17), some (.int a), some (.int b), some (.int c), some (.int (nI t)), some (.int (nI i)), w]) (st' := []) (h' := mk (upA M 16 g) T) (fun _ => rfl) (fun g2 => ?_) (fun g2 => ?_)
    · replace g2 : 60 ≤ i := (nI_leI (a := 60) (b := i) (by omega) (by omega)).mp g2
      omega
    · replace g2 : ¬ 60 ≤ i := fun q => g2 ((nI_leI (a := 60) (b := i) (by omega) (by omega)).mpr q)
      refine R_go 3 (pc' := 31) (L' := [some (.ref 17), some (.int a), some (.int b), some (.int c), some (.int (nI t)), some (.int (nI i)), w]) (st' := [.int (nI i), .ref 18]) (h' := mk (upA M 16 g) T) (fun _ => rfl) ?_
      refine R_iald (c := 15) (n := 60) (j := i) rfl rfl (by omega) (by decide) ?_
      refine R_top (y := 20037) (hs) ?_
      refine R_if 10 (c := (nI t) < 2) (t := 172) (f := 135) (L' := [some (.ref 17), some (.int a), some (.int b), some (.int c), some (.int (nI t)), some (.int (nI i)), some (.int 20037)]) (st' := []) (h' := mk (upA M 16 g) T) (fun _ => rfl) (fun g3 => ?_) (fun g3 => ?_)
      · replace g3 : t < 2 := (nI_ltI (a := t) (b := 2) (by omega) (by omega)).mp g3
        omega
      · replace g3 : ¬ t < 2 := fun q => g3 ((nI_ltI (a := t) (b := 2) (by omega) (by omega)).mpr q)
        refine R_stp (i := .iinc 4 (-1)) (len := 3) (pc' := 138) (L' := [some (.ref 17), some (.int a), some (.int b), some (.int c), some (.int ((nI t) + -1)), some (.int (nI i)), some (.int 20037)]) (st' := []) (h' := mk (upA M 16 g) T) rfl rfl rfl rfl rfl ?_
        rw [nI_m1 (t := t) (by omega)]
        refine R_go 5 (pc' := 146) (L' := [some (.ref 17), some (.int a), some (.int b), some (.int c), some (.int (nI (t - 1))), some (.int (nI i)), some (.int 20037)]) (st' := [.int (nI (t - 1) - 1), .ref 19]) (h' := mk (upA M 16 g) T) (fun _ => rfl) ?_
        refine R_top (pk_sub (a := t - 1) (b := 1) (by omega)) ?_
        refine R_go 8 (pc' := 160) (L' := [some (.ref 17), some (.int a), some (.int b), some (.int c), some (.int (nI (t - 1))), some (.int (nI i)), some (.int 20037)]) (st' := [.int (nI (t - 1) - 1), .ref 19, .int 37, .int (nI ((t - 1) - 1)), .ref 19]) (h' := mk (upA M 16 g) T) (fun _ => rfl) ?_
        refine R_top (pk_sub (a := t - 1) (b := 1) (by omega)) ?_
        refine R_iald (c := 16) (n := 60) (j := (t - 1) - 1) rfl rfl (by omega) (by decide) ?_
        refine R_top (y := g ((t - 1) - 1)) (congrFun upA_eq _) ?_
        refine R_go 3 (pc' := 167) (L' := [some (.ref 17), some (.int a), some (.int b), some (.int c), some (.int (nI (t - 1))), some (.int (nI i)), some (.int 20037)]) (st' := [.int (nI (t - 1)), .ref 19, .int (g ((t - 1) - 1)), .int 37, .int (nI ((t - 1) - 1)), .ref 19]) (h' := mk (upA M 16 g) T) (fun _ => rfl) ?_
        refine R_iald (c := 16) (n := 60) (j := t - 1) rfl rfl (by omega) (by decide) ?_
        refine R_top (y := g (t - 1)) (congrFun upA_eq _) ?_
        refine R_callD (i := .invokestatic 32) (kd := 1) (y := M_X6_joined) (as := [.int 37, .int (g ((t - 1) - 1)), .int (g (t - 1))]) (r := [.int (nI ((t - 1) - 1)), .ref 19]) (L0 := [some (.int 37), some (.int (g ((t - 1) - 1))), some (.int (g (t - 1)))]) (v := some (.int (jn 37 (g ((t - 1) - 1)) (g (t - 1))))) (h' := mk (upA M 16 g) T) (pc' := 171) (st' := [.int (jn 37 (g ((t - 1) - 1)) (g (t - 1))), .int (nI ((t - 1) - 1)), .ref 19]) rfl rfl rfl rfl rfl rfl (c_joined_37) ?_
        refine R_iast (c := 16) (n := 60) (j := (t - 1) - 1) rfl rfl (by omega) (by decide) ?_
        refine R_go 1 (pc' := 175) (L' := [some (.ref 17), some (.int a), some (.int b), some (.int c), some (.int (nI (t - 1))), some (.int ((nI i) + 1)), some (.int 20037)]) (st' := []) (h' := mk (up (upA M 16 g) 16 ((t - 1) - 1) (jn 37 (g ((t - 1) - 1)) (g (t - 1)))) T) (fun _ => rfl) ?_
        rw [nI_1]
        refine R_go 1 (pc' := 6) (L' := [some (.ref 17), some (.int a), some (.int b), some (.int c), some (.int (nI (t - 1))), some (.int (nI (i + 1))), some (.int 20037)]) (st' := []) (h' := mk (up (upA M 16 g) 16 ((t - 1) - 1) (jn 37 (g ((t - 1) - 1)) (g (t - 1)))) T) (fun _ => rfl) ?_
        rw [up_upA, show t - 1 - 1 = t - 2 by omega]
        exact k1
set_option maxRecDepth 100000 in
set_option maxHeartbeats 4000000 in
theorem w17_push {ro : xRO} {d : Nat} {M : xM} {T : Nat} {Q : Option Value → xH → Prop} {g : Nat → Int32} {a b c : Int32} {t i k : Nat} {w : Option Value} (hk : M 17 2 = nI k) (k60 : k ≤ 60) (hi : i < k) {v : Nat} (v4 : v ≤ 9999) (hs : M 18 i = nI v) (t60 : t < 60) (k1 : Rn ro (d + 2) M_X6_workOut 6 [some (.ref 20), some (.int a), some (.int b), some (.int c), some (.int (nI (t + 1))), some (.int (nI (i + 1))), some (.int (nI v))] [] (mk (upA M 19 (upd g t (nI v))) T) Q) : Rn ro (d + 2) M_X6_workOut 6 [some (.ref 20), some (.int a), some (.int b), some (.int c), some (.int (nI t)), some (.int (nI i)), w] [] (mk (upA M 19 g) T) Q := by
  refine R_go 3 (pc' := 12) (L' := [some (.ref 20), some (.int a), some (.int b), some (.int c), some (.int (nI t)), some (.int (nI i)), w]) (st' := [.int ((upA M 19 g) 17 2), .int (nI i)]) (h' := mk (upA M 19 g) T) (fun _ => rfl) ?_
  refine R_top (y := nI k) (hk) ?_
  refine R_if 1 (c := (nI k) ≤ (nI i)) (t := 178) (f := 15) (L' := [some (.ref 20), some (.int a), some (.int b), some (.int c), some (.int (nI t)), some (.int (nI i)), w]) (st' := []) (h' := mk (upA M 19 g) T) (fun _ => rfl) (fun g1 => ?_) (fun g1 => ?_)
  · replace g1 : k ≤ i := (nI_leI (a := k) (b := i) (by omega) (by omega)).mp g1
    omega
  · replace g1 : ¬ k ≤ i := fun q => g1 ((nI_leI (a := k) (b := i) (by omega) (by omega)).mpr q)
    refine R_if 5 (c := 60 ≤ (nI i)) (t := 178) (f := 25) (L' := [some (.ref 20), some (.int a), some (.int b), some (.int c), some (.int (nI t)), some (.int (nI i)), w]) (st' := []) (h' := mk (upA M 19 g) T) (fun _ => rfl) (fun g2 => ?_) (fun g2 => ?_)
    · replace g2 : 60 ≤ i := (nI_leI (a := 60) (b := i) (by omega) (by omega)).mp g2
      omega
    · replace g2 : ¬ 60 ≤ i := fun q => g2 ((nI_leI (a := 60) (b := i) (by omega) (by omega)).mpr q)
      refine R_go 3 (pc' := 31) (L' := [some (.ref 20), some (.int a), some (.int b), some (.int c), some (.int (nI t)), some (.int (nI i)), w]) (st' := [.int (nI i), .ref 21]) (h' := mk (upA M 19 g) T) (fun _ => rfl) ?_
      refine R_iald (c := 18) (n := 60) (j := i) rfl rfl (by omega) (by decide) ?_
      refine R_top (y := nI v) (hs) ?_
      refine R_if 4 (c := 20000 ≤ (nI v)) (t := 86) (f := 42) (L' := [some (.ref 20), some (.int a), some (.int b), some (.int c), some (.int (nI t)), some (.int (nI i)), some (.int (nI v))]) (st' := []) (h' := mk (upA M 19 g) T) (fun _ => rfl) (fun g3 => ?_) (fun g3 => ?_)
      · replace g3 : 20000 ≤ v := (nI_leI (a := 20000) (b := v) (by omega) (by omega)).mp g3
        omega
      · replace g3 : ¬ 20000 ≤ v := fun q => g3 ((nI_leI (a := 20000) (b := v) (by omega) (by omega)).mpr q)
        refine R_if 5 (c := 60 ≤ (nI t)) (t := 172) (f := 52) (L' := [some (.ref 20), some (.int a), some (.int b), some (.int c), some (.int (nI t)), some (.int (nI i)), some (.int (nI v))]) (st' := []) (h' := mk (upA M 19 g) T) (fun _ => rfl) (fun g4 => ?_) (fun g4 => ?_)
        · replace g4 : 60 ≤ t := (nI_leI (a := 60) (b := t) (by omega) (by omega)).mp g4
          omega
        · replace g4 : ¬ 60 ≤ t := fun q => g4 ((nI_leI (a := 60) (b := t) (by omega) (by omega)).mpr q)
          refine R_if 6 (c := 10000 ≤ (nI v)) (t := 71) (f := 66) (L' := [some (.ref 20), some (.int a), some (.int b), some (.int c), some (.int (nI t)), some (.int (nI i)), some (.int (nI v))]) (st' := [.int (nI t), .ref 22]) (h' := mk (upA M 19 g) T) (fun _ => rfl) (fun g5 => ?_) (fun g5 => ?_)
          · replace g5 : 10000 ≤ v := (nI_leI (a := 10000) (b := v) (by omega) (by omega)).mp g5
            omega
          · replace g5 : ¬ 10000 ≤ v := fun q => g5 ((nI_leI (a := 10000) (b := v) (by omega) (by omega)).mpr q)
            refine R_go 2 (pc' := 79) (L' := [some (.ref 20), some (.int a), some (.int b), some (.int c), some (.int (nI t)), some (.int (nI i)), some (.int (nI v))]) (st' := [.int (nI v), .int (nI t), .ref 22]) (h' := mk (upA M 19 g) T) (fun _ => rfl) ?_
            refine R_iast (c := 19) (n := 60) (j := t) rfl rfl (by omega) (by decide) ?_
            refine R_go 1 (pc' := 83) (L' := [some (.ref 20), some (.int a), some (.int b), some (.int c), some (.int ((nI t) + 1)), some (.int (nI i)), some (.int (nI v))]) (st' := []) (h' := mk (up (upA M 19 g) 19 t (nI v)) T) (fun _ => rfl) ?_
            rw [nI_1]
            refine R_go 2 (pc' := 175) (L' := [some (.ref 20), some (.int a), some (.int b), some (.int c), some (.int (nI (t + 1))), some (.int ((nI i) + 1)), some (.int (nI v))]) (st' := []) (h' := mk (up (upA M 19 g) 19 t (nI v)) T) (fun _ => rfl) ?_
            rw [nI_1]
            refine R_go 1 (pc' := 6) (L' := [some (.ref 20), some (.int a), some (.int b), some (.int c), some (.int (nI (t + 1))), some (.int (nI (i + 1))), some (.int (nI v))]) (st' := []) (h' := mk (up (upA M 19 g) 19 t (nI v)) T) (fun _ => rfl) ?_
            rw [up_upA]
            exact k1
set_option maxRecDepth 100000 in
set_option maxHeartbeats 4000000 in
theorem w17_name_0 {ro : xRO} {d : Nat} {M : xM} {T : Nat} {Q : Option Value → xH → Prop} {g : Nat → Int32} {a b c : Int32} {t i k : Nat} {w : Option Value} (hk : M 17 2 = nI k) (k60 : k ≤ 60) (hi : i < k) (hs : M 18 i = 10000) (t60 : t < 60) (k1 : Rn ro (d + 2) M_X6_workOut 6 [some (.ref 20), some (.int a), some (.int b), some (.int c), some (.int (nI (t + 1))), some (.int (nI (i + 1))), some (.int 10000)] [] (mk (upA M 19 (upd g t a)) T) Q) : Rn ro (d + 2) M_X6_workOut 6 [some (.ref 20), some (.int a), some (.int b), some (.int c), some (.int (nI t)), some (.int (nI i)), w] [] (mk (upA M 19 g) T) Q := by
  refine R_go 3 (pc' := 12) (L' := [some (.ref 20), some (.int a), some (.int b), some (.int c), some (.int (nI t)), some (.int (nI i)), w]) (st' := [.int ((upA M 19 g) 17 2), .int (nI i)]) (h' := mk (upA M 19 g) T) (fun _ => rfl) ?_
  refine R_top (y := nI k) (hk) ?_
  refine R_if 1 (c := (nI k) ≤ (nI i)) (t := 178) (f := 15) (L' := [some (.ref 20), some (.int a), some (.int b), some (.int c), some (.int (nI t)), some (.int (nI i)), w]) (st' := []) (h' := mk (upA M 19 g) T) (fun _ => rfl) (fun g1 => ?_) (fun g1 => ?_)
  · replace g1 : k ≤ i := (nI_leI (a := k) (b := i) (by omega) (by omega)).mp g1
    omega
  · replace g1 : ¬ k ≤ i := fun q => g1 ((nI_leI (a := k) (b := i) (by omega) (by omega)).mpr q)
    refine R_if 5 (c := 60 ≤ (nI i)) (t := 178) (f := 25) (L' := [some (.ref 20), some (.int a), some (.int b), some (.int c), some (.int (nI t)), some (.int (nI i)), w]) (st' := []) (h' := mk (upA M 19 g) T) (fun _ => rfl) (fun g2 => ?_) (fun g2 => ?_)
    · replace g2 : 60 ≤ i := (nI_leI (a := 60) (b := i) (by omega) (by omega)).mp g2
      omega
    · replace g2 : ¬ 60 ≤ i := fun q => g2 ((nI_leI (a := 60) (b := i) (by omega) (by omega)).mpr q)
      refine R_go 3 (pc' := 31) (L' := [some (.ref 20), some (.int a), some (.int b), some (.int c), some (.int (nI t)), some (.int (nI i)), w]) (st' := [.int (nI i), .ref 21]) (h' := mk (upA M 19 g) T) (fun _ => rfl) ?_
      refine R_iald (c := 18) (n := 60) (j := i) rfl rfl (by omega) (by decide) ?_
      refine R_top (y := 10000) (hs) ?_
      refine R_if 9 (c := 60 ≤ (nI t)) (t := 172) (f := 52) (L' := [some (.ref 20), some (.int a), some (.int b), some (.int c), some (.int (nI t)), some (.int (nI i)), some (.int 10000)]) (st' := []) (h' := mk (upA M 19 g) T) (fun _ => rfl) (fun g3 => ?_) (fun g3 => ?_)
      · replace g3 : 60 ≤ t := (nI_leI (a := 60) (b := t) (by omega) (by omega)).mp g3
        omega
      · replace g3 : ¬ 60 ≤ t := fun q => g3 ((nI_leI (a := 60) (b := t) (by omega) (by omega)).mpr q)
        refine R_go 10 (pc' := 76) (L' := [some (.ref 20), some (.int a), some (.int b), some (.int c), some (.int (nI t)), some (.int (nI i)), some (.int 10000)]) (st' := [.int c, .int b, .int a, .int 10000, .int (nI t), .ref 22]) (h' := mk (upA M 19 g) T) (fun _ => rfl) ?_
        refine R_callD (i := .invokestatic 28) (kd := 1) (y := M_X6_named) (as := [.int 10000, .int a, .int b, .int c]) (r := [.int (nI t), .ref 22]) (L0 := [some (.int 10000), some (.int a), some (.int b), some (.int c)]) (v := some (.int a)) (h' := mk (upA M 19 g) T) (pc' := 79) (st' := [.int a, .int (nI t), .ref 22]) rfl rfl rfl rfl rfl rfl (c_named_0) ?_
        refine R_iast (c := 19) (n := 60) (j := t) rfl rfl (by omega) (by decide) ?_
        refine R_go 1 (pc' := 83) (L' := [some (.ref 20), some (.int a), some (.int b), some (.int c), some (.int ((nI t) + 1)), some (.int (nI i)), some (.int 10000)]) (st' := []) (h' := mk (up (upA M 19 g) 19 t a) T) (fun _ => rfl) ?_
        rw [nI_1]
        refine R_go 2 (pc' := 175) (L' := [some (.ref 20), some (.int a), some (.int b), some (.int c), some (.int (nI (t + 1))), some (.int ((nI i) + 1)), some (.int 10000)]) (st' := []) (h' := mk (up (upA M 19 g) 19 t a) T) (fun _ => rfl) ?_
        rw [nI_1]
        refine R_go 1 (pc' := 6) (L' := [some (.ref 20), some (.int a), some (.int b), some (.int c), some (.int (nI (t + 1))), some (.int (nI (i + 1))), some (.int 10000)]) (st' := []) (h' := mk (up (upA M 19 g) 19 t a) T) (fun _ => rfl) ?_
        rw [up_upA]
        exact k1
set_option maxRecDepth 100000 in
set_option maxHeartbeats 4000000 in
theorem w17_name_1 {ro : xRO} {d : Nat} {M : xM} {T : Nat} {Q : Option Value → xH → Prop} {g : Nat → Int32} {a b c : Int32} {t i k : Nat} {w : Option Value} (hk : M 17 2 = nI k) (k60 : k ≤ 60) (hi : i < k) (hs : M 18 i = 10001) (t60 : t < 60) (k1 : Rn ro (d + 2) M_X6_workOut 6 [some (.ref 20), some (.int a), some (.int b), some (.int c), some (.int (nI (t + 1))), some (.int (nI (i + 1))), some (.int 10001)] [] (mk (upA M 19 (upd g t b)) T) Q) : Rn ro (d + 2) M_X6_workOut 6 [some (.ref 20), some (.int a), some (.int b), some (.int c), some (.int (nI t)), some (.int (nI i)), w] [] (mk (upA M 19 g) T) Q := by
  refine R_go 3 (pc' := 12) (L' := [some (.ref 20), some (.int a), some (.int b), some (.int c), some (.int (nI t)), some (.int (nI i)), w]) (st' := [.int ((upA M 19 g) 17 2), .int (nI i)]) (h' := mk (upA M 19 g) T) (fun _ => rfl) ?_
  refine R_top (y := nI k) (hk) ?_
  refine R_if 1 (c := (nI k) ≤ (nI i)) (t := 178) (f := 15) (L' := [some (.ref 20), some (.int a), some (.int b), some (.int c), some (.int (nI t)), some (.int (nI i)), w]) (st' := []) (h' := mk (upA M 19 g) T) (fun _ => rfl) (fun g1 => ?_) (fun g1 => ?_)
  · replace g1 : k ≤ i := (nI_leI (a := k) (b := i) (by omega) (by omega)).mp g1
    omega
  · replace g1 : ¬ k ≤ i := fun q => g1 ((nI_leI (a := k) (b := i) (by omega) (by omega)).mpr q)
    refine R_if 5 (c := 60 ≤ (nI i)) (t := 178) (f := 25) (L' := [some (.ref 20), some (.int a), some (.int b), some (.int c), some (.int (nI t)), some (.int (nI i)), w]) (st' := []) (h' := mk (upA M 19 g) T) (fun _ => rfl) (fun g2 => ?_) (fun g2 => ?_)
    · replace g2 : 60 ≤ i := (nI_leI (a := 60) (b := i) (by omega) (by omega)).mp g2
      omega
    · replace g2 : ¬ 60 ≤ i := fun q => g2 ((nI_leI (a := 60) (b := i) (by omega) (by omega)).mpr q)
      refine R_go 3 (pc' := 31) (L' := [some (.ref 20), some (.int a), some (.int b), some (.int c), some (.int (nI t)), some (.int (nI i)), w]) (st' := [.int (nI i), .ref 21]) (h' := mk (upA M 19 g) T) (fun _ => rfl) ?_
      refine R_iald (c := 18) (n := 60) (j := i) rfl rfl (by omega) (by decide) ?_
      refine R_top (y := 10001) (hs) ?_
      refine R_if 9 (c := 60 ≤ (nI t)) (t := 172) (f := 52) (L' := [some (.ref 20), some (.int a), some (.int b), some (.int c), some (.int (nI t)), some (.int (nI i)), some (.int 10001)]) (st' := []) (h' := mk (upA M 19 g) T) (fun _ => rfl) (fun g3 => ?_) (fun g3 => ?_)
      · replace g3 : 60 ≤ t := (nI_leI (a := 60) (b := t) (by omega) (by omega)).mp g3
        omega
      · replace g3 : ¬ 60 ≤ t := fun q => g3 ((nI_leI (a := 60) (b := t) (by omega) (by omega)).mpr q)
        refine R_go 10 (pc' := 76) (L' := [some (.ref 20), some (.int a), some (.int b), some (.int c), some (.int (nI t)), some (.int (nI i)), some (.int 10001)]) (st' := [.int c, .int b, .int a, .int 10001, .int (nI t), .ref 22]) (h' := mk (upA M 19 g) T) (fun _ => rfl) ?_
        refine R_callD (i := .invokestatic 28) (kd := 1) (y := M_X6_named) (as := [.int 10001, .int a, .int b, .int c]) (r := [.int (nI t), .ref 22]) (L0 := [some (.int 10001), some (.int a), some (.int b), some (.int c)]) (v := some (.int b)) (h' := mk (upA M 19 g) T) (pc' := 79) (st' := [.int b, .int (nI t), .ref 22]) rfl rfl rfl rfl rfl rfl (c_named_1) ?_
        refine R_iast (c := 19) (n := 60) (j := t) rfl rfl (by omega) (by decide) ?_
        refine R_go 1 (pc' := 83) (L' := [some (.ref 20), some (.int a), some (.int b), some (.int c), some (.int ((nI t) + 1)), some (.int (nI i)), some (.int 10001)]) (st' := []) (h' := mk (up (upA M 19 g) 19 t b) T) (fun _ => rfl) ?_
        rw [nI_1]
        refine R_go 2 (pc' := 175) (L' := [some (.ref 20), some (.int a), some (.int b), some (.int c), some (.int (nI (t + 1))), some (.int ((nI i) + 1)), some (.int 10001)]) (st' := []) (h' := mk (up (upA M 19 g) 19 t b) T) (fun _ => rfl) ?_
        rw [nI_1]
        refine R_go 1 (pc' := 6) (L' := [some (.ref 20), some (.int a), some (.int b), some (.int c), some (.int (nI (t + 1))), some (.int (nI (i + 1))), some (.int 10001)]) (st' := []) (h' := mk (up (upA M 19 g) 19 t b) T) (fun _ => rfl) ?_
        rw [up_upA]
        exact k1
set_option maxRecDepth 100000 in
set_option maxHeartbeats 4000000 in
theorem w17_name_2 {ro : xRO} {d : Nat} {M : xM} {T : Nat} {Q : Option Value → xH → Prop} {g : Nat → Int32} {a b c : Int32} {t i k : Nat} {w : Option Value} (hk : M 17 2 = nI k) (k60 : k ≤ 60) (hi : i < k) (hs : M 18 i = 10002) (t60 : t < 60) (k1 : Rn ro (d + 2) M_X6_workOut 6 [some (.ref 20), some (.int a), some (.int b), some (.int c), some (.int (nI (t + 1))), some (.int (nI (i + 1))), some (.int 10002)] [] (mk (upA M 19 (upd g t c)) T) Q) : Rn ro (d + 2) M_X6_workOut 6 [some (.ref 20), some (.int a), some (.int b), some (.int c), some (.int (nI t)), some (.int (nI i)), w] [] (mk (upA M 19 g) T) Q := by
  refine R_go 3 (pc' := 12) (L' := [some (.ref 20), some (.int a), some (.int b), some (.int c), some (.int (nI t)), some (.int (nI i)), w]) (st' := [.int ((upA M 19 g) 17 2), .int (nI i)]) (h' := mk (upA M 19 g) T) (fun _ => rfl) ?_
  refine R_top (y := nI k) (hk) ?_
  refine R_if 1 (c := (nI k) ≤ (nI i)) (t := 178) (f := 15) (L' := [some (.ref 20), some (.int a), some (.int b), some (.int c), some (.int (nI t)), some (.int (nI i)), w]) (st' := []) (h' := mk (upA M 19 g) T) (fun _ => rfl) (fun g1 => ?_) (fun g1 => ?_)
  · replace g1 : k ≤ i := (nI_leI (a := k) (b := i) (by omega) (by omega)).mp g1
    omega
  · replace g1 : ¬ k ≤ i := fun q => g1 ((nI_leI (a := k) (b := i) (by omega) (by omega)).mpr q)
    refine R_if 5 (c := 60 ≤ (nI i)) (t := 178) (f := 25) (L' := [some (.ref 20), some (.int a), some (.int b), some (.int c), some (.int (nI t)), some (.int (nI i)), w]) (st' := []) (h' := mk (upA M 19 g) T) (fun _ => rfl) (fun g2 => ?_) (fun g2 => ?_)
    · replace g2 : 60 ≤ i := (nI_leI (a := 60) (b := i) (by omega) (by omega)).mp g2
      omega
    · replace g2 : ¬ 60 ≤ i := fun q => g2 ((nI_leI (a := 60) (b := i) (by omega) (by omega)).mpr q)
      refine R_go 3 (pc' := 31) (L' := [some (.ref 20), some (.int a), some (.int b), some (.int c), some (.int (nI t)), some (.int (nI i)), w]) (st' := [.int (nI i), .ref 21]) (h' := mk (upA M 19 g) T) (fun _ => rfl) ?_
      refine R_iald (c := 18) (n := 60) (j := i) rfl rfl (by omega) (by decide) ?_
      refine R_top (y := 10002) (hs) ?_
      refine R_if 9 (c := 60 ≤ (nI t)) (t := 172) (f := 52) (L' := [some (.ref 20), some (.int a), some (.int b), some (.int c), some (.int (nI t)), some (.int (nI i)), some (.int 10002)]) (st' := []) (h' := mk (upA M 19 g) T) (fun _ => rfl) (fun g3 => ?_) (fun g3 => ?_)
      · replace g3 : 60 ≤ t := (nI_leI (a := 60) (b := t) (by omega) (by omega)).mp g3
        omega
      · replace g3 : ¬ 60 ≤ t := fun q => g3 ((nI_leI (a := 60) (b := t) (by omega) (by omega)).mpr q)
        refine R_go 10 (pc' := 76) (L' := [some (.ref 20), some (.int a), some (.int b), some (.int c), some (.int (nI t)), some (.int (nI i)), some (.int 10002)]) (st' := [.int c, .int b, .int a, .int 10002, .int (nI t), .ref 22]) (h' := mk (upA M 19 g) T) (fun _ => rfl) ?_
        refine R_callD (i := .invokestatic 28) (kd := 1) (y := M_X6_named) (as := [.int 10002, .int a, .int b, .int c]) (r := [.int (nI t), .ref 22]) (L0 := [some (.int 10002), some (.int a), some (.int b), some (.int c)]) (v := some (.int c)) (h' := mk (upA M 19 g) T) (pc' := 79) (st' := [.int c, .int (nI t), .ref 22]) rfl rfl rfl rfl rfl rfl (c_named_2) ?_
        refine R_iast (c := 19) (n := 60) (j := t) rfl rfl (by omega) (by decide) ?_
        refine R_go 1 (pc' := 83) (L' := [some (.ref 20), some (.int a), some (.int b), some (.int c), some (.int ((nI t) + 1)), some (.int (nI i)), some (.int 10002)]) (st' := []) (h' := mk (up (upA M 19 g) 19 t c) T) (fun _ => rfl) ?_
        rw [nI_1]
        refine R_go 2 (pc' := 175) (L' := [some (.ref 20), some (.int a), some (.int b), some (.int c), some (.int (nI (t + 1))), some (.int ((nI i) + 1)), some (.int 10002)]) (st' := []) (h' := mk (up (upA M 19 g) 19 t c) T) (fun _ => rfl) ?_
        rw [nI_1]
        refine R_go 1 (pc' := 6) (L' := [some (.ref 20), some (.int a), some (.int b), some (.int c), some (.int (nI (t + 1))), some (.int (nI (i + 1))), some (.int 10002)]) (st' := []) (h' := mk (up (upA M 19 g) 19 t c) T) (fun _ => rfl) ?_
        rw [up_upA]
        exact k1
set_option maxRecDepth 100000 in
set_option maxHeartbeats 4000000 in
theorem w17_not {ro : xRO} {d : Nat} {M : xM} {T : Nat} {Q : Option Value → xH → Prop} {g : Nat → Int32} {a b c : Int32} {t i k : Nat} {w : Option Value} (hk : M 17 2 = nI k) (k60 : k ≤ 60) (hi : i < k) (hs : M 18 i = 20033) (t1 : 1 ≤ t) (t60 : t ≤ 60) (k1 : Rn ro (d + 2) M_X6_workOut 6 [some (.ref 20), some (.int a), some (.int b), some (.int c), some (.int (nI t)), some (.int (nI (i + 1))), some (.int 20033)] [] (mk (upA M 19 (upd g (t - 1) (if g (t - 1) = 0 then 1 else 0))) T) Q) : Rn ro (d + 2) M_X6_workOut 6 [some (.ref 20), some (.int a), some (.int b), some (.int c), some (.int (nI t)), some (.int (nI i)), w] [] (mk (upA M 19 g) T) Q := by
  refine R_go 3 (pc' := 12) (L' := [some (.ref 20), some (.int a), some (.int b), some (.int c), some (.int (nI t)), some (.int (nI i)), w]) (st' := [.int ((upA M 19 g) 17 2), .int (nI i)]) (h' := mk (upA M 19 g) T) (fun _ => rfl) ?_
  refine R_top (y := nI k) (hk) ?_
  refine R_if 1 (c := (nI k) ≤ (nI i)) (t := 178) (f := 15) (L' := [some (.ref 20), some (.int a), some (.int b), some (.int c), some (.int (nI t)), some (.int (nI i)), w]) (st' := []) (h' := mk (upA M 19 g) T) (fun _ => rfl) (fun g1 => ?_) (fun g1 => ?_)
  · replace g1 : k ≤ i := (nI_leI (a := k) (b := i) (by omega) (by omega)).mp g1
    omega
  · replace g1 : ¬ k ≤ i := fun q => g1 ((nI_leI (a := k) (b := i) (by omega) (by omega)).mpr q)
    refine R_if 5 (c := 60 ≤ (nI i)) (t := 178) (f := 25) (L' := [some (.ref 20), some (.int a), some (.int b), some (.int c), some (.int (nI t)), some (.int (nI i)), w]) (st' := []) (h' := mk (upA M 19 g) T) (fun _ => rfl) (fun g2 => ?_) (fun g2 => ?_)
    · replace g2 : 60 ≤ i := (nI_leI (a := 60) (b := i) (by omega) (by omega)).mp g2
      omega
    · replace g2 : ¬ 60 ≤ i := fun q => g2 ((nI_leI (a := 60) (b := i) (by omega) (by omega)).mpr q)
      refine R_go 3 (pc' := 31) (L' := [some (.ref 20), some (.int a), some (.int b), some (.int c), some (.int (nI t)), some (.int (nI i)), w]) (st' := [.int (nI i), .ref 21]) (h' := mk (upA M 19 g) T) (fun _ => rfl) ?_
      refine R_iald (c := 18) (n := 60) (j := i) rfl rfl (by omega) (by decide) ?_
      refine R_top (y := 20033) (hs) ?_
      refine R_if 10 (c := (nI t) < 1) (t := 172) (f := 100) (L' := [some (.ref 20), some (.int a), some (.int b), some (.int c), some (.int (nI t)), some (.int (nI i)), some (.int 20033)]) (st' := []) (h' := mk (upA M 19 g) T) (fun _ => rfl) (fun g3 => ?_) (fun g3 => ?_)
      · replace g3 : t < 1 := (nI_ltI (a := t) (b := 1) (by omega) (by omega)).mp g3
        omega
      · replace g3 : ¬ t < 1 := fun q => g3 ((nI_ltI (a := t) (b := 1) (by omega) (by omega)).mpr q)
        refine R_go 5 (pc' := 108) (L' := [some (.ref 20), some (.int a), some (.int b), some (.int c), some (.int (nI t)), some (.int (nI i)), some (.int 20033)]) (st' := [.int (nI t - 1), .ref 22]) (h' := mk (upA M 19 g) T) (fun _ => rfl) ?_
        refine R_top (pk_sub (a := t) (b := 1) (by omega)) ?_
        refine R_go 5 (pc' := 116) (L' := [some (.ref 20), some (.int a), some (.int b), some (.int c), some (.int (nI t)), some (.int (nI i)), some (.int 20033)]) (st' := [.int (nI t - 1), .ref 22, .int (nI (t - 1)), .ref 22]) (h' := mk (upA M 19 g) T) (fun _ => rfl) ?_
        refine R_top (pk_sub (a := t) (b := 1) (by omega)) ?_
        refine R_iald (c := 19) (n := 60) (j := t - 1) rfl rfl (by omega) (by decide) ?_
        refine R_top (y := g (t - 1)) (congrFun upA_eq _) ?_
        refine R_ifn 1 (c := (g (t - 1)) = 0) (t := 124) (f := 120) (L' := [some (.ref 20), some (.int a), some (.int b), some (.int c), some (.int (nI t)), some (.int (nI i)), some (.int 20033)]) (st' := [.int (nI (t - 1)), .ref 22]) (h' := mk (upA M 19 g) T) (fun _ => rfl) (fun g4 => ?_) (fun g4 => ?_)
        · refine R_go 1 (pc' := 125) (L' := [some (.ref 20), some (.int a), some (.int b), some (.int c), some (.int (nI t)), some (.int (nI i)), some (.int 20033)]) (st' := [.int 0, .int (nI (t - 1)), .ref 22]) (h' := mk (upA M 19 g) T) (fun _ => rfl) ?_
          refine R_iast (c := 19) (n := 60) (j := t - 1) rfl rfl (by omega) (by decide) ?_
          refine R_go 2 (pc' := 175) (L' := [some (.ref 20), some (.int a), some (.int b), some (.int c), some (.int (nI t)), some (.int ((nI i) + 1)), some (.int 20033)]) (st' := []) (h' := mk (up (upA M 19 g) 19 (t - 1) 0) T) (fun _ => rfl) ?_
          rw [nI_1]
          refine R_go 1 (pc' := 6) (L' := [some (.ref 20), some (.int a), some (.int b), some (.int c), some (.int (nI t)), some (.int (nI (i + 1))), some (.int 20033)]) (st' := []) (h' := mk (up (upA M 19 g) 19 (t - 1) 0) T) (fun _ => rfl) ?_
          rw [if_neg g4] at k1
          rw [up_upA]
          exact k1
        · refine R_go 2 (pc' := 125) (L' := [some (.ref 20), some (.int a), some (.int b), some (.int c), some (.int (nI t)), some (.int (nI i)), some (.int 20033)]) (st' := [.int 1, .int (nI (t - 1)), .ref 22]) (h' := mk (upA M 19 g) T) (fun _ => rfl) ?_
          refine R_iast (c := 19) (n := 60) (j := t - 1) rfl rfl (by omega) (by decide) ?_
          refine R_go 2 (pc' := 175) (L' := [some (.ref 20), some (.int a), some (.int b), some (.int c), some (.int (nI t)), some (.int ((nI i) + 1)), some (.int 20033)]) (st' := []) (h' := mk (up (upA M 19 g) 19 (t - 1) 1) T) (fun _ => rfl) ?_
          rw [nI_1]
          refine R_go 1 (pc' := 6) (L' := [some (.ref 20), some (.int a), some (.int b), some (.int c), some (.int (nI t)), some (.int (nI (i + 1))), some (.int 20033)]) (st' := []) (h' := mk (up (upA M 19 g) 19 (t - 1) 1) T) (fun _ => rfl) ?_
          rw [if_pos g4] at k1
          rw [up_upA]
          exact k1
set_option maxRecDepth 100000 in
set_option maxHeartbeats 4000000 in
theorem w17_sig_124 {ro : xRO} {d : Nat} {M : xM} {T : Nat} {Q : Option Value → xH → Prop} {g : Nat → Int32} {a b c : Int32} {t i k : Nat} {w : Option Value} (hk : M 17 2 = nI k) (k60 : k ≤ 60) (hi : i < k) (hs : M 18 i = 20124) (t2 : 2 ≤ t) (t60 : t ≤ 60) (k1 : Rn ro (d + 2) M_X6_workOut 6 [some (.ref 20), some (.int a), some (.int b), some (.int c), some (.int (nI (t - 1))), some (.int (nI (i + 1))), some (.int 20124)] [] (mk (upA M 19 (upd g (t - 2) (jn 124 (g (t - 2)) (g (t - 1))))) T) Q) : Rn ro (d + 2) M_X6_workOut 6 [some (.ref 20), some (.int a), some (.int b), some (.int c), some (.int (nI t)), some (.int (nI i)), w] [] (mk (upA M 19 g) T) Q := by
  refine R_go 3 (pc' := 12) (L' := [some (.ref 20), some (.int a), some (.int b), some (.int c), some (.int (nI t)), some (.int (nI i)), w]) (st' := [.int ((upA M 19 g) 17 2), .int (nI i)]) (h' := mk (upA M 19 g) T) (fun _ => rfl) ?_
  refine R_top (y := nI k) (hk) ?_
  refine R_if 1 (c := (nI k) ≤ (nI i)) (t := 178) (f := 15) (L' := [some (.ref 20), some (.int a), some (.int b), some (.int c), some (.int (nI t)), some (.int (nI i)), w]) (st' := []) (h' := mk (upA M 19 g) T) (fun _ => rfl) (fun g1 => ?_) (fun g1 => ?_)
  · replace g1 : k ≤ i := (nI_leI (a := k) (b := i) (by omega) (by omega)).mp g1
    omega
  · replace g1 : ¬ k ≤ i := fun q => g1 ((nI_leI (a := k) (b := i) (by omega) (by omega)).mpr q)
    refine R_if 5 (c := 60 ≤ (nI i)) (t := 178) (f := 25) (L' := [some (.ref 20), some (.int a), some (.int b), some (.int c), some (.int (nI t)), some (.int (nI i)), w]) (st' := []) (h' := mk (upA M 19 g) T) (fun _ => rfl) (fun g2 => ?_) (fun g2 => ?_)
    · replace g2 : 60 ≤ i := (nI_leI (a := 60) (b := i) (by omega) (by omega)).mp g2
      omega
    · replace g2 : ¬ 60 ≤ i := fun q => g2 ((nI_leI (a := 60) (b := i) (by omega) (by omega)).mpr q)
      refine R_go 3 (pc' := 31) (L' := [some (.ref 20), some (.int a), some (.int b), some (.int c), some (.int (nI t)), some (.int (nI i)), w]) (st' := [.int (nI i), .ref 21]) (h' := mk (upA M 19 g) T) (fun _ => rfl) ?_
      refine R_iald (c := 18) (n := 60) (j := i) rfl rfl (by omega) (by decide) ?_
      refine R_top (y := 20124) (hs) ?_
      refine R_if 10 (c := (nI t) < 2) (t := 172) (f := 135) (L' := [some (.ref 20), some (.int a), some (.int b), some (.int c), some (.int (nI t)), some (.int (nI i)), some (.int 20124)]) (st' := []) (h' := mk (upA M 19 g) T) (fun _ => rfl) (fun g3 => ?_) (fun g3 => ?_)
      · replace g3 : t < 2 := (nI_ltI (a := t) (b := 2) (by omega) (by omega)).mp g3
        omega
      · replace g3 : ¬ t < 2 := fun q => g3 ((nI_ltI (a := t) (b := 2) (by omega) (by omega)).mpr q)
        refine R_stp (i := .iinc 4 (-1)) (len := 3) (pc' := 138) (L' := [some (.ref 20), some (.int a), some (.int b), some (.int c), some (.int ((nI t) + -1)), some (.int (nI i)), some (.int 20124)]) (st' := []) (h' := mk (upA M 19 g) T) rfl rfl rfl rfl rfl ?_
        rw [nI_m1 (t := t) (by omega)]
        refine R_go 5 (pc' := 146) (L' := [some (.ref 20), some (.int a), some (.int b), some (.int c), some (.int (nI (t - 1))), some (.int (nI i)), some (.int 20124)]) (st' := [.int (nI (t - 1) - 1), .ref 22]) (h' := mk (upA M 19 g) T) (fun _ => rfl) ?_
        refine R_top (pk_sub (a := t - 1) (b := 1) (by omega)) ?_
        refine R_go 8 (pc' := 160) (L' := [some (.ref 20), some (.int a), some (.int b), some (.int c), some (.int (nI (t - 1))), some (.int (nI i)), some (.int 20124)]) (st' := [.int (nI (t - 1) - 1), .ref 22, .int 124, .int (nI ((t - 1) - 1)), .ref 22]) (h' := mk (upA M 19 g) T) (fun _ => rfl) ?_
        refine R_top (pk_sub (a := t - 1) (b := 1) (by omega)) ?_
        refine R_iald (c := 19) (n := 60) (j := (t - 1) - 1) rfl rfl (by omega) (by decide) ?_
        refine R_top (y := g ((t - 1) - 1)) (congrFun upA_eq _) ?_
        refine R_go 3 (pc' := 167) (L' := [some (.ref 20), some (.int a), some (.int b), some (.int c), some (.int (nI (t - 1))), some (.int (nI i)), some (.int 20124)]) (st' := [.int (nI (t - 1)), .ref 22, .int (g ((t - 1) - 1)), .int 124, .int (nI ((t - 1) - 1)), .ref 22]) (h' := mk (upA M 19 g) T) (fun _ => rfl) ?_
        refine R_iald (c := 19) (n := 60) (j := t - 1) rfl rfl (by omega) (by decide) ?_
        refine R_top (y := g (t - 1)) (congrFun upA_eq _) ?_
        refine R_callD (i := .invokestatic 32) (kd := 1) (y := M_X6_joined) (as := [.int 124, .int (g ((t - 1) - 1)), .int (g (t - 1))]) (r := [.int (nI ((t - 1) - 1)), .ref 22]) (L0 := [some (.int 124), some (.int (g ((t - 1) - 1))), some (.int (g (t - 1)))]) (v := some (.int (jn 124 (g ((t - 1) - 1)) (g (t - 1))))) (h' := mk (upA M 19 g) T) (pc' := 171) (st' := [.int (jn 124 (g ((t - 1) - 1)) (g (t - 1))), .int (nI ((t - 1) - 1)), .ref 22]) rfl rfl rfl rfl rfl rfl (c_joined_124) ?_
        refine R_iast (c := 19) (n := 60) (j := (t - 1) - 1) rfl rfl (by omega) (by decide) ?_
        refine R_go 1 (pc' := 175) (L' := [some (.ref 20), some (.int a), some (.int b), some (.int c), some (.int (nI (t - 1))), some (.int ((nI i) + 1)), some (.int 20124)]) (st' := []) (h' := mk (up (upA M 19 g) 19 ((t - 1) - 1) (jn 124 (g ((t - 1) - 1)) (g (t - 1)))) T) (fun _ => rfl) ?_
        rw [nI_1]
        refine R_go 1 (pc' := 6) (L' := [some (.ref 20), some (.int a), some (.int b), some (.int c), some (.int (nI (t - 1))), some (.int (nI (i + 1))), some (.int 20124)]) (st' := []) (h' := mk (up (upA M 19 g) 19 ((t - 1) - 1) (jn 124 (g ((t - 1) - 1)) (g (t - 1)))) T) (fun _ => rfl) ?_
        rw [up_upA, show t - 1 - 1 = t - 2 by omega]
        exact k1
set_option maxRecDepth 100000 in
set_option maxHeartbeats 4000000 in
theorem w17_sig_38 {ro : xRO} {d : Nat} {M : xM} {T : Nat} {Q : Option Value → xH → Prop} {g : Nat → Int32} {a b c : Int32} {t i k : Nat} {w : Option Value} (hk : M 17 2 = nI k) (k60 : k ≤ 60) (hi : i < k) (hs : M 18 i = 20038) (t2 : 2 ≤ t) (t60 : t ≤ 60) (k1 : Rn ro (d + 2) M_X6_workOut 6 [some (.ref 20), some (.int a), some (.int b), some (.int c), some (.int (nI (t - 1))), some (.int (nI (i + 1))), some (.int 20038)] [] (mk (upA M 19 (upd g (t - 2) (jn 38 (g (t - 2)) (g (t - 1))))) T) Q) : Rn ro (d + 2) M_X6_workOut 6 [some (.ref 20), some (.int a), some (.int b), some (.int c), some (.int (nI t)), some (.int (nI i)), w] [] (mk (upA M 19 g) T) Q := by
  refine R_go 3 (pc' := 12) (L' := [some (.ref 20), some (.int a), some (.int b), some (.int c), some (.int (nI t)), some (.int (nI i)), w]) (st' := [.int ((upA M 19 g) 17 2), .int (nI i)]) (h' := mk (upA M 19 g) T) (fun _ => rfl) ?_
  refine R_top (y := nI k) (hk) ?_
  refine R_if 1 (c := (nI k) ≤ (nI i)) (t := 178) (f := 15) (L' := [some (.ref 20), some (.int a), some (.int b), some (.int c), some (.int (nI t)), some (.int (nI i)), w]) (st' := []) (h' := mk (upA M 19 g) T) (fun _ => rfl) (fun g1 => ?_) (fun g1 => ?_)
  · replace g1 : k ≤ i := (nI_leI (a := k) (b := i) (by omega) (by omega)).mp g1
    omega
  · replace g1 : ¬ k ≤ i := fun q => g1 ((nI_leI (a := k) (b := i) (by omega) (by omega)).mpr q)
    refine R_if 5 (c := 60 ≤ (nI i)) (t := 178) (f := 25) (L' := [some (.ref 20), some (.int a), some (.int b), some (.int c), some (.int (nI t)), some (.int (nI i)), w]) (st' := []) (h' := mk (upA M 19 g) T) (fun _ => rfl) (fun g2 => ?_) (fun g2 => ?_)
    · replace g2 : 60 ≤ i := (nI_leI (a := 60) (b := i) (by omega) (by omega)).mp g2
      omega
    · replace g2 : ¬ 60 ≤ i := fun q => g2 ((nI_leI (a := 60) (b := i) (by omega) (by omega)).mpr q)
      refine R_go 3 (pc' := 31) (L' := [some (.ref 20), some (.int a), some (.int b), some (.int c), some (.int (nI t)), some (.int (nI i)), w]) (st' := [.int (nI i), .ref 21]) (h' := mk (upA M 19 g) T) (fun _ => rfl) ?_
      refine R_iald (c := 18) (n := 60) (j := i) rfl rfl (by omega) (by decide) ?_
      refine R_top (y := 20038) (hs) ?_
      refine R_if 10 (c := (nI t) < 2) (t := 172) (f := 135) (L' := [some (.ref 20), some (.int a), some (.int b), some (.int c), some (.int (nI t)), some (.int (nI i)), some (.int 20038)]) (st' := []) (h' := mk (upA M 19 g) T) (fun _ => rfl) (fun g3 => ?_) (fun g3 => ?_)
      · replace g3 : t < 2 := (nI_ltI (a := t) (b := 2) (by omega) (by omega)).mp g3
        omega
      · replace g3 : ¬ t < 2 := fun q => g3 ((nI_ltI (a := t) (b := 2) (by omega) (by omega)).mpr q)
        refine R_stp (i := .iinc 4 (-1)) (len := 3) (pc' := 138) (L' := [some (.ref 20), some (.int a), some (.int b), some (.int c), some (.int ((nI t) + -1)), some (.int (nI i)), some (.int 20038)]) (st' := []) (h' := mk (upA M 19 g) T) rfl rfl rfl rfl rfl ?_
        rw [nI_m1 (t := t) (by omega)]
        refine R_go 5 (pc' := 146) (L' := [some (.ref 20), some (.int a), some (.int b), some (.int c), some (.int (nI (t - 1))), some (.int (nI i)), some (.int 20038)]) (st' := [.int (nI (t - 1) - 1), .ref 22]) (h' := mk (upA M 19 g) T) (fun _ => rfl) ?_
        refine R_top (pk_sub (a := t - 1) (b := 1) (by omega)) ?_
        refine R_go 8 (pc' := 160) (L' := [some (.ref 20), some (.int a), some (.int b), some (.int c), some (.int (nI (t - 1))), some (.int (nI i)), some (.int 20038)]) (st' := [.int (nI (t - 1) - 1), .ref 22, .int 38, .int (nI ((t - 1) - 1)), .ref 22]) (h' := mk (upA M 19 g) T) (fun _ => rfl) ?_
        refine R_top (pk_sub (a := t - 1) (b := 1) (by omega)) ?_
        refine R_iald (c := 19) (n := 60) (j := (t - 1) - 1) rfl rfl (by omega) (by decide) ?_
        refine R_top (y := g ((t - 1) - 1)) (congrFun upA_eq _) ?_
        refine R_go 3 (pc' := 167) (L' := [some (.ref 20), some (.int a), some (.int b), some (.int c), some (.int (nI (t - 1))), some (.int (nI i)), some (.int 20038)]) (st' := [.int (nI (t - 1)), .ref 22, .int (g ((t - 1) - 1)), .int 38, .int (nI ((t - 1) - 1)), .ref 22]) (h' := mk (upA M 19 g) T) (fun _ => rfl) ?_
        refine R_iald (c := 19) (n := 60) (j := t - 1) rfl rfl (by omega) (by decide) ?_
        refine R_top (y := g (t - 1)) (congrFun upA_eq _) ?_
        refine R_callD (i := .invokestatic 32) (kd := 1) (y := M_X6_joined) (as := [.int 38, .int (g ((t - 1) - 1)), .int (g (t - 1))]) (r := [.int (nI ((t - 1) - 1)), .ref 22]) (L0 := [some (.int 38), some (.int (g ((t - 1) - 1))), some (.int (g (t - 1)))]) (v := some (.int (jn 38 (g ((t - 1) - 1)) (g (t - 1))))) (h' := mk (upA M 19 g) T) (pc' := 171) (st' := [.int (jn 38 (g ((t - 1) - 1)) (g (t - 1))), .int (nI ((t - 1) - 1)), .ref 22]) rfl rfl rfl rfl rfl rfl (c_joined_38) ?_
        refine R_iast (c := 19) (n := 60) (j := (t - 1) - 1) rfl rfl (by omega) (by decide) ?_
        refine R_go 1 (pc' := 175) (L' := [some (.ref 20), some (.int a), some (.int b), some (.int c), some (.int (nI (t - 1))), some (.int ((nI i) + 1)), some (.int 20038)]) (st' := []) (h' := mk (up (upA M 19 g) 19 ((t - 1) - 1) (jn 38 (g ((t - 1) - 1)) (g (t - 1)))) T) (fun _ => rfl) ?_
        rw [nI_1]
        refine R_go 1 (pc' := 6) (L' := [some (.ref 20), some (.int a), some (.int b), some (.int c), some (.int (nI (t - 1))), some (.int (nI (i + 1))), some (.int 20038)]) (st' := []) (h' := mk (up (upA M 19 g) 19 ((t - 1) - 1) (jn 38 (g ((t - 1) - 1)) (g (t - 1)))) T) (fun _ => rfl) ?_
        rw [up_upA, show t - 1 - 1 = t - 2 by omega]
        exact k1
set_option maxRecDepth 100000 in
set_option maxHeartbeats 4000000 in
theorem w17_sig_60 {ro : xRO} {d : Nat} {M : xM} {T : Nat} {Q : Option Value → xH → Prop} {g : Nat → Int32} {a b c : Int32} {t i k : Nat} {w : Option Value} (hk : M 17 2 = nI k) (k60 : k ≤ 60) (hi : i < k) (hs : M 18 i = 20060) (t2 : 2 ≤ t) (t60 : t ≤ 60) (k1 : Rn ro (d + 2) M_X6_workOut 6 [some (.ref 20), some (.int a), some (.int b), some (.int c), some (.int (nI (t - 1))), some (.int (nI (i + 1))), some (.int 20060)] [] (mk (upA M 19 (upd g (t - 2) (jn 60 (g (t - 2)) (g (t - 1))))) T) Q) : Rn ro (d + 2) M_X6_workOut 6 [some (.ref 20), some (.int a), some (.int b), some (.int c), some (.int (nI t)), some (.int (nI i)), w] [] (mk (upA M 19 g) T) Q := by
  refine R_go 3 (pc' := 12) (L' := [some (.ref 20), some (.int a), some (.int b), some (.int c), some (.int (nI t)), some (.int (nI i)), w]) (st' := [.int ((upA M 19 g) 17 2), .int (nI i)]) (h' := mk (upA M 19 g) T) (fun _ => rfl) ?_
  refine R_top (y := nI k) (hk) ?_
  refine R_if 1 (c := (nI k) ≤ (nI i)) (t := 178) (f := 15) (L' := [some (.ref 20), some (.int a), some (.int b), some (.int c), some (.int (nI t)), some (.int (nI i)), w]) (st' := []) (h' := mk (upA M 19 g) T) (fun _ => rfl) (fun g1 => ?_) (fun g1 => ?_)
  · replace g1 : k ≤ i := (nI_leI (a := k) (b := i) (by omega) (by omega)).mp g1
    omega
  · replace g1 : ¬ k ≤ i := fun q => g1 ((nI_leI (a := k) (b := i) (by omega) (by omega)).mpr q)
    refine R_if 5 (c := 60 ≤ (nI i)) (t := 178) (f := 25) (L' := [some (.ref 20), some (.int a), some (.int b), some (.int c), some (.int (nI t)), some (.int (nI i)), w]) (st' := []) (h' := mk (upA M 19 g) T) (fun _ => rfl) (fun g2 => ?_) (fun g2 => ?_)
    · replace g2 : 60 ≤ i := (nI_leI (a := 60) (b := i) (by omega) (by omega)).mp g2
      omega
    · replace g2 : ¬ 60 ≤ i := fun q => g2 ((nI_leI (a := 60) (b := i) (by omega) (by omega)).mpr q)
      refine R_go 3 (pc' := 31) (L' := [some (.ref 20), some (.int a), some (.int b), some (.int c), some (.int (nI t)), some (.int (nI i)), w]) (st' := [.int (nI i), .ref 21]) (h' := mk (upA M 19 g) T) (fun _ => rfl) ?_
      refine R_iald (c := 18) (n := 60) (j := i) rfl rfl (by omega) (by decide) ?_
      refine R_top (y := 20060) (hs) ?_
      refine R_if 10 (c := (nI t) < 2) (t := 172) (f := 135) (L' := [some (.ref 20), some (.int a), some (.int b), some (.int c), some (.int (nI t)), some (.int (nI i)), some (.int 20060)]) (st' := []) (h' := mk (upA M 19 g) T) (fun _ => rfl) (fun g3 => ?_) (fun g3 => ?_)
      · replace g3 : t < 2 := (nI_ltI (a := t) (b := 2) (by omega) (by omega)).mp g3
        omega
      · replace g3 : ¬ t < 2 := fun q => g3 ((nI_ltI (a := t) (b := 2) (by omega) (by omega)).mpr q)
        refine R_stp (i := .iinc 4 (-1)) (len := 3) (pc' := 138) (L' := [some (.ref 20), some (.int a), some (.int b), some (.int c), some (.int ((nI t) + -1)), some (.int (nI i)), some (.int 20060)]) (st' := []) (h' := mk (upA M 19 g) T) rfl rfl rfl rfl rfl ?_
        rw [nI_m1 (t := t) (by omega)]
        refine R_go 5 (pc' := 146) (L' := [some (.ref 20), some (.int a), some (.int b), some (.int c), some (.int (nI (t - 1))), some (.int (nI i)), some (.int 20060)]) (st' := [.int (nI (t - 1) - 1), .ref 22]) (h' := mk (upA M 19 g) T) (fun _ => rfl) ?_
        refine R_top (pk_sub (a := t - 1) (b := 1) (by omega)) ?_
        refine R_go 8 (pc' := 160) (L' := [some (.ref 20), some (.int a), some (.int b), some (.int c), some (.int (nI (t - 1))), some (.int (nI i)), some (.int 20060)]) (st' := [.int (nI (t - 1) - 1), .ref 22, .int 60, .int (nI ((t - 1) - 1)), .ref 22]) (h' := mk (upA M 19 g) T) (fun _ => rfl) ?_
        refine R_top (pk_sub (a := t - 1) (b := 1) (by omega)) ?_
        refine R_iald (c := 19) (n := 60) (j := (t - 1) - 1) rfl rfl (by omega) (by decide) ?_
        refine R_top (y := g ((t - 1) - 1)) (congrFun upA_eq _) ?_
        refine R_go 3 (pc' := 167) (L' := [some (.ref 20), some (.int a), some (.int b), some (.int c), some (.int (nI (t - 1))), some (.int (nI i)), some (.int 20060)]) (st' := [.int (nI (t - 1)), .ref 22, .int (g ((t - 1) - 1)), .int 60, .int (nI ((t - 1) - 1)), .ref 22]) (h' := mk (upA M 19 g) T) (fun _ => rfl) ?_
        refine R_iald (c := 19) (n := 60) (j := t - 1) rfl rfl (by omega) (by decide) ?_
        refine R_top (y := g (t - 1)) (congrFun upA_eq _) ?_
        refine R_callD (i := .invokestatic 32) (kd := 1) (y := M_X6_joined) (as := [.int 60, .int (g ((t - 1) - 1)), .int (g (t - 1))]) (r := [.int (nI ((t - 1) - 1)), .ref 22]) (L0 := [some (.int 60), some (.int (g ((t - 1) - 1))), some (.int (g (t - 1)))]) (v := some (.int (jn 60 (g ((t - 1) - 1)) (g (t - 1))))) (h' := mk (upA M 19 g) T) (pc' := 171) (st' := [.int (jn 60 (g ((t - 1) - 1)) (g (t - 1))), .int (nI ((t - 1) - 1)), .ref 22]) rfl rfl rfl rfl rfl rfl (c_joined_60) ?_
        refine R_iast (c := 19) (n := 60) (j := (t - 1) - 1) rfl rfl (by omega) (by decide) ?_
        refine R_go 1 (pc' := 175) (L' := [some (.ref 20), some (.int a), some (.int b), some (.int c), some (.int (nI (t - 1))), some (.int ((nI i) + 1)), some (.int 20060)]) (st' := []) (h' := mk (up (upA M 19 g) 19 ((t - 1) - 1) (jn 60 (g ((t - 1) - 1)) (g (t - 1)))) T) (fun _ => rfl) ?_
        rw [nI_1]
        refine R_go 1 (pc' := 6) (L' := [some (.ref 20), some (.int a), some (.int b), some (.int c), some (.int (nI (t - 1))), some (.int (nI (i + 1))), some (.int 20060)]) (st' := []) (h' := mk (up (upA M 19 g) 19 ((t - 1) - 1) (jn 60 (g ((t - 1) - 1)) (g (t - 1)))) T) (fun _ => rfl) ?_
        rw [up_upA, show t - 1 - 1 = t - 2 by omega]
        exact k1
set_option maxRecDepth 100000 in
set_option maxHeartbeats 4000000 in
theorem w17_sig_61 {ro : xRO} {d : Nat} {M : xM} {T : Nat} {Q : Option Value → xH → Prop} {g : Nat → Int32} {a b c : Int32} {t i k : Nat} {w : Option Value} (hk : M 17 2 = nI k) (k60 : k ≤ 60) (hi : i < k) (hs : M 18 i = 20061) (t2 : 2 ≤ t) (t60 : t ≤ 60) (k1 : Rn ro (d + 2) M_X6_workOut 6 [some (.ref 20), some (.int a), some (.int b), some (.int c), some (.int (nI (t - 1))), some (.int (nI (i + 1))), some (.int 20061)] [] (mk (upA M 19 (upd g (t - 2) (jn 61 (g (t - 2)) (g (t - 1))))) T) Q) : Rn ro (d + 2) M_X6_workOut 6 [some (.ref 20), some (.int a), some (.int b), some (.int c), some (.int (nI t)), some (.int (nI i)), w] [] (mk (upA M 19 g) T) Q := by
  refine R_go 3 (pc' := 12) (L' := [some (.ref 20), some (.int a), some (.int b), some (.int c), some (.int (nI t)), some (.int (nI i)), w]) (st' := [.int ((upA M 19 g) 17 2), .int (nI i)]) (h' := mk (upA M 19 g) T) (fun _ => rfl) ?_
  refine R_top (y := nI k) (hk) ?_
  refine R_if 1 (c := (nI k) ≤ (nI i)) (t := 178) (f := 15) (L' := [some (.ref 20), some (.int a), some (.int b), some (.int c), some (.int (nI t)), some (.int (nI i)), w]) (st' := []) (h' := mk (upA M 19 g) T) (fun _ => rfl) (fun g1 => ?_) (fun g1 => ?_)
  · replace g1 : k ≤ i := (nI_leI (a := k) (b := i) (by omega) (by omega)).mp g1
    omega
  · replace g1 : ¬ k ≤ i := fun q => g1 ((nI_leI (a := k) (b := i) (by omega) (by omega)).mpr q)
    refine R_if 5 (c := 60 ≤ (nI i)) (t := 178) (f := 25) (L' := [some (.ref 20), some (.int a), some (.int b), some (.int c), some (.int (nI t)), some (.int (nI i)), w]) (st' := []) (h' := mk (upA M 19 g) T) (fun _ => rfl) (fun g2 => ?_) (fun g2 => ?_)
    · replace g2 : 60 ≤ i := (nI_leI (a := 60) (b := i) (by omega) (by omega)).mp g2
      omega
    · replace g2 : ¬ 60 ≤ i := fun q => g2 ((nI_leI (a := 60) (b := i) (by omega) (by omega)).mpr q)
      refine R_go 3 (pc' := 31) (L' := [some (.ref 20), some (.int a), some (.int b), some (.int c), some (.int (nI t)), some (.int (nI i)), w]) (st' := [.int (nI i), .ref 21]) (h' := mk (upA M 19 g) T) (fun _ => rfl) ?_
      refine R_iald (c := 18) (n := 60) (j := i) rfl rfl (by omega) (by decide) ?_
      refine R_top (y := 20061) (hs) ?_
      refine R_if 10 (c := (nI t) < 2) (t := 172) (f := 135) (L' := [some (.ref 20), some (.int a), some (.int b), some (.int c), some (.int (nI t)), some (.int (nI i)), some (.int 20061)]) (st' := []) (h' := mk (upA M 19 g) T) (fun _ => rfl) (fun g3 => ?_) (fun g3 => ?_)
      · replace g3 : t < 2 := (nI_ltI (a := t) (b := 2) (by omega) (by omega)).mp g3
        omega
      · replace g3 : ¬ t < 2 := fun q => g3 ((nI_ltI (a := t) (b := 2) (by omega) (by omega)).mpr q)
        refine R_stp (i := .iinc 4 (-1)) (len := 3) (pc' := 138) (L' := [some (.ref 20), some (.int a), some (.int b), some (.int c), some (.int ((nI t) + -1)), some (.int (nI i)), some (.int 20061)]) (st' := []) (h' := mk (upA M 19 g) T) rfl rfl rfl rfl rfl ?_
        rw [nI_m1 (t := t) (by omega)]
        refine R_go 5 (pc' := 146) (L' := [some (.ref 20), some (.int a), some (.int b), some (.int c), some (.int (nI (t - 1))), some (.int (nI i)), some (.int 20061)]) (st' := [.int (nI (t - 1) - 1), .ref 22]) (h' := mk (upA M 19 g) T) (fun _ => rfl) ?_
        refine R_top (pk_sub (a := t - 1) (b := 1) (by omega)) ?_
        refine R_go 8 (pc' := 160) (L' := [some (.ref 20), some (.int a), some (.int b), some (.int c), some (.int (nI (t - 1))), some (.int (nI i)), some (.int 20061)]) (st' := [.int (nI (t - 1) - 1), .ref 22, .int 61, .int (nI ((t - 1) - 1)), .ref 22]) (h' := mk (upA M 19 g) T) (fun _ => rfl) ?_
        refine R_top (pk_sub (a := t - 1) (b := 1) (by omega)) ?_
        refine R_iald (c := 19) (n := 60) (j := (t - 1) - 1) rfl rfl (by omega) (by decide) ?_
        refine R_top (y := g ((t - 1) - 1)) (congrFun upA_eq _) ?_
        refine R_go 3 (pc' := 167) (L' := [some (.ref 20), some (.int a), some (.int b), some (.int c), some (.int (nI (t - 1))), some (.int (nI i)), some (.int 20061)]) (st' := [.int (nI (t - 1)), .ref 22, .int (g ((t - 1) - 1)), .int 61, .int (nI ((t - 1) - 1)), .ref 22]) (h' := mk (upA M 19 g) T) (fun _ => rfl) ?_
        refine R_iald (c := 19) (n := 60) (j := t - 1) rfl rfl (by omega) (by decide) ?_
        refine R_top (y := g (t - 1)) (congrFun upA_eq _) ?_
        refine R_callD (i := .invokestatic 32) (kd := 1) (y := M_X6_joined) (as := [.int 61, .int (g ((t - 1) - 1)), .int (g (t - 1))]) (r := [.int (nI ((t - 1) - 1)), .ref 22]) (L0 := [some (.int 61), some (.int (g ((t - 1) - 1))), some (.int (g (t - 1)))]) (v := some (.int (jn 61 (g ((t - 1) - 1)) (g (t - 1))))) (h' := mk (upA M 19 g) T) (pc' := 171) (st' := [.int (jn 61 (g ((t - 1) - 1)) (g (t - 1))), .int (nI ((t - 1) - 1)), .ref 22]) rfl rfl rfl rfl rfl rfl (c_joined_61) ?_
        refine R_iast (c := 19) (n := 60) (j := (t - 1) - 1) rfl rfl (by omega) (by decide) ?_
        refine R_go 1 (pc' := 175) (L' := [some (.ref 20), some (.int a), some (.int b), some (.int c), some (.int (nI (t - 1))), some (.int ((nI i) + 1)), some (.int 20061)]) (st' := []) (h' := mk (up (upA M 19 g) 19 ((t - 1) - 1) (jn 61 (g ((t - 1) - 1)) (g (t - 1)))) T) (fun _ => rfl) ?_
        rw [nI_1]
        refine R_go 1 (pc' := 6) (L' := [some (.ref 20), some (.int a), some (.int b), some (.int c), some (.int (nI (t - 1))), some (.int (nI (i + 1))), some (.int 20061)]) (st' := []) (h' := mk (up (upA M 19 g) 19 ((t - 1) - 1) (jn 61 (g ((t - 1) - 1)) (g (t - 1)))) T) (fun _ => rfl) ?_
        rw [up_upA, show t - 1 - 1 = t - 2 by omega]
        exact k1
set_option maxRecDepth 100000 in
set_option maxHeartbeats 4000000 in
theorem w17_sig_62 {ro : xRO} {d : Nat} {M : xM} {T : Nat} {Q : Option Value → xH → Prop} {g : Nat → Int32} {a b c : Int32} {t i k : Nat} {w : Option Value} (hk : M 17 2 = nI k) (k60 : k ≤ 60) (hi : i < k) (hs : M 18 i = 20062) (t2 : 2 ≤ t) (t60 : t ≤ 60) (k1 : Rn ro (d + 2) M_X6_workOut 6 [some (.ref 20), some (.int a), some (.int b), some (.int c), some (.int (nI (t - 1))), some (.int (nI (i + 1))), some (.int 20062)] [] (mk (upA M 19 (upd g (t - 2) (jn 62 (g (t - 2)) (g (t - 1))))) T) Q) : Rn ro (d + 2) M_X6_workOut 6 [some (.ref 20), some (.int a), some (.int b), some (.int c), some (.int (nI t)), some (.int (nI i)), w] [] (mk (upA M 19 g) T) Q := by
  refine R_go 3 (pc' := 12) (L' := [some (.ref 20), some (.int a), some (.int b), some (.int c), some (.int (nI t)), some (.int (nI i)), w]) (st' := [.int ((upA M 19 g) 17 2), .int (nI i)]) (h' := mk (upA M 19 g) T) (fun _ => rfl) ?_
  refine R_top (y := nI k) (hk) ?_
  refine R_if 1 (c := (nI k) ≤ (nI i)) (t := 178) (f := 15) (L' := [some (.ref 20), some (.int a), some (.int b), some (.int c), some (.int (nI t)), some (.int (nI i)), w]) (st' := []) (h' := mk (upA M 19 g) T) (fun _ => rfl) (fun g1 => ?_) (fun g1 => ?_)
  · replace g1 : k ≤ i := (nI_leI (a := k) (b := i) (by omega) (by omega)).mp g1
    omega
  · replace g1 : ¬ k ≤ i := fun q => g1 ((nI_leI (a := k) (b := i) (by omega) (by omega)).mpr q)
    refine R_if 5 (c := 60 ≤ (nI i)) (t := 178) (f := 25) (L' := [some (.ref 20), some (.int a), some (.int b), some (.int c), some (.int (nI t)), some (.int (nI i)), w]) (st' := []) (h' := mk (upA M 19 g) T) (fun _ => rfl) (fun g2 => ?_) (fun g2 => ?_)
    · replace g2 : 60 ≤ i := (nI_leI (a := 60) (b := i) (by omega) (by omega)).mp g2
      omega
    · replace g2 : ¬ 60 ≤ i := fun q => g2 ((nI_leI (a := 60) (b := i) (by omega) (by omega)).mpr q)
      refine R_go 3 (pc' := 31) (L' := [some (.ref 20), some (.int a), some (.int b), some (.int c), some (.int (nI t)), some (.int (nI i)), w]) (st' := [.int (nI i), .ref 21]) (h' := mk (upA M 19 g) T) (fun _ => rfl) ?_
      refine R_iald (c := 18) (n := 60) (j := i) rfl rfl (by omega) (by decide) ?_
      refine R_top (y := 20062) (hs) ?_
      refine R_if 10 (c := (nI t) < 2) (t := 172) (f := 135) (L' := [some (.ref 20), some (.int a), some (.int b), some (.int c), some (.int (nI t)), some (.int (nI i)), some (.int 20062)]) (st' := []) (h' := mk (upA M 19 g) T) (fun _ => rfl) (fun g3 => ?_) (fun g3 => ?_)
      · replace g3 : t < 2 := (nI_ltI (a := t) (b := 2) (by omega) (by omega)).mp g3
        omega
      · replace g3 : ¬ t < 2 := fun q => g3 ((nI_ltI (a := t) (b := 2) (by omega) (by omega)).mpr q)
        refine R_stp (i := .iinc 4 (-1)) (len := 3) (pc' := 138) (L' := [some (.ref 20), some (.int a), some (.int b), some (.int c), some (.int ((nI t) + -1)), some (.int (nI i)), some (.int 20062)]) (st' := []) (h' := mk (upA M 19 g) T) rfl rfl rfl rfl rfl ?_
        rw [nI_m1 (t := t) (by omega)]
        refine R_go 5 (pc' := 146) (L' := [some (.ref 20), some (.int a), some (.int b), some (.int c), some (.int (nI (t - 1))), some (.int (nI i)), some (.int 20062)]) (st' := [.int (nI (t - 1) - 1), .ref 22]) (h' := mk (upA M 19 g) T) (fun _ => rfl) ?_
        refine R_top (pk_sub (a := t - 1) (b := 1) (by omega)) ?_
        refine R_go 8 (pc' := 160) (L' := [some (.ref 20), some (.int a), some (.int b), some (.int c), some (.int (nI (t - 1))), some (.int (nI i)), some (.int 20062)]) (st' := [.int (nI (t - 1) - 1), .ref 22, .int 62, .int (nI ((t - 1) - 1)), .ref 22]) (h' := mk (upA M 19 g) T) (fun _ => rfl) ?_
        refine R_top (pk_sub (a := t - 1) (b := 1) (by omega)) ?_
        refine R_iald (c := 19) (n := 60) (j := (t - 1) - 1) rfl rfl (by omega) (by decide) ?_
        refine R_top (y := g ((t - 1) - 1)) (congrFun upA_eq _) ?_
        refine R_go 3 (pc' := 167) (L' := [some (.ref 20), some (.int a), some (.int b), some (.int c), some (.int (nI (t - 1))), some (.int (nI i)), some (.int 20062)]) (st' := [.int (nI (t - 1)), .ref 22, .int (g ((t - 1) - 1)), .int 62, .int (nI ((t - 1) - 1)), .ref 22]) (h' := mk (upA M 19 g) T) (fun _ => rfl) ?_
        refine R_iald (c := 19) (n := 60) (j := t - 1) rfl rfl (by omega) (by decide) ?_
        refine R_top (y := g (t - 1)) (congrFun upA_eq _) ?_
        refine R_callD (i := .invokestatic 32) (kd := 1) (y := M_X6_joined) (as := [.int 62, .int (g ((t - 1) - 1)), .int (g (t - 1))]) (r := [.int (nI ((t - 1) - 1)), .ref 22]) (L0 := [some (.int 62), some (.int (g ((t - 1) - 1))), some (.int (g (t - 1)))]) (v := some (.int (jn 62 (g ((t - 1) - 1)) (g (t - 1))))) (h' := mk (upA M 19 g) T) (pc' := 171) (st' := [.int (jn 62 (g ((t - 1) - 1)) (g (t - 1))), .int (nI ((t - 1) - 1)), .ref 22]) rfl rfl rfl rfl rfl rfl (c_joined_62) ?_
        refine R_iast (c := 19) (n := 60) (j := (t - 1) - 1) rfl rfl (by omega) (by decide) ?_
        refine R_go 1 (pc' := 175) (L' := [some (.ref 20), some (.int a), some (.int b), some (.int c), some (.int (nI (t - 1))), some (.int ((nI i) + 1)), some (.int 20062)]) (st' := []) (h' := mk (up (upA M 19 g) 19 ((t - 1) - 1) (jn 62 (g ((t - 1) - 1)) (g (t - 1)))) T) (fun _ => rfl) ?_
        rw [nI_1]
        refine R_go 1 (pc' := 6) (L' := [some (.ref 20), some (.int a), some (.int b), some (.int c), some (.int (nI (t - 1))), some (.int (nI (i + 1))), some (.int 20062)]) (st' := []) (h' := mk (up (upA M 19 g) 19 ((t - 1) - 1) (jn 62 (g ((t - 1) - 1)) (g (t - 1)))) T) (fun _ => rfl) ?_
        rw [up_upA, show t - 1 - 1 = t - 2 by omega]
        exact k1
set_option maxRecDepth 100000 in
set_option maxHeartbeats 4000000 in
theorem w17_sig_43 {ro : xRO} {d : Nat} {M : xM} {T : Nat} {Q : Option Value → xH → Prop} {g : Nat → Int32} {a b c : Int32} {t i k : Nat} {w : Option Value} (hk : M 17 2 = nI k) (k60 : k ≤ 60) (hi : i < k) (hs : M 18 i = 20043) (t2 : 2 ≤ t) (t60 : t ≤ 60) (k1 : Rn ro (d + 2) M_X6_workOut 6 [some (.ref 20), some (.int a), some (.int b), some (.int c), some (.int (nI (t - 1))), some (.int (nI (i + 1))), some (.int 20043)] [] (mk (upA M 19 (upd g (t - 2) (jn 43 (g (t - 2)) (g (t - 1))))) T) Q) : Rn ro (d + 2) M_X6_workOut 6 [some (.ref 20), some (.int a), some (.int b), some (.int c), some (.int (nI t)), some (.int (nI i)), w] [] (mk (upA M 19 g) T) Q := by
  refine R_go 3 (pc' := 12) (L' := [some (.ref 20), some (.int a), some (.int b), some (.int c), some (.int (nI t)), some (.int (nI i)), w]) (st' := [.int ((upA M 19 g) 17 2), .int (nI i)]) (h' := mk (upA M 19 g) T) (fun _ => rfl) ?_
  refine R_top (y := nI k) (hk) ?_
  refine R_if 1 (c := (nI k) ≤ (nI i)) (t := 178) (f := 15) (L' := [some (.ref 20), some (.int a), some (.int b), some (.int c), some (.int (nI t)), some (.int (nI i)), w]) (st' := []) (h' := mk (upA M 19 g) T) (fun _ => rfl) (fun g1 => ?_) (fun g1 => ?_)
  · replace g1 : k ≤ i := (nI_leI (a := k) (b := i) (by omega) (by omega)).mp g1
    omega
  · replace g1 : ¬ k ≤ i := fun q => g1 ((nI_leI (a := k) (b := i) (by omega) (by omega)).mpr q)
    refine R_if 5 (c := 60 ≤ (nI i)) (t := 178) (f := 25) (L' := [some (.ref 20), some (.int a), some (.int b), some (.int c), some (.int (nI t)), some (.int (nI i)), w]) (st' := []) (h' := mk (upA M 19 g) T) (fun _ => rfl) (fun g2 => ?_) (fun g2 => ?_)
    · replace g2 : 60 ≤ i := (nI_leI (a := 60) (b := i) (by omega) (by omega)).mp g2
      omega
    · replace g2 : ¬ 60 ≤ i := fun q => g2 ((nI_leI (a := 60) (b := i) (by omega) (by omega)).mpr q)
      refine R_go 3 (pc' := 31) (L' := [some (.ref 20), some (.int a), some (.int b), some (.int c), some (.int (nI t)), some (.int (nI i)), w]) (st' := [.int (nI i), .ref 21]) (h' := mk (upA M 19 g) T) (fun _ => rfl) ?_
      refine R_iald (c := 18) (n := 60) (j := i) rfl rfl (by omega) (by decide) ?_
      refine R_top (y := 20043) (hs) ?_
      refine R_if 10 (c := (nI t) < 2) (t := 172) (f := 135) (L' := [some (.ref 20), some (.int a), some (.int b), some (.int c), some (.int (nI t)), some (.int (nI i)), some (.int 20043)]) (st' := []) (h' := mk (upA M 19 g) T) (fun _ => rfl) (fun g3 => ?_) (fun g3 => ?_)
      · replace g3 : t < 2 := (nI_ltI (a := t) (b := 2) (by omega) (by omega)).mp g3
        omega
      · replace g3 : ¬ t < 2 := fun q => g3 ((nI_ltI (a := t) (b := 2) (by omega) (by omega)).mpr q)
        refine R_stp (i := .iinc 4 (-1)) (len := 3) (pc' := 138) (L' := [some (.ref 20), some (.int a), some (.int b), some (.int c), some (.int ((nI t) + -1)), some (.int (nI i)), some (.int 20043)]) (st' := []) (h' := mk (upA M 19 g) T) rfl rfl rfl rfl rfl ?_
        rw [nI_m1 (t := t) (by omega)]
        refine R_go 5 (pc' := 146) (L' := [some (.ref 20), some (.int a), some (.int b), some (.int c), some (.int (nI (t - 1))), some (.int (nI i)), some (.int 20043)]) (st' := [.int (nI (t - 1) - 1), .ref 22]) (h' := mk (upA M 19 g) T) (fun _ => rfl) ?_
        refine R_top (pk_sub (a := t - 1) (b := 1) (by omega)) ?_
        refine R_go 8 (pc' := 160) (L' := [some (.ref 20), some (.int a), some (.int b), some (.int c), some (.int (nI (t - 1))), some (.int (nI i)), some (.int 20043)]) (st' := [.int (nI (t - 1) - 1), .ref 22, .int 43, .int (nI ((t - 1) - 1)), .ref 22]) (h' := mk (upA M 19 g) T) (fun _ => rfl) ?_
        refine R_top (pk_sub (a := t - 1) (b := 1) (by omega)) ?_
        refine R_iald (c := 19) (n := 60) (j := (t - 1) - 1) rfl rfl (by omega) (by decide) ?_
        refine R_top (y := g ((t - 1) - 1)) (congrFun upA_eq _) ?_
        refine R_go 3 (pc' := 167) (L' := [some (.ref 20), some (.int a), some (.int b), some (.int c), some (.int (nI (t - 1))), some (.int (nI i)), some (.int 20043)]) (st' := [.int (nI (t - 1)), .ref 22, .int (g ((t - 1) - 1)), .int 43, .int (nI ((t - 1) - 1)), .ref 22]) (h' := mk (upA M 19 g) T) (fun _ => rfl) ?_
        refine R_iald (c := 19) (n := 60) (j := t - 1) rfl rfl (by omega) (by decide) ?_
        refine R_top (y := g (t - 1)) (congrFun upA_eq _) ?_
        refine R_callD (i := .invokestatic 32) (kd := 1) (y := M_X6_joined) (as := [.int 43, .int (g ((t - 1) - 1)), .int (g (t - 1))]) (r := [.int (nI ((t - 1) - 1)), .ref 22]) (L0 := [some (.int 43), some (.int (g ((t - 1) - 1))), some (.int (g (t - 1)))]) (v := some (.int (jn 43 (g ((t - 1) - 1)) (g (t - 1))))) (h' := mk (upA M 19 g) T) (pc' := 171) (st' := [.int (jn 43 (g ((t - 1) - 1)) (g (t - 1))), .int (nI ((t - 1) - 1)), .ref 22]) rfl rfl rfl rfl rfl rfl (c_joined_43) ?_
        refine R_iast (c := 19) (n := 60) (j := (t - 1) - 1) rfl rfl (by omega) (by decide) ?_
        refine R_go 1 (pc' := 175) (L' := [some (.ref 20), some (.int a), some (.int b), some (.int c), some (.int (nI (t - 1))), some (.int ((nI i) + 1)), some (.int 20043)]) (st' := []) (h' := mk (up (upA M 19 g) 19 ((t - 1) - 1) (jn 43 (g ((t - 1) - 1)) (g (t - 1)))) T) (fun _ => rfl) ?_
        rw [nI_1]
        refine R_go 1 (pc' := 6) (L' := [some (.ref 20), some (.int a), some (.int b), some (.int c), some (.int (nI (t - 1))), some (.int (nI (i + 1))), some (.int 20043)]) (st' := []) (h' := mk (up (upA M 19 g) 19 ((t - 1) - 1) (jn 43 (g ((t - 1) - 1)) (g (t - 1)))) T) (fun _ => rfl) ?_
        rw [up_upA, show t - 1 - 1 = t - 2 by omega]
        exact k1
set_option maxRecDepth 100000 in
set_option maxHeartbeats 4000000 in
theorem w17_sig_45 {ro : xRO} {d : Nat} {M : xM} {T : Nat} {Q : Option Value → xH → Prop} {g : Nat → Int32} {a b c : Int32} {t i k : Nat} {w : Option Value} (hk : M 17 2 = nI k) (k60 : k ≤ 60) (hi : i < k) (hs : M 18 i = 20045) (t2 : 2 ≤ t) (t60 : t ≤ 60) (k1 : Rn ro (d + 2) M_X6_workOut 6 [some (.ref 20), some (.int a), some (.int b), some (.int c), some (.int (nI (t - 1))), some (.int (nI (i + 1))), some (.int 20045)] [] (mk (upA M 19 (upd g (t - 2) (jn 45 (g (t - 2)) (g (t - 1))))) T) Q) : Rn ro (d + 2) M_X6_workOut 6 [some (.ref 20), some (.int a), some (.int b), some (.int c), some (.int (nI t)), some (.int (nI i)), w] [] (mk (upA M 19 g) T) Q := by
  refine R_go 3 (pc' := 12) (L' := [some (.ref 20), some (.int a), some (.int b), some (.int c), some (.int (nI t)), some (.int (nI i)), w]) (st' := [.int ((upA M 19 g) 17 2), .int (nI i)]) (h' := mk (upA M 19 g) T) (fun _ => rfl) ?_
  refine R_top (y := nI k) (hk) ?_
  refine R_if 1 (c := (nI k) ≤ (nI i)) (t := 178) (f := 15) (L' := [some (.ref 20), some (.int a), some (.int b), some (.int c), some (.int (nI t)), some (.int (nI i)), w]) (st' := []) (h' := mk (upA M 19 g) T) (fun _ => rfl) (fun g1 => ?_) (fun g1 => ?_)
  · replace g1 : k ≤ i := (nI_leI (a := k) (b := i) (by omega) (by omega)).mp g1
    omega
  · replace g1 : ¬ k ≤ i := fun q => g1 ((nI_leI (a := k) (b := i) (by omega) (by omega)).mpr q)
    refine R_if 5 (c := 60 ≤ (nI i)) (t := 178) (f := 25) (L' := [some (.ref 20), some (.int a), some (.int b), some (.int c), some (.int (nI t)), some (.int (nI i)), w]) (st' := []) (h' := mk (upA M 19 g) T) (fun _ => rfl) (fun g2 => ?_) (fun g2 => ?_)
    · replace g2 : 60 ≤ i := (nI_leI (a := 60) (b := i) (by omega) (by omega)).mp g2
      omega
    · replace g2 : ¬ 60 ≤ i := fun q => g2 ((nI_leI (a := 60) (b := i) (by omega) (by omega)).mpr q)
      refine R_go 3 (pc' := 31) (L' := [some (.ref 20), some (.int a), some (.int b), some (.int c), some (.int (nI t)), some (.int (nI i)), w]) (st' := [.int (nI i), .ref 21]) (h' := mk (upA M 19 g) T) (fun _ => rfl) ?_
      refine R_iald (c := 18) (n := 60) (j := i) rfl rfl (by omega) (by decide) ?_
      refine R_top (y := 20045) (hs) ?_
      refine R_if 10 (c := (nI t) < 2) (t := 172) (f := 135) (L' := [some (.ref 20), some (.int a), some (.int b), some (.int c), some (.int (nI t)), some (.int (nI i)), some (.int 20045)]) (st' := []) (h' := mk (upA M 19 g) T) (fun _ => rfl) (fun g3 => ?_) (fun g3 => ?_)
      · replace g3 : t < 2 := (nI_ltI (a := t) (b := 2) (by omega) (by omega)).mp g3
        omega
      · replace g3 : ¬ t < 2 := fun q => g3 ((nI_ltI (a := t) (b := 2) (by omega) (by omega)).mpr q)
        refine R_stp (i := .iinc 4 (-1)) (len := 3) (pc' := 138) (L' := [some (.ref 20), some (.int a), some (.int b), some (.int c), some (.int ((nI t) + -1)), some (.int (nI i)), some (.int 20045)]) (st' := []) (h' := mk (upA M 19 g) T) rfl rfl rfl rfl rfl ?_
        rw [nI_m1 (t := t) (by omega)]
        refine R_go 5 (pc' := 146) (L' := [some (.ref 20), some (.int a), some (.int b), some (.int c), some (.int (nI (t - 1))), some (.int (nI i)), some (.int 20045)]) (st' := [.int (nI (t - 1) - 1), .ref 22]) (h' := mk (upA M 19 g) T) (fun _ => rfl) ?_
        refine R_top (pk_sub (a := t - 1) (b := 1) (by omega)) ?_
        refine R_go 8 (pc' := 160) (L' := [some (.ref 20), some (.int a), some (.int b), some (.int c), some (.int (nI (t - 1))), some (.int (nI i)), some (.int 20045)]) (st' := [.int (nI (t - 1) - 1), .ref 22, .int 45, .int (nI ((t - 1) - 1)), .ref 22]) (h' := mk (upA M 19 g) T) (fun _ => rfl) ?_
        refine R_top (pk_sub (a := t - 1) (b := 1) (by omega)) ?_
        refine R_iald (c := 19) (n := 60) (j := (t - 1) - 1) rfl rfl (by omega) (by decide) ?_
        refine R_top (y := g ((t - 1) - 1)) (congrFun upA_eq _) ?_
        refine R_go 3 (pc' := 167) (L' := [some (.ref 20), some (.int a), some (.int b), some (.int c), some (.int (nI (t - 1))), some (.int (nI i)), some (.int 20045)]) (st' := [.int (nI (t - 1)), .ref 22, .int (g ((t - 1) - 1)), .int 45, .int (nI ((t - 1) - 1)), .ref 22]) (h' := mk (upA M 19 g) T) (fun _ => rfl) ?_
        refine R_iald (c := 19) (n := 60) (j := t - 1) rfl rfl (by omega) (by decide) ?_
        refine R_top (y := g (t - 1)) (congrFun upA_eq _) ?_
        refine R_callD (i := .invokestatic 32) (kd := 1) (y := M_X6_joined) (as := [.int 45, .int (g ((t - 1) - 1)), .int (g (t - 1))]) (r := [.int (nI ((t - 1) - 1)), .ref 22]) (L0 := [some (.int 45), some (.int (g ((t - 1) - 1))), some (.int (g (t - 1)))]) (v := some (.int (jn 45 (g ((t - 1) - 1)) (g (t - 1))))) (h' := mk (upA M 19 g) T) (pc' := 171) (st' := [.int (jn 45 (g ((t - 1) - 1)) (g (t - 1))), .int (nI ((t - 1) - 1)), .ref 22]) rfl rfl rfl rfl rfl rfl (c_joined_45) ?_
        refine R_iast (c := 19) (n := 60) (j := (t - 1) - 1) rfl rfl (by omega) (by decide) ?_
        refine R_go 1 (pc' := 175) (L' := [some (.ref 20), some (.int a), some (.int b), some (.int c), some (.int (nI (t - 1))), some (.int ((nI i) + 1)), some (.int 20045)]) (st' := []) (h' := mk (up (upA M 19 g) 19 ((t - 1) - 1) (jn 45 (g ((t - 1) - 1)) (g (t - 1)))) T) (fun _ => rfl) ?_
        rw [nI_1]
        refine R_go 1 (pc' := 6) (L' := [some (.ref 20), some (.int a), some (.int b), some (.int c), some (.int (nI (t - 1))), some (.int (nI (i + 1))), some (.int 20045)]) (st' := []) (h' := mk (up (upA M 19 g) 19 ((t - 1) - 1) (jn 45 (g ((t - 1) - 1)) (g (t - 1)))) T) (fun _ => rfl) ?_
        rw [up_upA, show t - 1 - 1 = t - 2 by omega]
        exact k1
set_option maxRecDepth 100000 in
set_option maxHeartbeats 4000000 in
theorem w17_sig_42 {ro : xRO} {d : Nat} {M : xM} {T : Nat} {Q : Option Value → xH → Prop} {g : Nat → Int32} {a b c : Int32} {t i k : Nat} {w : Option Value} (hk : M 17 2 = nI k) (k60 : k ≤ 60) (hi : i < k) (hs : M 18 i = 20042) (t2 : 2 ≤ t) (t60 : t ≤ 60) (k1 : Rn ro (d + 2) M_X6_workOut 6 [some (.ref 20), some (.int a), some (.int b), some (.int c), some (.int (nI (t - 1))), some (.int (nI (i + 1))), some (.int 20042)] [] (mk (upA M 19 (upd g (t - 2) (jn 42 (g (t - 2)) (g (t - 1))))) T) Q) : Rn ro (d + 2) M_X6_workOut 6 [some (.ref 20), some (.int a), some (.int b), some (.int c), some (.int (nI t)), some (.int (nI i)), w] [] (mk (upA M 19 g) T) Q := by
  refine R_go 3 (pc' := 12) (L' := [some (.ref 20), some (.int a), some (.int b), some (.int c), some (.int (nI t)), some (.int (nI i)), w]) (st' := [.int ((upA M 19 g) 17 2), .int (nI i)]) (h' := mk (upA M 19 g) T) (fun _ => rfl) ?_
  refine R_top (y := nI k) (hk) ?_
  refine R_if 1 (c := (nI k) ≤ (nI i)) (t := 178) (f := 15) (L' := [some (.ref 20), some (.int a), some (.int b), some (.int c), some (.int (nI t)), some (.int (nI i)), w]) (st' := []) (h' := mk (upA M 19 g) T) (fun _ => rfl) (fun g1 => ?_) (fun g1 => ?_)
  · replace g1 : k ≤ i := (nI_leI (a := k) (b := i) (by omega) (by omega)).mp g1
    omega
  · replace g1 : ¬ k ≤ i := fun q => g1 ((nI_leI (a := k) (b := i) (by omega) (by omega)).mpr q)
    refine R_if 5 (c := 60 ≤ (nI i)) (t := 178) (f := 25) (L' := [some (.ref 20), some (.int a), some (.int b), some (.int c), some (.int (nI t)), some (.int (nI i)), w]) (st' := []) (h' := mk (upA M 19 g) T) (fun _ => rfl) (fun g2 => ?_) (fun g2 => ?_)
    · replace g2 : 60 ≤ i := (nI_leI (a := 60) (b := i) (by omega) (by omega)).mp g2
      omega
    · replace g2 : ¬ 60 ≤ i := fun q => g2 ((nI_leI (a := 60) (b := i) (by omega) (by omega)).mpr q)
      refine R_go 3 (pc' := 31) (L' := [some (.ref 20), some (.int a), some (.int b), some (.int c), some (.int (nI t)), some (.int (nI i)), w]) (st' := [.int (nI i), .ref 21]) (h' := mk (upA M 19 g) T) (fun _ => rfl) ?_
      refine R_iald (c := 18) (n := 60) (j := i) rfl rfl (by omega) (by decide) ?_
      refine R_top (y := 20042) (hs) ?_
      refine R_if 10 (c := (nI t) < 2) (t := 172) (f := 135) (L' := [some (.ref 20), some (.int a), some (.int b), some (.int c), some (.int (nI t)), some (.int (nI i)), some (.int 20042)]) (st' := []) (h' := mk (upA M 19 g) T) (fun _ => rfl) (fun g3 => ?_) (fun g3 => ?_)
      · replace g3 : t < 2 := (nI_ltI (a := t) (b := 2) (by omega) (by omega)).mp g3
        omega
      · replace g3 : ¬ t < 2 := fun q => g3 ((nI_ltI (a := t) (b := 2) (by omega) (by omega)).mpr q)
        refine R_stp (i := .iinc 4 (-1)) (len := 3) (pc' := 138) (L' := [some (.ref 20), some (.int a), some (.int b), some (.int c), some (.int ((nI t) + -1)), some (.int (nI i)), some (.int 20042)]) (st' := []) (h' := mk (upA M 19 g) T) rfl rfl rfl rfl rfl ?_
        rw [nI_m1 (t := t) (by omega)]
        refine R_go 5 (pc' := 146) (L' := [some (.ref 20), some (.int a), some (.int b), some (.int c), some (.int (nI (t - 1))), some (.int (nI i)), some (.int 20042)]) (st' := [.int (nI (t - 1) - 1), .ref 22]) (h' := mk (upA M 19 g) T) (fun _ => rfl) ?_
        refine R_top (pk_sub (a := t - 1) (b := 1) (by omega)) ?_
        refine R_go 8 (pc' := 160) (L' := [some (.ref 20), some (.int a), some (.int b), some (.int c), some (.int (nI (t - 1))), some (.int (nI i)), some (.int 20042)]) (st' := [.int (nI (t - 1) - 1), .ref 22, .int 42, .int (nI ((t - 1) - 1)), .ref 22]) (h' := mk (upA M 19 g) T) (fun _ => rfl) ?_
        refine R_top (pk_sub (a := t - 1) (b := 1) (by omega)) ?_
        refine R_iald (c := 19) (n := 60) (j := (t - 1) - 1) rfl rfl (by omega) (by decide) ?_
        refine R_top (y := g ((t - 1) - 1)) (congrFun upA_eq _) ?_
        refine R_go 3 (pc' := 167) (L' := [some (.ref 20), some (.int a), some (.int b), some (.int c), some (.int (nI (t - 1))), some (.int (nI i)), some (.int 20042)]) (st' := [.int (nI (t - 1)), .ref 22, .int (g ((t - 1) - 1)), .int 42, .int (nI ((t - 1) - 1)), .ref 22]) (h' := mk (upA M 19 g) T) (fun _ => rfl) ?_
        refine R_iald (c := 19) (n := 60) (j := t - 1) rfl rfl (by omega) (by decide) ?_
        refine R_top (y := g (t - 1)) (congrFun upA_eq _) ?_
        refine R_callD (i := .invokestatic 32) (kd := 1) (y := M_X6_joined) (as := [.int 42, .int (g ((t - 1) - 1)), .int (g (t - 1))]) (r := [.int (nI ((t - 1) - 1)), .ref 22]) (L0 := [some (.int 42), some (.int (g ((t - 1) - 1))), some (.int (g (t - 1)))]) (v := some (.int (jn 42 (g ((t - 1) - 1)) (g (t - 1))))) (h' := mk (upA M 19 g) T) (pc' := 171) (st' := [.int (jn 42 (g ((t - 1) - 1)) (g (t - 1))), .int (nI ((t - 1) - 1)), .ref 22]) rfl rfl rfl rfl rfl rfl (c_joined_42) ?_
        refine R_iast (c := 19) (n := 60) (j := (t - 1) - 1) rfl rfl (by omega) (by decide) ?_
        refine R_go 1 (pc' := 175) (L' := [some (.ref 20), some (.int a), some (.int b), some (.int c), some (.int (nI (t - 1))), some (.int ((nI i) + 1)), some (.int 20042)]) (st' := []) (h' := mk (up (upA M 19 g) 19 ((t - 1) - 1) (jn 42 (g ((t - 1) - 1)) (g (t - 1)))) T) (fun _ => rfl) ?_
        rw [nI_1]
        refine R_go 1 (pc' := 6) (L' := [some (.ref 20), some (.int a), some (.int b), some (.int c), some (.int (nI (t - 1))), some (.int (nI (i + 1))), some (.int 20042)]) (st' := []) (h' := mk (up (upA M 19 g) 19 ((t - 1) - 1) (jn 42 (g ((t - 1) - 1)) (g (t - 1)))) T) (fun _ => rfl) ?_
        rw [up_upA, show t - 1 - 1 = t - 2 by omega]
        exact k1
set_option maxRecDepth 100000 in
set_option maxHeartbeats 4000000 in
theorem w17_sig_47 {ro : xRO} {d : Nat} {M : xM} {T : Nat} {Q : Option Value → xH → Prop} {g : Nat → Int32} {a b c : Int32} {t i k : Nat} {w : Option Value} (hk : M 17 2 = nI k) (k60 : k ≤ 60) (hi : i < k) (hs : M 18 i = 20047) (t2 : 2 ≤ t) (t60 : t ≤ 60) (k1 : Rn ro (d + 2) M_X6_workOut 6 [some (.ref 20), some (.int a), some (.int b), some (.int c), some (.int (nI (t - 1))), some (.int (nI (i + 1))), some (.int 20047)] [] (mk (upA M 19 (upd g (t - 2) (jn 47 (g (t - 2)) (g (t - 1))))) T) Q) : Rn ro (d + 2) M_X6_workOut 6 [some (.ref 20), some (.int a), some (.int b), some (.int c), some (.int (nI t)), some (.int (nI i)), w] [] (mk (upA M 19 g) T) Q := by
  refine R_go 3 (pc' := 12) (L' := [some (.ref 20), some (.int a), some (.int b), some (.int c), some (.int (nI t)), some (.int (nI i)), w]) (st' := [.int ((upA M 19 g) 17 2), .int (nI i)]) (h' := mk (upA M 19 g) T) (fun _ => rfl) ?_
  refine R_top (y := nI k) (hk) ?_
  refine R_if 1 (c := (nI k) ≤ (nI i)) (t := 178) (f := 15) (L' := [some (.ref 20), some (.int a), some (.int b), some (.int c), some (.int (nI t)), some (.int (nI i)), w]) (st' := []) (h' := mk (upA M 19 g) T) (fun _ => rfl) (fun g1 => ?_) (fun g1 => ?_)
  · replace g1 : k ≤ i := (nI_leI (a := k) (b := i) (by omega) (by omega)).mp g1
    omega
  · replace g1 : ¬ k ≤ i := fun q => g1 ((nI_leI (a := k) (b := i) (by omega) (by omega)).mpr q)
    refine R_if 5 (c := 60 ≤ (nI i)) (t := 178) (f := 25) (L' := [some (.ref 20), some (.int a), some (.int b), some (.int c), some (.int (nI t)), some (.int (nI i)), w]) (st' := []) (h' := mk (upA M 19 g) T) (fun _ => rfl) (fun g2 => ?_) (fun g2 => ?_)
    · replace g2 : 60 ≤ i := (nI_leI (a := 60) (b := i) (by omega) (by omega)).mp g2
      omega
    · replace g2 : ¬ 60 ≤ i := fun q => g2 ((nI_leI (a := 60) (b := i) (by omega) (by omega)).mpr q)
      refine R_go 3 (pc' := 31) (L' := [some (.ref 20), some (.int a), some (.int b), some (.int c), some (.int (nI t)), some (.int (nI i)), w]) (st' := [.int (nI i), .ref 21]) (h' := mk (upA M 19 g) T) (fun _ => rfl) ?_
      refine R_iald (c := 18) (n := 60) (j := i) rfl rfl (by omega) (by decide) ?_
      refine R_top (y := 20047) (hs) ?_
      refine R_if 10 (c := (nI t) < 2) (t := 172) (f := 135) (L' := [some (.ref 20), some (.int a), some (.int b), some (.int c), some (.int (nI t)), some (.int (nI i)), some (.int 20047)]) (st' := []) (h' := mk (upA M 19 g) T) (fun _ => rfl) (fun g3 => ?_) (fun g3 => ?_)
      · replace g3 : t < 2 := (nI_ltI (a := t) (b := 2) (by omega) (by omega)).mp g3
        omega
      · replace g3 : ¬ t < 2 := fun q => g3 ((nI_ltI (a := t) (b := 2) (by omega) (by omega)).mpr q)
        refine R_stp (i := .iinc 4 (-1)) (len := 3) (pc' := 138) (L' := [some (.ref 20), some (.int a), some (.int b), some (.int c), some (.int ((nI t) + -1)), some (.int (nI i)), some (.int 20047)]) (st' := []) (h' := mk (upA M 19 g) T) rfl rfl rfl rfl rfl ?_
        rw [nI_m1 (t := t) (by omega)]
        refine R_go 5 (pc' := 146) (L' := [some (.ref 20), some (.int a), some (.int b), some (.int c), some (.int (nI (t - 1))), some (.int (nI i)), some (.int 20047)]) (st' := [.int (nI (t - 1) - 1), .ref 22]) (h' := mk (upA M 19 g) T) (fun _ => rfl) ?_
        refine R_top (pk_sub (a := t - 1) (b := 1) (by omega)) ?_
        refine R_go 8 (pc' := 160) (L' := [some (.ref 20), some (.int a), some (.int b), some (.int c), some (.int (nI (t - 1))), some (.int (nI i)), some (.int 20047)]) (st' := [.int (nI (t - 1) - 1), .ref 22, .int 47, .int (nI ((t - 1) - 1)), .ref 22]) (h' := mk (upA M 19 g) T) (fun _ => rfl) ?_
        refine R_top (pk_sub (a := t - 1) (b := 1) (by omega)) ?_
        refine R_iald (c := 19) (n := 60) (j := (t - 1) - 1) rfl rfl (by omega) (by decide) ?_
        refine R_top (y := g ((t - 1) - 1)) (congrFun upA_eq _) ?_
        refine R_go 3 (pc' := 167) (L' := [some (.ref 20), some (.int a), some (.int b), some (.int c), some (.int (nI (t - 1))), some (.int (nI i)), some (.int 20047)]) (st' := [.int (nI (t - 1)), .ref 22, .int (g ((t - 1) - 1)), .int 47, .int (nI ((t - 1) - 1)), .ref 22]) (h' := mk (upA M 19 g) T) (fun _ => rfl) ?_
        refine R_iald (c := 19) (n := 60) (j := t - 1) rfl rfl (by omega) (by decide) ?_
        refine R_top (y := g (t - 1)) (congrFun upA_eq _) ?_
        refine R_callD (i := .invokestatic 32) (kd := 1) (y := M_X6_joined) (as := [.int 47, .int (g ((t - 1) - 1)), .int (g (t - 1))]) (r := [.int (nI ((t - 1) - 1)), .ref 22]) (L0 := [some (.int 47), some (.int (g ((t - 1) - 1))), some (.int (g (t - 1)))]) (v := some (.int (jn 47 (g ((t - 1) - 1)) (g (t - 1))))) (h' := mk (upA M 19 g) T) (pc' := 171) (st' := [.int (jn 47 (g ((t - 1) - 1)) (g (t - 1))), .int (nI ((t - 1) - 1)), .ref 22]) rfl rfl rfl rfl rfl rfl (c_joined_47) ?_
        refine R_iast (c := 19) (n := 60) (j := (t - 1) - 1) rfl rfl (by omega) (by decide) ?_
        refine R_go 1 (pc' := 175) (L' := [some (.ref 20), some (.int a), some (.int b), some (.int c), some (.int (nI (t - 1))), some (.int ((nI i) + 1)), some (.int 20047)]) (st' := []) (h' := mk (up (upA M 19 g) 19 ((t - 1) - 1) (jn 47 (g ((t - 1) - 1)) (g (t - 1)))) T) (fun _ => rfl) ?_
        rw [nI_1]
        refine R_go 1 (pc' := 6) (L' := [some (.ref 20), some (.int a), some (.int b), some (.int c), some (.int (nI (t - 1))), some (.int (nI (i + 1))), some (.int 20047)]) (st' := []) (h' := mk (up (upA M 19 g) 19 ((t - 1) - 1) (jn 47 (g ((t - 1) - 1)) (g (t - 1)))) T) (fun _ => rfl) ?_
        rw [up_upA, show t - 1 - 1 = t - 2 by omega]
        exact k1
set_option maxRecDepth 100000 in
set_option maxHeartbeats 4000000 in
theorem w17_sig_37 {ro : xRO} {d : Nat} {M : xM} {T : Nat} {Q : Option Value → xH → Prop} {g : Nat → Int32} {a b c : Int32} {t i k : Nat} {w : Option Value} (hk : M 17 2 = nI k) (k60 : k ≤ 60) (hi : i < k) (hs : M 18 i = 20037) (t2 : 2 ≤ t) (t60 : t ≤ 60) (k1 : Rn ro (d + 2) M_X6_workOut 6 [some (.ref 20), some (.int a), some (.int b), some (.int c), some (.int (nI (t - 1))), some (.int (nI (i + 1))), some (.int 20037)] [] (mk (upA M 19 (upd g (t - 2) (jn 37 (g (t - 2)) (g (t - 1))))) T) Q) : Rn ro (d + 2) M_X6_workOut 6 [some (.ref 20), some (.int a), some (.int b), some (.int c), some (.int (nI t)), some (.int (nI i)), w] [] (mk (upA M 19 g) T) Q := by
  refine R_go 3 (pc' := 12) (L' := [some (.ref 20), some (.int a), some (.int b), some (.int c), some (.int (nI t)), some (.int (nI i)), w]) (st' := [.int ((upA M 19 g) 17 2), .int (nI i)]) (h' := mk (upA M 19 g) T) (fun _ => rfl) ?_
  refine R_top (y := nI k) (hk) ?_
  refine R_if 1 (c := (nI k) ≤ (nI i)) (t := 178) (f := 15) (L' := [some (.ref 20), some (.int a), some (.int b), some (.int c), some (.int (nI t)), some (.int (nI i)), w]) (st' := []) (h' := mk (upA M 19 g) T) (fun _ => rfl) (fun g1 => ?_) (fun g1 => ?_)
  · replace g1 : k ≤ i := (nI_leI (a := k) (b := i) (by omega) (by omega)).mp g1
    omega
  · replace g1 : ¬ k ≤ i := fun q => g1 ((nI_leI (a := k) (b := i) (by omega) (by omega)).mpr q)
    refine R_if 5 (c := 60 ≤ (nI i)) (t := 178) (f := 25) (L' := [some (.ref 20), some (.int a), some (.int b), some (.int c), some (.int (nI t)), some (.int (nI i)), w]) (st' := []) (h' := mk (upA M 19 g) T) (fun _ => rfl) (fun g2 => ?_) (fun g2 => ?_)
    · replace g2 : 60 ≤ i := (nI_leI (a := 60) (b := i) (by omega) (by omega)).mp g2
      omega
    · replace g2 : ¬ 60 ≤ i := fun q => g2 ((nI_leI (a := 60) (b := i) (by omega) (by omega)).mpr q)
      refine R_go 3 (pc' := 31) (L' := [some (.ref 20), some (.int a), some (.int b), some (.int c), some (.int (nI t)), some (.int (nI i)), w]) (st' := [.int (nI i), .ref 21]) (h' := mk (upA M 19 g) T) (fun _ => rfl) ?_
      refine R_iald (c := 18) (n := 60) (j := i) rfl rfl (by omega) (by decide) ?_
      refine R_top (y := 20037) (hs) ?_
      refine R_if 10 (c := (nI t) < 2) (t := 172) (f := 135) (L' := [some (.ref 20), some (.int a), some (.int b), some (.int c), some (.int (nI t)), some (.int (nI i)), some (.int 20037)]) (st' := []) (h' := mk (upA M 19 g) T) (fun _ => rfl) (fun g3 => ?_) (fun g3 => ?_)
      · replace g3 : t < 2 := (nI_ltI (a := t) (b := 2) (by omega) (by omega)).mp g3
        omega
      · replace g3 : ¬ t < 2 := fun q => g3 ((nI_ltI (a := t) (b := 2) (by omega) (by omega)).mpr q)
        refine R_stp (i := .iinc 4 (-1)) (len := 3) (pc' := 138) (L' := [some (.ref 20), some (.int a), some (.int b), some (.int c), some (.int ((nI t) + -1)), some (.int (nI i)), some (.int 20037)]) (st' := []) (h' := mk (upA M 19 g) T) rfl rfl rfl rfl rfl ?_
        rw [nI_m1 (t := t) (by omega)]
        refine R_go 5 (pc' := 146) (L' := [some (.ref 20), some (.int a), some (.int b), some (.int c), some (.int (nI (t - 1))), some (.int (nI i)), some (.int 20037)]) (st' := [.int (nI (t - 1) - 1), .ref 22]) (h' := mk (upA M 19 g) T) (fun _ => rfl) ?_
        refine R_top (pk_sub (a := t - 1) (b := 1) (by omega)) ?_
        refine R_go 8 (pc' := 160) (L' := [some (.ref 20), some (.int a), some (.int b), some (.int c), some (.int (nI (t - 1))), some (.int (nI i)), some (.int 20037)]) (st' := [.int (nI (t - 1) - 1), .ref 22, .int 37, .int (nI ((t - 1) - 1)), .ref 22]) (h' := mk (upA M 19 g) T) (fun _ => rfl) ?_
        refine R_top (pk_sub (a := t - 1) (b := 1) (by omega)) ?_
        refine R_iald (c := 19) (n := 60) (j := (t - 1) - 1) rfl rfl (by omega) (by decide) ?_
        refine R_top (y := g ((t - 1) - 1)) (congrFun upA_eq _) ?_
        refine R_go 3 (pc' := 167) (L' := [some (.ref 20), some (.int a), some (.int b), some (.int c), some (.int (nI (t - 1))), some (.int (nI i)), some (.int 20037)]) (st' := [.int (nI (t - 1)), .ref 22, .int (g ((t - 1) - 1)), .int 37, .int (nI ((t - 1) - 1)), .ref 22]) (h' := mk (upA M 19 g) T) (fun _ => rfl) ?_
        refine R_iald (c := 19) (n := 60) (j := t - 1) rfl rfl (by omega) (by decide) ?_
        refine R_top (y := g (t - 1)) (congrFun upA_eq _) ?_
        refine R_callD (i := .invokestatic 32) (kd := 1) (y := M_X6_joined) (as := [.int 37, .int (g ((t - 1) - 1)), .int (g (t - 1))]) (r := [.int (nI ((t - 1) - 1)), .ref 22]) (L0 := [some (.int 37), some (.int (g ((t - 1) - 1))), some (.int (g (t - 1)))]) (v := some (.int (jn 37 (g ((t - 1) - 1)) (g (t - 1))))) (h' := mk (upA M 19 g) T) (pc' := 171) (st' := [.int (jn 37 (g ((t - 1) - 1)) (g (t - 1))), .int (nI ((t - 1) - 1)), .ref 22]) rfl rfl rfl rfl rfl rfl (c_joined_37) ?_
        refine R_iast (c := 19) (n := 60) (j := (t - 1) - 1) rfl rfl (by omega) (by decide) ?_
        refine R_go 1 (pc' := 175) (L' := [some (.ref 20), some (.int a), some (.int b), some (.int c), some (.int (nI (t - 1))), some (.int ((nI i) + 1)), some (.int 20037)]) (st' := []) (h' := mk (up (upA M 19 g) 19 ((t - 1) - 1) (jn 37 (g ((t - 1) - 1)) (g (t - 1)))) T) (fun _ => rfl) ?_
        rw [nI_1]
        refine R_go 1 (pc' := 6) (L' := [some (.ref 20), some (.int a), some (.int b), some (.int c), some (.int (nI (t - 1))), some (.int (nI (i + 1))), some (.int 20037)]) (st' := []) (h' := mk (up (upA M 19 g) 19 ((t - 1) - 1) (jn 37 (g ((t - 1) - 1)) (g (t - 1)))) T) (fun _ => rfl) ?_
        rw [up_upA, show t - 1 - 1 = t - 2 by omega]
        exact k1
set_option maxRecDepth 100000 in
set_option maxHeartbeats 4000000 in
theorem v156_push {ro : xRO} {d : Nat} {M : xM} {T : Nat} {Q : Option Value → xH → Prop} {g : Nat → Int32} {t i k : Nat} {w : Option Value} (hk : M 62 156 = nI k) (k60 : k ≤ 60) (hi : i < k) (hs : M 62 (157 + i) = 1) {v : Int32} (hw : M 62 (217 + i) = v) (t60 : t < 60) (k1 : Rn ro (d + 2) M_X8_works 4 [some (.ref 64), some (.int 156), some (.int (nI (t + 1))), some (.int (nI (i + 1))), some (.int 1)] [] (mk (upA M 71 (upd g t v)) T) Q) : Rn ro (d + 2) M_X8_works 4 [some (.ref 64), some (.int 156), some (.int (nI t)), some (.int (nI i)), w] [] (mk (upA M 71 g) T) Q := by
  refine R_go 5 (pc' := 11) (L' := [some (.ref 64), some (.int 156), some (.int (nI t)), some (.int (nI i)), w]) (st' := [.int ((upA M 71 g) 62 156), .int (nI i)]) (h' := mk (upA M 71 g) T) (fun _ => rfl) ?_
  refine R_top (y := nI k) (hk) ?_
  refine R_if 1 (c := (nI k) ≤ (nI i)) (t := 155) (f := 14) (L' := [some (.ref 64), some (.int 156), some (.int (nI t)), some (.int (nI i)), w]) (st' := []) (h' := mk (upA M 71 g) T) (fun _ => rfl) (fun g1 => ?_) (fun g1 => ?_)
  · replace g1 : k ≤ i := (nI_leI (a := k) (b := i) (by omega) (by omega)).mp g1
    omega
  · replace g1 : ¬ k ≤ i := fun q => g1 ((nI_leI (a := k) (b := i) (by omega) (by omega)).mpr q)
    refine R_go 7 (pc' := 23) (L' := [some (.ref 64), some (.int 156), some (.int (nI t)), some (.int (nI i)), w]) (st' := [.int (157 + nI i), .ref 65]) (h' := mk (upA M 71 g) T) (fun _ => rfl) ?_
    refine R_top (nI_add 157 i) ?_
    refine R_iald (c := 62) (n := 398) (j := 157 + i) rfl rfl (by omega) (by decide) ?_
    refine R_top (y := 1) (hs) ?_
    refine R_go 17 (pc' := 59) (L' := [some (.ref 64), some (.int 156), some (.int (nI t)), some (.int (nI i)), some (.int 1)]) (st' := [.int (217 + nI i), .ref 65, .int (nI t), .ref 74]) (h' := mk (upA M 71 g) T) (fun _ => rfl) ?_
    refine R_top (nI_add 217 i) ?_
    refine R_iald (c := 62) (n := 398) (j := 217 + i) rfl rfl (by omega) (by decide) ?_
    refine R_top (y := v) (hw) ?_
    refine R_go 1 (pc' := 79) (L' := [some (.ref 64), some (.int 156), some (.int (nI t)), some (.int (nI i)), some (.int 1)]) (st' := [.int v, .int (nI t), .ref 74]) (h' := mk (upA M 71 g) T) (fun _ => rfl) ?_
    refine R_iast (c := 71) (n := 60) (j := t) rfl rfl (by omega) (by decide) ?_
    refine R_go 1 (pc' := 83) (L' := [some (.ref 64), some (.int 156), some (.int ((nI t) + 1)), some (.int (nI i)), some (.int 1)]) (st' := []) (h' := mk (up (upA M 71 g) 71 t v) T) (fun _ => rfl) ?_
    rw [nI_1]
    refine R_go 2 (pc' := 152) (L' := [some (.ref 64), some (.int 156), some (.int (nI (t + 1))), some (.int ((nI i) + 1)), some (.int 1)]) (st' := []) (h' := mk (up (upA M 71 g) 71 t v) T) (fun _ => rfl) ?_
    rw [nI_1]
    refine R_go 1 (pc' := 4) (L' := [some (.ref 64), some (.int 156), some (.int (nI (t + 1))), some (.int (nI (i + 1))), some (.int 1)]) (st' := []) (h' := mk (up (upA M 71 g) 71 t v) T) (fun _ => rfl) ?_
    rw [up_upA]
    exact k1
set_option maxRecDepth 100000 in
set_option maxHeartbeats 4000000 in
theorem v156_name {ro : xRO} {d : Nat} {M : xM} {T : Nat} {Q : Option Value → xH → Prop} {g : Nat → Int32} {t i k : Nat} {w : Option Value} (hk : M 62 156 = nI k) (k60 : k ≤ 60) (hi : i < k) (hs : M 62 (157 + i) = 2) {u : Nat} (u2 : u ≤ 2) (hw : M 62 (217 + i) = nI u) (t60 : t < 60) (k1 : Rn ro (d + 2) M_X8_works 4 [some (.ref 64), some (.int 156), some (.int (nI (t + 1))), some (.int (nI (i + 1))), some (.int 2)] [] (mk (upA M 71 (upd g t (M 70 u))) T) Q) : Rn ro (d + 2) M_X8_works 4 [some (.ref 64), some (.int 156), some (.int (nI t)), some (.int (nI i)), w] [] (mk (upA M 71 g) T) Q := by
  refine R_go 5 (pc' := 11) (L' := [some (.ref 64), some (.int 156), some (.int (nI t)), some (.int (nI i)), w]) (st' := [.int ((upA M 71 g) 62 156), .int (nI i)]) (h' := mk (upA M 71 g) T) (fun _ => rfl) ?_
  refine R_top (y := nI k) (hk) ?_
  refine R_if 1 (c := (nI k) ≤ (nI i)) (t := 155) (f := 14) (L' := [some (.ref 64), some (.int 156), some (.int (nI t)), some (.int (nI i)), w]) (st' := []) (h' := mk (upA M 71 g) T) (fun _ => rfl) (fun g1 => ?_) (fun g1 => ?_)
  · replace g1 : k ≤ i := (nI_leI (a := k) (b := i) (by omega) (by omega)).mp g1
    omega
  · replace g1 : ¬ k ≤ i := fun q => g1 ((nI_leI (a := k) (b := i) (by omega) (by omega)).mpr q)
    refine R_go 7 (pc' := 23) (L' := [some (.ref 64), some (.int 156), some (.int (nI t)), some (.int (nI i)), w]) (st' := [.int (157 + nI i), .ref 65]) (h' := mk (upA M 71 g) T) (fun _ => rfl) ?_
    refine R_top (nI_add 157 i) ?_
    refine R_iald (c := 62) (n := 398) (j := 157 + i) rfl rfl (by omega) (by decide) ?_
    refine R_top (y := 2) (hs) ?_
    refine R_go 22 (pc' := 77) (L' := [some (.ref 64), some (.int 156), some (.int (nI t)), some (.int (nI i)), some (.int 2)]) (st' := [.int (217 + nI i), .ref 65, .ref 73, .int (nI t), .ref 74]) (h' := mk (upA M 71 g) T) (fun _ => rfl) ?_
    refine R_top (nI_add 217 i) ?_
    refine R_iald (c := 62) (n := 398) (j := 217 + i) rfl rfl (by omega) (by decide) ?_
    refine R_top (y := nI u) (hw) ?_
    refine R_iald (c := 70) (n := 3) (j := u) rfl rfl (by omega) (by decide) ?_
    refine R_top (y := M 70 u) (rfl) ?_
    refine R_iast (c := 71) (n := 60) (j := t) rfl rfl (by omega) (by decide) ?_
    refine R_go 1 (pc' := 83) (L' := [some (.ref 64), some (.int 156), some (.int ((nI t) + 1)), some (.int (nI i)), some (.int 2)]) (st' := []) (h' := mk (up (upA M 71 g) 71 t (M 70 u)) T) (fun _ => rfl) ?_
    rw [nI_1]
    refine R_go 2 (pc' := 152) (L' := [some (.ref 64), some (.int 156), some (.int (nI (t + 1))), some (.int ((nI i) + 1)), some (.int 2)]) (st' := []) (h' := mk (up (upA M 71 g) 71 t (M 70 u)) T) (fun _ => rfl) ?_
    rw [nI_1]
    refine R_go 1 (pc' := 4) (L' := [some (.ref 64), some (.int 156), some (.int (nI (t + 1))), some (.int (nI (i + 1))), some (.int 2)]) (st' := []) (h' := mk (up (upA M 71 g) 71 t (M 70 u)) T) (fun _ => rfl) ?_
    rw [up_upA]
    exact k1
set_option maxRecDepth 100000 in
set_option maxHeartbeats 4000000 in
theorem v156_not {ro : xRO} {d : Nat} {M : xM} {T : Nat} {Q : Option Value → xH → Prop} {g : Nat → Int32} {t i k : Nat} {w : Option Value} (hk : M 62 156 = nI k) (k60 : k ≤ 60) (hi : i < k) (hs : M 62 (157 + i) = 3) (t1 : 1 ≤ t) (t60 : t ≤ 60) (k1 : Rn ro (d + 2) M_X8_works 4 [some (.ref 64), some (.int 156), some (.int (nI t)), some (.int (nI (i + 1))), some (.int 3)] [] (mk (upA M 71 (upd g (t - 1) (if g (t - 1) = 0 then 1 else 0))) T) Q) : Rn ro (d + 2) M_X8_works 4 [some (.ref 64), some (.int 156), some (.int (nI t)), some (.int (nI i)), w] [] (mk (upA M 71 g) T) Q := by
  refine R_go 5 (pc' := 11) (L' := [some (.ref 64), some (.int 156), some (.int (nI t)), some (.int (nI i)), w]) (st' := [.int ((upA M 71 g) 62 156), .int (nI i)]) (h' := mk (upA M 71 g) T) (fun _ => rfl) ?_
  refine R_top (y := nI k) (hk) ?_
  refine R_if 1 (c := (nI k) ≤ (nI i)) (t := 155) (f := 14) (L' := [some (.ref 64), some (.int 156), some (.int (nI t)), some (.int (nI i)), w]) (st' := []) (h' := mk (upA M 71 g) T) (fun _ => rfl) (fun g1 => ?_) (fun g1 => ?_)
  · replace g1 : k ≤ i := (nI_leI (a := k) (b := i) (by omega) (by omega)).mp g1
    omega
  · replace g1 : ¬ k ≤ i := fun q => g1 ((nI_leI (a := k) (b := i) (by omega) (by omega)).mpr q)
    refine R_go 7 (pc' := 23) (L' := [some (.ref 64), some (.int 156), some (.int (nI t)), some (.int (nI i)), w]) (st' := [.int (157 + nI i), .ref 65]) (h' := mk (upA M 71 g) T) (fun _ => rfl) ?_
    refine R_top (nI_add 157 i) ?_
    refine R_iald (c := 62) (n := 398) (j := 157 + i) rfl rfl (by omega) (by decide) ?_
    refine R_top (y := 3) (hs) ?_
    refine R_go 15 (pc' := 99) (L' := [some (.ref 64), some (.int 156), some (.int (nI t)), some (.int (nI i)), some (.int 3)]) (st' := [.int (nI t - 1), .ref 74]) (h' := mk (upA M 71 g) T) (fun _ => rfl) ?_
    refine R_top (pk_sub (a := t) (b := 1) (by omega)) ?_
    refine R_go 5 (pc' := 106) (L' := [some (.ref 64), some (.int 156), some (.int (nI t)), some (.int (nI i)), some (.int 3)]) (st' := [.int (nI t - 1), .ref 74, .int (nI (t - 1)), .ref 74]) (h' := mk (upA M 71 g) T) (fun _ => rfl) ?_
    refine R_top (pk_sub (a := t) (b := 1) (by omega)) ?_
    refine R_iald (c := 71) (n := 60) (j := t - 1) rfl rfl (by omega) (by decide) ?_
    refine R_top (y := g (t - 1)) (congrFun upA_eq _) ?_
    refine R_ifn 1 (c := (g (t - 1)) = 0) (t := 114) (f := 110) (L' := [some (.ref 64), some (.int 156), some (.int (nI t)), some (.int (nI i)), some (.int 3)]) (st' := [.int (nI (t - 1)), .ref 74]) (h' := mk (upA M 71 g) T) (fun _ => rfl) (fun g2 => ?_) (fun g2 => ?_)
    · refine R_go 1 (pc' := 115) (L' := [some (.ref 64), some (.int 156), some (.int (nI t)), some (.int (nI i)), some (.int 3)]) (st' := [.int 0, .int (nI (t - 1)), .ref 74]) (h' := mk (upA M 71 g) T) (fun _ => rfl) ?_
      refine R_iast (c := 71) (n := 60) (j := t - 1) rfl rfl (by omega) (by decide) ?_
      refine R_go 2 (pc' := 152) (L' := [some (.ref 64), some (.int 156), some (.int (nI t)), some (.int ((nI i) + 1)), some (.int 3)]) (st' := []) (h' := mk (up (upA M 71 g) 71 (t - 1) 0) T) (fun _ => rfl) ?_
      rw [nI_1]
      refine R_go 1 (pc' := 4) (L' := [some (.ref 64), some (.int 156), some (.int (nI t)), some (.int (nI (i + 1))), some (.int 3)]) (st' := []) (h' := mk (up (upA M 71 g) 71 (t - 1) 0) T) (fun _ => rfl) ?_
      rw [if_neg g2] at k1
      rw [up_upA]
      exact k1
    · refine R_go 2 (pc' := 115) (L' := [some (.ref 64), some (.int 156), some (.int (nI t)), some (.int (nI i)), some (.int 3)]) (st' := [.int 1, .int (nI (t - 1)), .ref 74]) (h' := mk (upA M 71 g) T) (fun _ => rfl) ?_
      refine R_iast (c := 71) (n := 60) (j := t - 1) rfl rfl (by omega) (by decide) ?_
      refine R_go 2 (pc' := 152) (L' := [some (.ref 64), some (.int 156), some (.int (nI t)), some (.int ((nI i) + 1)), some (.int 3)]) (st' := []) (h' := mk (up (upA M 71 g) 71 (t - 1) 1) T) (fun _ => rfl) ?_
      rw [nI_1]
      refine R_go 1 (pc' := 4) (L' := [some (.ref 64), some (.int 156), some (.int (nI t)), some (.int (nI (i + 1))), some (.int 3)]) (st' := []) (h' := mk (up (upA M 71 g) 71 (t - 1) 1) T) (fun _ => rfl) ?_
      rw [if_pos g2] at k1
      rw [up_upA]
      exact k1
set_option maxRecDepth 100000 in
set_option maxHeartbeats 4000000 in
theorem v156_sig_124 {ro : xRO} {d : Nat} {M : xM} {T : Nat} {Q : Option Value → xH → Prop} {g : Nat → Int32} {t i k : Nat} {w : Option Value} (hk : M 62 156 = nI k) (k60 : k ≤ 60) (hi : i < k) (hs : M 62 (157 + i) = 124) (t2 : 2 ≤ t) (t60 : t ≤ 60) (k1 : Rn ro (d + 2) M_X8_works 4 [some (.ref 64), some (.int 156), some (.int (nI (t - 1))), some (.int (nI (i + 1))), some (.int 124)] [] (mk (upA M 71 (upd g (t - 2) (jn 124 (g (t - 2)) (g (t - 1))))) T) Q) : Rn ro (d + 2) M_X8_works 4 [some (.ref 64), some (.int 156), some (.int (nI t)), some (.int (nI i)), w] [] (mk (upA M 71 g) T) Q := by
  refine R_go 5 (pc' := 11) (L' := [some (.ref 64), some (.int 156), some (.int (nI t)), some (.int (nI i)), w]) (st' := [.int ((upA M 71 g) 62 156), .int (nI i)]) (h' := mk (upA M 71 g) T) (fun _ => rfl) ?_
  refine R_top (y := nI k) (hk) ?_
  refine R_if 1 (c := (nI k) ≤ (nI i)) (t := 155) (f := 14) (L' := [some (.ref 64), some (.int 156), some (.int (nI t)), some (.int (nI i)), w]) (st' := []) (h' := mk (upA M 71 g) T) (fun _ => rfl) (fun g1 => ?_) (fun g1 => ?_)
  · replace g1 : k ≤ i := (nI_leI (a := k) (b := i) (by omega) (by omega)).mp g1
    omega
  · replace g1 : ¬ k ≤ i := fun q => g1 ((nI_leI (a := k) (b := i) (by omega) (by omega)).mpr q)
    refine R_go 7 (pc' := 23) (L' := [some (.ref 64), some (.int 156), some (.int (nI t)), some (.int (nI i)), w]) (st' := [.int (157 + nI i), .ref 65]) (h' := mk (upA M 71 g) T) (fun _ => rfl) ?_
    refine R_top (nI_add 157 i) ?_
    refine R_iald (c := 62) (n := 398) (j := 157 + i) rfl rfl (by omega) (by decide) ?_
    refine R_top (y := 124) (hs) ?_
    refine R_go 10 (pc' := 119) (L' := [some (.ref 64), some (.int 156), some (.int (nI t)), some (.int (nI i)), some (.int 124)]) (st' := []) (h' := mk (upA M 71 g) T) (fun _ => rfl) ?_
    refine R_stp (i := .iinc 2 (-1)) (len := 3) (pc' := 122) (L' := [some (.ref 64), some (.int 156), some (.int ((nI t) + -1)), some (.int (nI i)), some (.int 124)]) (st' := []) (h' := mk (upA M 71 g) T) rfl rfl rfl rfl rfl ?_
    rw [nI_m1 (t := t) (by omega)]
    refine R_go 5 (pc' := 129) (L' := [some (.ref 64), some (.int 156), some (.int (nI (t - 1))), some (.int (nI i)), some (.int 124)]) (st' := [.int (nI (t - 1) - 1), .ref 74]) (h' := mk (upA M 71 g) T) (fun _ => rfl) ?_
    refine R_top (pk_sub (a := t - 1) (b := 1) (by omega)) ?_
    refine R_go 6 (pc' := 138) (L' := [some (.ref 64), some (.int 156), some (.int (nI (t - 1))), some (.int (nI i)), some (.int 124)]) (st' := [.int (nI (t - 1) - 1), .ref 74, .int 124, .int (nI ((t - 1) - 1)), .ref 74]) (h' := mk (upA M 71 g) T) (fun _ => rfl) ?_
    refine R_top (pk_sub (a := t - 1) (b := 1) (by omega)) ?_
    refine R_iald (c := 71) (n := 60) (j := (t - 1) - 1) rfl rfl (by omega) (by decide) ?_
    refine R_top (y := g ((t - 1) - 1)) (congrFun upA_eq _) ?_
    refine R_go 3 (pc' := 144) (L' := [some (.ref 64), some (.int 156), some (.int (nI (t - 1))), some (.int (nI i)), some (.int 124)]) (st' := [.int (nI (t - 1)), .ref 74, .int (g ((t - 1) - 1)), .int 124, .int (nI ((t - 1) - 1)), .ref 74]) (h' := mk (upA M 71 g) T) (fun _ => rfl) ?_
    refine R_iald (c := 71) (n := 60) (j := t - 1) rfl rfl (by omega) (by decide) ?_
    refine R_top (y := g (t - 1)) (congrFun upA_eq _) ?_
    refine R_callD (i := .invokestatic 153) (kd := 1) (y := M_X8_twoOf) (as := [.int 124, .int (g ((t - 1) - 1)), .int (g (t - 1))]) (r := [.int (nI ((t - 1) - 1)), .ref 74]) (L0 := [some (.int 124), some (.int (g ((t - 1) - 1))), some (.int (g (t - 1)))]) (v := some (.int (jn 124 (g ((t - 1) - 1)) (g (t - 1))))) (h' := mk (upA M 71 g) T) (pc' := 148) (st' := [.int (jn 124 (g ((t - 1) - 1)) (g (t - 1))), .int (nI ((t - 1) - 1)), .ref 74]) rfl rfl rfl rfl rfl rfl (m_twoOf_124) ?_
    refine R_iast (c := 71) (n := 60) (j := (t - 1) - 1) rfl rfl (by omega) (by decide) ?_
    refine R_go 1 (pc' := 152) (L' := [some (.ref 64), some (.int 156), some (.int (nI (t - 1))), some (.int ((nI i) + 1)), some (.int 124)]) (st' := []) (h' := mk (up (upA M 71 g) 71 ((t - 1) - 1) (jn 124 (g ((t - 1) - 1)) (g (t - 1)))) T) (fun _ => rfl) ?_
    rw [nI_1]
    refine R_go 1 (pc' := 4) (L' := [some (.ref 64), some (.int 156), some (.int (nI (t - 1))), some (.int (nI (i + 1))), some (.int 124)]) (st' := []) (h' := mk (up (upA M 71 g) 71 ((t - 1) - 1) (jn 124 (g ((t - 1) - 1)) (g (t - 1)))) T) (fun _ => rfl) ?_
    rw [up_upA, show t - 1 - 1 = t - 2 by omega]
    exact k1
set_option maxRecDepth 100000 in
set_option maxHeartbeats 4000000 in
theorem v156_sig_38 {ro : xRO} {d : Nat} {M : xM} {T : Nat} {Q : Option Value → xH → Prop} {g : Nat → Int32} {t i k : Nat} {w : Option Value} (hk : M 62 156 = nI k) (k60 : k ≤ 60) (hi : i < k) (hs : M 62 (157 + i) = 38) (t2 : 2 ≤ t) (t60 : t ≤ 60) (k1 : Rn ro (d + 2) M_X8_works 4 [some (.ref 64), some (.int 156), some (.int (nI (t - 1))), some (.int (nI (i + 1))), some (.int 38)] [] (mk (upA M 71 (upd g (t - 2) (jn 38 (g (t - 2)) (g (t - 1))))) T) Q) : Rn ro (d + 2) M_X8_works 4 [some (.ref 64), some (.int 156), some (.int (nI t)), some (.int (nI i)), w] [] (mk (upA M 71 g) T) Q := by
  refine R_go 5 (pc' := 11) (L' := [some (.ref 64), some (.int 156), some (.int (nI t)), some (.int (nI i)), w]) (st' := [.int ((upA M 71 g) 62 156), .int (nI i)]) (h' := mk (upA M 71 g) T) (fun _ => rfl) ?_
  refine R_top (y := nI k) (hk) ?_
  refine R_if 1 (c := (nI k) ≤ (nI i)) (t := 155) (f := 14) (L' := [some (.ref 64), some (.int 156), some (.int (nI t)), some (.int (nI i)), w]) (st' := []) (h' := mk (upA M 71 g) T) (fun _ => rfl) (fun g1 => ?_) (fun g1 => ?_)
  · replace g1 : k ≤ i := (nI_leI (a := k) (b := i) (by omega) (by omega)).mp g1
    omega
  · replace g1 : ¬ k ≤ i := fun q => g1 ((nI_leI (a := k) (b := i) (by omega) (by omega)).mpr q)
    refine R_go 7 (pc' := 23) (L' := [some (.ref 64), some (.int 156), some (.int (nI t)), some (.int (nI i)), w]) (st' := [.int (157 + nI i), .ref 65]) (h' := mk (upA M 71 g) T) (fun _ => rfl) ?_
    refine R_top (nI_add 157 i) ?_
    refine R_iald (c := 62) (n := 398) (j := 157 + i) rfl rfl (by omega) (by decide) ?_
    refine R_top (y := 38) (hs) ?_
    refine R_go 10 (pc' := 119) (L' := [some (.ref 64), some (.int 156), some (.int (nI t)), some (.int (nI i)), some (.int 38)]) (st' := []) (h' := mk (upA M 71 g) T) (fun _ => rfl) ?_
    refine R_stp (i := .iinc 2 (-1)) (len := 3) (pc' := 122) (L' := [some (.ref 64), some (.int 156), some (.int ((nI t) + -1)), some (.int (nI i)), some (.int 38)]) (st' := []) (h' := mk (upA M 71 g) T) rfl rfl rfl rfl rfl ?_
    rw [nI_m1 (t := t) (by omega)]
    refine R_go 5 (pc' := 129) (L' := [some (.ref 64), some (.int 156), some (.int (nI (t - 1))), some (.int (nI i)), some (.int 38)]) (st' := [.int (nI (t - 1) - 1), .ref 74]) (h' := mk (upA M 71 g) T) (fun _ => rfl) ?_
    refine R_top (pk_sub (a := t - 1) (b := 1) (by omega)) ?_
    refine R_go 6 (pc' := 138) (L' := [some (.ref 64), some (.int 156), some (.int (nI (t - 1))), some (.int (nI i)), some (.int 38)]) (st' := [.int (nI (t - 1) - 1), .ref 74, .int 38, .int (nI ((t - 1) - 1)), .ref 74]) (h' := mk (upA M 71 g) T) (fun _ => rfl) ?_
    refine R_top (pk_sub (a := t - 1) (b := 1) (by omega)) ?_
    refine R_iald (c := 71) (n := 60) (j := (t - 1) - 1) rfl rfl (by omega) (by decide) ?_
    refine R_top (y := g ((t - 1) - 1)) (congrFun upA_eq _) ?_
    refine R_go 3 (pc' := 144) (L' := [some (.ref 64), some (.int 156), some (.int (nI (t - 1))), some (.int (nI i)), some (.int 38)]) (st' := [.int (nI (t - 1)), .ref 74, .int (g ((t - 1) - 1)), .int 38, .int (nI ((t - 1) - 1)), .ref 74]) (h' := mk (upA M 71 g) T) (fun _ => rfl) ?_
    refine R_iald (c := 71) (n := 60) (j := t - 1) rfl rfl (by omega) (by decide) ?_
    refine R_top (y := g (t - 1)) (congrFun upA_eq _) ?_
    refine R_callD (i := .invokestatic 153) (kd := 1) (y := M_X8_twoOf) (as := [.int 38, .int (g ((t - 1) - 1)), .int (g (t - 1))]) (r := [.int (nI ((t - 1) - 1)), .ref 74]) (L0 := [some (.int 38), some (.int (g ((t - 1) - 1))), some (.int (g (t - 1)))]) (v := some (.int (jn 38 (g ((t - 1) - 1)) (g (t - 1))))) (h' := mk (upA M 71 g) T) (pc' := 148) (st' := [.int (jn 38 (g ((t - 1) - 1)) (g (t - 1))), .int (nI ((t - 1) - 1)), .ref 74]) rfl rfl rfl rfl rfl rfl (m_twoOf_38) ?_
    refine R_iast (c := 71) (n := 60) (j := (t - 1) - 1) rfl rfl (by omega) (by decide) ?_
    refine R_go 1 (pc' := 152) (L' := [some (.ref 64), some (.int 156), some (.int (nI (t - 1))), some (.int ((nI i) + 1)), some (.int 38)]) (st' := []) (h' := mk (up (upA M 71 g) 71 ((t - 1) - 1) (jn 38 (g ((t - 1) - 1)) (g (t - 1)))) T) (fun _ => rfl) ?_
    rw [nI_1]
    refine R_go 1 (pc' := 4) (L' := [some (.ref 64), some (.int 156), some (.int (nI (t - 1))), some (.int (nI (i + 1))), some (.int 38)]) (st' := []) (h' := mk (up (upA M 71 g) 71 ((t - 1) - 1) (jn 38 (g ((t - 1) - 1)) (g (t - 1)))) T) (fun _ => rfl) ?_
    rw [up_upA, show t - 1 - 1 = t - 2 by omega]
    exact k1
set_option maxRecDepth 100000 in
set_option maxHeartbeats 4000000 in
theorem v156_sig_60 {ro : xRO} {d : Nat} {M : xM} {T : Nat} {Q : Option Value → xH → Prop} {g : Nat → Int32} {t i k : Nat} {w : Option Value} (hk : M 62 156 = nI k) (k60 : k ≤ 60) (hi : i < k) (hs : M 62 (157 + i) = 60) (t2 : 2 ≤ t) (t60 : t ≤ 60) (k1 : Rn ro (d + 2) M_X8_works 4 [some (.ref 64), some (.int 156), some (.int (nI (t - 1))), some (.int (nI (i + 1))), some (.int 60)] [] (mk (upA M 71 (upd g (t - 2) (jn 60 (g (t - 2)) (g (t - 1))))) T) Q) : Rn ro (d + 2) M_X8_works 4 [some (.ref 64), some (.int 156), some (.int (nI t)), some (.int (nI i)), w] [] (mk (upA M 71 g) T) Q := by
  refine R_go 5 (pc' := 11) (L' := [some (.ref 64), some (.int 156), some (.int (nI t)), some (.int (nI i)), w]) (st' := [.int ((upA M 71 g) 62 156), .int (nI i)]) (h' := mk (upA M 71 g) T) (fun _ => rfl) ?_
  refine R_top (y := nI k) (hk) ?_
  refine R_if 1 (c := (nI k) ≤ (nI i)) (t := 155) (f := 14) (L' := [some (.ref 64), some (.int 156), some (.int (nI t)), some (.int (nI i)), w]) (st' := []) (h' := mk (upA M 71 g) T) (fun _ => rfl) (fun g1 => ?_) (fun g1 => ?_)
  · replace g1 : k ≤ i := (nI_leI (a := k) (b := i) (by omega) (by omega)).mp g1
    omega
  · replace g1 : ¬ k ≤ i := fun q => g1 ((nI_leI (a := k) (b := i) (by omega) (by omega)).mpr q)
    refine R_go 7 (pc' := 23) (L' := [some (.ref 64), some (.int 156), some (.int (nI t)), some (.int (nI i)), w]) (st' := [.int (157 + nI i), .ref 65]) (h' := mk (upA M 71 g) T) (fun _ => rfl) ?_
    refine R_top (nI_add 157 i) ?_
    refine R_iald (c := 62) (n := 398) (j := 157 + i) rfl rfl (by omega) (by decide) ?_
    refine R_top (y := 60) (hs) ?_
    refine R_go 10 (pc' := 119) (L' := [some (.ref 64), some (.int 156), some (.int (nI t)), some (.int (nI i)), some (.int 60)]) (st' := []) (h' := mk (upA M 71 g) T) (fun _ => rfl) ?_
    refine R_stp (i := .iinc 2 (-1)) (len := 3) (pc' := 122) (L' := [some (.ref 64), some (.int 156), some (.int ((nI t) + -1)), some (.int (nI i)), some (.int 60)]) (st' := []) (h' := mk (upA M 71 g) T) rfl rfl rfl rfl rfl ?_
    rw [nI_m1 (t := t) (by omega)]
    refine R_go 5 (pc' := 129) (L' := [some (.ref 64), some (.int 156), some (.int (nI (t - 1))), some (.int (nI i)), some (.int 60)]) (st' := [.int (nI (t - 1) - 1), .ref 74]) (h' := mk (upA M 71 g) T) (fun _ => rfl) ?_
    refine R_top (pk_sub (a := t - 1) (b := 1) (by omega)) ?_
    refine R_go 6 (pc' := 138) (L' := [some (.ref 64), some (.int 156), some (.int (nI (t - 1))), some (.int (nI i)), some (.int 60)]) (st' := [.int (nI (t - 1) - 1), .ref 74, .int 60, .int (nI ((t - 1) - 1)), .ref 74]) (h' := mk (upA M 71 g) T) (fun _ => rfl) ?_
    refine R_top (pk_sub (a := t - 1) (b := 1) (by omega)) ?_
    refine R_iald (c := 71) (n := 60) (j := (t - 1) - 1) rfl rfl (by omega) (by decide) ?_
    refine R_top (y := g ((t - 1) - 1)) (congrFun upA_eq _) ?_
    refine R_go 3 (pc' := 144) (L' := [some (.ref 64), some (.int 156), some (.int (nI (t - 1))), some (.int (nI i)), some (.int 60)]) (st' := [.int (nI (t - 1)), .ref 74, .int (g ((t - 1) - 1)), .int 60, .int (nI ((t - 1) - 1)), .ref 74]) (h' := mk (upA M 71 g) T) (fun _ => rfl) ?_
    refine R_iald (c := 71) (n := 60) (j := t - 1) rfl rfl (by omega) (by decide) ?_
    refine R_top (y := g (t - 1)) (congrFun upA_eq _) ?_
    refine R_callD (i := .invokestatic 153) (kd := 1) (y := M_X8_twoOf) (as := [.int 60, .int (g ((t - 1) - 1)), .int (g (t - 1))]) (r := [.int (nI ((t - 1) - 1)), .ref 74]) (L0 := [some (.int 60), some (.int (g ((t - 1) - 1))), some (.int (g (t - 1)))]) (v := some (.int (jn 60 (g ((t - 1) - 1)) (g (t - 1))))) (h' := mk (upA M 71 g) T) (pc' := 148) (st' := [.int (jn 60 (g ((t - 1) - 1)) (g (t - 1))), .int (nI ((t - 1) - 1)), .ref 74]) rfl rfl rfl rfl rfl rfl (m_twoOf_60) ?_
    refine R_iast (c := 71) (n := 60) (j := (t - 1) - 1) rfl rfl (by omega) (by decide) ?_
    refine R_go 1 (pc' := 152) (L' := [some (.ref 64), some (.int 156), some (.int (nI (t - 1))), some (.int ((nI i) + 1)), some (.int 60)]) (st' := []) (h' := mk (up (upA M 71 g) 71 ((t - 1) - 1) (jn 60 (g ((t - 1) - 1)) (g (t - 1)))) T) (fun _ => rfl) ?_
    rw [nI_1]
    refine R_go 1 (pc' := 4) (L' := [some (.ref 64), some (.int 156), some (.int (nI (t - 1))), some (.int (nI (i + 1))), some (.int 60)]) (st' := []) (h' := mk (up (upA M 71 g) 71 ((t - 1) - 1) (jn 60 (g ((t - 1) - 1)) (g (t - 1)))) T) (fun _ => rfl) ?_
    rw [up_upA, show t - 1 - 1 = t - 2 by omega]
    exact k1
set_option maxRecDepth 100000 in
set_option maxHeartbeats 4000000 in
theorem v156_sig_61 {ro : xRO} {d : Nat} {M : xM} {T : Nat} {Q : Option Value → xH → Prop} {g : Nat → Int32} {t i k : Nat} {w : Option Value} (hk : M 62 156 = nI k) (k60 : k ≤ 60) (hi : i < k) (hs : M 62 (157 + i) = 61) (t2 : 2 ≤ t) (t60 : t ≤ 60) (k1 : Rn ro (d + 2) M_X8_works 4 [some (.ref 64), some (.int 156), some (.int (nI (t - 1))), some (.int (nI (i + 1))), some (.int 61)] [] (mk (upA M 71 (upd g (t - 2) (jn 61 (g (t - 2)) (g (t - 1))))) T) Q) : Rn ro (d + 2) M_X8_works 4 [some (.ref 64), some (.int 156), some (.int (nI t)), some (.int (nI i)), w] [] (mk (upA M 71 g) T) Q := by
  refine R_go 5 (pc' := 11) (L' := [some (.ref 64), some (.int 156), some (.int (nI t)), some (.int (nI i)), w]) (st' := [.int ((upA M 71 g) 62 156), .int (nI i)]) (h' := mk (upA M 71 g) T) (fun _ => rfl) ?_
  refine R_top (y := nI k) (hk) ?_
  refine R_if 1 (c := (nI k) ≤ (nI i)) (t := 155) (f := 14) (L' := [some (.ref 64), some (.int 156), some (.int (nI t)), some (.int (nI i)), w]) (st' := []) (h' := mk (upA M 71 g) T) (fun _ => rfl) (fun g1 => ?_) (fun g1 => ?_)
  · replace g1 : k ≤ i := (nI_leI (a := k) (b := i) (by omega) (by omega)).mp g1
    omega
  · replace g1 : ¬ k ≤ i := fun q => g1 ((nI_leI (a := k) (b := i) (by omega) (by omega)).mpr q)
    refine R_go 7 (pc' := 23) (L' := [some (.ref 64), some (.int 156), some (.int (nI t)), some (.int (nI i)), w]) (st' := [.int (157 + nI i), .ref 65]) (h' := mk (upA M 71 g) T) (fun _ => rfl) ?_
    refine R_top (nI_add 157 i) ?_
    refine R_iald (c := 62) (n := 398) (j := 157 + i) rfl rfl (by omega) (by decide) ?_
    refine R_top (y := 61) (hs) ?_
    refine R_go 10 (pc' := 119) (L' := [some (.ref 64), some (.int 156), some (.int (nI t)), some (.int (nI i)), some (.int 61)]) (st' := []) (h' := mk (upA M 71 g) T) (fun _ => rfl) ?_
    refine R_stp (i := .iinc 2 (-1)) (len := 3) (pc' := 122) (L' := [some (.ref 64), some (.int 156), some (.int ((nI t) + -1)), some (.int (nI i)), some (.int 61)]) (st' := []) (h' := mk (upA M 71 g) T) rfl rfl rfl rfl rfl ?_
    rw [nI_m1 (t := t) (by omega)]
    refine R_go 5 (pc' := 129) (L' := [some (.ref 64), some (.int 156), some (.int (nI (t - 1))), some (.int (nI i)), some (.int 61)]) (st' := [.int (nI (t - 1) - 1), .ref 74]) (h' := mk (upA M 71 g) T) (fun _ => rfl) ?_
    refine R_top (pk_sub (a := t - 1) (b := 1) (by omega)) ?_
    refine R_go 6 (pc' := 138) (L' := [some (.ref 64), some (.int 156), some (.int (nI (t - 1))), some (.int (nI i)), some (.int 61)]) (st' := [.int (nI (t - 1) - 1), .ref 74, .int 61, .int (nI ((t - 1) - 1)), .ref 74]) (h' := mk (upA M 71 g) T) (fun _ => rfl) ?_
    refine R_top (pk_sub (a := t - 1) (b := 1) (by omega)) ?_
    refine R_iald (c := 71) (n := 60) (j := (t - 1) - 1) rfl rfl (by omega) (by decide) ?_
    refine R_top (y := g ((t - 1) - 1)) (congrFun upA_eq _) ?_
    refine R_go 3 (pc' := 144) (L' := [some (.ref 64), some (.int 156), some (.int (nI (t - 1))), some (.int (nI i)), some (.int 61)]) (st' := [.int (nI (t - 1)), .ref 74, .int (g ((t - 1) - 1)), .int 61, .int (nI ((t - 1) - 1)), .ref 74]) (h' := mk (upA M 71 g) T) (fun _ => rfl) ?_
    refine R_iald (c := 71) (n := 60) (j := t - 1) rfl rfl (by omega) (by decide) ?_
    refine R_top (y := g (t - 1)) (congrFun upA_eq _) ?_
    refine R_callD (i := .invokestatic 153) (kd := 1) (y := M_X8_twoOf) (as := [.int 61, .int (g ((t - 1) - 1)), .int (g (t - 1))]) (r := [.int (nI ((t - 1) - 1)), .ref 74]) (L0 := [some (.int 61), some (.int (g ((t - 1) - 1))), some (.int (g (t - 1)))]) (v := some (.int (jn 61 (g ((t - 1) - 1)) (g (t - 1))))) (h' := mk (upA M 71 g) T) (pc' := 148) (st' := [.int (jn 61 (g ((t - 1) - 1)) (g (t - 1))), .int (nI ((t - 1) - 1)), .ref 74]) rfl rfl rfl rfl rfl rfl (m_twoOf_61) ?_
    refine R_iast (c := 71) (n := 60) (j := (t - 1) - 1) rfl rfl (by omega) (by decide) ?_
    refine R_go 1 (pc' := 152) (L' := [some (.ref 64), some (.int 156), some (.int (nI (t - 1))), some (.int ((nI i) + 1)), some (.int 61)]) (st' := []) (h' := mk (up (upA M 71 g) 71 ((t - 1) - 1) (jn 61 (g ((t - 1) - 1)) (g (t - 1)))) T) (fun _ => rfl) ?_
    rw [nI_1]
    refine R_go 1 (pc' := 4) (L' := [some (.ref 64), some (.int 156), some (.int (nI (t - 1))), some (.int (nI (i + 1))), some (.int 61)]) (st' := []) (h' := mk (up (upA M 71 g) 71 ((t - 1) - 1) (jn 61 (g ((t - 1) - 1)) (g (t - 1)))) T) (fun _ => rfl) ?_
    rw [up_upA, show t - 1 - 1 = t - 2 by omega]
    exact k1
set_option maxRecDepth 100000 in
set_option maxHeartbeats 4000000 in
theorem v156_sig_62 {ro : xRO} {d : Nat} {M : xM} {T : Nat} {Q : Option Value → xH → Prop} {g : Nat → Int32} {t i k : Nat} {w : Option Value} (hk : M 62 156 = nI k) (k60 : k ≤ 60) (hi : i < k) (hs : M 62 (157 + i) = 62) (t2 : 2 ≤ t) (t60 : t ≤ 60) (k1 : Rn ro (d + 2) M_X8_works 4 [some (.ref 64), some (.int 156), some (.int (nI (t - 1))), some (.int (nI (i + 1))), some (.int 62)] [] (mk (upA M 71 (upd g (t - 2) (jn 62 (g (t - 2)) (g (t - 1))))) T) Q) : Rn ro (d + 2) M_X8_works 4 [some (.ref 64), some (.int 156), some (.int (nI t)), some (.int (nI i)), w] [] (mk (upA M 71 g) T) Q := by
  refine R_go 5 (pc' := 11) (L' := [some (.ref 64), some (.int 156), some (.int (nI t)), some (.int (nI i)), w]) (st' := [.int ((upA M 71 g) 62 156), .int (nI i)]) (h' := mk (upA M 71 g) T) (fun _ => rfl) ?_
  refine R_top (y := nI k) (hk) ?_
  refine R_if 1 (c := (nI k) ≤ (nI i)) (t := 155) (f := 14) (L' := [some (.ref 64), some (.int 156), some (.int (nI t)), some (.int (nI i)), w]) (st' := []) (h' := mk (upA M 71 g) T) (fun _ => rfl) (fun g1 => ?_) (fun g1 => ?_)
  · replace g1 : k ≤ i := (nI_leI (a := k) (b := i) (by omega) (by omega)).mp g1
    omega
  · replace g1 : ¬ k ≤ i := fun q => g1 ((nI_leI (a := k) (b := i) (by omega) (by omega)).mpr q)
    refine R_go 7 (pc' := 23) (L' := [some (.ref 64), some (.int 156), some (.int (nI t)), some (.int (nI i)), w]) (st' := [.int (157 + nI i), .ref 65]) (h' := mk (upA M 71 g) T) (fun _ => rfl) ?_
    refine R_top (nI_add 157 i) ?_
    refine R_iald (c := 62) (n := 398) (j := 157 + i) rfl rfl (by omega) (by decide) ?_
    refine R_top (y := 62) (hs) ?_
    refine R_go 10 (pc' := 119) (L' := [some (.ref 64), some (.int 156), some (.int (nI t)), some (.int (nI i)), some (.int 62)]) (st' := []) (h' := mk (upA M 71 g) T) (fun _ => rfl) ?_
    refine R_stp (i := .iinc 2 (-1)) (len := 3) (pc' := 122) (L' := [some (.ref 64), some (.int 156), some (.int ((nI t) + -1)), some (.int (nI i)), some (.int 62)]) (st' := []) (h' := mk (upA M 71 g) T) rfl rfl rfl rfl rfl ?_
    rw [nI_m1 (t := t) (by omega)]
    refine R_go 5 (pc' := 129) (L' := [some (.ref 64), some (.int 156), some (.int (nI (t - 1))), some (.int (nI i)), some (.int 62)]) (st' := [.int (nI (t - 1) - 1), .ref 74]) (h' := mk (upA M 71 g) T) (fun _ => rfl) ?_
    refine R_top (pk_sub (a := t - 1) (b := 1) (by omega)) ?_
    refine R_go 6 (pc' := 138) (L' := [some (.ref 64), some (.int 156), some (.int (nI (t - 1))), some (.int (nI i)), some (.int 62)]) (st' := [.int (nI (t - 1) - 1), .ref 74, .int 62, .int (nI ((t - 1) - 1)), .ref 74]) (h' := mk (upA M 71 g) T) (fun _ => rfl) ?_
    refine R_top (pk_sub (a := t - 1) (b := 1) (by omega)) ?_
    refine R_iald (c := 71) (n := 60) (j := (t - 1) - 1) rfl rfl (by omega) (by decide) ?_
    refine R_top (y := g ((t - 1) - 1)) (congrFun upA_eq _) ?_
    refine R_go 3 (pc' := 144) (L' := [some (.ref 64), some (.int 156), some (.int (nI (t - 1))), some (.int (nI i)), some (.int 62)]) (st' := [.int (nI (t - 1)), .ref 74, .int (g ((t - 1) - 1)), .int 62, .int (nI ((t - 1) - 1)), .ref 74]) (h' := mk (upA M 71 g) T) (fun _ => rfl) ?_
    refine R_iald (c := 71) (n := 60) (j := t - 1) rfl rfl (by omega) (by decide) ?_
    refine R_top (y := g (t - 1)) (congrFun upA_eq _) ?_
    refine R_callD (i := .invokestatic 153) (kd := 1) (y := M_X8_twoOf) (as := [.int 62, .int (g ((t - 1) - 1)), .int (g (t - 1))]) (r := [.int (nI ((t - 1) - 1)), .ref 74]) (L0 := [some (.int 62), some (.int (g ((t - 1) - 1))), some (.int (g (t - 1)))]) (v := some (.int (jn 62 (g ((t - 1) - 1)) (g (t - 1))))) (h' := mk (upA M 71 g) T) (pc' := 148) (st' := [.int (jn 62 (g ((t - 1) - 1)) (g (t - 1))), .int (nI ((t - 1) - 1)), .ref 74]) rfl rfl rfl rfl rfl rfl (m_twoOf_62) ?_
    refine R_iast (c := 71) (n := 60) (j := (t - 1) - 1) rfl rfl (by omega) (by decide) ?_
    refine R_go 1 (pc' := 152) (L' := [some (.ref 64), some (.int 156), some (.int (nI (t - 1))), some (.int ((nI i) + 1)), some (.int 62)]) (st' := []) (h' := mk (up (upA M 71 g) 71 ((t - 1) - 1) (jn 62 (g ((t - 1) - 1)) (g (t - 1)))) T) (fun _ => rfl) ?_
    rw [nI_1]
    refine R_go 1 (pc' := 4) (L' := [some (.ref 64), some (.int 156), some (.int (nI (t - 1))), some (.int (nI (i + 1))), some (.int 62)]) (st' := []) (h' := mk (up (upA M 71 g) 71 ((t - 1) - 1) (jn 62 (g ((t - 1) - 1)) (g (t - 1)))) T) (fun _ => rfl) ?_
    rw [up_upA, show t - 1 - 1 = t - 2 by omega]
    exact k1
set_option maxRecDepth 100000 in
set_option maxHeartbeats 4000000 in
theorem v156_sig_43 {ro : xRO} {d : Nat} {M : xM} {T : Nat} {Q : Option Value → xH → Prop} {g : Nat → Int32} {t i k : Nat} {w : Option Value} (hk : M 62 156 = nI k) (k60 : k ≤ 60) (hi : i < k) (hs : M 62 (157 + i) = 43) (t2 : 2 ≤ t) (t60 : t ≤ 60) (k1 : Rn ro (d + 2) M_X8_works 4 [some (.ref 64), some (.int 156), some (.int (nI (t - 1))), some (.int (nI (i + 1))), some (.int 43)] [] (mk (upA M 71 (upd g (t - 2) (jn 43 (g (t - 2)) (g (t - 1))))) T) Q) : Rn ro (d + 2) M_X8_works 4 [some (.ref 64), some (.int 156), some (.int (nI t)), some (.int (nI i)), w] [] (mk (upA M 71 g) T) Q := by
  refine R_go 5 (pc' := 11) (L' := [some (.ref 64), some (.int 156), some (.int (nI t)), some (.int (nI i)), w]) (st' := [.int ((upA M 71 g) 62 156), .int (nI i)]) (h' := mk (upA M 71 g) T) (fun _ => rfl) ?_
  refine R_top (y := nI k) (hk) ?_
  refine R_if 1 (c := (nI k) ≤ (nI i)) (t := 155) (f := 14) (L' := [some (.ref 64), some (.int 156), some (.int (nI t)), some (.int (nI i)), w]) (st' := []) (h' := mk (upA M 71 g) T) (fun _ => rfl) (fun g1 => ?_) (fun g1 => ?_)
  · replace g1 : k ≤ i := (nI_leI (a := k) (b := i) (by omega) (by omega)).mp g1
    omega
  · replace g1 : ¬ k ≤ i := fun q => g1 ((nI_leI (a := k) (b := i) (by omega) (by omega)).mpr q)
    refine R_go 7 (pc' := 23) (L' := [some (.ref 64), some (.int 156), some (.int (nI t)), some (.int (nI i)), w]) (st' := [.int (157 + nI i), .ref 65]) (h' := mk (upA M 71 g) T) (fun _ => rfl) ?_
    refine R_top (nI_add 157 i) ?_
    refine R_iald (c := 62) (n := 398) (j := 157 + i) rfl rfl (by omega) (by decide) ?_
    refine R_top (y := 43) (hs) ?_
    refine R_go 10 (pc' := 119) (L' := [some (.ref 64), some (.int 156), some (.int (nI t)), some (.int (nI i)), some (.int 43)]) (st' := []) (h' := mk (upA M 71 g) T) (fun _ => rfl) ?_
    refine R_stp (i := .iinc 2 (-1)) (len := 3) (pc' := 122) (L' := [some (.ref 64), some (.int 156), some (.int ((nI t) + -1)), some (.int (nI i)), some (.int 43)]) (st' := []) (h' := mk (upA M 71 g) T) rfl rfl rfl rfl rfl ?_
    rw [nI_m1 (t := t) (by omega)]
    refine R_go 5 (pc' := 129) (L' := [some (.ref 64), some (.int 156), some (.int (nI (t - 1))), some (.int (nI i)), some (.int 43)]) (st' := [.int (nI (t - 1) - 1), .ref 74]) (h' := mk (upA M 71 g) T) (fun _ => rfl) ?_
    refine R_top (pk_sub (a := t - 1) (b := 1) (by omega)) ?_
    refine R_go 6 (pc' := 138) (L' := [some (.ref 64), some (.int 156), some (.int (nI (t - 1))), some (.int (nI i)), some (.int 43)]) (st' := [.int (nI (t - 1) - 1), .ref 74, .int 43, .int (nI ((t - 1) - 1)), .ref 74]) (h' := mk (upA M 71 g) T) (fun _ => rfl) ?_
    refine R_top (pk_sub (a := t - 1) (b := 1) (by omega)) ?_
    refine R_iald (c := 71) (n := 60) (j := (t - 1) - 1) rfl rfl (by omega) (by decide) ?_
    refine R_top (y := g ((t - 1) - 1)) (congrFun upA_eq _) ?_
    refine R_go 3 (pc' := 144) (L' := [some (.ref 64), some (.int 156), some (.int (nI (t - 1))), some (.int (nI i)), some (.int 43)]) (st' := [.int (nI (t - 1)), .ref 74, .int (g ((t - 1) - 1)), .int 43, .int (nI ((t - 1) - 1)), .ref 74]) (h' := mk (upA M 71 g) T) (fun _ => rfl) ?_
    refine R_iald (c := 71) (n := 60) (j := t - 1) rfl rfl (by omega) (by decide) ?_
    refine R_top (y := g (t - 1)) (congrFun upA_eq _) ?_
    refine R_callD (i := .invokestatic 153) (kd := 1) (y := M_X8_twoOf) (as := [.int 43, .int (g ((t - 1) - 1)), .int (g (t - 1))]) (r := [.int (nI ((t - 1) - 1)), .ref 74]) (L0 := [some (.int 43), some (.int (g ((t - 1) - 1))), some (.int (g (t - 1)))]) (v := some (.int (jn 43 (g ((t - 1) - 1)) (g (t - 1))))) (h' := mk (upA M 71 g) T) (pc' := 148) (st' := [.int (jn 43 (g ((t - 1) - 1)) (g (t - 1))), .int (nI ((t - 1) - 1)), .ref 74]) rfl rfl rfl rfl rfl rfl (m_twoOf_43) ?_
    refine R_iast (c := 71) (n := 60) (j := (t - 1) - 1) rfl rfl (by omega) (by decide) ?_
    refine R_go 1 (pc' := 152) (L' := [some (.ref 64), some (.int 156), some (.int (nI (t - 1))), some (.int ((nI i) + 1)), some (.int 43)]) (st' := []) (h' := mk (up (upA M 71 g) 71 ((t - 1) - 1) (jn 43 (g ((t - 1) - 1)) (g (t - 1)))) T) (fun _ => rfl) ?_
    rw [nI_1]
    refine R_go 1 (pc' := 4) (L' := [some (.ref 64), some (.int 156), some (.int (nI (t - 1))), some (.int (nI (i + 1))), some (.int 43)]) (st' := []) (h' := mk (up (upA M 71 g) 71 ((t - 1) - 1) (jn 43 (g ((t - 1) - 1)) (g (t - 1)))) T) (fun _ => rfl) ?_
    rw [up_upA, show t - 1 - 1 = t - 2 by omega]
    exact k1
set_option maxRecDepth 100000 in
set_option maxHeartbeats 4000000 in
theorem v156_sig_45 {ro : xRO} {d : Nat} {M : xM} {T : Nat} {Q : Option Value → xH → Prop} {g : Nat → Int32} {t i k : Nat} {w : Option Value} (hk : M 62 156 = nI k) (k60 : k ≤ 60) (hi : i < k) (hs : M 62 (157 + i) = 45) (t2 : 2 ≤ t) (t60 : t ≤ 60) (k1 : Rn ro (d + 2) M_X8_works 4 [some (.ref 64), some (.int 156), some (.int (nI (t - 1))), some (.int (nI (i + 1))), some (.int 45)] [] (mk (upA M 71 (upd g (t - 2) (jn 45 (g (t - 2)) (g (t - 1))))) T) Q) : Rn ro (d + 2) M_X8_works 4 [some (.ref 64), some (.int 156), some (.int (nI t)), some (.int (nI i)), w] [] (mk (upA M 71 g) T) Q := by
  refine R_go 5 (pc' := 11) (L' := [some (.ref 64), some (.int 156), some (.int (nI t)), some (.int (nI i)), w]) (st' := [.int ((upA M 71 g) 62 156), .int (nI i)]) (h' := mk (upA M 71 g) T) (fun _ => rfl) ?_
  refine R_top (y := nI k) (hk) ?_
  refine R_if 1 (c := (nI k) ≤ (nI i)) (t := 155) (f := 14) (L' := [some (.ref 64), some (.int 156), some (.int (nI t)), some (.int (nI i)), w]) (st' := []) (h' := mk (upA M 71 g) T) (fun _ => rfl) (fun g1 => ?_) (fun g1 => ?_)
  · replace g1 : k ≤ i := (nI_leI (a := k) (b := i) (by omega) (by omega)).mp g1
    omega
  · replace g1 : ¬ k ≤ i := fun q => g1 ((nI_leI (a := k) (b := i) (by omega) (by omega)).mpr q)
    refine R_go 7 (pc' := 23) (L' := [some (.ref 64), some (.int 156), some (.int (nI t)), some (.int (nI i)), w]) (st' := [.int (157 + nI i), .ref 65]) (h' := mk (upA M 71 g) T) (fun _ => rfl) ?_
    refine R_top (nI_add 157 i) ?_
    refine R_iald (c := 62) (n := 398) (j := 157 + i) rfl rfl (by omega) (by decide) ?_
    refine R_top (y := 45) (hs) ?_
    refine R_go 10 (pc' := 119) (L' := [some (.ref 64), some (.int 156), some (.int (nI t)), some (.int (nI i)), some (.int 45)]) (st' := []) (h' := mk (upA M 71 g) T) (fun _ => rfl) ?_
    refine R_stp (i := .iinc 2 (-1)) (len := 3) (pc' := 122) (L' := [some (.ref 64), some (.int 156), some (.int ((nI t) + -1)), some (.int (nI i)), some (.int 45)]) (st' := []) (h' := mk (upA M 71 g) T) rfl rfl rfl rfl rfl ?_
    rw [nI_m1 (t := t) (by omega)]
    refine R_go 5 (pc' := 129) (L' := [some (.ref 64), some (.int 156), some (.int (nI (t - 1))), some (.int (nI i)), some (.int 45)]) (st' := [.int (nI (t - 1) - 1), .ref 74]) (h' := mk (upA M 71 g) T) (fun _ => rfl) ?_
    refine R_top (pk_sub (a := t - 1) (b := 1) (by omega)) ?_
    refine R_go 6 (pc' := 138) (L' := [some (.ref 64), some (.int 156), some (.int (nI (t - 1))), some (.int (nI i)), some (.int 45)]) (st' := [.int (nI (t - 1) - 1), .ref 74, .int 45, .int (nI ((t - 1) - 1)), .ref 74]) (h' := mk (upA M 71 g) T) (fun _ => rfl) ?_
    refine R_top (pk_sub (a := t - 1) (b := 1) (by omega)) ?_
    refine R_iald (c := 71) (n := 60) (j := (t - 1) - 1) rfl rfl (by omega) (by decide) ?_
    refine R_top (y := g ((t - 1) - 1)) (congrFun upA_eq _) ?_
    refine R_go 3 (pc' := 144) (L' := [some (.ref 64), some (.int 156), some (.int (nI (t - 1))), some (.int (nI i)), some (.int 45)]) (st' := [.int (nI (t - 1)), .ref 74, .int (g ((t - 1) - 1)), .int 45, .int (nI ((t - 1) - 1)), .ref 74]) (h' := mk (upA M 71 g) T) (fun _ => rfl) ?_
    refine R_iald (c := 71) (n := 60) (j := t - 1) rfl rfl (by omega) (by decide) ?_
    refine R_top (y := g (t - 1)) (congrFun upA_eq _) ?_
    refine R_callD (i := .invokestatic 153) (kd := 1) (y := M_X8_twoOf) (as := [.int 45, .int (g ((t - 1) - 1)), .int (g (t - 1))]) (r := [.int (nI ((t - 1) - 1)), .ref 74]) (L0 := [some (.int 45), some (.int (g ((t - 1) - 1))), some (.int (g (t - 1)))]) (v := some (.int (jn 45 (g ((t - 1) - 1)) (g (t - 1))))) (h' := mk (upA M 71 g) T) (pc' := 148) (st' := [.int (jn 45 (g ((t - 1) - 1)) (g (t - 1))), .int (nI ((t - 1) - 1)), .ref 74]) rfl rfl rfl rfl rfl rfl (m_twoOf_45) ?_
    refine R_iast (c := 71) (n := 60) (j := (t - 1) - 1) rfl rfl (by omega) (by decide) ?_
    refine R_go 1 (pc' := 152) (L' := [some (.ref 64), some (.int 156), some (.int (nI (t - 1))), some (.int ((nI i) + 1)), some (.int 45)]) (st' := []) (h' := mk (up (upA M 71 g) 71 ((t - 1) - 1) (jn 45 (g ((t - 1) - 1)) (g (t - 1)))) T) (fun _ => rfl) ?_
    rw [nI_1]
    refine R_go 1 (pc' := 4) (L' := [some (.ref 64), some (.int 156), some (.int (nI (t - 1))), some (.int (nI (i + 1))), some (.int 45)]) (st' := []) (h' := mk (up (upA M 71 g) 71 ((t - 1) - 1) (jn 45 (g ((t - 1) - 1)) (g (t - 1)))) T) (fun _ => rfl) ?_
    rw [up_upA, show t - 1 - 1 = t - 2 by omega]
    exact k1
set_option maxRecDepth 100000 in
set_option maxHeartbeats 4000000 in
theorem v156_sig_42 {ro : xRO} {d : Nat} {M : xM} {T : Nat} {Q : Option Value → xH → Prop} {g : Nat → Int32} {t i k : Nat} {w : Option Value} (hk : M 62 156 = nI k) (k60 : k ≤ 60) (hi : i < k) (hs : M 62 (157 + i) = 42) (t2 : 2 ≤ t) (t60 : t ≤ 60) (k1 : Rn ro (d + 2) M_X8_works 4 [some (.ref 64), some (.int 156), some (.int (nI (t - 1))), some (.int (nI (i + 1))), some (.int 42)] [] (mk (upA M 71 (upd g (t - 2) (jn 42 (g (t - 2)) (g (t - 1))))) T) Q) : Rn ro (d + 2) M_X8_works 4 [some (.ref 64), some (.int 156), some (.int (nI t)), some (.int (nI i)), w] [] (mk (upA M 71 g) T) Q := by
  refine R_go 5 (pc' := 11) (L' := [some (.ref 64), some (.int 156), some (.int (nI t)), some (.int (nI i)), w]) (st' := [.int ((upA M 71 g) 62 156), .int (nI i)]) (h' := mk (upA M 71 g) T) (fun _ => rfl) ?_
  refine R_top (y := nI k) (hk) ?_
  refine R_if 1 (c := (nI k) ≤ (nI i)) (t := 155) (f := 14) (L' := [some (.ref 64), some (.int 156), some (.int (nI t)), some (.int (nI i)), w]) (st' := []) (h' := mk (upA M 71 g) T) (fun _ => rfl) (fun g1 => ?_) (fun g1 => ?_)
  · replace g1 : k ≤ i := (nI_leI (a := k) (b := i) (by omega) (by omega)).mp g1
    omega
  · replace g1 : ¬ k ≤ i := fun q => g1 ((nI_leI (a := k) (b := i) (by omega) (by omega)).mpr q)
    refine R_go 7 (pc' := 23) (L' := [some (.ref 64), some (.int 156), some (.int (nI t)), some (.int (nI i)), w]) (st' := [.int (157 + nI i), .ref 65]) (h' := mk (upA M 71 g) T) (fun _ => rfl) ?_
    refine R_top (nI_add 157 i) ?_
    refine R_iald (c := 62) (n := 398) (j := 157 + i) rfl rfl (by omega) (by decide) ?_
    refine R_top (y := 42) (hs) ?_
    refine R_go 10 (pc' := 119) (L' := [some (.ref 64), some (.int 156), some (.int (nI t)), some (.int (nI i)), some (.int 42)]) (st' := []) (h' := mk (upA M 71 g) T) (fun _ => rfl) ?_
    refine R_stp (i := .iinc 2 (-1)) (len := 3) (pc' := 122) (L' := [some (.ref 64), some (.int 156), some (.int ((nI t) + -1)), some (.int (nI i)), some (.int 42)]) (st' := []) (h' := mk (upA M 71 g) T) rfl rfl rfl rfl rfl ?_
    rw [nI_m1 (t := t) (by omega)]
    refine R_go 5 (pc' := 129) (L' := [some (.ref 64), some (.int 156), some (.int (nI (t - 1))), some (.int (nI i)), some (.int 42)]) (st' := [.int (nI (t - 1) - 1), .ref 74]) (h' := mk (upA M 71 g) T) (fun _ => rfl) ?_
    refine R_top (pk_sub (a := t - 1) (b := 1) (by omega)) ?_
    refine R_go 6 (pc' := 138) (L' := [some (.ref 64), some (.int 156), some (.int (nI (t - 1))), some (.int (nI i)), some (.int 42)]) (st' := [.int (nI (t - 1) - 1), .ref 74, .int 42, .int (nI ((t - 1) - 1)), .ref 74]) (h' := mk (upA M 71 g) T) (fun _ => rfl) ?_
    refine R_top (pk_sub (a := t - 1) (b := 1) (by omega)) ?_
    refine R_iald (c := 71) (n := 60) (j := (t - 1) - 1) rfl rfl (by omega) (by decide) ?_
    refine R_top (y := g ((t - 1) - 1)) (congrFun upA_eq _) ?_
    refine R_go 3 (pc' := 144) (L' := [some (.ref 64), some (.int 156), some (.int (nI (t - 1))), some (.int (nI i)), some (.int 42)]) (st' := [.int (nI (t - 1)), .ref 74, .int (g ((t - 1) - 1)), .int 42, .int (nI ((t - 1) - 1)), .ref 74]) (h' := mk (upA M 71 g) T) (fun _ => rfl) ?_
    refine R_iald (c := 71) (n := 60) (j := t - 1) rfl rfl (by omega) (by decide) ?_
    refine R_top (y := g (t - 1)) (congrFun upA_eq _) ?_
    refine R_callD (i := .invokestatic 153) (kd := 1) (y := M_X8_twoOf) (as := [.int 42, .int (g ((t - 1) - 1)), .int (g (t - 1))]) (r := [.int (nI ((t - 1) - 1)), .ref 74]) (L0 := [some (.int 42), some (.int (g ((t - 1) - 1))), some (.int (g (t - 1)))]) (v := some (.int (jn 42 (g ((t - 1) - 1)) (g (t - 1))))) (h' := mk (upA M 71 g) T) (pc' := 148) (st' := [.int (jn 42 (g ((t - 1) - 1)) (g (t - 1))), .int (nI ((t - 1) - 1)), .ref 74]) rfl rfl rfl rfl rfl rfl (m_twoOf_42) ?_
    refine R_iast (c := 71) (n := 60) (j := (t - 1) - 1) rfl rfl (by omega) (by decide) ?_
    refine R_go 1 (pc' := 152) (L' := [some (.ref 64), some (.int 156), some (.int (nI (t - 1))), some (.int ((nI i) + 1)), some (.int 42)]) (st' := []) (h' := mk (up (upA M 71 g) 71 ((t - 1) - 1) (jn 42 (g ((t - 1) - 1)) (g (t - 1)))) T) (fun _ => rfl) ?_
    rw [nI_1]
    refine R_go 1 (pc' := 4) (L' := [some (.ref 64), some (.int 156), some (.int (nI (t - 1))), some (.int (nI (i + 1))), some (.int 42)]) (st' := []) (h' := mk (up (upA M 71 g) 71 ((t - 1) - 1) (jn 42 (g ((t - 1) - 1)) (g (t - 1)))) T) (fun _ => rfl) ?_
    rw [up_upA, show t - 1 - 1 = t - 2 by omega]
    exact k1
set_option maxRecDepth 100000 in
set_option maxHeartbeats 4000000 in
theorem v156_sig_47 {ro : xRO} {d : Nat} {M : xM} {T : Nat} {Q : Option Value → xH → Prop} {g : Nat → Int32} {t i k : Nat} {w : Option Value} (hk : M 62 156 = nI k) (k60 : k ≤ 60) (hi : i < k) (hs : M 62 (157 + i) = 47) (t2 : 2 ≤ t) (t60 : t ≤ 60) (k1 : Rn ro (d + 2) M_X8_works 4 [some (.ref 64), some (.int 156), some (.int (nI (t - 1))), some (.int (nI (i + 1))), some (.int 47)] [] (mk (upA M 71 (upd g (t - 2) (jn 47 (g (t - 2)) (g (t - 1))))) T) Q) : Rn ro (d + 2) M_X8_works 4 [some (.ref 64), some (.int 156), some (.int (nI t)), some (.int (nI i)), w] [] (mk (upA M 71 g) T) Q := by
  refine R_go 5 (pc' := 11) (L' := [some (.ref 64), some (.int 156), some (.int (nI t)), some (.int (nI i)), w]) (st' := [.int ((upA M 71 g) 62 156), .int (nI i)]) (h' := mk (upA M 71 g) T) (fun _ => rfl) ?_
  refine R_top (y := nI k) (hk) ?_
  refine R_if 1 (c := (nI k) ≤ (nI i)) (t := 155) (f := 14) (L' := [some (.ref 64), some (.int 156), some (.int (nI t)), some (.int (nI i)), w]) (st' := []) (h' := mk (upA M 71 g) T) (fun _ => rfl) (fun g1 => ?_) (fun g1 => ?_)
  · replace g1 : k ≤ i := (nI_leI (a := k) (b := i) (by omega) (by omega)).mp g1
    omega
  · replace g1 : ¬ k ≤ i := fun q => g1 ((nI_leI (a := k) (b := i) (by omega) (by omega)).mpr q)
    refine R_go 7 (pc' := 23) (L' := [some (.ref 64), some (.int 156), some (.int (nI t)), some (.int (nI i)), w]) (st' := [.int (157 + nI i), .ref 65]) (h' := mk (upA M 71 g) T) (fun _ => rfl) ?_
    refine R_top (nI_add 157 i) ?_
    refine R_iald (c := 62) (n := 398) (j := 157 + i) rfl rfl (by omega) (by decide) ?_
    refine R_top (y := 47) (hs) ?_
    refine R_go 10 (pc' := 119) (L' := [some (.ref 64), some (.int 156), some (.int (nI t)), some (.int (nI i)), some (.int 47)]) (st' := []) (h' := mk (upA M 71 g) T) (fun _ => rfl) ?_
    refine R_stp (i := .iinc 2 (-1)) (len := 3) (pc' := 122) (L' := [some (.ref 64), some (.int 156), some (.int ((nI t) + -1)), some (.int (nI i)), some (.int 47)]) (st' := []) (h' := mk (upA M 71 g) T) rfl rfl rfl rfl rfl ?_
    rw [nI_m1 (t := t) (by omega)]
    refine R_go 5 (pc' := 129) (L' := [some (.ref 64), some (.int 156), some (.int (nI (t - 1))), some (.int (nI i)), some (.int 47)]) (st' := [.int (nI (t - 1) - 1), .ref 74]) (h' := mk (upA M 71 g) T) (fun _ => rfl) ?_
    refine R_top (pk_sub (a := t - 1) (b := 1) (by omega)) ?_
    refine R_go 6 (pc' := 138) (L' := [some (.ref 64), some (.int 156), some (.int (nI (t - 1))), some (.int (nI i)), some (.int 47)]) (st' := [.int (nI (t - 1) - 1), .ref 74, .int 47, .int (nI ((t - 1) - 1)), .ref 74]) (h' := mk (upA M 71 g) T) (fun _ => rfl) ?_
    refine R_top (pk_sub (a := t - 1) (b := 1) (by omega)) ?_
    refine R_iald (c := 71) (n := 60) (j := (t - 1) - 1) rfl rfl (by omega) (by decide) ?_
    refine R_top (y := g ((t - 1) - 1)) (congrFun upA_eq _) ?_
    refine R_go 3 (pc' := 144) (L' := [some (.ref 64), some (.int 156), some (.int (nI (t - 1))), some (.int (nI i)), some (.int 47)]) (st' := [.int (nI (t - 1)), .ref 74, .int (g ((t - 1) - 1)), .int 47, .int (nI ((t - 1) - 1)), .ref 74]) (h' := mk (upA M 71 g) T) (fun _ => rfl) ?_
    refine R_iald (c := 71) (n := 60) (j := t - 1) rfl rfl (by omega) (by decide) ?_
    refine R_top (y := g (t - 1)) (congrFun upA_eq _) ?_
    refine R_callD (i := .invokestatic 153) (kd := 1) (y := M_X8_twoOf) (as := [.int 47, .int (g ((t - 1) - 1)), .int (g (t - 1))]) (r := [.int (nI ((t - 1) - 1)), .ref 74]) (L0 := [some (.int 47), some (.int (g ((t - 1) - 1))), some (.int (g (t - 1)))]) (v := some (.int (jn 47 (g ((t - 1) - 1)) (g (t - 1))))) (h' := mk (upA M 71 g) T) (pc' := 148) (st' := [.int (jn 47 (g ((t - 1) - 1)) (g (t - 1))), .int (nI ((t - 1) - 1)), .ref 74]) rfl rfl rfl rfl rfl rfl (m_twoOf_47) ?_
    refine R_iast (c := 71) (n := 60) (j := (t - 1) - 1) rfl rfl (by omega) (by decide) ?_
    refine R_go 1 (pc' := 152) (L' := [some (.ref 64), some (.int 156), some (.int (nI (t - 1))), some (.int ((nI i) + 1)), some (.int 47)]) (st' := []) (h' := mk (up (upA M 71 g) 71 ((t - 1) - 1) (jn 47 (g ((t - 1) - 1)) (g (t - 1)))) T) (fun _ => rfl) ?_
    rw [nI_1]
    refine R_go 1 (pc' := 4) (L' := [some (.ref 64), some (.int 156), some (.int (nI (t - 1))), some (.int (nI (i + 1))), some (.int 47)]) (st' := []) (h' := mk (up (upA M 71 g) 71 ((t - 1) - 1) (jn 47 (g ((t - 1) - 1)) (g (t - 1)))) T) (fun _ => rfl) ?_
    rw [up_upA, show t - 1 - 1 = t - 2 by omega]
    exact k1
set_option maxRecDepth 100000 in
set_option maxHeartbeats 4000000 in
theorem v156_sig_37 {ro : xRO} {d : Nat} {M : xM} {T : Nat} {Q : Option Value → xH → Prop} {g : Nat → Int32} {t i k : Nat} {w : Option Value} (hk : M 62 156 = nI k) (k60 : k ≤ 60) (hi : i < k) (hs : M 62 (157 + i) = 37) (t2 : 2 ≤ t) (t60 : t ≤ 60) (k1 : Rn ro (d + 2) M_X8_works 4 [some (.ref 64), some (.int 156), some (.int (nI (t - 1))), some (.int (nI (i + 1))), some (.int 37)] [] (mk (upA M 71 (upd g (t - 2) (jn 37 (g (t - 2)) (g (t - 1))))) T) Q) : Rn ro (d + 2) M_X8_works 4 [some (.ref 64), some (.int 156), some (.int (nI t)), some (.int (nI i)), w] [] (mk (upA M 71 g) T) Q := by
  refine R_go 5 (pc' := 11) (L' := [some (.ref 64), some (.int 156), some (.int (nI t)), some (.int (nI i)), w]) (st' := [.int ((upA M 71 g) 62 156), .int (nI i)]) (h' := mk (upA M 71 g) T) (fun _ => rfl) ?_
  refine R_top (y := nI k) (hk) ?_
  refine R_if 1 (c := (nI k) ≤ (nI i)) (t := 155) (f := 14) (L' := [some (.ref 64), some (.int 156), some (.int (nI t)), some (.int (nI i)), w]) (st' := []) (h' := mk (upA M 71 g) T) (fun _ => rfl) (fun g1 => ?_) (fun g1 => ?_)
  · replace g1 : k ≤ i := (nI_leI (a := k) (b := i) (by omega) (by omega)).mp g1
    omega
  · replace g1 : ¬ k ≤ i := fun q => g1 ((nI_leI (a := k) (b := i) (by omega) (by omega)).mpr q)
    refine R_go 7 (pc' := 23) (L' := [some (.ref 64), some (.int 156), some (.int (nI t)), some (.int (nI i)), w]) (st' := [.int (157 + nI i), .ref 65]) (h' := mk (upA M 71 g) T) (fun _ => rfl) ?_
    refine R_top (nI_add 157 i) ?_
    refine R_iald (c := 62) (n := 398) (j := 157 + i) rfl rfl (by omega) (by decide) ?_
    refine R_top (y := 37) (hs) ?_
    refine R_go 10 (pc' := 119) (L' := [some (.ref 64), some (.int 156), some (.int (nI t)), some (.int (nI i)), some (.int 37)]) (st' := []) (h' := mk (upA M 71 g) T) (fun _ => rfl) ?_
    refine R_stp (i := .iinc 2 (-1)) (len := 3) (pc' := 122) (L' := [some (.ref 64), some (.int 156), some (.int ((nI t) + -1)), some (.int (nI i)), some (.int 37)]) (st' := []) (h' := mk (upA M 71 g) T) rfl rfl rfl rfl rfl ?_
    rw [nI_m1 (t := t) (by omega)]
    refine R_go 5 (pc' := 129) (L' := [some (.ref 64), some (.int 156), some (.int (nI (t - 1))), some (.int (nI i)), some (.int 37)]) (st' := [.int (nI (t - 1) - 1), .ref 74]) (h' := mk (upA M 71 g) T) (fun _ => rfl) ?_
    refine R_top (pk_sub (a := t - 1) (b := 1) (by omega)) ?_
    refine R_go 6 (pc' := 138) (L' := [some (.ref 64), some (.int 156), some (.int (nI (t - 1))), some (.int (nI i)), some (.int 37)]) (st' := [.int (nI (t - 1) - 1), .ref 74, .int 37, .int (nI ((t - 1) - 1)), .ref 74]) (h' := mk (upA M 71 g) T) (fun _ => rfl) ?_
    refine R_top (pk_sub (a := t - 1) (b := 1) (by omega)) ?_
    refine R_iald (c := 71) (n := 60) (j := (t - 1) - 1) rfl rfl (by omega) (by decide) ?_
    refine R_top (y := g ((t - 1) - 1)) (congrFun upA_eq _) ?_
    refine R_go 3 (pc' := 144) (L' := [some (.ref 64), some (.int 156), some (.int (nI (t - 1))), some (.int (nI i)), some (.int 37)]) (st' := [.int (nI (t - 1)), .ref 74, .int (g ((t - 1) - 1)), .int 37, .int (nI ((t - 1) - 1)), .ref 74]) (h' := mk (upA M 71 g) T) (fun _ => rfl) ?_
    refine R_iald (c := 71) (n := 60) (j := t - 1) rfl rfl (by omega) (by decide) ?_
    refine R_top (y := g (t - 1)) (congrFun upA_eq _) ?_
    refine R_callD (i := .invokestatic 153) (kd := 1) (y := M_X8_twoOf) (as := [.int 37, .int (g ((t - 1) - 1)), .int (g (t - 1))]) (r := [.int (nI ((t - 1) - 1)), .ref 74]) (L0 := [some (.int 37), some (.int (g ((t - 1) - 1))), some (.int (g (t - 1)))]) (v := some (.int (jn 37 (g ((t - 1) - 1)) (g (t - 1))))) (h' := mk (upA M 71 g) T) (pc' := 148) (st' := [.int (jn 37 (g ((t - 1) - 1)) (g (t - 1))), .int (nI ((t - 1) - 1)), .ref 74]) rfl rfl rfl rfl rfl rfl (m_twoOf_37) ?_
    refine R_iast (c := 71) (n := 60) (j := (t - 1) - 1) rfl rfl (by omega) (by decide) ?_
    refine R_go 1 (pc' := 152) (L' := [some (.ref 64), some (.int 156), some (.int (nI (t - 1))), some (.int ((nI i) + 1)), some (.int 37)]) (st' := []) (h' := mk (up (upA M 71 g) 71 ((t - 1) - 1) (jn 37 (g ((t - 1) - 1)) (g (t - 1)))) T) (fun _ => rfl) ?_
    rw [nI_1]
    refine R_go 1 (pc' := 4) (L' := [some (.ref 64), some (.int 156), some (.int (nI (t - 1))), some (.int (nI (i + 1))), some (.int 37)]) (st' := []) (h' := mk (up (upA M 71 g) 71 ((t - 1) - 1) (jn 37 (g ((t - 1) - 1)) (g (t - 1)))) T) (fun _ => rfl) ?_
    rw [up_upA, show t - 1 - 1 = t - 2 by omega]
    exact k1
set_option maxRecDepth 100000 in
set_option maxHeartbeats 4000000 in
theorem v277_push {ro : xRO} {d : Nat} {M : xM} {T : Nat} {Q : Option Value → xH → Prop} {g : Nat → Int32} {t i k : Nat} {w : Option Value} (hk : M 62 277 = nI k) (k60 : k ≤ 60) (hi : i < k) (hs : M 62 (278 + i) = 1) {v : Int32} (hw : M 62 (338 + i) = v) (t60 : t < 60) (k1 : Rn ro (d + 2) M_X8_works 4 [some (.ref 64), some (.int 277), some (.int (nI (t + 1))), some (.int (nI (i + 1))), some (.int 1)] [] (mk (upA M 71 (upd g t v)) T) Q) : Rn ro (d + 2) M_X8_works 4 [some (.ref 64), some (.int 277), some (.int (nI t)), some (.int (nI i)), w] [] (mk (upA M 71 g) T) Q := by
  refine R_go 5 (pc' := 11) (L' := [some (.ref 64), some (.int 277), some (.int (nI t)), some (.int (nI i)), w]) (st' := [.int ((upA M 71 g) 62 277), .int (nI i)]) (h' := mk (upA M 71 g) T) (fun _ => rfl) ?_
  refine R_top (y := nI k) (hk) ?_
  refine R_if 1 (c := (nI k) ≤ (nI i)) (t := 155) (f := 14) (L' := [some (.ref 64), some (.int 277), some (.int (nI t)), some (.int (nI i)), w]) (st' := []) (h' := mk (upA M 71 g) T) (fun _ => rfl) (fun g1 => ?_) (fun g1 => ?_)
  · replace g1 : k ≤ i := (nI_leI (a := k) (b := i) (by omega) (by omega)).mp g1
    omega
  · replace g1 : ¬ k ≤ i := fun q => g1 ((nI_leI (a := k) (b := i) (by omega) (by omega)).mpr q)
    refine R_go 7 (pc' := 23) (L' := [some (.ref 64), some (.int 277), some (.int (nI t)), some (.int (nI i)), w]) (st' := [.int (278 + nI i), .ref 65]) (h' := mk (upA M 71 g) T) (fun _ => rfl) ?_
    refine R_top (nI_add 278 i) ?_
    refine R_iald (c := 62) (n := 398) (j := 278 + i) rfl rfl (by omega) (by decide) ?_
    refine R_top (y := 1) (hs) ?_
    refine R_go 17 (pc' := 59) (L' := [some (.ref 64), some (.int 277), some (.int (nI t)), some (.int (nI i)), some (.int 1)]) (st' := [.int (338 + nI i), .ref 65, .int (nI t), .ref 74]) (h' := mk (upA M 71 g) T) (fun _ => rfl) ?_
    refine R_top (nI_add 338 i) ?_
    refine R_iald (c := 62) (n := 398) (j := 338 + i) rfl rfl (by omega) (by decide) ?_
    refine R_top (y := v) (hw) ?_
    refine R_go 1 (pc' := 79) (L' := [some (.ref 64), some (.int 277), some (.int (nI t)), some (.int (nI i)), some (.int 1)]) (st' := [.int v, .int (nI t), .ref 74]) (h' := mk (upA M 71 g) T) (fun _ => rfl) ?_
    refine R_iast (c := 71) (n := 60) (j := t) rfl rfl (by omega) (by decide) ?_
    refine R_go 1 (pc' := 83) (L' := [some (.ref 64), some (.int 277), some (.int ((nI t) + 1)), some (.int (nI i)), some (.int 1)]) (st' := []) (h' := mk (up (upA M 71 g) 71 t v) T) (fun _ => rfl) ?_
    rw [nI_1]
    refine R_go 2 (pc' := 152) (L' := [some (.ref 64), some (.int 277), some (.int (nI (t + 1))), some (.int ((nI i) + 1)), some (.int 1)]) (st' := []) (h' := mk (up (upA M 71 g) 71 t v) T) (fun _ => rfl) ?_
    rw [nI_1]
    refine R_go 1 (pc' := 4) (L' := [some (.ref 64), some (.int 277), some (.int (nI (t + 1))), some (.int (nI (i + 1))), some (.int 1)]) (st' := []) (h' := mk (up (upA M 71 g) 71 t v) T) (fun _ => rfl) ?_
    rw [up_upA]
    exact k1
set_option maxRecDepth 100000 in
set_option maxHeartbeats 4000000 in
theorem v277_name {ro : xRO} {d : Nat} {M : xM} {T : Nat} {Q : Option Value → xH → Prop} {g : Nat → Int32} {t i k : Nat} {w : Option Value} (hk : M 62 277 = nI k) (k60 : k ≤ 60) (hi : i < k) (hs : M 62 (278 + i) = 2) {u : Nat} (u2 : u ≤ 2) (hw : M 62 (338 + i) = nI u) (t60 : t < 60) (k1 : Rn ro (d + 2) M_X8_works 4 [some (.ref 64), some (.int 277), some (.int (nI (t + 1))), some (.int (nI (i + 1))), some (.int 2)] [] (mk (upA M 71 (upd g t (M 70 u))) T) Q) : Rn ro (d + 2) M_X8_works 4 [some (.ref 64), some (.int 277), some (.int (nI t)), some (.int (nI i)), w] [] (mk (upA M 71 g) T) Q := by
  refine R_go 5 (pc' := 11) (L' := [some (.ref 64), some (.int 277), some (.int (nI t)), some (.int (nI i)), w]) (st' := [.int ((upA M 71 g) 62 277), .int (nI i)]) (h' := mk (upA M 71 g) T) (fun _ => rfl) ?_
  refine R_top (y := nI k) (hk) ?_
  refine R_if 1 (c := (nI k) ≤ (nI i)) (t := 155) (f := 14) (L' := [some (.ref 64), some (.int 277), some (.int (nI t)), some (.int (nI i)), w]) (st' := []) (h' := mk (upA M 71 g) T) (fun _ => rfl) (fun g1 => ?_) (fun g1 => ?_)
  · replace g1 : k ≤ i := (nI_leI (a := k) (b := i) (by omega) (by omega)).mp g1
    omega
  · replace g1 : ¬ k ≤ i := fun q => g1 ((nI_leI (a := k) (b := i) (by omega) (by omega)).mpr q)
    refine R_go 7 (pc' := 23) (L' := [some (.ref 64), some (.int 277), some (.int (nI t)), some (.int (nI i)), w]) (st' := [.int (278 + nI i), .ref 65]) (h' := mk (upA M 71 g) T) (fun _ => rfl) ?_
    refine R_top (nI_add 278 i) ?_
    refine R_iald (c := 62) (n := 398) (j := 278 + i) rfl rfl (by omega) (by decide) ?_
    refine R_top (y := 2) (hs) ?_
    refine R_go 22 (pc' := 77) (L' := [some (.ref 64), some (.int 277), some (.int (nI t)), some (.int (nI i)), some (.int 2)]) (st' := [.int (338 + nI i), .ref 65, .ref 73, .int (nI t), .ref 74]) (h' := mk (upA M 71 g) T) (fun _ => rfl) ?_
    refine R_top (nI_add 338 i) ?_
    refine R_iald (c := 62) (n := 398) (j := 338 + i) rfl rfl (by omega) (by decide) ?_
    refine R_top (y := nI u) (hw) ?_
    refine R_iald (c := 70) (n := 3) (j := u) rfl rfl (by omega) (by decide) ?_
    refine R_top (y := M 70 u) (rfl) ?_
    refine R_iast (c := 71) (n := 60) (j := t) rfl rfl (by omega) (by decide) ?_
    refine R_go 1 (pc' := 83) (L' := [some (.ref 64), some (.int 277), some (.int ((nI t) + 1)), some (.int (nI i)), some (.int 2)]) (st' := []) (h' := mk (up (upA M 71 g) 71 t (M 70 u)) T) (fun _ => rfl) ?_
    rw [nI_1]
    refine R_go 2 (pc' := 152) (L' := [some (.ref 64), some (.int 277), some (.int (nI (t + 1))), some (.int ((nI i) + 1)), some (.int 2)]) (st' := []) (h' := mk (up (upA M 71 g) 71 t (M 70 u)) T) (fun _ => rfl) ?_
    rw [nI_1]
    refine R_go 1 (pc' := 4) (L' := [some (.ref 64), some (.int 277), some (.int (nI (t + 1))), some (.int (nI (i + 1))), some (.int 2)]) (st' := []) (h' := mk (up (upA M 71 g) 71 t (M 70 u)) T) (fun _ => rfl) ?_
    rw [up_upA]
    exact k1
set_option maxRecDepth 100000 in
set_option maxHeartbeats 4000000 in
theorem v277_not {ro : xRO} {d : Nat} {M : xM} {T : Nat} {Q : Option Value → xH → Prop} {g : Nat → Int32} {t i k : Nat} {w : Option Value} (hk : M 62 277 = nI k) (k60 : k ≤ 60) (hi : i < k) (hs : M 62 (278 + i) = 3) (t1 : 1 ≤ t) (t60 : t ≤ 60) (k1 : Rn ro (d + 2) M_X8_works 4 [some (.ref 64), some (.int 277), some (.int (nI t)), some (.int (nI (i + 1))), some (.int 3)] [] (mk (upA M 71 (upd g (t - 1) (if g (t - 1) = 0 then 1 else 0))) T) Q) : Rn ro (d + 2) M_X8_works 4 [some (.ref 64), some (.int 277), some (.int (nI t)), some (.int (nI i)), w] [] (mk (upA M 71 g) T) Q := by
  refine R_go 5 (pc' := 11) (L' := [some (.ref 64), some (.int 277), some (.int (nI t)), some (.int (nI i)), w]) (st' := [.int ((upA M 71 g) 62 277), .int (nI i)]) (h' := mk (upA M 71 g) T) (fun _ => rfl) ?_
  refine R_top (y := nI k) (hk) ?_
  refine R_if 1 (c := (nI k) ≤ (nI i)) (t := 155) (f := 14) (L' := [some (.ref 64), some (.int 277), some (.int (nI t)), some (.int (nI i)), w]) (st' := []) (h' := mk (upA M 71 g) T) (fun _ => rfl) (fun g1 => ?_) (fun g1 => ?_)
  · replace g1 : k ≤ i := (nI_leI (a := k) (b := i) (by omega) (by omega)).mp g1
    omega
  · replace g1 : ¬ k ≤ i := fun q => g1 ((nI_leI (a := k) (b := i) (by omega) (by omega)).mpr q)
    refine R_go 7 (pc' := 23) (L' := [some (.ref 64), some (.int 277), some (.int (nI t)), some (.int (nI i)), w]) (st' := [.int (278 + nI i), .ref 65]) (h' := mk (upA M 71 g) T) (fun _ => rfl) ?_
    refine R_top (nI_add 278 i) ?_
    refine R_iald (c := 62) (n := 398) (j := 278 + i) rfl rfl (by omega) (by decide) ?_
    refine R_top (y := 3) (hs) ?_
    refine R_go 15 (pc' := 99) (L' := [some (.ref 64), some (.int 277), some (.int (nI t)), some (.int (nI i)), some (.int 3)]) (st' := [.int (nI t - 1), .ref 74]) (h' := mk (upA M 71 g) T) (fun _ => rfl) ?_
    refine R_top (pk_sub (a := t) (b := 1) (by omega)) ?_
    refine R_go 5 (pc' := 106) (L' := [some (.ref 64), some (.int 277), some (.int (nI t)), some (.int (nI i)), some (.int 3)]) (st' := [.int (nI t - 1), .ref 74, .int (nI (t - 1)), .ref 74]) (h' := mk (upA M 71 g) T) (fun _ => rfl) ?_
    refine R_top (pk_sub (a := t) (b := 1) (by omega)) ?_
    refine R_iald (c := 71) (n := 60) (j := t - 1) rfl rfl (by omega) (by decide) ?_
    refine R_top (y := g (t - 1)) (congrFun upA_eq _) ?_
    refine R_ifn 1 (c := (g (t - 1)) = 0) (t := 114) (f := 110) (L' := [some (.ref 64), some (.int 277), some (.int (nI t)), some (.int (nI i)), some (.int 3)]) (st' := [.int (nI (t - 1)), .ref 74]) (h' := mk (upA M 71 g) T) (fun _ => rfl) (fun g2 => ?_) (fun g2 => ?_)
    · refine R_go 1 (pc' := 115) (L' := [some (.ref 64), some (.int 277), some (.int (nI t)), some (.int (nI i)), some (.int 3)]) (st' := [.int 0, .int (nI (t - 1)), .ref 74]) (h' := mk (upA M 71 g) T) (fun _ => rfl) ?_
      refine R_iast (c := 71) (n := 60) (j := t - 1) rfl rfl (by omega) (by decide) ?_
      refine R_go 2 (pc' := 152) (L' := [some (.ref 64), some (.int 277), some (.int (nI t)), some (.int ((nI i) + 1)), some (.int 3)]) (st' := []) (h' := mk (up (upA M 71 g) 71 (t - 1) 0) T) (fun _ => rfl) ?_
      rw [nI_1]
      refine R_go 1 (pc' := 4) (L' := [some (.ref 64), some (.int 277), some (.int (nI t)), some (.int (nI (i + 1))), some (.int 3)]) (st' := []) (h' := mk (up (upA M 71 g) 71 (t - 1) 0) T) (fun _ => rfl) ?_
      rw [if_neg g2] at k1
      rw [up_upA]
      exact k1
    · refine R_go 2 (pc' := 115) (L' := [some (.ref 64), some (.int 277), some (.int (nI t)), some (.int (nI i)), some (.int 3)]) (st' := [.int 1, .int (nI (t - 1)), .ref 74]) (h' := mk (upA M 71 g) T) (fun _ => rfl) ?_
      refine R_iast (c := 71) (n := 60) (j := t - 1) rfl rfl (by omega) (by decide) ?_
      refine R_go 2 (pc' := 152) (L' := [some (.ref 64), some (.int 277), some (.int (nI t)), some (.int ((nI i) + 1)), some (.int 3)]) (st' := []) (h' := mk (up (upA M 71 g) 71 (t - 1) 1) T) (fun _ => rfl) ?_
      rw [nI_1]
      refine R_go 1 (pc' := 4) (L' := [some (.ref 64), some (.int 277), some (.int (nI t)), some (.int (nI (i + 1))), some (.int 3)]) (st' := []) (h' := mk (up (upA M 71 g) 71 (t - 1) 1) T) (fun _ => rfl) ?_
      rw [if_pos g2] at k1
      rw [up_upA]
      exact k1
set_option maxRecDepth 100000 in
set_option maxHeartbeats 4000000 in
theorem v277_sig_124 {ro : xRO} {d : Nat} {M : xM} {T : Nat} {Q : Option Value → xH → Prop} {g : Nat → Int32} {t i k : Nat} {w : Option Value} (hk : M 62 277 = nI k) (k60 : k ≤ 60) (hi : i < k) (hs : M 62 (278 + i) = 124) (t2 : 2 ≤ t) (t60 : t ≤ 60) (k1 : Rn ro (d + 2) M_X8_works 4 [some (.ref 64), some (.int 277), some (.int (nI (t - 1))), some (.int (nI (i + 1))), some (.int 124)] [] (mk (upA M 71 (upd g (t - 2) (jn 124 (g (t - 2)) (g (t - 1))))) T) Q) : Rn ro (d + 2) M_X8_works 4 [some (.ref 64), some (.int 277), some (.int (nI t)), some (.int (nI i)), w] [] (mk (upA M 71 g) T) Q := by
  refine R_go 5 (pc' := 11) (L' := [some (.ref 64), some (.int 277), some (.int (nI t)), some (.int (nI i)), w]) (st' := [.int ((upA M 71 g) 62 277), .int (nI i)]) (h' := mk (upA M 71 g) T) (fun _ => rfl) ?_
  refine R_top (y := nI k) (hk) ?_
  refine R_if 1 (c := (nI k) ≤ (nI i)) (t := 155) (f := 14) (L' := [some (.ref 64), some (.int 277), some (.int (nI t)), some (.int (nI i)), w]) (st' := []) (h' := mk (upA M 71 g) T) (fun _ => rfl) (fun g1 => ?_) (fun g1 => ?_)
  · replace g1 : k ≤ i := (nI_leI (a := k) (b := i) (by omega) (by omega)).mp g1
    omega
  · replace g1 : ¬ k ≤ i := fun q => g1 ((nI_leI (a := k) (b := i) (by omega) (by omega)).mpr q)
    refine R_go 7 (pc' := 23) (L' := [some (.ref 64), some (.int 277), some (.int (nI t)), some (.int (nI i)), w]) (st' := [.int (278 + nI i), .ref 65]) (h' := mk (upA M 71 g) T) (fun _ => rfl) ?_
    refine R_top (nI_add 278 i) ?_
    refine R_iald (c := 62) (n := 398) (j := 278 + i) rfl rfl (by omega) (by decide) ?_
    refine R_top (y := 124) (hs) ?_
    refine R_go 10 (pc' := 119) (L' := [some (.ref 64), some (.int 277), some (.int (nI t)), some (.int (nI i)), some (.int 124)]) (st' := []) (h' := mk (upA M 71 g) T) (fun _ => rfl) ?_
    refine R_stp (i := .iinc 2 (-1)) (len := 3) (pc' := 122) (L' := [some (.ref 64), some (.int 277), some (.int ((nI t) + -1)), some (.int (nI i)), some (.int 124)]) (st' := []) (h' := mk (upA M 71 g) T) rfl rfl rfl rfl rfl ?_
    rw [nI_m1 (t := t) (by omega)]
    refine R_go 5 (pc' := 129) (L' := [some (.ref 64), some (.int 277), some (.int (nI (t - 1))), some (.int (nI i)), some (.int 124)]) (st' := [.int (nI (t - 1) - 1), .ref 74]) (h' := mk (upA M 71 g) T) (fun _ => rfl) ?_
    refine R_top (pk_sub (a := t - 1) (b := 1) (by omega)) ?_
    refine R_go 6 (pc' := 138) (L' := [some (.ref 64), some (.int 277), some (.int (nI (t - 1))), some (.int (nI i)), some (.int 124)]) (st' := [.int (nI (t - 1) - 1), .ref 74, .int 124, .int (nI ((t - 1) - 1)), .ref 74]) (h' := mk (upA M 71 g) T) (fun _ => rfl) ?_
    refine R_top (pk_sub (a := t - 1) (b := 1) (by omega)) ?_
    refine R_iald (c := 71) (n := 60) (j := (t - 1) - 1) rfl rfl (by omega) (by decide) ?_
    refine R_top (y := g ((t - 1) - 1)) (congrFun upA_eq _) ?_
    refine R_go 3 (pc' := 144) (L' := [some (.ref 64), some (.int 277), some (.int (nI (t - 1))), some (.int (nI i)), some (.int 124)]) (st' := [.int (nI (t - 1)), .ref 74, .int (g ((t - 1) - 1)), .int 124, .int (nI ((t - 1) - 1)), .ref 74]) (h' := mk (upA M 71 g) T) (fun _ => rfl) ?_
    refine R_iald (c := 71) (n := 60) (j := t - 1) rfl rfl (by omega) (by decide) ?_
    refine R_top (y := g (t - 1)) (congrFun upA_eq _) ?_
    refine R_callD (i := .invokestatic 153) (kd := 1) (y := M_X8_twoOf) (as := [.int 124, .int (g ((t - 1) - 1)), .int (g (t - 1))]) (r := [.int (nI ((t - 1) - 1)), .ref 74]) (L0 := [some (.int 124), some (.int (g ((t - 1) - 1))), some (.int (g (t - 1)))]) (v := some (.int (jn 124 (g ((t - 1) - 1)) (g (t - 1))))) (h' := mk (upA M 71 g) T) (pc' := 148) (st' := [.int (jn 124 (g ((t - 1) - 1)) (g (t - 1))), .int (nI ((t - 1) - 1)), .ref 74]) rfl rfl rfl rfl rfl rfl (m_twoOf_124) ?_
    refine R_iast (c := 71) (n := 60) (j := (t - 1) - 1) rfl rfl (by omega) (by decide) ?_
    refine R_go 1 (pc' := 152) (L' := [some (.ref 64), some (.int 277), some (.int (nI (t - 1))), some (.int ((nI i) + 1)), some (.int 124)]) (st' := []) (h' := mk (up (upA M 71 g) 71 ((t - 1) - 1) (jn 124 (g ((t - 1) - 1)) (g (t - 1)))) T) (fun _ => rfl) ?_
    rw [nI_1]
    refine R_go 1 (pc' := 4) (L' := [some (.ref 64), some (.int 277), some (.int (nI (t - 1))), some (.int (nI (i + 1))), some (.int 124)]) (st' := []) (h' := mk (up (upA M 71 g) 71 ((t - 1) - 1) (jn 124 (g ((t - 1) - 1)) (g (t - 1)))) T) (fun _ => rfl) ?_
    rw [up_upA, show t - 1 - 1 = t - 2 by omega]
    exact k1
set_option maxRecDepth 100000 in
set_option maxHeartbeats 4000000 in
theorem v277_sig_38 {ro : xRO} {d : Nat} {M : xM} {T : Nat} {Q : Option Value → xH → Prop} {g : Nat → Int32} {t i k : Nat} {w : Option Value} (hk : M 62 277 = nI k) (k60 : k ≤ 60) (hi : i < k) (hs : M 62 (278 + i) = 38) (t2 : 2 ≤ t) (t60 : t ≤ 60) (k1 : Rn ro (d + 2) M_X8_works 4 [some (.ref 64), some (.int 277), some (.int (nI (t - 1))), some (.int (nI (i + 1))), some (.int 38)] [] (mk (upA M 71 (upd g (t - 2) (jn 38 (g (t - 2)) (g (t - 1))))) T) Q) : Rn ro (d + 2) M_X8_works 4 [some (.ref 64), some (.int 277), some (.int (nI t)), some (.int (nI i)), w] [] (mk (upA M 71 g) T) Q := by
  refine R_go 5 (pc' := 11) (L' := [some (.ref 64), some (.int 277), some (.int (nI t)), some (.int (nI i)), w]) (st' := [.int ((upA M 71 g) 62 277), .int (nI i)]) (h' := mk (upA M 71 g) T) (fun _ => rfl) ?_
  refine R_top (y := nI k) (hk) ?_
  refine R_if 1 (c := (nI k) ≤ (nI i)) (t := 155) (f := 14) (L' := [some (.ref 64), some (.int 277), some (.int (nI t)), some (.int (nI i)), w]) (st' := []) (h' := mk (upA M 71 g) T) (fun _ => rfl) (fun g1 => ?_) (fun g1 => ?_)
  · replace g1 : k ≤ i := (nI_leI (a := k) (b := i) (by omega) (by omega)).mp g1
    omega
  · replace g1 : ¬ k ≤ i := fun q => g1 ((nI_leI (a := k) (b := i) (by omega) (by omega)).mpr q)
    refine R_go 7 (pc' := 23) (L' := [some (.ref 64), some (.int 277), some (.int (nI t)), some (.int (nI i)), w]) (st' := [.int (278 + nI i), .ref 65]) (h' := mk (upA M 71 g) T) (fun _ => rfl) ?_
    refine R_top (nI_add 278 i) ?_
    refine R_iald (c := 62) (n := 398) (j := 278 + i) rfl rfl (by omega) (by decide) ?_
    refine R_top (y := 38) (hs) ?_
    refine R_go 10 (pc' := 119) (L' := [some (.ref 64), some (.int 277), some (.int (nI t)), some (.int (nI i)), some (.int 38)]) (st' := []) (h' := mk (upA M 71 g) T) (fun _ => rfl) ?_
    refine R_stp (i := .iinc 2 (-1)) (len := 3) (pc' := 122) (L' := [some (.ref 64), some (.int 277), some (.int ((nI t) + -1)), some (.int (nI i)), some (.int 38)]) (st' := []) (h' := mk (upA M 71 g) T) rfl rfl rfl rfl rfl ?_
    rw [nI_m1 (t := t) (by omega)]
    refine R_go 5 (pc' := 129) (L' := [some (.ref 64), some (.int 277), some (.int (nI (t - 1))), some (.int (nI i)), some (.int 38)]) (st' := [.int (nI (t - 1) - 1), .ref 74]) (h' := mk (upA M 71 g) T) (fun _ => rfl) ?_
    refine R_top (pk_sub (a := t - 1) (b := 1) (by omega)) ?_
    refine R_go 6 (pc' := 138) (L' := [some (.ref 64), some (.int 277), some (.int (nI (t - 1))), some (.int (nI i)), some (.int 38)]) (st' := [.int (nI (t - 1) - 1), .ref 74, .int 38, .int (nI ((t - 1) - 1)), .ref 74]) (h' := mk (upA M 71 g) T) (fun _ => rfl) ?_
    refine R_top (pk_sub (a := t - 1) (b := 1) (by omega)) ?_
    refine R_iald (c := 71) (n := 60) (j := (t - 1) - 1) rfl rfl (by omega) (by decide) ?_
    refine R_top (y := g ((t - 1) - 1)) (congrFun upA_eq _) ?_
    refine R_go 3 (pc' := 144) (L' := [some (.ref 64), some (.int 277), some (.int (nI (t - 1))), some (.int (nI i)), some (.int 38)]) (st' := [.int (nI (t - 1)), .ref 74, .int (g ((t - 1) - 1)), .int 38, .int (nI ((t - 1) - 1)), .ref 74]) (h' := mk (upA M 71 g) T) (fun _ => rfl) ?_
    refine R_iald (c := 71) (n := 60) (j := t - 1) rfl rfl (by omega) (by decide) ?_
    refine R_top (y := g (t - 1)) (congrFun upA_eq _) ?_
    refine R_callD (i := .invokestatic 153) (kd := 1) (y := M_X8_twoOf) (as := [.int 38, .int (g ((t - 1) - 1)), .int (g (t - 1))]) (r := [.int (nI ((t - 1) - 1)), .ref 74]) (L0 := [some (.int 38), some (.int (g ((t - 1) - 1))), some (.int (g (t - 1)))]) (v := some (.int (jn 38 (g ((t - 1) - 1)) (g (t - 1))))) (h' := mk (upA M 71 g) T) (pc' := 148) (st' := [.int (jn 38 (g ((t - 1) - 1)) (g (t - 1))), .int (nI ((t - 1) - 1)), .ref 74]) rfl rfl rfl rfl rfl rfl (m_twoOf_38) ?_
    refine R_iast (c := 71) (n := 60) (j := (t - 1) - 1) rfl rfl (by omega) (by decide) ?_
    refine R_go 1 (pc' := 152) (L' := [some (.ref 64), some (.int 277), some (.int (nI (t - 1))), some (.int ((nI i) + 1)), some (.int 38)]) (st' := []) (h' := mk (up (upA M 71 g) 71 ((t - 1) - 1) (jn 38 (g ((t - 1) - 1)) (g (t - 1)))) T) (fun _ => rfl) ?_
    rw [nI_1]
    refine R_go 1 (pc' := 4) (L' := [some (.ref 64), some (.int 277), some (.int (nI (t - 1))), some (.int (nI (i + 1))), some (.int 38)]) (st' := []) (h' := mk (up (upA M 71 g) 71 ((t - 1) - 1) (jn 38 (g ((t - 1) - 1)) (g (t - 1)))) T) (fun _ => rfl) ?_
    rw [up_upA, show t - 1 - 1 = t - 2 by omega]
    exact k1
set_option maxRecDepth 100000 in
set_option maxHeartbeats 4000000 in
theorem v277_sig_60 {ro : xRO} {d : Nat} {M : xM} {T : Nat} {Q : Option Value → xH → Prop} {g : Nat → Int32} {t i k : Nat} {w : Option Value} (hk : M 62 277 = nI k) (k60 : k ≤ 60) (hi : i < k) (hs : M 62 (278 + i) = 60) (t2 : 2 ≤ t) (t60 : t ≤ 60) (k1 : Rn ro (d + 2) M_X8_works 4 [some (.ref 64), some (.int 277), some (.int (nI (t - 1))), some (.int (nI (i + 1))), some (.int 60)] [] (mk (upA M 71 (upd g (t - 2) (jn 60 (g (t - 2)) (g (t - 1))))) T) Q) : Rn ro (d + 2) M_X8_works 4 [some (.ref 64), some (.int 277), some (.int (nI t)), some (.int (nI i)), w] [] (mk (upA M 71 g) T) Q := by
  refine R_go 5 (pc' := 11) (L' := [some (.ref 64), some (.int 277), some (.int (nI t)), some (.int (nI i)), w]) (st' := [.int ((upA M 71 g) 62 277), .int (nI i)]) (h' := mk (upA M 71 g) T) (fun _ => rfl) ?_
  refine R_top (y := nI k) (hk) ?_
  refine R_if 1 (c := (nI k) ≤ (nI i)) (t := 155) (f := 14) (L' := [some (.ref 64), some (.int 277), some (.int (nI t)), some (.int (nI i)), w]) (st' := []) (h' := mk (upA M 71 g) T) (fun _ => rfl) (fun g1 => ?_) (fun g1 => ?_)
  · replace g1 : k ≤ i := (nI_leI (a := k) (b := i) (by omega) (by omega)).mp g1
    omega
  · replace g1 : ¬ k ≤ i := fun q => g1 ((nI_leI (a := k) (b := i) (by omega) (by omega)).mpr q)
    refine R_go 7 (pc' := 23) (L' := [some (.ref 64), some (.int 277), some (.int (nI t)), some (.int (nI i)), w]) (st' := [.int (278 + nI i), .ref 65]) (h' := mk (upA M 71 g) T) (fun _ => rfl) ?_
    refine R_top (nI_add 278 i) ?_
    refine R_iald (c := 62) (n := 398) (j := 278 + i) rfl rfl (by omega) (by decide) ?_
    refine R_top (y := 60) (hs) ?_
    refine R_go 10 (pc' := 119) (L' := [some (.ref 64), some (.int 277), some (.int (nI t)), some (.int (nI i)), some (.int 60)]) (st' := []) (h' := mk (upA M 71 g) T) (fun _ => rfl) ?_
    refine R_stp (i := .iinc 2 (-1)) (len := 3) (pc' := 122) (L' := [some (.ref 64), some (.int 277), some (.int ((nI t) + -1)), some (.int (nI i)), some (.int 60)]) (st' := []) (h' := mk (upA M 71 g) T) rfl rfl rfl rfl rfl ?_
    rw [nI_m1 (t := t) (by omega)]
    refine R_go 5 (pc' := 129) (L' := [some (.ref 64), some (.int 277), some (.int (nI (t - 1))), some (.int (nI i)), some (.int 60)]) (st' := [.int (nI (t - 1) - 1), .ref 74]) (h' := mk (upA M 71 g) T) (fun _ => rfl) ?_
    refine R_top (pk_sub (a := t - 1) (b := 1) (by omega)) ?_
    refine R_go 6 (pc' := 138) (L' := [some (.ref 64), some (.int 277), some (.int (nI (t - 1))), some (.int (nI i)), some (.int 60)]) (st' := [.int (nI (t - 1) - 1), .ref 74, .int 60, .int (nI ((t - 1) - 1)), .ref 74]) (h' := mk (upA M 71 g) T) (fun _ => rfl) ?_
    refine R_top (pk_sub (a := t - 1) (b := 1) (by omega)) ?_
    refine R_iald (c := 71) (n := 60) (j := (t - 1) - 1) rfl rfl (by omega) (by decide) ?_
    refine R_top (y := g ((t - 1) - 1)) (congrFun upA_eq _) ?_
    refine R_go 3 (pc' := 144) (L' := [some (.ref 64), some (.int 277), some (.int (nI (t - 1))), some (.int (nI i)), some (.int 60)]) (st' := [.int (nI (t - 1)), .ref 74, .int (g ((t - 1) - 1)), .int 60, .int (nI ((t - 1) - 1)), .ref 74]) (h' := mk (upA M 71 g) T) (fun _ => rfl) ?_
    refine R_iald (c := 71) (n := 60) (j := t - 1) rfl rfl (by omega) (by decide) ?_
    refine R_top (y := g (t - 1)) (congrFun upA_eq _) ?_
    refine R_callD (i := .invokestatic 153) (kd := 1) (y := M_X8_twoOf) (as := [.int 60, .int (g ((t - 1) - 1)), .int (g (t - 1))]) (r := [.int (nI ((t - 1) - 1)), .ref 74]) (L0 := [some (.int 60), some (.int (g ((t - 1) - 1))), some (.int (g (t - 1)))]) (v := some (.int (jn 60 (g ((t - 1) - 1)) (g (t - 1))))) (h' := mk (upA M 71 g) T) (pc' := 148) (st' := [.int (jn 60 (g ((t - 1) - 1)) (g (t - 1))), .int (nI ((t - 1) - 1)), .ref 74]) rfl rfl rfl rfl rfl rfl (m_twoOf_60) ?_
    refine R_iast (c := 71) (n := 60) (j := (t - 1) - 1) rfl rfl (by omega) (by decide) ?_
    refine R_go 1 (pc' := 152) (L' := [some (.ref 64), some (.int 277), some (.int (nI (t - 1))), some (.int ((nI i) + 1)), some (.int 60)]) (st' := []) (h' := mk (up (upA M 71 g) 71 ((t - 1) - 1) (jn 60 (g ((t - 1) - 1)) (g (t - 1)))) T) (fun _ => rfl) ?_
    rw [nI_1]
    refine R_go 1 (pc' := 4) (L' := [some (.ref 64), some (.int 277), some (.int (nI (t - 1))), some (.int (nI (i + 1))), some (.int 60)]) (st' := []) (h' := mk (up (upA M 71 g) 71 ((t - 1) - 1) (jn 60 (g ((t - 1) - 1)) (g (t - 1)))) T) (fun _ => rfl) ?_
    rw [up_upA, show t - 1 - 1 = t - 2 by omega]
    exact k1
set_option maxRecDepth 100000 in
set_option maxHeartbeats 4000000 in
theorem v277_sig_61 {ro : xRO} {d : Nat} {M : xM} {T : Nat} {Q : Option Value → xH → Prop} {g : Nat → Int32} {t i k : Nat} {w : Option Value} (hk : M 62 277 = nI k) (k60 : k ≤ 60) (hi : i < k) (hs : M 62 (278 + i) = 61) (t2 : 2 ≤ t) (t60 : t ≤ 60) (k1 : Rn ro (d + 2) M_X8_works 4 [some (.ref 64), some (.int 277), some (.int (nI (t - 1))), some (.int (nI (i + 1))), some (.int 61)] [] (mk (upA M 71 (upd g (t - 2) (jn 61 (g (t - 2)) (g (t - 1))))) T) Q) : Rn ro (d + 2) M_X8_works 4 [some (.ref 64), some (.int 277), some (.int (nI t)), some (.int (nI i)), w] [] (mk (upA M 71 g) T) Q := by
  refine R_go 5 (pc' := 11) (L' := [some (.ref 64), some (.int 277), some (.int (nI t)), some (.int (nI i)), w]) (st' := [.int ((upA M 71 g) 62 277), .int (nI i)]) (h' := mk (upA M 71 g) T) (fun _ => rfl) ?_
  refine R_top (y := nI k) (hk) ?_
  refine R_if 1 (c := (nI k) ≤ (nI i)) (t := 155) (f := 14) (L' := [some (.ref 64), some (.int 277), some (.int (nI t)), some (.int (nI i)), w]) (st' := []) (h' := mk (upA M 71 g) T) (fun _ => rfl) (fun g1 => ?_) (fun g1 => ?_)
  · replace g1 : k ≤ i := (nI_leI (a := k) (b := i) (by omega) (by omega)).mp g1
    omega
  · replace g1 : ¬ k ≤ i := fun q => g1 ((nI_leI (a := k) (b := i) (by omega) (by omega)).mpr q)
    refine R_go 7 (pc' := 23) (L' := [some (.ref 64), some (.int 277), some (.int (nI t)), some (.int (nI i)), w]) (st' := [.int (278 + nI i), .ref 65]) (h' := mk (upA M 71 g) T) (fun _ => rfl) ?_
    refine R_top (nI_add 278 i) ?_
    refine R_iald (c := 62) (n := 398) (j := 278 + i) rfl rfl (by omega) (by decide) ?_
    refine R_top (y := 61) (hs) ?_
    refine R_go 10 (pc' := 119) (L' := [some (.ref 64), some (.int 277), some (.int (nI t)), some (.int (nI i)), some (.int 61)]) (st' := []) (h' := mk (upA M 71 g) T) (fun _ => rfl) ?_
    refine R_stp (i := .iinc 2 (-1)) (len := 3) (pc' := 122) (L' := [some (.ref 64), some (.int 277), some (.int ((nI t) + -1)), some (.int (nI i)), some (.int 61)]) (st' := []) (h' := mk (upA M 71 g) T) rfl rfl rfl rfl rfl ?_
    rw [nI_m1 (t := t) (by omega)]
    refine R_go 5 (pc' := 129) (L' := [some (.ref 64), some (.int 277), some (.int (nI (t - 1))), some (.int (nI i)), some (.int 61)]) (st' := [.int (nI (t - 1) - 1), .ref 74]) (h' := mk (upA M 71 g) T) (fun _ => rfl) ?_
    refine R_top (pk_sub (a := t - 1) (b := 1) (by omega)) ?_
    refine R_go 6 (pc' := 138) (L' := [some (.ref 64), some (.int 277), some (.int (nI (t - 1))), some (.int (nI i)), some (.int 61)]) (st' := [.int (nI (t - 1) - 1), .ref 74, .int 61, .int (nI ((t - 1) - 1)), .ref 74]) (h' := mk (upA M 71 g) T) (fun _ => rfl) ?_
    refine R_top (pk_sub (a := t - 1) (b := 1) (by omega)) ?_
    refine R_iald (c := 71) (n := 60) (j := (t - 1) - 1) rfl rfl (by omega) (by decide) ?_
    refine R_top (y := g ((t - 1) - 1)) (congrFun upA_eq _) ?_
    refine R_go 3 (pc' := 144) (L' := [some (.ref 64), some (.int 277), some (.int (nI (t - 1))), some (.int (nI i)), some (.int 61)]) (st' := [.int (nI (t - 1)), .ref 74, .int (g ((t - 1) - 1)), .int 61, .int (nI ((t - 1) - 1)), .ref 74]) (h' := mk (upA M 71 g) T) (fun _ => rfl) ?_
    refine R_iald (c := 71) (n := 60) (j := t - 1) rfl rfl (by omega) (by decide) ?_
    refine R_top (y := g (t - 1)) (congrFun upA_eq _) ?_
    refine R_callD (i := .invokestatic 153) (kd := 1) (y := M_X8_twoOf) (as := [.int 61, .int (g ((t - 1) - 1)), .int (g (t - 1))]) (r := [.int (nI ((t - 1) - 1)), .ref 74]) (L0 := [some (.int 61), some (.int (g ((t - 1) - 1))), some (.int (g (t - 1)))]) (v := some (.int (jn 61 (g ((t - 1) - 1)) (g (t - 1))))) (h' := mk (upA M 71 g) T) (pc' := 148) (st' := [.int (jn 61 (g ((t - 1) - 1)) (g (t - 1))), .int (nI ((t - 1) - 1)), .ref 74]) rfl rfl rfl rfl rfl rfl (m_twoOf_61) ?_
    refine R_iast (c := 71) (n := 60) (j := (t - 1) - 1) rfl rfl (by omega) (by decide) ?_
    refine R_go 1 (pc' := 152) (L' := [some (.ref 64), some (.int 277), some (.int (nI (t - 1))), some (.int ((nI i) + 1)), some (.int 61)]) (st' := []) (h' := mk (up (upA M 71 g) 71 ((t - 1) - 1) (jn 61 (g ((t - 1) - 1)) (g (t - 1)))) T) (fun _ => rfl) ?_
    rw [nI_1]
    refine R_go 1 (pc' := 4) (L' := [some (.ref 64), some (.int 277), some (.int (nI (t - 1))), some (.int (nI (i + 1))), some (.int 61)]) (st' := []) (h' := mk (up (upA M 71 g) 71 ((t - 1) - 1) (jn 61 (g ((t - 1) - 1)) (g (t - 1)))) T) (fun _ => rfl) ?_
    rw [up_upA, show t - 1 - 1 = t - 2 by omega]
    exact k1
set_option maxRecDepth 100000 in
set_option maxHeartbeats 4000000 in
theorem v277_sig_62 {ro : xRO} {d : Nat} {M : xM} {T : Nat} {Q : Option Value → xH → Prop} {g : Nat → Int32} {t i k : Nat} {w : Option Value} (hk : M 62 277 = nI k) (k60 : k ≤ 60) (hi : i < k) (hs : M 62 (278 + i) = 62) (t2 : 2 ≤ t) (t60 : t ≤ 60) (k1 : Rn ro (d + 2) M_X8_works 4 [some (.ref 64), some (.int 277), some (.int (nI (t - 1))), some (.int (nI (i + 1))), some (.int 62)] [] (mk (upA M 71 (upd g (t - 2) (jn 62 (g (t - 2)) (g (t - 1))))) T) Q) : Rn ro (d + 2) M_X8_works 4 [some (.ref 64), some (.int 277), some (.int (nI t)), some (.int (nI i)), w] [] (mk (upA M 71 g) T) Q := by
  refine R_go 5 (pc' := 11) (L' := [some (.ref 64), some (.int 277), some (.int (nI t)), some (.int (nI i)), w]) (st' := [.int ((upA M 71 g) 62 277), .int (nI i)]) (h' := mk (upA M 71 g) T) (fun _ => rfl) ?_
  refine R_top (y := nI k) (hk) ?_
  refine R_if 1 (c := (nI k) ≤ (nI i)) (t := 155) (f := 14) (L' := [some (.ref 64), some (.int 277), some (.int (nI t)), some (.int (nI i)), w]) (st' := []) (h' := mk (upA M 71 g) T) (fun _ => rfl) (fun g1 => ?_) (fun g1 => ?_)
  · replace g1 : k ≤ i := (nI_leI (a := k) (b := i) (by omega) (by omega)).mp g1
    omega
  · replace g1 : ¬ k ≤ i := fun q => g1 ((nI_leI (a := k) (b := i) (by omega) (by omega)).mpr q)
    refine R_go 7 (pc' := 23) (L' := [some (.ref 64), some (.int 277), some (.int (nI t)), some (.int (nI i)), w]) (st' := [.int (278 + nI i), .ref 65]) (h' := mk (upA M 71 g) T) (fun _ => rfl) ?_
    refine R_top (nI_add 278 i) ?_
    refine R_iald (c := 62) (n := 398) (j := 278 + i) rfl rfl (by omega) (by decide) ?_
    refine R_top (y := 62) (hs) ?_
    refine R_go 10 (pc' := 119) (L' := [some (.ref 64), some (.int 277), some (.int (nI t)), some (.int (nI i)), some (.int 62)]) (st' := []) (h' := mk (upA M 71 g) T) (fun _ => rfl) ?_
    refine R_stp (i := .iinc 2 (-1)) (len := 3) (pc' := 122) (L' := [some (.ref 64), some (.int 277), some (.int ((nI t) + -1)), some (.int (nI i)), some (.int 62)]) (st' := []) (h' := mk (upA M 71 g) T) rfl rfl rfl rfl rfl ?_
    rw [nI_m1 (t := t) (by omega)]
    refine R_go 5 (pc' := 129) (L' := [some (.ref 64), some (.int 277), some (.int (nI (t - 1))), some (.int (nI i)), some (.int 62)]) (st' := [.int (nI (t - 1) - 1), .ref 74]) (h' := mk (upA M 71 g) T) (fun _ => rfl) ?_
    refine R_top (pk_sub (a := t - 1) (b := 1) (by omega)) ?_
    refine R_go 6 (pc' := 138) (L' := [some (.ref 64), some (.int 277), some (.int (nI (t - 1))), some (.int (nI i)), some (.int 62)]) (st' := [.int (nI (t - 1) - 1), .ref 74, .int 62, .int (nI ((t - 1) - 1)), .ref 74]) (h' := mk (upA M 71 g) T) (fun _ => rfl) ?_
    refine R_top (pk_sub (a := t - 1) (b := 1) (by omega)) ?_
    refine R_iald (c := 71) (n := 60) (j := (t - 1) - 1) rfl rfl (by omega) (by decide) ?_
    refine R_top (y := g ((t - 1) - 1)) (congrFun upA_eq _) ?_
    refine R_go 3 (pc' := 144) (L' := [some (.ref 64), some (.int 277), some (.int (nI (t - 1))), some (.int (nI i)), some (.int 62)]) (st' := [.int (nI (t - 1)), .ref 74, .int (g ((t - 1) - 1)), .int 62, .int (nI ((t - 1) - 1)), .ref 74]) (h' := mk (upA M 71 g) T) (fun _ => rfl) ?_
    refine R_iald (c := 71) (n := 60) (j := t - 1) rfl rfl (by omega) (by decide) ?_
    refine R_top (y := g (t - 1)) (congrFun upA_eq _) ?_
    refine R_callD (i := .invokestatic 153) (kd := 1) (y := M_X8_twoOf) (as := [.int 62, .int (g ((t - 1) - 1)), .int (g (t - 1))]) (r := [.int (nI ((t - 1) - 1)), .ref 74]) (L0 := [some (.int 62), some (.int (g ((t - 1) - 1))), some (.int (g (t - 1)))]) (v := some (.int (jn 62 (g ((t - 1) - 1)) (g (t - 1))))) (h' := mk (upA M 71 g) T) (pc' := 148) (st' := [.int (jn 62 (g ((t - 1) - 1)) (g (t - 1))), .int (nI ((t - 1) - 1)), .ref 74]) rfl rfl rfl rfl rfl rfl (m_twoOf_62) ?_
    refine R_iast (c := 71) (n := 60) (j := (t - 1) - 1) rfl rfl (by omega) (by decide) ?_
    refine R_go 1 (pc' := 152) (L' := [some (.ref 64), some (.int 277), some (.int (nI (t - 1))), some (.int ((nI i) + 1)), some (.int 62)]) (st' := []) (h' := mk (up (upA M 71 g) 71 ((t - 1) - 1) (jn 62 (g ((t - 1) - 1)) (g (t - 1)))) T) (fun _ => rfl) ?_
    rw [nI_1]
    refine R_go 1 (pc' := 4) (L' := [some (.ref 64), some (.int 277), some (.int (nI (t - 1))), some (.int (nI (i + 1))), some (.int 62)]) (st' := []) (h' := mk (up (upA M 71 g) 71 ((t - 1) - 1) (jn 62 (g ((t - 1) - 1)) (g (t - 1)))) T) (fun _ => rfl) ?_
    rw [up_upA, show t - 1 - 1 = t - 2 by omega]
    exact k1
set_option maxRecDepth 100000 in
set_option maxHeartbeats 4000000 in
theorem v277_sig_43 {ro : xRO} {d : Nat} {M : xM} {T : Nat} {Q : Option Value → xH → Prop} {g : Nat → Int32} {t i k : Nat} {w : Option Value} (hk : M 62 277 = nI k) (k60 : k ≤ 60) (hi : i < k) (hs : M 62 (278 + i) = 43) (t2 : 2 ≤ t) (t60 : t ≤ 60) (k1 : Rn ro (d + 2) M_X8_works 4 [some (.ref 64), some (.int 277), some (.int (nI (t - 1))), some (.int (nI (i + 1))), some (.int 43)] [] (mk (upA M 71 (upd g (t - 2) (jn 43 (g (t - 2)) (g (t - 1))))) T) Q) : Rn ro (d + 2) M_X8_works 4 [some (.ref 64), some (.int 277), some (.int (nI t)), some (.int (nI i)), w] [] (mk (upA M 71 g) T) Q := by
  refine R_go 5 (pc' := 11) (L' := [some (.ref 64), some (.int 277), some (.int (nI t)), some (.int (nI i)), w]) (st' := [.int ((upA M 71 g) 62 277), .int (nI i)]) (h' := mk (upA M 71 g) T) (fun _ => rfl) ?_
  refine R_top (y := nI k) (hk) ?_
  refine R_if 1 (c := (nI k) ≤ (nI i)) (t := 155) (f := 14) (L' := [some (.ref 64), some (.int 277), some (.int (nI t)), some (.int (nI i)), w]) (st' := []) (h' := mk (upA M 71 g) T) (fun _ => rfl) (fun g1 => ?_) (fun g1 => ?_)
  · replace g1 : k ≤ i := (nI_leI (a := k) (b := i) (by omega) (by omega)).mp g1
    omega
  · replace g1 : ¬ k ≤ i := fun q => g1 ((nI_leI (a := k) (b := i) (by omega) (by omega)).mpr q)
    refine R_go 7 (pc' := 23) (L' := [some (.ref 64), some (.int 277), some (.int (nI t)), some (.int (nI i)), w]) (st' := [.int (278 + nI i), .ref 65]) (h' := mk (upA M 71 g) T) (fun _ => rfl) ?_
    refine R_top (nI_add 278 i) ?_
    refine R_iald (c := 62) (n := 398) (j := 278 + i) rfl rfl (by omega) (by decide) ?_
    refine R_top (y := 43) (hs) ?_
    refine R_go 10 (pc' := 119) (L' := [some (.ref 64), some (.int 277), some (.int (nI t)), some (.int (nI i)), some (.int 43)]) (st' := []) (h' := mk (upA M 71 g) T) (fun _ => rfl) ?_
    refine R_stp (i := .iinc 2 (-1)) (len := 3) (pc' := 122) (L' := [some (.ref 64), some (.int 277), some (.int ((nI t) + -1)), some (.int (nI i)), some (.int 43)]) (st' := []) (h' := mk (upA M 71 g) T) rfl rfl rfl rfl rfl ?_
    rw [nI_m1 (t := t) (by omega)]
    refine R_go 5 (pc' := 129) (L' := [some (.ref 64), some (.int 277), some (.int (nI (t - 1))), some (.int (nI i)), some (.int 43)]) (st' := [.int (nI (t - 1) - 1), .ref 74]) (h' := mk (upA M 71 g) T) (fun _ => rfl) ?_
    refine R_top (pk_sub (a := t - 1) (b := 1) (by omega)) ?_
    refine R_go 6 (pc' := 138) (L' := [some (.ref 64), some (.int 277), some (.int (nI (t - 1))), some (.int (nI i)), some (.int 43)]) (st' := [.int (nI (t - 1) - 1), .ref 74, .int 43, .int (nI ((t - 1) - 1)), .ref 74]) (h' := mk (upA M 71 g) T) (fun _ => rfl) ?_
    refine R_top (pk_sub (a := t - 1) (b := 1) (by omega)) ?_
    refine R_iald (c := 71) (n := 60) (j := (t - 1) - 1) rfl rfl (by omega) (by decide) ?_
    refine R_top (y := g ((t - 1) - 1)) (congrFun upA_eq _) ?_
    refine R_go 3 (pc' := 144) (L' := [some (.ref 64), some (.int 277), some (.int (nI (t - 1))), some (.int (nI i)), some (.int 43)]) (st' := [.int (nI (t - 1)), .ref 74, .int (g ((t - 1) - 1)), .int 43, .int (nI ((t - 1) - 1)), .ref 74]) (h' := mk (upA M 71 g) T) (fun _ => rfl) ?_
    refine R_iald (c := 71) (n := 60) (j := t - 1) rfl rfl (by omega) (by decide) ?_
    refine R_top (y := g (t - 1)) (congrFun upA_eq _) ?_
    refine R_callD (i := .invokestatic 153) (kd := 1) (y := M_X8_twoOf) (as := [.int 43, .int (g ((t - 1) - 1)), .int (g (t - 1))]) (r := [.int (nI ((t - 1) - 1)), .ref 74]) (L0 := [some (.int 43), some (.int (g ((t - 1) - 1))), some (.int (g (t - 1)))]) (v := some (.int (jn 43 (g ((t - 1) - 1)) (g (t - 1))))) (h' := mk (upA M 71 g) T) (pc' := 148) (st' := [.int (jn 43 (g ((t - 1) - 1)) (g (t - 1))), .int (nI ((t - 1) - 1)), .ref 74]) rfl rfl rfl rfl rfl rfl (m_twoOf_43) ?_
    refine R_iast (c := 71) (n := 60) (j := (t - 1) - 1) rfl rfl (by omega) (by decide) ?_
    refine R_go 1 (pc' := 152) (L' := [some (.ref 64), some (.int 277), some (.int (nI (t - 1))), some (.int ((nI i) + 1)), some (.int 43)]) (st' := []) (h' := mk (up (upA M 71 g) 71 ((t - 1) - 1) (jn 43 (g ((t - 1) - 1)) (g (t - 1)))) T) (fun _ => rfl) ?_
    rw [nI_1]
    refine R_go 1 (pc' := 4) (L' := [some (.ref 64), some (.int 277), some (.int (nI (t - 1))), some (.int (nI (i + 1))), some (.int 43)]) (st' := []) (h' := mk (up (upA M 71 g) 71 ((t - 1) - 1) (jn 43 (g ((t - 1) - 1)) (g (t - 1)))) T) (fun _ => rfl) ?_
    rw [up_upA, show t - 1 - 1 = t - 2 by omega]
    exact k1
set_option maxRecDepth 100000 in
set_option maxHeartbeats 4000000 in
theorem v277_sig_45 {ro : xRO} {d : Nat} {M : xM} {T : Nat} {Q : Option Value → xH → Prop} {g : Nat → Int32} {t i k : Nat} {w : Option Value} (hk : M 62 277 = nI k) (k60 : k ≤ 60) (hi : i < k) (hs : M 62 (278 + i) = 45) (t2 : 2 ≤ t) (t60 : t ≤ 60) (k1 : Rn ro (d + 2) M_X8_works 4 [some (.ref 64), some (.int 277), some (.int (nI (t - 1))), some (.int (nI (i + 1))), some (.int 45)] [] (mk (upA M 71 (upd g (t - 2) (jn 45 (g (t - 2)) (g (t - 1))))) T) Q) : Rn ro (d + 2) M_X8_works 4 [some (.ref 64), some (.int 277), some (.int (nI t)), some (.int (nI i)), w] [] (mk (upA M 71 g) T) Q := by
  refine R_go 5 (pc' := 11) (L' := [some (.ref 64), some (.int 277), some (.int (nI t)), some (.int (nI i)), w]) (st' := [.int ((upA M 71 g) 62 277), .int (nI i)]) (h' := mk (upA M 71 g) T) (fun _ => rfl) ?_
  refine R_top (y := nI k) (hk) ?_
  refine R_if 1 (c := (nI k) ≤ (nI i)) (t := 155) (f := 14) (L' := [some (.ref 64), some (.int 277), some (.int (nI t)), some (.int (nI i)), w]) (st' := []) (h' := mk (upA M 71 g) T) (fun _ => rfl) (fun g1 => ?_) (fun g1 => ?_)
  · replace g1 : k ≤ i := (nI_leI (a := k) (b := i) (by omega) (by omega)).mp g1
    omega
  · replace g1 : ¬ k ≤ i := fun q => g1 ((nI_leI (a := k) (b := i) (by omega) (by omega)).mpr q)
    refine R_go 7 (pc' := 23) (L' := [some (.ref 64), some (.int 277), some (.int (nI t)), some (.int (nI i)), w]) (st' := [.int (278 + nI i), .ref 65]) (h' := mk (upA M 71 g) T) (fun _ => rfl) ?_
    refine R_top (nI_add 278 i) ?_
    refine R_iald (c := 62) (n := 398) (j := 278 + i) rfl rfl (by omega) (by decide) ?_
    refine R_top (y := 45) (hs) ?_
    refine R_go 10 (pc' := 119) (L' := [some (.ref 64), some (.int 277), some (.int (nI t)), some (.int (nI i)), some (.int 45)]) (st' := []) (h' := mk (upA M 71 g) T) (fun _ => rfl) ?_
    refine R_stp (i := .iinc 2 (-1)) (len := 3) (pc' := 122) (L' := [some (.ref 64), some (.int 277), some (.int ((nI t) + -1)), some (.int (nI i)), some (.int 45)]) (st' := []) (h' := mk (upA M 71 g) T) rfl rfl rfl rfl rfl ?_
    rw [nI_m1 (t := t) (by omega)]
    refine R_go 5 (pc' := 129) (L' := [some (.ref 64), some (.int 277), some (.int (nI (t - 1))), some (.int (nI i)), some (.int 45)]) (st' := [.int (nI (t - 1) - 1), .ref 74]) (h' := mk (upA M 71 g) T) (fun _ => rfl) ?_
    refine R_top (pk_sub (a := t - 1) (b := 1) (by omega)) ?_
    refine R_go 6 (pc' := 138) (L' := [some (.ref 64), some (.int 277), some (.int (nI (t - 1))), some (.int (nI i)), some (.int 45)]) (st' := [.int (nI (t - 1) - 1), .ref 74, .int 45, .int (nI ((t - 1) - 1)), .ref 74]) (h' := mk (upA M 71 g) T) (fun _ => rfl) ?_
    refine R_top (pk_sub (a := t - 1) (b := 1) (by omega)) ?_
    refine R_iald (c := 71) (n := 60) (j := (t - 1) - 1) rfl rfl (by omega) (by decide) ?_
    refine R_top (y := g ((t - 1) - 1)) (congrFun upA_eq _) ?_
    refine R_go 3 (pc' := 144) (L' := [some (.ref 64), some (.int 277), some (.int (nI (t - 1))), some (.int (nI i)), some (.int 45)]) (st' := [.int (nI (t - 1)), .ref 74, .int (g ((t - 1) - 1)), .int 45, .int (nI ((t - 1) - 1)), .ref 74]) (h' := mk (upA M 71 g) T) (fun _ => rfl) ?_
    refine R_iald (c := 71) (n := 60) (j := t - 1) rfl rfl (by omega) (by decide) ?_
    refine R_top (y := g (t - 1)) (congrFun upA_eq _) ?_
    refine R_callD (i := .invokestatic 153) (kd := 1) (y := M_X8_twoOf) (as := [.int 45, .int (g ((t - 1) - 1)), .int (g (t - 1))]) (r := [.int (nI ((t - 1) - 1)), .ref 74]) (L0 := [some (.int 45), some (.int (g ((t - 1) - 1))), some (.int (g (t - 1)))]) (v := some (.int (jn 45 (g ((t - 1) - 1)) (g (t - 1))))) (h' := mk (upA M 71 g) T) (pc' := 148) (st' := [.int (jn 45 (g ((t - 1) - 1)) (g (t - 1))), .int (nI ((t - 1) - 1)), .ref 74]) rfl rfl rfl rfl rfl rfl (m_twoOf_45) ?_
    refine R_iast (c := 71) (n := 60) (j := (t - 1) - 1) rfl rfl (by omega) (by decide) ?_
    refine R_go 1 (pc' := 152) (L' := [some (.ref 64), some (.int 277), some (.int (nI (t - 1))), some (.int ((nI i) + 1)), some (.int 45)]) (st' := []) (h' := mk (up (upA M 71 g) 71 ((t - 1) - 1) (jn 45 (g ((t - 1) - 1)) (g (t - 1)))) T) (fun _ => rfl) ?_
    rw [nI_1]
    refine R_go 1 (pc' := 4) (L' := [some (.ref 64), some (.int 277), some (.int (nI (t - 1))), some (.int (nI (i + 1))), some (.int 45)]) (st' := []) (h' := mk (up (upA M 71 g) 71 ((t - 1) - 1) (jn 45 (g ((t - 1) - 1)) (g (t - 1)))) T) (fun _ => rfl) ?_
    rw [up_upA, show t - 1 - 1 = t - 2 by omega]
    exact k1
set_option maxRecDepth 100000 in
set_option maxHeartbeats 4000000 in
theorem v277_sig_42 {ro : xRO} {d : Nat} {M : xM} {T : Nat} {Q : Option Value → xH → Prop} {g : Nat → Int32} {t i k : Nat} {w : Option Value} (hk : M 62 277 = nI k) (k60 : k ≤ 60) (hi : i < k) (hs : M 62 (278 + i) = 42) (t2 : 2 ≤ t) (t60 : t ≤ 60) (k1 : Rn ro (d + 2) M_X8_works 4 [some (.ref 64), some (.int 277), some (.int (nI (t - 1))), some (.int (nI (i + 1))), some (.int 42)] [] (mk (upA M 71 (upd g (t - 2) (jn 42 (g (t - 2)) (g (t - 1))))) T) Q) : Rn ro (d + 2) M_X8_works 4 [some (.ref 64), some (.int 277), some (.int (nI t)), some (.int (nI i)), w] [] (mk (upA M 71 g) T) Q := by
  refine R_go 5 (pc' := 11) (L' := [some (.ref 64), some (.int 277), some (.int (nI t)), some (.int (nI i)), w]) (st' := [.int ((upA M 71 g) 62 277), .int (nI i)]) (h' := mk (upA M 71 g) T) (fun _ => rfl) ?_
  refine R_top (y := nI k) (hk) ?_
  refine R_if 1 (c := (nI k) ≤ (nI i)) (t := 155) (f := 14) (L' := [some (.ref 64), some (.int 277), some (.int (nI t)), some (.int (nI i)), w]) (st' := []) (h' := mk (upA M 71 g) T) (fun _ => rfl) (fun g1 => ?_) (fun g1 => ?_)
  · replace g1 : k ≤ i := (nI_leI (a := k) (b := i) (by omega) (by omega)).mp g1
    omega
  · replace g1 : ¬ k ≤ i := fun q => g1 ((nI_leI (a := k) (b := i) (by omega) (by omega)).mpr q)
    refine R_go 7 (pc' := 23) (L' := [some (.ref 64), some (.int 277), some (.int (nI t)), some (.int (nI i)), w]) (st' := [.int (278 + nI i), .ref 65]) (h' := mk (upA M 71 g) T) (fun _ => rfl) ?_
    refine R_top (nI_add 278 i) ?_
    refine R_iald (c := 62) (n := 398) (j := 278 + i) rfl rfl (by omega) (by decide) ?_
    refine R_top (y := 42) (hs) ?_
    refine R_go 10 (pc' := 119) (L' := [some (.ref 64), some (.int 277), some (.int (nI t)), some (.int (nI i)), some (.int 42)]) (st' := []) (h' := mk (upA M 71 g) T) (fun _ => rfl) ?_
    refine R_stp (i := .iinc 2 (-1)) (len := 3) (pc' := 122) (L' := [some (.ref 64), some (.int 277), some (.int ((nI t) + -1)), some (.int (nI i)), some (.int 42)]) (st' := []) (h' := mk (upA M 71 g) T) rfl rfl rfl rfl rfl ?_
    rw [nI_m1 (t := t) (by omega)]
    refine R_go 5 (pc' := 129) (L' := [some (.ref 64), some (.int 277), some (.int (nI (t - 1))), some (.int (nI i)), some (.int 42)]) (st' := [.int (nI (t - 1) - 1), .ref 74]) (h' := mk (upA M 71 g) T) (fun _ => rfl) ?_
    refine R_top (pk_sub (a := t - 1) (b := 1) (by omega)) ?_
    refine R_go 6 (pc' := 138) (L' := [some (.ref 64), some (.int 277), some (.int (nI (t - 1))), some (.int (nI i)), some (.int 42)]) (st' := [.int (nI (t - 1) - 1), .ref 74, .int 42, .int (nI ((t - 1) - 1)), .ref 74]) (h' := mk (upA M 71 g) T) (fun _ => rfl) ?_
    refine R_top (pk_sub (a := t - 1) (b := 1) (by omega)) ?_
    refine R_iald (c := 71) (n := 60) (j := (t - 1) - 1) rfl rfl (by omega) (by decide) ?_
    refine R_top (y := g ((t - 1) - 1)) (congrFun upA_eq _) ?_
    refine R_go 3 (pc' := 144) (L' := [some (.ref 64), some (.int 277), some (.int (nI (t - 1))), some (.int (nI i)), some (.int 42)]) (st' := [.int (nI (t - 1)), .ref 74, .int (g ((t - 1) - 1)), .int 42, .int (nI ((t - 1) - 1)), .ref 74]) (h' := mk (upA M 71 g) T) (fun _ => rfl) ?_
    refine R_iald (c := 71) (n := 60) (j := t - 1) rfl rfl (by omega) (by decide) ?_
    refine R_top (y := g (t - 1)) (congrFun upA_eq _) ?_
    refine R_callD (i := .invokestatic 153) (kd := 1) (y := M_X8_twoOf) (as := [.int 42, .int (g ((t - 1) - 1)), .int (g (t - 1))]) (r := [.int (nI ((t - 1) - 1)), .ref 74]) (L0 := [some (.int 42), some (.int (g ((t - 1) - 1))), some (.int (g (t - 1)))]) (v := some (.int (jn 42 (g ((t - 1) - 1)) (g (t - 1))))) (h' := mk (upA M 71 g) T) (pc' := 148) (st' := [.int (jn 42 (g ((t - 1) - 1)) (g (t - 1))), .int (nI ((t - 1) - 1)), .ref 74]) rfl rfl rfl rfl rfl rfl (m_twoOf_42) ?_
    refine R_iast (c := 71) (n := 60) (j := (t - 1) - 1) rfl rfl (by omega) (by decide) ?_
    refine R_go 1 (pc' := 152) (L' := [some (.ref 64), some (.int 277), some (.int (nI (t - 1))), some (.int ((nI i) + 1)), some (.int 42)]) (st' := []) (h' := mk (up (upA M 71 g) 71 ((t - 1) - 1) (jn 42 (g ((t - 1) - 1)) (g (t - 1)))) T) (fun _ => rfl) ?_
    rw [nI_1]
    refine R_go 1 (pc' := 4) (L' := [some (.ref 64), some (.int 277), some (.int (nI (t - 1))), some (.int (nI (i + 1))), some (.int 42)]) (st' := []) (h' := mk (up (upA M 71 g) 71 ((t - 1) - 1) (jn 42 (g ((t - 1) - 1)) (g (t - 1)))) T) (fun _ => rfl) ?_
    rw [up_upA, show t - 1 - 1 = t - 2 by omega]
    exact k1
set_option maxRecDepth 100000 in
set_option maxHeartbeats 4000000 in
theorem v277_sig_47 {ro : xRO} {d : Nat} {M : xM} {T : Nat} {Q : Option Value → xH → Prop} {g : Nat → Int32} {t i k : Nat} {w : Option Value} (hk : M 62 277 = nI k) (k60 : k ≤ 60) (hi : i < k) (hs : M 62 (278 + i) = 47) (t2 : 2 ≤ t) (t60 : t ≤ 60) (k1 : Rn ro (d + 2) M_X8_works 4 [some (.ref 64), some (.int 277), some (.int (nI (t - 1))), some (.int (nI (i + 1))), some (.int 47)] [] (mk (upA M 71 (upd g (t - 2) (jn 47 (g (t - 2)) (g (t - 1))))) T) Q) : Rn ro (d + 2) M_X8_works 4 [some (.ref 64), some (.int 277), some (.int (nI t)), some (.int (nI i)), w] [] (mk (upA M 71 g) T) Q := by
  refine R_go 5 (pc' := 11) (L' := [some (.ref 64), some (.int 277), some (.int (nI t)), some (.int (nI i)), w]) (st' := [.int ((upA M 71 g) 62 277), .int (nI i)]) (h' := mk (upA M 71 g) T) (fun _ => rfl) ?_
  refine R_top (y := nI k) (hk) ?_
  refine R_if 1 (c := (nI k) ≤ (nI i)) (t := 155) (f := 14) (L' := [some (.ref 64), some (.int 277), some (.int (nI t)), some (.int (nI i)), w]) (st' := []) (h' := mk (upA M 71 g) T) (fun _ => rfl) (fun g1 => ?_) (fun g1 => ?_)
  · replace g1 : k ≤ i := (nI_leI (a := k) (b := i) (by omega) (by omega)).mp g1
    omega
  · replace g1 : ¬ k ≤ i := fun q => g1 ((nI_leI (a := k) (b := i) (by omega) (by omega)).mpr q)
    refine R_go 7 (pc' := 23) (L' := [some (.ref 64), some (.int 277), some (.int (nI t)), some (.int (nI i)), w]) (st' := [.int (278 + nI i), .ref 65]) (h' := mk (upA M 71 g) T) (fun _ => rfl) ?_
    refine R_top (nI_add 278 i) ?_
    refine R_iald (c := 62) (n := 398) (j := 278 + i) rfl rfl (by omega) (by decide) ?_
    refine R_top (y := 47) (hs) ?_
    refine R_go 10 (pc' := 119) (L' := [some (.ref 64), some (.int 277), some (.int (nI t)), some (.int (nI i)), some (.int 47)]) (st' := []) (h' := mk (upA M 71 g) T) (fun _ => rfl) ?_
    refine R_stp (i := .iinc 2 (-1)) (len := 3) (pc' := 122) (L' := [some (.ref 64), some (.int 277), some (.int ((nI t) + -1)), some (.int (nI i)), some (.int 47)]) (st' := []) (h' := mk (upA M 71 g) T) rfl rfl rfl rfl rfl ?_
    rw [nI_m1 (t := t) (by omega)]
    refine R_go 5 (pc' := 129) (L' := [some (.ref 64), some (.int 277), some (.int (nI (t - 1))), some (.int (nI i)), some (.int 47)]) (st' := [.int (nI (t - 1) - 1), .ref 74]) (h' := mk (upA M 71 g) T) (fun _ => rfl) ?_
    refine R_top (pk_sub (a := t - 1) (b := 1) (by omega)) ?_
    refine R_go 6 (pc' := 138) (L' := [some (.ref 64), some (.int 277), some (.int (nI (t - 1))), some (.int (nI i)), some (.int 47)]) (st' := [.int (nI (t - 1) - 1), .ref 74, .int 47, .int (nI ((t - 1) - 1)), .ref 74]) (h' := mk (upA M 71 g) T) (fun _ => rfl) ?_
    refine R_top (pk_sub (a := t - 1) (b := 1) (by omega)) ?_
    refine R_iald (c := 71) (n := 60) (j := (t - 1) - 1) rfl rfl (by omega) (by decide) ?_
    refine R_top (y := g ((t - 1) - 1)) (congrFun upA_eq _) ?_
    refine R_go 3 (pc' := 144) (L' := [some (.ref 64), some (.int 277), some (.int (nI (t - 1))), some (.int (nI i)), some (.int 47)]) (st' := [.int (nI (t - 1)), .ref 74, .int (g ((t - 1) - 1)), .int 47, .int (nI ((t - 1) - 1)), .ref 74]) (h' := mk (upA M 71 g) T) (fun _ => rfl) ?_
    refine R_iald (c := 71) (n := 60) (j := t - 1) rfl rfl (by omega) (by decide) ?_
    refine R_top (y := g (t - 1)) (congrFun upA_eq _) ?_
    refine R_callD (i := .invokestatic 153) (kd := 1) (y := M_X8_twoOf) (as := [.int 47, .int (g ((t - 1) - 1)), .int (g (t - 1))]) (r := [.int (nI ((t - 1) - 1)), .ref 74]) (L0 := [some (.int 47), some (.int (g ((t - 1) - 1))), some (.int (g (t - 1)))]) (v := some (.int (jn 47 (g ((t - 1) - 1)) (g (t - 1))))) (h' := mk (upA M 71 g) T) (pc' := 148) (st' := [.int (jn 47 (g ((t - 1) - 1)) (g (t - 1))), .int (nI ((t - 1) - 1)), .ref 74]) rfl rfl rfl rfl rfl rfl (m_twoOf_47) ?_
    refine R_iast (c := 71) (n := 60) (j := (t - 1) - 1) rfl rfl (by omega) (by decide) ?_
    refine R_go 1 (pc' := 152) (L' := [some (.ref 64), some (.int 277), some (.int (nI (t - 1))), some (.int ((nI i) + 1)), some (.int 47)]) (st' := []) (h' := mk (up (upA M 71 g) 71 ((t - 1) - 1) (jn 47 (g ((t - 1) - 1)) (g (t - 1)))) T) (fun _ => rfl) ?_
    rw [nI_1]
    refine R_go 1 (pc' := 4) (L' := [some (.ref 64), some (.int 277), some (.int (nI (t - 1))), some (.int (nI (i + 1))), some (.int 47)]) (st' := []) (h' := mk (up (upA M 71 g) 71 ((t - 1) - 1) (jn 47 (g ((t - 1) - 1)) (g (t - 1)))) T) (fun _ => rfl) ?_
    rw [up_upA, show t - 1 - 1 = t - 2 by omega]
    exact k1
set_option maxRecDepth 100000 in
set_option maxHeartbeats 4000000 in
theorem v277_sig_37 {ro : xRO} {d : Nat} {M : xM} {T : Nat} {Q : Option Value → xH → Prop} {g : Nat → Int32} {t i k : Nat} {w : Option Value} (hk : M 62 277 = nI k) (k60 : k ≤ 60) (hi : i < k) (hs : M 62 (278 + i) = 37) (t2 : 2 ≤ t) (t60 : t ≤ 60) (k1 : Rn ro (d + 2) M_X8_works 4 [some (.ref 64), some (.int 277), some (.int (nI (t - 1))), some (.int (nI (i + 1))), some (.int 37)] [] (mk (upA M 71 (upd g (t - 2) (jn 37 (g (t - 2)) (g (t - 1))))) T) Q) : Rn ro (d + 2) M_X8_works 4 [some (.ref 64), some (.int 277), some (.int (nI t)), some (.int (nI i)), w] [] (mk (upA M 71 g) T) Q := by
  refine R_go 5 (pc' := 11) (L' := [some (.ref 64), some (.int 277), some (.int (nI t)), some (.int (nI i)), w]) (st' := [.int ((upA M 71 g) 62 277), .int (nI i)]) (h' := mk (upA M 71 g) T) (fun _ => rfl) ?_
  refine R_top (y := nI k) (hk) ?_
  refine R_if 1 (c := (nI k) ≤ (nI i)) (t := 155) (f := 14) (L' := [some (.ref 64), some (.int 277), some (.int (nI t)), some (.int (nI i)), w]) (st' := []) (h' := mk (upA M 71 g) T) (fun _ => rfl) (fun g1 => ?_) (fun g1 => ?_)
  · replace g1 : k ≤ i := (nI_leI (a := k) (b := i) (by omega) (by omega)).mp g1
    omega
  · replace g1 : ¬ k ≤ i := fun q => g1 ((nI_leI (a := k) (b := i) (by omega) (by omega)).mpr q)
    refine R_go 7 (pc' := 23) (L' := [some (.ref 64), some (.int 277), some (.int (nI t)), some (.int (nI i)), w]) (st' := [.int (278 + nI i), .ref 65]) (h' := mk (upA M 71 g) T) (fun _ => rfl) ?_
    refine R_top (nI_add 278 i) ?_
    refine R_iald (c := 62) (n := 398) (j := 278 + i) rfl rfl (by omega) (by decide) ?_
    refine R_top (y := 37) (hs) ?_
    refine R_go 10 (pc' := 119) (L' := [some (.ref 64), some (.int 277), some (.int (nI t)), some (.int (nI i)), some (.int 37)]) (st' := []) (h' := mk (upA M 71 g) T) (fun _ => rfl) ?_
    refine R_stp (i := .iinc 2 (-1)) (len := 3) (pc' := 122) (L' := [some (.ref 64), some (.int 277), some (.int ((nI t) + -1)), some (.int (nI i)), some (.int 37)]) (st' := []) (h' := mk (upA M 71 g) T) rfl rfl rfl rfl rfl ?_
    rw [nI_m1 (t := t) (by omega)]
    refine R_go 5 (pc' := 129) (L' := [some (.ref 64), some (.int 277), some (.int (nI (t - 1))), some (.int (nI i)), some (.int 37)]) (st' := [.int (nI (t - 1) - 1), .ref 74]) (h' := mk (upA M 71 g) T) (fun _ => rfl) ?_
    refine R_top (pk_sub (a := t - 1) (b := 1) (by omega)) ?_
    refine R_go 6 (pc' := 138) (L' := [some (.ref 64), some (.int 277), some (.int (nI (t - 1))), some (.int (nI i)), some (.int 37)]) (st' := [.int (nI (t - 1) - 1), .ref 74, .int 37, .int (nI ((t - 1) - 1)), .ref 74]) (h' := mk (upA M 71 g) T) (fun _ => rfl) ?_
    refine R_top (pk_sub (a := t - 1) (b := 1) (by omega)) ?_
    refine R_iald (c := 71) (n := 60) (j := (t - 1) - 1) rfl rfl (by omega) (by decide) ?_
    refine R_top (y := g ((t - 1) - 1)) (congrFun upA_eq _) ?_
    refine R_go 3 (pc' := 144) (L' := [some (.ref 64), some (.int 277), some (.int (nI (t - 1))), some (.int (nI i)), some (.int 37)]) (st' := [.int (nI (t - 1)), .ref 74, .int (g ((t - 1) - 1)), .int 37, .int (nI ((t - 1) - 1)), .ref 74]) (h' := mk (upA M 71 g) T) (fun _ => rfl) ?_
    refine R_iald (c := 71) (n := 60) (j := t - 1) rfl rfl (by omega) (by decide) ?_
    refine R_top (y := g (t - 1)) (congrFun upA_eq _) ?_
    refine R_callD (i := .invokestatic 153) (kd := 1) (y := M_X8_twoOf) (as := [.int 37, .int (g ((t - 1) - 1)), .int (g (t - 1))]) (r := [.int (nI ((t - 1) - 1)), .ref 74]) (L0 := [some (.int 37), some (.int (g ((t - 1) - 1))), some (.int (g (t - 1)))]) (v := some (.int (jn 37 (g ((t - 1) - 1)) (g (t - 1))))) (h' := mk (upA M 71 g) T) (pc' := 148) (st' := [.int (jn 37 (g ((t - 1) - 1)) (g (t - 1))), .int (nI ((t - 1) - 1)), .ref 74]) rfl rfl rfl rfl rfl rfl (m_twoOf_37) ?_
    refine R_iast (c := 71) (n := 60) (j := (t - 1) - 1) rfl rfl (by omega) (by decide) ?_
    refine R_go 1 (pc' := 152) (L' := [some (.ref 64), some (.int 277), some (.int (nI (t - 1))), some (.int ((nI i) + 1)), some (.int 37)]) (st' := []) (h' := mk (up (upA M 71 g) 71 ((t - 1) - 1) (jn 37 (g ((t - 1) - 1)) (g (t - 1)))) T) (fun _ => rfl) ?_
    rw [nI_1]
    refine R_go 1 (pc' := 4) (L' := [some (.ref 64), some (.int 277), some (.int (nI (t - 1))), some (.int (nI (i + 1))), some (.int 37)]) (st' := []) (h' := mk (up (upA M 71 g) 71 ((t - 1) - 1) (jn 37 (g ((t - 1) - 1)) (g (t - 1)))) T) (fun _ => rfl) ?_
    rw [up_upA, show t - 1 - 1 = t - 2 by omega]
    exact k1
