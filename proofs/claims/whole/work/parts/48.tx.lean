/-! TEXTS at work -/
def jn (s : Nat) (a b : Int32) : Int32 := match s with
  | 124 => if ¬ a = 0 ∨ ¬ b = 0 then 1 else 0
  | 38 => if ¬ a = 0 ∧ ¬ b = 0 then 1 else 0
  | 60 => if a < b then 1 else 0
  | 61 => if a = b then 1 else 0
  | 62 => if b < a then 1 else 0
  | 43 => a + b
  | 45 => a - b
  | 42 => a * b
  | 47 => if b = 0 then 0 else a / b
  | _ => if b = 0 then 0 else a - a / b * b
set_option maxRecDepth 100000 in
set_option maxHeartbeats 4000000 in
theorem c_joined_124 {ro : xRO} {d : Nat} {M : xM} {T : Nat} {a b : Int32} : Rn ro d M_X6_joined 0 [some (.int 124), some (.int a), some (.int b)] [] (mk M T) (fun r h => r = some (.int (jn 124 a b)) ∧ h = mk M T) := by
  refine R_ifn 4 (c := a = 0) (t := 92) (f := 88) (L' := [some (.int 124), some (.int a), some (.int b)]) (st' := []) (h' := mk M T) (fun _ => rfl) (fun g1 => ?_) (fun g1 => ?_)
  · refine R_ret 3 (pcr := 97) (v := some (.int 1)) (h' := mk M T) (fun _ => rfl) ?_
    exact ⟨by simp only [jn]; congr 2; grind, rfl⟩
  · refine R_if 2 (c := b = 0) (t := 96) (f := 92) (L' := [some (.int 124), some (.int a), some (.int b)]) (st' := []) (h' := mk M T) (fun _ => rfl) (fun g2 => ?_) (fun g2 => ?_)
    · refine R_ret 2 (pcr := 97) (v := some (.int 0)) (h' := mk M T) (fun _ => rfl) ?_
      exact ⟨by simp only [jn]; congr 2; grind, rfl⟩
    · refine R_ret 3 (pcr := 97) (v := some (.int 1)) (h' := mk M T) (fun _ => rfl) ?_
      exact ⟨by simp only [jn]; congr 2; grind, rfl⟩
set_option maxRecDepth 100000 in
set_option maxHeartbeats 4000000 in
theorem m_twoOf_124 {ro : xRO} {d : Nat} {M : xM} {T : Nat} {a b : Int32} : Rn ro d M_X8_twoOf 0 [some (.int 124), some (.int a), some (.int b)] [] (mk M T) (fun r h => r = some (.int (jn 124 a b)) ∧ h = mk M T) := by
  refine R_ifn 4 (c := a = 0) (t := 211) (f := 207) (L' := [some (.int 124), some (.int a), some (.int b)]) (st' := []) (h' := mk M T) (fun _ => rfl) (fun g1 => ?_) (fun g1 => ?_)
  · refine R_ret 3 (pcr := 216) (v := some (.int 1)) (h' := mk M T) (fun _ => rfl) ?_
    exact ⟨by simp only [jn]; congr 2; grind, rfl⟩
  · refine R_if 2 (c := b = 0) (t := 215) (f := 211) (L' := [some (.int 124), some (.int a), some (.int b)]) (st' := []) (h' := mk M T) (fun _ => rfl) (fun g2 => ?_) (fun g2 => ?_)
    · refine R_ret 2 (pcr := 216) (v := some (.int 0)) (h' := mk M T) (fun _ => rfl) ?_
      exact ⟨by simp only [jn]; congr 2; grind, rfl⟩
    · refine R_ret 3 (pcr := 216) (v := some (.int 1)) (h' := mk M T) (fun _ => rfl) ?_
      exact ⟨by simp only [jn]; congr 2; grind, rfl⟩
set_option maxRecDepth 100000 in
set_option maxHeartbeats 4000000 in
theorem c_joined_38 {ro : xRO} {d : Nat} {M : xM} {T : Nat} {a b : Int32} : Rn ro d M_X6_joined 0 [some (.int 38), some (.int a), some (.int b)] [] (mk M T) (fun r h => r = some (.int (jn 38 a b)) ∧ h = mk M T) := by
  refine R_if 4 (c := a = 0) (t := 110) (f := 102) (L' := [some (.int 38), some (.int a), some (.int b)]) (st' := []) (h' := mk M T) (fun _ => rfl) (fun g1 => ?_) (fun g1 => ?_)
  · refine R_ret 2 (pcr := 111) (v := some (.int 0)) (h' := mk M T) (fun _ => rfl) ?_
    exact ⟨by simp only [jn]; congr 2; grind, rfl⟩
  · refine R_if 2 (c := b = 0) (t := 110) (f := 106) (L' := [some (.int 38), some (.int a), some (.int b)]) (st' := []) (h' := mk M T) (fun _ => rfl) (fun g2 => ?_) (fun g2 => ?_)
    · refine R_ret 2 (pcr := 111) (v := some (.int 0)) (h' := mk M T) (fun _ => rfl) ?_
      exact ⟨by simp only [jn]; congr 2; grind, rfl⟩
    · refine R_ret 3 (pcr := 111) (v := some (.int 1)) (h' := mk M T) (fun _ => rfl) ?_
      exact ⟨by simp only [jn]; congr 2; grind, rfl⟩
set_option maxRecDepth 100000 in
set_option maxHeartbeats 4000000 in
theorem m_twoOf_38 {ro : xRO} {d : Nat} {M : xM} {T : Nat} {a b : Int32} : Rn ro d M_X8_twoOf 0 [some (.int 38), some (.int a), some (.int b)] [] (mk M T) (fun r h => r = some (.int (jn 38 a b)) ∧ h = mk M T) := by
  refine R_if 4 (c := a = 0) (t := 201) (f := 193) (L' := [some (.int 38), some (.int a), some (.int b)]) (st' := []) (h' := mk M T) (fun _ => rfl) (fun g1 => ?_) (fun g1 => ?_)
  · refine R_ret 2 (pcr := 202) (v := some (.int 0)) (h' := mk M T) (fun _ => rfl) ?_
    exact ⟨by simp only [jn]; congr 2; grind, rfl⟩
  · refine R_if 2 (c := b = 0) (t := 201) (f := 197) (L' := [some (.int 38), some (.int a), some (.int b)]) (st' := []) (h' := mk M T) (fun _ => rfl) (fun g2 => ?_) (fun g2 => ?_)
    · refine R_ret 2 (pcr := 202) (v := some (.int 0)) (h' := mk M T) (fun _ => rfl) ?_
      exact ⟨by simp only [jn]; congr 2; grind, rfl⟩
    · refine R_ret 3 (pcr := 202) (v := some (.int 1)) (h' := mk M T) (fun _ => rfl) ?_
      exact ⟨by simp only [jn]; congr 2; grind, rfl⟩
set_option maxRecDepth 100000 in
set_option maxHeartbeats 4000000 in
theorem c_joined_60 {ro : xRO} {d : Nat} {M : xM} {T : Nat} {a b : Int32} : Rn ro d M_X6_joined 0 [some (.int 60), some (.int a), some (.int b)] [] (mk M T) (fun r h => r = some (.int (jn 60 a b)) ∧ h = mk M T) := by
  refine R_if 5 (c := b ≤ a) (t := 121) (f := 117) (L' := [some (.int 60), some (.int a), some (.int b)]) (st' := []) (h' := mk M T) (fun _ => rfl) (fun g1 => ?_) (fun g1 => ?_)
  · refine R_ret 2 (pcr := 122) (v := some (.int 0)) (h' := mk M T) (fun _ => rfl) ?_
    exact ⟨by simp only [jn]; congr 2; grind, rfl⟩
  · refine R_ret 3 (pcr := 122) (v := some (.int 1)) (h' := mk M T) (fun _ => rfl) ?_
    exact ⟨by simp only [jn]; congr 2; grind, rfl⟩
set_option maxRecDepth 100000 in
set_option maxHeartbeats 4000000 in
theorem m_twoOf_60 {ro : xRO} {d : Nat} {M : xM} {T : Nat} {a b : Int32} : Rn ro d M_X8_twoOf 0 [some (.int 60), some (.int a), some (.int b)] [] (mk M T) (fun r h => r = some (.int (jn 60 a b)) ∧ h = mk M T) := by
  refine R_if 5 (c := b ≤ a) (t := 165) (f := 161) (L' := [some (.int 60), some (.int a), some (.int b)]) (st' := []) (h' := mk M T) (fun _ => rfl) (fun g1 => ?_) (fun g1 => ?_)
  · refine R_ret 2 (pcr := 166) (v := some (.int 0)) (h' := mk M T) (fun _ => rfl) ?_
    exact ⟨by simp only [jn]; congr 2; grind, rfl⟩
  · refine R_ret 3 (pcr := 166) (v := some (.int 1)) (h' := mk M T) (fun _ => rfl) ?_
    exact ⟨by simp only [jn]; congr 2; grind, rfl⟩
set_option maxRecDepth 100000 in
set_option maxHeartbeats 4000000 in
theorem c_joined_61 {ro : xRO} {d : Nat} {M : xM} {T : Nat} {a b : Int32} : Rn ro d M_X6_joined 0 [some (.int 61), some (.int a), some (.int b)] [] (mk M T) (fun r h => r = some (.int (jn 61 a b)) ∧ h = mk M T) := by
  refine R_ifn 5 (c := a = b) (t := 132) (f := 128) (L' := [some (.int 61), some (.int a), some (.int b)]) (st' := []) (h' := mk M T) (fun _ => rfl) (fun g1 => ?_) (fun g1 => ?_)
  · refine R_ret 2 (pcr := 133) (v := some (.int 0)) (h' := mk M T) (fun _ => rfl) ?_
    exact ⟨by simp only [jn]; congr 2; grind, rfl⟩
  · refine R_ret 3 (pcr := 133) (v := some (.int 1)) (h' := mk M T) (fun _ => rfl) ?_
    exact ⟨by simp only [jn]; congr 2; grind, rfl⟩
set_option maxRecDepth 100000 in
set_option maxHeartbeats 4000000 in
theorem m_twoOf_61 {ro : xRO} {d : Nat} {M : xM} {T : Nat} {a b : Int32} : Rn ro d M_X8_twoOf 0 [some (.int 61), some (.int a), some (.int b)] [] (mk M T) (fun r h => r = some (.int (jn 61 a b)) ∧ h = mk M T) := by
  refine R_ifn 5 (c := a = b) (t := 176) (f := 172) (L' := [some (.int 61), some (.int a), some (.int b)]) (st' := []) (h' := mk M T) (fun _ => rfl) (fun g1 => ?_) (fun g1 => ?_)
  · refine R_ret 2 (pcr := 177) (v := some (.int 0)) (h' := mk M T) (fun _ => rfl) ?_
    exact ⟨by simp only [jn]; congr 2; grind, rfl⟩
  · refine R_ret 3 (pcr := 177) (v := some (.int 1)) (h' := mk M T) (fun _ => rfl) ?_
    exact ⟨by simp only [jn]; congr 2; grind, rfl⟩
set_option maxRecDepth 100000 in
set_option maxHeartbeats 4000000 in
theorem c_joined_62 {ro : xRO} {d : Nat} {M : xM} {T : Nat} {a b : Int32} : Rn ro d M_X6_joined 0 [some (.int 62), some (.int a), some (.int b)] [] (mk M T) (fun r h => r = some (.int (jn 62 a b)) ∧ h = mk M T) := by
  refine R_if 5 (c := a ≤ b) (t := 143) (f := 139) (L' := [some (.int 62), some (.int a), some (.int b)]) (st' := []) (h' := mk M T) (fun _ => rfl) (fun g1 => ?_) (fun g1 => ?_)
  · refine R_ret 2 (pcr := 144) (v := some (.int 0)) (h' := mk M T) (fun _ => rfl) ?_
    exact ⟨by simp only [jn]; congr 2; grind, rfl⟩
  · refine R_ret 3 (pcr := 144) (v := some (.int 1)) (h' := mk M T) (fun _ => rfl) ?_
    exact ⟨by simp only [jn]; congr 2; grind, rfl⟩
set_option maxRecDepth 100000 in
set_option maxHeartbeats 4000000 in
theorem m_twoOf_62 {ro : xRO} {d : Nat} {M : xM} {T : Nat} {a b : Int32} : Rn ro d M_X8_twoOf 0 [some (.int 62), some (.int a), some (.int b)] [] (mk M T) (fun r h => r = some (.int (jn 62 a b)) ∧ h = mk M T) := by
  refine R_if 5 (c := a ≤ b) (t := 187) (f := 183) (L' := [some (.int 62), some (.int a), some (.int b)]) (st' := []) (h' := mk M T) (fun _ => rfl) (fun g1 => ?_) (fun g1 => ?_)
  · refine R_ret 2 (pcr := 188) (v := some (.int 0)) (h' := mk M T) (fun _ => rfl) ?_
    exact ⟨by simp only [jn]; congr 2; grind, rfl⟩
  · refine R_ret 3 (pcr := 188) (v := some (.int 1)) (h' := mk M T) (fun _ => rfl) ?_
    exact ⟨by simp only [jn]; congr 2; grind, rfl⟩
set_option maxRecDepth 100000 in
set_option maxHeartbeats 4000000 in
theorem c_joined_43 {ro : xRO} {d : Nat} {M : xM} {T : Nat} {a b : Int32} : Rn ro d M_X6_joined 0 [some (.int 43), some (.int a), some (.int b)] [] (mk M T) (fun r h => r = some (.int (jn 43 a b)) ∧ h = mk M T) := by
  refine R_ret 6 (pcr := 148) (v := some (.int (a + b))) (h' := mk M T) (fun _ => rfl) ?_
  exact ⟨rfl, rfl⟩
set_option maxRecDepth 100000 in
set_option maxHeartbeats 4000000 in
theorem m_twoOf_43 {ro : xRO} {d : Nat} {M : xM} {T : Nat} {a b : Int32} : Rn ro d M_X8_twoOf 0 [some (.int 43), some (.int a), some (.int b)] [] (mk M T) (fun r h => r = some (.int (jn 43 a b)) ∧ h = mk M T) := by
  refine R_ret 6 (pcr := 123) (v := some (.int (a + b))) (h' := mk M T) (fun _ => rfl) ?_
  exact ⟨rfl, rfl⟩
set_option maxRecDepth 100000 in
set_option maxHeartbeats 4000000 in
theorem c_joined_45 {ro : xRO} {d : Nat} {M : xM} {T : Nat} {a b : Int32} : Rn ro d M_X6_joined 0 [some (.int 45), some (.int a), some (.int b)] [] (mk M T) (fun r h => r = some (.int (jn 45 a b)) ∧ h = mk M T) := by
  refine R_ret 6 (pcr := 152) (v := some (.int (a - b))) (h' := mk M T) (fun _ => rfl) ?_
  exact ⟨rfl, rfl⟩
set_option maxRecDepth 100000 in
set_option maxHeartbeats 4000000 in
theorem m_twoOf_45 {ro : xRO} {d : Nat} {M : xM} {T : Nat} {a b : Int32} : Rn ro d M_X8_twoOf 0 [some (.int 45), some (.int a), some (.int b)] [] (mk M T) (fun r h => r = some (.int (jn 45 a b)) ∧ h = mk M T) := by
  refine R_ret 6 (pcr := 127) (v := some (.int (a - b))) (h' := mk M T) (fun _ => rfl) ?_
  exact ⟨rfl, rfl⟩
set_option maxRecDepth 100000 in
set_option maxHeartbeats 4000000 in
theorem c_joined_42 {ro : xRO} {d : Nat} {M : xM} {T : Nat} {a b : Int32} : Rn ro d M_X6_joined 0 [some (.int 42), some (.int a), some (.int b)] [] (mk M T) (fun r h => r = some (.int (jn 42 a b)) ∧ h = mk M T) := by
  refine R_ret 6 (pcr := 156) (v := some (.int (a * b))) (h' := mk M T) (fun _ => rfl) ?_
  exact ⟨rfl, rfl⟩
set_option maxRecDepth 100000 in
set_option maxHeartbeats 4000000 in
theorem m_twoOf_42 {ro : xRO} {d : Nat} {M : xM} {T : Nat} {a b : Int32} : Rn ro d M_X8_twoOf 0 [some (.int 42), some (.int a), some (.int b)] [] (mk M T) (fun r h => r = some (.int (jn 42 a b)) ∧ h = mk M T) := by
  refine R_ret 6 (pcr := 131) (v := some (.int (a * b))) (h' := mk M T) (fun _ => rfl) ?_
  exact ⟨rfl, rfl⟩
set_option maxRecDepth 100000 in
set_option maxHeartbeats 4000000 in
theorem c_joined_47 {ro : xRO} {d : Nat} {M : xM} {T : Nat} {a b : Int32} : Rn ro d M_X6_joined 0 [some (.int 47), some (.int a), some (.int b)] [] (mk M T) (fun r h => r = some (.int (jn 47 a b)) ∧ h = mk M T) := by
  refine R_ifn 4 (c := b = 0) (t := 165) (f := 161) (L' := [some (.int 47), some (.int a), some (.int b)]) (st' := []) (h' := mk M T) (fun _ => rfl) (fun g1 => ?_) (fun g1 => ?_)
  · refine R_go 2 (pc' := 167) (L' := [some (.int 47), some (.int a), some (.int b)]) (st' := [.int b, .int a]) (h' := mk M T) (fun _ => rfl) ?_
    refine R_idiv (x := a) (y := b) rfl (by assumption) ?_
    refine R_ret 1 (pcr := 168) (v := some (.int (a / b))) (h' := mk M T) (fun _ => rfl) ?_
    exact ⟨by simp only [jn]; congr 2; grind, rfl⟩
  · refine R_ret 3 (pcr := 168) (v := some (.int 0)) (h' := mk M T) (fun _ => rfl) ?_
    exact ⟨by simp only [jn]; congr 2; grind, rfl⟩
set_option maxRecDepth 100000 in
set_option maxHeartbeats 4000000 in
theorem m_twoOf_47 {ro : xRO} {d : Nat} {M : xM} {T : Nat} {a b : Int32} : Rn ro d M_X8_twoOf 0 [some (.int 47), some (.int a), some (.int b)] [] (mk M T) (fun r h => r = some (.int (jn 47 a b)) ∧ h = mk M T) := by
  refine R_ifn 4 (c := b = 0) (t := 140) (f := 136) (L' := [some (.int 47), some (.int a), some (.int b)]) (st' := []) (h' := mk M T) (fun _ => rfl) (fun g1 => ?_) (fun g1 => ?_)
  · refine R_go 2 (pc' := 142) (L' := [some (.int 47), some (.int a), some (.int b)]) (st' := [.int b, .int a]) (h' := mk M T) (fun _ => rfl) ?_
    refine R_idiv (x := a) (y := b) rfl (by assumption) ?_
    refine R_ret 1 (pcr := 143) (v := some (.int (a / b))) (h' := mk M T) (fun _ => rfl) ?_
    exact ⟨by simp only [jn]; congr 2; grind, rfl⟩
  · refine R_ret 3 (pcr := 143) (v := some (.int 0)) (h' := mk M T) (fun _ => rfl) ?_
    exact ⟨by simp only [jn]; congr 2; grind, rfl⟩
set_option maxRecDepth 100000 in
set_option maxHeartbeats 4000000 in
theorem c_joined_37 {ro : xRO} {d : Nat} {M : xM} {T : Nat} {a b : Int32} : Rn ro d M_X6_joined 0 [some (.int 37), some (.int a), some (.int b)] [] (mk M T) (fun r h => r = some (.int (jn 37 a b)) ∧ h = mk M T) := by
  refine R_ifn 4 (c := b = 0) (t := 177) (f := 173) (L' := [some (.int 37), some (.int a), some (.int b)]) (st' := []) (h' := mk M T) (fun _ => rfl) (fun g1 => ?_) (fun g1 => ?_)
  · refine R_go 2 (pc' := 179) (L' := [some (.int 37), some (.int a), some (.int b)]) (st' := [.int b, .int a]) (h' := mk M T) (fun _ => rfl) ?_
    refine R_irem (x := a) (y := b) rfl (by assumption) ?_
    refine R_ret 1 (pcr := 180) (v := some (.int (a - a / b * b))) (h' := mk M T) (fun _ => rfl) ?_
    exact ⟨by simp only [jn]; congr 2; grind, rfl⟩
  · refine R_ret 3 (pcr := 180) (v := some (.int 0)) (h' := mk M T) (fun _ => rfl) ?_
    exact ⟨by simp only [jn]; congr 2; grind, rfl⟩
set_option maxRecDepth 100000 in
set_option maxHeartbeats 4000000 in
theorem m_twoOf_37 {ro : xRO} {d : Nat} {M : xM} {T : Nat} {a b : Int32} : Rn ro d M_X8_twoOf 0 [some (.int 37), some (.int a), some (.int b)] [] (mk M T) (fun r h => r = some (.int (jn 37 a b)) ∧ h = mk M T) := by
  refine R_ifn 4 (c := b = 0) (t := 152) (f := 148) (L' := [some (.int 37), some (.int a), some (.int b)]) (st' := []) (h' := mk M T) (fun _ => rfl) (fun g1 => ?_) (fun g1 => ?_)
  · refine R_go 2 (pc' := 154) (L' := [some (.int 37), some (.int a), some (.int b)]) (st' := [.int b, .int a]) (h' := mk M T) (fun _ => rfl) ?_
    refine R_irem (x := a) (y := b) rfl (by assumption) ?_
    refine R_ret 1 (pcr := 155) (v := some (.int (a - a / b * b))) (h' := mk M T) (fun _ => rfl) ?_
    exact ⟨by simp only [jn]; congr 2; grind, rfl⟩
  · refine R_ret 3 (pcr := 155) (v := some (.int 0)) (h' := mk M T) (fun _ => rfl) ?_
    exact ⟨by simp only [jn]; congr 2; grind, rfl⟩
/-- the pile behind i steps: how many, and what -/
def evT (s0 a w f : Nat → Int32) : Nat → Nat × (Nat → Int32)
  | 0 => (0, s0)
  | i + 1 =>
    if a i = 1 then ((evT s0 a w f i).1 + 1, upd (evT s0 a w f i).2 (evT s0 a w f i).1 (w i))
    else if a i = 2 then ((evT s0 a w f i).1 + 1, upd (evT s0 a w f i).2 (evT s0 a w f i).1 (f (w i).toNatClampNeg))
    else if a i = 3 then ((evT s0 a w f i).1, upd (evT s0 a w f i).2 ((evT s0 a w f i).1 - 1) (if (evT s0 a w f i).2 ((evT s0 a w f i).1 - 1) = 0 then 1 else 0))
    else ((evT s0 a w f i).1 - 1, upd (evT s0 a w f i).2 ((evT s0 a w f i).1 - 2) (jn (a i).toNatClampNeg ((evT s0 a w f i).2 ((evT s0 a w f i).1 - 2)) ((evT s0 a w f i).2 ((evT s0 a w f i).1 - 1))))
theorem stk_pre {a : Nat → Int32} : ∀ k t, stkT a k = some t → ∀ i, i ≤ k → ∃ t', stkT a i = some t' := by
  intro k
  induction k with
  | zero => intro t h i hi; rw [Nat.le_zero.mp hi]; exact ⟨t, h⟩
  | succ k ih =>
    intro t h i hi
    by_cases e : i = k + 1
    · rw [e]; exact ⟨t, h⟩
    · cases q : stkT a k with
      | none => unfold stkT at h; rw [q] at h; exact absurd h (by simp)
      | some t2 => exact ih t2 q i (by omega)
theorem stk_ev {s0 a w f : Nat → Int32} : ∀ i t, stkT a i = some t → (evT s0 a w f i).1 = t ∧ t ≤ i := by
  intro i
  induction i with
  | zero => intro t h; unfold stkT at h; cases h; exact ⟨rfl, Nat.le_refl 0⟩
  | succ i ih =>
    intro t h
    cases q : stkT a i with
    | none => unfold stkT at h; rw [q] at h; exact absurd h (by simp)
    | some t2 =>
      obtain ⟨e1, e2⟩ := ih t2 q
      unfold stkT at h
      rw [q] at h
      unfold evT
      dsimp only at h
      split at h
      · cases h
        rename_i hc
        rcases hc with hc | hc
        · rw [if_pos hc]; exact ⟨by show (evT s0 a w f i).1 + 1 = _; rw [e1], by omega⟩
        · rw [if_neg (by rw [hc]; decide), if_pos hc]; exact ⟨by show (evT s0 a w f i).1 + 1 = _; rw [e1], by omega⟩
      · rename_i hc
        rw [if_neg (fun z => hc (Or.inl z)), if_neg (fun z => hc (Or.inr z))]
        split at h
        · rename_i h3
          rw [if_pos h3]
          split at h
          · cases h; exact ⟨e1, by omega⟩
          · cases h
        · rename_i h3
          rw [if_neg h3]
          split at h
          · cases h; exact ⟨by show (evT s0 a w f i).1 - 1 = _; rw [e1], by omega⟩
          · cases h
/-- what a step needs -/
def okS (a : Nat → Int32) (i t : Nat) : Prop := (a i = 1 ∨ a i = 2) ∨ (a i = 3 ∧ 1 ≤ t) ∨ (¬ a i = 1 ∧ ¬ a i = 2 ∧ ¬ a i = 3 ∧ 2 ≤ t)
theorem stk_ok {s0 a w f : Nat → Int32} {k t i : Nat} (h : stkT a k = some t) (hi : i < k) : okS a i (evT s0 a w f i).1 ∧ (evT s0 a w f i).1 ≤ i := by
  obtain ⟨t1, h1⟩ := stk_pre k t h i (by omega)
  obtain ⟨t2, h2⟩ := stk_pre k t h (i + 1) (by omega)
  obtain ⟨e1, e2⟩ := stk_ev (s0 := s0) (w := w) (f := f) i t1 h1
  unfold stkT at h2
  rw [h1] at h2
  dsimp only at h2
  rw [e1]
  refine ⟨?_, e2⟩
  unfold okS
  by_cases c1 : a i = 1 ∨ a i = 2
  · exact Or.inl c1
  · rw [if_neg c1] at h2
    by_cases c3 : a i = 3
    · rw [if_pos c3] at h2
      by_cases q : 1 ≤ t1
      · exact Or.inr (Or.inl ⟨c3, q⟩)
      · rw [if_neg q] at h2; cases h2
    · rw [if_neg c3] at h2
      by_cases q : 2 ≤ t1
      · exact Or.inr (Or.inr ⟨fun z => c1 (Or.inl z), fun z => c1 (Or.inr z), c3, q⟩)
      · rw [if_neg q] at h2; cases h2
theorem ev_ind {s0 s1 a w f : Nat → Int32} {k t : Nat} (h : stkT a k = some t) : ∀ i, i ≤ k → (evT s0 a w f i).1 = (evT s1 a w f i).1 ∧ ∀ j, j < (evT s0 a w f i).1 → (evT s0 a w f i).2 j = (evT s1 a w f i).2 j := by
  intro i
  induction i with
  | zero => intro _; exact ⟨rfl, fun j hj => absurd hj (Nat.not_lt_zero j)⟩
  | succ i ih =>
    intro hi
    obtain ⟨e1, e2⟩ := ih (by omega)
    obtain ⟨ok, -⟩ := stk_ok (s0 := s0) (w := w) (f := f) h (show i < k by omega)
    unfold evT
    rw [← e1]
    have key : ∀ (p : Nat) (v v' : Int32) (n : Nat), (p < n → v = v') → (∀ j, j < n → j ≠ p → j < (evT s0 a w f i).1) → ∀ j, j < n → upd (evT s0 a w f i).2 p v j = upd (evT s1 a w f i).2 p v' j := by
      intro p v v' n hv hj j hjn
      unfold upd
      by_cases q : j = p
      · rw [if_pos q, if_pos q]; exact hv (by omega)
      · rw [if_neg q, if_neg q]; exact e2 j (hj j hjn q)
    rcases ok with (o1 | o2) | ⟨o3, o4⟩ | ⟨o5, o6, o7, o8⟩
    · simp only [if_pos o1]
      exact ⟨True.intro, key _ _ _ _ (fun _ => rfl) (fun j a1 a2 => by omega)⟩
    · simp only [if_neg (show ¬ a i = 1 by rw [o2]; decide), if_pos o2]
      exact ⟨True.intro, key _ _ _ _ (fun _ => rfl) (fun j a1 a2 => by omega)⟩
    · simp only [if_neg (show ¬ a i = 1 by rw [o3]; decide), if_neg (show ¬ a i = 2 by rw [o3]; decide), if_pos o3]
      exact ⟨True.intro, key _ _ _ _ (fun _ => by rw [e2 _ (by omega)]) (fun j a1 a2 => by omega)⟩
    · simp only [if_neg o5, if_neg o6, if_neg o7]
      exact ⟨True.intro, key _ _ _ _ (fun _ => by rw [e2 _ (by omega), e2 _ (by omega)]) (fun j a1 a2 => by omega)⟩
def fc3 (a b c : Int32) : Nat → Int32 := fun i => if i = 0 then a else if i = 1 then b else c
/-- what a text comes to -/
def evR (k : Nat) (a w f : Nat → Int32) : Int32 := (evT (fun _ => 0) a w f k).2 0
theorem ev_R {s0 a w f : Nat → Int32} {k : Nat} (h : stkT a k = some 1) : (evT s0 a w f k).2 0 = evR k a w f := by
  obtain ⟨e1, e2⟩ := ev_ind (s0 := s0) (s1 := fun _ => 0) (w := w) (f := f) h k (Nat.le_refl k)
  have e3 := (stk_ev (s0 := s0) (w := w) (f := f) k 1 h).1
  exact e2 0 (by omega)
theorem up_upA {M : xM} {k j : Nat} {v : Int32} {g : Nat → Int32} : up (upA M k g) k j v = upA M k (upd g j v) := by
  funext x y
  rw [up_rd, upA_rd, upA_rd]
  unfold upd
  grind
theorem upA_id {M : xM} {k : Nat} : upA M k (M k) = M := by
  funext x y
  rw [upA_rd]
  grind
theorem nI_m1 {t : Nat} (h : 1 ≤ t) : nI t + -1 = nI (t - 1) := by
  obtain ⟨u, rfl⟩ : ∃ u, t = u + 1 := ⟨t - 1, by omega⟩
  rw [show nI (u + 1) = nI u + 1 from (nI_1 u).symm, Nat.add_sub_cancel]
  grind
