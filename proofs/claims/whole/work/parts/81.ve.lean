/-! OPERATION text: the reader of the model -/
def tpM (f : Nat → Int32) (L u : Nat) (Mb : xM) (o : Nat) (s : tpS) (M : xM) : Prop := M 61 13 = nI s.1 ∧ M 61 12 = nI s.2.1 ∧ (∀ i, i < s.2.1 → M 68 i = s.2.2.1 i ∧ M 69 i = s.2.2.2 i) ∧ (M 61 14 = nI o ∧ M 61 15 = 0 ∧ M 61 16 = nI u) ∧ (M 62 8 = nI L ∧ ∀ i, i < 60 → M 62 (72 + i) = f i) ∧ (∀ c, c ≠ 61 → c ≠ 68 → c ≠ 69 → M c = Mb c) ∧ ∀ j, j < 12 ∨ 16 < j → M 61 j = Mb 61 j
def tpN (L : Nat) (Mb : xM) (p : Nat) (M : xM) : Prop := M 61 13 = nI p ∧ (∃ k, k ≤ 60 ∧ M 61 12 = nI k) ∧ M 61 15 = 1 ∧ M 62 8 = nI L ∧ (∀ c, c ≠ 61 → c ≠ 68 → c ≠ 69 → M c = Mb c) ∧ ∀ j, j < 12 ∨ 16 < j → M 61 j = Mb 61 j
def tpW (f : Nat → Int32) (L u : Nat) (Mb : xM) (o : Nat) (r : tpT) (M : xM) : Prop := match r with
  | .inl p => tpN L Mb p M
  | .inr s => tpM f L u Mb o s M
theorem tpM.adv {f : Nat → Int32} {L u o : Nat} {Mb M : xM} {s : tpS} (h : tpM f L u Mb o s M) : tpM f L u Mb o (tp_adv s) (up M 61 13 (nI (s.1 + 1))) := by
  obtain ⟨h1, h2, h3, h4, h5, h6, h7⟩ := h
  refine ⟨up_at, h2, h3, h4, h5, fun c a b d => ?_, fun j hj => ?_⟩
  · rw [up_ne a]
    exact h6 c a b d
  · rw [up_nj (by omega)]
    exact h7 j hj
theorem tpM.bad0 {f : Nat → Int32} {L u o : Nat} {Mb M : xM} {s : tpS} (h : tpM f L u Mb o s M) : tpM f L u Mb o s (up M 61 15 0) := by
  obtain ⟨h1, h2, h3, h4, h5, h6, h7⟩ := h
  refine ⟨h1, h2, h3, ⟨h4.1, up_at, h4.2.2⟩, h5, fun c a b d => ?_, fun j hj => ?_⟩
  · rw [up_ne a]
    exact h6 c a b d
  · rw [up_nj (by omega)]
    exact h7 j hj
theorem tpM.opn {f : Nat → Int32} {L u o : Nat} {Mb M : xM} {s : tpS} (h : tpM f L u Mb o s M) {o1 : Nat} : tpM f L u Mb o1 s (up M 61 14 (nI o1)) := by
  obtain ⟨h1, h2, h3, h4, h5, h6, h7⟩ := h
  refine ⟨h1, h2, h3, ⟨up_at, h4.2⟩, h5, fun c a b d => ?_, fun j hj => ?_⟩
  · rw [up_ne a]
    exact h6 c a b d
  · rw [up_nj (by omega)]
    exact h7 j hj
theorem tpM.flt {f : Nat → Int32} {L u o : Nat} {Mb M : xM} {s : tpS} (h : tpM f L u Mb o s M) (hk : s.2.1 ≤ 60) : tpN L Mb s.1 (up M 61 15 1) := by
  obtain ⟨h1, h2, h3, h4, h5, h6, h7⟩ := h
  refine ⟨h1, ⟨_, hk, h2⟩, up_at, h5.1, fun c a b d => ?_, fun j hj => ?_⟩
  · rw [up_ne a]
    exact h6 c a b d
  · rw [up_nj (by omega)]
    exact h7 j hj
theorem tpM.psh {f : Nat → Int32} {L u o : Nat} {Mb M : xM} {s : tpS} {a w : Int32} (h : tpM f L u Mb o s M) : tpM f L u Mb o (tp_psh s a w) (up (up (up M 68 s.2.1 a) 69 s.2.1 w) 61 12 (nI (s.2.1 + 1))) := by
  obtain ⟨h1, h2, h3, h4, h5, h6, h7⟩ := h
  refine ⟨h1, up_at, fun i hi => ?_, h4, h5, fun c a b d => ?_, fun j hj => ?_⟩
  · have hi' : i < s.2.1 + 1 := hi
    rw [up_ne (show 68 ≠ 61 by omega), up_ne (show 68 ≠ 69 by omega), up_eq, up_ne (show 69 ≠ 61 by omega), up_eq, up_ne (show 69 ≠ 68 by omega)]
    show upd (M 68) s.2.1 a i = upd s.2.2.1 s.2.1 a i ∧ upd (M 69) s.2.1 w i = upd s.2.2.2 s.2.1 w i
    by_cases q : i = s.2.1
    · rw [q, upd_eq, upd_eq, upd_eq, upd_eq]
      exact ⟨rfl, rfl⟩
    · rw [upd_ne q, upd_ne q, upd_ne q, upd_ne q]
      exact h3 i (by omega)
  · rw [up_ne a, up_ne d, up_ne b]
    exact h6 c a b d
  · rw [up_nj (by omega), up_ne (by omega), up_ne (by omega)]
    exact h7 j hj
theorem tpN.her {L p : Nat} {Mb M : xM} (h : tpN L Mb p M) {v : Int32} (hv : v = nI p) : tpN L Mb p (up M 61 13 v) := by
  obtain ⟨h1, h2, h3, h4, h5, h6⟩ := h
  refine ⟨up_at.trans hv, h2, h3, h4, fun c a b d => ?_, fun j hj => ?_⟩
  · rw [up_ne a]
    exact h5 c a b d
  · rw [up_nj (by omega)]
    exact h6 j hj
theorem tpN.opn {L p : Nat} {Mb M : xM} (h : tpN L Mb p M) {v : Int32} : tpN L Mb p (up M 61 14 v) := by
  obtain ⟨h1, h2, h3, h4, h5, h6⟩ := h
  refine ⟨h1, h2, h3, h4, fun c a b d => ?_, fun j hj => ?_⟩
  · rw [up_ne a]
    exact h5 c a b d
  · rw [up_nj (by omega)]
    exact h6 j hj
theorem tpN.bad1 {L p : Nat} {Mb M : xM} (h : tpN L Mb p M) : tpN L Mb p (up M 61 15 1) := by
  obtain ⟨h1, h2, h3, h4, h5, h6⟩ := h
  refine ⟨h1, h2, up_at, h4, fun c a b d => ?_, fun j hj => ?_⟩
  · rw [up_ne a]
    exact h5 c a b d
  · rw [up_nj (by omega)]
    exact h6 j hj
theorem tp_big {p : Nat} {x : Int32} (hp : x = nI p) (h : p < 2 ^ 30) : x = nI p := hp
set_option maxRecDepth 100000 in
set_option maxHeartbeats 4000000 in
theorem tm_look_i {ro : xRO} {d : Nat} {M : xM} {T : Nat} {p L : Nat} (hp : M 61 13 = nI p) (hL : M 62 8 = nI L) (h60 : L ≤ 60) (hi : p < L) : Rn ro d M_X8_look 0 [some (.ref 64)] [] (mk M T) (fun r h => r = some (.int (M 62 (72 + p))) ∧ h = mk M T) := by
  refine R_go 2 (pc' := 4) (L' := [some (.ref 64)]) (st' := [.int (M 61 13)]) (h' := mk M T) (fun _ => rfl) ?_
  refine R_top (y := nI p) (hp) ?_
  refine R_go 4 (pc' := 11) (L' := [some (.ref 64)]) (st' := [.int (M 62 8), .int (nI p)]) (h' := mk M T) (fun _ => rfl) ?_
  refine R_top (y := nI L) (hL) ?_
  refine R_if 1 (c := (nI L) ≤ (nI p)) (t := 29) (f := 14) (L' := [some (.ref 64)]) (st' := []) (h' := mk M T) (fun _ => rfl) (fun h1 => ?_) (fun h1 => ?_)
  · replace h1 : L ≤ p := (nI_leI (a := L) (b := p) (by omega) (by omega)).mp h1
    omega
  · replace h1 : ¬ L ≤ p := fun q => h1 ((nI_leI (a := L) (b := p) (by omega) (by omega)).mpr q)
    refine R_go 5 (pc' := 24) (L' := [some (.ref 64)]) (st' := [.int (M 61 13), .int 72, .ref 65]) (h' := mk M T) (fun _ => rfl) ?_
    refine R_top (y := nI p) (hp) ?_
    refine R_go 1 (pc' := 25) (L' := [some (.ref 64)]) (st' := [.int (72 + nI p), .ref 65]) (h' := mk M T) (fun _ => rfl) ?_
    refine R_top (nI_add 72 p) ?_
    refine R_iald (c := 62) (n := 398) (j := 72 + p) rfl rfl (by omega) (by decide) ?_
    refine R_ret 2 (pcr := 30) (v := some (.int (M 62 (72 + p)))) (h' := mk M T) (fun _ => rfl) ?_
    exact ⟨rfl, rfl⟩
set_option maxRecDepth 100000 in
set_option maxHeartbeats 4000000 in
theorem tm_look_o {ro : xRO} {d : Nat} {M : xM} {T : Nat} {p L : Nat} (hp : M 61 13 = nI p) (hL : M 62 8 = nI L) (h60 : L ≤ 60) (hi : L ≤ p) (p60 : p ≤ 60) : Rn ro d M_X8_look 0 [some (.ref 64)] [] (mk M T) (fun r h => r = some (.int (-1)) ∧ h = mk M T) := by
  refine R_go 2 (pc' := 4) (L' := [some (.ref 64)]) (st' := [.int (M 61 13)]) (h' := mk M T) (fun _ => rfl) ?_
  refine R_top (y := nI p) (hp) ?_
  refine R_go 4 (pc' := 11) (L' := [some (.ref 64)]) (st' := [.int (M 62 8), .int (nI p)]) (h' := mk M T) (fun _ => rfl) ?_
  refine R_top (y := nI L) (hL) ?_
  refine R_if 1 (c := (nI L) ≤ (nI p)) (t := 29) (f := 14) (L' := [some (.ref 64)]) (st' := []) (h' := mk M T) (fun _ => rfl) (fun h1 => ?_) (fun h1 => ?_)
  · replace h1 : L ≤ p := (nI_leI (a := L) (b := p) (by omega) (by omega)).mp h1
    refine R_ret 2 (pcr := 30) (v := some (.int (-1))) (h' := mk M T) (fun _ => rfl) ?_
    exact ⟨rfl, rfl⟩
  · replace h1 : ¬ L ≤ p := fun q => h1 ((nI_leI (a := L) (b := p) (by omega) (by omega)).mpr q)
    omega
theorem tm_look0 {ro : xRO} {d T : Nat} {M : xM} {p L : Nat} (hp : M 61 13 = nI p) (hL : M 62 8 = nI L) (h60 : L ≤ 60) (p60 : p ≤ 60) : Rn ro d M_X8_look 0 [some (.ref 64)] [] (mk M T) (fun r h => r = some (.int (tp_lk (fun i => M 62 (72 + i)) L p)) ∧ h = mk M T) := by
  unfold tp_lk
  rcases Nat.lt_or_ge p L with q | q
  · rw [if_pos q]
    exact tm_look_i hp hL h60 q
  · rw [if_neg (by omega)]
    exact tm_look_o hp hL h60 q p60
theorem tm_look {ro : xRO} {d T : Nat} {M Mb : xM} {f : Nat → Int32} {L u o : Nat} {s : tpS} (hx : tpM f L u Mb o s M) (hle : s.1 ≤ L) (h60 : L ≤ 60) : Rn ro d M_X8_look 0 [some (.ref 64)] [] (mk M T) (fun r h => r = some (.int (tp_lk f L s.1)) ∧ h = mk M T) := by
  have e : tp_lk f L s.1 = tp_lk (fun i => M 62 (72 + i)) L s.1 := by
    unfold tp_lk
    by_cases q : s.1 < L
    · rw [if_pos q, if_pos q]
      exact (hx.2.2.2.2.1.2 _ (by omega)).symm
    · rw [if_neg q, if_neg q]
  rw [e]
  exact tm_look0 hx.1 hx.2.2.2.2.1.1 h60 (by omega)
set_option maxRecDepth 100000 in
set_option maxHeartbeats 4000000 in
theorem tm_nameOf_0 {ro : xRO} {d : Nat} {M : xM} {T : Nat} {b : Int32} (hu : M 61 16 = 0) : Rn ro d M_X8_nameOf 0 [some (.ref 64), some (.int b)] [] (mk M T) (fun r h => r = some (.int (tp_nm0 b)) ∧ h = mk M T) := by
  refine R_go 1 (pc' := 1) (L' := [some (.ref 64), some (.int b)]) (st' := [.int b]) (h' := mk M T) (fun _ => rfl) ?_
  rcases Decidable.em (b = 102) with h1 | h1
  · refine R_top h1 ?_
    refine R_go 3 (pc' := 92) (L' := [some (.ref 64), some (.int b)]) (st' := [.int (M 61 16)]) (h' := mk M T) (fun _ => rfl) ?_
    refine R_top (y := 0) (hu) ?_
    refine R_ifn 4 (c := b = 115) (t := 109) (f := 105) (L' := [some (.ref 64), some (.int b)]) (st' := []) (h' := mk M T) (fun _ => rfl) (fun h2 => ?_) (fun h2 => ?_)
    · refine R_ifn 3 (c := b = 102) (t := 119) (f := 115) (L' := [some (.ref 64), some (.int b)]) (st' := []) (h' := mk M T) (fun _ => rfl) (fun h3 => ?_) (fun h3 => ?_)
      · refine R_ret 2 (pcr := 120) (v := some (.int 2)) (h' := mk M T) (fun _ => rfl) ?_
        exact absurd h1 h3
      · refine R_ret 3 (pcr := 120) (v := some (.int 1)) (h' := mk M T) (fun _ => rfl) ?_
        exact ⟨by rw [h3]; rfl, rfl⟩
    · refine R_ret 3 (pcr := 120) (v := some (.int 0)) (h' := mk M T) (fun _ => rfl) ?_
      exact ⟨by rw [h2]; rfl, rfl⟩
  rcases Decidable.em (b = 103) with h4 | h4
  · refine R_top h4 ?_
    refine R_ret 3 (pcr := 156) (v := some (.int (-1))) (h' := mk M T) (fun _ => rfl) ?_
    exact ⟨by rw [h4]; rfl, rfl⟩
  rcases Decidable.em (b = 104) with h5 | h5
  · refine R_top h5 ?_
    refine R_go 3 (pc' := 125) (L' := [some (.ref 64), some (.int b)]) (st' := [.int (M 61 16)]) (h' := mk M T) (fun _ => rfl) ?_
    refine R_top (y := 0) (hu) ?_
    refine R_ret 5 (pcr := 154) (v := some (.int (-1))) (h' := mk M T) (fun _ => rfl) ?_
    exact ⟨by rw [h5]; rfl, rfl⟩
  rcases Decidable.em (b = 105) with h6 | h6
  · refine R_top h6 ?_
    refine R_ret 3 (pcr := 156) (v := some (.int (-1))) (h' := mk M T) (fun _ => rfl) ?_
    exact ⟨by rw [h6]; rfl, rfl⟩
  rcases Decidable.em (b = 106) with h7 | h7
  · refine R_top h7 ?_
    refine R_ret 3 (pcr := 156) (v := some (.int (-1))) (h' := mk M T) (fun _ => rfl) ?_
    exact ⟨by rw [h7]; rfl, rfl⟩
  rcases Decidable.em (b = 107) with h8 | h8
  · refine R_top h8 ?_
    refine R_go 3 (pc' := 92) (L' := [some (.ref 64), some (.int b)]) (st' := [.int (M 61 16)]) (h' := mk M T) (fun _ => rfl) ?_
    refine R_top (y := 0) (hu) ?_
    refine R_ifn 4 (c := b = 115) (t := 109) (f := 105) (L' := [some (.ref 64), some (.int b)]) (st' := []) (h' := mk M T) (fun _ => rfl) (fun h9 => ?_) (fun h9 => ?_)
    · refine R_ifn 3 (c := b = 102) (t := 119) (f := 115) (L' := [some (.ref 64), some (.int b)]) (st' := []) (h' := mk M T) (fun _ => rfl) (fun h10 => ?_) (fun h10 => ?_)
      · refine R_ret 2 (pcr := 120) (v := some (.int 2)) (h' := mk M T) (fun _ => rfl) ?_
        exact ⟨by rw [h8]; rfl, rfl⟩
      · refine R_ret 3 (pcr := 120) (v := some (.int 1)) (h' := mk M T) (fun _ => rfl) ?_
        exact ⟨by rw [h10]; rfl, rfl⟩
    · refine R_ret 3 (pcr := 120) (v := some (.int 0)) (h' := mk M T) (fun _ => rfl) ?_
      exact ⟨by rw [h9]; rfl, rfl⟩
  rcases Decidable.em (b = 108) with h11 | h11
  · refine R_top h11 ?_
    refine R_ret 3 (pcr := 156) (v := some (.int (-1))) (h' := mk M T) (fun _ => rfl) ?_
    exact ⟨by rw [h11]; rfl, rfl⟩
  rcases Decidable.em (b = 109) with h12 | h12
  · refine R_top h12 ?_
    refine R_ret 3 (pcr := 156) (v := some (.int (-1))) (h' := mk M T) (fun _ => rfl) ?_
    exact ⟨by rw [h12]; rfl, rfl⟩
  rcases Decidable.em (b = 110) with h13 | h13
  · refine R_top h13 ?_
    refine R_ret 3 (pcr := 156) (v := some (.int (-1))) (h' := mk M T) (fun _ => rfl) ?_
    exact ⟨by rw [h13]; rfl, rfl⟩
  rcases Decidable.em (b = 111) with h14 | h14
  · refine R_top h14 ?_
    refine R_ret 3 (pcr := 156) (v := some (.int (-1))) (h' := mk M T) (fun _ => rfl) ?_
    exact ⟨by rw [h14]; rfl, rfl⟩
  rcases Decidable.em (b = 112) with h15 | h15
  · refine R_top h15 ?_
    refine R_ret 3 (pcr := 156) (v := some (.int (-1))) (h' := mk M T) (fun _ => rfl) ?_
    exact ⟨by rw [h15]; rfl, rfl⟩
  rcases Decidable.em (b = 113) with h16 | h16
  · refine R_top h16 ?_
    refine R_ret 3 (pcr := 156) (v := some (.int (-1))) (h' := mk M T) (fun _ => rfl) ?_
    exact ⟨by rw [h16]; rfl, rfl⟩
  rcases Decidable.em (b = 114) with h17 | h17
  · refine R_top h17 ?_
    refine R_go 3 (pc' := 125) (L' := [some (.ref 64), some (.int b)]) (st' := [.int (M 61 16)]) (h' := mk M T) (fun _ => rfl) ?_
    refine R_top (y := 0) (hu) ?_
    refine R_ret 5 (pcr := 154) (v := some (.int (-1))) (h' := mk M T) (fun _ => rfl) ?_
    exact ⟨by rw [h17]; rfl, rfl⟩
  rcases Decidable.em (b = 115) with h18 | h18
  · refine R_top h18 ?_
    refine R_go 3 (pc' := 92) (L' := [some (.ref 64), some (.int b)]) (st' := [.int (M 61 16)]) (h' := mk M T) (fun _ => rfl) ?_
    refine R_top (y := 0) (hu) ?_
    refine R_ifn 4 (c := b = 115) (t := 109) (f := 105) (L' := [some (.ref 64), some (.int b)]) (st' := []) (h' := mk M T) (fun _ => rfl) (fun h19 => ?_) (fun h19 => ?_)
    · refine R_ifn 3 (c := b = 102) (t := 119) (f := 115) (L' := [some (.ref 64), some (.int b)]) (st' := []) (h' := mk M T) (fun _ => rfl) (fun h20 => ?_) (fun h20 => ?_)
      · refine R_ret 2 (pcr := 120) (v := some (.int 2)) (h' := mk M T) (fun _ => rfl) ?_
        exact absurd h18 h19
      · refine R_ret 3 (pcr := 120) (v := some (.int 1)) (h' := mk M T) (fun _ => rfl) ?_
        exact absurd h18 h19
    · refine R_ret 3 (pcr := 120) (v := some (.int 0)) (h' := mk M T) (fun _ => rfl) ?_
      exact ⟨by rw [h19]; rfl, rfl⟩
  rcases Decidable.em (b = 116) with h21 | h21
  · refine R_top h21 ?_
    refine R_ret 3 (pcr := 156) (v := some (.int (-1))) (h' := mk M T) (fun _ => rfl) ?_
    exact ⟨by rw [h21]; rfl, rfl⟩
  rcases Decidable.em (b = 117) with h22 | h22
  · refine R_top h22 ?_
    refine R_ret 3 (pcr := 156) (v := some (.int (-1))) (h' := mk M T) (fun _ => rfl) ?_
    exact ⟨by rw [h22]; rfl, rfl⟩
  rcases Decidable.em (b = 118) with h23 | h23
  · refine R_top h23 ?_
    refine R_ret 3 (pcr := 156) (v := some (.int (-1))) (h' := mk M T) (fun _ => rfl) ?_
    exact ⟨by rw [h23]; rfl, rfl⟩
  rcases Decidable.em (b = 119) with h24 | h24
  · refine R_top h24 ?_
    refine R_go 3 (pc' := 125) (L' := [some (.ref 64), some (.int b)]) (st' := [.int (M 61 16)]) (h' := mk M T) (fun _ => rfl) ?_
    refine R_top (y := 0) (hu) ?_
    refine R_ret 5 (pcr := 154) (v := some (.int (-1))) (h' := mk M T) (fun _ => rfl) ?_
    exact ⟨by rw [h24]; rfl, rfl⟩
  refine R_tswd (t := 155) rfl (by have := lv_neT h1 (a := 102) rfl; have := lv_neT h4 (a := 103) rfl; have := lv_neT h5 (a := 104) rfl; have := lv_neT h6 (a := 105) rfl; have := lv_neT h7 (a := 106) rfl; have := lv_neT h8 (a := 107) rfl; have := lv_neT h11 (a := 108) rfl; have := lv_neT h12 (a := 109) rfl; have := lv_neT h13 (a := 110) rfl; have := lv_neT h14 (a := 111) rfl; have := lv_neT h15 (a := 112) rfl; have := lv_neT h16 (a := 113) rfl; have := lv_neT h17 (a := 114) rfl; have := lv_neT h18 (a := 115) rfl; have := lv_neT h21 (a := 116) rfl; have := lv_neT h22 (a := 117) rfl; have := lv_neT h23 (a := 118) rfl; have := lv_neT h24 (a := 119) rfl; omega) rfl ?_
  refine R_ret 2 (pcr := 156) (v := some (.int (-1))) (h' := mk M T) (fun _ => rfl) ?_
  exact ⟨by unfold tp_nm0; rw [if_neg ‹¬ b = 102›, if_neg ‹¬ b = 107›, if_neg ‹¬ b = 115›], rfl⟩
set_option maxRecDepth 100000 in
set_option maxHeartbeats 4000000 in
theorem tm_nameOf_1 {ro : xRO} {d : Nat} {M : xM} {T : Nat} {b : Int32} (hu : M 61 16 = 1) : Rn ro d M_X8_nameOf 0 [some (.ref 64), some (.int b)] [] (mk M T) (fun r h => r = some (.int (tp_nm1 b)) ∧ h = mk M T) := by
  refine R_go 1 (pc' := 1) (L' := [some (.ref 64), some (.int b)]) (st' := [.int b]) (h' := mk M T) (fun _ => rfl) ?_
  rcases Decidable.em (b = 102) with h1 | h1
  · refine R_top h1 ?_
    refine R_go 3 (pc' := 92) (L' := [some (.ref 64), some (.int b)]) (st' := [.int (M 61 16)]) (h' := mk M T) (fun _ => rfl) ?_
    refine R_top (y := 1) (hu) ?_
    refine R_ret 4 (pcr := 120) (v := some (.int (-1))) (h' := mk M T) (fun _ => rfl) ?_
    exact ⟨by rw [h1]; rfl, rfl⟩
  rcases Decidable.em (b = 103) with h2 | h2
  · refine R_top h2 ?_
    refine R_ret 3 (pcr := 156) (v := some (.int (-1))) (h' := mk M T) (fun _ => rfl) ?_
    exact ⟨by rw [h2]; rfl, rfl⟩
  rcases Decidable.em (b = 104) with h3 | h3
  · refine R_top h3 ?_
    refine R_go 3 (pc' := 125) (L' := [some (.ref 64), some (.int b)]) (st' := [.int (M 61 16)]) (h' := mk M T) (fun _ => rfl) ?_
    refine R_top (y := 1) (hu) ?_
    refine R_ifn 5 (c := b = 114) (t := 143) (f := 139) (L' := [some (.ref 64), some (.int b)]) (st' := []) (h' := mk M T) (fun _ => rfl) (fun h4 => ?_) (fun h4 => ?_)
    · refine R_ifn 3 (c := b = 119) (t := 153) (f := 149) (L' := [some (.ref 64), some (.int b)]) (st' := []) (h' := mk M T) (fun _ => rfl) (fun h5 => ?_) (fun h5 => ?_)
      · refine R_ret 2 (pcr := 154) (v := some (.int 2)) (h' := mk M T) (fun _ => rfl) ?_
        exact ⟨by rw [h3]; rfl, rfl⟩
      · refine R_ret 3 (pcr := 154) (v := some (.int 1)) (h' := mk M T) (fun _ => rfl) ?_
        exact ⟨by rw [h5]; rfl, rfl⟩
    · refine R_ret 3 (pcr := 154) (v := some (.int 0)) (h' := mk M T) (fun _ => rfl) ?_
      exact ⟨by rw [h4]; rfl, rfl⟩
  rcases Decidable.em (b = 105) with h6 | h6
  · refine R_top h6 ?_
    refine R_ret 3 (pcr := 156) (v := some (.int (-1))) (h' := mk M T) (fun _ => rfl) ?_
    exact ⟨by rw [h6]; rfl, rfl⟩
  rcases Decidable.em (b = 106) with h7 | h7
  · refine R_top h7 ?_
    refine R_ret 3 (pcr := 156) (v := some (.int (-1))) (h' := mk M T) (fun _ => rfl) ?_
    exact ⟨by rw [h7]; rfl, rfl⟩
  rcases Decidable.em (b = 107) with h8 | h8
  · refine R_top h8 ?_
    refine R_go 3 (pc' := 92) (L' := [some (.ref 64), some (.int b)]) (st' := [.int (M 61 16)]) (h' := mk M T) (fun _ => rfl) ?_
    refine R_top (y := 1) (hu) ?_
    refine R_ret 4 (pcr := 120) (v := some (.int (-1))) (h' := mk M T) (fun _ => rfl) ?_
    exact ⟨by rw [h8]; rfl, rfl⟩
  rcases Decidable.em (b = 108) with h9 | h9
  · refine R_top h9 ?_
    refine R_ret 3 (pcr := 156) (v := some (.int (-1))) (h' := mk M T) (fun _ => rfl) ?_
    exact ⟨by rw [h9]; rfl, rfl⟩
  rcases Decidable.em (b = 109) with h10 | h10
  · refine R_top h10 ?_
    refine R_ret 3 (pcr := 156) (v := some (.int (-1))) (h' := mk M T) (fun _ => rfl) ?_
    exact ⟨by rw [h10]; rfl, rfl⟩
  rcases Decidable.em (b = 110) with h11 | h11
  · refine R_top h11 ?_
    refine R_ret 3 (pcr := 156) (v := some (.int (-1))) (h' := mk M T) (fun _ => rfl) ?_
    exact ⟨by rw [h11]; rfl, rfl⟩
  rcases Decidable.em (b = 111) with h12 | h12
  · refine R_top h12 ?_
    refine R_ret 3 (pcr := 156) (v := some (.int (-1))) (h' := mk M T) (fun _ => rfl) ?_
    exact ⟨by rw [h12]; rfl, rfl⟩
  rcases Decidable.em (b = 112) with h13 | h13
  · refine R_top h13 ?_
    refine R_ret 3 (pcr := 156) (v := some (.int (-1))) (h' := mk M T) (fun _ => rfl) ?_
    exact ⟨by rw [h13]; rfl, rfl⟩
  rcases Decidable.em (b = 113) with h14 | h14
  · refine R_top h14 ?_
    refine R_ret 3 (pcr := 156) (v := some (.int (-1))) (h' := mk M T) (fun _ => rfl) ?_
    exact ⟨by rw [h14]; rfl, rfl⟩
  rcases Decidable.em (b = 114) with h15 | h15
  · refine R_top h15 ?_
    refine R_go 3 (pc' := 125) (L' := [some (.ref 64), some (.int b)]) (st' := [.int (M 61 16)]) (h' := mk M T) (fun _ => rfl) ?_
    refine R_top (y := 1) (hu) ?_
    refine R_ifn 5 (c := b = 114) (t := 143) (f := 139) (L' := [some (.ref 64), some (.int b)]) (st' := []) (h' := mk M T) (fun _ => rfl) (fun h16 => ?_) (fun h16 => ?_)
    · refine R_ifn 3 (c := b = 119) (t := 153) (f := 149) (L' := [some (.ref 64), some (.int b)]) (st' := []) (h' := mk M T) (fun _ => rfl) (fun h17 => ?_) (fun h17 => ?_)
      · refine R_ret 2 (pcr := 154) (v := some (.int 2)) (h' := mk M T) (fun _ => rfl) ?_
        exact absurd h15 h16
      · refine R_ret 3 (pcr := 154) (v := some (.int 1)) (h' := mk M T) (fun _ => rfl) ?_
        exact absurd h15 h16
    · refine R_ret 3 (pcr := 154) (v := some (.int 0)) (h' := mk M T) (fun _ => rfl) ?_
      exact ⟨by rw [h16]; rfl, rfl⟩
  rcases Decidable.em (b = 115) with h18 | h18
  · refine R_top h18 ?_
    refine R_go 3 (pc' := 92) (L' := [some (.ref 64), some (.int b)]) (st' := [.int (M 61 16)]) (h' := mk M T) (fun _ => rfl) ?_
    refine R_top (y := 1) (hu) ?_
    refine R_ret 4 (pcr := 120) (v := some (.int (-1))) (h' := mk M T) (fun _ => rfl) ?_
    exact ⟨by rw [h18]; rfl, rfl⟩
  rcases Decidable.em (b = 116) with h19 | h19
  · refine R_top h19 ?_
    refine R_ret 3 (pcr := 156) (v := some (.int (-1))) (h' := mk M T) (fun _ => rfl) ?_
    exact ⟨by rw [h19]; rfl, rfl⟩
  rcases Decidable.em (b = 117) with h20 | h20
  · refine R_top h20 ?_
    refine R_ret 3 (pcr := 156) (v := some (.int (-1))) (h' := mk M T) (fun _ => rfl) ?_
    exact ⟨by rw [h20]; rfl, rfl⟩
  rcases Decidable.em (b = 118) with h21 | h21
  · refine R_top h21 ?_
    refine R_ret 3 (pcr := 156) (v := some (.int (-1))) (h' := mk M T) (fun _ => rfl) ?_
    exact ⟨by rw [h21]; rfl, rfl⟩
  rcases Decidable.em (b = 119) with h22 | h22
  · refine R_top h22 ?_
    refine R_go 3 (pc' := 125) (L' := [some (.ref 64), some (.int b)]) (st' := [.int (M 61 16)]) (h' := mk M T) (fun _ => rfl) ?_
    refine R_top (y := 1) (hu) ?_
    refine R_ifn 5 (c := b = 114) (t := 143) (f := 139) (L' := [some (.ref 64), some (.int b)]) (st' := []) (h' := mk M T) (fun _ => rfl) (fun h23 => ?_) (fun h23 => ?_)
    · refine R_ifn 3 (c := b = 119) (t := 153) (f := 149) (L' := [some (.ref 64), some (.int b)]) (st' := []) (h' := mk M T) (fun _ => rfl) (fun h24 => ?_) (fun h24 => ?_)
      · refine R_ret 2 (pcr := 154) (v := some (.int 2)) (h' := mk M T) (fun _ => rfl) ?_
        exact absurd h22 h24
      · refine R_ret 3 (pcr := 154) (v := some (.int 1)) (h' := mk M T) (fun _ => rfl) ?_
        exact ⟨by rw [h24]; rfl, rfl⟩
    · refine R_ret 3 (pcr := 154) (v := some (.int 0)) (h' := mk M T) (fun _ => rfl) ?_
      exact ⟨by rw [h23]; rfl, rfl⟩
  refine R_tswd (t := 155) rfl (by have := lv_neT h1 (a := 102) rfl; have := lv_neT h2 (a := 103) rfl; have := lv_neT h3 (a := 104) rfl; have := lv_neT h6 (a := 105) rfl; have := lv_neT h7 (a := 106) rfl; have := lv_neT h8 (a := 107) rfl; have := lv_neT h9 (a := 108) rfl; have := lv_neT h10 (a := 109) rfl; have := lv_neT h11 (a := 110) rfl; have := lv_neT h12 (a := 111) rfl; have := lv_neT h13 (a := 112) rfl; have := lv_neT h14 (a := 113) rfl; have := lv_neT h15 (a := 114) rfl; have := lv_neT h18 (a := 115) rfl; have := lv_neT h19 (a := 116) rfl; have := lv_neT h20 (a := 117) rfl; have := lv_neT h21 (a := 118) rfl; have := lv_neT h22 (a := 119) rfl; omega) rfl ?_
  refine R_ret 2 (pcr := 156) (v := some (.int (-1))) (h' := mk M T) (fun _ => rfl) ?_
  exact ⟨by unfold tp_nm1; rw [if_neg ‹¬ b = 104›, if_neg ‹¬ b = 114›, if_neg ‹¬ b = 119›], rfl⟩
theorem tm_nameOf {ro : xRO} {d T : Nat} {M Mb : xM} {f : Nat → Int32} {L u o : Nat} {s : tpS} {b : Int32} (hx : tpM f L u Mb o s M) (u1 : u ≤ 1) : Rn ro d M_X8_nameOf 0 [some (.ref 64), some (.int b)] [] (mk M T) (fun r h => r = some (.int (tp_nm u b)) ∧ h = mk M T) := by
  rcases (show u = 0 ∨ u = 1 by omega) with rfl | rfl
  · exact tm_nameOf_0 hx.2.2.2.1.2.2
  · exact tm_nameOf_1 hx.2.2.2.1.2.2
set_option maxRecDepth 100000 in
set_option maxHeartbeats 4000000 in
theorem tm_step {ro : xRO} {d : Nat} {M : xM} {T : Nat} {k : Nat} (hk : M 61 12 = nI k) (k60 : k < 60) {a w : Int32} : Rn ro d M_X8_step 0 [some (.ref 64), some (.int a), some (.int w)] [] (mk M T) (fun r h => r = none ∧ h = mk (up (up (up M 68 k a) 69 k w) 61 12 (nI (k + 1))) T) := by
  refine R_go 2 (pc' := 4) (L' := [some (.ref 64), some (.int a), some (.int w)]) (st' := [.int (M 61 12)]) (h' := mk M T) (fun _ => rfl) ?_
  refine R_top (y := nI k) (hk) ?_
  refine R_if 4 (c := 60 ≤ (nI k)) (t := 42) (f := 12) (L' := [some (.ref 64), some (.int a), some (.int w)]) (st' := []) (h' := mk M T) (fun _ => rfl) (fun h1 => ?_) (fun h1 => ?_)
  · replace h1 : 60 ≤ k := (nI_leI (a := 60) (b := k) (by omega) (by omega)).mp h1
    omega
  · replace h1 : ¬ 60 ≤ k := fun q => h1 ((nI_leI (a := 60) (b := k) (by omega) (by omega)).mpr q)
    refine R_go 4 (pc' := 20) (L' := [some (.ref 64), some (.int a), some (.int w)]) (st' := [.int (M 61 12), .ref 71]) (h' := mk M T) (fun _ => rfl) ?_
    refine R_top (y := nI k) (hk) ?_
    refine R_go 1 (pc' := 21) (L' := [some (.ref 64), some (.int a), some (.int w)]) (st' := [.int a, .int (nI k), .ref 71]) (h' := mk M T) (fun _ => rfl) ?_
    refine R_iast (c := 68) (n := 60) (j := k) rfl rfl (by omega) (by decide) ?_
    refine R_go 4 (pc' := 30) (L' := [some (.ref 64), some (.int a), some (.int w)]) (st' := [.int ((up M 68 k a) 61 12), .ref 72]) (h' := mk (up M 68 k a) T) (fun _ => rfl) ?_
    refine R_top (y := nI k) (hk) ?_
    refine R_go 1 (pc' := 31) (L' := [some (.ref 64), some (.int a), some (.int w)]) (st' := [.int w, .int (nI k), .ref 72]) (h' := mk (up M 68 k a) T) (fun _ => rfl) ?_
    refine R_iast (c := 69) (n := 60) (j := k) rfl rfl (by omega) (by decide) ?_
    refine R_go 3 (pc' := 37) (L' := [some (.ref 64), some (.int a), some (.int w)]) (st' := [.int ((up (up M 68 k a) 69 k w) 61 12), .ref 64]) (h' := mk (up (up M 68 k a) 69 k w) T) (fun _ => rfl) ?_
    refine R_top (y := nI k) (hk) ?_
    refine R_go 2 (pc' := 39) (L' := [some (.ref 64), some (.int a), some (.int w)]) (st' := [.int (nI k + 1), .ref 64]) (h' := mk (up (up M 68 k a) 69 k w) T) (fun _ => rfl) ?_
    refine R_top (nI_add k 1) ?_
    refine R_ret 2 (pcr := 42) (v := none) (h' := mk (up (up (up M 68 k a) 69 k w) 61 12 (nI (k + 1))) T) (fun _ => rfl) ?_
    exact ⟨rfl, rfl⟩
set_option maxRecDepth 100000 in
set_option maxHeartbeats 4000000 in
theorem tm_step_o {ro : xRO} {d : Nat} {M : xM} {T : Nat} (hk : M 61 12 = nI 60) {a w : Int32} : Rn ro d M_X8_step 0 [some (.ref 64), some (.int a), some (.int w)] [] (mk M T) (fun r h => r = none ∧ h = mk M T) := by
  refine R_go 2 (pc' := 4) (L' := [some (.ref 64), some (.int a), some (.int w)]) (st' := [.int (M 61 12)]) (h' := mk M T) (fun _ => rfl) ?_
  refine R_top (y := 60) (hk) ?_
  refine R_ret 5 (pcr := 42) (v := none) (h' := mk M T) (fun _ => rfl) ?_
  exact ⟨rfl, rfl⟩
theorem tm_stepN {ro : xRO} {d T : Nat} {M Mb : xM} {p L : Nat} {a w : Int32} (hx : tpN L Mb p M) : Rn ro d M_X8_step 0 [some (.ref 64), some (.int a), some (.int w)] [] (mk M T) (fun r h => ∃ M', tpN L Mb p M' ∧ r = none ∧ h = mk M' T) := by
  obtain ⟨h1, ⟨k, k60, hk⟩, h3, h4, h5, h6⟩ := hx
  rcases Nat.lt_or_ge k 60 with q | q
  · refine (tm_step hk q).imp (fun _ _ z => ⟨up (up (up M 68 k a) 69 k w) 61 12 (nI (k + 1)), ⟨h1, ⟨k + 1, q, up_at⟩, h3, h4, fun c a b e => ?_, fun j hj => ?_⟩, z⟩)
    · rw [up_ne a, up_ne e, up_ne b]
      exact h5 c a b e
    · rw [up_nj (by omega), up_ne (by omega), up_ne (by omega)]
      exact h6 j hj
  · obtain rfl : k = 60 := by omega
    exact (tm_step_o hk).imp (fun _ _ z => ⟨M, ⟨h1, ⟨60, k60, hk⟩, h3, h4, h5, h6⟩, z⟩)
