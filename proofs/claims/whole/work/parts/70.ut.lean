/-! OPERATIONS best, share: the search of the class -/
theorem SX_leaf {M0 Mb M : xM} {P sm : Nat} {pa : Nat → Nat} {st : DS} (h6P : P ≤ 6) (hx : SX M0 Mb P st M) (hp : ∀ j, j < P → M 43 j = nI (pa j)) (s9 : sm ≤ 99999) : SX M0 Mb P (some sm, pa) (upA (up M 39 5 (nI sm)) 42 (va_cpy ((up M 39 5 (nI sm)) 43) ((up M 39 5 (nI sm)) 42) 0 0 8)) ∧ ∀ j, j < P → (upA (up M 39 5 (nI sm)) 42 (va_cpy ((up M 39 5 (nI sm)) 43) ((up M 39 5 (nI sm)) 42) 0 0 8)) 43 j = nI (pa j) := by
  refine ⟨⟨⟨fun c a b d e => ?_, fun j a b => ?_⟩, hx.2.1.frame ?_ ?_, ?_, fun b hb => ⟨by cases hb; exact s9, fun j hj => ?_⟩, fun c a1 a2 a3 a4 a5 a6 a7 => ?_⟩, fun j hj => ?_⟩
  · rw [upA_ne (by omega), up_ne (by omega)]; exact hx.1.1 c a b d e
  · rw [upA_ne (by omega), up_ne (by omega)]; exact hx.1.2 j a b
  · rw [upA_ne (by omega), up_ne (by omega)]
  · rw [upA_ne (by omega), up_ne (by omega)]
  · rw [upA_ne (by omega), up_at]; rfl
  · rw [upA_eq]
    unfold va_cpy
    rw [if_pos (by omega), up_ne (by omega), show 0 + (j - 0) = j by omega]
    exact hp j hj
  · rw [upA_ne a6, up_ne a3]; exact hx.2.2.2.2 c a1 a2 a3 a4 a5 a6 a7
  · rw [upA_ne (by omega), up_ne (by omega)]; exact hp j hj
theorem sk_all {ro : xRO} {d : Nat} {T : Nat} {M0 Mb : xM} (h0 : Rel M0) {P : Nat} (hP0 : M0 62 6 = nI P) (h6P : P ≤ 6) : ∀ (k pl : Nat) (sn : Int32) (hr sm : Nat) (pa : Nat → Nat) (st : DS) (M : xM), pl + k = P → hr ≤ 23 + 9 * pl → sm ≤ 9999 * pl → SX M0 Mb P st M → (∀ j, j < pl → M 43 j = nI (pa j)) → Rn ro (d + k + 10) M_X3_seek 0 [some (.ref 42), some (.ref 4), some (.int (nI pl)), some (.int sn), some (.int (nI hr)), some (.int (nI sm)), none, none, none] [] (mk M T) (fun rr h => ∃ M', (SX M0 Mb P (dfs M0 P k pl sn hr sm pa st) M' ∧ ∀ j, j < pl → M' 43 j = nI (pa j)) ∧ rr = none ∧ h = mk M' T) := by
  intro k
  induction k with
  | zero =>
    intro pl sn hr sm pa st M hk hh hs hx hp
    obtain rfl : pl = P := by omega
    show Rn ro (d + 1 + 9) _ _ _ _ _ _
    unfold dfs bet
    cases hst : st.1 with
    | none =>
      have hb := hx.2.2.1
      rw [hst] at hb
      exact sk_leaf_n (Mb := Mb) (pl := 0) h0 hP0 h6P hx.1 (by omega) hb ⟨_, SX_leaf h6P hx hp (by omega), rfl, rfl⟩
    | some b =>
      have hb := hx.2.2.1
      rw [hst] at hb
      have b9 := (hx.2.2.2.1 b hst).1
      dsimp only
      by_cases q : b < sm
      · rw [if_pos q]
        exact sk_leaf_b (Mb := Mb) (pl := 0) h0 hP0 h6P hx.1 (by omega) hb b9 q ⟨_, SX_leaf h6P hx hp (by omega), rfl, rfl⟩
      · rw [if_neg q]
        exact sk_leaf_o (Mb := Mb) (pl := 0) h0 hP0 h6P hx.1 (by omega) hb b9 q ⟨M, ⟨hx, hp⟩, rfl, rfl⟩
  | succ k ih =>
    intro pl sn hr sm pa st M hk hh hs hx hp
    have inner : ∀ (r i : Nat) (w1 w2 : Option Value) (M : xM), i + r = P → SX M0 Mb P (itr (fun i s => if ((sn >>> ((nI i) &&& 31)) &&& 1) = 0 then dfs M0 P k (pl + 1) (sn ||| (1 <<< ((nI i) &&& 31))) (hr + tkN M0 i (rdN M0 0 i hr)) (sm + vlN M0 i (rdN M0 0 i hr)) (fun j => if j = pl then i else pa j) s else s) i st) M → (∀ j, j < pl → M 43 j = nI (pa j)) → Rn ro (d + (k + 1) + 1 + 9) M_X3_seek 48 [some (.ref 42), some (.ref 4), some (.int (nI pl)), some (.int sn), some (.int (nI hr)), some (.int (nI sm)), some (.int (nI i)), w1, w2] [] (mk M T) (fun rr h => ∃ M', (SX M0 Mb P (itr (fun i s => if ((sn >>> ((nI i) &&& 31)) &&& 1) = 0 then dfs M0 P k (pl + 1) (sn ||| (1 <<< ((nI i) &&& 31))) (hr + tkN M0 i (rdN M0 0 i hr)) (sm + vlN M0 i (rdN M0 0 i hr)) (fun j => if j = pl then i else pa j) s else s) P st) M' ∧ ∀ j, j < pl → M' 43 j = nI (pa j)) ∧ rr = none ∧ h = mk M' T) := by
      intro r
      induction r with
      | zero =>
        intro i w1 w2 M hi hx hp
        obtain rfl : i = P := by omega
        exact sk_out (Mb := Mb) h0 hP0 h6P hx.1 ⟨M, ⟨hx, hp⟩, rfl, rfl⟩
      | succ r ihr =>
        intro i w1 w2 M hi hx hp
        by_cases hu : ((sn >>> ((nI i) &&& 31)) &&& 1) = 0
        · refine sk_rec (Mb := Mb) h0 hP0 h6P hx.1 hx.2.1 (by omega) hu (by omega) (by omega) (A := fun M3 => SX M0 Mb P (itr (fun i s => if ((sn >>> ((nI i) &&& 31)) &&& 1) = 0 then dfs M0 P k (pl + 1) (sn ||| (1 <<< ((nI i) &&& 31))) (hr + tkN M0 i (rdN M0 0 i hr)) (sm + vlN M0 i (rdN M0 0 i hr)) (fun j => if j = pl then i else pa j) s else s) (i + 1) st) M3 ∧ ∀ j, j < pl → M3 43 j = nI (pa j)) (fun M2 f2 m2 px => ?_) (fun M3 w1 w2 h3 => ihr (i + 1) w1 w2 M3 (by omega) h3.1 h3.2)
          have t9 := (tkN_in M0 i (rdN M0 0 i hr)).2.2
          have v9 := (vlN_in M0 i (rdN M0 0 i hr)).2
          have w := ih (pl + 1) (sn ||| (1 <<< ((nI i) &&& 31))) (hr + tkN M0 i (rdN M0 0 i hr)) (sm + vlN M0 i (rdN M0 0 i hr)) (fun j => if j = pl then i else pa j) (itr (fun i s => if ((sn >>> ((nI i) &&& 31)) &&& 1) = 0 then dfs M0 P k (pl + 1) (sn ||| (1 <<< ((nI i) &&& 31))) (hr + tkN M0 i (rdN M0 0 i hr)) (sm + vlN M0 i (rdN M0 0 i hr)) (fun j => if j = pl then i else pa j) s else s) i st) M2 (by omega) (by omega) (by omega) ⟨f2, m2, by rw [px.1 39 (by omega) (by omega) (by omega) (by omega) (by omega)]; exact hx.2.2.1, fun b hb => ⟨(hx.2.2.2.1 b hb).1, fun j hj => by rw [px.1 42 (by omega) (by omega) (by omega) (by omega) (by omega)]; exact (hx.2.2.2.1 b hb).2 j hj⟩, fun c a1 a2 a3 a4 a5 a6 a7 => (px.1 c a1 a2 a4 a5 a7).trans (hx.2.2.2.2 c a1 a2 a3 a4 a5 a6 a7)⟩ (fun j hj => by
            rw [px.2, up_rd]
            by_cases q : j = pl
            · rw [if_pos ⟨rfl, q⟩, if_pos q]
            · rw [if_neg (fun z => q z.2), if_neg q]; exact hp j (by omega))
          rw [show d + k + 10 = d + (k + 1) + 1 + 8 by omega] at w
          refine w.imp (fun rr h q => ?_)
          obtain ⟨M', ⟨q1, q2⟩, q3, q4⟩ := q
          refine ⟨M', ⟨?_, fun j hj => ?_⟩, q3, q4⟩
          · have e : itr (fun i s => if ((sn >>> ((nI i) &&& 31)) &&& 1) = 0 then dfs M0 P k (pl + 1) (sn ||| (1 <<< ((nI i) &&& 31))) (hr + tkN M0 i (rdN M0 0 i hr)) (sm + vlN M0 i (rdN M0 0 i hr)) (fun j => if j = pl then i else pa j) s else s) (i + 1) st = dfs M0 P k (pl + 1) (sn ||| (1 <<< ((nI i) &&& 31))) (hr + tkN M0 i (rdN M0 0 i hr)) (sm + vlN M0 i (rdN M0 0 i hr)) (fun j => if j = pl then i else pa j) (itr (fun i s => if ((sn >>> ((nI i) &&& 31)) &&& 1) = 0 then dfs M0 P k (pl + 1) (sn ||| (1 <<< ((nI i) &&& 31))) (hr + tkN M0 i (rdN M0 0 i hr)) (sm + vlN M0 i (rdN M0 0 i hr)) (fun j => if j = pl then i else pa j) s else s) i st) := by
              show (if ((sn >>> ((nI i) &&& 31)) &&& 1) = 0 then _ else _) = _
              rw [if_pos hu]
            rw [e]
            exact q1
          · have := q2 j (by omega)
            rw [if_neg (by omega)] at this
            exact this
        · have e : itr (fun i s => if ((sn >>> ((nI i) &&& 31)) &&& 1) = 0 then dfs M0 P k (pl + 1) (sn ||| (1 <<< ((nI i) &&& 31))) (hr + tkN M0 i (rdN M0 0 i hr)) (sm + vlN M0 i (rdN M0 0 i hr)) (fun j => if j = pl then i else pa j) s else s) (i + 1) st = itr (fun i s => if ((sn >>> ((nI i) &&& 31)) &&& 1) = 0 then dfs M0 P k (pl + 1) (sn ||| (1 <<< ((nI i) &&& 31))) (hr + tkN M0 i (rdN M0 0 i hr)) (sm + vlN M0 i (rdN M0 0 i hr)) (fun j => if j = pl then i else pa j) s else s) i st := by
            show (if ((sn >>> ((nI i) &&& 31)) &&& 1) = 0 then _ else _) = _
            rw [if_neg hu]
          exact sk_skip (Mb := Mb) h0 hP0 h6P hx.1 (by omega) hu (ihr (i + 1) _ _ M (by omega) (by rw [e]; exact hx) hp)
    have w := inner P 0 none none M (Nat.zero_add P) hx hp
    rw [show d + (k + 1) + 10 = d + (k + 1) + 1 + 9 by omega]
    exact sk_in (Mb := Mb) h0 hP0 h6P hx.1 (by omega) w
