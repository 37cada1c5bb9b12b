/-! OPERATIONS best, share: the search of the model, whole -/
theorem TX_leaf {M0 Mb M : xM} {P sm : Nat} {pa : Nat → Nat} {st : DS} (hx : TX M0 Mb P st M) (hp : ∀ j, j < P → M 72 j = nI (pa j)) (s9 : sm ≤ 99999) : TX M0 Mb P (some sm, pa) (caM (up M 61 20 (nI sm)) 72 74 P) ∧ ∀ j, j < P → (caM (up M 61 20 (nI sm)) 72 74 P) 72 j = nI (pa j) := by
  refine ⟨⟨fun j a b c => ?_, ?_, fun b hb => ⟨by cases hb; exact s9, fun j hj => ?_⟩, ?_, fun c a1 a2 a3 a4 a5 => ?_, fun j hj => ?_⟩, fun j hj => ?_⟩
  · rw [caM_ne (by omega) (by omega), up_ne (by omega)]; exact hx.1 j a b c
  · rw [caM_ne (by omega) (by omega), up_at]; rfl
  · rw [caM_rd (by omega), if_pos ⟨rfl, hj⟩, up_ne (by omega)]; exact hp j hj
  · rw [caM_ne (by omega) (by omega), up_nj (by omega)]; exact hx.2.2.2.1
  · rw [caM_ne (by omega) a5, up_ne a1]; exact hx.2.2.2.2.1 c a1 a2 a3 a4 a5
  · rw [caM_ne (by omega) (by omega), up_nj hj]; exact hx.2.2.2.2.2 j hj
  · rw [caM_ne (by omega) (by omega), up_ne (by omega)]; exact hp j hj
theorem tk_all {ro : xRO} {d : Nat} {T : Nat} {M0 Mb : xM} (h0 : Rel M0) {P : Nat} (hP0 : M0 62 6 = nI P) (h6P : P ≤ 6) : ∀ (k pl : Nat) (sn : Int32) (hr sm : Nat) (pa : Nat → Nat) (st : DS) (M : xM), pl + k = P → hr ≤ 23 + 9 * pl → sm ≤ 9999 * pl → TX M0 Mb P st M → (∀ j, j < pl → M 72 j = nI (pa j)) → Rn ro (d + k + 10) M_X8_tries 0 [some (.ref 64), some (.int (nI pl)), some (.int sn), some (.int (nI hr)), some (.int (nI sm)), none, none, none, none] [] (mk M T) (fun rr h => ∃ M', (TX M0 Mb P (dfs M0 P k pl sn hr sm pa st) M' ∧ ∀ j, j < pl → M' 72 j = nI (pa j)) ∧ rr = none ∧ h = mk M' T) := by
  intro k
  induction k with
  | zero =>
    intro pl sn hr sm pa st M hk hh hs hx hp
    obtain rfl : pl = P := by omega
    show Rn ro (d + 1 + 9) _ _ _ _ _ _
    unfold dfs bet
    cases hst : st.1 with
    | none =>
      have hb := hx.2.1
      rw [hst] at hb
      exact (tk_leaf_n (Mb := Mb) (pl := 0) h0 hP0 h6P hx.1 (by omega) hb).imp (fun _ _ q => ⟨_, TX_leaf hx hp (by omega), q.1, q.2⟩)
    | some b =>
      have hb := hx.2.1
      rw [hst] at hb
      have b9 := (hx.2.2.1 b hst).1
      dsimp only
      by_cases q : b < sm
      · rw [if_pos q]
        exact (tk_leaf_b (Mb := Mb) (pl := 0) h0 hP0 h6P hx.1 (by omega) hb b9 q).imp (fun _ _ q => ⟨_, TX_leaf hx hp (by omega), q.1, q.2⟩)
      · rw [if_neg q]
        exact tk_leaf_o (Mb := Mb) (pl := 0) h0 hP0 h6P hx.1 (by omega) hb b9 q ⟨M, ⟨hx, hp⟩, rfl, rfl⟩
  | succ k ih =>
    intro pl sn hr sm pa st M hk hh hs hx hp
    have inner : ∀ (r i : Nat) (w1 w2 w3 : Option Value) (M : xM), i + r = P → TX M0 Mb P (itr (fun i s => if ((sn >>> ((nI i) &&& 31)) &&& 1) = 0 then dfs M0 P k (pl + 1) (sn ||| (1 <<< ((nI i) &&& 31))) (hr + tkN M0 i (rdN M0 0 i hr)) (sm + vlN M0 i (rdN M0 0 i hr)) (fun j => if j = pl then i else pa j) s else s) i st) M → (∀ j, j < pl → M 72 j = nI (pa j)) → Rn ro (d + (k + 1) + 1 + 9) M_X8_tries 59 [some (.ref 64), some (.int (nI pl)), some (.int sn), some (.int (nI hr)), some (.int (nI sm)), some (.int (nI i)), w1, w2, w3] [] (mk M T) (fun rr h => ∃ M', (TX M0 Mb P (itr (fun i s => if ((sn >>> ((nI i) &&& 31)) &&& 1) = 0 then dfs M0 P k (pl + 1) (sn ||| (1 <<< ((nI i) &&& 31))) (hr + tkN M0 i (rdN M0 0 i hr)) (sm + vlN M0 i (rdN M0 0 i hr)) (fun j => if j = pl then i else pa j) s else s) P st) M' ∧ ∀ j, j < pl → M' 72 j = nI (pa j)) ∧ rr = none ∧ h = mk M' T) := by
      intro r
      induction r with
      | zero =>
        intro i w1 w2 w3 M hi hx hp
        obtain rfl : i = P := by omega
        exact tk_out (Mb := Mb) h0 hP0 h6P hx.1 ⟨M, ⟨hx, hp⟩, rfl, rfl⟩
      | succ r ihr =>
        intro i w1 w2 w3 M hi hx hp
        by_cases hu : ((sn >>> ((nI i) &&& 31)) &&& 1) = 0
        · refine tk_rec (Mb := Mb) h0 hP0 h6P hx.1 hx.2.2.2.1 (by omega) hu (by omega) (by omega) (A := fun M3 => TX M0 Mb P (itr (fun i s => if ((sn >>> ((nI i) &&& 31)) &&& 1) = 0 then dfs M0 P k (pl + 1) (sn ||| (1 <<< ((nI i) &&& 31))) (hr + tkN M0 i (rdN M0 0 i hr)) (sm + vlN M0 i (rdN M0 0 i hr)) (fun j => if j = pl then i else pa j) s else s) (i + 1) st) M3 ∧ ∀ j, j < pl → M3 72 j = nI (pa j)) (fun M2 f2 px => ?_) (fun M3 w1 w2 w3 h3 => ihr (i + 1) w1 w2 w3 M3 (by omega) h3.1 h3.2)
          have t9 := (tkN_in M0 i (rdN M0 0 i hr)).2.2
          have v9 := (vlN_in M0 i (rdN M0 0 i hr)).2
          have e61 := px.1 61 (by omega) (by omega) (by omega)
          have w := ih (pl + 1) (sn ||| (1 <<< ((nI i) &&& 31))) (hr + tkN M0 i (rdN M0 0 i hr)) (sm + vlN M0 i (rdN M0 0 i hr)) (fun j => if j = pl then i else pa j) (itr (fun i s => if ((sn >>> ((nI i) &&& 31)) &&& 1) = 0 then dfs M0 P k (pl + 1) (sn ||| (1 <<< ((nI i) &&& 31))) (hr + tkN M0 i (rdN M0 0 i hr)) (sm + vlN M0 i (rdN M0 0 i hr)) (fun j => if j = pl then i else pa j) s else s) i st) M2 (by omega) (by omega) (by omega) ⟨f2, by rw [e61]; exact hx.2.1, fun b hb => ⟨(hx.2.2.1 b hb).1, fun j hj => by rw [px.1 74 (by omega) (by omega) (by omega)]; exact (hx.2.2.1 b hb).2 j hj⟩, by rw [e61]; exact hx.2.2.2.1, fun c a1 a2 a3 a4 a5 => (px.1 c a2 a3 a4).trans (hx.2.2.2.2.1 c a1 a2 a3 a4 a5), fun j hj => by rw [e61]; exact hx.2.2.2.2.2 j hj⟩ (fun j hj => by
            rw [px.2, up_rd]
            by_cases q : j = pl
            · rw [if_pos ⟨rfl, q⟩, if_pos q]
            · rw [if_neg (fun z => q z.2), if_neg q]; exact hp j (by omega))
          rw [show d + k + 10 = d + (k + 1) + 1 + 8 by omega] at w
          refine w.imp (fun rr h q => ?_)
          obtain ⟨M', ⟨q1, q2⟩, q3, q4⟩ := q
          refine ⟨M', ⟨?_, fun j hj => ?_⟩, q3, q4⟩
          · have e : itr (fun i s => if ((sn >>> ((nI i) &&& 31)) &&& 1) = 0 then dfs M0 P k (pl + 1) (sn ||| (1 <<< ((nI i) &&& 31))) (hr + tkN M0 i (rdN M0 0 i hr)) (sm + vlN M0 i (rdN M0 0 i hr)) (fun j => if j = pl then i else pa j) s else s) (i + 1) st = dfs M0 P k (pl + 1) (sn ||| (1 <<< ((nI i) &&& 31))) (hr + tkN M0 i (rdN M0 0 i hr)) (sm + vlN M0 i (rdN M0 0 i hr)) (fun j => if j = pl then i else pa j) (itr (fun i s => if ((sn >>> ((nI i) &&& 31)) &&& 1) = 0 then dfs M0 P k (pl + 1) (sn ||| (1 <<< ((nI i) &&& 31))) (hr + tkN M0 i (rdN M0 0 i hr)) (sm + vlN M0 i (rdN M0 0 i hr)) (fun j => if j = pl then i else pa j) s else s) i st) := by
              show (if ((sn >>> ((nI i) &&& 31)) &&& 1) = 0 then _ else _) = _
              rw [if_pos hu]
            rw [e]
            exact q1
          · have := q2 j (by omega)
            rw [if_neg (by omega)] at this
            exact this
        · have e : itr (fun i s => if ((sn >>> ((nI i) &&& 31)) &&& 1) = 0 then dfs M0 P k (pl + 1) (sn ||| (1 <<< ((nI i) &&& 31))) (hr + tkN M0 i (rdN M0 0 i hr)) (sm + vlN M0 i (rdN M0 0 i hr)) (fun j => if j = pl then i else pa j) s else s) (i + 1) st = itr (fun i s => if ((sn >>> ((nI i) &&& 31)) &&& 1) = 0 then dfs M0 P k (pl + 1) (sn ||| (1 <<< ((nI i) &&& 31))) (hr + tkN M0 i (rdN M0 0 i hr)) (sm + vlN M0 i (rdN M0 0 i hr)) (fun j => if j = pl then i else pa j) s else s) i st := by
            show (if ((sn >>> ((nI i) &&& 31)) &&& 1) = 0 then _ else _) = _
            rw [if_neg hu]
          exact tk_skip (Mb := Mb) h0 hP0 h6P hx.1 (by omega) hu (ihr (i + 1) _ _ _ M (by omega) (by rw [e]; exact hx) hp)
    have w := inner P 0 none none none M (Nat.zero_add P) hx hp
    rw [show d + (k + 1) + 10 = d + (k + 1) + 1 + 9 by omega]
    exact tk_in (Mb := Mb) h0 hP0 h6P hx.1 (by omega) w
