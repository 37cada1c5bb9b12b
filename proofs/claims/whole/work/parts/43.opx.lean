/-! OPERATION move -/
theorem upA_ne {M : xM} {k a : Nat} {f : Nat → Int32} (h : a ≠ k) : upA M k f a = M a := by
  unfold upA
  rw [nbeq_ne h, cond_false]
theorem upA_eq {M : xM} {k : Nat} {f : Nat → Int32} : upA M k f k = f := by
  unfold upA
  rw [nbeq_t, cond_true]
theorem upA_rd {M : xM} {k a b : Nat} {f : Nat → Int32} : upA M k f a b = if a = k then f b else M a b := by
  by_cases h : a = k
  · subst h
    rw [upA_eq, if_pos rfl]
  · rw [upA_ne h, if_neg h]
theorem inst_neA {M : xM} {T k c : Nat} {f : Nat → Int32} {s : xS} (h : c ≠ k) : inst (upA M k f) T c s = inst M T c s := by
  match s with
  | .inl (ci, ks) =>
    rw [inst_o, inst_o]
    congr 3
    funext j r
    unfold xFd
    rw [upA_ne h]
  | .inr (.inl n) => rw [inst_a, inst_a, upA_ne h]
  | .inr (.inr (ci, rs)) => rfl
theorem mk_upA {M : xM} {T k n : Nat} {f : Nat → Int32} (hs : shp[k]? = some (.inr (.inl n))) : mk (upA M k f) T = (mk M T).set k (.inr (.inl (n, f))) := by
  apply List.ext_getElem?
  intro c
  by_cases hc : k = c
  · subst hc
    rw [mk_at hs, List.getElem?_set_self, inst_a, upA_eq]
    exact (List.getElem?_eq_some_iff.mp (mk_at (M := M) (T := T) hs)).1
  · rw [List.getElem?_set_ne hc]
    cases h : shp[c]? with
    | none => unfold mk; rw [ixL_0, ixL_0, h]; rfl
    | some s2 => rw [mk_at h, mk_at h, inst_neA (Ne.symm hc)]
theorem stp_ist {ro : xRO} {md : MD} {k pc : Nat} {L : xL} {st : List Value} {h : xH} : stp ro md (.invokestatic k) pc L st h = xNat md k pc L st h := rfl
theorem xNat7 {md : MD} {idx pc a b n0 n1 : Nat} {f g : Nat → Int32} {y : MD} {L : xL} {r : List Value} {h : xH} {n dp sp : Int32} (hm : mlk (mdK md) idx = some (7, y)) (ha : h[a]? = some (.inr (.inl (n0, f)))) (hb : h[b]? = some (.inr (.inl (n1, g)))) : xNat md idx pc L (.int n :: .int dp :: .ref (b + 3) :: .int sp :: .ref (a + 3) :: r) h = if sp < 0 ∨ dp < 0 ∨ n < 0 ∨ n0 < sp.toNatClampNeg + n.toNatClampNeg ∨ n1 < dp.toNatClampNeg + n.toNatClampNeg then none else bif Nat.ble r.length 4 then some (pc + 3, L, r, h.set b (.inr (.inl (n1, va_cpy f g sp.toNatClampNeg dp.toNatClampNeg n.toNatClampNeg))), 0, 0) else none := by
  unfold xNat
  rw [hm]
  show (match h[a]?, h[b]? with
      | some (.inr (.inl (n0, f))), some (.inr (.inl (n1, g))) => if sp < 0 ∨ dp < 0 ∨ n < 0 ∨ n0 < sp.toNatClampNeg + n.toNatClampNeg ∨ n1 < dp.toNatClampNeg + n.toNatClampNeg then none else bif Nat.ble r.length 4 then some (pc + 3, L, r, h.set b (.inr (.inl (n1, va_cpy f g sp.toNatClampNeg dp.toNatClampNeg n.toNatClampNeg))), 0, 0) else none
      | _, _ => none) = _
  rw [ha, hb]
theorem R_acpy {ro : xRO} {d : Nat} {md : MD} {pc : Nat} {L : xL} {r : List Value} {Q : Option Value → xH → Prop} {M : xM} {T : Nat} {a b n0 n1 sp dp n idx : Nat} {y : MD} (ha : shp[a]? = some (.inr (.inl n0))) (hb : shp[b]? = some (.inr (.inl n1))) (hi : mdI md pc = some (.invokestatic idx, 3)) (hc : xCal md (.invokestatic idx) = none) (hm : mlk (mdK md) idx = some (7, y)) (h1 : sp + n ≤ n0) (h2 : dp + n ≤ n1) (b0 : n0 ≤ 1000) (b1 : n1 ≤ 1000) (hr : Nat.ble r.length 4 = true) (kk : Rn ro d md (pc + 3) L r (mk (upA M b (va_cpy (M a) (M b) sp dp n)) T) Q) : Rn ro d md pc L (.int (nI n) :: .int (nI dp) :: .ref (b + 3) :: .int (nI sp) :: .ref (a + 3) :: r) (mk M T) Q := by
  refine R_stp hi rfl rfl hc ?_ kk
  rw [stp_ist, xNat7 hm (mk_at ha) (mk_at hb)]
  rw [nI_clamp (by omega), nI_clamp (by omega), nI_clamp (by omega)]
  have hn : ¬ (nI sp < 0 ∨ nI dp < 0 ∨ nI n < 0 ∨ n0 < sp + n ∨ n1 < dp + n) := by
    intro q
    rcases q with q | q | q | q | q
    · exact nI_pos (by omega) q
    · exact nI_pos (by omega) q
    · exact nI_pos (by omega) q
    · omega
    · omega
  rw [if_neg hn, hr, cond_true, mk_upA hb]
def cpM (M : xM) (src dst lo hi : Nat) : xM := fun a b => if a = 67 ∧ lo ≤ b ∧ b < hi then M 67 (src + (b - dst)) else M a b
theorem cpM_0 {M : xM} {src dst lo : Nat} : cpM M src dst lo lo = M := by
  funext a b
  unfold cpM
  rw [if_neg (by omega)]
theorem cpM_ne {M : xM} {src dst lo hi c : Nat} (h : c ≠ 67) : cpM M src dst lo hi c = M c := by
  funext b
  unfold cpM
  rw [if_neg (by omega)]
theorem cpM_hi {M : xM} {src dst lo hi k : Nat} (h1 : dst = lo) (h2 : hi = dst + k) (h3 : ¬ (lo ≤ src + k ∧ src + k < hi)) : up (cpM M src dst lo hi) 67 hi (cpM M src dst lo hi 67 (src + k)) = cpM M src dst lo (hi + 1) := by
  funext a b
  rw [up_rd]
  unfold cpM
  by_cases q : a = 67 ∧ b = hi
  · rw [if_pos q, if_neg (by omega), if_pos (by omega), q.2, h2, show dst + k - dst = k by omega]
  · rw [if_neg q]
    by_cases w : a = 67 ∧ lo ≤ b ∧ b < hi
    · rw [if_pos w, if_pos (by omega)]
    · rw [if_neg w, if_neg (by omega)]
theorem cpM_lo {M : xM} {src dst lo hi k : Nat} (h2 : lo = dst + k) (h4 : lo < hi) (h3 : ¬ (lo + 1 ≤ src + k ∧ src + k < hi)) : up (cpM M src dst (lo + 1) hi) 67 lo (cpM M src dst (lo + 1) hi 67 (src + k)) = cpM M src dst lo hi := by
  funext a b
  rw [up_rd]
  unfold cpM
  by_cases q : a = 67 ∧ b = lo
  · rw [if_pos q, if_neg (by omega), if_pos (by omega), q.2, h2, show dst + k - dst = k by omega]
  · rw [if_neg q]
    by_cases w : a = 67 ∧ lo + 1 ≤ b ∧ b < hi
    · rw [if_pos w, if_pos (by omega)]
    · rw [if_neg w, if_neg (by omega)]
theorem Rel.move {M : xM} (h : Rel M) {e f i j n z y : Nat} (he : e < 4) (hf : f < 4) (hb : M 65 e = M 65 f) (h1 : i + n ≤ z) (h2 : j + n ≤ y) (z24 : z ≤ 24) (y24 : y ≤ 24) : Rel (cpM (upA M (53 + 2 * f) (va_cpy (M (53 + 2 * e)) (M (53 + 2 * f)) i j n)) (24 * e + i) (24 * f + j) (24 * f + j) (24 * f + j + n)) := by
  refine h.sheets (fun a q c2 c3 c4 => by rw [cpM_ne c4, upA_ne (by omega)]) (fun s hs => ?_)
  obtain ⟨g1, g2, g3, g4, g5, g6⟩ := h.2.2.1 s hs
  rw [cpM_ne (by omega), cpM_ne (by omega), cpM_ne (by omega), cpM_ne (by omega), upA_ne (by omega), upA_ne (by omega), upA_ne (by omega)]
  refine ⟨g1, g2, g3, g4, g5, fun x hx => ?_⟩
  unfold cpM
  rw [upA_ne (show 67 ≠ 53 + 2 * f by omega)]
  by_cases q : s = f ∧ j ≤ x ∧ x < j + n
  · obtain ⟨rfl, q1, q2⟩ := q
    rw [upA_eq]
    unfold va_cpy
    rw [if_pos ⟨q1, q2⟩, if_pos (show 67 = 67 ∧ 24 * s + j ≤ 24 * s + x ∧ 24 * s + x < 24 * s + j + n from ⟨rfl, by omega, by omega⟩)]
    have w := (h.2.2.1 e he).2.2.2.2.2 (i + (x - j)) (by omega)
    rw [hb] at w
    rw [show 24 * e + i + (24 * s + x - (24 * s + j)) = 24 * e + (i + (x - j)) by omega]
    exact w
  · rw [if_neg (show ¬ (67 = 67 ∧ 24 * f + j ≤ 24 * s + x ∧ 24 * s + x < 24 * f + j + n) by omega)]
    by_cases q2 : s = f
    · subst q2
      rw [upA_eq]
      unfold va_cpy
      rw [if_neg (by omega)]
      exact g6 x hx
    · rw [upA_ne (by omega)]
      exact g6 x hx
def spn (i n z : Int32) : Prop := 0 ≤ i ∧ 0 ≤ n ∧ n ≤ z ∧ i ≤ z - n
theorem spn_m {i n : Int32} {z : Nat} (hz : z ≤ 24) : spn i n (nI z) ↔ 0 ≤ i ∧ 0 ≤ n ∧ n ≤ nI z - i := by
  have h0 := nI_pos' (n := z) (by omega)
  have h1 := nI_le (a := z) (b := 24) hz (by omega)
  have h2 : nI 24 = 24 := rfl
  rw [h2] at h1
  unfold spn
  grind
theorem spn_n {i n : Int32} {z : Nat} (hz : z ≤ 24) (h : spn i n (nI z)) : ∃ i' n' : Nat, i = nI i' ∧ n = nI n' ∧ i' + n' ≤ z := by
  obtain ⟨h1, h2, h3, h4⟩ := h
  rcases of_in n (b := z) (by omega) with ⟨n', n1, rfl⟩ | q
  · rw [pk_sub n1] at h4
    rcases of_in i (b := z - n') (by omega) with ⟨i', i1, rfl⟩ | q
    · exact ⟨i', n', rfl, rfl, by omega⟩
    · exact absurd ⟨h1, h4⟩ q
  · exact absurd ⟨h2, h3⟩ q
set_option maxRecDepth 100000 in
set_option maxHeartbeats 4000000 in
theorem c_spans {ro : xRO} {d : Nat} {M : xM} {T : Nat} {e : Nat} (he : e < 4) {z : Nat} (hz : M (52 + 2 * e) 2 = nI z) (z24 : z ≤ 24) {i n : Int32} : Rn ro d M_X4_spans 0 [some (.ref (52 + 2 * e + 3)), some (.int i), some (.int n)] [] (mk M T) (fun r h => (spn i n (nI z) ∧ r = some (.int 1) ∧ h = mk M T) ∨ (¬ spn i n (nI z) ∧ r = some (.int 0) ∧ h = mk M T)) := by
  refine R_if 2 (c := i < 0) (t := 42) (f := 4) (L' := [some (.ref (52 + 2 * e + 3)), some (.int i), some (.int n)]) (st' := []) (h' := mk M T) (fun _ => rfl) (fun g1 => ?_) (fun g1 => ?_)
  · refine R_ret 2 (pcr := 43) (v := some (.int 0)) (h' := mk M T) (fun _ => rfl) ?_
    exact Or.inr ⟨fun q => by unfold spn at q; grind, rfl, rfl⟩
  · refine R_if 2 (c := n < 0) (t := 42) (f := 8) (L' := [some (.ref (52 + 2 * e + 3)), some (.int i), some (.int n)]) (st' := []) (h' := mk M T) (fun _ => rfl) (fun g2 => ?_) (fun g2 => ?_)
    · refine R_ret 2 (pcr := 43) (v := some (.int 0)) (h' := mk M T) (fun _ => rfl) ?_
      exact Or.inr ⟨fun q => by unfold spn at q; grind, rfl, rfl⟩
    · refine R_go 2 (pc' := 10) (L' := [some (.ref (52 + 2 * e + 3)), some (.int i), some (.int n)]) (st' := [.ref (52 + 2 * e + 3), .int n]) (h' := mk M T) (fun _ => rfl) ?_
      refine R_getI (i := 15) (j := 2) (c := 52 + 2 * e) (sh_sheet (by omega)) rfl rfl rfl ?_
      refine R_top (y := nI z) (hz) ?_
      refine R_if 1 (c := (nI z) < n) (t := 42) (f := 16) (L' := [some (.ref (52 + 2 * e + 3)), some (.int i), some (.int n)]) (st' := []) (h' := mk M T) (fun _ => rfl) (fun g3 => ?_) (fun g3 => ?_)
      · refine R_ret 2 (pcr := 43) (v := some (.int 0)) (h' := mk M T) (fun _ => rfl) ?_
        exact Or.inr ⟨fun q => by unfold spn at q; grind, rfl, rfl⟩
      · refine R_go 2 (pc' := 18) (L' := [some (.ref (52 + 2 * e + 3)), some (.int i), some (.int n)]) (st' := [.ref (52 + 2 * e + 3), .int i]) (h' := mk M T) (fun _ => rfl) ?_
        refine R_getI (i := 15) (j := 2) (c := 52 + 2 * e) (sh_sheet (by omega)) rfl rfl rfl ?_
        refine R_top (y := nI z) (hz) ?_
        refine R_if 3 (c := ((nI z) - n) < i) (t := 42) (f := 26) (L' := [some (.ref (52 + 2 * e + 3)), some (.int i), some (.int n)]) (st' := []) (h' := mk M T) (fun _ => rfl) (fun g4 => ?_) (fun g4 => ?_)
        · refine R_ret 2 (pcr := 43) (v := some (.int 0)) (h' := mk M T) (fun _ => rfl) ?_
          exact Or.inr ⟨fun q => by unfold spn at q; grind, rfl, rfl⟩
        · refine R_go 1 (pc' := 27) (L' := [some (.ref (52 + 2 * e + 3)), some (.int i), some (.int n)]) (st' := [.ref (52 + 2 * e + 3)]) (h' := mk M T) (fun _ => rfl) ?_
          refine R_getI (i := 15) (j := 2) (c := 52 + 2 * e) (sh_sheet (by omega)) rfl rfl rfl ?_
          refine R_top (y := nI z) (hz) ?_
          refine R_go 1 (pc' := 31) (L' := [some (.ref (52 + 2 * e + 3)), some (.int i), some (.int n)]) (st' := [.ref (52 + 2 * e + 3), .int (nI z)]) (h' := mk M T) (fun _ => rfl) ?_
          refine R_getR (i := 9) (j := 0) (c := 52 + 2 * e) (sh_sheet (by omega)) rfl rfl rfl ?_
          refine R_alen (c := 53 + 2 * e) (sh_nums (by omega)) rfl ?_
          refine R_if 1 (c := 24 < (nI z)) (t := 42) (f := 38) (L' := [some (.ref (52 + 2 * e + 3)), some (.int i), some (.int n)]) (st' := []) (h' := mk M T) (fun _ => rfl) (fun g5 => ?_) (fun g5 => ?_)
          · replace g5 : 24 < z := (nI_ltI (a := 24) (b := z) (by omega) (by omega)).mp g5
            refine R_ret 2 (pcr := 43) (v := some (.int 0)) (h' := mk M T) (fun _ => rfl) ?_
            exact Or.inr ⟨fun q => by unfold spn at q; grind, rfl, rfl⟩
          · replace g5 : ¬ 24 < z := fun q => g5 ((nI_ltI (a := 24) (b := z) (by omega) (by omega)).mpr q)
            refine R_ret 3 (pcr := 43) (v := some (.int 1)) (h' := mk M T) (fun _ => rfl) ?_
            exact Or.inl ⟨by unfold spn; grind, rfl, rfl⟩
theorem spn_in {i n z : Nat} (h : i + n ≤ z) (hz : z ≤ 24) : spn (nI i) (nI n) (nI z) := by
  refine ⟨nI_pos' (by omega), nI_pos' (by omega), nI_le (by omega) (by omega), ?_⟩
  rw [pk_sub (by omega)]
  exact nI_le (by omega) (by omega)
set_option maxRecDepth 100000 in
set_option maxHeartbeats 4000000 in
theorem x_move_o1 {ro : xRO} {d : Nat} {M : xM} {T : Nat}  {s t : Int32} (h_s : ¬ (0 ≤ s ∧ s < 4)) (h_t : ¬ (0 ≤ t ∧ t < 4)) {i j n : Int32} : Rn ro (d + 90) M_X7_move 0 [some (.ref 3), some (.int s), some (.int i), some (.int t), some (.int j), some (.int n), none, none] [] (mk M T) (fun r h => r = some (.int (-1000000001)) ∧ h = mk (up M 60 1 (M 60 1 + 1)) T) := by
  refine R_go 2 (pc' := 2) (L' := [some (.ref 3), some (.int s), some (.int i), some (.int t), some (.int j), some (.int n), none, none]) (st' := [.int s, .ref 3]) (h' := mk M T) (fun _ => rfl) ?_
  refine R_callD (i := .invokevirtual 180) (kd := 0) (y := M_X7_sheetAt) (as := [.ref 3, .int s]) (r := []) (L0 := [some (.ref 3), some (.int s)]) (v := some (.null)) (h' := mk M T) (pc' := 5) (st' := [.null]) rfl rfl rfl rfl rfl rfl (c_sheetAt_out h_s) ?_
  refine R_go 3 (pc' := 9) (L' := [some (.ref 3), some (.int s), some (.int i), some (.int t), some (.int j), some (.int n), some (.null), none]) (st' := [.int t, .ref 3]) (h' := mk M T) (fun _ => rfl) ?_
  refine R_callD (i := .invokevirtual 180) (kd := 0) (y := M_X7_sheetAt) (as := [.ref 3, .int t]) (r := []) (L0 := [some (.ref 3), some (.int t)]) (v := some (.null)) (h' := mk M T) (pc' := 12) (st' := [.null]) rfl rfl rfl rfl rfl rfl (c_sheetAt_out h_t) ?_
  refine R_go 5 (pc' := 26) (L' := [some (.ref 3), some (.int s), some (.int i), some (.int t), some (.int j), some (.int n), some (.null), some (.null)]) (st' := [.int 1, .ref 3]) (h' := mk M T) (fun _ => rfl) ?_
  refine R_callD (i := .invokevirtual 75) (kd := 0) (y := M_X7_error) (as := [.ref 3, .int 1]) (r := []) (L0 := [some (.ref 3), some (.int 1)]) (v := some (.int (-1000000001))) (h' := mk (up M 60 1 (M 60 1 + 1)) T) (pc' := 29) (st' := [.int (-1000000001)]) rfl rfl rfl rfl rfl rfl (c_error_1) ?_
  refine R_ret 1 (pcr := 29) (v := some (.int (-1000000001))) (h' := mk (up M 60 1 (M 60 1 + 1)) T) (fun _ => rfl) ?_
  exact ⟨rfl, rfl⟩
set_option maxRecDepth 100000 in
set_option maxHeartbeats 4000000 in
theorem m_notMoved_o1 {ro : xRO} {d : Nat} {M : xM} {T : Nat}  {s t : Int32} (h_s : ¬ (0 ≤ s ∧ s < 4)) (h_t : ¬ (0 ≤ t ∧ t < 4)) {i j n : Int32} : Rn ro (d + 5) M_X8_notMoved 0 [some (.ref 64), some (.int s), some (.int i), some (.int t), some (.int j), some (.int n), none] [] (mk M T) (fun r h => r = some (.int (-1000000001)) ∧ h = mk M T) := by
  refine R_go 1 (pc' := 1) (L' := [some (.ref 64), some (.int s), some (.int i), some (.int t), some (.int j), some (.int n), none]) (st' := [.int s]) (h' := mk M T) (fun _ => rfl) ?_
  refine R_call2 (i := .invokestatic 168) (kd := 1) (y := M_X8_isSheet) (as := [.int s]) (r := []) (L0 := [some (.int s)]) (v1 := some (.int 1)) (v2 := some (.int 0)) (h1' := mk M T) (h2' := mk M T) (pc' := 4) (st1 := [.int 1]) (st2 := [.int 0]) rfl rfl rfl rfl rfl rfl (m_isSheet) (fun g1 => ?_) (fun g1 => ?_)
  · exact absurd g1 (sh_out h_s)
  · refine R_ret 3 (pcr := 16) (v := some (.int (-1000000001))) (h' := mk M T) (fun _ => rfl) ?_
    exact ⟨rfl, rfl⟩
set_option maxRecDepth 100000 in
set_option maxHeartbeats 4000000 in
theorem m_move_o1 {ro : xRO} {d : Nat} {M : xM} {T : Nat}  {s t : Int32} (h_s : ¬ (0 ≤ s ∧ s < 4)) (h_t : ¬ (0 ≤ t ∧ t < 4)) {i j n : Int32} : Rn ro (d + 90) M_X8_move 0 [some (.ref 64), some (.int s), some (.int i), some (.int t), some (.int j), some (.int n), none, none, none] [] (mk M T) (fun r h => r = some (.int (-1000000001)) ∧ h = mk (up M 64 1 (M 64 1 + 1)) T) := by
  refine R_go 6 (pc' := 8) (L' := [some (.ref 64), some (.int s), some (.int i), some (.int t), some (.int j), some (.int n), none, none, none]) (st' := [.int n, .int j, .int t, .int i, .int s, .ref 64]) (h' := mk M T) (fun _ => rfl) ?_
  refine R_callD (i := .invokevirtual 252) (kd := 0) (y := M_X8_notMoved) (as := [.ref 64, .int s, .int i, .int t, .int j, .int n]) (r := []) (L0 := [some (.ref 64), some (.int s), some (.int i), some (.int t), some (.int j), some (.int n), none]) (v := some (.int (-1000000001))) (h' := mk M T) (pc' := 11) (st' := [.int (-1000000001)]) rfl rfl rfl rfl rfl rfl (m_notMoved_o1 h_s h_t) ?_
  refine R_go 5 (pc' := 21) (L' := [some (.ref 64), some (.int s), some (.int i), some (.int t), some (.int j), some (.int n), some (.int (-1000000001)), none, none]) (st' := [.int (-1000000001), .ref 64]) (h' := mk M T) (fun _ => rfl) ?_
  refine R_callD (i := .invokevirtual 81) (kd := 0) (y := M_X8_error) (as := [.ref 64, .int (-1000000001)]) (r := []) (L0 := [some (.ref 64), some (.int (-1000000001))]) (v := some (.int (-1000000001))) (h' := mk (up M 64 1 (M 64 1 + 1)) T) (pc' := 24) (st' := [.int (-1000000001)]) rfl rfl rfl rfl rfl rfl (m_error_1) ?_
  refine R_ret 1 (pcr := 24) (v := some (.int (-1000000001))) (h' := mk (up M 64 1 (M 64 1 + 1)) T) (fun _ => rfl) ?_
  exact ⟨rfl, rfl⟩
set_option maxRecDepth 100000 in
set_option maxHeartbeats 4000000 in
theorem x_move_o2 {ro : xRO} {d : Nat} {M : xM} {T : Nat}  {s : Int32} {f : Nat} (h_s : ¬ (0 ≤ s ∧ s < 4)) (hf : f < 4) {i j n : Int32} : Rn ro (d + 90) M_X7_move 0 [some (.ref 3), some (.int s), some (.int i), some (.int (nI f)), some (.int j), some (.int n), none, none] [] (mk M T) (fun r h => r = some (.int (-1000000001)) ∧ h = mk (up M 60 1 (M 60 1 + 1)) T) := by
  refine R_go 2 (pc' := 2) (L' := [some (.ref 3), some (.int s), some (.int i), some (.int (nI f)), some (.int j), some (.int n), none, none]) (st' := [.int s, .ref 3]) (h' := mk M T) (fun _ => rfl) ?_
  refine R_callD (i := .invokevirtual 180) (kd := 0) (y := M_X7_sheetAt) (as := [.ref 3, .int s]) (r := []) (L0 := [some (.ref 3), some (.int s)]) (v := some (.null)) (h' := mk M T) (pc' := 5) (st' := [.null]) rfl rfl rfl rfl rfl rfl (c_sheetAt_out h_s) ?_
  refine R_go 3 (pc' := 9) (L' := [some (.ref 3), some (.int s), some (.int i), some (.int (nI f)), some (.int j), some (.int n), some (.null), none]) (st' := [.int (nI f), .ref 3]) (h' := mk M T) (fun _ => rfl) ?_
  refine R_callD (i := .invokevirtual 180) (kd := 0) (y := M_X7_sheetAt) (as := [.ref 3, .int (nI f)]) (r := []) (L0 := [some (.ref 3), some (.int (nI f))]) (v := some (.ref (52 + 2 * f + 3))) (h' := mk M T) (pc' := 12) (st' := [.ref (52 + 2 * f + 3)]) rfl rfl rfl rfl rfl rfl (c_sheetAt_in (n := f) (by omega)) ?_
  refine R_go 5 (pc' := 26) (L' := [some (.ref 3), some (.int s), some (.int i), some (.int (nI f)), some (.int j), some (.int n), some (.null), some (.ref (52 + 2 * f + 3))]) (st' := [.int 1, .ref 3]) (h' := mk M T) (fun _ => rfl) ?_
  refine R_callD (i := .invokevirtual 75) (kd := 0) (y := M_X7_error) (as := [.ref 3, .int 1]) (r := []) (L0 := [some (.ref 3), some (.int 1)]) (v := some (.int (-1000000001))) (h' := mk (up M 60 1 (M 60 1 + 1)) T) (pc' := 29) (st' := [.int (-1000000001)]) rfl rfl rfl rfl rfl rfl (c_error_1) ?_
  refine R_ret 1 (pcr := 29) (v := some (.int (-1000000001))) (h' := mk (up M 60 1 (M 60 1 + 1)) T) (fun _ => rfl) ?_
  exact ⟨rfl, rfl⟩
set_option maxRecDepth 100000 in
set_option maxHeartbeats 4000000 in
theorem m_notMoved_o2 {ro : xRO} {d : Nat} {M : xM} {T : Nat}  {s : Int32} {f : Nat} (h_s : ¬ (0 ≤ s ∧ s < 4)) (hf : f < 4) {i j n : Int32} : Rn ro (d + 5) M_X8_notMoved 0 [some (.ref 64), some (.int s), some (.int i), some (.int (nI f)), some (.int j), some (.int n), none] [] (mk M T) (fun r h => r = some (.int (-1000000001)) ∧ h = mk M T) := by
  refine R_go 1 (pc' := 1) (L' := [some (.ref 64), some (.int s), some (.int i), some (.int (nI f)), some (.int j), some (.int n), none]) (st' := [.int s]) (h' := mk M T) (fun _ => rfl) ?_
  refine R_call2 (i := .invokestatic 168) (kd := 1) (y := M_X8_isSheet) (as := [.int s]) (r := []) (L0 := [some (.int s)]) (v1 := some (.int 1)) (v2 := some (.int 0)) (h1' := mk M T) (h2' := mk M T) (pc' := 4) (st1 := [.int 1]) (st2 := [.int 0]) rfl rfl rfl rfl rfl rfl (m_isSheet) (fun g1 => ?_) (fun g1 => ?_)
  · exact absurd g1 (sh_out h_s)
  · refine R_ret 3 (pcr := 16) (v := some (.int (-1000000001))) (h' := mk M T) (fun _ => rfl) ?_
    exact ⟨rfl, rfl⟩
set_option maxRecDepth 100000 in
set_option maxHeartbeats 4000000 in
theorem m_move_o2 {ro : xRO} {d : Nat} {M : xM} {T : Nat}  {s : Int32} {f : Nat} (h_s : ¬ (0 ≤ s ∧ s < 4)) (hf : f < 4) {i j n : Int32} : Rn ro (d + 90) M_X8_move 0 [some (.ref 64), some (.int s), some (.int i), some (.int (nI f)), some (.int j), some (.int n), none, none, none] [] (mk M T) (fun r h => r = some (.int (-1000000001)) ∧ h = mk (up M 64 1 (M 64 1 + 1)) T) := by
  refine R_go 6 (pc' := 8) (L' := [some (.ref 64), some (.int s), some (.int i), some (.int (nI f)), some (.int j), some (.int n), none, none, none]) (st' := [.int n, .int j, .int (nI f), .int i, .int s, .ref 64]) (h' := mk M T) (fun _ => rfl) ?_
  refine R_callD (i := .invokevirtual 252) (kd := 0) (y := M_X8_notMoved) (as := [.ref 64, .int s, .int i, .int (nI f), .int j, .int n]) (r := []) (L0 := [some (.ref 64), some (.int s), some (.int i), some (.int (nI f)), some (.int j), some (.int n), none]) (v := some (.int (-1000000001))) (h' := mk M T) (pc' := 11) (st' := [.int (-1000000001)]) rfl rfl rfl rfl rfl rfl (m_notMoved_o2 h_s hf) ?_
  refine R_go 5 (pc' := 21) (L' := [some (.ref 64), some (.int s), some (.int i), some (.int (nI f)), some (.int j), some (.int n), some (.int (-1000000001)), none, none]) (st' := [.int (-1000000001), .ref 64]) (h' := mk M T) (fun _ => rfl) ?_
  refine R_callD (i := .invokevirtual 81) (kd := 0) (y := M_X8_error) (as := [.ref 64, .int (-1000000001)]) (r := []) (L0 := [some (.ref 64), some (.int (-1000000001))]) (v := some (.int (-1000000001))) (h' := mk (up M 64 1 (M 64 1 + 1)) T) (pc' := 24) (st' := [.int (-1000000001)]) rfl rfl rfl rfl rfl rfl (m_error_1) ?_
  refine R_ret 1 (pcr := 24) (v := some (.int (-1000000001))) (h' := mk (up M 64 1 (M 64 1 + 1)) T) (fun _ => rfl) ?_
  exact ⟨rfl, rfl⟩
set_option maxRecDepth 100000 in
set_option maxHeartbeats 4000000 in
theorem x_move_o3 {ro : xRO} {d : Nat} {M : xM} {T : Nat}  {e : Nat} {t : Int32} (he : e < 4) (h_t : ¬ (0 ≤ t ∧ t < 4)) {i j n : Int32} : Rn ro (d + 90) M_X7_move 0 [some (.ref 3), some (.int (nI e)), some (.int i), some (.int t), some (.int j), some (.int n), none, none] [] (mk M T) (fun r h => r = some (.int (-1000000001)) ∧ h = mk (up M 60 1 (M 60 1 + 1)) T) := by
  refine R_go 2 (pc' := 2) (L' := [some (.ref 3), some (.int (nI e)), some (.int i), some (.int t), some (.int j), some (.int n), none, none]) (st' := [.int (nI e), .ref 3]) (h' := mk M T) (fun _ => rfl) ?_
  refine R_callD (i := .invokevirtual 180) (kd := 0) (y := M_X7_sheetAt) (as := [.ref 3, .int (nI e)]) (r := []) (L0 := [some (.ref 3), some (.int (nI e))]) (v := some (.ref (52 + 2 * e + 3))) (h' := mk M T) (pc' := 5) (st' := [.ref (52 + 2 * e + 3)]) rfl rfl rfl rfl rfl rfl (c_sheetAt_in (n := e) (by omega)) ?_
  refine R_go 3 (pc' := 9) (L' := [some (.ref 3), some (.int (nI e)), some (.int i), some (.int t), some (.int j), some (.int n), some (.ref (52 + 2 * e + 3)), none]) (st' := [.int t, .ref 3]) (h' := mk M T) (fun _ => rfl) ?_
  refine R_callD (i := .invokevirtual 180) (kd := 0) (y := M_X7_sheetAt) (as := [.ref 3, .int t]) (r := []) (L0 := [some (.ref 3), some (.int t)]) (v := some (.null)) (h' := mk M T) (pc' := 12) (st' := [.null]) rfl rfl rfl rfl rfl rfl (c_sheetAt_out h_t) ?_
  refine R_go 7 (pc' := 26) (L' := [some (.ref 3), some (.int (nI e)), some (.int i), some (.int t), some (.int j), some (.int n), some (.ref (52 + 2 * e + 3)), some (.null)]) (st' := [.int 1, .ref 3]) (h' := mk M T) (fun _ => rfl) ?_
  refine R_callD (i := .invokevirtual 75) (kd := 0) (y := M_X7_error) (as := [.ref 3, .int 1]) (r := []) (L0 := [some (.ref 3), some (.int 1)]) (v := some (.int (-1000000001))) (h' := mk (up M 60 1 (M 60 1 + 1)) T) (pc' := 29) (st' := [.int (-1000000001)]) rfl rfl rfl rfl rfl rfl (c_error_1) ?_
  refine R_ret 1 (pcr := 29) (v := some (.int (-1000000001))) (h' := mk (up M 60 1 (M 60 1 + 1)) T) (fun _ => rfl) ?_
  exact ⟨rfl, rfl⟩
set_option maxRecDepth 100000 in
set_option maxHeartbeats 4000000 in
theorem m_notMoved_o3 {ro : xRO} {d : Nat} {M : xM} {T : Nat}  {e : Nat} {t : Int32} (he : e < 4) (h_t : ¬ (0 ≤ t ∧ t < 4)) {i j n : Int32} : Rn ro (d + 5) M_X8_notMoved 0 [some (.ref 64), some (.int (nI e)), some (.int i), some (.int t), some (.int j), some (.int n), none] [] (mk M T) (fun r h => r = some (.int (-1000000001)) ∧ h = mk M T) := by
  refine R_go 1 (pc' := 1) (L' := [some (.ref 64), some (.int (nI e)), some (.int i), some (.int t), some (.int j), some (.int n), none]) (st' := [.int (nI e)]) (h' := mk M T) (fun _ => rfl) ?_
  refine R_call2 (i := .invokestatic 168) (kd := 1) (y := M_X8_isSheet) (as := [.int (nI e)]) (r := []) (L0 := [some (.int (nI e))]) (v1 := some (.int 1)) (v2 := some (.int 0)) (h1' := mk M T) (h2' := mk M T) (pc' := 4) (st1 := [.int 1]) (st2 := [.int 0]) rfl rfl rfl rfl rfl rfl (m_isSheet) (fun g1 => ?_) (fun g1 => ?_)
  · refine R_go 2 (pc' := 8) (L' := [some (.ref 64), some (.int (nI e)), some (.int i), some (.int t), some (.int j), some (.int n), none]) (st' := [.int t]) (h' := mk M T) (fun _ => rfl) ?_
    refine R_call2 (i := .invokestatic 168) (kd := 1) (y := M_X8_isSheet) (as := [.int t]) (r := []) (L0 := [some (.int t)]) (v1 := some (.int 1)) (v2 := some (.int 0)) (h1' := mk M T) (h2' := mk M T) (pc' := 11) (st1 := [.int 1]) (st2 := [.int 0]) rfl rfl rfl rfl rfl rfl (m_isSheet) (fun g2 => ?_) (fun g2 => ?_)
    · exact absurd g2 (sh_out h_t)
    · refine R_ret 3 (pcr := 16) (v := some (.int (-1000000001))) (h' := mk M T) (fun _ => rfl) ?_
      exact ⟨rfl, rfl⟩
  · exact absurd (nI_in2 (a := 0) (b := 3) (by omega) (by omega) (by omega)) g1
set_option maxRecDepth 100000 in
set_option maxHeartbeats 4000000 in
theorem m_move_o3 {ro : xRO} {d : Nat} {M : xM} {T : Nat}  {e : Nat} {t : Int32} (he : e < 4) (h_t : ¬ (0 ≤ t ∧ t < 4)) {i j n : Int32} : Rn ro (d + 90) M_X8_move 0 [some (.ref 64), some (.int (nI e)), some (.int i), some (.int t), some (.int j), some (.int n), none, none, none] [] (mk M T) (fun r h => r = some (.int (-1000000001)) ∧ h = mk (up M 64 1 (M 64 1 + 1)) T) := by
  refine R_go 6 (pc' := 8) (L' := [some (.ref 64), some (.int (nI e)), some (.int i), some (.int t), some (.int j), some (.int n), none, none, none]) (st' := [.int n, .int j, .int t, .int i, .int (nI e), .ref 64]) (h' := mk M T) (fun _ => rfl) ?_
  refine R_callD (i := .invokevirtual 252) (kd := 0) (y := M_X8_notMoved) (as := [.ref 64, .int (nI e), .int i, .int t, .int j, .int n]) (r := []) (L0 := [some (.ref 64), some (.int (nI e)), some (.int i), some (.int t), some (.int j), some (.int n), none]) (v := some (.int (-1000000001))) (h' := mk M T) (pc' := 11) (st' := [.int (-1000000001)]) rfl rfl rfl rfl rfl rfl (m_notMoved_o3 he h_t) ?_
  refine R_go 5 (pc' := 21) (L' := [some (.ref 64), some (.int (nI e)), some (.int i), some (.int t), some (.int j), some (.int n), some (.int (-1000000001)), none, none]) (st' := [.int (-1000000001), .ref 64]) (h' := mk M T) (fun _ => rfl) ?_
  refine R_callD (i := .invokevirtual 81) (kd := 0) (y := M_X8_error) (as := [.ref 64, .int (-1000000001)]) (r := []) (L0 := [some (.ref 64), some (.int (-1000000001))]) (v := some (.int (-1000000001))) (h' := mk (up M 64 1 (M 64 1 + 1)) T) (pc' := 24) (st' := [.int (-1000000001)]) rfl rfl rfl rfl rfl rfl (m_error_1) ?_
  refine R_ret 1 (pcr := 24) (v := some (.int (-1000000001))) (h' := mk (up M 64 1 (M 64 1 + 1)) T) (fun _ => rfl) ?_
  exact ⟨rfl, rfl⟩
set_option maxRecDepth 100000 in
set_option maxHeartbeats 4000000 in
theorem x_move_b1 {ro : xRO} {d : Nat} {M : xM} {T : Nat} {e f : Nat} (he : e < 4) (hf : f < 4) {b c : Nat} (hb : M (52 + 2 * e) 1 = nI b) (hc : M (52 + 2 * f) 1 = nI c) (b32 : b ≤ 32) (c32 : c ≤ 32) (b0 : b = 0) {i j n : Int32} : Rn ro (d + 90) M_X7_move 0 [some (.ref 3), some (.int (nI e)), some (.int i), some (.int (nI f)), some (.int j), some (.int n), none, none] [] (mk M T) (fun r h => r = some (.int (-1000000002)) ∧ h = mk (up M 60 2 (M 60 2 + 1)) T) := by
  refine R_go 2 (pc' := 2) (L' := [some (.ref 3), some (.int (nI e)), some (.int i), some (.int (nI f)), some (.int j), some (.int n), none, none]) (st' := [.int (nI e), .ref 3]) (h' := mk M T) (fun _ => rfl) ?_
  refine R_callD (i := .invokevirtual 180) (kd := 0) (y := M_X7_sheetAt) (as := [.ref 3, .int (nI e)]) (r := []) (L0 := [some (.ref 3), some (.int (nI e))]) (v := some (.ref (52 + 2 * e + 3))) (h' := mk M T) (pc' := 5) (st' := [.ref (52 + 2 * e + 3)]) rfl rfl rfl rfl rfl rfl (c_sheetAt_in (n := e) (by omega)) ?_
  refine R_go 3 (pc' := 9) (L' := [some (.ref 3), some (.int (nI e)), some (.int i), some (.int (nI f)), some (.int j), some (.int n), some (.ref (52 + 2 * e + 3)), none]) (st' := [.int (nI f), .ref 3]) (h' := mk M T) (fun _ => rfl) ?_
  refine R_callD (i := .invokevirtual 180) (kd := 0) (y := M_X7_sheetAt) (as := [.ref 3, .int (nI f)]) (r := []) (L0 := [some (.ref 3), some (.int (nI f))]) (v := some (.ref (52 + 2 * f + 3))) (h' := mk M T) (pc' := 12) (st' := [.ref (52 + 2 * f + 3)]) rfl rfl rfl rfl rfl rfl (c_sheetAt_in (n := f) (by omega)) ?_
  refine R_go 6 (pc' := 32) (L' := [some (.ref 3), some (.int (nI e)), some (.int i), some (.int (nI f)), some (.int j), some (.int n), some (.ref (52 + 2 * e + 3)), some (.ref (52 + 2 * f + 3))]) (st' := [.ref (52 + 2 * e + 3)]) (h' := mk M T) (fun _ => rfl) ?_
  refine R_getI (i := 237) (j := 1) (c := 52 + 2 * e) (sh_sheet (by omega)) rfl rfl rfl ?_
  refine R_top (y := nI b) (hb) ?_
  refine R_if 1 (c := (nI b) = 0) (t := 46) (f := 38) (L' := [some (.ref 3), some (.int (nI e)), some (.int i), some (.int (nI f)), some (.int j), some (.int n), some (.ref (52 + 2 * e + 3)), some (.ref (52 + 2 * f + 3))]) (st' := []) (h' := mk M T) (fun _ => rfl) (fun g1 => ?_) (fun g1 => ?_)
  · replace g1 : b = 0 := (nI_eq (a := b) (b := 0) (by omega) (by omega)).mp g1
    refine R_go 2 (pc' := 48) (L' := [some (.ref 3), some (.int (nI e)), some (.int i), some (.int (nI f)), some (.int j), some (.int n), some (.ref (52 + 2 * e + 3)), some (.ref (52 + 2 * f + 3))]) (st' := [.int 2, .ref 3]) (h' := mk M T) (fun _ => rfl) ?_
    refine R_callD (i := .invokevirtual 75) (kd := 0) (y := M_X7_error) (as := [.ref 3, .int 2]) (r := []) (L0 := [some (.ref 3), some (.int 2)]) (v := some (.int (-1000000002))) (h' := mk (up M 60 2 (M 60 2 + 1)) T) (pc' := 51) (st' := [.int (-1000000002)]) rfl rfl rfl rfl rfl rfl (c_error_2) ?_
    refine R_ret 1 (pcr := 51) (v := some (.int (-1000000002))) (h' := mk (up M 60 2 (M 60 2 + 1)) T) (fun _ => rfl) ?_
    exact ⟨rfl, rfl⟩
  · replace g1 : ¬ b = 0 := fun q => g1 ((nI_eq (a := b) (b := 0) (by omega) (by omega)).mpr q)
    omega
set_option maxRecDepth 100000 in
set_option maxHeartbeats 4000000 in
theorem m_notMoved_b1 {ro : xRO} {d : Nat} {M : xM} {T : Nat} {e f : Nat} (he : e < 4) (hf : f < 4) {b c : Nat} (hb : M 65 e = nI b) (hc : M 65 f = nI c) (b32 : b ≤ 32) (c32 : c ≤ 32) (b0 : b = 0) {i j n : Int32} : Rn ro (d + 5) M_X8_notMoved 0 [some (.ref 64), some (.int (nI e)), some (.int i), some (.int (nI f)), some (.int j), some (.int n), none] [] (mk M T) (fun r h => r = some (.int (-1000000002)) ∧ h = mk M T) := by
  refine R_go 1 (pc' := 1) (L' := [some (.ref 64), some (.int (nI e)), some (.int i), some (.int (nI f)), some (.int j), some (.int n), none]) (st' := [.int (nI e)]) (h' := mk M T) (fun _ => rfl) ?_
  refine R_call2 (i := .invokestatic 168) (kd := 1) (y := M_X8_isSheet) (as := [.int (nI e)]) (r := []) (L0 := [some (.int (nI e))]) (v1 := some (.int 1)) (v2 := some (.int 0)) (h1' := mk M T) (h2' := mk M T) (pc' := 4) (st1 := [.int 1]) (st2 := [.int 0]) rfl rfl rfl rfl rfl rfl (m_isSheet) (fun g1 => ?_) (fun g1 => ?_)
  · refine R_go 2 (pc' := 8) (L' := [some (.ref 64), some (.int (nI e)), some (.int i), some (.int (nI f)), some (.int j), some (.int n), none]) (st' := [.int (nI f)]) (h' := mk M T) (fun _ => rfl) ?_
    refine R_call2 (i := .invokestatic 168) (kd := 1) (y := M_X8_isSheet) (as := [.int (nI f)]) (r := []) (L0 := [some (.int (nI f))]) (v1 := some (.int 1)) (v2 := some (.int 0)) (h1' := mk M T) (h2' := mk M T) (pc' := 11) (st1 := [.int 1]) (st2 := [.int 0]) rfl rfl rfl rfl rfl rfl (m_isSheet) (fun g2 => ?_) (fun g2 => ?_)
    · refine R_go 4 (pc' := 22) (L' := [some (.ref 64), some (.int (nI e)), some (.int i), some (.int (nI f)), some (.int j), some (.int n), none]) (st' := [.int (nI e), .ref 68]) (h' := mk M T) (fun _ => rfl) ?_
      refine R_iald (c := 65) (n := 4) (j := e) rfl rfl (by omega) (by decide) ?_
      refine R_top (y := nI b) (hb) ?_
      refine R_if 1 (c := (nI b) = 0) (t := 35) (f := 26) (L' := [some (.ref 64), some (.int (nI e)), some (.int i), some (.int (nI f)), some (.int j), some (.int n), none]) (st' := []) (h' := mk M T) (fun _ => rfl) (fun g3 => ?_) (fun g3 => ?_)
      · replace g3 : b = 0 := (nI_eq (a := b) (b := 0) (by omega) (by omega)).mp g3
        refine R_ret 2 (pcr := 37) (v := some (.int (-1000000002))) (h' := mk M T) (fun _ => rfl) ?_
        exact ⟨rfl, rfl⟩
      · replace g3 : ¬ b = 0 := fun q => g3 ((nI_eq (a := b) (b := 0) (by omega) (by omega)).mpr q)
        omega
    · exact absurd (nI_in2 (a := 0) (b := 3) (by omega) (by omega) (by omega)) g2
  · exact absurd (nI_in2 (a := 0) (b := 3) (by omega) (by omega) (by omega)) g1
set_option maxRecDepth 100000 in
set_option maxHeartbeats 4000000 in
theorem m_move_b1 {ro : xRO} {d : Nat} {M : xM} {T : Nat} {e f : Nat} (he : e < 4) (hf : f < 4) {b c : Nat} (hb : M 65 e = nI b) (hc : M 65 f = nI c) (b32 : b ≤ 32) (c32 : c ≤ 32) (b0 : b = 0) {i j n : Int32} : Rn ro (d + 90) M_X8_move 0 [some (.ref 64), some (.int (nI e)), some (.int i), some (.int (nI f)), some (.int j), some (.int n), none, none, none] [] (mk M T) (fun r h => r = some (.int (-1000000002)) ∧ h = mk (up M 64 2 (M 64 2 + 1)) T) := by
  refine R_go 6 (pc' := 8) (L' := [some (.ref 64), some (.int (nI e)), some (.int i), some (.int (nI f)), some (.int j), some (.int n), none, none, none]) (st' := [.int n, .int j, .int (nI f), .int i, .int (nI e), .ref 64]) (h' := mk M T) (fun _ => rfl) ?_
  refine R_callD (i := .invokevirtual 252) (kd := 0) (y := M_X8_notMoved) (as := [.ref 64, .int (nI e), .int i, .int (nI f), .int j, .int n]) (r := []) (L0 := [some (.ref 64), some (.int (nI e)), some (.int i), some (.int (nI f)), some (.int j), some (.int n), none]) (v := some (.int (-1000000002))) (h' := mk M T) (pc' := 11) (st' := [.int (-1000000002)]) rfl rfl rfl rfl rfl rfl (m_notMoved_b1 he hf hb hc b32 c32 b0) ?_
  refine R_go 5 (pc' := 21) (L' := [some (.ref 64), some (.int (nI e)), some (.int i), some (.int (nI f)), some (.int j), some (.int n), some (.int (-1000000002)), none, none]) (st' := [.int (-1000000002), .ref 64]) (h' := mk M T) (fun _ => rfl) ?_
  refine R_callD (i := .invokevirtual 81) (kd := 0) (y := M_X8_error) (as := [.ref 64, .int (-1000000002)]) (r := []) (L0 := [some (.ref 64), some (.int (-1000000002))]) (v := some (.int (-1000000002))) (h' := mk (up M 64 2 (M 64 2 + 1)) T) (pc' := 24) (st' := [.int (-1000000002)]) rfl rfl rfl rfl rfl rfl (m_error_2) ?_
  refine R_ret 1 (pcr := 24) (v := some (.int (-1000000002))) (h' := mk (up M 64 2 (M 64 2 + 1)) T) (fun _ => rfl) ?_
  exact ⟨rfl, rfl⟩
set_option maxRecDepth 100000 in
set_option maxHeartbeats 4000000 in
theorem x_move_b2 {ro : xRO} {d : Nat} {M : xM} {T : Nat} {e f : Nat} (he : e < 4) (hf : f < 4) {b c : Nat} (hb : M (52 + 2 * e) 1 = nI b) (hc : M (52 + 2 * f) 1 = nI c) (b32 : b ≤ 32) (c32 : c ≤ 32) (b0 : ¬ b = 0) (c0 : c = 0) {i j n : Int32} : Rn ro (d + 90) M_X7_move 0 [some (.ref 3), some (.int (nI e)), some (.int i), some (.int (nI f)), some (.int j), some (.int n), none, none] [] (mk M T) (fun r h => r = some (.int (-1000000002)) ∧ h = mk (up M 60 2 (M 60 2 + 1)) T) := by
  refine R_go 2 (pc' := 2) (L' := [some (.ref 3), some (.int (nI e)), some (.int i), some (.int (nI f)), some (.int j), some (.int n), none, none]) (st' := [.int (nI e), .ref 3]) (h' := mk M T) (fun _ => rfl) ?_
  refine R_callD (i := .invokevirtual 180) (kd := 0) (y := M_X7_sheetAt) (as := [.ref 3, .int (nI e)]) (r := []) (L0 := [some (.ref 3), some (.int (nI e))]) (v := some (.ref (52 + 2 * e + 3))) (h' := mk M T) (pc' := 5) (st' := [.ref (52 + 2 * e + 3)]) rfl rfl rfl rfl rfl rfl (c_sheetAt_in (n := e) (by omega)) ?_
  refine R_go 3 (pc' := 9) (L' := [some (.ref 3), some (.int (nI e)), some (.int i), some (.int (nI f)), some (.int j), some (.int n), some (.ref (52 + 2 * e + 3)), none]) (st' := [.int (nI f), .ref 3]) (h' := mk M T) (fun _ => rfl) ?_
  refine R_callD (i := .invokevirtual 180) (kd := 0) (y := M_X7_sheetAt) (as := [.ref 3, .int (nI f)]) (r := []) (L0 := [some (.ref 3), some (.int (nI f))]) (v := some (.ref (52 + 2 * f + 3))) (h' := mk M T) (pc' := 12) (st' := [.ref (52 + 2 * f + 3)]) rfl rfl rfl rfl rfl rfl (c_sheetAt_in (n := f) (by omega)) ?_
  refine R_go 6 (pc' := 32) (L' := [some (.ref 3), some (.int (nI e)), some (.int i), some (.int (nI f)), some (.int j), some (.int n), some (.ref (52 + 2 * e + 3)), some (.ref (52 + 2 * f + 3))]) (st' := [.ref (52 + 2 * e + 3)]) (h' := mk M T) (fun _ => rfl) ?_
  refine R_getI (i := 237) (j := 1) (c := 52 + 2 * e) (sh_sheet (by omega)) rfl rfl rfl ?_
  refine R_top (y := nI b) (hb) ?_
  refine R_if 1 (c := (nI b) = 0) (t := 46) (f := 38) (L' := [some (.ref 3), some (.int (nI e)), some (.int i), some (.int (nI f)), some (.int j), some (.int n), some (.ref (52 + 2 * e + 3)), some (.ref (52 + 2 * f + 3))]) (st' := []) (h' := mk M T) (fun _ => rfl) (fun g1 => ?_) (fun g1 => ?_)
  · replace g1 : b = 0 := (nI_eq (a := b) (b := 0) (by omega) (by omega)).mp g1
    omega
  · replace g1 : ¬ b = 0 := fun q => g1 ((nI_eq (a := b) (b := 0) (by omega) (by omega)).mpr q)
    refine R_go 1 (pc' := 40) (L' := [some (.ref 3), some (.int (nI e)), some (.int i), some (.int (nI f)), some (.int j), some (.int n), some (.ref (52 + 2 * e + 3)), some (.ref (52 + 2 * f + 3))]) (st' := [.ref (52 + 2 * f + 3)]) (h' := mk M T) (fun _ => rfl) ?_
    refine R_getI (i := 237) (j := 1) (c := 52 + 2 * f) (sh_sheet (by omega)) rfl rfl rfl ?_
    refine R_top (y := nI c) (hc) ?_
    refine R_ifn 1 (c := (nI c) = 0) (t := 52) (f := 46) (L' := [some (.ref 3), some (.int (nI e)), some (.int i), some (.int (nI f)), some (.int j), some (.int n), some (.ref (52 + 2 * e + 3)), some (.ref (52 + 2 * f + 3))]) (st' := []) (h' := mk M T) (fun _ => rfl) (fun g2 => ?_) (fun g2 => ?_)
    · replace g2 : ¬ c = 0 := fun q => g2 ((nI_eq (a := c) (b := 0) (by omega) (by omega)).mpr q)
      omega
    · replace g2 : c = 0 := (nI_eq (a := c) (b := 0) (by omega) (by omega)).mp g2
      refine R_go 2 (pc' := 48) (L' := [some (.ref 3), some (.int (nI e)), some (.int i), some (.int (nI f)), some (.int j), some (.int n), some (.ref (52 + 2 * e + 3)), some (.ref (52 + 2 * f + 3))]) (st' := [.int 2, .ref 3]) (h' := mk M T) (fun _ => rfl) ?_
      refine R_callD (i := .invokevirtual 75) (kd := 0) (y := M_X7_error) (as := [.ref 3, .int 2]) (r := []) (L0 := [some (.ref 3), some (.int 2)]) (v := some (.int (-1000000002))) (h' := mk (up M 60 2 (M 60 2 + 1)) T) (pc' := 51) (st' := [.int (-1000000002)]) rfl rfl rfl rfl rfl rfl (c_error_2) ?_
      refine R_ret 1 (pcr := 51) (v := some (.int (-1000000002))) (h' := mk (up M 60 2 (M 60 2 + 1)) T) (fun _ => rfl) ?_
      exact ⟨rfl, rfl⟩
set_option maxRecDepth 100000 in
set_option maxHeartbeats 4000000 in
theorem m_notMoved_b2 {ro : xRO} {d : Nat} {M : xM} {T : Nat} {e f : Nat} (he : e < 4) (hf : f < 4) {b c : Nat} (hb : M 65 e = nI b) (hc : M 65 f = nI c) (b32 : b ≤ 32) (c32 : c ≤ 32) (b0 : ¬ b = 0) (c0 : c = 0) {i j n : Int32} : Rn ro (d + 5) M_X8_notMoved 0 [some (.ref 64), some (.int (nI e)), some (.int i), some (.int (nI f)), some (.int j), some (.int n), none] [] (mk M T) (fun r h => r = some (.int (-1000000002)) ∧ h = mk M T) := by
  refine R_go 1 (pc' := 1) (L' := [some (.ref 64), some (.int (nI e)), some (.int i), some (.int (nI f)), some (.int j), some (.int n), none]) (st' := [.int (nI e)]) (h' := mk M T) (fun _ => rfl) ?_
  refine R_call2 (i := .invokestatic 168) (kd := 1) (y := M_X8_isSheet) (as := [.int (nI e)]) (r := []) (L0 := [some (.int (nI e))]) (v1 := some (.int 1)) (v2 := some (.int 0)) (h1' := mk M T) (h2' := mk M T) (pc' := 4) (st1 := [.int 1]) (st2 := [.int 0]) rfl rfl rfl rfl rfl rfl (m_isSheet) (fun g1 => ?_) (fun g1 => ?_)
  · refine R_go 2 (pc' := 8) (L' := [some (.ref 64), some (.int (nI e)), some (.int i), some (.int (nI f)), some (.int j), some (.int n), none]) (st' := [.int (nI f)]) (h' := mk M T) (fun _ => rfl) ?_
    refine R_call2 (i := .invokestatic 168) (kd := 1) (y := M_X8_isSheet) (as := [.int (nI f)]) (r := []) (L0 := [some (.int (nI f))]) (v1 := some (.int 1)) (v2 := some (.int 0)) (h1' := mk M T) (h2' := mk M T) (pc' := 11) (st1 := [.int 1]) (st2 := [.int 0]) rfl rfl rfl rfl rfl rfl (m_isSheet) (fun g2 => ?_) (fun g2 => ?_)
    · refine R_go 4 (pc' := 22) (L' := [some (.ref 64), some (.int (nI e)), some (.int i), some (.int (nI f)), some (.int j), some (.int n), none]) (st' := [.int (nI e), .ref 68]) (h' := mk M T) (fun _ => rfl) ?_
      refine R_iald (c := 65) (n := 4) (j := e) rfl rfl (by omega) (by decide) ?_
      refine R_top (y := nI b) (hb) ?_
      refine R_if 1 (c := (nI b) = 0) (t := 35) (f := 26) (L' := [some (.ref 64), some (.int (nI e)), some (.int i), some (.int (nI f)), some (.int j), some (.int n), none]) (st' := []) (h' := mk M T) (fun _ => rfl) (fun g3 => ?_) (fun g3 => ?_)
      · replace g3 : b = 0 := (nI_eq (a := b) (b := 0) (by omega) (by omega)).mp g3
        omega
      · replace g3 : ¬ b = 0 := fun q => g3 ((nI_eq (a := b) (b := 0) (by omega) (by omega)).mpr q)
        refine R_go 3 (pc' := 31) (L' := [some (.ref 64), some (.int (nI e)), some (.int i), some (.int (nI f)), some (.int j), some (.int n), none]) (st' := [.int (nI f), .ref 68]) (h' := mk M T) (fun _ => rfl) ?_
        refine R_iald (c := 65) (n := 4) (j := f) rfl rfl (by omega) (by decide) ?_
        refine R_top (y := nI c) (hc) ?_
        refine R_ifn 1 (c := (nI c) = 0) (t := 38) (f := 35) (L' := [some (.ref 64), some (.int (nI e)), some (.int i), some (.int (nI f)), some (.int j), some (.int n), none]) (st' := []) (h' := mk M T) (fun _ => rfl) (fun g4 => ?_) (fun g4 => ?_)
        · replace g4 : ¬ c = 0 := fun q => g4 ((nI_eq (a := c) (b := 0) (by omega) (by omega)).mpr q)
          omega
        · replace g4 : c = 0 := (nI_eq (a := c) (b := 0) (by omega) (by omega)).mp g4
          refine R_ret 2 (pcr := 37) (v := some (.int (-1000000002))) (h' := mk M T) (fun _ => rfl) ?_
          exact ⟨rfl, rfl⟩
    · exact absurd (nI_in2 (a := 0) (b := 3) (by omega) (by omega) (by omega)) g2
  · exact absurd (nI_in2 (a := 0) (b := 3) (by omega) (by omega) (by omega)) g1
set_option maxRecDepth 100000 in
set_option maxHeartbeats 4000000 in
theorem m_move_b2 {ro : xRO} {d : Nat} {M : xM} {T : Nat} {e f : Nat} (he : e < 4) (hf : f < 4) {b c : Nat} (hb : M 65 e = nI b) (hc : M 65 f = nI c) (b32 : b ≤ 32) (c32 : c ≤ 32) (b0 : ¬ b = 0) (c0 : c = 0) {i j n : Int32} : Rn ro (d + 90) M_X8_move 0 [some (.ref 64), some (.int (nI e)), some (.int i), some (.int (nI f)), some (.int j), some (.int n), none, none, none] [] (mk M T) (fun r h => r = some (.int (-1000000002)) ∧ h = mk (up M 64 2 (M 64 2 + 1)) T) := by
  refine R_go 6 (pc' := 8) (L' := [some (.ref 64), some (.int (nI e)), some (.int i), some (.int (nI f)), some (.int j), some (.int n), none, none, none]) (st' := [.int n, .int j, .int (nI f), .int i, .int (nI e), .ref 64]) (h' := mk M T) (fun _ => rfl) ?_
  refine R_callD (i := .invokevirtual 252) (kd := 0) (y := M_X8_notMoved) (as := [.ref 64, .int (nI e), .int i, .int (nI f), .int j, .int n]) (r := []) (L0 := [some (.ref 64), some (.int (nI e)), some (.int i), some (.int (nI f)), some (.int j), some (.int n), none]) (v := some (.int (-1000000002))) (h' := mk M T) (pc' := 11) (st' := [.int (-1000000002)]) rfl rfl rfl rfl rfl rfl (m_notMoved_b2 he hf hb hc b32 c32 b0 c0) ?_
  refine R_go 5 (pc' := 21) (L' := [some (.ref 64), some (.int (nI e)), some (.int i), some (.int (nI f)), some (.int j), some (.int n), some (.int (-1000000002)), none, none]) (st' := [.int (-1000000002), .ref 64]) (h' := mk M T) (fun _ => rfl) ?_
  refine R_callD (i := .invokevirtual 81) (kd := 0) (y := M_X8_error) (as := [.ref 64, .int (-1000000002)]) (r := []) (L0 := [some (.ref 64), some (.int (-1000000002))]) (v := some (.int (-1000000002))) (h' := mk (up M 64 2 (M 64 2 + 1)) T) (pc' := 24) (st' := [.int (-1000000002)]) rfl rfl rfl rfl rfl rfl (m_error_2) ?_
  refine R_ret 1 (pcr := 24) (v := some (.int (-1000000002))) (h' := mk (up M 64 2 (M 64 2 + 1)) T) (fun _ => rfl) ?_
  exact ⟨rfl, rfl⟩
set_option maxRecDepth 100000 in
set_option maxHeartbeats 4000000 in
theorem x_move_u {ro : xRO} {d : Nat} {M : xM} {T : Nat} {e f : Nat} (he : e < 4) (hf : f < 4) {b c : Nat} (hb : M (52 + 2 * e) 1 = nI b) (hc : M (52 + 2 * f) 1 = nI c) (b32 : b ≤ 32) (c32 : c ≤ 32) (b0 : ¬ b = 0) (c0 : ¬ c = 0) (bc : ¬ b = c) {i j n : Int32} : Rn ro (d + 90) M_X7_move 0 [some (.ref 3), some (.int (nI e)), some (.int i), some (.int (nI f)), some (.int j), some (.int n), none, none] [] (mk M T) (fun r h => r = some (.int (-1000000005)) ∧ h = mk (up M 60 5 (M 60 5 + 1)) T) := by
  refine R_go 2 (pc' := 2) (L' := [some (.ref 3), some (.int (nI e)), some (.int i), some (.int (nI f)), some (.int j), some (.int n), none, none]) (st' := [.int (nI e), .ref 3]) (h' := mk M T) (fun _ => rfl) ?_
  refine R_callD (i := .invokevirtual 180) (kd := 0) (y := M_X7_sheetAt) (as := [.ref 3, .int (nI e)]) (r := []) (L0 := [some (.ref 3), some (.int (nI e))]) (v := some (.ref (52 + 2 * e + 3))) (h' := mk M T) (pc' := 5) (st' := [.ref (52 + 2 * e + 3)]) rfl rfl rfl rfl rfl rfl (c_sheetAt_in (n := e) (by omega)) ?_
  refine R_go 3 (pc' := 9) (L' := [some (.ref 3), some (.int (nI e)), some (.int i), some (.int (nI f)), some (.int j), some (.int n), some (.ref (52 + 2 * e + 3)), none]) (st' := [.int (nI f), .ref 3]) (h' := mk M T) (fun _ => rfl) ?_
  refine R_callD (i := .invokevirtual 180) (kd := 0) (y := M_X7_sheetAt) (as := [.ref 3, .int (nI f)]) (r := []) (L0 := [some (.ref 3), some (.int (nI f))]) (v := some (.ref (52 + 2 * f + 3))) (h' := mk M T) (pc' := 12) (st' := [.ref (52 + 2 * f + 3)]) rfl rfl rfl rfl rfl rfl (c_sheetAt_in (n := f) (by omega)) ?_
  refine R_go 6 (pc' := 32) (L' := [some (.ref 3), some (.int (nI e)), some (.int i), some (.int (nI f)), some (.int j), some (.int n), some (.ref (52 + 2 * e + 3)), some (.ref (52 + 2 * f + 3))]) (st' := [.ref (52 + 2 * e + 3)]) (h' := mk M T) (fun _ => rfl) ?_
  refine R_getI (i := 237) (j := 1) (c := 52 + 2 * e) (sh_sheet (by omega)) rfl rfl rfl ?_
  refine R_top (y := nI b) (hb) ?_
  refine R_if 1 (c := (nI b) = 0) (t := 46) (f := 38) (L' := [some (.ref 3), some (.int (nI e)), some (.int i), some (.int (nI f)), some (.int j), some (.int n), some (.ref (52 + 2 * e + 3)), some (.ref (52 + 2 * f + 3))]) (st' := []) (h' := mk M T) (fun _ => rfl) (fun g1 => ?_) (fun g1 => ?_)
  · replace g1 : b = 0 := (nI_eq (a := b) (b := 0) (by omega) (by omega)).mp g1
    omega
  · replace g1 : ¬ b = 0 := fun q => g1 ((nI_eq (a := b) (b := 0) (by omega) (by omega)).mpr q)
    refine R_go 1 (pc' := 40) (L' := [some (.ref 3), some (.int (nI e)), some (.int i), some (.int (nI f)), some (.int j), some (.int n), some (.ref (52 + 2 * e + 3)), some (.ref (52 + 2 * f + 3))]) (st' := [.ref (52 + 2 * f + 3)]) (h' := mk M T) (fun _ => rfl) ?_
    refine R_getI (i := 237) (j := 1) (c := 52 + 2 * f) (sh_sheet (by omega)) rfl rfl rfl ?_
    refine R_top (y := nI c) (hc) ?_
    refine R_ifn 1 (c := (nI c) = 0) (t := 52) (f := 46) (L' := [some (.ref 3), some (.int (nI e)), some (.int i), some (.int (nI f)), some (.int j), some (.int n), some (.ref (52 + 2 * e + 3)), some (.ref (52 + 2 * f + 3))]) (st' := []) (h' := mk M T) (fun _ => rfl) (fun g2 => ?_) (fun g2 => ?_)
    · replace g2 : ¬ c = 0 := fun q => g2 ((nI_eq (a := c) (b := 0) (by omega) (by omega)).mpr q)
      refine R_go 1 (pc' := 54) (L' := [some (.ref 3), some (.int (nI e)), some (.int i), some (.int (nI f)), some (.int j), some (.int n), some (.ref (52 + 2 * e + 3)), some (.ref (52 + 2 * f + 3))]) (st' := [.ref (52 + 2 * e + 3)]) (h' := mk M T) (fun _ => rfl) ?_
      refine R_getI (i := 237) (j := 1) (c := 52 + 2 * e) (sh_sheet (by omega)) rfl rfl rfl ?_
      refine R_top (y := nI b) (hb) ?_
      refine R_go 1 (pc' := 59) (L' := [some (.ref 3), some (.int (nI e)), some (.int i), some (.int (nI f)), some (.int j), some (.int n), some (.ref (52 + 2 * e + 3)), some (.ref (52 + 2 * f + 3))]) (st' := [.ref (52 + 2 * f + 3), .int (nI b)]) (h' := mk M T) (fun _ => rfl) ?_
      refine R_getI (i := 237) (j := 1) (c := 52 + 2 * f) (sh_sheet (by omega)) rfl rfl rfl ?_
      refine R_top (y := nI c) (hc) ?_
      refine R_if 1 (c := (nI b) = (nI c)) (t := 71) (f := 65) (L' := [some (.ref 3), some (.int (nI e)), some (.int i), some (.int (nI f)), some (.int j), some (.int n), some (.ref (52 + 2 * e + 3)), some (.ref (52 + 2 * f + 3))]) (st' := []) (h' := mk M T) (fun _ => rfl) (fun g3 => ?_) (fun g3 => ?_)
      · replace g3 : b = c := (nI_eq (a := b) (b := c) (by omega) (by omega)).mp g3
        omega
      · replace g3 : ¬ b = c := fun q => g3 ((nI_eq (a := b) (b := c) (by omega) (by omega)).mpr q)
        refine R_go 2 (pc' := 67) (L' := [some (.ref 3), some (.int (nI e)), some (.int i), some (.int (nI f)), some (.int j), some (.int n), some (.ref (52 + 2 * e + 3)), some (.ref (52 + 2 * f + 3))]) (st' := [.int 5, .ref 3]) (h' := mk M T) (fun _ => rfl) ?_
        refine R_callD (i := .invokevirtual 75) (kd := 0) (y := M_X7_error) (as := [.ref 3, .int 5]) (r := []) (L0 := [some (.ref 3), some (.int 5)]) (v := some (.int (-1000000005))) (h' := mk (up M 60 5 (M 60 5 + 1)) T) (pc' := 70) (st' := [.int (-1000000005)]) rfl rfl rfl rfl rfl rfl (c_error_5) ?_
        refine R_ret 1 (pcr := 70) (v := some (.int (-1000000005))) (h' := mk (up M 60 5 (M 60 5 + 1)) T) (fun _ => rfl) ?_
        exact ⟨rfl, rfl⟩
    · replace g2 : c = 0 := (nI_eq (a := c) (b := 0) (by omega) (by omega)).mp g2
      omega
set_option maxRecDepth 100000 in
set_option maxHeartbeats 4000000 in
theorem m_notMoved_u {ro : xRO} {d : Nat} {M : xM} {T : Nat} {e f : Nat} (he : e < 4) (hf : f < 4) {b c : Nat} (hb : M 65 e = nI b) (hc : M 65 f = nI c) (b32 : b ≤ 32) (c32 : c ≤ 32) (b0 : ¬ b = 0) (c0 : ¬ c = 0) (bc : ¬ b = c) {i j n : Int32} : Rn ro (d + 5) M_X8_notMoved 0 [some (.ref 64), some (.int (nI e)), some (.int i), some (.int (nI f)), some (.int j), some (.int n), none] [] (mk M T) (fun r h => r = some (.int (-1000000005)) ∧ h = mk M T) := by
  refine R_go 1 (pc' := 1) (L' := [some (.ref 64), some (.int (nI e)), some (.int i), some (.int (nI f)), some (.int j), some (.int n), none]) (st' := [.int (nI e)]) (h' := mk M T) (fun _ => rfl) ?_
  refine R_call2 (i := .invokestatic 168) (kd := 1) (y := M_X8_isSheet) (as := [.int (nI e)]) (r := []) (L0 := [some (.int (nI e))]) (v1 := some (.int 1)) (v2 := some (.int 0)) (h1' := mk M T) (h2' := mk M T) (pc' := 4) (st1 := [.int 1]) (st2 := [.int 0]) rfl rfl rfl rfl rfl rfl (m_isSheet) (fun g1 => ?_) (fun g1 => ?_)
  · refine R_go 2 (pc' := 8) (L' := [some (.ref 64), some (.int (nI e)), some (.int i), some (.int (nI f)), some (.int j), some (.int n), none]) (st' := [.int (nI f)]) (h' := mk M T) (fun _ => rfl) ?_
    refine R_call2 (i := .invokestatic 168) (kd := 1) (y := M_X8_isSheet) (as := [.int (nI f)]) (r := []) (L0 := [some (.int (nI f))]) (v1 := some (.int 1)) (v2 := some (.int 0)) (h1' := mk M T) (h2' := mk M T) (pc' := 11) (st1 := [.int 1]) (st2 := [.int 0]) rfl rfl rfl rfl rfl rfl (m_isSheet) (fun g2 => ?_) (fun g2 => ?_)
    · refine R_go 4 (pc' := 22) (L' := [some (.ref 64), some (.int (nI e)), some (.int i), some (.int (nI f)), some (.int j), some (.int n), none]) (st' := [.int (nI e), .ref 68]) (h' := mk M T) (fun _ => rfl) ?_
      refine R_iald (c := 65) (n := 4) (j := e) rfl rfl (by omega) (by decide) ?_
      refine R_top (y := nI b) (hb) ?_
      refine R_if 1 (c := (nI b) = 0) (t := 35) (f := 26) (L' := [some (.ref 64), some (.int (nI e)), some (.int i), some (.int (nI f)), some (.int j), some (.int n), none]) (st' := []) (h' := mk M T) (fun _ => rfl) (fun g3 => ?_) (fun g3 => ?_)
      · replace g3 : b = 0 := (nI_eq (a := b) (b := 0) (by omega) (by omega)).mp g3
        omega
      · replace g3 : ¬ b = 0 := fun q => g3 ((nI_eq (a := b) (b := 0) (by omega) (by omega)).mpr q)
        refine R_go 3 (pc' := 31) (L' := [some (.ref 64), some (.int (nI e)), some (.int i), some (.int (nI f)), some (.int j), some (.int n), none]) (st' := [.int (nI f), .ref 68]) (h' := mk M T) (fun _ => rfl) ?_
        refine R_iald (c := 65) (n := 4) (j := f) rfl rfl (by omega) (by decide) ?_
        refine R_top (y := nI c) (hc) ?_
        refine R_ifn 1 (c := (nI c) = 0) (t := 38) (f := 35) (L' := [some (.ref 64), some (.int (nI e)), some (.int i), some (.int (nI f)), some (.int j), some (.int n), none]) (st' := []) (h' := mk M T) (fun _ => rfl) (fun g4 => ?_) (fun g4 => ?_)
        · replace g4 : ¬ c = 0 := fun q => g4 ((nI_eq (a := c) (b := 0) (by omega) (by omega)).mpr q)
          refine R_go 3 (pc' := 43) (L' := [some (.ref 64), some (.int (nI e)), some (.int i), some (.int (nI f)), some (.int j), some (.int n), none]) (st' := [.int (nI e), .ref 68]) (h' := mk M T) (fun _ => rfl) ?_
          refine R_iald (c := 65) (n := 4) (j := e) rfl rfl (by omega) (by decide) ?_
          refine R_top (y := nI b) (hb) ?_
          refine R_go 3 (pc' := 49) (L' := [some (.ref 64), some (.int (nI e)), some (.int i), some (.int (nI f)), some (.int j), some (.int n), none]) (st' := [.int (nI f), .ref 68, .int (nI b)]) (h' := mk M T) (fun _ => rfl) ?_
          refine R_iald (c := 65) (n := 4) (j := f) rfl rfl (by omega) (by decide) ?_
          refine R_top (y := nI c) (hc) ?_
          refine R_if 1 (c := (nI b) = (nI c)) (t := 56) (f := 53) (L' := [some (.ref 64), some (.int (nI e)), some (.int i), some (.int (nI f)), some (.int j), some (.int n), none]) (st' := []) (h' := mk M T) (fun _ => rfl) (fun g5 => ?_) (fun g5 => ?_)
          · replace g5 : b = c := (nI_eq (a := b) (b := c) (by omega) (by omega)).mp g5
            omega
          · replace g5 : ¬ b = c := fun q => g5 ((nI_eq (a := b) (b := c) (by omega) (by omega)).mpr q)
            refine R_ret 2 (pcr := 55) (v := some (.int (-1000000005))) (h' := mk M T) (fun _ => rfl) ?_
            exact ⟨rfl, rfl⟩
        · replace g4 : c = 0 := (nI_eq (a := c) (b := 0) (by omega) (by omega)).mp g4
          omega
    · exact absurd (nI_in2 (a := 0) (b := 3) (by omega) (by omega) (by omega)) g2
  · exact absurd (nI_in2 (a := 0) (b := 3) (by omega) (by omega) (by omega)) g1
set_option maxRecDepth 100000 in
set_option maxHeartbeats 4000000 in
theorem m_move_u {ro : xRO} {d : Nat} {M : xM} {T : Nat} {e f : Nat} (he : e < 4) (hf : f < 4) {b c : Nat} (hb : M 65 e = nI b) (hc : M 65 f = nI c) (b32 : b ≤ 32) (c32 : c ≤ 32) (b0 : ¬ b = 0) (c0 : ¬ c = 0) (bc : ¬ b = c) {i j n : Int32} : Rn ro (d + 90) M_X8_move 0 [some (.ref 64), some (.int (nI e)), some (.int i), some (.int (nI f)), some (.int j), some (.int n), none, none, none] [] (mk M T) (fun r h => r = some (.int (-1000000005)) ∧ h = mk (up M 64 5 (M 64 5 + 1)) T) := by
  refine R_go 6 (pc' := 8) (L' := [some (.ref 64), some (.int (nI e)), some (.int i), some (.int (nI f)), some (.int j), some (.int n), none, none, none]) (st' := [.int n, .int j, .int (nI f), .int i, .int (nI e), .ref 64]) (h' := mk M T) (fun _ => rfl) ?_
  refine R_callD (i := .invokevirtual 252) (kd := 0) (y := M_X8_notMoved) (as := [.ref 64, .int (nI e), .int i, .int (nI f), .int j, .int n]) (r := []) (L0 := [some (.ref 64), some (.int (nI e)), some (.int i), some (.int (nI f)), some (.int j), some (.int n), none]) (v := some (.int (-1000000005))) (h' := mk M T) (pc' := 11) (st' := [.int (-1000000005)]) rfl rfl rfl rfl rfl rfl (m_notMoved_u he hf hb hc b32 c32 b0 c0 bc) ?_
  refine R_go 5 (pc' := 21) (L' := [some (.ref 64), some (.int (nI e)), some (.int i), some (.int (nI f)), some (.int j), some (.int n), some (.int (-1000000005)), none, none]) (st' := [.int (-1000000005), .ref 64]) (h' := mk M T) (fun _ => rfl) ?_
  refine R_callD (i := .invokevirtual 81) (kd := 0) (y := M_X8_error) (as := [.ref 64, .int (-1000000005)]) (r := []) (L0 := [some (.ref 64), some (.int (-1000000005))]) (v := some (.int (-1000000005))) (h' := mk (up M 64 5 (M 64 5 + 1)) T) (pc' := 24) (st' := [.int (-1000000005)]) rfl rfl rfl rfl rfl rfl (m_error_5) ?_
  refine R_ret 1 (pcr := 24) (v := some (.int (-1000000005))) (h' := mk (up M 64 5 (M 64 5 + 1)) T) (fun _ => rfl) ?_
  exact ⟨rfl, rfl⟩
set_option maxRecDepth 100000 in
set_option maxHeartbeats 4000000 in
theorem x_move_r {ro : xRO} {d : Nat} {M : xM} {T : Nat} {e f : Nat} (he : e < 4) (hf : f < 4) {b c : Nat} (hb : M (52 + 2 * e) 1 = nI b) (hc : M (52 + 2 * f) 1 = nI c) (b32 : b ≤ 32) (c32 : c ≤ 32) {z y : Nat} (hz : M (52 + 2 * e) 2 = nI z) (hy : M (52 + 2 * f) 2 = nI y) (z24 : z ≤ 24) (y24 : y ≤ 24) (b0 : ¬ b = 0) (c0 : ¬ c = 0) (bc : b = c) {i j n : Int32} (hr : ¬ (spn i n (nI z) ∧ spn j n (nI y))) : Rn ro (d + 90) M_X7_move 0 [some (.ref 3), some (.int (nI e)), some (.int i), some (.int (nI f)), some (.int j), some (.int n), none, none] [] (mk M T) (fun r h => r = some (.int (-1000000001)) ∧ h = mk (up M 60 1 (M 60 1 + 1)) T) := by
  refine R_go 2 (pc' := 2) (L' := [some (.ref 3), some (.int (nI e)), some (.int i), some (.int (nI f)), some (.int j), some (.int n), none, none]) (st' := [.int (nI e), .ref 3]) (h' := mk M T) (fun _ => rfl) ?_
  refine R_callD (i := .invokevirtual 180) (kd := 0) (y := M_X7_sheetAt) (as := [.ref 3, .int (nI e)]) (r := []) (L0 := [some (.ref 3), some (.int (nI e))]) (v := some (.ref (52 + 2 * e + 3))) (h' := mk M T) (pc' := 5) (st' := [.ref (52 + 2 * e + 3)]) rfl rfl rfl rfl rfl rfl (c_sheetAt_in (n := e) (by omega)) ?_
  refine R_go 3 (pc' := 9) (L' := [some (.ref 3), some (.int (nI e)), some (.int i), some (.int (nI f)), some (.int j), some (.int n), some (.ref (52 + 2 * e + 3)), none]) (st' := [.int (nI f), .ref 3]) (h' := mk M T) (fun _ => rfl) ?_
  refine R_callD (i := .invokevirtual 180) (kd := 0) (y := M_X7_sheetAt) (as := [.ref 3, .int (nI f)]) (r := []) (L0 := [some (.ref 3), some (.int (nI f))]) (v := some (.ref (52 + 2 * f + 3))) (h' := mk M T) (pc' := 12) (st' := [.ref (52 + 2 * f + 3)]) rfl rfl rfl rfl rfl rfl (c_sheetAt_in (n := f) (by omega)) ?_
  refine R_go 6 (pc' := 32) (L' := [some (.ref 3), some (.int (nI e)), some (.int i), some (.int (nI f)), some (.int j), some (.int n), some (.ref (52 + 2 * e + 3)), some (.ref (52 + 2 * f + 3))]) (st' := [.ref (52 + 2 * e + 3)]) (h' := mk M T) (fun _ => rfl) ?_
  refine R_getI (i := 237) (j := 1) (c := 52 + 2 * e) (sh_sheet (by omega)) rfl rfl rfl ?_
  refine R_top (y := nI b) (hb) ?_
  refine R_if 1 (c := (nI b) = 0) (t := 46) (f := 38) (L' := [some (.ref 3), some (.int (nI e)), some (.int i), some (.int (nI f)), some (.int j), some (.int n), some (.ref (52 + 2 * e + 3)), some (.ref (52 + 2 * f + 3))]) (st' := []) (h' := mk M T) (fun _ => rfl) (fun g1 => ?_) (fun g1 => ?_)
  · replace g1 : b = 0 := (nI_eq (a := b) (b := 0) (by omega) (by omega)).mp g1
    omega
  · replace g1 : ¬ b = 0 := fun q => g1 ((nI_eq (a := b) (b := 0) (by omega) (by omega)).mpr q)
    refine R_go 1 (pc' := 40) (L' := [some (.ref 3), some (.int (nI e)), some (.int i), some (.int (nI f)), some (.int j), some (.int n), some (.ref (52 + 2 * e + 3)), some (.ref (52 + 2 * f + 3))]) (st' := [.ref (52 + 2 * f + 3)]) (h' := mk M T) (fun _ => rfl) ?_
    refine R_getI (i := 237) (j := 1) (c := 52 + 2 * f) (sh_sheet (by omega)) rfl rfl rfl ?_
    refine R_top (y := nI c) (hc) ?_
    refine R_ifn 1 (c := (nI c) = 0) (t := 52) (f := 46) (L' := [some (.ref 3), some (.int (nI e)), some (.int i), some (.int (nI f)), some (.int j), some (.int n), some (.ref (52 + 2 * e + 3)), some (.ref (52 + 2 * f + 3))]) (st' := []) (h' := mk M T) (fun _ => rfl) (fun g2 => ?_) (fun g2 => ?_)
    · replace g2 : ¬ c = 0 := fun q => g2 ((nI_eq (a := c) (b := 0) (by omega) (by omega)).mpr q)
      refine R_go 1 (pc' := 54) (L' := [some (.ref 3), some (.int (nI e)), some (.int i), some (.int (nI f)), some (.int j), some (.int n), some (.ref (52 + 2 * e + 3)), some (.ref (52 + 2 * f + 3))]) (st' := [.ref (52 + 2 * e + 3)]) (h' := mk M T) (fun _ => rfl) ?_
      refine R_getI (i := 237) (j := 1) (c := 52 + 2 * e) (sh_sheet (by omega)) rfl rfl rfl ?_
      refine R_top (y := nI b) (hb) ?_
      refine R_go 1 (pc' := 59) (L' := [some (.ref 3), some (.int (nI e)), some (.int i), some (.int (nI f)), some (.int j), some (.int n), some (.ref (52 + 2 * e + 3)), some (.ref (52 + 2 * f + 3))]) (st' := [.ref (52 + 2 * f + 3), .int (nI b)]) (h' := mk M T) (fun _ => rfl) ?_
      refine R_getI (i := 237) (j := 1) (c := 52 + 2 * f) (sh_sheet (by omega)) rfl rfl rfl ?_
      refine R_top (y := nI c) (hc) ?_
      refine R_if 1 (c := (nI b) = (nI c)) (t := 71) (f := 65) (L' := [some (.ref 3), some (.int (nI e)), some (.int i), some (.int (nI f)), some (.int j), some (.int n), some (.ref (52 + 2 * e + 3)), some (.ref (52 + 2 * f + 3))]) (st' := []) (h' := mk M T) (fun _ => rfl) (fun g3 => ?_) (fun g3 => ?_)
      · replace g3 : b = c := (nI_eq (a := b) (b := c) (by omega) (by omega)).mp g3
        refine R_go 3 (pc' := 76) (L' := [some (.ref 3), some (.int (nI e)), some (.int i), some (.int (nI f)), some (.int j), some (.int n), some (.ref (52 + 2 * e + 3)), some (.ref (52 + 2 * f + 3))]) (st' := [.int n, .int i, .ref (52 + 2 * e + 3)]) (h' := mk M T) (fun _ => rfl) ?_
        refine R_call2 (i := .invokevirtual 271) (kd := 0) (y := M_X4_spans) (as := [.ref (52 + 2 * e + 3), .int i, .int n]) (r := []) (L0 := [some (.ref (52 + 2 * e + 3)), some (.int i), some (.int n)]) (v1 := some (.int 1)) (v2 := some (.int 0)) (h1' := mk M T) (h2' := mk M T) (pc' := 79) (st1 := [.int 1]) (st2 := [.int 0]) rfl rfl rfl rfl (xPre_c (sh_sheet (by omega)) rfl rfl rfl rfl) rfl (c_spans (e := e) (by omega) hz z24) (fun g4 => ?_) (fun g4 => ?_)
        · refine R_go 4 (pc' := 88) (L' := [some (.ref 3), some (.int (nI e)), some (.int i), some (.int (nI f)), some (.int j), some (.int n), some (.ref (52 + 2 * e + 3)), some (.ref (52 + 2 * f + 3))]) (st' := [.int n, .int j, .ref (52 + 2 * f + 3)]) (h' := mk M T) (fun _ => rfl) ?_
          refine R_call2 (i := .invokevirtual 271) (kd := 0) (y := M_X4_spans) (as := [.ref (52 + 2 * f + 3), .int j, .int n]) (r := []) (L0 := [some (.ref (52 + 2 * f + 3)), some (.int j), some (.int n)]) (v1 := some (.int 1)) (v2 := some (.int 0)) (h1' := mk M T) (h2' := mk M T) (pc' := 91) (st1 := [.int 1]) (st2 := [.int 0]) rfl rfl rfl rfl (xPre_c (sh_sheet (by omega)) rfl rfl rfl rfl) rfl (c_spans (e := f) (by omega) hy y24) (fun g5 => ?_) (fun g5 => ?_)
          · refine R_go 1 (pc' := 100) (L' := [some (.ref 3), some (.int (nI e)), some (.int i), some (.int (nI f)), some (.int j), some (.int n), some (.ref (52 + 2 * e + 3)), some (.ref (52 + 2 * f + 3))]) (st' := []) (h' := mk M T) (fun _ => rfl) ?_
            exact absurd ⟨g4, g5⟩ hr
          · refine R_go 3 (pc' := 96) (L' := [some (.ref 3), some (.int (nI e)), some (.int i), some (.int (nI f)), some (.int j), some (.int n), some (.ref (52 + 2 * e + 3)), some (.ref (52 + 2 * f + 3))]) (st' := [.int 1, .ref 3]) (h' := mk M T) (fun _ => rfl) ?_
            refine R_callD (i := .invokevirtual 75) (kd := 0) (y := M_X7_error) (as := [.ref 3, .int 1]) (r := []) (L0 := [some (.ref 3), some (.int 1)]) (v := some (.int (-1000000001))) (h' := mk (up M 60 1 (M 60 1 + 1)) T) (pc' := 99) (st' := [.int (-1000000001)]) rfl rfl rfl rfl rfl rfl (c_error_1) ?_
            refine R_ret 1 (pcr := 99) (v := some (.int (-1000000001))) (h' := mk (up M 60 1 (M 60 1 + 1)) T) (fun _ => rfl) ?_
            exact ⟨rfl, rfl⟩
        · refine R_go 3 (pc' := 96) (L' := [some (.ref 3), some (.int (nI e)), some (.int i), some (.int (nI f)), some (.int j), some (.int n), some (.ref (52 + 2 * e + 3)), some (.ref (52 + 2 * f + 3))]) (st' := [.int 1, .ref 3]) (h' := mk M T) (fun _ => rfl) ?_
          refine R_callD (i := .invokevirtual 75) (kd := 0) (y := M_X7_error) (as := [.ref 3, .int 1]) (r := []) (L0 := [some (.ref 3), some (.int 1)]) (v := some (.int (-1000000001))) (h' := mk (up M 60 1 (M 60 1 + 1)) T) (pc' := 99) (st' := [.int (-1000000001)]) rfl rfl rfl rfl rfl rfl (c_error_1) ?_
          refine R_ret 1 (pcr := 99) (v := some (.int (-1000000001))) (h' := mk (up M 60 1 (M 60 1 + 1)) T) (fun _ => rfl) ?_
          exact ⟨rfl, rfl⟩
      · replace g3 : ¬ b = c := fun q => g3 ((nI_eq (a := b) (b := c) (by omega) (by omega)).mpr q)
        omega
    · replace g2 : c = 0 := (nI_eq (a := c) (b := 0) (by omega) (by omega)).mp g2
      omega
set_option maxRecDepth 100000 in
set_option maxHeartbeats 4000000 in
theorem m_notMoved_r {ro : xRO} {d : Nat} {M : xM} {T : Nat} {e f : Nat} (he : e < 4) (hf : f < 4) {b c : Nat} (hb : M 65 e = nI b) (hc : M 65 f = nI c) (b32 : b ≤ 32) (c32 : c ≤ 32) {z y : Nat} (hz : M 66 e = nI z) (hy : M 66 f = nI y) (z24 : z ≤ 24) (y24 : y ≤ 24) (b0 : ¬ b = 0) (c0 : ¬ c = 0) (bc : b = c) {i j n : Int32} (hr : ¬ (spn i n (nI z) ∧ spn j n (nI y))) : Rn ro (d + 5) M_X8_notMoved 0 [some (.ref 64), some (.int (nI e)), some (.int i), some (.int (nI f)), some (.int j), some (.int n), none] [] (mk M T) (fun r h => r = some (.int (-1000000001)) ∧ h = mk M T) := by
  refine R_go 1 (pc' := 1) (L' := [some (.ref 64), some (.int (nI e)), some (.int i), some (.int (nI f)), some (.int j), some (.int n), none]) (st' := [.int (nI e)]) (h' := mk M T) (fun _ => rfl) ?_
  refine R_call2 (i := .invokestatic 168) (kd := 1) (y := M_X8_isSheet) (as := [.int (nI e)]) (r := []) (L0 := [some (.int (nI e))]) (v1 := some (.int 1)) (v2 := some (.int 0)) (h1' := mk M T) (h2' := mk M T) (pc' := 4) (st1 := [.int 1]) (st2 := [.int 0]) rfl rfl rfl rfl rfl rfl (m_isSheet) (fun g1 => ?_) (fun g1 => ?_)
  · refine R_go 2 (pc' := 8) (L' := [some (.ref 64), some (.int (nI e)), some (.int i), some (.int (nI f)), some (.int j), some (.int n), none]) (st' := [.int (nI f)]) (h' := mk M T) (fun _ => rfl) ?_
    refine R_call2 (i := .invokestatic 168) (kd := 1) (y := M_X8_isSheet) (as := [.int (nI f)]) (r := []) (L0 := [some (.int (nI f))]) (v1 := some (.int 1)) (v2 := some (.int 0)) (h1' := mk M T) (h2' := mk M T) (pc' := 11) (st1 := [.int 1]) (st2 := [.int 0]) rfl rfl rfl rfl rfl rfl (m_isSheet) (fun g2 => ?_) (fun g2 => ?_)
    · refine R_go 4 (pc' := 22) (L' := [some (.ref 64), some (.int (nI e)), some (.int i), some (.int (nI f)), some (.int j), some (.int n), none]) (st' := [.int (nI e), .ref 68]) (h' := mk M T) (fun _ => rfl) ?_
      refine R_iald (c := 65) (n := 4) (j := e) rfl rfl (by omega) (by decide) ?_
      refine R_top (y := nI b) (hb) ?_
      refine R_if 1 (c := (nI b) = 0) (t := 35) (f := 26) (L' := [some (.ref 64), some (.int (nI e)), some (.int i), some (.int (nI f)), some (.int j), some (.int n), none]) (st' := []) (h' := mk M T) (fun _ => rfl) (fun g3 => ?_) (fun g3 => ?_)
      · replace g3 : b = 0 := (nI_eq (a := b) (b := 0) (by omega) (by omega)).mp g3
        omega
      · replace g3 : ¬ b = 0 := fun q => g3 ((nI_eq (a := b) (b := 0) (by omega) (by omega)).mpr q)
        refine R_go 3 (pc' := 31) (L' := [some (.ref 64), some (.int (nI e)), some (.int i), some (.int (nI f)), some (.int j), some (.int n), none]) (st' := [.int (nI f), .ref 68]) (h' := mk M T) (fun _ => rfl) ?_
        refine R_iald (c := 65) (n := 4) (j := f) rfl rfl (by omega) (by decide) ?_
        refine R_top (y := nI c) (hc) ?_
        refine R_ifn 1 (c := (nI c) = 0) (t := 38) (f := 35) (L' := [some (.ref 64), some (.int (nI e)), some (.int i), some (.int (nI f)), some (.int j), some (.int n), none]) (st' := []) (h' := mk M T) (fun _ => rfl) (fun g4 => ?_) (fun g4 => ?_)
        · replace g4 : ¬ c = 0 := fun q => g4 ((nI_eq (a := c) (b := 0) (by omega) (by omega)).mpr q)
          refine R_go 3 (pc' := 43) (L' := [some (.ref 64), some (.int (nI e)), some (.int i), some (.int (nI f)), some (.int j), some (.int n), none]) (st' := [.int (nI e), .ref 68]) (h' := mk M T) (fun _ => rfl) ?_
          refine R_iald (c := 65) (n := 4) (j := e) rfl rfl (by omega) (by decide) ?_
          refine R_top (y := nI b) (hb) ?_
          refine R_go 3 (pc' := 49) (L' := [some (.ref 64), some (.int (nI e)), some (.int i), some (.int (nI f)), some (.int j), some (.int n), none]) (st' := [.int (nI f), .ref 68, .int (nI b)]) (h' := mk M T) (fun _ => rfl) ?_
          refine R_iald (c := 65) (n := 4) (j := f) rfl rfl (by omega) (by decide) ?_
          refine R_top (y := nI c) (hc) ?_
          refine R_if 1 (c := (nI b) = (nI c)) (t := 56) (f := 53) (L' := [some (.ref 64), some (.int (nI e)), some (.int i), some (.int (nI f)), some (.int j), some (.int n), none]) (st' := []) (h' := mk M T) (fun _ => rfl) (fun g5 => ?_) (fun g5 => ?_)
          · replace g5 : b = c := (nI_eq (a := b) (b := c) (by omega) (by omega)).mp g5
            refine R_if 2 (c := n < 0) (t := 101) (f := 61) (L' := [some (.ref 64), some (.int (nI e)), some (.int i), some (.int (nI f)), some (.int j), some (.int n), none]) (st' := []) (h' := mk M T) (fun _ => rfl) (fun g6 => ?_) (fun g6 => ?_)
            · refine R_ret 6 (pcr := 115) (v := some (.int (-1000000001))) (h' := mk M T) (fun _ => rfl) ?_
              exact ⟨rfl, rfl⟩
            · refine R_if 2 (c := i < 0) (t := 101) (f := 65) (L' := [some (.ref 64), some (.int (nI e)), some (.int i), some (.int (nI f)), some (.int j), some (.int n), none]) (st' := []) (h' := mk M T) (fun _ => rfl) (fun g7 => ?_) (fun g7 => ?_)
              · refine R_ret 6 (pcr := 115) (v := some (.int (-1000000001))) (h' := mk M T) (fun _ => rfl) ?_
                exact ⟨rfl, rfl⟩
              · refine R_if 2 (c := j < 0) (t := 101) (f := 70) (L' := [some (.ref 64), some (.int (nI e)), some (.int i), some (.int (nI f)), some (.int j), some (.int n), none]) (st' := []) (h' := mk M T) (fun _ => rfl) (fun g8 => ?_) (fun g8 => ?_)
                · refine R_ret 6 (pcr := 115) (v := some (.int (-1000000001))) (h' := mk M T) (fun _ => rfl) ?_
                  exact ⟨rfl, rfl⟩
                · refine R_go 4 (pc' := 77) (L' := [some (.ref 64), some (.int (nI e)), some (.int i), some (.int (nI f)), some (.int j), some (.int n), none]) (st' := [.int (nI e), .ref 69, .int n]) (h' := mk M T) (fun _ => rfl) ?_
                  refine R_iald (c := 66) (n := 4) (j := e) rfl rfl (by omega) (by decide) ?_
                  refine R_top (y := nI z) (hz) ?_
                  refine R_if 3 (c := ((nI z) - i) < n) (t := 101) (f := 83) (L' := [some (.ref 64), some (.int (nI e)), some (.int i), some (.int (nI f)), some (.int j), some (.int n), none]) (st' := []) (h' := mk M T) (fun _ => rfl) (fun g9 => ?_) (fun g9 => ?_)
                  · refine R_ret 6 (pcr := 115) (v := some (.int (-1000000001))) (h' := mk M T) (fun _ => rfl) ?_
                    exact ⟨rfl, rfl⟩
                  · refine R_go 4 (pc' := 90) (L' := [some (.ref 64), some (.int (nI e)), some (.int i), some (.int (nI f)), some (.int j), some (.int n), none]) (st' := [.int (nI f), .ref 69, .int n]) (h' := mk M T) (fun _ => rfl) ?_
                    refine R_iald (c := 66) (n := 4) (j := f) rfl rfl (by omega) (by decide) ?_
                    refine R_top (y := nI y) (hy) ?_
                    refine R_if 3 (c := ((nI y) - j) < n) (t := 101) (f := 97) (L' := [some (.ref 64), some (.int (nI e)), some (.int i), some (.int (nI f)), some (.int j), some (.int n), none]) (st' := []) (h' := mk M T) (fun _ => rfl) (fun g10 => ?_) (fun g10 => ?_)
                    · refine R_ret 6 (pcr := 115) (v := some (.int (-1000000001))) (h' := mk M T) (fun _ => rfl) ?_
                      exact ⟨rfl, rfl⟩
                    · refine R_ret 8 (pcr := 115) (v := some (.int 0)) (h' := mk M T) (fun _ => rfl) ?_
                      exact absurd ⟨(spn_m z24).mpr (by grind), (spn_m y24).mpr (by grind)⟩ hr
          · replace g5 : ¬ b = c := fun q => g5 ((nI_eq (a := b) (b := c) (by omega) (by omega)).mpr q)
            omega
        · replace g4 : c = 0 := (nI_eq (a := c) (b := 0) (by omega) (by omega)).mp g4
          omega
    · exact absurd (nI_in2 (a := 0) (b := 3) (by omega) (by omega) (by omega)) g2
  · exact absurd (nI_in2 (a := 0) (b := 3) (by omega) (by omega) (by omega)) g1
set_option maxRecDepth 100000 in
set_option maxHeartbeats 4000000 in
theorem m_move_r {ro : xRO} {d : Nat} {M : xM} {T : Nat} {e f : Nat} (he : e < 4) (hf : f < 4) {b c : Nat} (hb : M 65 e = nI b) (hc : M 65 f = nI c) (b32 : b ≤ 32) (c32 : c ≤ 32) {z y : Nat} (hz : M 66 e = nI z) (hy : M 66 f = nI y) (z24 : z ≤ 24) (y24 : y ≤ 24) (b0 : ¬ b = 0) (c0 : ¬ c = 0) (bc : b = c) {i j n : Int32} (hr : ¬ (spn i n (nI z) ∧ spn j n (nI y))) : Rn ro (d + 90) M_X8_move 0 [some (.ref 64), some (.int (nI e)), some (.int i), some (.int (nI f)), some (.int j), some (.int n), none, none, none] [] (mk M T) (fun r h => r = some (.int (-1000000001)) ∧ h = mk (up M 64 1 (M 64 1 + 1)) T) := by
  refine R_go 6 (pc' := 8) (L' := [some (.ref 64), some (.int (nI e)), some (.int i), some (.int (nI f)), some (.int j), some (.int n), none, none, none]) (st' := [.int n, .int j, .int (nI f), .int i, .int (nI e), .ref 64]) (h' := mk M T) (fun _ => rfl) ?_
  refine R_callD (i := .invokevirtual 252) (kd := 0) (y := M_X8_notMoved) (as := [.ref 64, .int (nI e), .int i, .int (nI f), .int j, .int n]) (r := []) (L0 := [some (.ref 64), some (.int (nI e)), some (.int i), some (.int (nI f)), some (.int j), some (.int n), none]) (v := some (.int (-1000000001))) (h' := mk M T) (pc' := 11) (st' := [.int (-1000000001)]) rfl rfl rfl rfl rfl rfl (m_notMoved_r he hf hb hc b32 c32 hz hy z24 y24 b0 c0 bc hr) ?_
  refine R_go 5 (pc' := 21) (L' := [some (.ref 64), some (.int (nI e)), some (.int i), some (.int (nI f)), some (.int j), some (.int n), some (.int (-1000000001)), none, none]) (st' := [.int (-1000000001), .ref 64]) (h' := mk M T) (fun _ => rfl) ?_
  refine R_callD (i := .invokevirtual 81) (kd := 0) (y := M_X8_error) (as := [.ref 64, .int (-1000000001)]) (r := []) (L0 := [some (.ref 64), some (.int (-1000000001))]) (v := some (.int (-1000000001))) (h' := mk (up M 64 1 (M 64 1 + 1)) T) (pc' := 24) (st' := [.int (-1000000001)]) rfl rfl rfl rfl rfl rfl (m_error_1) ?_
  refine R_ret 1 (pcr := 24) (v := some (.int (-1000000001))) (h' := mk (up M 64 1 (M 64 1 + 1)) T) (fun _ => rfl) ?_
  exact ⟨rfl, rfl⟩
set_option maxRecDepth 100000 in
set_option maxHeartbeats 4000000 in
theorem x_move_i {ro : xRO} {d : Nat} {M : xM} {T : Nat} {e f : Nat} (he : e < 4) (hf : f < 4) {b c : Nat} (hb : M (52 + 2 * e) 1 = nI b) (hc : M (52 + 2 * f) 1 = nI c) (b32 : b ≤ 32) (c32 : c ≤ 32) {z y : Nat} (hz : M (52 + 2 * e) 2 = nI z) (hy : M (52 + 2 * f) 2 = nI y) (z24 : z ≤ 24) (y24 : y ≤ 24) (b0 : ¬ b = 0) (c0 : ¬ c = 0) (bc : b = c) {i j n : Nat} (h1 : i + n ≤ z) (h2 : j + n ≤ y) : Rn ro (d + 90) M_X7_move 0 [some (.ref 3), some (.int (nI e)), some (.int (nI i)), some (.int (nI f)), some (.int (nI j)), some (.int (nI n)), none, none] [] (mk M T) (fun r h => r = some (.int (nI n)) ∧ h = mk (upA M (53 + 2 * f) (va_cpy (M (53 + 2 * e)) (M (53 + 2 * f)) i j n)) T) := by
  refine R_go 2 (pc' := 2) (L' := [some (.ref 3), some (.int (nI e)), some (.int (nI i)), some (.int (nI f)), some (.int (nI j)), some (.int (nI n)), none, none]) (st' := [.int (nI e), .ref 3]) (h' := mk M T) (fun _ => rfl) ?_
  refine R_callD (i := .invokevirtual 180) (kd := 0) (y := M_X7_sheetAt) (as := [.ref 3, .int (nI e)]) (r := []) (L0 := [some (.ref 3), some (.int (nI e))]) (v := some (.ref (52 + 2 * e + 3))) (h' := mk M T) (pc' := 5) (st' := [.ref (52 + 2 * e + 3)]) rfl rfl rfl rfl rfl rfl (c_sheetAt_in (n := e) (by omega)) ?_
  refine R_go 3 (pc' := 9) (L' := [some (.ref 3), some (.int (nI e)), some (.int (nI i)), some (.int (nI f)), some (.int (nI j)), some (.int (nI n)), some (.ref (52 + 2 * e + 3)), none]) (st' := [.int (nI f), .ref 3]) (h' := mk M T) (fun _ => rfl) ?_
  refine R_callD (i := .invokevirtual 180) (kd := 0) (y := M_X7_sheetAt) (as := [.ref 3, .int (nI f)]) (r := []) (L0 := [some (.ref 3), some (.int (nI f))]) (v := some (.ref (52 + 2 * f + 3))) (h' := mk M T) (pc' := 12) (st' := [.ref (52 + 2 * f + 3)]) rfl rfl rfl rfl rfl rfl (c_sheetAt_in (n := f) (by omega)) ?_
  refine R_go 6 (pc' := 32) (L' := [some (.ref 3), some (.int (nI e)), some (.int (nI i)), some (.int (nI f)), some (.int (nI j)), some (.int (nI n)), some (.ref (52 + 2 * e + 3)), some (.ref (52 + 2 * f + 3))]) (st' := [.ref (52 + 2 * e + 3)]) (h' := mk M T) (fun _ => rfl) ?_
  refine R_getI (i := 237) (j := 1) (c := 52 + 2 * e) (sh_sheet (by omega)) rfl rfl rfl ?_
  refine R_top (y := nI b) (hb) ?_
  refine R_if 1 (c := (nI b) = 0) (t := 46) (f := 38) (L' := [some (.ref 3), some (.int (nI e)), some (.int (nI i)), some (.int (nI f)), some (.int (nI j)), some (.int (nI n)), some (.ref (52 + 2 * e + 3)), some (.ref (52 + 2 * f + 3))]) (st' := []) (h' := mk M T) (fun _ => rfl) (fun g1 => ?_) (fun g1 => ?_)
  · replace g1 : b = 0 := (nI_eq (a := b) (b := 0) (by omega) (by omega)).mp g1
    omega
  · replace g1 : ¬ b = 0 := fun q => g1 ((nI_eq (a := b) (b := 0) (by omega) (by omega)).mpr q)
    refine R_go 1 (pc' := 40) (L' := [some (.ref 3), some (.int (nI e)), some (.int (nI i)), some (.int (nI f)), some (.int (nI j)), some (.int (nI n)), some (.ref (52 + 2 * e + 3)), some (.ref (52 + 2 * f + 3))]) (st' := [.ref (52 + 2 * f + 3)]) (h' := mk M T) (fun _ => rfl) ?_
    refine R_getI (i := 237) (j := 1) (c := 52 + 2 * f) (sh_sheet (by omega)) rfl rfl rfl ?_
    refine R_top (y := nI c) (hc) ?_
    refine R_ifn 1 (c := (nI c) = 0) (t := 52) (f := 46) (L' := [some (.ref 3), some (.int (nI e)), some (.int (nI i)), some (.int (nI f)), some (.int (nI j)), some (.int (nI n)), some (.ref (52 + 2 * e + 3)), some (.ref (52 + 2 * f + 3))]) (st' := []) (h' := mk M T) (fun _ => rfl) (fun g2 => ?_) (fun g2 => ?_)
    · replace g2 : ¬ c = 0 := fun q => g2 ((nI_eq (a := c) (b := 0) (by omega) (by omega)).mpr q)
      refine R_go 1 (pc' := 54) (L' := [some (.ref 3), some (.int (nI e)), some (.int (nI i)), some (.int (nI f)), some (.int (nI j)), some (.int (nI n)), some (.ref (52 + 2 * e + 3)), some (.ref (52 + 2 * f + 3))]) (st' := [.ref (52 + 2 * e + 3)]) (h' := mk M T) (fun _ => rfl) ?_
      refine R_getI (i := 237) (j := 1) (c := 52 + 2 * e) (sh_sheet (by omega)) rfl rfl rfl ?_
      refine R_top (y := nI b) (hb) ?_
      refine R_go 1 (pc' := 59) (L' := [some (.ref 3), some (.int (nI e)), some (.int (nI i)), some (.int (nI f)), some (.int (nI j)), some (.int (nI n)), some (.ref (52 + 2 * e + 3)), some (.ref (52 + 2 * f + 3))]) (st' := [.ref (52 + 2 * f + 3), .int (nI b)]) (h' := mk M T) (fun _ => rfl) ?_
      refine R_getI (i := 237) (j := 1) (c := 52 + 2 * f) (sh_sheet (by omega)) rfl rfl rfl ?_
      refine R_top (y := nI c) (hc) ?_
      refine R_if 1 (c := (nI b) = (nI c)) (t := 71) (f := 65) (L' := [some (.ref 3), some (.int (nI e)), some (.int (nI i)), some (.int (nI f)), some (.int (nI j)), some (.int (nI n)), some (.ref (52 + 2 * e + 3)), some (.ref (52 + 2 * f + 3))]) (st' := []) (h' := mk M T) (fun _ => rfl) (fun g3 => ?_) (fun g3 => ?_)
      · replace g3 : b = c := (nI_eq (a := b) (b := c) (by omega) (by omega)).mp g3
        refine R_go 3 (pc' := 76) (L' := [some (.ref 3), some (.int (nI e)), some (.int (nI i)), some (.int (nI f)), some (.int (nI j)), some (.int (nI n)), some (.ref (52 + 2 * e + 3)), some (.ref (52 + 2 * f + 3))]) (st' := [.int (nI n), .int (nI i), .ref (52 + 2 * e + 3)]) (h' := mk M T) (fun _ => rfl) ?_
        refine R_call2 (i := .invokevirtual 271) (kd := 0) (y := M_X4_spans) (as := [.ref (52 + 2 * e + 3), .int (nI i), .int (nI n)]) (r := []) (L0 := [some (.ref (52 + 2 * e + 3)), some (.int (nI i)), some (.int (nI n))]) (v1 := some (.int 1)) (v2 := some (.int 0)) (h1' := mk M T) (h2' := mk M T) (pc' := 79) (st1 := [.int 1]) (st2 := [.int 0]) rfl rfl rfl rfl (xPre_c (sh_sheet (by omega)) rfl rfl rfl rfl) rfl (c_spans (e := e) (by omega) hz z24) (fun g4 => ?_) (fun g4 => ?_)
        · refine R_go 4 (pc' := 88) (L' := [some (.ref 3), some (.int (nI e)), some (.int (nI i)), some (.int (nI f)), some (.int (nI j)), some (.int (nI n)), some (.ref (52 + 2 * e + 3)), some (.ref (52 + 2 * f + 3))]) (st' := [.int (nI n), .int (nI j), .ref (52 + 2 * f + 3)]) (h' := mk M T) (fun _ => rfl) ?_
          refine R_call2 (i := .invokevirtual 271) (kd := 0) (y := M_X4_spans) (as := [.ref (52 + 2 * f + 3), .int (nI j), .int (nI n)]) (r := []) (L0 := [some (.ref (52 + 2 * f + 3)), some (.int (nI j)), some (.int (nI n))]) (v1 := some (.int 1)) (v2 := some (.int 0)) (h1' := mk M T) (h2' := mk M T) (pc' := 91) (st1 := [.int 1]) (st2 := [.int 0]) rfl rfl rfl rfl (xPre_c (sh_sheet (by omega)) rfl rfl rfl rfl) rfl (c_spans (e := f) (by omega) hy y24) (fun g5 => ?_) (fun g5 => ?_)
          · refine R_go 2 (pc' := 102) (L' := [some (.ref 3), some (.int (nI e)), some (.int (nI i)), some (.int (nI f)), some (.int (nI j)), some (.int (nI n)), some (.ref (52 + 2 * e + 3)), some (.ref (52 + 2 * f + 3))]) (st' := [.ref (52 + 2 * e + 3)]) (h' := mk M T) (fun _ => rfl) ?_
            refine R_getR (i := 259) (j := 0) (c := 52 + 2 * e) (sh_sheet (by omega)) rfl rfl rfl ?_
            refine R_go 2 (pc' := 108) (L' := [some (.ref 3), some (.int (nI e)), some (.int (nI i)), some (.int (nI f)), some (.int (nI j)), some (.int (nI n)), some (.ref (52 + 2 * e + 3)), some (.ref (52 + 2 * f + 3))]) (st' := [.ref (52 + 2 * f + 3), .int (nI i), .ref (53 + 2 * e + 3)]) (h' := mk M T) (fun _ => rfl) ?_
            refine R_getR (i := 259) (j := 0) (c := 52 + 2 * f) (sh_sheet (by omega)) rfl rfl rfl ?_
            refine R_go 2 (pc' := 115) (L' := [some (.ref 3), some (.int (nI e)), some (.int (nI i)), some (.int (nI f)), some (.int (nI j)), some (.int (nI n)), some (.ref (52 + 2 * e + 3)), some (.ref (52 + 2 * f + 3))]) (st' := [.int (nI n), .int (nI j), .ref (53 + 2 * f + 3), .int (nI i), .ref (53 + 2 * e + 3)]) (h' := mk M T) (fun _ => rfl) ?_
            refine R_acpy (a := 53 + 2 * e) (b := 53 + 2 * f) (n0 := 24) (n1 := 24) (sp := i) (dp := j) (n := n) (idx := 274) (sh_nums (by omega)) (sh_nums (by omega)) rfl rfl rfl (by omega) (by omega) (by decide) (by decide) rfl ?_
            refine R_ret 2 (pcr := 120) (v := some (.int (nI n))) (h' := mk (upA M (53 + 2 * f) (va_cpy (M (53 + 2 * e)) (M (53 + 2 * f)) i j n)) T) (fun _ => rfl) ?_
            exact ⟨rfl, rfl⟩
          · exact absurd (by have e0 := spn_in (i := i) (n := n) (z := z) h1 z24; have e1 := spn_in (i := j) (n := n) (z := y) h2 y24; first | exact e0 | exact e1) g5
        · exact absurd (by have e0 := spn_in (i := i) (n := n) (z := z) h1 z24; have e1 := spn_in (i := j) (n := n) (z := y) h2 y24; first | exact e0 | exact e1) g4
      · replace g3 : ¬ b = c := fun q => g3 ((nI_eq (a := b) (b := c) (by omega) (by omega)).mpr q)
        omega
    · replace g2 : c = 0 := (nI_eq (a := c) (b := 0) (by omega) (by omega)).mp g2
      omega
set_option maxRecDepth 100000 in
set_option maxHeartbeats 4000000 in
theorem m_notMoved_i {ro : xRO} {d : Nat} {M : xM} {T : Nat} {e f : Nat} (he : e < 4) (hf : f < 4) {b c : Nat} (hb : M 65 e = nI b) (hc : M 65 f = nI c) (b32 : b ≤ 32) (c32 : c ≤ 32) {z y : Nat} (hz : M 66 e = nI z) (hy : M 66 f = nI y) (z24 : z ≤ 24) (y24 : y ≤ 24) (b0 : ¬ b = 0) (c0 : ¬ c = 0) (bc : b = c) {i j n : Nat} (h1 : i + n ≤ z) (h2 : j + n ≤ y) : Rn ro (d + 5) M_X8_notMoved 0 [some (.ref 64), some (.int (nI e)), some (.int (nI i)), some (.int (nI f)), some (.int (nI j)), some (.int (nI n)), none] [] (mk M T) (fun r h => r = some (.int 0) ∧ h = mk M T) := by
  refine R_go 1 (pc' := 1) (L' := [some (.ref 64), some (.int (nI e)), some (.int (nI i)), some (.int (nI f)), some (.int (nI j)), some (.int (nI n)), none]) (st' := [.int (nI e)]) (h' := mk M T) (fun _ => rfl) ?_
  refine R_call2 (i := .invokestatic 168) (kd := 1) (y := M_X8_isSheet) (as := [.int (nI e)]) (r := []) (L0 := [some (.int (nI e))]) (v1 := some (.int 1)) (v2 := some (.int 0)) (h1' := mk M T) (h2' := mk M T) (pc' := 4) (st1 := [.int 1]) (st2 := [.int 0]) rfl rfl rfl rfl rfl rfl (m_isSheet) (fun g1 => ?_) (fun g1 => ?_)
  · refine R_go 2 (pc' := 8) (L' := [some (.ref 64), some (.int (nI e)), some (.int (nI i)), some (.int (nI f)), some (.int (nI j)), some (.int (nI n)), none]) (st' := [.int (nI f)]) (h' := mk M T) (fun _ => rfl) ?_
    refine R_call2 (i := .invokestatic 168) (kd := 1) (y := M_X8_isSheet) (as := [.int (nI f)]) (r := []) (L0 := [some (.int (nI f))]) (v1 := some (.int 1)) (v2 := some (.int 0)) (h1' := mk M T) (h2' := mk M T) (pc' := 11) (st1 := [.int 1]) (st2 := [.int 0]) rfl rfl rfl rfl rfl rfl (m_isSheet) (fun g2 => ?_) (fun g2 => ?_)
    · refine R_go 4 (pc' := 22) (L' := [some (.ref 64), some (.int (nI e)), some (.int (nI i)), some (.int (nI f)), some (.int (nI j)), some (.int (nI n)), none]) (st' := [.int (nI e), .ref 68]) (h' := mk M T) (fun _ => rfl) ?_
      refine R_iald (c := 65) (n := 4) (j := e) rfl rfl (by omega) (by decide) ?_
      refine R_top (y := nI b) (hb) ?_
      refine R_if 1 (c := (nI b) = 0) (t := 35) (f := 26) (L' := [some (.ref 64), some (.int (nI e)), some (.int (nI i)), some (.int (nI f)), some (.int (nI j)), some (.int (nI n)), none]) (st' := []) (h' := mk M T) (fun _ => rfl) (fun g3 => ?_) (fun g3 => ?_)
      · replace g3 : b = 0 := (nI_eq (a := b) (b := 0) (by omega) (by omega)).mp g3
        omega
      · replace g3 : ¬ b = 0 := fun q => g3 ((nI_eq (a := b) (b := 0) (by omega) (by omega)).mpr q)
        refine R_go 3 (pc' := 31) (L' := [some (.ref 64), some (.int (nI e)), some (.int (nI i)), some (.int (nI f)), some (.int (nI j)), some (.int (nI n)), none]) (st' := [.int (nI f), .ref 68]) (h' := mk M T) (fun _ => rfl) ?_
        refine R_iald (c := 65) (n := 4) (j := f) rfl rfl (by omega) (by decide) ?_
        refine R_top (y := nI c) (hc) ?_
        refine R_ifn 1 (c := (nI c) = 0) (t := 38) (f := 35) (L' := [some (.ref 64), some (.int (nI e)), some (.int (nI i)), some (.int (nI f)), some (.int (nI j)), some (.int (nI n)), none]) (st' := []) (h' := mk M T) (fun _ => rfl) (fun g4 => ?_) (fun g4 => ?_)
        · replace g4 : ¬ c = 0 := fun q => g4 ((nI_eq (a := c) (b := 0) (by omega) (by omega)).mpr q)
          refine R_go 3 (pc' := 43) (L' := [some (.ref 64), some (.int (nI e)), some (.int (nI i)), some (.int (nI f)), some (.int (nI j)), some (.int (nI n)), none]) (st' := [.int (nI e), .ref 68]) (h' := mk M T) (fun _ => rfl) ?_
          refine R_iald (c := 65) (n := 4) (j := e) rfl rfl (by omega) (by decide) ?_
          refine R_top (y := nI b) (hb) ?_
          refine R_go 3 (pc' := 49) (L' := [some (.ref 64), some (.int (nI e)), some (.int (nI i)), some (.int (nI f)), some (.int (nI j)), some (.int (nI n)), none]) (st' := [.int (nI f), .ref 68, .int (nI b)]) (h' := mk M T) (fun _ => rfl) ?_
          refine R_iald (c := 65) (n := 4) (j := f) rfl rfl (by omega) (by decide) ?_
          refine R_top (y := nI c) (hc) ?_
          refine R_if 1 (c := (nI b) = (nI c)) (t := 56) (f := 53) (L' := [some (.ref 64), some (.int (nI e)), some (.int (nI i)), some (.int (nI f)), some (.int (nI j)), some (.int (nI n)), none]) (st' := []) (h' := mk M T) (fun _ => rfl) (fun g5 => ?_) (fun g5 => ?_)
          · replace g5 : b = c := (nI_eq (a := b) (b := c) (by omega) (by omega)).mp g5
            refine R_if 2 (c := (nI n) < 0) (t := 101) (f := 61) (L' := [some (.ref 64), some (.int (nI e)), some (.int (nI i)), some (.int (nI f)), some (.int (nI j)), some (.int (nI n)), none]) (st' := []) (h' := mk M T) (fun _ => rfl) (fun g6 => ?_) (fun g6 => ?_)
            · replace g6 : n < 0 := (nI_ltI (a := n) (b := 0) (by omega) (by omega)).mp g6
              omega
            · replace g6 : ¬ n < 0 := fun q => g6 ((nI_ltI (a := n) (b := 0) (by omega) (by omega)).mpr q)
              refine R_if 2 (c := (nI i) < 0) (t := 101) (f := 65) (L' := [some (.ref 64), some (.int (nI e)), some (.int (nI i)), some (.int (nI f)), some (.int (nI j)), some (.int (nI n)), none]) (st' := []) (h' := mk M T) (fun _ => rfl) (fun g7 => ?_) (fun g7 => ?_)
              · replace g7 : i < 0 := (nI_ltI (a := i) (b := 0) (by omega) (by omega)).mp g7
                omega
              · replace g7 : ¬ i < 0 := fun q => g7 ((nI_ltI (a := i) (b := 0) (by omega) (by omega)).mpr q)
                refine R_if 2 (c := (nI j) < 0) (t := 101) (f := 70) (L' := [some (.ref 64), some (.int (nI e)), some (.int (nI i)), some (.int (nI f)), some (.int (nI j)), some (.int (nI n)), none]) (st' := []) (h' := mk M T) (fun _ => rfl) (fun g8 => ?_) (fun g8 => ?_)
                · replace g8 : j < 0 := (nI_ltI (a := j) (b := 0) (by omega) (by omega)).mp g8
                  omega
                · replace g8 : ¬ j < 0 := fun q => g8 ((nI_ltI (a := j) (b := 0) (by omega) (by omega)).mpr q)
                  refine R_go 4 (pc' := 77) (L' := [some (.ref 64), some (.int (nI e)), some (.int (nI i)), some (.int (nI f)), some (.int (nI j)), some (.int (nI n)), none]) (st' := [.int (nI e), .ref 69, .int (nI n)]) (h' := mk M T) (fun _ => rfl) ?_
                  refine R_iald (c := 66) (n := 4) (j := e) rfl rfl (by omega) (by decide) ?_
                  refine R_top (y := nI z) (hz) ?_
                  refine R_go 2 (pc' := 80) (L' := [some (.ref 64), some (.int (nI e)), some (.int (nI i)), some (.int (nI f)), some (.int (nI j)), some (.int (nI n)), none]) (st' := [.int (nI z - nI i), .int (nI n)]) (h' := mk M T) (fun _ => rfl) ?_
                  refine R_top (pk_sub (a := z) (b := i) (by omega)) ?_
                  refine R_if 1 (c := (nI (z - i)) < (nI n)) (t := 101) (f := 83) (L' := [some (.ref 64), some (.int (nI e)), some (.int (nI i)), some (.int (nI f)), some (.int (nI j)), some (.int (nI n)), none]) (st' := []) (h' := mk M T) (fun _ => rfl) (fun g9 => ?_) (fun g9 => ?_)
                  · replace g9 : (z - i) < n := (nI_ltI (a := z - i) (b := n) (by omega) (by omega)).mp g9
                    omega
                  · replace g9 : ¬ (z - i) < n := fun q => g9 ((nI_ltI (a := z - i) (b := n) (by omega) (by omega)).mpr q)
                    refine R_go 4 (pc' := 90) (L' := [some (.ref 64), some (.int (nI e)), some (.int (nI i)), some (.int (nI f)), some (.int (nI j)), some (.int (nI n)), none]) (st' := [.int (nI f), .ref 69, .int (nI n)]) (h' := mk M T) (fun _ => rfl) ?_
                    refine R_iald (c := 66) (n := 4) (j := f) rfl rfl (by omega) (by decide) ?_
                    refine R_top (y := nI y) (hy) ?_
                    refine R_go 2 (pc' := 94) (L' := [some (.ref 64), some (.int (nI e)), some (.int (nI i)), some (.int (nI f)), some (.int (nI j)), some (.int (nI n)), none]) (st' := [.int (nI y - nI j), .int (nI n)]) (h' := mk M T) (fun _ => rfl) ?_
                    refine R_top (pk_sub (a := y) (b := j) (by omega)) ?_
                    refine R_if 1 (c := (nI (y - j)) < (nI n)) (t := 101) (f := 97) (L' := [some (.ref 64), some (.int (nI e)), some (.int (nI i)), some (.int (nI f)), some (.int (nI j)), some (.int (nI n)), none]) (st' := []) (h' := mk M T) (fun _ => rfl) (fun g10 => ?_) (fun g10 => ?_)
                    · replace g10 : (y - j) < n := (nI_ltI (a := y - j) (b := n) (by omega) (by omega)).mp g10
                      omega
                    · replace g10 : ¬ (y - j) < n := fun q => g10 ((nI_ltI (a := y - j) (b := n) (by omega) (by omega)).mpr q)
                      refine R_ret 8 (pcr := 115) (v := some (.int 0)) (h' := mk M T) (fun _ => rfl) ?_
                      exact ⟨rfl, rfl⟩
          · replace g5 : ¬ b = c := fun q => g5 ((nI_eq (a := b) (b := c) (by omega) (by omega)).mpr q)
            omega
        · replace g4 : c = 0 := (nI_eq (a := c) (b := 0) (by omega) (by omega)).mp g4
          omega
    · exact absurd (nI_in2 (a := 0) (b := 3) (by omega) (by omega) (by omega)) g2
  · exact absurd (nI_in2 (a := 0) (b := 3) (by omega) (by omega) (by omega)) g1
set_option maxRecDepth 100000 in
set_option maxHeartbeats 4000000 in
theorem lp_move_a {ro : xRO} {d : Nat} {M : xM} {T : Nat}  {e f : Nat} (he : e < 4) (hf : f < 4) {i j n z y : Nat} (h1 : i + n ≤ z) (h2 : j + n ≤ y) (z24 : z ≤ 24) (y24 : y ≤ 24) (hd : j ≤ i) : ∀ (k : Nat) (c : Nat) (w : Option Value), c + k = n →  Rn ro (d + 90) M_X8_move 28 [some (.ref 64), some (.int (nI e)), some (.int (nI i)), some (.int (nI f)), some (.int (nI j)), some (.int (nI n)), some (.int 0), some (.int (nI c)), w] [] (mk (cpM M (24 * e + i) (24 * f + j) (24 * f + j) (24 * f + j + c)) T) (fun r h => r = some (.int (nI n)) ∧ h = mk (cpM M (24 * e + i) (24 * f + j) (24 * f + j) (24 * f + j + n)) T) := by
  intro k
  induction k with
  | zero =>
    intro c w hc
    obtain rfl : c = n := by omega
    refine R_if 3 (c := (nI c) ≤ (nI c)) (t := 90) (f := 35) (L' := [some (.ref 64), some (.int (nI e)), some (.int (nI i)), some (.int (nI f)), some (.int (nI j)), some (.int (nI c)), some (.int 0), some (.int (nI c)), w]) (st' := []) (h' := mk (cpM M (24 * e + i) (24 * f + j) (24 * f + j) (24 * f + j + c)) T) (fun _ => rfl) (fun g1 => ?_) (fun g1 => ?_)
    · replace g1 : c ≤ c := (nI_leI (a := c) (b := c) (by omega) (by omega)).mp g1
      refine R_ret 2 (pcr := 92) (v := some (.int (nI c))) (h' := mk (cpM M (24 * e + i) (24 * f + j) (24 * f + j) (24 * f + j + c)) T) (fun _ => rfl) ?_
      exact ⟨rfl, rfl⟩
    · replace g1 : ¬ c ≤ c := fun q => g1 ((nI_leI (a := c) (b := c) (by omega) (by omega)).mpr q)
      omega
  | succ k ih =>
    intro c w hc
    refine R_if 3 (c := (nI n) ≤ (nI c)) (t := 90) (f := 35) (L' := [some (.ref 64), some (.int (nI e)), some (.int (nI i)), some (.int (nI f)), some (.int (nI j)), some (.int (nI n)), some (.int 0), some (.int (nI c)), w]) (st' := []) (h' := mk (cpM M (24 * e + i) (24 * f + j) (24 * f + j) (24 * f + j + c)) T) (fun _ => rfl) (fun g1 => ?_) (fun g1 => ?_)
    · replace g1 : n ≤ c := (nI_leI (a := n) (b := c) (by omega) (by omega)).mp g1
      omega
    · replace g1 : ¬ n ≤ c := fun q => g1 ((nI_leI (a := n) (b := c) (by omega) (by omega)).mpr q)
      refine R_if 3 (c := (nI j) ≤ (nI i)) (t := 51) (f := 41) (L' := [some (.ref 64), some (.int (nI e)), some (.int (nI i)), some (.int (nI f)), some (.int (nI j)), some (.int (nI n)), some (.int 0), some (.int (nI c)), w]) (st' := []) (h' := mk (cpM M (24 * e + i) (24 * f + j) (24 * f + j) (24 * f + j + c)) T) (fun _ => rfl) (fun g2 => ?_) (fun g2 => ?_)
      · replace g2 : j ≤ i := (nI_leI (a := j) (b := i) (by omega) (by omega)).mp g2
        refine R_go 7 (pc' := 63) (L' := [some (.ref 64), some (.int (nI e)), some (.int (nI i)), some (.int (nI f)), some (.int (nI j)), some (.int (nI n)), some (.int 0), some (.int (nI c)), some (.int (nI c))]) (st' := [.int (24 * nI f), .ref 70]) (h' := mk (cpM M (24 * e + i) (24 * f + j) (24 * f + j) (24 * f + j + c)) T) (fun _ => rfl) ?_
        refine R_top (pk_mul 24 f) ?_
        refine R_go 2 (pc' := 66) (L' := [some (.ref 64), some (.int (nI e)), some (.int (nI i)), some (.int (nI f)), some (.int (nI j)), some (.int (nI n)), some (.int 0), some (.int (nI c)), some (.int (nI c))]) (st' := [.int (nI (24 * f) + nI j), .ref 70]) (h' := mk (cpM M (24 * e + i) (24 * f + j) (24 * f + j) (24 * f + j + c)) T) (fun _ => rfl) ?_
        refine R_top (nI_add (24 * f) j) ?_
        refine R_go 2 (pc' := 69) (L' := [some (.ref 64), some (.int (nI e)), some (.int (nI i)), some (.int (nI f)), some (.int (nI j)), some (.int (nI n)), some (.int 0), some (.int (nI c)), some (.int (nI c))]) (st' := [.int (nI ((24 * f) + j) + nI c), .ref 70]) (h' := mk (cpM M (24 * e + i) (24 * f + j) (24 * f + j) (24 * f + j + c)) T) (fun _ => rfl) ?_
        refine R_top (nI_add ((24 * f) + j) c) ?_
        refine R_go 5 (pc' := 77) (L' := [some (.ref 64), some (.int (nI e)), some (.int (nI i)), some (.int (nI f)), some (.int (nI j)), some (.int (nI n)), some (.int 0), some (.int (nI c)), some (.int (nI c))]) (st' := [.int (24 * nI e), .ref 70, .int (nI (((24 * f) + j) + c)), .ref 70]) (h' := mk (cpM M (24 * e + i) (24 * f + j) (24 * f + j) (24 * f + j + c)) T) (fun _ => rfl) ?_
        refine R_top (pk_mul 24 e) ?_
        refine R_go 2 (pc' := 79) (L' := [some (.ref 64), some (.int (nI e)), some (.int (nI i)), some (.int (nI f)), some (.int (nI j)), some (.int (nI n)), some (.int 0), some (.int (nI c)), some (.int (nI c))]) (st' := [.int (nI (24 * e) + nI i), .ref 70, .int (nI (((24 * f) + j) + c)), .ref 70]) (h' := mk (cpM M (24 * e + i) (24 * f + j) (24 * f + j) (24 * f + j + c)) T) (fun _ => rfl) ?_
        refine R_top (nI_add (24 * e) i) ?_
        refine R_go 2 (pc' := 82) (L' := [some (.ref 64), some (.int (nI e)), some (.int (nI i)), some (.int (nI f)), some (.int (nI j)), some (.int (nI n)), some (.int 0), some (.int (nI c)), some (.int (nI c))]) (st' := [.int (nI ((24 * e) + i) + nI c), .ref 70, .int (nI (((24 * f) + j) + c)), .ref 70]) (h' := mk (cpM M (24 * e + i) (24 * f + j) (24 * f + j) (24 * f + j + c)) T) (fun _ => rfl) ?_
        refine R_top (nI_add ((24 * e) + i) c) ?_
        refine R_iald (c := 67) (n := 96) (j := ((24 * e) + i) + c) rfl rfl (by omega) (by decide) ?_
        refine R_iast (c := 67) (n := 96) (j := ((24 * f) + j) + c) rfl rfl (by omega) (by decide) ?_
        refine R_go 1 (pc' := 87) (L' := [some (.ref 64), some (.int (nI e)), some (.int (nI i)), some (.int (nI f)), some (.int (nI j)), some (.int (nI n)), some (.int 0), some (.int ((nI c) + 1)), some (.int (nI c))]) (st' := []) (h' := mk (up (cpM M (24 * e + i) (24 * f + j) (24 * f + j) (24 * f + j + c)) 67 (((24 * f) + j) + c) ((cpM M (24 * e + i) (24 * f + j) (24 * f + j) (24 * f + j + c)) 67 (((24 * e) + i) + c))) T) (fun _ => rfl) ?_
        rw [nI_1]
        refine R_go 1 (pc' := 28) (L' := [some (.ref 64), some (.int (nI e)), some (.int (nI i)), some (.int (nI f)), some (.int (nI j)), some (.int (nI n)), some (.int 0), some (.int (nI (c + 1))), some (.int (nI c))]) (st' := []) (h' := mk (up (cpM M (24 * e + i) (24 * f + j) (24 * f + j) (24 * f + j + c)) 67 (((24 * f) + j) + c) ((cpM M (24 * e + i) (24 * f + j) (24 * f + j) (24 * f + j + c)) 67 (((24 * e) + i) + c))) T) (fun _ => rfl) ?_
        rw [cpM_hi rfl rfl (by omega)]
        exact ih (c + 1) _ (by omega)
      · replace g2 : ¬ j ≤ i := fun q => g2 ((nI_leI (a := j) (b := i) (by omega) (by omega)).mpr q)
        omega
set_option maxRecDepth 100000 in
set_option maxHeartbeats 4000000 in
theorem lp_move_d {ro : xRO} {d : Nat} {M : xM} {T : Nat}  {e f : Nat} (he : e < 4) (hf : f < 4) {i j n z y : Nat} (h1 : i + n ≤ z) (h2 : j + n ≤ y) (z24 : z ≤ 24) (y24 : y ≤ 24) (hd : i < j) : ∀ (k : Nat) (c : Nat) (w : Option Value), c + k = n →  Rn ro (d + 90) M_X8_move 28 [some (.ref 64), some (.int (nI e)), some (.int (nI i)), some (.int (nI f)), some (.int (nI j)), some (.int (nI n)), some (.int 0), some (.int (nI c)), w] [] (mk (cpM M (24 * e + i) (24 * f + j) (24 * f + j + (n - c)) (24 * f + j + n)) T) (fun r h => r = some (.int (nI n)) ∧ h = mk (cpM M (24 * e + i) (24 * f + j) (24 * f + j) (24 * f + j + n)) T) := by
  intro k
  induction k with
  | zero =>
    intro c w hc
    obtain rfl : c = n := by omega
    rw [Nat.sub_self]
    refine R_if 3 (c := (nI c) ≤ (nI c)) (t := 90) (f := 35) (L' := [some (.ref 64), some (.int (nI e)), some (.int (nI i)), some (.int (nI f)), some (.int (nI j)), some (.int (nI c)), some (.int 0), some (.int (nI c)), w]) (st' := []) (h' := mk (cpM M (24 * e + i) (24 * f + j) (24 * f + j + 0) (24 * f + j + c)) T) (fun _ => rfl) (fun g1 => ?_) (fun g1 => ?_)
    · replace g1 : c ≤ c := (nI_leI (a := c) (b := c) (by omega) (by omega)).mp g1
      refine R_ret 2 (pcr := 92) (v := some (.int (nI c))) (h' := mk (cpM M (24 * e + i) (24 * f + j) (24 * f + j + 0) (24 * f + j + c)) T) (fun _ => rfl) ?_
      exact ⟨rfl, rfl⟩
    · replace g1 : ¬ c ≤ c := fun q => g1 ((nI_leI (a := c) (b := c) (by omega) (by omega)).mpr q)
      omega
  | succ k ih =>
    intro c w hc
    have e1 : 24 * f + j + (n - c) = 24 * f + j + (n - 1 - c) + 1 := by omega
    have e2 : n - 1 - c = n - (c + 1) := by omega
    rw [e1]
    refine R_if 3 (c := (nI n) ≤ (nI c)) (t := 90) (f := 35) (L' := [some (.ref 64), some (.int (nI e)), some (.int (nI i)), some (.int (nI f)), some (.int (nI j)), some (.int (nI n)), some (.int 0), some (.int (nI c)), w]) (st' := []) (h' := mk (cpM M (24 * e + i) (24 * f + j) (24 * f + j + (n - 1 - c) + 1) (24 * f + j + n)) T) (fun _ => rfl) (fun g1 => ?_) (fun g1 => ?_)
    · replace g1 : n ≤ c := (nI_leI (a := n) (b := c) (by omega) (by omega)).mp g1
      omega
    · replace g1 : ¬ n ≤ c := fun q => g1 ((nI_leI (a := n) (b := c) (by omega) (by omega)).mpr q)
      refine R_if 3 (c := (nI j) ≤ (nI i)) (t := 51) (f := 41) (L' := [some (.ref 64), some (.int (nI e)), some (.int (nI i)), some (.int (nI f)), some (.int (nI j)), some (.int (nI n)), some (.int 0), some (.int (nI c)), w]) (st' := []) (h' := mk (cpM M (24 * e + i) (24 * f + j) (24 * f + j + (n - 1 - c) + 1) (24 * f + j + n)) T) (fun _ => rfl) (fun g2 => ?_) (fun g2 => ?_)
      · replace g2 : j ≤ i := (nI_leI (a := j) (b := i) (by omega) (by omega)).mp g2
        omega
      · replace g2 : ¬ j ≤ i := fun q => g2 ((nI_leI (a := j) (b := i) (by omega) (by omega)).mpr q)
        refine R_go 3 (pc' := 45) (L' := [some (.ref 64), some (.int (nI e)), some (.int (nI i)), some (.int (nI f)), some (.int (nI j)), some (.int (nI n)), some (.int 0), some (.int (nI c)), w]) (st' := [.int (nI n - 1)]) (h' := mk (cpM M (24 * e + i) (24 * f + j) (24 * f + j + (n - 1 - c) + 1) (24 * f + j + n)) T) (fun _ => rfl) ?_
        refine R_top (pk_sub (a := n) (b := 1) (by omega)) ?_
        refine R_go 2 (pc' := 48) (L' := [some (.ref 64), some (.int (nI e)), some (.int (nI i)), some (.int (nI f)), some (.int (nI j)), some (.int (nI n)), some (.int 0), some (.int (nI c)), w]) (st' := [.int (nI (n - 1) - nI c)]) (h' := mk (cpM M (24 * e + i) (24 * f + j) (24 * f + j + (n - 1 - c) + 1) (24 * f + j + n)) T) (fun _ => rfl) ?_
        refine R_top (pk_sub (a := n - 1) (b := c) (by omega)) ?_
        refine R_go 7 (pc' := 63) (L' := [some (.ref 64), some (.int (nI e)), some (.int (nI i)), some (.int (nI f)), some (.int (nI j)), some (.int (nI n)), some (.int 0), some (.int (nI c)), some (.int (nI ((n - 1) - c)))]) (st' := [.int (24 * nI f), .ref 70]) (h' := mk (cpM M (24 * e + i) (24 * f + j) (24 * f + j + (n - 1 - c) + 1) (24 * f + j + n)) T) (fun _ => rfl) ?_
        refine R_top (pk_mul 24 f) ?_
        refine R_go 2 (pc' := 66) (L' := [some (.ref 64), some (.int (nI e)), some (.int (nI i)), some (.int (nI f)), some (.int (nI j)), some (.int (nI n)), some (.int 0), some (.int (nI c)), some (.int (nI ((n - 1) - c)))]) (st' := [.int (nI (24 * f) + nI j), .ref 70]) (h' := mk (cpM M (24 * e + i) (24 * f + j) (24 * f + j + (n - 1 - c) + 1) (24 * f + j + n)) T) (fun _ => rfl) ?_
        refine R_top (nI_add (24 * f) j) ?_
        refine R_go 2 (pc' := 69) (L' := [some (.ref 64), some (.int (nI e)), some (.int (nI i)), some (.int (nI f)), some (.int (nI j)), some (.int (nI n)), some (.int 0), some (.int (nI c)), some (.int (nI ((n - 1) - c)))]) (st' := [.int (nI ((24 * f) + j) + nI ((n - 1) - c)), .ref 70]) (h' := mk (cpM M (24 * e + i) (24 * f + j) (24 * f + j + (n - 1 - c) + 1) (24 * f + j + n)) T) (fun _ => rfl) ?_
        refine R_top (nI_add ((24 * f) + j) ((n - 1) - c)) ?_
        refine R_go 5 (pc' := 77) (L' := [some (.ref 64), some (.int (nI e)), some (.int (nI i)), some (.int (nI f)), some (.int (nI j)), some (.int (nI n)), some (.int 0), some (.int (nI c)), some (.int (nI ((n - 1) - c)))]) (st' := [.int (24 * nI e), .ref 70, .int (nI (((24 * f) + j) + ((n - 1) - c))), .ref 70]) (h' := mk (cpM M (24 * e + i) (24 * f + j) (24 * f + j + (n - 1 - c) + 1) (24 * f + j + n)) T) (fun _ => rfl) ?_
        refine R_top (pk_mul 24 e) ?_
        refine R_go 2 (pc' := 79) (L' := [some (.ref 64), some (.int (nI e)), some (.int (nI i)), some (.int (nI f)), some (.int (nI j)), some (.int (nI n)), some (.int 0), some (.int (nI c)), some (.int (nI ((n - 1) - c)))]) (st' := [.int (nI (24 * e) + nI i), .ref 70, .int (nI (((24 * f) + j) + ((n - 1) - c))), .ref 70]) (h' := mk (cpM M (24 * e + i) (24 * f + j) (24 * f + j + (n - 1 - c) + 1) (24 * f + j + n)) T) (fun _ => rfl) ?_
        refine R_top (nI_add (24 * e) i) ?_
        refine R_go 2 (pc' := 82) (L' := [some (.ref 64), some (.int (nI e)), some (.int (nI i)), some (.int (nI f)), some (.int (nI j)), some (.int (nI n)), some (.int 0), some (.int (nI c)), some (.int (nI ((n - 1) - c)))]) (st' := [.int (nI ((24 * e) + i) + nI ((n - 1) - c)), .ref 70, .int (nI (((24 * f) + j) + ((n - 1) - c))), .ref 70]) (h' := mk (cpM M (24 * e + i) (24 * f + j) (24 * f + j + (n - 1 - c) + 1) (24 * f + j + n)) T) (fun _ => rfl) ?_
        refine R_top (nI_add ((24 * e) + i) ((n - 1) - c)) ?_
        refine R_iald (c := 67) (n := 96) (j := ((24 * e) + i) + ((n - 1) - c)) rfl rfl (by omega) (by decide) ?_
        refine R_iast (c := 67) (n := 96) (j := ((24 * f) + j) + ((n - 1) - c)) rfl rfl (by omega) (by decide) ?_
        refine R_go 1 (pc' := 87) (L' := [some (.ref 64), some (.int (nI e)), some (.int (nI i)), some (.int (nI f)), some (.int (nI j)), some (.int (nI n)), some (.int 0), some (.int ((nI c) + 1)), some (.int (nI ((n - 1) - c)))]) (st' := []) (h' := mk (up (cpM M (24 * e + i) (24 * f + j) (24 * f + j + (n - 1 - c) + 1) (24 * f + j + n)) 67 (((24 * f) + j) + ((n - 1) - c)) ((cpM M (24 * e + i) (24 * f + j) (24 * f + j + (n - 1 - c) + 1) (24 * f + j + n)) 67 (((24 * e) + i) + ((n - 1) - c)))) T) (fun _ => rfl) ?_
        rw [nI_1]
        refine R_go 1 (pc' := 28) (L' := [some (.ref 64), some (.int (nI e)), some (.int (nI i)), some (.int (nI f)), some (.int (nI j)), some (.int (nI n)), some (.int 0), some (.int (nI (c + 1))), some (.int (nI ((n - 1) - c)))]) (st' := []) (h' := mk (up (cpM M (24 * e + i) (24 * f + j) (24 * f + j + (n - 1 - c) + 1) (24 * f + j + n)) 67 (((24 * f) + j) + ((n - 1) - c)) ((cpM M (24 * e + i) (24 * f + j) (24 * f + j + (n - 1 - c) + 1) (24 * f + j + n)) 67 (((24 * e) + i) + ((n - 1) - c)))) T) (fun _ => rfl) ?_
        rw [cpM_lo rfl (by omega) (by omega), e2]
        exact ih (c + 1) _ (by omega)
set_option maxRecDepth 100000 in
set_option maxHeartbeats 4000000 in
theorem m_move_i {ro : xRO} {d : Nat} {M : xM} {T : Nat} {e f : Nat} (he : e < 4) (hf : f < 4) {b c : Nat} (hb : M 65 e = nI b) (hc : M 65 f = nI c) (b32 : b ≤ 32) (c32 : c ≤ 32) {z y : Nat} (hz : M 66 e = nI z) (hy : M 66 f = nI y) (z24 : z ≤ 24) (y24 : y ≤ 24) (b0 : ¬ b = 0) (c0 : ¬ c = 0) (bc : b = c) {i j n : Nat} (h1 : i + n ≤ z) (h2 : j + n ≤ y) : Rn ro (d + 90) M_X8_move 0 [some (.ref 64), some (.int (nI e)), some (.int (nI i)), some (.int (nI f)), some (.int (nI j)), some (.int (nI n)), none, none, none] [] (mk M T) (fun r h => r = some (.int (nI n)) ∧ h = mk (cpM M (24 * e + i) (24 * f + j) (24 * f + j) (24 * f + j + n)) T) := by
  refine R_go 6 (pc' := 8) (L' := [some (.ref 64), some (.int (nI e)), some (.int (nI i)), some (.int (nI f)), some (.int (nI j)), some (.int (nI n)), none, none, none]) (st' := [.int (nI n), .int (nI j), .int (nI f), .int (nI i), .int (nI e), .ref 64]) (h' := mk M T) (fun _ => rfl) ?_
  refine R_callD (i := .invokevirtual 252) (kd := 0) (y := M_X8_notMoved) (as := [.ref 64, .int (nI e), .int (nI i), .int (nI f), .int (nI j), .int (nI n)]) (r := []) (L0 := [some (.ref 64), some (.int (nI e)), some (.int (nI i)), some (.int (nI f)), some (.int (nI j)), some (.int (nI n)), none]) (v := some (.int 0)) (h' := mk M T) (pc' := 11) (st' := [.int 0]) rfl rfl rfl rfl rfl rfl (m_notMoved_i he hf hb hc b32 c32 hz hy z24 y24 b0 c0 bc h1 h2) ?_
  refine R_go 5 (pc' := 28) (L' := [some (.ref 64), some (.int (nI e)), some (.int (nI i)), some (.int (nI f)), some (.int (nI j)), some (.int (nI n)), some (.int 0), some (.int 0), none]) (st' := []) (h' := mk M T) (fun _ => rfl) ?_
  rcases Nat.lt_or_ge i j with hd | hd
  · have w := lp_move_d (ro := ro) (d := d) (M := M) (T := T) he hf h1 h2 z24 y24 hd n 0 none (Nat.zero_add n)
    rw [Nat.sub_zero n, cpM_0] at w
    exact w
  · have w := lp_move_a (ro := ro) (d := d) (M := M) (T := T) he hf h1 h2 z24 y24 hd n 0 none (Nat.zero_add n)
    rw [Nat.add_zero (24 * f + j), cpM_0] at w
    exact w
set_option maxHeartbeats 4000000 in
theorem op_move {ro : xRO} {M : xM} {T : Nat} (h : Rel M) {s i t j n : Int32} : OpOK ro M_X7_move M_X8_move [some (.ref 3), some (.int s), some (.int i), some (.int t), some (.int j), some (.int n), none, none] [some (.ref 64), some (.int s), some (.int i), some (.int t), some (.int j), some (.int n), none, none, none] M T := by
  obtain ⟨P, H, h8, h6, pm, hm, px, hx, a, b1, b2, b3, b4, c2, c3, c4, c5⟩ := rel_all h
  rcases nI_cases s 4 (by omega) with ⟨e, he, rfl⟩ | h_s
  · rcases nI_cases t 4 (by omega) with ⟨f, hf, rfl⟩ | h_t
    · obtain ⟨b, z, bx, bm, b5, zx, zm, z24, bz, nr⟩ := rel_sh h he
      obtain ⟨c, y, cx, cm, c5_, yx, ym, y24, cy, nr2⟩ := rel_sh h hf
      have b32 : b ≤ 32 := by omega
      have c32 : c ≤ 32 := by omega
      by_cases b0 : b = 0
      · exact OpOK.of (fun d => x_move_b1 he hf bx cx b32 c32 b0) (fun d => m_move_b1 (M := up M 60 2 (M 60 2 + 1)) he hf bm cm b32 c32 b0) rfl (h.err 2 (by omega))
      · by_cases c0 : c = 0
        · exact OpOK.of (fun d => x_move_b2 he hf bx cx b32 c32 b0 c0) (fun d => m_move_b2 (M := up M 60 2 (M 60 2 + 1)) he hf bm cm b32 c32 b0 c0) rfl (h.err 2 (by omega))
        · by_cases bc : b = c
          · by_cases hr : spn i n (nI z) ∧ spn j n (nI y)
            · obtain ⟨i', n', rfl, rfl, h1⟩ := spn_n z24 hr.1
              obtain ⟨j', n2, rfl, q, h2⟩ := spn_n y24 hr.2
              have q3 : n' = n2 := nI_inj (by omega) (by omega) q
              rw [← q3] at h2
              exact OpOK.of (fun d => x_move_i he hf bx cx b32 c32 zx yx z24 y24 b0 c0 bc h1 h2) (fun d => m_move_i he hf ((congrFun (upA_ne (by omega)) e).trans bm) ((congrFun (upA_ne (by omega)) f).trans cm) b32 c32 ((congrFun (upA_ne (by omega)) e).trans zm) ((congrFun (upA_ne (by omega)) f).trans ym) z24 y24 b0 c0 bc h1 h2) rfl (h.move he hf (by rw [bm, cm, bc]) h1 h2 z24 y24)
            · exact OpOK.of (fun d => x_move_r he hf bx cx b32 c32 zx yx z24 y24 b0 c0 bc hr) (fun d => m_move_r (M := up M 60 1 (M 60 1 + 1)) he hf bm cm b32 c32 zm ym z24 y24 b0 c0 bc hr) rfl (h.err 1 (by omega))
          · exact OpOK.of (fun d => x_move_u he hf bx cx b32 c32 b0 c0 bc) (fun d => m_move_u (M := up M 60 5 (M 60 5 + 1)) he hf bm cm b32 c32 b0 c0 bc) rfl (h.err 5 (by omega))
    · exact OpOK.of (fun d => x_move_o3 he h_t) (fun d => m_move_o3 (M := up M 60 1 (M 60 1 + 1)) he h_t) rfl (h.err 1 (by omega))
  · rcases nI_cases t 4 (by omega) with ⟨f, hf, rfl⟩ | h_t
    · exact OpOK.of (fun d => x_move_o2 h_s hf) (fun d => m_move_o2 (M := up M 60 1 (M 60 1 + 1)) h_s hf) rfl (h.err 1 (by omega))
    · exact OpOK.of (fun d => x_move_o1 h_s h_t) (fun d => m_move_o1 (M := up M 60 1 (M 60 1 + 1)) h_s h_t) rfl (h.err 1 (by omega))
