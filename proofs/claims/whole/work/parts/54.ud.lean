/-! ROUNDS: walk, roundOf -/
def zN (M : xM) (c : Nat) : Nat → xM
  | 0 => M
  | n + 1 => up (zN M c n) c n (-1)
theorem zN_rd {M : xM} {c a b : Nat} : ∀ {n : Nat}, zN M c n a b = if a = c ∧ b < n then -1 else M a b := by
  intro n
  induction n with
  | zero => rw [if_neg (by omega)]; rfl
  | succ n ih =>
    show up (zN M c n) c n (-1) a b = _
    rw [up_rd, ih]
    grind
theorem zN_ne {M : xM} {c a n : Nat} (h : a ≠ c) : zN M c n a = M a := by
  funext b
  rw [zN_rd, if_neg (fun q => h q.1)]
set_option maxRecDepth 100000 in
set_option maxHeartbeats 4000000 in
theorem lp_filn {ro : xRO} {d : Nat} {M : xM} {T : Nat} {c m : Nat} (hc : shp[c]? = some (.inr (.inl m))) (m60 : m ≤ 1000) : ∀ (k i : Nat), i + k = m → Rn ro d M_J7_fill_53178 5 [some (.ref (c + 3)), some (.int (-1)), some (.int (nI i)), some (.int (nI m))] [] (mk (zN M c i) T) (fun r h => r = none ∧ h = mk (zN M c m) T) := by
  intro k
  induction k with
  | zero =>
    intro i hi
    obtain rfl : i = m := by omega
    refine R_if 3 (c := nI i ≤ nI i) (t := 20) (f := 10) (L' := [some (.ref (c + 3)), some (.int (-1)), some (.int (nI i)), some (.int (nI i))]) (st' := []) (h' := mk (zN M c i) T) (fun _ => rfl) (fun g => ?_) (fun g => ?_)
    · exact R_ret 1 (pcr := 20) (v := none) (h' := mk (zN M c i) T) (fun _ => rfl) ⟨rfl, rfl⟩
    · exact absurd Int32.le_rfl g
  | succ k ih =>
    intro i hi
    refine R_if 3 (c := nI m ≤ nI i) (t := 20) (f := 10) (L' := [some (.ref (c + 3)), some (.int (-1)), some (.int (nI i)), some (.int (nI m))]) (st' := []) (h' := mk (zN M c i) T) (fun _ => rfl) (fun g => ?_) (fun g => ?_)
    · exact absurd ((nI_leI (by omega) (by omega)).mp g) (by omega)
    · refine R_go 3 (pc' := 13) (L' := [some (.ref (c + 3)), some (.int (-1)), some (.int (nI i)), some (.int (nI m))]) (st' := [.int (-1), .int (nI i), .ref (c + 3)]) (h' := mk (zN M c i) T) (fun _ => rfl) ?_
      refine R_iast (c := c) (n := m) (j := i) hc rfl (by omega) (by omega) ?_
      refine R_go 1 (pc' := 17) (L' := [some (.ref (c + 3)), some (.int (-1)), some (.int (nI i + 1)), some (.int (nI m))]) (st' := []) (h' := mk (up (zN M c i) c i (-1)) T) (fun _ => rfl) ?_
      rw [nI_1]
      refine R_go 1 (pc' := 5) (L' := [some (.ref (c + 3)), some (.int (-1)), some (.int (nI (i + 1))), some (.int (nI m))]) (st' := []) (h' := mk (zN M c (i + 1)) T) (fun _ => rfl) ?_
      exact ih (i + 1) (by omega)
set_option maxRecDepth 100000 in
set_option maxHeartbeats 4000000 in
theorem c_filn {ro : xRO} {d : Nat} {M : xM} {T : Nat} {c m : Nat} (hc : shp[c]? = some (.inr (.inl m))) (m60 : m ≤ 1000) : Rn ro d M_J7_fill_53178 0 [some (.ref (c + 3)), some (.int (-1)), none, none] [] (mk M T) (fun r h => r = none ∧ h = mk (zN M c m) T) := by
  refine R_go 3 (pc' := 3) (L' := [some (.ref (c + 3)), some (.int (-1)), some (.int 0), none]) (st' := [.ref (c + 3)]) (h' := mk M T) (fun _ => rfl) ?_
  refine R_alen (c := c) hc rfl ?_
  refine R_go 1 (pc' := 5) (L' := [some (.ref (c + 3)), some (.int (-1)), some (.int 0), some (.int (nI m))]) (st' := []) (h' := mk M T) (fun _ => rfl) ?_
  exact lp_filn hc m60 m 0 (Nat.zero_add m)
theorem c_filE {ro : xRO} {d : Nat} {M : xM} {T : Nat} {c : Nat} (hc : shp[c]? = some (.inr (.inl 128))) : Rn ro d M_J7_fill_53178 0 [some (.ref (c + 3)), some (.int (-1)), none, none] [] (mk M T) (fun r h => ∃ F, F = zN M c 128 ∧ r = none ∧ h = mk F T) :=
  (c_filn hc (by omega)).imp (fun _ _ q => ⟨_, rfl, q.1, q.2⟩)
set_option maxRecDepth 100000 in
set_option maxHeartbeats 4000000 in
theorem c_forget {ro : xRO} {d : Nat} {M : xM} {T : Nat} {M0 : xM} : Rn ro (d + 1) M_X3_forget 0 [some (.ref 42)] [] (mk M T) (fun rr h => ∃ M', ((∀ c, c ≠ 40 → c ≠ 41 → M' c = M c) ∧ Memo M0 M') ∧ rr = none ∧ h = mk M' T) := by
  refine R_go 3 (pc' := 5) (L' := [some (.ref 42)]) (st' := [.int (-1), .ref 43]) (h' := mk M T) (fun _ => rfl) ?_
  refine R_callE (i := .invokestatic 27) (kd := 1) (y := M_J7_fill_53178) (as := [.ref 43, .int (-1)]) (r := []) (L0 := [some (.ref 43), some (.int (-1)), none, none]) (v := fun F40 => none) (h' := fun F40 => mk F40 T) (pc' := 8) (st' := fun F40 => []) rfl rfl rfl rfl rfl rfl (c_filE (c := 40) rfl) (fun F40 x1 => ?_)
  refine R_go 3 (pc' := 13) (L' := [some (.ref 42)]) (st' := [.int (-1), .ref 44]) (h' := mk F40 T) (fun _ => rfl) ?_
  refine R_callE (i := .invokestatic 27) (kd := 1) (y := M_J7_fill_53178) (as := [.ref 44, .int (-1)]) (r := []) (L0 := [some (.ref 44), some (.int (-1)), none, none]) (v := fun F41 => none) (h' := fun F41 => mk F41 T) (pc' := 16) (st' := fun F41 => []) rfl rfl rfl rfl rfl rfl (c_filE (c := 41) rfl) (fun F41 x2 => ?_)
  refine R_ret 1 (pcr := 16) (v := none) (h' := mk F41 T) (fun _ => rfl) ?_
  refine ⟨F41, ⟨fun c a b => by rw [x2, zN_ne b, x1, zN_ne a], fun p r hp hr => ⟨Or.inl ?_, Or.inl ?_⟩⟩, rfl, rfl⟩
  · rw [x2, zN_ne (by omega), x1, zN_rd, if_pos ⟨rfl, by omega⟩]
  · rw [x2, zN_rd, if_pos ⟨rfl, by omega⟩]
def cdN (M : xM) : Nat := (M 62 0).toNatClampNeg
def lpN (M : xM) : Nat := (M 62 2).toNatClampNeg
def hoN (M : xM) : Nat := (M 62 1).toNatClampNeg
theorem rel_now {M0 : xM} (h : Rel M0) : M0 1 11 = nI (cdN M0) ∧ M0 1 13 = nI (lpN M0) ∧ M0 1 12 = nI (hoN M0) ∧ M0 62 0 = nI (cdN M0) ∧ M0 62 2 = nI (lpN M0) ∧ M0 62 1 = nI (hoN M0) ∧ cdN M0 ≤ 40 ∧ lpN M0 ≤ 1 ∧ hoN M0 ≤ 23 := by
  obtain ⟨P, H, h8, h6, pm, hm, px, hx, a, b1, b2, b3, b4, c2, c3, c4, c5⟩ := rel_all h
  have g0 := iN_c c2.2.2.1 (by omega)
  have g1 := iN_c c2.2.2.2.1 (by omega)
  have g2 := iN_c c2.2.2.2.2.1 (by omega)
  exact ⟨a.2.2.2.1.trans g0.1, a.2.2.2.2.2.1.trans g2.1, a.2.2.2.2.1.trans g1.1, g0.1, g2.1, g1.1, g0.2, g2.2, g1.2⟩
theorem fc_now {M0 M : xM} (h : Rel M0) (hf : FC M0 M) : M 1 11 = nI (cdN M0) ∧ M 1 13 = nI (lpN M0) ∧ M 1 12 = nI (hoN M0) ∧ cdN M0 ≤ 40 ∧ lpN M0 ≤ 1 ∧ hoN M0 ≤ 23 := by
  obtain ⟨a1, a2, a3, -, -, -, a7⟩ := rel_now h
  rw [hf.2 11 (by omega) (by omega), hf.2 13 (by omega) (by omega), hf.2 12 (by omega) (by omega)]
  exact ⟨a1, a2, a3, a7⟩
theorem fm_now {M0 M : xM} (h : Rel M0) (hf : FM M0 M) : M 62 0 = nI (cdN M0) ∧ M 62 2 = nI (lpN M0) ∧ M 62 1 = nI (hoN M0) ∧ cdN M0 ≤ 40 ∧ lpN M0 ≤ 1 ∧ hoN M0 ≤ 23 := by
  obtain ⟨-, -, -, a1, a2, a3, a7⟩ := rel_now h
  rw [hf 0 (by omega) (by omega) (by omega), hf 2 (by omega) (by omega) (by omega), hf 1 (by omega) (by omega) (by omega)]
  exact ⟨a1, a2, a3, a7⟩
/-- what is read on a pane -/
def rdN (M0 : xM) (B : Int32) (p hour : Nat) : Nat := if (B >>> (nI p &&& 31)) &&& 1 = 1 then 0 else lftN (kdN M0 p) (mqN M0 p) (fcN M0 p) (clN M0 p) hour (cdN M0) (lpN M0)
def wkT (M0 : xM) (B : Int32) (ord : Nat → Nat) (w0 : Nat → Int32) (h : Nat) : Nat → Nat × Nat × (Nat → Int32)
  | 0 => (h, 0, w0)
  | i + 1 => ((wkT M0 B ord w0 h i).1 + tkN M0 (ord i) (rdN M0 B (ord i) (wkT M0 B ord w0 h i).1), (wkT M0 B ord w0 h i).2.1 + vlN M0 (ord i) (rdN M0 B (ord i) (wkT M0 B ord w0 h i).1), upd (wkT M0 B ord w0 h i).2.2 (ord i) (nI (vlN M0 (ord i) (rdN M0 B (ord i) (wkT M0 B ord w0 h i).1))))
theorem wkT_s {M0 : xM} {B : Int32} {ord : Nat → Nat} {w0 wl : Nat → Int32} {h i hr sm : Nat} (he : wkT M0 B ord w0 h i = (hr, sm, wl)) : wkT M0 B ord w0 h (i + 1) = (hr + tkN M0 (ord i) (rdN M0 B (ord i) hr), sm + vlN M0 (ord i) (rdN M0 B (ord i) hr), upd wl (ord i) (nI (vlN M0 (ord i) (rdN M0 B (ord i) hr)))) := by
  conv => lhs; unfold wkT
  rw [he]
theorem rdN_le {M0 : xM} (h : Rel M0) {B : Int32} {p hour : Nat} (hp : p < 8) : rdN M0 B p hour < 16 := by
  obtain ⟨a, -⟩ := fc_pane h FC_refl hp
  obtain ⟨-, -, -, -, z1, z2, z3, z4⟩ := a
  have c := (fc_now h FC_refl).2.2.2.1
  have q := lftN_le (kd := kdN M0 p) (fc := fcN M0 p) (lamp := lpN M0) (hour := hour) z2 z4 c
  unfold rdN
  split <;> omega
set_option maxRecDepth 100000 in
set_option maxHeartbeats 4000000 in
theorem c_placeAt {ro : xRO} {d : Nat} {M : xM} {T : Nat} {n : Nat} (hn : n < 8) : Rn ro d M_X3_placeAt 0 [some (.ref 42), some (.int (nI n))] [] (mk M T) (fun r h => r = some (.int (M 42 n)) ∧ h = mk M T) := by
  refine R_if 2 (c := (nI n) < 0) (t := 22) (f := 4) (L' := [some (.ref 42), some (.int (nI n))]) (st' := []) (h' := mk M T) (fun _ => rfl) (fun h1 => ?_) (fun h1 => ?_)
  · replace h1 : n < 0 := (nI_ltI (a := n) (b := 0) (by omega) (by omega)).mp h1
    omega
  · replace h1 : ¬ n < 0 := fun q => h1 ((nI_ltI (a := n) (b := 0) (by omega) (by omega)).mpr q)
    refine R_if 5 (c := 8 ≤ (nI n)) (t := 22) (f := 13) (L' := [some (.ref 42), some (.int (nI n))]) (st' := []) (h' := mk M T) (fun _ => rfl) (fun h2 => ?_) (fun h2 => ?_)
    · replace h2 : 8 ≤ n := (nI_leI (a := 8) (b := n) (by omega) (by omega)).mp h2
      omega
    · replace h2 : ¬ 8 ≤ n := fun q => h2 ((nI_leI (a := 8) (b := n) (by omega) (by omega)).mpr q)
      refine R_go 3 (pc' := 18) (L' := [some (.ref 42), some (.int (nI n))]) (st' := [.int (nI n), .ref 45]) (h' := mk M T) (fun _ => rfl) ?_
      refine R_iald (c := 42) (n := 8) (j := n) rfl rfl (by omega) (by decide) ?_
      refine R_ret 2 (pcr := 23) (v := some (.int (M 42 n))) (h' := mk M T) (fun _ => rfl) ?_
      exact ⟨rfl, rfl⟩
def xWK (M M' : xM) : Prop := ∀ c, c ≠ 16 → c ≠ 19 → c ≠ 40 → c ≠ 41 → c ≠ 44 → M' c = M c
def xWR (M M' : xM) : Prop := ∀ c, c ≠ 70 → c ≠ 71 → c ≠ 73 → M' c = M c
theorem wkT_h {M0 : xM} {B : Int32} {ord : Nat → Nat} {w0 : Nat → Int32} {h : Nat} : ∀ i, (wkT M0 B ord w0 h i).1 ≤ h + 9 * i := by
  intro i
  induction i with
  | zero => exact Nat.le_refl h
  | succ i ih =>
    unfold wkT
    have := (tkN_in M0 (ord i) (rdN M0 B (ord i) (wkT M0 B ord w0 h i).1)).2.2
    show (wkT M0 B ord w0 h i).1 + tkN M0 (ord i) _ ≤ _
    omega
theorem fc_P {M0 M : xM} (h : Rel M0) (hf : FC M0 M) {P : Nat} (hP0 : M0 62 6 = nI P) : M 1 6 = nI P := by
  rw [hf.2 6 (by omega) (by omega)]
  exact h.1.1.1.1.trans hP0
theorem fm_P {M0 M : xM} (hf : FM M0 M) {P : Nat} (hP0 : M0 62 6 = nI P) : M 62 6 = nI P := (hf 6 (by omega) (by omega) (by omega)).trans hP0
set_option maxRecDepth 100000 in
set_option maxHeartbeats 4000000 in
theorem lp_walk {ro : xRO} {d : Nat} {M : xM} {T : Nat}  {M0 Mb : xM} (h0 : Rel M0) {P : Nat} (hP0 : M0 62 6 = nI P) (h8 : P ≤ 8) {B : Int32} {ord : Nat → Nat} {h0r : Nat} (hh : h0r ≤ 23) (ho : ∀ i, i < P → ord i < P) (h42b : ∀ i, i < P → Mb 42 i = nI (ord i)) : ∀ (k : Nat) (i hr sm : Nat) (wl : Nat → Int32) (w1 w2 w3 w4 : Option Value) (M : xM), i + k = P → wkT M0 B ord (Mb 44) h0r i = (hr, sm, wl) → FC M0 M → Memo M0 M → xWK Mb M → M 44 = wl →  Rn ro (d + 6) M_X3_walk 11 [some (.ref 42), some (.ref 4), some (.int B), some (.int (nI hr)), some (.int (nI sm)), some (.int (nI i)), w1, w2, w3, w4] [] (mk M T) (fun rr h => ∃ M', (FC M0 M' ∧ Memo M0 M' ∧ xWK Mb M' ∧ M' 44 = (wkT M0 B ord (Mb 44) h0r P).2.2) ∧ rr = some (.int (nI (wkT M0 B ord (Mb 44) h0r P).2.1)) ∧ h = mk M' T) := by
  intro k
  induction k with
  | zero =>
    intro i hr sm wl w1 w2 w3 w4 M hi he hf hm hx h44
    obtain rfl : i = P := by omega
    have fn := fc_now h0 hf
    have hP := fc_P h0 hf hP0
    have hb9 := wkT_h (M0 := M0) (B := B) (ord := ord) (w0 := Mb 44) (h := h0r) i
    rw [he] at hb9
    have hb9 : hr ≤ h0r + 9 * i := hb9
    refine R_go 3 (pc' := 17) (L' := [some (.ref 42), some (.ref 4), some (.int B), some (.int (nI hr)), some (.int (nI sm)), some (.int (nI i)), w1, w2, w3, w4]) (st' := [.int (M 1 6), .int (nI i)]) (h' := mk M T) (fun _ => rfl) ?_
    refine R_top (y := nI i) (hP) ?_
    refine R_if 1 (c := (nI i) ≤ (nI i)) (t := 139) (f := 20) (L' := [some (.ref 42), some (.ref 4), some (.int B), some (.int (nI hr)), some (.int (nI sm)), some (.int (nI i)), w1, w2, w3, w4]) (st' := []) (h' := mk M T) (fun _ => rfl) (fun g1 => ?_) (fun g1 => ?_)
    · replace g1 : i ≤ i := (nI_leI (a := i) (b := i) (by omega) (by omega)).mp g1
      refine R_ret 2 (pcr := 141) (v := some (.int (nI sm))) (h' := mk M T) (fun _ => rfl) ?_
      exact ⟨M, ⟨hf, hm, hx, by rw [he]; exact h44⟩, by rw [he], rfl⟩
    · replace g1 : ¬ i ≤ i := fun q => g1 ((nI_leI (a := i) (b := i) (by omega) (by omega)).mpr q)
      omega
  | succ k ih =>
    intro i hr sm wl w1 w2 w3 w4 M hi he hf hm hx h44
    have fn := fc_now h0 hf
    have hP := fc_P h0 hf hP0
    have hb9 := wkT_h (M0 := M0) (B := B) (ord := ord) (w0 := Mb 44) (h := h0r) i
    rw [he] at hb9
    have hb9 : hr ≤ h0r + 9 * i := hb9
    have hoi := ho i (by omega)
    have rl := rdN_le h0 (B := B) (p := ord i) (hour := hr) (by omega)
    have h42 : ∀ i, i < P → M 42 i = nI (ord i) := fun i hi => (congrFun (hx 42 (by omega) (by omega) (by omega) (by omega) (by omega)) i).trans (h42b i hi)
    refine R_go 3 (pc' := 17) (L' := [some (.ref 42), some (.ref 4), some (.int B), some (.int (nI hr)), some (.int (nI sm)), some (.int (nI i)), w1, w2, w3, w4]) (st' := [.int (M 1 6), .int (nI i)]) (h' := mk M T) (fun _ => rfl) ?_
    refine R_top (y := nI P) (hP) ?_
    refine R_if 1 (c := (nI P) ≤ (nI i)) (t := 139) (f := 20) (L' := [some (.ref 42), some (.ref 4), some (.int B), some (.int (nI hr)), some (.int (nI sm)), some (.int (nI i)), w1, w2, w3, w4]) (st' := []) (h' := mk M T) (fun _ => rfl) (fun g1 => ?_) (fun g1 => ?_)
    · replace g1 : P ≤ i := (nI_leI (a := P) (b := i) (by omega) (by omega)).mp g1
      omega
    · replace g1 : ¬ P ≤ i := fun q => g1 ((nI_leI (a := P) (b := i) (by omega) (by omega)).mpr q)
      refine R_go 2 (pc' := 23) (L' := [some (.ref 42), some (.ref 4), some (.int B), some (.int (nI hr)), some (.int (nI sm)), some (.int (nI i)), w1, w2, w3, w4]) (st' := [.int (nI i), .ref 42]) (h' := mk M T) (fun _ => rfl) ?_
      refine R_callD (i := .invokevirtual 94) (kd := 0) (y := M_X3_placeAt) (as := [.ref 42, .int (nI i)]) (r := []) (L0 := [some (.ref 42), some (.int (nI i))]) (v := some (.int (M 42 i))) (h' := mk M T) (pc' := 26) (st' := [.int (M 42 i)]) rfl rfl rfl rfl rfl rfl (c_placeAt (n := i) (by omega)) ?_
      refine R_top (y := nI (ord i)) (h42 i (by omega)) ?_
      refine R_go 3 (pc' := 31) (L' := [some (.ref 42), some (.ref 4), some (.int B), some (.int (nI hr)), some (.int (nI sm)), some (.int (nI i)), some (.int (nI (ord i))), w2, w3, w4]) (st' := [.int (nI (ord i)), .ref 4]) (h' := mk M T) (fun _ => rfl) ?_
      refine R_callD (i := .invokevirtual 37) (kd := 0) (y := M_X0_paneAt) (as := [.ref 4, .int (nI (ord i))]) (r := []) (L0 := [some (.ref 4), some (.int (nI (ord i)))]) (v := some (.ref (3 + ord i + 3))) (h' := mk M T) (pc' := 34) (st' := [.ref (3 + ord i + 3)]) rfl rfl rfl rfl rfl rfl (c_paneAt_in hP h8 (n := ord i) (by omega)) ?_
      refine R_if 8 (c := 8 ≤ (nI (ord i))) (t := 133) (f := 51) (L' := [some (.ref 42), some (.ref 4), some (.int B), some (.int (nI hr)), some (.int (nI sm)), some (.int (nI i)), some (.int (nI (ord i))), some (.ref (3 + ord i + 3)), w3, w4]) (st' := []) (h' := mk M T) (fun _ => rfl) (fun g2 => ?_) (fun g2 => ?_)
      · replace g2 : 8 ≤ (ord i) := (nI_leI (a := 8) (b := ord i) (by omega) (by omega)).mp g2
        omega
      · replace g2 : ¬ 8 ≤ (ord i) := fun q => g2 ((nI_leI (a := 8) (b := ord i) (by omega) (by omega)).mpr q)
        refine R_ifn 7 (c := ((B >>> ((nI (ord i)) &&& 31)) &&& 1) = 1) (t := 65) (f := 61) (L' := [some (.ref 42), some (.ref 4), some (.int B), some (.int (nI hr)), some (.int (nI sm)), some (.int (nI i)), some (.int (nI (ord i))), some (.ref (3 + ord i + 3)), w3, w4]) (st' := []) (h' := mk M T) (fun _ => rfl) (fun g3 => ?_) (fun g3 => ?_)
        · refine R_go 8 (pc' := 84) (L' := [some (.ref 42), some (.ref 4), some (.int B), some (.int (nI hr)), some (.int (nI sm)), some (.int (nI i)), some (.int (nI (ord i))), some (.ref (3 + ord i + 3)), some (.int 0), w4]) (st' := [.int (M 1 11), .int (nI hr), .ref (3 + ord i + 3)]) (h' := mk M T) (fun _ => rfl) ?_
          refine R_top (y := nI (cdN M0)) (fn.1) ?_
          refine R_go 2 (pc' := 88) (L' := [some (.ref 42), some (.ref 4), some (.int B), some (.int (nI hr)), some (.int (nI sm)), some (.int (nI i)), some (.int (nI (ord i))), some (.ref (3 + ord i + 3)), some (.int 0), w4]) (st' := [.int (M 1 13), .int (nI (cdN M0)), .int (nI hr), .ref (3 + ord i + 3)]) (h' := mk M T) (fun _ => rfl) ?_
          refine R_top (y := nI (lpN M0)) (fn.2.1) ?_
          refine R_callD (i := .invokevirtual 103) (kd := 0) (y := M_X1_leftAt) (as := [.ref (3 + ord i + 3), .int (nI hr), .int (nI (cdN M0)), .int (nI (lpN M0))]) (r := []) (L0 := [some (.ref (3 + ord i + 3)), some (.int (nI hr)), some (.int (nI (cdN M0))), some (.int (nI (lpN M0)))]) (v := some (.int (nI (lftN (kdN M0 (ord i)) (mqN M0 (ord i)) (fcN M0 (ord i)) (clN M0 (ord i)) hr (cdN M0) (lpN M0))))) (h' := mk M T) (pc' := 91) (st' := [.int (nI (lftN (kdN M0 (ord i)) (mqN M0 (ord i)) (fcN M0 (ord i)) (clN M0 (ord i)) hr (cdN M0) (lpN M0)))]) rfl rfl rfl rfl (xPre_c (sh_pane (by omega)) rfl rfl rfl rfl) rfl (c_leftAt (sh_pane (by omega)) (fc_pane h0 hf (p := ord i) (by omega)).1 (by omega) (by omega) (by omega)) ?_
          refine R_top (y := nI (rdN M0 B (ord i) hr)) (congrArg nI (show _ = rdN M0 B (ord i) hr from (if_neg (by assumption)).symm)) ?_
          refine R_go 8 (pc' := 105) (L' := [some (.ref 42), some (.ref 4), some (.int B), some (.int (nI hr)), some (.int (nI sm)), some (.int (nI i)), some (.int (nI (ord i))), some (.ref (3 + ord i + 3)), some (.int 0), some (.int (nI (rdN M0 B (ord i) hr)))]) (st' := [.int (nI (rdN M0 B (ord i) hr)), .int (nI (ord i)), .ref 4, .ref 42, .int (nI (ord i)), .ref 47]) (h' := mk M T) (fun _ => rfl) ?_
          refine R_callE (i := .invokevirtual 106) (kd := 0) (y := M_X3_valueOf) (as := [.ref 42, .ref 4, .int (nI (ord i)), .int (nI (rdN M0 B (ord i) hr))]) (r := [.int (nI (ord i)), .ref 47]) (L0 := [some (.ref 42), some (.ref 4), some (.int (nI (ord i))), some (.int (nI (rdN M0 B (ord i) hr))), none, none]) (v := fun M1 => some (.int (nI (vlN M0 (ord i) (rdN M0 B (ord i) hr))))) (h' := fun M1 => mk M1 T) (pc' := 108) (st' := fun M1 => [.int (nI (vlN M0 (ord i) (rdN M0 B (ord i) hr))), .int (nI (ord i)), .ref 47]) rfl rfl rfl rfl rfl rfl ((c_valueOf (p := ord i) (r := rdN M0 B (ord i) hr) h0 hf hP h8 (by omega) (by omega) hm)) (fun M1 g4 => ?_)
          obtain ⟨vx1, me1⟩ := g4
          refine R_iast (c := 44) (n := 8) (j := ord i) rfl rfl (by omega) (by decide) ?_
          refine R_go 4 (pc' := 117) (L' := [some (.ref 42), some (.ref 4), some (.int B), some (.int (nI hr)), some (.int (nI sm)), some (.int (nI i)), some (.int (nI (ord i))), some (.ref (3 + ord i + 3)), some (.int 0), some (.int (nI (rdN M0 B (ord i) hr)))]) (st' := [.int (nI (ord i)), .ref 47, .int (nI sm)]) (h' := mk (up M1 44 (ord i) (nI (vlN M0 (ord i) (rdN M0 B (ord i) hr)))) T) (fun _ => rfl) ?_
          refine R_iald (c := 44) (n := 8) (j := ord i) rfl rfl (by omega) (by decide) ?_
          refine R_top (y := nI (vlN M0 (ord i) (rdN M0 B (ord i) hr))) (up_at) ?_
          refine R_go 1 (pc' := 119) (L' := [some (.ref 42), some (.ref 4), some (.int B), some (.int (nI hr)), some (.int (nI sm)), some (.int (nI i)), some (.int (nI (ord i))), some (.ref (3 + ord i + 3)), some (.int 0), some (.int (nI (rdN M0 B (ord i) hr)))]) (st' := [.int (nI sm + nI (vlN M0 (ord i) (rdN M0 B (ord i) hr)))]) (h' := mk (up M1 44 (ord i) (nI (vlN M0 (ord i) (rdN M0 B (ord i) hr)))) T) (fun _ => rfl) ?_
          refine R_top (nI_add sm (vlN M0 (ord i) (rdN M0 B (ord i) hr))) ?_
          refine R_go 6 (pc' := 128) (L' := [some (.ref 42), some (.ref 4), some (.int B), some (.int (nI hr)), some (.int (nI (sm + (vlN M0 (ord i) (rdN M0 B (ord i) hr))))), some (.int (nI i)), some (.int (nI (ord i))), some (.ref (3 + ord i + 3)), some (.int 0), some (.int (nI (rdN M0 B (ord i) hr)))]) (st' := [.int (nI (rdN M0 B (ord i) hr)), .int (nI (ord i)), .ref 4, .ref 42, .int (nI hr)]) (h' := mk (up M1 44 (ord i) (nI (vlN M0 (ord i) (rdN M0 B (ord i) hr)))) T) (fun _ => rfl) ?_
          refine R_callE (i := .invokevirtual 110) (kd := 0) (y := M_X3_tookOf) (as := [.ref 42, .ref 4, .int (nI (ord i)), .int (nI (rdN M0 B (ord i) hr))]) (r := [.int (nI hr)]) (L0 := [some (.ref 42), some (.ref 4), some (.int (nI (ord i))), some (.int (nI (rdN M0 B (ord i) hr))), none, none]) (v := fun M2 => some (.int (nI (tkN M0 (ord i) (rdN M0 B (ord i) hr))))) (h' := fun M2 => mk M2 T) (pc' := 131) (st' := fun M2 => [.int (nI (tkN M0 (ord i) (rdN M0 B (ord i) hr))), .int (nI hr)]) rfl rfl rfl rfl rfl rfl ((c_tookOf (M := up M1 44 (ord i) (nI (vlN M0 (ord i) (rdN M0 B (ord i) hr)))) (p := ord i) (r := rdN M0 B (ord i) hr) h0 (FC_up (FC_VX hf vx1) (Or.inr (by omega))) (((congrFun (up_ne (by omega)) 6).trans (congrFun (vx1 1 (by omega) (by omega) (by omega) (by omega)) 6)).trans hP) h8 (by omega) (by omega) (me1.frame rfl rfl))) (fun M2 g5 => ?_)
          obtain ⟨vx2, me2⟩ := g5
          refine R_go 1 (pc' := 132) (L' := [some (.ref 42), some (.ref 4), some (.int B), some (.int (nI hr)), some (.int (nI (sm + (vlN M0 (ord i) (rdN M0 B (ord i) hr))))), some (.int (nI i)), some (.int (nI (ord i))), some (.ref (3 + ord i + 3)), some (.int 0), some (.int (nI (rdN M0 B (ord i) hr)))]) (st' := [.int (nI hr + nI (tkN M0 (ord i) (rdN M0 B (ord i) hr)))]) (h' := mk M2 T) (fun _ => rfl) ?_
          refine R_top (nI_add hr (tkN M0 (ord i) (rdN M0 B (ord i) hr))) ?_
          refine R_go 2 (pc' := 136) (L' := [some (.ref 42), some (.ref 4), some (.int B), some (.int (nI (hr + (tkN M0 (ord i) (rdN M0 B (ord i) hr))))), some (.int (nI (sm + (vlN M0 (ord i) (rdN M0 B (ord i) hr))))), some (.int ((nI i) + 1)), some (.int (nI (ord i))), some (.ref (3 + ord i + 3)), some (.int 0), some (.int (nI (rdN M0 B (ord i) hr)))]) (st' := []) (h' := mk M2 T) (fun _ => rfl) ?_
          rw [nI_1]
          refine R_go 1 (pc' := 11) (L' := [some (.ref 42), some (.ref 4), some (.int B), some (.int (nI (hr + (tkN M0 (ord i) (rdN M0 B (ord i) hr))))), some (.int (nI (sm + (vlN M0 (ord i) (rdN M0 B (ord i) hr))))), some (.int (nI (i + 1))), some (.int (nI (ord i))), some (.ref (3 + ord i + 3)), some (.int 0), some (.int (nI (rdN M0 B (ord i) hr)))]) (st' := []) (h' := mk M2 T) (fun _ => rfl) ?_
          have e0 : rdN M0 B (ord i) hr = rdN M0 B (ord i) hr := rfl
          exact ih (i + 1) (hr + tkN M0 (ord i) (rdN M0 B (ord i) hr)) (sm + vlN M0 (ord i) (rdN M0 B (ord i) hr)) (upd wl (ord i) (nI (vlN M0 (ord i) (rdN M0 B (ord i) hr)))) _ _ _ _ M2 (by omega) (by rw [wkT_s he, e0]) (FC_VX (FC_up (FC_VX hf vx1) (Or.inr (by omega))) vx2) me2 (fun c a1 a2 a3 a4 a5 => ((vx2 c a1 a2 a3 a4).trans ((up_ne a5).trans (vx1 c a1 a2 a3 a4))).trans (hx c a1 a2 a3 a4 a5)) (by rw [vx2 44 (by omega) (by omega) (by omega) (by omega), up_eq, vx1 44 (by omega) (by omega) (by omega) (by omega), h44])
        · refine R_go 15 (pc' := 105) (L' := [some (.ref 42), some (.ref 4), some (.int B), some (.int (nI hr)), some (.int (nI sm)), some (.int (nI i)), some (.int (nI (ord i))), some (.ref (3 + ord i + 3)), some (.int 1), some (.int 0)]) (st' := [.int 0, .int (nI (ord i)), .ref 4, .ref 42, .int (nI (ord i)), .ref 47]) (h' := mk M T) (fun _ => rfl) ?_
          refine R_callE (i := .invokevirtual 106) (kd := 0) (y := M_X3_valueOf) (as := [.ref 42, .ref 4, .int (nI (ord i)), .int 0]) (r := [.int (nI (ord i)), .ref 47]) (L0 := [some (.ref 42), some (.ref 4), some (.int (nI (ord i))), some (.int 0), none, none]) (v := fun M1 => some (.int (nI (vlN M0 (ord i) (0))))) (h' := fun M1 => mk M1 T) (pc' := 108) (st' := fun M1 => [.int (nI (vlN M0 (ord i) (0))), .int (nI (ord i)), .ref 47]) rfl rfl rfl rfl rfl rfl ((c_valueOf (p := ord i) (r := 0) h0 hf hP h8 (by omega) (by omega) hm)) (fun M1 g6 => ?_)
          obtain ⟨vx1, me1⟩ := g6
          refine R_iast (c := 44) (n := 8) (j := ord i) rfl rfl (by omega) (by decide) ?_
          refine R_go 4 (pc' := 117) (L' := [some (.ref 42), some (.ref 4), some (.int B), some (.int (nI hr)), some (.int (nI sm)), some (.int (nI i)), some (.int (nI (ord i))), some (.ref (3 + ord i + 3)), some (.int 1), some (.int 0)]) (st' := [.int (nI (ord i)), .ref 47, .int (nI sm)]) (h' := mk (up M1 44 (ord i) (nI (vlN M0 (ord i) (0)))) T) (fun _ => rfl) ?_
          refine R_iald (c := 44) (n := 8) (j := ord i) rfl rfl (by omega) (by decide) ?_
          refine R_top (y := nI (vlN M0 (ord i) (0))) (up_at) ?_
          refine R_go 1 (pc' := 119) (L' := [some (.ref 42), some (.ref 4), some (.int B), some (.int (nI hr)), some (.int (nI sm)), some (.int (nI i)), some (.int (nI (ord i))), some (.ref (3 + ord i + 3)), some (.int 1), some (.int 0)]) (st' := [.int (nI sm + nI (vlN M0 (ord i) (0)))]) (h' := mk (up M1 44 (ord i) (nI (vlN M0 (ord i) (0)))) T) (fun _ => rfl) ?_
          refine R_top (nI_add sm (vlN M0 (ord i) (0))) ?_
          refine R_go 6 (pc' := 128) (L' := [some (.ref 42), some (.ref 4), some (.int B), some (.int (nI hr)), some (.int (nI (sm + (vlN M0 (ord i) (0))))), some (.int (nI i)), some (.int (nI (ord i))), some (.ref (3 + ord i + 3)), some (.int 1), some (.int 0)]) (st' := [.int 0, .int (nI (ord i)), .ref 4, .ref 42, .int (nI hr)]) (h' := mk (up M1 44 (ord i) (nI (vlN M0 (ord i) (0)))) T) (fun _ => rfl) ?_
          refine R_callE (i := .invokevirtual 110) (kd := 0) (y := M_X3_tookOf) (as := [.ref 42, .ref 4, .int (nI (ord i)), .int 0]) (r := [.int (nI hr)]) (L0 := [some (.ref 42), some (.ref 4), some (.int (nI (ord i))), some (.int 0), none, none]) (v := fun M2 => some (.int (nI (tkN M0 (ord i) (0))))) (h' := fun M2 => mk M2 T) (pc' := 131) (st' := fun M2 => [.int (nI (tkN M0 (ord i) (0))), .int (nI hr)]) rfl rfl rfl rfl rfl rfl ((c_tookOf (M := up M1 44 (ord i) (nI (vlN M0 (ord i) (0)))) (p := ord i) (r := 0) h0 (FC_up (FC_VX hf vx1) (Or.inr (by omega))) (((congrFun (up_ne (by omega)) 6).trans (congrFun (vx1 1 (by omega) (by omega) (by omega) (by omega)) 6)).trans hP) h8 (by omega) (by omega) (me1.frame rfl rfl))) (fun M2 g7 => ?_)
          obtain ⟨vx2, me2⟩ := g7
          refine R_go 1 (pc' := 132) (L' := [some (.ref 42), some (.ref 4), some (.int B), some (.int (nI hr)), some (.int (nI (sm + (vlN M0 (ord i) (0))))), some (.int (nI i)), some (.int (nI (ord i))), some (.ref (3 + ord i + 3)), some (.int 1), some (.int 0)]) (st' := [.int (nI hr + nI (tkN M0 (ord i) (0)))]) (h' := mk M2 T) (fun _ => rfl) ?_
          refine R_top (nI_add hr (tkN M0 (ord i) (0))) ?_
          refine R_go 2 (pc' := 136) (L' := [some (.ref 42), some (.ref 4), some (.int B), some (.int (nI (hr + (tkN M0 (ord i) (0))))), some (.int (nI (sm + (vlN M0 (ord i) (0))))), some (.int ((nI i) + 1)), some (.int (nI (ord i))), some (.ref (3 + ord i + 3)), some (.int 1), some (.int 0)]) (st' := []) (h' := mk M2 T) (fun _ => rfl) ?_
          rw [nI_1]
          refine R_go 1 (pc' := 11) (L' := [some (.ref 42), some (.ref 4), some (.int B), some (.int (nI (hr + (tkN M0 (ord i) (0))))), some (.int (nI (sm + (vlN M0 (ord i) (0))))), some (.int (nI (i + 1))), some (.int (nI (ord i))), some (.ref (3 + ord i + 3)), some (.int 1), some (.int 0)]) (st' := []) (h' := mk M2 T) (fun _ => rfl) ?_
          have e0 : rdN M0 B (ord i) hr = 0 := if_pos g3
          exact ih (i + 1) (hr + tkN M0 (ord i) (0)) (sm + vlN M0 (ord i) (0)) (upd wl (ord i) (nI (vlN M0 (ord i) (0)))) _ _ _ _ M2 (by omega) (by rw [wkT_s he, e0]) (FC_VX (FC_up (FC_VX hf vx1) (Or.inr (by omega))) vx2) me2 (fun c a1 a2 a3 a4 a5 => ((vx2 c a1 a2 a3 a4).trans ((up_ne a5).trans (vx1 c a1 a2 a3 a4))).trans (hx c a1 a2 a3 a4 a5)) (by rw [vx2 44 (by omega) (by omega) (by omega) (by omega), up_eq, vx1 44 (by omega) (by omega) (by omega) (by omega), h44])
