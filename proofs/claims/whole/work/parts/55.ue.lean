/-! ROUNDS: thoughtOf, roundOf, takeOrder, isRound -/
theorem wkT_w {M0 : xM} {B : Int32} {ord : Nat → Nat} {w0 w1 : Nat → Int32} {h : Nat} : ∀ i, (wkT M0 B ord w0 h i).1 = (wkT M0 B ord w1 h i).1 ∧ (wkT M0 B ord w0 h i).2.1 = (wkT M0 B ord w1 h i).2.1 := by
  intro i
  induction i with
  | zero => exact ⟨rfl, rfl⟩
  | succ i ih =>
    unfold wkT
    dsimp only
    rw [ih.1, ih.2]
    exact ⟨rfl, rfl⟩
def rsum (M0 : xM) (B : Int32) (ord : Nat → Nat) (P : Nat) : Nat := (wkT M0 B ord (fun _ => 0) (hoN M0) P).2.1
set_option maxRecDepth 100000 in
set_option maxHeartbeats 4000000 in
theorem c_walk {ro : xRO} {d : Nat} {M : xM} {T : Nat} {M0 : xM} (h0 : Rel M0) (hf : FC M0 M) {P : Nat} (hP0 : M0 62 6 = nI P) (h8 : P ≤ 8) {ord : Nat → Nat} (ho : ∀ i, i < P → ord i < P) (h42 : ∀ i, i < P → M 42 i = nI (ord i)) (hm : Memo M0 M) {B : Int32} : Rn ro (d + 6) M_X3_walk 0 [some (.ref 42), some (.ref 4), some (.int B), none, none, none, none, none, none, none] [] (mk M T) (fun rr h => ∃ M', (FC M0 M' ∧ Memo M0 M' ∧ xWK M M' ∧ M' 44 = (wkT M0 B ord (M 44) (hoN M0) P).2.2) ∧ rr = some (.int (nI (rsum M0 B ord P))) ∧ h = mk M' T) := by
  refine R_go 2 (pc' := 4) (L' := [some (.ref 42), some (.ref 4), some (.int B), none, none, none, none, none, none, none]) (st' := [.int (M 1 12)]) (h' := mk M T) (fun _ => rfl) ?_
  refine R_top (y := nI (hoN M0)) ((fc_now h0 hf).2.2.1) ?_
  refine R_go 5 (pc' := 11) (L' := [some (.ref 42), some (.ref 4), some (.int B), some (.int (nI (hoN M0))), some (.int 0), some (.int 0), none, none, none, none]) (st' := []) (h' := mk M T) (fun _ => rfl) ?_
  refine (lp_walk (M := M) (T := T) (d := d) (B := B) h0 hP0 h8 (fc_now h0 hf).2.2.2.2.2 ho h42 P 0 (hoN M0) 0 (M 44) none none none none M (Nat.zero_add P) rfl hf hm (fun _ _ _ _ _ _ => rfl) rfl).imp (fun _ _ q => ?_)
  obtain ⟨M', q1, q2, q3⟩ := q
  refine ⟨M', q1, ?_, q3⟩
  rw [q2, rsum, (wkT_w (w0 := M 44) (w1 := fun _ => 0) P).2]
theorem FC_fo {M0 M M' : xM} (hf : FC M0 M) (h : ∀ c, c ≠ 40 → c ≠ 41 → M' c = M c) : FC M0 M' :=
  ⟨fun c a b d e => (h c (by omega) (by omega)).trans (hf.1 c a b d e), fun j a b => (congrFun (h 1 (by omega) (by omega)) j).trans (hf.2 j a b)⟩
theorem FC_42 {M0 M M' : xM} (hf : FC M0 M) (h : ∀ c, c ≠ 42 → M' c = M c) : FC M0 M' :=
  ⟨fun c a b d e => (h c (by omega)).trans (hf.1 c a b d e), fun j a b => (congrFun (h 1 (by omega)) j).trans (hf.2 j a b)⟩
theorem FM_72 {M0 M M' : xM} (hf : FM M0 M) (h : ∀ c, c ≠ 72 → M' c = M c) : FM M0 M' := fun j a b c => (congrFun (h 62 (by omega)) j).trans (hf j a b c)
/-- cells that acts may leave otherwise -/
def sIr (c : Nat) : Prop := c = 16 ∨ c = 19 ∨ (39 ≤ c ∧ c ≤ 44) ∨ (70 ≤ c ∧ c ≤ 74)
def FS (M M' : xM) : Prop := ∀ c, ¬ sIr c → M' c = M c
theorem FS_rel {M M' : xM} (h : Rel M) (hf : FS M M') : Rel M' :=
  h.irr (fun c a b d e f => hf c (by unfold sIr; omega)) (congrFun (hf 61 (by unfold sIr; omega)) 2) ((congrFun (hf 61 (by unfold sIr; omega)) 7).trans h.2.2.2.2.2) (congrFun (hf 61 (by unfold sIr; omega)) 22)
set_option maxRecDepth 100000 in
set_option maxHeartbeats 4000000 in
theorem c_thoughtOf {ro : xRO} {d : Nat} {M : xM} {T : Nat} {M0 : xM} (h0 : Rel M0) (hf : FC M0 M) {P : Nat} (hP0 : M0 62 6 = nI P) (h8 : P ≤ 8) {ord : Nat → Nat} (ho : ∀ i, i < P → ord i < P) (h42 : ∀ i, i < P → M 42 i = nI (ord i)) : Rn ro (d + 8) M_X3_thoughtOf 0 [some (.ref 42), some (.ref 4)] [] (mk M T) (fun rr h => ∃ M', FS M M' ∧ rr = some (.int (nI (rsum M0 0 ord P))) ∧ h = mk M' T) := by
  refine R_go 1 (pc' := 1) (L' := [some (.ref 42), some (.ref 4)]) (st' := [.ref 42]) (h' := mk M T) (fun _ => rfl) ?_
  refine R_callE (i := .invokevirtual 81) (kd := 0) (y := M_X3_forget) (as := [.ref 42]) (r := []) (L0 := [some (.ref 42)]) (v := fun M1 => none) (h' := fun M1 => mk M1 T) (pc' := 4) (st' := fun M1 => []) rfl rfl rfl rfl rfl rfl (c_forget (M0 := M0)) (fun M1 x1 => ?_)
  obtain ⟨fo1, me1⟩ := x1
  refine R_go 3 (pc' := 7) (L' := [some (.ref 42), some (.ref 4)]) (st' := [.int 0, .ref 4, .ref 42]) (h' := mk M1 T) (fun _ => rfl) ?_
  refine R_callE (i := .invokevirtual 84) (kd := 0) (y := M_X3_walk) (as := [.ref 42, .ref 4, .int 0]) (r := []) (L0 := [some (.ref 42), some (.ref 4), some (.int 0), none, none, none, none, none, none, none]) (v := fun M2 => some (.int (nI (rsum M0 0 ord P)))) (h' := fun M2 => mk M2 T) (pc' := 10) (st' := fun M2 => [.int (nI (rsum M0 0 ord P))]) rfl rfl rfl rfl rfl rfl (c_walk h0 (FC_fo hf fo1) hP0 h8 ho (fun i hi => by rw [fo1 42 (by omega) (by omega)]; exact h42 i hi) me1 (B := 0)) (fun M2 x2 => ?_)
  refine R_ret 1 (pcr := 10) (v := some (.int (nI (rsum M0 0 ord P)))) (h' := mk M2 T) (fun _ => rfl) ?_
  exact ⟨M2, fun c hc => by unfold sIr at hc; exact (x2.2.2.1 c (by omega) (by omega) (by omega) (by omega) (by omega)).trans (fo1 c (by omega) (by omega)), rfl, rfl⟩
theorem m_rd {ro : xRO} {d : Nat} {M : xM} {T : Nat} {M0 : xM} (h0 : Rel M0) (hf : FM M0 M) {B : Int32} (hB : M 61 7 = B) {p : Nat} (hp : p < 8) {hour : Nat} (hh : hour < 1000) : Rn ro (d + 2) M_X8_leftOf 0 [some (.ref 64), some (.int (nI p)), some (.int (nI hour)), none, none, none] [] (mk M T) (fun r h => r = some (.int (nI (rdN M0 B p hour))) ∧ h = mk M T) := by
  obtain ⟨a6, -⟩ := fm_pane h0 hf hp
  obtain ⟨b4, b5, b6, b7, b8, b9⟩ := fm_now h0 hf
  unfold rdN
  by_cases q : (B >>> (nI p &&& 31)) &&& 1 = 1
  · rw [if_pos q]
    exact m_leftOf_b (by rw [hB]; exact q)
  · rw [if_neg q]
    exact m_leftOf hp a6 b4 b5 b7 b8 hh (by rw [hB]; exact q)
set_option maxRecDepth 100000 in
set_option maxHeartbeats 4000000 in
theorem lp_roundOf {ro : xRO} {d : Nat} {M : xM} {T : Nat}  {M0 Mb : xM} (h0 : Rel M0) {P : Nat} (hP0 : M0 62 6 = nI P) (h8 : P ≤ 8) {B : Int32} {ord : Nat → Nat} {h0r : Nat} (hh : h0r ≤ 23) (ho : ∀ i, i < P → ord i < P) (h72b : ∀ i, i < P → Mb 72 i = nI (ord i)) (hBb : Mb 61 7 = B) : ∀ (k : Nat) (i hr sm : Nat) (wl : Nat → Int32) (w1 w2 : Option Value) (M : xM), i + k = P → wkT M0 B ord (Mb 73) h0r i = (hr, sm, wl) → FM M0 M → xWR Mb M → M 73 = wl →  Rn ro (d + 6) M_X8_roundOf 11 [some (.ref 64), some (.int (nI hr)), some (.int (nI sm)), some (.int (nI i)), w1, w2] [] (mk M T) (fun rr h => ∃ M', (FM M0 M' ∧ xWR Mb M' ∧ M' 73 = (wkT M0 B ord (Mb 73) h0r P).2.2) ∧ rr = some (.int (nI (wkT M0 B ord (Mb 73) h0r P).2.1)) ∧ h = mk M' T) := by
  intro k
  induction k with
  | zero =>
    intro i hr sm wl w1 w2 M hi he hf hx h73
    obtain rfl : i = P := by omega
    have fn := fm_now h0 hf
    have hP := fm_P hf hP0
    have hb9 := wkT_h (M0 := M0) (B := B) (ord := ord) (w0 := Mb 73) (h := h0r) i
    rw [he] at hb9
    have hb9 : hr ≤ h0r + 9 * i := hb9
    refine R_go 5 (pc' := 19) (L' := [some (.ref 64), some (.int (nI hr)), some (.int (nI sm)), some (.int (nI i)), w1, w2]) (st' := [.int (M 62 6), .int (nI i)]) (h' := mk M T) (fun _ => rfl) ?_
    refine R_top (y := nI i) (hP) ?_
    refine R_if 1 (c := (nI i) ≤ (nI i)) (t := 81) (f := 22) (L' := [some (.ref 64), some (.int (nI hr)), some (.int (nI sm)), some (.int (nI i)), w1, w2]) (st' := []) (h' := mk M T) (fun _ => rfl) (fun g1 => ?_) (fun g1 => ?_)
    · replace g1 : i ≤ i := (nI_leI (a := i) (b := i) (by omega) (by omega)).mp g1
      refine R_ret 2 (pcr := 82) (v := some (.int (nI sm))) (h' := mk M T) (fun _ => rfl) ?_
      exact ⟨M, ⟨hf, hx, by rw [he]; exact h73⟩, by rw [he], rfl⟩
    · replace g1 : ¬ i ≤ i := fun q => g1 ((nI_leI (a := i) (b := i) (by omega) (by omega)).mpr q)
      omega
  | succ k ih =>
    intro i hr sm wl w1 w2 M hi he hf hx h73
    have fn := fm_now h0 hf
    have hP := fm_P hf hP0
    have hb9 := wkT_h (M0 := M0) (B := B) (ord := ord) (w0 := Mb 73) (h := h0r) i
    rw [he] at hb9
    have hb9 : hr ≤ h0r + 9 * i := hb9
    have hoi := ho i (by omega)
    have rl := rdN_le h0 (B := B) (p := ord i) (hour := hr) (by omega)
    have h72 : ∀ i, i < P → M 72 i = nI (ord i) := fun i hi => (congrFun (hx 72 (by omega) (by omega) (by omega)) i).trans (h72b i hi)
    have hB : M 61 7 = B := (congrFun (hx 61 (by omega) (by omega) (by omega)) 7).trans hBb
    refine R_go 5 (pc' := 19) (L' := [some (.ref 64), some (.int (nI hr)), some (.int (nI sm)), some (.int (nI i)), w1, w2]) (st' := [.int (M 62 6), .int (nI i)]) (h' := mk M T) (fun _ => rfl) ?_
    refine R_top (y := nI P) (hP) ?_
    refine R_if 1 (c := (nI P) ≤ (nI i)) (t := 81) (f := 22) (L' := [some (.ref 64), some (.int (nI hr)), some (.int (nI sm)), some (.int (nI i)), w1, w2]) (st' := []) (h' := mk M T) (fun _ => rfl) (fun g1 => ?_) (fun g1 => ?_)
    · replace g1 : P ≤ i := (nI_leI (a := P) (b := i) (by omega) (by omega)).mp g1
      omega
    · replace g1 : ¬ P ≤ i := fun q => g1 ((nI_leI (a := P) (b := i) (by omega) (by omega)).mpr q)
      refine R_go 3 (pc' := 27) (L' := [some (.ref 64), some (.int (nI hr)), some (.int (nI sm)), some (.int (nI i)), w1, w2]) (st' := [.int (nI i), .ref 75]) (h' := mk M T) (fun _ => rfl) ?_
      refine R_iald (c := 72) (n := 8) (j := i) rfl rfl (by omega) (by decide) ?_
      refine R_top (y := nI (ord i)) (h72 i (by omega)) ?_
      refine R_go 4 (pc' := 34) (L' := [some (.ref 64), some (.int (nI hr)), some (.int (nI sm)), some (.int (nI i)), some (.int (nI (ord i))), w2]) (st' := [.int (nI hr), .int (nI (ord i)), .ref 64]) (h' := mk M T) (fun _ => rfl) ?_
      refine R_callD (i := .invokevirtual 159) (kd := 0) (y := M_X8_leftOf) (as := [.ref 64, .int (nI (ord i)), .int (nI hr)]) (r := []) (L0 := [some (.ref 64), some (.int (nI (ord i))), some (.int (nI hr)), none, none, none]) (v := some (.int (nI (rdN M0 B (ord i) hr)))) (h' := mk M T) (pc' := 37) (st' := [.int (nI (rdN M0 B (ord i) hr))]) rfl rfl rfl rfl rfl rfl (m_rd h0 hf hB (p := ord i) (by omega) (by omega)) ?_
      refine R_go 7 (pc' := 50) (L' := [some (.ref 64), some (.int (nI hr)), some (.int (nI sm)), some (.int (nI i)), some (.int (nI (ord i))), some (.int (nI (rdN M0 B (ord i) hr)))]) (st' := [.int (nI (rdN M0 B (ord i) hr)), .int (nI (ord i)), .ref 64, .int (nI (ord i)), .ref 76]) (h' := mk M T) (fun _ => rfl) ?_
      refine R_callE (i := .invokevirtual 162) (kd := 0) (y := M_X8_valueOf) (as := [.ref 64, .int (nI (ord i)), .int (nI (rdN M0 B (ord i) hr))]) (r := [.int (nI (ord i)), .ref 76]) (L0 := [some (.ref 64), some (.int (nI (ord i))), some (.int (nI (rdN M0 B (ord i) hr)))]) (v := fun M1 => some (.int (nI (vlN M0 (ord i) (rdN M0 B (ord i) hr))))) (h' := fun M1 => mk M1 T) (pc' := 53) (st' := fun M1 => [.int (nI (vlN M0 (ord i) (rdN M0 B (ord i) hr))), .int (nI (ord i)), .ref 76]) rfl rfl rfl rfl rfl rfl ((m_valueOf (p := ord i) (r := (rdN M0 B (ord i) hr)) h0 hf (by omega))) (fun M1 g2 => ?_)
      refine R_iast (c := 73) (n := 8) (j := ord i) rfl rfl (by omega) (by decide) ?_
      refine R_go 4 (pc' := 61) (L' := [some (.ref 64), some (.int (nI hr)), some (.int (nI sm)), some (.int (nI i)), some (.int (nI (ord i))), some (.int (nI (rdN M0 B (ord i) hr)))]) (st' := [.int (nI (ord i)), .ref 76, .int (nI sm)]) (h' := mk (up M1 73 (ord i) (nI (vlN M0 (ord i) (rdN M0 B (ord i) hr)))) T) (fun _ => rfl) ?_
      refine R_iald (c := 73) (n := 8) (j := ord i) rfl rfl (by omega) (by decide) ?_
      refine R_top (y := nI (vlN M0 (ord i) (rdN M0 B (ord i) hr))) (up_at) ?_
      refine R_go 1 (pc' := 63) (L' := [some (.ref 64), some (.int (nI hr)), some (.int (nI sm)), some (.int (nI i)), some (.int (nI (ord i))), some (.int (nI (rdN M0 B (ord i) hr)))]) (st' := [.int (nI sm + nI (vlN M0 (ord i) (rdN M0 B (ord i) hr)))]) (h' := mk (up M1 73 (ord i) (nI (vlN M0 (ord i) (rdN M0 B (ord i) hr)))) T) (fun _ => rfl) ?_
      refine R_top (nI_add sm (vlN M0 (ord i) (rdN M0 B (ord i) hr))) ?_
      refine R_go 5 (pc' := 70) (L' := [some (.ref 64), some (.int (nI hr)), some (.int (nI (sm + (vlN M0 (ord i) (rdN M0 B (ord i) hr))))), some (.int (nI i)), some (.int (nI (ord i))), some (.int (nI (rdN M0 B (ord i) hr)))]) (st' := [.int (nI (rdN M0 B (ord i) hr)), .int (nI (ord i)), .ref 64, .int (nI hr)]) (h' := mk (up M1 73 (ord i) (nI (vlN M0 (ord i) (rdN M0 B (ord i) hr)))) T) (fun _ => rfl) ?_
      refine R_callE (i := .invokevirtual 165) (kd := 0) (y := M_X8_tookBy) (as := [.ref 64, .int (nI (ord i)), .int (nI (rdN M0 B (ord i) hr))]) (r := [.int (nI hr)]) (L0 := [some (.ref 64), some (.int (nI (ord i))), some (.int (nI (rdN M0 B (ord i) hr)))]) (v := fun M2 => some (.int (nI (tkN M0 (ord i) (rdN M0 B (ord i) hr))))) (h' := fun M2 => mk M2 T) (pc' := 73) (st' := fun M2 => [.int (nI (tkN M0 (ord i) (rdN M0 B (ord i) hr))), .int (nI hr)]) rfl rfl rfl rfl rfl rfl ((m_tookOf (M := up M1 73 (ord i) (nI (vlN M0 (ord i) (rdN M0 B (ord i) hr)))) (p := ord i) (r := (rdN M0 B (ord i) hr)) h0 (FM_up (FM_VM hf g2) (by omega)) (by omega))) (fun M2 g3 => ?_)
      refine R_go 1 (pc' := 74) (L' := [some (.ref 64), some (.int (nI hr)), some (.int (nI (sm + (vlN M0 (ord i) (rdN M0 B (ord i) hr))))), some (.int (nI i)), some (.int (nI (ord i))), some (.int (nI (rdN M0 B (ord i) hr)))]) (st' := [.int (nI hr + nI (tkN M0 (ord i) (rdN M0 B (ord i) hr)))]) (h' := mk M2 T) (fun _ => rfl) ?_
      refine R_top (nI_add hr (tkN M0 (ord i) (rdN M0 B (ord i) hr))) ?_
      refine R_go 2 (pc' := 78) (L' := [some (.ref 64), some (.int (nI (hr + (tkN M0 (ord i) (rdN M0 B (ord i) hr))))), some (.int (nI (sm + (vlN M0 (ord i) (rdN M0 B (ord i) hr))))), some (.int ((nI i) + 1)), some (.int (nI (ord i))), some (.int (nI (rdN M0 B (ord i) hr)))]) (st' := []) (h' := mk M2 T) (fun _ => rfl) ?_
      rw [nI_1]
      refine R_go 1 (pc' := 11) (L' := [some (.ref 64), some (.int (nI (hr + (tkN M0 (ord i) (rdN M0 B (ord i) hr))))), some (.int (nI (sm + (vlN M0 (ord i) (rdN M0 B (ord i) hr))))), some (.int (nI (i + 1))), some (.int (nI (ord i))), some (.int (nI (rdN M0 B (ord i) hr)))]) (st' := []) (h' := mk M2 T) (fun _ => rfl) ?_
      exact ih (i + 1) (hr + tkN M0 (ord i) (rdN M0 B (ord i) hr)) (sm + vlN M0 (ord i) (rdN M0 B (ord i) hr)) (upd wl (ord i) (nI (vlN M0 (ord i) (rdN M0 B (ord i) hr)))) _ _ M2 (by omega) (by rw [wkT_s he]) (FM_VM (FM_up (FM_VM hf g2) (by omega)) g3) (fun c a1 a2 a3 => ((g3 c a1 a2).trans ((up_ne a3).trans (g2 c a1 a2))).trans (hx c a1 a2 a3)) (by rw [g3 73 (by omega) (by omega), up_eq, g2 73 (by omega) (by omega), h73])
set_option maxRecDepth 100000 in
set_option maxHeartbeats 4000000 in
theorem m_roundOf {ro : xRO} {d : Nat} {M : xM} {T : Nat} {M0 : xM} (h0 : Rel M0) (hf : FM M0 M) {P : Nat} (hP0 : M0 62 6 = nI P) (h8 : P ≤ 8) {ord : Nat → Nat} (ho : ∀ i, i < P → ord i < P) (h72 : ∀ i, i < P → M 72 i = nI (ord i)) {B : Int32} (hB : M 61 7 = B) : Rn ro (d + 6) M_X8_roundOf 0 [some (.ref 64), none, none, none, none, none] [] (mk M T) (fun rr h => ∃ M', (FM M0 M' ∧ xWR M M' ∧ M' 73 = (wkT M0 B ord (M 73) (hoN M0) P).2.2) ∧ rr = some (.int (nI (rsum M0 B ord P))) ∧ h = mk M' T) := by
  refine R_go 4 (pc' := 6) (L' := [some (.ref 64), none, none, none, none, none]) (st' := [.int (M 62 1)]) (h' := mk M T) (fun _ => rfl) ?_
  refine R_top (y := nI (hoN M0)) ((fm_now h0 hf).2.2.1) ?_
  refine R_go 5 (pc' := 11) (L' := [some (.ref 64), some (.int (nI (hoN M0))), some (.int 0), some (.int 0), none, none]) (st' := []) (h' := mk M T) (fun _ => rfl) ?_
  refine (lp_roundOf (M := M) (T := T) (d := d) h0 hP0 h8 (fm_now h0 hf).2.2.2.2.2 ho h72 hB P 0 (hoN M0) 0 (M 73) none none M (Nat.zero_add P) rfl hf (fun _ _ _ _ => rfl) rfl).imp (fun _ _ q => ?_)
  obtain ⟨M', q1, q2, q3⟩ := q
  refine ⟨M', q1, ?_, q3⟩
  rw [q2, rsum, (wkT_w (w0 := M 73) (w1 := fun _ => 0) P).2]
