/-! TEXTS at work: the loops, law -/
section EVT
variable {s0 a w f : Nat → Int32} {i : Nat}
theorem ev_push (h : a i = 1) : evT s0 a w f (i + 1) = ((evT s0 a w f i).1 + 1, upd (evT s0 a w f i).2 (evT s0 a w f i).1 (w i)) := by
  conv => lhs; unfold evT
  rw [if_pos h]
theorem ev_name (h : a i = 2) : evT s0 a w f (i + 1) = ((evT s0 a w f i).1 + 1, upd (evT s0 a w f i).2 (evT s0 a w f i).1 (f (w i).toNatClampNeg)) := by
  conv => lhs; unfold evT
  rw [if_neg (by rw [h]; decide), if_pos h]
theorem ev_not (h : a i = 3) : evT s0 a w f (i + 1) = ((evT s0 a w f i).1, upd (evT s0 a w f i).2 ((evT s0 a w f i).1 - 1) (if (evT s0 a w f i).2 ((evT s0 a w f i).1 - 1) = 0 then 1 else 0)) := by
  conv => lhs; unfold evT
  rw [if_neg (by rw [h]; decide), if_neg (by rw [h]; decide), if_pos h]
theorem ev_sig {s : Nat} (h : a i = nI s) (hs : s < 1000) (h1 : ¬ s = 1) (h2 : ¬ s = 2) (h3 : ¬ s = 3) : evT s0 a w f (i + 1) = ((evT s0 a w f i).1 - 1, upd (evT s0 a w f i).2 ((evT s0 a w f i).1 - 2) (jn s ((evT s0 a w f i).2 ((evT s0 a w f i).1 - 2)) ((evT s0 a w f i).2 ((evT s0 a w f i).1 - 1)))) := by
  conv => lhs; unfold evT
  rw [h, if_neg (show ¬ nI s = 1 from fun q => h1 (nI_inj (b := 1) (by omega) (by omega) q)), if_neg (show ¬ nI s = 2 from fun q => h2 (nI_inj (b := 2) (by omega) (by omega) q)), if_neg (show ¬ nI s = 3 from fun q => h3 (nI_inj (b := 3) (by omega) (by omega) q)), nI_clamp (by omega)]
theorem ev_congr {f' : Nat → Int32} {k : Nat} (hf : ∀ i, i < k → a i = 2 → f (w i).toNatClampNeg = f' (w i).toNatClampNeg) : ∀ i, i ≤ k → evT s0 a w f i = evT s0 a w f' i := by
  intro i
  induction i with
  | zero => intro _; rfl
  | succ i ih =>
    intro hi
    unfold evT
    rw [ih (by omega)]
    by_cases h1 : a i = 1
    · rw [if_pos h1, if_pos h1]
    · rw [if_neg h1, if_neg h1]
      by_cases h2 : a i = 2
      · rw [if_pos h2, if_pos h2, hf i (by omega) h2]
      · rw [if_neg h2, if_neg h2]
end EVT
def wfS (a w : Nat → Int32) (k : Nat) : Prop := ∀ i, i < k → (a i = 1 ∧ iN (w i) 9999) ∨ (a i = 2 ∧ iN (w i) 2) ∨ a i = 3 ∨ sgnT (a i)
def lawX (use k : Nat) (act wit : Nat → Int32) (a b c : Int32) : Int32 := if k = 0 then (if use = 0 then 1 else a * b) else evR k act wit (fc3 a b c)
theorem Rel.irr {M M' : xM} (h : Rel M) (hf : ∀ c, c ≠ 16 → c ≠ 19 → ¬ (39 ≤ c ∧ c ≤ 48) → c ≠ 61 → ¬ (68 ≤ c ∧ c ≤ 74) → M' c = M c) (h2 : M' 61 2 = M 61 2) (h7 : M' 61 7 = 0) (h22 : M' 61 22 = M 61 22) : Rel M' := by
  have e : ∀ c, c ≠ 16 → c ≠ 19 → c < 39 → M' c = M c := fun c a b d => hf c a b (by omega) (by omega) (by omega)
  have g : ∀ c, 48 < c → c ≠ 61 → c < 68 → M' c = M c := fun c a b d => hf c (by omega) (by omega) (by omega) b (by omega)
  refine ⟨⟨?_, by rw [g 62 (by omega) (by omega) (by omega)]; exact h.1.2⟩, ⟨by rw [e 0 (by omega) (by omega) (by omega), h2]; exact h.2.1.1, fun q => ?_⟩, h.2.2.1.frame (fun c a b => g c (by omega) (by omega) (by omega)) (g 65 (by omega) (by omega) (by omega)) (g 66 (by omega) (by omega) (by omega)) (g 67 (by omega) (by omega) (by omega)), fun k a b => by rw [g 60 (by omega) (by omega) (by omega), g 64 (by omega) (by omega) (by omega)]; exact h.2.2.2.1 k a b, h.2.2.2.2.1.frame (by rw [g 49 (by omega) (by omega) (by omega)]) h22 (g 50 (by omega) (by omega) (by omega)) (hf 75 (by omega) (by omega) (by omega) (by omega) (by omega)), h7⟩
  · obtain ⟨g1, g2, g3, g4, g5, g6⟩ := h.1.1
    have r := g 62 (by omega) (by omega) (by omega)
    refine ⟨?_, fun p j hp hj => ?_, fun i hi => ?_, fun i hi => ?_, fun i hi => ?_, ?_⟩
    · unfold hsA
      rw [r, e 1 (by omega) (by omega) (by omega)]
      exact g1
    · rw [r, e _ (by omega) (by omega) (by omega)]; exact g2 p j hp hj
    · rw [r, e _ (by omega) (by omega) (by omega)]; exact g3 i hi
    · rw [r, e _ (by omega) (by omega) (by omega)]; exact g4 i hi
    · rw [r, e _ (by omega) (by omega) (by omega)]; exact g5 i hi
    · unfold hsT
      rw [r, e (1 + 13) (by omega) (by omega) (by omega), e (1 + 14) (by omega) (by omega) (by omega), e (1 + 16) (by omega) (by omega) (by omega), e (1 + 17) (by omega) (by omega) (by omega)]
      exact g6
  · rw [h2] at q
    obtain ⟨k1, k2⟩ := h.2.1.2 q
    refine ⟨k1.frame (fun c a b => e c (by omega) (by omega) (by omega)) (g 63 (by omega) (by omega) (by omega)), by rw [g 63 (by omega) (by omega) (by omega)]; exact k2⟩
set_option maxRecDepth 100000 in
set_option maxHeartbeats 4000000 in
theorem w14_end {ro : xRO} {d : Nat} {M : xM} {T : Nat}  {g : Nat → Int32} {a b c : Int32} {k : Nat} {w : Option Value} (hk : M 14 2 = nI k) (k60 : k ≤ 60) : Rn ro (d + 2) M_X6_workOut 6 [some (.ref 17), some (.int a), some (.int b), some (.int c), some (.int 1), some (.int (nI k)), w] [] (mk (upA M 16 g) T) (fun r h => r = some (.int (g 0)) ∧ h = mk (upA M 16 g) T) := by
  refine R_go 3 (pc' := 12) (L' := [some (.ref 17), some (.int a), some (.int b), some (.int c), some (.int 1), some (.int (nI k)), w]) (st' := [.int ((upA M 16 g) 14 2), .int (nI k)]) (h' := mk (upA M 16 g) T) (fun _ => rfl) ?_
  refine R_top (y := nI k) (hk) ?_
  refine R_if 1 (c := (nI k) ≤ (nI k)) (t := 178) (f := 15) (L' := [some (.ref 17), some (.int a), some (.int b), some (.int c), some (.int 1), some (.int (nI k)), w]) (st' := []) (h' := mk (upA M 16 g) T) (fun _ => rfl) (fun g1 => ?_) (fun g1 => ?_)
  · replace g1 : k ≤ k := (nI_leI (a := k) (b := k) (by omega) (by omega)).mp g1
    refine R_go 7 (pc' := 190) (L' := [some (.ref 17), some (.int a), some (.int b), some (.int c), some (.int 1), some (.int (nI k)), w]) (st' := [.int ((upA M 16 g) 16 0)]) (h' := mk (upA M 16 g) T) (fun _ => rfl) ?_
    refine R_top (y := g 0) (congrFun upA_eq _) ?_
    refine R_ret 2 (pcr := 194) (v := some (.int (g 0))) (h' := mk (upA M 16 g) T) (fun _ => rfl) ?_
    exact ⟨rfl, rfl⟩
  · replace g1 : ¬ k ≤ k := fun q => g1 ((nI_leI (a := k) (b := k) (by omega) (by omega)).mpr q)
    omega
set_option maxRecDepth 100000 in
set_option maxHeartbeats 4000000 in
theorem lp_work14 {ro : xRO} {d : Nat} {M : xM} {T : Nat} {act wit : Nat → Int32} {a b c : Int32} {k : Nat} (hk : M 14 2 = nI k) (k60 : k ≤ 60) (hst : ∀ i, i < k → M 15 i = encS (act i) (wit i)) (hwf : wfS act wit k) (hs : stkT act k = some 1) : ∀ (r i : Nat) (w : Option Value), i + r = k → Rn ro (d + 2) M_X6_workOut 6 [some (.ref 17), some (.int a), some (.int b), some (.int c), some (.int (nI ((evT (M 16) act wit (fc3 a b c) i).1))), some (.int (nI i)), w] [] (mk (upA M 16 (evT (M 16) act wit (fc3 a b c) i).2) T) (fun r h => r = some (.int (evR k act wit (fc3 a b c))) ∧ h = mk (upA M 16 (evT (M 16) act wit (fc3 a b c) k).2) T) := by
  intro r
  induction r with
  | zero =>
    intro i w hi
    obtain rfl : i = k := by omega
    rw [(stk_ev (s0 := M 16) (w := wit) (f := fc3 a b c) i 1 hs).1]
    refine (w14_end hk k60).imp (fun _ _ q => ⟨?_, q.2⟩)
    rw [q.1, ev_R hs]
  | succ r ih =>
    intro i w hi
    obtain ⟨ok, oi⟩ := stk_ok (s0 := M 16) (w := wit) (f := fc3 a b c) hs (show i < k by omega)
    rcases hwf i (by omega) with ⟨o1, v, v4, o2⟩ | ⟨o1, u, u2, o2⟩ | o3 | o3
    · have w := ih (i + 1) (some (.int (nI v))) (by omega)
      rw [ev_push o1, o2] at w
      exact w14_push hk k60 (by omega) v4 (by rw [hst i (by omega), o1, o2]; rfl) (by omega) w
    · rcases (by omega : u = 0 ∨ u = 1 ∨ u = 2) with rfl | rfl | rfl
      · have w := ih (i + 1) (some (.int 10000)) (by omega)
        rw [ev_name o1, o2] at w
        exact w14_name_0 hk k60 (by omega) (by rw [hst i (by omega), o1, o2]; rfl) (by omega) w
      · have w := ih (i + 1) (some (.int 10001)) (by omega)
        rw [ev_name o1, o2] at w
        exact w14_name_1 hk k60 (by omega) (by rw [hst i (by omega), o1, o2]; rfl) (by omega) w
      · have w := ih (i + 1) (some (.int 10002)) (by omega)
        rw [ev_name o1, o2] at w
        exact w14_name_2 hk k60 (by omega) (by rw [hst i (by omega), o1, o2]; rfl) (by omega) w
    · have w := ih (i + 1) (some (.int 20033)) (by omega)
      rw [ev_not o3] at w
      rcases ok with (q | q) | ⟨-, q⟩ | ⟨-, -, q, -⟩
      · rw [o3] at q; exact absurd q (by decide)
      · rw [o3] at q; exact absurd q (by decide)
      · exact w14_not hk k60 (by omega) (by rw [hst i (by omega), o3]; rfl) q (by omega) w
      · exact absurd o3 q
    · rcases o3 with o3 | o3 | o3 | o3 | o3 | o3 | o3 | o3 | o3 | o3
      · have w := ih (i + 1) (some (.int 20124)) (by omega)
        rw [ev_sig (s := 124) o3 (by omega) (by omega) (by omega) (by omega)] at w
        rcases ok with (q | q) | ⟨q, -⟩ | ⟨-, -, -, q⟩
        · rw [o3] at q; exact absurd q (by decide)
        · rw [o3] at q; exact absurd q (by decide)
        · rw [o3] at q; exact absurd q (by decide)
        · exact w14_sig_124 hk k60 (by omega) (by rw [hst i (by omega), o3]; rfl) q (by omega) w
      · have w := ih (i + 1) (some (.int 20038)) (by omega)
        rw [ev_sig (s := 38) o3 (by omega) (by omega) (by omega) (by omega)] at w
        rcases ok with (q | q) | ⟨q, -⟩ | ⟨-, -, -, q⟩
        · rw [o3] at q; exact absurd q (by decide)
        · rw [o3] at q; exact absurd q (by decide)
        · rw [o3] at q; exact absurd q (by decide)
        · exact w14_sig_38 hk k60 (by omega) (by rw [hst i (by omega), o3]; rfl) q (by omega) w
      · have w := ih (i + 1) (some (.int 20060)) (by omega)
        rw [ev_sig (s := 60) o3 (by omega) (by omega) (by omega) (by omega)] at w
        rcases ok with (q | q) | ⟨q, -⟩ | ⟨-, -, -, q⟩
        · rw [o3] at q; exact absurd q (by decide)
        · rw [o3] at q; exact absurd q (by decide)
        · rw [o3] at q; exact absurd q (by decide)
        · exact w14_sig_60 hk k60 (by omega) (by rw [hst i (by omega), o3]; rfl) q (by omega) w
      · have w := ih (i + 1) (some (.int 20061)) (by omega)
        rw [ev_sig (s := 61) o3 (by omega) (by omega) (by omega) (by omega)] at w
        rcases ok with (q | q) | ⟨q, -⟩ | ⟨-, -, -, q⟩
        · rw [o3] at q; exact absurd q (by decide)
        · rw [o3] at q; exact absurd q (by decide)
        · rw [o3] at q; exact absurd q (by decide)
        · exact w14_sig_61 hk k60 (by omega) (by rw [hst i (by omega), o3]; rfl) q (by omega) w
      · have w := ih (i + 1) (some (.int 20062)) (by omega)
        rw [ev_sig (s := 62) o3 (by omega) (by omega) (by omega) (by omega)] at w
        rcases ok with (q | q) | ⟨q, -⟩ | ⟨-, -, -, q⟩
        · rw [o3] at q; exact absurd q (by decide)
        · rw [o3] at q; exact absurd q (by decide)
        · rw [o3] at q; exact absurd q (by decide)
        · exact w14_sig_62 hk k60 (by omega) (by rw [hst i (by omega), o3]; rfl) q (by omega) w
      · have w := ih (i + 1) (some (.int 20043)) (by omega)
        rw [ev_sig (s := 43) o3 (by omega) (by omega) (by omega) (by omega)] at w
        rcases ok with (q | q) | ⟨q, -⟩ | ⟨-, -, -, q⟩
        · rw [o3] at q; exact absurd q (by decide)
        · rw [o3] at q; exact absurd q (by decide)
        · rw [o3] at q; exact absurd q (by decide)
        · exact w14_sig_43 hk k60 (by omega) (by rw [hst i (by omega), o3]; rfl) q (by omega) w
      · have w := ih (i + 1) (some (.int 20045)) (by omega)
        rw [ev_sig (s := 45) o3 (by omega) (by omega) (by omega) (by omega)] at w
        rcases ok with (q | q) | ⟨q, -⟩ | ⟨-, -, -, q⟩
        · rw [o3] at q; exact absurd q (by decide)
        · rw [o3] at q; exact absurd q (by decide)
        · rw [o3] at q; exact absurd q (by decide)
        · exact w14_sig_45 hk k60 (by omega) (by rw [hst i (by omega), o3]; rfl) q (by omega) w
      · have w := ih (i + 1) (some (.int 20042)) (by omega)
        rw [ev_sig (s := 42) o3 (by omega) (by omega) (by omega) (by omega)] at w
        rcases ok with (q | q) | ⟨q, -⟩ | ⟨-, -, -, q⟩
        · rw [o3] at q; exact absurd q (by decide)
        · rw [o3] at q; exact absurd q (by decide)
        · rw [o3] at q; exact absurd q (by decide)
        · exact w14_sig_42 hk k60 (by omega) (by rw [hst i (by omega), o3]; rfl) q (by omega) w
      · have w := ih (i + 1) (some (.int 20047)) (by omega)
        rw [ev_sig (s := 47) o3 (by omega) (by omega) (by omega) (by omega)] at w
        rcases ok with (q | q) | ⟨q, -⟩ | ⟨-, -, -, q⟩
        · rw [o3] at q; exact absurd q (by decide)
        · rw [o3] at q; exact absurd q (by decide)
        · rw [o3] at q; exact absurd q (by decide)
        · exact w14_sig_47 hk k60 (by omega) (by rw [hst i (by omega), o3]; rfl) q (by omega) w
      · have w := ih (i + 1) (some (.int 20037)) (by omega)
        rw [ev_sig (s := 37) o3 (by omega) (by omega) (by omega) (by omega)] at w
        rcases ok with (q | q) | ⟨q, -⟩ | ⟨-, -, -, q⟩
        · rw [o3] at q; exact absurd q (by decide)
        · rw [o3] at q; exact absurd q (by decide)
        · rw [o3] at q; exact absurd q (by decide)
        · exact w14_sig_37 hk k60 (by omega) (by rw [hst i (by omega), o3]; rfl) q (by omega) w
set_option maxRecDepth 100000 in
set_option maxHeartbeats 4000000 in
theorem c_work14 {ro : xRO} {d : Nat} {M : xM} {T : Nat} {act wit : Nat → Int32} {a b c : Int32} {k : Nat} (hk : M 14 2 = nI k) (k60 : k ≤ 60) (hst : ∀ i, i < k → M 15 i = encS (act i) (wit i)) (hwf : wfS act wit k) (hs : stkT act k = some 1) : Rn ro (d + 2) M_X6_workOut 0 [some (.ref 17), some (.int a), some (.int b), some (.int c), none, none, none] [] (mk M T) (fun r h => r = some (.int (evR k act wit (fc3 a b c))) ∧ h = mk (upA M 16 (evT (M 16) act wit (fc3 a b c) k).2) T) := by
  refine R_go 4 (pc' := 6) (L' := [some (.ref 17), some (.int a), some (.int b), some (.int c), some (.int 0), some (.int 0), none]) (st' := []) (h' := mk M T) (fun _ => rfl) ?_
  have w := lp_work14 (ro := ro) (d := d) (T := T) (a := a) (b := b) (c := c) hk k60 hst hwf hs k 0 none (Nat.zero_add k)
  rw [show (evT (M 16) act wit (fc3 a b c) 0).2 = M 16 from rfl, upA_id] at w
  exact w
set_option maxRecDepth 100000 in
set_option maxHeartbeats 4000000 in
theorem c_tookBy_1 {ro : xRO} {d : Nat} {M : xM} {T : Nat} {act wit : Nat → Int32} {a b c : Int32} {k : Nat} (hk : M 14 2 = nI k) (k60 : k ≤ 60) (hst : ∀ i, i < k → M 15 i = encS (act i) (wit i)) (hwf : wfS act wit k) (hs : ¬ k = 0 → stkT act k = some 1) (k0 : k = 0) : Rn ro (d + 3) M_X0_tookBy 0 [some (.ref 4), some (.int a), some (.int b), some (.int c)] [] (mk M T) (fun r h => r = some (.int (heldX (lawX 0 k act wit a b c) 1 9)) ∧ h = mk (upA M 16 (evT (M 16) act wit (fc3 a b c) k).2) T) := by
  refine R_go 3 (pc' := 7) (L' := [some (.ref 4), some (.int a), some (.int b), some (.int c)]) (st' := [.int (M 14 2)]) (h' := mk M T) (fun _ => rfl) ?_
  refine R_top (y := nI k) (hk) ?_
  refine R_ifn 1 (c := (nI k) = 0) (t := 14) (f := 10) (L' := [some (.ref 4), some (.int a), some (.int b), some (.int c)]) (st' := []) (h' := mk M T) (fun _ => rfl) (fun g1 => ?_) (fun g1 => ?_)
  · replace g1 : ¬ k = 0 := fun q => g1 ((nI_eq (a := k) (b := 0) (by omega) (by omega)).mpr q)
    omega
  · replace g1 : k = 0 := (nI_eq (a := k) (b := 0) (by omega) (by omega)).mp g1
    refine R_ret 3 (pcr := 30) (v := some (.int 1)) (h' := mk M T) (fun _ => rfl) ?_
    exact ⟨by rw [lawX, if_pos k0]; rfl, by rw [k0]; exact congrArg (fun z => mk z T) upA_id.symm⟩
set_option maxRecDepth 100000 in
set_option maxHeartbeats 4000000 in
theorem c_tookBy_0 {ro : xRO} {d : Nat} {M : xM} {T : Nat} {act wit : Nat → Int32} {a b c : Int32} {k : Nat} (hk : M 14 2 = nI k) (k60 : k ≤ 60) (hst : ∀ i, i < k → M 15 i = encS (act i) (wit i)) (hwf : wfS act wit k) (hs : ¬ k = 0 → stkT act k = some 1) (k0 : ¬ k = 0) : Rn ro (d + 3) M_X0_tookBy 0 [some (.ref 4), some (.int a), some (.int b), some (.int c)] [] (mk M T) (fun r h => r = some (.int (heldX (lawX 0 k act wit a b c) 1 9)) ∧ h = mk (upA M 16 (evT (M 16) act wit (fc3 a b c) k).2) T) := by
  refine R_go 3 (pc' := 7) (L' := [some (.ref 4), some (.int a), some (.int b), some (.int c)]) (st' := [.int (M 14 2)]) (h' := mk M T) (fun _ => rfl) ?_
  refine R_top (y := nI k) (hk) ?_
  refine R_ifn 1 (c := (nI k) = 0) (t := 14) (f := 10) (L' := [some (.ref 4), some (.int a), some (.int b), some (.int c)]) (st' := []) (h' := mk M T) (fun _ => rfl) (fun g1 => ?_) (fun g1 => ?_)
  · replace g1 : ¬ k = 0 := fun q => g1 ((nI_eq (a := k) (b := 0) (by omega) (by omega)).mpr q)
    refine R_go 5 (pc' := 21) (L' := [some (.ref 4), some (.int a), some (.int b), some (.int c)]) (st' := [.int c, .int b, .int a, .ref 17]) (h' := mk M T) (fun _ => rfl) ?_
    refine R_callD (i := .invokevirtual 96) (kd := 0) (y := M_X6_workOut) (as := [.ref 17, .int a, .int b, .int c]) (r := []) (L0 := [some (.ref 17), some (.int a), some (.int b), some (.int c), none, none, none]) (v := some (.int (evR k act wit (fc3 a b c)))) (h' := mk (upA M 16 (evT (M 16) act wit (fc3 a b c) k).2) T) (pc' := 24) (st' := [.int (evR k act wit (fc3 a b c))]) rfl rfl rfl rfl rfl rfl (c_work14 hk k60 hst hwf (hs k0)) ?_
    refine R_go 2 (pc' := 27) (L' := [some (.ref 4), some (.int a), some (.int b), some (.int c)]) (st' := [.int 9, .int 1, .int (evR k act wit (fc3 a b c))]) (h' := mk (upA M 16 (evT (M 16) act wit (fc3 a b c) k).2) T) (fun _ => rfl) ?_
    refine R_callD (i := .invokestatic 100) (kd := 3) (y := M_X7_held) (as := [.int (evR k act wit (fc3 a b c)), .int 1, .int 9]) (r := []) (L0 := [some (.int (evR k act wit (fc3 a b c))), some (.int 1), some (.int 9)]) (v := some (.int (heldX (evR k act wit (fc3 a b c)) 1 9))) (h' := mk (upA M 16 (evT (M 16) act wit (fc3 a b c) k).2) T) (pc' := 30) (st' := [.int (heldX (evR k act wit (fc3 a b c)) 1 9)]) rfl rfl rfl rfl rfl rfl (c_held) ?_
    refine R_ret 1 (pcr := 30) (v := some (.int (heldX (evR k act wit (fc3 a b c)) 1 9))) (h' := mk (upA M 16 (evT (M 16) act wit (fc3 a b c) k).2) T) (fun _ => rfl) ?_
    exact ⟨by rw [lawX, if_neg k0], rfl⟩
  · replace g1 : k = 0 := (nI_eq (a := k) (b := 0) (by omega) (by omega)).mp g1
    omega
theorem c_tookBy {ro : xRO} {d : Nat} {M : xM} {T : Nat} {act wit : Nat → Int32} {a b c : Int32} {k : Nat} (hk : M 14 2 = nI k) (k60 : k ≤ 60) (hst : ∀ i, i < k → M 15 i = encS (act i) (wit i)) (hwf : wfS act wit k) (hs : ¬ k = 0 → stkT act k = some 1) : Rn ro (d + 3) M_X0_tookBy 0 [some (.ref 4), some (.int a), some (.int b), some (.int c)] [] (mk M T) (fun r h => r = some (.int (heldX (lawX 0 k act wit a b c) 1 9)) ∧ h = mk (upA M 16 (evT (M 16) act wit (fc3 a b c) k).2) T) := by
  by_cases k0 : k = 0
  · exact c_tookBy_1 hk k60 hst hwf hs k0
  · exact c_tookBy_0 hk k60 hst hwf hs k0
set_option maxRecDepth 100000 in
set_option maxHeartbeats 4000000 in
theorem w17_end {ro : xRO} {d : Nat} {M : xM} {T : Nat}  {g : Nat → Int32} {a b c : Int32} {k : Nat} {w : Option Value} (hk : M 17 2 = nI k) (k60 : k ≤ 60) : Rn ro (d + 2) M_X6_workOut 6 [some (.ref 20), some (.int a), some (.int b), some (.int c), some (.int 1), some (.int (nI k)), w] [] (mk (upA M 19 g) T) (fun r h => r = some (.int (g 0)) ∧ h = mk (upA M 19 g) T) := by
  refine R_go 3 (pc' := 12) (L' := [some (.ref 20), some (.int a), some (.int b), some (.int c), some (.int 1), some (.int (nI k)), w]) (st' := [.int ((upA M 19 g) 17 2), .int (nI k)]) (h' := mk (upA M 19 g) T) (fun _ => rfl) ?_
  refine R_top (y := nI k) (hk) ?_
  refine R_if 1 (c := (nI k) ≤ (nI k)) (t := 178) (f := 15) (L' := [some (.ref 20), some (.int a), some (.int b), some (.int c), some (.int 1), some (.int (nI k)), w]) (st' := []) (h' := mk (upA M 19 g) T) (fun _ => rfl) (fun g1 => ?_) (fun g1 => ?_)
  · replace g1 : k ≤ k := (nI_leI (a := k) (b := k) (by omega) (by omega)).mp g1
    refine R_go 7 (pc' := 190) (L' := [some (.ref 20), some (.int a), some (.int b), some (.int c), some (.int 1), some (.int (nI k)), w]) (st' := [.int ((upA M 19 g) 19 0)]) (h' := mk (upA M 19 g) T) (fun _ => rfl) ?_
    refine R_top (y := g 0) (congrFun upA_eq _) ?_
    refine R_ret 2 (pcr := 194) (v := some (.int (g 0))) (h' := mk (upA M 19 g) T) (fun _ => rfl) ?_
    exact ⟨rfl, rfl⟩
  · replace g1 : ¬ k ≤ k := fun q => g1 ((nI_leI (a := k) (b := k) (by omega) (by omega)).mpr q)
    omega
set_option maxRecDepth 100000 in
set_option maxHeartbeats 4000000 in
theorem lp_work17 {ro : xRO} {d : Nat} {M : xM} {T : Nat} {act wit : Nat → Int32} {a b c : Int32} {k : Nat} (hk : M 17 2 = nI k) (k60 : k ≤ 60) (hst : ∀ i, i < k → M 18 i = encS (act i) (wit i)) (hwf : wfS act wit k) (hs : stkT act k = some 1) : ∀ (r i : Nat) (w : Option Value), i + r = k → Rn ro (d + 2) M_X6_workOut 6 [some (.ref 20), some (.int a), some (.int b), some (.int c), some (.int (nI ((evT (M 19) act wit (fc3 a b c) i).1))), some (.int (nI i)), w] [] (mk (upA M 19 (evT (M 19) act wit (fc3 a b c) i).2) T) (fun r h => r = some (.int (evR k act wit (fc3 a b c))) ∧ h = mk (upA M 19 (evT (M 19) act wit (fc3 a b c) k).2) T) := by
  intro r
  induction r with
  | zero =>
    intro i w hi
    obtain rfl : i = k := by omega
    rw [(stk_ev (s0 := M 19) (w := wit) (f := fc3 a b c) i 1 hs).1]
    refine (w17_end hk k60).imp (fun _ _ q => ⟨?_, q.2⟩)
    rw [q.1, ev_R hs]
  | succ r ih =>
    intro i w hi
    obtain ⟨ok, oi⟩ := stk_ok (s0 := M 19) (w := wit) (f := fc3 a b c) hs (show i < k by omega)
    rcases hwf i (by omega) with ⟨o1, v, v4, o2⟩ | ⟨o1, u, u2, o2⟩ | o3 | o3
    · have w := ih (i + 1) (some (.int (nI v))) (by omega)
      rw [ev_push o1, o2] at w
      exact w17_push hk k60 (by omega) v4 (by rw [hst i (by omega), o1, o2]; rfl) (by omega) w
    · rcases (by omega : u = 0 ∨ u = 1 ∨ u = 2) with rfl | rfl | rfl
      · have w := ih (i + 1) (some (.int 10000)) (by omega)
        rw [ev_name o1, o2] at w
        exact w17_name_0 hk k60 (by omega) (by rw [hst i (by omega), o1, o2]; rfl) (by omega) w
      · have w := ih (i + 1) (some (.int 10001)) (by omega)
        rw [ev_name o1, o2] at w
        exact w17_name_1 hk k60 (by omega) (by rw [hst i (by omega), o1, o2]; rfl) (by omega) w
      · have w := ih (i + 1) (some (.int 10002)) (by omega)
        rw [ev_name o1, o2] at w
        exact w17_name_2 hk k60 (by omega) (by rw [hst i (by omega), o1, o2]; rfl) (by omega) w
    · have w := ih (i + 1) (some (.int 20033)) (by omega)
      rw [ev_not o3] at w
      rcases ok with (q | q) | ⟨-, q⟩ | ⟨-, -, q, -⟩
      · rw [o3] at q; exact absurd q (by decide)
      · rw [o3] at q; exact absurd q (by decide)
      · exact w17_not hk k60 (by omega) (by rw [hst i (by omega), o3]; rfl) q (by omega) w
      · exact absurd o3 q
    · rcases o3 with o3 | o3 | o3 | o3 | o3 | o3 | o3 | o3 | o3 | o3
      · have w := ih (i + 1) (some (.int 20124)) (by omega)
        rw [ev_sig (s := 124) o3 (by omega) (by omega) (by omega) (by omega)] at w
        rcases ok with (q | q) | ⟨q, -⟩ | ⟨-, -, -, q⟩
        · rw [o3] at q; exact absurd q (by decide)
        · rw [o3] at q; exact absurd q (by decide)
        · rw [o3] at q; exact absurd q (by decide)
        · exact w17_sig_124 hk k60 (by omega) (by rw [hst i (by omega), o3]; rfl) q (by omega) w
      · have w := ih (i + 1) (some (.int 20038)) (by omega)
        rw [ev_sig (s := 38) o3 (by omega) (by omega) (by omega) (by omega)] at w
        rcases ok with (q | q) | ⟨q, -⟩ | ⟨-, -, -, q⟩
        · rw [o3] at q; exact absurd q (by decide)
        · rw [o3] at q; exact absurd q (by decide)
        · rw [o3] at q; exact absurd q (by decide)
        · exact w17_sig_38 hk k60 (by omega) (by rw [hst i (by omega), o3]; rfl) q (by omega) w
      · have w := ih (i + 1) (some (.int 20060)) (by omega)
        rw [ev_sig (s := 60) o3 (by omega) (by omega) (by omega) (by omega)] at w
        rcases ok with (q | q) | ⟨q, -⟩ | ⟨-, -, -, q⟩
        · rw [o3] at q; exact absurd q (by decide)
        · rw [o3] at q; exact absurd q (by decide)
        · rw [o3] at q; exact absurd q (by decide)
        · exact w17_sig_60 hk k60 (by omega) (by rw [hst i (by omega), o3]; rfl) q (by omega) w
      · have w := ih (i + 1) (some (.int 20061)) (by omega)
        rw [ev_sig (s := 61) o3 (by omega) (by omega) (by omega) (by omega)] at w
        rcases ok with (q | q) | ⟨q, -⟩ | ⟨-, -, -, q⟩
        · rw [o3] at q; exact absurd q (by decide)
        · rw [o3] at q; exact absurd q (by decide)
        · rw [o3] at q; exact absurd q (by decide)
        · exact w17_sig_61 hk k60 (by omega) (by rw [hst i (by omega), o3]; rfl) q (by omega) w
      · have w := ih (i + 1) (some (.int 20062)) (by omega)
        rw [ev_sig (s := 62) o3 (by omega) (by omega) (by omega) (by omega)] at w
        rcases ok with (q | q) | ⟨q, -⟩ | ⟨-, -, -, q⟩
        · rw [o3] at q; exact absurd q (by decide)
        · rw [o3] at q; exact absurd q (by decide)
        · rw [o3] at q; exact absurd q (by decide)
        · exact w17_sig_62 hk k60 (by omega) (by rw [hst i (by omega), o3]; rfl) q (by omega) w
      · have w := ih (i + 1) (some (.int 20043)) (by omega)
        rw [ev_sig (s := 43) o3 (by omega) (by omega) (by omega) (by omega)] at w
        rcases ok with (q | q) | ⟨q, -⟩ | ⟨-, -, -, q⟩
        · rw [o3] at q; exact absurd q (by decide)
        · rw [o3] at q; exact absurd q (by decide)
        · rw [o3] at q; exact absurd q (by decide)
        · exact w17_sig_43 hk k60 (by omega) (by rw [hst i (by omega), o3]; rfl) q (by omega) w
      · have w := ih (i + 1) (some (.int 20045)) (by omega)
        rw [ev_sig (s := 45) o3 (by omega) (by omega) (by omega) (by omega)] at w
        rcases ok with (q | q) | ⟨q, -⟩ | ⟨-, -, -, q⟩
        · rw [o3] at q; exact absurd q (by decide)
        · rw [o3] at q; exact absurd q (by decide)
        · rw [o3] at q; exact absurd q (by decide)
        · exact w17_sig_45 hk k60 (by omega) (by rw [hst i (by omega), o3]; rfl) q (by omega) w
      · have w := ih (i + 1) (some (.int 20042)) (by omega)
        rw [ev_sig (s := 42) o3 (by omega) (by omega) (by omega) (by omega)] at w
        rcases ok with (q | q) | ⟨q, -⟩ | ⟨-, -, -, q⟩
        · rw [o3] at q; exact absurd q (by decide)
        · rw [o3] at q; exact absurd q (by decide)
        · rw [o3] at q; exact absurd q (by decide)
        · exact w17_sig_42 hk k60 (by omega) (by rw [hst i (by omega), o3]; rfl) q (by omega) w
      · have w := ih (i + 1) (some (.int 20047)) (by omega)
        rw [ev_sig (s := 47) o3 (by omega) (by omega) (by omega) (by omega)] at w
        rcases ok with (q | q) | ⟨q, -⟩ | ⟨-, -, -, q⟩
        · rw [o3] at q; exact absurd q (by decide)
        · rw [o3] at q; exact absurd q (by decide)
        · rw [o3] at q; exact absurd q (by decide)
        · exact w17_sig_47 hk k60 (by omega) (by rw [hst i (by omega), o3]; rfl) q (by omega) w
      · have w := ih (i + 1) (some (.int 20037)) (by omega)
        rw [ev_sig (s := 37) o3 (by omega) (by omega) (by omega) (by omega)] at w
        rcases ok with (q | q) | ⟨q, -⟩ | ⟨-, -, -, q⟩
        · rw [o3] at q; exact absurd q (by decide)
        · rw [o3] at q; exact absurd q (by decide)
        · rw [o3] at q; exact absurd q (by decide)
        · exact w17_sig_37 hk k60 (by omega) (by rw [hst i (by omega), o3]; rfl) q (by omega) w
set_option maxRecDepth 100000 in
set_option maxHeartbeats 4000000 in
theorem c_work17 {ro : xRO} {d : Nat} {M : xM} {T : Nat} {act wit : Nat → Int32} {a b c : Int32} {k : Nat} (hk : M 17 2 = nI k) (k60 : k ≤ 60) (hst : ∀ i, i < k → M 18 i = encS (act i) (wit i)) (hwf : wfS act wit k) (hs : stkT act k = some 1) : Rn ro (d + 2) M_X6_workOut 0 [some (.ref 20), some (.int a), some (.int b), some (.int c), none, none, none] [] (mk M T) (fun r h => r = some (.int (evR k act wit (fc3 a b c))) ∧ h = mk (upA M 19 (evT (M 19) act wit (fc3 a b c) k).2) T) := by
  refine R_go 4 (pc' := 6) (L' := [some (.ref 20), some (.int a), some (.int b), some (.int c), some (.int 0), some (.int 0), none]) (st' := []) (h' := mk M T) (fun _ => rfl) ?_
  have w := lp_work17 (ro := ro) (d := d) (T := T) (a := a) (b := b) (c := c) hk k60 hst hwf hs k 0 none (Nat.zero_add k)
  rw [show (evT (M 19) act wit (fc3 a b c) 0).2 = M 19 from rfl, upA_id] at w
  exact w
set_option maxRecDepth 100000 in
set_option maxHeartbeats 4000000 in
theorem c_valueBy_1 {ro : xRO} {d : Nat} {M : xM} {T : Nat} {act wit : Nat → Int32} {a b c : Int32} {k : Nat} (hk : M 17 2 = nI k) (k60 : k ≤ 60) (hst : ∀ i, i < k → M 18 i = encS (act i) (wit i)) (hwf : wfS act wit k) (hs : ¬ k = 0 → stkT act k = some 1) (k0 : k = 0) : Rn ro (d + 3) M_X0_valueBy 0 [some (.ref 4), some (.int a), some (.int b), some (.int c)] [] (mk M T) (fun r h => r = some (.int (heldX (lawX 1 k act wit a b c) 0 9999)) ∧ h = mk (upA M 19 (evT (M 19) act wit (fc3 a b c) k).2) T) := by
  refine R_go 3 (pc' := 7) (L' := [some (.ref 4), some (.int a), some (.int b), some (.int c)]) (st' := [.int (M 17 2)]) (h' := mk M T) (fun _ => rfl) ?_
  refine R_top (y := nI k) (hk) ?_
  refine R_ifn 1 (c := (nI k) = 0) (t := 16) (f := 10) (L' := [some (.ref 4), some (.int a), some (.int b), some (.int c)]) (st' := []) (h' := mk M T) (fun _ => rfl) (fun g1 => ?_) (fun g1 => ?_)
  · replace g1 : ¬ k = 0 := fun q => g1 ((nI_eq (a := k) (b := 0) (by omega) (by omega)).mpr q)
    omega
  · replace g1 : k = 0 := (nI_eq (a := k) (b := 0) (by omega) (by omega)).mp g1
    refine R_go 6 (pc' := 30) (L' := [some (.ref 4), some (.int a), some (.int b), some (.int c)]) (st' := [.int 9999, .int 0, .int (a * b)]) (h' := mk M T) (fun _ => rfl) ?_
    refine R_callD (i := .invokestatic 100) (kd := 3) (y := M_X7_held) (as := [.int (a * b), .int 0, .int 9999]) (r := []) (L0 := [some (.int (a * b)), some (.int 0), some (.int 9999)]) (v := some (.int (heldX (a * b) 0 9999))) (h' := mk M T) (pc' := 33) (st' := [.int (heldX (a * b) 0 9999)]) rfl rfl rfl rfl rfl rfl (c_held) ?_
    refine R_ret 1 (pcr := 33) (v := some (.int (heldX (a * b) 0 9999))) (h' := mk M T) (fun _ => rfl) ?_
    exact ⟨by rw [lawX, if_pos k0]; rfl, by rw [k0]; exact congrArg (fun z => mk z T) upA_id.symm⟩
set_option maxRecDepth 100000 in
set_option maxHeartbeats 4000000 in
theorem c_valueBy_0 {ro : xRO} {d : Nat} {M : xM} {T : Nat} {act wit : Nat → Int32} {a b c : Int32} {k : Nat} (hk : M 17 2 = nI k) (k60 : k ≤ 60) (hst : ∀ i, i < k → M 18 i = encS (act i) (wit i)) (hwf : wfS act wit k) (hs : ¬ k = 0 → stkT act k = some 1) (k0 : ¬ k = 0) : Rn ro (d + 3) M_X0_valueBy 0 [some (.ref 4), some (.int a), some (.int b), some (.int c)] [] (mk M T) (fun r h => r = some (.int (heldX (lawX 1 k act wit a b c) 0 9999)) ∧ h = mk (upA M 19 (evT (M 19) act wit (fc3 a b c) k).2) T) := by
  refine R_go 3 (pc' := 7) (L' := [some (.ref 4), some (.int a), some (.int b), some (.int c)]) (st' := [.int (M 17 2)]) (h' := mk M T) (fun _ => rfl) ?_
  refine R_top (y := nI k) (hk) ?_
  refine R_ifn 1 (c := (nI k) = 0) (t := 16) (f := 10) (L' := [some (.ref 4), some (.int a), some (.int b), some (.int c)]) (st' := []) (h' := mk M T) (fun _ => rfl) (fun g1 => ?_) (fun g1 => ?_)
  · replace g1 : ¬ k = 0 := fun q => g1 ((nI_eq (a := k) (b := 0) (by omega) (by omega)).mpr q)
    refine R_go 5 (pc' := 23) (L' := [some (.ref 4), some (.int a), some (.int b), some (.int c)]) (st' := [.int c, .int b, .int a, .ref 20]) (h' := mk M T) (fun _ => rfl) ?_
    refine R_callD (i := .invokevirtual 96) (kd := 0) (y := M_X6_workOut) (as := [.ref 20, .int a, .int b, .int c]) (r := []) (L0 := [some (.ref 20), some (.int a), some (.int b), some (.int c), none, none, none]) (v := some (.int (evR k act wit (fc3 a b c)))) (h' := mk (upA M 19 (evT (M 19) act wit (fc3 a b c) k).2) T) (pc' := 26) (st' := [.int (evR k act wit (fc3 a b c))]) rfl rfl rfl rfl rfl rfl (c_work17 hk k60 hst hwf (hs k0)) ?_
    refine R_go 2 (pc' := 30) (L' := [some (.ref 4), some (.int a), some (.int b), some (.int c)]) (st' := [.int 9999, .int 0, .int (evR k act wit (fc3 a b c))]) (h' := mk (upA M 19 (evT (M 19) act wit (fc3 a b c) k).2) T) (fun _ => rfl) ?_
    refine R_callD (i := .invokestatic 100) (kd := 3) (y := M_X7_held) (as := [.int (evR k act wit (fc3 a b c)), .int 0, .int 9999]) (r := []) (L0 := [some (.int (evR k act wit (fc3 a b c))), some (.int 0), some (.int 9999)]) (v := some (.int (heldX (evR k act wit (fc3 a b c)) 0 9999))) (h' := mk (upA M 19 (evT (M 19) act wit (fc3 a b c) k).2) T) (pc' := 33) (st' := [.int (heldX (evR k act wit (fc3 a b c)) 0 9999)]) rfl rfl rfl rfl rfl rfl (c_held) ?_
    refine R_ret 1 (pcr := 33) (v := some (.int (heldX (evR k act wit (fc3 a b c)) 0 9999))) (h' := mk (upA M 19 (evT (M 19) act wit (fc3 a b c) k).2) T) (fun _ => rfl) ?_
    exact ⟨by rw [lawX, if_neg k0], rfl⟩
  · replace g1 : k = 0 := (nI_eq (a := k) (b := 0) (by omega) (by omega)).mp g1
    omega
theorem c_valueBy {ro : xRO} {d : Nat} {M : xM} {T : Nat} {act wit : Nat → Int32} {a b c : Int32} {k : Nat} (hk : M 17 2 = nI k) (k60 : k ≤ 60) (hst : ∀ i, i < k → M 18 i = encS (act i) (wit i)) (hwf : wfS act wit k) (hs : ¬ k = 0 → stkT act k = some 1) : Rn ro (d + 3) M_X0_valueBy 0 [some (.ref 4), some (.int a), some (.int b), some (.int c)] [] (mk M T) (fun r h => r = some (.int (heldX (lawX 1 k act wit a b c) 0 9999)) ∧ h = mk (upA M 19 (evT (M 19) act wit (fc3 a b c) k).2) T) := by
  by_cases k0 : k = 0
  · exact c_valueBy_1 hk k60 hst hwf hs k0
  · exact c_valueBy_0 hk k60 hst hwf hs k0
