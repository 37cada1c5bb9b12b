/-! OPERATION text: the reader of the model, all of it -/
theorem tm_lp_times {ro : xRO} {d T : Nat} {f : Nat → Int32} {L u o : Nat} {Mb : xM} (h60 : L ≤ 60) {sub : tpS → tpT} (hok : ∀ s dep, tpO L dep s → tpR L dep s (sub s)) (hsub : ∀ s dep M, tpM f L u Mb o s M → tpO L dep s → Rn ro (d + 3) M_X8_one 0 [some (.ref 64), none, none] [] (mk M T) (tpP f L u Mb o T (sub s))) : ∀ (n : Nat) (w : Option Value) (s : tpS) (dep : Nat) (M : xM), L ≤ s.1 + n → tpM f L u Mb o s M → tpO L (dep + 1) s → Rn ro (d + 4) M_X8_times 4 [some (.ref 64), w] [] (mk M T) (tpP f L u Mb o T (tp_lp f L 4 sub n s)) := by
  intro n
  induction n with
  | zero =>
    intro w s dep M ht hx ho
    have hle := ho.1
    exact tm_times_o hx hle h60 (tp_lk_ge (by omega)) (by decide) (by decide) (by decide) (fun M1 hx1 => tpP_r rfl hx1)
  | succ n ih =>
    intro w s dep M ht hx ho
    have hle := ho.1
    have h2 := ho.2.1
    by_cases hv : tp_lv (tp_lk f L s.1) = nI 4
    · have hlt := tp_lv_lt (by omega) hv
      have oa : tpO L (dep + 1) (tp_adv s) := tpO_at ho (by omega) hlt
      have k0 := hok (tp_adv s) (dep + 1) oa
      have w0 := hsub (tp_adv s) (dep + 1) _ hx.adv oa
      rcases tp_lv_s.2.2.2.2 hv with hb | hb | hb
      · have er : tp_lp f L 4 sub (n + 1) s = match sub (tp_adv s) with
          | .inl p => .inl p
          | .inr s1 => tp_lp f L 4 sub n (tp_psh s1 (tp_lk f L s.1) 0) := by
          conv => lhs; unfold tp_lp
          rw [if_pos hv]
          split
          · rename_i q; rw [q]
          · rename_i q; rw [q]; exact if_neg (by omega)
        rw [er]
        cases e : sub (tp_adv s) with
        | inl p => exact tm_times_t42_f hx hle h60 hb (tpP_al e w0) (fun M1 hx1 => tpP_l rfl hx1)
        | inr s1 =>
          rw [e] at k0
          have b1 := tpR_sg (by omega) hv h2 k0
          have hs : s1.2.1 + 1 ≤ s1.1 := b1.2.1
          have hs3 : s1.1 ≤ L := b1.1
          have hs4 : s.1 + 1 < s1.1 := k0.2.1
          rw [hb] at b1
          dsimp only
          rw [hb]
          exact tm_times_t42_g hx hle h60 hb (tpP_ar e w0) (by omega) (fun M1 hx1 => ih _ _ dep M1 (show L ≤ s1.1 + n by omega) hx1 b1)
      · have er : tp_lp f L 4 sub (n + 1) s = match sub (tp_adv s) with
          | .inl p => .inl p
          | .inr s1 => tp_lp f L 4 sub n (tp_psh s1 (tp_lk f L s.1) 0) := by
          conv => lhs; unfold tp_lp
          rw [if_pos hv]
          split
          · rename_i q; rw [q]
          · rename_i q; rw [q]; exact if_neg (by omega)
        rw [er]
        cases e : sub (tp_adv s) with
        | inl p => exact tm_times_t47_f hx hle h60 hb (tpP_al e w0) (fun M1 hx1 => tpP_l rfl hx1)
        | inr s1 =>
          rw [e] at k0
          have b1 := tpR_sg (by omega) hv h2 k0
          have hs : s1.2.1 + 1 ≤ s1.1 := b1.2.1
          have hs3 : s1.1 ≤ L := b1.1
          have hs4 : s.1 + 1 < s1.1 := k0.2.1
          rw [hb] at b1
          dsimp only
          rw [hb]
          exact tm_times_t47_g hx hle h60 hb (tpP_ar e w0) (by omega) (fun M1 hx1 => ih _ _ dep M1 (show L ≤ s1.1 + n by omega) hx1 b1)
      · have er : tp_lp f L 4 sub (n + 1) s = match sub (tp_adv s) with
          | .inl p => .inl p
          | .inr s1 => tp_lp f L 4 sub n (tp_psh s1 (tp_lk f L s.1) 0) := by
          conv => lhs; unfold tp_lp
          rw [if_pos hv]
          split
          · rename_i q; rw [q]
          · rename_i q; rw [q]; exact if_neg (by omega)
        rw [er]
        cases e : sub (tp_adv s) with
        | inl p => exact tm_times_t37_f hx hle h60 hb (tpP_al e w0) (fun M1 hx1 => tpP_l rfl hx1)
        | inr s1 =>
          rw [e] at k0
          have b1 := tpR_sg (by omega) hv h2 k0
          have hs : s1.2.1 + 1 ≤ s1.1 := b1.2.1
          have hs3 : s1.1 ≤ L := b1.1
          have hs4 : s.1 + 1 < s1.1 := k0.2.1
          rw [hb] at b1
          dsimp only
          rw [hb]
          exact tm_times_t37_g hx hle h60 hb (tpP_ar e w0) (by omega) (fun M1 hx1 => ih _ _ dep M1 (show L ≤ s1.1 + n by omega) hx1 b1)
    · have er : tp_lp f L 4 sub (n + 1) s = .inr s := by
        unfold tp_lp
        rw [if_neg hv]
      exact tm_times_o hx hle h60 rfl (fun q => hv (by rw [q]; rfl)) (fun q => hv (by rw [q]; rfl)) (fun q => hv (by rw [q]; rfl)) (fun M1 hx1 => tpP_r er hx1)
theorem tm_times {ro : xRO} {d T : Nat} {f : Nat → Int32} {L u o : Nat} {Mb : xM} (h60 : L ≤ 60) {one : tpS → tpT} (hok : ∀ s dep, tpO L dep s → tpR L dep s (one s)) (hsub : ∀ s dep M, tpM f L u Mb o s M → tpO L dep s → Rn ro (d + 3) M_X8_one 0 [some (.ref 64), none, none] [] (mk M T) (tpP f L u Mb o T (tp_lev f L one 0 s))) (s : tpS) (dep : Nat) (M : xM) (hx : tpM f L u Mb o s M) (ho : tpO L dep s) : Rn ro (d + 4) M_X8_times 0 [some (.ref 64), none] [] (mk M T) (tpP f L u Mb o T (tp_lev f L one (0 + 1) s)) := by
  have w0 := hsub s dep M hx ho
  have k0 := tp_lev_ok (f := f) hok 0 s dep ho
  cases e : tp_lev f L one 0 s with
  | inl p =>
    have er : tp_lev f L one (0 + 1) s = .inl p := by
      conv => lhs; unfold tp_lev
      rw [e]
    exact tm_times_in_f (f := f) (u := u) (o := o) (tpP_al e w0) (fun M1 hx1 => tpP_l er hx1)
  | inr s1 =>
    rw [e] at k0
    have er : tp_lev f L one (0 + 1) s = tp_lp f L 4 (fun z => tp_lev f L one 0 z) 60 s1 := by
      conv => lhs; unfold tp_lev
      rw [e]
    rw [er]
    exact tm_times_in_g (tpP_ar e w0) (fun M1 hx1 => tm_lp_times h60 (tp_lev_ok (f := f) hok 0) hsub 60 none s1 dep M1 (by omega) hx1 k0.1)
theorem tm_lp_sum {ro : xRO} {d T : Nat} {f : Nat → Int32} {L u o : Nat} {Mb : xM} (h60 : L ≤ 60) {sub : tpS → tpT} (hok : ∀ s dep, tpO L dep s → tpR L dep s (sub s)) (hsub : ∀ s dep M, tpM f L u Mb o s M → tpO L dep s → Rn ro (d + 3) M_X8_times 0 [some (.ref 64), none] [] (mk M T) (tpP f L u Mb o T (sub s))) : ∀ (n : Nat) (w : Option Value) (s : tpS) (dep : Nat) (M : xM), L ≤ s.1 + n → tpM f L u Mb o s M → tpO L (dep + 1) s → Rn ro (d + 4) M_X8_sum 4 [some (.ref 64), w] [] (mk M T) (tpP f L u Mb o T (tp_lp f L 3 sub n s)) := by
  intro n
  induction n with
  | zero =>
    intro w s dep M ht hx ho
    have hle := ho.1
    exact tm_sum_o hx hle h60 (tp_lk_ge (by omega)) (by decide) (by decide) (fun M1 hx1 => tpP_r rfl hx1)
  | succ n ih =>
    intro w s dep M ht hx ho
    have hle := ho.1
    have h2 := ho.2.1
    by_cases hv : tp_lv (tp_lk f L s.1) = nI 3
    · have hlt := tp_lv_lt (by omega) hv
      have oa : tpO L (dep + 1) (tp_adv s) := tpO_at ho (by omega) hlt
      have k0 := hok (tp_adv s) (dep + 1) oa
      have w0 := hsub (tp_adv s) (dep + 1) _ hx.adv oa
      rcases tp_lv_s.2.2.2.1 hv with hb | hb
      · have er : tp_lp f L 3 sub (n + 1) s = match sub (tp_adv s) with
          | .inl p => .inl p
          | .inr s1 => tp_lp f L 3 sub n (tp_psh s1 (tp_lk f L s.1) 0) := by
          conv => lhs; unfold tp_lp
          rw [if_pos hv]
          split
          · rename_i q; rw [q]
          · rename_i q; rw [q]; exact if_neg (by omega)
        rw [er]
        cases e : sub (tp_adv s) with
        | inl p => exact tm_sum_t43_f hx hle h60 hb (tpP_al e w0) (fun M1 hx1 => tpP_l rfl hx1)
        | inr s1 =>
          rw [e] at k0
          have b1 := tpR_sg (by omega) hv h2 k0
          have hs : s1.2.1 + 1 ≤ s1.1 := b1.2.1
          have hs3 : s1.1 ≤ L := b1.1
          have hs4 : s.1 + 1 < s1.1 := k0.2.1
          rw [hb] at b1
          dsimp only
          rw [hb]
          exact tm_sum_t43_g hx hle h60 hb (tpP_ar e w0) (by omega) (fun M1 hx1 => ih _ _ dep M1 (show L ≤ s1.1 + n by omega) hx1 b1)
      · have er : tp_lp f L 3 sub (n + 1) s = match sub (tp_adv s) with
          | .inl p => .inl p
          | .inr s1 => tp_lp f L 3 sub n (tp_psh s1 (tp_lk f L s.1) 0) := by
          conv => lhs; unfold tp_lp
          rw [if_pos hv]
          split
          · rename_i q; rw [q]
          · rename_i q; rw [q]; exact if_neg (by omega)
        rw [er]
        cases e : sub (tp_adv s) with
        | inl p => exact tm_sum_t45_f hx hle h60 hb (tpP_al e w0) (fun M1 hx1 => tpP_l rfl hx1)
        | inr s1 =>
          rw [e] at k0
          have b1 := tpR_sg (by omega) hv h2 k0
          have hs : s1.2.1 + 1 ≤ s1.1 := b1.2.1
          have hs3 : s1.1 ≤ L := b1.1
          have hs4 : s.1 + 1 < s1.1 := k0.2.1
          rw [hb] at b1
          dsimp only
          rw [hb]
          exact tm_sum_t45_g hx hle h60 hb (tpP_ar e w0) (by omega) (fun M1 hx1 => ih _ _ dep M1 (show L ≤ s1.1 + n by omega) hx1 b1)
    · have er : tp_lp f L 3 sub (n + 1) s = .inr s := by
        unfold tp_lp
        rw [if_neg hv]
      exact tm_sum_o hx hle h60 rfl (fun q => hv (by rw [q]; rfl)) (fun q => hv (by rw [q]; rfl)) (fun M1 hx1 => tpP_r er hx1)
theorem tm_sum {ro : xRO} {d T : Nat} {f : Nat → Int32} {L u o : Nat} {Mb : xM} (h60 : L ≤ 60) {one : tpS → tpT} (hok : ∀ s dep, tpO L dep s → tpR L dep s (one s)) (hsub : ∀ s dep M, tpM f L u Mb o s M → tpO L dep s → Rn ro (d + 3) M_X8_times 0 [some (.ref 64), none] [] (mk M T) (tpP f L u Mb o T (tp_lev f L one 1 s))) (s : tpS) (dep : Nat) (M : xM) (hx : tpM f L u Mb o s M) (ho : tpO L dep s) : Rn ro (d + 4) M_X8_sum 0 [some (.ref 64), none] [] (mk M T) (tpP f L u Mb o T (tp_lev f L one (1 + 1) s)) := by
  have w0 := hsub s dep M hx ho
  have k0 := tp_lev_ok (f := f) hok 1 s dep ho
  cases e : tp_lev f L one 1 s with
  | inl p =>
    have er : tp_lev f L one (1 + 1) s = .inl p := by
      conv => lhs; unfold tp_lev
      rw [e]
    exact tm_sum_in_f (f := f) (u := u) (o := o) (tpP_al e w0) (fun M1 hx1 => tpP_l er hx1)
  | inr s1 =>
    rw [e] at k0
    have er : tp_lev f L one (1 + 1) s = tp_lp f L 3 (fun z => tp_lev f L one 1 z) 60 s1 := by
      conv => lhs; unfold tp_lev
      rw [e]
    rw [er]
    exact tm_sum_in_g (tpP_ar e w0) (fun M1 hx1 => tm_lp_sum h60 (tp_lev_ok (f := f) hok 1) hsub 60 none s1 dep M1 (by omega) hx1 k0.1)
theorem tm_compares {ro : xRO} {d T : Nat} {f : Nat → Int32} {L u o : Nat} {Mb : xM} (h60 : L ≤ 60) {one : tpS → tpT} (hok : ∀ s dep, tpO L dep s → tpR L dep s (one s)) (hsub : ∀ s dep M, tpM f L u Mb o s M → tpO L dep s → Rn ro (d + 3) M_X8_sum 0 [some (.ref 64), none] [] (mk M T) (tpP f L u Mb o T (tp_lev f L one 2 s))) (s : tpS) (dep : Nat) (M : xM) (hx : tpM f L u Mb o s M) (ho : tpO L dep s) : Rn ro (d + 4) M_X8_compares 0 [some (.ref 64), none] [] (mk M T) (tpP f L u Mb o T (tp_lev f L one (2 + 1) s)) := by
  have w0 := hsub s dep M hx ho
  have k0 := tp_lev_ok (f := f) hok 2 s dep ho
  cases e : tp_lev f L one 2 s with
  | inl p =>
    rw [e] at k0
    have er : tp_lev f L one (2 + 1) s = .inl p := by
      conv => lhs; unfold tp_lev
      rw [e]
    exact tm_compares_in_f (f := f) (u := u) (o := o) h60 k0 (tpP_al e w0) (fun M1 hx1 => tpP_l er hx1)
  | inr s1 =>
    rw [e] at k0
    obtain ⟨o1, o2, o3⟩ := k0
    have hle := o1.1
    have h2 := o1.2.1
    have er : tp_lev f L one (2 + 1) s = tp_lp f L 2 (fun z => tp_lev f L one 2 z) (59 + 1) s1 := by
      conv => lhs; unfold tp_lev
      rw [e]
    rw [er]
    refine tm_compares_in_g (tpP_ar e w0) (fun M1 hx1 => ?_)
    by_cases hv : tp_lv (tp_lk f L s1.1) = nI 2
    · have hlt := tp_lv_lt (by omega) hv
      have oa : tpO L (dep + 1) (tp_adv s1) := tpO_at o1 (by omega) hlt
      have k1 := tp_lev_ok (f := f) hok 2 (tp_adv s1) (dep + 1) oa
      have w1 := hsub (tp_adv s1) (dep + 1) _ hx1.adv oa
      have er : tp_lp f L 2 (fun z => tp_lev f L one 2 z) (59 + 1) s1 = match tp_lev f L one 2 (tp_adv s1) with
        | .inl p => .inl p
        | .inr s2 => .inr (tp_psh s2 (tp_lk f L s1.1) 0) := by
        conv => lhs; unfold tp_lp
        rw [if_pos hv]
        split
        · rename_i q; rw [q]
        · rename_i q; rw [q]; exact if_pos rfl
      rw [er]
      rcases tp_lv_s.2.2.1 hv with hb | hb | hb
      · cases e1 : tp_lev f L one 2 (tp_adv s1) with
        | inl p => exact tm_compares_t60_f hx1 hle h60 hb (tpP_al e1 w1) (fun M1 hx1 => tpP_l rfl hx1)
        | inr s2 =>
          rw [e1] at k1
          have b1 := tpR_sg (by omega) hv h2 k1
          have hs : s2.2.1 + 1 ≤ s2.1 := b1.2.1
          have hs3 : s2.1 ≤ L := b1.1
          dsimp only
          rw [hb]
          exact tm_compares_t60_g hx1 hle h60 hb (tpP_ar e1 w1) (by omega) (fun M1 hx1 => tpP_r rfl hx1)
      · cases e1 : tp_lev f L one 2 (tp_adv s1) with
        | inl p => exact tm_compares_t61_f hx1 hle h60 hb (tpP_al e1 w1) (fun M1 hx1 => tpP_l rfl hx1)
        | inr s2 =>
          rw [e1] at k1
          have b1 := tpR_sg (by omega) hv h2 k1
          have hs : s2.2.1 + 1 ≤ s2.1 := b1.2.1
          have hs3 : s2.1 ≤ L := b1.1
          dsimp only
          rw [hb]
          exact tm_compares_t61_g hx1 hle h60 hb (tpP_ar e1 w1) (by omega) (fun M1 hx1 => tpP_r rfl hx1)
      · cases e1 : tp_lev f L one 2 (tp_adv s1) with
        | inl p => exact tm_compares_t62_f hx1 hle h60 hb (tpP_al e1 w1) (fun M1 hx1 => tpP_l rfl hx1)
        | inr s2 =>
          rw [e1] at k1
          have b1 := tpR_sg (by omega) hv h2 k1
          have hs : s2.2.1 + 1 ≤ s2.1 := b1.2.1
          have hs3 : s2.1 ≤ L := b1.1
          dsimp only
          rw [hb]
          exact tm_compares_t62_g hx1 hle h60 hb (tpP_ar e1 w1) (by omega) (fun M1 hx1 => tpP_r rfl hx1)
    · have er : tp_lp f L 2 (fun z => tp_lev f L one 2 z) (59 + 1) s1 = .inr s1 := by
        unfold tp_lp
        rw [if_neg hv]
      exact tm_compares_o hx1 hle h60 rfl (fun q => hv (by rw [q]; rfl)) (fun q => hv (by rw [q]; rfl)) (fun q => hv (by rw [q]; rfl)) (fun M1 hx1 => tpP_r er hx1)
theorem tm_lp_all {ro : xRO} {d T : Nat} {f : Nat → Int32} {L u o : Nat} {Mb : xM} (h60 : L ≤ 60) {sub : tpS → tpT} (hok : ∀ s dep, tpO L dep s → tpR L dep s (sub s)) (hsub : ∀ s dep M, tpM f L u Mb o s M → tpO L dep s → Rn ro (d + 3) M_X8_compares 0 [some (.ref 64), none] [] (mk M T) (tpP f L u Mb o T (sub s))) : ∀ (n : Nat) (s : tpS) (dep : Nat) (M : xM), L ≤ s.1 + n → tpM f L u Mb o s M → tpO L (dep + 1) s → Rn ro (d + 4) M_X8_all 4 [some (.ref 64)] [] (mk M T) (tpP f L u Mb o T (tp_lp f L 1 sub n s)) := by
  intro n
  induction n with
  | zero =>
    intro s dep M ht hx ho
    have hle := ho.1
    exact tm_all_o hx hle h60 (tp_lk_ge (by omega)) (by decide) (fun M1 hx1 => tpP_r rfl hx1)
  | succ n ih =>
    intro s dep M ht hx ho
    have hle := ho.1
    have h2 := ho.2.1
    by_cases hv : tp_lv (tp_lk f L s.1) = nI 1
    · have hlt := tp_lv_lt (by omega) hv
      have oa : tpO L (dep + 1) (tp_adv s) := tpO_at ho (by omega) hlt
      have k0 := hok (tp_adv s) (dep + 1) oa
      have w0 := hsub (tp_adv s) (dep + 1) _ hx.adv oa
      rcases tp_lv_s.2.1 hv with hb
      · have er : tp_lp f L 1 sub (n + 1) s = match sub (tp_adv s) with
          | .inl p => .inl p
          | .inr s1 => tp_lp f L 1 sub n (tp_psh s1 (tp_lk f L s.1) 0) := by
          conv => lhs; unfold tp_lp
          rw [if_pos hv]
          split
          · rename_i q; rw [q]
          · rename_i q; rw [q]; exact if_neg (by omega)
        rw [er]
        cases e : sub (tp_adv s) with
        | inl p => exact tm_all_t38_f hx hle h60 hb (tpP_al e w0) (fun M1 hx1 => tpP_l rfl hx1)
        | inr s1 =>
          rw [e] at k0
          have b1 := tpR_sg (by omega) hv h2 k0
          have hs : s1.2.1 + 1 ≤ s1.1 := b1.2.1
          have hs3 : s1.1 ≤ L := b1.1
          have hs4 : s.1 + 1 < s1.1 := k0.2.1
          rw [hb] at b1
          dsimp only
          rw [hb]
          exact tm_all_t38_g hx hle h60 hb (tpP_ar e w0) (by omega) (fun M1 hx1 => ih _ dep M1 (show L ≤ s1.1 + n by omega) hx1 b1)
    · have er : tp_lp f L 1 sub (n + 1) s = .inr s := by
        unfold tp_lp
        rw [if_neg hv]
      exact tm_all_o hx hle h60 rfl (fun q => hv (by rw [q]; rfl)) (fun M1 hx1 => tpP_r er hx1)
theorem tm_all {ro : xRO} {d T : Nat} {f : Nat → Int32} {L u o : Nat} {Mb : xM} (h60 : L ≤ 60) {one : tpS → tpT} (hok : ∀ s dep, tpO L dep s → tpR L dep s (one s)) (hsub : ∀ s dep M, tpM f L u Mb o s M → tpO L dep s → Rn ro (d + 3) M_X8_compares 0 [some (.ref 64), none] [] (mk M T) (tpP f L u Mb o T (tp_lev f L one 3 s))) (s : tpS) (dep : Nat) (M : xM) (hx : tpM f L u Mb o s M) (ho : tpO L dep s) : Rn ro (d + 4) M_X8_all 0 [some (.ref 64)] [] (mk M T) (tpP f L u Mb o T (tp_lev f L one (3 + 1) s)) := by
  have w0 := hsub s dep M hx ho
  have k0 := tp_lev_ok (f := f) hok 3 s dep ho
  cases e : tp_lev f L one 3 s with
  | inl p =>
    have er : tp_lev f L one (3 + 1) s = .inl p := by
      conv => lhs; unfold tp_lev
      rw [e]
    exact tm_all_in_f (f := f) (u := u) (o := o) (tpP_al e w0) (fun M1 hx1 => tpP_l er hx1)
  | inr s1 =>
    rw [e] at k0
    have er : tp_lev f L one (3 + 1) s = tp_lp f L 1 (fun z => tp_lev f L one 3 z) 60 s1 := by
      conv => lhs; unfold tp_lev
      rw [e]
    rw [er]
    exact tm_all_in_g (tpP_ar e w0) (fun M1 hx1 => tm_lp_all h60 (tp_lev_ok (f := f) hok 3) hsub 60 s1 dep M1 (by omega) hx1 k0.1)
theorem tm_lp_any {ro : xRO} {d T : Nat} {f : Nat → Int32} {L u o : Nat} {Mb : xM} (h60 : L ≤ 60) {sub : tpS → tpT} (hok : ∀ s dep, tpO L dep s → tpR L dep s (sub s)) (hsub : ∀ s dep M, tpM f L u Mb o s M → tpO L dep s → Rn ro (d + 3) M_X8_all 0 [some (.ref 64)] [] (mk M T) (tpP f L u Mb o T (sub s))) : ∀ (n : Nat) (s : tpS) (dep : Nat) (M : xM), L ≤ s.1 + n → tpM f L u Mb o s M → tpO L (dep + 1) s → Rn ro (d + 4) M_X8_any 4 [some (.ref 64)] [] (mk M T) (tpP f L u Mb o T (tp_lp f L 0 sub n s)) := by
  intro n
  induction n with
  | zero =>
    intro s dep M ht hx ho
    have hle := ho.1
    exact tm_any_o hx hle h60 (tp_lk_ge (by omega)) (by decide) (fun M1 hx1 => tpP_r rfl hx1)
  | succ n ih =>
    intro s dep M ht hx ho
    have hle := ho.1
    have h2 := ho.2.1
    by_cases hv : tp_lv (tp_lk f L s.1) = nI 0
    · have hlt := tp_lv_lt (by omega) hv
      have oa : tpO L (dep + 1) (tp_adv s) := tpO_at ho (by omega) hlt
      have k0 := hok (tp_adv s) (dep + 1) oa
      have w0 := hsub (tp_adv s) (dep + 1) _ hx.adv oa
      rcases tp_lv_s.1 hv with hb
      · have er : tp_lp f L 0 sub (n + 1) s = match sub (tp_adv s) with
          | .inl p => .inl p
          | .inr s1 => tp_lp f L 0 sub n (tp_psh s1 (tp_lk f L s.1) 0) := by
          conv => lhs; unfold tp_lp
          rw [if_pos hv]
          split
          · rename_i q; rw [q]
          · rename_i q; rw [q]; exact if_neg (by omega)
        rw [er]
        cases e : sub (tp_adv s) with
        | inl p => exact tm_any_t124_f hx hle h60 hb (tpP_al e w0) (fun M1 hx1 => tpP_l rfl hx1)
        | inr s1 =>
          rw [e] at k0
          have b1 := tpR_sg (by omega) hv h2 k0
          have hs : s1.2.1 + 1 ≤ s1.1 := b1.2.1
          have hs3 : s1.1 ≤ L := b1.1
          have hs4 : s.1 + 1 < s1.1 := k0.2.1
          rw [hb] at b1
          dsimp only
          rw [hb]
          exact tm_any_t124_g hx hle h60 hb (tpP_ar e w0) (by omega) (fun M1 hx1 => ih _ dep M1 (show L ≤ s1.1 + n by omega) hx1 b1)
    · have er : tp_lp f L 0 sub (n + 1) s = .inr s := by
        unfold tp_lp
        rw [if_neg hv]
      exact tm_any_o hx hle h60 rfl (fun q => hv (by rw [q]; rfl)) (fun M1 hx1 => tpP_r er hx1)
theorem tm_any {ro : xRO} {d T : Nat} {f : Nat → Int32} {L u o : Nat} {Mb : xM} (h60 : L ≤ 60) {one : tpS → tpT} (hok : ∀ s dep, tpO L dep s → tpR L dep s (one s)) (hsub : ∀ s dep M, tpM f L u Mb o s M → tpO L dep s → Rn ro (d + 3) M_X8_all 0 [some (.ref 64)] [] (mk M T) (tpP f L u Mb o T (tp_lev f L one 4 s))) (s : tpS) (dep : Nat) (M : xM) (hx : tpM f L u Mb o s M) (ho : tpO L dep s) : Rn ro (d + 4) M_X8_any 0 [some (.ref 64)] [] (mk M T) (tpP f L u Mb o T (tp_lev f L one (4 + 1) s)) := by
  have w0 := hsub s dep M hx ho
  have k0 := tp_lev_ok (f := f) hok 4 s dep ho
  cases e : tp_lev f L one 4 s with
  | inl p =>
    have er : tp_lev f L one (4 + 1) s = .inl p := by
      conv => lhs; unfold tp_lev
      rw [e]
    exact tm_any_in_f (f := f) (u := u) (o := o) (tpP_al e w0) (fun M1 hx1 => tpP_l er hx1)
  | inr s1 =>
    rw [e] at k0
    have er : tp_lev f L one (4 + 1) s = tp_lp f L 0 (fun z => tp_lev f L one 4 z) 60 s1 := by
      conv => lhs; unfold tp_lev
      rw [e]
    rw [er]
    exact tm_any_in_g (tpP_ar e w0) (fun M1 hx1 => tm_lp_any h60 (tp_lev_ok (f := f) hok 4) hsub 60 s1 dep M1 (by omega) hx1 k0.1)
/-- any over one -/
theorem tm_lev {ro : xRO} {d T : Nat} {f : Nat → Int32} {L u o : Nat} {Mb : xM} (h60 : L ≤ 60) {one : tpS → tpT} (hok : ∀ s dep, tpO L dep s → tpR L dep s (one s)) (hone : ∀ s dep M, tpM f L u Mb o s M → tpO L dep s → Rn ro (d + 3) M_X8_one 0 [some (.ref 64), none, none] [] (mk M T) (tpP f L u Mb o T (one s))) (s : tpS) (dep : Nat) (M : xM) (hx : tpM f L u Mb o s M) (ho : tpO L dep s) : Rn ro (d + 8) M_X8_any 0 [some (.ref 64)] [] (mk M T) (tpP f L u Mb o T (tp_lev f L one 5 s)) :=
  tm_any (d := d + 4) h60 hok (fun s dep M hx ho => tm_all (d := d + 3) h60 hok (fun s dep M hx ho => tm_compares (d := d + 2) h60 hok (fun s dep M hx ho => tm_sum (d := d + 1) h60 hok (fun s dep M hx ho => tm_times (d := d) h60 hok (fun s dep M hx ho => hone s dep M hx ho) s dep M hx ho) s dep M hx ho) s dep M hx ho) s dep M hx ho) s dep M hx ho
theorem tp_nm_dg {u : Nat} {b : Int32} (h : 48 ≤ b ∧ b ≤ 57) : tp_nm u b < 0 ∧ ¬ b = 33 ∧ ¬ b = 40 := by
  have e : ∀ x : Int32, ¬ (48 ≤ x ∧ x ≤ 57) → ¬ b = x := fun x hx q => hx (by rw [← q]; exact h)
  refine ⟨?_, e 33 (by decide), e 40 (by decide)⟩
  unfold tp_nm tp_nm0 tp_nm1
  rw [if_neg (e 102 (by decide)), if_neg (e 107 (by decide)), if_neg (e 115 (by decide)), if_neg (e 104 (by decide)), if_neg (e 114 (by decide)), if_neg (e 119 (by decide))]
  split <;> decide
theorem tm_one {ro : xRO} {T : Nat} {f : Nat → Int32} {L u : Nat} {Mb : xM} (h60 : L ≤ 60) (u1 : u ≤ 1) : ∀ (O d o : Nat) (s : tpS) (dep : Nat) (M : xM), o + O = 5 → tpM f L u Mb o s M → tpO L dep s → Rn ro (d + 12 * O + 8) M_X8_one 0 [some (.ref 64), none, none] [] (mk M T) (tpP f L u Mb o T (tp_one f L u O s)) := by
  intro O
  have base : ∀ {D d o : Nat} {s : tpS} {dep : Nat} {M : xM} {k : tpT}, D = d + 4 → tpM f L u Mb o s M → tpO L dep s → (tp_lk f L s.1 = 33 → ¬ 0 ≤ tp_nm u (tp_lk f L s.1) → Rn ro (d + 3) M_X8_opens 0 [some (.ref 64), some (.int 33)] [] (mk M T) (tpP f L u Mb o T k)) → (tp_lk f L s.1 = 40 → ¬ 0 ≤ tp_nm u (tp_lk f L s.1) → Rn ro (d + 3) M_X8_opens 0 [some (.ref 64), some (.int 40)] [] (mk M T) (tpP f L u Mb o T k)) → (¬ tp_lk f L s.1 = 33 → ¬ tp_lk f L s.1 = 40 → k = .inl s.1) → Rn ro D M_X8_one 0 [some (.ref 64), none, none] [] (mk M T) (tpP f L u Mb o T (tp_at f L u s k)) := by
    intro D d o s dep M k hD hx ho k33 k40 kn
    subst hD
    have hle := ho.1
    have h2 := ho.2.1
    unfold tp_at
    by_cases hd : 48 ≤ tp_lk f L s.1 ∧ tp_lk f L s.1 ≤ 57
    · rw [if_pos hd]
      have hlt := tp_dg_lt hd
      have g := tp_nm_dg (u := u) hd
      exact tm_on_num hx hle h60 rfl u1 g.1 g.2.1 g.2.2 (tm_number hx hle h60 (by omega) hd) (fun M1 hx1 => tpP_r rfl hx1)
    · rw [if_neg hd]
      by_cases hn : 0 ≤ tp_nm u (tp_lk f L s.1)
      · rw [if_pos hn]
        have hlt := tp_nm_lt hn
        exact tm_on_nam hx hle h60 rfl u1 hn (by omega) (fun M1 hx1 => tpP_r rfl hx1)
      · rw [if_neg hn]
        by_cases q33 : tp_lk f L s.1 = 33
        · exact tm_on_33 hx hle h60 q33 u1 (k33 q33 hn) (fun M1 hx1 => ⟨M1, hx1, rfl, rfl⟩)
        · by_cases q40 : tp_lk f L s.1 = 40
          · exact tm_on_40 hx hle h60 q40 u1 (k40 q40 hn) (fun M1 hx1 => ⟨M1, hx1, rfl, rfl⟩)
          · rw [kn q33 q40]
            exact tm_on_num hx hle h60 rfl u1 (by grind) q33 q40 (tm_num_0 hx hle h60 rfl hd (by omega) (fun M1 hx1 => ⟨M1, hx1, rfl, rfl⟩)) (fun M1 hx1 => tpP_l rfl hx1)
  induction O with
  | zero =>
    intro d o s dep M hop hx ho
    obtain rfl : o = 5 := by omega
    have h2 := ho.2.1
    have h1 := ho.1
    rw [tp_one_0]
    exact base (d := d + 4) (by omega) hx ho (fun q hn => tm_op_5 (d := d + 3) hx (by omega) (fun M1 hx1 => tpP_l rfl hx1)) (fun q hn => tm_op_5 (d := d + 3) hx (by omega) (fun M1 hx1 => tpP_l rfl hx1)) (fun _ _ => rfl)
  | succ O ih =>
    intro d o s dep M hop hx ho
    have h1 := ho.1
    have h2 := ho.2.1
    rw [tp_one_s]
    refine base (d := d + 12 * (O + 1) + 4) rfl hx ho (fun q33 hn => ?_) (fun q40 hn => ?_) (fun q33 q40 => ?_)
    · rw [if_pos q33]
      have hlt : s.1 < L := tp_lk_lt (fun q => by rw [q] at q33; exact absurd q33 (by decide))
      have oa : tpO L dep (tp_adv s) := tpO_at ho (by omega) hlt
      have w0 := ih (d + 10) (o + 1) (tp_adv s) dep _ (by omega) hx.opn.adv oa
      have k0 := tp_one_ok (f := f) (u := u) O (tp_adv s) dep oa
      rw [show d + 10 + 12 * O + 8 = d + 12 * O + 15 + 3 by omega] at w0
      rw [show d + 12 * (O + 1) + 4 + 3 = d + 12 * O + 15 + 4 by omega]
      cases e : tp_one f L u O (tp_adv s) with
      | inl p => exact tm_op_not_f hx h1 h60 (by omega) (tpP_al e w0) (fun M1 hx1 => tpP_l rfl hx1)
      | inr s1 =>
        rw [e] at k0
        obtain ⟨a1, a2, a3⟩ := k0
        have a3' : s1.2.1 + (s.1 + 1) ≤ s1.1 + s.2.1 := a3
        have a4 := a1.1
        exact tm_op_not_g hx h1 h60 (by omega) (tpP_ar e w0) (by omega) (fun M1 hx1 => tpP_r rfl hx1)
    · rw [if_neg (fun q => by rw [q] at q40; exact absurd q40 (by decide)), if_pos q40]
      have hlt : s.1 < L := tp_lk_lt (fun q => by rw [q] at q40; exact absurd q40 (by decide))
      have oa : tpO L dep (tp_adv s) := tpO_at ho (by omega) hlt
      have w0 := tm_lev (ro := ro) (d := d + 12 * O + 10) (T := T) h60 (tp_one_ok (f := f) (u := u) O) (fun s dep M hx ho => by
        have w := ih (d + 5) (o + 1) s dep M (by omega) hx ho
        rw [show d + 5 + 12 * O + 8 = d + 12 * O + 10 + 3 by omega] at w
        exact w) (tp_adv s) dep _ hx.opn.adv oa
      have k0 := tp_lev_ok (f := f) (tp_one_ok (f := f) (u := u) O) 5 (tp_adv s) dep oa
      rw [show d + 12 * O + 10 + 8 = d + 12 * O + 15 + 3 by omega] at w0
      rw [show d + 12 * (O + 1) + 4 + 3 = d + 12 * O + 15 + 4 by omega]
      cases e : tp_lev f L (tp_one f L u O) 5 (tp_adv s) with
      | inl p => exact tm_op_par_f hx h1 h60 (by omega) (tpP_al e w0) (fun M1 hx1 => tpP_l rfl hx1)
      | inr s1 =>
        rw [e] at k0
        obtain ⟨a1, a2, a3⟩ := k0
        have a3' : s1.2.1 + (s.1 + 1) ≤ s1.1 + s.2.1 := a3
        have a4 := a1.1
        unfold tp_par
        dsimp only
        by_cases q41 : tp_lk f L s1.1 = 41
        · rw [if_pos q41]
          exact tm_op_par_g hx h1 h60 (by omega) (tpP_ar e w0) a4 q41 (fun M1 hx1 => tpP_r rfl hx1)
        · rw [if_neg q41]
          exact tm_op_par_n hx h1 h60 (by omega) (tpP_ar e w0) a4 (by omega) q41 (fun M1 hx1 => tpP_l rfl hx1)
    · rw [if_neg q33, if_neg q40]
