/-! THE LAW: its loop -/
theorem lw_lt {L i : Nat} (hL : L ≤ 3072) (hi : i ≤ L) : (nI L) - 6 < (nI i) ↔ L < i + 6 := by
  rw [Int32.lt_iff_toInt_lt, show (6 : Int32) = nI 6 from rfl, pk_sub_toInt (by omega) (by omega), nI_toInt (by omega)]
  omega
set_option maxRecDepth 100000 in
set_option maxHeartbeats 4000000 in
theorem lw_hd_out {L : Nat} {xs : Nat → Int32} (hL : L ≤ 3072) {d : Nat} {M : xM} {T : Nat} {Q : Option Value → xH → Prop} {i : Nat} (hi : i ≤ L) (hx : L < i + 6) (k1 : Q (some (.int 1)) (mk M T)) : Rn (roS L xs) (d + 91) M_L_law 18 [some (.ref 0), some (.ref 3), some (.ref 64), some (.int (nI i))] [] (mk M T) Q := by
  refine R_if 6 (c := ((nI L) - 6) < (nI i)) (t := 1373) (f := 27) (L' := [some (.ref 0), some (.ref 3), some (.ref 64), some (.int (nI i))]) (st' := []) (h' := mk M T) (fun _ => rfl) (fun g1 => ?_) (fun g1 => ?_)
  · refine R_ret 2 (pcr := 1374) (v := some (.int 1)) (h' := mk M T) (fun _ => rfl) ?_
    exact k1
  · exact absurd ((lw_lt hL hi).mpr hx) g1
set_option maxRecDepth 100000 in
set_option maxHeartbeats 4000000 in
theorem lw_hd_in {L : Nat} {xs : Nat → Int32} (hL : L ≤ 3072) {d : Nat} {M : xM} {T : Nat} {Q : Option Value → xH → Prop} {i : Nat} (hi : i + 6 ≤ L) (k1 : Rn (roS L xs) (d + 91) M_L_law 33 [some (.ref 0), some (.ref 3), some (.ref 64), some (.int (nI i))] [.int (xs i &&& 63)] (mk M T) Q) : Rn (roS L xs) (d + 91) M_L_law 18 [some (.ref 0), some (.ref 3), some (.ref 64), some (.int (nI i))] [] (mk M T) Q := by
  refine R_if 6 (c := ((nI L) - 6) < (nI i)) (t := 1373) (f := 27) (L' := [some (.ref 0), some (.ref 3), some (.ref 64), some (.int (nI i))]) (st' := []) (h' := mk M T) (fun _ => rfl) (fun g1 => ?_) (fun g1 => ?_)
  · exact absurd g1 (fun q => absurd ((lw_lt hL (by omega)).mp q) (by omega))
  · refine R_go 2 (pc' := 29) (L' := [some (.ref 0), some (.ref 3), some (.ref 64), some (.int (nI i))]) (st' := [.int (nI i), .ref 0]) (h' := mk M T) (fun _ => rfl) ?_
    refine R_ialdO (a := 0) (n := L) (f := xs) (j := i) rfl rfl (by omega) (by omega) ?_
    refine R_go 2 (pc' := 33) (L' := [some (.ref 0), some (.ref 3), some (.ref 64), some (.int (nI i))]) (st' := [.int ((xs i) &&& 63)]) (h' := mk M T) (fun _ => rfl) ?_
    exact k1
set_option maxRecDepth 100000 in
set_option maxHeartbeats 4000000 in
theorem lw_sw {L : Nat} {xs : Nat → Int32} (hL : L ≤ 3072) {d : Nat} {M : xM} {T : Nat} {Q : Option Value → xH → Prop} {i : Nat} {x : Int32} (k0 : Rn (roS L xs) (d + 91) M_L_law 196 [some (.ref 0), some (.ref 3), some (.ref 64), some (.int (nI i))] [] (mk M T) Q) (k1 : Rn (roS L xs) (d + 91) M_L_law 209 [some (.ref 0), some (.ref 3), some (.ref 64), some (.int (nI i))] [] (mk M T) Q) (k2 : Rn (roS L xs) (d + 91) M_L_law 272 [some (.ref 0), some (.ref 3), some (.ref 64), some (.int (nI i))] [] (mk M T) Q) (k3 : Rn (roS L xs) (d + 91) M_L_law 305 [some (.ref 0), some (.ref 3), some (.ref 64), some (.int (nI i))] [] (mk M T) Q) (k4 : Rn (roS L xs) (d + 91) M_L_law 338 [some (.ref 0), some (.ref 3), some (.ref 64), some (.int (nI i))] [] (mk M T) Q) (k5 : Rn (roS L xs) (d + 91) M_L_law 371 [some (.ref 0), some (.ref 3), some (.ref 64), some (.int (nI i))] [] (mk M T) Q) (k6 : Rn (roS L xs) (d + 91) M_L_law 404 [some (.ref 0), some (.ref 3), some (.ref 64), some (.int (nI i))] [] (mk M T) Q) (k7 : Rn (roS L xs) (d + 91) M_L_law 437 [some (.ref 0), some (.ref 3), some (.ref 64), some (.int (nI i))] [] (mk M T) Q) (k8 : Rn (roS L xs) (d + 91) M_L_law 460 [some (.ref 0), some (.ref 3), some (.ref 64), some (.int (nI i))] [] (mk M T) Q) (k9 : Rn (roS L xs) (d + 91) M_L_law 493 [some (.ref 0), some (.ref 3), some (.ref 64), some (.int (nI i))] [] (mk M T) Q) (k10 : Rn (roS L xs) (d + 91) M_L_law 556 [some (.ref 0), some (.ref 3), some (.ref 64), some (.int (nI i))] [] (mk M T) Q) (k11 : Rn (roS L xs) (d + 91) M_L_law 579 [some (.ref 0), some (.ref 3), some (.ref 64), some (.int (nI i))] [] (mk M T) Q) (k12 : Rn (roS L xs) (d + 91) M_L_law 602 [some (.ref 0), some (.ref 3), some (.ref 64), some (.int (nI i))] [] (mk M T) Q) (k13 : Rn (roS L xs) (d + 91) M_L_law 655 [some (.ref 0), some (.ref 3), some (.ref 64), some (.int (nI i))] [] (mk M T) Q) (k14 : Rn (roS L xs) (d + 91) M_L_law 678 [some (.ref 0), some (.ref 3), some (.ref 64), some (.int (nI i))] [] (mk M T) Q) (k15 : Rn (roS L xs) (d + 91) M_L_law 701 [some (.ref 0), some (.ref 3), some (.ref 64), some (.int (nI i))] [] (mk M T) Q) (k16 : Rn (roS L xs) (d + 91) M_L_law 724 [some (.ref 0), some (.ref 3), some (.ref 64), some (.int (nI i))] [] (mk M T) Q) (k17 : Rn (roS L xs) (d + 91) M_L_law 747 [some (.ref 0), some (.ref 3), some (.ref 64), some (.int (nI i))] [] (mk M T) Q) (k18 : Rn (roS L xs) (d + 91) M_L_law 780 [some (.ref 0), some (.ref 3), some (.ref 64), some (.int (nI i))] [] (mk M T) Q) (k19 : Rn (roS L xs) (d + 91) M_L_law 803 [some (.ref 0), some (.ref 3), some (.ref 64), some (.int (nI i))] [] (mk M T) Q) (k20 : Rn (roS L xs) (d + 91) M_L_law 826 [some (.ref 0), some (.ref 3), some (.ref 64), some (.int (nI i))] [] (mk M T) Q) (k21 : Rn (roS L xs) (d + 91) M_L_law 859 [some (.ref 0), some (.ref 3), some (.ref 64), some (.int (nI i))] [] (mk M T) Q) (k22 : Rn (roS L xs) (d + 91) M_L_law 902 [some (.ref 0), some (.ref 3), some (.ref 64), some (.int (nI i))] [] (mk M T) Q) (k23 : Rn (roS L xs) (d + 91) M_L_law 955 [some (.ref 0), some (.ref 3), some (.ref 64), some (.int (nI i))] [] (mk M T) Q) (k24 : Rn (roS L xs) (d + 91) M_L_law 998 [some (.ref 0), some (.ref 3), some (.ref 64), some (.int (nI i))] [] (mk M T) Q) (k25 : Rn (roS L xs) (d + 91) M_L_law 1041 [some (.ref 0), some (.ref 3), some (.ref 64), some (.int (nI i))] [] (mk M T) Q) (k26 : Rn (roS L xs) (d + 91) M_L_law 1064 [some (.ref 0), some (.ref 3), some (.ref 64), some (.int (nI i))] [] (mk M T) Q) (k27 : Rn (roS L xs) (d + 91) M_L_law 1107 [some (.ref 0), some (.ref 3), some (.ref 64), some (.int (nI i))] [] (mk M T) Q) (k28 : Rn (roS L xs) (d + 91) M_L_law 1150 [some (.ref 0), some (.ref 3), some (.ref 64), some (.int (nI i))] [] (mk M T) Q) (k29 : Rn (roS L xs) (d + 91) M_L_law 1213 [some (.ref 0), some (.ref 3), some (.ref 64), some (.int (nI i))] [] (mk M T) Q) (k30 : Rn (roS L xs) (d + 91) M_L_law 1236 [some (.ref 0), some (.ref 3), some (.ref 64), some (.int (nI i))] [] (mk M T) Q) (k31 : Rn (roS L xs) (d + 91) M_L_law 1259 [some (.ref 0), some (.ref 3), some (.ref 64), some (.int (nI i))] [] (mk M T) Q) (k32 : Rn (roS L xs) (d + 91) M_L_law 1272 [some (.ref 0), some (.ref 3), some (.ref 64), some (.int (nI i))] [] (mk M T) Q) (k33 : Rn (roS L xs) (d + 91) M_L_law 1285 [some (.ref 0), some (.ref 3), some (.ref 64), some (.int (nI i))] [] (mk M T) Q) (k34 : Rn (roS L xs) (d + 91) M_L_law 1308 [some (.ref 0), some (.ref 3), some (.ref 64), some (.int (nI i))] [] (mk M T) Q) (k35 : Rn (roS L xs) (d + 91) M_L_law 1321 [some (.ref 0), some (.ref 3), some (.ref 64), some (.int (nI i))] [] (mk M T) Q) (k36 : Rn (roS L xs) (d + 91) M_L_law 1344 [some (.ref 0), some (.ref 3), some (.ref 64), some (.int (nI i))] [] (mk M T) Q) (kd : Rn (roS L xs) (d + 91) M_L_law 1367 [some (.ref 0), some (.ref 3), some (.ref 64), some (.int (nI i))] [] (mk M T) Q) : Rn (roS L xs) (d + 91) M_L_law 33 [some (.ref 0), some (.ref 3), some (.ref 64), some (.int (nI i))] [.int x] (mk M T) Q := by
  rcases Decidable.em (x = 0) with g1 | g1
  · refine R_top g1 ?_
    refine R_go 1 (pc' := 196) (L' := [some (.ref 0), some (.ref 3), some (.ref 64), some (.int (nI i))]) (st' := []) (h' := mk M T) (fun _ => rfl) ?_
    exact k0
  rcases Decidable.em (x = 1) with g2 | g2
  · refine R_top g2 ?_
    refine R_go 1 (pc' := 209) (L' := [some (.ref 0), some (.ref 3), some (.ref 64), some (.int (nI i))]) (st' := []) (h' := mk M T) (fun _ => rfl) ?_
    exact k1
  rcases Decidable.em (x = 2) with g3 | g3
  · refine R_top g3 ?_
    refine R_go 1 (pc' := 272) (L' := [some (.ref 0), some (.ref 3), some (.ref 64), some (.int (nI i))]) (st' := []) (h' := mk M T) (fun _ => rfl) ?_
    exact k2
  rcases Decidable.em (x = 3) with g4 | g4
  · refine R_top g4 ?_
    refine R_go 1 (pc' := 305) (L' := [some (.ref 0), some (.ref 3), some (.ref 64), some (.int (nI i))]) (st' := []) (h' := mk M T) (fun _ => rfl) ?_
    exact k3
  rcases Decidable.em (x = 4) with g5 | g5
  · refine R_top g5 ?_
    refine R_go 1 (pc' := 338) (L' := [some (.ref 0), some (.ref 3), some (.ref 64), some (.int (nI i))]) (st' := []) (h' := mk M T) (fun _ => rfl) ?_
    exact k4
  rcases Decidable.em (x = 5) with g6 | g6
  · refine R_top g6 ?_
    refine R_go 1 (pc' := 371) (L' := [some (.ref 0), some (.ref 3), some (.ref 64), some (.int (nI i))]) (st' := []) (h' := mk M T) (fun _ => rfl) ?_
    exact k5
  rcases Decidable.em (x = 6) with g7 | g7
  · refine R_top g7 ?_
    refine R_go 1 (pc' := 404) (L' := [some (.ref 0), some (.ref 3), some (.ref 64), some (.int (nI i))]) (st' := []) (h' := mk M T) (fun _ => rfl) ?_
    exact k6
  rcases Decidable.em (x = 7) with g8 | g8
  · refine R_top g8 ?_
    refine R_go 1 (pc' := 437) (L' := [some (.ref 0), some (.ref 3), some (.ref 64), some (.int (nI i))]) (st' := []) (h' := mk M T) (fun _ => rfl) ?_
    exact k7
  rcases Decidable.em (x = 8) with g9 | g9
  · refine R_top g9 ?_
    refine R_go 1 (pc' := 460) (L' := [some (.ref 0), some (.ref 3), some (.ref 64), some (.int (nI i))]) (st' := []) (h' := mk M T) (fun _ => rfl) ?_
    exact k8
  rcases Decidable.em (x = 9) with g10 | g10
  · refine R_top g10 ?_
    refine R_go 1 (pc' := 493) (L' := [some (.ref 0), some (.ref 3), some (.ref 64), some (.int (nI i))]) (st' := []) (h' := mk M T) (fun _ => rfl) ?_
    exact k9
  rcases Decidable.em (x = 10) with g11 | g11
  · refine R_top g11 ?_
    refine R_go 1 (pc' := 556) (L' := [some (.ref 0), some (.ref 3), some (.ref 64), some (.int (nI i))]) (st' := []) (h' := mk M T) (fun _ => rfl) ?_
    exact k10
  rcases Decidable.em (x = 11) with g12 | g12
  · refine R_top g12 ?_
    refine R_go 1 (pc' := 579) (L' := [some (.ref 0), some (.ref 3), some (.ref 64), some (.int (nI i))]) (st' := []) (h' := mk M T) (fun _ => rfl) ?_
    exact k11
  rcases Decidable.em (x = 12) with g13 | g13
  · refine R_top g13 ?_
    refine R_go 1 (pc' := 602) (L' := [some (.ref 0), some (.ref 3), some (.ref 64), some (.int (nI i))]) (st' := []) (h' := mk M T) (fun _ => rfl) ?_
    exact k12
  rcases Decidable.em (x = 13) with g14 | g14
  · refine R_top g14 ?_
    refine R_go 1 (pc' := 655) (L' := [some (.ref 0), some (.ref 3), some (.ref 64), some (.int (nI i))]) (st' := []) (h' := mk M T) (fun _ => rfl) ?_
    exact k13
  rcases Decidable.em (x = 14) with g15 | g15
  · refine R_top g15 ?_
    refine R_go 1 (pc' := 678) (L' := [some (.ref 0), some (.ref 3), some (.ref 64), some (.int (nI i))]) (st' := []) (h' := mk M T) (fun _ => rfl) ?_
    exact k14
  rcases Decidable.em (x = 15) with g16 | g16
  · refine R_top g16 ?_
    refine R_go 1 (pc' := 701) (L' := [some (.ref 0), some (.ref 3), some (.ref 64), some (.int (nI i))]) (st' := []) (h' := mk M T) (fun _ => rfl) ?_
    exact k15
  rcases Decidable.em (x = 16) with g17 | g17
  · refine R_top g17 ?_
    refine R_go 1 (pc' := 724) (L' := [some (.ref 0), some (.ref 3), some (.ref 64), some (.int (nI i))]) (st' := []) (h' := mk M T) (fun _ => rfl) ?_
    exact k16
  rcases Decidable.em (x = 17) with g18 | g18
  · refine R_top g18 ?_
    refine R_go 1 (pc' := 747) (L' := [some (.ref 0), some (.ref 3), some (.ref 64), some (.int (nI i))]) (st' := []) (h' := mk M T) (fun _ => rfl) ?_
    exact k17
  rcases Decidable.em (x = 18) with g19 | g19
  · refine R_top g19 ?_
    refine R_go 1 (pc' := 780) (L' := [some (.ref 0), some (.ref 3), some (.ref 64), some (.int (nI i))]) (st' := []) (h' := mk M T) (fun _ => rfl) ?_
    exact k18
  rcases Decidable.em (x = 19) with g20 | g20
  · refine R_top g20 ?_
    refine R_go 1 (pc' := 803) (L' := [some (.ref 0), some (.ref 3), some (.ref 64), some (.int (nI i))]) (st' := []) (h' := mk M T) (fun _ => rfl) ?_
    exact k19
  rcases Decidable.em (x = 20) with g21 | g21
  · refine R_top g21 ?_
    refine R_go 1 (pc' := 826) (L' := [some (.ref 0), some (.ref 3), some (.ref 64), some (.int (nI i))]) (st' := []) (h' := mk M T) (fun _ => rfl) ?_
    exact k20
  rcases Decidable.em (x = 21) with g22 | g22
  · refine R_top g22 ?_
    refine R_go 1 (pc' := 859) (L' := [some (.ref 0), some (.ref 3), some (.ref 64), some (.int (nI i))]) (st' := []) (h' := mk M T) (fun _ => rfl) ?_
    exact k21
  rcases Decidable.em (x = 22) with g23 | g23
  · refine R_top g23 ?_
    refine R_go 1 (pc' := 902) (L' := [some (.ref 0), some (.ref 3), some (.ref 64), some (.int (nI i))]) (st' := []) (h' := mk M T) (fun _ => rfl) ?_
    exact k22
  rcases Decidable.em (x = 23) with g24 | g24
  · refine R_top g24 ?_
    refine R_go 1 (pc' := 955) (L' := [some (.ref 0), some (.ref 3), some (.ref 64), some (.int (nI i))]) (st' := []) (h' := mk M T) (fun _ => rfl) ?_
    exact k23
  rcases Decidable.em (x = 24) with g25 | g25
  · refine R_top g25 ?_
    refine R_go 1 (pc' := 998) (L' := [some (.ref 0), some (.ref 3), some (.ref 64), some (.int (nI i))]) (st' := []) (h' := mk M T) (fun _ => rfl) ?_
    exact k24
  rcases Decidable.em (x = 25) with g26 | g26
  · refine R_top g26 ?_
    refine R_go 1 (pc' := 1041) (L' := [some (.ref 0), some (.ref 3), some (.ref 64), some (.int (nI i))]) (st' := []) (h' := mk M T) (fun _ => rfl) ?_
    exact k25
  rcases Decidable.em (x = 26) with g27 | g27
  · refine R_top g27 ?_
    refine R_go 1 (pc' := 1064) (L' := [some (.ref 0), some (.ref 3), some (.ref 64), some (.int (nI i))]) (st' := []) (h' := mk M T) (fun _ => rfl) ?_
    exact k26
  rcases Decidable.em (x = 27) with g28 | g28
  · refine R_top g28 ?_
    refine R_go 1 (pc' := 1107) (L' := [some (.ref 0), some (.ref 3), some (.ref 64), some (.int (nI i))]) (st' := []) (h' := mk M T) (fun _ => rfl) ?_
    exact k27
  rcases Decidable.em (x = 28) with g29 | g29
  · refine R_top g29 ?_
    refine R_go 1 (pc' := 1150) (L' := [some (.ref 0), some (.ref 3), some (.ref 64), some (.int (nI i))]) (st' := []) (h' := mk M T) (fun _ => rfl) ?_
    exact k28
  rcases Decidable.em (x = 29) with g30 | g30
  · refine R_top g30 ?_
    refine R_go 1 (pc' := 1213) (L' := [some (.ref 0), some (.ref 3), some (.ref 64), some (.int (nI i))]) (st' := []) (h' := mk M T) (fun _ => rfl) ?_
    exact k29
  rcases Decidable.em (x = 30) with g31 | g31
  · refine R_top g31 ?_
    refine R_go 1 (pc' := 1236) (L' := [some (.ref 0), some (.ref 3), some (.ref 64), some (.int (nI i))]) (st' := []) (h' := mk M T) (fun _ => rfl) ?_
    exact k30
  rcases Decidable.em (x = 31) with g32 | g32
  · refine R_top g32 ?_
    refine R_go 1 (pc' := 1259) (L' := [some (.ref 0), some (.ref 3), some (.ref 64), some (.int (nI i))]) (st' := []) (h' := mk M T) (fun _ => rfl) ?_
    exact k31
  rcases Decidable.em (x = 32) with g33 | g33
  · refine R_top g33 ?_
    refine R_go 1 (pc' := 1272) (L' := [some (.ref 0), some (.ref 3), some (.ref 64), some (.int (nI i))]) (st' := []) (h' := mk M T) (fun _ => rfl) ?_
    exact k32
  rcases Decidable.em (x = 33) with g34 | g34
  · refine R_top g34 ?_
    refine R_go 1 (pc' := 1285) (L' := [some (.ref 0), some (.ref 3), some (.ref 64), some (.int (nI i))]) (st' := []) (h' := mk M T) (fun _ => rfl) ?_
    exact k33
  rcases Decidable.em (x = 34) with g35 | g35
  · refine R_top g35 ?_
    refine R_go 1 (pc' := 1308) (L' := [some (.ref 0), some (.ref 3), some (.ref 64), some (.int (nI i))]) (st' := []) (h' := mk M T) (fun _ => rfl) ?_
    exact k34
  rcases Decidable.em (x = 35) with g36 | g36
  · refine R_top g36 ?_
    refine R_go 1 (pc' := 1321) (L' := [some (.ref 0), some (.ref 3), some (.ref 64), some (.int (nI i))]) (st' := []) (h' := mk M T) (fun _ => rfl) ?_
    exact k35
  rcases Decidable.em (x = 36) with g37 | g37
  · refine R_top g37 ?_
    refine R_go 1 (pc' := 1344) (L' := [some (.ref 0), some (.ref 3), some (.ref 64), some (.int (nI i))]) (st' := []) (h' := mk M T) (fun _ => rfl) ?_
    exact k36
  refine R_tswd (t := 1367) rfl (by have := lv_neT g1 (a := 0) rfl; have := lv_neT g2 (a := 1) rfl; have := lv_neT g3 (a := 2) rfl; have := lv_neT g4 (a := 3) rfl; have := lv_neT g5 (a := 4) rfl; have := lv_neT g6 (a := 5) rfl; have := lv_neT g7 (a := 6) rfl; have := lv_neT g8 (a := 7) rfl; have := lv_neT g9 (a := 8) rfl; have := lv_neT g10 (a := 9) rfl; have := lv_neT g11 (a := 10) rfl; have := lv_neT g12 (a := 11) rfl; have := lv_neT g13 (a := 12) rfl; have := lv_neT g14 (a := 13) rfl; have := lv_neT g15 (a := 14) rfl; have := lv_neT g16 (a := 15) rfl; have := lv_neT g17 (a := 16) rfl; have := lv_neT g18 (a := 17) rfl; have := lv_neT g19 (a := 18) rfl; have := lv_neT g20 (a := 19) rfl; have := lv_neT g21 (a := 20) rfl; have := lv_neT g22 (a := 21) rfl; have := lv_neT g23 (a := 22) rfl; have := lv_neT g24 (a := 23) rfl; have := lv_neT g25 (a := 24) rfl; have := lv_neT g26 (a := 25) rfl; have := lv_neT g27 (a := 26) rfl; have := lv_neT g28 (a := 27) rfl; have := lv_neT g29 (a := 28) rfl; have := lv_neT g30 (a := 29) rfl; have := lv_neT g31 (a := 30) rfl; have := lv_neT g32 (a := 31) rfl; have := lv_neT g33 (a := 32) rfl; have := lv_neT g34 (a := 33) rfl; have := lv_neT g35 (a := 34) rfl; have := lv_neT g36 (a := 35) rfl; have := lv_neT g37 (a := 36) rfl; omega) rfl ?_
  exact kd
set_option maxRecDepth 100000 in
set_option maxHeartbeats 4000000 in
theorem lw_nx {L : Nat} {xs : Nat → Int32} (hL : L ≤ 3072) {d : Nat} {M : xM} {T : Nat} {Q : Option Value → xH → Prop} {i : Nat} (k1 : Rn (roS L xs) (d + 91) M_L_law 18 [some (.ref 0), some (.ref 3), some (.ref 64), some (.int (nI (i + 6)))] [] (mk M T) Q) : Rn (roS L xs) (d + 91) M_L_law 1367 [some (.ref 0), some (.ref 3), some (.ref 64), some (.int (nI i))] [] (mk M T) Q := by
  refine R_go 2 (pc' := 18) (L' := [some (.ref 0), some (.ref 3), some (.ref 64), some (.int ((nI i) + 6))]) (st' := []) (h' := mk M T) (fun _ => rfl) ?_
  rw [show nI i + 6 = nI (i + 6) from nI_add i 6]
  exact k1
theorem lw_loop {L : Nat} {xs : Nat → Int32} (hL : L ≤ 3072) {d : Nat} : ∀ (k i : Nat) (M : xM) (T : Nat), i ≤ L → L < i + 6 * k + 6 → Rel M → Rn (roS L xs) (d + 91) M_L_law 18 [some (.ref 0), some (.ref 3), some (.ref 64), some (.int (nI i))] [] (mk M T) (fun r _ => r = some (.int 1)) := by
  intro k
  induction k with
  | zero => intro i M T hi hk h; exact lw_hd_out hL hi (by omega) rfl
  | succ k ih =>
    intro i M T hi hk h
    rcases Nat.lt_or_ge L (i + 6) with q | q
    · exact lw_hd_out hL hi q rfl
    · have nx : ∀ M1 T1, Rel M1 → Rn (roS L xs) (d + 91) M_L_law 1367 [some (.ref 0), some (.ref 3), some (.ref 64), some (.int (nI i))] [] (mk M1 T1) (fun r _ => r = some (.int 1)) := fun M1 T1 h1 => lw_nx hL (ih (i + 6) M1 T1 q (by omega) h1)
      exact lw_hd_in hL q (lw_sw hL (lw_op_0 hL h q nx) (lw_op_1 hL h q nx) (lw_op_2 hL h q nx) (lw_op_3 hL h q nx) (lw_op_4 hL h q nx) (lw_op_5 hL h q nx) (lw_op_6 hL h q nx) (lw_op_7 hL h q nx) (lw_op_8 hL h q nx) (lw_op_9 hL h q nx) (lw_op_10 hL h q nx) (lw_op_11 hL h q nx) (lw_op_12 hL h q nx) (lw_op_13 hL h q nx) (lw_op_14 hL h q nx) (lw_op_15 hL h q nx) (lw_op_16 hL h q nx) (lw_op_17 hL h q nx) (lw_op_18 hL h q nx) (lw_op_19 hL h q nx) (lw_op_20 hL h q nx) (lw_op_21 hL h q nx) (lw_op_22 hL h q nx) (lw_op_23 hL h q nx) (lw_op_24 hL h q nx) (lw_op_25 hL h q nx) (lw_op_26 hL h q nx) (lw_op_27 hL h q nx) (lw_op_28 hL h q nx) (lw_op_29 hL h q nx) (lw_op_30 hL h q nx) (lw_op_31 hL h q nx) (lw_op_32 hL h q nx) (lw_op_33 hL h q nx) (lw_op_34 hL h q nx) (lw_op_35 hL h q nx) (lw_op_36 hL h q nx) (nx M T h))
