/-! THE LAW: its cases, its loop -/
set_option maxRecDepth 100000 in
set_option maxHeartbeats 4000000 in
theorem lw_op_0 {L : Nat} {xs : Nat → Int32} (hL : L ≤ 3072) {d : Nat} {M : xM} {T : Nat} {Q : Option Value → xH → Prop} (h : Rel M) {i : Nat} (hi : i + 6 ≤ L) (k1 : ∀ M1 T1, Rel M1 → Rn (roS L xs) (d + 91) M_L_law 1367 [some (.ref 0), some (.ref 3), some (.ref 64), some (.int (nI i))] [] (mk M1 T1) Q) : Rn (roS L xs) (d + 91) M_L_law 196 [some (.ref 0), some (.ref 3), some (.ref 64), some (.int (nI i))] [] (mk M T) Q := by
  obtain ⟨v, M1, T1, M2, T2, hX, hM, hr⟩ : OpOK (roS L xs) M_X7_heir M_X8_heir [some (.ref 3)] [some (.ref 64), none] M T := op_heir h
  refine R_go 1 (pc' := 197) (L' := [some (.ref 0), some (.ref 3), some (.ref 64), some (.int (nI i))]) (st' := [.ref 3]) (h' := mk M T) (fun _ => rfl) ?_
  refine R_callD (i := .invokevirtual 13) (kd := 0) (y := M_X7_heir) (as := [.ref 3]) (r := []) (L0 := [some (.ref 3)]) (v := some (.int v)) (h' := mk M1 T1) (pc' := 200) (st' := [.int v]) rfl rfl rfl rfl rfl rfl (hX d) ?_
  refine R_go 1 (pc' := 201) (L' := [some (.ref 0), some (.ref 3), some (.ref 64), some (.int (nI i))]) (st' := [.ref 64, .int v]) (h' := mk M1 T1) (fun _ => rfl) ?_
  refine R_callD (i := .invokevirtual 17) (kd := 0) (y := M_X8_heir) (as := [.ref 64]) (r := [.int v]) (L0 := [some (.ref 64), none]) (v := some (.int v)) (h' := mk M2 T2) (pc' := 204) (st' := [.int v, .int v]) rfl rfl rfl rfl rfl rfl (hM d) ?_
  refine R_if 1 (c := v = v) (t := 1367) (f := 207) (L' := [some (.ref 0), some (.ref 3), some (.ref 64), some (.int (nI i))]) (st' := []) (h' := mk M2 T2) (fun _ => rfl) (fun g1 => ?_) (fun g1 => ?_)
  · exact k1 M2 T2 hr
  · exact absurd (rfl) g1
set_option maxRecDepth 100000 in
set_option maxHeartbeats 4000000 in
theorem lw_op_1 {L : Nat} {xs : Nat → Int32} (hL : L ≤ 3072) {d : Nat} {M : xM} {T : Nat} {Q : Option Value → xH → Prop} (h : Rel M) {i : Nat} (hi : i + 6 ≤ L) (k1 : ∀ M1 T1, Rel M1 → Rn (roS L xs) (d + 91) M_L_law 1367 [some (.ref 0), some (.ref 3), some (.ref 64), some (.int (nI i))] [] (mk M1 T1) Q) : Rn (roS L xs) (d + 91) M_L_law 209 [some (.ref 0), some (.ref 3), some (.ref 64), some (.int (nI i))] [] (mk M T) Q := by
  obtain ⟨v, M1, T1, M2, T2, hX, hM, hr⟩ : OpOK (roS L xs) M_X7_pane M_X8_pane [some (.ref 3), some (.int (xs (i + 1))), some (.int (xs (i + 2))), some (.int (xs (i + 3))), some (.int (xs (i + 4))), some (.int (xs (i + 5))), none] [some (.ref 64), some (.int (xs (i + 1))), some (.int (xs (i + 2))), some (.int (xs (i + 3))), some (.int (xs (i + 4))), some (.int (xs (i + 5))), none, none] M T := op_pane h
  refine R_go 5 (pc' := 214) (L' := [some (.ref 0), some (.ref 3), some (.ref 64), some (.int (nI i))]) (st' := [.int (nI i + 1), .ref 0, .ref 3]) (h' := mk M T) (fun _ => rfl) ?_
  refine R_top (nI_add i 1) ?_
  refine R_ialdO (a := 0) (n := L) (f := xs) (j := i + 1) rfl rfl (by omega) (by omega) ?_
  refine R_go 4 (pc' := 219) (L' := [some (.ref 0), some (.ref 3), some (.ref 64), some (.int (nI i))]) (st' := [.int (nI i + 2), .ref 0, .int (xs (i + 1)), .ref 3]) (h' := mk M T) (fun _ => rfl) ?_
  refine R_top (nI_add i 2) ?_
  refine R_ialdO (a := 0) (n := L) (f := xs) (j := i + 2) rfl rfl (by omega) (by omega) ?_
  refine R_go 4 (pc' := 224) (L' := [some (.ref 0), some (.ref 3), some (.ref 64), some (.int (nI i))]) (st' := [.int (nI i + 3), .ref 0, .int (xs (i + 2)), .int (xs (i + 1)), .ref 3]) (h' := mk M T) (fun _ => rfl) ?_
  refine R_top (nI_add i 3) ?_
  refine R_ialdO (a := 0) (n := L) (f := xs) (j := i + 3) rfl rfl (by omega) (by omega) ?_
  refine R_go 4 (pc' := 229) (L' := [some (.ref 0), some (.ref 3), some (.ref 64), some (.int (nI i))]) (st' := [.int (nI i + 4), .ref 0, .int (xs (i + 3)), .int (xs (i + 2)), .int (xs (i + 1)), .ref 3]) (h' := mk M T) (fun _ => rfl) ?_
  refine R_top (nI_add i 4) ?_
  refine R_ialdO (a := 0) (n := L) (f := xs) (j := i + 4) rfl rfl (by omega) (by omega) ?_
  refine R_go 4 (pc' := 234) (L' := [some (.ref 0), some (.ref 3), some (.ref 64), some (.int (nI i))]) (st' := [.int (nI i + 5), .ref 0, .int (xs (i + 4)), .int (xs (i + 3)), .int (xs (i + 2)), .int (xs (i + 1)), .ref 3]) (h' := mk M T) (fun _ => rfl) ?_
  refine R_top (nI_add i 5) ?_
  refine R_ialdO (a := 0) (n := L) (f := xs) (j := i + 5) rfl rfl (by omega) (by omega) ?_
  refine R_callD (i := .invokevirtual 18) (kd := 0) (y := M_X7_pane) (as := [.ref 3, .int (xs (i + 1)), .int (xs (i + 2)), .int (xs (i + 3)), .int (xs (i + 4)), .int (xs (i + 5))]) (r := []) (L0 := [some (.ref 3), some (.int (xs (i + 1))), some (.int (xs (i + 2))), some (.int (xs (i + 3))), some (.int (xs (i + 4))), some (.int (xs (i + 5))), none]) (v := some (.int v)) (h' := mk M1 T1) (pc' := 238) (st' := [.int v]) rfl rfl rfl rfl rfl rfl (hX d) ?_
  refine R_go 5 (pc' := 243) (L' := [some (.ref 0), some (.ref 3), some (.ref 64), some (.int (nI i))]) (st' := [.int (nI i + 1), .ref 0, .ref 64, .int v]) (h' := mk M1 T1) (fun _ => rfl) ?_
  refine R_top (nI_add i 1) ?_
  refine R_ialdO (a := 0) (n := L) (f := xs) (j := i + 1) rfl rfl (by omega) (by omega) ?_
  refine R_go 4 (pc' := 248) (L' := [some (.ref 0), some (.ref 3), some (.ref 64), some (.int (nI i))]) (st' := [.int (nI i + 2), .ref 0, .int (xs (i + 1)), .ref 64, .int v]) (h' := mk M1 T1) (fun _ => rfl) ?_
  refine R_top (nI_add i 2) ?_
  refine R_ialdO (a := 0) (n := L) (f := xs) (j := i + 2) rfl rfl (by omega) (by omega) ?_
  refine R_go 4 (pc' := 253) (L' := [some (.ref 0), some (.ref 3), some (.ref 64), some (.int (nI i))]) (st' := [.int (nI i + 3), .ref 0, .int (xs (i + 2)), .int (xs (i + 1)), .ref 64, .int v]) (h' := mk M1 T1) (fun _ => rfl) ?_
  refine R_top (nI_add i 3) ?_
  refine R_ialdO (a := 0) (n := L) (f := xs) (j := i + 3) rfl rfl (by omega) (by omega) ?_
  refine R_go 4 (pc' := 258) (L' := [some (.ref 0), some (.ref 3), some (.ref 64), some (.int (nI i))]) (st' := [.int (nI i + 4), .ref 0, .int (xs (i + 3)), .int (xs (i + 2)), .int (xs (i + 1)), .ref 64, .int v]) (h' := mk M1 T1) (fun _ => rfl) ?_
  refine R_top (nI_add i 4) ?_
  refine R_ialdO (a := 0) (n := L) (f := xs) (j := i + 4) rfl rfl (by omega) (by omega) ?_
  refine R_go 4 (pc' := 263) (L' := [some (.ref 0), some (.ref 3), some (.ref 64), some (.int (nI i))]) (st' := [.int (nI i + 5), .ref 0, .int (xs (i + 4)), .int (xs (i + 3)), .int (xs (i + 2)), .int (xs (i + 1)), .ref 64, .int v]) (h' := mk M1 T1) (fun _ => rfl) ?_
  refine R_top (nI_add i 5) ?_
  refine R_ialdO (a := 0) (n := L) (f := xs) (j := i + 5) rfl rfl (by omega) (by omega) ?_
  refine R_callD (i := .invokevirtual 22) (kd := 0) (y := M_X8_pane) (as := [.ref 64, .int (xs (i + 1)), .int (xs (i + 2)), .int (xs (i + 3)), .int (xs (i + 4)), .int (xs (i + 5))]) (r := [.int v]) (L0 := [some (.ref 64), some (.int (xs (i + 1))), some (.int (xs (i + 2))), some (.int (xs (i + 3))), some (.int (xs (i + 4))), some (.int (xs (i + 5))), none, none]) (v := some (.int v)) (h' := mk M2 T2) (pc' := 267) (st' := [.int v, .int v]) rfl rfl rfl rfl rfl rfl (hM d) ?_
  refine R_if 1 (c := v = v) (t := 1367) (f := 270) (L' := [some (.ref 0), some (.ref 3), some (.ref 64), some (.int (nI i))]) (st' := []) (h' := mk M2 T2) (fun _ => rfl) (fun g1 => ?_) (fun g1 => ?_)
  · exact k1 M2 T2 hr
  · exact absurd (rfl) g1
set_option maxRecDepth 100000 in
set_option maxHeartbeats 4000000 in
theorem lw_op_2 {L : Nat} {xs : Nat → Int32} (hL : L ≤ 3072) {d : Nat} {M : xM} {T : Nat} {Q : Option Value → xH → Prop} (h : Rel M) {i : Nat} (hi : i + 6 ≤ L) (k1 : ∀ M1 T1, Rel M1 → Rn (roS L xs) (d + 91) M_L_law 1367 [some (.ref 0), some (.ref 3), some (.ref 64), some (.int (nI i))] [] (mk M1 T1) Q) : Rn (roS L xs) (d + 91) M_L_law 272 [some (.ref 0), some (.ref 3), some (.ref 64), some (.int (nI i))] [] (mk M T) Q := by
  obtain ⟨v, M1, T1, M2, T2, hX, hM, hr⟩ : OpOK (roS L xs) M_X7_paneIs M_X8_paneIs [some (.ref 3), some (.int (xs (i + 1))), some (.int (xs (i + 2))), none] [some (.ref 64), some (.int (xs (i + 1))), some (.int (xs (i + 2)))] M T := op_paneIs h
  refine R_go 5 (pc' := 277) (L' := [some (.ref 0), some (.ref 3), some (.ref 64), some (.int (nI i))]) (st' := [.int (nI i + 1), .ref 0, .ref 3]) (h' := mk M T) (fun _ => rfl) ?_
  refine R_top (nI_add i 1) ?_
  refine R_ialdO (a := 0) (n := L) (f := xs) (j := i + 1) rfl rfl (by omega) (by omega) ?_
  refine R_go 4 (pc' := 282) (L' := [some (.ref 0), some (.ref 3), some (.ref 64), some (.int (nI i))]) (st' := [.int (nI i + 2), .ref 0, .int (xs (i + 1)), .ref 3]) (h' := mk M T) (fun _ => rfl) ?_
  refine R_top (nI_add i 2) ?_
  refine R_ialdO (a := 0) (n := L) (f := xs) (j := i + 2) rfl rfl (by omega) (by omega) ?_
  refine R_callD (i := .invokevirtual 23) (kd := 0) (y := M_X7_paneIs) (as := [.ref 3, .int (xs (i + 1)), .int (xs (i + 2))]) (r := []) (L0 := [some (.ref 3), some (.int (xs (i + 1))), some (.int (xs (i + 2))), none]) (v := some (.int v)) (h' := mk M1 T1) (pc' := 286) (st' := [.int v]) rfl rfl rfl rfl rfl rfl (hX d) ?_
  refine R_go 5 (pc' := 291) (L' := [some (.ref 0), some (.ref 3), some (.ref 64), some (.int (nI i))]) (st' := [.int (nI i + 1), .ref 0, .ref 64, .int v]) (h' := mk M1 T1) (fun _ => rfl) ?_
  refine R_top (nI_add i 1) ?_
  refine R_ialdO (a := 0) (n := L) (f := xs) (j := i + 1) rfl rfl (by omega) (by omega) ?_
  refine R_go 4 (pc' := 296) (L' := [some (.ref 0), some (.ref 3), some (.ref 64), some (.int (nI i))]) (st' := [.int (nI i + 2), .ref 0, .int (xs (i + 1)), .ref 64, .int v]) (h' := mk M1 T1) (fun _ => rfl) ?_
  refine R_top (nI_add i 2) ?_
  refine R_ialdO (a := 0) (n := L) (f := xs) (j := i + 2) rfl rfl (by omega) (by omega) ?_
  refine R_callD (i := .invokevirtual 27) (kd := 0) (y := M_X8_paneIs) (as := [.ref 64, .int (xs (i + 1)), .int (xs (i + 2))]) (r := [.int v]) (L0 := [some (.ref 64), some (.int (xs (i + 1))), some (.int (xs (i + 2)))]) (v := some (.int v)) (h' := mk M2 T2) (pc' := 300) (st' := [.int v, .int v]) rfl rfl rfl rfl rfl rfl (hM d) ?_
  refine R_if 1 (c := v = v) (t := 1367) (f := 303) (L' := [some (.ref 0), some (.ref 3), some (.ref 64), some (.int (nI i))]) (st' := []) (h' := mk M2 T2) (fun _ => rfl) (fun g1 => ?_) (fun g1 => ?_)
  · exact k1 M2 T2 hr
  · exact absurd (rfl) g1
set_option maxRecDepth 100000 in
set_option maxHeartbeats 4000000 in
theorem lw_op_3 {L : Nat} {xs : Nat → Int32} (hL : L ≤ 3072) {d : Nat} {M : xM} {T : Nat} {Q : Option Value → xH → Prop} (h : Rel M) {i : Nat} (hi : i + 6 ≤ L) (k1 : ∀ M1 T1, Rel M1 → Rn (roS L xs) (d + 91) M_L_law 1367 [some (.ref 0), some (.ref 3), some (.ref 64), some (.int (nI i))] [] (mk M1 T1) Q) : Rn (roS L xs) (d + 91) M_L_law 305 [some (.ref 0), some (.ref 3), some (.ref 64), some (.int (nI i))] [] (mk M T) Q := by
  obtain ⟨v, M1, T1, M2, T2, hX, hM, hr⟩ : OpOK (roS L xs) M_X7_become M_X8_become [some (.ref 3), some (.int (xs (i + 1))), some (.int (xs (i + 2))), none, none] [some (.ref 64), some (.int (xs (i + 1))), some (.int (xs (i + 2)))] M T := op_become h
  refine R_go 5 (pc' := 310) (L' := [some (.ref 0), some (.ref 3), some (.ref 64), some (.int (nI i))]) (st' := [.int (nI i + 1), .ref 0, .ref 3]) (h' := mk M T) (fun _ => rfl) ?_
  refine R_top (nI_add i 1) ?_
  refine R_ialdO (a := 0) (n := L) (f := xs) (j := i + 1) rfl rfl (by omega) (by omega) ?_
  refine R_go 4 (pc' := 315) (L' := [some (.ref 0), some (.ref 3), some (.ref 64), some (.int (nI i))]) (st' := [.int (nI i + 2), .ref 0, .int (xs (i + 1)), .ref 3]) (h' := mk M T) (fun _ => rfl) ?_
  refine R_top (nI_add i 2) ?_
  refine R_ialdO (a := 0) (n := L) (f := xs) (j := i + 2) rfl rfl (by omega) (by omega) ?_
  refine R_callD (i := .invokevirtual 28) (kd := 0) (y := M_X7_become) (as := [.ref 3, .int (xs (i + 1)), .int (xs (i + 2))]) (r := []) (L0 := [some (.ref 3), some (.int (xs (i + 1))), some (.int (xs (i + 2))), none, none]) (v := some (.int v)) (h' := mk M1 T1) (pc' := 319) (st' := [.int v]) rfl rfl rfl rfl rfl rfl (hX d) ?_
  refine R_go 5 (pc' := 324) (L' := [some (.ref 0), some (.ref 3), some (.ref 64), some (.int (nI i))]) (st' := [.int (nI i + 1), .ref 0, .ref 64, .int v]) (h' := mk M1 T1) (fun _ => rfl) ?_
  refine R_top (nI_add i 1) ?_
  refine R_ialdO (a := 0) (n := L) (f := xs) (j := i + 1) rfl rfl (by omega) (by omega) ?_
  refine R_go 4 (pc' := 329) (L' := [some (.ref 0), some (.ref 3), some (.ref 64), some (.int (nI i))]) (st' := [.int (nI i + 2), .ref 0, .int (xs (i + 1)), .ref 64, .int v]) (h' := mk M1 T1) (fun _ => rfl) ?_
  refine R_top (nI_add i 2) ?_
  refine R_ialdO (a := 0) (n := L) (f := xs) (j := i + 2) rfl rfl (by omega) (by omega) ?_
  refine R_callD (i := .invokevirtual 31) (kd := 0) (y := M_X8_become) (as := [.ref 64, .int (xs (i + 1)), .int (xs (i + 2))]) (r := [.int v]) (L0 := [some (.ref 64), some (.int (xs (i + 1))), some (.int (xs (i + 2)))]) (v := some (.int v)) (h' := mk M2 T2) (pc' := 333) (st' := [.int v, .int v]) rfl rfl rfl rfl rfl rfl (hM d) ?_
  refine R_if 1 (c := v = v) (t := 1367) (f := 336) (L' := [some (.ref 0), some (.ref 3), some (.ref 64), some (.int (nI i))]) (st' := []) (h' := mk M2 T2) (fun _ => rfl) (fun g1 => ?_) (fun g1 => ?_)
  · exact k1 M2 T2 hr
  · exact absurd (rfl) g1
set_option maxRecDepth 100000 in
set_option maxHeartbeats 4000000 in
theorem lw_op_4 {L : Nat} {xs : Nat → Int32} (hL : L ≤ 3072) {d : Nat} {M : xM} {T : Nat} {Q : Option Value → xH → Prop} (h : Rel M) {i : Nat} (hi : i + 6 ≤ L) (k1 : ∀ M1 T1, Rel M1 → Rn (roS L xs) (d + 91) M_L_law 1367 [some (.ref 0), some (.ref 3), some (.ref 64), some (.int (nI i))] [] (mk M1 T1) Q) : Rn (roS L xs) (d + 91) M_L_law 338 [some (.ref 0), some (.ref 3), some (.ref 64), some (.int (nI i))] [] (mk M T) Q := by
  obtain ⟨v, M1, T1, M2, T2, hX, hM, hr⟩ : OpOK (roS L xs) M_X7_as M_X8_as [some (.ref 3), some (.int (xs (i + 1))), some (.int (xs (i + 2))), none] [some (.ref 64), some (.int (xs (i + 1))), some (.int (xs (i + 2))), none, none] M T := op_as h
  refine R_go 5 (pc' := 343) (L' := [some (.ref 0), some (.ref 3), some (.ref 64), some (.int (nI i))]) (st' := [.int (nI i + 1), .ref 0, .ref 3]) (h' := mk M T) (fun _ => rfl) ?_
  refine R_top (nI_add i 1) ?_
  refine R_ialdO (a := 0) (n := L) (f := xs) (j := i + 1) rfl rfl (by omega) (by omega) ?_
  refine R_go 4 (pc' := 348) (L' := [some (.ref 0), some (.ref 3), some (.ref 64), some (.int (nI i))]) (st' := [.int (nI i + 2), .ref 0, .int (xs (i + 1)), .ref 3]) (h' := mk M T) (fun _ => rfl) ?_
  refine R_top (nI_add i 2) ?_
  refine R_ialdO (a := 0) (n := L) (f := xs) (j := i + 2) rfl rfl (by omega) (by omega) ?_
  refine R_callD (i := .invokevirtual 32) (kd := 0) (y := M_X7_as) (as := [.ref 3, .int (xs (i + 1)), .int (xs (i + 2))]) (r := []) (L0 := [some (.ref 3), some (.int (xs (i + 1))), some (.int (xs (i + 2))), none]) (v := some (.int v)) (h' := mk M1 T1) (pc' := 352) (st' := [.int v]) rfl rfl rfl rfl rfl rfl (hX d) ?_
  refine R_go 5 (pc' := 357) (L' := [some (.ref 0), some (.ref 3), some (.ref 64), some (.int (nI i))]) (st' := [.int (nI i + 1), .ref 0, .ref 64, .int v]) (h' := mk M1 T1) (fun _ => rfl) ?_
  refine R_top (nI_add i 1) ?_
  refine R_ialdO (a := 0) (n := L) (f := xs) (j := i + 1) rfl rfl (by omega) (by omega) ?_
  refine R_go 4 (pc' := 362) (L' := [some (.ref 0), some (.ref 3), some (.ref 64), some (.int (nI i))]) (st' := [.int (nI i + 2), .ref 0, .int (xs (i + 1)), .ref 64, .int v]) (h' := mk M1 T1) (fun _ => rfl) ?_
  refine R_top (nI_add i 2) ?_
  refine R_ialdO (a := 0) (n := L) (f := xs) (j := i + 2) rfl rfl (by omega) (by omega) ?_
  refine R_callD (i := .invokevirtual 35) (kd := 0) (y := M_X8_as) (as := [.ref 64, .int (xs (i + 1)), .int (xs (i + 2))]) (r := [.int v]) (L0 := [some (.ref 64), some (.int (xs (i + 1))), some (.int (xs (i + 2))), none, none]) (v := some (.int v)) (h' := mk M2 T2) (pc' := 366) (st' := [.int v, .int v]) rfl rfl rfl rfl rfl rfl (hM d) ?_
  refine R_if 1 (c := v = v) (t := 1367) (f := 369) (L' := [some (.ref 0), some (.ref 3), some (.ref 64), some (.int (nI i))]) (st' := []) (h' := mk M2 T2) (fun _ => rfl) (fun g1 => ?_) (fun g1 => ?_)
  · exact k1 M2 T2 hr
  · exact absurd (rfl) g1
set_option maxRecDepth 100000 in
set_option maxHeartbeats 4000000 in
theorem lw_op_5 {L : Nat} {xs : Nat → Int32} (hL : L ≤ 3072) {d : Nat} {M : xM} {T : Nat} {Q : Option Value → xH → Prop} (h : Rel M) {i : Nat} (hi : i + 6 ≤ L) (k1 : ∀ M1 T1, Rel M1 → Rn (roS L xs) (d + 91) M_L_law 1367 [some (.ref 0), some (.ref 3), some (.ref 64), some (.int (nI i))] [] (mk M1 T1) Q) : Rn (roS L xs) (d + 91) M_L_law 371 [some (.ref 0), some (.ref 3), some (.ref 64), some (.int (nI i))] [] (mk M T) Q := by
  obtain ⟨v, M1, T1, M2, T2, hX, hM, hr⟩ : OpOK (roS L xs) M_X7_wipe M_X8_wipe [some (.ref 3), some (.int (xs (i + 1))), some (.int (xs (i + 2))), none, none] [some (.ref 64), some (.int (xs (i + 1))), some (.int (xs (i + 2)))] M T := op_wipe h
  refine R_go 5 (pc' := 376) (L' := [some (.ref 0), some (.ref 3), some (.ref 64), some (.int (nI i))]) (st' := [.int (nI i + 1), .ref 0, .ref 3]) (h' := mk M T) (fun _ => rfl) ?_
  refine R_top (nI_add i 1) ?_
  refine R_ialdO (a := 0) (n := L) (f := xs) (j := i + 1) rfl rfl (by omega) (by omega) ?_
  refine R_go 4 (pc' := 381) (L' := [some (.ref 0), some (.ref 3), some (.ref 64), some (.int (nI i))]) (st' := [.int (nI i + 2), .ref 0, .int (xs (i + 1)), .ref 3]) (h' := mk M T) (fun _ => rfl) ?_
  refine R_top (nI_add i 2) ?_
  refine R_ialdO (a := 0) (n := L) (f := xs) (j := i + 2) rfl rfl (by omega) (by omega) ?_
  refine R_callD (i := .invokevirtual 36) (kd := 0) (y := M_X7_wipe) (as := [.ref 3, .int (xs (i + 1)), .int (xs (i + 2))]) (r := []) (L0 := [some (.ref 3), some (.int (xs (i + 1))), some (.int (xs (i + 2))), none, none]) (v := some (.int v)) (h' := mk M1 T1) (pc' := 385) (st' := [.int v]) rfl rfl rfl rfl rfl rfl (hX d) ?_
  refine R_go 5 (pc' := 390) (L' := [some (.ref 0), some (.ref 3), some (.ref 64), some (.int (nI i))]) (st' := [.int (nI i + 1), .ref 0, .ref 64, .int v]) (h' := mk M1 T1) (fun _ => rfl) ?_
  refine R_top (nI_add i 1) ?_
  refine R_ialdO (a := 0) (n := L) (f := xs) (j := i + 1) rfl rfl (by omega) (by omega) ?_
  refine R_go 4 (pc' := 395) (L' := [some (.ref 0), some (.ref 3), some (.ref 64), some (.int (nI i))]) (st' := [.int (nI i + 2), .ref 0, .int (xs (i + 1)), .ref 64, .int v]) (h' := mk M1 T1) (fun _ => rfl) ?_
  refine R_top (nI_add i 2) ?_
  refine R_ialdO (a := 0) (n := L) (f := xs) (j := i + 2) rfl rfl (by omega) (by omega) ?_
  refine R_callD (i := .invokevirtual 39) (kd := 0) (y := M_X8_wipe) (as := [.ref 64, .int (xs (i + 1)), .int (xs (i + 2))]) (r := [.int v]) (L0 := [some (.ref 64), some (.int (xs (i + 1))), some (.int (xs (i + 2)))]) (v := some (.int v)) (h' := mk M2 T2) (pc' := 399) (st' := [.int v, .int v]) rfl rfl rfl rfl rfl rfl (hM d) ?_
  refine R_if 1 (c := v = v) (t := 1367) (f := 402) (L' := [some (.ref 0), some (.ref 3), some (.ref 64), some (.int (nI i))]) (st' := []) (h' := mk M2 T2) (fun _ => rfl) (fun g1 => ?_) (fun g1 => ?_)
  · exact k1 M2 T2 hr
  · exact absurd (rfl) g1
set_option maxRecDepth 100000 in
set_option maxHeartbeats 4000000 in
theorem lw_op_6 {L : Nat} {xs : Nat → Int32} (hL : L ≤ 3072) {d : Nat} {M : xM} {T : Nat} {Q : Option Value → xH → Prop} (h : Rel M) {i : Nat} (hi : i + 6 ≤ L) (k1 : ∀ M1 T1, Rel M1 → Rn (roS L xs) (d + 91) M_L_law 1367 [some (.ref 0), some (.ref 3), some (.ref 64), some (.int (nI i))] [] (mk M1 T1) Q) : Rn (roS L xs) (d + 91) M_L_law 404 [some (.ref 0), some (.ref 3), some (.ref 64), some (.int (nI i))] [] (mk M T) Q := by
  obtain ⟨v, M1, T1, M2, T2, hX, hM, hr⟩ : OpOK (roS L xs) M_X7_names M_X8_names [some (.ref 3), some (.int (xs (i + 1))), some (.int (xs (i + 2))), none, none] [some (.ref 64), some (.int (xs (i + 1))), some (.int (xs (i + 2)))] M T := op_names h
  refine R_go 5 (pc' := 409) (L' := [some (.ref 0), some (.ref 3), some (.ref 64), some (.int (nI i))]) (st' := [.int (nI i + 1), .ref 0, .ref 3]) (h' := mk M T) (fun _ => rfl) ?_
  refine R_top (nI_add i 1) ?_
  refine R_ialdO (a := 0) (n := L) (f := xs) (j := i + 1) rfl rfl (by omega) (by omega) ?_
  refine R_go 4 (pc' := 414) (L' := [some (.ref 0), some (.ref 3), some (.ref 64), some (.int (nI i))]) (st' := [.int (nI i + 2), .ref 0, .int (xs (i + 1)), .ref 3]) (h' := mk M T) (fun _ => rfl) ?_
  refine R_top (nI_add i 2) ?_
  refine R_ialdO (a := 0) (n := L) (f := xs) (j := i + 2) rfl rfl (by omega) (by omega) ?_
  refine R_callD (i := .invokevirtual 40) (kd := 0) (y := M_X7_names) (as := [.ref 3, .int (xs (i + 1)), .int (xs (i + 2))]) (r := []) (L0 := [some (.ref 3), some (.int (xs (i + 1))), some (.int (xs (i + 2))), none, none]) (v := some (.int v)) (h' := mk M1 T1) (pc' := 418) (st' := [.int v]) rfl rfl rfl rfl rfl rfl (hX d) ?_
  refine R_go 5 (pc' := 423) (L' := [some (.ref 0), some (.ref 3), some (.ref 64), some (.int (nI i))]) (st' := [.int (nI i + 1), .ref 0, .ref 64, .int v]) (h' := mk M1 T1) (fun _ => rfl) ?_
  refine R_top (nI_add i 1) ?_
  refine R_ialdO (a := 0) (n := L) (f := xs) (j := i + 1) rfl rfl (by omega) (by omega) ?_
  refine R_go 4 (pc' := 428) (L' := [some (.ref 0), some (.ref 3), some (.ref 64), some (.int (nI i))]) (st' := [.int (nI i + 2), .ref 0, .int (xs (i + 1)), .ref 64, .int v]) (h' := mk M1 T1) (fun _ => rfl) ?_
  refine R_top (nI_add i 2) ?_
  refine R_ialdO (a := 0) (n := L) (f := xs) (j := i + 2) rfl rfl (by omega) (by omega) ?_
  refine R_callD (i := .invokevirtual 43) (kd := 0) (y := M_X8_names) (as := [.ref 64, .int (xs (i + 1)), .int (xs (i + 2))]) (r := [.int v]) (L0 := [some (.ref 64), some (.int (xs (i + 1))), some (.int (xs (i + 2)))]) (v := some (.int v)) (h' := mk M2 T2) (pc' := 432) (st' := [.int v, .int v]) rfl rfl rfl rfl rfl rfl (hM d) ?_
  refine R_if 1 (c := v = v) (t := 1367) (f := 435) (L' := [some (.ref 0), some (.ref 3), some (.ref 64), some (.int (nI i))]) (st' := []) (h' := mk M2 T2) (fun _ => rfl) (fun g1 => ?_) (fun g1 => ?_)
  · exact k1 M2 T2 hr
  · exact absurd (rfl) g1
set_option maxRecDepth 100000 in
set_option maxHeartbeats 4000000 in
theorem lw_op_7 {L : Nat} {xs : Nat → Int32} (hL : L ≤ 3072) {d : Nat} {M : xM} {T : Nat} {Q : Option Value → xH → Prop} (h : Rel M) {i : Nat} (hi : i + 6 ≤ L) (k1 : ∀ M1 T1, Rel M1 → Rn (roS L xs) (d + 91) M_L_law 1367 [some (.ref 0), some (.ref 3), some (.ref 64), some (.int (nI i))] [] (mk M1 T1) Q) : Rn (roS L xs) (d + 91) M_L_law 437 [some (.ref 0), some (.ref 3), some (.ref 64), some (.int (nI i))] [] (mk M T) Q := by
  obtain ⟨v, M1, T1, M2, T2, hX, hM, hr⟩ : OpOK (roS L xs) M_X7_has M_X8_has [some (.ref 3), some (.int (xs (i + 1)))] [some (.ref 64), some (.int (xs (i + 1)))] M T := op_has h
  refine R_go 5 (pc' := 442) (L' := [some (.ref 0), some (.ref 3), some (.ref 64), some (.int (nI i))]) (st' := [.int (nI i + 1), .ref 0, .ref 3]) (h' := mk M T) (fun _ => rfl) ?_
  refine R_top (nI_add i 1) ?_
  refine R_ialdO (a := 0) (n := L) (f := xs) (j := i + 1) rfl rfl (by omega) (by omega) ?_
  refine R_callD (i := .invokevirtual 44) (kd := 0) (y := M_X7_has) (as := [.ref 3, .int (xs (i + 1))]) (r := []) (L0 := [some (.ref 3), some (.int (xs (i + 1)))]) (v := some (.int v)) (h' := mk M1 T1) (pc' := 446) (st' := [.int v]) rfl rfl rfl rfl rfl rfl (hX d) ?_
  refine R_go 5 (pc' := 451) (L' := [some (.ref 0), some (.ref 3), some (.ref 64), some (.int (nI i))]) (st' := [.int (nI i + 1), .ref 0, .ref 64, .int v]) (h' := mk M1 T1) (fun _ => rfl) ?_
  refine R_top (nI_add i 1) ?_
  refine R_ialdO (a := 0) (n := L) (f := xs) (j := i + 1) rfl rfl (by omega) (by omega) ?_
  refine R_callD (i := .invokevirtual 48) (kd := 0) (y := M_X8_has) (as := [.ref 64, .int (xs (i + 1))]) (r := [.int v]) (L0 := [some (.ref 64), some (.int (xs (i + 1)))]) (v := some (.int v)) (h' := mk M2 T2) (pc' := 455) (st' := [.int v, .int v]) rfl rfl rfl rfl rfl rfl (hM d) ?_
  refine R_if 1 (c := v = v) (t := 1367) (f := 458) (L' := [some (.ref 0), some (.ref 3), some (.ref 64), some (.int (nI i))]) (st' := []) (h' := mk M2 T2) (fun _ => rfl) (fun g1 => ?_) (fun g1 => ?_)
  · exact k1 M2 T2 hr
  · exact absurd (rfl) g1
set_option maxRecDepth 100000 in
set_option maxHeartbeats 4000000 in
theorem lw_op_8 {L : Nat} {xs : Nat → Int32} (hL : L ≤ 3072) {d : Nat} {M : xM} {T : Nat} {Q : Option Value → xH → Prop} (h : Rel M) {i : Nat} (hi : i + 6 ≤ L) (k1 : ∀ M1 T1, Rel M1 → Rn (roS L xs) (d + 91) M_L_law 1367 [some (.ref 0), some (.ref 3), some (.ref 64), some (.int (nI i))] [] (mk M1 T1) Q) : Rn (roS L xs) (d + 91) M_L_law 460 [some (.ref 0), some (.ref 3), some (.ref 64), some (.int (nI i))] [] (mk M T) Q := by
  obtain ⟨v, M1, T1, M2, T2, hX, hM, hr⟩ : OpOK (roS L xs) M_X7_set M_X8_set [some (.ref 3), some (.int (xs (i + 1))), some (.int (xs (i + 2))), none] [some (.ref 64), some (.int (xs (i + 1))), some (.int (xs (i + 2))), none] M T := op_set h
  refine R_go 5 (pc' := 465) (L' := [some (.ref 0), some (.ref 3), some (.ref 64), some (.int (nI i))]) (st' := [.int (nI i + 1), .ref 0, .ref 3]) (h' := mk M T) (fun _ => rfl) ?_
  refine R_top (nI_add i 1) ?_
  refine R_ialdO (a := 0) (n := L) (f := xs) (j := i + 1) rfl rfl (by omega) (by omega) ?_
  refine R_go 4 (pc' := 470) (L' := [some (.ref 0), some (.ref 3), some (.ref 64), some (.int (nI i))]) (st' := [.int (nI i + 2), .ref 0, .int (xs (i + 1)), .ref 3]) (h' := mk M T) (fun _ => rfl) ?_
  refine R_top (nI_add i 2) ?_
  refine R_ialdO (a := 0) (n := L) (f := xs) (j := i + 2) rfl rfl (by omega) (by omega) ?_
  refine R_callD (i := .invokevirtual 49) (kd := 0) (y := M_X7_set) (as := [.ref 3, .int (xs (i + 1)), .int (xs (i + 2))]) (r := []) (L0 := [some (.ref 3), some (.int (xs (i + 1))), some (.int (xs (i + 2))), none]) (v := some (.int v)) (h' := mk M1 T1) (pc' := 474) (st' := [.int v]) rfl rfl rfl rfl rfl rfl (hX d) ?_
  refine R_go 5 (pc' := 479) (L' := [some (.ref 0), some (.ref 3), some (.ref 64), some (.int (nI i))]) (st' := [.int (nI i + 1), .ref 0, .ref 64, .int v]) (h' := mk M1 T1) (fun _ => rfl) ?_
  refine R_top (nI_add i 1) ?_
  refine R_ialdO (a := 0) (n := L) (f := xs) (j := i + 1) rfl rfl (by omega) (by omega) ?_
  refine R_go 4 (pc' := 484) (L' := [some (.ref 0), some (.ref 3), some (.ref 64), some (.int (nI i))]) (st' := [.int (nI i + 2), .ref 0, .int (xs (i + 1)), .ref 64, .int v]) (h' := mk M1 T1) (fun _ => rfl) ?_
  refine R_top (nI_add i 2) ?_
  refine R_ialdO (a := 0) (n := L) (f := xs) (j := i + 2) rfl rfl (by omega) (by omega) ?_
  refine R_callD (i := .invokevirtual 52) (kd := 0) (y := M_X8_set) (as := [.ref 64, .int (xs (i + 1)), .int (xs (i + 2))]) (r := [.int v]) (L0 := [some (.ref 64), some (.int (xs (i + 1))), some (.int (xs (i + 2))), none]) (v := some (.int v)) (h' := mk M2 T2) (pc' := 488) (st' := [.int v, .int v]) rfl rfl rfl rfl rfl rfl (hM d) ?_
  refine R_if 1 (c := v = v) (t := 1367) (f := 491) (L' := [some (.ref 0), some (.ref 3), some (.ref 64), some (.int (nI i))]) (st' := []) (h' := mk M2 T2) (fun _ => rfl) (fun g1 => ?_) (fun g1 => ?_)
  · exact k1 M2 T2 hr
  · exact absurd (rfl) g1
set_option maxRecDepth 100000 in
set_option maxHeartbeats 4000000 in
theorem lw_op_9 {L : Nat} {xs : Nat → Int32} (hL : L ≤ 3072) {d : Nat} {M : xM} {T : Nat} {Q : Option Value → xH → Prop} (h : Rel M) {i : Nat} (hi : i + 6 ≤ L) (k1 : ∀ M1 T1, Rel M1 → Rn (roS L xs) (d + 91) M_L_law 1367 [some (.ref 0), some (.ref 3), some (.ref 64), some (.int (nI i))] [] (mk M1 T1) Q) : Rn (roS L xs) (d + 91) M_L_law 493 [some (.ref 0), some (.ref 3), some (.ref 64), some (.int (nI i))] [] (mk M T) Q := by
  obtain ⟨v, M1, T1, M2, T2, hX, hM, hr⟩ : OpOK (roS L xs) M_X7_feed M_X8_feed [some (.ref 3), some (.long ((((xs (i + 1)).toInt64) <<< (Int32.toInt64 32 &&& 63)) ||| (((xs (i + 2)).toInt64) &&& 4294967295))), none, some (.int (xs (i + 3))), none] [some (.ref 64), some (.long ((((xs (i + 1)).toInt64) <<< (Int32.toInt64 32 &&& 63)) ||| (((xs (i + 2)).toInt64) &&& 4294967295))), none, some (.int (xs (i + 3))), none] M T := op_feed h
  refine R_go 5 (pc' := 498) (L' := [some (.ref 0), some (.ref 3), some (.ref 64), some (.int (nI i))]) (st' := [.int (nI i + 1), .ref 0, .ref 3]) (h' := mk M T) (fun _ => rfl) ?_
  refine R_top (nI_add i 1) ?_
  refine R_ialdO (a := 0) (n := L) (f := xs) (j := i + 1) rfl rfl (by omega) (by omega) ?_
  refine R_go 7 (pc' := 507) (L' := [some (.ref 0), some (.ref 3), some (.ref 64), some (.int (nI i))]) (st' := [.int (nI i + 2), .ref 0, .long (((xs (i + 1)).toInt64) <<< (Int32.toInt64 32 &&& 63)), .ref 3]) (h' := mk M T) (fun _ => rfl) ?_
  refine R_top (nI_add i 2) ?_
  refine R_ialdO (a := 0) (n := L) (f := xs) (j := i + 2) rfl rfl (by omega) (by omega) ?_
  refine R_go 8 (pc' := 518) (L' := [some (.ref 0), some (.ref 3), some (.ref 64), some (.int (nI i))]) (st' := [.int (nI i + 3), .ref 0, .long ((((xs (i + 1)).toInt64) <<< (Int32.toInt64 32 &&& 63)) ||| (((xs (i + 2)).toInt64) &&& 4294967295)), .ref 3]) (h' := mk M T) (fun _ => rfl) ?_
  refine R_top (nI_add i 3) ?_
  refine R_ialdO (a := 0) (n := L) (f := xs) (j := i + 3) rfl rfl (by omega) (by omega) ?_
  refine R_callD (i := .invokevirtual 55) (kd := 0) (y := M_X7_feed) (as := [.ref 3, .long ((((xs (i + 1)).toInt64) <<< (Int32.toInt64 32 &&& 63)) ||| (((xs (i + 2)).toInt64) &&& 4294967295)), .int (xs (i + 3))]) (r := []) (L0 := [some (.ref 3), some (.long ((((xs (i + 1)).toInt64) <<< (Int32.toInt64 32 &&& 63)) ||| (((xs (i + 2)).toInt64) &&& 4294967295))), none, some (.int (xs (i + 3))), none]) (v := some (.int v)) (h' := mk M1 T1) (pc' := 522) (st' := [.int v]) rfl rfl rfl rfl rfl rfl (hX d) ?_
  refine R_go 5 (pc' := 527) (L' := [some (.ref 0), some (.ref 3), some (.ref 64), some (.int (nI i))]) (st' := [.int (nI i + 1), .ref 0, .ref 64, .int v]) (h' := mk M1 T1) (fun _ => rfl) ?_
  refine R_top (nI_add i 1) ?_
  refine R_ialdO (a := 0) (n := L) (f := xs) (j := i + 1) rfl rfl (by omega) (by omega) ?_
  refine R_go 7 (pc' := 536) (L' := [some (.ref 0), some (.ref 3), some (.ref 64), some (.int (nI i))]) (st' := [.int (nI i + 2), .ref 0, .long (((xs (i + 1)).toInt64) <<< (Int32.toInt64 32 &&& 63)), .ref 64, .int v]) (h' := mk M1 T1) (fun _ => rfl) ?_
  refine R_top (nI_add i 2) ?_
  refine R_ialdO (a := 0) (n := L) (f := xs) (j := i + 2) rfl rfl (by omega) (by omega) ?_
  refine R_go 8 (pc' := 547) (L' := [some (.ref 0), some (.ref 3), some (.ref 64), some (.int (nI i))]) (st' := [.int (nI i + 3), .ref 0, .long ((((xs (i + 1)).toInt64) <<< (Int32.toInt64 32 &&& 63)) ||| (((xs (i + 2)).toInt64) &&& 4294967295)), .ref 64, .int v]) (h' := mk M1 T1) (fun _ => rfl) ?_
  refine R_top (nI_add i 3) ?_
  refine R_ialdO (a := 0) (n := L) (f := xs) (j := i + 3) rfl rfl (by omega) (by omega) ?_
  refine R_callD (i := .invokevirtual 59) (kd := 0) (y := M_X8_feed) (as := [.ref 64, .long ((((xs (i + 1)).toInt64) <<< (Int32.toInt64 32 &&& 63)) ||| (((xs (i + 2)).toInt64) &&& 4294967295)), .int (xs (i + 3))]) (r := [.int v]) (L0 := [some (.ref 64), some (.long ((((xs (i + 1)).toInt64) <<< (Int32.toInt64 32 &&& 63)) ||| (((xs (i + 2)).toInt64) &&& 4294967295))), none, some (.int (xs (i + 3))), none]) (v := some (.int v)) (h' := mk M2 T2) (pc' := 551) (st' := [.int v, .int v]) rfl rfl rfl rfl rfl rfl (hM d) ?_
  refine R_if 1 (c := v = v) (t := 1367) (f := 554) (L' := [some (.ref 0), some (.ref 3), some (.ref 64), some (.int (nI i))]) (st' := []) (h' := mk M2 T2) (fun _ => rfl) (fun g1 => ?_) (fun g1 => ?_)
  · exact k1 M2 T2 hr
  · exact absurd (rfl) g1
set_option maxRecDepth 100000 in
set_option maxHeartbeats 4000000 in
theorem lw_op_10 {L : Nat} {xs : Nat → Int32} (hL : L ≤ 3072) {d : Nat} {M : xM} {T : Nat} {Q : Option Value → xH → Prop} (h : Rel M) {i : Nat} (hi : i + 6 ≤ L) (k1 : ∀ M1 T1, Rel M1 → Rn (roS L xs) (d + 91) M_L_law 1367 [some (.ref 0), some (.ref 3), some (.ref 64), some (.int (nI i))] [] (mk M1 T1) Q) : Rn (roS L xs) (d + 91) M_L_law 556 [some (.ref 0), some (.ref 3), some (.ref 64), some (.int (nI i))] [] (mk M T) Q := by
  obtain ⟨v, M1, T1, M2, T2, hX, hM, hr⟩ : OpOK (roS L xs) M_X7_text M_X8_text [some (.ref 3), some (.int (xs (i + 1))), none, none] [some (.ref 64), some (.int (xs (i + 1))), none, none] M T := op_text h
  refine R_go 5 (pc' := 561) (L' := [some (.ref 0), some (.ref 3), some (.ref 64), some (.int (nI i))]) (st' := [.int (nI i + 1), .ref 0, .ref 3]) (h' := mk M T) (fun _ => rfl) ?_
  refine R_top (nI_add i 1) ?_
  refine R_ialdO (a := 0) (n := L) (f := xs) (j := i + 1) rfl rfl (by omega) (by omega) ?_
  refine R_callD (i := .invokevirtual 60) (kd := 0) (y := M_X7_text) (as := [.ref 3, .int (xs (i + 1))]) (r := []) (L0 := [some (.ref 3), some (.int (xs (i + 1))), none, none]) (v := some (.int v)) (h' := mk M1 T1) (pc' := 565) (st' := [.int v]) rfl rfl rfl rfl rfl rfl (hX d) ?_
  refine R_go 5 (pc' := 570) (L' := [some (.ref 0), some (.ref 3), some (.ref 64), some (.int (nI i))]) (st' := [.int (nI i + 1), .ref 0, .ref 64, .int v]) (h' := mk M1 T1) (fun _ => rfl) ?_
  refine R_top (nI_add i 1) ?_
  refine R_ialdO (a := 0) (n := L) (f := xs) (j := i + 1) rfl rfl (by omega) (by omega) ?_
  refine R_callD (i := .invokevirtual 63) (kd := 0) (y := M_X8_text) (as := [.ref 64, .int (xs (i + 1))]) (r := [.int v]) (L0 := [some (.ref 64), some (.int (xs (i + 1))), none, none]) (v := some (.int v)) (h' := mk M2 T2) (pc' := 574) (st' := [.int v, .int v]) rfl rfl rfl rfl rfl rfl (hM d) ?_
  refine R_if 1 (c := v = v) (t := 1367) (f := 577) (L' := [some (.ref 0), some (.ref 3), some (.ref 64), some (.int (nI i))]) (st' := []) (h' := mk M2 T2) (fun _ => rfl) (fun g1 => ?_) (fun g1 => ?_)
  · exact k1 M2 T2 hr
  · exact absurd (rfl) g1
set_option maxRecDepth 100000 in
set_option maxHeartbeats 4000000 in
theorem lw_op_11 {L : Nat} {xs : Nat → Int32} (hL : L ≤ 3072) {d : Nat} {M : xM} {T : Nat} {Q : Option Value → xH → Prop} (h : Rel M) {i : Nat} (hi : i + 6 ≤ L) (k1 : ∀ M1 T1, Rel M1 → Rn (roS L xs) (d + 91) M_L_law 1367 [some (.ref 0), some (.ref 3), some (.ref 64), some (.int (nI i))] [] (mk M1 T1) Q) : Rn (roS L xs) (d + 91) M_L_law 579 [some (.ref 0), some (.ref 3), some (.ref 64), some (.int (nI i))] [] (mk M T) Q := by
  obtain ⟨v, M1, T1, M2, T2, hX, hM, hr⟩ : OpOK (roS L xs) M_X7_untell M_X8_untell [some (.ref 3), some (.int (xs (i + 1))), none, none] [some (.ref 64), some (.int (xs (i + 1)))] M T := op_untell h
  refine R_go 5 (pc' := 584) (L' := [some (.ref 0), some (.ref 3), some (.ref 64), some (.int (nI i))]) (st' := [.int (nI i + 1), .ref 0, .ref 3]) (h' := mk M T) (fun _ => rfl) ?_
  refine R_top (nI_add i 1) ?_
  refine R_ialdO (a := 0) (n := L) (f := xs) (j := i + 1) rfl rfl (by omega) (by omega) ?_
  refine R_callD (i := .invokevirtual 64) (kd := 0) (y := M_X7_untell) (as := [.ref 3, .int (xs (i + 1))]) (r := []) (L0 := [some (.ref 3), some (.int (xs (i + 1))), none, none]) (v := some (.int v)) (h' := mk M1 T1) (pc' := 588) (st' := [.int v]) rfl rfl rfl rfl rfl rfl (hX d) ?_
  refine R_go 5 (pc' := 593) (L' := [some (.ref 0), some (.ref 3), some (.ref 64), some (.int (nI i))]) (st' := [.int (nI i + 1), .ref 0, .ref 64, .int v]) (h' := mk M1 T1) (fun _ => rfl) ?_
  refine R_top (nI_add i 1) ?_
  refine R_ialdO (a := 0) (n := L) (f := xs) (j := i + 1) rfl rfl (by omega) (by omega) ?_
  refine R_callD (i := .invokevirtual 67) (kd := 0) (y := M_X8_untell) (as := [.ref 64, .int (xs (i + 1))]) (r := [.int v]) (L0 := [some (.ref 64), some (.int (xs (i + 1)))]) (v := some (.int v)) (h' := mk M2 T2) (pc' := 597) (st' := [.int v, .int v]) rfl rfl rfl rfl rfl rfl (hM d) ?_
  refine R_if 1 (c := v = v) (t := 1367) (f := 600) (L' := [some (.ref 0), some (.ref 3), some (.ref 64), some (.int (nI i))]) (st' := []) (h' := mk M2 T2) (fun _ => rfl) (fun g1 => ?_) (fun g1 => ?_)
  · exact k1 M2 T2 hr
  · exact absurd (rfl) g1
set_option maxRecDepth 100000 in
set_option maxHeartbeats 4000000 in
theorem lw_op_12 {L : Nat} {xs : Nat → Int32} (hL : L ≤ 3072) {d : Nat} {M : xM} {T : Nat} {Q : Option Value → xH → Prop} (h : Rel M) {i : Nat} (hi : i + 6 ≤ L) (k1 : ∀ M1 T1, Rel M1 → Rn (roS L xs) (d + 91) M_L_law 1367 [some (.ref 0), some (.ref 3), some (.ref 64), some (.int (nI i))] [] (mk M1 T1) Q) : Rn (roS L xs) (d + 91) M_L_law 602 [some (.ref 0), some (.ref 3), some (.ref 64), some (.int (nI i))] [] (mk M T) Q := by
  obtain ⟨v, M1, T1, M2, T2, hX, hM, hr⟩ : OpOK (roS L xs) M_X7_law M_X8_law [some (.ref 3), some (.int (xs (i + 1))), some (.int (xs (i + 2))), some (.int (xs (i + 3))), some (.int (xs (i + 4)))] [some (.ref 64), some (.int (xs (i + 1))), some (.int (xs (i + 2))), some (.int (xs (i + 3))), some (.int (xs (i + 4)))] M T := op_law h
  refine R_go 5 (pc' := 607) (L' := [some (.ref 0), some (.ref 3), some (.ref 64), some (.int (nI i))]) (st' := [.int (nI i + 1), .ref 0, .ref 3]) (h' := mk M T) (fun _ => rfl) ?_
  refine R_top (nI_add i 1) ?_
  refine R_ialdO (a := 0) (n := L) (f := xs) (j := i + 1) rfl rfl (by omega) (by omega) ?_
  refine R_go 4 (pc' := 612) (L' := [some (.ref 0), some (.ref 3), some (.ref 64), some (.int (nI i))]) (st' := [.int (nI i + 2), .ref 0, .int (xs (i + 1)), .ref 3]) (h' := mk M T) (fun _ => rfl) ?_
  refine R_top (nI_add i 2) ?_
  refine R_ialdO (a := 0) (n := L) (f := xs) (j := i + 2) rfl rfl (by omega) (by omega) ?_
  refine R_go 4 (pc' := 617) (L' := [some (.ref 0), some (.ref 3), some (.ref 64), some (.int (nI i))]) (st' := [.int (nI i + 3), .ref 0, .int (xs (i + 2)), .int (xs (i + 1)), .ref 3]) (h' := mk M T) (fun _ => rfl) ?_
  refine R_top (nI_add i 3) ?_
  refine R_ialdO (a := 0) (n := L) (f := xs) (j := i + 3) rfl rfl (by omega) (by omega) ?_
  refine R_go 4 (pc' := 622) (L' := [some (.ref 0), some (.ref 3), some (.ref 64), some (.int (nI i))]) (st' := [.int (nI i + 4), .ref 0, .int (xs (i + 3)), .int (xs (i + 2)), .int (xs (i + 1)), .ref 3]) (h' := mk M T) (fun _ => rfl) ?_
  refine R_top (nI_add i 4) ?_
  refine R_ialdO (a := 0) (n := L) (f := xs) (j := i + 4) rfl rfl (by omega) (by omega) ?_
  refine R_callD (i := .invokevirtual 68) (kd := 0) (y := M_X7_law) (as := [.ref 3, .int (xs (i + 1)), .int (xs (i + 2)), .int (xs (i + 3)), .int (xs (i + 4))]) (r := []) (L0 := [some (.ref 3), some (.int (xs (i + 1))), some (.int (xs (i + 2))), some (.int (xs (i + 3))), some (.int (xs (i + 4)))]) (v := some (.int v)) (h' := mk M1 T1) (pc' := 626) (st' := [.int v]) rfl rfl rfl rfl rfl rfl (hX d) ?_
  refine R_go 5 (pc' := 631) (L' := [some (.ref 0), some (.ref 3), some (.ref 64), some (.int (nI i))]) (st' := [.int (nI i + 1), .ref 0, .ref 64, .int v]) (h' := mk M1 T1) (fun _ => rfl) ?_
  refine R_top (nI_add i 1) ?_
  refine R_ialdO (a := 0) (n := L) (f := xs) (j := i + 1) rfl rfl (by omega) (by omega) ?_
  refine R_go 4 (pc' := 636) (L' := [some (.ref 0), some (.ref 3), some (.ref 64), some (.int (nI i))]) (st' := [.int (nI i + 2), .ref 0, .int (xs (i + 1)), .ref 64, .int v]) (h' := mk M1 T1) (fun _ => rfl) ?_
  refine R_top (nI_add i 2) ?_
  refine R_ialdO (a := 0) (n := L) (f := xs) (j := i + 2) rfl rfl (by omega) (by omega) ?_
  refine R_go 4 (pc' := 641) (L' := [some (.ref 0), some (.ref 3), some (.ref 64), some (.int (nI i))]) (st' := [.int (nI i + 3), .ref 0, .int (xs (i + 2)), .int (xs (i + 1)), .ref 64, .int v]) (h' := mk M1 T1) (fun _ => rfl) ?_
  refine R_top (nI_add i 3) ?_
  refine R_ialdO (a := 0) (n := L) (f := xs) (j := i + 3) rfl rfl (by omega) (by omega) ?_
  refine R_go 4 (pc' := 646) (L' := [some (.ref 0), some (.ref 3), some (.ref 64), some (.int (nI i))]) (st' := [.int (nI i + 4), .ref 0, .int (xs (i + 3)), .int (xs (i + 2)), .int (xs (i + 1)), .ref 64, .int v]) (h' := mk M1 T1) (fun _ => rfl) ?_
  refine R_top (nI_add i 4) ?_
  refine R_ialdO (a := 0) (n := L) (f := xs) (j := i + 4) rfl rfl (by omega) (by omega) ?_
  refine R_callD (i := .invokevirtual 72) (kd := 0) (y := M_X8_law) (as := [.ref 64, .int (xs (i + 1)), .int (xs (i + 2)), .int (xs (i + 3)), .int (xs (i + 4))]) (r := [.int v]) (L0 := [some (.ref 64), some (.int (xs (i + 1))), some (.int (xs (i + 2))), some (.int (xs (i + 3))), some (.int (xs (i + 4)))]) (v := some (.int v)) (h' := mk M2 T2) (pc' := 650) (st' := [.int v, .int v]) rfl rfl rfl rfl rfl rfl (hM d) ?_
  refine R_if 1 (c := v = v) (t := 1367) (f := 653) (L' := [some (.ref 0), some (.ref 3), some (.ref 64), some (.int (nI i))]) (st' := []) (h' := mk M2 T2) (fun _ => rfl) (fun g1 => ?_) (fun g1 => ?_)
  · exact k1 M2 T2 hr
  · exact absurd (rfl) g1
set_option maxRecDepth 100000 in
set_option maxHeartbeats 4000000 in
theorem lw_op_13 {L : Nat} {xs : Nat → Int32} (hL : L ≤ 3072) {d : Nat} {M : xM} {T : Nat} {Q : Option Value → xH → Prop} (h : Rel M) {i : Nat} (hi : i + 6 ≤ L) (k1 : ∀ M1 T1, Rel M1 → Rn (roS L xs) (d + 91) M_L_law 1367 [some (.ref 0), some (.ref 3), some (.ref 64), some (.int (nI i))] [] (mk M1 T1) Q) : Rn (roS L xs) (d + 91) M_L_law 655 [some (.ref 0), some (.ref 3), some (.ref 64), some (.int (nI i))] [] (mk M T) Q := by
  obtain ⟨v, M1, T1, M2, T2, hX, hM, hr⟩ : OpOK (roS L xs) M_X7_round M_X8_round [some (.ref 3), some (.int (xs (i + 1))), none] [some (.ref 64), some (.int (xs (i + 1)))] M T := op_round h
  refine R_go 5 (pc' := 660) (L' := [some (.ref 0), some (.ref 3), some (.ref 64), some (.int (nI i))]) (st' := [.int (nI i + 1), .ref 0, .ref 3]) (h' := mk M T) (fun _ => rfl) ?_
  refine R_top (nI_add i 1) ?_
  refine R_ialdO (a := 0) (n := L) (f := xs) (j := i + 1) rfl rfl (by omega) (by omega) ?_
  refine R_callD (i := .invokevirtual 73) (kd := 0) (y := M_X7_round) (as := [.ref 3, .int (xs (i + 1))]) (r := []) (L0 := [some (.ref 3), some (.int (xs (i + 1))), none]) (v := some (.int v)) (h' := mk M1 T1) (pc' := 664) (st' := [.int v]) rfl rfl rfl rfl rfl rfl (hX d) ?_
  refine R_go 5 (pc' := 669) (L' := [some (.ref 0), some (.ref 3), some (.ref 64), some (.int (nI i))]) (st' := [.int (nI i + 1), .ref 0, .ref 64, .int v]) (h' := mk M1 T1) (fun _ => rfl) ?_
  refine R_top (nI_add i 1) ?_
  refine R_ialdO (a := 0) (n := L) (f := xs) (j := i + 1) rfl rfl (by omega) (by omega) ?_
  refine R_callD (i := .invokevirtual 76) (kd := 0) (y := M_X8_round) (as := [.ref 64, .int (xs (i + 1))]) (r := [.int v]) (L0 := [some (.ref 64), some (.int (xs (i + 1)))]) (v := some (.int v)) (h' := mk M2 T2) (pc' := 673) (st' := [.int v, .int v]) rfl rfl rfl rfl rfl rfl (hM d) ?_
  refine R_if 1 (c := v = v) (t := 1367) (f := 676) (L' := [some (.ref 0), some (.ref 3), some (.ref 64), some (.int (nI i))]) (st' := []) (h' := mk M2 T2) (fun _ => rfl) (fun g1 => ?_) (fun g1 => ?_)
  · exact k1 M2 T2 hr
  · exact absurd (rfl) g1
set_option maxRecDepth 100000 in
set_option maxHeartbeats 4000000 in
theorem lw_op_14 {L : Nat} {xs : Nat → Int32} (hL : L ≤ 3072) {d : Nat} {M : xM} {T : Nat} {Q : Option Value → xH → Prop} (h : Rel M) {i : Nat} (hi : i + 6 ≤ L) (k1 : ∀ M1 T1, Rel M1 → Rn (roS L xs) (d + 91) M_L_law 1367 [some (.ref 0), some (.ref 3), some (.ref 64), some (.int (nI i))] [] (mk M1 T1) Q) : Rn (roS L xs) (d + 91) M_L_law 678 [some (.ref 0), some (.ref 3), some (.ref 64), some (.int (nI i))] [] (mk M T) Q := by
  obtain ⟨v, M1, T1, M2, T2, hX, hM, hr⟩ : OpOK (roS L xs) M_X7_reading M_X8_reading [some (.ref 3), some (.int (xs (i + 1))), none] [some (.ref 64), some (.int (xs (i + 1)))] M T := op_reading h
  refine R_go 5 (pc' := 683) (L' := [some (.ref 0), some (.ref 3), some (.ref 64), some (.int (nI i))]) (st' := [.int (nI i + 1), .ref 0, .ref 3]) (h' := mk M T) (fun _ => rfl) ?_
  refine R_top (nI_add i 1) ?_
  refine R_ialdO (a := 0) (n := L) (f := xs) (j := i + 1) rfl rfl (by omega) (by omega) ?_
  refine R_callD (i := .invokevirtual 77) (kd := 0) (y := M_X7_reading) (as := [.ref 3, .int (xs (i + 1))]) (r := []) (L0 := [some (.ref 3), some (.int (xs (i + 1))), none]) (v := some (.int v)) (h' := mk M1 T1) (pc' := 687) (st' := [.int v]) rfl rfl rfl rfl rfl rfl (hX d) ?_
  refine R_go 5 (pc' := 692) (L' := [some (.ref 0), some (.ref 3), some (.ref 64), some (.int (nI i))]) (st' := [.int (nI i + 1), .ref 0, .ref 64, .int v]) (h' := mk M1 T1) (fun _ => rfl) ?_
  refine R_top (nI_add i 1) ?_
  refine R_ialdO (a := 0) (n := L) (f := xs) (j := i + 1) rfl rfl (by omega) (by omega) ?_
  refine R_callD (i := .invokevirtual 80) (kd := 0) (y := M_X8_reading) (as := [.ref 64, .int (xs (i + 1))]) (r := [.int v]) (L0 := [some (.ref 64), some (.int (xs (i + 1)))]) (v := some (.int v)) (h' := mk M2 T2) (pc' := 696) (st' := [.int v, .int v]) rfl rfl rfl rfl rfl rfl (hM d) ?_
  refine R_if 1 (c := v = v) (t := 1367) (f := 699) (L' := [some (.ref 0), some (.ref 3), some (.ref 64), some (.int (nI i))]) (st' := []) (h' := mk M2 T2) (fun _ => rfl) (fun g1 => ?_) (fun g1 => ?_)
  · exact k1 M2 T2 hr
  · exact absurd (rfl) g1
set_option maxRecDepth 100000 in
set_option maxHeartbeats 4000000 in
theorem lw_op_15 {L : Nat} {xs : Nat → Int32} (hL : L ≤ 3072) {d : Nat} {M : xM} {T : Nat} {Q : Option Value → xH → Prop} (h : Rel M) {i : Nat} (hi : i + 6 ≤ L) (k1 : ∀ M1 T1, Rel M1 → Rn (roS L xs) (d + 91) M_L_law 1367 [some (.ref 0), some (.ref 3), some (.ref 64), some (.int (nI i))] [] (mk M1 T1) Q) : Rn (roS L xs) (d + 91) M_L_law 701 [some (.ref 0), some (.ref 3), some (.ref 64), some (.int (nI i))] [] (mk M T) Q := by
  obtain ⟨v, M1, T1, M2, T2, hX, hM, hr⟩ : OpOK (roS L xs) M_X7_loose M_X8_loose [some (.ref 3), some (.int (xs (i + 1))), none] [some (.ref 64), some (.int (xs (i + 1))), none] M T := op_loose h
  refine R_go 5 (pc' := 706) (L' := [some (.ref 0), some (.ref 3), some (.ref 64), some (.int (nI i))]) (st' := [.int (nI i + 1), .ref 0, .ref 3]) (h' := mk M T) (fun _ => rfl) ?_
  refine R_top (nI_add i 1) ?_
  refine R_ialdO (a := 0) (n := L) (f := xs) (j := i + 1) rfl rfl (by omega) (by omega) ?_
  refine R_callD (i := .invokevirtual 81) (kd := 0) (y := M_X7_loose) (as := [.ref 3, .int (xs (i + 1))]) (r := []) (L0 := [some (.ref 3), some (.int (xs (i + 1))), none]) (v := some (.int v)) (h' := mk M1 T1) (pc' := 710) (st' := [.int v]) rfl rfl rfl rfl rfl rfl (hX d) ?_
  refine R_go 5 (pc' := 715) (L' := [some (.ref 0), some (.ref 3), some (.ref 64), some (.int (nI i))]) (st' := [.int (nI i + 1), .ref 0, .ref 64, .int v]) (h' := mk M1 T1) (fun _ => rfl) ?_
  refine R_top (nI_add i 1) ?_
  refine R_ialdO (a := 0) (n := L) (f := xs) (j := i + 1) rfl rfl (by omega) (by omega) ?_
  refine R_callD (i := .invokevirtual 84) (kd := 0) (y := M_X8_loose) (as := [.ref 64, .int (xs (i + 1))]) (r := [.int v]) (L0 := [some (.ref 64), some (.int (xs (i + 1))), none]) (v := some (.int v)) (h' := mk M2 T2) (pc' := 719) (st' := [.int v, .int v]) rfl rfl rfl rfl rfl rfl (hM d) ?_
  refine R_if 1 (c := v = v) (t := 1367) (f := 722) (L' := [some (.ref 0), some (.ref 3), some (.ref 64), some (.int (nI i))]) (st' := []) (h' := mk M2 T2) (fun _ => rfl) (fun g1 => ?_) (fun g1 => ?_)
  · exact k1 M2 T2 hr
  · exact absurd (rfl) g1
set_option maxRecDepth 100000 in
set_option maxHeartbeats 4000000 in
theorem lw_op_16 {L : Nat} {xs : Nat → Int32} (hL : L ≤ 3072) {d : Nat} {M : xM} {T : Nat} {Q : Option Value → xH → Prop} (h : Rel M) {i : Nat} (hi : i + 6 ≤ L) (k1 : ∀ M1 T1, Rel M1 → Rn (roS L xs) (d + 91) M_L_law 1367 [some (.ref 0), some (.ref 3), some (.ref 64), some (.int (nI i))] [] (mk M1 T1) Q) : Rn (roS L xs) (d + 91) M_L_law 724 [some (.ref 0), some (.ref 3), some (.ref 64), some (.int (nI i))] [] (mk M T) Q := by
  obtain ⟨v, M1, T1, M2, T2, hX, hM, hr⟩ : OpOK (roS L xs) M_X7_seed M_X8_seed [some (.ref 3), some (.int (xs (i + 1))), none] [some (.ref 64), some (.int (xs (i + 1)))] M T := op_seed h
  refine R_go 5 (pc' := 729) (L' := [some (.ref 0), some (.ref 3), some (.ref 64), some (.int (nI i))]) (st' := [.int (nI i + 1), .ref 0, .ref 3]) (h' := mk M T) (fun _ => rfl) ?_
  refine R_top (nI_add i 1) ?_
  refine R_ialdO (a := 0) (n := L) (f := xs) (j := i + 1) rfl rfl (by omega) (by omega) ?_
  refine R_callD (i := .invokevirtual 85) (kd := 0) (y := M_X7_seed) (as := [.ref 3, .int (xs (i + 1))]) (r := []) (L0 := [some (.ref 3), some (.int (xs (i + 1))), none]) (v := some (.int v)) (h' := mk M1 T1) (pc' := 733) (st' := [.int v]) rfl rfl rfl rfl rfl rfl (hX d) ?_
  refine R_go 5 (pc' := 738) (L' := [some (.ref 0), some (.ref 3), some (.ref 64), some (.int (nI i))]) (st' := [.int (nI i + 1), .ref 0, .ref 64, .int v]) (h' := mk M1 T1) (fun _ => rfl) ?_
  refine R_top (nI_add i 1) ?_
  refine R_ialdO (a := 0) (n := L) (f := xs) (j := i + 1) rfl rfl (by omega) (by omega) ?_
  refine R_callD (i := .invokevirtual 88) (kd := 0) (y := M_X8_seed) (as := [.ref 64, .int (xs (i + 1))]) (r := [.int v]) (L0 := [some (.ref 64), some (.int (xs (i + 1)))]) (v := some (.int v)) (h' := mk M2 T2) (pc' := 742) (st' := [.int v, .int v]) rfl rfl rfl rfl rfl rfl (hM d) ?_
  refine R_if 1 (c := v = v) (t := 1367) (f := 745) (L' := [some (.ref 0), some (.ref 3), some (.ref 64), some (.int (nI i))]) (st' := []) (h' := mk M2 T2) (fun _ => rfl) (fun g1 => ?_) (fun g1 => ?_)
  · exact k1 M2 T2 hr
  · exact absurd (rfl) g1
set_option maxRecDepth 100000 in
set_option maxHeartbeats 4000000 in
theorem lw_op_17 {L : Nat} {xs : Nat → Int32} (hL : L ≤ 3072) {d : Nat} {M : xM} {T : Nat} {Q : Option Value → xH → Prop} (h : Rel M) {i : Nat} (hi : i + 6 ≤ L) (k1 : ∀ M1 T1, Rel M1 → Rn (roS L xs) (d + 91) M_L_law 1367 [some (.ref 0), some (.ref 3), some (.ref 64), some (.int (nI i))] [] (mk M1 T1) Q) : Rn (roS L xs) (d + 91) M_L_law 747 [some (.ref 0), some (.ref 3), some (.ref 64), some (.int (nI i))] [] (mk M T) Q := by
  obtain ⟨v, M1, T1, M2, T2, hX, hM, hr⟩ : OpOK (roS L xs) M_X7_left M_X8_left [some (.ref 3), some (.int (xs (i + 1))), some (.int (xs (i + 2))), none] [some (.ref 64), some (.int (xs (i + 1))), some (.int (xs (i + 2)))] M T := op_left h
  refine R_go 5 (pc' := 752) (L' := [some (.ref 0), some (.ref 3), some (.ref 64), some (.int (nI i))]) (st' := [.int (nI i + 1), .ref 0, .ref 3]) (h' := mk M T) (fun _ => rfl) ?_
  refine R_top (nI_add i 1) ?_
  refine R_ialdO (a := 0) (n := L) (f := xs) (j := i + 1) rfl rfl (by omega) (by omega) ?_
  refine R_go 4 (pc' := 757) (L' := [some (.ref 0), some (.ref 3), some (.ref 64), some (.int (nI i))]) (st' := [.int (nI i + 2), .ref 0, .int (xs (i + 1)), .ref 3]) (h' := mk M T) (fun _ => rfl) ?_
  refine R_top (nI_add i 2) ?_
  refine R_ialdO (a := 0) (n := L) (f := xs) (j := i + 2) rfl rfl (by omega) (by omega) ?_
  refine R_callD (i := .invokevirtual 89) (kd := 0) (y := M_X7_left) (as := [.ref 3, .int (xs (i + 1)), .int (xs (i + 2))]) (r := []) (L0 := [some (.ref 3), some (.int (xs (i + 1))), some (.int (xs (i + 2))), none]) (v := some (.int v)) (h' := mk M1 T1) (pc' := 761) (st' := [.int v]) rfl rfl rfl rfl rfl rfl (hX d) ?_
  refine R_go 5 (pc' := 766) (L' := [some (.ref 0), some (.ref 3), some (.ref 64), some (.int (nI i))]) (st' := [.int (nI i + 1), .ref 0, .ref 64, .int v]) (h' := mk M1 T1) (fun _ => rfl) ?_
  refine R_top (nI_add i 1) ?_
  refine R_ialdO (a := 0) (n := L) (f := xs) (j := i + 1) rfl rfl (by omega) (by omega) ?_
  refine R_go 4 (pc' := 771) (L' := [some (.ref 0), some (.ref 3), some (.ref 64), some (.int (nI i))]) (st' := [.int (nI i + 2), .ref 0, .int (xs (i + 1)), .ref 64, .int v]) (h' := mk M1 T1) (fun _ => rfl) ?_
  refine R_top (nI_add i 2) ?_
  refine R_ialdO (a := 0) (n := L) (f := xs) (j := i + 2) rfl rfl (by omega) (by omega) ?_
  refine R_callD (i := .invokevirtual 92) (kd := 0) (y := M_X8_left) (as := [.ref 64, .int (xs (i + 1)), .int (xs (i + 2))]) (r := [.int v]) (L0 := [some (.ref 64), some (.int (xs (i + 1))), some (.int (xs (i + 2)))]) (v := some (.int v)) (h' := mk M2 T2) (pc' := 775) (st' := [.int v, .int v]) rfl rfl rfl rfl rfl rfl (hM d) ?_
  refine R_if 1 (c := v = v) (t := 1367) (f := 778) (L' := [some (.ref 0), some (.ref 3), some (.ref 64), some (.int (nI i))]) (st' := []) (h' := mk M2 T2) (fun _ => rfl) (fun g1 => ?_) (fun g1 => ?_)
  · exact k1 M2 T2 hr
  · exact absurd (rfl) g1
set_option maxRecDepth 100000 in
set_option maxHeartbeats 4000000 in
theorem lw_op_18 {L : Nat} {xs : Nat → Int32} (hL : L ≤ 3072) {d : Nat} {M : xM} {T : Nat} {Q : Option Value → xH → Prop} (h : Rel M) {i : Nat} (hi : i + 6 ≤ L) (k1 : ∀ M1 T1, Rel M1 → Rn (roS L xs) (d + 91) M_L_law 1367 [some (.ref 0), some (.ref 3), some (.ref 64), some (.int (nI i))] [] (mk M1 T1) Q) : Rn (roS L xs) (d + 91) M_L_law 780 [some (.ref 0), some (.ref 3), some (.ref 64), some (.int (nI i))] [] (mk M T) Q := by
  obtain ⟨v, M1, T1, M2, T2, hX, hM, hr⟩ : OpOK (roS L xs) M_X7_best M_X8_best [some (.ref 3), some (.int (xs (i + 1)))] [some (.ref 64), some (.int (xs (i + 1)))] M T := op_best h
  refine R_go 5 (pc' := 785) (L' := [some (.ref 0), some (.ref 3), some (.ref 64), some (.int (nI i))]) (st' := [.int (nI i + 1), .ref 0, .ref 3]) (h' := mk M T) (fun _ => rfl) ?_
  refine R_top (nI_add i 1) ?_
  refine R_ialdO (a := 0) (n := L) (f := xs) (j := i + 1) rfl rfl (by omega) (by omega) ?_
  refine R_callD (i := .invokevirtual 93) (kd := 0) (y := M_X7_best) (as := [.ref 3, .int (xs (i + 1))]) (r := []) (L0 := [some (.ref 3), some (.int (xs (i + 1)))]) (v := some (.int v)) (h' := mk M1 T1) (pc' := 789) (st' := [.int v]) rfl rfl rfl rfl rfl rfl (hX d) ?_
  refine R_go 5 (pc' := 794) (L' := [some (.ref 0), some (.ref 3), some (.ref 64), some (.int (nI i))]) (st' := [.int (nI i + 1), .ref 0, .ref 64, .int v]) (h' := mk M1 T1) (fun _ => rfl) ?_
  refine R_top (nI_add i 1) ?_
  refine R_ialdO (a := 0) (n := L) (f := xs) (j := i + 1) rfl rfl (by omega) (by omega) ?_
  refine R_callD (i := .invokevirtual 96) (kd := 0) (y := M_X8_best) (as := [.ref 64, .int (xs (i + 1))]) (r := [.int v]) (L0 := [some (.ref 64), some (.int (xs (i + 1)))]) (v := some (.int v)) (h' := mk M2 T2) (pc' := 798) (st' := [.int v, .int v]) rfl rfl rfl rfl rfl rfl (hM d) ?_
  refine R_if 1 (c := v = v) (t := 1367) (f := 801) (L' := [some (.ref 0), some (.ref 3), some (.ref 64), some (.int (nI i))]) (st' := []) (h' := mk M2 T2) (fun _ => rfl) (fun g1 => ?_) (fun g1 => ?_)
  · exact k1 M2 T2 hr
  · exact absurd (rfl) g1
set_option maxRecDepth 100000 in
set_option maxHeartbeats 4000000 in
theorem lw_op_19 {L : Nat} {xs : Nat → Int32} (hL : L ≤ 3072) {d : Nat} {M : xM} {T : Nat} {Q : Option Value → xH → Prop} (h : Rel M) {i : Nat} (hi : i + 6 ≤ L) (k1 : ∀ M1 T1, Rel M1 → Rn (roS L xs) (d + 91) M_L_law 1367 [some (.ref 0), some (.ref 3), some (.ref 64), some (.int (nI i))] [] (mk M1 T1) Q) : Rn (roS L xs) (d + 91) M_L_law 803 [some (.ref 0), some (.ref 3), some (.ref 64), some (.int (nI i))] [] (mk M T) Q := by
  obtain ⟨v, M1, T1, M2, T2, hX, hM, hr⟩ : OpOK (roS L xs) M_X7_share M_X8_share [some (.ref 3), some (.int (xs (i + 1)))] [some (.ref 64), some (.int (xs (i + 1))), none] M T := op_share h
  refine R_go 5 (pc' := 808) (L' := [some (.ref 0), some (.ref 3), some (.ref 64), some (.int (nI i))]) (st' := [.int (nI i + 1), .ref 0, .ref 3]) (h' := mk M T) (fun _ => rfl) ?_
  refine R_top (nI_add i 1) ?_
  refine R_ialdO (a := 0) (n := L) (f := xs) (j := i + 1) rfl rfl (by omega) (by omega) ?_
  refine R_callD (i := .invokevirtual 97) (kd := 0) (y := M_X7_share) (as := [.ref 3, .int (xs (i + 1))]) (r := []) (L0 := [some (.ref 3), some (.int (xs (i + 1)))]) (v := some (.int v)) (h' := mk M1 T1) (pc' := 812) (st' := [.int v]) rfl rfl rfl rfl rfl rfl (hX d) ?_
  refine R_go 5 (pc' := 817) (L' := [some (.ref 0), some (.ref 3), some (.ref 64), some (.int (nI i))]) (st' := [.int (nI i + 1), .ref 0, .ref 64, .int v]) (h' := mk M1 T1) (fun _ => rfl) ?_
  refine R_top (nI_add i 1) ?_
  refine R_ialdO (a := 0) (n := L) (f := xs) (j := i + 1) rfl rfl (by omega) (by omega) ?_
  refine R_callD (i := .invokevirtual 100) (kd := 0) (y := M_X8_share) (as := [.ref 64, .int (xs (i + 1))]) (r := [.int v]) (L0 := [some (.ref 64), some (.int (xs (i + 1))), none]) (v := some (.int v)) (h' := mk M2 T2) (pc' := 821) (st' := [.int v, .int v]) rfl rfl rfl rfl rfl rfl (hM d) ?_
  refine R_if 1 (c := v = v) (t := 1367) (f := 824) (L' := [some (.ref 0), some (.ref 3), some (.ref 64), some (.int (nI i))]) (st' := []) (h' := mk M2 T2) (fun _ => rfl) (fun g1 => ?_) (fun g1 => ?_)
  · exact k1 M2 T2 hr
  · exact absurd (rfl) g1
set_option maxRecDepth 100000 in
set_option maxHeartbeats 4000000 in
theorem lw_op_20 {L : Nat} {xs : Nat → Int32} (hL : L ≤ 3072) {d : Nat} {M : xM} {T : Nat} {Q : Option Value → xH → Prop} (h : Rel M) {i : Nat} (hi : i + 6 ≤ L) (k1 : ∀ M1 T1, Rel M1 → Rn (roS L xs) (d + 91) M_L_law 1367 [some (.ref 0), some (.ref 3), some (.ref 64), some (.int (nI i))] [] (mk M1 T1) Q) : Rn (roS L xs) (d + 91) M_L_law 826 [some (.ref 0), some (.ref 3), some (.ref 64), some (.int (nI i))] [] (mk M T) Q := by
  obtain ⟨v, M1, T1, M2, T2, hX, hM, hr⟩ : OpOK (roS L xs) M_X7_coldFor M_X8_coldFor [some (.ref 3), some (.int (xs (i + 1))), some (.int (xs (i + 2))), none, none] [some (.ref 64), some (.int (xs (i + 1))), some (.int (xs (i + 2))), none, none, none] M T := op_coldFor h
  refine R_go 5 (pc' := 831) (L' := [some (.ref 0), some (.ref 3), some (.ref 64), some (.int (nI i))]) (st' := [.int (nI i + 1), .ref 0, .ref 3]) (h' := mk M T) (fun _ => rfl) ?_
  refine R_top (nI_add i 1) ?_
  refine R_ialdO (a := 0) (n := L) (f := xs) (j := i + 1) rfl rfl (by omega) (by omega) ?_
  refine R_go 4 (pc' := 836) (L' := [some (.ref 0), some (.ref 3), some (.ref 64), some (.int (nI i))]) (st' := [.int (nI i + 2), .ref 0, .int (xs (i + 1)), .ref 3]) (h' := mk M T) (fun _ => rfl) ?_
  refine R_top (nI_add i 2) ?_
  refine R_ialdO (a := 0) (n := L) (f := xs) (j := i + 2) rfl rfl (by omega) (by omega) ?_
  refine R_callD (i := .invokevirtual 101) (kd := 0) (y := M_X7_coldFor) (as := [.ref 3, .int (xs (i + 1)), .int (xs (i + 2))]) (r := []) (L0 := [some (.ref 3), some (.int (xs (i + 1))), some (.int (xs (i + 2))), none, none]) (v := some (.int v)) (h' := mk M1 T1) (pc' := 840) (st' := [.int v]) rfl rfl rfl rfl rfl rfl (hX d) ?_
  refine R_go 5 (pc' := 845) (L' := [some (.ref 0), some (.ref 3), some (.ref 64), some (.int (nI i))]) (st' := [.int (nI i + 1), .ref 0, .ref 64, .int v]) (h' := mk M1 T1) (fun _ => rfl) ?_
  refine R_top (nI_add i 1) ?_
  refine R_ialdO (a := 0) (n := L) (f := xs) (j := i + 1) rfl rfl (by omega) (by omega) ?_
  refine R_go 4 (pc' := 850) (L' := [some (.ref 0), some (.ref 3), some (.ref 64), some (.int (nI i))]) (st' := [.int (nI i + 2), .ref 0, .int (xs (i + 1)), .ref 64, .int v]) (h' := mk M1 T1) (fun _ => rfl) ?_
  refine R_top (nI_add i 2) ?_
  refine R_ialdO (a := 0) (n := L) (f := xs) (j := i + 2) rfl rfl (by omega) (by omega) ?_
  refine R_callD (i := .invokevirtual 104) (kd := 0) (y := M_X8_coldFor) (as := [.ref 64, .int (xs (i + 1)), .int (xs (i + 2))]) (r := [.int v]) (L0 := [some (.ref 64), some (.int (xs (i + 1))), some (.int (xs (i + 2))), none, none, none]) (v := some (.int v)) (h' := mk M2 T2) (pc' := 854) (st' := [.int v, .int v]) rfl rfl rfl rfl rfl rfl (hM d) ?_
  refine R_if 1 (c := v = v) (t := 1367) (f := 857) (L' := [some (.ref 0), some (.ref 3), some (.ref 64), some (.int (nI i))]) (st' := []) (h' := mk M2 T2) (fun _ => rfl) (fun g1 => ?_) (fun g1 => ?_)
  · exact k1 M2 T2 hr
  · exact absurd (rfl) g1
set_option maxRecDepth 100000 in
set_option maxHeartbeats 4000000 in
theorem lw_op_21 {L : Nat} {xs : Nat → Int32} (hL : L ≤ 3072) {d : Nat} {M : xM} {T : Nat} {Q : Option Value → xH → Prop} (h : Rel M) {i : Nat} (hi : i + 6 ≤ L) (k1 : ∀ M1 T1, Rel M1 → Rn (roS L xs) (d + 91) M_L_law 1367 [some (.ref 0), some (.ref 3), some (.ref 64), some (.int (nI i))] [] (mk M1 T1) Q) : Rn (roS L xs) (d + 91) M_L_law 859 [some (.ref 0), some (.ref 3), some (.ref 64), some (.int (nI i))] [] (mk M T) Q := by
  obtain ⟨v, M1, T1, M2, T2, hX, hM, hr⟩ : OpOK (roS L xs) M_X7_breath M_X8_breath [some (.ref 3), some (.int (xs (i + 1))), some (.int (xs (i + 2))), some (.int (xs (i + 3))), none] [some (.ref 64), some (.int (xs (i + 1))), some (.int (xs (i + 2))), some (.int (xs (i + 3))), none, none] M T := op_breath h
  refine R_go 5 (pc' := 864) (L' := [some (.ref 0), some (.ref 3), some (.ref 64), some (.int (nI i))]) (st' := [.int (nI i + 1), .ref 0, .ref 3]) (h' := mk M T) (fun _ => rfl) ?_
  refine R_top (nI_add i 1) ?_
  refine R_ialdO (a := 0) (n := L) (f := xs) (j := i + 1) rfl rfl (by omega) (by omega) ?_
  refine R_go 4 (pc' := 869) (L' := [some (.ref 0), some (.ref 3), some (.ref 64), some (.int (nI i))]) (st' := [.int (nI i + 2), .ref 0, .int (xs (i + 1)), .ref 3]) (h' := mk M T) (fun _ => rfl) ?_
  refine R_top (nI_add i 2) ?_
  refine R_ialdO (a := 0) (n := L) (f := xs) (j := i + 2) rfl rfl (by omega) (by omega) ?_
  refine R_go 4 (pc' := 874) (L' := [some (.ref 0), some (.ref 3), some (.ref 64), some (.int (nI i))]) (st' := [.int (nI i + 3), .ref 0, .int (xs (i + 2)), .int (xs (i + 1)), .ref 3]) (h' := mk M T) (fun _ => rfl) ?_
  refine R_top (nI_add i 3) ?_
  refine R_ialdO (a := 0) (n := L) (f := xs) (j := i + 3) rfl rfl (by omega) (by omega) ?_
  refine R_callD (i := .invokevirtual 105) (kd := 0) (y := M_X7_breath) (as := [.ref 3, .int (xs (i + 1)), .int (xs (i + 2)), .int (xs (i + 3))]) (r := []) (L0 := [some (.ref 3), some (.int (xs (i + 1))), some (.int (xs (i + 2))), some (.int (xs (i + 3))), none]) (v := some (.int v)) (h' := mk M1 T1) (pc' := 878) (st' := [.int v]) rfl rfl rfl rfl rfl rfl (hX d) ?_
  refine R_go 5 (pc' := 883) (L' := [some (.ref 0), some (.ref 3), some (.ref 64), some (.int (nI i))]) (st' := [.int (nI i + 1), .ref 0, .ref 64, .int v]) (h' := mk M1 T1) (fun _ => rfl) ?_
  refine R_top (nI_add i 1) ?_
  refine R_ialdO (a := 0) (n := L) (f := xs) (j := i + 1) rfl rfl (by omega) (by omega) ?_
  refine R_go 4 (pc' := 888) (L' := [some (.ref 0), some (.ref 3), some (.ref 64), some (.int (nI i))]) (st' := [.int (nI i + 2), .ref 0, .int (xs (i + 1)), .ref 64, .int v]) (h' := mk M1 T1) (fun _ => rfl) ?_
  refine R_top (nI_add i 2) ?_
  refine R_ialdO (a := 0) (n := L) (f := xs) (j := i + 2) rfl rfl (by omega) (by omega) ?_
  refine R_go 4 (pc' := 893) (L' := [some (.ref 0), some (.ref 3), some (.ref 64), some (.int (nI i))]) (st' := [.int (nI i + 3), .ref 0, .int (xs (i + 2)), .int (xs (i + 1)), .ref 64, .int v]) (h' := mk M1 T1) (fun _ => rfl) ?_
  refine R_top (nI_add i 3) ?_
  refine R_ialdO (a := 0) (n := L) (f := xs) (j := i + 3) rfl rfl (by omega) (by omega) ?_
  refine R_callD (i := .invokevirtual 109) (kd := 0) (y := M_X8_breath) (as := [.ref 64, .int (xs (i + 1)), .int (xs (i + 2)), .int (xs (i + 3))]) (r := [.int v]) (L0 := [some (.ref 64), some (.int (xs (i + 1))), some (.int (xs (i + 2))), some (.int (xs (i + 3))), none, none]) (v := some (.int v)) (h' := mk M2 T2) (pc' := 897) (st' := [.int v, .int v]) rfl rfl rfl rfl rfl rfl (hM d) ?_
  refine R_if 1 (c := v = v) (t := 1367) (f := 900) (L' := [some (.ref 0), some (.ref 3), some (.ref 64), some (.int (nI i))]) (st' := []) (h' := mk M2 T2) (fun _ => rfl) (fun g1 => ?_) (fun g1 => ?_)
  · exact k1 M2 T2 hr
  · exact absurd (rfl) g1
set_option maxRecDepth 100000 in
set_option maxHeartbeats 4000000 in
theorem lw_op_22 {L : Nat} {xs : Nat → Int32} (hL : L ≤ 3072) {d : Nat} {M : xM} {T : Nat} {Q : Option Value → xH → Prop} (h : Rel M) {i : Nat} (hi : i + 6 ≤ L) (k1 : ∀ M1 T1, Rel M1 → Rn (roS L xs) (d + 91) M_L_law 1367 [some (.ref 0), some (.ref 3), some (.ref 64), some (.int (nI i))] [] (mk M1 T1) Q) : Rn (roS L xs) (d + 91) M_L_law 902 [some (.ref 0), some (.ref 3), some (.ref 64), some (.int (nI i))] [] (mk M T) Q := by
  obtain ⟨v, M1, T1, M2, T2, hX, hM, hr⟩ : OpOK (roS L xs) M_X7_odds M_X8_odds [some (.ref 3), some (.int (xs (i + 1))), some (.int (xs (i + 2))), some (.int (xs (i + 3))), some (.int (xs (i + 4))), none, none, none] [some (.ref 64), some (.int (xs (i + 1))), some (.int (xs (i + 2))), some (.int (xs (i + 3))), some (.int (xs (i + 4))), none, none, none] M T := op_odds h
  refine R_go 5 (pc' := 907) (L' := [some (.ref 0), some (.ref 3), some (.ref 64), some (.int (nI i))]) (st' := [.int (nI i + 1), .ref 0, .ref 3]) (h' := mk M T) (fun _ => rfl) ?_
  refine R_top (nI_add i 1) ?_
  refine R_ialdO (a := 0) (n := L) (f := xs) (j := i + 1) rfl rfl (by omega) (by omega) ?_
  refine R_go 4 (pc' := 912) (L' := [some (.ref 0), some (.ref 3), some (.ref 64), some (.int (nI i))]) (st' := [.int (nI i + 2), .ref 0, .int (xs (i + 1)), .ref 3]) (h' := mk M T) (fun _ => rfl) ?_
  refine R_top (nI_add i 2) ?_
  refine R_ialdO (a := 0) (n := L) (f := xs) (j := i + 2) rfl rfl (by omega) (by omega) ?_
  refine R_go 4 (pc' := 917) (L' := [some (.ref 0), some (.ref 3), some (.ref 64), some (.int (nI i))]) (st' := [.int (nI i + 3), .ref 0, .int (xs (i + 2)), .int (xs (i + 1)), .ref 3]) (h' := mk M T) (fun _ => rfl) ?_
  refine R_top (nI_add i 3) ?_
  refine R_ialdO (a := 0) (n := L) (f := xs) (j := i + 3) rfl rfl (by omega) (by omega) ?_
  refine R_go 4 (pc' := 922) (L' := [some (.ref 0), some (.ref 3), some (.ref 64), some (.int (nI i))]) (st' := [.int (nI i + 4), .ref 0, .int (xs (i + 3)), .int (xs (i + 2)), .int (xs (i + 1)), .ref 3]) (h' := mk M T) (fun _ => rfl) ?_
  refine R_top (nI_add i 4) ?_
  refine R_ialdO (a := 0) (n := L) (f := xs) (j := i + 4) rfl rfl (by omega) (by omega) ?_
  refine R_callD (i := .invokevirtual 110) (kd := 0) (y := M_X7_odds) (as := [.ref 3, .int (xs (i + 1)), .int (xs (i + 2)), .int (xs (i + 3)), .int (xs (i + 4))]) (r := []) (L0 := [some (.ref 3), some (.int (xs (i + 1))), some (.int (xs (i + 2))), some (.int (xs (i + 3))), some (.int (xs (i + 4))), none, none, none]) (v := some (.int v)) (h' := mk M1 T1) (pc' := 926) (st' := [.int v]) rfl rfl rfl rfl rfl rfl (hX d) ?_
  refine R_go 5 (pc' := 931) (L' := [some (.ref 0), some (.ref 3), some (.ref 64), some (.int (nI i))]) (st' := [.int (nI i + 1), .ref 0, .ref 64, .int v]) (h' := mk M1 T1) (fun _ => rfl) ?_
  refine R_top (nI_add i 1) ?_
  refine R_ialdO (a := 0) (n := L) (f := xs) (j := i + 1) rfl rfl (by omega) (by omega) ?_
  refine R_go 4 (pc' := 936) (L' := [some (.ref 0), some (.ref 3), some (.ref 64), some (.int (nI i))]) (st' := [.int (nI i + 2), .ref 0, .int (xs (i + 1)), .ref 64, .int v]) (h' := mk M1 T1) (fun _ => rfl) ?_
  refine R_top (nI_add i 2) ?_
  refine R_ialdO (a := 0) (n := L) (f := xs) (j := i + 2) rfl rfl (by omega) (by omega) ?_
  refine R_go 4 (pc' := 941) (L' := [some (.ref 0), some (.ref 3), some (.ref 64), some (.int (nI i))]) (st' := [.int (nI i + 3), .ref 0, .int (xs (i + 2)), .int (xs (i + 1)), .ref 64, .int v]) (h' := mk M1 T1) (fun _ => rfl) ?_
  refine R_top (nI_add i 3) ?_
  refine R_ialdO (a := 0) (n := L) (f := xs) (j := i + 3) rfl rfl (by omega) (by omega) ?_
  refine R_go 4 (pc' := 946) (L' := [some (.ref 0), some (.ref 3), some (.ref 64), some (.int (nI i))]) (st' := [.int (nI i + 4), .ref 0, .int (xs (i + 3)), .int (xs (i + 2)), .int (xs (i + 1)), .ref 64, .int v]) (h' := mk M1 T1) (fun _ => rfl) ?_
  refine R_top (nI_add i 4) ?_
  refine R_ialdO (a := 0) (n := L) (f := xs) (j := i + 4) rfl rfl (by omega) (by omega) ?_
  refine R_callD (i := .invokevirtual 113) (kd := 0) (y := M_X8_odds) (as := [.ref 64, .int (xs (i + 1)), .int (xs (i + 2)), .int (xs (i + 3)), .int (xs (i + 4))]) (r := [.int v]) (L0 := [some (.ref 64), some (.int (xs (i + 1))), some (.int (xs (i + 2))), some (.int (xs (i + 3))), some (.int (xs (i + 4))), none, none, none]) (v := some (.int v)) (h' := mk M2 T2) (pc' := 950) (st' := [.int v, .int v]) rfl rfl rfl rfl rfl rfl (hM d) ?_
  refine R_if 1 (c := v = v) (t := 1367) (f := 953) (L' := [some (.ref 0), some (.ref 3), some (.ref 64), some (.int (nI i))]) (st' := []) (h' := mk M2 T2) (fun _ => rfl) (fun g1 => ?_) (fun g1 => ?_)
  · exact k1 M2 T2 hr
  · exact absurd (rfl) g1
set_option maxRecDepth 100000 in
set_option maxHeartbeats 4000000 in
theorem lw_op_23 {L : Nat} {xs : Nat → Int32} (hL : L ≤ 3072) {d : Nat} {M : xM} {T : Nat} {Q : Option Value → xH → Prop} (h : Rel M) {i : Nat} (hi : i + 6 ≤ L) (k1 : ∀ M1 T1, Rel M1 → Rn (roS L xs) (d + 91) M_L_law 1367 [some (.ref 0), some (.ref 3), some (.ref 64), some (.int (nI i))] [] (mk M1 T1) Q) : Rn (roS L xs) (d + 91) M_L_law 955 [some (.ref 0), some (.ref 3), some (.ref 64), some (.int (nI i))] [] (mk M T) Q := by
  obtain ⟨v, M1, T1, M2, T2, hX, hM, hr⟩ : OpOK (roS L xs) M_X7_fits M_X8_fits [some (.ref 3), some (.int (xs (i + 1))), some (.int (xs (i + 2))), some (.int (xs (i + 3))), none, none, none, none] [some (.ref 64), some (.int (xs (i + 1))), some (.int (xs (i + 2))), some (.int (xs (i + 3))), none, none, none, none, none] M T := op_fits h
  refine R_go 5 (pc' := 960) (L' := [some (.ref 0), some (.ref 3), some (.ref 64), some (.int (nI i))]) (st' := [.int (nI i + 1), .ref 0, .ref 3]) (h' := mk M T) (fun _ => rfl) ?_
  refine R_top (nI_add i 1) ?_
  refine R_ialdO (a := 0) (n := L) (f := xs) (j := i + 1) rfl rfl (by omega) (by omega) ?_
  refine R_go 4 (pc' := 965) (L' := [some (.ref 0), some (.ref 3), some (.ref 64), some (.int (nI i))]) (st' := [.int (nI i + 2), .ref 0, .int (xs (i + 1)), .ref 3]) (h' := mk M T) (fun _ => rfl) ?_
  refine R_top (nI_add i 2) ?_
  refine R_ialdO (a := 0) (n := L) (f := xs) (j := i + 2) rfl rfl (by omega) (by omega) ?_
  refine R_go 4 (pc' := 970) (L' := [some (.ref 0), some (.ref 3), some (.ref 64), some (.int (nI i))]) (st' := [.int (nI i + 3), .ref 0, .int (xs (i + 2)), .int (xs (i + 1)), .ref 3]) (h' := mk M T) (fun _ => rfl) ?_
  refine R_top (nI_add i 3) ?_
  refine R_ialdO (a := 0) (n := L) (f := xs) (j := i + 3) rfl rfl (by omega) (by omega) ?_
  refine R_callD (i := .invokevirtual 114) (kd := 0) (y := M_X7_fits) (as := [.ref 3, .int (xs (i + 1)), .int (xs (i + 2)), .int (xs (i + 3))]) (r := []) (L0 := [some (.ref 3), some (.int (xs (i + 1))), some (.int (xs (i + 2))), some (.int (xs (i + 3))), none, none, none, none]) (v := some (.int v)) (h' := mk M1 T1) (pc' := 974) (st' := [.int v]) rfl rfl rfl rfl rfl rfl (hX d) ?_
  refine R_go 5 (pc' := 979) (L' := [some (.ref 0), some (.ref 3), some (.ref 64), some (.int (nI i))]) (st' := [.int (nI i + 1), .ref 0, .ref 64, .int v]) (h' := mk M1 T1) (fun _ => rfl) ?_
  refine R_top (nI_add i 1) ?_
  refine R_ialdO (a := 0) (n := L) (f := xs) (j := i + 1) rfl rfl (by omega) (by omega) ?_
  refine R_go 4 (pc' := 984) (L' := [some (.ref 0), some (.ref 3), some (.ref 64), some (.int (nI i))]) (st' := [.int (nI i + 2), .ref 0, .int (xs (i + 1)), .ref 64, .int v]) (h' := mk M1 T1) (fun _ => rfl) ?_
  refine R_top (nI_add i 2) ?_
  refine R_ialdO (a := 0) (n := L) (f := xs) (j := i + 2) rfl rfl (by omega) (by omega) ?_
  refine R_go 4 (pc' := 989) (L' := [some (.ref 0), some (.ref 3), some (.ref 64), some (.int (nI i))]) (st' := [.int (nI i + 3), .ref 0, .int (xs (i + 2)), .int (xs (i + 1)), .ref 64, .int v]) (h' := mk M1 T1) (fun _ => rfl) ?_
  refine R_top (nI_add i 3) ?_
  refine R_ialdO (a := 0) (n := L) (f := xs) (j := i + 3) rfl rfl (by omega) (by omega) ?_
  refine R_callD (i := .invokevirtual 117) (kd := 0) (y := M_X8_fits) (as := [.ref 64, .int (xs (i + 1)), .int (xs (i + 2)), .int (xs (i + 3))]) (r := [.int v]) (L0 := [some (.ref 64), some (.int (xs (i + 1))), some (.int (xs (i + 2))), some (.int (xs (i + 3))), none, none, none, none, none]) (v := some (.int v)) (h' := mk M2 T2) (pc' := 993) (st' := [.int v, .int v]) rfl rfl rfl rfl rfl rfl (hM d) ?_
  refine R_if 1 (c := v = v) (t := 1367) (f := 996) (L' := [some (.ref 0), some (.ref 3), some (.ref 64), some (.int (nI i))]) (st' := []) (h' := mk M2 T2) (fun _ => rfl) (fun g1 => ?_) (fun g1 => ?_)
  · exact k1 M2 T2 hr
  · exact absurd (rfl) g1
set_option maxRecDepth 100000 in
set_option maxHeartbeats 4000000 in
theorem lw_op_24 {L : Nat} {xs : Nat → Int32} (hL : L ≤ 3072) {d : Nat} {M : xM} {T : Nat} {Q : Option Value → xH → Prop} (h : Rel M) {i : Nat} (hi : i + 6 ≤ L) (k1 : ∀ M1 T1, Rel M1 → Rn (roS L xs) (d + 91) M_L_law 1367 [some (.ref 0), some (.ref 3), some (.ref 64), some (.int (nI i))] [] (mk M1 T1) Q) : Rn (roS L xs) (d + 91) M_L_law 998 [some (.ref 0), some (.ref 3), some (.ref 64), some (.int (nI i))] [] (mk M T) Q := by
  obtain ⟨v, M1, T1, M2, T2, hX, hM, hr⟩ : OpOK (roS L xs) M_X7_voice M_X8_voice [some (.ref 3), some (.int (xs (i + 1))), some (.int (xs (i + 2))), some (.int (xs (i + 3))), none, none] [some (.ref 64), some (.int (xs (i + 1))), some (.int (xs (i + 2))), some (.int (xs (i + 3))), none] M T := op_voice h
  refine R_go 5 (pc' := 1003) (L' := [some (.ref 0), some (.ref 3), some (.ref 64), some (.int (nI i))]) (st' := [.int (nI i + 1), .ref 0, .ref 3]) (h' := mk M T) (fun _ => rfl) ?_
  refine R_top (nI_add i 1) ?_
  refine R_ialdO (a := 0) (n := L) (f := xs) (j := i + 1) rfl rfl (by omega) (by omega) ?_
  refine R_go 4 (pc' := 1008) (L' := [some (.ref 0), some (.ref 3), some (.ref 64), some (.int (nI i))]) (st' := [.int (nI i + 2), .ref 0, .int (xs (i + 1)), .ref 3]) (h' := mk M T) (fun _ => rfl) ?_
  refine R_top (nI_add i 2) ?_
  refine R_ialdO (a := 0) (n := L) (f := xs) (j := i + 2) rfl rfl (by omega) (by omega) ?_
  refine R_go 4 (pc' := 1013) (L' := [some (.ref 0), some (.ref 3), some (.ref 64), some (.int (nI i))]) (st' := [.int (nI i + 3), .ref 0, .int (xs (i + 2)), .int (xs (i + 1)), .ref 3]) (h' := mk M T) (fun _ => rfl) ?_
  refine R_top (nI_add i 3) ?_
  refine R_ialdO (a := 0) (n := L) (f := xs) (j := i + 3) rfl rfl (by omega) (by omega) ?_
  refine R_callD (i := .invokevirtual 118) (kd := 0) (y := M_X7_voice) (as := [.ref 3, .int (xs (i + 1)), .int (xs (i + 2)), .int (xs (i + 3))]) (r := []) (L0 := [some (.ref 3), some (.int (xs (i + 1))), some (.int (xs (i + 2))), some (.int (xs (i + 3))), none, none]) (v := some (.int v)) (h' := mk M1 T1) (pc' := 1017) (st' := [.int v]) rfl rfl rfl rfl rfl rfl (hX d) ?_
  refine R_go 5 (pc' := 1022) (L' := [some (.ref 0), some (.ref 3), some (.ref 64), some (.int (nI i))]) (st' := [.int (nI i + 1), .ref 0, .ref 64, .int v]) (h' := mk M1 T1) (fun _ => rfl) ?_
  refine R_top (nI_add i 1) ?_
  refine R_ialdO (a := 0) (n := L) (f := xs) (j := i + 1) rfl rfl (by omega) (by omega) ?_
  refine R_go 4 (pc' := 1027) (L' := [some (.ref 0), some (.ref 3), some (.ref 64), some (.int (nI i))]) (st' := [.int (nI i + 2), .ref 0, .int (xs (i + 1)), .ref 64, .int v]) (h' := mk M1 T1) (fun _ => rfl) ?_
  refine R_top (nI_add i 2) ?_
  refine R_ialdO (a := 0) (n := L) (f := xs) (j := i + 2) rfl rfl (by omega) (by omega) ?_
  refine R_go 4 (pc' := 1032) (L' := [some (.ref 0), some (.ref 3), some (.ref 64), some (.int (nI i))]) (st' := [.int (nI i + 3), .ref 0, .int (xs (i + 2)), .int (xs (i + 1)), .ref 64, .int v]) (h' := mk M1 T1) (fun _ => rfl) ?_
  refine R_top (nI_add i 3) ?_
  refine R_ialdO (a := 0) (n := L) (f := xs) (j := i + 3) rfl rfl (by omega) (by omega) ?_
  refine R_callD (i := .invokevirtual 121) (kd := 0) (y := M_X8_voice) (as := [.ref 64, .int (xs (i + 1)), .int (xs (i + 2)), .int (xs (i + 3))]) (r := [.int v]) (L0 := [some (.ref 64), some (.int (xs (i + 1))), some (.int (xs (i + 2))), some (.int (xs (i + 3))), none]) (v := some (.int v)) (h' := mk M2 T2) (pc' := 1036) (st' := [.int v, .int v]) rfl rfl rfl rfl rfl rfl (hM d) ?_
  refine R_if 1 (c := v = v) (t := 1367) (f := 1039) (L' := [some (.ref 0), some (.ref 3), some (.ref 64), some (.int (nI i))]) (st' := []) (h' := mk M2 T2) (fun _ => rfl) (fun g1 => ?_) (fun g1 => ?_)
  · exact k1 M2 T2 hr
  · exact absurd (rfl) g1
set_option maxRecDepth 100000 in
set_option maxHeartbeats 4000000 in
theorem lw_op_25 {L : Nat} {xs : Nat → Int32} (hL : L ≤ 3072) {d : Nat} {M : xM} {T : Nat} {Q : Option Value → xH → Prop} (h : Rel M) {i : Nat} (hi : i + 6 ≤ L) (k1 : ∀ M1 T1, Rel M1 → Rn (roS L xs) (d + 91) M_L_law 1367 [some (.ref 0), some (.ref 3), some (.ref 64), some (.int (nI i))] [] (mk M1 T1) Q) : Rn (roS L xs) (d + 91) M_L_law 1041 [some (.ref 0), some (.ref 3), some (.ref 64), some (.int (nI i))] [] (mk M T) Q := by
  obtain ⟨v, M1, T1, M2, T2, hX, hM, hr⟩ : OpOK (roS L xs) M_X7_body M_X8_body [some (.ref 3), some (.int (xs (i + 1)))] [some (.ref 64), some (.int (xs (i + 1)))] M T := op_body h
  refine R_go 5 (pc' := 1046) (L' := [some (.ref 0), some (.ref 3), some (.ref 64), some (.int (nI i))]) (st' := [.int (nI i + 1), .ref 0, .ref 3]) (h' := mk M T) (fun _ => rfl) ?_
  refine R_top (nI_add i 1) ?_
  refine R_ialdO (a := 0) (n := L) (f := xs) (j := i + 1) rfl rfl (by omega) (by omega) ?_
  refine R_callD (i := .invokevirtual 122) (kd := 0) (y := M_X7_body) (as := [.ref 3, .int (xs (i + 1))]) (r := []) (L0 := [some (.ref 3), some (.int (xs (i + 1)))]) (v := some (.int v)) (h' := mk M1 T1) (pc' := 1050) (st' := [.int v]) rfl rfl rfl rfl rfl rfl (hX d) ?_
  refine R_go 5 (pc' := 1055) (L' := [some (.ref 0), some (.ref 3), some (.ref 64), some (.int (nI i))]) (st' := [.int (nI i + 1), .ref 0, .ref 64, .int v]) (h' := mk M1 T1) (fun _ => rfl) ?_
  refine R_top (nI_add i 1) ?_
  refine R_ialdO (a := 0) (n := L) (f := xs) (j := i + 1) rfl rfl (by omega) (by omega) ?_
  refine R_callD (i := .invokevirtual 125) (kd := 0) (y := M_X8_body) (as := [.ref 64, .int (xs (i + 1))]) (r := [.int v]) (L0 := [some (.ref 64), some (.int (xs (i + 1)))]) (v := some (.int v)) (h' := mk M2 T2) (pc' := 1059) (st' := [.int v, .int v]) rfl rfl rfl rfl rfl rfl (hM d) ?_
  refine R_if 1 (c := v = v) (t := 1367) (f := 1062) (L' := [some (.ref 0), some (.ref 3), some (.ref 64), some (.int (nI i))]) (st' := []) (h' := mk M2 T2) (fun _ => rfl) (fun g1 => ?_) (fun g1 => ?_)
  · exact k1 M2 T2 hr
  · exact absurd (rfl) g1
set_option maxRecDepth 100000 in
set_option maxHeartbeats 4000000 in
theorem lw_op_26 {L : Nat} {xs : Nat → Int32} (hL : L ≤ 3072) {d : Nat} {M : xM} {T : Nat} {Q : Option Value → xH → Prop} (h : Rel M) {i : Nat} (hi : i + 6 ≤ L) (k1 : ∀ M1 T1, Rel M1 → Rn (roS L xs) (d + 91) M_L_law 1367 [some (.ref 0), some (.ref 3), some (.ref 64), some (.int (nI i))] [] (mk M1 T1) Q) : Rn (roS L xs) (d + 91) M_L_law 1064 [some (.ref 0), some (.ref 3), some (.ref 64), some (.int (nI i))] [] (mk M T) Q := by
  obtain ⟨v, M1, T1, M2, T2, hX, hM, hr⟩ : OpOK (roS L xs) M_X7_sheet M_X8_sheet [some (.ref 3), some (.int (xs (i + 1))), some (.int (xs (i + 2))), some (.int (xs (i + 3))), none] [some (.ref 64), some (.int (xs (i + 1))), some (.int (xs (i + 2))), some (.int (xs (i + 3))), none] M T := op_sheet h
  refine R_go 5 (pc' := 1069) (L' := [some (.ref 0), some (.ref 3), some (.ref 64), some (.int (nI i))]) (st' := [.int (nI i + 1), .ref 0, .ref 3]) (h' := mk M T) (fun _ => rfl) ?_
  refine R_top (nI_add i 1) ?_
  refine R_ialdO (a := 0) (n := L) (f := xs) (j := i + 1) rfl rfl (by omega) (by omega) ?_
  refine R_go 4 (pc' := 1074) (L' := [some (.ref 0), some (.ref 3), some (.ref 64), some (.int (nI i))]) (st' := [.int (nI i + 2), .ref 0, .int (xs (i + 1)), .ref 3]) (h' := mk M T) (fun _ => rfl) ?_
  refine R_top (nI_add i 2) ?_
  refine R_ialdO (a := 0) (n := L) (f := xs) (j := i + 2) rfl rfl (by omega) (by omega) ?_
  refine R_go 4 (pc' := 1079) (L' := [some (.ref 0), some (.ref 3), some (.ref 64), some (.int (nI i))]) (st' := [.int (nI i + 3), .ref 0, .int (xs (i + 2)), .int (xs (i + 1)), .ref 3]) (h' := mk M T) (fun _ => rfl) ?_
  refine R_top (nI_add i 3) ?_
  refine R_ialdO (a := 0) (n := L) (f := xs) (j := i + 3) rfl rfl (by omega) (by omega) ?_
  refine R_callD (i := .invokevirtual 126) (kd := 0) (y := M_X7_sheet) (as := [.ref 3, .int (xs (i + 1)), .int (xs (i + 2)), .int (xs (i + 3))]) (r := []) (L0 := [some (.ref 3), some (.int (xs (i + 1))), some (.int (xs (i + 2))), some (.int (xs (i + 3))), none]) (v := some (.int v)) (h' := mk M1 T1) (pc' := 1083) (st' := [.int v]) rfl rfl rfl rfl rfl rfl (hX d) ?_
  refine R_go 5 (pc' := 1088) (L' := [some (.ref 0), some (.ref 3), some (.ref 64), some (.int (nI i))]) (st' := [.int (nI i + 1), .ref 0, .ref 64, .int v]) (h' := mk M1 T1) (fun _ => rfl) ?_
  refine R_top (nI_add i 1) ?_
  refine R_ialdO (a := 0) (n := L) (f := xs) (j := i + 1) rfl rfl (by omega) (by omega) ?_
  refine R_go 4 (pc' := 1093) (L' := [some (.ref 0), some (.ref 3), some (.ref 64), some (.int (nI i))]) (st' := [.int (nI i + 2), .ref 0, .int (xs (i + 1)), .ref 64, .int v]) (h' := mk M1 T1) (fun _ => rfl) ?_
  refine R_top (nI_add i 2) ?_
  refine R_ialdO (a := 0) (n := L) (f := xs) (j := i + 2) rfl rfl (by omega) (by omega) ?_
  refine R_go 4 (pc' := 1098) (L' := [some (.ref 0), some (.ref 3), some (.ref 64), some (.int (nI i))]) (st' := [.int (nI i + 3), .ref 0, .int (xs (i + 2)), .int (xs (i + 1)), .ref 64, .int v]) (h' := mk M1 T1) (fun _ => rfl) ?_
  refine R_top (nI_add i 3) ?_
  refine R_ialdO (a := 0) (n := L) (f := xs) (j := i + 3) rfl rfl (by omega) (by omega) ?_
  refine R_callD (i := .invokevirtual 129) (kd := 0) (y := M_X8_sheet) (as := [.ref 64, .int (xs (i + 1)), .int (xs (i + 2)), .int (xs (i + 3))]) (r := [.int v]) (L0 := [some (.ref 64), some (.int (xs (i + 1))), some (.int (xs (i + 2))), some (.int (xs (i + 3))), none]) (v := some (.int v)) (h' := mk M2 T2) (pc' := 1102) (st' := [.int v, .int v]) rfl rfl rfl rfl rfl rfl (hM d) ?_
  refine R_if 1 (c := v = v) (t := 1367) (f := 1105) (L' := [some (.ref 0), some (.ref 3), some (.ref 64), some (.int (nI i))]) (st' := []) (h' := mk M2 T2) (fun _ => rfl) (fun g1 => ?_) (fun g1 => ?_)
  · exact k1 M2 T2 hr
  · exact absurd (rfl) g1
set_option maxRecDepth 100000 in
set_option maxHeartbeats 4000000 in
theorem lw_op_27 {L : Nat} {xs : Nat → Int32} (hL : L ≤ 3072) {d : Nat} {M : xM} {T : Nat} {Q : Option Value → xH → Prop} (h : Rel M) {i : Nat} (hi : i + 6 ≤ L) (k1 : ∀ M1 T1, Rel M1 → Rn (roS L xs) (d + 91) M_L_law 1367 [some (.ref 0), some (.ref 3), some (.ref 64), some (.int (nI i))] [] (mk M1 T1) Q) : Rn (roS L xs) (d + 91) M_L_law 1107 [some (.ref 0), some (.ref 3), some (.ref 64), some (.int (nI i))] [] (mk M T) Q := by
  obtain ⟨v, M1, T1, M2, T2, hX, hM, hr⟩ : OpOK (roS L xs) M_X7_put M_X8_put [some (.ref 3), some (.int (xs (i + 1))), some (.int (xs (i + 2))), some (.int (xs (i + 3))), none] [some (.ref 64), some (.int (xs (i + 1))), some (.int (xs (i + 2))), some (.int (xs (i + 3))), none] M T := op_put h
  refine R_go 5 (pc' := 1112) (L' := [some (.ref 0), some (.ref 3), some (.ref 64), some (.int (nI i))]) (st' := [.int (nI i + 1), .ref 0, .ref 3]) (h' := mk M T) (fun _ => rfl) ?_
  refine R_top (nI_add i 1) ?_
  refine R_ialdO (a := 0) (n := L) (f := xs) (j := i + 1) rfl rfl (by omega) (by omega) ?_
  refine R_go 4 (pc' := 1117) (L' := [some (.ref 0), some (.ref 3), some (.ref 64), some (.int (nI i))]) (st' := [.int (nI i + 2), .ref 0, .int (xs (i + 1)), .ref 3]) (h' := mk M T) (fun _ => rfl) ?_
  refine R_top (nI_add i 2) ?_
  refine R_ialdO (a := 0) (n := L) (f := xs) (j := i + 2) rfl rfl (by omega) (by omega) ?_
  refine R_go 4 (pc' := 1122) (L' := [some (.ref 0), some (.ref 3), some (.ref 64), some (.int (nI i))]) (st' := [.int (nI i + 3), .ref 0, .int (xs (i + 2)), .int (xs (i + 1)), .ref 3]) (h' := mk M T) (fun _ => rfl) ?_
  refine R_top (nI_add i 3) ?_
  refine R_ialdO (a := 0) (n := L) (f := xs) (j := i + 3) rfl rfl (by omega) (by omega) ?_
  refine R_callD (i := .invokevirtual 130) (kd := 0) (y := M_X7_put) (as := [.ref 3, .int (xs (i + 1)), .int (xs (i + 2)), .int (xs (i + 3))]) (r := []) (L0 := [some (.ref 3), some (.int (xs (i + 1))), some (.int (xs (i + 2))), some (.int (xs (i + 3))), none]) (v := some (.int v)) (h' := mk M1 T1) (pc' := 1126) (st' := [.int v]) rfl rfl rfl rfl rfl rfl (hX d) ?_
  refine R_go 5 (pc' := 1131) (L' := [some (.ref 0), some (.ref 3), some (.ref 64), some (.int (nI i))]) (st' := [.int (nI i + 1), .ref 0, .ref 64, .int v]) (h' := mk M1 T1) (fun _ => rfl) ?_
  refine R_top (nI_add i 1) ?_
  refine R_ialdO (a := 0) (n := L) (f := xs) (j := i + 1) rfl rfl (by omega) (by omega) ?_
  refine R_go 4 (pc' := 1136) (L' := [some (.ref 0), some (.ref 3), some (.ref 64), some (.int (nI i))]) (st' := [.int (nI i + 2), .ref 0, .int (xs (i + 1)), .ref 64, .int v]) (h' := mk M1 T1) (fun _ => rfl) ?_
  refine R_top (nI_add i 2) ?_
  refine R_ialdO (a := 0) (n := L) (f := xs) (j := i + 2) rfl rfl (by omega) (by omega) ?_
  refine R_go 4 (pc' := 1141) (L' := [some (.ref 0), some (.ref 3), some (.ref 64), some (.int (nI i))]) (st' := [.int (nI i + 3), .ref 0, .int (xs (i + 2)), .int (xs (i + 1)), .ref 64, .int v]) (h' := mk M1 T1) (fun _ => rfl) ?_
  refine R_top (nI_add i 3) ?_
  refine R_ialdO (a := 0) (n := L) (f := xs) (j := i + 3) rfl rfl (by omega) (by omega) ?_
  refine R_callD (i := .invokevirtual 133) (kd := 0) (y := M_X8_put) (as := [.ref 64, .int (xs (i + 1)), .int (xs (i + 2)), .int (xs (i + 3))]) (r := [.int v]) (L0 := [some (.ref 64), some (.int (xs (i + 1))), some (.int (xs (i + 2))), some (.int (xs (i + 3))), none]) (v := some (.int v)) (h' := mk M2 T2) (pc' := 1145) (st' := [.int v, .int v]) rfl rfl rfl rfl rfl rfl (hM d) ?_
  refine R_if 1 (c := v = v) (t := 1367) (f := 1148) (L' := [some (.ref 0), some (.ref 3), some (.ref 64), some (.int (nI i))]) (st' := []) (h' := mk M2 T2) (fun _ => rfl) (fun g1 => ?_) (fun g1 => ?_)
  · exact k1 M2 T2 hr
  · exact absurd (rfl) g1
set_option maxRecDepth 100000 in
set_option maxHeartbeats 4000000 in
theorem lw_op_28 {L : Nat} {xs : Nat → Int32} (hL : L ≤ 3072) {d : Nat} {M : xM} {T : Nat} {Q : Option Value → xH → Prop} (h : Rel M) {i : Nat} (hi : i + 6 ≤ L) (k1 : ∀ M1 T1, Rel M1 → Rn (roS L xs) (d + 91) M_L_law 1367 [some (.ref 0), some (.ref 3), some (.ref 64), some (.int (nI i))] [] (mk M1 T1) Q) : Rn (roS L xs) (d + 91) M_L_law 1150 [some (.ref 0), some (.ref 3), some (.ref 64), some (.int (nI i))] [] (mk M T) Q := by
  obtain ⟨v, M1, T1, M2, T2, hX, hM, hr⟩ : OpOK (roS L xs) M_X7_move M_X8_move [some (.ref 3), some (.int (xs (i + 1))), some (.int (xs (i + 2))), some (.int (xs (i + 3))), some (.int (xs (i + 4))), some (.int (xs (i + 5))), none, none] [some (.ref 64), some (.int (xs (i + 1))), some (.int (xs (i + 2))), some (.int (xs (i + 3))), some (.int (xs (i + 4))), some (.int (xs (i + 5))), none, none, none] M T := op_move h
  refine R_go 5 (pc' := 1155) (L' := [some (.ref 0), some (.ref 3), some (.ref 64), some (.int (nI i))]) (st' := [.int (nI i + 1), .ref 0, .ref 3]) (h' := mk M T) (fun _ => rfl) ?_
  refine R_top (nI_add i 1) ?_
  refine R_ialdO (a := 0) (n := L) (f := xs) (j := i + 1) rfl rfl (by omega) (by omega) ?_
  refine R_go 4 (pc' := 1160) (L' := [some (.ref 0), some (.ref 3), some (.ref 64), some (.int (nI i))]) (st' := [.int (nI i + 2), .ref 0, .int (xs (i + 1)), .ref 3]) (h' := mk M T) (fun _ => rfl) ?_
  refine R_top (nI_add i 2) ?_
  refine R_ialdO (a := 0) (n := L) (f := xs) (j := i + 2) rfl rfl (by omega) (by omega) ?_
  refine R_go 4 (pc' := 1165) (L' := [some (.ref 0), some (.ref 3), some (.ref 64), some (.int (nI i))]) (st' := [.int (nI i + 3), .ref 0, .int (xs (i + 2)), .int (xs (i + 1)), .ref 3]) (h' := mk M T) (fun _ => rfl) ?_
  refine R_top (nI_add i 3) ?_
  refine R_ialdO (a := 0) (n := L) (f := xs) (j := i + 3) rfl rfl (by omega) (by omega) ?_
  refine R_go 4 (pc' := 1170) (L' := [some (.ref 0), some (.ref 3), some (.ref 64), some (.int (nI i))]) (st' := [.int (nI i + 4), .ref 0, .int (xs (i + 3)), .int (xs (i + 2)), .int (xs (i + 1)), .ref 3]) (h' := mk M T) (fun _ => rfl) ?_
  refine R_top (nI_add i 4) ?_
  refine R_ialdO (a := 0) (n := L) (f := xs) (j := i + 4) rfl rfl (by omega) (by omega) ?_
  refine R_go 4 (pc' := 1175) (L' := [some (.ref 0), some (.ref 3), some (.ref 64), some (.int (nI i))]) (st' := [.int (nI i + 5), .ref 0, .int (xs (i + 4)), .int (xs (i + 3)), .int (xs (i + 2)), .int (xs (i + 1)), .ref 3]) (h' := mk M T) (fun _ => rfl) ?_
  refine R_top (nI_add i 5) ?_
  refine R_ialdO (a := 0) (n := L) (f := xs) (j := i + 5) rfl rfl (by omega) (by omega) ?_
  refine R_callD (i := .invokevirtual 134) (kd := 0) (y := M_X7_move) (as := [.ref 3, .int (xs (i + 1)), .int (xs (i + 2)), .int (xs (i + 3)), .int (xs (i + 4)), .int (xs (i + 5))]) (r := []) (L0 := [some (.ref 3), some (.int (xs (i + 1))), some (.int (xs (i + 2))), some (.int (xs (i + 3))), some (.int (xs (i + 4))), some (.int (xs (i + 5))), none, none]) (v := some (.int v)) (h' := mk M1 T1) (pc' := 1179) (st' := [.int v]) rfl rfl rfl rfl rfl rfl (hX d) ?_
  refine R_go 5 (pc' := 1184) (L' := [some (.ref 0), some (.ref 3), some (.ref 64), some (.int (nI i))]) (st' := [.int (nI i + 1), .ref 0, .ref 64, .int v]) (h' := mk M1 T1) (fun _ => rfl) ?_
  refine R_top (nI_add i 1) ?_
  refine R_ialdO (a := 0) (n := L) (f := xs) (j := i + 1) rfl rfl (by omega) (by omega) ?_
  refine R_go 4 (pc' := 1189) (L' := [some (.ref 0), some (.ref 3), some (.ref 64), some (.int (nI i))]) (st' := [.int (nI i + 2), .ref 0, .int (xs (i + 1)), .ref 64, .int v]) (h' := mk M1 T1) (fun _ => rfl) ?_
  refine R_top (nI_add i 2) ?_
  refine R_ialdO (a := 0) (n := L) (f := xs) (j := i + 2) rfl rfl (by omega) (by omega) ?_
  refine R_go 4 (pc' := 1194) (L' := [some (.ref 0), some (.ref 3), some (.ref 64), some (.int (nI i))]) (st' := [.int (nI i + 3), .ref 0, .int (xs (i + 2)), .int (xs (i + 1)), .ref 64, .int v]) (h' := mk M1 T1) (fun _ => rfl) ?_
  refine R_top (nI_add i 3) ?_
  refine R_ialdO (a := 0) (n := L) (f := xs) (j := i + 3) rfl rfl (by omega) (by omega) ?_
  refine R_go 4 (pc' := 1199) (L' := [some (.ref 0), some (.ref 3), some (.ref 64), some (.int (nI i))]) (st' := [.int (nI i + 4), .ref 0, .int (xs (i + 3)), .int (xs (i + 2)), .int (xs (i + 1)), .ref 64, .int v]) (h' := mk M1 T1) (fun _ => rfl) ?_
  refine R_top (nI_add i 4) ?_
  refine R_ialdO (a := 0) (n := L) (f := xs) (j := i + 4) rfl rfl (by omega) (by omega) ?_
  refine R_go 4 (pc' := 1204) (L' := [some (.ref 0), some (.ref 3), some (.ref 64), some (.int (nI i))]) (st' := [.int (nI i + 5), .ref 0, .int (xs (i + 4)), .int (xs (i + 3)), .int (xs (i + 2)), .int (xs (i + 1)), .ref 64, .int v]) (h' := mk M1 T1) (fun _ => rfl) ?_
  refine R_top (nI_add i 5) ?_
  refine R_ialdO (a := 0) (n := L) (f := xs) (j := i + 5) rfl rfl (by omega) (by omega) ?_
  refine R_callD (i := .invokevirtual 137) (kd := 0) (y := M_X8_move) (as := [.ref 64, .int (xs (i + 1)), .int (xs (i + 2)), .int (xs (i + 3)), .int (xs (i + 4)), .int (xs (i + 5))]) (r := [.int v]) (L0 := [some (.ref 64), some (.int (xs (i + 1))), some (.int (xs (i + 2))), some (.int (xs (i + 3))), some (.int (xs (i + 4))), some (.int (xs (i + 5))), none, none, none]) (v := some (.int v)) (h' := mk M2 T2) (pc' := 1208) (st' := [.int v, .int v]) rfl rfl rfl rfl rfl rfl (hM d) ?_
  refine R_if 1 (c := v = v) (t := 1367) (f := 1211) (L' := [some (.ref 0), some (.ref 3), some (.ref 64), some (.int (nI i))]) (st' := []) (h' := mk M2 T2) (fun _ => rfl) (fun g1 => ?_) (fun g1 => ?_)
  · exact k1 M2 T2 hr
  · exact absurd (rfl) g1
set_option maxRecDepth 100000 in
set_option maxHeartbeats 4000000 in
theorem lw_op_29 {L : Nat} {xs : Nat → Int32} (hL : L ≤ 3072) {d : Nat} {M : xM} {T : Nat} {Q : Option Value → xH → Prop} (h : Rel M) {i : Nat} (hi : i + 6 ≤ L) (k1 : ∀ M1 T1, Rel M1 → Rn (roS L xs) (d + 91) M_L_law 1367 [some (.ref 0), some (.ref 3), some (.ref 64), some (.int (nI i))] [] (mk M1 T1) Q) : Rn (roS L xs) (d + 91) M_L_law 1213 [some (.ref 0), some (.ref 3), some (.ref 64), some (.int (nI i))] [] (mk M T) Q := by
  obtain ⟨v, M1, T1, M2, T2, hX, hM, hr⟩ : OpOK (roS L xs) M_X7_worths M_X8_worths [some (.ref 3), some (.int (xs (i + 1))), none, none, none, none] [some (.ref 64), some (.int (xs (i + 1))), none, none] M T := op_worths h
  refine R_go 5 (pc' := 1218) (L' := [some (.ref 0), some (.ref 3), some (.ref 64), some (.int (nI i))]) (st' := [.int (nI i + 1), .ref 0, .ref 3]) (h' := mk M T) (fun _ => rfl) ?_
  refine R_top (nI_add i 1) ?_
  refine R_ialdO (a := 0) (n := L) (f := xs) (j := i + 1) rfl rfl (by omega) (by omega) ?_
  refine R_callD (i := .invokevirtual 138) (kd := 0) (y := M_X7_worths) (as := [.ref 3, .int (xs (i + 1))]) (r := []) (L0 := [some (.ref 3), some (.int (xs (i + 1))), none, none, none, none]) (v := some (.int v)) (h' := mk M1 T1) (pc' := 1222) (st' := [.int v]) rfl rfl rfl rfl rfl rfl (hX d) ?_
  refine R_go 5 (pc' := 1227) (L' := [some (.ref 0), some (.ref 3), some (.ref 64), some (.int (nI i))]) (st' := [.int (nI i + 1), .ref 0, .ref 64, .int v]) (h' := mk M1 T1) (fun _ => rfl) ?_
  refine R_top (nI_add i 1) ?_
  refine R_ialdO (a := 0) (n := L) (f := xs) (j := i + 1) rfl rfl (by omega) (by omega) ?_
  refine R_callD (i := .invokevirtual 141) (kd := 0) (y := M_X8_worths) (as := [.ref 64, .int (xs (i + 1))]) (r := [.int v]) (L0 := [some (.ref 64), some (.int (xs (i + 1))), none, none]) (v := some (.int v)) (h' := mk M2 T2) (pc' := 1231) (st' := [.int v, .int v]) rfl rfl rfl rfl rfl rfl (hM d) ?_
  refine R_if 1 (c := v = v) (t := 1367) (f := 1234) (L' := [some (.ref 0), some (.ref 3), some (.ref 64), some (.int (nI i))]) (st' := []) (h' := mk M2 T2) (fun _ => rfl) (fun g1 => ?_) (fun g1 => ?_)
  · exact k1 M2 T2 hr
  · exact absurd (rfl) g1
set_option maxRecDepth 100000 in
set_option maxHeartbeats 4000000 in
theorem lw_op_30 {L : Nat} {xs : Nat → Int32} (hL : L ≤ 3072) {d : Nat} {M : xM} {T : Nat} {Q : Option Value → xH → Prop} (h : Rel M) {i : Nat} (hi : i + 6 ≤ L) (k1 : ∀ M1 T1, Rel M1 → Rn (roS L xs) (d + 91) M_L_law 1367 [some (.ref 0), some (.ref 3), some (.ref 64), some (.int (nI i))] [] (mk M1 T1) Q) : Rn (roS L xs) (d + 91) M_L_law 1236 [some (.ref 0), some (.ref 3), some (.ref 64), some (.int (nI i))] [] (mk M T) Q := by
  obtain ⟨v, M1, T1, M2, T2, hX, hM, hr⟩ : OpOK (roS L xs) M_X7_judge M_X8_judge [some (.ref 3), some (.int (xs (i + 1))), none] [some (.ref 64), some (.int (xs (i + 1))), none] M T := op_judge h
  refine R_go 5 (pc' := 1241) (L' := [some (.ref 0), some (.ref 3), some (.ref 64), some (.int (nI i))]) (st' := [.int (nI i + 1), .ref 0, .ref 3]) (h' := mk M T) (fun _ => rfl) ?_
  refine R_top (nI_add i 1) ?_
  refine R_ialdO (a := 0) (n := L) (f := xs) (j := i + 1) rfl rfl (by omega) (by omega) ?_
  refine R_callD (i := .invokevirtual 142) (kd := 0) (y := M_X7_judge) (as := [.ref 3, .int (xs (i + 1))]) (r := []) (L0 := [some (.ref 3), some (.int (xs (i + 1))), none]) (v := some (.int v)) (h' := mk M1 T1) (pc' := 1245) (st' := [.int v]) rfl rfl rfl rfl rfl rfl (hX d) ?_
  refine R_go 5 (pc' := 1250) (L' := [some (.ref 0), some (.ref 3), some (.ref 64), some (.int (nI i))]) (st' := [.int (nI i + 1), .ref 0, .ref 64, .int v]) (h' := mk M1 T1) (fun _ => rfl) ?_
  refine R_top (nI_add i 1) ?_
  refine R_ialdO (a := 0) (n := L) (f := xs) (j := i + 1) rfl rfl (by omega) (by omega) ?_
  refine R_callD (i := .invokevirtual 145) (kd := 0) (y := M_X8_judge) (as := [.ref 64, .int (xs (i + 1))]) (r := [.int v]) (L0 := [some (.ref 64), some (.int (xs (i + 1))), none]) (v := some (.int v)) (h' := mk M2 T2) (pc' := 1254) (st' := [.int v, .int v]) rfl rfl rfl rfl rfl rfl (hM d) ?_
  refine R_if 1 (c := v = v) (t := 1367) (f := 1257) (L' := [some (.ref 0), some (.ref 3), some (.ref 64), some (.int (nI i))]) (st' := []) (h' := mk M2 T2) (fun _ => rfl) (fun g1 => ?_) (fun g1 => ?_)
  · exact k1 M2 T2 hr
  · exact absurd (rfl) g1
set_option maxRecDepth 100000 in
set_option maxHeartbeats 4000000 in
theorem lw_op_31 {L : Nat} {xs : Nat → Int32} (hL : L ≤ 3072) {d : Nat} {M : xM} {T : Nat} {Q : Option Value → xH → Prop} (h : Rel M) {i : Nat} (hi : i + 6 ≤ L) (k1 : ∀ M1 T1, Rel M1 → Rn (roS L xs) (d + 91) M_L_law 1367 [some (.ref 0), some (.ref 3), some (.ref 64), some (.int (nI i))] [] (mk M1 T1) Q) : Rn (roS L xs) (d + 91) M_L_law 1259 [some (.ref 0), some (.ref 3), some (.ref 64), some (.int (nI i))] [] (mk M T) Q := by
  obtain ⟨v, M1, T1, M2, T2, hX, hM, hr⟩ : OpOK (roS L xs) M_X7_image M_X8_image [some (.ref 3)] [some (.ref 64)] M T := op_image h
  refine R_go 1 (pc' := 1260) (L' := [some (.ref 0), some (.ref 3), some (.ref 64), some (.int (nI i))]) (st' := [.ref 3]) (h' := mk M T) (fun _ => rfl) ?_
  refine R_callD (i := .invokevirtual 146) (kd := 0) (y := M_X7_image) (as := [.ref 3]) (r := []) (L0 := [some (.ref 3)]) (v := some (.int v)) (h' := mk M1 T1) (pc' := 1263) (st' := [.int v]) rfl rfl rfl rfl rfl rfl (hX d) ?_
  refine R_go 1 (pc' := 1264) (L' := [some (.ref 0), some (.ref 3), some (.ref 64), some (.int (nI i))]) (st' := [.ref 64, .int v]) (h' := mk M1 T1) (fun _ => rfl) ?_
  refine R_callD (i := .invokevirtual 149) (kd := 0) (y := M_X8_image) (as := [.ref 64]) (r := [.int v]) (L0 := [some (.ref 64)]) (v := some (.int v)) (h' := mk M2 T2) (pc' := 1267) (st' := [.int v, .int v]) rfl rfl rfl rfl rfl rfl (hM d) ?_
  refine R_if 1 (c := v = v) (t := 1367) (f := 1270) (L' := [some (.ref 0), some (.ref 3), some (.ref 64), some (.int (nI i))]) (st' := []) (h' := mk M2 T2) (fun _ => rfl) (fun g1 => ?_) (fun g1 => ?_)
  · exact k1 M2 T2 hr
  · exact absurd (rfl) g1
set_option maxRecDepth 100000 in
set_option maxHeartbeats 4000000 in
theorem lw_op_32 {L : Nat} {xs : Nat → Int32} (hL : L ≤ 3072) {d : Nat} {M : xM} {T : Nat} {Q : Option Value → xH → Prop} (h : Rel M) {i : Nat} (hi : i + 6 ≤ L) (k1 : ∀ M1 T1, Rel M1 → Rn (roS L xs) (d + 91) M_L_law 1367 [some (.ref 0), some (.ref 3), some (.ref 64), some (.int (nI i))] [] (mk M1 T1) Q) : Rn (roS L xs) (d + 91) M_L_law 1272 [some (.ref 0), some (.ref 3), some (.ref 64), some (.int (nI i))] [] (mk M T) Q := by
  obtain ⟨v, M1, T1, M2, T2, hX, hM, hr⟩ : OpOK (roS L xs) M_X7_restore M_X8_restore [some (.ref 3)] [some (.ref 64)] M T := op_restore h
  refine R_go 1 (pc' := 1273) (L' := [some (.ref 0), some (.ref 3), some (.ref 64), some (.int (nI i))]) (st' := [.ref 3]) (h' := mk M T) (fun _ => rfl) ?_
  refine R_callD (i := .invokevirtual 150) (kd := 0) (y := M_X7_restore) (as := [.ref 3]) (r := []) (L0 := [some (.ref 3)]) (v := some (.int v)) (h' := mk M1 T1) (pc' := 1276) (st' := [.int v]) rfl rfl rfl rfl rfl rfl (hX d) ?_
  refine R_go 1 (pc' := 1277) (L' := [some (.ref 0), some (.ref 3), some (.ref 64), some (.int (nI i))]) (st' := [.ref 64, .int v]) (h' := mk M1 T1) (fun _ => rfl) ?_
  refine R_callD (i := .invokevirtual 153) (kd := 0) (y := M_X8_restore) (as := [.ref 64]) (r := [.int v]) (L0 := [some (.ref 64)]) (v := some (.int v)) (h' := mk M2 T2) (pc' := 1280) (st' := [.int v, .int v]) rfl rfl rfl rfl rfl rfl (hM d) ?_
  refine R_if 1 (c := v = v) (t := 1367) (f := 1283) (L' := [some (.ref 0), some (.ref 3), some (.ref 64), some (.int (nI i))]) (st' := []) (h' := mk M2 T2) (fun _ => rfl) (fun g1 => ?_) (fun g1 => ?_)
  · exact k1 M2 T2 hr
  · exact absurd (rfl) g1
set_option maxRecDepth 100000 in
set_option maxHeartbeats 4000000 in
theorem lw_op_33 {L : Nat} {xs : Nat → Int32} (hL : L ≤ 3072) {d : Nat} {M : xM} {T : Nat} {Q : Option Value → xH → Prop} (h : Rel M) {i : Nat} (hi : i + 6 ≤ L) (k1 : ∀ M1 T1, Rel M1 → Rn (roS L xs) (d + 91) M_L_law 1367 [some (.ref 0), some (.ref 3), some (.ref 64), some (.int (nI i))] [] (mk M1 T1) Q) : Rn (roS L xs) (d + 91) M_L_law 1285 [some (.ref 0), some (.ref 3), some (.ref 64), some (.int (nI i))] [] (mk M T) Q := by
  obtain ⟨v, M1, T1, M2, T2, hX, hM, hr⟩ : OpOK (roS L xs) M_X7_tell M_X8_tell [some (.ref 3), some (.int (xs (i + 1)))] [some (.ref 64), some (.int (xs (i + 1)))] M T := op_tell h
  refine R_go 5 (pc' := 1290) (L' := [some (.ref 0), some (.ref 3), some (.ref 64), some (.int (nI i))]) (st' := [.int (nI i + 1), .ref 0, .ref 3]) (h' := mk M T) (fun _ => rfl) ?_
  refine R_top (nI_add i 1) ?_
  refine R_ialdO (a := 0) (n := L) (f := xs) (j := i + 1) rfl rfl (by omega) (by omega) ?_
  refine R_callD (i := .invokevirtual 154) (kd := 0) (y := M_X7_tell) (as := [.ref 3, .int (xs (i + 1))]) (r := []) (L0 := [some (.ref 3), some (.int (xs (i + 1)))]) (v := some (.int v)) (h' := mk M1 T1) (pc' := 1294) (st' := [.int v]) rfl rfl rfl rfl rfl rfl (hX d) ?_
  refine R_go 5 (pc' := 1299) (L' := [some (.ref 0), some (.ref 3), some (.ref 64), some (.int (nI i))]) (st' := [.int (nI i + 1), .ref 0, .ref 64, .int v]) (h' := mk M1 T1) (fun _ => rfl) ?_
  refine R_top (nI_add i 1) ?_
  refine R_ialdO (a := 0) (n := L) (f := xs) (j := i + 1) rfl rfl (by omega) (by omega) ?_
  refine R_callD (i := .invokevirtual 157) (kd := 0) (y := M_X8_tell) (as := [.ref 64, .int (xs (i + 1))]) (r := [.int v]) (L0 := [some (.ref 64), some (.int (xs (i + 1)))]) (v := some (.int v)) (h' := mk M2 T2) (pc' := 1303) (st' := [.int v, .int v]) rfl rfl rfl rfl rfl rfl (hM d) ?_
  refine R_if 1 (c := v = v) (t := 1367) (f := 1306) (L' := [some (.ref 0), some (.ref 3), some (.ref 64), some (.int (nI i))]) (st' := []) (h' := mk M2 T2) (fun _ => rfl) (fun g1 => ?_) (fun g1 => ?_)
  · exact k1 M2 T2 hr
  · exact absurd (rfl) g1
set_option maxRecDepth 100000 in
set_option maxHeartbeats 4000000 in
theorem lw_op_34 {L : Nat} {xs : Nat → Int32} (hL : L ≤ 3072) {d : Nat} {M : xM} {T : Nat} {Q : Option Value → xH → Prop} (h : Rel M) {i : Nat} (hi : i + 6 ≤ L) (k1 : ∀ M1 T1, Rel M1 → Rn (roS L xs) (d + 91) M_L_law 1367 [some (.ref 0), some (.ref 3), some (.ref 64), some (.int (nI i))] [] (mk M1 T1) Q) : Rn (roS L xs) (d + 91) M_L_law 1308 [some (.ref 0), some (.ref 3), some (.ref 64), some (.int (nI i))] [] (mk M T) Q := by
  obtain ⟨v, M1, T1, M2, T2, hX, hM, hr⟩ : OpOK (roS L xs) M_X7_check M_X8_check [some (.ref 3), none] [some (.ref 64), none, none] M T := op_check h
  refine R_go 1 (pc' := 1309) (L' := [some (.ref 0), some (.ref 3), some (.ref 64), some (.int (nI i))]) (st' := [.ref 3]) (h' := mk M T) (fun _ => rfl) ?_
  refine R_callD (i := .invokevirtual 158) (kd := 0) (y := M_X7_check) (as := [.ref 3]) (r := []) (L0 := [some (.ref 3), none]) (v := some (.int v)) (h' := mk M1 T1) (pc' := 1312) (st' := [.int v]) rfl rfl rfl rfl rfl rfl (hX d) ?_
  refine R_go 1 (pc' := 1313) (L' := [some (.ref 0), some (.ref 3), some (.ref 64), some (.int (nI i))]) (st' := [.ref 64, .int v]) (h' := mk M1 T1) (fun _ => rfl) ?_
  refine R_callD (i := .invokevirtual 161) (kd := 0) (y := M_X8_check) (as := [.ref 64]) (r := [.int v]) (L0 := [some (.ref 64), none, none]) (v := some (.int v)) (h' := mk M2 T2) (pc' := 1316) (st' := [.int v, .int v]) rfl rfl rfl rfl rfl rfl (hM d) ?_
  refine R_if 1 (c := v = v) (t := 1367) (f := 1319) (L' := [some (.ref 0), some (.ref 3), some (.ref 64), some (.int (nI i))]) (st' := []) (h' := mk M2 T2) (fun _ => rfl) (fun g1 => ?_) (fun g1 => ?_)
  · exact k1 M2 T2 hr
  · exact absurd (rfl) g1
set_option maxRecDepth 100000 in
set_option maxHeartbeats 4000000 in
theorem lw_op_35 {L : Nat} {xs : Nat → Int32} (hL : L ≤ 3072) {d : Nat} {M : xM} {T : Nat} {Q : Option Value → xH → Prop} (h : Rel M) {i : Nat} (hi : i + 6 ≤ L) (k1 : ∀ M1 T1, Rel M1 → Rn (roS L xs) (d + 91) M_L_law 1367 [some (.ref 0), some (.ref 3), some (.ref 64), some (.int (nI i))] [] (mk M1 T1) Q) : Rn (roS L xs) (d + 91) M_L_law 1321 [some (.ref 0), some (.ref 3), some (.ref 64), some (.int (nI i))] [] (mk M T) Q := by
  obtain ⟨v, M1, T1, M2, T2, hX, hM, hr⟩ : OpOK (roS L xs) M_X7_count M_X8_count [some (.ref 3), some (.int (xs (i + 1)))] [some (.ref 64), some (.int (xs (i + 1)))] M T := op_count h
  refine R_go 5 (pc' := 1326) (L' := [some (.ref 0), some (.ref 3), some (.ref 64), some (.int (nI i))]) (st' := [.int (nI i + 1), .ref 0, .ref 3]) (h' := mk M T) (fun _ => rfl) ?_
  refine R_top (nI_add i 1) ?_
  refine R_ialdO (a := 0) (n := L) (f := xs) (j := i + 1) rfl rfl (by omega) (by omega) ?_
  refine R_callD (i := .invokevirtual 162) (kd := 0) (y := M_X7_count) (as := [.ref 3, .int (xs (i + 1))]) (r := []) (L0 := [some (.ref 3), some (.int (xs (i + 1)))]) (v := some (.int v)) (h' := mk M1 T1) (pc' := 1330) (st' := [.int v]) rfl rfl rfl rfl rfl rfl (hX d) ?_
  refine R_go 5 (pc' := 1335) (L' := [some (.ref 0), some (.ref 3), some (.ref 64), some (.int (nI i))]) (st' := [.int (nI i + 1), .ref 0, .ref 64, .int v]) (h' := mk M1 T1) (fun _ => rfl) ?_
  refine R_top (nI_add i 1) ?_
  refine R_ialdO (a := 0) (n := L) (f := xs) (j := i + 1) rfl rfl (by omega) (by omega) ?_
  refine R_callD (i := .invokevirtual 165) (kd := 0) (y := M_X8_count) (as := [.ref 64, .int (xs (i + 1))]) (r := [.int v]) (L0 := [some (.ref 64), some (.int (xs (i + 1)))]) (v := some (.int v)) (h' := mk M2 T2) (pc' := 1339) (st' := [.int v, .int v]) rfl rfl rfl rfl rfl rfl (hM d) ?_
  refine R_if 1 (c := v = v) (t := 1367) (f := 1342) (L' := [some (.ref 0), some (.ref 3), some (.ref 64), some (.int (nI i))]) (st' := []) (h' := mk M2 T2) (fun _ => rfl) (fun g1 => ?_) (fun g1 => ?_)
  · exact k1 M2 T2 hr
  · exact absurd (rfl) g1
set_option maxRecDepth 100000 in
set_option maxHeartbeats 4000000 in
theorem lw_op_36 {L : Nat} {xs : Nat → Int32} (hL : L ≤ 3072) {d : Nat} {M : xM} {T : Nat} {Q : Option Value → xH → Prop} (h : Rel M) {i : Nat} (hi : i + 6 ≤ L) (k1 : ∀ M1 T1, Rel M1 → Rn (roS L xs) (d + 91) M_L_law 1367 [some (.ref 0), some (.ref 3), some (.ref 64), some (.int (nI i))] [] (mk M1 T1) Q) : Rn (roS L xs) (d + 91) M_L_law 1344 [some (.ref 0), some (.ref 3), some (.ref 64), some (.int (nI i))] [] (mk M T) Q := by
  obtain ⟨v, M1, T1, M2, T2, hX, hM, hr⟩ : OpOK (roS L xs) M_X7_told M_X8_told [some (.ref 3), some (.int (xs (i + 1)))] [some (.ref 64), some (.int (xs (i + 1)))] M T := op_told h
  refine R_go 5 (pc' := 1349) (L' := [some (.ref 0), some (.ref 3), some (.ref 64), some (.int (nI i))]) (st' := [.int (nI i + 1), .ref 0, .ref 3]) (h' := mk M T) (fun _ => rfl) ?_
  refine R_top (nI_add i 1) ?_
  refine R_ialdO (a := 0) (n := L) (f := xs) (j := i + 1) rfl rfl (by omega) (by omega) ?_
  refine R_callD (i := .invokevirtual 166) (kd := 0) (y := M_X7_told) (as := [.ref 3, .int (xs (i + 1))]) (r := []) (L0 := [some (.ref 3), some (.int (xs (i + 1)))]) (v := some (.int v)) (h' := mk M1 T1) (pc' := 1353) (st' := [.int v]) rfl rfl rfl rfl rfl rfl (hX d) ?_
  refine R_go 5 (pc' := 1358) (L' := [some (.ref 0), some (.ref 3), some (.ref 64), some (.int (nI i))]) (st' := [.int (nI i + 1), .ref 0, .ref 64, .int v]) (h' := mk M1 T1) (fun _ => rfl) ?_
  refine R_top (nI_add i 1) ?_
  refine R_ialdO (a := 0) (n := L) (f := xs) (j := i + 1) rfl rfl (by omega) (by omega) ?_
  refine R_callD (i := .invokevirtual 169) (kd := 0) (y := M_X8_told) (as := [.ref 64, .int (xs (i + 1))]) (r := [.int v]) (L0 := [some (.ref 64), some (.int (xs (i + 1)))]) (v := some (.int v)) (h' := mk M2 T2) (pc' := 1362) (st' := [.int v, .int v]) rfl rfl rfl rfl rfl rfl (hM d) ?_
  refine R_if 1 (c := v = v) (t := 1367) (f := 1365) (L' := [some (.ref 0), some (.ref 3), some (.ref 64), some (.int (nI i))]) (st' := []) (h' := mk M2 T2) (fun _ => rfl) (fun g1 => ?_) (fun g1 => ?_)
  · exact k1 M2 T2 hr
  · exact absurd (rfl) g1
