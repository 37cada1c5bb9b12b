theorem xfind_mem {α : Type} {T : List (List (Nat × α))} {ci i : Nat} {a : α} (h : xfind T ci i = some a) : ∃ l, T[ci]? = some l ∧ (i, a) ∈ l := by
  unfold xfind at h
  split at h
  · rename_i q hq
    cases h
    have h1 := List.find?_some hq
    have h2 := List.mem_of_find?_eq_some hq
    have h3 : q.1 = i := Nat.eq_of_beq_eq_true h1
    subst h3
    rw [List.getD_eq_getElem?_getD] at h2
    cases hT : T[ci]? with
    | none => rw [hT] at h2; simp at h2
    | some l => rw [hT] at h2; exact ⟨l, rfl, h2⟩
  · cases h
/-- the words that go on to every callee -/
def gw : List Cond := lw_tbl.filter goodWord
theorem gw_mem {w : Cond} (i : Nat) (h : lw_tbl[i]? = some w) (hg : goodWord w = true) : w ∈ gw := List.mem_filter.mpr ⟨List.mem_of_getElem? h, hg⟩
theorem tb_mem {w : Cond} (i : Nat) (h : lw_tbl[i]? = some w) : w ∈ lw_tbl := List.mem_of_getElem? h

def okC (q : vw_C) : Prop := ∀ w ∈ u_ws q.1 q.2.1 q.2.2, w ∈ gw
set_option maxRecDepth 20000 in
theorem okC_X0 : okC (RX0, TX0, 16) := fun w h => List.mem_filter.mpr ⟨(by decide +kernel : ∀ w ∈ u_ws RX0 TX0 16, w ∈ lw_tbl) w h, (by decide +kernel : ∀ w ∈ u_ws RX0 TX0 16, goodWord w = true) w h⟩
set_option maxRecDepth 20000 in
theorem okC_X1 : okC (RX1, TX1, 7) := fun w h => List.mem_filter.mpr ⟨(by decide +kernel : ∀ w ∈ u_ws RX1 TX1 7, w ∈ lw_tbl) w h, (by decide +kernel : ∀ w ∈ u_ws RX1 TX1 7, goodWord w = true) w h⟩
set_option maxRecDepth 20000 in
theorem okC_X2 : okC (RX2, TX2, 5) := fun w h => List.mem_filter.mpr ⟨(by decide +kernel : ∀ w ∈ u_ws RX2 TX2 5, w ∈ lw_tbl) w h, (by decide +kernel : ∀ w ∈ u_ws RX2 TX2 5, goodWord w = true) w h⟩
set_option maxRecDepth 20000 in
theorem okC_X3 : okC (RX3, TX3, 6) := fun w h => List.mem_filter.mpr ⟨(by decide +kernel : ∀ w ∈ u_ws RX3 TX3 6, w ∈ lw_tbl) w h, (by decide +kernel : ∀ w ∈ u_ws RX3 TX3 6, goodWord w = true) w h⟩
set_option maxRecDepth 20000 in
theorem okC_X4 : okC (RX4, TX4, 3) := fun w h => List.mem_filter.mpr ⟨(by decide +kernel : ∀ w ∈ u_ws RX4 TX4 3, w ∈ lw_tbl) w h, (by decide +kernel : ∀ w ∈ u_ws RX4 TX4 3, goodWord w = true) w h⟩
set_option maxRecDepth 20000 in
theorem okC_X5 : okC (RX5, TX5, 6) := fun w h => List.mem_filter.mpr ⟨(by decide +kernel : ∀ w ∈ u_ws RX5 TX5 6, w ∈ lw_tbl) w h, (by decide +kernel : ∀ w ∈ u_ws RX5 TX5 6, goodWord w = true) w h⟩
set_option maxRecDepth 20000 in
theorem okC_X6 : okC (RX6, TX6, 3) := fun w h => List.mem_filter.mpr ⟨(by decide +kernel : ∀ w ∈ u_ws RX6 TX6 3, w ∈ lw_tbl) w h, (by decide +kernel : ∀ w ∈ u_ws RX6 TX6 3, goodWord w = true) w h⟩
set_option maxRecDepth 20000 in
theorem okC_X7 : okC (RX7, TX7, 8) := fun w h => List.mem_filter.mpr ⟨(by decide +kernel : ∀ w ∈ u_ws RX7 TX7 8, w ∈ lw_tbl) w h, (by decide +kernel : ∀ w ∈ u_ws RX7 TX7 8, goodWord w = true) w h⟩
set_option maxRecDepth 20000 in
theorem okC_X8 : okC (RX8, TX8, 24) := fun w h => List.mem_filter.mpr ⟨(by decide +kernel : ∀ w ∈ u_ws RX8 TX8 24, w ∈ lw_tbl) w h, (by decide +kernel : ∀ w ∈ u_ws RX8 TX8 24, goodWord w = true) w h⟩
theorem okC_all : ∀ q ∈ classes, okC q := List.forall_mem_cons.mpr ⟨okC_X0, List.forall_mem_cons.mpr ⟨okC_X1, List.forall_mem_cons.mpr ⟨okC_X2, List.forall_mem_cons.mpr ⟨okC_X3, List.forall_mem_cons.mpr ⟨okC_X4, List.forall_mem_cons.mpr ⟨okC_X5, List.forall_mem_cons.mpr ⟨okC_X6, List.forall_mem_cons.mpr ⟨okC_X7, List.forall_mem_cons.mpr ⟨okC_X8, fun _ h => absurd h List.not_mem_nil⟩⟩⟩⟩⟩⟩⟩⟩⟩
def okF (ci : Nat) (q : Nat × Nat × Nat) : Prop := ∃ (C : String) (T : u_T) (N : Nat), classes[q.2.1]? = some (C, T, N) ∧ q.2.2 < N ∧ (T q.2.2).1 = C ∧ Cond.fieldLink (clsN ci) q.1 C (T q.2.2).2.1 (T q.2.2).2.2.1 ∈ gw
theorem okF_0_11 : okF 0 (11, 0, 0) := ⟨_, _, _, rfl, by decide, rfl, gw_mem 151 (by decide +kernel) rfl⟩
theorem okF_0_18 : okF 0 (18, 0, 1) := ⟨_, _, _, rfl, by decide, rfl, gw_mem 152 (by decide +kernel) rfl⟩
theorem okF_0_22 : okF 0 (22, 0, 2) := ⟨_, _, _, rfl, by decide, rfl, gw_mem 153 (by decide +kernel) rfl⟩
theorem okF_0_25 : okF 0 (25, 0, 3) := ⟨_, _, _, rfl, by decide, rfl, gw_mem 155 (by decide +kernel) rfl⟩
theorem okF_0_31 : okF 0 (31, 0, 4) := ⟨_, _, _, rfl, by decide, rfl, gw_mem 156 (by decide +kernel) rfl⟩
theorem okF_0_35 : okF 0 (35, 0, 5) := ⟨_, _, _, rfl, by decide, rfl, gw_mem 157 (by decide +kernel) rfl⟩
theorem okF_0_38 : okF 0 (38, 0, 11) := ⟨_, _, _, rfl, by decide, rfl, gw_mem 170 (by decide +kernel) rfl⟩
theorem okF_0_42 : okF 0 (42, 0, 12) := ⟨_, _, _, rfl, by decide, rfl, gw_mem 173 (by decide +kernel) rfl⟩
theorem okF_0_45 : okF 0 (45, 0, 15) := ⟨_, _, _, rfl, by decide, rfl, gw_mem 182 (by decide +kernel) rfl⟩
theorem okF_0_61 : okF 0 (61, 0, 6) := ⟨_, _, _, rfl, by decide, rfl, gw_mem 158 (by decide +kernel) rfl⟩
theorem okF_0_64 : okF 0 (64, 0, 7) := ⟨_, _, _, rfl, by decide, rfl, gw_mem 161 (by decide +kernel) rfl⟩
theorem okF_0_67 : okF 0 (67, 0, 8) := ⟨_, _, _, rfl, by decide, rfl, gw_mem 163 (by decide +kernel) rfl⟩
theorem okF_0_70 : okF 0 (70, 0, 9) := ⟨_, _, _, rfl, by decide, rfl, gw_mem 165 (by decide +kernel) rfl⟩
theorem okF_0_73 : okF 0 (73, 0, 10) := ⟨_, _, _, rfl, by decide, rfl, gw_mem 167 (by decide +kernel) rfl⟩
theorem okF_0_76 : okF 0 (76, 0, 13) := ⟨_, _, _, rfl, by decide, rfl, gw_mem 176 (by decide +kernel) rfl⟩
theorem okF_0_79 : okF 0 (79, 0, 14) := ⟨_, _, _, rfl, by decide, rfl, gw_mem 179 (by decide +kernel) rfl⟩
theorem okF_0_93 : okF 0 (93, 6, 2) := ⟨_, _, _, rfl, by decide, rfl, gw_mem 141 (by decide +kernel) rfl⟩
theorem okF_0_112 : okF 0 (112, 4, 2) := ⟨_, _, _, rfl, by decide, rfl, gw_mem 309 (by decide +kernel) rfl⟩
theorem okF_0 : ∀ q ∈ flk_0, okF 0 q := List.forall_mem_cons.mpr ⟨okF_0_11, List.forall_mem_cons.mpr ⟨okF_0_18, List.forall_mem_cons.mpr ⟨okF_0_22, List.forall_mem_cons.mpr ⟨okF_0_25, List.forall_mem_cons.mpr ⟨okF_0_31, List.forall_mem_cons.mpr ⟨okF_0_35, List.forall_mem_cons.mpr ⟨okF_0_38, List.forall_mem_cons.mpr ⟨okF_0_42, List.forall_mem_cons.mpr ⟨okF_0_45, List.forall_mem_cons.mpr ⟨okF_0_61, List.forall_mem_cons.mpr ⟨okF_0_64, List.forall_mem_cons.mpr ⟨okF_0_67, List.forall_mem_cons.mpr ⟨okF_0_70, List.forall_mem_cons.mpr ⟨okF_0_73, List.forall_mem_cons.mpr ⟨okF_0_76, List.forall_mem_cons.mpr ⟨okF_0_79, List.forall_mem_cons.mpr ⟨okF_0_93, List.forall_mem_cons.mpr ⟨okF_0_112, fun _ h => absurd h List.not_mem_nil⟩⟩⟩⟩⟩⟩⟩⟩⟩⟩⟩⟩⟩⟩⟩⟩⟩⟩
theorem okF_1_9 : okF 1 (9, 1, 0) := ⟨_, _, _, rfl, by decide, rfl, gw_mem 95 (by decide +kernel) rfl⟩
theorem okF_1_15 : okF 1 (15, 1, 1) := ⟨_, _, _, rfl, by decide, rfl, gw_mem 99 (by decide +kernel) rfl⟩
theorem okF_1_18 : okF 1 (18, 1, 2) := ⟨_, _, _, rfl, by decide, rfl, gw_mem 102 (by decide +kernel) rfl⟩
theorem okF_1_21 : okF 1 (21, 1, 3) := ⟨_, _, _, rfl, by decide, rfl, gw_mem 104 (by decide +kernel) rfl⟩
theorem okF_1_24 : okF 1 (24, 1, 4) := ⟨_, _, _, rfl, by decide, rfl, gw_mem 106 (by decide +kernel) rfl⟩
theorem okF_1_27 : okF 1 (27, 1, 5) := ⟨_, _, _, rfl, by decide, rfl, gw_mem 109 (by decide +kernel) rfl⟩
theorem okF_1_30 : okF 1 (30, 1, 6) := ⟨_, _, _, rfl, by decide, rfl, gw_mem 112 (by decide +kernel) rfl⟩
theorem okF_1 : ∀ q ∈ flk_1, okF 1 q := List.forall_mem_cons.mpr ⟨okF_1_9, List.forall_mem_cons.mpr ⟨okF_1_15, List.forall_mem_cons.mpr ⟨okF_1_18, List.forall_mem_cons.mpr ⟨okF_1_21, List.forall_mem_cons.mpr ⟨okF_1_24, List.forall_mem_cons.mpr ⟨okF_1_27, List.forall_mem_cons.mpr ⟨okF_1_30, fun _ h => absurd h List.not_mem_nil⟩⟩⟩⟩⟩⟩⟩
theorem okF_2_12 : okF 2 (12, 2, 0) := ⟨_, _, _, rfl, by decide, rfl, gw_mem 251 (by decide +kernel) rfl⟩
theorem okF_2_18 : okF 2 (18, 6, 0) := ⟨_, _, _, rfl, by decide, rfl, gw_mem 137 (by decide +kernel) rfl⟩
theorem okF_2_22 : okF 2 (22, 2, 1) := ⟨_, _, _, rfl, by decide, rfl, gw_mem 253 (by decide +kernel) rfl⟩
theorem okF_2_31 : okF 2 (31, 2, 2) := ⟨_, _, _, rfl, by decide, rfl, gw_mem 254 (by decide +kernel) rfl⟩
theorem okF_2_35 : okF 2 (35, 2, 3) := ⟨_, _, _, rfl, by decide, rfl, gw_mem 255 (by decide +kernel) rfl⟩
theorem okF_2_38 : okF 2 (38, 2, 4) := ⟨_, _, _, rfl, by decide, rfl, gw_mem 256 (by decide +kernel) rfl⟩
theorem okF_2_41 : okF 2 (41, 6, 2) := ⟨_, _, _, rfl, by decide, rfl, gw_mem 140 (by decide +kernel) rfl⟩
theorem okF_2 : ∀ q ∈ flk_2, okF 2 q := List.forall_mem_cons.mpr ⟨okF_2_12, List.forall_mem_cons.mpr ⟨okF_2_18, List.forall_mem_cons.mpr ⟨okF_2_22, List.forall_mem_cons.mpr ⟨okF_2_31, List.forall_mem_cons.mpr ⟨okF_2_35, List.forall_mem_cons.mpr ⟨okF_2_38, List.forall_mem_cons.mpr ⟨okF_2_41, fun _ h => absurd h List.not_mem_nil⟩⟩⟩⟩⟩⟩⟩
theorem okF_3_11 : okF 3 (11, 3, 0) := ⟨_, _, _, rfl, by decide, rfl, gw_mem 223 (by decide +kernel) rfl⟩
theorem okF_3_15 : okF 3 (15, 3, 1) := ⟨_, _, _, rfl, by decide, rfl, gw_mem 224 (by decide +kernel) rfl⟩
theorem okF_3_18 : okF 3 (18, 3, 2) := ⟨_, _, _, rfl, by decide, rfl, gw_mem 225 (by decide +kernel) rfl⟩
theorem okF_3_21 : okF 3 (21, 3, 3) := ⟨_, _, _, rfl, by decide, rfl, gw_mem 226 (by decide +kernel) rfl⟩
theorem okF_3_24 : okF 3 (24, 3, 4) := ⟨_, _, _, rfl, by decide, rfl, gw_mem 227 (by decide +kernel) rfl⟩
theorem okF_3_47 : okF 3 (47, 1, 6) := ⟨_, _, _, rfl, by decide, rfl, gw_mem 113 (by decide +kernel) rfl⟩
theorem okF_3_53 : okF 3 (53, 1, 5) := ⟨_, _, _, rfl, by decide, rfl, gw_mem 110 (by decide +kernel) rfl⟩
theorem okF_3_60 : okF 3 (60, 1, 4) := ⟨_, _, _, rfl, by decide, rfl, gw_mem 107 (by decide +kernel) rfl⟩
theorem okF_3_63 : okF 3 (63, 1, 0) := ⟨_, _, _, rfl, by decide, rfl, gw_mem 97 (by decide +kernel) rfl⟩
theorem okF_3_69 : okF 3 (69, 4, 1) := ⟨_, _, _, rfl, by decide, rfl, gw_mem 305 (by decide +kernel) rfl⟩
theorem okF_3_74 : okF 3 (74, 4, 2) := ⟨_, _, _, rfl, by decide, rfl, gw_mem 308 (by decide +kernel) rfl⟩
theorem okF_3_88 : okF 3 (88, 0, 12) := ⟨_, _, _, rfl, by decide, rfl, gw_mem 174 (by decide +kernel) rfl⟩
theorem okF_3_91 : okF 3 (91, 0, 6) := ⟨_, _, _, rfl, by decide, rfl, gw_mem 160 (by decide +kernel) rfl⟩
theorem okF_3_97 : okF 3 (97, 0, 11) := ⟨_, _, _, rfl, by decide, rfl, gw_mem 171 (by decide +kernel) rfl⟩
theorem okF_3_100 : okF 3 (100, 0, 13) := ⟨_, _, _, rfl, by decide, rfl, gw_mem 177 (by decide +kernel) rfl⟩
theorem okF_3_121 : okF 3 (121, 0, 10) := ⟨_, _, _, rfl, by decide, rfl, gw_mem 168 (by decide +kernel) rfl⟩
theorem okF_3_132 : okF 3 (132, 0, 14) := ⟨_, _, _, rfl, by decide, rfl, gw_mem 180 (by decide +kernel) rfl⟩
theorem okF_3_135 : okF 3 (135, 3, 5) := ⟨_, _, _, rfl, by decide, rfl, gw_mem 228 (by decide +kernel) rfl⟩
theorem okF_3 : ∀ q ∈ flk_3, okF 3 q := List.forall_mem_cons.mpr ⟨okF_3_11, List.forall_mem_cons.mpr ⟨okF_3_15, List.forall_mem_cons.mpr ⟨okF_3_18, List.forall_mem_cons.mpr ⟨okF_3_21, List.forall_mem_cons.mpr ⟨okF_3_24, List.forall_mem_cons.mpr ⟨okF_3_47, List.forall_mem_cons.mpr ⟨okF_3_53, List.forall_mem_cons.mpr ⟨okF_3_60, List.forall_mem_cons.mpr ⟨okF_3_63, List.forall_mem_cons.mpr ⟨okF_3_69, List.forall_mem_cons.mpr ⟨okF_3_74, List.forall_mem_cons.mpr ⟨okF_3_88, List.forall_mem_cons.mpr ⟨okF_3_91, List.forall_mem_cons.mpr ⟨okF_3_97, List.forall_mem_cons.mpr ⟨okF_3_100, List.forall_mem_cons.mpr ⟨okF_3_121, List.forall_mem_cons.mpr ⟨okF_3_132, List.forall_mem_cons.mpr ⟨okF_3_135, fun _ h => absurd h List.not_mem_nil⟩⟩⟩⟩⟩⟩⟩⟩⟩⟩⟩⟩⟩⟩⟩⟩⟩⟩
theorem okF_4_9 : okF 4 (9, 4, 0) := ⟨_, _, _, rfl, by decide, rfl, gw_mem 302 (by decide +kernel) rfl⟩
theorem okF_4_15 : okF 4 (15, 4, 2) := ⟨_, _, _, rfl, by decide, rfl, gw_mem 307 (by decide +kernel) rfl⟩
theorem okF_4_19 : okF 4 (19, 4, 1) := ⟨_, _, _, rfl, by decide, rfl, gw_mem 304 (by decide +kernel) rfl⟩
theorem okF_4 : ∀ q ∈ flk_4, okF 4 q := List.forall_mem_cons.mpr ⟨okF_4_9, List.forall_mem_cons.mpr ⟨okF_4_15, List.forall_mem_cons.mpr ⟨okF_4_19, fun _ h => absurd h List.not_mem_nil⟩⟩⟩
theorem okF_5_9 : okF 5 (9, 5, 0) := ⟨_, _, _, rfl, by decide, rfl, gw_mem 274 (by decide +kernel) rfl⟩
theorem okF_5_15 : okF 5 (15, 1, 0) := ⟨_, _, _, rfl, by decide, rfl, gw_mem 96 (by decide +kernel) rfl⟩
theorem okF_5_21 : okF 5 (21, 5, 3) := ⟨_, _, _, rfl, by decide, rfl, gw_mem 279 (by decide +kernel) rfl⟩
theorem okF_5_22 : okF 5 (22, 1, 1) := ⟨_, _, _, rfl, by decide, rfl, gw_mem 100 (by decide +kernel) rfl⟩
theorem okF_5_25 : okF 5 (25, 5, 5) := ⟨_, _, _, rfl, by decide, rfl, gw_mem 281 (by decide +kernel) rfl⟩
theorem okF_5_26 : okF 5 (26, 5, 4) := ⟨_, _, _, rfl, by decide, rfl, gw_mem 280 (by decide +kernel) rfl⟩
theorem okF_5_29 : okF 5 (29, 5, 1) := ⟨_, _, _, rfl, by decide, rfl, gw_mem 275 (by decide +kernel) rfl⟩
theorem okF_5_32 : okF 5 (32, 5, 2) := ⟨_, _, _, rfl, by decide, rfl, gw_mem 277 (by decide +kernel) rfl⟩
theorem okF_5 : ∀ q ∈ flk_5, okF 5 q := List.forall_mem_cons.mpr ⟨okF_5_9, List.forall_mem_cons.mpr ⟨okF_5_15, List.forall_mem_cons.mpr ⟨okF_5_21, List.forall_mem_cons.mpr ⟨okF_5_22, List.forall_mem_cons.mpr ⟨okF_5_25, List.forall_mem_cons.mpr ⟨okF_5_26, List.forall_mem_cons.mpr ⟨okF_5_29, List.forall_mem_cons.mpr ⟨okF_5_32, fun _ h => absurd h List.not_mem_nil⟩⟩⟩⟩⟩⟩⟩⟩
theorem okF_6_9 : okF 6 (9, 6, 0) := ⟨_, _, _, rfl, by decide, rfl, gw_mem 136 (by decide +kernel) rfl⟩
theorem okF_6_15 : okF 6 (15, 6, 1) := ⟨_, _, _, rfl, by decide, rfl, gw_mem 138 (by decide +kernel) rfl⟩
theorem okF_6_24 : okF 6 (24, 6, 2) := ⟨_, _, _, rfl, by decide, rfl, gw_mem 139 (by decide +kernel) rfl⟩
theorem okF_6 : ∀ q ∈ flk_6, okF 6 q := List.forall_mem_cons.mpr ⟨okF_6_9, List.forall_mem_cons.mpr ⟨okF_6_15, List.forall_mem_cons.mpr ⟨okF_6_24, fun _ h => absurd h List.not_mem_nil⟩⟩⟩
theorem okF_7_10 : okF 7 (10, 7, 0) := ⟨_, _, _, rfl, by decide, rfl, gw_mem 318 (by decide +kernel) rfl⟩
theorem okF_7_16 : okF 7 (16, 7, 1) := ⟨_, _, _, rfl, by decide, rfl, gw_mem 319 (by decide +kernel) rfl⟩
theorem okF_7_22 : okF 7 (22, 7, 2) := ⟨_, _, _, rfl, by decide, rfl, gw_mem 320 (by decide +kernel) rfl⟩
theorem okF_7_29 : okF 7 (29, 7, 3) := ⟨_, _, _, rfl, by decide, rfl, gw_mem 321 (by decide +kernel) rfl⟩
theorem okF_7_36 : okF 7 (36, 7, 4) := ⟨_, _, _, rfl, by decide, rfl, gw_mem 322 (by decide +kernel) rfl⟩
theorem okF_7_42 : okF 7 (42, 7, 5) := ⟨_, _, _, rfl, by decide, rfl, gw_mem 323 (by decide +kernel) rfl⟩
theorem okF_7_47 : okF 7 (47, 7, 6) := ⟨_, _, _, rfl, by decide, rfl, gw_mem 324 (by decide +kernel) rfl⟩
theorem okF_7_51 : okF 7 (51, 7, 7) := ⟨_, _, _, rfl, by decide, rfl, gw_mem 325 (by decide +kernel) rfl⟩
theorem okF_7_72 : okF 7 (72, 0, 7) := ⟨_, _, _, rfl, by decide, rfl, gw_mem 162 (by decide +kernel) rfl⟩
theorem okF_7_90 : okF 7 (90, 1, 0) := ⟨_, _, _, rfl, by decide, rfl, gw_mem 98 (by decide +kernel) rfl⟩
theorem okF_7_95 : okF 7 (95, 1, 1) := ⟨_, _, _, rfl, by decide, rfl, gw_mem 101 (by decide +kernel) rfl⟩
theorem okF_7_98 : okF 7 (98, 1, 2) := ⟨_, _, _, rfl, by decide, rfl, gw_mem 103 (by decide +kernel) rfl⟩
theorem okF_7_101 : okF 7 (101, 1, 3) := ⟨_, _, _, rfl, by decide, rfl, gw_mem 105 (by decide +kernel) rfl⟩
theorem okF_7_104 : okF 7 (104, 1, 4) := ⟨_, _, _, rfl, by decide, rfl, gw_mem 108 (by decide +kernel) rfl⟩
theorem okF_7_107 : okF 7 (107, 1, 5) := ⟨_, _, _, rfl, by decide, rfl, gw_mem 111 (by decide +kernel) rfl⟩
theorem okF_7_110 : okF 7 (110, 1, 6) := ⟨_, _, _, rfl, by decide, rfl, gw_mem 114 (by decide +kernel) rfl⟩
theorem okF_7_113 : okF 7 (113, 0, 6) := ⟨_, _, _, rfl, by decide, rfl, gw_mem 159 (by decide +kernel) rfl⟩
theorem okF_7_120 : okF 7 (120, 0, 11) := ⟨_, _, _, rfl, by decide, rfl, gw_mem 172 (by decide +kernel) rfl⟩
theorem okF_7_123 : okF 7 (123, 0, 13) := ⟨_, _, _, rfl, by decide, rfl, gw_mem 178 (by decide +kernel) rfl⟩
theorem okF_7_133 : okF 7 (133, 0, 10) := ⟨_, _, _, rfl, by decide, rfl, gw_mem 169 (by decide +kernel) rfl⟩
theorem okF_7_139 : okF 7 (139, 0, 12) := ⟨_, _, _, rfl, by decide, rfl, gw_mem 175 (by decide +kernel) rfl⟩
theorem okF_7_142 : okF 7 (142, 0, 8) := ⟨_, _, _, rfl, by decide, rfl, gw_mem 164 (by decide +kernel) rfl⟩
theorem okF_7_153 : okF 7 (153, 0, 2) := ⟨_, _, _, rfl, by decide, rfl, gw_mem 154 (by decide +kernel) rfl⟩
theorem okF_7_160 : okF 7 (160, 2, 0) := ⟨_, _, _, rfl, by decide, rfl, gw_mem 252 (by decide +kernel) rfl⟩
theorem okF_7_170 : okF 7 (170, 6, 2) := ⟨_, _, _, rfl, by decide, rfl, gw_mem 142 (by decide +kernel) rfl⟩
theorem okF_7_192 : okF 7 (192, 0, 14) := ⟨_, _, _, rfl, by decide, rfl, gw_mem 181 (by decide +kernel) rfl⟩
theorem okF_7_208 : okF 7 (208, 0, 15) := ⟨_, _, _, rfl, by decide, rfl, gw_mem 183 (by decide +kernel) rfl⟩
theorem okF_7_218 : okF 7 (218, 3, 5) := ⟨_, _, _, rfl, by decide, rfl, gw_mem 229 (by decide +kernel) rfl⟩
theorem okF_7_237 : okF 7 (237, 4, 1) := ⟨_, _, _, rfl, by decide, rfl, gw_mem 306 (by decide +kernel) rfl⟩
theorem okF_7_244 : okF 7 (244, 4, 2) := ⟨_, _, _, rfl, by decide, rfl, gw_mem 310 (by decide +kernel) rfl⟩
theorem okF_7_249 : okF 7 (249, 5, 2) := ⟨_, _, _, rfl, by decide, rfl, gw_mem 278 (by decide +kernel) rfl⟩
theorem okF_7_253 : okF 7 (253, 5, 1) := ⟨_, _, _, rfl, by decide, rfl, gw_mem 276 (by decide +kernel) rfl⟩
theorem okF_7_259 : okF 7 (259, 4, 0) := ⟨_, _, _, rfl, by decide, rfl, gw_mem 303 (by decide +kernel) rfl⟩
theorem okF_7_288 : okF 7 (288, 0, 9) := ⟨_, _, _, rfl, by decide, rfl, gw_mem 166 (by decide +kernel) rfl⟩
theorem okF_7 : ∀ q ∈ flk_7, okF 7 q := List.forall_mem_cons.mpr ⟨okF_7_10, List.forall_mem_cons.mpr ⟨okF_7_16, List.forall_mem_cons.mpr ⟨okF_7_22, List.forall_mem_cons.mpr ⟨okF_7_29, List.forall_mem_cons.mpr ⟨okF_7_36, List.forall_mem_cons.mpr ⟨okF_7_42, List.forall_mem_cons.mpr ⟨okF_7_47, List.forall_mem_cons.mpr ⟨okF_7_51, List.forall_mem_cons.mpr ⟨okF_7_72, List.forall_mem_cons.mpr ⟨okF_7_90, List.forall_mem_cons.mpr ⟨okF_7_95, List.forall_mem_cons.mpr ⟨okF_7_98, List.forall_mem_cons.mpr ⟨okF_7_101, List.forall_mem_cons.mpr ⟨okF_7_104, List.forall_mem_cons.mpr ⟨okF_7_107, List.forall_mem_cons.mpr ⟨okF_7_110, List.forall_mem_cons.mpr ⟨okF_7_113, List.forall_mem_cons.mpr ⟨okF_7_120, List.forall_mem_cons.mpr ⟨okF_7_123, List.forall_mem_cons.mpr ⟨okF_7_133, List.forall_mem_cons.mpr ⟨okF_7_139, List.forall_mem_cons.mpr ⟨okF_7_142, List.forall_mem_cons.mpr ⟨okF_7_153, List.forall_mem_cons.mpr ⟨okF_7_160, List.forall_mem_cons.mpr ⟨okF_7_170, List.forall_mem_cons.mpr ⟨okF_7_192, List.forall_mem_cons.mpr ⟨okF_7_208, List.forall_mem_cons.mpr ⟨okF_7_218, List.forall_mem_cons.mpr ⟨okF_7_237, List.forall_mem_cons.mpr ⟨okF_7_244, List.forall_mem_cons.mpr ⟨okF_7_249, List.forall_mem_cons.mpr ⟨okF_7_253, List.forall_mem_cons.mpr ⟨okF_7_259, List.forall_mem_cons.mpr ⟨okF_7_288, fun _ h => absurd h List.not_mem_nil⟩⟩⟩⟩⟩⟩⟩⟩⟩⟩⟩⟩⟩⟩⟩⟩⟩⟩⟩⟩⟩⟩⟩⟩⟩⟩⟩⟩⟩⟩⟩⟩⟩⟩
theorem okF_8_9 : okF 8 (9, 8, 0) := ⟨_, _, _, rfl, by decide, rfl, gw_mem 795 (by decide +kernel) rfl⟩
theorem okF_8_13 : okF 8 (13, 8, 1) := ⟨_, _, _, rfl, by decide, rfl, gw_mem 796 (by decide +kernel) rfl⟩
theorem okF_8_16 : okF 8 (16, 8, 3) := ⟨_, _, _, rfl, by decide, rfl, gw_mem 798 (by decide +kernel) rfl⟩
theorem okF_8_19 : okF 8 (19, 8, 4) := ⟨_, _, _, rfl, by decide, rfl, gw_mem 799 (by decide +kernel) rfl⟩
theorem okF_8_22 : okF 8 (22, 8, 5) := ⟨_, _, _, rfl, by decide, rfl, gw_mem 800 (by decide +kernel) rfl⟩
theorem okF_8_25 : okF 8 (25, 8, 6) := ⟨_, _, _, rfl, by decide, rfl, gw_mem 801 (by decide +kernel) rfl⟩
theorem okF_8_28 : okF 8 (28, 8, 8) := ⟨_, _, _, rfl, by decide, rfl, gw_mem 803 (by decide +kernel) rfl⟩
theorem okF_8_31 : okF 8 (31, 8, 9) := ⟨_, _, _, rfl, by decide, rfl, gw_mem 804 (by decide +kernel) rfl⟩
theorem okF_8_34 : okF 8 (34, 8, 10) := ⟨_, _, _, rfl, by decide, rfl, gw_mem 805 (by decide +kernel) rfl⟩
theorem okF_8_37 : okF 8 (37, 8, 11) := ⟨_, _, _, rfl, by decide, rfl, gw_mem 806 (by decide +kernel) rfl⟩
theorem okF_8_40 : okF 8 (40, 8, 17) := ⟨_, _, _, rfl, by decide, rfl, gw_mem 812 (by decide +kernel) rfl⟩
theorem okF_8_43 : okF 8 (43, 8, 18) := ⟨_, _, _, rfl, by decide, rfl, gw_mem 813 (by decide +kernel) rfl⟩
theorem okF_8_46 : okF 8 (46, 8, 19) := ⟨_, _, _, rfl, by decide, rfl, gw_mem 814 (by decide +kernel) rfl⟩
theorem okF_8_49 : okF 8 (49, 8, 21) := ⟨_, _, _, rfl, by decide, rfl, gw_mem 816 (by decide +kernel) rfl⟩
theorem okF_8_65 : okF 8 (65, 8, 7) := ⟨_, _, _, rfl, by decide, rfl, gw_mem 802 (by decide +kernel) rfl⟩
theorem okF_8_101 : okF 8 (101, 8, 13) := ⟨_, _, _, rfl, by decide, rfl, gw_mem 808 (by decide +kernel) rfl⟩
theorem okF_8_104 : okF 8 (104, 8, 12) := ⟨_, _, _, rfl, by decide, rfl, gw_mem 807 (by decide +kernel) rfl⟩
theorem okF_8_107 : okF 8 (107, 8, 16) := ⟨_, _, _, rfl, by decide, rfl, gw_mem 811 (by decide +kernel) rfl⟩
theorem okF_8_114 : okF 8 (114, 8, 15) := ⟨_, _, _, rfl, by decide, rfl, gw_mem 810 (by decide +kernel) rfl⟩
theorem okF_8_122 : okF 8 (122, 8, 14) := ⟨_, _, _, rfl, by decide, rfl, gw_mem 809 (by decide +kernel) rfl⟩
theorem okF_8_190 : okF 8 (190, 8, 20) := ⟨_, _, _, rfl, by decide, rfl, gw_mem 815 (by decide +kernel) rfl⟩
theorem okF_8_209 : okF 8 (209, 8, 22) := ⟨_, _, _, rfl, by decide, rfl, gw_mem 817 (by decide +kernel) rfl⟩
theorem okF_8_236 : okF 8 (236, 8, 23) := ⟨_, _, _, rfl, by decide, rfl, gw_mem 818 (by decide +kernel) rfl⟩
theorem okF_8_260 : okF 8 (260, 8, 2) := ⟨_, _, _, rfl, by decide, rfl, gw_mem 797 (by decide +kernel) rfl⟩
theorem okF_8 : ∀ q ∈ flk_8, okF 8 q := List.forall_mem_cons.mpr ⟨okF_8_9, List.forall_mem_cons.mpr ⟨okF_8_13, List.forall_mem_cons.mpr ⟨okF_8_16, List.forall_mem_cons.mpr ⟨okF_8_19, List.forall_mem_cons.mpr ⟨okF_8_22, List.forall_mem_cons.mpr ⟨okF_8_25, List.forall_mem_cons.mpr ⟨okF_8_28, List.forall_mem_cons.mpr ⟨okF_8_31, List.forall_mem_cons.mpr ⟨okF_8_34, List.forall_mem_cons.mpr ⟨okF_8_37, List.forall_mem_cons.mpr ⟨okF_8_40, List.forall_mem_cons.mpr ⟨okF_8_43, List.forall_mem_cons.mpr ⟨okF_8_46, List.forall_mem_cons.mpr ⟨okF_8_49, List.forall_mem_cons.mpr ⟨okF_8_65, List.forall_mem_cons.mpr ⟨okF_8_101, List.forall_mem_cons.mpr ⟨okF_8_104, List.forall_mem_cons.mpr ⟨okF_8_107, List.forall_mem_cons.mpr ⟨okF_8_114, List.forall_mem_cons.mpr ⟨okF_8_122, List.forall_mem_cons.mpr ⟨okF_8_190, List.forall_mem_cons.mpr ⟨okF_8_209, List.forall_mem_cons.mpr ⟨okF_8_236, List.forall_mem_cons.mpr ⟨okF_8_260, fun _ h => absurd h List.not_mem_nil⟩⟩⟩⟩⟩⟩⟩⟩⟩⟩⟩⟩⟩⟩⟩⟩⟩⟩⟩⟩⟩⟩⟩⟩
theorem okF_9 : ∀ q ∈ flk_9, okF 9 q := fun _ h => absurd h List.not_mem_nil
theorem okF_10 : ∀ q ∈ flk_10, okF 10 q := fun _ h => absurd h List.not_mem_nil
theorem okF_11 : ∀ q ∈ flk_11, okF 11 q := fun _ h => absurd h List.not_mem_nil
theorem okF_all : ∀ (ci : Nat) l, flk_T[ci]? = some l → ∀ q ∈ l, okF ci q := by
  intro ci l h
  match ci, h with
  | 0, h => cases h; exact okF_0
  | 1, h => cases h; exact okF_1
  | 2, h => cases h; exact okF_2
  | 3, h => cases h; exact okF_3
  | 4, h => cases h; exact okF_4
  | 5, h => cases h; exact okF_5
  | 6, h => cases h; exact okF_6
  | 7, h => cases h; exact okF_7
  | 8, h => cases h; exact okF_8
  | 9, h => cases h; exact okF_9
  | 10, h => cases h; exact okF_10
  | 11, h => cases h; exact okF_11
  | n + 12, h => simp [flk_T] at h
def okG (ci : Nat) (q : Nat × Nat) : Prop := (q.2 = 1 ∧ Cond.fieldLink (clsN ci) q.1 RX7 "KIND_ABOVE" "[I" ∈ gw) ∨ (q.2 = 2 ∧ ((ci = 5 ∧ q.1 = 40) ∨ Cond.fieldLink (clsN ci) q.1 RX7 "BODIES" "[I" ∈ gw))
theorem okG_0 : ∀ q ∈ glk_0, okG 0 q := fun _ h => absurd h List.not_mem_nil
theorem okG_1 : ∀ q ∈ glk_1, okG 1 q := fun _ h => absurd h List.not_mem_nil
theorem okG_2 : ∀ q ∈ glk_2, okG 2 q := fun _ h => absurd h List.not_mem_nil
theorem okG_3 : ∀ q ∈ glk_3, okG 3 q := fun _ h => absurd h List.not_mem_nil
theorem okG_4 : ∀ q ∈ glk_4, okG 4 q := fun _ h => absurd h List.not_mem_nil
theorem okG_5_40 : okG 5 (40, 2) := Or.inr ⟨rfl, Or.inl ⟨rfl, rfl⟩⟩
theorem okG_5 : ∀ q ∈ glk_5, okG 5 q := List.forall_mem_cons.mpr ⟨okG_5_40, fun _ h => absurd h List.not_mem_nil⟩
theorem okG_6 : ∀ q ∈ glk_6, okG 6 q := fun _ h => absurd h List.not_mem_nil
theorem okG_7_65 : okG 7 (65, 1) := Or.inl ⟨rfl, gw_mem 397 (by decide +kernel) rfl⟩
theorem okG_7 : ∀ q ∈ glk_7, okG 7 q := List.forall_mem_cons.mpr ⟨okG_7_65, fun _ h => absurd h List.not_mem_nil⟩
theorem okG_8 : ∀ q ∈ glk_8, okG 8 q := fun _ h => absurd h List.not_mem_nil
theorem okG_9 : ∀ q ∈ glk_9, okG 9 q := fun _ h => absurd h List.not_mem_nil
theorem okG_10 : ∀ q ∈ glk_10, okG 10 q := fun _ h => absurd h List.not_mem_nil
theorem okG_11 : ∀ q ∈ glk_11, okG 11 q := fun _ h => absurd h List.not_mem_nil
theorem okG_all : ∀ (ci : Nat) l, glk_T[ci]? = some l → ∀ q ∈ l, okG ci q := by
  intro ci l h
  match ci, h with
  | 0, h => cases h; exact okG_0
  | 1, h => cases h; exact okG_1
  | 2, h => cases h; exact okG_2
  | 3, h => cases h; exact okG_3
  | 4, h => cases h; exact okG_4
  | 5, h => cases h; exact okG_5
  | 6, h => cases h; exact okG_6
  | 7, h => cases h; exact okG_7
  | 8, h => cases h; exact okG_8
  | 9, h => cases h; exact okG_9
  | 10, h => cases h; exact okG_10
  | 11, h => cases h; exact okG_11
  | n + 12, h => simp [glk_T] at h
def okK (ci : Nat) (q : Nat × Nat) : Prop := ∃ (C : String) (T : u_T) (N : Nat), classes[q.2]? = some (C, T, N) ∧ Cond.classLink (clsN ci) q.1 C ∈ gw ∧ Cond.instantiable C N ∈ gw ∧ Cond.initialized C ∈ gw
theorem okK_0_9 : okK 0 (9, 1) := ⟨_, _, _, rfl, gw_mem 88 (by decide +kernel) rfl, gw_mem 90 (by decide +kernel) rfl, gw_mem 63 (by decide +kernel) rfl⟩
theorem okK_0_28 : okK 0 (28, 6) := ⟨_, _, _, rfl, gw_mem 130 (by decide +kernel) rfl, gw_mem 131 (by decide +kernel) rfl, gw_mem 64 (by decide +kernel) rfl⟩
theorem okK_0 : ∀ q ∈ clk_0, okK 0 q := List.forall_mem_cons.mpr ⟨okK_0_9, List.forall_mem_cons.mpr ⟨okK_0_28, fun _ h => absurd h List.not_mem_nil⟩⟩
theorem okK_1 : ∀ q ∈ clk_1, okK 1 q := fun _ h => absurd h List.not_mem_nil
theorem okK_2_9 : okK 2 (9, 6) := ⟨_, _, _, rfl, gw_mem 249 (by decide +kernel) rfl, gw_mem 131 (by decide +kernel) rfl, gw_mem 64 (by decide +kernel) rfl⟩
theorem okK_2 : ∀ q ∈ clk_2, okK 2 q := List.forall_mem_cons.mpr ⟨okK_2_9, fun _ h => absurd h List.not_mem_nil⟩
theorem okK_3 : ∀ q ∈ clk_3, okK 3 q := fun _ h => absurd h List.not_mem_nil
theorem okK_4 : ∀ q ∈ clk_4, okK 4 q := fun _ h => absurd h List.not_mem_nil
theorem okK_5 : ∀ q ∈ clk_5, okK 5 q := fun _ h => absurd h List.not_mem_nil
theorem okK_6 : ∀ q ∈ clk_6, okK 6 q := fun _ h => absurd h List.not_mem_nil
theorem okK_7_7 : okK 7 (7, 0) := ⟨_, _, _, rfl, gw_mem 82 (by decide +kernel) rfl, gw_mem 83 (by decide +kernel) rfl, gw_mem 62 (by decide +kernel) rfl⟩
theorem okK_7_19 : okK 7 (19, 3) := ⟨_, _, _, rfl, gw_mem 217 (by decide +kernel) rfl, gw_mem 218 (by decide +kernel) rfl, gw_mem 65 (by decide +kernel) rfl⟩
theorem okK_7_26 : okK 7 (26, 2) := ⟨_, _, _, rfl, gw_mem 243 (by decide +kernel) rfl, gw_mem 244 (by decide +kernel) rfl, gw_mem 66 (by decide +kernel) rfl⟩
theorem okK_7_33 : okK 7 (33, 5) := ⟨_, _, _, rfl, gw_mem 268 (by decide +kernel) rfl, gw_mem 269 (by decide +kernel) rfl, gw_mem 67 (by decide +kernel) rfl⟩
theorem okK_7_40 : okK 7 (40, 4) := ⟨_, _, _, rfl, gw_mem 295 (by decide +kernel) rfl, gw_mem 297 (by decide +kernel) rfl, gw_mem 68 (by decide +kernel) rfl⟩
theorem okK_7 : ∀ q ∈ clk_7, okK 7 q := List.forall_mem_cons.mpr ⟨okK_7_7, List.forall_mem_cons.mpr ⟨okK_7_19, List.forall_mem_cons.mpr ⟨okK_7_26, List.forall_mem_cons.mpr ⟨okK_7_33, List.forall_mem_cons.mpr ⟨okK_7_40, fun _ h => absurd h List.not_mem_nil⟩⟩⟩⟩⟩
theorem okK_8 : ∀ q ∈ clk_8, okK 8 q := fun _ h => absurd h List.not_mem_nil
theorem okK_9_7 : okK 9 (7, 7) := ⟨_, _, _, rfl, gw_mem 74 (by decide +kernel) rfl, gw_mem 75 (by decide +kernel) rfl, gw_mem 61 (by decide +kernel) rfl⟩
theorem okK_9_10 : okK 9 (10, 8) := ⟨_, _, _, rfl, gw_mem 789 (by decide +kernel) rfl, gw_mem 790 (by decide +kernel) rfl, gw_mem 69 (by decide +kernel) rfl⟩
theorem okK_9 : ∀ q ∈ clk_9, okK 9 q := List.forall_mem_cons.mpr ⟨okK_9_7, List.forall_mem_cons.mpr ⟨okK_9_10, fun _ h => absurd h List.not_mem_nil⟩⟩
theorem okK_10 : ∀ q ∈ clk_10, okK 10 q := fun _ h => absurd h List.not_mem_nil
theorem okK_11 : ∀ q ∈ clk_11, okK 11 q := fun _ h => absurd h List.not_mem_nil
theorem okK_all : ∀ (ci : Nat) l, clk_T[ci]? = some l → ∀ q ∈ l, okK ci q := by
  intro ci l h
  match ci, h with
  | 0, h => cases h; exact okK_0
  | 1, h => cases h; exact okK_1
  | 2, h => cases h; exact okK_2
  | 3, h => cases h; exact okK_3
  | 4, h => cases h; exact okK_4
  | 5, h => cases h; exact okK_5
  | 6, h => cases h; exact okK_6
  | 7, h => cases h; exact okK_7
  | 8, h => cases h; exact okK_8
  | 9, h => cases h; exact okK_9
  | 10, h => cases h; exact okK_10
  | 11, h => cases h; exact okK_11
  | n + 12, h => simp [clk_T] at h
def okI (ci : Nat) (q : Nat × Int32) : Prop := Cond.constant (clsN ci) q.1 q.2 ∈ gw
theorem okI_0_86 : okI 0 (86, (99999 : Int32)) := gw_mem 586 (by decide +kernel) rfl
theorem okI_0_103 : okI 0 (103, (1103515245 : Int32)) := gw_mem 604 (by decide +kernel) rfl
theorem okI_0 : ∀ q ∈ cst_0, okI 0 q := List.forall_mem_cons.mpr ⟨okI_0_86, List.forall_mem_cons.mpr ⟨okI_0_103, fun _ h => absurd h List.not_mem_nil⟩⟩
theorem okI_1 : ∀ q ∈ cst_1, okI 1 q := fun _ h => absurd h List.not_mem_nil
theorem okI_2 : ∀ q ∈ cst_2, okI 2 q := fun _ h => absurd h List.not_mem_nil
theorem okI_3_120 : okI 3 (120, (99999 : Int32)) := gw_mem 589 (by decide +kernel) rfl
theorem okI_3 : ∀ q ∈ cst_3, okI 3 q := List.forall_mem_cons.mpr ⟨okI_3_120, fun _ h => absurd h List.not_mem_nil⟩
theorem okI_4_22 : okI 4 (22, (65535 : Int32)) := gw_mem 726 (by decide +kernel) rfl
theorem okI_4 : ∀ q ∈ cst_4, okI 4 q := List.forall_mem_cons.mpr ⟨okI_4_22, fun _ h => absurd h List.not_mem_nil⟩
theorem okI_5 : ∀ q ∈ cst_5, okI 5 q := fun _ h => absurd h List.not_mem_nil
theorem okI_6 : ∀ q ∈ cst_6, okI 6 q := fun _ h => absurd h List.not_mem_nil
theorem okI_7_55 : okI 7 (55, (-1000000000 : Int32)) := gw_mem 351 (by decide +kernel) rfl
theorem okI_7_228 : okI 7 (228, (99999 : Int32)) := gw_mem 644 (by decide +kernel) rfl
theorem okI_7 : ∀ q ∈ cst_7, okI 7 q := List.forall_mem_cons.mpr ⟨okI_7_55, List.forall_mem_cons.mpr ⟨okI_7_228, fun _ h => absurd h List.not_mem_nil⟩⟩
theorem okI_8_52 : okI 8 (52, (-1000000000 : Int32)) := gw_mem 877 (by decide +kernel) rfl
theorem okI_8_80 : okI 8 (80, (-1000000004 : Int32)) := gw_mem 872 (by decide +kernel) rfl
theorem okI_8_91 : okI 8 (91, (-1000000001 : Int32)) := gw_mem 892 (by decide +kernel) rfl
theorem okI_8_98 : okI 8 (98, (-1000000005 : Int32)) := gw_mem 924 (by decide +kernel) rfl
theorem okI_8_177 : okI 8 (177, (-1000000002 : Int32)) := gw_mem 1044 (by decide +kernel) rfl
theorem okI_8_178 : okI 8 (178, (99999 : Int32)) := gw_mem 1054 (by decide +kernel) rfl
theorem okI_8_179 : okI 8 (179, (-1000000003 : Int32)) := gw_mem 1049 (by decide +kernel) rfl
theorem okI_8_183 : okI 8 (183, (1103515245 : Int32)) := gw_mem 1067 (by decide +kernel) rfl
theorem okI_8_248 : okI 8 (248, (-1000000006 : Int32)) := gw_mem 1167 (by decide +kernel) rfl
theorem okI_8 : ∀ q ∈ cst_8, okI 8 q := List.forall_mem_cons.mpr ⟨okI_8_52, List.forall_mem_cons.mpr ⟨okI_8_80, List.forall_mem_cons.mpr ⟨okI_8_91, List.forall_mem_cons.mpr ⟨okI_8_98, List.forall_mem_cons.mpr ⟨okI_8_177, List.forall_mem_cons.mpr ⟨okI_8_178, List.forall_mem_cons.mpr ⟨okI_8_179, List.forall_mem_cons.mpr ⟨okI_8_183, List.forall_mem_cons.mpr ⟨okI_8_248, fun _ h => absurd h List.not_mem_nil⟩⟩⟩⟩⟩⟩⟩⟩⟩
theorem okI_9 : ∀ q ∈ cst_9, okI 9 q := fun _ h => absurd h List.not_mem_nil
theorem okI_10_265 : okI 10 (265, (1431655765 : Int32)) := gw_mem 653 (by decide +kernel) rfl
theorem okI_10_266 : okI 10 (266, (858993459 : Int32)) := gw_mem 654 (by decide +kernel) rfl
theorem okI_10_267 : okI 10 (267, (252645135 : Int32)) := gw_mem 655 (by decide +kernel) rfl
theorem okI_10 : ∀ q ∈ cst_10, okI 10 q := List.forall_mem_cons.mpr ⟨okI_10_265, List.forall_mem_cons.mpr ⟨okI_10_266, List.forall_mem_cons.mpr ⟨okI_10_267, fun _ h => absurd h List.not_mem_nil⟩⟩⟩
theorem okI_11 : ∀ q ∈ cst_11, okI 11 q := fun _ h => absurd h List.not_mem_nil
theorem okI_all : ∀ (ci : Nat) l, cst_T[ci]? = some l → ∀ q ∈ l, okI ci q := by
  intro ci l h
  match ci, h with
  | 0, h => cases h; exact okI_0
  | 1, h => cases h; exact okI_1
  | 2, h => cases h; exact okI_2
  | 3, h => cases h; exact okI_3
  | 4, h => cases h; exact okI_4
  | 5, h => cases h; exact okI_5
  | 6, h => cases h; exact okI_6
  | 7, h => cases h; exact okI_7
  | 8, h => cases h; exact okI_8
  | 9, h => cases h; exact okI_9
  | 10, h => cases h; exact okI_10
  | 11, h => cases h; exact okI_11
  | n + 12, h => simp [cst_T] at h
def okJ (ci : Nat) (q : Nat × Int64) : Prop := Cond.constantLong (clsN ci) q.1 q.2 ∈ gw
theorem okJ_0 : ∀ q ∈ csl_0, okJ 0 q := fun _ h => absurd h List.not_mem_nil
theorem okJ_1 : ∀ q ∈ csl_1, okJ 1 q := fun _ h => absurd h List.not_mem_nil
theorem okJ_2 : ∀ q ∈ csl_2, okJ 2 q := fun _ h => absurd h List.not_mem_nil
theorem okJ_3 : ∀ q ∈ csl_3, okJ 3 q := fun _ h => absurd h List.not_mem_nil
theorem okJ_4 : ∀ q ∈ csl_4, okJ 4 q := fun _ h => absurd h List.not_mem_nil
theorem okJ_5 : ∀ q ∈ csl_5, okJ 5 q := fun _ h => absurd h List.not_mem_nil
theorem okJ_6 : ∀ q ∈ csl_6, okJ 6 q := fun _ h => absurd h List.not_mem_nil
theorem okJ_7 : ∀ q ∈ csl_7, okJ 7 q := fun _ h => absurd h List.not_mem_nil
theorem okJ_8_99 : okJ 8 (99, (255 : Int64)) := gw_mem 945 (by decide +kernel) rfl
theorem okJ_8 : ∀ q ∈ csl_8, okJ 8 q := List.forall_mem_cons.mpr ⟨okJ_8_99, fun _ h => absurd h List.not_mem_nil⟩
theorem okJ_9_53 : okJ 9 (53, (4294967295 : Int64)) := gw_mem 1227 (by decide +kernel) rfl
theorem okJ_9 : ∀ q ∈ csl_9, okJ 9 q := List.forall_mem_cons.mpr ⟨okJ_9_53, fun _ h => absurd h List.not_mem_nil⟩
theorem okJ_10 : ∀ q ∈ csl_10, okJ 10 q := fun _ h => absurd h List.not_mem_nil
theorem okJ_11 : ∀ q ∈ csl_11, okJ 11 q := fun _ h => absurd h List.not_mem_nil
theorem okJ_all : ∀ (ci : Nat) l, csl_T[ci]? = some l → ∀ q ∈ l, okJ ci q := by
  intro ci l h
  match ci, h with
  | 0, h => cases h; exact okJ_0
  | 1, h => cases h; exact okJ_1
  | 2, h => cases h; exact okJ_2
  | 3, h => cases h; exact okJ_3
  | 4, h => cases h; exact okJ_4
  | 5, h => cases h; exact okJ_5
  | 6, h => cases h; exact okJ_6
  | 7, h => cases h; exact okJ_7
  | 8, h => cases h; exact okJ_8
  | 9, h => cases h; exact okJ_9
  | 10, h => cases h; exact okJ_10
  | 11, h => cases h; exact okJ_11
  | n + 12, h => simp [csl_T] at h
