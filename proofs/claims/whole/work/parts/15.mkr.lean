/-! RULES for a heap of the fixed shape, at cells and places that are not written out -/
def upA (M : xM) (k : Nat) (f : Nat → Int32) : xM := fun a => bif Nat.beq a k then f else M a
theorem mk_at {M : xM} {T c : Nat} {s : xS} (h : shp[c]? = some s) : (mk M T)[c]? = some (inst M T c s) := by
  unfold mk
  rw [ixL_0, h]
  rfl
theorem nbeq_t (a : Nat) : Nat.beq a a = true := Nat.beq_refl a
theorem up_ne {M : xM} {k a j : Nat} {v : Int32} (h : a ≠ k) : up M k j v a = M a := by
  unfold up
  rw [nbeq_ne h, cond_false]
theorem up_eq {M : xM} {k j : Nat} {v : Int32} : up M k j v k = upd (M k) j v := by
  unfold up
  rw [nbeq_t, cond_true]
theorem up_at {M : xM} {k j : Nat} {v : Int32} : up M k j v k j = v := by rw [up_eq]; simp [upd]
theorem up_nj {M : xM} {k j j' : Nat} {v : Int32} (h : j' ≠ j) (a : Nat) : up M k j v a j' = M a j' := by
  by_cases ha : a = k
  · subst ha
    rw [up_eq]
    simp [upd, h]
  · rw [up_ne ha]
theorem inst_o {M : xM} {T c ci : Nat} {ks : List (Option Nat)} : inst M T c (.inl (ci, ks)) = .inl (ci, ixL (fun j r => xFd M T c j r) 0 ks) := rfl
theorem inst_a {M : xM} {T c n : Nat} : inst M T c (.inr (.inl n)) = .inr (.inl (n, M c)) := rfl
theorem xFd_i {M : xM} {T c j : Nat} : xFd M T c j none = .int (M c j) := rfl
theorem xFd_r {M : xM} {T c j r : Nat} : xFd M T c j (some (r + 3)) = .ref (r + 3) := rfl
theorem inst_ne {M : xM} {T k j c : Nat} {v : Int32} {s : xS} (h : c ≠ k) : inst (up M k j v) T c s = inst M T c s := by
  match s with
  | .inl (ci, ks) =>
    rw [inst_o, inst_o]
    congr 3
    funext j r
    unfold xFd
    rw [up_ne h]
  | .inr (.inl n) => rw [inst_a, inst_a, up_ne h]
  | .inr (.inr (ci, rs)) => rfl
theorem mk_up {M : xM} {T k j : Nat} {v : Int32} {s : xS} (hs : shp[k]? = some s) : mk (up M k j v) T = (mk M T).set k (inst (up M k j v) T k s) := by
  apply List.ext_getElem?
  intro c
  by_cases hc : k = c
  · subst hc
    rw [mk_at hs, List.getElem?_set_self]
    exact (List.getElem?_eq_some_iff.mp (mk_at (M := M) (T := T) hs)).1
  · rw [List.getElem?_set_ne hc]
    cases h : shp[c]? with
    | none => unfold mk; rw [ixL_0, ixL_0, h]; rfl
    | some s2 => rw [mk_at h, mk_at h, inst_ne (Ne.symm hc)]
theorem xobj_mk {M : xM} {T c ci : Nat} {ks : List (Option Nat)} (hs : shp[c]? = some (.inl (ci, ks))) : xobj (mk M T) (c + 3) = some (ci, ixL (fun j r => xFd M T c j r) 0 ks) := by
  unfold xobj xget
  dsimp only
  rw [mk_at hs]
  rfl
theorem xPre_c {M : xM} {T c ci kd : Nat} {ks : List (Option Nat)} {y : MD} {st r : List Value} (hs : shp[c]? = some (.inl (ci, ks))) (hk : (Nat.beq kd 1 || Nat.beq kd 3) = false) (hd : st.drop (mdP y) = .ref (c + 3) :: r) (hb : (Nat.beq ci (mdK y) && Nat.ble (xCat r) 8) = true) {as : List Value} (ha : Value.ref (c + 3) :: (st.take (mdP y)).reverse = as) : xPre kd y st (mk M T) = some (as, r) := by
  subst ha
  unfold xPre
  rw [hk, cond_false, hd]
  dsimp only
  rw [xobj_mk hs]
  dsimp only
  rw [hb, cond_true]
section MKR
variable {ro : xRO} {d : Nat} {md : MD} {pc : Nat} {L : xL} {st : List Value} {h : xH} {Q : Option Value → xH → Prop} {M : xM} {T : Nat}
theorem R_top {x y : Int32} (e : x = y) (kk : Rn ro d md pc L (.int y :: st) h Q) : Rn ro d md pc L (.int x :: st) h Q := by
  subst e
  exact kk
theorem stp_getfield {k : Nat} : stp ro md (.getfield k) pc L st h = xGet (mdK md) k pc L st h := rfl
theorem stp_putfield {k : Nat} : stp ro md (.putfield k) pc L st h = xPut md k pc L st h := rfl
theorem stp_iaload : stp ro md .iaload pc L st h = xIald ro pc L st h := rfl
theorem stp_iastore : stp ro md .iastore pc L st h = xIast pc L st h := rfl
theorem stp_aaload : stp ro md .aaload pc L st h = xAald pc L st h := rfl
theorem stp_alen : stp ro md .arraylength pc L st h = xAlen ro pc L st h := rfl
theorem stp_idiv : stp ro md .idiv pc L st h = xBinD (fun x y => x / y) pc L st h := rfl
theorem stp_irem : stp ro md .irem pc L st h = xBinD (fun x y => x - x / y * y) pc L st h := rfl
theorem stp_tsw {a b c : Int} {o : Array Int} : stp ro md (.tableswitch a b c o) pc L st h = xTsw a b c o pc L st h := rfl
theorem stp_lsw {a : Int} {o : Array (Int × Int)} : stp ro md (.lookupswitch a o) pc L st h = xLsw a o pc L st h := rfl
/-- one step -/
theorem R_stp {i : Instr} {len pc' : Nat} {L' : xL} {st' : List Value} {h' : xH} (hi : mdI md pc = some (i, len)) (hl : xLen i len = true) (hr : xRet md i st = none) (hc : xCal md i = none) (hs : stp ro md i pc L st h = some (pc', L', st', h', 0, 0)) (kk : Rn ro d md pc' L' st' h' Q) : Rn ro d md pc L st h Q := by
  refine R_go 1 (fun n => ?_) kk
  show exec ro (n + 1) d md pc L st h 0 0 = _
  conv => lhs; unfold exec
  rw [hi]
  dsimp only
  rw [hl, cond_true, hr]
  dsimp only
  rw [hc]
  dsimp only
  rw [hs]
theorem R_getI {i j c ci : Nat} {ks : List (Option Nat)} (hs : shp[c]? = some (.inl (ci, ks))) (hi : mdI md pc = some (.getfield i, 3)) (hf : flk (mdK md) i = some (ci, j)) (hj : ks[j]? = some none) (kk : Rn ro d md (pc + 3) L (.int (M c j) :: st) (mk M T) Q) : Rn ro d md pc L (.ref (c + 3) :: st) (mk M T) Q := by
  refine R_stp hi rfl rfl rfl ?_ kk
  rw [stp_getfield]
  unfold xGet
  rw [hf]
  dsimp only
  rw [xobj_mk hs]
  dsimp only
  rw [ixL_0, hj]
  dsimp only [Option.map]
  rw [nbeq_t, cond_true, xFd_i]
theorem R_getR {i j c ci r : Nat} {ks : List (Option Nat)} (hs : shp[c]? = some (.inl (ci, ks))) (hi : mdI md pc = some (.getfield i, 3)) (hf : flk (mdK md) i = some (ci, j)) (hj : ks[j]? = some (some (r + 3))) (kk : Rn ro d md (pc + 3) L (.ref (r + 3) :: st) (mk M T) Q) : Rn ro d md pc L (.ref (c + 3) :: st) (mk M T) Q := by
  refine R_stp hi rfl rfl rfl ?_ kk
  rw [stp_getfield]
  unfold xGet
  rw [hf]
  dsimp only
  rw [xobj_mk hs]
  dsimp only
  rw [ixL_0, hj]
  dsimp only [Option.map]
  rw [nbeq_t, cond_true, xFd_r]
theorem set_fd {M : xM} {T c j : Nat} {v : Int32} {ks : List (Option Nat)} (hk : ks[j]? = some none) : (ixL (fun j r => xFd M T c j r) 0 ks).set j (.int v) = ixL (fun j' r => xFd (up M c j v) T c j' r) 0 ks := by
  apply List.ext_getElem?
  intro b
  have hl := (List.getElem?_eq_some_iff.mp hk).1
  by_cases hb : j = b
  · subst hb
    rw [List.getElem?_set_self (by rw [ixL_len]; exact hl), ixL_0, hk]
    show some (Value.int v) = some (.int (up M c j v c j))
    rw [up_at]
  · rw [List.getElem?_set_ne hb, ixL_0, ixL_0]
    congr 1
    funext r
    unfold xFd
    rw [up_nj (Ne.symm hb)]
theorem R_put0 {i j c ci : Nat} {v : Int32} {ks : List (Option Nat)} (hs : shp[c]? = some (.inl (ci, ks))) (hi : mdI md pc = some (.putfield i, 3)) (hf : flk (mdK md) i = some (ci, j)) (hk : ks[j]? = some none) (hfit : xFit (xTy ci j) (.int v) = true) (hfin : xFinal ci j = false) (kk : Rn ro d md (pc + 3) L st (mk (up M c j v) T) Q) : Rn ro d md pc L (.int v :: .ref (c + 3) :: st) (mk M T) Q := by
  refine R_stp hi rfl rfl rfl ?_ kk
  rw [stp_putfield]
  unfold xPut
  rw [hf]
  dsimp only
  rw [xobj_mk hs]
  dsimp only
  have hl := (List.getElem?_eq_some_iff.mp hk).1
  rw [nbeq_t, hfit, hfin, show Nat.blt j (ixL (fun j r => xFd M T c j r) 0 ks).length = true from Nat.ble_eq_true_of_le (by rw [ixL_len]; exact hl)]
  rw [mk_up hs, inst_o, ← set_fd hk]
  rfl
theorem R_putI {i j c ci : Nat} {v : Int32} {ks : List (Option Nat)} (hs : shp[c]? = some (.inl (ci, ks))) (hi : mdI md pc = some (.putfield i, 3)) (hf : flk (mdK md) i = some (ci, j)) (hk : ks[j]? = some none) (kk : Rn ro d md (pc + 3) L st (mk (up M c j v) T) Q) (hty : xTy ci j = .int := by rfl) (hfin : xFinal ci j = false := by rfl) : Rn ro d md pc L (.int v :: .ref (c + 3) :: st) (mk M T) Q :=
  R_put0 hs hi hf hk (by rw [hty]; rfl) hfin kk
theorem R_putZ {i j c ci : Nat} {v : Int32} {ks : List (Option Nat)} (hs : shp[c]? = some (.inl (ci, ks))) (hi : mdI md pc = some (.putfield i, 3)) (hf : flk (mdK md) i = some (ci, j)) (hk : ks[j]? = some none) (hv : v = 0 ∨ v = 1) (kk : Rn ro d md (pc + 3) L st (mk (up M c j v) T) Q) (hty : xTy ci j = .boolean := by rfl) (hfin : xFinal ci j = false := by rfl) : Rn ro d md pc L (.int v :: .ref (c + 3) :: st) (mk M T) Q :=
  R_put0 hs hi hf hk (by rw [hty]; rcases hv with rfl | rfl <;> rfl) hfin kk
theorem R_iald {c n j : Nat} (hs : shp[c]? = some (.inr (.inl n))) (hi : mdI md pc = some (.iaload, 1)) (hj : j < n) (hn : n < 2 ^ 31 := by decide) (kk : Rn ro d md (pc + 1) L (.int (M c j) :: st) (mk M T) Q) : Rn ro d md pc L (.int (nI j) :: .ref (c + 3) :: st) (mk M T) Q := by
  refine R_stp hi rfl rfl rfl ?_ kk
  rw [stp_iaload]
  unfold xIald xarr
  dsimp only
  rw [mk_at hs]
  rw [inst_a]
  dsimp only
  rw [if_neg (vp_in_nI hj hn), nI_clamp (by omega)]
theorem R_iast {c n j : Nat} {x : Int32} (hs : shp[c]? = some (.inr (.inl n))) (hi : mdI md pc = some (.iastore, 1)) (hj : j < n) (hn : n < 2 ^ 31 := by decide) (kk : Rn ro d md (pc + 1) L st (mk (up M c j x) T) Q) : Rn ro d md pc L (.int x :: .int (nI j) :: .ref (c + 3) :: st) (mk M T) Q := by
  refine R_stp hi rfl rfl rfl ?_ kk
  rw [stp_iastore]
  unfold xIast
  dsimp only
  rw [mk_at hs]
  rw [inst_a]
  dsimp only
  rw [if_neg (vp_in_nI hj hn), nI_clamp (by omega), mk_up hs]
  rw [inst_a, up_eq]
theorem R_alen {c n : Nat} (hs : shp[c]? = some (.inr (.inl n))) (hi : mdI md pc = some (.arraylength, 1)) (kk : Rn ro d md (pc + 1) L (.int (nI n) :: st) (mk M T) Q) : Rn ro d md pc L (.ref (c + 3) :: st) (mk M T) Q := by
  refine R_stp hi rfl rfl rfl ?_ kk
  rw [stp_alen]
  unfold xAlen xarr
  dsimp only
  rw [mk_at hs]
  rfl
theorem R_ialdO {a n j : Nat} {f : Nat → Int32} (ha : xarr ro (mk M T) a = some (n, f)) (hi : mdI md pc = some (.iaload, 1)) (hj : j < n) (hn : n < 2 ^ 31) (kk : Rn ro d md (pc + 1) L (.int (f j) :: st) (mk M T) Q) : Rn ro d md pc L (.int (nI j) :: .ref a :: st) (mk M T) Q := by
  refine R_stp hi rfl rfl rfl ?_ kk
  rw [stp_iaload]
  unfold xIald
  dsimp only
  rw [ha]
  dsimp only
  rw [if_neg (vp_in_nI hj hn), nI_clamp (by omega)]
theorem R_idiv {x y : Int32} (hi : mdI md pc = some (.idiv, 1)) (hy : ¬ y = 0) (kk : Rn ro d md (pc + 1) L (.int (x / y) :: st) h Q) : Rn ro d md pc L (.int y :: .int x :: st) h Q := by
  refine R_stp hi rfl rfl rfl ?_ kk
  rw [stp_idiv]
  unfold xBinD
  dsimp only
  rw [if_neg hy]
theorem R_irem {x y : Int32} (hi : mdI md pc = some (.irem, 1)) (hy : ¬ y = 0) (kk : Rn ro d md (pc + 1) L (.int (x - x / y * y) :: st) h Q) : Rn ro d md pc L (.int y :: .int x :: st) h Q := by
  refine R_stp hi rfl rfl rfl ?_ kk
  rw [stp_irem]
  unfold xBinD
  dsimp only
  rw [if_neg hy]
theorem R_tswd {dflt lo hi : Int} {offs : Array Int} {len t : Nat} {x : Int32} (hi' : mdI md pc = some (.tableswitch dflt lo hi offs, len)) (ho : x.toInt < lo ∨ hi < x.toInt) (ht : xT pc dflt = some t) (kk : Rn ro d md t L st h Q) : Rn ro d md pc L (.int x :: st) h Q := by
  refine R_stp hi' rfl rfl rfl ?_ kk
  rw [stp_tsw]
  unfold xTsw
  dsimp only
  rw [if_pos ho]
  unfold xGo
  rw [ht]
theorem R_lswd {dflt o : Int} {ps : Array (Int × Int)} {len t : Nat} {x : Int32} (hi' : mdI md pc = some (.lookupswitch dflt ps, len)) (hb : (ps.toList.zip (ps.toList.drop 1)).all (fun (a, next) => a.1 < next.1) = true) (ho : Op.lookupswitch.offset ps.toList dflt x.toInt = o) (ht : xT pc o = some t) (kk : Rn ro d md t L st h Q) : Rn ro d md pc L (.int x :: st) h Q := by
  refine R_stp hi' rfl rfl rfl ?_ kk
  rw [stp_lsw]
  unfold xLsw
  dsimp only
  rw [hb, cond_true, ho]
  unfold xGo
  rw [ht]
theorem R_aald {c n j r ci : Nat} {rs : List Nat} (hs : shp[c]? = some (.inr (.inr (ci, rs)))) (hi : mdI md pc = some (.aaload, 1)) (hn : rs.length = n) (hj : j < n) (hn2 : n < 2 ^ 31) (hr : xRf rs 0 (fun _ => none) j = some r) (kk : Rn ro d md (pc + 1) L (.ref r :: st) (mk M T) Q) : Rn ro d md pc L (.int (nI j) :: .ref (c + 3) :: st) (mk M T) Q := by
  refine R_stp hi rfl rfl rfl ?_ kk
  rw [stp_aaload]
  unfold xAald xrar xget
  dsimp only
  rw [mk_at hs]
  dsimp only [inst]
  rw [hn, if_neg (vp_in_nI hj hn2), nI_clamp (by omega), hr]
  rfl
theorem R_aald_2 {j : Nat} (hi : mdI md pc = some (.aaload, 1)) (hj : j < 8) (kk : Rn ro d md (pc + 1) L (.ref (3 + j + 3) :: st) (mk M T) Q) : Rn ro d md pc L (.int (nI j) :: .ref 5 :: st) (mk M T) Q := by
  refine R_aald (c := 2) rfl hi rfl hj (by decide) ?_ kk
  match j, hj with
  | 0, _ => rfl
  | 1, _ => rfl
  | 2, _ => rfl
  | 3, _ => rfl
  | 4, _ => rfl
  | 5, _ => rfl
  | 6, _ => rfl
  | 7, _ => rfl
theorem R_aald_21 {j : Nat} (hi : mdI md pc = some (.aaload, 1)) (hj : j < 8) (kk : Rn ro d md (pc + 1) L (.ref (22 + j + 3) :: st) (mk M T) Q) : Rn ro d md pc L (.int (nI j) :: .ref 24 :: st) (mk M T) Q := by
  refine R_aald (c := 21) rfl hi rfl hj (by decide) ?_ kk
  match j, hj with
  | 0, _ => rfl
  | 1, _ => rfl
  | 2, _ => rfl
  | 3, _ => rfl
  | 4, _ => rfl
  | 5, _ => rfl
  | 6, _ => rfl
  | 7, _ => rfl
theorem R_aald_51 {j : Nat} (hi : mdI md pc = some (.aaload, 1)) (hj : j < 4) (kk : Rn ro d md (pc + 1) L (.ref (52 + 2 * j + 3) :: st) (mk M T) Q) : Rn ro d md pc L (.int (nI j) :: .ref 54 :: st) (mk M T) Q := by
  refine R_aald (c := 51) rfl hi rfl hj (by decide) ?_ kk
  match j, hj with
  | 0, _ => rfl
  | 1, _ => rfl
  | 2, _ => rfl
  | 3, _ => rfl
end MKR
theorem sh_pane {p : Nat} (h : p < 8) : shp[3 + p]? = some (.inl (1, [none, none, none, none, none, none, none])) := by
  match p, h with
  | 0, _ => rfl
  | 1, _ => rfl
  | 2, _ => rfl
  | 3, _ => rfl
  | 4, _ => rfl
  | 5, _ => rfl
  | 6, _ => rfl
  | 7, _ => rfl
theorem sh_kpane {p : Nat} (h : p < 8) : shp[22 + p]? = some (.inl (1, [none, none, none, none, none, none, none])) := by
  match p, h with
  | 0, _ => rfl
  | 1, _ => rfl
  | 2, _ => rfl
  | 3, _ => rfl
  | 4, _ => rfl
  | 5, _ => rfl
  | 6, _ => rfl
  | 7, _ => rfl
theorem sh_sheet {p : Nat} (h : p < 4) : shp[52 + 2 * p]? = some (.inl (4, [some (53 + 2 * p + 3), none, none])) := by
  match p, h with
  | 0, _ => rfl
  | 1, _ => rfl
  | 2, _ => rfl
  | 3, _ => rfl
theorem sh_nums {p : Nat} (h : p < 4) : shp[53 + 2 * p]? = some (.inr (.inl 24)) := by
  match p, h with
  | 0, _ => rfl
  | 1, _ => rfl
  | 2, _ => rfl
  | 3, _ => rfl
