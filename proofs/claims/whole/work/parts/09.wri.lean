/-! the steps that write, make cells, or go through a method of the JDK; all steps in one theorem -/
theorem xFit_ok {g : xG} {ty : FieldType} {v : Value} (h9 : xFit ty v = true) : narrow ty (cvV g v) = cvV g v ∧ fits ty (cvV g v) = true := by
  cases ty <;> cases v <;> first | (exact ⟨rfl, rfl⟩) | (exact Bool.noConfusion h9) | skip
  rename_i x
  have h : (x == 0 || x == 1) = true := h9
  rw [Bool.or_eq_true] at h
  rcases h with h | h
  · have := eq_of_beq h
    subst this
    exact ⟨rfl, rfl⟩
  · have := eq_of_beq h
    subst this
    exact ⟨rfl, rfl⟩
theorem cat_le (v : Value) : v.category ≤ 2 := by cases v <;> simp [Value.category]
theorem cat_sum (g : xG) (r : List Value) {n : Nat} (h : Nat.ble r.length n = true) : ((r.map (cvV g)).map fun v => v.category).sum ≤ 2 * n := by
  have h := Nat.le_of_ble_eq_true h
  induction r generalizing n with
  | nil => simp
  | cons v r ih =>
    cases n with
    | zero => simp at h
    | succ n =>
      have h3 : r.length ≤ n := Nat.le_of_succ_le_succ h
      have h1 := ih (n := n) (Nat.ble_eq_true_of_le h3) h3
      have h2 := cat_le (cvV g v)
      simp only [List.map_cons, List.sum_cons] at h1 ⊢
      omega
theorem cat_sum2 (g : xG) (r : List Value) (h : Nat.ble (xCat r) 8 = true) : ((r.map (cvV g)).map fun v => v.category).sum ≤ 8 := by
  have h := Nat.le_of_ble_eq_true h
  have key : ∀ r : List Value, ((r.map (cvV g)).map fun v => v.category).sum ≤ xCat r := by
    intro r
    induction r with
    | nil => exact Nat.le_refl 0
    | cons v r ih =>
      have h2 : (cvV g v).category + xCat r = xCat (v :: r) := by cases v <;> rfl
      rw [← h2]
      simp only [List.map_cons, List.sum_cons]
      exact Nat.add_le_add_left ih _
  exact Nat.le_trans (key r) h
theorem cvV_def (g : xG) (ty : FieldType) : cvV g (defaultValue ty) = defaultValue ty := by cases ty <;> rfl
section SIW
variable {ro : xRO} {g : xG} {md : MD} {p : Program} {l : Launch} {e : Env} {R : Room} {s : State} {m : MethodId} {args : Array Value} {below : List Frame} {meth : Method} {c : Code} {Q : State → Prop} {cells slots d : Nat}
variable {pc len : Nat} {L L1 : xL} {st st1 st2 : List Value} {h h1 : xH} {pc1 c1 s1 : Nat}
theorem wPut {k : Nat} (C : ctx ro g md p R s m args meth c d) (hd : decode (mdC md) pc = .ok (.putfield k, 3)) (hs : xPut md k pc L st h = some (pc1, L1, st1, h1, c1, s1)) (kk : WX g md p l e R s m args below meth c Q pc1 L1 st1 h1 (cells + c1) (slots + s1)) : WX g md p l e R s m args below meth c Q pc L st h cells slots := by
  unfold xPut at hs
  split at hs
  · rename_i v a r fc f hf
    split at hs
    · rename_i oc fs ho
      obtain ⟨hb, he⟩ := bif_some hs
      cases he
      obtain ⟨k0, hk, hk0⟩ := xobj_inv ho
      have hk : a = k0 := Nat.add_right_cancel hk
      subst hk
      rw [Bool.and_eq_true, Bool.and_eq_true, Bool.and_eq_true] at hb
      obtain ⟨b1, b2, b3, b4⟩ := hb
      have b1 := Nat.eq_of_beq_eq_true b1
      subst b1
      have b2 : f < fs.length := Nat.lt_of_succ_le (Nat.le_of_ble_eq_true b2)
      obtain ⟨t, ht1, ht2⟩ := xfind_mem (show xfind flk_T _ _ = some _ from hf)
      obtain ⟨CN, T, N, hc, hk, hcl, hw⟩ := okF_all _ _ ht1 _ ht2
      have hc : classes[oc]? = some (CN, T, N) := hc
      have hk : f < N := hk
      have hcl : (T f).1 = CN := hcl
      obtain ⟨⟨ty0, hty⟩, hnm⟩ := okN_all _ (List.mem_of_getElem? hc)
      have hty : ∀ k, k < N → parseFieldDescriptor (T k).2.2.1 = some (ty0 k) := hty
      have hin := okC_all _ (List.mem_of_getElem? hc)
      have hfit : xTy oc f = ty0 f := by
        unfold xTy
        rw [hc]
        show (parseFieldDescriptor (T f).2.2.1).getD .int = _
        rw [hty f hk]
        rfl
      rw [hfit] at b3
      obtain ⟨hn, hfi⟩ := xFit_ok (g := g) b3
      have hfin : xFinal oc f = (T f).2.2.2 := by
        unfold xFinal
        rw [hc]
      rw [hfin] at b4
      intro H locs ls a0 b z
      have hK := C.2.2.2.2.2.2.1.1
      have hts := C.2.2.2.2.1
      have hown := C.2.2.2.1
      have hap := va_apart (s := s) (own := CN) hts hin ty0 hty hnm hK hc
      obtain ⟨rr, g1, cell, q1, q2, q3, q4⟩ := a0.2 a _ (cvW_at hk0)
      have hr : rr = (CN, T, N) := Option.some.inj (g1.symm.trans hc)
      subst hr
      obtain ⟨hS, hfc, kC, hkC, hkind⟩ := hK.1 oc _ hc
      obtain ⟨cf, kf, fi, fd, hi, hsl⟩ := hS f hk
      have hlay := hts _ (hin _ (u_in_lay hk))
      have hst := (u_facts hfc hkC (u_lays hts hin hk) hi).1
      have hsame : s.fieldFound? CN (T f).2.1 (T f).2.2.1 = some (cf, kf, fi, fd) := by rw [← hcl]; exact hi
      have fin : ∀ H' : Heap, H'[gB g + a]? = some (cell.setSlot fd.slot (cvV g v)) → H'.size = H.size → (∀ q, q ≠ gB g + a → H'[q]? = H[q]?) → hpR g (h.set a (.inl (oc, fs.set f v))) H' := by
        intro H' e1 e2 e3
        rw [hsl] at e1
        refine a0.set hk0 e2 ⟨_, hc, ?_⟩ e3
        show t_OB (gB g + a) _ _ _ H' (vp_V ((fs.set f v).map (cvV g)))
        refine t_OB.to (V := updV (vp_V (fs.map (cvV g))) f (cvV g v)) ⟨_, e1, q2, q3, t_set q4 hap hk (cvV g v)⟩ (fun j _ => ?_)
        rw [List.map_set]
        exact vp_updV_set (by rw [List.length_map]; exact b2) (cvV g v) j
      unfold u_lay at hlay
      cases hff : (T f).2.2.2 with
      | false =>
        rw [if_neg (by rw [hff]; decide)] at hlay
        have h6 := u_store hfc hkC hkind hlay hi (hty f hk) hn hfi
        refine W.putK C.1 C.2.1 (f := fd) ⟨hown, hts _ hw, ⟨_, _, _, hsame⟩, hst⟩ (by rw [q2]; exact h6) q1 q3 (by rw [hsl]; exact k2_hasslot (q4 f hk)) rfl rfl hd fun H' e1 e2 e3 => ?_
        exact kk H' _ ls (fin H' e1 e2 e3) (b.put e2 e3 (Nat.le_add_right _ _)) z
      | true =>
        rw [hff] at b4
        have b4 : (decide (md.1.name = "<init>") && Nat.beq oc (mdK md)) = true := b4
        rw [Bool.and_eq_true] at b4
        have hini := C.2.2.2.2.2.1 (of_decide_eq_true b4.1)
        have hoc := Nat.eq_of_beq_eq_true b4.2
        rw [if_pos hff] at hlay
        have hcf : m.cls = cf := by
          obtain ⟨_, _, c', _, _, _, -, -, hf', -, -, -, hown2, -⟩ := Cond.laysFinal_spec hlay
          have e1 : c' = cf := by have := hi.symm.trans hf'; simp at this; exact this.1.symm
          rw [hcl] at hown2
          have e2 : clsN (mdK md) = CN := by
            rw [← hoc]
            match oc, hc with
            | 0, hc => cases hc; rfl
            | 1, hc => cases hc; rfl
            | 2, hc => cases hc; rfl
            | 3, hc => cases hc; rfl
            | 4, hc => cases hc; rfl
            | 5, hc => cases hc; rfl
            | 6, hc => cases hc; rfl
            | 7, hc => cases hc; rfl
            | 8, hc => cases hc; rfl
            | n + 9, hc => simp [classes] at hc
          rw [e2] at hown
          rw [← e1]
          exact Option.some.inj (hown.symm.trans hown2)
        have h6 := u_fits hfc hkC hkind (Or.inr hlay) hi (hty f hk) hn hfi
        refine W.putFinK C.1 C.2.1 hown (hts _ hw) hsame hst hcf hini (by rw [q2]; exact h6) q1 q3 (by rw [hsl]; exact k2_hasslot (q4 f hk)) rfl rfl hd fun H' e1 e2 e3 => ?_
        exact kk H' _ ls (fin H' e1 e2 e3) (b.put e2 e3 (Nat.le_add_right _ _)) z
    · cases hs
  · cases hs
theorem wIast (C : ctx ro g md p R s m args meth c d) (hd : decode (mdC md) pc = .ok (.iastore, 1)) (hs : xIast pc L st h = some (pc1, L1, st1, h1, c1, s1)) (kk : WX g md p l e R s m args below meth c Q pc1 L1 st1 h1 (cells + c1) (slots + s1)) : WX g md p l e R s m args below meth c Q pc L st h cells slots := by
  unfold xIast at hs
  split at hs
  · rename_i x i a r
    split at hs
    · rename_i n f ha
      split at hs
      · cases hs
      · rename_i hin
        cases hs
        have hK := C.2.2.2.2.2.2.1.1
        intro H locs ls a0 b z
        refine W.iast C.1 C.2.1 (a0.2 a _ (cvW_at ha)) ((hK.2 0 _ rfl).1 n (fun j => .int (f j))) (fun q => by cases q) (by show ¬ (i < 0 ∨ (arrV _ _ _).slots.size ≤ _); rw [arrV_size]; exact hin) rfl rfl hd fun H1 e1 e2 oq => ?_
        refine kk H1 _ ls (a0.set ha e2 ?_ oq) (b.put e2 oq (Nat.le_add_right _ _)) z
        show H1[gB g + a]? = some (vp_cell _ _)
        rw [e1]
        rw [vp_cell_i, vp_cell_i, arrV_store]
        congr 2
        funext q
        by_cases hq : q = i.toNatClampNeg
        · subst hq
          simp [updV, upd]
        · simp [updV, upd, hq]
    · cases hs
  · cases hs
theorem wAast (C : ctx ro g md p R s m args meth c d) (hd : decode (mdC md) pc = .ok (.aastore, 1)) (hs : xAast pc L st h = some (pc1, L1, st1, h1, c1, s1)) (kk : WX g md p l e R s m args below meth c Q pc1 L1 st1 h1 (cells + c1) (slots + s1)) : WX g md p l e R s m args below meth c Q pc L st h cells slots := by
  unfold xAast at hs
  split at hs
  · rename_i v i a r
    split at hs
    · rename_i ci n f oc fs ha ho
      split at hs
      · cases hs
      · rename_i hin
        obtain ⟨hb, he⟩ := bif_some hs
        cases he
        rw [Bool.and_eq_true] at hb
        obtain ⟨hb, hb2⟩ := hb
        have hb := Nat.eq_of_beq_eq_true hb
        subst hb
        obtain ⟨k0, rfl, hk0⟩ := xobj_inv ho
        have hK := C.2.2.2.2.2.2.1.1
        have hG : ∃ r : vw_C, classes[oc]? = some r ∧ va_RA s (bif Nat.beq oc 1 then gP g else gS g) (.object r.1) := by
          rw [Bool.or_eq_true] at hb2
          rcases hb2 with hb | hb
          · have hb := Nat.eq_of_beq_eq_true hb
            subst hb
            exact ⟨_, rfl, (hK.2 1 _ rfl).2⟩
          · have hb := Nat.eq_of_beq_eq_true hb
            subst hb
            exact ⟨_, rfl, (hK.2 2 _ rfl).2⟩
        obtain ⟨rc, hrc, kA, comp, k1, k2, k3, -⟩ := hG
        intro H locs ls a0 b z
        have hlt : i.toNatClampNeg < n := Nat.not_le.mp fun q => hin (Or.inr q)
        have h0 : ¬ i < 0 := fun q => hin (Or.inl q)
        obtain ⟨r', hr', cellV, g1, g2, g3, -⟩ := a0.2 k0 _ (cvW_at hk0)
        have hcls := (hK.1 oc rc hrc).2
        have hcomp : comp = (gD g).1 oc := Option.some.inj (k3.symm.trans hcls.1)
        subst hcomp
        obtain ⟨kC, hkC, -⟩ := hcls.2
        refine W.aast C.1 C.2.1 (a0.2 a _ (cvW_at ha)) (fun q h => by cases h) (fun h => by cases h) k1 k2 rfl hkC ⟨h0, by show _ < (arrV _ _ _).slots.size; rw [arrV_size]; exact hlt⟩ g1 (fun q h => by rw [g3] at h; cases h) (by rw [g2]; exact hkC) (by rw [g2]; exact va_assign hcls) rfl rfl hd fun H1 e1 e2 oq => ?_
        refine kk H1 _ ls (a0.set ha e2 ?_ oq) (b.put e2 oq (Nat.le_add_right _ _)) z
        show H1[gB g + a]? = some (vp_cell _ _)
        rw [e1]
        rw [vp_cell_q, vp_cell_q, arrV_store]
        congr 2
        funext q
        by_cases hq : q = i.toNatClampNeg
        · subst hq
          simp [updV, va_up, va_rf, gad]
        · simp [updV, va_up, hq]
    · cases hs
  · cases hs
theorem wNew {k : Nat} (C : ctx ro g md p R s m args meth c d) (hd : decode (mdC md) pc = .ok (.new k, 3)) (hs : xNew (mdK md) k pc L st h = some (pc1, L1, st1, h1, c1, s1)) (hcell : cells + c1 ≤ R.cells) (hslot : slots + s1 ≤ R.slots) (kk : WX g md p l e R s m args below meth c Q pc1 L1 st1 h1 (cells + c1) (slots + s1)) : WX g md p l e R s m args below meth c Q pc L st h cells slots := by
  unfold xNew at hs
  split at hs
  · rename_i ci hci
    obtain ⟨-, he⟩ := bif_some hs
    cases he
    obtain ⟨t, ht1, ht2⟩ := xfind_mem (show xfind clk_T _ _ = some _ from hci)
    obtain ⟨CN, T, N, hc, hw1, hw2, hw3⟩ := okK_all _ _ ht1 _ ht2
    have hc : classes[ci]? = some (CN, T, N) := hc
    obtain ⟨⟨ty0, hty⟩, hnm⟩ := okN_all _ (List.mem_of_getElem? hc)
    have hty : ∀ k, k < N → parseFieldDescriptor (T k).2.2.1 = some (ty0 k) := hty
    have hin := okC_all _ (List.mem_of_getElem? hc)
    have hts := C.2.2.2.2.1
    have hNf : xNf ci = N := by unfold xNf; rw [hc]
    have hKn := C.2.2.2.2.2.2.1.1.1 ci _ hc
    intro H locs ls a0 b z
    refine W.newcK C.1 C.2.1 C.2.2.2.1 (hts _ hw1) (hts _ hw2) (hts _ hw3) rfl hd hcell (by rw [← hNf]; exact hslot) hKn.2.1 rfl fun H1 kC hkC e1 z1 o1 => ?_
    have hP : hpR g (h ++ [.inl (ci, xDef ci)]) H1 := by
      refine a0.push z1 ⟨_, hc, ?_⟩ o1
      refine (u_born ty0 hts hin hKn hkC e1 hty).to (fun j hj => ?_)
      have hj : j < N := hj
      show defaultValue (ty0 j) = vp_V ((xDef ci).map (cvV g)) j
      unfold xDef vp_V
      rw [hNf, List.getD_eq_getElem?_getD, List.getElem?_map, List.getElem?_map, List.getElem?_range hj]
      show _ = cvV g (defaultValue (xTy ci j))
      rw [cvV_def]
      unfold xTy
      rw [hc]
      show _ = defaultValue ((parseFieldDescriptor (T j).2.2.1).getD .int)
      rw [hty j hj]
      rfl
    have k2 := kk H1 locs ls hP ⟨Nat.le_trans b.1 (by omega), fun q g1 g2 => (o1 q (Nat.lt_of_lt_of_le g1 b.1)).trans (b.2.1 q g1 g2), b.2.2⟩ z
    rw [hNf] at k2
    have he : cvV g (.ref (h.length + 3)) = .ref H.size := by rw [a0.1]; rfl
    rw [List.map_cons, he] at k2
    exact k2
  · cases hs
theorem wNewa (C : ctx ro g md p R s m args meth c d) (hd : decode (mdC md) pc = .ok (.newarray .int, 2)) (hs : xNewa pc L st h = some (pc1, L1, st1, h1, c1, s1)) (hcell : cells + c1 ≤ R.cells) (hslot : slots + s1 ≤ R.slots) (kk : WX g md p l e R s m args below meth c Q pc1 L1 st1 h1 (cells + c1) (slots + s1)) : WX g md p l e R s m args below meth c Q pc L st h cells slots := by
  unfold xNewa at hs
  split at hs
  · rename_i n r
    split at hs
    · cases hs
    · rename_i hn
      cases hs
      have hts := C.2.2.2.2.1
      have hK := C.2.2.2.2.2.2.1.1
      intro H locs ls a0 b z
      refine va_newaK (atype := .int) C.1 C.2.1 (hts _ g_arr) rfl hd rfl (fun q => hn (Or.inl q)) rfl (by show _ * 4 ≤ _; omega) hcell hslot rfl fun H1 cA e1 z1 o1 hAr hNm => ?_
      have hcA : cA = gI g := by
        have h1 : s.vm.findClass ("[" ++ (FieldType.int).toString) = some (gI g) := (hK.2 0 _ rfl).2
        exact Option.some.inj (hNm.symm.trans h1)
      subst hcA
      have hP : hpR g (h ++ [.inr (.inl (n.toNatClampNeg, fun _ => 0))]) H1 := a0.push z1 e1 o1
      have k2 := kk H1 locs ls hP ⟨Nat.le_trans b.1 (by omega), fun q g1 g2 => (o1 q (Nat.lt_of_lt_of_le g1 b.1)).trans (b.2.1 q g1 g2), b.2.2⟩ z
      have he : cvV g (.ref (h.length + 3)) = .ref H.size := by rw [a0.1]; rfl
      rw [List.map_cons, he] at k2
      exact k2
  · cases hs
theorem wNewq {k : Nat} (C : ctx ro g md p R s m args meth c d) (hd : decode (mdC md) pc = .ok (.anewarray k, 3)) (hs : xNewq (mdK md) k pc L st h = some (pc1, L1, st1, h1, c1, s1)) (hcell : cells + c1 ≤ R.cells) (hslot : slots + s1 ≤ R.slots) (kk : WX g md p l e R s m args below meth c Q pc1 L1 st1 h1 (cells + c1) (slots + s1)) : WX g md p l e R s m args below meth c Q pc L st h cells slots := by
  unfold xNewq at hs
  split at hs
  · rename_i n r ci hci
    split at hs
    · cases hs
    · rename_i hn
      obtain ⟨hb, he⟩ := bif_some hs
      cases he
      obtain ⟨t, ht1, ht2⟩ := xfind_mem (show xfind clk_T _ _ = some _ from hci)
      obtain ⟨CN, T, N, hc, hw1, hw2, hw3⟩ := okK_all _ _ ht1 _ ht2
      have hc : classes[ci]? = some (CN, T, N) := hc
      have hts := C.2.2.2.2.1
      have hG := C.2.2.2.2.2.2.1
      have hov : va_AO CN s ∧ ∃ kA comp, s.vm.classes[(bif Nat.beq ci 1 then gP g else gS g)]? = some kA ∧ kA.kind = .array comp (.object CN) ∧ s.vm.findClass CN = some comp ∧ s.vm.findClass ("[" ++ (FieldType.object CN).toString) = some (bif Nat.beq ci 1 then gP g else gS g) := by
        rw [Bool.or_eq_true] at hb
        rcases hb with hb | hb
        · have hb := Nat.eq_of_beq_eq_true hb
          subst hb
          cases hc
          exact ⟨hG.2.2.2.2.1, (hG.1.2 1 _ rfl).2⟩
        · have hb := Nat.eq_of_beq_eq_true hb
          subst hb
          cases hc
          exact ⟨hG.2.2.2.2.2.1, (hG.1.2 2 _ rfl).2⟩
      obtain ⟨hov, kA0, comp0, w1, w2, w3, w4⟩ := hov
      intro H locs ls a0 b z
      refine W.anew C.1 C.2.1 C.2.2.2.1 (hts _ hw1) (va_AO.use hov) rfl hd rfl (fun q => hn (Or.inl q)) (by omega) hcell hslot fun cA kA comp f1 f2 f3 f4 => ?_
      have hcA : cA = (bif Nat.beq ci 1 then gP g else gS g) := Option.some.inj (f1.symm.trans w4)
      generalize hH1 : H.push ({ cls := cA, slots := Array.replicate n.toNatClampNeg .null, vm := .none } : Cell) = H1
      have z1 : H1.size = H.size + 1 := by rw [← hH1, Array.size_push]
      have e1 : H1[H.size]? = some (arrV cA n.toNatClampNeg (fun _ => .null)) := by rw [← hH1, Array.getElem?_push_size, ← arrV_new]
      have o1 : ∀ q : Nat, q < H.size → H1[q]? = H[q]? := fun q hq => by rw [← hH1, Array.getElem?_push, if_neg (Nat.ne_of_lt hq)]
      subst hcA
      have hP : hpR g (h ++ [.inr (.inr (ci, n.toNatClampNeg, fun _ => none))]) H1 := a0.push z1 (by show H1[H.size]? = some (vp_cell _ _); rw [vp_cell_q]; exact e1) o1
      have k2 := kk H1 locs ls hP ⟨Nat.le_trans b.1 (by omega), fun q g1 g2 => (o1 q (Nat.lt_of_lt_of_le g1 b.1)).trans (b.2.1 q g1 g2), b.2.2⟩ z
      have he : cvV g (.ref (h.length + 3)) = .ref H.size := by rw [a0.1]; rfl
      rw [List.map_cons, he] at k2
      exact k2
  · cases hs
theorem wObI {k : Nat} (C : ctx ro g md p R s m args meth c d) (hd : decode (mdC md) pc = .ok (.invokespecial k, 3)) (hs : xObI md k pc L st h = some (pc1, L1, st1, h1, c1, s1)) (kk : WX g md p l e R s m args below meth c Q pc1 L1 st1 h1 (cells + c1) (slots + s1)) : WX g md p l e R s m args below meth c Q pc L st h cells slots := by
  unfold xObI at hs
  split at hs
  · rename_i hm
    obtain ⟨hb, he⟩ := bif_some hs
    cases he
    obtain ⟨t, ht1, ht2⟩ := xfind_mem (show xfind mlk_T _ _ = some _ from hm)
    have hL := (okL_all _ _ ht1 _ ht2).2.2.2.2.2.2.2.2 rfl
    have hts := C.2.2.2.2.1
    have hR := C.2.2.2.2.2.2.2
    intro H locs ls a0 b z
    have h8 := cat_sum g _ hb
    exact W.objInit C.1 C.2.1 C.2.2.2.1 (hts _ hL) (hts _ g_ob_i) (hts _ g_ob_c) rfl (by rw [C.2.2.1]; exact z.1) rfl hd (by omega) (by show 2 * 0 + _ + 12 ≤ _; omega) (kk H locs ls a0 b z)
  · cases hs
end SIW
