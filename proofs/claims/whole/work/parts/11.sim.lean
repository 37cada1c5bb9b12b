/-! WHAT THE SMALL MACHINE DOES, THE GREAT ONE DOES -/
abbrev rmD (d mc ms : Nat) : Room := { frames := d + 1, cells := mc, slots := ms, locals := 200 * (d + 1) }
def qcR (g : xG) (v : Option Value) (h1 : xH) : Array Value → State → Outcome → State → Prop := fun _ st o t => o = .returned (v.map (cvV g)) ∧ hpR g h1 t.heap ∧ va_F (gA g) st t
theorem call_go {g : xG} {p : Program} {l : Launch} {e : Env} {R : Room} {s : State} {m : MethodId} {args : Array Value} {below : List Frame} {meth : Method} {c : Code} {Q : State → Prop} {cells slots mc ms pc : Nat} {H : Heap} {locs : List Loc} {ls : Array Slot} {st0 rest : List Value} {v : Option Value} {h1 : xH} {a : Array Value}
    (hr : va_Run p l e R s m args below meth c H locs cells slots mc ms (F0 m pc ls st0) rest (qcR g v h1 a) (gA g)) (hS : va_S (gA g) s.heap H locs) (kk : ∀ (H1 : Heap) (locs1 : List Loc), hpR g h1 H1 → va_S (gA g) s.heap H1 locs1 → W p l e R s m args below meth c H1 locs1 (cells + mc) (slots + ms) Q (F0 m (pc + 3) ls ((v.map (cvV g)).toList ++ rest))) : W p l e R s m args below meth c H locs cells slots Q (F0 m pc ls st0) := by
  intro T hT X
  obtain ⟨v', st₀, t, T', L, h0, X', hL, e1, e2, ⟨hv, hp, hz, hk⟩, st⟩ := hr T hT X
  cases hv
  rw [h0] at hz hk
  obtain ⟨t2, a1, b1⟩ := kk T'.heap (locs ++ L) (by rw [e1]; exact hp)
    ⟨Nat.le_trans hS.1 (by rw [e1]; exact hz), fun q g1 g2 => by rw [e1, hk q (Nat.lt_of_lt_of_le g1 hS.1) g2]; exact hS.2.1 q g1 g2, fun q hq => by
      rcases List.mem_append.mp hq with w | w
      · exact hS.2.2 q w
      · exact hL q w⟩ T' rfl X'
  exact ⟨t2, st t2 a1, b1⟩
theorem exec_ge (ro : xRO) : ∀ (n d : Nat) (md : MD) (pc : Nat) (L : xL) (st : List Value) (h : xH) (ca sa pcr : Nat) (v : Option Value) (h1 : xH) (c1 s1 : Nat), exec ro n d md pc L st h ca sa = some (pcr, v, h1, c1, s1) → ca ≤ c1 ∧ sa ≤ s1 := by
  intro n
  induction n with
  | zero => intro d md pc L st h ca sa pcr v h1 c1 s1 hx; cases hx
  | succ n ih =>
    intro d md pc L st h ca sa pcr v h1 c1 s1 hx
    unfold exec at hx
    split at hx
    · cases hx
    · rename_i i hi
      cases hlen : xLen i.1 i.2 with
      | false => rw [hlen] at hx; cases hx
      | true =>
        rw [hlen, cond_true] at hx
        split at hx
        · cases hx; exact ⟨Nat.le_refl _, Nat.le_refl _⟩
        · split at hx
          · split at hx
            · cases hx
            · split at hx
              · cases hx
              · split at hx
                · cases hx
                · split at hx
                  · cases hx
                  · have := ih _ _ _ _ _ _ _ _ _ _ _ _ _ hx
                    omega
          · split at hx
            · cases hx
            · have := ih _ _ _ _ _ _ _ _ _ _ _ _ _ hx
              omega
def smR (ro : xRO) (g : xG) (n : Nat) : Prop := ∀ (d : Nat) (md : MD) (pc : Nat) (L : xL) (st : List Value) (h : xH) (ca sa pcr : Nat) (v : Option Value) (h1 : xH) (c1 s1 : Nat), exec ro n d md pc L st h ca sa = some (pcr, v, h1, c1, s1) → okD md →
  ∀ {p : Program} {l : Launch} {e : Env} {R : Room} {s : State} {m : MethodId} {args : Array Value} {below : List Frame} {meth : Method} {c : Code} {Q : State → Prop} {cells slots : Nat}, ctx ro g md p R s m args meth c d → cells + c1 ≤ R.cells → slots + s1 ≤ R.slots →
  (∀ (H : Heap) (locs : List Loc) (ls : Array Slot) (i : Instr) (len : Nat), hpR g h1 H → va_S (gA g) s.heap H locs → decode (mdC md) pcr = .ok (i, len) → xLen i len = true → xRet md i v.toList = some v → W p l e R s m args below meth c H locs (cells + c1) (slots + s1) Q (F0 m pcr ls (v.toList.map (cvV g)))) →
  WX g md p l e R s m args below meth c Q pc L st h (cells + ca) (slots + sa)
theorem xRet_st {md : MD} {i : Instr} {st : List Value} {v : Option Value} (h : xRet md i st = some v) : st = v.toList := by
  unfold xRet at h
  split at h
  · split at h
    · cases h; rfl
    · obtain ⟨-, he⟩ := bif_some h
      cases he; rfl
    · cases h
  · split at h
    · cases h; rfl
    · cases h; rfl
    · cases h
  · split at h
    · cases h; rfl
    · cases h
  · cases h
theorem met_of {ro : xRO} {g : xG} {n d : Nat} (ih : smR ro g n) {y : MD} {as : List Value} {L0 : xL} {h : xH} {pcr : Nat} {v : Option Value} {h1 : xH} {mc ms : Nat} (l : Launch) (hM : okM y) (hL : xEnt y as = some L0) (hx : exec ro n d y 0 L0 [] h 0 0 = some (pcr, v, h1, mc, ms)) :
    Met l y.1 (Cond.code y.1 (mdC y) (mdN y) (mdR y) :: gw) (rmD d mc ms) (va_Pc (as.map (cvV g)) (fun U => glR ro g U U.heap ∧ hpR g h U.heap)) (qcR g v h1) mc ms (gA g) := by
  refine Met.ofW (cc := mdC y) (maxL := mdN y) (ret := mdR y) hM.1 rfl ?_
  intro p e s m args below meth c s₁ B hml hv
  obtain ⟨rfl, hgl, hhp⟩ := hv
  have hts0 := atoms_spec (ws := Cond.code y.1 (mdC y) (mdN y) (mdR y) :: gw) B.pre
  have hts : ∀ w ∈ gw, w.before (as.map (cvV g)).toArray s = true := fun w hw => hts0 w (List.mem_cons_of_mem _ hw)
  have hown : s.vm.findClass (clsN (mdK y)) = some m.cls := by rw [hM.2.1]; exact findClass_of_methodNamed B.named
  have hr := B.returns
  have hlocks := B.notSynchronized
  have hnm : meth.name = y.1.name := (name_of_methodNamed B.named B.method).1
  rw [lg_entry_eq]
  have C : ctx ro g y p (rmD d mc ms) s m (as.map (cvV g)).toArray meth c d := ⟨B.exec, B.bytes, hml, hown, hts, fun q => hnm.trans q, hgl, Nat.le_refl _, Nat.le_refl _⟩
  refine ih d y 0 L0 [] h 0 0 pcr v h1 mc ms hx hM.2.2.2.2.2.2.2 (cells := 0) (slots := 0) C (by show 0 + mc ≤ mc; omega) (by show 0 + ms ≤ ms; omega) ?_ s.heap [] _ hhp va_S.rf (lcR_entry hL)
  intro H locs ls i len a b hd hlen hret
  have hq : ∀ t : State, t.heap = H → s.WarmedH t.vm → qcR g v h1 (as.map (cvV g)).toArray s (.returned (v.map (cvV g))) t := fun t ht _ => ⟨rfl, by rw [ht]; exact a, b.F ht⟩
  rw [show (0 : Nat) + mc = mc from Nat.zero_add _, show (0 : Nat) + ms = ms from Nat.zero_add _]
  unfold xRet at hret
  split at hret
  · obtain rfl := Nat.eq_of_beq_eq_true hlen
    split at hret
    · rename_i x _ hR
      cases hret
      exact W.iret B.exec B.bytes (hr.trans hR) hq b.2.2 hd hlocks
    · rename_i x _ hR
      obtain ⟨hb, he⟩ := bif_some hret
      cases he
      refine W.zret B.exec B.bytes (hr.trans hR) ?_ hq b.2.2 hd hlocks
      rw [Bool.or_eq_true] at hb
      rcases hb with hb | hb
      · have := eq_of_beq hb
        subst this
        rfl
      · have := eq_of_beq hb
        subst this
        rfl
    · cases hret
  · obtain rfl := Nat.eq_of_beq_eq_true hlen
    split at hret
    · rename_i x nm _ hR
      cases hret
      exact W.aret B.exec B.bytes (hr.trans hR) (Or.inl ⟨_, rfl⟩) (Or.inr ⟨_, rfl⟩) hq b.2.2 hd hlocks
    · rename_i nm _ hR
      cases hret
      exact W.aret B.exec B.bytes (hr.trans hR) (Or.inl ⟨_, rfl⟩) (Or.inl rfl) hq b.2.2 hd hlocks
    · cases hret
  · obtain rfl := Nat.eq_of_beq_eq_true hlen
    split at hret
    · rename_i _ hR
      cases hret
      exact W.vret B.exec B.bytes (hr.trans hR) hq b.2.2 hd hlocks
    · cases hret
  · cases hret
theorem gw_good {ws : List Jvm.Cond} (h : ∀ w ∈ ws, w ∈ gw) : GoodIn gw ws := fun w hw => ⟨h w hw, good_of_word (List.mem_filter.mp (h w hw)).2⟩
theorem cls_at {k : Nat} {q : vw_C} (h : classes[k]? = some q) : q.1 = clsN k := by
  match k, h with
  | 0, h => cases h; rfl
  | 1, h => cases h; rfl
  | 2, h => cases h; rfl
  | 3, h => cases h; rfl
  | 4, h => cases h; rfl
  | 5, h => cases h; rfl
  | 6, h => cases h; rfl
  | 7, h => cases h; rfl
  | 8, h => cases h; rfl
  | n + 9, h => simp [classes] at h
theorem nest_at {ci i : Nat} {y : MethodName} {s : State} (h : nestM ci i y) (hN : ∀ w ∈ xNst, va_Nw w s) : va_Nw (.methodLinkNest (clsN ci) i y RX7) s := by
  rcases h with ⟨rfl, rfl, rfl⟩ | ⟨rfl, rfl, rfl⟩ | ⟨rfl, rfl, rfl⟩ | ⟨rfl, rfl, rfl⟩
  · exact hN _ (List.mem_of_getElem? (i := 0) rfl)
  · exact hN _ (List.mem_of_getElem? (i := 1) rfl)
  · exact hN _ (List.mem_of_getElem? (i := 2) rfl)
  · exact hN _ (List.mem_of_getElem? (i := 3) rfl)
theorem xCal_inv {md : MD} {i : Instr} {kd : Nat} {y : MD} (h : xCal md i = some (kd, y)) : ∃ k, mlk (mdK md) k = some (kd, y) ∧ ((i = .invokevirtual k ∧ kd = 0) ∨ (i = .invokestatic k ∧ (kd = 1 ∨ kd = 3)) ∨ (i = .invokespecial k ∧ (kd = 2 ∨ kd = 4))) := by
  unfold xCal at h
  split at h
  · split at h
    · rename_i hm; cases h; exact ⟨_, hm, Or.inl ⟨rfl, rfl⟩⟩
    · cases h
  · split at h
    · rename_i hm; cases h; exact ⟨_, hm, Or.inr (Or.inl ⟨rfl, Or.inl rfl⟩)⟩
    · rename_i hm; cases h; exact ⟨_, hm, Or.inr (Or.inl ⟨rfl, Or.inr rfl⟩)⟩
    · cases h
  · split at h
    · rename_i hm; cases h; exact ⟨_, hm, Or.inr (Or.inr ⟨rfl, Or.inl rfl⟩)⟩
    · rename_i hm; cases h; exact ⟨_, hm, Or.inr (Or.inr ⟨rfl, Or.inr rfl⟩)⟩
    · cases h
  · cases h
theorem xPre_s {kd : Nat} {y : MD} {st : List Value} {h : xH} {as r : List Value} (hk : kd = 1 ∨ kd = 3) (hp : xPre kd y st h = some (as, r)) : as.length = mdP y ∧ st = as.reverse ++ r ∧ Nat.ble (xCat r) 8 = true := by
  unfold xPre at hp
  have hb : (Nat.beq kd 1 || Nat.beq kd 3) = true := by rcases hk with rfl | rfl <;> rfl
  rw [hb, cond_true] at hp
  obtain ⟨hb2, he⟩ := bif_some hp
  cases he
  rw [Bool.and_eq_true] at hb2
  have hl := Nat.le_of_ble_eq_true hb2.1
  exact ⟨by simp; omega, by rw [List.reverse_reverse, List.take_append_drop], hb2.2⟩
theorem xPre_v {kd : Nat} {y : MD} {st : List Value} {h : xH} {as r : List Value} (hk : ¬ (kd = 1 ∨ kd = 3)) (hp : xPre kd y st h = some (as, r)) : ∃ (a : Nat) (ts : List Value) (oc : Nat) (fs : List Value), as = .ref a :: ts ∧ ts.length = mdP y ∧ st = ts.reverse ++ .ref a :: r ∧ Nat.ble (xCat r) 8 = true ∧ xobj h a = some (oc, fs) ∧ oc = mdK y := by
  unfold xPre at hp
  have hb : (Nat.beq kd 1 || Nat.beq kd 3) = false := by
    rw [Bool.or_eq_false_iff]
    exact ⟨nbeq_ne (fun q => hk (Or.inl q)), nbeq_ne (fun q => hk (Or.inr q))⟩
  rw [hb, cond_false] at hp
  split at hp
  · rename_i a r0 hd
    split at hp
    · rename_i oc fs ho
      obtain ⟨hb2, he⟩ := bif_some hp
      cases he
      rw [Bool.and_eq_true] at hb2
      refine ⟨a, (st.take (mdP y)).reverse, oc, fs, rfl, ?_, ?_, hb2.2, ho, Nat.eq_of_beq_eq_true hb2.1⟩
      · have : mdP y < st.length := by
          rcases Nat.lt_or_ge (mdP y) st.length with q | q
          · exact q
          · rw [List.drop_eq_nil_of_le q] at hd; cases hd
        simp; omega
      · rw [List.reverse_reverse, ← hd, List.take_append_drop]
    · cases hp
  · cases hp
theorem sm_all (ro : xRO) (g : xG) : ∀ n, smR ro g n := by
  intro n
  induction n with
  | zero => intro d md pc L st h ca sa pcr v h1 c1 s1 hx; cases hx
  | succ n ih =>
    intro d md pc L st h ca sa pcr v h1 c1 s1 hx hD p l e R s m args below meth c Q cells slots C hcell hslot kk
    unfold exec at hx
    split at hx
    · cases hx
    · rename_i i hi
      obtain ⟨i, len⟩ := i
      have hd := hD _ _ hi
      cases hlen : xLen i len with
      | false => rw [hlen] at hx; cases hx
      | true =>
        rw [hlen, cond_true] at hx
        split at hx
        · rename_i w hw
          cases hx
          have hst := xRet_st hw
          intro H locs ls a b z
          rw [hst]
          rw [hst] at hw
          exact kk H locs ls i len a b hd hlen hw
        · split at hx
          · rename_i kd y hcal
            split at hx
            · cases hx
            · rename_i d0
              split at hx
              · cases hx
              · rename_i as r hpre
                split at hx
                · cases hx
                · rename_i L0 hent
                  split at hx
                  · cases hx
                  · rename_i pq w h2 mc ms hex
                    have hge := exec_ge ro _ _ _ _ _ _ _ _ _ _ _ _ _ _ hx
                    obtain ⟨k, hm, hkind⟩ := xCal_inv hcal
                    obtain ⟨t, ht1, ht2⟩ := xfind_mem (show xfind mlk_T _ _ = some _ from hm)
                    have hL := okL_all _ _ ht1 _ ht2
                    have hts := C.2.2.2.2.1
                    have hR := C.2.2.2.2.2.2.2
                    have hgl := C.2.2.2.2.2.2.1
                    have hc0 : cells + ca + mc ≤ R.cells := by omega
                    have hs0 : slots + sa + ms ≤ R.slots := by omega
                    have go : WX g md p l e R s m args below meth c Q (pc + 3) L (w.toList ++ r) h2 (cells + ca + mc) (slots + sa + ms) := by
                      rw [Nat.add_assoc, Nat.add_assoc]
                      exact ih (d0 + 1) md (pc + 3) L (w.toList ++ r) h2 _ _ _ _ _ _ _ hx hD C hcell hslot kk
                    have hwm : (w.map (cvV g)).toList ++ r.map (cvV g) = (w.toList ++ r).map (cvV g) := by cases w <;> simp
                    intro H locs ls a b z
                    have fin : ∀ {rr : List Value} {a9 : Array Value} {st0 : List Value}, va_Run p l e R s m args below meth c H locs (cells + ca) (slots + sa) mc ms (F0 m pc ls st0) (r.map (cvV g)) (qcR g w h2 a9) (gA g) → W p l e R s m args below meth c H locs (cells + ca) (slots + sa) Q (F0 m pc ls st0) := fun hr => call_go hr b (fun H1 locs1 u1 u2 => by rw [hwm]; exact go H1 locs1 ls u1 u2 z)
                    have blind : FrameBlind (va_Pc (as.map (cvV g)) (fun U => glR ro g U U.heap ∧ hpR g h U.heap)) := fun a9 U g9 mk q => ⟨q.1, glR.same (u := U) (U := U.calling g9 mk a9) rfl q.2.1, q.2.2⟩
                    have pre : ∀ U : State, U.heap = H → s.WarmedH U.vm → glR ro g U U.heap ∧ hpR g h U.heap := fun U hU hW => by
                      rw [hU]
                      exact ⟨glR.kept b.2.1 (glR.warm hW hgl), a⟩
                    have room : ∀ {y : MD}, mdN y ≤ 40 → (rmD d0 mc ms).frames + 1 ≤ R.frames ∧ 8 + (mdN y + 11) + (rmD d0 mc ms).locals ≤ R.locals := fun hn => by
                      show d0 + 1 + 1 ≤ R.frames ∧ 8 + (_ + 11) + 200 * (d0 + 1) ≤ R.locals
                      omega
                    have fixv : CallFix p m c (mdC md) (mdN md) s args gw (clsN (mdK md)) := ⟨C.1, C.2.1, C.2.2.1, C.2.2.2.1, hts⟩
                    have gd : ∀ {ws0 : List Jvm.Cond}, okM y → (∀ w ∈ ws0, w ∈ gw) → GoodIn gw (ws0 ++ (Cond.code y.1 (mdC y) (mdN y) (mdR y) :: gw)) := fun hM h0 => gw_good fun w hw => by
                      rcases List.mem_append.mp hw with u | u
                      · exact h0 w u
                      · rcases List.mem_cons.mp u with u | u
                        · rw [u]; exact hM.2.2.1
                        · exact u
                    rcases hkind with ⟨rfl, rfl⟩ | ⟨rfl, hkd⟩ | ⟨rfl, hkd⟩
                    · obtain rfl := Nat.eq_of_beq_eq_true hlen
                      obtain ⟨hM, w1, w2, w3⟩ := hL.1 rfl
                      obtain ⟨a9, ts, oc, fs, rfl, hln, rfl, h4, ho, hoc⟩ := xPre_v (by omega) hpre
                      obtain ⟨k0, rfl, hk0⟩ := xobj_inv ho
                      have met := met_of ih l hM hent hex
                      have h8 := cat_sum2 g r h4
                      obtain ⟨rc, hrc, -⟩ := a.2 k0 _ (cvW_at hk0)
                      have hrcv := va_recv hgl.1 a.2 hrc (cvW_at hk0)
                      have hcn : rc.1 = y.1.cls := by rw [cls_at hrc, hoc]; exact hM.2.1
                      rw [hcn] at hrcv
                      rw [List.map_append, List.map_reverse]
                      exact fin (rr := []) (va_runV (As := ts.map (cvV g)) (rest := r.map (cvV g)) (C := y.1.cls) fixv met (cwV (mdP y) hts (gd hM (List.forall_mem_cons.mpr ⟨w1, List.forall_mem_cons.mpr ⟨w2, List.forall_mem_cons.mpr ⟨w3, List.forall_mem_cons.mpr ⟨hM.2.2.2.1, fun _ q => absurd q List.not_mem_nil⟩⟩⟩⟩)) rfl rfl rfl ⟨rfl, hM.2.2.2.2.1.1, hM.2.2.2.2.1.2, hM.2.2.2.2.2.1⟩ (room hM.2.2.2.2.2.2.1)) ⟨blind, hrcv, fun U hU hW => ⟨rfl, pre U hU hW⟩⟩ rfl (by rw [List.length_map]; exact hln) z.1 rfl (lv_room h8) hd ⟨hc0, hs0⟩)
                    · obtain rfl := Nat.eq_of_beq_eq_true hlen
                      obtain ⟨hln, rfl, h4⟩ := xPre_s hkd hpre
                      have h8 := cat_sum2 g r h4
                      rw [List.map_append, List.map_reverse]
                      rcases hkd with rfl | rfl
                      · obtain ⟨hM, w1, w2⟩ := hL.2.1 rfl
                        have met := met_of ih l hM hent hex
                        exact fin (rr := []) (va_runS (As := as.map (cvV g)) (rest := r.map (cvV g)) fixv met (va_cwS (mdP y) hts (gd hM (List.forall_mem_cons.mpr ⟨w1, List.forall_mem_cons.mpr ⟨w2, List.forall_mem_cons.mpr ⟨hM.2.2.2.1, fun _ q => absurd q List.not_mem_nil⟩⟩⟩)) rfl rfl rfl ⟨hM.2.2.2.2.1.1, hM.2.2.2.2.1.2, hM.2.2.2.2.2.1⟩ (room hM.2.2.2.2.2.2.1)) ⟨blind, fun U hU hW => ⟨rfl, pre U hU hW⟩⟩ rfl (by rw [List.length_map]; exact hln) z.1 rfl (lv_room h8) hd ⟨hc0, hs0⟩)
                      · obtain ⟨hM, w1, w2⟩ := hL.2.2.2.1 rfl
                        have met := met_of ih l hM hent hex
                        exact fin (rr := []) (va_runSN (As := as.map (cvV g)) (rest := r.map (cvV g)) fixv met ⟨va_cnB (mdP y) hts (gd (ws0 := []) hM (fun _ q => absurd q List.not_mem_nil)) rfl rfl rfl (nest_at w1 hgl.2.2.2.2.2.2) (hts _ hM.2.2.2.1) ⟨hM.2.2.2.2.1.1, hM.2.2.2.2.1.2, hM.2.2.2.2.2.1⟩ (room hM.2.2.2.2.2.2.1), hts _ w2, trivial⟩ ⟨blind, fun U hU hW => ⟨rfl, pre U hU hW⟩⟩ rfl (by rw [List.length_map]; exact hln) z.1 rfl (lv_room h8) hd ⟨hc0, hs0⟩)
                    · obtain rfl := Nat.eq_of_beq_eq_true hlen
                      obtain ⟨a9, ts, oc, fs, rfl, hln, rfl, h4, ho, hoc⟩ := xPre_v (by omega) hpre
                      have h8 := cat_sum2 g r h4
                      rw [List.map_append, List.map_reverse]
                      rcases hkd with rfl | rfl
                      · obtain ⟨hM, w1, w2, w3, w4⟩ := hL.2.2.1 rfl
                        have met := met_of ih l hM hent hex
                        exact fin (rr := []) (va_runI (As := ts.map (cvV g)) (rest := r.map (cvV g)) fixv met (cwI (mdP y) hts (gd (ws0 := []) hM (fun _ q => absurd q List.not_mem_nil)) (by rw [w4]) rfl rfl (hts _ hM.2.2.2.1) (hts _ w1) (hts _ w2) w3 ⟨hM.2.2.2.2.1.1, hM.2.2.2.2.1.2, hM.2.2.2.2.2.1⟩ (room hM.2.2.2.2.2.2.1)) ⟨blind, fun U hU hW => ⟨rfl, pre U hU hW⟩⟩ rfl (by rw [List.length_map]; exact hln) z.1 rfl (lv_room h8) hd ⟨hc0, hs0⟩)
                      · obtain ⟨hM, w1, w2, w3, w4⟩ := hL.2.2.2.2.1 rfl
                        have met := met_of ih l hM hent hex
                        exact fin (rr := []) (va_runIN (As := ts.map (cvV g)) (rest := r.map (cvV g)) fixv met ⟨va_cnB (ret := none) (mdP y) hts (gd (ws0 := []) hM (fun _ q => absurd q List.not_mem_nil)) (by rw [w4]) rfl rfl (nest_at w1 hgl.2.2.2.2.2.2) (hts _ hM.2.2.2.1) ⟨hM.2.2.2.2.1.1, hM.2.2.2.2.1.2, hM.2.2.2.2.2.1⟩ (room hM.2.2.2.2.2.2.1), w3, hts _ w2⟩ ⟨blind, fun U hU hW => ⟨rfl, pre U hU hW⟩⟩ rfl (by rw [List.length_map]; exact hln) z.1 rfl (lv_room h8) hd ⟨hc0, hs0⟩)
          · rename_i hcal
            split at hx
            · cases hx
            · rename_i p1 L1 st1 h2 c2 s2 hstp
              have hge := exec_ge ro _ _ _ _ _ _ _ _ _ _ _ _ _ _ hx
              refine stp_ok C hd hlen hstp (by omega) (by omega) ?_
              rw [Nat.add_assoc, Nat.add_assoc]
              exact ih d md p1 L1 st1 h2 _ _ _ _ _ _ _ hx hD C hcell hslot kk
