/-! THE SMALL MACHINE'S STATE in the great one's: cell k stands at the address B + k; what is below B stays -/
abbrev xG : Type := Nat × (Nat → Nat) × va_G × ClassId × ClassId × ClassId
abbrev gB (g : xG) : Nat := g.1
abbrev gR (g : xG) : Nat → Nat := g.2.1
abbrev gD (g : xG) : va_G := g.2.2.1
abbrev gI (g : xG) : ClassId := g.2.2.2.1
abbrev gP (g : xG) : ClassId := g.2.2.2.2.1
abbrev gS (g : xG) : ClassId := g.2.2.2.2.2
abbrev gA (g : xG) : Nat → Prop := fun q => gB g ≤ q
abbrev gT (g : xG) : List (ClassId × FieldType) := [(gI g, .int), (gP g, .object RX1), (gS g, .object RX4)]
def gad (g : xG) (a : Nat) : Nat := match a with
  | k + 3 => gB g + k
  | k => gR g k
def cvV (g : xG) (v : Value) : Value := match v with
  | .ref a => .ref (gad g a)
  | v => v
def cvE (g : xG) (x : xE) : va_E := match x with
  | .inl (ci, fs) => .inr (ci, fs.map (cvV g))
  | .inr (.inl (n, f)) => .inl (gI g, n, .inl f)
  | .inr (.inr (ci, n, f)) => .inl (bif Nat.beq ci 1 then gP g else gS g, n, .inr (.inr (.inr (.inr (fun j => (f j).map (gad g))))))
def cvW (g : xG) (h : xH) : va_W := h.mapIdx (fun k x => (gB g + k, cvE g x))
theorem cvW_at {g : xG} {h : xH} {k : Nat} {x : xE} (hk : h[k]? = some x) : (cvW g h)[k]? = some (gB g + k, cvE g x) := by
  unfold cvW
  rw [List.getElem?_mapIdx, hk]
  rfl
theorem cvW_inv {g : xG} {h : xH} {k : Nat} {q : Nat × va_E} (hk : (cvW g h)[k]? = some q) : ∃ x, h[k]? = some x ∧ q = (gB g + k, cvE g x) := by
  unfold cvW at hk
  rw [List.getElem?_mapIdx] at hk
  cases hx : h[k]? with
  | none => rw [hx] at hk; cases hk
  | some x => rw [hx] at hk; cases hk; exact ⟨x, rfl, rfl⟩
theorem cvW_len (g : xG) (h : xH) : (cvW g h).length = h.length := by simp [cvW]
theorem cvW_set (g : xG) (h : xH) (k : Nat) (x : xE) : cvW g (h.set k x) = (cvW g h).set k (gB g + k, cvE g x) := by
  apply List.ext_getElem?
  intro j
  by_cases hj : k = j
  · subst hj
    by_cases hl : k < h.length
    · rw [cvW_at (List.getElem?_set_self hl), List.getElem?_set_self (by rw [cvW_len]; exact hl)]
    · rw [List.getElem?_eq_none (by rw [cvW_len, List.length_set]; omega), List.getElem?_eq_none (by rw [List.length_set, cvW_len]; omega)]
  · rw [List.getElem?_set_ne hj]
    unfold cvW
    rw [List.getElem?_mapIdx, List.getElem?_mapIdx, List.getElem?_set_ne hj]
theorem cvW_push (g : xG) (h : xH) (x : xE) : cvW g (h ++ [x]) = cvW g h ++ [(gB g + h.length, cvE g x)] := by
  unfold cvW
  rw [List.mapIdx_append]
  simp
theorem cvW_D (g : xG) (h : xH) : va_D (gA g) (cvW g h) := by
  refine ⟨fun i j p q hi hj hpq => ?_, fun k q hk => ?_⟩
  · obtain ⟨x, -, rfl⟩ := cvW_inv hi
    obtain ⟨y, -, rfl⟩ := cvW_inv hj
    have h1 : gB g + i = gB g + j := hpq
    omega
  · obtain ⟨x, -, rfl⟩ := cvW_inv hk
    exact Nat.le_add_right _ _
def hpR (g : xG) (h : xH) (H : Heap) : Prop := H.size = gB g + h.length ∧ va_P (gD g) classes (cvW g h) H
theorem hpR.set {g : xG} {h : xH} {H H1 : Heap} {k : Nat} {x0 x : xE} (hh : hpR g h H) (hk : h[k]? = some x0) (z : H1.size = H.size) (he : va_at (gD g) classes (gB g + k, cvE g x) H1) (oq : ∀ q : Nat, q ≠ gB g + k → H1[q]? = H[q]?) : hpR g (h.set k x) H1 := by
  refine ⟨by rw [z, hh.1, List.length_set], ?_⟩
  rw [cvW_set]
  exact va_P.set hh.2 (cvW_D g h) (cvW_at hk) he oq
theorem hpR.push {g : xG} {h : xH} {H H1 : Heap} {x : xE} (hh : hpR g h H) (z : H1.size = H.size + 1) (he : va_at (gD g) classes (H.size, cvE g x) H1) (oq : ∀ q : Nat, q < H.size → H1[q]? = H[q]?) : hpR g (h ++ [x]) H1 := by
  refine ⟨by rw [z, hh.1, List.length_append]; rfl, ?_⟩
  rw [cvW_push]
  refine va_P.app (hh.2.kept fun k q hk => oq q.1 (hh.2 k q hk).lt) ?_
  intro k q hk
  have hz : k < 1 := (List.getElem?_eq_some_iff.mp hk).1
  rw [show k = 0 by omega] at hk
  cases hk
  rw [← hh.1]
  exact he
def xNst : List Jvm.Cond := [.methodLinkNest RX0 17 yX1_init RX7, .methodLinkNest RX0 100 yX7_held RX7, .methodLinkNest RX3 33 yX7_within RX7, .methodLinkNest RX5 47 yX7_kindAbove RX7, .fieldLinkNest RX5 40 RX7 "BODIES" "[I" RX7]
/-- what holds of the launch's tables and of the cells that nobody writes -/
def glR (ro : xRO) (g : xG) (U : State) (H : Heap) : Prop := va_K (gD g) classes (gT g) U ∧ va_Z RX7 "KIND_ABOVE" "[I" (.ref (gR g 1)) (gA g) U H ∧ va_Z RX7 "BODIES" "[I" (.ref (gR g 2)) (gA g) U H ∧ (∀ a, a < 3 → va_T .int (gR g a) (ro a).1 (fun j => .int ((ro a).2 j)) (gA g) U H) ∧ va_AO RX1 U ∧ va_AO RX4 U ∧ ∀ w ∈ xNst, va_Nw w U
theorem xNst_warm {s U : State} (hW : s.WarmedH U.vm) (h : ∀ w ∈ xNst, va_Nw w s) : ∀ w ∈ xNst, va_Nw w U := by
  have e0 := h _ (List.mem_of_getElem? (i := 0) rfl)
  have e1 := h _ (List.mem_of_getElem? (i := 1) rfl)
  have e2 := h _ (List.mem_of_getElem? (i := 2) rfl)
  have e3 := h _ (List.mem_of_getElem? (i := 3) rfl)
  have e4 := h _ (List.mem_of_getElem? (i := 4) rfl)
  exact List.forall_mem_cons.mpr ⟨va_Nw.warmM hW e0, List.forall_mem_cons.mpr ⟨va_Nw.warmM hW e1, List.forall_mem_cons.mpr ⟨va_Nw.warmM hW e2, List.forall_mem_cons.mpr ⟨va_Nw.warmM hW e3, List.forall_mem_cons.mpr ⟨va_Nw.warmF hW e4, fun _ q => absurd q List.not_mem_nil⟩⟩⟩⟩⟩
theorem glR.warm {ro : xRO} {g : xG} {s U : State} {H : Heap} (hW : s.WarmedH U.vm) (h : glR ro g s H) : glR ro g U H :=
  ⟨va_K.moved hW.alike h.1, va_Z.moved hW.alike h.2.1, va_Z.moved hW.alike h.2.2.1, fun a ha => va_T.moved hW.alike (h.2.2.2.1 a ha), va_AO.moved hW.alike h.2.2.2.2.1, va_AO.moved hW.alike h.2.2.2.2.2.1, xNst_warm hW h.2.2.2.2.2.2⟩
theorem glR.kept {ro : xRO} {g : xG} {s : State} {H H1 : Heap} (hq : ∀ a : Nat, a < H.size → ¬ gA g a → H1[a]? = H[a]?) (h : glR ro g s H) : glR ro g s H1 :=
  ⟨h.1, va_Z.kept h.2.1 hq, va_Z.kept h.2.2.1 hq, fun a ha => va_T.kept (h.2.2.2.1 a ha) hq, h.2.2.2.2⟩
theorem xNst_same {u U : State} (hv : u.vm = U.vm) (h : ∀ w ∈ xNst, va_Nw w u) : ∀ w ∈ xNst, va_Nw w U := by
  have e0 := h _ (List.mem_of_getElem? (i := 0) rfl)
  have e1 := h _ (List.mem_of_getElem? (i := 1) rfl)
  have e2 := h _ (List.mem_of_getElem? (i := 2) rfl)
  have e3 := h _ (List.mem_of_getElem? (i := 3) rfl)
  have e4 := h _ (List.mem_of_getElem? (i := 4) rfl)
  exact List.forall_mem_cons.mpr ⟨va_Nw.same rfl hv e0, List.forall_mem_cons.mpr ⟨va_Nw.same rfl hv e1, List.forall_mem_cons.mpr ⟨va_Nw.same rfl hv e2, List.forall_mem_cons.mpr ⟨va_Nw.same rfl hv e3, List.forall_mem_cons.mpr ⟨va_Nw.same rfl hv e4, fun _ q => absurd q List.not_mem_nil⟩⟩⟩⟩⟩
theorem glR.same {ro : xRO} {g : xG} {u U : State} {H : Heap} (hv : u.vm = U.vm) (h : glR ro g u H) : glR ro g U H := by
  have ha : u.vm.Alike U.vm := by rw [hv]; exact Vm.Alike.refl _
  exact ⟨va_K.moved ha h.1, va_Z.moved ha h.2.1, va_Z.moved ha h.2.2.1, fun a hl => va_T.moved ha (h.2.2.2.1 a hl), va_AO.moved ha h.2.2.2.2.1, va_AO.moved ha h.2.2.2.2.2.1, xNst_same hv h.2.2.2.2.2.2⟩
/-! locals -/
def lcR (g : xG) (N : Nat) (L : xL) (ls : Array Slot) : Prop := ls.size = N ∧ lv_wf ls ∧ L.length = N ∧ ∀ (i : Nat) (v : Value), L[i]? = some (some v) → ls[i]? = some (.val (cvV g v))
def lcA (g : xG) (L : xL) : List (Nat × Value) := L.zipIdx.filterMap (fun q => q.1.map (fun v => (q.2, cvV g v)))
theorem lcA_mem {g : xG} {L : xL} {q : Nat × Value} : q ∈ lcA g L ↔ ∃ v, L[q.1]? = some (some v) ∧ q.2 = cvV g v := by
  unfold lcA
  rw [List.mem_filterMap]
  constructor
  · rintro ⟨⟨o, i⟩, hm, he⟩
    have h1 := List.mem_zipIdx_iff_getElem?.mp hm
    cases o with
    | none => cases he
    | some v => cases he; exact ⟨v, h1, rfl⟩
  · rintro ⟨v, h1, h2⟩
    refine ⟨(some v, q.1), List.mem_zipIdx_iff_getElem?.mpr h1, ?_⟩
    show some (q.1, cvV g v) = some q
    rw [← h2]
theorem lcR.has {g : xG} {N : Nat} {L : xL} {ls : Array Slot} (h : lcR g N L ls) : lv_has ls N (lcA g L) := by
  refine ⟨h.1, h.2.1, fun q hq => ?_⟩
  obtain ⟨v, h1, h2⟩ := lcA_mem.mp hq
  rw [h2]
  exact h.2.2.2 _ _ h1
theorem cvV_cat (g : xG) (v : Value) : (cvV g v).category = v.category := by cases v <;> rfl
theorem lcR.set {g : xG} {N : Nat} {L : xL} {ls ls' : Array Slot} {i : Nat} {v : Value} (h : lcR g N L ls) (hi : i < L.length) (hs : xSafe i L = true) (h' : lv_has ls' N ((i, cvV g v) :: (lcA g L).filter (fun q => !(q.1 == i) && !(q.1 + 1 == i && q.2.category == 2)))) : lcR g N (L.set i (some v)) ls' := by
  refine ⟨h'.1, h'.2.1, by rw [List.length_set]; exact h.2.2.1, fun j w hj => ?_⟩
  by_cases hij : i = j
  · subst hij
    rw [List.getElem?_set_self hi] at hj
    cases hj
    exact h'.2.2 (i, cvV g v) List.mem_cons_self
  · rw [List.getElem?_set_ne hij] at hj
    refine h'.2.2 (j, cvV g w) (List.mem_cons_of_mem _ (List.mem_filter.mpr ⟨lcA_mem.mpr ⟨w, hj, rfl⟩, ?_⟩))
    show (!(j == i) && !(j + 1 == i && (cvV g w).category == 2)) = true
    rw [Bool.and_eq_true]
    refine ⟨by simp [Ne.symm hij], ?_⟩
    by_cases hji : j + 1 = i
    · subst hji
      rw [cvV_cat]
      have hs : (match L[j]? with
        | some (some (.long _)) => false
        | some (some (.double _)) => false
        | _ => true) = true := hs
      rw [hj] at hs
      cases w <;> first | rfl | (simp [Value.category]; done) | (simp at hs)
    · simp [hji]
theorem xSl_len (vs : List Value) : ∀ (g : xG), xOkA vs = true → (lg_sl (vs.map (cvV g))).length = (xSl vs).length := by
  induction vs with
  | nil => intro g _; rfl
  | cons v vs ih =>
    intro g h
    have hr : xOkA vs = true := by cases v <;> first | exact h | cases h
    have h1 := ih g hr
    cases v <;> first | cases h | (simp [lg_sl, xSl, cvV, Value.category] at h1 ⊢; omega)
theorem xSl_args (g : xG) (vs : List Value) : ∀ (n : Nat), xOkA vs = true → ∀ (i : Nat) (v : Value), (xSl vs)[i]? = some (some v) → (n + i, cvV g v) ∈ lv_args n (vs.map (cvV g)) := by
  induction vs with
  | nil => intro n _ i v h; simp [xSl] at h
  | cons w vs ih =>
    intro n h i v hi
    have hr : xOkA vs = true := by cases w <;> first | exact h | cases h
    cases w with
    | int x =>
      cases i with
      | zero => simp [xSl] at hi; subst hi; exact List.mem_cons_self
      | succ j =>
        have := ih (n + 1) hr j v (by simpa [xSl] using hi)
        rw [show n + (j + 1) = n + 1 + j by omega]
        exact List.mem_cons_of_mem _ this
    | ref x =>
      cases i with
      | zero => simp [xSl] at hi; subst hi; exact List.mem_cons_self
      | succ j =>
        have := ih (n + 1) hr j v (by simpa [xSl] using hi)
        rw [show n + (j + 1) = n + 1 + j by omega]
        exact List.mem_cons_of_mem _ this
    | null =>
      cases i with
      | zero => simp [xSl] at hi; subst hi; exact List.mem_cons_self
      | succ j =>
        have := ih (n + 1) hr j v (by simpa [xSl] using hi)
        rw [show n + (j + 1) = n + 1 + j by omega]
        exact List.mem_cons_of_mem _ this
    | long x =>
      match i with
      | 0 => simp [xSl] at hi; subst hi; exact List.mem_cons_self
      | 1 => simp [xSl] at hi
      | j + 2 =>
        have := ih (n + 2) hr j v (by simpa [xSl] using hi)
        rw [show n + (j + 2) = n + 2 + j by omega]
        exact List.mem_cons_of_mem _ this
    | float x => cases h
    | double x => cases h
    | retAddr x => cases h
theorem lcR_entry {g : xG} {y : MD} {vs : List Value} {L0 : xL} (h : xEnt y vs = some L0) : lcR g (mdN y) L0 ((lg_sl (vs.map (cvV g)) ++ List.replicate (mdN y - (lg_sl (vs.map (cvV g))).length) Slot.unset).toArray) := by
  unfold xEnt at h
  cases hb : xOkA vs && Nat.ble (xSl vs).length (mdN y) with
  | false => rw [hb] at h; cases h
  | true =>
    rw [hb] at h
    cases h
    rw [Bool.and_eq_true] at hb
    have hl := Nat.le_of_ble_eq_true hb.2
    have he := xSl_len vs g hb.1
    obtain ⟨h1, h2, h3⟩ := lv_entry (vs.map (cvV g)) (n := mdN y) (by rw [he]; exact hl)
    refine ⟨h1, h2, by simp; omega, fun i v hi => ?_⟩
    have hi2 : i < (xSl vs).length := by
      rcases Nat.lt_or_ge i (xSl vs).length with q | q
      · exact q
      · rw [List.getElem?_append_right q, List.getElem?_replicate] at hi
        split at hi <;> cases hi
    rw [List.getElem?_append_left hi2] at hi
    have := h3 (0 + i, cvV g v) (xSl_args g vs 0 hb.1 i v hi)
    simpa using this
