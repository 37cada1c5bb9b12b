/-! OPERATIONS best, share: the answer of the search -/
theorem un_g {s : Int32} {v : Nat} (hv : v < 8) : ((s >>> ((nI v) &&& 31)) &&& 1) = 0 ↔ s.toBitVec.getLsbD v = false := by
  have e1 : (((nI v) &&& 31).toBitVec.smod 32).toNat = v := (by decide : ∀ i : Fin 8, (((nI i.val) &&& 31).toBitVec.smod 32).toNat = i.val) ⟨v, hv⟩
  have e2 : ((s >>> ((nI v) &&& 31)) &&& 1).toBitVec = (s.toBitVec.sshiftRight v) &&& 1#32 := by
    rw [Int32.toBitVec_and, Int32.toBitVec_shiftRight]
    show (s.toBitVec.sshiftRight (((nI v) &&& 31).toBitVec.smod 32).toNat) &&& 1#32 = _
    rw [e1]
  have e3 : (s.toBitVec.sshiftRight v).getLsbD 0 = s.toBitVec.getLsbD v := by
    rw [BitVec.getLsbD_sshiftRight]
    simp [show v < 32 by omega]
  rw [← Int32.toBitVec_inj, e2, show (0 : Int32).toBitVec = 0#32 from rfl]
  constructor
  · intro h
    have := congrArg (fun z : BitVec 32 => z.getLsbD 0) h
    simp only [BitVec.getLsbD_and] at this
    rw [e3] at this
    simpa using this
  · intro h
    apply BitVec.eq_of_getLsbD_eq
    intro i hi
    rw [BitVec.getLsbD_and]
    by_cases q : i = 0
    · rw [q, e3, h]; rfl
    · have : (1#32).getLsbD i = false := by
        rw [BitVec.getLsbD_eq_getElem hi, BitVec.getElem_eq_testBit_toNat]
        show Nat.testBit 1 i = false
        exact Nat.testBit_lt_two_pow (Nat.one_lt_two_pow (by omega))
      rw [this, Bool.and_false]
      simp
theorem or_bit {s : Int32} {i v : Nat} (hi : i < 8) (hv : v < 8) : (s ||| (1 <<< ((nI i) &&& 31))).toBitVec.getLsbD v = (s.toBitVec.getLsbD v || decide (v = i)) := by
  rw [Int32.toBitVec_or, BitVec.getLsbD_or]
  rw [(by decide : ∀ i v : Fin 8, ((1 : Int32) <<< ((nI i.val) &&& 31)).toBitVec.getLsbD v.val = decide (v.val = i.val)) ⟨i, hi⟩ ⟨v, hv⟩]
/-- the panes of a path so far, and the bits of those seen
-/
def PI (P pl : Nat) (sn : Int32) (pa : Nat → Nat) : Prop := (∀ j, j < pl → pa j < P) ∧ (∀ i j, i < j → j < pl → pa i ≠ pa j) ∧ ∀ v, v < P → (sn.toBitVec.getLsbD v = true ↔ ∃ j, j < pl ∧ pa j = v)
theorem PI_s {P pl i : Nat} {sn : Int32} {pa : Nat → Nat} (h8 : P ≤ 8) (h : PI P pl sn pa) (hi : i < P) (hu : ((sn >>> ((nI i) &&& 31)) &&& 1) = 0) : PI P (pl + 1) (sn ||| (1 <<< ((nI i) &&& 31))) (fun j => if j = pl then i else pa j) := by
  have hb := (un_g (show i < 8 by omega)).mp hu
  have hn : ∀ j, j < pl → pa j ≠ i := fun j hj q => by
    have := (h.2.2 i hi).mpr ⟨j, hj, q⟩
    rw [hb] at this
    cases this
  refine ⟨fun j hj => ?_, fun a b hab hb => ?_, fun v hv => ?_⟩
  · show (if j = pl then i else pa j) < P
    by_cases q : j = pl
    · rw [if_pos q]; exact hi
    · rw [if_neg q]; exact h.1 j (by omega)
  · show (if a = pl then i else pa a) ≠ (if b = pl then i else pa b)
    rw [if_neg (show ¬ a = pl by omega)]
    by_cases q : b = pl
    · rw [if_pos q]; exact hn a (by omega)
    · rw [if_neg q]; exact h.2.1 a b hab (by omega)
  · rw [or_bit (by omega) (by omega), Bool.or_eq_true, h.2.2 v hv, decide_eq_true_eq]
    constructor
    · rintro (⟨j, j1, j2⟩ | q)
      · exact ⟨j, by omega, by show (if j = pl then i else pa j) = v; rw [if_neg (show ¬ j = pl by omega)]; exact j2⟩
      · exact ⟨pl, by omega, by show (if pl = pl then i else pa pl) = v; rw [if_pos rfl, q]⟩
    · rintro ⟨j, j1, j2⟩
      dsimp only at j2
      by_cases q : j = pl
      · rw [if_pos q] at j2; exact Or.inr j2.symm
      · rw [if_neg q] at j2; exact Or.inl ⟨j, by omega, j2⟩
theorem PI_un {P pl : Nat} {sn : Int32} {pa : Nat → Nat} (h8 : P ≤ 8) (h : PI P pl sn pa) (hpl : pl < P) : ∃ i, i < P ∧ ((sn >>> ((nI i) &&& 31)) &&& 1) = 0 := by
  refine Classical.byContradiction (fun q => ?_)
  have all : ∀ i, i < P → ∃ j, j < pl ∧ pa j = i := fun i hi => by
    refine (h.2.2 i hi).mp ?_
    cases e : sn.toBitVec.getLsbD i with
    | true => rfl
    | false => exact absurd ⟨i, hi, (un_g (by omega)).mpr e⟩ q
  have g : ∀ i, ∃ j, i < P → j < pl ∧ pa j = i := fun i => by
    by_cases hi : i < P
    · obtain ⟨j, hj⟩ := all i hi; exact ⟨j, fun _ => hj⟩
    · exact ⟨0, fun z => absurd z hi⟩
  obtain ⟨f, hf⟩ := Classical.axiomOfChoice g
  have := php P f (fun i hi => by have := (hf i hi).1; omega) (fun i j a b e => by
    have := (hf i (by omega)).2
    have := (hf j b).2
    rw [e] at *
    omega) (P - 1) (by omega)
  obtain ⟨i, i1, i2⟩ := this
  have := (hf i i1).1
  omega
def prm (P : Nat) (st : DS) : Prop := ∀ b, st.1 = some b → (∀ j, j < P → st.2 j < P) ∧ ∀ i j, i < j → j < P → st.2 i ≠ st.2 j
theorem dfs_prm {M0 : xM} {P : Nat} (h8 : P ≤ 8) : ∀ (k pl : Nat) (sn : Int32) (hr sm : Nat) (pa : Nat → Nat) (st : DS), pl + k = P → PI P pl sn pa → prm P st → prm P (dfs M0 P k pl sn hr sm pa st) ∧ (dfs M0 P k pl sn hr sm pa st).1 ≠ none := by
  intro k
  induction k with
  | zero =>
    intro pl sn hr sm pa st hk hp hs
    obtain rfl : pl = P := by omega
    have hb : prm pl (some sm, pa) := fun b _ => ⟨hp.1, hp.2.1⟩
    unfold dfs bet
    cases e : st.1 with
    | none => exact ⟨hb, by simp⟩
    | some b =>
      dsimp only
      by_cases q : b < sm
      · rw [if_pos q]; exact ⟨hb, by simp⟩
      · rw [if_neg q]; exact ⟨hs, by rw [e]; simp⟩
  | succ k ih =>
    intro pl sn hr sm pa st hk hp hs
    obtain ⟨u, u1, u2⟩ := PI_un h8 hp (by omega)
    have key : ∀ n, n ≤ P → prm P (itr (fun i s => if ((sn >>> ((nI i) &&& 31)) &&& 1) = 0 then dfs M0 P k (pl + 1) (sn ||| (1 <<< ((nI i) &&& 31))) (hr + tkN M0 i (rdN M0 0 i hr)) (sm + vlN M0 i (rdN M0 0 i hr)) (fun j => if j = pl then i else pa j) s else s) n st) ∧ (u < n → (itr (fun i s => if ((sn >>> ((nI i) &&& 31)) &&& 1) = 0 then dfs M0 P k (pl + 1) (sn ||| (1 <<< ((nI i) &&& 31))) (hr + tkN M0 i (rdN M0 0 i hr)) (sm + vlN M0 i (rdN M0 0 i hr)) (fun j => if j = pl then i else pa j) s else s) n st).1 ≠ none) := by
      intro n
      induction n with
      | zero => intro _; exact ⟨hs, fun q => absurd q (Nat.not_lt_zero u)⟩
      | succ n ihn =>
        intro hn
        obtain ⟨a1, a2⟩ := ihn (by omega)
        unfold itr
        by_cases q : ((sn >>> ((nI n) &&& 31)) &&& 1) = 0
        · rw [if_pos q]
          have w := ih (pl + 1) (sn ||| (1 <<< ((nI n) &&& 31))) (hr + tkN M0 n (rdN M0 0 n hr)) (sm + vlN M0 n (rdN M0 0 n hr)) (fun j => if j = pl then n else pa j) (itr (fun i s => if ((sn >>> ((nI i) &&& 31)) &&& 1) = 0 then dfs M0 P k (pl + 1) (sn ||| (1 <<< ((nI i) &&& 31))) (hr + tkN M0 i (rdN M0 0 i hr)) (sm + vlN M0 i (rdN M0 0 i hr)) (fun j => if j = pl then i else pa j) s else s) n st) (by omega) (PI_s h8 hp (by omega) q) a1
          exact ⟨w.1, fun _ => w.2⟩
        · rw [if_neg q]
          refine ⟨a1, fun z => a2 ?_⟩
          have : u ≠ n := fun z2 => q (by rw [← z2]; exact u2)
          omega
    have := key P (Nat.le_refl P)
    exact ⟨this.1, this.2 u1⟩
theorem PI_0 {P : Nat} : PI P 0 0 (fun _ => 0) := ⟨fun j hj => absurd hj (Nat.not_lt_zero j), fun i j _ hj => absurd hj (Nat.not_lt_zero j), fun v _ => ⟨fun q => by simp at q, fun ⟨j, hj, _⟩ => absurd hj (Nat.not_lt_zero j)⟩⟩
/-- the best round, and what it comes to -/
def bst (M0 : xM) (P : Nat) : DS := dfs M0 P P 0 0 (hoN M0) 0 (fun _ => 0) (none, fun _ => 0)
theorem bst_ok {M0 : xM} {P : Nat} (h8 : P ≤ 8) : ∃ b, (bst M0 P).1 = some b ∧ (∀ j, j < P → (bst M0 P).2 j < P) ∧ ∀ j, j < P → ∃ i, i < P ∧ (bst M0 P).2 i = j := by
  obtain ⟨w1, w2⟩ := dfs_prm (M0 := M0) h8 P 0 0 (hoN M0) 0 (fun _ => 0) (none, fun _ => 0) (Nat.zero_add P) PI_0 (fun b hb => by cases hb)
  cases e : (bst M0 P).1 with
  | none => exact absurd e w2
  | some b =>
    obtain ⟨a1, a2⟩ := w1 b e
    exact ⟨b, rfl, a1, php P _ a1 a2⟩
