section SIC
variable {ro : xRO} {g : xG} {md : MD} {p : Program} {l : Launch} {e : Env} {R : Room} {s : State} {m : MethodId} {args : Array Value} {below : List Frame} {meth : Method} {c : Code} {Q : State → Prop} {cells slots d : Nat}
variable {pc len : Nat} {L L1 : xL} {st st1 st2 : List Value} {h h1 : xH} {pc1 c1 s1 : Nat}
/-- va_copyi, with the heap's size -/
theorem wCopy {cc : ByteArray} {D : va_G} {cl : List vw_C} {tys : List (ClassId × FieldType)} {ws : va_W} {H : Heap} {locs : List Loc} {ls : Array Slot} {rest : List Value} {a : Nat} (hexec : p.tables.exec = Jvm.exec) (hb : c.code = cc) (hml : c.maxLocals = ls.size) {own : String} {index : Nat} (hown : s.vm.findClass own = some m.cls) (hlink : (Cond.methodLink own index arraycopyName).before args s = true) (hnat : (Cond.native arraycopyName).before args s = true) (hstat : (Cond.static arraycopyName).before args s = true) (hini : (Cond.initialized "java/lang/System").before args s = true)
    (hK : va_K D cl tys s) (hP : va_P D cl ws H) (q0 q1 t0 t1 : Nat) {a0 : Nat} {c0 c1 : ClassId} {n0 n1 : Nat} {f g : Nat → Int32} {ty : FieldType} (ha0 : ws[q0]? = some (a0, .inl (c0, n0, .inl f))) (ha1 : ws[q1]? = some (a, .inl (c1, n1, .inl g))) (ht0 : tys[t0]? = some (c0, ty)) (ht1 : tys[t1]? = some (c1, ty)) (hprim : refKind ty = false)
    {sp dp n : Int32} (h1 : ¬ sp < 0) (h2 : ¬ dp < 0) (h3 : ¬ n < 0) (h4 : sp.toNatClampNeg + n.toNatClampNeg ≤ n0) (h5 : dp.toNatClampNeg + n.toNatClampNeg ≤ n1) (hfit : ∀ i, i < n.toNatClampNeg → fits ty (.int (f (sp.toNatClampNeg + i))) = true)
    (hframes : 1 ≤ R.frames) (hlocals : (rest.map fun v => v.category).sum + (nativeFrameWords "java/lang/System" "arraycopy" 5 + 11) ≤ R.locals) (hdg : decode cc pc = .ok (.invokestatic index, 3))
    (kk : ∀ (H1 : Heap) (L : List Loc), H1[a]? = some (vp_cell c1 (n1, .inl (va_cpy f g sp.toNatClampNeg dp.toNatClampNeg n.toNatClampNeg))) → H1.size = H.size → (∀ q : Nat, q ≠ a → H1[q]? = H[q]?) → (∀ q ∈ L, q.base = a) → W p l e R s m args below meth c H1 (locs ++ L) cells slots Q (F0 m (pc + 3) ls rest)) : W p l e R s m args below meth c H locs cells slots Q (F0 m pc ls (.int n :: .int dp :: .ref a :: .int sp :: .ref a0 :: rest)) := by
  have nn : ∀ z : Int32, ¬ z < 0 → z.toInt = (z.toNatClampNeg : Int) := by
    intro z hz
    have hz0 : (0 : Int) ≤ z.toInt := by
      have := Int32.not_lt.mp hz
      simpa using Int32.le_iff_toInt_le.mp this
    show z.toInt = ((z.toInt.toNat : Nat) : Int)
    omega
  intro T hT X
  have hc0 : H[a0]? = some (vp_cell c0 (n0, .inl f)) := hP q0 _ ha0
  have hc1 : H[a]? = some (vp_cell c1 (n1, .inl g)) := hP q1 _ ha1
  obtain ⟨-, k0, hk0, cm0, hkk0⟩ := (hK.2 t0 _ ht0).1 n0 (fun j => .int (f j))
  obtain ⟨-, k1, hk1, cm1, hkk1⟩ := (hK.2 t1 _ ht1).1 n1 (fun j => .int (g j))
  obtain ⟨vm', X', step⟩ := X.arraycopy hexec hown hlink hnat hstat hini (src := a0) (dst := a) (cs := vp_cell c0 (n0, .inl f)) (cd := vp_cell c1 (n1, .inl g)) (srcPos := sp) (destPos := dp) (n := n) (by rw [hT]; exact hc0) (by rw [hT]; exact hc1)
    (fun _ h => by cases h) (fun _ h => by cases h) (fun h => by cases h) (fun h => by cases h) hk0 hk1 hkk0 hkk1 (by simp [hprim]) h1 h2 h3
    (by rw [nn sp h1, nn n h3]; show ¬ _ > ((arrV c0 n0 (fun j => .int (f j))).slots.size : Int); rw [arrV_size]; omega)
    (by rw [nn dp h2, nn n h3]; show ¬ _ > ((arrV c1 n1 (fun j => .int (g j))).slots.size : Int); rw [arrV_size]; omega)
    (fun vm₁ _ i hi => by
      have e : (vp_cell c0 (n0, .inl f)).slots.getD (sp.toNatClampNeg + i) .null = .int (f (sp.toNatClampNeg + i)) := by
        show (arrV c0 n0 (fun j => .int (f j))).slots.getD _ _ = _
        rw [Array.getD_eq_getD_getElem?, arrV_read _ _ (by omega)]
        rfl
      refine ⟨?_, ?_⟩
      · rw [e]
        exact hfit i hi
      · rw [e]
        exact trivial)
    (g := F0 m pc ls (.int n :: .int dp :: .ref a :: .int sp :: .ref a0 :: rest)) rfl (by rw [hml]) (rest := rest) rfl (by rw [hb]; exact hdg) hframes (by show 2 * 0 + _ + _ ≤ _; omega)
  have e1 : copied (vp_cell c0 (n0, .inl f)) (vp_cell c1 (n1, .inl g)) sp dp n = vp_cell c1 (n1, .inl (va_cpy f g sp.toNatClampNeg dp.toNatClampNeg n.toNatClampNeg)) := va_copied (fun z => .int z) c0 c1 f g h4
  rw [e1] at X' step
  have hl : a < H.size := (Array.getElem?_eq_some_iff.mp hc1).1
  have hheap : ((T.setVm vm').setCell a (vp_cell c1 (n1, .inl (va_cpy f g sp.toNatClampNeg dp.toNatClampNeg n.toNatClampNeg)))).heap = H.setIfInBounds a (vp_cell c1 (n1, .inl (va_cpy f g sp.toNatClampNeg dp.toNatClampNeg n.toNatClampNeg))) := by rw [← hT]; rfl
  have oq : ∀ q : Nat, q ≠ a → (H.setIfInBounds a (vp_cell c1 (n1, .inl (va_cpy f g sp.toNatClampNeg dp.toNatClampNeg n.toNatClampNeg))))[q]? = H[q]? := fun q hq => by simp [Array.getElem?_setIfInBounds, Ne.symm hq]
  obtain ⟨t, a1, b1⟩ := kk _ _ (show (H.setIfInBounds a _)[a]? = some _ by simp [Array.getElem?_setIfInBounds, hl]) (by simp) oq (fun q hq => by
      obtain ⟨z, -, hz⟩ := List.mem_map.mp hq
      rw [← hz]) _ hheap X'
  exact ⟨t, step t a1, b1⟩
theorem wNat {k : Nat} (C : ctx ro g md p R s m args meth c d) (hd : decode (mdC md) pc = .ok (.invokestatic k, 3)) (hs : xNat md k pc L st h = some (pc1, L1, st1, h1, c1, s1)) (hcell : cells + c1 ≤ R.cells) (hslot : slots + s1 ≤ R.slots) (kk : WX g md p l e R s m args below meth c Q pc1 L1 st1 h1 (cells + c1) (slots + s1)) : WX g md p l e R s m args below meth c Q pc L st h cells slots := by
  have hts := C.2.2.2.2.1
  have hR := C.2.2.2.2.2.2.2
  unfold xNat at hs
  split at hs
  · rename_i y9 hm
    obtain ⟨t, ht1, ht2⟩ := xfind_mem (show xfind mlk_T _ _ = some _ from hm)
    have hL := (okL_all _ _ ht1 _ ht2).2.2.2.2.2.1 rfl
    split at hs
    · rename_i y x r
      obtain ⟨hb, he⟩ := bif_some hs
      cases he
      have h8 := cat_sum g _ hb
      intro H locs ls a0 b z
      exact va_mmax C.1 C.2.1 (by rw [C.2.2.1]; exact z.1.symm) C.2.2.2.1 (hts _ hL) (hts _ g_max_s) (hts _ g_math) (hts _ g_max_c) (by omega) (by omega) hcell hslot hd (kk H locs ls a0 b z)
    · cases hs
  · rename_i y9 hm
    obtain ⟨t, ht1, ht2⟩ := xfind_mem (show xfind mlk_T _ _ = some _ from hm)
    have hL := (okL_all _ _ ht1 _ ht2).2.2.2.2.2.2.1 rfl
    split at hs
    · rename_i y x r
      obtain ⟨hb, he⟩ := bif_some hs
      cases he
      have h8 := cat_sum g _ hb
      intro H locs ls a0 b z
      exact va_mmin C.1 C.2.1 (by rw [C.2.2.1]; exact z.1.symm) C.2.2.2.1 (hts _ hL) (hts _ g_min_s) (hts _ g_math) (hts _ g_min_c) (by omega) (by omega) hcell hslot hd (kk H locs ls a0 b z)
    · cases hs
  · rename_i y9 hm
    obtain ⟨t, ht1, ht2⟩ := xfind_mem (show xfind mlk_T _ _ = some _ from hm)
    have hL := (okL_all _ _ ht1 _ ht2).2.2.2.2.2.2.2.1 rfl
    split at hs
    · rename_i n dp b0 sp a r
      split at hs
      · rename_i n0 f n1 gg ha hb
        split at hs
        · cases hs
        · rename_i hin
          obtain ⟨hb4, he⟩ := bif_some hs
          cases he
          have h8 := cat_sum g _ hb4
          have hK := C.2.2.2.2.2.2.1.1
          have i1 : ¬ sp < 0 := fun q => hin (Or.inl q)
          have i2 : ¬ dp < 0 := fun q => hin (Or.inr (Or.inl q))
          have i3 : ¬ n < 0 := fun q => hin (Or.inr (Or.inr (Or.inl q)))
          have i4 : ¬ n0 < sp.toNatClampNeg + n.toNatClampNeg := fun q => hin (Or.inr (Or.inr (Or.inr (Or.inl q))))
          have i5 : ¬ n1 < dp.toNatClampNeg + n.toNatClampNeg := fun q => hin (Or.inr (Or.inr (Or.inr (Or.inr q))))
          intro H locs ls a0 b z
          refine wCopy (ty := .int) C.1 C.2.1 (by rw [C.2.2.1]; exact z.1.symm) C.2.2.2.1 (hts _ hL) (hts _ g_ac_n) (hts _ g_ac_s) (hts _ g_sys) hK a0.2 a b0 0 0 (cvW_at ha) (cvW_at hb) rfl rfl rfl i1 i2 i3 (by omega) (by omega) (fun _ _ => rfl) (by omega) (by rw [show nativeFrameWords "java/lang/System" "arraycopy" 5 = 7 by decide]; omega) hd (fun H1 L e1 e2 oq hl => ?_)
          refine kk H1 _ ls (a0.set hb e2 e1 oq) ⟨by rw [e2]; exact b.1, fun q g1 g2 => ?_, fun q hq => ?_⟩ z
          · rw [oq q (fun e => g2 (by rw [e]; exact Nat.le_add_right _ _))]
            exact b.2.1 q g1 g2
          · rcases List.mem_append.mp hq with w | w
            · exact b.2.2 q w
            · rw [hl q w]
              exact Nat.le_add_right _ _
      · cases hs
    · cases hs
  · cases hs
/-- every step but calls and returns -/
theorem stp_ok {i : Instr} (C : ctx ro g md p R s m args meth c d) (hd : decode (mdC md) pc = .ok (i, len)) (hl : xLen i len = true) (hs : stp ro md i pc L st h = some (pc1, L1, st1, h1, c1, s1)) (hcell : cells + c1 ≤ R.cells) (hslot : slots + s1 ≤ R.slots) (kk : WX g md p l e R s m args below meth c Q pc1 L1 st1 h1 (cells + c1) (slots + s1)) : WX g md p l e R s m args below meth c Q pc L st h cells slots := by
  have cs {ci k : Nat} {v : Int32} (q : cst ci k = some v) : Cond.constant (clsN ci) k v ∈ gw := by
    obtain ⟨t, ht1, ht2⟩ := xfind_mem (show xfind cst_T _ _ = some _ from q)
    exact okI_all _ _ ht1 _ ht2
  have cl {ci k : Nat} {v : Int64} (q : csl ci k = some v) : Cond.constantLong (clsN ci) k v ∈ gw := by
    obtain ⟨t, ht1, ht2⟩ := xfind_mem (show xfind csl_T _ _ = some _ from q)
    exact okJ_all _ _ ht1 _ ht2
  have E1 := C.1
  have E2 := C.2.1
  have E4 := C.2.2.2.1
  have E5 := C.2.2.2.2.1
  unfold stp at hs
  split at hs
  · obtain rfl := Nat.eq_of_beq_eq_true hl
    exact wPush (fun H locs ls rest k => lv_iconst E1 E2 hd rfl k) hs kk
  · obtain rfl := Nat.eq_of_beq_eq_true hl
    exact wPush (fun H locs ls rest k => lv_bipush E1 E2 hd rfl k) hs kk
  · obtain rfl := Nat.eq_of_beq_eq_true hl
    exact wPush (fun H locs ls rest k => lv_sipush E1 E2 hd rfl k) hs kk
  · obtain rfl := Nat.eq_of_beq_eq_true hl
    split at hs
    · rename_i hv
      exact wPush (fun H locs ls rest k => lv_ldc E1 E2 E4 (E5 _ (cs hv)) hd k) hs kk
    · cases hs
  · obtain rfl := Nat.eq_of_beq_eq_true hl
    split at hs
    · rename_i hv
      exact wPush (fun H locs ls rest k => lv_ldcw E1 E2 E4 (E5 _ (cs hv)) hd k) hs kk
    · cases hs
  · obtain rfl := Nat.eq_of_beq_eq_true hl
    split at hs
    · rename_i hv
      exact wPush (fun H locs ls rest k => lv_ldc2 E1 E2 E4 (E5 _ (cl hv)) hd k) hs kk
    · cases hs
  · obtain rfl := Nat.eq_of_beq_eq_true hl
    exact wPush (fun H locs ls rest k => lv_null E1 E2 hd k) hs kk
  · obtain rfl := Nat.eq_of_beq_eq_true hl
    exact wLdI (fun H locs ls rest x q k => lv_iload_n E1 E2 hd rfl q k) hs kk
  · obtain rfl := Nat.eq_of_beq_eq_true hl
    exact wLdI (fun H locs ls rest x q k => lv_iload E1 E2 hd q k) hs kk
  · obtain rfl := Nat.eq_of_beq_eq_true hl
    exact wLdL (fun H locs ls rest x q k => lv_lload_n E1 E2 hd rfl q k) hs kk
  · obtain rfl := Nat.eq_of_beq_eq_true hl
    exact wLdA (fun H locs ls rest x q k => lv_aload_n E1 E2 hd rfl q k) (fun H locs ls rest q k => lv_aload_nN E1 E2 hd rfl q k) hs kk
  · obtain rfl := Nat.eq_of_beq_eq_true hl
    exact wLdA (fun H locs ls rest x q k => lv_aload E1 E2 hd q k) (fun H locs ls rest q k => lv_aloadN E1 E2 hd q k) hs kk
  · obtain rfl := Nat.eq_of_beq_eq_true hl
    exact wStI (fun H locs ls rest x lv a b k => lv_istore_n E1 E2 hd rfl a b rfl k) hs kk
  · obtain rfl := Nat.eq_of_beq_eq_true hl
    exact wStI (fun H locs ls rest x lv a b k => lv_istore E1 E2 hd a b rfl k) hs kk
  · obtain rfl := Nat.eq_of_beq_eq_true hl
    exact wStA (fun H locs ls rest x lv a b k => lv_astore_n E1 E2 hd rfl a b rfl k) (fun H locs ls rest lv a b k => lv_astore_nN E1 E2 hd rfl a b rfl k) hs kk
  · obtain rfl := Nat.eq_of_beq_eq_true hl
    exact wStA (fun H locs ls rest x lv a b k => lv_astore E1 E2 hd a b rfl k) (fun H locs ls rest lv a b k => lv_astoreN E1 E2 hd a b rfl k) hs kk
  · obtain rfl := Nat.eq_of_beq_eq_true hl
    exact wInc C hd hs kk
  · obtain rfl := Nat.eq_of_beq_eq_true hl
    exact wBin (fun H locs ls rest x y k => lv_iadd E1 E2 hd k) hs kk
  · obtain rfl := Nat.eq_of_beq_eq_true hl
    exact wBin (fun H locs ls rest x y k => lv_isub E1 E2 hd k) hs kk
  · obtain rfl := Nat.eq_of_beq_eq_true hl
    exact wBin (fun H locs ls rest x y k => lv_imul E1 E2 hd k) hs kk
  · obtain rfl := Nat.eq_of_beq_eq_true hl
    exact wBin (fun H locs ls rest x y k => lv_iand E1 E2 hd k) hs kk
  · obtain rfl := Nat.eq_of_beq_eq_true hl
    exact wBin (fun H locs ls rest x y k => lv_ior E1 E2 hd k) hs kk
  · obtain rfl := Nat.eq_of_beq_eq_true hl
    exact wBin (fun H locs ls rest x y k => lv_ixor E1 E2 hd k) hs kk
  · obtain rfl := Nat.eq_of_beq_eq_true hl
    exact wBin (fun H locs ls rest x y k => lv_ishl E1 E2 hd k) hs kk
  · obtain rfl := Nat.eq_of_beq_eq_true hl
    exact wBin (fun H locs ls rest x y k => lv_ishr E1 E2 hd k) hs kk
  · obtain rfl := Nat.eq_of_beq_eq_true hl
    exact wBin (fun H locs ls rest x y k => lv_iushr E1 E2 hd rfl k) hs kk
  · obtain rfl := Nat.eq_of_beq_eq_true hl
    exact wBinD (fun H locs ls rest x y q k => lv_idiv E1 E2 hd q k) hs kk
  · obtain rfl := Nat.eq_of_beq_eq_true hl
    exact wBinD (fun H locs ls rest x y q k => lv_irem E1 E2 hd q k) hs kk
  · obtain rfl := Nat.eq_of_beq_eq_true hl
    exact wUn (fun H locs ls rest x k => lv_ineg E1 E2 hd k) hs kk
  · obtain rfl := Nat.eq_of_beq_eq_true hl
    exact wUn (fun H locs ls rest x k => lv_i2b E1 E2 hd rfl k) hs kk
  · obtain rfl := Nat.eq_of_beq_eq_true hl
    exact wUn (fun H locs ls rest x k => lv_i2s E1 E2 hd rfl k) hs kk
  · obtain rfl := Nat.eq_of_beq_eq_true hl
    unfold xI2l at hs
    split at hs
    · cases hs
      intro H locs ls a b z
      exact lv_i2l E1 E2 hd rfl (kk H locs ls a b z)
    · cases hs
  · obtain rfl := Nat.eq_of_beq_eq_true hl
    unfold xL2i at hs
    split at hs
    · cases hs
      intro H locs ls a b z
      exact lv_l2i E1 E2 hd rfl (kk H locs ls a b z)
    · cases hs
  · obtain rfl := Nat.eq_of_beq_eq_true hl
    exact wBinL (fun H locs ls rest x y k => lv_land E1 E2 hd k) hs kk
  · obtain rfl := Nat.eq_of_beq_eq_true hl
    exact wBinL (fun H locs ls rest x y k => lv_lor E1 E2 hd k) hs kk
  · obtain rfl := Nat.eq_of_beq_eq_true hl
    exact wShL (fun H locs ls rest x y k => lv_lshl E1 E2 hd rfl k) hs kk
  · obtain rfl := Nat.eq_of_beq_eq_true hl
    exact wShL (fun H locs ls rest x y k => lv_lshr E1 E2 hd rfl k) hs kk
  · obtain rfl := Nat.eq_of_beq_eq_true hl
    exact wShL (fun H locs ls rest x y k => lv_lushr E1 E2 hd rfl k) hs kk
  · obtain rfl := Nat.eq_of_beq_eq_true hl
    exact wGo (fun H locs ls t ht k => lv_goto E1 E2 hd ht k) hs kk
  · obtain rfl := Nat.eq_of_beq_eq_true hl
    exact wIf1 C hd hs kk
  · obtain rfl := Nat.eq_of_beq_eq_true hl
    exact wIf2 C hd hs kk
  · obtain rfl := Nat.eq_of_beq_eq_true hl
    exact wIfNul C hd hs kk
  · obtain rfl := Nat.eq_of_beq_eq_true hl
    exact wIfNon C hd hs kk
  · obtain rfl := Nat.eq_of_beq_eq_true hl
    exact wDup C hd hs kk
  · obtain rfl := Nat.eq_of_beq_eq_true hl
    exact wDup2 C hd hs kk
  · obtain rfl := Nat.eq_of_beq_eq_true hl
    exact wPop C hd hs kk
  · obtain rfl := Nat.eq_of_beq_eq_true hl
    exact wGet C hd hs kk
  · obtain rfl := Nat.eq_of_beq_eq_true hl
    exact wPut C hd hs kk
  · obtain rfl := Nat.eq_of_beq_eq_true hl
    exact wGets C hd hs kk
  · obtain rfl := Nat.eq_of_beq_eq_true hl
    exact wIald C hd hs kk
  · obtain rfl := Nat.eq_of_beq_eq_true hl
    exact wIast C hd hs kk
  · obtain rfl := Nat.eq_of_beq_eq_true hl
    exact wAald C hd hs kk
  · obtain rfl := Nat.eq_of_beq_eq_true hl
    exact wAast C hd hs kk
  · obtain rfl := Nat.eq_of_beq_eq_true hl
    exact wAlen C hd hs kk
  · obtain rfl := Nat.eq_of_beq_eq_true hl
    exact wNew C hd hs hcell hslot kk
  · obtain rfl := Nat.eq_of_beq_eq_true hl
    split at hs
    · exact wNewa C hd hs hcell hslot kk
    · cases hs
  · obtain rfl := Nat.eq_of_beq_eq_true hl
    exact wNewq C hd hs hcell hslot kk
  · exact wTsw C hd hs kk
  · exact wLsw C hd hs kk
  · obtain rfl := Nat.eq_of_beq_eq_true hl
    exact wNat C hd hs hcell hslot kk
  · obtain rfl := Nat.eq_of_beq_eq_true hl
    exact wObI C hd hs kk
  · cases hs
end SIC
