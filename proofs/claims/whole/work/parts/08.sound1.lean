/-! ONE STEP IS SOUND -/
def x_Ctx (o : Nat → Nat) (sio : Value) (sz : Nat) (xs : List Int32) (y dR n0 : Nat) (p : Program) (R : Room) (s : State) (m : MethodId) (args : Array Value) (meth : Method) (c : Code) : Prop :=
  p.tables.exec = Jvm.exec ∧ c.code = x_by y ∧ c.maxLocals = x_ml y ∧ s.vm.findClass (x_cn (x_cy y)) = some m.cls ∧ (∀ w ∈ x_TB, w.before args s = true) ∧ x_Old o sio sz xs s s.heap ∧ s.heap.size + 8 = sz + n0 ∧ 8 ≤ n0 ∧ (x_kd y = 2 → meth.name = "<init>") ∧ dR + 1 ≤ R.frames ∧ 60 * dR + 60 ≤ R.locals ∧ meth.locks = false ∧ (sio = .null ∨ ∃ t, sio = .ref t)
section XST
variable {o : Nat → Nat} {sio : Value} {sz : Nat} {xs : List Int32} {D : va_G} {y dR n0 s0 : Nat}
variable {p : Program} {l : Launch} {e : Env} {R : Room} {s : State} {m : MethodId} {args : Array Value} {below : List Frame} {meth : Method} {c : Code} {H : Heap} {locs : List Loc} {cells slots : Nat} {Q : State → Prop}
theorem x_size (g : JFrame) (k : H.size ≤ s.heap.size + cells → W p l e R s m args below meth c H locs cells slots Q g) : W p l e R s m args below meth c H locs cells slots Q g := by
  intro T hT X
  have h1 := X.heapSize
  rw [hT] at h1
  exact k h1 T hT X
theorem x_fresh {ws : va_W} {q : Nat} {ev : va_E} {H1 : Heap} (hP : va_P D vwCl (ws ++ [(q, ev)]) H1) (hD : va_D (x_A sz) (ws ++ [(q, ev)])) (hw : ∀ (i : Nat) (r : Nat × va_E), ws[i]? = some r → r.1 = sz + i) (hz : H1.size ≤ sz + ws.length + 1) : q = sz + ws.length := by
  have hq : (ws ++ [(q, ev)])[ws.length]? = some (q, ev) := by rw [List.getElem?_append_right (Nat.le_refl _), Nat.sub_self]; rfl
  have h1 := (hP _ _ hq).lt
  have h2 : sz ≤ q := hD.2 _ _ hq
  have h1' : q < H1.size := h1
  by_cases hlt : q < sz + ws.length
  · exfalso
    have hi : q - sz < ws.length := by omega
    have h3 := hw (q - sz) ws[q - sz] (List.getElem?_eq_getElem hi)
    have h4 : (ws ++ [(q, ev)])[q - sz]? = some ws[q - sz] := by rw [List.getElem?_append_left hi, List.getElem?_eq_getElem hi]
    have h5 := hD.1 (q - sz) ws.length _ _ h4 hq (by rw [h3]; show sz + (q - sz) = q; omega)
    omega
  · omega
theorem x_arr {tys : List (ClassId × FieldType)} {vs : List Value} {ev : va_E} (h : x_R o sio sz tys (10, vs) ev) : ∃ (cA : ClassId) (f : Nat → Int32) (t0 : Nat), ev = .inl (cA, vs.length, .inl f) ∧ tys[t0]? = some (cA, FieldType.int) ∧ ∀ (j : Nat) (v : Value), vs[j]? = some v → v = .int (f j) := by
  match ev, h with
  | .inr q, ⟨h1, h2, _⟩ => exact absurd (h1 ▸ h2) (by omega)
  | .inl (cA, n, .inl f), ⟨_, ⟨t0, h2⟩, h3, h4⟩ => exact ⟨cA, f, t0, by rw [h3], h2, h4⟩
  | .inl (cA, n, .inr (.inr (.inr (.inr f)))), ⟨h1, _⟩ => rcases h1 with ⟨h1, -⟩ | ⟨h1, -⟩ <;> exact absurd h1 (by simp)
theorem x_obj {tys : List (ClassId × FieldType)} {ci : Nat} {fs : List Value} {ev : va_E} (h : x_R o sio sz tys (ci, fs) ev) (hc : ci < 10) : ci < 7 ∧ ev = .inr (ci, fs.map (x_tr o sio sz)) := by
  match ev, h with
  | .inr q, ⟨h1, h2, h3⟩ =>
    obtain ⟨q1, q2⟩ := q
    cases h1
    cases h3
    exact ⟨h2, rfl⟩
  | .inl (cA, n, .inl f), ⟨h1, _⟩ => exact absurd h1 (by show ¬ ci = 10; omega)
  | .inl (cA, n, .inr (.inr (.inr (.inr f)))), ⟨h1, _⟩ => rcases h1 with ⟨h1, -⟩ | ⟨h1, -⟩ <;> exact absurd h1 (by show ¬ ci = _; omega)
theorem x_arq {tys : List (ClassId × FieldType)} {ct : Nat} {vs : List Value} {ev : va_E} (h : x_R o sio sz tys (ct, vs) ev) (hc : ct = 11 ∨ ct = 12) : ∃ (cA : ClassId) (f : Nat → Option Nat) (t0 : Nat), ev = .inl (cA, vs.length, .inr (.inr (.inr (.inr f)))) ∧ ((ct = 11 ∧ tys[t0]? = some (cA, FieldType.object RX2)) ∨ (ct = 12 ∧ tys[t0]? = some (cA, FieldType.object RX0))) ∧ ∀ (j : Nat) (v : Value), vs[j]? = some v → x_tr o sio sz v = va_rf (f j) := by
  match ev, h with
  | .inr q, ⟨h1, h2, _⟩ =>
    have h1' : ct = q.1 := h1
    exact absurd h2 (by omega)
  | .inl (cA, n, .inl f), ⟨h1, _⟩ =>
    have h1' : ct = 10 := h1
    exact absurd h1' (by omega)
  | .inl (cA, n, .inr (.inr (.inr (.inr f)))), ⟨h1, h2, h3⟩ =>
    rcases h1 with ⟨h1, t0, ht⟩ | ⟨h1, t0, ht⟩
    · exact ⟨cA, f, t0, by rw [h2], Or.inl ⟨h1, ht⟩, h3⟩
    · exact ⟨cA, f, t0, by rw [h2], Or.inr ⟨h1, ht⟩, h3⟩
theorem x_ldcSW {cc : ByteArray} {pc : Nat} {ls : Array Slot} {rest : List Value} (hexec : p.tables.exec = Jvm.exec) (hb : c.code = cc) {own tx : String} {index q : Nat} (hown : s.vm.findClass own = some m.cls) (hZ : vk_R own index tx q s) (hdg : decode cc pc = .ok (.ldc_w index, 3))
    (k : W p l e R s m args below meth c H locs cells slots Q (F0 m (pc + 3) ls (.ref q :: rest))) : W p l e R s m args below meth c H locs cells slots Q (F0 m pc ls rest) := by
  intro T hT X
  obtain ⟨t, a1, b1⟩ := k T hT X
  exact ⟨t, X.ldcStringW hexec hown (text := tx) (a := q) hZ.1 hZ.2 (g := F0 m pc ls rest) rfl (by rw [hb]; exact hdg) t a1, b1⟩
theorem x_tr8 {k : Nat} (h : 8 ≤ k) : x_tr o sio sz (.ref k) = .ref (x_ad o sz k) := x_tr_ref (by omega)
theorem x_lt8 {q : Nat} (h : ¬ 8 ≤ q) : q = 0 ∨ q = 1 ∨ q = 2 ∨ q = 3 ∨ q = 4 ∨ q = 5 ∨ q = 6 ∨ q = 7 := by omega
theorem x_in_of {i : Int32} {n : Nat} (h0 : ¬ i < 0) (h : i.toNatClampNeg < n) : vp_in i n := fun z => z.elim h0 (fun z => by omega)
theorem x_gD {xs : List Int32} {k : Nat} {v : Int32} (h : (xs.map Value.int)[k]? = some (.int v)) : xs.getD k 0 = v := by
  rw [List.getElem?_map, Option.map_eq_some_iff] at h
  obtain ⟨w, h1, h2⟩ := h
  cases h2
  rw [List.getD_eq_getElem?_getD, h1]
  rfl
set_option maxHeartbeats 16000000 in
set_option maxRecDepth 20000 in
theorem x_sound1 {r i : Instr} {n pc pc' : Nat} {L S L' S' : List Value} {h h' : x_H} {ls : Array Slot} (C : x_Ctx o sio sz xs y dR n0 p R s m args meth c)
    (hd : decode (x_by y) pc = .ok (r, n)) (hn : (x_sw r || n == x_len r) = true) (hr : x_res (x_cy y) pc r = some i) (hs : x_step (x_kd y == 2) i pc (pc + n) L S h = some (pc', L', S', h'))
    (hL : x_L o sio sz ls L) (hLl : L.length = x_ml y) (hW : x_W o sio sz xs D h H s) (hS : va_S (x_A sz) s.heap H locs) (hn0 : n0 ≤ h.length) (hs0 : s0 ≤ x_sz h) (hR1 : h'.length - n0 ≤ R.cells) (hR2 : x_sz h' - s0 ≤ R.slots)
    (kk : ∀ (ls' : Array Slot) (H' : Heap) (locs' : List Loc), x_L o sio sz ls' L' → x_W o sio sz xs D h' H' s → va_S (x_A sz) s.heap H' locs' → W p l e R s m args below meth c H' locs' (h'.length - n0) (x_sz h' - s0) Q (F0 m pc' ls' (S'.map (x_tr o sio sz)))) :
    W p l e R s m args below meth c H locs (h.length - n0) (x_sz h - s0) Q (F0 m pc ls (S.map (x_tr o sio sz))) := by
  obtain ⟨hx, hb, hml, hown, hts, hO, hsz, h8, hini, hRf, hRl, hlk, hsio⟩ := C
  have hlL : lv_has ls L.length (x_ll o sio sz L) := hL.has
  have hAA : ∀ q, s.heap.size ≤ q → x_A sz q := fun q hq => by show sz ≤ q; omega
  cases r with
  | iconst v =>
    cases hr
    cases (show n = 1 by simpa [x_sw, x_len] using hn)
    cases hs
    exact lv_iconst hx hb hd rfl (kk ls H locs hL hW hS)
  | bipush v =>
    cases hr
    cases (show n = 2 by simpa [x_sw, x_len] using hn)
    cases hs
    refine lv_bipush hx hb hd rfl ?_
    have := kk ls H locs hL hW hS
    simp only [Int32.ofInt_toInt] at this
    exact this
  | sipush v =>
    cases hr
    cases (show n = 3 by simpa [x_sw, x_len] using hn)
    cases hs
    refine lv_sipush hx hb hd rfl ?_
    have := kk ls H locs hL hW hS
    simp only [Int32.ofInt_toInt] at this
    exact this
  | ldc k =>
    cases (show n = 2 by simpa [x_sw, x_len] using hn)
    simp only [x_res] at hr
    split at hr
    next v hv =>
      cases hr
      cases hs
      refine lv_ldc hx hb hown (hts _ (x_kt_w hv)) hd ?_
      have := kk ls H locs hL hW hS
      simp only [Int32.ofInt_toInt] at this
      exact this
    next =>
      split at hr
      next hc =>
        cases hr
        cases hs
        rw [hc.1] at hown
        rw [hc.2] at hd
        exact va_ldcS hx hb (own := "WindowCards") hown hO.2.2.2.1.1 hd (kk ls H locs hL hW hS)
      next =>
        split at hr
        next hc =>
          cases hr
          cases hs
          rw [hc.1] at hown
          rw [hc.2] at hd
          exact va_ldcS hx hb (own := "WindowCards") hown hO.2.2.2.1.2 hd (kk ls H locs hL hW hS)
        next => cases hr
  | ldc_w k =>
    cases (show n = 3 by simpa [x_sw, x_len] using hn)
    simp only [x_res] at hr
    split at hr
    next v hv =>
      cases hr
      cases hs
      refine lv_ldcw hx hb hown (hts _ (x_kt_w hv)) hd ?_
      have := kk ls H locs hL hW hS
      simp only [Int32.ofInt_toInt] at this
      exact this
    next =>
      split at hr
      next hc =>
        cases hr
        cases hs
        rw [hc.1] at hown
        rw [hc.2] at hd
        exact x_ldcSW hx hb (own := "WindowCards") hown hO.2.2.2.1.1 hd (kk ls H locs hL hW hS)
      next =>
        split at hr
        next hc =>
          cases hr
          cases hs
          rw [hc.1] at hown
          rw [hc.2] at hd
          exact x_ldcSW hx hb (own := "WindowCards") hown hO.2.2.2.1.2 hd (kk ls H locs hL hW hS)
        next => cases hr
  | lconst k =>
    cases hr
    cases (show n = 1 by simpa [x_sw, x_len] using hn)
    cases hs
    exact lv_lconst hx hb hd rfl (kk ls H locs hL hW hS)
  | ldc2_w k =>
    cases (show n = 3 by simpa [x_sw, x_len] using hn)
    simp only [x_res] at hr
    split at hr
    next v hv =>
      cases hr
      cases hs
      exact lv_ldc2 hx hb hown (hts _ (x_kl_w hv)) hd (kk ls H locs hL hW hS)
    next => cases hr
  | iload_n k =>
    cases hr
    cases (show n = 1 by simpa [x_sw, x_len] using hn)
    simp only [x_step] at hs
    split at hs
    next x hx1 =>
      cases hs
      exact lv_iload_n hx hb hd rfl (hL.2.2 _ _ hx1 (by simp)) (kk ls H locs hL hW hS)
    next => cases hs
  | iload k =>
    cases hr
    cases (show n = 2 by simpa [x_sw, x_len] using hn)
    simp only [x_step] at hs
    split at hs
    next x hx1 =>
      cases hs
      exact lv_iload hx hb hd (hL.2.2 _ _ hx1 (by simp)) (kk ls H locs hL hW hS)
    next => cases hs
  | lload_n k =>
    cases hr
    cases (show n = 1 by simpa [x_sw, x_len] using hn)
    simp only [x_step] at hs
    split at hs
    next x hx1 =>
      cases hs
      exact lv_lload_n hx hb hd rfl (hL.2.2 _ _ hx1 (by simp)) (kk ls H locs hL hW hS)
    next => cases hs
  | lload k =>
    cases hr
    cases (show n = 2 by simpa [x_sw, x_len] using hn)
    simp only [x_step] at hs
    split at hs
    next x hx1 =>
      cases hs
      exact lv_lload hx hb hd (hL.2.2 _ _ hx1 (by simp)) (kk ls H locs hL hW hS)
    next => cases hs
  | aload_n k =>
    cases hr
    cases (show n = 1 by simpa [x_sw, x_len] using hn)
    simp only [x_step] at hs
    split at hs
    next q hx1 =>
      split at hs
      next => cases hs
      next hq =>
        cases hs
        have h1 := hL.2.2 _ _ hx1 (by simp)
        have h2 := kk ls H locs hL hW hS
        rw [List.map_cons] at h2
        rw [x_tr_ref hq] at h1 h2
        exact lv_aload_n hx hb hd rfl h1 h2
    next => cases hs
  | aload k =>
    cases hr
    cases (show n = 2 by simpa [x_sw, x_len] using hn)
    simp only [x_step] at hs
    split at hs
    next q hx1 =>
      split at hs
      next => cases hs
      next hq =>
        cases hs
        have h1 := hL.2.2 _ _ hx1 (by simp)
        have h2 := kk ls H locs hL hW hS
        rw [List.map_cons] at h2
        rw [x_tr_ref hq] at h1 h2
        exact lv_aload hx hb hd h1 h2
    next => cases hs
  | istore_n k =>
    cases hr
    cases (show n = 1 by simpa [x_sw, x_len] using hn)
    simp only [x_step] at hs
    split at hs
    next x st =>
      split at hs
      next hk =>
        cases hs
        exact lv_istore_n hx hb hd rfl hlL hk rfl (fun ls' hl' => kk ls' H locs (x_L.st1 (v := .int x) hsio hl' hk) hW hS)
      next => cases hs
    next => cases hs
  | istore k =>
    cases hr
    cases (show n = 2 by simpa [x_sw, x_len] using hn)
    simp only [x_step] at hs
    split at hs
    next x st =>
      split at hs
      next hk =>
        cases hs
        exact lv_istore hx hb hd hlL hk rfl (fun ls' hl' => kk ls' H locs (x_L.st1 (v := .int x) hsio hl' hk) hW hS)
      next => cases hs
    next => cases hs
  | lstore_n k =>
    cases hr
    cases (show n = 1 by simpa [x_sw, x_len] using hn)
    simp only [x_step] at hs
    split at hs
    next x st =>
      split at hs
      next hk =>
        cases hs
        exact lv_lstore_n hx hb hd rfl hlL hk rfl (fun ls' hl' => kk ls' H locs (x_L.st2 (v := .long x) hsio hl' hk) hW hS)
      next => cases hs
    next => cases hs
  | lstore k =>
    cases hr
    cases (show n = 2 by simpa [x_sw, x_len] using hn)
    simp only [x_step] at hs
    split at hs
    next x st =>
      split at hs
      next hk =>
        cases hs
        exact lv_lstore hx hb hd hlL hk rfl (fun ls' hl' => kk ls' H locs (x_L.st2 (v := .long x) hsio hl' hk) hW hS)
      next => cases hs
    next => cases hs
  | astore_n k =>
    cases hr
    cases (show n = 1 by simpa [x_sw, x_len] using hn)
    simp only [x_step] at hs
    split at hs
    next q st =>
      split at hs
      next hk =>
        cases hs
        rw [List.map_cons, x_tr_ref hk.2]
        exact lv_astore_n hx hb hd rfl hlL hk.1 rfl (fun ls' hl' => kk ls' H locs (x_L.st1 (v := .ref q) hsio (by rw [x_tr_ref hk.2]; exact hl') hk.1) hW hS)
      next => cases hs
    next => cases hs
  | astore k =>
    cases hr
    cases (show n = 2 by simpa [x_sw, x_len] using hn)
    simp only [x_step] at hs
    split at hs
    next q st =>
      split at hs
      next hk =>
        cases hs
        rw [List.map_cons, x_tr_ref hk.2]
        exact lv_astore hx hb hd hlL hk.1 rfl (fun ls' hl' => kk ls' H locs (x_L.st1 (v := .ref q) hsio (by rw [x_tr_ref hk.2]; exact hl') hk.1) hW hS)
      next => cases hs
    next => cases hs
  | iinc k v =>
    cases hr
    cases (show n = 3 by simpa [x_sw, x_len] using hn)
    simp only [x_step] at hs
    split at hs
    next x hx1 =>
      cases hs
      have hk : k < L.length := (List.getElem?_eq_some_iff.mp hx1).1
      obtain ⟨j, hj⟩ := List.getElem?_of_mem (x_mem_ll (o := o) (sio := sio) (sz := sz) (q := (k, .int x)) |>.mpr ⟨.int x, hx1, by simp, rfl⟩)
      exact lv_iinc hx hb hd hlL hj rfl hk rfl (fun ls' hl' => kk ls' H locs (x_L.st1 (v := .int (x + Int32.ofInt v)) hsio hl' hk) hW hS)
    next => cases hs
  | iadd =>
    cases hr
    cases (show n = 1 by simpa [x_sw, x_len] using hn)
    simp only [x_step] at hs
    obtain ⟨x, z, st, v, rfl, hf, rfl, rfl, rfl, rfl⟩ := x_bi_w hs
    cases hf
    exact lv_iadd hx hb hd (kk ls H locs hL hW hS)
  | isub =>
    cases hr
    cases (show n = 1 by simpa [x_sw, x_len] using hn)
    simp only [x_step] at hs
    obtain ⟨x, z, st, v, rfl, hf, rfl, rfl, rfl, rfl⟩ := x_bi_w hs
    cases hf
    exact lv_isub hx hb hd (kk ls H locs hL hW hS)
  | imul =>
    cases hr
    cases (show n = 1 by simpa [x_sw, x_len] using hn)
    simp only [x_step] at hs
    obtain ⟨x, z, st, v, rfl, hf, rfl, rfl, rfl, rfl⟩ := x_bi_w hs
    cases hf
    exact lv_imul hx hb hd (kk ls H locs hL hW hS)
  | idiv =>
    cases hr
    cases (show n = 1 by simpa [x_sw, x_len] using hn)
    simp only [x_step] at hs
    obtain ⟨x, z, st, v, rfl, hf, rfl, rfl, rfl, rfl⟩ := x_bi_w hs
    split at hf
    next => cases hf
    next hne =>
      cases hf
      exact lv_idiv hx hb hd hne (kk ls H locs hL hW hS)
  | irem =>
    cases hr
    cases (show n = 1 by simpa [x_sw, x_len] using hn)
    simp only [x_step] at hs
    obtain ⟨x, z, st, v, rfl, hf, rfl, rfl, rfl, rfl⟩ := x_bi_w hs
    split at hf
    next => cases hf
    next hne =>
      cases hf
      exact lv_irem hx hb hd hne (kk ls H locs hL hW hS)
  | ineg =>
    cases hr
    cases (show n = 1 by simpa [x_sw, x_len] using hn)
    simp only [x_step] at hs
    obtain ⟨x, st, rfl, rfl, rfl, rfl, rfl⟩ := x_un_w hs
    exact lv_ineg hx hb hd (kk ls H locs hL hW hS)
  | iand =>
    cases hr
    cases (show n = 1 by simpa [x_sw, x_len] using hn)
    simp only [x_step] at hs
    obtain ⟨x, z, st, v, rfl, hf, rfl, rfl, rfl, rfl⟩ := x_bi_w hs
    cases hf
    exact lv_iand hx hb hd (kk ls H locs hL hW hS)
  | ior =>
    cases hr
    cases (show n = 1 by simpa [x_sw, x_len] using hn)
    simp only [x_step] at hs
    obtain ⟨x, z, st, v, rfl, hf, rfl, rfl, rfl, rfl⟩ := x_bi_w hs
    cases hf
    exact lv_ior hx hb hd (kk ls H locs hL hW hS)
  | ixor =>
    cases hr
    cases (show n = 1 by simpa [x_sw, x_len] using hn)
    simp only [x_step] at hs
    obtain ⟨x, z, st, v, rfl, hf, rfl, rfl, rfl, rfl⟩ := x_bi_w hs
    cases hf
    exact lv_ixor hx hb hd (kk ls H locs hL hW hS)
  | ishl =>
    cases hr
    cases (show n = 1 by simpa [x_sw, x_len] using hn)
    simp only [x_step] at hs
    obtain ⟨x, z, st, v, rfl, hf, rfl, rfl, rfl, rfl⟩ := x_bi_w hs
    cases hf
    exact lv_ishl hx hb hd (kk ls H locs hL hW hS)
  | ishr =>
    cases hr
    cases (show n = 1 by simpa [x_sw, x_len] using hn)
    simp only [x_step] at hs
    obtain ⟨x, z, st, v, rfl, hf, rfl, rfl, rfl, rfl⟩ := x_bi_w hs
    cases hf
    exact lv_ishr hx hb hd (kk ls H locs hL hW hS)
  | iushr =>
    cases hr
    cases (show n = 1 by simpa [x_sw, x_len] using hn)
    simp only [x_step] at hs
    obtain ⟨x, z, st, v, rfl, hf, rfl, rfl, rfl, rfl⟩ := x_bi_w hs
    cases hf
    exact lv_iushr hx hb hd rfl (kk ls H locs hL hW hS)
  | i2b =>
    cases hr
    cases (show n = 1 by simpa [x_sw, x_len] using hn)
    simp only [x_step] at hs
    obtain ⟨x, st, rfl, rfl, rfl, rfl, rfl⟩ := x_un_w hs
    exact lv_i2b hx hb hd rfl (kk ls H locs hL hW hS)
  | i2s =>
    cases hr
    cases (show n = 1 by simpa [x_sw, x_len] using hn)
    simp only [x_step] at hs
    obtain ⟨x, st, rfl, rfl, rfl, rfl, rfl⟩ := x_un_w hs
    exact lv_i2s hx hb hd rfl (kk ls H locs hL hW hS)
  | i2c =>
    cases hr
    cases (show n = 1 by simpa [x_sw, x_len] using hn)
    simp only [x_step] at hs
    obtain ⟨x, st, rfl, rfl, rfl, rfl, rfl⟩ := x_un_w hs
    exact lv_i2c hx hb hd rfl (kk ls H locs hL hW hS)
  | ladd =>
    cases hr
    cases (show n = 1 by simpa [x_sw, x_len] using hn)
    simp only [x_step] at hs
    obtain ⟨x, z, st, v, rfl, hf, rfl, rfl, rfl, rfl⟩ := x_bl_w hs
    cases hf
    exact lv_ladd hx hb hd (kk ls H locs hL hW hS)
  | lmul =>
    cases hr
    cases (show n = 1 by simpa [x_sw, x_len] using hn)
    simp only [x_step] at hs
    obtain ⟨x, z, st, v, rfl, hf, rfl, rfl, rfl, rfl⟩ := x_bl_w hs
    cases hf
    exact lv_lmul hx hb hd (kk ls H locs hL hW hS)
  | land =>
    cases hr
    cases (show n = 1 by simpa [x_sw, x_len] using hn)
    simp only [x_step] at hs
    obtain ⟨x, z, st, v, rfl, hf, rfl, rfl, rfl, rfl⟩ := x_bl_w hs
    cases hf
    exact lv_land hx hb hd (kk ls H locs hL hW hS)
  | lor =>
    cases hr
    cases (show n = 1 by simpa [x_sw, x_len] using hn)
    simp only [x_step] at hs
    obtain ⟨x, z, st, v, rfl, hf, rfl, rfl, rfl, rfl⟩ := x_bl_w hs
    cases hf
    exact lv_lor hx hb hd (kk ls H locs hL hW hS)
  | lrem =>
    cases hr
    cases (show n = 1 by simpa [x_sw, x_len] using hn)
    simp only [x_step] at hs
    obtain ⟨x, z, st, v, rfl, hf, rfl, rfl, rfl, rfl⟩ := x_bl_w hs
    split at hf
    next => cases hf
    next hne =>
      cases hf
      exact lv_lrem hx hb hd hne (kk ls H locs hL hW hS)
  | lcmp =>
    cases hr
    cases (show n = 1 by simpa [x_sw, x_len] using hn)
    simp only [x_step] at hs
    split at hs
    next z x st =>
      cases hs
      exact W.lcmp hx hb hd (kk ls H locs hL hW hS)
    next => cases hs
  | lshl =>
    cases hr
    cases (show n = 1 by simpa [x_sw, x_len] using hn)
    simp only [x_step] at hs
    split at hs
    next z x st =>
      cases hs
      exact lv_lshl hx hb hd rfl (kk ls H locs hL hW hS)
    next => cases hs
  | lshr =>
    cases hr
    cases (show n = 1 by simpa [x_sw, x_len] using hn)
    simp only [x_step] at hs
    split at hs
    next z x st =>
      cases hs
      exact lv_lshr hx hb hd rfl (kk ls H locs hL hW hS)
    next => cases hs
  | i2l =>
    cases hr
    cases (show n = 1 by simpa [x_sw, x_len] using hn)
    simp only [x_step] at hs
    split at hs
    next x st =>
      cases hs
      exact lv_i2l hx hb hd rfl (kk ls H locs hL hW hS)
    next => cases hs
  | l2i =>
    cases hr
    cases (show n = 1 by simpa [x_sw, x_len] using hn)
    simp only [x_step] at hs
    split at hs
    next x st =>
      cases hs
      exact lv_l2i hx hb hd rfl (kk ls H locs hL hW hS)
    next => cases hs
  | dup =>
    cases hr
    cases (show n = 1 by simpa [x_sw, x_len] using hn)
    simp only [x_step] at hs
    split at hs
    next v st =>
      split at hs
      next hv =>
        cases hs
        exact lv_dup hx hb hd (by rw [x_tr_cat hsio]; exact hv) (kk ls H locs hL hW hS)
      next => cases hs
    next => cases hs
  | pop =>
    cases hr
    cases (show n = 1 by simpa [x_sw, x_len] using hn)
    simp only [x_step] at hs
    split at hs
    next v st =>
      split at hs
      next hv =>
        cases hs
        exact lv_pop hx hb hd (by rw [x_tr_cat hsio]; exact hv) (kk ls H locs hL hW hS)
      next => cases hs
    next => cases hs
  | dup2 =>
    cases hr
    cases (show n = 1 by simpa [x_sw, x_len] using hn)
    simp only [x_step] at hs
    split at hs
    next v w st =>
      split at hs
      next hv =>
        cases hs
        exact lv_dup2_11 hx hb hd (by rw [x_tr_cat hsio]; exact hv.1) (by rw [x_tr_cat hsio]; exact hv.2) (kk ls H locs hL hW hS)
      next => cases hs
    next => cases hs
  | goto off =>
    cases (show n = 3 by simpa [x_sw, x_len] using hn)
    simp only [x_res] at hr
    split at hr
    next t ht =>
      cases hr
      cases hs
      exact lv_goto hx hb hd (x_to_w ht) (kk ls H locs hL hW hS)
    next => cases hr
  | ifCond q off =>
    cases (show n = 3 by simpa [x_sw, x_len] using hn)
    simp only [x_res] at hr
    split at hr
    next t ht =>
      cases hr
      simp only [x_step] at hs
      split at hs
      next x st =>
        cases hs
        have k := kk ls H locs hL hW hS
        have ht' := x_to_w ht
        cases q with
        | eq => exact lv_if_eq hx hb hd ht' (fun z => by rw [if_pos (by simpa [x_cc] using z)] at k; exact k) (fun z => by rw [if_neg (by simpa [x_cc] using z)] at k; exact k)
        | ne => exact lv_if_ne hx hb hd ht' (fun z => by rw [if_pos (by simpa [x_cc] using z)] at k; exact k) (fun z => by rw [if_neg (by simpa [x_cc] using z)] at k; exact k)
        | lt => exact lv_if_lt hx hb hd ht' (fun z => by rw [if_pos (by simpa only [x_cc, decide_eq_true_eq] using z)] at k; exact k) (fun z => by rw [if_neg (by simpa only [x_cc, decide_eq_true_eq] using z)] at k; exact k)
        | ge => exact lv_if_ge hx hb hd ht' (fun z => by rw [if_pos (by simpa only [x_cc, decide_eq_true_eq] using z)] at k; exact k) (fun z => by rw [if_neg (by simpa only [x_cc, decide_eq_true_eq] using z)] at k; exact k)
        | gt => exact lv_if_gt hx hb hd ht' (fun z => by rw [if_pos (by simpa only [x_cc, decide_eq_true_eq] using z)] at k; exact k) (fun z => by rw [if_neg (by simpa only [x_cc, decide_eq_true_eq] using z)] at k; exact k)
        | le => exact lv_if_le hx hb hd ht' (fun z => by rw [if_pos (by simpa only [x_cc, decide_eq_true_eq] using z)] at k; exact k) (fun z => by rw [if_neg (by simpa only [x_cc, decide_eq_true_eq] using z)] at k; exact k)
      next => cases hs
    next => cases hr
  | if_icmp q off =>
    cases (show n = 3 by simpa [x_sw, x_len] using hn)
    simp only [x_res] at hr
    split at hr
    next t ht =>
      cases hr
      simp only [x_step] at hs
      split at hs
      next x2 x st =>
        cases hs
        have k := kk ls H locs hL hW hS
        have ht' := x_to_w ht
        cases q with
        | eq => exact lv_icmp_eq hx hb hd ht' (fun z => by rw [if_pos (by simpa only [x_cc, decide_eq_true_eq] using z)] at k; exact k) (fun z => by rw [if_neg (by simpa only [x_cc, decide_eq_true_eq] using z)] at k; exact k)
        | ne => exact lv_icmp_ne hx hb hd ht' (fun z => by rw [if_pos (by simpa only [x_cc, decide_eq_true_eq] using z)] at k; exact k) (fun z => by rw [if_neg (by simp only [x_cc, decide_eq_true_eq]; exact not_not_intro z)] at k; exact k)
        | lt => exact lv_icmp_lt hx hb hd ht' (fun z => by rw [if_pos (by simpa only [x_cc, decide_eq_true_eq] using z)] at k; exact k) (fun z => by rw [if_neg (by simpa only [x_cc, decide_eq_true_eq] using z)] at k; exact k)
        | ge => exact lv_icmp_ge hx hb hd ht' (fun z => by rw [if_pos (by simpa only [x_cc, decide_eq_true_eq] using z)] at k; exact k) (fun z => by rw [if_neg (by simpa only [x_cc, decide_eq_true_eq] using z)] at k; exact k)
        | gt => exact lv_icmp_gt hx hb hd ht' (fun z => by rw [if_pos (by simpa only [x_cc, decide_eq_true_eq] using z)] at k; exact k) (fun z => by rw [if_neg (by simpa only [x_cc, decide_eq_true_eq] using z)] at k; exact k)
        | le => exact lv_icmp_le hx hb hd ht' (fun z => by rw [if_pos (by simpa only [x_cc, decide_eq_true_eq] using z)] at k; exact k) (fun z => by rw [if_neg (by simpa only [x_cc, decide_eq_true_eq] using z)] at k; exact k)
      next => cases hs
    next => cases hr
  | tableswitch d lo hi offs =>
    cases hr
    simp only [x_step] at hs
    split at hs
    next x st =>
      split at hs
      next hc =>
        split at hs
        next t ht =>
          cases hs
          exact lv_tableOut hx hb hd hc (x_to_w ht) (kk ls H locs hL hW hS)
        next => cases hs
      next hc =>
        split at hs
        next of hof =>
          split at hs
          next t ht =>
            cases hs
            exact lv_tableIn hx hb hd (fun z => hc (Or.inl z)) (fun z => hc (Or.inr z)) hof (x_to_w ht) (kk ls H locs hL hW hS)
          next => cases hs
        next => cases hs
    next => cases hs
  | lookupswitch d ps =>
    cases hr
    simp only [x_step] at hs
    split at hs
    next x st =>
      split at hs
      next hc =>
        split at hs
        next t ht =>
          cases hs
          exact lv_lookup hx hb hd hc rfl (x_to_w ht) (kk ls H locs hL hW hS)
        next => cases hs
      next => cases hs
    next => cases hs
  | getfield k =>
    cases (show n = 3 by simpa [x_sw, x_len] using hn)
    simp only [x_res] at hr
    split at hr
    next ev hev =>
      cases hr
      have hb8 := x_ft_b hev
      have hw := hts _ (x_ft_w hev)
      simp only [x_step] at hs
      split at hs
      next q st =>
        split at hs
        next ci fs hq =>
          split at hs
          next hci =>
            split at hs
            next v hv =>
              cases hs
              subst hci
              by_cases hq8 : 8 ≤ q
              · obtain ⟨ws, tys, hP, hD, hK, hQ⟩ := hW
                obtain ⟨cv, g1, g2⟩ := hQ.new hq8 hq
                obtain ⟨h7, rfl⟩ := x_obj g2 (by omega)
                rw [List.map_cons, x_tr8 hq8]
                rw [x_fd7 h7] at hw
                have hkN : ev % 32 < x_N (ev / 32) := by
                  rcases hb8 with z | z
                  · omega
                  · exact z.2
                exact va_get (D := D) hx hb hts (x_hin h7) hown hK hP (q - 8) g1 (x_cl7 h7) (ev % 32) hkN hw (fun _ z => z) (v := x_tr o sio sz v) (by rw [List.getElem?_map, hv]; rfl) hd (kk ls H locs hL ⟨ws, tys, hP, hD, hK, hQ⟩ hS)
              · have hW' := hW
                obtain ⟨ws, tys, hP, hD, hK, hQ⟩ := hW'
                have ho := hQ.old (Nat.lt_of_not_le hq8) hq
                have hO3 := hO.2.2.1
                rcases x_lt8 hq8 with rfl | rfl | rfl | rfl | rfl | rfl | rfl | rfl
                · exact absurd (congrArg Prod.fst (Option.some.inj ho)) (by show ¬ (10 : Nat) = _; omega)
                · exact absurd (congrArg Prod.fst (Option.some.inj ho)) (by show ¬ (10 : Nat) = _; omega)
                · exact absurd (congrArg Prod.fst (Option.some.inj ho)) (by show ¬ (10 : Nat) = _; omega)
                · have h1 : 8 = ev / 32 := congrArg Prod.fst (Option.some.inj ho)
                  have h2 : ([.ref 5, .int 0] : List Value) = fs := congrArg Prod.snd (Option.some.inj ho)
                  subst h2
                  rcases (by omega : ev % 32 = 0 ∨ ev % 32 = 1) with h3 | h3
                  · rw [h3] at hv
                    cases hv
                    have hfd : x_fd ev = ("java/lang/String", "value", "[B") := by unfold x_fd; rw [if_pos h1.symm, if_pos h3]
                    rw [hfd] at hw
                    exact vk_getf hx hb (hO3.1 0 (by decide)).2.2.1 hS hown hw (fun _ z => z) hd (kk ls H locs hL hW hS)
                  · rw [h3] at hv
                    cases hv
                    have hfd : x_fd ev = ("java/lang/String", "coder", "B") := by unfold x_fd; rw [if_pos h1.symm, if_neg (by omega)]
                    rw [hfd] at hw
                    exact vk_getf hx hb (hO3.1 0 (by decide)).2.1 hS hown hw (fun _ z => z) hd (kk ls H locs hL hW hS)
                · have h1 : 8 = ev / 32 := congrArg Prod.fst (Option.some.inj ho)
                  have h2 : ([.ref 6, .int 0] : List Value) = fs := congrArg Prod.snd (Option.some.inj ho)
                  subst h2
                  rcases (by omega : ev % 32 = 0 ∨ ev % 32 = 1) with h3 | h3
                  · rw [h3] at hv
                    cases hv
                    have hfd : x_fd ev = ("java/lang/String", "value", "[B") := by unfold x_fd; rw [if_pos h1.symm, if_pos h3]
                    rw [hfd] at hw
                    exact vk_getf hx hb (hO3.1 1 (by decide)).2.2.1 hS hown hw (fun _ z => z) hd (kk ls H locs hL hW hS)
                  · rw [h3] at hv
                    cases hv
                    have hfd : x_fd ev = ("java/lang/String", "coder", "B") := by unfold x_fd; rw [if_pos h1.symm, if_neg (by omega)]
                    rw [hfd] at hw
                    exact vk_getf hx hb (hO3.1 1 (by decide)).2.1 hS hown hw (fun _ z => z) hd (kk ls H locs hL hW hS)
                · exact absurd (congrArg Prod.fst (Option.some.inj ho)) (by show ¬ (14 : Nat) = _; omega)
                · exact absurd (congrArg Prod.fst (Option.some.inj ho)) (by show ¬ (14 : Nat) = _; omega)
                · exact absurd (congrArg Prod.fst (Option.some.inj ho)) (by show ¬ (99 : Nat) = _; omega)
            next => cases hs
          next => cases hs
        next => cases hs
      next => cases hs
    next => cases hr
  | putfield k =>
    cases (show n = 3 by simpa [x_sw, x_len] using hn)
    simp only [x_res] at hr
    split at hr
    next ev hev =>
      have hw := hts _ (x_ft_w hev)
      have hb8 := x_ft_b hev
      split at hr
      next h7 =>
        rw [x_fd7 h7] at hw
        have hkN : ev % 32 < x_N (ev / 32) := by
          rcases hb8 with z | z
          · omega
          · exact z.2
        split at hr
        next hff =>
          split at hr
          next hdc =>
            cases hr
            simp only [x_step] at hs
            split at hs
            next v q st =>
              split at hs
              next ci fs hq =>
                split at hs
                next hc =>
                  cases hs
                  obtain ⟨hin2, rfl, hq8, hkl, hfit⟩ := hc
                  obtain ⟨ws, tys, hP, hD, hK, hQ⟩ := hW
                  obtain ⟨cv, g1, g2⟩ := hQ.new hq8 hq
                  obtain ⟨-, rfl⟩ := x_obj g2 (by omega)
                  have hft := x_fit_tr (o := o) (sio := sio) (sz := sz) hfit
                  rw [List.map_cons, List.map_cons, x_tr8 hq8]
                  rw [x_fd7 h7] at hdc
                  refine va_putF (D := D) hx hb hts (x_hin h7) (x_ty (ev / 32)) (x_hty h7) (x_hnm h7) hown hK hP hD hS (q - 8) g1 (x_cl7 h7) (ev % 32) hkN hw (fun _ z => z) hff (hini (by simpa using hin2)) hdc (x_hty h7 _ hkN) hft.1 hft.2 (by rw [List.length_map]; exact hkl) hd (fun H1 locs1 hP1 hD1 hS1 => ?_)
                  have k1 := kk ls H1 locs1 hL ⟨_, tys, hP1, hD1, hK, hQ.set hq8 (List.getElem?_eq_some_iff.mp hq).1 ⟨rfl, h7, by simp only [List.map_set]⟩⟩ hS1
                  rw [List.length_set, x_sz_set hq List.length_set] at k1
                  exact k1
                next => cases hs
              next => cases hs
            next => cases hs
          next => cases hr
        next hff =>
          cases hr
          simp only [x_step] at hs
          split at hs
          next v q st =>
            split at hs
            next ci fs hq =>
              split at hs
              next hc =>
                cases hs
                obtain ⟨rfl, hq8, hkl, hfit⟩ := hc
                obtain ⟨ws, tys, hP, hD, hK, hQ⟩ := hW
                obtain ⟨cv, g1, g2⟩ := hQ.new hq8 hq
                obtain ⟨-, rfl⟩ := x_obj g2 (by omega)
                have hft := x_fit_tr (o := o) (sio := sio) (sz := sz) hfit
                rw [List.map_cons, List.map_cons, x_tr8 hq8]
                refine va_put (D := D) hx hb hts (x_hin h7) (x_ty (ev / 32)) (x_hty h7) (x_hnm h7) hown hK hP hD hS (q - 8) g1 (x_cl7 h7) (ev % 32) hkN hw (fun _ z => z) (by simpa [x_ff] using hff) (x_hty h7 _ hkN) hft.1 hft.2 (by rw [List.length_map]; exact hkl) hd (fun H1 locs1 hP1 hD1 hS1 => ?_)
                have k1 := kk ls H1 locs1 hL ⟨_, tys, hP1, hD1, hK, hQ.set hq8 (List.getElem?_eq_some_iff.mp hq).1 ⟨rfl, h7, by simp only [List.map_set]⟩⟩ hS1
                rw [List.length_set, x_sz_set hq List.length_set] at k1
                exact k1
              next => cases hs
            next => cases hs
          next => cases hs
      next => cases hr
    next => cases hr
  | getstatic k =>
    cases (show n = 3 by simpa [x_sw, x_len] using hn)
    simp only [x_res] at hr
    split at hr
    next j hj =>
      cases hr
      have hw := hts _ (x_sf_w hj)
      match j, hs, hw with
      | 0, hs, hw =>
        cases hs
        exact va_gets hx hb hO.2.1.1 hS hown hw (fun _ z => z) hd (kk ls H locs hL hW hS)
      | 1, hs, hw =>
        cases hs
        exact va_gets hx hb hO.2.1.2.1 hS hown hw (fun _ z => z) hd (kk ls H locs hL hW hS)
      | 2, hs, hw =>
        cases hs
        exact va_gets hx hb hO.2.1.2.2.1 hS hown hw (fun _ z => z) hd (kk ls H locs hL hW hS)
      | 3, hs, hw =>
        cases hs
        exact va_gets hx hb hO.2.1.2.2.2 hS hown hw (fun _ z => z) hd (kk ls H locs hL hW hS)
      | j + 4, hs, hw => cases hs
    next => cases hr
  | iaload =>
    cases hr
    cases (show n = 1 by simpa [x_sw, x_len] using hn)
    simp only [x_step] at hs
    split at hs
    next ix q st =>
      split at hs
      next ci vs hq =>
        split at hs
        next hc =>
          split at hs
          next v hv =>
            cases hs
            obtain ⟨rfl, h0⟩ := hc
            have hlt : ix.toNatClampNeg < vs.length := (List.getElem?_eq_some_iff.mp hv).1
            have k1 := kk ls H locs hL hW hS
            by_cases hq8 : 8 ≤ q
            · obtain ⟨ws, tys, hP, hD, hK, hQ⟩ := hW
              obtain ⟨cv, g1, g2⟩ := hQ.new hq8 hq
              obtain ⟨cA, f, t0, rfl, ht, hf⟩ := x_arr g2
              rw [List.map_cons, List.map_cons, x_tr8 hq8]
              have e1 := Value.int.inj (hf _ _ hv)
              subst e1
              exact va_iald hx hb hK hP (q - 8) t0 g1 ht (x_in_of h0 hlt) hd k1
            · obtain ⟨ws, tys, hP, hD, hK, hQ⟩ := hW
              have ho := hQ.old (Nat.lt_of_not_le hq8) hq
              rcases x_lt8 hq8 with rfl | rfl | rfl | rfl | rfl | rfl | rfl | rfl
              · have h2 : xs.map Value.int = vs := congrArg Prod.snd (Option.some.inj ho)
                subst h2
                exact va_ti hx hb hO.1.1 hS (x_in_of h0 (by rw [List.length_map] at hlt; exact hlt)) (congrArg Value.int (x_gD hv)) hd k1
              · have h2 : x_sizeB.map Value.int = vs := congrArg Prod.snd (Option.some.inj ho)
                subst h2
                exact va_ti hx hb hO.1.2.1 hS (x_in_of h0 (by rw [List.length_map] at hlt; exact hlt)) (congrArg Value.int (x_gD hv)) hd k1
              · have h2 : x_markB.map Value.int = vs := congrArg Prod.snd (Option.some.inj ho)
                subst h2
                exact va_ti hx hb hO.1.2.2 hS (x_in_of h0 (by rw [List.length_map] at hlt; exact hlt)) (congrArg Value.int (x_gD hv)) hd k1
              · have h2 : (8 : Nat) = 10 := congrArg Prod.fst (Option.some.inj ho)
                omega
              · have h2 : (8 : Nat) = 10 := congrArg Prod.fst (Option.some.inj ho)
                omega
              · have h2 : (14 : Nat) = 10 := congrArg Prod.fst (Option.some.inj ho)
                omega
              · have h2 : (14 : Nat) = 10 := congrArg Prod.fst (Option.some.inj ho)
                omega
              · have h2 : (99 : Nat) = 10 := congrArg Prod.fst (Option.some.inj ho)
                omega
          next => cases hs
        next => cases hs
      next => cases hs
    next => cases hs
  | baload =>
    cases hr
    cases (show n = 1 by simpa [x_sw, x_len] using hn)
    simp only [x_step] at hs
    split at hs
    next ix q st =>
      split at hs
      next ci vs hq =>
        split at hs
        next hc =>
          split at hs
          next v hv =>
            cases hs
            obtain ⟨rfl, h0⟩ := hc
            have hlt : ix.toNatClampNeg < vs.length := (List.getElem?_eq_some_iff.mp hv).1
            have k1 := kk ls H locs hL hW hS
            by_cases hq8 : 8 ≤ q
            · exfalso
              obtain ⟨ws, tys, hP, hD, hK, hQ⟩ := hW
              obtain ⟨cv, g1, g2⟩ := hQ.new hq8 hq
              match cv, g2 with
              | .inr q, ⟨h1, h2, _⟩ =>
                have h1' : 14 = q.1 := h1
                omega
              | .inl (cA, n, .inl f), ⟨h1, _⟩ => exact absurd h1 (by simp)
              | .inl (cA, n, .inr (.inr (.inr (.inr f)))), ⟨h1, _⟩ => rcases h1 with ⟨h1, -⟩ | ⟨h1, -⟩ <;> exact absurd h1 (by simp)
            · obtain ⟨ws, tys, hP, hD, hK, hQ⟩ := hW
              have ho := hQ.old (Nat.lt_of_not_le hq8) hq
              have hO3 := hO.2.2.1
              rcases x_lt8 hq8 with rfl | rfl | rfl | rfl | rfl | rfl | rfl | rfl
              · have h2 : (10 : Nat) = 14 := congrArg Prod.fst (Option.some.inj ho)
                omega
              · have h2 : (10 : Nat) = 14 := congrArg Prod.fst (Option.some.inj ho)
                omega
              · have h2 : (10 : Nat) = 14 := congrArg Prod.fst (Option.some.inj ho)
                omega
              · have h2 : (8 : Nat) = 14 := congrArg Prod.fst (Option.some.inj ho)
                omega
              · have h2 : (8 : Nat) = 14 := congrArg Prod.fst (Option.some.inj ho)
                omega
              · have h2 : x_str0.map Value.int = vs := congrArg Prod.snd (Option.some.inj ho)
                subst h2
                exact va_tb hx hb (hO3.1 0 (by decide)).2.2.2 hS (x_in_of h0 (by rw [List.length_map] at hlt; exact hlt)) (congrArg Value.int (x_gD hv)) hd k1
              · have h2 : x_str1.map Value.int = vs := congrArg Prod.snd (Option.some.inj ho)
                subst h2
                exact va_tb hx hb (hO3.1 1 (by decide)).2.2.2 hS (x_in_of h0 (by rw [List.length_map] at hlt; exact hlt)) (congrArg Value.int (x_gD hv)) hd k1
              · have h2 : (99 : Nat) = 14 := congrArg Prod.fst (Option.some.inj ho)
                omega
          next => cases hs
        next => cases hs
      next => cases hs
    next => cases hs
  | aaload =>
    cases hr
    cases (show n = 1 by simpa [x_sw, x_len] using hn)
    simp only [x_step] at hs
    split at hs
    next ix q st =>
      split at hs
      next ci vs hq =>
        split at hs
        next hc =>
          split at hs
          next q2 hv =>
            split at hs
            next => cases hs
            next hq2 =>
              cases hs
              obtain ⟨hc1, h0⟩ := hc
              have hlt : ix.toNatClampNeg < vs.length := (List.getElem?_eq_some_iff.mp hv).1
              have k1 := kk ls H locs hL hW hS
              obtain ⟨ws, tys, hP, hD, hK, hQ⟩ := hW
              by_cases hq8 : 8 ≤ q
              · obtain ⟨cv, g1, g2⟩ := hQ.new hq8 hq
                obtain ⟨cA, f, t0, rfl, ht, hf⟩ := x_arq g2 hc1
                rw [List.map_cons, List.map_cons, x_tr8 hq8]
                rw [List.map_cons, hf _ _ hv] at k1
                rcases ht with ⟨-, ht⟩ | ⟨-, ht⟩
                · exact va_aldq hx hb hK hP (q - 8) t0 g1 ht (x_in_of h0 hlt) hd k1
                · exact va_aldq hx hb hK hP (q - 8) t0 g1 ht (x_in_of h0 hlt) hd k1
              · exfalso
                have ho := hQ.old (Nat.lt_of_not_le hq8) hq
                rcases x_lt8 hq8 with rfl | rfl | rfl | rfl | rfl | rfl | rfl | rfl
                · have h2 : (10 : Nat) = ci := congrArg Prod.fst (Option.some.inj ho)
                  omega
                · have h2 : (10 : Nat) = ci := congrArg Prod.fst (Option.some.inj ho)
                  omega
                · have h2 : (10 : Nat) = ci := congrArg Prod.fst (Option.some.inj ho)
                  omega
                · have h2 : (8 : Nat) = ci := congrArg Prod.fst (Option.some.inj ho)
                  omega
                · have h2 : (8 : Nat) = ci := congrArg Prod.fst (Option.some.inj ho)
                  omega
                · have h2 : (14 : Nat) = ci := congrArg Prod.fst (Option.some.inj ho)
                  omega
                · have h2 : (14 : Nat) = ci := congrArg Prod.fst (Option.some.inj ho)
                  omega
                · have h2 : (99 : Nat) = ci := congrArg Prod.fst (Option.some.inj ho)
                  omega
          next => cases hs
        next => cases hs
      next => cases hs
    next => cases hs
  | iastore =>
    cases hr
    cases (show n = 1 by simpa [x_sw, x_len] using hn)
    simp only [x_step] at hs
    split at hs
    next v ix q st =>
      split at hs
      next ci vs hq =>
        split at hs
        next hc =>
          cases hs
          obtain ⟨rfl, hq8, h0, hlt⟩ := hc
          obtain ⟨ws, tys, hP, hD, hK, hQ⟩ := hW
          obtain ⟨cv, g1, g2⟩ := hQ.new hq8 hq
          obtain ⟨cA, f, t0, rfl, ht, hf⟩ := x_arr g2
          rw [List.map_cons, List.map_cons, List.map_cons, x_tr8 hq8]
          refine va_iast hx hb hK hP hD hS (q - 8) t0 g1 ht (x_in_of h0 hlt) hd (fun H1 locs1 hP1 hD1 hS1 => ?_)
          have k1 := kk ls H1 locs1 hL ⟨_, tys, hP1, hD1, hK, hQ.set hq8 (List.getElem?_eq_some_iff.mp hq).1 ⟨rfl, ⟨t0, ht⟩, by rw [List.length_set], fun j w hj => ?_⟩⟩ hS1
          · rw [List.length_set, x_sz_set hq List.length_set] at k1
            exact k1
          · by_cases hji : j = ix.toNatClampNeg
            · subst hji
              rw [List.getElem?_set_self hlt] at hj
              cases hj
              show Value.int v = .int (if _ = _ then v else _)
              rw [if_pos rfl]
            · rw [List.getElem?_set_ne (Ne.symm hji)] at hj
              show w = .int (if _ = _ then v else _)
              rw [if_neg hji]
              exact hf _ _ hj
        next => cases hs
      next => cases hs
    next => cases hs
  | aastore =>
    cases hr
    cases (show n = 1 by simpa [x_sw, x_len] using hn)
    simp only [x_step] at hs
    split at hs
    next q2 ix q st =>
      split at hs
      next ci vs hq =>
        split at hs
        next d fs2 hq2 =>
          split at hs
          next hc =>
            cases hs
            obtain ⟨hc1, hq8, hq28, h0, hlt⟩ := hc
            obtain ⟨ws, tys, hP, hD, hK, hQ⟩ := hW
            obtain ⟨cv, g1, g2⟩ := hQ.new hq8 hq
            obtain ⟨cA, f, t0, rfl, ht, hf⟩ := x_arq g2 (by omega)
            obtain ⟨cw, g3, g4⟩ := hQ.new hq28 hq2
            obtain ⟨-, rfl⟩ := x_obj g4 (by omega)
            rw [List.map_cons, List.map_cons, List.map_cons, x_tr8 hq8, x_tr8 hq28]
            have key : ∀ (H1 : Heap) (locs1 : List Loc), va_P D vwCl (ws.set (q - 8) (x_ad o sz q, .inl (cA, vs.length, .inr (.inr (.inr (.inr (va_up f ix.toNatClampNeg (some (x_ad o sz q2)))))))) ) H1 → va_D (x_A sz) (ws.set (q - 8) (x_ad o sz q, .inl (cA, vs.length, .inr (.inr (.inr (.inr (va_up f ix.toNatClampNeg (some (x_ad o sz q2)))))))) ) → va_S (x_A sz) s.heap H1 locs1 → W p l e R s m args below meth c H1 locs1 (h.length - n0) (x_sz h - s0) Q (F0 m (pc + 1) ls (S'.map (x_tr o sio sz))) := by
              intro H1 locs1 hP1 hD1 hS1
              have k1 := kk ls H1 locs1 hL ⟨_, tys, hP1, hD1, hK, hQ.set hq8 (List.getElem?_eq_some_iff.mp hq).1 (c := (ci, vs.set ix.toNatClampNeg (.ref q2))) ⟨?_, by rw [List.length_set], fun j w hj => ?_⟩⟩ hS1
              · rw [List.length_set, x_sz_set hq List.length_set] at k1
                exact k1
              · rcases ht with ⟨ha, hb'⟩ | ⟨ha, hb'⟩
                · exact Or.inl ⟨ha, t0, hb'⟩
                · exact Or.inr ⟨ha, t0, hb'⟩
              · by_cases hji : j = ix.toNatClampNeg
                · subst hji
                  rw [List.getElem?_set_self hlt] at hj
                  cases hj
                  rw [x_tr8 hq28]
                  show _ = va_rf (if _ = _ then some _ else _)
                  rw [if_pos rfl]
                  rfl
                · rw [List.getElem?_set_ne (Ne.symm hji)] at hj
                  show _ = va_rf (if _ = _ then some _ else _)
                  rw [if_neg hji]
                  exact hf _ _ hj
            rcases ht with ⟨ha, ht⟩ | ⟨ha, ht⟩
            · have hd2 : d = 2 := by omega
              subst hd2
              exact va_astq (r := (RX2, TX2, 4)) hx hb hK hP hD hS (q - 8) t0 (q2 - 8) 2 g1 ht g3 rfl (x_in_of h0 hlt) hd key
            · have hd2 : d = 0 := by omega
              subst hd2
              exact va_astq (r := (RX0, TX0, 10)) hx hb hK hP hD hS (q - 8) t0 (q2 - 8) 0 g1 ht g3 rfl (x_in_of h0 hlt) hd key
          next => cases hs
        next => cases hs
      next => cases hs
    next => cases hs
  | arraylength =>
    cases hr
    cases (show n = 1 by simpa [x_sw, x_len] using hn)
    simp only [x_step] at hs
    split at hs
    next q st =>
      split at hs
      next ci vs hq =>
        split at hs
        next hc =>
          cases hs
          have k1 := kk ls H locs hL hW hS
          obtain ⟨ws, tys, hP, hD, hK, hQ⟩ := hW
          by_cases hq8 : 8 ≤ q
          · obtain ⟨cv, g1, g2⟩ := hQ.new hq8 hq
            rw [List.map_cons, x_tr8 hq8]
            match cv, g2 with
            | .inr r, ⟨h1, h2, _⟩ =>
              have h1' : ci = r.1 := h1
              omega
            | .inl (cA, n, .inl f), ⟨_, ⟨t0, ht⟩, h3, _⟩ => exact va_alen hx hb hK hP (q - 8) t0 g1 ht (by rw [h3]) hd k1
            | .inl (cA, n, .inr (.inr (.inr (.inr f)))), ⟨h1, h3, _⟩ =>
              rcases h1 with ⟨-, t0, ht⟩ | ⟨-, t0, ht⟩
              · exact va_alen hx hb hK hP (q - 8) t0 g1 ht (by rw [h3]) hd k1
              · exact va_alen hx hb hK hP (q - 8) t0 g1 ht (by rw [h3]) hd k1
          · have ho := hQ.old (Nat.lt_of_not_le hq8) hq
            have hO3 := hO.2.2.1
            rcases x_lt8 hq8 with rfl | rfl | rfl | rfl | rfl | rfl | rfl | rfl
            · have h2 : xs.map Value.int = vs := congrArg Prod.snd (Option.some.inj ho)
              exact va_tlen hx hb hO.1.1 hS (by rw [← h2, List.length_map]) hd k1
            · have h2 : x_sizeB.map Value.int = vs := congrArg Prod.snd (Option.some.inj ho)
              exact va_tlen hx hb hO.1.2.1 hS (by rw [← h2, List.length_map]; rfl) hd k1
            · have h2 : x_markB.map Value.int = vs := congrArg Prod.snd (Option.some.inj ho)
              exact va_tlen hx hb hO.1.2.2 hS (by rw [← h2, List.length_map]; rfl) hd k1
            · have h2 : 8 = ci := congrArg Prod.fst (Option.some.inj ho)
              omega
            · have h2 : 8 = ci := congrArg Prod.fst (Option.some.inj ho)
              omega
            · have h2 : x_str0.map Value.int = vs := congrArg Prod.snd (Option.some.inj ho)
              exact va_tlen hx hb (hO3.1 0 (by decide)).2.2.2 hS (by rw [← h2, List.length_map]; rfl) hd k1
            · have h2 : x_str1.map Value.int = vs := congrArg Prod.snd (Option.some.inj ho)
              exact va_tlen hx hb (hO3.1 1 (by decide)).2.2.2 hS (by rw [← h2, List.length_map]; rfl) hd k1
            · have h2 : 99 = ci := congrArg Prod.fst (Option.some.inj ho)
              omega
        next => cases hs
      next => cases hs
    next => cases hs
  | new k =>
    cases (show n = 3 by simpa [x_sw, x_len] using hn)
    simp only [x_res] at hr
    split at hr
    next ci hci =>
      cases hr
      obtain ⟨h7, w1, w2, w3⟩ := x_nt_w hci
      simp only [x_step, if_pos h7] at hs
      · cases hs
        obtain ⟨ws, tys, hP, hD, hK, hQ⟩ := hW
        have hdl : (x_def ci).length = x_N ci := by unfold x_def; simp
        rw [List.length_append, List.length_singleton] at hR1
        rw [x_sz_push] at hR2
        have hR2' : x_sz h + x_N ci - s0 ≤ R.slots := by rw [← hdl]; exact hR2
        refine va_new (D := D) (fs := (x_def ci).map (x_tr o sio sz)) hx hb hts (x_hin h7) (x_ty ci) (x_hty h7) hown (hts _ w1) (hts _ w2) (hts _ w3) hK hP hD hS hAA (x_cl7 h7) (fun j hj => ?_) (by omega) (by omega) hd (fun q H1 hP1 hD1 hS1 => ?_)
        · unfold vp_V x_def
          rw [List.map_map, List.getD_eq_getElem?_getD, List.getElem?_map, List.getElem?_range hj]
          show _ = x_tr o sio sz (defaultValue (x_ty ci j))
          cases x_ty ci j <;> rfl
        · refine x_size _ (fun hz => ?_)
          have hl2 := hQ.1
          have hq : q = sz + ws.length := x_fresh hP1 hD1 (fun i r hr => (hQ.2.2 i r hr).1) (by omega)
          have hq2 : q = x_ad o sz h.length := by unfold x_ad; rw [if_neg (by omega)]; omega
          subst hq2
          have hQ1 := hQ.push (t2 := []) (c := (ci, x_def ci)) (e := .inr (ci, (x_def ci).map (x_tr o sio sz))) ⟨rfl, h7, rfl⟩
          rw [List.append_nil] at hQ1
          have k1 := kk ls H1 locs hL ⟨_, tys, hP1, hD1, hK, hQ1⟩ hS1
          rw [List.map_cons, x_tr8 (show 8 ≤ h.length by omega), List.length_append, List.length_singleton, x_sz_push] at k1
          have e1 : h.length + 1 - n0 = h.length - n0 + 1 := by omega
          have e2 : x_sz h + (x_def ci).length - s0 = x_sz h - s0 + x_N ci := by rw [hdl]; omega
          rw [e1] at k1
          have k2 : W p l e R s m args below meth c H1 locs (h.length - n0 + 1) (x_sz h - s0 + x_N ci) Q (F0 m (pc + 3) ls (.ref (x_ad o sz h.length) :: S.map (x_tr o sio sz))) := by rw [← e2]; exact k1
          exact k2
    next => cases hr
  | newarray t =>
    cases (show n = 2 by simpa [x_sw, x_len] using hn)
    cases t with
    | int =>
      cases hr
      simp only [x_step] at hs
      split at hs
      next nn st =>
        split at hs
        next hc =>
          cases hs
          obtain ⟨ws, tys, hP, hD, hK, hQ⟩ := hW
          rw [List.length_append, List.length_singleton] at hR1
          rw [x_sz_push] at hR2
          have hR2' : x_sz h + nn.toNatClampNeg - s0 ≤ R.slots := by simpa using hR2
          have hac : (Jvm.Cond.arrayClass FieldType.int).before args s = true := by
            have h1 := x_ao_ok
            simp only [Bool.and_eq_true] at h1
            exact hts _ (x_at_in h1.2)
          rw [List.map_cons]
          refine va_newa (D := D) (atype := .int) (ty := .int) (a0 := (nn.toNatClampNeg, .inl fun _ => 0)) hx hb hac rfl hK hP hD hS hAA (fun cA => rfl) hc.1 rfl (by show _ * 4 ≤ _; omega) (by omega) (by omega) hd (fun q cA H1 hK1 hP1 hD1 hS1 => ?_)
          refine x_size _ (fun hz => ?_)
          have hl2 := hQ.1
          have hq : q = sz + ws.length := x_fresh hP1 hD1 (fun i r hr => (hQ.2.2 i r hr).1) (by omega)
          have hq2 : q = x_ad o sz h.length := by unfold x_ad; rw [if_neg (by omega)]; omega
          subst hq2
          have hQ1 := hQ.push (t2 := [(cA, FieldType.int)]) (c := (10, List.replicate nn.toNatClampNeg (.int 0))) (e := .inl (cA, nn.toNatClampNeg, .inl fun _ => 0)) ⟨rfl, ⟨tys.length, by rw [List.getElem?_append_right (Nat.le_refl _), Nat.sub_self]; rfl⟩, by simp, fun j v hj => List.eq_of_mem_replicate (List.mem_of_getElem? hj)⟩
          have k1 := kk ls H1 locs hL ⟨_, _, hP1, hD1, hK1, hQ1⟩ hS1
          rw [List.map_cons, x_tr8 (show 8 ≤ h.length by omega), List.length_append, List.length_singleton, x_sz_push] at k1
          have e1 : h.length + 1 - n0 = h.length - n0 + 1 := by omega
          have e2 : x_sz h + (List.replicate nn.toNatClampNeg (Value.int 0)).length - s0 = x_sz h - s0 + nn.toNatClampNeg := by rw [List.length_replicate]; omega
          have k2 : W p l e R s m args below meth c H1 locs (h.length - n0 + 1) (x_sz h - s0 + nn.toNatClampNeg) Q (F0 m (pc + 2) ls (.ref (x_ad o sz h.length) :: st.map (x_tr o sio sz))) := by rw [← e2, ← e1]; exact k1
          exact k2
        next => cases hs
      next => cases hs
    | _ => cases hr
  | anewarray k =>
    cases (show n = 3 by simpa [x_sw, x_len] using hn)
    have key : ∀ (ci : Nat) (C0 : String) (ct : Nat), ((ci = 2 ∧ C0 = RX2 ∧ ct = 11) ∨ (ci = 0 ∧ C0 = RX0 ∧ ct = 12)) → x_new (x_cy y) k = some ci → va_AO C0 s → x_step (x_kd y == 2) (.anewarray ci) pc (pc + 3) L S h = some (pc', L', S', h') → W p l e R s m args below meth c H locs (h.length - n0) (x_sz h - s0) Q (F0 m pc ls (S.map (x_tr o sio sz))) := by
      intro ci C0 ct hci hnew hAO hs
      obtain ⟨h7, w1, w2, w3⟩ := x_nt_w hnew
      have w1' : Jvm.Cond.classLink (x_cn (x_cy y)) k C0 ∈ x_TB := by
        rcases hci with ⟨rfl, rfl, -⟩ | ⟨rfl, rfl, -⟩ <;> exact w1
      simp only [x_step] at hs
      split at hs
      next nn st _ =>
        split at hs
        next hc =>
          cases hs
          have hct : (if ci = 2 then 11 else 12) = ct := by rcases hci with ⟨rfl, -, rfl⟩ | ⟨rfl, -, rfl⟩ <;> rfl
          rw [hct] at kk hR1 hR2
          obtain ⟨ws, tys, hP, hD, hK, hQ⟩ := hW
          rw [List.length_append, List.length_singleton] at hR1
          rw [x_sz_push] at hR2
          have hR2' : x_sz h + nn.toNatClampNeg - s0 ≤ R.slots := by simpa using hR2
          rw [List.map_cons]
          refine va_newq (D := D) hx hb hown (hts _ w1') hAO hK hP hD hS hAA hc.1 rfl (by omega) (by omega) (by omega) hd (fun q cA H1 hK1 hP1 hD1 hS1 => ?_)
          refine x_size _ (fun hz => ?_)
          have hl2 := hQ.1
          have hq : q = sz + ws.length := x_fresh hP1 hD1 (fun i r hr => (hQ.2.2 i r hr).1) (by omega)
          have hq2 : q = x_ad o sz h.length := by unfold x_ad; rw [if_neg (by omega)]; omega
          subst hq2
          have hty : (tys ++ [(cA, FieldType.object C0)])[tys.length]? = some (cA, FieldType.object C0) := by rw [List.getElem?_append_right (Nat.le_refl _), Nat.sub_self]; rfl
          have hQ1 := hQ.push (t2 := [(cA, FieldType.object C0)]) (c := (ct, List.replicate nn.toNatClampNeg .null)) (e := .inl (cA, nn.toNatClampNeg, .inr (.inr (.inr (.inr fun _ => none))))) ⟨by
            rcases hci with ⟨-, rfl, rfl⟩ | ⟨-, rfl, rfl⟩
            · exact Or.inl ⟨rfl, _, hty⟩
            · exact Or.inr ⟨rfl, _, hty⟩, by simp, fun j v hj => by rw [List.eq_of_mem_replicate (List.mem_of_getElem? hj)]; rfl⟩
          have k1 := kk ls H1 locs hL ⟨_, _, hP1, hD1, hK1, hQ1⟩ hS1
          rw [List.map_cons, x_tr8 (show 8 ≤ h.length by omega), List.length_append, List.length_singleton, x_sz_push] at k1
          have e1 : h.length + 1 - n0 = h.length - n0 + 1 := by omega
          have e2 : x_sz h + (List.replicate nn.toNatClampNeg Value.null).length - s0 = x_sz h - s0 + nn.toNatClampNeg := by rw [List.length_replicate]; omega
          have k2 : W p l e R s m args below meth c H1 locs (h.length - n0 + 1) (x_sz h - s0 + nn.toNatClampNeg) Q (F0 m (pc + 3) ls (.ref (x_ad o sz h.length) :: st.map (x_tr o sio sz))) := by rw [← e2, ← e1]; exact k1
          exact k2
        next => cases hs
      next => cases hs
    simp only [x_res] at hr
    split at hr
    next hnew =>
      cases hr
      exact key 2 RX2 11 (Or.inl ⟨rfl, rfl, rfl⟩) hnew hO.2.2.2.2.1 hs
    next hnew =>
      cases hr
      exact key 0 RX0 12 (Or.inr ⟨rfl, rfl, rfl⟩) hnew hO.2.2.2.2.2.1 hs
    next => cases hr
  | invokespecial k =>
    cases (show n = 3 by simpa [x_sw, x_len] using hn)
    simp only [x_res] at hr
    split at hr
    next hoi =>
      cases hr
      simp only [x_step] at hs
      split at hs
      next q st =>
        split at hs
        next hc =>
          cases hs
          have h1 := x_oj_ok
          simp only [Bool.and_eq_true] at h1
          rw [List.map_cons, x_tr_ref hc.1]
          refine W.objInit hx hb hown (hts _ (x_oi_w hoi)) (hts _ (x_at_in h1.1)) (hts _ (x_at_in h1.2)) rfl (by rw [hml, ← hLl]; exact hL.1) rfl hd (by omega) ?_ (kk ls H locs hL hW hS)
          show 2 * 0 + _ + 12 ≤ _
          rw [x_cat_tr hsio]
          omega
        next => cases hs
      next => cases hs
    next =>
      split at hr
      next => cases hr; cases hs
      next => cases hr; cases hs
      next => cases hr
  | invokestatic k =>
    cases (show n = 3 by simpa [x_sw, x_len] using hn)
    simp only [x_res] at hr
    split at hr
    next hac =>
      cases hr
      simp only [x_step] at hs
      split at hs
      next nn dp q sp q0 st =>
        split at hs
        next ci f hq0 =>
          split at hs
          next di g hq =>
            split at hs
            next hc =>
              cases hs
              obtain ⟨rfl, rfl, hq08, hq8, a1, a2, a3, a4, a5, a6⟩ := hc
              obtain ⟨ws, tys, hP, hD, hK, hQ⟩ := hW
              obtain ⟨cv, g1, g2⟩ := hQ.new hq08 hq0
              obtain ⟨cA, f1, t0, rfl, ht0, hf1⟩ := x_arr g2
              obtain ⟨cw, g3, g4⟩ := hQ.new hq8 hq
              obtain ⟨cB, f2, t1, rfl, ht1, hf2⟩ := x_arr g4
              have h1 := x_an_ok
              simp only [Bool.and_eq_true] at h1
              have e1 : nativeFrameWords "java/lang/System" "arraycopy" 5 ≤ 30 := by decide +kernel
              simp only [List.map_cons]
              rw [x_tr8 hq8, x_tr8 hq08]
              refine va_copyi (D := D) (ty := .int) hx hb (by rw [hml, ← hLl]; exact hL.1.symm) hown (hts _ (x_ac_w hac)) (hts _ (x_at_in h1.1.1)) (hts _ (x_at_in h1.1.2)) (hts _ (x_at_in h1.2)) hK hP hD hS (q0 - 8) (q - 8) t0 t1 g1 g3 ht0 ht1 rfl a1 a2 a3 a4 a5 (fun _ _ => rfl) (by omega) (by rw [x_cat_tr hsio]; omega) hd (fun H1 locs1 hP1 hD1 hS1 => ?_)
              have k1 := kk ls H1 locs1 hL ⟨_, tys, hP1, hD1, hK, hQ.set hq8 (List.getElem?_eq_some_iff.mp hq).1 ⟨rfl, ⟨t1, ht1⟩, by rw [x_cpy_len], fun j w hj => ?_⟩⟩ hS1
              · rw [List.length_set, x_sz_set hq (x_cpy_len _ _ _ _ _)] at k1
                exact k1
              · unfold x_cpy at hj
                rw [List.getElem?_map, Option.map_eq_some_iff] at hj
                obtain ⟨j', hj1, hj2⟩ := hj
                have hjl : j < g.length := by simpa using (List.getElem?_eq_some_iff.mp hj1).1
                rw [List.getElem?_range hjl] at hj1
                cases hj1
                subst hj2
                unfold va_cpy
                split
                · have hidx : sp.toNatClampNeg + (j - dp.toNatClampNeg) < f.length := by omega
                  rw [List.getD_eq_getElem?_getD, List.getElem?_eq_getElem hidx]
                  exact hf1 _ _ (List.getElem?_eq_getElem hidx)
                · rw [List.getD_eq_getElem?_getD, List.getElem?_eq_getElem hjl]
                  exact hf2 _ _ (List.getElem?_eq_getElem hjl)
            next => cases hs
          next => cases hs
        next => cases hs
      next => cases hs
    next =>
      split at hr
      next z hz =>
        have hcw := x_call_w hz
        have hma := x_ma_ok
        simp only [Bool.and_eq_true, decide_eq_true_eq] at hma
        split at hr
        next hz2 =>
          cases hr
          simp only [x_step] at hs
          split at hs
          next x st =>
            split at hs
            next hc =>
              cases hs
              rcases hcw.2 with hq | hq
              · exact absurd hq.1 (by decide)
              · have hlink := hq.2.2
                rw [hz2, hma.1.1.1.1.1.1] at hlink
                exact va_mabs hx hb (by rw [hml, ← hLl]; exact hL.1.symm) hown (hts _ hlink) (hts _ (x_at_in hma.1.1.2)) (hts _ (x_at_in hma.2)) (hts _ (x_at_in hma.1.1.1.1.2)) (by omega) (by rw [x_cat_tr hsio]; omega) hR1 hR2 hd (kk ls H locs hL hW hS)
            next => cases hs
          next => cases hs
        next =>
          split at hr
          next hz2 =>
            cases hr
            simp only [x_step] at hs
            split at hs
            next x2 x st =>
              split at hs
              next hc =>
                cases hs
                rcases hcw.2 with hq | hq
                · exact absurd hq.1 (by decide)
                · have hlink := hq.2.2
                  rw [hz2, hma.1.1.1.1.1.2] at hlink
                  exact va_mmax hx hb (by rw [hml, ← hLl]; exact hL.1.symm) hown (hts _ hlink) (hts _ (x_at_in hma.1.2)) (hts _ (x_at_in hma.2)) (hts _ (x_at_in hma.1.1.1.2)) (by omega) (by rw [x_cat_tr hsio]; omega) hR1 hR2 hd (kk ls H locs hL hW hS)
              next => cases hs
            next => cases hs
          next => cases hr; cases hs
      next => cases hr
  | invokevirtual k =>
    simp only [x_res] at hr
    split at hr
    next => cases hr; cases hs
    next => cases hr
  | ireturn => cases hr; cases hs
  | return_ => cases hr; cases hs
  | _ => cases hr
end XST
