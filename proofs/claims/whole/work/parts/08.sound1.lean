/-! ONE STEP IS SOUND -/
def x_Ctx (o : Nat → Nat) (sio : Value) (sz : Nat) (xs : List Int32) (y dR n0 : Nat) (p : Program) (R : Room) (s : State) (m : MethodId) (args : Array Value) (meth : Method) (c : Code) : Prop :=
  p.tables.exec = Jvm.exec ∧ c.code = x_by y ∧ c.maxLocals = x_ml y ∧ s.vm.findClass (x_cn (x_cy y)) = some m.cls ∧ (∀ w ∈ x_TB, w.before args s = true) ∧ x_Old o sio sz xs s s.heap ∧ s.heap.size + 8 = sz + n0 ∧ 8 ≤ n0 ∧ (x_kd y = 2 → meth.name = "<init>") ∧ dR + 1 ≤ R.frames ∧ 60 * dR + 60 ≤ R.locals ∧ meth.locks = false ∧ (sio = .null ∨ ∃ t, sio = .ref t)
section XST
variable {o : Nat → Nat} {sio : Value} {sz : Nat} {xs : List Int32} {D : va_G} {y dR n0 s0 : Nat}
variable {p : Program} {l : Launch} {e : Env} {R : Room} {s : State} {m : MethodId} {args : Array Value} {below : List Frame} {meth : Method} {c : Code} {H : Heap} {locs : List Loc} {cells slots : Nat} {Q : State → Prop}
theorem x_size (g : JFrame) (k : H.size ≤ s.heap.size + cells → W p l e R s m args below meth c H locs cells slots Q g) : W p l e R s m args below meth c H locs cells slots Q g := by
  intro T hT X
  have h1 := X.heapSize
  rw [hT] at h1
  exact k h1 T hT X
theorem x_fresh {ws : va_W} {q : Nat} {ev : va_E} {H1 : Heap} (hP : va_P D vwCl (ws ++ [(q, ev)]) H1) (hD : va_D (x_A sz) (ws ++ [(q, ev)])) (hw : ∀ (i : Nat) (r : Nat × va_E), ws[i]? = some r → r.1 = sz + i) (hz : H1.size ≤ sz + ws.length + 1) : q = sz + ws.length := by
  have hq : (ws ++ [(q, ev)])[ws.length]? = some (q, ev) := by rw [List.getElem?_append_right (Nat.le_refl _), Nat.sub_self]; rfl
  have h1 := (hP _ _ hq).lt
  have h2 : sz ≤ q := hD.2 _ _ hq
  have h1' : q < H1.size := h1
  by_cases hlt : q < sz + ws.length
  · exfalso
    have hi : q - sz < ws.length := by omega
    have h3 := hw (q - sz) ws[q - sz] (List.getElem?_eq_getElem hi)
    have h4 : (ws ++ [(q, ev)])[q - sz]? = some ws[q - sz] := by rw [List.getElem?_append_left hi, List.getElem?_eq_getElem hi]
    have h5 := hD.1 (q - sz) ws.length _ _ h4 hq (by rw [h3]; show sz + (q - sz) = q; omega)
    omega
  · omega
theorem x_arr {tys : List (ClassId × FieldType)} {vs : List Value} {ev : va_E} (h : x_R o sio sz tys (10, vs) ev) : ∃ (cA : ClassId) (f : Nat → Int32) (t0 : Nat), ev = .inl (cA, vs.length, .inl f) ∧ tys[t0]? = some (cA, FieldType.int) ∧ ∀ (j : Nat) (v : Value), vs[j]? = some v → v = .int (f j) := by
  match ev, h with
  | .inr q, ⟨h1, h2, _⟩ => exact absurd (h1 ▸ h2) (by omega)
  | .inl (cA, n, .inl f), ⟨_, ⟨t0, h2⟩, h3, h4⟩ => exact ⟨cA, f, t0, by rw [h3], h2, h4⟩
  | .inl (cA, n, .inr (.inr (.inr (.inr f)))), ⟨h1, _⟩ => rcases h1 with ⟨h1, -⟩ | ⟨h1, -⟩ <;> exact absurd h1 (by simp)
theorem x_obj {tys : List (ClassId × FieldType)} {ci : Nat} {fs : List Value} {ev : va_E} (h : x_R o sio sz tys (ci, fs) ev) (hc : ci < 10) : ci < 7 ∧ ev = .inr (ci, fs.map (x_tr o sio sz)) := by
  match ev, h with
  | .inr q, ⟨h1, h2, h3⟩ =>
    obtain ⟨q1, q2⟩ := q
    cases h1
    cases h3
    exact ⟨h2, rfl⟩
  | .inl (cA, n, .inl f), ⟨h1, _⟩ => exact absurd h1 (by show ¬ ci = 10; omega)
  | .inl (cA, n, .inr (.inr (.inr (.inr f)))), ⟨h1, _⟩ => rcases h1 with ⟨h1, -⟩ | ⟨h1, -⟩ <;> exact absurd h1 (by show ¬ ci = _; omega)
theorem x_arq {tys : List (ClassId × FieldType)} {ct : Nat} {vs : List Value} {ev : va_E} (h : x_R o sio sz tys (ct, vs) ev) (hc : ct = 11 ∨ ct = 12) : ∃ (cA : ClassId) (f : Nat → Option Nat) (t0 : Nat), ev = .inl (cA, vs.length, .inr (.inr (.inr (.inr f)))) ∧ ((ct = 11 ∧ tys[t0]? = some (cA, FieldType.object RX2)) ∨ (ct = 12 ∧ tys[t0]? = some (cA, FieldType.object RX0))) ∧ ∀ (j : Nat) (v : Value), vs[j]? = some v → x_tr o sio sz v = va_rf (f j) := by
  match ev, h with
  | .inr q, ⟨h1, h2, _⟩ =>
    have h1' : ct = q.1 := h1
    exact absurd h2 (by omega)
  | .inl (cA, n, .inl f), ⟨h1, _⟩ =>
    have h1' : ct = 10 := h1
    exact absurd h1' (by omega)
  | .inl (cA, n, .inr (.inr (.inr (.inr f)))), ⟨h1, h2, h3⟩ =>
    rcases h1 with ⟨h1, t0, ht⟩ | ⟨h1, t0, ht⟩
    · exact ⟨cA, f, t0, by rw [h2], Or.inl ⟨h1, ht⟩, h3⟩
    · exact ⟨cA, f, t0, by rw [h2], Or.inr ⟨h1, ht⟩, h3⟩
theorem x_in_of {i : Int32} {n : Nat} (h0 : ¬ i < 0) (h : i.toNatClampNeg < n) : vp_in i n := fun z => z.elim h0 (fun z => by omega)
theorem x_gD {xs : List Int32} {k : Nat} {v : Int32} (h : (xs.map Value.int)[k]? = some (.int v)) : xs.getD k 0 = v := by
  rw [List.getElem?_map, Option.map_eq_some_iff] at h
  obtain ⟨w, h1, h2⟩ := h
  cases h2
  rw [List.getD_eq_getElem?_getD, h1]
  rfl
set_option maxHeartbeats 16000000 in
set_option maxRecDepth 20000 in
theorem x_sound1 {r i : Instr} {n pc pc' : Nat} {L S L' S' : List Value} {h h' : x_H} {ls : Array Slot} (C : x_Ctx o sio sz xs y dR n0 p R s m args meth c)
    (hd : decode (x_by y) pc = .ok (r, n)) (hn : (x_sw r || n == x_len r) = true) (hr : x_res (x_cy y) pc r = some i) (hs : x_step (x_kd y == 2) i pc (pc + n) L S h = some (pc', L', S', h'))
    (hL : x_L o sio sz ls L) (hLl : L.length = x_ml y) (hW : x_W o sio sz xs D h H s) (hS : va_S (x_A sz) s.heap H locs) (hn0 : n0 ≤ h.length) (hs0 : s0 ≤ x_sz h) (hR1 : h'.length - n0 ≤ R.cells) (hR2 : x_sz h' - s0 ≤ R.slots)
    (kk : ∀ (ls' : Array Slot) (H' : Heap) (locs' : List Loc), x_L o sio sz ls' L' → x_W o sio sz xs D h' H' s → va_S (x_A sz) s.heap H' locs' → W p l e R s m args below meth c H' locs' (h'.length - n0) (x_sz h' - s0) Q (F0 m pc' ls' (S'.map (x_tr o sio sz)))) :
    W p l e R s m args below meth c H locs (h.length - n0) (x_sz h - s0) Q (F0 m pc ls (S.map (x_tr o sio sz))) := by
  obtain ⟨hx, hb, hml, hown, hts, hO, hsz, h8, hini, hRf, hRl, hlk, hsio⟩ := C
  have hlL : lv_has ls L.length (x_ll o sio sz L) := hL.has
  have hAA : ∀ q, s.heap.size ≤ q → x_A sz q := fun q hq => by show sz ≤ q; omega
  cases r with
  | iconst v =>
    cases hr
    cases (show n = 1 by simpa [x_sw, x_len] using hn)
    cases hs
    exact lv_iconst hx hb hd rfl (kk ls H locs hL hW hS)
  | bipush v =>
    cases hr
    cases (show n = 2 by simpa [x_sw, x_len] using hn)
    cases hs
    refine lv_bipush hx hb hd rfl ?_
    have := kk ls H locs hL hW hS
    simpa only [Int32.ofInt_toInt] using this
  | sipush v =>
    cases hr
    cases (show n = 3 by simpa [x_sw, x_len] using hn)
    cases hs
    refine lv_sipush hx hb hd rfl ?_
    have := kk ls H locs hL hW hS
    simpa only [Int32.ofInt_toInt] using this
  | ldc k =>
    cases (show n = 2 by simpa [x_sw, x_len] using hn)
    simp only [x_res] at hr
    split at hr
    next v hv =>
      cases hr
      cases hs
      refine lv_ldc hx hb hown (hts _ (x_kt_w hv)) hd ?_
      have := kk ls H locs hL hW hS
      simpa only [Int32.ofInt_toInt] using this
    next =>
      split at hr
      next hc =>
        cases hr
        cases hs
        rw [hc.1] at hown
        rw [hc.2] at hd
        exact va_ldcS hx hb (own := "WindowCards") hown hO.2.2.2.1.1 hd (kk ls H locs hL hW hS)
      next =>
        split at hr
        next hc =>
          cases hr
          cases hs
          rw [hc.1] at hown
          rw [hc.2] at hd
          exact va_ldcS hx hb (own := "WindowCards") hown hO.2.2.2.1.2 hd (kk ls H locs hL hW hS)
        next => cases hr
  | ldc_w k =>
    cases (show n = 3 by simpa [x_sw, x_len] using hn)
    simp only [x_res] at hr
    split at hr
    next v hv =>
      cases hr
      cases hs
      refine lv_ldcw hx hb hown (hts _ (x_kt_w hv)) hd ?_
      have := kk ls H locs hL hW hS
      simpa only [Int32.ofInt_toInt] using this
    next => cases hr
  | lconst k =>
    cases hr
    cases (show n = 1 by simpa [x_sw, x_len] using hn)
    cases hs
    exact lv_lconst hx hb hd rfl (kk ls H locs hL hW hS)
  | ldc2_w k =>
    cases (show n = 3 by simpa [x_sw, x_len] using hn)
    simp only [x_res] at hr
    split at hr
    next v hv =>
      cases hr
      cases hs
      exact lv_ldc2 hx hb hown (hts _ (x_kl_w hv)) hd (kk ls H locs hL hW hS)
    next => cases hr
  | iload_n k =>
    cases hr
    cases (show n = 1 by simpa [x_sw, x_len] using hn)
    simp only [x_step] at hs
    split at hs
    next x hx1 =>
      cases hs
      exact lv_iload_n hx hb hd rfl (hL.2.2 _ _ hx1 (by simp)) (kk ls H locs hL hW hS)
    next => cases hs
  | iload k =>
    cases hr
    cases (show n = 2 by simpa [x_sw, x_len] using hn)
    simp only [x_step] at hs
    split at hs
    next x hx1 =>
      cases hs
      exact lv_iload hx hb hd (hL.2.2 _ _ hx1 (by simp)) (kk ls H locs hL hW hS)
    next => cases hs
  | lload_n k =>
    cases hr
    cases (show n = 1 by simpa [x_sw, x_len] using hn)
    simp only [x_step] at hs
    split at hs
    next x hx1 =>
      cases hs
      exact lv_lload_n hx hb hd rfl (hL.2.2 _ _ hx1 (by simp)) (kk ls H locs hL hW hS)
    next => cases hs
  | lload k =>
    cases hr
    cases (show n = 2 by simpa [x_sw, x_len] using hn)
    simp only [x_step] at hs
    split at hs
    next x hx1 =>
      cases hs
      exact lv_lload hx hb hd (hL.2.2 _ _ hx1 (by simp)) (kk ls H locs hL hW hS)
    next => cases hs
  | aload_n k =>
    cases hr
    cases (show n = 1 by simpa [x_sw, x_len] using hn)
    simp only [x_step] at hs
    split at hs
    next q hx1 =>
      split at hs
      next => cases hs
      next hq =>
        cases hs
        have h1 := hL.2.2 _ _ hx1 (by simp)
        have h2 := kk ls H locs hL hW hS
        rw [List.map_cons] at h2
        rw [x_tr_ref hq] at h1 h2
        exact lv_aload_n hx hb hd rfl h1 h2
    next => cases hs
  | aload k =>
    cases hr
    cases (show n = 2 by simpa [x_sw, x_len] using hn)
    simp only [x_step] at hs
    split at hs
    next q hx1 =>
      split at hs
      next => cases hs
      next hq =>
        cases hs
        have h1 := hL.2.2 _ _ hx1 (by simp)
        have h2 := kk ls H locs hL hW hS
        rw [List.map_cons] at h2
        rw [x_tr_ref hq] at h1 h2
        exact lv_aload hx hb hd h1 h2
    next => cases hs
  | istore_n k =>
    cases hr
    cases (show n = 1 by simpa [x_sw, x_len] using hn)
    simp only [x_step] at hs
    split at hs
    next x st =>
      split at hs
      next hk =>
        cases hs
        exact lv_istore_n hx hb hd rfl hlL hk rfl (fun ls' hl' => kk ls' H locs (x_L.st1 (v := .int x) hsio hl' hk) hW hS)
      next => cases hs
    next => cases hs
  | istore k =>
    cases hr
    cases (show n = 2 by simpa [x_sw, x_len] using hn)
    simp only [x_step] at hs
    split at hs
    next x st =>
      split at hs
      next hk =>
        cases hs
        exact lv_istore hx hb hd hlL hk rfl (fun ls' hl' => kk ls' H locs (x_L.st1 (v := .int x) hsio hl' hk) hW hS)
      next => cases hs
    next => cases hs
  | lstore_n k =>
    cases hr
    cases (show n = 1 by simpa [x_sw, x_len] using hn)
    simp only [x_step] at hs
    split at hs
    next x st =>
      split at hs
      next hk =>
        cases hs
        exact lv_lstore_n hx hb hd rfl hlL hk rfl (fun ls' hl' => kk ls' H locs (x_L.st2 (v := .long x) hsio hl' hk) hW hS)
      next => cases hs
    next => cases hs
  | lstore k =>
    cases hr
    cases (show n = 2 by simpa [x_sw, x_len] using hn)
    simp only [x_step] at hs
    split at hs
    next x st =>
      split at hs
      next hk =>
        cases hs
        exact lv_lstore hx hb hd hlL hk rfl (fun ls' hl' => kk ls' H locs (x_L.st2 (v := .long x) hsio hl' hk) hW hS)
      next => cases hs
    next => cases hs
  | astore_n k =>
    cases hr
    cases (show n = 1 by simpa [x_sw, x_len] using hn)
    simp only [x_step] at hs
    split at hs
    next q st =>
      split at hs
      next hk =>
        cases hs
        rw [List.map_cons, x_tr_ref hk.2]
        exact lv_astore_n hx hb hd rfl hlL hk.1 rfl (fun ls' hl' => kk ls' H locs (x_L.st1 (v := .ref q) hsio (by rw [x_tr_ref hk.2]; exact hl') hk.1) hW hS)
      next => cases hs
    next => cases hs
  | astore k =>
    cases hr
    cases (show n = 2 by simpa [x_sw, x_len] using hn)
    simp only [x_step] at hs
    split at hs
    next q st =>
      split at hs
      next hk =>
        cases hs
        rw [List.map_cons, x_tr_ref hk.2]
        exact lv_astore hx hb hd hlL hk.1 rfl (fun ls' hl' => kk ls' H locs (x_L.st1 (v := .ref q) hsio (by rw [x_tr_ref hk.2]; exact hl') hk.1) hW hS)
      next => cases hs
    next => cases hs
  | iinc k v =>
    cases hr
    cases (show n = 3 by simpa [x_sw, x_len] using hn)
    simp only [x_step] at hs
    split at hs
    next x hx1 =>
      cases hs
      have hk : k < L.length := (List.getElem?_eq_some_iff.mp hx1).1
      obtain ⟨j, hj⟩ := List.getElem?_of_mem (x_mem_ll (o := o) (sio := sio) (sz := sz) (q := (k, .int x)) |>.mpr ⟨.int x, hx1, by simp, rfl⟩)
      exact lv_iinc hx hb hd hlL hj rfl hk rfl (fun ls' hl' => kk ls' H locs (x_L.st1 (v := .int (x + Int32.ofInt v)) hsio hl' hk) hW hS)
    next => cases hs
  | iadd =>
    cases hr
    cases (show n = 1 by simpa [x_sw, x_len] using hn)
    obtain ⟨x, z, st, v, rfl, hf, rfl, rfl, rfl, rfl⟩ := x_bi_w hs
    cases hf
    exact lv_iadd hx hb hd (kk ls H locs hL hW hS)
  | isub =>
    cases hr
    cases (show n = 1 by simpa [x_sw, x_len] using hn)
    obtain ⟨x, z, st, v, rfl, hf, rfl, rfl, rfl, rfl⟩ := x_bi_w hs
    cases hf
    exact lv_isub hx hb hd (kk ls H locs hL hW hS)
  | imul =>
    cases hr
    cases (show n = 1 by simpa [x_sw, x_len] using hn)
    obtain ⟨x, z, st, v, rfl, hf, rfl, rfl, rfl, rfl⟩ := x_bi_w hs
    cases hf
    exact lv_imul hx hb hd (kk ls H locs hL hW hS)
  | idiv =>
    cases hr
    cases (show n = 1 by simpa [x_sw, x_len] using hn)
    obtain ⟨x, z, st, v, rfl, hf, rfl, rfl, rfl, rfl⟩ := x_bi_w hs
    split at hf
    next => cases hf
    next hne =>
      cases hf
      exact lv_idiv hx hb hd hne (kk ls H locs hL hW hS)
  | irem =>
    cases hr
    cases (show n = 1 by simpa [x_sw, x_len] using hn)
    obtain ⟨x, z, st, v, rfl, hf, rfl, rfl, rfl, rfl⟩ := x_bi_w hs
    split at hf
    next => cases hf
    next hne =>
      cases hf
      exact lv_irem hx hb hd hne (kk ls H locs hL hW hS)
  | ineg =>
    cases hr
    cases (show n = 1 by simpa [x_sw, x_len] using hn)
    obtain ⟨x, st, rfl, rfl, rfl, rfl, rfl⟩ := x_un_w hs
    exact lv_ineg hx hb hd (kk ls H locs hL hW hS)
  | iand =>
    cases hr
    cases (show n = 1 by simpa [x_sw, x_len] using hn)
    obtain ⟨x, z, st, v, rfl, hf, rfl, rfl, rfl, rfl⟩ := x_bi_w hs
    cases hf
    exact lv_iand hx hb hd (kk ls H locs hL hW hS)
  | ior =>
    cases hr
    cases (show n = 1 by simpa [x_sw, x_len] using hn)
    obtain ⟨x, z, st, v, rfl, hf, rfl, rfl, rfl, rfl⟩ := x_bi_w hs
    cases hf
    exact lv_ior hx hb hd (kk ls H locs hL hW hS)
  | ixor =>
    cases hr
    cases (show n = 1 by simpa [x_sw, x_len] using hn)
    obtain ⟨x, z, st, v, rfl, hf, rfl, rfl, rfl, rfl⟩ := x_bi_w hs
    cases hf
    exact lv_ixor hx hb hd (kk ls H locs hL hW hS)
  | ishl =>
    cases hr
    cases (show n = 1 by simpa [x_sw, x_len] using hn)
    obtain ⟨x, z, st, v, rfl, hf, rfl, rfl, rfl, rfl⟩ := x_bi_w hs
    cases hf
    exact lv_ishl hx hb hd (kk ls H locs hL hW hS)
  | ishr =>
    cases hr
    cases (show n = 1 by simpa [x_sw, x_len] using hn)
    obtain ⟨x, z, st, v, rfl, hf, rfl, rfl, rfl, rfl⟩ := x_bi_w hs
    cases hf
    exact lv_ishr hx hb hd (kk ls H locs hL hW hS)
  | iushr =>
    cases hr
    cases (show n = 1 by simpa [x_sw, x_len] using hn)
    obtain ⟨x, z, st, v, rfl, hf, rfl, rfl, rfl, rfl⟩ := x_bi_w hs
    cases hf
    exact lv_iushr hx hb hd rfl (kk ls H locs hL hW hS)
  | i2b =>
    cases hr
    cases (show n = 1 by simpa [x_sw, x_len] using hn)
    obtain ⟨x, st, rfl, rfl, rfl, rfl, rfl⟩ := x_un_w hs
    exact lv_i2b hx hb hd rfl (kk ls H locs hL hW hS)
  | i2s =>
    cases hr
    cases (show n = 1 by simpa [x_sw, x_len] using hn)
    obtain ⟨x, st, rfl, rfl, rfl, rfl, rfl⟩ := x_un_w hs
    exact lv_i2s hx hb hd rfl (kk ls H locs hL hW hS)
  | i2c =>
    cases hr
    cases (show n = 1 by simpa [x_sw, x_len] using hn)
    obtain ⟨x, st, rfl, rfl, rfl, rfl, rfl⟩ := x_un_w hs
    exact lv_i2c hx hb hd rfl (kk ls H locs hL hW hS)
  | ladd =>
    cases hr
    cases (show n = 1 by simpa [x_sw, x_len] using hn)
    obtain ⟨x, z, st, v, rfl, hf, rfl, rfl, rfl, rfl⟩ := x_bl_w hs
    cases hf
    exact lv_ladd hx hb hd (kk ls H locs hL hW hS)
  | lmul =>
    cases hr
    cases (show n = 1 by simpa [x_sw, x_len] using hn)
    obtain ⟨x, z, st, v, rfl, hf, rfl, rfl, rfl, rfl⟩ := x_bl_w hs
    cases hf
    exact lv_lmul hx hb hd (kk ls H locs hL hW hS)
  | land =>
    cases hr
    cases (show n = 1 by simpa [x_sw, x_len] using hn)
    obtain ⟨x, z, st, v, rfl, hf, rfl, rfl, rfl, rfl⟩ := x_bl_w hs
    cases hf
    exact lv_land hx hb hd (kk ls H locs hL hW hS)
  | lor =>
    cases hr
    cases (show n = 1 by simpa [x_sw, x_len] using hn)
    obtain ⟨x, z, st, v, rfl, hf, rfl, rfl, rfl, rfl⟩ := x_bl_w hs
    cases hf
    exact lv_lor hx hb hd (kk ls H locs hL hW hS)
  | lrem =>
    cases hr
    cases (show n = 1 by simpa [x_sw, x_len] using hn)
    obtain ⟨x, z, st, v, rfl, hf, rfl, rfl, rfl, rfl⟩ := x_bl_w hs
    split at hf
    next => cases hf
    next hne =>
      cases hf
      exact lv_lrem hx hb hd hne (kk ls H locs hL hW hS)
  | lcmp =>
    cases hr
    cases (show n = 1 by simpa [x_sw, x_len] using hn)
    simp only [x_step] at hs
    split at hs
    next z x st =>
      cases hs
      exact W.lcmp hx hb hd (kk ls H locs hL hW hS)
    next => cases hs
  | lshl =>
    cases hr
    cases (show n = 1 by simpa [x_sw, x_len] using hn)
    simp only [x_step] at hs
    split at hs
    next z x st =>
      cases hs
      exact lv_lshl hx hb hd rfl (kk ls H locs hL hW hS)
    next => cases hs
  | lshr =>
    cases hr
    cases (show n = 1 by simpa [x_sw, x_len] using hn)
    simp only [x_step] at hs
    split at hs
    next z x st =>
      cases hs
      exact lv_lshr hx hb hd rfl (kk ls H locs hL hW hS)
    next => cases hs
  | i2l =>
    cases hr
    cases (show n = 1 by simpa [x_sw, x_len] using hn)
    simp only [x_step] at hs
    split at hs
    next x st =>
      cases hs
      exact lv_i2l hx hb hd rfl (kk ls H locs hL hW hS)
    next => cases hs
  | l2i =>
    cases hr
    cases (show n = 1 by simpa [x_sw, x_len] using hn)
    simp only [x_step] at hs
    split at hs
    next x st =>
      cases hs
      exact lv_l2i hx hb hd rfl (kk ls H locs hL hW hS)
    next => cases hs
  | dup =>
    cases hr
    cases (show n = 1 by simpa [x_sw, x_len] using hn)
    simp only [x_step] at hs
    split at hs
    next v st =>
      split at hs
      next hv =>
        cases hs
        exact lv_dup hx hb hd (by rw [x_tr_cat hsio]; exact hv) (kk ls H locs hL hW hS)
      next => cases hs
    next => cases hs
  | pop =>
    cases hr
    cases (show n = 1 by simpa [x_sw, x_len] using hn)
    simp only [x_step] at hs
    split at hs
    next v st =>
      split at hs
      next hv =>
        cases hs
        exact lv_pop hx hb hd (by rw [x_tr_cat hsio]; exact hv) (kk ls H locs hL hW hS)
      next => cases hs
    next => cases hs
  | dup2 =>
    cases hr
    cases (show n = 1 by simpa [x_sw, x_len] using hn)
    simp only [x_step] at hs
    split at hs
    next v w st =>
      split at hs
      next hv =>
        cases hs
        exact lv_dup2_11 hx hb hd (by rw [x_tr_cat hsio]; exact hv.1) (by rw [x_tr_cat hsio]; exact hv.2) (kk ls H locs hL hW hS)
      next => cases hs
    next => cases hs
  | goto off =>
    cases (show n = 3 by simpa [x_sw, x_len] using hn)
    simp only [x_res] at hr
    split at hr
    next t ht =>
      cases hr
      cases hs
      exact lv_goto hx hb hd (x_to_w ht) (kk ls H locs hL hW hS)
    next => cases hr
  | ifCond q off =>
    cases (show n = 3 by simpa [x_sw, x_len] using hn)
    simp only [x_res] at hr
    split at hr
    next t ht =>
      cases hr
      simp only [x_step] at hs
      split at hs
      next x st =>
        cases hs
        have k := kk ls H locs hL hW hS
        have ht' := x_to_w ht
        cases q with
        | eq => exact lv_if_eq hx hb hd ht' (fun z => by rw [if_pos (by simpa [x_cc] using z)] at k; exact k) (fun z => by rw [if_neg (by simpa [x_cc] using z)] at k; exact k)
        | ne => exact lv_if_ne hx hb hd ht' (fun z => by rw [if_pos (by simpa [x_cc] using z)] at k; exact k) (fun z => by rw [if_neg (by simpa [x_cc] using z)] at k; exact k)
        | lt => exact lv_if_lt hx hb hd ht' (fun z => by rw [if_pos (by simpa only [x_cc, decide_eq_true_eq] using z)] at k; exact k) (fun z => by rw [if_neg (by simpa only [x_cc, decide_eq_true_eq] using z)] at k; exact k)
        | ge => exact lv_if_ge hx hb hd ht' (fun z => by rw [if_pos (by simpa only [x_cc, decide_eq_true_eq] using z)] at k; exact k) (fun z => by rw [if_neg (by simpa only [x_cc, decide_eq_true_eq] using z)] at k; exact k)
        | gt => exact lv_if_gt hx hb hd ht' (fun z => by rw [if_pos (by simpa only [x_cc, decide_eq_true_eq] using z)] at k; exact k) (fun z => by rw [if_neg (by simpa only [x_cc, decide_eq_true_eq] using z)] at k; exact k)
        | le => exact lv_if_le hx hb hd ht' (fun z => by rw [if_pos (by simpa only [x_cc, decide_eq_true_eq] using z)] at k; exact k) (fun z => by rw [if_neg (by simpa only [x_cc, decide_eq_true_eq] using z)] at k; exact k)
      next => cases hs
    next => cases hr
  | if_icmp q off =>
    cases (show n = 3 by simpa [x_sw, x_len] using hn)
    simp only [x_res] at hr
    split at hr
    next t ht =>
      cases hr
      simp only [x_step] at hs
      split at hs
      next x2 x st =>
        cases hs
        have k := kk ls H locs hL hW hS
        have ht' := x_to_w ht
        cases q with
        | eq => exact lv_icmp_eq hx hb hd ht' (fun z => by rw [if_pos (by simpa only [x_cc, decide_eq_true_eq] using z)] at k; exact k) (fun z => by rw [if_neg (by simpa only [x_cc, decide_eq_true_eq] using z)] at k; exact k)
        | ne => exact lv_icmp_ne hx hb hd ht' (fun z => by rw [if_pos (by simpa only [x_cc, decide_eq_true_eq] using z)] at k; exact k) (fun z => by rw [if_neg (by simp only [x_cc, decide_eq_true_eq]; exact not_not_intro z)] at k; exact k)
        | lt => exact lv_icmp_lt hx hb hd ht' (fun z => by rw [if_pos (by simpa only [x_cc, decide_eq_true_eq] using z)] at k; exact k) (fun z => by rw [if_neg (by simpa only [x_cc, decide_eq_true_eq] using z)] at k; exact k)
        | ge => exact lv_icmp_ge hx hb hd ht' (fun z => by rw [if_pos (by simpa only [x_cc, decide_eq_true_eq] using z)] at k; exact k) (fun z => by rw [if_neg (by simpa only [x_cc, decide_eq_true_eq] using z)] at k; exact k)
        | gt => exact lv_icmp_gt hx hb hd ht' (fun z => by rw [if_pos (by simpa only [x_cc, decide_eq_true_eq] using z)] at k; exact k) (fun z => by rw [if_neg (by simpa only [x_cc, decide_eq_true_eq] using z)] at k; exact k)
        | le => exact lv_icmp_le hx hb hd ht' (fun z => by rw [if_pos (by simpa only [x_cc, decide_eq_true_eq] using z)] at k; exact k) (fun z => by rw [if_neg (by simpa only [x_cc, decide_eq_true_eq] using z)] at k; exact k)
      next => cases hs
    next => cases hr
  | tableswitch d lo hi offs =>
    cases hr
    simp only [x_step] at hs
    split at hs
    next x st =>
      split at hs
      next hc =>
        split at hs
        next t ht =>
          cases hs
          exact lv_tableOut hx hb hd hc (x_to_w ht) (kk ls H locs hL hW hS)
        next => cases hs
      next hc =>
        split at hs
        next of hof =>
          split at hs
          next t ht =>
            cases hs
            exact lv_tableIn hx hb hd (fun z => hc (Or.inl z)) (fun z => hc (Or.inr z)) hof (x_to_w ht) (kk ls H locs hL hW hS)
          next => cases hs
        next => cases hs
    next => cases hs
  | lookupswitch d ps =>
    cases hr
    simp only [x_step] at hs
    split at hs
    next x st =>
      split at hs
      next hc =>
        split at hs
        next t ht =>
          cases hs
          exact lv_lookup hx hb hd hc rfl (x_to_w ht) (kk ls H locs hL hW hS)
        next => cases hs
      next => cases hs
    next => cases hs
  | getfield k =>
    cases (show n = 3 by simpa [x_sw, x_len] using hn)
    simp only [x_res] at hr
    split at hr
    next ev hev =>
      cases hr
      have hb8 := x_ft_b hev
      have hw := hts _ (x_ft_w hev)
      simp only [x_step] at hs
      split at hs
      next q st =>
        split at hs
        next ci fs hq =>
          split at hs
          next hci =>
            split at hs
            next v hv =>
              cases hs
              subst hci
              by_cases hq8 : 8 ≤ q
              · obtain ⟨ws, tys, hP, hD, hK, hQ⟩ := hW
                obtain ⟨cv, g1, g2⟩ := hQ.new hq8 hq
                obtain ⟨h7, rfl⟩ := x_obj g2 (by omega)
                rw [List.map_cons, x_tr_ref (by omega)]
                rw [x_fd7 h7] at hw
                have hkN : ev % 32 < x_N (ev / 32) := by
                  rcases hb8 with z | z
                  · omega
                  · exact z.2
                exact va_get (D := D) hx hb hts (x_hin h7) hown hK hP (q - 8) g1 (x_cl7 h7) (ev % 32) hkN hw (fun _ z => z) (v := x_tr o sio sz v) (by rw [List.getElem?_map, hv]; rfl) hd (kk ls H locs hL ⟨ws, tys, hP, hD, hK, hQ⟩ hS)
              · have hW' := hW
                obtain ⟨ws, tys, hP, hD, hK, hQ⟩ := hW'
                have ho := hQ.old (by omega) hq
                have hO3 := hO.2.2.1
                rcases (by omega : q = 0 ∨ q = 1 ∨ q = 2 ∨ q = 3 ∨ q = 4 ∨ q = 5 ∨ q = 6 ∨ q = 7) with rfl | rfl | rfl | rfl | rfl | rfl | rfl | rfl
                · exact absurd (congrArg Prod.fst (Option.some.inj ho)) (by show ¬ (10 : Nat) = _; omega)
                · exact absurd (congrArg Prod.fst (Option.some.inj ho)) (by show ¬ (10 : Nat) = _; omega)
                · exact absurd (congrArg Prod.fst (Option.some.inj ho)) (by show ¬ (10 : Nat) = _; omega)
                · have h1 : 8 = ev / 32 := congrArg Prod.fst (Option.some.inj ho)
                  have h2 : ([.ref 5, .int 0] : List Value) = fs := congrArg Prod.snd (Option.some.inj ho)
                  subst h2
                  rcases (by omega : ev % 32 = 0 ∨ ev % 32 = 1) with h3 | h3
                  · rw [h3] at hv
                    cases hv
                    have hfd : x_fd ev = ("java/lang/String", "value", "[B") := by unfold x_fd; rw [if_pos h1.symm, if_pos h3]
                    rw [hfd] at hw
                    exact vk_getf hx hb (hO3.1 0 (by decide)).2.2.1 hS hown hw (fun _ z => z) hd (kk ls H locs hL hW hS)
                  · rw [h3] at hv
                    cases hv
                    have hfd : x_fd ev = ("java/lang/String", "coder", "B") := by unfold x_fd; rw [if_pos h1.symm, if_neg (by omega)]
                    rw [hfd] at hw
                    exact vk_getf hx hb (hO3.1 0 (by decide)).2.1 hS hown hw (fun _ z => z) hd (kk ls H locs hL hW hS)
                · have h1 : 8 = ev / 32 := congrArg Prod.fst (Option.some.inj ho)
                  have h2 : ([.ref 6, .int 0] : List Value) = fs := congrArg Prod.snd (Option.some.inj ho)
                  subst h2
                  rcases (by omega : ev % 32 = 0 ∨ ev % 32 = 1) with h3 | h3
                  · rw [h3] at hv
                    cases hv
                    have hfd : x_fd ev = ("java/lang/String", "value", "[B") := by unfold x_fd; rw [if_pos h1.symm, if_pos h3]
                    rw [hfd] at hw
                    exact vk_getf hx hb (hO3.1 1 (by decide)).2.2.1 hS hown hw (fun _ z => z) hd (kk ls H locs hL hW hS)
                  · rw [h3] at hv
                    cases hv
                    have hfd : x_fd ev = ("java/lang/String", "coder", "B") := by unfold x_fd; rw [if_pos h1.symm, if_neg (by omega)]
                    rw [hfd] at hw
                    exact vk_getf hx hb (hO3.1 1 (by decide)).2.1 hS hown hw (fun _ z => z) hd (kk ls H locs hL hW hS)
                · exact absurd (congrArg Prod.fst (Option.some.inj ho)) (by show ¬ (14 : Nat) = _; omega)
                · exact absurd (congrArg Prod.fst (Option.some.inj ho)) (by show ¬ (14 : Nat) = _; omega)
                · exact absurd (congrArg Prod.fst (Option.some.inj ho)) (by show ¬ (99 : Nat) = _; omega)
            next => cases hs
          next => cases hs
        next => cases hs
      next => cases hs
    next => cases hr
  | _ => sorry
end XST
