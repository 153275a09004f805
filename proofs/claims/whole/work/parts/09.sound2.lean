/-! A RUN IS SOUND -/
theorem x_mo {z : Nat} (hz : x_mok z = true) : (Jvm.Cond.code (x_nm z) (x_by z) (x_ml z) (x_rt z) ∈ x_TB ∧ (if x_kd z = 0 then Jvm.Cond.static (x_nm z) else Jvm.Cond.instanceMethod (x_nm z)) ∈ x_TB ∧ (x_kd z = 1 → Jvm.Cond.selects (x_cn (x_cy z)) (x_nm z) (x_nm z) ∈ x_TB) ∧ Jvm.Cond.initialized (x_nm z).cls ∈ x_TB) ∧ plainName (x_nm z).cls = true ∧ ((x_nm z).cls ≠ "java/lang/invoke/MethodHandle" ∧ (x_nm z).cls ≠ "java/lang/invoke/VarHandle") ∧ (parseMethodDescriptor (x_nm z).desc).map (fun d => d.parameters.length + (if x_kd z = 0 then 0 else 1)) = some (x_na z) ∧ (x_nm z).cls = x_cn (x_cy z) ∧ x_ml z ≤ 41 ∧ (x_kd z = 2 → (x_nm z).name = "<init>" ∧ x_rt z = none) := by
  unfold x_mok at hz
  simp only [Bool.and_eq_true, decide_eq_true_eq, Bool.or_eq_true] at hz
  obtain ⟨⟨⟨⟨⟨⟨⟨⟨⟨⟨a1, a2⟩, a3⟩, a4⟩, a5⟩, a6⟩, a7⟩, a8⟩, a9⟩, a10⟩, a11⟩ := hz
  exact ⟨⟨x_at_in a1, x_at_in a2, fun h => a3.elim (fun z => absurd h z) (fun z => x_at_in z), x_at_in a4⟩, a5, ⟨a6, a7⟩, a8, a9, a10, fun h => a11.elim (fun z => absurd h z) id⟩
theorem x_fe_w {y pc nx : Nat} {i : Instr} (h : x_fe y pc = some (i, nx)) : ∃ r n, decode (x_by y) pc = .ok (r, n) ∧ (x_sw r || n == x_len r) = true ∧ x_res (x_cy y) pc r = some i ∧ nx = pc + n := by
  unfold x_fe at h
  split at h
  next r n hd =>
    split at h
    next hn =>
      split at h
      next j hj =>
        cases h
        exact ⟨r, n, hd, hn, hj, rfl⟩
      next => cases h
    next => cases h
  next => cases h
/-- the end of a run -/
def x_fin (r : Option Value) (y pc : Nat) (WW : List Value → Prop) : Prop :=
  (∀ v : Int32, r = some (.int v) → decode (x_by y) pc = .ok (.ireturn, 1) → (∃ ty, x_rt y = some ty ∧ narrow ty (.int v) = .int v) → WW [.int v]) ∧ (r = none → decode (x_by y) pc = .ok (.return_, 1) → x_rt y = none → WW [])
theorem x_run_succ (n d y pc : Nat) (L S : List Value) (h : x_H) : x_run (n + 1) d y pc L S h = (match x_fe y pc with
    | none => none
    | some (i, nx) => match x_cal i with
      | some z => match d with
        | 0 => none
        | d' + 1 => if x_okc i z S h = true then (match x_run n d' z 0 (x_loc (x_ml z) (S.take (x_na z)).reverse) [] h with
          | some (r, h') => x_run n (d' + 1) y nx L (r.toList ++ S.drop (x_na z)) h'
          | none => none) else none
      | none => match i, S with
        | .ireturn, [.int v] => (match x_rt y with
          | some ty => if narrow ty (.int v) = .int v then some (some (.int v), h) else none
          | none => none)
        | .return_, [] => (match x_rt y with
          | some _ => none
          | none => some (none, h))
        | i, S => match x_step (x_kd y == 2) i pc nx L S h with
          | some (pc', L', S', h') => x_run n d y pc' L' S' h'
          | none => none) := rfl
/-- a run's first step: a call, an end, or a step -/
theorem x_run_w {n d y pc : Nat} {L S : List Value} {h hf : x_H} {r : Option Value} (hr : x_run (n + 1) d y pc L S h = some (r, hf)) : ∃ i nx, x_fe y pc = some (i, nx) ∧
    ((∃ z d' r1 h1, x_cal i = some z ∧ d = d' + 1 ∧ x_okc i z S h = true ∧ x_run n d' z 0 (x_loc (x_ml z) (S.take (x_na z)).reverse) [] h = some (r1, h1) ∧ x_run n d y nx L (r1.toList ++ S.drop (x_na z)) h1 = some (r, hf)) ∨
     (∃ v ty, i = .ireturn ∧ S = [.int v] ∧ x_rt y = some ty ∧ narrow ty (.int v) = .int v ∧ r = some (.int v) ∧ hf = h) ∨
     (i = .return_ ∧ S = [] ∧ x_rt y = none ∧ r = none ∧ hf = h) ∨
     (∃ pc' L' S' h', x_cal i = none ∧ x_step (x_kd y == 2) i pc nx L S h = some (pc', L', S', h') ∧ x_run n d y pc' L' S' h' = some (r, hf))) := by
  rw [x_run_succ] at hr
  split at hr
  next => cases hr
  next i nx hfe =>
    refine ⟨i, nx, hfe, ?_⟩
    split at hr
    next z hz =>
      split at hr
      next => cases hr
      next d' =>
        split at hr
        next hok =>
          split at hr
          next r1 h1 hrun => exact Or.inl ⟨z, d', r1, h1, hz, rfl, hok, hrun, hr⟩
          next => cases hr
        next => cases hr
    next hz =>
      split at hr
      next v =>
        split at hr
        next ty hty =>
          split at hr
          next hnr =>
            cases hr
            exact Or.inr (Or.inl ⟨v, ty, rfl, rfl, hty, hnr, rfl, rfl⟩)
          next => cases hr
        next => cases hr
      next =>
        split at hr
        next => cases hr
        next hty =>
          cases hr
          exact Or.inr (Or.inr (Or.inl ⟨rfl, rfl, hty, rfl, rfl⟩))
      next =>
        split at hr
        next pc' L' S' h' hs => exact Or.inr (Or.inr (Or.inr ⟨pc', L', S', h', hz, hs, hr⟩))
        next => cases hr
theorem x_run_mono : ∀ (n d y pc : Nat) (L S : List Value) (h hf : x_H) (r : Option Value), x_run n d y pc L S h = some (r, hf) → h.length ≤ hf.length ∧ x_sz h ≤ x_sz hf := by
  intro n
  induction n with
  | zero => intro d y pc L S h hf r hr; cases hr
  | succ n ih =>
    intro d y pc L S h hf r hr
    obtain ⟨i, nx, hfe, h1 | h1 | h1 | h1⟩ := x_run_w hr
    · obtain ⟨z, d', r1, h1, -, -, -, g1, g2⟩ := h1
      have a1 := ih _ _ _ _ _ _ _ _ g1
      have a2 := ih _ _ _ _ _ _ _ _ g2
      omega
    · obtain ⟨v, ty, -, -, -, -, -, rfl⟩ := h1
      exact ⟨Nat.le_refl _, Nat.le_refl _⟩
    · obtain ⟨-, -, -, -, rfl⟩ := h1
      exact ⟨Nat.le_refl _, Nat.le_refl _⟩
    · obtain ⟨pc', L', S', h', -, g1, g2⟩ := h1
      have a1 := (x_step_mono g1).1
      have a2 := ih _ _ _ _ _ _ _ _ g2
      omega
section XRN
variable {o : Nat → Nat} {sio : Value} {sz : Nat} {xs : List Int32} {D : va_G}
/-- that the n-th fuel's runs are sound -/
def x_Snd (o : Nat → Nat) (sio : Value) (sz : Nat) (xs : List Int32) (D : va_G) (n : Nat) : Prop :=
  ∀ (d y pc : Nat) (L S : List Value) (h hf : x_H) (r : Option Value), x_run n d y pc L S h = some (r, hf) →
  ∀ (n0 s0 : Nat) (p : Program) (l : Launch) (e : Env) (R : Room) (s : State) (m : MethodId) (args : Array Value) (below : List Frame) (meth : Method) (c : Code) (H : Heap) (locs : List Loc) (Q : State → Prop) (ls : Array Slot),
  x_Ctx o sio sz xs y d n0 p R s m args meth c → x_L o sio sz ls L → L.length = x_ml y → x_W o sio sz xs D h H s → va_S (x_A sz) s.heap H locs → n0 ≤ h.length → s0 ≤ x_sz h → hf.length - n0 ≤ R.cells → x_sz hf - s0 ≤ R.slots →
  (∀ (ls' : Array Slot) (H' : Heap) (locs' : List Loc) (pc' : Nat), x_W o sio sz xs D hf H' s → va_S (x_A sz) s.heap H' locs' → x_fin r y pc' (fun st => W p l e R s m args below meth c H' locs' (hf.length - n0) (x_sz hf - s0) Q (F0 m pc' ls' st))) →
  W p l e R s m args below meth c H locs (h.length - n0) (x_sz h - s0) Q (F0 m pc ls (S.map (x_tr o sio sz)))
def x_Pc (o : Nat → Nat) (sio : Value) (sz : Nat) (xs : List Int32) (D : va_G) (vs : List Value) (h : x_H) : Array Value → State → Prop := va_Pc (vs.map (x_tr o sio sz)) (fun U => x_W o sio sz xs D h U.heap U ∧ x_Old o sio sz xs U U.heap ∧ U.heap.size + 8 = sz + h.length)
theorem x_Pc_blind {vs : List Value} {h : x_H} : FrameBlind (x_Pc o sio sz xs D vs h) := fun a U g mk q => ⟨q.1, q.2.1.moved (u := U) (U := U.calling g mk a) (Vm.Alike.refl U.vm), q.2.2.1.same (u := U) (U := U.calling g mk a) rfl, q.2.2.2⟩
def x_Qi (o : Nat → Nat) (sio : Value) (sz : Nat) (xs : List Int32) (D : va_G) (v : Int32) (h : x_H) : Array Value → State → Outcome → State → Prop := va_Qi (fun (r : Int32) (_ : Unit) => r = v) (fun _ t => x_W o sio sz xs D h t.heap t) (x_A sz)
def x_Qv (o : Nat → Nat) (sio : Value) (sz : Nat) (xs : List Int32) (D : va_G) (h : x_H) : Array Value → State → Outcome → State → Prop := va_Qv (fun _ : Unit => True) (fun _ t => x_W o sio sz xs D h t.heap t) (x_A sz)
abbrev x_rm (d mc ms : Nat) : Room := { frames := d + 1, cells := mc, slots := ms, locals := 60 * d + 60 }
abbrev x_ws (z : Nat) : List Jvm.Cond := Jvm.Cond.code (x_nm z) (x_by z) (x_ml z) (x_rt z) :: x_TB
theorem x_ws_good {z : Nat} (hz : x_mok z = true) : GoodIn x_TB (x_ws z) := by
  intro w hw
  rcases List.mem_cons.mp hw with rfl | hw
  · exact x_TB_good _ (x_mo hz).1.1
  · exact x_TB_good _ hw
set_option maxHeartbeats 2000000 in
/-- a run of a method from its entry, as a contract -/
theorem x_met {n : Nat} (ih : x_Snd o sio sz xs D n) (hsio : sio = .null ∨ ∃ t, sio = .ref t) (l : Launch) {d z : Nat} {vs : List Value} {h h1 : x_H} {r : Option Value} (hz : x_mok z = true) (h8 : 8 ≤ h.length) (hvs : (x_ent vs).length ≤ x_ml z) (hr : x_run n d z 0 (x_loc (x_ml z) vs) [] h = some (r, h1))
    {Qc : Array Value → State → Outcome → State → Prop} (hQi : ∀ v : Int32, r = some (.int v) → Qc = x_Qi o sio sz xs D v h1) (hQv : r = none → Qc = x_Qv o sio sz xs D h1) :
    Met l (x_nm z) (x_ws z) (x_rm d (h1.length - h.length) (x_sz h1 - x_sz h)) (x_Pc o sio sz xs D vs h) Qc (h1.length - h.length) (x_sz h1 - x_sz h) (x_A sz) := by
  refine Met.ofW (cc := x_by z) (maxL := x_ml z) (ret := x_rt z) (x_mo hz).2.1 rfl ?_
  intro p e s m args below meth c s₁ B hml hv
  obtain ⟨rfl, hW, hO, hsz⟩ := hv
  have hts0 := atoms_spec (ws := x_ws z) B.pre
  have hts : ∀ w ∈ x_TB, w.before (vs.map (x_tr o sio sz)).toArray s = true := fun w hw => hts0 w (List.mem_cons_of_mem _ hw)
  have hown : s.vm.findClass (x_cn (x_cy z)) = some m.cls := (x_mo hz).2.2.2.2.1 ▸ findClass_of_methodNamed B.named
  have hnm : meth.name = (x_nm z).name := (name_of_methodNamed B.named B.method).1
  have hC : x_Ctx o sio sz xs z d h.length p (x_rm d (h1.length - h.length) (x_sz h1 - x_sz h)) s m (vs.map (x_tr o sio sz)).toArray meth c := ⟨B.exec, B.bytes, hml, hown, hts, hO, hsz, h8, fun hk => by rw [hnm]; exact ((x_mo hz).2.2.2.2.2.2 hk).1, Nat.le_refl _, Nat.le_refl _, B.notSynchronized, hsio⟩
  have hlen : (x_loc (x_ml z) vs).length = x_ml z := by unfold x_loc; simp; omega
  rw [lg_entry_eq]
  have k := ih d z 0 (x_loc (x_ml z) vs) [] h h1 r hr h.length (x_sz h) p l e (x_rm d (h1.length - h.length) (x_sz h1 - x_sz h)) s m (vs.map (x_tr o sio sz)).toArray below meth c s.heap [] (MQ below Qc (vs.map (x_tr o sio sz)).toArray s (h1.length - h.length) (x_sz h1 - x_sz h) (x_A sz)) _ hC (x_L.entry hsio hvs) hlen hW va_S.rf (Nat.le_refl _) (Nat.le_refl _) (Nat.le_refl _) (Nat.le_refl _) ?_
  · rw [Nat.sub_self, Nat.sub_self] at k
    exact k
  · intro ls' H' locs' pc' hW' hS'
    refine ⟨fun v hv hd ⟨ty, hty, hnr⟩ => ?_, fun hv hd hty => ?_⟩
    · have hq := hQi v hv
      subst hq
      exact W.zret B.exec B.bytes (by rw [B.returns]; exact hty) hnr (fun t ht hWm => ⟨⟨v, (), rfl, rfl, by subst ht; exact hW'.moved hWm.alike⟩, hS'.F ht⟩) hS'.2.2 hd B.notSynchronized
    · have hq := hQv hv
      subst hq
      exact W.vret B.exec B.bytes (by rw [B.returns]; exact hty) (fun t ht hWm => ⟨⟨(), rfl, trivial, by subst ht; exact hW'.moved hWm.alike⟩, hS'.F ht⟩) hS'.2.2 hd B.notSynchronized
theorem x_take_rev {S : List Value} {k : Nat} {w : Value} (h : S[k]? = some w) : ∃ vs, (S.take (k + 1)).reverse = w :: vs := by
  refine ⟨(S.take k).reverse, ?_⟩
  rw [List.take_succ, h]
  simp
end XRN
