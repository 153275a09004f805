section XSD
variable {o : Nat → Nat} {sio : Value} {sz : Nat} {xs : List Int32} {D : va_G}
/-- who stands where a virtual call asks: a cell of that class -/
theorem x_recv {h : x_H} {H : Heap} {s : State} {locs : List Loc} {q ci : Nat} {fs : List Value} (hW : x_W o sio sz xs D h H s) (hO : x_Old o sio sz xs s s.heap) (hS : va_S (x_A sz) s.heap H locs) (hq : h[q]? = some (ci, fs)) (hc : ci < 7 ∨ ci = 8) : ∃ cell : Cell, H[x_ad o sz q]? = some cell ∧ cell.vm.isStatics = false ∧ s.vm.findClass (x_cn ci) = some cell.cls := by
  obtain ⟨ws, tys, hP, hD, hK, hQ⟩ := hW
  by_cases hq8 : 8 ≤ q
  · obtain ⟨cv, g1, g2⟩ := hQ.new hq8 hq
    obtain ⟨h7, rfl⟩ := x_obj g2 (by omega)
    exact va_recv hK hP (x_cl7 h7) g1
  · have ho := hQ.old (Nat.lt_of_not_le hq8) hq
    have hO3 := hO.2.2.1
    rcases x_lt8 hq8 with rfl | rfl | rfl | rfl | rfl | rfl | rfl | rfl
    · have h2 : (10 : Nat) = ci := congrArg Prod.fst (Option.some.inj ho)
      omega
    · have h2 : (10 : Nat) = ci := congrArg Prod.fst (Option.some.inj ho)
      omega
    · have h2 : (10 : Nat) = ci := congrArg Prod.fst (Option.some.inj ho)
      omega
    · have h2 : (8 : Nat) = ci := congrArg Prod.fst (Option.some.inj ho)
      subst h2
      exact vk_recv hO3 (i := 0) (by decide) hS
    · have h2 : (8 : Nat) = ci := congrArg Prod.fst (Option.some.inj ho)
      subst h2
      exact vk_recv hO3 (i := 1) (by decide) hS
    · have h2 : (14 : Nat) = ci := congrArg Prod.fst (Option.some.inj ho)
      omega
    · have h2 : (14 : Nat) = ci := congrArg Prod.fst (Option.some.inj ho)
      omega
    · have h2 : (99 : Nat) = ci := congrArg Prod.fst (Option.some.inj ho)
      omega
theorem x_run_shape : ∀ (n d y pc : Nat) (L S : List Value) (h hf : x_H) (r : Option Value), x_run n d y pc L S h = some (r, hf) → (∃ v, r = some (.int v)) ∨ r = none := by
  intro n
  induction n with
  | zero => intro d y pc L S h hf r hr; cases hr
  | succ n ih =>
    intro d y pc L S h hf r hr
    obtain ⟨i2, nx2, -, g | g | g | g⟩ := x_run_w hr
    · obtain ⟨z2, d2, r2, h2, -, -, -, -, g2⟩ := g
      exact ih _ _ _ _ _ _ _ _ g2
    · obtain ⟨v, ty, -, -, -, -, rfl, -⟩ := g
      exact Or.inl ⟨v, rfl⟩
    · obtain ⟨-, -, -, rfl, -⟩ := g
      exact Or.inr rfl
    · obtain ⟨_, _, _, _, -, -, g2⟩ := g
      exact ih _ _ _ _ _ _ _ _ g2
/-- from which instruction a call came -/
theorem x_cal_w {c pc z : Nat} {r i : Instr} (hr : x_res c pc r = some i) (hc : x_cal i = some z) :
    (∃ k, r = .invokestatic k ∧ i = .invokestatic z ∧ x_call c k = some (z, 0) ∧ z ≠ x_abs ∧ z ≠ x_max) ∨ (∃ k, r = .invokevirtual k ∧ i = .invokevirtual z ∧ x_call c k = some (z, 1)) ∨ (∃ k q, r = .invokespecial k ∧ i = .invokespecial z ∧ x_call c k = some (z, q) ∧ (q = 2 ∨ q = 3)) := by
  cases r
  case invokestatic k =>
    refine Or.inl ⟨k, rfl, ?_⟩
    simp only [x_res] at hr
    split at hr
    next => cases hr; cases hc
    next =>
      split at hr
      next z' hz =>
        split at hr
        next => cases hr; cases hc
        next h1 =>
          split at hr
          next => cases hr; cases hc
          next h2 =>
            cases hr
            cases hc
            exact ⟨rfl, hz, h1, h2⟩
      next => cases hr
  case invokevirtual k =>
    refine Or.inr (Or.inl ⟨k, rfl, ?_⟩)
    simp only [x_res] at hr
    split at hr
    next z' hz =>
      cases hr
      cases hc
      exact ⟨rfl, hz⟩
    next => cases hr
  case invokespecial k =>
    refine Or.inr (Or.inr ?_)
    simp only [x_res] at hr
    split at hr
    next => cases hr; cases hc
    next =>
      split at hr
      next z' hz =>
        cases hr
        cases hc
        exact ⟨k, 2, rfl, rfl, hz, Or.inl rfl⟩
      next z' hz =>
        cases hr
        cases hc
        exact ⟨k, 3, rfl, rfl, hz, Or.inr rfl⟩
      next => cases hr
  case newarray t =>
    exfalso
    cases t <;> first | (cases hr; done) | (cases hr; cases hc; done)
  all_goals
    exfalso
    simp only [x_res] at hr
    repeat' (split at hr)
    all_goals first
      | (cases hr; done)
      | (cases hr; cases hc; done)
theorem x_call_z {c k z q : Nat} (h : x_call c k = some (z, q)) : z < 184 := by
  unfold x_call at h
  rw [Option.map_eq_some_iff] at h
  obtain ⟨r, h1, h2⟩ := h
  have h4 := List.all_eq_true.mp x_ct_z r (List.mem_of_find?_eq_some h1)
  cases h2
  simpa using h4
set_option maxHeartbeats 4000000 in
theorem x_sound (hD0 : True) : ∀ n, x_Snd o sio sz xs D n := by
  intro n
  induction n with
  | zero => intro d y pc L S h hf r hr; cases hr
  | succ n ih =>
    intro d y pc L S h hf r hr n0 s0 p l e R s m args below meth c H locs Q ls C hL hLl hW hS hn0 hs0 hR1 hR2 fin
    have C' := C
    obtain ⟨hx, hb, hml, hown, hts, hO, hsz, h8, hini, hRf, hRl, hlk, hsio⟩ := C'
    obtain ⟨i, nx, hfe, hcase⟩ := x_run_w hr
    obtain ⟨rw, n1, hd, hn, hres, rfl⟩ := x_fe_w hfe
    rcases hcase with hcase | hcase | hcase | hcase
    · obtain ⟨z, d', r1, h1, hcal, rfl, hok, hrun1, hrun2⟩ := hcase
      have m1 := x_run_mono _ _ _ _ _ _ _ _ _ hrun1
      have m2 := x_run_mono _ _ _ _ _ _ _ _ _ hrun2
      simp only [x_okc, Bool.and_eq_true, decide_eq_true_eq] at hok
      obtain ⟨⟨⟨ok1, ok2⟩, ok3⟩, ok4⟩ := hok
      refine x_size _ (fun hz0 => ?_)
      have hHs : H.size + 8 = sz + h.length := by
        obtain ⟨ws, tys, hP, hD, hK, hQ⟩ := hW
        have hl2 := hQ.1
        by_cases hw0 : ws.length = 0
        · have := hS.1
          omega
        · have hg : ws[ws.length - 1]? = some ws[ws.length - 1] := List.getElem?_eq_getElem (by omega)
          have h3 := (hQ.2.2 _ _ hg).1
          have h4 := (hP _ _ hg).lt
          omega
      have h8h : 8 ≤ h.length := by omega
      have fwd : ∀ (t : State) (H1 : Heap) (locs1 : List Loc) (hH : t.heap = H1) (hvm : s.vm.Alike t.vm) (hB : x_W o sio sz xs D h1 t.heap t) (hS1 : va_S (x_A sz) s.heap H1 locs1), W p l e R s m args below meth c H1 locs1 (h.length - n0 + (h1.length - h.length)) (x_sz h - s0 + (x_sz h1 - x_sz h)) Q (F0 m (pc + n1) ls ((r1.toList ++ S.drop (x_na z)).map (x_tr o sio sz))) := by
        intro t H1 locs1 hH hvm hB hS1
        subst hH
        have k := ih (d' + 1) y (pc + n1) L (r1.toList ++ S.drop (x_na z)) h1 hf r hrun2 n0 s0 p l e R s m args below meth c t.heap locs1 Q ls C hL hLl (hB.moved hvm.symm) hS1 (by omega) (by omega) hR1 hR2 fin
        rw [show h.length - n0 + (h1.length - h.length) = h1.length - n0 by omega, show x_sz h - s0 + (x_sz h1 - x_sz h) = x_sz h1 - s0 by omega]
        exact k
      have hstk : S.map (x_tr o sio sz) = ((S.take (x_na z)).reverse.map (x_tr o sio sz)).reverse ++ (S.drop (x_na z)).map (x_tr o sio sz) := by
        rw [← List.map_reverse, List.reverse_reverse, ← List.map_append, List.take_append_drop]
      have hroom : 2 * (F0 m pc ls (S.map (x_tr o sio sz))).monitorRoom + (((S.drop (x_na z)).map (x_tr o sio sz)).map fun v => v.category).sum ≤ 8 := lv_room (by rw [x_cat_tr hsio]; exact ok2)
      have hcells : h.length - n0 + (h1.length - h.length) ≤ R.cells ∧ x_sz h - s0 + (x_sz h1 - x_sz h) ≤ R.slots := by omega
      have hPU : ∀ U : State, U.heap = H → s.WarmedH U.vm → (x_W o sio sz xs D h U.heap U ∧ x_Old o sio sz xs U U.heap ∧ U.heap.size + 8 = sz + h.length) := by
        intro U hU hWm
        subst hU
        exact ⟨hW.moved hWm.alike, (hO.kept hS.2.1).warm hWm, hHs⟩
      have hAA : ∀ q, q < H.size → x_A sz q → x_A sz q := fun _ _ h => h
      have hfree : ∀ q, x_A sz q → x_A sz q := fun _ h => h
      have hsize : (F0 m pc ls (S.map (x_tr o sio sz))).locals.size = x_ml y := by show ls.size = _; rw [hL.1, hLl]
      -- the callee's contract, and what comes behind it
      have go : ∀ (hzm : x_mok z = true), n1 = 3 → (∀ (Qc : Array Value → State → Outcome → State → Prop), Met l (x_nm z) (x_ws z) (x_rm d' (h1.length - h.length) (x_sz h1 - x_sz h)) (x_Pc o sio sz xs D (S.take (x_na z)).reverse h) Qc (h1.length - h.length) (x_sz h1 - x_sz h) (x_A sz) → va_Run p l e R s m args below meth c H locs (h.length - n0) (x_sz h - s0) (h1.length - h.length) (x_sz h1 - x_sz h) (F0 m pc ls (S.map (x_tr o sio sz))) ((S.drop (x_na z)).map (x_tr o sio sz)) (Qc ((S.take (x_na z)).reverse.map (x_tr o sio sz)).toArray) (x_A sz)) → W p l e R s m args below meth c H locs (h.length - n0) (x_sz h - s0) Q (F0 m pc ls (S.map (x_tr o sio sz))) := by
        intro hzm hn1 run
        subst hn1
        have rshape : (∃ v, r1 = some (.int v)) ∨ r1 = none := x_run_shape _ _ _ _ _ _ _ _ _ hrun1
        rcases rshape with ⟨v, rfl⟩ | rfl
        · have hM := x_met (l := l) ih hsio hzm h8h ok3 hrun1 (Qc := x_Qi o sio sz xs D v h1) (fun w hw => by cases hw; rfl) (fun hw => by cases hw)
          exact va_calli (run _ hM) hS hAA hfree (fun r2 u t H1 locs1 hH hvm hp hB hsz1 hk1 hS1 => by
            have hp' : r2 = v := hp
            subst hp'
            exact fwd t H1 locs1 hH hvm hB hS1)
        · have hM := x_met (l := l) ih hsio hzm h8h ok3 hrun1 (Qc := x_Qv o sio sz xs D h1) (fun w hw => by cases hw) (fun _ => rfl)
          exact va_callv (run _ hM) hS hAA hfree (fun u t H1 locs1 hH hvm hp hB hsz1 hk1 hS1 => fwd t H1 locs1 hH hvm hB hS1)
      have callB : ∀ (hzm : x_mok z = true) (k np : Nat), (parseMethodDescriptor (x_nm z).desc).map (fun dd => dd.parameters.length) = some np → (Jvm.Cond.methodLink (x_cn (x_cy y)) k (x_nm z)).before args s = true → CallB R s args (x_cn (x_cy y)) k (x_nm z) (x_by z) (x_ml z) (x_rt z) (x_ws z) (x_rm d' (h1.length - h.length) (x_sz h1 - x_sz h)) (h1.length - h.length) (x_sz h1 - x_sz h) np := by
        intro hzm k np hnp hlink
        have hz := x_mo hzm
        refine ⟨rfl, rfl, by show d' + 1 + 1 ≤ _; omega, by show 8 + (x_ml z + 11) + (60 * d' + 60) ≤ _; have := hz.2.2.2.2.2.1; omega, pay_in hts (x_ws_good hzm), List.mem_cons_self, hts _ hz.1.1, hts _ hz.1.2.2.2, hz.2.2.1, fun sig hsig => ?_, hlink⟩
        rw [hsig] at hnp
        exact (Option.some.inj hnp).symm
      rcases x_cal_w hres hcal with ⟨k, rfl, rfl, hcl, hza, hzx⟩ | ⟨k, rfl, rfl, hcl⟩ | ⟨k, q, rfl, rfl, hcl, hq⟩
      · have hzm := x_mok_at (x_call_z hcl) hza hzx
        have hz := x_mo hzm
        have hcw := (x_call_w hcl).2
        rcases hcw with hcw | hcw
        · exact absurd hcw.1 (by decide)
        · have hkd := hcw.2.1
          refine go hzm (by simpa [x_sw, x_len] using hn) (fun Qc hM => ?_)
          have hnp := hz.2.2.2.1
          simp only [hkd, if_true, Nat.add_zero] at hnp
          have hst := hz.1.2.1
          rw [if_pos hkd] at hst
          exact va_runS ⟨hx, hb, hml, hown, hts⟩ hM ⟨callB hzm k (x_na z) hnp (hts _ hcw.2.2), hts _ hst⟩ ⟨x_Pc_blind, fun U hU hWm => ⟨rfl, hPU U hU hWm⟩⟩ rfl (by simp; omega) hsize hstk hroom (by cases (show n1 = 3 by simpa [x_sw, x_len] using hn); exact hd) hcells
      · have hcw := (x_call_w hcl).2
        rcases hcw with hcw | hcw
        · exact absurd hcw.1 (by decide)
        · have hkd := hcw.2.1
          have hzm := x_mok_at (x_call_z hcl) (fun zz => by rw [zz, x_kd_am.1] at hkd; cases hkd) (fun zz => by rw [zz, x_kd_am.2] at hkd; cases hkd)
          have hz := x_mo hzm
          refine go hzm (by simpa [x_sw, x_len] using hn) (fun Qc hM => ?_)
          dsimp only at ok4
          split at ok4
          next q hq =>
            split at ok4
            next ci fs hci =>
              simp only [Bool.and_eq_true, decide_eq_true_eq] at ok4
              have hna : ∃ np, x_na z = np + 1 ∧ (parseMethodDescriptor (x_nm z).desc).map (fun dd => dd.parameters.length) = some np := by
                have hnp := hz.2.2.2.1
                rw [hkd] at hnp
                simp only [Nat.one_ne_zero, if_false] at hnp
                cases hps : parseMethodDescriptor (x_nm z).desc with
                | none => rw [hps] at hnp; cases hnp
                | some dd => rw [hps] at hnp; exact ⟨dd.parameters.length, (Option.some.inj hnp).symm, rfl⟩
              obtain ⟨np, hnp1, hnp2⟩ := hna
              rw [hnp1, Nat.add_sub_cancel] at hq
              obtain ⟨vs, hvs⟩ := x_take_rev hq
              rw [← hnp1] at hvs
              have hvl : vs.length = np := by
                have := congrArg List.length hvs
                simp at this
                omega
              have hin := hz.1.2.1
              rw [if_neg (by omega)] at hin
              have hcy : x_cy z < 7 ∨ x_cy z = 8 := by
                have h5 := List.all_eq_true.mp x_kd_1 z (List.mem_range.mpr (x_call_z hcl))
                simp only [Bool.or_eq_true, decide_eq_true_eq] at h5
                rcases h5 with (h5 | h5) | h5
                · exact absurd hkd h5
                · exact Or.inl h5
                · exact Or.inr h5
              have hrc := x_recv hW hO hS hci (by rw [ok4.1]; exact hcy)
              rw [hvs, List.map_cons, x_tr_ref ok4.2] at hstk ⊢
              rw [hvs] at hM
              refine va_runV ⟨hx, hb, hml, hown, hts⟩ hM ⟨callB hzm k np hnp2 (hts _ hcw.2.2), hts _ hin, hts _ (hz.1.2.2.1 hkd)⟩ ⟨x_Pc_blind, by rw [← ok4.1]; exact hrc, fun U hU hWm => ⟨by rw [List.map_cons, x_tr_ref ok4.2], hPU U hU hWm⟩⟩ rfl (by rw [List.length_map]; exact hvl) hsize (by rw [List.reverse_cons, List.append_assoc] at hstk; exact hstk) hroom (by cases (show n1 = 3 by simpa [x_sw, x_len] using hn); exact hd) hcells
            next => cases ok4
          next => cases ok4
      · have hkd : x_kd z = 2 := by
          rcases (x_call_w hcl).2 with hcw | hcw
          · exact hcw.2.2.1
          · rcases hq with rfl | rfl
            · exact hcw.2.1
            · exact absurd rfl hcw.1
        have hzm := x_mok_at (x_call_z hcl) (fun zz => by rw [zz, x_kd_am.1] at hkd; cases hkd) (fun zz => by rw [zz, x_kd_am.2] at hkd; cases hkd)
        have hz := x_mo hzm
        refine go hzm (by simpa [x_sw, x_len] using hn) (fun Qc hM => ?_)
        dsimp only at ok4
        split at ok4
        next q1 hq1 =>
          simp only [decide_eq_true_eq] at ok4
          have hna : ∃ np, x_na z = np + 1 ∧ (parseMethodDescriptor (x_nm z).desc).map (fun dd => dd.parameters.length) = some np := by
            have hnp := hz.2.2.2.1
            rw [hkd] at hnp
            cases hps : parseMethodDescriptor (x_nm z).desc with
            | none => rw [hps] at hnp; cases hnp
            | some dd => rw [hps] at hnp; exact ⟨dd.parameters.length, (Option.some.inj hnp).symm, rfl⟩
          obtain ⟨np, hnp1, hnp2⟩ := hna
          rw [hnp1, Nat.add_sub_cancel] at hq1
          obtain ⟨vs, hvs⟩ := x_take_rev hq1
          rw [← hnp1] at hvs
          have hvl : vs.length = np := by
            have := congrArg List.length hvs
            simp at this
            omega
          have hin := hz.1.2.1
          rw [if_neg (by omega)] at hin
          have hrt := (hz.2.2.2.2.2.2 hkd).2
          have hname := (hz.2.2.2.2.2.2 hkd).1
          rw [hvs, List.map_cons, x_tr_ref ok4] at hstk ⊢
          rw [hvs] at hM
          have hd3 : decode (x_by y) pc = .ok (.invokespecial k, 3) := by cases (show n1 = 3 by simpa [x_sw, x_len] using hn); exact hd
          have hpre : PreS s H (x_Pc o sio sz xs D (Value.ref q1 :: vs) h) (.ref (x_ad o sz q1) :: vs.map (x_tr o sio sz)) := ⟨x_Pc_blind, fun U hU hWm => ⟨by rw [List.map_cons, x_tr_ref ok4], hPU U hU hWm⟩⟩
          have hstk' : S.map (x_tr o sio sz) = (vs.map (x_tr o sio sz)).reverse ++ (.ref (x_ad o sz q1) :: (S.drop (x_na z)).map (x_tr o sio sz)) := by rw [List.reverse_cons, List.append_assoc] at hstk; exact hstk
          have hrtw : x_ws z = Jvm.Cond.code (x_nm z) (x_by z) (x_ml z) none :: x_TB := by show Jvm.Cond.code _ _ _ (x_rt z) :: _ = _; rw [hrt]
          rcases (x_call_w hcl).2 with hcw | hcw
          · obtain ⟨-, hcy5, -, w, hne⟩ := hcw
            have hnl := hO.2.2.2.2.2.2 _ hne
            have hown5 : s.vm.findClass "WindowCards" = some m.cls := by rw [hcy5] at hown; exact hown
            have hcn : va_CN R s args "WindowCards" k (x_nm z) "WindowCards" (x_by z) (x_ml z) none (x_ws z) (x_rm d' (h1.length - h.length) (x_sz h1 - x_sz h)) (h1.length - h.length) (x_sz h1 - x_sz h) np :=
              va_cnB np hts (x_ws_good hzm) hrtw rfl rfl hnl (hts _ hz.1.2.2.2) ⟨hz.2.2.1.1, hz.2.2.1.2, hnp2⟩ ⟨by show d' + 1 + 1 ≤ _; omega, by show 8 + (x_ml z + 11) + (60 * d' + 60) ≤ _; have := hz.2.2.2.2.2.1; omega⟩
            exact va_runIN ⟨hx, hb, hml, hown5, hts⟩ hM ⟨hcn, hname, hts _ hin⟩ hpre rfl (by rw [List.length_map]; exact hvl) hsize hstk' hroom hd3 hcells
          · have hcb := callB hzm k np hnp2 (hts _ hcw.2.2)
            rw [hrt] at hcb
            exact va_runI ⟨hx, hb, hml, hown, hts⟩ hM ⟨hcb, hname, hts _ hin⟩ hpre rfl (by rw [List.length_map]; exact hvl) hsize hstk' hroom hd3 hcells
        next => cases ok4
    · obtain ⟨v, ty, rfl, rfl, hty, hnr, rfl, rfl⟩ := hcase
      have hrw : rw = .ireturn := by
        cases rw
        case ireturn => rfl
        case newarray t => cases t <;> cases hres
        all_goals
          exfalso
          simp only [x_res] at hres
          repeat' (split at hres)
          all_goals (cases hres; done)
      subst hrw
      cases (show n1 = 1 by simpa [x_sw, x_len] using hn)
      exact (fin ls H locs pc hW hS).1 v rfl hd ⟨ty, hty, hnr⟩
    · obtain ⟨rfl, rfl, hty, rfl, rfl⟩ := hcase
      have hrw : rw = .return_ := by
        cases rw
        case return_ => rfl
        case newarray t => cases t <;> cases hres
        all_goals
          exfalso
          simp only [x_res] at hres
          repeat' (split at hres)
          all_goals (cases hres; done)
      subst hrw
      cases (show n1 = 1 by simpa [x_sw, x_len] using hn)
      exact (fin ls H locs pc hW hS).2 rfl hd hty
    · obtain ⟨pc', L', S', h', hcal, hst, hrun⟩ := hcase
      have m1 := x_step_mono hst
      have m2 := x_run_mono _ _ _ _ _ _ _ _ _ hrun
      exact x_sound1 (D := D) C hd hn hres hst hL hLl hW hS hn0 hs0 (by omega) (by omega) (fun ls' H' locs' hL' hW' hS' => ih d y pc' L' S' h' hf r hrun n0 s0 p l e R s m args below meth c H' locs' Q ls' C hL' (by rw [m1.2]; exact hLl) hW' hS' (by omega) (by omega) hR1 hR2 fin)
end XSD
