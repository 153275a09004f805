theorem x_inst : ((List.range 7).all fun c => decide (Jvm.Cond.instantiable (x_cn c) (x_N c) ∈ lw_tbl)) = true := by decide +kernel
theorem x_row_law : x_me 184 = (7, x, code, 4, ret) := by rfl
set_option maxHeartbeats 4000000 in
set_option maxRecDepth 20000 in
theorem x_start {p : Program} {s : State} {m : MethodId} {meth : Method} {c : Code} {b L : Nat} {xs : Nat → Int32} (C0 : lw_At p s m meth c b L xs) (xl : List Int32) (hxl : xl.length = L) (hxg : ∀ j, j < L → xl.getD j 0 = xs j) :
    ∃ (o : Nat → Nat) (sio : Value) (D : va_G), o 0 = b ∧ (sio = .null ∨ ∃ t, sio = .ref t) ∧ x_Old o sio s.heap.size xl s s.heap ∧ x_W o sio s.heap.size xl D (x_old xl) s.heap s := by
  obtain ⟨hx, hb, hr, hml, hown, hts, hX, hbl, hlocks, hgv⟩ := id C0
  have hfl := flat_of_before _ hgv
  have hA0 : ∀ a, a < s.heap.size → ¬ x_A s.heap.size a := fun a h => Nat.not_le.mpr h
  have htsB : ∀ w ∈ x_TB, w.before #[Value.ref b] s = true := fun w hw => hts w (List.mem_filter.mp hw).1
  obtain ⟨t1, et1, hT1⟩ := va_Tof (tm := .static "WindowCards" "SIZE_BODIES" "[I") (ty := .int) (N := 6) (f := fun j => .int (x_sizeB.getD j 0)) (A := x_A s.heap.size) (by decide) (hfl _ (by decide +kernel)) (va_eqt (hfl _ (by decide +kernel))) (fun j hj => by
    rcases (by omega : j = 0 ∨ j = 1 ∨ j = 2 ∨ j = 3 ∨ j = 4 ∨ j = 5) with rfl | rfl | rfl | rfl | rfl | rfl
    · exact va_eqt (hfl (.eq (.elem (.static "WindowCards" "SIZE_BODIES" "[I") (.int 0)) (.int 10)) (by decide +kernel))
    · exact va_eqt (hfl (.eq (.elem (.static "WindowCards" "SIZE_BODIES" "[I") (.int 1)) (.int 11)) (by decide +kernel))
    · exact va_eqt (hfl (.eq (.elem (.static "WindowCards" "SIZE_BODIES" "[I") (.int 2)) (.int 14)) (by decide +kernel))
    · exact va_eqt (hfl (.eq (.elem (.static "WindowCards" "SIZE_BODIES" "[I") (.int 3)) (.int 12)) (by decide +kernel))
    · exact va_eqt (hfl (.eq (.elem (.static "WindowCards" "SIZE_BODIES" "[I") (.int 4)) (.int 13)) (by decide +kernel))
    · exact va_eqt (hfl (.eq (.elem (.static "WindowCards" "SIZE_BODIES" "[I") (.int 5)) (.int 12)) (by decide +kernel))) hA0
  obtain ⟨t2, et2, hT2⟩ := va_Tof (tm := .static "WindowCards" "MARK_BODIES" "[I") (ty := .int) (N := 6) (f := fun j => .int (x_markB.getD j 0)) (A := x_A s.heap.size) (by decide) (hfl _ (by decide +kernel)) (va_eqt (hfl _ (by decide +kernel))) (fun j hj => by
    rcases (by omega : j = 0 ∨ j = 1 ∨ j = 2 ∨ j = 3 ∨ j = 4 ∨ j = 5) with rfl | rfl | rfl | rfl | rfl | rfl
    · exact va_eqt (hfl (.eq (.elem (.static "WindowCards" "MARK_BODIES" "[I") (.int 0)) (.int 20)) (by decide +kernel))
    · exact va_eqt (hfl (.eq (.elem (.static "WindowCards" "MARK_BODIES" "[I") (.int 1)) (.int 21)) (by decide +kernel))
    · exact va_eqt (hfl (.eq (.elem (.static "WindowCards" "MARK_BODIES" "[I") (.int 2)) (.int 23)) (by decide +kernel))
    · exact va_eqt (hfl (.eq (.elem (.static "WindowCards" "MARK_BODIES" "[I") (.int 3)) (.int 21)) (by decide +kernel))
    · exact va_eqt (hfl (.eq (.elem (.static "WindowCards" "MARK_BODIES" "[I") (.int 4)) (.int 24)) (by decide +kernel))
    · exact va_eqt (hfl (.eq (.elem (.static "WindowCards" "MARK_BODIES" "[I") (.int 5)) (.int 22)) (by decide +kernel))) hA0
  have hZ1 : va_Z "WindowCards" "SIZE_BODIES" "[I" (.ref t1) (x_A s.heap.size) s s.heap := va_Zof (hts _ (by decide +kernel)) (hts _ (by decide +kernel)) et1 hA0
  have hZ2 : va_Z "WindowCards" "MARK_BODIES" "[I" (.ref t2) (x_A s.heap.size) s s.heap := va_Zof (hts _ (by decide +kernel)) (hts _ (by decide +kernel)) et2 hA0
  have hZ3 : va_Z "java/lang/String" "COMPACT_STRINGS" "Z" (.int 1) (x_A s.heap.size) s s.heap := va_Zof (hts _ (by decide +kernel)) (hts _ (by decide +kernel)) (va_eqi (hfl _ (by decide +kernel))) hA0
  have hZ4 : va_Zq "jdk/internal/util/Preconditions" "SIOOBE_FORMATTER" "Ljava/util/function/BiFunction;" (x_A s.heap.size) s s.heap := va_Zqof (hts _ (by decide +kernel)) (hts _ (by decide +kernel)) (hfl _ (by decide +kernel)) hA0
  obtain ⟨sio, hsio, hZ4'⟩ : ∃ sio : Value, (sio = .null ∨ ∃ t, sio = .ref t) ∧ va_Z "jdk/internal/util/Preconditions" "SIOOBE_FORMATTER" "Ljava/util/function/BiFunction;" sio (x_A s.heap.size) s s.heap := by
    rcases hZ4 with h | ⟨t, h⟩
    · exact ⟨_, Or.inl rfl, h⟩
    · exact ⟨_, Or.inr ⟨t, rfl⟩, h⟩
  obtain ⟨adK, adV, hSS, hev⟩ := vk_Sof (args := #[Value.ref b]) (s := s) (N := 2) (tm := fun i => if i = 0 then .string "WindowCards" 287 else .string "WindowCards" 309) (len := [5, 4]) (byt := [x_str0, x_str1]) (A := x_A s.heap.size)
    (fun i hi => by rcases (by omega : i = 0 ∨ i = 1) with rfl | rfl <;> decide)
    (fun i hi => by rcases (by omega : i = 0 ∨ i = 1) with rfl | rfl <;> exact hfl _ (by decide +kernel))
    (fun i hi => by rcases (by omega : i = 0 ∨ i = 1) with rfl | rfl <;> exact hfl _ (by decide +kernel))
    (fun i hi => by rcases (by omega : i = 0 ∨ i = 1) with rfl | rfl <;> exact hfl _ (by decide +kernel))
    (fun i hi => by rcases (by omega : i = 0 ∨ i = 1) with rfl | rfl <;> exact hfl _ (by decide +kernel))
    (fun i hi j hj => by
      rcases (by omega : i = 0 ∨ i = 1) with rfl | rfl
      · have hj' : j < 5 := hj
        rcases (by omega : j = 0 ∨ j = 1 ∨ j = 2 ∨ j = 3 ∨ j = 4) with rfl | rfl | rfl | rfl | rfl <;> exact hfl _ (by decide +kernel)
      · have hj' : j < 4 := hj
        rcases (by omega : j = 0 ∨ j = 1 ∨ j = 2 ∨ j = 3) with rfl | rfl | rfl | rfl <;> exact hfl _ (by decide +kernel))
    (fun i j hi hj hij => by
      rcases (by omega : (i = 0 ∧ j = 1) ∨ (i = 1 ∧ j = 0)) with ⟨rfl, rfl⟩ | ⟨rfl, rfl⟩
      · exact Or.inl (hfl _ (by decide +kernel))
      · exact Or.inr (hfl _ (by decide +kernel))) hA0
  have hR0 : vk_R "WindowCards" 287 "table" (adK 0) s := vk_R.of (hts _ (by decide +kernel)) (hev 0 (by decide))
  have hR1 : vk_R "WindowCards" 309 "card" (adK 1) s := vk_R.of (hts _ (by decide +kernel)) (hev 1 (by decide))
  have hcl : ∀ c : Nat, ∃ q : ClassId × (Nat → Nat), c < 7 → u_Kn s (x_cn c) (x_T c) (x_N c) q.1 q.2 := by
    intro c
    by_cases hc : c < 7
    · have h1 := List.all_eq_true.mp x_inst c (List.mem_range.mpr hc)
      obtain ⟨cC, iS, hk⟩ := u_known (C := x_cn c) (T := x_T c) (N := x_N c) (n := x_N c) htsB (x_hin hc) (hts _ (by simpa using h1))
      exact ⟨(cC, iS), fun _ => hk⟩
    · exact ⟨(0, fun _ => 0), fun h => absurd h hc⟩
  obtain ⟨f, hf⟩ := Classical.axiomOfChoice hcl
  refine ⟨fun k => if k = 0 then b else if k = 1 then t1 else if k = 2 then t2 else if k = 3 then adK 0 else if k = 4 then adK 1 else if k = 5 then adV 0 else adV 1, sio, (fun c => (f c).1, fun c => (f c).2), rfl, hsio, ⟨⟨?_, hT1, hT2⟩, ⟨hZ1, hZ2, hZ3, hZ4'⟩, ⟨fun i hi => ?_, fun i j hi hj hij => ?_⟩, ⟨hR0, hR1⟩, ?_, ?_, ?_⟩, ⟨[], [], fun k q h => by simp at h, ⟨fun i j p q h => by simp at h, fun k q h => by simp at h⟩, ⟨?_, fun k q h => by simp at h⟩, rfl, rfl, fun i q h => by simp at h⟩⟩
  · obtain ⟨scr, h1, h2, h3, h4, h5⟩ := hX
    refine ⟨scr, h1, h2, h3, Nat.le_of_eq (hxl.trans h4.symm), (congrArg Nat.toInt32 (h4.trans hxl.symm)).trans rfl, fun j hj => ?_, hA0 b hbl⟩
    rw [hxl] at hj
    rw [h5 j hj]
    show _ = some (Value.int (xl.getD j 0))
    rw [hxg j hj]
  · rcases (by omega : i = 0 ∨ i = 1) with rfl | rfl
    · exact hSS.1 0 (by decide)
    · exact hSS.1 1 (by decide)
  · rcases (by omega : i = 0 ∨ i = 1) with rfl | rfl <;> rcases (by omega : j = 0 ∨ j = 1) with rfl | rfl
    · rfl
    · exact absurd (hSS.2 0 1 (by decide) (by decide) hij) (by decide)
    · exact absurd (hSS.2 1 0 (by decide) (by decide) hij) (by decide)
    · rfl
  · have h1 := x_ao_ok
    simp only [Bool.and_eq_true, decide_eq_true_eq] at h1
    exact va_AO.moved (Vm.Alike.refl _) (va_AO.of (A := #[Value.ref b]) (hts _ (List.mem_of_getElem? h1.1.1)))
  · have h1 := x_ao_ok
    simp only [Bool.and_eq_true, decide_eq_true_eq] at h1
    exact va_AO.of (A := #[Value.ref b]) (hts _ (List.mem_of_getElem? h1.1.2))
  · intro r hr
    have h1 := List.all_eq_true.mp x_ne_ok r hr
    simp only [decide_eq_true_eq] at h1
    exact va_Nw.of rfl (hts _ (List.mem_of_getElem? h1))
  · intro k q hq
    have hk : k < 7 := (List.getElem?_eq_some_iff.mp hq).1
    rw [x_cl7 hk] at hq
    cases hq
    exact hf k hk
