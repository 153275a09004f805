/-! THE CONSTRUCTORS: runs over a heap that grows -/
def x_G (d y pc : Nat) (L K : List Value) (h : x_H) (w : Option Value × x_H) : Prop := ∃ n, x_run n d y pc L K h = some w
section RAW
variable {d y pc nx : Nat} {L K : List Value} {h : x_H} {w : Option Value × x_H}
theorem g_step {i : Instr} {pc' : Nat} {L' K' : List Value} {h' : x_H} (hf : x_fe y pc = some (i, nx)) (hc : x_cal i = none) (hs : x_step (x_kd y == 2) i pc nx L K h = some (pc', L', K', h')) (k : x_G d y pc' L' K' h' w) : x_G d y pc L K h w := by
  obtain ⟨n, hn⟩ := k
  exact ⟨n + 1, x_run_step hf hc hs hn⟩
theorem g_aload {j p : Nat} (hf : x_fe y pc = some (.aload j, nx)) (hl : L[j]? = some (.ref p)) (hp : p ≠ 7) (k : x_G d y nx L (.ref p :: K) h w) : x_G d y pc L K h w := g_step hf rfl (by simp only [x_step, hl, if_neg hp]) k
theorem g_iconst {n : Int} {c : Int32} (hf : x_fe y pc = some (.iconst n, nx)) (hc : Int32.ofInt n = c) (k : x_G d y nx L (.int c :: K) h w) : x_G d y pc L K h w := g_step hf rfl (by rw [← hc]; rfl) k
theorem g_iload {j : Nat} {v : Int32} (hf : x_fe y pc = some (.iload j, nx)) (hl : L[j]? = some (.int v)) (k : x_G d y nx L (.int v :: K) h w) : x_G d y pc L K h w := g_step hf rfl (by simp only [x_step, hl]) k
theorem g_istore {j : Nat} {v : Int32} {L' : List Value} (hf : x_fe y pc = some (.istore j, nx)) (hj : j < L.length) (hl : x_st1 L j (.int v) = L') (k : x_G d y nx L' K h w) : x_G d y pc L (.int v :: K) h w := g_step hf rfl (by simp only [x_step, if_pos hj, hl]) k
theorem g_astore {j p : Nat} {L' : List Value} (hf : x_fe y pc = some (.astore j, nx)) (hj : j < L.length) (hp : p ≠ 7) (hl : x_st1 L j (.ref p) = L') (k : x_G d y nx L' K h w) : x_G d y pc L (.ref p :: K) h w := g_step hf rfl (by simp only [x_step, if_pos (And.intro hj hp), hl]) k
theorem g_iinc {j : Nat} {n : Int} {v w' : Int32} {L' : List Value} (hf : x_fe y pc = some (.iinc j n, nx)) (h0 : L[j]? = some (.int v)) (hw : v + Int32.ofInt n = w') (hl : x_st1 L j (.int w') = L') (k : x_G d y nx L' K h w) : x_G d y pc L K h w := g_step hf rfl (by simp only [x_step, h0, hw, hl]) k
theorem g_goto {t : Nat} (hf : x_fe y pc = some (.goto (Int.ofNat t), nx)) (k : x_G d y t L K h w) : x_G d y pc L K h w := g_step hf rfl rfl k
theorem g_dup {p : Nat} (hf : x_fe y pc = some (.dup, nx)) (k : x_G d y nx L (.ref p :: .ref p :: K) h w) : x_G d y pc L (.ref p :: K) h w := g_step hf rfl (by simp only [x_step]; rfl) k
theorem g_d2f {p : Nat} (hf : x_fe y pc = some (.d2f, nx)) (hp : p ≠ 7) (hk : x_cat K ≤ 8) (k : x_G d y nx L K h w) : x_G d y pc L (.ref p :: K) h w := g_step hf rfl (by simp only [x_step, if_pos (And.intro hp hk)]) k
theorem g_ge_t {t : Nat} {a b : Int32} (hf : x_fe y pc = some (.if_icmp .ge (Int.ofNat t), nx)) (hc : x_cc .ge a b = true) (k : x_G d y t L K h w) : x_G d y pc L (.int b :: .int a :: K) h w := g_step hf rfl (by simp only [x_step, if_pos hc]; rfl) k
theorem g_ge_f {t : Nat} {a b : Int32} (hf : x_fe y pc = some (.if_icmp .ge (Int.ofNat t), nx)) (hc : ¬ x_cc .ge a b = true) (k : x_G d y nx L K h w) : x_G d y pc L (.int b :: .int a :: K) h w := g_step hf rfl (by simp only [x_step, if_neg hc]) k
theorem g_new {c : Nat} (hf : x_fe y pc = some (.new c, nx)) (hc : c < 7) (k : x_G d y nx L (.ref h.length :: K) (h ++ [(c, x_def c)]) w) : x_G d y pc L K h w := g_step hf rfl (by simp only [x_step, if_pos hc]) k
theorem g_newa {n : Int32} {N : Nat} (hf : x_fe y pc = some (.newarray .int, nx)) (hn : n = nI N) (hN : N ≤ 100000) (k : x_G d y nx L (.ref h.length :: K) (h ++ [(10, List.replicate N (.int 0))]) w) : x_G d y pc L (.int n :: K) h w := by
  subst hn
  refine g_step hf rfl ?_ k
  have e : (nI N).toNatClampNeg = N := nI_clamp (by omega)
  simp only [x_step, e]
  rw [if_pos ⟨nI_pos (by omega), hN⟩]
theorem g_anew {c t : Nat} {n : Int32} {N : Nat} (hf : x_fe y pc = some (.anewarray c, nx)) (hn : n = nI N) (hN : N ≤ 100000) (hc : (c = 2 ∧ t = 11) ∨ (c = 0 ∧ t = 12)) (k : x_G d y nx L (.ref h.length :: K) (h ++ [(t, List.replicate N .null)]) w) : x_G d y pc L (.int n :: K) h w := by
  subst hn
  have e : (nI N).toNatClampNeg = N := nI_clamp (by omega)
  rcases hc with ⟨rfl, rfl⟩ | ⟨rfl, rfl⟩
  · refine g_step hf rfl ?_ k
    simp only [x_step, e]
    rw [if_pos ⟨nI_pos (by omega), hN, Or.inr trivial⟩]
    rfl
  · refine g_step hf rfl ?_ k
    simp only [x_step, e]
    rw [if_pos ⟨nI_pos (by omega), hN, Or.inl trivial⟩]
    rfl
theorem g_puts {e c p : Nat} {v : Value} {fs : List Value} (hf : x_fe y pc = some (.putstatic e, nx)) (hk : (x_kd y == 2) = true) (hh : h[p]? = some (c, fs)) (he : c = e / 32) (hp : 8 ≤ p) (hj : e % 32 < fs.length) (hv : x_fit e v = true) (k : x_G d y nx L K (h.set p (c, fs.set (e % 32) v)) w) : x_G d y pc L (v :: .ref p :: K) h w := by
  refine g_step hf rfl ?_ k
  simp only [x_step, hh]
  rw [if_pos ⟨hk, he, hp, hj, hv⟩]
theorem g_getf {e c p : Nat} {v : Value} {fs : List Value} (hf : x_fe y pc = some (.getfield e, nx)) (hh : h[p]? = some (c, fs)) (he : c = e / 32) (hv : fs[e % 32]? = some v) (k : x_G d y nx L (v :: K) h w) : x_G d y pc L (.ref p :: K) h w := by
  refine g_step hf rfl ?_ k
  simp only [x_step, hh]
  rw [if_pos he, hv]
theorem g_aast {p q i c e : Nat} {n : Int32} {vs fs : List Value} (hf : x_fe y pc = some (.aastore, nx)) (hn : n = nI i) (hi : i < vs.length) (hb : vs.length < 2 ^ 31) (hh : h[p]? = some (c, vs)) (hq : h[q]? = some (e, fs)) (hc : (c = 11 ∧ e = 2) ∨ (c = 12 ∧ e = 0)) (hp : 8 ≤ p) (hq8 : 8 ≤ q) (k : x_G d y nx L K (h.set p (c, vs.set i (.ref q))) w) : x_G d y pc L (.ref q :: .int n :: .ref p :: K) h w := by
  subst hn
  have e : (nI i).toNatClampNeg = i := nI_clamp (by omega)
  refine g_step hf rfl ?_ k
  simp only [x_step, hh, hq, e]
  rw [if_pos ⟨hc, hp, hq8, nI_pos (by omega), hi⟩]
theorem g_ias {p i : Nat} {n v : Int32} {vs : List Value} (hf : x_fe y pc = some (.iastore, nx)) (hn : n = nI i) (hi : i < vs.length) (hb : vs.length < 2 ^ 31) (hh : h[p]? = some (10, vs)) (hp : 8 ≤ p) (k : x_G d y nx L K (h.set p (10, vs.set i (.int v))) w) : x_G d y pc L (.int v :: .int n :: .ref p :: K) h w := by
  subst hn
  have e : (nI i).toNatClampNeg = i := nI_clamp (by omega)
  refine g_step hf rfl ?_ k
  simp only [x_step, hh, e]
  rw [if_pos ⟨trivial, hp, nI_pos (by omega), hi⟩]
theorem g_ret (hf : x_fe y pc = some (.return_, nx)) (ht : x_rt y = none) (hw : w = (none, h)) : x_G d y pc L [] h w := by
  subst hw
  refine ⟨1, ?_⟩
  rw [x_run_succ, hf]
  simp only [x_cal, ht]
theorem g_call {z p : Nat} {h1 : x_H} (hf : x_fe y pc = some (.invokespecial z, nx)) (hn : x_na z = 1) (hml : 1 ≤ x_ml z) (hp : p ≠ 7) (hk : x_cat K ≤ 8) (c : x_G d z 0 (x_loc (x_ml z) [.ref p]) [] h (none, h1)) (k : x_G (d + 1) y nx L K h1 w) : x_G (d + 1) y pc L (.ref p :: K) h w := by
  obtain ⟨n1, g1⟩ := c
  obtain ⟨n2, g2⟩ := k
  refine ⟨max n1 n2 + 1, x_run_call (h1 := h1) (r1 := none) hf rfl ?_ ?_ ?_⟩
  · unfold x_okc
    rw [hn]
    simp only [Bool.and_eq_true, decide_eq_true_eq]
    exact ⟨⟨⟨by simp, hk⟩, hml⟩, decide_eq_true hp⟩
  · rw [hn]
    exact x_run_up _ _ _ _ _ _ _ _ g1 _ _ (Nat.le_max_left _ _) (Nat.le_refl _)
  · rw [hn]
    exact x_run_up _ _ _ _ _ _ _ _ g2 _ _ (Nat.le_max_right _ _) (Nat.le_refl _)
theorem x_fit_r {e p : Nat} (hp : p ≠ 7) (h1 : narrow (x_ty (e / 32) (e % 32)) (.ref p) = .ref p) (h2 : fits (x_ty (e / 32) (e % 32)) (.ref p) = true) : x_fit e (.ref p) = true := by
  unfold x_fit
  simp only [Bool.and_eq_true, decide_eq_true_eq]
  exact ⟨⟨fun z => hp (by cases z; rfl), h1⟩, h2⟩
theorem g_at {A l : x_H} {c : x_C} : (A ++ c :: l)[A.length]? = some c := by
  rw [List.getElem?_append_right (Nat.le_refl _), Nat.sub_self]
  rfl
theorem g_set {A l : x_H} {c c' : x_C} : (A ++ c :: l).set A.length c' = A ++ c' :: l := by
  rw [List.set_append_right _ _ (Nat.le_refl _), Nat.sub_self]
  rfl
/-- 'this.f = new int[N]', of an object whose cell begins what is new -/
theorem g_arr {A l : x_H} {c e : Nat} {fs fs' : List Value} {pc1 pc2 pc3 : Nat} {v : Int} {N q : Nat} {l' : x_H} (h0 : L[0]? = some (.ref A.length)) (hA : 8 ≤ A.length) (f1 : x_fe y pc = some (.aload 0, pc1)) (f2 : x_fe y pc1 = some (.iconst v, pc2)) (f3 : x_fe y pc2 = some (.newarray .int, pc3)) (f4 : x_fe y pc3 = some (.putstatic e, nx)) (hv : Int32.ofInt v = nI N) (hN : N ≤ 100000) (hk : (x_kd y == 2) = true) (he : c = e / 32) (hj : e % 32 < fs.length)
    (hq : A.length + 1 + l.length = q) (n1 : narrow (x_ty (e / 32) (e % 32)) (.ref q) = .ref q) (n2 : fits (x_ty (e / 32) (e % 32)) (.ref q) = true) (hfs : fs.set (e % 32) (.ref q) = fs') (hl : l ++ [(10, List.replicate N (.int 0))] = l') (k : x_G d y nx L [] (A ++ (c, fs') :: l') w) : x_G d y pc L [] (A ++ (c, fs) :: l) w := by
  refine g_aload f1 h0 (by omega) (g_iconst f2 hv (g_newa f3 rfl hN ?_))
  have hlen : (A ++ (c, fs) :: l).length = q := by rw [List.length_append, List.length_cons, ← hq]; omega
  have hap : (A ++ (c, fs) :: l) ++ [((10 : Nat), List.replicate N (Value.int 0))] = A ++ (c, fs) :: l' := by rw [← hl, List.append_assoc]; rfl
  rw [hlen, hap]
  refine g_puts f4 hk g_at he hA hj (x_fit_r (by omega) n1 n2) ?_
  rw [g_set, hfs]
  exact k
end RAW
/-- what a constructor does with a new object at the end -/
def x_Ct (z c : Nat) (cells : Nat → x_H) : Prop := ∀ (A : x_H) (d : Nat), 8 ≤ A.length → x_G d z 0 (x_loc (x_ml z) [.ref A.length]) [] (A ++ [(c, x_def c)]) (none, A ++ cells A.length)
theorem kd_0 : (x_kd 0 == 2) = true := by decide +kernel
theorem kd_16 : (x_kd 16 == 2) = true := by decide +kernel
theorem kd_23 : (x_kd 23 == 2) = true := by decide +kernel
theorem kd_28 : (x_kd 28 == 2) = true := by decide +kernel
theorem kd_40 : (x_kd 40 == 2) = true := by decide +kernel
theorem kd_42 : (x_kd 42 == 2) = true := by decide +kernel
theorem kd_98 : (x_kd 98 == 2) = true := by decide +kernel
def k_row (p : Nat) : x_H := [(2, [.ref (p + 1), .int 0, .int 0, .int 0]), (10, List.replicate 40 (.int 0))]
def k_tape (p : Nat) : x_H := [(3, [.ref (p + 1), .int 0, .int 0, .int 0, .int 0, .int 0]), (10, List.replicate 400 (.int 0))]
def k_trace (p : Nat) : x_H := [(4, [.ref (p + 1), .int 0]), (10, List.replicate 16 (.int 0))]
def k_game (p : Nat) : x_H := [(0, [.ref (p + 1), .ref (p + 2), .ref (p + 3), .ref (p + 4), .int 0, .int 0, .int 0, .int 0, .int 0, .int 0]), (10, List.replicate 9 (.int 0)), (10, List.replicate 112 (.int 0)), (10, List.replicate 2 (.int 0)), (10, List.replicate 2 (.int 0))]
def k_open (p : Nat) : x_H := [(1, [.ref (p + 1), .ref (p + 2), .ref (p + 3), .int 0, .int 0]), (10, List.replicate 4 (.int 0)), (10, List.replicate 2 (.int 0)), (10, List.replicate 16384 (.int 0))]
theorem ct_row : x_Ct 23 2 k_row := by
  intro A d hA
  rw [ml_23, show x_def 2 = [.null, .int 0, .int 0, .int 0] from rfl]
  refine g_aload f_23_0 rfl (by omega) (g_d2f f_23_1 (by omega) (Nat.zero_le _) ?_)
  refine g_arr (N := 40) (q := A.length + 1) rfl hA f_23_4 f_23_5 f_23_7 f_23_9 (by decide) (by omega) kd_23 rfl (Nat.le_of_ble_eq_true rfl) rfl rfl rfl rfl rfl ?_
  exact g_ret f_23_12 rt_23 rfl
theorem ct_tape : x_Ct 28 3 k_tape := by
  intro A d hA
  rw [ml_28, show x_def 3 = [.null, .int 0, .int 0, .int 0, .int 0, .int 0] from rfl]
  refine g_aload f_28_0 rfl (by omega) (g_d2f f_28_1 (by omega) (Nat.zero_le _) ?_)
  refine g_arr (N := 400) (q := A.length + 1) rfl hA f_28_4 f_28_5 f_28_8 f_28_10 (by decide) (by omega) kd_28 rfl (Nat.le_of_ble_eq_true rfl) rfl rfl rfl rfl rfl ?_
  exact g_ret f_28_13 rt_28 rfl
theorem ct_trace : x_Ct 40 4 k_trace := by
  intro A d hA
  rw [ml_40, show x_def 4 = [.null, .int 0] from rfl]
  refine g_aload f_40_0 rfl (by omega) (g_d2f f_40_1 (by omega) (Nat.zero_le _) ?_)
  refine g_arr (N := 16) (q := A.length + 1) rfl hA f_40_4 f_40_5 f_40_7 f_40_9 (by decide) (by omega) kd_40 rfl (Nat.le_of_ble_eq_true rfl) rfl rfl rfl rfl rfl ?_
  exact g_ret f_40_12 rt_40 rfl
theorem ct_game : x_Ct 0 0 k_game := by
  intro A d hA
  rw [ml_0, show x_def 0 = [.null, .null, .null, .null, .int 0, .int 0, .int 0, .int 0, .int 0, .int 0] from rfl]
  refine g_aload f_0_0 rfl (by omega) (g_d2f f_0_1 (by omega) (Nat.zero_le _) ?_)
  refine g_arr (N := 9) (q := A.length + 1) rfl hA f_0_4 f_0_5 f_0_7 f_0_9 (by decide) (by omega) kd_0 rfl (Nat.le_of_ble_eq_true rfl) rfl rfl rfl rfl rfl ?_
  refine g_arr (N := 112) (q := A.length + 2) rfl hA f_0_12 f_0_13 f_0_15 f_0_17 (by decide) (by omega) kd_0 rfl (Nat.le_of_ble_eq_true rfl) rfl rfl rfl rfl rfl ?_
  refine g_arr (N := 2) (q := A.length + 3) rfl hA f_0_20 f_0_21 f_0_22 f_0_24 (by decide) (by omega) kd_0 rfl (Nat.le_of_ble_eq_true rfl) rfl rfl rfl rfl rfl ?_
  refine g_arr (N := 2) (q := A.length + 4) rfl hA f_0_27 f_0_28 f_0_29 f_0_31 (by decide) (by omega) kd_0 rfl (Nat.le_of_ble_eq_true rfl) rfl rfl rfl rfl rfl ?_
  exact g_ret f_0_34 rt_0 rfl
theorem ct_open : x_Ct 16 1 k_open := by
  intro A d hA
  rw [ml_16, show x_def 1 = [.null, .null, .null, .int 0, .int 0] from rfl]
  refine g_aload f_16_0 rfl (by omega) (g_d2f f_16_1 (by omega) (Nat.zero_le _) ?_)
  refine g_arr (N := 4) (q := A.length + 1) rfl hA f_16_4 f_16_5 f_16_6 f_16_8 (by decide) (by omega) kd_16 rfl (Nat.le_of_ble_eq_true rfl) rfl rfl rfl rfl rfl ?_
  refine g_arr (N := 2) (q := A.length + 2) rfl hA f_16_11 f_16_12 f_16_13 f_16_15 (by decide) (by omega) kd_16 rfl (Nat.le_of_ble_eq_true rfl) rfl rfl rfl rfl rfl ?_
  refine g_arr (N := 16384) (q := A.length + 3) rfl hA f_16_18 f_16_19 f_16_22 f_16_24 (by decide) (by omega) kd_16 rfl (Nat.le_of_ble_eq_true rfl) rfl rfl rfl rfl rfl ?_
  exact g_ret f_16_27 rt_16 rfl
