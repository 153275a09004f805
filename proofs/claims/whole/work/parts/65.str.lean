/-! the two words: String.length, charAt -/
section STR
variable {xs : List Int32} {d y pc nx : Nat} {L K : List Value} {S : x_M} {Q : Option Value → x_M → Prop}
theorem e_gfo {e p : Nat} {v : Value} {fs : List Value} (hf : x_fe y pc = some (.getfield e, nx)) (hp : p < 8) (ho : (x_old xs)[p]? = some (8, fs)) (he : 8 = e / 32) (hv : fs[e % 32]? = some v) (k : x_E xs d y nx L (v :: K) S Q) : x_E xs d y pc L (.ref p :: K) S Q := by
  refine x_E_step hf rfl ?_ k
  simp only [x_step]
  rw [x_hp_o hp, ho]
  simp only [if_pos he, hv]
theorem e_bao {p j : Nat} {v : Int32} {vs : List Value} (hf : x_fe y pc = some (.baload, nx)) (hp : p < 8) (ho : (x_old xs)[p]? = some (14, vs)) (hj : j < 2 ^ 31) (hv : vs[j]? = some (.int v)) (k : x_E xs d y nx L (.int v :: K) S Q) : x_E xs d y pc L (.int (nI j) :: .ref p :: K) S Q := by
  refine x_E_step hf rfl ?_ k
  simp only [x_step]
  rw [x_hp_o hp, ho]
  simp only [nI_clamp hj]
  rw [if_pos ⟨by trivial, nI_pos hj⟩, hv]
theorem e_alb {p : Nat} {vs : List Value} (hf : x_fe y pc = some (.arraylength, nx)) (hp : p < 8) (ho : (x_old xs)[p]? = some (14, vs)) (k : x_E xs d y nx L (.int (nI vs.length) :: K) S Q) : x_E xs d y pc L (.ref p :: K) S Q := by
  refine x_E_step hf rfl ?_ k
  simp only [x_step]
  rw [x_hp_o hp, ho]
  simp only
  rw [if_pos (by omega)]
  rfl
theorem e_gs2 (hf : x_fe y pc = some (.getstatic 2, nx)) (k : x_E xs d y nx L (.int 1 :: K) S Q) : x_E xs d y pc L K S Q := x_E_step hf rfl rfl k
theorem e_gs3 (hf : x_fe y pc = some (.getstatic 3, nx)) (k : x_E xs d y nx L (.ref 7 :: K) S Q) : x_E xs d y pc L K S Q := x_E_step hf rfl rfl k
end STR
section STR2
variable {xs : List Int32} {d : Nat} {S : x_M}
theorem c_coder {a q : Nat} (ha : a = 3 ∨ a = 4) (ho : (x_old xs)[a]? = some (8, [.ref q, .int 0])) : x_Cr xs (d + 1) 174 [.ref a] S 0 := by
  refine x_Ci_of (L := [.ref a]) (by rw [ml_174]; rfl) ?_
  refine e_gs2 f_174_0 (e_if f_174_3 (fun h => absurd h (by decide)) (fun _ => ?_))
  refine e_aload f_174_6 rfl (by omega) (e_gfo f_174_7 (by omega) ho (by decide) rfl ?_)
  exact e_goto f_174_10 (e_ireturn f_174_14 rt_174 (by decide) ⟨_, rfl, rfl, rfl⟩)
theorem c_latin {a q : Nat} (ha : a = 3 ∨ a = 4) (ho : (x_old xs)[a]? = some (8, [.ref q, .int 0])) : x_Cr xs (d + 1) 176 [.ref a] S 1 := by
  refine x_Ci_of (L := [.ref a]) (by rw [ml_176]; rfl) ?_
  refine e_gs2 f_176_0 (e_if f_176_3 (fun h => absurd h (by decide)) (fun _ => ?_))
  refine e_aload f_176_6 rfl (by omega) (e_gfo f_176_7 (by omega) ho (by decide) rfl ?_)
  refine e_if f_176_10 (fun h => absurd h (by decide)) (fun _ => ?_)
  refine e_iconst (c := 1) f_176_13 (by decide) (e_goto f_176_14 ?_)
  exact e_ireturn f_176_18 rt_176 (by decide) ⟨_, rfl, rfl, rfl⟩
theorem c_strlen {a q : Nat} {vs : List Value} (ha : a = 3 ∨ a = 4) (ho : (x_old xs)[a]? = some (8, [.ref q, .int 0])) (hq : q < 8) (hq7 : q ≠ 7) (hv : (x_old xs)[q]? = some (14, vs)) : x_Cr xs (d + 2) 173 [.ref a] S (nI vs.length >>> (0 &&& 31)) := by
  refine x_Ci_of (L := [.ref a]) (by rw [ml_173]; rfl) ?_
  refine e_aload f_173_0 rfl (by omega) (e_gfo f_173_1 (by omega) ho (by decide) rfl ?_)
  refine e_alb f_173_4 hq hv ?_
  refine e_aload f_173_5 rfl (by omega) ?_
  refine e_wi (n := 1) (A := [.ref a]) (R := [.int (nI vs.length)]) f_173_6 na_174 rfl rfl (Nat.le_of_ble_eq_true rfl) (Nat.le_of_ble_eq_true rfl) (by rw [ml_174]; exact Nat.le_of_ble_eq_true rfl) rfl ha (by rw [cy_174]) (c_coder ha ho) (fun v S' hp => ?_)
  obtain ⟨rfl, rfl⟩ := hp
  refine e_ishr f_173_9 ?_
  exact e_ireturn f_173_10 rt_173 rfl ⟨_, rfl, rfl, rfl⟩
theorem c_chkIx {k n : Nat} (hk : k < n) (hn : n < 2 ^ 31) : x_Cr xs (d + 1) 183 [.int (nI k), .int (nI n), .ref 7] S (nI k) := by
  refine x_Ci_of (L := [.int (nI k), .int (nI n), .ref 7]) (by rw [ml_183]; rfl) ?_
  refine e_iload f_183_0 rfl (e_if f_183_1 (fun h => absurd (x_cct_lt h) (nI_pos (by omega))) (fun _ => ?_))
  refine e_iload f_183_4 rfl (e_iload f_183_5 rfl (e_icmp f_183_6 (fun _ => ?_) (fun h => absurd (nI_lt hk hn) (x_ccf_lt h))))
  refine e_iload f_183_16 rfl ?_
  exact e_ireturn f_183_17 rt_183 rfl ⟨_, rfl, rfl, rfl⟩
theorem c_chkStr {k n : Nat} (hk : k < n) (hn : n < 2 ^ 31) : x_Cv xs (d + 2) 177 [.int (nI k), .int (nI n)] S (fun S' => S' = S) := by
  refine x_Cv_of (L := [.int (nI k), .int (nI n)]) (by rw [ml_177]; rfl) ?_
  refine e_iload f_177_0 rfl (e_iload f_177_1 rfl (e_gs3 f_177_2 ?_))
  refine e_si (n := 3) (A := [.int (nI k), .int (nI n), .ref 7]) (R := []) f_177_5 na_183 rfl rfl (Nat.le_of_ble_eq_true rfl) (Nat.le_of_ble_eq_true rfl) (by rw [ml_183]; exact Nat.le_of_ble_eq_true rfl) (c_chkIx hk hn) (fun v S' hp => ?_)
  obtain ⟨rfl, rfl⟩ := hp
  refine e_pop f_177_8 rfl ?_
  exact e_return f_177_9 rt_177 ⟨rfl, rfl⟩
theorem c_chL {q k : Nat} {vs : List Value} {b : Int32} (hq : q < 8) (hq7 : q ≠ 7) (hv : (x_old xs)[q]? = some (14, vs)) (hk : k < vs.length) (hn : vs.length < 2 ^ 31) (hb : vs[k]? = some (.int b)) (h1 : (Int32.toUInt32 (b &&& 255) % 65536).toInt32 = b) (h2 : narrow .char (.int b) = .int b) : x_Cr xs (d + 3) 178 [.ref q, .int (nI k)] S b := by
  refine x_Ci_of (L := [.ref q, .int (nI k)]) (by rw [ml_178]; rfl) ?_
  refine e_iload f_178_0 rfl (e_aload f_178_1 rfl hq7 (e_alb f_178_2 hq hv ?_))
  refine e_sv (n := 2) (A := [.int (nI k), .int (nI vs.length)]) (R := []) f_178_3 na_177 rfl rfl (Nat.le_of_ble_eq_true rfl) (Nat.le_of_ble_eq_true rfl) (by rw [ml_177]; exact Nat.le_of_ble_eq_true rfl) (c_chkStr hk hn) (fun S' hp => ?_)
  subst hp
  refine e_aload f_178_6 rfl hq7 (e_iload f_178_7 rfl (e_bao f_178_8 hq hv (by omega) hb ?_))
  refine e_iconst (c := 255) f_178_9 (by decide) (e_iand f_178_12 (e_i2c f_178_13 ?_))
  rw [h1]
  exact e_ireturn f_178_14 rt_178 h2 ⟨_, rfl, rfl, rfl⟩
theorem c_chr {a q k : Nat} {vs : List Value} {b : Int32} (ha : a = 3 ∨ a = 4) (ho : (x_old xs)[a]? = some (8, [.ref q, .int 0])) (hq : q < 8) (hq7 : q ≠ 7) (hv : (x_old xs)[q]? = some (14, vs)) (hk : k < vs.length) (hn : vs.length < 2 ^ 31) (hb : vs[k]? = some (.int b)) (h1 : (Int32.toUInt32 (b &&& 255) % 65536).toInt32 = b) (h2 : narrow .char (.int b) = .int b) : x_Cr xs (d + 4) 175 [.ref a, .int (nI k)] S b := by
  refine x_Ci_of (L := [.ref a, .int (nI k)]) (by rw [ml_175]; rfl) ?_
  refine e_aload f_175_0 rfl (by omega) ?_
  refine e_wi (n := 1) (A := [.ref a]) (R := []) f_175_1 na_176 rfl rfl (Nat.le_of_ble_eq_true rfl) (Nat.le_of_ble_eq_true rfl) (by rw [ml_176]; exact Nat.le_of_ble_eq_true rfl) rfl ha (by rw [cy_176]) (c_latin ha ho) (fun v S' hp => ?_)
  obtain ⟨rfl, rfl⟩ := hp
  refine e_if f_175_4 (fun h => absurd h (by decide)) (fun _ => ?_)
  refine e_aload f_175_7 rfl (by omega) (e_gfo f_175_8 (by omega) ho (by decide) rfl (e_iload f_175_11 rfl ?_))
  refine e_si (n := 2) (A := [.ref q, .int (nI k)]) (R := []) f_175_12 na_178 rfl rfl (Nat.le_of_ble_eq_true rfl) (Nat.le_of_ble_eq_true rfl) (by rw [ml_178]; exact Nat.le_of_ble_eq_true rfl) (c_chL hq hq7 hv hk hn hb h1 h2) (fun v S' hp => ?_)
  obtain ⟨rfl, rfl⟩ := hp
  exact e_ireturn f_175_15 rt_175 h2 ⟨_, rfl, rfl, rfl⟩
/-- the words, by numbers -/
def t_w (a : Nat) : List Nat := if a = 3 then [116, 97, 98, 108, 101] else [99, 97, 114, 100]
theorem c_wlen {a : Nat} (ha : a = 3 ∨ a = 4) : x_Cr xs (d + 2) 173 [.ref a] S (nI (t_w a).length) := by
  rcases ha with rfl | rfl
  · have h := c_strlen (xs := xs) (d := d) (S := S) (a := 3) (q := 5) (Or.inl rfl) rfl (by omega) (by omega) rfl
    exact h
  · have h := c_strlen (xs := xs) (d := d) (S := S) (a := 4) (q := 6) (Or.inr rfl) rfl (by omega) (by omega) rfl
    exact h
theorem c_wchr {a k : Nat} (ha : a = 3 ∨ a = 4) (hk : k < (t_w a).length) : x_Cr xs (d + 4) 175 [.ref a, .int (nI k)] S (nI ((t_w a).getD k 0)) := by
  rcases ha with rfl | rfl
  · have hk : k < 5 := hk
    rcases (by omega : k = 0 ∨ k = 1 ∨ k = 2 ∨ k = 3 ∨ k = 4) with rfl | rfl | rfl | rfl | rfl
    · exact c_chr (q := 5) (Or.inl rfl) rfl (by omega) (by omega) rfl (by decide) (by decide) rfl (by decide) (by decide)
    · exact c_chr (q := 5) (Or.inl rfl) rfl (by omega) (by omega) rfl (by decide) (by decide) rfl (by decide) (by decide)
    · exact c_chr (q := 5) (Or.inl rfl) rfl (by omega) (by omega) rfl (by decide) (by decide) rfl (by decide) (by decide)
    · exact c_chr (q := 5) (Or.inl rfl) rfl (by omega) (by omega) rfl (by decide) (by decide) rfl (by decide) (by decide)
    · exact c_chr (q := 5) (Or.inl rfl) rfl (by omega) (by omega) rfl (by decide) (by decide) rfl (by decide) (by decide)
  · have hk : k < 4 := hk
    rcases (by omega : k = 0 ∨ k = 1 ∨ k = 2 ∨ k = 3) with rfl | rfl | rfl | rfl
    · exact c_chr (q := 6) (Or.inr rfl) rfl (by omega) (by omega) rfl (by decide) (by decide) rfl (by decide) (by decide)
    · exact c_chr (q := 6) (Or.inr rfl) rfl (by omega) (by omega) rfl (by decide) (by decide) rfl (by decide) (by decide)
    · exact c_chr (q := 6) (Or.inr rfl) rfl (by omega) (by omega) rfl (by decide) (by decide) rfl (by decide) (by decide)
    · exact c_chr (q := 6) (Or.inr rfl) rfl (by omega) (by omega) rfl (by decide) (by decide) rfl (by decide) (by decide)
end STR2
