set_option maxRecDepth 20000 in
theorem T_124_0 {xs : List Int32} {d : Nat} {S : x_M} {Q : Option Value → x_M → Prop} {a1 : Int32} {a2 : Int32}  (hV : ∃ P1 : Int32 → x_M → Prop, x_Ci xs d 125 [.ref 56, .int a1] S P1 ∧ ∀ (v1 : Int32) (S1 : x_M), P1 v1 S1 → (if v1 = 0 then (Q (some (.int (-1000001))) S1) else (∃ P2 : Int32 → x_M → Prop, x_Ci xs d 126 [.int a2] S1 P2 ∧ ∀ (v2 : Int32) (S2 : x_M), P2 v2 S2 → (if v2 = 0 then (Q (some (.int (-1000001))) S2) else ((x_ib ((8 * a1) + a2) 112) ∧ (Q (some (.int (S2 66 (Int32.toNatClampNeg ((8 * a1) + a2))))) S2)))))) : x_E xs (d + 1) 124 0 [.ref 56, .int a1, .int a2] [] S Q := by
  refine e_aload f_124_0 rfl (by decide) ?_
  refine e_iload f_124_1 rfl ?_
  obtain ⟨P1, hP1, hV⟩ := hV
  refine e_vi (n := 2) (A := [.ref 56, .int a1]) (R := []) f_124_2 na_125 rfl rfl (Nat.le_of_ble_eq_true rfl) (Nat.le_of_ble_eq_true rfl) (by rw [ml_125]; exact Nat.le_of_ble_eq_true rfl) rfl (by rw [cy_125]; decide) (by rw [cy_125]; exact (by decide : x_tg 56 = 6)) hP1 (fun v1 S1 hp1 => ?_)
  have hV := hV v1 S1 hp1
  refine e_if f_124_5 (fun hc => ?_) (fun hc => ?_)
  · have hc : v1 = 0 := of_decide_eq_true hc
    rw [if_pos hc] at hV
    refine e_iconst (c := (-1000001)) f_124_29 (by decide) ?_
    exact e_ireturn f_124_31 rt_124 rfl hV
  · have hc : ¬ v1 = 0 := fun z => hc (decide_eq_true z)
    rw [if_neg hc] at hV
    refine e_iload f_124_8 rfl ?_
    obtain ⟨P2, hP2, hV⟩ := hV
    refine e_si (n := 1) (A := [.int a2]) (R := []) f_124_9 na_126 rfl rfl (Nat.le_of_ble_eq_true rfl) (Nat.le_of_ble_eq_true rfl) (by rw [ml_126]; exact Nat.le_of_ble_eq_true rfl) hP2 (fun v2 S2 hp2 => ?_)
    have hV := hV v2 S2 hp2
    refine e_if f_124_12 (fun hc => ?_) (fun hc => ?_)
    · have hc : v2 = 0 := of_decide_eq_true hc
      rw [if_pos hc] at hV
      refine e_iconst (c := (-1000001)) f_124_29 (by decide) ?_
      exact e_ireturn f_124_31 rt_124 rfl hV
    · have hc : ¬ v2 = 0 := fun z => hc (decide_eq_true z)
      rw [if_neg hc] at hV
      refine e_aload f_124_15 rfl (by decide) ?_
      refine e_gr (c := 6) (j := 17) (r := 66) f_124_16 (by decide) (by decide) (by decide) (by decide) ?_
      refine e_iconst (c := 8) f_124_19 (by decide) ?_
      refine e_iload f_124_21 rfl ?_
      refine e_imul f_124_22 ?_
      refine e_iload f_124_23 rfl ?_
      refine e_iadd f_124_24 ?_
      obtain ⟨hg, hV⟩ := hV
      refine e_ia (n := 112) f_124_25 (by decide) (by decide) hg ?_
      refine e_goto f_124_26 ?_
      exact e_ireturn f_124_31 rt_124 rfl hV
set_option maxRecDepth 20000 in
theorem T_125_0 {xs : List Int32} {d : Nat} {S : x_M} {Q : Option Value → x_M → Prop} {a1 : Int32}  (hV : ∃ P1 : Int32 → x_M → Prop, x_Ci xs d 101 [.long (Int32.toInt64 a1), .long 0, .long (Int32.toInt64 ((S 57 1) - 1))] S P1 ∧ ∀ (v1 : Int32) (S1 : x_M), P1 v1 S1 → ((v1 = 0 ∨ v1 = 1) ∧ Q (some (.int v1)) S1)) : x_E xs (d + 1) 125 0 [.ref 56, .int a1] [] S Q := by
  refine e_iload f_125_0 rfl ?_
  refine e_i2l f_125_1 ?_
  refine e_lconst (c := 0) f_125_2 (by decide) ?_
  refine e_aload f_125_3 rfl (by decide) ?_
  refine e_gr (c := 6) (j := 0) (r := 57) f_125_4 (by decide) (by decide) (by decide) (by decide) ?_
  refine e_iconst (c := 1) f_125_7 (by decide) ?_
  refine e_iak (n := 99) (kk := 1) f_125_8 (by decide) (by decide) (by decide) ?_
  refine e_iconst (c := 1) f_125_9 (by decide) ?_
  refine e_isub f_125_10 ?_
  refine e_i2l f_125_11 ?_
  obtain ⟨P1, hP1, hV⟩ := hV
  refine e_si (n := 3) (A := [.long (Int32.toInt64 a1), .long 0, .long (Int32.toInt64 ((S 57 1) - 1))]) (R := []) f_125_12 na_101 rfl rfl (Nat.le_of_ble_eq_true rfl) (Nat.le_of_ble_eq_true rfl) (by rw [ml_101]; exact Nat.le_of_ble_eq_true rfl) hP1 (fun v1 S1 hp1 => ?_)
  have hV := hV v1 S1 hp1
  obtain ⟨hg, hV⟩ := hV
  exact e_ireturn f_125_15 rt_125 (x_nz hg) hV
set_option maxRecDepth 20000 in
theorem T_126_0 {xs : List Int32} {d : Nat} {S : x_M} {Q : Option Value → x_M → Prop} {a0 : Int32}  (hV : ∃ P1 : Int32 → x_M → Prop, x_Ci xs d 101 [.long (Int32.toInt64 a0), .long 0, .long 7] S P1 ∧ ∀ (v1 : Int32) (S1 : x_M), P1 v1 S1 → ((v1 = 0 ∨ v1 = 1) ∧ Q (some (.int v1)) S1)) : x_E xs (d + 1) 126 0 [.int a0] [] S Q := by
  refine e_iload f_126_0 rfl ?_
  refine e_i2l f_126_1 ?_
  refine e_lconst (c := 0) f_126_2 (by decide) ?_
  refine e_lconst (c := 7) f_126_3 (by decide) ?_
  obtain ⟨P1, hP1, hV⟩ := hV
  refine e_si (n := 3) (A := [.long (Int32.toInt64 a0), .long 0, .long 7]) (R := []) f_126_6 na_101 rfl rfl (Nat.le_of_ble_eq_true rfl) (Nat.le_of_ble_eq_true rfl) (by rw [ml_101]; exact Nat.le_of_ble_eq_true rfl) hP1 (fun v1 S1 hp1 => ?_)
  have hV := hV v1 S1 hp1
  obtain ⟨hg, hV⟩ := hV
  exact e_ireturn f_126_9 rt_126 (x_nz hg) hV
set_option maxRecDepth 20000 in
theorem T_127_0 {xs : List Int32} {d : Nat} {S : x_M} {Q : Option Value → x_M → Prop} {a1 : Int32}  (hV : if (S 57 0) = 0 then (Q (some (.int (-1000002))) S) else (∃ P1 : Int32 → x_M → Prop, x_Ci xs d 128 [.int a1] S P1 ∧ ∀ (v1 : Int32) (S1 : x_M), P1 v1 S1 → (if v1 = 0 then (Q (some (.int (-1000001))) S1) else (∃ P2 : Int32 → x_M → Prop, x_Ci xs d 129 [.ref 56, .int a1] S1 P2 ∧ ∀ (v2 : Int32) (S2 : x_M), P2 v2 S2 → (Q (some (.int v2)) S2))))) : x_E xs (d + 1) 127 0 [.ref 56, .int a1] [] S Q := by
  refine e_aload f_127_0 rfl (by decide) ?_
  refine e_gr (c := 6) (j := 0) (r := 57) f_127_1 (by decide) (by decide) (by decide) (by decide) ?_
  refine e_iconst (c := 0) f_127_4 (by decide) ?_
  refine e_iak (n := 99) (kk := 0) f_127_5 (by decide) (by decide) (by decide) ?_
  refine e_if f_127_6 (fun hc => ?_) (fun hc => ?_)
  · have hc : ¬ (S 57 0) = 0 := of_decide_eq_true hc
    rw [if_neg hc] at hV
    refine e_iload f_127_14 rfl ?_
    obtain ⟨P1, hP1, hV⟩ := hV
    refine e_si (n := 1) (A := [.int a1]) (R := []) f_127_15 na_128 rfl rfl (Nat.le_of_ble_eq_true rfl) (Nat.le_of_ble_eq_true rfl) (by rw [ml_128]; exact Nat.le_of_ble_eq_true rfl) hP1 (fun v1 S1 hp1 => ?_)
    have hV := hV v1 S1 hp1
    refine e_if f_127_18 (fun hc => ?_) (fun hc => ?_)
    · have hc : v1 = 0 := of_decide_eq_true hc
      rw [if_pos hc] at hV
      refine e_iconst (c := (-1000001)) f_127_29 (by decide) ?_
      exact e_ireturn f_127_31 rt_127 rfl hV
    · have hc : ¬ v1 = 0 := fun z => hc (decide_eq_true z)
      rw [if_neg hc] at hV
      refine e_aload f_127_21 rfl (by decide) ?_
      refine e_iload f_127_22 rfl ?_
      obtain ⟨P2, hP2, hV⟩ := hV
      refine e_vi (n := 2) (A := [.ref 56, .int a1]) (R := []) f_127_23 na_129 rfl rfl (Nat.le_of_ble_eq_true rfl) (Nat.le_of_ble_eq_true rfl) (by rw [ml_129]; exact Nat.le_of_ble_eq_true rfl) rfl (by rw [cy_129]; decide) (by rw [cy_129]; exact (by decide : x_tg 56 = 6)) hP2 (fun v2 S2 hp2 => ?_)
      have hV := hV v2 S2 hp2
      refine e_goto f_127_26 ?_
      exact e_ireturn f_127_31 rt_127 rfl hV
  · have hc : (S 57 0) = 0 := Decidable.not_not.mp (fun z => hc (decide_eq_true z))
    rw [if_pos hc] at hV
    refine e_iconst (c := (-1000002)) f_127_9 (by decide) ?_
    refine e_goto f_127_11 ?_
    exact e_ireturn f_127_31 rt_127 rfl hV
set_option maxRecDepth 20000 in
theorem T_128_0 {xs : List Int32} {d : Nat} {S : x_M} {Q : Option Value → x_M → Prop} {a0 : Int32}  (hV : ∃ P1 : Int32 → x_M → Prop, x_Ci xs d 101 [.long (Int32.toInt64 a0), .long 0, .long 511] S P1 ∧ ∀ (v1 : Int32) (S1 : x_M), P1 v1 S1 → ((v1 = 0 ∨ v1 = 1) ∧ Q (some (.int v1)) S1)) : x_E xs (d + 1) 128 0 [.int a0] [] S Q := by
  refine e_iload f_128_0 rfl ?_
  refine e_i2l f_128_1 ?_
  refine e_lconst (c := 0) f_128_2 (by decide) ?_
  refine e_lconst (c := 511) f_128_3 (by decide) ?_
  obtain ⟨P1, hP1, hV⟩ := hV
  refine e_si (n := 3) (A := [.long (Int32.toInt64 a0), .long 0, .long 511]) (R := []) f_128_6 na_101 rfl rfl (Nat.le_of_ble_eq_true rfl) (Nat.le_of_ble_eq_true rfl) (by rw [ml_101]; exact Nat.le_of_ble_eq_true rfl) hP1 (fun v1 S1 hp1 => ?_)
  have hV := hV v1 S1 hp1
  obtain ⟨hg, hV⟩ := hV
  exact e_ireturn f_128_9 rt_128 (x_nz hg) hV
set_option maxRecDepth 20000 in
theorem T_129_0 {xs : List Int32} {d : Nat} {S : x_M} {Q : Option Value → x_M → Prop} {a1 : Int32}  (hV : x_E xs (d + 1) 129 4 [.ref 56, .int a1, .int 0, .int 0] [] S Q) : x_E xs (d + 1) 129 0 [.ref 56, .int a1, .null, .null] [] S Q := by
  refine e_iconst (c := 0) f_129_0 (by decide) ?_
  refine e_istore (L' := [.ref 56, .int a1, .int 0, .null]) f_129_1 (Nat.le_of_ble_eq_true rfl) rfl ?_
  refine e_iconst (c := 0) f_129_2 (by decide) ?_
  refine e_istore (L' := [.ref 56, .int a1, .int 0, .int 0]) f_129_3 (Nat.le_of_ble_eq_true rfl) rfl ?_
  exact hV
set_option maxRecDepth 20000 in
theorem T_129_4 {xs : List Int32} {d : Nat} {S : x_M} {Q : Option Value → x_M → Prop} {a1 : Int32} {a2 : Int32} {a3 : Int32}  (hV : if (9 : Int32) ≤ a3 then (Q (some (.int a2)) S) else (∃ P1 : Int32 → x_M → Prop, x_Ci xs d 122 [.int a1, .int a3] S P1 ∧ ∀ (v1 : Int32) (S1 : x_M), P1 v1 S1 → (if v1 = 0 then (x_E xs (d + 1) 129 4 [.ref 56, .int a1, .int (a2 + 0), .int (a3 + 1)] [] S1 Q) else ((x_ib (16 + a3) 99) ∧ (x_E xs (d + 1) 129 4 [.ref 56, .int a1, .int (a2 + (S1 57 (Int32.toNatClampNeg (16 + a3)))), .int (a3 + 1)] [] S1 Q))))) : x_E xs (d + 1) 129 4 [.ref 56, .int a1, .int a2, .int a3] [] S Q := by
  refine e_iload f_129_4 rfl ?_
  refine e_iconst (c := 9) f_129_5 (by decide) ?_
  refine e_icmp f_129_7 (fun hc => ?_) (fun hc => ?_)
  · have hc : (9 : Int32) ≤ a3 := of_decide_eq_true hc
    rw [if_pos hc] at hV
    refine e_iload f_129_40 rfl ?_
    exact e_ireturn f_129_41 rt_129 rfl hV
  · have hc : ¬ (9 : Int32) ≤ a3 := fun z => hc (decide_eq_true z)
    rw [if_neg hc] at hV
    refine e_iload f_129_10 rfl ?_
    refine e_iload f_129_11 rfl ?_
    refine e_iload f_129_12 rfl ?_
    obtain ⟨P1, hP1, hV⟩ := hV
    refine e_si (n := 2) (A := [.int a1, .int a3]) (R := [.int a2]) f_129_13 na_122 rfl rfl (Nat.le_of_ble_eq_true rfl) (Nat.le_of_ble_eq_true rfl) (by rw [ml_122]; exact Nat.le_of_ble_eq_true rfl) hP1 (fun v1 S1 hp1 => ?_)
    have hV := hV v1 S1 hp1
    refine e_if f_129_16 (fun hc => ?_) (fun hc => ?_)
    · have hc : v1 = 0 := of_decide_eq_true hc
      rw [if_pos hc] at hV
      refine e_iconst (c := 0) f_129_31 (by decide) ?_
      refine e_iadd f_129_32 ?_
      refine e_istore (L' := [.ref 56, .int a1, .int (a2 + 0), .int a3]) f_129_33 (Nat.le_of_ble_eq_true rfl) rfl ?_
      refine e_inc (c := 1) (L' := [.ref 56, .int a1, .int (a2 + 0), .int (a3 + 1)]) f_129_34 rfl (by decide) rfl ?_
      refine e_goto f_129_37 ?_
      exact hV
    · have hc : ¬ v1 = 0 := fun z => hc (decide_eq_true z)
      rw [if_neg hc] at hV
      refine e_aload f_129_19 rfl (by decide) ?_
      refine e_gr (c := 6) (j := 0) (r := 57) f_129_20 (by decide) (by decide) (by decide) (by decide) ?_
      refine e_iconst (c := 16) f_129_23 (by decide) ?_
      refine e_iload f_129_25 rfl ?_
      refine e_iadd f_129_26 ?_
      obtain ⟨hg, hV⟩ := hV
      refine e_ia (n := 99) f_129_27 (by decide) (by decide) hg ?_
      refine e_goto f_129_28 ?_
      refine e_iadd f_129_32 ?_
      refine e_istore (L' := [.ref 56, .int a1, .int (a2 + (S1 57 (Int32.toNatClampNeg (16 + a3)))), .int a3]) f_129_33 (Nat.le_of_ble_eq_true rfl) rfl ?_
      refine e_inc (c := 1) (L' := [.ref 56, .int a1, .int (a2 + (S1 57 (Int32.toNatClampNeg (16 + a3)))), .int (a3 + 1)]) f_129_34 rfl (by decide) rfl ?_
      refine e_goto f_129_37 ?_
      exact hV
set_option maxRecDepth 20000 in
theorem T_130_0 {xs : List Int32} {d : Nat} {S : x_M} {Q : Option Value → x_M → Prop} {a1 : Int32} {a2 : Int32}  (hV : ∃ P1 : Int32 → x_M → Prop, x_Ci xs d 125 [.ref 56, .int a1] S P1 ∧ ∀ (v1 : Int32) (S1 : x_M), P1 v1 S1 → (if v1 = 0 then (Q (some (.int (-1000001))) S1) else (∃ P2 : Int32 → x_M → Prop, x_Ci xs d 126 [.int a2] S1 P2 ∧ ∀ (v2 : Int32) (S2 : x_M), P2 v2 S2 → (if v2 = 0 then (Q (some (.int (-1000001))) S2) else (∃ P3 : Int32 → x_M → Prop, x_Ci xs d 131 [.ref 56, .int a1] S2 P3 ∧ ∀ (v3 : Int32) (S3 : x_M), P3 v3 S3 → (if v3 = 0 then (Q (some (.int (-1000002))) S3) else (∃ P4 : Int32 → x_M → Prop, x_Ci xs d 132 [.ref 56, .int ((8 * a1) + a2)] S3 P4 ∧ ∀ (v4 : Int32) (S4 : x_M), P4 v4 S4 → (Q (some (.int v4)) S4)))))))) : x_E xs (d + 1) 130 0 [.ref 56, .int a1, .int a2] [] S Q := by
  refine e_aload f_130_0 rfl (by decide) ?_
  refine e_iload f_130_1 rfl ?_
  obtain ⟨P1, hP1, hV⟩ := hV
  refine e_vi (n := 2) (A := [.ref 56, .int a1]) (R := []) f_130_2 na_125 rfl rfl (Nat.le_of_ble_eq_true rfl) (Nat.le_of_ble_eq_true rfl) (by rw [ml_125]; exact Nat.le_of_ble_eq_true rfl) rfl (by rw [cy_125]; decide) (by rw [cy_125]; exact (by decide : x_tg 56 = 6)) hP1 (fun v1 S1 hp1 => ?_)
  have hV := hV v1 S1 hp1
  refine e_if f_130_5 (fun hc => ?_) (fun hc => ?_)
  · have hc : v1 = 0 := of_decide_eq_true hc
    rw [if_pos hc] at hV
    refine e_iconst (c := (-1000001)) f_130_15 (by decide) ?_
    exact e_ireturn f_130_17 rt_130 rfl hV
  · have hc : ¬ v1 = 0 := fun z => hc (decide_eq_true z)
    rw [if_neg hc] at hV
    refine e_iload f_130_8 rfl ?_
    obtain ⟨P2, hP2, hV⟩ := hV
    refine e_si (n := 1) (A := [.int a2]) (R := []) f_130_9 na_126 rfl rfl (Nat.le_of_ble_eq_true rfl) (Nat.le_of_ble_eq_true rfl) (by rw [ml_126]; exact Nat.le_of_ble_eq_true rfl) hP2 (fun v2 S2 hp2 => ?_)
    have hV := hV v2 S2 hp2
    refine e_if f_130_12 (fun hc => ?_) (fun hc => ?_)
    · have hc : ¬ v2 = 0 := of_decide_eq_true hc
      rw [if_neg hc] at hV
      refine e_aload f_130_18 rfl (by decide) ?_
      refine e_iload f_130_19 rfl ?_
      obtain ⟨P3, hP3, hV⟩ := hV
      refine e_vi (n := 2) (A := [.ref 56, .int a1]) (R := []) f_130_20 na_131 rfl rfl (Nat.le_of_ble_eq_true rfl) (Nat.le_of_ble_eq_true rfl) (by rw [ml_131]; exact Nat.le_of_ble_eq_true rfl) rfl (by rw [cy_131]; decide) (by rw [cy_131]; exact (by decide : x_tg 56 = 6)) hP3 (fun v3 S3 hp3 => ?_)
      have hV := hV v3 S3 hp3
      refine e_if f_130_23 (fun hc => ?_) (fun hc => ?_)
      · have hc : v3 = 0 := of_decide_eq_true hc
        rw [if_pos hc] at hV
        refine e_iconst (c := (-1000002)) f_130_39 (by decide) ?_
        exact e_ireturn f_130_41 rt_130 rfl hV
      · have hc : ¬ v3 = 0 := fun z => hc (decide_eq_true z)
        rw [if_neg hc] at hV
        refine e_aload f_130_26 rfl (by decide) ?_
        refine e_iconst (c := 8) f_130_27 (by decide) ?_
        refine e_iload f_130_29 rfl ?_
        refine e_imul f_130_30 ?_
        refine e_iload f_130_31 rfl ?_
        refine e_iadd f_130_32 ?_
        obtain ⟨P4, hP4, hV⟩ := hV
        refine e_vi (n := 2) (A := [.ref 56, .int ((8 * a1) + a2)]) (R := []) f_130_33 na_132 rfl rfl (Nat.le_of_ble_eq_true rfl) (Nat.le_of_ble_eq_true rfl) (by rw [ml_132]; exact Nat.le_of_ble_eq_true rfl) rfl (by rw [cy_132]; decide) (by rw [cy_132]; exact (by decide : x_tg 56 = 6)) hP4 (fun v4 S4 hp4 => ?_)
        have hV := hV v4 S4 hp4
        refine e_goto f_130_36 ?_
        exact e_ireturn f_130_41 rt_130 rfl hV
    · have hc : v2 = 0 := Decidable.not_not.mp (fun z => hc (decide_eq_true z))
      rw [if_pos hc] at hV
      refine e_iconst (c := (-1000001)) f_130_15 (by decide) ?_
      exact e_ireturn f_130_17 rt_130 rfl hV
set_option maxRecDepth 20000 in
theorem T_131_0 {xs : List Int32} {d : Nat} {S : x_M} {Q : Option Value → x_M → Prop} {a1 : Int32}  (hV : (x_ib (30 + (S 57 27)) 99) ∧ (∃ P1 : Int32 → x_M → Prop, x_Ci xs d 122 [.int (S 57 (Int32.toNatClampNeg (30 + (S 57 27)))), .int a1] S P1 ∧ ∀ (v1 : Int32) (S1 : x_M), P1 v1 S1 → ((v1 = 0 ∨ v1 = 1) ∧ Q (some (.int v1)) S1))) : x_E xs (d + 1) 131 0 [.ref 56, .int a1] [] S Q := by
  refine e_aload f_131_0 rfl (by decide) ?_
  refine e_gr (c := 6) (j := 0) (r := 57) f_131_1 (by decide) (by decide) (by decide) (by decide) ?_
  refine e_iconst (c := 30) f_131_4 (by decide) ?_
  refine e_aload f_131_6 rfl (by decide) ?_
  refine e_gr (c := 6) (j := 0) (r := 57) f_131_7 (by decide) (by decide) (by decide) (by decide) ?_
  refine e_iconst (c := 27) f_131_10 (by decide) ?_
  refine e_iak (n := 99) (kk := 27) f_131_12 (by decide) (by decide) (by decide) ?_
  refine e_iadd f_131_13 ?_
  obtain ⟨hg, hV⟩ := hV
  refine e_ia (n := 99) f_131_14 (by decide) (by decide) hg ?_
  refine e_iload f_131_15 rfl ?_
  obtain ⟨P1, hP1, hV⟩ := hV
  refine e_si (n := 2) (A := [.int (S 57 (Int32.toNatClampNeg (30 + (S 57 27)))), .int a1]) (R := []) f_131_16 na_122 rfl rfl (Nat.le_of_ble_eq_true rfl) (Nat.le_of_ble_eq_true rfl) (by rw [ml_122]; exact Nat.le_of_ble_eq_true rfl) hP1 (fun v1 S1 hp1 => ?_)
  have hV := hV v1 S1 hp1
  obtain ⟨hg, hV⟩ := hV
  exact e_ireturn f_131_19 rt_131 (x_nz hg) hV
set_option maxRecDepth 20000 in
theorem T_132_0 {xs : List Int32} {d : Nat} {S : x_M} {Q : Option Value → x_M → Prop} {a1 : Int32}  (hV : (x_ib a1 112) ∧ (∃ P1 : Int32 → x_M → Prop, x_Ci xs d 129 [.ref 56, .int ((S 57 25) &&& (S 66 (Int32.toNatClampNeg a1)))] S P1 ∧ ∀ (v1 : Int32) (S1 : x_M), P1 v1 S1 → ((x_ib (28 + (S 57 27)) 99) ∧ ((x_ib (28 + (S 57 27)) 99) ∧ ((x_ib (30 + (S 57 27)) 99) ∧ ((x_ib (30 + (S 57 27)) 99) ∧ (if ((S 57 25) &&& (S 66 (Int32.toNatClampNeg a1))) = 0 then (x_E xs (d + 1) 132 81 [.ref 56, .int a1, .int (S 57 27), .int ((S 57 25) &&& (S 66 (Int32.toNatClampNeg a1))), .int v1] [.int 511, .int 25, .ref 57] (x_up (x_up S1 57 (Int32.toNatClampNeg (28 + (S 57 27))) ((S1 57 (Int32.toNatClampNeg (28 + (S 57 27)))) + v1)) 57 (Int32.toNatClampNeg (30 + (S 57 27))) (((x_up S1 57 (Int32.toNatClampNeg (28 + (S 57 27))) ((S1 57 (Int32.toNatClampNeg (28 + (S 57 27)))) + v1)) 57 (Int32.toNatClampNeg (30 + (S 57 27)))) &&& ((1 <<< ((a1 / 8) &&& 31)) ^^^ (-1)))) Q) else (x_E xs (d + 1) 132 81 [.ref 56, .int a1, .int (S 57 27), .int ((S 57 25) &&& (S 66 (Int32.toNatClampNeg a1))), .int v1] [.int ((S 57 25) &&& (S 66 (Int32.toNatClampNeg a1))), .int 25, .ref 57] (x_up (x_up S1 57 (Int32.toNatClampNeg (28 + (S 57 27))) ((S1 57 (Int32.toNatClampNeg (28 + (S 57 27)))) + v1)) 57 (Int32.toNatClampNeg (30 + (S 57 27))) (((x_up S1 57 (Int32.toNatClampNeg (28 + (S 57 27))) ((S1 57 (Int32.toNatClampNeg (28 + (S 57 27)))) + v1)) 57 (Int32.toNatClampNeg (30 + (S 57 27)))) &&& ((1 <<< ((a1 / 8) &&& 31)) ^^^ (-1)))) Q)))))))) : x_E xs (d + 1) 132 0 [.ref 56, .int a1, .null, .null, .null] [] S Q := by
  refine e_aload f_132_0 rfl (by decide) ?_
  refine e_gr (c := 6) (j := 0) (r := 57) f_132_1 (by decide) (by decide) (by decide) (by decide) ?_
  refine e_iconst (c := 27) f_132_4 (by decide) ?_
  refine e_iak (n := 99) (kk := 27) f_132_6 (by decide) (by decide) (by decide) ?_
  refine e_istore (L' := [.ref 56, .int a1, .int (S 57 27), .null, .null]) f_132_7 (Nat.le_of_ble_eq_true rfl) rfl ?_
  refine e_aload f_132_8 rfl (by decide) ?_
  refine e_gr (c := 6) (j := 0) (r := 57) f_132_9 (by decide) (by decide) (by decide) (by decide) ?_
  refine e_iconst (c := 25) f_132_12 (by decide) ?_
  refine e_iak (n := 99) (kk := 25) f_132_14 (by decide) (by decide) (by decide) ?_
  refine e_aload f_132_15 rfl (by decide) ?_
  refine e_gr (c := 6) (j := 17) (r := 66) f_132_16 (by decide) (by decide) (by decide) (by decide) ?_
  refine e_iload f_132_19 rfl ?_
  obtain ⟨hg, hV⟩ := hV
  refine e_ia (n := 112) f_132_20 (by decide) (by decide) hg ?_
  refine e_iand f_132_21 ?_
  refine e_istore (L' := [.ref 56, .int a1, .int (S 57 27), .int ((S 57 25) &&& (S 66 (Int32.toNatClampNeg a1))), .null]) f_132_22 (Nat.le_of_ble_eq_true rfl) rfl ?_
  refine e_aload f_132_23 rfl (by decide) ?_
  refine e_iload f_132_24 rfl ?_
  obtain ⟨P1, hP1, hV⟩ := hV
  refine e_vi (n := 2) (A := [.ref 56, .int ((S 57 25) &&& (S 66 (Int32.toNatClampNeg a1)))]) (R := []) f_132_25 na_129 rfl rfl (Nat.le_of_ble_eq_true rfl) (Nat.le_of_ble_eq_true rfl) (by rw [ml_129]; exact Nat.le_of_ble_eq_true rfl) rfl (by rw [cy_129]; decide) (by rw [cy_129]; exact (by decide : x_tg 56 = 6)) hP1 (fun v1 S1 hp1 => ?_)
  have hV := hV v1 S1 hp1
  refine e_istore (L' := [.ref 56, .int a1, .int (S 57 27), .int ((S 57 25) &&& (S 66 (Int32.toNatClampNeg a1))), .int v1]) f_132_28 (Nat.le_of_ble_eq_true rfl) rfl ?_
  refine e_aload f_132_30 rfl (by decide) ?_
  refine e_gr (c := 6) (j := 0) (r := 57) f_132_31 (by decide) (by decide) (by decide) (by decide) ?_
  refine e_iconst (c := 28) f_132_34 (by decide) ?_
  refine e_iload f_132_36 rfl ?_
  refine e_iadd f_132_37 ?_
  refine e_dup2 f_132_38 ⟨rfl, rfl⟩ ?_
  obtain ⟨hg, hV⟩ := hV
  refine e_ia (n := 99) f_132_39 (by decide) (by decide) hg ?_
  refine e_iload f_132_40 rfl ?_
  refine e_iadd f_132_42 ?_
  obtain ⟨hg, hV⟩ := hV
  refine e_is (n := 99) f_132_43 (by decide) (by decide) hg ?_
  refine e_aload f_132_44 rfl (by decide) ?_
  refine e_gr (c := 6) (j := 0) (r := 57) f_132_45 (by decide) (by decide) (by decide) (by decide) ?_
  refine e_iconst (c := 30) f_132_48 (by decide) ?_
  refine e_iload f_132_50 rfl ?_
  refine e_iadd f_132_51 ?_
  refine e_dup2 f_132_52 ⟨rfl, rfl⟩ ?_
  obtain ⟨hg, hV⟩ := hV
  refine e_ia (n := 99) f_132_53 (by decide) (by decide) hg ?_
  refine e_iconst (c := 1) f_132_54 (by decide) ?_
  refine e_iload f_132_55 rfl ?_
  refine e_iconst (c := 8) f_132_56 (by decide) ?_
  refine e_idiv f_132_58 (by decide) ?_
  refine e_ishl f_132_59 ?_
  refine e_iconst (c := (-1)) f_132_60 (by decide) ?_
  refine e_ixor f_132_61 ?_
  refine e_iand f_132_62 ?_
  obtain ⟨hg, hV⟩ := hV
  refine e_is (n := 99) f_132_63 (by decide) (by decide) hg ?_
  refine e_aload f_132_64 rfl (by decide) ?_
  refine e_gr (c := 6) (j := 0) (r := 57) f_132_65 (by decide) (by decide) (by decide) (by decide) ?_
  refine e_iconst (c := 25) f_132_68 (by decide) ?_
  refine e_iload f_132_70 rfl ?_
  refine e_if f_132_71 (fun hc => ?_) (fun hc => ?_)
  · have hc : ¬ ((S 57 25) &&& (S 66 (Int32.toNatClampNeg a1))) = 0 := of_decide_eq_true hc
    rw [if_neg hc] at hV
    refine e_iload f_132_80 rfl ?_
    exact hV
  · have hc : ((S 57 25) &&& (S 66 (Int32.toNatClampNeg a1))) = 0 := Decidable.not_not.mp (fun z => hc (decide_eq_true z))
    rw [if_pos hc] at hV
    refine e_iconst (c := 511) f_132_74 (by decide) ?_
    refine e_goto f_132_77 ?_
    exact hV
set_option maxRecDepth 20000 in
theorem T_132_81 {xs : List Int32} {d : Nat} {S : x_M} {Q : Option Value → x_M → Prop} {a1 : Int32} {a2 : Int32} {a3 : Int32} {a4 : Int32} {s1 : Int32} {s2 : Int32}  (hV : (x_ib s1 99) ∧ (if a3 = 0 then (if a3 = 0 then (x_E xs (d + 1) 132 123 [.ref 56, .int a1, .int a2, .int a3, .int a4] [.int 1, .int ((x_up (x_up S 57 (Int32.toNatClampNeg s1) s2) 57 26 0) 57 32), .int 32, .ref 57] (x_up (x_up S 57 (Int32.toNatClampNeg s1) s2) 57 26 0) Q) else (x_E xs (d + 1) 132 123 [.ref 56, .int a1, .int a2, .int a3, .int a4] [.int 0, .int ((x_up (x_up S 57 (Int32.toNatClampNeg s1) s2) 57 26 0) 57 32), .int 32, .ref 57] (x_up (x_up S 57 (Int32.toNatClampNeg s1) s2) 57 26 0) Q)) else (if a3 = 0 then (x_E xs (d + 1) 132 123 [.ref 56, .int a1, .int a2, .int a3, .int a4] [.int 1, .int ((x_up (x_up S 57 (Int32.toNatClampNeg s1) s2) 57 26 (((x_up S 57 (Int32.toNatClampNeg s1) s2) 57 26) + 1)) 57 32), .int 32, .ref 57] (x_up (x_up S 57 (Int32.toNatClampNeg s1) s2) 57 26 (((x_up S 57 (Int32.toNatClampNeg s1) s2) 57 26) + 1)) Q) else (x_E xs (d + 1) 132 123 [.ref 56, .int a1, .int a2, .int a3, .int a4] [.int 0, .int ((x_up (x_up S 57 (Int32.toNatClampNeg s1) s2) 57 26 (((x_up S 57 (Int32.toNatClampNeg s1) s2) 57 26) + 1)) 57 32), .int 32, .ref 57] (x_up (x_up S 57 (Int32.toNatClampNeg s1) s2) 57 26 (((x_up S 57 (Int32.toNatClampNeg s1) s2) 57 26) + 1)) Q)))) : x_E xs (d + 1) 132 81 [.ref 56, .int a1, .int a2, .int a3, .int a4] [.int s2, .int s1, .ref 57] S Q := by
  obtain ⟨hg, hV⟩ := hV
  refine e_is (n := 99) f_132_81 (by decide) (by decide) hg ?_
  refine e_aload f_132_82 rfl (by decide) ?_
  refine e_gr (c := 6) (j := 0) (r := 57) f_132_83 (by decide) (by decide) (by decide) (by decide) ?_
  refine e_iconst (c := 26) f_132_86 (by decide) ?_
  refine e_iload f_132_88 rfl ?_
  refine e_if f_132_89 (fun hc => ?_) (fun hc => ?_)
  · have hc : ¬ a3 = 0 := of_decide_eq_true hc
    rw [if_neg hc] at hV
    refine e_aload f_132_96 rfl (by decide) ?_
    refine e_gr (c := 6) (j := 0) (r := 57) f_132_97 (by decide) (by decide) (by decide) (by decide) ?_
    refine e_iconst (c := 26) f_132_100 (by decide) ?_
    refine e_iak (n := 99) (kk := 26) f_132_102 (by decide) (by decide) (by decide) ?_
    refine e_iconst (c := 1) f_132_103 (by decide) ?_
    refine e_iadd f_132_104 ?_
    refine e_isk (n := 99) (kk := 26) f_132_105 (by decide) (by decide) (by decide) ?_
    refine e_aload f_132_106 rfl (by decide) ?_
    refine e_gr (c := 6) (j := 0) (r := 57) f_132_107 (by decide) (by decide) (by decide) (by decide) ?_
    refine e_iconst (c := 32) f_132_110 (by decide) ?_
    refine e_dup2 f_132_112 ⟨rfl, rfl⟩ ?_
    refine e_iak (n := 99) (kk := 32) f_132_113 (by decide) (by decide) (by decide) ?_
    refine e_iload f_132_114 rfl ?_
    refine e_if f_132_115 (fun hc => ?_) (fun hc => ?_)
    · have hc : ¬ a3 = 0 := of_decide_eq_true hc
      rw [if_neg hc] at hV
      refine e_iconst (c := 0) f_132_122 (by decide) ?_
      exact hV
    · have hc : a3 = 0 := Decidable.not_not.mp (fun z => hc (decide_eq_true z))
      rw [if_pos hc] at hV
      refine e_iconst (c := 1) f_132_118 (by decide) ?_
      refine e_goto f_132_119 ?_
      exact hV
  · have hc : a3 = 0 := Decidable.not_not.mp (fun z => hc (decide_eq_true z))
    rw [if_pos hc] at hV
    refine e_iconst (c := 0) f_132_92 (by decide) ?_
    refine e_goto f_132_93 ?_
    refine e_isk (n := 99) (kk := 26) f_132_105 (by decide) (by decide) (by decide) ?_
    refine e_aload f_132_106 rfl (by decide) ?_
    refine e_gr (c := 6) (j := 0) (r := 57) f_132_107 (by decide) (by decide) (by decide) (by decide) ?_
    refine e_iconst (c := 32) f_132_110 (by decide) ?_
    refine e_dup2 f_132_112 ⟨rfl, rfl⟩ ?_
    refine e_iak (n := 99) (kk := 32) f_132_113 (by decide) (by decide) (by decide) ?_
    refine e_iload f_132_114 rfl ?_
    refine e_if f_132_115 (fun hc => ?_) (fun hc => ?_)
    · have hc : ¬ a3 = 0 := of_decide_eq_true hc
      rw [if_neg hc] at hV
      refine e_iconst (c := 0) f_132_122 (by decide) ?_
      exact hV
    · have hc : a3 = 0 := Decidable.not_not.mp (fun z => hc (decide_eq_true z))
      rw [if_pos hc] at hV
      refine e_iconst (c := 1) f_132_118 (by decide) ?_
      refine e_goto f_132_119 ?_
      exact hV
set_option maxRecDepth 20000 in
theorem T_132_123 {xs : List Int32} {d : Nat} {S : x_M} {Q : Option Value → x_M → Prop} {a1 : Int32} {a2 : Int32} {a3 : Int32} {a4 : Int32} {s1 : Int32} {s2 : Int32} {s3 : Int32}  (hV : (x_ib s1 99) ∧ ((x_ib (31 - a2) 99) ∧ (if ((x_up S 57 (Int32.toNatClampNeg s1) (s2 + s3)) 57 (Int32.toNatClampNeg (31 - a2))) = 0 then (Q (some (.int a4)) (x_up (x_up S 57 (Int32.toNatClampNeg s1) (s2 + s3)) 57 27 a2)) else (Q (some (.int a4)) (x_up (x_up S 57 (Int32.toNatClampNeg s1) (s2 + s3)) 57 27 (1 - a2)))))) : x_E xs (d + 1) 132 123 [.ref 56, .int a1, .int a2, .int a3, .int a4] [.int s3, .int s2, .int s1, .ref 57] S Q := by
  refine e_iadd f_132_123 ?_
  obtain ⟨hg, hV⟩ := hV
  refine e_is (n := 99) f_132_124 (by decide) (by decide) hg ?_
  refine e_aload f_132_125 rfl (by decide) ?_
  refine e_gr (c := 6) (j := 0) (r := 57) f_132_126 (by decide) (by decide) (by decide) (by decide) ?_
  refine e_iconst (c := 27) f_132_129 (by decide) ?_
  refine e_aload f_132_131 rfl (by decide) ?_
  refine e_gr (c := 6) (j := 0) (r := 57) f_132_132 (by decide) (by decide) (by decide) (by decide) ?_
  refine e_iconst (c := 31) f_132_135 (by decide) ?_
  refine e_iload f_132_137 rfl ?_
  refine e_isub f_132_138 ?_
  obtain ⟨hg, hV⟩ := hV
  refine e_ia (n := 99) f_132_139 (by decide) (by decide) hg ?_
  refine e_if f_132_140 (fun hc => ?_) (fun hc => ?_)
  · have hc : ((x_up S 57 (Int32.toNatClampNeg s1) (s2 + s3)) 57 (Int32.toNatClampNeg (31 - a2))) = 0 := of_decide_eq_true hc
    rw [if_pos hc] at hV
    refine e_iload f_132_149 rfl ?_
    refine e_isk (n := 99) (kk := 27) f_132_150 (by decide) (by decide) (by decide) ?_
    refine e_iload f_132_151 rfl ?_
    exact e_ireturn f_132_153 rt_132 rfl hV
  · have hc : ¬ ((x_up S 57 (Int32.toNatClampNeg s1) (s2 + s3)) 57 (Int32.toNatClampNeg (31 - a2))) = 0 := fun z => hc (decide_eq_true z)
    rw [if_neg hc] at hV
    refine e_iconst (c := 1) f_132_143 (by decide) ?_
    refine e_iload f_132_144 rfl ?_
    refine e_isub f_132_145 ?_
    refine e_goto f_132_146 ?_
    refine e_isk (n := 99) (kk := 27) f_132_150 (by decide) (by decide) (by decide) ?_
    refine e_iload f_132_151 rfl ?_
    exact e_ireturn f_132_153 rt_132 rfl hV
set_option maxRecDepth 20000 in
theorem T_133_0 {xs : List Int32} {d : Nat} {S : x_M} {Q : Option Value → x_M → Prop} {a1 : Int32} {a2 : Int32} {a3 : Int32}  (hV : if (S 57 0) = 0 then (Q (some (.int (-1000002))) S) else (∃ P1 : Int32 → x_M → Prop, x_Ci xs d 100 [.int a1] S P1 ∧ ∀ (v1 : Int32) (S1 : x_M), P1 v1 S1 → (if v1 = 0 then (Q (some (.int (-1000001))) S1) else (∃ P2 : Int32 → x_M → Prop, x_Ci xs d 101 [.long (Int32.toInt64 a3), .long 1, .long 14] S1 P2 ∧ ∀ (v2 : Int32) (S2 : x_M), P2 v2 S2 → (if v2 = 0 then (Q (some (.int (-1000001))) S2) else ((x_ib a1 8) ∧ (if (S2 59 (Int32.toNatClampNeg a1)) = (-1000000) then (∃ P6 : Int32 → x_M → Prop, x_Ci xs d 102 [.ref 56, .int 1] S2 P6 ∧ ∀ (v6 : Int32) (S6 : x_M), P6 v6 S6 → (Q (some (.int v6)) S6)) else (∃ P3 : Int32 → x_M → Prop, x_Ci xs d 106 [.ref 56, .int a1, .int a2, .int a3] S2 P3 ∧ ∀ (v3 : Int32) (S3 : x_M), P3 v3 S3 → (if v3 = 0 then (∃ P5 : Int32 → x_M → Prop, x_Ci xs d 102 [.ref 56, .int 2] S3 P5 ∧ ∀ (v5 : Int32) (S5 : x_M), P5 v5 S5 → (Q (some (.int v5)) S5)) else (∃ P4 : Int32 → x_M → Prop, x_Ci xs d 134 [.ref 56, .int ((40 * a1) + a2), .int a3] S3 P4 ∧ ∀ (v4 : Int32) (S4 : x_M), P4 v4 S4 → (if v4 = 0 then (x_E xs (d + 1) 133 94 [.ref 56, .int a1, .int a2, .int a3, .int v4, .int 0, .int 0, .null, .null] [] S4 Q) else (Q (some (.int v4)) S4)))))))))))) : x_E xs (d + 1) 133 0 [.ref 56, .int a1, .int a2, .int a3, .null, .null, .null, .null, .null] [] S Q := by
  refine e_aload f_133_0 rfl (by decide) ?_
  refine e_gr (c := 6) (j := 0) (r := 57) f_133_1 (by decide) (by decide) (by decide) (by decide) ?_
  refine e_iconst (c := 0) f_133_4 (by decide) ?_
  refine e_iak (n := 99) (kk := 0) f_133_5 (by decide) (by decide) (by decide) ?_
  refine e_if f_133_6 (fun hc => ?_) (fun hc => ?_)
  · have hc : ¬ (S 57 0) = 0 := of_decide_eq_true hc
    rw [if_neg hc] at hV
    refine e_iload f_133_12 rfl ?_
    obtain ⟨P1, hP1, hV⟩ := hV
    refine e_si (n := 1) (A := [.int a1]) (R := []) f_133_13 na_100 rfl rfl (Nat.le_of_ble_eq_true rfl) (Nat.le_of_ble_eq_true rfl) (by rw [ml_100]; exact Nat.le_of_ble_eq_true rfl) hP1 (fun v1 S1 hp1 => ?_)
    have hV := hV v1 S1 hp1
    refine e_if f_133_16 (fun hc => ?_) (fun hc => ?_)
    · have hc : v1 = 0 := of_decide_eq_true hc
      rw [if_pos hc] at hV
      refine e_iconst (c := (-1000001)) f_133_31 (by decide) ?_
      exact e_ireturn f_133_33 rt_133 rfl hV
    · have hc : ¬ v1 = 0 := fun z => hc (decide_eq_true z)
      rw [if_neg hc] at hV
      refine e_iload f_133_19 rfl ?_
      refine e_i2l f_133_20 ?_
      refine e_lconst (c := 1) f_133_21 (by decide) ?_
      refine e_lconst (c := 14) f_133_22 (by decide) ?_
      obtain ⟨P2, hP2, hV⟩ := hV
      refine e_si (n := 3) (A := [.long (Int32.toInt64 a3), .long 1, .long 14]) (R := []) f_133_25 na_101 rfl rfl (Nat.le_of_ble_eq_true rfl) (Nat.le_of_ble_eq_true rfl) (by rw [ml_101]; exact Nat.le_of_ble_eq_true rfl) hP2 (fun v2 S2 hp2 => ?_)
      have hV := hV v2 S2 hp2
      refine e_if f_133_28 (fun hc => ?_) (fun hc => ?_)
      · have hc : ¬ v2 = 0 := of_decide_eq_true hc
        rw [if_neg hc] at hV
        refine e_aload f_133_34 rfl (by decide) ?_
        refine e_gr (c := 6) (j := 5) (r := 59) f_133_35 (by decide) (by decide) (by decide) (by decide) ?_
        refine e_iload f_133_38 rfl ?_
        obtain ⟨hg, hV⟩ := hV
        refine e_ia (n := 8) f_133_39 (by decide) (by decide) hg ?_
        refine e_iconst (c := (-1000000)) f_133_40 (by decide) ?_
        refine e_icmp f_133_42 (fun hc => ?_) (fun hc => ?_)
        · have hc : ¬ (S2 59 (Int32.toNatClampNeg a1)) = (-1000000) := of_decide_eq_true hc
          rw [if_neg hc] at hV
          refine e_aload f_133_51 rfl (by decide) ?_
          refine e_iload f_133_52 rfl ?_
          refine e_iload f_133_53 rfl ?_
          refine e_iload f_133_54 rfl ?_
          obtain ⟨P3, hP3, hV⟩ := hV
          refine e_vi (n := 4) (A := [.ref 56, .int a1, .int a2, .int a3]) (R := []) f_133_55 na_106 rfl rfl (Nat.le_of_ble_eq_true rfl) (Nat.le_of_ble_eq_true rfl) (by rw [ml_106]; exact Nat.le_of_ble_eq_true rfl) rfl (by rw [cy_106]; decide) (by rw [cy_106]; exact (by decide : x_tg 56 = 6)) hP3 (fun v3 S3 hp3 => ?_)
          have hV := hV v3 S3 hp3
          refine e_if f_133_58 (fun hc => ?_) (fun hc => ?_)
          · have hc : ¬ v3 = 0 := of_decide_eq_true hc
            rw [if_neg hc] at hV
            refine e_aload f_133_67 rfl (by decide) ?_
            refine e_iconst (c := 40) f_133_68 (by decide) ?_
            refine e_iload f_133_70 rfl ?_
            refine e_imul f_133_71 ?_
            refine e_iload f_133_72 rfl ?_
            refine e_iadd f_133_73 ?_
            refine e_iload f_133_74 rfl ?_
            obtain ⟨P4, hP4, hV⟩ := hV
            refine e_vi (n := 3) (A := [.ref 56, .int ((40 * a1) + a2), .int a3]) (R := []) f_133_75 na_134 rfl rfl (Nat.le_of_ble_eq_true rfl) (Nat.le_of_ble_eq_true rfl) (by rw [ml_134]; exact Nat.le_of_ble_eq_true rfl) rfl (by rw [cy_134]; decide) (by rw [cy_134]; exact (by decide : x_tg 56 = 6)) hP4 (fun v4 S4 hp4 => ?_)
            have hV := hV v4 S4 hp4
            refine e_istore (L' := [.ref 56, .int a1, .int a2, .int a3, .int v4, .null, .null, .null, .null]) f_133_78 (Nat.le_of_ble_eq_true rfl) rfl ?_
            refine e_iload f_133_80 rfl ?_
            refine e_if f_133_82 (fun hc => ?_) (fun hc => ?_)
            · have hc : v4 = 0 := of_decide_eq_true hc
              rw [if_pos hc] at hV
              refine e_iconst (c := 0) f_133_88 (by decide) ?_
              refine e_istore (L' := [.ref 56, .int a1, .int a2, .int a3, .int v4, .int 0, .null, .null, .null]) f_133_89 (Nat.le_of_ble_eq_true rfl) rfl ?_
              refine e_iconst (c := 0) f_133_91 (by decide) ?_
              refine e_istore (L' := [.ref 56, .int a1, .int a2, .int a3, .int v4, .int 0, .int 0, .null, .null]) f_133_92 (Nat.le_of_ble_eq_true rfl) rfl ?_
              exact hV
            · have hc : ¬ v4 = 0 := fun z => hc (decide_eq_true z)
              rw [if_neg hc] at hV
              refine e_iload f_133_85 rfl ?_
              exact e_ireturn f_133_87 rt_133 rfl hV
          · have hc : v3 = 0 := Decidable.not_not.mp (fun z => hc (decide_eq_true z))
            rw [if_pos hc] at hV
            refine e_aload f_133_61 rfl (by decide) ?_
            refine e_iconst (c := 2) f_133_62 (by decide) ?_
            obtain ⟨P5, hP5, hV⟩ := hV
            refine e_vi (n := 2) (A := [.ref 56, .int 2]) (R := []) f_133_63 na_102 rfl rfl (Nat.le_of_ble_eq_true rfl) (Nat.le_of_ble_eq_true rfl) (by rw [ml_102]; exact Nat.le_of_ble_eq_true rfl) rfl (by rw [cy_102]; decide) (by rw [cy_102]; exact (by decide : x_tg 56 = 6)) hP5 (fun v5 S5 hp5 => ?_)
            have hV := hV v5 S5 hp5
            exact e_ireturn f_133_66 rt_133 rfl hV
        · have hc : (S2 59 (Int32.toNatClampNeg a1)) = (-1000000) := Decidable.not_not.mp (fun z => hc (decide_eq_true z))
          rw [if_pos hc] at hV
          refine e_aload f_133_45 rfl (by decide) ?_
          refine e_iconst (c := 1) f_133_46 (by decide) ?_
          obtain ⟨P6, hP6, hV⟩ := hV
          refine e_vi (n := 2) (A := [.ref 56, .int 1]) (R := []) f_133_47 na_102 rfl rfl (Nat.le_of_ble_eq_true rfl) (Nat.le_of_ble_eq_true rfl) (by rw [ml_102]; exact Nat.le_of_ble_eq_true rfl) rfl (by rw [cy_102]; decide) (by rw [cy_102]; exact (by decide : x_tg 56 = 6)) hP6 (fun v6 S6 hp6 => ?_)
          have hV := hV v6 S6 hp6
          exact e_ireturn f_133_50 rt_133 rfl hV
      · have hc : v2 = 0 := Decidable.not_not.mp (fun z => hc (decide_eq_true z))
        rw [if_pos hc] at hV
        refine e_iconst (c := (-1000001)) f_133_31 (by decide) ?_
        exact e_ireturn f_133_33 rt_133 rfl hV
  · have hc : (S 57 0) = 0 := Decidable.not_not.mp (fun z => hc (decide_eq_true z))
    rw [if_pos hc] at hV
    refine e_iconst (c := (-1000002)) f_133_9 (by decide) ?_
    exact e_ireturn f_133_11 rt_133 rfl hV
set_option maxRecDepth 20000 in
theorem T_133_94 {xs : List Int32} {d : Nat} {S : x_M} {Q : Option Value → x_M → Prop} {a1 : Int32} {a2 : Int32} {a3 : Int32} {a4 : Int32} {a5 : Int32} {a6 : Int32} {a7 : Value} {a8 : Value}  (hV : if a3 ≤ a6 then (∃ P1 : Int32 → x_M → Prop, x_Ci xs d 103 [.ref 56, .int a5] S P1 ∧ ∀ (v1 : Int32) (S1 : x_M), P1 v1 S1 → (Q (some (.int v1)) S1)) else ((x_ib (((40 * a1) + a2) + a6) 320) ∧ (∃ P2 : Int32 → x_M → Prop, x_Ci xs d 132 [.ref 56, .int (S 61 (Int32.toNatClampNeg (((40 * a1) + a2) + a6)))] S P2 ∧ ∀ (v2 : Int32) (S2 : x_M), P2 v2 S2 → (if (S 57 27) = 0 then (x_E xs (d + 1) 133 94 [.ref 56, .int a1, .int a2, .int a3, .int a4, .int (a5 + v2), .int (a6 + 1), .int (S 57 27), .int v2] [] S2 Q) else (x_E xs (d + 1) 133 94 [.ref 56, .int a1, .int a2, .int a3, .int a4, .int (a5 + (-v2)), .int (a6 + 1), .int (S 57 27), .int v2] [] S2 Q))))) : x_E xs (d + 1) 133 94 [.ref 56, .int a1, .int a2, .int a3, .int a4, .int a5, .int a6, a7, a8] [] S Q := by
  refine e_iload f_133_94 rfl ?_
  refine e_iload f_133_96 rfl ?_
  refine e_icmp f_133_97 (fun hc => ?_) (fun hc => ?_)
  · have hc : a3 ≤ a6 := of_decide_eq_true hc
    rw [if_pos hc] at hV
    refine e_aload f_133_153 rfl (by decide) ?_
    refine e_iload f_133_154 rfl ?_
    obtain ⟨P1, hP1, hV⟩ := hV
    refine e_vi (n := 2) (A := [.ref 56, .int a5]) (R := []) f_133_156 na_103 rfl rfl (Nat.le_of_ble_eq_true rfl) (Nat.le_of_ble_eq_true rfl) (by rw [ml_103]; exact Nat.le_of_ble_eq_true rfl) rfl (by rw [cy_103]; decide) (by rw [cy_103]; exact (by decide : x_tg 56 = 6)) hP1 (fun v1 S1 hp1 => ?_)
    have hV := hV v1 S1 hp1
    exact e_ireturn f_133_159 rt_133 rfl hV
  · have hc : ¬ a3 ≤ a6 := fun z => hc (decide_eq_true z)
    rw [if_neg hc] at hV
    refine e_aload f_133_100 rfl (by decide) ?_
    refine e_gr (c := 6) (j := 0) (r := 57) f_133_101 (by decide) (by decide) (by decide) (by decide) ?_
    refine e_iconst (c := 27) f_133_104 (by decide) ?_
    refine e_iak (n := 99) (kk := 27) f_133_106 (by decide) (by decide) (by decide) ?_
    refine e_istore (L' := [.ref 56, .int a1, .int a2, .int a3, .int a4, .int a5, .int a6, .int (S 57 27), a8]) f_133_107 (Nat.le_of_ble_eq_true rfl) rfl ?_
    refine e_aload f_133_109 rfl (by decide) ?_
    refine e_aload f_133_110 rfl (by decide) ?_
    refine e_gr (c := 6) (j := 7) (r := 61) f_133_111 (by decide) (by decide) (by decide) (by decide) ?_
    refine e_iconst (c := 40) f_133_114 (by decide) ?_
    refine e_iload f_133_116 rfl ?_
    refine e_imul f_133_117 ?_
    refine e_iload f_133_118 rfl ?_
    refine e_iadd f_133_119 ?_
    refine e_iload f_133_120 rfl ?_
    refine e_iadd f_133_122 ?_
    obtain ⟨hg, hV⟩ := hV
    refine e_ia (n := 320) f_133_123 (by decide) (by decide) hg ?_
    obtain ⟨P2, hP2, hV⟩ := hV
    refine e_vi (n := 2) (A := [.ref 56, .int (S 61 (Int32.toNatClampNeg (((40 * a1) + a2) + a6)))]) (R := []) f_133_124 na_132 rfl rfl (Nat.le_of_ble_eq_true rfl) (Nat.le_of_ble_eq_true rfl) (by rw [ml_132]; exact Nat.le_of_ble_eq_true rfl) rfl (by rw [cy_132]; decide) (by rw [cy_132]; exact (by decide : x_tg 56 = 6)) hP2 (fun v2 S2 hp2 => ?_)
    have hV := hV v2 S2 hp2
    refine e_istore (L' := [.ref 56, .int a1, .int a2, .int a3, .int a4, .int a5, .int a6, .int (S 57 27), .int v2]) f_133_127 (Nat.le_of_ble_eq_true rfl) rfl ?_
    refine e_iload f_133_129 rfl ?_
    refine e_iload f_133_131 rfl ?_
    refine e_if f_133_133 (fun hc => ?_) (fun hc => ?_)
    · have hc : ¬ (S 57 27) = 0 := of_decide_eq_true hc
      rw [if_neg hc] at hV
      refine e_iload f_133_141 rfl ?_
      refine e_ineg f_133_143 ?_
      refine e_iadd f_133_144 ?_
      refine e_istore (L' := [.ref 56, .int a1, .int a2, .int a3, .int a4, .int (a5 + (-v2)), .int a6, .int (S 57 27), .int v2]) f_133_145 (Nat.le_of_ble_eq_true rfl) rfl ?_
      refine e_inc (c := 1) (L' := [.ref 56, .int a1, .int a2, .int a3, .int a4, .int (a5 + (-v2)), .int (a6 + 1), .int (S 57 27), .int v2]) f_133_147 rfl (by decide) rfl ?_
      refine e_goto f_133_150 ?_
      exact hV
    · have hc : (S 57 27) = 0 := Decidable.not_not.mp (fun z => hc (decide_eq_true z))
      rw [if_pos hc] at hV
      refine e_iload f_133_136 rfl ?_
      refine e_goto f_133_138 ?_
      refine e_iadd f_133_144 ?_
      refine e_istore (L' := [.ref 56, .int a1, .int a2, .int a3, .int a4, .int (a5 + v2), .int a6, .int (S 57 27), .int v2]) f_133_145 (Nat.le_of_ble_eq_true rfl) rfl ?_
      refine e_inc (c := 1) (L' := [.ref 56, .int a1, .int a2, .int a3, .int a4, .int (a5 + v2), .int (a6 + 1), .int (S 57 27), .int v2]) f_133_147 rfl (by decide) rfl ?_
      refine e_goto f_133_150 ?_
      exact hV
set_option maxRecDepth 20000 in
theorem T_134_0 {xs : List Int32} {d : Nat} {S : x_M} {Q : Option Value → x_M → Prop} {a1 : Int32} {a2 : Int32}  (hV : x_E xs (d + 1) 134 2 [.ref 56, .int a1, .int a2, .int 0, .null] [] S Q) : x_E xs (d + 1) 134 0 [.ref 56, .int a1, .int a2, .null, .null] [] S Q := by
  refine e_iconst (c := 0) f_134_0 (by decide) ?_
  refine e_istore (L' := [.ref 56, .int a1, .int a2, .int 0, .null]) f_134_1 (Nat.le_of_ble_eq_true rfl) rfl ?_
  exact hV
set_option maxRecDepth 20000 in
theorem T_134_2 {xs : List Int32} {d : Nat} {S : x_M} {Q : Option Value → x_M → Prop} {a1 : Int32} {a2 : Int32} {a3 : Int32}  (hV : if a2 ≤ a3 then (x_E xs (d + 1) 134 85 [.ref 56, .int a1, .int a2, .int 0, .null] [] (x_up (x_up (x_up S 67 0 (S 57 30)) 67 1 ((x_up S 67 0 (S 57 30)) 57 31)) 67 2 ((x_up (x_up S 67 0 (S 57 30)) 67 1 ((x_up S 67 0 (S 57 30)) 57 31)) 57 27)) Q) else ((x_ib (a1 + a3) 320) ∧ (∃ P1 : Int32 → x_M → Prop, x_Ci xs d 101 [.long (Int32.toInt64 (S 61 (Int32.toNatClampNeg (a1 + a3)))), .long 0, .long (Int32.toInt64 ((8 * (S 57 1)) - 1))] S P1 ∧ ∀ (v1 : Int32) (S1 : x_M), P1 v1 S1 → (if v1 = 0 then (Q (some (.int (-1000001))) S1) else (x_E xs (d + 1) 134 2 [.ref 56, .int a1, .int a2, .int (a3 + 1), .null] [] S1 Q))))) : x_E xs (d + 1) 134 2 [.ref 56, .int a1, .int a2, .int a3, .null] [] S Q := by
  refine e_iload f_134_2 rfl ?_
  refine e_iload f_134_3 rfl ?_
  refine e_icmp f_134_4 (fun hc => ?_) (fun hc => ?_)
  · have hc : a2 ≤ a3 := of_decide_eq_true hc
    rw [if_pos hc] at hV
    refine e_aload f_134_44 rfl (by decide) ?_
    refine e_gr (c := 6) (j := 18) (r := 67) f_134_45 (by decide) (by decide) (by decide) (by decide) ?_
    refine e_iconst (c := 0) f_134_48 (by decide) ?_
    refine e_aload f_134_49 rfl (by decide) ?_
    refine e_gr (c := 6) (j := 0) (r := 57) f_134_50 (by decide) (by decide) (by decide) (by decide) ?_
    refine e_iconst (c := 30) f_134_53 (by decide) ?_
    refine e_iak (n := 99) (kk := 30) f_134_55 (by decide) (by decide) (by decide) ?_
    refine e_isk (n := 3) (kk := 0) f_134_56 (by decide) (by decide) (by decide) ?_
    refine e_aload f_134_57 rfl (by decide) ?_
    refine e_gr (c := 6) (j := 18) (r := 67) f_134_58 (by decide) (by decide) (by decide) (by decide) ?_
    refine e_iconst (c := 1) f_134_61 (by decide) ?_
    refine e_aload f_134_62 rfl (by decide) ?_
    refine e_gr (c := 6) (j := 0) (r := 57) f_134_63 (by decide) (by decide) (by decide) (by decide) ?_
    refine e_iconst (c := 31) f_134_66 (by decide) ?_
    refine e_iak (n := 99) (kk := 31) f_134_68 (by decide) (by decide) (by decide) ?_
    refine e_isk (n := 3) (kk := 1) f_134_69 (by decide) (by decide) (by decide) ?_
    refine e_aload f_134_70 rfl (by decide) ?_
    refine e_gr (c := 6) (j := 18) (r := 67) f_134_71 (by decide) (by decide) (by decide) (by decide) ?_
    refine e_iconst (c := 2) f_134_74 (by decide) ?_
    refine e_aload f_134_75 rfl (by decide) ?_
    refine e_gr (c := 6) (j := 0) (r := 57) f_134_76 (by decide) (by decide) (by decide) (by decide) ?_
    refine e_iconst (c := 27) f_134_79 (by decide) ?_
    refine e_iak (n := 99) (kk := 27) f_134_81 (by decide) (by decide) (by decide) ?_
    refine e_isk (n := 3) (kk := 2) f_134_82 (by decide) (by decide) (by decide) ?_
    refine e_iconst (c := 0) f_134_83 (by decide) ?_
    refine e_istore (L' := [.ref 56, .int a1, .int a2, .int 0, .null]) f_134_84 (Nat.le_of_ble_eq_true rfl) rfl ?_
    exact hV
  · have hc : ¬ a2 ≤ a3 := fun z => hc (decide_eq_true z)
    rw [if_neg hc] at hV
    refine e_aload f_134_7 rfl (by decide) ?_
    refine e_gr (c := 6) (j := 7) (r := 61) f_134_8 (by decide) (by decide) (by decide) (by decide) ?_
    refine e_iload f_134_11 rfl ?_
    refine e_iload f_134_12 rfl ?_
    refine e_iadd f_134_13 ?_
    obtain ⟨hg, hV⟩ := hV
    refine e_ia (n := 320) f_134_14 (by decide) (by decide) hg ?_
    refine e_i2l f_134_15 ?_
    refine e_lconst (c := 0) f_134_16 (by decide) ?_
    refine e_iconst (c := 8) f_134_17 (by decide) ?_
    refine e_aload f_134_19 rfl (by decide) ?_
    refine e_gr (c := 6) (j := 0) (r := 57) f_134_20 (by decide) (by decide) (by decide) (by decide) ?_
    refine e_iconst (c := 1) f_134_23 (by decide) ?_
    refine e_iak (n := 99) (kk := 1) f_134_24 (by decide) (by decide) (by decide) ?_
    refine e_imul f_134_25 ?_
    refine e_iconst (c := 1) f_134_26 (by decide) ?_
    refine e_isub f_134_27 ?_
    refine e_i2l f_134_28 ?_
    obtain ⟨P1, hP1, hV⟩ := hV
    refine e_si (n := 3) (A := [.long (Int32.toInt64 (S 61 (Int32.toNatClampNeg (a1 + a3)))), .long 0, .long (Int32.toInt64 ((8 * (S 57 1)) - 1))]) (R := []) f_134_29 na_101 rfl rfl (Nat.le_of_ble_eq_true rfl) (Nat.le_of_ble_eq_true rfl) (by rw [ml_101]; exact Nat.le_of_ble_eq_true rfl) hP1 (fun v1 S1 hp1 => ?_)
    have hV := hV v1 S1 hp1
    refine e_if f_134_32 (fun hc => ?_) (fun hc => ?_)
    · have hc : ¬ v1 = 0 := of_decide_eq_true hc
      rw [if_neg hc] at hV
      refine e_inc (c := 1) (L' := [.ref 56, .int a1, .int a2, .int (a3 + 1), .null]) f_134_38 rfl (by decide) rfl ?_
      refine e_goto f_134_41 ?_
      exact hV
    · have hc : v1 = 0 := Decidable.not_not.mp (fun z => hc (decide_eq_true z))
      rw [if_pos hc] at hV
      refine e_iconst (c := (-1000001)) f_134_35 (by decide) ?_
      exact e_ireturn f_134_37 rt_134 rfl hV
set_option maxRecDepth 20000 in
theorem T_134_85 {xs : List Int32} {d : Nat} {S : x_M} {Q : Option Value → x_M → Prop} {a1 : Int32} {a2 : Int32} {a3 : Int32} {a4 : Value}  (hV : if a2 ≤ a3 then (Q (some (.int 0)) S) else ((x_ib (a1 + a3) 320) ∧ ((x_ib (S 67 2) 3) ∧ (∃ P1 : Int32 → x_M → Prop, x_Ci xs d 122 [.int (S 67 (Int32.toNatClampNeg (S 67 2))), .int ((S 61 (Int32.toNatClampNeg (a1 + a3))) / 8)] S P1 ∧ ∀ (v1 : Int32) (S1 : x_M), P1 v1 S1 → (if v1 = 0 then (Q (some (.int (-1000002))) S1) else ((x_ib (S1 67 2) 3) ∧ ((x_ib (S1 67 2) 3) ∧ ((x_ib (1 - ((x_up S1 67 (Int32.toNatClampNeg (S1 67 2)) ((S1 67 (Int32.toNatClampNeg (S1 67 2))) &&& ((1 <<< (((S 61 (Int32.toNatClampNeg (a1 + a3))) / 8) &&& 31)) ^^^ (-1)))) 67 2)) 3) ∧ (if ((x_up S1 67 (Int32.toNatClampNeg (S1 67 2)) ((S1 67 (Int32.toNatClampNeg (S1 67 2))) &&& ((1 <<< (((S 61 (Int32.toNatClampNeg (a1 + a3))) / 8) &&& 31)) ^^^ (-1)))) 67 (Int32.toNatClampNeg (1 - ((x_up S1 67 (Int32.toNatClampNeg (S1 67 2)) ((S1 67 (Int32.toNatClampNeg (S1 67 2))) &&& ((1 <<< (((S 61 (Int32.toNatClampNeg (a1 + a3))) / 8) &&& 31)) ^^^ (-1)))) 67 2)))) = 0 then (x_E xs (d + 1) 134 85 [.ref 56, .int a1, .int a2, .int (a3 + 1), .int (S 61 (Int32.toNatClampNeg (a1 + a3)))] [] (x_up (x_up S1 67 (Int32.toNatClampNeg (S1 67 2)) ((S1 67 (Int32.toNatClampNeg (S1 67 2))) &&& ((1 <<< (((S 61 (Int32.toNatClampNeg (a1 + a3))) / 8) &&& 31)) ^^^ (-1)))) 67 2 ((x_up S1 67 (Int32.toNatClampNeg (S1 67 2)) ((S1 67 (Int32.toNatClampNeg (S1 67 2))) &&& ((1 <<< (((S 61 (Int32.toNatClampNeg (a1 + a3))) / 8) &&& 31)) ^^^ (-1)))) 67 2)) Q) else (x_E xs (d + 1) 134 85 [.ref 56, .int a1, .int a2, .int (a3 + 1), .int (S 61 (Int32.toNatClampNeg (a1 + a3)))] [] (x_up (x_up S1 67 (Int32.toNatClampNeg (S1 67 2)) ((S1 67 (Int32.toNatClampNeg (S1 67 2))) &&& ((1 <<< (((S 61 (Int32.toNatClampNeg (a1 + a3))) / 8) &&& 31)) ^^^ (-1)))) 67 2 (1 - ((x_up S1 67 (Int32.toNatClampNeg (S1 67 2)) ((S1 67 (Int32.toNatClampNeg (S1 67 2))) &&& ((1 <<< (((S 61 (Int32.toNatClampNeg (a1 + a3))) / 8) &&& 31)) ^^^ (-1)))) 67 2))) Q)))))))))) : x_E xs (d + 1) 134 85 [.ref 56, .int a1, .int a2, .int a3, a4] [] S Q := by
  refine e_iload f_134_85 rfl ?_
  refine e_iload f_134_86 rfl ?_
  refine e_icmp f_134_87 (fun hc => ?_) (fun hc => ?_)
  · have hc : a2 ≤ a3 := of_decide_eq_true hc
    rw [if_pos hc] at hV
    refine e_iconst (c := 0) f_134_193 (by decide) ?_
    exact e_ireturn f_134_194 rt_134 rfl hV
  · have hc : ¬ a2 ≤ a3 := fun z => hc (decide_eq_true z)
    rw [if_neg hc] at hV
    refine e_aload f_134_90 rfl (by decide) ?_
    refine e_gr (c := 6) (j := 7) (r := 61) f_134_91 (by decide) (by decide) (by decide) (by decide) ?_
    refine e_iload f_134_94 rfl ?_
    refine e_iload f_134_95 rfl ?_
    refine e_iadd f_134_96 ?_
    obtain ⟨hg, hV⟩ := hV
    refine e_ia (n := 320) f_134_97 (by decide) (by decide) hg ?_
    refine e_istore (L' := [.ref 56, .int a1, .int a2, .int a3, .int (S 61 (Int32.toNatClampNeg (a1 + a3)))]) f_134_98 (Nat.le_of_ble_eq_true rfl) rfl ?_
    refine e_aload f_134_100 rfl (by decide) ?_
    refine e_gr (c := 6) (j := 18) (r := 67) f_134_101 (by decide) (by decide) (by decide) (by decide) ?_
    refine e_aload f_134_104 rfl (by decide) ?_
    refine e_gr (c := 6) (j := 18) (r := 67) f_134_105 (by decide) (by decide) (by decide) (by decide) ?_
    refine e_iconst (c := 2) f_134_108 (by decide) ?_
    refine e_iak (n := 3) (kk := 2) f_134_109 (by decide) (by decide) (by decide) ?_
    obtain ⟨hg, hV⟩ := hV
    refine e_ia (n := 3) f_134_110 (by decide) (by decide) hg ?_
    refine e_iload f_134_111 rfl ?_
    refine e_iconst (c := 8) f_134_113 (by decide) ?_
    refine e_idiv f_134_115 (by decide) ?_
    obtain ⟨P1, hP1, hV⟩ := hV
    refine e_si (n := 2) (A := [.int (S 67 (Int32.toNatClampNeg (S 67 2))), .int ((S 61 (Int32.toNatClampNeg (a1 + a3))) / 8)]) (R := []) f_134_116 na_122 rfl rfl (Nat.le_of_ble_eq_true rfl) (Nat.le_of_ble_eq_true rfl) (by rw [ml_122]; exact Nat.le_of_ble_eq_true rfl) hP1 (fun v1 S1 hp1 => ?_)
    have hV := hV v1 S1 hp1
    refine e_if f_134_119 (fun hc => ?_) (fun hc => ?_)
    · have hc : ¬ v1 = 0 := of_decide_eq_true hc
      rw [if_neg hc] at hV
      refine e_aload f_134_125 rfl (by decide) ?_
      refine e_gr (c := 6) (j := 18) (r := 67) f_134_126 (by decide) (by decide) (by decide) (by decide) ?_
      refine e_aload f_134_129 rfl (by decide) ?_
      refine e_gr (c := 6) (j := 18) (r := 67) f_134_130 (by decide) (by decide) (by decide) (by decide) ?_
      refine e_iconst (c := 2) f_134_133 (by decide) ?_
      refine e_iak (n := 3) (kk := 2) f_134_134 (by decide) (by decide) (by decide) ?_
      refine e_dup2 f_134_135 ⟨rfl, rfl⟩ ?_
      obtain ⟨hg, hV⟩ := hV
      refine e_ia (n := 3) f_134_136 (by decide) (by decide) hg ?_
      refine e_iconst (c := 1) f_134_137 (by decide) ?_
      refine e_iload f_134_138 rfl ?_
      refine e_iconst (c := 8) f_134_140 (by decide) ?_
      refine e_idiv f_134_142 (by decide) ?_
      refine e_ishl f_134_143 ?_
      refine e_iconst (c := (-1)) f_134_144 (by decide) ?_
      refine e_ixor f_134_145 ?_
      refine e_iand f_134_146 ?_
      obtain ⟨hg, hV⟩ := hV
      refine e_is (n := 3) f_134_147 (by decide) (by decide) hg ?_
      refine e_aload f_134_148 rfl (by decide) ?_
      refine e_gr (c := 6) (j := 18) (r := 67) f_134_149 (by decide) (by decide) (by decide) (by decide) ?_
      refine e_iconst (c := 2) f_134_152 (by decide) ?_
      refine e_aload f_134_153 rfl (by decide) ?_
      refine e_gr (c := 6) (j := 18) (r := 67) f_134_154 (by decide) (by decide) (by decide) (by decide) ?_
      refine e_iconst (c := 1) f_134_157 (by decide) ?_
      refine e_aload f_134_158 rfl (by decide) ?_
      refine e_gr (c := 6) (j := 18) (r := 67) f_134_159 (by decide) (by decide) (by decide) (by decide) ?_
      refine e_iconst (c := 2) f_134_162 (by decide) ?_
      refine e_iak (n := 3) (kk := 2) f_134_163 (by decide) (by decide) (by decide) ?_
      refine e_isub f_134_164 ?_
      obtain ⟨hg, hV⟩ := hV
      refine e_ia (n := 3) f_134_165 (by decide) (by decide) hg ?_
      refine e_if f_134_166 (fun hc => ?_) (fun hc => ?_)
      · have hc : ((x_up S1 67 (Int32.toNatClampNeg (S1 67 2)) ((S1 67 (Int32.toNatClampNeg (S1 67 2))) &&& ((1 <<< (((S 61 (Int32.toNatClampNeg (a1 + a3))) / 8) &&& 31)) ^^^ (-1)))) 67 (Int32.toNatClampNeg (1 - ((x_up S1 67 (Int32.toNatClampNeg (S1 67 2)) ((S1 67 (Int32.toNatClampNeg (S1 67 2))) &&& ((1 <<< (((S 61 (Int32.toNatClampNeg (a1 + a3))) / 8) &&& 31)) ^^^ (-1)))) 67 2)))) = 0 := of_decide_eq_true hc
        rw [if_pos hc] at hV
        refine e_aload f_134_180 rfl (by decide) ?_
        refine e_gr (c := 6) (j := 18) (r := 67) f_134_181 (by decide) (by decide) (by decide) (by decide) ?_
        refine e_iconst (c := 2) f_134_184 (by decide) ?_
        refine e_iak (n := 3) (kk := 2) f_134_185 (by decide) (by decide) (by decide) ?_
        refine e_isk (n := 3) (kk := 2) f_134_186 (by decide) (by decide) (by decide) ?_
        refine e_inc (c := 1) (L' := [.ref 56, .int a1, .int a2, .int (a3 + 1), .int (S 61 (Int32.toNatClampNeg (a1 + a3)))]) f_134_187 rfl (by decide) rfl ?_
        refine e_goto f_134_190 ?_
        exact hV
      · have hc : ¬ ((x_up S1 67 (Int32.toNatClampNeg (S1 67 2)) ((S1 67 (Int32.toNatClampNeg (S1 67 2))) &&& ((1 <<< (((S 61 (Int32.toNatClampNeg (a1 + a3))) / 8) &&& 31)) ^^^ (-1)))) 67 (Int32.toNatClampNeg (1 - ((x_up S1 67 (Int32.toNatClampNeg (S1 67 2)) ((S1 67 (Int32.toNatClampNeg (S1 67 2))) &&& ((1 <<< (((S 61 (Int32.toNatClampNeg (a1 + a3))) / 8) &&& 31)) ^^^ (-1)))) 67 2)))) = 0 := fun z => hc (decide_eq_true z)
        rw [if_neg hc] at hV
        refine e_iconst (c := 1) f_134_169 (by decide) ?_
        refine e_aload f_134_170 rfl (by decide) ?_
        refine e_gr (c := 6) (j := 18) (r := 67) f_134_171 (by decide) (by decide) (by decide) (by decide) ?_
        refine e_iconst (c := 2) f_134_174 (by decide) ?_
        refine e_iak (n := 3) (kk := 2) f_134_175 (by decide) (by decide) (by decide) ?_
        refine e_isub f_134_176 ?_
        refine e_goto f_134_177 ?_
        refine e_isk (n := 3) (kk := 2) f_134_186 (by decide) (by decide) (by decide) ?_
        refine e_inc (c := 1) (L' := [.ref 56, .int a1, .int a2, .int (a3 + 1), .int (S 61 (Int32.toNatClampNeg (a1 + a3)))]) f_134_187 rfl (by decide) rfl ?_
        refine e_goto f_134_190 ?_
        exact hV
    · have hc : v1 = 0 := Decidable.not_not.mp (fun z => hc (decide_eq_true z))
      rw [if_pos hc] at hV
      refine e_iconst (c := (-1000002)) f_134_122 (by decide) ?_
      exact e_ireturn f_134_124 rt_134 rfl hV
set_option maxRecDepth 20000 in
theorem T_135_0 {xs : List Int32} {d : Nat} {S : x_M} {Q : Option Value → x_M → Prop} {a1 : Int32} {a2 : Int32}  (hV : if (S 57 0) = 0 then (Q (some (.int (-1000002))) S) else (∃ P1 : Int32 → x_M → Prop, x_Ci xs d 101 [.long (Int32.toInt64 a1), .long 1, .long 14] S P1 ∧ ∀ (v1 : Int32) (S1 : x_M), P1 v1 S1 → (if v1 = 0 then (Q (some (.int (-1000001))) S1) else (∃ P2 : Int32 → x_M → Prop, x_Ci xs d 101 [.long (Int32.toInt64 a2), .long 1, .long 999999] S1 P2 ∧ ∀ (v2 : Int32) (S2 : x_M), P2 v2 S2 → (if v2 = 0 then (Q (some (.int (-1000001))) S2) else (x_E xs (d + 1) 135 45 [.ref 56, .int a1, .int a2, .long (Int32.toInt64 a2), .null, .int 0, .null, .null, .null, .null] [] S2 Q)))))) : x_E xs (d + 1) 135 0 [.ref 56, .int a1, .int a2, .null, .null, .null, .null, .null, .null, .null] [] S Q := by
  refine e_aload f_135_0 rfl (by decide) ?_
  refine e_gr (c := 6) (j := 0) (r := 57) f_135_1 (by decide) (by decide) (by decide) (by decide) ?_
  refine e_iconst (c := 0) f_135_4 (by decide) ?_
  refine e_iak (n := 99) (kk := 0) f_135_5 (by decide) (by decide) (by decide) ?_
  refine e_if f_135_6 (fun hc => ?_) (fun hc => ?_)
  · have hc : ¬ (S 57 0) = 0 := of_decide_eq_true hc
    rw [if_neg hc] at hV
    refine e_iload f_135_12 rfl ?_
    refine e_i2l f_135_13 ?_
    refine e_lconst (c := 1) f_135_14 (by decide) ?_
    refine e_lconst (c := 14) f_135_15 (by decide) ?_
    obtain ⟨P1, hP1, hV⟩ := hV
    refine e_si (n := 3) (A := [.long (Int32.toInt64 a1), .long 1, .long 14]) (R := []) f_135_18 na_101 rfl rfl (Nat.le_of_ble_eq_true rfl) (Nat.le_of_ble_eq_true rfl) (by rw [ml_101]; exact Nat.le_of_ble_eq_true rfl) hP1 (fun v1 S1 hp1 => ?_)
    have hV := hV v1 S1 hp1
    refine e_if f_135_21 (fun hc => ?_) (fun hc => ?_)
    · have hc : v1 = 0 := of_decide_eq_true hc
      rw [if_pos hc] at hV
      refine e_iconst (c := (-1000001)) f_135_36 (by decide) ?_
      exact e_ireturn f_135_38 rt_135 rfl hV
    · have hc : ¬ v1 = 0 := fun z => hc (decide_eq_true z)
      rw [if_neg hc] at hV
      refine e_iload f_135_24 rfl ?_
      refine e_i2l f_135_25 ?_
      refine e_lconst (c := 1) f_135_26 (by decide) ?_
      refine e_lconst (c := 999999) f_135_27 (by decide) ?_
      obtain ⟨P2, hP2, hV⟩ := hV
      refine e_si (n := 3) (A := [.long (Int32.toInt64 a2), .long 1, .long 999999]) (R := []) f_135_30 na_101 rfl rfl (Nat.le_of_ble_eq_true rfl) (Nat.le_of_ble_eq_true rfl) (by rw [ml_101]; exact Nat.le_of_ble_eq_true rfl) hP2 (fun v2 S2 hp2 => ?_)
      have hV := hV v2 S2 hp2
      refine e_if f_135_33 (fun hc => ?_) (fun hc => ?_)
      · have hc : ¬ v2 = 0 := of_decide_eq_true hc
        rw [if_neg hc] at hV
        refine e_iload f_135_39 rfl ?_
        refine e_i2l f_135_40 ?_
        refine e_lstore (L' := [.ref 56, .int a1, .int a2, .long (Int32.toInt64 a2), .null, .null, .null, .null, .null, .null]) f_135_41 (Nat.le_of_ble_eq_true rfl) rfl ?_
        refine e_iconst (c := 0) f_135_42 (by decide) ?_
        refine e_istore (L' := [.ref 56, .int a1, .int a2, .long (Int32.toInt64 a2), .null, .int 0, .null, .null, .null, .null]) f_135_43 (Nat.le_of_ble_eq_true rfl) rfl ?_
        exact hV
      · have hc : v2 = 0 := Decidable.not_not.mp (fun z => hc (decide_eq_true z))
        rw [if_pos hc] at hV
        refine e_iconst (c := (-1000001)) f_135_36 (by decide) ?_
        exact e_ireturn f_135_38 rt_135 rfl hV
  · have hc : (S 57 0) = 0 := Decidable.not_not.mp (fun z => hc (decide_eq_true z))
    rw [if_pos hc] at hV
    refine e_iconst (c := (-1000002)) f_135_9 (by decide) ?_
    exact e_ireturn f_135_11 rt_135 rfl hV
set_option maxRecDepth 20000 in
theorem T_135_45 {xs : List Int32} {d : Nat} {S : x_M} {Q : Option Value → x_M → Prop} {a1 : Int32} {a2 : Int32} {a3 : Int64} {a5 : Int32} {a6 : Value} {a7 : Value} {a8 : Value} {a9 : Value}  (hV : if a1 ≤ a5 then (Q (some (.int a5)) S) else ((x_ib (30 + (S 57 27)) 99) ∧ (if (S 57 (Int32.toNatClampNeg (30 + (S 57 27)))) = 0 then (Q (some (.int a5)) S) else ((x_ib (30 + (S 57 27)) 99) ∧ (∃ P1 : Int32 → x_M → Prop, x_Ci xs d 136 [.int (S 57 (Int32.toNatClampNeg (30 + (S 57 27))))] S P1 ∧ ∀ (v1 : Int32) (S1 : x_M), P1 v1 S1 → ((¬ (8 * (Int32.toInt64 v1)) = 0) ∧ (x_E xs (d + 1) 135 121 [.ref 56, .int a1, .int a2, .long ((a3 * 16807) - (a3 * 16807) / 2147483647 * 2147483647), .null, .int a5, .int (S 57 (Int32.toNatClampNeg (30 + (S 57 27)))), .int (Int64.toInt32 (((a3 * 16807) - (a3 * 16807) / 2147483647 * 2147483647) - ((a3 * 16807) - (a3 * 16807) / 2147483647 * 2147483647) / (8 * (Int32.toInt64 v1)) * (8 * (Int32.toInt64 v1)))), .int 0, .int ((Int64.toInt32 (((a3 * 16807) - (a3 * 16807) / 2147483647 * 2147483647) - ((a3 * 16807) - (a3 * 16807) / 2147483647 * 2147483647) / (8 * (Int32.toInt64 v1)) * (8 * (Int32.toInt64 v1)))) / 8)] [] S1 Q))))))) : x_E xs (d + 1) 135 45 [.ref 56, .int a1, .int a2, .long a3, .null, .int a5, a6, a7, a8, a9] [] S Q := by
  refine e_iload f_135_45 rfl ?_
  refine e_iload f_135_47 rfl ?_
  refine e_icmp f_135_48 (fun hc => ?_) (fun hc => ?_)
  · have hc : a1 ≤ a5 := of_decide_eq_true hc
    rw [if_pos hc] at hV
    refine e_iload f_135_184 rfl ?_
    exact e_ireturn f_135_186 rt_135 rfl hV
  · have hc : ¬ a1 ≤ a5 := fun z => hc (decide_eq_true z)
    rw [if_neg hc] at hV
    refine e_aload f_135_51 rfl (by decide) ?_
    refine e_gr (c := 6) (j := 0) (r := 57) f_135_52 (by decide) (by decide) (by decide) (by decide) ?_
    refine e_iconst (c := 30) f_135_55 (by decide) ?_
    refine e_aload f_135_57 rfl (by decide) ?_
    refine e_gr (c := 6) (j := 0) (r := 57) f_135_58 (by decide) (by decide) (by decide) (by decide) ?_
    refine e_iconst (c := 27) f_135_61 (by decide) ?_
    refine e_iak (n := 99) (kk := 27) f_135_63 (by decide) (by decide) (by decide) ?_
    refine e_iadd f_135_64 ?_
    obtain ⟨hg, hV⟩ := hV
    refine e_ia (n := 99) f_135_65 (by decide) (by decide) hg ?_
    refine e_if f_135_66 (fun hc => ?_) (fun hc => ?_)
    · have hc : (S 57 (Int32.toNatClampNeg (30 + (S 57 27)))) = 0 := of_decide_eq_true hc
      rw [if_pos hc] at hV
      refine e_iload f_135_184 rfl ?_
      exact e_ireturn f_135_186 rt_135 rfl hV
    · have hc : ¬ (S 57 (Int32.toNatClampNeg (30 + (S 57 27)))) = 0 := fun z => hc (decide_eq_true z)
      rw [if_neg hc] at hV
      refine e_lload f_135_69 rfl ?_
      refine e_lconst (c := 16807) f_135_70 (by decide) ?_
      refine e_lmul f_135_73 ?_
      refine e_lconst (c := 2147483647) f_135_74 (by decide) ?_
      refine e_lrem f_135_77 (by decide) ?_
      refine e_lstore (L' := [.ref 56, .int a1, .int a2, .long ((a3 * 16807) - (a3 * 16807) / 2147483647 * 2147483647), .null, .int a5, a6, a7, a8, a9]) f_135_78 (Nat.le_of_ble_eq_true rfl) rfl ?_
      refine e_aload f_135_79 rfl (by decide) ?_
      refine e_gr (c := 6) (j := 0) (r := 57) f_135_80 (by decide) (by decide) (by decide) (by decide) ?_
      refine e_iconst (c := 30) f_135_83 (by decide) ?_
      refine e_aload f_135_85 rfl (by decide) ?_
      refine e_gr (c := 6) (j := 0) (r := 57) f_135_86 (by decide) (by decide) (by decide) (by decide) ?_
      refine e_iconst (c := 27) f_135_89 (by decide) ?_
      refine e_iak (n := 99) (kk := 27) f_135_91 (by decide) (by decide) (by decide) ?_
      refine e_iadd f_135_92 ?_
      obtain ⟨hg, hV⟩ := hV
      refine e_ia (n := 99) f_135_93 (by decide) (by decide) hg ?_
      refine e_istore (L' := [.ref 56, .int a1, .int a2, .long ((a3 * 16807) - (a3 * 16807) / 2147483647 * 2147483647), .null, .int a5, .int (S 57 (Int32.toNatClampNeg (30 + (S 57 27)))), a7, a8, a9]) f_135_94 (Nat.le_of_ble_eq_true rfl) rfl ?_
      refine e_lload f_135_96 rfl ?_
      refine e_lconst (c := 8) f_135_97 (by decide) ?_
      refine e_iload f_135_100 rfl ?_
      obtain ⟨P1, hP1, hV⟩ := hV
      refine e_si (n := 1) (A := [.int (S 57 (Int32.toNatClampNeg (30 + (S 57 27))))]) (R := [.long 8, .long ((a3 * 16807) - (a3 * 16807) / 2147483647 * 2147483647)]) f_135_102 na_136 rfl rfl (Nat.le_of_ble_eq_true rfl) (Nat.le_of_ble_eq_true rfl) (by rw [ml_136]; exact Nat.le_of_ble_eq_true rfl) hP1 (fun v1 S1 hp1 => ?_)
      have hV := hV v1 S1 hp1
      refine e_i2l f_135_105 ?_
      refine e_lmul f_135_106 ?_
      obtain ⟨hg, hV⟩ := hV
      refine e_lrem f_135_107 hg ?_
      refine e_l2i f_135_108 ?_
      refine e_istore (L' := [.ref 56, .int a1, .int a2, .long ((a3 * 16807) - (a3 * 16807) / 2147483647 * 2147483647), .null, .int a5, .int (S 57 (Int32.toNatClampNeg (30 + (S 57 27)))), .int (Int64.toInt32 (((a3 * 16807) - (a3 * 16807) / 2147483647 * 2147483647) - ((a3 * 16807) - (a3 * 16807) / 2147483647 * 2147483647) / (8 * (Int32.toInt64 v1)) * (8 * (Int32.toInt64 v1)))), a8, a9]) f_135_109 (Nat.le_of_ble_eq_true rfl) rfl ?_
      refine e_iconst (c := 0) f_135_111 (by decide) ?_
      refine e_istore (L' := [.ref 56, .int a1, .int a2, .long ((a3 * 16807) - (a3 * 16807) / 2147483647 * 2147483647), .null, .int a5, .int (S 57 (Int32.toNatClampNeg (30 + (S 57 27)))), .int (Int64.toInt32 (((a3 * 16807) - (a3 * 16807) / 2147483647 * 2147483647) - ((a3 * 16807) - (a3 * 16807) / 2147483647 * 2147483647) / (8 * (Int32.toInt64 v1)) * (8 * (Int32.toInt64 v1)))), .int 0, a9]) f_135_112 (Nat.le_of_ble_eq_true rfl) rfl ?_
      refine e_iload f_135_114 rfl ?_
      refine e_iconst (c := 8) f_135_116 (by decide) ?_
      refine e_idiv f_135_118 (by decide) ?_
      refine e_istore (L' := [.ref 56, .int a1, .int a2, .long ((a3 * 16807) - (a3 * 16807) / 2147483647 * 2147483647), .null, .int a5, .int (S 57 (Int32.toNatClampNeg (30 + (S 57 27)))), .int (Int64.toInt32 (((a3 * 16807) - (a3 * 16807) / 2147483647 * 2147483647) - ((a3 * 16807) - (a3 * 16807) / 2147483647 * 2147483647) / (8 * (Int32.toInt64 v1)) * (8 * (Int32.toInt64 v1)))), .int 0, .int ((Int64.toInt32 (((a3 * 16807) - (a3 * 16807) / 2147483647 * 2147483647) - ((a3 * 16807) - (a3 * 16807) / 2147483647 * 2147483647) / (8 * (Int32.toInt64 v1)) * (8 * (Int32.toInt64 v1)))) / 8)]) f_135_119 (Nat.le_of_ble_eq_true rfl) rfl ?_
      exact hV
set_option maxRecDepth 20000 in
theorem T_135_121 {xs : List Int32} {d : Nat} {S : x_M} {Q : Option Value → x_M → Prop} {a1 : Int32} {a2 : Int32} {a3 : Int64} {a5 : Int32} {a6 : Int32} {a7 : Int32} {a8 : Int32} {a9 : Int32}  (hV : ∃ P1 : Int32 → x_M → Prop, x_Ci xs d 122 [.int a6, .int a8] S P1 ∧ ∀ (v1 : Int32) (S1 : x_M), P1 v1 S1 → (if v1 = 0 then (∃ P2 : Int32 → x_M → Prop, x_Ci xs d 122 [.int a6, .int a8] S1 P2 ∧ ∀ (v2 : Int32) (S2 : x_M), P2 v2 S2 → (if v2 = 0 then (x_E xs (d + 1) 135 121 [.ref 56, .int a1, .int a2, .long a3, .null, .int a5, .int a6, .int a7, .int (a8 + 1), .int (a9 - 0)] [] S2 Q) else (x_E xs (d + 1) 135 121 [.ref 56, .int a1, .int a2, .long a3, .null, .int a5, .int a6, .int a7, .int (a8 + 1), .int (a9 - 1)] [] S2 Q))) else (if a9 ≤ 0 then (∃ P3 : Int32 → x_M → Prop, x_Ci xs d 132 [.ref 56, .int ((8 * a8) + (a7 - a7 / 8 * 8))] S1 P3 ∧ ∀ (v3 : Int32) (S3 : x_M), P3 v3 S3 → (x_E xs (d + 1) 135 45 [.ref 56, .int a1, .int a2, .long a3, .null, .int (a5 + 1), .int a6, .int a7, .int a8, .int a9] [] S3 Q)) else (∃ P4 : Int32 → x_M → Prop, x_Ci xs d 122 [.int a6, .int a8] S1 P4 ∧ ∀ (v4 : Int32) (S4 : x_M), P4 v4 S4 → (if v4 = 0 then (x_E xs (d + 1) 135 121 [.ref 56, .int a1, .int a2, .long a3, .null, .int a5, .int a6, .int a7, .int (a8 + 1), .int (a9 - 0)] [] S4 Q) else (x_E xs (d + 1) 135 121 [.ref 56, .int a1, .int a2, .long a3, .null, .int a5, .int a6, .int a7, .int (a8 + 1), .int (a9 - 1)] [] S4 Q)))))) : x_E xs (d + 1) 135 121 [.ref 56, .int a1, .int a2, .long a3, .null, .int a5, .int a6, .int a7, .int a8, .int a9] [] S Q := by
  refine e_iload f_135_121 rfl ?_
  refine e_iload f_135_123 rfl ?_
  obtain ⟨P1, hP1, hV⟩ := hV
  refine e_si (n := 2) (A := [.int a6, .int a8]) (R := []) f_135_125 na_122 rfl rfl (Nat.le_of_ble_eq_true rfl) (Nat.le_of_ble_eq_true rfl) (by rw [ml_122]; exact Nat.le_of_ble_eq_true rfl) hP1 (fun v1 S1 hp1 => ?_)
  have hV := hV v1 S1 hp1
  refine e_if f_135_128 (fun hc => ?_) (fun hc => ?_)
  · have hc : v1 = 0 := of_decide_eq_true hc
    rw [if_pos hc] at hV
    refine e_iload f_135_136 rfl ?_
    refine e_iload f_135_138 rfl ?_
    refine e_iload f_135_140 rfl ?_
    obtain ⟨P2, hP2, hV⟩ := hV
    refine e_si (n := 2) (A := [.int a6, .int a8]) (R := [.int a9]) f_135_142 na_122 rfl rfl (Nat.le_of_ble_eq_true rfl) (Nat.le_of_ble_eq_true rfl) (by rw [ml_122]; exact Nat.le_of_ble_eq_true rfl) hP2 (fun v2 S2 hp2 => ?_)
    have hV := hV v2 S2 hp2
    refine e_if f_135_145 (fun hc => ?_) (fun hc => ?_)
    · have hc : v2 = 0 := of_decide_eq_true hc
      rw [if_pos hc] at hV
      refine e_iconst (c := 0) f_135_152 (by decide) ?_
      refine e_isub f_135_153 ?_
      refine e_istore (L' := [.ref 56, .int a1, .int a2, .long a3, .null, .int a5, .int a6, .int a7, .int a8, .int (a9 - 0)]) f_135_154 (Nat.le_of_ble_eq_true rfl) rfl ?_
      refine e_inc (c := 1) (L' := [.ref 56, .int a1, .int a2, .long a3, .null, .int a5, .int a6, .int a7, .int (a8 + 1), .int (a9 - 0)]) f_135_156 rfl (by decide) rfl ?_
      refine e_goto f_135_159 ?_
      exact hV
    · have hc : ¬ v2 = 0 := fun z => hc (decide_eq_true z)
      rw [if_neg hc] at hV
      refine e_iconst (c := 1) f_135_148 (by decide) ?_
      refine e_goto f_135_149 ?_
      refine e_isub f_135_153 ?_
      refine e_istore (L' := [.ref 56, .int a1, .int a2, .long a3, .null, .int a5, .int a6, .int a7, .int a8, .int (a9 - 1)]) f_135_154 (Nat.le_of_ble_eq_true rfl) rfl ?_
      refine e_inc (c := 1) (L' := [.ref 56, .int a1, .int a2, .long a3, .null, .int a5, .int a6, .int a7, .int (a8 + 1), .int (a9 - 1)]) f_135_156 rfl (by decide) rfl ?_
      refine e_goto f_135_159 ?_
      exact hV
  · have hc : ¬ v1 = 0 := fun z => hc (decide_eq_true z)
    rw [if_neg hc] at hV
    refine e_iload f_135_131 rfl ?_
    refine e_if f_135_133 (fun hc => ?_) (fun hc => ?_)
    · have hc : a9 ≤ 0 := of_decide_eq_true hc
      rw [if_pos hc] at hV
      refine e_aload f_135_162 rfl (by decide) ?_
      refine e_iconst (c := 8) f_135_163 (by decide) ?_
      refine e_iload f_135_165 rfl ?_
      refine e_imul f_135_167 ?_
      refine e_iload f_135_168 rfl ?_
      refine e_iconst (c := 8) f_135_170 (by decide) ?_
      refine e_irem f_135_172 (by decide) ?_
      refine e_iadd f_135_173 ?_
      obtain ⟨P3, hP3, hV⟩ := hV
      refine e_vi (n := 2) (A := [.ref 56, .int ((8 * a8) + (a7 - a7 / 8 * 8))]) (R := []) f_135_174 na_132 rfl rfl (Nat.le_of_ble_eq_true rfl) (Nat.le_of_ble_eq_true rfl) (by rw [ml_132]; exact Nat.le_of_ble_eq_true rfl) rfl (by rw [cy_132]; decide) (by rw [cy_132]; exact (by decide : x_tg 56 = 6)) hP3 (fun v3 S3 hp3 => ?_)
      have hV := hV v3 S3 hp3
      refine e_pop f_135_177 rfl ?_
      refine e_inc (c := 1) (L' := [.ref 56, .int a1, .int a2, .long a3, .null, .int (a5 + 1), .int a6, .int a7, .int a8, .int a9]) f_135_178 rfl (by decide) rfl ?_
      refine e_goto f_135_181 ?_
      exact hV
    · have hc : ¬ a9 ≤ 0 := fun z => hc (decide_eq_true z)
      rw [if_neg hc] at hV
      refine e_iload f_135_136 rfl ?_
      refine e_iload f_135_138 rfl ?_
      refine e_iload f_135_140 rfl ?_
      obtain ⟨P4, hP4, hV⟩ := hV
      refine e_si (n := 2) (A := [.int a6, .int a8]) (R := [.int a9]) f_135_142 na_122 rfl rfl (Nat.le_of_ble_eq_true rfl) (Nat.le_of_ble_eq_true rfl) (by rw [ml_122]; exact Nat.le_of_ble_eq_true rfl) hP4 (fun v4 S4 hp4 => ?_)
      have hV := hV v4 S4 hp4
      refine e_if f_135_145 (fun hc => ?_) (fun hc => ?_)
      · have hc : v4 = 0 := of_decide_eq_true hc
        rw [if_pos hc] at hV
        refine e_iconst (c := 0) f_135_152 (by decide) ?_
        refine e_isub f_135_153 ?_
        refine e_istore (L' := [.ref 56, .int a1, .int a2, .long a3, .null, .int a5, .int a6, .int a7, .int a8, .int (a9 - 0)]) f_135_154 (Nat.le_of_ble_eq_true rfl) rfl ?_
        refine e_inc (c := 1) (L' := [.ref 56, .int a1, .int a2, .long a3, .null, .int a5, .int a6, .int a7, .int (a8 + 1), .int (a9 - 0)]) f_135_156 rfl (by decide) rfl ?_
        refine e_goto f_135_159 ?_
        exact hV
      · have hc : ¬ v4 = 0 := fun z => hc (decide_eq_true z)
        rw [if_neg hc] at hV
        refine e_iconst (c := 1) f_135_148 (by decide) ?_
        refine e_goto f_135_149 ?_
        refine e_isub f_135_153 ?_
        refine e_istore (L' := [.ref 56, .int a1, .int a2, .long a3, .null, .int a5, .int a6, .int a7, .int a8, .int (a9 - 1)]) f_135_154 (Nat.le_of_ble_eq_true rfl) rfl ?_
        refine e_inc (c := 1) (L' := [.ref 56, .int a1, .int a2, .long a3, .null, .int a5, .int a6, .int a7, .int (a8 + 1), .int (a9 - 1)]) f_135_156 rfl (by decide) rfl ?_
        refine e_goto f_135_159 ?_
        exact hV
set_option maxRecDepth 20000 in
theorem T_136_0 {xs : List Int32} {d : Nat} {S : x_M} {Q : Option Value → x_M → Prop} {a0 : Int32}  (hV : x_E xs (d + 1) 136 4 [.int a0, .int 0, .int 0] [] S Q) : x_E xs (d + 1) 136 0 [.int a0, .null, .null] [] S Q := by
  refine e_iconst (c := 0) f_136_0 (by decide) ?_
  refine e_istore (L' := [.int a0, .int 0, .null]) f_136_1 (Nat.le_of_ble_eq_true rfl) rfl ?_
  refine e_iconst (c := 0) f_136_2 (by decide) ?_
  refine e_istore (L' := [.int a0, .int 0, .int 0]) f_136_3 (Nat.le_of_ble_eq_true rfl) rfl ?_
  exact hV
set_option maxRecDepth 20000 in
theorem T_136_4 {xs : List Int32} {d : Nat} {S : x_M} {Q : Option Value → x_M → Prop} {a0 : Int32} {a1 : Int32} {a2 : Int32}  (hV : if (14 : Int32) ≤ a2 then (Q (some (.int a1)) S) else (x_E xs (d + 1) 136 4 [.int a0, .int (a1 + ((a0 >>> (a2 &&& 31)) &&& 1)), .int (a2 + 1)] [] S Q)) : x_E xs (d + 1) 136 4 [.int a0, .int a1, .int a2] [] S Q := by
  refine e_iload f_136_4 rfl ?_
  refine e_iconst (c := 14) f_136_5 (by decide) ?_
  refine e_icmp f_136_7 (fun hc => ?_) (fun hc => ?_)
  · have hc : (14 : Int32) ≤ a2 := of_decide_eq_true hc
    rw [if_pos hc] at hV
    refine e_iload f_136_24 rfl ?_
    exact e_ireturn f_136_25 rt_136 rfl hV
  · have hc : ¬ (14 : Int32) ≤ a2 := fun z => hc (decide_eq_true z)
    rw [if_neg hc] at hV
    refine e_iload f_136_10 rfl ?_
    refine e_iload f_136_11 rfl ?_
    refine e_iload f_136_12 rfl ?_
    refine e_ishr f_136_13 ?_
    refine e_iconst (c := 1) f_136_14 (by decide) ?_
    refine e_iand f_136_15 ?_
    refine e_iadd f_136_16 ?_
    refine e_istore (L' := [.int a0, .int (a1 + ((a0 >>> (a2 &&& 31)) &&& 1)), .int a2]) f_136_17 (Nat.le_of_ble_eq_true rfl) rfl ?_
    refine e_inc (c := 1) (L' := [.int a0, .int (a1 + ((a0 >>> (a2 &&& 31)) &&& 1)), .int (a2 + 1)]) f_136_18 rfl (by decide) rfl ?_
    refine e_goto f_136_21 ?_
    exact hV
set_option maxRecDepth 20000 in
theorem T_137_0 {xs : List Int32} {d : Nat} {S : x_M} {Q : Option Value → x_M → Prop} {a1 : Int32}  (hV : if (S 57 0) = 0 then (Q (some (.int (-1000002))) S) else (if a1 = 0 then (Q (some (.int (S 57 25))) S) else (if a1 = 1 then (Q (some (.int (S 57 26))) S) else (if a1 = 2 then (∃ P1 : Int32 → x_M → Prop, x_Ci xs d 138 [.ref 56] S P1 ∧ ∀ (v1 : Int32) (S1 : x_M), P1 v1 S1 → (if v1 = 0 then (Q (some (.int (S1 57 27))) S1) else (Q (some (.int (-1000000))) S1))) else (if a1 = 3 then ((x_ib ((28 + a1) - 3) 99) ∧ (Q (some (.int (S 57 (Int32.toNatClampNeg ((28 + a1) - 3))))) S)) else (if a1 = 4 then ((x_ib ((28 + a1) - 3) 99) ∧ (Q (some (.int (S 57 (Int32.toNatClampNeg ((28 + a1) - 3))))) S)) else (if a1 = 5 then ((x_ib ((30 + a1) - 5) 99) ∧ (Q (some (.int (S 57 (Int32.toNatClampNeg ((30 + a1) - 5))))) S)) else (if a1 = 6 then ((x_ib ((30 + a1) - 5) 99) ∧ (Q (some (.int (S 57 (Int32.toNatClampNeg ((30 + a1) - 5))))) S)) else (if a1 = 7 then (Q (some (.int (S 57 32))) S) else (Q (some (.int (-1000001))) S)))))))))) : x_E xs (d + 1) 137 0 [.ref 56, .int a1] [] S Q := by
  refine e_aload f_137_0 rfl (by decide) ?_
  refine e_gr (c := 6) (j := 0) (r := 57) f_137_1 (by decide) (by decide) (by decide) (by decide) ?_
  refine e_iconst (c := 0) f_137_4 (by decide) ?_
  refine e_iak (n := 99) (kk := 0) f_137_5 (by decide) (by decide) (by decide) ?_
  refine e_if f_137_6 (fun hc => ?_) (fun hc => ?_)
  · have hc : ¬ (S 57 0) = 0 := of_decide_eq_true hc
    rw [if_neg hc] at hV
    refine e_iload f_137_12 rfl ?_
    by_cases hx0 : a1 = 0
    · rw [if_pos hx0] at hV
      refine e_ts f_137_13 hx0 (t := 60) (by decide) ?_
      refine e_aload f_137_60 rfl (by decide) ?_
      refine e_gr (c := 6) (j := 0) (r := 57) f_137_61 (by decide) (by decide) (by decide) (by decide) ?_
      refine e_iconst (c := 25) f_137_64 (by decide) ?_
      refine e_iak (n := 99) (kk := 25) f_137_66 (by decide) (by decide) (by decide) ?_
      exact e_ireturn f_137_67 rt_137 rfl hV
    rw [if_neg hx0] at hV
    by_cases hx1 : a1 = 1
    · rw [if_pos hx1] at hV
      refine e_ts f_137_13 hx1 (t := 68) (by decide) ?_
      refine e_aload f_137_68 rfl (by decide) ?_
      refine e_gr (c := 6) (j := 0) (r := 57) f_137_69 (by decide) (by decide) (by decide) (by decide) ?_
      refine e_iconst (c := 26) f_137_72 (by decide) ?_
      refine e_iak (n := 99) (kk := 26) f_137_74 (by decide) (by decide) (by decide) ?_
      exact e_ireturn f_137_75 rt_137 rfl hV
    rw [if_neg hx1] at hV
    by_cases hx2 : a1 = 2
    · rw [if_pos hx2] at hV
      refine e_ts f_137_13 hx2 (t := 76) (by decide) ?_
      refine e_aload f_137_76 rfl (by decide) ?_
      obtain ⟨P1, hP1, hV⟩ := hV
      refine e_vi (n := 1) (A := [.ref 56]) (R := []) f_137_77 na_138 rfl rfl (Nat.le_of_ble_eq_true rfl) (Nat.le_of_ble_eq_true rfl) (by rw [ml_138]; exact Nat.le_of_ble_eq_true rfl) rfl (by rw [cy_138]; decide) (by rw [cy_138]; exact (by decide : x_tg 56 = 6)) hP1 (fun v1 S1 hp1 => ?_)
      have hV := hV v1 S1 hp1
      refine e_if f_137_80 (fun hc => ?_) (fun hc => ?_)
      · have hc : v1 = 0 := of_decide_eq_true hc
        rw [if_pos hc] at hV
        refine e_aload f_137_88 rfl (by decide) ?_
        refine e_gr (c := 6) (j := 0) (r := 57) f_137_89 (by decide) (by decide) (by decide) (by decide) ?_
        refine e_iconst (c := 27) f_137_92 (by decide) ?_
        refine e_iak (n := 99) (kk := 27) f_137_94 (by decide) (by decide) (by decide) ?_
        exact e_ireturn f_137_95 rt_137 rfl hV
      · have hc : ¬ v1 = 0 := fun z => hc (decide_eq_true z)
        rw [if_neg hc] at hV
        refine e_iconst (c := (-1000000)) f_137_83 (by decide) ?_
        refine e_goto f_137_85 ?_
        exact e_ireturn f_137_95 rt_137 rfl hV
    rw [if_neg hx2] at hV
    by_cases hx3 : a1 = 3
    · rw [if_pos hx3] at hV
      refine e_ts f_137_13 hx3 (t := 96) (by decide) ?_
      refine e_aload f_137_96 rfl (by decide) ?_
      refine e_gr (c := 6) (j := 0) (r := 57) f_137_97 (by decide) (by decide) (by decide) (by decide) ?_
      refine e_iconst (c := 28) f_137_100 (by decide) ?_
      refine e_iload f_137_102 rfl ?_
      refine e_iadd f_137_103 ?_
      refine e_iconst (c := 3) f_137_104 (by decide) ?_
      refine e_isub f_137_105 ?_
      obtain ⟨hg, hV⟩ := hV
      refine e_ia (n := 99) f_137_106 (by decide) (by decide) hg ?_
      exact e_ireturn f_137_107 rt_137 rfl hV
    rw [if_neg hx3] at hV
    by_cases hx4 : a1 = 4
    · rw [if_pos hx4] at hV
      refine e_ts f_137_13 hx4 (t := 96) (by decide) ?_
      refine e_aload f_137_96 rfl (by decide) ?_
      refine e_gr (c := 6) (j := 0) (r := 57) f_137_97 (by decide) (by decide) (by decide) (by decide) ?_
      refine e_iconst (c := 28) f_137_100 (by decide) ?_
      refine e_iload f_137_102 rfl ?_
      refine e_iadd f_137_103 ?_
      refine e_iconst (c := 3) f_137_104 (by decide) ?_
      refine e_isub f_137_105 ?_
      obtain ⟨hg, hV⟩ := hV
      refine e_ia (n := 99) f_137_106 (by decide) (by decide) hg ?_
      exact e_ireturn f_137_107 rt_137 rfl hV
    rw [if_neg hx4] at hV
    by_cases hx5 : a1 = 5
    · rw [if_pos hx5] at hV
      refine e_ts f_137_13 hx5 (t := 108) (by decide) ?_
      refine e_aload f_137_108 rfl (by decide) ?_
      refine e_gr (c := 6) (j := 0) (r := 57) f_137_109 (by decide) (by decide) (by decide) (by decide) ?_
      refine e_iconst (c := 30) f_137_112 (by decide) ?_
      refine e_iload f_137_114 rfl ?_
      refine e_iadd f_137_115 ?_
      refine e_iconst (c := 5) f_137_116 (by decide) ?_
      refine e_isub f_137_117 ?_
      obtain ⟨hg, hV⟩ := hV
      refine e_ia (n := 99) f_137_118 (by decide) (by decide) hg ?_
      exact e_ireturn f_137_119 rt_137 rfl hV
    rw [if_neg hx5] at hV
    by_cases hx6 : a1 = 6
    · rw [if_pos hx6] at hV
      refine e_ts f_137_13 hx6 (t := 108) (by decide) ?_
      refine e_aload f_137_108 rfl (by decide) ?_
      refine e_gr (c := 6) (j := 0) (r := 57) f_137_109 (by decide) (by decide) (by decide) (by decide) ?_
      refine e_iconst (c := 30) f_137_112 (by decide) ?_
      refine e_iload f_137_114 rfl ?_
      refine e_iadd f_137_115 ?_
      refine e_iconst (c := 5) f_137_116 (by decide) ?_
      refine e_isub f_137_117 ?_
      obtain ⟨hg, hV⟩ := hV
      refine e_ia (n := 99) f_137_118 (by decide) (by decide) hg ?_
      exact e_ireturn f_137_119 rt_137 rfl hV
    rw [if_neg hx6] at hV
    by_cases hx7 : a1 = 7
    · rw [if_pos hx7] at hV
      refine e_ts f_137_13 hx7 (t := 120) (by decide) ?_
      refine e_aload f_137_120 rfl (by decide) ?_
      refine e_gr (c := 6) (j := 0) (r := 57) f_137_121 (by decide) (by decide) (by decide) (by decide) ?_
      refine e_iconst (c := 32) f_137_124 (by decide) ?_
      refine e_iak (n := 99) (kk := 32) f_137_126 (by decide) (by decide) (by decide) ?_
      exact e_ireturn f_137_127 rt_137 rfl hV
    rw [if_neg hx7] at hV
    have hy0 := lv_neT (a := 0) hx0 (by decide)
    have hy1 := lv_neT (a := 1) hx1 (by decide)
    have hy2 := lv_neT (a := 2) hx2 (by decide)
    have hy3 := lv_neT (a := 3) hx3 (by decide)
    have hy4 := lv_neT (a := 4) hx4 (by decide)
    have hy5 := lv_neT (a := 5) hx5 (by decide)
    have hy6 := lv_neT (a := 6) hx6 (by decide)
    have hy7 := lv_neT (a := 7) hx7 (by decide)
    refine e_tsd f_137_13 (by omega) (t := 128) (by decide) ?_
    refine e_iconst (c := (-1000001)) f_137_128 (by decide) ?_
    exact e_ireturn f_137_130 rt_137 rfl hV
  · have hc : (S 57 0) = 0 := Decidable.not_not.mp (fun z => hc (decide_eq_true z))
    rw [if_pos hc] at hV
    refine e_iconst (c := (-1000002)) f_137_9 (by decide) ?_
    exact e_ireturn f_137_11 rt_137 rfl hV
