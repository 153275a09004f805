set_option maxRecDepth 20000 in
theorem T_159_0 {xs : List Int32} {d : Nat} {S : x_M} {Q : Option Value → x_M → Prop} {a1 : Int32}  (hV : ∃ P1 : Int32 → x_M → Prop, x_Ci xs d 125 [.ref 56, .int a1] S P1 ∧ ∀ (v1 : Int32) (S1 : x_M), P1 v1 S1 → (if v1 = 0 then (Q (some (.int (-1000001))) S1) else (∃ P2 : Int32 → x_M → Prop, x_Ci xs d 160 [.ref 56, .int a1] S1 P2 ∧ ∀ (v2 : Int32) (S2 : x_M), P2 v2 S2 → (Q (some (.int v2)) S2)))) : x_E xs (d + 1) 159 0 [.ref 56, .int a1] [] S Q := by
  refine e_aload f_159_0 rfl (by decide) ?_
  refine e_iload f_159_1 rfl ?_
  obtain ⟨P1, hP1, hV⟩ := hV
  refine e_vi (n := 2) (A := [.ref 56, .int a1]) (R := []) f_159_2 na_125 rfl rfl (Nat.le_of_ble_eq_true rfl) (Nat.le_of_ble_eq_true rfl) (by rw [ml_125]; exact Nat.le_of_ble_eq_true rfl) rfl (by rw [cy_125]; decide) (by rw [cy_125]; exact (by decide : x_tg 56 = 6)) hP1 (fun v1 S1 hp1 => ?_)
  have hV := hV v1 S1 hp1
  refine e_if f_159_5 (fun hc => ?_) (fun hc => ?_)
  · have hc : v1 = 0 := of_decide_eq_true hc
    rw [if_pos hc] at hV
    refine e_iconst (c := (-1000001)) f_159_16 (by decide) ?_
    exact e_ireturn f_159_18 rt_159 rfl hV
  · have hc : ¬ v1 = 0 := fun z => hc (decide_eq_true z)
    rw [if_neg hc] at hV
    refine e_aload f_159_8 rfl (by decide) ?_
    refine e_iload f_159_9 rfl ?_
    obtain ⟨P2, hP2, hV⟩ := hV
    refine e_vi (n := 2) (A := [.ref 56, .int a1]) (R := []) f_159_10 na_160 rfl rfl (Nat.le_of_ble_eq_true rfl) (Nat.le_of_ble_eq_true rfl) (by rw [ml_160]; exact Nat.le_of_ble_eq_true rfl) rfl (by rw [cy_160]; decide) (by rw [cy_160]; exact (by decide : x_tg 56 = 6)) hP2 (fun v2 S2 hp2 => ?_)
    have hV := hV v2 S2 hp2
    refine e_goto f_159_13 ?_
    exact e_ireturn f_159_18 rt_159 rfl hV
set_option maxRecDepth 20000 in
theorem T_160_0 {xs : List Int32} {d : Nat} {S : x_M} {Q : Option Value → x_M → Prop} {a1 : Int32}  (hV : (x_ib (2 + a1) 99) ∧ (∃ P1 : Int32 → x_M → Prop, x_Ci xs d 136 [.int (S 57 (Int32.toNatClampNeg (2 + a1)))] S P1 ∧ ∀ (v1 : Int32) (S1 : x_M), P1 v1 S1 → (∃ P2 : Int32 → x_M → Prop, x_Ci xs d 151 [.ref 56, .int a1] S1 P2 ∧ ∀ (v2 : Int32) (S2 : x_M), P2 v2 S2 → (if v2 = 1 then (x_E xs (d + 1) 160 26 [.ref 56, .int a1, .int v1, .null] [.int 1] S2 Q) else (x_E xs (d + 1) 160 26 [.ref 56, .int a1, .int v1, .null] [.int 0] S2 Q))))) : x_E xs (d + 1) 160 0 [.ref 56, .int a1, .null, .null] [] S Q := by
  refine e_aload f_160_0 rfl (by decide) ?_
  refine e_gr (c := 6) (j := 0) (r := 57) f_160_1 (by decide) (by decide) (by decide) (by decide) ?_
  refine e_iconst (c := 2) f_160_4 (by decide) ?_
  refine e_iload f_160_5 rfl ?_
  refine e_iadd f_160_6 ?_
  obtain ⟨hg, hV⟩ := hV
  refine e_ia (n := 99) f_160_7 (by decide) (by decide) hg ?_
  obtain ⟨P1, hP1, hV⟩ := hV
  refine e_si (n := 1) (A := [.int (S 57 (Int32.toNatClampNeg (2 + a1)))]) (R := []) f_160_8 na_136 rfl rfl (Nat.le_of_ble_eq_true rfl) (Nat.le_of_ble_eq_true rfl) (by rw [ml_136]; exact Nat.le_of_ble_eq_true rfl) hP1 (fun v1 S1 hp1 => ?_)
  have hV := hV v1 S1 hp1
  refine e_istore (L' := [.ref 56, .int a1, .int v1, .null]) f_160_11 (Nat.le_of_ble_eq_true rfl) rfl ?_
  refine e_aload f_160_12 rfl (by decide) ?_
  refine e_iload f_160_13 rfl ?_
  obtain ⟨P2, hP2, hV⟩ := hV
  refine e_vi (n := 2) (A := [.ref 56, .int a1]) (R := []) f_160_14 na_151 rfl rfl (Nat.le_of_ble_eq_true rfl) (Nat.le_of_ble_eq_true rfl) (by rw [ml_151]; exact Nat.le_of_ble_eq_true rfl) rfl (by rw [cy_151]; decide) (by rw [cy_151]; exact (by decide : x_tg 56 = 6)) hP2 (fun v2 S2 hp2 => ?_)
  have hV := hV v2 S2 hp2
  refine e_iconst (c := 1) f_160_17 (by decide) ?_
  refine e_icmp f_160_18 (fun hc => ?_) (fun hc => ?_)
  · have hc : ¬ v2 = 1 := of_decide_eq_true hc
    rw [if_neg hc] at hV
    refine e_iconst (c := 0) f_160_25 (by decide) ?_
    exact hV
  · have hc : v2 = 1 := Decidable.not_not.mp (fun z => hc (decide_eq_true z))
    rw [if_pos hc] at hV
    refine e_iconst (c := 1) f_160_21 (by decide) ?_
    refine e_goto f_160_22 ?_
    exact hV
set_option maxRecDepth 20000 in
theorem T_160_26 {xs : List Int32} {d : Nat} {S : x_M} {Q : Option Value → x_M → Prop} {a1 : Int32} {a2 : Int32} {s0 : Int32}  (hV : if a2 = 0 then (Q (some (.int 2)) S) else (if s0 = 0 then (if s0 = 0 then (if a2 ≤ 5 then (Q (some (.int 1)) S) else (Q (some (.int 4)) S)) else (Q (some (.int 3)) S)) else (if a2 ≤ 5 then (if s0 = 0 then (if a2 ≤ 5 then (Q (some (.int 1)) S) else (Q (some (.int 4)) S)) else (Q (some (.int 3)) S)) else (Q (some (.int 5)) S)))) : x_E xs (d + 1) 160 26 [.ref 56, .int a1, .int a2, .null] [.int s0] S Q := by
  refine e_istore (L' := [.ref 56, .int a1, .int a2, .int s0]) f_160_26 (Nat.le_of_ble_eq_true rfl) rfl ?_
  refine e_iload f_160_27 rfl ?_
  refine e_if f_160_28 (fun hc => ?_) (fun hc => ?_)
  · have hc : ¬ a2 = 0 := of_decide_eq_true hc
    rw [if_neg hc] at hV
    refine e_iload f_160_35 rfl ?_
    refine e_if f_160_36 (fun hc => ?_) (fun hc => ?_)
    · have hc : s0 = 0 := of_decide_eq_true hc
      rw [if_pos hc] at hV
      refine e_iload f_160_48 rfl ?_
      refine e_if f_160_49 (fun hc => ?_) (fun hc => ?_)
      · have hc : s0 = 0 := of_decide_eq_true hc
        rw [if_pos hc] at hV
        refine e_iload f_160_56 rfl ?_
        refine e_iconst (c := 5) f_160_57 (by decide) ?_
        refine e_icmp f_160_58 (fun hc => ?_) (fun hc => ?_)
        · have hc : a2 ≤ 5 := of_decide_eq_true hc
          rw [if_pos hc] at hV
          refine e_iconst (c := 1) f_160_65 (by decide) ?_
          exact e_ireturn f_160_66 rt_160 rfl hV
        · have hc : ¬ a2 ≤ 5 := fun z => hc (decide_eq_true z)
          rw [if_neg hc] at hV
          refine e_iconst (c := 4) f_160_61 (by decide) ?_
          refine e_goto f_160_62 ?_
          exact e_ireturn f_160_66 rt_160 rfl hV
      · have hc : ¬ s0 = 0 := fun z => hc (decide_eq_true z)
        rw [if_neg hc] at hV
        refine e_iconst (c := 3) f_160_52 (by decide) ?_
        refine e_goto f_160_53 ?_
        exact e_ireturn f_160_66 rt_160 rfl hV
    · have hc : ¬ s0 = 0 := fun z => hc (decide_eq_true z)
      rw [if_neg hc] at hV
      refine e_iload f_160_39 rfl ?_
      refine e_iconst (c := 5) f_160_40 (by decide) ?_
      refine e_icmp f_160_41 (fun hc => ?_) (fun hc => ?_)
      · have hc : a2 ≤ 5 := of_decide_eq_true hc
        rw [if_pos hc] at hV
        refine e_iload f_160_48 rfl ?_
        refine e_if f_160_49 (fun hc => ?_) (fun hc => ?_)
        · have hc : s0 = 0 := of_decide_eq_true hc
          rw [if_pos hc] at hV
          refine e_iload f_160_56 rfl ?_
          refine e_iconst (c := 5) f_160_57 (by decide) ?_
          refine e_icmp f_160_58 (fun hc => ?_) (fun hc => ?_)
          · have hc : a2 ≤ 5 := of_decide_eq_true hc
            rw [if_pos hc] at hV
            refine e_iconst (c := 1) f_160_65 (by decide) ?_
            exact e_ireturn f_160_66 rt_160 rfl hV
          · have hc : ¬ a2 ≤ 5 := fun z => hc (decide_eq_true z)
            rw [if_neg hc] at hV
            refine e_iconst (c := 4) f_160_61 (by decide) ?_
            refine e_goto f_160_62 ?_
            exact e_ireturn f_160_66 rt_160 rfl hV
        · have hc : ¬ s0 = 0 := fun z => hc (decide_eq_true z)
          rw [if_neg hc] at hV
          refine e_iconst (c := 3) f_160_52 (by decide) ?_
          refine e_goto f_160_53 ?_
          exact e_ireturn f_160_66 rt_160 rfl hV
      · have hc : ¬ a2 ≤ 5 := fun z => hc (decide_eq_true z)
        rw [if_neg hc] at hV
        refine e_iconst (c := 5) f_160_44 (by decide) ?_
        refine e_goto f_160_45 ?_
        exact e_ireturn f_160_66 rt_160 rfl hV
  · have hc : a2 = 0 := Decidable.not_not.mp (fun z => hc (decide_eq_true z))
    rw [if_pos hc] at hV
    refine e_iconst (c := 2) f_160_31 (by decide) ?_
    refine e_goto f_160_32 ?_
    exact e_ireturn f_160_66 rt_160 rfl hV
set_option maxRecDepth 20000 in
theorem T_161_0 {xs : List Int32} {d : Nat} {S : x_M} {Q : Option Value → x_M → Prop} {a1 : Int32} {a2 : Int32}  (hV : ∃ P1 : Int32 → x_M → Prop, x_Ci xs d 125 [.ref 56, .int a1] S P1 ∧ ∀ (v1 : Int32) (S1 : x_M), P1 v1 S1 → (if v1 = 0 then (Q (some (.int (-1000001))) S1) else (∃ P2 : Int32 → x_M → Prop, x_Ci xs d 101 [.long (Int32.toInt64 a2), .long 0, .long 5] S1 P2 ∧ ∀ (v2 : Int32) (S2 : x_M), P2 v2 S2 → (if v2 = 0 then (Q (some (.int (-1000001))) S2) else (∃ P3 : Int32 → x_M → Prop, x_Ci xs d 160 [.ref 56, .int a1] S2 P3 ∧ ∀ (v3 : Int32) (S3 : x_M), P3 v3 S3 → (if a2 = 0 then (∃ P4 : Int32 → x_M → Prop, x_Ci xs d 103 [.ref 56, .int a1] S3 P4 ∧ ∀ (v4 : Int32) (S4 : x_M), P4 v4 S4 → (Q (some (.int v4)) S4)) else (if a2 = v3 then (∃ P5 : Int32 → x_M → Prop, x_Ci xs d 103 [.ref 56, .int a1] S3 P5 ∧ ∀ (v5 : Int32) (S5 : x_M), P5 v5 S5 → (Q (some (.int v5)) S5)) else (if a2 = 1 then (if v3 = 2 then (x_E xs (d + 1) 161 48 [.ref 56, .int a1, .int a2, .int v3, .null] [] S3 Q) else (∃ P6 : Int32 → x_M → Prop, x_Ci xs d 103 [.ref 56, .int a1] S3 P6 ∧ ∀ (v6 : Int32) (S6 : x_M), P6 v6 S6 → (Q (some (.int v6)) S6))) else (x_E xs (d + 1) 161 48 [.ref 56, .int a1, .int a2, .int v3, .null] [] S3 Q))))))))) : x_E xs (d + 1) 161 0 [.ref 56, .int a1, .int a2, .null, .null] [] S Q := by
  refine e_aload f_161_0 rfl (by decide) ?_
  refine e_iload f_161_1 rfl ?_
  obtain ⟨P1, hP1, hV⟩ := hV
  refine e_vi (n := 2) (A := [.ref 56, .int a1]) (R := []) f_161_2 na_125 rfl rfl (Nat.le_of_ble_eq_true rfl) (Nat.le_of_ble_eq_true rfl) (by rw [ml_125]; exact Nat.le_of_ble_eq_true rfl) rfl (by rw [cy_125]; decide) (by rw [cy_125]; exact (by decide : x_tg 56 = 6)) hP1 (fun v1 S1 hp1 => ?_)
  have hV := hV v1 S1 hp1
  refine e_if f_161_5 (fun hc => ?_) (fun hc => ?_)
  · have hc : v1 = 0 := of_decide_eq_true hc
    rw [if_pos hc] at hV
    refine e_iconst (c := (-1000001)) f_161_20 (by decide) ?_
    exact e_ireturn f_161_22 rt_161 rfl hV
  · have hc : ¬ v1 = 0 := fun z => hc (decide_eq_true z)
    rw [if_neg hc] at hV
    refine e_iload f_161_8 rfl ?_
    refine e_i2l f_161_9 ?_
    refine e_lconst (c := 0) f_161_10 (by decide) ?_
    refine e_lconst (c := 5) f_161_11 (by decide) ?_
    obtain ⟨P2, hP2, hV⟩ := hV
    refine e_si (n := 3) (A := [.long (Int32.toInt64 a2), .long 0, .long 5]) (R := []) f_161_14 na_101 rfl rfl (Nat.le_of_ble_eq_true rfl) (Nat.le_of_ble_eq_true rfl) (by rw [ml_101]; exact Nat.le_of_ble_eq_true rfl) hP2 (fun v2 S2 hp2 => ?_)
    have hV := hV v2 S2 hp2
    refine e_if f_161_17 (fun hc => ?_) (fun hc => ?_)
    · have hc : ¬ v2 = 0 := of_decide_eq_true hc
      rw [if_neg hc] at hV
      refine e_aload f_161_23 rfl (by decide) ?_
      refine e_iload f_161_24 rfl ?_
      obtain ⟨P3, hP3, hV⟩ := hV
      refine e_vi (n := 2) (A := [.ref 56, .int a1]) (R := []) f_161_25 na_160 rfl rfl (Nat.le_of_ble_eq_true rfl) (Nat.le_of_ble_eq_true rfl) (by rw [ml_160]; exact Nat.le_of_ble_eq_true rfl) rfl (by rw [cy_160]; decide) (by rw [cy_160]; exact (by decide : x_tg 56 = 6)) hP3 (fun v3 S3 hp3 => ?_)
      have hV := hV v3 S3 hp3
      refine e_istore (L' := [.ref 56, .int a1, .int a2, .int v3, .null]) f_161_28 (Nat.le_of_ble_eq_true rfl) rfl ?_
      refine e_iload f_161_29 rfl ?_
      refine e_if f_161_30 (fun hc => ?_) (fun hc => ?_)
      · have hc : a2 = 0 := of_decide_eq_true hc
        rw [if_pos hc] at hV
        refine e_iconst (c := 1) f_161_58 (by decide) ?_
        refine e_goto f_161_59 ?_
        refine e_istore (L' := [.ref 56, .int a1, .int a2, .int v3, .int 1]) f_161_63 (Nat.le_of_ble_eq_true rfl) rfl ?_
        refine e_iload f_161_65 rfl ?_
        refine e_if f_161_67 (fun hc => absurd hc (by decide)) (fun hc => ?_)
        refine e_aload f_161_70 rfl (by decide) ?_
        refine e_iload f_161_71 rfl ?_
        obtain ⟨P4, hP4, hV⟩ := hV
        refine e_vi (n := 2) (A := [.ref 56, .int a1]) (R := []) f_161_72 na_103 rfl rfl (Nat.le_of_ble_eq_true rfl) (Nat.le_of_ble_eq_true rfl) (by rw [ml_103]; exact Nat.le_of_ble_eq_true rfl) rfl (by rw [cy_103]; decide) (by rw [cy_103]; exact (by decide : x_tg 56 = 6)) hP4 (fun v4 S4 hp4 => ?_)
        have hV := hV v4 S4 hp4
        refine e_goto f_161_75 ?_
        exact e_ireturn f_161_83 rt_161 rfl hV
      · have hc : ¬ a2 = 0 := fun z => hc (decide_eq_true z)
        rw [if_neg hc] at hV
        refine e_iload f_161_33 rfl ?_
        refine e_iload f_161_34 rfl ?_
        refine e_icmp f_161_35 (fun hc => ?_) (fun hc => ?_)
        · have hc : a2 = v3 := of_decide_eq_true hc
          rw [if_pos hc] at hV
          refine e_iconst (c := 1) f_161_58 (by decide) ?_
          refine e_goto f_161_59 ?_
          refine e_istore (L' := [.ref 56, .int a1, .int a2, .int v3, .int 1]) f_161_63 (Nat.le_of_ble_eq_true rfl) rfl ?_
          refine e_iload f_161_65 rfl ?_
          refine e_if f_161_67 (fun hc => absurd hc (by decide)) (fun hc => ?_)
          refine e_aload f_161_70 rfl (by decide) ?_
          refine e_iload f_161_71 rfl ?_
          obtain ⟨P5, hP5, hV⟩ := hV
          refine e_vi (n := 2) (A := [.ref 56, .int a1]) (R := []) f_161_72 na_103 rfl rfl (Nat.le_of_ble_eq_true rfl) (Nat.le_of_ble_eq_true rfl) (by rw [ml_103]; exact Nat.le_of_ble_eq_true rfl) rfl (by rw [cy_103]; decide) (by rw [cy_103]; exact (by decide : x_tg 56 = 6)) hP5 (fun v5 S5 hp5 => ?_)
          have hV := hV v5 S5 hp5
          refine e_goto f_161_75 ?_
          exact e_ireturn f_161_83 rt_161 rfl hV
        · have hc : ¬ a2 = v3 := fun z => hc (decide_eq_true z)
          rw [if_neg hc] at hV
          refine e_iload f_161_38 rfl ?_
          refine e_iconst (c := 1) f_161_39 (by decide) ?_
          refine e_icmp f_161_40 (fun hc => ?_) (fun hc => ?_)
          · have hc : ¬ a2 = 1 := of_decide_eq_true hc
            rw [if_neg hc] at hV
            exact hV
          · have hc : a2 = 1 := Decidable.not_not.mp (fun z => hc (decide_eq_true z))
            rw [if_pos hc] at hV
            refine e_iload f_161_43 rfl ?_
            refine e_iconst (c := 2) f_161_44 (by decide) ?_
            refine e_icmp f_161_45 (fun hc => ?_) (fun hc => ?_)
            · have hc : ¬ v3 = 2 := of_decide_eq_true hc
              rw [if_neg hc] at hV
              refine e_iconst (c := 1) f_161_58 (by decide) ?_
              refine e_goto f_161_59 ?_
              refine e_istore (L' := [.ref 56, .int a1, .int a2, .int v3, .int 1]) f_161_63 (Nat.le_of_ble_eq_true rfl) rfl ?_
              refine e_iload f_161_65 rfl ?_
              refine e_if f_161_67 (fun hc => absurd hc (by decide)) (fun hc => ?_)
              refine e_aload f_161_70 rfl (by decide) ?_
              refine e_iload f_161_71 rfl ?_
              obtain ⟨P6, hP6, hV⟩ := hV
              refine e_vi (n := 2) (A := [.ref 56, .int a1]) (R := []) f_161_72 na_103 rfl rfl (Nat.le_of_ble_eq_true rfl) (Nat.le_of_ble_eq_true rfl) (by rw [ml_103]; exact Nat.le_of_ble_eq_true rfl) rfl (by rw [cy_103]; decide) (by rw [cy_103]; exact (by decide : x_tg 56 = 6)) hP6 (fun v6 S6 hp6 => ?_)
              have hV := hV v6 S6 hp6
              refine e_goto f_161_75 ?_
              exact e_ireturn f_161_83 rt_161 rfl hV
            · have hc : v3 = 2 := Decidable.not_not.mp (fun z => hc (decide_eq_true z))
              rw [if_pos hc] at hV
              exact hV
    · have hc : v2 = 0 := Decidable.not_not.mp (fun z => hc (decide_eq_true z))
      rw [if_pos hc] at hV
      refine e_iconst (c := (-1000001)) f_161_20 (by decide) ?_
      exact e_ireturn f_161_22 rt_161 rfl hV
set_option maxRecDepth 20000 in
theorem T_161_48 {xs : List Int32} {d : Nat} {S : x_M} {Q : Option Value → x_M → Prop} {a1 : Int32} {a2 : Int32} {a3 : Int32}  (hV : if a2 = 3 then (if a3 = 5 then (∃ P3 : Int32 → x_M → Prop, x_Ci xs d 103 [.ref 56, .int a1] S P3 ∧ ∀ (v3 : Int32) (S3 : x_M), P3 v3 S3 → (Q (some (.int v3)) S3)) else (∃ P2 : Int32 → x_M → Prop, x_Ci xs d 102 [.ref 56, .int 3] S P2 ∧ ∀ (v2 : Int32) (S2 : x_M), P2 v2 S2 → (Q (some (.int v2)) S2))) else (∃ P1 : Int32 → x_M → Prop, x_Ci xs d 102 [.ref 56, .int 3] S P1 ∧ ∀ (v1 : Int32) (S1 : x_M), P1 v1 S1 → (Q (some (.int v1)) S1))) : x_E xs (d + 1) 161 48 [.ref 56, .int a1, .int a2, .int a3, .null] [] S Q := by
  refine e_iload f_161_48 rfl ?_
  refine e_iconst (c := 3) f_161_49 (by decide) ?_
  refine e_icmp f_161_50 (fun hc => ?_) (fun hc => ?_)
  · have hc : ¬ a2 = 3 := of_decide_eq_true hc
    rw [if_neg hc] at hV
    refine e_iconst (c := 0) f_161_62 (by decide) ?_
    refine e_istore (L' := [.ref 56, .int a1, .int a2, .int a3, .int 0]) f_161_63 (Nat.le_of_ble_eq_true rfl) rfl ?_
    refine e_iload f_161_65 rfl ?_
    refine e_if f_161_67 (fun hc => ?_) (fun hc => absurd (by decide) hc)
    refine e_aload f_161_78 rfl (by decide) ?_
    refine e_iconst (c := 3) f_161_79 (by decide) ?_
    obtain ⟨P1, hP1, hV⟩ := hV
    refine e_vi (n := 2) (A := [.ref 56, .int 3]) (R := []) f_161_80 na_102 rfl rfl (Nat.le_of_ble_eq_true rfl) (Nat.le_of_ble_eq_true rfl) (by rw [ml_102]; exact Nat.le_of_ble_eq_true rfl) rfl (by rw [cy_102]; decide) (by rw [cy_102]; exact (by decide : x_tg 56 = 6)) hP1 (fun v1 S1 hp1 => ?_)
    have hV := hV v1 S1 hp1
    exact e_ireturn f_161_83 rt_161 rfl hV
  · have hc : a2 = 3 := Decidable.not_not.mp (fun z => hc (decide_eq_true z))
    rw [if_pos hc] at hV
    refine e_iload f_161_53 rfl ?_
    refine e_iconst (c := 5) f_161_54 (by decide) ?_
    refine e_icmp f_161_55 (fun hc => ?_) (fun hc => ?_)
    · have hc : ¬ a3 = 5 := of_decide_eq_true hc
      rw [if_neg hc] at hV
      refine e_iconst (c := 0) f_161_62 (by decide) ?_
      refine e_istore (L' := [.ref 56, .int a1, .int a2, .int a3, .int 0]) f_161_63 (Nat.le_of_ble_eq_true rfl) rfl ?_
      refine e_iload f_161_65 rfl ?_
      refine e_if f_161_67 (fun hc => ?_) (fun hc => absurd (by decide) hc)
      refine e_aload f_161_78 rfl (by decide) ?_
      refine e_iconst (c := 3) f_161_79 (by decide) ?_
      obtain ⟨P2, hP2, hV⟩ := hV
      refine e_vi (n := 2) (A := [.ref 56, .int 3]) (R := []) f_161_80 na_102 rfl rfl (Nat.le_of_ble_eq_true rfl) (Nat.le_of_ble_eq_true rfl) (by rw [ml_102]; exact Nat.le_of_ble_eq_true rfl) rfl (by rw [cy_102]; decide) (by rw [cy_102]; exact (by decide : x_tg 56 = 6)) hP2 (fun v2 S2 hp2 => ?_)
      have hV := hV v2 S2 hp2
      exact e_ireturn f_161_83 rt_161 rfl hV
    · have hc : a3 = 5 := Decidable.not_not.mp (fun z => hc (decide_eq_true z))
      rw [if_pos hc] at hV
      refine e_iconst (c := 1) f_161_58 (by decide) ?_
      refine e_goto f_161_59 ?_
      refine e_istore (L' := [.ref 56, .int a1, .int a2, .int a3, .int 1]) f_161_63 (Nat.le_of_ble_eq_true rfl) rfl ?_
      refine e_iload f_161_65 rfl ?_
      refine e_if f_161_67 (fun hc => absurd hc (by decide)) (fun hc => ?_)
      refine e_aload f_161_70 rfl (by decide) ?_
      refine e_iload f_161_71 rfl ?_
      obtain ⟨P3, hP3, hV⟩ := hV
      refine e_vi (n := 2) (A := [.ref 56, .int a1]) (R := []) f_161_72 na_103 rfl rfl (Nat.le_of_ble_eq_true rfl) (Nat.le_of_ble_eq_true rfl) (by rw [ml_103]; exact Nat.le_of_ble_eq_true rfl) rfl (by rw [cy_103]; decide) (by rw [cy_103]; exact (by decide : x_tg 56 = 6)) hP3 (fun v3 S3 hp3 => ?_)
      have hV := hV v3 S3 hp3
      refine e_goto f_161_75 ?_
      exact e_ireturn f_161_83 rt_161 rfl hV
set_option maxRecDepth 20000 in
theorem T_162_0 {xs : List Int32} {d : Nat} {S : x_M} {Q : Option Value → x_M → Prop} {a1 : Int32} {a2 : Int32}  (hV : ∃ P1 : Int32 → x_M → Prop, x_Ci xs d 125 [.ref 56, .int a1] S P1 ∧ ∀ (v1 : Int32) (S1 : x_M), P1 v1 S1 → (if v1 = 0 then (Q (some (.int (-1000001))) S1) else (∃ P2 : Int32 → x_M → Prop, x_Ci xs d 101 [.long (Int32.toInt64 a2), .long 0, .long 1] S1 P2 ∧ ∀ (v2 : Int32) (S2 : x_M), P2 v2 S2 → (if v2 = 0 then (Q (some (.int (-1000001))) S2) else (if a2 = 0 then (∃ P4 : Int32 → x_M → Prop, x_Ci xs d 163 [.ref 56, .int a1] (x_up S2 56 9 0) P4 ∧ ∀ (v4 : Int32) (S4 : x_M), P4 v4 S4 → (Q (some (.int v4)) S4)) else (∃ P3 : Int32 → x_M → Prop, x_Ci xs d 167 [.ref 56, .int a1] (x_up S2 56 9 0) P3 ∧ ∀ (v3 : Int32) (S3 : x_M), P3 v3 S3 → (Q (some (.int v3)) S3))))))) : x_E xs (d + 1) 162 0 [.ref 56, .int a1, .int a2] [] S Q := by
  refine e_aload f_162_0 rfl (by decide) ?_
  refine e_iload f_162_1 rfl ?_
  obtain ⟨P1, hP1, hV⟩ := hV
  refine e_vi (n := 2) (A := [.ref 56, .int a1]) (R := []) f_162_2 na_125 rfl rfl (Nat.le_of_ble_eq_true rfl) (Nat.le_of_ble_eq_true rfl) (by rw [ml_125]; exact Nat.le_of_ble_eq_true rfl) rfl (by rw [cy_125]; decide) (by rw [cy_125]; exact (by decide : x_tg 56 = 6)) hP1 (fun v1 S1 hp1 => ?_)
  have hV := hV v1 S1 hp1
  refine e_if f_162_5 (fun hc => ?_) (fun hc => ?_)
  · have hc : v1 = 0 := of_decide_eq_true hc
    rw [if_pos hc] at hV
    refine e_iconst (c := (-1000001)) f_162_18 (by decide) ?_
    exact e_ireturn f_162_20 rt_162 rfl hV
  · have hc : ¬ v1 = 0 := fun z => hc (decide_eq_true z)
    rw [if_neg hc] at hV
    refine e_iload f_162_8 rfl ?_
    refine e_i2l f_162_9 ?_
    refine e_lconst (c := 0) f_162_10 (by decide) ?_
    refine e_lconst (c := 1) f_162_11 (by decide) ?_
    obtain ⟨P2, hP2, hV⟩ := hV
    refine e_si (n := 3) (A := [.long (Int32.toInt64 a2), .long 0, .long 1]) (R := []) f_162_12 na_101 rfl rfl (Nat.le_of_ble_eq_true rfl) (Nat.le_of_ble_eq_true rfl) (by rw [ml_101]; exact Nat.le_of_ble_eq_true rfl) hP2 (fun v2 S2 hp2 => ?_)
    have hV := hV v2 S2 hp2
    refine e_if f_162_15 (fun hc => ?_) (fun hc => ?_)
    · have hc : ¬ v2 = 0 := of_decide_eq_true hc
      rw [if_neg hc] at hV
      refine e_aload f_162_21 rfl (by decide) ?_
      refine e_iconst (c := 0) f_162_22 (by decide) ?_
      refine e_pf (c := 6) (j := 9) f_162_23 (by decide) (by decide) (by decide) (x_fit_i rfl) ?_
      refine e_iload f_162_26 rfl ?_
      refine e_if f_162_27 (fun hc => ?_) (fun hc => ?_)
      · have hc : ¬ a2 = 0 := of_decide_eq_true hc
        rw [if_neg hc] at hV
        refine e_aload f_162_38 rfl (by decide) ?_
        refine e_iload f_162_39 rfl ?_
        obtain ⟨P3, hP3, hV⟩ := hV
        refine e_vi (n := 2) (A := [.ref 56, .int a1]) (R := []) f_162_40 na_167 rfl rfl (Nat.le_of_ble_eq_true rfl) (Nat.le_of_ble_eq_true rfl) (by rw [ml_167]; exact Nat.le_of_ble_eq_true rfl) rfl (by rw [cy_167]; decide) (by rw [cy_167]; exact (by decide : x_tg 56 = 6)) hP3 (fun v3 S3 hp3 => ?_)
        have hV := hV v3 S3 hp3
        exact e_ireturn f_162_43 rt_162 rfl hV
      · have hc : a2 = 0 := Decidable.not_not.mp (fun z => hc (decide_eq_true z))
        rw [if_pos hc] at hV
        refine e_aload f_162_30 rfl (by decide) ?_
        refine e_iload f_162_31 rfl ?_
        obtain ⟨P4, hP4, hV⟩ := hV
        refine e_vi (n := 2) (A := [.ref 56, .int a1]) (R := []) f_162_32 na_163 rfl rfl (Nat.le_of_ble_eq_true rfl) (Nat.le_of_ble_eq_true rfl) (by rw [ml_163]; exact Nat.le_of_ble_eq_true rfl) rfl (by rw [cy_163]; decide) (by rw [cy_163]; exact (by decide : x_tg 56 = 6)) hP4 (fun v4 S4 hp4 => ?_)
        have hV := hV v4 S4 hp4
        refine e_goto f_162_35 ?_
        exact e_ireturn f_162_43 rt_162 rfl hV
    · have hc : v2 = 0 := Decidable.not_not.mp (fun z => hc (decide_eq_true z))
      rw [if_pos hc] at hV
      refine e_iconst (c := (-1000001)) f_162_18 (by decide) ?_
      exact e_ireturn f_162_20 rt_162 rfl hV
set_option maxRecDepth 20000 in
theorem T_163_0 {xs : List Int32} {d : Nat} {S : x_M} {Q : Option Value → x_M → Prop} {a1 : Int32}  (hV : ∃ P1 : Int32 → x_M → Prop, x_Ci xs d 160 [.ref 56, .int a1] S P1 ∧ ∀ (v1 : Int32) (S1 : x_M), P1 v1 S1 → (if v1 = 3 then (∃ P2 : x_M → Prop, x_Cv xs d 164 [.ref 56, .int 12] S1 P2 ∧ ∀ (S2 : x_M), P2 S2 → (∃ P3 : Int32 → x_M → Prop, x_Ci xs d 165 [.ref 56, .int a1] S2 P3 ∧ ∀ (v3 : Int32) (S3 : x_M), P3 v3 S3 → (Q (some (.int (2 * v3))) S3))) else (if v1 = 5 then (∃ P9 : x_M → Prop, x_Cv xs d 164 [.ref 56, .int 12] S1 P9 ∧ ∀ (S9 : x_M), P9 S9 → (∃ P10 : Int32 → x_M → Prop, x_Ci xs d 165 [.ref 56, .int a1] S9 P10 ∧ ∀ (v10 : Int32) (S10 : x_M), P10 v10 S10 → (Q (some (.int (2 * v10))) S10))) else (if v1 = 4 then (∃ P7 : x_M → Prop, x_Cv xs d 164 [.ref 56, .int 13] S1 P7 ∧ ∀ (S7 : x_M), P7 S7 → (∃ P8 : Int32 → x_M → Prop, x_Ci xs d 165 [.ref 56, .int a1] S7 P8 ∧ ∀ (v8 : Int32) (S8 : x_M), P8 v8 S8 → (Q (some (.int (-v8))) S8))) else (if v1 = 2 then (∃ P5 : x_M → Prop, x_Cv xs d 164 [.ref 56, .int 14] S1 P5 ∧ ∀ (S5 : x_M), P5 S5 → (∃ P6 : Int32 → x_M → Prop, x_Ci xs d 166 [.ref 56, .int a1] S5 P6 ∧ ∀ (v6 : Int32) (S6 : x_M), P6 v6 S6 → (Q (some (.int (v6 - 100))) S6))) else (∃ P4 : Int32 → x_M → Prop, x_Ci xs d 165 [.ref 56, .int a1] S1 P4 ∧ ∀ (v4 : Int32) (S4 : x_M), P4 v4 S4 → (Q (some (.int v4)) S4))))))) : x_E xs (d + 1) 163 0 [.ref 56, .int a1, .null] [] S Q := by
  refine e_aload f_163_0 rfl (by decide) ?_
  refine e_iload f_163_1 rfl ?_
  obtain ⟨P1, hP1, hV⟩ := hV
  refine e_vi (n := 2) (A := [.ref 56, .int a1]) (R := []) f_163_2 na_160 rfl rfl (Nat.le_of_ble_eq_true rfl) (Nat.le_of_ble_eq_true rfl) (by rw [ml_160]; exact Nat.le_of_ble_eq_true rfl) rfl (by rw [cy_160]; decide) (by rw [cy_160]; exact (by decide : x_tg 56 = 6)) hP1 (fun v1 S1 hp1 => ?_)
  have hV := hV v1 S1 hp1
  refine e_istore (L' := [.ref 56, .int a1, .int v1]) f_163_5 (Nat.le_of_ble_eq_true rfl) rfl ?_
  refine e_iload f_163_6 rfl ?_
  refine e_iconst (c := 3) f_163_7 (by decide) ?_
  refine e_icmp f_163_8 (fun hc => ?_) (fun hc => ?_)
  · have hc : v1 = 3 := of_decide_eq_true hc
    rw [if_pos hc] at hV
    refine e_aload f_163_16 rfl (by decide) ?_
    refine e_iconst (c := 12) f_163_17 (by decide) ?_
    obtain ⟨P2, hP2, hV⟩ := hV
    refine e_vv (n := 2) (A := [.ref 56, .int 12]) (R := []) f_163_19 na_164 rfl rfl (Nat.le_of_ble_eq_true rfl) (Nat.le_of_ble_eq_true rfl) (by rw [ml_164]; exact Nat.le_of_ble_eq_true rfl) rfl (by rw [cy_164]; decide) (by rw [cy_164]; exact (by decide : x_tg 56 = 6)) hP2 (fun S2 hp2 => ?_)
    have hV := hV S2 hp2
    refine e_iconst (c := 2) f_163_22 (by decide) ?_
    refine e_aload f_163_23 rfl (by decide) ?_
    refine e_iload f_163_24 rfl ?_
    obtain ⟨P3, hP3, hV⟩ := hV
    refine e_vi (n := 2) (A := [.ref 56, .int a1]) (R := [.int 2]) f_163_25 na_165 rfl rfl (Nat.le_of_ble_eq_true rfl) (Nat.le_of_ble_eq_true rfl) (by rw [ml_165]; exact Nat.le_of_ble_eq_true rfl) rfl (by rw [cy_165]; decide) (by rw [cy_165]; exact (by decide : x_tg 56 = 6)) hP3 (fun v3 S3 hp3 => ?_)
    have hV := hV v3 S3 hp3
    refine e_imul f_163_28 ?_
    exact e_ireturn f_163_29 rt_163 rfl hV
  · have hc : ¬ v1 = 3 := fun z => hc (decide_eq_true z)
    rw [if_neg hc] at hV
    refine e_iload f_163_11 rfl ?_
    refine e_iconst (c := 5) f_163_12 (by decide) ?_
    refine e_icmp f_163_13 (fun hc => ?_) (fun hc => ?_)
    · have hc : ¬ v1 = 5 := of_decide_eq_true hc
      rw [if_neg hc] at hV
      refine e_iload f_163_30 rfl ?_
      refine e_iconst (c := 4) f_163_31 (by decide) ?_
      refine e_icmp f_163_32 (fun hc => ?_) (fun hc => ?_)
      · have hc : ¬ v1 = 4 := of_decide_eq_true hc
        rw [if_neg hc] at hV
        refine e_iload f_163_48 rfl ?_
        refine e_iconst (c := 2) f_163_49 (by decide) ?_
        refine e_icmp f_163_50 (fun hc => ?_) (fun hc => ?_)
        · have hc : ¬ v1 = 2 := of_decide_eq_true hc
          rw [if_neg hc] at hV
          refine e_aload f_163_68 rfl (by decide) ?_
          refine e_iload f_163_69 rfl ?_
          obtain ⟨P4, hP4, hV⟩ := hV
          refine e_vi (n := 2) (A := [.ref 56, .int a1]) (R := []) f_163_70 na_165 rfl rfl (Nat.le_of_ble_eq_true rfl) (Nat.le_of_ble_eq_true rfl) (by rw [ml_165]; exact Nat.le_of_ble_eq_true rfl) rfl (by rw [cy_165]; decide) (by rw [cy_165]; exact (by decide : x_tg 56 = 6)) hP4 (fun v4 S4 hp4 => ?_)
          have hV := hV v4 S4 hp4
          exact e_ireturn f_163_73 rt_163 rfl hV
        · have hc : v1 = 2 := Decidable.not_not.mp (fun z => hc (decide_eq_true z))
          rw [if_pos hc] at hV
          refine e_aload f_163_53 rfl (by decide) ?_
          refine e_iconst (c := 14) f_163_54 (by decide) ?_
          obtain ⟨P5, hP5, hV⟩ := hV
          refine e_vv (n := 2) (A := [.ref 56, .int 14]) (R := []) f_163_56 na_164 rfl rfl (Nat.le_of_ble_eq_true rfl) (Nat.le_of_ble_eq_true rfl) (by rw [ml_164]; exact Nat.le_of_ble_eq_true rfl) rfl (by rw [cy_164]; decide) (by rw [cy_164]; exact (by decide : x_tg 56 = 6)) hP5 (fun S5 hp5 => ?_)
          have hV := hV S5 hp5
          refine e_aload f_163_59 rfl (by decide) ?_
          refine e_iload f_163_60 rfl ?_
          obtain ⟨P6, hP6, hV⟩ := hV
          refine e_vi (n := 2) (A := [.ref 56, .int a1]) (R := []) f_163_61 na_166 rfl rfl (Nat.le_of_ble_eq_true rfl) (Nat.le_of_ble_eq_true rfl) (by rw [ml_166]; exact Nat.le_of_ble_eq_true rfl) rfl (by rw [cy_166]; decide) (by rw [cy_166]; exact (by decide : x_tg 56 = 6)) hP6 (fun v6 S6 hp6 => ?_)
          have hV := hV v6 S6 hp6
          refine e_iconst (c := 100) f_163_64 (by decide) ?_
          refine e_isub f_163_66 ?_
          exact e_ireturn f_163_67 rt_163 rfl hV
      · have hc : v1 = 4 := Decidable.not_not.mp (fun z => hc (decide_eq_true z))
        rw [if_pos hc] at hV
        refine e_aload f_163_35 rfl (by decide) ?_
        refine e_iconst (c := 13) f_163_36 (by decide) ?_
        obtain ⟨P7, hP7, hV⟩ := hV
        refine e_vv (n := 2) (A := [.ref 56, .int 13]) (R := []) f_163_38 na_164 rfl rfl (Nat.le_of_ble_eq_true rfl) (Nat.le_of_ble_eq_true rfl) (by rw [ml_164]; exact Nat.le_of_ble_eq_true rfl) rfl (by rw [cy_164]; decide) (by rw [cy_164]; exact (by decide : x_tg 56 = 6)) hP7 (fun S7 hp7 => ?_)
        have hV := hV S7 hp7
        refine e_aload f_163_41 rfl (by decide) ?_
        refine e_iload f_163_42 rfl ?_
        obtain ⟨P8, hP8, hV⟩ := hV
        refine e_vi (n := 2) (A := [.ref 56, .int a1]) (R := []) f_163_43 na_165 rfl rfl (Nat.le_of_ble_eq_true rfl) (Nat.le_of_ble_eq_true rfl) (by rw [ml_165]; exact Nat.le_of_ble_eq_true rfl) rfl (by rw [cy_165]; decide) (by rw [cy_165]; exact (by decide : x_tg 56 = 6)) hP8 (fun v8 S8 hp8 => ?_)
        have hV := hV v8 S8 hp8
        refine e_ineg f_163_46 ?_
        exact e_ireturn f_163_47 rt_163 rfl hV
    · have hc : v1 = 5 := Decidable.not_not.mp (fun z => hc (decide_eq_true z))
      rw [if_pos hc] at hV
      refine e_aload f_163_16 rfl (by decide) ?_
      refine e_iconst (c := 12) f_163_17 (by decide) ?_
      obtain ⟨P9, hP9, hV⟩ := hV
      refine e_vv (n := 2) (A := [.ref 56, .int 12]) (R := []) f_163_19 na_164 rfl rfl (Nat.le_of_ble_eq_true rfl) (Nat.le_of_ble_eq_true rfl) (by rw [ml_164]; exact Nat.le_of_ble_eq_true rfl) rfl (by rw [cy_164]; decide) (by rw [cy_164]; exact (by decide : x_tg 56 = 6)) hP9 (fun S9 hp9 => ?_)
      have hV := hV S9 hp9
      refine e_iconst (c := 2) f_163_22 (by decide) ?_
      refine e_aload f_163_23 rfl (by decide) ?_
      refine e_iload f_163_24 rfl ?_
      obtain ⟨P10, hP10, hV⟩ := hV
      refine e_vi (n := 2) (A := [.ref 56, .int a1]) (R := [.int 2]) f_163_25 na_165 rfl rfl (Nat.le_of_ble_eq_true rfl) (Nat.le_of_ble_eq_true rfl) (by rw [ml_165]; exact Nat.le_of_ble_eq_true rfl) rfl (by rw [cy_165]; decide) (by rw [cy_165]; exact (by decide : x_tg 56 = 6)) hP10 (fun v10 S10 hp10 => ?_)
      have hV := hV v10 S10 hp10
      refine e_imul f_163_28 ?_
      exact e_ireturn f_163_29 rt_163 rfl hV
set_option maxRecDepth 20000 in
theorem T_164_0 {xs : List Int32} {d : Nat} {S : x_M} {Q : Option Value → x_M → Prop} {a1 : Int32}  (hV : if (16 : Int32) ≤ (S 56 9) then (Q none S) else ((x_ib (S 56 9) 16) ∧ (Q none (x_up (x_up S 62 (Int32.toNatClampNeg (S 56 9)) a1) 56 9 (((x_up S 62 (Int32.toNatClampNeg (S 56 9)) a1) 56 9) + 1))))) : x_E xs (d + 1) 164 0 [.ref 56, .int a1] [] S Q := by
  refine e_aload f_164_0 rfl (by decide) ?_
  refine e_gf (c := 6) (j := 9) f_164_1 (by decide) (by decide) (by decide) ?_
  refine e_iconst (c := 16) f_164_4 (by decide) ?_
  refine e_icmp f_164_6 (fun hc => ?_) (fun hc => ?_)
  · have hc : (16 : Int32) ≤ (S 56 9) := of_decide_eq_true hc
    rw [if_pos hc] at hV
    exact e_return f_164_29 rt_164 hV
  · have hc : ¬ (16 : Int32) ≤ (S 56 9) := fun z => hc (decide_eq_true z)
    rw [if_neg hc] at hV
    refine e_aload f_164_9 rfl (by decide) ?_
    refine e_gr (c := 6) (j := 8) (r := 62) f_164_10 (by decide) (by decide) (by decide) (by decide) ?_
    refine e_aload f_164_13 rfl (by decide) ?_
    refine e_gf (c := 6) (j := 9) f_164_14 (by decide) (by decide) (by decide) ?_
    refine e_iload f_164_17 rfl ?_
    obtain ⟨hg, hV⟩ := hV
    refine e_is (n := 16) f_164_18 (by decide) (by decide) hg ?_
    refine e_aload f_164_19 rfl (by decide) ?_
    refine e_dup f_164_20 rfl ?_
    refine e_gf (c := 6) (j := 9) f_164_21 (by decide) (by decide) (by decide) ?_
    refine e_iconst (c := 1) f_164_24 (by decide) ?_
    refine e_iadd f_164_25 ?_
    refine e_pf (c := 6) (j := 9) f_164_26 (by decide) (by decide) (by decide) (x_fit_i rfl) ?_
    exact e_return f_164_29 rt_164 hV
set_option maxRecDepth 20000 in
theorem T_165_0 {xs : List Int32} {d : Nat} {S : x_M} {Q : Option Value → x_M → Prop} {a1 : Int32}  (hV : ∃ P1 : x_M → Prop, x_Cv xs d 164 [.ref 56, .int 11] S P1 ∧ ∀ (S1 : x_M), P1 S1 → (∃ P2 : Int32 → x_M → Prop, x_Ci xs d 166 [.ref 56, .int a1] S1 P2 ∧ ∀ (v2 : Int32) (S2 : x_M), P2 v2 S2 → (∃ P3 : Int32 → x_M → Prop, x_Ci xs d 167 [.ref 56, .int a1] S2 P3 ∧ ∀ (v3 : Int32) (S3 : x_M), P3 v3 S3 → (Q (some (.int (v2 + v3))) S3)))) : x_E xs (d + 1) 165 0 [.ref 56, .int a1, .null] [] S Q := by
  refine e_aload f_165_0 rfl (by decide) ?_
  refine e_iconst (c := 11) f_165_1 (by decide) ?_
  obtain ⟨P1, hP1, hV⟩ := hV
  refine e_vv (n := 2) (A := [.ref 56, .int 11]) (R := []) f_165_3 na_164 rfl rfl (Nat.le_of_ble_eq_true rfl) (Nat.le_of_ble_eq_true rfl) (by rw [ml_164]; exact Nat.le_of_ble_eq_true rfl) rfl (by rw [cy_164]; decide) (by rw [cy_164]; exact (by decide : x_tg 56 = 6)) hP1 (fun S1 hp1 => ?_)
  have hV := hV S1 hp1
  refine e_aload f_165_6 rfl (by decide) ?_
  refine e_iload f_165_7 rfl ?_
  obtain ⟨P2, hP2, hV⟩ := hV
  refine e_vi (n := 2) (A := [.ref 56, .int a1]) (R := []) f_165_8 na_166 rfl rfl (Nat.le_of_ble_eq_true rfl) (Nat.le_of_ble_eq_true rfl) (by rw [ml_166]; exact Nat.le_of_ble_eq_true rfl) rfl (by rw [cy_166]; decide) (by rw [cy_166]; exact (by decide : x_tg 56 = 6)) hP2 (fun v2 S2 hp2 => ?_)
  have hV := hV v2 S2 hp2
  refine e_istore (L' := [.ref 56, .int a1, .int v2]) f_165_11 (Nat.le_of_ble_eq_true rfl) rfl ?_
  refine e_iload f_165_12 rfl ?_
  refine e_aload f_165_13 rfl (by decide) ?_
  refine e_iload f_165_14 rfl ?_
  obtain ⟨P3, hP3, hV⟩ := hV
  refine e_vi (n := 2) (A := [.ref 56, .int a1]) (R := [.int v2]) f_165_15 na_167 rfl rfl (Nat.le_of_ble_eq_true rfl) (Nat.le_of_ble_eq_true rfl) (by rw [ml_167]; exact Nat.le_of_ble_eq_true rfl) rfl (by rw [cy_167]; decide) (by rw [cy_167]; exact (by decide : x_tg 56 = 6)) hP3 (fun v3 S3 hp3 => ?_)
  have hV := hV v3 S3 hp3
  refine e_iadd f_165_18 ?_
  exact e_ireturn f_165_19 rt_165 rfl hV
set_option maxRecDepth 20000 in
theorem T_166_0 {xs : List Int32} {d : Nat} {S : x_M} {Q : Option Value → x_M → Prop} {a1 : Int32}  (hV : ∃ P1 : x_M → Prop, x_Cv xs d 164 [.ref 56, .int 10] S P1 ∧ ∀ (S1 : x_M), P1 S1 → ((x_ib (2 + a1) 99) ∧ (∃ P2 : Int32 → x_M → Prop, x_Ci xs d 136 [.int (S1 57 (Int32.toNatClampNeg (2 + a1)))] S1 P2 ∧ ∀ (v2 : Int32) (S2 : x_M), P2 v2 S2 → (Q (some (.int v2)) S2)))) : x_E xs (d + 1) 166 0 [.ref 56, .int a1] [] S Q := by
  refine e_aload f_166_0 rfl (by decide) ?_
  refine e_iconst (c := 10) f_166_1 (by decide) ?_
  obtain ⟨P1, hP1, hV⟩ := hV
  refine e_vv (n := 2) (A := [.ref 56, .int 10]) (R := []) f_166_3 na_164 rfl rfl (Nat.le_of_ble_eq_true rfl) (Nat.le_of_ble_eq_true rfl) (by rw [ml_164]; exact Nat.le_of_ble_eq_true rfl) rfl (by rw [cy_164]; decide) (by rw [cy_164]; exact (by decide : x_tg 56 = 6)) hP1 (fun S1 hp1 => ?_)
  have hV := hV S1 hp1
  refine e_aload f_166_6 rfl (by decide) ?_
  refine e_gr (c := 6) (j := 0) (r := 57) f_166_7 (by decide) (by decide) (by decide) (by decide) ?_
  refine e_iconst (c := 2) f_166_10 (by decide) ?_
  refine e_iload f_166_11 rfl ?_
  refine e_iadd f_166_12 ?_
  obtain ⟨hg, hV⟩ := hV
  refine e_ia (n := 99) f_166_13 (by decide) (by decide) hg ?_
  obtain ⟨P2, hP2, hV⟩ := hV
  refine e_si (n := 1) (A := [.int (S1 57 (Int32.toNatClampNeg (2 + a1)))]) (R := []) f_166_14 na_136 rfl rfl (Nat.le_of_ble_eq_true rfl) (Nat.le_of_ble_eq_true rfl) (by rw [ml_136]; exact Nat.le_of_ble_eq_true rfl) hP2 (fun v2 S2 hp2 => ?_)
  have hV := hV v2 S2 hp2
  exact e_ireturn f_166_17 rt_166 rfl hV
set_option maxRecDepth 20000 in
theorem T_167_0 {xs : List Int32} {d : Nat} {S : x_M} {Q : Option Value → x_M → Prop} {a1 : Int32}  (hV : ∃ P1 : Int32 → x_M → Prop, x_Ci xs d 160 [.ref 56, .int a1] S P1 ∧ ∀ (v1 : Int32) (S1 : x_M), P1 v1 S1 → (if v1 = 5 then (∃ P9 : x_M → Prop, x_Cv xs d 164 [.ref 56, .int 22] S1 P9 ∧ ∀ (S9 : x_M), P9 S9 → (∃ P10 : Int32 → x_M → Prop, x_Ci xs d 168 [.ref 56, .int a1] S9 P10 ∧ ∀ (v10 : Int32) (S10 : x_M), P10 v10 S10 → (Q (some (.int (v10 - 1000))) S10))) else (if v1 = 4 then (∃ P7 : x_M → Prop, x_Cv xs d 164 [.ref 56, .int 24] S1 P7 ∧ ∀ (S7 : x_M), P7 S7 → (∃ P8 : Int32 → x_M → Prop, x_Ci xs d 168 [.ref 56, .int a1] S7 P8 ∧ ∀ (v8 : Int32) (S8 : x_M), P8 v8 S8 → (Q (some (.int (v8 + 500))) S8))) else (if v1 = 2 then (∃ P3 : x_M → Prop, x_Cv xs d 164 [.ref 56, .int 23] S1 P3 ∧ ∀ (S3 : x_M), P3 S3 → (∃ P4 : Int32 → x_M → Prop, x_Ci xs d 169 [.ref 56, .int a1] S3 P4 ∧ ∀ (v4 : Int32) (S4 : x_M), P4 v4 S4 → (∃ P5 : x_M → Prop, x_Cv xs d 164 [.ref 56, .int 14] S4 P5 ∧ ∀ (S5 : x_M), P5 S5 → (∃ P6 : Int32 → x_M → Prop, x_Ci xs d 166 [.ref 56, .int a1] S5 P6 ∧ ∀ (v6 : Int32) (S6 : x_M), P6 v6 S6 → (Q (some (.int ((v4 + v6) - 100))) S6))))) else (∃ P2 : Int32 → x_M → Prop, x_Ci xs d 168 [.ref 56, .int a1] S1 P2 ∧ ∀ (v2 : Int32) (S2 : x_M), P2 v2 S2 → (Q (some (.int v2)) S2)))))) : x_E xs (d + 1) 167 0 [.ref 56, .int a1, .null, .null] [] S Q := by
  refine e_aload f_167_0 rfl (by decide) ?_
  refine e_iload f_167_1 rfl ?_
  obtain ⟨P1, hP1, hV⟩ := hV
  refine e_vi (n := 2) (A := [.ref 56, .int a1]) (R := []) f_167_2 na_160 rfl rfl (Nat.le_of_ble_eq_true rfl) (Nat.le_of_ble_eq_true rfl) (by rw [ml_160]; exact Nat.le_of_ble_eq_true rfl) rfl (by rw [cy_160]; decide) (by rw [cy_160]; exact (by decide : x_tg 56 = 6)) hP1 (fun v1 S1 hp1 => ?_)
  have hV := hV v1 S1 hp1
  refine e_istore (L' := [.ref 56, .int a1, .int v1, .null]) f_167_5 (Nat.le_of_ble_eq_true rfl) rfl ?_
  refine e_iload f_167_6 rfl ?_
  refine e_iconst (c := 5) f_167_7 (by decide) ?_
  refine e_icmp f_167_8 (fun hc => ?_) (fun hc => ?_)
  · have hc : ¬ v1 = 5 := of_decide_eq_true hc
    rw [if_neg hc] at hV
    refine e_iload f_167_27 rfl ?_
    refine e_iconst (c := 4) f_167_28 (by decide) ?_
    refine e_icmp f_167_29 (fun hc => ?_) (fun hc => ?_)
    · have hc : ¬ v1 = 4 := of_decide_eq_true hc
      rw [if_neg hc] at hV
      refine e_iload f_167_48 rfl ?_
      refine e_iconst (c := 2) f_167_49 (by decide) ?_
      refine e_icmp f_167_50 (fun hc => ?_) (fun hc => ?_)
      · have hc : ¬ v1 = 2 := of_decide_eq_true hc
        rw [if_neg hc] at hV
        refine e_aload f_167_82 rfl (by decide) ?_
        refine e_iload f_167_83 rfl ?_
        obtain ⟨P2, hP2, hV⟩ := hV
        refine e_vi (n := 2) (A := [.ref 56, .int a1]) (R := []) f_167_84 na_168 rfl rfl (Nat.le_of_ble_eq_true rfl) (Nat.le_of_ble_eq_true rfl) (by rw [ml_168]; exact Nat.le_of_ble_eq_true rfl) rfl (by rw [cy_168]; decide) (by rw [cy_168]; exact (by decide : x_tg 56 = 6)) hP2 (fun v2 S2 hp2 => ?_)
        have hV := hV v2 S2 hp2
        exact e_ireturn f_167_87 rt_167 rfl hV
      · have hc : v1 = 2 := Decidable.not_not.mp (fun z => hc (decide_eq_true z))
        rw [if_pos hc] at hV
        refine e_aload f_167_53 rfl (by decide) ?_
        refine e_iconst (c := 23) f_167_54 (by decide) ?_
        obtain ⟨P3, hP3, hV⟩ := hV
        refine e_vv (n := 2) (A := [.ref 56, .int 23]) (R := []) f_167_56 na_164 rfl rfl (Nat.le_of_ble_eq_true rfl) (Nat.le_of_ble_eq_true rfl) (by rw [ml_164]; exact Nat.le_of_ble_eq_true rfl) rfl (by rw [cy_164]; decide) (by rw [cy_164]; exact (by decide : x_tg 56 = 6)) hP3 (fun S3 hp3 => ?_)
        have hV := hV S3 hp3
        refine e_aload f_167_59 rfl (by decide) ?_
        refine e_iload f_167_60 rfl ?_
        obtain ⟨P4, hP4, hV⟩ := hV
        refine e_vi (n := 2) (A := [.ref 56, .int a1]) (R := []) f_167_61 na_169 rfl rfl (Nat.le_of_ble_eq_true rfl) (Nat.le_of_ble_eq_true rfl) (by rw [ml_169]; exact Nat.le_of_ble_eq_true rfl) rfl (by rw [cy_169]; decide) (by rw [cy_169]; exact (by decide : x_tg 56 = 6)) hP4 (fun v4 S4 hp4 => ?_)
        have hV := hV v4 S4 hp4
        refine e_istore (L' := [.ref 56, .int a1, .int v1, .int v4]) f_167_64 (Nat.le_of_ble_eq_true rfl) rfl ?_
        refine e_aload f_167_65 rfl (by decide) ?_
        refine e_iconst (c := 14) f_167_66 (by decide) ?_
        obtain ⟨P5, hP5, hV⟩ := hV
        refine e_vv (n := 2) (A := [.ref 56, .int 14]) (R := []) f_167_68 na_164 rfl rfl (Nat.le_of_ble_eq_true rfl) (Nat.le_of_ble_eq_true rfl) (by rw [ml_164]; exact Nat.le_of_ble_eq_true rfl) rfl (by rw [cy_164]; decide) (by rw [cy_164]; exact (by decide : x_tg 56 = 6)) hP5 (fun S5 hp5 => ?_)
        have hV := hV S5 hp5
        refine e_iload f_167_71 rfl ?_
        refine e_aload f_167_72 rfl (by decide) ?_
        refine e_iload f_167_73 rfl ?_
        obtain ⟨P6, hP6, hV⟩ := hV
        refine e_vi (n := 2) (A := [.ref 56, .int a1]) (R := [.int v4]) f_167_74 na_166 rfl rfl (Nat.le_of_ble_eq_true rfl) (Nat.le_of_ble_eq_true rfl) (by rw [ml_166]; exact Nat.le_of_ble_eq_true rfl) rfl (by rw [cy_166]; decide) (by rw [cy_166]; exact (by decide : x_tg 56 = 6)) hP6 (fun v6 S6 hp6 => ?_)
        have hV := hV v6 S6 hp6
        refine e_iadd f_167_77 ?_
        refine e_iconst (c := 100) f_167_78 (by decide) ?_
        refine e_isub f_167_80 ?_
        exact e_ireturn f_167_81 rt_167 rfl hV
    · have hc : v1 = 4 := Decidable.not_not.mp (fun z => hc (decide_eq_true z))
      rw [if_pos hc] at hV
      refine e_aload f_167_32 rfl (by decide) ?_
      refine e_iconst (c := 24) f_167_33 (by decide) ?_
      obtain ⟨P7, hP7, hV⟩ := hV
      refine e_vv (n := 2) (A := [.ref 56, .int 24]) (R := []) f_167_35 na_164 rfl rfl (Nat.le_of_ble_eq_true rfl) (Nat.le_of_ble_eq_true rfl) (by rw [ml_164]; exact Nat.le_of_ble_eq_true rfl) rfl (by rw [cy_164]; decide) (by rw [cy_164]; exact (by decide : x_tg 56 = 6)) hP7 (fun S7 hp7 => ?_)
      have hV := hV S7 hp7
      refine e_aload f_167_38 rfl (by decide) ?_
      refine e_iload f_167_39 rfl ?_
      obtain ⟨P8, hP8, hV⟩ := hV
      refine e_vi (n := 2) (A := [.ref 56, .int a1]) (R := []) f_167_40 na_168 rfl rfl (Nat.le_of_ble_eq_true rfl) (Nat.le_of_ble_eq_true rfl) (by rw [ml_168]; exact Nat.le_of_ble_eq_true rfl) rfl (by rw [cy_168]; decide) (by rw [cy_168]; exact (by decide : x_tg 56 = 6)) hP8 (fun v8 S8 hp8 => ?_)
      have hV := hV v8 S8 hp8
      refine e_iconst (c := 500) f_167_43 (by decide) ?_
      refine e_iadd f_167_46 ?_
      exact e_ireturn f_167_47 rt_167 rfl hV
  · have hc : v1 = 5 := Decidable.not_not.mp (fun z => hc (decide_eq_true z))
    rw [if_pos hc] at hV
    refine e_aload f_167_11 rfl (by decide) ?_
    refine e_iconst (c := 22) f_167_12 (by decide) ?_
    obtain ⟨P9, hP9, hV⟩ := hV
    refine e_vv (n := 2) (A := [.ref 56, .int 22]) (R := []) f_167_14 na_164 rfl rfl (Nat.le_of_ble_eq_true rfl) (Nat.le_of_ble_eq_true rfl) (by rw [ml_164]; exact Nat.le_of_ble_eq_true rfl) rfl (by rw [cy_164]; decide) (by rw [cy_164]; exact (by decide : x_tg 56 = 6)) hP9 (fun S9 hp9 => ?_)
    have hV := hV S9 hp9
    refine e_aload f_167_17 rfl (by decide) ?_
    refine e_iload f_167_18 rfl ?_
    obtain ⟨P10, hP10, hV⟩ := hV
    refine e_vi (n := 2) (A := [.ref 56, .int a1]) (R := []) f_167_19 na_168 rfl rfl (Nat.le_of_ble_eq_true rfl) (Nat.le_of_ble_eq_true rfl) (by rw [ml_168]; exact Nat.le_of_ble_eq_true rfl) rfl (by rw [cy_168]; decide) (by rw [cy_168]; exact (by decide : x_tg 56 = 6)) hP10 (fun v10 S10 hp10 => ?_)
    have hV := hV v10 S10 hp10
    refine e_iconst (c := 1000) f_167_22 (by decide) ?_
    refine e_isub f_167_25 ?_
    exact e_ireturn f_167_26 rt_167 rfl hV
set_option maxRecDepth 20000 in
theorem T_168_0 {xs : List Int32} {d : Nat} {S : x_M} {Q : Option Value → x_M → Prop} {a1 : Int32}  (hV : ∃ P1 : x_M → Prop, x_Cv xs d 164 [.ref 56, .int 21] S P1 ∧ ∀ (S1 : x_M), P1 S1 → (∃ P2 : Int32 → x_M → Prop, x_Ci xs d 169 [.ref 56, .int a1] S1 P2 ∧ ∀ (v2 : Int32) (S2 : x_M), P2 v2 S2 → ((x_ib (2 + a1) 99) ∧ (∃ P3 : Int32 → x_M → Prop, x_Ci xs d 129 [.ref 56, .int (S2 57 (Int32.toNatClampNeg (2 + a1)))] S2 P3 ∧ ∀ (v3 : Int32) (S3 : x_M), P3 v3 S3 → (Q (some (.int (v2 + v3))) S3))))) : x_E xs (d + 1) 168 0 [.ref 56, .int a1, .null] [] S Q := by
  refine e_aload f_168_0 rfl (by decide) ?_
  refine e_iconst (c := 21) f_168_1 (by decide) ?_
  obtain ⟨P1, hP1, hV⟩ := hV
  refine e_vv (n := 2) (A := [.ref 56, .int 21]) (R := []) f_168_3 na_164 rfl rfl (Nat.le_of_ble_eq_true rfl) (Nat.le_of_ble_eq_true rfl) (by rw [ml_164]; exact Nat.le_of_ble_eq_true rfl) rfl (by rw [cy_164]; decide) (by rw [cy_164]; exact (by decide : x_tg 56 = 6)) hP1 (fun S1 hp1 => ?_)
  have hV := hV S1 hp1
  refine e_aload f_168_6 rfl (by decide) ?_
  refine e_iload f_168_7 rfl ?_
  obtain ⟨P2, hP2, hV⟩ := hV
  refine e_vi (n := 2) (A := [.ref 56, .int a1]) (R := []) f_168_8 na_169 rfl rfl (Nat.le_of_ble_eq_true rfl) (Nat.le_of_ble_eq_true rfl) (by rw [ml_169]; exact Nat.le_of_ble_eq_true rfl) rfl (by rw [cy_169]; decide) (by rw [cy_169]; exact (by decide : x_tg 56 = 6)) hP2 (fun v2 S2 hp2 => ?_)
  have hV := hV v2 S2 hp2
  refine e_istore (L' := [.ref 56, .int a1, .int v2]) f_168_11 (Nat.le_of_ble_eq_true rfl) rfl ?_
  refine e_iload f_168_12 rfl ?_
  refine e_aload f_168_13 rfl (by decide) ?_
  refine e_aload f_168_14 rfl (by decide) ?_
  refine e_gr (c := 6) (j := 0) (r := 57) f_168_15 (by decide) (by decide) (by decide) (by decide) ?_
  refine e_iconst (c := 2) f_168_18 (by decide) ?_
  refine e_iload f_168_19 rfl ?_
  refine e_iadd f_168_20 ?_
  obtain ⟨hg, hV⟩ := hV
  refine e_ia (n := 99) f_168_21 (by decide) (by decide) hg ?_
  obtain ⟨P3, hP3, hV⟩ := hV
  refine e_vi (n := 2) (A := [.ref 56, .int (S2 57 (Int32.toNatClampNeg (2 + a1)))]) (R := [.int v2]) f_168_22 na_129 rfl rfl (Nat.le_of_ble_eq_true rfl) (Nat.le_of_ble_eq_true rfl) (by rw [ml_129]; exact Nat.le_of_ble_eq_true rfl) rfl (by rw [cy_129]; decide) (by rw [cy_129]; exact (by decide : x_tg 56 = 6)) hP3 (fun v3 S3 hp3 => ?_)
  have hV := hV v3 S3 hp3
  refine e_iadd f_168_25 ?_
  exact e_ireturn f_168_26 rt_168 rfl hV
set_option maxRecDepth 20000 in
theorem T_169_0 {xs : List Int32} {d : Nat} {S : x_M} {Q : Option Value → x_M → Prop} {a1 : Int32}  (hV : ∃ P1 : x_M → Prop, x_Cv xs d 164 [.ref 56, .int 20] S P1 ∧ ∀ (S1 : x_M), P1 S1 → (Q (some (.int a1)) S1)) : x_E xs (d + 1) 169 0 [.ref 56, .int a1] [] S Q := by
  refine e_aload f_169_0 rfl (by decide) ?_
  refine e_iconst (c := 20) f_169_1 (by decide) ?_
  obtain ⟨P1, hP1, hV⟩ := hV
  refine e_vv (n := 2) (A := [.ref 56, .int 20]) (R := []) f_169_3 na_164 rfl rfl (Nat.le_of_ble_eq_true rfl) (Nat.le_of_ble_eq_true rfl) (by rw [ml_164]; exact Nat.le_of_ble_eq_true rfl) rfl (by rw [cy_164]; decide) (by rw [cy_164]; exact (by decide : x_tg 56 = 6)) hP1 (fun S1 hp1 => ?_)
  have hV := hV S1 hp1
  refine e_iload f_169_6 rfl ?_
  exact e_ireturn f_169_7 rt_169 rfl hV
set_option maxRecDepth 20000 in
theorem T_170_0 {xs : List Int32} {d : Nat} {S : x_M} {Q : Option Value → x_M → Prop} {a1 : Int32}  (hV : ∃ P1 : Int32 → x_M → Prop, x_Ci xs d 101 [.long (Int32.toInt64 a1), .long 0, .long (Int32.toInt64 ((S 56 9) - 1))] S P1 ∧ ∀ (v1 : Int32) (S1 : x_M), P1 v1 S1 → (if v1 = 0 then (Q (some (.int (-1000000))) S1) else ((x_ib a1 16) ∧ (Q (some (.int (S1 62 (Int32.toNatClampNeg a1)))) S1)))) : x_E xs (d + 1) 170 0 [.ref 56, .int a1] [] S Q := by
  refine e_iload f_170_0 rfl ?_
  refine e_i2l f_170_1 ?_
  refine e_lconst (c := 0) f_170_2 (by decide) ?_
  refine e_aload f_170_3 rfl (by decide) ?_
  refine e_gf (c := 6) (j := 9) f_170_4 (by decide) (by decide) (by decide) ?_
  refine e_iconst (c := 1) f_170_7 (by decide) ?_
  refine e_isub f_170_8 ?_
  refine e_i2l f_170_9 ?_
  obtain ⟨P1, hP1, hV⟩ := hV
  refine e_si (n := 3) (A := [.long (Int32.toInt64 a1), .long 0, .long (Int32.toInt64 ((S 56 9) - 1))]) (R := []) f_170_10 na_101 rfl rfl (Nat.le_of_ble_eq_true rfl) (Nat.le_of_ble_eq_true rfl) (by rw [ml_101]; exact Nat.le_of_ble_eq_true rfl) hP1 (fun v1 S1 hp1 => ?_)
  have hV := hV v1 S1 hp1
  refine e_if f_170_13 (fun hc => ?_) (fun hc => ?_)
  · have hc : v1 = 0 := of_decide_eq_true hc
    rw [if_pos hc] at hV
    refine e_iconst (c := (-1000000)) f_170_25 (by decide) ?_
    exact e_ireturn f_170_27 rt_170 rfl hV
  · have hc : ¬ v1 = 0 := fun z => hc (decide_eq_true z)
    rw [if_neg hc] at hV
    refine e_aload f_170_16 rfl (by decide) ?_
    refine e_gr (c := 6) (j := 8) (r := 62) f_170_17 (by decide) (by decide) (by decide) (by decide) ?_
    refine e_iload f_170_20 rfl ?_
    obtain ⟨hg, hV⟩ := hV
    refine e_ia (n := 16) f_170_21 (by decide) (by decide) hg ?_
    refine e_goto f_170_22 ?_
    exact e_ireturn f_170_27 rt_170 rfl hV
set_option maxRecDepth 20000 in
theorem T_171_0 {xs : List Int32} {d : Nat} {S : x_M} {Q : Option Value → x_M → Prop} {a1 : Int32}  (hV : x_E xs (d + 1) 171 4 [.ref 56, .int a1, .int 0, .int 0] [] S Q) : x_E xs (d + 1) 171 0 [.ref 56, .int a1, .null, .null] [] S Q := by
  refine e_iconst (c := 0) f_171_0 (by decide) ?_
  refine e_istore (L' := [.ref 56, .int a1, .int 0, .null]) f_171_1 (Nat.le_of_ble_eq_true rfl) rfl ?_
  refine e_iconst (c := 0) f_171_2 (by decide) ?_
  refine e_istore (L' := [.ref 56, .int a1, .int 0, .int 0]) f_171_3 (Nat.le_of_ble_eq_true rfl) rfl ?_
  exact hV
set_option maxRecDepth 20000 in
theorem T_171_4 {xs : List Int32} {d : Nat} {S : x_M} {Q : Option Value → x_M → Prop} {a1 : Int32} {a2 : Int32} {a3 : Int32}  (hV : if (8 : Int32) ≤ a3 then (if a1 = 0 then (Q (some (.int a2)) S) else (if a1 = 1 then (Q (some (.int (S 57 1))) S) else (if a1 = 2 then (∃ P1 : Int32 → x_M → Prop, x_Ci xs d 136 [.int (S 57 30)] S P1 ∧ ∀ (v1 : Int32) (S1 : x_M), P1 v1 S1 → (∃ P2 : Int32 → x_M → Prop, x_Ci xs d 136 [.int (S1 57 31)] S1 P2 ∧ ∀ (v2 : Int32) (S2 : x_M), P2 v2 S2 → (Q (some (.int (((S 57 1) - v1) - v2))) S2))) else (if a1 = 3 then (Q (some (.int (S 56 2))) S) else (Q (some (.int (-1000001))) S))))) else ((x_ib a3 8) ∧ (if (S 59 (Int32.toNatClampNeg a3)) = (-1000000) then (x_E xs (d + 1) 171 4 [.ref 56, .int a1, .int (a2 + 0), .int (a3 + 1)] [] S Q) else (x_E xs (d + 1) 171 4 [.ref 56, .int a1, .int (a2 + 1), .int (a3 + 1)] [] S Q)))) : x_E xs (d + 1) 171 4 [.ref 56, .int a1, .int a2, .int a3] [] S Q := by
  refine e_iload f_171_4 rfl ?_
  refine e_iconst (c := 8) f_171_5 (by decide) ?_
  refine e_icmp f_171_7 (fun hc => ?_) (fun hc => ?_)
  · have hc : (8 : Int32) ≤ a3 := of_decide_eq_true hc
    rw [if_pos hc] at hV
    refine e_iload f_171_35 rfl ?_
    refine e_if f_171_36 (fun hc => ?_) (fun hc => ?_)
    · have hc : ¬ a1 = 0 := of_decide_eq_true hc
      rw [if_neg hc] at hV
      refine e_iload f_171_43 rfl ?_
      refine e_iconst (c := 1) f_171_44 (by decide) ?_
      refine e_icmp f_171_45 (fun hc => ?_) (fun hc => ?_)
      · have hc : ¬ a1 = 1 := of_decide_eq_true hc
        rw [if_neg hc] at hV
        refine e_iload f_171_57 rfl ?_
        refine e_iconst (c := 2) f_171_58 (by decide) ?_
        refine e_icmp f_171_59 (fun hc => ?_) (fun hc => ?_)
        · have hc : ¬ a1 = 2 := of_decide_eq_true hc
          rw [if_neg hc] at hV
          refine e_iload f_171_93 rfl ?_
          refine e_iconst (c := 3) f_171_94 (by decide) ?_
          refine e_icmp f_171_95 (fun hc => ?_) (fun hc => ?_)
          · have hc : ¬ a1 = 3 := of_decide_eq_true hc
            rw [if_neg hc] at hV
            refine e_iconst (c := (-1000001)) f_171_105 (by decide) ?_
            exact e_ireturn f_171_107 rt_171 rfl hV
          · have hc : a1 = 3 := Decidable.not_not.mp (fun z => hc (decide_eq_true z))
            rw [if_pos hc] at hV
            refine e_aload f_171_98 rfl (by decide) ?_
            refine e_gf (c := 6) (j := 2) f_171_99 (by decide) (by decide) (by decide) ?_
            refine e_goto f_171_102 ?_
            exact e_ireturn f_171_107 rt_171 rfl hV
        · have hc : a1 = 2 := Decidable.not_not.mp (fun z => hc (decide_eq_true z))
          rw [if_pos hc] at hV
          refine e_aload f_171_62 rfl (by decide) ?_
          refine e_gr (c := 6) (j := 0) (r := 57) f_171_63 (by decide) (by decide) (by decide) (by decide) ?_
          refine e_iconst (c := 1) f_171_66 (by decide) ?_
          refine e_iak (n := 99) (kk := 1) f_171_67 (by decide) (by decide) (by decide) ?_
          refine e_aload f_171_68 rfl (by decide) ?_
          refine e_gr (c := 6) (j := 0) (r := 57) f_171_69 (by decide) (by decide) (by decide) (by decide) ?_
          refine e_iconst (c := 30) f_171_72 (by decide) ?_
          refine e_iak (n := 99) (kk := 30) f_171_74 (by decide) (by decide) (by decide) ?_
          obtain ⟨P1, hP1, hV⟩ := hV
          refine e_si (n := 1) (A := [.int (S 57 30)]) (R := [.int (S 57 1)]) f_171_75 na_136 rfl rfl (Nat.le_of_ble_eq_true rfl) (Nat.le_of_ble_eq_true rfl) (by rw [ml_136]; exact Nat.le_of_ble_eq_true rfl) hP1 (fun v1 S1 hp1 => ?_)
          have hV := hV v1 S1 hp1
          refine e_isub f_171_78 ?_
          refine e_aload f_171_79 rfl (by decide) ?_
          refine e_gr (c := 6) (j := 0) (r := 57) f_171_80 (by decide) (by decide) (by decide) (by decide) ?_
          refine e_iconst (c := 31) f_171_83 (by decide) ?_
          refine e_iak (n := 99) (kk := 31) f_171_85 (by decide) (by decide) (by decide) ?_
          obtain ⟨P2, hP2, hV⟩ := hV
          refine e_si (n := 1) (A := [.int (S1 57 31)]) (R := [.int ((S 57 1) - v1)]) f_171_86 na_136 rfl rfl (Nat.le_of_ble_eq_true rfl) (Nat.le_of_ble_eq_true rfl) (by rw [ml_136]; exact Nat.le_of_ble_eq_true rfl) hP2 (fun v2 S2 hp2 => ?_)
          have hV := hV v2 S2 hp2
          refine e_isub f_171_89 ?_
          refine e_goto f_171_90 ?_
          exact e_ireturn f_171_107 rt_171 rfl hV
      · have hc : a1 = 1 := Decidable.not_not.mp (fun z => hc (decide_eq_true z))
        rw [if_pos hc] at hV
        refine e_aload f_171_48 rfl (by decide) ?_
        refine e_gr (c := 6) (j := 0) (r := 57) f_171_49 (by decide) (by decide) (by decide) (by decide) ?_
        refine e_iconst (c := 1) f_171_52 (by decide) ?_
        refine e_iak (n := 99) (kk := 1) f_171_53 (by decide) (by decide) (by decide) ?_
        refine e_goto f_171_54 ?_
        exact e_ireturn f_171_107 rt_171 rfl hV
    · have hc : a1 = 0 := Decidable.not_not.mp (fun z => hc (decide_eq_true z))
      rw [if_pos hc] at hV
      refine e_iload f_171_39 rfl ?_
      refine e_goto f_171_40 ?_
      exact e_ireturn f_171_107 rt_171 rfl hV
  · have hc : ¬ (8 : Int32) ≤ a3 := fun z => hc (decide_eq_true z)
    rw [if_neg hc] at hV
    refine e_iload f_171_10 rfl ?_
    refine e_aload f_171_11 rfl (by decide) ?_
    refine e_gr (c := 6) (j := 5) (r := 59) f_171_12 (by decide) (by decide) (by decide) (by decide) ?_
    refine e_iload f_171_15 rfl ?_
    obtain ⟨hg, hV⟩ := hV
    refine e_ia (n := 8) f_171_16 (by decide) (by decide) hg ?_
    refine e_iconst (c := (-1000000)) f_171_17 (by decide) ?_
    refine e_icmp f_171_19 (fun hc => ?_) (fun hc => ?_)
    · have hc : ¬ (S 59 (Int32.toNatClampNeg a3)) = (-1000000) := of_decide_eq_true hc
      rw [if_neg hc] at hV
      refine e_iconst (c := 1) f_171_26 (by decide) ?_
      refine e_iadd f_171_27 ?_
      refine e_istore (L' := [.ref 56, .int a1, .int (a2 + 1), .int a3]) f_171_28 (Nat.le_of_ble_eq_true rfl) rfl ?_
      refine e_inc (c := 1) (L' := [.ref 56, .int a1, .int (a2 + 1), .int (a3 + 1)]) f_171_29 rfl (by decide) rfl ?_
      refine e_goto f_171_32 ?_
      exact hV
    · have hc : (S 59 (Int32.toNatClampNeg a3)) = (-1000000) := Decidable.not_not.mp (fun z => hc (decide_eq_true z))
      rw [if_pos hc] at hV
      refine e_iconst (c := 0) f_171_22 (by decide) ?_
      refine e_goto f_171_23 ?_
      refine e_iadd f_171_27 ?_
      refine e_istore (L' := [.ref 56, .int a1, .int (a2 + 0), .int a3]) f_171_28 (Nat.le_of_ble_eq_true rfl) rfl ?_
      refine e_inc (c := 1) (L' := [.ref 56, .int a1, .int (a2 + 0), .int (a3 + 1)]) f_171_29 rfl (by decide) rfl ?_
      refine e_goto f_171_32 ?_
      exact hV
set_option maxRecDepth 20000 in
theorem T_172_0 {xs : List Int32} {d : Nat} {S : x_M} {Q : Option Value → x_M → Prop}   (hV : Q (some (.int (S 56 4))) S) : x_E xs (d + 1) 172 0 [.ref 56] [] S Q := by
  refine e_aload f_172_0 rfl (by decide) ?_
  refine e_gf (c := 6) (j := 4) f_172_1 (by decide) (by decide) (by decide) ?_
  exact e_ireturn f_172_4 rt_172 rfl hV
set_option maxRecDepth 20000 in
theorem T_179_0 {xs : List Int32} {d : Nat} {S : x_M} {Q : Option Value → x_M → Prop} {a0 : Int32}  (hV : Q (some (.int ((((((((a0 - (((a0).toUInt32 >>> ((1).toUInt32 &&& Int32.toUInt32 31)).toInt32 &&& 1431655765)) &&& 858993459) + ((((a0 - (((a0).toUInt32 >>> ((1).toUInt32 &&& Int32.toUInt32 31)).toInt32 &&& 1431655765))).toUInt32 >>> ((2).toUInt32 &&& Int32.toUInt32 31)).toInt32 &&& 858993459)) + (((((a0 - (((a0).toUInt32 >>> ((1).toUInt32 &&& Int32.toUInt32 31)).toInt32 &&& 1431655765)) &&& 858993459) + ((((a0 - (((a0).toUInt32 >>> ((1).toUInt32 &&& Int32.toUInt32 31)).toInt32 &&& 1431655765))).toUInt32 >>> ((2).toUInt32 &&& Int32.toUInt32 31)).toInt32 &&& 858993459))).toUInt32 >>> ((4).toUInt32 &&& Int32.toUInt32 31)).toInt32) &&& 252645135) + (((((((a0 - (((a0).toUInt32 >>> ((1).toUInt32 &&& Int32.toUInt32 31)).toInt32 &&& 1431655765)) &&& 858993459) + ((((a0 - (((a0).toUInt32 >>> ((1).toUInt32 &&& Int32.toUInt32 31)).toInt32 &&& 1431655765))).toUInt32 >>> ((2).toUInt32 &&& Int32.toUInt32 31)).toInt32 &&& 858993459)) + (((((a0 - (((a0).toUInt32 >>> ((1).toUInt32 &&& Int32.toUInt32 31)).toInt32 &&& 1431655765)) &&& 858993459) + ((((a0 - (((a0).toUInt32 >>> ((1).toUInt32 &&& Int32.toUInt32 31)).toInt32 &&& 1431655765))).toUInt32 >>> ((2).toUInt32 &&& Int32.toUInt32 31)).toInt32 &&& 858993459))).toUInt32 >>> ((4).toUInt32 &&& Int32.toUInt32 31)).toInt32) &&& 252645135)).toUInt32 >>> ((8).toUInt32 &&& Int32.toUInt32 31)).toInt32) + ((((((((a0 - (((a0).toUInt32 >>> ((1).toUInt32 &&& Int32.toUInt32 31)).toInt32 &&& 1431655765)) &&& 858993459) + ((((a0 - (((a0).toUInt32 >>> ((1).toUInt32 &&& Int32.toUInt32 31)).toInt32 &&& 1431655765))).toUInt32 >>> ((2).toUInt32 &&& Int32.toUInt32 31)).toInt32 &&& 858993459)) + (((((a0 - (((a0).toUInt32 >>> ((1).toUInt32 &&& Int32.toUInt32 31)).toInt32 &&& 1431655765)) &&& 858993459) + ((((a0 - (((a0).toUInt32 >>> ((1).toUInt32 &&& Int32.toUInt32 31)).toInt32 &&& 1431655765))).toUInt32 >>> ((2).toUInt32 &&& Int32.toUInt32 31)).toInt32 &&& 858993459))).toUInt32 >>> ((4).toUInt32 &&& Int32.toUInt32 31)).toInt32) &&& 252645135) + (((((((a0 - (((a0).toUInt32 >>> ((1).toUInt32 &&& Int32.toUInt32 31)).toInt32 &&& 1431655765)) &&& 858993459) + ((((a0 - (((a0).toUInt32 >>> ((1).toUInt32 &&& Int32.toUInt32 31)).toInt32 &&& 1431655765))).toUInt32 >>> ((2).toUInt32 &&& Int32.toUInt32 31)).toInt32 &&& 858993459)) + (((((a0 - (((a0).toUInt32 >>> ((1).toUInt32 &&& Int32.toUInt32 31)).toInt32 &&& 1431655765)) &&& 858993459) + ((((a0 - (((a0).toUInt32 >>> ((1).toUInt32 &&& Int32.toUInt32 31)).toInt32 &&& 1431655765))).toUInt32 >>> ((2).toUInt32 &&& Int32.toUInt32 31)).toInt32 &&& 858993459))).toUInt32 >>> ((4).toUInt32 &&& Int32.toUInt32 31)).toInt32) &&& 252645135)).toUInt32 >>> ((8).toUInt32 &&& Int32.toUInt32 31)).toInt32)).toUInt32 >>> ((16).toUInt32 &&& Int32.toUInt32 31)).toInt32) &&& 63))) S) : x_E xs (d + 1) 179 0 [.int a0] [] S Q := by
  refine e_iload f_179_0 rfl ?_
  refine e_iload f_179_1 rfl ?_
  refine e_iconst (c := 1) f_179_2 (by decide) ?_
  refine e_iushr f_179_3 ?_
  refine e_iconst (c := 1431655765) f_179_4 (by decide) ?_
  refine e_iand f_179_7 ?_
  refine e_isub f_179_8 ?_
  refine e_istore (L' := [.int (a0 - (((a0).toUInt32 >>> ((1).toUInt32 &&& Int32.toUInt32 31)).toInt32 &&& 1431655765))]) f_179_9 (Nat.le_of_ble_eq_true rfl) rfl ?_
  refine e_iload f_179_10 rfl ?_
  refine e_iconst (c := 858993459) f_179_11 (by decide) ?_
  refine e_iand f_179_14 ?_
  refine e_iload f_179_15 rfl ?_
  refine e_iconst (c := 2) f_179_16 (by decide) ?_
  refine e_iushr f_179_17 ?_
  refine e_iconst (c := 858993459) f_179_18 (by decide) ?_
  refine e_iand f_179_21 ?_
  refine e_iadd f_179_22 ?_
  refine e_istore (L' := [.int (((a0 - (((a0).toUInt32 >>> ((1).toUInt32 &&& Int32.toUInt32 31)).toInt32 &&& 1431655765)) &&& 858993459) + ((((a0 - (((a0).toUInt32 >>> ((1).toUInt32 &&& Int32.toUInt32 31)).toInt32 &&& 1431655765))).toUInt32 >>> ((2).toUInt32 &&& Int32.toUInt32 31)).toInt32 &&& 858993459))]) f_179_23 (Nat.le_of_ble_eq_true rfl) rfl ?_
  refine e_iload f_179_24 rfl ?_
  refine e_iload f_179_25 rfl ?_
  refine e_iconst (c := 4) f_179_26 (by decide) ?_
  refine e_iushr f_179_27 ?_
  refine e_iadd f_179_28 ?_
  refine e_iconst (c := 252645135) f_179_29 (by decide) ?_
  refine e_iand f_179_32 ?_
  refine e_istore (L' := [.int (((((a0 - (((a0).toUInt32 >>> ((1).toUInt32 &&& Int32.toUInt32 31)).toInt32 &&& 1431655765)) &&& 858993459) + ((((a0 - (((a0).toUInt32 >>> ((1).toUInt32 &&& Int32.toUInt32 31)).toInt32 &&& 1431655765))).toUInt32 >>> ((2).toUInt32 &&& Int32.toUInt32 31)).toInt32 &&& 858993459)) + (((((a0 - (((a0).toUInt32 >>> ((1).toUInt32 &&& Int32.toUInt32 31)).toInt32 &&& 1431655765)) &&& 858993459) + ((((a0 - (((a0).toUInt32 >>> ((1).toUInt32 &&& Int32.toUInt32 31)).toInt32 &&& 1431655765))).toUInt32 >>> ((2).toUInt32 &&& Int32.toUInt32 31)).toInt32 &&& 858993459))).toUInt32 >>> ((4).toUInt32 &&& Int32.toUInt32 31)).toInt32) &&& 252645135)]) f_179_33 (Nat.le_of_ble_eq_true rfl) rfl ?_
  refine e_iload f_179_34 rfl ?_
  refine e_iload f_179_35 rfl ?_
  refine e_iconst (c := 8) f_179_36 (by decide) ?_
  refine e_iushr f_179_38 ?_
  refine e_iadd f_179_39 ?_
  refine e_istore (L' := [.int ((((((a0 - (((a0).toUInt32 >>> ((1).toUInt32 &&& Int32.toUInt32 31)).toInt32 &&& 1431655765)) &&& 858993459) + ((((a0 - (((a0).toUInt32 >>> ((1).toUInt32 &&& Int32.toUInt32 31)).toInt32 &&& 1431655765))).toUInt32 >>> ((2).toUInt32 &&& Int32.toUInt32 31)).toInt32 &&& 858993459)) + (((((a0 - (((a0).toUInt32 >>> ((1).toUInt32 &&& Int32.toUInt32 31)).toInt32 &&& 1431655765)) &&& 858993459) + ((((a0 - (((a0).toUInt32 >>> ((1).toUInt32 &&& Int32.toUInt32 31)).toInt32 &&& 1431655765))).toUInt32 >>> ((2).toUInt32 &&& Int32.toUInt32 31)).toInt32 &&& 858993459))).toUInt32 >>> ((4).toUInt32 &&& Int32.toUInt32 31)).toInt32) &&& 252645135) + (((((((a0 - (((a0).toUInt32 >>> ((1).toUInt32 &&& Int32.toUInt32 31)).toInt32 &&& 1431655765)) &&& 858993459) + ((((a0 - (((a0).toUInt32 >>> ((1).toUInt32 &&& Int32.toUInt32 31)).toInt32 &&& 1431655765))).toUInt32 >>> ((2).toUInt32 &&& Int32.toUInt32 31)).toInt32 &&& 858993459)) + (((((a0 - (((a0).toUInt32 >>> ((1).toUInt32 &&& Int32.toUInt32 31)).toInt32 &&& 1431655765)) &&& 858993459) + ((((a0 - (((a0).toUInt32 >>> ((1).toUInt32 &&& Int32.toUInt32 31)).toInt32 &&& 1431655765))).toUInt32 >>> ((2).toUInt32 &&& Int32.toUInt32 31)).toInt32 &&& 858993459))).toUInt32 >>> ((4).toUInt32 &&& Int32.toUInt32 31)).toInt32) &&& 252645135)).toUInt32 >>> ((8).toUInt32 &&& Int32.toUInt32 31)).toInt32)]) f_179_40 (Nat.le_of_ble_eq_true rfl) rfl ?_
  refine e_iload f_179_41 rfl ?_
  refine e_iload f_179_42 rfl ?_
  refine e_iconst (c := 16) f_179_43 (by decide) ?_
  refine e_iushr f_179_45 ?_
  refine e_iadd f_179_46 ?_
  refine e_istore (L' := [.int (((((((a0 - (((a0).toUInt32 >>> ((1).toUInt32 &&& Int32.toUInt32 31)).toInt32 &&& 1431655765)) &&& 858993459) + ((((a0 - (((a0).toUInt32 >>> ((1).toUInt32 &&& Int32.toUInt32 31)).toInt32 &&& 1431655765))).toUInt32 >>> ((2).toUInt32 &&& Int32.toUInt32 31)).toInt32 &&& 858993459)) + (((((a0 - (((a0).toUInt32 >>> ((1).toUInt32 &&& Int32.toUInt32 31)).toInt32 &&& 1431655765)) &&& 858993459) + ((((a0 - (((a0).toUInt32 >>> ((1).toUInt32 &&& Int32.toUInt32 31)).toInt32 &&& 1431655765))).toUInt32 >>> ((2).toUInt32 &&& Int32.toUInt32 31)).toInt32 &&& 858993459))).toUInt32 >>> ((4).toUInt32 &&& Int32.toUInt32 31)).toInt32) &&& 252645135) + (((((((a0 - (((a0).toUInt32 >>> ((1).toUInt32 &&& Int32.toUInt32 31)).toInt32 &&& 1431655765)) &&& 858993459) + ((((a0 - (((a0).toUInt32 >>> ((1).toUInt32 &&& Int32.toUInt32 31)).toInt32 &&& 1431655765))).toUInt32 >>> ((2).toUInt32 &&& Int32.toUInt32 31)).toInt32 &&& 858993459)) + (((((a0 - (((a0).toUInt32 >>> ((1).toUInt32 &&& Int32.toUInt32 31)).toInt32 &&& 1431655765)) &&& 858993459) + ((((a0 - (((a0).toUInt32 >>> ((1).toUInt32 &&& Int32.toUInt32 31)).toInt32 &&& 1431655765))).toUInt32 >>> ((2).toUInt32 &&& Int32.toUInt32 31)).toInt32 &&& 858993459))).toUInt32 >>> ((4).toUInt32 &&& Int32.toUInt32 31)).toInt32) &&& 252645135)).toUInt32 >>> ((8).toUInt32 &&& Int32.toUInt32 31)).toInt32) + ((((((((a0 - (((a0).toUInt32 >>> ((1).toUInt32 &&& Int32.toUInt32 31)).toInt32 &&& 1431655765)) &&& 858993459) + ((((a0 - (((a0).toUInt32 >>> ((1).toUInt32 &&& Int32.toUInt32 31)).toInt32 &&& 1431655765))).toUInt32 >>> ((2).toUInt32 &&& Int32.toUInt32 31)).toInt32 &&& 858993459)) + (((((a0 - (((a0).toUInt32 >>> ((1).toUInt32 &&& Int32.toUInt32 31)).toInt32 &&& 1431655765)) &&& 858993459) + ((((a0 - (((a0).toUInt32 >>> ((1).toUInt32 &&& Int32.toUInt32 31)).toInt32 &&& 1431655765))).toUInt32 >>> ((2).toUInt32 &&& Int32.toUInt32 31)).toInt32 &&& 858993459))).toUInt32 >>> ((4).toUInt32 &&& Int32.toUInt32 31)).toInt32) &&& 252645135) + (((((((a0 - (((a0).toUInt32 >>> ((1).toUInt32 &&& Int32.toUInt32 31)).toInt32 &&& 1431655765)) &&& 858993459) + ((((a0 - (((a0).toUInt32 >>> ((1).toUInt32 &&& Int32.toUInt32 31)).toInt32 &&& 1431655765))).toUInt32 >>> ((2).toUInt32 &&& Int32.toUInt32 31)).toInt32 &&& 858993459)) + (((((a0 - (((a0).toUInt32 >>> ((1).toUInt32 &&& Int32.toUInt32 31)).toInt32 &&& 1431655765)) &&& 858993459) + ((((a0 - (((a0).toUInt32 >>> ((1).toUInt32 &&& Int32.toUInt32 31)).toInt32 &&& 1431655765))).toUInt32 >>> ((2).toUInt32 &&& Int32.toUInt32 31)).toInt32 &&& 858993459))).toUInt32 >>> ((4).toUInt32 &&& Int32.toUInt32 31)).toInt32) &&& 252645135)).toUInt32 >>> ((8).toUInt32 &&& Int32.toUInt32 31)).toInt32)).toUInt32 >>> ((16).toUInt32 &&& Int32.toUInt32 31)).toInt32)]) f_179_47 (Nat.le_of_ble_eq_true rfl) rfl ?_
  refine e_iload f_179_48 rfl ?_
  refine e_iconst (c := 63) f_179_49 (by decide) ?_
  refine e_iand f_179_51 ?_
  exact e_ireturn f_179_52 rt_179 rfl hV
set_option maxRecDepth 20000 in
theorem T_182_0 {xs : List Int32} {d : Nat} {S : x_M} {Q : Option Value → x_M → Prop} {a0 la0 : Nat} {a1 : Int32} (ha0 : x_tg a0 = 10) (na0 : x_ln a0 = la0) (hV : x_E xs (d + 1) 182 5 [.ref a0, .int a1, .int 0, .int (Int32.ofNat la0)] [] S Q) : x_E xs (d + 1) 182 0 [.ref a0, .int a1, .null, .null] [] S Q := by
  refine e_iconst (c := 0) f_182_0 (by decide) ?_
  refine e_istore (L' := [.ref a0, .int a1, .int 0, .null]) f_182_1 (Nat.le_of_ble_eq_true rfl) rfl ?_
  refine e_aload f_182_2 rfl (x_n7 ha0 (by decide)) ?_
  refine e_al (c := 10) (n := la0) (v := (Int32.ofNat la0)) f_182_3 ha0 (by decide) na0 rfl ?_
  refine e_istore (L' := [.ref a0, .int a1, .int 0, .int (Int32.ofNat la0)]) f_182_4 (Nat.le_of_ble_eq_true rfl) rfl ?_
  exact hV
set_option maxRecDepth 20000 in
theorem T_182_5 {xs : List Int32} {d : Nat} {S : x_M} {Q : Option Value → x_M → Prop} {a0 la0 : Nat} {a1 : Int32} {a2 : Int32} {a3 : Int32} (ha0 : x_tg a0 = 10) (na0 : x_ln a0 = la0) (hV : if a3 ≤ a2 then (Q none S) else ((x_ib a2 la0) ∧ (x_E xs (d + 1) 182 5 [.ref a0, .int a1, .int (a2 + 1), .int a3] [] (x_up S a0 (Int32.toNatClampNeg a2) a1) Q))) : x_E xs (d + 1) 182 5 [.ref a0, .int a1, .int a2, .int a3] [] S Q := by
  refine e_iload f_182_5 rfl ?_
  refine e_iload f_182_6 rfl ?_
  refine e_icmp f_182_7 (fun hc => ?_) (fun hc => ?_)
  · have hc : a3 ≤ a2 := of_decide_eq_true hc
    rw [if_pos hc] at hV
    exact e_return f_182_20 rt_182 hV
  · have hc : ¬ a3 ≤ a2 := fun z => hc (decide_eq_true z)
    rw [if_neg hc] at hV
    refine e_aload f_182_10 rfl (x_n7 ha0 (by decide)) ?_
    refine e_iload f_182_11 rfl ?_
    refine e_iload f_182_12 rfl ?_
    obtain ⟨hg, hV⟩ := hV
    refine e_is (n := la0) f_182_13 ha0 na0 hg ?_
    refine e_inc (c := 1) (L' := [.ref a0, .int a1, .int (a2 + 1), .int a3]) f_182_14 rfl (by decide) rfl ?_
    refine e_goto f_182_17 ?_
    exact hV
