set_option maxRecDepth 20000 in
theorem T_150_44 {xs : List Int32} {d : Nat} {S : x_M} {Q : Option Value → x_M → Prop} {a1 : Int32} {a2 : Int32} {a3 : Int32} {a4 : Int32} {a5 : Int32}  (hV : if a3 ≤ a5 then (Q (some (.int a4)) S) else (∃ P1 : Int32 → x_M → Prop, x_Ci xs d 152 [.ref 56, .int a5] S P1 ∧ ∀ (v1 : Int32) (S1 : x_M), P1 v1 S1 → (if v1 = a5 then (x_E xs (d + 1) 150 44 [.ref 56, .int a1, .int a2, .int a3, .int (a4 + 1), .int (a5 + 1)] [] S1 Q) else (x_E xs (d + 1) 150 44 [.ref 56, .int a1, .int a2, .int a3, .int (a4 + 0), .int (a5 + 1)] [] S1 Q)))) : x_E xs (d + 1) 150 44 [.ref 56, .int a1, .int a2, .int a3, .int a4, .int a5] [] S Q := by
  refine e_iload f_150_44 rfl ?_
  refine e_iload f_150_46 rfl ?_
  refine e_icmp f_150_47 (fun hc => ?_) (fun hc => ?_)
  · have hc := x_cct_ge hc
    rw [if_pos hc] at hV
    refine e_iload f_150_77 rfl ?_
    exact e_ireturn f_150_79 rt_150 rfl hV
  · have hc := x_ccf_ge hc
    rw [if_neg hc] at hV
    refine e_iload f_150_50 rfl ?_
    refine e_aload f_150_52 rfl (by decide) ?_
    refine e_iload f_150_53 rfl ?_
    obtain ⟨P1, hP1, hV⟩ := hV
    refine e_vi (n := 2) (A := [.ref 56, .int a5]) (R := [.int a4]) f_150_55 na_152 rfl rfl (Nat.le_of_ble_eq_true rfl) (Nat.le_of_ble_eq_true rfl) (by rw [ml_152]; exact Nat.le_of_ble_eq_true rfl) rfl (by rw [cy_152]; decide) (by rw [cy_152]; exact (by decide : x_tg 56 = 6)) hP1 (fun v1 S1 hp1 => ?_)
    have hV := hV v1 S1 hp1
    refine e_iload f_150_58 rfl ?_
    refine e_icmp f_150_60 (fun hc => ?_) (fun hc => ?_)
    · have hc := x_cct_ne hc
      rw [if_neg hc] at hV
      refine e_iconst (c := 0) f_150_67 (by decide) ?_
      refine e_iadd f_150_68 ?_
      refine e_istore (L' := [.ref 56, .int a1, .int a2, .int a3, .int (a4 + 0), .int a5]) f_150_69 (Nat.le_of_ble_eq_true rfl) rfl ?_
      refine e_inc (c := 1) (L' := [.ref 56, .int a1, .int a2, .int a3, .int (a4 + 0), .int (a5 + 1)]) f_150_71 rfl (by decide) rfl ?_
      refine e_goto f_150_74 ?_
      exact hV
    · have hc := x_ccf_ne hc
      rw [if_pos hc] at hV
      refine e_iconst (c := 1) f_150_63 (by decide) ?_
      refine e_goto f_150_64 ?_
      refine e_iadd f_150_68 ?_
      refine e_istore (L' := [.ref 56, .int a1, .int a2, .int a3, .int (a4 + 1), .int a5]) f_150_69 (Nat.le_of_ble_eq_true rfl) rfl ?_
      refine e_inc (c := 1) (L' := [.ref 56, .int a1, .int a2, .int a3, .int (a4 + 1), .int (a5 + 1)]) f_150_71 rfl (by decide) rfl ?_
      refine e_goto f_150_74 ?_
      exact hV
set_option maxRecDepth 20000 in
theorem T_151_0 {xs : List Int32} {d : Nat} {S : x_M} {Q : Option Value → x_M → Prop} {a1 : Int32}  (hV : x_E xs (d + 1) 151 4 [.ref 56, .int a1, .int 0, .int 0, .null, .null] [] S Q) : x_E xs (d + 1) 151 0 [.ref 56, .int a1, .null, .null, .null, .null] [] S Q := by
  refine e_iconst (c := 0) f_151_0 (by decide) ?_
  refine e_istore (L' := [.ref 56, .int a1, .int 0, .null, .null, .null]) f_151_1 (Nat.le_of_ble_eq_true rfl) rfl ?_
  refine e_iconst (c := 0) f_151_2 (by decide) ?_
  refine e_istore (L' := [.ref 56, .int a1, .int 0, .int 0, .null, .null]) f_151_3 (Nat.le_of_ble_eq_true rfl) rfl ?_
  exact hV
set_option maxRecDepth 20000 in
theorem T_151_4 {xs : List Int32} {d : Nat} {S : x_M} {Q : Option Value → x_M → Prop} {a1 : Int32} {a2 : Int32} {a3 : Int32} {a4 : Value} {a5 : Value}  (hV : if (8 : Int32) ≤ a3 then (Q (some (.int a2)) S) else (x_E xs (d + 1) 151 16 [.ref 56, .int a1, .int a2, .int a3, .int 1, .int 0] [] S Q)) : x_E xs (d + 1) 151 4 [.ref 56, .int a1, .int a2, .int a3, a4, a5] [] S Q := by
  refine e_iload f_151_4 rfl ?_
  refine e_iconst (c := 8) f_151_5 (by decide) ?_
  refine e_icmp f_151_7 (fun hc => ?_) (fun hc => ?_)
  · have hc := x_cct_ge hc
    rw [if_pos hc] at hV
    refine e_iload f_151_85 rfl ?_
    exact e_ireturn f_151_86 rt_151 rfl hV
  · have hc := x_ccf_ge hc
    rw [if_neg hc] at hV
    refine e_iconst (c := 1) f_151_10 (by decide) ?_
    refine e_istore (L' := [.ref 56, .int a1, .int a2, .int a3, .int 1, a5]) f_151_11 (Nat.le_of_ble_eq_true rfl) rfl ?_
    refine e_iconst (c := 0) f_151_13 (by decide) ?_
    refine e_istore (L' := [.ref 56, .int a1, .int a2, .int a3, .int 1, .int 0]) f_151_14 (Nat.le_of_ble_eq_true rfl) rfl ?_
    exact hV
set_option maxRecDepth 20000 in
theorem T_151_16 {xs : List Int32} {d : Nat} {S : x_M} {Q : Option Value → x_M → Prop} {a1 : Int32} {a2 : Int32} {a3 : Int32} {a4 : Int32} {a5 : Int32}  (hV : if a3 ≤ a5 then (if a4 = 0 then (x_E xs (d + 1) 151 4 [.ref 56, .int a1, .int (a2 + 0), .int (a3 + 1), .int a4, .int a5] [] S Q) else (x_E xs (d + 1) 151 4 [.ref 56, .int a1, .int (a2 + 1), .int (a3 + 1), .int a4, .int a5] [] S Q)) else (if a4 = 0 then (x_E xs (d + 1) 151 16 [.ref 56, .int a1, .int a2, .int a3, .int 0, .int (a5 + 1)] [] S Q) else ((x_ib ((8 * a1) + a5) 112) ∧ ((x_ib ((8 * a1) + a3) 112) ∧ (if (S 66 (Int32.toNatClampNeg ((8 * a1) + a5))) = (S 66 (Int32.toNatClampNeg ((8 * a1) + a3))) then (x_E xs (d + 1) 151 16 [.ref 56, .int a1, .int a2, .int a3, .int 0, .int (a5 + 1)] [] S Q) else (x_E xs (d + 1) 151 16 [.ref 56, .int a1, .int a2, .int a3, .int 1, .int (a5 + 1)] [] S Q)))))) : x_E xs (d + 1) 151 16 [.ref 56, .int a1, .int a2, .int a3, .int a4, .int a5] [] S Q := by
  refine e_iload f_151_16 rfl ?_
  refine e_iload f_151_18 rfl ?_
  refine e_icmp f_151_19 (fun hc => ?_) (fun hc => ?_)
  · have hc := x_cct_ge hc
    rw [if_pos hc] at hV
    refine e_iload f_151_66 rfl ?_
    refine e_iload f_151_67 rfl ?_
    refine e_if f_151_69 (fun hc => ?_) (fun hc => ?_)
    · have hc := x_cct_eq hc
      rw [if_pos hc] at hV
      refine e_iconst (c := 0) f_151_76 (by decide) ?_
      refine e_iadd f_151_77 ?_
      refine e_istore (L' := [.ref 56, .int a1, .int (a2 + 0), .int a3, .int a4, .int a5]) f_151_78 (Nat.le_of_ble_eq_true rfl) rfl ?_
      refine e_inc (c := 1) (L' := [.ref 56, .int a1, .int (a2 + 0), .int (a3 + 1), .int a4, .int a5]) f_151_79 rfl (by decide) rfl ?_
      refine e_goto f_151_82 ?_
      exact hV
    · have hc := x_ccf_eq hc
      rw [if_neg hc] at hV
      refine e_iconst (c := 1) f_151_72 (by decide) ?_
      refine e_goto f_151_73 ?_
      refine e_iadd f_151_77 ?_
      refine e_istore (L' := [.ref 56, .int a1, .int (a2 + 1), .int a3, .int a4, .int a5]) f_151_78 (Nat.le_of_ble_eq_true rfl) rfl ?_
      refine e_inc (c := 1) (L' := [.ref 56, .int a1, .int (a2 + 1), .int (a3 + 1), .int a4, .int a5]) f_151_79 rfl (by decide) rfl ?_
      refine e_goto f_151_82 ?_
      exact hV
  · have hc := x_ccf_ge hc
    rw [if_neg hc] at hV
    refine e_iload f_151_22 rfl ?_
    refine e_if f_151_24 (fun hc => ?_) (fun hc => ?_)
    · have hc := x_cct_eq hc
      rw [if_pos hc] at hV
      refine e_iconst (c := 0) f_151_57 (by decide) ?_
      refine e_istore (L' := [.ref 56, .int a1, .int a2, .int a3, .int 0, .int a5]) f_151_58 (Nat.le_of_ble_eq_true rfl) rfl ?_
      refine e_inc (c := 1) (L' := [.ref 56, .int a1, .int a2, .int a3, .int 0, .int (a5 + 1)]) f_151_60 rfl (by decide) rfl ?_
      refine e_goto f_151_63 ?_
      exact hV
    · have hc := x_ccf_eq hc
      rw [if_neg hc] at hV
      refine e_aload f_151_27 rfl (by decide) ?_
      refine e_gr (c := 6) (j := 17) (r := 66) f_151_28 (by decide) (by decide) (by decide) (by decide) ?_
      refine e_iconst (c := 8) f_151_31 (by decide) ?_
      refine e_iload f_151_33 rfl ?_
      refine e_imul f_151_34 ?_
      refine e_iload f_151_35 rfl ?_
      refine e_iadd f_151_37 ?_
      obtain ⟨hg, hV⟩ := hV
      refine e_ia (n := 112) f_151_38 (by decide) (by decide) hg ?_
      refine e_aload f_151_39 rfl (by decide) ?_
      refine e_gr (c := 6) (j := 17) (r := 66) f_151_40 (by decide) (by decide) (by decide) (by decide) ?_
      refine e_iconst (c := 8) f_151_43 (by decide) ?_
      refine e_iload f_151_45 rfl ?_
      refine e_imul f_151_46 ?_
      refine e_iload f_151_47 rfl ?_
      refine e_iadd f_151_48 ?_
      obtain ⟨hg, hV⟩ := hV
      refine e_ia (n := 112) f_151_49 (by decide) (by decide) hg ?_
      refine e_icmp f_151_50 (fun hc => ?_) (fun hc => ?_)
      · have hc := x_cct_eq hc
        rw [if_pos hc] at hV
        refine e_iconst (c := 0) f_151_57 (by decide) ?_
        refine e_istore (L' := [.ref 56, .int a1, .int a2, .int a3, .int 0, .int a5]) f_151_58 (Nat.le_of_ble_eq_true rfl) rfl ?_
        refine e_inc (c := 1) (L' := [.ref 56, .int a1, .int a2, .int a3, .int 0, .int (a5 + 1)]) f_151_60 rfl (by decide) rfl ?_
        refine e_goto f_151_63 ?_
        exact hV
      · have hc := x_ccf_eq hc
        rw [if_neg hc] at hV
        refine e_iconst (c := 1) f_151_53 (by decide) ?_
        refine e_goto f_151_54 ?_
        refine e_istore (L' := [.ref 56, .int a1, .int a2, .int a3, .int 1, .int a5]) f_151_58 (Nat.le_of_ble_eq_true rfl) rfl ?_
        refine e_inc (c := 1) (L' := [.ref 56, .int a1, .int a2, .int a3, .int 1, .int (a5 + 1)]) f_151_60 rfl (by decide) rfl ?_
        refine e_goto f_151_63 ?_
        exact hV
set_option maxRecDepth 20000 in
theorem T_152_0 {xs : List Int32} {d : Nat} {S : x_M} {Q : Option Value → x_M → Prop} {a1 : Int32}  (hV : x_E xs (d + 1) 152 2 [.ref 56, .int a1, .int 0] [] S Q) : x_E xs (d + 1) 152 0 [.ref 56, .int a1, .null] [] S Q := by
  refine e_iconst (c := 0) f_152_0 (by decide) ?_
  refine e_istore (L' := [.ref 56, .int a1, .int 0]) f_152_1 (Nat.le_of_ble_eq_true rfl) rfl ?_
  exact hV
set_option maxRecDepth 20000 in
theorem T_152_2 {xs : List Int32} {d : Nat} {S : x_M} {Q : Option Value → x_M → Prop} {a1 : Int32} {a2 : Int32}  (hV : ∃ P1 : Int32 → x_M → Prop, x_Ci xs d 153 [.ref 56, .int a1, .int a2] S P1 ∧ ∀ (v1 : Int32) (S1 : x_M), P1 v1 S1 → (if v1 = 0 then (x_E xs (d + 1) 152 2 [.ref 56, .int a1, .int (a2 + 1)] [] S1 Q) else (Q (some (.int a2)) S1))) : x_E xs (d + 1) 152 2 [.ref 56, .int a1, .int a2] [] S Q := by
  refine e_aload f_152_2 rfl (by decide) ?_
  refine e_iload f_152_3 rfl ?_
  refine e_iload f_152_4 rfl ?_
  obtain ⟨P1, hP1, hV⟩ := hV
  refine e_vi (n := 3) (A := [.ref 56, .int a1, .int a2]) (R := []) f_152_5 na_153 rfl rfl (Nat.le_of_ble_eq_true rfl) (Nat.le_of_ble_eq_true rfl) (by rw [ml_153]; exact Nat.le_of_ble_eq_true rfl) rfl (by rw [cy_153]; decide) (by rw [cy_153]; exact (by decide : x_tg 56 = 6)) hP1 (fun v1 S1 hp1 => ?_)
  have hV := hV v1 S1 hp1
  refine e_if f_152_8 (fun hc => ?_) (fun hc => ?_)
  · have hc := x_cct_ne hc
    rw [if_neg hc] at hV
    refine e_iload f_152_17 rfl ?_
    exact e_ireturn f_152_18 rt_152 rfl hV
  · have hc := x_ccf_ne hc
    rw [if_pos hc] at hV
    refine e_inc (c := 1) (L' := [.ref 56, .int a1, .int (a2 + 1)]) f_152_11 rfl (by decide) rfl ?_
    refine e_goto f_152_14 ?_
    exact hV
set_option maxRecDepth 20000 in
theorem T_153_0 {xs : List Int32} {d : Nat} {S : x_M} {Q : Option Value → x_M → Prop} {a1 : Int32} {a2 : Int32}  (hV : x_E xs (d + 1) 153 5 [.ref 56, .int a1, .int a2, .int 0, .int 0] [] S Q) : x_E xs (d + 1) 153 0 [.ref 56, .int a1, .int a2, .null, .null] [] S Q := by
  refine e_iconst (c := 0) f_153_0 (by decide) ?_
  refine e_istore (L' := [.ref 56, .int a1, .int a2, .int 0, .null]) f_153_1 (Nat.le_of_ble_eq_true rfl) rfl ?_
  refine e_iconst (c := 0) f_153_2 (by decide) ?_
  refine e_istore (L' := [.ref 56, .int a1, .int a2, .int 0, .int 0]) f_153_3 (Nat.le_of_ble_eq_true rfl) rfl ?_
  exact hV
set_option maxRecDepth 20000 in
theorem T_153_5 {xs : List Int32} {d : Nat} {S : x_M} {Q : Option Value → x_M → Prop} {a1 : Int32} {a2 : Int32} {a3 : Int32} {a4 : Int32}  (hV : if (8 : Int32) ≤ a4 then ((a3 = 0 ∨ a3 = 1) ∧ Q (some (.int a3)) S) else (if a3 = 0 then ((x_ib ((8 * a1) + a4) 112) ∧ ((x_ib (8 * a2) 112) ∧ (if (S 66 (Int32.toNatClampNeg ((8 * a1) + a4))) = (S 66 (Int32.toNatClampNeg (8 * a2))) then (x_E xs (d + 1) 153 5 [.ref 56, .int a1, .int a2, .int 1, .int (a4 + 1)] [] S Q) else (x_E xs (d + 1) 153 5 [.ref 56, .int a1, .int a2, .int 0, .int (a4 + 1)] [] S Q)))) else (x_E xs (d + 1) 153 5 [.ref 56, .int a1, .int a2, .int 1, .int (a4 + 1)] [] S Q))) : x_E xs (d + 1) 153 5 [.ref 56, .int a1, .int a2, .int a3, .int a4] [] S Q := by
  refine e_iload f_153_5 rfl ?_
  refine e_iconst (c := 8) f_153_7 (by decide) ?_
  refine e_icmp f_153_9 (fun hc => ?_) (fun hc => ?_)
  · have hc := x_cct_ge hc
    rw [if_pos hc] at hV
    refine e_iload f_153_52 rfl ?_
    obtain ⟨hg, hV⟩ := hV
    exact e_ireturn f_153_53 rt_153 (x_nz hg) hV
  · have hc := x_ccf_ge hc
    rw [if_neg hc] at hV
    refine e_iload f_153_12 rfl ?_
    refine e_if f_153_13 (fun hc => ?_) (fun hc => ?_)
    · have hc := x_cct_ne hc
      rw [if_neg hc] at hV
      refine e_iconst (c := 1) f_153_40 (by decide) ?_
      refine e_goto f_153_41 ?_
      refine e_istore (L' := [.ref 56, .int a1, .int a2, .int 1, .int a4]) f_153_45 (Nat.le_of_ble_eq_true rfl) rfl ?_
      refine e_inc (c := 1) (L' := [.ref 56, .int a1, .int a2, .int 1, .int (a4 + 1)]) f_153_46 rfl (by decide) rfl ?_
      refine e_goto f_153_49 ?_
      exact hV
    · have hc := x_ccf_ne hc
      rw [if_pos hc] at hV
      refine e_aload f_153_16 rfl (by decide) ?_
      refine e_gr (c := 6) (j := 17) (r := 66) f_153_17 (by decide) (by decide) (by decide) (by decide) ?_
      refine e_iconst (c := 8) f_153_20 (by decide) ?_
      refine e_iload f_153_22 rfl ?_
      refine e_imul f_153_23 ?_
      refine e_iload f_153_24 rfl ?_
      refine e_iadd f_153_26 ?_
      obtain ⟨hg, hV⟩ := hV
      refine e_ia (n := 112) f_153_27 (by decide) (by decide) hg ?_
      refine e_aload f_153_28 rfl (by decide) ?_
      refine e_gr (c := 6) (j := 17) (r := 66) f_153_29 (by decide) (by decide) (by decide) (by decide) ?_
      refine e_iconst (c := 8) f_153_32 (by decide) ?_
      refine e_iload f_153_34 rfl ?_
      refine e_imul f_153_35 ?_
      obtain ⟨hg, hV⟩ := hV
      refine e_ia (n := 112) f_153_36 (by decide) (by decide) hg ?_
      refine e_icmp f_153_37 (fun hc => ?_) (fun hc => ?_)
      · have hc := x_cct_ne hc
        rw [if_neg hc] at hV
        refine e_iconst (c := 0) f_153_44 (by decide) ?_
        refine e_istore (L' := [.ref 56, .int a1, .int a2, .int 0, .int a4]) f_153_45 (Nat.le_of_ble_eq_true rfl) rfl ?_
        refine e_inc (c := 1) (L' := [.ref 56, .int a1, .int a2, .int 0, .int (a4 + 1)]) f_153_46 rfl (by decide) rfl ?_
        refine e_goto f_153_49 ?_
        exact hV
      · have hc := x_ccf_ne hc
        rw [if_pos hc] at hV
        refine e_iconst (c := 1) f_153_40 (by decide) ?_
        refine e_goto f_153_41 ?_
        refine e_istore (L' := [.ref 56, .int a1, .int a2, .int 1, .int a4]) f_153_45 (Nat.le_of_ble_eq_true rfl) rfl ?_
        refine e_inc (c := 1) (L' := [.ref 56, .int a1, .int a2, .int 1, .int (a4 + 1)]) f_153_46 rfl (by decide) rfl ?_
        refine e_goto f_153_49 ?_
        exact hV
set_option maxRecDepth 20000 in
theorem T_154_0 {xs : List Int32} {d : Nat} {S : x_M} {Q : Option Value → x_M → Prop} {a1 : Int32} {a2 : Int32} {a3 : Int32}  (hV : if (S 57 0) = 0 then (Q (some (.int (-1000002))) S) else (∃ P1 : Int32 → x_M → Prop, x_Ci xs d 128 [.int a1] S P1 ∧ ∀ (v1 : Int32) (S1 : x_M), P1 v1 S1 → (if v1 = 0 then (Q (some (.int (-1000001))) S1) else (∃ P2 : Int32 → x_M → Prop, x_Ci xs d 128 [.int a2] S1 P2 ∧ ∀ (v2 : Int32) (S2 : x_M), P2 v2 S2 → (if v2 = 0 then (Q (some (.int (-1000001))) S2) else (if a3 = (-1) then (if a3 = (-1) then (x_E xs (d + 1) 154 61 [.ref 56, .int a1, .int a2, .int a3, .int 0, .int 0] [] S2 Q) else (∃ P3 : Int32 → x_M → Prop, x_Ci xs d 155 [.ref 56, .int a1, .int a2, .int a3] S2 P3 ∧ ∀ (v3 : Int32) (S3 : x_M), P3 v3 S3 → (Q (some (.int v3)) S3))) else (∃ P4 : Int32 → x_M → Prop, x_Ci xs d 125 [.ref 56, .int a3] S2 P4 ∧ ∀ (v4 : Int32) (S4 : x_M), P4 v4 S4 → (if v4 = 0 then (Q (some (.int (-1000001))) S4) else (if a3 = (-1) then (x_E xs (d + 1) 154 61 [.ref 56, .int a1, .int a2, .int a3, .int 0, .int 0] [] S4 Q) else (∃ P5 : Int32 → x_M → Prop, x_Ci xs d 155 [.ref 56, .int a1, .int a2, .int a3] S4 P5 ∧ ∀ (v5 : Int32) (S5 : x_M), P5 v5 S5 → (Q (some (.int v5)) S5))))))))))) : x_E xs (d + 1) 154 0 [.ref 56, .int a1, .int a2, .int a3, .null, .null] [] S Q := by
  refine e_aload f_154_0 rfl (by decide) ?_
  refine e_gr (c := 6) (j := 0) (r := 57) f_154_1 (by decide) (by decide) (by decide) (by decide) ?_
  refine e_iconst (c := 0) f_154_4 (by decide) ?_
  refine e_iak (n := 99) (kk := 0) f_154_5 (by decide) (by decide) (by decide) ?_
  refine e_if f_154_6 (fun hc => ?_) (fun hc => ?_)
  · have hc := x_cct_ne hc
    rw [if_neg hc] at hV
    refine e_iload f_154_12 rfl ?_
    obtain ⟨P1, hP1, hV⟩ := hV
    refine e_si (n := 1) (A := [.int a1]) (R := []) f_154_13 na_128 rfl rfl (Nat.le_of_ble_eq_true rfl) (Nat.le_of_ble_eq_true rfl) (by rw [ml_128]; exact Nat.le_of_ble_eq_true rfl) hP1 (fun v1 S1 hp1 => ?_)
    have hV := hV v1 S1 hp1
    refine e_if f_154_16 (fun hc => ?_) (fun hc => ?_)
    · have hc := x_cct_eq hc
      rw [if_pos hc] at hV
      refine e_iconst (c := (-1000001)) f_154_39 (by decide) ?_
      exact e_ireturn f_154_41 rt_154 rfl hV
    · have hc := x_ccf_eq hc
      rw [if_neg hc] at hV
      refine e_iload f_154_19 rfl ?_
      obtain ⟨P2, hP2, hV⟩ := hV
      refine e_si (n := 1) (A := [.int a2]) (R := []) f_154_20 na_128 rfl rfl (Nat.le_of_ble_eq_true rfl) (Nat.le_of_ble_eq_true rfl) (by rw [ml_128]; exact Nat.le_of_ble_eq_true rfl) hP2 (fun v2 S2 hp2 => ?_)
      have hV := hV v2 S2 hp2
      refine e_if f_154_23 (fun hc => ?_) (fun hc => ?_)
      · have hc := x_cct_eq hc
        rw [if_pos hc] at hV
        refine e_iconst (c := (-1000001)) f_154_39 (by decide) ?_
        exact e_ireturn f_154_41 rt_154 rfl hV
      · have hc := x_ccf_eq hc
        rw [if_neg hc] at hV
        refine e_iload f_154_26 rfl ?_
        refine e_iconst (c := (-1)) f_154_27 (by decide) ?_
        refine e_icmp f_154_28 (fun hc => ?_) (fun hc => ?_)
        · have hc := x_cct_eq hc
          rw [if_pos hc] at hV
          refine e_iload f_154_42 rfl ?_
          refine e_iconst (c := (-1)) f_154_43 (by decide) ?_
          refine e_icmp f_154_44 (fun hc => ?_) (fun hc => ?_)
          · have hc := x_cct_eq hc
            rw [if_pos hc] at hV
            refine e_iconst (c := 0) f_154_55 (by decide) ?_
            refine e_istore (L' := [.ref 56, .int a1, .int a2, .int a3, .int 0, .null]) f_154_56 (Nat.le_of_ble_eq_true rfl) rfl ?_
            refine e_iconst (c := 0) f_154_58 (by decide) ?_
            refine e_istore (L' := [.ref 56, .int a1, .int a2, .int a3, .int 0, .int 0]) f_154_59 (Nat.le_of_ble_eq_true rfl) rfl ?_
            exact hV
          · have hc := x_ccf_eq hc
            rw [if_neg hc] at hV
            refine e_aload f_154_47 rfl (by decide) ?_
            refine e_iload f_154_48 rfl ?_
            refine e_iload f_154_49 rfl ?_
            refine e_iload f_154_50 rfl ?_
            obtain ⟨P3, hP3, hV⟩ := hV
            refine e_vi (n := 4) (A := [.ref 56, .int a1, .int a2, .int a3]) (R := []) f_154_51 na_155 rfl rfl (Nat.le_of_ble_eq_true rfl) (Nat.le_of_ble_eq_true rfl) (by rw [ml_155]; exact Nat.le_of_ble_eq_true rfl) rfl (by rw [cy_155]; decide) (by rw [cy_155]; exact (by decide : x_tg 56 = 6)) hP3 (fun v3 S3 hp3 => ?_)
            have hV := hV v3 S3 hp3
            exact e_ireturn f_154_54 rt_154 rfl hV
        · have hc := x_ccf_eq hc
          rw [if_neg hc] at hV
          refine e_aload f_154_31 rfl (by decide) ?_
          refine e_iload f_154_32 rfl ?_
          obtain ⟨P4, hP4, hV⟩ := hV
          refine e_vi (n := 2) (A := [.ref 56, .int a3]) (R := []) f_154_33 na_125 rfl rfl (Nat.le_of_ble_eq_true rfl) (Nat.le_of_ble_eq_true rfl) (by rw [ml_125]; exact Nat.le_of_ble_eq_true rfl) rfl (by rw [cy_125]; decide) (by rw [cy_125]; exact (by decide : x_tg 56 = 6)) hP4 (fun v4 S4 hp4 => ?_)
          have hV := hV v4 S4 hp4
          refine e_if f_154_36 (fun hc => ?_) (fun hc => ?_)
          · have hc := x_cct_ne hc
            rw [if_neg hc] at hV
            refine e_iload f_154_42 rfl ?_
            refine e_iconst (c := (-1)) f_154_43 (by decide) ?_
            refine e_icmp f_154_44 (fun hc => ?_) (fun hc => ?_)
            · have hc := x_cct_eq hc
              rw [if_pos hc] at hV
              refine e_iconst (c := 0) f_154_55 (by decide) ?_
              refine e_istore (L' := [.ref 56, .int a1, .int a2, .int a3, .int 0, .null]) f_154_56 (Nat.le_of_ble_eq_true rfl) rfl ?_
              refine e_iconst (c := 0) f_154_58 (by decide) ?_
              refine e_istore (L' := [.ref 56, .int a1, .int a2, .int a3, .int 0, .int 0]) f_154_59 (Nat.le_of_ble_eq_true rfl) rfl ?_
              exact hV
            · have hc := x_ccf_eq hc
              rw [if_neg hc] at hV
              refine e_aload f_154_47 rfl (by decide) ?_
              refine e_iload f_154_48 rfl ?_
              refine e_iload f_154_49 rfl ?_
              refine e_iload f_154_50 rfl ?_
              obtain ⟨P5, hP5, hV⟩ := hV
              refine e_vi (n := 4) (A := [.ref 56, .int a1, .int a2, .int a3]) (R := []) f_154_51 na_155 rfl rfl (Nat.le_of_ble_eq_true rfl) (Nat.le_of_ble_eq_true rfl) (by rw [ml_155]; exact Nat.le_of_ble_eq_true rfl) rfl (by rw [cy_155]; decide) (by rw [cy_155]; exact (by decide : x_tg 56 = 6)) hP5 (fun v5 S5 hp5 => ?_)
              have hV := hV v5 S5 hp5
              exact e_ireturn f_154_54 rt_154 rfl hV
          · have hc := x_ccf_ne hc
            rw [if_pos hc] at hV
            refine e_iconst (c := (-1000001)) f_154_39 (by decide) ?_
            exact e_ireturn f_154_41 rt_154 rfl hV
  · have hc := x_ccf_ne hc
    rw [if_pos hc] at hV
    refine e_iconst (c := (-1000002)) f_154_9 (by decide) ?_
    exact e_ireturn f_154_11 rt_154 rfl hV
set_option maxRecDepth 20000 in
theorem T_154_61 {xs : List Int32} {d : Nat} {S : x_M} {Q : Option Value → x_M → Prop} {a1 : Int32} {a2 : Int32} {a3 : Int32} {a4 : Int32} {a5 : Int32}  (hV : if (S 57 1) ≤ a5 then (Q (some (.int a4)) S) else (∃ P1 : Int32 → x_M → Prop, x_Ci xs d 155 [.ref 56, .int a1, .int a2, .int a5] S P1 ∧ ∀ (v1 : Int32) (S1 : x_M), P1 v1 S1 → (if v1 = (-1000000) then (x_E xs (d + 1) 154 61 [.ref 56, .int a1, .int a2, .int a3, .int (a4 ||| 0), .int (a5 + 1)] [] S1 Q) else (x_E xs (d + 1) 154 61 [.ref 56, .int a1, .int a2, .int a3, .int (a4 ||| (1 <<< (a5 &&& 31))), .int (a5 + 1)] [] S1 Q)))) : x_E xs (d + 1) 154 61 [.ref 56, .int a1, .int a2, .int a3, .int a4, .int a5] [] S Q := by
  refine e_iload f_154_61 rfl ?_
  refine e_aload f_154_63 rfl (by decide) ?_
  refine e_gr (c := 6) (j := 0) (r := 57) f_154_64 (by decide) (by decide) (by decide) (by decide) ?_
  refine e_iconst (c := 1) f_154_67 (by decide) ?_
  refine e_iak (n := 99) (kk := 1) f_154_68 (by decide) (by decide) (by decide) ?_
  refine e_icmp f_154_69 (fun hc => ?_) (fun hc => ?_)
  · have hc := x_cct_ge hc
    rw [if_pos hc] at hV
    refine e_iload f_154_104 rfl ?_
    exact e_ireturn f_154_106 rt_154 rfl hV
  · have hc := x_ccf_ge hc
    rw [if_neg hc] at hV
    refine e_iload f_154_72 rfl ?_
    refine e_aload f_154_74 rfl (by decide) ?_
    refine e_iload f_154_75 rfl ?_
    refine e_iload f_154_76 rfl ?_
    refine e_iload f_154_77 rfl ?_
    obtain ⟨P1, hP1, hV⟩ := hV
    refine e_vi (n := 4) (A := [.ref 56, .int a1, .int a2, .int a5]) (R := [.int a4]) f_154_79 na_155 rfl rfl (Nat.le_of_ble_eq_true rfl) (Nat.le_of_ble_eq_true rfl) (by rw [ml_155]; exact Nat.le_of_ble_eq_true rfl) rfl (by rw [cy_155]; decide) (by rw [cy_155]; exact (by decide : x_tg 56 = 6)) hP1 (fun v1 S1 hp1 => ?_)
    have hV := hV v1 S1 hp1
    refine e_iconst (c := (-1000000)) f_154_82 (by decide) ?_
    refine e_icmp f_154_84 (fun hc => ?_) (fun hc => ?_)
    · have hc := x_cct_ne hc
      rw [if_neg hc] at hV
      refine e_iconst (c := 1) f_154_91 (by decide) ?_
      refine e_iload f_154_92 rfl ?_
      refine e_ishl f_154_94 ?_
      refine e_ior f_154_95 ?_
      refine e_istore (L' := [.ref 56, .int a1, .int a2, .int a3, .int (a4 ||| (1 <<< (a5 &&& 31))), .int a5]) f_154_96 (Nat.le_of_ble_eq_true rfl) rfl ?_
      refine e_inc (c := 1) (L' := [.ref 56, .int a1, .int a2, .int a3, .int (a4 ||| (1 <<< (a5 &&& 31))), .int (a5 + 1)]) f_154_98 rfl (by decide) rfl ?_
      refine e_goto f_154_101 ?_
      exact hV
    · have hc := x_ccf_ne hc
      rw [if_pos hc] at hV
      refine e_iconst (c := 0) f_154_87 (by decide) ?_
      refine e_goto f_154_88 ?_
      refine e_ior f_154_95 ?_
      refine e_istore (L' := [.ref 56, .int a1, .int a2, .int a3, .int (a4 ||| 0), .int a5]) f_154_96 (Nat.le_of_ble_eq_true rfl) rfl ?_
      refine e_inc (c := 1) (L' := [.ref 56, .int a1, .int a2, .int a3, .int (a4 ||| 0), .int (a5 + 1)]) f_154_98 rfl (by decide) rfl ?_
      refine e_goto f_154_101 ?_
      exact hV
set_option maxRecDepth 20000 in
theorem T_155_0 {xs : List Int32} {d : Nat} {S : x_M} {Q : Option Value → x_M → Prop} {a1 : Int32} {a2 : Int32} {a3 : Int32}  (hV : x_E xs (d + 1) 155 3 [.ref 56, .int a1, .int a2, .int a3, .int 0] [] S Q) : x_E xs (d + 1) 155 0 [.ref 56, .int a1, .int a2, .int a3, .null] [] S Q := by
  refine e_iconst (c := 0) f_155_0 (by decide) ?_
  refine e_istore (L' := [.ref 56, .int a1, .int a2, .int a3, .int 0]) f_155_1 (Nat.le_of_ble_eq_true rfl) rfl ?_
  exact hV
set_option maxRecDepth 20000 in
theorem T_155_3 {xs : List Int32} {d : Nat} {S : x_M} {Q : Option Value → x_M → Prop} {a1 : Int32} {a2 : Int32} {a3 : Int32} {a4 : Int32}  (hV : if (8 : Int32) ≤ a4 then (Q (some (.int (-1000000))) S) else ((x_ib ((8 * a3) + a4) 112) ∧ (if (a1 &&& (S 66 (Int32.toNatClampNeg ((8 * a3) + a4)))) = a2 then (Q (some (.int a4)) S) else (x_E xs (d + 1) 155 3 [.ref 56, .int a1, .int a2, .int a3, .int (a4 + 1)] [] S Q)))) : x_E xs (d + 1) 155 3 [.ref 56, .int a1, .int a2, .int a3, .int a4] [] S Q := by
  refine e_iload f_155_3 rfl ?_
  refine e_iconst (c := 8) f_155_5 (by decide) ?_
  refine e_icmp f_155_7 (fun hc => ?_) (fun hc => ?_)
  · have hc := x_cct_ge hc
    rw [if_pos hc] at hV
    refine e_iconst (c := (-1000000)) f_155_37 (by decide) ?_
    exact e_ireturn f_155_39 rt_155 rfl hV
  · have hc := x_ccf_ge hc
    rw [if_neg hc] at hV
    refine e_iload f_155_10 rfl ?_
    refine e_aload f_155_11 rfl (by decide) ?_
    refine e_gr (c := 6) (j := 17) (r := 66) f_155_12 (by decide) (by decide) (by decide) (by decide) ?_
    refine e_iconst (c := 8) f_155_15 (by decide) ?_
    refine e_iload f_155_17 rfl ?_
    refine e_imul f_155_18 ?_
    refine e_iload f_155_19 rfl ?_
    refine e_iadd f_155_21 ?_
    obtain ⟨hg, hV⟩ := hV
    refine e_ia (n := 112) f_155_22 (by decide) (by decide) hg ?_
    refine e_iand f_155_23 ?_
    refine e_iload f_155_24 rfl ?_
    refine e_icmp f_155_25 (fun hc => ?_) (fun hc => ?_)
    · have hc := x_cct_ne hc
      rw [if_neg hc] at hV
      refine e_inc (c := 1) (L' := [.ref 56, .int a1, .int a2, .int a3, .int (a4 + 1)]) f_155_31 rfl (by decide) rfl ?_
      refine e_goto f_155_34 ?_
      exact hV
    · have hc := x_ccf_ne hc
      rw [if_pos hc] at hV
      refine e_iload f_155_28 rfl ?_
      exact e_ireturn f_155_30 rt_155 rfl hV
set_option maxRecDepth 20000 in
theorem T_156_0 {xs : List Int32} {d : Nat} {S : x_M} {Q : Option Value → x_M → Prop} {a1 : Int32}  (hV : ∃ P1 : Int32 → x_M → Prop, x_Ci xs d 101 [.long (Int32.toInt64 a1), .long 0, .long 1] S P1 ∧ ∀ (v1 : Int32) (S1 : x_M), P1 v1 S1 → (if v1 = 0 then (Q (some (.int (-1000001))) S1) else (if (S1 57 0) = 0 then (Q (some (.int (-1000002))) S1) else (∃ P2 : x_M → Prop, x_Cv xs d 157 [.ref 56, .int 0, .int (1 + a1)] S1 P2 ∧ ∀ (S2 : x_M), P2 S2 → (Q (some (.int 1)) S2))))) : x_E xs (d + 1) 156 0 [.ref 56, .int a1] [] S Q := by
  refine e_iload f_156_0 rfl ?_
  refine e_i2l f_156_1 ?_
  refine e_lconst (c := 0) f_156_2 (by decide) ?_
  refine e_lconst (c := 1) f_156_3 (by decide) ?_
  obtain ⟨P1, hP1, hV⟩ := hV
  refine e_si (n := 3) (A := [.long (Int32.toInt64 a1), .long 0, .long 1]) (R := []) f_156_4 na_101 rfl rfl (Nat.le_of_ble_eq_true rfl) (Nat.le_of_ble_eq_true rfl) (by rw [ml_101]; exact Nat.le_of_ble_eq_true rfl) hP1 (fun v1 S1 hp1 => ?_)
  have hV := hV v1 S1 hp1
  refine e_if f_156_7 (fun hc => ?_) (fun hc => ?_)
  · have hc := x_cct_ne hc
    rw [if_neg hc] at hV
    refine e_aload f_156_13 rfl (by decide) ?_
    refine e_gr (c := 6) (j := 0) (r := 57) f_156_14 (by decide) (by decide) (by decide) (by decide) ?_
    refine e_iconst (c := 0) f_156_17 (by decide) ?_
    refine e_iak (n := 99) (kk := 0) f_156_18 (by decide) (by decide) (by decide) ?_
    refine e_if f_156_19 (fun hc => ?_) (fun hc => ?_)
    · have hc := x_cct_ne hc
      rw [if_neg hc] at hV
      refine e_aload f_156_25 rfl (by decide) ?_
      refine e_iconst (c := 0) f_156_26 (by decide) ?_
      refine e_iconst (c := 1) f_156_27 (by decide) ?_
      refine e_iload f_156_28 rfl ?_
      refine e_iadd f_156_29 ?_
      obtain ⟨P2, hP2, hV⟩ := hV
      refine e_vv (n := 3) (A := [.ref 56, .int 0, .int (1 + a1)]) (R := []) f_156_30 na_157 rfl rfl (Nat.le_of_ble_eq_true rfl) (Nat.le_of_ble_eq_true rfl) (by rw [ml_157]; exact Nat.le_of_ble_eq_true rfl) rfl (by rw [cy_157]; decide) (by rw [cy_157]; exact (by decide : x_tg 56 = 6)) hP2 (fun S2 hp2 => ?_)
      have hV := hV S2 hp2
      refine e_iconst (c := 1) f_156_33 (by decide) ?_
      exact e_ireturn f_156_34 rt_156 rfl hV
    · have hc := x_ccf_ne hc
      rw [if_pos hc] at hV
      refine e_iconst (c := (-1000002)) f_156_22 (by decide) ?_
      exact e_ireturn f_156_24 rt_156 rfl hV
  · have hc := x_ccf_ne hc
    rw [if_pos hc] at hV
    refine e_iconst (c := (-1000001)) f_156_10 (by decide) ?_
    exact e_ireturn f_156_12 rt_156 rfl hV
set_option maxRecDepth 20000 in
theorem T_157_0 {xs : List Int32} {d : Nat} {S : x_M} {Q : Option Value → x_M → Prop} {a1 : Int32} {a2 : Int32}  (hV : x_E xs (d + 1) 157 2 [.ref 56, .int a1, .int a2, .int 0] [] S Q) : x_E xs (d + 1) 157 0 [.ref 56, .int a1, .int a2, .null] [] S Q := by
  refine e_iconst (c := 0) f_157_0 (by decide) ?_
  refine e_istore (L' := [.ref 56, .int a1, .int a2, .int 0]) f_157_1 (Nat.le_of_ble_eq_true rfl) rfl ?_
  exact hV
set_option maxRecDepth 20000 in
theorem T_157_2 {xs : List Int32} {d : Nat} {S : x_M} {Q : Option Value → x_M → Prop} {a1 : Int32} {a2 : Int32} {a3 : Int32}  (hV : if (33 : Int32) ≤ a3 then (Q none S) else ((x_ib ((33 * a1) + a3) 99) ∧ ((x_ib ((33 * a2) + a3) 99) ∧ (∀ S1 : x_M, S1 = x_up S 57 (Int32.toNatClampNeg ((33 * a2) + a3)) (S 57 (Int32.toNatClampNeg ((33 * a1) + a3))) → (x_E xs (d + 1) 157 2 [.ref 56, .int a1, .int a2, .int (a3 + 1)] [] S1 Q))))) : x_E xs (d + 1) 157 2 [.ref 56, .int a1, .int a2, .int a3] [] S Q := by
  refine e_iload f_157_2 rfl ?_
  refine e_iconst (c := 33) f_157_3 (by decide) ?_
  refine e_icmp f_157_5 (fun hc => ?_) (fun hc => ?_)
  · have hc := x_cct_ge hc
    rw [if_pos hc] at hV
    exact e_return f_157_36 rt_157 hV
  · have hc := x_ccf_ge hc
    rw [if_neg hc] at hV
    refine e_aload f_157_8 rfl (by decide) ?_
    refine e_gr (c := 6) (j := 0) (r := 57) f_157_9 (by decide) (by decide) (by decide) (by decide) ?_
    refine e_iconst (c := 33) f_157_12 (by decide) ?_
    refine e_iload f_157_14 rfl ?_
    refine e_imul f_157_15 ?_
    refine e_iload f_157_16 rfl ?_
    refine e_iadd f_157_17 ?_
    refine e_aload f_157_18 rfl (by decide) ?_
    refine e_gr (c := 6) (j := 0) (r := 57) f_157_19 (by decide) (by decide) (by decide) (by decide) ?_
    refine e_iconst (c := 33) f_157_22 (by decide) ?_
    refine e_iload f_157_24 rfl ?_
    refine e_imul f_157_25 ?_
    refine e_iload f_157_26 rfl ?_
    refine e_iadd f_157_27 ?_
    obtain ⟨hg, hV⟩ := hV
    refine e_ia (n := 99) f_157_28 (by decide) (by decide) hg ?_
    obtain ⟨hg, hV⟩ := hV
    refine e_isn (n := 99) f_157_29 (by decide) (by decide) hg (fun S1 hS1 => ?_)
    have hV := hV S1 hS1
    refine e_inc (c := 1) (L' := [.ref 56, .int a1, .int a2, .int (a3 + 1)]) f_157_30 rfl (by decide) rfl ?_
    refine e_goto f_157_33 ?_
    exact hV
set_option maxRecDepth 20000 in
theorem T_158_0 {xs : List Int32} {d : Nat} {S : x_M} {Q : Option Value → x_M → Prop} {a1 : Int32}  (hV : ∃ P1 : Int32 → x_M → Prop, x_Ci xs d 101 [.long (Int32.toInt64 a1), .long 0, .long 1] S P1 ∧ ∀ (v1 : Int32) (S1 : x_M), P1 v1 S1 → (if v1 = 0 then (Q (some (.int (-1000001))) S1) else ((x_ib ((33 * (1 + a1)) + 0) 99) ∧ (if (S1 57 (Int32.toNatClampNeg ((33 * (1 + a1)) + 0))) = 0 then (Q (some (.int (-1000002))) S1) else (∃ P2 : x_M → Prop, x_Cv xs d 157 [.ref 56, .int (1 + a1), .int 0] S1 P2 ∧ ∀ (S2 : x_M), P2 S2 → (∃ P3 : x_M → Prop, x_Cv xs d 120 [.ref 56] S2 P3 ∧ ∀ (S3 : x_M), P3 S3 → (Q (some (.int 1)) S3))))))) : x_E xs (d + 1) 158 0 [.ref 56, .int a1] [] S Q := by
  refine e_iload f_158_0 rfl ?_
  refine e_i2l f_158_1 ?_
  refine e_lconst (c := 0) f_158_2 (by decide) ?_
  refine e_lconst (c := 1) f_158_3 (by decide) ?_
  obtain ⟨P1, hP1, hV⟩ := hV
  refine e_si (n := 3) (A := [.long (Int32.toInt64 a1), .long 0, .long 1]) (R := []) f_158_4 na_101 rfl rfl (Nat.le_of_ble_eq_true rfl) (Nat.le_of_ble_eq_true rfl) (by rw [ml_101]; exact Nat.le_of_ble_eq_true rfl) hP1 (fun v1 S1 hp1 => ?_)
  have hV := hV v1 S1 hp1
  refine e_if f_158_7 (fun hc => ?_) (fun hc => ?_)
  · have hc := x_cct_ne hc
    rw [if_neg hc] at hV
    refine e_aload f_158_13 rfl (by decide) ?_
    refine e_gr (c := 6) (j := 0) (r := 57) f_158_14 (by decide) (by decide) (by decide) (by decide) ?_
    refine e_iconst (c := 33) f_158_17 (by decide) ?_
    refine e_iconst (c := 1) f_158_19 (by decide) ?_
    refine e_iload f_158_20 rfl ?_
    refine e_iadd f_158_21 ?_
    refine e_imul f_158_22 ?_
    refine e_iconst (c := 0) f_158_23 (by decide) ?_
    refine e_iadd f_158_24 ?_
    obtain ⟨hg, hV⟩ := hV
    refine e_ia (n := 99) f_158_25 (by decide) (by decide) hg ?_
    refine e_if f_158_26 (fun hc => ?_) (fun hc => ?_)
    · have hc := x_cct_ne hc
      rw [if_neg hc] at hV
      refine e_aload f_158_32 rfl (by decide) ?_
      refine e_iconst (c := 1) f_158_33 (by decide) ?_
      refine e_iload f_158_34 rfl ?_
      refine e_iadd f_158_35 ?_
      refine e_iconst (c := 0) f_158_36 (by decide) ?_
      obtain ⟨P2, hP2, hV⟩ := hV
      refine e_vv (n := 3) (A := [.ref 56, .int (1 + a1), .int 0]) (R := []) f_158_37 na_157 rfl rfl (Nat.le_of_ble_eq_true rfl) (Nat.le_of_ble_eq_true rfl) (by rw [ml_157]; exact Nat.le_of_ble_eq_true rfl) rfl (by rw [cy_157]; decide) (by rw [cy_157]; exact (by decide : x_tg 56 = 6)) hP2 (fun S2 hp2 => ?_)
      have hV := hV S2 hp2
      refine e_aload f_158_40 rfl (by decide) ?_
      obtain ⟨P3, hP3, hV⟩ := hV
      refine e_vv (n := 1) (A := [.ref 56]) (R := []) f_158_41 na_120 rfl rfl (Nat.le_of_ble_eq_true rfl) (Nat.le_of_ble_eq_true rfl) (by rw [ml_120]; exact Nat.le_of_ble_eq_true rfl) rfl (by rw [cy_120]; decide) (by rw [cy_120]; exact (by decide : x_tg 56 = 6)) hP3 (fun S3 hp3 => ?_)
      have hV := hV S3 hp3
      refine e_iconst (c := 1) f_158_44 (by decide) ?_
      exact e_ireturn f_158_45 rt_158 rfl hV
    · have hc := x_ccf_ne hc
      rw [if_pos hc] at hV
      refine e_iconst (c := (-1000002)) f_158_29 (by decide) ?_
      exact e_ireturn f_158_31 rt_158 rfl hV
  · have hc := x_ccf_ne hc
    rw [if_pos hc] at hV
    refine e_iconst (c := (-1000001)) f_158_10 (by decide) ?_
    exact e_ireturn f_158_12 rt_158 rfl hV
set_option maxRecDepth 20000 in
theorem T_159_0 {xs : List Int32} {d : Nat} {S : x_M} {Q : Option Value → x_M → Prop} {a1 : Int32}  (hV : ∃ P1 : Int32 → x_M → Prop, x_Ci xs d 125 [.ref 56, .int a1] S P1 ∧ ∀ (v1 : Int32) (S1 : x_M), P1 v1 S1 → (if v1 = 0 then (Q (some (.int (-1000001))) S1) else (∃ P2 : Int32 → x_M → Prop, x_Ci xs d 160 [.ref 56, .int a1] S1 P2 ∧ ∀ (v2 : Int32) (S2 : x_M), P2 v2 S2 → (Q (some (.int v2)) S2)))) : x_E xs (d + 1) 159 0 [.ref 56, .int a1] [] S Q := by
  refine e_aload f_159_0 rfl (by decide) ?_
  refine e_iload f_159_1 rfl ?_
  obtain ⟨P1, hP1, hV⟩ := hV
  refine e_vi (n := 2) (A := [.ref 56, .int a1]) (R := []) f_159_2 na_125 rfl rfl (Nat.le_of_ble_eq_true rfl) (Nat.le_of_ble_eq_true rfl) (by rw [ml_125]; exact Nat.le_of_ble_eq_true rfl) rfl (by rw [cy_125]; decide) (by rw [cy_125]; exact (by decide : x_tg 56 = 6)) hP1 (fun v1 S1 hp1 => ?_)
  have hV := hV v1 S1 hp1
  refine e_if f_159_5 (fun hc => ?_) (fun hc => ?_)
  · have hc := x_cct_eq hc
    rw [if_pos hc] at hV
    refine e_iconst (c := (-1000001)) f_159_16 (by decide) ?_
    exact e_ireturn f_159_18 rt_159 rfl hV
  · have hc := x_ccf_eq hc
    rw [if_neg hc] at hV
    refine e_aload f_159_8 rfl (by decide) ?_
    refine e_iload f_159_9 rfl ?_
    obtain ⟨P2, hP2, hV⟩ := hV
    refine e_vi (n := 2) (A := [.ref 56, .int a1]) (R := []) f_159_10 na_160 rfl rfl (Nat.le_of_ble_eq_true rfl) (Nat.le_of_ble_eq_true rfl) (by rw [ml_160]; exact Nat.le_of_ble_eq_true rfl) rfl (by rw [cy_160]; decide) (by rw [cy_160]; exact (by decide : x_tg 56 = 6)) hP2 (fun v2 S2 hp2 => ?_)
    have hV := hV v2 S2 hp2
    refine e_goto f_159_13 ?_
    exact e_ireturn f_159_18 rt_159 rfl hV
set_option maxRecDepth 20000 in
theorem T_160_0 {xs : List Int32} {d : Nat} {S : x_M} {Q : Option Value → x_M → Prop} {a1 : Int32}  (hV : (x_ib (2 + a1) 99) ∧ (∃ P1 : Int32 → x_M → Prop, x_Ci xs d 136 [.int (S 57 (Int32.toNatClampNeg (2 + a1)))] S P1 ∧ ∀ (v1 : Int32) (S1 : x_M), P1 v1 S1 → (∃ P2 : Int32 → x_M → Prop, x_Ci xs d 151 [.ref 56, .int a1] S1 P2 ∧ ∀ (v2 : Int32) (S2 : x_M), P2 v2 S2 → (if v2 = 1 then (x_E xs (d + 1) 160 26 [.ref 56, .int a1, .int v1, .null] [.int 1] S2 Q) else (x_E xs (d + 1) 160 26 [.ref 56, .int a1, .int v1, .null] [.int 0] S2 Q))))) : x_E xs (d + 1) 160 0 [.ref 56, .int a1, .null, .null] [] S Q := by
  refine e_aload f_160_0 rfl (by decide) ?_
  refine e_gr (c := 6) (j := 0) (r := 57) f_160_1 (by decide) (by decide) (by decide) (by decide) ?_
  refine e_iconst (c := 2) f_160_4 (by decide) ?_
  refine e_iload f_160_5 rfl ?_
  refine e_iadd f_160_6 ?_
  obtain ⟨hg, hV⟩ := hV
  refine e_ia (n := 99) f_160_7 (by decide) (by decide) hg ?_
  obtain ⟨P1, hP1, hV⟩ := hV
  refine e_si (n := 1) (A := [.int (S 57 (Int32.toNatClampNeg (2 + a1)))]) (R := []) f_160_8 na_136 rfl rfl (Nat.le_of_ble_eq_true rfl) (Nat.le_of_ble_eq_true rfl) (by rw [ml_136]; exact Nat.le_of_ble_eq_true rfl) hP1 (fun v1 S1 hp1 => ?_)
  have hV := hV v1 S1 hp1
  refine e_istore (L' := [.ref 56, .int a1, .int v1, .null]) f_160_11 (Nat.le_of_ble_eq_true rfl) rfl ?_
  refine e_aload f_160_12 rfl (by decide) ?_
  refine e_iload f_160_13 rfl ?_
  obtain ⟨P2, hP2, hV⟩ := hV
  refine e_vi (n := 2) (A := [.ref 56, .int a1]) (R := []) f_160_14 na_151 rfl rfl (Nat.le_of_ble_eq_true rfl) (Nat.le_of_ble_eq_true rfl) (by rw [ml_151]; exact Nat.le_of_ble_eq_true rfl) rfl (by rw [cy_151]; decide) (by rw [cy_151]; exact (by decide : x_tg 56 = 6)) hP2 (fun v2 S2 hp2 => ?_)
  have hV := hV v2 S2 hp2
  refine e_iconst (c := 1) f_160_17 (by decide) ?_
  refine e_icmp f_160_18 (fun hc => ?_) (fun hc => ?_)
  · have hc := x_cct_ne hc
    rw [if_neg hc] at hV
    refine e_iconst (c := 0) f_160_25 (by decide) ?_
    exact hV
  · have hc := x_ccf_ne hc
    rw [if_pos hc] at hV
    refine e_iconst (c := 1) f_160_21 (by decide) ?_
    refine e_goto f_160_22 ?_
    exact hV
set_option maxRecDepth 20000 in
theorem T_160_26 {xs : List Int32} {d : Nat} {S : x_M} {Q : Option Value → x_M → Prop} {a1 : Int32} {a2 : Int32} {s0 : Int32}  (hV : if a2 = 0 then (Q (some (.int 2)) S) else (if s0 = 0 then (if s0 = 0 then (if a2 ≤ 5 then (Q (some (.int 1)) S) else (Q (some (.int 4)) S)) else (Q (some (.int 3)) S)) else (if a2 ≤ 5 then (if s0 = 0 then (if a2 ≤ 5 then (Q (some (.int 1)) S) else (Q (some (.int 4)) S)) else (Q (some (.int 3)) S)) else (Q (some (.int 5)) S)))) : x_E xs (d + 1) 160 26 [.ref 56, .int a1, .int a2, .null] [.int s0] S Q := by
  refine e_istore (L' := [.ref 56, .int a1, .int a2, .int s0]) f_160_26 (Nat.le_of_ble_eq_true rfl) rfl ?_
  refine e_iload f_160_27 rfl ?_
  refine e_if f_160_28 (fun hc => ?_) (fun hc => ?_)
  · have hc := x_cct_ne hc
    rw [if_neg hc] at hV
    refine e_iload f_160_35 rfl ?_
    refine e_if f_160_36 (fun hc => ?_) (fun hc => ?_)
    · have hc := x_cct_eq hc
      rw [if_pos hc] at hV
      refine e_iload f_160_48 rfl ?_
      refine e_if f_160_49 (fun hc => ?_) (fun hc => ?_)
      · have hc := x_cct_eq hc
        rw [if_pos hc] at hV
        refine e_iload f_160_56 rfl ?_
        refine e_iconst (c := 5) f_160_57 (by decide) ?_
        refine e_icmp f_160_58 (fun hc => ?_) (fun hc => ?_)
        · have hc := x_cct_le hc
          rw [if_pos hc] at hV
          refine e_iconst (c := 1) f_160_65 (by decide) ?_
          exact e_ireturn f_160_66 rt_160 rfl hV
        · have hc := x_ccf_le hc
          rw [if_neg hc] at hV
          refine e_iconst (c := 4) f_160_61 (by decide) ?_
          refine e_goto f_160_62 ?_
          exact e_ireturn f_160_66 rt_160 rfl hV
      · have hc := x_ccf_eq hc
        rw [if_neg hc] at hV
        refine e_iconst (c := 3) f_160_52 (by decide) ?_
        refine e_goto f_160_53 ?_
        exact e_ireturn f_160_66 rt_160 rfl hV
    · have hc := x_ccf_eq hc
      rw [if_neg hc] at hV
      refine e_iload f_160_39 rfl ?_
      refine e_iconst (c := 5) f_160_40 (by decide) ?_
      refine e_icmp f_160_41 (fun hc => ?_) (fun hc => ?_)
      · have hc := x_cct_le hc
        rw [if_pos hc] at hV
        refine e_iload f_160_48 rfl ?_
        refine e_if f_160_49 (fun hc => ?_) (fun hc => ?_)
        · have hc := x_cct_eq hc
          rw [if_pos hc] at hV
          refine e_iload f_160_56 rfl ?_
          refine e_iconst (c := 5) f_160_57 (by decide) ?_
          refine e_icmp f_160_58 (fun hc => ?_) (fun hc => ?_)
          · have hc := x_cct_le hc
            rw [if_pos hc] at hV
            refine e_iconst (c := 1) f_160_65 (by decide) ?_
            exact e_ireturn f_160_66 rt_160 rfl hV
          · have hc := x_ccf_le hc
            rw [if_neg hc] at hV
            refine e_iconst (c := 4) f_160_61 (by decide) ?_
            refine e_goto f_160_62 ?_
            exact e_ireturn f_160_66 rt_160 rfl hV
        · have hc := x_ccf_eq hc
          rw [if_neg hc] at hV
          refine e_iconst (c := 3) f_160_52 (by decide) ?_
          refine e_goto f_160_53 ?_
          exact e_ireturn f_160_66 rt_160 rfl hV
      · have hc := x_ccf_le hc
        rw [if_neg hc] at hV
        refine e_iconst (c := 5) f_160_44 (by decide) ?_
        refine e_goto f_160_45 ?_
        exact e_ireturn f_160_66 rt_160 rfl hV
  · have hc := x_ccf_ne hc
    rw [if_pos hc] at hV
    refine e_iconst (c := 2) f_160_31 (by decide) ?_
    refine e_goto f_160_32 ?_
    exact e_ireturn f_160_66 rt_160 rfl hV
set_option maxRecDepth 20000 in
theorem T_161_0 {xs : List Int32} {d : Nat} {S : x_M} {Q : Option Value → x_M → Prop} {a1 : Int32} {a2 : Int32}  (hV : ∃ P1 : Int32 → x_M → Prop, x_Ci xs d 125 [.ref 56, .int a1] S P1 ∧ ∀ (v1 : Int32) (S1 : x_M), P1 v1 S1 → (if v1 = 0 then (Q (some (.int (-1000001))) S1) else (∃ P2 : Int32 → x_M → Prop, x_Ci xs d 101 [.long (Int32.toInt64 a2), .long 0, .long 5] S1 P2 ∧ ∀ (v2 : Int32) (S2 : x_M), P2 v2 S2 → (if v2 = 0 then (Q (some (.int (-1000001))) S2) else (∃ P3 : Int32 → x_M → Prop, x_Ci xs d 160 [.ref 56, .int a1] S2 P3 ∧ ∀ (v3 : Int32) (S3 : x_M), P3 v3 S3 → (if a2 = 0 then (∃ P4 : Int32 → x_M → Prop, x_Ci xs d 103 [.ref 56, .int a1] S3 P4 ∧ ∀ (v4 : Int32) (S4 : x_M), P4 v4 S4 → (Q (some (.int v4)) S4)) else (if a2 = v3 then (∃ P5 : Int32 → x_M → Prop, x_Ci xs d 103 [.ref 56, .int a1] S3 P5 ∧ ∀ (v5 : Int32) (S5 : x_M), P5 v5 S5 → (Q (some (.int v5)) S5)) else (if a2 = 1 then (if v3 = 2 then (x_E xs (d + 1) 161 48 [.ref 56, .int a1, .int a2, .int v3, .null] [] S3 Q) else (∃ P6 : Int32 → x_M → Prop, x_Ci xs d 103 [.ref 56, .int a1] S3 P6 ∧ ∀ (v6 : Int32) (S6 : x_M), P6 v6 S6 → (Q (some (.int v6)) S6))) else (x_E xs (d + 1) 161 48 [.ref 56, .int a1, .int a2, .int v3, .null] [] S3 Q))))))))) : x_E xs (d + 1) 161 0 [.ref 56, .int a1, .int a2, .null, .null] [] S Q := by
  refine e_aload f_161_0 rfl (by decide) ?_
  refine e_iload f_161_1 rfl ?_
  obtain ⟨P1, hP1, hV⟩ := hV
  refine e_vi (n := 2) (A := [.ref 56, .int a1]) (R := []) f_161_2 na_125 rfl rfl (Nat.le_of_ble_eq_true rfl) (Nat.le_of_ble_eq_true rfl) (by rw [ml_125]; exact Nat.le_of_ble_eq_true rfl) rfl (by rw [cy_125]; decide) (by rw [cy_125]; exact (by decide : x_tg 56 = 6)) hP1 (fun v1 S1 hp1 => ?_)
  have hV := hV v1 S1 hp1
  refine e_if f_161_5 (fun hc => ?_) (fun hc => ?_)
  · have hc := x_cct_eq hc
    rw [if_pos hc] at hV
    refine e_iconst (c := (-1000001)) f_161_20 (by decide) ?_
    exact e_ireturn f_161_22 rt_161 rfl hV
  · have hc := x_ccf_eq hc
    rw [if_neg hc] at hV
    refine e_iload f_161_8 rfl ?_
    refine e_i2l f_161_9 ?_
    refine e_lconst (c := 0) f_161_10 (by decide) ?_
    refine e_lconst (c := 5) f_161_11 (by decide) ?_
    obtain ⟨P2, hP2, hV⟩ := hV
    refine e_si (n := 3) (A := [.long (Int32.toInt64 a2), .long 0, .long 5]) (R := []) f_161_14 na_101 rfl rfl (Nat.le_of_ble_eq_true rfl) (Nat.le_of_ble_eq_true rfl) (by rw [ml_101]; exact Nat.le_of_ble_eq_true rfl) hP2 (fun v2 S2 hp2 => ?_)
    have hV := hV v2 S2 hp2
    refine e_if f_161_17 (fun hc => ?_) (fun hc => ?_)
    · have hc := x_cct_ne hc
      rw [if_neg hc] at hV
      refine e_aload f_161_23 rfl (by decide) ?_
      refine e_iload f_161_24 rfl ?_
      obtain ⟨P3, hP3, hV⟩ := hV
      refine e_vi (n := 2) (A := [.ref 56, .int a1]) (R := []) f_161_25 na_160 rfl rfl (Nat.le_of_ble_eq_true rfl) (Nat.le_of_ble_eq_true rfl) (by rw [ml_160]; exact Nat.le_of_ble_eq_true rfl) rfl (by rw [cy_160]; decide) (by rw [cy_160]; exact (by decide : x_tg 56 = 6)) hP3 (fun v3 S3 hp3 => ?_)
      have hV := hV v3 S3 hp3
      refine e_istore (L' := [.ref 56, .int a1, .int a2, .int v3, .null]) f_161_28 (Nat.le_of_ble_eq_true rfl) rfl ?_
      refine e_iload f_161_29 rfl ?_
      refine e_if f_161_30 (fun hc => ?_) (fun hc => ?_)
      · have hc := x_cct_eq hc
        rw [if_pos hc] at hV
        refine e_iconst (c := 1) f_161_58 (by decide) ?_
        refine e_goto f_161_59 ?_
        refine e_istore (L' := [.ref 56, .int a1, .int a2, .int v3, .int 1]) f_161_63 (Nat.le_of_ble_eq_true rfl) rfl ?_
        refine e_iload f_161_65 rfl ?_
        refine e_if f_161_67 (fun hc => absurd hc (by decide)) (fun hc => ?_)
        refine e_aload f_161_70 rfl (by decide) ?_
        refine e_iload f_161_71 rfl ?_
        obtain ⟨P4, hP4, hV⟩ := hV
        refine e_vi (n := 2) (A := [.ref 56, .int a1]) (R := []) f_161_72 na_103 rfl rfl (Nat.le_of_ble_eq_true rfl) (Nat.le_of_ble_eq_true rfl) (by rw [ml_103]; exact Nat.le_of_ble_eq_true rfl) rfl (by rw [cy_103]; decide) (by rw [cy_103]; exact (by decide : x_tg 56 = 6)) hP4 (fun v4 S4 hp4 => ?_)
        have hV := hV v4 S4 hp4
        refine e_goto f_161_75 ?_
        exact e_ireturn f_161_83 rt_161 rfl hV
      · have hc := x_ccf_eq hc
        rw [if_neg hc] at hV
        refine e_iload f_161_33 rfl ?_
        refine e_iload f_161_34 rfl ?_
        refine e_icmp f_161_35 (fun hc => ?_) (fun hc => ?_)
        · have hc := x_cct_eq hc
          rw [if_pos hc] at hV
          refine e_iconst (c := 1) f_161_58 (by decide) ?_
          refine e_goto f_161_59 ?_
          refine e_istore (L' := [.ref 56, .int a1, .int a2, .int v3, .int 1]) f_161_63 (Nat.le_of_ble_eq_true rfl) rfl ?_
          refine e_iload f_161_65 rfl ?_
          refine e_if f_161_67 (fun hc => absurd hc (by decide)) (fun hc => ?_)
          refine e_aload f_161_70 rfl (by decide) ?_
          refine e_iload f_161_71 rfl ?_
          obtain ⟨P5, hP5, hV⟩ := hV
          refine e_vi (n := 2) (A := [.ref 56, .int a1]) (R := []) f_161_72 na_103 rfl rfl (Nat.le_of_ble_eq_true rfl) (Nat.le_of_ble_eq_true rfl) (by rw [ml_103]; exact Nat.le_of_ble_eq_true rfl) rfl (by rw [cy_103]; decide) (by rw [cy_103]; exact (by decide : x_tg 56 = 6)) hP5 (fun v5 S5 hp5 => ?_)
          have hV := hV v5 S5 hp5
          refine e_goto f_161_75 ?_
          exact e_ireturn f_161_83 rt_161 rfl hV
        · have hc := x_ccf_eq hc
          rw [if_neg hc] at hV
          refine e_iload f_161_38 rfl ?_
          refine e_iconst (c := 1) f_161_39 (by decide) ?_
          refine e_icmp f_161_40 (fun hc => ?_) (fun hc => ?_)
          · have hc := x_cct_ne hc
            rw [if_neg hc] at hV
            exact hV
          · have hc := x_ccf_ne hc
            rw [if_pos hc] at hV
            refine e_iload f_161_43 rfl ?_
            refine e_iconst (c := 2) f_161_44 (by decide) ?_
            refine e_icmp f_161_45 (fun hc => ?_) (fun hc => ?_)
            · have hc := x_cct_ne hc
              rw [if_neg hc] at hV
              refine e_iconst (c := 1) f_161_58 (by decide) ?_
              refine e_goto f_161_59 ?_
              refine e_istore (L' := [.ref 56, .int a1, .int a2, .int v3, .int 1]) f_161_63 (Nat.le_of_ble_eq_true rfl) rfl ?_
              refine e_iload f_161_65 rfl ?_
              refine e_if f_161_67 (fun hc => absurd hc (by decide)) (fun hc => ?_)
              refine e_aload f_161_70 rfl (by decide) ?_
              refine e_iload f_161_71 rfl ?_
              obtain ⟨P6, hP6, hV⟩ := hV
              refine e_vi (n := 2) (A := [.ref 56, .int a1]) (R := []) f_161_72 na_103 rfl rfl (Nat.le_of_ble_eq_true rfl) (Nat.le_of_ble_eq_true rfl) (by rw [ml_103]; exact Nat.le_of_ble_eq_true rfl) rfl (by rw [cy_103]; decide) (by rw [cy_103]; exact (by decide : x_tg 56 = 6)) hP6 (fun v6 S6 hp6 => ?_)
              have hV := hV v6 S6 hp6
              refine e_goto f_161_75 ?_
              exact e_ireturn f_161_83 rt_161 rfl hV
            · have hc := x_ccf_ne hc
              rw [if_pos hc] at hV
              exact hV
    · have hc := x_ccf_ne hc
      rw [if_pos hc] at hV
      refine e_iconst (c := (-1000001)) f_161_20 (by decide) ?_
      exact e_ireturn f_161_22 rt_161 rfl hV
set_option maxRecDepth 20000 in
theorem T_161_48 {xs : List Int32} {d : Nat} {S : x_M} {Q : Option Value → x_M → Prop} {a1 : Int32} {a2 : Int32} {a3 : Int32}  (hV : if a2 = 3 then (if a3 = 5 then (∃ P3 : Int32 → x_M → Prop, x_Ci xs d 103 [.ref 56, .int a1] S P3 ∧ ∀ (v3 : Int32) (S3 : x_M), P3 v3 S3 → (Q (some (.int v3)) S3)) else (∃ P2 : Int32 → x_M → Prop, x_Ci xs d 102 [.ref 56, .int 3] S P2 ∧ ∀ (v2 : Int32) (S2 : x_M), P2 v2 S2 → (Q (some (.int v2)) S2))) else (∃ P1 : Int32 → x_M → Prop, x_Ci xs d 102 [.ref 56, .int 3] S P1 ∧ ∀ (v1 : Int32) (S1 : x_M), P1 v1 S1 → (Q (some (.int v1)) S1))) : x_E xs (d + 1) 161 48 [.ref 56, .int a1, .int a2, .int a3, .null] [] S Q := by
  refine e_iload f_161_48 rfl ?_
  refine e_iconst (c := 3) f_161_49 (by decide) ?_
  refine e_icmp f_161_50 (fun hc => ?_) (fun hc => ?_)
  · have hc := x_cct_ne hc
    rw [if_neg hc] at hV
    refine e_iconst (c := 0) f_161_62 (by decide) ?_
    refine e_istore (L' := [.ref 56, .int a1, .int a2, .int a3, .int 0]) f_161_63 (Nat.le_of_ble_eq_true rfl) rfl ?_
    refine e_iload f_161_65 rfl ?_
    refine e_if f_161_67 (fun hc => ?_) (fun hc => absurd (by decide) hc)
    refine e_aload f_161_78 rfl (by decide) ?_
    refine e_iconst (c := 3) f_161_79 (by decide) ?_
    obtain ⟨P1, hP1, hV⟩ := hV
    refine e_vi (n := 2) (A := [.ref 56, .int 3]) (R := []) f_161_80 na_102 rfl rfl (Nat.le_of_ble_eq_true rfl) (Nat.le_of_ble_eq_true rfl) (by rw [ml_102]; exact Nat.le_of_ble_eq_true rfl) rfl (by rw [cy_102]; decide) (by rw [cy_102]; exact (by decide : x_tg 56 = 6)) hP1 (fun v1 S1 hp1 => ?_)
    have hV := hV v1 S1 hp1
    exact e_ireturn f_161_83 rt_161 rfl hV
  · have hc := x_ccf_ne hc
    rw [if_pos hc] at hV
    refine e_iload f_161_53 rfl ?_
    refine e_iconst (c := 5) f_161_54 (by decide) ?_
    refine e_icmp f_161_55 (fun hc => ?_) (fun hc => ?_)
    · have hc := x_cct_ne hc
      rw [if_neg hc] at hV
      refine e_iconst (c := 0) f_161_62 (by decide) ?_
      refine e_istore (L' := [.ref 56, .int a1, .int a2, .int a3, .int 0]) f_161_63 (Nat.le_of_ble_eq_true rfl) rfl ?_
      refine e_iload f_161_65 rfl ?_
      refine e_if f_161_67 (fun hc => ?_) (fun hc => absurd (by decide) hc)
      refine e_aload f_161_78 rfl (by decide) ?_
      refine e_iconst (c := 3) f_161_79 (by decide) ?_
      obtain ⟨P2, hP2, hV⟩ := hV
      refine e_vi (n := 2) (A := [.ref 56, .int 3]) (R := []) f_161_80 na_102 rfl rfl (Nat.le_of_ble_eq_true rfl) (Nat.le_of_ble_eq_true rfl) (by rw [ml_102]; exact Nat.le_of_ble_eq_true rfl) rfl (by rw [cy_102]; decide) (by rw [cy_102]; exact (by decide : x_tg 56 = 6)) hP2 (fun v2 S2 hp2 => ?_)
      have hV := hV v2 S2 hp2
      exact e_ireturn f_161_83 rt_161 rfl hV
    · have hc := x_ccf_ne hc
      rw [if_pos hc] at hV
      refine e_iconst (c := 1) f_161_58 (by decide) ?_
      refine e_goto f_161_59 ?_
      refine e_istore (L' := [.ref 56, .int a1, .int a2, .int a3, .int 1]) f_161_63 (Nat.le_of_ble_eq_true rfl) rfl ?_
      refine e_iload f_161_65 rfl ?_
      refine e_if f_161_67 (fun hc => absurd hc (by decide)) (fun hc => ?_)
      refine e_aload f_161_70 rfl (by decide) ?_
      refine e_iload f_161_71 rfl ?_
      obtain ⟨P3, hP3, hV⟩ := hV
      refine e_vi (n := 2) (A := [.ref 56, .int a1]) (R := []) f_161_72 na_103 rfl rfl (Nat.le_of_ble_eq_true rfl) (Nat.le_of_ble_eq_true rfl) (by rw [ml_103]; exact Nat.le_of_ble_eq_true rfl) rfl (by rw [cy_103]; decide) (by rw [cy_103]; exact (by decide : x_tg 56 = 6)) hP3 (fun v3 S3 hp3 => ?_)
      have hV := hV v3 S3 hp3
      refine e_goto f_161_75 ?_
      exact e_ireturn f_161_83 rt_161 rfl hV
set_option maxRecDepth 20000 in
theorem T_162_0 {xs : List Int32} {d : Nat} {S : x_M} {Q : Option Value → x_M → Prop} {a1 : Int32} {a2 : Int32}  (hV : ∃ P1 : Int32 → x_M → Prop, x_Ci xs d 125 [.ref 56, .int a1] S P1 ∧ ∀ (v1 : Int32) (S1 : x_M), P1 v1 S1 → (if v1 = 0 then (Q (some (.int (-1000001))) S1) else (∃ P2 : Int32 → x_M → Prop, x_Ci xs d 101 [.long (Int32.toInt64 a2), .long 0, .long 1] S1 P2 ∧ ∀ (v2 : Int32) (S2 : x_M), P2 v2 S2 → (if v2 = 0 then (Q (some (.int (-1000001))) S2) else (∀ S3 : x_M, S3 = x_up S2 56 9 0 → (if a2 = 0 then (∃ P5 : Int32 → x_M → Prop, x_Ci xs d 163 [.ref 56, .int a1] S3 P5 ∧ ∀ (v5 : Int32) (S5 : x_M), P5 v5 S5 → (Q (some (.int v5)) S5)) else (∃ P4 : Int32 → x_M → Prop, x_Ci xs d 167 [.ref 56, .int a1] S3 P4 ∧ ∀ (v4 : Int32) (S4 : x_M), P4 v4 S4 → (Q (some (.int v4)) S4)))))))) : x_E xs (d + 1) 162 0 [.ref 56, .int a1, .int a2] [] S Q := by
  refine e_aload f_162_0 rfl (by decide) ?_
  refine e_iload f_162_1 rfl ?_
  obtain ⟨P1, hP1, hV⟩ := hV
  refine e_vi (n := 2) (A := [.ref 56, .int a1]) (R := []) f_162_2 na_125 rfl rfl (Nat.le_of_ble_eq_true rfl) (Nat.le_of_ble_eq_true rfl) (by rw [ml_125]; exact Nat.le_of_ble_eq_true rfl) rfl (by rw [cy_125]; decide) (by rw [cy_125]; exact (by decide : x_tg 56 = 6)) hP1 (fun v1 S1 hp1 => ?_)
  have hV := hV v1 S1 hp1
  refine e_if f_162_5 (fun hc => ?_) (fun hc => ?_)
  · have hc := x_cct_eq hc
    rw [if_pos hc] at hV
    refine e_iconst (c := (-1000001)) f_162_18 (by decide) ?_
    exact e_ireturn f_162_20 rt_162 rfl hV
  · have hc := x_ccf_eq hc
    rw [if_neg hc] at hV
    refine e_iload f_162_8 rfl ?_
    refine e_i2l f_162_9 ?_
    refine e_lconst (c := 0) f_162_10 (by decide) ?_
    refine e_lconst (c := 1) f_162_11 (by decide) ?_
    obtain ⟨P2, hP2, hV⟩ := hV
    refine e_si (n := 3) (A := [.long (Int32.toInt64 a2), .long 0, .long 1]) (R := []) f_162_12 na_101 rfl rfl (Nat.le_of_ble_eq_true rfl) (Nat.le_of_ble_eq_true rfl) (by rw [ml_101]; exact Nat.le_of_ble_eq_true rfl) hP2 (fun v2 S2 hp2 => ?_)
    have hV := hV v2 S2 hp2
    refine e_if f_162_15 (fun hc => ?_) (fun hc => ?_)
    · have hc := x_cct_ne hc
      rw [if_neg hc] at hV
      refine e_aload f_162_21 rfl (by decide) ?_
      refine e_iconst (c := 0) f_162_22 (by decide) ?_
      refine e_pfn (c := 6) (j := 9) f_162_23 (by decide) (by decide) (by decide) (x_fit_i rfl) (fun S3 hS3 => ?_)
      have hV := hV S3 hS3
      refine e_iload f_162_26 rfl ?_
      refine e_if f_162_27 (fun hc => ?_) (fun hc => ?_)
      · have hc := x_cct_ne hc
        rw [if_neg hc] at hV
        refine e_aload f_162_38 rfl (by decide) ?_
        refine e_iload f_162_39 rfl ?_
        obtain ⟨P4, hP4, hV⟩ := hV
        refine e_vi (n := 2) (A := [.ref 56, .int a1]) (R := []) f_162_40 na_167 rfl rfl (Nat.le_of_ble_eq_true rfl) (Nat.le_of_ble_eq_true rfl) (by rw [ml_167]; exact Nat.le_of_ble_eq_true rfl) rfl (by rw [cy_167]; decide) (by rw [cy_167]; exact (by decide : x_tg 56 = 6)) hP4 (fun v4 S4 hp4 => ?_)
        have hV := hV v4 S4 hp4
        exact e_ireturn f_162_43 rt_162 rfl hV
      · have hc := x_ccf_ne hc
        rw [if_pos hc] at hV
        refine e_aload f_162_30 rfl (by decide) ?_
        refine e_iload f_162_31 rfl ?_
        obtain ⟨P5, hP5, hV⟩ := hV
        refine e_vi (n := 2) (A := [.ref 56, .int a1]) (R := []) f_162_32 na_163 rfl rfl (Nat.le_of_ble_eq_true rfl) (Nat.le_of_ble_eq_true rfl) (by rw [ml_163]; exact Nat.le_of_ble_eq_true rfl) rfl (by rw [cy_163]; decide) (by rw [cy_163]; exact (by decide : x_tg 56 = 6)) hP5 (fun v5 S5 hp5 => ?_)
        have hV := hV v5 S5 hp5
        refine e_goto f_162_35 ?_
        exact e_ireturn f_162_43 rt_162 rfl hV
    · have hc := x_ccf_ne hc
      rw [if_pos hc] at hV
      refine e_iconst (c := (-1000001)) f_162_18 (by decide) ?_
      exact e_ireturn f_162_20 rt_162 rfl hV
set_option maxRecDepth 20000 in
theorem T_163_0 {xs : List Int32} {d : Nat} {S : x_M} {Q : Option Value → x_M → Prop} {a1 : Int32}  (hV : ∃ P1 : Int32 → x_M → Prop, x_Ci xs d 160 [.ref 56, .int a1] S P1 ∧ ∀ (v1 : Int32) (S1 : x_M), P1 v1 S1 → (if v1 = 3 then (∃ P2 : x_M → Prop, x_Cv xs d 164 [.ref 56, .int 12] S1 P2 ∧ ∀ (S2 : x_M), P2 S2 → (∃ P3 : Int32 → x_M → Prop, x_Ci xs d 165 [.ref 56, .int a1] S2 P3 ∧ ∀ (v3 : Int32) (S3 : x_M), P3 v3 S3 → (Q (some (.int (2 * v3))) S3))) else (if v1 = 5 then (∃ P9 : x_M → Prop, x_Cv xs d 164 [.ref 56, .int 12] S1 P9 ∧ ∀ (S9 : x_M), P9 S9 → (∃ P10 : Int32 → x_M → Prop, x_Ci xs d 165 [.ref 56, .int a1] S9 P10 ∧ ∀ (v10 : Int32) (S10 : x_M), P10 v10 S10 → (Q (some (.int (2 * v10))) S10))) else (if v1 = 4 then (∃ P7 : x_M → Prop, x_Cv xs d 164 [.ref 56, .int 13] S1 P7 ∧ ∀ (S7 : x_M), P7 S7 → (∃ P8 : Int32 → x_M → Prop, x_Ci xs d 165 [.ref 56, .int a1] S7 P8 ∧ ∀ (v8 : Int32) (S8 : x_M), P8 v8 S8 → (Q (some (.int (-v8))) S8))) else (if v1 = 2 then (∃ P5 : x_M → Prop, x_Cv xs d 164 [.ref 56, .int 14] S1 P5 ∧ ∀ (S5 : x_M), P5 S5 → (∃ P6 : Int32 → x_M → Prop, x_Ci xs d 166 [.ref 56, .int a1] S5 P6 ∧ ∀ (v6 : Int32) (S6 : x_M), P6 v6 S6 → (Q (some (.int (v6 - 100))) S6))) else (∃ P4 : Int32 → x_M → Prop, x_Ci xs d 165 [.ref 56, .int a1] S1 P4 ∧ ∀ (v4 : Int32) (S4 : x_M), P4 v4 S4 → (Q (some (.int v4)) S4))))))) : x_E xs (d + 1) 163 0 [.ref 56, .int a1, .null] [] S Q := by
  refine e_aload f_163_0 rfl (by decide) ?_
  refine e_iload f_163_1 rfl ?_
  obtain ⟨P1, hP1, hV⟩ := hV
  refine e_vi (n := 2) (A := [.ref 56, .int a1]) (R := []) f_163_2 na_160 rfl rfl (Nat.le_of_ble_eq_true rfl) (Nat.le_of_ble_eq_true rfl) (by rw [ml_160]; exact Nat.le_of_ble_eq_true rfl) rfl (by rw [cy_160]; decide) (by rw [cy_160]; exact (by decide : x_tg 56 = 6)) hP1 (fun v1 S1 hp1 => ?_)
  have hV := hV v1 S1 hp1
  refine e_istore (L' := [.ref 56, .int a1, .int v1]) f_163_5 (Nat.le_of_ble_eq_true rfl) rfl ?_
  refine e_iload f_163_6 rfl ?_
  refine e_iconst (c := 3) f_163_7 (by decide) ?_
  refine e_icmp f_163_8 (fun hc => ?_) (fun hc => ?_)
  · have hc := x_cct_eq hc
    rw [if_pos hc] at hV
    refine e_aload f_163_16 rfl (by decide) ?_
    refine e_iconst (c := 12) f_163_17 (by decide) ?_
    obtain ⟨P2, hP2, hV⟩ := hV
    refine e_vv (n := 2) (A := [.ref 56, .int 12]) (R := []) f_163_19 na_164 rfl rfl (Nat.le_of_ble_eq_true rfl) (Nat.le_of_ble_eq_true rfl) (by rw [ml_164]; exact Nat.le_of_ble_eq_true rfl) rfl (by rw [cy_164]; decide) (by rw [cy_164]; exact (by decide : x_tg 56 = 6)) hP2 (fun S2 hp2 => ?_)
    have hV := hV S2 hp2
    refine e_iconst (c := 2) f_163_22 (by decide) ?_
    refine e_aload f_163_23 rfl (by decide) ?_
    refine e_iload f_163_24 rfl ?_
    obtain ⟨P3, hP3, hV⟩ := hV
    refine e_vi (n := 2) (A := [.ref 56, .int a1]) (R := [.int 2]) f_163_25 na_165 rfl rfl (Nat.le_of_ble_eq_true rfl) (Nat.le_of_ble_eq_true rfl) (by rw [ml_165]; exact Nat.le_of_ble_eq_true rfl) rfl (by rw [cy_165]; decide) (by rw [cy_165]; exact (by decide : x_tg 56 = 6)) hP3 (fun v3 S3 hp3 => ?_)
    have hV := hV v3 S3 hp3
    refine e_imul f_163_28 ?_
    exact e_ireturn f_163_29 rt_163 rfl hV
  · have hc := x_ccf_eq hc
    rw [if_neg hc] at hV
    refine e_iload f_163_11 rfl ?_
    refine e_iconst (c := 5) f_163_12 (by decide) ?_
    refine e_icmp f_163_13 (fun hc => ?_) (fun hc => ?_)
    · have hc := x_cct_ne hc
      rw [if_neg hc] at hV
      refine e_iload f_163_30 rfl ?_
      refine e_iconst (c := 4) f_163_31 (by decide) ?_
      refine e_icmp f_163_32 (fun hc => ?_) (fun hc => ?_)
      · have hc := x_cct_ne hc
        rw [if_neg hc] at hV
        refine e_iload f_163_48 rfl ?_
        refine e_iconst (c := 2) f_163_49 (by decide) ?_
        refine e_icmp f_163_50 (fun hc => ?_) (fun hc => ?_)
        · have hc := x_cct_ne hc
          rw [if_neg hc] at hV
          refine e_aload f_163_68 rfl (by decide) ?_
          refine e_iload f_163_69 rfl ?_
          obtain ⟨P4, hP4, hV⟩ := hV
          refine e_vi (n := 2) (A := [.ref 56, .int a1]) (R := []) f_163_70 na_165 rfl rfl (Nat.le_of_ble_eq_true rfl) (Nat.le_of_ble_eq_true rfl) (by rw [ml_165]; exact Nat.le_of_ble_eq_true rfl) rfl (by rw [cy_165]; decide) (by rw [cy_165]; exact (by decide : x_tg 56 = 6)) hP4 (fun v4 S4 hp4 => ?_)
          have hV := hV v4 S4 hp4
          exact e_ireturn f_163_73 rt_163 rfl hV
        · have hc := x_ccf_ne hc
          rw [if_pos hc] at hV
          refine e_aload f_163_53 rfl (by decide) ?_
          refine e_iconst (c := 14) f_163_54 (by decide) ?_
          obtain ⟨P5, hP5, hV⟩ := hV
          refine e_vv (n := 2) (A := [.ref 56, .int 14]) (R := []) f_163_56 na_164 rfl rfl (Nat.le_of_ble_eq_true rfl) (Nat.le_of_ble_eq_true rfl) (by rw [ml_164]; exact Nat.le_of_ble_eq_true rfl) rfl (by rw [cy_164]; decide) (by rw [cy_164]; exact (by decide : x_tg 56 = 6)) hP5 (fun S5 hp5 => ?_)
          have hV := hV S5 hp5
          refine e_aload f_163_59 rfl (by decide) ?_
          refine e_iload f_163_60 rfl ?_
          obtain ⟨P6, hP6, hV⟩ := hV
          refine e_vi (n := 2) (A := [.ref 56, .int a1]) (R := []) f_163_61 na_166 rfl rfl (Nat.le_of_ble_eq_true rfl) (Nat.le_of_ble_eq_true rfl) (by rw [ml_166]; exact Nat.le_of_ble_eq_true rfl) rfl (by rw [cy_166]; decide) (by rw [cy_166]; exact (by decide : x_tg 56 = 6)) hP6 (fun v6 S6 hp6 => ?_)
          have hV := hV v6 S6 hp6
          refine e_iconst (c := 100) f_163_64 (by decide) ?_
          refine e_isub f_163_66 ?_
          exact e_ireturn f_163_67 rt_163 rfl hV
      · have hc := x_ccf_ne hc
        rw [if_pos hc] at hV
        refine e_aload f_163_35 rfl (by decide) ?_
        refine e_iconst (c := 13) f_163_36 (by decide) ?_
        obtain ⟨P7, hP7, hV⟩ := hV
        refine e_vv (n := 2) (A := [.ref 56, .int 13]) (R := []) f_163_38 na_164 rfl rfl (Nat.le_of_ble_eq_true rfl) (Nat.le_of_ble_eq_true rfl) (by rw [ml_164]; exact Nat.le_of_ble_eq_true rfl) rfl (by rw [cy_164]; decide) (by rw [cy_164]; exact (by decide : x_tg 56 = 6)) hP7 (fun S7 hp7 => ?_)
        have hV := hV S7 hp7
        refine e_aload f_163_41 rfl (by decide) ?_
        refine e_iload f_163_42 rfl ?_
        obtain ⟨P8, hP8, hV⟩ := hV
        refine e_vi (n := 2) (A := [.ref 56, .int a1]) (R := []) f_163_43 na_165 rfl rfl (Nat.le_of_ble_eq_true rfl) (Nat.le_of_ble_eq_true rfl) (by rw [ml_165]; exact Nat.le_of_ble_eq_true rfl) rfl (by rw [cy_165]; decide) (by rw [cy_165]; exact (by decide : x_tg 56 = 6)) hP8 (fun v8 S8 hp8 => ?_)
        have hV := hV v8 S8 hp8
        refine e_ineg f_163_46 ?_
        exact e_ireturn f_163_47 rt_163 rfl hV
    · have hc := x_ccf_ne hc
      rw [if_pos hc] at hV
      refine e_aload f_163_16 rfl (by decide) ?_
      refine e_iconst (c := 12) f_163_17 (by decide) ?_
      obtain ⟨P9, hP9, hV⟩ := hV
      refine e_vv (n := 2) (A := [.ref 56, .int 12]) (R := []) f_163_19 na_164 rfl rfl (Nat.le_of_ble_eq_true rfl) (Nat.le_of_ble_eq_true rfl) (by rw [ml_164]; exact Nat.le_of_ble_eq_true rfl) rfl (by rw [cy_164]; decide) (by rw [cy_164]; exact (by decide : x_tg 56 = 6)) hP9 (fun S9 hp9 => ?_)
      have hV := hV S9 hp9
      refine e_iconst (c := 2) f_163_22 (by decide) ?_
      refine e_aload f_163_23 rfl (by decide) ?_
      refine e_iload f_163_24 rfl ?_
      obtain ⟨P10, hP10, hV⟩ := hV
      refine e_vi (n := 2) (A := [.ref 56, .int a1]) (R := [.int 2]) f_163_25 na_165 rfl rfl (Nat.le_of_ble_eq_true rfl) (Nat.le_of_ble_eq_true rfl) (by rw [ml_165]; exact Nat.le_of_ble_eq_true rfl) rfl (by rw [cy_165]; decide) (by rw [cy_165]; exact (by decide : x_tg 56 = 6)) hP10 (fun v10 S10 hp10 => ?_)
      have hV := hV v10 S10 hp10
      refine e_imul f_163_28 ?_
      exact e_ireturn f_163_29 rt_163 rfl hV
set_option maxRecDepth 20000 in
theorem T_164_0 {xs : List Int32} {d : Nat} {S : x_M} {Q : Option Value → x_M → Prop} {a1 : Int32}  (hV : if (16 : Int32) ≤ (S 56 9) then (Q none S) else ((x_ib (S 56 9) 16) ∧ (∀ S1 : x_M, S1 = x_up S 62 (Int32.toNatClampNeg (S 56 9)) a1 → (∀ S2 : x_M, S2 = x_up S1 56 9 ((S1 56 9) + 1) → (Q none S2))))) : x_E xs (d + 1) 164 0 [.ref 56, .int a1] [] S Q := by
  refine e_aload f_164_0 rfl (by decide) ?_
  refine e_gf (c := 6) (j := 9) f_164_1 (by decide) (by decide) (by decide) ?_
  refine e_iconst (c := 16) f_164_4 (by decide) ?_
  refine e_icmp f_164_6 (fun hc => ?_) (fun hc => ?_)
  · have hc := x_cct_ge hc
    rw [if_pos hc] at hV
    exact e_return f_164_29 rt_164 hV
  · have hc := x_ccf_ge hc
    rw [if_neg hc] at hV
    refine e_aload f_164_9 rfl (by decide) ?_
    refine e_gr (c := 6) (j := 8) (r := 62) f_164_10 (by decide) (by decide) (by decide) (by decide) ?_
    refine e_aload f_164_13 rfl (by decide) ?_
    refine e_gf (c := 6) (j := 9) f_164_14 (by decide) (by decide) (by decide) ?_
    refine e_iload f_164_17 rfl ?_
    obtain ⟨hg, hV⟩ := hV
    refine e_isn (n := 16) f_164_18 (by decide) (by decide) hg (fun S1 hS1 => ?_)
    have hV := hV S1 hS1
    refine e_aload f_164_19 rfl (by decide) ?_
    refine e_dup f_164_20 rfl ?_
    refine e_gf (c := 6) (j := 9) f_164_21 (by decide) (by decide) (by decide) ?_
    refine e_iconst (c := 1) f_164_24 (by decide) ?_
    refine e_iadd f_164_25 ?_
    refine e_pfn (c := 6) (j := 9) f_164_26 (by decide) (by decide) (by decide) (x_fit_i rfl) (fun S2 hS2 => ?_)
    have hV := hV S2 hS2
    exact e_return f_164_29 rt_164 hV
