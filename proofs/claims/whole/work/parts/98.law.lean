/-! THE LAW: its start and its end -/
def x_S0 : x_M := fun p k => if p = 57 ∧ k = 25 then 511 else if p = 59 then -1000000 else 0
theorem s0_z {p k : Nat} (h1 : ¬ p = 57 ∨ ¬ k = 25) (h2 : ¬ p = 59) : x_S0 p k = 0 := by
  unfold x_S0
  rw [if_neg (by omega), if_neg h2]
theorem s0_inv : x_Inv x_S0 := by
  have hg : ∀ g off : Nat, g ≤ 55 → (off = 0 ∨ off = 33 ∨ off = 66) → x_GI x_S0 g off := by
    intro g off hg ho
    refine ⟨0, by omega, s0_z (by omega) (by omega), s0_z (by omega) (by omega), Or.inl ⟨s0_z (by omega) (by omega), s0_z (by omega) (by omega), rfl, s0_z (by omega) (by omega), s0_z (by omega) (by omega), s0_z (by omega) (by omega), s0_z (by omega) (by omega)⟩⟩
  refine ⟨fun r hr => Or.inr ⟨s0_z (by omega) (by omega), ?_⟩, ⟨0, by omega, s0_z (by omega) (by omega), s0_z (by omega) (by omega), fun i hi => by omega⟩, ⟨hg 12 0 (by omega) (by omega), hg 46 33 (by omega) (by omega), hg 51 66 (by omega) (by omega)⟩, ?_, ⟨0, by omega, s0_z (by omega) (by omega), s0_z (by omega) (by omega), fun i hi => by omega⟩, ?_⟩
  · unfold x_S0
    rw [if_neg (by omega), if_pos rfl]
  · intro n c w hn h1 hc _
    rw [s0_z (by omega) (by omega)] at h1
    have : n = 0 := (nI_eq0 (by omega)).mp h1.symm
    omega
  · exact ⟨by rw [s0_z (by omega) (by omega), s0_z (by omega) (by omega)], by rw [s0_z (by omega) (by omega), s0_z (by omega) (by omega)]⟩
theorem ce_arr {p n : Nat} (ht : x_tg p = 10) (hl : x_ln p = n) (h : ¬ p = 57 ∧ ¬ p = 59) : x_ce x_S0 p = (10, List.replicate n (.int 0)) := by
  unfold x_ce
  rw [ht, hl]
  congr 1
  refine List.eq_replicate_iff.mpr ⟨by rw [List.length_map, List.length_range], fun b hb => ?_⟩
  obtain ⟨j, hj, rfl⟩ := List.mem_map.mp hb
  show x_vl x_S0 p j = .int 0
  unfold x_vl
  rw [x_tg_a ht]
  show Value.int (x_S0 p j) = .int 0
  rw [s0_z (Or.inl h.1) h.2]
theorem c0_8 : x_ce x_S0 8 = (5, [.ref 9, .ref 10, .ref 12, .ref 17, .ref 22, .ref 23, .ref 27, .ref 28, .int 0, .int 0]) := by rfl
theorem c0_9 : x_ce x_S0 9 = (11, [.ref 30, .ref 32, .ref 34, .ref 36, .ref 38, .ref 40, .ref 42, .ref 44]) := by rfl
theorem c0_10 : x_ce x_S0 10 = (3, [.ref 11, .int 0, .int 0, .int 0, .int 0, .int 0]) := by rfl
theorem c0_11 : x_ce x_S0 11 = (10, List.replicate 400 (.int 0)) := ce_arr (by decide) (by decide) (by omega)
theorem c0_12 : x_ce x_S0 12 = (0, [.ref 13, .ref 14, .ref 15, .ref 16, .int 0, .int 0, .int 0, .int 0, .int 0, .int 0]) := by rfl
theorem c0_13 : x_ce x_S0 13 = (10, List.replicate 9 (.int 0)) := ce_arr (by decide) (by decide) (by omega)
theorem c0_14 : x_ce x_S0 14 = (10, List.replicate 112 (.int 0)) := ce_arr (by decide) (by decide) (by omega)
theorem c0_15 : x_ce x_S0 15 = (10, List.replicate 2 (.int 0)) := ce_arr (by decide) (by decide) (by omega)
theorem c0_16 : x_ce x_S0 16 = (10, List.replicate 2 (.int 0)) := ce_arr (by decide) (by decide) (by omega)
theorem c0_17 : x_ce x_S0 17 = (0, [.ref 18, .ref 19, .ref 20, .ref 21, .int 0, .int 0, .int 0, .int 0, .int 0, .int 0]) := by rfl
theorem c0_18 : x_ce x_S0 18 = (10, List.replicate 9 (.int 0)) := ce_arr (by decide) (by decide) (by omega)
theorem c0_19 : x_ce x_S0 19 = (10, List.replicate 112 (.int 0)) := ce_arr (by decide) (by decide) (by omega)
theorem c0_20 : x_ce x_S0 20 = (10, List.replicate 2 (.int 0)) := ce_arr (by decide) (by decide) (by omega)
theorem c0_21 : x_ce x_S0 21 = (10, List.replicate 2 (.int 0)) := ce_arr (by decide) (by decide) (by omega)
theorem c0_22 : x_ce x_S0 22 = (12, [.ref 46, .ref 51]) := by rfl
theorem c0_23 : x_ce x_S0 23 = (1, [.ref 24, .ref 25, .ref 26, .int 0, .int 0]) := by rfl
theorem c0_24 : x_ce x_S0 24 = (10, List.replicate 4 (.int 0)) := ce_arr (by decide) (by decide) (by omega)
theorem c0_25 : x_ce x_S0 25 = (10, List.replicate 2 (.int 0)) := ce_arr (by decide) (by decide) (by omega)
theorem c0_26 : x_ce x_S0 26 = (10, List.replicate 16384 (.int 0)) := ce_arr (by decide) (by decide) (by omega)
theorem c0_27 : x_ce x_S0 27 = (10, List.replicate 3 (.int 0)) := ce_arr (by decide) (by decide) (by omega)
theorem c0_28 : x_ce x_S0 28 = (4, [.ref 29, .int 0]) := by rfl
theorem c0_29 : x_ce x_S0 29 = (10, List.replicate 16 (.int 0)) := ce_arr (by decide) (by decide) (by omega)
theorem c0_30 : x_ce x_S0 30 = (2, [.ref 31, .int 0, .int 0, .int 0]) := by rfl
theorem c0_31 : x_ce x_S0 31 = (10, List.replicate 40 (.int 0)) := ce_arr (by decide) (by decide) (by omega)
theorem c0_32 : x_ce x_S0 32 = (2, [.ref 33, .int 0, .int 0, .int 0]) := by rfl
theorem c0_33 : x_ce x_S0 33 = (10, List.replicate 40 (.int 0)) := ce_arr (by decide) (by decide) (by omega)
theorem c0_34 : x_ce x_S0 34 = (2, [.ref 35, .int 0, .int 0, .int 0]) := by rfl
theorem c0_35 : x_ce x_S0 35 = (10, List.replicate 40 (.int 0)) := ce_arr (by decide) (by decide) (by omega)
theorem c0_36 : x_ce x_S0 36 = (2, [.ref 37, .int 0, .int 0, .int 0]) := by rfl
theorem c0_37 : x_ce x_S0 37 = (10, List.replicate 40 (.int 0)) := ce_arr (by decide) (by decide) (by omega)
theorem c0_38 : x_ce x_S0 38 = (2, [.ref 39, .int 0, .int 0, .int 0]) := by rfl
theorem c0_39 : x_ce x_S0 39 = (10, List.replicate 40 (.int 0)) := ce_arr (by decide) (by decide) (by omega)
theorem c0_40 : x_ce x_S0 40 = (2, [.ref 41, .int 0, .int 0, .int 0]) := by rfl
theorem c0_41 : x_ce x_S0 41 = (10, List.replicate 40 (.int 0)) := ce_arr (by decide) (by decide) (by omega)
theorem c0_42 : x_ce x_S0 42 = (2, [.ref 43, .int 0, .int 0, .int 0]) := by rfl
theorem c0_43 : x_ce x_S0 43 = (10, List.replicate 40 (.int 0)) := ce_arr (by decide) (by decide) (by omega)
theorem c0_44 : x_ce x_S0 44 = (2, [.ref 45, .int 0, .int 0, .int 0]) := by rfl
theorem c0_45 : x_ce x_S0 45 = (10, List.replicate 40 (.int 0)) := ce_arr (by decide) (by decide) (by omega)
theorem c0_46 : x_ce x_S0 46 = (0, [.ref 47, .ref 48, .ref 49, .ref 50, .int 0, .int 0, .int 0, .int 0, .int 0, .int 0]) := by rfl
theorem c0_47 : x_ce x_S0 47 = (10, List.replicate 9 (.int 0)) := ce_arr (by decide) (by decide) (by omega)
theorem c0_48 : x_ce x_S0 48 = (10, List.replicate 112 (.int 0)) := ce_arr (by decide) (by decide) (by omega)
theorem c0_49 : x_ce x_S0 49 = (10, List.replicate 2 (.int 0)) := ce_arr (by decide) (by decide) (by omega)
theorem c0_50 : x_ce x_S0 50 = (10, List.replicate 2 (.int 0)) := ce_arr (by decide) (by decide) (by omega)
theorem c0_51 : x_ce x_S0 51 = (0, [.ref 52, .ref 53, .ref 54, .ref 55, .int 0, .int 0, .int 0, .int 0, .int 0, .int 0]) := by rfl
theorem c0_52 : x_ce x_S0 52 = (10, List.replicate 9 (.int 0)) := ce_arr (by decide) (by decide) (by omega)
theorem c0_53 : x_ce x_S0 53 = (10, List.replicate 112 (.int 0)) := ce_arr (by decide) (by decide) (by omega)
theorem c0_54 : x_ce x_S0 54 = (10, List.replicate 2 (.int 0)) := ce_arr (by decide) (by decide) (by omega)
theorem c0_55 : x_ce x_S0 55 = (10, List.replicate 2 (.int 0)) := ce_arr (by decide) (by decide) (by omega)
theorem c0_56 : x_ce x_S0 56 = (6, [Value.ref 57, Value.ref 58, Value.int 0, Value.int 0, Value.int 0, Value.ref 59, Value.ref 60, Value.ref 61, Value.ref 62, Value.int 0, Value.int 0, Value.int 0, Value.int 0, Value.ref 63, Value.ref 64, Value.ref 65, Value.int 0, Value.ref 66, Value.ref 67, Value.ref 68, Value.ref 69, Value.ref 70, Value.ref 71, Value.ref 72, Value.ref 73, Value.int 0, Value.ref 74]) := by rfl
theorem c0_57 : x_ce x_S0 57 = (10, (List.replicate 99 (Value.int 0)).set 25 (Value.int 511)) := by rfl
theorem c0_58 : x_ce x_S0 58 = (10, List.replicate 400 (Value.int 0)) := ce_arr (by decide) (by decide) (by omega)
theorem c0_59 : x_ce x_S0 59 = (10, [Value.int (-1000000), Value.int (-1000000), Value.int (-1000000), Value.int (-1000000), Value.int (-1000000), Value.int (-1000000), Value.int (-1000000), Value.int (-1000000)]) := by rfl
theorem c0_60 : x_ce x_S0 60 = (10, List.replicate 8 (Value.int 0)) := ce_arr (by decide) (by decide) (by omega)
theorem c0_61 : x_ce x_S0 61 = (10, List.replicate 320 (Value.int 0)) := ce_arr (by decide) (by decide) (by omega)
theorem c0_62 : x_ce x_S0 62 = (10, List.replicate 16 (Value.int 0)) := ce_arr (by decide) (by decide) (by omega)
theorem c0_63 : x_ce x_S0 63 = (10, List.replicate 9 (Value.int 0)) := ce_arr (by decide) (by decide) (by omega)
theorem c0_64 : x_ce x_S0 64 = (10, List.replicate 14 (Value.int 0)) := ce_arr (by decide) (by decide) (by omega)
theorem c0_65 : x_ce x_S0 65 = (10, List.replicate 14 (Value.int 0)) := ce_arr (by decide) (by decide) (by omega)
theorem c0_66 : x_ce x_S0 66 = (10, List.replicate 112 (Value.int 0)) := ce_arr (by decide) (by decide) (by omega)
theorem c0_67 : x_ce x_S0 67 = (10, List.replicate 3 (Value.int 0)) := ce_arr (by decide) (by decide) (by omega)
theorem c0_68 : x_ce x_S0 68 = (10, List.replicate 6 (Value.int 0)) := ce_arr (by decide) (by decide) (by omega)
theorem c0_69 : x_ce x_S0 69 = (10, List.replicate 6 (Value.int 0)) := ce_arr (by decide) (by decide) (by omega)
theorem c0_70 : x_ce x_S0 70 = (10, List.replicate 12 (Value.int 0)) := ce_arr (by decide) (by decide) (by omega)
theorem c0_71 : x_ce x_S0 71 = (10, List.replicate 6 (Value.int 0)) := ce_arr (by decide) (by decide) (by omega)
theorem c0_72 : x_ce x_S0 72 = (10, List.replicate 6 (Value.int 0)) := ce_arr (by decide) (by decide) (by omega)
theorem c0_73 : x_ce x_S0 73 = (10, List.replicate 6 (Value.int 0)) := ce_arr (by decide) (by decide) (by omega)
theorem c0_74 : x_ce x_S0 74 = (10, List.replicate 3 (Value.int 0)) := ce_arr (by decide) (by decide) (by omega)
theorem hp_S0 {xs : List Int32} : (x_old xs ++ k_cards) ++ k_model 56 = x_hp xs x_S0 := by
  unfold x_hp
  rw [List.append_assoc]
  refine congrArg (fun u => x_old xs ++ u) ?_
  show [(5, [.ref 9, .ref 10, .ref 12, .ref 17, .ref 22, .ref 23, .ref 27, .ref 28, .int 0, .int 0]), (11, [.ref 30, .ref 32, .ref 34, .ref 36, .ref 38, .ref 40, .ref 42, .ref 44]), (3, [.ref 11, .int 0, .int 0, .int 0, .int 0, .int 0]), (10, List.replicate 400 (.int 0)), (0, [.ref 13, .ref 14, .ref 15, .ref 16, .int 0, .int 0, .int 0, .int 0, .int 0, .int 0]), (10, List.replicate 9 (.int 0)), (10, List.replicate 112 (.int 0)), (10, List.replicate 2 (.int 0)), (10, List.replicate 2 (.int 0)), (0, [.ref 18, .ref 19, .ref 20, .ref 21, .int 0, .int 0, .int 0, .int 0, .int 0, .int 0]), (10, List.replicate 9 (.int 0)), (10, List.replicate 112 (.int 0)), (10, List.replicate 2 (.int 0)), (10, List.replicate 2 (.int 0)), (12, [.ref 46, .ref 51]), (1, [.ref 24, .ref 25, .ref 26, .int 0, .int 0]), (10, List.replicate 4 (.int 0)), (10, List.replicate 2 (.int 0)), (10, List.replicate 16384 (.int 0)), (10, List.replicate 3 (.int 0)), (4, [.ref 29, .int 0]), (10, List.replicate 16 (.int 0)), (2, [.ref 31, .int 0, .int 0, .int 0]), (10, List.replicate 40 (.int 0)), (2, [.ref 33, .int 0, .int 0, .int 0]), (10, List.replicate 40 (.int 0)), (2, [.ref 35, .int 0, .int 0, .int 0]), (10, List.replicate 40 (.int 0)), (2, [.ref 37, .int 0, .int 0, .int 0]), (10, List.replicate 40 (.int 0)), (2, [.ref 39, .int 0, .int 0, .int 0]), (10, List.replicate 40 (.int 0)), (2, [.ref 41, .int 0, .int 0, .int 0]), (10, List.replicate 40 (.int 0)), (2, [.ref 43, .int 0, .int 0, .int 0]), (10, List.replicate 40 (.int 0)), (2, [.ref 45, .int 0, .int 0, .int 0]), (10, List.replicate 40 (.int 0)), (0, [.ref 47, .ref 48, .ref 49, .ref 50, .int 0, .int 0, .int 0, .int 0, .int 0, .int 0]), (10, List.replicate 9 (.int 0)), (10, List.replicate 112 (.int 0)), (10, List.replicate 2 (.int 0)), (10, List.replicate 2 (.int 0)), (0, [.ref 52, .ref 53, .ref 54, .ref 55, .int 0, .int 0, .int 0, .int 0, .int 0, .int 0]), (10, List.replicate 9 (.int 0)), (10, List.replicate 112 (.int 0)), (10, List.replicate 2 (.int 0)), (10, List.replicate 2 (.int 0)), (6, [Value.ref 57, Value.ref 58, Value.int 0, Value.int 0, Value.int 0, Value.ref 59, Value.ref 60, Value.ref 61, Value.ref 62, Value.int 0, Value.int 0, Value.int 0, Value.int 0, Value.ref 63, Value.ref 64, Value.ref 65, Value.int 0, Value.ref 66, Value.ref 67, Value.ref 68, Value.ref 69, Value.ref 70, Value.ref 71, Value.ref 72, Value.ref 73, Value.int 0, Value.ref 74]), (10, (List.replicate 99 (Value.int 0)).set 25 (Value.int 511)), (10, List.replicate 400 (Value.int 0)), (10, [Value.int (-1000000), Value.int (-1000000), Value.int (-1000000), Value.int (-1000000), Value.int (-1000000), Value.int (-1000000), Value.int (-1000000), Value.int (-1000000)]), (10, List.replicate 8 (Value.int 0)), (10, List.replicate 320 (Value.int 0)), (10, List.replicate 16 (Value.int 0)), (10, List.replicate 9 (Value.int 0)), (10, List.replicate 14 (Value.int 0)), (10, List.replicate 14 (Value.int 0)), (10, List.replicate 112 (Value.int 0)), (10, List.replicate 3 (Value.int 0)), (10, List.replicate 6 (Value.int 0)), (10, List.replicate 6 (Value.int 0)), (10, List.replicate 12 (Value.int 0)), (10, List.replicate 6 (Value.int 0)), (10, List.replicate 6 (Value.int 0)), (10, List.replicate 6 (Value.int 0)), (10, List.replicate 3 (Value.int 0))] = [x_ce x_S0 8, x_ce x_S0 9, x_ce x_S0 10, x_ce x_S0 11, x_ce x_S0 12, x_ce x_S0 13, x_ce x_S0 14, x_ce x_S0 15, x_ce x_S0 16, x_ce x_S0 17, x_ce x_S0 18, x_ce x_S0 19, x_ce x_S0 20, x_ce x_S0 21, x_ce x_S0 22, x_ce x_S0 23, x_ce x_S0 24, x_ce x_S0 25, x_ce x_S0 26, x_ce x_S0 27, x_ce x_S0 28, x_ce x_S0 29, x_ce x_S0 30, x_ce x_S0 31, x_ce x_S0 32, x_ce x_S0 33, x_ce x_S0 34, x_ce x_S0 35, x_ce x_S0 36, x_ce x_S0 37, x_ce x_S0 38, x_ce x_S0 39, x_ce x_S0 40, x_ce x_S0 41, x_ce x_S0 42, x_ce x_S0 43, x_ce x_S0 44, x_ce x_S0 45, x_ce x_S0 46, x_ce x_S0 47, x_ce x_S0 48, x_ce x_S0 49, x_ce x_S0 50, x_ce x_S0 51, x_ce x_S0 52, x_ce x_S0 53, x_ce x_S0 54, x_ce x_S0 55, x_ce x_S0 56, x_ce x_S0 57, x_ce x_S0 58, x_ce x_S0 59, x_ce x_S0 60, x_ce x_S0 61, x_ce x_S0 62, x_ce x_S0 63, x_ce x_S0 64, x_ce x_S0 65, x_ce x_S0 66, x_ce x_S0 67, x_ce x_S0 68, x_ce x_S0 69, x_ce x_S0 70, x_ce x_S0 71, x_ce x_S0 72, x_ce x_S0 73, x_ce x_S0 74]
  rw [c0_8, c0_9, c0_10, c0_11, c0_12, c0_13, c0_14, c0_15, c0_16, c0_17, c0_18, c0_19, c0_20, c0_21, c0_22, c0_23, c0_24, c0_25, c0_26, c0_27, c0_28, c0_29, c0_30, c0_31, c0_32, c0_33, c0_34, c0_35, c0_36, c0_37, c0_38, c0_39, c0_40, c0_41, c0_42, c0_43, c0_44, c0_45, c0_46, c0_47, c0_48, c0_49, c0_50, c0_51, c0_52, c0_53, c0_54, c0_55, c0_56, c0_57, c0_58, c0_59, c0_60, c0_61, c0_62, c0_63, c0_64, c0_65, c0_66, c0_67, c0_68, c0_69, c0_70, c0_71, c0_72, c0_73, c0_74]
theorem x_sz_app {a b : x_H} : x_sz (a ++ b) = x_sz a + x_sz b := by
  unfold x_sz
  rw [List.map_append, List.sum_append]
theorem x_sz_hp {xs : List Int32} {S : x_M} : x_sz (x_hp xs S) = x_sz (x_old xs) + ((List.range 67).map (fun i => x_ln (8 + i))).sum := by
  unfold x_hp
  rw [x_sz_app]
  refine congrArg (fun u => x_sz (x_old xs) + u) ?_
  unfold x_sz
  rw [List.map_map]
  refine congrArg List.sum (List.map_congr_left (fun i _ => ?_))
  show (x_ce S (8 + i)).2.length = _
  unfold x_ce
  rw [List.length_map, List.length_range]
theorem x_law (xl : List Int32) (hL : xl.length ≤ 384) : ∃ n hf, x_run n 60 184 0 (x_loc 4 [.ref 0]) [] (x_old xl) = some (some (.int 1), hf) ∧ hf.length - 8 ≤ 600000 ∧ x_sz hf - x_sz (x_old xl) ≤ 7302250 := by
  obtain ⟨n, r, S1, h1, rfl⟩ := l_loop hL 400 0 x_S0 rfl s0_inv
  have hG : x_G 60 184 18 [.ref 0, .ref 8, .ref 56, .int (nI 0)] [] (x_hp xl x_S0) (some (.int 1), x_hp xl S1) := ⟨n, h1⟩
  rw [← hp_S0] at hG
  have h56 : (x_old xl ++ k_cards).length = 56 := rfl
  have hm := ct_model (x_old xl ++ k_cards) 59 (by rw [h56]; omega)
  rw [h56] at hm
  have key : x_G 60 184 0 [.ref 0, .null, .null, .null] [] (x_old xl) (some (.int 1), x_hp xl S1) := by
    refine g_new f_184_0 (by omega) ?_
    show x_G 60 184 3 [.ref 0, .null, .null, .null] [.ref 8] (x_old xl ++ [(5, x_def 5)]) _
    refine g_dup f_184_3 (g_call f_184_4 na_42 (by rw [ml_42]; omega) (by omega) (Nat.le_of_ble_eq_true rfl) ct_cards ?_)
    refine g_astore (L' := [.ref 0, .ref 8, .null, .null]) f_184_7 (by decide) (by omega) rfl ?_
    refine g_new f_184_8 (by omega) ?_
    rw [h56]
    refine g_dup f_184_11 (g_call f_184_12 na_98 (by rw [ml_98]; omega) (by omega) (Nat.le_of_ble_eq_true rfl) hm ?_)
    refine g_astore (L' := [.ref 0, .ref 8, .ref 56, .null]) f_184_15 (by decide) (by omega) rfl ?_
    exact g_iconst (c := nI 0) f_184_16 (by decide) (g_istore (L' := [.ref 0, .ref 8, .ref 56, .int (nI 0)]) f_184_17 (by decide) rfl hG)
  obtain ⟨m, hm2⟩ := key
  refine ⟨m, _, hm2, by rw [x_hp_len]; omega, ?_⟩
  rw [x_sz_hp, Nat.add_sub_cancel_left]
  decide +kernel
