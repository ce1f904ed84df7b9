def rSee (S : TS) (n : Nat) (c at1 hour : Int) : Int := if 0 ≤ c ∧ c ≤ (sC S : Int) - 1 then (if 0 ≤ at1 ∧ at1 ≤ 5 then (if 0 ≤ hour ∧ hour ≤ 23 then (if n = 30 then -1000000004 else (n : Int) + 1) else -1000000002) else -1000000002) else -1000000001
def rWrite (S : TS) (n : Nat) (hour c what : Int) : Int := if 0 ≤ c ∧ c ≤ (sC S : Int) - 1 then (if 0 ≤ hour ∧ hour ≤ 23 then (if 0 ≤ what ∧ what ≤ 3 then (if n = 30 then -1000000004 else (n : Int) + 1) else -1000000002) else -1000000002) else -1000000001
abbrev okSee (S : TS) (n : Nat) (c at1 hour : Int) : Prop := (0 ≤ c ∧ c ≤ (sC S : Int) - 1) ∧ (0 ≤ at1 ∧ at1 ≤ 5) ∧ (0 ≤ hour ∧ hour ≤ 23) ∧ n ≠ 30
abbrev okWrite (S : TS) (n : Nat) (hour c what : Int) : Prop := (0 ≤ c ∧ c ≤ (sC S : Int) - 1) ∧ (0 ≤ hour ∧ hour ≤ 23) ∧ (0 ≤ what ∧ what ≤ 3) ∧ n ≠ 30
section M26
variable {g : EG} {d t s : Nat} {h h1 : PH} {Q : EQ} {S : TS}
theorem sp_keep {i : Int} (hr_i : rg i) (k0 : ¬ (0 ≤ i ∧ i ≤ 1) → Q (.int (zI (-1000000001))) (tau t s) h) (k1 : ∀ m : Nat, m < 2 → i = (m : Int) → ∀ h1 : PH, ofO 206 h h1 → (∀ j, j < 20 → h1 206 (20 * (1 + m) + j) = h 206 j) → (∀ j, (j < 20 * (1 + m) ∨ 20 * (1 + m) + 20 ≤ j) → h1 206 j = h 206 j) → Q (.int (zI 1)) (tau t s) (hU h1 207 m 1)) : eX g 1 mX9_keep 0 (lv_args 0 [.ref (gA g 205), .int (zI i)]) [] (tau t s) h Q := by
  show eX g 1 mX9_keep 0 [(0, .ref (gA g 205)), (1, .int (zI i))] [] (tau t s) h Q
  by_cases hq1 : 0 ≤ i ∧ i ≤ 1
  · obtain ⟨m, rfl⟩ : ∃ m : Nat, i = (m : Int) := ⟨i.toNat, by omega⟩
    refine eR_ildn_1 dX9_keep_0 rfl ?_
    refine eR_i2lz dX9_keep_1 (by first | assumption | exact rg_b01 _ | (unfold rg; omega) | (unfold rg at *; omega)) ?_
    refine eR_lc (z := 0) dX9_keep_2 rfl ?_
    refine eR_lc (z := 1) dX9_keep_3 rfl ?_
    refine eR_callSi [_, _, _] rfl dX9_keep_4 ok_mX9_in kw_952 rfl rfl (Nat.le_of_ble_eq_true rfl) (d' := 0) (by decide) (Nat.le_of_ble_eq_true rfl) ?_
    refine sp_in (by first | (unfold rL; omega) | (unfold rL; unfold rg at *; omega)) (by first | (unfold rL; omega) | (unfold rL; unfold rg at *; omega)) (by first | (unfold rL; omega) | (unfold rL; unfold rg at *; omega)) ?_
    refine eR_if_ne (tgt := 13) dX9_keep_7 (by decide) (by first | assumption | exact rg_b01 _ | (unfold rg; omega) | (unfold rg at *; omega)) (fun c7 => ?_) (fun c7 => absurd c7 (by first | simp [b01, hq1] | (rw [b01_t hq1]; decide)))
    refine eR_aldn_0 dX9_keep_13 rfl ?_
    refine eR_ic dX9_keep_14 ?_
    refine eR_bi (z := 20) dX9_keep_15 rfl ?_
    refine eR_ic dX9_keep_17 ?_
    refine eR_ildn_1 dX9_keep_18 rfl ?_
    refine eR_iadd dX9_keep_19 ?_
    refine eR_imul dX9_keep_20 ?_
    refine eX_pcI (show (20 * (1 + ↑m) : Int) = ↑(20 * (1 + m) : Nat) from by omega) ?_
    refine eR_callVv [_, _] rfl dX9_keep_21 ok_mX9_copy kw_1262 rfl rfl th_205 rfl (Nat.le_of_ble_eq_true rfl) (d' := 0) (by decide) (Nat.le_of_ble_eq_true rfl) ?_
    refine sp_copy (x := 0) (y := 20 * (1 + m)) (by omega) (by omega) (by omega) (fun h1 hO hd ho => ?_)
    refine eR_aldn_0 dX9_keep_24 rfl ?_
    refine eR_getR (i := 207) dX9_keep_25 gf_X9_13 th_205 rfl ?_
    refine eR_ildn_1 dX9_keep_28 rfl ?_
    refine eR_ic dX9_keep_29 ?_
    refine eR_zast (n := m) (by omega) dX9_keep_30 th_207 (rfl) (by omega) (by decide) ?_
    refine eR_ic dX9_keep_31 ?_
    refine eR_iret dX9_keep_32 rfl rfl ?_
    exact k1 m (by omega) rfl h1 hO (fun j hj => by have := hd j hj; rw [Nat.zero_add] at this; exact this) ho
  · refine eR_ildn_1 dX9_keep_0 rfl ?_
    refine eR_i2lz dX9_keep_1 (by first | assumption | exact rg_b01 _ | (unfold rg; omega) | (unfold rg at *; omega)) ?_
    refine eR_lc (z := 0) dX9_keep_2 rfl ?_
    refine eR_lc (z := 1) dX9_keep_3 rfl ?_
    refine eR_callSi [_, _, _] rfl dX9_keep_4 ok_mX9_in kw_952 rfl rfl (Nat.le_of_ble_eq_true rfl) (d' := 0) (by decide) (Nat.le_of_ble_eq_true rfl) ?_
    refine sp_in (by first | (unfold rL; omega) | (unfold rL; unfold rg at *; omega)) (by first | (unfold rL; omega) | (unfold rL; unfold rg at *; omega)) (by first | (unfold rL; omega) | (unfold rL; unfold rg at *; omega)) ?_
    refine eR_if_ne (tgt := 13) dX9_keep_7 (by decide) (by first | assumption | exact rg_b01 _ | (unfold rg; omega) | (unfold rg at *; omega)) (fun c7 => absurd c7 (by first | (simp [b01, hq1]; done) | (rw [b01_f hq1]; decide))) (fun c7 => ?_)
    refine eR_ldc (z := -1000000001) dX9_keep_10 kw_1089 (by decide) ?_
    refine eR_iret dX9_keep_12 rfl rfl ?_
    exact k0 hq1
theorem sp_goBack {i : Int} (hr_i : rg i) (hk : ∀ m : Nat, m < 2 → h 207 m = 0 ∨ h 207 m = 1) (k0 : ¬ (0 ≤ i ∧ i ≤ 1) → Q (.int (zI (-1000000001))) (tau t s) h) (k1 : ∀ m : Nat, m < 2 → i = (m : Int) → h 207 m = 0 → Q (.int (zI (-1000000003))) (tau t s) h) (k2 : ∀ m : Nat, m < 2 → i = (m : Int) → h 207 m = 1 → ∀ h1 : PH, ofO 206 h h1 → (∀ j, j < 20 → h1 206 j = h 206 (20 * (1 + m) + j)) → (∀ j, 20 ≤ j → h1 206 j = h 206 j) → Q (.int (zI 1)) (tau t s) h1) : eX g 1 mX9_goBack 0 (lv_args 0 [.ref (gA g 205), .int (zI i)]) [] (tau t s) h Q := by
  show eX g 1 mX9_goBack 0 [(0, .ref (gA g 205)), (1, .int (zI i))] [] (tau t s) h Q
  by_cases hq1 : 0 ≤ i ∧ i ≤ 1
  · obtain ⟨m, rfl⟩ : ∃ m : Nat, i = (m : Int) := ⟨i.toNat, by omega⟩
    have hk9 := hk m (by omega)
    refine eR_ildn_1 dX9_goBack_0 rfl ?_
    refine eR_i2lz dX9_goBack_1 (by first | assumption | exact rg_b01 _ | (unfold rg; omega) | (unfold rg at *; omega)) ?_
    refine eR_lc (z := 0) dX9_goBack_2 rfl ?_
    refine eR_lc (z := 1) dX9_goBack_3 rfl ?_
    refine eR_callSi [_, _, _] rfl dX9_goBack_4 ok_mX9_in kw_952 rfl rfl (Nat.le_of_ble_eq_true rfl) (d' := 0) (by decide) (Nat.le_of_ble_eq_true rfl) ?_
    refine sp_in (by first | (unfold rL; omega) | (unfold rL; unfold rg at *; omega)) (by first | (unfold rL; omega) | (unfold rL; unfold rg at *; omega)) (by first | (unfold rL; omega) | (unfold rL; unfold rg at *; omega)) ?_
    refine eR_if_ne (tgt := 13) dX9_goBack_7 (by decide) (by first | assumption | exact rg_b01 _ | (unfold rg; omega) | (unfold rg at *; omega)) (fun c7 => ?_) (fun c7 => absurd c7 (by first | simp [b01, hq1] | (rw [b01_t hq1]; decide)))
    refine eR_aldn_0 dX9_goBack_13 rfl ?_
    refine eR_getR (i := 207) dX9_goBack_14 gf_X9_13 th_205 rfl ?_
    refine eR_ildn_1 dX9_goBack_17 rfl ?_
    refine eR_zald (n := m) dX9_goBack_18 th_207 (rfl) (by omega) (by decide) ?_
    refine eR_if_ne (tgt := 25) dX9_goBack_19 (by decide) (by first | assumption | exact rg_b01 _ | (unfold rg; omega) | (unfold rg at *; omega)) (fun c19 => ?_) (fun c19 => ?_)
    · refine eR_aldn_0 dX9_goBack_25 rfl ?_
      refine eR_bi (z := 20) dX9_goBack_26 rfl ?_
      refine eR_ic dX9_goBack_28 ?_
      refine eR_ildn_1 dX9_goBack_29 rfl ?_
      refine eR_iadd dX9_goBack_30 ?_
      refine eR_imul dX9_goBack_31 ?_
      refine eX_pcI (show (20 * (1 + ↑m) : Int) = ↑(20 * (1 + m) : Nat) from by omega) ?_
      refine eR_ic dX9_goBack_32 ?_
      refine eR_callVv [_, _] rfl dX9_goBack_33 ok_mX9_copy kw_1262 rfl rfl th_205 rfl (Nat.le_of_ble_eq_true rfl) (d' := 0) (by decide) (Nat.le_of_ble_eq_true rfl) ?_
      refine sp_copy (x := 20 * (1 + m)) (y := 0) (by omega) (by omega) (by omega) (fun h1 hO hd ho => ?_)
      refine eR_ic dX9_goBack_36 ?_
      refine eR_iret dX9_goBack_37 rfl rfl ?_
      exact k2 m (by omega) rfl (by omega) h1 hO (fun j hj => by have := hd j hj; rw [Nat.zero_add] at this; exact this) (fun j hj => ho j (by omega))
    · refine eR_ldc (z := -1000000003) dX9_goBack_22 kw_1134 (by decide) ?_
      refine eR_iret dX9_goBack_24 rfl rfl ?_
      exact k1 m (by omega) rfl (by omega)
  · refine eR_ildn_1 dX9_goBack_0 rfl ?_
    refine eR_i2lz dX9_goBack_1 (by first | assumption | exact rg_b01 _ | (unfold rg; omega) | (unfold rg at *; omega)) ?_
    refine eR_lc (z := 0) dX9_goBack_2 rfl ?_
    refine eR_lc (z := 1) dX9_goBack_3 rfl ?_
    refine eR_callSi [_, _, _] rfl dX9_goBack_4 ok_mX9_in kw_952 rfl rfl (Nat.le_of_ble_eq_true rfl) (d' := 0) (by decide) (Nat.le_of_ble_eq_true rfl) ?_
    refine sp_in (by first | (unfold rL; omega) | (unfold rL; unfold rg at *; omega)) (by first | (unfold rL; omega) | (unfold rL; unfold rg at *; omega)) (by first | (unfold rL; omega) | (unfold rL; unfold rg at *; omega)) ?_
    refine eR_if_ne (tgt := 13) dX9_goBack_7 (by decide) (by first | assumption | exact rg_b01 _ | (unfold rg; omega) | (unfold rg at *; omega)) (fun c7 => absurd c7 (by first | (simp [b01, hq1]; done) | (rw [b01_f hq1]; decide))) (fun c7 => ?_)
    refine eR_ldc (z := -1000000001) dX9_goBack_10 kw_1089 (by decide) ?_
    refine eR_iret dX9_goBack_12 rfl rfl ?_
    exact k0 hq1
theorem sp_see (B : sB S) (V : mV h S) {c : Int} (hr_c : rg c) {at1 : Int} (hr_at1 : rg at1) {hour : Int} (hr_hour : rg hour) {n : Nat} (hn : h 205 26 = (n : Int)) (hn30 : n ≤ 30) (k0 : ¬ okSee S n c at1 hour → Q (.int (zI (rSee S n c at1 hour))) (tau t s) h) (k1 : okSee S n c at1 hour → Q (.int (zI (rSee S n c at1 hour))) (tau t s) (hU (hU (hU (hU h 222 (3 * n) c) 222 (3 * n + 1) at1) 222 (3 * n + 2) hour) 205 26 (↑n + 1))) : eX g 2 mX9_see 0 (lv_args 0 [.ref (gA g 205), .int (zI c), .int (zI at1), .int (zI hour)]) [] (tau t s) h Q := by
  show eX g 2 mX9_see 0 [(0, .ref (gA g 205)), (1, .int (zI c)), (2, .int (zI at1)), (3, .int (zI hour))] [] (tau t s) h Q
  have hP8 := B.1
  have hC8 := B.2.1
  have hE10 := B.2.2.1
  have hF99 := B.2.2.2.2.2.2.1
  by_cases hq1 : 0 ≤ c ∧ c ≤ ↑(sC S) - 1
  · obtain ⟨cn, rfl⟩ : ∃ cn : Nat, c = (cn : Int) := ⟨c.toNat, by omega⟩
    by_cases hq2 : 0 ≤ at1 ∧ at1 ≤ 5
    · obtain ⟨an, rfl⟩ : ∃ an : Nat, at1 = (an : Int) := ⟨at1.toNat, by omega⟩
      by_cases hq3 : 0 ≤ hour ∧ hour ≤ 23
      · obtain ⟨hn9, rfl⟩ : ∃ hn9 : Nat, hour = (hn9 : Int) := ⟨hour.toNat, by omega⟩
        refine eR_aldn_0 dX9_see_0 rfl ?_
        refine eR_ildn_1 dX9_see_1 rfl ?_
        refine eR_callVi [_] rfl dX9_see_2 ok_mX9_isCoat kw_1085 rfl rfl th_205 rfl (Nat.le_of_ble_eq_true rfl) (d' := 1) (by decide) (Nat.le_of_ble_eq_true rfl) ?_
        refine sp_isCoat B V (by first | assumption | (unfold rg; omega)) ?_
        refine eR_if_ne (tgt := 11) dX9_see_5 (by decide) (by first | assumption | exact rg_b01 _ | (unfold rg; omega) | (unfold rg at *; omega)) (fun c5 => ?_) (fun c5 => absurd c5 (by first | simp [b01, hq1] | (rw [b01_t hq1]; decide)))
        refine eR_ildn_2 dX9_see_11 rfl ?_
        refine eR_i2lz dX9_see_12 (by first | assumption | exact rg_b01 _ | (unfold rg; omega) | (unfold rg at *; omega)) ?_
        refine eR_lc (z := 0) dX9_see_13 rfl ?_
        refine eR_ldc2 (z := 5) dX9_see_14 kw_1216 (by decide) ?_
        refine eR_callSi [_, _, _] rfl dX9_see_17 ok_mX9_in kw_952 rfl rfl (Nat.le_of_ble_eq_true rfl) (d' := 0) (by decide) (Nat.le_of_ble_eq_true rfl) ?_
        refine sp_in (by first | (unfold rL; omega) | (unfold rL; unfold rg at *; omega)) (by first | (unfold rL; omega) | (unfold rL; unfold rg at *; omega)) (by first | (unfold rL; omega) | (unfold rL; unfold rg at *; omega)) ?_
        refine eR_if_eq (tgt := 35) dX9_see_20 (by decide) (by first | assumption | exact rg_b01 _ | (unfold rg; omega) | (unfold rg at *; omega)) (fun c20 => absurd c20 (by first | simp [b01, hq2] | (rw [b01_t hq2]; decide))) (fun c20 => ?_)
        refine eR_ildn_3 dX9_see_23 rfl ?_
        refine eR_i2lz dX9_see_24 (by first | assumption | exact rg_b01 _ | (unfold rg; omega) | (unfold rg at *; omega)) ?_
        refine eR_lc (z := 0) dX9_see_25 rfl ?_
        refine eR_ldc2 (z := 23) dX9_see_26 kw_1102 (by decide) ?_
        refine eR_callSi [_, _, _] rfl dX9_see_29 ok_mX9_in kw_952 rfl rfl (Nat.le_of_ble_eq_true rfl) (d' := 0) (by decide) (Nat.le_of_ble_eq_true rfl) ?_
        refine sp_in (by first | (unfold rL; omega) | (unfold rL; unfold rg at *; omega)) (by first | (unfold rL; omega) | (unfold rL; unfold rg at *; omega)) (by first | (unfold rL; omega) | (unfold rL; unfold rg at *; omega)) ?_
        refine eR_if_ne (tgt := 38) dX9_see_32 (by decide) (by first | assumption | exact rg_b01 _ | (unfold rg; omega) | (unfold rg at *; omega)) (fun c32 => ?_) (fun c32 => absurd c32 (by first | simp [b01, hq3] | (rw [b01_t hq3]; decide)))
        refine eR_aldn_0 dX9_see_38 rfl ?_
        refine eR_getI dX9_see_39 gf_X9_154 th_205 rfl ?_
        refine eX_pcI (hn) ?_
        refine eR_bi (z := 30) dX9_see_42 rfl ?_
        refine eR_icmp_ne (tgt := 50) dX9_see_44 (by decide) (by first | assumption | exact rg_b01 _ | (unfold rg; omega) | (unfold rg at *; omega)) (by first | assumption | exact rg_b01 _ | (unfold rg; omega) | (unfold rg at *; omega)) (fun c44 => ?_) (fun c44 => ?_)
        · refine eR_aldn_0 dX9_see_50 rfl ?_
          refine eR_getR (i := 222) dX9_see_51 gf_X9_63 th_205 rfl ?_
          refine eR_ic dX9_see_54 ?_
          refine eR_aldn_0 dX9_see_55 rfl ?_
          refine eR_getI dX9_see_56 gf_X9_154 th_205 rfl ?_
          refine eX_pcI (hn) ?_
          refine eR_imul dX9_see_59 ?_
          refine eR_ildn_1 dX9_see_60 rfl ?_
          refine eR_iast (n := 3 * n) dX9_see_61 th_222 (by omega) (by omega) (by decide) ?_
          refine eR_aldn_0 dX9_see_62 rfl ?_
          refine eR_getR (i := 222) dX9_see_63 gf_X9_63 th_205 rfl ?_
          refine eR_ic dX9_see_66 ?_
          refine eR_aldn_0 dX9_see_67 rfl ?_
          refine eR_getI dX9_see_68 gf_X9_154 th_205 rfl ?_
          refine eX_pcI (congrFun (hU_a _ _ _ (by decide)) _) ?_
          refine eX_pcI (hn) ?_
          refine eR_imul dX9_see_71 ?_
          refine eR_ic dX9_see_72 ?_
          refine eR_iadd dX9_see_73 ?_
          refine eR_ildn_2 dX9_see_74 rfl ?_
          refine eR_iast (n := 3 * n + 1) dX9_see_75 th_222 (by omega) (by omega) (by decide) ?_
          refine eR_aldn_0 dX9_see_76 rfl ?_
          refine eR_getR (i := 222) dX9_see_77 gf_X9_63 th_205 rfl ?_
          refine eR_ic dX9_see_80 ?_
          refine eR_aldn_0 dX9_see_81 rfl ?_
          refine eR_getI dX9_see_82 gf_X9_154 th_205 rfl ?_
          refine eX_pcI (congrFun (hU_a _ _ _ (by decide)) _) ?_
          refine eX_pcI (congrFun (hU_a _ _ _ (by decide)) _) ?_
          refine eX_pcI (hn) ?_
          refine eR_imul dX9_see_85 ?_
          refine eR_ic dX9_see_86 ?_
          refine eR_iadd dX9_see_87 ?_
          refine eR_ildn_3 dX9_see_88 rfl ?_
          refine eR_iast (n := 3 * n + 2) dX9_see_89 th_222 (by omega) (by omega) (by decide) ?_
          refine eR_aldn_0 dX9_see_90 rfl ?_
          refine eR_dup dX9_see_91 rfl ?_
          refine eR_getI dX9_see_92 gf_X9_154 th_205 rfl ?_
          refine eX_pcI (congrFun (hU_a _ _ _ (by decide)) _) ?_
          refine eX_pcI (congrFun (hU_a _ _ _ (by decide)) _) ?_
          refine eX_pcI (congrFun (hU_a _ _ _ (by decide)) _) ?_
          refine eX_pcI (hn) ?_
          refine eR_ic dX9_see_95 ?_
          refine eR_iadd dX9_see_96 ?_
          refine eR_putI dX9_see_97 pf_X9_154 th_205 rfl ?_
          refine eR_aldn_0 dX9_see_100 rfl ?_
          refine eR_getI dX9_see_101 gf_X9_154 th_205 rfl ?_
          refine eX_pcI (hU_s _ _ _ _) ?_
          refine eR_iret dX9_see_104 rfl rfl ?_
          have k9 := k1 ⟨hq1, hq2, hq3, by omega⟩
          rw [show (rSee S n ↑cn ↑an ↑hn9 : Int) = ↑n + 1 from by unfold rSee; (repeat' split) <;> first | omega | rfl] at k9
          exact k9
        · refine eR_ldc (z := -1000000004) dX9_see_47 kw_956 (by decide) ?_
          refine eR_iret dX9_see_49 rfl rfl ?_
          have k9 := k0 (by rintro ⟨q1, q2, q3, q4⟩; first | contradiction | omega)
          rw [show (rSee S n ↑cn ↑an ↑hn9 : Int) = (-1000000004) from by unfold rSee; (repeat' split) <;> first | omega | rfl] at k9
          exact k9
      · refine eR_aldn_0 dX9_see_0 rfl ?_
        refine eR_ildn_1 dX9_see_1 rfl ?_
        refine eR_callVi [_] rfl dX9_see_2 ok_mX9_isCoat kw_1085 rfl rfl th_205 rfl (Nat.le_of_ble_eq_true rfl) (d' := 1) (by decide) (Nat.le_of_ble_eq_true rfl) ?_
        refine sp_isCoat B V (by first | assumption | (unfold rg; omega)) ?_
        refine eR_if_ne (tgt := 11) dX9_see_5 (by decide) (by first | assumption | exact rg_b01 _ | (unfold rg; omega) | (unfold rg at *; omega)) (fun c5 => ?_) (fun c5 => absurd c5 (by first | simp [b01, hq1] | (rw [b01_t hq1]; decide)))
        refine eR_ildn_2 dX9_see_11 rfl ?_
        refine eR_i2lz dX9_see_12 (by first | assumption | exact rg_b01 _ | (unfold rg; omega) | (unfold rg at *; omega)) ?_
        refine eR_lc (z := 0) dX9_see_13 rfl ?_
        refine eR_ldc2 (z := 5) dX9_see_14 kw_1216 (by decide) ?_
        refine eR_callSi [_, _, _] rfl dX9_see_17 ok_mX9_in kw_952 rfl rfl (Nat.le_of_ble_eq_true rfl) (d' := 0) (by decide) (Nat.le_of_ble_eq_true rfl) ?_
        refine sp_in (by first | (unfold rL; omega) | (unfold rL; unfold rg at *; omega)) (by first | (unfold rL; omega) | (unfold rL; unfold rg at *; omega)) (by first | (unfold rL; omega) | (unfold rL; unfold rg at *; omega)) ?_
        refine eR_if_eq (tgt := 35) dX9_see_20 (by decide) (by first | assumption | exact rg_b01 _ | (unfold rg; omega) | (unfold rg at *; omega)) (fun c20 => absurd c20 (by first | simp [b01, hq2] | (rw [b01_t hq2]; decide))) (fun c20 => ?_)
        refine eR_ildn_3 dX9_see_23 rfl ?_
        refine eR_i2lz dX9_see_24 (by first | assumption | exact rg_b01 _ | (unfold rg; omega) | (unfold rg at *; omega)) ?_
        refine eR_lc (z := 0) dX9_see_25 rfl ?_
        refine eR_ldc2 (z := 23) dX9_see_26 kw_1102 (by decide) ?_
        refine eR_callSi [_, _, _] rfl dX9_see_29 ok_mX9_in kw_952 rfl rfl (Nat.le_of_ble_eq_true rfl) (d' := 0) (by decide) (Nat.le_of_ble_eq_true rfl) ?_
        refine sp_in (by first | (unfold rL; omega) | (unfold rL; unfold rg at *; omega)) (by first | (unfold rL; omega) | (unfold rL; unfold rg at *; omega)) (by first | (unfold rL; omega) | (unfold rL; unfold rg at *; omega)) ?_
        refine eR_if_ne (tgt := 38) dX9_see_32 (by decide) (by first | assumption | exact rg_b01 _ | (unfold rg; omega) | (unfold rg at *; omega)) (fun c32 => absurd c32 (by first | (simp [b01, hq3]; done) | (rw [b01_f hq3]; decide))) (fun c32 => ?_)
        refine eR_ldc (z := -1000000002) dX9_see_35 kw_955 (by decide) ?_
        refine eR_iret dX9_see_37 rfl rfl ?_
        have k9 := k0 (by rintro ⟨q1, q2, q3, q4⟩; first | contradiction | omega)
        rw [show (rSee S n ↑cn ↑an hour : Int) = (-1000000002) from by unfold rSee; (repeat' split) <;> first | omega | rfl] at k9
        exact k9
    · refine eR_aldn_0 dX9_see_0 rfl ?_
      refine eR_ildn_1 dX9_see_1 rfl ?_
      refine eR_callVi [_] rfl dX9_see_2 ok_mX9_isCoat kw_1085 rfl rfl th_205 rfl (Nat.le_of_ble_eq_true rfl) (d' := 1) (by decide) (Nat.le_of_ble_eq_true rfl) ?_
      refine sp_isCoat B V (by first | assumption | (unfold rg; omega)) ?_
      refine eR_if_ne (tgt := 11) dX9_see_5 (by decide) (by first | assumption | exact rg_b01 _ | (unfold rg; omega) | (unfold rg at *; omega)) (fun c5 => ?_) (fun c5 => absurd c5 (by first | simp [b01, hq1] | (rw [b01_t hq1]; decide)))
      refine eR_ildn_2 dX9_see_11 rfl ?_
      refine eR_i2lz dX9_see_12 (by first | assumption | exact rg_b01 _ | (unfold rg; omega) | (unfold rg at *; omega)) ?_
      refine eR_lc (z := 0) dX9_see_13 rfl ?_
      refine eR_ldc2 (z := 5) dX9_see_14 kw_1216 (by decide) ?_
      refine eR_callSi [_, _, _] rfl dX9_see_17 ok_mX9_in kw_952 rfl rfl (Nat.le_of_ble_eq_true rfl) (d' := 0) (by decide) (Nat.le_of_ble_eq_true rfl) ?_
      refine sp_in (by first | (unfold rL; omega) | (unfold rL; unfold rg at *; omega)) (by first | (unfold rL; omega) | (unfold rL; unfold rg at *; omega)) (by first | (unfold rL; omega) | (unfold rL; unfold rg at *; omega)) ?_
      refine eR_if_eq (tgt := 35) dX9_see_20 (by decide) (by first | assumption | exact rg_b01 _ | (unfold rg; omega) | (unfold rg at *; omega)) (fun c20 => ?_) (fun c20 => absurd c20 (by first | (simp [b01, hq2]; done) | (rw [b01_f hq2]; decide)))
      refine eR_ldc (z := -1000000002) dX9_see_35 kw_955 (by decide) ?_
      refine eR_iret dX9_see_37 rfl rfl ?_
      have k9 := k0 (by rintro ⟨q1, q2, q3, q4⟩; first | contradiction | omega)
      rw [show (rSee S n ↑cn at1 hour : Int) = (-1000000002) from by unfold rSee; (repeat' split) <;> first | omega | rfl] at k9
      exact k9
  · refine eR_aldn_0 dX9_see_0 rfl ?_
    refine eR_ildn_1 dX9_see_1 rfl ?_
    refine eR_callVi [_] rfl dX9_see_2 ok_mX9_isCoat kw_1085 rfl rfl th_205 rfl (Nat.le_of_ble_eq_true rfl) (d' := 1) (by decide) (Nat.le_of_ble_eq_true rfl) ?_
    refine sp_isCoat B V (by first | assumption | (unfold rg; omega)) ?_
    refine eR_if_ne (tgt := 11) dX9_see_5 (by decide) (by first | assumption | exact rg_b01 _ | (unfold rg; omega) | (unfold rg at *; omega)) (fun c5 => absurd c5 (by first | (simp [b01, hq1]; done) | (rw [b01_f hq1]; decide))) (fun c5 => ?_)
    refine eR_ldc (z := -1000000001) dX9_see_8 kw_1089 (by decide) ?_
    refine eR_iret dX9_see_10 rfl rfl ?_
    have k9 := k0 (by rintro ⟨q1, q2, q3, q4⟩; first | contradiction | omega)
    rw [show (rSee S n c at1 hour : Int) = (-1000000001) from by unfold rSee; (repeat' split) <;> first | omega | rfl] at k9
    exact k9
theorem sp_write (B : sB S) (V : mV h S) {hour : Int} (hr_hour : rg hour) {c : Int} (hr_c : rg c) {what : Int} (hr_what : rg what) {n : Nat} (hn : h 205 28 = (n : Int)) (hn30 : n ≤ 30) (k0 : ¬ okWrite S n hour c what → Q (.int (zI (rWrite S n hour c what))) (tau t s) h) (k1 : okWrite S n hour c what → Q (.int (zI (rWrite S n hour c what))) (tau t s) (hU (hU (hU (hU h 223 (3 * n) hour) 223 (3 * n + 1) c) 223 (3 * n + 2) what) 205 28 (↑n + 1))) : eX g 2 mX9_write 0 (lv_args 0 [.ref (gA g 205), .int (zI hour), .int (zI c), .int (zI what)]) [] (tau t s) h Q := by
  show eX g 2 mX9_write 0 [(0, .ref (gA g 205)), (1, .int (zI hour)), (2, .int (zI c)), (3, .int (zI what))] [] (tau t s) h Q
  have hP8 := B.1
  have hC8 := B.2.1
  have hE10 := B.2.2.1
  have hF99 := B.2.2.2.2.2.2.1
  by_cases hq1 : 0 ≤ c ∧ c ≤ ↑(sC S) - 1
  · obtain ⟨cn, rfl⟩ : ∃ cn : Nat, c = (cn : Int) := ⟨c.toNat, by omega⟩
    by_cases hq2 : 0 ≤ hour ∧ hour ≤ 23
    · obtain ⟨hn9, rfl⟩ : ∃ hn9 : Nat, hour = (hn9 : Int) := ⟨hour.toNat, by omega⟩
      by_cases hq3 : 0 ≤ what ∧ what ≤ 3
      · obtain ⟨wn, rfl⟩ : ∃ wn : Nat, what = (wn : Int) := ⟨what.toNat, by omega⟩
        refine eR_aldn_0 dX9_write_0 rfl ?_
        refine eR_ildn_2 dX9_write_1 rfl ?_
        refine eR_callVi [_] rfl dX9_write_2 ok_mX9_isCoat kw_1085 rfl rfl th_205 rfl (Nat.le_of_ble_eq_true rfl) (d' := 1) (by decide) (Nat.le_of_ble_eq_true rfl) ?_
        refine sp_isCoat B V (by first | assumption | (unfold rg; omega)) ?_
        refine eR_if_ne (tgt := 11) dX9_write_5 (by decide) (by first | assumption | exact rg_b01 _ | (unfold rg; omega) | (unfold rg at *; omega)) (fun c5 => ?_) (fun c5 => absurd c5 (by first | simp [b01, hq1] | (rw [b01_t hq1]; decide)))
        refine eR_ildn_1 dX9_write_11 rfl ?_
        refine eR_i2lz dX9_write_12 (by first | assumption | exact rg_b01 _ | (unfold rg; omega) | (unfold rg at *; omega)) ?_
        refine eR_lc (z := 0) dX9_write_13 rfl ?_
        refine eR_ldc2 (z := 23) dX9_write_14 kw_1102 (by decide) ?_
        refine eR_callSi [_, _, _] rfl dX9_write_17 ok_mX9_in kw_952 rfl rfl (Nat.le_of_ble_eq_true rfl) (d' := 0) (by decide) (Nat.le_of_ble_eq_true rfl) ?_
        refine sp_in (by first | (unfold rL; omega) | (unfold rL; unfold rg at *; omega)) (by first | (unfold rL; omega) | (unfold rL; unfold rg at *; omega)) (by first | (unfold rL; omega) | (unfold rL; unfold rg at *; omega)) ?_
        refine eR_if_eq (tgt := 35) dX9_write_20 (by decide) (by first | assumption | exact rg_b01 _ | (unfold rg; omega) | (unfold rg at *; omega)) (fun c20 => absurd c20 (by first | simp [b01, hq2] | (rw [b01_t hq2]; decide))) (fun c20 => ?_)
        refine eR_ildn_3 dX9_write_23 rfl ?_
        refine eR_i2lz dX9_write_24 (by first | assumption | exact rg_b01 _ | (unfold rg; omega) | (unfold rg at *; omega)) ?_
        refine eR_lc (z := 0) dX9_write_25 rfl ?_
        refine eR_ldc2 (z := 3) dX9_write_26 kw_1233 (by decide) ?_
        refine eR_callSi [_, _, _] rfl dX9_write_29 ok_mX9_in kw_952 rfl rfl (Nat.le_of_ble_eq_true rfl) (d' := 0) (by decide) (Nat.le_of_ble_eq_true rfl) ?_
        refine sp_in (by first | (unfold rL; omega) | (unfold rL; unfold rg at *; omega)) (by first | (unfold rL; omega) | (unfold rL; unfold rg at *; omega)) (by first | (unfold rL; omega) | (unfold rL; unfold rg at *; omega)) ?_
        refine eR_if_ne (tgt := 38) dX9_write_32 (by decide) (by first | assumption | exact rg_b01 _ | (unfold rg; omega) | (unfold rg at *; omega)) (fun c32 => ?_) (fun c32 => absurd c32 (by first | simp [b01, hq3] | (rw [b01_t hq3]; decide)))
        refine eR_aldn_0 dX9_write_38 rfl ?_
        refine eR_getI dX9_write_39 gf_X9_157 th_205 rfl ?_
        refine eX_pcI (hn) ?_
        refine eR_bi (z := 30) dX9_write_42 rfl ?_
        refine eR_icmp_ne (tgt := 50) dX9_write_44 (by decide) (by first | assumption | exact rg_b01 _ | (unfold rg; omega) | (unfold rg at *; omega)) (by first | assumption | exact rg_b01 _ | (unfold rg; omega) | (unfold rg at *; omega)) (fun c44 => ?_) (fun c44 => ?_)
        · refine eR_aldn_0 dX9_write_50 rfl ?_
          refine eR_getR (i := 223) dX9_write_51 gf_X9_66 th_205 rfl ?_
          refine eR_ic dX9_write_54 ?_
          refine eR_aldn_0 dX9_write_55 rfl ?_
          refine eR_getI dX9_write_56 gf_X9_157 th_205 rfl ?_
          refine eX_pcI (hn) ?_
          refine eR_imul dX9_write_59 ?_
          refine eR_ildn_1 dX9_write_60 rfl ?_
          refine eR_iast (n := 3 * n) dX9_write_61 th_223 (by omega) (by omega) (by decide) ?_
          refine eR_aldn_0 dX9_write_62 rfl ?_
          refine eR_getR (i := 223) dX9_write_63 gf_X9_66 th_205 rfl ?_
          refine eR_ic dX9_write_66 ?_
          refine eR_aldn_0 dX9_write_67 rfl ?_
          refine eR_getI dX9_write_68 gf_X9_157 th_205 rfl ?_
          refine eX_pcI (congrFun (hU_a _ _ _ (by decide)) _) ?_
          refine eX_pcI (hn) ?_
          refine eR_imul dX9_write_71 ?_
          refine eR_ic dX9_write_72 ?_
          refine eR_iadd dX9_write_73 ?_
          refine eR_ildn_2 dX9_write_74 rfl ?_
          refine eR_iast (n := 3 * n + 1) dX9_write_75 th_223 (by omega) (by omega) (by decide) ?_
          refine eR_aldn_0 dX9_write_76 rfl ?_
          refine eR_getR (i := 223) dX9_write_77 gf_X9_66 th_205 rfl ?_
          refine eR_ic dX9_write_80 ?_
          refine eR_aldn_0 dX9_write_81 rfl ?_
          refine eR_getI dX9_write_82 gf_X9_157 th_205 rfl ?_
          refine eX_pcI (congrFun (hU_a _ _ _ (by decide)) _) ?_
          refine eX_pcI (congrFun (hU_a _ _ _ (by decide)) _) ?_
          refine eX_pcI (hn) ?_
          refine eR_imul dX9_write_85 ?_
          refine eR_ic dX9_write_86 ?_
          refine eR_iadd dX9_write_87 ?_
          refine eR_ildn_3 dX9_write_88 rfl ?_
          refine eR_iast (n := 3 * n + 2) dX9_write_89 th_223 (by omega) (by omega) (by decide) ?_
          refine eR_aldn_0 dX9_write_90 rfl ?_
          refine eR_dup dX9_write_91 rfl ?_
          refine eR_getI dX9_write_92 gf_X9_157 th_205 rfl ?_
          refine eX_pcI (congrFun (hU_a _ _ _ (by decide)) _) ?_
          refine eX_pcI (congrFun (hU_a _ _ _ (by decide)) _) ?_
          refine eX_pcI (congrFun (hU_a _ _ _ (by decide)) _) ?_
          refine eX_pcI (hn) ?_
          refine eR_ic dX9_write_95 ?_
          refine eR_iadd dX9_write_96 ?_
          refine eR_putI dX9_write_97 pf_X9_157 th_205 rfl ?_
          refine eR_aldn_0 dX9_write_100 rfl ?_
          refine eR_getI dX9_write_101 gf_X9_157 th_205 rfl ?_
          refine eX_pcI (hU_s _ _ _ _) ?_
          refine eR_iret dX9_write_104 rfl rfl ?_
          have k9 := k1 ⟨hq1, hq2, hq3, by omega⟩
          rw [show (rWrite S n ↑hn9 ↑cn ↑wn : Int) = ↑n + 1 from by unfold rWrite; (repeat' split) <;> first | omega | rfl] at k9
          exact k9
        · refine eR_ldc (z := -1000000004) dX9_write_47 kw_956 (by decide) ?_
          refine eR_iret dX9_write_49 rfl rfl ?_
          have k9 := k0 (by rintro ⟨q1, q2, q3, q4⟩; first | contradiction | omega)
          rw [show (rWrite S n ↑hn9 ↑cn ↑wn : Int) = (-1000000004) from by unfold rWrite; (repeat' split) <;> first | omega | rfl] at k9
          exact k9
      · refine eR_aldn_0 dX9_write_0 rfl ?_
        refine eR_ildn_2 dX9_write_1 rfl ?_
        refine eR_callVi [_] rfl dX9_write_2 ok_mX9_isCoat kw_1085 rfl rfl th_205 rfl (Nat.le_of_ble_eq_true rfl) (d' := 1) (by decide) (Nat.le_of_ble_eq_true rfl) ?_
        refine sp_isCoat B V (by first | assumption | (unfold rg; omega)) ?_
        refine eR_if_ne (tgt := 11) dX9_write_5 (by decide) (by first | assumption | exact rg_b01 _ | (unfold rg; omega) | (unfold rg at *; omega)) (fun c5 => ?_) (fun c5 => absurd c5 (by first | simp [b01, hq1] | (rw [b01_t hq1]; decide)))
        refine eR_ildn_1 dX9_write_11 rfl ?_
        refine eR_i2lz dX9_write_12 (by first | assumption | exact rg_b01 _ | (unfold rg; omega) | (unfold rg at *; omega)) ?_
        refine eR_lc (z := 0) dX9_write_13 rfl ?_
        refine eR_ldc2 (z := 23) dX9_write_14 kw_1102 (by decide) ?_
        refine eR_callSi [_, _, _] rfl dX9_write_17 ok_mX9_in kw_952 rfl rfl (Nat.le_of_ble_eq_true rfl) (d' := 0) (by decide) (Nat.le_of_ble_eq_true rfl) ?_
        refine sp_in (by first | (unfold rL; omega) | (unfold rL; unfold rg at *; omega)) (by first | (unfold rL; omega) | (unfold rL; unfold rg at *; omega)) (by first | (unfold rL; omega) | (unfold rL; unfold rg at *; omega)) ?_
        refine eR_if_eq (tgt := 35) dX9_write_20 (by decide) (by first | assumption | exact rg_b01 _ | (unfold rg; omega) | (unfold rg at *; omega)) (fun c20 => absurd c20 (by first | simp [b01, hq2] | (rw [b01_t hq2]; decide))) (fun c20 => ?_)
        refine eR_ildn_3 dX9_write_23 rfl ?_
        refine eR_i2lz dX9_write_24 (by first | assumption | exact rg_b01 _ | (unfold rg; omega) | (unfold rg at *; omega)) ?_
        refine eR_lc (z := 0) dX9_write_25 rfl ?_
        refine eR_ldc2 (z := 3) dX9_write_26 kw_1233 (by decide) ?_
        refine eR_callSi [_, _, _] rfl dX9_write_29 ok_mX9_in kw_952 rfl rfl (Nat.le_of_ble_eq_true rfl) (d' := 0) (by decide) (Nat.le_of_ble_eq_true rfl) ?_
        refine sp_in (by first | (unfold rL; omega) | (unfold rL; unfold rg at *; omega)) (by first | (unfold rL; omega) | (unfold rL; unfold rg at *; omega)) (by first | (unfold rL; omega) | (unfold rL; unfold rg at *; omega)) ?_
        refine eR_if_ne (tgt := 38) dX9_write_32 (by decide) (by first | assumption | exact rg_b01 _ | (unfold rg; omega) | (unfold rg at *; omega)) (fun c32 => absurd c32 (by first | (simp [b01, hq3]; done) | (rw [b01_f hq3]; decide))) (fun c32 => ?_)
        refine eR_ldc (z := -1000000002) dX9_write_35 kw_955 (by decide) ?_
        refine eR_iret dX9_write_37 rfl rfl ?_
        have k9 := k0 (by rintro ⟨q1, q2, q3, q4⟩; first | contradiction | omega)
        rw [show (rWrite S n ↑hn9 ↑cn what : Int) = (-1000000002) from by unfold rWrite; (repeat' split) <;> first | omega | rfl] at k9
        exact k9
    · refine eR_aldn_0 dX9_write_0 rfl ?_
      refine eR_ildn_2 dX9_write_1 rfl ?_
      refine eR_callVi [_] rfl dX9_write_2 ok_mX9_isCoat kw_1085 rfl rfl th_205 rfl (Nat.le_of_ble_eq_true rfl) (d' := 1) (by decide) (Nat.le_of_ble_eq_true rfl) ?_
      refine sp_isCoat B V (by first | assumption | (unfold rg; omega)) ?_
      refine eR_if_ne (tgt := 11) dX9_write_5 (by decide) (by first | assumption | exact rg_b01 _ | (unfold rg; omega) | (unfold rg at *; omega)) (fun c5 => ?_) (fun c5 => absurd c5 (by first | simp [b01, hq1] | (rw [b01_t hq1]; decide)))
      refine eR_ildn_1 dX9_write_11 rfl ?_
      refine eR_i2lz dX9_write_12 (by first | assumption | exact rg_b01 _ | (unfold rg; omega) | (unfold rg at *; omega)) ?_
      refine eR_lc (z := 0) dX9_write_13 rfl ?_
      refine eR_ldc2 (z := 23) dX9_write_14 kw_1102 (by decide) ?_
      refine eR_callSi [_, _, _] rfl dX9_write_17 ok_mX9_in kw_952 rfl rfl (Nat.le_of_ble_eq_true rfl) (d' := 0) (by decide) (Nat.le_of_ble_eq_true rfl) ?_
      refine sp_in (by first | (unfold rL; omega) | (unfold rL; unfold rg at *; omega)) (by first | (unfold rL; omega) | (unfold rL; unfold rg at *; omega)) (by first | (unfold rL; omega) | (unfold rL; unfold rg at *; omega)) ?_
      refine eR_if_eq (tgt := 35) dX9_write_20 (by decide) (by first | assumption | exact rg_b01 _ | (unfold rg; omega) | (unfold rg at *; omega)) (fun c20 => ?_) (fun c20 => absurd c20 (by first | (simp [b01, hq2]; done) | (rw [b01_f hq2]; decide)))
      refine eR_ldc (z := -1000000002) dX9_write_35 kw_955 (by decide) ?_
      refine eR_iret dX9_write_37 rfl rfl ?_
      have k9 := k0 (by rintro ⟨q1, q2, q3, q4⟩; first | contradiction | omega)
      rw [show (rWrite S n hour ↑cn what : Int) = (-1000000002) from by unfold rWrite; (repeat' split) <;> first | omega | rfl] at k9
      exact k9
  · refine eR_aldn_0 dX9_write_0 rfl ?_
    refine eR_ildn_2 dX9_write_1 rfl ?_
    refine eR_callVi [_] rfl dX9_write_2 ok_mX9_isCoat kw_1085 rfl rfl th_205 rfl (Nat.le_of_ble_eq_true rfl) (d' := 1) (by decide) (Nat.le_of_ble_eq_true rfl) ?_
    refine sp_isCoat B V (by first | assumption | (unfold rg; omega)) ?_
    refine eR_if_ne (tgt := 11) dX9_write_5 (by decide) (by first | assumption | exact rg_b01 _ | (unfold rg; omega) | (unfold rg at *; omega)) (fun c5 => absurd c5 (by first | (simp [b01, hq1]; done) | (rw [b01_f hq1]; decide))) (fun c5 => ?_)
    refine eR_ldc (z := -1000000001) dX9_write_8 kw_1089 (by decide) ?_
    refine eR_iret dX9_write_10 rfl rfl ?_
    have k9 := k0 (by rintro ⟨q1, q2, q3, q4⟩; first | contradiction | omega)
    rw [show (rWrite S n hour c what : Int) = (-1000000001) from by unfold rWrite; (repeat' split) <;> first | omega | rfl] at k9
    exact k9
end M26
