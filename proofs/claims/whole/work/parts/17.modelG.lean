noncomputable def rWorn (S : TS) (hour c : Int) : Int := if c = -1 then (if 0 ≤ hour ∧ hour ≤ 23 then hrC S hour.toNat else -1000000002) else if 0 ≤ c ∧ c ≤ (sC S : Int) - 1 then (if 0 ≤ hour ∧ hour ≤ 23 then (wrW S hour.toNat c.toNat : Int) else -1000000002) else -1000000001
abbrev wrI (S : TS) (p c w : Nat) : Prop := (sO S c 0 = p ∧ (w = 1 ∨ w = 3)) ∨ (sO S c 1 = p ∧ 2 ≤ w)
noncomputable def chV (S : TS) (hour p : Nat) : Nat → Int
  | 0 => (sF S : Int)
  | c + 1 => chV S hour p c - (if wrI S p c (wrW S hour c) then (savN S (if (sK S).testBit c = true ∨ wrW S hour c = 3 then sW S c / 2 else sW S c) : Int) else 0)
noncomputable def rChill (S : TS) (p hour : Int) : Int := if 0 ≤ p ∧ p ≤ (sP S : Int) - 1 then (if 0 ≤ hour ∧ hour ≤ 23 then (if 0 ≤ whereIs S p.toNat hour.toNat then chV S hour.toNat p.toNat (sC S) else 0) else -1000000002) else -1000000001
theorem chV_rg {S : TS} (B : sB S) (hour p : Nat) : ∀ c : Nat, -99 * (c : Int) ≤ chV S hour p c ∧ chV S hour p c ≤ 99 := by
  intro c
  induction c with
  | zero => have := B.2.2.2.2.2.2.1; unfold chV; omega
  | succ c ih =>
    have h1 := savN_le B (if (sK S).testBit c = true ∨ wrW S hour c = 3 then sW S c / 2 else sW S c)
    unfold chV
    split <;> omega
theorem of2_rf (a c : Nat) (h : PH) : of2 a c h h := fun _ _ _ => rfl
theorem of2_o1 {a c : Nat} {h h' : PH} (H : ofO a h h') : of2 a c h h' := fun b h1 _ => H b h1
/-- HOURS in which both owners are OUT -/
abbrev bothO (S : TS) (c hour : Nat) : Prop := 0 ≤ whereIs S (sO S c 0) hour ∧ 0 ≤ whereIs S (sO S c 1) hour
def cnF (S : TS) (c : Nat) : Nat → Nat
  | 0 => 0
  | k + 1 => cnF S c k + (if bothO S c k then 1 else 0)
def offF (n w k : Nat) : Int := let x : Int := ((n : Int) - 2 * (k : Int)) * (w : Int); if x < 0 then -x else x
def frL (n w : Nat) : Nat → Int × Nat
  | 0 => (-1, 0)
  | k + 1 => if (frL n w k).1 < 0 ∨ offF n w k < (frL n w k).1 then (offF n w k, k) else frL n w k
def frS (S : TS) (c m : Nat) : Nat → Nat × Nat
  | 0 => (m, 0)
  | k + 1 => if 0 < (frS S c m k).1 ∧ bothO S c k then ((frS S c m k).1 - 1, (frS S c m k).2 ||| 2 ^ k) else frS S c m k
def fairN (S : TS) (c : Nat) : Int × Nat := frL (cnF S c 24) (savN S (sW S c)) (cnF S c 24 + 1)
def rFair (S : TS) (c what : Int) : Int := if 0 ≤ c ∧ c ≤ (sC S : Int) - 1 then (if 0 ≤ what ∧ what ≤ 1 then (if (sK S).testBit c.toNat = true then -1000000003 else if what = 0 then (fairN S c.toNat).1 else ((frS S c.toNat (fairN S c.toNat).2 24).2 : Int)) else -1000000002) else -1000000001
theorem cnF_le (S : TS) (c k : Nat) : cnF S c k ≤ k := by
  induction k with
  | zero => exact Nat.le_refl _
  | succ k ih => unfold cnF; split <;> omega
theorem offF_rg {n w k : Nat} (hn : n ≤ 24) (hw : w ≤ 99) (hk : k ≤ n) : 0 ≤ offF n w k ∧ offF n w k ≤ 2376 := by
  have h1 : ((n : Int) - 2 * (k : Int)) * (w : Int) ≤ 24 * 99 := by
    rcases Int.le_total 0 ((n : Int) - 2 * (k : Int)) with q | q
    · exact Int.mul_le_mul (by omega) (by omega) (by omega) (by omega)
    · have := Int.mul_nonneg (show 0 ≤ -((n : Int) - 2 * (k : Int)) by omega) (show (0 : Int) ≤ w by omega)
      rw [Int.neg_mul] at this
      omega
  have h2 : -(((n : Int) - 2 * (k : Int)) * (w : Int)) ≤ 24 * 99 := by
    rw [← Int.neg_mul]
    rcases Int.le_total 0 (-((n : Int) - 2 * (k : Int))) with q | q
    · exact Int.mul_le_mul (by omega) (by omega) (by omega) (by omega)
    · have := Int.mul_nonneg (show 0 ≤ ((n : Int) - 2 * (k : Int)) by omega) (show (0 : Int) ≤ w by omega)
      rw [Int.neg_mul]
      omega
  unfold offF
  simp only
  split <;> omega
theorem frL_rg {n w : Nat} (hn : n ≤ 24) (hw : w ≤ 99) : ∀ k, k ≤ n + 1 → -1 ≤ (frL n w k).1 ∧ (frL n w k).1 ≤ 2376 ∧ (frL n w k).2 ≤ n := by
  intro k
  induction k with
  | zero => intro _; unfold frL; simp
  | succ k ih =>
    intro hk
    have h1 := ih (by omega)
    have h2 := offF_rg (k := k) hn hw (by omega)
    unfold frL
    split
    · simp only; omega
    · exact h1
theorem frS_rg {S : TS} {c m : Nat} (hm : m ≤ 24) : ∀ k, k ≤ 24 → (frS S c m k).1 ≤ 24 ∧ (frS S c m k).2 < 2 ^ 24 := by
  intro k
  induction k with
  | zero => intro _; unfold frS; simp; omega
  | succ k ih =>
    intro hk
    have h1 := ih (by omega)
    unfold frS
    split
    · refine ⟨by simp only; omega, Nat.or_lt_two_pow h1.2 (Nat.pow_lt_pow_right (by omega) (by omega))⟩
    · exact h1
section M17
variable {g : EG} {d t s : Nat} {h h1 : PH} {Q : EQ} {S : TS}
theorem sp_worn (B : sB S) (V : mV h S) {hour : Int} (hr_hour : rg hour) {c : Int} (hr_c : rg c) (k : ∀ h1 : PH, of2 219 220 h h1 → Q (.int (zI (rWorn S hour c))) (tau t s) h1) : eX g 7 mX9_worn 0 (lv_args 0 [.ref (gA g 205), .int (zI hour), .int (zI c)]) [] (tau t s) h Q := by
  show eX g 7 mX9_worn 0 [(0, .ref (gA g 205)), (1, .int (zI hour)), (2, .int (zI c))] [] (tau t s) h Q
  have hP8 := B.1
  have hC8 := B.2.1
  have hE10 := B.2.2.1
  have hF99 := B.2.2.2.2.2.2.1
  have hc9 := hrC_rg B hour.toNat
  by_cases hq0 : c = -1
  · subst hq0
    by_cases hq2 : 0 ≤ hour ∧ hour ≤ 23
    · obtain ⟨hn, rfl⟩ : ∃ hn : Nat, hour = (hn : Int) := ⟨hour.toNat, by omega⟩
      refine eR_ildn_2 dX9_worn_0 rfl ?_
      refine eR_ic dX9_worn_1 ?_
      refine eR_icmp_eq (tgt := 16) dX9_worn_2 (by decide) (by first | assumption | exact rg_b01 _ | (unfold rg; omega) | (unfold rg at *; omega)) (by first | assumption | exact rg_b01 _ | (unfold rg; omega) | (unfold rg at *; omega)) (fun c2 => ?_) (fun c2 => absurd c2 (by omega))
      refine eR_ildn_1 dX9_worn_16 rfl ?_
      refine eR_i2lz dX9_worn_17 (by first | assumption | exact rg_b01 _ | (unfold rg; omega) | (unfold rg at *; omega)) ?_
      refine eR_lc (z := 0) dX9_worn_18 rfl ?_
      refine eR_ldc2 (z := 23) dX9_worn_19 kw_1102 (by decide) ?_
      refine eR_callSi [_, _, _] rfl dX9_worn_22 ok_mX9_in kw_952 rfl rfl (Nat.le_of_ble_eq_true rfl) (d' := 0) (by decide) (Nat.le_of_ble_eq_true rfl) ?_
      refine sp_in (by first | (unfold rL; omega) | (unfold rL; unfold rg at *; omega)) (by first | (unfold rL; omega) | (unfold rL; unfold rg at *; omega)) (by first | (unfold rL; omega) | (unfold rL; unfold rg at *; omega)) ?_
      refine eR_if_ne (tgt := 31) dX9_worn_25 (by decide) (by first | assumption | exact rg_b01 _ | (unfold rg; omega) | (unfold rg at *; omega)) (fun c25 => ?_) (fun c25 => absurd c25 (by simp [b01, hq2]))
      refine eR_ildn_2 dX9_worn_31 rfl ?_
      refine eR_if_ge (tgt := 41) dX9_worn_32 (by decide) (by first | assumption | exact rg_b01 _ | (unfold rg; omega) | (unfold rg at *; omega)) (fun c32 => absurd c32 (by omega)) (fun c32 => ?_)
      refine eR_aldn_0 dX9_worn_35 rfl ?_
      refine eR_ildn_1 dX9_worn_36 rfl ?_
      refine eR_callVi [_] rfl dX9_worn_37 ok_mX9_hourChill kw_1027 rfl rfl th_205 rfl (Nat.le_of_ble_eq_true rfl) (d' := 6) (by decide) (Nat.le_of_ble_eq_true rfl) ?_
      refine sp_hourChill (hour := hn) B V (by omega) (fun k2 Ok2 => ?_)
      have Vk2 := mV_o V Ok2 (by decide)
      refine eR_iret dX9_worn_40 rfl rfl ?_
      have k9 := k k2 (by first | exact Ok2 | exact of2_o1 Ok2)
      rw [show (rWorn S ↑hn (-1) : Int) = hrC S hn from by unfold rWorn; (repeat' split) <;> first | rfl | omega | simp_all] at k9; exact k9
    · refine eR_ildn_2 dX9_worn_0 rfl ?_
      refine eR_ic dX9_worn_1 ?_
      refine eR_icmp_eq (tgt := 16) dX9_worn_2 (by decide) (by first | assumption | exact rg_b01 _ | (unfold rg; omega) | (unfold rg at *; omega)) (by first | assumption | exact rg_b01 _ | (unfold rg; omega) | (unfold rg at *; omega)) (fun c2 => ?_) (fun c2 => absurd c2 (by omega))
      refine eR_ildn_1 dX9_worn_16 rfl ?_
      refine eR_i2lz dX9_worn_17 (by first | assumption | exact rg_b01 _ | (unfold rg; omega) | (unfold rg at *; omega)) ?_
      refine eR_lc (z := 0) dX9_worn_18 rfl ?_
      refine eR_ldc2 (z := 23) dX9_worn_19 kw_1102 (by decide) ?_
      refine eR_callSi [_, _, _] rfl dX9_worn_22 ok_mX9_in kw_952 rfl rfl (Nat.le_of_ble_eq_true rfl) (d' := 0) (by decide) (Nat.le_of_ble_eq_true rfl) ?_
      refine sp_in (by first | (unfold rL; omega) | (unfold rL; unfold rg at *; omega)) (by first | (unfold rL; omega) | (unfold rL; unfold rg at *; omega)) (by first | (unfold rL; omega) | (unfold rL; unfold rg at *; omega)) ?_
      refine eR_if_ne (tgt := 31) dX9_worn_25 (by decide) (by first | assumption | exact rg_b01 _ | (unfold rg; omega) | (unfold rg at *; omega)) (fun c25 => absurd c25 (by simp [b01, hq2])) (fun c25 => ?_)
      refine eR_ldc (z := -1000000002) dX9_worn_28 kw_955 (by decide) ?_
      refine eR_iret dX9_worn_30 rfl rfl ?_
      have k9 := k h (of2_rf _ _ _)
      rw [show (rWorn S hour (-1) : Int) = (-1000000002) from by unfold rWorn; (repeat' split) <;> first | rfl | omega | simp_all] at k9; exact k9
  · by_cases hq1 : 0 ≤ c ∧ c ≤ ↑(sC S) - 1
    · obtain ⟨cn, rfl⟩ : ∃ cn : Nat, c = (cn : Int) := ⟨c.toNat, by omega⟩
      by_cases hq2 : 0 ≤ hour ∧ hour ≤ 23
      · obtain ⟨hn, rfl⟩ : ∃ hn : Nat, hour = (hn : Int) := ⟨hour.toNat, by omega⟩
        refine eR_ildn_2 dX9_worn_0 rfl ?_
        refine eR_ic dX9_worn_1 ?_
        refine eR_icmp_eq (tgt := 16) dX9_worn_2 (by decide) (by first | assumption | exact rg_b01 _ | (unfold rg; omega) | (unfold rg at *; omega)) (by first | assumption | exact rg_b01 _ | (unfold rg; omega) | (unfold rg at *; omega)) (fun c2 => absurd c2 (by omega)) (fun c2 => ?_)
        refine eR_aldn_0 dX9_worn_5 rfl ?_
        refine eR_ildn_2 dX9_worn_6 rfl ?_
        refine eR_callVi [_] rfl dX9_worn_7 ok_mX9_isCoat kw_1085 rfl rfl th_205 rfl (Nat.le_of_ble_eq_true rfl) (d' := 1) (by decide) (Nat.le_of_ble_eq_true rfl) ?_
        refine sp_isCoat B V (by first | assumption | (unfold rg; omega)) ?_
        refine eR_if_ne (tgt := 16) dX9_worn_10 (by decide) (by first | assumption | exact rg_b01 _ | (unfold rg; omega) | (unfold rg at *; omega)) (fun c10 => ?_) (fun c10 => absurd c10 (by simp [b01, hq1]))
        refine eR_ildn_1 dX9_worn_16 rfl ?_
        refine eR_i2lz dX9_worn_17 (by first | assumption | exact rg_b01 _ | (unfold rg; omega) | (unfold rg at *; omega)) ?_
        refine eR_lc (z := 0) dX9_worn_18 rfl ?_
        refine eR_ldc2 (z := 23) dX9_worn_19 kw_1102 (by decide) ?_
        refine eR_callSi [_, _, _] rfl dX9_worn_22 ok_mX9_in kw_952 rfl rfl (Nat.le_of_ble_eq_true rfl) (d' := 0) (by decide) (Nat.le_of_ble_eq_true rfl) ?_
        refine sp_in (by first | (unfold rL; omega) | (unfold rL; unfold rg at *; omega)) (by first | (unfold rL; omega) | (unfold rL; unfold rg at *; omega)) (by first | (unfold rL; omega) | (unfold rL; unfold rg at *; omega)) ?_
        refine eR_if_ne (tgt := 31) dX9_worn_25 (by decide) (by first | assumption | exact rg_b01 _ | (unfold rg; omega) | (unfold rg at *; omega)) (fun c25 => ?_) (fun c25 => absurd c25 (by simp [b01, hq2]))
        refine eR_ildn_2 dX9_worn_31 rfl ?_
        refine eR_if_ge (tgt := 41) dX9_worn_32 (by decide) (by first | assumption | exact rg_b01 _ | (unfold rg; omega) | (unfold rg at *; omega)) (fun c32 => ?_) (fun c32 => absurd c32 (by omega))
        refine eR_aldn_0 dX9_worn_41 rfl ?_
        refine eR_ildn_1 dX9_worn_42 rfl ?_
        refine eR_callVv [_] rfl dX9_worn_43 ok_mX9_chooseWearing kw_1148 rfl rfl th_205 rfl (Nat.le_of_ble_eq_true rfl) (d' := 6) (by decide) (Nat.le_of_ble_eq_true rfl) ?_
        refine sp_chooseWearing (hour := hn) B V (by omega) (fun k2 Ok2 Dk2 => ?_)
        have Vk2 := mV_o2 V Ok2 (by decide) (by decide)
        refine eR_aldn_0 dX9_worn_46 rfl ?_
        refine eR_getR (i := 220) dX9_worn_47 gf_X9_57 th_205 rfl ?_
        refine eR_ildn_2 dX9_worn_50 rfl ?_
        refine eR_iald (n := cn) dX9_worn_51 th_220 (rfl) (by omega) (by decide) ?_
        refine eX_pcI (Dk2 cn (by omega)) ?_
        refine eR_iret dX9_worn_52 rfl rfl ?_
        have k9 := k k2 (by first | exact Ok2 | exact of2_o1 Ok2)
        rw [show (rWorn S ↑hn ↑cn : Int) = ↑(wrW S hn cn) from by unfold rWorn; (repeat' split) <;> first | rfl | omega | simp_all] at k9; exact k9
      · refine eR_ildn_2 dX9_worn_0 rfl ?_
        refine eR_ic dX9_worn_1 ?_
        refine eR_icmp_eq (tgt := 16) dX9_worn_2 (by decide) (by first | assumption | exact rg_b01 _ | (unfold rg; omega) | (unfold rg at *; omega)) (by first | assumption | exact rg_b01 _ | (unfold rg; omega) | (unfold rg at *; omega)) (fun c2 => absurd c2 (by omega)) (fun c2 => ?_)
        refine eR_aldn_0 dX9_worn_5 rfl ?_
        refine eR_ildn_2 dX9_worn_6 rfl ?_
        refine eR_callVi [_] rfl dX9_worn_7 ok_mX9_isCoat kw_1085 rfl rfl th_205 rfl (Nat.le_of_ble_eq_true rfl) (d' := 1) (by decide) (Nat.le_of_ble_eq_true rfl) ?_
        refine sp_isCoat B V (by first | assumption | (unfold rg; omega)) ?_
        refine eR_if_ne (tgt := 16) dX9_worn_10 (by decide) (by first | assumption | exact rg_b01 _ | (unfold rg; omega) | (unfold rg at *; omega)) (fun c10 => ?_) (fun c10 => absurd c10 (by simp [b01, hq1]))
        refine eR_ildn_1 dX9_worn_16 rfl ?_
        refine eR_i2lz dX9_worn_17 (by first | assumption | exact rg_b01 _ | (unfold rg; omega) | (unfold rg at *; omega)) ?_
        refine eR_lc (z := 0) dX9_worn_18 rfl ?_
        refine eR_ldc2 (z := 23) dX9_worn_19 kw_1102 (by decide) ?_
        refine eR_callSi [_, _, _] rfl dX9_worn_22 ok_mX9_in kw_952 rfl rfl (Nat.le_of_ble_eq_true rfl) (d' := 0) (by decide) (Nat.le_of_ble_eq_true rfl) ?_
        refine sp_in (by first | (unfold rL; omega) | (unfold rL; unfold rg at *; omega)) (by first | (unfold rL; omega) | (unfold rL; unfold rg at *; omega)) (by first | (unfold rL; omega) | (unfold rL; unfold rg at *; omega)) ?_
        refine eR_if_ne (tgt := 31) dX9_worn_25 (by decide) (by first | assumption | exact rg_b01 _ | (unfold rg; omega) | (unfold rg at *; omega)) (fun c25 => absurd c25 (by simp [b01, hq2])) (fun c25 => ?_)
        refine eR_ldc (z := -1000000002) dX9_worn_28 kw_955 (by decide) ?_
        refine eR_iret dX9_worn_30 rfl rfl ?_
        have k9 := k h (of2_rf _ _ _)
        rw [show (rWorn S hour ↑cn : Int) = (-1000000002) from by unfold rWorn; (repeat' split) <;> first | rfl | omega | simp_all] at k9; exact k9
    · refine eR_ildn_2 dX9_worn_0 rfl ?_
      refine eR_ic dX9_worn_1 ?_
      refine eR_icmp_eq (tgt := 16) dX9_worn_2 (by decide) (by first | assumption | exact rg_b01 _ | (unfold rg; omega) | (unfold rg at *; omega)) (by first | assumption | exact rg_b01 _ | (unfold rg; omega) | (unfold rg at *; omega)) (fun c2 => absurd c2 (by omega)) (fun c2 => ?_)
      refine eR_aldn_0 dX9_worn_5 rfl ?_
      refine eR_ildn_2 dX9_worn_6 rfl ?_
      refine eR_callVi [_] rfl dX9_worn_7 ok_mX9_isCoat kw_1085 rfl rfl th_205 rfl (Nat.le_of_ble_eq_true rfl) (d' := 1) (by decide) (Nat.le_of_ble_eq_true rfl) ?_
      refine sp_isCoat B V (by first | assumption | (unfold rg; omega)) ?_
      refine eR_if_ne (tgt := 16) dX9_worn_10 (by decide) (by first | assumption | exact rg_b01 _ | (unfold rg; omega) | (unfold rg at *; omega)) (fun c10 => absurd c10 (by simp [b01, hq1])) (fun c10 => ?_)
      refine eR_ldc (z := -1000000001) dX9_worn_13 kw_1089 (by decide) ?_
      refine eR_iret dX9_worn_15 rfl rfl ?_
      have k9 := k h (of2_rf _ _ _)
      rw [show (rWorn S hour c : Int) = (-1000000001) from by unfold rWorn; (repeat' split) <;> first | rfl | omega | simp_all] at k9; exact k9
theorem lp_chill (B : sB S) (V : mV h S) {pn hn : Nat} (hp : pn < sP S) (hh : hn < 24) (hw : ∀ c, c < sC S → h 220 c = (wrW S hn c : Int)) (k : Q (.int (zI (chV S hn pn (sC S)))) (tau t s) h) : ∀ n c : Nat, c + n = sC S → eX g 7 mX9_chill 53 [(0, .ref (gA g 205)), (1, .int (zI ↑pn)), (2, .int (zI ↑hn)), (3, .int (zI (chV S hn pn c))), (4, .int (zI ↑c))] [] (tau t s) h Q := by
  have hP8 := B.1
  have hC8 := B.2.1
  have hE10 := B.2.2.1
  have hF99 := B.2.2.2.2.2.2.1
  intro n
  induction n with
  | zero =>
    intro c hc
    refine eR_ild_4 dX9_chill_53 ?_
    refine eR_aldn_0 dX9_chill_55 rfl ?_
    refine eR_getR (i := 217) dX9_chill_56 gf_X9_44 th_205 rfl ?_
    refine eR_ic dX9_chill_59 ?_
    refine eR_iald (n := 1) dX9_chill_60 th_217 (rfl) (by decide) (by decide) ?_
    refine eX_pcI (V.2.1) ?_
    refine eR_icmp_ge (tgt := 202) dX9_chill_61 (by decide) (by first | exact rg_b01 _ | (unfold rg; omega)) (by first | exact rg_b01 _ | (unfold rg; omega)) (fun c61 => ?_) (fun c61 => absurd c61 (by omega))
    refine eR_ildn_3 dX9_chill_202 rfl ?_
    refine eR_iret dX9_chill_203 rfl rfl ?_
    have e9 : c = sC S := by omega
    subst e9
    exact k
  | succ n ih =>
    intro c hc
    have ho9 := B.2.2.2.1 c (by omega)
    have hw9 : wrW S hn c ≤ 4 := by have := fstW_le (S := S) (hour := hn) (c := c) (f := savB S hn (sC S - (c + 1))) (set := setW S hn c) (b := savB S hn (sC S - c) (setW S hn c)) 4 0; unfold wrW; omega
    have hv9 := chV_rg B hn pn c
    refine eR_ild_4 dX9_chill_53 ?_
    refine eR_aldn_0 dX9_chill_55 rfl ?_
    refine eR_getR (i := 217) dX9_chill_56 gf_X9_44 th_205 rfl ?_
    refine eR_ic dX9_chill_59 ?_
    refine eR_iald (n := 1) dX9_chill_60 th_217 (rfl) (by decide) (by decide) ?_
    refine eX_pcI (V.2.1) ?_
    refine eR_icmp_ge (tgt := 202) dX9_chill_61 (by decide) (by first | exact rg_b01 _ | (unfold rg; omega)) (by first | exact rg_b01 _ | (unfold rg; omega)) (fun c61 => absurd c61 (by omega)) (fun c61 => ?_)
    refine eR_aldn_0 dX9_chill_64 rfl ?_
    refine eR_getR (i := 206) dX9_chill_65 gf_X9_7 th_205 rfl ?_
    refine eR_ild_4 dX9_chill_68 ?_
    refine eR_iald (n := c) dX9_chill_70 th_206 (rfl) (by omega) (by decide) ?_
    refine eX_pcI ((V.2.2.2.1 c (by omega)).1) ?_
    refine eR_ildn_1 dX9_chill_71 rfl ?_
    refine eR_icmp_ne (tgt := 97) dX9_chill_72 (by decide) (by first | exact rg_b01 _ | (unfold rg; omega)) (by first | exact rg_b01 _ | (unfold rg; omega)) (fun c72 => ?_) (fun c72 => ?_)
    · refine eR_aldn_0 dX9_chill_97 rfl ?_
      refine eR_getR (i := 206) dX9_chill_98 gf_X9_7 th_205 rfl ?_
      refine eR_bi (z := 8) dX9_chill_101 rfl ?_
      refine eR_ild_4 dX9_chill_103 ?_
      refine eR_iadd dX9_chill_105 ?_
      refine eR_iald (n := 8 + c) dX9_chill_106 th_206 (by omega) (by omega) (by decide) ?_
      refine eX_pcI ((V.2.2.2.1 c (by omega)).2.1) ?_
      refine eR_ildn_1 dX9_chill_107 rfl ?_
      refine eR_icmp_ne (tgt := 126) dX9_chill_108 (by decide) (by first | exact rg_b01 _ | (unfold rg; omega)) (by first | exact rg_b01 _ | (unfold rg; omega)) (fun c108 => ?_) (fun c108 => ?_)
      · refine eR_ic dX9_chill_126 ?_
        refine eR_ist_n5 dX9_chill_127 (by decide) rfl ?_
        refine eR_aldn_0 dX9_chill_129 rfl ?_
        refine eR_ild_4 dX9_chill_130 ?_
        refine eR_callVi [_] rfl dX9_chill_132 ok_mX9_isCut kw_1061 rfl rfl th_205 rfl (Nat.le_of_ble_eq_true rfl) (d' := 1) (by decide) (Nat.le_of_ble_eq_true rfl) ?_
        refine sp_isCut (c := c) B V (by omega) ?_
        refine eR_if_ne (tgt := 149) dX9_chill_135 (by decide) (by first | exact rg_b01 _ | (unfold rg; omega)) (fun c135 => ?_) (fun c135 => ?_)
        · replace c135 := b01_ne0.mp c135
          refine eR_ic dX9_chill_149 ?_
          refine eR_goto (tgt := 154) dX9_chill_150 (by decide) ?_
          refine eR_ist_n6 dX9_chill_154 (by decide) rfl ?_
          refine eR_ildn_3 dX9_chill_156 rfl ?_
          refine eR_ild_5 dX9_chill_157 ?_
          refine eR_if_eq (tgt := 193) dX9_chill_159 (by decide) (by first | exact rg_b01 _ | (unfold rg; omega)) (fun c159 => ?_) (fun c159 => absurd c159 (by decide))
          refine eR_ic dX9_chill_193 ?_
          refine eR_isub dX9_chill_194 ?_
          refine eR_istn_3 dX9_chill_195 rfl (by decide) rfl ?_
          refine eR_iinc_4 dX9_chill_196 (by decide) rfl ?_
          refine eR_goto (tgt := 53) dX9_chill_199 (by decide) ?_
          refine eX_lv (lv2 := List.take 5 _) (fun q hq => List.mem_of_mem_take hq) ?_
          rw [show ((chV S hn pn c) - 0 : Int) = chV S hn pn (c + 1) from by rw [chV]; unfold wrI; (repeat' split) <;> first | rfl | omega | (simp_all; done) | (exfalso; omega) | grind]
          exact ih (c + 1) (by omega)
        · replace c135 := b01_eq0.mp c135
          refine eR_aldn_0 dX9_chill_138 rfl ?_
          refine eR_getR (i := 220) dX9_chill_139 gf_X9_57 th_205 rfl ?_
          refine eR_ild_4 dX9_chill_142 ?_
          refine eR_iald (n := c) dX9_chill_144 th_220 (rfl) (by omega) (by decide) ?_
          refine eX_pcI (hw c (by omega)) ?_
          refine eR_ic dX9_chill_145 ?_
          refine eR_icmp_ne (tgt := 153) dX9_chill_146 (by decide) (by first | exact rg_b01 _ | (unfold rg; omega)) (by first | exact rg_b01 _ | (unfold rg; omega)) (fun c146 => ?_) (fun c146 => ?_)
          · refine eR_ic dX9_chill_153 ?_
            refine eR_ist_n6 dX9_chill_154 (by decide) rfl ?_
            refine eR_ildn_3 dX9_chill_156 rfl ?_
            refine eR_ild_5 dX9_chill_157 ?_
            refine eR_if_eq (tgt := 193) dX9_chill_159 (by decide) (by first | exact rg_b01 _ | (unfold rg; omega)) (fun c159 => ?_) (fun c159 => absurd c159 (by decide))
            refine eR_ic dX9_chill_193 ?_
            refine eR_isub dX9_chill_194 ?_
            refine eR_istn_3 dX9_chill_195 rfl (by decide) rfl ?_
            refine eR_iinc_4 dX9_chill_196 (by decide) rfl ?_
            refine eR_goto (tgt := 53) dX9_chill_199 (by decide) ?_
            refine eX_lv (lv2 := List.take 5 _) (fun q hq => List.mem_of_mem_take hq) ?_
            rw [show ((chV S hn pn c) - 0 : Int) = chV S hn pn (c + 1) from by rw [chV]; unfold wrI; (repeat' split) <;> first | rfl | omega | (simp_all; done) | (exfalso; omega) | grind]
            exact ih (c + 1) (by omega)
          · refine eR_ic dX9_chill_149 ?_
            refine eR_goto (tgt := 154) dX9_chill_150 (by decide) ?_
            refine eR_ist_n6 dX9_chill_154 (by decide) rfl ?_
            refine eR_ildn_3 dX9_chill_156 rfl ?_
            refine eR_ild_5 dX9_chill_157 ?_
            refine eR_if_eq (tgt := 193) dX9_chill_159 (by decide) (by first | exact rg_b01 _ | (unfold rg; omega)) (fun c159 => ?_) (fun c159 => absurd c159 (by decide))
            refine eR_ic dX9_chill_193 ?_
            refine eR_isub dX9_chill_194 ?_
            refine eR_istn_3 dX9_chill_195 rfl (by decide) rfl ?_
            refine eR_iinc_4 dX9_chill_196 (by decide) rfl ?_
            refine eR_goto (tgt := 53) dX9_chill_199 (by decide) ?_
            refine eX_lv (lv2 := List.take 5 _) (fun q hq => List.mem_of_mem_take hq) ?_
            rw [show ((chV S hn pn c) - 0 : Int) = chV S hn pn (c + 1) from by rw [chV]; unfold wrI; (repeat' split) <;> first | rfl | omega | (simp_all; done) | (exfalso; omega) | grind]
            exact ih (c + 1) (by omega)
      · refine eR_aldn_0 dX9_chill_111 rfl ?_
        refine eR_getR (i := 220) dX9_chill_112 gf_X9_57 th_205 rfl ?_
        refine eR_ild_4 dX9_chill_115 ?_
        refine eR_iald (n := c) dX9_chill_117 th_220 (rfl) (by omega) (by decide) ?_
        refine eX_pcI (hw c (by omega)) ?_
        refine eR_ic dX9_chill_118 ?_
        refine eR_icmp_lt (tgt := 126) dX9_chill_119 (by decide) (by first | exact rg_b01 _ | (unfold rg; omega)) (by first | exact rg_b01 _ | (unfold rg; omega)) (fun c119 => ?_) (fun c119 => ?_)
        · refine eR_ic dX9_chill_126 ?_
          refine eR_ist_n5 dX9_chill_127 (by decide) rfl ?_
          refine eR_aldn_0 dX9_chill_129 rfl ?_
          refine eR_ild_4 dX9_chill_130 ?_
          refine eR_callVi [_] rfl dX9_chill_132 ok_mX9_isCut kw_1061 rfl rfl th_205 rfl (Nat.le_of_ble_eq_true rfl) (d' := 1) (by decide) (Nat.le_of_ble_eq_true rfl) ?_
          refine sp_isCut (c := c) B V (by omega) ?_
          refine eR_if_ne (tgt := 149) dX9_chill_135 (by decide) (by first | exact rg_b01 _ | (unfold rg; omega)) (fun c135 => ?_) (fun c135 => ?_)
          · replace c135 := b01_ne0.mp c135
            refine eR_ic dX9_chill_149 ?_
            refine eR_goto (tgt := 154) dX9_chill_150 (by decide) ?_
            refine eR_ist_n6 dX9_chill_154 (by decide) rfl ?_
            refine eR_ildn_3 dX9_chill_156 rfl ?_
            refine eR_ild_5 dX9_chill_157 ?_
            refine eR_if_eq (tgt := 193) dX9_chill_159 (by decide) (by first | exact rg_b01 _ | (unfold rg; omega)) (fun c159 => ?_) (fun c159 => absurd c159 (by decide))
            refine eR_ic dX9_chill_193 ?_
            refine eR_isub dX9_chill_194 ?_
            refine eR_istn_3 dX9_chill_195 rfl (by decide) rfl ?_
            refine eR_iinc_4 dX9_chill_196 (by decide) rfl ?_
            refine eR_goto (tgt := 53) dX9_chill_199 (by decide) ?_
            refine eX_lv (lv2 := List.take 5 _) (fun q hq => List.mem_of_mem_take hq) ?_
            rw [show ((chV S hn pn c) - 0 : Int) = chV S hn pn (c + 1) from by rw [chV]; unfold wrI; (repeat' split) <;> first | rfl | omega | (simp_all; done) | (exfalso; omega) | grind]
            exact ih (c + 1) (by omega)
          · replace c135 := b01_eq0.mp c135
            refine eR_aldn_0 dX9_chill_138 rfl ?_
            refine eR_getR (i := 220) dX9_chill_139 gf_X9_57 th_205 rfl ?_
            refine eR_ild_4 dX9_chill_142 ?_
            refine eR_iald (n := c) dX9_chill_144 th_220 (rfl) (by omega) (by decide) ?_
            refine eX_pcI (hw c (by omega)) ?_
            refine eR_ic dX9_chill_145 ?_
            refine eR_icmp_ne (tgt := 153) dX9_chill_146 (by decide) (by first | exact rg_b01 _ | (unfold rg; omega)) (by first | exact rg_b01 _ | (unfold rg; omega)) (fun c146 => ?_) (fun c146 => ?_)
            · refine eR_ic dX9_chill_153 ?_
              refine eR_ist_n6 dX9_chill_154 (by decide) rfl ?_
              refine eR_ildn_3 dX9_chill_156 rfl ?_
              refine eR_ild_5 dX9_chill_157 ?_
              refine eR_if_eq (tgt := 193) dX9_chill_159 (by decide) (by first | exact rg_b01 _ | (unfold rg; omega)) (fun c159 => ?_) (fun c159 => absurd c159 (by decide))
              refine eR_ic dX9_chill_193 ?_
              refine eR_isub dX9_chill_194 ?_
              refine eR_istn_3 dX9_chill_195 rfl (by decide) rfl ?_
              refine eR_iinc_4 dX9_chill_196 (by decide) rfl ?_
              refine eR_goto (tgt := 53) dX9_chill_199 (by decide) ?_
              refine eX_lv (lv2 := List.take 5 _) (fun q hq => List.mem_of_mem_take hq) ?_
              rw [show ((chV S hn pn c) - 0 : Int) = chV S hn pn (c + 1) from by rw [chV]; unfold wrI; (repeat' split) <;> first | rfl | omega | (simp_all; done) | (exfalso; omega) | grind]
              exact ih (c + 1) (by omega)
            · refine eR_ic dX9_chill_149 ?_
              refine eR_goto (tgt := 154) dX9_chill_150 (by decide) ?_
              refine eR_ist_n6 dX9_chill_154 (by decide) rfl ?_
              refine eR_ildn_3 dX9_chill_156 rfl ?_
              refine eR_ild_5 dX9_chill_157 ?_
              refine eR_if_eq (tgt := 193) dX9_chill_159 (by decide) (by first | exact rg_b01 _ | (unfold rg; omega)) (fun c159 => ?_) (fun c159 => absurd c159 (by decide))
              refine eR_ic dX9_chill_193 ?_
              refine eR_isub dX9_chill_194 ?_
              refine eR_istn_3 dX9_chill_195 rfl (by decide) rfl ?_
              refine eR_iinc_4 dX9_chill_196 (by decide) rfl ?_
              refine eR_goto (tgt := 53) dX9_chill_199 (by decide) ?_
              refine eX_lv (lv2 := List.take 5 _) (fun q hq => List.mem_of_mem_take hq) ?_
              rw [show ((chV S hn pn c) - 0 : Int) = chV S hn pn (c + 1) from by rw [chV]; unfold wrI; (repeat' split) <;> first | rfl | omega | (simp_all; done) | (exfalso; omega) | grind]
              exact ih (c + 1) (by omega)
        · refine eR_ic dX9_chill_122 ?_
          refine eR_goto (tgt := 127) dX9_chill_123 (by decide) ?_
          refine eR_ist_n5 dX9_chill_127 (by decide) rfl ?_
          refine eR_aldn_0 dX9_chill_129 rfl ?_
          refine eR_ild_4 dX9_chill_130 ?_
          refine eR_callVi [_] rfl dX9_chill_132 ok_mX9_isCut kw_1061 rfl rfl th_205 rfl (Nat.le_of_ble_eq_true rfl) (d' := 1) (by decide) (Nat.le_of_ble_eq_true rfl) ?_
          refine sp_isCut (c := c) B V (by omega) ?_
          refine eR_if_ne (tgt := 149) dX9_chill_135 (by decide) (by first | exact rg_b01 _ | (unfold rg; omega)) (fun c135 => ?_) (fun c135 => ?_)
          · replace c135 := b01_ne0.mp c135
            refine eR_ic dX9_chill_149 ?_
            refine eR_goto (tgt := 154) dX9_chill_150 (by decide) ?_
            refine eR_ist_n6 dX9_chill_154 (by decide) rfl ?_
            refine eR_ildn_3 dX9_chill_156 rfl ?_
            refine eR_ild_5 dX9_chill_157 ?_
            refine eR_if_eq (tgt := 193) dX9_chill_159 (by decide) (by first | exact rg_b01 _ | (unfold rg; omega)) (fun c159 => absurd c159 (by decide)) (fun c159 => ?_)
            refine eR_aldn_0 dX9_chill_162 rfl ?_
            refine eR_ild_6 dX9_chill_163 ?_
            refine eR_if_eq (tgt := 180) dX9_chill_165 (by decide) (by first | exact rg_b01 _ | (unfold rg; omega)) (fun c165 => absurd c165 (by decide)) (fun c165 => ?_)
            refine eR_aldn_0 dX9_chill_168 rfl ?_
            refine eR_getR (i := 210) dX9_chill_169 gf_X9_23 th_205 rfl ?_
            refine eR_ild_4 dX9_chill_172 ?_
            refine eR_iald (n := c) dX9_chill_174 th_210 (rfl) (by omega) (by decide) ?_
            refine eX_pcI ((V.2.2.2.1 c (by omega)).2.2) ?_
            refine eR_ic dX9_chill_175 ?_
            refine eR_idiv dX9_chill_176 (by first | exact rg_b01 _ | (unfold rg; omega)) (by first | exact rg_b01 _ | (unfold rg; omega)) (by omega) ?_
            refine eX_pcI (show (Int.tdiv ↑(sW S c) 2 : Int) = ↑(sW S c / 2) from rfl) ?_
            refine eR_goto (tgt := 187) dX9_chill_177 (by decide) ?_
            refine eR_callVi [_] rfl dX9_chill_187 ok_mX9_saving kw_1069 rfl rfl th_205 rfl (Nat.le_of_ble_eq_true rfl) (d' := 0) (by decide) (Nat.le_of_ble_eq_true rfl) ?_
            refine sp_saving (x := (sW S c / 2)) B V (by omega) ?_
            refine eR_goto (tgt := 194) dX9_chill_190 (by decide) ?_
            refine eR_isub dX9_chill_194 ?_
            refine eR_istn_3 dX9_chill_195 rfl (by decide) rfl ?_
            refine eR_iinc_4 dX9_chill_196 (by decide) rfl ?_
            refine eR_goto (tgt := 53) dX9_chill_199 (by decide) ?_
            refine eX_lv (lv2 := List.take 5 _) (fun q hq => List.mem_of_mem_take hq) ?_
            rw [show ((chV S hn pn c) - (↑(savN S (sW S c / 2))) : Int) = chV S hn pn (c + 1) from by rw [chV]; unfold wrI; (repeat' split) <;> first | rfl | omega | (simp_all; done) | (exfalso; omega) | grind]
            exact ih (c + 1) (by omega)
          · replace c135 := b01_eq0.mp c135
            refine eR_aldn_0 dX9_chill_138 rfl ?_
            refine eR_getR (i := 220) dX9_chill_139 gf_X9_57 th_205 rfl ?_
            refine eR_ild_4 dX9_chill_142 ?_
            refine eR_iald (n := c) dX9_chill_144 th_220 (rfl) (by omega) (by decide) ?_
            refine eX_pcI (hw c (by omega)) ?_
            refine eR_ic dX9_chill_145 ?_
            refine eR_icmp_ne (tgt := 153) dX9_chill_146 (by decide) (by first | exact rg_b01 _ | (unfold rg; omega)) (by first | exact rg_b01 _ | (unfold rg; omega)) (fun c146 => ?_) (fun c146 => ?_)
            · refine eR_ic dX9_chill_153 ?_
              refine eR_ist_n6 dX9_chill_154 (by decide) rfl ?_
              refine eR_ildn_3 dX9_chill_156 rfl ?_
              refine eR_ild_5 dX9_chill_157 ?_
              refine eR_if_eq (tgt := 193) dX9_chill_159 (by decide) (by first | exact rg_b01 _ | (unfold rg; omega)) (fun c159 => absurd c159 (by decide)) (fun c159 => ?_)
              refine eR_aldn_0 dX9_chill_162 rfl ?_
              refine eR_ild_6 dX9_chill_163 ?_
              refine eR_if_eq (tgt := 180) dX9_chill_165 (by decide) (by first | exact rg_b01 _ | (unfold rg; omega)) (fun c165 => ?_) (fun c165 => absurd c165 (by decide))
              refine eR_aldn_0 dX9_chill_180 rfl ?_
              refine eR_getR (i := 210) dX9_chill_181 gf_X9_23 th_205 rfl ?_
              refine eR_ild_4 dX9_chill_184 ?_
              refine eR_iald (n := c) dX9_chill_186 th_210 (rfl) (by omega) (by decide) ?_
              refine eX_pcI ((V.2.2.2.1 c (by omega)).2.2) ?_
              refine eR_callVi [_] rfl dX9_chill_187 ok_mX9_saving kw_1069 rfl rfl th_205 rfl (Nat.le_of_ble_eq_true rfl) (d' := 0) (by decide) (Nat.le_of_ble_eq_true rfl) ?_
              refine sp_saving (x := (sW S c)) B V (by omega) ?_
              refine eR_goto (tgt := 194) dX9_chill_190 (by decide) ?_
              refine eR_isub dX9_chill_194 ?_
              refine eR_istn_3 dX9_chill_195 rfl (by decide) rfl ?_
              refine eR_iinc_4 dX9_chill_196 (by decide) rfl ?_
              refine eR_goto (tgt := 53) dX9_chill_199 (by decide) ?_
              refine eX_lv (lv2 := List.take 5 _) (fun q hq => List.mem_of_mem_take hq) ?_
              rw [show ((chV S hn pn c) - (↑(savN S (sW S c))) : Int) = chV S hn pn (c + 1) from by rw [chV]; unfold wrI; (repeat' split) <;> first | rfl | omega | (simp_all; done) | (exfalso; omega) | grind]
              exact ih (c + 1) (by omega)
            · refine eR_ic dX9_chill_149 ?_
              refine eR_goto (tgt := 154) dX9_chill_150 (by decide) ?_
              refine eR_ist_n6 dX9_chill_154 (by decide) rfl ?_
              refine eR_ildn_3 dX9_chill_156 rfl ?_
              refine eR_ild_5 dX9_chill_157 ?_
              refine eR_if_eq (tgt := 193) dX9_chill_159 (by decide) (by first | exact rg_b01 _ | (unfold rg; omega)) (fun c159 => absurd c159 (by decide)) (fun c159 => ?_)
              refine eR_aldn_0 dX9_chill_162 rfl ?_
              refine eR_ild_6 dX9_chill_163 ?_
              refine eR_if_eq (tgt := 180) dX9_chill_165 (by decide) (by first | exact rg_b01 _ | (unfold rg; omega)) (fun c165 => absurd c165 (by decide)) (fun c165 => ?_)
              refine eR_aldn_0 dX9_chill_168 rfl ?_
              refine eR_getR (i := 210) dX9_chill_169 gf_X9_23 th_205 rfl ?_
              refine eR_ild_4 dX9_chill_172 ?_
              refine eR_iald (n := c) dX9_chill_174 th_210 (rfl) (by omega) (by decide) ?_
              refine eX_pcI ((V.2.2.2.1 c (by omega)).2.2) ?_
              refine eR_ic dX9_chill_175 ?_
              refine eR_idiv dX9_chill_176 (by first | exact rg_b01 _ | (unfold rg; omega)) (by first | exact rg_b01 _ | (unfold rg; omega)) (by omega) ?_
              refine eX_pcI (show (Int.tdiv ↑(sW S c) 2 : Int) = ↑(sW S c / 2) from rfl) ?_
              refine eR_goto (tgt := 187) dX9_chill_177 (by decide) ?_
              refine eR_callVi [_] rfl dX9_chill_187 ok_mX9_saving kw_1069 rfl rfl th_205 rfl (Nat.le_of_ble_eq_true rfl) (d' := 0) (by decide) (Nat.le_of_ble_eq_true rfl) ?_
              refine sp_saving (x := (sW S c / 2)) B V (by omega) ?_
              refine eR_goto (tgt := 194) dX9_chill_190 (by decide) ?_
              refine eR_isub dX9_chill_194 ?_
              refine eR_istn_3 dX9_chill_195 rfl (by decide) rfl ?_
              refine eR_iinc_4 dX9_chill_196 (by decide) rfl ?_
              refine eR_goto (tgt := 53) dX9_chill_199 (by decide) ?_
              refine eX_lv (lv2 := List.take 5 _) (fun q hq => List.mem_of_mem_take hq) ?_
              rw [show ((chV S hn pn c) - (↑(savN S (sW S c / 2))) : Int) = chV S hn pn (c + 1) from by rw [chV]; unfold wrI; (repeat' split) <;> first | rfl | omega | (simp_all; done) | (exfalso; omega) | grind]
              exact ih (c + 1) (by omega)
    · refine eR_aldn_0 dX9_chill_75 rfl ?_
      refine eR_getR (i := 220) dX9_chill_76 gf_X9_57 th_205 rfl ?_
      refine eR_ild_4 dX9_chill_79 ?_
      refine eR_iald (n := c) dX9_chill_81 th_220 (rfl) (by omega) (by decide) ?_
      refine eX_pcI (hw c (by omega)) ?_
      refine eR_ic dX9_chill_82 ?_
      refine eR_icmp_eq (tgt := 122) dX9_chill_83 (by decide) (by first | exact rg_b01 _ | (unfold rg; omega)) (by first | exact rg_b01 _ | (unfold rg; omega)) (fun c83 => ?_) (fun c83 => ?_)
      · refine eR_ic dX9_chill_122 ?_
        refine eR_goto (tgt := 127) dX9_chill_123 (by decide) ?_
        refine eR_ist_n5 dX9_chill_127 (by decide) rfl ?_
        refine eR_aldn_0 dX9_chill_129 rfl ?_
        refine eR_ild_4 dX9_chill_130 ?_
        refine eR_callVi [_] rfl dX9_chill_132 ok_mX9_isCut kw_1061 rfl rfl th_205 rfl (Nat.le_of_ble_eq_true rfl) (d' := 1) (by decide) (Nat.le_of_ble_eq_true rfl) ?_
        refine sp_isCut (c := c) B V (by omega) ?_
        refine eR_if_ne (tgt := 149) dX9_chill_135 (by decide) (by first | exact rg_b01 _ | (unfold rg; omega)) (fun c135 => ?_) (fun c135 => ?_)
        · replace c135 := b01_ne0.mp c135
          refine eR_ic dX9_chill_149 ?_
          refine eR_goto (tgt := 154) dX9_chill_150 (by decide) ?_
          refine eR_ist_n6 dX9_chill_154 (by decide) rfl ?_
          refine eR_ildn_3 dX9_chill_156 rfl ?_
          refine eR_ild_5 dX9_chill_157 ?_
          refine eR_if_eq (tgt := 193) dX9_chill_159 (by decide) (by first | exact rg_b01 _ | (unfold rg; omega)) (fun c159 => absurd c159 (by decide)) (fun c159 => ?_)
          refine eR_aldn_0 dX9_chill_162 rfl ?_
          refine eR_ild_6 dX9_chill_163 ?_
          refine eR_if_eq (tgt := 180) dX9_chill_165 (by decide) (by first | exact rg_b01 _ | (unfold rg; omega)) (fun c165 => absurd c165 (by decide)) (fun c165 => ?_)
          refine eR_aldn_0 dX9_chill_168 rfl ?_
          refine eR_getR (i := 210) dX9_chill_169 gf_X9_23 th_205 rfl ?_
          refine eR_ild_4 dX9_chill_172 ?_
          refine eR_iald (n := c) dX9_chill_174 th_210 (rfl) (by omega) (by decide) ?_
          refine eX_pcI ((V.2.2.2.1 c (by omega)).2.2) ?_
          refine eR_ic dX9_chill_175 ?_
          refine eR_idiv dX9_chill_176 (by first | exact rg_b01 _ | (unfold rg; omega)) (by first | exact rg_b01 _ | (unfold rg; omega)) (by omega) ?_
          refine eX_pcI (show (Int.tdiv ↑(sW S c) 2 : Int) = ↑(sW S c / 2) from rfl) ?_
          refine eR_goto (tgt := 187) dX9_chill_177 (by decide) ?_
          refine eR_callVi [_] rfl dX9_chill_187 ok_mX9_saving kw_1069 rfl rfl th_205 rfl (Nat.le_of_ble_eq_true rfl) (d' := 0) (by decide) (Nat.le_of_ble_eq_true rfl) ?_
          refine sp_saving (x := (sW S c / 2)) B V (by omega) ?_
          refine eR_goto (tgt := 194) dX9_chill_190 (by decide) ?_
          refine eR_isub dX9_chill_194 ?_
          refine eR_istn_3 dX9_chill_195 rfl (by decide) rfl ?_
          refine eR_iinc_4 dX9_chill_196 (by decide) rfl ?_
          refine eR_goto (tgt := 53) dX9_chill_199 (by decide) ?_
          refine eX_lv (lv2 := List.take 5 _) (fun q hq => List.mem_of_mem_take hq) ?_
          rw [show ((chV S hn pn c) - (↑(savN S (sW S c / 2))) : Int) = chV S hn pn (c + 1) from by rw [chV]; unfold wrI; (repeat' split) <;> first | rfl | omega | (simp_all; done) | (exfalso; omega) | grind]
          exact ih (c + 1) (by omega)
        · replace c135 := b01_eq0.mp c135
          refine eR_aldn_0 dX9_chill_138 rfl ?_
          refine eR_getR (i := 220) dX9_chill_139 gf_X9_57 th_205 rfl ?_
          refine eR_ild_4 dX9_chill_142 ?_
          refine eR_iald (n := c) dX9_chill_144 th_220 (rfl) (by omega) (by decide) ?_
          refine eX_pcI (hw c (by omega)) ?_
          refine eR_ic dX9_chill_145 ?_
          refine eR_icmp_ne (tgt := 153) dX9_chill_146 (by decide) (by first | exact rg_b01 _ | (unfold rg; omega)) (by first | exact rg_b01 _ | (unfold rg; omega)) (fun c146 => ?_) (fun c146 => ?_)
          · refine eR_ic dX9_chill_153 ?_
            refine eR_ist_n6 dX9_chill_154 (by decide) rfl ?_
            refine eR_ildn_3 dX9_chill_156 rfl ?_
            refine eR_ild_5 dX9_chill_157 ?_
            refine eR_if_eq (tgt := 193) dX9_chill_159 (by decide) (by first | exact rg_b01 _ | (unfold rg; omega)) (fun c159 => absurd c159 (by decide)) (fun c159 => ?_)
            refine eR_aldn_0 dX9_chill_162 rfl ?_
            refine eR_ild_6 dX9_chill_163 ?_
            refine eR_if_eq (tgt := 180) dX9_chill_165 (by decide) (by first | exact rg_b01 _ | (unfold rg; omega)) (fun c165 => ?_) (fun c165 => absurd c165 (by decide))
            refine eR_aldn_0 dX9_chill_180 rfl ?_
            refine eR_getR (i := 210) dX9_chill_181 gf_X9_23 th_205 rfl ?_
            refine eR_ild_4 dX9_chill_184 ?_
            refine eR_iald (n := c) dX9_chill_186 th_210 (rfl) (by omega) (by decide) ?_
            refine eX_pcI ((V.2.2.2.1 c (by omega)).2.2) ?_
            refine eR_callVi [_] rfl dX9_chill_187 ok_mX9_saving kw_1069 rfl rfl th_205 rfl (Nat.le_of_ble_eq_true rfl) (d' := 0) (by decide) (Nat.le_of_ble_eq_true rfl) ?_
            refine sp_saving (x := (sW S c)) B V (by omega) ?_
            refine eR_goto (tgt := 194) dX9_chill_190 (by decide) ?_
            refine eR_isub dX9_chill_194 ?_
            refine eR_istn_3 dX9_chill_195 rfl (by decide) rfl ?_
            refine eR_iinc_4 dX9_chill_196 (by decide) rfl ?_
            refine eR_goto (tgt := 53) dX9_chill_199 (by decide) ?_
            refine eX_lv (lv2 := List.take 5 _) (fun q hq => List.mem_of_mem_take hq) ?_
            rw [show ((chV S hn pn c) - (↑(savN S (sW S c))) : Int) = chV S hn pn (c + 1) from by rw [chV]; unfold wrI; (repeat' split) <;> first | rfl | omega | (simp_all; done) | (exfalso; omega) | grind]
            exact ih (c + 1) (by omega)
          · refine eR_ic dX9_chill_149 ?_
            refine eR_goto (tgt := 154) dX9_chill_150 (by decide) ?_
            refine eR_ist_n6 dX9_chill_154 (by decide) rfl ?_
            refine eR_ildn_3 dX9_chill_156 rfl ?_
            refine eR_ild_5 dX9_chill_157 ?_
            refine eR_if_eq (tgt := 193) dX9_chill_159 (by decide) (by first | exact rg_b01 _ | (unfold rg; omega)) (fun c159 => absurd c159 (by decide)) (fun c159 => ?_)
            refine eR_aldn_0 dX9_chill_162 rfl ?_
            refine eR_ild_6 dX9_chill_163 ?_
            refine eR_if_eq (tgt := 180) dX9_chill_165 (by decide) (by first | exact rg_b01 _ | (unfold rg; omega)) (fun c165 => absurd c165 (by decide)) (fun c165 => ?_)
            refine eR_aldn_0 dX9_chill_168 rfl ?_
            refine eR_getR (i := 210) dX9_chill_169 gf_X9_23 th_205 rfl ?_
            refine eR_ild_4 dX9_chill_172 ?_
            refine eR_iald (n := c) dX9_chill_174 th_210 (rfl) (by omega) (by decide) ?_
            refine eX_pcI ((V.2.2.2.1 c (by omega)).2.2) ?_
            refine eR_ic dX9_chill_175 ?_
            refine eR_idiv dX9_chill_176 (by first | exact rg_b01 _ | (unfold rg; omega)) (by first | exact rg_b01 _ | (unfold rg; omega)) (by omega) ?_
            refine eX_pcI (show (Int.tdiv ↑(sW S c) 2 : Int) = ↑(sW S c / 2) from rfl) ?_
            refine eR_goto (tgt := 187) dX9_chill_177 (by decide) ?_
            refine eR_callVi [_] rfl dX9_chill_187 ok_mX9_saving kw_1069 rfl rfl th_205 rfl (Nat.le_of_ble_eq_true rfl) (d' := 0) (by decide) (Nat.le_of_ble_eq_true rfl) ?_
            refine sp_saving (x := (sW S c / 2)) B V (by omega) ?_
            refine eR_goto (tgt := 194) dX9_chill_190 (by decide) ?_
            refine eR_isub dX9_chill_194 ?_
            refine eR_istn_3 dX9_chill_195 rfl (by decide) rfl ?_
            refine eR_iinc_4 dX9_chill_196 (by decide) rfl ?_
            refine eR_goto (tgt := 53) dX9_chill_199 (by decide) ?_
            refine eX_lv (lv2 := List.take 5 _) (fun q hq => List.mem_of_mem_take hq) ?_
            rw [show ((chV S hn pn c) - (↑(savN S (sW S c / 2))) : Int) = chV S hn pn (c + 1) from by rw [chV]; unfold wrI; (repeat' split) <;> first | rfl | omega | (simp_all; done) | (exfalso; omega) | grind]
            exact ih (c + 1) (by omega)
      · refine eR_aldn_0 dX9_chill_86 rfl ?_
        refine eR_getR (i := 220) dX9_chill_87 gf_X9_57 th_205 rfl ?_
        refine eR_ild_4 dX9_chill_90 ?_
        refine eR_iald (n := c) dX9_chill_92 th_220 (rfl) (by omega) (by decide) ?_
        refine eX_pcI (hw c (by omega)) ?_
        refine eR_ic dX9_chill_93 ?_
        refine eR_icmp_eq (tgt := 122) dX9_chill_94 (by decide) (by first | exact rg_b01 _ | (unfold rg; omega)) (by first | exact rg_b01 _ | (unfold rg; omega)) (fun c94 => ?_) (fun c94 => ?_)
        · refine eR_ic dX9_chill_122 ?_
          refine eR_goto (tgt := 127) dX9_chill_123 (by decide) ?_
          refine eR_ist_n5 dX9_chill_127 (by decide) rfl ?_
          refine eR_aldn_0 dX9_chill_129 rfl ?_
          refine eR_ild_4 dX9_chill_130 ?_
          refine eR_callVi [_] rfl dX9_chill_132 ok_mX9_isCut kw_1061 rfl rfl th_205 rfl (Nat.le_of_ble_eq_true rfl) (d' := 1) (by decide) (Nat.le_of_ble_eq_true rfl) ?_
          refine sp_isCut (c := c) B V (by omega) ?_
          refine eR_if_ne (tgt := 149) dX9_chill_135 (by decide) (by first | exact rg_b01 _ | (unfold rg; omega)) (fun c135 => ?_) (fun c135 => ?_)
          · replace c135 := b01_ne0.mp c135
            refine eR_ic dX9_chill_149 ?_
            refine eR_goto (tgt := 154) dX9_chill_150 (by decide) ?_
            refine eR_ist_n6 dX9_chill_154 (by decide) rfl ?_
            refine eR_ildn_3 dX9_chill_156 rfl ?_
            refine eR_ild_5 dX9_chill_157 ?_
            refine eR_if_eq (tgt := 193) dX9_chill_159 (by decide) (by first | exact rg_b01 _ | (unfold rg; omega)) (fun c159 => absurd c159 (by decide)) (fun c159 => ?_)
            refine eR_aldn_0 dX9_chill_162 rfl ?_
            refine eR_ild_6 dX9_chill_163 ?_
            refine eR_if_eq (tgt := 180) dX9_chill_165 (by decide) (by first | exact rg_b01 _ | (unfold rg; omega)) (fun c165 => absurd c165 (by decide)) (fun c165 => ?_)
            refine eR_aldn_0 dX9_chill_168 rfl ?_
            refine eR_getR (i := 210) dX9_chill_169 gf_X9_23 th_205 rfl ?_
            refine eR_ild_4 dX9_chill_172 ?_
            refine eR_iald (n := c) dX9_chill_174 th_210 (rfl) (by omega) (by decide) ?_
            refine eX_pcI ((V.2.2.2.1 c (by omega)).2.2) ?_
            refine eR_ic dX9_chill_175 ?_
            refine eR_idiv dX9_chill_176 (by first | exact rg_b01 _ | (unfold rg; omega)) (by first | exact rg_b01 _ | (unfold rg; omega)) (by omega) ?_
            refine eX_pcI (show (Int.tdiv ↑(sW S c) 2 : Int) = ↑(sW S c / 2) from rfl) ?_
            refine eR_goto (tgt := 187) dX9_chill_177 (by decide) ?_
            refine eR_callVi [_] rfl dX9_chill_187 ok_mX9_saving kw_1069 rfl rfl th_205 rfl (Nat.le_of_ble_eq_true rfl) (d' := 0) (by decide) (Nat.le_of_ble_eq_true rfl) ?_
            refine sp_saving (x := (sW S c / 2)) B V (by omega) ?_
            refine eR_goto (tgt := 194) dX9_chill_190 (by decide) ?_
            refine eR_isub dX9_chill_194 ?_
            refine eR_istn_3 dX9_chill_195 rfl (by decide) rfl ?_
            refine eR_iinc_4 dX9_chill_196 (by decide) rfl ?_
            refine eR_goto (tgt := 53) dX9_chill_199 (by decide) ?_
            refine eX_lv (lv2 := List.take 5 _) (fun q hq => List.mem_of_mem_take hq) ?_
            rw [show ((chV S hn pn c) - (↑(savN S (sW S c / 2))) : Int) = chV S hn pn (c + 1) from by rw [chV]; unfold wrI; (repeat' split) <;> first | rfl | omega | (simp_all; done) | (exfalso; omega) | grind]
            exact ih (c + 1) (by omega)
          · replace c135 := b01_eq0.mp c135
            refine eR_aldn_0 dX9_chill_138 rfl ?_
            refine eR_getR (i := 220) dX9_chill_139 gf_X9_57 th_205 rfl ?_
            refine eR_ild_4 dX9_chill_142 ?_
            refine eR_iald (n := c) dX9_chill_144 th_220 (rfl) (by omega) (by decide) ?_
            refine eX_pcI (hw c (by omega)) ?_
            refine eR_ic dX9_chill_145 ?_
            refine eR_icmp_ne (tgt := 153) dX9_chill_146 (by decide) (by first | exact rg_b01 _ | (unfold rg; omega)) (by first | exact rg_b01 _ | (unfold rg; omega)) (fun c146 => ?_) (fun c146 => ?_)
            · refine eR_ic dX9_chill_153 ?_
              refine eR_ist_n6 dX9_chill_154 (by decide) rfl ?_
              refine eR_ildn_3 dX9_chill_156 rfl ?_
              refine eR_ild_5 dX9_chill_157 ?_
              refine eR_if_eq (tgt := 193) dX9_chill_159 (by decide) (by first | exact rg_b01 _ | (unfold rg; omega)) (fun c159 => absurd c159 (by decide)) (fun c159 => ?_)
              refine eR_aldn_0 dX9_chill_162 rfl ?_
              refine eR_ild_6 dX9_chill_163 ?_
              refine eR_if_eq (tgt := 180) dX9_chill_165 (by decide) (by first | exact rg_b01 _ | (unfold rg; omega)) (fun c165 => ?_) (fun c165 => absurd c165 (by decide))
              refine eR_aldn_0 dX9_chill_180 rfl ?_
              refine eR_getR (i := 210) dX9_chill_181 gf_X9_23 th_205 rfl ?_
              refine eR_ild_4 dX9_chill_184 ?_
              refine eR_iald (n := c) dX9_chill_186 th_210 (rfl) (by omega) (by decide) ?_
              refine eX_pcI ((V.2.2.2.1 c (by omega)).2.2) ?_
              refine eR_callVi [_] rfl dX9_chill_187 ok_mX9_saving kw_1069 rfl rfl th_205 rfl (Nat.le_of_ble_eq_true rfl) (d' := 0) (by decide) (Nat.le_of_ble_eq_true rfl) ?_
              refine sp_saving (x := (sW S c)) B V (by omega) ?_
              refine eR_goto (tgt := 194) dX9_chill_190 (by decide) ?_
              refine eR_isub dX9_chill_194 ?_
              refine eR_istn_3 dX9_chill_195 rfl (by decide) rfl ?_
              refine eR_iinc_4 dX9_chill_196 (by decide) rfl ?_
              refine eR_goto (tgt := 53) dX9_chill_199 (by decide) ?_
              refine eX_lv (lv2 := List.take 5 _) (fun q hq => List.mem_of_mem_take hq) ?_
              rw [show ((chV S hn pn c) - (↑(savN S (sW S c))) : Int) = chV S hn pn (c + 1) from by rw [chV]; unfold wrI; (repeat' split) <;> first | rfl | omega | (simp_all; done) | (exfalso; omega) | grind]
              exact ih (c + 1) (by omega)
            · refine eR_ic dX9_chill_149 ?_
              refine eR_goto (tgt := 154) dX9_chill_150 (by decide) ?_
              refine eR_ist_n6 dX9_chill_154 (by decide) rfl ?_
              refine eR_ildn_3 dX9_chill_156 rfl ?_
              refine eR_ild_5 dX9_chill_157 ?_
              refine eR_if_eq (tgt := 193) dX9_chill_159 (by decide) (by first | exact rg_b01 _ | (unfold rg; omega)) (fun c159 => absurd c159 (by decide)) (fun c159 => ?_)
              refine eR_aldn_0 dX9_chill_162 rfl ?_
              refine eR_ild_6 dX9_chill_163 ?_
              refine eR_if_eq (tgt := 180) dX9_chill_165 (by decide) (by first | exact rg_b01 _ | (unfold rg; omega)) (fun c165 => absurd c165 (by decide)) (fun c165 => ?_)
              refine eR_aldn_0 dX9_chill_168 rfl ?_
              refine eR_getR (i := 210) dX9_chill_169 gf_X9_23 th_205 rfl ?_
              refine eR_ild_4 dX9_chill_172 ?_
              refine eR_iald (n := c) dX9_chill_174 th_210 (rfl) (by omega) (by decide) ?_
              refine eX_pcI ((V.2.2.2.1 c (by omega)).2.2) ?_
              refine eR_ic dX9_chill_175 ?_
              refine eR_idiv dX9_chill_176 (by first | exact rg_b01 _ | (unfold rg; omega)) (by first | exact rg_b01 _ | (unfold rg; omega)) (by omega) ?_
              refine eX_pcI (show (Int.tdiv ↑(sW S c) 2 : Int) = ↑(sW S c / 2) from rfl) ?_
              refine eR_goto (tgt := 187) dX9_chill_177 (by decide) ?_
              refine eR_callVi [_] rfl dX9_chill_187 ok_mX9_saving kw_1069 rfl rfl th_205 rfl (Nat.le_of_ble_eq_true rfl) (d' := 0) (by decide) (Nat.le_of_ble_eq_true rfl) ?_
              refine sp_saving (x := (sW S c / 2)) B V (by omega) ?_
              refine eR_goto (tgt := 194) dX9_chill_190 (by decide) ?_
              refine eR_isub dX9_chill_194 ?_
              refine eR_istn_3 dX9_chill_195 rfl (by decide) rfl ?_
              refine eR_iinc_4 dX9_chill_196 (by decide) rfl ?_
              refine eR_goto (tgt := 53) dX9_chill_199 (by decide) ?_
              refine eX_lv (lv2 := List.take 5 _) (fun q hq => List.mem_of_mem_take hq) ?_
              rw [show ((chV S hn pn c) - (↑(savN S (sW S c / 2))) : Int) = chV S hn pn (c + 1) from by rw [chV]; unfold wrI; (repeat' split) <;> first | rfl | omega | (simp_all; done) | (exfalso; omega) | grind]
              exact ih (c + 1) (by omega)
        · refine eR_aldn_0 dX9_chill_97 rfl ?_
          refine eR_getR (i := 206) dX9_chill_98 gf_X9_7 th_205 rfl ?_
          refine eR_bi (z := 8) dX9_chill_101 rfl ?_
          refine eR_ild_4 dX9_chill_103 ?_
          refine eR_iadd dX9_chill_105 ?_
          refine eR_iald (n := 8 + c) dX9_chill_106 th_206 (by omega) (by omega) (by decide) ?_
          refine eX_pcI ((V.2.2.2.1 c (by omega)).2.1) ?_
          refine eR_ildn_1 dX9_chill_107 rfl ?_
          refine eR_icmp_ne (tgt := 126) dX9_chill_108 (by decide) (by first | exact rg_b01 _ | (unfold rg; omega)) (by first | exact rg_b01 _ | (unfold rg; omega)) (fun c108 => ?_) (fun c108 => ?_)
          · refine eR_ic dX9_chill_126 ?_
            refine eR_ist_n5 dX9_chill_127 (by decide) rfl ?_
            refine eR_aldn_0 dX9_chill_129 rfl ?_
            refine eR_ild_4 dX9_chill_130 ?_
            refine eR_callVi [_] rfl dX9_chill_132 ok_mX9_isCut kw_1061 rfl rfl th_205 rfl (Nat.le_of_ble_eq_true rfl) (d' := 1) (by decide) (Nat.le_of_ble_eq_true rfl) ?_
            refine sp_isCut (c := c) B V (by omega) ?_
            refine eR_if_ne (tgt := 149) dX9_chill_135 (by decide) (by first | exact rg_b01 _ | (unfold rg; omega)) (fun c135 => ?_) (fun c135 => ?_)
            · replace c135 := b01_ne0.mp c135
              refine eR_ic dX9_chill_149 ?_
              refine eR_goto (tgt := 154) dX9_chill_150 (by decide) ?_
              refine eR_ist_n6 dX9_chill_154 (by decide) rfl ?_
              refine eR_ildn_3 dX9_chill_156 rfl ?_
              refine eR_ild_5 dX9_chill_157 ?_
              refine eR_if_eq (tgt := 193) dX9_chill_159 (by decide) (by first | exact rg_b01 _ | (unfold rg; omega)) (fun c159 => ?_) (fun c159 => absurd c159 (by decide))
              refine eR_ic dX9_chill_193 ?_
              refine eR_isub dX9_chill_194 ?_
              refine eR_istn_3 dX9_chill_195 rfl (by decide) rfl ?_
              refine eR_iinc_4 dX9_chill_196 (by decide) rfl ?_
              refine eR_goto (tgt := 53) dX9_chill_199 (by decide) ?_
              refine eX_lv (lv2 := List.take 5 _) (fun q hq => List.mem_of_mem_take hq) ?_
              rw [show ((chV S hn pn c) - 0 : Int) = chV S hn pn (c + 1) from by rw [chV]; unfold wrI; (repeat' split) <;> first | rfl | omega | (simp_all; done) | (exfalso; omega) | grind]
              exact ih (c + 1) (by omega)
            · replace c135 := b01_eq0.mp c135
              refine eR_aldn_0 dX9_chill_138 rfl ?_
              refine eR_getR (i := 220) dX9_chill_139 gf_X9_57 th_205 rfl ?_
              refine eR_ild_4 dX9_chill_142 ?_
              refine eR_iald (n := c) dX9_chill_144 th_220 (rfl) (by omega) (by decide) ?_
              refine eX_pcI (hw c (by omega)) ?_
              refine eR_ic dX9_chill_145 ?_
              refine eR_icmp_ne (tgt := 153) dX9_chill_146 (by decide) (by first | exact rg_b01 _ | (unfold rg; omega)) (by first | exact rg_b01 _ | (unfold rg; omega)) (fun c146 => ?_) (fun c146 => ?_)
              · refine eR_ic dX9_chill_153 ?_
                refine eR_ist_n6 dX9_chill_154 (by decide) rfl ?_
                refine eR_ildn_3 dX9_chill_156 rfl ?_
                refine eR_ild_5 dX9_chill_157 ?_
                refine eR_if_eq (tgt := 193) dX9_chill_159 (by decide) (by first | exact rg_b01 _ | (unfold rg; omega)) (fun c159 => ?_) (fun c159 => absurd c159 (by decide))
                refine eR_ic dX9_chill_193 ?_
                refine eR_isub dX9_chill_194 ?_
                refine eR_istn_3 dX9_chill_195 rfl (by decide) rfl ?_
                refine eR_iinc_4 dX9_chill_196 (by decide) rfl ?_
                refine eR_goto (tgt := 53) dX9_chill_199 (by decide) ?_
                refine eX_lv (lv2 := List.take 5 _) (fun q hq => List.mem_of_mem_take hq) ?_
                rw [show ((chV S hn pn c) - 0 : Int) = chV S hn pn (c + 1) from by rw [chV]; unfold wrI; (repeat' split) <;> first | rfl | omega | (simp_all; done) | (exfalso; omega) | grind]
                exact ih (c + 1) (by omega)
              · refine eR_ic dX9_chill_149 ?_
                refine eR_goto (tgt := 154) dX9_chill_150 (by decide) ?_
                refine eR_ist_n6 dX9_chill_154 (by decide) rfl ?_
                refine eR_ildn_3 dX9_chill_156 rfl ?_
                refine eR_ild_5 dX9_chill_157 ?_
                refine eR_if_eq (tgt := 193) dX9_chill_159 (by decide) (by first | exact rg_b01 _ | (unfold rg; omega)) (fun c159 => ?_) (fun c159 => absurd c159 (by decide))
                refine eR_ic dX9_chill_193 ?_
                refine eR_isub dX9_chill_194 ?_
                refine eR_istn_3 dX9_chill_195 rfl (by decide) rfl ?_
                refine eR_iinc_4 dX9_chill_196 (by decide) rfl ?_
                refine eR_goto (tgt := 53) dX9_chill_199 (by decide) ?_
                refine eX_lv (lv2 := List.take 5 _) (fun q hq => List.mem_of_mem_take hq) ?_
                rw [show ((chV S hn pn c) - 0 : Int) = chV S hn pn (c + 1) from by rw [chV]; unfold wrI; (repeat' split) <;> first | rfl | omega | (simp_all; done) | (exfalso; omega) | grind]
                exact ih (c + 1) (by omega)
          · refine eR_aldn_0 dX9_chill_111 rfl ?_
            refine eR_getR (i := 220) dX9_chill_112 gf_X9_57 th_205 rfl ?_
            refine eR_ild_4 dX9_chill_115 ?_
            refine eR_iald (n := c) dX9_chill_117 th_220 (rfl) (by omega) (by decide) ?_
            refine eX_pcI (hw c (by omega)) ?_
            refine eR_ic dX9_chill_118 ?_
            refine eR_icmp_lt (tgt := 126) dX9_chill_119 (by decide) (by first | exact rg_b01 _ | (unfold rg; omega)) (by first | exact rg_b01 _ | (unfold rg; omega)) (fun c119 => ?_) (fun c119 => ?_)
            · refine eR_ic dX9_chill_126 ?_
              refine eR_ist_n5 dX9_chill_127 (by decide) rfl ?_
              refine eR_aldn_0 dX9_chill_129 rfl ?_
              refine eR_ild_4 dX9_chill_130 ?_
              refine eR_callVi [_] rfl dX9_chill_132 ok_mX9_isCut kw_1061 rfl rfl th_205 rfl (Nat.le_of_ble_eq_true rfl) (d' := 1) (by decide) (Nat.le_of_ble_eq_true rfl) ?_
              refine sp_isCut (c := c) B V (by omega) ?_
              refine eR_if_ne (tgt := 149) dX9_chill_135 (by decide) (by first | exact rg_b01 _ | (unfold rg; omega)) (fun c135 => ?_) (fun c135 => ?_)
              · replace c135 := b01_ne0.mp c135
                refine eR_ic dX9_chill_149 ?_
                refine eR_goto (tgt := 154) dX9_chill_150 (by decide) ?_
                refine eR_ist_n6 dX9_chill_154 (by decide) rfl ?_
                refine eR_ildn_3 dX9_chill_156 rfl ?_
                refine eR_ild_5 dX9_chill_157 ?_
                refine eR_if_eq (tgt := 193) dX9_chill_159 (by decide) (by first | exact rg_b01 _ | (unfold rg; omega)) (fun c159 => ?_) (fun c159 => absurd c159 (by decide))
                refine eR_ic dX9_chill_193 ?_
                refine eR_isub dX9_chill_194 ?_
                refine eR_istn_3 dX9_chill_195 rfl (by decide) rfl ?_
                refine eR_iinc_4 dX9_chill_196 (by decide) rfl ?_
                refine eR_goto (tgt := 53) dX9_chill_199 (by decide) ?_
                refine eX_lv (lv2 := List.take 5 _) (fun q hq => List.mem_of_mem_take hq) ?_
                rw [show ((chV S hn pn c) - 0 : Int) = chV S hn pn (c + 1) from by rw [chV]; unfold wrI; (repeat' split) <;> first | rfl | omega | (simp_all; done) | (exfalso; omega) | grind]
                exact ih (c + 1) (by omega)
              · replace c135 := b01_eq0.mp c135
                refine eR_aldn_0 dX9_chill_138 rfl ?_
                refine eR_getR (i := 220) dX9_chill_139 gf_X9_57 th_205 rfl ?_
                refine eR_ild_4 dX9_chill_142 ?_
                refine eR_iald (n := c) dX9_chill_144 th_220 (rfl) (by omega) (by decide) ?_
                refine eX_pcI (hw c (by omega)) ?_
                refine eR_ic dX9_chill_145 ?_
                refine eR_icmp_ne (tgt := 153) dX9_chill_146 (by decide) (by first | exact rg_b01 _ | (unfold rg; omega)) (by first | exact rg_b01 _ | (unfold rg; omega)) (fun c146 => ?_) (fun c146 => ?_)
                · refine eR_ic dX9_chill_153 ?_
                  refine eR_ist_n6 dX9_chill_154 (by decide) rfl ?_
                  refine eR_ildn_3 dX9_chill_156 rfl ?_
                  refine eR_ild_5 dX9_chill_157 ?_
                  refine eR_if_eq (tgt := 193) dX9_chill_159 (by decide) (by first | exact rg_b01 _ | (unfold rg; omega)) (fun c159 => ?_) (fun c159 => absurd c159 (by decide))
                  refine eR_ic dX9_chill_193 ?_
                  refine eR_isub dX9_chill_194 ?_
                  refine eR_istn_3 dX9_chill_195 rfl (by decide) rfl ?_
                  refine eR_iinc_4 dX9_chill_196 (by decide) rfl ?_
                  refine eR_goto (tgt := 53) dX9_chill_199 (by decide) ?_
                  refine eX_lv (lv2 := List.take 5 _) (fun q hq => List.mem_of_mem_take hq) ?_
                  rw [show ((chV S hn pn c) - 0 : Int) = chV S hn pn (c + 1) from by rw [chV]; unfold wrI; (repeat' split) <;> first | rfl | omega | (simp_all; done) | (exfalso; omega) | grind]
                  exact ih (c + 1) (by omega)
                · refine eR_ic dX9_chill_149 ?_
                  refine eR_goto (tgt := 154) dX9_chill_150 (by decide) ?_
                  refine eR_ist_n6 dX9_chill_154 (by decide) rfl ?_
                  refine eR_ildn_3 dX9_chill_156 rfl ?_
                  refine eR_ild_5 dX9_chill_157 ?_
                  refine eR_if_eq (tgt := 193) dX9_chill_159 (by decide) (by first | exact rg_b01 _ | (unfold rg; omega)) (fun c159 => ?_) (fun c159 => absurd c159 (by decide))
                  refine eR_ic dX9_chill_193 ?_
                  refine eR_isub dX9_chill_194 ?_
                  refine eR_istn_3 dX9_chill_195 rfl (by decide) rfl ?_
                  refine eR_iinc_4 dX9_chill_196 (by decide) rfl ?_
                  refine eR_goto (tgt := 53) dX9_chill_199 (by decide) ?_
                  refine eX_lv (lv2 := List.take 5 _) (fun q hq => List.mem_of_mem_take hq) ?_
                  rw [show ((chV S hn pn c) - 0 : Int) = chV S hn pn (c + 1) from by rw [chV]; unfold wrI; (repeat' split) <;> first | rfl | omega | (simp_all; done) | (exfalso; omega) | grind]
                  exact ih (c + 1) (by omega)
            · refine eR_ic dX9_chill_122 ?_
              refine eR_goto (tgt := 127) dX9_chill_123 (by decide) ?_
              refine eR_ist_n5 dX9_chill_127 (by decide) rfl ?_
              refine eR_aldn_0 dX9_chill_129 rfl ?_
              refine eR_ild_4 dX9_chill_130 ?_
              refine eR_callVi [_] rfl dX9_chill_132 ok_mX9_isCut kw_1061 rfl rfl th_205 rfl (Nat.le_of_ble_eq_true rfl) (d' := 1) (by decide) (Nat.le_of_ble_eq_true rfl) ?_
              refine sp_isCut (c := c) B V (by omega) ?_
              refine eR_if_ne (tgt := 149) dX9_chill_135 (by decide) (by first | exact rg_b01 _ | (unfold rg; omega)) (fun c135 => ?_) (fun c135 => ?_)
              · replace c135 := b01_ne0.mp c135
                refine eR_ic dX9_chill_149 ?_
                refine eR_goto (tgt := 154) dX9_chill_150 (by decide) ?_
                refine eR_ist_n6 dX9_chill_154 (by decide) rfl ?_
                refine eR_ildn_3 dX9_chill_156 rfl ?_
                refine eR_ild_5 dX9_chill_157 ?_
                refine eR_if_eq (tgt := 193) dX9_chill_159 (by decide) (by first | exact rg_b01 _ | (unfold rg; omega)) (fun c159 => absurd c159 (by decide)) (fun c159 => ?_)
                refine eR_aldn_0 dX9_chill_162 rfl ?_
                refine eR_ild_6 dX9_chill_163 ?_
                refine eR_if_eq (tgt := 180) dX9_chill_165 (by decide) (by first | exact rg_b01 _ | (unfold rg; omega)) (fun c165 => absurd c165 (by decide)) (fun c165 => ?_)
                refine eR_aldn_0 dX9_chill_168 rfl ?_
                refine eR_getR (i := 210) dX9_chill_169 gf_X9_23 th_205 rfl ?_
                refine eR_ild_4 dX9_chill_172 ?_
                refine eR_iald (n := c) dX9_chill_174 th_210 (rfl) (by omega) (by decide) ?_
                refine eX_pcI ((V.2.2.2.1 c (by omega)).2.2) ?_
                refine eR_ic dX9_chill_175 ?_
                refine eR_idiv dX9_chill_176 (by first | exact rg_b01 _ | (unfold rg; omega)) (by first | exact rg_b01 _ | (unfold rg; omega)) (by omega) ?_
                refine eX_pcI (show (Int.tdiv ↑(sW S c) 2 : Int) = ↑(sW S c / 2) from rfl) ?_
                refine eR_goto (tgt := 187) dX9_chill_177 (by decide) ?_
                refine eR_callVi [_] rfl dX9_chill_187 ok_mX9_saving kw_1069 rfl rfl th_205 rfl (Nat.le_of_ble_eq_true rfl) (d' := 0) (by decide) (Nat.le_of_ble_eq_true rfl) ?_
                refine sp_saving (x := (sW S c / 2)) B V (by omega) ?_
                refine eR_goto (tgt := 194) dX9_chill_190 (by decide) ?_
                refine eR_isub dX9_chill_194 ?_
                refine eR_istn_3 dX9_chill_195 rfl (by decide) rfl ?_
                refine eR_iinc_4 dX9_chill_196 (by decide) rfl ?_
                refine eR_goto (tgt := 53) dX9_chill_199 (by decide) ?_
                refine eX_lv (lv2 := List.take 5 _) (fun q hq => List.mem_of_mem_take hq) ?_
                rw [show ((chV S hn pn c) - (↑(savN S (sW S c / 2))) : Int) = chV S hn pn (c + 1) from by rw [chV]; unfold wrI; (repeat' split) <;> first | rfl | omega | (simp_all; done) | (exfalso; omega) | grind]
                exact ih (c + 1) (by omega)
              · replace c135 := b01_eq0.mp c135
                refine eR_aldn_0 dX9_chill_138 rfl ?_
                refine eR_getR (i := 220) dX9_chill_139 gf_X9_57 th_205 rfl ?_
                refine eR_ild_4 dX9_chill_142 ?_
                refine eR_iald (n := c) dX9_chill_144 th_220 (rfl) (by omega) (by decide) ?_
                refine eX_pcI (hw c (by omega)) ?_
                refine eR_ic dX9_chill_145 ?_
                refine eR_icmp_ne (tgt := 153) dX9_chill_146 (by decide) (by first | exact rg_b01 _ | (unfold rg; omega)) (by first | exact rg_b01 _ | (unfold rg; omega)) (fun c146 => ?_) (fun c146 => ?_)
                · refine eR_ic dX9_chill_153 ?_
                  refine eR_ist_n6 dX9_chill_154 (by decide) rfl ?_
                  refine eR_ildn_3 dX9_chill_156 rfl ?_
                  refine eR_ild_5 dX9_chill_157 ?_
                  refine eR_if_eq (tgt := 193) dX9_chill_159 (by decide) (by first | exact rg_b01 _ | (unfold rg; omega)) (fun c159 => absurd c159 (by decide)) (fun c159 => ?_)
                  refine eR_aldn_0 dX9_chill_162 rfl ?_
                  refine eR_ild_6 dX9_chill_163 ?_
                  refine eR_if_eq (tgt := 180) dX9_chill_165 (by decide) (by first | exact rg_b01 _ | (unfold rg; omega)) (fun c165 => ?_) (fun c165 => absurd c165 (by decide))
                  refine eR_aldn_0 dX9_chill_180 rfl ?_
                  refine eR_getR (i := 210) dX9_chill_181 gf_X9_23 th_205 rfl ?_
                  refine eR_ild_4 dX9_chill_184 ?_
                  refine eR_iald (n := c) dX9_chill_186 th_210 (rfl) (by omega) (by decide) ?_
                  refine eX_pcI ((V.2.2.2.1 c (by omega)).2.2) ?_
                  refine eR_callVi [_] rfl dX9_chill_187 ok_mX9_saving kw_1069 rfl rfl th_205 rfl (Nat.le_of_ble_eq_true rfl) (d' := 0) (by decide) (Nat.le_of_ble_eq_true rfl) ?_
                  refine sp_saving (x := (sW S c)) B V (by omega) ?_
                  refine eR_goto (tgt := 194) dX9_chill_190 (by decide) ?_
                  refine eR_isub dX9_chill_194 ?_
                  refine eR_istn_3 dX9_chill_195 rfl (by decide) rfl ?_
                  refine eR_iinc_4 dX9_chill_196 (by decide) rfl ?_
                  refine eR_goto (tgt := 53) dX9_chill_199 (by decide) ?_
                  refine eX_lv (lv2 := List.take 5 _) (fun q hq => List.mem_of_mem_take hq) ?_
                  rw [show ((chV S hn pn c) - (↑(savN S (sW S c))) : Int) = chV S hn pn (c + 1) from by rw [chV]; unfold wrI; (repeat' split) <;> first | rfl | omega | (simp_all; done) | (exfalso; omega) | grind]
                  exact ih (c + 1) (by omega)
                · refine eR_ic dX9_chill_149 ?_
                  refine eR_goto (tgt := 154) dX9_chill_150 (by decide) ?_
                  refine eR_ist_n6 dX9_chill_154 (by decide) rfl ?_
                  refine eR_ildn_3 dX9_chill_156 rfl ?_
                  refine eR_ild_5 dX9_chill_157 ?_
                  refine eR_if_eq (tgt := 193) dX9_chill_159 (by decide) (by first | exact rg_b01 _ | (unfold rg; omega)) (fun c159 => absurd c159 (by decide)) (fun c159 => ?_)
                  refine eR_aldn_0 dX9_chill_162 rfl ?_
                  refine eR_ild_6 dX9_chill_163 ?_
                  refine eR_if_eq (tgt := 180) dX9_chill_165 (by decide) (by first | exact rg_b01 _ | (unfold rg; omega)) (fun c165 => absurd c165 (by decide)) (fun c165 => ?_)
                  refine eR_aldn_0 dX9_chill_168 rfl ?_
                  refine eR_getR (i := 210) dX9_chill_169 gf_X9_23 th_205 rfl ?_
                  refine eR_ild_4 dX9_chill_172 ?_
                  refine eR_iald (n := c) dX9_chill_174 th_210 (rfl) (by omega) (by decide) ?_
                  refine eX_pcI ((V.2.2.2.1 c (by omega)).2.2) ?_
                  refine eR_ic dX9_chill_175 ?_
                  refine eR_idiv dX9_chill_176 (by first | exact rg_b01 _ | (unfold rg; omega)) (by first | exact rg_b01 _ | (unfold rg; omega)) (by omega) ?_
                  refine eX_pcI (show (Int.tdiv ↑(sW S c) 2 : Int) = ↑(sW S c / 2) from rfl) ?_
                  refine eR_goto (tgt := 187) dX9_chill_177 (by decide) ?_
                  refine eR_callVi [_] rfl dX9_chill_187 ok_mX9_saving kw_1069 rfl rfl th_205 rfl (Nat.le_of_ble_eq_true rfl) (d' := 0) (by decide) (Nat.le_of_ble_eq_true rfl) ?_
                  refine sp_saving (x := (sW S c / 2)) B V (by omega) ?_
                  refine eR_goto (tgt := 194) dX9_chill_190 (by decide) ?_
                  refine eR_isub dX9_chill_194 ?_
                  refine eR_istn_3 dX9_chill_195 rfl (by decide) rfl ?_
                  refine eR_iinc_4 dX9_chill_196 (by decide) rfl ?_
                  refine eR_goto (tgt := 53) dX9_chill_199 (by decide) ?_
                  refine eX_lv (lv2 := List.take 5 _) (fun q hq => List.mem_of_mem_take hq) ?_
                  rw [show ((chV S hn pn c) - (↑(savN S (sW S c / 2))) : Int) = chV S hn pn (c + 1) from by rw [chV]; unfold wrI; (repeat' split) <;> first | rfl | omega | (simp_all; done) | (exfalso; omega) | grind]
                  exact ih (c + 1) (by omega)
theorem sp_chill (B : sB S) (V : mV h S) {p : Int} (hr_p : rg p) {hour : Int} (hr_hour : rg hour) (k : ∀ h1 : PH, of2 219 220 h h1 → Q (.int (zI (rChill S p hour))) (tau t s) h1) : eX g 7 mX9_chill 0 (lv_args 0 [.ref (gA g 205), .int (zI p), .int (zI hour)]) [] (tau t s) h Q := by
  show eX g 7 mX9_chill 0 [(0, .ref (gA g 205)), (1, .int (zI p)), (2, .int (zI hour))] [] (tau t s) h Q
  have hP8 := B.1
  have hC8 := B.2.1
  have hE10 := B.2.2.1
  have hF99 := B.2.2.2.2.2.2.1
  by_cases hq1 : 0 ≤ p ∧ p ≤ ↑(sP S) - 1
  · obtain ⟨pn, rfl⟩ : ∃ pn : Nat, p = (pn : Int) := ⟨p.toNat, by omega⟩
    by_cases hq2 : 0 ≤ hour ∧ hour ≤ 23
    · obtain ⟨hn, rfl⟩ : ∃ hn : Nat, hour = (hn : Int) := ⟨hour.toNat, by omega⟩
      by_cases hq3 : 0 ≤ whereIs S pn hn
      · refine eR_aldn_0 dX9_chill_0 rfl ?_
        refine eR_ildn_1 dX9_chill_1 rfl ?_
        refine eR_callVi [_] rfl dX9_chill_2 ok_mX9_isPerson kw_1098 rfl rfl th_205 rfl (Nat.le_of_ble_eq_true rfl) (d' := 1) (by decide) (Nat.le_of_ble_eq_true rfl) ?_
        refine sp_isPerson B V (by first | assumption | (unfold rg; omega)) ?_
        refine eR_if_ne (tgt := 11) dX9_chill_5 (by decide) (by first | exact rg_b01 _ | (unfold rg; omega)) (fun c5 => ?_) (fun c5 => absurd c5 (by simp [b01, hq1]))
        refine eR_ildn_2 dX9_chill_11 rfl ?_
        refine eR_i2lz dX9_chill_12 (by first | exact rg_b01 _ | (unfold rg; omega)) ?_
        refine eR_lc (z := 0) dX9_chill_13 rfl ?_
        refine eR_ldc2 (z := 23) dX9_chill_14 kw_1102 (by decide) ?_
        refine eR_callSi [_, _, _] rfl dX9_chill_17 ok_mX9_in kw_952 rfl rfl (Nat.le_of_ble_eq_true rfl) (d' := 0) (by decide) (Nat.le_of_ble_eq_true rfl) ?_
        refine sp_in (by first | (unfold rL; omega) | (unfold rL; unfold rg at *; omega)) (by first | (unfold rL; omega) | (unfold rL; unfold rg at *; omega)) (by first | (unfold rL; omega) | (unfold rL; unfold rg at *; omega)) ?_
        refine eR_if_ne (tgt := 26) dX9_chill_20 (by decide) (by first | exact rg_b01 _ | (unfold rg; omega)) (fun c20 => ?_) (fun c20 => absurd c20 (by simp [b01, hq2]))
        refine eR_aldn_0 dX9_chill_26 rfl ?_
        refine eR_ildn_1 dX9_chill_27 rfl ?_
        refine eR_ildn_2 dX9_chill_28 rfl ?_
        refine eR_callVi [_, _] rfl dX9_chill_29 ok_mX9_isOut kw_1035 rfl rfl th_205 rfl (Nat.le_of_ble_eq_true rfl) (d' := 3) (by decide) (Nat.le_of_ble_eq_true rfl) ?_
        refine sp_isOut (p := pn) (hour := hn) B V (by omega) (by omega) ?_
        refine eR_if_ne (tgt := 37) dX9_chill_32 (by decide) (by first | exact rg_b01 _ | (unfold rg; omega)) (fun c32 => ?_) (fun c32 => absurd c32 (by simp [b01, hq3]))
        refine eR_aldn_0 dX9_chill_37 rfl ?_
        refine eR_ildn_2 dX9_chill_38 rfl ?_
        refine eR_callVv [_] rfl dX9_chill_39 ok_mX9_chooseWearing kw_1148 rfl rfl th_205 rfl (Nat.le_of_ble_eq_true rfl) (d' := 6) (by decide) (Nat.le_of_ble_eq_true rfl) ?_
        refine sp_chooseWearing (hour := hn) B V (by omega) (fun k2 Ok2 Dk2 => ?_)
        have Vk2 := mV_o2 V Ok2 (by decide) (by decide)
        refine eR_aldn_0 dX9_chill_42 rfl ?_
        refine eR_getR (i := 206) dX9_chill_43 gf_X9_7 th_205 rfl ?_
        refine eR_bi (z := 17) dX9_chill_46 rfl ?_
        refine eR_iald (n := 17) dX9_chill_48 th_206 (rfl) (by decide) (by decide) ?_
        refine eX_pcI (Vk2.2.2.2.2.2.2.1) ?_
        refine eR_istn_n3 dX9_chill_49 rfl (by decide) rfl ?_
        refine eR_ic dX9_chill_50 ?_
        refine eR_ist_n4 dX9_chill_51 (by decide) rfl ?_
        refine lp_chill B Vk2 (by omega) (by omega) Dk2 ?_ (sC S) 0 (by omega)
        have k9 := k _ Ok2
        rw [show (rChill S ↑pn ↑hn : Int) = chV S hn pn (sC S) from by unfold rChill; rw [if_pos hq1, if_pos hq2]; exact if_pos hq3] at k9
        exact k9
      · refine eR_aldn_0 dX9_chill_0 rfl ?_
        refine eR_ildn_1 dX9_chill_1 rfl ?_
        refine eR_callVi [_] rfl dX9_chill_2 ok_mX9_isPerson kw_1098 rfl rfl th_205 rfl (Nat.le_of_ble_eq_true rfl) (d' := 1) (by decide) (Nat.le_of_ble_eq_true rfl) ?_
        refine sp_isPerson B V (by first | assumption | (unfold rg; omega)) ?_
        refine eR_if_ne (tgt := 11) dX9_chill_5 (by decide) (by first | exact rg_b01 _ | (unfold rg; omega)) (fun c5 => ?_) (fun c5 => absurd c5 (by simp [b01, hq1]))
        refine eR_ildn_2 dX9_chill_11 rfl ?_
        refine eR_i2lz dX9_chill_12 (by first | exact rg_b01 _ | (unfold rg; omega)) ?_
        refine eR_lc (z := 0) dX9_chill_13 rfl ?_
        refine eR_ldc2 (z := 23) dX9_chill_14 kw_1102 (by decide) ?_
        refine eR_callSi [_, _, _] rfl dX9_chill_17 ok_mX9_in kw_952 rfl rfl (Nat.le_of_ble_eq_true rfl) (d' := 0) (by decide) (Nat.le_of_ble_eq_true rfl) ?_
        refine sp_in (by first | (unfold rL; omega) | (unfold rL; unfold rg at *; omega)) (by first | (unfold rL; omega) | (unfold rL; unfold rg at *; omega)) (by first | (unfold rL; omega) | (unfold rL; unfold rg at *; omega)) ?_
        refine eR_if_ne (tgt := 26) dX9_chill_20 (by decide) (by first | exact rg_b01 _ | (unfold rg; omega)) (fun c20 => ?_) (fun c20 => absurd c20 (by simp [b01, hq2]))
        refine eR_aldn_0 dX9_chill_26 rfl ?_
        refine eR_ildn_1 dX9_chill_27 rfl ?_
        refine eR_ildn_2 dX9_chill_28 rfl ?_
        refine eR_callVi [_, _] rfl dX9_chill_29 ok_mX9_isOut kw_1035 rfl rfl th_205 rfl (Nat.le_of_ble_eq_true rfl) (d' := 3) (by decide) (Nat.le_of_ble_eq_true rfl) ?_
        refine sp_isOut (p := pn) (hour := hn) B V (by omega) (by omega) ?_
        refine eR_if_ne (tgt := 37) dX9_chill_32 (by decide) (by first | exact rg_b01 _ | (unfold rg; omega)) (fun c32 => absurd c32 (by simp [b01, hq3])) (fun c32 => ?_)
        refine eR_ic dX9_chill_35 ?_
        refine eR_iret dX9_chill_36 rfl rfl ?_
        have k9 := k _ (of2_rf _ _ _)
        rw [show (rChill S ↑pn ↑hn : Int) = 0 from by unfold rChill; rw [if_pos hq1, if_pos hq2]; exact if_neg hq3] at k9
        exact k9
    · refine eR_aldn_0 dX9_chill_0 rfl ?_
      refine eR_ildn_1 dX9_chill_1 rfl ?_
      refine eR_callVi [_] rfl dX9_chill_2 ok_mX9_isPerson kw_1098 rfl rfl th_205 rfl (Nat.le_of_ble_eq_true rfl) (d' := 1) (by decide) (Nat.le_of_ble_eq_true rfl) ?_
      refine sp_isPerson B V (by first | assumption | (unfold rg; omega)) ?_
      refine eR_if_ne (tgt := 11) dX9_chill_5 (by decide) (by first | assumption | exact rg_b01 _ | (unfold rg; omega) | (unfold rg at *; omega)) (fun c5 => ?_) (fun c5 => absurd c5 (by simp [b01, hq1]))
      refine eR_ildn_2 dX9_chill_11 rfl ?_
      refine eR_i2lz dX9_chill_12 (by first | assumption | exact rg_b01 _ | (unfold rg; omega) | (unfold rg at *; omega)) ?_
      refine eR_lc (z := 0) dX9_chill_13 rfl ?_
      refine eR_ldc2 (z := 23) dX9_chill_14 kw_1102 (by decide) ?_
      refine eR_callSi [_, _, _] rfl dX9_chill_17 ok_mX9_in kw_952 rfl rfl (Nat.le_of_ble_eq_true rfl) (d' := 0) (by decide) (Nat.le_of_ble_eq_true rfl) ?_
      refine sp_in (by first | (unfold rL; omega) | (unfold rL; unfold rg at *; omega)) (by first | (unfold rL; omega) | (unfold rL; unfold rg at *; omega)) (by first | (unfold rL; omega) | (unfold rL; unfold rg at *; omega)) ?_
      refine eR_if_ne (tgt := 26) dX9_chill_20 (by decide) (by first | assumption | exact rg_b01 _ | (unfold rg; omega) | (unfold rg at *; omega)) (fun c20 => absurd c20 (by simp [b01, hq2])) (fun c20 => ?_)
      refine eR_ldc (z := -1000000002) dX9_chill_23 kw_955 (by decide) ?_
      refine eR_iret dX9_chill_25 rfl rfl ?_
      have k9 := k h (of2_rf _ _ _)
      rw [show (rChill S ↑pn hour : Int) = (-1000000002) from by unfold rChill; (repeat' split) <;> first | rfl | omega | simp_all] at k9; exact k9
  · refine eR_aldn_0 dX9_chill_0 rfl ?_
    refine eR_ildn_1 dX9_chill_1 rfl ?_
    refine eR_callVi [_] rfl dX9_chill_2 ok_mX9_isPerson kw_1098 rfl rfl th_205 rfl (Nat.le_of_ble_eq_true rfl) (d' := 1) (by decide) (Nat.le_of_ble_eq_true rfl) ?_
    refine sp_isPerson B V (by first | assumption | (unfold rg; omega)) ?_
    refine eR_if_ne (tgt := 11) dX9_chill_5 (by decide) (by first | assumption | exact rg_b01 _ | (unfold rg; omega) | (unfold rg at *; omega)) (fun c5 => absurd c5 (by simp [b01, hq1])) (fun c5 => ?_)
    refine eR_ldc (z := -1000000001) dX9_chill_8 kw_1089 (by decide) ?_
    refine eR_iret dX9_chill_10 rfl rfl ?_
    have k9 := k h (of2_rf _ _ _)
    rw [show (rChill S p hour : Int) = (-1000000001) from by unfold rChill; (repeat' split) <;> first | rfl | omega | simp_all] at k9; exact k9
end M17
