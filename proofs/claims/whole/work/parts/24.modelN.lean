abbrev okBuy (S : TS) (c p : Nat) : Prop := ¬ (sK S).testBit c = true ∧ sO S c 0 ≠ p ∧ sO S c 1 ≠ p
def rSell (S : TS) (c sl p : Int) : Int := if 0 ≤ c ∧ c ≤ (sC S : Int) - 1 then (if 0 ≤ p ∧ p ≤ (sP S : Int) - 1 then (if 0 ≤ sl ∧ sl ≤ 1 then (if okBuy S c.toNat p.toNat then (sO S c.toNat sl.toNat : Int) else -1000000003) else -1000000002) else -1000000001) else -1000000001
def sSell (S : TS) (c sl p : Int) : TS := if (0 ≤ c ∧ c ≤ (sC S : Int) - 1) ∧ (0 ≤ p ∧ p ≤ (sP S : Int) - 1) ∧ (0 ≤ sl ∧ sl ≤ 1) ∧ okBuy S c.toNat p.toNat then setO S c.toNat sl.toNat p.toNat else S
def rCut (S : TS) (c : Int) : Int := if 0 ≤ c ∧ c ≤ (sC S : Int) - 1 then (if (sK S).testBit c.toNat = true then -1000000003 else 1) else -1000000001
def sCut (S : TS) (c : Int) : TS := if (0 ≤ c ∧ c ≤ (sC S : Int) - 1) ∧ ¬ (sK S).testBit c.toNat = true then setK S (sK S ||| 2 ^ c.toNat) else S
def rFrost (S : TS) (v : Int) : Int := if 0 ≤ v ∧ v ≤ 99 then (sF S : Int) else -1000000002
def sFrost (S : TS) (v : Int) : TS := if 0 ≤ v ∧ v ≤ 99 then setF S v.toNat else S
/-- one cell's one place has changed -/
def frW (i0 : Nat) (h h' : PH) : Prop := ofO 206 h h' ∧ ∀ i, i ≠ i0 → h' 206 i = h 206 i
theorem frW_rf (i0 : Nat) (h : PH) : frW i0 h h := ⟨ofO_rf _ _, fun _ _ => rfl⟩
theorem frW_w (i0 : Nat) (h : PH) (z : Int) : frW i0 h (hU h 206 i0 z) := ⟨ofO_w (ofO_rf _ _), fun i hi => by rw [hU_i _ _ _ hi]⟩
section M24
variable {g : EG} {d t s : Nat} {h h1 : PH} {Q : EQ} {S : TS}
theorem sp_sell (B : sB S) (V : mV h S) {c : Int} (hr_c : rg c) {sl : Int} (hr_sl : rg sl) {p : Int} (hr_p : rg p) (k : ∀ h2 : PH, fr16 h h2 → mV h2 (sSell S c sl p) → sB (sSell S c sl p) → Q (.int (zI (rSell S c sl p))) (tau t s) h2) : eX g 3 mX9_sell 0 (lv_args 0 [.ref (gA g 205), .int (zI c), .int (zI sl), .int (zI p)]) [] (tau t s) h Q := by
  show eX g 3 mX9_sell 0 [(0, .ref (gA g 205)), (1, .int (zI c)), (2, .int (zI sl)), (3, .int (zI p))] [] (tau t s) h Q
  have hP8 := B.1
  have hC8 := B.2.1
  have hE10 := B.2.2.1
  have hF99 := B.2.2.2.2.2.2.1
  by_cases hq1 : 0 ≤ c ∧ c ≤ ↑(sC S) - 1
  · obtain ⟨cn, rfl⟩ : ∃ cn : Nat, c = (cn : Int) := ⟨c.toNat, by omega⟩
    by_cases hq2 : 0 ≤ p ∧ p ≤ ↑(sP S) - 1
    · obtain ⟨pn, rfl⟩ : ∃ pn : Nat, p = (pn : Int) := ⟨p.toNat, by omega⟩
      by_cases hq3 : 0 ≤ sl ∧ sl ≤ 1
      · obtain ⟨sn, rfl⟩ : ∃ sn : Nat, sl = (sn : Int) := ⟨sl.toNat, by omega⟩
        by_cases hok : ¬ (sK S).testBit cn = true ∧ sO S cn 0 ≠ pn ∧ sO S cn 1 ≠ pn
        · refine eR_aldn_0 dX9_sell_0 rfl ?_
          refine eR_ildn_1 dX9_sell_1 rfl ?_
          refine eR_callVi [_] rfl dX9_sell_2 ok_mX9_isCoat kw_1085 rfl rfl th_205 rfl (Nat.le_of_ble_eq_true rfl) (d' := 1) (by decide) (Nat.le_of_ble_eq_true rfl) ?_
          refine sp_isCoat B V (by first | assumption | (unfold rg; omega)) ?_
          refine eR_if_eq (tgt := 16) dX9_sell_5 (by decide) (by first | assumption | exact rg_b01 _ | (unfold rg; omega) | (unfold rg at *; omega)) (fun c5 => absurd c5 (by first | simp [b01, hq1] | (rw [b01_t hq1]; decide))) (fun c5 => ?_)
          refine eR_aldn_0 dX9_sell_8 rfl ?_
          refine eR_ildn_3 dX9_sell_9 rfl ?_
          refine eR_callVi [_] rfl dX9_sell_10 ok_mX9_isPerson kw_1098 rfl rfl th_205 rfl (Nat.le_of_ble_eq_true rfl) (d' := 1) (by decide) (Nat.le_of_ble_eq_true rfl) ?_
          refine sp_isPerson B V (by first | assumption | (unfold rg; omega)) ?_
          refine eR_if_ne (tgt := 19) dX9_sell_13 (by decide) (by first | assumption | exact rg_b01 _ | (unfold rg; omega) | (unfold rg at *; omega)) (fun c13 => ?_) (fun c13 => absurd c13 (by first | simp [b01, hq2] | (rw [b01_t hq2]; decide)))
          refine eR_ildn_2 dX9_sell_19 rfl ?_
          refine eR_i2lz dX9_sell_20 (by first | assumption | exact rg_b01 _ | (unfold rg; omega) | (unfold rg at *; omega)) ?_
          refine eR_lc (z := 0) dX9_sell_21 rfl ?_
          refine eR_lc (z := 1) dX9_sell_22 rfl ?_
          refine eR_callSi [_, _, _] rfl dX9_sell_23 ok_mX9_in kw_952 rfl rfl (Nat.le_of_ble_eq_true rfl) (d' := 0) (by decide) (Nat.le_of_ble_eq_true rfl) ?_
          refine sp_in (by first | (unfold rL; omega) | (unfold rL; unfold rg at *; omega)) (by first | (unfold rL; omega) | (unfold rL; unfold rg at *; omega)) (by first | (unfold rL; omega) | (unfold rL; unfold rg at *; omega)) ?_
          refine eR_if_ne (tgt := 32) dX9_sell_26 (by decide) (by first | assumption | exact rg_b01 _ | (unfold rg; omega) | (unfold rg at *; omega)) (fun c26 => ?_) (fun c26 => absurd c26 (by first | simp [b01, hq3] | (rw [b01_t hq3]; decide)))
          refine eR_aldn_0 dX9_sell_32 rfl ?_
          refine eR_ildn_1 dX9_sell_33 rfl ?_
          refine eR_ildn_3 dX9_sell_34 rfl ?_
          refine eR_callVi [_, _] rfl dX9_sell_35 ok_mX9_canBuy kw_1130 rfl rfl th_205 rfl (Nat.le_of_ble_eq_true rfl) (d' := 2) (by decide) (Nat.le_of_ble_eq_true rfl) ?_
          refine sp_canBuy (c := cn) (p := pn) B V (by omega) (by omega) ?_
          refine eR_if_ne (tgt := 44) dX9_sell_38 (by decide) (by first | assumption | exact rg_b01 _ | (unfold rg; omega) | (unfold rg at *; omega)) (fun c38 => ?_) (fun c38 => absurd c38 (by first | simp [b01, hok] | (rw [b01_t hok]; decide)))
          refine eR_bi (z := 8) dX9_sell_44 rfl ?_
          refine eR_ildn_2 dX9_sell_46 rfl ?_
          refine eR_imul dX9_sell_47 ?_
          refine eR_ildn_1 dX9_sell_48 rfl ?_
          refine eR_iadd dX9_sell_49 ?_
          refine eX_pcI (show ((8 * ↑sn) + ↑cn : Int) = ↑(8 * sn + cn : Nat) from by omega) ?_
          refine eR_ist_n4 dX9_sell_50 (by decide) rfl ?_
          refine eR_aldn_0 dX9_sell_52 rfl ?_
          refine eR_getR (i := 206) dX9_sell_53 gf_X9_7 th_205 rfl ?_
          refine eR_ild_4 dX9_sell_56 ?_
          refine eR_iald (n := (8 * sn + cn : Nat)) dX9_sell_58 th_206 (rfl) (by omega) (by decide) ?_
          refine eX_pcI (mV_own V (by omega) (by omega)) ?_
          refine eR_ist_n5 dX9_sell_59 (by decide) rfl ?_
          refine eR_aldn_0 dX9_sell_61 rfl ?_
          refine eR_getR (i := 206) dX9_sell_62 gf_X9_7 th_205 rfl ?_
          refine eR_ild_4 dX9_sell_65 ?_
          refine eR_ildn_3 dX9_sell_67 rfl ?_
          refine eR_iast (n := (8 * sn + cn : Nat)) dX9_sell_68 th_206 (rfl) (by omega) (by decide) ?_
          refine eR_ild_5 dX9_sell_69 ?_
          refine eR_iret dX9_sell_71 rfl rfl ?_
          have e9 : sSell S ↑cn ↑sn ↑pn = setO S cn sn pn := if_pos ⟨hq1, hq2, hq3, hok⟩
          have k9 := k (hU h 206 (8 * sn + cn) ↑pn) (fr16_w (fr16_rf h) (by omega)) (by rw [e9]; exact mV_setO V hC8 (by omega) (by omega)) (by rw [e9]; exact sB_setO B (by omega) (by rcases (show sn = 0 ∨ sn = 1 by omega) with rfl | rfl; exact hok.2.2; exact hok.2.1) (by omega))
          rw [show (rSell S ↑cn ↑sn ↑pn : Int) = ↑(sO S cn sn) from by unfold rSell; rw [if_pos hq1, if_pos hq2, if_pos hq3]; exact if_pos hok] at k9
          exact k9
        · refine eR_aldn_0 dX9_sell_0 rfl ?_
          refine eR_ildn_1 dX9_sell_1 rfl ?_
          refine eR_callVi [_] rfl dX9_sell_2 ok_mX9_isCoat kw_1085 rfl rfl th_205 rfl (Nat.le_of_ble_eq_true rfl) (d' := 1) (by decide) (Nat.le_of_ble_eq_true rfl) ?_
          refine sp_isCoat B V (by first | assumption | (unfold rg; omega)) ?_
          refine eR_if_eq (tgt := 16) dX9_sell_5 (by decide) (by first | assumption | exact rg_b01 _ | (unfold rg; omega) | (unfold rg at *; omega)) (fun c5 => absurd c5 (by first | simp [b01, hq1] | (rw [b01_t hq1]; decide))) (fun c5 => ?_)
          refine eR_aldn_0 dX9_sell_8 rfl ?_
          refine eR_ildn_3 dX9_sell_9 rfl ?_
          refine eR_callVi [_] rfl dX9_sell_10 ok_mX9_isPerson kw_1098 rfl rfl th_205 rfl (Nat.le_of_ble_eq_true rfl) (d' := 1) (by decide) (Nat.le_of_ble_eq_true rfl) ?_
          refine sp_isPerson B V (by first | assumption | (unfold rg; omega)) ?_
          refine eR_if_ne (tgt := 19) dX9_sell_13 (by decide) (by first | assumption | exact rg_b01 _ | (unfold rg; omega) | (unfold rg at *; omega)) (fun c13 => ?_) (fun c13 => absurd c13 (by first | simp [b01, hq2] | (rw [b01_t hq2]; decide)))
          refine eR_ildn_2 dX9_sell_19 rfl ?_
          refine eR_i2lz dX9_sell_20 (by first | assumption | exact rg_b01 _ | (unfold rg; omega) | (unfold rg at *; omega)) ?_
          refine eR_lc (z := 0) dX9_sell_21 rfl ?_
          refine eR_lc (z := 1) dX9_sell_22 rfl ?_
          refine eR_callSi [_, _, _] rfl dX9_sell_23 ok_mX9_in kw_952 rfl rfl (Nat.le_of_ble_eq_true rfl) (d' := 0) (by decide) (Nat.le_of_ble_eq_true rfl) ?_
          refine sp_in (by first | (unfold rL; omega) | (unfold rL; unfold rg at *; omega)) (by first | (unfold rL; omega) | (unfold rL; unfold rg at *; omega)) (by first | (unfold rL; omega) | (unfold rL; unfold rg at *; omega)) ?_
          refine eR_if_ne (tgt := 32) dX9_sell_26 (by decide) (by first | assumption | exact rg_b01 _ | (unfold rg; omega) | (unfold rg at *; omega)) (fun c26 => ?_) (fun c26 => absurd c26 (by first | simp [b01, hq3] | (rw [b01_t hq3]; decide)))
          refine eR_aldn_0 dX9_sell_32 rfl ?_
          refine eR_ildn_1 dX9_sell_33 rfl ?_
          refine eR_ildn_3 dX9_sell_34 rfl ?_
          refine eR_callVi [_, _] rfl dX9_sell_35 ok_mX9_canBuy kw_1130 rfl rfl th_205 rfl (Nat.le_of_ble_eq_true rfl) (d' := 2) (by decide) (Nat.le_of_ble_eq_true rfl) ?_
          refine sp_canBuy (c := cn) (p := pn) B V (by omega) (by omega) ?_
          refine eR_if_ne (tgt := 44) dX9_sell_38 (by decide) (by first | assumption | exact rg_b01 _ | (unfold rg; omega) | (unfold rg at *; omega)) (fun c38 => absurd c38 (by first | (simp [b01, hok]; done) | (rw [b01_f hok]; decide))) (fun c38 => ?_)
          refine eR_ldc (z := -1000000003) dX9_sell_41 kw_1134 (by decide) ?_
          refine eR_iret dX9_sell_43 rfl rfl ?_
          have e9 : sSell S ↑cn ↑sn ↑pn = S := if_neg (by first | (rintro ⟨q1, q2⟩; first | contradiction | omega | (simp_all; done)) | assumption)
          have k9 := k h (fr16_rf h) (by rw [e9]; exact V) (by rw [e9]; exact B)
          rw [show (rSell S ↑cn ↑sn ↑pn : Int) = (-1000000003) from by unfold rSell; (repeat' split) <;> first | rfl | omega | simp_all] at k9
          exact k9
      · refine eR_aldn_0 dX9_sell_0 rfl ?_
        refine eR_ildn_1 dX9_sell_1 rfl ?_
        refine eR_callVi [_] rfl dX9_sell_2 ok_mX9_isCoat kw_1085 rfl rfl th_205 rfl (Nat.le_of_ble_eq_true rfl) (d' := 1) (by decide) (Nat.le_of_ble_eq_true rfl) ?_
        refine sp_isCoat B V (by first | assumption | (unfold rg; omega)) ?_
        refine eR_if_eq (tgt := 16) dX9_sell_5 (by decide) (by first | assumption | exact rg_b01 _ | (unfold rg; omega) | (unfold rg at *; omega)) (fun c5 => absurd c5 (by first | simp [b01, hq1] | (rw [b01_t hq1]; decide))) (fun c5 => ?_)
        refine eR_aldn_0 dX9_sell_8 rfl ?_
        refine eR_ildn_3 dX9_sell_9 rfl ?_
        refine eR_callVi [_] rfl dX9_sell_10 ok_mX9_isPerson kw_1098 rfl rfl th_205 rfl (Nat.le_of_ble_eq_true rfl) (d' := 1) (by decide) (Nat.le_of_ble_eq_true rfl) ?_
        refine sp_isPerson B V (by first | assumption | (unfold rg; omega)) ?_
        refine eR_if_ne (tgt := 19) dX9_sell_13 (by decide) (by first | assumption | exact rg_b01 _ | (unfold rg; omega) | (unfold rg at *; omega)) (fun c13 => ?_) (fun c13 => absurd c13 (by first | simp [b01, hq2] | (rw [b01_t hq2]; decide)))
        refine eR_ildn_2 dX9_sell_19 rfl ?_
        refine eR_i2lz dX9_sell_20 (by first | assumption | exact rg_b01 _ | (unfold rg; omega) | (unfold rg at *; omega)) ?_
        refine eR_lc (z := 0) dX9_sell_21 rfl ?_
        refine eR_lc (z := 1) dX9_sell_22 rfl ?_
        refine eR_callSi [_, _, _] rfl dX9_sell_23 ok_mX9_in kw_952 rfl rfl (Nat.le_of_ble_eq_true rfl) (d' := 0) (by decide) (Nat.le_of_ble_eq_true rfl) ?_
        refine sp_in (by first | (unfold rL; omega) | (unfold rL; unfold rg at *; omega)) (by first | (unfold rL; omega) | (unfold rL; unfold rg at *; omega)) (by first | (unfold rL; omega) | (unfold rL; unfold rg at *; omega)) ?_
        refine eR_if_ne (tgt := 32) dX9_sell_26 (by decide) (by first | assumption | exact rg_b01 _ | (unfold rg; omega) | (unfold rg at *; omega)) (fun c26 => absurd c26 (by first | (simp [b01, hq3]; done) | (rw [b01_f hq3]; decide))) (fun c26 => ?_)
        refine eR_ldc (z := -1000000002) dX9_sell_29 kw_955 (by decide) ?_
        refine eR_iret dX9_sell_31 rfl rfl ?_
        have e9 : sSell S ↑cn sl ↑pn = S := if_neg (by first | (rintro ⟨q1, q2⟩; first | contradiction | omega | (simp_all; done)) | assumption)
        have k9 := k h (fr16_rf h) (by rw [e9]; exact V) (by rw [e9]; exact B)
        rw [show (rSell S ↑cn sl ↑pn : Int) = (-1000000002) from by unfold rSell; (repeat' split) <;> first | rfl | omega | simp_all] at k9
        exact k9
    · refine eR_aldn_0 dX9_sell_0 rfl ?_
      refine eR_ildn_1 dX9_sell_1 rfl ?_
      refine eR_callVi [_] rfl dX9_sell_2 ok_mX9_isCoat kw_1085 rfl rfl th_205 rfl (Nat.le_of_ble_eq_true rfl) (d' := 1) (by decide) (Nat.le_of_ble_eq_true rfl) ?_
      refine sp_isCoat B V (by first | assumption | (unfold rg; omega)) ?_
      refine eR_if_eq (tgt := 16) dX9_sell_5 (by decide) (by first | assumption | exact rg_b01 _ | (unfold rg; omega) | (unfold rg at *; omega)) (fun c5 => absurd c5 (by first | simp [b01, hq1] | (rw [b01_t hq1]; decide))) (fun c5 => ?_)
      refine eR_aldn_0 dX9_sell_8 rfl ?_
      refine eR_ildn_3 dX9_sell_9 rfl ?_
      refine eR_callVi [_] rfl dX9_sell_10 ok_mX9_isPerson kw_1098 rfl rfl th_205 rfl (Nat.le_of_ble_eq_true rfl) (d' := 1) (by decide) (Nat.le_of_ble_eq_true rfl) ?_
      refine sp_isPerson B V (by first | assumption | (unfold rg; omega)) ?_
      refine eR_if_ne (tgt := 19) dX9_sell_13 (by decide) (by first | assumption | exact rg_b01 _ | (unfold rg; omega) | (unfold rg at *; omega)) (fun c13 => absurd c13 (by first | (simp [b01, hq2]; done) | (rw [b01_f hq2]; decide))) (fun c13 => ?_)
      refine eR_ldc (z := -1000000001) dX9_sell_16 kw_1089 (by decide) ?_
      refine eR_iret dX9_sell_18 rfl rfl ?_
      have e9 : sSell S ↑cn sl p = S := if_neg (by first | (rintro ⟨q1, q2⟩; first | contradiction | omega | (simp_all; done)) | assumption)
      have k9 := k h (fr16_rf h) (by rw [e9]; exact V) (by rw [e9]; exact B)
      rw [show (rSell S ↑cn sl p : Int) = (-1000000001) from by unfold rSell; (repeat' split) <;> first | rfl | omega | simp_all] at k9
      exact k9
  · refine eR_aldn_0 dX9_sell_0 rfl ?_
    refine eR_ildn_1 dX9_sell_1 rfl ?_
    refine eR_callVi [_] rfl dX9_sell_2 ok_mX9_isCoat kw_1085 rfl rfl th_205 rfl (Nat.le_of_ble_eq_true rfl) (d' := 1) (by decide) (Nat.le_of_ble_eq_true rfl) ?_
    refine sp_isCoat B V (by first | assumption | (unfold rg; omega)) ?_
    refine eR_if_eq (tgt := 16) dX9_sell_5 (by decide) (by first | assumption | exact rg_b01 _ | (unfold rg; omega) | (unfold rg at *; omega)) (fun c5 => ?_) (fun c5 => absurd c5 (by first | (simp [b01, hq1]; done) | (rw [b01_f hq1]; decide)))
    refine eR_ldc (z := -1000000001) dX9_sell_16 kw_1089 (by decide) ?_
    refine eR_iret dX9_sell_18 rfl rfl ?_
    have e9 : sSell S c sl p = S := if_neg (by first | (rintro ⟨q1, q2⟩; first | contradiction | omega | (simp_all; done)) | assumption)
    have k9 := k h (fr16_rf h) (by rw [e9]; exact V) (by rw [e9]; exact B)
    rw [show (rSell S c sl p : Int) = (-1000000001) from by unfold rSell; (repeat' split) <;> first | rfl | omega | simp_all] at k9
    exact k9
theorem sp_cut (B : sB S) (V : mV h S) {c : Int} (hr_c : rg c) (k : ∀ h2 : PH, frW 16 h h2 → mV h2 (sCut S c) → sB (sCut S c) → Q (.int (zI (rCut S c))) (tau t s) h2) : eX g 2 mX9_cut 0 (lv_args 0 [.ref (gA g 205), .int (zI c)]) [] (tau t s) h Q := by
  show eX g 2 mX9_cut 0 [(0, .ref (gA g 205)), (1, .int (zI c))] [] (tau t s) h Q
  have hP8 := B.1
  have hC8 := B.2.1
  have hE10 := B.2.2.1
  have hF99 := B.2.2.2.2.2.2.1
  by_cases hq1 : 0 ≤ c ∧ c ≤ ↑(sC S) - 1
  · obtain ⟨cn, rfl⟩ : ∃ cn : Nat, c = (cn : Int) := ⟨c.toNat, by omega⟩
    have hk9 := sB_cut B
    have h2c : 2 ^ cn ≤ 2 ^ 7 := Nat.pow_le_pow_right (by omega) (by omega)
    by_cases hok : (sK S).testBit cn = true
    · refine eR_aldn_0 dX9_cut_0 rfl ?_
      refine eR_ildn_1 dX9_cut_1 rfl ?_
      refine eR_callVi [_] rfl dX9_cut_2 ok_mX9_isCoat kw_1085 rfl rfl th_205 rfl (Nat.le_of_ble_eq_true rfl) (d' := 1) (by decide) (Nat.le_of_ble_eq_true rfl) ?_
      refine sp_isCoat B V (by first | assumption | (unfold rg; omega)) ?_
      refine eR_if_ne (tgt := 11) dX9_cut_5 (by decide) (by first | assumption | exact rg_b01 _ | (unfold rg; omega) | (unfold rg at *; omega)) (fun c5 => ?_) (fun c5 => absurd c5 (by first | simp [b01, hq1] | (rw [b01_t hq1]; decide)))
      refine eR_aldn_0 dX9_cut_11 rfl ?_
      refine eR_ildn_1 dX9_cut_12 rfl ?_
      refine eR_callVi [_] rfl dX9_cut_13 ok_mX9_isCut kw_1061 rfl rfl th_205 rfl (Nat.le_of_ble_eq_true rfl) (d' := 1) (by decide) (Nat.le_of_ble_eq_true rfl) ?_
      refine sp_isCut (c := cn) B V (by omega) ?_
      refine eR_if_eq (tgt := 22) dX9_cut_16 (by decide) (by first | assumption | exact rg_b01 _ | (unfold rg; omega) | (unfold rg at *; omega)) (fun c16 => absurd c16 (by first | simp [b01, hok] | (rw [b01_t hok]; decide))) (fun c16 => ?_)
      refine eR_ldc (z := -1000000003) dX9_cut_19 kw_1134 (by decide) ?_
      refine eR_iret dX9_cut_21 rfl rfl ?_
      have e9 : sCut S ↑cn = S := if_neg (by first | (rintro ⟨q1, q2⟩; first | contradiction | omega | (simp_all; done)) | assumption)
      have k9 := k h (frW_rf 16 h) (by rw [e9]; exact V) (by rw [e9]; exact B)
      rw [show (rCut S ↑cn : Int) = (-1000000003) from by unfold rCut; (repeat' split) <;> first | rfl | omega | simp_all] at k9
      exact k9
    · refine eR_aldn_0 dX9_cut_0 rfl ?_
      refine eR_ildn_1 dX9_cut_1 rfl ?_
      refine eR_callVi [_] rfl dX9_cut_2 ok_mX9_isCoat kw_1085 rfl rfl th_205 rfl (Nat.le_of_ble_eq_true rfl) (d' := 1) (by decide) (Nat.le_of_ble_eq_true rfl) ?_
      refine sp_isCoat B V (by first | assumption | (unfold rg; omega)) ?_
      refine eR_if_ne (tgt := 11) dX9_cut_5 (by decide) (by first | assumption | exact rg_b01 _ | (unfold rg; omega) | (unfold rg at *; omega)) (fun c5 => ?_) (fun c5 => absurd c5 (by first | simp [b01, hq1] | (rw [b01_t hq1]; decide)))
      refine eR_aldn_0 dX9_cut_11 rfl ?_
      refine eR_ildn_1 dX9_cut_12 rfl ?_
      refine eR_callVi [_] rfl dX9_cut_13 ok_mX9_isCut kw_1061 rfl rfl th_205 rfl (Nat.le_of_ble_eq_true rfl) (d' := 1) (by decide) (Nat.le_of_ble_eq_true rfl) ?_
      refine sp_isCut (c := cn) B V (by omega) ?_
      refine eR_if_eq (tgt := 22) dX9_cut_16 (by decide) (by first | assumption | exact rg_b01 _ | (unfold rg; omega) | (unfold rg at *; omega)) (fun c16 => ?_) (fun c16 => absurd c16 (by first | (simp [b01, hok]; done) | (rw [b01_f hok]; decide)))
      refine eR_aldn_0 dX9_cut_22 rfl ?_
      refine eR_getR (i := 206) dX9_cut_23 gf_X9_7 th_205 rfl ?_
      refine eR_bi (z := 16) dX9_cut_26 rfl ?_
      refine eR_dup2 dX9_cut_28 rfl rfl ?_
      refine eR_iald (n := 16) dX9_cut_29 th_206 (rfl) (by decide) (by decide) ?_
      refine eX_pcI (V.2.2.2.2.2.1) ?_
      refine eR_ic dX9_cut_30 ?_
      refine eR_ildn_1 dX9_cut_31 rfl ?_
      refine eR_ishl dX9_cut_32 ?_
      refine eX_pcI (show (zShl 1 ↑cn : Int) = ↑(2 ^ cn : Nat) from by have := zShl_nat (a := 1) (k := cn) (by omega) (by omega); rw [Nat.one_mul] at this; exact this) ?_
      refine eR_ior dX9_cut_33 ?_
      refine eX_pcI (show (zOr ↑(sK S) ↑(2 ^ cn : Nat) : Int) = ↑(sK S ||| 2 ^ cn : Nat) from zOr_nat (by omega) (by omega)) ?_
      refine eR_iast (n := 16) dX9_cut_34 th_206 (rfl) (by decide) (by decide) ?_
      refine eR_ic dX9_cut_35 ?_
      refine eR_iret dX9_cut_36 rfl rfl ?_
      have e9 : sCut S ↑cn = setK S (sK S ||| 2 ^ cn) := if_pos ⟨hq1, hok⟩
      have k9 := k _ (frW_w 16 h _) (by rw [e9]; exact mV_setK V _ hC8) (by rw [e9]; exact sB_setK B (cut_lt B (by omega)))
      rw [show (rCut S ↑cn : Int) = 1 from by unfold rCut; rw [if_pos hq1]; exact if_neg hok] at k9
      exact k9
  · refine eR_aldn_0 dX9_cut_0 rfl ?_
    refine eR_ildn_1 dX9_cut_1 rfl ?_
    refine eR_callVi [_] rfl dX9_cut_2 ok_mX9_isCoat kw_1085 rfl rfl th_205 rfl (Nat.le_of_ble_eq_true rfl) (d' := 1) (by decide) (Nat.le_of_ble_eq_true rfl) ?_
    refine sp_isCoat B V (by first | assumption | (unfold rg; omega)) ?_
    refine eR_if_ne (tgt := 11) dX9_cut_5 (by decide) (by first | assumption | exact rg_b01 _ | (unfold rg; omega) | (unfold rg at *; omega)) (fun c5 => absurd c5 (by first | (simp [b01, hq1]; done) | (rw [b01_f hq1]; decide))) (fun c5 => ?_)
    refine eR_ldc (z := -1000000001) dX9_cut_8 kw_1089 (by decide) ?_
    refine eR_iret dX9_cut_10 rfl rfl ?_
    have e9 : sCut S c = S := if_neg (by first | (rintro ⟨q1, q2⟩; first | contradiction | omega | (simp_all; done)) | assumption)
    have k9 := k h (frW_rf 16 h) (by rw [e9]; exact V) (by rw [e9]; exact B)
    rw [show (rCut S c : Int) = (-1000000001) from by unfold rCut; (repeat' split) <;> first | rfl | omega | simp_all] at k9
    exact k9
theorem sp_frost (B : sB S) (V : mV h S) {v : Int} (hr_v : rg v) (k : ∀ h2 : PH, frW 17 h h2 → mV h2 (sFrost S v) → sB (sFrost S v) → Q (.int (zI (rFrost S v))) (tau t s) h2) : eX g 1 mX9_frost 0 (lv_args 0 [.ref (gA g 205), .int (zI v)]) [] (tau t s) h Q := by
  show eX g 1 mX9_frost 0 [(0, .ref (gA g 205)), (1, .int (zI v))] [] (tau t s) h Q
  have hP8 := B.1
  have hC8 := B.2.1
  have hE10 := B.2.2.1
  have hF99 := B.2.2.2.2.2.2.1
  by_cases hq1 : 0 ≤ v ∧ v ≤ 99
  · obtain ⟨vn, rfl⟩ : ∃ vn : Nat, v = (vn : Int) := ⟨v.toNat, by omega⟩
    refine eR_ildn_1 dX9_frost_0 rfl ?_
    refine eR_i2lz dX9_frost_1 (by first | assumption | exact rg_b01 _ | (unfold rg; omega) | (unfold rg at *; omega)) ?_
    refine eR_lc (z := 0) dX9_frost_2 rfl ?_
    refine eR_ldc2 (z := 99) dX9_frost_3 kw_1143 (by decide) ?_
    refine eR_callSi [_, _, _] rfl dX9_frost_6 ok_mX9_in kw_952 rfl rfl (Nat.le_of_ble_eq_true rfl) (d' := 0) (by decide) (Nat.le_of_ble_eq_true rfl) ?_
    refine sp_in (by first | (unfold rL; omega) | (unfold rL; unfold rg at *; omega)) (by first | (unfold rL; omega) | (unfold rL; unfold rg at *; omega)) (by first | (unfold rL; omega) | (unfold rL; unfold rg at *; omega)) ?_
    refine eR_if_ne (tgt := 15) dX9_frost_9 (by decide) (by first | assumption | exact rg_b01 _ | (unfold rg; omega) | (unfold rg at *; omega)) (fun c9 => ?_) (fun c9 => absurd c9 (by first | simp [b01, hq1] | (rw [b01_t hq1]; decide)))
    refine eR_aldn_0 dX9_frost_15 rfl ?_
    refine eR_getR (i := 206) dX9_frost_16 gf_X9_7 th_205 rfl ?_
    refine eR_bi (z := 17) dX9_frost_19 rfl ?_
    refine eR_iald (n := 17) dX9_frost_21 th_206 (rfl) (by decide) (by decide) ?_
    refine eX_pcI (V.2.2.2.2.2.2.1) ?_
    refine eR_istn_n2 dX9_frost_22 rfl (by decide) rfl ?_
    refine eR_aldn_0 dX9_frost_23 rfl ?_
    refine eR_getR (i := 206) dX9_frost_24 gf_X9_7 th_205 rfl ?_
    refine eR_bi (z := 17) dX9_frost_27 rfl ?_
    refine eR_ildn_1 dX9_frost_29 rfl ?_
    refine eR_iast (n := 17) dX9_frost_30 th_206 (rfl) (by decide) (by decide) ?_
    refine eR_ildn_2 dX9_frost_31 rfl ?_
    refine eR_iret dX9_frost_32 rfl rfl ?_
    have e9 : sFrost S ↑vn = setF S vn := if_pos hq1
    have k9 := k _ (frW_w 17 h _) (by rw [e9]; exact mV_setF V _ hC8) (by rw [e9]; exact sB_setF B (by omega))
    rw [show (rFrost S ↑vn : Int) = ↑(sF S) from if_pos hq1] at k9
    exact k9
  · refine eR_ildn_1 dX9_frost_0 rfl ?_
    refine eR_i2lz dX9_frost_1 (by first | assumption | exact rg_b01 _ | (unfold rg; omega) | (unfold rg at *; omega)) ?_
    refine eR_lc (z := 0) dX9_frost_2 rfl ?_
    refine eR_ldc2 (z := 99) dX9_frost_3 kw_1143 (by decide) ?_
    refine eR_callSi [_, _, _] rfl dX9_frost_6 ok_mX9_in kw_952 rfl rfl (Nat.le_of_ble_eq_true rfl) (d' := 0) (by decide) (Nat.le_of_ble_eq_true rfl) ?_
    refine sp_in (by first | (unfold rL; omega) | (unfold rL; unfold rg at *; omega)) (by first | (unfold rL; omega) | (unfold rL; unfold rg at *; omega)) (by first | (unfold rL; omega) | (unfold rL; unfold rg at *; omega)) ?_
    refine eR_if_ne (tgt := 15) dX9_frost_9 (by decide) (by first | assumption | exact rg_b01 _ | (unfold rg; omega) | (unfold rg at *; omega)) (fun c9 => absurd c9 (by first | (simp [b01, hq1]; done) | (rw [b01_f hq1]; decide))) (fun c9 => ?_)
    refine eR_ldc (z := -1000000002) dX9_frost_12 kw_955 (by decide) ?_
    refine eR_iret dX9_frost_14 rfl rfl ?_
    have e9 : sFrost S v = S := if_neg (by first | (rintro ⟨q1, q2⟩; first | contradiction | omega | (simp_all; done)) | assumption)
    have k9 := k h (frW_rf 17 h) (by rw [e9]; exact V) (by rw [e9]; exact B)
    rw [show (rFrost S v : Int) = (-1000000002) from by unfold rFrost; (repeat' split) <;> first | rfl | omega | simp_all] at k9
    exact k9
theorem sp_seed {v : Int} (hr_v : rg v) (k0 : v < 0 → Q (.int (zI (-1000000002))) (tau t s) h) (k1 : 0 ≤ v → Q (.int (zI (h 206 18))) (tau t s) (hU h 206 18 v)) : eX g 0 mX9_seed 0 (lv_args 0 [.ref (gA g 205), .int (zI v)]) [] (tau t s) h Q := by
  show eX g 0 mX9_seed 0 [(0, .ref (gA g 205)), (1, .int (zI v))] [] (tau t s) h Q
  refine eR_ildn_1 dX9_seed_0 rfl ?_
  refine eR_if_ge (tgt := 7) dX9_seed_1 (by decide) (by assumption) (fun c1 => ?_) (fun c1 => ?_)
  · refine eR_aldn_0 dX9_seed_7 rfl ?_
    refine eR_getR (i := 206) dX9_seed_8 gf_X9_7 th_205 rfl ?_
    refine eR_bi (z := 18) dX9_seed_11 rfl ?_
    refine eR_iald (n := 18) dX9_seed_13 th_206 (rfl) (by decide) (by decide) ?_
    refine eR_istn_n2 dX9_seed_14 rfl (by decide) rfl ?_
    refine eR_aldn_0 dX9_seed_15 rfl ?_
    refine eR_getR (i := 206) dX9_seed_16 gf_X9_7 th_205 rfl ?_
    refine eR_bi (z := 18) dX9_seed_19 rfl ?_
    refine eR_ildn_1 dX9_seed_21 rfl ?_
    refine eR_iast (n := 18) dX9_seed_22 th_206 (rfl) (by decide) (by decide) ?_
    refine eR_ildn_2 dX9_seed_23 rfl ?_
    refine eR_iret dX9_seed_24 rfl rfl ?_
    exact k1 (by omega)
  · refine eR_ldc (z := -1000000002) dX9_seed_4 kw_955 (by decide) ?_
    refine eR_iret dX9_seed_6 rfl rfl ?_
    exact k0 (by omega)
theorem sp_tear (k : Q (.int (zI (h 205 26 + h 205 28))) (tau t s) (hU (hU h 205 26 0) 205 28 0)) : eX g 0 mX9_tear 0 (lv_args 0 [.ref (gA g 205)]) [] (tau t s) h Q := by
  show eX g 0 mX9_tear 0 [(0, .ref (gA g 205))] [] (tau t s) h Q
  refine eR_aldn_0 dX9_tear_0 rfl ?_
  refine eR_getI dX9_tear_1 gf_X9_154 th_205 rfl ?_
  refine eR_aldn_0 dX9_tear_4 rfl ?_
  refine eR_getI dX9_tear_5 gf_X9_157 th_205 rfl ?_
  refine eR_iadd dX9_tear_8 ?_
  refine eR_istn_n1 dX9_tear_9 rfl (by decide) rfl ?_
  refine eR_aldn_0 dX9_tear_10 rfl ?_
  refine eR_ic dX9_tear_11 ?_
  refine eR_putI dX9_tear_12 pf_X9_154 th_205 rfl ?_
  refine eR_aldn_0 dX9_tear_15 rfl ?_
  refine eR_ic dX9_tear_16 ?_
  refine eR_putI dX9_tear_17 pf_X9_157 th_205 rfl ?_
  refine eR_ildn_1 dX9_tear_20 rfl ?_
  refine eR_iret dX9_tear_21 rfl rfl ?_
  exact k
theorem sp_fault (k : Q (.int (zI (h 205 18))) (tau t s) h) : eX g 0 mX9_fault 0 (lv_args 0 [.ref (gA g 205)]) [] (tau t s) h Q := by
  show eX g 0 mX9_fault 0 [(0, .ref (gA g 205))] [] (tau t s) h Q
  refine eR_aldn_0 dX9_fault_0 rfl ?_
  refine eR_getI dX9_fault_1 gf_X9_50 th_205 rfl ?_
  refine eR_iret dX9_fault_4 rfl rfl ?_
  exact k
end M24
