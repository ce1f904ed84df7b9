theorem bit_back {n a c : Nat} (hc : n.testBit c = false) (hn : n < 256) (hc8 : c < 8) : (n ||| 2 ^ c) &&& (255 - 2 ^ c) = n := by
  have h2 : 2 ^ c < 2 ^ 8 := Nat.pow_lt_pow_right (by omega) hc8
  apply Nat.eq_of_testBit_eq
  intro i
  have e3 := Nat.testBit_two_pow_sub_succ (n := 8) (x := 2 ^ c) h2 i
  rw [show 2 ^ 8 - (2 ^ c + 1) = 255 - 2 ^ c from by omega] at e3
  rw [Nat.testBit_and, Nat.testBit_or, e3, Nat.testBit_two_pow]
  by_cases hi : i < 8
  · by_cases hic : c = i
    · subst hic
      simp [hc]
    · simp [hi, hic]
  · have e4 : n.testBit i = false := Nat.testBit_lt_two_pow (Nat.lt_of_lt_of_le hn (Nat.pow_le_pow_right (by omega) (by omega) : 2 ^ 8 ≤ 2 ^ i))
    simp [e4, hi]
theorem mV_setK {h : PH} {S : TS} (V : mV h S) (n : Nat) (h8 : sC S ≤ 8) : mV (hU h 206 16 n) (setK S n) := by
  obtain ⟨v1, v2, v3, v4, v5, v6, v7, v8⟩ := V
  refine ⟨v1, v2, v3, fun x hx => ?_, v5, ?_, ?_, v8⟩
  · have hx2 : x < sC S := hx
    have w1 := v4 x hx2
    refine ⟨?_, ?_, w1.2.2⟩
    · show hU h 206 16 n 206 x = _
      rw [hU_i _ _ _ (by omega)]; exact w1.1
    · show hU h 206 16 n 206 (8 + x) = _
      rw [hU_i _ _ _ (by omega)]; exact w1.2.1
  · exact hU_s _ _ _ _
  · show hU h 206 16 n 206 17 = _
    rw [hU_i _ _ _ (by omega)]; exact v7
theorem mV_setF {h : PH} {S : TS} (V : mV h S) (n : Nat) (h8 : sC S ≤ 8) : mV (hU h 206 17 n) (setF S n) := by
  obtain ⟨v1, v2, v3, v4, v5, v6, v7, v8⟩ := V
  refine ⟨v1, v2, v3, fun x hx => ?_, v5, ?_, ?_, v8⟩
  · have hx2 : x < sC S := hx
    have w1 := v4 x hx2
    refine ⟨?_, ?_, w1.2.2⟩
    · show hU h 206 17 n 206 x = _
      rw [hU_i _ _ _ (by omega)]; exact w1.1
    · show hU h 206 17 n 206 (8 + x) = _
      rw [hU_i _ _ _ (by omega)]; exact w1.2.1
  · show hU h 206 17 n 206 16 = _
    rw [hU_i _ _ _ (by omega)]; exact v6
  · exact hU_s _ _ _ _
theorem sB_setK {S : TS} (B : sB S) {n : Nat} (hn : n < 2 ^ sC S) : sB (setK S n) := ⟨B.1, B.2.1, B.2.2.1, B.2.2.2.1, B.2.2.2.2.1, hn, B.2.2.2.2.2.2.1, B.2.2.2.2.2.2.2⟩
theorem sB_setF {S : TS} (B : sB S) {n : Nat} (hn : n ≤ 99) : sB (setF S n) := ⟨B.1, B.2.1, B.2.2.1, B.2.2.2.1, B.2.2.2.2.1, B.2.2.2.2.2.1, hn, B.2.2.2.2.2.2.2⟩
theorem cut_lt {S : TS} (B : sB S) {c : Nat} (hc : c < sC S) : sK S ||| 2 ^ c < 2 ^ sC S := Nat.or_lt_two_pow B.2.2.2.2.2.1 (Nat.pow_lt_pow_right (by omega) hc)
/-- CUT GAIN -/
def gnN (S : TS) (c : Nat) : Int := dyC S 24 - dyC (setK S (sK S ||| 2 ^ c)) 24
theorem gnN_rg {S : TS} (B : sB S) {c : Nat} (hc : c < sC S) : -100000 ≤ gnN S c ∧ gnN S c ≤ 100000 := by
  have h1 := dyC_rg B 24
  have h2 := dyC_rg (sB_setK B (cut_lt B hc)) 24
  unfold gnN
  omega
def rGain (S : TS) (c : Int) : Int := if 0 ≤ c ∧ c ≤ (sC S : Int) - 1 then (if (sK S).testBit c.toNat = true then -1000000003 else gnN S c.toNat) else -1000000001
def bsN (S : TS) : Nat → Int × Int
  | 0 => (-1, 0)
  | c + 1 => if ¬ (sK S).testBit c = true ∧ ((bsN S c).1 < 0 ∨ (bsN S c).2 < gnN S c) then ((c : Int), gnN S c) else bsN S c
theorem bsN_rg {S : TS} (B : sB S) : ∀ c, c ≤ sC S → -1 ≤ (bsN S c).1 ∧ (bsN S c).1 < 8 ∧ -100000 ≤ (bsN S c).2 ∧ (bsN S c).2 ≤ 100000 := by
  intro c
  have hC8 := B.2.1
  induction c with
  | zero => intro _; unfold bsN; simp
  | succ c ih =>
    intro hc
    have h1 := gnN_rg B (c := c) (by omega)
    have h2 := ih (by omega)
    unfold bsN
    split
    · simp only; omega
    · exact h2
section M23
variable {g : EG} {d t s : Nat} {h h1 : PH} {Q : EQ} {S : TS}
theorem sp_gainOf (B : sB S) (V : mV h S) {c : Nat} (hc : c < sC S) (hb : (sK S).testBit c = false) (k : ∀ h1 : PH, ofO 219 h h1 → Q (.int (zI (gnN S c))) (tau t s) h1) : eX g 8 mX9_gainOf 0 (lv_args 0 [.ref (gA g 205), .int (zI ↑c)]) [] (tau t s) h Q := by
  show eX g 8 mX9_gainOf 0 [(0, .ref (gA g 205)), (1, .int (zI ↑c))] [] (tau t s) h Q
  have hP8 := B.1
  have hC8 := B.2.1
  have hE10 := B.2.2.1
  have hF99 := B.2.2.2.2.2.2.1
  have hk9 := sB_cut B
  have h2c : 2 ^ c ≤ 2 ^ 7 := Nat.pow_le_pow_right (by omega) (by omega)
  have hor : sK S ||| 2 ^ c < 256 := Nat.or_lt_two_pow (n := 8) hk9 (by omega)
  have hbk := bit_back (a := 0) hb hk9 (by omega)
  obtain ⟨S1, hS1⟩ : ∃ S1, S1 = setK S (sK S ||| 2 ^ c) := ⟨_, rfl⟩
  have B1 : sB S1 := by rw [hS1]; exact sB_setK B (cut_lt B hc)
  have hd1 := dyC_rg B 24
  have hd2 := dyC_rg B1 24
  refine eR_aldn_0 dX9_gainOf_0 rfl ?_
  refine eR_callVi [] rfl dX9_gainOf_1 ok_mX9_dayChill kw_1023 rfl rfl th_205 rfl (Nat.le_of_ble_eq_true rfl) (d' := 7) (by decide) (Nat.le_of_ble_eq_true rfl) ?_
  refine sp_dayChill B V (fun k2 Ok2 => ?_)
  have Vk2 := mV_o V Ok2 (by decide)
  refine eR_istn_n2 dX9_gainOf_4 rfl (by decide) rfl ?_
  refine eR_aldn_0 dX9_gainOf_5 rfl ?_
  refine eR_getR (i := 206) dX9_gainOf_6 gf_X9_7 th_205 rfl ?_
  refine eR_bi (z := 16) dX9_gainOf_9 rfl ?_
  refine eR_dup2 dX9_gainOf_11 rfl rfl ?_
  refine eR_iald (n := 16) dX9_gainOf_12 th_206 (rfl) (by decide) (by decide) ?_
  refine eX_pcI (Vk2.2.2.2.2.2.1) ?_
  refine eR_ic dX9_gainOf_13 ?_
  refine eR_ildn_1 dX9_gainOf_14 rfl ?_
  refine eR_ishl dX9_gainOf_15 ?_
  refine eX_pcI (show (zShl 1 ↑c : Int) = ↑(2 ^ c : Nat) from by have := zShl_nat (a := 1) (k := c) (by omega) (by omega); rw [Nat.one_mul] at this; exact this) ?_
  refine eR_ior dX9_gainOf_16 ?_
  refine eX_pcI (show (zOr ↑(sK S) ↑(2 ^ c : Nat) : Int) = ↑(sK S ||| 2 ^ c : Nat) from zOr_nat (by omega) (by omega)) ?_
  refine eR_iast (n := 16) dX9_gainOf_17 th_206 (rfl) (by decide) (by decide) ?_
  have V1 : mV (hU k2 206 16 ↑(sK S ||| 2 ^ c : Nat)) S1 := by rw [hS1]; exact mV_setK Vk2 _ hC8
  refine eR_aldn_0 dX9_gainOf_18 rfl ?_
  refine eR_callVi [] rfl dX9_gainOf_19 ok_mX9_dayChill kw_1023 rfl rfl th_205 rfl (Nat.le_of_ble_eq_true rfl) (d' := 7) (by decide) (Nat.le_of_ble_eq_true rfl) ?_
  refine sp_dayChill (S := S1) B1 V1 (fun k3 Ok3 => ?_)
  have V3 := mV_o V1 Ok3 (by decide)
  refine eR_istn_n3 dX9_gainOf_22 rfl (by decide) rfl ?_
  refine eR_aldn_0 dX9_gainOf_23 rfl ?_
  refine eR_getR (i := 206) dX9_gainOf_24 gf_X9_7 th_205 rfl ?_
  refine eR_bi (z := 16) dX9_gainOf_27 rfl ?_
  refine eR_dup2 dX9_gainOf_29 rfl rfl ?_
  refine eR_iald (n := 16) dX9_gainOf_30 th_206 (rfl) (by decide) (by decide) ?_
  refine eR_ic dX9_gainOf_31 ?_
  refine eR_ildn_1 dX9_gainOf_32 rfl ?_
  refine eR_ishl dX9_gainOf_33 ?_
  refine eX_pcI (show (zShl 1 ↑c : Int) = ↑(2 ^ c : Nat) from by have := zShl_nat (a := 1) (k := c) (by omega) (by omega); rw [Nat.one_mul] at this; exact this) ?_
  refine eR_ic dX9_gainOf_34 ?_
  refine eR_ixor dX9_gainOf_35 ?_
  refine eR_iand dX9_gainOf_36 ?_
  refine eX_pcI (show (zAnd (k3 206 16) (zXor ↑(2 ^ c : Nat) (-1)) : Int) = ↑(sK S) from by rw [show k3 206 16 = ((sK S ||| 2 ^ c : Nat) : Int) from by (have q1 := V3.2.2.2.2.2.1; rw [hS1] at q1; exact q1), zAndNot (by omega) (by omega), hbk]) ?_
  refine eR_iast (n := 16) dX9_gainOf_37 th_206 (rfl) (by decide) (by decide) ?_
  refine eR_ildn_2 dX9_gainOf_38 rfl ?_
  refine eR_ildn_3 dX9_gainOf_39 rfl ?_
  refine eR_isub dX9_gainOf_40 ?_
  refine eR_iret dX9_gainOf_41 rfl rfl ?_
  have e9 : ofO 219 h (hU k3 206 16 ↑(sK S)) := by
    intro b hb9
    funext i
    rw [hU_g]
    by_cases qb : b = 206 ∧ i = 16
    · obtain ⟨rfl, rfl⟩ := qb
      rw [if_pos ⟨rfl, rfl⟩]
      exact V.2.2.2.2.2.1.symm
    · rw [if_neg qb, Ok3 b hb9, hU_g, if_neg qb, Ok2 b hb9]
  have e8 : gnN S c = dyC S 24 - dyC S1 24 := by rw [hS1]; rfl
  rw [← e8]
  exact k _ e9
theorem sp_gain (B : sB S) (V : mV h S) {c : Int} (hr_c : rg c) (k : ∀ h1 : PH, ofO 219 h h1 → Q (.int (zI (rGain S c))) (tau t s) h1) : eX g 9 mX9_gain 0 (lv_args 0 [.ref (gA g 205), .int (zI c)]) [] (tau t s) h Q := by
  show eX g 9 mX9_gain 0 [(0, .ref (gA g 205)), (1, .int (zI c))] [] (tau t s) h Q
  have hP8 := B.1
  have hC8 := B.2.1
  have hE10 := B.2.2.1
  have hF99 := B.2.2.2.2.2.2.1
  by_cases hq1 : 0 ≤ c ∧ c ≤ ↑(sC S) - 1
  · obtain ⟨cn, rfl⟩ : ∃ cn : Nat, c = (cn : Int) := ⟨c.toNat, by omega⟩
    by_cases hbc : (sK S).testBit cn = true
    · refine eR_aldn_0 dX9_gain_0 rfl ?_
      refine eR_ildn_1 dX9_gain_1 rfl ?_
      refine eR_callVi [_] rfl dX9_gain_2 ok_mX9_isCoat kw_1085 rfl rfl th_205 rfl (Nat.le_of_ble_eq_true rfl) (d' := 1) (by decide) (Nat.le_of_ble_eq_true rfl) ?_
      refine sp_isCoat B V (by first | assumption | (unfold rg; omega)) ?_
      refine eR_if_ne (tgt := 11) dX9_gain_5 (by decide) (by first | exact rg_b01 _ | (unfold rg; omega)) (fun c5 => ?_) (fun c5 => absurd c5 (by simp [b01, hq1]))
      refine eR_aldn_0 dX9_gain_11 rfl ?_
      refine eR_ildn_1 dX9_gain_12 rfl ?_
      refine eR_callVi [_] rfl dX9_gain_13 ok_mX9_isCut kw_1061 rfl rfl th_205 rfl (Nat.le_of_ble_eq_true rfl) (d' := 1) (by decide) (Nat.le_of_ble_eq_true rfl) ?_
      refine sp_isCut (c := cn) B V (by omega) ?_
      refine eR_if_eq (tgt := 24) dX9_gain_16 (by decide) (by first | exact rg_b01 _ | (unfold rg; omega)) (fun c16 => absurd c16 (by simp [b01, hbc])) (fun c16 => ?_)
      refine eR_ldc (z := -1000000003) dX9_gain_19 kw_1134 (by decide) ?_
      refine eR_goto (tgt := 29) dX9_gain_21 (by decide) ?_
      refine eR_iret dX9_gain_29 rfl rfl ?_
      have k9 := k h (ofO_rf _ _)
      rw [show (rGain S ↑cn : Int) = (-1000000003) from by unfold rGain; rw [if_pos hq1]; exact if_pos hbc] at k9
      exact k9
    · refine eR_aldn_0 dX9_gain_0 rfl ?_
      refine eR_ildn_1 dX9_gain_1 rfl ?_
      refine eR_callVi [_] rfl dX9_gain_2 ok_mX9_isCoat kw_1085 rfl rfl th_205 rfl (Nat.le_of_ble_eq_true rfl) (d' := 1) (by decide) (Nat.le_of_ble_eq_true rfl) ?_
      refine sp_isCoat B V (by first | assumption | (unfold rg; omega)) ?_
      refine eR_if_ne (tgt := 11) dX9_gain_5 (by decide) (by first | exact rg_b01 _ | (unfold rg; omega)) (fun c5 => ?_) (fun c5 => absurd c5 (by simp [b01, hq1]))
      refine eR_aldn_0 dX9_gain_11 rfl ?_
      refine eR_ildn_1 dX9_gain_12 rfl ?_
      refine eR_callVi [_] rfl dX9_gain_13 ok_mX9_isCut kw_1061 rfl rfl th_205 rfl (Nat.le_of_ble_eq_true rfl) (d' := 1) (by decide) (Nat.le_of_ble_eq_true rfl) ?_
      refine sp_isCut (c := cn) B V (by omega) ?_
      refine eR_if_eq (tgt := 24) dX9_gain_16 (by decide) (by first | exact rg_b01 _ | (unfold rg; omega)) (fun c16 => ?_) (fun c16 => absurd c16 (by simp [b01, hbc]))
      refine eR_aldn_0 dX9_gain_24 rfl ?_
      refine eR_ildn_1 dX9_gain_25 rfl ?_
      refine eR_callVi [_] rfl dX9_gain_26 ok_mX9_gainOf kw_1204 rfl rfl th_205 rfl (Nat.le_of_ble_eq_true rfl) (d' := 8) (by decide) (Nat.le_of_ble_eq_true rfl) ?_
      refine sp_gainOf (c := cn) B V (by omega) (by simpa using hbc) (fun k2 Ok2 => ?_)
      have Vk2 := mV_o V Ok2 (by decide)
      refine eR_iret dX9_gain_29 rfl rfl ?_
      have k9 := k _ Ok2
      rw [show (rGain S ↑cn : Int) = gnN S cn from by unfold rGain; rw [if_pos hq1]; exact if_neg hbc] at k9
      exact k9
  · refine eR_aldn_0 dX9_gain_0 rfl ?_
    refine eR_ildn_1 dX9_gain_1 rfl ?_
    refine eR_callVi [_] rfl dX9_gain_2 ok_mX9_isCoat kw_1085 rfl rfl th_205 rfl (Nat.le_of_ble_eq_true rfl) (d' := 1) (by decide) (Nat.le_of_ble_eq_true rfl) ?_
    refine sp_isCoat B V (by first | assumption | (unfold rg; omega)) ?_
    refine eR_if_ne (tgt := 11) dX9_gain_5 (by decide) (by first | assumption | exact rg_b01 _ | (unfold rg; omega)) (fun c5 => absurd c5 (by simp [b01, hq1])) (fun c5 => ?_)
    refine eR_ldc (z := -1000000001) dX9_gain_8 kw_1089 (by decide) ?_
    refine eR_iret dX9_gain_10 rfl rfl ?_
    have k9 := k h (ofO_rf _ _)
    rw [show (rGain S c : Int) = (-1000000001) from if_neg hq1] at k9
    exact k9
theorem lp_best (B : sB S) (V : mV h S) (k : ∀ h1 : PH, ofO 219 h h1 → Q (.int (zI (bsN S (sC S)).1)) (tau t s) h1) : ∀ n c : Nat, c + n = sC S → ∀ h1 : PH, ofO 219 h h1 → eX g 9 mX9_best 6 [(0, .ref (gA g 205)), (1, .int (zI (bsN S c).1)), (2, .int (zI (bsN S c).2)), (3, .int (zI ↑c))] [] (tau t s) h1 Q := by
  have hP8 := B.1
  have hC8 := B.2.1
  have hE10 := B.2.2.1
  have hF99 := B.2.2.2.2.2.2.1
  intro n
  induction n with
  | zero =>
    intro c hc h1 hO
    have V1 := mV_o V hO (by decide)
    refine eR_ildn_3 dX9_best_6 rfl ?_
    refine eR_aldn_0 dX9_best_7 rfl ?_
    refine eR_getR (i := 217) dX9_best_8 gf_X9_44 th_205 rfl ?_
    refine eR_ic dX9_best_11 ?_
    refine eR_iald (n := 1) dX9_best_12 th_217 (rfl) (by decide) (by decide) ?_
    refine eX_pcI (V1.2.1) ?_
    refine eR_icmp_ge (tgt := 64) dX9_best_13 (by decide) (by first | exact rg_b01 _ | (unfold rg; omega)) (by first | exact rg_b01 _ | (unfold rg; omega)) (fun c13 => ?_) (fun c13 => absurd c13 (by omega))
    refine eR_ildn_1 dX9_best_64 rfl ?_
    refine eR_iret dX9_best_65 rfl rfl ?_
    have e9 : c = sC S := by omega
    subst e9
    exact k h1 hO
  | succ n ih =>
    intro c hc h1 hO
    have V1 := mV_o V hO (by decide)
    have hg9 := gnN_rg B (c := c) (by omega)
    have hb9 := bsN_rg B c (by omega)
    by_cases hbc : (sK S).testBit c = true
    · refine eR_ildn_3 dX9_best_6 rfl ?_
      refine eR_aldn_0 dX9_best_7 rfl ?_
      refine eR_getR (i := 217) dX9_best_8 gf_X9_44 th_205 rfl ?_
      refine eR_ic dX9_best_11 ?_
      refine eR_iald (n := 1) dX9_best_12 th_217 (rfl) (by decide) (by decide) ?_
      refine eX_pcI (V1.2.1) ?_
      refine eR_icmp_ge (tgt := 64) dX9_best_13 (by decide) (by first | exact rg_b01 _ | (unfold rg; omega)) (by first | exact rg_b01 _ | (unfold rg; omega)) (fun c13 => absurd c13 (by omega)) (fun c13 => ?_)
      refine eR_aldn_0 dX9_best_16 rfl ?_
      refine eR_ildn_3 dX9_best_17 rfl ?_
      refine eR_callVi [_] rfl dX9_best_18 ok_mX9_isCut kw_1061 rfl rfl th_205 rfl (Nat.le_of_ble_eq_true rfl) (d' := 1) (by decide) (Nat.le_of_ble_eq_true rfl) ?_
      refine sp_isCut (c := c) B V1 (by omega) ?_
      refine eR_if_eq (tgt := 28) dX9_best_21 (by decide) (by first | exact rg_b01 _ | (unfold rg; omega)) (fun c21 => absurd c21 (by simp [b01, hbc])) (fun c21 => ?_)
      refine eR_ic dX9_best_24 ?_
      refine eR_goto (tgt := 33) dX9_best_25 (by decide) ?_
      refine eR_ist_n4 dX9_best_33 (by decide) rfl ?_
      refine eR_aldn_0 dX9_best_35 rfl ?_
      refine eR_ildn_3 dX9_best_36 rfl ?_
      refine eR_callVi [_] rfl dX9_best_37 ok_mX9_isCut kw_1061 rfl rfl th_205 rfl (Nat.le_of_ble_eq_true rfl) (d' := 1) (by decide) (Nat.le_of_ble_eq_true rfl) ?_
      refine sp_isCut (c := c) B V1 (by omega) ?_
      refine eR_if_ne (tgt := 58) dX9_best_40 (by decide) (by first | exact rg_b01 _ | (unfold rg; omega)) (fun c40 => ?_) (fun c40 => absurd c40 (by simp [b01, hbc]))
      refine eR_iinc_3 dX9_best_58 (by decide) rfl ?_
      refine eR_goto (tgt := 6) dX9_best_61 (by decide) ?_
      refine eX_lv (lv2 := List.take 4 _) (fun q hq => List.mem_of_mem_take hq) ?_
      have e9 : bsN S (c + 1) = bsN S c := by rw [bsN]; exact if_neg (by rintro ⟨q1, q2⟩; first | contradiction | omega)
      have e8 := ih (c + 1) (by omega) h1 hO
      rw [e9] at e8
      exact e8
    · refine eR_ildn_3 dX9_best_6 rfl ?_
      refine eR_aldn_0 dX9_best_7 rfl ?_
      refine eR_getR (i := 217) dX9_best_8 gf_X9_44 th_205 rfl ?_
      refine eR_ic dX9_best_11 ?_
      refine eR_iald (n := 1) dX9_best_12 th_217 (rfl) (by decide) (by decide) ?_
      refine eX_pcI (V1.2.1) ?_
      refine eR_icmp_ge (tgt := 64) dX9_best_13 (by decide) (by first | exact rg_b01 _ | (unfold rg; omega)) (by first | exact rg_b01 _ | (unfold rg; omega)) (fun c13 => absurd c13 (by omega)) (fun c13 => ?_)
      refine eR_aldn_0 dX9_best_16 rfl ?_
      refine eR_ildn_3 dX9_best_17 rfl ?_
      refine eR_callVi [_] rfl dX9_best_18 ok_mX9_isCut kw_1061 rfl rfl th_205 rfl (Nat.le_of_ble_eq_true rfl) (d' := 1) (by decide) (Nat.le_of_ble_eq_true rfl) ?_
      refine sp_isCut (c := c) B V1 (by omega) ?_
      refine eR_if_eq (tgt := 28) dX9_best_21 (by decide) (by first | exact rg_b01 _ | (unfold rg; omega)) (fun c21 => ?_) (fun c21 => absurd c21 (by simp [b01, hbc]))
      refine eR_aldn_0 dX9_best_28 rfl ?_
      refine eR_ildn_3 dX9_best_29 rfl ?_
      refine eR_callVi [_] rfl dX9_best_30 ok_mX9_gainOf kw_1204 rfl rfl th_205 rfl (Nat.le_of_ble_eq_true rfl) (d' := 8) (by decide) (Nat.le_of_ble_eq_true rfl) ?_
      refine sp_gainOf (c := c) B V1 (by omega) (by simpa using hbc) (fun k2 Ok2 => ?_)
      have Vk2 := mV_o V1 Ok2 (by decide)
      refine eR_ist_n4 dX9_best_33 (by decide) rfl ?_
      refine eR_aldn_0 dX9_best_35 rfl ?_
      refine eR_ildn_3 dX9_best_36 rfl ?_
      refine eR_callVi [_] rfl dX9_best_37 ok_mX9_isCut kw_1061 rfl rfl th_205 rfl (Nat.le_of_ble_eq_true rfl) (d' := 1) (by decide) (Nat.le_of_ble_eq_true rfl) ?_
      refine sp_isCut (c := c) B Vk2 (by omega) ?_
      refine eR_if_ne (tgt := 58) dX9_best_40 (by decide) (by first | exact rg_b01 _ | (unfold rg; omega)) (fun c40 => absurd c40 (by simp [b01, hbc])) (fun c40 => ?_)
      refine eR_ildn_1 dX9_best_43 rfl ?_
      refine eR_if_lt (tgt := 53) dX9_best_44 (by decide) (by first | exact rg_b01 _ | (unfold rg; omega)) (fun c44 => ?_) (fun c44 => ?_)
      · refine eR_ildn_3 dX9_best_53 rfl ?_
        refine eR_istn_1 dX9_best_54 rfl (by decide) rfl ?_
        refine eR_ild_4 dX9_best_55 ?_
        refine eR_istn_2 dX9_best_57 rfl (by decide) rfl ?_
        refine eR_iinc_3 dX9_best_58 (by decide) rfl ?_
        refine eR_goto (tgt := 6) dX9_best_61 (by decide) ?_
        refine eX_lv (lv2 := List.take 4 _) (fun q hq => List.mem_of_mem_take hq) ?_
        have e9 : bsN S (c + 1) = ((c : Int), gnN S c) := by rw [bsN]; exact if_pos ⟨hbc, by omega⟩
        have e8 := ih (c + 1) (by omega) k2 (fun b hb => (Ok2 b hb).trans (hO b hb))
        rw [e9] at e8
        exact e8
      · refine eR_ild_4 dX9_best_47 ?_
        refine eR_ildn_2 dX9_best_49 rfl ?_
        refine eR_icmp_le (tgt := 58) dX9_best_50 (by decide) (by first | exact rg_b01 _ | (unfold rg; omega)) (by first | exact rg_b01 _ | (unfold rg; omega)) (fun c50 => ?_) (fun c50 => ?_)
        · refine eR_iinc_3 dX9_best_58 (by decide) rfl ?_
          refine eR_goto (tgt := 6) dX9_best_61 (by decide) ?_
          refine eX_lv (lv2 := List.take 4 _) (fun q hq => List.mem_of_mem_take hq) ?_
          have e9 : bsN S (c + 1) = bsN S c := by rw [bsN]; exact if_neg (by rintro ⟨q1, q2⟩; first | contradiction | omega)
          have e8 := ih (c + 1) (by omega) k2 (fun b hb => (Ok2 b hb).trans (hO b hb))
          rw [e9] at e8
          exact e8
        · refine eR_ildn_3 dX9_best_53 rfl ?_
          refine eR_istn_1 dX9_best_54 rfl (by decide) rfl ?_
          refine eR_ild_4 dX9_best_55 ?_
          refine eR_istn_2 dX9_best_57 rfl (by decide) rfl ?_
          refine eR_iinc_3 dX9_best_58 (by decide) rfl ?_
          refine eR_goto (tgt := 6) dX9_best_61 (by decide) ?_
          refine eX_lv (lv2 := List.take 4 _) (fun q hq => List.mem_of_mem_take hq) ?_
          have e9 : bsN S (c + 1) = ((c : Int), gnN S c) := by rw [bsN]; exact if_pos ⟨hbc, by omega⟩
          have e8 := ih (c + 1) (by omega) k2 (fun b hb => (Ok2 b hb).trans (hO b hb))
          rw [e9] at e8
          exact e8
theorem sp_best (B : sB S) (V : mV h S) (k : ∀ h1 : PH, ofO 219 h h1 → Q (.int (zI (bsN S (sC S)).1)) (tau t s) h1) : eX g 9 mX9_best 0 (lv_args 0 [.ref (gA g 205)]) [] (tau t s) h Q := by
  show eX g 9 mX9_best 0 [(0, .ref (gA g 205))] [] (tau t s) h Q
  refine eR_ic dX9_best_0 ?_
  refine eR_istn_n1 dX9_best_1 rfl (by decide) rfl ?_
  refine eR_ic dX9_best_2 ?_
  refine eR_istn_n2 dX9_best_3 rfl (by decide) rfl ?_
  refine eR_ic dX9_best_4 ?_
  refine eR_istn_n3 dX9_best_5 rfl (by decide) rfl ?_
  exact lp_best B V k (sC S) 0 (by omega) h (ofO_rf _ _)
end M23
