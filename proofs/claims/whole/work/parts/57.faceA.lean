theorem offF_lo {n w k : Nat} (h : 2 * k ≤ n) : offF n w k = (((n - 2 * k) * w : Nat) : Int) := by
  unfold offF
  simp only
  have e : ((n : Int) - 2 * (k : Int)) = ((n - 2 * k : Nat) : Int) := by omega
  rw [e, ← Int.natCast_mul, if_neg (by omega)]
theorem offF_hi {n w k : Nat} (h : n ≤ 2 * k) : offF n w k = (((2 * k - n) * w : Nat) : Int) := by
  unfold offF
  simp only
  have e : ((n : Int) - 2 * (k : Int)) = -((2 * k - n : Nat) : Int) := by omega
  rw [e, Int.neg_mul, ← Int.natCast_mul]
  by_cases q : -(((2 * k - n) * w : Nat) : Int) < 0
  · rw [if_pos q]; omega
  · rw [if_neg q]; omega
theorem frL_0 {n : Nat} : ∀ k, frL n 0 (k + 1) = (0, 0) := by
  intro k
  induction k with
  | zero => unfold frL; simp [frL, offF]
  | succ k ih => rw [frL, ih]; exact if_neg (by simp [offF])
theorem frL_lo {n w : Nat} (hw : 0 < w) : ∀ k, 2 * k ≤ n → frL n w (k + 1) = ((((n - 2 * k) * w : Nat) : Int), k) := by
  intro k
  induction k with
  | zero => intro h; rw [frL, offF_lo h]; exact if_pos (Or.inl (by unfold frL; omega))
  | succ k ih =>
    intro h
    rw [frL, ih (by omega), offF_lo h]
    refine if_pos (Or.inr ?_)
    have h1 : (n - 2 * (k + 1)) * w < (n - 2 * k) * w := Nat.mul_lt_mul_of_pos_right (by omega) hw
    show (((n - 2 * (k + 1)) * w : Nat) : Int) < (((n - 2 * k) * w : Nat) : Int)
    omega
theorem frL_hi {n w : Nat} (hw : 0 < w) : ∀ j, frL n w (n / 2 + 1 + j) = ((((n % 2) * w : Nat) : Int), n / 2) := by
  intro j
  induction j with
  | zero => rw [Nat.add_zero, frL_lo hw _ (by omega), show n - 2 * (n / 2) = n % 2 from by omega]
  | succ j ih =>
    show frL n w (n / 2 + 1 + j + 1) = _
    rw [frL, ih, offF_hi (by omega)]
    refine if_neg (fun q => ?_)
    have h1 : (n % 2) * w ≤ (2 * (n / 2 + 1 + j) - n) * w := Nat.mul_le_mul_right _ (by omega)
    rcases q with q | q
    · have q2 : (((n % 2) * w : Nat) : Int) < 0 := q
      omega
    · have q2 : (((2 * (n / 2 + 1 + j) - n) * w : Nat) : Int) < (((n % 2) * w : Nat) : Int) := q
      omega
theorem frL_is (n w : Nat) : frL n w (n + 1) = ((((n % 2) * w : Nat) : Int), if w = 0 then 0 else n / 2) := by
  by_cases hw : w = 0
  · subst hw; rw [frL_0, if_pos rfl, Nat.mul_zero]; rfl
  · rw [if_neg hw, show n + 1 = n / 2 + 1 + (n - n / 2) from by omega]
    exact frL_hi (by omega) _
theorem frS_0 {S : TS} {c : Nat} : ∀ k, frS S c 0 k = (0, 0) := by
  intro k
  induction k with
  | zero => rfl
  | succ k ih => rw [frS, ih]; exact if_neg (fun q => absurd q.1 (by decide))
theorem frS_st {S : TS} {c m k : Nat} (h : (frS S c m k).1 = 0) : ∀ j, frS S c m (k + j) = frS S c m k := by
  intro j
  induction j with
  | zero => rfl
  | succ j ih =>
    show frS S c m (k + j + 1) = _
    rw [frS, ih]
    exact if_neg (fun q => by omega)
theorem boS_bit {S : TS} {c : Nat} : ∀ n i, (boS S c n).testBit i = true ↔ i < n ∧ bothO S c i := by
  intro n
  induction n with
  | zero => intro i; simp [boS]
  | succ n ih =>
    intro i
    unfold boS
    rw [Nat.testBit_or, Bool.or_eq_true, ih]
    by_cases hc : bothO S c n
    · rw [if_pos hc, Nat.testBit_two_pow]
      constructor
      · rintro (q | q)
        · exact ⟨by omega, q.2⟩
        · have : n = i := by simpa using q
          subst this
          exact ⟨by omega, hc⟩
      · rintro ⟨q1, q2⟩
        by_cases hn : n = i
        · right; simp [hn]
        · left; exact ⟨by omega, q2⟩
    · rw [if_neg hc]
      constructor
      · rintro (q | q)
        · exact ⟨by omega, q.2⟩
        · simp at q
      · rintro ⟨q1, q2⟩
        by_cases hn : n = i
        · subst hn; exact absurd q2 hc
        · left; exact ⟨by omega, q2⟩
theorem boS_cnt {S : TS} {c : Nat} : ∀ n, n ≤ 24 → bcn (boS S c n) 24 = cnF S c n := by
  intro n
  induction n with
  | zero => intro _; exact bcn_0 24
  | succ n ih =>
    intro hn
    unfold boS cnF
    have hb : (boS S c n).testBit n = false := by
      cases e : (boS S c n).testBit n
      · rfl
      · have := (boS_bit n n).mp e; omega
    by_cases hc : bothO S c n
    · rw [if_pos hc, if_pos hc, bcn_or hb, ih (by omega), if_pos (by omega)]
    · rw [if_neg hc, if_neg hc, Nat.or_zero, ih (by omega), Nat.add_zero]
section M57
variable {g : EG} {d t s u : Nat} {h h1 : PH} {Q : EQ} {S : TS}
theorem ct_isHour {p : Int} (hp : rg p) (k : Q (.int (zI (b01 (0 ≤ p ∧ p ≤ 23)))) (tau t s) h) : eX g 0 mX8_isHour 0 (lv_args 0 [.int (zI p)]) [] (tau t s) h Q := by
  show eX g 0 mX8_isHour 0 [(0, .int (zI p))] [] (tau t s) h Q
  refine eR_ildn_0 dX8_isHour_0 rfl ?_
  refine eR_if_lt (tgt := 14) dX8_isHour_1 (by decide) (by first | assumption | exact rg_b01 _ | (unfold rg; omega) | (unfold rg at *; omega)) (fun c1 => ?_) (fun c1 => ?_)
  · refine eR_ic dX8_isHour_14 ?_
    refine eR_zret dX8_isHour_15 rfl (by omega) ?_
    rw [show (b01 (0 ≤ p ∧ p ≤ 23) : Int) = 0 from by first | exact b01_t (by omega) | exact b01_f (by omega)] at k; exact k
  · refine eR_ildn_0 dX8_isHour_4 rfl ?_
    refine eR_bi (z := 24) dX8_isHour_5 rfl ?_
    refine eR_icmp_ge (tgt := 14) dX8_isHour_7 (by decide) (by first | assumption | exact rg_b01 _ | (unfold rg; omega) | (unfold rg at *; omega)) (by first | assumption | exact rg_b01 _ | (unfold rg; omega) | (unfold rg at *; omega)) (fun c7 => ?_) (fun c7 => ?_)
    · refine eR_ic dX8_isHour_14 ?_
      refine eR_zret dX8_isHour_15 rfl (by omega) ?_
      rw [show (b01 (0 ≤ p ∧ p ≤ 23) : Int) = 0 from by first | exact b01_t (by omega) | exact b01_f (by omega)] at k; exact k
    · refine eR_ic dX8_isHour_10 ?_
      refine eR_goto (tgt := 15) dX8_isHour_11 (by decide) ?_
      refine eR_zret dX8_isHour_15 rfl (by omega) ?_
      rw [show (b01 (0 ≤ p ∧ p ≤ 23) : Int) = 1 from by first | exact b01_t (by omega) | exact b01_f (by omega)] at k; exact k
theorem cl_lowest {c m : Nat} {b9 : Int} (hm : m ≤ 24) (k : Q (.int (zI ↑(frS S c m 24).2)) (tau t s) h) : ∀ n i, i + n = 24 → eX g 0 mX8_lowestBits 7 [(0, .int (zI ↑(boS S c 24))), (1, .int (zI b9)), (2, .int (zI ↑(frS S c m i).2)), (3, .int (zI ↑(frS S c m i).1)), (4, .int (zI ↑i))] [] (tau t s) h Q := by
  have hb9 := boS_lt S c 24
  intro n
  induction n with
  | zero =>
    intro i hi
    refine eR_ild_4 dX8_lowestBits_7 ?_
    refine eR_bi (z := 24) dX8_lowestBits_9 rfl ?_
    refine eR_icmp_ge (tgt := 43) dX8_lowestBits_11 (by decide) (by first | exact rg_b01 _ | (unfold rg; omega)) (by first | exact rg_b01 _ | (unfold rg; omega)) (fun c11 => ?_) (fun c11 => absurd c11 (by omega))
    refine eR_ildn_2 dX8_lowestBits_43 rfl ?_
    refine eR_iret dX8_lowestBits_44 rfl rfl ?_
    have e9 : i = 24 := by omega
    subst e9
    exact k
  | succ n ih =>
    intro i hi
    have hf9 := frS_rg (S := S) (c := c) hm i (by omega)
    have hl9 : 2 ^ i ≤ 2 ^ 23 := Nat.pow_le_pow_right (by omega) (by omega)
    refine eR_ild_4 dX8_lowestBits_7 ?_
    refine eR_bi (z := 24) dX8_lowestBits_9 rfl ?_
    refine eR_icmp_ge (tgt := 43) dX8_lowestBits_11 (by decide) (by first | exact rg_b01 _ | (unfold rg; omega)) (by first | exact rg_b01 _ | (unfold rg; omega)) (fun c11 => absurd c11 (by omega)) (fun c11 => ?_)
    refine eR_ildn_3 dX8_lowestBits_14 rfl ?_
    refine eR_if_le (tgt := 43) dX8_lowestBits_15 (by decide) (by first | exact rg_b01 _ | (unfold rg; omega)) (fun c15 => ?_) (fun c15 => ?_)
    · refine eR_ildn_2 dX8_lowestBits_43 rfl ?_
      refine eR_iret dX8_lowestBits_44 rfl rfl ?_
      have e9 := frS_st (S := S) (c := c) (m := m) (k := i) (by omega) (24 - i)
      rw [show i + (24 - i) = 24 from by omega] at e9
      rw [e9] at k
      exact k
    · refine eR_ildn_0 dX8_lowestBits_18 rfl ?_
      refine eR_ild_4 dX8_lowestBits_19 ?_
      refine eR_ishr dX8_lowestBits_21 ?_
      refine eR_ic dX8_lowestBits_22 ?_
      refine eR_iand dX8_lowestBits_23 ?_
      refine eX_pcI (show (zAnd (zShr ↑(boS S c 24) ↑i) 1 : Int) = b01 ((boS S c 24).testBit i = true) from zBit_nat (a := boS S c 24) (k := i) (by omega) (by omega)) ?_
      refine eR_if_eq (tgt := 37) dX8_lowestBits_24 (by decide) (by first | exact rg_b01 _ | (unfold rg; omega)) (fun c24 => ?_) (fun c24 => ?_)
      · replace c24 := b01_eq0.mp c24
        refine eR_iinc_4 dX8_lowestBits_37 (by decide) rfl ?_
        refine eR_goto (tgt := 7) dX8_lowestBits_40 (by decide) ?_
        have e9 : frS S c m (i + 1) = frS S c m i := if_neg (fun q => c24 ((boS_bit 24 i).mpr ⟨by omega, q.2⟩))
        have e8 := ih (i + 1) (by omega)
        rw [e9] at e8
        exact e8
      · replace c24 := b01_ne0.mp c24
        refine eR_ildn_2 dX8_lowestBits_27 rfl ?_
        refine eR_ic dX8_lowestBits_28 ?_
        refine eR_ild_4 dX8_lowestBits_29 ?_
        refine eR_ishl dX8_lowestBits_31 ?_
        refine eX_pcI (show (zShl 1 ↑i : Int) = ↑(2 ^ i : Nat) from by have := zShl_nat (a := 1) (k := i) (by omega) (by omega); rw [Nat.one_mul] at this; exact this) ?_
        refine eR_ior dX8_lowestBits_32 ?_
        refine eX_pcI (show (zOr ↑(frS S c m i).2 ↑(2 ^ i : Nat) : Int) = ↑((frS S c m i).2 ||| 2 ^ i : Nat) from zOr_nat (by omega) (by omega)) ?_
        refine eR_istn_2 dX8_lowestBits_33 rfl (by decide) rfl ?_
        refine eR_iinc_3 dX8_lowestBits_34 (by decide) rfl ?_
        refine eR_iinc_4 dX8_lowestBits_37 (by decide) rfl ?_
        refine eR_goto (tgt := 7) dX8_lowestBits_40 (by decide) ?_
        have e9 : frS S c m (i + 1) = ((frS S c m i).1 - 1, (frS S c m i).2 ||| 2 ^ i) := if_pos ⟨by omega, ((boS_bit 24 i).mp c24).2⟩
        have e8 := ih (i + 1) (by omega)
        rw [e9] at e8
        rw [show ((↑(frS S c m i).1 + (-1) : Int)) = (((frS S c m i).1 - 1 : Nat) : Int) from by omega]
        exact e8
theorem ct_lowest {c m : Nat} (hm : m ≤ 24) (k : Q (.int (zI ↑(frS S c m 24).2)) (tau t s) h) : eX g 0 mX8_lowestBits 0 (lv_args 0 [.int (zI ↑(boS S c 24)), .int (zI ↑m)]) [] (tau t s) h Q := by
  show eX g 0 mX8_lowestBits 0 [(0, .int (zI ↑(boS S c 24))), (1, .int (zI ↑m))] [] (tau t s) h Q
  refine eR_ic dX8_lowestBits_0 ?_
  refine eR_istn_n2 dX8_lowestBits_1 rfl (by decide) rfl ?_
  refine eR_ildn_1 dX8_lowestBits_2 rfl ?_
  refine eR_istn_n3 dX8_lowestBits_3 rfl (by decide) rfl ?_
  refine eR_ic dX8_lowestBits_4 ?_
  refine eR_ist_n4 dX8_lowestBits_5 (by decide) rfl ?_
  exact cl_lowest hm k 24 0 (by omega)
theorem ct_where (T : isTn (tau t s) t) (B : sB S) (V : cV h t S) (h38 : 38 ≤ t) {p : Int} (hr_p : rg p) {hour : Int} (hr_hour : rg hour) (k : Q (.int (zI (rWhere S p hour))) (tau t s) h) : eX g 1 mX8_where 0 (lv_args 0 [.ref (gA g 0), .int (zI p), .int (zI hour)]) [] (tau t s) h Q := by
  show eX g 1 mX8_where 0 [(0, .ref (gA g 0)), (1, .int (zI p)), (2, .int (zI hour))] [] (tau t s) h Q
  have hP8 := B.1
  have hC8 := B.2.1
  have hE10 := B.2.2.1
  have hF99 := B.2.2.2.2.2.2.1
  by_cases hq1 : 0 ≤ p ∧ p ≤ ↑(sP S) - 1
  · obtain ⟨pn, rfl⟩ : ∃ pn : Nat, p = (pn : Int) := ⟨p.toNat, by omega⟩
    by_cases hq2 : 0 ≤ hour ∧ hour ≤ 23
    · obtain ⟨hn, rfl⟩ : ∃ hn : Nat, hour = (hn : Int) := ⟨hour.toNat, by omega⟩
      have hw9 := whereIs_rg B pn hn
      refine eR_aldn_0 dX8_where_0 rfl ?_
      refine eR_getR (i := t) dX8_where_1 gf_X8_57 th_0 rfl ?_
      refine eR_ildn_1 dX8_where_4 rfl ?_
      refine eR_callVi [_] rfl dX8_where_5 ok_mX6_hasPerson kw_622 rfl rfl T.1 rfl (Nat.le_of_ble_eq_true rfl) (d' := 0) (by decide) (Nat.le_of_ble_eq_true rfl) ?_
      refine tn_hasPerson T B V (by first | assumption | (unfold rg; omega)) ?_
      refine eR_if_ne (tgt := 14) dX8_where_8 (by decide) (by first | assumption | exact rg_b01 _ | (unfold rg; omega) | (unfold rg at *; omega)) (fun c8 => ?_) (fun c8 => absurd c8 (by first | simp [b01, hq1] | (rw [b01_t hq1]; decide)))
      refine eR_ildn_2 dX8_where_14 rfl ?_
      refine eR_callSi [_] rfl dX8_where_15 ok_mX8_isHour kw_626 rfl rfl (Nat.le_of_ble_eq_true rfl) (d' := 0) (by decide) (Nat.le_of_ble_eq_true rfl) ?_
      refine ct_isHour (by first | assumption | exact rg_b01 _ | (unfold rg; omega) | (unfold rg at *; omega)) ?_
      refine eR_if_eq (tgt := 35) dX8_where_18 (by decide) (by first | assumption | exact rg_b01 _ | (unfold rg; omega) | (unfold rg at *; omega)) (fun c18 => absurd c18 (by first | simp [b01, hq2] | (rw [b01_t hq2]; decide))) (fun c18 => ?_)
      refine eR_aldn_0 dX8_where_21 rfl ?_
      refine eR_getR (i := t) dX8_where_22 gf_X8_57 th_0 rfl ?_
      refine eR_getR (i := t + 22) dX8_where_25 gf_X8_145 T.1 rfl ?_
      refine eR_ildn_1 dX8_where_28 rfl ?_
      refine eR_aald3 (n := pn) (i := t + 23 + pn) dX8_where_29 T.2.2.2.2.2.2.1 (rfl) (by omega) (by decide) (rowsK_at (by omega)) ?_
      refine eR_ildn_2 dX8_where_30 rfl ?_
      refine eR_iald (n := hn) dX8_where_31 (T.2.2.2.2.2.2.2.1 pn (by omega)) (rfl) (by omega) (by decide) ?_
      refine eX_pcI (V.2.2.2.2.2.2.2.1 pn hn (by omega) (by omega)) ?_
      refine eR_goto (tgt := 37) dX8_where_32 (by decide) ?_
      refine eR_iret dX8_where_37 rfl rfl ?_
      rw [show (rWhere S ↑pn ↑hn : Int) = whereIs S pn hn from by unfold rWhere; (try simp only [Int.toNat_natCast]); (repeat' split) <;> first | omega | rfl | simp_all] at k; exact k
    · refine eR_aldn_0 dX8_where_0 rfl ?_
      refine eR_getR (i := t) dX8_where_1 gf_X8_57 th_0 rfl ?_
      refine eR_ildn_1 dX8_where_4 rfl ?_
      refine eR_callVi [_] rfl dX8_where_5 ok_mX6_hasPerson kw_622 rfl rfl T.1 rfl (Nat.le_of_ble_eq_true rfl) (d' := 0) (by decide) (Nat.le_of_ble_eq_true rfl) ?_
      refine tn_hasPerson T B V (by first | assumption | (unfold rg; omega)) ?_
      refine eR_if_ne (tgt := 14) dX8_where_8 (by decide) (by first | assumption | exact rg_b01 _ | (unfold rg; omega) | (unfold rg at *; omega)) (fun c8 => ?_) (fun c8 => absurd c8 (by first | simp [b01, hq1] | (rw [b01_t hq1]; decide)))
      refine eR_ildn_2 dX8_where_14 rfl ?_
      refine eR_callSi [_] rfl dX8_where_15 ok_mX8_isHour kw_626 rfl rfl (Nat.le_of_ble_eq_true rfl) (d' := 0) (by decide) (Nat.le_of_ble_eq_true rfl) ?_
      refine ct_isHour (by first | assumption | exact rg_b01 _ | (unfold rg; omega) | (unfold rg at *; omega)) ?_
      refine eR_if_eq (tgt := 35) dX8_where_18 (by decide) (by first | assumption | exact rg_b01 _ | (unfold rg; omega) | (unfold rg at *; omega)) (fun c18 => ?_) (fun c18 => absurd c18 (by first | (simp [b01, hq2]; done) | (rw [b01_f hq2]; decide)))
      refine eR_ldc (z := -1000000002) dX8_where_35 kw_349 (by decide) ?_
      refine eR_iret dX8_where_37 rfl rfl ?_
      rw [show (rWhere S ↑pn hour : Int) = (-1000000002) from by unfold rWhere; (try simp only [Int.toNat_natCast]); (repeat' split) <;> first | omega | rfl | simp_all] at k; exact k
  · refine eR_aldn_0 dX8_where_0 rfl ?_
    refine eR_getR (i := t) dX8_where_1 gf_X8_57 th_0 rfl ?_
    refine eR_ildn_1 dX8_where_4 rfl ?_
    refine eR_callVi [_] rfl dX8_where_5 ok_mX6_hasPerson kw_622 rfl rfl T.1 rfl (Nat.le_of_ble_eq_true rfl) (d' := 0) (by decide) (Nat.le_of_ble_eq_true rfl) ?_
    refine tn_hasPerson T B V (by first | assumption | (unfold rg; omega)) ?_
    refine eR_if_ne (tgt := 14) dX8_where_8 (by decide) (by first | assumption | exact rg_b01 _ | (unfold rg; omega) | (unfold rg at *; omega)) (fun c8 => absurd c8 (by first | (simp [b01, hq1]; done) | (rw [b01_f hq1]; decide))) (fun c8 => ?_)
    refine eR_ldc (z := -1000000001) dX8_where_11 kw_612 (by decide) ?_
    refine eR_iret dX8_where_13 rfl rfl ?_
    rw [show (rWhere S p hour : Int) = (-1000000001) from by unfold rWhere; (try simp only [Int.toNat_natCast]); (repeat' split) <;> first | omega | rfl | simp_all] at k; exact k
theorem ct_likes (T : isTn (tau t s) t) (B : sB S) (V : cV h t S) (h38 : 38 ≤ t) {p : Int} (hr_p : rg p) {q : Int} (hr_q : rg q) (k : Q (.int (zI (rLikes S p q))) (tau t s) h) : eX g 1 mX8_likes 0 (lv_args 0 [.ref (gA g 0), .int (zI p), .int (zI q)]) [] (tau t s) h Q := by
  show eX g 1 mX8_likes 0 [(0, .ref (gA g 0)), (1, .int (zI p)), (2, .int (zI q))] [] (tau t s) h Q
  have hP8 := B.1
  have hC8 := B.2.1
  have hE10 := B.2.2.1
  have hF99 := B.2.2.2.2.2.2.1
  by_cases hq1 : 0 ≤ p ∧ p ≤ ↑(sP S) - 1
  · obtain ⟨pn, rfl⟩ : ∃ pn : Nat, p = (pn : Int) := ⟨p.toNat, by omega⟩
    by_cases hq2 : 0 ≤ q ∧ q ≤ ↑(sP S) - 1
    · obtain ⟨qn, rfl⟩ : ∃ qn : Nat, q = (qn : Int) := ⟨q.toNat, by omega⟩
      have hw9 := B.2.2.2.2.2.2.2 pn qn (by omega) (by omega)
      refine eR_aldn_0 dX8_likes_0 rfl ?_
      refine eR_getR (i := t) dX8_likes_1 gf_X8_57 th_0 rfl ?_
      refine eR_ildn_1 dX8_likes_4 rfl ?_
      refine eR_callVi [_] rfl dX8_likes_5 ok_mX6_hasPerson kw_622 rfl rfl T.1 rfl (Nat.le_of_ble_eq_true rfl) (d' := 0) (by decide) (Nat.le_of_ble_eq_true rfl) ?_
      refine tn_hasPerson T B V (by first | assumption | (unfold rg; omega)) ?_
      refine eR_if_eq (tgt := 27) dX8_likes_8 (by decide) (by first | assumption | exact rg_b01 _ | (unfold rg; omega) | (unfold rg at *; omega)) (fun c8 => absurd c8 (by first | simp [b01, hq1] | (rw [b01_t hq1]; decide))) (fun c8 => ?_)
      refine eR_aldn_0 dX8_likes_11 rfl ?_
      refine eR_getR (i := t) dX8_likes_12 gf_X8_57 th_0 rfl ?_
      refine eR_ildn_2 dX8_likes_15 rfl ?_
      refine eR_callVi [_] rfl dX8_likes_16 ok_mX6_hasPerson kw_622 rfl rfl T.1 rfl (Nat.le_of_ble_eq_true rfl) (d' := 0) (by decide) (Nat.le_of_ble_eq_true rfl) ?_
      refine tn_hasPerson T B V (by first | assumption | (unfold rg; omega)) ?_
      refine eR_if_eq (tgt := 27) dX8_likes_19 (by decide) (by first | assumption | exact rg_b01 _ | (unfold rg; omega) | (unfold rg at *; omega)) (fun c19 => absurd c19 (by first | simp [b01, hq2] | (rw [b01_t hq2]; decide))) (fun c19 => ?_)
      refine eR_ildn_1 dX8_likes_22 rfl ?_
      refine eR_ildn_2 dX8_likes_23 rfl ?_
      refine eR_icmp_ne (tgt := 30) dX8_likes_24 (by decide) (by first | assumption | exact rg_b01 _ | (unfold rg; omega) | (unfold rg at *; omega)) (by first | assumption | exact rg_b01 _ | (unfold rg; omega) | (unfold rg at *; omega)) (fun c24 => ?_) (fun c24 => ?_)
      · refine eR_aldn_0 dX8_likes_30 rfl ?_
        refine eR_getR (i := t) dX8_likes_31 gf_X8_57 th_0 rfl ?_
        refine eR_getR (i := t + 31) dX8_likes_34 gf_X8_148 T.1 rfl ?_
        refine eR_ildn_1 dX8_likes_37 rfl ?_
        refine eR_aald3 (n := pn) (i := t + 32 + pn) dX8_likes_38 T.2.2.2.2.2.2.2.2.1 (rfl) (by omega) (by decide) (rowsK_at (by omega)) ?_
        refine eR_ildn_2 dX8_likes_39 rfl ?_
        refine eR_iald (n := qn) dX8_likes_40 (T.2.2.2.2.2.2.2.2.2.1 pn (by omega)) (rfl) (by omega) (by decide) ?_
        refine eX_pcI (V.2.2.2.2.2.2.2.2.1 pn qn (by omega) (by omega)) ?_
        refine eR_iret dX8_likes_41 rfl rfl ?_
        rw [show (rLikes S ↑pn ↑qn : Int) = ↑(sL S pn qn) from by unfold rLikes; (try simp only [Int.toNat_natCast]); (repeat' split) <;> first | omega | rfl | simp_all] at k; exact k
      · refine eR_ldc (z := -1000000001) dX8_likes_27 kw_612 (by decide) ?_
        refine eR_iret dX8_likes_29 rfl rfl ?_
        rw [show (rLikes S ↑pn ↑qn : Int) = (-1000000001) from by unfold rLikes; (try simp only [Int.toNat_natCast]); (repeat' split) <;> first | omega | rfl | simp_all] at k; exact k
    · refine eR_aldn_0 dX8_likes_0 rfl ?_
      refine eR_getR (i := t) dX8_likes_1 gf_X8_57 th_0 rfl ?_
      refine eR_ildn_1 dX8_likes_4 rfl ?_
      refine eR_callVi [_] rfl dX8_likes_5 ok_mX6_hasPerson kw_622 rfl rfl T.1 rfl (Nat.le_of_ble_eq_true rfl) (d' := 0) (by decide) (Nat.le_of_ble_eq_true rfl) ?_
      refine tn_hasPerson T B V (by first | assumption | (unfold rg; omega)) ?_
      refine eR_if_eq (tgt := 27) dX8_likes_8 (by decide) (by first | assumption | exact rg_b01 _ | (unfold rg; omega) | (unfold rg at *; omega)) (fun c8 => absurd c8 (by first | simp [b01, hq1] | (rw [b01_t hq1]; decide))) (fun c8 => ?_)
      refine eR_aldn_0 dX8_likes_11 rfl ?_
      refine eR_getR (i := t) dX8_likes_12 gf_X8_57 th_0 rfl ?_
      refine eR_ildn_2 dX8_likes_15 rfl ?_
      refine eR_callVi [_] rfl dX8_likes_16 ok_mX6_hasPerson kw_622 rfl rfl T.1 rfl (Nat.le_of_ble_eq_true rfl) (d' := 0) (by decide) (Nat.le_of_ble_eq_true rfl) ?_
      refine tn_hasPerson T B V (by first | assumption | (unfold rg; omega)) ?_
      refine eR_if_eq (tgt := 27) dX8_likes_19 (by decide) (by first | assumption | exact rg_b01 _ | (unfold rg; omega) | (unfold rg at *; omega)) (fun c19 => ?_) (fun c19 => absurd c19 (by first | (simp [b01, hq2]; done) | (rw [b01_f hq2]; decide)))
      refine eR_ldc (z := -1000000001) dX8_likes_27 kw_612 (by decide) ?_
      refine eR_iret dX8_likes_29 rfl rfl ?_
      rw [show (rLikes S ↑pn q : Int) = (-1000000001) from by unfold rLikes; (try simp only [Int.toNat_natCast]); (repeat' split) <;> first | omega | rfl | simp_all] at k; exact k
  · refine eR_aldn_0 dX8_likes_0 rfl ?_
    refine eR_getR (i := t) dX8_likes_1 gf_X8_57 th_0 rfl ?_
    refine eR_ildn_1 dX8_likes_4 rfl ?_
    refine eR_callVi [_] rfl dX8_likes_5 ok_mX6_hasPerson kw_622 rfl rfl T.1 rfl (Nat.le_of_ble_eq_true rfl) (d' := 0) (by decide) (Nat.le_of_ble_eq_true rfl) ?_
    refine tn_hasPerson T B V (by first | assumption | (unfold rg; omega)) ?_
    refine eR_if_eq (tgt := 27) dX8_likes_8 (by decide) (by first | assumption | exact rg_b01 _ | (unfold rg; omega) | (unfold rg at *; omega)) (fun c8 => ?_) (fun c8 => absurd c8 (by first | (simp [b01, hq1]; done) | (rw [b01_f hq1]; decide)))
    refine eR_ldc (z := -1000000001) dX8_likes_27 kw_612 (by decide) ?_
    refine eR_iret dX8_likes_29 rfl rfl ?_
    rw [show (rLikes S p q : Int) = (-1000000001) from by unfold rLikes; (try simp only [Int.toNat_natCast]); (repeat' split) <;> first | omega | rfl | simp_all] at k; exact k
theorem ct_coat (T : isTn (tau t s) t) (B : sB S) (V : cV h t S) (h38 : 38 ≤ t) {c : Int} (hr_c : rg c) {what : Int} (hr_what : rg what) (k : Q (.int (zI (rCoat S c what))) (tau t s) h) : eX g 1 mX8_coat 0 (lv_args 0 [.ref (gA g 0), .int (zI c), .int (zI what)]) [] (tau t s) h Q := by
  show eX g 1 mX8_coat 0 [(0, .ref (gA g 0)), (1, .int (zI c)), (2, .int (zI what))] [] (tau t s) h Q
  have hP8 := B.1
  have hC8 := B.2.1
  have hE10 := B.2.2.1
  have hF99 := B.2.2.2.2.2.2.1
  by_cases hq1 : 0 ≤ c ∧ c ≤ ↑(sC S) - 1
  · obtain ⟨cn, rfl⟩ : ∃ cn : Nat, c = (cn : Int) := ⟨c.toNat, by omega⟩
    have ho9 := B.2.2.2.1 cn (by omega)
    refine eR_aldn_0 dX8_coat_0 rfl ?_
    refine eR_getR (i := t) dX8_coat_1 gf_X8_57 th_0 rfl ?_
    refine eR_ildn_1 dX8_coat_4 rfl ?_
    refine eR_callVi [_] rfl dX8_coat_5 ok_mX6_hasCoat kw_608 rfl rfl T.1 rfl (Nat.le_of_ble_eq_true rfl) (d' := 0) (by decide) (Nat.le_of_ble_eq_true rfl) ?_
    refine tn_hasCoat T B V (by first | assumption | (unfold rg; omega)) ?_
    refine eR_if_ne (tgt := 14) dX8_coat_8 (by decide) (by first | assumption | exact rg_b01 _ | (unfold rg; omega) | (unfold rg at *; omega)) (fun c8 => ?_) (fun c8 => absurd c8 (by first | simp [b01, hq1] | (rw [b01_t hq1]; decide)))
    refine eR_ildn_2 dX8_coat_14 rfl ?_
    by_cases hsw : what < 0 ∨ 3 < what
    · refine eR_tabOut (tgt := 95) dX8_coat_15 (by first | assumption | (unfold rg; omega)) hsw (by decide) ?_
      refine eR_ldc (z := -1000000002) dX8_coat_95 kw_349 (by decide) ?_
      refine eR_iret dX8_coat_97 rfl rfl ?_
      rw [show (rCoat S ↑cn what : Int) = (-1000000002) from by unfold rCoat; (try simp only [Int.toNat_natCast]); (repeat' split) <;> first | exact b01_t (by assumption) | exact b01_f (by assumption) | omega | rfl | simp_all] at k; exact k
    · rcases (show what = 0 ∨ what = 1 ∨ what = 2 ∨ what = 3 by omega) with rfl | rfl | rfl | rfl
      · refine eR_tabIn (off := 29) (tgt := 44) dX8_coat_15 (by unfold rg; omega) (by decide) (by decide) rfl (by decide) ?_
        refine eR_aldn_0 dX8_coat_44 rfl ?_
        refine eR_getR (i := t) dX8_coat_45 gf_X8_57 th_0 rfl ?_
        refine eR_getR (i := t + 1) dX8_coat_48 gf_X8_125 T.1 rfl ?_
        refine eR_ildn_1 dX8_coat_51 rfl ?_
        refine eR_aald3 (n := cn) (i := t + 2 + cn) dX8_coat_52 T.2.1 (rfl) (by omega) (by decide) (rowsK_at (by omega)) ?_
        refine eR_ic dX8_coat_53 ?_
        refine eR_iald (n := 0) dX8_coat_54 (T.2.2.1 cn (by omega)) (rfl) (by decide) (by decide) ?_
        refine eX_pcI ((V.2.2.2.2.2.1 cn (by omega)).1) ?_
        refine eR_iret dX8_coat_55 rfl rfl ?_
        rw [show (rCoat S ↑cn 0 : Int) = ↑(sO S cn 0) from by unfold rCoat; (try simp only [Int.toNat_natCast]); (repeat' split) <;> first | exact b01_t (by assumption) | exact b01_f (by assumption) | omega | rfl | simp_all] at k; exact k
      · refine eR_tabIn (off := 41) (tgt := 56) dX8_coat_15 (by unfold rg; omega) (by decide) (by decide) rfl (by decide) ?_
        refine eR_aldn_0 dX8_coat_56 rfl ?_
        refine eR_getR (i := t) dX8_coat_57 gf_X8_57 th_0 rfl ?_
        refine eR_getR (i := t + 1) dX8_coat_60 gf_X8_125 T.1 rfl ?_
        refine eR_ildn_1 dX8_coat_63 rfl ?_
        refine eR_aald3 (n := cn) (i := t + 2 + cn) dX8_coat_64 T.2.1 (rfl) (by omega) (by decide) (rowsK_at (by omega)) ?_
        refine eR_ic dX8_coat_65 ?_
        refine eR_iald (n := 1) dX8_coat_66 (T.2.2.1 cn (by omega)) (rfl) (by decide) (by decide) ?_
        refine eX_pcI ((V.2.2.2.2.2.1 cn (by omega)).2.1) ?_
        refine eR_iret dX8_coat_67 rfl rfl ?_
        rw [show (rCoat S ↑cn 1 : Int) = ↑(sO S cn 1) from by unfold rCoat; (try simp only [Int.toNat_natCast]); (repeat' split) <;> first | exact b01_t (by assumption) | exact b01_f (by assumption) | omega | rfl | simp_all] at k; exact k
      · refine eR_tabIn (off := 53) (tgt := 68) dX8_coat_15 (by unfold rg; omega) (by decide) (by decide) rfl (by decide) ?_
        refine eR_aldn_0 dX8_coat_68 rfl ?_
        refine eR_getR (i := t) dX8_coat_69 gf_X8_57 th_0 rfl ?_
        refine eR_getR (i := t + 10) dX8_coat_72 gf_X8_129 T.1 rfl ?_
        refine eR_ildn_1 dX8_coat_75 rfl ?_
        refine eR_iald (n := cn) dX8_coat_76 T.2.2.2.1 (rfl) (by omega) (by decide) ?_
        refine eX_pcI ((V.2.2.2.2.2.1 cn (by omega)).2.2) ?_
        refine eR_iret dX8_coat_77 rfl rfl ?_
        rw [show (rCoat S ↑cn 2 : Int) = ↑(sW S cn) from by unfold rCoat; (try simp only [Int.toNat_natCast]); (repeat' split) <;> first | exact b01_t (by assumption) | exact b01_f (by assumption) | omega | rfl | simp_all] at k; exact k
      · refine eR_tabIn (off := 63) (tgt := 78) dX8_coat_15 (by unfold rg; omega) (by decide) (by decide) rfl (by decide) ?_
        refine eR_aldn_0 dX8_coat_78 rfl ?_
        refine eR_getR (i := t) dX8_coat_79 gf_X8_57 th_0 rfl ?_
        refine eR_ildn_1 dX8_coat_82 rfl ?_
        refine eR_callVi [_] rfl dX8_coat_83 ok_mX6_isCut kw_613 rfl rfl T.1 rfl (Nat.le_of_ble_eq_true rfl) (d' := 0) (by decide) (Nat.le_of_ble_eq_true rfl) ?_
        refine tn_isCut (c := cn) T B V (by omega) ?_
        refine eR_if_eq (tgt := 93) dX8_coat_86 (by decide) (by first | assumption | exact rg_b01 _ | (unfold rg; omega) | (unfold rg at *; omega)) (fun c86 => ?_) (fun c86 => ?_)
        · replace c86 := b01_eq0.mp c86
          refine eR_ic dX8_coat_93 ?_
          refine eR_iret dX8_coat_94 rfl rfl ?_
          rw [show (rCoat S ↑cn 3 : Int) = 0 from by unfold rCoat; (try simp only [Int.toNat_natCast]); (repeat' split) <;> first | exact b01_t (by assumption) | exact b01_f (by assumption) | omega | rfl | simp_all] at k; exact k
        · replace c86 := b01_ne0.mp c86
          refine eR_ic dX8_coat_89 ?_
          refine eR_goto (tgt := 94) dX8_coat_90 (by decide) ?_
          refine eR_iret dX8_coat_94 rfl rfl ?_
          rw [show (rCoat S ↑cn 3 : Int) = 1 from by unfold rCoat; (try simp only [Int.toNat_natCast]); (repeat' split) <;> first | exact b01_t (by assumption) | exact b01_f (by assumption) | omega | rfl | simp_all] at k; exact k
  · refine eR_aldn_0 dX8_coat_0 rfl ?_
    refine eR_getR (i := t) dX8_coat_1 gf_X8_57 th_0 rfl ?_
    refine eR_ildn_1 dX8_coat_4 rfl ?_
    refine eR_callVi [_] rfl dX8_coat_5 ok_mX6_hasCoat kw_608 rfl rfl T.1 rfl (Nat.le_of_ble_eq_true rfl) (d' := 0) (by decide) (Nat.le_of_ble_eq_true rfl) ?_
    refine tn_hasCoat T B V (by first | assumption | (unfold rg; omega)) ?_
    refine eR_if_ne (tgt := 14) dX8_coat_8 (by decide) (by first | assumption | exact rg_b01 _ | (unfold rg; omega) | (unfold rg at *; omega)) (fun c8 => absurd c8 (by first | (simp [b01, hq1]; done) | (rw [b01_f hq1]; decide))) (fun c8 => ?_)
    refine eR_ldc (z := -1000000001) dX8_coat_11 kw_612 (by decide) ?_
    refine eR_iret dX8_coat_13 rfl rfl ?_
    rw [show (rCoat S c what : Int) = (-1000000001) from by unfold rCoat; (try simp only [Int.toNat_natCast]); (repeat' split) <;> first | exact b01_t (by assumption) | exact b01_f (by assumption) | omega | rfl | simp_all] at k; exact k
theorem ct_errand (T : isTn (tau t s) t) (B : sB S) (V : cV h t S) (h38 : 38 ≤ t) {e : Int} (hr_e : rg e) {what : Int} (hr_what : rg what) (k : Q (.int (zI (rErrand S e what))) (tau t s) h) : eX g 1 mX8_errand 0 (lv_args 0 [.ref (gA g 0), .int (zI e), .int (zI what)]) [] (tau t s) h Q := by
  show eX g 1 mX8_errand 0 [(0, .ref (gA g 0)), (1, .int (zI e)), (2, .int (zI what))] [] (tau t s) h Q
  have hP8 := B.1
  have hC8 := B.2.1
  have hE10 := B.2.2.1
  have hF99 := B.2.2.2.2.2.2.1
  by_cases hq1 : 0 ≤ e ∧ e ≤ ↑(sE S) - 1
  · obtain ⟨en, rfl⟩ : ∃ en : Nat, e = (en : Int) := ⟨e.toNat, by omega⟩
    by_cases hq2 : 0 ≤ what ∧ what ≤ 3
    · obtain ⟨wn, rfl⟩ : ∃ wn : Nat, what = (wn : Int) := ⟨what.toNat, by omega⟩
      have hr9 := B.2.2.2.2.1 en (by omega)
      have hr8 : sR S en wn < 24 := by
        rcases (show wn = 0 ∨ wn = 1 ∨ wn = 2 ∨ wn = 3 by omega) with rfl | rfl | rfl | rfl <;> omega
      have e9 : rErrand S ↑en ↑wn = ↑(sR S en wn) := by
        unfold rErrand
        rw [if_pos (by omega), Int.toNat_natCast]
        rcases (show wn = 0 ∨ wn = 1 ∨ wn = 2 ∨ wn = 3 by omega) with rfl | rfl | rfl | rfl <;> rfl
      refine eR_ildn_1 dX8_errand_0 rfl ?_
      refine eR_if_lt (tgt := 15) dX8_errand_1 (by decide) (by first | assumption | exact rg_b01 _ | (unfold rg; omega) | (unfold rg at *; omega)) (fun c1 => ?_) (fun c1 => ?_)
      · refine eR_ldc (z := -1000000001) dX8_errand_15 kw_612 (by decide) ?_
        refine eR_iret dX8_errand_17 rfl rfl ?_
        rw [show (rErrand S ↑en ↑wn : Int) = (-1000000001) from by unfold rErrand; (try simp only [Int.toNat_natCast]); (repeat' split) <;> first | omega | rfl | simp_all] at k; exact k
      · refine eR_ildn_1 dX8_errand_4 rfl ?_
        refine eR_aldn_0 dX8_errand_5 rfl ?_
        refine eR_getR (i := t) dX8_errand_6 gf_X8_57 th_0 rfl ?_
        refine eR_getI dX8_errand_9 gf_X8_99 T.1 rfl ?_
        refine eX_pcI (V.2.2.1) ?_
        refine eR_icmp_lt (tgt := 18) dX8_errand_12 (by decide) (by first | assumption | exact rg_b01 _ | (unfold rg; omega) | (unfold rg at *; omega)) (by first | assumption | exact rg_b01 _ | (unfold rg; omega) | (unfold rg at *; omega)) (fun c12 => ?_) (fun c12 => ?_)
        · refine eR_ildn_2 dX8_errand_18 rfl ?_
          refine eR_if_lt (tgt := 27) dX8_errand_19 (by decide) (by first | assumption | exact rg_b01 _ | (unfold rg; omega) | (unfold rg at *; omega)) (fun c19 => ?_) (fun c19 => ?_)
          · refine eR_ldc (z := -1000000002) dX8_errand_27 kw_349 (by decide) ?_
            refine eR_iret dX8_errand_29 rfl rfl ?_
            rw [show (rErrand S ↑en ↑wn : Int) = (-1000000002) from by unfold rErrand; (try simp only [Int.toNat_natCast]); (repeat' split) <;> first | omega | rfl | simp_all] at k; exact k
          · refine eR_ildn_2 dX8_errand_22 rfl ?_
            refine eR_ic dX8_errand_23 ?_
            refine eR_icmp_le (tgt := 30) dX8_errand_24 (by decide) (by first | assumption | exact rg_b01 _ | (unfold rg; omega) | (unfold rg at *; omega)) (by first | assumption | exact rg_b01 _ | (unfold rg; omega) | (unfold rg at *; omega)) (fun c24 => ?_) (fun c24 => ?_)
            · refine eR_aldn_0 dX8_errand_30 rfl ?_
              refine eR_getR (i := t) dX8_errand_31 gf_X8_57 th_0 rfl ?_
              refine eR_getR (i := t + 11) dX8_errand_34 gf_X8_136 T.1 rfl ?_
              refine eR_ildn_1 dX8_errand_37 rfl ?_
              refine eR_aald3 (n := en) (i := t + 12 + en) dX8_errand_38 T.2.2.2.2.1 (rfl) (by omega) (by decide) (rowsK_at (by omega)) ?_
              refine eR_ildn_2 dX8_errand_39 rfl ?_
              refine eR_iald (n := wn) dX8_errand_40 (T.2.2.2.2.2.1 en (by omega)) (rfl) (by omega) (by decide) ?_
              refine eX_pcI (cV_err V (e := en) (k := wn) (by omega) (by omega)) ?_
              refine eR_iret dX8_errand_41 rfl rfl ?_
              rw [e9] at k
              exact k
            · refine eR_ldc (z := -1000000002) dX8_errand_27 kw_349 (by decide) ?_
              refine eR_iret dX8_errand_29 rfl rfl ?_
              rw [show (rErrand S ↑en ↑wn : Int) = (-1000000002) from by unfold rErrand; (try simp only [Int.toNat_natCast]); (repeat' split) <;> first | omega | rfl | simp_all] at k; exact k
        · refine eR_ldc (z := -1000000001) dX8_errand_15 kw_612 (by decide) ?_
          refine eR_iret dX8_errand_17 rfl rfl ?_
          rw [show (rErrand S ↑en ↑wn : Int) = (-1000000001) from by unfold rErrand; (try simp only [Int.toNat_natCast]); (repeat' split) <;> first | omega | rfl | simp_all] at k; exact k
    · have hr9 := B.2.2.2.2.1 en (by omega)
      refine eR_ildn_1 dX8_errand_0 rfl ?_
      refine eR_if_lt (tgt := 15) dX8_errand_1 (by decide) (by first | assumption | exact rg_b01 _ | (unfold rg; omega) | (unfold rg at *; omega)) (fun c1 => ?_) (fun c1 => ?_)
      · refine eR_ldc (z := -1000000001) dX8_errand_15 kw_612 (by decide) ?_
        refine eR_iret dX8_errand_17 rfl rfl ?_
        rw [show (rErrand S ↑en what : Int) = (-1000000001) from by unfold rErrand; (try simp only [Int.toNat_natCast]); (repeat' split) <;> first | omega | rfl | simp_all] at k; exact k
      · refine eR_ildn_1 dX8_errand_4 rfl ?_
        refine eR_aldn_0 dX8_errand_5 rfl ?_
        refine eR_getR (i := t) dX8_errand_6 gf_X8_57 th_0 rfl ?_
        refine eR_getI dX8_errand_9 gf_X8_99 T.1 rfl ?_
        refine eX_pcI (V.2.2.1) ?_
        refine eR_icmp_lt (tgt := 18) dX8_errand_12 (by decide) (by first | assumption | exact rg_b01 _ | (unfold rg; omega) | (unfold rg at *; omega)) (by first | assumption | exact rg_b01 _ | (unfold rg; omega) | (unfold rg at *; omega)) (fun c12 => ?_) (fun c12 => ?_)
        · refine eR_ildn_2 dX8_errand_18 rfl ?_
          refine eR_if_lt (tgt := 27) dX8_errand_19 (by decide) (by first | assumption | exact rg_b01 _ | (unfold rg; omega) | (unfold rg at *; omega)) (fun c19 => ?_) (fun c19 => ?_)
          · refine eR_ldc (z := -1000000002) dX8_errand_27 kw_349 (by decide) ?_
            refine eR_iret dX8_errand_29 rfl rfl ?_
            rw [show (rErrand S ↑en what : Int) = (-1000000002) from by unfold rErrand; (try simp only [Int.toNat_natCast]); (repeat' split) <;> first | omega | rfl | simp_all] at k; exact k
          · refine eR_ildn_2 dX8_errand_22 rfl ?_
            refine eR_ic dX8_errand_23 ?_
            refine eR_icmp_le (tgt := 30) dX8_errand_24 (by decide) (by first | assumption | exact rg_b01 _ | (unfold rg; omega) | (unfold rg at *; omega)) (by first | assumption | exact rg_b01 _ | (unfold rg; omega) | (unfold rg at *; omega)) (fun c24 => ?_) (fun c24 => ?_)
            · refine eR_aldn_0 dX8_errand_30 rfl ?_
              refine eR_getR (i := t) dX8_errand_31 gf_X8_57 th_0 rfl ?_
              refine eR_getR (i := t + 11) dX8_errand_34 gf_X8_136 T.1 rfl ?_
              refine eR_ildn_1 dX8_errand_37 rfl ?_
              refine eR_aald3 (n := en) (i := t + 12 + en) dX8_errand_38 T.2.2.2.2.1 (rfl) (by omega) (by decide) (rowsK_at (by omega)) ?_
              refine eR_ildn_2 dX8_errand_39 rfl ?_
              refine eR_iald (n := what.toNat) dX8_errand_40 (T.2.2.2.2.2.1 en (by omega)) (by omega) (by omega) (by decide) ?_
              refine eR_iret dX8_errand_41 rfl rfl ?_
              rw [show (rErrand S ↑en what : Int) = h (t + 12 + en) what.toNat from by unfold rErrand; (try simp only [Int.toNat_natCast]); (repeat' split) <;> first | omega | rfl | simp_all] at k; exact k
            · refine eR_ldc (z := -1000000002) dX8_errand_27 kw_349 (by decide) ?_
              refine eR_iret dX8_errand_29 rfl rfl ?_
              rw [show (rErrand S ↑en what : Int) = (-1000000002) from by unfold rErrand; (try simp only [Int.toNat_natCast]); (repeat' split) <;> first | omega | rfl | simp_all] at k; exact k
        · refine eR_ldc (z := -1000000001) dX8_errand_15 kw_612 (by decide) ?_
          refine eR_iret dX8_errand_17 rfl rfl ?_
          rw [show (rErrand S ↑en what : Int) = (-1000000001) from by unfold rErrand; (try simp only [Int.toNat_natCast]); (repeat' split) <;> first | omega | rfl | simp_all] at k; exact k
  · refine eR_ildn_1 dX8_errand_0 rfl ?_
    refine eR_if_lt (tgt := 15) dX8_errand_1 (by decide) (by first | assumption | exact rg_b01 _ | (unfold rg; omega) | (unfold rg at *; omega)) (fun c1 => ?_) (fun c1 => ?_)
    · refine eR_ldc (z := -1000000001) dX8_errand_15 kw_612 (by decide) ?_
      refine eR_iret dX8_errand_17 rfl rfl ?_
      rw [show (rErrand S e what : Int) = (-1000000001) from by unfold rErrand; (try simp only [Int.toNat_natCast]); (repeat' split) <;> first | omega | rfl | simp_all] at k; exact k
    · refine eR_ildn_1 dX8_errand_4 rfl ?_
      refine eR_aldn_0 dX8_errand_5 rfl ?_
      refine eR_getR (i := t) dX8_errand_6 gf_X8_57 th_0 rfl ?_
      refine eR_getI dX8_errand_9 gf_X8_99 T.1 rfl ?_
      refine eX_pcI (V.2.2.1) ?_
      refine eR_icmp_lt (tgt := 18) dX8_errand_12 (by decide) (by first | assumption | exact rg_b01 _ | (unfold rg; omega) | (unfold rg at *; omega)) (by first | assumption | exact rg_b01 _ | (unfold rg; omega) | (unfold rg at *; omega)) (fun c12 => ?_) (fun c12 => ?_)
      · refine eR_ildn_2 dX8_errand_18 rfl ?_
        refine eR_if_lt (tgt := 27) dX8_errand_19 (by decide) (by first | assumption | exact rg_b01 _ | (unfold rg; omega) | (unfold rg at *; omega)) (fun c19 => ?_) (fun c19 => ?_)
        · refine eR_ldc (z := -1000000002) dX8_errand_27 kw_349 (by decide) ?_
          refine eR_iret dX8_errand_29 rfl rfl ?_
          rw [show (rErrand S e what : Int) = (-1000000002) from by unfold rErrand; (try simp only [Int.toNat_natCast]); (repeat' split) <;> first | omega | rfl | simp_all] at k; exact k
        · refine eR_ildn_2 dX8_errand_22 rfl ?_
          refine eR_ic dX8_errand_23 ?_
          refine eR_icmp_le (tgt := 30) dX8_errand_24 (by decide) (by first | assumption | exact rg_b01 _ | (unfold rg; omega) | (unfold rg at *; omega)) (by first | assumption | exact rg_b01 _ | (unfold rg; omega) | (unfold rg at *; omega)) (fun c24 => ?_) (fun c24 => ?_)
          · refine eR_aldn_0 dX8_errand_30 rfl ?_
            refine eR_getR (i := t) dX8_errand_31 gf_X8_57 th_0 rfl ?_
            refine eR_getR (i := t + 11) dX8_errand_34 gf_X8_136 T.1 rfl ?_
            refine eR_ildn_1 dX8_errand_37 rfl ?_
            refine eR_aald3 (n := e.toNat) (i := t + 12 + e.toNat) dX8_errand_38 T.2.2.2.2.1 (by omega) (by omega) (by decide) (rowsK_at (by omega)) ?_
            refine eR_ildn_2 dX8_errand_39 rfl ?_
            refine eR_iald (n := what.toNat) dX8_errand_40 (T.2.2.2.2.2.1 e.toNat (by omega)) (by omega) (by omega) (by decide) ?_
            refine eR_iret dX8_errand_41 rfl rfl ?_
            rw [show (rErrand S e what : Int) = h (t + 12 + e.toNat) what.toNat from by unfold rErrand; (try simp only [Int.toNat_natCast]); (repeat' split) <;> first | omega | rfl | simp_all] at k; exact k
          · refine eR_ldc (z := -1000000002) dX8_errand_27 kw_349 (by decide) ?_
            refine eR_iret dX8_errand_29 rfl rfl ?_
            rw [show (rErrand S e what : Int) = (-1000000002) from by unfold rErrand; (try simp only [Int.toNat_natCast]); (repeat' split) <;> first | omega | rfl | simp_all] at k; exact k
      · refine eR_ldc (z := -1000000001) dX8_errand_15 kw_612 (by decide) ?_
        refine eR_iret dX8_errand_17 rfl rfl ?_
        rw [show (rErrand S e what : Int) = (-1000000001) from by unfold rErrand; (try simp only [Int.toNat_natCast]); (repeat' split) <;> first | omega | rfl | simp_all] at k; exact k
theorem ct_wish (T : isTn (tau t s) t) (B : sB S) (V : cV h t S) (h38 : 38 ≤ t) {p : Int} (hr_p : rg p) (k : Q (.int (zI (rWish S p))) (tau t s) h) : eX g 2 mX8_wish 0 (lv_args 0 [.ref (gA g 0), .int (zI p)]) [] (tau t s) h Q := by
  show eX g 2 mX8_wish 0 [(0, .ref (gA g 0)), (1, .int (zI p))] [] (tau t s) h Q
  have hP8 := B.1
  have hC8 := B.2.1
  have hE10 := B.2.2.1
  have hF99 := B.2.2.2.2.2.2.1
  by_cases hq1 : 0 ≤ p ∧ p ≤ ↑(sP S) - 1
  · obtain ⟨pn, rfl⟩ : ∃ pn : Nat, p = (pn : Int) := ⟨p.toNat, by omega⟩
    have hw9 := wsN_le B (p := pn) (by omega) (sC S) (Nat.le_refl _)
    refine eR_aldn_0 dX8_wish_0 rfl ?_
    refine eR_getR (i := t) dX8_wish_1 gf_X8_57 th_0 rfl ?_
    refine eR_ildn_1 dX8_wish_4 rfl ?_
    refine eR_callVi [_] rfl dX8_wish_5 ok_mX6_hasPerson kw_622 rfl rfl T.1 rfl (Nat.le_of_ble_eq_true rfl) (d' := 0) (by decide) (Nat.le_of_ble_eq_true rfl) ?_
    refine tn_hasPerson T B V (by first | assumption | (unfold rg; omega)) ?_
    refine eR_if_eq (tgt := 22) dX8_wish_8 (by decide) (by first | assumption | exact rg_b01 _ | (unfold rg; omega) | (unfold rg at *; omega)) (fun c8 => absurd c8 (by first | simp [b01, hq1] | (rw [b01_t hq1]; decide))) (fun c8 => ?_)
    refine eR_aldn_0 dX8_wish_11 rfl ?_
    refine eR_getR (i := t) dX8_wish_12 gf_X8_57 th_0 rfl ?_
    refine eR_ildn_1 dX8_wish_15 rfl ?_
    refine eR_callSi [_, _] rfl dX8_wish_16 ok_mX1_wishOf kw_707 rfl rfl (Nat.le_of_ble_eq_true rfl) (d' := 1) (by decide) (Nat.le_of_ble_eq_true rfl) ?_
    refine tn_wishOf (p := pn) T B V (by omega) ?_
    refine eR_goto (tgt := 24) dX8_wish_19 (by decide) ?_
    refine eR_iret dX8_wish_24 rfl rfl ?_
    rw [show (rWish S ↑pn : Int) = ↑(wsN S pn (sC S)) from by unfold rWish; (try simp only [Int.toNat_natCast]); (repeat' split) <;> first | omega | rfl | simp_all] at k; exact k
  · refine eR_aldn_0 dX8_wish_0 rfl ?_
    refine eR_getR (i := t) dX8_wish_1 gf_X8_57 th_0 rfl ?_
    refine eR_ildn_1 dX8_wish_4 rfl ?_
    refine eR_callVi [_] rfl dX8_wish_5 ok_mX6_hasPerson kw_622 rfl rfl T.1 rfl (Nat.le_of_ble_eq_true rfl) (d' := 0) (by decide) (Nat.le_of_ble_eq_true rfl) ?_
    refine tn_hasPerson T B V (by first | assumption | (unfold rg; omega)) ?_
    refine eR_if_eq (tgt := 22) dX8_wish_8 (by decide) (by first | assumption | exact rg_b01 _ | (unfold rg; omega) | (unfold rg at *; omega)) (fun c8 => ?_) (fun c8 => absurd c8 (by first | (simp [b01, hq1]; done) | (rw [b01_f hq1]; decide)))
    refine eR_ldc (z := -1000000001) dX8_wish_22 kw_612 (by decide) ?_
    refine eR_iret dX8_wish_24 rfl rfl ?_
    rw [show (rWish S p : Int) = (-1000000001) from by unfold rWish; (try simp only [Int.toNat_natCast]); (repeat' split) <;> first | omega | rfl | simp_all] at k; exact k
theorem ct_fair (T : isTn (tau t s) t) (B : sB S) (V : cV h t S) (h38 : 38 ≤ t) {c : Int} (hr_c : rg c) {what : Int} (hr_what : rg what) (k : Q (.int (zI (rFair S c what))) (tau t s) h) : eX g 2 mX8_fair 0 (lv_args 0 [.ref (gA g 0), .int (zI c), .int (zI what)]) [] (tau t s) h Q := by
  show eX g 2 mX8_fair 0 [(0, .ref (gA g 0)), (1, .int (zI c)), (2, .int (zI what))] [] (tau t s) h Q
  have hP8 := B.1
  have hC8 := B.2.1
  have hE10 := B.2.2.1
  have hF99 := B.2.2.2.2.2.2.1
  by_cases hq1 : 0 ≤ c ∧ c ≤ ↑(sC S) - 1
  · obtain ⟨cn, rfl⟩ : ∃ cn : Nat, c = (cn : Int) := ⟨c.toNat, by omega⟩
    by_cases hq2 : 0 ≤ what ∧ what ≤ 1
    · have ho9 := B.2.2.2.1 cn (by omega)
      have hc9 := cnF_le S cn 24
      have hb9 := boS_lt S cn 24
      have hs9 := savN_le B (sW S cn)
      have hm9 : cnF S cn 24 % 2 * savN S (sW S cn) ≤ 1 * 99 := Nat.mul_le_mul (by omega) hs9
      have hfr : fairN S cn = (((cnF S cn 24 % 2 * savN S (sW S cn) : Nat) : Int), if savN S (sW S cn) = 0 then 0 else cnF S cn 24 / 2) := frL_is _ _
      have hf0 : savN S (sW S cn) = 0 → (frS S cn (fairN S cn).2 24).2 = 0 := fun q => by rw [hfr, if_pos q, frS_0]
      have hf1 : savN S (sW S cn) ≠ 0 → (frS S cn (fairN S cn).2 24).2 = (frS S cn (cnF S cn 24 / 2) 24).2 := fun q => by rw [hfr, if_neg q]
      have hf2 : (fairN S cn).1 = ((cnF S cn 24 % 2 * savN S (sW S cn) : Nat) : Int) := by rw [hfr]
      refine eR_aldn_0 dX8_fair_0 rfl ?_
      refine eR_getR (i := t) dX8_fair_1 gf_X8_57 th_0 rfl ?_
      refine eR_ildn_1 dX8_fair_4 rfl ?_
      refine eR_callVi [_] rfl dX8_fair_5 ok_mX6_hasCoat kw_608 rfl rfl T.1 rfl (Nat.le_of_ble_eq_true rfl) (d' := 0) (by decide) (Nat.le_of_ble_eq_true rfl) ?_
      refine tn_hasCoat T B V (by first | assumption | (unfold rg; omega)) ?_
      refine eR_if_ne (tgt := 14) dX8_fair_8 (by decide) (by first | assumption | exact rg_b01 _ | (unfold rg; omega) | (unfold rg at *; omega)) (fun c8 => ?_) (fun c8 => absurd c8 (by first | simp [b01, hq1] | (rw [b01_t hq1]; decide)))
      refine eR_ildn_2 dX8_fair_14 rfl ?_
      refine eR_if_lt (tgt := 23) dX8_fair_15 (by decide) (by first | assumption | exact rg_b01 _ | (unfold rg; omega) | (unfold rg at *; omega)) (fun c15 => ?_) (fun c15 => ?_)
      · refine eR_ldc (z := -1000000002) dX8_fair_23 kw_349 (by decide) ?_
        refine eR_iret dX8_fair_25 rfl rfl ?_
        rw [show (rFair S ↑cn what : Int) = (-1000000002) from by unfold rFair; (try simp only [Int.toNat_natCast]); first | (rw [if_pos hq1, if_pos hq2, if_neg (by assumption), if_pos (by omega)]; omega) | (rw [if_pos hq1, if_pos hq2, if_neg (by assumption), if_neg (by omega), hf0 (by omega)]; rfl) | (rw [if_pos hq1, if_pos hq2, if_neg (by assumption), if_neg (by omega), hf1 (by omega)]) | ((repeat' split) <;> first | omega | rfl | simp_all)] at k
        exact k
      · refine eR_ildn_2 dX8_fair_18 rfl ?_
        refine eR_ic dX8_fair_19 ?_
        refine eR_icmp_le (tgt := 26) dX8_fair_20 (by decide) (by first | assumption | exact rg_b01 _ | (unfold rg; omega) | (unfold rg at *; omega)) (by first | assumption | exact rg_b01 _ | (unfold rg; omega) | (unfold rg at *; omega)) (fun c20 => ?_) (fun c20 => ?_)
        · refine eR_aldn_0 dX8_fair_26 rfl ?_
          refine eR_getR (i := t) dX8_fair_27 gf_X8_57 th_0 rfl ?_
          refine eR_ildn_1 dX8_fair_30 rfl ?_
          refine eR_callVi [_] rfl dX8_fair_31 ok_mX6_isCut kw_613 rfl rfl T.1 rfl (Nat.le_of_ble_eq_true rfl) (d' := 0) (by decide) (Nat.le_of_ble_eq_true rfl) ?_
          refine tn_isCut (c := cn) T B V (by omega) ?_
          refine eR_if_eq (tgt := 40) dX8_fair_34 (by decide) (by first | assumption | exact rg_b01 _ | (unfold rg; omega) | (unfold rg at *; omega)) (fun c34 => ?_) (fun c34 => ?_)
          · replace c34 := b01_eq0.mp c34
            refine eR_aldn_0 dX8_fair_40 rfl ?_
            refine eR_getR (i := t) dX8_fair_41 gf_X8_57 th_0 rfl ?_
            refine eR_ildn_1 dX8_fair_44 rfl ?_
            refine eR_callVi [_] rfl dX8_fair_45 ok_mX6_hoursOfBothOut kw_694 rfl rfl T.1 rfl (Nat.le_of_ble_eq_true rfl) (d' := 0) (by decide) (Nat.le_of_ble_eq_true rfl) ?_
            refine tn_hours (c := cn) T B V (by omega) ?_
            refine eR_istn_n3 dX8_fair_48 rfl (by decide) rfl ?_
            refine eR_ildn_3 dX8_fair_49 rfl ?_
            refine eR_callSi [_] rfl dX8_fair_50 ok_mJ6_bitCount_0f7a4 kw_698 rfl rfl (Nat.le_of_ble_eq_true rfl) (d' := 0) (by decide) (Nat.le_of_ble_eq_true rfl) ?_
            refine sp_bitCount (n := (boS S cn 24)) (by omega) ?_
            refine eX_pcI (show (↑(bcn (boS S cn 24) 24) : Int) = ↑(cnF S cn 24) from by rw [boS_cnt _ (by omega)]) ?_
            refine eR_ist_n4 dX8_fair_53 (by decide) rfl ?_
            refine eR_aldn_0 dX8_fair_55 rfl ?_
            refine eR_getR (i := t) dX8_fair_56 gf_X8_57 th_0 rfl ?_
            refine eR_getI dX8_fair_59 gf_X8_105 T.1 rfl ?_
            refine eX_pcI (V.2.2.2.1) ?_
            refine eR_aldn_0 dX8_fair_62 rfl ?_
            refine eR_getR (i := t) dX8_fair_63 gf_X8_57 th_0 rfl ?_
            refine eR_getR (i := t + 10) dX8_fair_66 gf_X8_129 T.1 rfl ?_
            refine eR_ildn_1 dX8_fair_69 rfl ?_
            refine eR_iald (n := cn) dX8_fair_70 T.2.2.2.1 (rfl) (by omega) (by decide) ?_
            refine eX_pcI ((V.2.2.2.2.2.1 cn (by omega)).2.2) ?_
            refine eR_mmin dX8_fair_71 kw_699 (by first | assumption | exact rg_b01 _ | (unfold rg; omega) | (unfold rg at *; omega)) (by first | assumption | exact rg_b01 _ | (unfold rg; omega) | (unfold rg at *; omega)) (by decide) (Nat.le_of_ble_eq_true rfl) ?_
            refine eX_pcI (show (min ↑(sF S) ↑(sW S cn) : Int) = ↑(savN S (sW S cn)) from by rw [← savN_min]; omega) ?_
            refine eR_ist_n5 dX8_fair_74 (by decide) rfl ?_
            refine eR_ildn_2 dX8_fair_76 rfl ?_
            refine eR_if_ne (tgt := 88) dX8_fair_77 (by decide) (by first | assumption | exact rg_b01 _ | (unfold rg; omega) | (unfold rg at *; omega)) (fun c77 => ?_) (fun c77 => ?_)
            · refine eR_ild_5 dX8_fair_88 ?_
              refine eR_if_ne (tgt := 97) dX8_fair_90 (by decide) (by first | assumption | exact rg_b01 _ | (unfold rg; omega) | (unfold rg at *; omega)) (fun c90 => ?_) (fun c90 => ?_)
              · refine eR_ildn_3 dX8_fair_97 rfl ?_
                refine eR_ild_4 dX8_fair_98 ?_
                refine eR_ic dX8_fair_100 ?_
                refine eR_idiv dX8_fair_101 (by first | assumption | exact rg_b01 _ | (unfold rg; omega) | (unfold rg at *; omega)) (by first | assumption | exact rg_b01 _ | (unfold rg; omega) | (unfold rg at *; omega)) (by omega) ?_
                refine eX_pcI (show (Int.tdiv ↑(cnF S cn 24) 2 : Int) = ↑(cnF S cn 24 / 2 : Nat) from rfl) ?_
                refine eR_callSi [_, _] rfl dX8_fair_102 ok_mX8_lowestBits kw_700 rfl rfl (Nat.le_of_ble_eq_true rfl) (d' := 0) (by decide) (Nat.le_of_ble_eq_true rfl) ?_
                refine ct_lowest (S := S) (c := cn) (m := (cnF S cn 24 / 2)) (by omega) ?_
                refine eR_iret dX8_fair_105 rfl rfl ?_
                rw [show (rFair S ↑cn what : Int) = ↑(frS S cn (cnF S cn 24 / 2) 24).2 from by unfold rFair; (try simp only [Int.toNat_natCast]); first | (rw [if_pos hq1, if_pos hq2, if_neg (by assumption), if_pos (by omega)]; omega) | (rw [if_pos hq1, if_pos hq2, if_neg (by assumption), if_neg (by omega), hf0 (by omega)]; rfl) | (rw [if_pos hq1, if_pos hq2, if_neg (by assumption), if_neg (by omega), hf1 (by omega)]) | ((repeat' split) <;> first | omega | rfl | simp_all)] at k
                exact k
              · refine eR_ic dX8_fair_93 ?_
                refine eR_goto (tgt := 105) dX8_fair_94 (by decide) ?_
                refine eR_iret dX8_fair_105 rfl rfl ?_
                rw [show (rFair S ↑cn what : Int) = 0 from by unfold rFair; (try simp only [Int.toNat_natCast]); first | (rw [if_pos hq1, if_pos hq2, if_neg (by assumption), if_pos (by omega)]; omega) | (rw [if_pos hq1, if_pos hq2, if_neg (by assumption), if_neg (by omega), hf0 (by omega)]; rfl) | (rw [if_pos hq1, if_pos hq2, if_neg (by assumption), if_neg (by omega), hf1 (by omega)]) | ((repeat' split) <;> first | omega | rfl | simp_all)] at k
                exact k
            · refine eR_ild_4 dX8_fair_80 ?_
              refine eR_ic dX8_fair_82 ?_
              refine eR_irem dX8_fair_83 (by first | assumption | exact rg_b01 _ | (unfold rg; omega) | (unfold rg at *; omega)) (by first | assumption | exact rg_b01 _ | (unfold rg; omega) | (unfold rg at *; omega)) (by omega) ?_
              refine eX_pcI (show (Int.tmod ↑(cnF S cn 24) 2 : Int) = ↑(cnF S cn 24 % 2 : Nat) from rfl) ?_
              refine eR_ild_5 dX8_fair_84 ?_
              refine eR_imul dX8_fair_86 ?_
              refine eX_pcI (show (↑(cnF S cn 24 % 2 : Nat) * (↑(savN S (sW S cn))) : Int) = ↑(cnF S cn 24 % 2 * savN S (sW S cn) : Nat) from rfl) ?_
              refine eR_iret dX8_fair_87 rfl rfl ?_
              rw [show (rFair S ↑cn what : Int) = ↑(cnF S cn 24 % 2 * savN S (sW S cn) : Nat) from by unfold rFair; (try simp only [Int.toNat_natCast]); first | (rw [if_pos hq1, if_pos hq2, if_neg (by assumption), if_pos (by omega)]; omega) | (rw [if_pos hq1, if_pos hq2, if_neg (by assumption), if_neg (by omega), hf0 (by omega)]; rfl) | (rw [if_pos hq1, if_pos hq2, if_neg (by assumption), if_neg (by omega), hf1 (by omega)]) | ((repeat' split) <;> first | omega | rfl | simp_all)] at k
              exact k
          · replace c34 := b01_ne0.mp c34
            refine eR_ldc (z := -1000000003) dX8_fair_37 kw_663 (by decide) ?_
            refine eR_iret dX8_fair_39 rfl rfl ?_
            rw [show (rFair S ↑cn what : Int) = (-1000000003) from by unfold rFair; (try simp only [Int.toNat_natCast]); first | (rw [if_pos hq1, if_pos hq2, if_neg (by assumption), if_pos (by omega)]; omega) | (rw [if_pos hq1, if_pos hq2, if_neg (by assumption), if_neg (by omega), hf0 (by omega)]; rfl) | (rw [if_pos hq1, if_pos hq2, if_neg (by assumption), if_neg (by omega), hf1 (by omega)]) | ((repeat' split) <;> first | omega | rfl | simp_all)] at k
            exact k
        · refine eR_ldc (z := -1000000002) dX8_fair_23 kw_349 (by decide) ?_
          refine eR_iret dX8_fair_25 rfl rfl ?_
          rw [show (rFair S ↑cn what : Int) = (-1000000002) from by unfold rFair; (try simp only [Int.toNat_natCast]); first | (rw [if_pos hq1, if_pos hq2, if_neg (by assumption), if_pos (by omega)]; omega) | (rw [if_pos hq1, if_pos hq2, if_neg (by assumption), if_neg (by omega), hf0 (by omega)]; rfl) | (rw [if_pos hq1, if_pos hq2, if_neg (by assumption), if_neg (by omega), hf1 (by omega)]) | ((repeat' split) <;> first | omega | rfl | simp_all)] at k
          exact k
    · have ho9 := B.2.2.2.1 cn (by omega)
      have hc9 := cnF_le S cn 24
      have hb9 := boS_lt S cn 24
      have hs9 := savN_le B (sW S cn)
      have hm9 : cnF S cn 24 % 2 * savN S (sW S cn) ≤ 1 * 99 := Nat.mul_le_mul (by omega) hs9
      have hfr : fairN S cn = (((cnF S cn 24 % 2 * savN S (sW S cn) : Nat) : Int), if savN S (sW S cn) = 0 then 0 else cnF S cn 24 / 2) := frL_is _ _
      have hf0 : savN S (sW S cn) = 0 → (frS S cn (fairN S cn).2 24).2 = 0 := fun q => by rw [hfr, if_pos q, frS_0]
      have hf1 : savN S (sW S cn) ≠ 0 → (frS S cn (fairN S cn).2 24).2 = (frS S cn (cnF S cn 24 / 2) 24).2 := fun q => by rw [hfr, if_neg q]
      have hf2 : (fairN S cn).1 = ((cnF S cn 24 % 2 * savN S (sW S cn) : Nat) : Int) := by rw [hfr]
      refine eR_aldn_0 dX8_fair_0 rfl ?_
      refine eR_getR (i := t) dX8_fair_1 gf_X8_57 th_0 rfl ?_
      refine eR_ildn_1 dX8_fair_4 rfl ?_
      refine eR_callVi [_] rfl dX8_fair_5 ok_mX6_hasCoat kw_608 rfl rfl T.1 rfl (Nat.le_of_ble_eq_true rfl) (d' := 0) (by decide) (Nat.le_of_ble_eq_true rfl) ?_
      refine tn_hasCoat T B V (by first | assumption | (unfold rg; omega)) ?_
      refine eR_if_ne (tgt := 14) dX8_fair_8 (by decide) (by first | assumption | exact rg_b01 _ | (unfold rg; omega) | (unfold rg at *; omega)) (fun c8 => ?_) (fun c8 => absurd c8 (by first | simp [b01, hq1] | (rw [b01_t hq1]; decide)))
      refine eR_ildn_2 dX8_fair_14 rfl ?_
      refine eR_if_lt (tgt := 23) dX8_fair_15 (by decide) (by first | assumption | exact rg_b01 _ | (unfold rg; omega) | (unfold rg at *; omega)) (fun c15 => ?_) (fun c15 => ?_)
      · refine eR_ldc (z := -1000000002) dX8_fair_23 kw_349 (by decide) ?_
        refine eR_iret dX8_fair_25 rfl rfl ?_
        rw [show (rFair S ↑cn what : Int) = (-1000000002) from by unfold rFair; (try simp only [Int.toNat_natCast]); first | (rw [if_pos hq1, if_pos hq2, if_neg (by assumption), if_pos (by omega)]; omega) | (rw [if_pos hq1, if_pos hq2, if_neg (by assumption), if_neg (by omega), hf0 (by omega)]; rfl) | (rw [if_pos hq1, if_pos hq2, if_neg (by assumption), if_neg (by omega), hf1 (by omega)]) | ((repeat' split) <;> first | omega | rfl | simp_all)] at k
        exact k
      · refine eR_ildn_2 dX8_fair_18 rfl ?_
        refine eR_ic dX8_fair_19 ?_
        refine eR_icmp_le (tgt := 26) dX8_fair_20 (by decide) (by first | assumption | exact rg_b01 _ | (unfold rg; omega) | (unfold rg at *; omega)) (by first | assumption | exact rg_b01 _ | (unfold rg; omega) | (unfold rg at *; omega)) (fun c20 => ?_) (fun c20 => ?_)
        · refine eR_aldn_0 dX8_fair_26 rfl ?_
          refine eR_getR (i := t) dX8_fair_27 gf_X8_57 th_0 rfl ?_
          refine eR_ildn_1 dX8_fair_30 rfl ?_
          refine eR_callVi [_] rfl dX8_fair_31 ok_mX6_isCut kw_613 rfl rfl T.1 rfl (Nat.le_of_ble_eq_true rfl) (d' := 0) (by decide) (Nat.le_of_ble_eq_true rfl) ?_
          refine tn_isCut (c := cn) T B V (by omega) ?_
          refine eR_if_eq (tgt := 40) dX8_fair_34 (by decide) (by first | assumption | exact rg_b01 _ | (unfold rg; omega) | (unfold rg at *; omega)) (fun c34 => ?_) (fun c34 => ?_)
          · replace c34 := b01_eq0.mp c34
            refine eR_aldn_0 dX8_fair_40 rfl ?_
            refine eR_getR (i := t) dX8_fair_41 gf_X8_57 th_0 rfl ?_
            refine eR_ildn_1 dX8_fair_44 rfl ?_
            refine eR_callVi [_] rfl dX8_fair_45 ok_mX6_hoursOfBothOut kw_694 rfl rfl T.1 rfl (Nat.le_of_ble_eq_true rfl) (d' := 0) (by decide) (Nat.le_of_ble_eq_true rfl) ?_
            refine tn_hours (c := cn) T B V (by omega) ?_
            refine eR_istn_n3 dX8_fair_48 rfl (by decide) rfl ?_
            refine eR_ildn_3 dX8_fair_49 rfl ?_
            refine eR_callSi [_] rfl dX8_fair_50 ok_mJ6_bitCount_0f7a4 kw_698 rfl rfl (Nat.le_of_ble_eq_true rfl) (d' := 0) (by decide) (Nat.le_of_ble_eq_true rfl) ?_
            refine sp_bitCount (n := (boS S cn 24)) (by omega) ?_
            refine eX_pcI (show (↑(bcn (boS S cn 24) 24) : Int) = ↑(cnF S cn 24) from by rw [boS_cnt _ (by omega)]) ?_
            refine eR_ist_n4 dX8_fair_53 (by decide) rfl ?_
            refine eR_aldn_0 dX8_fair_55 rfl ?_
            refine eR_getR (i := t) dX8_fair_56 gf_X8_57 th_0 rfl ?_
            refine eR_getI dX8_fair_59 gf_X8_105 T.1 rfl ?_
            refine eX_pcI (V.2.2.2.1) ?_
            refine eR_aldn_0 dX8_fair_62 rfl ?_
            refine eR_getR (i := t) dX8_fair_63 gf_X8_57 th_0 rfl ?_
            refine eR_getR (i := t + 10) dX8_fair_66 gf_X8_129 T.1 rfl ?_
            refine eR_ildn_1 dX8_fair_69 rfl ?_
            refine eR_iald (n := cn) dX8_fair_70 T.2.2.2.1 (rfl) (by omega) (by decide) ?_
            refine eX_pcI ((V.2.2.2.2.2.1 cn (by omega)).2.2) ?_
            refine eR_mmin dX8_fair_71 kw_699 (by first | assumption | exact rg_b01 _ | (unfold rg; omega) | (unfold rg at *; omega)) (by first | assumption | exact rg_b01 _ | (unfold rg; omega) | (unfold rg at *; omega)) (by decide) (Nat.le_of_ble_eq_true rfl) ?_
            refine eX_pcI (show (min ↑(sF S) ↑(sW S cn) : Int) = ↑(savN S (sW S cn)) from by rw [← savN_min]; omega) ?_
            refine eR_ist_n5 dX8_fair_74 (by decide) rfl ?_
            refine eR_ildn_2 dX8_fair_76 rfl ?_
            refine eR_if_ne (tgt := 88) dX8_fair_77 (by decide) (by first | assumption | exact rg_b01 _ | (unfold rg; omega) | (unfold rg at *; omega)) (fun c77 => ?_) (fun c77 => ?_)
            · refine eR_ild_5 dX8_fair_88 ?_
              refine eR_if_ne (tgt := 97) dX8_fair_90 (by decide) (by first | assumption | exact rg_b01 _ | (unfold rg; omega) | (unfold rg at *; omega)) (fun c90 => ?_) (fun c90 => ?_)
              · refine eR_ildn_3 dX8_fair_97 rfl ?_
                refine eR_ild_4 dX8_fair_98 ?_
                refine eR_ic dX8_fair_100 ?_
                refine eR_idiv dX8_fair_101 (by first | assumption | exact rg_b01 _ | (unfold rg; omega) | (unfold rg at *; omega)) (by first | assumption | exact rg_b01 _ | (unfold rg; omega) | (unfold rg at *; omega)) (by omega) ?_
                refine eX_pcI (show (Int.tdiv ↑(cnF S cn 24) 2 : Int) = ↑(cnF S cn 24 / 2 : Nat) from rfl) ?_
                refine eR_callSi [_, _] rfl dX8_fair_102 ok_mX8_lowestBits kw_700 rfl rfl (Nat.le_of_ble_eq_true rfl) (d' := 0) (by decide) (Nat.le_of_ble_eq_true rfl) ?_
                refine ct_lowest (S := S) (c := cn) (m := (cnF S cn 24 / 2)) (by omega) ?_
                refine eR_iret dX8_fair_105 rfl rfl ?_
                rw [show (rFair S ↑cn what : Int) = ↑(frS S cn (cnF S cn 24 / 2) 24).2 from by unfold rFair; (try simp only [Int.toNat_natCast]); first | (rw [if_pos hq1, if_pos hq2, if_neg (by assumption), if_pos (by omega)]; omega) | (rw [if_pos hq1, if_pos hq2, if_neg (by assumption), if_neg (by omega), hf0 (by omega)]; rfl) | (rw [if_pos hq1, if_pos hq2, if_neg (by assumption), if_neg (by omega), hf1 (by omega)]) | ((repeat' split) <;> first | omega | rfl | simp_all)] at k
                exact k
              · refine eR_ic dX8_fair_93 ?_
                refine eR_goto (tgt := 105) dX8_fair_94 (by decide) ?_
                refine eR_iret dX8_fair_105 rfl rfl ?_
                rw [show (rFair S ↑cn what : Int) = 0 from by unfold rFair; (try simp only [Int.toNat_natCast]); first | (rw [if_pos hq1, if_pos hq2, if_neg (by assumption), if_pos (by omega)]; omega) | (rw [if_pos hq1, if_pos hq2, if_neg (by assumption), if_neg (by omega), hf0 (by omega)]; rfl) | (rw [if_pos hq1, if_pos hq2, if_neg (by assumption), if_neg (by omega), hf1 (by omega)]) | ((repeat' split) <;> first | omega | rfl | simp_all)] at k
                exact k
            · refine eR_ild_4 dX8_fair_80 ?_
              refine eR_ic dX8_fair_82 ?_
              refine eR_irem dX8_fair_83 (by first | assumption | exact rg_b01 _ | (unfold rg; omega) | (unfold rg at *; omega)) (by first | assumption | exact rg_b01 _ | (unfold rg; omega) | (unfold rg at *; omega)) (by omega) ?_
              refine eX_pcI (show (Int.tmod ↑(cnF S cn 24) 2 : Int) = ↑(cnF S cn 24 % 2 : Nat) from rfl) ?_
              refine eR_ild_5 dX8_fair_84 ?_
              refine eR_imul dX8_fair_86 ?_
              refine eX_pcI (show (↑(cnF S cn 24 % 2 : Nat) * (↑(savN S (sW S cn))) : Int) = ↑(cnF S cn 24 % 2 * savN S (sW S cn) : Nat) from rfl) ?_
              refine eR_iret dX8_fair_87 rfl rfl ?_
              rw [show (rFair S ↑cn what : Int) = ↑(cnF S cn 24 % 2 * savN S (sW S cn) : Nat) from by unfold rFair; (try simp only [Int.toNat_natCast]); first | (rw [if_pos hq1, if_pos hq2, if_neg (by assumption), if_pos (by omega)]; omega) | (rw [if_pos hq1, if_pos hq2, if_neg (by assumption), if_neg (by omega), hf0 (by omega)]; rfl) | (rw [if_pos hq1, if_pos hq2, if_neg (by assumption), if_neg (by omega), hf1 (by omega)]) | ((repeat' split) <;> first | omega | rfl | simp_all)] at k
              exact k
          · replace c34 := b01_ne0.mp c34
            refine eR_ldc (z := -1000000003) dX8_fair_37 kw_663 (by decide) ?_
            refine eR_iret dX8_fair_39 rfl rfl ?_
            rw [show (rFair S ↑cn what : Int) = (-1000000003) from by unfold rFair; (try simp only [Int.toNat_natCast]); first | (rw [if_pos hq1, if_pos hq2, if_neg (by assumption), if_pos (by omega)]; omega) | (rw [if_pos hq1, if_pos hq2, if_neg (by assumption), if_neg (by omega), hf0 (by omega)]; rfl) | (rw [if_pos hq1, if_pos hq2, if_neg (by assumption), if_neg (by omega), hf1 (by omega)]) | ((repeat' split) <;> first | omega | rfl | simp_all)] at k
            exact k
        · refine eR_ldc (z := -1000000002) dX8_fair_23 kw_349 (by decide) ?_
          refine eR_iret dX8_fair_25 rfl rfl ?_
          rw [show (rFair S ↑cn what : Int) = (-1000000002) from by unfold rFair; (try simp only [Int.toNat_natCast]); first | (rw [if_pos hq1, if_pos hq2, if_neg (by assumption), if_pos (by omega)]; omega) | (rw [if_pos hq1, if_pos hq2, if_neg (by assumption), if_neg (by omega), hf0 (by omega)]; rfl) | (rw [if_pos hq1, if_pos hq2, if_neg (by assumption), if_neg (by omega), hf1 (by omega)]) | ((repeat' split) <;> first | omega | rfl | simp_all)] at k
          exact k
  · refine eR_aldn_0 dX8_fair_0 rfl ?_
    refine eR_getR (i := t) dX8_fair_1 gf_X8_57 th_0 rfl ?_
    refine eR_ildn_1 dX8_fair_4 rfl ?_
    refine eR_callVi [_] rfl dX8_fair_5 ok_mX6_hasCoat kw_608 rfl rfl T.1 rfl (Nat.le_of_ble_eq_true rfl) (d' := 0) (by decide) (Nat.le_of_ble_eq_true rfl) ?_
    refine tn_hasCoat T B V (by first | assumption | (unfold rg; omega)) ?_
    refine eR_if_ne (tgt := 14) dX8_fair_8 (by decide) (by first | assumption | exact rg_b01 _ | (unfold rg; omega) | (unfold rg at *; omega)) (fun c8 => absurd c8 (by first | (simp [b01, hq1]; done) | (rw [b01_f hq1]; decide))) (fun c8 => ?_)
    refine eR_ldc (z := -1000000001) dX8_fair_11 kw_612 (by decide) ?_
    refine eR_iret dX8_fair_13 rfl rfl ?_
    rw [show (rFair S c what : Int) = (-1000000001) from by unfold rFair; (try simp only [Int.toNat_natCast]); first | (rw [if_pos hq1, if_pos hq2, if_neg (by assumption), if_pos (by omega)]; omega) | (rw [if_pos hq1, if_pos hq2, if_neg (by assumption), if_neg (by omega), hf0 (by omega)]; rfl) | (rw [if_pos hq1, if_pos hq2, if_neg (by assumption), if_neg (by omega), hf1 (by omega)]) | ((repeat' split) <;> first | omega | rfl | simp_all)] at k
    exact k
theorem ct_fault {z : Int} (hz : h 0 10 = z) (k : Q (.int (zI z)) (tau t s) h) : eX g 0 mX8_fault 0 (lv_args 0 [.ref (gA g 0)]) [] (tau t s) h Q := by
  show eX g 0 mX8_fault 0 [(0, .ref (gA g 0))] [] (tau t s) h Q
  refine eR_aldn_0 dX8_fault_0 rfl ?_
  refine eR_getI dX8_fault_1 gf_X8_68 th_0 rfl ?_
  refine eX_pcI (hz) ?_
  refine eR_iret dX8_fault_4 rfl rfl ?_
  exact k
end M57
