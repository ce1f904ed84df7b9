theorem cut_bk {n c : Nat} (h : n.testBit c = false) : (n ||| 2 ^ c).testBit c = true := by rw [Nat.testBit_or, Nat.testBit_two_pow]; simp
section M59
variable {g : EG} {d t s u : Nat} {h h1 : PH} {Q : EQ} {S : TS}
theorem ct_ifCut (T : isTn (tau t s) t) (B : sB S) (V : cV h t S) (h38 : 38 ≤ t) {c : Nat} (hc : c < sC S) (k : ∀ h1 : PH, ofR 3 38 h h1 → Q (.int (zI (dyC (setK S (sK S ||| 2 ^ c)) 24))) (tau t s) h1) : eX g 5 mX8_chillIfCut 0 (lv_args 0 [.ref (gA g 0), .int (zI ↑c)]) [] (tau t s) h Q := by
  show eX g 5 mX8_chillIfCut 0 [(0, .ref (gA g 0)), (1, .int (zI ↑c))] [] (tau t s) h Q
  have hP8 := B.1
  have hC8 := B.2.1
  have hE10 := B.2.2.1
  have hF99 := B.2.2.2.2.2.2.1
  have hk9 := sB_cut B
  have hl9 : 2 ^ c ≤ 2 ^ 7 := Nat.pow_le_pow_right (by omega) (by omega)
  refine eR_aldn_0 dX8_chillIfCut_0 rfl ?_
  refine eR_getR (i := t) dX8_chillIfCut_1 gf_X8_57 th_0 rfl ?_
  refine eR_getI dX8_chillIfCut_4 gf_X8_108 T.1 rfl ?_
  refine eX_pcI (V.2.2.2.2.1) ?_
  refine eR_istn_n2 dX8_chillIfCut_7 rfl (by decide) rfl ?_
  refine eR_aldn_0 dX8_chillIfCut_8 rfl ?_
  refine eR_getR (i := t) dX8_chillIfCut_9 gf_X8_57 th_0 rfl ?_
  refine eR_ildn_2 dX8_chillIfCut_12 rfl ?_
  refine eR_ic dX8_chillIfCut_13 ?_
  refine eR_ildn_1 dX8_chillIfCut_14 rfl ?_
  refine eR_ishl dX8_chillIfCut_15 ?_
  refine eX_pcI (show (zShl 1 ↑c : Int) = ↑(2 ^ c : Nat) from by have := zShl_nat (a := 1) (k := c) (by omega) (by omega); rw [Nat.one_mul] at this; exact this) ?_
  refine eR_ior dX8_chillIfCut_16 ?_
  refine eX_pcI (show (zOr ↑(sK S) ↑(2 ^ c : Nat) : Int) = ↑(sK S ||| 2 ^ c : Nat) from zOr_nat (by omega) (by omega)) ?_
  refine eR_putI dX8_chillIfCut_17 pf_X8_108 T.1 rfl ?_
  refine eR_aldn_0 dX8_chillIfCut_20 rfl ?_
  refine eR_getR (i := 3) dX8_chillIfCut_21 gf_X8_19 th_0 rfl ?_
  refine eR_aldn_0 dX8_chillIfCut_24 rfl ?_
  refine eR_getR (i := t) dX8_chillIfCut_25 gf_X8_57 th_0 rfl ?_
  refine eR_callVi [_] rfl dX8_chillIfCut_28 ok_mX7_chillOfDay kw_527 rfl rfl th_3 rfl (Nat.le_of_ble_eq_true rfl) (d' := 4) (by decide) (Nat.le_of_ble_eq_true rfl) ?_
  have V1 : cV (hU h t 5 ↑(sK S ||| 2 ^ c : Nat)) t (setK S (sK S ||| 2 ^ c)) := cV_setK B V _
  refine wd_chillOfDay (S := setK S (sK S ||| 2 ^ c)) T (sB_setK B (cut_lt B hc)) V1 h38 (fun h2 O2 => ?_)
  refine eR_istn_n3 dX8_chillIfCut_31 rfl (by decide) rfl ?_
  refine eR_aldn_0 dX8_chillIfCut_32 rfl ?_
  refine eR_getR (i := t) dX8_chillIfCut_33 gf_X8_57 th_0 rfl ?_
  refine eR_ildn_2 dX8_chillIfCut_36 rfl ?_
  refine eR_putI dX8_chillIfCut_37 pf_X8_108 T.1 rfl ?_
  refine eR_ildn_3 dX8_chillIfCut_40 rfl ?_
  refine eR_iret dX8_chillIfCut_41 rfl rfl ?_
  refine k _ (fun a q => ?_)
  by_cases hat : a = t
  · subst hat
    funext i
    by_cases hi : i = 5
    · subst hi; rw [hU_s]; exact V.2.2.2.2.1.symm
    · rw [hU_i _ _ _ hi, O2 a (by omega), hU_i _ _ _ hi]
  · rw [hU_a _ _ _ hat, O2 a (by omega), hU_a _ _ _ hat]
theorem ct_gain (T : isTn (tau t s) t) (B : sB S) (V : cV h t S) (h38 : 38 ≤ t) {c : Int} (hr_c : rg c) (k : ∀ h1 : PH, ofR 3 38 h h1 → Q (.int (zI (rGain S c))) (tau t s) h1) : eX g 6 mX8_gain 0 (lv_args 0 [.ref (gA g 0), .int (zI c)]) [] (tau t s) h Q := by
  show eX g 6 mX8_gain 0 [(0, .ref (gA g 0)), (1, .int (zI c))] [] (tau t s) h Q
  have hP8 := B.1
  have hC8 := B.2.1
  have hE10 := B.2.2.1
  have hF99 := B.2.2.2.2.2.2.1
  by_cases hq1 : 0 ≤ c ∧ c ≤ ↑(sC S) - 1
  · obtain ⟨cn, rfl⟩ : ∃ cn : Nat, c = (cn : Int) := ⟨c.toNat, by omega⟩
    have hd9 := dyC_rg B 24
    have hd8 := dyC_rg (sB_setK B (cut_lt B (c := cn) (by omega))) 24
    have hg9 : gnN S cn = dyC S 24 - dyC (setK S (sK S ||| 2 ^ cn)) 24 := rfl
    refine eR_aldn_0 dX8_gain_0 rfl ?_
    refine eR_getR (i := t) dX8_gain_1 gf_X8_57 th_0 rfl ?_
    refine eR_ildn_1 dX8_gain_4 rfl ?_
    refine eR_callVi [_] rfl dX8_gain_5 ok_mX6_hasCoat kw_608 rfl rfl T.1 rfl (Nat.le_of_ble_eq_true rfl) (d' := 0) (by decide) (Nat.le_of_ble_eq_true rfl) ?_
    refine tn_hasCoat T B V (by first | assumption | (unfold rg; omega)) ?_
    refine eR_if_ne (tgt := 14) dX8_gain_8 (by decide) (by first | assumption | exact rg_b01 _ | (unfold rg; omega) | (unfold rg at *; omega)) (fun c8 => ?_) (fun c8 => absurd c8 (by first | simp [b01, hq1] | (rw [b01_t hq1]; decide)))
    refine eR_aldn_0 dX8_gain_14 rfl ?_
    refine eR_getR (i := t) dX8_gain_15 gf_X8_57 th_0 rfl ?_
    refine eR_ildn_1 dX8_gain_18 rfl ?_
    refine eR_callVi [_] rfl dX8_gain_19 ok_mX6_isCut kw_613 rfl rfl T.1 rfl (Nat.le_of_ble_eq_true rfl) (d' := 0) (by decide) (Nat.le_of_ble_eq_true rfl) ?_
    refine tn_isCut (c := cn) T B V (by omega) ?_
    refine eR_if_eq (tgt := 28) dX8_gain_22 (by decide) (by first | assumption | exact rg_b01 _ | (unfold rg; omega) | (unfold rg at *; omega)) (fun c22 => ?_) (fun c22 => ?_)
    · replace c22 := b01_eq0.mp c22
      refine eR_aldn_0 dX8_gain_28 rfl ?_
      refine eR_getR (i := 3) dX8_gain_29 gf_X8_19 th_0 rfl ?_
      refine eR_aldn_0 dX8_gain_32 rfl ?_
      refine eR_getR (i := t) dX8_gain_33 gf_X8_57 th_0 rfl ?_
      refine eR_callVi [_] rfl dX8_gain_36 ok_mX7_chillOfDay kw_527 rfl rfl th_3 rfl (Nat.le_of_ble_eq_true rfl) (d' := 4) (by decide) (Nat.le_of_ble_eq_true rfl) ?_
      refine wd_chillOfDay T B V h38 (fun h7_ Oh7_ => ?_)
      have Fh7_ : ofR 3 38 h h7_ := ofR_tr (ofR_rf 3 38 h) (ofR_mono Oh7_ (by omega))
      have Vh7_ : cV h7_ t S := cV_R B V Fh7_ (by omega)
      refine eR_aldn_0 dX8_gain_39 rfl ?_
      refine eR_ildn_1 dX8_gain_40 rfl ?_
      refine eR_callVi [_] rfl dX8_gain_41 ok_mX8_chillIfCut kw_760 rfl rfl th_0 rfl (Nat.le_of_ble_eq_true rfl) (d' := 5) (by decide) (Nat.le_of_ble_eq_true rfl) ?_
      refine ct_ifCut (c := cn) T B Vh7_ h38 (by omega) (fun h8_ Oh8_ => ?_)
      have Fh8_ : ofR 3 38 h h8_ := ofR_tr Fh7_ (Oh8_)
      have Vh8_ : cV h8_ t S := cV_R B V Fh8_ (by omega)
      refine eR_isub dX8_gain_44 ?_
      refine eX_pcI (show ((dyC S 24) - (dyC (setK S (sK S ||| 2 ^ cn)) 24) : Int) = gnN S cn from rfl) ?_
      refine eR_iret dX8_gain_45 rfl rfl ?_
      have k9 := k h8_ Fh8_
      rw [show (rGain S ↑cn : Int) = gnN S cn from by unfold rGain; (try simp only [Int.toNat_natCast]); (repeat' split) <;> first | omega | rfl | simp_all] at k9
      exact k9
    · replace c22 := b01_ne0.mp c22
      refine eR_ldc (z := -1000000003) dX8_gain_25 kw_663 (by decide) ?_
      refine eR_iret dX8_gain_27 rfl rfl ?_
      have k9 := k h (ofR_rf 3 38 h)
      rw [show (rGain S ↑cn : Int) = (-1000000003) from by unfold rGain; (try simp only [Int.toNat_natCast]); (repeat' split) <;> first | omega | rfl | simp_all] at k9
      exact k9
  · refine eR_aldn_0 dX8_gain_0 rfl ?_
    refine eR_getR (i := t) dX8_gain_1 gf_X8_57 th_0 rfl ?_
    refine eR_ildn_1 dX8_gain_4 rfl ?_
    refine eR_callVi [_] rfl dX8_gain_5 ok_mX6_hasCoat kw_608 rfl rfl T.1 rfl (Nat.le_of_ble_eq_true rfl) (d' := 0) (by decide) (Nat.le_of_ble_eq_true rfl) ?_
    refine tn_hasCoat T B V (by first | assumption | (unfold rg; omega)) ?_
    refine eR_if_ne (tgt := 14) dX8_gain_8 (by decide) (by first | assumption | exact rg_b01 _ | (unfold rg; omega) | (unfold rg at *; omega)) (fun c8 => absurd c8 (by first | (simp [b01, hq1]; done) | (rw [b01_f hq1]; decide))) (fun c8 => ?_)
    refine eR_ldc (z := -1000000001) dX8_gain_11 kw_612 (by decide) ?_
    refine eR_iret dX8_gain_13 rfl rfl ?_
    have k9 := k h (ofR_rf 3 38 h)
    rw [show (rGain S c : Int) = (-1000000001) from by unfold rGain; (try simp only [Int.toNat_natCast]); (repeat' split) <;> first | omega | rfl | simp_all] at k9
    exact k9
theorem cl_best (T : isTn (tau t s) t) (B : sB S) (V : cV h t S) (h38 : 38 ≤ t) (k : ∀ h1 : PH, ofR 3 38 h h1 → Q (.int (zI (bsN S (sC S)).1)) (tau t s) h1) : ∀ n c, c + n = sC S → ∀ h1 : PH, ofR 3 38 h h1 → ∀ l9 : Int, rg l9 → (0 ≤ (bsN S c).1 → l9 = dyC S 24 - (bsN S c).2) → eX g 6 mX8_best 6 [(0, .ref (gA g 0)), (1, .int (zI (bsN S c).1)), (2, .int (zI l9)), (3, .int (zI ↑c))] [] (tau t s) h1 Q := by
  have hP8 := B.1
  have hC8 := B.2.1
  have hE10 := B.2.2.1
  have hF99 := B.2.2.2.2.2.2.1
  have hd9 := dyC_rg B 24
  intro n
  induction n with
  | zero =>
    intro c hc h1 F1 l9 hl hb
    have V1 : cV h1 t S := cV_R B V F1 (by omega)
    have hb9 := bsN_rg B c (by omega)
    refine eR_ildn_3 dX8_best_6 rfl ?_
    refine eR_aldn_0 dX8_best_7 rfl ?_
    refine eR_getR (i := t) dX8_best_8 gf_X8_57 th_0 rfl ?_
    refine eR_getI dX8_best_11 gf_X8_93 T.1 rfl ?_
    refine eX_pcI (V1.2.1) ?_
    refine eR_icmp_ge (tgt := 57) dX8_best_14 (by decide) (by first | exact rg_b01 _ | (unfold rg; omega)) (by first | exact rg_b01 _ | (unfold rg; omega)) (fun c14 => ?_) (fun c14 => absurd c14 (by omega))
    refine eR_ildn_1 dX8_best_57 rfl ?_
    refine eR_iret dX8_best_58 rfl rfl ?_
    have e9 : c = sC S := by omega
    subst e9
    exact k h1 F1
  | succ n ih =>
    intro c hc h1 F1 l9 hl hb
    have V1 : cV h1 t S := cV_R B V F1 (by omega)
    have hb9 := bsN_rg B c (by omega)
    have hd8 := dyC_rg (sB_setK B (cut_lt B (c := c) (by omega))) 24
    have hg9 : gnN S c = dyC S 24 - dyC (setK S (sK S ||| 2 ^ c)) 24 := rfl
    refine eR_ildn_3 dX8_best_6 rfl ?_
    refine eR_aldn_0 dX8_best_7 rfl ?_
    refine eR_getR (i := t) dX8_best_8 gf_X8_57 th_0 rfl ?_
    refine eR_getI dX8_best_11 gf_X8_93 T.1 rfl ?_
    refine eX_pcI (V1.2.1) ?_
    refine eR_icmp_ge (tgt := 57) dX8_best_14 (by decide) (by first | assumption | exact rg_b01 _ | (unfold rg; omega) | (unfold rg at *; omega)) (by first | assumption | exact rg_b01 _ | (unfold rg; omega) | (unfold rg at *; omega)) (fun c14 => absurd c14 (by omega)) (fun c14 => ?_)
    refine eR_aldn_0 dX8_best_17 rfl ?_
    refine eR_getR (i := t) dX8_best_18 gf_X8_57 th_0 rfl ?_
    refine eR_ildn_3 dX8_best_21 rfl ?_
    refine eR_callVi [_] rfl dX8_best_22 ok_mX6_isCut kw_613 rfl rfl T.1 rfl (Nat.le_of_ble_eq_true rfl) (d' := 0) (by decide) (Nat.le_of_ble_eq_true rfl) ?_
    refine tn_isCut (c := c) T B V1 (by omega) ?_
    refine eR_if_ne (tgt := 51) dX8_best_25 (by decide) (by first | assumption | exact rg_b01 _ | (unfold rg; omega) | (unfold rg at *; omega)) (fun c25 => ?_) (fun c25 => ?_)
    · replace c25 := b01_ne0.mp c25
      refine eR_iinc_3 dX8_best_51 (by decide) rfl ?_
      refine eR_goto (tgt := 6) dX8_best_54 (by decide) ?_
      have e9 : bsN S (c + 1) = bsN S c := if_neg (fun q => q.1 c25)
      have e8 := ih (c + 1) (by omega) h1 F1 l9 hl (by rw [e9]; exact hb)
      rw [e9] at e8
      exact e8
    · replace c25 := b01_eq0.mp c25
      refine eR_aldn_0 dX8_best_28 rfl ?_
      refine eR_ildn_3 dX8_best_29 rfl ?_
      refine eR_callVi [_] rfl dX8_best_30 ok_mX8_chillIfCut kw_760 rfl rfl th_0 rfl (Nat.le_of_ble_eq_true rfl) (d' := 5) (by decide) (Nat.le_of_ble_eq_true rfl) ?_
      refine ct_ifCut (c := c) T B V1 h38 (by omega) (fun h2 O2 => ?_)
      refine eR_ist_n4 dX8_best_33 (by decide) rfl ?_
      refine eR_ildn_1 dX8_best_35 rfl ?_
      refine eR_ic dX8_best_36 ?_
      refine eR_icmp_eq (tgt := 46) dX8_best_37 (by decide) (by first | assumption | exact rg_b01 _ | (unfold rg; omega) | (unfold rg at *; omega)) (by first | assumption | exact rg_b01 _ | (unfold rg; omega) | (unfold rg at *; omega)) (fun c37 => ?_) (fun c37 => ?_)
      · refine eR_ildn_3 dX8_best_46 rfl ?_
        refine eR_istn_1 dX8_best_47 rfl (by decide) rfl ?_
        refine eR_ild_4 dX8_best_48 ?_
        refine eR_istn_2 dX8_best_50 rfl (by decide) rfl ?_
        refine eR_iinc_3 dX8_best_51 (by decide) rfl ?_
        refine eR_goto (tgt := 6) dX8_best_54 (by decide) ?_
        refine eX_lv (lv2 := List.take 4 _) (fun q hq => List.mem_of_mem_take hq) ?_
        have e9 : bsN S (c + 1) = ((c : Int), gnN S c) := if_pos ⟨c25, by omega⟩
        have e8 := ih (c + 1) (by omega) h2 (ofR_tr F1 O2) (dyC (setK S (sK S ||| 2 ^ c)) 24) (by unfold rg; omega) (by rw [e9]; intro _; show _ = dyC S 24 - gnN S c; omega)
        rw [e9] at e8
        exact e8
      · refine eR_ild_4 dX8_best_40 ?_
        refine eR_ildn_2 dX8_best_42 rfl ?_
        refine eR_icmp_ge (tgt := 51) dX8_best_43 (by decide) (by first | assumption | exact rg_b01 _ | (unfold rg; omega) | (unfold rg at *; omega)) (by first | assumption | exact rg_b01 _ | (unfold rg; omega) | (unfold rg at *; omega)) (fun c43 => ?_) (fun c43 => ?_)
        · refine eR_iinc_3 dX8_best_51 (by decide) rfl ?_
          refine eR_goto (tgt := 6) dX8_best_54 (by decide) ?_
          refine eX_lv (lv2 := List.take 4 _) (fun q hq => List.mem_of_mem_take hq) ?_
          have e9 : bsN S (c + 1) = bsN S c := if_neg (by rintro ⟨q1, q2⟩; omega)
          have e8 := ih (c + 1) (by omega) h2 (ofR_tr F1 O2) l9 hl (by rw [e9]; exact hb)
          rw [e9] at e8
          exact e8
        · refine eR_ildn_3 dX8_best_46 rfl ?_
          refine eR_istn_1 dX8_best_47 rfl (by decide) rfl ?_
          refine eR_ild_4 dX8_best_48 ?_
          refine eR_istn_2 dX8_best_50 rfl (by decide) rfl ?_
          refine eR_iinc_3 dX8_best_51 (by decide) rfl ?_
          refine eR_goto (tgt := 6) dX8_best_54 (by decide) ?_
          refine eX_lv (lv2 := List.take 4 _) (fun q hq => List.mem_of_mem_take hq) ?_
          have e9 : bsN S (c + 1) = ((c : Int), gnN S c) := if_pos ⟨c25, by omega⟩
          have e8 := ih (c + 1) (by omega) h2 (ofR_tr F1 O2) (dyC (setK S (sK S ||| 2 ^ c)) 24) (by unfold rg; omega) (by rw [e9]; intro _; show _ = dyC S 24 - gnN S c; omega)
          rw [e9] at e8
          exact e8
theorem ct_best (T : isTn (tau t s) t) (B : sB S) (V : cV h t S) (h38 : 38 ≤ t) (k : ∀ h1 : PH, ofR 3 38 h h1 → Q (.int (zI (bsN S (sC S)).1)) (tau t s) h1) : eX g 6 mX8_best 0 (lv_args 0 [.ref (gA g 0)]) [] (tau t s) h Q := by
  show eX g 6 mX8_best 0 [(0, .ref (gA g 0))] [] (tau t s) h Q
  refine eR_ic dX8_best_0 ?_
  refine eR_istn_n1 dX8_best_1 rfl (by decide) rfl ?_
  refine eR_ic dX8_best_2 ?_
  refine eR_istn_n2 dX8_best_3 rfl (by decide) rfl ?_
  refine eR_ic dX8_best_4 ?_
  refine eR_istn_n3 dX8_best_5 rfl (by decide) rfl ?_
  exact cl_best T B V h38 k (sC S) 0 (by omega) h (ofR_rf _ _ h) 0 (by unfold rg; omega) (fun q => absurd q (show ¬ (0 : Int) ≤ -1 by decide))
theorem ct_most (T : isTn (tau t s) t) (B : sB S) (V : cV h t S) (h38 : 38 ≤ t) (k : ∀ (r : Nat) (h1 : PH), ofR 3 38 h h1 → isMst S r → Q (.int (zI ↑r)) (tau t s) h1) : eX g 3 mX8_most 0 (lv_args 0 [.ref (gA g 0)]) [] (tau t s) h Q := by
  show eX g 3 mX8_most 0 [(0, .ref (gA g 0))] [] (tau t s) h Q
  refine eR_aldn_0 dX8_most_0 rfl ?_
  refine eR_getR (i := 34) dX8_most_1 gf_X8_26 th_0 rfl ?_
  refine eR_aldn_0 dX8_most_4 rfl ?_
  refine eR_getR (i := t) dX8_most_5 gf_X8_57 th_0 rfl ?_
  refine eR_callVi [_] rfl dX8_most_8 ok_mX3_mostErrands kw_735 rfl rfl th_34 rfl (Nat.le_of_ble_eq_true rfl) (d' := 2) (by decide) (Nat.le_of_ble_eq_true rfl) ?_
  refine pt_most T B V h38 (fun r9 h2 O2 hr9 => ?_)
  have hr8 := hr9.1
  have e2 : 2 ^ sE S ≤ 2 ^ 10 := Nat.pow_le_pow_right (by omega) B.2.2.1
  refine eR_iret dX8_most_11 rfl rfl ?_
  exact k r9 h2 (ofR_mono O2 (by omega)) hr9
theorem cl_swap (T : isTn (tau t s) t) : ∀ (f n : Nat) (S : TS) (h : PH), n + f = 50 → sB S → cV h t S → (∀ h2 : PH, ofR t (t + 41) h h2 → cV h2 t (swIt f S n).2 → sB (swIt f S n).2 → Q (.int (zI ↑(swIt f S n).1)) (tau t s) h2) → eX g 4 mX8_swap 2 [(0, .ref (gA g 0)), (1, .int (zI ↑n))] [] (tau t s) h Q := by
  intro f
  induction f with
  | zero =>
    intro n S h hn B V k
    refine eR_ildn_1 dX8_swap_2 rfl ?_
    refine eR_bi (z := 50) dX8_swap_3 rfl ?_
    refine eR_icmp_ge (tgt := 24) dX8_swap_5 (by decide) (by first | exact rg_b01 _ | (unfold rg; omega)) (by first | exact rg_b01 _ | (unfold rg; omega)) (fun c5 => ?_) (fun c5 => absurd c5 (by omega))
    refine eR_ildn_1 dX8_swap_24 rfl ?_
    refine eR_iret dX8_swap_25 rfl rfl ?_
    exact k h (ofR_rf _ _ h) V B
  | succ f ih =>
    intro n S h hn B V k
    refine eR_ildn_1 dX8_swap_2 rfl ?_
    refine eR_bi (z := 50) dX8_swap_3 rfl ?_
    refine eR_icmp_ge (tgt := 24) dX8_swap_5 (by decide) (by first | exact rg_b01 _ | (unfold rg; omega)) (by first | exact rg_b01 _ | (unfold rg; omega)) (fun c5 => absurd c5 (by omega)) (fun c5 => ?_)
    refine eR_aldn_0 dX8_swap_8 rfl ?_
    refine eR_getR (i := t) dX8_swap_9 gf_X8_57 th_0 rfl ?_
    refine eR_callSi [_] rfl dX8_swap_12 ok_mX1_swapFirst kw_715 rfl rfl (Nat.le_of_ble_eq_true rfl) (d' := 3) (by decide) (Nat.le_of_ble_eq_true rfl) ?_
    refine tn_swapFirst T B V (fun hg => ?_) (fun S2 h2 hg O2 V2 B2 => ?_)
    · refine eR_if_eq (tgt := 24) dX8_swap_15 (by decide) (by first | exact rg_b01 _ | (unfold rg; omega)) (fun c15 => ?_) (fun c15 => absurd c15 (by decide))
      refine eR_ildn_1 dX8_swap_24 rfl ?_
      refine eR_iret dX8_swap_25 rfl rfl ?_
      rw [swIt_n hg] at k
      exact k h (ofR_rf _ _ h) V B
    · refine eR_if_eq (tgt := 24) dX8_swap_15 (by decide) (by first | exact rg_b01 _ | (unfold rg; omega)) (fun c15 => absurd c15 (by decide)) (fun c15 => ?_)
      refine eR_iinc_1 dX8_swap_18 (by decide) rfl ?_
      refine eR_goto (tgt := 2) dX8_swap_21 (by decide) ?_
      rw [swIt_y hg] at k
      exact ih (n + 1) S2 h2 (by omega) B2 V2 (fun h3 f3 => k h3 (ofR_tr (ofR_mono O2 (by omega)) f3))
theorem ct_swap (T : isTn (tau t s) t) (B : sB S) (V : cV h t S) (k : ∀ h2 : PH, ofR t (t + 41) h h2 → cV h2 t (swIt 50 S 0).2 → sB (swIt 50 S 0).2 → Q (.int (zI ↑(swIt 50 S 0).1)) (tau t s) h2) : eX g 4 mX8_swap 0 (lv_args 0 [.ref (gA g 0)]) [] (tau t s) h Q := by
  show eX g 4 mX8_swap 0 [(0, .ref (gA g 0))] [] (tau t s) h Q
  refine eR_ic dX8_swap_0 ?_
  refine eR_istn_n1 dX8_swap_1 rfl (by decide) rfl ?_
  exact cl_swap T 50 0 S h (by omega) B V k
theorem ct_sell (T : isTn (tau t s) t) (B : sB S) (V : cV h t S) (h38 : 38 ≤ t) {c : Int} (hr_c : rg c) {sl : Int} (hr_sl : rg sl) {p : Int} (hr_p : rg p) (k : ∀ h2 : PH, ofR t (t + 41) h h2 → cV h2 t (sSell S c sl p) → Q (.int (zI (rSell S c sl p))) (tau t s) h2) : eX g 2 mX8_sell 0 (lv_args 0 [.ref (gA g 0), .int (zI c), .int (zI sl), .int (zI p)]) [] (tau t s) h Q := by
  show eX g 2 mX8_sell 0 [(0, .ref (gA g 0)), (1, .int (zI c)), (2, .int (zI sl)), (3, .int (zI p))] [] (tau t s) h Q
  have hP8 := B.1
  have hC8 := B.2.1
  have hE10 := B.2.2.1
  have hF99 := B.2.2.2.2.2.2.1
  by_cases hq1 : 0 ≤ c ∧ c ≤ ↑(sC S) - 1
  · obtain ⟨cn, rfl⟩ : ∃ cn : Nat, c = (cn : Int) := ⟨c.toNat, by omega⟩
    by_cases hq2 : 0 ≤ p ∧ p ≤ ↑(sP S) - 1
    · obtain ⟨pn, rfl⟩ : ∃ pn : Nat, p = (pn : Int) := ⟨p.toNat, by omega⟩
      by_cases hq3 : 0 ≤ sl ∧ sl ≤ 1
      · obtain ⟨sn, rfl⟩ : ∃ sn : Nat, sl = (sn : Int) := ⟨sl.toNat, by omega⟩
        have ho9 := B.2.2.2.1 cn (by omega)
        have ho8 := sO_lt B (c := cn) (k := sn) (by omega) (by omega)
        refine eR_aldn_0 dX8_sell_0 rfl ?_
        refine eR_getR (i := t) dX8_sell_1 gf_X8_57 th_0 rfl ?_
        refine eR_ildn_1 dX8_sell_4 rfl ?_
        refine eR_callVi [_] rfl dX8_sell_5 ok_mX6_hasCoat kw_608 rfl rfl T.1 rfl (Nat.le_of_ble_eq_true rfl) (d' := 0) (by decide) (Nat.le_of_ble_eq_true rfl) ?_
        refine tn_hasCoat T B V (by first | assumption | (unfold rg; omega)) ?_
        refine eR_if_eq (tgt := 22) dX8_sell_8 (by decide) (by first | assumption | exact rg_b01 _ | (unfold rg; omega) | (unfold rg at *; omega)) (fun c8 => absurd c8 (by first | simp [b01, hq1] | (rw [b01_t hq1]; decide))) (fun c8 => ?_)
        refine eR_aldn_0 dX8_sell_11 rfl ?_
        refine eR_getR (i := t) dX8_sell_12 gf_X8_57 th_0 rfl ?_
        refine eR_ildn_3 dX8_sell_15 rfl ?_
        refine eR_callVi [_] rfl dX8_sell_16 ok_mX6_hasPerson kw_622 rfl rfl T.1 rfl (Nat.le_of_ble_eq_true rfl) (d' := 0) (by decide) (Nat.le_of_ble_eq_true rfl) ?_
        refine tn_hasPerson T B V (by first | assumption | (unfold rg; omega)) ?_
        refine eR_if_ne (tgt := 25) dX8_sell_19 (by decide) (by first | assumption | exact rg_b01 _ | (unfold rg; omega) | (unfold rg at *; omega)) (fun c19 => ?_) (fun c19 => absurd c19 (by first | simp [b01, hq2] | (rw [b01_t hq2]; decide)))
        refine eR_ildn_2 dX8_sell_25 rfl ?_
        refine eR_if_lt (tgt := 34) dX8_sell_26 (by decide) (by first | assumption | exact rg_b01 _ | (unfold rg; omega) | (unfold rg at *; omega)) (fun c26 => ?_) (fun c26 => ?_)
        · refine eR_ldc (z := -1000000002) dX8_sell_34 kw_349 (by decide) ?_
          refine eR_iret dX8_sell_36 rfl rfl ?_
          have e8 : sSell S ↑cn ↑sn ↑pn = S := if_neg (by rintro ⟨q1, q2, q3, q4⟩; (try simp only [Int.toNat_natCast] at q4); first | contradiction | omega)
          have k9 := k h (ofR_rf _ _ h) (by rw [e8]; exact V)
          rw [show (rSell S ↑cn ↑sn ↑pn : Int) = (-1000000002) from by unfold rSell; (try simp only [Int.toNat_natCast]); (repeat' split) <;> first | omega | rfl | simp_all] at k9
          exact k9
        · refine eR_ildn_2 dX8_sell_29 rfl ?_
          refine eR_ic dX8_sell_30 ?_
          refine eR_icmp_le (tgt := 37) dX8_sell_31 (by decide) (by first | assumption | exact rg_b01 _ | (unfold rg; omega) | (unfold rg at *; omega)) (by first | assumption | exact rg_b01 _ | (unfold rg; omega) | (unfold rg at *; omega)) (fun c31 => ?_) (fun c31 => ?_)
          · refine eR_aldn_0 dX8_sell_37 rfl ?_
            refine eR_getR (i := t) dX8_sell_38 gf_X8_57 th_0 rfl ?_
            refine eR_ildn_1 dX8_sell_41 rfl ?_
            refine eR_ildn_2 dX8_sell_42 rfl ?_
            refine eR_ildn_3 dX8_sell_43 rfl ?_
            refine eR_callVi [_, _, _] rfl dX8_sell_44 ok_mX6_maySell kw_659 rfl rfl T.1 rfl (Nat.le_of_ble_eq_true rfl) (d' := 1) (by decide) (Nat.le_of_ble_eq_true rfl) ?_
            refine tn_maySell (c := cn) (p := pn) T B V (by omega) (by omega) ?_
            refine eR_if_ne (tgt := 53) dX8_sell_47 (by decide) (by first | assumption | exact rg_b01 _ | (unfold rg; omega) | (unfold rg at *; omega)) (fun c47 => ?_) (fun c47 => ?_)
            · replace c47 := b01_ne0.mp c47
              refine eR_aldn_0 dX8_sell_53 rfl ?_
              refine eR_getR (i := t) dX8_sell_54 gf_X8_57 th_0 rfl ?_
              refine eR_getR (i := t + 1) dX8_sell_57 gf_X8_125 T.1 rfl ?_
              refine eR_ildn_1 dX8_sell_60 rfl ?_
              refine eR_aald3 (n := cn) (i := t + 2 + cn) dX8_sell_61 T.2.1 (rfl) (by omega) (by decide) (rowsK_at (by omega)) ?_
              refine eR_ildn_2 dX8_sell_62 rfl ?_
              refine eR_iald (n := sn) dX8_sell_63 (T.2.2.1 cn (by omega)) (rfl) (by omega) (by decide) ?_
              refine eX_pcI (cV_own V (c := cn) (k := sn) (by omega) (by omega)) ?_
              refine eR_ist_n4 dX8_sell_64 (by decide) rfl ?_
              refine eR_aldn_0 dX8_sell_66 rfl ?_
              refine eR_getR (i := t) dX8_sell_67 gf_X8_57 th_0 rfl ?_
              refine eR_getR (i := t + 1) dX8_sell_70 gf_X8_125 T.1 rfl ?_
              refine eR_ildn_1 dX8_sell_73 rfl ?_
              refine eR_aald3 (n := cn) (i := t + 2 + cn) dX8_sell_74 T.2.1 (rfl) (by omega) (by decide) (rowsK_at (by omega)) ?_
              refine eR_ildn_2 dX8_sell_75 rfl ?_
              refine eR_ildn_3 dX8_sell_76 rfl ?_
              refine eR_iast (n := sn) dX8_sell_77 (T.2.2.1 cn (by omega)) (rfl) (by omega) (by decide) ?_
              refine eR_ild_4 dX8_sell_78 ?_
              refine eR_iret dX8_sell_80 rfl rfl ?_
              have hob : okBuy S cn pn := by assumption
              have e8 : sSell S ↑cn ↑sn ↑pn = setO S cn sn pn := if_pos ⟨hq1, hq2, hq3, hob⟩
              have k9 := k (hU h (t + 2 + cn) sn ↑pn) (ofR_w (ofR_rf t (t + 41) h) (by omega)) (by rw [e8]; exact cV_setO B V (by omega) (by omega))
              rw [show (rSell S ↑cn ↑sn ↑pn : Int) = ↑(sO S cn sn) from by unfold rSell; rw [if_pos hq1, if_pos hq2, if_pos hq3]; exact if_pos hob] at k9
              exact k9
            · replace c47 := b01_eq0.mp c47
              refine eR_ldc (z := -1000000003) dX8_sell_50 kw_663 (by decide) ?_
              refine eR_iret dX8_sell_52 rfl rfl ?_
              have e8 : sSell S ↑cn ↑sn ↑pn = S := if_neg (by rintro ⟨q1, q2, q3, q4⟩; (try simp only [Int.toNat_natCast] at q4); first | contradiction | omega)
              have k9 := k h (ofR_rf _ _ h) (by rw [e8]; exact V)
              rw [show (rSell S ↑cn ↑sn ↑pn : Int) = (-1000000003) from by unfold rSell; (try simp only [Int.toNat_natCast]); (repeat' split) <;> first | omega | rfl | simp_all] at k9
              exact k9
          · refine eR_ldc (z := -1000000002) dX8_sell_34 kw_349 (by decide) ?_
            refine eR_iret dX8_sell_36 rfl rfl ?_
            have e8 : sSell S ↑cn ↑sn ↑pn = S := if_neg (by rintro ⟨q1, q2, q3, q4⟩; (try simp only [Int.toNat_natCast] at q4); first | contradiction | omega)
            have k9 := k h (ofR_rf _ _ h) (by rw [e8]; exact V)
            rw [show (rSell S ↑cn ↑sn ↑pn : Int) = (-1000000002) from by unfold rSell; (try simp only [Int.toNat_natCast]); (repeat' split) <;> first | omega | rfl | simp_all] at k9
            exact k9
      · refine eR_aldn_0 dX8_sell_0 rfl ?_
        refine eR_getR (i := t) dX8_sell_1 gf_X8_57 th_0 rfl ?_
        refine eR_ildn_1 dX8_sell_4 rfl ?_
        refine eR_callVi [_] rfl dX8_sell_5 ok_mX6_hasCoat kw_608 rfl rfl T.1 rfl (Nat.le_of_ble_eq_true rfl) (d' := 0) (by decide) (Nat.le_of_ble_eq_true rfl) ?_
        refine tn_hasCoat T B V (by first | assumption | (unfold rg; omega)) ?_
        refine eR_if_eq (tgt := 22) dX8_sell_8 (by decide) (by first | assumption | exact rg_b01 _ | (unfold rg; omega) | (unfold rg at *; omega)) (fun c8 => absurd c8 (by first | simp [b01, hq1] | (rw [b01_t hq1]; decide))) (fun c8 => ?_)
        refine eR_aldn_0 dX8_sell_11 rfl ?_
        refine eR_getR (i := t) dX8_sell_12 gf_X8_57 th_0 rfl ?_
        refine eR_ildn_3 dX8_sell_15 rfl ?_
        refine eR_callVi [_] rfl dX8_sell_16 ok_mX6_hasPerson kw_622 rfl rfl T.1 rfl (Nat.le_of_ble_eq_true rfl) (d' := 0) (by decide) (Nat.le_of_ble_eq_true rfl) ?_
        refine tn_hasPerson T B V (by first | assumption | (unfold rg; omega)) ?_
        refine eR_if_ne (tgt := 25) dX8_sell_19 (by decide) (by first | assumption | exact rg_b01 _ | (unfold rg; omega) | (unfold rg at *; omega)) (fun c19 => ?_) (fun c19 => absurd c19 (by first | simp [b01, hq2] | (rw [b01_t hq2]; decide)))
        refine eR_ildn_2 dX8_sell_25 rfl ?_
        refine eR_if_lt (tgt := 34) dX8_sell_26 (by decide) (by first | assumption | exact rg_b01 _ | (unfold rg; omega) | (unfold rg at *; omega)) (fun c26 => ?_) (fun c26 => ?_)
        · refine eR_ldc (z := -1000000002) dX8_sell_34 kw_349 (by decide) ?_
          refine eR_iret dX8_sell_36 rfl rfl ?_
          have e8 : sSell S ↑cn sl ↑pn = S := if_neg (by rintro ⟨q1, q2, q3, q4⟩; (try simp only [Int.toNat_natCast] at q4); first | contradiction | omega)
          have k9 := k h (ofR_rf _ _ h) (by rw [e8]; exact V)
          rw [show (rSell S ↑cn sl ↑pn : Int) = (-1000000002) from by unfold rSell; (try simp only [Int.toNat_natCast]); (repeat' split) <;> first | omega | rfl | simp_all] at k9
          exact k9
        · refine eR_ildn_2 dX8_sell_29 rfl ?_
          refine eR_ic dX8_sell_30 ?_
          refine eR_icmp_le (tgt := 37) dX8_sell_31 (by decide) (by first | assumption | exact rg_b01 _ | (unfold rg; omega) | (unfold rg at *; omega)) (by first | assumption | exact rg_b01 _ | (unfold rg; omega) | (unfold rg at *; omega)) (fun c31 => ?_) (fun c31 => ?_)
          · refine eR_aldn_0 dX8_sell_37 rfl ?_
            refine eR_getR (i := t) dX8_sell_38 gf_X8_57 th_0 rfl ?_
            refine eR_ildn_1 dX8_sell_41 rfl ?_
            refine eR_ildn_2 dX8_sell_42 rfl ?_
            refine eR_ildn_3 dX8_sell_43 rfl ?_
            refine eR_callVi [_, _, _] rfl dX8_sell_44 ok_mX6_maySell kw_659 rfl rfl T.1 rfl (Nat.le_of_ble_eq_true rfl) (d' := 1) (by decide) (Nat.le_of_ble_eq_true rfl) ?_
            refine tn_maySell (c := cn) (p := pn) T B V (by omega) (by omega) ?_
            refine eR_if_ne (tgt := 53) dX8_sell_47 (by decide) (by first | assumption | exact rg_b01 _ | (unfold rg; omega) | (unfold rg at *; omega)) (fun c47 => ?_) (fun c47 => ?_)
            · replace c47 := b01_ne0.mp c47
              refine eR_aldn_0 dX8_sell_53 rfl ?_
              refine eR_getR (i := t) dX8_sell_54 gf_X8_57 th_0 rfl ?_
              refine eR_getR (i := t + 1) dX8_sell_57 gf_X8_125 T.1 rfl ?_
              refine eR_ildn_1 dX8_sell_60 rfl ?_
              refine eR_aald3 (n := cn) (i := t + 2 + cn) dX8_sell_61 T.2.1 (rfl) (by omega) (by decide) (rowsK_at (by omega)) ?_
              refine eR_ildn_2 dX8_sell_62 rfl ?_
              refine eR_iald (n := sl.toNat) dX8_sell_63 (T.2.2.1 cn (by omega)) (by omega) (by omega) (by decide) ?_
              refine eR_ist_n4 dX8_sell_64 (by decide) rfl ?_
              refine eR_aldn_0 dX8_sell_66 rfl ?_
              refine eR_getR (i := t) dX8_sell_67 gf_X8_57 th_0 rfl ?_
              refine eR_getR (i := t + 1) dX8_sell_70 gf_X8_125 T.1 rfl ?_
              refine eR_ildn_1 dX8_sell_73 rfl ?_
              refine eR_aald3 (n := cn) (i := t + 2 + cn) dX8_sell_74 T.2.1 (rfl) (by omega) (by decide) (rowsK_at (by omega)) ?_
              refine eR_ildn_2 dX8_sell_75 rfl ?_
              refine eR_ildn_3 dX8_sell_76 rfl ?_
              refine eR_iast (n := sl.toNat) dX8_sell_77 (T.2.2.1 cn (by omega)) (by omega) (by omega) (by decide) ?_
              refine eR_ild_4 dX8_sell_78 ?_
              refine eR_iret dX8_sell_80 rfl rfl ?_
              exact absurd ⟨by omega, by omega⟩ hq3
            · replace c47 := b01_eq0.mp c47
              refine eR_ldc (z := -1000000003) dX8_sell_50 kw_663 (by decide) ?_
              refine eR_iret dX8_sell_52 rfl rfl ?_
              have e8 : sSell S ↑cn sl ↑pn = S := if_neg (by rintro ⟨q1, q2, q3, q4⟩; (try simp only [Int.toNat_natCast] at q4); first | contradiction | omega)
              have k9 := k h (ofR_rf _ _ h) (by rw [e8]; exact V)
              rw [show (rSell S ↑cn sl ↑pn : Int) = (-1000000003) from by unfold rSell; (try simp only [Int.toNat_natCast]); (repeat' split) <;> first | omega | rfl | simp_all] at k9
              exact k9
          · refine eR_ldc (z := -1000000002) dX8_sell_34 kw_349 (by decide) ?_
            refine eR_iret dX8_sell_36 rfl rfl ?_
            have e8 : sSell S ↑cn sl ↑pn = S := if_neg (by rintro ⟨q1, q2, q3, q4⟩; (try simp only [Int.toNat_natCast] at q4); first | contradiction | omega)
            have k9 := k h (ofR_rf _ _ h) (by rw [e8]; exact V)
            rw [show (rSell S ↑cn sl ↑pn : Int) = (-1000000002) from by unfold rSell; (try simp only [Int.toNat_natCast]); (repeat' split) <;> first | omega | rfl | simp_all] at k9
            exact k9
    · refine eR_aldn_0 dX8_sell_0 rfl ?_
      refine eR_getR (i := t) dX8_sell_1 gf_X8_57 th_0 rfl ?_
      refine eR_ildn_1 dX8_sell_4 rfl ?_
      refine eR_callVi [_] rfl dX8_sell_5 ok_mX6_hasCoat kw_608 rfl rfl T.1 rfl (Nat.le_of_ble_eq_true rfl) (d' := 0) (by decide) (Nat.le_of_ble_eq_true rfl) ?_
      refine tn_hasCoat T B V (by first | assumption | (unfold rg; omega)) ?_
      refine eR_if_eq (tgt := 22) dX8_sell_8 (by decide) (by first | assumption | exact rg_b01 _ | (unfold rg; omega) | (unfold rg at *; omega)) (fun c8 => absurd c8 (by first | simp [b01, hq1] | (rw [b01_t hq1]; decide))) (fun c8 => ?_)
      refine eR_aldn_0 dX8_sell_11 rfl ?_
      refine eR_getR (i := t) dX8_sell_12 gf_X8_57 th_0 rfl ?_
      refine eR_ildn_3 dX8_sell_15 rfl ?_
      refine eR_callVi [_] rfl dX8_sell_16 ok_mX6_hasPerson kw_622 rfl rfl T.1 rfl (Nat.le_of_ble_eq_true rfl) (d' := 0) (by decide) (Nat.le_of_ble_eq_true rfl) ?_
      refine tn_hasPerson T B V (by first | assumption | (unfold rg; omega)) ?_
      refine eR_if_ne (tgt := 25) dX8_sell_19 (by decide) (by first | assumption | exact rg_b01 _ | (unfold rg; omega) | (unfold rg at *; omega)) (fun c19 => absurd c19 (by first | (simp [b01, hq2]; done) | (rw [b01_f hq2]; decide))) (fun c19 => ?_)
      refine eR_ldc (z := -1000000001) dX8_sell_22 kw_612 (by decide) ?_
      refine eR_iret dX8_sell_24 rfl rfl ?_
      have e8 : sSell S ↑cn sl p = S := if_neg (by rintro ⟨q1, q2, q3, q4⟩; (try simp only [Int.toNat_natCast] at q4); first | contradiction | omega)
      have k9 := k h (ofR_rf _ _ h) (by rw [e8]; exact V)
      rw [show (rSell S ↑cn sl p : Int) = (-1000000001) from by unfold rSell; (try simp only [Int.toNat_natCast]); (repeat' split) <;> first | omega | rfl | simp_all] at k9
      exact k9
  · refine eR_aldn_0 dX8_sell_0 rfl ?_
    refine eR_getR (i := t) dX8_sell_1 gf_X8_57 th_0 rfl ?_
    refine eR_ildn_1 dX8_sell_4 rfl ?_
    refine eR_callVi [_] rfl dX8_sell_5 ok_mX6_hasCoat kw_608 rfl rfl T.1 rfl (Nat.le_of_ble_eq_true rfl) (d' := 0) (by decide) (Nat.le_of_ble_eq_true rfl) ?_
    refine tn_hasCoat T B V (by first | assumption | (unfold rg; omega)) ?_
    refine eR_if_eq (tgt := 22) dX8_sell_8 (by decide) (by first | assumption | exact rg_b01 _ | (unfold rg; omega) | (unfold rg at *; omega)) (fun c8 => ?_) (fun c8 => absurd c8 (by first | (simp [b01, hq1]; done) | (rw [b01_f hq1]; decide)))
    refine eR_ldc (z := -1000000001) dX8_sell_22 kw_612 (by decide) ?_
    refine eR_iret dX8_sell_24 rfl rfl ?_
    have e8 : sSell S c sl p = S := if_neg (by rintro ⟨q1, q2, q3, q4⟩; (try simp only [Int.toNat_natCast] at q4); first | contradiction | omega)
    have k9 := k h (ofR_rf _ _ h) (by rw [e8]; exact V)
    rw [show (rSell S c sl p : Int) = (-1000000001) from by unfold rSell; (try simp only [Int.toNat_natCast]); (repeat' split) <;> first | omega | rfl | simp_all] at k9
    exact k9
theorem ct_cut (T : isTn (tau t s) t) (B : sB S) (V : cV h t S) (h38 : 38 ≤ t) {c : Int} (hr_c : rg c) (k : ∀ h2 : PH, ofR t (t + 41) h h2 → cV h2 t (sCut S c) → Q (.int (zI (rCut S c))) (tau t s) h2) : eX g 1 mX8_cut 0 (lv_args 0 [.ref (gA g 0), .int (zI c)]) [] (tau t s) h Q := by
  show eX g 1 mX8_cut 0 [(0, .ref (gA g 0)), (1, .int (zI c))] [] (tau t s) h Q
  have hP8 := B.1
  have hC8 := B.2.1
  have hE10 := B.2.2.1
  have hF99 := B.2.2.2.2.2.2.1
  by_cases hq1 : 0 ≤ c ∧ c ≤ ↑(sC S) - 1
  · obtain ⟨cn, rfl⟩ : ∃ cn : Nat, c = (cn : Int) := ⟨c.toNat, by omega⟩
    have hk9 := sB_cut B
    have hl9 : 2 ^ cn ≤ 2 ^ 7 := Nat.pow_le_pow_right (by omega) (by omega)
    refine eR_aldn_0 dX8_cut_0 rfl ?_
    refine eR_getR (i := t) dX8_cut_1 gf_X8_57 th_0 rfl ?_
    refine eR_ildn_1 dX8_cut_4 rfl ?_
    refine eR_callVi [_] rfl dX8_cut_5 ok_mX6_hasCoat kw_608 rfl rfl T.1 rfl (Nat.le_of_ble_eq_true rfl) (d' := 0) (by decide) (Nat.le_of_ble_eq_true rfl) ?_
    refine tn_hasCoat T B V (by first | assumption | (unfold rg; omega)) ?_
    refine eR_if_ne (tgt := 14) dX8_cut_8 (by decide) (by first | assumption | exact rg_b01 _ | (unfold rg; omega) | (unfold rg at *; omega)) (fun c8 => ?_) (fun c8 => absurd c8 (by first | simp [b01, hq1] | (rw [b01_t hq1]; decide)))
    refine eR_aldn_0 dX8_cut_14 rfl ?_
    refine eR_getR (i := t) dX8_cut_15 gf_X8_57 th_0 rfl ?_
    refine eR_ildn_1 dX8_cut_18 rfl ?_
    refine eR_callVi [_] rfl dX8_cut_19 ok_mX6_isCut kw_613 rfl rfl T.1 rfl (Nat.le_of_ble_eq_true rfl) (d' := 0) (by decide) (Nat.le_of_ble_eq_true rfl) ?_
    refine tn_isCut (c := cn) T B V (by omega) ?_
    refine eR_if_eq (tgt := 28) dX8_cut_22 (by decide) (by first | assumption | exact rg_b01 _ | (unfold rg; omega) | (unfold rg at *; omega)) (fun c22 => ?_) (fun c22 => ?_)
    · replace c22 := b01_eq0.mp c22
      refine eR_aldn_0 dX8_cut_28 rfl ?_
      refine eR_getR (i := t) dX8_cut_29 gf_X8_57 th_0 rfl ?_
      refine eR_dup dX8_cut_32 rfl ?_
      refine eR_getI dX8_cut_33 gf_X8_108 T.1 rfl ?_
      refine eX_pcI (V.2.2.2.2.1) ?_
      refine eR_ic dX8_cut_36 ?_
      refine eR_ildn_1 dX8_cut_37 rfl ?_
      refine eR_ishl dX8_cut_38 ?_
      refine eX_pcI (show (zShl 1 ↑cn : Int) = ↑(2 ^ cn : Nat) from by have := zShl_nat (a := 1) (k := cn) (by omega) (by omega); rw [Nat.one_mul] at this; exact this) ?_
      refine eR_ior dX8_cut_39 ?_
      refine eX_pcI (show (zOr ↑(sK S) ↑(2 ^ cn : Nat) : Int) = ↑(sK S ||| 2 ^ cn : Nat) from zOr_nat (by omega) (by omega)) ?_
      refine eR_putI dX8_cut_40 pf_X8_108 T.1 rfl ?_
      refine eR_ic dX8_cut_43 ?_
      refine eR_iret dX8_cut_44 rfl rfl ?_
      have hct : ¬ (sK S).testBit cn = true := by assumption
      have e8 : sCut S ↑cn = setK S (sK S ||| 2 ^ cn) := if_pos ⟨hq1, hct⟩
      have k9 := k (hU h t 5 ↑(sK S ||| 2 ^ cn : Nat)) (ofR_w (ofR_rf t (t + 41) h) (by omega)) (by rw [e8]; exact cV_setK B V _)
      rw [show (rCut S ↑cn : Int) = 1 from by unfold rCut; rw [if_pos hq1]; exact if_neg hct] at k9
      exact k9
    · replace c22 := b01_ne0.mp c22
      refine eR_ldc (z := -1000000003) dX8_cut_25 kw_663 (by decide) ?_
      refine eR_iret dX8_cut_27 rfl rfl ?_
      have e8 : sCut S ↑cn = S := if_neg (by rintro ⟨q1, q2⟩; (try simp only [Int.toNat_natCast] at q2); first | contradiction | omega)
      have k9 := k h (ofR_rf _ _ h) (by rw [e8]; exact V)
      rw [show (rCut S ↑cn : Int) = (-1000000003) from by unfold rCut; (try simp only [Int.toNat_natCast]); (repeat' split) <;> first | omega | rfl | simp_all] at k9
      exact k9
  · refine eR_aldn_0 dX8_cut_0 rfl ?_
    refine eR_getR (i := t) dX8_cut_1 gf_X8_57 th_0 rfl ?_
    refine eR_ildn_1 dX8_cut_4 rfl ?_
    refine eR_callVi [_] rfl dX8_cut_5 ok_mX6_hasCoat kw_608 rfl rfl T.1 rfl (Nat.le_of_ble_eq_true rfl) (d' := 0) (by decide) (Nat.le_of_ble_eq_true rfl) ?_
    refine tn_hasCoat T B V (by first | assumption | (unfold rg; omega)) ?_
    refine eR_if_ne (tgt := 14) dX8_cut_8 (by decide) (by first | assumption | exact rg_b01 _ | (unfold rg; omega) | (unfold rg at *; omega)) (fun c8 => absurd c8 (by first | (simp [b01, hq1]; done) | (rw [b01_f hq1]; decide))) (fun c8 => ?_)
    refine eR_ldc (z := -1000000001) dX8_cut_11 kw_612 (by decide) ?_
    refine eR_iret dX8_cut_13 rfl rfl ?_
    have e8 : sCut S c = S := if_neg (by rintro ⟨q1, q2⟩; (try simp only [Int.toNat_natCast] at q2); first | contradiction | omega)
    have k9 := k h (ofR_rf _ _ h) (by rw [e8]; exact V)
    rw [show (rCut S c : Int) = (-1000000001) from by unfold rCut; (try simp only [Int.toNat_natCast]); (repeat' split) <;> first | omega | rfl | simp_all] at k9
    exact k9
theorem ct_frost (T : isTn (tau t s) t) (B : sB S) (V : cV h t S) (h38 : 38 ≤ t) {v : Int} (hr_v : rg v) (k : ∀ h2 : PH, ofR t (t + 41) h h2 → cV h2 t (sFrost S v) → Q (.int (zI (rFrost S v))) (tau t s) h2) : eX g 0 mX8_frost 0 (lv_args 0 [.ref (gA g 0), .int (zI v)]) [] (tau t s) h Q := by
  show eX g 0 mX8_frost 0 [(0, .ref (gA g 0)), (1, .int (zI v))] [] (tau t s) h Q
  have hP8 := B.1
  have hC8 := B.2.1
  have hE10 := B.2.2.1
  have hF99 := B.2.2.2.2.2.2.1
  by_cases hq1 : 0 ≤ v ∧ v ≤ 99
  · obtain ⟨vn, rfl⟩ : ∃ vn : Nat, v = (vn : Int) := ⟨v.toNat, by omega⟩
    refine eR_ildn_1 dX8_frost_0 rfl ?_
    refine eR_if_lt (tgt := 10) dX8_frost_1 (by decide) (by first | assumption | exact rg_b01 _ | (unfold rg; omega) | (unfold rg at *; omega)) (fun c1 => ?_) (fun c1 => ?_)
    · refine eR_ldc (z := -1000000002) dX8_frost_10 kw_349 (by decide) ?_
      refine eR_iret dX8_frost_12 rfl rfl ?_
      have e8 : sFrost S ↑vn = S := if_neg (by omega)
      have k9 := k h (ofR_rf _ _ h) (by rw [e8]; exact V)
      rw [show (rFrost S ↑vn : Int) = (-1000000002) from if_neg (by omega)] at k9
      exact k9
    · refine eR_ildn_1 dX8_frost_4 rfl ?_
      refine eR_bi (z := 99) dX8_frost_5 rfl ?_
      refine eR_icmp_le (tgt := 13) dX8_frost_7 (by decide) (by first | assumption | exact rg_b01 _ | (unfold rg; omega) | (unfold rg at *; omega)) (by first | assumption | exact rg_b01 _ | (unfold rg; omega) | (unfold rg at *; omega)) (fun c7 => ?_) (fun c7 => ?_)
      · refine eR_aldn_0 dX8_frost_13 rfl ?_
        refine eR_getR (i := t) dX8_frost_14 gf_X8_57 th_0 rfl ?_
        refine eR_getI dX8_frost_17 gf_X8_105 T.1 rfl ?_
        refine eX_pcI (V.2.2.2.1) ?_
        refine eR_istn_n2 dX8_frost_20 rfl (by decide) rfl ?_
        refine eR_aldn_0 dX8_frost_21 rfl ?_
        refine eR_getR (i := t) dX8_frost_22 gf_X8_57 th_0 rfl ?_
        refine eR_ildn_1 dX8_frost_25 rfl ?_
        refine eR_putI dX8_frost_26 pf_X8_105 T.1 rfl ?_
        refine eR_ildn_2 dX8_frost_29 rfl ?_
        refine eR_iret dX8_frost_30 rfl rfl ?_
        have e8 : sFrost S ↑vn = setF S vn := if_pos (by omega)
        have k9 := k (hU h t 4 ↑vn) (ofR_w (ofR_rf t (t + 41) h) (by omega)) (by rw [e8]; exact cV_setF B V _)
        rw [show (rFrost S ↑vn : Int) = ↑(sF S) from if_pos (by omega)] at k9
        exact k9
      · refine eR_ldc (z := -1000000002) dX8_frost_10 kw_349 (by decide) ?_
        refine eR_iret dX8_frost_12 rfl rfl ?_
        have e8 : sFrost S ↑vn = S := if_neg (by omega)
        have k9 := k h (ofR_rf _ _ h) (by rw [e8]; exact V)
        rw [show (rFrost S ↑vn : Int) = (-1000000002) from if_neg (by omega)] at k9
        exact k9
  · refine eR_ildn_1 dX8_frost_0 rfl ?_
    refine eR_if_lt (tgt := 10) dX8_frost_1 (by decide) (by first | assumption | exact rg_b01 _ | (unfold rg; omega) | (unfold rg at *; omega)) (fun c1 => ?_) (fun c1 => ?_)
    · refine eR_ldc (z := -1000000002) dX8_frost_10 kw_349 (by decide) ?_
      refine eR_iret dX8_frost_12 rfl rfl ?_
      have e8 : sFrost S v = S := if_neg (by omega)
      have k9 := k h (ofR_rf _ _ h) (by rw [e8]; exact V)
      rw [show (rFrost S v : Int) = (-1000000002) from if_neg (by omega)] at k9
      exact k9
    · refine eR_ildn_1 dX8_frost_4 rfl ?_
      refine eR_bi (z := 99) dX8_frost_5 rfl ?_
      refine eR_icmp_le (tgt := 13) dX8_frost_7 (by decide) (by first | assumption | exact rg_b01 _ | (unfold rg; omega) | (unfold rg at *; omega)) (by first | assumption | exact rg_b01 _ | (unfold rg; omega) | (unfold rg at *; omega)) (fun c7 => ?_) (fun c7 => ?_)
      · refine eR_aldn_0 dX8_frost_13 rfl ?_
        refine eR_getR (i := t) dX8_frost_14 gf_X8_57 th_0 rfl ?_
        refine eR_getI dX8_frost_17 gf_X8_105 T.1 rfl ?_
        refine eX_pcI (V.2.2.2.1) ?_
        refine eR_istn_n2 dX8_frost_20 rfl (by decide) rfl ?_
        refine eR_aldn_0 dX8_frost_21 rfl ?_
        refine eR_getR (i := t) dX8_frost_22 gf_X8_57 th_0 rfl ?_
        refine eR_ildn_1 dX8_frost_25 rfl ?_
        refine eR_putI dX8_frost_26 pf_X8_105 T.1 rfl ?_
        refine eR_ildn_2 dX8_frost_29 rfl ?_
        refine eR_iret dX8_frost_30 rfl rfl ?_
        exact absurd ⟨by omega, by omega⟩ hq1
      · refine eR_ldc (z := -1000000002) dX8_frost_10 kw_349 (by decide) ?_
        refine eR_iret dX8_frost_12 rfl rfl ?_
        have e8 : sFrost S v = S := if_neg (by omega)
        have k9 := k h (ofR_rf _ _ h) (by rw [e8]; exact V)
        rw [show (rFrost S v : Int) = (-1000000002) from if_neg (by omega)] at k9
        exact k9
end M59
