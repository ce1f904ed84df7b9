section M34
variable {g : EG} {d t s : Nat} {h h1 : PH} {Q : EQ} {T : Nat → Nat} {n : Nat}
theorem sp_takeNumber_f {f : Nat} {lo hi : Int} (Oh : h 205 17 = (f : Int)) (hf : f ≠ 0) (hf1 : f < 10) (k : Q (.int (zI ↑(0 : Nat))) (tau t s) h) : eX g 1 mX9_takeNumber 0 (lv_args 0 [.ref (gA g 205), .int (zI lo), .int (zI hi)]) [] (tau t s) h Q := by
  show eX g 1 mX9_takeNumber 0 [(0, .ref (gA g 205)), (1, .int (zI lo)), (2, .int (zI hi))] [] (tau t s) h Q
  refine eR_aldn_0 dX9_takeNumber_0 rfl ?_
  refine eR_getI dX9_takeNumber_1 gf_X9_85 th_205 rfl ?_
  refine eX_pcI (Oh) ?_
  refine eR_if_le (tgt := 9) dX9_takeNumber_4 (by decide) (by first | exact rg_b01 _ | (unfold rg; omega)) (fun c4 => absurd c4 (by omega)) (fun c4 => ?_)
  refine eR_ic dX9_takeNumber_7 ?_
  refine eR_iret dX9_takeNumber_8 rfl rfl ?_
  exact k
theorem lp_takeNumber (B : tB T n) (Th : mT h T n) {j lo hi : Nat} {c1 : Int} : ∀ m q : Nat, j + q + m = n → (∀ y, y < q → 48 ≤ T (j + y) ∧ T (j + y) ≤ 57) → (k : eX g 1 mX9_takeNumber 128 [(0, .ref (gA g 205)), (1, .int (zI ↑lo)), (2, .int (zI ↑hi)), (3, .int (zI c1)), (4, .int (zI (↑(vD T j (sk isD T n (j + q) - j)))))] [] (tau t s) (hU h 205 14 ↑(sk isD T n (j + q))) Q) → eX g 1 mX9_takeNumber 50 [(0, .ref (gA g 205)), (1, .int (zI ↑lo)), (2, .int (zI ↑hi)), (3, .int (zI c1)), (4, .int (zI ↑(vD T j q)))] [] (tau t s) (hU h 205 14 ↑(j + q)) Q := by
  have hn9 := B.1
  intro m
  induction m with
  | zero =>
    intro q hq hd k
    refine eR_aldn_0 dX9_takeNumber_50 rfl ?_
    refine eR_getI dX9_takeNumber_51 gf_X9_82 th_205 rfl ?_
    refine eX_pcI (hU_s _ _ _ _) ?_
    refine eR_aldn_0 dX9_takeNumber_54 rfl ?_
    refine eR_getI dX9_takeNumber_55 gf_X9_76 th_205 rfl ?_
    refine eX_pcI (hU_i _ _ _ (by decide)) ?_
    refine eX_pcI (Th.1) ?_
    refine eR_icmp_ge (tgt := 128) dX9_takeNumber_58 (by decide) (by first | exact rg_b01 _ | (unfold rg; omega)) (by first | exact rg_b01 _ | (unfold rg; omega)) (fun c58 => ?_) (fun c58 => absurd c58 (by omega))
    have e9 : sk isD T n (j + q) = j + q := by first | exact sk_ne (by omega) | exact sk_nf (isD_f (by omega))
    rw [e9, Nat.add_sub_cancel_left] at k
    exact k
  | succ m ih =>
    intro q hq hd k
    have hb9 := B.2 (j + q) (by omega)
    have hv9 := vD_le q hd
    refine eR_aldn_0 dX9_takeNumber_50 rfl ?_
    refine eR_getI dX9_takeNumber_51 gf_X9_82 th_205 rfl ?_
    refine eX_pcI (hU_s _ _ _ _) ?_
    refine eR_aldn_0 dX9_takeNumber_54 rfl ?_
    refine eR_getI dX9_takeNumber_55 gf_X9_76 th_205 rfl ?_
    refine eX_pcI (hU_i _ _ _ (by decide)) ?_
    refine eX_pcI (Th.1) ?_
    refine eR_icmp_ge (tgt := 128) dX9_takeNumber_58 (by decide) (by first | exact rg_b01 _ | (unfold rg; omega)) (by first | exact rg_b01 _ | (unfold rg; omega)) (fun c58 => absurd c58 (by omega)) (fun c58 => ?_)
    refine eR_aldn_0 dX9_takeNumber_61 rfl ?_
    refine eR_getR (i := 218) dX9_takeNumber_62 gf_X9_47 th_205 rfl ?_
    refine eR_aldn_0 dX9_takeNumber_65 rfl ?_
    refine eR_getI dX9_takeNumber_66 gf_X9_82 th_205 rfl ?_
    refine eX_pcI (hU_s _ _ _ _) ?_
    refine eR_iald (n := (j + q)) dX9_takeNumber_69 th_218 (rfl) (by omega) (by decide) ?_
    refine eX_pcI (congrFun (hU_a _ _ _ (by decide)) _) ?_
    refine eX_pcI (Th.2 (j + q) (by omega)) ?_
    refine eR_i2lz dX9_takeNumber_70 (by first | exact rg_b01 _ | (unfold rg; omega)) ?_
    refine eR_ldc2 (z := 48) dX9_takeNumber_71 kw_992 (by decide) ?_
    refine eR_ldc2 (z := 57) dX9_takeNumber_74 kw_993 (by decide) ?_
    refine eR_callSi [_, _, _] rfl dX9_takeNumber_77 ok_mX9_in kw_952 rfl rfl (Nat.le_of_ble_eq_true rfl) (d' := 0) (by decide) (Nat.le_of_ble_eq_true rfl) ?_
    refine sp_in (by unfold rL; omega) (by unfold rL; omega) (by unfold rL; omega) ?_
    refine eR_if_eq (tgt := 128) dX9_takeNumber_80 (by decide) (by first | exact rg_b01 _ | (unfold rg; omega)) (fun c80 => ?_) (fun c80 => ?_)
    · replace c80 := b01_eq0.mp c80
      have e9 : sk isD T n (j + q) = j + q := by first | exact sk_ne (by omega) | exact sk_nf (isD_f (by omega))
      rw [e9, Nat.add_sub_cancel_left] at k
      exact k
    · replace c80 := b01_ne0.mp c80
      refine eR_ild_4 dX9_takeNumber_83 ?_
      refine eR_ldc (z := 99999) dX9_takeNumber_85 kw_994 (by decide) ?_
      refine eR_icmp_le (tgt := 95) dX9_takeNumber_87 (by decide) (by first | exact rg_b01 _ | (unfold rg; omega)) (by first | exact rg_b01 _ | (unfold rg; omega)) (fun c87 => ?_) (fun c87 => ?_)
      · refine eR_bi (z := 10) dX9_takeNumber_95 rfl ?_
        refine eR_ild_4 dX9_takeNumber_97 ?_
        refine eR_imul dX9_takeNumber_99 ?_
        refine eR_aldn_0 dX9_takeNumber_100 rfl ?_
        refine eR_getR (i := 218) dX9_takeNumber_101 gf_X9_47 th_205 rfl ?_
        refine eR_aldn_0 dX9_takeNumber_104 rfl ?_
        refine eR_getI dX9_takeNumber_105 gf_X9_82 th_205 rfl ?_
        refine eX_pcI (hU_s _ _ _ _) ?_
        refine eR_iald (n := (j + q)) dX9_takeNumber_108 th_218 (rfl) (by omega) (by decide) ?_
        refine eX_pcI (congrFun (hU_a _ _ _ (by decide)) _) ?_
        refine eX_pcI (Th.2 (j + q) (by omega)) ?_
        refine eR_iadd dX9_takeNumber_109 ?_
        refine eR_bi (z := 48) dX9_takeNumber_110 rfl ?_
        refine eR_isub dX9_takeNumber_112 ?_
        refine eR_ist_4 dX9_takeNumber_113 (by decide) rfl ?_
        refine eR_aldn_0 dX9_takeNumber_115 rfl ?_
        refine eR_dup dX9_takeNumber_116 rfl ?_
        refine eR_getI dX9_takeNumber_117 gf_X9_82 th_205 rfl ?_
        refine eX_pcI (hU_s _ _ _ _) ?_
        refine eR_ic dX9_takeNumber_120 ?_
        refine eR_iadd dX9_takeNumber_121 ?_
        refine eR_putI dX9_takeNumber_122 pf_X9_82 th_205 rfl ?_
        refine eR_goto (tgt := 50) dX9_takeNumber_125 (by decide) ?_
        rw [hU_2, show ((↑(j + q) : Int) + 1) = ((j + (q + 1) : Nat) : Int) from rfl]
        have f4 : (((10 * ↑(vD T j q)) + (↑(T (j + q)))) - 48 : Int) = ↑(vD T j (q + 1)) := by rw [vD]; first | rw [if_pos (by omega)] | (rw [if_neg (by omega)]; omega)
        rw [f4]
        have e9 := sk_y (f := isD) (T := T) (n := n) (i := j + q) (by omega) (isD_t (by omega))
        rw [e9] at k
        exact ih (q + 1) (by omega) (fun y hy => by rcases Nat.lt_or_ge y q with q9 | q9; exact hd y q9; rw [show y = q from by omega]; omega) k
      · refine eR_ild_4 dX9_takeNumber_90 ?_
        refine eR_goto (tgt := 113) dX9_takeNumber_92 (by decide) ?_
        refine eR_ist_4 dX9_takeNumber_113 (by decide) rfl ?_
        refine eR_aldn_0 dX9_takeNumber_115 rfl ?_
        refine eR_dup dX9_takeNumber_116 rfl ?_
        refine eR_getI dX9_takeNumber_117 gf_X9_82 th_205 rfl ?_
        refine eX_pcI (hU_s _ _ _ _) ?_
        refine eR_ic dX9_takeNumber_120 ?_
        refine eR_iadd dX9_takeNumber_121 ?_
        refine eR_putI dX9_takeNumber_122 pf_X9_82 th_205 rfl ?_
        refine eR_goto (tgt := 50) dX9_takeNumber_125 (by decide) ?_
        rw [hU_2, show ((↑(j + q) : Int) + 1) = ((j + (q + 1) : Nat) : Int) from rfl]
        have f4 : (↑(vD T j q) : Int) = ↑(vD T j (q + 1)) := by rw [vD]; first | rw [if_pos (by omega)] | (rw [if_neg (by omega)]; omega)
        rw [f4]
        have e9 := sk_y (f := isD) (T := T) (n := n) (i := j + q) (by omega) (isD_t (by omega))
        rw [e9] at k
        exact ih (q + 1) (by omega) (fun y hy => by rcases Nat.lt_or_ge y q with q9 | q9; exact hd y q9; rw [show y = q from by omega]; omega) k
theorem lp_takeNumber0 (B : tB T n) (Th : mT h T n) {j lo hi : Nat} {c1 : Int} (hj : j ≤ n) (Ah : h 205 14 = (j : Int)) (k : eX g 1 mX9_takeNumber 128 [(0, .ref (gA g 205)), (1, .int (zI ↑lo)), (2, .int (zI ↑hi)), (3, .int (zI c1)), (4, .int (zI (↑(vD T j (sk isD T n j - j)))))] [] (tau t s) (hU h 205 14 ↑(sk isD T n j)) Q) : eX g 1 mX9_takeNumber 50 [(0, .ref (gA g 205)), (1, .int (zI ↑lo)), (2, .int (zI ↑hi)), (3, .int (zI c1)), (4, .int (zI 0))] [] (tau t s) h Q := by
  have e6 := lp_takeNumber (g := g) (t := t) (s := s) (Q := Q) (j := j) (lo := lo) (hi := hi) (c1 := c1) B Th (n - j) 0 (by omega) (fun y hy => by omega) (by rw [Nat.add_zero]; exact k)
  rw [Nat.add_zero, hU_idv Ah] at e6
  exact e6
theorem sp_takeNumber (B : tB T n) (Th : mT h T n) {i lo hi : Nat} (hin : i ≤ n) (hlo : lo < 1000) (hhi : hi < 1000) (Ah : h 205 14 = (i : Int)) (Oh : h 205 17 = 0) (kf : ∀ (x : Nat × Nat) (v : Nat) (h1 : PH), num T n lo hi i = .inl x → v < 1000010 → pG h h1 → h1 205 17 = (x.1 : Int) → h1 205 18 = (x.2 : Int) → Q (.int (zI ↑v)) (tau t s) h1) (kk : ∀ (x : Nat × Nat × Nat) (h1 : PH), num T n lo hi i = .inr x → pG h h1 → h1 205 14 = (x.2.2 : Int) → h1 205 15 = (x.2.1 : Int) → h1 205 17 = 0 → h1 205 18 = h 205 18 → Q (.int (zI ↑x.1)) (tau t s) h1) : eX g 1 mX9_takeNumber 0 (lv_args 0 [.ref (gA g 205), .int (zI ↑lo), .int (zI ↑hi)]) [] (tau t s) h Q := by
  show eX g 1 mX9_takeNumber 0 [(0, .ref (gA g 205)), (1, .int (zI ↑lo)), (2, .int (zI ↑hi))] [] (tau t s) h Q
  have hn9 := B.1
  have hj9 := sk_le (f := isB) (T := T) hin
  have hj8 := sk_sp isD T n (n - sk isB T n i) (sk isB T n i) (by omega)
  have hc9 := chZ_rg (j := sk isB T n i) B
  by_cases hd : 48 ≤ chZ T n (sk isB T n i) ∧ chZ T n (sk isB T n i) ≤ 57
  · have hjn : sk isB T n i < n := by
      rcases Nat.lt_or_ge (sk isB T n i) n with q | q
      · exact q
      · rw [chZ_n (by omega)] at hd; omega
    have hd2 := hd
    rw [chZ_y hjn] at hd2
    have hdd := sk_y (f := isD) (T := T) hjn (isD_t (by omega))
    have hj7 := (sk_le (f := isD) (T := T) (n := n) (i := sk isB T n i + 1) (by omega)).1
    have hv9 := vD_le (T := T) (j := sk isB T n i) (sk isD T n (sk isB T n i) - sk isB T n i) (fun x hx => isD_iff.mp (hj8.2.2.2 _ (by omega) (by omega)))
    refine eR_aldn_0 dX9_takeNumber_0 rfl ?_
    refine eR_getI dX9_takeNumber_1 gf_X9_85 th_205 rfl ?_
    refine eX_pcI (Oh) ?_
    refine eR_if_le (tgt := 9) dX9_takeNumber_4 (by decide) (by first | exact rg_b01 _ | (unfold rg; omega)) (fun c4 => ?_) (fun c4 => absurd c4 (by omega))
    refine eR_aldn_0 dX9_takeNumber_9 rfl ?_
    refine eR_callVi [] rfl dX9_takeNumber_10 ok_mX9_here kw_966 rfl rfl th_205 rfl (Nat.le_of_ble_eq_true rfl) (d' := 0) (by decide) (Nat.le_of_ble_eq_true rfl) ?_
    refine sp_here (n := n) (i := i) B Th hin Ah ?_
    refine eR_istn_n3 dX9_takeNumber_13 rfl (by decide) rfl ?_
    refine eR_aldn_0 dX9_takeNumber_14 rfl ?_
    refine eR_aldn_0 dX9_takeNumber_15 rfl ?_
    refine eR_getI dX9_takeNumber_16 gf_X9_82 th_205 rfl ?_
    refine eX_pcI (hU_s _ _ _ _) ?_
    refine eR_putI dX9_takeNumber_19 pf_X9_92 th_205 rfl ?_
    refine eR_aldn_0 dX9_takeNumber_22 rfl ?_
    refine eR_ildn_3 dX9_takeNumber_23 rfl ?_
    refine eR_i2lz dX9_takeNumber_24 (by first | exact rg_b01 _ | (unfold rg; omega)) ?_
    refine eR_ldc2 (z := 48) dX9_takeNumber_25 kw_992 (by decide) ?_
    refine eR_ldc2 (z := 57) dX9_takeNumber_28 kw_993 (by decide) ?_
    refine eR_callSi [_, _, _] rfl dX9_takeNumber_31 ok_mX9_in kw_952 rfl rfl (Nat.le_of_ble_eq_true rfl) (d' := 0) (by decide) (Nat.le_of_ble_eq_true rfl) ?_
    refine sp_in (by unfold rL; omega) (by unfold rL; omega) (by unfold rL; omega) ?_
    refine eX_pcI (show (b01 (48 ≤ (chZ T n (sk isB T n i)) ∧ (chZ T n (sk isB T n i)) ≤ 57) : Int) = 1 from b01_t hd) ?_
    refine eR_ic dX9_takeNumber_34 ?_
    refine eR_aldn_0 dX9_takeNumber_35 rfl ?_
    refine eR_getI dX9_takeNumber_36 gf_X9_82 th_205 rfl ?_
    refine eX_pcI (hU_i _ _ _ (by decide)) ?_
    refine eX_pcI (hU_s _ _ _ _) ?_
    refine eR_callVi [_, _, _] rfl dX9_takeNumber_39 ok_mX9_want kw_984 rfl rfl th_205 rfl (Nat.le_of_ble_eq_true rfl) (d' := 0) (by decide) (Nat.le_of_ble_eq_true rfl) ?_
    refine sp_want_y (nb := 1) (by (repeat rw [hU_i _ _ _ (by decide)]); exact Oh) ?_
    refine eR_if_ne (tgt := 47) dX9_takeNumber_42 (by decide) (by first | exact rg_b01 _ | (unfold rg; omega)) (fun c42 => ?_) (fun c42 => absurd c42 (by decide))
    refine eR_ic dX9_takeNumber_47 ?_
    refine eR_ist_n4 dX9_takeNumber_48 (by decide) rfl ?_
    refine lp_takeNumber0 (j := (sk isB T n i)) B (mT_p Th (pG_w (pG_w (pG_rf h) (by decide) (by decide)) (by decide) (by decide))) (by omega) (by rw [hU_i _ _ _ (by decide), hU_s]) ?_
    refine eR_aldn_0 dX9_takeNumber_128 rfl ?_
    refine eR_aldn_0 dX9_takeNumber_129 rfl ?_
    refine eR_getI dX9_takeNumber_130 gf_X9_82 th_205 rfl ?_
    refine eX_pcI (hU_s _ _ _ _) ?_
    refine eR_aldn_0 dX9_takeNumber_133 rfl ?_
    refine eR_getI dX9_takeNumber_134 gf_X9_92 th_205 rfl ?_
    refine eX_pcI (hU_i _ _ _ (by decide)) ?_
    refine eX_pcI (hU_s _ _ _ _) ?_
    refine eR_isub dX9_takeNumber_137 ?_
    refine eR_ic dX9_takeNumber_138 ?_
    refine eR_icmp_ge (tgt := 159) dX9_takeNumber_139 (by decide) (by first | exact rg_b01 _ | (unfold rg; omega)) (by first | exact rg_b01 _ | (unfold rg; omega)) (fun c139 => ?_) (fun c139 => ?_)
    · refine eR_ic dX9_takeNumber_159 ?_
      refine eR_ic dX9_takeNumber_160 ?_
      refine eR_aldn_0 dX9_takeNumber_161 rfl ?_
      refine eR_getI dX9_takeNumber_162 gf_X9_92 th_205 rfl ?_
      refine eX_pcI (hU_i _ _ _ (by decide)) ?_
      refine eX_pcI (hU_s _ _ _ _) ?_
      refine eR_callVi [_, _, _] rfl dX9_takeNumber_165 ok_mX9_want kw_984 rfl rfl th_205 rfl (Nat.le_of_ble_eq_true rfl) (d' := 0) (by decide) (Nat.le_of_ble_eq_true rfl) ?_
      refine sp_want_n (nb := 2) (by (repeat rw [hU_i _ _ _ (by decide)]); exact Oh) (by decide) (by decide) ?_
      refine eR_ist_n5 dX9_takeNumber_168 (by decide) rfl ?_
      refine eR_ild_4 dX9_takeNumber_170 ?_
      refine eR_iret dX9_takeNumber_172 rfl rfl ?_
      refine kf (2, (sk isB T n i)) (vD T (sk isB T n i) ((sk isD T n (sk isB T n i)) - (sk isB T n i))) _ ?_ hv9 ?_ ?_ ?_
      · unfold num
        rw [if_neg (by omega), if_pos (by omega)]
      · exact pG_w (pG_w (pG_w (pG_w (pG_w (pG_rf h) (by decide) (by decide)) (by decide) (by decide)) (by decide) (by decide)) (by decide) (by decide)) (by decide) (by decide)
      · rw [hU_i _ _ _ (by decide), hU_s]
      · exact hU_s _ _ _ _
    · refine eR_ild_4 dX9_takeNumber_142 ?_
      refine eR_i2lz dX9_takeNumber_144 (by first | exact rg_b01 _ | (unfold rg; omega)) ?_
      refine eR_ildn_1 dX9_takeNumber_145 rfl ?_
      refine eR_i2lz dX9_takeNumber_146 (by first | exact rg_b01 _ | (unfold rg; omega)) ?_
      refine eR_ildn_2 dX9_takeNumber_147 rfl ?_
      refine eR_i2lz dX9_takeNumber_148 (by first | exact rg_b01 _ | (unfold rg; omega)) ?_
      refine eR_callSi [_, _, _] rfl dX9_takeNumber_149 ok_mX9_in kw_952 rfl rfl (Nat.le_of_ble_eq_true rfl) (d' := 0) (by decide) (Nat.le_of_ble_eq_true rfl) ?_
      refine sp_in (by unfold rL; omega) (by unfold rL; omega) (by unfold rL; omega) ?_
      refine eR_if_eq (tgt := 159) dX9_takeNumber_152 (by decide) (by first | exact rg_b01 _ | (unfold rg; omega)) (fun c152 => ?_) (fun c152 => ?_)
      · replace c152 := b01_eq0.mp c152
        refine eR_ic dX9_takeNumber_159 ?_
        refine eR_ic dX9_takeNumber_160 ?_
        refine eR_aldn_0 dX9_takeNumber_161 rfl ?_
        refine eR_getI dX9_takeNumber_162 gf_X9_92 th_205 rfl ?_
        refine eX_pcI (hU_i _ _ _ (by decide)) ?_
        refine eX_pcI (hU_s _ _ _ _) ?_
        refine eR_callVi [_, _, _] rfl dX9_takeNumber_165 ok_mX9_want kw_984 rfl rfl th_205 rfl (Nat.le_of_ble_eq_true rfl) (d' := 0) (by decide) (Nat.le_of_ble_eq_true rfl) ?_
        refine sp_want_n (nb := 2) (by (repeat rw [hU_i _ _ _ (by decide)]); exact Oh) (by decide) (by decide) ?_
        refine eR_ist_n5 dX9_takeNumber_168 (by decide) rfl ?_
        refine eR_ild_4 dX9_takeNumber_170 ?_
        refine eR_iret dX9_takeNumber_172 rfl rfl ?_
        refine kf (2, (sk isB T n i)) (vD T (sk isB T n i) ((sk isD T n (sk isB T n i)) - (sk isB T n i))) _ ?_ hv9 ?_ ?_ ?_
        · unfold num
          rw [if_neg (by omega), if_pos (by omega)]
        · exact pG_w (pG_w (pG_w (pG_w (pG_w (pG_rf h) (by decide) (by decide)) (by decide) (by decide)) (by decide) (by decide)) (by decide) (by decide)) (by decide) (by decide)
        · rw [hU_i _ _ _ (by decide), hU_s]
        · exact hU_s _ _ _ _
      · replace c152 := b01_ne0.mp c152
        refine eR_ic dX9_takeNumber_155 ?_
        refine eR_goto (tgt := 160) dX9_takeNumber_156 (by decide) ?_
        refine eR_ic dX9_takeNumber_160 ?_
        refine eR_aldn_0 dX9_takeNumber_161 rfl ?_
        refine eR_getI dX9_takeNumber_162 gf_X9_92 th_205 rfl ?_
        refine eX_pcI (hU_i _ _ _ (by decide)) ?_
        refine eX_pcI (hU_s _ _ _ _) ?_
        refine eR_callVi [_, _, _] rfl dX9_takeNumber_165 ok_mX9_want kw_984 rfl rfl th_205 rfl (Nat.le_of_ble_eq_true rfl) (d' := 0) (by decide) (Nat.le_of_ble_eq_true rfl) ?_
        refine sp_want_y (nb := 2) (by (repeat rw [hU_i _ _ _ (by decide)]); exact Oh) ?_
        refine eR_ist_n5 dX9_takeNumber_168 (by decide) rfl ?_
        refine eR_ild_4 dX9_takeNumber_170 ?_
        refine eR_iret dX9_takeNumber_172 rfl rfl ?_
        refine kk (vD T (sk isB T n i) ((sk isD T n (sk isB T n i)) - (sk isB T n i)), (sk isB T n i), (sk isD T n (sk isB T n i))) _ ?_ ?_ ?_ ?_ ?_ ?_
        · unfold num
          rw [if_neg (by omega), if_neg (by omega)]
        · exact pG_w (pG_w (pG_w (pG_rf h) (by decide) (by decide)) (by decide) (by decide)) (by decide) (by decide)
        · exact hU_s _ _ _ _
        · rw [hU_i _ _ _ (by decide), hU_s]
        · rw [hU_i _ _ _ (by decide), hU_i _ _ _ (by decide), hU_i _ _ _ (by decide)]; exact Oh
        · rw [hU_i _ _ _ (by decide), hU_i _ _ _ (by decide), hU_i _ _ _ (by decide)]
  · have hd3 : ∀ q : sk isB T n i < n, ¬ (48 ≤ T (sk isB T n i) ∧ T (sk isB T n i) ≤ 57) := fun q q2 => hd (by rw [chZ_y q]; omega)
    have hd4 : sk isD T n (sk isB T n i) = sk isB T n i := by
      rcases Nat.lt_or_ge (sk isB T n i) n with q | q
      · exact sk_nf (isD_f (hd3 q))
      · exact sk_ne q
    refine eR_aldn_0 dX9_takeNumber_0 rfl ?_
    refine eR_getI dX9_takeNumber_1 gf_X9_85 th_205 rfl ?_
    refine eX_pcI (Oh) ?_
    refine eR_if_le (tgt := 9) dX9_takeNumber_4 (by decide) (by first | exact rg_b01 _ | (unfold rg; omega)) (fun c4 => ?_) (fun c4 => absurd c4 (by omega))
    refine eR_aldn_0 dX9_takeNumber_9 rfl ?_
    refine eR_callVi [] rfl dX9_takeNumber_10 ok_mX9_here kw_966 rfl rfl th_205 rfl (Nat.le_of_ble_eq_true rfl) (d' := 0) (by decide) (Nat.le_of_ble_eq_true rfl) ?_
    refine sp_here (n := n) (i := i) B Th hin Ah ?_
    refine eR_istn_n3 dX9_takeNumber_13 rfl (by decide) rfl ?_
    refine eR_aldn_0 dX9_takeNumber_14 rfl ?_
    refine eR_aldn_0 dX9_takeNumber_15 rfl ?_
    refine eR_getI dX9_takeNumber_16 gf_X9_82 th_205 rfl ?_
    refine eX_pcI (hU_s _ _ _ _) ?_
    refine eR_putI dX9_takeNumber_19 pf_X9_92 th_205 rfl ?_
    refine eR_aldn_0 dX9_takeNumber_22 rfl ?_
    refine eR_ildn_3 dX9_takeNumber_23 rfl ?_
    refine eR_i2lz dX9_takeNumber_24 (by first | exact rg_b01 _ | (unfold rg; omega)) ?_
    refine eR_ldc2 (z := 48) dX9_takeNumber_25 kw_992 (by decide) ?_
    refine eR_ldc2 (z := 57) dX9_takeNumber_28 kw_993 (by decide) ?_
    refine eR_callSi [_, _, _] rfl dX9_takeNumber_31 ok_mX9_in kw_952 rfl rfl (Nat.le_of_ble_eq_true rfl) (d' := 0) (by decide) (Nat.le_of_ble_eq_true rfl) ?_
    refine sp_in (by unfold rL; omega) (by unfold rL; omega) (by unfold rL; omega) ?_
    refine eX_pcI (show (b01 (48 ≤ (chZ T n (sk isB T n i)) ∧ (chZ T n (sk isB T n i)) ≤ 57) : Int) = 0 from b01_f hd) ?_
    refine eR_ic dX9_takeNumber_34 ?_
    refine eR_aldn_0 dX9_takeNumber_35 rfl ?_
    refine eR_getI dX9_takeNumber_36 gf_X9_82 th_205 rfl ?_
    refine eX_pcI (hU_i _ _ _ (by decide)) ?_
    refine eX_pcI (hU_s _ _ _ _) ?_
    refine eR_callVi [_, _, _] rfl dX9_takeNumber_39 ok_mX9_want kw_984 rfl rfl th_205 rfl (Nat.le_of_ble_eq_true rfl) (d' := 0) (by decide) (Nat.le_of_ble_eq_true rfl) ?_
    refine sp_want_n (nb := 1) (by (repeat rw [hU_i _ _ _ (by decide)]); exact Oh) (by decide) (by decide) ?_
    refine eR_if_ne (tgt := 47) dX9_takeNumber_42 (by decide) (by first | exact rg_b01 _ | (unfold rg; omega)) (fun c42 => absurd c42 (by decide)) (fun c42 => ?_)
    refine eR_ic dX9_takeNumber_45 ?_
    refine eR_iret dX9_takeNumber_46 rfl rfl ?_
    refine kf (1, (sk isB T n i)) 0 _ ?_ (by decide) ?_ ?_ ?_
    · exact if_pos hd4
    · exact pG_w (pG_w (pG_w (pG_w (pG_rf h) (by decide) (by decide)) (by decide) (by decide)) (by decide) (by decide)) (by decide) (by decide)
    · rw [hU_i _ _ _ (by decide), hU_s]
    · exact hU_s _ _ _ _
theorem sp_takePerson (B : tB T n) (Th : mT h T n) {i p9 : Nat} (hin : i ≤ n) (hp1 : 1 ≤ p9) (hp8 : p9 ≤ 8) (hP : h 217 4 = (p9 : Int)) (Ah : h 205 14 = (i : Int)) (Oh : h 205 17 = 0) (kf : ∀ (x : Nat × Nat) (v : Nat) (h1 : PH), num T n 0 (p9 - 1) i = .inl x → v < 1000010 → pG h h1 → h1 205 17 = (x.1 : Int) → h1 205 18 = (x.2 : Int) → Q (.int (zI ↑v)) (tau t s) h1) (kk : ∀ (x : Nat × Nat × Nat) (h1 : PH), num T n 0 (p9 - 1) i = .inr x → pG h h1 → h1 205 14 = (x.2.2 : Int) → h1 205 15 = (x.2.1 : Int) → h1 205 17 = 0 → h1 205 18 = h 205 18 → Q (.int (zI ↑x.1)) (tau t s) h1) : eX g 2 mX9_takePerson 0 (lv_args 0 [.ref (gA g 205)]) [] (tau t s) h Q := by
  show eX g 2 mX9_takePerson 0 [(0, .ref (gA g 205))] [] (tau t s) h Q
  refine eR_aldn_0 dX9_takePerson_0 rfl ?_
  refine eR_ic dX9_takePerson_1 ?_
  refine eR_aldn_0 dX9_takePerson_2 rfl ?_
  refine eR_getR (i := 217) dX9_takePerson_3 gf_X9_44 th_205 rfl ?_
  refine eR_ic dX9_takePerson_6 ?_
  refine eR_iald (n := 4) dX9_takePerson_7 th_217 (rfl) (by decide) (by decide) ?_
  refine eX_pcI (hP) ?_
  refine eR_ic dX9_takePerson_8 ?_
  refine eR_isub dX9_takePerson_9 ?_
  refine eX_pcI (show (↑p9 - 1 : Int) = ↑(p9 - 1) from by omega) ?_
  refine eR_callVi [_, _] rfl dX9_takePerson_10 ok_mX9_takeNumber kw_988 rfl rfl th_205 rfl (Nat.le_of_ble_eq_true rfl) (d' := 1) (by decide) (Nat.le_of_ble_eq_true rfl) ?_
  refine sp_takeNumber (i := i) (lo := 0) (hi := p9 - 1) B Th hin (by decide) (by omega) Ah Oh (fun x v h1 e1 hv p1 o1 f1 => ?_) (fun x h1 e1 p1 a1 b1 o1 f1 => ?_)
  · refine eR_iret dX9_takePerson_13 rfl rfl ?_
    exact kf x v h1 e1 hv p1 o1 f1
  · refine eR_iret dX9_takePerson_13 rfl rfl ?_
    exact kk x h1 e1 p1 a1 b1 o1 f1
theorem sp_takePerson_f {f : Nat} (Oh : h 205 17 = (f : Int)) (hf : f ≠ 0) (hf1 : f < 10) (k : Q (.int (zI ↑(0 : Nat))) (tau t s) h) : eX g 2 mX9_takePerson 0 (lv_args 0 [.ref (gA g 205)]) [] (tau t s) h Q := by
  show eX g 2 mX9_takePerson 0 [(0, .ref (gA g 205))] [] (tau t s) h Q
  refine eR_aldn_0 dX9_takePerson_0 rfl ?_
  refine eR_ic dX9_takePerson_1 ?_
  refine eR_aldn_0 dX9_takePerson_2 rfl ?_
  refine eR_getR (i := 217) dX9_takePerson_3 gf_X9_44 th_205 rfl ?_
  refine eR_ic dX9_takePerson_6 ?_
  refine eR_iald (n := 4) dX9_takePerson_7 th_217 (rfl) (by decide) (by decide) ?_
  refine eR_ic dX9_takePerson_8 ?_
  refine eR_isub dX9_takePerson_9 ?_
  refine eR_callVi [_, _] rfl dX9_takePerson_10 ok_mX9_takeNumber kw_988 rfl rfl th_205 rfl (Nat.le_of_ble_eq_true rfl) (d' := 1) (by decide) (Nat.le_of_ble_eq_true rfl) ?_
  refine sp_takeNumber_f Oh hf hf1 ?_
  refine eR_iret dX9_takePerson_13 rfl rfl ?_
  exact k
end M34
