section M46
variable {g : EG} {d t s u : Nat} {h h1 : PH} {Q : EQ} {S : TS}
theorem wl_day (T : isTn (tau t s) u) (B : sB S) (V : cV h u S) (h38 : 38 ≤ u) (k : ∀ h1 : PH, ofR 3 34 h h1 → Q (.int (zI (dyC S 24))) (tau t s) h1) : ∀ n i, i + n = 24 → ∀ h1 : PH, ofR 3 34 h h1 → eX g 4 mX7_chillOfDay 7 [(0, .ref (gA g 3)), (1, .ref (gA g u)), (2, .int (zI (dyC S i))), (3, .int (zI (lsH S i))), (4, .int (zI ↑i))] [] (tau t s) h1 Q := by
  intro n
  induction n with
  | zero =>
    intro i hi h1 hF
    have hy9 := dyC_rg B i
    have V1 : cV h1 u S := cV_R B V hF (by omega)
    refine eR_ild_4 dX7_chillOfDay_7 ?_
    refine eR_bi (z := 24) dX7_chillOfDay_9 rfl ?_
    refine eR_icmp_ge (tgt := 41) dX7_chillOfDay_11 (by decide) (by first | exact rg_b01 _ | (unfold rg; omega)) (by first | exact rg_b01 _ | (unfold rg; omega)) (fun c11 => ?_) (fun c11 => absurd c11 (by omega))
    refine eR_ildn_2 dX7_chillOfDay_41 rfl ?_
    refine eR_iret dX7_chillOfDay_42 rfl rfl ?_
    have e9 : i = 24 := by omega
    subst e9
    exact k h1 hF
  | succ n ih =>
    intro i hi h1 hF
    have hy9 := dyC_rg B i
    have hr9 := hrC_rg B i
    have V1 : cV h1 u S := cV_R B V hF (by omega)
    obtain ⟨x, hx7, hx8, hx9⟩ := V1.2.2.2.2.2.2.2.2.2
    refine eR_ild_4 dX7_chillOfDay_7 ?_
    refine eR_bi (z := 24) dX7_chillOfDay_9 rfl ?_
    refine eR_icmp_ge (tgt := 41) dX7_chillOfDay_11 (by decide) (by first | exact rg_b01 _ | (unfold rg; omega)) (by first | exact rg_b01 _ | (unfold rg; omega)) (fun c11 => absurd c11 (by omega)) (fun c11 => ?_)
    refine eR_aldn_1 dX7_chillOfDay_14 rfl ?_
    refine eR_ild_4 dX7_chillOfDay_15 ?_
    refine eR_callVi [_] rfl dX7_chillOfDay_17 ok_mX6_isLikeHourBefore kw_531 rfl rfl T.1 rfl (Nat.le_of_ble_eq_true rfl) (d' := 0) (by decide) (Nat.le_of_ble_eq_true rfl) ?_
    refine tn_isLike (x := x) (c := i) T B V1 hx7 hx8 (by omega) ?_
    refine eR_if_ne (tgt := 31) dX7_chillOfDay_20 (by decide) (by first | exact rg_b01 _ | (unfold rg; omega)) (fun c20 => ?_) (fun c20 => ?_)
    · replace c20 := b01_ne0.mp c20
      refine eR_ildn_2 dX7_chillOfDay_31 rfl ?_
      refine eR_ildn_3 dX7_chillOfDay_32 rfl ?_
      refine eR_iadd dX7_chillOfDay_33 ?_
      refine eR_istn_2 dX7_chillOfDay_34 rfl (by decide) rfl ?_
      refine eR_iinc_4 dX7_chillOfDay_35 (by decide) rfl ?_
      refine eR_goto (tgt := 7) dX7_chillOfDay_38 (by decide) ?_
      have hl := hx9 i (by omega) c20
      have e9 : lsH S i = hrC S i := by
        obtain ⟨j, rfl⟩ : ∃ j, i = j + 1 := ⟨i - 1, by omega⟩
        exact hrC_cg B (fun p hp => ((hl.2 p hp).symm : _))
      rw [e9]
      exact ih (i + 1) (by omega) h1 hF
    · replace c20 := b01_eq0.mp c20
      refine eR_aldn_0 dX7_chillOfDay_23 rfl ?_
      refine eR_aldn_1 dX7_chillOfDay_24 rfl ?_
      refine eR_ild_4 dX7_chillOfDay_25 ?_
      refine eR_callVi [_, _] rfl dX7_chillOfDay_27 ok_mX7_chillOfHour kw_535 rfl rfl th_3 rfl (Nat.le_of_ble_eq_true rfl) (d' := 3) (by decide) (Nat.le_of_ble_eq_true rfl) ?_
      refine wd_chillOfHour (hour := i) T B V1 (by omega) h38 (fun h2 hF2 _ => ?_)
      refine eR_istn_3 dX7_chillOfDay_30 rfl (by decide) rfl ?_
      refine eR_ildn_2 dX7_chillOfDay_31 rfl ?_
      refine eR_ildn_3 dX7_chillOfDay_32 rfl ?_
      refine eR_iadd dX7_chillOfDay_33 ?_
      refine eR_istn_2 dX7_chillOfDay_34 rfl (by decide) rfl ?_
      refine eR_iinc_4 dX7_chillOfDay_35 (by decide) rfl ?_
      refine eR_goto (tgt := 7) dX7_chillOfDay_38 (by decide) ?_
      exact ih (i + 1) (by omega) h2 (ofR_tr hF hF2)
theorem wd_chillOfDay (T : isTn (tau t s) u) (B : sB S) (V : cV h u S) (h38 : 38 ≤ u) (k : ∀ h1 : PH, ofR 3 34 h h1 → Q (.int (zI (dyC S 24))) (tau t s) h1) : eX g 4 mX7_chillOfDay 0 (lv_args 0 [.ref (gA g 3), .ref (gA g u)]) [] (tau t s) h Q := by
  show eX g 4 mX7_chillOfDay 0 [(0, .ref (gA g 3)), (1, .ref (gA g u))] [] (tau t s) h Q
  refine eR_ic dX7_chillOfDay_0 ?_
  refine eR_istn_n2 dX7_chillOfDay_1 rfl (by decide) rfl ?_
  refine eR_ic dX7_chillOfDay_2 ?_
  refine eR_istn_n3 dX7_chillOfDay_3 rfl (by decide) rfl ?_
  refine eR_ic dX7_chillOfDay_4 ?_
  refine eR_ist_n4 dX7_chillOfDay_5 (by decide) rfl ?_
  exact wl_day T B V h38 k 24 0 (by omega) h (ofR_rf _ _ h)
theorem wl_choose (T : isTn (tau t s) u) (B : sB S) (V : cV h u S) {hour : Nat} (h38 : 38 ≤ u) (W : wAl h S hour) (k : ∀ h1 : PH, ofO 4 h h1 → (∀ x, x < sC S → h1 4 x = (wrW S hour x : Int)) → Q .null (tau t s) h1) : ∀ n c, c + n = sC S → ∀ h1 : PH, ofO 4 h h1 → (∀ x, x < c → h1 4 x = (wrW S hour x : Int)) → eX g 4 mX7_choose 12 [(0, .ref (gA g 3)), (1, .ref (gA g u)), (2, .int (zI ↑hour)), (3, .int (zI ↑(setW S hour c &&& cnN S hour c : Nat))), (4, .int (zI ↑c))] [] (tau t s) h1 Q := by
  have hC8 := B.2.1
  intro n
  induction n with
  | zero =>
    intro c hc h1 hO hd
    have V1 : cV h1 u S := cV_of B V (fun a q1 q2 => hO a (by omega))
    refine eR_ild_4 dX7_choose_12 ?_
    refine eR_aldn_1 dX7_choose_14 rfl ?_
    refine eR_getI dX7_choose_15 gf_X7_39 T.1 rfl ?_
    refine eX_pcI (V1.2.1) ?_
    refine eR_icmp_ge (tgt := 68) dX7_choose_18 (by decide) (by first | exact rg_b01 _ | (unfold rg; omega)) (by first | exact rg_b01 _ | (unfold rg; omega)) (fun c18 => ?_) (fun c18 => absurd c18 (by omega))
    refine eR_vret dX7_choose_68 rfl ?_
    have e9 : c = sC S := by omega
    subst e9
    exact k h1 hO hd
  | succ n ih =>
    intro c hc h1 hO hd
    have V1 : cV h1 u S := cV_of B V (fun a q1 q2 => hO a (by omega))
    have Ww1 : wW h1 S hour := wW_of W.1 (fun a q1 q2 => hO a (by omega))
    have Ws1 : wS h1 S hour := wS_of W.2.1 (fun a q1 q2 => hO a (by omega))
    have Wc1 : wC h1 S hour := wC_of W.2.2.1 (hO 23 (by omega))
    have Wm1 : wM h1 S hour (c + 1) := wM_of (W.2.2.2 (c + 1) (by omega)) (hO (25 + (c + 1)) (by omega))
    have hw9 := wr_ok (S := S) (hour := hour) (c := c) (by omega)
    have hw8 := hw9.2.2
    have hs9 := clS_lt B (c := c) (by omega) (wrW S hour c)
    have ha9 : setW S hour c &&& cnN S hour c ≤ cnN S hour c := Nat.and_le_right
    have hm9 := cnN_lt B (hour := hour) (c := c)
    have ho9 : (setW S hour c &&& cnN S hour c) ||| clS S c (wrW S hour c) < 256 := Nat.or_lt_two_pow (n := 8) (by omega) hs9
    refine eR_ild_4 dX7_choose_12 ?_
    refine eR_aldn_1 dX7_choose_14 rfl ?_
    refine eR_getI dX7_choose_15 gf_X7_39 T.1 rfl ?_
    refine eX_pcI (V1.2.1) ?_
    refine eR_icmp_ge (tgt := 68) dX7_choose_18 (by decide) (by first | exact rg_b01 _ | (unfold rg; omega)) (by first | exact rg_b01 _ | (unfold rg; omega)) (fun c18 => absurd c18 (by omega)) (fun c18 => ?_)
    refine eR_aldn_0 dX7_choose_21 rfl ?_
    refine eR_ild_4 dX7_choose_22 ?_
    refine eR_ildn_3 dX7_choose_24 rfl ?_
    refine eR_callVi [_, _] rfl dX7_choose_25 ok_mX7_firstBest kw_579 rfl rfl th_3 rfl (Nat.le_of_ble_eq_true rfl) (d' := 1) (by decide) (Nat.le_of_ble_eq_true rfl) ?_
    refine wd_firstBest (c := c) (D := setW S hour c &&& cnN S hour c) B Ww1 Ws1 Wc1 (by omega) Wm1 then_sub ?_
    refine eX_pcI (show (↑(fbC S hour c (setW S hour c &&& cnN S hour c)) : Int) = ↑(wrW S hour c) from by rw [hw9.1]) ?_
    refine eR_ist_n5 dX7_choose_28 (by decide) rfl ?_
    refine eR_aldn_0 dX7_choose_30 rfl ?_
    refine eR_getR (i := 4) dX7_choose_31 gf_X7_9 th_3 rfl ?_
    refine eR_ild_4 dX7_choose_34 ?_
    refine eR_ild_5 dX7_choose_36 ?_
    refine eR_iast (n := c) dX7_choose_38 th_4 (rfl) (by omega) (by decide) ?_
    refine eR_ildn_3 dX7_choose_39 rfl ?_
    refine eR_aldn_0 dX7_choose_40 rfl ?_
    refine eR_getR (i := 5) dX7_choose_41 gf_X7_17 th_3 rfl ?_
    refine eR_ild_4 dX7_choose_44 ?_
    refine eR_aald3 (n := c) (i := 6 + c) dX7_choose_46 th_5 (rfl) (by omega) (by decide) (rowsK_at (by omega)) ?_
    refine eR_ild_5 dX7_choose_47 ?_
    refine eR_iald (n := (wrW S hour c)) dX7_choose_49 (tr_w (i := c) (by omega)) (rfl) (by omega) (by decide) ?_
    refine eX_pcI (congrFun (hU_a _ _ _ (by omega)) _) ?_
    refine eX_pcI ((Ww1 c (wrW S hour c) (by omega) (by omega)).trans (clad_y hw9.2.1.1)) ?_
    refine eR_ior dX7_choose_50 ?_
    refine eX_pcI (show (zOr ↑(setW S hour c &&& cnN S hour c : Nat) (↑(clS S c (wrW S hour c))) : Int) = ↑((setW S hour c &&& cnN S hour c) ||| clS S c (wrW S hour c) : Nat) from zOr_nat (by omega) (by omega)) ?_
    refine eR_aldn_0 dX7_choose_51 rfl ?_
    refine eR_getR (i := 23) dX7_choose_52 gf_X7_23 th_3 rfl ?_
    refine eR_ild_4 dX7_choose_55 ?_
    refine eR_ic dX7_choose_57 ?_
    refine eR_iadd dX7_choose_58 ?_
    refine eR_iald (n := c + 1) dX7_choose_59 th_23 (rfl) (by omega) (by decide) ?_
    refine eX_pcI (congrFun (hU_a _ _ _ (by decide)) _) ?_
    refine eX_pcI (Wc1 (c + 1) (by omega)) ?_
    refine eR_iand dX7_choose_60 ?_
    refine eX_pcI (show (zAnd (↑((setW S hour c &&& cnN S hour c) ||| clS S c (wrW S hour c) : Nat)) (↑(cnN S hour (c + 1))) : Int) = ↑(setW S hour (c + 1) &&& cnN S hour (c + 1) : Nat) from by rw [zAnd_nat (by omega), next_eq (by omega)]) ?_
    refine eR_istn_3 dX7_choose_61 rfl (by decide) rfl ?_
    refine eR_iinc_4 dX7_choose_62 (by decide) rfl ?_
    refine eR_goto (tgt := 12) dX7_choose_65 (by decide) ?_
    refine eX_lv (lv2 := List.take 5 _) (fun q hq => List.mem_of_mem_take hq) ?_
    refine ih (c + 1) (by omega) _ (ofO_w hO) (fun x hx => ?_)
    by_cases hxc : x = c
    · subst hxc; exact hU_s _ _ _ _
    · rw [hU_i _ _ _ hxc]; exact hd x (by omega)
theorem wd_choose (T : isTn (tau t s) u) (B : sB S) (V : cV h u S) {hour : Nat} (hh : hour < 24) (h38 : 38 ≤ u) (k : ∀ h1 : PH, ofR 3 34 h h1 → wW h1 S hour → (∀ x, x < sC S → h1 4 x = (wrW S hour x : Int)) → Q .null (tau t s) h1) : eX g 4 mX7_choose 0 (lv_args 0 [.ref (gA g 3), .ref (gA g u), .int (zI ↑hour)]) [] (tau t s) h Q := by
  show eX g 4 mX7_choose 0 [(0, .ref (gA g 3)), (1, .ref (gA g u)), (2, .int (zI ↑hour))] [] (tau t s) h Q
  refine eR_aldn_0 dX7_choose_0 rfl ?_
  refine eR_aldn_1 dX7_choose_1 rfl ?_
  refine eR_ildn_2 dX7_choose_2 rfl ?_
  refine eR_callVi [_, _] rfl dX7_choose_3 ok_mX7_chillOfHour kw_535 rfl rfl th_3 rfl (Nat.le_of_ble_eq_true rfl) (d' := 3) (by decide) (Nat.le_of_ble_eq_true rfl) ?_
  refine wd_chillOfHour (hour := hour) T B V hh h38 (fun h2 hF2 W2 => ?_)
  have V2 : cV h2 u S := cV_R B V hF2 (by omega)
  refine eR_pop dX7_choose_6 rfl ?_
  refine eR_ic dX7_choose_7 ?_
  refine eR_istn_n3 dX7_choose_8 rfl (by decide) rfl ?_
  refine eR_ic dX7_choose_9 ?_
  refine eR_ist_n4 dX7_choose_10 (by decide) rfl ?_
  have e9 := wl_choose (g := g) (t := t) (s := s) (Q := Q) T B V2 h38 W2 (fun h3 hO3 hd3 => k h3 (fun a q => by rw [hO3 a (by omega)]; exact hF2 a q) (wW_of W2.1 (fun a q1 q2 => hO3 a (by omega))) hd3) (sC S) 0 (by omega) h2 (ofO_rf _ _) (fun x hx => absurd hx (Nat.not_lt_zero x))
  rw [show setW S hour 0 &&& cnN S hour 0 = 0 from Nat.zero_and _] at e9
  exact e9
theorem wl_warmthOn (T : isTn (tau t s) u) (B : sB S) (V : cV h u S) {hour p : Nat} (hp : p < 8) (Ww : wW h S hour) (hd : ∀ x, x < sC S → h 4 x = (wrW S hour x : Int)) (k : ∀ w : Nat, w ≤ 99 → max 0 ((sF S : Int) - (w : Int)) = chV S hour p (sC S) → Q (.int (zI ↑w)) (tau t s) h) : ∀ n c, c + n = sC S → (∀ x, x < c → ¬ (clS S x (wrW S hour x)).testBit p = true) → eX g 2 mX7_warmthOn 2 [(0, .ref (gA g 3)), (1, .ref (gA g u)), (2, .int (zI ↑p)), (3, .int (zI ↑c))] [] (tau t s) h Q := by
  have hP8 := B.1
  have hC8 := B.2.1
  have hE10 := B.2.2.1
  have hF99 := B.2.2.2.2.2.2.1
  intro n
  induction n with
  | zero =>
    intro c hc hn
    refine eR_ildn_3 dX7_warmthOn_2 rfl ?_
    refine eR_aldn_1 dX7_warmthOn_3 rfl ?_
    refine eR_getI dX7_warmthOn_4 gf_X7_39 T.1 rfl ?_
    refine eX_pcI (V.2.1) ?_
    refine eR_icmp_ge (tgt := 48) dX7_warmthOn_7 (by decide) (by first | exact rg_b01 _ | (unfold rg; omega)) (by first | exact rg_b01 _ | (unfold rg; omega)) (fun c7 => ?_) (fun c7 => absurd c7 (by omega))
    refine eR_ic dX7_warmthOn_48 ?_
    refine eR_iret dX7_warmthOn_49 rfl rfl ?_
    have e9 : c = sC S := by omega
    subst e9
    refine k 0 (by omega) ?_
    rcases chV_one (S := S) (hour := hour) (p := p) (sC S) (Nat.le_refl _) with ⟨q1, q2, q3⟩ | ⟨q1, x, q2, q3, q4, q5⟩
    · rw [q2]; omega
    · exact absurd q3 (hn x q2)
  | succ n ih =>
    intro c hc hn
    have hw9 := wr_ok (S := S) (hour := hour) (c := c) (by omega)
    have hw8 := hw9.2.2
    have hs9 := clS_lt B (c := c) (by omega) (wrW S hour c)
    have ho9 := B.2.2.2.1 c (by omega)
    have hw7 : weN S c (wrW S hour c) ≤ 99 := by unfold weN; split <;> omega
    refine eR_ildn_3 dX7_warmthOn_2 rfl ?_
    refine eR_aldn_1 dX7_warmthOn_3 rfl ?_
    refine eR_getI dX7_warmthOn_4 gf_X7_39 T.1 rfl ?_
    refine eX_pcI (V.2.1) ?_
    refine eR_icmp_ge (tgt := 48) dX7_warmthOn_7 (by decide) (by first | exact rg_b01 _ | (unfold rg; omega)) (by first | exact rg_b01 _ | (unfold rg; omega)) (fun c7 => absurd c7 (by omega)) (fun c7 => ?_)
    refine eR_aldn_0 dX7_warmthOn_10 rfl ?_
    refine eR_getR (i := 5) dX7_warmthOn_11 gf_X7_17 th_3 rfl ?_
    refine eR_ildn_3 dX7_warmthOn_14 rfl ?_
    refine eR_aald3 (n := c) (i := 6 + c) dX7_warmthOn_15 th_5 (rfl) (by omega) (by decide) (rowsK_at (by omega)) ?_
    refine eR_aldn_0 dX7_warmthOn_16 rfl ?_
    refine eR_getR (i := 4) dX7_warmthOn_17 gf_X7_9 th_3 rfl ?_
    refine eR_ildn_3 dX7_warmthOn_20 rfl ?_
    refine eR_iald (n := c) dX7_warmthOn_21 th_4 (rfl) (by omega) (by decide) ?_
    refine eX_pcI (hd c (by omega)) ?_
    refine eR_iald (n := (wrW S hour c)) dX7_warmthOn_22 (tr_w (i := c) (by omega)) (rfl) (by omega) (by decide) ?_
    refine eX_pcI ((Ww c (wrW S hour c) (by omega) (by omega)).trans (clad_y hw9.2.1.1)) ?_
    refine eR_ildn_2 dX7_warmthOn_23 rfl ?_
    refine eR_ishr dX7_warmthOn_24 ?_
    refine eR_ic dX7_warmthOn_25 ?_
    refine eR_iand dX7_warmthOn_26 ?_
    refine eX_pcI (show (zAnd (zShr (↑(clS S c (wrW S hour c))) ↑p) 1 : Int) = b01 ((clS S c (wrW S hour c)).testBit p = true) from zBit_nat (a := clS S c (wrW S hour c)) (k := p) (by omega) (by omega)) ?_
    refine eR_if_eq (tgt := 42) dX7_warmthOn_27 (by decide) (by first | exact rg_b01 _ | (unfold rg; omega)) (fun c27 => ?_) (fun c27 => ?_)
    · replace c27 := b01_eq0.mp c27
      refine eR_iinc_3 dX7_warmthOn_42 (by decide) rfl ?_
      refine eR_goto (tgt := 2) dX7_warmthOn_45 (by decide) ?_
      exact ih (c + 1) (by omega) (fun x hx => by
      by_cases hxc : x = c
      · subst hxc; exact c27
      · exact hn x (by omega))
    · replace c27 := b01_ne0.mp c27
      refine eR_aldn_1 dX7_warmthOn_30 rfl ?_
      refine eR_ildn_3 dX7_warmthOn_31 rfl ?_
      refine eR_aldn_0 dX7_warmthOn_32 rfl ?_
      refine eR_getR (i := 4) dX7_warmthOn_33 gf_X7_9 th_3 rfl ?_
      refine eR_ildn_3 dX7_warmthOn_36 rfl ?_
      refine eR_iald (n := c) dX7_warmthOn_37 th_4 (rfl) (by omega) (by decide) ?_
      refine eX_pcI (hd c (by omega)) ?_
      refine eR_callVi [_, _] rfl dX7_warmthOn_38 ok_mX6_warmthEach kw_557 rfl rfl T.1 rfl (Nat.le_of_ble_eq_true rfl) (d' := 1) (by decide) (Nat.le_of_ble_eq_true rfl) ?_
      refine tn_warmthEach (c := c) (ch := (wrW S hour c)) T B V (by omega) (by omega) ?_
      refine eR_iret dX7_warmthOn_41 rfl rfl ?_
      refine k (weN S c (wrW S hour c)) (by omega) ?_
      rcases chV_one (S := S) (hour := hour) (p := p) (sC S) (Nat.le_refl _) with ⟨q1, q2, q3⟩ | ⟨q1, x, q2, q3, q4, q5⟩
      · exact absurd c27 (q3 c (by omega))
      · have e9 : x = c := by
          rcases Nat.lt_trichotomy x c with r | r | r
          · exact absurd q3 (hn x r)
          · exact r
          · exact absurd c27 (q4 c r)
        subst e9
        rw [q5, ← savN_min]
        omega
theorem wd_warmthOn (T : isTn (tau t s) u) (B : sB S) (V : cV h u S) {hour p : Nat} (hp : p < 8) (Ww : wW h S hour) (hd : ∀ x, x < sC S → h 4 x = (wrW S hour x : Int)) (k : ∀ w : Nat, w ≤ 99 → max 0 ((sF S : Int) - (w : Int)) = chV S hour p (sC S) → Q (.int (zI ↑w)) (tau t s) h) : eX g 2 mX7_warmthOn 0 (lv_args 0 [.ref (gA g 3), .ref (gA g u), .int (zI ↑p)]) [] (tau t s) h Q := by
  show eX g 2 mX7_warmthOn 0 [(0, .ref (gA g 3)), (1, .ref (gA g u)), (2, .int (zI ↑p))] [] (tau t s) h Q
  refine eR_ic dX7_warmthOn_0 ?_
  refine eR_istn_n3 dX7_warmthOn_1 rfl (by decide) rfl ?_
  exact wl_warmthOn T B V hp Ww hd k (sC S) 0 (by omega) (fun x hx => absurd hx (Nat.not_lt_zero x))
end M46
