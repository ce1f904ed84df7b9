theorem rV_adP {h : PH} {u v : Nat} {U : PU} (B : sB U.1) (V : rV h u U) (hv : v ≤ 8) : rV (hU h u 0 v) u (uO U (adP U.1 v)) := by
  have hC8 := B.2.1
  have hE10 := B.2.2.1
  obtain ⟨⟨v1, v2, v3, v4, v5, v6, v7, v8, v9, v10⟩, w7, w3, w6, wT, wL⟩ := V
  have E : ∀ a i, ¬ (a = u ∧ i = 0) → (hU h u 0 v) a i = h a i := fun a i q => hU_ne2 q
  refine rV_mk hv (hU_s _ _ _ _) ((E u 1 (by omega)).trans v2) ((E u 2 (by omega)).trans v3) ((E u 3 (by omega)).trans w3) ((E u 4 (by omega)).trans v4) ((E u 5 (by omega)).trans v5) ((E u 6 (by omega)).trans w6) ((E u 7 (by omega)).trans w7) (fun c hc => ?_) (fun e he => ?_) (fun p1 hour h1 h2 => ?_) (fun p1 h1 => ?_) (fun p1 q1 h1 h2 => ?_)
  · have hc2 : c < sC U.1 := hc
    rw [E _ _ (by omega), E _ _ (by omega), E _ _ (by omega)]
    exact v6 c hc2
  · have he2 : e < sE U.1 := he
    rw [E _ _ (by omega), E _ _ (by omega), E _ _ (by omega), E _ _ (by omega)]
    exact v7 e he2
  · rw [E _ _ (by omega)]
    exact (v8 p1 hour h1 h2).trans (whereIs_cg (S := U.1) (S' := adP U.1 v) rfl rfl p1 hour).symm
  · rw [E _ _ (by omega)]; exact wT p1 h1
  · rw [E _ _ (by omega)]; exact wL p1 q1 h1 h2
theorem rV_adF {h : PH} {u v : Nat} {U : PU} (B : sB U.1) (V : rV h u U) : rV (hU (hU h u 4 v) u 6 1) u (adF U v) := by
  have hP8 := B.1
  have hC8 := B.2.1
  have hE10 := B.2.2.1
  obtain ⟨⟨v1, v2, v3, v4, v5, v6, v7, v8, v9, v10⟩, w7, w3, w6, wT, wL⟩ := V
  have E : ∀ a i, ¬ (a = u ∧ (i = 4 ∨ i = 6)) → (hU (hU h u 4 v) u 6 1) a i = h a i := fun a i q => by rw [hU_ne2 (by omega), hU_ne2 (by omega)]
  refine rV_mk hP8 ((E u 0 (by omega)).trans v1) ((E u 1 (by omega)).trans v2) ((E u 2 (by omega)).trans v3) ((E u 3 (by omega)).trans w3) ((hU_i _ _ _ (by decide)).trans (hU_s _ _ _ _)) ((E u 5 (by omega)).trans v5) (hU_s _ _ _ _) ((E u 7 (by omega)).trans w7) (fun c hc => ?_) (fun e he => ?_) (fun p1 hour h1 h2 => ?_) (fun p1 h1 => ?_) (fun p1 q1 h1 h2 => ?_)
  · have hc2 : c < sC U.1 := hc
    rw [E _ _ (by omega), E _ _ (by omega), E _ _ (by omega)]
    exact v6 c hc2
  · have he2 : e < sE U.1 := he
    rw [E _ _ (by omega), E _ _ (by omega), E _ _ (by omega), E _ _ (by omega)]
    exact v7 e he2
  · rw [E _ _ (by omega)]
    exact (v8 p1 hour h1 h2).trans (whereIs_cg (S := U.1) (S' := (adF U v).1) rfl rfl p1 hour).symm
  · rw [E _ _ (by omega)]; exact wT p1 h1
  · rw [E _ _ (by omega)]; exact wL p1 q1 h1 h2
section M55
variable {g : EG} {d t s u : Nat} {h h1 : PH} {Q : EQ} {S : TS} {T : Nat → Nat} {n : Nat} {U : PU}
theorem kt_people (B : tB T n) (C : cT h T n) (TT : isTn (tau t s) u) (W : uD U) (R : rV h u U) (h38 : 38 ≤ u) {i : Nat} (hi : i ≤ n) (hA : h 1 2 = (i : Int)) (hO : h 1 3 = 0) (k : ∀ h1 : PH, rE n h h1 u U (smi T n (rdP T n U i)) → Q .null (tau t s) h1) : eX g 2 mX4_readPeople 0 (lv_args 0 [.ref (gA g 1), .ref (gA g u)]) [] (tau t s) h Q := by
  show eX g 2 mX4_readPeople 0 [(0, .ref (gA g 1)), (1, .ref (gA g u))] [] (tau t s) h Q
  have hP8 := W.1.1.1
  have hn9 := B.1
  refine eR_aldn_0 dX4_readPeople_0 rfl ?_
  refine eR_ic dX4_readPeople_1 ?_
  refine eR_bi (z := 8) dX4_readPeople_2 rfl ?_
  refine eR_callVi [_, _] rfl dX4_readPeople_4 ok_mX4_readNumber kw_450 rfl rfl th_1 rfl (Nat.le_of_ble_eq_true rfl) (d' := 1) (by decide) (Nat.le_of_ble_eq_true rfl) ?_
  refine kt_number (i := i) (lo := 1) (hi := 8) B C (by omega) (by omega) (by omega) hA hO (fun x1_ vx1_ y2_ ex1_ hvx1_ gy2_ jy2_ oy2_ xy2_ => ?_) (fun x1_ k3_ ex1_ gk3_ ak3_ nk3_ ok3_ xk3_ => ?_)
  · have nx1_ := num_l (by omega) ex1_
    have Gy2_ : rG h y2_ := rG_tr (rG_rf h) gy2_
    have Ry2_ : rV y2_ u U := rV_G W.1.1 R h38 Gy2_
    refine eR_istn_n2 dX4_readPeople_7 rfl (by decide) rfl ?_
    refine eR_aldn_0 dX4_readPeople_8 rfl ?_
    refine eR_callVi [] rfl dX4_readPeople_9 ok_mX4_clauseEnds kw_454 rfl rfl th_1 rfl (Nat.le_of_ble_eq_true rfl) (d' := 1) (by decide) (Nat.le_of_ble_eq_true rfl) ?_
    refine kt_ends_f (f := x1_.1) oy2_ (by omega) (by omega) ?_
    refine eR_if_eq (tgt := 20) dX4_readPeople_12 (by decide) (by first | exact rg_b01 _ | (unfold rg; omega)) (fun c12 => ?_) (fun c12 => absurd c12 (by decide))
    refine eR_vret dX4_readPeople_20 rfl ?_
    have e9 : rdP T n U i = .inl (x1_.1, x1_.2) := by
      unfold rdP
      simp only [ex1_] <;> first | rfl | (rw [if_pos (by first | omega | exact Or.inr (by assumption) | exact Or.inl (by omega))]; done) | (rw [if_neg (by first | omega | (rintro (q1 | q1); omega; exact absurd q1 (by assumption)))]; done)
    exact k y2_ (rE_l (by rw [e9]; rfl) Gy2_ Ry2_ jy2_ oy2_ xy2_)
  · have nx1_ := num_r (by omega) ex1_
    have Gk3_ : rG h k3_ := rG_tr (rG_rf h) gk3_
    have Rk3_ : rV k3_ u U := rV_G W.1.1 R h38 Gk3_
    have Ck3_ : cT k3_ T n := cT_G C Gk3_
    refine eR_istn_n2 dX4_readPeople_7 rfl (by decide) rfl ?_
    refine eR_aldn_0 dX4_readPeople_8 rfl ?_
    refine eR_callVi [] rfl dX4_readPeople_9 ok_mX4_clauseEnds kw_454 rfl rfl th_1 rfl (Nat.le_of_ble_eq_true rfl) (d' := 1) (by decide) (Nat.le_of_ble_eq_true rfl) ?_
    refine kt_ends (i := x1_.2.2) B Ck3_ (by omega) ak3_ ok3_ (fun ck5_ k5_ gk5_ ak5_ ok5_ xk5_ => ?_) (fun cy4_ y4_ gy4_ jy4_ oy4_ xy4_ => ?_)
    · have Gk5_ : rG h k5_ := rG_tr Gk3_ gk5_
      have Rk5_ : rV k5_ u U := rV_G W.1.1 R h38 Gk5_
      have Ck5_ : cT k5_ T n := cT_G C Gk5_
      refine eR_if_eq (tgt := 20) dX4_readPeople_12 (by decide) (by first | exact rg_b01 _ | (unfold rg; omega)) (fun c12 => absurd c12 (by decide)) (fun c12 => ?_)
      refine eR_aldn_1 dX4_readPeople_15 rfl ?_
      refine eR_ildn_2 dX4_readPeople_16 rfl ?_
      refine eR_putI dX4_readPeople_17 pf_X4_56 TT.1 rfl ?_
      refine eR_vret dX4_readPeople_20 rfl ?_
      have gz : ofR u (u + 41) k5_ (hU k5_ u 0 ↑x1_.1) := ofR_w (ofR_rf _ _ _) (by omega)
      have Rz : rV (hU k5_ u 0 ↑x1_.1) u (uO U (adP U.1 x1_.1)) := rV_adP W.1.1 Rk5_ (by omega)
      have e9 : rdP T n U i = .inr (uO U (adP U.1 x1_.1), x1_.2.2) := by
        unfold rdP
        simp only [ex1_] <;> first | rfl | (rw [if_pos (by first | omega | exact Or.inr (by assumption) | exact Or.inl (by omega))]; done) | (rw [if_neg (by first | omega | (rintro (q1 | q1); omega; exact absurd q1 (by assumption)))]; done)
      exact k _ (rE_r (by rw [e9]; exact smi_y ck5_) (cG_tr (cG_G Gk5_) (cG_R gz)) Rz (by rw [gz 1 (by omega)]; exact ak5_) (by rw [gz 1 (by omega)]; exact ok5_) (by rw [gz 1 (by omega)]; exact (xk5_.trans (xk3_.trans rfl))))
    · have Gy4_ : rG h y4_ := rG_tr Gk3_ gy4_
      have Ry4_ : rV y4_ u U := rV_G W.1.1 R h38 Gy4_
      refine eR_if_eq (tgt := 20) dX4_readPeople_12 (by decide) (by first | exact rg_b01 _ | (unfold rg; omega)) (fun c12 => ?_) (fun c12 => absurd c12 (by decide))
      refine eR_vret dX4_readPeople_20 rfl ?_
      have e9 : rdP T n U i = .inr (uO U (adP U.1 x1_.1), x1_.2.2) := by
        unfold rdP
        simp only [ex1_] <;> first | rfl | (rw [if_pos (by first | omega | exact Or.inr (by assumption) | exact Or.inl (by omega))]; done) | (rw [if_neg (by first | omega | (rintro (q1 | q1); omega; exact absurd q1 (by assumption)))]; done)
      exact k y4_ (rE_l (by rw [e9]; exact smi_n cy4_) Gy4_ Ry4_ jy4_ oy4_ xy4_)
theorem kt_frost (B : tB T n) (C : cT h T n) (TT : isTn (tau t s) u) (W : uD U) (R : rV h u U) (h38 : 38 ≤ u) {i : Nat} (hi : i ≤ n) (hA : h 1 2 = (i : Int)) (hO : h 1 3 = 0) (k : ∀ h1 : PH, rE n h h1 u U (smi T n (rdF T n U i)) → Q .null (tau t s) h1) : eX g 2 mX4_readFrost 0 (lv_args 0 [.ref (gA g 1), .ref (gA g u)]) [] (tau t s) h Q := by
  show eX g 2 mX4_readFrost 0 [(0, .ref (gA g 1)), (1, .ref (gA g u))] [] (tau t s) h Q
  have hP8 := W.1.1.1
  have hn9 := B.1
  refine eR_aldn_0 dX4_readFrost_0 rfl ?_
  refine eR_ic dX4_readFrost_1 ?_
  refine eR_bi (z := 99) dX4_readFrost_2 rfl ?_
  refine eR_callVi [_, _] rfl dX4_readFrost_4 ok_mX4_readNumber kw_450 rfl rfl th_1 rfl (Nat.le_of_ble_eq_true rfl) (d' := 1) (by decide) (Nat.le_of_ble_eq_true rfl) ?_
  refine kt_number (i := i) (lo := 0) (hi := 99) B C (by omega) (by omega) (by omega) hA hO (fun x1_ vx1_ y2_ ex1_ hvx1_ gy2_ jy2_ oy2_ xy2_ => ?_) (fun x1_ k3_ ex1_ gk3_ ak3_ nk3_ ok3_ xk3_ => ?_)
  · have nx1_ := num_l (by omega) ex1_
    have Gy2_ : rG h y2_ := rG_tr (rG_rf h) gy2_
    have Ry2_ : rV y2_ u U := rV_G W.1.1 R h38 Gy2_
    refine eR_istn_n2 dX4_readFrost_7 rfl (by decide) rfl ?_
    refine eR_aldn_0 dX4_readFrost_8 rfl ?_
    refine eR_callVi [] rfl dX4_readFrost_9 ok_mX4_clauseEnds kw_454 rfl rfl th_1 rfl (Nat.le_of_ble_eq_true rfl) (d' := 1) (by decide) (Nat.le_of_ble_eq_true rfl) ?_
    refine kt_ends_f (f := x1_.1) oy2_ (by omega) (by omega) ?_
    refine eR_if_eq (tgt := 25) dX4_readFrost_12 (by decide) (by first | exact rg_b01 _ | (unfold rg; omega)) (fun c12 => ?_) (fun c12 => absurd c12 (by decide))
    refine eR_vret dX4_readFrost_25 rfl ?_
    have e9 : rdF T n U i = .inl (x1_.1, x1_.2) := by
      unfold rdF
      simp only [ex1_] <;> first | rfl | (rw [if_pos (by first | omega | exact Or.inr (by assumption) | exact Or.inl (by omega))]; done) | (rw [if_neg (by first | omega | (rintro (q1 | q1); omega; exact absurd q1 (by assumption)))]; done)
    exact k y2_ (rE_l (by rw [e9]; rfl) Gy2_ Ry2_ jy2_ oy2_ xy2_)
  · have nx1_ := num_r (by omega) ex1_
    have Gk3_ : rG h k3_ := rG_tr (rG_rf h) gk3_
    have Rk3_ : rV k3_ u U := rV_G W.1.1 R h38 Gk3_
    have Ck3_ : cT k3_ T n := cT_G C Gk3_
    refine eR_istn_n2 dX4_readFrost_7 rfl (by decide) rfl ?_
    refine eR_aldn_0 dX4_readFrost_8 rfl ?_
    refine eR_callVi [] rfl dX4_readFrost_9 ok_mX4_clauseEnds kw_454 rfl rfl th_1 rfl (Nat.le_of_ble_eq_true rfl) (d' := 1) (by decide) (Nat.le_of_ble_eq_true rfl) ?_
    refine kt_ends (i := x1_.2.2) B Ck3_ (by omega) ak3_ ok3_ (fun ck5_ k5_ gk5_ ak5_ ok5_ xk5_ => ?_) (fun cy4_ y4_ gy4_ jy4_ oy4_ xy4_ => ?_)
    · have Gk5_ : rG h k5_ := rG_tr Gk3_ gk5_
      have Rk5_ : rV k5_ u U := rV_G W.1.1 R h38 Gk5_
      have Ck5_ : cT k5_ T n := cT_G C Gk5_
      refine eR_if_eq (tgt := 25) dX4_readFrost_12 (by decide) (by first | exact rg_b01 _ | (unfold rg; omega)) (fun c12 => absurd c12 (by decide)) (fun c12 => ?_)
      refine eR_aldn_1 dX4_readFrost_15 rfl ?_
      refine eR_ildn_2 dX4_readFrost_16 rfl ?_
      refine eR_putI dX4_readFrost_17 pf_X4_126 TT.1 rfl ?_
      refine eR_aldn_1 dX4_readFrost_20 rfl ?_
      refine eR_ic dX4_readFrost_21 ?_
      refine eR_putZ (by omega) dX4_readFrost_22 pf_X4_91 TT.1 rfl ?_
      refine eR_vret dX4_readFrost_25 rfl ?_
      have gz : ofR u (u + 41) k5_ (hU (hU k5_ u 4 ↑x1_.1) u 6 1) := ofR_w (ofR_w (ofR_rf _ _ _) (by omega)) (by omega)
      have Rz : rV (hU (hU k5_ u 4 ↑x1_.1) u 6 1) u (adF U x1_.1) := rV_adF W.1.1 Rk5_
      have e9 : rdF T n U i = .inr (adF U x1_.1, x1_.2.2) := by
        unfold rdF
        simp only [ex1_] <;> first | rfl | (rw [if_pos (by first | omega | exact Or.inr (by assumption) | exact Or.inl (by omega))]; done) | (rw [if_neg (by first | omega | (rintro (q1 | q1); omega; exact absurd q1 (by assumption)))]; done)
      exact k _ (rE_r (by rw [e9]; exact smi_y ck5_) (cG_tr (cG_G Gk5_) (cG_R gz)) Rz (by rw [gz 1 (by omega)]; exact ak5_) (by rw [gz 1 (by omega)]; exact ok5_) (by rw [gz 1 (by omega)]; exact (xk5_.trans (xk3_.trans rfl))))
    · have Gy4_ : rG h y4_ := rG_tr Gk3_ gy4_
      have Ry4_ : rV y4_ u U := rV_G W.1.1 R h38 Gy4_
      refine eR_if_eq (tgt := 25) dX4_readFrost_12 (by decide) (by first | exact rg_b01 _ | (unfold rg; omega)) (fun c12 => ?_) (fun c12 => absurd c12 (by decide))
      refine eR_vret dX4_readFrost_25 rfl ?_
      have e9 : rdF T n U i = .inr (adF U x1_.1, x1_.2.2) := by
        unfold rdF
        simp only [ex1_] <;> first | rfl | (rw [if_pos (by first | omega | exact Or.inr (by assumption) | exact Or.inl (by omega))]; done) | (rw [if_neg (by first | omega | (rintro (q1 | q1); omega; exact absurd q1 (by assumption)))]; done)
      exact k y4_ (rE_l (by rw [e9]; exact smi_n cy4_) Gy4_ Ry4_ jy4_ oy4_ xy4_)
theorem kt_coat (B : tB T n) (C : cT h T n) (TT : isTn (tau t s) u) (W : uD U) (R : rV h u U) (h38 : 38 ≤ u) (hP1 : 1 ≤ sP U.1) (hC : sC U.1 < 8) {i : Nat} (hi : i ≤ n) (hA : h 1 2 = (i : Int)) (hO : h 1 3 = 0) (k : ∀ h1 : PH, rE n h h1 u U (smi T n (rdC T n U i)) → Q .null (tau t s) h1) : eX g 3 mX4_readCoat 0 (lv_args 0 [.ref (gA g 1), .ref (gA g u)]) [] (tau t s) h Q := by
  show eX g 3 mX4_readCoat 0 [(0, .ref (gA g 1)), (1, .ref (gA g u))] [] (tau t s) h Q
  have hP8 := W.1.1.1
  have hn9 := B.1
  have hC8 := W.1.1.2.1
  have hE10 := W.1.1.2.2.1
  refine eR_aldn_0 dX4_readCoat_0 rfl ?_
  refine eR_ic dX4_readCoat_1 ?_
  refine eR_aldn_1 dX4_readCoat_2 rfl ?_
  refine eR_getI dX4_readCoat_3 gf_X4_56 TT.1 rfl ?_
  refine eX_pcI (R.1.1) ?_
  refine eR_ic dX4_readCoat_6 ?_
  refine eR_isub dX4_readCoat_7 ?_
  refine eX_pcI (show (↑(sP U.1) - 1 : Int) = ↑(sP U.1 - 1 : Nat) from by omega) ?_
  refine eR_callVi [_, _] rfl dX4_readCoat_8 ok_mX4_readNumber kw_450 rfl rfl th_1 rfl (Nat.le_of_ble_eq_true rfl) (d' := 1) (by decide) (Nat.le_of_ble_eq_true rfl) ?_
  refine kt_number (i := i) (lo := 0) (hi := (sP U.1 - 1)) B C (by omega) (by omega) (by omega) hA hO (fun x1_ vx1_ y2_ ex1_ hvx1_ gy2_ jy2_ oy2_ xy2_ => ?_) (fun x1_ k3_ ex1_ gk3_ ak3_ nk3_ ok3_ xk3_ => ?_)
  · have nx1_ := num_l (by omega) ex1_
    have Gy2_ : rG h y2_ := rG_tr (rG_rf h) gy2_
    have Ry2_ : rV y2_ u U := rV_G W.1.1 R h38 Gy2_
    refine eR_istn_n2 dX4_readCoat_11 rfl (by decide) rfl ?_
    refine eR_aldn_0 dX4_readCoat_12 rfl ?_
    refine eR_aldn_1 dX4_readCoat_13 rfl ?_
    refine eR_ildn_2 dX4_readCoat_14 rfl ?_
    refine eR_callVi [_, _] rfl dX4_readCoat_15 ok_mX4_readOther kw_462 rfl rfl th_1 rfl (Nat.le_of_ble_eq_true rfl) (d' := 2) (by decide) (Nat.le_of_ble_eq_true rfl) ?_
    refine kt_other_f (f := x1_.1) TT W Ry2_ oy2_ (by omega) (by omega) (by unfold rg; omega) ?_
    refine eR_istn_n3 dX4_readCoat_18 rfl (by decide) rfl ?_
    refine eR_aldn_0 dX4_readCoat_19 rfl ?_
    refine eR_ic dX4_readCoat_20 ?_
    refine eR_bi (z := 99) dX4_readCoat_21 rfl ?_
    refine eR_callVi [_, _] rfl dX4_readCoat_23 ok_mX4_readNumber kw_450 rfl rfl th_1 rfl (Nat.le_of_ble_eq_true rfl) (d' := 1) (by decide) (Nat.le_of_ble_eq_true rfl) ?_
    refine kt_number_f (f := x1_.1) oy2_ (by omega) (by omega) ?_
    refine eR_ist_n4 dX4_readCoat_26 (by decide) rfl ?_
    refine eR_aldn_0 dX4_readCoat_28 rfl ?_
    refine eR_callVi [] rfl dX4_readCoat_29 ok_mX4_clauseEnds kw_454 rfl rfl th_1 rfl (Nat.le_of_ble_eq_true rfl) (d' := 1) (by decide) (Nat.le_of_ble_eq_true rfl) ?_
    refine kt_ends_f (f := x1_.1) oy2_ (by omega) (by omega) ?_
    refine eR_if_eq (tgt := 43) dX4_readCoat_32 (by decide) (by first | exact rg_b01 _ | (unfold rg; omega)) (fun c32 => ?_) (fun c32 => absurd c32 (by decide))
    refine eR_vret dX4_readCoat_43 rfl ?_
    have e9 : rdC T n U i = .inl (x1_.1, x1_.2) := by
      unfold rdC
      simp only [ex1_] <;> first | rfl | (rw [if_pos (by first | omega | exact Or.inr (by assumption) | exact Or.inl (by omega))]; done) | (rw [if_neg (by first | omega | (rintro (q1 | q1); omega; exact absurd q1 (by assumption)))]; done)
    exact k y2_ (rE_l (by rw [e9]; rfl) Gy2_ Ry2_ jy2_ oy2_ xy2_)
  · have nx1_ := num_r (by omega) ex1_
    have Gk3_ : rG h k3_ := rG_tr (rG_rf h) gk3_
    have Rk3_ : rV k3_ u U := rV_G W.1.1 R h38 Gk3_
    have Ck3_ : cT k3_ T n := cT_G C Gk3_
    refine eR_istn_n2 dX4_readCoat_11 rfl (by decide) rfl ?_
    refine eR_aldn_0 dX4_readCoat_12 rfl ?_
    refine eR_aldn_1 dX4_readCoat_13 rfl ?_
    refine eR_ildn_2 dX4_readCoat_14 rfl ?_
    refine eR_callVi [_, _] rfl dX4_readCoat_15 ok_mX4_readOther kw_462 rfl rfl th_1 rfl (Nat.le_of_ble_eq_true rfl) (d' := 2) (by decide) (Nat.le_of_ble_eq_true rfl) ?_
    refine kt_other (i := x1_.2.2) (p := x1_.1) B Ck3_ TT W Rk3_ h38 hP1 (by omega) (by omega) ak3_ ok3_ (fun x4_ vx4_ y5_ ex4_ hvx4_ gy5_ jy5_ oy5_ xy5_ => ?_) (fun x4_ y6_ ex4_ qx4_ gy6_ jy6_ oy6_ xy6_ => ?_) (fun x4_ k7_ ex4_ qx4_ gk7_ ak7_ nk7_ ok7_ xk7_ => ?_)
    · have nx4_ := num_l (by omega) ex4_
      have Gy5_ : rG h y5_ := rG_tr Gk3_ gy5_
      have Ry5_ : rV y5_ u U := rV_G W.1.1 R h38 Gy5_
      refine eR_istn_n3 dX4_readCoat_18 rfl (by decide) rfl ?_
      refine eR_aldn_0 dX4_readCoat_19 rfl ?_
      refine eR_ic dX4_readCoat_20 ?_
      refine eR_bi (z := 99) dX4_readCoat_21 rfl ?_
      refine eR_callVi [_, _] rfl dX4_readCoat_23 ok_mX4_readNumber kw_450 rfl rfl th_1 rfl (Nat.le_of_ble_eq_true rfl) (d' := 1) (by decide) (Nat.le_of_ble_eq_true rfl) ?_
      refine kt_number_f (f := x4_.1) oy5_ (by omega) (by omega) ?_
      refine eR_ist_n4 dX4_readCoat_26 (by decide) rfl ?_
      refine eR_aldn_0 dX4_readCoat_28 rfl ?_
      refine eR_callVi [] rfl dX4_readCoat_29 ok_mX4_clauseEnds kw_454 rfl rfl th_1 rfl (Nat.le_of_ble_eq_true rfl) (d' := 1) (by decide) (Nat.le_of_ble_eq_true rfl) ?_
      refine kt_ends_f (f := x4_.1) oy5_ (by omega) (by omega) ?_
      refine eR_if_eq (tgt := 43) dX4_readCoat_32 (by decide) (by first | exact rg_b01 _ | (unfold rg; omega)) (fun c32 => ?_) (fun c32 => absurd c32 (by decide))
      refine eR_vret dX4_readCoat_43 rfl ?_
      have e9 : rdC T n U i = .inl (x4_.1, x4_.2) := by
        unfold rdC
        simp only [ex1_, ex4_] <;> first | rfl | (rw [if_pos (by first | omega | exact Or.inr (by assumption) | exact Or.inl (by omega))]; done) | (rw [if_neg (by first | omega | (rintro (q1 | q1); omega; exact absurd q1 (by assumption)))]; done)
      exact k y5_ (rE_l (by rw [e9]; rfl) Gy5_ Ry5_ jy5_ oy5_ xy5_)
    · have nx4_ := num_r (by omega) ex4_
      have Gy6_ : rG h y6_ := rG_tr Gk3_ gy6_
      have Ry6_ : rV y6_ u U := rV_G W.1.1 R h38 Gy6_
      refine eR_istn_n3 dX4_readCoat_18 rfl (by decide) rfl ?_
      refine eR_aldn_0 dX4_readCoat_19 rfl ?_
      refine eR_ic dX4_readCoat_20 ?_
      refine eR_bi (z := 99) dX4_readCoat_21 rfl ?_
      refine eR_callVi [_, _] rfl dX4_readCoat_23 ok_mX4_readNumber kw_450 rfl rfl th_1 rfl (Nat.le_of_ble_eq_true rfl) (d' := 1) (by decide) (Nat.le_of_ble_eq_true rfl) ?_
      refine kt_number_f (f := 4) oy6_ (by omega) (by omega) ?_
      refine eR_ist_n4 dX4_readCoat_26 (by decide) rfl ?_
      refine eR_aldn_0 dX4_readCoat_28 rfl ?_
      refine eR_callVi [] rfl dX4_readCoat_29 ok_mX4_clauseEnds kw_454 rfl rfl th_1 rfl (Nat.le_of_ble_eq_true rfl) (d' := 1) (by decide) (Nat.le_of_ble_eq_true rfl) ?_
      refine kt_ends_f (f := 4) oy6_ (by omega) (by omega) ?_
      refine eR_if_eq (tgt := 43) dX4_readCoat_32 (by decide) (by first | exact rg_b01 _ | (unfold rg; omega)) (fun c32 => ?_) (fun c32 => absurd c32 (by decide))
      refine eR_vret dX4_readCoat_43 rfl ?_
      have e9 : rdC T n U i = .inl (4, x4_.2.1) := by
        unfold rdC
        simp only [ex1_, ex4_] <;> first | rfl | (rw [if_pos (by first | omega | exact Or.inr (by assumption) | exact Or.inl (by omega))]; done) | (rw [if_neg (by first | omega | (rintro (q1 | q1); omega; exact absurd q1 (by assumption)))]; done)
      exact k y6_ (rE_l (by rw [e9]; rfl) Gy6_ Ry6_ jy6_ oy6_ xy6_)
    · have nx4_ := num_r (by omega) ex4_
      have Gk7_ : rG h k7_ := rG_tr Gk3_ gk7_
      have Rk7_ : rV k7_ u U := rV_G W.1.1 R h38 Gk7_
      have Ck7_ : cT k7_ T n := cT_G C Gk7_
      refine eR_istn_n3 dX4_readCoat_18 rfl (by decide) rfl ?_
      refine eR_aldn_0 dX4_readCoat_19 rfl ?_
      refine eR_ic dX4_readCoat_20 ?_
      refine eR_bi (z := 99) dX4_readCoat_21 rfl ?_
      refine eR_callVi [_, _] rfl dX4_readCoat_23 ok_mX4_readNumber kw_450 rfl rfl th_1 rfl (Nat.le_of_ble_eq_true rfl) (d' := 1) (by decide) (Nat.le_of_ble_eq_true rfl) ?_
      refine kt_number (i := x4_.2.2) (lo := 1) (hi := 99) B Ck7_ (by omega) (by omega) (by omega) ak7_ ok7_ (fun x8_ vx8_ y9_ ex8_ hvx8_ gy9_ jy9_ oy9_ xy9_ => ?_) (fun x8_ k10_ ex8_ gk10_ ak10_ nk10_ ok10_ xk10_ => ?_)
      · have nx8_ := num_l (by omega) ex8_
        have Gy9_ : rG h y9_ := rG_tr Gk7_ gy9_
        have Ry9_ : rV y9_ u U := rV_G W.1.1 R h38 Gy9_
        refine eR_ist_n4 dX4_readCoat_26 (by decide) rfl ?_
        refine eR_aldn_0 dX4_readCoat_28 rfl ?_
        refine eR_callVi [] rfl dX4_readCoat_29 ok_mX4_clauseEnds kw_454 rfl rfl th_1 rfl (Nat.le_of_ble_eq_true rfl) (d' := 1) (by decide) (Nat.le_of_ble_eq_true rfl) ?_
        refine kt_ends_f (f := x8_.1) oy9_ (by omega) (by omega) ?_
        refine eR_if_eq (tgt := 43) dX4_readCoat_32 (by decide) (by first | exact rg_b01 _ | (unfold rg; omega)) (fun c32 => ?_) (fun c32 => absurd c32 (by decide))
        refine eR_vret dX4_readCoat_43 rfl ?_
        have e9 : rdC T n U i = .inl (x8_.1, x8_.2) := by
          unfold rdC
          simp only [ex1_, ex4_, ex8_] <;> first | rfl | (rw [if_pos (by first | omega | exact Or.inr (by assumption) | exact Or.inl (by omega))]; done) | (rw [if_neg (by first | omega | (rintro (q1 | q1); omega; exact absurd q1 (by assumption)))]; done)
        exact k y9_ (rE_l (by rw [e9]; rfl) Gy9_ Ry9_ jy9_ oy9_ xy9_)
      · have nx8_ := num_r (by omega) ex8_
        have Gk10_ : rG h k10_ := rG_tr Gk7_ gk10_
        have Rk10_ : rV k10_ u U := rV_G W.1.1 R h38 Gk10_
        have Ck10_ : cT k10_ T n := cT_G C Gk10_
        refine eR_ist_n4 dX4_readCoat_26 (by decide) rfl ?_
        refine eR_aldn_0 dX4_readCoat_28 rfl ?_
        refine eR_callVi [] rfl dX4_readCoat_29 ok_mX4_clauseEnds kw_454 rfl rfl th_1 rfl (Nat.le_of_ble_eq_true rfl) (d' := 1) (by decide) (Nat.le_of_ble_eq_true rfl) ?_
        refine kt_ends (i := x8_.2.2) B Ck10_ (by omega) ak10_ ok10_ (fun ck12_ k12_ gk12_ ak12_ ok12_ xk12_ => ?_) (fun cy11_ y11_ gy11_ jy11_ oy11_ xy11_ => ?_)
        · have Gk12_ : rG h k12_ := rG_tr Gk10_ gk12_
          have Rk12_ : rV k12_ u U := rV_G W.1.1 R h38 Gk12_
          have Ck12_ : cT k12_ T n := cT_G C Gk12_
          refine eR_if_eq (tgt := 43) dX4_readCoat_32 (by decide) (by first | exact rg_b01 _ | (unfold rg; omega)) (fun c32 => absurd c32 (by decide)) (fun c32 => ?_)
          refine eR_aldn_1 dX4_readCoat_35 rfl ?_
          refine eR_ildn_2 dX4_readCoat_36 rfl ?_
          refine eR_ildn_3 dX4_readCoat_37 rfl ?_
          refine eR_ild_4 dX4_readCoat_38 ?_
          refine eR_callVv [_, _, _] rfl dX4_readCoat_40 ok_mX6_addCoat kw_466 rfl rfl TT.1 rfl (Nat.le_of_ble_eq_true rfl) (d' := 0) (by decide) (Nat.le_of_ble_eq_true rfl) ?_
          refine tn_addCoat (U := U) (p := x1_.1) (q := x4_.1) (w := x8_.1) TT W.1.1 Rk12_ hC (fun z9 gz Rz => ?_)
          refine eR_vret dX4_readCoat_43 rfl ?_
          have e9 : rdC T n U i = .inr (uO U (adC U.1 x1_.1 x4_.1 x8_.1), x8_.2.2) := by
            unfold rdC
            simp only [ex1_, ex4_, ex8_] <;> first | rfl | (rw [if_pos (by first | omega | exact Or.inr (by assumption) | exact Or.inl (by omega))]; done) | (rw [if_neg (by first | omega | (rintro (q1 | q1); omega; exact absurd q1 (by assumption)))]; done)
          exact k _ (rE_r (by rw [e9]; exact smi_y ck12_) (cG_tr (cG_G Gk12_) (cG_R gz)) Rz (by rw [gz 1 (by omega)]; exact ak12_) (by rw [gz 1 (by omega)]; exact ok12_) (by rw [gz 1 (by omega)]; exact (xk12_.trans (xk10_.trans (xk7_.trans (xk3_.trans rfl))))))
        · have Gy11_ : rG h y11_ := rG_tr Gk10_ gy11_
          have Ry11_ : rV y11_ u U := rV_G W.1.1 R h38 Gy11_
          refine eR_if_eq (tgt := 43) dX4_readCoat_32 (by decide) (by first | exact rg_b01 _ | (unfold rg; omega)) (fun c32 => ?_) (fun c32 => absurd c32 (by decide))
          refine eR_vret dX4_readCoat_43 rfl ?_
          have e9 : rdC T n U i = .inr (uO U (adC U.1 x1_.1 x4_.1 x8_.1), x8_.2.2) := by
            unfold rdC
            simp only [ex1_, ex4_, ex8_] <;> first | rfl | (rw [if_pos (by first | omega | exact Or.inr (by assumption) | exact Or.inl (by omega))]; done) | (rw [if_neg (by first | omega | (rintro (q1 | q1); omega; exact absurd q1 (by assumption)))]; done)
          exact k y11_ (rE_l (by rw [e9]; exact smi_n cy11_) Gy11_ Ry11_ jy11_ oy11_ xy11_)
theorem kt_goes (B : tB T n) (C : cT h T n) (TT : isTn (tau t s) u) (W : uD U) (R : rV h u U) (h38 : 38 ≤ u) (hP1 : 1 ≤ sP U.1) (hE : sE U.1 < 10) {i : Nat} (hi : i ≤ n) (hA : h 1 2 = (i : Int)) (hO : h 1 3 = 0) (k : ∀ h1 : PH, rE n h h1 u U (smi T n (rdG T n U i)) → Q .null (tau t s) h1) : eX g 3 mX4_readGoes 0 (lv_args 0 [.ref (gA g 1), .ref (gA g u)]) [] (tau t s) h Q := by
  show eX g 3 mX4_readGoes 0 [(0, .ref (gA g 1)), (1, .ref (gA g u))] [] (tau t s) h Q
  have hP8 := W.1.1.1
  have hn9 := B.1
  have hC8 := W.1.1.2.1
  have hE10 := W.1.1.2.2.1
  refine eR_aldn_0 dX4_readGoes_0 rfl ?_
  refine eR_ic dX4_readGoes_1 ?_
  refine eR_aldn_1 dX4_readGoes_2 rfl ?_
  refine eR_getI dX4_readGoes_3 gf_X4_56 TT.1 rfl ?_
  refine eX_pcI (R.1.1) ?_
  refine eR_ic dX4_readGoes_6 ?_
  refine eR_isub dX4_readGoes_7 ?_
  refine eX_pcI (show (↑(sP U.1) - 1 : Int) = ↑(sP U.1 - 1 : Nat) from by omega) ?_
  refine eR_callVi [_, _] rfl dX4_readGoes_8 ok_mX4_readNumber kw_450 rfl rfl th_1 rfl (Nat.le_of_ble_eq_true rfl) (d' := 1) (by decide) (Nat.le_of_ble_eq_true rfl) ?_
  refine kt_number (i := i) (lo := 0) (hi := (sP U.1 - 1)) B C (by omega) (by omega) (by omega) hA hO (fun x1_ vx1_ y2_ ex1_ hvx1_ gy2_ jy2_ oy2_ xy2_ => ?_) (fun x1_ k3_ ex1_ gk3_ ak3_ nk3_ ok3_ xk3_ => ?_)
  · have nx1_ := num_l (by omega) ex1_
    have Gy2_ : rG h y2_ := rG_tr (rG_rf h) gy2_
    have Ry2_ : rV y2_ u U := rV_G W.1.1 R h38 Gy2_
    refine eR_istn_n2 dX4_readGoes_11 rfl (by decide) rfl ?_
    refine eR_aldn_0 dX4_readGoes_12 rfl ?_
    refine eR_ic dX4_readGoes_13 ?_
    refine eR_ic dX4_readGoes_14 ?_
    refine eR_callVi [_, _] rfl dX4_readGoes_15 ok_mX4_readNumber kw_450 rfl rfl th_1 rfl (Nat.le_of_ble_eq_true rfl) (d' := 1) (by decide) (Nat.le_of_ble_eq_true rfl) ?_
    refine kt_number_f (f := x1_.1) oy2_ (by omega) (by omega) ?_
    refine eR_istn_n3 dX4_readGoes_18 rfl (by decide) rfl ?_
    refine eR_aldn_0 dX4_readGoes_19 rfl ?_
    refine eR_ic dX4_readGoes_20 ?_
    refine eR_bi (z := 23) dX4_readGoes_21 rfl ?_
    refine eR_callVi [_, _] rfl dX4_readGoes_23 ok_mX4_readNumber kw_450 rfl rfl th_1 rfl (Nat.le_of_ble_eq_true rfl) (d' := 1) (by decide) (Nat.le_of_ble_eq_true rfl) ?_
    refine kt_number_f (f := x1_.1) oy2_ (by omega) (by omega) ?_
    refine eR_ist_n4 dX4_readGoes_26 (by decide) rfl ?_
    refine eR_aldn_0 dX4_readGoes_28 rfl ?_
    refine eR_ic dX4_readGoes_29 ?_
    refine eR_bi (z := 23) dX4_readGoes_30 rfl ?_
    refine eR_callVi [_, _] rfl dX4_readGoes_32 ok_mX4_readNumber kw_450 rfl rfl th_1 rfl (Nat.le_of_ble_eq_true rfl) (d' := 1) (by decide) (Nat.le_of_ble_eq_true rfl) ?_
    refine kt_number_f (f := x1_.1) oy2_ (by omega) (by omega) ?_
    refine eR_ist_n5 dX4_readGoes_35 (by decide) rfl ?_
    refine eR_aldn_0 dX4_readGoes_37 rfl ?_
    refine eR_getI dX4_readGoes_38 gf_X4_22 th_1 rfl ?_
    refine eX_pcI (oy2_) ?_
    refine eR_if_ne (tgt := 72) dX4_readGoes_41 (by decide) (by first | exact rg_b01 _ | (unfold rg; omega)) (fun c41 => ?_) (fun c41 => absurd c41 (by omega))
    refine eR_aldn_0 dX4_readGoes_72 rfl ?_
    refine eR_callVi [] rfl dX4_readGoes_73 ok_mX4_clauseEnds kw_454 rfl rfl th_1 rfl (Nat.le_of_ble_eq_true rfl) (d' := 1) (by decide) (Nat.le_of_ble_eq_true rfl) ?_
    refine kt_ends_f (f := x1_.1) oy2_ (by omega) (by omega) ?_
    refine eR_if_eq (tgt := 89) dX4_readGoes_76 (by decide) (by first | exact rg_b01 _ | (unfold rg; omega)) (fun c76 => ?_) (fun c76 => absurd c76 (by decide))
    refine eR_vret dX4_readGoes_89 rfl ?_
    have e9 : rdG T n U i = .inl (x1_.1, x1_.2) := by
      unfold rdG
      simp only [ex1_] <;> first | rfl | (rw [if_pos (by first | omega | exact Or.inr (by assumption) | exact Or.inl (by omega))]; done) | (rw [if_neg (by first | omega | (rintro (q1 | q1); omega; exact absurd q1 (by assumption)))]; done)
    exact k y2_ (rE_l (by rw [e9]; rfl) Gy2_ Ry2_ jy2_ oy2_ xy2_)
  · have nx1_ := num_r (by omega) ex1_
    have Gk3_ : rG h k3_ := rG_tr (rG_rf h) gk3_
    have Rk3_ : rV k3_ u U := rV_G W.1.1 R h38 Gk3_
    have Ck3_ : cT k3_ T n := cT_G C Gk3_
    refine eR_istn_n2 dX4_readGoes_11 rfl (by decide) rfl ?_
    refine eR_aldn_0 dX4_readGoes_12 rfl ?_
    refine eR_ic dX4_readGoes_13 ?_
    refine eR_ic dX4_readGoes_14 ?_
    refine eR_callVi [_, _] rfl dX4_readGoes_15 ok_mX4_readNumber kw_450 rfl rfl th_1 rfl (Nat.le_of_ble_eq_true rfl) (d' := 1) (by decide) (Nat.le_of_ble_eq_true rfl) ?_
    refine kt_number (i := x1_.2.2) (lo := 0) (hi := 5) B Ck3_ (by omega) (by omega) (by omega) ak3_ ok3_ (fun x4_ vx4_ y5_ ex4_ hvx4_ gy5_ jy5_ oy5_ xy5_ => ?_) (fun x4_ k6_ ex4_ gk6_ ak6_ nk6_ ok6_ xk6_ => ?_)
    · have nx4_ := num_l (by omega) ex4_
      have Gy5_ : rG h y5_ := rG_tr Gk3_ gy5_
      have Ry5_ : rV y5_ u U := rV_G W.1.1 R h38 Gy5_
      refine eR_istn_n3 dX4_readGoes_18 rfl (by decide) rfl ?_
      refine eR_aldn_0 dX4_readGoes_19 rfl ?_
      refine eR_ic dX4_readGoes_20 ?_
      refine eR_bi (z := 23) dX4_readGoes_21 rfl ?_
      refine eR_callVi [_, _] rfl dX4_readGoes_23 ok_mX4_readNumber kw_450 rfl rfl th_1 rfl (Nat.le_of_ble_eq_true rfl) (d' := 1) (by decide) (Nat.le_of_ble_eq_true rfl) ?_
      refine kt_number_f (f := x4_.1) oy5_ (by omega) (by omega) ?_
      refine eR_ist_n4 dX4_readGoes_26 (by decide) rfl ?_
      refine eR_aldn_0 dX4_readGoes_28 rfl ?_
      refine eR_ic dX4_readGoes_29 ?_
      refine eR_bi (z := 23) dX4_readGoes_30 rfl ?_
      refine eR_callVi [_, _] rfl dX4_readGoes_32 ok_mX4_readNumber kw_450 rfl rfl th_1 rfl (Nat.le_of_ble_eq_true rfl) (d' := 1) (by decide) (Nat.le_of_ble_eq_true rfl) ?_
      refine kt_number_f (f := x4_.1) oy5_ (by omega) (by omega) ?_
      refine eR_ist_n5 dX4_readGoes_35 (by decide) rfl ?_
      refine eR_aldn_0 dX4_readGoes_37 rfl ?_
      refine eR_getI dX4_readGoes_38 gf_X4_22 th_1 rfl ?_
      refine eX_pcI (oy5_) ?_
      refine eR_if_ne (tgt := 72) dX4_readGoes_41 (by decide) (by first | exact rg_b01 _ | (unfold rg; omega)) (fun c41 => ?_) (fun c41 => absurd c41 (by omega))
      refine eR_aldn_0 dX4_readGoes_72 rfl ?_
      refine eR_callVi [] rfl dX4_readGoes_73 ok_mX4_clauseEnds kw_454 rfl rfl th_1 rfl (Nat.le_of_ble_eq_true rfl) (d' := 1) (by decide) (Nat.le_of_ble_eq_true rfl) ?_
      refine kt_ends_f (f := x4_.1) oy5_ (by omega) (by omega) ?_
      refine eR_if_eq (tgt := 89) dX4_readGoes_76 (by decide) (by first | exact rg_b01 _ | (unfold rg; omega)) (fun c76 => ?_) (fun c76 => absurd c76 (by decide))
      refine eR_vret dX4_readGoes_89 rfl ?_
      have e9 : rdG T n U i = .inl (x4_.1, x4_.2) := by
        unfold rdG
        simp only [ex1_, ex4_] <;> first | rfl | (rw [if_pos (by first | omega | exact Or.inr (by assumption) | exact Or.inl (by omega))]; done) | (rw [if_neg (by first | omega | (rintro (q1 | q1); omega; exact absurd q1 (by assumption)))]; done)
      exact k y5_ (rE_l (by rw [e9]; rfl) Gy5_ Ry5_ jy5_ oy5_ xy5_)
    · have nx4_ := num_r (by omega) ex4_
      have Gk6_ : rG h k6_ := rG_tr Gk3_ gk6_
      have Rk6_ : rV k6_ u U := rV_G W.1.1 R h38 Gk6_
      have Ck6_ : cT k6_ T n := cT_G C Gk6_
      refine eR_istn_n3 dX4_readGoes_18 rfl (by decide) rfl ?_
      refine eR_aldn_0 dX4_readGoes_19 rfl ?_
      refine eR_ic dX4_readGoes_20 ?_
      refine eR_bi (z := 23) dX4_readGoes_21 rfl ?_
      refine eR_callVi [_, _] rfl dX4_readGoes_23 ok_mX4_readNumber kw_450 rfl rfl th_1 rfl (Nat.le_of_ble_eq_true rfl) (d' := 1) (by decide) (Nat.le_of_ble_eq_true rfl) ?_
      refine kt_number (i := x4_.2.2) (lo := 0) (hi := 23) B Ck6_ (by omega) (by omega) (by omega) ak6_ ok6_ (fun x7_ vx7_ y8_ ex7_ hvx7_ gy8_ jy8_ oy8_ xy8_ => ?_) (fun x7_ k9_ ex7_ gk9_ ak9_ nk9_ ok9_ xk9_ => ?_)
      · have nx7_ := num_l (by omega) ex7_
        have Gy8_ : rG h y8_ := rG_tr Gk6_ gy8_
        have Ry8_ : rV y8_ u U := rV_G W.1.1 R h38 Gy8_
        refine eR_ist_n4 dX4_readGoes_26 (by decide) rfl ?_
        refine eR_aldn_0 dX4_readGoes_28 rfl ?_
        refine eR_ic dX4_readGoes_29 ?_
        refine eR_bi (z := 23) dX4_readGoes_30 rfl ?_
        refine eR_callVi [_, _] rfl dX4_readGoes_32 ok_mX4_readNumber kw_450 rfl rfl th_1 rfl (Nat.le_of_ble_eq_true rfl) (d' := 1) (by decide) (Nat.le_of_ble_eq_true rfl) ?_
        refine kt_number_f (f := x7_.1) oy8_ (by omega) (by omega) ?_
        refine eR_ist_n5 dX4_readGoes_35 (by decide) rfl ?_
        refine eR_aldn_0 dX4_readGoes_37 rfl ?_
        refine eR_getI dX4_readGoes_38 gf_X4_22 th_1 rfl ?_
        refine eX_pcI (oy8_) ?_
        refine eR_if_ne (tgt := 72) dX4_readGoes_41 (by decide) (by first | exact rg_b01 _ | (unfold rg; omega)) (fun c41 => ?_) (fun c41 => absurd c41 (by omega))
        refine eR_aldn_0 dX4_readGoes_72 rfl ?_
        refine eR_callVi [] rfl dX4_readGoes_73 ok_mX4_clauseEnds kw_454 rfl rfl th_1 rfl (Nat.le_of_ble_eq_true rfl) (d' := 1) (by decide) (Nat.le_of_ble_eq_true rfl) ?_
        refine kt_ends_f (f := x7_.1) oy8_ (by omega) (by omega) ?_
        refine eR_if_eq (tgt := 89) dX4_readGoes_76 (by decide) (by first | exact rg_b01 _ | (unfold rg; omega)) (fun c76 => ?_) (fun c76 => absurd c76 (by decide))
        refine eR_vret dX4_readGoes_89 rfl ?_
        have e9 : rdG T n U i = .inl (x7_.1, x7_.2) := by
          unfold rdG
          simp only [ex1_, ex4_, ex7_] <;> first | rfl | (rw [if_pos (by first | omega | exact Or.inr (by assumption) | exact Or.inl (by omega))]; done) | (rw [if_neg (by first | omega | (rintro (q1 | q1); omega; exact absurd q1 (by assumption)))]; done)
        exact k y8_ (rE_l (by rw [e9]; rfl) Gy8_ Ry8_ jy8_ oy8_ xy8_)
      · have nx7_ := num_r (by omega) ex7_
        have Gk9_ : rG h k9_ := rG_tr Gk6_ gk9_
        have Rk9_ : rV k9_ u U := rV_G W.1.1 R h38 Gk9_
        have Ck9_ : cT k9_ T n := cT_G C Gk9_
        refine eR_ist_n4 dX4_readGoes_26 (by decide) rfl ?_
        refine eR_aldn_0 dX4_readGoes_28 rfl ?_
        refine eR_ic dX4_readGoes_29 ?_
        refine eR_bi (z := 23) dX4_readGoes_30 rfl ?_
        refine eR_callVi [_, _] rfl dX4_readGoes_32 ok_mX4_readNumber kw_450 rfl rfl th_1 rfl (Nat.le_of_ble_eq_true rfl) (d' := 1) (by decide) (Nat.le_of_ble_eq_true rfl) ?_
        refine kt_number (i := x7_.2.2) (lo := 0) (hi := 23) B Ck9_ (by omega) (by omega) (by omega) ak9_ ok9_ (fun x10_ vx10_ y11_ ex10_ hvx10_ gy11_ jy11_ oy11_ xy11_ => ?_) (fun x10_ k12_ ex10_ gk12_ ak12_ nk12_ ok12_ xk12_ => ?_)
        · have nx10_ := num_l (by omega) ex10_
          have Gy11_ : rG h y11_ := rG_tr Gk9_ gy11_
          have Ry11_ : rV y11_ u U := rV_G W.1.1 R h38 Gy11_
          refine eR_ist_n5 dX4_readGoes_35 (by decide) rfl ?_
          refine eR_aldn_0 dX4_readGoes_37 rfl ?_
          refine eR_getI dX4_readGoes_38 gf_X4_22 th_1 rfl ?_
          refine eX_pcI (oy11_) ?_
          refine eR_if_ne (tgt := 72) dX4_readGoes_41 (by decide) (by first | exact rg_b01 _ | (unfold rg; omega)) (fun c41 => ?_) (fun c41 => absurd c41 (by omega))
          refine eR_aldn_0 dX4_readGoes_72 rfl ?_
          refine eR_callVi [] rfl dX4_readGoes_73 ok_mX4_clauseEnds kw_454 rfl rfl th_1 rfl (Nat.le_of_ble_eq_true rfl) (d' := 1) (by decide) (Nat.le_of_ble_eq_true rfl) ?_
          refine kt_ends_f (f := x10_.1) oy11_ (by omega) (by omega) ?_
          refine eR_if_eq (tgt := 89) dX4_readGoes_76 (by decide) (by first | exact rg_b01 _ | (unfold rg; omega)) (fun c76 => ?_) (fun c76 => absurd c76 (by decide))
          refine eR_vret dX4_readGoes_89 rfl ?_
          have e9 : rdG T n U i = .inl (x10_.1, x10_.2) := by
            unfold rdG
            simp only [ex1_, ex4_, ex7_, ex10_] <;> first | rfl | (rw [if_pos (by first | omega | exact Or.inr (by assumption) | exact Or.inl (by omega))]; done) | (rw [if_neg (by first | omega | (rintro (q1 | q1); omega; exact absurd q1 (by assumption)))]; done)
          exact k y11_ (rE_l (by rw [e9]; rfl) Gy11_ Ry11_ jy11_ oy11_ xy11_)
        · have nx10_ := num_r (by omega) ex10_
          have Gk12_ : rG h k12_ := rG_tr Gk9_ gk12_
          have Rk12_ : rV k12_ u U := rV_G W.1.1 R h38 Gk12_
          have Ck12_ : cT k12_ T n := cT_G C Gk12_
          refine eR_ist_n5 dX4_readGoes_35 (by decide) rfl ?_
          refine eR_aldn_0 dX4_readGoes_37 rfl ?_
          refine eR_getI dX4_readGoes_38 gf_X4_22 th_1 rfl ?_
          refine eX_pcI (ok12_) ?_
          refine eR_if_ne (tgt := 72) dX4_readGoes_41 (by decide) (by first | exact rg_b01 _ | (unfold rg; omega)) (fun c41 => absurd c41 (by decide)) (fun c41 => ?_)
          refine eR_ild_5 dX4_readGoes_44 ?_
          refine eR_ild_4 dX4_readGoes_46 ?_
          refine eR_icmp_lt (tgt := 63) dX4_readGoes_48 (by decide) (by first | exact rg_b01 _ | (unfold rg; omega)) (by first | exact rg_b01 _ | (unfold rg; omega)) (fun c48 => ?_) (fun c48 => ?_)
          · refine eR_aldn_0 dX4_readGoes_63 rfl ?_
            refine eR_ic dX4_readGoes_64 ?_
            refine eR_aldn_0 dX4_readGoes_65 rfl ?_
            refine eR_getI dX4_readGoes_66 gf_X4_28 th_1 rfl ?_
            refine eX_pcI (nk12_) ?_
            refine eR_callVv [_, _] rfl dX4_readGoes_69 ok_mX4_fail kw_438 rfl rfl th_1 rfl (Nat.le_of_ble_eq_true rfl) (d' := 0) (by decide) (Nat.le_of_ble_eq_true rfl) ?_
            refine kt_fail_n ok12_ ?_
            obtain ⟨y13_, hy13_⟩ : ∃ g9, g9 = hU (hU k12_ 1 3 4) 1 4 ↑x10_.2.1 := ⟨_, rfl⟩
            rw [← hy13_]
            have gy13_ : rG k12_ y13_ := by rw [hy13_]; exact rG_w (rG_w (rG_rf _) (by omega)) (by omega)
            have oy13_ : y13_ 1 3 = ((4 : Nat) : Int) := by rw [hy13_]; exact (hU_i _ _ _ (by decide)).trans (hU_s _ _ _ _)
            have xy13_ : y13_ 1 4 = ((x10_.2.1 : Nat) : Int) := by rw [hy13_]; exact hU_s _ _ _ _
            have jy13_ : ∃ j : Nat, j ≤ n ∧ y13_ 1 2 = (j : Int) := ⟨x10_.2.2, by omega, by rw [hy13_]; exact ((hU_i _ _ _ (by decide)).trans (hU_i _ _ _ (by decide))).trans ak12_⟩
            have Gy13_ : rG h y13_ := rG_tr Gk12_ gy13_
            have Ry13_ : rV y13_ u U := rV_G W.1.1 R h38 Gy13_
            refine eR_aldn_0 dX4_readGoes_72 rfl ?_
            refine eR_callVi [] rfl dX4_readGoes_73 ok_mX4_clauseEnds kw_454 rfl rfl th_1 rfl (Nat.le_of_ble_eq_true rfl) (d' := 1) (by decide) (Nat.le_of_ble_eq_true rfl) ?_
            refine kt_ends_f (f := 4) oy13_ (by omega) (by omega) ?_
            refine eR_if_eq (tgt := 89) dX4_readGoes_76 (by decide) (by first | exact rg_b01 _ | (unfold rg; omega)) (fun c76 => ?_) (fun c76 => absurd c76 (by decide))
            refine eR_vret dX4_readGoes_89 rfl ?_
            have e9 : rdG T n U i = .inl (4, x10_.2.1) := by
              unfold rdG
              simp only [ex1_, ex4_, ex7_, ex10_] <;> first | rfl | (rw [if_pos (by first | omega | exact Or.inr (by assumption) | exact Or.inl (by omega))]; done) | (rw [if_neg (by first | omega | (rintro (q1 | q1); omega; exact absurd q1 (by assumption)))]; done)
            exact k y13_ (rE_l (by rw [e9]; rfl) Gy13_ Ry13_ jy13_ oy13_ xy13_)
          · refine eR_aldn_1 dX4_readGoes_51 rfl ?_
            refine eR_ildn_2 dX4_readGoes_52 rfl ?_
            refine eR_ild_4 dX4_readGoes_53 ?_
            refine eR_ild_5 dX4_readGoes_55 ?_
            refine eR_callVi [_, _, _] rfl dX4_readGoes_57 ok_mX6_isOutWithin kw_474 rfl rfl TT.1 rfl (Nat.le_of_ble_eq_true rfl) (d' := 0) (by decide) (Nat.le_of_ble_eq_true rfl) ?_
            refine tn_out (U := U) (p := x1_.1) (a := x7_.1) (b := x10_.1) TT W.1.1 Rk12_ (by omega) (by omega) (by omega) ?_
            refine eR_if_eq (tgt := 72) dX4_readGoes_60 (by decide) (by first | exact rg_b01 _ | (unfold rg; omega)) (fun c60 => ?_) (fun c60 => ?_)
            · replace c60 := b01_eq0.mp c60
              refine eR_aldn_0 dX4_readGoes_72 rfl ?_
              refine eR_callVi [] rfl dX4_readGoes_73 ok_mX4_clauseEnds kw_454 rfl rfl th_1 rfl (Nat.le_of_ble_eq_true rfl) (d' := 1) (by decide) (Nat.le_of_ble_eq_true rfl) ?_
              refine kt_ends (i := x10_.2.2) B Ck12_ (by omega) ak12_ ok12_ (fun ck15_ k15_ gk15_ ak15_ ok15_ xk15_ => ?_) (fun cy14_ y14_ gy14_ jy14_ oy14_ xy14_ => ?_)
              · have Gk15_ : rG h k15_ := rG_tr Gk12_ gk15_
                have Rk15_ : rV k15_ u U := rV_G W.1.1 R h38 Gk15_
                have Ck15_ : cT k15_ T n := cT_G C Gk15_
                refine eR_if_eq (tgt := 89) dX4_readGoes_76 (by decide) (by first | exact rg_b01 _ | (unfold rg; omega)) (fun c76 => absurd c76 (by decide)) (fun c76 => ?_)
                refine eR_aldn_1 dX4_readGoes_79 rfl ?_
                refine eR_ildn_2 dX4_readGoes_80 rfl ?_
                refine eR_ildn_3 dX4_readGoes_81 rfl ?_
                refine eR_ild_4 dX4_readGoes_82 ?_
                refine eR_ild_5 dX4_readGoes_84 ?_
                refine eR_callVv [_, _, _, _] rfl dX4_readGoes_86 ok_mX6_addErrand kw_478 rfl rfl TT.1 rfl (Nat.le_of_ble_eq_true rfl) (d' := 0) (by decide) (Nat.le_of_ble_eq_true rfl) ?_
                refine tn_addErrand (U := U) (p := x1_.1) (x := x4_.1) (a := x7_.1) (b := x10_.1) TT W.1.1 Rk15_ hE (by omega) (by omega) (by omega) (by assumption) (fun z9 gz Rz => ?_)
                refine eR_vret dX4_readGoes_89 rfl ?_
                have e9 : rdG T n U i = .inr (uO U (adE U.1 x1_.1 x4_.1 x7_.1 x10_.1), x10_.2.2) := by
                  unfold rdG
                  simp only [ex1_, ex4_, ex7_, ex10_] <;> first | rfl | (rw [if_pos (by first | omega | exact Or.inr (by assumption) | exact Or.inl (by omega))]; done) | (rw [if_neg (by first | omega | (rintro (q1 | q1); omega; exact absurd q1 (by assumption)))]; done)
                exact k _ (rE_r (by rw [e9]; exact smi_y ck15_) (cG_tr (cG_G Gk15_) (cG_R gz)) Rz (by rw [gz 1 (by omega)]; exact ak15_) (by rw [gz 1 (by omega)]; exact ok15_) (by rw [gz 1 (by omega)]; exact (xk15_.trans (xk12_.trans (xk9_.trans (xk6_.trans (xk3_.trans rfl)))))))
              · have Gy14_ : rG h y14_ := rG_tr Gk12_ gy14_
                have Ry14_ : rV y14_ u U := rV_G W.1.1 R h38 Gy14_
                refine eR_if_eq (tgt := 89) dX4_readGoes_76 (by decide) (by first | exact rg_b01 _ | (unfold rg; omega)) (fun c76 => ?_) (fun c76 => absurd c76 (by decide))
                refine eR_vret dX4_readGoes_89 rfl ?_
                have e9 : rdG T n U i = .inr (uO U (adE U.1 x1_.1 x4_.1 x7_.1 x10_.1), x10_.2.2) := by
                  unfold rdG
                  simp only [ex1_, ex4_, ex7_, ex10_] <;> first | rfl | (rw [if_pos (by first | omega | exact Or.inr (by assumption) | exact Or.inl (by omega))]; done) | (rw [if_neg (by first | omega | (rintro (q1 | q1); omega; exact absurd q1 (by assumption)))]; done)
                exact k y14_ (rE_l (by rw [e9]; exact smi_n cy14_) Gy14_ Ry14_ jy14_ oy14_ xy14_)
            · replace c60 := b01_ne0.mp c60
              refine eR_aldn_0 dX4_readGoes_63 rfl ?_
              refine eR_ic dX4_readGoes_64 ?_
              refine eR_aldn_0 dX4_readGoes_65 rfl ?_
              refine eR_getI dX4_readGoes_66 gf_X4_28 th_1 rfl ?_
              refine eX_pcI (nk12_) ?_
              refine eR_callVv [_, _] rfl dX4_readGoes_69 ok_mX4_fail kw_438 rfl rfl th_1 rfl (Nat.le_of_ble_eq_true rfl) (d' := 0) (by decide) (Nat.le_of_ble_eq_true rfl) ?_
              refine kt_fail_n ok12_ ?_
              obtain ⟨y16_, hy16_⟩ : ∃ g9, g9 = hU (hU k12_ 1 3 4) 1 4 ↑x10_.2.1 := ⟨_, rfl⟩
              rw [← hy16_]
              have gy16_ : rG k12_ y16_ := by rw [hy16_]; exact rG_w (rG_w (rG_rf _) (by omega)) (by omega)
              have oy16_ : y16_ 1 3 = ((4 : Nat) : Int) := by rw [hy16_]; exact (hU_i _ _ _ (by decide)).trans (hU_s _ _ _ _)
              have xy16_ : y16_ 1 4 = ((x10_.2.1 : Nat) : Int) := by rw [hy16_]; exact hU_s _ _ _ _
              have jy16_ : ∃ j : Nat, j ≤ n ∧ y16_ 1 2 = (j : Int) := ⟨x10_.2.2, by omega, by rw [hy16_]; exact ((hU_i _ _ _ (by decide)).trans (hU_i _ _ _ (by decide))).trans ak12_⟩
              have Gy16_ : rG h y16_ := rG_tr Gk12_ gy16_
              have Ry16_ : rV y16_ u U := rV_G W.1.1 R h38 Gy16_
              refine eR_aldn_0 dX4_readGoes_72 rfl ?_
              refine eR_callVi [] rfl dX4_readGoes_73 ok_mX4_clauseEnds kw_454 rfl rfl th_1 rfl (Nat.le_of_ble_eq_true rfl) (d' := 1) (by decide) (Nat.le_of_ble_eq_true rfl) ?_
              refine kt_ends_f (f := 4) oy16_ (by omega) (by omega) ?_
              refine eR_if_eq (tgt := 89) dX4_readGoes_76 (by decide) (by first | exact rg_b01 _ | (unfold rg; omega)) (fun c76 => ?_) (fun c76 => absurd c76 (by decide))
              refine eR_vret dX4_readGoes_89 rfl ?_
              have e9 : rdG T n U i = .inl (4, x10_.2.1) := by
                unfold rdG
                simp only [ex1_, ex4_, ex7_, ex10_] <;> first | rfl | (rw [if_pos (by first | omega | exact Or.inr (by assumption) | exact Or.inl (by omega))]; done) | (rw [if_neg (by first | omega | (rintro (q1 | q1); omega; exact absurd q1 (by assumption)))]; done)
              exact k y16_ (rE_l (by rw [e9]; rfl) Gy16_ Ry16_ jy16_ oy16_ xy16_)
theorem kt_likes (B : tB T n) (C : cT h T n) (TT : isTn (tau t s) u) (W : uD U) (R : rV h u U) (h38 : 38 ≤ u) (hP1 : 1 ≤ sP U.1) {i : Nat} (hi : i ≤ n) (hA : h 1 2 = (i : Int)) (hO : h 1 3 = 0) (k : ∀ h1 : PH, rE n h h1 u U (smi T n (rdL T n U i)) → Q .null (tau t s) h1) : eX g 3 mX4_readLikes 0 (lv_args 0 [.ref (gA g 1), .ref (gA g u)]) [] (tau t s) h Q := by
  show eX g 3 mX4_readLikes 0 [(0, .ref (gA g 1)), (1, .ref (gA g u))] [] (tau t s) h Q
  have hP8 := W.1.1.1
  have hn9 := B.1
  have hC8 := W.1.1.2.1
  have hE10 := W.1.1.2.2.1
  refine eR_aldn_0 dX4_readLikes_0 rfl ?_
  refine eR_ic dX4_readLikes_1 ?_
  refine eR_aldn_1 dX4_readLikes_2 rfl ?_
  refine eR_getI dX4_readLikes_3 gf_X4_56 TT.1 rfl ?_
  refine eX_pcI (R.1.1) ?_
  refine eR_ic dX4_readLikes_6 ?_
  refine eR_isub dX4_readLikes_7 ?_
  refine eX_pcI (show (↑(sP U.1) - 1 : Int) = ↑(sP U.1 - 1 : Nat) from by omega) ?_
  refine eR_callVi [_, _] rfl dX4_readLikes_8 ok_mX4_readNumber kw_450 rfl rfl th_1 rfl (Nat.le_of_ble_eq_true rfl) (d' := 1) (by decide) (Nat.le_of_ble_eq_true rfl) ?_
  refine kt_number (i := i) (lo := 0) (hi := (sP U.1 - 1)) B C (by omega) (by omega) (by omega) hA hO (fun x1_ vx1_ y2_ ex1_ hvx1_ gy2_ jy2_ oy2_ xy2_ => ?_) (fun x1_ k3_ ex1_ gk3_ ak3_ nk3_ ok3_ xk3_ => ?_)
  · have nx1_ := num_l (by omega) ex1_
    have Gy2_ : rG h y2_ := rG_tr (rG_rf h) gy2_
    have Ry2_ : rV y2_ u U := rV_G W.1.1 R h38 Gy2_
    refine eR_istn_n2 dX4_readLikes_11 rfl (by decide) rfl ?_
    refine eR_aldn_0 dX4_readLikes_12 rfl ?_
    refine eR_aldn_1 dX4_readLikes_13 rfl ?_
    refine eR_ildn_2 dX4_readLikes_14 rfl ?_
    refine eR_callVi [_, _] rfl dX4_readLikes_15 ok_mX4_readOther kw_462 rfl rfl th_1 rfl (Nat.le_of_ble_eq_true rfl) (d' := 2) (by decide) (Nat.le_of_ble_eq_true rfl) ?_
    refine kt_other_f (f := x1_.1) TT W Ry2_ oy2_ (by omega) (by omega) (by unfold rg; omega) ?_
    refine eR_istn_n3 dX4_readLikes_18 rfl (by decide) rfl ?_
    refine eR_aldn_0 dX4_readLikes_19 rfl ?_
    refine eR_getI dX4_readLikes_20 gf_X4_22 th_1 rfl ?_
    refine eX_pcI (oy2_) ?_
    refine eR_if_ne (tgt := 44) dX4_readLikes_23 (by decide) (by first | exact rg_b01 _ | (unfold rg; omega)) (fun c23 => ?_) (fun c23 => absurd c23 (by omega))
    refine eR_aldn_0 dX4_readLikes_44 rfl ?_
    refine eR_ic dX4_readLikes_45 ?_
    refine eR_bi (z := 99) dX4_readLikes_46 rfl ?_
    refine eR_callVi [_, _] rfl dX4_readLikes_48 ok_mX4_readNumber kw_450 rfl rfl th_1 rfl (Nat.le_of_ble_eq_true rfl) (d' := 1) (by decide) (Nat.le_of_ble_eq_true rfl) ?_
    refine kt_number_f (f := x1_.1) oy2_ (by omega) (by omega) ?_
    refine eR_ist_n4 dX4_readLikes_51 (by decide) rfl ?_
    refine eR_aldn_0 dX4_readLikes_53 rfl ?_
    refine eR_callVi [] rfl dX4_readLikes_54 ok_mX4_clauseEnds kw_454 rfl rfl th_1 rfl (Nat.le_of_ble_eq_true rfl) (d' := 1) (by decide) (Nat.le_of_ble_eq_true rfl) ?_
    refine kt_ends_f (f := x1_.1) oy2_ (by omega) (by omega) ?_
    refine eR_if_eq (tgt := 68) dX4_readLikes_57 (by decide) (by first | exact rg_b01 _ | (unfold rg; omega)) (fun c57 => ?_) (fun c57 => absurd c57 (by decide))
    refine eR_vret dX4_readLikes_68 rfl ?_
    have e9 : rdL T n U i = .inl (x1_.1, x1_.2) := by
      unfold rdL
      simp only [ex1_] <;> first | rfl | (rw [if_pos (by first | omega | exact Or.inr (by assumption) | exact Or.inl (by omega))]; done) | (rw [if_neg (by first | omega | (rintro (q1 | q1); omega; exact absurd q1 (by assumption)))]; done)
    exact k y2_ (rE_l (by rw [e9]; rfl) Gy2_ Ry2_ jy2_ oy2_ xy2_)
  · have nx1_ := num_r (by omega) ex1_
    have Gk3_ : rG h k3_ := rG_tr (rG_rf h) gk3_
    have Rk3_ : rV k3_ u U := rV_G W.1.1 R h38 Gk3_
    have Ck3_ : cT k3_ T n := cT_G C Gk3_
    refine eR_istn_n2 dX4_readLikes_11 rfl (by decide) rfl ?_
    refine eR_aldn_0 dX4_readLikes_12 rfl ?_
    refine eR_aldn_1 dX4_readLikes_13 rfl ?_
    refine eR_ildn_2 dX4_readLikes_14 rfl ?_
    refine eR_callVi [_, _] rfl dX4_readLikes_15 ok_mX4_readOther kw_462 rfl rfl th_1 rfl (Nat.le_of_ble_eq_true rfl) (d' := 2) (by decide) (Nat.le_of_ble_eq_true rfl) ?_
    refine kt_other (i := x1_.2.2) (p := x1_.1) B Ck3_ TT W Rk3_ h38 hP1 (by omega) (by omega) ak3_ ok3_ (fun x4_ vx4_ y5_ ex4_ hvx4_ gy5_ jy5_ oy5_ xy5_ => ?_) (fun x4_ y6_ ex4_ qx4_ gy6_ jy6_ oy6_ xy6_ => ?_) (fun x4_ k7_ ex4_ qx4_ gk7_ ak7_ nk7_ ok7_ xk7_ => ?_)
    · have nx4_ := num_l (by omega) ex4_
      have Gy5_ : rG h y5_ := rG_tr Gk3_ gy5_
      have Ry5_ : rV y5_ u U := rV_G W.1.1 R h38 Gy5_
      refine eR_istn_n3 dX4_readLikes_18 rfl (by decide) rfl ?_
      refine eR_aldn_0 dX4_readLikes_19 rfl ?_
      refine eR_getI dX4_readLikes_20 gf_X4_22 th_1 rfl ?_
      refine eX_pcI (oy5_) ?_
      refine eR_if_ne (tgt := 44) dX4_readLikes_23 (by decide) (by first | exact rg_b01 _ | (unfold rg; omega)) (fun c23 => ?_) (fun c23 => absurd c23 (by omega))
      refine eR_aldn_0 dX4_readLikes_44 rfl ?_
      refine eR_ic dX4_readLikes_45 ?_
      refine eR_bi (z := 99) dX4_readLikes_46 rfl ?_
      refine eR_callVi [_, _] rfl dX4_readLikes_48 ok_mX4_readNumber kw_450 rfl rfl th_1 rfl (Nat.le_of_ble_eq_true rfl) (d' := 1) (by decide) (Nat.le_of_ble_eq_true rfl) ?_
      refine kt_number_f (f := x4_.1) oy5_ (by omega) (by omega) ?_
      refine eR_ist_n4 dX4_readLikes_51 (by decide) rfl ?_
      refine eR_aldn_0 dX4_readLikes_53 rfl ?_
      refine eR_callVi [] rfl dX4_readLikes_54 ok_mX4_clauseEnds kw_454 rfl rfl th_1 rfl (Nat.le_of_ble_eq_true rfl) (d' := 1) (by decide) (Nat.le_of_ble_eq_true rfl) ?_
      refine kt_ends_f (f := x4_.1) oy5_ (by omega) (by omega) ?_
      refine eR_if_eq (tgt := 68) dX4_readLikes_57 (by decide) (by first | exact rg_b01 _ | (unfold rg; omega)) (fun c57 => ?_) (fun c57 => absurd c57 (by decide))
      refine eR_vret dX4_readLikes_68 rfl ?_
      have e9 : rdL T n U i = .inl (x4_.1, x4_.2) := by
        unfold rdL
        simp only [ex1_, ex4_] <;> first | rfl | (rw [if_pos (by first | omega | exact Or.inr (by assumption) | exact Or.inl (by omega))]; done) | (rw [if_neg (by first | omega | (rintro (q1 | q1); omega; exact absurd q1 (by assumption)))]; done)
      exact k y5_ (rE_l (by rw [e9]; rfl) Gy5_ Ry5_ jy5_ oy5_ xy5_)
    · have nx4_ := num_r (by omega) ex4_
      have Gy6_ : rG h y6_ := rG_tr Gk3_ gy6_
      have Ry6_ : rV y6_ u U := rV_G W.1.1 R h38 Gy6_
      refine eR_istn_n3 dX4_readLikes_18 rfl (by decide) rfl ?_
      refine eR_aldn_0 dX4_readLikes_19 rfl ?_
      refine eR_getI dX4_readLikes_20 gf_X4_22 th_1 rfl ?_
      refine eX_pcI (oy6_) ?_
      refine eR_if_ne (tgt := 44) dX4_readLikes_23 (by decide) (by first | exact rg_b01 _ | (unfold rg; omega)) (fun c23 => ?_) (fun c23 => absurd c23 (by omega))
      refine eR_aldn_0 dX4_readLikes_44 rfl ?_
      refine eR_ic dX4_readLikes_45 ?_
      refine eR_bi (z := 99) dX4_readLikes_46 rfl ?_
      refine eR_callVi [_, _] rfl dX4_readLikes_48 ok_mX4_readNumber kw_450 rfl rfl th_1 rfl (Nat.le_of_ble_eq_true rfl) (d' := 1) (by decide) (Nat.le_of_ble_eq_true rfl) ?_
      refine kt_number_f (f := 4) oy6_ (by omega) (by omega) ?_
      refine eR_ist_n4 dX4_readLikes_51 (by decide) rfl ?_
      refine eR_aldn_0 dX4_readLikes_53 rfl ?_
      refine eR_callVi [] rfl dX4_readLikes_54 ok_mX4_clauseEnds kw_454 rfl rfl th_1 rfl (Nat.le_of_ble_eq_true rfl) (d' := 1) (by decide) (Nat.le_of_ble_eq_true rfl) ?_
      refine kt_ends_f (f := 4) oy6_ (by omega) (by omega) ?_
      refine eR_if_eq (tgt := 68) dX4_readLikes_57 (by decide) (by first | exact rg_b01 _ | (unfold rg; omega)) (fun c57 => ?_) (fun c57 => absurd c57 (by decide))
      refine eR_vret dX4_readLikes_68 rfl ?_
      have e9 : rdL T n U i = .inl (4, x4_.2.1) := by
        unfold rdL
        simp only [ex1_, ex4_] <;> first | rfl | (rw [if_pos (by first | omega | exact Or.inr (by assumption) | exact Or.inl (by omega))]; done) | (rw [if_neg (by first | omega | (rintro (q1 | q1); omega; exact absurd q1 (by assumption)))]; done)
      exact k y6_ (rE_l (by rw [e9]; rfl) Gy6_ Ry6_ jy6_ oy6_ xy6_)
    · have nx4_ := num_r (by omega) ex4_
      have Gk7_ : rG h k7_ := rG_tr Gk3_ gk7_
      have Rk7_ : rV k7_ u U := rV_G W.1.1 R h38 Gk7_
      have Ck7_ : cT k7_ T n := cT_G C Gk7_
      refine eR_istn_n3 dX4_readLikes_18 rfl (by decide) rfl ?_
      refine eR_aldn_0 dX4_readLikes_19 rfl ?_
      refine eR_getI dX4_readLikes_20 gf_X4_22 th_1 rfl ?_
      refine eX_pcI (ok7_) ?_
      refine eR_if_ne (tgt := 44) dX4_readLikes_23 (by decide) (by first | exact rg_b01 _ | (unfold rg; omega)) (fun c23 => absurd c23 (by decide)) (fun c23 => ?_)
      refine eR_aldn_1 dX4_readLikes_26 rfl ?_
      refine eR_ildn_2 dX4_readLikes_27 rfl ?_
      refine eR_ildn_3 dX4_readLikes_28 rfl ?_
      refine eR_callVi [_, _] rfl dX4_readLikes_29 ok_mX6_likingIsTold kw_486 rfl rfl TT.1 rfl (Nat.le_of_ble_eq_true rfl) (d' := 0) (by decide) (Nat.le_of_ble_eq_true rfl) ?_
      refine tn_told (U := U) (p := x1_.1) (q := x4_.1) TT W.1.1 Rk7_ (by omega) (by omega) (W.2.2.2 x1_.1) ?_
      refine eR_if_eq (tgt := 44) dX4_readLikes_32 (by decide) (by first | exact rg_b01 _ | (unfold rg; omega)) (fun c32 => ?_) (fun c32 => ?_)
      · replace c32 := b01_eq0.mp c32
        refine eR_aldn_0 dX4_readLikes_44 rfl ?_
        refine eR_ic dX4_readLikes_45 ?_
        refine eR_bi (z := 99) dX4_readLikes_46 rfl ?_
        refine eR_callVi [_, _] rfl dX4_readLikes_48 ok_mX4_readNumber kw_450 rfl rfl th_1 rfl (Nat.le_of_ble_eq_true rfl) (d' := 1) (by decide) (Nat.le_of_ble_eq_true rfl) ?_
        refine kt_number (i := x4_.2.2) (lo := 0) (hi := 99) B Ck7_ (by omega) (by omega) (by omega) ak7_ ok7_ (fun x8_ vx8_ y9_ ex8_ hvx8_ gy9_ jy9_ oy9_ xy9_ => ?_) (fun x8_ k10_ ex8_ gk10_ ak10_ nk10_ ok10_ xk10_ => ?_)
        · have nx8_ := num_l (by omega) ex8_
          have Gy9_ : rG h y9_ := rG_tr Gk7_ gy9_
          have Ry9_ : rV y9_ u U := rV_G W.1.1 R h38 Gy9_
          refine eR_ist_n4 dX4_readLikes_51 (by decide) rfl ?_
          refine eR_aldn_0 dX4_readLikes_53 rfl ?_
          refine eR_callVi [] rfl dX4_readLikes_54 ok_mX4_clauseEnds kw_454 rfl rfl th_1 rfl (Nat.le_of_ble_eq_true rfl) (d' := 1) (by decide) (Nat.le_of_ble_eq_true rfl) ?_
          refine kt_ends_f (f := x8_.1) oy9_ (by omega) (by omega) ?_
          refine eR_if_eq (tgt := 68) dX4_readLikes_57 (by decide) (by first | exact rg_b01 _ | (unfold rg; omega)) (fun c57 => ?_) (fun c57 => absurd c57 (by decide))
          refine eR_vret dX4_readLikes_68 rfl ?_
          have e9 : rdL T n U i = .inl (x8_.1, x8_.2) := by
            unfold rdL
            simp only [ex1_, ex4_, ex8_] <;> first | rfl | (rw [if_pos (by first | omega | exact Or.inr (by assumption) | exact Or.inl (by omega))]; done) | (rw [if_neg (by first | omega | (rintro (q1 | q1); omega; exact absurd q1 (by assumption)))]; done)
          exact k y9_ (rE_l (by rw [e9]; rfl) Gy9_ Ry9_ jy9_ oy9_ xy9_)
        · have nx8_ := num_r (by omega) ex8_
          have Gk10_ : rG h k10_ := rG_tr Gk7_ gk10_
          have Rk10_ : rV k10_ u U := rV_G W.1.1 R h38 Gk10_
          have Ck10_ : cT k10_ T n := cT_G C Gk10_
          refine eR_ist_n4 dX4_readLikes_51 (by decide) rfl ?_
          refine eR_aldn_0 dX4_readLikes_53 rfl ?_
          refine eR_callVi [] rfl dX4_readLikes_54 ok_mX4_clauseEnds kw_454 rfl rfl th_1 rfl (Nat.le_of_ble_eq_true rfl) (d' := 1) (by decide) (Nat.le_of_ble_eq_true rfl) ?_
          refine kt_ends (i := x8_.2.2) B Ck10_ (by omega) ak10_ ok10_ (fun ck12_ k12_ gk12_ ak12_ ok12_ xk12_ => ?_) (fun cy11_ y11_ gy11_ jy11_ oy11_ xy11_ => ?_)
          · have Gk12_ : rG h k12_ := rG_tr Gk10_ gk12_
            have Rk12_ : rV k12_ u U := rV_G W.1.1 R h38 Gk12_
            have Ck12_ : cT k12_ T n := cT_G C Gk12_
            refine eR_if_eq (tgt := 68) dX4_readLikes_57 (by decide) (by first | exact rg_b01 _ | (unfold rg; omega)) (fun c57 => absurd c57 (by decide)) (fun c57 => ?_)
            refine eR_aldn_1 dX4_readLikes_60 rfl ?_
            refine eR_ildn_2 dX4_readLikes_61 rfl ?_
            refine eR_ildn_3 dX4_readLikes_62 rfl ?_
            refine eR_ild_4 dX4_readLikes_63 ?_
            refine eR_callVv [_, _, _] rfl dX4_readLikes_65 ok_mX6_addLiking kw_490 rfl rfl TT.1 rfl (Nat.le_of_ble_eq_true rfl) (d' := 0) (by decide) (Nat.le_of_ble_eq_true rfl) ?_
            refine tn_addLiking (U := U) (p := x1_.1) (q := x4_.1) (l := x8_.1) TT W.1.1 Rk12_ (by omega) (by omega) (W.2.2.2 _) (fun z9 gz Rz => ?_)
            refine eR_vret dX4_readLikes_68 rfl ?_
            have e9 : rdL T n U i = .inr (adL U x1_.1 x4_.1 x8_.1, x8_.2.2) := by
              unfold rdL
              simp only [ex1_, ex4_, ex8_] <;> first | rfl | (rw [if_pos (by first | omega | exact Or.inr (by assumption) | exact Or.inl (by omega))]; done) | (rw [if_neg (by first | omega | (rintro (q1 | q1); omega; exact absurd q1 (by assumption)))]; done)
            exact k _ (rE_r (by rw [e9]; exact smi_y ck12_) (cG_tr (cG_G Gk12_) (cG_R gz)) Rz (by rw [gz 1 (by omega)]; exact ak12_) (by rw [gz 1 (by omega)]; exact ok12_) (by rw [gz 1 (by omega)]; exact (xk12_.trans (xk10_.trans (xk7_.trans (xk3_.trans rfl))))))
          · have Gy11_ : rG h y11_ := rG_tr Gk10_ gy11_
            have Ry11_ : rV y11_ u U := rV_G W.1.1 R h38 Gy11_
            refine eR_if_eq (tgt := 68) dX4_readLikes_57 (by decide) (by first | exact rg_b01 _ | (unfold rg; omega)) (fun c57 => ?_) (fun c57 => absurd c57 (by decide))
            refine eR_vret dX4_readLikes_68 rfl ?_
            have e9 : rdL T n U i = .inr (adL U x1_.1 x4_.1 x8_.1, x8_.2.2) := by
              unfold rdL
              simp only [ex1_, ex4_, ex8_] <;> first | rfl | (rw [if_pos (by first | omega | exact Or.inr (by assumption) | exact Or.inl (by omega))]; done) | (rw [if_neg (by first | omega | (rintro (q1 | q1); omega; exact absurd q1 (by assumption)))]; done)
            exact k y11_ (rE_l (by rw [e9]; exact smi_n cy11_) Gy11_ Ry11_ jy11_ oy11_ xy11_)
      · replace c32 := b01_ne0.mp c32
        refine eR_aldn_0 dX4_readLikes_35 rfl ?_
        refine eR_ic dX4_readLikes_36 ?_
        refine eR_aldn_0 dX4_readLikes_37 rfl ?_
        refine eR_getI dX4_readLikes_38 gf_X4_28 th_1 rfl ?_
        refine eX_pcI (nk7_) ?_
        refine eR_callVv [_, _] rfl dX4_readLikes_41 ok_mX4_fail kw_438 rfl rfl th_1 rfl (Nat.le_of_ble_eq_true rfl) (d' := 0) (by decide) (Nat.le_of_ble_eq_true rfl) ?_
        refine kt_fail_n ok7_ ?_
        obtain ⟨y13_, hy13_⟩ : ∃ g9, g9 = hU (hU k7_ 1 3 4) 1 4 ↑x4_.2.1 := ⟨_, rfl⟩
        rw [← hy13_]
        have gy13_ : rG k7_ y13_ := by rw [hy13_]; exact rG_w (rG_w (rG_rf _) (by omega)) (by omega)
        have oy13_ : y13_ 1 3 = ((4 : Nat) : Int) := by rw [hy13_]; exact (hU_i _ _ _ (by decide)).trans (hU_s _ _ _ _)
        have xy13_ : y13_ 1 4 = ((x4_.2.1 : Nat) : Int) := by rw [hy13_]; exact hU_s _ _ _ _
        have jy13_ : ∃ j : Nat, j ≤ n ∧ y13_ 1 2 = (j : Int) := ⟨x4_.2.2, by omega, by rw [hy13_]; exact ((hU_i _ _ _ (by decide)).trans (hU_i _ _ _ (by decide))).trans ak7_⟩
        have Gy13_ : rG h y13_ := rG_tr Gk7_ gy13_
        have Ry13_ : rV y13_ u U := rV_G W.1.1 R h38 Gy13_
        refine eR_aldn_0 dX4_readLikes_44 rfl ?_
        refine eR_ic dX4_readLikes_45 ?_
        refine eR_bi (z := 99) dX4_readLikes_46 rfl ?_
        refine eR_callVi [_, _] rfl dX4_readLikes_48 ok_mX4_readNumber kw_450 rfl rfl th_1 rfl (Nat.le_of_ble_eq_true rfl) (d' := 1) (by decide) (Nat.le_of_ble_eq_true rfl) ?_
        refine kt_number_f (f := 4) oy13_ (by omega) (by omega) ?_
        refine eR_ist_n4 dX4_readLikes_51 (by decide) rfl ?_
        refine eR_aldn_0 dX4_readLikes_53 rfl ?_
        refine eR_callVi [] rfl dX4_readLikes_54 ok_mX4_clauseEnds kw_454 rfl rfl th_1 rfl (Nat.le_of_ble_eq_true rfl) (d' := 1) (by decide) (Nat.le_of_ble_eq_true rfl) ?_
        refine kt_ends_f (f := 4) oy13_ (by omega) (by omega) ?_
        refine eR_if_eq (tgt := 68) dX4_readLikes_57 (by decide) (by first | exact rg_b01 _ | (unfold rg; omega)) (fun c57 => ?_) (fun c57 => absurd c57 (by decide))
        refine eR_vret dX4_readLikes_68 rfl ?_
        have e9 : rdL T n U i = .inl (4, x4_.2.1) := by
          unfold rdL
          simp only [ex1_, ex4_] <;> first | rfl | (rw [if_pos (by first | omega | exact Or.inr (by assumption) | exact Or.inl (by omega))]; done) | (rw [if_neg (by first | omega | (rintro (q1 | q1); omega; exact absurd q1 (by assumption)))]; done)
        exact k y13_ (rE_l (by rw [e9]; rfl) Gy13_ Ry13_ jy13_ oy13_ xy13_)
theorem kt_many0 (TT : isTn (tau t s) u) (W : uD U) (R : rV h u U) (k : Q (.int (zI (b01 (sP U.1 ≠ 0)))) (tau t s) h) : eX g 0 mX4_isOneTooMany 0 (lv_args 0 [.ref (gA g 1), .ref (gA g u), .int (zI 0)]) [] (tau t s) h Q := by
  show eX g 0 mX4_isOneTooMany 0 [(0, .ref (gA g 1)), (1, .ref (gA g u)), (2, .int (zI 0))] [] (tau t s) h Q
  have hP8 := W.1.1.1
  have hC8 := W.1.1.2.1
  have hE10 := W.1.1.2.2.1
  have hl9 := W.1.2.2.1
  have hf9 := W.1.2.2.2
  refine eR_ildn_2 dX4_isOneTooMany_0 rfl ?_
  refine eR_tabIn (off := 31) (tgt := 32) dX4_isOneTooMany_1 (by unfold rg; omega) (by decide) (by decide) rfl (by decide) ?_
  refine eR_aldn_1 dX4_isOneTooMany_32 rfl ?_
  refine eR_getI dX4_isOneTooMany_33 gf_X4_56 TT.1 rfl ?_
  refine eX_pcI (R.1.1) ?_
  refine eR_if_eq (tgt := 43) dX4_isOneTooMany_36 (by decide) (by first | exact rg_b01 _ | (unfold rg; omega)) (fun c36 => ?_) (fun c36 => ?_)
  · refine eR_ic dX4_isOneTooMany_43 ?_
    refine eR_zret dX4_isOneTooMany_44 rfl (by omega) ?_
    rw [show (b01 (sP U.1 ≠ 0) : Int) = 0 from by first | exact b01_t (by omega) | exact b01_f (by omega)] at k; exact k
  · refine eR_ic dX4_isOneTooMany_39 ?_
    refine eR_goto (tgt := 44) dX4_isOneTooMany_40 (by decide) ?_
    refine eR_zret dX4_isOneTooMany_44 rfl (by omega) ?_
    rw [show (b01 (sP U.1 ≠ 0) : Int) = 1 from by first | exact b01_t (by omega) | exact b01_f (by omega)] at k; exact k
theorem kt_many1 (TT : isTn (tau t s) u) (W : uD U) (R : rV h u U) (k : Q (.int (zI (b01 (8 ≤ sC U.1)))) (tau t s) h) : eX g 0 mX4_isOneTooMany 0 (lv_args 0 [.ref (gA g 1), .ref (gA g u), .int (zI 1)]) [] (tau t s) h Q := by
  show eX g 0 mX4_isOneTooMany 0 [(0, .ref (gA g 1)), (1, .ref (gA g u)), (2, .int (zI 1))] [] (tau t s) h Q
  have hP8 := W.1.1.1
  have hC8 := W.1.1.2.1
  have hE10 := W.1.1.2.2.1
  have hl9 := W.1.2.2.1
  have hf9 := W.1.2.2.2
  refine eR_ildn_2 dX4_isOneTooMany_0 rfl ?_
  refine eR_tabIn (off := 44) (tgt := 45) dX4_isOneTooMany_1 (by unfold rg; omega) (by decide) (by decide) rfl (by decide) ?_
  refine eR_aldn_1 dX4_isOneTooMany_45 rfl ?_
  refine eR_getI dX4_isOneTooMany_46 gf_X4_82 TT.1 rfl ?_
  refine eX_pcI (R.1.2.1) ?_
  refine eR_bi (z := 8) dX4_isOneTooMany_49 rfl ?_
  refine eR_icmp_lt (tgt := 58) dX4_isOneTooMany_51 (by decide) (by first | exact rg_b01 _ | (unfold rg; omega)) (by first | exact rg_b01 _ | (unfold rg; omega)) (fun c51 => ?_) (fun c51 => ?_)
  · refine eR_ic dX4_isOneTooMany_58 ?_
    refine eR_zret dX4_isOneTooMany_59 rfl (by omega) ?_
    rw [show (b01 (8 ≤ sC U.1) : Int) = 0 from by first | exact b01_t (by omega) | exact b01_f (by omega)] at k; exact k
  · refine eR_ic dX4_isOneTooMany_54 ?_
    refine eR_goto (tgt := 59) dX4_isOneTooMany_55 (by decide) ?_
    refine eR_zret dX4_isOneTooMany_59 rfl (by omega) ?_
    rw [show (b01 (8 ≤ sC U.1) : Int) = 1 from by first | exact b01_t (by omega) | exact b01_f (by omega)] at k; exact k
theorem kt_many2 (TT : isTn (tau t s) u) (W : uD U) (R : rV h u U) (k : Q (.int (zI (b01 (10 ≤ sE U.1)))) (tau t s) h) : eX g 0 mX4_isOneTooMany 0 (lv_args 0 [.ref (gA g 1), .ref (gA g u), .int (zI 2)]) [] (tau t s) h Q := by
  show eX g 0 mX4_isOneTooMany 0 [(0, .ref (gA g 1)), (1, .ref (gA g u)), (2, .int (zI 2))] [] (tau t s) h Q
  have hP8 := W.1.1.1
  have hC8 := W.1.1.2.1
  have hE10 := W.1.1.2.2.1
  have hl9 := W.1.2.2.1
  have hf9 := W.1.2.2.2
  refine eR_ildn_2 dX4_isOneTooMany_0 rfl ?_
  refine eR_tabIn (off := 59) (tgt := 60) dX4_isOneTooMany_1 (by unfold rg; omega) (by decide) (by decide) rfl (by decide) ?_
  refine eR_aldn_1 dX4_isOneTooMany_60 rfl ?_
  refine eR_getI dX4_isOneTooMany_61 gf_X4_85 TT.1 rfl ?_
  refine eX_pcI (R.1.2.2.1) ?_
  refine eR_bi (z := 10) dX4_isOneTooMany_64 rfl ?_
  refine eR_icmp_lt (tgt := 73) dX4_isOneTooMany_66 (by decide) (by first | exact rg_b01 _ | (unfold rg; omega)) (by first | exact rg_b01 _ | (unfold rg; omega)) (fun c66 => ?_) (fun c66 => ?_)
  · refine eR_ic dX4_isOneTooMany_73 ?_
    refine eR_zret dX4_isOneTooMany_74 rfl (by omega) ?_
    rw [show (b01 (10 ≤ sE U.1) : Int) = 0 from by first | exact b01_t (by omega) | exact b01_f (by omega)] at k; exact k
  · refine eR_ic dX4_isOneTooMany_69 ?_
    refine eR_goto (tgt := 74) dX4_isOneTooMany_70 (by decide) ?_
    refine eR_zret dX4_isOneTooMany_74 rfl (by omega) ?_
    rw [show (b01 (10 ≤ sE U.1) : Int) = 1 from by first | exact b01_t (by omega) | exact b01_f (by omega)] at k; exact k
theorem kt_many3 (TT : isTn (tau t s) u) (W : uD U) (R : rV h u U) (k : Q (.int (zI (b01 (30 ≤ U.2.1)))) (tau t s) h) : eX g 0 mX4_isOneTooMany 0 (lv_args 0 [.ref (gA g 1), .ref (gA g u), .int (zI 3)]) [] (tau t s) h Q := by
  show eX g 0 mX4_isOneTooMany 0 [(0, .ref (gA g 1)), (1, .ref (gA g u)), (2, .int (zI 3))] [] (tau t s) h Q
  have hP8 := W.1.1.1
  have hC8 := W.1.1.2.1
  have hE10 := W.1.1.2.2.1
  have hl9 := W.1.2.2.1
  have hf9 := W.1.2.2.2
  refine eR_ildn_2 dX4_isOneTooMany_0 rfl ?_
  refine eR_tabIn (off := 74) (tgt := 75) dX4_isOneTooMany_1 (by unfold rg; omega) (by decide) (by decide) rfl (by decide) ?_
  refine eR_aldn_1 dX4_isOneTooMany_75 rfl ?_
  refine eR_getI dX4_isOneTooMany_76 gf_X4_88 TT.1 rfl ?_
  refine eX_pcI (R.2.2.1) ?_
  refine eR_bi (z := 30) dX4_isOneTooMany_79 rfl ?_
  refine eR_icmp_lt (tgt := 88) dX4_isOneTooMany_81 (by decide) (by first | exact rg_b01 _ | (unfold rg; omega)) (by first | exact rg_b01 _ | (unfold rg; omega)) (fun c81 => ?_) (fun c81 => ?_)
  · refine eR_ic dX4_isOneTooMany_88 ?_
    refine eR_zret dX4_isOneTooMany_89 rfl (by omega) ?_
    rw [show (b01 (30 ≤ U.2.1) : Int) = 0 from by first | exact b01_t (by omega) | exact b01_f (by omega)] at k; exact k
  · refine eR_ic dX4_isOneTooMany_84 ?_
    refine eR_goto (tgt := 89) dX4_isOneTooMany_85 (by decide) ?_
    refine eR_zret dX4_isOneTooMany_89 rfl (by omega) ?_
    rw [show (b01 (30 ≤ U.2.1) : Int) = 1 from by first | exact b01_t (by omega) | exact b01_f (by omega)] at k; exact k
theorem kt_many4 (TT : isTn (tau t s) u) (W : uD U) (R : rV h u U) (k : Q (.int (zI (b01 (U.2.2.2 ≠ 0)))) (tau t s) h) : eX g 0 mX4_isOneTooMany 0 (lv_args 0 [.ref (gA g 1), .ref (gA g u), .int (zI 4)]) [] (tau t s) h Q := by
  show eX g 0 mX4_isOneTooMany 0 [(0, .ref (gA g 1)), (1, .ref (gA g u)), (2, .int (zI 4))] [] (tau t s) h Q
  have hP8 := W.1.1.1
  have hC8 := W.1.1.2.1
  have hE10 := W.1.1.2.2.1
  have hl9 := W.1.2.2.1
  have hf9 := W.1.2.2.2
  refine eR_ildn_2 dX4_isOneTooMany_0 rfl ?_
  refine eR_tabOut (tgt := 90) dX4_isOneTooMany_1 (by unfold rg; omega) (by decide) (by decide) ?_
  refine eR_aldn_1 dX4_isOneTooMany_90 rfl ?_
  refine eR_getZ dX4_isOneTooMany_91 gf_X4_91 TT.1 rfl ?_
  refine eX_pcI (R.2.2.2.1) ?_
  refine eR_zret dX4_isOneTooMany_94 rfl (by omega) ?_
  rw [show (b01 (U.2.2.2 ≠ 0) : Int) = ↑U.2.2.2 from by first | exact b01_t (by omega) | exact b01_f (by omega) | (unfold b01; split <;> omega)] at k; exact k
end M55
