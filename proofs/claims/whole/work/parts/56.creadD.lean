theorem rE_G {n u : Nat} {h h1 h2 : PH} {U : PU} {r : RU} (g : rG h h1) (x : h1 1 4 = h 1 4) (E : rE n h1 h2 u U r) : rE n h h2 u U r := by
  refine ⟨cG_tr (cG_G g) E.1, ?_⟩
  cases r with
  | inl y => exact E.2
  | inr y => exact ⟨E.2.1, E.2.2.1, E.2.2.2.1, E.2.2.2.2.trans x⟩
section M56
variable {g : EG} {d t s u : Nat} {h h1 : PH} {Q : EQ} {S : TS} {T : Nat → Nat} {n : Nat} {U : PU}
theorem kt_clause (hF : gF g = true) (B : tB T n) (C : cT h T n) (TT : isTn (tau t s) u) (W : uD U) (R : rV h u U) (h38 : 38 ≤ u) {i : Nat} (hi : i ≤ n) (hA : h 1 2 = (i : Int)) (hO : h 1 3 = 0) (k : ∀ h1 : PH, rE n h h1 u U (smi T n (clz T n U i)) → Q .null (tau t s) h1) : eX g 6 mX4_readClause 0 (lv_args 0 [.ref (gA g 1), .ref (gA g u)]) [] (tau t s) h Q := by
  show eX g 6 mX4_readClause 0 [(0, .ref (gA g 1)), (1, .ref (gA g u))] [] (tau t s) h Q
  have hP8 := W.1.1.1
  have hn9 := B.1
  have he9 := sk_le (f := isL) (T := T) hi
  have hC8 := W.1.1.2.1
  have hE10 := W.1.1.2.2.1
  have hl9 := W.1.2.2.1
  have hf9 := W.1.2.2.2
  by_cases w0 : wrd T i (sk isL T n i) wPe = true
  · refine eR_aldn_0 dX4_readClause_0 rfl ?_
    refine eR_getI dX4_readClause_1 gf_X4_19 th_1 rfl ?_
    refine eX_pcI (hA) ?_
    refine eR_istn_n2 dX4_readClause_4 rfl (by decide) rfl ?_
    refine eR_aldn_0 dX4_readClause_5 rfl ?_
    refine eR_callVv [] rfl dX4_readClause_6 ok_mX4_skipLetters kw_373 rfl rfl th_1 rfl (Nat.le_of_ble_eq_true rfl) (d' := 0) (by decide) (Nat.le_of_ble_eq_true rfl) ?_
    refine kt_skipLetters (i0 := i) B C hi hA (fun b1 hF1 ab1 => ?_)
    have Gb1 : rG h b1 := rG_A hF1
    have Rb1 : rV b1 u U := rV_G W.1.1 R h38 Gb1
    have Cb1 : cT b1 T n := cT_G C Gb1
    have ob1 : b1 1 3 = 0 := (hF1 1 3 (by omega)).trans hO
    have xb1 : b1 1 4 = h 1 4 := hF1 1 4 (by omega)
    refine eR_aldn_0 dX4_readClause_9 rfl ?_
    refine eR_ildn_2 dX4_readClause_10 rfl ?_
    refine eR_callVi [_] rfl dX4_readClause_11 ok_mX4_kindOfWord kw_377 rfl rfl th_1 rfl (Nat.le_of_ble_eq_true rfl) (d' := 5) (by decide) (Nat.le_of_ble_eq_true rfl) ?_
    refine kt_kind (i := i) (e := (sk isL T n i)) B Cb1 hF he9.1 he9.2 ab1 ?_
    refine eX_pcI (show ((if wrd T i (sk isL T n i) wPe = true then 0 else if wrd T i (sk isL T n i) wCo = true then 1 else if wrd T i (sk isL T n i) wGo = true then 2 else if wrd T i (sk isL T n i) wLi = true then 3 else if wrd T i (sk isL T n i) wFr = true then 4 else -1) : Int) = 0 from by rw [if_pos w0]) ?_
    refine eR_istn_n3 dX4_readClause_14 rfl (by decide) rfl ?_
    refine eR_ildn_3 dX4_readClause_15 rfl ?_
    refine eR_ic dX4_readClause_16 ?_
    refine eR_icmp_eq (tgt := 31) dX4_readClause_17 (by decide) (by first | exact rg_b01 _ | (unfold rg; omega)) (by first | exact rg_b01 _ | (unfold rg; omega)) (fun c17 => absurd c17 (by decide)) (fun c17 => ?_)
    refine eR_ildn_3 dX4_readClause_20 rfl ?_
    refine eR_if_eq (tgt := 38) dX4_readClause_21 (by decide) (by first | exact rg_b01 _ | (unfold rg; omega)) (fun c21 => ?_) (fun c21 => absurd c21 (by decide))
    refine eR_aldn_0 dX4_readClause_38 rfl ?_
    refine eR_aldn_1 dX4_readClause_39 rfl ?_
    refine eR_ildn_3 dX4_readClause_40 rfl ?_
    refine eR_callVi [_, _] rfl dX4_readClause_41 ok_mX4_isOneTooMany kw_442 rfl rfl th_1 rfl (Nat.le_of_ble_eq_true rfl) (d' := 0) (by decide) (Nat.le_of_ble_eq_true rfl) ?_
    refine kt_many0 TT W Rb1 ?_
    refine eR_if_eq (tgt := 54) dX4_readClause_44 (by decide) (by first | exact rg_b01 _ | (unfold rg; omega)) (fun c44 => ?_) (fun c44 => ?_)
    · replace c44 := b01_eq0.mp c44
      refine eR_ildn_3 dX4_readClause_54 rfl ?_
      refine eR_tabIn (off := 29) (tgt := 84) dX4_readClause_55 (by unfold rg; omega) (by decide) (by decide) rfl (by decide) ?_
      refine eR_aldn_0 dX4_readClause_84 rfl ?_
      refine eR_aldn_1 dX4_readClause_85 rfl ?_
      refine eR_callVv [_] rfl dX4_readClause_86 ok_mX4_readPeople kw_446 rfl rfl th_1 rfl (Nat.le_of_ble_eq_true rfl) (d' := 2) (by decide) (Nat.le_of_ble_eq_true rfl) ?_
      refine kt_people (i := (sk isL T n i)) B Cb1 TT W Rb1 h38 (by omega) ab1 ob1 (fun b2 hE2 => ?_)
      refine eR_goto (tgt := 121) dX4_readClause_89 (by decide) ?_
      refine eR_vret dX4_readClause_121 rfl ?_
      have e9 : clz T n U i = rdP T n U (sk isL T n i) := by
        unfold clz
        rw [if_pos w0, if_pos (by omega)]
      rw [e9] at k
      exact k b2 (rE_G Gb1 xb1 hE2)
    · replace c44 := b01_ne0.mp c44
      refine eR_aldn_0 dX4_readClause_47 rfl ?_
      refine eR_ic dX4_readClause_48 ?_
      refine eR_ildn_2 dX4_readClause_49 rfl ?_
      refine eR_callVv [_, _] rfl dX4_readClause_50 ok_mX4_fail kw_438 rfl rfl th_1 rfl (Nat.le_of_ble_eq_true rfl) (d' := 0) (by decide) (Nat.le_of_ble_eq_true rfl) ?_
      refine kt_fail_n ob1 ?_
      obtain ⟨y1_, hy1_⟩ : ∃ g9, g9 = hU (hU b1 1 3 3) 1 4 ↑i := ⟨_, rfl⟩
      rw [← hy1_]
      have gy1_ : rG b1 y1_ := by rw [hy1_]; exact rG_w (rG_w (rG_rf _) (by omega)) (by omega)
      have oy1_ : y1_ 1 3 = ((3 : Nat) : Int) := by rw [hy1_]; exact (hU_i _ _ _ (by decide)).trans (hU_s _ _ _ _)
      have xy1_ : y1_ 1 4 = ((i : Nat) : Int) := by rw [hy1_]; exact hU_s _ _ _ _
      have jy1_ : ∃ j : Nat, j ≤ n ∧ y1_ 1 2 = (j : Int) := ⟨(sk isL T n i), by omega, by rw [hy1_]; exact ((hU_i _ _ _ (by decide)).trans (hU_i _ _ _ (by decide))).trans ab1⟩
      have Gy1_ : rG h y1_ := rG_tr Gb1 gy1_
      have Ry1_ : rV y1_ u U := rV_G W.1.1 R h38 Gy1_
      refine eR_vret dX4_readClause_53 rfl ?_
      have e9 : clz T n U i = .inl (3, i) := by
        unfold clz
        rw [if_pos w0, if_neg (by omega)]
      rw [e9] at k
      exact k y1_ (rE_l rfl Gy1_ Ry1_ jy1_ oy1_ xy1_)
  · skip
    by_cases w1 : wrd T i (sk isL T n i) wCo = true
    · refine eR_aldn_0 dX4_readClause_0 rfl ?_
      refine eR_getI dX4_readClause_1 gf_X4_19 th_1 rfl ?_
      refine eX_pcI (hA) ?_
      refine eR_istn_n2 dX4_readClause_4 rfl (by decide) rfl ?_
      refine eR_aldn_0 dX4_readClause_5 rfl ?_
      refine eR_callVv [] rfl dX4_readClause_6 ok_mX4_skipLetters kw_373 rfl rfl th_1 rfl (Nat.le_of_ble_eq_true rfl) (d' := 0) (by decide) (Nat.le_of_ble_eq_true rfl) ?_
      refine kt_skipLetters (i0 := i) B C hi hA (fun b1 hF1 ab1 => ?_)
      have Gb1 : rG h b1 := rG_A hF1
      have Rb1 : rV b1 u U := rV_G W.1.1 R h38 Gb1
      have Cb1 : cT b1 T n := cT_G C Gb1
      have ob1 : b1 1 3 = 0 := (hF1 1 3 (by omega)).trans hO
      have xb1 : b1 1 4 = h 1 4 := hF1 1 4 (by omega)
      refine eR_aldn_0 dX4_readClause_9 rfl ?_
      refine eR_ildn_2 dX4_readClause_10 rfl ?_
      refine eR_callVi [_] rfl dX4_readClause_11 ok_mX4_kindOfWord kw_377 rfl rfl th_1 rfl (Nat.le_of_ble_eq_true rfl) (d' := 5) (by decide) (Nat.le_of_ble_eq_true rfl) ?_
      refine kt_kind (i := i) (e := (sk isL T n i)) B Cb1 hF he9.1 he9.2 ab1 ?_
      refine eX_pcI (show ((if wrd T i (sk isL T n i) wPe = true then 0 else if wrd T i (sk isL T n i) wCo = true then 1 else if wrd T i (sk isL T n i) wGo = true then 2 else if wrd T i (sk isL T n i) wLi = true then 3 else if wrd T i (sk isL T n i) wFr = true then 4 else -1) : Int) = 1 from by rw [if_neg w0, if_pos w1]) ?_
      refine eR_istn_n3 dX4_readClause_14 rfl (by decide) rfl ?_
      refine eR_ildn_3 dX4_readClause_15 rfl ?_
      refine eR_ic dX4_readClause_16 ?_
      refine eR_icmp_eq (tgt := 31) dX4_readClause_17 (by decide) (by first | exact rg_b01 _ | (unfold rg; omega)) (by first | exact rg_b01 _ | (unfold rg; omega)) (fun c17 => absurd c17 (by decide)) (fun c17 => ?_)
      refine eR_ildn_3 dX4_readClause_20 rfl ?_
      refine eR_if_eq (tgt := 38) dX4_readClause_21 (by decide) (by first | exact rg_b01 _ | (unfold rg; omega)) (fun c21 => absurd c21 (by decide)) (fun c21 => ?_)
      refine eR_aldn_1 dX4_readClause_24 rfl ?_
      refine eR_getI dX4_readClause_25 gf_X4_56 TT.1 rfl ?_
      refine eX_pcI (Rb1.1.1) ?_
      refine eR_if_ne (tgt := 38) dX4_readClause_28 (by decide) (by first | exact rg_b01 _ | (unfold rg; omega)) (fun c28 => ?_) (fun c28 => ?_)
      · refine eR_aldn_0 dX4_readClause_38 rfl ?_
        refine eR_aldn_1 dX4_readClause_39 rfl ?_
        refine eR_ildn_3 dX4_readClause_40 rfl ?_
        refine eR_callVi [_, _] rfl dX4_readClause_41 ok_mX4_isOneTooMany kw_442 rfl rfl th_1 rfl (Nat.le_of_ble_eq_true rfl) (d' := 0) (by decide) (Nat.le_of_ble_eq_true rfl) ?_
        refine kt_many1 TT W Rb1 ?_
        refine eR_if_eq (tgt := 54) dX4_readClause_44 (by decide) (by first | exact rg_b01 _ | (unfold rg; omega)) (fun c44 => ?_) (fun c44 => ?_)
        · replace c44 := b01_eq0.mp c44
          refine eR_ildn_3 dX4_readClause_54 rfl ?_
          refine eR_tabIn (off := 37) (tgt := 92) dX4_readClause_55 (by unfold rg; omega) (by decide) (by decide) rfl (by decide) ?_
          refine eR_aldn_0 dX4_readClause_92 rfl ?_
          refine eR_aldn_1 dX4_readClause_93 rfl ?_
          refine eR_callVv [_] rfl dX4_readClause_94 ok_mX4_readCoat kw_458 rfl rfl th_1 rfl (Nat.le_of_ble_eq_true rfl) (d' := 3) (by decide) (Nat.le_of_ble_eq_true rfl) ?_
          refine kt_coat (i := (sk isL T n i)) B Cb1 TT W Rb1 h38 (by omega) (by omega) (by omega) ab1 ob1 (fun b2 hE2 => ?_)
          refine eR_goto (tgt := 121) dX4_readClause_97 (by decide) ?_
          refine eR_vret dX4_readClause_121 rfl ?_
          have e9 : clz T n U i = rdC T n U (sk isL T n i) := by
            unfold clz
            rw [if_neg w0, if_neg (by omega), if_pos w1, if_pos (by omega)]
          rw [e9] at k
          exact k b2 (rE_G Gb1 xb1 hE2)
        · replace c44 := b01_ne0.mp c44
          refine eR_aldn_0 dX4_readClause_47 rfl ?_
          refine eR_ic dX4_readClause_48 ?_
          refine eR_ildn_2 dX4_readClause_49 rfl ?_
          refine eR_callVv [_, _] rfl dX4_readClause_50 ok_mX4_fail kw_438 rfl rfl th_1 rfl (Nat.le_of_ble_eq_true rfl) (d' := 0) (by decide) (Nat.le_of_ble_eq_true rfl) ?_
          refine kt_fail_n ob1 ?_
          obtain ⟨y1_, hy1_⟩ : ∃ g9, g9 = hU (hU b1 1 3 3) 1 4 ↑i := ⟨_, rfl⟩
          rw [← hy1_]
          have gy1_ : rG b1 y1_ := by rw [hy1_]; exact rG_w (rG_w (rG_rf _) (by omega)) (by omega)
          have oy1_ : y1_ 1 3 = ((3 : Nat) : Int) := by rw [hy1_]; exact (hU_i _ _ _ (by decide)).trans (hU_s _ _ _ _)
          have xy1_ : y1_ 1 4 = ((i : Nat) : Int) := by rw [hy1_]; exact hU_s _ _ _ _
          have jy1_ : ∃ j : Nat, j ≤ n ∧ y1_ 1 2 = (j : Int) := ⟨(sk isL T n i), by omega, by rw [hy1_]; exact ((hU_i _ _ _ (by decide)).trans (hU_i _ _ _ (by decide))).trans ab1⟩
          have Gy1_ : rG h y1_ := rG_tr Gb1 gy1_
          have Ry1_ : rV y1_ u U := rV_G W.1.1 R h38 Gy1_
          refine eR_vret dX4_readClause_53 rfl ?_
          have e9 : clz T n U i = .inl (3, i) := by
            unfold clz
            rw [if_neg w0, if_neg (by omega), if_pos w1, if_neg (by omega)]
          rw [e9] at k
          exact k y1_ (rE_l rfl Gy1_ Ry1_ jy1_ oy1_ xy1_)
      · refine eR_aldn_0 dX4_readClause_31 rfl ?_
        refine eR_ic dX4_readClause_32 ?_
        refine eR_ildn_2 dX4_readClause_33 rfl ?_
        refine eR_callVv [_, _] rfl dX4_readClause_34 ok_mX4_fail kw_438 rfl rfl th_1 rfl (Nat.le_of_ble_eq_true rfl) (d' := 0) (by decide) (Nat.le_of_ble_eq_true rfl) ?_
        refine kt_fail_n ob1 ?_
        obtain ⟨y2_, hy2_⟩ : ∃ g9, g9 = hU (hU b1 1 3 1) 1 4 ↑i := ⟨_, rfl⟩
        rw [← hy2_]
        have gy2_ : rG b1 y2_ := by rw [hy2_]; exact rG_w (rG_w (rG_rf _) (by omega)) (by omega)
        have oy2_ : y2_ 1 3 = ((1 : Nat) : Int) := by rw [hy2_]; exact (hU_i _ _ _ (by decide)).trans (hU_s _ _ _ _)
        have xy2_ : y2_ 1 4 = ((i : Nat) : Int) := by rw [hy2_]; exact hU_s _ _ _ _
        have jy2_ : ∃ j : Nat, j ≤ n ∧ y2_ 1 2 = (j : Int) := ⟨(sk isL T n i), by omega, by rw [hy2_]; exact ((hU_i _ _ _ (by decide)).trans (hU_i _ _ _ (by decide))).trans ab1⟩
        have Gy2_ : rG h y2_ := rG_tr Gb1 gy2_
        have Ry2_ : rV y2_ u U := rV_G W.1.1 R h38 Gy2_
        refine eR_vret dX4_readClause_37 rfl ?_
        have e9 : clz T n U i = .inl (1, i) := by
          unfold clz
          rw [if_neg w0, if_pos (by omega)]
        rw [e9] at k
        exact k y2_ (rE_l rfl Gy2_ Ry2_ jy2_ oy2_ xy2_)
    · skip
      by_cases w2 : wrd T i (sk isL T n i) wGo = true
      · refine eR_aldn_0 dX4_readClause_0 rfl ?_
        refine eR_getI dX4_readClause_1 gf_X4_19 th_1 rfl ?_
        refine eX_pcI (hA) ?_
        refine eR_istn_n2 dX4_readClause_4 rfl (by decide) rfl ?_
        refine eR_aldn_0 dX4_readClause_5 rfl ?_
        refine eR_callVv [] rfl dX4_readClause_6 ok_mX4_skipLetters kw_373 rfl rfl th_1 rfl (Nat.le_of_ble_eq_true rfl) (d' := 0) (by decide) (Nat.le_of_ble_eq_true rfl) ?_
        refine kt_skipLetters (i0 := i) B C hi hA (fun b1 hF1 ab1 => ?_)
        have Gb1 : rG h b1 := rG_A hF1
        have Rb1 : rV b1 u U := rV_G W.1.1 R h38 Gb1
        have Cb1 : cT b1 T n := cT_G C Gb1
        have ob1 : b1 1 3 = 0 := (hF1 1 3 (by omega)).trans hO
        have xb1 : b1 1 4 = h 1 4 := hF1 1 4 (by omega)
        refine eR_aldn_0 dX4_readClause_9 rfl ?_
        refine eR_ildn_2 dX4_readClause_10 rfl ?_
        refine eR_callVi [_] rfl dX4_readClause_11 ok_mX4_kindOfWord kw_377 rfl rfl th_1 rfl (Nat.le_of_ble_eq_true rfl) (d' := 5) (by decide) (Nat.le_of_ble_eq_true rfl) ?_
        refine kt_kind (i := i) (e := (sk isL T n i)) B Cb1 hF he9.1 he9.2 ab1 ?_
        refine eX_pcI (show ((if wrd T i (sk isL T n i) wPe = true then 0 else if wrd T i (sk isL T n i) wCo = true then 1 else if wrd T i (sk isL T n i) wGo = true then 2 else if wrd T i (sk isL T n i) wLi = true then 3 else if wrd T i (sk isL T n i) wFr = true then 4 else -1) : Int) = 2 from by rw [if_neg w0, if_neg w1, if_pos w2]) ?_
        refine eR_istn_n3 dX4_readClause_14 rfl (by decide) rfl ?_
        refine eR_ildn_3 dX4_readClause_15 rfl ?_
        refine eR_ic dX4_readClause_16 ?_
        refine eR_icmp_eq (tgt := 31) dX4_readClause_17 (by decide) (by first | exact rg_b01 _ | (unfold rg; omega)) (by first | exact rg_b01 _ | (unfold rg; omega)) (fun c17 => absurd c17 (by decide)) (fun c17 => ?_)
        refine eR_ildn_3 dX4_readClause_20 rfl ?_
        refine eR_if_eq (tgt := 38) dX4_readClause_21 (by decide) (by first | exact rg_b01 _ | (unfold rg; omega)) (fun c21 => absurd c21 (by decide)) (fun c21 => ?_)
        refine eR_aldn_1 dX4_readClause_24 rfl ?_
        refine eR_getI dX4_readClause_25 gf_X4_56 TT.1 rfl ?_
        refine eX_pcI (Rb1.1.1) ?_
        refine eR_if_ne (tgt := 38) dX4_readClause_28 (by decide) (by first | exact rg_b01 _ | (unfold rg; omega)) (fun c28 => ?_) (fun c28 => ?_)
        · refine eR_aldn_0 dX4_readClause_38 rfl ?_
          refine eR_aldn_1 dX4_readClause_39 rfl ?_
          refine eR_ildn_3 dX4_readClause_40 rfl ?_
          refine eR_callVi [_, _] rfl dX4_readClause_41 ok_mX4_isOneTooMany kw_442 rfl rfl th_1 rfl (Nat.le_of_ble_eq_true rfl) (d' := 0) (by decide) (Nat.le_of_ble_eq_true rfl) ?_
          refine kt_many2 TT W Rb1 ?_
          refine eR_if_eq (tgt := 54) dX4_readClause_44 (by decide) (by first | exact rg_b01 _ | (unfold rg; omega)) (fun c44 => ?_) (fun c44 => ?_)
          · replace c44 := b01_eq0.mp c44
            refine eR_ildn_3 dX4_readClause_54 rfl ?_
            refine eR_tabIn (off := 45) (tgt := 100) dX4_readClause_55 (by unfold rg; omega) (by decide) (by decide) rfl (by decide) ?_
            refine eR_aldn_0 dX4_readClause_100 rfl ?_
            refine eR_aldn_1 dX4_readClause_101 rfl ?_
            refine eR_callVv [_] rfl dX4_readClause_102 ok_mX4_readGoes kw_470 rfl rfl th_1 rfl (Nat.le_of_ble_eq_true rfl) (d' := 3) (by decide) (Nat.le_of_ble_eq_true rfl) ?_
            refine kt_goes (i := (sk isL T n i)) B Cb1 TT W Rb1 h38 (by omega) (by omega) (by omega) ab1 ob1 (fun b2 hE2 => ?_)
            refine eR_goto (tgt := 121) dX4_readClause_105 (by decide) ?_
            refine eR_vret dX4_readClause_121 rfl ?_
            have e9 : clz T n U i = rdG T n U (sk isL T n i) := by
              unfold clz
              rw [if_neg w0, if_neg (by omega), if_neg w1, if_pos w2, if_pos (by omega)]
            rw [e9] at k
            exact k b2 (rE_G Gb1 xb1 hE2)
          · replace c44 := b01_ne0.mp c44
            refine eR_aldn_0 dX4_readClause_47 rfl ?_
            refine eR_ic dX4_readClause_48 ?_
            refine eR_ildn_2 dX4_readClause_49 rfl ?_
            refine eR_callVv [_, _] rfl dX4_readClause_50 ok_mX4_fail kw_438 rfl rfl th_1 rfl (Nat.le_of_ble_eq_true rfl) (d' := 0) (by decide) (Nat.le_of_ble_eq_true rfl) ?_
            refine kt_fail_n ob1 ?_
            obtain ⟨y1_, hy1_⟩ : ∃ g9, g9 = hU (hU b1 1 3 3) 1 4 ↑i := ⟨_, rfl⟩
            rw [← hy1_]
            have gy1_ : rG b1 y1_ := by rw [hy1_]; exact rG_w (rG_w (rG_rf _) (by omega)) (by omega)
            have oy1_ : y1_ 1 3 = ((3 : Nat) : Int) := by rw [hy1_]; exact (hU_i _ _ _ (by decide)).trans (hU_s _ _ _ _)
            have xy1_ : y1_ 1 4 = ((i : Nat) : Int) := by rw [hy1_]; exact hU_s _ _ _ _
            have jy1_ : ∃ j : Nat, j ≤ n ∧ y1_ 1 2 = (j : Int) := ⟨(sk isL T n i), by omega, by rw [hy1_]; exact ((hU_i _ _ _ (by decide)).trans (hU_i _ _ _ (by decide))).trans ab1⟩
            have Gy1_ : rG h y1_ := rG_tr Gb1 gy1_
            have Ry1_ : rV y1_ u U := rV_G W.1.1 R h38 Gy1_
            refine eR_vret dX4_readClause_53 rfl ?_
            have e9 : clz T n U i = .inl (3, i) := by
              unfold clz
              rw [if_neg w0, if_neg (by omega), if_neg w1, if_pos w2, if_neg (by omega)]
            rw [e9] at k
            exact k y1_ (rE_l rfl Gy1_ Ry1_ jy1_ oy1_ xy1_)
        · refine eR_aldn_0 dX4_readClause_31 rfl ?_
          refine eR_ic dX4_readClause_32 ?_
          refine eR_ildn_2 dX4_readClause_33 rfl ?_
          refine eR_callVv [_, _] rfl dX4_readClause_34 ok_mX4_fail kw_438 rfl rfl th_1 rfl (Nat.le_of_ble_eq_true rfl) (d' := 0) (by decide) (Nat.le_of_ble_eq_true rfl) ?_
          refine kt_fail_n ob1 ?_
          obtain ⟨y2_, hy2_⟩ : ∃ g9, g9 = hU (hU b1 1 3 1) 1 4 ↑i := ⟨_, rfl⟩
          rw [← hy2_]
          have gy2_ : rG b1 y2_ := by rw [hy2_]; exact rG_w (rG_w (rG_rf _) (by omega)) (by omega)
          have oy2_ : y2_ 1 3 = ((1 : Nat) : Int) := by rw [hy2_]; exact (hU_i _ _ _ (by decide)).trans (hU_s _ _ _ _)
          have xy2_ : y2_ 1 4 = ((i : Nat) : Int) := by rw [hy2_]; exact hU_s _ _ _ _
          have jy2_ : ∃ j : Nat, j ≤ n ∧ y2_ 1 2 = (j : Int) := ⟨(sk isL T n i), by omega, by rw [hy2_]; exact ((hU_i _ _ _ (by decide)).trans (hU_i _ _ _ (by decide))).trans ab1⟩
          have Gy2_ : rG h y2_ := rG_tr Gb1 gy2_
          have Ry2_ : rV y2_ u U := rV_G W.1.1 R h38 Gy2_
          refine eR_vret dX4_readClause_37 rfl ?_
          have e9 : clz T n U i = .inl (1, i) := by
            unfold clz
            rw [if_neg w0, if_pos (by omega)]
          rw [e9] at k
          exact k y2_ (rE_l rfl Gy2_ Ry2_ jy2_ oy2_ xy2_)
      · skip
        by_cases w3 : wrd T i (sk isL T n i) wLi = true
        · refine eR_aldn_0 dX4_readClause_0 rfl ?_
          refine eR_getI dX4_readClause_1 gf_X4_19 th_1 rfl ?_
          refine eX_pcI (hA) ?_
          refine eR_istn_n2 dX4_readClause_4 rfl (by decide) rfl ?_
          refine eR_aldn_0 dX4_readClause_5 rfl ?_
          refine eR_callVv [] rfl dX4_readClause_6 ok_mX4_skipLetters kw_373 rfl rfl th_1 rfl (Nat.le_of_ble_eq_true rfl) (d' := 0) (by decide) (Nat.le_of_ble_eq_true rfl) ?_
          refine kt_skipLetters (i0 := i) B C hi hA (fun b1 hF1 ab1 => ?_)
          have Gb1 : rG h b1 := rG_A hF1
          have Rb1 : rV b1 u U := rV_G W.1.1 R h38 Gb1
          have Cb1 : cT b1 T n := cT_G C Gb1
          have ob1 : b1 1 3 = 0 := (hF1 1 3 (by omega)).trans hO
          have xb1 : b1 1 4 = h 1 4 := hF1 1 4 (by omega)
          refine eR_aldn_0 dX4_readClause_9 rfl ?_
          refine eR_ildn_2 dX4_readClause_10 rfl ?_
          refine eR_callVi [_] rfl dX4_readClause_11 ok_mX4_kindOfWord kw_377 rfl rfl th_1 rfl (Nat.le_of_ble_eq_true rfl) (d' := 5) (by decide) (Nat.le_of_ble_eq_true rfl) ?_
          refine kt_kind (i := i) (e := (sk isL T n i)) B Cb1 hF he9.1 he9.2 ab1 ?_
          refine eX_pcI (show ((if wrd T i (sk isL T n i) wPe = true then 0 else if wrd T i (sk isL T n i) wCo = true then 1 else if wrd T i (sk isL T n i) wGo = true then 2 else if wrd T i (sk isL T n i) wLi = true then 3 else if wrd T i (sk isL T n i) wFr = true then 4 else -1) : Int) = 3 from by rw [if_neg w0, if_neg w1, if_neg w2, if_pos w3]) ?_
          refine eR_istn_n3 dX4_readClause_14 rfl (by decide) rfl ?_
          refine eR_ildn_3 dX4_readClause_15 rfl ?_
          refine eR_ic dX4_readClause_16 ?_
          refine eR_icmp_eq (tgt := 31) dX4_readClause_17 (by decide) (by first | exact rg_b01 _ | (unfold rg; omega)) (by first | exact rg_b01 _ | (unfold rg; omega)) (fun c17 => absurd c17 (by decide)) (fun c17 => ?_)
          refine eR_ildn_3 dX4_readClause_20 rfl ?_
          refine eR_if_eq (tgt := 38) dX4_readClause_21 (by decide) (by first | exact rg_b01 _ | (unfold rg; omega)) (fun c21 => absurd c21 (by decide)) (fun c21 => ?_)
          refine eR_aldn_1 dX4_readClause_24 rfl ?_
          refine eR_getI dX4_readClause_25 gf_X4_56 TT.1 rfl ?_
          refine eX_pcI (Rb1.1.1) ?_
          refine eR_if_ne (tgt := 38) dX4_readClause_28 (by decide) (by first | exact rg_b01 _ | (unfold rg; omega)) (fun c28 => ?_) (fun c28 => ?_)
          · refine eR_aldn_0 dX4_readClause_38 rfl ?_
            refine eR_aldn_1 dX4_readClause_39 rfl ?_
            refine eR_ildn_3 dX4_readClause_40 rfl ?_
            refine eR_callVi [_, _] rfl dX4_readClause_41 ok_mX4_isOneTooMany kw_442 rfl rfl th_1 rfl (Nat.le_of_ble_eq_true rfl) (d' := 0) (by decide) (Nat.le_of_ble_eq_true rfl) ?_
            refine kt_many3 TT W Rb1 ?_
            refine eR_if_eq (tgt := 54) dX4_readClause_44 (by decide) (by first | exact rg_b01 _ | (unfold rg; omega)) (fun c44 => ?_) (fun c44 => ?_)
            · replace c44 := b01_eq0.mp c44
              refine eR_ildn_3 dX4_readClause_54 rfl ?_
              refine eR_tabIn (off := 53) (tgt := 108) dX4_readClause_55 (by unfold rg; omega) (by decide) (by decide) rfl (by decide) ?_
              refine eR_aldn_0 dX4_readClause_108 rfl ?_
              refine eR_aldn_1 dX4_readClause_109 rfl ?_
              refine eR_callVv [_] rfl dX4_readClause_110 ok_mX4_readLikes kw_482 rfl rfl th_1 rfl (Nat.le_of_ble_eq_true rfl) (d' := 3) (by decide) (Nat.le_of_ble_eq_true rfl) ?_
              refine kt_likes (i := (sk isL T n i)) B Cb1 TT W Rb1 h38 (by omega) (by omega) ab1 ob1 (fun b2 hE2 => ?_)
              refine eR_goto (tgt := 121) dX4_readClause_113 (by decide) ?_
              refine eR_vret dX4_readClause_121 rfl ?_
              have e9 : clz T n U i = rdL T n U (sk isL T n i) := by
                unfold clz
                rw [if_neg w0, if_neg (by omega), if_neg w1, if_neg w2, if_pos w3, if_pos (by omega)]
              rw [e9] at k
              exact k b2 (rE_G Gb1 xb1 hE2)
            · replace c44 := b01_ne0.mp c44
              refine eR_aldn_0 dX4_readClause_47 rfl ?_
              refine eR_ic dX4_readClause_48 ?_
              refine eR_ildn_2 dX4_readClause_49 rfl ?_
              refine eR_callVv [_, _] rfl dX4_readClause_50 ok_mX4_fail kw_438 rfl rfl th_1 rfl (Nat.le_of_ble_eq_true rfl) (d' := 0) (by decide) (Nat.le_of_ble_eq_true rfl) ?_
              refine kt_fail_n ob1 ?_
              obtain ⟨y1_, hy1_⟩ : ∃ g9, g9 = hU (hU b1 1 3 3) 1 4 ↑i := ⟨_, rfl⟩
              rw [← hy1_]
              have gy1_ : rG b1 y1_ := by rw [hy1_]; exact rG_w (rG_w (rG_rf _) (by omega)) (by omega)
              have oy1_ : y1_ 1 3 = ((3 : Nat) : Int) := by rw [hy1_]; exact (hU_i _ _ _ (by decide)).trans (hU_s _ _ _ _)
              have xy1_ : y1_ 1 4 = ((i : Nat) : Int) := by rw [hy1_]; exact hU_s _ _ _ _
              have jy1_ : ∃ j : Nat, j ≤ n ∧ y1_ 1 2 = (j : Int) := ⟨(sk isL T n i), by omega, by rw [hy1_]; exact ((hU_i _ _ _ (by decide)).trans (hU_i _ _ _ (by decide))).trans ab1⟩
              have Gy1_ : rG h y1_ := rG_tr Gb1 gy1_
              have Ry1_ : rV y1_ u U := rV_G W.1.1 R h38 Gy1_
              refine eR_vret dX4_readClause_53 rfl ?_
              have e9 : clz T n U i = .inl (3, i) := by
                unfold clz
                rw [if_neg w0, if_neg (by omega), if_neg w1, if_neg w2, if_pos w3, if_neg (by omega)]
              rw [e9] at k
              exact k y1_ (rE_l rfl Gy1_ Ry1_ jy1_ oy1_ xy1_)
          · refine eR_aldn_0 dX4_readClause_31 rfl ?_
            refine eR_ic dX4_readClause_32 ?_
            refine eR_ildn_2 dX4_readClause_33 rfl ?_
            refine eR_callVv [_, _] rfl dX4_readClause_34 ok_mX4_fail kw_438 rfl rfl th_1 rfl (Nat.le_of_ble_eq_true rfl) (d' := 0) (by decide) (Nat.le_of_ble_eq_true rfl) ?_
            refine kt_fail_n ob1 ?_
            obtain ⟨y2_, hy2_⟩ : ∃ g9, g9 = hU (hU b1 1 3 1) 1 4 ↑i := ⟨_, rfl⟩
            rw [← hy2_]
            have gy2_ : rG b1 y2_ := by rw [hy2_]; exact rG_w (rG_w (rG_rf _) (by omega)) (by omega)
            have oy2_ : y2_ 1 3 = ((1 : Nat) : Int) := by rw [hy2_]; exact (hU_i _ _ _ (by decide)).trans (hU_s _ _ _ _)
            have xy2_ : y2_ 1 4 = ((i : Nat) : Int) := by rw [hy2_]; exact hU_s _ _ _ _
            have jy2_ : ∃ j : Nat, j ≤ n ∧ y2_ 1 2 = (j : Int) := ⟨(sk isL T n i), by omega, by rw [hy2_]; exact ((hU_i _ _ _ (by decide)).trans (hU_i _ _ _ (by decide))).trans ab1⟩
            have Gy2_ : rG h y2_ := rG_tr Gb1 gy2_
            have Ry2_ : rV y2_ u U := rV_G W.1.1 R h38 Gy2_
            refine eR_vret dX4_readClause_37 rfl ?_
            have e9 : clz T n U i = .inl (1, i) := by
              unfold clz
              rw [if_neg w0, if_pos (by omega)]
            rw [e9] at k
            exact k y2_ (rE_l rfl Gy2_ Ry2_ jy2_ oy2_ xy2_)
        · skip
          by_cases w4 : wrd T i (sk isL T n i) wFr = true
          · refine eR_aldn_0 dX4_readClause_0 rfl ?_
            refine eR_getI dX4_readClause_1 gf_X4_19 th_1 rfl ?_
            refine eX_pcI (hA) ?_
            refine eR_istn_n2 dX4_readClause_4 rfl (by decide) rfl ?_
            refine eR_aldn_0 dX4_readClause_5 rfl ?_
            refine eR_callVv [] rfl dX4_readClause_6 ok_mX4_skipLetters kw_373 rfl rfl th_1 rfl (Nat.le_of_ble_eq_true rfl) (d' := 0) (by decide) (Nat.le_of_ble_eq_true rfl) ?_
            refine kt_skipLetters (i0 := i) B C hi hA (fun b1 hF1 ab1 => ?_)
            have Gb1 : rG h b1 := rG_A hF1
            have Rb1 : rV b1 u U := rV_G W.1.1 R h38 Gb1
            have Cb1 : cT b1 T n := cT_G C Gb1
            have ob1 : b1 1 3 = 0 := (hF1 1 3 (by omega)).trans hO
            have xb1 : b1 1 4 = h 1 4 := hF1 1 4 (by omega)
            refine eR_aldn_0 dX4_readClause_9 rfl ?_
            refine eR_ildn_2 dX4_readClause_10 rfl ?_
            refine eR_callVi [_] rfl dX4_readClause_11 ok_mX4_kindOfWord kw_377 rfl rfl th_1 rfl (Nat.le_of_ble_eq_true rfl) (d' := 5) (by decide) (Nat.le_of_ble_eq_true rfl) ?_
            refine kt_kind (i := i) (e := (sk isL T n i)) B Cb1 hF he9.1 he9.2 ab1 ?_
            refine eX_pcI (show ((if wrd T i (sk isL T n i) wPe = true then 0 else if wrd T i (sk isL T n i) wCo = true then 1 else if wrd T i (sk isL T n i) wGo = true then 2 else if wrd T i (sk isL T n i) wLi = true then 3 else if wrd T i (sk isL T n i) wFr = true then 4 else -1) : Int) = 4 from by rw [if_neg w0, if_neg w1, if_neg w2, if_neg w3, if_pos w4]) ?_
            refine eR_istn_n3 dX4_readClause_14 rfl (by decide) rfl ?_
            refine eR_ildn_3 dX4_readClause_15 rfl ?_
            refine eR_ic dX4_readClause_16 ?_
            refine eR_icmp_eq (tgt := 31) dX4_readClause_17 (by decide) (by first | exact rg_b01 _ | (unfold rg; omega)) (by first | exact rg_b01 _ | (unfold rg; omega)) (fun c17 => absurd c17 (by decide)) (fun c17 => ?_)
            refine eR_ildn_3 dX4_readClause_20 rfl ?_
            refine eR_if_eq (tgt := 38) dX4_readClause_21 (by decide) (by first | exact rg_b01 _ | (unfold rg; omega)) (fun c21 => absurd c21 (by decide)) (fun c21 => ?_)
            refine eR_aldn_1 dX4_readClause_24 rfl ?_
            refine eR_getI dX4_readClause_25 gf_X4_56 TT.1 rfl ?_
            refine eX_pcI (Rb1.1.1) ?_
            refine eR_if_ne (tgt := 38) dX4_readClause_28 (by decide) (by first | exact rg_b01 _ | (unfold rg; omega)) (fun c28 => ?_) (fun c28 => ?_)
            · refine eR_aldn_0 dX4_readClause_38 rfl ?_
              refine eR_aldn_1 dX4_readClause_39 rfl ?_
              refine eR_ildn_3 dX4_readClause_40 rfl ?_
              refine eR_callVi [_, _] rfl dX4_readClause_41 ok_mX4_isOneTooMany kw_442 rfl rfl th_1 rfl (Nat.le_of_ble_eq_true rfl) (d' := 0) (by decide) (Nat.le_of_ble_eq_true rfl) ?_
              refine kt_many4 TT W Rb1 ?_
              refine eR_if_eq (tgt := 54) dX4_readClause_44 (by decide) (by first | exact rg_b01 _ | (unfold rg; omega)) (fun c44 => ?_) (fun c44 => ?_)
              · replace c44 := b01_eq0.mp c44
                refine eR_ildn_3 dX4_readClause_54 rfl ?_
                refine eR_tabOut (tgt := 116) dX4_readClause_55 (by unfold rg; omega) (by decide) (by decide) ?_
                refine eR_aldn_0 dX4_readClause_116 rfl ?_
                refine eR_aldn_1 dX4_readClause_117 rfl ?_
                refine eR_callVv [_] rfl dX4_readClause_118 ok_mX4_readFrost kw_494 rfl rfl th_1 rfl (Nat.le_of_ble_eq_true rfl) (d' := 2) (by decide) (Nat.le_of_ble_eq_true rfl) ?_
                refine kt_frost (i := (sk isL T n i)) B Cb1 TT W Rb1 h38 (by omega) ab1 ob1 (fun b2 hE2 => ?_)
                refine eR_vret dX4_readClause_121 rfl ?_
                have e9 : clz T n U i = rdF T n U (sk isL T n i) := by
                  unfold clz
                  rw [if_neg w0, if_neg (by omega), if_neg w1, if_neg w2, if_neg w3, if_pos w4, if_pos (by omega)]
                rw [e9] at k
                exact k b2 (rE_G Gb1 xb1 hE2)
              · replace c44 := b01_ne0.mp c44
                refine eR_aldn_0 dX4_readClause_47 rfl ?_
                refine eR_ic dX4_readClause_48 ?_
                refine eR_ildn_2 dX4_readClause_49 rfl ?_
                refine eR_callVv [_, _] rfl dX4_readClause_50 ok_mX4_fail kw_438 rfl rfl th_1 rfl (Nat.le_of_ble_eq_true rfl) (d' := 0) (by decide) (Nat.le_of_ble_eq_true rfl) ?_
                refine kt_fail_n ob1 ?_
                obtain ⟨y1_, hy1_⟩ : ∃ g9, g9 = hU (hU b1 1 3 3) 1 4 ↑i := ⟨_, rfl⟩
                rw [← hy1_]
                have gy1_ : rG b1 y1_ := by rw [hy1_]; exact rG_w (rG_w (rG_rf _) (by omega)) (by omega)
                have oy1_ : y1_ 1 3 = ((3 : Nat) : Int) := by rw [hy1_]; exact (hU_i _ _ _ (by decide)).trans (hU_s _ _ _ _)
                have xy1_ : y1_ 1 4 = ((i : Nat) : Int) := by rw [hy1_]; exact hU_s _ _ _ _
                have jy1_ : ∃ j : Nat, j ≤ n ∧ y1_ 1 2 = (j : Int) := ⟨(sk isL T n i), by omega, by rw [hy1_]; exact ((hU_i _ _ _ (by decide)).trans (hU_i _ _ _ (by decide))).trans ab1⟩
                have Gy1_ : rG h y1_ := rG_tr Gb1 gy1_
                have Ry1_ : rV y1_ u U := rV_G W.1.1 R h38 Gy1_
                refine eR_vret dX4_readClause_53 rfl ?_
                have e9 : clz T n U i = .inl (3, i) := by
                  unfold clz
                  rw [if_neg w0, if_neg (by omega), if_neg w1, if_neg w2, if_neg w3, if_pos w4, if_neg (by omega)]
                rw [e9] at k
                exact k y1_ (rE_l rfl Gy1_ Ry1_ jy1_ oy1_ xy1_)
            · refine eR_aldn_0 dX4_readClause_31 rfl ?_
              refine eR_ic dX4_readClause_32 ?_
              refine eR_ildn_2 dX4_readClause_33 rfl ?_
              refine eR_callVv [_, _] rfl dX4_readClause_34 ok_mX4_fail kw_438 rfl rfl th_1 rfl (Nat.le_of_ble_eq_true rfl) (d' := 0) (by decide) (Nat.le_of_ble_eq_true rfl) ?_
              refine kt_fail_n ob1 ?_
              obtain ⟨y2_, hy2_⟩ : ∃ g9, g9 = hU (hU b1 1 3 1) 1 4 ↑i := ⟨_, rfl⟩
              rw [← hy2_]
              have gy2_ : rG b1 y2_ := by rw [hy2_]; exact rG_w (rG_w (rG_rf _) (by omega)) (by omega)
              have oy2_ : y2_ 1 3 = ((1 : Nat) : Int) := by rw [hy2_]; exact (hU_i _ _ _ (by decide)).trans (hU_s _ _ _ _)
              have xy2_ : y2_ 1 4 = ((i : Nat) : Int) := by rw [hy2_]; exact hU_s _ _ _ _
              have jy2_ : ∃ j : Nat, j ≤ n ∧ y2_ 1 2 = (j : Int) := ⟨(sk isL T n i), by omega, by rw [hy2_]; exact ((hU_i _ _ _ (by decide)).trans (hU_i _ _ _ (by decide))).trans ab1⟩
              have Gy2_ : rG h y2_ := rG_tr Gb1 gy2_
              have Ry2_ : rV y2_ u U := rV_G W.1.1 R h38 Gy2_
              refine eR_vret dX4_readClause_37 rfl ?_
              have e9 : clz T n U i = .inl (1, i) := by
                unfold clz
                rw [if_neg w0, if_pos (by omega)]
              rw [e9] at k
              exact k y2_ (rE_l rfl Gy2_ Ry2_ jy2_ oy2_ xy2_)
          · refine eR_aldn_0 dX4_readClause_0 rfl ?_
            refine eR_getI dX4_readClause_1 gf_X4_19 th_1 rfl ?_
            refine eX_pcI (hA) ?_
            refine eR_istn_n2 dX4_readClause_4 rfl (by decide) rfl ?_
            refine eR_aldn_0 dX4_readClause_5 rfl ?_
            refine eR_callVv [] rfl dX4_readClause_6 ok_mX4_skipLetters kw_373 rfl rfl th_1 rfl (Nat.le_of_ble_eq_true rfl) (d' := 0) (by decide) (Nat.le_of_ble_eq_true rfl) ?_
            refine kt_skipLetters (i0 := i) B C hi hA (fun b1 hF1 ab1 => ?_)
            have Gb1 : rG h b1 := rG_A hF1
            have Rb1 : rV b1 u U := rV_G W.1.1 R h38 Gb1
            have Cb1 : cT b1 T n := cT_G C Gb1
            have ob1 : b1 1 3 = 0 := (hF1 1 3 (by omega)).trans hO
            have xb1 : b1 1 4 = h 1 4 := hF1 1 4 (by omega)
            refine eR_aldn_0 dX4_readClause_9 rfl ?_
            refine eR_ildn_2 dX4_readClause_10 rfl ?_
            refine eR_callVi [_] rfl dX4_readClause_11 ok_mX4_kindOfWord kw_377 rfl rfl th_1 rfl (Nat.le_of_ble_eq_true rfl) (d' := 5) (by decide) (Nat.le_of_ble_eq_true rfl) ?_
            refine kt_kind (i := i) (e := (sk isL T n i)) B Cb1 hF he9.1 he9.2 ab1 ?_
            refine eX_pcI (show ((if wrd T i (sk isL T n i) wPe = true then 0 else if wrd T i (sk isL T n i) wCo = true then 1 else if wrd T i (sk isL T n i) wGo = true then 2 else if wrd T i (sk isL T n i) wLi = true then 3 else if wrd T i (sk isL T n i) wFr = true then 4 else -1) : Int) = (-1) from by rw [if_neg w0, if_neg w1, if_neg w2, if_neg w3, if_neg w4]) ?_
            refine eR_istn_n3 dX4_readClause_14 rfl (by decide) rfl ?_
            refine eR_ildn_3 dX4_readClause_15 rfl ?_
            refine eR_ic dX4_readClause_16 ?_
            refine eR_icmp_eq (tgt := 31) dX4_readClause_17 (by decide) (by first | exact rg_b01 _ | (unfold rg; omega)) (by first | exact rg_b01 _ | (unfold rg; omega)) (fun c17 => ?_) (fun c17 => absurd c17 (by decide))
            refine eR_aldn_0 dX4_readClause_31 rfl ?_
            refine eR_ic dX4_readClause_32 ?_
            refine eR_ildn_2 dX4_readClause_33 rfl ?_
            refine eR_callVv [_, _] rfl dX4_readClause_34 ok_mX4_fail kw_438 rfl rfl th_1 rfl (Nat.le_of_ble_eq_true rfl) (d' := 0) (by decide) (Nat.le_of_ble_eq_true rfl) ?_
            refine kt_fail_n ob1 ?_
            obtain ⟨y1_, hy1_⟩ : ∃ g9, g9 = hU (hU b1 1 3 1) 1 4 ↑i := ⟨_, rfl⟩
            rw [← hy1_]
            have gy1_ : rG b1 y1_ := by rw [hy1_]; exact rG_w (rG_w (rG_rf _) (by omega)) (by omega)
            have oy1_ : y1_ 1 3 = ((1 : Nat) : Int) := by rw [hy1_]; exact (hU_i _ _ _ (by decide)).trans (hU_s _ _ _ _)
            have xy1_ : y1_ 1 4 = ((i : Nat) : Int) := by rw [hy1_]; exact hU_s _ _ _ _
            have jy1_ : ∃ j : Nat, j ≤ n ∧ y1_ 1 2 = (j : Int) := ⟨(sk isL T n i), by omega, by rw [hy1_]; exact ((hU_i _ _ _ (by decide)).trans (hU_i _ _ _ (by decide))).trans ab1⟩
            have Gy1_ : rG h y1_ := rG_tr Gb1 gy1_
            have Ry1_ : rV y1_ u U := rV_G W.1.1 R h38 Gy1_
            refine eR_vret dX4_readClause_37 rfl ?_
            have e9 : clz T n U i = .inl (1, i) := by
              unfold clz
              rw [if_neg w0]
              by_cases hP0 : sP U.1 = 0
              · rw [if_pos hP0]
              · rw [if_neg hP0, if_neg w1, if_neg w2, if_neg w3, if_neg w4]
            rw [e9] at k
            exact k y1_ (rE_l rfl Gy1_ Ry1_ jy1_ oy1_ xy1_)
theorem kl_into (hF : gF g = true) (B : tB T n) (C : cT h T n) (TT : isTn (tau t s) u) (h38 : 38 ≤ u) : ∀ (f c i : Nat) (U : PU) (h1 : PH), c + f = 400 → i ≤ n → uD U → cG u h h1 → rV h1 u U → h1 1 2 = (sk isB T n i : Int) → h1 1 3 = 0 → h1 1 4 = -1 → (∀ (x : Nat × Nat) (h2 : PH), prs T n f U i = .inl x → (1 ≤ x.1 ∧ x.1 ≤ 4 ∧ x.2 ≤ n) → cG u h h2 → h2 1 3 = (x.1 : Int) → h2 1 4 = (x.2 : Int) → (∃ U2 : PU, uD U2 ∧ rV h2 u U2) → eX g 7 mX4_readInto 65 [(0, .ref (gA g 1)), (1, .ref (gA g u))] [] (tau t s) h2 Q) → (∀ (U2 : PU) (j : Nat) (h2 : PH), prs T n f U i = .inr (U2, j) → uD U2 → cG u h h2 → rV h2 u U2 → h2 1 3 = 0 → h2 1 4 = -1 → eX g 7 mX4_readInto 65 [(0, .ref (gA g 1)), (1, .ref (gA g u))] [] (tau t s) h2 Q) → eX g 7 mX4_readInto 25 [(0, .ref (gA g 1)), (1, .ref (gA g u)), (2, .int (zI ↑c))] [] (tau t s) h1 Q := by
  have hn9 := B.1
  intro f
  induction f with
  | zero =>
    intro c i U h1 hc hi W1 G1 R1 A1 O1 X1 kf kk
    refine eR_ildn_2 dX4_readInto_25 rfl ?_
    refine eR_si (z := 400) dX4_readInto_26 rfl ?_
    refine eR_icmp_ge (tgt := 65) dX4_readInto_29 (by decide) (by first | exact rg_b01 _ | (unfold rg; omega)) (by first | exact rg_b01 _ | (unfold rg; omega)) (fun c29 => ?_) (fun c29 => absurd c29 (by omega))
    refine eX_lv (lv2 := List.take 2 _) (fun q hq => List.mem_of_mem_take hq) ?_
    exact kk U i h1 rfl W1 G1 R1 O1 X1
  | succ f ih =>
    intro c i U h1 hc hi W1 G1 R1 A1 O1 X1 kf kk
    have C1 : cT h1 T n := cT_c C h38 G1
    have hj9 := sk_le (f := isB) (T := T) hi
    refine eR_ildn_2 dX4_readInto_25 rfl ?_
    refine eR_si (z := 400) dX4_readInto_26 rfl ?_
    refine eR_icmp_ge (tgt := 65) dX4_readInto_29 (by decide) (by first | exact rg_b01 _ | (unfold rg; omega)) (by first | exact rg_b01 _ | (unfold rg; omega)) (fun c29 => absurd c29 (by omega)) (fun c29 => ?_)
    refine eR_aldn_0 dX4_readInto_32 rfl ?_
    refine eR_getI dX4_readInto_33 gf_X4_22 th_1 rfl ?_
    refine eX_pcI (O1) ?_
    refine eR_if_ne (tgt := 65) dX4_readInto_36 (by decide) (by first | exact rg_b01 _ | (unfold rg; omega)) (fun c36 => absurd c36 (by decide)) (fun c36 => ?_)
    refine eR_aldn_0 dX4_readInto_39 rfl ?_
    refine eR_getI dX4_readInto_40 gf_X4_19 th_1 rfl ?_
    refine eX_pcI (A1) ?_
    refine eR_aldn_0 dX4_readInto_43 rfl ?_
    refine eR_getI dX4_readInto_44 gf_X4_15 th_1 rfl ?_
    refine eX_pcI (C1.1) ?_
    refine eR_icmp_ge (tgt := 65) dX4_readInto_47 (by decide) (by first | exact rg_b01 _ | (unfold rg; omega)) (by first | exact rg_b01 _ | (unfold rg; omega)) (fun c47 => ?_) (fun c47 => ?_)
    · refine eX_lv (lv2 := List.take 2 _) (fun q hq => List.mem_of_mem_take hq) ?_
      exact kk U i h1 (prs_end (by omega) _) W1 G1 R1 O1 X1
    · have hlt : sk isB T n i < n := by omega
      refine eR_aldn_0 dX4_readInto_50 rfl ?_
      refine eR_aldn_1 dX4_readInto_51 rfl ?_
      refine eR_callVv [_] rfl dX4_readInto_52 ok_mX4_readClause kw_369 rfl rfl th_1 rfl (Nat.le_of_ble_eq_true rfl) (d' := 6) (by decide) (Nat.le_of_ble_eq_true rfl) ?_
      refine kt_clause (i := sk isB T n i) (U := U) hF B C1 TT W1 R1 h38 (by omega) A1 O1 (fun h2 hE2 => ?_)
      have C2 : cT h2 T n := cT_c C1 h38 hE2.1
      have ho8 := smi_ok (T := T) (clz_ok (T := T) W1 (show sk isB T n i ≤ n by omega))
      cases e9 : smi T n (clz T n U (sk isB T n i)) with
      | inl x =>
        rw [e9] at hE2 ho8
        have ho9 : 1 ≤ x.1 ∧ x.1 ≤ 4 ∧ x.2 ≤ n := ho8
        obtain ⟨j, hj9, a2⟩ := hE2.2.2.2.2
        refine eR_aldn_0 dX4_readInto_55 rfl ?_
        refine eR_callVv [] rfl dX4_readInto_56 ok_mX4_skipBlanks kw_365 rfl rfl th_1 rfl (Nat.le_of_ble_eq_true rfl) (d' := 0) (by decide) (Nat.le_of_ble_eq_true rfl) ?_
        refine kt_skipBlanks (i0 := j) B C2 (by omega) a2 (fun h3 hF3 A3 => ?_)
        refine eR_iinc_2 dX4_readInto_59 (by decide) rfl ?_
        refine eR_goto (tgt := 25) dX4_readInto_62 (by decide) ?_
        have O3 : h3 1 3 = (x.1 : Int) := (hF3 1 3 (by omega)).trans hE2.2.1
        have X3 : h3 1 4 = (x.2 : Int) := (hF3 1 4 (by omega)).trans hE2.2.2.1
        have G3 : cG u h h3 := cG_tr (cG_tr G1 hE2.1) (cG_G (rG_A hF3))
        refine eR_ildn_2 dX4_readInto_25 rfl ?_
        refine eR_si (z := 400) dX4_readInto_26 rfl ?_
        refine eR_icmp_ge (tgt := 65) dX4_readInto_29 (by decide) (by first | exact rg_b01 _ | (unfold rg; omega)) (by first | exact rg_b01 _ | (unfold rg; omega)) (fun c29b => ?_) (fun c29b => ?_)
        · refine eX_lv (lv2 := List.take 2 _) (fun q hq => List.mem_of_mem_take hq) ?_
          exact kf x h3 (prs_l hlt e9) ho9 G3 O3 X3 ⟨U, W1, rV_G W1.1.1 hE2.2.2.2.1 h38 (rG_A hF3)⟩
        · refine eR_aldn_0 dX4_readInto_32 rfl ?_
          refine eR_getI dX4_readInto_33 gf_X4_22 th_1 rfl ?_
          refine eX_pcI (O3) ?_
          refine eR_if_ne (tgt := 65) dX4_readInto_36 (by decide) (by first | exact rg_b01 _ | (unfold rg; omega)) (fun c36b => ?_) (fun c36b => absurd c36b (by omega))
          refine eX_lv (lv2 := List.take 2 _) (fun q hq => List.mem_of_mem_take hq) ?_
          exact kf x h3 (prs_l hlt e9) ho9 G3 O3 X3 ⟨U, W1, rV_G W1.1.1 hE2.2.2.2.1 h38 (rG_A hF3)⟩
      | inr x =>
        rw [e9] at hE2 ho8
        have ho9 : uD x.1 ∧ sk isB T n i + 1 ≤ x.2 ∧ x.2 ≤ n := ho8
        have a2 := hE2.2.2.1
        refine eR_aldn_0 dX4_readInto_55 rfl ?_
        refine eR_callVv [] rfl dX4_readInto_56 ok_mX4_skipBlanks kw_365 rfl rfl th_1 rfl (Nat.le_of_ble_eq_true rfl) (d' := 0) (by decide) (Nat.le_of_ble_eq_true rfl) ?_
        refine kt_skipBlanks (i0 := x.2) B C2 (by omega) a2 (fun h3 hF3 A3 => ?_)
        refine eR_iinc_2 dX4_readInto_59 (by decide) rfl ?_
        refine eR_goto (tgt := 25) dX4_readInto_62 (by decide) ?_
        exact ih (c + 1) x.2 x.1 h3 (by omega) ho9.2.2 ho9.1 (cG_tr (cG_tr G1 hE2.1) (cG_G (rG_A hF3))) (rV_G ho9.1.1.1 hE2.2.1 h38 (rG_A hF3)) A3 ((hF3 1 3 (by omega)).trans hE2.2.2.2.1) ((hF3 1 4 (by omega)).trans (hE2.2.2.2.2.trans X1)) (fun y h4 q => kf y h4 ((prs_r hlt e9).trans q)) (fun U2 j h4 q => kk U2 j h4 ((prs_r hlt e9).trans q))
theorem kt_into (hF : gF g = true) (B : tB T n) (C : cT h T n) (TT : isTn (tau t s) u) (h38 : 38 ≤ u) (kf : ∀ (x : Nat × Nat) (h2 : PH), prs T n 400 uZ 0 = .inl x → (1 ≤ x.1 ∧ x.1 ≤ 4 ∧ x.2 ≤ n) → cG u h h2 → h2 1 4 = (x.2 : Int) → Q (.int (zI ↑x.1)) (tau t s) h2) (kk : ∀ (U : PU) (j : Nat) (h2 : PH), prs T n 400 uZ 0 = .inr (U, j) → uD U → cG u h h2 → h2 1 4 = -1 → cV h2 u U.1 → Q (.int (zI 0)) (tau t s) h2) : eX g 7 mX4_readInto 0 (lv_args 0 [.ref (gA g 1), .ref (gA g u)]) [] (tau t s) h Q := by
  show eX g 7 mX4_readInto 0 [(0, .ref (gA g 1)), (1, .ref (gA g u))] [] (tau t s) h Q
  refine eR_aldn_0 dX4_readInto_0 rfl ?_
  refine eR_ic dX4_readInto_1 ?_
  refine eR_putI dX4_readInto_2 pf_X4_19 th_1 rfl ?_
  refine eR_aldn_0 dX4_readInto_5 rfl ?_
  refine eR_ic dX4_readInto_6 ?_
  refine eR_putI dX4_readInto_7 pf_X4_22 th_1 rfl ?_
  refine eR_aldn_0 dX4_readInto_10 rfl ?_
  refine eR_ic dX4_readInto_11 ?_
  refine eR_putI dX4_readInto_12 pf_X4_25 th_1 rfl ?_
  refine eR_aldn_1 dX4_readInto_15 rfl ?_
  refine eR_callVv [] rfl dX4_readInto_16 ok_mX6_clear kw_364 rfl rfl TT.1 rfl (Nat.le_of_ble_eq_true rfl) (d' := 0) (by decide) (Nat.le_of_ble_eq_true rfl) ?_
  refine tn_clear TT (fun h1 F1 R1 => ?_)
  have G0 : cG u h (hU (hU (hU h 1 2 0) 1 3 0) 1 4 (-1)) := cG_G (rG_w (rG_w (rG_w (rG_rf h) (by omega)) (by omega)) (by omega))
  have G1 : cG u h h1 := cG_tr G0 (cG_R F1)
  have C1 : cT h1 T n := cT_c C h38 G1
  have A1 : h1 1 2 = ((0 : Nat) : Int) := by rw [F1 1 (by omega)]; exact ((hU_i _ _ _ (by decide)).trans (hU_i _ _ _ (by decide))).trans (hU_s _ _ _ _)
  have O1 : h1 1 3 = 0 := by rw [F1 1 (by omega)]; exact (hU_i _ _ _ (by decide)).trans (hU_s _ _ _ _)
  have X1 : h1 1 4 = -1 := by rw [F1 1 (by omega)]; exact hU_s _ _ _ _
  refine eR_aldn_0 dX4_readInto_19 rfl ?_
  refine eR_callVv [] rfl dX4_readInto_20 ok_mX4_skipBlanks kw_365 rfl rfl th_1 rfl (Nat.le_of_ble_eq_true rfl) (d' := 0) (by decide) (Nat.le_of_ble_eq_true rfl) ?_
  refine kt_skipBlanks (i0 := 0) B C1 (Nat.zero_le _) A1 (fun h2 F2 A2 => ?_)
  refine eR_ic dX4_readInto_23 ?_
  refine eR_istn_n2 dX4_readInto_24 rfl (by decide) rfl ?_
  refine kl_into (n := n) (T := T) hF B C TT h38 400 0 0 uZ h2 rfl (Nat.zero_le _) uD_Z (cG_tr G1 (cG_G (rG_A F2))) (rV_G uD_Z.1.1 R1 h38 (rG_A F2)) A2 ((F2 1 3 (by omega)).trans O1) ((F2 1 4 (by omega)).trans X1) (fun x h3 e9 ho9 G3 O3 X3 hU3 => ?_) (fun U3 j h3 e9 W3 G3 R3 O3 X3 => ?_)
  · obtain ⟨U3, W3, R3⟩ := hU3
    refine eR_aldn_1 dX4_readInto_65 rfl ?_
    refine eR_callVv [] rfl dX4_readInto_66 ok_mX6_markSteadyHours kw_498 rfl rfl TT.1 rfl (Nat.le_of_ble_eq_true rfl) (d' := 0) (by decide) (Nat.le_of_ble_eq_true rfl) ?_
    refine tn_mark TT W3.1.1 R3 (fun h4 F4 V4 => ?_)
    refine eR_aldn_0 dX4_readInto_69 rfl ?_
    refine eR_getI dX4_readInto_70 gf_X4_22 th_1 rfl ?_
    refine eX_pcI ((F4 1 3 (by omega)).trans O3) ?_
    refine eR_iret dX4_readInto_73 rfl rfl ?_
    exact kf x h4 e9 ho9 (cG_tr G3 (fun a i q => F4 a i (by omega))) ((F4 1 4 (by omega)).trans X3)
  · refine eR_aldn_1 dX4_readInto_65 rfl ?_
    refine eR_callVv [] rfl dX4_readInto_66 ok_mX6_markSteadyHours kw_498 rfl rfl TT.1 rfl (Nat.le_of_ble_eq_true rfl) (d' := 0) (by decide) (Nat.le_of_ble_eq_true rfl) ?_
    refine tn_mark TT W3.1.1 R3 (fun h4 F4 V4 => ?_)
    refine eR_aldn_0 dX4_readInto_69 rfl ?_
    refine eR_getI dX4_readInto_70 gf_X4_22 th_1 rfl ?_
    refine eX_pcI ((F4 1 3 (by omega)).trans O3) ?_
    refine eR_iret dX4_readInto_73 rfl rfl ?_
    exact kk U3 j h4 e9 W3 (cG_tr G3 (fun a i q => F4 a i (by omega))) ((F4 1 4 (by omega)).trans X3) V4
def apF (h h1 : PH) : Prop := ∀ a i, ¬ (a = 2 ∨ (a = 1 ∧ i = 1)) → h1 a i = h a i
theorem kl_append {x : Int64} {c : Nat} (hc : c ≤ 8) (hn : n + c ≤ 400) (k : ∀ h1 : PH, apF h h1 → cT h1 (fdT T n x c) (n + c) → Q (.int (zI ↑(n + c))) (tau t s) h1) : ∀ m : Nat, m ≤ c → ∀ h1 : PH, apF h h1 → cT h1 (fdT T n x c) (n + c - m) → eX g 0 mX4_append 20 [(0, .ref (gA g 1)), (1, .int (zI ↑c)), (2, .long x), (4, .int (zI (↑m - 1)))] [] (tau t s) h1 Q := by
  intro m
  induction m with
  | zero =>
    intro hm h1 F1 T1
    refine eR_ild_3 dX4_append_20 ?_
    refine eR_if_lt (tgt := 62) dX4_append_22 (by decide) (by first | exact rg_b01 _ | (unfold rg; omega)) (fun c22 => ?_) (fun c22 => absurd c22 (by omega))
    refine eR_aldn_0 dX4_append_62 rfl ?_
    refine eR_getI dX4_append_63 gf_X4_15 th_1 rfl ?_
    refine eX_pcI (T1.1) ?_
    refine eR_iret dX4_append_66 rfl rfl ?_
    rw [Nat.sub_zero] at T1 ⊢
    exact k h1 F1 T1
  | succ m ih =>
    intro hm h1 F1 T1
    refine eR_ild_3 dX4_append_20 ?_
    refine eR_if_lt (tgt := 62) dX4_append_22 (by decide) (by first | exact rg_b01 _ | (unfold rg; omega)) (fun c22 => absurd c22 (by omega)) (fun c22 => ?_)
    rw [show ((↑(m + 1) : Int) - 1) = ↑m from by omega]
    refine eR_aldn_0 dX4_append_25 rfl ?_
    refine eR_getR (i := 2) dX4_append_26 gf_X4_9 th_1 rfl ?_
    refine eR_aldn_0 dX4_append_29 rfl ?_
    refine eR_getI dX4_append_30 gf_X4_15 th_1 rfl ?_
    refine eX_pcI (T1.1) ?_
    refine eR_lldn_2 dX4_append_33 rfl ?_
    refine eR_bi (z := 8) dX4_append_34 rfl ?_
    refine eR_ild_3 dX4_append_36 ?_
    refine eR_imul dX4_append_38 ?_
    refine eR_lushr dX4_append_39 ?_
    refine eR_ldc2 (z := 255) dX4_append_40 kw_355 (by decide) ?_
    refine eR_land dX4_append_43 ?_
    refine eR_l2i dX4_append_44 ?_
    refine eX_pcV (byt_u x (k := m) (by omega)) ?_
    refine eR_iast (n := n + c - (m + 1)) dX4_append_45 th_2 (rfl) (by omega) (by decide) ?_
    refine eR_aldn_0 dX4_append_46 rfl ?_
    refine eR_dup dX4_append_47 rfl ?_
    refine eR_getI dX4_append_48 gf_X4_15 th_1 rfl ?_
    refine eX_pcI (congrFun (hU_a _ _ _ (by decide)) _) ?_
    refine eX_pcI (T1.1) ?_
    refine eR_ic dX4_append_51 ?_
    refine eR_iadd dX4_append_52 ?_
    refine eR_putI dX4_append_53 pf_X4_15 th_1 rfl ?_
    refine eR_iinc_3 dX4_append_56 (by decide) rfl ?_
    refine eR_goto (tgt := 20) dX4_append_59 (by decide) ?_
    rw [show ((↑m : Int) + (-1)) = ↑m - 1 from by omega]
    refine ih (by omega) _ (fun a i q => by rw [hU_ne2 (by omega), hU_ne2 (by omega)]; exact F1 a i q) ⟨?_, fun y hy => ?_⟩
    · rw [hU_s]; omega
    · by_cases hyy : y = n + c - (m + 1)
      · rw [hyy, hU_ne2 (by omega), hU_s]
        unfold fdT
        rw [if_neg (by omega), show c - 1 - (n + c - (m + 1) - n) = m from by omega]
      · rw [hU_ne2 (by omega), hU_ne2 (by omega)]
        exact T1.2 y (by omega)
theorem kt_append (B : tB T n) (C : cT h T n) {x : Int64} {c : Nat} (hc1 : 1 ≤ c) (hc8 : c ≤ 8) (k0 : 400 < n + c → Q (.int (zI (-1000000004))) (tau t s) h) (k1 : n + c ≤ 400 → ∀ h1 : PH, apF h h1 → cT h1 (fdT T n x c) (n + c) → Q (.int (zI ↑(n + c))) (tau t s) h1) : eX g 0 mX4_append 0 (lv_args 0 [.ref (gA g 1), .int (zI ↑c), .long x]) [] (tau t s) h Q := by
  show eX g 0 mX4_append 0 [(0, .ref (gA g 1)), (1, .int (zI ↑c)), (2, .long x)] [] (tau t s) h Q
  have hn9 := B.1
  refine eR_aldn_0 dX4_append_0 rfl ?_
  refine eR_getI dX4_append_1 gf_X4_15 th_1 rfl ?_
  refine eX_pcI (C.1) ?_
  refine eR_ildn_1 dX4_append_4 rfl ?_
  refine eR_iadd dX4_append_5 ?_
  refine eR_si (z := 400) dX4_append_6 rfl ?_
  refine eR_icmp_le (tgt := 15) dX4_append_9 (by decide) (by first | exact rg_b01 _ | (unfold rg; omega)) (by first | exact rg_b01 _ | (unfold rg; omega)) (fun c9 => ?_) (fun c9 => ?_)
  · refine eR_ildn_1 dX4_append_15 rfl ?_
    refine eR_ic dX4_append_16 ?_
    refine eR_isub dX4_append_17 ?_
    refine eR_ist_n3 dX4_append_18 (by decide) rfl ?_
    refine kl_append (n := n) (T := T) hc8 (by omega) (k1 (by omega)) c (Nat.le_refl _) h (fun _ _ _ => rfl) ?_
    rw [Nat.add_sub_cancel]
    exact ⟨C.1, fun y hy => (C.2 y hy).trans (by rw [show fdT T n x c y = T y from if_pos hy])⟩
  · refine eR_ldc (z := -1000000004) dX4_append_12 kw_354 (by decide) ?_
    refine eR_iret dX4_append_14 rfl rfl ?_
    exact k0 (by omega)
theorem kt_size (B : tB T n) (C : cT h T n) (k : Q (.int (zI ↑n)) (tau t s) h) : eX g 0 mX4_size 0 (lv_args 0 [.ref (gA g 1)]) [] (tau t s) h Q := by
  show eX g 0 mX4_size 0 [(0, .ref (gA g 1))] [] (tau t s) h Q
  refine eR_aldn_0 dX4_size_0 rfl ?_
  refine eR_getI dX4_size_1 gf_X4_15 th_1 rfl ?_
  refine eX_pcI (C.1) ?_
  refine eR_iret dX4_size_4 rfl rfl ?_
  exact k
theorem kt_empty (k : Q .null (tau t s) (hU h 1 1 0)) : eX g 0 mX4_empty 0 (lv_args 0 [.ref (gA g 1)]) [] (tau t s) h Q := by
  show eX g 0 mX4_empty 0 [(0, .ref (gA g 1))] [] (tau t s) h Q
  refine eR_aldn_0 dX4_empty_0 rfl ?_
  refine eR_ic dX4_empty_1 ?_
  refine eR_putI dX4_empty_2 pf_X4_15 th_1 rfl ?_
  refine eR_vret dX4_empty_5 rfl ?_
  exact k
theorem kt_found {z : Int} (hz : h 1 4 = z) (k : Q (.int (zI z)) (tau t s) h) : eX g 0 mX4_foundPlace 0 (lv_args 0 [.ref (gA g 1)]) [] (tau t s) h Q := by
  show eX g 0 mX4_foundPlace 0 [(0, .ref (gA g 1))] [] (tau t s) h Q
  refine eR_aldn_0 dX4_foundPlace_0 rfl ?_
  refine eR_getI dX4_foundPlace_1 gf_X4_25 th_1 rfl ?_
  refine eX_pcI (hz) ?_
  refine eR_iret dX4_foundPlace_4 rfl rfl ?_
  exact k
end M56
