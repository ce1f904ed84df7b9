theorem bhN_k {S : TS} {hour k : Nat} (hk : k < sC S) : bhN S hour (sC S - k) = bhN S hour (sC S - (k + 1)) ||| ooS S hour k := by
  have e1 : sC S - k = (sC S - (k + 1)) + 1 := by omega
  rw [e1]
  show bhN S hour (sC S - (k + 1)) ||| ooS S hour (sC S - (sC S - (k + 1) + 1)) = _
  rw [show sC S - (sC S - (k + 1) + 1) = k from by omega]
theorem zOr_z {a : Nat} (ha : a < 2147483648) : zOr (a : Int) 0 = (a : Int) := by
  rw [show (0 : Int) = ((0 : Nat) : Int) from rfl, zOr_nat ha (by decide), Nat.or_zero]
def lsH (S : TS) : Nat → Int
  | 0 => 0
  | k + 1 => hrC S k
def wAl (h : PH) (S : TS) (hour : Nat) : Prop := wW h S hour ∧ wS h S hour ∧ wC h S hour ∧ ∀ c, c ≤ sC S → wM h S hour c
section M45
variable {g : EG} {d t s u : Nat} {h h1 : PH} {Q : EQ} {S : TS}
theorem wl_fc1 (B : sB S) {hour : Nat} (Ww : wW h S hour) (k : ∀ h1 : PH, ofO 23 h h1 → (∀ c, 0 ≤ c → c ≤ sC S → h1 23 c = (bhN S hour (sC S - c) : Int)) → eX g 2 mX7_findConcerned 43 [(0, .ref (gA g 3)), (1, .int (zI ↑(sC S))), (2, .int (zI (↑(bhN S hour (sC S - 0))))), (3, .int (zI 0)), (4, .int (zI 0))] [] (tau t s) h1 Q) : ∀ n, n ≤ sC S + 1 → ∀ h1 : PH, ofO 23 h h1 → (∀ c, n ≤ c → c ≤ sC S → h1 23 c = (bhN S hour (sC S - c) : Int)) → eX g 2 mX7_findConcerned 4 [(0, .ref (gA g 3)), (1, .int (zI ↑(sC S))), (2, .int (zI (↑(bhN S hour (sC S - n))))), (3, .int (zI (↑n - 1)))] [] (tau t s) h1 Q := by
  have hC8 := B.2.1
  intro n
  induction n with
  | zero =>
    intro hn h1 hO hd
    refine eR_ildn_3 dX7_findConcerned_4 rfl ?_
    refine eR_if_lt (tgt := 38) dX7_findConcerned_5 (by decide) (by first | exact rg_b01 _ | (unfold rg; omega)) (fun c5 => ?_) (fun c5 => absurd c5 (by omega))
    refine eR_ic dX7_findConcerned_38 ?_
    refine eR_istn_3 dX7_findConcerned_39 rfl (by decide) rfl ?_
    refine eR_ic dX7_findConcerned_40 ?_
    refine eR_ist_n4 dX7_findConcerned_41 (by decide) rfl ?_
    exact k h1 hO hd
  | succ n ih =>
    intro hn h1 hO hd
    have Ww1 : wW h1 S hour := wW_of Ww (fun a q1 q2 => hO a (by omega))
    have hb9 := bhN_lt B (hour := hour) (sC S - (n + 1)) (by omega)
    have ho9 : n < sC S → ooS S hour n < 256 := fun q => ooS_lt B q
    refine eR_ildn_3 dX7_findConcerned_4 rfl ?_
    refine eR_if_lt (tgt := 38) dX7_findConcerned_5 (by decide) (by first | exact rg_b01 _ | (unfold rg; omega)) (fun c5 => absurd c5 (by omega)) (fun c5 => ?_)
    rw [show ((↑(n + 1) : Int) - 1) = ↑n from by omega]
    refine eR_ildn_2 dX7_findConcerned_8 rfl ?_
    refine eR_ildn_3 dX7_findConcerned_9 rfl ?_
    refine eR_ildn_1 dX7_findConcerned_10 rfl ?_
    refine eR_icmp_ge (tgt := 22) dX7_findConcerned_11 (by decide) (by first | exact rg_b01 _ | (unfold rg; omega)) (by first | exact rg_b01 _ | (unfold rg; omega)) (fun c11 => ?_) (fun c11 => ?_)
    · refine eR_ic dX7_findConcerned_22 ?_
      refine eR_ior dX7_findConcerned_23 ?_
      refine eX_pcI (show (zOr (↑(bhN S hour (sC S - (n + 1)))) 0 : Int) = ↑(bhN S hour (sC S - n)) from by rw [zOr_z (by omega), show sC S - n = 0 from by omega, show sC S - (n + 1) = 0 from by omega]) ?_
      refine eR_istn_2 dX7_findConcerned_24 rfl (by decide) rfl ?_
      refine eR_aldn_0 dX7_findConcerned_25 rfl ?_
      refine eR_getR (i := 23) dX7_findConcerned_26 gf_X7_23 th_3 rfl ?_
      refine eR_ildn_3 dX7_findConcerned_29 rfl ?_
      refine eR_ildn_2 dX7_findConcerned_30 rfl ?_
      refine eR_iast (n := n) dX7_findConcerned_31 th_23 (rfl) (by omega) (by decide) ?_
      refine eR_iinc_3 dX7_findConcerned_32 (by decide) rfl ?_
      refine eR_goto (tgt := 4) dX7_findConcerned_35 (by decide) ?_
      refine ih (by omega) _ (ofO_w hO) (fun c q1 q2 => ?_)
      by_cases hcn : c = n
      · subst hcn; exact hU_s _ _ _ _
      · rw [hU_i _ _ _ hcn]; exact hd c (by omega) q2
    · refine eR_aldn_0 dX7_findConcerned_14 rfl ?_
      refine eR_ildn_3 dX7_findConcerned_15 rfl ?_
      refine eR_callVi [_] rfl dX7_findConcerned_16 ok_mX7_outOwners kw_568 rfl rfl th_3 rfl (Nat.le_of_ble_eq_true rfl) (d' := 1) (by decide) (Nat.le_of_ble_eq_true rfl) ?_
      refine wd_outOwners (c := n) B Ww1 (by omega) ?_
      refine eR_goto (tgt := 23) dX7_findConcerned_19 (by decide) ?_
      refine eR_ior dX7_findConcerned_23 ?_
      refine eX_pcI (show (zOr (↑(bhN S hour (sC S - (n + 1)))) ↑(ooS S hour n) : Int) = ↑(bhN S hour (sC S - n)) from by rw [zOr_nat (by omega) (by omega), bhN_k (k := n) (by omega)]) ?_
      refine eR_istn_2 dX7_findConcerned_24 rfl (by decide) rfl ?_
      refine eR_aldn_0 dX7_findConcerned_25 rfl ?_
      refine eR_getR (i := 23) dX7_findConcerned_26 gf_X7_23 th_3 rfl ?_
      refine eR_ildn_3 dX7_findConcerned_29 rfl ?_
      refine eR_ildn_2 dX7_findConcerned_30 rfl ?_
      refine eR_iast (n := n) dX7_findConcerned_31 th_23 (rfl) (by omega) (by decide) ?_
      refine eR_iinc_3 dX7_findConcerned_32 (by decide) rfl ?_
      refine eR_goto (tgt := 4) dX7_findConcerned_35 (by decide) ?_
      refine ih (by omega) _ (ofO_w hO) (fun c q1 q2 => ?_)
      by_cases hcn : c = n
      · subst hcn; exact hU_s _ _ _ _
      · rw [hU_i _ _ _ hcn]; exact hd c (by omega) q2
theorem wl_fc2 (B : sB S) {hour : Nat} {b9 : Int} (Ww : wW h S hour) (k : ∀ h1 : PH, ofO 23 h h1 → wC h1 S hour → Q .null (tau t s) h1) : ∀ n i, i + n = sC S + 1 → ∀ h1 : PH, ofO 23 h h1 → (∀ c, c < i → h1 23 c = (cnN S hour c : Int)) → (∀ c, i ≤ c → c ≤ sC S → h1 23 c = (bhN S hour (sC S - c) : Int)) → eX g 2 mX7_findConcerned 43 [(0, .ref (gA g 3)), (1, .int (zI ↑(sC S))), (2, .int (zI b9)), (3, .int (zI (↑(ahN S hour (min i (sC S)))))), (4, .int (zI ↑i))] [] (tau t s) h1 Q := by
  have hC8 := B.2.1
  intro n
  induction n with
  | zero =>
    intro i hi h1 hO hd he
    refine eR_ild_4 dX7_findConcerned_43 ?_
    refine eR_ildn_1 dX7_findConcerned_45 rfl ?_
    refine eR_icmp_gt (tgt := 85) dX7_findConcerned_46 (by decide) (by first | exact rg_b01 _ | (unfold rg; omega)) (by first | exact rg_b01 _ | (unfold rg; omega)) (fun c46 => ?_) (fun c46 => absurd c46 (by omega))
    refine eR_vret dX7_findConcerned_85 rfl ?_
    exact k h1 hO (fun c hc => hd c (by omega))
  | succ n ih =>
    intro i hi h1 hO hd he
    have Ww1 : wW h1 S hour := wW_of Ww (fun a q1 q2 => hO a (by omega))
    have hb9 := bhN_lt B (hour := hour) (sC S - i) (by omega)
    have ha9 := ahN_lt B (hour := hour) (min i (sC S)) (by omega)
    have ho9 : i < sC S → ooS S hour i < 256 := fun q => ooS_lt B q
    refine eR_ild_4 dX7_findConcerned_43 ?_
    refine eR_ildn_1 dX7_findConcerned_45 rfl ?_
    refine eR_icmp_gt (tgt := 85) dX7_findConcerned_46 (by decide) (by first | exact rg_b01 _ | (unfold rg; omega)) (by first | exact rg_b01 _ | (unfold rg; omega)) (fun c46 => absurd c46 (by omega)) (fun c46 => ?_)
    refine eR_aldn_0 dX7_findConcerned_49 rfl ?_
    refine eR_getR (i := 23) dX7_findConcerned_50 gf_X7_23 th_3 rfl ?_
    refine eR_ild_4 dX7_findConcerned_53 ?_
    refine eR_dup2 dX7_findConcerned_55 rfl rfl ?_
    refine eR_iald (n := i) dX7_findConcerned_56 th_23 (rfl) (by omega) (by decide) ?_
    refine eX_pcI (he i (by omega) (by omega)) ?_
    refine eR_ildn_3 dX7_findConcerned_57 rfl ?_
    refine eR_iand dX7_findConcerned_58 ?_
    refine eX_pcI (show (zAnd (↑(bhN S hour (sC S - i))) (↑(ahN S hour (min i (sC S)))) : Int) = ↑(cnN S hour i) from by rw [zAnd_nat (by omega)]; unfold cnN; rw [show min i (sC S) = i from by omega]) ?_
    refine eR_iast (n := i) dX7_findConcerned_59 th_23 (rfl) (by omega) (by decide) ?_
    refine eR_ildn_3 dX7_findConcerned_60 rfl ?_
    refine eR_ild_4 dX7_findConcerned_61 ?_
    refine eR_ildn_1 dX7_findConcerned_63 rfl ?_
    refine eR_icmp_ge (tgt := 76) dX7_findConcerned_64 (by decide) (by first | exact rg_b01 _ | (unfold rg; omega)) (by first | exact rg_b01 _ | (unfold rg; omega)) (fun c64 => ?_) (fun c64 => ?_)
    · refine eR_ic dX7_findConcerned_76 ?_
      refine eR_ior dX7_findConcerned_77 ?_
      refine eX_pcI (show (zOr (↑(ahN S hour (min i (sC S)))) 0 : Int) = ↑(ahN S hour (min (i + 1) (sC S))) from by rw [zOr_z (by omega), show min (i + 1) (sC S) = sC S from by omega, show min i (sC S) = sC S from by omega]) ?_
      refine eR_istn_3 dX7_findConcerned_78 rfl (by decide) rfl ?_
      refine eR_iinc_4 dX7_findConcerned_79 (by decide) rfl ?_
      refine eR_goto (tgt := 43) dX7_findConcerned_82 (by decide) ?_
      refine ih (i + 1) (by omega) _ (ofO_w hO) (fun c q1 => ?_) (fun c q1 q2 => ?_)
      · by_cases hcn : c = i
        · subst hcn; rw [hU_s]
        · rw [hU_i _ _ _ hcn]; exact hd c (by omega)
      · rw [hU_i _ _ _ (by omega)]; exact he c (by omega) q2
    · have Ww2 : wW (hU h1 23 i ↑(cnN S hour i)) S hour := wW_of Ww1 (fun a q1 q2 => hU_a _ _ _ (by omega))
      refine eR_aldn_0 dX7_findConcerned_67 rfl ?_
      refine eR_ild_4 dX7_findConcerned_68 ?_
      refine eR_callVi [_] rfl dX7_findConcerned_70 ok_mX7_outOwners kw_568 rfl rfl th_3 rfl (Nat.le_of_ble_eq_true rfl) (d' := 1) (by decide) (Nat.le_of_ble_eq_true rfl) ?_
      refine wd_outOwners (c := i) B Ww2 (by omega) ?_
      refine eR_goto (tgt := 77) dX7_findConcerned_73 (by decide) ?_
      refine eR_ior dX7_findConcerned_77 ?_
      refine eX_pcI (show (zOr (↑(ahN S hour (min i (sC S)))) ↑(ooS S hour i) : Int) = ↑(ahN S hour (min (i + 1) (sC S))) from by rw [zOr_nat (by omega) (by omega), show min (i + 1) (sC S) = i + 1 from by omega, show min i (sC S) = i from by omega]; rfl) ?_
      refine eR_istn_3 dX7_findConcerned_78 rfl (by decide) rfl ?_
      refine eR_iinc_4 dX7_findConcerned_79 (by decide) rfl ?_
      refine eR_goto (tgt := 43) dX7_findConcerned_82 (by decide) ?_
      refine ih (i + 1) (by omega) _ (ofO_w hO) (fun c q1 => ?_) (fun c q1 q2 => ?_)
      · by_cases hcn : c = i
        · subst hcn; rw [hU_s]
        · rw [hU_i _ _ _ hcn]; exact hd c (by omega)
      · rw [hU_i _ _ _ (by omega)]; exact he c (by omega) q2
theorem wd_findConcerned (B : sB S) {hour : Nat} (Ww : wW h S hour) (k : ∀ h1 : PH, ofO 23 h h1 → wC h1 S hour → Q .null (tau t s) h1) : eX g 2 mX7_findConcerned 0 (lv_args 0 [.ref (gA g 3), .int (zI ↑(sC S))]) [] (tau t s) h Q := by
  show eX g 2 mX7_findConcerned 0 [(0, .ref (gA g 3)), (1, .int (zI ↑(sC S)))] [] (tau t s) h Q
  refine eR_ic dX7_findConcerned_0 ?_
  refine eR_istn_n2 dX7_findConcerned_1 rfl (by decide) rfl ?_
  refine eR_ildn_1 dX7_findConcerned_2 rfl ?_
  refine eR_istn_n3 dX7_findConcerned_3 rfl (by decide) rfl ?_
  have e9 := wl_fc1 (g := g) (t := t) (s := s) (Q := Q) B Ww (fun h1 hO hd => wl_fc2 (b9 := ↑(bhN S hour (sC S - 0))) B Ww k (sC S + 1) 0 (by omega) h1 hO (fun c hc => absurd hc (Nat.not_lt_zero c)) hd) (sC S + 1) (Nat.le_refl _) h (ofO_rf 23 h) (fun c q1 q2 => absurd q1 (by omega))
  rw [show sC S - (sC S + 1) = 0 from by omega, show ((↑(sC S + 1) : Int) - 1) = ↑(sC S) from by omega] at e9
  exact e9
theorem wl_weigh (B : sB S) {hour : Nat} (Ww : wW h S hour) (Ws : wS h S hour) (Wc : wC h S hour) {c : Nat} (hc : c < sC S) (Wm : wM h S hour (c + 1)) (k : ∀ h1 : PH, ofO (25 + c) h h1 → wM h1 S hour c → Q .null (tau t s) h1) : ∀ n i, i + n = 2 ^ bcn (cnN S hour c) 24 → ∀ h1 : PH, ofO (25 + c) h h1 → (∀ j, j < i → h1 (25 + c) (itM (cnN S hour c) j) = (savB S hour (sC S - c) (itM (cnN S hour c) j) : Int)) → eX g 2 mX7_weigh 17 [(0, .ref (gA g 3)), (1, .int (zI ↑c)), (2, .int (zI (↑(2 ^ bcn (cnN S hour c) 24 : Nat)))), (3, .int (zI (↑(itM (cnN S hour c) i)))), (4, .int (zI ↑i))] [] (tau t s) h1 Q := by
  have hC8 := B.2.1
  have hm9 := cnN_lt B (hour := hour) (c := c)
  have hk8 : bcn (cnN S hour c) 24 ≤ 8 := by rw [bcn_8 hm9]; exact bcn_le _ 8
  have hp9 : 2 ^ bcn (cnN S hour c) 24 ≤ 2 ^ 8 := Nat.pow_le_pow_right (by omega) hk8
  intro n
  induction n with
  | zero =>
    intro i hi h1 hO hd
    refine eR_ild_4 dX7_weigh_17 ?_
    refine eR_ildn_2 dX7_weigh_19 rfl ?_
    refine eR_icmp_ge (tgt := 65) dX7_weigh_20 (by decide) (by first | exact rg_b01 _ | (unfold rg; omega)) (by first | exact rg_b01 _ | (unfold rg; omega)) (fun c20 => ?_) (fun c20 => absurd c20 (by omega))
    refine eR_vret dX7_weigh_65 rfl ?_
    refine k h1 hO (fun D hD => ?_)
    obtain ⟨j, hj, rfl⟩ := itM_all (cnN_lt B) hD
    exact hd j (by omega)
  | succ n ih =>
    intro i hi h1 hO hd
    have Ww1 : wW h1 S hour := wW_of Ww (fun a q1 q2 => hO a (by omega))
    have Ws1 : wS h1 S hour := wS_of Ws (fun a q1 q2 => hO a (by omega))
    have Wc1 : wC h1 S hour := wC_of Wc (hO 23 (by omega))
    have Wm1 : wM h1 S hour (c + 1) := wM_of Wm (hO (25 + (c + 1)) (by omega))
    have hDs : sbs (itM (cnN S hour c) i) (cnN S hour c) := itM_sub _ i
    have hl9 := sbs_le hDs
    have hf9 := fb_fst S hour c (savB S hour (sC S - (c + 1))) (itM (cnN S hour c) i) 3
    have hf8 : fbC S hour c (itM (cnN S hour c) i) < 4 := Nat.lt_of_le_of_lt hf9.2.1 (by decide)
    have hs9 := savB_le B hour (sC S - c) (itM (cnN S hour c) i)
    have hs8 : sC S - c ≤ 8 := by omega
    refine eR_ild_4 dX7_weigh_17 ?_
    refine eR_ildn_2 dX7_weigh_19 rfl ?_
    refine eR_icmp_ge (tgt := 65) dX7_weigh_20 (by decide) (by first | exact rg_b01 _ | (unfold rg; omega)) (by first | exact rg_b01 _ | (unfold rg; omega)) (fun c20 => absurd c20 (by omega)) (fun c20 => ?_)
    refine eR_aldn_0 dX7_weigh_23 rfl ?_
    refine eR_getR (i := 24) dX7_weigh_24 gf_X7_26 th_3 rfl ?_
    refine eR_ildn_1 dX7_weigh_27 rfl ?_
    refine eR_aald3 (n := c) (i := 25 + c) dX7_weigh_28 th_24 (rfl) (by omega) (by decide) (rowsK_at (by omega)) ?_
    refine eR_ildn_3 dX7_weigh_29 rfl ?_
    refine eR_aldn_0 dX7_weigh_30 rfl ?_
    refine eR_ildn_1 dX7_weigh_31 rfl ?_
    refine eR_aldn_0 dX7_weigh_32 rfl ?_
    refine eR_ildn_1 dX7_weigh_33 rfl ?_
    refine eR_ildn_3 dX7_weigh_34 rfl ?_
    refine eR_callVi [_, _] rfl dX7_weigh_35 ok_mX7_firstBest kw_579 rfl rfl th_3 rfl (Nat.le_of_ble_eq_true rfl) (d' := 1) (by decide) (Nat.le_of_ble_eq_true rfl) ?_
    refine wd_firstBest (c := c) (D := itM (cnN S hour c) i) B Ww1 Ws1 Wc1 hc Wm1 hDs ?_
    refine eR_ildn_3 dX7_weigh_38 rfl ?_
    refine eR_callVi [_, _, _] rfl dX7_weigh_39 ok_mX7_sparedBy kw_583 rfl rfl th_3 rfl (Nat.le_of_ble_eq_true rfl) (d' := 0) (by decide) (Nat.le_of_ble_eq_true rfl) ?_
    refine wd_sparedBy (c := c) (ch := fbC S hour c (itM (cnN S hour c) i)) (D := (itM (cnN S hour c) i)) B Ww1 Ws1 Wc1 hc hf8 Wm1 hf9.1.1 hDs ?_
    refine eX_pcI (show (↑(vlN S c (savB S hour (sC S - (c + 1))) (itM (cnN S hour c) i) (fbC S hour c (itM (cnN S hour c) i))) : Int) = ↑(savB S hour (sC S - c) (itM (cnN S hour c) i)) from by rw [vl_fb hc]) ?_
    refine eR_iast (n := (itM (cnN S hour c) i)) dX7_weigh_42 (tr_m (i := c) (by omega)) (rfl) (by omega) (by decide) ?_
    refine eR_ildn_3 dX7_weigh_43 rfl ?_
    refine eR_aldn_0 dX7_weigh_44 rfl ?_
    refine eR_getR (i := 23) dX7_weigh_45 gf_X7_23 th_3 rfl ?_
    refine eR_ildn_1 dX7_weigh_48 rfl ?_
    refine eR_iald (n := c) dX7_weigh_49 th_23 (rfl) (by omega) (by decide) ?_
    refine eX_pcI (congrFun (hU_a _ _ _ (by omega)) _) ?_
    refine eX_pcI (Wc1 c (by omega)) ?_
    refine eR_isub dX7_weigh_50 ?_
    refine eR_aldn_0 dX7_weigh_51 rfl ?_
    refine eR_getR (i := 23) dX7_weigh_52 gf_X7_23 th_3 rfl ?_
    refine eR_ildn_1 dX7_weigh_55 rfl ?_
    refine eR_iald (n := c) dX7_weigh_56 th_23 (rfl) (by omega) (by decide) ?_
    refine eX_pcI (congrFun (hU_a _ _ _ (by omega)) _) ?_
    refine eX_pcI (Wc1 c (by omega)) ?_
    refine eR_iand dX7_weigh_57 ?_
    refine eX_pcI (show (zAnd ((↑(itM (cnN S hour c) i)) - ↑(cnN S hour c)) ↑(cnN S hour c) : Int) = ↑(itM (cnN S hour c) (i + 1)) from zSubAnd (sbs_le hDs) (cnN_lt B)) ?_
    refine eR_istn_3 dX7_weigh_58 rfl (by decide) rfl ?_
    refine eR_iinc_4 dX7_weigh_59 (by decide) rfl ?_
    refine eR_goto (tgt := 17) dX7_weigh_62 (by decide) ?_
    refine ih (i + 1) (by omega) _ (ofO_w hO) (fun j hj => ?_)
    by_cases hjD : itM (cnN S hour c) j = (itM (cnN S hour c) i)
    · rw [hjD, hU_s]
    · rw [hU_i _ _ _ hjD]
      exact hd j (by
        by_cases hji : j = i
        · exact absurd (by rw [hji]) hjD
        · omega)
theorem wd_weigh (B : sB S) {hour : Nat} (Ww : wW h S hour) (Ws : wS h S hour) (Wc : wC h S hour) {c : Nat} (hc : c < sC S) (Wm : wM h S hour (c + 1)) (k : ∀ h1 : PH, ofO (25 + c) h h1 → wM h1 S hour c → Q .null (tau t s) h1) : eX g 2 mX7_weigh 0 (lv_args 0 [.ref (gA g 3), .int (zI ↑c)]) [] (tau t s) h Q := by
  show eX g 2 mX7_weigh 0 [(0, .ref (gA g 3)), (1, .int (zI ↑c))] [] (tau t s) h Q
  have hC8 := B.2.1
  have hm9 := cnN_lt B (hour := hour) (c := c)
  have hk8 : bcn (cnN S hour c) 24 ≤ 8 := by rw [bcn_8 hm9]; exact bcn_le _ 8
  have hp9 : 2 ^ bcn (cnN S hour c) 24 ≤ 2 ^ 8 := Nat.pow_le_pow_right (by omega) hk8
  refine eR_ic dX7_weigh_0 ?_
  refine eR_aldn_0 dX7_weigh_1 rfl ?_
  refine eR_getR (i := 23) dX7_weigh_2 gf_X7_23 th_3 rfl ?_
  refine eR_ildn_1 dX7_weigh_5 rfl ?_
  refine eR_iald (n := c) dX7_weigh_6 th_23 (rfl) (by omega) (by decide) ?_
  refine eX_pcI (Wc c (by omega)) ?_
  refine eR_callSi [_] rfl dX7_weigh_7 ok_mJ6_bitCount_0f7a4 kw_551 rfl rfl (Nat.le_of_ble_eq_true rfl) (d' := 0) (by decide) (Nat.le_of_ble_eq_true rfl) ?_
  refine sp_bitCount (n := (cnN S hour c)) (by omega) ?_
  refine eR_ishl dX7_weigh_10 ?_
  refine eX_pcI (show (zShl 1 (↑(bcn (cnN S hour c) 24)) : Int) = ↑(2 ^ bcn (cnN S hour c) 24 : Nat) from by have := zShl_nat (a := 1) (k := bcn (cnN S hour c) 24) (by omega) (by omega); rw [Nat.one_mul] at this; exact this) ?_
  refine eR_istn_n2 dX7_weigh_11 rfl (by decide) rfl ?_
  refine eR_ic dX7_weigh_12 ?_
  refine eR_istn_n3 dX7_weigh_13 rfl (by decide) rfl ?_
  refine eR_ic dX7_weigh_14 ?_
  refine eR_ist_n4 dX7_weigh_15 (by decide) rfl ?_
  exact wl_weigh B Ww Ws Wc hc Wm k (2 ^ bcn (cnN S hour c) 24) 0 (by omega) h (ofO_rf _ h) (fun j hj => absurd hj (Nat.not_lt_zero j))
theorem wl_hour1 {hour : Nat} (T : isTn (tau t s) u) (B : sB S) (V : cV h u S) (hh : hour < 24) (h38 : 38 ≤ u) (k : ∀ h1 : PH, ofR 6 23 h h1 → wW h1 S hour → wS h1 S hour → eX g 3 mX7_chillOfHour 23 [(0, .ref (gA g 3)), (1, .ref (gA g u)), (2, .int (zI ↑hour)), (3, .int (zI ↑(sC S)))] [] (tau t s) h1 Q) : ∀ n c, c + n = sC S → ∀ h1 : PH, ofR 6 23 h h1 → (∀ x ch, x < c → ch < 4 → h1 (6 + x) ch = clad S hour x ch) → (∀ x ch, x < c → ch < 4 → clP S hour x ch → h1 (15 + x) ch = (spBy S x ch : Int)) → eX g 3 mX7_chillOfHour 2 [(0, .ref (gA g 3)), (1, .ref (gA g u)), (2, .int (zI ↑hour)), (3, .int (zI ↑c))] [] (tau t s) h1 Q := by
  have hC8 := B.2.1
  intro n
  induction n with
  | zero =>
    intro c hc h1 hF hW hS
    have V1 : cV h1 u S := cV_R B V hF (by omega)
    refine eR_ildn_3 dX7_chillOfHour_2 rfl ?_
    refine eR_aldn_1 dX7_chillOfHour_3 rfl ?_
    refine eR_getI dX7_chillOfHour_4 gf_X7_39 T.1 rfl ?_
    refine eX_pcI (V1.2.1) ?_
    refine eR_icmp_ge (tgt := 23) dX7_chillOfHour_7 (by decide) (by first | exact rg_b01 _ | (unfold rg; omega)) (by first | exact rg_b01 _ | (unfold rg; omega)) (fun c7 => ?_) (fun c7 => absurd c7 (by omega))
    have e9 : c = sC S := by omega
    subst e9
    exact k h1 hF hW hS
  | succ n ih =>
    intro c hc h1 hF hW hS
    have V1 : cV h1 u S := cV_R B V hF (by omega)
    refine eR_ildn_3 dX7_chillOfHour_2 rfl ?_
    refine eR_aldn_1 dX7_chillOfHour_3 rfl ?_
    refine eR_getI dX7_chillOfHour_4 gf_X7_39 T.1 rfl ?_
    refine eX_pcI (V1.2.1) ?_
    refine eR_icmp_ge (tgt := 23) dX7_chillOfHour_7 (by decide) (by first | exact rg_b01 _ | (unfold rg; omega)) (by first | exact rg_b01 _ | (unfold rg; omega)) (fun c7 => absurd c7 (by omega)) (fun c7 => ?_)
    refine eR_aldn_0 dX7_chillOfHour_10 rfl ?_
    refine eR_aldn_1 dX7_chillOfHour_11 rfl ?_
    refine eR_ildn_3 dX7_chillOfHour_12 rfl ?_
    refine eR_ildn_2 dX7_chillOfHour_13 rfl ?_
    refine eR_callVv [_, _, _] rfl dX7_chillOfHour_14 ok_mX7_layOut kw_539 rfl rfl th_3 rfl (Nat.le_of_ble_eq_true rfl) (d' := 2) (by decide) (Nat.le_of_ble_eq_true rfl) ?_
    refine wd_layOut (c := c) T B V1 (by omega) hh h38 (fun h2 hF2 hW2 hS2 => ?_)
    refine eR_iinc_3 dX7_chillOfHour_17 (by decide) rfl ?_
    refine eR_goto (tgt := 2) dX7_chillOfHour_20 (by decide) ?_
    refine ih (c + 1) (by omega) h2 (fun a q => by rw [hF2 a (by omega) (by omega)]; exact hF a q) (fun x ch hx hch => ?_) (fun x ch hx hch hcl => ?_)
    · by_cases hxc : x = c
      · subst hxc; exact hW2 ch hch
      · rw [hF2 _ (by omega) (by omega)]; exact hW x ch (by omega) hch
    · by_cases hxc : x = c
      · subst hxc; exact hS2 ch hch hcl
      · rw [hF2 _ (by omega) (by omega)]; exact hS x ch (by omega) hch hcl
theorem wl_hour2 {hour : Nat} (B : sB S) (Ww : wW h S hour) (Ws : wS h S hour) (Wc : wC h S hour) (k : ∀ h1 : PH, ofR 25 34 h h1 → (∀ c, c ≤ sC S → wM h1 S hour c) → eX g 3 mX7_chillOfHour 65 [(0, .ref (gA g 3)), (1, .ref (gA g u)), (2, .int (zI ↑hour))] [] (tau t s) h1 Q) : ∀ n, n ≤ sC S → ∀ h1 : PH, ofR 25 34 h h1 → (∀ c, n ≤ c → c ≤ sC S → wM h1 S hour c) → eX g 3 mX7_chillOfHour 50 [(0, .ref (gA g 3)), (1, .ref (gA g u)), (2, .int (zI ↑hour)), (3, .int (zI (↑n - 1)))] [] (tau t s) h1 Q := by
  have hC8 := B.2.1
  intro n
  induction n with
  | zero =>
    intro hn h1 hF hM
    refine eR_ildn_3 dX7_chillOfHour_50 rfl ?_
    refine eR_if_lt (tgt := 65) dX7_chillOfHour_51 (by decide) (by first | exact rg_b01 _ | (unfold rg; omega)) (fun c51 => ?_) (fun c51 => absurd c51 (by omega))
    refine eX_lv (lv2 := List.take 3 _) (fun q hq => List.mem_of_mem_take hq) ?_
    exact k h1 hF (fun c hc => hM c (Nat.zero_le c) hc)
  | succ n ih =>
    intro hn h1 hF hM
    have Ww1 : wW h1 S hour := wW_of Ww (fun a q1 q2 => hF a (by omega))
    have Ws1 : wS h1 S hour := wS_of Ws (fun a q1 q2 => hF a (by omega))
    have Wc1 : wC h1 S hour := wC_of Wc (hF 23 (by omega))
    refine eR_ildn_3 dX7_chillOfHour_50 rfl ?_
    refine eR_if_lt (tgt := 65) dX7_chillOfHour_51 (by decide) (by first | exact rg_b01 _ | (unfold rg; omega)) (fun c51 => absurd c51 (by omega)) (fun c51 => ?_)
    rw [show ((↑(n + 1) : Int) - 1) = ↑n from by omega]
    refine eR_aldn_0 dX7_chillOfHour_54 rfl ?_
    refine eR_ildn_3 dX7_chillOfHour_55 rfl ?_
    refine eR_callVv [_] rfl dX7_chillOfHour_56 ok_mX7_weigh kw_575 rfl rfl th_3 rfl (Nat.le_of_ble_eq_true rfl) (d' := 2) (by decide) (Nat.le_of_ble_eq_true rfl) ?_
    refine wd_weigh (c := n) B Ww1 Ws1 Wc1 (by omega) (hM (n + 1) (by omega) (by omega)) (fun h2 hO2 hM2 => ?_)
    refine eR_iinc_3 dX7_chillOfHour_59 (by decide) rfl ?_
    refine eR_goto (tgt := 50) dX7_chillOfHour_62 (by decide) ?_
    refine ih (by omega) h2 (fun a q => by rw [hO2 a (by omega)]; exact hF a q) (fun c q1 q2 => ?_)
    by_cases hcn : c = n
    · subst hcn; exact hM2
    · exact wM_of (hM c (by omega) q2) (hO2 _ (by omega))
theorem wd_chillOfHour {hour : Nat} (T : isTn (tau t s) u) (B : sB S) (V : cV h u S) (hh : hour < 24) (h38 : 38 ≤ u) (k : ∀ h1 : PH, ofR 3 34 h h1 → wAl h1 S hour → Q (.int (zI (hrC S hour))) (tau t s) h1) : eX g 3 mX7_chillOfHour 0 (lv_args 0 [.ref (gA g 3), .ref (gA g u), .int (zI ↑hour)]) [] (tau t s) h Q := by
  show eX g 3 mX7_chillOfHour 0 [(0, .ref (gA g 3)), (1, .ref (gA g u)), (2, .int (zI ↑hour))] [] (tau t s) h Q
  have hP8 := B.1
  have hC8 := B.2.1
  have hE10 := B.2.2.1
  have hF99 := B.2.2.2.2.2.2.1
  refine eR_ic dX7_chillOfHour_0 ?_
  refine eR_istn_n3 dX7_chillOfHour_1 rfl (by decide) rfl ?_
  refine wl_hour1 T B V hh h38 (fun h1 hF Ww Ws => ?_) (sC S) 0 (by omega) h (ofR_rf _ _ h) (fun x ch hx => absurd hx (Nat.not_lt_zero x)) (fun x ch hx => absurd hx (Nat.not_lt_zero x))
  have V1 : cV h1 u S := cV_R B V hF (by omega)
  refine eR_aldn_0 dX7_chillOfHour_23 rfl ?_
  refine eR_aldn_1 dX7_chillOfHour_24 rfl ?_
  refine eR_getI dX7_chillOfHour_25 gf_X7_39 T.1 rfl ?_
  refine eX_pcI (V1.2.1) ?_
  refine eR_callVv [_] rfl dX7_chillOfHour_28 ok_mX7_findConcerned kw_564 rfl rfl th_3 rfl (Nat.le_of_ble_eq_true rfl) (d' := 2) (by decide) (Nat.le_of_ble_eq_true rfl) ?_
  refine wd_findConcerned B Ww (fun h2 hO2 Wc2 => ?_)
  have Ww2 : wW h2 S hour := wW_of Ww (fun a q1 q2 => hO2 a (by omega))
  have Ws2 : wS h2 S hour := wS_of Ws (fun a q1 q2 => hO2 a (by omega))
  have V2 : cV h2 u S := cV_of B V1 (fun a q1 q2 => hO2 a (by omega))
  refine eR_aldn_0 dX7_chillOfHour_31 rfl ?_
  refine eR_getR (i := 24) dX7_chillOfHour_32 gf_X7_26 th_3 rfl ?_
  refine eR_aldn_1 dX7_chillOfHour_35 rfl ?_
  refine eR_getI dX7_chillOfHour_36 gf_X7_39 T.1 rfl ?_
  refine eX_pcI (V2.2.1) ?_
  refine eR_aald3 (n := (sC S)) (i := 25 + (sC S)) dX7_chillOfHour_39 th_24 (rfl) (by omega) (by decide) (rowsK_at (by omega)) ?_
  refine eR_ic dX7_chillOfHour_40 ?_
  refine eR_ic dX7_chillOfHour_41 ?_
  refine eR_iast (n := 0) dX7_chillOfHour_42 (tr_m (i := (sC S)) (by omega)) (rfl) (by decide) (by decide) ?_
  refine eR_aldn_1 dX7_chillOfHour_43 rfl ?_
  refine eR_getI dX7_chillOfHour_44 gf_X7_39 T.1 rfl ?_
  refine eX_pcI (congrFun (hU_a _ _ _ (by omega)) _) ?_
  refine eX_pcI (V2.2.1) ?_
  refine eR_ic dX7_chillOfHour_47 ?_
  refine eR_isub dX7_chillOfHour_48 ?_
  refine eR_istn_3 dX7_chillOfHour_49 rfl (by decide) rfl ?_
  have Ww3 : wW (hU h2 (25 + (sC S)) 0 0) S hour := wW_of Ww2 (fun a q1 q2 => hU_a _ _ _ (by omega))
  have Ws3 : wS (hU h2 (25 + (sC S)) 0 0) S hour := wS_of Ws2 (fun a q1 q2 => hU_a _ _ _ (by omega))
  have Wc3 : wC (hU h2 (25 + (sC S)) 0 0) S hour := wC_of Wc2 (hU_a _ _ _ (by omega))
  refine wl_hour2 B Ww3 Ws3 Wc3 (fun h4 hF4 hM4 => ?_) (sC S) (Nat.le_refl _) _ (ofR_rf _ _ _) (fun c q1 q2 => ?_)
  · have hF5 : ofR 3 34 h h4 := fun a q => by rw [hF4 a (by omega), hU_a _ _ _ (by omega), hO2 a (by omega), hF a (by omega)]
    have V4 : cV h4 u S := cV_R B V hF5 (by omega)
    have ho9 := outN_le S hour (sP S)
    have hs9 := savB_le B hour (sC S) 0
    have hm9 : outN S hour (sP S) * sF S ≤ 8 * 99 := Nat.mul_le_mul (by omega) hF99
    refine eR_aldn_1 dX7_chillOfHour_65 rfl ?_
    refine eR_ildn_2 dX7_chillOfHour_66 rfl ?_
    refine eR_callVi [_] rfl dX7_chillOfHour_67 ok_mX6_countOut kw_587 rfl rfl T.1 rfl (Nat.le_of_ble_eq_true rfl) (d' := 0) (by decide) (Nat.le_of_ble_eq_true rfl) ?_
    refine tn_countOut (hour := hour) T B V4 (by omega) ?_
    refine eR_aldn_1 dX7_chillOfHour_70 rfl ?_
    refine eR_getI dX7_chillOfHour_71 gf_X7_58 T.1 rfl ?_
    refine eX_pcI (V4.2.2.2.1) ?_
    refine eR_imul dX7_chillOfHour_74 ?_
    refine eX_pcI (show ((↑(outN S hour (sP S))) * ↑(sF S) : Int) = ↑(outN S hour (sP S) * sF S : Nat) from by omega) ?_
    refine eR_aldn_0 dX7_chillOfHour_75 rfl ?_
    refine eR_getR (i := 24) dX7_chillOfHour_76 gf_X7_26 th_3 rfl ?_
    refine eR_ic dX7_chillOfHour_79 ?_
    refine eR_aald3 (n := 0) (i := 25 + 0) dX7_chillOfHour_80 th_24 (rfl) (by decide) (by decide) (rowsK_at (by decide)) ?_
    refine eR_ic dX7_chillOfHour_81 ?_
    refine eR_iald (n := 0) dX7_chillOfHour_82 (tr_m (i := 0) (by decide)) (rfl) (by decide) (by decide) ?_
    refine eX_pcI ((hM4 0 (Nat.zero_le _)) 0 (fun i hi => by simp at hi)) ?_
    refine eR_isub dX7_chillOfHour_83 ?_
    refine eR_iret dX7_chillOfHour_84 rfl rfl ?_
    exact k h4 hF5 ⟨wW_of Ww3 (fun a q1 q2 => hF4 a (by omega)), wS_of Ws3 (fun a q1 q2 => hF4 a (by omega)), wC_of Wc3 (hF4 23 (by omega)), hM4⟩
  · have e9 : c = sC S := by omega
    subst e9
    intro D hD
    have hD0 := sbs_le hD
    have e8 : cnN S hour (sC S) = 0 := by unfold cnN; rw [show sC S - sC S = 0 from by omega]; exact Nat.zero_and _
    have e7 : D = 0 := by omega
    subst e7
    rw [hU_s, show sC S - sC S = 0 from by omega]
    rfl
end M45
