theorem zL_and {a m : Nat} : zL (a : Int) &&& zL (m : Int) = zL ((a &&& m : Nat) : Int) := by
  apply Int64.toBitVec_inj.mp
  show BitVec.ofInt 64 (a : Int) &&& BitVec.ofInt 64 (m : Int) = BitVec.ofInt 64 ((a &&& m : Nat) : Int)
  rw [BitVec.ofInt_natCast, BitVec.ofInt_natCast, BitVec.ofInt_natCast]
  apply BitVec.eq_of_getLsbD_eq
  intro i hi
  rw [BitVec.getLsbD_and, BitVec.getLsbD_ofNat, BitVec.getLsbD_ofNat, BitVec.getLsbD_ofNat, Nat.testBit_and]
  simp [hi]
theorem eR_landz {g : EG} {d : Nat} {M : MM} {pc : Nat} {lv : List (Nat × Value)} {st : List Value} {τ : List Kd} {h : PH} {Q : EQ} {a m : Nat} (hd : decode M.2.1 pc = .ok (.land, 1)) (k : eX g d M (pc + 1) lv (.long (zL ((a &&& m : Nat) : Int)) :: st) τ h Q) : eX g d M pc lv (.long (zL (m : Int)) :: .long (zL (a : Int)) :: st) τ h Q := eR_land hd (by rw [zL_and]; exact k)
theorem zL_n0 {n : Nat} (h0 : 0 < n) (h1 : n < 1000) : ¬ zL (n : Int) = 0 := fun q => by
  have q2 : (n : Int) = 0 := (zL_eq (b := 0) (by unfold rL; omega) (by unfold rL; omega)).mp q
  omega
theorem nx_and (x : Nat) : (x * 1103515245 + 12345) &&& 2147483647 = nxS x := by
  unfold nxS
  rw [show (2147483647 : Nat) = 2 ^ 31 - 1 from rfl, Nat.and_two_pow_sub_one_eq_mod]
/-- what may change in a WINTER -/
def wnF (t : Nat) (h h1 : PH) : Prop := ∀ a i, ¬ ((a = 0 ∧ i = 9) ∨ (3 ≤ a ∧ a < 38) ∨ (t ≤ a ∧ a < t + 41)) → h1 a i = h a i
theorem wnF_rf (t : Nat) (h : PH) : wnF t h h := fun _ _ _ => rfl
theorem wnF_tr {t : Nat} {h h1 h2 : PH} (a : wnF t h h1) (b : wnF t h1 h2) : wnF t h h2 := fun x i q => (b x i q).trans (a x i q)
theorem wnF_w {t a i : Nat} {z : Int} {h h1 : PH} (p : wnF t h h1) (q : (a = 0 ∧ i = 9) ∨ (3 ≤ a ∧ a < 38) ∨ (t ≤ a ∧ a < t + 41)) : wnF t h (hU h1 a i z) := fun x j r => by rw [hU_ne2 (by rintro ⟨e1, e2⟩; subst e1; subst e2; exact r q)]; exact p x j r
theorem wnF_R {t lo hi : Nat} {h h1 h2 : PH} (p : wnF t h h1) (q : ofR lo hi h1 h2) (r : 3 ≤ lo ∧ hi ≤ 38) : wnF t h h2 := fun x i q1 => by rw [q x (by omega)]; exact p x i q1
theorem smT_O (S : TS) (c k v : Nat) : smT S (setO S c k v) := smT_rf S
theorem smT_K (S : TS) (n : Nat) : smT S (setK S n) := smT_rf S
theorem smT_F (S : TS) (n : Nat) : smT S (setF S n) := smT_rf S
section M61
variable {g : EG} {d t s u : Nat} {h h1 : PH} {Q : EQ} {S : TS}
theorem ct_draw {x n : Nat} (hx : h 0 9 = (x : Int)) (hx1 : x < 2147483648) (hn : 0 < n) (hn1 : n < 1000) (k : Q (.int (zI ↑(drN x n))) (tau t s) (hU h 0 9 ↑(nxS x))) : eX g 0 mX8_draw 0 (lv_args 0 [.ref (gA g 0), .int (zI ↑n)]) [] (tau t s) h Q := by
  show eX g 0 mX8_draw 0 [(0, .ref (gA g 0)), (1, .int (zI ↑n))] [] (tau t s) h Q
  have hl9 := nxS_lt x
  refine eR_aldn_0 dX8_draw_0 rfl ?_
  refine eR_aldn_0 dX8_draw_1 rfl ?_
  refine eR_getL dX8_draw_2 gf_X8_64 th_0 rfl ?_
  refine eX_pcL (hx) ?_
  refine eR_ldc2 (z := 1103515245) dX8_draw_5 kw_822 (by decide) ?_
  refine eR_lmulz dX8_draw_8 ?_
  refine eR_ldc2 (z := 12345) dX8_draw_9 kw_823 (by decide) ?_
  refine eR_laddz dX8_draw_12 ?_
  refine eX_pcL (show ((↑x * 1103515245) + 12345 : Int) = ↑(x * 1103515245 + 12345 : Nat) from by omega) ?_
  refine eR_ldc2 (z := 2147483647) dX8_draw_13 kw_824 (by decide) ?_
  refine eR_landz (a := x * 1103515245 + 12345) (m := 2147483647) dX8_draw_16 ?_
  refine eX_pcL (show (↑(x * 1103515245 + 12345 &&& 2147483647 : Nat) : Int) = ↑(nxS x) from by rw [nx_and]) ?_
  refine eR_putL dX8_draw_17 pf_X8_64 th_0 rfl ?_
  refine eR_ildn_1 dX8_draw_20 rfl ?_
  refine eR_if_le (tgt := 39) dX8_draw_21 (by decide) (by first | exact rg_b01 _ | (unfold rg; omega)) (fun c21 => absurd c21 (by omega)) (fun c21 => ?_)
  refine eR_aldn_0 dX8_draw_24 rfl ?_
  refine eR_getL dX8_draw_25 gf_X8_64 th_0 rfl ?_
  refine eX_pcL (hU_s _ _ _ _) ?_
  refine eR_ldc2 (z := 65536) dX8_draw_28 kw_825 (by decide) ?_
  refine eR_ldivz dX8_draw_31 (by unfold rL; omega) (by unfold rL; omega) (by decide) ?_
  refine eX_pcL (show (Int.tdiv ↑(nxS x) 65536 : Int) = ↑(nxS x / 65536 : Nat) from rfl) ?_
  refine eR_ildn_1 dX8_draw_32 rfl ?_
  refine eR_i2lz dX8_draw_33 (by first | exact rg_b01 _ | (unfold rg; omega)) ?_
  refine eR_lremz dX8_draw_34 (by unfold rL; omega) (by unfold rL; omega) (zL_n0 hn hn1) ?_
  refine eX_pcL (show (Int.tmod ↑(nxS x / 65536 : Nat) ↑n : Int) = ↑(drN x n) from rfl) ?_
  refine eR_l2iz dX8_draw_35 ?_
  refine eR_goto (tgt := 40) dX8_draw_36 (by decide) ?_
  refine eR_iret dX8_draw_40 rfl rfl ?_
  exact k
theorem ct_draw2 {x n y v : Nat} (hy : nxS x = y) (hv : drN x n = v) (hx : h 0 9 = (x : Int)) (hx1 : x < 2147483648) (hn : 0 < n) (hn1 : n < 1000) (k : Q (.int (zI ↑v)) (tau t s) (hU h 0 9 ↑y)) : eX g 0 mX8_draw 0 (lv_args 0 [.ref (gA g 0), .int (zI ↑n)]) [] (tau t s) h Q := by
  subst hy; subst hv
  exact ct_draw hx hx1 hn hn1 k
theorem ct_sellBy (T : isTn (tau t s) t) (B : sB S) (V : cV h t S) (h38 : 38 ≤ t) (hC0 : 0 < sC S) {x x1 x2 x3 cw lw pw : Nat} (hx : h 0 9 = (x : Int)) (hx1 : x < 2147483648) (e1 : nxS x = x1) (e2 : nxS x1 = x2) (e3 : nxS x2 = x3) (f1 : drN x (sC S) = cw) (f2 : drN x1 2 = lw) (f7 : drN x2 (sP S) = pw)
    (k : ∀ h1 : PH, wnF t h h1 → h1 0 9 = (x3 : Int) → cV h1 t (if okBuy S cw pw then setO S cw lw pw else S) → Q .null (tau t s) h1) : eX g 2 mX8_sellByDraws 0 (lv_args 0 [.ref (gA g 0)]) [] (tau t s) h Q := by
  show eX g 2 mX8_sellByDraws 0 [(0, .ref (gA g 0))] [] (tau t s) h Q
  have hP8 := B.1
  have hC8 := B.2.1
  have hE10 := B.2.2.1
  have hF99 := B.2.2.2.2.2.2.1
  have ho9 := B.2.2.2.1 0 hC0
  have hy1 := nxS_lt x
  have hy2 := nxS_lt x1
  have hy3 := nxS_lt x2
  have hcw : cw < sC S := by rw [← f1]; exact drN_lt x hC0
  have hlw : lw < 2 := by rw [← f2]; exact drN_lt x1 (by decide)
  have hpw : pw < sP S := by rw [← f7]; exact drN_lt x2 (by omega)
  have hsl := sO_lt B (c := cw) (k := lw) hcw hlw
  rw [e1] at hy1
  rw [e2] at hy2
  rw [e3] at hy3
  have V3 : cV (hU (hU (hU h 0 9 ↑x1) 0 9 ↑x2) 0 9 ↑x3) t S := cV_w B (cV_w B (cV_w B V (by omega)) (by omega)) (by omega)
  have f3 : wnF t h (hU (hU (hU h 0 9 ↑x1) 0 9 ↑x2) 0 9 ↑x3) := wnF_w (wnF_w (wnF_w (wnF_rf t h) (Or.inl ⟨rfl, rfl⟩)) (Or.inl ⟨rfl, rfl⟩)) (Or.inl ⟨rfl, rfl⟩)
  by_cases hok : okBuy S cw pw
  · refine eR_aldn_0 dX8_sellByDraws_0 rfl ?_
    refine eR_aldn_0 dX8_sellByDraws_1 rfl ?_
    refine eR_getR (i := t) dX8_sellByDraws_2 gf_X8_57 th_0 rfl ?_
    refine eR_getI dX8_sellByDraws_5 gf_X8_93 T.1 rfl ?_
    refine eX_pcI (V.2.1) ?_
    refine eR_callVi [_] rfl dX8_sellByDraws_8 ok_mX8_draw kw_818 rfl rfl th_0 rfl (Nat.le_of_ble_eq_true rfl) (d' := 0) (by decide) (Nat.le_of_ble_eq_true rfl) ?_
    refine ct_draw2 (x := x) (n := sC S) (y := x1) (v := cw) e1 f1 (hx) (by omega) (by omega) (by omega) ?_
    refine eR_istn_n1 dX8_sellByDraws_11 rfl (by decide) rfl ?_
    refine eR_aldn_0 dX8_sellByDraws_12 rfl ?_
    refine eR_ic dX8_sellByDraws_13 ?_
    refine eR_callVi [_] rfl dX8_sellByDraws_14 ok_mX8_draw kw_818 rfl rfl th_0 rfl (Nat.le_of_ble_eq_true rfl) (d' := 0) (by decide) (Nat.le_of_ble_eq_true rfl) ?_
    refine ct_draw2 (x := x1) (n := 2) (y := x2) (v := lw) e2 f2 (hU_s _ _ _ _) (by omega) (by omega) (by omega) ?_
    refine eR_istn_n2 dX8_sellByDraws_17 rfl (by decide) rfl ?_
    refine eR_aldn_0 dX8_sellByDraws_18 rfl ?_
    refine eR_aldn_0 dX8_sellByDraws_19 rfl ?_
    refine eR_getR (i := t) dX8_sellByDraws_20 gf_X8_57 th_0 rfl ?_
    refine eR_getI dX8_sellByDraws_23 gf_X8_96 T.1 rfl ?_
    refine eX_pcI (congrFun (hU_a _ _ _ (by omega)) _) ?_
    refine eX_pcI (congrFun (hU_a _ _ _ (by omega)) _) ?_
    refine eX_pcI (V.1) ?_
    refine eR_callVi [_] rfl dX8_sellByDraws_26 ok_mX8_draw kw_818 rfl rfl th_0 rfl (Nat.le_of_ble_eq_true rfl) (d' := 0) (by decide) (Nat.le_of_ble_eq_true rfl) ?_
    refine ct_draw2 (x := x2) (n := sP S) (y := x3) (v := pw) e3 f7 (hU_s _ _ _ _) (by omega) (by omega) (by omega) ?_
    refine eR_istn_n3 dX8_sellByDraws_29 rfl (by decide) rfl ?_
    refine eR_aldn_0 dX8_sellByDraws_30 rfl ?_
    refine eR_getR (i := t) dX8_sellByDraws_31 gf_X8_57 th_0 rfl ?_
    refine eR_ildn_1 dX8_sellByDraws_34 rfl ?_
    refine eR_ildn_2 dX8_sellByDraws_35 rfl ?_
    refine eR_ildn_3 dX8_sellByDraws_36 rfl ?_
    refine eR_callVi [_, _, _] rfl dX8_sellByDraws_37 ok_mX6_maySell kw_659 rfl rfl T.1 rfl (Nat.le_of_ble_eq_true rfl) (d' := 1) (by decide) (Nat.le_of_ble_eq_true rfl) ?_
    refine tn_maySell (c := cw) (p := pw) T B (cV_w B (cV_w B (cV_w B V (by omega)) (by omega)) (by omega)) (by omega) (by omega) ?_
    refine eR_if_eq (tgt := 55) dX8_sellByDraws_40 (by decide) (by first | exact rg_b01 _ | (unfold rg; omega)) (fun c40 => absurd c40 (by first | simp [b01, hok] | (rw [b01_t hok]; decide))) (fun c40 => ?_)
    refine eR_aldn_0 dX8_sellByDraws_43 rfl ?_
    refine eR_getR (i := t) dX8_sellByDraws_44 gf_X8_57 th_0 rfl ?_
    refine eR_getR (i := t + 1) dX8_sellByDraws_47 gf_X8_125 T.1 rfl ?_
    refine eR_ildn_1 dX8_sellByDraws_50 rfl ?_
    refine eR_aald3 (n := cw) (i := t + 2 + cw) dX8_sellByDraws_51 T.2.1 (rfl) (by omega) (by decide) (rowsK_at (by omega)) ?_
    refine eR_ildn_2 dX8_sellByDraws_52 rfl ?_
    refine eR_ildn_3 dX8_sellByDraws_53 rfl ?_
    refine eR_iast (n := lw) dX8_sellByDraws_54 (T.2.2.1 cw (by omega)) (rfl) (by omega) (by decide) ?_
    refine eR_vret dX8_sellByDraws_55 rfl ?_
    refine k _ (wnF_w f3 (by omega)) (by rw [hU_ne2 (by omega)]; exact hU_s _ _ _ _) ?_
    rw [if_pos hok]
    exact cV_setO B V3 (by omega) (by omega)
  · refine eR_aldn_0 dX8_sellByDraws_0 rfl ?_
    refine eR_aldn_0 dX8_sellByDraws_1 rfl ?_
    refine eR_getR (i := t) dX8_sellByDraws_2 gf_X8_57 th_0 rfl ?_
    refine eR_getI dX8_sellByDraws_5 gf_X8_93 T.1 rfl ?_
    refine eX_pcI (V.2.1) ?_
    refine eR_callVi [_] rfl dX8_sellByDraws_8 ok_mX8_draw kw_818 rfl rfl th_0 rfl (Nat.le_of_ble_eq_true rfl) (d' := 0) (by decide) (Nat.le_of_ble_eq_true rfl) ?_
    refine ct_draw2 (x := x) (n := sC S) (y := x1) (v := cw) e1 f1 (hx) (by omega) (by omega) (by omega) ?_
    refine eR_istn_n1 dX8_sellByDraws_11 rfl (by decide) rfl ?_
    refine eR_aldn_0 dX8_sellByDraws_12 rfl ?_
    refine eR_ic dX8_sellByDraws_13 ?_
    refine eR_callVi [_] rfl dX8_sellByDraws_14 ok_mX8_draw kw_818 rfl rfl th_0 rfl (Nat.le_of_ble_eq_true rfl) (d' := 0) (by decide) (Nat.le_of_ble_eq_true rfl) ?_
    refine ct_draw2 (x := x1) (n := 2) (y := x2) (v := lw) e2 f2 (hU_s _ _ _ _) (by omega) (by omega) (by omega) ?_
    refine eR_istn_n2 dX8_sellByDraws_17 rfl (by decide) rfl ?_
    refine eR_aldn_0 dX8_sellByDraws_18 rfl ?_
    refine eR_aldn_0 dX8_sellByDraws_19 rfl ?_
    refine eR_getR (i := t) dX8_sellByDraws_20 gf_X8_57 th_0 rfl ?_
    refine eR_getI dX8_sellByDraws_23 gf_X8_96 T.1 rfl ?_
    refine eX_pcI (congrFun (hU_a _ _ _ (by omega)) _) ?_
    refine eX_pcI (congrFun (hU_a _ _ _ (by omega)) _) ?_
    refine eX_pcI (V.1) ?_
    refine eR_callVi [_] rfl dX8_sellByDraws_26 ok_mX8_draw kw_818 rfl rfl th_0 rfl (Nat.le_of_ble_eq_true rfl) (d' := 0) (by decide) (Nat.le_of_ble_eq_true rfl) ?_
    refine ct_draw2 (x := x2) (n := sP S) (y := x3) (v := pw) e3 f7 (hU_s _ _ _ _) (by omega) (by omega) (by omega) ?_
    refine eR_istn_n3 dX8_sellByDraws_29 rfl (by decide) rfl ?_
    refine eR_aldn_0 dX8_sellByDraws_30 rfl ?_
    refine eR_getR (i := t) dX8_sellByDraws_31 gf_X8_57 th_0 rfl ?_
    refine eR_ildn_1 dX8_sellByDraws_34 rfl ?_
    refine eR_ildn_2 dX8_sellByDraws_35 rfl ?_
    refine eR_ildn_3 dX8_sellByDraws_36 rfl ?_
    refine eR_callVi [_, _, _] rfl dX8_sellByDraws_37 ok_mX6_maySell kw_659 rfl rfl T.1 rfl (Nat.le_of_ble_eq_true rfl) (d' := 1) (by decide) (Nat.le_of_ble_eq_true rfl) ?_
    refine tn_maySell (c := cw) (p := pw) T B (cV_w B (cV_w B (cV_w B V (by omega)) (by omega)) (by omega)) (by omega) (by omega) ?_
    refine eR_if_eq (tgt := 55) dX8_sellByDraws_40 (by decide) (by first | exact rg_b01 _ | (unfold rg; omega)) (fun c40 => ?_) (fun c40 => absurd c40 (by first | (simp [b01, hok]; done) | (rw [b01_f hok]; decide)))
    refine eR_vret dX8_sellByDraws_55 rfl ?_
    refine k _ (f3) (hU_s _ _ _ _) ?_
    rw [if_neg hok]
    exact V3
theorem cl_winter (T : isTn (tau t s) t) (h38 : 38 ≤ t) {N : Nat} (hN : N ≤ 99) : ∀ (m i : Nat) (S : TS) (x : Nat) (sum : Int) (h : PH), i + m = N → sB S → cV h t S → h 0 9 = (x : Int) → x < 2147483648 → 0 < sC S → (-100000 * (i : Int) ≤ sum ∧ sum ≤ 100000 * (i : Int)) → (∀ h2 : PH, wnF t h h2 → cV h2 t (wnW (S, x, sum) m).1 → h2 0 9 = ((wnW (S, x, sum) m).2.1 : Int) → Q (.int (zI (wnW (S, x, sum) m).2.2)) (tau t s) h2) → eX g 5 mX8_winter 31 [(0, .ref (gA g 0)), (1, .int (zI ↑N)), (2, .int (zI sum)), (3, .int (zI ↑i))] [] (tau t s) h Q := by
  intro m
  induction m with
  | zero =>
    intro i S x sum h hi B V hx hx1 hC0 hs9 k
    refine eR_ildn_3 dX8_winter_31 rfl ?_
    refine eR_ildn_1 dX8_winter_32 rfl ?_
    refine eR_icmp_ge (tgt := 73) dX8_winter_33 (by decide) (by first | exact rg_b01 _ | (unfold rg; omega)) (by first | exact rg_b01 _ | (unfold rg; omega)) (fun c33 => ?_) (fun c33 => absurd c33 (by omega))
    refine eR_ildn_2 dX8_winter_73 rfl ?_
    refine eR_iret dX8_winter_74 rfl rfl ?_
    exact k h (wnF_rf t h) V hx
  | succ m ih =>
    intro i S x sum h hi B V hx hx1 hC0 hs9 k
    have hP8 := B.1
    have hC8 := B.2.1
    have hE10 := B.2.2.1
    have hF99 := B.2.2.2.2.2.2.1
    have ho9 := B.2.2.2.1 0 hC0
    obtain ⟨x1, e1⟩ : ∃ y, nxS x = y := ⟨_, rfl⟩
    obtain ⟨x2, e2⟩ : ∃ y, nxS x1 = y := ⟨_, rfl⟩
    obtain ⟨x3, e3⟩ : ∃ y, nxS x2 = y := ⟨_, rfl⟩
    obtain ⟨x4, e4⟩ : ∃ y, nxS x3 = y := ⟨_, rfl⟩
    obtain ⟨v0, f0⟩ : ∃ y, drN x 40 = y := ⟨_, rfl⟩
    obtain ⟨cw, f1⟩ : ∃ y, drN x1 (sC S) = y := ⟨_, rfl⟩
    obtain ⟨lw, f2⟩ : ∃ y, drN x2 2 = y := ⟨_, rfl⟩
    obtain ⟨pw, f3⟩ : ∃ y, drN x3 (sP S) = y := ⟨_, rfl⟩
    have hy1 : x1 < 2147483648 := by rw [← e1]; exact nxS_lt x
    have hy4 : x4 < 2147483648 := by rw [← e4]; exact nxS_lt x3
    have hv0 : v0 < 40 := by rw [← f0]; exact drN_lt x (by decide)
    have hlw : lw < 2 := by rw [← f2]; exact drN_lt x2 (by decide)
    have hpw : pw < sP S := by rw [← f3]; exact drN_lt x3 (by omega)
    refine eR_ildn_3 dX8_winter_31 rfl ?_
    refine eR_ildn_1 dX8_winter_32 rfl ?_
    refine eR_icmp_ge (tgt := 73) dX8_winter_33 (by decide) (by first | assumption | exact rg_b01 _ | (unfold rg; omega) | (unfold rg at *; omega)) (by first | assumption | exact rg_b01 _ | (unfold rg; omega) | (unfold rg at *; omega)) (fun c33 => absurd c33 (by omega)) (fun c33 => ?_)
    refine eR_aldn_0 dX8_winter_36 rfl ?_
    refine eR_getR (i := t) dX8_winter_37 gf_X8_57 th_0 rfl ?_
    refine eR_aldn_0 dX8_winter_40 rfl ?_
    refine eR_bi (z := 40) dX8_winter_41 rfl ?_
    refine eR_callVi [_] rfl dX8_winter_43 ok_mX8_draw kw_818 rfl rfl th_0 rfl (Nat.le_of_ble_eq_true rfl) (d' := 0) (by decide) (Nat.le_of_ble_eq_true rfl) ?_
    refine ct_draw2 (x := x) (n := 40) (y := x1) (v := v0) e1 f0 hx (by omega) (by decide) (by decide) ?_
    refine eR_putI dX8_winter_46 pf_X8_105 T.1 rfl ?_
    refine eR_ildn_2 dX8_winter_49 rfl ?_
    refine eR_aldn_0 dX8_winter_50 rfl ?_
    refine eR_getR (i := 3) dX8_winter_51 gf_X8_19 th_0 rfl ?_
    refine eR_aldn_0 dX8_winter_54 rfl ?_
    refine eR_getR (i := t) dX8_winter_55 gf_X8_57 th_0 rfl ?_
    refine eR_callVi [_] rfl dX8_winter_58 ok_mX7_chillOfDay kw_527 rfl rfl th_3 rfl (Nat.le_of_ble_eq_true rfl) (d' := 4) (by decide) (Nat.le_of_ble_eq_true rfl) ?_
    have B1 : sB (setF S v0) := sB_setF B (by omega)
    have V1 : cV (hU (hU h 0 9 ↑x1) t 4 ↑v0) t (setF S v0) := cV_setF B (cV_w B V (by omega)) v0
    refine wd_chillOfDay (S := setF S v0) T B1 V1 h38 (fun h2 O2 => ?_)
    have V2 : cV h2 t (setF S v0) := cV_R B1 V1 O2 (by omega)
    have hx2 : h2 0 9 = (x1 : Int) := by rw [O2 0 (by omega), hU_ne2 (by omega)]; exact hU_s _ _ _ _
    have w2 : wnF t h h2 := wnF_R (wnF_w (wnF_w (wnF_rf t h) (Or.inl ⟨rfl, rfl⟩)) (by omega)) O2 (by omega)
    have hdy := dyC_rg B1 24
    refine eR_iadd dX8_winter_61 ?_
    refine eR_istn_2 dX8_winter_62 rfl (by decide) rfl ?_
    refine eR_aldn_0 dX8_winter_63 rfl ?_
    refine eR_callVv [] rfl dX8_winter_64 ok_mX8_sellByDraws kw_826 rfl rfl th_0 rfl (Nat.le_of_ble_eq_true rfl) (d' := 2) (by decide) (Nat.le_of_ble_eq_true rfl) ?_
    refine ct_sellBy (S := setF S v0) (x1 := x2) (x2 := x3) (x3 := x4) (cw := cw) (lw := lw) (pw := pw) T B1 V2 h38 hC0 hx2 hy1 e2 e3 e4 f1 f2 f3 (fun h3 w3 hx3 V3 => ?_)
    refine eR_iinc_3 dX8_winter_67 (by decide) rfl ?_
    refine eR_goto (tgt := 31) dX8_winter_70 (by decide) ?_
    have e7 := day_step (S := S) (sum := sum) e1 e2 e3 e4 f0 f1 f2 f3
    have hB3 : sB (if okBuy (setF S v0) cw pw then setO (setF S v0) cw lw pw else setF S v0) := by
      by_cases hok : okBuy (setF S v0) cw pw
      · rw [if_pos hok]; exact sB_setO B1 (show pw < sP S from hpw) (by rcases (show lw = 0 ∨ lw = 1 by omega) with rfl | rfl; exact hok.2.2; exact hok.2.1) hlw
      · rw [if_neg hok]; exact B1
    have hC3 : 0 < sC (if okBuy (setF S v0) cw pw then setO (setF S v0) cw lw pw else setF S v0) := by
      split <;> exact hC0
    rw [wnW_s, e7] at k
    exact ih (i + 1) _ x4 (sum + dyC (setF S v0) 24) h3 (by omega) hB3 V3 hx3 hy4 hC3 (by omega) (fun h4 w4 v4 => k h4 (wnF_tr (wnF_tr w2 w3) w4) v4)
theorem ct_winter (T : isTn (tau t s) t) (B : sB S) (V : cV h t S) (h38 : 38 ≤ t) {x : Nat} (hx : h 0 9 = (x : Int)) (hx1 : x < 2147483648) {N : Int} (hr_N : rg N) (k0 : ¬ (1 ≤ N ∧ N ≤ 99) → Q (.int (zI (-1000000002))) (tau t s) h) (k1 : (1 ≤ N ∧ N ≤ 99) → sC S = 0 → Q (.int (zI (-1000000003))) (tau t s) h) (k2 : (1 ≤ N ∧ N ≤ 99) → 0 < sC S → ∀ h2 : PH, wnF t h h2 → cV h2 t (wnW (S, x, 0) N.toNat).1 → h2 0 9 = ((wnW (S, x, 0) N.toNat).2.1 : Int) → Q (.int (zI (wnW (S, x, 0) N.toNat).2.2)) (tau t s) h2) : eX g 5 mX8_winter 0 (lv_args 0 [.ref (gA g 0), .int (zI N)]) [] (tau t s) h Q := by
  show eX g 5 mX8_winter 0 [(0, .ref (gA g 0)), (1, .int (zI N))] [] (tau t s) h Q
  have hP8 := B.1
  have hC8 := B.2.1
  have hE10 := B.2.2.1
  have hF99 := B.2.2.2.2.2.2.1
  by_cases hq : 1 ≤ N ∧ N ≤ 99
  · obtain ⟨m, rfl⟩ : ∃ m : Nat, N = (m : Int) := ⟨N.toNat, by omega⟩
    refine eR_ildn_1 dX8_winter_0 rfl ?_
    refine eR_ic dX8_winter_1 ?_
    refine eR_icmp_lt (tgt := 11) dX8_winter_2 (by decide) (by first | assumption | exact rg_b01 _ | (unfold rg; omega) | (unfold rg at *; omega)) (by first | assumption | exact rg_b01 _ | (unfold rg; omega) | (unfold rg at *; omega)) (fun c2 => ?_) (fun c2 => ?_)
    · refine eR_ldc (z := -1000000002) dX8_winter_11 kw_349 (by decide) ?_
      refine eR_iret dX8_winter_13 rfl rfl ?_
      exact absurd hq (by omega)
    · refine eR_ildn_1 dX8_winter_5 rfl ?_
      refine eR_bi (z := 99) dX8_winter_6 rfl ?_
      refine eR_icmp_le (tgt := 14) dX8_winter_8 (by decide) (by first | assumption | exact rg_b01 _ | (unfold rg; omega) | (unfold rg at *; omega)) (by first | assumption | exact rg_b01 _ | (unfold rg; omega) | (unfold rg at *; omega)) (fun c8 => ?_) (fun c8 => ?_)
      · refine eR_aldn_0 dX8_winter_14 rfl ?_
        refine eR_getR (i := t) dX8_winter_15 gf_X8_57 th_0 rfl ?_
        refine eR_getI dX8_winter_18 gf_X8_93 T.1 rfl ?_
        refine eX_pcI (V.2.1) ?_
        refine eR_if_ne (tgt := 27) dX8_winter_21 (by decide) (by first | assumption | exact rg_b01 _ | (unfold rg; omega) | (unfold rg at *; omega)) (fun c21 => ?_) (fun c21 => ?_)
        · refine eR_ic dX8_winter_27 ?_
          refine eR_istn_n2 dX8_winter_28 rfl (by decide) rfl ?_
          refine eR_ic dX8_winter_29 ?_
          refine eR_istn_n3 dX8_winter_30 rfl (by decide) rfl ?_
          exact cl_winter T h38 (by omega) m 0 S x 0 h (by omega) B V hx hx1 (by omega) (by omega) (fun h2 w2 v2 q2 => k2 hq (by omega) h2 w2 v2 q2)
        · refine eR_ldc (z := -1000000003) dX8_winter_24 kw_663 (by decide) ?_
          refine eR_iret dX8_winter_26 rfl rfl ?_
          exact k1 hq (by omega)
      · refine eR_ldc (z := -1000000002) dX8_winter_11 kw_349 (by decide) ?_
        refine eR_iret dX8_winter_13 rfl rfl ?_
        exact absurd hq (by omega)
  · refine eR_ildn_1 dX8_winter_0 rfl ?_
    refine eR_ic dX8_winter_1 ?_
    refine eR_icmp_lt (tgt := 11) dX8_winter_2 (by decide) (by first | assumption | exact rg_b01 _ | (unfold rg; omega) | (unfold rg at *; omega)) (by first | assumption | exact rg_b01 _ | (unfold rg; omega) | (unfold rg at *; omega)) (fun c2 => ?_) (fun c2 => ?_)
    · refine eR_ldc (z := -1000000002) dX8_winter_11 kw_349 (by decide) ?_
      refine eR_iret dX8_winter_13 rfl rfl ?_
      exact k0 hq
    · refine eR_ildn_1 dX8_winter_5 rfl ?_
      refine eR_bi (z := 99) dX8_winter_6 rfl ?_
      refine eR_icmp_le (tgt := 14) dX8_winter_8 (by decide) (by first | assumption | exact rg_b01 _ | (unfold rg; omega) | (unfold rg at *; omega)) (by first | assumption | exact rg_b01 _ | (unfold rg; omega) | (unfold rg at *; omega)) (fun c8 => ?_) (fun c8 => ?_)
      · exact absurd ⟨by omega, by omega⟩ hq
      · refine eR_ldc (z := -1000000002) dX8_winter_11 kw_349 (by decide) ?_
        refine eR_iret dX8_winter_13 rfl rfl ?_
        exact k0 hq
theorem ct_feed {n : Nat} {TX : Nat → Nat} (B0 : tB TX n) (C0 : cT h TX n) {x : Int64} {N : Int} (hr_N : rg N) (k0 : ¬ (1 ≤ N ∧ N ≤ 8) → Q (.int (zI (-1000000002))) (tau t s) h) (k1 : (1 ≤ N ∧ N ≤ 8) → 400 < (n : Int) + N → Q (.int (zI (-1000000004))) (tau t s) h) (k2 : ∀ c : Nat, N = (c : Int) → 1 ≤ c → c ≤ 8 → n + c ≤ 400 → ∀ h1 : PH, apF h h1 → cT h1 (fdT TX n x c) (n + c) → Q (.int (zI ↑(n + c))) (tau t s) h1) : eX g 1 mX8_feed 0 (lv_args 0 [.ref (gA g 0), .int (zI N), .long x]) [] (tau t s) h Q := by
  show eX g 1 mX8_feed 0 [(0, .ref (gA g 0)), (1, .int (zI N)), (2, .long x)] [] (tau t s) h Q
  have hn9 := B0.1
  by_cases hq : 1 ≤ N ∧ N ≤ 8
  · obtain ⟨c, rfl⟩ : ∃ c : Nat, N = (c : Int) := ⟨N.toNat, by omega⟩
    refine eR_ildn_1 dX8_feed_0 rfl ?_
    refine eR_ic dX8_feed_1 ?_
    refine eR_icmp_lt (tgt := 11) dX8_feed_2 (by decide) (by first | assumption | exact rg_b01 _ | (unfold rg; omega) | (unfold rg at *; omega)) (by first | assumption | exact rg_b01 _ | (unfold rg; omega) | (unfold rg at *; omega)) (fun c2 => ?_) (fun c2 => ?_)
    · refine eR_ldc (z := -1000000002) dX8_feed_11 kw_349 (by decide) ?_
      refine eR_iret dX8_feed_13 rfl rfl ?_
      exact absurd hq (by omega)
    · refine eR_ildn_1 dX8_feed_5 rfl ?_
      refine eR_bi (z := 8) dX8_feed_6 rfl ?_
      refine eR_icmp_le (tgt := 14) dX8_feed_8 (by decide) (by first | assumption | exact rg_b01 _ | (unfold rg; omega) | (unfold rg at *; omega)) (by first | assumption | exact rg_b01 _ | (unfold rg; omega) | (unfold rg at *; omega)) (fun c8 => ?_) (fun c8 => ?_)
      · refine eR_aldn_0 dX8_feed_14 rfl ?_
        refine eR_getR (i := 1) dX8_feed_15 gf_X8_10 th_0 rfl ?_
        refine eR_ildn_1 dX8_feed_18 rfl ?_
        refine eR_lldn_2 dX8_feed_19 rfl ?_
        refine eR_callVi [_, _] rfl dX8_feed_20 ok_mX4_append kw_350 rfl rfl th_1 rfl (Nat.le_of_ble_eq_true rfl) (d' := 0) (by decide) (Nat.le_of_ble_eq_true rfl) ?_
        refine kt_append (n := n) (T := TX) (x := x) (c := c) B0 C0 (by omega) (by omega) (fun q9 => ?_) (fun q9 h1 F1 T1 => ?_)
        · refine eR_iret dX8_feed_23 rfl rfl ?_
          exact k1 hq (by omega)
        · refine eR_iret dX8_feed_23 rfl rfl ?_
          exact k2 c rfl (by omega) (by omega) q9 h1 F1 T1
      · refine eR_ldc (z := -1000000002) dX8_feed_11 kw_349 (by decide) ?_
        refine eR_iret dX8_feed_13 rfl rfl ?_
        exact absurd hq (by omega)
  · refine eR_ildn_1 dX8_feed_0 rfl ?_
    refine eR_ic dX8_feed_1 ?_
    refine eR_icmp_lt (tgt := 11) dX8_feed_2 (by decide) (by first | assumption | exact rg_b01 _ | (unfold rg; omega) | (unfold rg at *; omega)) (by first | assumption | exact rg_b01 _ | (unfold rg; omega) | (unfold rg at *; omega)) (fun c2 => ?_) (fun c2 => ?_)
    · refine eR_ldc (z := -1000000002) dX8_feed_11 kw_349 (by decide) ?_
      refine eR_iret dX8_feed_13 rfl rfl ?_
      exact k0 hq
    · refine eR_ildn_1 dX8_feed_5 rfl ?_
      refine eR_bi (z := 8) dX8_feed_6 rfl ?_
      refine eR_icmp_le (tgt := 14) dX8_feed_8 (by decide) (by first | assumption | exact rg_b01 _ | (unfold rg; omega) | (unfold rg at *; omega)) (by first | assumption | exact rg_b01 _ | (unfold rg; omega) | (unfold rg at *; omega)) (fun c8 => ?_) (fun c8 => ?_)
      · exact absurd ⟨by omega, by omega⟩ hq
      · refine eR_ldc (z := -1000000002) dX8_feed_11 kw_349 (by decide) ?_
        refine eR_iret dX8_feed_13 rfl rfl ?_
        exact k0 hq
end M61
