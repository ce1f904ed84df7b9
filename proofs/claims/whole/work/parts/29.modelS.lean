theorem mV_hi {h : PH} {S : TS} {i : Nat} {z : Int} (V : mV h S) (h8 : sC S ≤ 8) (hi : 18 ≤ i) : mV (hU h 206 i z) S := by
  obtain ⟨v1, v2, v3, v4, v5, v6, v7, v8⟩ := V
  refine ⟨v1, v2, v3, fun x hx => ?_, v5, ?_, ?_, v8⟩
  · have w1 := v4 x hx
    refine ⟨?_, ?_, w1.2.2⟩
    · rw [hU_i _ _ _ (by omega)]; exact w1.1
    · rw [hU_i _ _ _ (by omega)]; exact w1.2.1
  · rw [hU_i _ _ _ (by omega)]; exact v6
  · rw [hU_i _ _ _ (by omega)]; exact v7
/-- a day of a WINTER: the town, THE SEED, CHILL so far -/
def dayW (u : TS × Nat × Int) : TS × Nat × Int :=
  (if okBuy (setF u.1 (drN u.2.1 40)) (drN (nxS u.2.1) (sC u.1)) (drN (nxS (nxS (nxS u.2.1))) (sP u.1)) then setO (setF u.1 (drN u.2.1 40)) (drN (nxS u.2.1) (sC u.1)) (drN (nxS (nxS u.2.1)) 2) (drN (nxS (nxS (nxS u.2.1))) (sP u.1)) else setF u.1 (drN u.2.1 40),
   nxS (nxS (nxS (nxS u.2.1))), u.2.2 + dyC (setF u.1 (drN u.2.1 40)) 24)
def wnW (u : TS × Nat × Int) : Nat → TS × Nat × Int
  | 0 => u
  | k + 1 => wnW (dayW u) k
/-- what may change in a WINTER: owners, FROST, THE SEED, what is weighed -/
def frV (h h' : PH) : Prop := of2 206 219 h h' ∧ ∀ i, 19 ≤ i → h' 206 i = h 206 i
theorem frV_rf (h : PH) : frV h h := ⟨of2_rf _ _ _, fun _ _ => rfl⟩
theorem frV_tr {h h' h2 : PH} (a : frV h h') (b : frV h' h2) : frV h h2 := ⟨fun x hx hy => (b.1 x hx hy).trans (a.1 x hx hy), fun i hi => (b.2 i hi).trans (a.2 i hi)⟩
theorem frV_w {h h' : PH} {i : Nat} {z : Int} (a : frV h h') (hi : i < 19) : frV h (hU h' 206 i z) := ⟨of2_w1 a.1, fun x hx => by rw [hU_i _ _ _ (by omega)]; exact a.2 x hx⟩
theorem frV_o {h h' h2 : PH} (a : frV h h') (b : ofO 219 h' h2) : frV h h2 := ⟨fun x hx hy => (b x hy).trans (a.1 x hx hy), fun i hi => by rw [b 206 (by decide)]; exact a.2 i hi⟩
section M29
variable {g : EG} {d t s : Nat} {Q : EQ}
theorem drN_lt (x : Nat) {n : Nat} (hn : 0 < n) : drN x n < n := Nat.mod_lt _ hn
theorem day_step {S : TS} {x x1 x2 x3 x4 v0 cw lw pw : Nat} {sum : Int} (e1 : nxS x = x1) (e2 : nxS x1 = x2) (e3 : nxS x2 = x3) (e4 : nxS x3 = x4) (f0 : drN x 40 = v0) (f1 : drN x1 (sC S) = cw) (f2 : drN x2 2 = lw) (f3 : drN x3 (sP S) = pw) : dayW (S, x, sum) = (if okBuy (setF S v0) cw pw then setO (setF S v0) cw lw pw else setF S v0, x4, sum + dyC (setF S v0) 24) := by
  subst e4; subst f3; subst e3; subst f2; subst e2; subst f1; subst e1; subst f0; rfl
theorem wnW_s (u : TS × Nat × Int) (k : Nat) : wnW u (k + 1) = wnW (dayW u) k := rfl
theorem sp_draw2 {h : PH} {x n y v : Nat} (hy : nxS x = y) (hv : drN x n = v) (hx : h 206 18 = (x : Int)) (hx1 : x < 2147483648) (hn : 0 < n) (hn1 : n < 1000) (k : Q (.int (zI ↑v)) (tau t s) (hU h 206 18 ↑y)) : eX g 0 mX9_draw 0 (lv_args 0 [.ref (gA g 205), .int (zI ↑n)]) [] (tau t s) h Q := by
  subst hy; subst hv
  exact sp_draw hx hx1 hn hn1 k
theorem hU_id (h : PH) (a i : Nat) : hU h a i (h a i) = h := by
  funext a' i'
  rw [hU_g]
  split
  · rename_i q; rw [q.1, q.2]
  · rfl
theorem lp_winter {N : Nat} (hN : N ≤ 99) : ∀ (n i : Nat) (S : TS) (x : Nat) (sum : Int) (h : PH), i + n = N → sB S → mV h S → h 206 18 = (x : Int) → x < 2147483648 → 0 < sC S →
    (∀ h2 : PH, frV h h2 → mV h2 (wnW (S, x, sum) n).1 → sB (wnW (S, x, sum) n).1 → h2 206 18 = ((wnW (S, x, sum) n).2.1 : Int) → (wnW (S, x, sum) n).2.1 < 2147483648 → Q (.int (zI (wnW (S, x, sum) n).2.2)) (tau t s) h2) → eX g 8 mX9_winter 31 [(0, .ref (gA g 205)), (1, .int (zI ↑N)), (2, .int (zI sum)), (3, .int (zI ↑i))] [] (tau t s) h Q := by
  intro n
  induction n with
  | zero =>
    intro i S x sum h hi B V hx hx1 hC0 k
    refine eR_ildn_3 dX9_winter_31 rfl ?_
    refine eR_ildn_1 dX9_winter_32 rfl ?_
    refine eR_icmp_ge (tgt := 135) dX9_winter_33 (by decide) (by first | exact rg_b01 _ | (unfold rg; omega)) (by first | exact rg_b01 _ | (unfold rg; omega)) (fun c33 => ?_) (fun c33 => absurd c33 (by omega))
    refine eR_ildn_2 dX9_winter_135 rfl ?_
    refine eR_iret dX9_winter_136 rfl rfl ?_
    exact k h (frV_rf h) V B hx hx1
  | succ n ih =>
    intro i S x sum h hi B V hx hx1 hC0 k
    have hC8 := B.2.1
    have hP8 := B.1
    have hP0 := (B.2.2.2.1 0 hC0).1
    obtain ⟨x1, e1⟩ : ∃ y, nxS x = y := ⟨_, rfl⟩
    obtain ⟨x2, e2⟩ : ∃ y, nxS x1 = y := ⟨_, rfl⟩
    obtain ⟨x3, e3⟩ : ∃ y, nxS x2 = y := ⟨_, rfl⟩
    obtain ⟨x4, e4⟩ : ∃ y, nxS x3 = y := ⟨_, rfl⟩
    obtain ⟨v0, f0⟩ : ∃ y, drN x 40 = y := ⟨_, rfl⟩
    obtain ⟨cw, f1⟩ : ∃ y, drN x1 (sC S) = y := ⟨_, rfl⟩
    obtain ⟨lw, f2⟩ : ∃ y, drN x2 2 = y := ⟨_, rfl⟩
    obtain ⟨pw, f3⟩ : ∃ y, drN x3 (sP S) = y := ⟨_, rfl⟩
    have hd0 : v0 < 40 := f0 ▸ drN_lt x (n := 40) (by decide)
    have hd1 : cw < sC S := f1 ▸ drN_lt x1 hC0
    have hd2 : lw < 2 := f2 ▸ drN_lt x2 (n := 2) (by decide)
    have hd3 : pw < sP S := f3 ▸ drN_lt x3 (n := sP S) (by omega)
    have hx5 : x1 < 2147483648 := e1 ▸ nxS_lt x
    have hx7 : x2 < 2147483648 := e2 ▸ nxS_lt x1
    have hx8 : x3 < 2147483648 := e3 ▸ nxS_lt x2
    have hx9 : x4 < 2147483648 := e4 ▸ nxS_lt x3
    have B1 : sB (setF S v0) := sB_setF B (by omega)
    refine eR_ildn_3 dX9_winter_31 rfl ?_
    refine eR_ildn_1 dX9_winter_32 rfl ?_
    refine eR_icmp_ge (tgt := 135) dX9_winter_33 (by decide) (by first | exact rg_b01 _ | (unfold rg; omega)) (by first | exact rg_b01 _ | (unfold rg; omega)) (fun c33 => absurd c33 (by omega)) (fun c33 => ?_)
    refine eR_aldn_0 dX9_winter_36 rfl ?_
    refine eR_getR (i := 206) dX9_winter_37 gf_X9_7 th_205 rfl ?_
    refine eR_bi (z := 17) dX9_winter_40 rfl ?_
    refine eR_aldn_0 dX9_winter_42 rfl ?_
    refine eR_bi (z := 40) dX9_winter_43 rfl ?_
    refine eR_callVi [_] rfl dX9_winter_45 ok_mX9_draw kw_1246 rfl rfl th_205 rfl (Nat.le_of_ble_eq_true rfl) (d' := 0) (by decide) (Nat.le_of_ble_eq_true rfl) ?_
    refine sp_draw2 (x := x) (n := 40) (y := x1) (v := v0) e1 f0 (hx) (by omega) (by omega) (by omega) ?_
    refine eR_iast (n := 17) dX9_winter_48 th_206 (rfl) (by decide) (by decide) ?_
    have V1 : mV (hU (hU h 206 18 ↑x1) 206 17 ↑v0) (setF S v0) := mV_setF (mV_hi V hC8 (by decide)) _ hC8
    refine eR_ildn_2 dX9_winter_49 rfl ?_
    refine eR_aldn_0 dX9_winter_50 rfl ?_
    refine eR_callVi [] rfl dX9_winter_51 ok_mX9_dayChill kw_1023 rfl rfl th_205 rfl (Nat.le_of_ble_eq_true rfl) (d' := 7) (by decide) (Nat.le_of_ble_eq_true rfl) ?_
    refine sp_dayChill (S := (setF S v0)) B1 V1 (fun k3 Ok3 => ?_)
    have V3 : mV k3 (setF S v0) := mV_o V1 Ok3 (by decide)
    have hx3 : k3 206 18 = (x1 : Int) := by rw [Ok3 206 (by decide), hU_i _ _ _ (by decide), hU_s]
    refine eR_iadd dX9_winter_54 ?_
    refine eR_istn_2 dX9_winter_55 rfl (by decide) rfl ?_
    refine eR_aldn_0 dX9_winter_56 rfl ?_
    refine eR_aldn_0 dX9_winter_57 rfl ?_
    refine eR_getR (i := 217) dX9_winter_58 gf_X9_44 th_205 rfl ?_
    refine eR_ic dX9_winter_61 ?_
    refine eR_iald (n := 1) dX9_winter_62 th_217 (rfl) (by decide) (by decide) ?_
    refine eX_pcI (V3.2.1) ?_
    refine eR_callVi [_] rfl dX9_winter_63 ok_mX9_draw kw_1246 rfl rfl th_205 rfl (Nat.le_of_ble_eq_true rfl) (d' := 0) (by decide) (Nat.le_of_ble_eq_true rfl) ?_
    refine sp_draw2 (x := x1) (n := sC S) (y := x2) (v := cw) e2 f1 (hx3) (by omega) (by omega) (by omega) ?_
    refine eR_ist_n4 dX9_winter_66 (by decide) rfl ?_
    refine eR_aldn_0 dX9_winter_68 rfl ?_
    refine eR_ic dX9_winter_69 ?_
    refine eR_callVi [_] rfl dX9_winter_70 ok_mX9_draw kw_1246 rfl rfl th_205 rfl (Nat.le_of_ble_eq_true rfl) (d' := 0) (by decide) (Nat.le_of_ble_eq_true rfl) ?_
    refine sp_draw2 (x := x2) (n := 2) (y := x3) (v := lw) e3 f2 (hU_s _ _ _ _) (by omega) (by omega) (by omega) ?_
    refine eR_ist_n5 dX9_winter_73 (by decide) rfl ?_
    refine eR_aldn_0 dX9_winter_75 rfl ?_
    refine eR_aldn_0 dX9_winter_76 rfl ?_
    refine eR_getR (i := 217) dX9_winter_77 gf_X9_44 th_205 rfl ?_
    refine eR_ic dX9_winter_80 ?_
    refine eR_iald (n := 0) dX9_winter_81 th_217 (rfl) (by decide) (by decide) ?_
    refine eX_pcI (congrFun (hU_a _ _ _ (by decide)) _) ?_
    refine eX_pcI (congrFun (hU_a _ _ _ (by decide)) _) ?_
    refine eX_pcI (V3.1) ?_
    refine eR_callVi [_] rfl dX9_winter_82 ok_mX9_draw kw_1246 rfl rfl th_205 rfl (Nat.le_of_ble_eq_true rfl) (d' := 0) (by decide) (Nat.le_of_ble_eq_true rfl) ?_
    refine sp_draw2 (x := x3) (n := sP S) (y := x4) (v := pw) e4 f3 (hU_s _ _ _ _) (by omega) (by omega) (by omega) ?_
    refine eR_ist_n6 dX9_winter_85 (by decide) rfl ?_
    have V4 : mV (hU (hU (hU k3 206 18 ↑x2) 206 18 ↑x3) 206 18 ↑x4) (setF S v0) := mV_hi (mV_hi (mV_hi V3 hC8 (by decide)) hC8 (by decide)) hC8 (by decide)
    have fr4 : frV h (hU (hU (hU k3 206 18 ↑x2) 206 18 ↑x3) 206 18 ↑x4) := frV_w (frV_w (frV_w (frV_o (frV_w (frV_w (frV_rf h) (by decide)) (by decide)) Ok3) (by decide)) (by decide)) (by decide)
    have hx4 : (hU (hU (hU k3 206 18 ↑x2) 206 18 ↑x3) 206 18 ↑x4) 206 18 = (x4 : Int) := hU_s _ _ _ _
    generalize (hU (hU (hU k3 206 18 ↑x2) 206 18 ↑x3) 206 18 ↑x4) = H4 at V4 fr4 hx4 ⊢
    refine eR_aldn_0 dX9_winter_87 rfl ?_
    refine eR_getR (i := 206) dX9_winter_88 gf_X9_7 th_205 rfl ?_
    refine eR_bi (z := 8) dX9_winter_91 rfl ?_
    refine eR_ild_5 dX9_winter_93 ?_
    refine eR_imul dX9_winter_95 ?_
    refine eR_ild_4 dX9_winter_96 ?_
    refine eR_iadd dX9_winter_98 ?_
    refine eX_pcI (show ((8 * ↑lw) + ↑cw : Int) = ↑(8 * lw + cw : Nat) from by omega) ?_
    refine eR_aldn_0 dX9_winter_99 rfl ?_
    refine eR_ild_4 dX9_winter_100 ?_
    refine eR_ild_6 dX9_winter_102 ?_
    refine eR_callVi [_, _] rfl dX9_winter_104 ok_mX9_canBuy kw_1130 rfl rfl th_205 rfl (Nat.le_of_ble_eq_true rfl) (d' := 2) (by decide) (Nat.le_of_ble_eq_true rfl) ?_
    refine sp_canBuy (S := (setF S v0)) (c := cw) (p := pw) B1 V4 (by show cw < sC S; omega) (by omega) ?_
    by_cases hok : okBuy (setF S v0) cw pw
    · refine eR_if_eq (tgt := 115) dX9_winter_107 (by decide) (by first | exact rg_b01 _ | (unfold rg; omega)) (fun c107 => absurd c107 (by first | simp [b01, hok] | (rw [b01_t hok]; decide))) (fun c107 => ?_)
      refine eR_ild_6 dX9_winter_110 ?_
      refine eR_goto (tgt := 128) dX9_winter_112 (by decide) ?_
      refine eR_iast (n := (8 * lw + cw : Nat)) dX9_winter_128 th_206 (rfl) (by omega) (by decide) ?_
      refine eR_iinc_3 dX9_winter_129 (by decide) rfl ?_
      refine eR_goto (tgt := 31) dX9_winter_132 (by decide) ?_
      refine eX_lv (lv2 := List.take 4 _) (fun q hq => List.mem_of_mem_take hq) ?_
      have e7 := day_step (S := S) (sum := sum) e1 e2 e3 e4 f0 f1 f2 f3
      rw [if_pos hok] at e7
      rw [wnW_s, e7] at k
      refine ih (i + 1) (setO (setF S v0) cw lw pw) x4 (sum + dyC (setF S v0) 24) _ (by omega) ?_ ?_ ?_ hx9 hC0 (fun h2 f2 v2 b2 => k h2 (frV_tr (frV_w fr4 (by omega)) f2) v2 b2)
      · exact sB_setO B1 (by show _ < sP S; omega) (by rcases (show lw = 0 ∨ lw = 1 by omega) with rfl | rfl; exact hok.2.2; exact hok.2.1) (by omega)
      · exact mV_setO V4 hC8 (by show cw < sC S; omega) (by omega)
      · rw [hU_i _ _ _ (by omega)]; exact hx4
    · refine eR_if_eq (tgt := 115) dX9_winter_107 (by decide) (by first | exact rg_b01 _ | (unfold rg; omega)) (fun c107 => ?_) (fun c107 => absurd c107 (by first | (simp [b01, hok]; done) | (rw [b01_f hok]; decide)))
      refine eR_aldn_0 dX9_winter_115 rfl ?_
      refine eR_getR (i := 206) dX9_winter_116 gf_X9_7 th_205 rfl ?_
      refine eR_bi (z := 8) dX9_winter_119 rfl ?_
      refine eR_ild_5 dX9_winter_121 ?_
      refine eR_imul dX9_winter_123 ?_
      refine eR_ild_4 dX9_winter_124 ?_
      refine eR_iadd dX9_winter_126 ?_
      refine eX_pcI (show ((8 * ↑lw) + ↑cw : Int) = ↑(8 * lw + cw : Nat) from by omega) ?_
      refine eR_iald (n := (8 * lw + cw : Nat)) dX9_winter_127 th_206 (rfl) (by omega) (by decide) ?_
      refine eR_iast (n := (8 * lw + cw : Nat)) dX9_winter_128 th_206 (rfl) (by omega) (by decide) ?_
      refine eR_iinc_3 dX9_winter_129 (by decide) rfl ?_
      refine eR_goto (tgt := 31) dX9_winter_132 (by decide) ?_
      refine eX_lv (lv2 := List.take 4 _) (fun q hq => List.mem_of_mem_take hq) ?_
      have e7 := day_step (S := S) (sum := sum) e1 e2 e3 e4 f0 f1 f2 f3
      rw [if_neg hok] at e7
      rw [wnW_s, e7] at k
      refine ih (i + 1) (setF S v0) x4 (sum + dyC (setF S v0) 24) _ (by omega) ?_ ?_ ?_ hx9 hC0 (fun h2 f2 v2 b2 => k h2 (frV_tr (by rw [hU_id]; exact fr4) f2) v2 b2)
      · exact B1
      · rw [hU_id]; exact V4
      · rw [hU_id]; exact hx4
theorem sp_winter {S : TS} {h : PH} (B : sB S) (V : mV h S) {x : Nat} (hx : h 206 18 = (x : Int)) (hx1 : x < 2147483648) {N : Int} (hr_N : rg N) (k0 : ¬ (1 ≤ N ∧ N ≤ 99) → Q (.int (zI (-1000000002))) (tau t s) h) (k1 : (1 ≤ N ∧ N ≤ 99) → sC S = 0 → Q (.int (zI (-1000000003))) (tau t s) h) (k2 : (1 ≤ N ∧ N ≤ 99) → 0 < sC S → ∀ h2 : PH, frV h h2 → mV h2 (wnW (S, x, 0) N.toNat).1 → sB (wnW (S, x, 0) N.toNat).1 → h2 206 18 = ((wnW (S, x, 0) N.toNat).2.1 : Int) → (wnW (S, x, 0) N.toNat).2.1 < 2147483648 → Q (.int (zI (wnW (S, x, 0) N.toNat).2.2)) (tau t s) h2) : eX g 8 mX9_winter 0 (lv_args 0 [.ref (gA g 205), .int (zI N)]) [] (tau t s) h Q := by
  show eX g 8 mX9_winter 0 [(0, .ref (gA g 205)), (1, .int (zI N))] [] (tau t s) h Q
  have hP8 := B.1
  have hC8 := B.2.1
  have hE10 := B.2.2.1
  have hF99 := B.2.2.2.2.2.2.1
  by_cases hq1 : 1 ≤ N ∧ N ≤ 99
  · obtain ⟨Nn, rfl⟩ : ∃ Nn : Nat, N = (Nn : Int) := ⟨N.toNat, by omega⟩
    by_cases hq2 : sC S = 0
    · refine eR_ildn_1 dX9_winter_0 rfl ?_
      refine eR_i2lz dX9_winter_1 (by first | assumption | exact rg_b01 _ | (unfold rg; omega) | (unfold rg at *; omega)) ?_
      refine eR_lc (z := 1) dX9_winter_2 rfl ?_
      refine eR_ldc2 (z := 99) dX9_winter_3 kw_1143 (by decide) ?_
      refine eR_callSi [_, _, _] rfl dX9_winter_6 ok_mX9_in kw_952 rfl rfl (Nat.le_of_ble_eq_true rfl) (d' := 0) (by decide) (Nat.le_of_ble_eq_true rfl) ?_
      refine sp_in (by first | (unfold rL; omega) | (unfold rL; unfold rg at *; omega)) (by first | (unfold rL; omega) | (unfold rL; unfold rg at *; omega)) (by first | (unfold rL; omega) | (unfold rL; unfold rg at *; omega)) ?_
      refine eR_if_ne (tgt := 15) dX9_winter_9 (by decide) (by first | assumption | exact rg_b01 _ | (unfold rg; omega) | (unfold rg at *; omega)) (fun c9 => ?_) (fun c9 => absurd c9 (by first | simp [b01, hq1] | (rw [b01_t hq1]; decide)))
      refine eR_aldn_0 dX9_winter_15 rfl ?_
      refine eR_getR (i := 217) dX9_winter_16 gf_X9_44 th_205 rfl ?_
      refine eR_ic dX9_winter_19 ?_
      refine eR_iald (n := 1) dX9_winter_20 th_217 (rfl) (by decide) (by decide) ?_
      refine eX_pcI (V.2.1) ?_
      refine eR_if_ne (tgt := 27) dX9_winter_21 (by decide) (by first | assumption | exact rg_b01 _ | (unfold rg; omega) | (unfold rg at *; omega)) (fun c21 => absurd c21 (by omega)) (fun c21 => ?_)
      refine eR_ldc (z := -1000000003) dX9_winter_24 kw_1134 (by decide) ?_
      refine eR_iret dX9_winter_26 rfl rfl ?_
      exact k1 hq1 hq2
    · refine eR_ildn_1 dX9_winter_0 rfl ?_
      refine eR_i2lz dX9_winter_1 (by first | assumption | exact rg_b01 _ | (unfold rg; omega) | (unfold rg at *; omega)) ?_
      refine eR_lc (z := 1) dX9_winter_2 rfl ?_
      refine eR_ldc2 (z := 99) dX9_winter_3 kw_1143 (by decide) ?_
      refine eR_callSi [_, _, _] rfl dX9_winter_6 ok_mX9_in kw_952 rfl rfl (Nat.le_of_ble_eq_true rfl) (d' := 0) (by decide) (Nat.le_of_ble_eq_true rfl) ?_
      refine sp_in (by first | (unfold rL; omega) | (unfold rL; unfold rg at *; omega)) (by first | (unfold rL; omega) | (unfold rL; unfold rg at *; omega)) (by first | (unfold rL; omega) | (unfold rL; unfold rg at *; omega)) ?_
      refine eR_if_ne (tgt := 15) dX9_winter_9 (by decide) (by first | assumption | exact rg_b01 _ | (unfold rg; omega) | (unfold rg at *; omega)) (fun c9 => ?_) (fun c9 => absurd c9 (by first | simp [b01, hq1] | (rw [b01_t hq1]; decide)))
      refine eR_aldn_0 dX9_winter_15 rfl ?_
      refine eR_getR (i := 217) dX9_winter_16 gf_X9_44 th_205 rfl ?_
      refine eR_ic dX9_winter_19 ?_
      refine eR_iald (n := 1) dX9_winter_20 th_217 (rfl) (by decide) (by decide) ?_
      refine eX_pcI (V.2.1) ?_
      refine eR_if_ne (tgt := 27) dX9_winter_21 (by decide) (by first | assumption | exact rg_b01 _ | (unfold rg; omega) | (unfold rg at *; omega)) (fun c21 => ?_) (fun c21 => absurd c21 (by omega))
      refine eR_ic dX9_winter_27 ?_
      refine eR_istn_n2 dX9_winter_28 rfl (by decide) rfl ?_
      refine eR_ic dX9_winter_29 ?_
      refine eR_istn_n3 dX9_winter_30 rfl (by decide) rfl ?_
      exact lp_winter (by omega) Nn 0 S x 0 h (by omega) B V hx hx1 (by omega) (by simpa using k2 hq1 (by omega))
  · refine eR_ildn_1 dX9_winter_0 rfl ?_
    refine eR_i2lz dX9_winter_1 (by first | assumption | exact rg_b01 _ | (unfold rg; omega) | (unfold rg at *; omega)) ?_
    refine eR_lc (z := 1) dX9_winter_2 rfl ?_
    refine eR_ldc2 (z := 99) dX9_winter_3 kw_1143 (by decide) ?_
    refine eR_callSi [_, _, _] rfl dX9_winter_6 ok_mX9_in kw_952 rfl rfl (Nat.le_of_ble_eq_true rfl) (d' := 0) (by decide) (Nat.le_of_ble_eq_true rfl) ?_
    refine sp_in (by first | (unfold rL; omega) | (unfold rL; unfold rg at *; omega)) (by first | (unfold rL; omega) | (unfold rL; unfold rg at *; omega)) (by first | (unfold rL; omega) | (unfold rL; unfold rg at *; omega)) ?_
    refine eR_if_ne (tgt := 15) dX9_winter_9 (by decide) (by first | assumption | exact rg_b01 _ | (unfold rg; omega) | (unfold rg at *; omega)) (fun c9 => absurd c9 (by first | (simp [b01, hq1]; done) | (rw [b01_f hq1]; decide))) (fun c9 => ?_)
    refine eR_ldc (z := -1000000002) dX9_winter_12 kw_955 (by decide) ?_
    refine eR_iret dX9_winter_14 rfl rfl ?_
    exact k0 hq1
end M29
