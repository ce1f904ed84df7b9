noncomputable def rTold (S : TS) (n a b : Nat) (what : Int) : Int := if what = 0 then (sP S : Int) else if what = 1 then (sC S : Int) else if what = 2 then (sE S : Int) else if what = 3 then (n : Int) else if what = 4 then (sF S : Int) else if what = 5 then (sK S : Int) else if what = 6 then (a : Int) else if what = 7 then (b : Int) else if what = 8 then dyC S 24 else if what = 9 then ((nmN S (sP S)).1 : Int) else -1000000002
theorem rTold_M {h : PH} {S : TS} {n a b : Nat} (hn : h 205 13 = (n : Int)) (ha : h 205 26 = (a : Int)) (hb : h 205 28 = (b : Int)) (what : Int) : rToldM h S what = rTold S n a b what := by
  unfold rToldM rTold
  rw [hn, ha, hb]
theorem cV_setK {h : PH} {u : Nat} {S : TS} (B : sB S) (V : cV h u S) (m : Nat) : cV (hU h u 5 m) u (setK S m) :=
  cV_sm B V (smT_rf S) (fun a i q1 q2 q3 q4 => hU_ne2 (by omega)) ((hU_i _ _ _ (by decide)).trans V.2.2.2.1) (hU_s _ _ _ _) (fun c k hc hk => by rw [hU_ne2 (by omega)]; exact cV_own V hc hk)
theorem cV_setF {h : PH} {u : Nat} {S : TS} (B : sB S) (V : cV h u S) (m : Nat) : cV (hU h u 4 m) u (setF S m) :=
  cV_sm B V (smT_rf S) (fun a i q1 q2 q3 q4 => hU_ne2 (by omega)) (hU_s _ _ _ _) ((hU_i _ _ _ (by decide)).trans V.2.2.2.2.1) (fun c k hc hk => by rw [hU_ne2 (by omega)]; exact cV_own V hc hk)
section M58
variable {g : EG} {d t s u : Nat} {h h1 : PH} {Q : EQ} {S : TS}
theorem ct_net (T : isTn (tau t s) t) (B : sB S) (V : cV h t S) (h38 : 38 ≤ t) {p : Int} (hr_p : rg p) {what : Int} (hr_what : rg what) (k : ∀ h1 : PH, ofR 3 38 h h1 → Q (.int (zI (rNet S p what))) (tau t s) h1) : eX g 3 mX8_net 0 (lv_args 0 [.ref (gA g 0), .int (zI p), .int (zI what)]) [] (tau t s) h Q := by
  show eX g 3 mX8_net 0 [(0, .ref (gA g 0)), (1, .int (zI p)), (2, .int (zI what))] [] (tau t s) h Q
  have hP8 := B.1
  have hC8 := B.2.1
  have hE10 := B.2.2.1
  have hF99 := B.2.2.2.2.2.2.1
  by_cases hq1 : 0 ≤ p ∧ p ≤ ↑(sP S) - 1
  · obtain ⟨pn, rfl⟩ : ∃ pn : Nat, p = (pn : Int) := ⟨p.toNat, by omega⟩
    have hn9 := netS_lt B (p := pn) (by omega)
    have hc9 := ctsN_256 B (netS S pn)
    have hk9 : kndN S (netS S pn) ≤ 2 := by unfold kndN; (repeat' split) <;> omega
    have hb9 := bcn_le (netS S pn) 24
    have hb8 := bcn_le (ctsN S (netS S pn) (sC S)) 24
    refine eR_aldn_0 dX8_net_0 rfl ?_
    refine eR_getR (i := t) dX8_net_1 gf_X8_57 th_0 rfl ?_
    refine eR_ildn_1 dX8_net_4 rfl ?_
    refine eR_callVi [_] rfl dX8_net_5 ok_mX6_hasPerson kw_622 rfl rfl T.1 rfl (Nat.le_of_ble_eq_true rfl) (d' := 0) (by decide) (Nat.le_of_ble_eq_true rfl) ?_
    refine tn_hasPerson T B V (by first | assumption | (unfold rg; omega)) ?_
    refine eR_if_ne (tgt := 14) dX8_net_8 (by decide) (by first | assumption | exact rg_b01 _ | (unfold rg; omega) | (unfold rg at *; omega)) (fun c8 => ?_) (fun c8 => absurd c8 (by first | simp [b01, hq1] | (rw [b01_t hq1]; decide)))
    refine eR_ildn_2 dX8_net_14 rfl ?_
    refine eR_if_lt (tgt := 23) dX8_net_15 (by decide) (by first | assumption | exact rg_b01 _ | (unfold rg; omega) | (unfold rg at *; omega)) (fun c15 => ?_) (fun c15 => ?_)
    · refine eR_ldc (z := -1000000002) dX8_net_23 kw_349 (by decide) ?_
      refine eR_iret dX8_net_25 rfl rfl ?_
      have k9 := k h (ofR_rf 3 38 h)
      rw [show (rNet S ↑pn what : Int) = (-1000000002) from by unfold rNet; (try simp only [Int.toNat_natCast]); (repeat' split) <;> first | omega | rfl | simp_all] at k9
      exact k9
    · refine eR_ildn_2 dX8_net_18 rfl ?_
      refine eR_ic dX8_net_19 ?_
      refine eR_icmp_le (tgt := 26) dX8_net_20 (by decide) (by first | assumption | exact rg_b01 _ | (unfold rg; omega) | (unfold rg at *; omega)) (by first | assumption | exact rg_b01 _ | (unfold rg; omega) | (unfold rg at *; omega)) (fun c20 => ?_) (fun c20 => ?_)
      · refine eR_aldn_0 dX8_net_26 rfl ?_
        refine eR_getR (i := 37) dX8_net_27 gf_X8_33 th_0 rfl ?_
        refine eR_aldn_0 dX8_net_30 rfl ?_
        refine eR_getR (i := t) dX8_net_31 gf_X8_57 th_0 rfl ?_
        refine eR_ildn_1 dX8_net_34 rfl ?_
        refine eR_callVv [_, _] rfl dX8_net_35 ok_mX2_trace kw_637 rfl rfl th_37 rfl (Nat.le_of_ble_eq_true rfl) (d' := 2) (by decide) (Nat.le_of_ble_eq_true rfl) ?_
        refine nt_trace (p := pn) T B V h38 (by omega) (fun h1_ Oh1_ ph1_ qh1_ kh1_ => ?_)
        have Fh1_ : ofR 3 38 h h1_ := ofR_tr (ofR_rf 3 38 h) (fun a q => Oh1_ a (by omega))
        have Vh1_ : cV h1_ t S := cV_R B V Fh1_ (by omega)
        refine eR_ildn_2 dX8_net_38 rfl ?_
        by_cases hsw : what < 0 ∨ 2 < what
        · refine eR_tabOut (tgt := 88) dX8_net_39 (by first | assumption | (unfold rg; omega)) hsw (by decide) ?_
          refine eR_aldn_0 dX8_net_88 rfl ?_
          refine eR_getR (i := 37) dX8_net_89 gf_X8_33 th_0 rfl ?_
          refine eR_callVi [] rfl dX8_net_92 ok_mX2_minutesAtDoor kw_651 rfl rfl th_37 rfl (Nat.le_of_ble_eq_true rfl) (d' := 1) (by decide) (Nat.le_of_ble_eq_true rfl) ?_
          refine nt_door (a := netS S pn) (b := ctsN S (netS S pn) (sC S)) (kd := kndN S (netS S pn)) ph1_ qh1_ kh1_ (by omega) (by omega) (by omega) ?_
          refine eR_iret dX8_net_95 rfl rfl ?_
          have k9 := k h1_ Fh1_
          rw [show (rNet S ↑pn what : Int) = (if kndN S (netS S pn) = 0 then (((bcn (netS S pn) 24 + 1) / 2 : Nat) : Int) else if kndN S (netS S pn) = 1 then (bcn (netS S pn) 24 : Int) else ((bcn (netS S pn) 24 + bcn (ctsN S (netS S pn) (sC S)) 24 : Nat) : Int)) from by unfold rNet; (try simp only [Int.toNat_natCast]); (repeat' split) <;> first | omega | rfl | simp_all] at k9
          exact k9
        · rcases (show what = 0 ∨ what = 1 ∨ what = 2 by omega) with rfl | rfl | rfl
          · refine eR_tabIn (off := 25) (tgt := 64) dX8_net_39 (by unfold rg; omega) (by decide) (by decide) rfl (by decide) ?_
            refine eR_aldn_0 dX8_net_64 rfl ?_
            refine eR_getR (i := 37) dX8_net_65 gf_X8_33 th_0 rfl ?_
            refine eR_getI dX8_net_68 gf_X8_155 th_37 rfl ?_
            refine eX_pcI (ph1_) ?_
            refine eR_iret dX8_net_71 rfl rfl ?_
            have k9 := k h1_ Fh1_
            rw [show (rNet S ↑pn 0 : Int) = ↑(netS S pn) from by unfold rNet; (try simp only [Int.toNat_natCast]); (repeat' split) <;> first | omega | rfl | simp_all] at k9
            exact k9
          · refine eR_tabIn (off := 33) (tgt := 72) dX8_net_39 (by unfold rg; omega) (by decide) (by decide) rfl (by decide) ?_
            refine eR_aldn_0 dX8_net_72 rfl ?_
            refine eR_getR (i := 37) dX8_net_73 gf_X8_33 th_0 rfl ?_
            refine eR_getI dX8_net_76 gf_X8_158 th_37 rfl ?_
            refine eX_pcI (qh1_) ?_
            refine eR_iret dX8_net_79 rfl rfl ?_
            have k9 := k h1_ Fh1_
            rw [show (rNet S ↑pn 1 : Int) = ↑(ctsN S (netS S pn) (sC S)) from by unfold rNet; (try simp only [Int.toNat_natCast]); (repeat' split) <;> first | omega | rfl | simp_all] at k9
            exact k9
          · refine eR_tabIn (off := 41) (tgt := 80) dX8_net_39 (by unfold rg; omega) (by decide) (by decide) rfl (by decide) ?_
            refine eR_aldn_0 dX8_net_80 rfl ?_
            refine eR_getR (i := 37) dX8_net_81 gf_X8_33 th_0 rfl ?_
            refine eR_getI dX8_net_84 gf_X8_161 th_37 rfl ?_
            refine eX_pcI (kh1_) ?_
            refine eR_iret dX8_net_87 rfl rfl ?_
            have k9 := k h1_ Fh1_
            rw [show (rNet S ↑pn 2 : Int) = ↑(kndN S (netS S pn)) from by unfold rNet; (try simp only [Int.toNat_natCast]); (repeat' split) <;> first | omega | rfl | simp_all] at k9
            exact k9
      · refine eR_ldc (z := -1000000002) dX8_net_23 kw_349 (by decide) ?_
        refine eR_iret dX8_net_25 rfl rfl ?_
        have k9 := k h (ofR_rf 3 38 h)
        rw [show (rNet S ↑pn what : Int) = (-1000000002) from by unfold rNet; (try simp only [Int.toNat_natCast]); (repeat' split) <;> first | omega | rfl | simp_all] at k9
        exact k9
  · refine eR_aldn_0 dX8_net_0 rfl ?_
    refine eR_getR (i := t) dX8_net_1 gf_X8_57 th_0 rfl ?_
    refine eR_ildn_1 dX8_net_4 rfl ?_
    refine eR_callVi [_] rfl dX8_net_5 ok_mX6_hasPerson kw_622 rfl rfl T.1 rfl (Nat.le_of_ble_eq_true rfl) (d' := 0) (by decide) (Nat.le_of_ble_eq_true rfl) ?_
    refine tn_hasPerson T B V (by first | assumption | (unfold rg; omega)) ?_
    refine eR_if_ne (tgt := 14) dX8_net_8 (by decide) (by first | assumption | exact rg_b01 _ | (unfold rg; omega) | (unfold rg at *; omega)) (fun c8 => absurd c8 (by first | (simp [b01, hq1]; done) | (rw [b01_f hq1]; decide))) (fun c8 => ?_)
    refine eR_ldc (z := -1000000001) dX8_net_11 kw_612 (by decide) ?_
    refine eR_iret dX8_net_13 rfl rfl ?_
    have k9 := k h (ofR_rf 3 38 h)
    rw [show (rNet S p what : Int) = (-1000000001) from by unfold rNet; (try simp only [Int.toNat_natCast]); (repeat' split) <;> first | omega | rfl | simp_all] at k9
    exact k9
theorem ct_told (T : isTn (tau t s) t) (B : sB S) (V : cV h t S) (h38 : 38 ≤ t) {what : Int} (hr_what : rg what) {n a b : Nat} {TX : Nat → Nat} (B0 : tB TX n) (C0 : cT h TX n) (ha : h 38 1 = (a : Int)) (hb : h 70 1 = (b : Int)) (k : ∀ h1 : PH, ofR 3 38 h h1 → Q (.int (zI (rTold S n a b what))) (tau t s) h1) : eX g 5 mX8_told 0 (lv_args 0 [.ref (gA g 0), .int (zI what)]) [] (tau t s) h Q := by
  show eX g 5 mX8_told 0 [(0, .ref (gA g 0)), (1, .int (zI what))] [] (tau t s) h Q
  have hP8 := B.1
  have hC8 := B.2.1
  have hE10 := B.2.2.1
  have hF99 := B.2.2.2.2.2.2.1
  refine eR_ildn_1 dX8_told_0 rfl ?_
  by_cases hsw : what < 0 ∨ 9 < what
  · refine eR_tabOut (tgt := 144) dX8_told_1 (by first | assumption | (unfold rg; omega)) hsw (by decide) ?_
    refine eR_ldc (z := -1000000002) dX8_told_144 kw_349 (by decide) ?_
    refine eR_iret dX8_told_146 rfl rfl ?_
    have k9 := k h (ofR_rf 3 38 h)
    rw [show (rTold S n a b what : Int) = (-1000000002) from by unfold rTold; rw [if_neg (by omega), if_neg (by omega), if_neg (by omega), if_neg (by omega), if_neg (by omega), if_neg (by omega), if_neg (by omega), if_neg (by omega), if_neg (by omega), if_neg (by omega)]] at k9
    exact k9
  · rcases (show what = 0 ∨ what = 1 ∨ what = 2 ∨ what = 3 ∨ what = 4 ∨ what = 5 ∨ what = 6 ∨ what = 7 ∨ what = 8 ∨ what = 9 by omega) with rfl | rfl | rfl | rfl | rfl | rfl | rfl | rfl | rfl | rfl
    · refine eR_tabIn (off := 55) (tgt := 56) dX8_told_1 (by unfold rg; omega) (by decide) (by decide) rfl (by decide) ?_
      refine eR_aldn_0 dX8_told_56 rfl ?_
      refine eR_getR (i := t) dX8_told_57 gf_X8_57 th_0 rfl ?_
      refine eR_getI dX8_told_60 gf_X8_96 T.1 rfl ?_
      refine eX_pcI (V.1) ?_
      refine eR_iret dX8_told_63 rfl rfl ?_
      have k9 := k h (ofR_rf 3 38 h)
      rw [show (rTold S n a b 0 : Int) = ↑(sP S) from by unfold rTold; rw [if_pos rfl]] at k9
      exact k9
    · refine eR_tabIn (off := 63) (tgt := 64) dX8_told_1 (by unfold rg; omega) (by decide) (by decide) rfl (by decide) ?_
      refine eR_aldn_0 dX8_told_64 rfl ?_
      refine eR_getR (i := t) dX8_told_65 gf_X8_57 th_0 rfl ?_
      refine eR_getI dX8_told_68 gf_X8_93 T.1 rfl ?_
      refine eX_pcI (V.2.1) ?_
      refine eR_iret dX8_told_71 rfl rfl ?_
      have k9 := k h (ofR_rf 3 38 h)
      rw [show (rTold S n a b 1 : Int) = ↑(sC S) from by unfold rTold; rw [if_neg (by decide), if_pos rfl]] at k9
      exact k9
    · refine eR_tabIn (off := 71) (tgt := 72) dX8_told_1 (by unfold rg; omega) (by decide) (by decide) rfl (by decide) ?_
      refine eR_aldn_0 dX8_told_72 rfl ?_
      refine eR_getR (i := t) dX8_told_73 gf_X8_57 th_0 rfl ?_
      refine eR_getI dX8_told_76 gf_X8_99 T.1 rfl ?_
      refine eX_pcI (V.2.2.1) ?_
      refine eR_iret dX8_told_79 rfl rfl ?_
      have k9 := k h (ofR_rf 3 38 h)
      rw [show (rTold S n a b 2 : Int) = ↑(sE S) from by unfold rTold; rw [if_neg (by decide), if_neg (by decide), if_pos rfl]] at k9
      exact k9
    · refine eR_tabIn (off := 79) (tgt := 80) dX8_told_1 (by unfold rg; omega) (by decide) (by decide) rfl (by decide) ?_
      refine eR_aldn_0 dX8_told_80 rfl ?_
      refine eR_getR (i := 1) dX8_told_81 gf_X8_10 th_0 rfl ?_
      refine eR_callVi [] rfl dX8_told_84 ok_mX4_size kw_523 rfl rfl th_1 rfl (Nat.le_of_ble_eq_true rfl) (d' := 0) (by decide) (Nat.le_of_ble_eq_true rfl) ?_
      refine kt_size (n := n) B0 C0 ?_
      refine eR_iret dX8_told_87 rfl rfl ?_
      have k9 := k h (ofR_rf 3 38 h)
      rw [show (rTold S n a b 3 : Int) = ↑n from by unfold rTold; rw [if_neg (by decide), if_neg (by decide), if_neg (by decide), if_pos rfl]] at k9
      exact k9
    · refine eR_tabIn (off := 87) (tgt := 88) dX8_told_1 (by unfold rg; omega) (by decide) (by decide) rfl (by decide) ?_
      refine eR_aldn_0 dX8_told_88 rfl ?_
      refine eR_getR (i := t) dX8_told_89 gf_X8_57 th_0 rfl ?_
      refine eR_getI dX8_told_92 gf_X8_105 T.1 rfl ?_
      refine eX_pcI (V.2.2.2.1) ?_
      refine eR_iret dX8_told_95 rfl rfl ?_
      have k9 := k h (ofR_rf 3 38 h)
      rw [show (rTold S n a b 4 : Int) = ↑(sF S) from by unfold rTold; rw [if_neg (by decide), if_neg (by decide), if_neg (by decide), if_neg (by decide), if_pos rfl]] at k9
      exact k9
    · refine eR_tabIn (off := 95) (tgt := 96) dX8_told_1 (by unfold rg; omega) (by decide) (by decide) rfl (by decide) ?_
      refine eR_aldn_0 dX8_told_96 rfl ?_
      refine eR_getR (i := t) dX8_told_97 gf_X8_57 th_0 rfl ?_
      refine eR_getI dX8_told_100 gf_X8_108 T.1 rfl ?_
      refine eX_pcI (V.2.2.2.2.1) ?_
      refine eR_iret dX8_told_103 rfl rfl ?_
      have k9 := k h (ofR_rf 3 38 h)
      rw [show (rTold S n a b 5 : Int) = ↑(sK S) from by unfold rTold; rw [if_neg (by decide), if_neg (by decide), if_neg (by decide), if_neg (by decide), if_neg (by decide), if_pos rfl]] at k9
      exact k9
    · refine eR_tabIn (off := 103) (tgt := 104) dX8_told_1 (by unfold rg; omega) (by decide) (by decide) rfl (by decide) ?_
      refine eR_aldn_0 dX8_told_104 rfl ?_
      refine eR_getR (i := 38) dX8_told_105 gf_X8_40 th_0 rfl ?_
      refine eR_getI dX8_told_108 gf_X8_111 th_38 rfl ?_
      refine eX_pcI (ha) ?_
      refine eR_iret dX8_told_111 rfl rfl ?_
      have k9 := k h (ofR_rf 3 38 h)
      rw [show (rTold S n a b 6 : Int) = ↑a from by unfold rTold; rw [if_neg (by decide), if_neg (by decide), if_neg (by decide), if_neg (by decide), if_neg (by decide), if_neg (by decide), if_pos rfl]] at k9
      exact k9
    · refine eR_tabIn (off := 111) (tgt := 112) dX8_told_1 (by unfold rg; omega) (by decide) (by decide) rfl (by decide) ?_
      refine eR_aldn_0 dX8_told_112 rfl ?_
      refine eR_getR (i := 70) dX8_told_113 gf_X8_44 th_0 rfl ?_
      refine eR_getI dX8_told_116 gf_X8_111 th_70 rfl ?_
      refine eX_pcI (hb) ?_
      refine eR_iret dX8_told_119 rfl rfl ?_
      have k9 := k h (ofR_rf 3 38 h)
      rw [show (rTold S n a b 7 : Int) = ↑b from by unfold rTold; rw [if_neg (by decide), if_neg (by decide), if_neg (by decide), if_neg (by decide), if_neg (by decide), if_neg (by decide), if_neg (by decide), if_pos rfl]] at k9
      exact k9
    · refine eR_tabIn (off := 119) (tgt := 120) dX8_told_1 (by unfold rg; omega) (by decide) (by decide) rfl (by decide) ?_
      refine eR_aldn_0 dX8_told_120 rfl ?_
      refine eR_getR (i := 3) dX8_told_121 gf_X8_19 th_0 rfl ?_
      refine eR_aldn_0 dX8_told_124 rfl ?_
      refine eR_getR (i := t) dX8_told_125 gf_X8_57 th_0 rfl ?_
      refine eR_callVi [_] rfl dX8_told_128 ok_mX7_chillOfDay kw_527 rfl rfl th_3 rfl (Nat.le_of_ble_eq_true rfl) (d' := 4) (by decide) (Nat.le_of_ble_eq_true rfl) ?_
      refine wd_chillOfDay T B V h38 (fun h2_ Oh2_ => ?_)
      have Fh2_ : ofR 3 38 h h2_ := ofR_tr (ofR_rf 3 38 h) (ofR_mono Oh2_ (by omega))
      have Vh2_ : cV h2_ t S := cV_R B V Fh2_ (by omega)
      refine eR_iret dX8_told_131 rfl rfl ?_
      have k9 := k h2_ Fh2_
      rw [show (rTold S n a b 8 : Int) = dyC S 24 from by unfold rTold; rw [if_neg (by decide), if_neg (by decide), if_neg (by decide), if_neg (by decide), if_neg (by decide), if_neg (by decide), if_neg (by decide), if_neg (by decide), if_pos rfl]] at k9
      exact k9
    · refine eR_tabIn (off := 131) (tgt := 132) dX8_told_1 (by unfold rg; omega) (by decide) (by decide) rfl (by decide) ?_
      refine eR_aldn_0 dX8_told_132 rfl ?_
      refine eR_getR (i := 37) dX8_told_133 gf_X8_33 th_0 rfl ?_
      refine eR_aldn_0 dX8_told_136 rfl ?_
      refine eR_getR (i := t) dX8_told_137 gf_X8_57 th_0 rfl ?_
      refine eR_callVi [_] rfl dX8_told_140 ok_mX2_countAll kw_591 rfl rfl th_37 rfl (Nat.le_of_ble_eq_true rfl) (d' := 2) (by decide) (Nat.le_of_ble_eq_true rfl) ?_
      refine nt_countAll T B V h38 (fun h3_ Oh3_ => ?_)
      have Fh3_ : ofR 3 38 h h3_ := ofR_tr (ofR_rf 3 38 h) (fun a q => Oh3_ a (by omega))
      have Vh3_ : cV h3_ t S := cV_R B V Fh3_ (by omega)
      refine eR_iret dX8_told_143 rfl rfl ?_
      have k9 := k h3_ Fh3_
      rw [show (rTold S n a b 9 : Int) = ↑(nmN S (sP S)).1 from by unfold rTold; rw [if_neg (by decide), if_neg (by decide), if_neg (by decide), if_neg (by decide), if_neg (by decide), if_neg (by decide), if_neg (by decide), if_neg (by decide), if_neg (by decide), if_pos rfl]] at k9
      exact k9
theorem ct_chill (T : isTn (tau t s) t) (B : sB S) (V : cV h t S) (h38 : 38 ≤ t) {p : Int} (hr_p : rg p) {hour : Int} (hr_hour : rg hour) (k : ∀ h1 : PH, ofR 3 38 h h1 → Q (.int (zI (rChill S p hour))) (tau t s) h1) : eX g 5 mX8_chill 0 (lv_args 0 [.ref (gA g 0), .int (zI p), .int (zI hour)]) [] (tau t s) h Q := by
  show eX g 5 mX8_chill 0 [(0, .ref (gA g 0)), (1, .int (zI p)), (2, .int (zI hour))] [] (tau t s) h Q
  have hP8 := B.1
  have hC8 := B.2.1
  have hE10 := B.2.2.1
  have hF99 := B.2.2.2.2.2.2.1
  by_cases hq1 : 0 ≤ p ∧ p ≤ ↑(sP S) - 1
  · obtain ⟨pn, rfl⟩ : ∃ pn : Nat, p = (pn : Int) := ⟨p.toNat, by omega⟩
    by_cases hq2 : 0 ≤ hour ∧ hour ≤ 23
    · obtain ⟨hn, rfl⟩ : ∃ hn : Nat, hour = (hn : Int) := ⟨hour.toNat, by omega⟩
      have hi9 := whereIs_rg B pn hn
      refine eR_aldn_0 dX8_chill_0 rfl ?_
      refine eR_getR (i := t) dX8_chill_1 gf_X8_57 th_0 rfl ?_
      refine eR_ildn_1 dX8_chill_4 rfl ?_
      refine eR_callVi [_] rfl dX8_chill_5 ok_mX6_hasPerson kw_622 rfl rfl T.1 rfl (Nat.le_of_ble_eq_true rfl) (d' := 0) (by decide) (Nat.le_of_ble_eq_true rfl) ?_
      refine tn_hasPerson T B V (by first | assumption | (unfold rg; omega)) ?_
      refine eR_if_ne (tgt := 14) dX8_chill_8 (by decide) (by first | assumption | exact rg_b01 _ | (unfold rg; omega) | (unfold rg at *; omega)) (fun c8 => ?_) (fun c8 => absurd c8 (by first | simp [b01, hq1] | (rw [b01_t hq1]; decide)))
      refine eR_ildn_2 dX8_chill_14 rfl ?_
      refine eR_callSi [_] rfl dX8_chill_15 ok_mX8_isHour kw_626 rfl rfl (Nat.le_of_ble_eq_true rfl) (d' := 0) (by decide) (Nat.le_of_ble_eq_true rfl) ?_
      refine ct_isHour (by first | assumption | exact rg_b01 _ | (unfold rg; omega) | (unfold rg at *; omega)) ?_
      refine eR_if_ne (tgt := 24) dX8_chill_18 (by decide) (by first | assumption | exact rg_b01 _ | (unfold rg; omega) | (unfold rg at *; omega)) (fun c18 => ?_) (fun c18 => absurd c18 (by first | simp [b01, hq2] | (rw [b01_t hq2]; decide)))
      refine eR_aldn_0 dX8_chill_24 rfl ?_
      refine eR_getR (i := t) dX8_chill_25 gf_X8_57 th_0 rfl ?_
      refine eR_getR (i := t + 22) dX8_chill_28 gf_X8_145 T.1 rfl ?_
      refine eR_ildn_1 dX8_chill_31 rfl ?_
      refine eR_aald3 (n := pn) (i := t + 23 + pn) dX8_chill_32 T.2.2.2.2.2.2.1 (rfl) (by omega) (by decide) (rowsK_at (by omega)) ?_
      refine eR_ildn_2 dX8_chill_33 rfl ?_
      refine eR_iald (n := hn) dX8_chill_34 (T.2.2.2.2.2.2.2.1 pn (by omega)) (rfl) (by omega) (by decide) ?_
      refine eX_pcI (V.2.2.2.2.2.2.2.1 pn hn (by omega) (by omega)) ?_
      refine eR_ic dX8_chill_35 ?_
      refine eR_icmp_ne (tgt := 41) dX8_chill_36 (by decide) (by first | assumption | exact rg_b01 _ | (unfold rg; omega) | (unfold rg at *; omega)) (by first | assumption | exact rg_b01 _ | (unfold rg; omega) | (unfold rg at *; omega)) (fun c36 => ?_) (fun c36 => ?_)
      · refine eR_aldn_0 dX8_chill_41 rfl ?_
        refine eR_getR (i := 3) dX8_chill_42 gf_X8_19 th_0 rfl ?_
        refine eR_aldn_0 dX8_chill_45 rfl ?_
        refine eR_getR (i := t) dX8_chill_46 gf_X8_57 th_0 rfl ?_
        refine eR_ildn_2 dX8_chill_49 rfl ?_
        refine eR_callVv [_, _] rfl dX8_chill_50 ok_mX7_choose kw_677 rfl rfl th_3 rfl (Nat.le_of_ble_eq_true rfl) (d' := 4) (by decide) (Nat.le_of_ble_eq_true rfl) ?_
        refine wd_choose (hour := hn) T B V (by omega) h38 (fun h4_ Oh4_ Wh4_ ch4_ => ?_)
        have Fh4_ : ofR 3 38 h h4_ := ofR_tr (ofR_rf 3 38 h) (ofR_mono Oh4_ (by omega))
        have Vh4_ : cV h4_ t S := cV_R B V Fh4_ (by omega)
        refine eR_ic dX8_chill_53 ?_
        refine eR_aldn_0 dX8_chill_54 rfl ?_
        refine eR_getR (i := t) dX8_chill_55 gf_X8_57 th_0 rfl ?_
        refine eR_getI dX8_chill_58 gf_X8_105 T.1 rfl ?_
        refine eX_pcI (Vh4_.2.2.2.1) ?_
        refine eR_aldn_0 dX8_chill_61 rfl ?_
        refine eR_getR (i := 3) dX8_chill_62 gf_X8_19 th_0 rfl ?_
        refine eR_aldn_0 dX8_chill_65 rfl ?_
        refine eR_getR (i := t) dX8_chill_66 gf_X8_57 th_0 rfl ?_
        refine eR_ildn_1 dX8_chill_69 rfl ?_
        refine eR_callVi [_, _] rfl dX8_chill_70 ok_mX7_warmthOn kw_685 rfl rfl th_3 rfl (Nat.le_of_ble_eq_true rfl) (d' := 2) (by decide) (Nat.le_of_ble_eq_true rfl) ?_
        refine wd_warmthOn (hour := hn) (p := pn) T B Vh4_ (by omega) Wh4_ ch4_ (fun w9 hw9 hw8 => ?_)
        refine eR_isub dX8_chill_73 ?_
        refine eR_mmax dX8_chill_74 kw_689 (by first | assumption | exact rg_b01 _ | (unfold rg; omega) | (unfold rg at *; omega)) (by first | assumption | exact rg_b01 _ | (unfold rg; omega) | (unfold rg at *; omega)) (by decide) (Nat.le_of_ble_eq_true rfl) ?_
        refine eX_pcI (show (max 0 (↑(sF S) - ↑w9) : Int) = chV S hn pn (sC S) from hw8) ?_
        refine eR_iret dX8_chill_77 rfl rfl ?_
        have k9 := k h4_ Fh4_
        rw [show (rChill S ↑pn ↑hn : Int) = chV S hn pn (sC S) from by unfold rChill; (try simp only [Int.toNat_natCast]); (repeat' split) <;> first | omega | rfl | simp_all] at k9
        exact k9
      · refine eR_ic dX8_chill_39 ?_
        refine eR_iret dX8_chill_40 rfl rfl ?_
        have k9 := k h (ofR_rf 3 38 h)
        rw [show (rChill S ↑pn ↑hn : Int) = 0 from by unfold rChill; (try simp only [Int.toNat_natCast]); (repeat' split) <;> first | omega | rfl | simp_all] at k9
        exact k9
    · refine eR_aldn_0 dX8_chill_0 rfl ?_
      refine eR_getR (i := t) dX8_chill_1 gf_X8_57 th_0 rfl ?_
      refine eR_ildn_1 dX8_chill_4 rfl ?_
      refine eR_callVi [_] rfl dX8_chill_5 ok_mX6_hasPerson kw_622 rfl rfl T.1 rfl (Nat.le_of_ble_eq_true rfl) (d' := 0) (by decide) (Nat.le_of_ble_eq_true rfl) ?_
      refine tn_hasPerson T B V (by first | assumption | (unfold rg; omega)) ?_
      refine eR_if_ne (tgt := 14) dX8_chill_8 (by decide) (by first | assumption | exact rg_b01 _ | (unfold rg; omega) | (unfold rg at *; omega)) (fun c8 => ?_) (fun c8 => absurd c8 (by first | simp [b01, hq1] | (rw [b01_t hq1]; decide)))
      refine eR_ildn_2 dX8_chill_14 rfl ?_
      refine eR_callSi [_] rfl dX8_chill_15 ok_mX8_isHour kw_626 rfl rfl (Nat.le_of_ble_eq_true rfl) (d' := 0) (by decide) (Nat.le_of_ble_eq_true rfl) ?_
      refine ct_isHour (by first | assumption | exact rg_b01 _ | (unfold rg; omega) | (unfold rg at *; omega)) ?_
      refine eR_if_ne (tgt := 24) dX8_chill_18 (by decide) (by first | assumption | exact rg_b01 _ | (unfold rg; omega) | (unfold rg at *; omega)) (fun c18 => absurd c18 (by first | (simp [b01, hq2]; done) | (rw [b01_f hq2]; decide))) (fun c18 => ?_)
      refine eR_ldc (z := -1000000002) dX8_chill_21 kw_349 (by decide) ?_
      refine eR_iret dX8_chill_23 rfl rfl ?_
      have k9 := k h (ofR_rf 3 38 h)
      rw [show (rChill S ↑pn hour : Int) = (-1000000002) from by unfold rChill; (try simp only [Int.toNat_natCast]); (repeat' split) <;> first | omega | rfl | simp_all] at k9
      exact k9
  · refine eR_aldn_0 dX8_chill_0 rfl ?_
    refine eR_getR (i := t) dX8_chill_1 gf_X8_57 th_0 rfl ?_
    refine eR_ildn_1 dX8_chill_4 rfl ?_
    refine eR_callVi [_] rfl dX8_chill_5 ok_mX6_hasPerson kw_622 rfl rfl T.1 rfl (Nat.le_of_ble_eq_true rfl) (d' := 0) (by decide) (Nat.le_of_ble_eq_true rfl) ?_
    refine tn_hasPerson T B V (by first | assumption | (unfold rg; omega)) ?_
    refine eR_if_ne (tgt := 14) dX8_chill_8 (by decide) (by first | assumption | exact rg_b01 _ | (unfold rg; omega) | (unfold rg at *; omega)) (fun c8 => absurd c8 (by first | (simp [b01, hq1]; done) | (rw [b01_f hq1]; decide))) (fun c8 => ?_)
    refine eR_ldc (z := -1000000001) dX8_chill_11 kw_612 (by decide) ?_
    refine eR_iret dX8_chill_13 rfl rfl ?_
    have k9 := k h (ofR_rf 3 38 h)
    rw [show (rChill S p hour : Int) = (-1000000001) from by unfold rChill; (try simp only [Int.toNat_natCast]); (repeat' split) <;> first | omega | rfl | simp_all] at k9
    exact k9
theorem ct_worn (T : isTn (tau t s) t) (B : sB S) (V : cV h t S) (h38 : 38 ≤ t) {hour : Int} (hr_hour : rg hour) {c : Int} (hr_c : rg c) (k : ∀ h1 : PH, ofR 3 38 h h1 → Q (.int (zI (rWorn S hour c))) (tau t s) h1) : eX g 5 mX8_worn 0 (lv_args 0 [.ref (gA g 0), .int (zI hour), .int (zI c)]) [] (tau t s) h Q := by
  show eX g 5 mX8_worn 0 [(0, .ref (gA g 0)), (1, .int (zI hour)), (2, .int (zI c))] [] (tau t s) h Q
  have hP8 := B.1
  have hC8 := B.2.1
  have hE10 := B.2.2.1
  have hF99 := B.2.2.2.2.2.2.1
  have hwr : ∀ x c, c < sC S → wrW S x c < 4 := fun x c hc => (wr_ok hc).2.2
  by_cases hq0 : c = -1
  · subst hq0
    by_cases hq2 : 0 ≤ hour ∧ hour ≤ 23
    · obtain ⟨hn, rfl⟩ : ∃ hn : Nat, hour = (hn : Int) := ⟨hour.toNat, by omega⟩
      refine eR_ildn_2 dX8_worn_0 rfl ?_
      refine eR_ic dX8_worn_1 ?_
      refine eR_icmp_eq (tgt := 19) dX8_worn_2 (by decide) (by first | assumption | exact rg_b01 _ | (unfold rg; omega) | (unfold rg at *; omega)) (by first | assumption | exact rg_b01 _ | (unfold rg; omega) | (unfold rg at *; omega)) (fun c2 => ?_) (fun c2 => absurd c2 (by decide))
      refine eR_ildn_1 dX8_worn_19 rfl ?_
      refine eR_callSi [_] rfl dX8_worn_20 ok_mX8_isHour kw_626 rfl rfl (Nat.le_of_ble_eq_true rfl) (d' := 0) (by decide) (Nat.le_of_ble_eq_true rfl) ?_
      refine ct_isHour (by first | assumption | exact rg_b01 _ | (unfold rg; omega) | (unfold rg at *; omega)) ?_
      refine eR_if_ne (tgt := 29) dX8_worn_23 (by decide) (by first | assumption | exact rg_b01 _ | (unfold rg; omega) | (unfold rg at *; omega)) (fun c23 => ?_) (fun c23 => absurd c23 (by first | simp [b01, hq2] | (rw [b01_t hq2]; decide)))
      refine eR_ildn_2 dX8_worn_29 rfl ?_
      refine eR_ic dX8_worn_30 ?_
      refine eR_icmp_ne (tgt := 47) dX8_worn_31 (by decide) (by first | assumption | exact rg_b01 _ | (unfold rg; omega) | (unfold rg at *; omega)) (by first | assumption | exact rg_b01 _ | (unfold rg; omega) | (unfold rg at *; omega)) (fun c31 => absurd c31 (by decide)) (fun c31 => ?_)
      refine eR_aldn_0 dX8_worn_34 rfl ?_
      refine eR_getR (i := 3) dX8_worn_35 gf_X8_19 th_0 rfl ?_
      refine eR_aldn_0 dX8_worn_38 rfl ?_
      refine eR_getR (i := t) dX8_worn_39 gf_X8_57 th_0 rfl ?_
      refine eR_ildn_1 dX8_worn_42 rfl ?_
      refine eR_callVi [_, _] rfl dX8_worn_43 ok_mX7_chillOfHour kw_676 rfl rfl th_3 rfl (Nat.le_of_ble_eq_true rfl) (d' := 3) (by decide) (Nat.le_of_ble_eq_true rfl) ?_
      refine wd_chillOfHour (hour := hn) T B V (by omega) h38 (fun h5_ Oh5_ _ => ?_)
      have Fh5_ : ofR 3 38 h h5_ := ofR_tr (ofR_rf 3 38 h) (ofR_mono Oh5_ (by omega))
      have Vh5_ : cV h5_ t S := cV_R B V Fh5_ (by omega)
      refine eR_iret dX8_worn_46 rfl rfl ?_
      have k9 := k h5_ Fh5_
      rw [show (rWorn S ↑hn (-1) : Int) = hrC S hn from by unfold rWorn; (try simp only [Int.toNat_natCast]); (repeat' split) <;> first | omega | rfl | simp_all] at k9
      exact k9
    · refine eR_ildn_2 dX8_worn_0 rfl ?_
      refine eR_ic dX8_worn_1 ?_
      refine eR_icmp_eq (tgt := 19) dX8_worn_2 (by decide) (by first | assumption | exact rg_b01 _ | (unfold rg; omega) | (unfold rg at *; omega)) (by first | assumption | exact rg_b01 _ | (unfold rg; omega) | (unfold rg at *; omega)) (fun c2 => ?_) (fun c2 => absurd c2 (by decide))
      refine eR_ildn_1 dX8_worn_19 rfl ?_
      refine eR_callSi [_] rfl dX8_worn_20 ok_mX8_isHour kw_626 rfl rfl (Nat.le_of_ble_eq_true rfl) (d' := 0) (by decide) (Nat.le_of_ble_eq_true rfl) ?_
      refine ct_isHour (by first | assumption | exact rg_b01 _ | (unfold rg; omega) | (unfold rg at *; omega)) ?_
      refine eR_if_ne (tgt := 29) dX8_worn_23 (by decide) (by first | assumption | exact rg_b01 _ | (unfold rg; omega) | (unfold rg at *; omega)) (fun c23 => absurd c23 (by first | (simp [b01, hq2]; done) | (rw [b01_f hq2]; decide))) (fun c23 => ?_)
      refine eR_ldc (z := -1000000002) dX8_worn_26 kw_349 (by decide) ?_
      refine eR_iret dX8_worn_28 rfl rfl ?_
      have k9 := k h (ofR_rf 3 38 h)
      rw [show (rWorn S hour (-1) : Int) = (-1000000002) from by unfold rWorn; (try simp only [Int.toNat_natCast]); (repeat' split) <;> first | omega | rfl | simp_all] at k9
      exact k9
  · by_cases hq1 : 0 ≤ c ∧ c ≤ ↑(sC S) - 1
    · obtain ⟨cn, rfl⟩ : ∃ cn : Nat, c = (cn : Int) := ⟨c.toNat, by omega⟩
      by_cases hq2 : 0 ≤ hour ∧ hour ≤ 23
      · obtain ⟨hn, rfl⟩ : ∃ hn : Nat, hour = (hn : Int) := ⟨hour.toNat, by omega⟩
        refine eR_ildn_2 dX8_worn_0 rfl ?_
        refine eR_ic dX8_worn_1 ?_
        refine eR_icmp_eq (tgt := 19) dX8_worn_2 (by decide) (by first | assumption | exact rg_b01 _ | (unfold rg; omega) | (unfold rg at *; omega)) (by first | assumption | exact rg_b01 _ | (unfold rg; omega) | (unfold rg at *; omega)) (fun c2 => absurd c2 (by omega)) (fun c2 => ?_)
        refine eR_aldn_0 dX8_worn_5 rfl ?_
        refine eR_getR (i := t) dX8_worn_6 gf_X8_57 th_0 rfl ?_
        refine eR_ildn_2 dX8_worn_9 rfl ?_
        refine eR_callVi [_] rfl dX8_worn_10 ok_mX6_hasCoat kw_608 rfl rfl T.1 rfl (Nat.le_of_ble_eq_true rfl) (d' := 0) (by decide) (Nat.le_of_ble_eq_true rfl) ?_
        refine tn_hasCoat T B V (by first | assumption | (unfold rg; omega)) ?_
        refine eR_if_ne (tgt := 19) dX8_worn_13 (by decide) (by first | assumption | exact rg_b01 _ | (unfold rg; omega) | (unfold rg at *; omega)) (fun c13 => ?_) (fun c13 => absurd c13 (by first | simp [b01, hq1] | (rw [b01_t hq1]; decide)))
        refine eR_ildn_1 dX8_worn_19 rfl ?_
        refine eR_callSi [_] rfl dX8_worn_20 ok_mX8_isHour kw_626 rfl rfl (Nat.le_of_ble_eq_true rfl) (d' := 0) (by decide) (Nat.le_of_ble_eq_true rfl) ?_
        refine ct_isHour (by first | assumption | exact rg_b01 _ | (unfold rg; omega) | (unfold rg at *; omega)) ?_
        refine eR_if_ne (tgt := 29) dX8_worn_23 (by decide) (by first | assumption | exact rg_b01 _ | (unfold rg; omega) | (unfold rg at *; omega)) (fun c23 => ?_) (fun c23 => absurd c23 (by first | simp [b01, hq2] | (rw [b01_t hq2]; decide)))
        refine eR_ildn_2 dX8_worn_29 rfl ?_
        refine eR_ic dX8_worn_30 ?_
        refine eR_icmp_ne (tgt := 47) dX8_worn_31 (by decide) (by first | assumption | exact rg_b01 _ | (unfold rg; omega) | (unfold rg at *; omega)) (by first | assumption | exact rg_b01 _ | (unfold rg; omega) | (unfold rg at *; omega)) (fun c31 => ?_) (fun c31 => absurd c31 (by omega))
        refine eR_aldn_0 dX8_worn_47 rfl ?_
        refine eR_getR (i := 3) dX8_worn_48 gf_X8_19 th_0 rfl ?_
        refine eR_aldn_0 dX8_worn_51 rfl ?_
        refine eR_getR (i := t) dX8_worn_52 gf_X8_57 th_0 rfl ?_
        refine eR_ildn_1 dX8_worn_55 rfl ?_
        refine eR_callVv [_, _] rfl dX8_worn_56 ok_mX7_choose kw_677 rfl rfl th_3 rfl (Nat.le_of_ble_eq_true rfl) (d' := 4) (by decide) (Nat.le_of_ble_eq_true rfl) ?_
        refine wd_choose (hour := hn) T B V (by omega) h38 (fun h6_ Oh6_ Wh6_ ch6_ => ?_)
        have Fh6_ : ofR 3 38 h h6_ := ofR_tr (ofR_rf 3 38 h) (ofR_mono Oh6_ (by omega))
        have Vh6_ : cV h6_ t S := cV_R B V Fh6_ (by omega)
        refine eR_aldn_0 dX8_worn_59 rfl ?_
        refine eR_getR (i := 3) dX8_worn_60 gf_X8_19 th_0 rfl ?_
        refine eR_getR (i := 4) dX8_worn_63 gf_X8_179 th_3 rfl ?_
        refine eR_ildn_2 dX8_worn_66 rfl ?_
        refine eR_iald (n := cn) dX8_worn_67 th_4 (rfl) (by omega) (by decide) ?_
        refine eX_pcI (ch6_ cn (by omega)) ?_
        refine eR_iret dX8_worn_68 rfl rfl ?_
        have k9 := k h6_ Fh6_
        rw [show (rWorn S ↑hn ↑cn : Int) = ↑(wrW S hn cn) from by unfold rWorn; (try simp only [Int.toNat_natCast]); (repeat' split) <;> first | omega | rfl | simp_all] at k9
        exact k9
      · refine eR_ildn_2 dX8_worn_0 rfl ?_
        refine eR_ic dX8_worn_1 ?_
        refine eR_icmp_eq (tgt := 19) dX8_worn_2 (by decide) (by first | assumption | exact rg_b01 _ | (unfold rg; omega) | (unfold rg at *; omega)) (by first | assumption | exact rg_b01 _ | (unfold rg; omega) | (unfold rg at *; omega)) (fun c2 => absurd c2 (by omega)) (fun c2 => ?_)
        refine eR_aldn_0 dX8_worn_5 rfl ?_
        refine eR_getR (i := t) dX8_worn_6 gf_X8_57 th_0 rfl ?_
        refine eR_ildn_2 dX8_worn_9 rfl ?_
        refine eR_callVi [_] rfl dX8_worn_10 ok_mX6_hasCoat kw_608 rfl rfl T.1 rfl (Nat.le_of_ble_eq_true rfl) (d' := 0) (by decide) (Nat.le_of_ble_eq_true rfl) ?_
        refine tn_hasCoat T B V (by first | assumption | (unfold rg; omega)) ?_
        refine eR_if_ne (tgt := 19) dX8_worn_13 (by decide) (by first | assumption | exact rg_b01 _ | (unfold rg; omega) | (unfold rg at *; omega)) (fun c13 => ?_) (fun c13 => absurd c13 (by first | simp [b01, hq1] | (rw [b01_t hq1]; decide)))
        refine eR_ildn_1 dX8_worn_19 rfl ?_
        refine eR_callSi [_] rfl dX8_worn_20 ok_mX8_isHour kw_626 rfl rfl (Nat.le_of_ble_eq_true rfl) (d' := 0) (by decide) (Nat.le_of_ble_eq_true rfl) ?_
        refine ct_isHour (by first | assumption | exact rg_b01 _ | (unfold rg; omega) | (unfold rg at *; omega)) ?_
        refine eR_if_ne (tgt := 29) dX8_worn_23 (by decide) (by first | assumption | exact rg_b01 _ | (unfold rg; omega) | (unfold rg at *; omega)) (fun c23 => absurd c23 (by first | (simp [b01, hq2]; done) | (rw [b01_f hq2]; decide))) (fun c23 => ?_)
        refine eR_ldc (z := -1000000002) dX8_worn_26 kw_349 (by decide) ?_
        refine eR_iret dX8_worn_28 rfl rfl ?_
        have k9 := k h (ofR_rf 3 38 h)
        rw [show (rWorn S hour ↑cn : Int) = (-1000000002) from by unfold rWorn; (try simp only [Int.toNat_natCast]); (repeat' split) <;> first | omega | rfl | simp_all] at k9
        exact k9
    · refine eR_ildn_2 dX8_worn_0 rfl ?_
      refine eR_ic dX8_worn_1 ?_
      refine eR_icmp_eq (tgt := 19) dX8_worn_2 (by decide) (by first | assumption | exact rg_b01 _ | (unfold rg; omega) | (unfold rg at *; omega)) (by first | assumption | exact rg_b01 _ | (unfold rg; omega) | (unfold rg at *; omega)) (fun c2 => absurd c2 (by omega)) (fun c2 => ?_)
      refine eR_aldn_0 dX8_worn_5 rfl ?_
      refine eR_getR (i := t) dX8_worn_6 gf_X8_57 th_0 rfl ?_
      refine eR_ildn_2 dX8_worn_9 rfl ?_
      refine eR_callVi [_] rfl dX8_worn_10 ok_mX6_hasCoat kw_608 rfl rfl T.1 rfl (Nat.le_of_ble_eq_true rfl) (d' := 0) (by decide) (Nat.le_of_ble_eq_true rfl) ?_
      refine tn_hasCoat T B V (by first | assumption | (unfold rg; omega)) ?_
      refine eR_if_ne (tgt := 19) dX8_worn_13 (by decide) (by first | assumption | exact rg_b01 _ | (unfold rg; omega) | (unfold rg at *; omega)) (fun c13 => absurd c13 (by first | (simp [b01, hq1]; done) | (rw [b01_f hq1]; decide))) (fun c13 => ?_)
      refine eR_ldc (z := -1000000001) dX8_worn_16 kw_612 (by decide) ?_
      refine eR_iret dX8_worn_18 rfl rfl ?_
      have k9 := k h (ofR_rf 3 38 h)
      rw [show (rWorn S hour c : Int) = (-1000000001) from by unfold rWorn; (try simp only [Int.toNat_natCast]); (repeat' split) <;> first | omega | rfl | simp_all] at k9
      exact k9
end M58
