def setO (S : TS) (c k v : Nat) : TS := (sP S, sC S, sE S, fun c' k' => if c' = c ∧ k' = k then v else sO S c' k', sW S, sR S, sK S, sF S, sL S)
def setK (S : TS) (n : Nat) : TS := (sP S, sC S, sE S, sO S, sW S, sR S, n, sF S, sL S)
def setF (S : TS) (n : Nat) : TS := (sP S, sC S, sE S, sO S, sW S, sR S, sK S, n, sL S)
def swS (S : TS) (c s d t : Nat) : TS := setO (setO S c s (sO S d t)) d t (sO S c s)
theorem mV_own {h : PH} {S : TS} (V : mV h S) {c s : Nat} (hc : c < sC S) (hs : s < 2) : h 206 (8 * s + c) = (sO S c s : Int) := by
  rcases (show s = 0 ∨ s = 1 by omega) with rfl | rfl
  · rw [show 8 * 0 + c = c from by omega]; exact (V.2.2.2.1 c hc).1
  · exact (V.2.2.2.1 c hc).2.1
theorem mV_setO {h : PH} {S : TS} (V : mV h S) (h8 : sC S ≤ 8) {c s v : Nat} (hc : c < sC S) (hs : s < 2) : mV (hU h 206 (8 * s + c) v) (setO S c s v) := by
  obtain ⟨v1, v2, v3, v4, v5, v6, v7, v8⟩ := V
  refine ⟨v1, v2, v3, fun x hx => ?_, v5, ?_, ?_, v8⟩
  · have hx2 : x < sC S := hx
    have w1 := v4 x hx2
    refine ⟨?_, ?_, ?_⟩
    · show hU h 206 (8 * s + c) v 206 x = ((if x = c ∧ 0 = s then v else sO S x 0 : Nat) : Int)
      rw [hU_g]
      by_cases q : x = 8 * s + c
      · rw [if_pos ⟨rfl, q⟩, if_pos (by omega)]
      · rw [if_neg (by omega), if_neg (by omega)]; exact w1.1
    · show hU h 206 (8 * s + c) v 206 (8 + x) = ((if x = c ∧ 1 = s then v else sO S x 1 : Nat) : Int)
      rw [hU_g]
      by_cases q : 8 + x = 8 * s + c
      · rw [if_pos ⟨rfl, q⟩, if_pos (by omega)]
      · rw [if_neg (by omega), if_neg (by omega)]; exact w1.2.1
    · exact w1.2.2
  · show hU h 206 (8 * s + c) v 206 16 = _
    rw [hU_i _ _ _ (by omega)]; exact v6
  · show hU h 206 (8 * s + c) v 206 17 = _
    rw [hU_i _ _ _ (by omega)]; exact v7
theorem sB_setO {S : TS} (B : sB S) {c s v : Nat} (hv : v < sP S) (hn : sO S c (1 - s) ≠ v) (hs : s < 2) : sB (setO S c s v) := by
  obtain ⟨b1, b2, b3, b4, b5, b6, b7, b8⟩ := B
  refine ⟨b1, b2, b3, fun x hx => ?_, b5, b6, b7, b8⟩
  have w1 := b4 x hx
  show (if x = c ∧ 0 = s then v else sO S x 0) < sP S ∧ (if x = c ∧ 1 = s then v else sO S x 1) < sP S ∧ (if x = c ∧ 0 = s then v else sO S x 0) ≠ (if x = c ∧ 1 = s then v else sO S x 1) ∧ 1 ≤ sW S x ∧ sW S x ≤ 99
  rcases (show s = 0 ∨ s = 1 by omega) with rfl | rfl
  · by_cases q : x = c
    · subst q
      rw [if_pos ⟨rfl, rfl⟩, if_neg (by omega)]
      exact ⟨hv, w1.2.1, fun e => hn e.symm, w1.2.2.2⟩
    · rw [if_neg (by omega), if_neg (by omega)]; exact w1
  · by_cases q : x = c
    · subst q
      rw [if_neg (by omega), if_pos ⟨rfl, rfl⟩]
      exact ⟨w1.1, hv, fun e => hn e, w1.2.2.2⟩
    · rw [if_neg (by omega), if_neg (by omega)]; exact w1
theorem setO_at (S : TS) (c k v c' k' : Nat) : sO (setO S c k v) c' k' = if c' = c ∧ k' = k then v else sO S c' k' := rfl
/-- a SWAP of two SLEEVES that may be and is good for both -/
def gdS (S : TS) (c s d t : Nat) : Prop := ¬ (sK S).testBit c = true ∧ ¬ (sK S).testBit d = true ∧ sO S c s ≠ sO S d t ∧ sO S c (1 - s) ≠ sO S d t ∧ sO S d (1 - t) ≠ sO S c s ∧
  wsN S (sO S c s) (sC S) < wsN (swS S c s d t) (sO S c s) (sC S) ∧ wsN S (sO S d t) (sC S) < wsN (swS S c s d t) (sO S d t) (sC S)
theorem swS_at {S : TS} {c s d t : Nat} (hcd : c ≠ d) (hs : s < 2) (ht : t < 2) : sO (swS S c s d t) c s = sO S d t ∧ sO (swS S c s d t) c (1 - s) = sO S c (1 - s) ∧ sO (swS S c s d t) d t = sO S c s ∧ sO (swS S c s d t) d (1 - t) = sO S d (1 - t) := by
  refine ⟨?_, ?_, ?_, ?_⟩
  · show (if c = d ∧ s = t then sO S c s else if c = c ∧ s = s then sO S d t else sO S c s) = _
    rw [if_neg (by omega), if_pos ⟨rfl, rfl⟩]
  · show (if c = d ∧ 1 - s = t then sO S c s else if c = c ∧ 1 - s = s then sO S d t else sO S c (1 - s)) = _
    rw [if_neg (by omega), if_neg (by omega)]
  · show (if d = d ∧ t = t then sO S c s else _) = _
    rw [if_pos ⟨rfl, rfl⟩]
  · show (if d = d ∧ 1 - t = t then sO S c s else if d = c ∧ 1 - t = s then sO S d t else sO S d (1 - t)) = _
    rw [if_neg (by omega), if_neg (by omega)]
theorem sB_sw {S : TS} (B : sB S) {c s d t : Nat} (hc : c < sC S) (hd : d < sC S) (hcd : c ≠ d) (hs : s < 2) (ht : t < 2) (h1 : sO S c (1 - s) ≠ sO S d t) (h2 : sO S d (1 - t) ≠ sO S c s) : sB (swS S c s d t) := by
  have o1 := B.2.2.2.1 c hc
  have o2 := B.2.2.2.1 d hd
  have l1 : sO S c s < sP S := by rcases (show s = 0 ∨ s = 1 by omega) with rfl | rfl; exact o1.1; exact o1.2.1
  have l2 : sO S d t < sP S := by rcases (show t = 0 ∨ t = 1 by omega) with rfl | rfl; exact o2.1; exact o2.2.1
  refine sB_setO (sB_setO B l2 h1 hs) l1 ?_ ht
  rw [setO_at, if_neg (by omega)]
  exact h2
section M21
variable {g : EG} {d t s : Nat} {h h1 : PH} {Q : EQ} {S : TS}
theorem sp_exchange {i j : Nat} (hi : i < 80) (hj : j < 80) (k : Q .null (tau t s) (hU (hU h 206 i (h 206 j)) 206 j (h 206 i))) : eX g 0 mX9_exchange 0 (lv_args 0 [.ref (gA g 205), .int (zI ↑i), .int (zI ↑j)]) [] (tau t s) h Q := by
  show eX g 0 mX9_exchange 0 [(0, .ref (gA g 205)), (1, .int (zI ↑i)), (2, .int (zI ↑j))] [] (tau t s) h Q
  refine eR_aldn_0 dX9_exchange_0 rfl ?_
  refine eR_getR (i := 206) dX9_exchange_1 gf_X9_7 th_205 rfl ?_
  refine eR_ildn_1 dX9_exchange_4 rfl ?_
  refine eR_iald (n := i) dX9_exchange_5 th_206 (rfl) (by omega) (by decide) ?_
  refine eR_istn_n3 dX9_exchange_6 rfl (by decide) rfl ?_
  refine eR_aldn_0 dX9_exchange_7 rfl ?_
  refine eR_getR (i := 206) dX9_exchange_8 gf_X9_7 th_205 rfl ?_
  refine eR_ildn_1 dX9_exchange_11 rfl ?_
  refine eR_aldn_0 dX9_exchange_12 rfl ?_
  refine eR_getR (i := 206) dX9_exchange_13 gf_X9_7 th_205 rfl ?_
  refine eR_ildn_2 dX9_exchange_16 rfl ?_
  refine eR_iald (n := j) dX9_exchange_17 th_206 (rfl) (by omega) (by decide) ?_
  refine eR_iast (n := i) dX9_exchange_18 th_206 (rfl) (by omega) (by decide) ?_
  refine eR_aldn_0 dX9_exchange_19 rfl ?_
  refine eR_getR (i := 206) dX9_exchange_20 gf_X9_7 th_205 rfl ?_
  refine eR_ildn_2 dX9_exchange_23 rfl ?_
  refine eR_ildn_3 dX9_exchange_24 rfl ?_
  refine eR_iast (n := j) dX9_exchange_25 th_206 (rfl) (by omega) (by decide) ?_
  refine eR_vret dX9_exchange_26 rfl ?_
  exact k
theorem sp_swaps (B : sB S) (V : mV h S) {c s1 d1 t1 : Nat} (hc : c < sC S) (hs1 : s1 < 2) (hd1 : d1 < sC S) (ht1 : t1 < 2) (hcd : c ≠ d1)
    (k0 : ¬ gdS S c s1 d1 t1 → Q (.int (zI 0)) (tau t s) h) (k1 : gdS S c s1 d1 t1 → Q (.int (zI 1)) (tau t s) (hU (hU h 206 (8 * s1 + c) (sO S d1 t1)) 206 (8 * t1 + d1) (sO S c s1))) :
    eX g 3 mX9_swaps 0 (lv_args 0 [.ref (gA g 205), .int (zI ↑c), .int (zI ↑s1), .int (zI ↑d1), .int (zI ↑t1)]) [] (tau t s) h Q := by
  show eX g 3 mX9_swaps 0 [(0, .ref (gA g 205)), (1, .int (zI ↑c)), (2, .int (zI ↑s1)), (3, .int (zI ↑d1)), (4, .int (zI ↑t1))] [] (tau t s) h Q
  have hP8 := B.1
  have hC8 := B.2.1
  have hE10 := B.2.2.1
  have hF99 := B.2.2.2.2.2.2.1
  have ho1 := B.2.2.2.1 c hc
  have ho2 := B.2.2.2.1 d1 hd1
  have l1 : sO S c s1 < sP S := by rcases (show s1 = 0 ∨ s1 = 1 by omega) with rfl | rfl; exact ho1.1; exact ho1.2.1
  have l2 : sO S d1 t1 < sP S := by rcases (show t1 = 0 ∨ t1 = 1 by omega) with rfl | rfl; exact ho2.1; exact ho2.2.1
  have lw1 := wsN_le B l1 (sC S) (Nat.le_refl _)
  have lw2 := wsN_le B l2 (sC S) (Nat.le_refl _)
  obtain ⟨w1, w2, w3, w4⟩ := swS_at (S := S) hcd hs1 ht1
  have e206 : hU (hU h 206 (8 * s1 + c) (h 206 (8 * t1 + d1))) 206 (8 * t1 + d1) (h 206 (8 * s1 + c)) = hU (hU h 206 (8 * s1 + c) (sO S d1 t1)) 206 (8 * t1 + d1) (sO S c s1) := by
    rw [mV_own V hc hs1, mV_own V hd1 ht1]
  generalize hh2 : hU (hU h 206 (8 * s1 + c) (sO S d1 t1)) 206 (8 * t1 + d1) (sO S c s1) = h2 at e206 k1
  have V2 : mV h2 (swS S c s1 d1 t1) := by
    rw [← hh2]
    exact mV_setO (S := setO S c s1 (sO S d1 t1)) (mV_setO V hC8 hc hs1) hC8 hd1 ht1
  have eback : hU (hU h2 206 (8 * s1 + c) (h2 206 (8 * t1 + d1))) 206 (8 * t1 + d1) (h2 206 (8 * s1 + c)) = h := by
    have r1 := mV_own V hc hs1
    have r2 := mV_own V hd1 ht1
    rw [← hh2]
    funext a i
    simp only [hU_g]
    by_cases qa : a = 206
    · subst qa
      by_cases qi : i = 8 * t1 + d1
      · subst qi
        simp [show ¬ (8 * s1 + c = 8 * t1 + d1) from by omega, r2]
      · by_cases qj : i = 8 * s1 + c
        · subst qj
          simp [qi, r1]
        · simp [qi, qj]
    · simp [qa]
  have hB2 : sO S c (1 - s1) ≠ sO S d1 t1 → sO S d1 (1 - t1) ≠ sO S c s1 → sB (swS S c s1 d1 t1) := sB_sw B hc hd1 hcd hs1 ht1
  have hc8 : sC (swS S c s1 d1 t1) = sC S := rfl
  have hp8 : sP (swS S c s1 d1 t1) = sP S := rfl
  rcases (show s1 = 0 ∨ s1 = 1 by omega) with rfl | rfl <;> rcases (show t1 = 0 ∨ t1 = 1 by omega) with rfl | rfl
  all_goals
    simp only [Nat.sub_zero, Nat.sub_self, show (1 : Nat) - 0 = 1 from rfl] at w1 w2 w3 w4 hB2
  · refine eR_bi (z := 8) dX9_swaps_0 rfl ?_
    refine eR_ildn_2 dX9_swaps_2 rfl ?_
    refine eR_imul dX9_swaps_3 ?_
    refine eR_ildn_1 dX9_swaps_4 rfl ?_
    refine eR_iadd dX9_swaps_5 ?_
    refine eX_pcI (show ((8 * 0) + ↑c : Int) = ↑(8 * 0 + c : Nat) from by omega) ?_
    refine eR_ist_n5 dX9_swaps_6 (by decide) rfl ?_
    refine eR_bi (z := 8) dX9_swaps_8 rfl ?_
    refine eR_ild_4 dX9_swaps_10 ?_
    refine eR_imul dX9_swaps_12 ?_
    refine eR_ildn_3 dX9_swaps_13 rfl ?_
    refine eR_iadd dX9_swaps_14 ?_
    refine eX_pcI (show ((8 * 0) + ↑d1 : Int) = ↑(8 * 0 + d1 : Nat) from by omega) ?_
    refine eR_ist_n6 dX9_swaps_15 (by decide) rfl ?_
    refine eR_aldn_0 dX9_swaps_17 rfl ?_
    refine eR_getR (i := 206) dX9_swaps_18 gf_X9_7 th_205 rfl ?_
    refine eR_ild_5 dX9_swaps_21 ?_
    refine eR_iald (n := (8 * 0 + c : Nat)) dX9_swaps_23 th_206 (rfl) (by omega) (by decide) ?_
    refine eX_pcI (mV_own V (by omega) (by omega)) ?_
    refine eR_ist_n7 dX9_swaps_24 (by decide) rfl ?_
    refine eR_aldn_0 dX9_swaps_26 rfl ?_
    refine eR_getR (i := 206) dX9_swaps_27 gf_X9_7 th_205 rfl ?_
    refine eR_ild_6 dX9_swaps_30 ?_
    refine eR_iald (n := (8 * 0 + d1 : Nat)) dX9_swaps_32 th_206 (rfl) (by omega) (by decide) ?_
    refine eX_pcI (mV_own V (by omega) (by omega)) ?_
    refine eR_ist_n8 dX9_swaps_33 (by decide) rfl ?_
    refine eR_aldn_0 dX9_swaps_35 rfl ?_
    refine eR_ildn_1 dX9_swaps_36 rfl ?_
    refine eR_callVi [_] rfl dX9_swaps_37 ok_mX9_isCut kw_1061 rfl rfl th_205 rfl (Nat.le_of_ble_eq_true rfl) (d' := 1) (by decide) (Nat.le_of_ble_eq_true rfl) ?_
    refine sp_isCut (c := c) B V (by omega) ?_
    refine eR_if_ne (tgt := 58) dX9_swaps_40 (by decide) (by first | exact rg_b01 _ | (unfold rg; omega)) (fun c40 => ?_) (fun c40 => ?_)
    · replace c40 := b01_ne0.mp c40
      refine eR_ic dX9_swaps_58 ?_
      refine eR_zret dX9_swaps_59 rfl (by omega) ?_
      exact k0 (fun q => by obtain ⟨q1, q2, q3, q4, q5, q6, q7⟩ := q; simp only [Nat.sub_zero, Nat.sub_self] at q4 q5; first | contradiction | omega)
    · replace c40 := b01_eq0.mp c40
      refine eR_aldn_0 dX9_swaps_43 rfl ?_
      refine eR_ildn_3 dX9_swaps_44 rfl ?_
      refine eR_callVi [_] rfl dX9_swaps_45 ok_mX9_isCut kw_1061 rfl rfl th_205 rfl (Nat.le_of_ble_eq_true rfl) (d' := 1) (by decide) (Nat.le_of_ble_eq_true rfl) ?_
      refine sp_isCut (c := d1) B V (by omega) ?_
      refine eR_if_ne (tgt := 58) dX9_swaps_48 (by decide) (by first | exact rg_b01 _ | (unfold rg; omega)) (fun c48 => ?_) (fun c48 => ?_)
      · replace c48 := b01_ne0.mp c48
        refine eR_ic dX9_swaps_58 ?_
        refine eR_zret dX9_swaps_59 rfl (by omega) ?_
        exact k0 (fun q => by obtain ⟨q1, q2, q3, q4, q5, q6, q7⟩ := q; simp only [Nat.sub_zero, Nat.sub_self] at q4 q5; first | contradiction | omega)
      · replace c48 := b01_eq0.mp c48
        refine eR_ild_7 dX9_swaps_51 ?_
        refine eR_ild_8 dX9_swaps_53 ?_
        refine eR_icmp_ne (tgt := 60) dX9_swaps_55 (by decide) (by first | exact rg_b01 _ | (unfold rg; omega)) (by first | exact rg_b01 _ | (unfold rg; omega)) (fun c55 => ?_) (fun c55 => ?_)
        · refine eR_aldn_0 dX9_swaps_60 rfl ?_
          refine eR_ild_7 dX9_swaps_61 ?_
          refine eR_callVi [_] rfl dX9_swaps_63 ok_mX9_wishOf kw_1164 rfl rfl th_205 rfl (Nat.le_of_ble_eq_true rfl) (d' := 2) (by decide) (Nat.le_of_ble_eq_true rfl) ?_
          refine sp_wishOf (p := (sO S c 0)) B V (by omega) ?_
          refine eR_ist_n9 dX9_swaps_66 (by decide) rfl ?_
          refine eR_aldn_0 dX9_swaps_68 rfl ?_
          refine eR_ild_8 dX9_swaps_69 ?_
          refine eR_callVi [_] rfl dX9_swaps_71 ok_mX9_wishOf kw_1164 rfl rfl th_205 rfl (Nat.le_of_ble_eq_true rfl) (d' := 2) (by decide) (Nat.le_of_ble_eq_true rfl) ?_
          refine sp_wishOf (p := (sO S d1 0)) B V (by omega) ?_
          refine eR_ist_n10 dX9_swaps_74 (by decide) rfl ?_
          refine eR_aldn_0 dX9_swaps_76 rfl ?_
          refine eR_ild_5 dX9_swaps_77 ?_
          refine eR_ild_6 dX9_swaps_79 ?_
          refine eR_callVv [_, _] rfl dX9_swaps_81 ok_mX9_exchange kw_1180 rfl rfl th_205 rfl (Nat.le_of_ble_eq_true rfl) (d' := 0) (by decide) (Nat.le_of_ble_eq_true rfl) ?_
          refine sp_exchange (i := 8 * 0 + c) (j := 8 * 0 + d1) (by omega) (by omega) ?_
          rw [e206]
          refine eR_aldn_0 dX9_swaps_84 rfl ?_
          refine eR_getR (i := 206) dX9_swaps_85 gf_X9_7 th_205 rfl ?_
          refine eR_ildn_1 dX9_swaps_88 rfl ?_
          refine eR_iald (n := c) dX9_swaps_89 th_206 (rfl) (by omega) (by decide) ?_
          refine eX_pcI ((V2.2.2.2.1 c (by omega)).1) ?_
          refine eR_aldn_0 dX9_swaps_90 rfl ?_
          refine eR_getR (i := 206) dX9_swaps_91 gf_X9_7 th_205 rfl ?_
          refine eR_bi (z := 8) dX9_swaps_94 rfl ?_
          refine eR_ildn_1 dX9_swaps_96 rfl ?_
          refine eR_iadd dX9_swaps_97 ?_
          refine eR_iald (n := 8 + c) dX9_swaps_98 th_206 (by omega) (by omega) (by decide) ?_
          refine eX_pcI ((V2.2.2.2.1 c (by omega)).2.1) ?_
          refine eR_icmp_eq (tgt := 146) dX9_swaps_99 (by decide) (by first | exact rg_b01 _ | (unfold rg; omega)) (by first | exact rg_b01 _ | (unfold rg; omega)) (fun c99 => ?_) (fun c99 => ?_)
          · refine eR_ic dX9_swaps_146 ?_
            refine eR_ist_n11 dX9_swaps_147 (by decide) rfl ?_
            refine eR_ild_11 dX9_swaps_149 ?_
            refine eR_if_ne (tgt := 162) dX9_swaps_151 (by decide) (by first | exact rg_b01 _ | (unfold rg; omega)) (fun c151 => absurd c151 (by decide)) (fun c151 => ?_)
            refine eR_aldn_0 dX9_swaps_154 rfl ?_
            refine eR_ild_5 dX9_swaps_155 ?_
            refine eR_ild_6 dX9_swaps_157 ?_
            refine eR_callVv [_, _] rfl dX9_swaps_159 ok_mX9_exchange kw_1180 rfl rfl th_205 rfl (Nat.le_of_ble_eq_true rfl) (d' := 0) (by decide) (Nat.le_of_ble_eq_true rfl) ?_
            refine sp_exchange (i := 8 * 0 + c) (j := 8 * 0 + d1) (by omega) (by omega) ?_
            rw [eback]
            refine eR_ild_11 dX9_swaps_162 ?_
            refine eR_zret dX9_swaps_164 rfl (by omega) ?_
            exact k0 (fun q => by obtain ⟨q1, q2, q3, q4, q5, q6, q7⟩ := q; simp only [Nat.sub_zero, Nat.sub_self] at q4 q5; first | contradiction | omega)
          · refine eR_aldn_0 dX9_swaps_102 rfl ?_
            refine eR_getR (i := 206) dX9_swaps_103 gf_X9_7 th_205 rfl ?_
            refine eR_ildn_3 dX9_swaps_106 rfl ?_
            refine eR_iald (n := d1) dX9_swaps_107 th_206 (rfl) (by omega) (by decide) ?_
            refine eX_pcI ((V2.2.2.2.1 d1 (by omega)).1) ?_
            refine eR_aldn_0 dX9_swaps_108 rfl ?_
            refine eR_getR (i := 206) dX9_swaps_109 gf_X9_7 th_205 rfl ?_
            refine eR_bi (z := 8) dX9_swaps_112 rfl ?_
            refine eR_ildn_3 dX9_swaps_114 rfl ?_
            refine eR_iadd dX9_swaps_115 ?_
            refine eR_iald (n := 8 + d1) dX9_swaps_116 th_206 (by omega) (by omega) (by decide) ?_
            refine eX_pcI ((V2.2.2.2.1 d1 (by omega)).2.1) ?_
            refine eR_icmp_eq (tgt := 146) dX9_swaps_117 (by decide) (by first | exact rg_b01 _ | (unfold rg; omega)) (by first | exact rg_b01 _ | (unfold rg; omega)) (fun c117 => ?_) (fun c117 => ?_)
            · refine eR_ic dX9_swaps_146 ?_
              refine eR_ist_n11 dX9_swaps_147 (by decide) rfl ?_
              refine eR_ild_11 dX9_swaps_149 ?_
              refine eR_if_ne (tgt := 162) dX9_swaps_151 (by decide) (by first | exact rg_b01 _ | (unfold rg; omega)) (fun c151 => absurd c151 (by decide)) (fun c151 => ?_)
              refine eR_aldn_0 dX9_swaps_154 rfl ?_
              refine eR_ild_5 dX9_swaps_155 ?_
              refine eR_ild_6 dX9_swaps_157 ?_
              refine eR_callVv [_, _] rfl dX9_swaps_159 ok_mX9_exchange kw_1180 rfl rfl th_205 rfl (Nat.le_of_ble_eq_true rfl) (d' := 0) (by decide) (Nat.le_of_ble_eq_true rfl) ?_
              refine sp_exchange (i := 8 * 0 + c) (j := 8 * 0 + d1) (by omega) (by omega) ?_
              rw [eback]
              refine eR_ild_11 dX9_swaps_162 ?_
              refine eR_zret dX9_swaps_164 rfl (by omega) ?_
              exact k0 (fun q => by obtain ⟨q1, q2, q3, q4, q5, q6, q7⟩ := q; simp only [Nat.sub_zero, Nat.sub_self] at q4 q5; first | contradiction | omega)
            · refine eR_aldn_0 dX9_swaps_120 rfl ?_
              refine eR_ild_7 dX9_swaps_121 ?_
              refine eR_callVi [_] rfl dX9_swaps_123 ok_mX9_wishOf kw_1164 rfl rfl th_205 rfl (Nat.le_of_ble_eq_true rfl) (d' := 2) (by decide) (Nat.le_of_ble_eq_true rfl) ?_
              refine sp_wishOf (S := swS S c 0 d1 0) (p := (sO S c 0)) (hB2 (by omega) (by omega)) V2 (by omega) ?_
              refine eX_pcI (show (↑(wsN (swS S c 0 d1 0) (sO S c 0) (sC (swS S c 0 d1 0))) : Int) = ↑(wsN (swS S c 0 d1 0) (sO S c 0) (sC S)) from rfl) ?_
              have lx1 := wsN_le (hB2 (by omega) (by omega)) (p := sO S c 0) (by omega) (sC S) (Nat.le_refl _)
              refine eR_ild_9 dX9_swaps_126 ?_
              refine eR_icmp_le (tgt := 146) dX9_swaps_128 (by decide) (by first | exact rg_b01 _ | (unfold rg; omega)) (by first | exact rg_b01 _ | (unfold rg; omega)) (fun c128 => ?_) (fun c128 => ?_)
              · refine eR_ic dX9_swaps_146 ?_
                refine eR_ist_n11 dX9_swaps_147 (by decide) rfl ?_
                refine eR_ild_11 dX9_swaps_149 ?_
                refine eR_if_ne (tgt := 162) dX9_swaps_151 (by decide) (by first | exact rg_b01 _ | (unfold rg; omega)) (fun c151 => absurd c151 (by decide)) (fun c151 => ?_)
                refine eR_aldn_0 dX9_swaps_154 rfl ?_
                refine eR_ild_5 dX9_swaps_155 ?_
                refine eR_ild_6 dX9_swaps_157 ?_
                refine eR_callVv [_, _] rfl dX9_swaps_159 ok_mX9_exchange kw_1180 rfl rfl th_205 rfl (Nat.le_of_ble_eq_true rfl) (d' := 0) (by decide) (Nat.le_of_ble_eq_true rfl) ?_
                refine sp_exchange (i := 8 * 0 + c) (j := 8 * 0 + d1) (by omega) (by omega) ?_
                rw [eback]
                refine eR_ild_11 dX9_swaps_162 ?_
                refine eR_zret dX9_swaps_164 rfl (by omega) ?_
                exact k0 (fun q => by obtain ⟨q1, q2, q3, q4, q5, q6, q7⟩ := q; simp only [Nat.sub_zero, Nat.sub_self] at q4 q5; first | contradiction | omega)
              · refine eR_aldn_0 dX9_swaps_131 rfl ?_
                refine eR_ild_8 dX9_swaps_132 ?_
                refine eR_callVi [_] rfl dX9_swaps_134 ok_mX9_wishOf kw_1164 rfl rfl th_205 rfl (Nat.le_of_ble_eq_true rfl) (d' := 2) (by decide) (Nat.le_of_ble_eq_true rfl) ?_
                refine sp_wishOf (S := swS S c 0 d1 0) (p := (sO S d1 0)) (hB2 (by omega) (by omega)) V2 (by omega) ?_
                refine eX_pcI (show (↑(wsN (swS S c 0 d1 0) (sO S d1 0) (sC (swS S c 0 d1 0))) : Int) = ↑(wsN (swS S c 0 d1 0) (sO S d1 0) (sC S)) from rfl) ?_
                have lx2 := wsN_le (hB2 (by omega) (by omega)) (p := sO S d1 0) (by omega) (sC S) (Nat.le_refl _)
                refine eR_ild_10 dX9_swaps_137 ?_
                refine eR_icmp_le (tgt := 146) dX9_swaps_139 (by decide) (by first | exact rg_b01 _ | (unfold rg; omega)) (by first | exact rg_b01 _ | (unfold rg; omega)) (fun c139 => ?_) (fun c139 => ?_)
                · refine eR_ic dX9_swaps_146 ?_
                  refine eR_ist_n11 dX9_swaps_147 (by decide) rfl ?_
                  refine eR_ild_11 dX9_swaps_149 ?_
                  refine eR_if_ne (tgt := 162) dX9_swaps_151 (by decide) (by first | exact rg_b01 _ | (unfold rg; omega)) (fun c151 => absurd c151 (by decide)) (fun c151 => ?_)
                  refine eR_aldn_0 dX9_swaps_154 rfl ?_
                  refine eR_ild_5 dX9_swaps_155 ?_
                  refine eR_ild_6 dX9_swaps_157 ?_
                  refine eR_callVv [_, _] rfl dX9_swaps_159 ok_mX9_exchange kw_1180 rfl rfl th_205 rfl (Nat.le_of_ble_eq_true rfl) (d' := 0) (by decide) (Nat.le_of_ble_eq_true rfl) ?_
                  refine sp_exchange (i := 8 * 0 + c) (j := 8 * 0 + d1) (by omega) (by omega) ?_
                  rw [eback]
                  refine eR_ild_11 dX9_swaps_162 ?_
                  refine eR_zret dX9_swaps_164 rfl (by omega) ?_
                  exact k0 (fun q => by obtain ⟨q1, q2, q3, q4, q5, q6, q7⟩ := q; simp only [Nat.sub_zero, Nat.sub_self] at q4 q5; first | contradiction | omega)
                · refine eR_ic dX9_swaps_142 ?_
                  refine eR_goto (tgt := 147) dX9_swaps_143 (by decide) ?_
                  refine eR_ist_n11 dX9_swaps_147 (by decide) rfl ?_
                  refine eR_ild_11 dX9_swaps_149 ?_
                  refine eR_if_ne (tgt := 162) dX9_swaps_151 (by decide) (by first | exact rg_b01 _ | (unfold rg; omega)) (fun c151 => ?_) (fun c151 => absurd c151 (by decide))
                  refine eR_ild_11 dX9_swaps_162 ?_
                  refine eR_zret dX9_swaps_164 rfl (by omega) ?_
                  exact k1 ⟨by assumption, by assumption, by omega, by simp only [Nat.sub_zero, Nat.sub_self]; omega, by simp only [Nat.sub_zero, Nat.sub_self]; omega, by omega, by omega⟩
        · refine eR_ic dX9_swaps_58 ?_
          refine eR_zret dX9_swaps_59 rfl (by omega) ?_
          exact k0 (fun q => by obtain ⟨q1, q2, q3, q4, q5, q6, q7⟩ := q; simp only [Nat.sub_zero, Nat.sub_self] at q4 q5; first | contradiction | omega)
  · refine eR_bi (z := 8) dX9_swaps_0 rfl ?_
    refine eR_ildn_2 dX9_swaps_2 rfl ?_
    refine eR_imul dX9_swaps_3 ?_
    refine eR_ildn_1 dX9_swaps_4 rfl ?_
    refine eR_iadd dX9_swaps_5 ?_
    refine eX_pcI (show ((8 * 0) + ↑c : Int) = ↑(8 * 0 + c : Nat) from by omega) ?_
    refine eR_ist_n5 dX9_swaps_6 (by decide) rfl ?_
    refine eR_bi (z := 8) dX9_swaps_8 rfl ?_
    refine eR_ild_4 dX9_swaps_10 ?_
    refine eR_imul dX9_swaps_12 ?_
    refine eR_ildn_3 dX9_swaps_13 rfl ?_
    refine eR_iadd dX9_swaps_14 ?_
    refine eX_pcI (show ((8 * 1) + ↑d1 : Int) = ↑(8 * 1 + d1 : Nat) from by omega) ?_
    refine eR_ist_n6 dX9_swaps_15 (by decide) rfl ?_
    refine eR_aldn_0 dX9_swaps_17 rfl ?_
    refine eR_getR (i := 206) dX9_swaps_18 gf_X9_7 th_205 rfl ?_
    refine eR_ild_5 dX9_swaps_21 ?_
    refine eR_iald (n := (8 * 0 + c : Nat)) dX9_swaps_23 th_206 (rfl) (by omega) (by decide) ?_
    refine eX_pcI (mV_own V (by omega) (by omega)) ?_
    refine eR_ist_n7 dX9_swaps_24 (by decide) rfl ?_
    refine eR_aldn_0 dX9_swaps_26 rfl ?_
    refine eR_getR (i := 206) dX9_swaps_27 gf_X9_7 th_205 rfl ?_
    refine eR_ild_6 dX9_swaps_30 ?_
    refine eR_iald (n := (8 * 1 + d1 : Nat)) dX9_swaps_32 th_206 (rfl) (by omega) (by decide) ?_
    refine eX_pcI (mV_own V (by omega) (by omega)) ?_
    refine eR_ist_n8 dX9_swaps_33 (by decide) rfl ?_
    refine eR_aldn_0 dX9_swaps_35 rfl ?_
    refine eR_ildn_1 dX9_swaps_36 rfl ?_
    refine eR_callVi [_] rfl dX9_swaps_37 ok_mX9_isCut kw_1061 rfl rfl th_205 rfl (Nat.le_of_ble_eq_true rfl) (d' := 1) (by decide) (Nat.le_of_ble_eq_true rfl) ?_
    refine sp_isCut (c := c) B V (by omega) ?_
    refine eR_if_ne (tgt := 58) dX9_swaps_40 (by decide) (by first | exact rg_b01 _ | (unfold rg; omega)) (fun c40 => ?_) (fun c40 => ?_)
    · replace c40 := b01_ne0.mp c40
      refine eR_ic dX9_swaps_58 ?_
      refine eR_zret dX9_swaps_59 rfl (by omega) ?_
      exact k0 (fun q => by obtain ⟨q1, q2, q3, q4, q5, q6, q7⟩ := q; simp only [Nat.sub_zero, Nat.sub_self] at q4 q5; first | contradiction | omega)
    · replace c40 := b01_eq0.mp c40
      refine eR_aldn_0 dX9_swaps_43 rfl ?_
      refine eR_ildn_3 dX9_swaps_44 rfl ?_
      refine eR_callVi [_] rfl dX9_swaps_45 ok_mX9_isCut kw_1061 rfl rfl th_205 rfl (Nat.le_of_ble_eq_true rfl) (d' := 1) (by decide) (Nat.le_of_ble_eq_true rfl) ?_
      refine sp_isCut (c := d1) B V (by omega) ?_
      refine eR_if_ne (tgt := 58) dX9_swaps_48 (by decide) (by first | exact rg_b01 _ | (unfold rg; omega)) (fun c48 => ?_) (fun c48 => ?_)
      · replace c48 := b01_ne0.mp c48
        refine eR_ic dX9_swaps_58 ?_
        refine eR_zret dX9_swaps_59 rfl (by omega) ?_
        exact k0 (fun q => by obtain ⟨q1, q2, q3, q4, q5, q6, q7⟩ := q; simp only [Nat.sub_zero, Nat.sub_self] at q4 q5; first | contradiction | omega)
      · replace c48 := b01_eq0.mp c48
        refine eR_ild_7 dX9_swaps_51 ?_
        refine eR_ild_8 dX9_swaps_53 ?_
        refine eR_icmp_ne (tgt := 60) dX9_swaps_55 (by decide) (by first | exact rg_b01 _ | (unfold rg; omega)) (by first | exact rg_b01 _ | (unfold rg; omega)) (fun c55 => ?_) (fun c55 => ?_)
        · refine eR_aldn_0 dX9_swaps_60 rfl ?_
          refine eR_ild_7 dX9_swaps_61 ?_
          refine eR_callVi [_] rfl dX9_swaps_63 ok_mX9_wishOf kw_1164 rfl rfl th_205 rfl (Nat.le_of_ble_eq_true rfl) (d' := 2) (by decide) (Nat.le_of_ble_eq_true rfl) ?_
          refine sp_wishOf (p := (sO S c 0)) B V (by omega) ?_
          refine eR_ist_n9 dX9_swaps_66 (by decide) rfl ?_
          refine eR_aldn_0 dX9_swaps_68 rfl ?_
          refine eR_ild_8 dX9_swaps_69 ?_
          refine eR_callVi [_] rfl dX9_swaps_71 ok_mX9_wishOf kw_1164 rfl rfl th_205 rfl (Nat.le_of_ble_eq_true rfl) (d' := 2) (by decide) (Nat.le_of_ble_eq_true rfl) ?_
          refine sp_wishOf (p := (sO S d1 1)) B V (by omega) ?_
          refine eR_ist_n10 dX9_swaps_74 (by decide) rfl ?_
          refine eR_aldn_0 dX9_swaps_76 rfl ?_
          refine eR_ild_5 dX9_swaps_77 ?_
          refine eR_ild_6 dX9_swaps_79 ?_
          refine eR_callVv [_, _] rfl dX9_swaps_81 ok_mX9_exchange kw_1180 rfl rfl th_205 rfl (Nat.le_of_ble_eq_true rfl) (d' := 0) (by decide) (Nat.le_of_ble_eq_true rfl) ?_
          refine sp_exchange (i := 8 * 0 + c) (j := 8 * 1 + d1) (by omega) (by omega) ?_
          rw [e206]
          refine eR_aldn_0 dX9_swaps_84 rfl ?_
          refine eR_getR (i := 206) dX9_swaps_85 gf_X9_7 th_205 rfl ?_
          refine eR_ildn_1 dX9_swaps_88 rfl ?_
          refine eR_iald (n := c) dX9_swaps_89 th_206 (rfl) (by omega) (by decide) ?_
          refine eX_pcI ((V2.2.2.2.1 c (by omega)).1) ?_
          refine eR_aldn_0 dX9_swaps_90 rfl ?_
          refine eR_getR (i := 206) dX9_swaps_91 gf_X9_7 th_205 rfl ?_
          refine eR_bi (z := 8) dX9_swaps_94 rfl ?_
          refine eR_ildn_1 dX9_swaps_96 rfl ?_
          refine eR_iadd dX9_swaps_97 ?_
          refine eR_iald (n := 8 + c) dX9_swaps_98 th_206 (by omega) (by omega) (by decide) ?_
          refine eX_pcI ((V2.2.2.2.1 c (by omega)).2.1) ?_
          refine eR_icmp_eq (tgt := 146) dX9_swaps_99 (by decide) (by first | exact rg_b01 _ | (unfold rg; omega)) (by first | exact rg_b01 _ | (unfold rg; omega)) (fun c99 => ?_) (fun c99 => ?_)
          · refine eR_ic dX9_swaps_146 ?_
            refine eR_ist_n11 dX9_swaps_147 (by decide) rfl ?_
            refine eR_ild_11 dX9_swaps_149 ?_
            refine eR_if_ne (tgt := 162) dX9_swaps_151 (by decide) (by first | exact rg_b01 _ | (unfold rg; omega)) (fun c151 => absurd c151 (by decide)) (fun c151 => ?_)
            refine eR_aldn_0 dX9_swaps_154 rfl ?_
            refine eR_ild_5 dX9_swaps_155 ?_
            refine eR_ild_6 dX9_swaps_157 ?_
            refine eR_callVv [_, _] rfl dX9_swaps_159 ok_mX9_exchange kw_1180 rfl rfl th_205 rfl (Nat.le_of_ble_eq_true rfl) (d' := 0) (by decide) (Nat.le_of_ble_eq_true rfl) ?_
            refine sp_exchange (i := 8 * 0 + c) (j := 8 * 1 + d1) (by omega) (by omega) ?_
            rw [eback]
            refine eR_ild_11 dX9_swaps_162 ?_
            refine eR_zret dX9_swaps_164 rfl (by omega) ?_
            exact k0 (fun q => by obtain ⟨q1, q2, q3, q4, q5, q6, q7⟩ := q; simp only [Nat.sub_zero, Nat.sub_self] at q4 q5; first | contradiction | omega)
          · refine eR_aldn_0 dX9_swaps_102 rfl ?_
            refine eR_getR (i := 206) dX9_swaps_103 gf_X9_7 th_205 rfl ?_
            refine eR_ildn_3 dX9_swaps_106 rfl ?_
            refine eR_iald (n := d1) dX9_swaps_107 th_206 (rfl) (by omega) (by decide) ?_
            refine eX_pcI ((V2.2.2.2.1 d1 (by omega)).1) ?_
            refine eR_aldn_0 dX9_swaps_108 rfl ?_
            refine eR_getR (i := 206) dX9_swaps_109 gf_X9_7 th_205 rfl ?_
            refine eR_bi (z := 8) dX9_swaps_112 rfl ?_
            refine eR_ildn_3 dX9_swaps_114 rfl ?_
            refine eR_iadd dX9_swaps_115 ?_
            refine eR_iald (n := 8 + d1) dX9_swaps_116 th_206 (by omega) (by omega) (by decide) ?_
            refine eX_pcI ((V2.2.2.2.1 d1 (by omega)).2.1) ?_
            refine eR_icmp_eq (tgt := 146) dX9_swaps_117 (by decide) (by first | exact rg_b01 _ | (unfold rg; omega)) (by first | exact rg_b01 _ | (unfold rg; omega)) (fun c117 => ?_) (fun c117 => ?_)
            · refine eR_ic dX9_swaps_146 ?_
              refine eR_ist_n11 dX9_swaps_147 (by decide) rfl ?_
              refine eR_ild_11 dX9_swaps_149 ?_
              refine eR_if_ne (tgt := 162) dX9_swaps_151 (by decide) (by first | exact rg_b01 _ | (unfold rg; omega)) (fun c151 => absurd c151 (by decide)) (fun c151 => ?_)
              refine eR_aldn_0 dX9_swaps_154 rfl ?_
              refine eR_ild_5 dX9_swaps_155 ?_
              refine eR_ild_6 dX9_swaps_157 ?_
              refine eR_callVv [_, _] rfl dX9_swaps_159 ok_mX9_exchange kw_1180 rfl rfl th_205 rfl (Nat.le_of_ble_eq_true rfl) (d' := 0) (by decide) (Nat.le_of_ble_eq_true rfl) ?_
              refine sp_exchange (i := 8 * 0 + c) (j := 8 * 1 + d1) (by omega) (by omega) ?_
              rw [eback]
              refine eR_ild_11 dX9_swaps_162 ?_
              refine eR_zret dX9_swaps_164 rfl (by omega) ?_
              exact k0 (fun q => by obtain ⟨q1, q2, q3, q4, q5, q6, q7⟩ := q; simp only [Nat.sub_zero, Nat.sub_self] at q4 q5; first | contradiction | omega)
            · refine eR_aldn_0 dX9_swaps_120 rfl ?_
              refine eR_ild_7 dX9_swaps_121 ?_
              refine eR_callVi [_] rfl dX9_swaps_123 ok_mX9_wishOf kw_1164 rfl rfl th_205 rfl (Nat.le_of_ble_eq_true rfl) (d' := 2) (by decide) (Nat.le_of_ble_eq_true rfl) ?_
              refine sp_wishOf (S := swS S c 0 d1 1) (p := (sO S c 0)) (hB2 (by omega) (by omega)) V2 (by omega) ?_
              refine eX_pcI (show (↑(wsN (swS S c 0 d1 1) (sO S c 0) (sC (swS S c 0 d1 1))) : Int) = ↑(wsN (swS S c 0 d1 1) (sO S c 0) (sC S)) from rfl) ?_
              have lx1 := wsN_le (hB2 (by omega) (by omega)) (p := sO S c 0) (by omega) (sC S) (Nat.le_refl _)
              refine eR_ild_9 dX9_swaps_126 ?_
              refine eR_icmp_le (tgt := 146) dX9_swaps_128 (by decide) (by first | exact rg_b01 _ | (unfold rg; omega)) (by first | exact rg_b01 _ | (unfold rg; omega)) (fun c128 => ?_) (fun c128 => ?_)
              · refine eR_ic dX9_swaps_146 ?_
                refine eR_ist_n11 dX9_swaps_147 (by decide) rfl ?_
                refine eR_ild_11 dX9_swaps_149 ?_
                refine eR_if_ne (tgt := 162) dX9_swaps_151 (by decide) (by first | exact rg_b01 _ | (unfold rg; omega)) (fun c151 => absurd c151 (by decide)) (fun c151 => ?_)
                refine eR_aldn_0 dX9_swaps_154 rfl ?_
                refine eR_ild_5 dX9_swaps_155 ?_
                refine eR_ild_6 dX9_swaps_157 ?_
                refine eR_callVv [_, _] rfl dX9_swaps_159 ok_mX9_exchange kw_1180 rfl rfl th_205 rfl (Nat.le_of_ble_eq_true rfl) (d' := 0) (by decide) (Nat.le_of_ble_eq_true rfl) ?_
                refine sp_exchange (i := 8 * 0 + c) (j := 8 * 1 + d1) (by omega) (by omega) ?_
                rw [eback]
                refine eR_ild_11 dX9_swaps_162 ?_
                refine eR_zret dX9_swaps_164 rfl (by omega) ?_
                exact k0 (fun q => by obtain ⟨q1, q2, q3, q4, q5, q6, q7⟩ := q; simp only [Nat.sub_zero, Nat.sub_self] at q4 q5; first | contradiction | omega)
              · refine eR_aldn_0 dX9_swaps_131 rfl ?_
                refine eR_ild_8 dX9_swaps_132 ?_
                refine eR_callVi [_] rfl dX9_swaps_134 ok_mX9_wishOf kw_1164 rfl rfl th_205 rfl (Nat.le_of_ble_eq_true rfl) (d' := 2) (by decide) (Nat.le_of_ble_eq_true rfl) ?_
                refine sp_wishOf (S := swS S c 0 d1 1) (p := (sO S d1 1)) (hB2 (by omega) (by omega)) V2 (by omega) ?_
                refine eX_pcI (show (↑(wsN (swS S c 0 d1 1) (sO S d1 1) (sC (swS S c 0 d1 1))) : Int) = ↑(wsN (swS S c 0 d1 1) (sO S d1 1) (sC S)) from rfl) ?_
                have lx2 := wsN_le (hB2 (by omega) (by omega)) (p := sO S d1 1) (by omega) (sC S) (Nat.le_refl _)
                refine eR_ild_10 dX9_swaps_137 ?_
                refine eR_icmp_le (tgt := 146) dX9_swaps_139 (by decide) (by first | exact rg_b01 _ | (unfold rg; omega)) (by first | exact rg_b01 _ | (unfold rg; omega)) (fun c139 => ?_) (fun c139 => ?_)
                · refine eR_ic dX9_swaps_146 ?_
                  refine eR_ist_n11 dX9_swaps_147 (by decide) rfl ?_
                  refine eR_ild_11 dX9_swaps_149 ?_
                  refine eR_if_ne (tgt := 162) dX9_swaps_151 (by decide) (by first | exact rg_b01 _ | (unfold rg; omega)) (fun c151 => absurd c151 (by decide)) (fun c151 => ?_)
                  refine eR_aldn_0 dX9_swaps_154 rfl ?_
                  refine eR_ild_5 dX9_swaps_155 ?_
                  refine eR_ild_6 dX9_swaps_157 ?_
                  refine eR_callVv [_, _] rfl dX9_swaps_159 ok_mX9_exchange kw_1180 rfl rfl th_205 rfl (Nat.le_of_ble_eq_true rfl) (d' := 0) (by decide) (Nat.le_of_ble_eq_true rfl) ?_
                  refine sp_exchange (i := 8 * 0 + c) (j := 8 * 1 + d1) (by omega) (by omega) ?_
                  rw [eback]
                  refine eR_ild_11 dX9_swaps_162 ?_
                  refine eR_zret dX9_swaps_164 rfl (by omega) ?_
                  exact k0 (fun q => by obtain ⟨q1, q2, q3, q4, q5, q6, q7⟩ := q; simp only [Nat.sub_zero, Nat.sub_self] at q4 q5; first | contradiction | omega)
                · refine eR_ic dX9_swaps_142 ?_
                  refine eR_goto (tgt := 147) dX9_swaps_143 (by decide) ?_
                  refine eR_ist_n11 dX9_swaps_147 (by decide) rfl ?_
                  refine eR_ild_11 dX9_swaps_149 ?_
                  refine eR_if_ne (tgt := 162) dX9_swaps_151 (by decide) (by first | exact rg_b01 _ | (unfold rg; omega)) (fun c151 => ?_) (fun c151 => absurd c151 (by decide))
                  refine eR_ild_11 dX9_swaps_162 ?_
                  refine eR_zret dX9_swaps_164 rfl (by omega) ?_
                  exact k1 ⟨by assumption, by assumption, by omega, by simp only [Nat.sub_zero, Nat.sub_self]; omega, by simp only [Nat.sub_zero, Nat.sub_self]; omega, by omega, by omega⟩
        · refine eR_ic dX9_swaps_58 ?_
          refine eR_zret dX9_swaps_59 rfl (by omega) ?_
          exact k0 (fun q => by obtain ⟨q1, q2, q3, q4, q5, q6, q7⟩ := q; simp only [Nat.sub_zero, Nat.sub_self] at q4 q5; first | contradiction | omega)
  · refine eR_bi (z := 8) dX9_swaps_0 rfl ?_
    refine eR_ildn_2 dX9_swaps_2 rfl ?_
    refine eR_imul dX9_swaps_3 ?_
    refine eR_ildn_1 dX9_swaps_4 rfl ?_
    refine eR_iadd dX9_swaps_5 ?_
    refine eX_pcI (show ((8 * 1) + ↑c : Int) = ↑(8 * 1 + c : Nat) from by omega) ?_
    refine eR_ist_n5 dX9_swaps_6 (by decide) rfl ?_
    refine eR_bi (z := 8) dX9_swaps_8 rfl ?_
    refine eR_ild_4 dX9_swaps_10 ?_
    refine eR_imul dX9_swaps_12 ?_
    refine eR_ildn_3 dX9_swaps_13 rfl ?_
    refine eR_iadd dX9_swaps_14 ?_
    refine eX_pcI (show ((8 * 0) + ↑d1 : Int) = ↑(8 * 0 + d1 : Nat) from by omega) ?_
    refine eR_ist_n6 dX9_swaps_15 (by decide) rfl ?_
    refine eR_aldn_0 dX9_swaps_17 rfl ?_
    refine eR_getR (i := 206) dX9_swaps_18 gf_X9_7 th_205 rfl ?_
    refine eR_ild_5 dX9_swaps_21 ?_
    refine eR_iald (n := (8 * 1 + c : Nat)) dX9_swaps_23 th_206 (rfl) (by omega) (by decide) ?_
    refine eX_pcI (mV_own V (by omega) (by omega)) ?_
    refine eR_ist_n7 dX9_swaps_24 (by decide) rfl ?_
    refine eR_aldn_0 dX9_swaps_26 rfl ?_
    refine eR_getR (i := 206) dX9_swaps_27 gf_X9_7 th_205 rfl ?_
    refine eR_ild_6 dX9_swaps_30 ?_
    refine eR_iald (n := (8 * 0 + d1 : Nat)) dX9_swaps_32 th_206 (rfl) (by omega) (by decide) ?_
    refine eX_pcI (mV_own V (by omega) (by omega)) ?_
    refine eR_ist_n8 dX9_swaps_33 (by decide) rfl ?_
    refine eR_aldn_0 dX9_swaps_35 rfl ?_
    refine eR_ildn_1 dX9_swaps_36 rfl ?_
    refine eR_callVi [_] rfl dX9_swaps_37 ok_mX9_isCut kw_1061 rfl rfl th_205 rfl (Nat.le_of_ble_eq_true rfl) (d' := 1) (by decide) (Nat.le_of_ble_eq_true rfl) ?_
    refine sp_isCut (c := c) B V (by omega) ?_
    refine eR_if_ne (tgt := 58) dX9_swaps_40 (by decide) (by first | exact rg_b01 _ | (unfold rg; omega)) (fun c40 => ?_) (fun c40 => ?_)
    · replace c40 := b01_ne0.mp c40
      refine eR_ic dX9_swaps_58 ?_
      refine eR_zret dX9_swaps_59 rfl (by omega) ?_
      exact k0 (fun q => by obtain ⟨q1, q2, q3, q4, q5, q6, q7⟩ := q; simp only [Nat.sub_zero, Nat.sub_self] at q4 q5; first | contradiction | omega)
    · replace c40 := b01_eq0.mp c40
      refine eR_aldn_0 dX9_swaps_43 rfl ?_
      refine eR_ildn_3 dX9_swaps_44 rfl ?_
      refine eR_callVi [_] rfl dX9_swaps_45 ok_mX9_isCut kw_1061 rfl rfl th_205 rfl (Nat.le_of_ble_eq_true rfl) (d' := 1) (by decide) (Nat.le_of_ble_eq_true rfl) ?_
      refine sp_isCut (c := d1) B V (by omega) ?_
      refine eR_if_ne (tgt := 58) dX9_swaps_48 (by decide) (by first | exact rg_b01 _ | (unfold rg; omega)) (fun c48 => ?_) (fun c48 => ?_)
      · replace c48 := b01_ne0.mp c48
        refine eR_ic dX9_swaps_58 ?_
        refine eR_zret dX9_swaps_59 rfl (by omega) ?_
        exact k0 (fun q => by obtain ⟨q1, q2, q3, q4, q5, q6, q7⟩ := q; simp only [Nat.sub_zero, Nat.sub_self] at q4 q5; first | contradiction | omega)
      · replace c48 := b01_eq0.mp c48
        refine eR_ild_7 dX9_swaps_51 ?_
        refine eR_ild_8 dX9_swaps_53 ?_
        refine eR_icmp_ne (tgt := 60) dX9_swaps_55 (by decide) (by first | exact rg_b01 _ | (unfold rg; omega)) (by first | exact rg_b01 _ | (unfold rg; omega)) (fun c55 => ?_) (fun c55 => ?_)
        · refine eR_aldn_0 dX9_swaps_60 rfl ?_
          refine eR_ild_7 dX9_swaps_61 ?_
          refine eR_callVi [_] rfl dX9_swaps_63 ok_mX9_wishOf kw_1164 rfl rfl th_205 rfl (Nat.le_of_ble_eq_true rfl) (d' := 2) (by decide) (Nat.le_of_ble_eq_true rfl) ?_
          refine sp_wishOf (p := (sO S c 1)) B V (by omega) ?_
          refine eR_ist_n9 dX9_swaps_66 (by decide) rfl ?_
          refine eR_aldn_0 dX9_swaps_68 rfl ?_
          refine eR_ild_8 dX9_swaps_69 ?_
          refine eR_callVi [_] rfl dX9_swaps_71 ok_mX9_wishOf kw_1164 rfl rfl th_205 rfl (Nat.le_of_ble_eq_true rfl) (d' := 2) (by decide) (Nat.le_of_ble_eq_true rfl) ?_
          refine sp_wishOf (p := (sO S d1 0)) B V (by omega) ?_
          refine eR_ist_n10 dX9_swaps_74 (by decide) rfl ?_
          refine eR_aldn_0 dX9_swaps_76 rfl ?_
          refine eR_ild_5 dX9_swaps_77 ?_
          refine eR_ild_6 dX9_swaps_79 ?_
          refine eR_callVv [_, _] rfl dX9_swaps_81 ok_mX9_exchange kw_1180 rfl rfl th_205 rfl (Nat.le_of_ble_eq_true rfl) (d' := 0) (by decide) (Nat.le_of_ble_eq_true rfl) ?_
          refine sp_exchange (i := 8 * 1 + c) (j := 8 * 0 + d1) (by omega) (by omega) ?_
          rw [e206]
          refine eR_aldn_0 dX9_swaps_84 rfl ?_
          refine eR_getR (i := 206) dX9_swaps_85 gf_X9_7 th_205 rfl ?_
          refine eR_ildn_1 dX9_swaps_88 rfl ?_
          refine eR_iald (n := c) dX9_swaps_89 th_206 (rfl) (by omega) (by decide) ?_
          refine eX_pcI ((V2.2.2.2.1 c (by omega)).1) ?_
          refine eR_aldn_0 dX9_swaps_90 rfl ?_
          refine eR_getR (i := 206) dX9_swaps_91 gf_X9_7 th_205 rfl ?_
          refine eR_bi (z := 8) dX9_swaps_94 rfl ?_
          refine eR_ildn_1 dX9_swaps_96 rfl ?_
          refine eR_iadd dX9_swaps_97 ?_
          refine eR_iald (n := 8 + c) dX9_swaps_98 th_206 (by omega) (by omega) (by decide) ?_
          refine eX_pcI ((V2.2.2.2.1 c (by omega)).2.1) ?_
          refine eR_icmp_eq (tgt := 146) dX9_swaps_99 (by decide) (by first | exact rg_b01 _ | (unfold rg; omega)) (by first | exact rg_b01 _ | (unfold rg; omega)) (fun c99 => ?_) (fun c99 => ?_)
          · refine eR_ic dX9_swaps_146 ?_
            refine eR_ist_n11 dX9_swaps_147 (by decide) rfl ?_
            refine eR_ild_11 dX9_swaps_149 ?_
            refine eR_if_ne (tgt := 162) dX9_swaps_151 (by decide) (by first | exact rg_b01 _ | (unfold rg; omega)) (fun c151 => absurd c151 (by decide)) (fun c151 => ?_)
            refine eR_aldn_0 dX9_swaps_154 rfl ?_
            refine eR_ild_5 dX9_swaps_155 ?_
            refine eR_ild_6 dX9_swaps_157 ?_
            refine eR_callVv [_, _] rfl dX9_swaps_159 ok_mX9_exchange kw_1180 rfl rfl th_205 rfl (Nat.le_of_ble_eq_true rfl) (d' := 0) (by decide) (Nat.le_of_ble_eq_true rfl) ?_
            refine sp_exchange (i := 8 * 1 + c) (j := 8 * 0 + d1) (by omega) (by omega) ?_
            rw [eback]
            refine eR_ild_11 dX9_swaps_162 ?_
            refine eR_zret dX9_swaps_164 rfl (by omega) ?_
            exact k0 (fun q => by obtain ⟨q1, q2, q3, q4, q5, q6, q7⟩ := q; simp only [Nat.sub_zero, Nat.sub_self] at q4 q5; first | contradiction | omega)
          · refine eR_aldn_0 dX9_swaps_102 rfl ?_
            refine eR_getR (i := 206) dX9_swaps_103 gf_X9_7 th_205 rfl ?_
            refine eR_ildn_3 dX9_swaps_106 rfl ?_
            refine eR_iald (n := d1) dX9_swaps_107 th_206 (rfl) (by omega) (by decide) ?_
            refine eX_pcI ((V2.2.2.2.1 d1 (by omega)).1) ?_
            refine eR_aldn_0 dX9_swaps_108 rfl ?_
            refine eR_getR (i := 206) dX9_swaps_109 gf_X9_7 th_205 rfl ?_
            refine eR_bi (z := 8) dX9_swaps_112 rfl ?_
            refine eR_ildn_3 dX9_swaps_114 rfl ?_
            refine eR_iadd dX9_swaps_115 ?_
            refine eR_iald (n := 8 + d1) dX9_swaps_116 th_206 (by omega) (by omega) (by decide) ?_
            refine eX_pcI ((V2.2.2.2.1 d1 (by omega)).2.1) ?_
            refine eR_icmp_eq (tgt := 146) dX9_swaps_117 (by decide) (by first | exact rg_b01 _ | (unfold rg; omega)) (by first | exact rg_b01 _ | (unfold rg; omega)) (fun c117 => ?_) (fun c117 => ?_)
            · refine eR_ic dX9_swaps_146 ?_
              refine eR_ist_n11 dX9_swaps_147 (by decide) rfl ?_
              refine eR_ild_11 dX9_swaps_149 ?_
              refine eR_if_ne (tgt := 162) dX9_swaps_151 (by decide) (by first | exact rg_b01 _ | (unfold rg; omega)) (fun c151 => absurd c151 (by decide)) (fun c151 => ?_)
              refine eR_aldn_0 dX9_swaps_154 rfl ?_
              refine eR_ild_5 dX9_swaps_155 ?_
              refine eR_ild_6 dX9_swaps_157 ?_
              refine eR_callVv [_, _] rfl dX9_swaps_159 ok_mX9_exchange kw_1180 rfl rfl th_205 rfl (Nat.le_of_ble_eq_true rfl) (d' := 0) (by decide) (Nat.le_of_ble_eq_true rfl) ?_
              refine sp_exchange (i := 8 * 1 + c) (j := 8 * 0 + d1) (by omega) (by omega) ?_
              rw [eback]
              refine eR_ild_11 dX9_swaps_162 ?_
              refine eR_zret dX9_swaps_164 rfl (by omega) ?_
              exact k0 (fun q => by obtain ⟨q1, q2, q3, q4, q5, q6, q7⟩ := q; simp only [Nat.sub_zero, Nat.sub_self] at q4 q5; first | contradiction | omega)
            · refine eR_aldn_0 dX9_swaps_120 rfl ?_
              refine eR_ild_7 dX9_swaps_121 ?_
              refine eR_callVi [_] rfl dX9_swaps_123 ok_mX9_wishOf kw_1164 rfl rfl th_205 rfl (Nat.le_of_ble_eq_true rfl) (d' := 2) (by decide) (Nat.le_of_ble_eq_true rfl) ?_
              refine sp_wishOf (S := swS S c 1 d1 0) (p := (sO S c 1)) (hB2 (by omega) (by omega)) V2 (by omega) ?_
              refine eX_pcI (show (↑(wsN (swS S c 1 d1 0) (sO S c 1) (sC (swS S c 1 d1 0))) : Int) = ↑(wsN (swS S c 1 d1 0) (sO S c 1) (sC S)) from rfl) ?_
              have lx1 := wsN_le (hB2 (by omega) (by omega)) (p := sO S c 1) (by omega) (sC S) (Nat.le_refl _)
              refine eR_ild_9 dX9_swaps_126 ?_
              refine eR_icmp_le (tgt := 146) dX9_swaps_128 (by decide) (by first | exact rg_b01 _ | (unfold rg; omega)) (by first | exact rg_b01 _ | (unfold rg; omega)) (fun c128 => ?_) (fun c128 => ?_)
              · refine eR_ic dX9_swaps_146 ?_
                refine eR_ist_n11 dX9_swaps_147 (by decide) rfl ?_
                refine eR_ild_11 dX9_swaps_149 ?_
                refine eR_if_ne (tgt := 162) dX9_swaps_151 (by decide) (by first | exact rg_b01 _ | (unfold rg; omega)) (fun c151 => absurd c151 (by decide)) (fun c151 => ?_)
                refine eR_aldn_0 dX9_swaps_154 rfl ?_
                refine eR_ild_5 dX9_swaps_155 ?_
                refine eR_ild_6 dX9_swaps_157 ?_
                refine eR_callVv [_, _] rfl dX9_swaps_159 ok_mX9_exchange kw_1180 rfl rfl th_205 rfl (Nat.le_of_ble_eq_true rfl) (d' := 0) (by decide) (Nat.le_of_ble_eq_true rfl) ?_
                refine sp_exchange (i := 8 * 1 + c) (j := 8 * 0 + d1) (by omega) (by omega) ?_
                rw [eback]
                refine eR_ild_11 dX9_swaps_162 ?_
                refine eR_zret dX9_swaps_164 rfl (by omega) ?_
                exact k0 (fun q => by obtain ⟨q1, q2, q3, q4, q5, q6, q7⟩ := q; simp only [Nat.sub_zero, Nat.sub_self] at q4 q5; first | contradiction | omega)
              · refine eR_aldn_0 dX9_swaps_131 rfl ?_
                refine eR_ild_8 dX9_swaps_132 ?_
                refine eR_callVi [_] rfl dX9_swaps_134 ok_mX9_wishOf kw_1164 rfl rfl th_205 rfl (Nat.le_of_ble_eq_true rfl) (d' := 2) (by decide) (Nat.le_of_ble_eq_true rfl) ?_
                refine sp_wishOf (S := swS S c 1 d1 0) (p := (sO S d1 0)) (hB2 (by omega) (by omega)) V2 (by omega) ?_
                refine eX_pcI (show (↑(wsN (swS S c 1 d1 0) (sO S d1 0) (sC (swS S c 1 d1 0))) : Int) = ↑(wsN (swS S c 1 d1 0) (sO S d1 0) (sC S)) from rfl) ?_
                have lx2 := wsN_le (hB2 (by omega) (by omega)) (p := sO S d1 0) (by omega) (sC S) (Nat.le_refl _)
                refine eR_ild_10 dX9_swaps_137 ?_
                refine eR_icmp_le (tgt := 146) dX9_swaps_139 (by decide) (by first | exact rg_b01 _ | (unfold rg; omega)) (by first | exact rg_b01 _ | (unfold rg; omega)) (fun c139 => ?_) (fun c139 => ?_)
                · refine eR_ic dX9_swaps_146 ?_
                  refine eR_ist_n11 dX9_swaps_147 (by decide) rfl ?_
                  refine eR_ild_11 dX9_swaps_149 ?_
                  refine eR_if_ne (tgt := 162) dX9_swaps_151 (by decide) (by first | exact rg_b01 _ | (unfold rg; omega)) (fun c151 => absurd c151 (by decide)) (fun c151 => ?_)
                  refine eR_aldn_0 dX9_swaps_154 rfl ?_
                  refine eR_ild_5 dX9_swaps_155 ?_
                  refine eR_ild_6 dX9_swaps_157 ?_
                  refine eR_callVv [_, _] rfl dX9_swaps_159 ok_mX9_exchange kw_1180 rfl rfl th_205 rfl (Nat.le_of_ble_eq_true rfl) (d' := 0) (by decide) (Nat.le_of_ble_eq_true rfl) ?_
                  refine sp_exchange (i := 8 * 1 + c) (j := 8 * 0 + d1) (by omega) (by omega) ?_
                  rw [eback]
                  refine eR_ild_11 dX9_swaps_162 ?_
                  refine eR_zret dX9_swaps_164 rfl (by omega) ?_
                  exact k0 (fun q => by obtain ⟨q1, q2, q3, q4, q5, q6, q7⟩ := q; simp only [Nat.sub_zero, Nat.sub_self] at q4 q5; first | contradiction | omega)
                · refine eR_ic dX9_swaps_142 ?_
                  refine eR_goto (tgt := 147) dX9_swaps_143 (by decide) ?_
                  refine eR_ist_n11 dX9_swaps_147 (by decide) rfl ?_
                  refine eR_ild_11 dX9_swaps_149 ?_
                  refine eR_if_ne (tgt := 162) dX9_swaps_151 (by decide) (by first | exact rg_b01 _ | (unfold rg; omega)) (fun c151 => ?_) (fun c151 => absurd c151 (by decide))
                  refine eR_ild_11 dX9_swaps_162 ?_
                  refine eR_zret dX9_swaps_164 rfl (by omega) ?_
                  exact k1 ⟨by assumption, by assumption, by omega, by simp only [Nat.sub_zero, Nat.sub_self]; omega, by simp only [Nat.sub_zero, Nat.sub_self]; omega, by omega, by omega⟩
        · refine eR_ic dX9_swaps_58 ?_
          refine eR_zret dX9_swaps_59 rfl (by omega) ?_
          exact k0 (fun q => by obtain ⟨q1, q2, q3, q4, q5, q6, q7⟩ := q; simp only [Nat.sub_zero, Nat.sub_self] at q4 q5; first | contradiction | omega)
  · refine eR_bi (z := 8) dX9_swaps_0 rfl ?_
    refine eR_ildn_2 dX9_swaps_2 rfl ?_
    refine eR_imul dX9_swaps_3 ?_
    refine eR_ildn_1 dX9_swaps_4 rfl ?_
    refine eR_iadd dX9_swaps_5 ?_
    refine eX_pcI (show ((8 * 1) + ↑c : Int) = ↑(8 * 1 + c : Nat) from by omega) ?_
    refine eR_ist_n5 dX9_swaps_6 (by decide) rfl ?_
    refine eR_bi (z := 8) dX9_swaps_8 rfl ?_
    refine eR_ild_4 dX9_swaps_10 ?_
    refine eR_imul dX9_swaps_12 ?_
    refine eR_ildn_3 dX9_swaps_13 rfl ?_
    refine eR_iadd dX9_swaps_14 ?_
    refine eX_pcI (show ((8 * 1) + ↑d1 : Int) = ↑(8 * 1 + d1 : Nat) from by omega) ?_
    refine eR_ist_n6 dX9_swaps_15 (by decide) rfl ?_
    refine eR_aldn_0 dX9_swaps_17 rfl ?_
    refine eR_getR (i := 206) dX9_swaps_18 gf_X9_7 th_205 rfl ?_
    refine eR_ild_5 dX9_swaps_21 ?_
    refine eR_iald (n := (8 * 1 + c : Nat)) dX9_swaps_23 th_206 (rfl) (by omega) (by decide) ?_
    refine eX_pcI (mV_own V (by omega) (by omega)) ?_
    refine eR_ist_n7 dX9_swaps_24 (by decide) rfl ?_
    refine eR_aldn_0 dX9_swaps_26 rfl ?_
    refine eR_getR (i := 206) dX9_swaps_27 gf_X9_7 th_205 rfl ?_
    refine eR_ild_6 dX9_swaps_30 ?_
    refine eR_iald (n := (8 * 1 + d1 : Nat)) dX9_swaps_32 th_206 (rfl) (by omega) (by decide) ?_
    refine eX_pcI (mV_own V (by omega) (by omega)) ?_
    refine eR_ist_n8 dX9_swaps_33 (by decide) rfl ?_
    refine eR_aldn_0 dX9_swaps_35 rfl ?_
    refine eR_ildn_1 dX9_swaps_36 rfl ?_
    refine eR_callVi [_] rfl dX9_swaps_37 ok_mX9_isCut kw_1061 rfl rfl th_205 rfl (Nat.le_of_ble_eq_true rfl) (d' := 1) (by decide) (Nat.le_of_ble_eq_true rfl) ?_
    refine sp_isCut (c := c) B V (by omega) ?_
    refine eR_if_ne (tgt := 58) dX9_swaps_40 (by decide) (by first | exact rg_b01 _ | (unfold rg; omega)) (fun c40 => ?_) (fun c40 => ?_)
    · replace c40 := b01_ne0.mp c40
      refine eR_ic dX9_swaps_58 ?_
      refine eR_zret dX9_swaps_59 rfl (by omega) ?_
      exact k0 (fun q => by obtain ⟨q1, q2, q3, q4, q5, q6, q7⟩ := q; simp only [Nat.sub_zero, Nat.sub_self] at q4 q5; first | contradiction | omega)
    · replace c40 := b01_eq0.mp c40
      refine eR_aldn_0 dX9_swaps_43 rfl ?_
      refine eR_ildn_3 dX9_swaps_44 rfl ?_
      refine eR_callVi [_] rfl dX9_swaps_45 ok_mX9_isCut kw_1061 rfl rfl th_205 rfl (Nat.le_of_ble_eq_true rfl) (d' := 1) (by decide) (Nat.le_of_ble_eq_true rfl) ?_
      refine sp_isCut (c := d1) B V (by omega) ?_
      refine eR_if_ne (tgt := 58) dX9_swaps_48 (by decide) (by first | exact rg_b01 _ | (unfold rg; omega)) (fun c48 => ?_) (fun c48 => ?_)
      · replace c48 := b01_ne0.mp c48
        refine eR_ic dX9_swaps_58 ?_
        refine eR_zret dX9_swaps_59 rfl (by omega) ?_
        exact k0 (fun q => by obtain ⟨q1, q2, q3, q4, q5, q6, q7⟩ := q; simp only [Nat.sub_zero, Nat.sub_self] at q4 q5; first | contradiction | omega)
      · replace c48 := b01_eq0.mp c48
        refine eR_ild_7 dX9_swaps_51 ?_
        refine eR_ild_8 dX9_swaps_53 ?_
        refine eR_icmp_ne (tgt := 60) dX9_swaps_55 (by decide) (by first | exact rg_b01 _ | (unfold rg; omega)) (by first | exact rg_b01 _ | (unfold rg; omega)) (fun c55 => ?_) (fun c55 => ?_)
        · refine eR_aldn_0 dX9_swaps_60 rfl ?_
          refine eR_ild_7 dX9_swaps_61 ?_
          refine eR_callVi [_] rfl dX9_swaps_63 ok_mX9_wishOf kw_1164 rfl rfl th_205 rfl (Nat.le_of_ble_eq_true rfl) (d' := 2) (by decide) (Nat.le_of_ble_eq_true rfl) ?_
          refine sp_wishOf (p := (sO S c 1)) B V (by omega) ?_
          refine eR_ist_n9 dX9_swaps_66 (by decide) rfl ?_
          refine eR_aldn_0 dX9_swaps_68 rfl ?_
          refine eR_ild_8 dX9_swaps_69 ?_
          refine eR_callVi [_] rfl dX9_swaps_71 ok_mX9_wishOf kw_1164 rfl rfl th_205 rfl (Nat.le_of_ble_eq_true rfl) (d' := 2) (by decide) (Nat.le_of_ble_eq_true rfl) ?_
          refine sp_wishOf (p := (sO S d1 1)) B V (by omega) ?_
          refine eR_ist_n10 dX9_swaps_74 (by decide) rfl ?_
          refine eR_aldn_0 dX9_swaps_76 rfl ?_
          refine eR_ild_5 dX9_swaps_77 ?_
          refine eR_ild_6 dX9_swaps_79 ?_
          refine eR_callVv [_, _] rfl dX9_swaps_81 ok_mX9_exchange kw_1180 rfl rfl th_205 rfl (Nat.le_of_ble_eq_true rfl) (d' := 0) (by decide) (Nat.le_of_ble_eq_true rfl) ?_
          refine sp_exchange (i := 8 * 1 + c) (j := 8 * 1 + d1) (by omega) (by omega) ?_
          rw [e206]
          refine eR_aldn_0 dX9_swaps_84 rfl ?_
          refine eR_getR (i := 206) dX9_swaps_85 gf_X9_7 th_205 rfl ?_
          refine eR_ildn_1 dX9_swaps_88 rfl ?_
          refine eR_iald (n := c) dX9_swaps_89 th_206 (rfl) (by omega) (by decide) ?_
          refine eX_pcI ((V2.2.2.2.1 c (by omega)).1) ?_
          refine eR_aldn_0 dX9_swaps_90 rfl ?_
          refine eR_getR (i := 206) dX9_swaps_91 gf_X9_7 th_205 rfl ?_
          refine eR_bi (z := 8) dX9_swaps_94 rfl ?_
          refine eR_ildn_1 dX9_swaps_96 rfl ?_
          refine eR_iadd dX9_swaps_97 ?_
          refine eR_iald (n := 8 + c) dX9_swaps_98 th_206 (by omega) (by omega) (by decide) ?_
          refine eX_pcI ((V2.2.2.2.1 c (by omega)).2.1) ?_
          refine eR_icmp_eq (tgt := 146) dX9_swaps_99 (by decide) (by first | exact rg_b01 _ | (unfold rg; omega)) (by first | exact rg_b01 _ | (unfold rg; omega)) (fun c99 => ?_) (fun c99 => ?_)
          · refine eR_ic dX9_swaps_146 ?_
            refine eR_ist_n11 dX9_swaps_147 (by decide) rfl ?_
            refine eR_ild_11 dX9_swaps_149 ?_
            refine eR_if_ne (tgt := 162) dX9_swaps_151 (by decide) (by first | exact rg_b01 _ | (unfold rg; omega)) (fun c151 => absurd c151 (by decide)) (fun c151 => ?_)
            refine eR_aldn_0 dX9_swaps_154 rfl ?_
            refine eR_ild_5 dX9_swaps_155 ?_
            refine eR_ild_6 dX9_swaps_157 ?_
            refine eR_callVv [_, _] rfl dX9_swaps_159 ok_mX9_exchange kw_1180 rfl rfl th_205 rfl (Nat.le_of_ble_eq_true rfl) (d' := 0) (by decide) (Nat.le_of_ble_eq_true rfl) ?_
            refine sp_exchange (i := 8 * 1 + c) (j := 8 * 1 + d1) (by omega) (by omega) ?_
            rw [eback]
            refine eR_ild_11 dX9_swaps_162 ?_
            refine eR_zret dX9_swaps_164 rfl (by omega) ?_
            exact k0 (fun q => by obtain ⟨q1, q2, q3, q4, q5, q6, q7⟩ := q; simp only [Nat.sub_zero, Nat.sub_self] at q4 q5; first | contradiction | omega)
          · refine eR_aldn_0 dX9_swaps_102 rfl ?_
            refine eR_getR (i := 206) dX9_swaps_103 gf_X9_7 th_205 rfl ?_
            refine eR_ildn_3 dX9_swaps_106 rfl ?_
            refine eR_iald (n := d1) dX9_swaps_107 th_206 (rfl) (by omega) (by decide) ?_
            refine eX_pcI ((V2.2.2.2.1 d1 (by omega)).1) ?_
            refine eR_aldn_0 dX9_swaps_108 rfl ?_
            refine eR_getR (i := 206) dX9_swaps_109 gf_X9_7 th_205 rfl ?_
            refine eR_bi (z := 8) dX9_swaps_112 rfl ?_
            refine eR_ildn_3 dX9_swaps_114 rfl ?_
            refine eR_iadd dX9_swaps_115 ?_
            refine eR_iald (n := 8 + d1) dX9_swaps_116 th_206 (by omega) (by omega) (by decide) ?_
            refine eX_pcI ((V2.2.2.2.1 d1 (by omega)).2.1) ?_
            refine eR_icmp_eq (tgt := 146) dX9_swaps_117 (by decide) (by first | exact rg_b01 _ | (unfold rg; omega)) (by first | exact rg_b01 _ | (unfold rg; omega)) (fun c117 => ?_) (fun c117 => ?_)
            · refine eR_ic dX9_swaps_146 ?_
              refine eR_ist_n11 dX9_swaps_147 (by decide) rfl ?_
              refine eR_ild_11 dX9_swaps_149 ?_
              refine eR_if_ne (tgt := 162) dX9_swaps_151 (by decide) (by first | exact rg_b01 _ | (unfold rg; omega)) (fun c151 => absurd c151 (by decide)) (fun c151 => ?_)
              refine eR_aldn_0 dX9_swaps_154 rfl ?_
              refine eR_ild_5 dX9_swaps_155 ?_
              refine eR_ild_6 dX9_swaps_157 ?_
              refine eR_callVv [_, _] rfl dX9_swaps_159 ok_mX9_exchange kw_1180 rfl rfl th_205 rfl (Nat.le_of_ble_eq_true rfl) (d' := 0) (by decide) (Nat.le_of_ble_eq_true rfl) ?_
              refine sp_exchange (i := 8 * 1 + c) (j := 8 * 1 + d1) (by omega) (by omega) ?_
              rw [eback]
              refine eR_ild_11 dX9_swaps_162 ?_
              refine eR_zret dX9_swaps_164 rfl (by omega) ?_
              exact k0 (fun q => by obtain ⟨q1, q2, q3, q4, q5, q6, q7⟩ := q; simp only [Nat.sub_zero, Nat.sub_self] at q4 q5; first | contradiction | omega)
            · refine eR_aldn_0 dX9_swaps_120 rfl ?_
              refine eR_ild_7 dX9_swaps_121 ?_
              refine eR_callVi [_] rfl dX9_swaps_123 ok_mX9_wishOf kw_1164 rfl rfl th_205 rfl (Nat.le_of_ble_eq_true rfl) (d' := 2) (by decide) (Nat.le_of_ble_eq_true rfl) ?_
              refine sp_wishOf (S := swS S c 1 d1 1) (p := (sO S c 1)) (hB2 (by omega) (by omega)) V2 (by omega) ?_
              refine eX_pcI (show (↑(wsN (swS S c 1 d1 1) (sO S c 1) (sC (swS S c 1 d1 1))) : Int) = ↑(wsN (swS S c 1 d1 1) (sO S c 1) (sC S)) from rfl) ?_
              have lx1 := wsN_le (hB2 (by omega) (by omega)) (p := sO S c 1) (by omega) (sC S) (Nat.le_refl _)
              refine eR_ild_9 dX9_swaps_126 ?_
              refine eR_icmp_le (tgt := 146) dX9_swaps_128 (by decide) (by first | exact rg_b01 _ | (unfold rg; omega)) (by first | exact rg_b01 _ | (unfold rg; omega)) (fun c128 => ?_) (fun c128 => ?_)
              · refine eR_ic dX9_swaps_146 ?_
                refine eR_ist_n11 dX9_swaps_147 (by decide) rfl ?_
                refine eR_ild_11 dX9_swaps_149 ?_
                refine eR_if_ne (tgt := 162) dX9_swaps_151 (by decide) (by first | exact rg_b01 _ | (unfold rg; omega)) (fun c151 => absurd c151 (by decide)) (fun c151 => ?_)
                refine eR_aldn_0 dX9_swaps_154 rfl ?_
                refine eR_ild_5 dX9_swaps_155 ?_
                refine eR_ild_6 dX9_swaps_157 ?_
                refine eR_callVv [_, _] rfl dX9_swaps_159 ok_mX9_exchange kw_1180 rfl rfl th_205 rfl (Nat.le_of_ble_eq_true rfl) (d' := 0) (by decide) (Nat.le_of_ble_eq_true rfl) ?_
                refine sp_exchange (i := 8 * 1 + c) (j := 8 * 1 + d1) (by omega) (by omega) ?_
                rw [eback]
                refine eR_ild_11 dX9_swaps_162 ?_
                refine eR_zret dX9_swaps_164 rfl (by omega) ?_
                exact k0 (fun q => by obtain ⟨q1, q2, q3, q4, q5, q6, q7⟩ := q; simp only [Nat.sub_zero, Nat.sub_self] at q4 q5; first | contradiction | omega)
              · refine eR_aldn_0 dX9_swaps_131 rfl ?_
                refine eR_ild_8 dX9_swaps_132 ?_
                refine eR_callVi [_] rfl dX9_swaps_134 ok_mX9_wishOf kw_1164 rfl rfl th_205 rfl (Nat.le_of_ble_eq_true rfl) (d' := 2) (by decide) (Nat.le_of_ble_eq_true rfl) ?_
                refine sp_wishOf (S := swS S c 1 d1 1) (p := (sO S d1 1)) (hB2 (by omega) (by omega)) V2 (by omega) ?_
                refine eX_pcI (show (↑(wsN (swS S c 1 d1 1) (sO S d1 1) (sC (swS S c 1 d1 1))) : Int) = ↑(wsN (swS S c 1 d1 1) (sO S d1 1) (sC S)) from rfl) ?_
                have lx2 := wsN_le (hB2 (by omega) (by omega)) (p := sO S d1 1) (by omega) (sC S) (Nat.le_refl _)
                refine eR_ild_10 dX9_swaps_137 ?_
                refine eR_icmp_le (tgt := 146) dX9_swaps_139 (by decide) (by first | exact rg_b01 _ | (unfold rg; omega)) (by first | exact rg_b01 _ | (unfold rg; omega)) (fun c139 => ?_) (fun c139 => ?_)
                · refine eR_ic dX9_swaps_146 ?_
                  refine eR_ist_n11 dX9_swaps_147 (by decide) rfl ?_
                  refine eR_ild_11 dX9_swaps_149 ?_
                  refine eR_if_ne (tgt := 162) dX9_swaps_151 (by decide) (by first | exact rg_b01 _ | (unfold rg; omega)) (fun c151 => absurd c151 (by decide)) (fun c151 => ?_)
                  refine eR_aldn_0 dX9_swaps_154 rfl ?_
                  refine eR_ild_5 dX9_swaps_155 ?_
                  refine eR_ild_6 dX9_swaps_157 ?_
                  refine eR_callVv [_, _] rfl dX9_swaps_159 ok_mX9_exchange kw_1180 rfl rfl th_205 rfl (Nat.le_of_ble_eq_true rfl) (d' := 0) (by decide) (Nat.le_of_ble_eq_true rfl) ?_
                  refine sp_exchange (i := 8 * 1 + c) (j := 8 * 1 + d1) (by omega) (by omega) ?_
                  rw [eback]
                  refine eR_ild_11 dX9_swaps_162 ?_
                  refine eR_zret dX9_swaps_164 rfl (by omega) ?_
                  exact k0 (fun q => by obtain ⟨q1, q2, q3, q4, q5, q6, q7⟩ := q; simp only [Nat.sub_zero, Nat.sub_self] at q4 q5; first | contradiction | omega)
                · refine eR_ic dX9_swaps_142 ?_
                  refine eR_goto (tgt := 147) dX9_swaps_143 (by decide) ?_
                  refine eR_ist_n11 dX9_swaps_147 (by decide) rfl ?_
                  refine eR_ild_11 dX9_swaps_149 ?_
                  refine eR_if_ne (tgt := 162) dX9_swaps_151 (by decide) (by first | exact rg_b01 _ | (unfold rg; omega)) (fun c151 => ?_) (fun c151 => absurd c151 (by decide))
                  refine eR_ild_11 dX9_swaps_162 ?_
                  refine eR_zret dX9_swaps_164 rfl (by omega) ?_
                  exact k1 ⟨by assumption, by assumption, by omega, by simp only [Nat.sub_zero, Nat.sub_self]; omega, by simp only [Nat.sub_zero, Nat.sub_self]; omega, by omega, by omega⟩
        · refine eR_ic dX9_swaps_58 ?_
          refine eR_zret dX9_swaps_59 rfl (by omega) ?_
          exact k0 (fun q => by obtain ⟨q1, q2, q3, q4, q5, q6, q7⟩ := q; simp only [Nat.sub_zero, Nat.sub_self] at q4 q5; first | contradiction | omega)
end M21
