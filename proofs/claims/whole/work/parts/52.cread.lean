/-- THE TEXT in the class's cells -/
def cT (h : PH) (T : Nat → Nat) (n : Nat) : Prop := h 1 1 = (n : Int) ∧ ∀ x, x < n → h 2 x = (T x : Int)
/-- but for the place nothing has changed -/
def rA (h h1 : PH) : Prop := ∀ a i, ¬ (a = 1 ∧ i = 2) → h1 a i = h a i
/-- but for place, number's place, FAULT nothing has changed -/
def rG (h h1 : PH) : Prop := ∀ a i, ¬ (a = 1 ∧ 2 ≤ i ∧ i ≤ 5) → h1 a i = h a i
theorem rA_rf (h : PH) : rA h h := fun _ _ _ => rfl
theorem rG_rf (h : PH) : rG h h := fun _ _ _ => rfl
theorem rG_A {h h1 : PH} (p : rA h h1) : rG h h1 := fun a i q => p a i (by omega)
theorem rG_tr {h h1 h2 : PH} (p : rG h h1) (q : rG h1 h2) : rG h h2 := fun a i r => (q a i r).trans (p a i r)
theorem rG_w {h h1 : PH} {i : Nat} {z : Int} (p : rG h h1) (q : 2 ≤ i ∧ i ≤ 5) : rG h (hU h1 1 i z) := fun a j r => by rw [hU_ne2 (by omega)]; exact p a j r
theorem cT_G {h h1 : PH} {T : Nat → Nat} {n : Nat} (C : cT h T n) (p : rG h h1) : cT h1 T n := ⟨(p 1 1 (by omega)).trans C.1, fun x hx => (p 2 x (by omega)).trans (C.2 x hx)⟩
theorem rV_G {h h1 : PH} {u : Nat} {U : PU} (B : sB U.1) (R : rV h u U) (h38 : 38 ≤ u) (p : rG h h1) : rV h1 u U := rV_of B R (fun a q1 q2 => funext fun i => p a i (by omega))
section M52
variable {g : EG} {d t s u : Nat} {h h1 : PH} {Q : EQ} {S : TS} {T : Nat → Nat} {n : Nat}
theorem kl_skipBlanks (B : tB T n) (C : cT h T n) {i0 : Nat} (k : ∀ h1 : PH, rA h h1 → h1 1 2 = (sk isB T n i0 : Int) → Q .null (tau t s) h1) : ∀ m i : Nat, i + m = n → sk isB T n i = sk isB T n i0 → ∀ h1 : PH, rA h h1 → h1 1 2 = (i : Int) → eX g 0 mX4_skipBlanks 0 [(0, .ref (gA g 1))] [] (tau t s) h1 Q := by
  have hn9 := B.1
  intro m
  induction m with
  | zero =>
    intro i hi hs h1 hF hA
    have C1 : cT h1 T n := cT_G C (rG_A hF)
    refine eR_aldn_0 dX4_skipBlanks_0 rfl ?_
    refine eR_getI dX4_skipBlanks_1 gf_X4_19 th_1 rfl ?_
    refine eX_pcI (hA) ?_
    refine eR_aldn_0 dX4_skipBlanks_4 rfl ?_
    refine eR_getI dX4_skipBlanks_5 gf_X4_15 th_1 rfl ?_
    refine eX_pcI (C1.1) ?_
    refine eR_icmp_ge (tgt := 38) dX4_skipBlanks_8 (by decide) (by first | exact rg_b01 _ | (unfold rg; omega)) (by first | exact rg_b01 _ | (unfold rg; omega)) (fun c8 => ?_) (fun c8 => absurd c8 (by omega))
    refine eR_vret dX4_skipBlanks_38 rfl ?_
    exact k h1 hF (by rw [hA, ← hs, sk_ne (by omega)])
  | succ m ih =>
    intro i hi hs h1 hF hA
    have C1 : cT h1 T n := cT_G C (rG_A hF)
    have hT9 := B.2 i (by omega)
    refine eR_aldn_0 dX4_skipBlanks_0 rfl ?_
    refine eR_getI dX4_skipBlanks_1 gf_X4_19 th_1 rfl ?_
    refine eX_pcI (hA) ?_
    refine eR_aldn_0 dX4_skipBlanks_4 rfl ?_
    refine eR_getI dX4_skipBlanks_5 gf_X4_15 th_1 rfl ?_
    refine eX_pcI (C1.1) ?_
    refine eR_icmp_ge (tgt := 38) dX4_skipBlanks_8 (by decide) (by first | exact rg_b01 _ | (unfold rg; omega)) (by first | exact rg_b01 _ | (unfold rg; omega)) (fun c8 => absurd c8 (by omega)) (fun c8 => ?_)
    refine eR_aldn_0 dX4_skipBlanks_11 rfl ?_
    refine eR_getR (i := 2) dX4_skipBlanks_12 gf_X4_9 th_1 rfl ?_
    refine eR_aldn_0 dX4_skipBlanks_15 rfl ?_
    refine eR_getI dX4_skipBlanks_16 gf_X4_19 th_1 rfl ?_
    refine eX_pcI (hA) ?_
    refine eR_iald (n := i) dX4_skipBlanks_19 th_2 (rfl) (by omega) (by decide) ?_
    refine eX_pcI (C1.2 i (by omega)) ?_
    refine eR_bi (z := 32) dX4_skipBlanks_20 rfl ?_
    refine eR_icmp_ne (tgt := 38) dX4_skipBlanks_22 (by decide) (by first | exact rg_b01 _ | (unfold rg; omega)) (by first | exact rg_b01 _ | (unfold rg; omega)) (fun c22 => ?_) (fun c22 => ?_)
    · refine eR_vret dX4_skipBlanks_38 rfl ?_
      exact k h1 hF (by rw [hA, ← hs, sk_nf (isB_f (by omega))])
    · refine eR_aldn_0 dX4_skipBlanks_25 rfl ?_
      refine eR_dup dX4_skipBlanks_26 rfl ?_
      refine eR_getI dX4_skipBlanks_27 gf_X4_19 th_1 rfl ?_
      refine eX_pcI (hA) ?_
      refine eR_ic dX4_skipBlanks_30 ?_
      refine eR_iadd dX4_skipBlanks_31 ?_
      refine eR_putI dX4_skipBlanks_32 pf_X4_19 th_1 rfl ?_
      refine eR_goto (tgt := 0) dX4_skipBlanks_35 (by decide) ?_
      exact ih (i + 1) (by omega) (by rw [← hs]; exact (sk_y (by omega) (isB_t (by omega))).symm) _ (fun a j q => by rw [hU_ne2 q]; exact hF a j q) (hU_s _ _ _ _)
theorem kt_skipBlanks (B : tB T n) (C : cT h T n) {i0 : Nat} (hi : i0 ≤ n) (hA : h 1 2 = (i0 : Int)) (k : ∀ h1 : PH, rA h h1 → h1 1 2 = (sk isB T n i0 : Int) → Q .null (tau t s) h1) : eX g 0 mX4_skipBlanks 0 (lv_args 0 [.ref (gA g 1)]) [] (tau t s) h Q := by
  show eX g 0 mX4_skipBlanks 0 [(0, .ref (gA g 1))] [] (tau t s) h Q
  exact kl_skipBlanks B C k (n - i0) i0 (by omega) rfl h (rA_rf h) hA
theorem kl_skipLetters (B : tB T n) (C : cT h T n) {i0 : Nat} (k : ∀ h1 : PH, rA h h1 → h1 1 2 = (sk isL T n i0 : Int) → Q .null (tau t s) h1) : ∀ m i : Nat, i + m = n → sk isL T n i = sk isL T n i0 → ∀ h1 : PH, rA h h1 → h1 1 2 = (i : Int) → eX g 0 mX4_skipLetters 0 [(0, .ref (gA g 1))] [] (tau t s) h1 Q := by
  have hn9 := B.1
  intro m
  induction m with
  | zero =>
    intro i hi hs h1 hF hA
    have C1 : cT h1 T n := cT_G C (rG_A hF)
    refine eR_aldn_0 dX4_skipLetters_0 rfl ?_
    refine eR_getI dX4_skipLetters_1 gf_X4_19 th_1 rfl ?_
    refine eX_pcI (hA) ?_
    refine eR_aldn_0 dX4_skipLetters_4 rfl ?_
    refine eR_getI dX4_skipLetters_5 gf_X4_15 th_1 rfl ?_
    refine eX_pcI (C1.1) ?_
    refine eR_icmp_ge (tgt := 52) dX4_skipLetters_8 (by decide) (by first | exact rg_b01 _ | (unfold rg; omega)) (by first | exact rg_b01 _ | (unfold rg; omega)) (fun c8 => ?_) (fun c8 => absurd c8 (by omega))
    refine eR_vret dX4_skipLetters_52 rfl ?_
    exact k h1 hF (by rw [hA, ← hs, sk_ne (by omega)])
  | succ m ih =>
    intro i hi hs h1 hF hA
    have C1 : cT h1 T n := cT_G C (rG_A hF)
    have hT9 := B.2 i (by omega)
    refine eR_aldn_0 dX4_skipLetters_0 rfl ?_
    refine eR_getI dX4_skipLetters_1 gf_X4_19 th_1 rfl ?_
    refine eX_pcI (hA) ?_
    refine eR_aldn_0 dX4_skipLetters_4 rfl ?_
    refine eR_getI dX4_skipLetters_5 gf_X4_15 th_1 rfl ?_
    refine eX_pcI (C1.1) ?_
    refine eR_icmp_ge (tgt := 52) dX4_skipLetters_8 (by decide) (by first | exact rg_b01 _ | (unfold rg; omega)) (by first | exact rg_b01 _ | (unfold rg; omega)) (fun c8 => absurd c8 (by omega)) (fun c8 => ?_)
    refine eR_aldn_0 dX4_skipLetters_11 rfl ?_
    refine eR_getR (i := 2) dX4_skipLetters_12 gf_X4_9 th_1 rfl ?_
    refine eR_aldn_0 dX4_skipLetters_15 rfl ?_
    refine eR_getI dX4_skipLetters_16 gf_X4_19 th_1 rfl ?_
    refine eX_pcI (hA) ?_
    refine eR_iald (n := i) dX4_skipLetters_19 th_2 (rfl) (by omega) (by decide) ?_
    refine eX_pcI (C1.2 i (by omega)) ?_
    refine eR_bi (z := 97) dX4_skipLetters_20 rfl ?_
    refine eR_icmp_lt (tgt := 52) dX4_skipLetters_22 (by decide) (by first | exact rg_b01 _ | (unfold rg; omega)) (by first | exact rg_b01 _ | (unfold rg; omega)) (fun c22 => ?_) (fun c22 => ?_)
    · refine eR_vret dX4_skipLetters_52 rfl ?_
      exact k h1 hF (by rw [hA, ← hs, sk_nf (isL_f (by omega))])
    · refine eR_aldn_0 dX4_skipLetters_25 rfl ?_
      refine eR_getR (i := 2) dX4_skipLetters_26 gf_X4_9 th_1 rfl ?_
      refine eR_aldn_0 dX4_skipLetters_29 rfl ?_
      refine eR_getI dX4_skipLetters_30 gf_X4_19 th_1 rfl ?_
      refine eX_pcI (hA) ?_
      refine eR_iald (n := i) dX4_skipLetters_33 th_2 (rfl) (by omega) (by decide) ?_
      refine eX_pcI (C1.2 i (by omega)) ?_
      refine eR_bi (z := 122) dX4_skipLetters_34 rfl ?_
      refine eR_icmp_gt (tgt := 52) dX4_skipLetters_36 (by decide) (by first | exact rg_b01 _ | (unfold rg; omega)) (by first | exact rg_b01 _ | (unfold rg; omega)) (fun c36 => ?_) (fun c36 => ?_)
      · refine eR_vret dX4_skipLetters_52 rfl ?_
        exact k h1 hF (by rw [hA, ← hs, sk_nf (isL_f (by omega))])
      · refine eR_aldn_0 dX4_skipLetters_39 rfl ?_
        refine eR_dup dX4_skipLetters_40 rfl ?_
        refine eR_getI dX4_skipLetters_41 gf_X4_19 th_1 rfl ?_
        refine eX_pcI (hA) ?_
        refine eR_ic dX4_skipLetters_44 ?_
        refine eR_iadd dX4_skipLetters_45 ?_
        refine eR_putI dX4_skipLetters_46 pf_X4_19 th_1 rfl ?_
        refine eR_goto (tgt := 0) dX4_skipLetters_49 (by decide) ?_
        exact ih (i + 1) (by omega) (by rw [← hs]; exact (sk_y (by omega) (isL_t (by omega))).symm) _ (fun a j q => by rw [hU_ne2 q]; exact hF a j q) (hU_s _ _ _ _)
theorem kt_skipLetters (B : tB T n) (C : cT h T n) {i0 : Nat} (hi : i0 ≤ n) (hA : h 1 2 = (i0 : Int)) (k : ∀ h1 : PH, rA h h1 → h1 1 2 = (sk isL T n i0 : Int) → Q .null (tau t s) h1) : eX g 0 mX4_skipLetters 0 (lv_args 0 [.ref (gA g 1)]) [] (tau t s) h Q := by
  show eX g 0 mX4_skipLetters 0 [(0, .ref (gA g 1))] [] (tau t s) h Q
  exact kl_skipLetters B C k (n - i0) i0 (by omega) rfl h (rA_rf h) hA
theorem kt_fail_n {nb w : Int} (hO : h 1 3 = 0) (k : Q .null (tau t s) (hU (hU h 1 3 nb) 1 4 w)) : eX g 0 mX4_fail 0 (lv_args 0 [.ref (gA g 1), .int (zI nb), .int (zI w)]) [] (tau t s) h Q := by
  show eX g 0 mX4_fail 0 [(0, .ref (gA g 1)), (1, .int (zI nb)), (2, .int (zI w))] [] (tau t s) h Q
  refine eR_aldn_0 dX4_fail_0 rfl ?_
  refine eR_getI dX4_fail_1 gf_X4_22 th_1 rfl ?_
  refine eX_pcI (hO) ?_
  refine eR_if_ne (tgt := 17) dX4_fail_4 (by decide) (by first | exact rg_b01 _ | (unfold rg; omega)) (fun c4 => absurd c4 (by decide)) (fun c4 => ?_)
  refine eR_aldn_0 dX4_fail_7 rfl ?_
  refine eR_ildn_1 dX4_fail_8 rfl ?_
  refine eR_putI dX4_fail_9 pf_X4_22 th_1 rfl ?_
  refine eR_aldn_0 dX4_fail_12 rfl ?_
  refine eR_ildn_2 dX4_fail_13 rfl ?_
  refine eR_putI dX4_fail_14 pf_X4_25 th_1 rfl ?_
  refine eR_vret dX4_fail_17 rfl ?_
  exact k
theorem kt_fail_f {nb w : Int} {f : Nat} (hO : h 1 3 = (f : Int)) (hf : f ≠ 0) (hf1 : f < 10) (k : Q .null (tau t s) h) : eX g 0 mX4_fail 0 (lv_args 0 [.ref (gA g 1), .int (zI nb), .int (zI w)]) [] (tau t s) h Q := by
  show eX g 0 mX4_fail 0 [(0, .ref (gA g 1)), (1, .int (zI nb)), (2, .int (zI w))] [] (tau t s) h Q
  refine eR_aldn_0 dX4_fail_0 rfl ?_
  refine eR_getI dX4_fail_1 gf_X4_22 th_1 rfl ?_
  refine eX_pcI (hO) ?_
  refine eR_if_ne (tgt := 17) dX4_fail_4 (by decide) (by first | exact rg_b01 _ | (unfold rg; omega)) (fun c4 => ?_) (fun c4 => absurd c4 (by omega))
  refine eR_vret dX4_fail_17 rfl ?_
  exact k
theorem kt_ends (B : tB T n) (C : cT h T n) {i : Nat} (hi : i ≤ n) (hA : h 1 2 = (i : Int)) (hO : h 1 3 = 0) (k1 : ((sk isB T n i) < n ∧ T (sk isB T n i) = 59) → ∀ h1 : PH, rG h h1 → h1 1 2 = (((sk isB T n i) + 1 : Nat) : Int) → h1 1 3 = 0 → h1 1 4 = h 1 4 → Q (.int (zI 1)) (tau t s) h1) (k0 : ¬ ((sk isB T n i) < n ∧ T (sk isB T n i) = 59) → ∀ h1 : PH, rG h h1 → (∃ j : Nat, j ≤ n ∧ h1 1 2 = (j : Int)) → h1 1 3 = 1 → h1 1 4 = ((sk isB T n i) : Int) → Q (.int (zI 0)) (tau t s) h1) : eX g 1 mX4_clauseEnds 0 (lv_args 0 [.ref (gA g 1)]) [] (tau t s) h Q := by
  show eX g 1 mX4_clauseEnds 0 [(0, .ref (gA g 1))] [] (tau t s) h Q
  have hj9 := sk_le (f := isB) (T := T) hi
  have hn9 := B.1
  have hT9 : sk isB T n i < n → T (sk isB T n i) < 256 := fun q => B.2 _ q
  refine eR_aldn_0 dX4_clauseEnds_0 rfl ?_
  refine eR_getI dX4_clauseEnds_1 gf_X4_22 th_1 rfl ?_
  refine eX_pcI (hO) ?_
  refine eR_if_eq (tgt := 9) dX4_clauseEnds_4 (by decide) (by first | exact rg_b01 _ | (unfold rg; omega)) (fun c4 => ?_) (fun c4 => absurd c4 (by decide))
  refine eR_aldn_0 dX4_clauseEnds_9 rfl ?_
  refine eR_callVv [] rfl dX4_clauseEnds_10 ok_mX4_skipBlanks kw_365 rfl rfl th_1 rfl (Nat.le_of_ble_eq_true rfl) (d' := 0) (by decide) (Nat.le_of_ble_eq_true rfl) ?_
  refine kt_skipBlanks (i0 := i) B C hi hA (fun h1 hF hA1 => ?_)
  have C1 : cT h1 T n := cT_G C (rG_A hF)
  have hO1 : h1 1 3 = 0 := (hF 1 3 (by omega)).trans hO
  have hX1 : h1 1 4 = h 1 4 := hF 1 4 (by omega)
  refine eR_aldn_0 dX4_clauseEnds_13 rfl ?_
  refine eR_getI dX4_clauseEnds_14 gf_X4_19 th_1 rfl ?_
  refine eX_pcI (hA1) ?_
  refine eR_aldn_0 dX4_clauseEnds_17 rfl ?_
  refine eR_getI dX4_clauseEnds_18 gf_X4_15 th_1 rfl ?_
  refine eX_pcI (C1.1) ?_
  refine eR_icmp_ge (tgt := 38) dX4_clauseEnds_21 (by decide) (by first | exact rg_b01 _ | (unfold rg; omega)) (by first | exact rg_b01 _ | (unfold rg; omega)) (fun c21 => ?_) (fun c21 => ?_)
  · refine eR_aldn_0 dX4_clauseEnds_38 rfl ?_
    refine eR_ic dX4_clauseEnds_39 ?_
    refine eR_aldn_0 dX4_clauseEnds_40 rfl ?_
    refine eR_getI dX4_clauseEnds_41 gf_X4_19 th_1 rfl ?_
    refine eX_pcI (hA1) ?_
    refine eR_callVv [_, _] rfl dX4_clauseEnds_44 ok_mX4_fail kw_438 rfl rfl th_1 rfl (Nat.le_of_ble_eq_true rfl) (d' := 0) (by decide) (Nat.le_of_ble_eq_true rfl) ?_
    refine kt_fail_n hO1 ?_
    refine eR_ic dX4_clauseEnds_47 ?_
    refine eR_zret dX4_clauseEnds_48 rfl (by omega) ?_
    exact k0 (by omega) _ (rG_w (rG_w (rG_A hF) (by omega)) (by omega)) ⟨sk isB T n i, by omega, ((hU_i _ _ _ (show (2 : Nat) ≠ 4 by decide)).trans (hU_i _ _ _ (show (2 : Nat) ≠ 3 by decide))).trans hA1⟩ ((hU_i _ _ _ (show (3 : Nat) ≠ 4 by decide)).trans (hU_s _ _ _ _)) (hU_s _ _ _ _)
  · refine eR_aldn_0 dX4_clauseEnds_24 rfl ?_
    refine eR_getR (i := 2) dX4_clauseEnds_25 gf_X4_9 th_1 rfl ?_
    refine eR_aldn_0 dX4_clauseEnds_28 rfl ?_
    refine eR_getI dX4_clauseEnds_29 gf_X4_19 th_1 rfl ?_
    refine eX_pcI (hA1) ?_
    refine eR_iald (n := (sk isB T n i)) dX4_clauseEnds_32 th_2 (rfl) (by omega) (by decide) ?_
    refine eX_pcI (C1.2 (sk isB T n i) (by omega)) ?_
    refine eR_bi (z := 59) dX4_clauseEnds_33 rfl ?_
    refine eR_icmp_eq (tgt := 49) dX4_clauseEnds_35 (by decide) (by first | exact rg_b01 _ | (unfold rg; omega)) (by first | exact rg_b01 _ | (unfold rg; omega)) (fun c35 => ?_) (fun c35 => ?_)
    · refine eR_aldn_0 dX4_clauseEnds_49 rfl ?_
      refine eR_dup dX4_clauseEnds_50 rfl ?_
      refine eR_getI dX4_clauseEnds_51 gf_X4_19 th_1 rfl ?_
      refine eX_pcI (hA1) ?_
      refine eR_ic dX4_clauseEnds_54 ?_
      refine eR_iadd dX4_clauseEnds_55 ?_
      refine eR_putI dX4_clauseEnds_56 pf_X4_19 th_1 rfl ?_
      refine eR_ic dX4_clauseEnds_59 ?_
      refine eR_zret dX4_clauseEnds_60 rfl (by omega) ?_
      exact k1 ⟨by omega, by omega⟩ _ (rG_w (rG_A hF) (by omega)) (hU_s _ _ _ _) ((hU_i _ _ _ (show (3 : Nat) ≠ 2 by decide)).trans hO1) ((hU_i _ _ _ (show (4 : Nat) ≠ 2 by decide)).trans hX1)
    · refine eR_aldn_0 dX4_clauseEnds_38 rfl ?_
      refine eR_ic dX4_clauseEnds_39 ?_
      refine eR_aldn_0 dX4_clauseEnds_40 rfl ?_
      refine eR_getI dX4_clauseEnds_41 gf_X4_19 th_1 rfl ?_
      refine eX_pcI (hA1) ?_
      refine eR_callVv [_, _] rfl dX4_clauseEnds_44 ok_mX4_fail kw_438 rfl rfl th_1 rfl (Nat.le_of_ble_eq_true rfl) (d' := 0) (by decide) (Nat.le_of_ble_eq_true rfl) ?_
      refine kt_fail_n hO1 ?_
      refine eR_ic dX4_clauseEnds_47 ?_
      refine eR_zret dX4_clauseEnds_48 rfl (by omega) ?_
      exact k0 (by omega) _ (rG_w (rG_w (rG_A hF) (by omega)) (by omega)) ⟨sk isB T n i, by omega, ((hU_i _ _ _ (show (2 : Nat) ≠ 4 by decide)).trans (hU_i _ _ _ (show (2 : Nat) ≠ 3 by decide))).trans hA1⟩ ((hU_i _ _ _ (show (3 : Nat) ≠ 4 by decide)).trans (hU_s _ _ _ _)) (hU_s _ _ _ _)
theorem kt_ends_f {f : Nat} (hO : h 1 3 = (f : Int)) (hf : f ≠ 0) (hf1 : f < 10) (k : Q (.int (zI 0)) (tau t s) h) : eX g 1 mX4_clauseEnds 0 (lv_args 0 [.ref (gA g 1)]) [] (tau t s) h Q := by
  show eX g 1 mX4_clauseEnds 0 [(0, .ref (gA g 1))] [] (tau t s) h Q
  refine eR_aldn_0 dX4_clauseEnds_0 rfl ?_
  refine eR_getI dX4_clauseEnds_1 gf_X4_22 th_1 rfl ?_
  refine eX_pcI (hO) ?_
  refine eR_if_eq (tgt := 9) dX4_clauseEnds_4 (by decide) (by first | exact rg_b01 _ | (unfold rg; omega)) (fun c4 => absurd c4 (by omega)) (fun c4 => ?_)
  refine eR_ic dX4_clauseEnds_7 ?_
  refine eR_zret dX4_clauseEnds_8 rfl (by omega) ?_
  exact k
theorem kt_number_f {f : Nat} {lo hi : Int} (hO : h 1 3 = (f : Int)) (hf : f ≠ 0) (hf1 : f < 10) (k : Q (.int (zI lo)) (tau t s) h) : eX g 1 mX4_readNumber 0 (lv_args 0 [.ref (gA g 1), .int (zI lo), .int (zI hi)]) [] (tau t s) h Q := by
  show eX g 1 mX4_readNumber 0 [(0, .ref (gA g 1)), (1, .int (zI lo)), (2, .int (zI hi))] [] (tau t s) h Q
  refine eR_aldn_0 dX4_readNumber_0 rfl ?_
  refine eR_getI dX4_readNumber_1 gf_X4_22 th_1 rfl ?_
  refine eX_pcI (hO) ?_
  refine eR_if_eq (tgt := 9) dX4_readNumber_4 (by decide) (by first | exact rg_b01 _ | (unfold rg; omega)) (fun c4 => absurd c4 (by omega)) (fun c4 => ?_)
  refine eR_ildn_1 dX4_readNumber_7 rfl ?_
  refine eR_iret dX4_readNumber_8 rfl rfl ?_
  exact k
theorem kl_number (B : tB T n) (C : cT h T n) {lo hi j : Nat} (hlo : lo < 1000) (hhi : hi < 1000) (hN0 : h 1 5 = (j : Int)) (k : ∀ h1 : PH, rA h h1 → h1 1 2 = (sk isD T n j : Int) → eX g 1 mX4_readNumber 106 [(0, .ref (gA g 1)), (1, .int (zI ↑lo)), (2, .int (zI ↑hi)), (3, .int (zI (↑(vC T j (sk isD T n j - j)))))] [] (tau t s) h1 Q) : ∀ m i : Nat, i + m = n → j ≤ i → sk isD T n i = sk isD T n j → (∀ x, j ≤ x → x < i → 48 ≤ T x ∧ T x ≤ 57) → ∀ h1 : PH, rA h h1 → h1 1 2 = (i : Int) → eX g 1 mX4_readNumber 23 [(0, .ref (gA g 1)), (1, .int (zI ↑lo)), (2, .int (zI ↑hi)), (3, .int (zI (↑(vC T j (i - j)))))] [] (tau t s) h1 Q := by
  have hn9 := B.1
  intro m
  induction m with
  | zero =>
    intro i hi hji hs hd h1 hF hA
    have C1 : cT h1 T n := cT_G C (rG_A hF)
    have hN : h1 1 5 = (j : Int) := (hF 1 5 (by omega)).trans hN0
    refine eR_aldn_0 dX4_readNumber_23 rfl ?_
    refine eR_getI dX4_readNumber_24 gf_X4_19 th_1 rfl ?_
    refine eX_pcI (hA) ?_
    refine eR_aldn_0 dX4_readNumber_27 rfl ?_
    refine eR_getI dX4_readNumber_28 gf_X4_15 th_1 rfl ?_
    refine eX_pcI (C1.1) ?_
    refine eR_icmp_ge (tgt := 106) dX4_readNumber_31 (by decide) (by first | exact rg_b01 _ | (unfold rg; omega)) (by first | exact rg_b01 _ | (unfold rg; omega)) (fun c31 => ?_) (fun c31 => absurd c31 (by omega))
    have e9 : sk isD T n j = i := by rw [← hs, sk_ne (by omega)]
    rw [e9] at k
    exact k h1 hF hA
  | succ m ih =>
    intro i hi hji hs hd h1 hF hA
    have C1 : cT h1 T n := cT_G C (rG_A hF)
    have hN : h1 1 5 = (j : Int) := (hF 1 5 (by omega)).trans hN0
    have hT9 := B.2 i (by omega)
    have hv9 := (vC_le (T := T) (j := j) (i - j) (fun x hx => hd (j + x) (by omega) (by omega))).1
    refine eR_aldn_0 dX4_readNumber_23 rfl ?_
    refine eR_getI dX4_readNumber_24 gf_X4_19 th_1 rfl ?_
    refine eX_pcI (hA) ?_
    refine eR_aldn_0 dX4_readNumber_27 rfl ?_
    refine eR_getI dX4_readNumber_28 gf_X4_15 th_1 rfl ?_
    refine eX_pcI (C1.1) ?_
    refine eR_icmp_ge (tgt := 106) dX4_readNumber_31 (by decide) (by first | exact rg_b01 _ | (unfold rg; omega)) (by first | exact rg_b01 _ | (unfold rg; omega)) (fun c31 => absurd c31 (by omega)) (fun c31 => ?_)
    refine eR_aldn_0 dX4_readNumber_34 rfl ?_
    refine eR_getR (i := 2) dX4_readNumber_35 gf_X4_9 th_1 rfl ?_
    refine eR_aldn_0 dX4_readNumber_38 rfl ?_
    refine eR_getI dX4_readNumber_39 gf_X4_19 th_1 rfl ?_
    refine eX_pcI (hA) ?_
    refine eR_iald (n := i) dX4_readNumber_42 th_2 (rfl) (by omega) (by decide) ?_
    refine eX_pcI (C1.2 i (by omega)) ?_
    refine eR_bi (z := 48) dX4_readNumber_43 rfl ?_
    refine eR_icmp_lt (tgt := 106) dX4_readNumber_45 (by decide) (by first | exact rg_b01 _ | (unfold rg; omega)) (by first | exact rg_b01 _ | (unfold rg; omega)) (fun c45 => ?_) (fun c45 => ?_)
    · have e9 : sk isD T n j = i := by rw [← hs, sk_nf (isD_f (by omega))]
      rw [e9] at k
      exact k h1 hF hA
    · refine eR_aldn_0 dX4_readNumber_48 rfl ?_
      refine eR_getR (i := 2) dX4_readNumber_49 gf_X4_9 th_1 rfl ?_
      refine eR_aldn_0 dX4_readNumber_52 rfl ?_
      refine eR_getI dX4_readNumber_53 gf_X4_19 th_1 rfl ?_
      refine eX_pcI (hA) ?_
      refine eR_iald (n := i) dX4_readNumber_56 th_2 (rfl) (by omega) (by decide) ?_
      refine eX_pcI (C1.2 i (by omega)) ?_
      refine eR_bi (z := 57) dX4_readNumber_57 rfl ?_
      refine eR_icmp_gt (tgt := 106) dX4_readNumber_59 (by decide) (by first | exact rg_b01 _ | (unfold rg; omega)) (by first | exact rg_b01 _ | (unfold rg; omega)) (fun c59 => ?_) (fun c59 => ?_)
      · have e9 : sk isD T n j = i := by rw [← hs, sk_nf (isD_f (by omega))]
        rw [e9] at k
        exact k h1 hF hA
      · refine eR_aldn_0 dX4_readNumber_62 rfl ?_
        refine eR_getI dX4_readNumber_63 gf_X4_19 th_1 rfl ?_
        refine eX_pcI (hA) ?_
        refine eR_aldn_0 dX4_readNumber_66 rfl ?_
        refine eR_getI dX4_readNumber_67 gf_X4_28 th_1 rfl ?_
        refine eX_pcI (hN) ?_
        refine eR_isub dX4_readNumber_70 ?_
        refine eR_ic dX4_readNumber_71 ?_
        refine eR_icmp_ge (tgt := 93) dX4_readNumber_72 (by decide) (by first | exact rg_b01 _ | (unfold rg; omega)) (by first | exact rg_b01 _ | (unfold rg; omega)) (fun c72 => ?_) (fun c72 => ?_)
        · refine eR_aldn_0 dX4_readNumber_93 rfl ?_
          refine eR_dup dX4_readNumber_94 rfl ?_
          refine eR_getI dX4_readNumber_95 gf_X4_19 th_1 rfl ?_
          refine eX_pcI (hA) ?_
          refine eR_ic dX4_readNumber_98 ?_
          refine eR_iadd dX4_readNumber_99 ?_
          refine eR_putI dX4_readNumber_100 pf_X4_19 th_1 rfl ?_
          refine eR_goto (tgt := 23) dX4_readNumber_103 (by decide) ?_
          have hd2 : ∀ x, j ≤ x → x < i + 1 → 48 ≤ T x ∧ T x ≤ 57 := fun x q1 q2 => by
            by_cases hxi : x = i
            · subst hxi; exact ⟨by omega, by omega⟩
            · exact hd x q1 (by omega)
          have e9 : vC T j (i + 1 - j) = vC T j (i - j) := by
            rw [show i + 1 - j = (i - j) + 1 from by omega]
            show (if i - j < 3 then vC T j (i - j) * 10 + T (j + (i - j)) - 48 else vC T j (i - j)) = _
            rw [show j + (i - j) = i from by omega]
            exact if_neg (by omega)
          have e8 := ih (i + 1) (by omega) (by omega) (by rw [← hs]; exact (sk_y (by omega) (isD_t (by omega))).symm) hd2 (hU h1 1 2 (↑i + 1)) (fun a x q => by rw [hU_ne2 q]; exact hF a x q) (hU_s _ _ _ _)
          rw [e9] at e8
          exact e8
        · refine eR_ildn_3 dX4_readNumber_75 rfl ?_
          refine eR_bi (z := 10) dX4_readNumber_76 rfl ?_
          refine eR_imul dX4_readNumber_78 ?_
          refine eR_aldn_0 dX4_readNumber_79 rfl ?_
          refine eR_getR (i := 2) dX4_readNumber_80 gf_X4_9 th_1 rfl ?_
          refine eR_aldn_0 dX4_readNumber_83 rfl ?_
          refine eR_getI dX4_readNumber_84 gf_X4_19 th_1 rfl ?_
          refine eX_pcI (hA) ?_
          refine eR_iald (n := i) dX4_readNumber_87 th_2 (rfl) (by omega) (by decide) ?_
          refine eX_pcI (C1.2 i (by omega)) ?_
          refine eR_iadd dX4_readNumber_88 ?_
          refine eR_bi (z := 48) dX4_readNumber_89 rfl ?_
          refine eR_isub dX4_readNumber_91 ?_
          refine eR_istn_3 dX4_readNumber_92 rfl (by decide) rfl ?_
          refine eR_aldn_0 dX4_readNumber_93 rfl ?_
          refine eR_dup dX4_readNumber_94 rfl ?_
          refine eR_getI dX4_readNumber_95 gf_X4_19 th_1 rfl ?_
          refine eX_pcI (hA) ?_
          refine eR_ic dX4_readNumber_98 ?_
          refine eR_iadd dX4_readNumber_99 ?_
          refine eR_putI dX4_readNumber_100 pf_X4_19 th_1 rfl ?_
          refine eR_goto (tgt := 23) dX4_readNumber_103 (by decide) ?_
          have hd2 : ∀ x, j ≤ x → x < i + 1 → 48 ≤ T x ∧ T x ≤ 57 := fun x q1 q2 => by
            by_cases hxi : x = i
            · subst hxi; exact ⟨by omega, by omega⟩
            · exact hd x q1 (by omega)
          have e9 : vC T j (i + 1 - j) = (vC T j (i - j) * 10 + T i - 48) := by
            rw [show i + 1 - j = (i - j) + 1 from by omega]
            show (if i - j < 3 then vC T j (i - j) * 10 + T (j + (i - j)) - 48 else vC T j (i - j)) = _
            rw [show j + (i - j) = i from by omega]
            exact if_pos (by omega)
          have e8 := ih (i + 1) (by omega) (by omega) (by rw [← hs]; exact (sk_y (by omega) (isD_t (by omega))).symm) hd2 (hU h1 1 2 (↑i + 1)) (fun a x q => by rw [hU_ne2 q]; exact hF a x q) (hU_s _ _ _ _)
          rw [e9] at e8
          rw [show ((((↑(vC T j (i - j))) * 10) + ↑(T i)) - 48 : Int) = ((vC T j (i - j) * 10 + T i - 48 : Nat) : Int) from by omega]
          exact e8
theorem kt_number (B : tB T n) (C : cT h T n) {i lo hi : Nat} (hi9 : i ≤ n) (hlo : lo < 1000) (hhi : hi < 1000) (hA : h 1 2 = (i : Int)) (hO : h 1 3 = 0) (kf : ∀ (x : Nat × Nat) (v : Nat) (h1 : PH), num T n lo hi i = .inl x → v < 1000 → rG h h1 → (∃ j : Nat, j ≤ n ∧ h1 1 2 = (j : Int)) → h1 1 3 = (x.1 : Int) → h1 1 4 = (x.2 : Int) → Q (.int (zI ↑v)) (tau t s) h1) (kk : ∀ (x : Nat × Nat × Nat) (h1 : PH), num T n lo hi i = .inr x → rG h h1 → h1 1 2 = (x.2.2 : Int) → h1 1 5 = (x.2.1 : Int) → h1 1 3 = 0 → h1 1 4 = h 1 4 → Q (.int (zI ↑x.1)) (tau t s) h1) : eX g 1 mX4_readNumber 0 (lv_args 0 [.ref (gA g 1), .int (zI ↑lo), .int (zI ↑hi)]) [] (tau t s) h Q := by
  show eX g 1 mX4_readNumber 0 [(0, .ref (gA g 1)), (1, .int (zI ↑lo)), (2, .int (zI ↑hi))] [] (tau t s) h Q
  have hj9 := sk_le (f := isB) (T := T) hi9
  have he9 := sk_le (f := isD) (T := T) hj9.2
  have hn9 := B.1
  have hdg := (sk_sp isD T n (n - (sk isB T n i)) (sk isB T n i) (by omega)).2.2.2
  have hdg2 : ∀ x, x < (sk isD T n (sk isB T n i)) - (sk isB T n i) → 48 ≤ T ((sk isB T n i) + x) ∧ T ((sk isB T n i) + x) ≤ 57 := fun x hx => isD_iff.mp (hdg _ (by omega) (by omega))
  have hv9 := (vC_le (T := T) (j := (sk isB T n i)) ((sk isD T n (sk isB T n i)) - (sk isB T n i)) hdg2).1
  have hvv : (sk isD T n (sk isB T n i)) - (sk isB T n i) ≤ 3 → vC T (sk isB T n i) ((sk isD T n (sk isB T n i)) - (sk isB T n i)) = vD T (sk isB T n i) ((sk isD T n (sk isB T n i)) - (sk isB T n i)) := fun q => vC_vD _ q hdg2
  refine eR_aldn_0 dX4_readNumber_0 rfl ?_
  refine eR_getI dX4_readNumber_1 gf_X4_22 th_1 rfl ?_
  refine eX_pcI (hO) ?_
  refine eR_if_eq (tgt := 9) dX4_readNumber_4 (by decide) (by first | exact rg_b01 _ | (unfold rg; omega)) (fun c4 => ?_) (fun c4 => absurd c4 (by decide))
  refine eR_aldn_0 dX4_readNumber_9 rfl ?_
  refine eR_callVv [] rfl dX4_readNumber_10 ok_mX4_skipBlanks kw_365 rfl rfl th_1 rfl (Nat.le_of_ble_eq_true rfl) (d' := 0) (by decide) (Nat.le_of_ble_eq_true rfl) ?_
  refine kt_skipBlanks (i0 := i) B C hi9 hA (fun h1 hF hA1 => ?_)
  have hO1 : h1 1 3 = 0 := (hF 1 3 (by omega)).trans hO
  have hX1 : h1 1 4 = h 1 4 := hF 1 4 (by omega)
  refine eR_aldn_0 dX4_readNumber_13 rfl ?_
  refine eR_aldn_0 dX4_readNumber_14 rfl ?_
  refine eR_getI dX4_readNumber_15 gf_X4_19 th_1 rfl ?_
  refine eX_pcI (hA1) ?_
  refine eR_putI dX4_readNumber_18 pf_X4_28 th_1 rfl ?_
  refine eR_ic dX4_readNumber_21 ?_
  refine eR_istn_n3 dX4_readNumber_22 rfl (by decide) rfl ?_
  have eF : rG h (hU h1 1 5 ↑(sk isB T n i)) := rG_w (rG_A hF) (by omega)
  have KK : ∀ h2 : PH, rA (hU h1 1 5 ↑(sk isB T n i)) h2 → h2 1 2 = ((sk isD T n (sk isB T n i)) : Int) → eX g 1 mX4_readNumber 106 [(0, .ref (gA g 1)), (1, .int (zI ↑lo)), (2, .int (zI ↑hi)), (3, .int (zI (↑(vC T (sk isB T n i) ((sk isD T n (sk isB T n i)) - (sk isB T n i))))))] [] (tau t s) h2 Q := by
    intro h2 hF2 hA2
    have hG2 : rG h h2 := rG_tr eF (rG_A hF2)
    have hN2 : h2 1 5 = ((sk isB T n i) : Int) := by rw [hF2 1 5 (by omega)]; exact hU_s _ _ _ _
    have hO2 : h2 1 3 = 0 := by rw [hF2 1 3 (by omega)]; exact (hU_i _ _ _ (by decide)).trans hO1
    have hX2 : h2 1 4 = h 1 4 := by rw [hF2 1 4 (by omega)]; exact (hU_i _ _ _ (by decide)).trans hX1
    refine eR_aldn_0 dX4_readNumber_106 rfl ?_
    refine eR_getI dX4_readNumber_107 gf_X4_19 th_1 rfl ?_
    refine eX_pcI (hA2) ?_
    refine eR_aldn_0 dX4_readNumber_110 rfl ?_
    refine eR_getI dX4_readNumber_111 gf_X4_28 th_1 rfl ?_
    refine eX_pcI (hN2) ?_
    refine eR_isub dX4_readNumber_114 ?_
    refine eR_ist_n4 dX4_readNumber_115 (by decide) rfl ?_
    refine eR_ild_4 dX4_readNumber_117 ?_
    refine eR_if_ne (tgt := 134) dX4_readNumber_119 (by decide) (by first | exact rg_b01 _ | (unfold rg; omega)) (fun c119 => ?_) (fun c119 => ?_)
    · refine eR_ild_4 dX4_readNumber_134 ?_
      refine eR_ic dX4_readNumber_136 ?_
      refine eR_icmp_gt (tgt := 150) dX4_readNumber_137 (by decide) (by first | exact rg_b01 _ | (unfold rg; omega)) (by first | exact rg_b01 _ | (unfold rg; omega)) (fun c137 => ?_) (fun c137 => ?_)
      · refine eR_aldn_0 dX4_readNumber_150 rfl ?_
        refine eR_ic dX4_readNumber_151 ?_
        refine eR_aldn_0 dX4_readNumber_152 rfl ?_
        refine eR_getI dX4_readNumber_153 gf_X4_28 th_1 rfl ?_
        refine eX_pcI (hN2) ?_
        refine eR_callVv [_, _] rfl dX4_readNumber_156 ok_mX4_fail kw_438 rfl rfl th_1 rfl (Nat.le_of_ble_eq_true rfl) (d' := 0) (by decide) (Nat.le_of_ble_eq_true rfl) ?_
        refine kt_fail_n hO2 ?_
        refine eR_ildn_3 dX4_readNumber_159 rfl ?_
        refine eR_iret dX4_readNumber_160 rfl rfl ?_
        have e9 : num T n lo hi i = .inl (2, (sk isB T n i)) := by
          unfold num
          rw [if_neg (by omega)]
          exact if_pos (by
            by_cases q : 3 < (sk isD T n (sk isB T n i)) - (sk isB T n i)
            · exact Or.inl q
            · rw [← hvv (by omega)]; omega)
        exact kf _ _ _ e9 hv9 (rG_w (rG_w hG2 (by omega)) (by omega)) ⟨(sk isD T n (sk isB T n i)), by omega, ((hU_i _ _ _ (show (2 : Nat) ≠ 4 by decide)).trans (hU_i _ _ _ (show (2 : Nat) ≠ 3 by decide))).trans hA2⟩ ((hU_i _ _ _ (show (3 : Nat) ≠ 4 by decide)).trans (hU_s _ _ _ _)) (hU_s _ _ _ _)
      · refine eR_ildn_3 dX4_readNumber_140 rfl ?_
        refine eR_ildn_1 dX4_readNumber_141 rfl ?_
        refine eR_icmp_lt (tgt := 150) dX4_readNumber_142 (by decide) (by first | exact rg_b01 _ | (unfold rg; omega)) (by first | exact rg_b01 _ | (unfold rg; omega)) (fun c142 => ?_) (fun c142 => ?_)
        · refine eR_aldn_0 dX4_readNumber_150 rfl ?_
          refine eR_ic dX4_readNumber_151 ?_
          refine eR_aldn_0 dX4_readNumber_152 rfl ?_
          refine eR_getI dX4_readNumber_153 gf_X4_28 th_1 rfl ?_
          refine eX_pcI (hN2) ?_
          refine eR_callVv [_, _] rfl dX4_readNumber_156 ok_mX4_fail kw_438 rfl rfl th_1 rfl (Nat.le_of_ble_eq_true rfl) (d' := 0) (by decide) (Nat.le_of_ble_eq_true rfl) ?_
          refine kt_fail_n hO2 ?_
          refine eR_ildn_3 dX4_readNumber_159 rfl ?_
          refine eR_iret dX4_readNumber_160 rfl rfl ?_
          have e9 : num T n lo hi i = .inl (2, (sk isB T n i)) := by
            unfold num
            rw [if_neg (by omega)]
            exact if_pos (by
              by_cases q : 3 < (sk isD T n (sk isB T n i)) - (sk isB T n i)
              · exact Or.inl q
              · rw [← hvv (by omega)]; omega)
          exact kf _ _ _ e9 hv9 (rG_w (rG_w hG2 (by omega)) (by omega)) ⟨(sk isD T n (sk isB T n i)), by omega, ((hU_i _ _ _ (show (2 : Nat) ≠ 4 by decide)).trans (hU_i _ _ _ (show (2 : Nat) ≠ 3 by decide))).trans hA2⟩ ((hU_i _ _ _ (show (3 : Nat) ≠ 4 by decide)).trans (hU_s _ _ _ _)) (hU_s _ _ _ _)
        · refine eR_ildn_3 dX4_readNumber_145 rfl ?_
          refine eR_ildn_2 dX4_readNumber_146 rfl ?_
          refine eR_icmp_le (tgt := 159) dX4_readNumber_147 (by decide) (by first | exact rg_b01 _ | (unfold rg; omega)) (by first | exact rg_b01 _ | (unfold rg; omega)) (fun c147 => ?_) (fun c147 => ?_)
          · refine eR_ildn_3 dX4_readNumber_159 rfl ?_
            refine eR_iret dX4_readNumber_160 rfl rfl ?_
            have e9 : num T n lo hi i = .inr (vC T (sk isB T n i) ((sk isD T n (sk isB T n i)) - (sk isB T n i)), (sk isB T n i), (sk isD T n (sk isB T n i))) := by
              unfold num
              rw [if_neg (by omega), if_neg (by rw [← hvv (by omega)]; omega), ← hvv (by omega)]
            exact kk _ h2 e9 hG2 hA2 hN2 hO2 hX2
          · refine eR_aldn_0 dX4_readNumber_150 rfl ?_
            refine eR_ic dX4_readNumber_151 ?_
            refine eR_aldn_0 dX4_readNumber_152 rfl ?_
            refine eR_getI dX4_readNumber_153 gf_X4_28 th_1 rfl ?_
            refine eX_pcI (hN2) ?_
            refine eR_callVv [_, _] rfl dX4_readNumber_156 ok_mX4_fail kw_438 rfl rfl th_1 rfl (Nat.le_of_ble_eq_true rfl) (d' := 0) (by decide) (Nat.le_of_ble_eq_true rfl) ?_
            refine kt_fail_n hO2 ?_
            refine eR_ildn_3 dX4_readNumber_159 rfl ?_
            refine eR_iret dX4_readNumber_160 rfl rfl ?_
            have e9 : num T n lo hi i = .inl (2, (sk isB T n i)) := by
              unfold num
              rw [if_neg (by omega)]
              exact if_pos (by
                by_cases q : 3 < (sk isD T n (sk isB T n i)) - (sk isB T n i)
                · exact Or.inl q
                · rw [← hvv (by omega)]; omega)
            exact kf _ _ _ e9 hv9 (rG_w (rG_w hG2 (by omega)) (by omega)) ⟨(sk isD T n (sk isB T n i)), by omega, ((hU_i _ _ _ (show (2 : Nat) ≠ 4 by decide)).trans (hU_i _ _ _ (show (2 : Nat) ≠ 3 by decide))).trans hA2⟩ ((hU_i _ _ _ (show (3 : Nat) ≠ 4 by decide)).trans (hU_s _ _ _ _)) (hU_s _ _ _ _)
    · refine eR_aldn_0 dX4_readNumber_122 rfl ?_
      refine eR_ic dX4_readNumber_123 ?_
      refine eR_aldn_0 dX4_readNumber_124 rfl ?_
      refine eR_getI dX4_readNumber_125 gf_X4_28 th_1 rfl ?_
      refine eX_pcI (hN2) ?_
      refine eR_callVv [_, _] rfl dX4_readNumber_128 ok_mX4_fail kw_438 rfl rfl th_1 rfl (Nat.le_of_ble_eq_true rfl) (d' := 0) (by decide) (Nat.le_of_ble_eq_true rfl) ?_
      refine kt_fail_n hO2 ?_
      refine eR_goto (tgt := 159) dX4_readNumber_131 (by decide) ?_
      refine eR_ildn_3 dX4_readNumber_159 rfl ?_
      refine eR_iret dX4_readNumber_160 rfl rfl ?_
      have e9 : num T n lo hi i = .inl (1, (sk isB T n i)) := by
        unfold num
        exact if_pos (by omega)
      exact kf _ _ _ e9 hv9 (rG_w (rG_w hG2 (by omega)) (by omega)) ⟨(sk isD T n (sk isB T n i)), by omega, ((hU_i _ _ _ (show (2 : Nat) ≠ 4 by decide)).trans (hU_i _ _ _ (show (2 : Nat) ≠ 3 by decide))).trans hA2⟩ ((hU_i _ _ _ (show (3 : Nat) ≠ 4 by decide)).trans (hU_s _ _ _ _)) (hU_s _ _ _ _)
  have e7 := kl_number (h := hU h1 1 5 ↑(sk isB T n i)) (lo := lo) (hi := hi) (g := g) (t := t) (s := s) (Q := Q) B (cT_G C eF) hlo hhi (hU_s _ _ _ _) KK (n - (sk isB T n i)) (sk isB T n i) (by omega) (Nat.le_refl _) rfl (fun x q1 q2 => by omega) _ (rA_rf _) ((hU_i _ _ _ (show (2 : Nat) ≠ 5 by decide)).trans hA1)
  rw [show (sk isB T n i) - (sk isB T n i) = 0 from Nat.sub_self _] at e7
  exact e7
end M52
