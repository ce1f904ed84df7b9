/-- the town in the cells of a Town -/
def cV (h : PH) (u : Nat) (S : TS) : Prop := h u 0 = (sP S : Int) ∧ h u 1 = (sC S : Int) ∧ h u 2 = (sE S : Int) ∧ h u 4 = (sF S : Int) ∧ h u 5 = (sK S : Int) ∧ (∀ c, c < sC S → h (u + 2 + c) 0 = (sO S c 0 : Int) ∧ h (u + 2 + c) 1 = (sO S c 1 : Int) ∧ h (u + 10) c = (sW S c : Int)) ∧
  (∀ e, e < sE S → h (u + 12 + e) 0 = (sR S e 0 : Int) ∧ h (u + 12 + e) 1 = (sR S e 1 : Int) ∧ h (u + 12 + e) 2 = (sR S e 2 : Int) ∧ h (u + 12 + e) 3 = (sR S e 3 : Int)) ∧
  (∀ p hour, p < 8 → hour < 24 → h (u + 23 + p) hour = whereIs S p hour) ∧ (∀ p q, p < sP S → q < sP S → h (u + 32 + p) q = (sL S p q : Int)) ∧
  ∃ x : Nat, h u 7 = (x : Int) ∧ x < 2 ^ 24 ∧ ∀ hour, hour < 24 → x.testBit hour = true → 1 ≤ hour ∧ ∀ p, p < sP S → whereIs S p hour = whereIs S p (hour - 1)
theorem cV_own {h : PH} {u : Nat} {S : TS} (V : cV h u S) {c k : Nat} (hc : c < sC S) (hk : k < 2) : h (u + 2 + c) k = (sO S c k : Int) := by
  have w := V.2.2.2.2.2.1 c hc
  rcases (show k = 0 ∨ k = 1 by omega) with rfl | rfl
  · exact w.1
  · exact w.2.1
theorem cV_err {h : PH} {u : Nat} {S : TS} (V : cV h u S) {e k : Nat} (he : e < sE S) (hk : k < 4) : h (u + 12 + e) k = (sR S e k : Int) := by
  have w := V.2.2.2.2.2.2.1 e he
  rcases (show k = 0 ∨ k = 1 ∨ k = 2 ∨ k = 3 by omega) with rfl | rfl | rfl | rfl
  · exact w.1
  · exact w.2.1
  · exact w.2.2.1
  · exact w.2.2.2
theorem cV_of {h h' : PH} {u : Nat} {S : TS} (B : sB S) (V : cV h u S) (e : ∀ a, u ≤ a → a < u + 41 → h' a = h a) : cV h' u S := by
  obtain ⟨v1, v2, v3, v4, v5, v6, v7, v8, v9, x, v10, v11⟩ := V
  have hC8 := B.2.1
  have hE10 := B.2.2.1
  have hP8 := B.1
  refine ⟨?_, ?_, ?_, ?_, ?_, fun c hc => ?_, fun y hy => ?_, fun p q hp hq => ?_, fun p q hp hq => ?_, x, ?_, v11⟩
  · rw [e u (by omega) (by omega)]; exact v1
  · rw [e u (by omega) (by omega)]; exact v2
  · rw [e u (by omega) (by omega)]; exact v3
  · rw [e u (by omega) (by omega)]; exact v4
  · rw [e u (by omega) (by omega)]; exact v5
  · rw [e (u + 2 + c) (by omega) (by omega), e (u + 10) (by omega) (by omega)]; exact v6 c hc
  · rw [e (u + 12 + y) (by omega) (by omega)]; exact v7 y hy
  · rw [e (u + 23 + p) (by omega) (by omega)]; exact v8 p q hp hq
  · rw [e (u + 32 + p) (by omega) (by omega)]; exact v9 p q hp hq
  · rw [e u (by omega) (by omega)]; exact v10
/-- but for the cells from lo to hi nothing has changed -/
def ofR (lo hi : Nat) (h h' : PH) : Prop := ∀ a, ¬ (lo ≤ a ∧ a < hi) → h' a = h a
theorem ofR_rf (lo hi : Nat) (h : PH) : ofR lo hi h h := fun _ _ => rfl
theorem ofR_tr {lo hi : Nat} {h h' h2 : PH} (a : ofR lo hi h h') (b : ofR lo hi h' h2) : ofR lo hi h h2 := fun x q => (b x q).trans (a x q)
theorem ofR_w {lo hi a i : Nat} {z : Int} {h h' : PH} (p : ofR lo hi h h') (q : lo ≤ a ∧ a < hi) : ofR lo hi h (hU h' a i z) := fun x q1 => by
  rw [hU_a h' i z (by omega)]
  exact p x q1
theorem ofR_mono {lo hi lo2 hi2 : Nat} {h h' : PH} (p : ofR lo hi h h') (q : lo2 ≤ lo ∧ hi ≤ hi2) : ofR lo2 hi2 h h' := fun x q1 => p x (by omega)
theorem cV_R {h h' : PH} {u : Nat} {S : TS} (B : sB S) (V : cV h u S) {lo hi : Nat} (p : ofR lo hi h h') (q : hi ≤ u) : cV h' u S := cV_of B V (fun a h1 h2 => p a (by omega))
/-- HOURS in which both owners are OUT, as bits -/
def boS (S : TS) (c : Nat) : Nat → Nat
  | 0 => 0
  | k + 1 => boS S c k ||| (if bothO S c k then 2 ^ k else 0)
theorem boS_lt (S : TS) (c : Nat) : ∀ k, boS S c k < 2 ^ k := by
  intro k
  induction k with
  | zero => exact (by decide : 0 < 2 ^ 0)
  | succ k ih =>
    unfold boS
    have h1 : 2 ^ k < 2 ^ (k + 1) := Nat.pow_lt_pow_right (by omega) (by omega)
    refine Nat.or_lt_two_pow (by omega) ?_
    split <;> omega
def weN (S : TS) (c ch : Nat) : Nat := if ch = 3 ∨ (sK S).testBit c = true then sW S c / 2 else sW S c
section M41
variable {g : EG} {d t s u : Nat} {h h1 : PH} {Q : EQ} {S : TS}
theorem tn_hasPerson (T : isTn (tau t s) u) (B : sB S) (V : cV h u S) {p : Int} (hp : rg p) (k : Q (.int (zI (b01 (0 ≤ p ∧ p ≤ ↑(sP S) - 1)))) (tau t s) h) : eX g 0 mX6_hasPerson 0 (lv_args 0 [.ref (gA g u), .int (zI p)]) [] (tau t s) h Q := by
  show eX g 0 mX6_hasPerson 0 [(0, .ref (gA g u)), (1, .int (zI p))] [] (tau t s) h Q
  have hP8 := B.1
  have hC8 := B.2.1
  have hE10 := B.2.2.1
  have hF99 := B.2.2.2.2.2.2.1
  refine eR_ildn_1 dX6_hasPerson_0 rfl ?_
  refine eR_if_lt (tgt := 16) dX6_hasPerson_1 (by decide) (by first | assumption | (unfold rg; omega)) (fun c1 => ?_) (fun c1 => ?_)
  · refine eR_ic dX6_hasPerson_16 ?_
    refine eR_zret dX6_hasPerson_17 rfl (by omega) ?_
    rw [show (b01 (0 ≤ p ∧ p ≤ ↑(sP S) - 1) : Int) = 0 from by first | exact b01_t (by omega) | exact b01_f (by omega)] at k; exact k
  · refine eR_ildn_1 dX6_hasPerson_4 rfl ?_
    refine eR_aldn_0 dX6_hasPerson_5 rfl ?_
    refine eR_getI dX6_hasPerson_6 gf_X6_35 T.1 rfl ?_
    refine eX_pcI (V.1) ?_
    refine eR_icmp_ge (tgt := 16) dX6_hasPerson_9 (by decide) (by first | assumption | (unfold rg; omega)) (by first | assumption | (unfold rg; omega)) (fun c9 => ?_) (fun c9 => ?_)
    · refine eR_ic dX6_hasPerson_16 ?_
      refine eR_zret dX6_hasPerson_17 rfl (by omega) ?_
      rw [show (b01 (0 ≤ p ∧ p ≤ ↑(sP S) - 1) : Int) = 0 from by first | exact b01_t (by omega) | exact b01_f (by omega)] at k; exact k
    · refine eR_ic dX6_hasPerson_12 ?_
      refine eR_goto (tgt := 17) dX6_hasPerson_13 (by decide) ?_
      refine eR_zret dX6_hasPerson_17 rfl (by omega) ?_
      rw [show (b01 (0 ≤ p ∧ p ≤ ↑(sP S) - 1) : Int) = 1 from by first | exact b01_t (by omega) | exact b01_f (by omega)] at k; exact k
theorem tn_hasCoat (T : isTn (tau t s) u) (B : sB S) (V : cV h u S) {p : Int} (hp : rg p) (k : Q (.int (zI (b01 (0 ≤ p ∧ p ≤ ↑(sC S) - 1)))) (tau t s) h) : eX g 0 mX6_hasCoat 0 (lv_args 0 [.ref (gA g u), .int (zI p)]) [] (tau t s) h Q := by
  show eX g 0 mX6_hasCoat 0 [(0, .ref (gA g u)), (1, .int (zI p))] [] (tau t s) h Q
  have hP8 := B.1
  have hC8 := B.2.1
  have hE10 := B.2.2.1
  have hF99 := B.2.2.2.2.2.2.1
  refine eR_ildn_1 dX6_hasCoat_0 rfl ?_
  refine eR_if_lt (tgt := 16) dX6_hasCoat_1 (by decide) (by first | assumption | (unfold rg; omega)) (fun c1 => ?_) (fun c1 => ?_)
  · refine eR_ic dX6_hasCoat_16 ?_
    refine eR_zret dX6_hasCoat_17 rfl (by omega) ?_
    rw [show (b01 (0 ≤ p ∧ p ≤ ↑(sC S) - 1) : Int) = 0 from by first | exact b01_t (by omega) | exact b01_f (by omega)] at k; exact k
  · refine eR_ildn_1 dX6_hasCoat_4 rfl ?_
    refine eR_aldn_0 dX6_hasCoat_5 rfl ?_
    refine eR_getI dX6_hasCoat_6 gf_X6_39 T.1 rfl ?_
    refine eX_pcI (V.2.1) ?_
    refine eR_icmp_ge (tgt := 16) dX6_hasCoat_9 (by decide) (by first | assumption | (unfold rg; omega)) (by first | assumption | (unfold rg; omega)) (fun c9 => ?_) (fun c9 => ?_)
    · refine eR_ic dX6_hasCoat_16 ?_
      refine eR_zret dX6_hasCoat_17 rfl (by omega) ?_
      rw [show (b01 (0 ≤ p ∧ p ≤ ↑(sC S) - 1) : Int) = 0 from by first | exact b01_t (by omega) | exact b01_f (by omega)] at k; exact k
    · refine eR_ic dX6_hasCoat_12 ?_
      refine eR_goto (tgt := 17) dX6_hasCoat_13 (by decide) ?_
      refine eR_zret dX6_hasCoat_17 rfl (by omega) ?_
      rw [show (b01 (0 ≤ p ∧ p ≤ ↑(sC S) - 1) : Int) = 1 from by first | exact b01_t (by omega) | exact b01_f (by omega)] at k; exact k
theorem tn_isCut (T : isTn (tau t s) u) (B : sB S) (V : cV h u S) {c : Nat} (hc : c < 31) (k : Q (.int (zI (b01 ((sK S).testBit c = true)))) (tau t s) h) : eX g 0 mX6_isCut 0 (lv_args 0 [.ref (gA g u), .int (zI ↑c)]) [] (tau t s) h Q := by
  show eX g 0 mX6_isCut 0 [(0, .ref (gA g u)), (1, .int (zI ↑c))] [] (tau t s) h Q
  have hk := sB_cut B
  refine eR_aldn_0 dX6_isCut_0 rfl ?_
  refine eR_getI dX6_isCut_1 gf_X6_51 T.1 rfl ?_
  refine eX_pcI (V.2.2.2.2.1) ?_
  refine eR_ildn_1 dX6_isCut_4 rfl ?_
  refine eR_ishr dX6_isCut_5 ?_
  refine eR_ic dX6_isCut_6 ?_
  refine eR_iand dX6_isCut_7 ?_
  refine eX_pcI (show (zAnd (zShr ↑(sK S) ↑c) 1 : Int) = b01 ((sK S).testBit c = true) from zBit_nat (a := sK S) (k := c) (by omega) (by omega)) ?_
  refine eR_if_eq (tgt := 15) dX6_isCut_8 (by decide) (by first | exact rg_b01 _ | (unfold rg; omega)) (fun c8 => ?_) (fun c8 => ?_)
  · replace c8 := b01_eq0.mp c8
    refine eR_ic dX6_isCut_15 ?_
    refine eR_zret dX6_isCut_16 rfl (by omega) ?_
    rw [show (b01 ((sK S).testBit c = true) : Int) = 0 from by first | exact b01_t (by first | assumption | omega) | exact b01_f (by first | assumption | omega)] at k; exact k
  · replace c8 := b01_ne0.mp c8
    refine eR_ic dX6_isCut_11 ?_
    refine eR_goto (tgt := 16) dX6_isCut_12 (by decide) ?_
    refine eR_zret dX6_isCut_16 rfl (by omega) ?_
    rw [show (b01 ((sK S).testBit c = true) : Int) = 1 from by first | exact b01_t (by first | assumption | omega) | exact b01_f (by first | assumption | omega)] at k; exact k
theorem tn_isLike (T : isTn (tau t s) u) (B : sB S) (V : cV h u S) {x : Nat} (hx : h u 7 = (x : Int)) (hx1 : x < 2 ^ 24) {c : Nat} (hc : c < 24) (k : Q (.int (zI (b01 (x.testBit c = true)))) (tau t s) h) : eX g 0 mX6_isLikeHourBefore 0 (lv_args 0 [.ref (gA g u), .int (zI ↑c)]) [] (tau t s) h Q := by
  show eX g 0 mX6_isLikeHourBefore 0 [(0, .ref (gA g u)), (1, .int (zI ↑c))] [] (tau t s) h Q
  refine eR_aldn_0 dX6_isLikeHourBefore_0 rfl ?_
  refine eR_getI dX6_isLikeHourBefore_1 gf_X6_58 T.1 rfl ?_
  refine eX_pcI (hx) ?_
  refine eR_ildn_1 dX6_isLikeHourBefore_4 rfl ?_
  refine eR_ishr dX6_isLikeHourBefore_5 ?_
  refine eR_ic dX6_isLikeHourBefore_6 ?_
  refine eR_iand dX6_isLikeHourBefore_7 ?_
  refine eX_pcI (show (zAnd (zShr ↑x ↑c) 1 : Int) = b01 ((x).testBit c = true) from zBit_nat (a := x) (k := c) (by omega) (by omega)) ?_
  refine eR_if_eq (tgt := 15) dX6_isLikeHourBefore_8 (by decide) (by first | exact rg_b01 _ | (unfold rg; omega)) (fun c8 => ?_) (fun c8 => ?_)
  · replace c8 := b01_eq0.mp c8
    refine eR_ic dX6_isLikeHourBefore_15 ?_
    refine eR_zret dX6_isLikeHourBefore_16 rfl (by omega) ?_
    rw [show (b01 (x.testBit c = true) : Int) = 0 from by first | exact b01_t (by first | assumption | omega) | exact b01_f (by first | assumption | omega)] at k; exact k
  · replace c8 := b01_ne0.mp c8
    refine eR_ic dX6_isLikeHourBefore_11 ?_
    refine eR_goto (tgt := 16) dX6_isLikeHourBefore_12 (by decide) ?_
    refine eR_zret dX6_isLikeHourBefore_16 rfl (by omega) ?_
    rw [show (b01 (x.testBit c = true) : Int) = 1 from by first | exact b01_t (by first | assumption | omega) | exact b01_f (by first | assumption | omega)] at k; exact k
theorem tl_countOut (T : isTn (tau t s) u) (B : sB S) (V : cV h u S) {hour : Nat} (hh : hour < 24) (k : Q (.int (zI ↑(outN S hour (sP S)))) (tau t s) h) : ∀ n p : Nat, p + n = sP S → eX g 0 mX6_countOut 4 [(0, .ref (gA g u)), (1, .int (zI ↑hour)), (2, .int (zI ↑(outN S hour p))), (3, .int (zI ↑p))] [] (tau t s) h Q := by
  have hP8 := B.1
  have hC8 := B.2.1
  have hE10 := B.2.2.1
  have hF99 := B.2.2.2.2.2.2.1
  intro n
  induction n with
  | zero =>
    intro p hx9
    refine eR_ildn_3 dX6_countOut_4 rfl ?_
    refine eR_aldn_0 dX6_countOut_5 rfl ?_
    refine eR_getI dX6_countOut_6 gf_X6_35 T.1 rfl ?_
    refine eX_pcI (V.1) ?_
    refine eR_icmp_ge (tgt := 33) dX6_countOut_9 (by decide) (by first | exact rg_b01 _ | (unfold rg; omega)) (by first | exact rg_b01 _ | (unfold rg; omega)) (fun c9 => ?_) (fun c9 => absurd c9 (by omega))
    refine eR_ildn_2 dX6_countOut_33 rfl ?_
    refine eR_iret dX6_countOut_34 rfl rfl ?_
    have e9 : p = sP S := by omega
    subst e9
    exact k
  | succ n ih =>
    intro p hx9
    have hw9 := whereIs_rg B p hour
    have ho9 := outN_le S hour p
    refine eR_ildn_3 dX6_countOut_4 rfl ?_
    refine eR_aldn_0 dX6_countOut_5 rfl ?_
    refine eR_getI dX6_countOut_6 gf_X6_35 T.1 rfl ?_
    refine eX_pcI (V.1) ?_
    refine eR_icmp_ge (tgt := 33) dX6_countOut_9 (by decide) (by first | exact rg_b01 _ | (unfold rg; omega)) (by first | exact rg_b01 _ | (unfold rg; omega)) (fun c9 => absurd c9 (by omega)) (fun c9 => ?_)
    refine eR_aldn_0 dX6_countOut_12 rfl ?_
    refine eR_getR (i := u + 22) dX6_countOut_13 gf_X6_23 T.1 rfl ?_
    refine eR_ildn_3 dX6_countOut_16 rfl ?_
    refine eR_aald3 (n := p) (i := u + 23 + p) dX6_countOut_17 T.2.2.2.2.2.2.1 (rfl) (by omega) (by decide) (rowsK_at (by omega)) ?_
    refine eR_ildn_1 dX6_countOut_18 rfl ?_
    refine eR_iald (n := hour) dX6_countOut_19 (T.2.2.2.2.2.2.2.1 p (by omega)) (rfl) (by omega) (by decide) ?_
    refine eX_pcI (V.2.2.2.2.2.2.2.1 p hour (by omega) (by omega)) ?_
    refine eR_ic dX6_countOut_20 ?_
    refine eR_icmp_eq (tgt := 27) dX6_countOut_21 (by decide) (by first | exact rg_b01 _ | (unfold rg; omega)) (by first | exact rg_b01 _ | (unfold rg; omega)) (fun c21 => ?_) (fun c21 => ?_)
    · refine eR_iinc_3 dX6_countOut_27 (by decide) rfl ?_
      refine eR_goto (tgt := 4) dX6_countOut_30 (by decide) ?_
      rw [show (↑(outN S hour p) : Int) = ↑(outN S hour (p + 1)) from by rw [outN]; split <;> omega]
      exact ih (p + 1) (by omega)
    · refine eR_iinc_2 dX6_countOut_24 (by decide) rfl ?_
      refine eR_iinc_3 dX6_countOut_27 (by decide) rfl ?_
      refine eR_goto (tgt := 4) dX6_countOut_30 (by decide) ?_
      rw [show (↑(outN S hour p) + 1 : Int) = ↑(outN S hour (p + 1)) from by rw [outN]; split <;> omega]
      exact ih (p + 1) (by omega)
theorem tn_countOut (T : isTn (tau t s) u) (B : sB S) (V : cV h u S) {hour : Nat} (hh : hour < 24) (k : Q (.int (zI ↑(outN S hour (sP S)))) (tau t s) h) : eX g 0 mX6_countOut 0 (lv_args 0 [.ref (gA g u), .int (zI ↑hour)]) [] (tau t s) h Q := by
  show eX g 0 mX6_countOut 0 [(0, .ref (gA g u)), (1, .int (zI ↑hour))] [] (tau t s) h Q
  refine eR_ic dX6_countOut_0 ?_
  refine eR_istn_n2 dX6_countOut_1 rfl (by decide) rfl ?_
  refine eR_ic dX6_countOut_2 ?_
  refine eR_istn_n3 dX6_countOut_3 rfl (by decide) rfl ?_
  exact tl_countOut T B V hh k (sP S) 0 (by omega)
theorem tl_hours (T : isTn (tau t s) u) (B : sB S) (V : cV h u S) {c : Nat} (hc : c < sC S) (k : Q (.int (zI ↑(boS S c 24))) (tau t s) h) : ∀ n i : Nat, i + n = 24 → eX g 0 mX6_hoursOfBothOut 34 [(0, .ref (gA g u)), (1, .int (zI ↑c)), (2, .ref (gA g (u + 23 + sO S c 0))), (3, .ref (gA g (u + 23 + sO S c 1))), (4, .int (zI ↑(boS S c i))), (5, .int (zI ↑i))] [] (tau t s) h Q := by
  have hP8 := B.1
  have hC8 := B.2.1
  have hE10 := B.2.2.1
  have hF99 := B.2.2.2.2.2.2.1
  have ho9 := B.2.2.2.1 c hc
  have hw0 := fun i => whereIs_rg B (sO S c 0) i
  have hw1 := fun i => whereIs_rg B (sO S c 1) i
  intro n
  induction n with
  | zero =>
    intro i hx9
    refine eR_ild_5 dX6_hoursOfBothOut_34 ?_
    refine eR_bi (z := 24) dX6_hoursOfBothOut_36 rfl ?_
    refine eR_icmp_ge (tgt := 72) dX6_hoursOfBothOut_38 (by decide) (by first | exact rg_b01 _ | (unfold rg; omega)) (by first | exact rg_b01 _ | (unfold rg; omega)) (fun c38 => ?_) (fun c38 => absurd c38 (by omega))
    refine eR_ild_4 dX6_hoursOfBothOut_72 ?_
    refine eR_iret dX6_hoursOfBothOut_74 rfl rfl ?_
    have e9 : i = 24 := by omega
    subst e9
    exact k
  | succ n ih =>
    intro i hx9
    have hb9 := boS_lt S c i
    have hb8 : 2 ^ i ≤ 2 ^ 23 := Nat.pow_le_pow_right (by omega) (by omega)
    have hw2 := hw0 i
    have hw3 := hw1 i
    refine eR_ild_5 dX6_hoursOfBothOut_34 ?_
    refine eR_bi (z := 24) dX6_hoursOfBothOut_36 rfl ?_
    refine eR_icmp_ge (tgt := 72) dX6_hoursOfBothOut_38 (by decide) (by first | exact rg_b01 _ | (unfold rg; omega)) (by first | exact rg_b01 _ | (unfold rg; omega)) (fun c38 => absurd c38 (by omega)) (fun c38 => ?_)
    refine eR_aldn_2 dX6_hoursOfBothOut_41 rfl ?_
    refine eR_ild_5 dX6_hoursOfBothOut_42 ?_
    refine eR_iald (n := i) dX6_hoursOfBothOut_44 (T.2.2.2.2.2.2.2.1 (sO S c 0) (by omega)) (rfl) (by omega) (by decide) ?_
    refine eX_pcI (V.2.2.2.2.2.2.2.1 (sO S c 0) i (by omega) (by omega)) ?_
    refine eR_ic dX6_hoursOfBothOut_45 ?_
    refine eR_icmp_eq (tgt := 66) dX6_hoursOfBothOut_46 (by decide) (by first | exact rg_b01 _ | (unfold rg; omega)) (by first | exact rg_b01 _ | (unfold rg; omega)) (fun c46 => ?_) (fun c46 => ?_)
    · refine eR_iinc_5 dX6_hoursOfBothOut_66 (by decide) rfl ?_
      refine eR_goto (tgt := 34) dX6_hoursOfBothOut_69 (by decide) ?_
      refine eX_lv (lv2 := List.take 6 _) (fun q hq => List.mem_of_mem_take hq) ?_
      rw [show boS S c i = boS S c (i + 1) from by rw [boS, if_neg (by unfold bothO; omega), Nat.or_zero]]
      exact ih (i + 1) (by omega)
    · refine eR_aldn_3 dX6_hoursOfBothOut_49 rfl ?_
      refine eR_ild_5 dX6_hoursOfBothOut_50 ?_
      refine eR_iald (n := i) dX6_hoursOfBothOut_52 (T.2.2.2.2.2.2.2.1 (sO S c 1) (by omega)) (rfl) (by omega) (by decide) ?_
      refine eX_pcI (V.2.2.2.2.2.2.2.1 (sO S c 1) i (by omega) (by omega)) ?_
      refine eR_ic dX6_hoursOfBothOut_53 ?_
      refine eR_icmp_eq (tgt := 66) dX6_hoursOfBothOut_54 (by decide) (by first | exact rg_b01 _ | (unfold rg; omega)) (by first | exact rg_b01 _ | (unfold rg; omega)) (fun c54 => ?_) (fun c54 => ?_)
      · refine eR_iinc_5 dX6_hoursOfBothOut_66 (by decide) rfl ?_
        refine eR_goto (tgt := 34) dX6_hoursOfBothOut_69 (by decide) ?_
        refine eX_lv (lv2 := List.take 6 _) (fun q hq => List.mem_of_mem_take hq) ?_
        rw [show boS S c i = boS S c (i + 1) from by rw [boS, if_neg (by unfold bothO; omega), Nat.or_zero]]
        exact ih (i + 1) (by omega)
      · refine eR_ild_4 dX6_hoursOfBothOut_57 ?_
        refine eR_ic dX6_hoursOfBothOut_59 ?_
        refine eR_ild_5 dX6_hoursOfBothOut_60 ?_
        refine eR_ishl dX6_hoursOfBothOut_62 ?_
        refine eX_pcI (show (zShl 1 ↑i : Int) = ↑(2 ^ i : Nat) from by have := zShl_nat (a := 1) (k := i) (by omega) (by omega); rw [Nat.one_mul] at this; exact this) ?_
        refine eR_ior dX6_hoursOfBothOut_63 ?_
        refine eX_pcI (show (zOr ↑(boS S c i) ↑(2 ^ i : Nat) : Int) = ↑(boS S c i ||| 2 ^ i : Nat) from zOr_nat (by omega) (by omega)) ?_
        refine eR_ist_4 dX6_hoursOfBothOut_64 (by decide) rfl ?_
        refine eR_iinc_5 dX6_hoursOfBothOut_66 (by decide) rfl ?_
        refine eR_goto (tgt := 34) dX6_hoursOfBothOut_69 (by decide) ?_
        refine eX_lv (lv2 := List.take 6 _) (fun q hq => List.mem_of_mem_take hq) ?_
        rw [show (↑(boS S c i ||| 2 ^ i : Nat) : Int) = ↑(boS S c (i + 1)) from by rw [boS, if_pos (by unfold bothO; omega)]]
        exact ih (i + 1) (by omega)
theorem tn_hours (T : isTn (tau t s) u) (B : sB S) (V : cV h u S) {c : Nat} (hc : c < sC S) (k : Q (.int (zI ↑(boS S c 24))) (tau t s) h) : eX g 0 mX6_hoursOfBothOut 0 (lv_args 0 [.ref (gA g u), .int (zI ↑c)]) [] (tau t s) h Q := by
  show eX g 0 mX6_hoursOfBothOut 0 [(0, .ref (gA g u)), (1, .int (zI ↑c))] [] (tau t s) h Q
  have hP8 := B.1
  have hC8 := B.2.1
  have hE10 := B.2.2.1
  have hF99 := B.2.2.2.2.2.2.1
  have ho9 := B.2.2.2.1 c hc
  refine eR_aldn_0 dX6_hoursOfBothOut_0 rfl ?_
  refine eR_getR (i := u + 22) dX6_hoursOfBothOut_1 gf_X6_23 T.1 rfl ?_
  refine eR_aldn_0 dX6_hoursOfBothOut_4 rfl ?_
  refine eR_getR (i := u + 1) dX6_hoursOfBothOut_5 gf_X6_11 T.1 rfl ?_
  refine eR_ildn_1 dX6_hoursOfBothOut_8 rfl ?_
  refine eR_aald3 (n := c) (i := u + 2 + c) dX6_hoursOfBothOut_9 T.2.1 (rfl) (by omega) (by decide) (rowsK_at (by omega)) ?_
  refine eR_ic dX6_hoursOfBothOut_10 ?_
  refine eR_iald (n := 0) dX6_hoursOfBothOut_11 (T.2.2.1 c (by omega)) (rfl) (by decide) (by decide) ?_
  refine eX_pcI ((V.2.2.2.2.2.1 c (by omega)).1) ?_
  refine eR_aald3 (n := (sO S c 0)) (i := u + 23 + (sO S c 0)) dX6_hoursOfBothOut_12 T.2.2.2.2.2.2.1 (rfl) (by omega) (by decide) (rowsK_at (by omega)) ?_
  refine eR_astn_n2 dX6_hoursOfBothOut_13 rfl (by decide) rfl ?_
  refine eR_aldn_0 dX6_hoursOfBothOut_14 rfl ?_
  refine eR_getR (i := u + 22) dX6_hoursOfBothOut_15 gf_X6_23 T.1 rfl ?_
  refine eR_aldn_0 dX6_hoursOfBothOut_18 rfl ?_
  refine eR_getR (i := u + 1) dX6_hoursOfBothOut_19 gf_X6_11 T.1 rfl ?_
  refine eR_ildn_1 dX6_hoursOfBothOut_22 rfl ?_
  refine eR_aald3 (n := c) (i := u + 2 + c) dX6_hoursOfBothOut_23 T.2.1 (rfl) (by omega) (by decide) (rowsK_at (by omega)) ?_
  refine eR_ic dX6_hoursOfBothOut_24 ?_
  refine eR_iald (n := 1) dX6_hoursOfBothOut_25 (T.2.2.1 c (by omega)) (rfl) (by decide) (by decide) ?_
  refine eX_pcI ((V.2.2.2.2.2.1 c (by omega)).2.1) ?_
  refine eR_aald3 (n := (sO S c 1)) (i := u + 23 + (sO S c 1)) dX6_hoursOfBothOut_26 T.2.2.2.2.2.2.1 (rfl) (by omega) (by decide) (rowsK_at (by omega)) ?_
  refine eR_astn_n3 dX6_hoursOfBothOut_27 rfl (by decide) rfl ?_
  refine eR_ic dX6_hoursOfBothOut_28 ?_
  refine eR_ist_n4 dX6_hoursOfBothOut_29 (by decide) rfl ?_
  refine eR_ic dX6_hoursOfBothOut_31 ?_
  refine eR_ist_n5 dX6_hoursOfBothOut_32 (by decide) rfl ?_
  exact tl_hours T B V hc k 24 0 (by omega)
theorem tn_ownersOf (T : isTn (tau t s) u) (B : sB S) (V : cV h u S) {c : Nat} (hc : c < sC S) (k : Q (.int (zI ↑(bthN S c))) (tau t s) h) : eX g 0 mX6_ownersOf 0 (lv_args 0 [.ref (gA g u), .int (zI ↑c)]) [] (tau t s) h Q := by
  show eX g 0 mX6_ownersOf 0 [(0, .ref (gA g u)), (1, .int (zI ↑c))] [] (tau t s) h Q
  have hP8 := B.1
  have hC8 := B.2.1
  have hE10 := B.2.2.1
  have hF99 := B.2.2.2.2.2.2.1
  have ho9 := B.2.2.2.1 c hc
  have hl0 : 2 ^ sO S c 0 ≤ 2 ^ 7 := Nat.pow_le_pow_right (by omega) (by omega)
  have hl1 : 2 ^ sO S c 1 ≤ 2 ^ 7 := Nat.pow_le_pow_right (by omega) (by omega)
  refine eR_ic dX6_ownersOf_0 ?_
  refine eR_aldn_0 dX6_ownersOf_1 rfl ?_
  refine eR_getR (i := u + 1) dX6_ownersOf_2 gf_X6_11 T.1 rfl ?_
  refine eR_ildn_1 dX6_ownersOf_5 rfl ?_
  refine eR_aald3 (n := c) (i := u + 2 + c) dX6_ownersOf_6 T.2.1 (rfl) (by omega) (by decide) (rowsK_at (by omega)) ?_
  refine eR_ic dX6_ownersOf_7 ?_
  refine eR_iald (n := 0) dX6_ownersOf_8 (T.2.2.1 c (by omega)) (rfl) (by decide) (by decide) ?_
  refine eX_pcI ((V.2.2.2.2.2.1 c (by omega)).1) ?_
  refine eR_ishl dX6_ownersOf_9 ?_
  refine eX_pcI (show (zShl 1 ↑(sO S c 0) : Int) = ↑(2 ^ sO S c 0 : Nat) from by have := zShl_nat (a := 1) (k := sO S c 0) (by omega) (by omega); rw [Nat.one_mul] at this; exact this) ?_
  refine eR_ic dX6_ownersOf_10 ?_
  refine eR_aldn_0 dX6_ownersOf_11 rfl ?_
  refine eR_getR (i := u + 1) dX6_ownersOf_12 gf_X6_11 T.1 rfl ?_
  refine eR_ildn_1 dX6_ownersOf_15 rfl ?_
  refine eR_aald3 (n := c) (i := u + 2 + c) dX6_ownersOf_16 T.2.1 (rfl) (by omega) (by decide) (rowsK_at (by omega)) ?_
  refine eR_ic dX6_ownersOf_17 ?_
  refine eR_iald (n := 1) dX6_ownersOf_18 (T.2.2.1 c (by omega)) (rfl) (by decide) (by decide) ?_
  refine eX_pcI ((V.2.2.2.2.2.1 c (by omega)).2.1) ?_
  refine eR_ishl dX6_ownersOf_19 ?_
  refine eX_pcI (show (zShl 1 ↑(sO S c 1) : Int) = ↑(2 ^ sO S c 1 : Nat) from by have := zShl_nat (a := 1) (k := sO S c 1) (by omega) (by omega); rw [Nat.one_mul] at this; exact this) ?_
  refine eR_ior dX6_ownersOf_20 ?_
  refine eX_pcI (show (zOr ↑(2 ^ sO S c 0 : Nat) ↑(2 ^ sO S c 1 : Nat) : Int) = ↑(bthN S c) from zOr_nat (by omega) (by omega)) ?_
  refine eR_iret dX6_ownersOf_21 rfl rfl ?_
  exact k
theorem tn_maySell (T : isTn (tau t s) u) (B : sB S) (V : cV h u S) {c p : Nat} (hc : c < sC S) (hp : p < 8) {sl : Int} (k : Q (.int (zI (b01 (okBuy S c p)))) (tau t s) h) : eX g 1 mX6_maySell 0 (lv_args 0 [.ref (gA g u), .int (zI ↑c), .int (zI sl), .int (zI ↑p)]) [] (tau t s) h Q := by
  show eX g 1 mX6_maySell 0 [(0, .ref (gA g u)), (1, .int (zI ↑c)), (2, .int (zI sl)), (3, .int (zI ↑p))] [] (tau t s) h Q
  have hP8 := B.1
  have hC8 := B.2.1
  have hE10 := B.2.2.1
  have hF99 := B.2.2.2.2.2.2.1
  have ho9 := B.2.2.2.1 c hc
  refine eR_aldn_0 dX6_maySell_0 rfl ?_
  refine eR_ildn_1 dX6_maySell_1 rfl ?_
  refine eR_callVi [_] rfl dX6_maySell_2 ok_mX6_isCut kw_547 rfl rfl T.1 rfl (Nat.le_of_ble_eq_true rfl) (d' := 0) (by decide) (Nat.le_of_ble_eq_true rfl) ?_
  refine tn_isCut (c := c) T B V (by omega) ?_
  refine eR_if_ne (tgt := 36) dX6_maySell_5 (by decide) (by first | exact rg_b01 _ | (unfold rg; omega)) (fun c5 => ?_) (fun c5 => ?_)
  · replace c5 := b01_ne0.mp c5
    refine eR_ic dX6_maySell_36 ?_
    refine eR_zret dX6_maySell_37 rfl (by omega) ?_
    rw [show (b01 (okBuy S c p) : Int) = 0 from by first | exact b01_t ⟨by assumption, by omega, by omega⟩ | exact b01_f (by rintro ⟨q1, q2, q3⟩; first | contradiction | omega)] at k; exact k
  · replace c5 := b01_eq0.mp c5
    refine eR_aldn_0 dX6_maySell_8 rfl ?_
    refine eR_getR (i := u + 1) dX6_maySell_9 gf_X6_11 T.1 rfl ?_
    refine eR_ildn_1 dX6_maySell_12 rfl ?_
    refine eR_aald3 (n := c) (i := u + 2 + c) dX6_maySell_13 T.2.1 (rfl) (by omega) (by decide) (rowsK_at (by omega)) ?_
    refine eR_ic dX6_maySell_14 ?_
    refine eR_iald (n := 0) dX6_maySell_15 (T.2.2.1 c (by omega)) (rfl) (by decide) (by decide) ?_
    refine eX_pcI ((V.2.2.2.2.2.1 c (by omega)).1) ?_
    refine eR_ildn_3 dX6_maySell_16 rfl ?_
    refine eR_icmp_eq (tgt := 36) dX6_maySell_17 (by decide) (by first | exact rg_b01 _ | (unfold rg; omega)) (by first | exact rg_b01 _ | (unfold rg; omega)) (fun c17 => ?_) (fun c17 => ?_)
    · refine eR_ic dX6_maySell_36 ?_
      refine eR_zret dX6_maySell_37 rfl (by omega) ?_
      rw [show (b01 (okBuy S c p) : Int) = 0 from by first | exact b01_t ⟨by assumption, by omega, by omega⟩ | exact b01_f (by rintro ⟨q1, q2, q3⟩; first | contradiction | omega)] at k; exact k
    · refine eR_aldn_0 dX6_maySell_20 rfl ?_
      refine eR_getR (i := u + 1) dX6_maySell_21 gf_X6_11 T.1 rfl ?_
      refine eR_ildn_1 dX6_maySell_24 rfl ?_
      refine eR_aald3 (n := c) (i := u + 2 + c) dX6_maySell_25 T.2.1 (rfl) (by omega) (by decide) (rowsK_at (by omega)) ?_
      refine eR_ic dX6_maySell_26 ?_
      refine eR_iald (n := 1) dX6_maySell_27 (T.2.2.1 c (by omega)) (rfl) (by decide) (by decide) ?_
      refine eX_pcI ((V.2.2.2.2.2.1 c (by omega)).2.1) ?_
      refine eR_ildn_3 dX6_maySell_28 rfl ?_
      refine eR_icmp_eq (tgt := 36) dX6_maySell_29 (by decide) (by first | exact rg_b01 _ | (unfold rg; omega)) (by first | exact rg_b01 _ | (unfold rg; omega)) (fun c29 => ?_) (fun c29 => ?_)
      · refine eR_ic dX6_maySell_36 ?_
        refine eR_zret dX6_maySell_37 rfl (by omega) ?_
        rw [show (b01 (okBuy S c p) : Int) = 0 from by first | exact b01_t ⟨by assumption, by omega, by omega⟩ | exact b01_f (by rintro ⟨q1, q2, q3⟩; first | contradiction | omega)] at k; exact k
      · refine eR_ic dX6_maySell_32 ?_
        refine eR_goto (tgt := 37) dX6_maySell_33 (by decide) ?_
        refine eR_zret dX6_maySell_37 rfl (by omega) ?_
        rw [show (b01 (okBuy S c p) : Int) = 1 from by first | exact b01_t ⟨by assumption, by omega, by omega⟩ | exact b01_f (by rintro ⟨q1, q2, q3⟩; first | contradiction | omega)] at k; exact k
theorem tn_warmthEach (T : isTn (tau t s) u) (B : sB S) (V : cV h u S) {c ch : Nat} (hc : c < sC S) (hch : ch < 4) (k : Q (.int (zI ↑(weN S c ch))) (tau t s) h) : eX g 1 mX6_warmthEach 0 (lv_args 0 [.ref (gA g u), .int (zI ↑c), .int (zI ↑ch)]) [] (tau t s) h Q := by
  show eX g 1 mX6_warmthEach 0 [(0, .ref (gA g u)), (1, .int (zI ↑c)), (2, .int (zI ↑ch))] [] (tau t s) h Q
  have hP8 := B.1
  have hC8 := B.2.1
  have hE10 := B.2.2.1
  have hF99 := B.2.2.2.2.2.2.1
  have ho9 := B.2.2.2.1 c hc
  refine eR_ildn_2 dX6_warmthEach_0 rfl ?_
  refine eR_ic dX6_warmthEach_1 ?_
  refine eR_icmp_eq (tgt := 13) dX6_warmthEach_2 (by decide) (by first | exact rg_b01 _ | (unfold rg; omega)) (by first | exact rg_b01 _ | (unfold rg; omega)) (fun c2 => ?_) (fun c2 => ?_)
  · refine eR_aldn_0 dX6_warmthEach_13 rfl ?_
    refine eR_getR (i := u + 10) dX6_warmthEach_14 gf_X6_16 T.1 rfl ?_
    refine eR_ildn_1 dX6_warmthEach_17 rfl ?_
    refine eR_iald (n := c) dX6_warmthEach_18 T.2.2.2.1 (rfl) (by omega) (by decide) ?_
    refine eX_pcI ((V.2.2.2.2.2.1 c (by omega)).2.2) ?_
    refine eR_ic dX6_warmthEach_19 ?_
    refine eR_idiv dX6_warmthEach_20 (by first | exact rg_b01 _ | (unfold rg; omega)) (by first | exact rg_b01 _ | (unfold rg; omega)) (by omega) ?_
    refine eX_pcI (show (Int.tdiv ↑(sW S c) 2 : Int) = ↑(sW S c / 2) from rfl) ?_
    refine eR_goto (tgt := 30) dX6_warmthEach_21 (by decide) ?_
    refine eR_iret dX6_warmthEach_30 rfl rfl ?_
    rw [show weN S c ch = (sW S c / 2) from by unfold weN; first | exact if_pos (Or.inl (by omega)) | exact if_pos (Or.inr (by assumption)) | exact if_neg (by rintro (q | q); omega; contradiction)] at k
    exact k
  · refine eR_aldn_0 dX6_warmthEach_5 rfl ?_
    refine eR_ildn_1 dX6_warmthEach_6 rfl ?_
    refine eR_callVi [_] rfl dX6_warmthEach_7 ok_mX6_isCut kw_547 rfl rfl T.1 rfl (Nat.le_of_ble_eq_true rfl) (d' := 0) (by decide) (Nat.le_of_ble_eq_true rfl) ?_
    refine tn_isCut (c := c) T B V (by omega) ?_
    refine eR_if_eq (tgt := 24) dX6_warmthEach_10 (by decide) (by first | exact rg_b01 _ | (unfold rg; omega)) (fun c10 => ?_) (fun c10 => ?_)
    · replace c10 := b01_eq0.mp c10
      refine eR_aldn_0 dX6_warmthEach_24 rfl ?_
      refine eR_getR (i := u + 10) dX6_warmthEach_25 gf_X6_16 T.1 rfl ?_
      refine eR_ildn_1 dX6_warmthEach_28 rfl ?_
      refine eR_iald (n := c) dX6_warmthEach_29 T.2.2.2.1 (rfl) (by omega) (by decide) ?_
      refine eX_pcI ((V.2.2.2.2.2.1 c (by omega)).2.2) ?_
      refine eR_iret dX6_warmthEach_30 rfl rfl ?_
      rw [show weN S c ch = (sW S c) from by unfold weN; first | exact if_pos (Or.inl (by omega)) | exact if_pos (Or.inr (by assumption)) | exact if_neg (by rintro (q | q); omega; contradiction)] at k
      exact k
    · replace c10 := b01_ne0.mp c10
      refine eR_aldn_0 dX6_warmthEach_13 rfl ?_
      refine eR_getR (i := u + 10) dX6_warmthEach_14 gf_X6_16 T.1 rfl ?_
      refine eR_ildn_1 dX6_warmthEach_17 rfl ?_
      refine eR_iald (n := c) dX6_warmthEach_18 T.2.2.2.1 (rfl) (by omega) (by decide) ?_
      refine eX_pcI ((V.2.2.2.2.2.1 c (by omega)).2.2) ?_
      refine eR_ic dX6_warmthEach_19 ?_
      refine eR_idiv dX6_warmthEach_20 (by first | exact rg_b01 _ | (unfold rg; omega)) (by first | exact rg_b01 _ | (unfold rg; omega)) (by omega) ?_
      refine eX_pcI (show (Int.tdiv ↑(sW S c) 2 : Int) = ↑(sW S c / 2) from rfl) ?_
      refine eR_goto (tgt := 30) dX6_warmthEach_21 (by decide) ?_
      refine eR_iret dX6_warmthEach_30 rfl rfl ?_
      rw [show weN S c ch = (sW S c / 2) from by unfold weN; first | exact if_pos (Or.inl (by omega)) | exact if_pos (Or.inr (by assumption)) | exact if_neg (by rintro (q | q); omega; contradiction)] at k
      exact k
theorem tn_wearers (T : isTn (tau t s) u) (B : sB S) (V : cV h u S) {c ch hour : Nat} (hc : c < sC S) (hch : ch < 4) (hh : hour < 24) (k : Q (.int (zI (clad S hour c ch))) (tau t s) h) : eX g 1 mX6_wearers 0 (lv_args 0 [.ref (gA g u), .int (zI ↑c), .int (zI ↑ch), .int (zI ↑hour)]) [] (tau t s) h Q := by
  show eX g 1 mX6_wearers 0 [(0, .ref (gA g u)), (1, .int (zI ↑c)), (2, .int (zI ↑ch)), (3, .int (zI ↑hour))] [] (tau t s) h Q
  have hP8 := B.1
  have hC8 := B.2.1
  have hE10 := B.2.2.1
  have hF99 := B.2.2.2.2.2.2.1
  have ho9 := B.2.2.2.1 c hc
  have hl0 : 2 ^ sO S c 0 ≤ 2 ^ 7 := Nat.pow_le_pow_right (by omega) (by omega)
  have hl1 : 2 ^ sO S c 1 ≤ 2 ^ 7 := Nat.pow_le_pow_right (by omega) (by omega)
  have hw0 := whereIs_rg B (sO S c 0) hour
  have hw1 := whereIs_rg B (sO S c 1) hour
  rcases (show ch = 0 ∨ ch = 1 ∨ ch = 2 ∨ ch = 3 by omega) with rfl | rfl | rfl | rfl
  · refine eR_ic dX6_wearers_0 ?_
    refine eR_ist_n4 dX6_wearers_1 (by decide) rfl ?_
    refine eR_ic dX6_wearers_3 ?_
    refine eR_ist_n5 dX6_wearers_4 (by decide) rfl ?_
    refine eR_ild_5 dX6_wearers_6 ?_
    refine eR_ic dX6_wearers_8 ?_
    refine eR_icmp_ge (tgt := 62) dX6_wearers_9 (by decide) (by first | exact rg_b01 _ | (unfold rg; omega)) (by first | exact rg_b01 _ | (unfold rg; omega)) (fun c9 => absurd c9 (by decide)) (fun c9 => ?_)
    refine eR_ildn_2 dX6_wearers_12 rfl ?_
    refine eR_ild_5 dX6_wearers_13 ?_
    refine eR_ishr dX6_wearers_15 ?_
    refine eR_ic dX6_wearers_16 ?_
    refine eR_iand dX6_wearers_17 ?_
    refine eX_pcI (show (zAnd (zShr 0 0) 1 : Int) = 0 from by decide +kernel) ?_
    refine eR_if_eq (tgt := 56) dX6_wearers_18 (by decide) (by first | exact rg_b01 _ | (unfold rg; omega)) (fun c18 => ?_) (fun c18 => absurd c18 (by decide))
    refine eR_iinc_5 dX6_wearers_56 (by decide) rfl ?_
    refine eR_goto (tgt := 6) dX6_wearers_59 (by decide) ?_
    refine eR_ild_5 dX6_wearers_6 ?_
    refine eR_ic dX6_wearers_8 ?_
    refine eR_icmp_ge (tgt := 62) dX6_wearers_9 (by decide) (by first | exact rg_b01 _ | (unfold rg; omega)) (by first | exact rg_b01 _ | (unfold rg; omega)) (fun c9 => absurd c9 (by decide)) (fun c9 => ?_)
    refine eR_ildn_2 dX6_wearers_12 rfl ?_
    refine eR_ild_5 dX6_wearers_13 ?_
    refine eR_ishr dX6_wearers_15 ?_
    refine eR_ic dX6_wearers_16 ?_
    refine eR_iand dX6_wearers_17 ?_
    refine eX_pcI (show (zAnd (zShr 0 1) 1 : Int) = 0 from by decide +kernel) ?_
    refine eR_if_eq (tgt := 56) dX6_wearers_18 (by decide) (by first | exact rg_b01 _ | (unfold rg; omega)) (fun c18 => ?_) (fun c18 => absurd c18 (by decide))
    refine eR_iinc_5 dX6_wearers_56 (by decide) rfl ?_
    refine eR_goto (tgt := 6) dX6_wearers_59 (by decide) ?_
    refine eR_ild_5 dX6_wearers_6 ?_
    refine eR_ic dX6_wearers_8 ?_
    refine eR_icmp_ge (tgt := 62) dX6_wearers_9 (by decide) (by first | exact rg_b01 _ | (unfold rg; omega)) (by first | exact rg_b01 _ | (unfold rg; omega)) (fun c9 => ?_) (fun c9 => absurd c9 (by decide))
    refine eR_aldn_0 dX6_wearers_62 rfl ?_
    refine eR_getR (i := u + 22) dX6_wearers_63 gf_X6_23 T.1 rfl ?_
    refine eR_aldn_0 dX6_wearers_66 rfl ?_
    refine eR_getR (i := u + 1) dX6_wearers_67 gf_X6_11 T.1 rfl ?_
    refine eR_ildn_1 dX6_wearers_70 rfl ?_
    refine eR_aald3 (n := c) (i := u + 2 + c) dX6_wearers_71 T.2.1 (rfl) (by omega) (by decide) (rowsK_at (by omega)) ?_
    refine eR_ic dX6_wearers_72 ?_
    refine eR_iald (n := 0) dX6_wearers_73 (T.2.2.1 c (by omega)) (rfl) (by decide) (by decide) ?_
    refine eX_pcI ((V.2.2.2.2.2.1 c (by omega)).1) ?_
    refine eR_aald3 (n := (sO S c 0)) (i := u + 23 + (sO S c 0)) dX6_wearers_74 T.2.2.2.2.2.2.1 (rfl) (by omega) (by decide) (rowsK_at (by omega)) ?_
    refine eR_ildn_3 dX6_wearers_75 rfl ?_
    refine eR_iald (n := hour) dX6_wearers_76 (T.2.2.2.2.2.2.2.1 (sO S c 0) (by omega)) (rfl) (by omega) (by decide) ?_
    refine eX_pcI (V.2.2.2.2.2.2.2.1 (sO S c 0) hour (by omega) (by omega)) ?_
    refine eR_aldn_0 dX6_wearers_77 rfl ?_
    refine eR_getR (i := u + 22) dX6_wearers_78 gf_X6_23 T.1 rfl ?_
    refine eR_aldn_0 dX6_wearers_81 rfl ?_
    refine eR_getR (i := u + 1) dX6_wearers_82 gf_X6_11 T.1 rfl ?_
    refine eR_ildn_1 dX6_wearers_85 rfl ?_
    refine eR_aald3 (n := c) (i := u + 2 + c) dX6_wearers_86 T.2.1 (rfl) (by omega) (by decide) (rowsK_at (by omega)) ?_
    refine eR_ic dX6_wearers_87 ?_
    refine eR_iald (n := 1) dX6_wearers_88 (T.2.2.1 c (by omega)) (rfl) (by decide) (by decide) ?_
    refine eX_pcI ((V.2.2.2.2.2.1 c (by omega)).2.1) ?_
    refine eR_aald3 (n := (sO S c 1)) (i := u + 23 + (sO S c 1)) dX6_wearers_89 T.2.2.2.2.2.2.1 (rfl) (by omega) (by decide) (rowsK_at (by omega)) ?_
    refine eR_ildn_3 dX6_wearers_90 rfl ?_
    refine eR_iald (n := hour) dX6_wearers_91 (T.2.2.2.2.2.2.2.1 (sO S c 1) (by omega)) (rfl) (by omega) (by decide) ?_
    refine eX_pcI (V.2.2.2.2.2.2.2.1 (sO S c 1) hour (by omega) (by omega)) ?_
    refine eR_icmp_ne (tgt := 99) dX6_wearers_92 (by decide) (by first | exact rg_b01 _ | (unfold rg; omega)) (by first | exact rg_b01 _ | (unfold rg; omega)) (fun c92 => ?_) (fun c92 => ?_)
    · refine eR_ic dX6_wearers_99 ?_
      refine eR_ist_5 dX6_wearers_100 (by decide) rfl ?_
      refine eR_ildn_2 dX6_wearers_102 rfl ?_
      refine eR_ic dX6_wearers_103 ?_
      refine eR_icmp_ne (tgt := 124) dX6_wearers_104 (by decide) (by first | exact rg_b01 _ | (unfold rg; omega)) (by first | exact rg_b01 _ | (unfold rg; omega)) (fun c104 => ?_) (fun c104 => absurd c104 (by decide))
      refine eR_ild_4 dX6_wearers_124 ?_
      refine eR_iret dX6_wearers_126 rfl rfl ?_
      have e9 : clad S hour c 0 = 0 := by
        unfold clad
        rw [if_pos ⟨fun q => (by first | omega | (exfalso; revert q; decide)), fun q => (by first | omega | (exfalso; revert q; decide)), fun q => (by first | exact absurd q (by decide) | exact Or.inl (by assumption) | exact Or.inr (by omega))⟩]
        simp [clS]
      rw [e9] at k
      exact k
    · refine eR_ic dX6_wearers_95 ?_
      refine eR_goto (tgt := 100) dX6_wearers_96 (by decide) ?_
      refine eR_ist_5 dX6_wearers_100 (by decide) rfl ?_
      refine eR_ildn_2 dX6_wearers_102 rfl ?_
      refine eR_ic dX6_wearers_103 ?_
      refine eR_icmp_ne (tgt := 124) dX6_wearers_104 (by decide) (by first | exact rg_b01 _ | (unfold rg; omega)) (by first | exact rg_b01 _ | (unfold rg; omega)) (fun c104 => ?_) (fun c104 => absurd c104 (by decide))
      refine eR_ild_4 dX6_wearers_124 ?_
      refine eR_iret dX6_wearers_126 rfl rfl ?_
      have e9 : clad S hour c 0 = 0 := by
        unfold clad
        rw [if_pos ⟨fun q => (by first | omega | (exfalso; revert q; decide)), fun q => (by first | omega | (exfalso; revert q; decide)), fun q => (by first | exact absurd q (by decide) | exact Or.inl (by assumption) | exact Or.inr (by omega))⟩]
        simp [clS]
      rw [e9] at k
      exact k
  · refine eR_ic dX6_wearers_0 ?_
    refine eR_ist_n4 dX6_wearers_1 (by decide) rfl ?_
    refine eR_ic dX6_wearers_3 ?_
    refine eR_ist_n5 dX6_wearers_4 (by decide) rfl ?_
    refine eR_ild_5 dX6_wearers_6 ?_
    refine eR_ic dX6_wearers_8 ?_
    refine eR_icmp_ge (tgt := 62) dX6_wearers_9 (by decide) (by first | exact rg_b01 _ | (unfold rg; omega)) (by first | exact rg_b01 _ | (unfold rg; omega)) (fun c9 => absurd c9 (by decide)) (fun c9 => ?_)
    refine eR_ildn_2 dX6_wearers_12 rfl ?_
    refine eR_ild_5 dX6_wearers_13 ?_
    refine eR_ishr dX6_wearers_15 ?_
    refine eR_ic dX6_wearers_16 ?_
    refine eR_iand dX6_wearers_17 ?_
    refine eX_pcI (show (zAnd (zShr 1 0) 1 : Int) = 1 from by decide +kernel) ?_
    refine eR_if_eq (tgt := 56) dX6_wearers_18 (by decide) (by first | exact rg_b01 _ | (unfold rg; omega)) (fun c18 => absurd c18 (by decide)) (fun c18 => ?_)
    refine eR_aldn_0 dX6_wearers_21 rfl ?_
    refine eR_getR (i := u + 1) dX6_wearers_22 gf_X6_11 T.1 rfl ?_
    refine eR_ildn_1 dX6_wearers_25 rfl ?_
    refine eR_aald3 (n := c) (i := u + 2 + c) dX6_wearers_26 T.2.1 (rfl) (by omega) (by decide) (rowsK_at (by omega)) ?_
    refine eR_ild_5 dX6_wearers_27 ?_
    refine eR_iald (n := 0) dX6_wearers_29 (T.2.2.1 c (by omega)) (rfl) (by decide) (by decide) ?_
    refine eX_pcI ((V.2.2.2.2.2.1 c (by omega)).1) ?_
    refine eR_ist_n6 dX6_wearers_30 (by decide) rfl ?_
    refine eR_aldn_0 dX6_wearers_32 rfl ?_
    refine eR_getR (i := u + 22) dX6_wearers_33 gf_X6_23 T.1 rfl ?_
    refine eR_ild_6 dX6_wearers_36 ?_
    refine eR_aald3 (n := (sO S c 0)) (i := u + 23 + (sO S c 0)) dX6_wearers_38 T.2.2.2.2.2.2.1 (rfl) (by omega) (by decide) (rowsK_at (by omega)) ?_
    refine eR_ildn_3 dX6_wearers_39 rfl ?_
    refine eR_iald (n := hour) dX6_wearers_40 (T.2.2.2.2.2.2.2.1 (sO S c 0) (by omega)) (rfl) (by omega) (by decide) ?_
    refine eX_pcI (V.2.2.2.2.2.2.2.1 (sO S c 0) hour (by omega) (by omega)) ?_
    refine eR_ic dX6_wearers_41 ?_
    refine eR_icmp_ne (tgt := 47) dX6_wearers_42 (by decide) (by first | exact rg_b01 _ | (unfold rg; omega)) (by first | exact rg_b01 _ | (unfold rg; omega)) (fun c42 => ?_) (fun c42 => ?_)
    · refine eR_ild_4 dX6_wearers_47 ?_
      refine eR_ic dX6_wearers_49 ?_
      refine eR_ild_6 dX6_wearers_50 ?_
      refine eR_ishl dX6_wearers_52 ?_
      refine eX_pcI (show (zShl 1 ↑(sO S c 0) : Int) = ↑(2 ^ sO S c 0 : Nat) from by have := zShl_nat (a := 1) (k := sO S c 0) (by omega) (by omega); rw [Nat.one_mul] at this; exact this) ?_
      refine eR_ior dX6_wearers_53 ?_
      refine eX_pcI (show (zOr 0 ↑(2 ^ sO S c 0 : Nat) : Int) = ↑(2 ^ sO S c 0 : Nat) from by rw [show (0 : Int) = ((0 : Nat) : Int) from rfl, zOr_nat (by omega) (by omega), Nat.zero_or]) ?_
      refine eR_ist_4 dX6_wearers_54 (by decide) rfl ?_
      refine eR_iinc_5 dX6_wearers_56 (by decide) rfl ?_
      refine eR_goto (tgt := 6) dX6_wearers_59 (by decide) ?_
      refine eR_ild_5 dX6_wearers_6 ?_
      refine eR_ic dX6_wearers_8 ?_
      refine eR_icmp_ge (tgt := 62) dX6_wearers_9 (by decide) (by first | exact rg_b01 _ | (unfold rg; omega)) (by first | exact rg_b01 _ | (unfold rg; omega)) (fun c9 => absurd c9 (by decide)) (fun c9 => ?_)
      refine eR_ildn_2 dX6_wearers_12 rfl ?_
      refine eR_ild_5 dX6_wearers_13 ?_
      refine eR_ishr dX6_wearers_15 ?_
      refine eR_ic dX6_wearers_16 ?_
      refine eR_iand dX6_wearers_17 ?_
      refine eX_pcI (show (zAnd (zShr 1 1) 1 : Int) = 0 from by decide +kernel) ?_
      refine eR_if_eq (tgt := 56) dX6_wearers_18 (by decide) (by first | exact rg_b01 _ | (unfold rg; omega)) (fun c18 => ?_) (fun c18 => absurd c18 (by decide))
      refine eR_iinc_5 dX6_wearers_56 (by decide) rfl ?_
      refine eR_goto (tgt := 6) dX6_wearers_59 (by decide) ?_
      refine eR_ild_5 dX6_wearers_6 ?_
      refine eR_ic dX6_wearers_8 ?_
      refine eR_icmp_ge (tgt := 62) dX6_wearers_9 (by decide) (by first | exact rg_b01 _ | (unfold rg; omega)) (by first | exact rg_b01 _ | (unfold rg; omega)) (fun c9 => ?_) (fun c9 => absurd c9 (by decide))
      refine eR_aldn_0 dX6_wearers_62 rfl ?_
      refine eR_getR (i := u + 22) dX6_wearers_63 gf_X6_23 T.1 rfl ?_
      refine eR_aldn_0 dX6_wearers_66 rfl ?_
      refine eR_getR (i := u + 1) dX6_wearers_67 gf_X6_11 T.1 rfl ?_
      refine eR_ildn_1 dX6_wearers_70 rfl ?_
      refine eR_aald3 (n := c) (i := u + 2 + c) dX6_wearers_71 T.2.1 (rfl) (by omega) (by decide) (rowsK_at (by omega)) ?_
      refine eR_ic dX6_wearers_72 ?_
      refine eR_iald (n := 0) dX6_wearers_73 (T.2.2.1 c (by omega)) (rfl) (by decide) (by decide) ?_
      refine eX_pcI ((V.2.2.2.2.2.1 c (by omega)).1) ?_
      refine eR_aald3 (n := (sO S c 0)) (i := u + 23 + (sO S c 0)) dX6_wearers_74 T.2.2.2.2.2.2.1 (rfl) (by omega) (by decide) (rowsK_at (by omega)) ?_
      refine eR_ildn_3 dX6_wearers_75 rfl ?_
      refine eR_iald (n := hour) dX6_wearers_76 (T.2.2.2.2.2.2.2.1 (sO S c 0) (by omega)) (rfl) (by omega) (by decide) ?_
      refine eX_pcI (V.2.2.2.2.2.2.2.1 (sO S c 0) hour (by omega) (by omega)) ?_
      refine eR_aldn_0 dX6_wearers_77 rfl ?_
      refine eR_getR (i := u + 22) dX6_wearers_78 gf_X6_23 T.1 rfl ?_
      refine eR_aldn_0 dX6_wearers_81 rfl ?_
      refine eR_getR (i := u + 1) dX6_wearers_82 gf_X6_11 T.1 rfl ?_
      refine eR_ildn_1 dX6_wearers_85 rfl ?_
      refine eR_aald3 (n := c) (i := u + 2 + c) dX6_wearers_86 T.2.1 (rfl) (by omega) (by decide) (rowsK_at (by omega)) ?_
      refine eR_ic dX6_wearers_87 ?_
      refine eR_iald (n := 1) dX6_wearers_88 (T.2.2.1 c (by omega)) (rfl) (by decide) (by decide) ?_
      refine eX_pcI ((V.2.2.2.2.2.1 c (by omega)).2.1) ?_
      refine eR_aald3 (n := (sO S c 1)) (i := u + 23 + (sO S c 1)) dX6_wearers_89 T.2.2.2.2.2.2.1 (rfl) (by omega) (by decide) (rowsK_at (by omega)) ?_
      refine eR_ildn_3 dX6_wearers_90 rfl ?_
      refine eR_iald (n := hour) dX6_wearers_91 (T.2.2.2.2.2.2.2.1 (sO S c 1) (by omega)) (rfl) (by omega) (by decide) ?_
      refine eX_pcI (V.2.2.2.2.2.2.2.1 (sO S c 1) hour (by omega) (by omega)) ?_
      refine eR_icmp_ne (tgt := 99) dX6_wearers_92 (by decide) (by first | exact rg_b01 _ | (unfold rg; omega)) (by first | exact rg_b01 _ | (unfold rg; omega)) (fun c92 => ?_) (fun c92 => ?_)
      · refine eR_ic dX6_wearers_99 ?_
        refine eR_ist_5 dX6_wearers_100 (by decide) rfl ?_
        refine eR_ildn_2 dX6_wearers_102 rfl ?_
        refine eR_ic dX6_wearers_103 ?_
        refine eR_icmp_ne (tgt := 124) dX6_wearers_104 (by decide) (by first | exact rg_b01 _ | (unfold rg; omega)) (by first | exact rg_b01 _ | (unfold rg; omega)) (fun c104 => ?_) (fun c104 => absurd c104 (by decide))
        refine eR_ild_4 dX6_wearers_124 ?_
        refine eR_iret dX6_wearers_126 rfl rfl ?_
        have e9 : clad S hour c 1 = ↑(2 ^ sO S c 0 : Nat) := by
          unfold clad
          rw [if_pos ⟨fun q => (by first | omega | (exfalso; revert q; decide)), fun q => (by first | omega | (exfalso; revert q; decide)), fun q => (by first | exact absurd q (by decide) | exact Or.inl (by assumption) | exact Or.inr (by omega))⟩]
          simp [clS]
        rw [e9] at k
        exact k
      · refine eR_ic dX6_wearers_95 ?_
        refine eR_goto (tgt := 100) dX6_wearers_96 (by decide) ?_
        refine eR_ist_5 dX6_wearers_100 (by decide) rfl ?_
        refine eR_ildn_2 dX6_wearers_102 rfl ?_
        refine eR_ic dX6_wearers_103 ?_
        refine eR_icmp_ne (tgt := 124) dX6_wearers_104 (by decide) (by first | exact rg_b01 _ | (unfold rg; omega)) (by first | exact rg_b01 _ | (unfold rg; omega)) (fun c104 => ?_) (fun c104 => absurd c104 (by decide))
        refine eR_ild_4 dX6_wearers_124 ?_
        refine eR_iret dX6_wearers_126 rfl rfl ?_
        have e9 : clad S hour c 1 = ↑(2 ^ sO S c 0 : Nat) := by
          unfold clad
          rw [if_pos ⟨fun q => (by first | omega | (exfalso; revert q; decide)), fun q => (by first | omega | (exfalso; revert q; decide)), fun q => (by first | exact absurd q (by decide) | exact Or.inl (by assumption) | exact Or.inr (by omega))⟩]
          simp [clS]
        rw [e9] at k
        exact k
    · refine eR_ic dX6_wearers_45 ?_
      refine eR_iret dX6_wearers_46 rfl rfl ?_
      have e9 : clad S hour c 1 = -1 := if_neg (by rintro ⟨q1, q2, q3⟩; first | (have := q1 (by decide); omega) | (have := q2 (by decide); omega) | (rcases q3 rfl with q4 | q4; contradiction; omega))
      rw [e9] at k
      exact k
  · refine eR_ic dX6_wearers_0 ?_
    refine eR_ist_n4 dX6_wearers_1 (by decide) rfl ?_
    refine eR_ic dX6_wearers_3 ?_
    refine eR_ist_n5 dX6_wearers_4 (by decide) rfl ?_
    refine eR_ild_5 dX6_wearers_6 ?_
    refine eR_ic dX6_wearers_8 ?_
    refine eR_icmp_ge (tgt := 62) dX6_wearers_9 (by decide) (by first | exact rg_b01 _ | (unfold rg; omega)) (by first | exact rg_b01 _ | (unfold rg; omega)) (fun c9 => absurd c9 (by decide)) (fun c9 => ?_)
    refine eR_ildn_2 dX6_wearers_12 rfl ?_
    refine eR_ild_5 dX6_wearers_13 ?_
    refine eR_ishr dX6_wearers_15 ?_
    refine eR_ic dX6_wearers_16 ?_
    refine eR_iand dX6_wearers_17 ?_
    refine eX_pcI (show (zAnd (zShr 2 0) 1 : Int) = 0 from by decide +kernel) ?_
    refine eR_if_eq (tgt := 56) dX6_wearers_18 (by decide) (by first | exact rg_b01 _ | (unfold rg; omega)) (fun c18 => ?_) (fun c18 => absurd c18 (by decide))
    refine eR_iinc_5 dX6_wearers_56 (by decide) rfl ?_
    refine eR_goto (tgt := 6) dX6_wearers_59 (by decide) ?_
    refine eR_ild_5 dX6_wearers_6 ?_
    refine eR_ic dX6_wearers_8 ?_
    refine eR_icmp_ge (tgt := 62) dX6_wearers_9 (by decide) (by first | exact rg_b01 _ | (unfold rg; omega)) (by first | exact rg_b01 _ | (unfold rg; omega)) (fun c9 => absurd c9 (by decide)) (fun c9 => ?_)
    refine eR_ildn_2 dX6_wearers_12 rfl ?_
    refine eR_ild_5 dX6_wearers_13 ?_
    refine eR_ishr dX6_wearers_15 ?_
    refine eR_ic dX6_wearers_16 ?_
    refine eR_iand dX6_wearers_17 ?_
    refine eX_pcI (show (zAnd (zShr 2 1) 1 : Int) = 1 from by decide +kernel) ?_
    refine eR_if_eq (tgt := 56) dX6_wearers_18 (by decide) (by first | exact rg_b01 _ | (unfold rg; omega)) (fun c18 => absurd c18 (by decide)) (fun c18 => ?_)
    refine eR_aldn_0 dX6_wearers_21 rfl ?_
    refine eR_getR (i := u + 1) dX6_wearers_22 gf_X6_11 T.1 rfl ?_
    refine eR_ildn_1 dX6_wearers_25 rfl ?_
    refine eR_aald3 (n := c) (i := u + 2 + c) dX6_wearers_26 T.2.1 (rfl) (by omega) (by decide) (rowsK_at (by omega)) ?_
    refine eR_ild_5 dX6_wearers_27 ?_
    refine eR_iald (n := 1) dX6_wearers_29 (T.2.2.1 c (by omega)) (rfl) (by decide) (by decide) ?_
    refine eX_pcI ((V.2.2.2.2.2.1 c (by omega)).2.1) ?_
    refine eR_ist_n6 dX6_wearers_30 (by decide) rfl ?_
    refine eR_aldn_0 dX6_wearers_32 rfl ?_
    refine eR_getR (i := u + 22) dX6_wearers_33 gf_X6_23 T.1 rfl ?_
    refine eR_ild_6 dX6_wearers_36 ?_
    refine eR_aald3 (n := (sO S c 1)) (i := u + 23 + (sO S c 1)) dX6_wearers_38 T.2.2.2.2.2.2.1 (rfl) (by omega) (by decide) (rowsK_at (by omega)) ?_
    refine eR_ildn_3 dX6_wearers_39 rfl ?_
    refine eR_iald (n := hour) dX6_wearers_40 (T.2.2.2.2.2.2.2.1 (sO S c 1) (by omega)) (rfl) (by omega) (by decide) ?_
    refine eX_pcI (V.2.2.2.2.2.2.2.1 (sO S c 1) hour (by omega) (by omega)) ?_
    refine eR_ic dX6_wearers_41 ?_
    refine eR_icmp_ne (tgt := 47) dX6_wearers_42 (by decide) (by first | exact rg_b01 _ | (unfold rg; omega)) (by first | exact rg_b01 _ | (unfold rg; omega)) (fun c42 => ?_) (fun c42 => ?_)
    · refine eR_ild_4 dX6_wearers_47 ?_
      refine eR_ic dX6_wearers_49 ?_
      refine eR_ild_6 dX6_wearers_50 ?_
      refine eR_ishl dX6_wearers_52 ?_
      refine eX_pcI (show (zShl 1 ↑(sO S c 1) : Int) = ↑(2 ^ sO S c 1 : Nat) from by have := zShl_nat (a := 1) (k := sO S c 1) (by omega) (by omega); rw [Nat.one_mul] at this; exact this) ?_
      refine eR_ior dX6_wearers_53 ?_
      refine eX_pcI (show (zOr 0 ↑(2 ^ sO S c 1 : Nat) : Int) = ↑(2 ^ sO S c 1 : Nat) from by rw [show (0 : Int) = ((0 : Nat) : Int) from rfl, zOr_nat (by omega) (by omega), Nat.zero_or]) ?_
      refine eR_ist_4 dX6_wearers_54 (by decide) rfl ?_
      refine eR_iinc_5 dX6_wearers_56 (by decide) rfl ?_
      refine eR_goto (tgt := 6) dX6_wearers_59 (by decide) ?_
      refine eR_ild_5 dX6_wearers_6 ?_
      refine eR_ic dX6_wearers_8 ?_
      refine eR_icmp_ge (tgt := 62) dX6_wearers_9 (by decide) (by first | exact rg_b01 _ | (unfold rg; omega)) (by first | exact rg_b01 _ | (unfold rg; omega)) (fun c9 => ?_) (fun c9 => absurd c9 (by decide))
      refine eR_aldn_0 dX6_wearers_62 rfl ?_
      refine eR_getR (i := u + 22) dX6_wearers_63 gf_X6_23 T.1 rfl ?_
      refine eR_aldn_0 dX6_wearers_66 rfl ?_
      refine eR_getR (i := u + 1) dX6_wearers_67 gf_X6_11 T.1 rfl ?_
      refine eR_ildn_1 dX6_wearers_70 rfl ?_
      refine eR_aald3 (n := c) (i := u + 2 + c) dX6_wearers_71 T.2.1 (rfl) (by omega) (by decide) (rowsK_at (by omega)) ?_
      refine eR_ic dX6_wearers_72 ?_
      refine eR_iald (n := 0) dX6_wearers_73 (T.2.2.1 c (by omega)) (rfl) (by decide) (by decide) ?_
      refine eX_pcI ((V.2.2.2.2.2.1 c (by omega)).1) ?_
      refine eR_aald3 (n := (sO S c 0)) (i := u + 23 + (sO S c 0)) dX6_wearers_74 T.2.2.2.2.2.2.1 (rfl) (by omega) (by decide) (rowsK_at (by omega)) ?_
      refine eR_ildn_3 dX6_wearers_75 rfl ?_
      refine eR_iald (n := hour) dX6_wearers_76 (T.2.2.2.2.2.2.2.1 (sO S c 0) (by omega)) (rfl) (by omega) (by decide) ?_
      refine eX_pcI (V.2.2.2.2.2.2.2.1 (sO S c 0) hour (by omega) (by omega)) ?_
      refine eR_aldn_0 dX6_wearers_77 rfl ?_
      refine eR_getR (i := u + 22) dX6_wearers_78 gf_X6_23 T.1 rfl ?_
      refine eR_aldn_0 dX6_wearers_81 rfl ?_
      refine eR_getR (i := u + 1) dX6_wearers_82 gf_X6_11 T.1 rfl ?_
      refine eR_ildn_1 dX6_wearers_85 rfl ?_
      refine eR_aald3 (n := c) (i := u + 2 + c) dX6_wearers_86 T.2.1 (rfl) (by omega) (by decide) (rowsK_at (by omega)) ?_
      refine eR_ic dX6_wearers_87 ?_
      refine eR_iald (n := 1) dX6_wearers_88 (T.2.2.1 c (by omega)) (rfl) (by decide) (by decide) ?_
      refine eX_pcI ((V.2.2.2.2.2.1 c (by omega)).2.1) ?_
      refine eR_aald3 (n := (sO S c 1)) (i := u + 23 + (sO S c 1)) dX6_wearers_89 T.2.2.2.2.2.2.1 (rfl) (by omega) (by decide) (rowsK_at (by omega)) ?_
      refine eR_ildn_3 dX6_wearers_90 rfl ?_
      refine eR_iald (n := hour) dX6_wearers_91 (T.2.2.2.2.2.2.2.1 (sO S c 1) (by omega)) (rfl) (by omega) (by decide) ?_
      refine eX_pcI (V.2.2.2.2.2.2.2.1 (sO S c 1) hour (by omega) (by omega)) ?_
      refine eR_icmp_ne (tgt := 99) dX6_wearers_92 (by decide) (by first | exact rg_b01 _ | (unfold rg; omega)) (by first | exact rg_b01 _ | (unfold rg; omega)) (fun c92 => ?_) (fun c92 => ?_)
      · refine eR_ic dX6_wearers_99 ?_
        refine eR_ist_5 dX6_wearers_100 (by decide) rfl ?_
        refine eR_ildn_2 dX6_wearers_102 rfl ?_
        refine eR_ic dX6_wearers_103 ?_
        refine eR_icmp_ne (tgt := 124) dX6_wearers_104 (by decide) (by first | exact rg_b01 _ | (unfold rg; omega)) (by first | exact rg_b01 _ | (unfold rg; omega)) (fun c104 => ?_) (fun c104 => absurd c104 (by decide))
        refine eR_ild_4 dX6_wearers_124 ?_
        refine eR_iret dX6_wearers_126 rfl rfl ?_
        have e9 : clad S hour c 2 = ↑(2 ^ sO S c 1 : Nat) := by
          unfold clad
          rw [if_pos ⟨fun q => (by first | omega | (exfalso; revert q; decide)), fun q => (by first | omega | (exfalso; revert q; decide)), fun q => (by first | exact absurd q (by decide) | exact Or.inl (by assumption) | exact Or.inr (by omega))⟩]
          simp [clS]
        rw [e9] at k
        exact k
      · refine eR_ic dX6_wearers_95 ?_
        refine eR_goto (tgt := 100) dX6_wearers_96 (by decide) ?_
        refine eR_ist_5 dX6_wearers_100 (by decide) rfl ?_
        refine eR_ildn_2 dX6_wearers_102 rfl ?_
        refine eR_ic dX6_wearers_103 ?_
        refine eR_icmp_ne (tgt := 124) dX6_wearers_104 (by decide) (by first | exact rg_b01 _ | (unfold rg; omega)) (by first | exact rg_b01 _ | (unfold rg; omega)) (fun c104 => ?_) (fun c104 => absurd c104 (by decide))
        refine eR_ild_4 dX6_wearers_124 ?_
        refine eR_iret dX6_wearers_126 rfl rfl ?_
        have e9 : clad S hour c 2 = ↑(2 ^ sO S c 1 : Nat) := by
          unfold clad
          rw [if_pos ⟨fun q => (by first | omega | (exfalso; revert q; decide)), fun q => (by first | omega | (exfalso; revert q; decide)), fun q => (by first | exact absurd q (by decide) | exact Or.inl (by assumption) | exact Or.inr (by omega))⟩]
          simp [clS]
        rw [e9] at k
        exact k
    · refine eR_ic dX6_wearers_45 ?_
      refine eR_iret dX6_wearers_46 rfl rfl ?_
      have e9 : clad S hour c 2 = -1 := if_neg (by rintro ⟨q1, q2, q3⟩; first | (have := q1 (by decide); omega) | (have := q2 (by decide); omega) | (rcases q3 rfl with q4 | q4; contradiction; omega))
      rw [e9] at k
      exact k
  · refine eR_ic dX6_wearers_0 ?_
    refine eR_ist_n4 dX6_wearers_1 (by decide) rfl ?_
    refine eR_ic dX6_wearers_3 ?_
    refine eR_ist_n5 dX6_wearers_4 (by decide) rfl ?_
    refine eR_ild_5 dX6_wearers_6 ?_
    refine eR_ic dX6_wearers_8 ?_
    refine eR_icmp_ge (tgt := 62) dX6_wearers_9 (by decide) (by first | exact rg_b01 _ | (unfold rg; omega)) (by first | exact rg_b01 _ | (unfold rg; omega)) (fun c9 => absurd c9 (by decide)) (fun c9 => ?_)
    refine eR_ildn_2 dX6_wearers_12 rfl ?_
    refine eR_ild_5 dX6_wearers_13 ?_
    refine eR_ishr dX6_wearers_15 ?_
    refine eR_ic dX6_wearers_16 ?_
    refine eR_iand dX6_wearers_17 ?_
    refine eX_pcI (show (zAnd (zShr 3 0) 1 : Int) = 1 from by decide +kernel) ?_
    refine eR_if_eq (tgt := 56) dX6_wearers_18 (by decide) (by first | exact rg_b01 _ | (unfold rg; omega)) (fun c18 => absurd c18 (by decide)) (fun c18 => ?_)
    refine eR_aldn_0 dX6_wearers_21 rfl ?_
    refine eR_getR (i := u + 1) dX6_wearers_22 gf_X6_11 T.1 rfl ?_
    refine eR_ildn_1 dX6_wearers_25 rfl ?_
    refine eR_aald3 (n := c) (i := u + 2 + c) dX6_wearers_26 T.2.1 (rfl) (by omega) (by decide) (rowsK_at (by omega)) ?_
    refine eR_ild_5 dX6_wearers_27 ?_
    refine eR_iald (n := 0) dX6_wearers_29 (T.2.2.1 c (by omega)) (rfl) (by decide) (by decide) ?_
    refine eX_pcI ((V.2.2.2.2.2.1 c (by omega)).1) ?_
    refine eR_ist_n6 dX6_wearers_30 (by decide) rfl ?_
    refine eR_aldn_0 dX6_wearers_32 rfl ?_
    refine eR_getR (i := u + 22) dX6_wearers_33 gf_X6_23 T.1 rfl ?_
    refine eR_ild_6 dX6_wearers_36 ?_
    refine eR_aald3 (n := (sO S c 0)) (i := u + 23 + (sO S c 0)) dX6_wearers_38 T.2.2.2.2.2.2.1 (rfl) (by omega) (by decide) (rowsK_at (by omega)) ?_
    refine eR_ildn_3 dX6_wearers_39 rfl ?_
    refine eR_iald (n := hour) dX6_wearers_40 (T.2.2.2.2.2.2.2.1 (sO S c 0) (by omega)) (rfl) (by omega) (by decide) ?_
    refine eX_pcI (V.2.2.2.2.2.2.2.1 (sO S c 0) hour (by omega) (by omega)) ?_
    refine eR_ic dX6_wearers_41 ?_
    refine eR_icmp_ne (tgt := 47) dX6_wearers_42 (by decide) (by first | exact rg_b01 _ | (unfold rg; omega)) (by first | exact rg_b01 _ | (unfold rg; omega)) (fun c42 => ?_) (fun c42 => ?_)
    · refine eR_ild_4 dX6_wearers_47 ?_
      refine eR_ic dX6_wearers_49 ?_
      refine eR_ild_6 dX6_wearers_50 ?_
      refine eR_ishl dX6_wearers_52 ?_
      refine eX_pcI (show (zShl 1 ↑(sO S c 0) : Int) = ↑(2 ^ sO S c 0 : Nat) from by have := zShl_nat (a := 1) (k := sO S c 0) (by omega) (by omega); rw [Nat.one_mul] at this; exact this) ?_
      refine eR_ior dX6_wearers_53 ?_
      refine eX_pcI (show (zOr 0 ↑(2 ^ sO S c 0 : Nat) : Int) = ↑(2 ^ sO S c 0 : Nat) from by rw [show (0 : Int) = ((0 : Nat) : Int) from rfl, zOr_nat (by omega) (by omega), Nat.zero_or]) ?_
      refine eR_ist_4 dX6_wearers_54 (by decide) rfl ?_
      refine eR_iinc_5 dX6_wearers_56 (by decide) rfl ?_
      refine eR_goto (tgt := 6) dX6_wearers_59 (by decide) ?_
      refine eR_ild_5 dX6_wearers_6 ?_
      refine eR_ic dX6_wearers_8 ?_
      refine eR_icmp_ge (tgt := 62) dX6_wearers_9 (by decide) (by first | exact rg_b01 _ | (unfold rg; omega)) (by first | exact rg_b01 _ | (unfold rg; omega)) (fun c9 => absurd c9 (by decide)) (fun c9 => ?_)
      refine eR_ildn_2 dX6_wearers_12 rfl ?_
      refine eR_ild_5 dX6_wearers_13 ?_
      refine eR_ishr dX6_wearers_15 ?_
      refine eR_ic dX6_wearers_16 ?_
      refine eR_iand dX6_wearers_17 ?_
      refine eX_pcI (show (zAnd (zShr 3 1) 1 : Int) = 1 from by decide +kernel) ?_
      refine eR_if_eq (tgt := 56) dX6_wearers_18 (by decide) (by first | exact rg_b01 _ | (unfold rg; omega)) (fun c18 => absurd c18 (by decide)) (fun c18 => ?_)
      refine eR_aldn_0 dX6_wearers_21 rfl ?_
      refine eR_getR (i := u + 1) dX6_wearers_22 gf_X6_11 T.1 rfl ?_
      refine eR_ildn_1 dX6_wearers_25 rfl ?_
      refine eR_aald3 (n := c) (i := u + 2 + c) dX6_wearers_26 T.2.1 (rfl) (by omega) (by decide) (rowsK_at (by omega)) ?_
      refine eR_ild_5 dX6_wearers_27 ?_
      refine eR_iald (n := 1) dX6_wearers_29 (T.2.2.1 c (by omega)) (rfl) (by decide) (by decide) ?_
      refine eX_pcI ((V.2.2.2.2.2.1 c (by omega)).2.1) ?_
      refine eR_ist_6 dX6_wearers_30 (by decide) rfl ?_
      refine eR_aldn_0 dX6_wearers_32 rfl ?_
      refine eR_getR (i := u + 22) dX6_wearers_33 gf_X6_23 T.1 rfl ?_
      refine eR_ild_6 dX6_wearers_36 ?_
      refine eR_aald3 (n := (sO S c 1)) (i := u + 23 + (sO S c 1)) dX6_wearers_38 T.2.2.2.2.2.2.1 (rfl) (by omega) (by decide) (rowsK_at (by omega)) ?_
      refine eR_ildn_3 dX6_wearers_39 rfl ?_
      refine eR_iald (n := hour) dX6_wearers_40 (T.2.2.2.2.2.2.2.1 (sO S c 1) (by omega)) (rfl) (by omega) (by decide) ?_
      refine eX_pcI (V.2.2.2.2.2.2.2.1 (sO S c 1) hour (by omega) (by omega)) ?_
      refine eR_ic dX6_wearers_41 ?_
      refine eR_icmp_ne (tgt := 47) dX6_wearers_42 (by decide) (by first | exact rg_b01 _ | (unfold rg; omega)) (by first | exact rg_b01 _ | (unfold rg; omega)) (fun c42 => ?_) (fun c42 => ?_)
      · refine eR_ild_4 dX6_wearers_47 ?_
        refine eR_ic dX6_wearers_49 ?_
        refine eR_ild_6 dX6_wearers_50 ?_
        refine eR_ishl dX6_wearers_52 ?_
        refine eX_pcI (show (zShl 1 ↑(sO S c 1) : Int) = ↑(2 ^ sO S c 1 : Nat) from by have := zShl_nat (a := 1) (k := sO S c 1) (by omega) (by omega); rw [Nat.one_mul] at this; exact this) ?_
        refine eR_ior dX6_wearers_53 ?_
        refine eX_pcI (show (zOr ↑(2 ^ sO S c 0 : Nat) ↑(2 ^ sO S c 1 : Nat) : Int) = ↑(2 ^ sO S c 0 ||| 2 ^ sO S c 1 : Nat) from zOr_nat (by omega) (by omega)) ?_
        refine eR_ist_4 dX6_wearers_54 (by decide) rfl ?_
        refine eR_iinc_5 dX6_wearers_56 (by decide) rfl ?_
        refine eR_goto (tgt := 6) dX6_wearers_59 (by decide) ?_
        refine eR_ild_5 dX6_wearers_6 ?_
        refine eR_ic dX6_wearers_8 ?_
        refine eR_icmp_ge (tgt := 62) dX6_wearers_9 (by decide) (by first | exact rg_b01 _ | (unfold rg; omega)) (by first | exact rg_b01 _ | (unfold rg; omega)) (fun c9 => ?_) (fun c9 => absurd c9 (by decide))
        refine eR_aldn_0 dX6_wearers_62 rfl ?_
        refine eR_getR (i := u + 22) dX6_wearers_63 gf_X6_23 T.1 rfl ?_
        refine eR_aldn_0 dX6_wearers_66 rfl ?_
        refine eR_getR (i := u + 1) dX6_wearers_67 gf_X6_11 T.1 rfl ?_
        refine eR_ildn_1 dX6_wearers_70 rfl ?_
        refine eR_aald3 (n := c) (i := u + 2 + c) dX6_wearers_71 T.2.1 (rfl) (by omega) (by decide) (rowsK_at (by omega)) ?_
        refine eR_ic dX6_wearers_72 ?_
        refine eR_iald (n := 0) dX6_wearers_73 (T.2.2.1 c (by omega)) (rfl) (by decide) (by decide) ?_
        refine eX_pcI ((V.2.2.2.2.2.1 c (by omega)).1) ?_
        refine eR_aald3 (n := (sO S c 0)) (i := u + 23 + (sO S c 0)) dX6_wearers_74 T.2.2.2.2.2.2.1 (rfl) (by omega) (by decide) (rowsK_at (by omega)) ?_
        refine eR_ildn_3 dX6_wearers_75 rfl ?_
        refine eR_iald (n := hour) dX6_wearers_76 (T.2.2.2.2.2.2.2.1 (sO S c 0) (by omega)) (rfl) (by omega) (by decide) ?_
        refine eX_pcI (V.2.2.2.2.2.2.2.1 (sO S c 0) hour (by omega) (by omega)) ?_
        refine eR_aldn_0 dX6_wearers_77 rfl ?_
        refine eR_getR (i := u + 22) dX6_wearers_78 gf_X6_23 T.1 rfl ?_
        refine eR_aldn_0 dX6_wearers_81 rfl ?_
        refine eR_getR (i := u + 1) dX6_wearers_82 gf_X6_11 T.1 rfl ?_
        refine eR_ildn_1 dX6_wearers_85 rfl ?_
        refine eR_aald3 (n := c) (i := u + 2 + c) dX6_wearers_86 T.2.1 (rfl) (by omega) (by decide) (rowsK_at (by omega)) ?_
        refine eR_ic dX6_wearers_87 ?_
        refine eR_iald (n := 1) dX6_wearers_88 (T.2.2.1 c (by omega)) (rfl) (by decide) (by decide) ?_
        refine eX_pcI ((V.2.2.2.2.2.1 c (by omega)).2.1) ?_
        refine eR_aald3 (n := (sO S c 1)) (i := u + 23 + (sO S c 1)) dX6_wearers_89 T.2.2.2.2.2.2.1 (rfl) (by omega) (by decide) (rowsK_at (by omega)) ?_
        refine eR_ildn_3 dX6_wearers_90 rfl ?_
        refine eR_iald (n := hour) dX6_wearers_91 (T.2.2.2.2.2.2.2.1 (sO S c 1) (by omega)) (rfl) (by omega) (by decide) ?_
        refine eX_pcI (V.2.2.2.2.2.2.2.1 (sO S c 1) hour (by omega) (by omega)) ?_
        refine eR_icmp_ne (tgt := 99) dX6_wearers_92 (by decide) (by first | exact rg_b01 _ | (unfold rg; omega)) (by first | exact rg_b01 _ | (unfold rg; omega)) (fun c92 => ?_) (fun c92 => ?_)
        · refine eR_ic dX6_wearers_99 ?_
          refine eR_ist_5 dX6_wearers_100 (by decide) rfl ?_
          refine eR_ildn_2 dX6_wearers_102 rfl ?_
          refine eR_ic dX6_wearers_103 ?_
          refine eR_icmp_ne (tgt := 124) dX6_wearers_104 (by decide) (by first | exact rg_b01 _ | (unfold rg; omega)) (by first | exact rg_b01 _ | (unfold rg; omega)) (fun c104 => absurd c104 (by decide)) (fun c104 => ?_)
          refine eR_ild_5 dX6_wearers_107 ?_
          refine eR_if_ne (tgt := 124) dX6_wearers_109 (by decide) (by first | exact rg_b01 _ | (unfold rg; omega)) (fun c109 => absurd c109 (by decide)) (fun c109 => ?_)
          refine eR_aldn_0 dX6_wearers_112 rfl ?_
          refine eR_ildn_1 dX6_wearers_113 rfl ?_
          refine eR_callVi [_] rfl dX6_wearers_114 ok_mX6_isCut kw_547 rfl rfl T.1 rfl (Nat.le_of_ble_eq_true rfl) (d' := 0) (by decide) (Nat.le_of_ble_eq_true rfl) ?_
          refine tn_isCut (c := c) T B V (by omega) ?_
          refine eR_if_ne (tgt := 124) dX6_wearers_117 (by decide) (by first | exact rg_b01 _ | (unfold rg; omega)) (fun c117 => ?_) (fun c117 => ?_)
          · replace c117 := b01_ne0.mp c117
            refine eR_ild_4 dX6_wearers_124 ?_
            refine eR_iret dX6_wearers_126 rfl rfl ?_
            have e9 : clad S hour c 3 = ↑(2 ^ sO S c 0 ||| 2 ^ sO S c 1 : Nat) := by
              unfold clad
              rw [if_pos ⟨fun q => (by first | omega | (exfalso; revert q; decide)), fun q => (by first | omega | (exfalso; revert q; decide)), fun q => (by first | exact absurd q (by decide) | exact Or.inl (by assumption) | exact Or.inr (by omega))⟩]
              simp [clS]
            rw [e9] at k
            exact k
          · replace c117 := b01_eq0.mp c117
            refine eR_ic dX6_wearers_120 ?_
            refine eR_goto (tgt := 126) dX6_wearers_121 (by decide) ?_
            refine eR_iret dX6_wearers_126 rfl rfl ?_
            have e9 : clad S hour c 3 = -1 := if_neg (by rintro ⟨q1, q2, q3⟩; first | (have := q1 (by decide); omega) | (have := q2 (by decide); omega) | (rcases q3 rfl with q4 | q4; contradiction; omega))
            rw [e9] at k
            exact k
        · refine eR_ic dX6_wearers_95 ?_
          refine eR_goto (tgt := 100) dX6_wearers_96 (by decide) ?_
          refine eR_ist_5 dX6_wearers_100 (by decide) rfl ?_
          refine eR_ildn_2 dX6_wearers_102 rfl ?_
          refine eR_ic dX6_wearers_103 ?_
          refine eR_icmp_ne (tgt := 124) dX6_wearers_104 (by decide) (by first | exact rg_b01 _ | (unfold rg; omega)) (by first | exact rg_b01 _ | (unfold rg; omega)) (fun c104 => absurd c104 (by decide)) (fun c104 => ?_)
          refine eR_ild_5 dX6_wearers_107 ?_
          refine eR_if_ne (tgt := 124) dX6_wearers_109 (by decide) (by first | exact rg_b01 _ | (unfold rg; omega)) (fun c109 => ?_) (fun c109 => absurd c109 (by decide))
          refine eR_ild_4 dX6_wearers_124 ?_
          refine eR_iret dX6_wearers_126 rfl rfl ?_
          have e9 : clad S hour c 3 = ↑(2 ^ sO S c 0 ||| 2 ^ sO S c 1 : Nat) := by
            unfold clad
            rw [if_pos ⟨fun q => (by first | omega | (exfalso; revert q; decide)), fun q => (by first | omega | (exfalso; revert q; decide)), fun q => (by first | exact absurd q (by decide) | exact Or.inl (by assumption) | exact Or.inr (by omega))⟩]
            simp [clS]
          rw [e9] at k
          exact k
      · refine eR_ic dX6_wearers_45 ?_
        refine eR_iret dX6_wearers_46 rfl rfl ?_
        have e9 : clad S hour c 3 = -1 := if_neg (by rintro ⟨q1, q2, q3⟩; first | (have := q1 (by decide); omega) | (have := q2 (by decide); omega) | (rcases q3 rfl with q4 | q4; contradiction; omega))
        rw [e9] at k
        exact k
    · refine eR_ic dX6_wearers_45 ?_
      refine eR_iret dX6_wearers_46 rfl rfl ?_
      have e9 : clad S hour c 3 = -1 := if_neg (by rintro ⟨q1, q2, q3⟩; first | (have := q1 (by decide); omega) | (have := q2 (by decide); omega) | (rcases q3 rfl with q4 | q4; contradiction; omega))
      rw [e9] at k
      exact k
end M41
