/-- n entries of THE BOOK: HOUR, COAT, what -/
def bkV (h : PH) (n : Nat) (bk : Nat → Nat → Nat) : Prop := h 205 28 = (n : Int) ∧ ∀ i, i < n → h 223 (3 * i) = (bk i 0 : Int) ∧ h 223 (3 * i + 1) = (bk i 1 : Int) ∧ h 223 (3 * i + 2) = (bk i 2 : Int)
def bkB (S : TS) (n : Nat) (bk : Nat → Nat → Nat) : Prop := n ≤ 30 ∧ ∀ i, i < n → bk i 0 < 24 ∧ bk i 1 < sC S ∧ bk i 2 < 4
def bdK (S : TS) (bk : Nat → Nat → Nat) (i k : Nat) : Bool := decide (bk k 0 = bk i 0) && (decide (bk k 1 = bk i 1) || decide (clS S (bk k 1) (bk k 2) &&& clS S (bk i 1) (bk i 2) ≠ 0))
def jdB (S : TS) (bk : Nat → Nat → Nat) (i : Nat) : Nat → Bool
  | 0 => false
  | k + 1 => jdB S bk i k || bdK S bk i k
abbrev jcl (S : TS) (bk : Nat → Nat → Nat) (i : Nat) : Prop := clP S (bk i 0) (bk i 1) (bk i 2)
abbrev jdP (S : TS) (bk : Nat → Nat → Nat) (i : Nat) : Prop := ¬ jcl S bk i ∨ jdB S bk i i = true
def jdN (S : TS) (bk : Nat → Nat → Nat) : Nat → Nat → Int
  | 0, _ => -1
  | n + 1, i => if jdP S bk i then (i : Int) else jdN S bk n (i + 1)
theorem jdB_mono {S : TS} {bk : Nat → Nat → Nat} {i k : Nat} (h : jdB S bk i k = true) : ∀ j, jdB S bk i (k + j) = true := by
  intro j
  induction j with
  | zero => exact h
  | succ j ih => show (jdB S bk i (k + j) || bdK S bk i (k + j)) = true; rw [ih]; rfl
section M28
variable {g : EG} {d t s : Nat} {h h1 : PH} {Q : EQ} {S : TS}
theorem lp_judge2 (B : sB S) (V : mV h S) {n : Nat} {bk : Nat → Nat → Nat} (G : bkB S n bk) (GV : bkV h n bk) {i : Nat} (hi : i < n) (hgood : ∀ k, k < i → jcl S bk k) (k : eX g 5 mX9_judge 148 [(0, .ref (gA g 205)), (1, .int (zI ↑i)), (2, .int (zI ↑(bk i 0))), (3, .int (zI ↑(bk i 1))), (4, .int (zI (↑(clS S (bk i 1) (bk i 2))))), (5, .int (zI (b01 (jdB S bk i i = true))))] [] (tau t s) h Q) : ∀ m j : Nat, j + m = i → eX g 5 mX9_judge 63 [(0, .ref (gA g 205)), (1, .int (zI ↑i)), (2, .int (zI ↑(bk i 0))), (3, .int (zI ↑(bk i 1))), (4, .int (zI (↑(clS S (bk i 1) (bk i 2))))), (5, .int (zI (b01 (jdB S bk i j = true)))), (6, .int (zI ↑j))] [] (tau t s) h Q := by
  have hP8 := B.1
  have hC8 := B.2.1
  have hE10 := B.2.2.1
  have hF99 := B.2.2.2.2.2.2.1
  have hg9 := G.1
  have hg8 := G.2 i hi
  have hc8 := clS_lt B hg8.2.1 (bk i 2)
  intro m
  induction m with
  | zero =>
    intro j hj
    refine eR_ild_6 dX9_judge_63 ?_
    refine eR_ildn_1 dX9_judge_65 rfl ?_
    refine eR_icmp_ge (tgt := 148) dX9_judge_66 (by decide) (by first | exact rg_b01 _ | (unfold rg; omega)) (by first | exact rg_b01 _ | (unfold rg; omega)) (fun c66 => ?_) (fun c66 => absurd c66 (by omega))
    have e9 : j = i := by omega
    subst e9
    exact eX_lv (lv2 := List.take 6 _) (fun q hq => List.mem_of_mem_take hq) k
  | succ m ih =>
    intro j hj
    have hg7 := G.2 j (by omega)
    have hc7 := clS_lt B hg7.2.1 (bk j 2)
    have ha7 : clS S (bk j 1) (bk j 2) &&& clS S (bk i 1) (bk i 2) ≤ clS S (bk j 1) (bk j 2) := Nat.and_le_left
    refine eR_ild_6 dX9_judge_63 ?_
    refine eR_ildn_1 dX9_judge_65 rfl ?_
    refine eR_icmp_ge (tgt := 148) dX9_judge_66 (by decide) (by first | exact rg_b01 _ | (unfold rg; omega)) (by first | exact rg_b01 _ | (unfold rg; omega)) (fun c66 => absurd c66 (by omega)) (fun c66 => ?_)
    refine eR_ild_5 dX9_judge_69 ?_
    refine eR_if_ne (tgt := 148) dX9_judge_71 (by decide) (by first | exact rg_b01 _ | (unfold rg; omega)) (fun c71 => ?_) (fun c71 => ?_)
    · replace c71 := b01_ne0.mp c71
      refine eX_lv (lv2 := List.take 6 _) (fun q hq => List.mem_of_mem_take hq) ?_
      have e9 := jdB_mono c71 (i - j)
      rw [show j + (i - j) = i from by omega] at e9
      rw [b01_t e9] at k
      rw [b01_t c71]
      exact k
    · replace c71 := b01_eq0.mp c71
      refine eR_aldn_0 dX9_judge_74 rfl ?_
      refine eR_getR (i := 223) dX9_judge_75 gf_X9_66 th_205 rfl ?_
      refine eR_ic dX9_judge_78 ?_
      refine eR_ild_6 dX9_judge_79 ?_
      refine eR_imul dX9_judge_81 ?_
      refine eR_iald (n := 3 * j) dX9_judge_82 th_223 (by omega) (by omega) (by decide) ?_
      refine eX_pcI ((GV.2 j (by omega)).1) ?_
      refine eR_ildn_2 dX9_judge_83 rfl ?_
      refine eR_icmp_ne (tgt := 139) dX9_judge_84 (by decide) (by first | exact rg_b01 _ | (unfold rg; omega)) (by first | exact rg_b01 _ | (unfold rg; omega)) (fun c84 => ?_) (fun c84 => ?_)
      · refine eR_ic dX9_judge_139 ?_
        refine eR_ist_5 dX9_judge_140 (by decide) rfl ?_
        refine eR_iinc_6 dX9_judge_142 (by decide) rfl ?_
        refine eR_goto (tgt := 63) dX9_judge_145 (by decide) ?_
        have f4 : b01 (jdB S bk i (j + 1) = true) = 0 := by first | exact b01_t (by rw [jdB]; unfold bdK; grind) | exact b01_f (by rw [jdB]; unfold bdK; grind) | exact b01_t (by rw [jdB, Bool.or_eq_true]; exact Or.inr (by unfold bdK; simp only [Bool.and_eq_true, Bool.or_eq_true, decide_eq_true_eq]; omega))
        have e8 := ih (j + 1) (by omega)
        rw [f4] at e8
        exact e8
      · refine eR_aldn_0 dX9_judge_87 rfl ?_
        refine eR_getR (i := 223) dX9_judge_88 gf_X9_66 th_205 rfl ?_
        refine eR_ic dX9_judge_91 ?_
        refine eR_ild_6 dX9_judge_92 ?_
        refine eR_imul dX9_judge_94 ?_
        refine eR_ic dX9_judge_95 ?_
        refine eR_iadd dX9_judge_96 ?_
        refine eR_iald (n := 3 * j + 1) dX9_judge_97 th_223 (by omega) (by omega) (by decide) ?_
        refine eX_pcI ((GV.2 j (by omega)).2.1) ?_
        refine eR_ildn_3 dX9_judge_98 rfl ?_
        refine eR_icmp_eq (tgt := 135) dX9_judge_99 (by decide) (by first | exact rg_b01 _ | (unfold rg; omega)) (by first | exact rg_b01 _ | (unfold rg; omega)) (fun c99 => ?_) (fun c99 => ?_)
        · refine eR_ic dX9_judge_135 ?_
          refine eR_goto (tgt := 140) dX9_judge_136 (by decide) ?_
          refine eR_ist_5 dX9_judge_140 (by decide) rfl ?_
          refine eR_iinc_6 dX9_judge_142 (by decide) rfl ?_
          refine eR_goto (tgt := 63) dX9_judge_145 (by decide) ?_
          have f4 : b01 (jdB S bk i (j + 1) = true) = 1 := by first | exact b01_t (by rw [jdB]; unfold bdK; grind) | exact b01_f (by rw [jdB]; unfold bdK; grind) | exact b01_t (by rw [jdB, Bool.or_eq_true]; exact Or.inr (by unfold bdK; simp only [Bool.and_eq_true, Bool.or_eq_true, decide_eq_true_eq]; omega))
          have e8 := ih (j + 1) (by omega)
          rw [f4] at e8
          exact e8
        · refine eR_aldn_0 dX9_judge_102 rfl ?_
          refine eR_ildn_2 dX9_judge_103 rfl ?_
          refine eR_aldn_0 dX9_judge_104 rfl ?_
          refine eR_getR (i := 223) dX9_judge_105 gf_X9_66 th_205 rfl ?_
          refine eR_ic dX9_judge_108 ?_
          refine eR_ild_6 dX9_judge_109 ?_
          refine eR_imul dX9_judge_111 ?_
          refine eR_ic dX9_judge_112 ?_
          refine eR_iadd dX9_judge_113 ?_
          refine eR_iald (n := 3 * j + 1) dX9_judge_114 th_223 (by omega) (by omega) (by decide) ?_
          refine eX_pcI ((GV.2 j (by omega)).2.1) ?_
          refine eR_aldn_0 dX9_judge_115 rfl ?_
          refine eR_getR (i := 223) dX9_judge_116 gf_X9_66 th_205 rfl ?_
          refine eR_ic dX9_judge_119 ?_
          refine eR_ild_6 dX9_judge_120 ?_
          refine eR_imul dX9_judge_122 ?_
          refine eR_ic dX9_judge_123 ?_
          refine eR_iadd dX9_judge_124 ?_
          refine eR_iald (n := 3 * j + 2) dX9_judge_125 th_223 (by omega) (by omega) (by decide) ?_
          refine eX_pcI ((GV.2 j (by omega)).2.2) ?_
          refine eR_callVi [_, _, _] rfl dX9_judge_126 ok_mX9_cladBy kw_1057 rfl rfl th_205 rfl (Nat.le_of_ble_eq_true rfl) (d' := 4) (by decide) (Nat.le_of_ble_eq_true rfl) ?_
          refine sp_cladBy (hour := (bk i 0)) (c := (bk j 1)) (what := (bk j 2)) B V (by omega) (by omega) (by omega) ?_
          refine eX_pcI (show (clad S ((bk i 0)) ((bk j 1)) ((bk j 2)) : Int) = ↑(clS S (bk j 1) (bk j 2)) from by rw [show bk i 0 = bk j 0 from by omega]; exact if_pos (hgood j (by omega))) ?_
          refine eR_ild_4 dX9_judge_129 ?_
          refine eR_iand dX9_judge_131 ?_
          refine eX_pcI (show (zAnd (↑(clS S (bk j 1) (bk j 2))) (↑(clS S (bk i 1) (bk i 2))) : Int) = ↑(clS S (bk j 1) (bk j 2) &&& clS S (bk i 1) (bk i 2) : Nat) from zAnd_nat (by omega)) ?_
          refine eR_if_eq (tgt := 139) dX9_judge_132 (by decide) (by first | exact rg_b01 _ | (unfold rg; omega)) (fun c132 => ?_) (fun c132 => ?_)
          · refine eR_ic dX9_judge_139 ?_
            refine eR_ist_5 dX9_judge_140 (by decide) rfl ?_
            refine eR_iinc_6 dX9_judge_142 (by decide) rfl ?_
            refine eR_goto (tgt := 63) dX9_judge_145 (by decide) ?_
            have f4 : b01 (jdB S bk i (j + 1) = true) = 0 := by first | exact b01_t (by rw [jdB]; unfold bdK; grind) | exact b01_f (by rw [jdB]; unfold bdK; grind) | exact b01_t (by rw [jdB, Bool.or_eq_true]; exact Or.inr (by unfold bdK; simp only [Bool.and_eq_true, Bool.or_eq_true, decide_eq_true_eq]; omega))
            have e8 := ih (j + 1) (by omega)
            rw [f4] at e8
            exact e8
          · refine eR_ic dX9_judge_135 ?_
            refine eR_goto (tgt := 140) dX9_judge_136 (by decide) ?_
            refine eR_ist_5 dX9_judge_140 (by decide) rfl ?_
            refine eR_iinc_6 dX9_judge_142 (by decide) rfl ?_
            refine eR_goto (tgt := 63) dX9_judge_145 (by decide) ?_
            have f4 : b01 (jdB S bk i (j + 1) = true) = 1 := by first | exact b01_t (by rw [jdB]; unfold bdK; grind) | exact b01_f (by rw [jdB]; unfold bdK; grind) | exact b01_t (by rw [jdB, Bool.or_eq_true]; exact Or.inr (by unfold bdK; simp only [Bool.and_eq_true, Bool.or_eq_true, decide_eq_true_eq]; omega))
            have e8 := ih (j + 1) (by omega)
            rw [f4] at e8
            exact e8
theorem lp_judge (B : sB S) (V : mV h S) {n : Nat} {bk : Nat → Nat → Nat} (G : bkB S n bk) (GV : bkV h n bk) : ∀ m i : Nat, i + m = n → (∀ k, k < i → jcl S bk k) → Q (.int (zI (jdN S bk m i))) (tau t s) h → eX g 5 mX9_judge 2 [(0, .ref (gA g 205)), (1, .int (zI ↑i))] [] (tau t s) h Q := by
  have hP8 := B.1
  have hC8 := B.2.1
  have hE10 := B.2.2.1
  have hF99 := B.2.2.2.2.2.2.1
  have hg9 := G.1
  intro m
  induction m with
  | zero =>
    intro i hi hgood k
    refine eR_ildn_1 dX9_judge_2 rfl ?_
    refine eR_aldn_0 dX9_judge_3 rfl ?_
    refine eR_getI dX9_judge_4 gf_X9_157 th_205 rfl ?_
    refine eX_pcI (GV.1) ?_
    refine eR_icmp_ge (tgt := 161) dX9_judge_7 (by decide) (by first | exact rg_b01 _ | (unfold rg; omega)) (by first | exact rg_b01 _ | (unfold rg; omega)) (fun c7 => ?_) (fun c7 => absurd c7 (by omega))
    refine eR_ic dX9_judge_161 ?_
    refine eR_iret dX9_judge_162 rfl rfl ?_
    exact k
  | succ m ih =>
    intro i hi hgood k
    have hg8 := G.2 i (by omega)
    have hc8 := clS_lt B hg8.2.1 (bk i 2)
    by_cases hcl : jcl S bk i
    · refine eR_ildn_1 dX9_judge_2 rfl ?_
      refine eR_aldn_0 dX9_judge_3 rfl ?_
      refine eR_getI dX9_judge_4 gf_X9_157 th_205 rfl ?_
      refine eX_pcI (GV.1) ?_
      refine eR_icmp_ge (tgt := 161) dX9_judge_7 (by decide) (by first | exact rg_b01 _ | (unfold rg; omega)) (by first | exact rg_b01 _ | (unfold rg; omega)) (fun c7 => absurd c7 (by omega)) (fun c7 => ?_)
      refine eR_aldn_0 dX9_judge_10 rfl ?_
      refine eR_getR (i := 223) dX9_judge_11 gf_X9_66 th_205 rfl ?_
      refine eR_ic dX9_judge_14 ?_
      refine eR_ildn_1 dX9_judge_15 rfl ?_
      refine eR_imul dX9_judge_16 ?_
      refine eR_iald (n := 3 * i) dX9_judge_17 th_223 (by omega) (by omega) (by decide) ?_
      refine eX_pcI ((GV.2 i (by omega)).1) ?_
      refine eR_istn_n2 dX9_judge_18 rfl (by decide) rfl ?_
      refine eR_aldn_0 dX9_judge_19 rfl ?_
      refine eR_getR (i := 223) dX9_judge_20 gf_X9_66 th_205 rfl ?_
      refine eR_ic dX9_judge_23 ?_
      refine eR_ildn_1 dX9_judge_24 rfl ?_
      refine eR_imul dX9_judge_25 ?_
      refine eR_ic dX9_judge_26 ?_
      refine eR_iadd dX9_judge_27 ?_
      refine eR_iald (n := 3 * i + 1) dX9_judge_28 th_223 (by omega) (by omega) (by decide) ?_
      refine eX_pcI ((GV.2 i (by omega)).2.1) ?_
      refine eR_istn_n3 dX9_judge_29 rfl (by decide) rfl ?_
      refine eR_aldn_0 dX9_judge_30 rfl ?_
      refine eR_ildn_2 dX9_judge_31 rfl ?_
      refine eR_ildn_3 dX9_judge_32 rfl ?_
      refine eR_aldn_0 dX9_judge_33 rfl ?_
      refine eR_getR (i := 223) dX9_judge_34 gf_X9_66 th_205 rfl ?_
      refine eR_ic dX9_judge_37 ?_
      refine eR_ildn_1 dX9_judge_38 rfl ?_
      refine eR_imul dX9_judge_39 ?_
      refine eR_ic dX9_judge_40 ?_
      refine eR_iadd dX9_judge_41 ?_
      refine eR_iald (n := 3 * i + 2) dX9_judge_42 th_223 (by omega) (by omega) (by decide) ?_
      refine eX_pcI ((GV.2 i (by omega)).2.2) ?_
      refine eR_callVi [_, _, _] rfl dX9_judge_43 ok_mX9_cladBy kw_1057 rfl rfl th_205 rfl (Nat.le_of_ble_eq_true rfl) (d' := 4) (by decide) (Nat.le_of_ble_eq_true rfl) ?_
      refine sp_cladBy (hour := (bk i 0)) (c := (bk i 1)) (what := (bk i 2)) B V (by omega) (by omega) (by omega) ?_
      refine eX_pcI (show (clad S ((bk i 0)) ((bk i 1)) ((bk i 2)) : Int) = ↑(clS S (bk i 1) (bk i 2)) from if_pos hcl) ?_
      refine eR_ist_n4 dX9_judge_46 (by decide) rfl ?_
      refine eR_ild_4 dX9_judge_48 ?_
      refine eR_if_ge (tgt := 57) dX9_judge_50 (by decide) (by first | exact rg_b01 _ | (unfold rg; omega)) (fun c50 => ?_) (fun c50 => absurd c50 (by omega))
      refine eR_ic dX9_judge_57 ?_
      refine eX_pcI (show (0 : Int) = b01 (jdB S bk i 0 = true) from (b01_f (by simp [jdB])).symm) ?_
      refine eR_ist_n5 dX9_judge_58 (by decide) rfl ?_
      refine eR_ic dX9_judge_60 ?_
      refine eR_ist_n6 dX9_judge_61 (by decide) rfl ?_
      refine lp_judge2 (n := n) (i := i) B V G GV (by omega) hgood ?_ i 0 (by omega)
      refine eR_ild_5 dX9_judge_148 ?_
      refine eR_if_eq (tgt := 155) dX9_judge_150 (by decide) (by first | exact rg_b01 _ | (unfold rg; omega)) (fun c150 => ?_) (fun c150 => ?_)
      · replace c150 := b01_eq0.mp c150
        refine eR_iinc_1 dX9_judge_155 (by decide) rfl ?_
        refine eR_goto (tgt := 2) dX9_judge_158 (by decide) ?_
        refine eX_lv (lv2 := List.take 2 _) (fun q hq => List.mem_of_mem_take hq) ?_
        have e9 : jdN S bk (m + 1) i = jdN S bk m (i + 1) := if_neg (by rintro (q1 | q1) <;> contradiction)
        rw [e9] at k
        exact ih (i + 1) (by omega) (fun x hx => by rcases Nat.lt_or_ge x i with q | q; exact hgood x q; rw [show x = i from by omega]; exact hcl) k
      · replace c150 := b01_ne0.mp c150
        refine eR_ildn_1 dX9_judge_153 rfl ?_
        refine eR_iret dX9_judge_154 rfl rfl ?_
        have e9 : jdN S bk (m + 1) i = (i : Int) := if_pos (Or.inr c150)
        rw [e9] at k
        exact k
    · refine eR_ildn_1 dX9_judge_2 rfl ?_
      refine eR_aldn_0 dX9_judge_3 rfl ?_
      refine eR_getI dX9_judge_4 gf_X9_157 th_205 rfl ?_
      refine eX_pcI (GV.1) ?_
      refine eR_icmp_ge (tgt := 161) dX9_judge_7 (by decide) (by first | exact rg_b01 _ | (unfold rg; omega)) (by first | exact rg_b01 _ | (unfold rg; omega)) (fun c7 => absurd c7 (by omega)) (fun c7 => ?_)
      refine eR_aldn_0 dX9_judge_10 rfl ?_
      refine eR_getR (i := 223) dX9_judge_11 gf_X9_66 th_205 rfl ?_
      refine eR_ic dX9_judge_14 ?_
      refine eR_ildn_1 dX9_judge_15 rfl ?_
      refine eR_imul dX9_judge_16 ?_
      refine eR_iald (n := 3 * i) dX9_judge_17 th_223 (by omega) (by omega) (by decide) ?_
      refine eX_pcI ((GV.2 i (by omega)).1) ?_
      refine eR_istn_n2 dX9_judge_18 rfl (by decide) rfl ?_
      refine eR_aldn_0 dX9_judge_19 rfl ?_
      refine eR_getR (i := 223) dX9_judge_20 gf_X9_66 th_205 rfl ?_
      refine eR_ic dX9_judge_23 ?_
      refine eR_ildn_1 dX9_judge_24 rfl ?_
      refine eR_imul dX9_judge_25 ?_
      refine eR_ic dX9_judge_26 ?_
      refine eR_iadd dX9_judge_27 ?_
      refine eR_iald (n := 3 * i + 1) dX9_judge_28 th_223 (by omega) (by omega) (by decide) ?_
      refine eX_pcI ((GV.2 i (by omega)).2.1) ?_
      refine eR_istn_n3 dX9_judge_29 rfl (by decide) rfl ?_
      refine eR_aldn_0 dX9_judge_30 rfl ?_
      refine eR_ildn_2 dX9_judge_31 rfl ?_
      refine eR_ildn_3 dX9_judge_32 rfl ?_
      refine eR_aldn_0 dX9_judge_33 rfl ?_
      refine eR_getR (i := 223) dX9_judge_34 gf_X9_66 th_205 rfl ?_
      refine eR_ic dX9_judge_37 ?_
      refine eR_ildn_1 dX9_judge_38 rfl ?_
      refine eR_imul dX9_judge_39 ?_
      refine eR_ic dX9_judge_40 ?_
      refine eR_iadd dX9_judge_41 ?_
      refine eR_iald (n := 3 * i + 2) dX9_judge_42 th_223 (by omega) (by omega) (by decide) ?_
      refine eX_pcI ((GV.2 i (by omega)).2.2) ?_
      refine eR_callVi [_, _, _] rfl dX9_judge_43 ok_mX9_cladBy kw_1057 rfl rfl th_205 rfl (Nat.le_of_ble_eq_true rfl) (d' := 4) (by decide) (Nat.le_of_ble_eq_true rfl) ?_
      refine sp_cladBy (hour := (bk i 0)) (c := (bk i 1)) (what := (bk i 2)) B V (by omega) (by omega) (by omega) ?_
      refine eX_pcI (show (clad S ((bk i 0)) ((bk i 1)) ((bk i 2)) : Int) = (-1) from if_neg hcl) ?_
      refine eR_ist_n4 dX9_judge_46 (by decide) rfl ?_
      refine eR_ild_4 dX9_judge_48 ?_
      refine eR_if_ge (tgt := 57) dX9_judge_50 (by decide) (by first | exact rg_b01 _ | (unfold rg; omega)) (fun c50 => absurd c50 (by decide)) (fun c50 => ?_)
      refine eR_ic dX9_judge_53 ?_
      refine eR_goto (tgt := 58) dX9_judge_54 (by decide) ?_
      refine eR_ist_n5 dX9_judge_58 (by decide) rfl ?_
      refine eR_ic dX9_judge_60 ?_
      refine eR_ist_n6 dX9_judge_61 (by decide) rfl ?_
      refine eR_ild_6 dX9_judge_63 ?_
      refine eR_ildn_1 dX9_judge_65 rfl ?_
      refine eR_icmp_ge (tgt := 148) dX9_judge_66 (by decide) (by first | exact rg_b01 _ | (unfold rg; omega)) (by first | exact rg_b01 _ | (unfold rg; omega)) (fun c66 => ?_) (fun c66 => ?_)
      · refine eR_ild_5 dX9_judge_148 ?_
        refine eR_if_eq (tgt := 155) dX9_judge_150 (by decide) (by first | exact rg_b01 _ | (unfold rg; omega)) (fun c150 => absurd c150 (by decide)) (fun c150 => ?_)
        refine eR_ildn_1 dX9_judge_153 rfl ?_
        refine eR_iret dX9_judge_154 rfl rfl ?_
        have e9 : jdN S bk (m + 1) i = (i : Int) := if_pos (Or.inl hcl)
        rw [e9] at k
        exact k
      · refine eR_ild_5 dX9_judge_69 ?_
        refine eR_if_ne (tgt := 148) dX9_judge_71 (by decide) (by first | exact rg_b01 _ | (unfold rg; omega)) (fun c71 => ?_) (fun c71 => absurd c71 (by decide))
        refine eR_ild_5 dX9_judge_148 ?_
        refine eR_if_eq (tgt := 155) dX9_judge_150 (by decide) (by first | exact rg_b01 _ | (unfold rg; omega)) (fun c150 => absurd c150 (by decide)) (fun c150 => ?_)
        refine eR_ildn_1 dX9_judge_153 rfl ?_
        refine eR_iret dX9_judge_154 rfl rfl ?_
        have e9 : jdN S bk (m + 1) i = (i : Int) := if_pos (Or.inl hcl)
        rw [e9] at k
        exact k
theorem sp_judge (B : sB S) (V : mV h S) {n : Nat} {bk : Nat → Nat → Nat} (G : bkB S n bk) (GV : bkV h n bk) (k : Q (.int (zI (jdN S bk n 0))) (tau t s) h) : eX g 5 mX9_judge 0 (lv_args 0 [.ref (gA g 205)]) [] (tau t s) h Q := by
  show eX g 5 mX9_judge 0 [(0, .ref (gA g 205))] [] (tau t s) h Q
  refine eR_ic dX9_judge_0 ?_
  refine eR_istn_n1 dX9_judge_1 rfl (by decide) rfl ?_
  exact lp_judge B V G GV n 0 (by omega) (fun x hx => absurd hx (Nat.not_lt_zero x)) k
end M28
