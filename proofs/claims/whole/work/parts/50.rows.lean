/-- n sightings in the class's rows: HOUR, COAT, PLACE -/
def sgC (h : PH) (n : Nat) (sg : Nat → Nat → Nat) : Prop := h 38 1 = (n : Int) ∧ ∀ i, i < n → h (40 + i) 0 = (sg i 2 : Int) ∧ h (40 + i) 1 = (sg i 0 : Int) ∧ h (40 + i) 2 = (sg i 1 : Int)
def bkC (h : PH) (n : Nat) (bk : Nat → Nat → Nat) : Prop := h 70 1 = (n : Int) ∧ ∀ i, i < n → h (72 + i) 0 = (bk i 0 : Int) ∧ h (72 + i) 1 = (bk i 1 : Int) ∧ h (72 + i) 2 = (bk i 2 : Int)
section M50
variable {g : EG} {d t s u : Nat} {h h1 : PH} {Q : EQ} {S : TS}
theorem rw_append_sg {n : Nat} (hn : h 38 1 = (n : Int)) (hn30 : n ≤ 30) {a b c : Int} (k0 : n = 30 → Q (.int (zI (-1000000004))) (tau t s) h) (k1 : n < 30 → Q (.int (zI (↑n + 1))) (tau t s) (hU (hU (hU (hU h (40 + n) 0 a) (40 + n) 1 b) (40 + n) 2 c) 38 1 (↑n + 1))) : eX g 0 mX5_append 0 (lv_args 0 [.ref (gA g 38), .int (zI a), .int (zI b), .int (zI c)]) [] (tau t s) h Q := by
  show eX g 0 mX5_append 0 [(0, .ref (gA g 38)), (1, .int (zI a)), (2, .int (zI b)), (3, .int (zI c))] [] (tau t s) h Q
  refine eR_aldn_0 dX5_append_0 rfl ?_
  refine eR_getI dX5_append_1 gf_X5_16 th_38 rfl ?_
  refine eX_pcI (hn) ?_
  refine eR_bi (z := 30) dX5_append_4 rfl ?_
  refine eR_icmp_lt (tgt := 12) dX5_append_6 (by decide) (by first | exact rg_b01 _ | (unfold rg; omega)) (by first | exact rg_b01 _ | (unfold rg; omega)) (fun c6 => ?_) (fun c6 => ?_)
  · refine eR_aldn_0 dX5_append_12 rfl ?_
    refine eR_getR (i := 39) dX5_append_13 gf_X5_11 th_38 rfl ?_
    refine eR_aldn_0 dX5_append_16 rfl ?_
    refine eR_getI dX5_append_17 gf_X5_16 th_38 rfl ?_
    refine eX_pcI (hn) ?_
    refine eR_aald3 (n := n) (i := 40 + n) dX5_append_20 th_39 (rfl) (by omega) (by decide) (rowsK_at (by omega)) ?_
    refine eR_ic dX5_append_21 ?_
    refine eR_ildn_1 dX5_append_22 rfl ?_
    refine eR_iast (n := 0) dX5_append_23 (tr_g (i := n) (by omega)) (rfl) (by decide) (by decide) ?_
    refine eR_aldn_0 dX5_append_24 rfl ?_
    refine eR_getR (i := 39) dX5_append_25 gf_X5_11 th_38 rfl ?_
    refine eR_aldn_0 dX5_append_28 rfl ?_
    refine eR_getI dX5_append_29 gf_X5_16 th_38 rfl ?_
    refine eX_pcI (congrFun (hU_a _ _ _ (by omega)) _) ?_
    refine eX_pcI (hn) ?_
    refine eR_aald3 (n := n) (i := 40 + n) dX5_append_32 th_39 (rfl) (by omega) (by decide) (rowsK_at (by omega)) ?_
    refine eR_ic dX5_append_33 ?_
    refine eR_ildn_2 dX5_append_34 rfl ?_
    refine eR_iast (n := 1) dX5_append_35 (tr_g (i := n) (by omega)) (rfl) (by decide) (by decide) ?_
    refine eR_aldn_0 dX5_append_36 rfl ?_
    refine eR_getR (i := 39) dX5_append_37 gf_X5_11 th_38 rfl ?_
    refine eR_aldn_0 dX5_append_40 rfl ?_
    refine eR_getI dX5_append_41 gf_X5_16 th_38 rfl ?_
    refine eX_pcI (congrFun (hU_a _ _ _ (by omega)) _) ?_
    refine eX_pcI (congrFun (hU_a _ _ _ (by omega)) _) ?_
    refine eX_pcI (hn) ?_
    refine eR_aald3 (n := n) (i := 40 + n) dX5_append_44 th_39 (rfl) (by omega) (by decide) (rowsK_at (by omega)) ?_
    refine eR_ic dX5_append_45 ?_
    refine eR_ildn_3 dX5_append_46 rfl ?_
    refine eR_iast (n := 2) dX5_append_47 (tr_g (i := n) (by omega)) (rfl) (by decide) (by decide) ?_
    refine eR_aldn_0 dX5_append_48 rfl ?_
    refine eR_dup dX5_append_49 rfl ?_
    refine eR_getI dX5_append_50 gf_X5_16 th_38 rfl ?_
    refine eX_pcI (congrFun (hU_a _ _ _ (by omega)) _) ?_
    refine eX_pcI (congrFun (hU_a _ _ _ (by omega)) _) ?_
    refine eX_pcI (congrFun (hU_a _ _ _ (by omega)) _) ?_
    refine eX_pcI (hn) ?_
    refine eR_ic dX5_append_53 ?_
    refine eR_iadd dX5_append_54 ?_
    refine eR_putI dX5_append_55 pf_X5_16 th_38 rfl ?_
    refine eR_aldn_0 dX5_append_58 rfl ?_
    refine eR_getI dX5_append_59 gf_X5_16 th_38 rfl ?_
    refine eX_pcI (hU_s _ _ _ _) ?_
    refine eR_iret dX5_append_62 rfl rfl ?_
    exact k1 (by omega)
  · refine eR_ldc (z := -1000000004) dX5_append_9 kw_776 (by decide) ?_
    refine eR_iret dX5_append_11 rfl rfl ?_
    exact k0 (by omega)
theorem rw_empty_sg (k : Q .null (tau t s) (hU h 38 1 0)) : eX g 0 mX5_empty 0 (lv_args 0 [.ref (gA g 38)]) [] (tau t s) h Q := by
  show eX g 0 mX5_empty 0 [(0, .ref (gA g 38))] [] (tau t s) h Q
  refine eR_aldn_0 dX5_empty_0 rfl ?_
  refine eR_ic dX5_empty_1 ?_
  refine eR_putI dX5_empty_2 pf_X5_16 th_38 rfl ?_
  refine eR_vret dX5_empty_5 rfl ?_
  exact k
theorem rw_same_sg {n : Nat} {sg : Nat → Nat → Nat} (G : sgC h n sg) (hn30 : n ≤ 30) (hb : ∀ i, i < n → sg i 2 < 24 ∧ sg i 0 < 8) {i j : Nat} (hi : i < n) (hj : j < n) (k : Q (.int (zI (b01 (sg i 2 = sg j 2 ∧ sg i 0 = sg j 0)))) (tau t s) h) : eX g 0 mX5_tellOfTheSame 0 (lv_args 0 [.ref (gA g 38), .int (zI ↑i), .int (zI ↑j)]) [] (tau t s) h Q := by
  show eX g 0 mX5_tellOfTheSame 0 [(0, .ref (gA g 38)), (1, .int (zI ↑i)), (2, .int (zI ↑j))] [] (tau t s) h Q
  have hbi := hb i hi
  have hbj := hb j hj
  refine eR_aldn_0 dX5_tellOfTheSame_0 rfl ?_
  refine eR_getR (i := 39) dX5_tellOfTheSame_1 gf_X5_11 th_38 rfl ?_
  refine eR_ildn_1 dX5_tellOfTheSame_4 rfl ?_
  refine eR_aald3 (n := i) (i := 40 + i) dX5_tellOfTheSame_5 th_39 (rfl) (by omega) (by decide) (rowsK_at (by omega)) ?_
  refine eR_ic dX5_tellOfTheSame_6 ?_
  refine eR_iald (n := 0) dX5_tellOfTheSame_7 (tr_g (i := i) (by omega)) (rfl) (by decide) (by decide) ?_
  refine eX_pcI ((G.2 i (by omega)).1) ?_
  refine eR_aldn_0 dX5_tellOfTheSame_8 rfl ?_
  refine eR_getR (i := 39) dX5_tellOfTheSame_9 gf_X5_11 th_38 rfl ?_
  refine eR_ildn_2 dX5_tellOfTheSame_12 rfl ?_
  refine eR_aald3 (n := j) (i := 40 + j) dX5_tellOfTheSame_13 th_39 (rfl) (by omega) (by decide) (rowsK_at (by omega)) ?_
  refine eR_ic dX5_tellOfTheSame_14 ?_
  refine eR_iald (n := 0) dX5_tellOfTheSame_15 (tr_g (i := j) (by omega)) (rfl) (by decide) (by decide) ?_
  refine eX_pcI ((G.2 j (by omega)).1) ?_
  refine eR_icmp_ne (tgt := 42) dX5_tellOfTheSame_16 (by decide) (by first | exact rg_b01 _ | (unfold rg; omega)) (by first | exact rg_b01 _ | (unfold rg; omega)) (fun c16 => ?_) (fun c16 => ?_)
  · refine eR_ic dX5_tellOfTheSame_42 ?_
    refine eR_zret dX5_tellOfTheSame_43 rfl (by omega) ?_
    rw [show (b01 (sg i 2 = sg j 2 ∧ sg i 0 = sg j 0) : Int) = 0 from by first | exact b01_t ⟨by omega, by omega⟩ | exact b01_f (by rintro ⟨q1, q2⟩; omega)] at k; exact k
  · refine eR_aldn_0 dX5_tellOfTheSame_19 rfl ?_
    refine eR_getR (i := 39) dX5_tellOfTheSame_20 gf_X5_11 th_38 rfl ?_
    refine eR_ildn_1 dX5_tellOfTheSame_23 rfl ?_
    refine eR_aald3 (n := i) (i := 40 + i) dX5_tellOfTheSame_24 th_39 (rfl) (by omega) (by decide) (rowsK_at (by omega)) ?_
    refine eR_ic dX5_tellOfTheSame_25 ?_
    refine eR_iald (n := 1) dX5_tellOfTheSame_26 (tr_g (i := i) (by omega)) (rfl) (by decide) (by decide) ?_
    refine eX_pcI ((G.2 i (by omega)).2.1) ?_
    refine eR_aldn_0 dX5_tellOfTheSame_27 rfl ?_
    refine eR_getR (i := 39) dX5_tellOfTheSame_28 gf_X5_11 th_38 rfl ?_
    refine eR_ildn_2 dX5_tellOfTheSame_31 rfl ?_
    refine eR_aald3 (n := j) (i := 40 + j) dX5_tellOfTheSame_32 th_39 (rfl) (by omega) (by decide) (rowsK_at (by omega)) ?_
    refine eR_ic dX5_tellOfTheSame_33 ?_
    refine eR_iald (n := 1) dX5_tellOfTheSame_34 (tr_g (i := j) (by omega)) (rfl) (by decide) (by decide) ?_
    refine eX_pcI ((G.2 j (by omega)).2.1) ?_
    refine eR_icmp_ne (tgt := 42) dX5_tellOfTheSame_35 (by decide) (by first | exact rg_b01 _ | (unfold rg; omega)) (by first | exact rg_b01 _ | (unfold rg; omega)) (fun c35 => ?_) (fun c35 => ?_)
    · refine eR_ic dX5_tellOfTheSame_42 ?_
      refine eR_zret dX5_tellOfTheSame_43 rfl (by omega) ?_
      rw [show (b01 (sg i 2 = sg j 2 ∧ sg i 0 = sg j 0) : Int) = 0 from by first | exact b01_t ⟨by omega, by omega⟩ | exact b01_f (by rintro ⟨q1, q2⟩; omega)] at k; exact k
    · refine eR_ic dX5_tellOfTheSame_38 ?_
      refine eR_goto (tgt := 43) dX5_tellOfTheSame_39 (by decide) ?_
      refine eR_zret dX5_tellOfTheSame_43 rfl (by omega) ?_
      rw [show (b01 (sg i 2 = sg j 2 ∧ sg i 0 = sg j 0) : Int) = 1 from by first | exact b01_t ⟨by omega, by omega⟩ | exact b01_f (by rintro ⟨q1, q2⟩; omega)] at k; exact k
theorem rw_append_bk {n : Nat} (hn : h 70 1 = (n : Int)) (hn30 : n ≤ 30) {a b c : Int} (k0 : n = 30 → Q (.int (zI (-1000000004))) (tau t s) h) (k1 : n < 30 → Q (.int (zI (↑n + 1))) (tau t s) (hU (hU (hU (hU h (72 + n) 0 a) (72 + n) 1 b) (72 + n) 2 c) 70 1 (↑n + 1))) : eX g 0 mX5_append 0 (lv_args 0 [.ref (gA g 70), .int (zI a), .int (zI b), .int (zI c)]) [] (tau t s) h Q := by
  show eX g 0 mX5_append 0 [(0, .ref (gA g 70)), (1, .int (zI a)), (2, .int (zI b)), (3, .int (zI c))] [] (tau t s) h Q
  refine eR_aldn_0 dX5_append_0 rfl ?_
  refine eR_getI dX5_append_1 gf_X5_16 th_70 rfl ?_
  refine eX_pcI (hn) ?_
  refine eR_bi (z := 30) dX5_append_4 rfl ?_
  refine eR_icmp_lt (tgt := 12) dX5_append_6 (by decide) (by first | exact rg_b01 _ | (unfold rg; omega)) (by first | exact rg_b01 _ | (unfold rg; omega)) (fun c6 => ?_) (fun c6 => ?_)
  · refine eR_aldn_0 dX5_append_12 rfl ?_
    refine eR_getR (i := 71) dX5_append_13 gf_X5_11 th_70 rfl ?_
    refine eR_aldn_0 dX5_append_16 rfl ?_
    refine eR_getI dX5_append_17 gf_X5_16 th_70 rfl ?_
    refine eX_pcI (hn) ?_
    refine eR_aald3 (n := n) (i := 72 + n) dX5_append_20 th_71 (rfl) (by omega) (by decide) (rowsK_at (by omega)) ?_
    refine eR_ic dX5_append_21 ?_
    refine eR_ildn_1 dX5_append_22 rfl ?_
    refine eR_iast (n := 0) dX5_append_23 (tr_b (i := n) (by omega)) (rfl) (by decide) (by decide) ?_
    refine eR_aldn_0 dX5_append_24 rfl ?_
    refine eR_getR (i := 71) dX5_append_25 gf_X5_11 th_70 rfl ?_
    refine eR_aldn_0 dX5_append_28 rfl ?_
    refine eR_getI dX5_append_29 gf_X5_16 th_70 rfl ?_
    refine eX_pcI (congrFun (hU_a _ _ _ (by omega)) _) ?_
    refine eX_pcI (hn) ?_
    refine eR_aald3 (n := n) (i := 72 + n) dX5_append_32 th_71 (rfl) (by omega) (by decide) (rowsK_at (by omega)) ?_
    refine eR_ic dX5_append_33 ?_
    refine eR_ildn_2 dX5_append_34 rfl ?_
    refine eR_iast (n := 1) dX5_append_35 (tr_b (i := n) (by omega)) (rfl) (by decide) (by decide) ?_
    refine eR_aldn_0 dX5_append_36 rfl ?_
    refine eR_getR (i := 71) dX5_append_37 gf_X5_11 th_70 rfl ?_
    refine eR_aldn_0 dX5_append_40 rfl ?_
    refine eR_getI dX5_append_41 gf_X5_16 th_70 rfl ?_
    refine eX_pcI (congrFun (hU_a _ _ _ (by omega)) _) ?_
    refine eX_pcI (congrFun (hU_a _ _ _ (by omega)) _) ?_
    refine eX_pcI (hn) ?_
    refine eR_aald3 (n := n) (i := 72 + n) dX5_append_44 th_71 (rfl) (by omega) (by decide) (rowsK_at (by omega)) ?_
    refine eR_ic dX5_append_45 ?_
    refine eR_ildn_3 dX5_append_46 rfl ?_
    refine eR_iast (n := 2) dX5_append_47 (tr_b (i := n) (by omega)) (rfl) (by decide) (by decide) ?_
    refine eR_aldn_0 dX5_append_48 rfl ?_
    refine eR_dup dX5_append_49 rfl ?_
    refine eR_getI dX5_append_50 gf_X5_16 th_70 rfl ?_
    refine eX_pcI (congrFun (hU_a _ _ _ (by omega)) _) ?_
    refine eX_pcI (congrFun (hU_a _ _ _ (by omega)) _) ?_
    refine eX_pcI (congrFun (hU_a _ _ _ (by omega)) _) ?_
    refine eX_pcI (hn) ?_
    refine eR_ic dX5_append_53 ?_
    refine eR_iadd dX5_append_54 ?_
    refine eR_putI dX5_append_55 pf_X5_16 th_70 rfl ?_
    refine eR_aldn_0 dX5_append_58 rfl ?_
    refine eR_getI dX5_append_59 gf_X5_16 th_70 rfl ?_
    refine eX_pcI (hU_s _ _ _ _) ?_
    refine eR_iret dX5_append_62 rfl rfl ?_
    exact k1 (by omega)
  · refine eR_ldc (z := -1000000004) dX5_append_9 kw_776 (by decide) ?_
    refine eR_iret dX5_append_11 rfl rfl ?_
    exact k0 (by omega)
theorem rw_empty_bk (k : Q .null (tau t s) (hU h 70 1 0)) : eX g 0 mX5_empty 0 (lv_args 0 [.ref (gA g 70)]) [] (tau t s) h Q := by
  show eX g 0 mX5_empty 0 [(0, .ref (gA g 70))] [] (tau t s) h Q
  refine eR_aldn_0 dX5_empty_0 rfl ?_
  refine eR_ic dX5_empty_1 ?_
  refine eR_putI dX5_empty_2 pf_X5_16 th_70 rfl ?_
  refine eR_vret dX5_empty_5 rfl ?_
  exact k
theorem rw_same_bk {n : Nat} {bk : Nat → Nat → Nat} (G : bkC h n bk) (hn30 : n ≤ 30) (hb : ∀ i, i < n → bk i 0 < 24 ∧ bk i 1 < 8) {i j : Nat} (hi : i < n) (hj : j < n) (k : Q (.int (zI (b01 (bk i 0 = bk j 0 ∧ bk i 1 = bk j 1)))) (tau t s) h) : eX g 0 mX5_tellOfTheSame 0 (lv_args 0 [.ref (gA g 70), .int (zI ↑i), .int (zI ↑j)]) [] (tau t s) h Q := by
  show eX g 0 mX5_tellOfTheSame 0 [(0, .ref (gA g 70)), (1, .int (zI ↑i)), (2, .int (zI ↑j))] [] (tau t s) h Q
  have hbi := hb i hi
  have hbj := hb j hj
  refine eR_aldn_0 dX5_tellOfTheSame_0 rfl ?_
  refine eR_getR (i := 71) dX5_tellOfTheSame_1 gf_X5_11 th_70 rfl ?_
  refine eR_ildn_1 dX5_tellOfTheSame_4 rfl ?_
  refine eR_aald3 (n := i) (i := 72 + i) dX5_tellOfTheSame_5 th_71 (rfl) (by omega) (by decide) (rowsK_at (by omega)) ?_
  refine eR_ic dX5_tellOfTheSame_6 ?_
  refine eR_iald (n := 0) dX5_tellOfTheSame_7 (tr_b (i := i) (by omega)) (rfl) (by decide) (by decide) ?_
  refine eX_pcI ((G.2 i (by omega)).1) ?_
  refine eR_aldn_0 dX5_tellOfTheSame_8 rfl ?_
  refine eR_getR (i := 71) dX5_tellOfTheSame_9 gf_X5_11 th_70 rfl ?_
  refine eR_ildn_2 dX5_tellOfTheSame_12 rfl ?_
  refine eR_aald3 (n := j) (i := 72 + j) dX5_tellOfTheSame_13 th_71 (rfl) (by omega) (by decide) (rowsK_at (by omega)) ?_
  refine eR_ic dX5_tellOfTheSame_14 ?_
  refine eR_iald (n := 0) dX5_tellOfTheSame_15 (tr_b (i := j) (by omega)) (rfl) (by decide) (by decide) ?_
  refine eX_pcI ((G.2 j (by omega)).1) ?_
  refine eR_icmp_ne (tgt := 42) dX5_tellOfTheSame_16 (by decide) (by first | exact rg_b01 _ | (unfold rg; omega)) (by first | exact rg_b01 _ | (unfold rg; omega)) (fun c16 => ?_) (fun c16 => ?_)
  · refine eR_ic dX5_tellOfTheSame_42 ?_
    refine eR_zret dX5_tellOfTheSame_43 rfl (by omega) ?_
    rw [show (b01 (bk i 0 = bk j 0 ∧ bk i 1 = bk j 1) : Int) = 0 from by first | exact b01_t ⟨by omega, by omega⟩ | exact b01_f (by rintro ⟨q1, q2⟩; omega)] at k; exact k
  · refine eR_aldn_0 dX5_tellOfTheSame_19 rfl ?_
    refine eR_getR (i := 71) dX5_tellOfTheSame_20 gf_X5_11 th_70 rfl ?_
    refine eR_ildn_1 dX5_tellOfTheSame_23 rfl ?_
    refine eR_aald3 (n := i) (i := 72 + i) dX5_tellOfTheSame_24 th_71 (rfl) (by omega) (by decide) (rowsK_at (by omega)) ?_
    refine eR_ic dX5_tellOfTheSame_25 ?_
    refine eR_iald (n := 1) dX5_tellOfTheSame_26 (tr_b (i := i) (by omega)) (rfl) (by decide) (by decide) ?_
    refine eX_pcI ((G.2 i (by omega)).2.1) ?_
    refine eR_aldn_0 dX5_tellOfTheSame_27 rfl ?_
    refine eR_getR (i := 71) dX5_tellOfTheSame_28 gf_X5_11 th_70 rfl ?_
    refine eR_ildn_2 dX5_tellOfTheSame_31 rfl ?_
    refine eR_aald3 (n := j) (i := 72 + j) dX5_tellOfTheSame_32 th_71 (rfl) (by omega) (by decide) (rowsK_at (by omega)) ?_
    refine eR_ic dX5_tellOfTheSame_33 ?_
    refine eR_iald (n := 1) dX5_tellOfTheSame_34 (tr_b (i := j) (by omega)) (rfl) (by decide) (by decide) ?_
    refine eX_pcI ((G.2 j (by omega)).2.1) ?_
    refine eR_icmp_ne (tgt := 42) dX5_tellOfTheSame_35 (by decide) (by first | exact rg_b01 _ | (unfold rg; omega)) (by first | exact rg_b01 _ | (unfold rg; omega)) (fun c35 => ?_) (fun c35 => ?_)
    · refine eR_ic dX5_tellOfTheSame_42 ?_
      refine eR_zret dX5_tellOfTheSame_43 rfl (by omega) ?_
      rw [show (b01 (bk i 0 = bk j 0 ∧ bk i 1 = bk j 1) : Int) = 0 from by first | exact b01_t ⟨by omega, by omega⟩ | exact b01_f (by rintro ⟨q1, q2⟩; omega)] at k; exact k
    · refine eR_ic dX5_tellOfTheSame_38 ?_
      refine eR_goto (tgt := 43) dX5_tellOfTheSame_39 (by decide) ?_
      refine eR_zret dX5_tellOfTheSame_43 rfl (by omega) ?_
      rw [show (b01 (bk i 0 = bk j 0 ∧ bk i 1 = bk j 1) : Int) = 1 from by first | exact b01_t ⟨by omega, by omega⟩ | exact b01_f (by rintro ⟨q1, q2⟩; omega)] at k; exact k
theorem il_copy {fa fr ta tr : Nat} (FA1 : (tau t s)[fa]? = some (3, 8, rowsK fr 8)) (FAR : ∀ i, i < 8 → (tau t s)[fr + i]? = some (1, 2, [])) (TA1 : (tau t s)[ta]? = some (3, 8, rowsK tr 8)) (TAR : ∀ i, i < 8 → (tau t s)[tr + i]? = some (1, 2, [])) (hd : fr + 8 ≤ tr ∨ tr + 8 ≤ fr) (k : ∀ h1 : PH, ofR tr (tr + 8) h h1 → (∀ x k, x < 8 → k < 2 → h1 (tr + x) k = h (fr + x) k) → Q .null (tau t s) h1) : ∀ n c, c + n = 8 → ∀ h1 : PH, ofR tr (tr + 8) h h1 → (∀ x k, x < c → k < 2 → h1 (tr + x) k = h (fr + x) k) → eX g 0 mX0_copyOwners 2 [(0, .ref (gA g fa)), (1, .ref (gA g ta)), (2, .int (zI ↑c))] [] (tau t s) h1 Q := by
  intro n
  induction n with
  | zero =>
    intro c hc8 h1 hO hc
    refine eR_ildn_2 dX0_copyOwners_2 rfl ?_
    refine eR_bi (z := 8) dX0_copyOwners_3 rfl ?_
    refine eR_icmp_ge (tgt := 34) dX0_copyOwners_5 (by decide) (by first | exact rg_b01 _ | (unfold rg; omega)) (by first | exact rg_b01 _ | (unfold rg; omega)) (fun c5 => ?_) (fun c5 => absurd c5 (by omega))
    refine eR_vret dX0_copyOwners_34 rfl ?_
    have e9 : c = 8 := by omega
    subst e9
    exact k h1 hO hc
  | succ n ih =>
    intro c hc8 h1 hO hc
    refine eR_ildn_2 dX0_copyOwners_2 rfl ?_
    refine eR_bi (z := 8) dX0_copyOwners_3 rfl ?_
    refine eR_icmp_ge (tgt := 34) dX0_copyOwners_5 (by decide) (by first | exact rg_b01 _ | (unfold rg; omega)) (by first | exact rg_b01 _ | (unfold rg; omega)) (fun c5 => absurd c5 (by omega)) (fun c5 => ?_)
    refine eR_aldn_1 dX0_copyOwners_8 rfl ?_
    refine eR_ildn_2 dX0_copyOwners_9 rfl ?_
    refine eR_aald3 (n := c) (i := tr + c) dX0_copyOwners_10 TA1 (rfl) (by omega) (by decide) (rowsK_at (by omega)) ?_
    refine eR_ic dX0_copyOwners_11 ?_
    refine eR_aldn_0 dX0_copyOwners_12 rfl ?_
    refine eR_ildn_2 dX0_copyOwners_13 rfl ?_
    refine eR_aald3 (n := c) (i := fr + c) dX0_copyOwners_14 FA1 (rfl) (by omega) (by decide) (rowsK_at (by omega)) ?_
    refine eR_ic dX0_copyOwners_15 ?_
    refine eR_iald (n := 0) dX0_copyOwners_16 (FAR c (by omega)) (rfl) (by decide) (by decide) ?_
    refine eR_iast (n := 0) dX0_copyOwners_17 (TAR c (by omega)) (rfl) (by decide) (by decide) ?_
    refine eR_aldn_1 dX0_copyOwners_18 rfl ?_
    refine eR_ildn_2 dX0_copyOwners_19 rfl ?_
    refine eR_aald3 (n := c) (i := tr + c) dX0_copyOwners_20 TA1 (rfl) (by omega) (by decide) (rowsK_at (by omega)) ?_
    refine eR_ic dX0_copyOwners_21 ?_
    refine eR_aldn_0 dX0_copyOwners_22 rfl ?_
    refine eR_ildn_2 dX0_copyOwners_23 rfl ?_
    refine eR_aald3 (n := c) (i := fr + c) dX0_copyOwners_24 FA1 (rfl) (by omega) (by decide) (rowsK_at (by omega)) ?_
    refine eR_ic dX0_copyOwners_25 ?_
    refine eR_iald (n := 1) dX0_copyOwners_26 (FAR c (by omega)) (rfl) (by decide) (by decide) ?_
    refine eX_pcI (congrFun (hU_a _ _ _ (by omega)) _) ?_
    refine eR_iast (n := 1) dX0_copyOwners_27 (TAR c (by omega)) (rfl) (by decide) (by decide) ?_
    refine eR_iinc_2 dX0_copyOwners_28 (by decide) rfl ?_
    refine eR_goto (tgt := 2) dX0_copyOwners_31 (by decide) ?_
    refine ih (c + 1) (by omega) _ (ofR_w (ofR_w hO (by omega)) (by omega)) (fun x kk hx hk => ?_)
    by_cases hxc : x = c
    · subst hxc
      rcases (show kk = 0 ∨ kk = 1 by omega) with rfl | rfl
      · rw [hU_i _ _ _ (by omega), hU_s, hO _ (by omega)]
      · rw [hU_s, hO _ (by omega)]
    · rw [hU_a _ _ _ (by omega), hU_a _ _ _ (by omega)]
      exact hc x kk (by omega) hk
theorem im_copy {fa fr ta tr : Nat} (FA1 : (tau t s)[fa]? = some (3, 8, rowsK fr 8)) (FAR : ∀ i, i < 8 → (tau t s)[fr + i]? = some (1, 2, [])) (TA1 : (tau t s)[ta]? = some (3, 8, rowsK tr 8)) (TAR : ∀ i, i < 8 → (tau t s)[tr + i]? = some (1, 2, [])) (hd : fr + 8 ≤ tr ∨ tr + 8 ≤ fr) (k : ∀ h1 : PH, ofR tr (tr + 8) h h1 → (∀ x k, x < 8 → k < 2 → h1 (tr + x) k = h (fr + x) k) → Q .null (tau t s) h1) : eX g 0 mX0_copyOwners 0 (lv_args 0 [.ref (gA g fa), .ref (gA g ta)]) [] (tau t s) h Q := by
  show eX g 0 mX0_copyOwners 0 [(0, .ref (gA g fa)), (1, .ref (gA g ta))] [] (tau t s) h Q
  refine eR_ic dX0_copyOwners_0 ?_
  refine eR_istn_n2 dX0_copyOwners_1 rfl (by decide) rfl ?_
  exact il_copy FA1 FAR TA1 TAR hd k 8 0 (by omega) h (ofR_rf _ _ h) (fun x k hx => absurd hx (Nat.not_lt_zero x))
/-- an image's cells -/
def isIm (τ : List Kd) (b : Nat) : Prop := τ[b]? = some (0, 0, [1, 2, 0, 0, b + 1 + 4]) ∧ τ[b + 1]? = some (3, 8, rowsK (b + 2) 8) ∧ (∀ i, i < 8 → τ[b + 2 + i]? = some (1, 2, []))
theorem im_0 : isIm (tau t s) 103 := ⟨th_103, th_104, fun i hi => tr_i0 hi⟩
theorem im_1 : isIm (tau t s) 113 := ⟨th_113, th_114, fun i hi => tr_i1 hi⟩
theorem im_take (T : isTn (tau t s) u) (B : sB S) (V : cV h u S) {b : Nat} {x : Int} (I : isIm (tau t s) b) (hb : b + 10 ≤ u ∨ u + 41 ≤ b) (k : ∀ h1 : PH, ofR b (b + 10) h h1 → h1 b 0 = 1 → h1 b 1 = x → h1 b 2 = (sF S : Int) → h1 b 3 = (sK S : Int) → (∀ c k, c < sC S → k < 2 → h1 (b + 2 + c) k = (sO S c k : Int)) → Q .null (tau t s) h1) : eX g 1 mX0_take 0 (lv_args 0 [.ref (gA g b), .ref (gA g u), .long (zL x)]) [] (tau t s) h Q := by
  show eX g 1 mX0_take 0 [(0, .ref (gA g b)), (1, .ref (gA g u)), (2, .long (zL x))] [] (tau t s) h Q
  have hP8 := B.1
  have hC8 := B.2.1
  have hE10 := B.2.2.1
  have hF99 := B.2.2.2.2.2.2.1
  refine eR_aldn_0 dX0_take_0 rfl ?_
  refine eR_ic dX0_take_1 ?_
  refine eR_putZ (by omega) dX0_take_2 pf_X0_9 I.1 rfl ?_
  refine eR_aldn_0 dX0_take_5 rfl ?_
  refine eR_lldn_2 dX0_take_6 rfl ?_
  refine eR_putL dX0_take_7 pf_X0_15 I.1 rfl ?_
  refine eR_aldn_0 dX0_take_10 rfl ?_
  refine eR_aldn_1 dX0_take_11 rfl ?_
  refine eR_getI dX0_take_12 gf_X0_31 T.1 rfl ?_
  refine eX_pcI (congrFun (hU_a _ _ _ (by omega)) _) ?_
  refine eX_pcI (congrFun (hU_a _ _ _ (by omega)) _) ?_
  refine eX_pcI (V.2.2.2.1) ?_
  refine eR_putI dX0_take_15 pf_X0_19 I.1 rfl ?_
  refine eR_aldn_0 dX0_take_18 rfl ?_
  refine eR_aldn_1 dX0_take_19 rfl ?_
  refine eR_getI dX0_take_20 gf_X0_36 T.1 rfl ?_
  refine eX_pcI (congrFun (hU_a _ _ _ (by omega)) _) ?_
  refine eX_pcI (congrFun (hU_a _ _ _ (by omega)) _) ?_
  refine eX_pcI (congrFun (hU_a _ _ _ (by omega)) _) ?_
  refine eX_pcI (V.2.2.2.2.1) ?_
  refine eR_putI dX0_take_23 pf_X0_23 I.1 rfl ?_
  refine eR_aldn_1 dX0_take_26 rfl ?_
  refine eR_getR (i := u + 1) dX0_take_27 gf_X0_39 T.1 rfl ?_
  refine eR_aldn_0 dX0_take_30 rfl ?_
  refine eR_getR (i := b + 1) dX0_take_31 gf_X0_28 I.1 rfl ?_
  refine eR_callSv [_, _] rfl dX0_take_34 ok_mX0_copyOwners kw_842 rfl rfl (Nat.le_of_ble_eq_true rfl) (d' := 0) (by decide) (Nat.le_of_ble_eq_true rfl) ?_
  refine im_copy (fa := u + 1) (fr := u + 2) (ta := b + 1) (tr := b + 2) T.2.1 T.2.2.1 I.2.1 I.2.2 (by omega) (fun h1 hO hc0 => ?_)
  refine eR_vret dX0_take_37 rfl ?_
  have e : ∀ i, h1 b i = (hU (hU (hU (hU h b 0 1) b 1 x) b 2 ↑(sF S)) b 3 ↑(sK S)) b i := fun i => by rw [hO b (by omega)]
  refine k h1 (fun a q => by rw [hO a (by omega), hU_a _ _ _ (by omega), hU_a _ _ _ (by omega), hU_a _ _ _ (by omega), hU_a _ _ _ (by omega)]) ?_ ?_ ?_ ?_ (fun c kk hc hk => ?_)
  · rw [e, hU_i _ _ _ (by decide), hU_i _ _ _ (by decide), hU_i _ _ _ (by decide), hU_s]
  · rw [e, hU_i _ _ _ (by decide), hU_i _ _ _ (by decide), hU_s]
  · rw [e, hU_i _ _ _ (by decide), hU_s]
  · rw [e, hU_s]
  · rw [hc0 c kk (by omega) hk, hU_a _ _ _ (by omega), hU_a _ _ _ (by omega), hU_a _ _ _ (by omega), hU_a _ _ _ (by omega)]
    exact cV_own V hc hk
/-- towns that differ in owners, what is CUT, FROST alone -/
def smT (S S' : TS) : Prop := sP S' = sP S ∧ sC S' = sC S ∧ sE S' = sE S ∧ sW S' = sW S ∧ sR S' = sR S ∧ sL S' = sL S
theorem smT_rf (S : TS) : smT S S := ⟨rfl, rfl, rfl, rfl, rfl, rfl⟩
theorem smT_tr {S S1 S2 : TS} (a : smT S S1) (b : smT S1 S2) : smT S S2 := ⟨b.1.trans a.1, b.2.1.trans a.2.1, b.2.2.1.trans a.2.2.1, b.2.2.2.1.trans a.2.2.2.1, b.2.2.2.2.1.trans a.2.2.2.2.1, b.2.2.2.2.2.trans a.2.2.2.2.2⟩
theorem smT_sy {S S1 : TS} (a : smT S S1) : smT S1 S := ⟨a.1.symm, a.2.1.symm, a.2.2.1.symm, a.2.2.2.1.symm, a.2.2.2.2.1.symm, a.2.2.2.2.2.symm⟩
theorem cV_sm {h h' : PH} {u : Nat} {S S' : TS} (B : sB S) (V : cV h u S) (m : smT S S') (e : ∀ a i, u ≤ a → a < u + 41 → ¬ (a = u ∧ (i = 4 ∨ i = 5)) → ¬ (u + 2 ≤ a ∧ a < u + 10) → h' a i = h a i)
    (eF : h' u 4 = (sF S' : Int)) (eK : h' u 5 = (sK S' : Int)) (eO : ∀ c k, c < sC S → k < 2 → h' (u + 2 + c) k = (sO S' c k : Int)) : cV h' u S' := by
  obtain ⟨v1, v2, v3, v4, v5, v6, v7, v8, v9, x, v10, v11⟩ := V
  obtain ⟨m1, m2, m3, m4, m5, m6⟩ := m
  have hC8 := B.2.1
  have hE10 := B.2.2.1
  have hP8 := B.1
  refine ⟨?_, ?_, ?_, eF, eK, fun c hc => ?_, fun y hy => ?_, fun p q hp hq => ?_, fun p q hp hq => ?_, x, ?_, v11.1, fun hour q1 q2 => ⟨(v11.2 hour q1 q2).1, fun p hp => ?_⟩⟩
  · rw [e u 0 (by omega) (by omega) (by omega) (by omega), m1]; exact v1
  · rw [e u 1 (by omega) (by omega) (by omega) (by omega), m2]; exact v2
  · rw [e u 2 (by omega) (by omega) (by omega) (by omega), m3]; exact v3
  · rw [m2] at hc
    rw [m4, e (u + 10) c (by omega) (by omega) (by omega) (by omega)]
    exact ⟨eO c 0 hc (by decide), eO c 1 hc (by decide), (v6 c hc).2.2⟩
  · rw [m3] at hy
    rw [m5, e _ 0 (by omega) (by omega) (by omega) (by omega), e _ 1 (by omega) (by omega) (by omega) (by omega), e _ 2 (by omega) (by omega) (by omega) (by omega), e _ 3 (by omega) (by omega) (by omega) (by omega)]
    exact v7 y hy
  · rw [e _ q (by omega) (by omega) (by omega) (by omega), whereIs_cg m3 m5]; exact v8 p q hp hq
  · rw [m1] at hp hq
    rw [e _ q (by omega) (by omega) (by omega) (by omega), m6]; exact v9 p q hp hq
  · rw [e u 7 (by omega) (by omega) (by omega) (by omega)]; exact v10
  · rw [m1] at hp
    rw [whereIs_cg m3 m5, whereIs_cg m3 m5]
    exact (v11.2 hour q1 q2).2 p hp
theorem im_giveBack (T : isTn (tau t s) u) (B : sB S) (V : cV h u S) {b : Nat} {S2 : TS} (I : isIm (tau t s) b) (hb : b + 10 ≤ u ∨ u + 41 ≤ b) (m : smT S S2) (hF : h b 2 = (sF S2 : Int)) (hK : h b 3 = (sK S2 : Int)) (hO2 : ∀ c k, c < sC S → k < 2 → h (b + 2 + c) k = (sO S2 c k : Int)) (k : ∀ h1 : PH, ofR u (u + 10) h h1 → cV h1 u S2 → Q .null (tau t s) h1) : eX g 1 mX0_giveBack 0 (lv_args 0 [.ref (gA g b), .ref (gA g u)]) [] (tau t s) h Q := by
  show eX g 1 mX0_giveBack 0 [(0, .ref (gA g b)), (1, .ref (gA g u))] [] (tau t s) h Q
  have hP8 := B.1
  have hC8 := B.2.1
  have hE10 := B.2.2.1
  have hF99 := B.2.2.2.2.2.2.1
  refine eR_aldn_1 dX0_giveBack_0 rfl ?_
  refine eR_aldn_0 dX0_giveBack_1 rfl ?_
  refine eR_getI dX0_giveBack_2 gf_X0_19 I.1 rfl ?_
  refine eX_pcI (hF) ?_
  refine eR_putI dX0_giveBack_5 pf_X0_31 T.1 rfl ?_
  refine eR_aldn_1 dX0_giveBack_8 rfl ?_
  refine eR_aldn_0 dX0_giveBack_9 rfl ?_
  refine eR_getI dX0_giveBack_10 gf_X0_23 I.1 rfl ?_
  refine eX_pcI (congrFun (hU_a _ _ _ (by omega)) _) ?_
  refine eX_pcI (hK) ?_
  refine eR_putI dX0_giveBack_13 pf_X0_36 T.1 rfl ?_
  refine eR_aldn_0 dX0_giveBack_16 rfl ?_
  refine eR_getR (i := b + 1) dX0_giveBack_17 gf_X0_28 I.1 rfl ?_
  refine eR_aldn_1 dX0_giveBack_20 rfl ?_
  refine eR_getR (i := u + 1) dX0_giveBack_21 gf_X0_39 T.1 rfl ?_
  refine eR_callSv [_, _] rfl dX0_giveBack_24 ok_mX0_copyOwners kw_842 rfl rfl (Nat.le_of_ble_eq_true rfl) (d' := 0) (by decide) (Nat.le_of_ble_eq_true rfl) ?_
  refine im_copy (fa := b + 1) (fr := b + 2) (ta := u + 1) (tr := u + 2) I.2.1 I.2.2 T.2.1 T.2.2.1 (by omega) (fun h1 hO hc0 => ?_)
  refine eR_vret dX0_giveBack_27 rfl ?_
  refine k h1 (fun a q => by rw [hO a (by omega), hU_a _ _ _ (by omega), hU_a _ _ _ (by omega)]) ?_
  refine cV_sm B V m (fun a i q1 q2 q3 q4 => ?_) ?_ ?_ (fun c kk hc hk => ?_)
  · rw [hO a (by omega)]
    by_cases hau : a = u
    · subst hau
      rw [hU_i _ _ _ (by omega), hU_i _ _ _ (by omega)]
    · rw [hU_a _ _ _ hau, hU_a _ _ _ hau]
  · rw [hO u (by omega), hU_i _ _ _ (by decide), hU_s]
  · rw [hO u (by omega), hU_s]
  · rw [hc0 c kk (by omega) hk, hU_a _ _ _ (by omega), hU_a _ _ _ (by omega)]
    exact hO2 c kk hc hk
end M50
