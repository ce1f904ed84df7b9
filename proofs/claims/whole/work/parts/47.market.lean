theorem wBy_cg {S S' : TS} (hR : sR S' = sR S) (p hour errs : Nat) : ∀ n e, wBy S' p hour errs n e = wBy S p hour errs n e := by
  intro n
  induction n with
  | zero => intro e; rfl
  | succ n ih => intro e; unfold wBy; rw [hR, ih]
theorem whereBy_cg {S S' : TS} (hE : sE S' = sE S) (hR : sR S' = sR S) (p hour errs : Nat) : whereBy S' p hour errs = whereBy S p hour errs := by
  unfold whereBy
  rw [hE, wBy_cg hR]
theorem whereIs_cg {S S' : TS} (hE : sE S' = sE S) (hR : sR S' = sR S) (p hour : Nat) : whereIs S' p hour = whereIs S p hour := by
  unfold whereIs
  rw [hE, whereBy_cg hE hR]
theorem cV_setO {h : PH} {u : Nat} {S : TS} (B : sB S) (V : cV h u S) {c k v : Nat} (hc : c < sC S) (hk : k < 2) : cV (hU h (u + 2 + c) k v) u (setO S c k v) := by
  have hC8 := B.2.1
  have hE10 := B.2.2.1
  have hP8 := B.1
  obtain ⟨v1, v2, v3, v4, v5, v6, v7, v8, v9, x, v10, v11⟩ := V
  have ne : ∀ b i, b ≠ u + 2 + c → hU h (u + 2 + c) k v b i = h b i := fun b i q => by rw [hU_a _ _ _ q]
  refine ⟨(ne _ _ (by omega)).trans v1, (ne _ _ (by omega)).trans v2, (ne _ _ (by omega)).trans v3, (ne _ _ (by omega)).trans v4, (ne _ _ (by omega)).trans v5, fun y hy => ?_, fun y hy => ?_, fun p q hp hq => ((ne _ _ (by omega)).trans (v8 p q hp hq)).trans (whereIs_cg (S := S) (S' := setO S c k v) rfl rfl p q).symm, fun p q hp hq => ?_, x, (ne _ _ (by omega)).trans v10, v11.1, fun hour h1 h2 => ⟨(v11.2 hour h1 h2).1, fun p hp => ?_⟩⟩
  · have hy2 : y < sC S := hy
    have w := v6 y hy2
    refine ⟨?_, ?_, (ne _ _ (by omega)).trans w.2.2⟩
    · show _ = ((if y = c ∧ 0 = k then v else sO S y 0 : Nat) : Int)
      rw [hU_g]
      by_cases q : y = c ∧ 0 = k
      · rw [if_pos (by omega), if_pos q]
      · rw [if_neg (by omega), if_neg q]; exact w.1
    · show _ = ((if y = c ∧ 1 = k then v else sO S y 1 : Nat) : Int)
      rw [hU_g]
      by_cases q : y = c ∧ 1 = k
      · rw [if_pos (by omega), if_pos q]
      · rw [if_neg (by omega), if_neg q]; exact w.2.1
  · have hy2 : y < sE S := hy
    have w := v7 y hy2
    exact ⟨(ne _ _ (by omega)).trans w.1, (ne _ _ (by omega)).trans w.2.1, (ne _ _ (by omega)).trans w.2.2.1, (ne _ _ (by omega)).trans w.2.2.2⟩
  · have hp2 : p < sP S := hp
    exact (ne _ _ (by omega)).trans (v9 p q hp hq)
  · rw [whereIs_cg (S := S) (S' := setO S c k v) rfl rfl, whereIs_cg (S := S) (S' := setO S c k v) rfl rfl]
    exact (v11.2 hour h1 h2).2 p hp
theorem xr1 : ∀ a, a < 16 → (a ^^^ 1) / 2 = a / 2 ∧ (a ^^^ 1) % 2 = 1 - a % 2 := by decide
abbrev mySw (S : TS) (a b : Nat) : Prop := ¬ (sK S).testBit (a / 2) = true ∧ ¬ (sK S).testBit (b / 2) = true ∧ sO S (a / 2) (a % 2) ≠ sO S (b / 2) (b % 2) ∧ sO S (a / 2) (1 - a % 2) ≠ sO S (b / 2) (b % 2) ∧ sO S (b / 2) (1 - b % 2) ≠ sO S (a / 2) (a % 2)
theorem sO_lt {S : TS} (B : sB S) {c k : Nat} (hc : c < sC S) (hk : k < 2) : sO S c k < sP S := by
  have ho := B.2.2.2.1 c hc
  rcases (show k = 0 ∨ k = 1 by omega) with rfl | rfl
  · exact ho.1
  · exact ho.2.1
section M47
variable {g : EG} {d t s u : Nat} {h h1 : PH} {Q : EQ} {S : TS}
theorem tl_wishOf (T : isTn (tau t s) u) (B : sB S) (V : cV h u S) {p : Nat} (hp : p < sP S) (k : Q (.int (zI ↑(wsN S p (sC S)))) (tau t s) h) : ∀ n c : Nat, c + n = sC S → eX g 1 mX1_wishOf 4 [(0, .ref (gA g u)), (1, .int (zI ↑p)), (2, .int (zI ↑(wsN S p c))), (3, .int (zI ↑c))] [] (tau t s) h Q := by
  have hP8 := B.1
  have hC8 := B.2.1
  have hE10 := B.2.2.1
  have hF99 := B.2.2.2.2.2.2.1
  intro n
  induction n with
  | zero =>
    intro c hx9
    have hw9 := wsN_le B hp c (by omega)
    refine eR_ildn_3 dX1_wishOf_4 rfl ?_
    refine eR_aldn_0 dX1_wishOf_5 rfl ?_
    refine eR_getI dX1_wishOf_6 gf_X1_7 T.1 rfl ?_
    refine eX_pcI (V.2.1) ?_
    refine eR_icmp_ge (tgt := 89) dX1_wishOf_9 (by decide) (by first | exact rg_b01 _ | (unfold rg; omega)) (by first | exact rg_b01 _ | (unfold rg; omega)) (fun c9 => ?_) (fun c9 => absurd c9 (by omega))
    refine eR_ildn_2 dX1_wishOf_89 rfl ?_
    refine eR_iret dX1_wishOf_90 rfl rfl ?_
    have e9 : c = sC S := by omega
    subst e9
    exact k
  | succ n ih =>
    intro c hx9
    have ho9 := B.2.2.2.1 c (by omega)
    have hw9 := wsN_le B hp c (by omega)
    have hl9 := B.2.2.2.2.2.2.2 p (sO S c 0) hp ho9.1
    have hl8 := B.2.2.2.2.2.2.2 p (sO S c 1) hp ho9.2.1
    refine eR_ildn_3 dX1_wishOf_4 rfl ?_
    refine eR_aldn_0 dX1_wishOf_5 rfl ?_
    refine eR_getI dX1_wishOf_6 gf_X1_7 T.1 rfl ?_
    refine eX_pcI (V.2.1) ?_
    refine eR_icmp_ge (tgt := 89) dX1_wishOf_9 (by decide) (by first | exact rg_b01 _ | (unfold rg; omega)) (by first | exact rg_b01 _ | (unfold rg; omega)) (fun c9 => absurd c9 (by omega)) (fun c9 => ?_)
    refine eR_aldn_0 dX1_wishOf_12 rfl ?_
    refine eR_ildn_3 dX1_wishOf_13 rfl ?_
    refine eR_callVi [_] rfl dX1_wishOf_14 ok_mX6_isCut kw_710 rfl rfl T.1 rfl (Nat.le_of_ble_eq_true rfl) (d' := 0) (by decide) (Nat.le_of_ble_eq_true rfl) ?_
    refine tn_isCut (c := c) T B V (by omega) ?_
    refine eR_if_ne (tgt := 83) dX1_wishOf_17 (by decide) (by first | exact rg_b01 _ | (unfold rg; omega)) (fun c17 => ?_) (fun c17 => ?_)
    · replace c17 := b01_ne0.mp c17
      refine eR_iinc_3 dX1_wishOf_83 (by decide) rfl ?_
      refine eR_goto (tgt := 4) dX1_wishOf_86 (by decide) ?_
      rw [show (↑(wsN S p c) : Int) = ↑(wsN S p (c + 1)) from by rw [wsN]; (repeat' split) <;> first | rfl | omega | simp_all]
      exact ih (c + 1) (by omega)
    · replace c17 := b01_eq0.mp c17
      refine eR_aldn_0 dX1_wishOf_20 rfl ?_
      refine eR_getR (i := u + 1) dX1_wishOf_21 gf_X1_17 T.1 rfl ?_
      refine eR_ildn_3 dX1_wishOf_24 rfl ?_
      refine eR_aald3 (n := c) (i := u + 2 + c) dX1_wishOf_25 T.2.1 (rfl) (by omega) (by decide) (rowsK_at (by omega)) ?_
      refine eR_ic dX1_wishOf_26 ?_
      refine eR_iald (n := 0) dX1_wishOf_27 (T.2.2.1 c (by omega)) (rfl) (by decide) (by decide) ?_
      refine eX_pcI ((V.2.2.2.2.2.1 c (by omega)).1) ?_
      refine eR_ildn_1 dX1_wishOf_28 rfl ?_
      refine eR_icmp_ne (tgt := 53) dX1_wishOf_29 (by decide) (by first | exact rg_b01 _ | (unfold rg; omega)) (by first | exact rg_b01 _ | (unfold rg; omega)) (fun c29 => ?_) (fun c29 => ?_)
      · refine eR_aldn_0 dX1_wishOf_53 rfl ?_
        refine eR_getR (i := u + 1) dX1_wishOf_54 gf_X1_17 T.1 rfl ?_
        refine eR_ildn_3 dX1_wishOf_57 rfl ?_
        refine eR_aald3 (n := c) (i := u + 2 + c) dX1_wishOf_58 T.2.1 (rfl) (by omega) (by decide) (rowsK_at (by omega)) ?_
        refine eR_ic dX1_wishOf_59 ?_
        refine eR_iald (n := 1) dX1_wishOf_60 (T.2.2.1 c (by omega)) (rfl) (by decide) (by decide) ?_
        refine eX_pcI ((V.2.2.2.2.2.1 c (by omega)).2.1) ?_
        refine eR_ildn_1 dX1_wishOf_61 rfl ?_
        refine eR_icmp_ne (tgt := 83) dX1_wishOf_62 (by decide) (by first | exact rg_b01 _ | (unfold rg; omega)) (by first | exact rg_b01 _ | (unfold rg; omega)) (fun c62 => ?_) (fun c62 => ?_)
        · refine eR_iinc_3 dX1_wishOf_83 (by decide) rfl ?_
          refine eR_goto (tgt := 4) dX1_wishOf_86 (by decide) ?_
          rw [show (↑(wsN S p c) : Int) = ↑(wsN S p (c + 1)) from by rw [wsN]; (repeat' split) <;> first | rfl | omega | simp_all]
          exact ih (c + 1) (by omega)
        · refine eR_ildn_2 dX1_wishOf_65 rfl ?_
          refine eR_aldn_0 dX1_wishOf_66 rfl ?_
          refine eR_getR (i := u + 31) dX1_wishOf_67 gf_X1_21 T.1 rfl ?_
          refine eR_ildn_1 dX1_wishOf_70 rfl ?_
          refine eR_aald3 (n := p) (i := u + 32 + p) dX1_wishOf_71 T.2.2.2.2.2.2.2.2.1 (rfl) (by omega) (by decide) (rowsK_at (by omega)) ?_
          refine eR_aldn_0 dX1_wishOf_72 rfl ?_
          refine eR_getR (i := u + 1) dX1_wishOf_73 gf_X1_17 T.1 rfl ?_
          refine eR_ildn_3 dX1_wishOf_76 rfl ?_
          refine eR_aald3 (n := c) (i := u + 2 + c) dX1_wishOf_77 T.2.1 (rfl) (by omega) (by decide) (rowsK_at (by omega)) ?_
          refine eR_ic dX1_wishOf_78 ?_
          refine eR_iald (n := 0) dX1_wishOf_79 (T.2.2.1 c (by omega)) (rfl) (by decide) (by decide) ?_
          refine eX_pcI ((V.2.2.2.2.2.1 c (by omega)).1) ?_
          refine eR_iald (n := (sO S c 0)) dX1_wishOf_80 (T.2.2.2.2.2.2.2.2.2.1 p (by omega)) (rfl) (by omega) (by decide) ?_
          refine eX_pcI (V.2.2.2.2.2.2.2.2.1 p (sO S c 0) (by omega) (by omega)) ?_
          refine eR_iadd dX1_wishOf_81 ?_
          refine eR_istn_2 dX1_wishOf_82 rfl (by decide) rfl ?_
          refine eR_iinc_3 dX1_wishOf_83 (by decide) rfl ?_
          refine eR_goto (tgt := 4) dX1_wishOf_86 (by decide) ?_
          rw [show (↑(wsN S p c) + (↑(sL S p (sO S c 0))) : Int) = ↑(wsN S p (c + 1)) from by rw [wsN]; (repeat' split) <;> first | rfl | omega | simp_all]
          exact ih (c + 1) (by omega)
      · refine eR_ildn_2 dX1_wishOf_32 rfl ?_
        refine eR_aldn_0 dX1_wishOf_33 rfl ?_
        refine eR_getR (i := u + 31) dX1_wishOf_34 gf_X1_21 T.1 rfl ?_
        refine eR_ildn_1 dX1_wishOf_37 rfl ?_
        refine eR_aald3 (n := p) (i := u + 32 + p) dX1_wishOf_38 T.2.2.2.2.2.2.2.2.1 (rfl) (by omega) (by decide) (rowsK_at (by omega)) ?_
        refine eR_aldn_0 dX1_wishOf_39 rfl ?_
        refine eR_getR (i := u + 1) dX1_wishOf_40 gf_X1_17 T.1 rfl ?_
        refine eR_ildn_3 dX1_wishOf_43 rfl ?_
        refine eR_aald3 (n := c) (i := u + 2 + c) dX1_wishOf_44 T.2.1 (rfl) (by omega) (by decide) (rowsK_at (by omega)) ?_
        refine eR_ic dX1_wishOf_45 ?_
        refine eR_iald (n := 1) dX1_wishOf_46 (T.2.2.1 c (by omega)) (rfl) (by decide) (by decide) ?_
        refine eX_pcI ((V.2.2.2.2.2.1 c (by omega)).2.1) ?_
        refine eR_iald (n := (sO S c 1)) dX1_wishOf_47 (T.2.2.2.2.2.2.2.2.2.1 p (by omega)) (rfl) (by omega) (by decide) ?_
        refine eX_pcI (V.2.2.2.2.2.2.2.2.1 p (sO S c 1) (by omega) (by omega)) ?_
        refine eR_iadd dX1_wishOf_48 ?_
        refine eR_istn_2 dX1_wishOf_49 rfl (by decide) rfl ?_
        refine eR_goto (tgt := 83) dX1_wishOf_50 (by decide) ?_
        refine eR_iinc_3 dX1_wishOf_83 (by decide) rfl ?_
        refine eR_goto (tgt := 4) dX1_wishOf_86 (by decide) ?_
        rw [show (↑(wsN S p c) + (↑(sL S p (sO S c 1))) : Int) = ↑(wsN S p (c + 1)) from by rw [wsN]; (repeat' split) <;> first | rfl | omega | simp_all]
        exact ih (c + 1) (by omega)
theorem tn_wishOf (T : isTn (tau t s) u) (B : sB S) (V : cV h u S) {p : Nat} (hp : p < sP S) (k : Q (.int (zI ↑(wsN S p (sC S)))) (tau t s) h) : eX g 1 mX1_wishOf 0 (lv_args 0 [.ref (gA g u), .int (zI ↑p)]) [] (tau t s) h Q := by
  show eX g 1 mX1_wishOf 0 [(0, .ref (gA g u)), (1, .int (zI ↑p))] [] (tau t s) h Q
  refine eR_ic dX1_wishOf_0 ?_
  refine eR_istn_n2 dX1_wishOf_1 rfl (by decide) rfl ?_
  refine eR_ic dX1_wishOf_2 ?_
  refine eR_istn_n3 dX1_wishOf_3 rfl (by decide) rfl ?_
  exact tl_wishOf T B V hp k (sC S) 0 (by omega)
theorem tn_ownerOf (T : isTn (tau t s) u) (B : sB S) (V : cV h u S) {a : Nat} (ha : a < 2 * sC S) (k : Q (.int (zI ↑(sO S (a / 2) (a % 2)))) (tau t s) h) : eX g 0 mX1_ownerOf 0 (lv_args 0 [.ref (gA g u), .int (zI ↑a)]) [] (tau t s) h Q := by
  show eX g 0 mX1_ownerOf 0 [(0, .ref (gA g u)), (1, .int (zI ↑a))] [] (tau t s) h Q
  have hP8 := B.1
  have hC8 := B.2.1
  have hE10 := B.2.2.1
  have hF99 := B.2.2.2.2.2.2.1
  refine eR_aldn_0 dX1_ownerOf_0 rfl ?_
  refine eR_getR (i := u + 1) dX1_ownerOf_1 gf_X1_17 T.1 rfl ?_
  refine eR_ildn_1 dX1_ownerOf_4 rfl ?_
  refine eR_ic dX1_ownerOf_5 ?_
  refine eR_idiv dX1_ownerOf_6 (by first | exact rg_b01 _ | (unfold rg; omega)) (by first | exact rg_b01 _ | (unfold rg; omega)) (by omega) ?_
  refine eX_pcI (show (Int.tdiv ↑a 2 : Int) = ↑(a / 2 : Nat) from rfl) ?_
  refine eR_aald3 (n := a / 2) (i := u + 2 + (a / 2)) dX1_ownerOf_7 T.2.1 (rfl) (by omega) (by decide) (rowsK_at (by omega)) ?_
  refine eR_ildn_1 dX1_ownerOf_8 rfl ?_
  refine eR_ic dX1_ownerOf_9 ?_
  refine eR_irem dX1_ownerOf_10 (by first | exact rg_b01 _ | (unfold rg; omega)) (by first | exact rg_b01 _ | (unfold rg; omega)) (by omega) ?_
  refine eX_pcI (show (Int.tmod ↑a 2 : Int) = ↑(a % 2 : Nat) from rfl) ?_
  refine eR_iald (n := a % 2) dX1_ownerOf_11 (T.2.2.1 (a / 2) (by omega)) (rfl) (by omega) (by decide) ?_
  refine eX_pcI (cV_own V (c := (a / 2)) (k := (a % 2)) (by omega) (by omega)) ?_
  refine eR_iret dX1_ownerOf_12 rfl rfl ?_
  exact k
theorem tn_maySwap (T : isTn (tau t s) u) (B : sB S) (V : cV h u S) {a b : Nat} (ha : a < 2 * sC S) (hb : b < 2 * sC S) (k : Q (.int (zI (b01 (a / 2 ≠ b / 2 ∧ mySw S a b)))) (tau t s) h) : eX g 1 mX1_maySwap 0 (lv_args 0 [.ref (gA g u), .int (zI ↑a), .int (zI ↑b)]) [] (tau t s) h Q := by
  show eX g 1 mX1_maySwap 0 [(0, .ref (gA g u)), (1, .int (zI ↑a)), (2, .int (zI ↑b))] [] (tau t s) h Q
  have hP8 := B.1
  have hC8 := B.2.1
  have hE10 := B.2.2.1
  have hF99 := B.2.2.2.2.2.2.1
  have xa := xr1 a (by omega)
  have xb := xr1 b (by omega)
  have l1 := sO_lt B (c := a / 2) (k := a % 2) (by omega) (by omega)
  have l2 := sO_lt B (c := b / 2) (k := b % 2) (by omega) (by omega)
  have l3 := sO_lt B (c := a / 2) (k := 1 - a % 2) (by omega) (by omega)
  have l4 := sO_lt B (c := b / 2) (k := 1 - b % 2) (by omega) (by omega)
  refine eR_aldn_0 dX1_maySwap_0 rfl ?_
  refine eR_ildn_1 dX1_maySwap_1 rfl ?_
  refine eR_callSi [_, _] rfl dX1_maySwap_2 ok_mX1_ownerOf kw_721 rfl rfl (Nat.le_of_ble_eq_true rfl) (d' := 0) (by decide) (Nat.le_of_ble_eq_true rfl) ?_
  refine tn_ownerOf (a := a) T B V (by omega) ?_
  refine eR_istn_n3 dX1_maySwap_5 rfl (by decide) rfl ?_
  refine eR_aldn_0 dX1_maySwap_6 rfl ?_
  refine eR_ildn_2 dX1_maySwap_7 rfl ?_
  refine eR_callSi [_, _] rfl dX1_maySwap_8 ok_mX1_ownerOf kw_721 rfl rfl (Nat.le_of_ble_eq_true rfl) (d' := 0) (by decide) (Nat.le_of_ble_eq_true rfl) ?_
  refine tn_ownerOf (a := b) T B V (by omega) ?_
  refine eR_ist_n4 dX1_maySwap_11 (by decide) rfl ?_
  refine eR_ildn_1 dX1_maySwap_13 rfl ?_
  refine eR_ic dX1_maySwap_14 ?_
  refine eR_idiv dX1_maySwap_15 (by first | exact rg_b01 _ | (unfold rg; omega)) (by first | exact rg_b01 _ | (unfold rg; omega)) (by omega) ?_
  refine eX_pcI (show (Int.tdiv ↑a 2 : Int) = ↑(a / 2 : Nat) from rfl) ?_
  refine eR_ildn_2 dX1_maySwap_16 rfl ?_
  refine eR_ic dX1_maySwap_17 ?_
  refine eR_idiv dX1_maySwap_18 (by first | exact rg_b01 _ | (unfold rg; omega)) (by first | exact rg_b01 _ | (unfold rg; omega)) (by omega) ?_
  refine eX_pcI (show (Int.tdiv ↑b 2 : Int) = ↑(b / 2 : Nat) from rfl) ?_
  refine eR_icmp_eq (tgt := 75) dX1_maySwap_19 (by decide) (by first | exact rg_b01 _ | (unfold rg; omega)) (by first | exact rg_b01 _ | (unfold rg; omega)) (fun c19 => ?_) (fun c19 => ?_)
  · refine eR_ic dX1_maySwap_75 ?_
    refine eR_zret dX1_maySwap_76 rfl (by omega) ?_
    rw [show (b01 (a / 2 ≠ b / 2 ∧ mySw S a b) : Int) = 0 from by first | exact b01_t ⟨by omega, by assumption, by assumption, by omega, by omega, by omega⟩ | exact b01_f (by rintro ⟨q1, q2, q3, q4, q5, q6⟩; first | contradiction | omega)] at k; exact k
  · refine eR_aldn_0 dX1_maySwap_22 rfl ?_
    refine eR_ildn_1 dX1_maySwap_23 rfl ?_
    refine eR_ic dX1_maySwap_24 ?_
    refine eR_idiv dX1_maySwap_25 (by first | exact rg_b01 _ | (unfold rg; omega)) (by first | exact rg_b01 _ | (unfold rg; omega)) (by omega) ?_
    refine eX_pcI (show (Int.tdiv ↑a 2 : Int) = ↑(a / 2 : Nat) from rfl) ?_
    refine eR_callVi [_] rfl dX1_maySwap_26 ok_mX6_isCut kw_710 rfl rfl T.1 rfl (Nat.le_of_ble_eq_true rfl) (d' := 0) (by decide) (Nat.le_of_ble_eq_true rfl) ?_
    refine tn_isCut (c := (a / 2 : Nat)) T B V (by omega) ?_
    refine eR_if_ne (tgt := 75) dX1_maySwap_29 (by decide) (by first | exact rg_b01 _ | (unfold rg; omega)) (fun c29 => ?_) (fun c29 => ?_)
    · replace c29 := b01_ne0.mp c29
      refine eR_ic dX1_maySwap_75 ?_
      refine eR_zret dX1_maySwap_76 rfl (by omega) ?_
      rw [show (b01 (a / 2 ≠ b / 2 ∧ mySw S a b) : Int) = 0 from by first | exact b01_t ⟨by omega, by assumption, by assumption, by omega, by omega, by omega⟩ | exact b01_f (by rintro ⟨q1, q2, q3, q4, q5, q6⟩; first | contradiction | omega)] at k; exact k
    · replace c29 := b01_eq0.mp c29
      refine eR_aldn_0 dX1_maySwap_32 rfl ?_
      refine eR_ildn_2 dX1_maySwap_33 rfl ?_
      refine eR_ic dX1_maySwap_34 ?_
      refine eR_idiv dX1_maySwap_35 (by first | exact rg_b01 _ | (unfold rg; omega)) (by first | exact rg_b01 _ | (unfold rg; omega)) (by omega) ?_
      refine eX_pcI (show (Int.tdiv ↑b 2 : Int) = ↑(b / 2 : Nat) from rfl) ?_
      refine eR_callVi [_] rfl dX1_maySwap_36 ok_mX6_isCut kw_710 rfl rfl T.1 rfl (Nat.le_of_ble_eq_true rfl) (d' := 0) (by decide) (Nat.le_of_ble_eq_true rfl) ?_
      refine tn_isCut (c := (b / 2 : Nat)) T B V (by omega) ?_
      refine eR_if_ne (tgt := 75) dX1_maySwap_39 (by decide) (by first | exact rg_b01 _ | (unfold rg; omega)) (fun c39 => ?_) (fun c39 => ?_)
      · replace c39 := b01_ne0.mp c39
        refine eR_ic dX1_maySwap_75 ?_
        refine eR_zret dX1_maySwap_76 rfl (by omega) ?_
        rw [show (b01 (a / 2 ≠ b / 2 ∧ mySw S a b) : Int) = 0 from by first | exact b01_t ⟨by omega, by assumption, by assumption, by omega, by omega, by omega⟩ | exact b01_f (by rintro ⟨q1, q2, q3, q4, q5, q6⟩; first | contradiction | omega)] at k; exact k
      · replace c39 := b01_eq0.mp c39
        refine eR_ildn_3 dX1_maySwap_42 rfl ?_
        refine eR_ild_4 dX1_maySwap_43 ?_
        refine eR_icmp_eq (tgt := 75) dX1_maySwap_45 (by decide) (by first | exact rg_b01 _ | (unfold rg; omega)) (by first | exact rg_b01 _ | (unfold rg; omega)) (fun c45 => ?_) (fun c45 => ?_)
        · refine eR_ic dX1_maySwap_75 ?_
          refine eR_zret dX1_maySwap_76 rfl (by omega) ?_
          rw [show (b01 (a / 2 ≠ b / 2 ∧ mySw S a b) : Int) = 0 from by first | exact b01_t ⟨by omega, by assumption, by assumption, by omega, by omega, by omega⟩ | exact b01_f (by rintro ⟨q1, q2, q3, q4, q5, q6⟩; first | contradiction | omega)] at k; exact k
        · refine eR_aldn_0 dX1_maySwap_48 rfl ?_
          refine eR_ildn_1 dX1_maySwap_49 rfl ?_
          refine eR_ic dX1_maySwap_50 ?_
          refine eR_ixor dX1_maySwap_51 ?_
          refine eX_pcI (show (zXor ↑a 1 : Int) = ↑(a ^^^ 1 : Nat) from zXor_nat (by omega) (by decide)) ?_
          refine eR_callSi [_, _] rfl dX1_maySwap_52 ok_mX1_ownerOf kw_721 rfl rfl (Nat.le_of_ble_eq_true rfl) (d' := 0) (by decide) (Nat.le_of_ble_eq_true rfl) ?_
          refine tn_ownerOf (a := a ^^^ 1) T B V (by omega) ?_
          refine eX_pcI (show (↑(sO S ((a ^^^ 1) / 2) ((a ^^^ 1) % 2)) : Int) = ↑(sO S (a / 2) (1 - a % 2)) from by rw [xa.1, xa.2]) ?_
          refine eR_ild_4 dX1_maySwap_55 ?_
          refine eR_icmp_eq (tgt := 75) dX1_maySwap_57 (by decide) (by first | exact rg_b01 _ | (unfold rg; omega)) (by first | exact rg_b01 _ | (unfold rg; omega)) (fun c57 => ?_) (fun c57 => ?_)
          · refine eR_ic dX1_maySwap_75 ?_
            refine eR_zret dX1_maySwap_76 rfl (by omega) ?_
            rw [show (b01 (a / 2 ≠ b / 2 ∧ mySw S a b) : Int) = 0 from by first | exact b01_t ⟨by omega, by assumption, by assumption, by omega, by omega, by omega⟩ | exact b01_f (by rintro ⟨q1, q2, q3, q4, q5, q6⟩; first | contradiction | omega)] at k; exact k
          · refine eR_aldn_0 dX1_maySwap_60 rfl ?_
            refine eR_ildn_2 dX1_maySwap_61 rfl ?_
            refine eR_ic dX1_maySwap_62 ?_
            refine eR_ixor dX1_maySwap_63 ?_
            refine eX_pcI (show (zXor ↑b 1 : Int) = ↑(b ^^^ 1 : Nat) from zXor_nat (by omega) (by decide)) ?_
            refine eR_callSi [_, _] rfl dX1_maySwap_64 ok_mX1_ownerOf kw_721 rfl rfl (Nat.le_of_ble_eq_true rfl) (d' := 0) (by decide) (Nat.le_of_ble_eq_true rfl) ?_
            refine tn_ownerOf (a := b ^^^ 1) T B V (by omega) ?_
            refine eX_pcI (show (↑(sO S ((b ^^^ 1) / 2) ((b ^^^ 1) % 2)) : Int) = ↑(sO S (b / 2) (1 - b % 2)) from by rw [xb.1, xb.2]) ?_
            refine eR_ildn_3 dX1_maySwap_67 rfl ?_
            refine eR_icmp_eq (tgt := 75) dX1_maySwap_68 (by decide) (by first | exact rg_b01 _ | (unfold rg; omega)) (by first | exact rg_b01 _ | (unfold rg; omega)) (fun c68 => ?_) (fun c68 => ?_)
            · refine eR_ic dX1_maySwap_75 ?_
              refine eR_zret dX1_maySwap_76 rfl (by omega) ?_
              rw [show (b01 (a / 2 ≠ b / 2 ∧ mySw S a b) : Int) = 0 from by first | exact b01_t ⟨by omega, by assumption, by assumption, by omega, by omega, by omega⟩ | exact b01_f (by rintro ⟨q1, q2, q3, q4, q5, q6⟩; first | contradiction | omega)] at k; exact k
            · refine eR_ic dX1_maySwap_71 ?_
              refine eR_goto (tgt := 76) dX1_maySwap_72 (by decide) ?_
              refine eR_zret dX1_maySwap_76 rfl (by omega) ?_
              rw [show (b01 (a / 2 ≠ b / 2 ∧ mySw S a b) : Int) = 1 from by first | exact b01_t ⟨by omega, by assumption, by assumption, by omega, by omega, by omega⟩ | exact b01_f (by rintro ⟨q1, q2, q3, q4, q5, q6⟩; first | contradiction | omega)] at k; exact k
theorem tn_ownerRaw (T : isTn (tau t s) u) {a : Nat} (ha : a < 16) (k : Q (.int (zI (h (u + 2 + a / 2) (a % 2)))) (tau t s) h) : eX g 0 mX1_ownerOf 0 (lv_args 0 [.ref (gA g u), .int (zI ↑a)]) [] (tau t s) h Q := by
  show eX g 0 mX1_ownerOf 0 [(0, .ref (gA g u)), (1, .int (zI ↑a))] [] (tau t s) h Q
  refine eR_aldn_0 dX1_ownerOf_0 rfl ?_
  refine eR_getR (i := u + 1) dX1_ownerOf_1 gf_X1_17 T.1 rfl ?_
  refine eR_ildn_1 dX1_ownerOf_4 rfl ?_
  refine eR_ic dX1_ownerOf_5 ?_
  refine eR_idiv dX1_ownerOf_6 (by first | exact rg_b01 _ | (unfold rg; omega)) (by first | exact rg_b01 _ | (unfold rg; omega)) (by omega) ?_
  refine eX_pcI (show (Int.tdiv ↑a 2 : Int) = ↑(a / 2 : Nat) from rfl) ?_
  refine eR_aald3 (n := a / 2) (i := u + 2 + (a / 2)) dX1_ownerOf_7 T.2.1 (rfl) (by omega) (by decide) (rowsK_at (by omega)) ?_
  refine eR_ildn_1 dX1_ownerOf_8 rfl ?_
  refine eR_ic dX1_ownerOf_9 ?_
  refine eR_irem dX1_ownerOf_10 (by first | exact rg_b01 _ | (unfold rg; omega)) (by first | exact rg_b01 _ | (unfold rg; omega)) (by omega) ?_
  refine eX_pcI (show (Int.tmod ↑a 2 : Int) = ↑(a % 2 : Nat) from rfl) ?_
  refine eR_iald (n := a % 2) dX1_ownerOf_11 (T.2.2.1 (a / 2) (by omega)) (rfl) (by omega) (by decide) ?_
  refine eR_iret dX1_ownerOf_12 rfl rfl ?_
  exact k
theorem tn_changeOwners (T : isTn (tau t s) u) {a b : Nat} (ha : a < 16) (hb : b < 16) (k : Q .null (tau t s) (hU (hU h (u + 2 + a / 2) (a % 2) (h (u + 2 + b / 2) (b % 2))) (u + 2 + b / 2) (b % 2) (h (u + 2 + a / 2) (a % 2)))) : eX g 1 mX1_changeOwners 0 (lv_args 0 [.ref (gA g u), .int (zI ↑a), .int (zI ↑b)]) [] (tau t s) h Q := by
  show eX g 1 mX1_changeOwners 0 [(0, .ref (gA g u)), (1, .int (zI ↑a)), (2, .int (zI ↑b))] [] (tau t s) h Q
  refine eR_aldn_0 dX1_changeOwners_0 rfl ?_
  refine eR_ildn_1 dX1_changeOwners_1 rfl ?_
  refine eR_callSi [_, _] rfl dX1_changeOwners_2 ok_mX1_ownerOf kw_721 rfl rfl (Nat.le_of_ble_eq_true rfl) (d' := 0) (by decide) (Nat.le_of_ble_eq_true rfl) ?_
  refine tn_ownerRaw (a := a) T (by omega) ?_
  refine eR_istn_n3 dX1_changeOwners_5 rfl (by decide) rfl ?_
  refine eR_aldn_0 dX1_changeOwners_6 rfl ?_
  refine eR_getR (i := u + 1) dX1_changeOwners_7 gf_X1_17 T.1 rfl ?_
  refine eR_ildn_1 dX1_changeOwners_10 rfl ?_
  refine eR_ic dX1_changeOwners_11 ?_
  refine eR_idiv dX1_changeOwners_12 (by first | exact rg_b01 _ | (unfold rg; omega)) (by first | exact rg_b01 _ | (unfold rg; omega)) (by omega) ?_
  refine eX_pcI (show (Int.tdiv ↑a 2 : Int) = ↑(a / 2 : Nat) from rfl) ?_
  refine eR_aald3 (n := a / 2) (i := u + 2 + (a / 2)) dX1_changeOwners_13 T.2.1 (rfl) (by omega) (by decide) (rowsK_at (by omega)) ?_
  refine eR_ildn_1 dX1_changeOwners_14 rfl ?_
  refine eR_ic dX1_changeOwners_15 ?_
  refine eR_irem dX1_changeOwners_16 (by first | exact rg_b01 _ | (unfold rg; omega)) (by first | exact rg_b01 _ | (unfold rg; omega)) (by omega) ?_
  refine eX_pcI (show (Int.tmod ↑a 2 : Int) = ↑(a % 2 : Nat) from rfl) ?_
  refine eR_aldn_0 dX1_changeOwners_17 rfl ?_
  refine eR_ildn_2 dX1_changeOwners_18 rfl ?_
  refine eR_callSi [_, _] rfl dX1_changeOwners_19 ok_mX1_ownerOf kw_721 rfl rfl (Nat.le_of_ble_eq_true rfl) (d' := 0) (by decide) (Nat.le_of_ble_eq_true rfl) ?_
  refine tn_ownerRaw (a := b) T (by omega) ?_
  refine eR_iast (n := a % 2) dX1_changeOwners_22 (T.2.2.1 (a / 2) (by omega)) (rfl) (by omega) (by decide) ?_
  refine eR_aldn_0 dX1_changeOwners_23 rfl ?_
  refine eR_getR (i := u + 1) dX1_changeOwners_24 gf_X1_17 T.1 rfl ?_
  refine eR_ildn_2 dX1_changeOwners_27 rfl ?_
  refine eR_ic dX1_changeOwners_28 ?_
  refine eR_idiv dX1_changeOwners_29 (by first | exact rg_b01 _ | (unfold rg; omega)) (by first | exact rg_b01 _ | (unfold rg; omega)) (by omega) ?_
  refine eX_pcI (show (Int.tdiv ↑b 2 : Int) = ↑(b / 2 : Nat) from rfl) ?_
  refine eR_aald3 (n := b / 2) (i := u + 2 + (b / 2)) dX1_changeOwners_30 T.2.1 (rfl) (by omega) (by decide) (rowsK_at (by omega)) ?_
  refine eR_ildn_2 dX1_changeOwners_31 rfl ?_
  refine eR_ic dX1_changeOwners_32 ?_
  refine eR_irem dX1_changeOwners_33 (by first | exact rg_b01 _ | (unfold rg; omega)) (by first | exact rg_b01 _ | (unfold rg; omega)) (by omega) ?_
  refine eX_pcI (show (Int.tmod ↑b 2 : Int) = ↑(b % 2 : Nat) from rfl) ?_
  refine eR_ildn_3 dX1_changeOwners_34 rfl ?_
  refine eR_iast (n := b % 2) dX1_changeOwners_35 (T.2.2.1 (b / 2) (by omega)) (rfl) (by omega) (by decide) ?_
  refine eR_vret dX1_changeOwners_36 rfl ?_
  exact k
theorem tn_isSwapped (T : isTn (tau t s) u) (B : sB S) (V : cV h u S) {a b : Nat} (ha : a < 2 * sC S) (hb : b < 2 * sC S) (hab : a / 2 ≠ b / 2) (m1 : mySw S a b) (k0 : ¬ gdS S (a / 2) (a % 2) (b / 2) (b % 2) → Q (.int (zI 0)) (tau t s) h) (k1 : gdS S (a / 2) (a % 2) (b / 2) (b % 2) → Q (.int (zI 1)) (tau t s) (hU (hU h (u + 2 + a / 2) (a % 2) (sO S (b / 2) (b % 2))) (u + 2 + b / 2) (b % 2) (sO S (a / 2) (a % 2)))) : eX g 2 mX1_isSwapped 0 (lv_args 0 [.ref (gA g u), .int (zI ↑a), .int (zI ↑b)]) [] (tau t s) h Q := by
  show eX g 2 mX1_isSwapped 0 [(0, .ref (gA g u)), (1, .int (zI ↑a)), (2, .int (zI ↑b))] [] (tau t s) h Q
  have hP8 := B.1
  have hC8 := B.2.1
  have hE10 := B.2.2.1
  have hF99 := B.2.2.2.2.2.2.1
  have l1 := sO_lt B (c := a / 2) (k := a % 2) (by omega) (by omega)
  have l2 := sO_lt B (c := b / 2) (k := b % 2) (by omega) (by omega)
  have lw1 := wsN_le B l1 (sC S) (Nat.le_refl _)
  have lw2 := wsN_le B l2 (sC S) (Nat.le_refl _)
  have B2 : sB (swS S (a / 2) (a % 2) (b / 2) (b % 2)) := sB_sw B (by omega) (by omega) hab (by omega) (by omega) m1.2.2.2.1 m1.2.2.2.2
  have lx1 := wsN_le B2 (p := sO S (a / 2) (a % 2)) l1 (sC S) (Nat.le_refl _)
  have lx2 := wsN_le B2 (p := sO S (b / 2) (b % 2)) l2 (sC S) (Nat.le_refl _)
  have r1 := cV_own V (c := a / 2) (k := a % 2) (by omega) (by omega)
  have r2 := cV_own V (c := b / 2) (k := b % 2) (by omega) (by omega)
  have e206 : hU (hU h (u + 2 + a / 2) (a % 2) (h (u + 2 + b / 2) (b % 2))) (u + 2 + b / 2) (b % 2) (h (u + 2 + a / 2) (a % 2)) = hU (hU h (u + 2 + a / 2) (a % 2) (sO S (b / 2) (b % 2))) (u + 2 + b / 2) (b % 2) (sO S (a / 2) (a % 2)) := by rw [r1, r2]
  generalize hh2 : hU (hU h (u + 2 + a / 2) (a % 2) (sO S (b / 2) (b % 2))) (u + 2 + b / 2) (b % 2) (sO S (a / 2) (a % 2)) = h2 at e206 k1
  have V2 : cV h2 u (swS S (a / 2) (a % 2) (b / 2) (b % 2)) := by
    rw [← hh2]
    exact cV_setO (S := setO S (a / 2) (a % 2) (sO S (b / 2) (b % 2))) (sB_setO B l2 m1.2.2.2.1 (by omega)) (cV_setO B V (by omega) (by omega)) (show b / 2 < sC S by omega) (by omega)
  have eback : hU (hU h2 (u + 2 + a / 2) (a % 2) (h2 (u + 2 + b / 2) (b % 2))) (u + 2 + b / 2) (b % 2) (h2 (u + 2 + a / 2) (a % 2)) = h := by
    rw [← hh2]
    funext x i
    simp only [hU_g]
    by_cases qa : x = u + 2 + b / 2 ∧ i = b % 2
    · obtain ⟨rfl, rfl⟩ := qa
      simp [show ¬ (u + 2 + a / 2 = u + 2 + b / 2) from by omega, hab, r2]
    · by_cases qb : x = u + 2 + a / 2 ∧ i = a % 2
      · obtain ⟨rfl, rfl⟩ := qb
        simp [show ¬ (u + 2 + a / 2 = u + 2 + b / 2) from by omega, hab, r1]
      · rw [if_neg qa, if_neg qb, if_neg qa, if_neg qb]
  refine eR_aldn_0 dX1_isSwapped_0 rfl ?_
  refine eR_ildn_1 dX1_isSwapped_1 rfl ?_
  refine eR_callSi [_, _] rfl dX1_isSwapped_2 ok_mX1_ownerOf kw_721 rfl rfl (Nat.le_of_ble_eq_true rfl) (d' := 0) (by decide) (Nat.le_of_ble_eq_true rfl) ?_
  refine tn_ownerOf (a := a) T B V (by omega) ?_
  refine eR_istn_n3 dX1_isSwapped_5 rfl (by decide) rfl ?_
  refine eR_aldn_0 dX1_isSwapped_6 rfl ?_
  refine eR_ildn_2 dX1_isSwapped_7 rfl ?_
  refine eR_callSi [_, _] rfl dX1_isSwapped_8 ok_mX1_ownerOf kw_721 rfl rfl (Nat.le_of_ble_eq_true rfl) (d' := 0) (by decide) (Nat.le_of_ble_eq_true rfl) ?_
  refine tn_ownerOf (a := b) T B V (by omega) ?_
  refine eR_ist_n4 dX1_isSwapped_11 (by decide) rfl ?_
  refine eR_aldn_0 dX1_isSwapped_13 rfl ?_
  refine eR_ildn_3 dX1_isSwapped_14 rfl ?_
  refine eR_callSi [_, _] rfl dX1_isSwapped_15 ok_mX1_wishOf kw_727 rfl rfl (Nat.le_of_ble_eq_true rfl) (d' := 1) (by decide) (Nat.le_of_ble_eq_true rfl) ?_
  refine tn_wishOf (p := (sO S (a / 2) (a % 2))) T B V (by omega) ?_
  refine eR_ist_n5 dX1_isSwapped_18 (by decide) rfl ?_
  refine eR_aldn_0 dX1_isSwapped_20 rfl ?_
  refine eR_ild_4 dX1_isSwapped_21 ?_
  refine eR_callSi [_, _] rfl dX1_isSwapped_23 ok_mX1_wishOf kw_727 rfl rfl (Nat.le_of_ble_eq_true rfl) (d' := 1) (by decide) (Nat.le_of_ble_eq_true rfl) ?_
  refine tn_wishOf (p := (sO S (b / 2) (b % 2))) T B V (by omega) ?_
  refine eR_ist_n6 dX1_isSwapped_26 (by decide) rfl ?_
  refine eR_aldn_0 dX1_isSwapped_28 rfl ?_
  refine eR_ildn_1 dX1_isSwapped_29 rfl ?_
  refine eR_ildn_2 dX1_isSwapped_30 rfl ?_
  refine eR_callSv [_, _, _] rfl dX1_isSwapped_31 ok_mX1_changeOwners kw_728 rfl rfl (Nat.le_of_ble_eq_true rfl) (d' := 1) (by decide) (Nat.le_of_ble_eq_true rfl) ?_
  refine tn_changeOwners (a := a) (b := b) T (by omega) (by omega) ?_
  rw [e206]
  refine eR_aldn_0 dX1_isSwapped_34 rfl ?_
  refine eR_ildn_3 dX1_isSwapped_35 rfl ?_
  refine eR_callSi [_, _] rfl dX1_isSwapped_36 ok_mX1_wishOf kw_727 rfl rfl (Nat.le_of_ble_eq_true rfl) (d' := 1) (by decide) (Nat.le_of_ble_eq_true rfl) ?_
  refine tn_wishOf (S := swS S (a / 2) (a % 2) (b / 2) (b % 2)) (p := (sO S (a / 2) (a % 2))) T B2 V2 (by first | exact l1 | exact l2) ?_
  refine eX_pcI (show (↑(wsN (swS S (a / 2) (a % 2) (b / 2) (b % 2)) ((sO S (a / 2) (a % 2))) (sC (swS S (a / 2) (a % 2) (b / 2) (b % 2)))) : Int) = ↑(wsN (swS S (a / 2) (a % 2) (b / 2) (b % 2)) (sO S (a / 2) (a % 2)) (sC S)) from rfl) ?_
  refine eR_ild_5 dX1_isSwapped_39 ?_
  refine eR_icmp_le (tgt := 57) dX1_isSwapped_41 (by decide) (by first | exact rg_b01 _ | (unfold rg; omega)) (by first | exact rg_b01 _ | (unfold rg; omega)) (fun c41 => ?_) (fun c41 => ?_)
  · refine eR_aldn_0 dX1_isSwapped_57 rfl ?_
    refine eR_ildn_1 dX1_isSwapped_58 rfl ?_
    refine eR_ildn_2 dX1_isSwapped_59 rfl ?_
    refine eR_callSv [_, _, _] rfl dX1_isSwapped_60 ok_mX1_changeOwners kw_728 rfl rfl (Nat.le_of_ble_eq_true rfl) (d' := 1) (by decide) (Nat.le_of_ble_eq_true rfl) ?_
    refine tn_changeOwners (a := a) (b := b) T (by omega) (by omega) ?_
    rw [eback]
    refine eR_ic dX1_isSwapped_63 ?_
    refine eR_zret dX1_isSwapped_64 rfl (by omega) ?_
    exact k0 (fun q => by obtain ⟨q1, q2, q3, q4, q5, q6, q7⟩ := q; omega)
  · refine eR_aldn_0 dX1_isSwapped_44 rfl ?_
    refine eR_ild_4 dX1_isSwapped_45 ?_
    refine eR_callSi [_, _] rfl dX1_isSwapped_47 ok_mX1_wishOf kw_727 rfl rfl (Nat.le_of_ble_eq_true rfl) (d' := 1) (by decide) (Nat.le_of_ble_eq_true rfl) ?_
    refine tn_wishOf (S := swS S (a / 2) (a % 2) (b / 2) (b % 2)) (p := (sO S (b / 2) (b % 2))) T B2 V2 (by first | exact l1 | exact l2) ?_
    refine eX_pcI (show (↑(wsN (swS S (a / 2) (a % 2) (b / 2) (b % 2)) ((sO S (b / 2) (b % 2))) (sC (swS S (a / 2) (a % 2) (b / 2) (b % 2)))) : Int) = ↑(wsN (swS S (a / 2) (a % 2) (b / 2) (b % 2)) (sO S (b / 2) (b % 2)) (sC S)) from rfl) ?_
    refine eR_ild_6 dX1_isSwapped_50 ?_
    refine eR_icmp_le (tgt := 57) dX1_isSwapped_52 (by decide) (by first | exact rg_b01 _ | (unfold rg; omega)) (by first | exact rg_b01 _ | (unfold rg; omega)) (fun c52 => ?_) (fun c52 => ?_)
    · refine eR_aldn_0 dX1_isSwapped_57 rfl ?_
      refine eR_ildn_1 dX1_isSwapped_58 rfl ?_
      refine eR_ildn_2 dX1_isSwapped_59 rfl ?_
      refine eR_callSv [_, _, _] rfl dX1_isSwapped_60 ok_mX1_changeOwners kw_728 rfl rfl (Nat.le_of_ble_eq_true rfl) (d' := 1) (by decide) (Nat.le_of_ble_eq_true rfl) ?_
      refine tn_changeOwners (a := a) (b := b) T (by omega) (by omega) ?_
      rw [eback]
      refine eR_ic dX1_isSwapped_63 ?_
      refine eR_zret dX1_isSwapped_64 rfl (by omega) ?_
      exact k0 (fun q => by obtain ⟨q1, q2, q3, q4, q5, q6, q7⟩ := q; omega)
    · refine eR_ic dX1_isSwapped_55 ?_
      refine eR_zret dX1_isSwapped_56 rfl (by omega) ?_
      exact k1 ⟨m1.1, m1.2.1, m1.2.2.1, m1.2.2.2.1, m1.2.2.2.2, by omega, by omega⟩
theorem tl_swJ (T : isTn (tau t s) u) (B : sB S) (V : cV h u S) {i : Nat} (hi : i < 2 * sC S) : ∀ n j : Nat, j + n = 2 * sC S → i < j → (swJ S i n j = none → eX g 3 mX1_swapFirst 49 [(0, .ref (gA g u)), (1, .int (zI ↑(2 * sC S : Nat))), (2, .int (zI ↑i)), (3, .int (zI ↑(2 * sC S : Nat)))] [] (tau t s) h Q) → (∀ (S2 : TS) (h2 : PH), swJ S i n j = some S2 → ofR (u + 2) (u + 10) h h2 → cV h2 u S2 → sB S2 → Q (.int (zI 1)) (tau t s) h2) → eX g 3 mX1_swapFirst 18 [(0, .ref (gA g u)), (1, .int (zI ↑(2 * sC S : Nat))), (2, .int (zI ↑i)), (3, .int (zI ↑j))] [] (tau t s) h Q := by
  have hP8 := B.1
  have hC8 := B.2.1
  have hE10 := B.2.2.1
  have hF99 := B.2.2.2.2.2.2.1
  intro n
  induction n with
  | zero =>
    intro j hj hij kn k1
    refine eR_ildn_3 dX1_swapFirst_18 rfl ?_
    refine eR_ildn_1 dX1_swapFirst_19 rfl ?_
    refine eR_icmp_ge (tgt := 49) dX1_swapFirst_20 (by decide) (by first | exact rg_b01 _ | (unfold rg; omega)) (by first | exact rg_b01 _ | (unfold rg; omega)) (fun c20 => ?_) (fun c20 => absurd c20 (by omega))
    have e9 : j = 2 * sC S := by omega
    subst e9
    exact kn rfl
  | succ n ih =>
    intro j hj hij kn k1
    refine eR_ildn_3 dX1_swapFirst_18 rfl ?_
    refine eR_ildn_1 dX1_swapFirst_19 rfl ?_
    refine eR_icmp_ge (tgt := 49) dX1_swapFirst_20 (by decide) (by first | exact rg_b01 _ | (unfold rg; omega)) (by first | exact rg_b01 _ | (unfold rg; omega)) (fun c20 => absurd c20 (by omega)) (fun c20 => ?_)
    refine eR_aldn_0 dX1_swapFirst_23 rfl ?_
    refine eR_ildn_2 dX1_swapFirst_24 rfl ?_
    refine eR_ildn_3 dX1_swapFirst_25 rfl ?_
    refine eR_callSi [_, _, _] rfl dX1_swapFirst_26 ok_mX1_maySwap kw_718 rfl rfl (Nat.le_of_ble_eq_true rfl) (d' := 1) (by decide) (Nat.le_of_ble_eq_true rfl) ?_
    refine tn_maySwap (a := i) (b := j) T B V (by omega) (by omega) ?_
    refine eR_if_eq (tgt := 43) dX1_swapFirst_29 (by decide) (by first | exact rg_b01 _ | (unfold rg; omega)) (fun c29 => ?_) (fun c29 => ?_)
    · replace c29 := b01_eq0.mp c29
      refine eR_iinc_3 dX1_swapFirst_43 (by decide) rfl ?_
      refine eR_goto (tgt := 18) dX1_swapFirst_46 (by decide) ?_
      have e9 := swJ_n (S := S) (n := n) (i := i) (j := j) (fun q => c29 ⟨q.1, q.2.1, q.2.2.1, q.2.2.2.1, q.2.2.2.2.1, q.2.2.2.2.2.1⟩)
      rw [e9] at kn k1
      exact ih (j + 1) (by omega) (by omega) kn k1
    · replace c29 := b01_ne0.mp c29
      refine eR_aldn_0 dX1_swapFirst_32 rfl ?_
      refine eR_ildn_2 dX1_swapFirst_33 rfl ?_
      refine eR_ildn_3 dX1_swapFirst_34 rfl ?_
      refine eR_callSi [_, _, _] rfl dX1_swapFirst_35 ok_mX1_isSwapped kw_724 rfl rfl (Nat.le_of_ble_eq_true rfl) (d' := 2) (by decide) (Nat.le_of_ble_eq_true rfl) ?_
      refine tn_isSwapped (a := i) (b := j) T B V (by omega) (by omega) c29.1 c29.2 (fun hg => ?_) (fun hg => ?_)
      · refine eR_if_eq (tgt := 43) dX1_swapFirst_38 (by decide) (by first | exact rg_b01 _ | (unfold rg; omega)) (fun c38 => ?_) (fun c38 => absurd c38 (by decide))
        refine eR_iinc_3 dX1_swapFirst_43 (by decide) rfl ?_
        refine eR_goto (tgt := 18) dX1_swapFirst_46 (by decide) ?_
        have e9 := swJ_n (S := S) (n := n) (i := i) (j := j) (fun q => hg q.2)
        rw [e9] at kn k1
        exact ih (j + 1) (by omega) (by omega) kn k1
      · refine eR_if_eq (tgt := 43) dX1_swapFirst_38 (by decide) (by first | exact rg_b01 _ | (unfold rg; omega)) (fun c38 => absurd c38 (by decide)) (fun c38 => ?_)
        refine eR_ic dX1_swapFirst_41 ?_
        refine eR_zret dX1_swapFirst_42 rfl (by omega) ?_
        refine k1 _ _ (swJ_y ⟨c29.1, hg⟩) (ofR_w (ofR_w (ofR_rf _ _ h) (by omega)) (by omega)) ?_ ?_
        · exact cV_setO (S := setO S (i / 2) (i % 2) (sO S (j / 2) (j % 2))) (sB_setO B (sO_lt B (by omega) (by omega)) c29.2.2.2.2.1 (by omega)) (cV_setO B V (by omega) (by omega)) (show j / 2 < sC S by omega) (by omega)
        · exact sB_sw B (by omega) (by omega) c29.1 (by omega) (by omega) hg.2.2.2.1 hg.2.2.2.2.1
theorem tl_swI (T : isTn (tau t s) u) (B : sB S) (V : cV h u S) : ∀ n i : Nat, i + n = 2 * sC S → (swI S n i = none → Q (.int (zI 0)) (tau t s) h) → (∀ (S2 : TS) (h2 : PH), swI S n i = some S2 → ofR (u + 2) (u + 10) h h2 → cV h2 u S2 → sB S2 → Q (.int (zI 1)) (tau t s) h2) → eX g 3 mX1_swapFirst 9 [(0, .ref (gA g u)), (1, .int (zI ↑(2 * sC S : Nat))), (2, .int (zI ↑i))] [] (tau t s) h Q := by
  have hP8 := B.1
  have hC8 := B.2.1
  have hE10 := B.2.2.1
  have hF99 := B.2.2.2.2.2.2.1
  intro n
  induction n with
  | zero =>
    intro i hi kn k1
    refine eR_ildn_2 dX1_swapFirst_9 rfl ?_
    refine eR_ildn_1 dX1_swapFirst_10 rfl ?_
    refine eR_icmp_ge (tgt := 55) dX1_swapFirst_11 (by decide) (by first | exact rg_b01 _ | (unfold rg; omega)) (by first | exact rg_b01 _ | (unfold rg; omega)) (fun c11 => ?_) (fun c11 => absurd c11 (by omega))
    refine eR_ic dX1_swapFirst_55 ?_
    refine eR_zret dX1_swapFirst_56 rfl (by omega) ?_
    exact kn rfl
  | succ n ih =>
    intro i hi kn k1
    refine eR_ildn_2 dX1_swapFirst_9 rfl ?_
    refine eR_ildn_1 dX1_swapFirst_10 rfl ?_
    refine eR_icmp_ge (tgt := 55) dX1_swapFirst_11 (by decide) (by first | exact rg_b01 _ | (unfold rg; omega)) (by first | exact rg_b01 _ | (unfold rg; omega)) (fun c11 => absurd c11 (by omega)) (fun c11 => ?_)
    refine eR_ildn_2 dX1_swapFirst_14 rfl ?_
    refine eR_ic dX1_swapFirst_15 ?_
    refine eR_iadd dX1_swapFirst_16 ?_
    refine eR_istn_n3 dX1_swapFirst_17 rfl (by decide) rfl ?_
    refine tl_swJ (i := i) T B V (by omega) (2 * sC S - (i + 1)) (i + 1) (by omega) (by omega) (fun q9 => ?_) (fun S2 h2 q9 => k1 S2 h2 (swI_y q9))
    refine eR_iinc_2 dX1_swapFirst_49 (by decide) rfl ?_
    refine eR_goto (tgt := 9) dX1_swapFirst_52 (by decide) ?_
    refine eX_lv (lv2 := List.take 3 _) (fun q hq => List.mem_of_mem_take hq) ?_
    rw [swI_n q9] at kn k1
    exact ih (i + 1) (by omega) kn k1
theorem tn_swapFirst (T : isTn (tau t s) u) (B : sB S) (V : cV h u S) (kn : swF S = none → Q (.int (zI 0)) (tau t s) h) (k1 : (∀ (S2 : TS) (h2 : PH), swF S = some S2 → ofR (u + 2) (u + 10) h h2 → cV h2 u S2 → sB S2 → Q (.int (zI 1)) (tau t s) h2)) : eX g 3 mX1_swapFirst 0 (lv_args 0 [.ref (gA g u)]) [] (tau t s) h Q := by
  show eX g 3 mX1_swapFirst 0 [(0, .ref (gA g u))] [] (tau t s) h Q
  refine eR_ic dX1_swapFirst_0 ?_
  refine eR_aldn_0 dX1_swapFirst_1 rfl ?_
  refine eR_getI dX1_swapFirst_2 gf_X1_7 T.1 rfl ?_
  refine eX_pcI (V.2.1) ?_
  refine eR_imul dX1_swapFirst_5 ?_
  refine eX_pcI (show (2 * ↑(sC S) : Int) = ↑(2 * sC S : Nat) from rfl) ?_
  refine eR_istn_n1 dX1_swapFirst_6 rfl (by decide) rfl ?_
  refine eR_ic dX1_swapFirst_7 ?_
  refine eR_istn_n2 dX1_swapFirst_8 rfl (by decide) rfl ?_
  exact tl_swI T B V (2 * sC S) 0 (by omega) kn k1
end M47
