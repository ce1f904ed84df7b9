section M64
variable {g : EG} {b d n u : Nat} {τ τ0 : List Kd} {h h1 : PH} {Q : EQ}
theorem nt_1 (T : isTn τ u) {p : Nat} (hp : p < 8) (k : ∀ h1 : PH, ofO (u + 32 + p) h h1 → (∀ x, x < 8 → h1 (u + 32 + p) x = 0) → eX g 0 mX6_clear 79 [(0, .ref (gA g u)), (1, .int (zI ↑p)), (2, .int (zI ↑8))] [] τ h1 Q) : ∀ n q, q + n = 8 → ∀ h1 : PH, ofO (u + 32 + p) h h1 → (∀ x, x < q → h1 (u + 32 + p) x = 0) → eX g 0 mX6_clear 58 [(0, .ref (gA g u)), (1, .int (zI ↑p)), (2, .int (zI ↑q))] [] τ h1 Q := by
  intro n
  induction n with
  | zero =>
    intro q hq h1 hO hd
    refine eR_ildn_2 dX6_clear_58 rfl ?_
    refine eR_bi (z := 8) dX6_clear_59 rfl ?_
    refine eR_icmp_ge (tgt := 79) dX6_clear_61 (by decide) (by first | exact rg_b01 _ | (unfold rg; omega)) (by first | exact rg_b01 _ | (unfold rg; omega)) (fun c61 => ?_) (fun c61 => absurd c61 (by omega))
    have e9 : q = 8 := by omega
    subst e9
    exact k h1 hO hd
  | succ n ih =>
    intro q hq h1 hO hd
    refine eR_ildn_2 dX6_clear_58 rfl ?_
    refine eR_bi (z := 8) dX6_clear_59 rfl ?_
    refine eR_icmp_ge (tgt := 79) dX6_clear_61 (by decide) (by first | exact rg_b01 _ | (unfold rg; omega)) (by first | exact rg_b01 _ | (unfold rg; omega)) (fun c61 => absurd c61 (by omega)) (fun c61 => ?_)
    refine eR_aldn_0 dX6_clear_64 rfl ?_
    refine eR_getR (i := u + 31) dX6_clear_65 gf_X6_26 T.1 rfl ?_
    refine eR_ildn_1 dX6_clear_68 rfl ?_
    refine eR_aald3 (n := p) (i := u + 32 + p) dX6_clear_69 T.2.2.2.2.2.2.2.2.1 (rfl) (by omega) (by decide) (rowsK_at (by omega)) ?_
    refine eR_ildn_2 dX6_clear_70 rfl ?_
    refine eR_ic dX6_clear_71 ?_
    refine eR_iast (n := q) dX6_clear_72 (T.2.2.2.2.2.2.2.2.2.1 p (by omega)) (rfl) (by omega) (by decide) ?_
    refine eR_iinc_2 dX6_clear_73 (by decide) rfl ?_
    refine eR_goto (tgt := 58) dX6_clear_76 (by decide) ?_
    refine ih (q + 1) (by omega) _ (ofO_w hO) (fun x hx => ?_)
    by_cases hxq : x = q
    · subst hxq; exact hU_s _ _ _ _
    · rw [hU_i _ _ _ hxq]; exact hd x (by omega)
theorem nt_2 (T : isTn τ u) {p : Nat} (hp : p < 8) (k : ∀ h1 : PH, ofO (u + 23 + p) h h1 → (∀ x, x < 24 → h1 (u + 23 + p) x = -1) → eX g 0 mX6_clear 102 [(0, .ref (gA g u)), (1, .int (zI ↑p)), (2, .int (zI ↑24))] [] τ h1 Q) : ∀ n q, q + n = 24 → ∀ h1 : PH, ofO (u + 23 + p) h h1 → (∀ x, x < q → h1 (u + 23 + p) x = -1) → eX g 0 mX6_clear 81 [(0, .ref (gA g u)), (1, .int (zI ↑p)), (2, .int (zI ↑q))] [] τ h1 Q := by
  intro n
  induction n with
  | zero =>
    intro q hq h1 hO hd
    refine eR_ildn_2 dX6_clear_81 rfl ?_
    refine eR_bi (z := 24) dX6_clear_82 rfl ?_
    refine eR_icmp_ge (tgt := 102) dX6_clear_84 (by decide) (by first | exact rg_b01 _ | (unfold rg; omega)) (by first | exact rg_b01 _ | (unfold rg; omega)) (fun c84 => ?_) (fun c84 => absurd c84 (by omega))
    have e9 : q = 24 := by omega
    subst e9
    exact k h1 hO hd
  | succ n ih =>
    intro q hq h1 hO hd
    refine eR_ildn_2 dX6_clear_81 rfl ?_
    refine eR_bi (z := 24) dX6_clear_82 rfl ?_
    refine eR_icmp_ge (tgt := 102) dX6_clear_84 (by decide) (by first | exact rg_b01 _ | (unfold rg; omega)) (by first | exact rg_b01 _ | (unfold rg; omega)) (fun c84 => absurd c84 (by omega)) (fun c84 => ?_)
    refine eR_aldn_0 dX6_clear_87 rfl ?_
    refine eR_getR (i := u + 22) dX6_clear_88 gf_X6_23 T.1 rfl ?_
    refine eR_ildn_1 dX6_clear_91 rfl ?_
    refine eR_aald3 (n := p) (i := u + 23 + p) dX6_clear_92 T.2.2.2.2.2.2.1 (rfl) (by omega) (by decide) (rowsK_at (by omega)) ?_
    refine eR_ildn_2 dX6_clear_93 rfl ?_
    refine eR_ic dX6_clear_94 ?_
    refine eR_iast (n := q) dX6_clear_95 (T.2.2.2.2.2.2.2.1 p (by omega)) (rfl) (by omega) (by decide) ?_
    refine eR_iinc_2 dX6_clear_96 (by decide) rfl ?_
    refine eR_goto (tgt := 81) dX6_clear_99 (by decide) ?_
    refine ih (q + 1) (by omega) _ (ofO_w hO) (fun x hx => ?_)
    by_cases hxq : x = q
    · subst hxq; exact hU_s _ _ _ _
    · rw [hU_i _ _ _ hxq]; exact hd x (by omega)
theorem nt_3 (T : isTn τ u) (k : ∀ h1 : PH, ofR u (u + 41) h h1 → rV h1 u uZ → Q .null τ h1) : ∀ n p, p + n = 8 → ∀ h1 : PH, ofR u (u + 41) h h1 → clF h1 u → (∀ x, x < p → clR h1 u x) → eX g 0 mX6_clear 43 [(0, .ref (gA g u)), (1, .int (zI ↑p))] [] τ h1 Q := by
  intro n
  induction n with
  | zero =>
    intro p hp h1 hO hF hR
    refine eR_ildn_1 dX6_clear_43 rfl ?_
    refine eR_bi (z := 8) dX6_clear_44 rfl ?_
    refine eR_icmp_ge (tgt := 108) dX6_clear_46 (by decide) (by first | exact rg_b01 _ | (unfold rg; omega)) (by first | exact rg_b01 _ | (unfold rg; omega)) (fun c46 => ?_) (fun c46 => absurd c46 (by omega))
    refine eR_vret dX6_clear_108 rfl ?_
    have e9 : p = 8 := by omega
    subst e9
    exact k h1 hO (rV_uZ hF hR)
  | succ n ih =>
    intro p hp h1 hO hF hR
    refine eR_ildn_1 dX6_clear_43 rfl ?_
    refine eR_bi (z := 8) dX6_clear_44 rfl ?_
    refine eR_icmp_ge (tgt := 108) dX6_clear_46 (by decide) (by first | exact rg_b01 _ | (unfold rg; omega)) (by first | exact rg_b01 _ | (unfold rg; omega)) (fun c46 => absurd c46 (by omega)) (fun c46 => ?_)
    refine eR_aldn_0 dX6_clear_49 rfl ?_
    refine eR_getR (i := u + 40) dX6_clear_50 gf_X6_29 T.1 rfl ?_
    refine eR_ildn_1 dX6_clear_53 rfl ?_
    refine eR_ic dX6_clear_54 ?_
    refine eR_iast (n := p) dX6_clear_55 T.2.2.2.2.2.2.2.2.2.2 (rfl) (by omega) (by decide) ?_
    refine eR_ic dX6_clear_56 ?_
    refine eR_istn_n2 dX6_clear_57 rfl (by decide) rfl ?_
    refine nt_1 T (by omega) (fun h2 hO2 hd2 => ?_) 8 0 (by omega) _ (ofO_rf _ _) (fun x hx => absurd hx (Nat.not_lt_zero x))
    refine eR_ic dX6_clear_79 ?_
    refine eR_istn_2 dX6_clear_80 rfl (by decide) rfl ?_
    refine nt_2 T (by omega) (fun h3 hO3 hd3 => ?_) 24 0 (by omega) _ (ofO_rf _ _) (fun x hx => absurd hx (Nat.not_lt_zero x))
    refine eR_iinc_1 dX6_clear_102 (by decide) rfl ?_
    refine eR_goto (tgt := 43) dX6_clear_105 (by decide) ?_
    refine eX_lv (lv2 := List.take 2 _) (fun q hq => List.mem_of_mem_take hq) ?_
    refine ih (p + 1) (by omega) h3 (fun a q => by rw [hO3 a (by omega), hO2 a (by omega), hU_a _ _ _ (by omega)]; exact hO a q) ?_ (fun x hx => ?_)
    · have e : ∀ i, h3 u i = h1 u i := fun i => by rw [hO3 u (by omega), hO2 u (by omega), hU_a _ _ _ (by omega)]
      unfold clF
      rw [e, e, e, e, e, e, e, e]
      exact hF
    · by_cases hxp : x = p
      · subst hxp
        refine ⟨?_, fun q hq => ?_, fun q hq => hd3 q hq⟩
        · rw [hO3 _ (by omega), hO2 _ (by omega), hU_s]
        · rw [hO3 _ (by omega)]; exact hd2 q hq
      · have hx2 := hR x (by omega)
        refine ⟨?_, fun q hq => ?_, fun q hq => ?_⟩
        · rw [hO3 _ (by omega), hO2 _ (by omega), hU_i _ _ _ hxp]; exact hx2.1
        · rw [hO3 _ (by omega), hO2 _ (by omega), hU_a _ _ _ (by omega)]; exact hx2.2.1 q hq
        · rw [hO3 _ (by omega), hO2 _ (by omega), hU_a _ _ _ (by omega)]; exact hx2.2.2 q hq
theorem nt_clear (T : isTn τ u) (k : ∀ h1 : PH, ofR u (u + 41) h h1 → rV h1 u uZ → Q .null τ h1) : eX g 0 mX6_clear 0 (lv_args 0 [.ref (gA g u)]) [] τ h Q := by
  show eX g 0 mX6_clear 0 [(0, .ref (gA g u))] [] τ h Q
  refine eR_aldn_0 dX6_clear_0 rfl ?_
  refine eR_ic dX6_clear_1 ?_
  refine eR_putI dX6_clear_2 pf_X6_35 T.1 rfl ?_
  refine eR_aldn_0 dX6_clear_5 rfl ?_
  refine eR_ic dX6_clear_6 ?_
  refine eR_putI dX6_clear_7 pf_X6_39 T.1 rfl ?_
  refine eR_aldn_0 dX6_clear_10 rfl ?_
  refine eR_ic dX6_clear_11 ?_
  refine eR_putI dX6_clear_12 pf_X6_42 T.1 rfl ?_
  refine eR_aldn_0 dX6_clear_15 rfl ?_
  refine eR_ic dX6_clear_16 ?_
  refine eR_putI dX6_clear_17 pf_X6_45 T.1 rfl ?_
  refine eR_aldn_0 dX6_clear_20 rfl ?_
  refine eR_bi (z := 20) dX6_clear_21 rfl ?_
  refine eR_putI dX6_clear_23 pf_X6_48 T.1 rfl ?_
  refine eR_aldn_0 dX6_clear_26 rfl ?_
  refine eR_ic dX6_clear_27 ?_
  refine eR_putI dX6_clear_28 pf_X6_51 T.1 rfl ?_
  refine eR_aldn_0 dX6_clear_31 rfl ?_
  refine eR_ic dX6_clear_32 ?_
  refine eR_putZ (by omega) dX6_clear_33 pf_X6_54 T.1 rfl ?_
  refine eR_aldn_0 dX6_clear_36 rfl ?_
  refine eR_ic dX6_clear_37 ?_
  refine eR_putI dX6_clear_38 pf_X6_58 T.1 rfl ?_
  refine eR_ic dX6_clear_41 ?_
  refine eR_istn_n1 dX6_clear_42 rfl (by decide) rfl ?_
  refine nt_3 T k 8 0 (by omega) _ (fun a q => ?_) ?_ (fun x hx => absurd hx (Nat.not_lt_zero x))
  · simp (disch := omega) only [hU_a]
  · unfold clF
    simp (disch := omega) only [hU_s, hU_i, and_self]
theorem pn_X0_9 : pfN RX0 9 0 0 (tyX0 0) := ⟨RX0, TX0, 5, rfl, by decide, inG0, rfl, kw_208, Or.inl rfl, by decide +kernel, tyX0, tyX0_ok, nmX0⟩
theorem pn_X0_15 : pfN RX0 15 0 1 (tyX0 1) := ⟨RX0, TX0, 5, rfl, by decide, inG0, rfl, kw_210, Or.inl rfl, by decide +kernel, tyX0, tyX0_ok, nmX0⟩
theorem pn_X0_19 : pfN RX0 19 0 2 (tyX0 2) := ⟨RX0, TX0, 5, rfl, by decide, inG0, rfl, kw_212, Or.inl rfl, by decide +kernel, tyX0, tyX0_ok, nmX0⟩
theorem pn_X0_23 : pfN RX0 23 0 3 (tyX0 3) := ⟨RX0, TX0, 5, rfl, by decide, inG0, rfl, kw_213, Or.inl rfl, by decide +kernel, tyX0, tyX0_ok, nmX0⟩
theorem pn_X0_28 : pfN RX0 28 0 4 (tyX0 4) := ⟨RX0, TX0, 5, rfl, by decide, inG0, rfl, kw_214, Or.inr ⟨rfl, rfl⟩, by decide +kernel, tyX0, tyX0_ok, nmX0⟩
def nl_X0 (n : Nat) : List Kd := [(0, 0, [1, 2, 0, 0, n + 1 + 4])] ++ (((3, 8, rowsK (n + 2) 8) :: List.replicate 8 (1, 2, [])))
theorem n_X0 (hn : τ0.length = n) (hh : ∀ a i, n ≤ a → h a i = 0) (k : Q .null (τ0 ++ (nl_X0 n)) h) : nX g b 1 mX0_init 0 (lv_args 0 [.ref (gA g n)]) [] (τ0 ++ [(0, 0, [1, 2, 0, 0, 3])]) h 9 24 (nE g mX0_init Q) := by
  show nX g b 1 mX0_init 0 [(0, .ref (gA g (n + 0)))] [] (τ0 ++ [(0, 0, [1, 2, 0, 0, 3])]) h 9 24 (nE g mX0_init Q)
  refine nR_aldn 0 dX0_init_0 rfl rfl ?_
  refine nR_obj dX0_init_1 kw_206 (by decide) (by decide) ?_
  refine nR_aldn 0 dX0_init_4 rfl rfl ?_
  refine nR_ic dX0_init_5 ?_
  refine nR_putZ0 (a := n + 0) (hh _ _ (by omega)) dX0_init_6 pn_X0_9 (n_get hn rfl) rfl ?_
  refine nR_aldn 0 dX0_init_9 rfl rfl ?_
  refine nR_lc (z := 0) dX0_init_10 rfl ?_
  refine nR_putL0 (a := n + 0) (hh _ _ (by omega)) dX0_init_11 pn_X0_15 (n_get hn rfl) rfl ?_
  refine nR_aldn 0 dX0_init_14 rfl rfl ?_
  refine nR_ic dX0_init_15 ?_
  refine nR_putI0 (a := n + 0) (hh _ _ (by omega)) dX0_init_16 pn_X0_19 (n_get hn rfl) rfl ?_
  refine nR_aldn 0 dX0_init_19 rfl rfl ?_
  refine nR_ic dX0_init_20 ?_
  refine nR_putI0 (a := n + 0) (hh _ _ (by omega)) dX0_init_21 pn_X0_23 (n_get hn rfl) rfl ?_
  refine nR_aldn 0 dX0_init_24 rfl rfl ?_
  refine nR_bi (z := 8) dX0_init_25 rfl ?_
  refine nR_ic dX0_init_27 ?_
  refine nR_mna (N := 8) (K := 2) (q := n + 1) (cn' := 0) (sn' := 0) (τ' := τ0 ++ ([(0, 0, [1, 2, 0, 0, 3])] ++ (((3, 8, rowsK (n + 2) 8) :: List.replicate 8 (1, 2, []))))) dX0_init_28 kw_207 rfl rfl (by decide) (by decide) (by rw [List.length_append, hn]; rfl) rfl rfl (fun a i q9 => hh a i (by omega)) (by simp only [List.append_assoc]) ?_
  refine nR_putR (a := n + 0) (i := n + 1) (τ' := τ0 ++ ([(0, 0, [1, 2, 0, 0, n + 1 + 4])] ++ (((3, 8, rowsK (n + 2) 8) :: List.replicate 8 (1, 2, []))))) dX0_init_32 pn_X0_28 rfl rfl (n_get hn rfl) (Nat.le_of_ble_eq_true rfl) (n_set hn rfl) ?_
  exact nR_vret dX0_init_35 rfl rfl k
theorem pn_X2_9 : pfN RX2 9 2 0 (tyX2 0) := ⟨RX2, TX2, 3, rfl, by decide, inG2, rfl, kw_171, Or.inl rfl, by decide +kernel, tyX2, tyX2_ok, nmX2⟩
theorem pn_X2_15 : pfN RX2 15 2 1 (tyX2 1) := ⟨RX2, TX2, 3, rfl, by decide, inG2, rfl, kw_173, Or.inl rfl, by decide +kernel, tyX2, tyX2_ok, nmX2⟩
theorem pn_X2_18 : pfN RX2 18 2 2 (tyX2 2) := ⟨RX2, TX2, 3, rfl, by decide, inG2, rfl, kw_175, Or.inl rfl, by decide +kernel, tyX2, tyX2_ok, nmX2⟩
def nl_X2 (n : Nat) : List Kd := [(0, 2, [0, 0, 0])]
theorem n_X2 (hn : τ0.length = n) (hh : ∀ a i, n ≤ a → h a i = 0) (k : Q .null (τ0 ++ (nl_X2 n)) h) : nX g b 1 mX2_init 0 (lv_args 0 [.ref (gA g n)]) [] (τ0 ++ [(0, 2, [0, 0, 0])]) h 0 0 (nE g mX2_init Q) := by
  show nX g b 1 mX2_init 0 [(0, .ref (gA g (n + 0)))] [] (τ0 ++ [(0, 2, [0, 0, 0])]) h 0 0 (nE g mX2_init Q)
  refine nR_aldn 0 dX2_init_0 rfl rfl ?_
  refine nR_obj dX2_init_1 kw_170 (by decide) (by decide) ?_
  refine nR_aldn 0 dX2_init_4 rfl rfl ?_
  refine nR_ic dX2_init_5 ?_
  refine nR_putI0 (a := n + 0) (hh _ _ (by omega)) dX2_init_6 pn_X2_9 (n_get hn rfl) rfl ?_
  refine nR_aldn 0 dX2_init_9 rfl rfl ?_
  refine nR_ic dX2_init_10 ?_
  refine nR_putI0 (a := n + 0) (hh _ _ (by omega)) dX2_init_11 pn_X2_15 (n_get hn rfl) rfl ?_
  refine nR_aldn 0 dX2_init_14 rfl rfl ?_
  refine nR_ic dX2_init_15 ?_
  refine nR_putI0 (a := n + 0) (hh _ _ (by omega)) dX2_init_16 pn_X2_18 (n_get hn rfl) rfl ?_
  exact nR_vret dX2_init_19 rfl rfl k
theorem pn_X3_9 : pfN RX3 9 3 0 (tyX3 0) := ⟨RX3, TX3, 2, rfl, by decide, inG3, rfl, kw_157, Or.inr ⟨rfl, rfl⟩, by decide +kernel, tyX3, tyX3_ok, nmX3⟩
theorem pn_X3_15 : pfN RX3 15 3 1 (tyX3 1) := ⟨RX3, TX3, 2, rfl, by decide, inG3, rfl, kw_158, Or.inr ⟨rfl, rfl⟩, by decide +kernel, tyX3, tyX3_ok, nmX3⟩
def nl_X3 (n : Nat) : List Kd := [(0, 3, [n + 1 + 4, n + 2 + 4])] ++ ([(2, 256, [])] ++ ([(1, 10, [])]))
theorem n_X3 (hn : τ0.length = n) (hh : ∀ a i, n ≤ a → h a i = 0) (k : Q .null (τ0 ++ (nl_X3 n)) h) : nX g b 1 mX3_init 0 (lv_args 0 [.ref (gA g n)]) [] (τ0 ++ [(0, 3, [3, 3])]) h 2 266 (nE g mX3_init Q) := by
  show nX g b 1 mX3_init 0 [(0, .ref (gA g (n + 0)))] [] (τ0 ++ [(0, 3, [3, 3])]) h 2 266 (nE g mX3_init Q)
  refine nR_aldn 0 dX3_init_0 rfl rfl ?_
  refine nR_obj dX3_init_1 kw_156 (by decide) (by decide) ?_
  refine nR_aldn 0 dX3_init_4 rfl rfl ?_
  refine nR_si (z := 256) dX3_init_5 rfl ?_
  refine nR_newaZ (N := 256) (q := n + 1) (cn' := 1) (sn' := 10) (τ' := τ0 ++ ([(0, 3, [3, 3])] ++ ([(2, 256, [])]))) dX3_init_8 rfl (by decide) (by rw [List.length_append, hn]; rfl) rfl rfl (fun i => hh _ i (by omega)) (by simp only [List.append_assoc]) ?_
  refine nR_putR (a := n + 0) (i := n + 1) (τ' := τ0 ++ ([(0, 3, [n + 1 + 4, 3])] ++ ([(2, 256, [])]))) dX3_init_10 pn_X3_9 rfl rfl (n_get hn rfl) (Nat.le_of_ble_eq_true rfl) (n_set hn rfl) ?_
  refine nR_aldn 0 dX3_init_13 rfl rfl ?_
  refine nR_bi (z := 10) dX3_init_14 rfl ?_
  refine nR_newaI (N := 10) (q := n + 2) (cn' := 0) (sn' := 0) (τ' := τ0 ++ ([(0, 3, [n + 1 + 4, 3])] ++ ([(2, 256, [])] ++ ([(1, 10, [])])))) dX3_init_16 rfl (by decide) (by rw [List.length_append, hn]; rfl) rfl rfl (fun i => hh _ i (by omega)) (by simp only [List.append_assoc]) ?_
  refine nR_putR (a := n + 0) (i := n + 2) (τ' := τ0 ++ ([(0, 3, [n + 1 + 4, n + 2 + 4])] ++ ([(2, 256, [])] ++ ([(1, 10, [])])))) dX3_init_18 pn_X3_15 rfl rfl (n_get hn rfl) (Nat.le_of_ble_eq_true rfl) (n_set hn rfl) ?_
  exact nR_vret dX3_init_21 rfl rfl k
theorem pn_X4_9 : pfN RX4 9 4 0 (tyX4 0) := ⟨RX4, TX4, 6, rfl, by decide, inG4, rfl, kw_106, Or.inr ⟨rfl, rfl⟩, by decide +kernel, tyX4, tyX4_ok, nmX4⟩
theorem pn_X4_15 : pfN RX4 15 4 1 (tyX4 1) := ⟨RX4, TX4, 6, rfl, by decide, inG4, rfl, kw_107, Or.inl rfl, by decide +kernel, tyX4, tyX4_ok, nmX4⟩
theorem pn_X4_19 : pfN RX4 19 4 2 (tyX4 2) := ⟨RX4, TX4, 6, rfl, by decide, inG4, rfl, kw_108, Or.inl rfl, by decide +kernel, tyX4, tyX4_ok, nmX4⟩
theorem pn_X4_22 : pfN RX4 22 4 3 (tyX4 3) := ⟨RX4, TX4, 6, rfl, by decide, inG4, rfl, kw_109, Or.inl rfl, by decide +kernel, tyX4, tyX4_ok, nmX4⟩
theorem pn_X4_25 : pfN RX4 25 4 4 (tyX4 4) := ⟨RX4, TX4, 6, rfl, by decide, inG4, rfl, kw_110, Or.inl rfl, by decide +kernel, tyX4, tyX4_ok, nmX4⟩
theorem pn_X4_28 : pfN RX4 28 4 5 (tyX4 5) := ⟨RX4, TX4, 6, rfl, by decide, inG4, rfl, kw_111, Or.inl rfl, by decide +kernel, tyX4, tyX4_ok, nmX4⟩
def nl_X4 (n : Nat) : List Kd := [(0, 4, [n + 1 + 4, 0, 0, 0, 0, 0])] ++ ([(1, 400, [])])
theorem n_X4 (hn : τ0.length = n) (hh : ∀ a i, n ≤ a → h a i = 0) (k : Q .null (τ0 ++ (nl_X4 n)) (hU h n 4 (-1))) : nX g b 1 mX4_init 0 (lv_args 0 [.ref (gA g n)]) [] (τ0 ++ [(0, 4, [3, 0, 0, 0, 0, 0])]) h 1 400 (nE g mX4_init Q) := by
  show nX g b 1 mX4_init 0 [(0, .ref (gA g (n + 0)))] [] (τ0 ++ [(0, 4, [3, 0, 0, 0, 0, 0])]) h 1 400 (nE g mX4_init Q)
  refine nR_aldn 0 dX4_init_0 rfl rfl ?_
  refine nR_obj dX4_init_1 kw_105 (by decide) (by decide) ?_
  refine nR_aldn 0 dX4_init_4 rfl rfl ?_
  refine nR_si (z := 400) dX4_init_5 rfl ?_
  refine nR_newaI (N := 400) (q := n + 1) (cn' := 0) (sn' := 0) (τ' := τ0 ++ ([(0, 4, [3, 0, 0, 0, 0, 0])] ++ ([(1, 400, [])]))) dX4_init_8 rfl (by decide) (by rw [List.length_append, hn]; rfl) rfl rfl (fun i => hh _ i (by omega)) (by simp only [List.append_assoc]) ?_
  refine nR_putR (a := n + 0) (i := n + 1) (τ' := τ0 ++ ([(0, 4, [n + 1 + 4, 0, 0, 0, 0, 0])] ++ ([(1, 400, [])]))) dX4_init_10 pn_X4_9 rfl rfl (n_get hn rfl) (Nat.le_of_ble_eq_true rfl) (n_set hn rfl) ?_
  refine nR_aldn 0 dX4_init_13 rfl rfl ?_
  refine nR_ic dX4_init_14 ?_
  refine nR_putI0 (a := n + 0) (hh _ _ (by omega)) dX4_init_15 pn_X4_15 (n_get hn rfl) rfl ?_
  refine nR_aldn 0 dX4_init_18 rfl rfl ?_
  refine nR_ic dX4_init_19 ?_
  refine nR_putI0 (a := n + 0) (hh _ _ (by omega)) dX4_init_20 pn_X4_19 (n_get hn rfl) rfl ?_
  refine nR_aldn 0 dX4_init_23 rfl rfl ?_
  refine nR_ic dX4_init_24 ?_
  refine nR_putI0 (a := n + 0) (hh _ _ (by omega)) dX4_init_25 pn_X4_22 (n_get hn rfl) rfl ?_
  refine nR_aldn 0 dX4_init_28 rfl rfl ?_
  refine nR_ic dX4_init_29 ?_
  refine nR_putI (a := n + 0) dX4_init_30 pn_X4_25 (n_get hn rfl) rfl ?_
  refine nR_aldn 0 dX4_init_33 rfl rfl ?_
  refine nR_ic dX4_init_34 ?_
  refine nR_putI0 (a := n + 0) ((hU_i _ _ _ (by decide)).trans (hh _ _ (by omega))) dX4_init_35 pn_X4_28 (n_get hn rfl) rfl ?_
  exact nR_vret dX4_init_38 rfl rfl k
theorem pn_X5_11 : pfN RX5 11 5 0 (tyX5 0) := ⟨RX5, TX5, 2, rfl, by decide, inG5, rfl, kw_191, Or.inr ⟨rfl, rfl⟩, by decide +kernel, tyX5, tyX5_ok, nmX5⟩
theorem pn_X5_16 : pfN RX5 16 5 1 (tyX5 1) := ⟨RX5, TX5, 2, rfl, by decide, inG5, rfl, kw_193, Or.inl rfl, by decide +kernel, tyX5, tyX5_ok, nmX5⟩
def nl_X5 (n : Nat) : List Kd := [(0, 5, [n + 1 + 4, 0])] ++ (((3, 30, rowsK (n + 2) 30) :: List.replicate 30 (1, 3, [])))
theorem n_X5 (hn : τ0.length = n) (hh : ∀ a i, n ≤ a → h a i = 0) (k : Q .null (τ0 ++ (nl_X5 n)) h) : nX g b 1 mX5_init 0 (lv_args 0 [.ref (gA g n)]) [] (τ0 ++ [(0, 5, [3, 0])]) h 31 120 (nE g mX5_init Q) := by
  show nX g b 1 mX5_init 0 [(0, .ref (gA g (n + 0)))] [] (τ0 ++ [(0, 5, [3, 0])]) h 31 120 (nE g mX5_init Q)
  refine nR_aldn 0 dX5_init_0 rfl rfl ?_
  refine nR_obj dX5_init_1 kw_189 (by decide) (by decide) ?_
  refine nR_aldn 0 dX5_init_4 rfl rfl ?_
  refine nR_bi (z := 30) dX5_init_5 rfl ?_
  refine nR_ic dX5_init_7 ?_
  refine nR_mna (N := 30) (K := 3) (q := n + 1) (cn' := 0) (sn' := 0) (τ' := τ0 ++ ([(0, 5, [3, 0])] ++ (((3, 30, rowsK (n + 2) 30) :: List.replicate 30 (1, 3, []))))) dX5_init_8 kw_190 rfl rfl (by decide) (by decide) (by rw [List.length_append, hn]; rfl) rfl rfl (fun a i q9 => hh a i (by omega)) (by simp only [List.append_assoc]) ?_
  refine nR_putR (a := n + 0) (i := n + 1) (τ' := τ0 ++ ([(0, 5, [n + 1 + 4, 0])] ++ (((3, 30, rowsK (n + 2) 30) :: List.replicate 30 (1, 3, []))))) dX5_init_12 pn_X5_11 rfl rfl (n_get hn rfl) (Nat.le_of_ble_eq_true rfl) (n_set hn rfl) ?_
  refine nR_aldn 0 dX5_init_15 rfl rfl ?_
  refine nR_ic dX5_init_16 ?_
  refine nR_putI0 (a := n + 0) (hh _ _ (by omega)) dX5_init_17 pn_X5_16 (n_get hn rfl) rfl ?_
  exact nR_vret dX5_init_20 rfl rfl k
theorem pn_X6_11 : pfN RX6 11 6 8 (tyX6 8) := ⟨RX6, TX6, 14, rfl, by decide, inG6, rfl, kw_266, Or.inr ⟨rfl, rfl⟩, by decide +kernel, tyX6, tyX6_ok, nmX6⟩
theorem pn_X6_16 : pfN RX6 16 6 9 (tyX6 9) := ⟨RX6, TX6, 14, rfl, by decide, inG6, rfl, kw_271, Or.inr ⟨rfl, rfl⟩, by decide +kernel, tyX6, tyX6_ok, nmX6⟩
theorem pn_X6_20 : pfN RX6 20 6 10 (tyX6 10) := ⟨RX6, TX6, 14, rfl, by decide, inG6, rfl, kw_273, Or.inr ⟨rfl, rfl⟩, by decide +kernel, tyX6, tyX6_ok, nmX6⟩
theorem pn_X6_23 : pfN RX6 23 6 11 (tyX6 11) := ⟨RX6, TX6, 14, rfl, by decide, inG6, rfl, kw_276, Or.inr ⟨rfl, rfl⟩, by decide +kernel, tyX6, tyX6_ok, nmX6⟩
theorem pn_X6_26 : pfN RX6 26 6 12 (tyX6 12) := ⟨RX6, TX6, 14, rfl, by decide, inG6, rfl, kw_278, Or.inr ⟨rfl, rfl⟩, by decide +kernel, tyX6, tyX6_ok, nmX6⟩
theorem pn_X6_29 : pfN RX6 29 6 13 (tyX6 13) := ⟨RX6, TX6, 14, rfl, by decide, inG6, rfl, kw_281, Or.inr ⟨rfl, rfl⟩, by decide +kernel, tyX6, tyX6_ok, nmX6⟩
def nl_X6 (n : Nat) : List Kd := [(0, 6, [0, 0, 0, 0, 0, 0, 1, 0, n + 1 + 4, n + 10 + 4, n + 11 + 4, n + 22 + 4, n + 31 + 4, n + 40 + 4])] ++ (((3, 8, rowsK (n + 2) 8) :: List.replicate 8 (1, 2, [])) ++ ([(1, 8, [])] ++ (((3, 10, rowsK (n + 12) 10) :: List.replicate 10 (1, 4, [])) ++ (((3, 8, rowsK (n + 23) 8) :: List.replicate 8 (1, 24, [])) ++ (((3, 8, rowsK (n + 32) 8) :: List.replicate 8 (1, 8, [])) ++ ([(1, 8, [])]))))))
theorem n_isTn {τ0 : List Kd} {n : Nat} (hn : τ0.length = n) : isTn (τ0 ++ ([(0, 6, [0, 0, 0, 0, 0, 0, 1, 0, n + 1 + 4, n + 10 + 4, n + 11 + 4, n + 22 + 4, n + 31 + 4, n + 40 + 4])] ++ (((3, 8, rowsK (n + 2) 8) :: List.replicate 8 (1, 2, [])) ++ ([(1, 8, [])] ++ (((3, 10, rowsK (n + 12) 10) :: List.replicate 10 (1, 4, [])) ++ (((3, 8, rowsK (n + 23) 8) :: List.replicate 8 (1, 24, [])) ++ (((3, 8, rowsK (n + 32) 8) :: List.replicate 8 (1, 8, [])) ++ ([(1, 8, [])])))))))) n := by
  refine ⟨n_get (j := 0) hn rfl, n_get hn rfl, fun i hi => ?_, n_get hn rfl, n_get hn rfl, fun i hi => ?_, n_get hn rfl, fun i hi => ?_, n_get hn rfl, fun i hi => ?_, n_get hn rfl⟩
  · rw [Nat.add_assoc n 2 i]; refine n_get hn ?_; exact (show ∀ i, i < 8 → (nl_X6 n)[2 + i]? = some (1, 2, []) from fun i hi => by rcases (show i = 0 ∨ i = 1 ∨ i = 2 ∨ i = 3 ∨ i = 4 ∨ i = 5 ∨ i = 6 ∨ i = 7 by omega) with rfl | rfl | rfl | rfl | rfl | rfl | rfl | rfl <;> rfl) i hi
  · rw [Nat.add_assoc n 12 i]; refine n_get hn ?_; exact (show ∀ i, i < 10 → (nl_X6 n)[12 + i]? = some (1, 4, []) from fun i hi => by rcases (show i = 0 ∨ i = 1 ∨ i = 2 ∨ i = 3 ∨ i = 4 ∨ i = 5 ∨ i = 6 ∨ i = 7 ∨ i = 8 ∨ i = 9 by omega) with rfl | rfl | rfl | rfl | rfl | rfl | rfl | rfl | rfl | rfl <;> rfl) i hi
  · rw [Nat.add_assoc n 23 i]; refine n_get hn ?_; exact (show ∀ i, i < 8 → (nl_X6 n)[23 + i]? = some (1, 24, []) from fun i hi => by rcases (show i = 0 ∨ i = 1 ∨ i = 2 ∨ i = 3 ∨ i = 4 ∨ i = 5 ∨ i = 6 ∨ i = 7 by omega) with rfl | rfl | rfl | rfl | rfl | rfl | rfl | rfl <;> rfl) i hi
  · rw [Nat.add_assoc n 32 i]; refine n_get hn ?_; exact (show ∀ i, i < 8 → (nl_X6 n)[32 + i]? = some (1, 8, []) from fun i hi => by rcases (show i = 0 ∨ i = 1 ∨ i = 2 ∨ i = 3 ∨ i = 4 ∨ i = 5 ∨ i = 6 ∨ i = 7 by omega) with rfl | rfl | rfl | rfl | rfl | rfl | rfl | rfl <;> rfl) i hi
theorem n_X6 (hn : τ0.length = n) (hh : ∀ a i, n ≤ a → h a i = 0) (k : ∀ h1 : PH, ofR n (n + 41) h h1 → rV h1 n uZ → Q .null (τ0 ++ (nl_X6 n)) h1) : nX g b 1 mX6_init 0 (lv_args 0 [.ref (gA g n)]) [] (τ0 ++ [(0, 6, [0, 0, 0, 0, 0, 0, 1, 0, 3, 3, 3, 3, 3, 3])]) h 40 362 (nE g mX6_init Q) := by
  show nX g b 1 mX6_init 0 [(0, .ref (gA g (n + 0)))] [] (τ0 ++ [(0, 6, [0, 0, 0, 0, 0, 0, 1, 0, 3, 3, 3, 3, 3, 3])]) h 40 362 (nE g mX6_init Q)
  refine nR_aldn 0 dX6_init_0 rfl rfl ?_
  refine nR_obj dX6_init_1 kw_231 (by decide) (by decide) ?_
  refine nR_aldn 0 dX6_init_4 rfl rfl ?_
  refine nR_bi (z := 8) dX6_init_5 rfl ?_
  refine nR_ic dX6_init_7 ?_
  refine nR_mna (N := 8) (K := 2) (q := n + 1) (cn' := 31) (sn' := 338) (τ' := τ0 ++ ([(0, 6, [0, 0, 0, 0, 0, 0, 1, 0, 3, 3, 3, 3, 3, 3])] ++ (((3, 8, rowsK (n + 2) 8) :: List.replicate 8 (1, 2, []))))) dX6_init_8 kw_232 rfl rfl (by decide) (by decide) (by rw [List.length_append, hn]; rfl) rfl rfl (fun a i q9 => hh a i (by omega)) (by simp only [List.append_assoc]) ?_
  refine nR_putR (a := n + 0) (i := n + 1) (τ' := τ0 ++ ([(0, 6, [0, 0, 0, 0, 0, 0, 1, 0, n + 1 + 4, 3, 3, 3, 3, 3])] ++ (((3, 8, rowsK (n + 2) 8) :: List.replicate 8 (1, 2, []))))) dX6_init_12 pn_X6_11 rfl rfl (n_get hn rfl) (Nat.le_of_ble_eq_true rfl) (n_set hn rfl) ?_
  refine nR_aldn 0 dX6_init_15 rfl rfl ?_
  refine nR_bi (z := 8) dX6_init_16 rfl ?_
  refine nR_newaI (N := 8) (q := n + 10) (cn' := 30) (sn' := 330) (τ' := τ0 ++ ([(0, 6, [0, 0, 0, 0, 0, 0, 1, 0, n + 1 + 4, 3, 3, 3, 3, 3])] ++ (((3, 8, rowsK (n + 2) 8) :: List.replicate 8 (1, 2, [])) ++ ([(1, 8, [])])))) dX6_init_18 rfl (by decide) (by rw [List.length_append, hn]; rfl) rfl rfl (fun i => hh _ i (by omega)) (by simp only [List.append_assoc]) ?_
  refine nR_putR (a := n + 0) (i := n + 10) (τ' := τ0 ++ ([(0, 6, [0, 0, 0, 0, 0, 0, 1, 0, n + 1 + 4, n + 10 + 4, 3, 3, 3, 3])] ++ (((3, 8, rowsK (n + 2) 8) :: List.replicate 8 (1, 2, [])) ++ ([(1, 8, [])])))) dX6_init_20 pn_X6_16 rfl rfl (n_get hn rfl) (Nat.le_of_ble_eq_true rfl) (n_set hn rfl) ?_
  refine nR_aldn 0 dX6_init_23 rfl rfl ?_
  refine nR_bi (z := 10) dX6_init_24 rfl ?_
  refine nR_ic dX6_init_26 ?_
  refine nR_mna (N := 10) (K := 4) (q := n + 11) (cn' := 19) (sn' := 280) (τ' := τ0 ++ ([(0, 6, [0, 0, 0, 0, 0, 0, 1, 0, n + 1 + 4, n + 10 + 4, 3, 3, 3, 3])] ++ (((3, 8, rowsK (n + 2) 8) :: List.replicate 8 (1, 2, [])) ++ ([(1, 8, [])] ++ (((3, 10, rowsK (n + 12) 10) :: List.replicate 10 (1, 4, []))))))) dX6_init_27 kw_232 rfl rfl (by decide) (by decide) (by rw [List.length_append, hn]; rfl) rfl rfl (fun a i q9 => hh a i (by omega)) (by simp only [List.append_assoc]) ?_
  refine nR_putR (a := n + 0) (i := n + 11) (τ' := τ0 ++ ([(0, 6, [0, 0, 0, 0, 0, 0, 1, 0, n + 1 + 4, n + 10 + 4, n + 11 + 4, 3, 3, 3])] ++ (((3, 8, rowsK (n + 2) 8) :: List.replicate 8 (1, 2, [])) ++ ([(1, 8, [])] ++ (((3, 10, rowsK (n + 12) 10) :: List.replicate 10 (1, 4, []))))))) dX6_init_31 pn_X6_20 rfl rfl (n_get hn rfl) (Nat.le_of_ble_eq_true rfl) (n_set hn rfl) ?_
  refine nR_aldn 0 dX6_init_34 rfl rfl ?_
  refine nR_bi (z := 8) dX6_init_35 rfl ?_
  refine nR_bi (z := 24) dX6_init_37 rfl ?_
  refine nR_mna (N := 8) (K := 24) (q := n + 22) (cn' := 10) (sn' := 80) (τ' := τ0 ++ ([(0, 6, [0, 0, 0, 0, 0, 0, 1, 0, n + 1 + 4, n + 10 + 4, n + 11 + 4, 3, 3, 3])] ++ (((3, 8, rowsK (n + 2) 8) :: List.replicate 8 (1, 2, [])) ++ ([(1, 8, [])] ++ (((3, 10, rowsK (n + 12) 10) :: List.replicate 10 (1, 4, [])) ++ (((3, 8, rowsK (n + 23) 8) :: List.replicate 8 (1, 24, [])))))))) dX6_init_39 kw_232 rfl rfl (by decide) (by decide) (by rw [List.length_append, hn]; rfl) rfl rfl (fun a i q9 => hh a i (by omega)) (by simp only [List.append_assoc]) ?_
  refine nR_putR (a := n + 0) (i := n + 22) (τ' := τ0 ++ ([(0, 6, [0, 0, 0, 0, 0, 0, 1, 0, n + 1 + 4, n + 10 + 4, n + 11 + 4, n + 22 + 4, 3, 3])] ++ (((3, 8, rowsK (n + 2) 8) :: List.replicate 8 (1, 2, [])) ++ ([(1, 8, [])] ++ (((3, 10, rowsK (n + 12) 10) :: List.replicate 10 (1, 4, [])) ++ (((3, 8, rowsK (n + 23) 8) :: List.replicate 8 (1, 24, [])))))))) dX6_init_43 pn_X6_23 rfl rfl (n_get hn rfl) (Nat.le_of_ble_eq_true rfl) (n_set hn rfl) ?_
  refine nR_aldn 0 dX6_init_46 rfl rfl ?_
  refine nR_bi (z := 8) dX6_init_47 rfl ?_
  refine nR_bi (z := 8) dX6_init_49 rfl ?_
  refine nR_mna (N := 8) (K := 8) (q := n + 31) (cn' := 1) (sn' := 8) (τ' := τ0 ++ ([(0, 6, [0, 0, 0, 0, 0, 0, 1, 0, n + 1 + 4, n + 10 + 4, n + 11 + 4, n + 22 + 4, 3, 3])] ++ (((3, 8, rowsK (n + 2) 8) :: List.replicate 8 (1, 2, [])) ++ ([(1, 8, [])] ++ (((3, 10, rowsK (n + 12) 10) :: List.replicate 10 (1, 4, [])) ++ (((3, 8, rowsK (n + 23) 8) :: List.replicate 8 (1, 24, [])) ++ (((3, 8, rowsK (n + 32) 8) :: List.replicate 8 (1, 8, []))))))))) dX6_init_51 kw_232 rfl rfl (by decide) (by decide) (by rw [List.length_append, hn]; rfl) rfl rfl (fun a i q9 => hh a i (by omega)) (by simp only [List.append_assoc]) ?_
  refine nR_putR (a := n + 0) (i := n + 31) (τ' := τ0 ++ ([(0, 6, [0, 0, 0, 0, 0, 0, 1, 0, n + 1 + 4, n + 10 + 4, n + 11 + 4, n + 22 + 4, n + 31 + 4, 3])] ++ (((3, 8, rowsK (n + 2) 8) :: List.replicate 8 (1, 2, [])) ++ ([(1, 8, [])] ++ (((3, 10, rowsK (n + 12) 10) :: List.replicate 10 (1, 4, [])) ++ (((3, 8, rowsK (n + 23) 8) :: List.replicate 8 (1, 24, [])) ++ (((3, 8, rowsK (n + 32) 8) :: List.replicate 8 (1, 8, []))))))))) dX6_init_55 pn_X6_26 rfl rfl (n_get hn rfl) (Nat.le_of_ble_eq_true rfl) (n_set hn rfl) ?_
  refine nR_aldn 0 dX6_init_58 rfl rfl ?_
  refine nR_bi (z := 8) dX6_init_59 rfl ?_
  refine nR_newaI (N := 8) (q := n + 40) (cn' := 0) (sn' := 0) (τ' := τ0 ++ ([(0, 6, [0, 0, 0, 0, 0, 0, 1, 0, n + 1 + 4, n + 10 + 4, n + 11 + 4, n + 22 + 4, n + 31 + 4, 3])] ++ (((3, 8, rowsK (n + 2) 8) :: List.replicate 8 (1, 2, [])) ++ ([(1, 8, [])] ++ (((3, 10, rowsK (n + 12) 10) :: List.replicate 10 (1, 4, [])) ++ (((3, 8, rowsK (n + 23) 8) :: List.replicate 8 (1, 24, [])) ++ (((3, 8, rowsK (n + 32) 8) :: List.replicate 8 (1, 8, [])) ++ ([(1, 8, [])])))))))) dX6_init_61 rfl (by decide) (by rw [List.length_append, hn]; rfl) rfl rfl (fun i => hh _ i (by omega)) (by simp only [List.append_assoc]) ?_
  refine nR_putR (a := n + 0) (i := n + 40) (τ' := τ0 ++ ([(0, 6, [0, 0, 0, 0, 0, 0, 1, 0, n + 1 + 4, n + 10 + 4, n + 11 + 4, n + 22 + 4, n + 31 + 4, n + 40 + 4])] ++ (((3, 8, rowsK (n + 2) 8) :: List.replicate 8 (1, 2, [])) ++ ([(1, 8, [])] ++ (((3, 10, rowsK (n + 12) 10) :: List.replicate 10 (1, 4, [])) ++ (((3, 8, rowsK (n + 23) 8) :: List.replicate 8 (1, 24, [])) ++ (((3, 8, rowsK (n + 32) 8) :: List.replicate 8 (1, 8, [])) ++ ([(1, 8, [])])))))))) dX6_init_63 pn_X6_29 rfl rfl (n_get hn rfl) (Nat.le_of_ble_eq_true rfl) (n_set hn rfl) ?_
  refine nR_aldn 0 dX6_init_66 rfl rfl ?_
  refine nR_callVv (d' := 0) (a := n + 0) dX6_init_67 ok_mX6_clear kw_233 rfl rfl (n_get hn rfl) rfl (by decide) (by decide) (by decide) ?_
  refine nt_clear (τ := τ0 ++ ([(0, 6, [0, 0, 0, 0, 0, 0, 1, 0, n + 1 + 4, n + 10 + 4, n + 11 + 4, n + 22 + 4, n + 31 + 4, n + 40 + 4])] ++ (((3, 8, rowsK (n + 2) 8) :: List.replicate 8 (1, 2, [])) ++ ([(1, 8, [])] ++ (((3, 10, rowsK (n + 12) 10) :: List.replicate 10 (1, 4, [])) ++ (((3, 8, rowsK (n + 23) 8) :: List.replicate 8 (1, 24, [])) ++ (((3, 8, rowsK (n + 32) 8) :: List.replicate 8 (1, 8, [])) ++ ([(1, 8, [])])))))))) (u := n) (n_isTn hn) (fun h1 o1 R1 => ⟨rfl, ?_⟩)
  exact nR_vret dX6_init_70 rfl rfl (k h1 o1 R1)
theorem pn_X7_9 : pfN RX7 9 7 0 (tyX7 0) := ⟨RX7, TX7, 5, rfl, by decide, inG7, rfl, kw_134, Or.inr ⟨rfl, rfl⟩, by decide +kernel, tyX7, tyX7_ok, nmX7⟩
theorem pn_X7_17 : pfN RX7 17 7 1 (tyX7 1) := ⟨RX7, TX7, 5, rfl, by decide, inG7, rfl, kw_136, Or.inr ⟨rfl, rfl⟩, by decide +kernel, tyX7, tyX7_ok, nmX7⟩
theorem pn_X7_20 : pfN RX7 20 7 2 (tyX7 2) := ⟨RX7, TX7, 5, rfl, by decide, inG7, rfl, kw_137, Or.inr ⟨rfl, rfl⟩, by decide +kernel, tyX7, tyX7_ok, nmX7⟩
theorem pn_X7_23 : pfN RX7 23 7 3 (tyX7 3) := ⟨RX7, TX7, 5, rfl, by decide, inG7, rfl, kw_138, Or.inr ⟨rfl, rfl⟩, by decide +kernel, tyX7, tyX7_ok, nmX7⟩
theorem pn_X7_26 : pfN RX7 26 7 4 (tyX7 4) := ⟨RX7, TX7, 5, rfl, by decide, inG7, rfl, kw_139, Or.inr ⟨rfl, rfl⟩, by decide +kernel, tyX7, tyX7_ok, nmX7⟩
def nl_X7 (n : Nat) : List Kd := [(0, 7, [n + 1 + 4, n + 2 + 4, n + 11 + 4, n + 20 + 4, n + 21 + 4])] ++ ([(1, 8, [])] ++ (((3, 8, rowsK (n + 3) 8) :: List.replicate 8 (1, 4, [])) ++ (((3, 8, rowsK (n + 12) 8) :: List.replicate 8 (1, 4, [])) ++ ([(1, 9, [])] ++ (((3, 9, rowsK (n + 22) 9) :: List.replicate 9 (1, 256, [])))))))
theorem n_X7 (hn : τ0.length = n) (hh : ∀ a i, n ≤ a → h a i = 0) (k : Q .null (τ0 ++ (nl_X7 n)) h) : nX g b 1 mX7_init 0 (lv_args 0 [.ref (gA g n)]) [] (τ0 ++ [(0, 7, [3, 3, 3, 3, 3])]) h 30 2410 (nE g mX7_init Q) := by
  show nX g b 1 mX7_init 0 [(0, .ref (gA g (n + 0)))] [] (τ0 ++ [(0, 7, [3, 3, 3, 3, 3])]) h 30 2410 (nE g mX7_init Q)
  refine nR_aldn 0 dX7_init_0 rfl rfl ?_
  refine nR_obj dX7_init_1 kw_131 (by decide) (by decide) ?_
  refine nR_aldn 0 dX7_init_4 rfl rfl ?_
  refine nR_bi (z := 8) dX7_init_5 rfl ?_
  refine nR_newaI (N := 8) (q := n + 1) (cn' := 29) (sn' := 2402) (τ' := τ0 ++ ([(0, 7, [3, 3, 3, 3, 3])] ++ ([(1, 8, [])]))) dX7_init_7 rfl (by decide) (by rw [List.length_append, hn]; rfl) rfl rfl (fun i => hh _ i (by omega)) (by simp only [List.append_assoc]) ?_
  refine nR_putR (a := n + 0) (i := n + 1) (τ' := τ0 ++ ([(0, 7, [n + 1 + 4, 3, 3, 3, 3])] ++ ([(1, 8, [])]))) dX7_init_9 pn_X7_9 rfl rfl (n_get hn rfl) (Nat.le_of_ble_eq_true rfl) (n_set hn rfl) ?_
  refine nR_aldn 0 dX7_init_12 rfl rfl ?_
  refine nR_bi (z := 8) dX7_init_13 rfl ?_
  refine nR_ic dX7_init_15 ?_
  refine nR_mna (N := 8) (K := 4) (q := n + 2) (cn' := 20) (sn' := 2362) (τ' := τ0 ++ ([(0, 7, [n + 1 + 4, 3, 3, 3, 3])] ++ ([(1, 8, [])] ++ (((3, 8, rowsK (n + 3) 8) :: List.replicate 8 (1, 4, [])))))) dX7_init_16 kw_132 rfl rfl (by decide) (by decide) (by rw [List.length_append, hn]; rfl) rfl rfl (fun a i q9 => hh a i (by omega)) (by simp only [List.append_assoc]) ?_
  refine nR_putR (a := n + 0) (i := n + 2) (τ' := τ0 ++ ([(0, 7, [n + 1 + 4, n + 2 + 4, 3, 3, 3])] ++ ([(1, 8, [])] ++ (((3, 8, rowsK (n + 3) 8) :: List.replicate 8 (1, 4, [])))))) dX7_init_20 pn_X7_17 rfl rfl (n_get hn rfl) (Nat.le_of_ble_eq_true rfl) (n_set hn rfl) ?_
  refine nR_aldn 0 dX7_init_23 rfl rfl ?_
  refine nR_bi (z := 8) dX7_init_24 rfl ?_
  refine nR_ic dX7_init_26 ?_
  refine nR_mna (N := 8) (K := 4) (q := n + 11) (cn' := 11) (sn' := 2322) (τ' := τ0 ++ ([(0, 7, [n + 1 + 4, n + 2 + 4, 3, 3, 3])] ++ ([(1, 8, [])] ++ (((3, 8, rowsK (n + 3) 8) :: List.replicate 8 (1, 4, [])) ++ (((3, 8, rowsK (n + 12) 8) :: List.replicate 8 (1, 4, []))))))) dX7_init_27 kw_132 rfl rfl (by decide) (by decide) (by rw [List.length_append, hn]; rfl) rfl rfl (fun a i q9 => hh a i (by omega)) (by simp only [List.append_assoc]) ?_
  refine nR_putR (a := n + 0) (i := n + 11) (τ' := τ0 ++ ([(0, 7, [n + 1 + 4, n + 2 + 4, n + 11 + 4, 3, 3])] ++ ([(1, 8, [])] ++ (((3, 8, rowsK (n + 3) 8) :: List.replicate 8 (1, 4, [])) ++ (((3, 8, rowsK (n + 12) 8) :: List.replicate 8 (1, 4, []))))))) dX7_init_31 pn_X7_20 rfl rfl (n_get hn rfl) (Nat.le_of_ble_eq_true rfl) (n_set hn rfl) ?_
  refine nR_aldn 0 dX7_init_34 rfl rfl ?_
  refine nR_bi (z := 9) dX7_init_35 rfl ?_
  refine nR_newaI (N := 9) (q := n + 20) (cn' := 10) (sn' := 2313) (τ' := τ0 ++ ([(0, 7, [n + 1 + 4, n + 2 + 4, n + 11 + 4, 3, 3])] ++ ([(1, 8, [])] ++ (((3, 8, rowsK (n + 3) 8) :: List.replicate 8 (1, 4, [])) ++ (((3, 8, rowsK (n + 12) 8) :: List.replicate 8 (1, 4, [])) ++ ([(1, 9, [])])))))) dX7_init_37 rfl (by decide) (by rw [List.length_append, hn]; rfl) rfl rfl (fun i => hh _ i (by omega)) (by simp only [List.append_assoc]) ?_
  refine nR_putR (a := n + 0) (i := n + 20) (τ' := τ0 ++ ([(0, 7, [n + 1 + 4, n + 2 + 4, n + 11 + 4, n + 20 + 4, 3])] ++ ([(1, 8, [])] ++ (((3, 8, rowsK (n + 3) 8) :: List.replicate 8 (1, 4, [])) ++ (((3, 8, rowsK (n + 12) 8) :: List.replicate 8 (1, 4, [])) ++ ([(1, 9, [])])))))) dX7_init_39 pn_X7_23 rfl rfl (n_get hn rfl) (Nat.le_of_ble_eq_true rfl) (n_set hn rfl) ?_
  refine nR_aldn 0 dX7_init_42 rfl rfl ?_
  refine nR_bi (z := 9) dX7_init_43 rfl ?_
  refine nR_si (z := 256) dX7_init_45 rfl ?_
  refine nR_mna (N := 9) (K := 256) (q := n + 21) (cn' := 0) (sn' := 0) (τ' := τ0 ++ ([(0, 7, [n + 1 + 4, n + 2 + 4, n + 11 + 4, n + 20 + 4, 3])] ++ ([(1, 8, [])] ++ (((3, 8, rowsK (n + 3) 8) :: List.replicate 8 (1, 4, [])) ++ (((3, 8, rowsK (n + 12) 8) :: List.replicate 8 (1, 4, [])) ++ ([(1, 9, [])] ++ (((3, 9, rowsK (n + 22) 9) :: List.replicate 9 (1, 256, []))))))))) dX7_init_48 kw_132 rfl rfl (by decide) (by decide) (by rw [List.length_append, hn]; rfl) rfl rfl (fun a i q9 => hh a i (by omega)) (by simp only [List.append_assoc]) ?_
  refine nR_putR (a := n + 0) (i := n + 21) (τ' := τ0 ++ ([(0, 7, [n + 1 + 4, n + 2 + 4, n + 11 + 4, n + 20 + 4, n + 21 + 4])] ++ ([(1, 8, [])] ++ (((3, 8, rowsK (n + 3) 8) :: List.replicate 8 (1, 4, [])) ++ (((3, 8, rowsK (n + 12) 8) :: List.replicate 8 (1, 4, [])) ++ ([(1, 9, [])] ++ (((3, 9, rowsK (n + 22) 9) :: List.replicate 9 (1, 256, []))))))))) dX7_init_52 pn_X7_26 rfl rfl (n_get hn rfl) (Nat.le_of_ble_eq_true rfl) (n_set hn rfl) ?_
  exact nR_vret dX7_init_55 rfl rfl k
theorem pn_X9_7 : pfN RX9 7 9 0 (tyX9 0) := ⟨RX9, TX9, 29, rfl, by decide, inG9, rfl, kw_859, Or.inr ⟨rfl, rfl⟩, by decide +kernel, tyX9, tyX9_ok, nmX9⟩
theorem pn_X9_13 : pfN RX9 13 9 1 (tyX9 1) := ⟨RX9, TX9, 29, rfl, by decide, inG9, rfl, kw_860, Or.inr ⟨rfl, rfl⟩, by decide +kernel, tyX9, tyX9_ok, nmX9⟩
theorem pn_X9_17 : pfN RX9 17 9 2 (tyX9 2) := ⟨RX9, TX9, 29, rfl, by decide, inG9, rfl, kw_861, Or.inr ⟨rfl, rfl⟩, by decide +kernel, tyX9, tyX9_ok, nmX9⟩
theorem pn_X9_20 : pfN RX9 20 9 3 (tyX9 3) := ⟨RX9, TX9, 29, rfl, by decide, inG9, rfl, kw_862, Or.inr ⟨rfl, rfl⟩, by decide +kernel, tyX9, tyX9_ok, nmX9⟩
theorem pn_X9_23 : pfN RX9 23 9 4 (tyX9 4) := ⟨RX9, TX9, 29, rfl, by decide, inG9, rfl, kw_863, Or.inr ⟨rfl, rfl⟩, by decide +kernel, tyX9, tyX9_ok, nmX9⟩
theorem pn_X9_26 : pfN RX9 26 9 5 (tyX9 5) := ⟨RX9, TX9, 29, rfl, by decide, inG9, rfl, kw_864, Or.inr ⟨rfl, rfl⟩, by decide +kernel, tyX9, tyX9_ok, nmX9⟩
theorem pn_X9_29 : pfN RX9 29 9 6 (tyX9 6) := ⟨RX9, TX9, 29, rfl, by decide, inG9, rfl, kw_865, Or.inr ⟨rfl, rfl⟩, by decide +kernel, tyX9, tyX9_ok, nmX9⟩
theorem pn_X9_32 : pfN RX9 32 9 7 (tyX9 7) := ⟨RX9, TX9, 29, rfl, by decide, inG9, rfl, kw_866, Or.inr ⟨rfl, rfl⟩, by decide +kernel, tyX9, tyX9_ok, nmX9⟩
theorem pn_X9_35 : pfN RX9 35 9 8 (tyX9 8) := ⟨RX9, TX9, 29, rfl, by decide, inG9, rfl, kw_867, Or.inr ⟨rfl, rfl⟩, by decide +kernel, tyX9, tyX9_ok, nmX9⟩
theorem pn_X9_38 : pfN RX9 38 9 9 (tyX9 9) := ⟨RX9, TX9, 29, rfl, by decide, inG9, rfl, kw_868, Or.inr ⟨rfl, rfl⟩, by decide +kernel, tyX9, tyX9_ok, nmX9⟩
theorem pn_X9_41 : pfN RX9 41 9 10 (tyX9 10) := ⟨RX9, TX9, 29, rfl, by decide, inG9, rfl, kw_869, Or.inr ⟨rfl, rfl⟩, by decide +kernel, tyX9, tyX9_ok, nmX9⟩
theorem pn_X9_44 : pfN RX9 44 9 11 (tyX9 11) := ⟨RX9, TX9, 29, rfl, by decide, inG9, rfl, kw_870, Or.inr ⟨rfl, rfl⟩, by decide +kernel, tyX9, tyX9_ok, nmX9⟩
theorem pn_X9_47 : pfN RX9 47 9 12 (tyX9 12) := ⟨RX9, TX9, 29, rfl, by decide, inG9, rfl, kw_871, Or.inr ⟨rfl, rfl⟩, by decide +kernel, tyX9, tyX9_ok, nmX9⟩
theorem pn_X9_50 : pfN RX9 50 9 18 (tyX9 18) := ⟨RX9, TX9, 29, rfl, by decide, inG9, rfl, kw_877, Or.inl rfl, by decide +kernel, tyX9, tyX9_ok, nmX9⟩
theorem pn_X9_54 : pfN RX9 54 9 22 (tyX9 22) := ⟨RX9, TX9, 29, rfl, by decide, inG9, rfl, kw_881, Or.inr ⟨rfl, rfl⟩, by decide +kernel, tyX9, tyX9_ok, nmX9⟩
theorem pn_X9_57 : pfN RX9 57 9 23 (tyX9 23) := ⟨RX9, TX9, 29, rfl, by decide, inG9, rfl, kw_882, Or.inr ⟨rfl, rfl⟩, by decide +kernel, tyX9, tyX9_ok, nmX9⟩
theorem pn_X9_60 : pfN RX9 60 9 24 (tyX9 24) := ⟨RX9, TX9, 29, rfl, by decide, inG9, rfl, kw_883, Or.inr ⟨rfl, rfl⟩, by decide +kernel, tyX9, tyX9_ok, nmX9⟩
theorem pn_X9_63 : pfN RX9 63 9 25 (tyX9 25) := ⟨RX9, TX9, 29, rfl, by decide, inG9, rfl, kw_884, Or.inr ⟨rfl, rfl⟩, by decide +kernel, tyX9, tyX9_ok, nmX9⟩
theorem pn_X9_66 : pfN RX9 66 9 27 (tyX9 27) := ⟨RX9, TX9, 29, rfl, by decide, inG9, rfl, kw_886, Or.inr ⟨rfl, rfl⟩, by decide +kernel, tyX9, tyX9_ok, nmX9⟩
def nl_X9 (n : Nat) : List Kd := [(0, 9, [n + 1 + 4, n + 2 + 4, n + 3 + 4, n + 4 + 4, n + 5 + 4, n + 6 + 4, n + 7 + 4, n + 8 + 4, n + 9 + 4, n + 10 + 4, n + 11 + 4, n + 12 + 4, n + 13 + 4, 0, 0, 0, 0, 0, 0, 0, 0, 1, n + 14 + 4, n + 15 + 4, n + 16 + 4, n + 17 + 4, 0, n + 18 + 4, 0])] ++ ([(1, 80, [])] ++ ([(2, 2, [])] ++ ([(1, 16, [])] ++ ([(1, 16, [])] ++ ([(1, 16, [])] ++ ([(1, 20, [])] ++ ([(1, 20, [])] ++ ([(1, 20, [])] ++ ([(1, 20, [])] ++ ([(1, 128, [])] ++ ([(1, 64, [])] ++ ([(1, 8, [])] ++ ([(1, 400, [])] ++ ([(1, 2304, [])] ++ ([(1, 8, [])] ++ ([(1, 256, [])] ++ ([(1, 90, [])] ++ ([(1, 90, [])]))))))))))))))))))
theorem n_X9 (hn : τ0.length = n) (hh : ∀ a i, n ≤ a → h a i = 0) (k : Q .null (τ0 ++ (nl_X9 n)) (hU (hU h n 18 (-1)) (n + 1) 17 20)) : nX g b 1 mX9_init 0 (lv_args 0 [.ref (gA g n)]) [] (τ0 ++ [(0, 9, [3, 3, 3, 3, 3, 3, 3, 3, 3, 3, 3, 3, 3, 0, 0, 0, 0, 0, 0, 0, 0, 1, 3, 3, 3, 3, 0, 3, 0])]) h 18 3558 (nE g mX9_init Q) := by
  show nX g b 1 mX9_init 0 [(0, .ref (gA g (n + 0)))] [] (τ0 ++ [(0, 9, [3, 3, 3, 3, 3, 3, 3, 3, 3, 3, 3, 3, 3, 0, 0, 0, 0, 0, 0, 0, 0, 1, 3, 3, 3, 3, 0, 3, 0])]) h 18 3558 (nE g mX9_init Q)
  refine nR_aldn 0 dX9_init_0 rfl rfl ?_
  refine nR_obj dX9_init_1 kw_858 (by decide) (by decide) ?_
  refine nR_aldn 0 dX9_init_4 rfl rfl ?_
  refine nR_bi (z := 80) dX9_init_5 rfl ?_
  refine nR_newaI (N := 80) (q := n + 1) (cn' := 17) (sn' := 3478) (τ' := τ0 ++ ([(0, 9, [3, 3, 3, 3, 3, 3, 3, 3, 3, 3, 3, 3, 3, 0, 0, 0, 0, 0, 0, 0, 0, 1, 3, 3, 3, 3, 0, 3, 0])] ++ ([(1, 80, [])]))) dX9_init_7 rfl (by decide) (by rw [List.length_append, hn]; rfl) rfl rfl (fun i => hh _ i (by omega)) (by simp only [List.append_assoc]) ?_
  refine nR_putR (a := n + 0) (i := n + 1) (τ' := τ0 ++ ([(0, 9, [n + 1 + 4, 3, 3, 3, 3, 3, 3, 3, 3, 3, 3, 3, 3, 0, 0, 0, 0, 0, 0, 0, 0, 1, 3, 3, 3, 3, 0, 3, 0])] ++ ([(1, 80, [])]))) dX9_init_9 pn_X9_7 rfl rfl (n_get hn rfl) (Nat.le_of_ble_eq_true rfl) (n_set hn rfl) ?_
  refine nR_aldn 0 dX9_init_12 rfl rfl ?_
  refine nR_ic dX9_init_13 ?_
  refine nR_newaZ (N := 2) (q := n + 2) (cn' := 16) (sn' := 3476) (τ' := τ0 ++ ([(0, 9, [n + 1 + 4, 3, 3, 3, 3, 3, 3, 3, 3, 3, 3, 3, 3, 0, 0, 0, 0, 0, 0, 0, 0, 1, 3, 3, 3, 3, 0, 3, 0])] ++ ([(1, 80, [])] ++ ([(2, 2, [])])))) dX9_init_14 rfl (by decide) (by rw [List.length_append, hn]; rfl) rfl rfl (fun i => hh _ i (by omega)) (by simp only [List.append_assoc]) ?_
  refine nR_putR (a := n + 0) (i := n + 2) (τ' := τ0 ++ ([(0, 9, [n + 1 + 4, n + 2 + 4, 3, 3, 3, 3, 3, 3, 3, 3, 3, 3, 3, 0, 0, 0, 0, 0, 0, 0, 0, 1, 3, 3, 3, 3, 0, 3, 0])] ++ ([(1, 80, [])] ++ ([(2, 2, [])])))) dX9_init_16 pn_X9_13 rfl rfl (n_get hn rfl) (Nat.le_of_ble_eq_true rfl) (n_set hn rfl) ?_
  refine nR_aldn 0 dX9_init_19 rfl rfl ?_
  refine nR_bi (z := 16) dX9_init_20 rfl ?_
  refine nR_newaI (N := 16) (q := n + 3) (cn' := 15) (sn' := 3460) (τ' := τ0 ++ ([(0, 9, [n + 1 + 4, n + 2 + 4, 3, 3, 3, 3, 3, 3, 3, 3, 3, 3, 3, 0, 0, 0, 0, 0, 0, 0, 0, 1, 3, 3, 3, 3, 0, 3, 0])] ++ ([(1, 80, [])] ++ ([(2, 2, [])] ++ ([(1, 16, [])]))))) dX9_init_22 rfl (by decide) (by rw [List.length_append, hn]; rfl) rfl rfl (fun i => hh _ i (by omega)) (by simp only [List.append_assoc]) ?_
  refine nR_putR (a := n + 0) (i := n + 3) (τ' := τ0 ++ ([(0, 9, [n + 1 + 4, n + 2 + 4, n + 3 + 4, 3, 3, 3, 3, 3, 3, 3, 3, 3, 3, 0, 0, 0, 0, 0, 0, 0, 0, 1, 3, 3, 3, 3, 0, 3, 0])] ++ ([(1, 80, [])] ++ ([(2, 2, [])] ++ ([(1, 16, [])]))))) dX9_init_24 pn_X9_17 rfl rfl (n_get hn rfl) (Nat.le_of_ble_eq_true rfl) (n_set hn rfl) ?_
  refine nR_aldn 0 dX9_init_27 rfl rfl ?_
  refine nR_bi (z := 16) dX9_init_28 rfl ?_
  refine nR_newaI (N := 16) (q := n + 4) (cn' := 14) (sn' := 3444) (τ' := τ0 ++ ([(0, 9, [n + 1 + 4, n + 2 + 4, n + 3 + 4, 3, 3, 3, 3, 3, 3, 3, 3, 3, 3, 0, 0, 0, 0, 0, 0, 0, 0, 1, 3, 3, 3, 3, 0, 3, 0])] ++ ([(1, 80, [])] ++ ([(2, 2, [])] ++ ([(1, 16, [])] ++ ([(1, 16, [])])))))) dX9_init_30 rfl (by decide) (by rw [List.length_append, hn]; rfl) rfl rfl (fun i => hh _ i (by omega)) (by simp only [List.append_assoc]) ?_
  refine nR_putR (a := n + 0) (i := n + 4) (τ' := τ0 ++ ([(0, 9, [n + 1 + 4, n + 2 + 4, n + 3 + 4, n + 4 + 4, 3, 3, 3, 3, 3, 3, 3, 3, 3, 0, 0, 0, 0, 0, 0, 0, 0, 1, 3, 3, 3, 3, 0, 3, 0])] ++ ([(1, 80, [])] ++ ([(2, 2, [])] ++ ([(1, 16, [])] ++ ([(1, 16, [])])))))) dX9_init_32 pn_X9_20 rfl rfl (n_get hn rfl) (Nat.le_of_ble_eq_true rfl) (n_set hn rfl) ?_
  refine nR_aldn 0 dX9_init_35 rfl rfl ?_
  refine nR_bi (z := 16) dX9_init_36 rfl ?_
  refine nR_newaI (N := 16) (q := n + 5) (cn' := 13) (sn' := 3428) (τ' := τ0 ++ ([(0, 9, [n + 1 + 4, n + 2 + 4, n + 3 + 4, n + 4 + 4, 3, 3, 3, 3, 3, 3, 3, 3, 3, 0, 0, 0, 0, 0, 0, 0, 0, 1, 3, 3, 3, 3, 0, 3, 0])] ++ ([(1, 80, [])] ++ ([(2, 2, [])] ++ ([(1, 16, [])] ++ ([(1, 16, [])] ++ ([(1, 16, [])]))))))) dX9_init_38 rfl (by decide) (by rw [List.length_append, hn]; rfl) rfl rfl (fun i => hh _ i (by omega)) (by simp only [List.append_assoc]) ?_
  refine nR_putR (a := n + 0) (i := n + 5) (τ' := τ0 ++ ([(0, 9, [n + 1 + 4, n + 2 + 4, n + 3 + 4, n + 4 + 4, n + 5 + 4, 3, 3, 3, 3, 3, 3, 3, 3, 0, 0, 0, 0, 0, 0, 0, 0, 1, 3, 3, 3, 3, 0, 3, 0])] ++ ([(1, 80, [])] ++ ([(2, 2, [])] ++ ([(1, 16, [])] ++ ([(1, 16, [])] ++ ([(1, 16, [])]))))))) dX9_init_40 pn_X9_23 rfl rfl (n_get hn rfl) (Nat.le_of_ble_eq_true rfl) (n_set hn rfl) ?_
  refine nR_aldn 0 dX9_init_43 rfl rfl ?_
  refine nR_bi (z := 20) dX9_init_44 rfl ?_
  refine nR_newaI (N := 20) (q := n + 6) (cn' := 12) (sn' := 3408) (τ' := τ0 ++ ([(0, 9, [n + 1 + 4, n + 2 + 4, n + 3 + 4, n + 4 + 4, n + 5 + 4, 3, 3, 3, 3, 3, 3, 3, 3, 0, 0, 0, 0, 0, 0, 0, 0, 1, 3, 3, 3, 3, 0, 3, 0])] ++ ([(1, 80, [])] ++ ([(2, 2, [])] ++ ([(1, 16, [])] ++ ([(1, 16, [])] ++ ([(1, 16, [])] ++ ([(1, 20, [])])))))))) dX9_init_46 rfl (by decide) (by rw [List.length_append, hn]; rfl) rfl rfl (fun i => hh _ i (by omega)) (by simp only [List.append_assoc]) ?_
  refine nR_putR (a := n + 0) (i := n + 6) (τ' := τ0 ++ ([(0, 9, [n + 1 + 4, n + 2 + 4, n + 3 + 4, n + 4 + 4, n + 5 + 4, n + 6 + 4, 3, 3, 3, 3, 3, 3, 3, 0, 0, 0, 0, 0, 0, 0, 0, 1, 3, 3, 3, 3, 0, 3, 0])] ++ ([(1, 80, [])] ++ ([(2, 2, [])] ++ ([(1, 16, [])] ++ ([(1, 16, [])] ++ ([(1, 16, [])] ++ ([(1, 20, [])])))))))) dX9_init_48 pn_X9_26 rfl rfl (n_get hn rfl) (Nat.le_of_ble_eq_true rfl) (n_set hn rfl) ?_
  refine nR_aldn 0 dX9_init_51 rfl rfl ?_
  refine nR_bi (z := 20) dX9_init_52 rfl ?_
  refine nR_newaI (N := 20) (q := n + 7) (cn' := 11) (sn' := 3388) (τ' := τ0 ++ ([(0, 9, [n + 1 + 4, n + 2 + 4, n + 3 + 4, n + 4 + 4, n + 5 + 4, n + 6 + 4, 3, 3, 3, 3, 3, 3, 3, 0, 0, 0, 0, 0, 0, 0, 0, 1, 3, 3, 3, 3, 0, 3, 0])] ++ ([(1, 80, [])] ++ ([(2, 2, [])] ++ ([(1, 16, [])] ++ ([(1, 16, [])] ++ ([(1, 16, [])] ++ ([(1, 20, [])] ++ ([(1, 20, [])]))))))))) dX9_init_54 rfl (by decide) (by rw [List.length_append, hn]; rfl) rfl rfl (fun i => hh _ i (by omega)) (by simp only [List.append_assoc]) ?_
  refine nR_putR (a := n + 0) (i := n + 7) (τ' := τ0 ++ ([(0, 9, [n + 1 + 4, n + 2 + 4, n + 3 + 4, n + 4 + 4, n + 5 + 4, n + 6 + 4, n + 7 + 4, 3, 3, 3, 3, 3, 3, 0, 0, 0, 0, 0, 0, 0, 0, 1, 3, 3, 3, 3, 0, 3, 0])] ++ ([(1, 80, [])] ++ ([(2, 2, [])] ++ ([(1, 16, [])] ++ ([(1, 16, [])] ++ ([(1, 16, [])] ++ ([(1, 20, [])] ++ ([(1, 20, [])]))))))))) dX9_init_56 pn_X9_29 rfl rfl (n_get hn rfl) (Nat.le_of_ble_eq_true rfl) (n_set hn rfl) ?_
  refine nR_aldn 0 dX9_init_59 rfl rfl ?_
  refine nR_bi (z := 20) dX9_init_60 rfl ?_
  refine nR_newaI (N := 20) (q := n + 8) (cn' := 10) (sn' := 3368) (τ' := τ0 ++ ([(0, 9, [n + 1 + 4, n + 2 + 4, n + 3 + 4, n + 4 + 4, n + 5 + 4, n + 6 + 4, n + 7 + 4, 3, 3, 3, 3, 3, 3, 0, 0, 0, 0, 0, 0, 0, 0, 1, 3, 3, 3, 3, 0, 3, 0])] ++ ([(1, 80, [])] ++ ([(2, 2, [])] ++ ([(1, 16, [])] ++ ([(1, 16, [])] ++ ([(1, 16, [])] ++ ([(1, 20, [])] ++ ([(1, 20, [])] ++ ([(1, 20, [])])))))))))) dX9_init_62 rfl (by decide) (by rw [List.length_append, hn]; rfl) rfl rfl (fun i => hh _ i (by omega)) (by simp only [List.append_assoc]) ?_
  refine nR_putR (a := n + 0) (i := n + 8) (τ' := τ0 ++ ([(0, 9, [n + 1 + 4, n + 2 + 4, n + 3 + 4, n + 4 + 4, n + 5 + 4, n + 6 + 4, n + 7 + 4, n + 8 + 4, 3, 3, 3, 3, 3, 0, 0, 0, 0, 0, 0, 0, 0, 1, 3, 3, 3, 3, 0, 3, 0])] ++ ([(1, 80, [])] ++ ([(2, 2, [])] ++ ([(1, 16, [])] ++ ([(1, 16, [])] ++ ([(1, 16, [])] ++ ([(1, 20, [])] ++ ([(1, 20, [])] ++ ([(1, 20, [])])))))))))) dX9_init_64 pn_X9_32 rfl rfl (n_get hn rfl) (Nat.le_of_ble_eq_true rfl) (n_set hn rfl) ?_
  refine nR_aldn 0 dX9_init_67 rfl rfl ?_
  refine nR_bi (z := 20) dX9_init_68 rfl ?_
  refine nR_newaI (N := 20) (q := n + 9) (cn' := 9) (sn' := 3348) (τ' := τ0 ++ ([(0, 9, [n + 1 + 4, n + 2 + 4, n + 3 + 4, n + 4 + 4, n + 5 + 4, n + 6 + 4, n + 7 + 4, n + 8 + 4, 3, 3, 3, 3, 3, 0, 0, 0, 0, 0, 0, 0, 0, 1, 3, 3, 3, 3, 0, 3, 0])] ++ ([(1, 80, [])] ++ ([(2, 2, [])] ++ ([(1, 16, [])] ++ ([(1, 16, [])] ++ ([(1, 16, [])] ++ ([(1, 20, [])] ++ ([(1, 20, [])] ++ ([(1, 20, [])] ++ ([(1, 20, [])]))))))))))) dX9_init_70 rfl (by decide) (by rw [List.length_append, hn]; rfl) rfl rfl (fun i => hh _ i (by omega)) (by simp only [List.append_assoc]) ?_
  refine nR_putR (a := n + 0) (i := n + 9) (τ' := τ0 ++ ([(0, 9, [n + 1 + 4, n + 2 + 4, n + 3 + 4, n + 4 + 4, n + 5 + 4, n + 6 + 4, n + 7 + 4, n + 8 + 4, n + 9 + 4, 3, 3, 3, 3, 0, 0, 0, 0, 0, 0, 0, 0, 1, 3, 3, 3, 3, 0, 3, 0])] ++ ([(1, 80, [])] ++ ([(2, 2, [])] ++ ([(1, 16, [])] ++ ([(1, 16, [])] ++ ([(1, 16, [])] ++ ([(1, 20, [])] ++ ([(1, 20, [])] ++ ([(1, 20, [])] ++ ([(1, 20, [])]))))))))))) dX9_init_72 pn_X9_35 rfl rfl (n_get hn rfl) (Nat.le_of_ble_eq_true rfl) (n_set hn rfl) ?_
  refine nR_aldn 0 dX9_init_75 rfl rfl ?_
  refine nR_si (z := 128) dX9_init_76 rfl ?_
  refine nR_newaI (N := 128) (q := n + 10) (cn' := 8) (sn' := 3220) (τ' := τ0 ++ ([(0, 9, [n + 1 + 4, n + 2 + 4, n + 3 + 4, n + 4 + 4, n + 5 + 4, n + 6 + 4, n + 7 + 4, n + 8 + 4, n + 9 + 4, 3, 3, 3, 3, 0, 0, 0, 0, 0, 0, 0, 0, 1, 3, 3, 3, 3, 0, 3, 0])] ++ ([(1, 80, [])] ++ ([(2, 2, [])] ++ ([(1, 16, [])] ++ ([(1, 16, [])] ++ ([(1, 16, [])] ++ ([(1, 20, [])] ++ ([(1, 20, [])] ++ ([(1, 20, [])] ++ ([(1, 20, [])] ++ ([(1, 128, [])])))))))))))) dX9_init_79 rfl (by decide) (by rw [List.length_append, hn]; rfl) rfl rfl (fun i => hh _ i (by omega)) (by simp only [List.append_assoc]) ?_
  refine nR_putR (a := n + 0) (i := n + 10) (τ' := τ0 ++ ([(0, 9, [n + 1 + 4, n + 2 + 4, n + 3 + 4, n + 4 + 4, n + 5 + 4, n + 6 + 4, n + 7 + 4, n + 8 + 4, n + 9 + 4, n + 10 + 4, 3, 3, 3, 0, 0, 0, 0, 0, 0, 0, 0, 1, 3, 3, 3, 3, 0, 3, 0])] ++ ([(1, 80, [])] ++ ([(2, 2, [])] ++ ([(1, 16, [])] ++ ([(1, 16, [])] ++ ([(1, 16, [])] ++ ([(1, 20, [])] ++ ([(1, 20, [])] ++ ([(1, 20, [])] ++ ([(1, 20, [])] ++ ([(1, 128, [])])))))))))))) dX9_init_81 pn_X9_38 rfl rfl (n_get hn rfl) (Nat.le_of_ble_eq_true rfl) (n_set hn rfl) ?_
  refine nR_aldn 0 dX9_init_84 rfl rfl ?_
  refine nR_bi (z := 64) dX9_init_85 rfl ?_
  refine nR_newaI (N := 64) (q := n + 11) (cn' := 7) (sn' := 3156) (τ' := τ0 ++ ([(0, 9, [n + 1 + 4, n + 2 + 4, n + 3 + 4, n + 4 + 4, n + 5 + 4, n + 6 + 4, n + 7 + 4, n + 8 + 4, n + 9 + 4, n + 10 + 4, 3, 3, 3, 0, 0, 0, 0, 0, 0, 0, 0, 1, 3, 3, 3, 3, 0, 3, 0])] ++ ([(1, 80, [])] ++ ([(2, 2, [])] ++ ([(1, 16, [])] ++ ([(1, 16, [])] ++ ([(1, 16, [])] ++ ([(1, 20, [])] ++ ([(1, 20, [])] ++ ([(1, 20, [])] ++ ([(1, 20, [])] ++ ([(1, 128, [])] ++ ([(1, 64, [])]))))))))))))) dX9_init_87 rfl (by decide) (by rw [List.length_append, hn]; rfl) rfl rfl (fun i => hh _ i (by omega)) (by simp only [List.append_assoc]) ?_
  refine nR_putR (a := n + 0) (i := n + 11) (τ' := τ0 ++ ([(0, 9, [n + 1 + 4, n + 2 + 4, n + 3 + 4, n + 4 + 4, n + 5 + 4, n + 6 + 4, n + 7 + 4, n + 8 + 4, n + 9 + 4, n + 10 + 4, n + 11 + 4, 3, 3, 0, 0, 0, 0, 0, 0, 0, 0, 1, 3, 3, 3, 3, 0, 3, 0])] ++ ([(1, 80, [])] ++ ([(2, 2, [])] ++ ([(1, 16, [])] ++ ([(1, 16, [])] ++ ([(1, 16, [])] ++ ([(1, 20, [])] ++ ([(1, 20, [])] ++ ([(1, 20, [])] ++ ([(1, 20, [])] ++ ([(1, 128, [])] ++ ([(1, 64, [])]))))))))))))) dX9_init_89 pn_X9_41 rfl rfl (n_get hn rfl) (Nat.le_of_ble_eq_true rfl) (n_set hn rfl) ?_
  refine nR_aldn 0 dX9_init_92 rfl rfl ?_
  refine nR_bi (z := 8) dX9_init_93 rfl ?_
  refine nR_newaI (N := 8) (q := n + 12) (cn' := 6) (sn' := 3148) (τ' := τ0 ++ ([(0, 9, [n + 1 + 4, n + 2 + 4, n + 3 + 4, n + 4 + 4, n + 5 + 4, n + 6 + 4, n + 7 + 4, n + 8 + 4, n + 9 + 4, n + 10 + 4, n + 11 + 4, 3, 3, 0, 0, 0, 0, 0, 0, 0, 0, 1, 3, 3, 3, 3, 0, 3, 0])] ++ ([(1, 80, [])] ++ ([(2, 2, [])] ++ ([(1, 16, [])] ++ ([(1, 16, [])] ++ ([(1, 16, [])] ++ ([(1, 20, [])] ++ ([(1, 20, [])] ++ ([(1, 20, [])] ++ ([(1, 20, [])] ++ ([(1, 128, [])] ++ ([(1, 64, [])] ++ ([(1, 8, [])])))))))))))))) dX9_init_95 rfl (by decide) (by rw [List.length_append, hn]; rfl) rfl rfl (fun i => hh _ i (by omega)) (by simp only [List.append_assoc]) ?_
  refine nR_putR (a := n + 0) (i := n + 12) (τ' := τ0 ++ ([(0, 9, [n + 1 + 4, n + 2 + 4, n + 3 + 4, n + 4 + 4, n + 5 + 4, n + 6 + 4, n + 7 + 4, n + 8 + 4, n + 9 + 4, n + 10 + 4, n + 11 + 4, n + 12 + 4, 3, 0, 0, 0, 0, 0, 0, 0, 0, 1, 3, 3, 3, 3, 0, 3, 0])] ++ ([(1, 80, [])] ++ ([(2, 2, [])] ++ ([(1, 16, [])] ++ ([(1, 16, [])] ++ ([(1, 16, [])] ++ ([(1, 20, [])] ++ ([(1, 20, [])] ++ ([(1, 20, [])] ++ ([(1, 20, [])] ++ ([(1, 128, [])] ++ ([(1, 64, [])] ++ ([(1, 8, [])])))))))))))))) dX9_init_97 pn_X9_44 rfl rfl (n_get hn rfl) (Nat.le_of_ble_eq_true rfl) (n_set hn rfl) ?_
  refine nR_aldn 0 dX9_init_100 rfl rfl ?_
  refine nR_si (z := 400) dX9_init_101 rfl ?_
  refine nR_newaI (N := 400) (q := n + 13) (cn' := 5) (sn' := 2748) (τ' := τ0 ++ ([(0, 9, [n + 1 + 4, n + 2 + 4, n + 3 + 4, n + 4 + 4, n + 5 + 4, n + 6 + 4, n + 7 + 4, n + 8 + 4, n + 9 + 4, n + 10 + 4, n + 11 + 4, n + 12 + 4, 3, 0, 0, 0, 0, 0, 0, 0, 0, 1, 3, 3, 3, 3, 0, 3, 0])] ++ ([(1, 80, [])] ++ ([(2, 2, [])] ++ ([(1, 16, [])] ++ ([(1, 16, [])] ++ ([(1, 16, [])] ++ ([(1, 20, [])] ++ ([(1, 20, [])] ++ ([(1, 20, [])] ++ ([(1, 20, [])] ++ ([(1, 128, [])] ++ ([(1, 64, [])] ++ ([(1, 8, [])] ++ ([(1, 400, [])]))))))))))))))) dX9_init_104 rfl (by decide) (by rw [List.length_append, hn]; rfl) rfl rfl (fun i => hh _ i (by omega)) (by simp only [List.append_assoc]) ?_
  refine nR_putR (a := n + 0) (i := n + 13) (τ' := τ0 ++ ([(0, 9, [n + 1 + 4, n + 2 + 4, n + 3 + 4, n + 4 + 4, n + 5 + 4, n + 6 + 4, n + 7 + 4, n + 8 + 4, n + 9 + 4, n + 10 + 4, n + 11 + 4, n + 12 + 4, n + 13 + 4, 0, 0, 0, 0, 0, 0, 0, 0, 1, 3, 3, 3, 3, 0, 3, 0])] ++ ([(1, 80, [])] ++ ([(2, 2, [])] ++ ([(1, 16, [])] ++ ([(1, 16, [])] ++ ([(1, 16, [])] ++ ([(1, 20, [])] ++ ([(1, 20, [])] ++ ([(1, 20, [])] ++ ([(1, 20, [])] ++ ([(1, 128, [])] ++ ([(1, 64, [])] ++ ([(1, 8, [])] ++ ([(1, 400, [])]))))))))))))))) dX9_init_106 pn_X9_47 rfl rfl (n_get hn rfl) (Nat.le_of_ble_eq_true rfl) (n_set hn rfl) ?_
  refine nR_aldn 0 dX9_init_109 rfl rfl ?_
  refine nR_ic dX9_init_110 ?_
  refine nR_putI (a := n + 0) dX9_init_111 pn_X9_50 (n_get hn rfl) rfl ?_
  refine nR_aldn 0 dX9_init_114 rfl rfl ?_
  refine nR_si (z := 2304) dX9_init_115 rfl ?_
  refine nR_newaI (N := 2304) (q := n + 14) (cn' := 4) (sn' := 444) (τ' := τ0 ++ ([(0, 9, [n + 1 + 4, n + 2 + 4, n + 3 + 4, n + 4 + 4, n + 5 + 4, n + 6 + 4, n + 7 + 4, n + 8 + 4, n + 9 + 4, n + 10 + 4, n + 11 + 4, n + 12 + 4, n + 13 + 4, 0, 0, 0, 0, 0, 0, 0, 0, 1, 3, 3, 3, 3, 0, 3, 0])] ++ ([(1, 80, [])] ++ ([(2, 2, [])] ++ ([(1, 16, [])] ++ ([(1, 16, [])] ++ ([(1, 16, [])] ++ ([(1, 20, [])] ++ ([(1, 20, [])] ++ ([(1, 20, [])] ++ ([(1, 20, [])] ++ ([(1, 128, [])] ++ ([(1, 64, [])] ++ ([(1, 8, [])] ++ ([(1, 400, [])] ++ ([(1, 2304, [])])))))))))))))))) dX9_init_118 rfl (by decide) (by rw [List.length_append, hn]; rfl) rfl rfl (fun i => (congrFun (hU_a _ _ _ (by omega)) _).trans (hh _ i (by omega))) (by simp only [List.append_assoc]) ?_
  refine nR_putR (a := n + 0) (i := n + 14) (τ' := τ0 ++ ([(0, 9, [n + 1 + 4, n + 2 + 4, n + 3 + 4, n + 4 + 4, n + 5 + 4, n + 6 + 4, n + 7 + 4, n + 8 + 4, n + 9 + 4, n + 10 + 4, n + 11 + 4, n + 12 + 4, n + 13 + 4, 0, 0, 0, 0, 0, 0, 0, 0, 1, n + 14 + 4, 3, 3, 3, 0, 3, 0])] ++ ([(1, 80, [])] ++ ([(2, 2, [])] ++ ([(1, 16, [])] ++ ([(1, 16, [])] ++ ([(1, 16, [])] ++ ([(1, 20, [])] ++ ([(1, 20, [])] ++ ([(1, 20, [])] ++ ([(1, 20, [])] ++ ([(1, 128, [])] ++ ([(1, 64, [])] ++ ([(1, 8, [])] ++ ([(1, 400, [])] ++ ([(1, 2304, [])])))))))))))))))) dX9_init_120 pn_X9_54 rfl rfl (n_get hn rfl) (Nat.le_of_ble_eq_true rfl) (n_set hn rfl) ?_
  refine nR_aldn 0 dX9_init_123 rfl rfl ?_
  refine nR_bi (z := 8) dX9_init_124 rfl ?_
  refine nR_newaI (N := 8) (q := n + 15) (cn' := 3) (sn' := 436) (τ' := τ0 ++ ([(0, 9, [n + 1 + 4, n + 2 + 4, n + 3 + 4, n + 4 + 4, n + 5 + 4, n + 6 + 4, n + 7 + 4, n + 8 + 4, n + 9 + 4, n + 10 + 4, n + 11 + 4, n + 12 + 4, n + 13 + 4, 0, 0, 0, 0, 0, 0, 0, 0, 1, n + 14 + 4, 3, 3, 3, 0, 3, 0])] ++ ([(1, 80, [])] ++ ([(2, 2, [])] ++ ([(1, 16, [])] ++ ([(1, 16, [])] ++ ([(1, 16, [])] ++ ([(1, 20, [])] ++ ([(1, 20, [])] ++ ([(1, 20, [])] ++ ([(1, 20, [])] ++ ([(1, 128, [])] ++ ([(1, 64, [])] ++ ([(1, 8, [])] ++ ([(1, 400, [])] ++ ([(1, 2304, [])] ++ ([(1, 8, [])]))))))))))))))))) dX9_init_126 rfl (by decide) (by rw [List.length_append, hn]; rfl) rfl rfl (fun i => (congrFun (hU_a _ _ _ (by omega)) _).trans (hh _ i (by omega))) (by simp only [List.append_assoc]) ?_
  refine nR_putR (a := n + 0) (i := n + 15) (τ' := τ0 ++ ([(0, 9, [n + 1 + 4, n + 2 + 4, n + 3 + 4, n + 4 + 4, n + 5 + 4, n + 6 + 4, n + 7 + 4, n + 8 + 4, n + 9 + 4, n + 10 + 4, n + 11 + 4, n + 12 + 4, n + 13 + 4, 0, 0, 0, 0, 0, 0, 0, 0, 1, n + 14 + 4, n + 15 + 4, 3, 3, 0, 3, 0])] ++ ([(1, 80, [])] ++ ([(2, 2, [])] ++ ([(1, 16, [])] ++ ([(1, 16, [])] ++ ([(1, 16, [])] ++ ([(1, 20, [])] ++ ([(1, 20, [])] ++ ([(1, 20, [])] ++ ([(1, 20, [])] ++ ([(1, 128, [])] ++ ([(1, 64, [])] ++ ([(1, 8, [])] ++ ([(1, 400, [])] ++ ([(1, 2304, [])] ++ ([(1, 8, [])]))))))))))))))))) dX9_init_128 pn_X9_57 rfl rfl (n_get hn rfl) (Nat.le_of_ble_eq_true rfl) (n_set hn rfl) ?_
  refine nR_aldn 0 dX9_init_131 rfl rfl ?_
  refine nR_si (z := 256) dX9_init_132 rfl ?_
  refine nR_newaI (N := 256) (q := n + 16) (cn' := 2) (sn' := 180) (τ' := τ0 ++ ([(0, 9, [n + 1 + 4, n + 2 + 4, n + 3 + 4, n + 4 + 4, n + 5 + 4, n + 6 + 4, n + 7 + 4, n + 8 + 4, n + 9 + 4, n + 10 + 4, n + 11 + 4, n + 12 + 4, n + 13 + 4, 0, 0, 0, 0, 0, 0, 0, 0, 1, n + 14 + 4, n + 15 + 4, 3, 3, 0, 3, 0])] ++ ([(1, 80, [])] ++ ([(2, 2, [])] ++ ([(1, 16, [])] ++ ([(1, 16, [])] ++ ([(1, 16, [])] ++ ([(1, 20, [])] ++ ([(1, 20, [])] ++ ([(1, 20, [])] ++ ([(1, 20, [])] ++ ([(1, 128, [])] ++ ([(1, 64, [])] ++ ([(1, 8, [])] ++ ([(1, 400, [])] ++ ([(1, 2304, [])] ++ ([(1, 8, [])] ++ ([(1, 256, [])])))))))))))))))))) dX9_init_135 rfl (by decide) (by rw [List.length_append, hn]; rfl) rfl rfl (fun i => (congrFun (hU_a _ _ _ (by omega)) _).trans (hh _ i (by omega))) (by simp only [List.append_assoc]) ?_
  refine nR_putR (a := n + 0) (i := n + 16) (τ' := τ0 ++ ([(0, 9, [n + 1 + 4, n + 2 + 4, n + 3 + 4, n + 4 + 4, n + 5 + 4, n + 6 + 4, n + 7 + 4, n + 8 + 4, n + 9 + 4, n + 10 + 4, n + 11 + 4, n + 12 + 4, n + 13 + 4, 0, 0, 0, 0, 0, 0, 0, 0, 1, n + 14 + 4, n + 15 + 4, n + 16 + 4, 3, 0, 3, 0])] ++ ([(1, 80, [])] ++ ([(2, 2, [])] ++ ([(1, 16, [])] ++ ([(1, 16, [])] ++ ([(1, 16, [])] ++ ([(1, 20, [])] ++ ([(1, 20, [])] ++ ([(1, 20, [])] ++ ([(1, 20, [])] ++ ([(1, 128, [])] ++ ([(1, 64, [])] ++ ([(1, 8, [])] ++ ([(1, 400, [])] ++ ([(1, 2304, [])] ++ ([(1, 8, [])] ++ ([(1, 256, [])])))))))))))))))))) dX9_init_137 pn_X9_60 rfl rfl (n_get hn rfl) (Nat.le_of_ble_eq_true rfl) (n_set hn rfl) ?_
  refine nR_aldn 0 dX9_init_140 rfl rfl ?_
  refine nR_bi (z := 90) dX9_init_141 rfl ?_
  refine nR_newaI (N := 90) (q := n + 17) (cn' := 1) (sn' := 90) (τ' := τ0 ++ ([(0, 9, [n + 1 + 4, n + 2 + 4, n + 3 + 4, n + 4 + 4, n + 5 + 4, n + 6 + 4, n + 7 + 4, n + 8 + 4, n + 9 + 4, n + 10 + 4, n + 11 + 4, n + 12 + 4, n + 13 + 4, 0, 0, 0, 0, 0, 0, 0, 0, 1, n + 14 + 4, n + 15 + 4, n + 16 + 4, 3, 0, 3, 0])] ++ ([(1, 80, [])] ++ ([(2, 2, [])] ++ ([(1, 16, [])] ++ ([(1, 16, [])] ++ ([(1, 16, [])] ++ ([(1, 20, [])] ++ ([(1, 20, [])] ++ ([(1, 20, [])] ++ ([(1, 20, [])] ++ ([(1, 128, [])] ++ ([(1, 64, [])] ++ ([(1, 8, [])] ++ ([(1, 400, [])] ++ ([(1, 2304, [])] ++ ([(1, 8, [])] ++ ([(1, 256, [])] ++ ([(1, 90, [])]))))))))))))))))))) dX9_init_143 rfl (by decide) (by rw [List.length_append, hn]; rfl) rfl rfl (fun i => (congrFun (hU_a _ _ _ (by omega)) _).trans (hh _ i (by omega))) (by simp only [List.append_assoc]) ?_
  refine nR_putR (a := n + 0) (i := n + 17) (τ' := τ0 ++ ([(0, 9, [n + 1 + 4, n + 2 + 4, n + 3 + 4, n + 4 + 4, n + 5 + 4, n + 6 + 4, n + 7 + 4, n + 8 + 4, n + 9 + 4, n + 10 + 4, n + 11 + 4, n + 12 + 4, n + 13 + 4, 0, 0, 0, 0, 0, 0, 0, 0, 1, n + 14 + 4, n + 15 + 4, n + 16 + 4, n + 17 + 4, 0, 3, 0])] ++ ([(1, 80, [])] ++ ([(2, 2, [])] ++ ([(1, 16, [])] ++ ([(1, 16, [])] ++ ([(1, 16, [])] ++ ([(1, 20, [])] ++ ([(1, 20, [])] ++ ([(1, 20, [])] ++ ([(1, 20, [])] ++ ([(1, 128, [])] ++ ([(1, 64, [])] ++ ([(1, 8, [])] ++ ([(1, 400, [])] ++ ([(1, 2304, [])] ++ ([(1, 8, [])] ++ ([(1, 256, [])] ++ ([(1, 90, [])]))))))))))))))))))) dX9_init_145 pn_X9_63 rfl rfl (n_get hn rfl) (Nat.le_of_ble_eq_true rfl) (n_set hn rfl) ?_
  refine nR_aldn 0 dX9_init_148 rfl rfl ?_
  refine nR_bi (z := 90) dX9_init_149 rfl ?_
  refine nR_newaI (N := 90) (q := n + 18) (cn' := 0) (sn' := 0) (τ' := τ0 ++ ([(0, 9, [n + 1 + 4, n + 2 + 4, n + 3 + 4, n + 4 + 4, n + 5 + 4, n + 6 + 4, n + 7 + 4, n + 8 + 4, n + 9 + 4, n + 10 + 4, n + 11 + 4, n + 12 + 4, n + 13 + 4, 0, 0, 0, 0, 0, 0, 0, 0, 1, n + 14 + 4, n + 15 + 4, n + 16 + 4, n + 17 + 4, 0, 3, 0])] ++ ([(1, 80, [])] ++ ([(2, 2, [])] ++ ([(1, 16, [])] ++ ([(1, 16, [])] ++ ([(1, 16, [])] ++ ([(1, 20, [])] ++ ([(1, 20, [])] ++ ([(1, 20, [])] ++ ([(1, 20, [])] ++ ([(1, 128, [])] ++ ([(1, 64, [])] ++ ([(1, 8, [])] ++ ([(1, 400, [])] ++ ([(1, 2304, [])] ++ ([(1, 8, [])] ++ ([(1, 256, [])] ++ ([(1, 90, [])] ++ ([(1, 90, [])])))))))))))))))))))) dX9_init_151 rfl (by decide) (by rw [List.length_append, hn]; rfl) rfl rfl (fun i => (congrFun (hU_a _ _ _ (by omega)) _).trans (hh _ i (by omega))) (by simp only [List.append_assoc]) ?_
  refine nR_putR (a := n + 0) (i := n + 18) (τ' := τ0 ++ ([(0, 9, [n + 1 + 4, n + 2 + 4, n + 3 + 4, n + 4 + 4, n + 5 + 4, n + 6 + 4, n + 7 + 4, n + 8 + 4, n + 9 + 4, n + 10 + 4, n + 11 + 4, n + 12 + 4, n + 13 + 4, 0, 0, 0, 0, 0, 0, 0, 0, 1, n + 14 + 4, n + 15 + 4, n + 16 + 4, n + 17 + 4, 0, n + 18 + 4, 0])] ++ ([(1, 80, [])] ++ ([(2, 2, [])] ++ ([(1, 16, [])] ++ ([(1, 16, [])] ++ ([(1, 16, [])] ++ ([(1, 20, [])] ++ ([(1, 20, [])] ++ ([(1, 20, [])] ++ ([(1, 20, [])] ++ ([(1, 128, [])] ++ ([(1, 64, [])] ++ ([(1, 8, [])] ++ ([(1, 400, [])] ++ ([(1, 2304, [])] ++ ([(1, 8, [])] ++ ([(1, 256, [])] ++ ([(1, 90, [])] ++ ([(1, 90, [])])))))))))))))))))))) dX9_init_153 pn_X9_66 rfl rfl (n_get hn rfl) (Nat.le_of_ble_eq_true rfl) (n_set hn rfl) ?_
  refine nR_aldn 0 dX9_init_156 rfl rfl ?_
  refine nR_getR (a := n + 0) (i := n + 1) dX9_init_157 gf_X9_7 (n_get hn rfl) rfl ?_
  refine nR_bi (z := 17) dX9_init_160 rfl ?_
  refine nR_bi (z := 20) dX9_init_162 rfl ?_
  refine nR_iast (n := 17) dX9_init_164 (n_get hn rfl) rfl (by decide) (by decide) ?_
  exact nR_vret dX9_init_165 rfl rfl k
end M64
