noncomputable def swJ (S : TS) (i : Nat) : Nat → Nat → Option TS
  | 0, _ => none
  | n + 1, j => @ite _ (i / 2 ≠ j / 2 ∧ gdS S (i / 2) (i % 2) (j / 2) (j % 2)) (Classical.propDecidable _) (some (swS S (i / 2) (i % 2) (j / 2) (j % 2))) (swJ S i n (j + 1))
noncomputable def swI (S : TS) : Nat → Nat → Option TS
  | 0, _ => none
  | n + 1, i => match swJ S i (2 * sC S - (i + 1)) (i + 1) with
    | some x => some x
    | none => swI S n (i + 1)
noncomputable def swF (S : TS) : Option TS := swI S (2 * sC S) 0
noncomputable def swIt : Nat → TS → Nat → Nat × TS
  | 0, S, n => (n, S)
  | f + 1, S, n => match swF S with
    | some S' => swIt f S' (n + 1)
    | none => (n, S)
theorem swJ_y {S : TS} {i j n : Nat} (q : i / 2 ≠ j / 2 ∧ gdS S (i / 2) (i % 2) (j / 2) (j % 2)) : swJ S i (n + 1) j = some (swS S (i / 2) (i % 2) (j / 2) (j % 2)) := if_pos q
theorem swJ_n {S : TS} {i j n : Nat} (q : ¬ (i / 2 ≠ j / 2 ∧ gdS S (i / 2) (i % 2) (j / 2) (j % 2))) : swJ S i (n + 1) j = swJ S i n (j + 1) := if_neg q
theorem swI_y {S S' : TS} {i n : Nat} (q : swJ S i (2 * sC S - (i + 1)) (i + 1) = some S') : swI S (n + 1) i = some S' := by unfold swI; rw [q]
theorem swI_n {S : TS} {i n : Nat} (q : swJ S i (2 * sC S - (i + 1)) (i + 1) = none) : swI S (n + 1) i = swI S n (i + 1) := by rw [swI, q]
theorem swIt_y {S S' : TS} {f n : Nat} (q : swF S = some S') : swIt (f + 1) S n = swIt f S' (n + 1) := by rw [swIt, q]
theorem swIt_n {S : TS} {f n : Nat} (q : swF S = none) : swIt (f + 1) S n = (n, S) := by rw [swIt, q]
/-- only owners have changed -/
def fr16 (h h' : PH) : Prop := ofO 206 h h' ∧ ∀ i, 16 ≤ i → h' 206 i = h 206 i
theorem fr16_rf (h : PH) : fr16 h h := ⟨ofO_rf _ _, fun _ _ => rfl⟩
theorem fr16_tr {h h' h2 : PH} (a : fr16 h h') (b : fr16 h' h2) : fr16 h h2 := ⟨fun x hx => (b.1 x hx).trans (a.1 x hx), fun i hi => (b.2 i hi).trans (a.2 i hi)⟩
theorem fr16_w {h h' : PH} {i : Nat} {z : Int} (a : fr16 h h') (hi : i < 16) : fr16 h (hU h' 206 i z) := ⟨ofO_w a.1, fun x hx => by rw [hU_i _ _ _ (by omega)]; exact a.2 x hx⟩
section M22
variable {g : EG} {d t s : Nat} {h h1 : PH} {Q : EQ} {S : TS}
theorem lp_swJ (B : sB S) (V : mV h S) {i : Nat} (hi : i < 2 * sC S) : ∀ n j : Nat, j + n = 2 * sC S → i < j → (swJ S i n j = none → eX g 4 mX9_swapFirst 66 [(0, .ref (gA g 205)), (1, .int (zI ↑i)), (2, .int (zI ↑(2 * sC S : Nat)))] [] (tau t s) h Q) → (∀ (S2 : TS) (h2 : PH), swJ S i n j = some S2 → fr16 h h2 → mV h2 S2 → sB S2 → Q (.int (zI 1)) (tau t s) h2) → eX g 4 mX9_swapFirst 18 [(0, .ref (gA g 205)), (1, .int (zI ↑i)), (2, .int (zI ↑j))] [] (tau t s) h Q := by
  have hP8 := B.1
  have hC8 := B.2.1
  have hE10 := B.2.2.1
  have hF99 := B.2.2.2.2.2.2.1
  intro n
  induction n with
  | zero =>
    intro j hj hij kn k1
    refine eR_ildn_2 dX9_swapFirst_18 rfl ?_
    refine eR_ic dX9_swapFirst_19 ?_
    refine eR_aldn_0 dX9_swapFirst_20 rfl ?_
    refine eR_getR (i := 217) dX9_swapFirst_21 gf_X9_44 th_205 rfl ?_
    refine eR_ic dX9_swapFirst_24 ?_
    refine eR_iald (n := 1) dX9_swapFirst_25 th_217 (rfl) (by decide) (by decide) ?_
    refine eX_pcI (V.2.1) ?_
    refine eR_imul dX9_swapFirst_26 ?_
    refine eX_pcI (show (2 * ↑(sC S) : Int) = ↑(2 * sC S : Nat) from rfl) ?_
    refine eR_icmp_ge (tgt := 66) dX9_swapFirst_27 (by decide) (by first | exact rg_b01 _ | (unfold rg; omega)) (by first | exact rg_b01 _ | (unfold rg; omega)) (fun c27 => ?_) (fun c27 => absurd c27 (by omega))
    have e9 : j = 2 * sC S := by omega
    subst e9
    exact kn rfl
  | succ n ih =>
    intro j hj hij kn k1
    refine eR_ildn_2 dX9_swapFirst_18 rfl ?_
    refine eR_ic dX9_swapFirst_19 ?_
    refine eR_aldn_0 dX9_swapFirst_20 rfl ?_
    refine eR_getR (i := 217) dX9_swapFirst_21 gf_X9_44 th_205 rfl ?_
    refine eR_ic dX9_swapFirst_24 ?_
    refine eR_iald (n := 1) dX9_swapFirst_25 th_217 (rfl) (by decide) (by decide) ?_
    refine eX_pcI (V.2.1) ?_
    refine eR_imul dX9_swapFirst_26 ?_
    refine eX_pcI (show (2 * ↑(sC S) : Int) = ↑(2 * sC S : Nat) from rfl) ?_
    refine eR_icmp_ge (tgt := 66) dX9_swapFirst_27 (by decide) (by first | exact rg_b01 _ | (unfold rg; omega)) (by first | exact rg_b01 _ | (unfold rg; omega)) (fun c27 => absurd c27 (by omega)) (fun c27 => ?_)
    refine eR_ildn_1 dX9_swapFirst_30 rfl ?_
    refine eR_ic dX9_swapFirst_31 ?_
    refine eR_idiv dX9_swapFirst_32 (by first | exact rg_b01 _ | (unfold rg; omega)) (by first | exact rg_b01 _ | (unfold rg; omega)) (by omega) ?_
    refine eX_pcI (show (Int.tdiv ↑i 2 : Int) = ↑(i / 2 : Nat) from rfl) ?_
    refine eR_ildn_2 dX9_swapFirst_33 rfl ?_
    refine eR_ic dX9_swapFirst_34 ?_
    refine eR_idiv dX9_swapFirst_35 (by first | exact rg_b01 _ | (unfold rg; omega)) (by first | exact rg_b01 _ | (unfold rg; omega)) (by omega) ?_
    refine eX_pcI (show (Int.tdiv ↑j 2 : Int) = ↑(j / 2 : Nat) from rfl) ?_
    refine eR_icmp_eq (tgt := 60) dX9_swapFirst_36 (by decide) (by first | exact rg_b01 _ | (unfold rg; omega)) (by first | exact rg_b01 _ | (unfold rg; omega)) (fun c36 => ?_) (fun c36 => ?_)
    · refine eR_iinc_2 dX9_swapFirst_60 (by decide) rfl ?_
      refine eR_goto (tgt := 18) dX9_swapFirst_63 (by decide) ?_
      have e9 := swJ_n (S := S) (n := n) (i := i) (j := j) (fun q => q.1 (by omega))
      rw [e9] at kn k1
      exact ih (j + 1) (by omega) (by omega) kn k1
    · refine eR_aldn_0 dX9_swapFirst_39 rfl ?_
      refine eR_ildn_1 dX9_swapFirst_40 rfl ?_
      refine eR_ic dX9_swapFirst_41 ?_
      refine eR_idiv dX9_swapFirst_42 (by first | exact rg_b01 _ | (unfold rg; omega)) (by first | exact rg_b01 _ | (unfold rg; omega)) (by omega) ?_
      refine eX_pcI (show (Int.tdiv ↑i 2 : Int) = ↑(i / 2 : Nat) from rfl) ?_
      refine eR_ildn_1 dX9_swapFirst_43 rfl ?_
      refine eR_ic dX9_swapFirst_44 ?_
      refine eR_irem dX9_swapFirst_45 (by first | exact rg_b01 _ | (unfold rg; omega)) (by first | exact rg_b01 _ | (unfold rg; omega)) (by omega) ?_
      refine eX_pcI (show (Int.tmod ↑i 2 : Int) = ↑(i % 2 : Nat) from rfl) ?_
      refine eR_ildn_2 dX9_swapFirst_46 rfl ?_
      refine eR_ic dX9_swapFirst_47 ?_
      refine eR_idiv dX9_swapFirst_48 (by first | exact rg_b01 _ | (unfold rg; omega)) (by first | exact rg_b01 _ | (unfold rg; omega)) (by omega) ?_
      refine eX_pcI (show (Int.tdiv ↑j 2 : Int) = ↑(j / 2 : Nat) from rfl) ?_
      refine eR_ildn_2 dX9_swapFirst_49 rfl ?_
      refine eR_ic dX9_swapFirst_50 ?_
      refine eR_irem dX9_swapFirst_51 (by first | exact rg_b01 _ | (unfold rg; omega)) (by first | exact rg_b01 _ | (unfold rg; omega)) (by omega) ?_
      refine eX_pcI (show (Int.tmod ↑j 2 : Int) = ↑(j % 2 : Nat) from rfl) ?_
      refine eR_callVi [_, _, _, _] rfl dX9_swapFirst_52 ok_mX9_swaps kw_1176 rfl rfl th_205 rfl (Nat.le_of_ble_eq_true rfl) (d' := 3) (by decide) (Nat.le_of_ble_eq_true rfl) ?_
      refine sp_swaps (c := i / 2) (s1 := i % 2) (d1 := j / 2) (t1 := j % 2) B V (by omega) (by omega) (by omega) (by omega) (by omega) (fun hg => ?_) (fun hg => ?_)
      · refine eR_if_eq (tgt := 60) dX9_swapFirst_55 (by decide) (by first | exact rg_b01 _ | (unfold rg; omega)) (fun c55 => ?_) (fun c55 => absurd c55 (by decide))
        refine eR_iinc_2 dX9_swapFirst_60 (by decide) rfl ?_
        refine eR_goto (tgt := 18) dX9_swapFirst_63 (by decide) ?_
        have e9 := swJ_n (S := S) (n := n) (i := i) (j := j) (fun q => hg q.2)
        rw [e9] at kn k1
        exact ih (j + 1) (by omega) (by omega) kn k1
      · refine eR_if_eq (tgt := 60) dX9_swapFirst_55 (by decide) (by first | exact rg_b01 _ | (unfold rg; omega)) (fun c55 => absurd c55 (by decide)) (fun c55 => ?_)
        refine eR_ic dX9_swapFirst_58 ?_
        refine eR_zret dX9_swapFirst_59 rfl (by omega) ?_
        have q9 : i / 2 ≠ j / 2 ∧ gdS S (i / 2) (i % 2) (j / 2) (j % 2) := ⟨by omega, hg⟩
        refine k1 _ _ (swJ_y q9) (fr16_w (fr16_w (fr16_rf h) (by omega)) (by omega)) ?_ ?_
        · exact mV_setO (S := setO S (i / 2) (i % 2) (sO S (j / 2) (j % 2))) (mV_setO V hC8 (by omega) (by omega)) hC8 (by show j / 2 < sC S; omega) (by omega)
        · exact sB_sw B (by omega) (by omega) (by omega) (by omega) (by omega) hg.2.2.2.1 hg.2.2.2.2.1
theorem lp_swI (B : sB S) (V : mV h S) : ∀ n i : Nat, i + n = 2 * sC S → (swI S n i = none → Q (.int (zI 0)) (tau t s) h) → (∀ (S2 : TS) (h2 : PH), swI S n i = some S2 → fr16 h h2 → mV h2 S2 → sB S2 → Q (.int (zI 1)) (tau t s) h2) → eX g 4 mX9_swapFirst 2 [(0, .ref (gA g 205)), (1, .int (zI ↑i))] [] (tau t s) h Q := by
  have hP8 := B.1
  have hC8 := B.2.1
  have hE10 := B.2.2.1
  have hF99 := B.2.2.2.2.2.2.1
  intro n
  induction n with
  | zero =>
    intro i hi kn k1
    refine eR_ildn_1 dX9_swapFirst_2 rfl ?_
    refine eR_ic dX9_swapFirst_3 ?_
    refine eR_aldn_0 dX9_swapFirst_4 rfl ?_
    refine eR_getR (i := 217) dX9_swapFirst_5 gf_X9_44 th_205 rfl ?_
    refine eR_ic dX9_swapFirst_8 ?_
    refine eR_iald (n := 1) dX9_swapFirst_9 th_217 (rfl) (by decide) (by decide) ?_
    refine eX_pcI (V.2.1) ?_
    refine eR_imul dX9_swapFirst_10 ?_
    refine eX_pcI (show (2 * ↑(sC S) : Int) = ↑(2 * sC S : Nat) from rfl) ?_
    refine eR_icmp_ge (tgt := 72) dX9_swapFirst_11 (by decide) (by first | exact rg_b01 _ | (unfold rg; omega)) (by first | exact rg_b01 _ | (unfold rg; omega)) (fun c11 => ?_) (fun c11 => absurd c11 (by omega))
    refine eR_ic dX9_swapFirst_72 ?_
    refine eR_zret dX9_swapFirst_73 rfl (by omega) ?_
    exact kn rfl
  | succ n ih =>
    intro i hi kn k1
    refine eR_ildn_1 dX9_swapFirst_2 rfl ?_
    refine eR_ic dX9_swapFirst_3 ?_
    refine eR_aldn_0 dX9_swapFirst_4 rfl ?_
    refine eR_getR (i := 217) dX9_swapFirst_5 gf_X9_44 th_205 rfl ?_
    refine eR_ic dX9_swapFirst_8 ?_
    refine eR_iald (n := 1) dX9_swapFirst_9 th_217 (rfl) (by decide) (by decide) ?_
    refine eX_pcI (V.2.1) ?_
    refine eR_imul dX9_swapFirst_10 ?_
    refine eX_pcI (show (2 * ↑(sC S) : Int) = ↑(2 * sC S : Nat) from rfl) ?_
    refine eR_icmp_ge (tgt := 72) dX9_swapFirst_11 (by decide) (by first | exact rg_b01 _ | (unfold rg; omega)) (by first | exact rg_b01 _ | (unfold rg; omega)) (fun c11 => absurd c11 (by omega)) (fun c11 => ?_)
    refine eR_ildn_1 dX9_swapFirst_14 rfl ?_
    refine eR_ic dX9_swapFirst_15 ?_
    refine eR_iadd dX9_swapFirst_16 ?_
    refine eR_istn_n2 dX9_swapFirst_17 rfl (by decide) rfl ?_
    refine lp_swJ (i := i) B V (by omega) (2 * sC S - (i + 1)) (i + 1) (by omega) (by omega) (fun q9 => ?_) (fun S2 h2 q9 => k1 S2 h2 (swI_y q9))
    refine eR_iinc_1 dX9_swapFirst_66 (by decide) rfl ?_
    refine eR_goto (tgt := 2) dX9_swapFirst_69 (by decide) ?_
    refine eX_lv (lv2 := List.take 2 _) (fun q hq => List.mem_of_mem_take hq) ?_
    rw [swI_n q9] at kn k1
    exact ih (i + 1) (by omega) kn k1
theorem sp_swapFirst (B : sB S) (V : mV h S) (kn : swF S = none → Q (.int (zI 0)) (tau t s) h) (k1 : (∀ (S2 : TS) (h2 : PH), swF S = some S2 → fr16 h h2 → mV h2 S2 → sB S2 → Q (.int (zI 1)) (tau t s) h2)) : eX g 4 mX9_swapFirst 0 (lv_args 0 [.ref (gA g 205)]) [] (tau t s) h Q := by
  show eX g 4 mX9_swapFirst 0 [(0, .ref (gA g 205))] [] (tau t s) h Q
  refine eR_ic dX9_swapFirst_0 ?_
  refine eR_istn_n1 dX9_swapFirst_1 rfl (by decide) rfl ?_
  exact lp_swI B V (2 * sC S) 0 (by omega) kn k1
theorem lp_swap : ∀ (f n : Nat) (S : TS) (h : PH), n + f = 50 → sB S → mV h S → (∀ h2 : PH, fr16 h h2 → mV h2 (swIt f S n).2 → sB (swIt f S n).2 → Q (.int (zI ↑(swIt f S n).1)) (tau t s) h2) → eX g 5 mX9_swap 2 [(0, .ref (gA g 205)), (1, .int (zI ↑n))] [] (tau t s) h Q := by
  intro f
  induction f with
  | zero =>
    intro n S h hn B V k
    refine eR_ildn_1 dX9_swap_2 rfl ?_
    refine eR_bi (z := 50) dX9_swap_3 rfl ?_
    refine eR_icmp_ge (tgt := 21) dX9_swap_5 (by decide) (by first | exact rg_b01 _ | (unfold rg; omega)) (by first | exact rg_b01 _ | (unfold rg; omega)) (fun c5 => ?_) (fun c5 => absurd c5 (by omega))
    refine eR_ildn_1 dX9_swap_21 rfl ?_
    refine eR_iret dX9_swap_22 rfl rfl ?_
    exact k h (fr16_rf h) V B
  | succ f ih =>
    intro n S h hn B V k
    refine eR_ildn_1 dX9_swap_2 rfl ?_
    refine eR_bi (z := 50) dX9_swap_3 rfl ?_
    refine eR_icmp_ge (tgt := 21) dX9_swap_5 (by decide) (by first | exact rg_b01 _ | (unfold rg; omega)) (by first | exact rg_b01 _ | (unfold rg; omega)) (fun c5 => absurd c5 (by omega)) (fun c5 => ?_)
    refine eR_aldn_0 dX9_swap_8 rfl ?_
    refine eR_callVi [] rfl dX9_swap_9 ok_mX9_swapFirst kw_1172 rfl rfl th_205 rfl (Nat.le_of_ble_eq_true rfl) (d' := 4) (by decide) (Nat.le_of_ble_eq_true rfl) ?_
    refine sp_swapFirst B V (fun hg => ?_) (fun S2 h2 hg hf2 V2 B2 => ?_)
    · refine eR_if_eq (tgt := 21) dX9_swap_12 (by decide) (by first | exact rg_b01 _ | (unfold rg; omega)) (fun c12 => ?_) (fun c12 => absurd c12 (by decide))
      refine eR_ildn_1 dX9_swap_21 rfl ?_
      refine eR_iret dX9_swap_22 rfl rfl ?_
      rw [swIt_n hg] at k
      exact k h (fr16_rf h) V B
    · refine eR_if_eq (tgt := 21) dX9_swap_12 (by decide) (by first | exact rg_b01 _ | (unfold rg; omega)) (fun c12 => absurd c12 (by decide)) (fun c12 => ?_)
      refine eR_iinc_1 dX9_swap_15 (by decide) rfl ?_
      refine eR_goto (tgt := 2) dX9_swap_18 (by decide) ?_
      rw [swIt_y hg] at k
      exact ih (n + 1) S2 h2 (by omega) B2 V2 (fun h3 f3 => k h3 (fr16_tr hf2 f3))
theorem sp_swap (B : sB S) (V : mV h S) (k : ∀ h2 : PH, fr16 h h2 → mV h2 (swIt 50 S 0).2 → sB (swIt 50 S 0).2 → Q (.int (zI ↑(swIt 50 S 0).1)) (tau t s) h2) : eX g 5 mX9_swap 0 (lv_args 0 [.ref (gA g 205)]) [] (tau t s) h Q := by
  show eX g 5 mX9_swap 0 [(0, .ref (gA g 205))] [] (tau t s) h Q
  refine eR_ic dX9_swap_0 ?_
  refine eR_istn_n1 dX9_swap_1 rfl (by decide) rfl ?_
  exact lp_swap 50 0 S h (by omega) B V k
end M22
