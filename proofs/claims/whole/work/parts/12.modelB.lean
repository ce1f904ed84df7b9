theorem sB_cut {S : TS} (B : sB S) : sK S < 256 := Nat.lt_of_lt_of_le B.2.2.2.2.2.1 (Nat.pow_le_pow_right (by omega) B.2.1 : 2 ^ sC S ≤ 2 ^ 8)
/-- how many of the lowest k bits -/
def bcn (n : Nat) : Nat → Nat
  | 0 => 0
  | k + 1 => bcn n k + (if n.testBit k = true then 1 else 0)
theorem bcn_le (n k : Nat) : bcn n k ≤ k := by
  induction k with
  | zero => exact Nat.le_refl _
  | succ k ih => unfold bcn; split <;> omega
def wBy (S : TS) (p hour errs : Nat) : Nat → Nat → Int
  | 0, _ => -1
  | n + 1, e => if errs.testBit e = true ∧ sR S e 0 = p ∧ sR S e 2 ≤ hour ∧ hour ≤ sR S e 3 then (sR S e 1 : Int) else wBy S p hour errs n (e + 1)
def whereBy (S : TS) (p hour errs : Nat) : Int := wBy S p hour errs (sE S) 0
def whereIs (S : TS) (p hour : Nat) : Int := whereBy S p hour (2 ^ sE S - 1)
theorem wBy_rg {S : TS} (B : sB S) (p hour errs : Nat) : ∀ n e, e + n = sE S → -1 ≤ wBy S p hour errs n e ∧ wBy S p hour errs n e < 6 := by
  intro n
  induction n with
  | zero => intro e he; unfold wBy; omega
  | succ n ih =>
    intro e he
    unfold wBy
    split
    · have := (B.2.2.2.2.1 e (by omega)).2.1
      omega
    · exact ih (e + 1) (by omega)
theorem whereIs_rg {S : TS} (B : sB S) (p hour : Nat) : -1 ≤ whereIs S p hour ∧ whereIs S p hour < 6 := wBy_rg B p hour _ _ 0 (by omega)
theorem whereBy_rg {S : TS} (B : sB S) (p hour errs : Nat) : -1 ≤ whereBy S p hour errs ∧ whereBy S p hour errs < 6 := wBy_rg B p hour _ _ 0 (by omega)
def isOutS (S : TS) (p hour : Nat) : Prop := 0 ≤ whereIs S p hour
section M12
variable {g : EG} {d t s : Nat} {h : PH} {Q : EQ} {S : TS}
theorem lp_ones {n : Nat} (hn : n < 2147483648) (k : Q (.int (zI ↑(bcn n 24))) (tau t s) h) : ∀ j i : Nat, i + j = 24 → eX g 0 mX9_ones 4 [(0, .int (zI ↑n)), (1, .int (zI ↑(bcn n i))), (2, .int (zI ↑i))] [] (tau t s) h Q := by
  intro j
  induction j with
  | zero =>
    intro i hi
    have hb := bcn_le n i
    refine eR_ildn_2 dX9_ones_4 rfl ?_
    refine eR_bi (z := 24) dX9_ones_5 rfl ?_
    refine eR_icmp_ge (tgt := 24) dX9_ones_7 (by decide) (by first | exact rg_b01 _ | (unfold rg; omega)) (by first | exact rg_b01 _ | (unfold rg; omega)) (fun c7 => ?_) (fun c7 => absurd c7 (by omega))
    refine eR_ildn_1 dX9_ones_24 rfl ?_
    refine eR_iret dX9_ones_25 rfl rfl ?_
    have e9 : i = 24 := by omega
    subst e9
    exact k
  | succ j ih =>
    intro i hi
    have hb := bcn_le n i
    refine eR_ildn_2 dX9_ones_4 rfl ?_
    refine eR_bi (z := 24) dX9_ones_5 rfl ?_
    refine eR_icmp_ge (tgt := 24) dX9_ones_7 (by decide) (by first | exact rg_b01 _ | (unfold rg; omega)) (by first | exact rg_b01 _ | (unfold rg; omega)) (fun c7 => absurd c7 (by omega)) (fun c7 => ?_)
    refine eR_ildn_1 dX9_ones_10 rfl ?_
    refine eR_ildn_0 dX9_ones_11 rfl ?_
    refine eR_ildn_2 dX9_ones_12 rfl ?_
    refine eR_ishr dX9_ones_13 ?_
    refine eR_ic dX9_ones_14 ?_
    refine eR_iand dX9_ones_15 ?_
    refine eX_pcI (show (zAnd (zShr ↑n ↑i) 1 : Int) = (if n.testBit i = true then 1 else 0) from zBit_nat (by omega) hn) ?_
    refine eR_iadd dX9_ones_16 ?_
    refine eX_pcI (show (↑(bcn n i) + (if n.testBit i = true then 1 else 0) : Int) = ↑(bcn n (i + 1)) from by show _ = ((bcn n i + (if n.testBit i = true then 1 else 0) : Nat) : Int); split <;> rfl) ?_
    refine eR_istn_1 dX9_ones_17 rfl (by decide) rfl ?_
    refine eR_iinc_2 dX9_ones_18 (by decide) rfl ?_
    refine eR_goto (tgt := 4) dX9_ones_21 (by decide) ?_
    exact ih (i + 1) (by omega)
theorem sp_ones {n : Nat} (hn : n < 2147483648) (k : Q (.int (zI ↑(bcn n 24))) (tau t s) h) : eX g 0 mX9_ones 0 (lv_args 0 [.int (zI ↑n)]) [] (tau t s) h Q := by
  show eX g 0 mX9_ones 0 [(0, .int (zI ↑n))] [] (tau t s) h Q
  refine eR_ic dX9_ones_0 ?_
  refine eR_istn_n1 dX9_ones_1 rfl (by decide) rfl ?_
  refine eR_ic dX9_ones_2 ?_
  refine eR_istn_n2 dX9_ones_3 rfl (by decide) rfl ?_
  exact lp_ones hn k 24 0 (by omega)
theorem sp_isPerson (B : sB S) (V : mV h S) {p : Int} (hp : rg p) (k : Q (.int (zI (b01 (0 ≤ p ∧ p ≤ ↑(sP S) - 1)))) (tau t s) h) : eX g 1 mX9_isPerson 0 (lv_args 0 [.ref (gA g 205), .int (zI p)]) [] (tau t s) h Q := by
  show eX g 1 mX9_isPerson 0 [(0, .ref (gA g 205)), (1, .int (zI p))] [] (tau t s) h Q
  have hP8 := B.1
  have hC8 := B.2.1
  have hE10 := B.2.2.1
  have hF99 := B.2.2.2.2.2.2.1
  refine eR_ildn_1 dX9_isPerson_0 rfl ?_
  refine eR_i2lz dX9_isPerson_1 (by first | assumption | (unfold rg; omega)) ?_
  refine eR_lc (z := 0) dX9_isPerson_2 rfl ?_
  refine eR_aldn_0 dX9_isPerson_3 rfl ?_
  refine eR_getR (i := 217) dX9_isPerson_4 gf_X9_44 th_205 rfl ?_
  refine eR_ic dX9_isPerson_7 ?_
  refine eR_iald (n := 0) dX9_isPerson_8 th_217 (rfl) (by decide) (by decide) ?_
  refine eX_pcI (V.1) ?_
  refine eR_ic dX9_isPerson_9 ?_
  refine eR_isub dX9_isPerson_10 ?_
  refine eR_i2lz dX9_isPerson_11 (by first | assumption | (unfold rg; omega)) ?_
  refine eR_callSi [_, _, _] rfl dX9_isPerson_12 ok_mX9_in kw_952 rfl rfl (Nat.le_of_ble_eq_true rfl) (d' := 0) (by decide) (Nat.le_of_ble_eq_true rfl) ?_
  refine sp_in (by first | (unfold rL; omega) | (unfold rL; unfold rg at *; omega)) (by first | (unfold rL; omega) | (unfold rL; unfold rg at *; omega)) (by first | (unfold rL; omega) | (unfold rL; unfold rg at *; omega)) ?_
  refine eR_zret dX9_isPerson_15 rfl (b01_01 _) ?_
  exact k
theorem sp_isCoat (B : sB S) (V : mV h S) {p : Int} (hp : rg p) (k : Q (.int (zI (b01 (0 ≤ p ∧ p ≤ ↑(sC S) - 1)))) (tau t s) h) : eX g 1 mX9_isCoat 0 (lv_args 0 [.ref (gA g 205), .int (zI p)]) [] (tau t s) h Q := by
  show eX g 1 mX9_isCoat 0 [(0, .ref (gA g 205)), (1, .int (zI p))] [] (tau t s) h Q
  have hP8 := B.1
  have hC8 := B.2.1
  have hE10 := B.2.2.1
  have hF99 := B.2.2.2.2.2.2.1
  refine eR_ildn_1 dX9_isCoat_0 rfl ?_
  refine eR_i2lz dX9_isCoat_1 (by first | assumption | (unfold rg; omega)) ?_
  refine eR_lc (z := 0) dX9_isCoat_2 rfl ?_
  refine eR_aldn_0 dX9_isCoat_3 rfl ?_
  refine eR_getR (i := 217) dX9_isCoat_4 gf_X9_44 th_205 rfl ?_
  refine eR_ic dX9_isCoat_7 ?_
  refine eR_iald (n := 1) dX9_isCoat_8 th_217 (rfl) (by decide) (by decide) ?_
  refine eX_pcI (V.2.1) ?_
  refine eR_ic dX9_isCoat_9 ?_
  refine eR_isub dX9_isCoat_10 ?_
  refine eR_i2lz dX9_isCoat_11 (by first | assumption | (unfold rg; omega)) ?_
  refine eR_callSi [_, _, _] rfl dX9_isCoat_12 ok_mX9_in kw_952 rfl rfl (Nat.le_of_ble_eq_true rfl) (d' := 0) (by decide) (Nat.le_of_ble_eq_true rfl) ?_
  refine sp_in (by first | (unfold rL; omega) | (unfold rL; unfold rg at *; omega)) (by first | (unfold rL; omega) | (unfold rL; unfold rg at *; omega)) (by first | (unfold rL; omega) | (unfold rL; unfold rg at *; omega)) ?_
  refine eR_zret dX9_isCoat_15 rfl (b01_01 _) ?_
  exact k
theorem sp_isCut (B : sB S) (V : mV h S) {c : Nat} (hc : c < 31) (k : Q (.int (zI (b01 ((sK S).testBit c = true)))) (tau t s) h) : eX g 1 mX9_isCut 0 (lv_args 0 [.ref (gA g 205), .int (zI ↑c)]) [] (tau t s) h Q := by
  show eX g 1 mX9_isCut 0 [(0, .ref (gA g 205)), (1, .int (zI ↑c))] [] (tau t s) h Q
  have hk := sB_cut B
  refine eR_aldn_0 dX9_isCut_0 rfl ?_
  refine eR_getR (i := 206) dX9_isCut_1 gf_X9_7 th_205 rfl ?_
  refine eR_bi (z := 16) dX9_isCut_4 rfl ?_
  refine eR_iald (n := 16) dX9_isCut_6 th_206 (rfl) (by decide) (by decide) ?_
  refine eX_pcI (V.2.2.2.2.2.1) ?_
  refine eR_ildn_1 dX9_isCut_7 rfl ?_
  refine eR_callSi [_, _] rfl dX9_isCut_8 ok_mX9_has kw_1047 rfl rfl (Nat.le_of_ble_eq_true rfl) (d' := 0) (by decide) (Nat.le_of_ble_eq_true rfl) ?_
  refine sp_has (n := (sK S)) (k := c) (by omega) (by omega) ?_
  refine eR_zret dX9_isCut_11 rfl (b01_01 _) ?_
  exact k
theorem lp_whereBy (B : sB S) (V : mV h S) {p hour errs : Nat} (hp : p < 8) (hh : hour < 24) (hr : errs < 1024) : ∀ n e : Nat, e + n = sE S → Q (.int (zI (wBy S p hour errs n e))) (tau t s) h → eX g 1 mX9_whereBy 3 [(0, .ref (gA g 205)), (1, .int (zI ↑p)), (2, .int (zI ↑hour)), (3, .int (zI ↑errs)), (4, .int (zI ↑e))] [] (tau t s) h Q := by
  have hP8 := B.1
  have hC8 := B.2.1
  have hE10 := B.2.2.1
  have hF99 := B.2.2.2.2.2.2.1
  intro n
  induction n with
  | zero =>
    intro e he k
    refine eR_ild_4 dX9_whereBy_3 ?_
    refine eR_aldn_0 dX9_whereBy_5 rfl ?_
    refine eR_getR (i := 217) dX9_whereBy_6 gf_X9_44 th_205 rfl ?_
    refine eR_ic dX9_whereBy_9 ?_
    refine eR_iald (n := 2) dX9_whereBy_10 th_217 (rfl) (by decide) (by decide) ?_
    refine eX_pcI (V.2.2.1) ?_
    refine eR_icmp_ge (tgt := 72) dX9_whereBy_11 (by decide) (by first | exact rg_b01 _ | (unfold rg; omega)) (by first | exact rg_b01 _ | (unfold rg; omega)) (fun c11 => ?_) (fun c11 => absurd c11 (by omega))
    refine eR_ic dX9_whereBy_72 ?_
    refine eR_iret dX9_whereBy_73 rfl rfl ?_
    exact k
  | succ n ih =>
    intro e he k
    have hee := B.2.2.2.2.1 e (by omega)
    refine eR_ild_4 dX9_whereBy_3 ?_
    refine eR_aldn_0 dX9_whereBy_5 rfl ?_
    refine eR_getR (i := 217) dX9_whereBy_6 gf_X9_44 th_205 rfl ?_
    refine eR_ic dX9_whereBy_9 ?_
    refine eR_iald (n := 2) dX9_whereBy_10 th_217 (rfl) (by decide) (by decide) ?_
    refine eX_pcI (V.2.2.1) ?_
    refine eR_icmp_ge (tgt := 72) dX9_whereBy_11 (by decide) (by first | exact rg_b01 _ | (unfold rg; omega)) (by first | exact rg_b01 _ | (unfold rg; omega)) (fun c11 => absurd c11 (by omega)) (fun c11 => ?_)
    refine eR_ildn_3 dX9_whereBy_14 rfl ?_
    refine eR_ild_4 dX9_whereBy_15 ?_
    refine eR_callSi [_, _] rfl dX9_whereBy_17 ok_mX9_has kw_1047 rfl rfl (Nat.le_of_ble_eq_true rfl) (d' := 0) (by decide) (Nat.le_of_ble_eq_true rfl) ?_
    refine sp_has (n := errs) (k := e) (by omega) (by omega) ?_
    refine eR_if_eq (tgt := 66) dX9_whereBy_20 (by decide) (by first | exact rg_b01 _ | (unfold rg; omega)) (fun c20 => ?_) (fun c20 => ?_)
    · replace c20 := b01_eq0.mp c20
      refine eR_iinc_4 dX9_whereBy_66 (by decide) rfl ?_
      refine eR_goto (tgt := 3) dX9_whereBy_69 (by decide) ?_
      refine ih (e + 1) (by omega) ?_; rw [wBy, if_neg (fun q => by have q1 := q.1; have q2 := q.2.1; have q3 := q.2.2; first | contradiction | omega)] at k; exact k
    · replace c20 := b01_ne0.mp c20
      refine eR_aldn_0 dX9_whereBy_23 rfl ?_
      refine eR_getR (i := 211) dX9_whereBy_24 gf_X9_26 th_205 rfl ?_
      refine eR_ild_4 dX9_whereBy_27 ?_
      refine eR_iald (n := e) dX9_whereBy_29 th_211 (rfl) (by omega) (by decide) ?_
      refine eX_pcI ((V.2.2.2.2.1 e (by omega)).1) ?_
      refine eR_ildn_1 dX9_whereBy_30 rfl ?_
      refine eR_icmp_ne (tgt := 66) dX9_whereBy_31 (by decide) (by first | exact rg_b01 _ | (unfold rg; omega)) (by first | exact rg_b01 _ | (unfold rg; omega)) (fun c31 => ?_) (fun c31 => ?_)
      · refine eR_iinc_4 dX9_whereBy_66 (by decide) rfl ?_
        refine eR_goto (tgt := 3) dX9_whereBy_69 (by decide) ?_
        refine ih (e + 1) (by omega) ?_; rw [wBy, if_neg (fun q => by have q1 := q.1; have q2 := q.2.1; have q3 := q.2.2; first | contradiction | omega)] at k; exact k
      · refine eR_ildn_2 dX9_whereBy_34 rfl ?_
        refine eR_i2lz dX9_whereBy_35 (by first | exact rg_b01 _ | (unfold rg; omega)) ?_
        refine eR_aldn_0 dX9_whereBy_36 rfl ?_
        refine eR_getR (i := 213) dX9_whereBy_37 gf_X9_32 th_205 rfl ?_
        refine eR_ild_4 dX9_whereBy_40 ?_
        refine eR_iald (n := e) dX9_whereBy_42 th_213 (rfl) (by omega) (by decide) ?_
        refine eX_pcI ((V.2.2.2.2.1 e (by omega)).2.2.1) ?_
        refine eR_i2lz dX9_whereBy_43 (by first | exact rg_b01 _ | (unfold rg; omega)) ?_
        refine eR_aldn_0 dX9_whereBy_44 rfl ?_
        refine eR_getR (i := 214) dX9_whereBy_45 gf_X9_35 th_205 rfl ?_
        refine eR_ild_4 dX9_whereBy_48 ?_
        refine eR_iald (n := e) dX9_whereBy_50 th_214 (rfl) (by omega) (by decide) ?_
        refine eX_pcI ((V.2.2.2.2.1 e (by omega)).2.2.2) ?_
        refine eR_i2lz dX9_whereBy_51 (by first | exact rg_b01 _ | (unfold rg; omega)) ?_
        refine eR_callSi [_, _, _] rfl dX9_whereBy_52 ok_mX9_in kw_952 rfl rfl (Nat.le_of_ble_eq_true rfl) (d' := 0) (by decide) (Nat.le_of_ble_eq_true rfl) ?_
        refine sp_in (by first | (unfold rL; omega) | (unfold rL; unfold rg at *; omega)) (by first | (unfold rL; omega) | (unfold rL; unfold rg at *; omega)) (by first | (unfold rL; omega) | (unfold rL; unfold rg at *; omega)) ?_
        refine eR_if_eq (tgt := 66) dX9_whereBy_55 (by decide) (by first | exact rg_b01 _ | (unfold rg; omega)) (fun c55 => ?_) (fun c55 => ?_)
        · replace c55 := b01_eq0.mp c55
          refine eR_iinc_4 dX9_whereBy_66 (by decide) rfl ?_
          refine eR_goto (tgt := 3) dX9_whereBy_69 (by decide) ?_
          refine ih (e + 1) (by omega) ?_; rw [wBy, if_neg (fun q => by have q1 := q.1; have q2 := q.2.1; have q3 := q.2.2; first | contradiction | omega)] at k; exact k
        · replace c55 := b01_ne0.mp c55
          refine eR_aldn_0 dX9_whereBy_58 rfl ?_
          refine eR_getR (i := 212) dX9_whereBy_59 gf_X9_29 th_205 rfl ?_
          refine eR_ild_4 dX9_whereBy_62 ?_
          refine eR_iald (n := e) dX9_whereBy_64 th_212 (rfl) (by omega) (by decide) ?_
          refine eX_pcI ((V.2.2.2.2.1 e (by omega)).2.1) ?_
          refine eR_iret dX9_whereBy_65 rfl rfl ?_
          rw [wBy, if_pos ⟨by assumption, by omega, by omega, by omega⟩] at k; exact k
theorem sp_whereBy (B : sB S) (V : mV h S) {p hour errs : Nat} (hp : p < 8) (hh : hour < 24) (hr : errs < 1024) (k : Q (.int (zI (whereBy S p hour errs))) (tau t s) h) : eX g 1 mX9_whereBy 0 (lv_args 0 [.ref (gA g 205), .int (zI ↑p), .int (zI ↑hour), .int (zI ↑errs)]) [] (tau t s) h Q := by
  show eX g 1 mX9_whereBy 0 [(0, .ref (gA g 205)), (1, .int (zI ↑p)), (2, .int (zI ↑hour)), (3, .int (zI ↑errs))] [] (tau t s) h Q
  refine eR_ic dX9_whereBy_0 ?_
  refine eR_ist_n4 dX9_whereBy_1 (by decide) rfl ?_
  exact lp_whereBy B V hp hh hr (sE S) 0 (by omega) k
theorem sp_whereIs (B : sB S) (V : mV h S) {p hour : Nat} (hp : p < 8) (hh : hour < 24) (k : Q (.int (zI (whereIs S p hour))) (tau t s) h) : eX g 2 mX9_whereIs 0 (lv_args 0 [.ref (gA g 205), .int (zI ↑p), .int (zI ↑hour)]) [] (tau t s) h Q := by
  show eX g 2 mX9_whereIs 0 [(0, .ref (gA g 205)), (1, .int (zI ↑p)), (2, .int (zI ↑hour))] [] (tau t s) h Q
  have hP8 := B.1
  have hC8 := B.2.1
  have hE10 := B.2.2.1
  have hF99 := B.2.2.2.2.2.2.1
  have e2 : 2 ^ sE S ≤ 2 ^ 10 := Nat.pow_le_pow_right (by omega) hE10
  have e3 := Nat.two_pow_pos (sE S)
  refine eR_aldn_0 dX9_whereIs_0 rfl ?_
  refine eR_ildn_1 dX9_whereIs_1 rfl ?_
  refine eR_ildn_2 dX9_whereIs_2 rfl ?_
  refine eR_ic dX9_whereIs_3 ?_
  refine eR_aldn_0 dX9_whereIs_4 rfl ?_
  refine eR_getR (i := 217) dX9_whereIs_5 gf_X9_44 th_205 rfl ?_
  refine eR_ic dX9_whereIs_8 ?_
  refine eR_iald (n := 2) dX9_whereIs_9 th_217 (rfl) (by decide) (by decide) ?_
  refine eX_pcI (V.2.2.1) ?_
  refine eR_ishl dX9_whereIs_10 ?_
  refine eX_pcI (show (zShl 1 ↑(sE S) : Int) = ↑(1 * 2 ^ sE S : Nat) from zShl_nat (a := 1) (k := sE S) (by omega) (by omega)) ?_
  refine eR_ic dX9_whereIs_11 ?_
  refine eR_isub dX9_whereIs_12 ?_
  refine eX_pcI (show (↑(1 * 2 ^ sE S : Nat) - 1 : Int) = ↑(2 ^ sE S - 1 : Nat) from by omega) ?_
  refine eR_callVi [_, _, _] rfl dX9_whereIs_13 ok_mX9_whereBy kw_1043 rfl rfl th_205 rfl (Nat.le_of_ble_eq_true rfl) (d' := 1) (by decide) (Nat.le_of_ble_eq_true rfl) ?_
  refine sp_whereBy (p := p) (hour := hour) (errs := (2 ^ sE S - 1 : Nat)) B V (by omega) (by omega) (by omega) ?_
  refine eR_iret dX9_whereIs_16 rfl rfl ?_
  exact k
theorem sp_isOut (B : sB S) (V : mV h S) {p hour : Nat} (hp : p < 8) (hh : hour < 24) (k : Q (.int (zI (b01 (0 ≤ whereIs S p hour)))) (tau t s) h) : eX g 3 mX9_isOut 0 (lv_args 0 [.ref (gA g 205), .int (zI ↑p), .int (zI ↑hour)]) [] (tau t s) h Q := by
  show eX g 3 mX9_isOut 0 [(0, .ref (gA g 205)), (1, .int (zI ↑p)), (2, .int (zI ↑hour))] [] (tau t s) h Q
  have hw := whereIs_rg B p hour
  refine eR_aldn_0 dX9_isOut_0 rfl ?_
  refine eR_ildn_1 dX9_isOut_1 rfl ?_
  refine eR_ildn_2 dX9_isOut_2 rfl ?_
  refine eR_callVi [_, _] rfl dX9_isOut_3 ok_mX9_whereIs kw_1039 rfl rfl th_205 rfl (Nat.le_of_ble_eq_true rfl) (d' := 2) (by decide) (Nat.le_of_ble_eq_true rfl) ?_
  refine sp_whereIs (p := p) (hour := hour) B V (by omega) (by omega) ?_
  refine eR_if_lt (tgt := 13) dX9_isOut_6 (by decide) (by first | exact rg_b01 _ | (unfold rg; omega)) (fun c6 => ?_) (fun c6 => ?_)
  · refine eR_ic dX9_isOut_13 ?_
    refine eR_zret dX9_isOut_14 rfl (by omega) ?_
    rw [show (b01 (0 ≤ whereIs S p hour) : Int) = 0 from by first | exact b01_t (by omega) | exact b01_f (by omega)] at k; exact k
  · refine eR_ic dX9_isOut_9 ?_
    refine eR_goto (tgt := 14) dX9_isOut_10 (by decide) ?_
    refine eR_zret dX9_isOut_14 rfl (by omega) ?_
    rw [show (b01 (0 ≤ whereIs S p hour) : Int) = 1 from by first | exact b01_t (by omega) | exact b01_f (by omega)] at k; exact k
theorem mV_w {a i : Nat} {z : Int} (V : mV h S) (ha : a ≠ 206 ∧ a ≠ 210 ∧ a ≠ 211 ∧ a ≠ 212 ∧ a ≠ 213 ∧ a ≠ 214 ∧ a ≠ 215 ∧ a ≠ 217) : mV (hU h a i z) S := mV_of V (fun b hb => hU_a h i z (by omega))
end M12
