def savN (S : TS) (x : Nat) : Nat := if x < sF S then x else sF S
def spBy (S : TS) (c what : Nat) : Nat := if what = 0 then 0 else if what = 3 then 2 * savN S (sW S c / 2) else savN S (if (sK S).testBit c = true then sW S c / 2 else sW S c)
abbrev clP (S : TS) (hour c what : Nat) : Prop := ((what = 1 ∨ what = 3) → 0 ≤ whereIs S (sO S c 0) hour) ∧ (2 ≤ what → 0 ≤ whereIs S (sO S c 1) hour) ∧ (what = 3 → (sK S).testBit c = true ∨ whereIs S (sO S c 0) hour = whereIs S (sO S c 1) hour)
def clS (S : TS) (c what : Nat) : Nat := (if what = 1 ∨ what = 3 then 2 ^ sO S c 0 else 0) ||| (if 2 ≤ what then 2 ^ sO S c 1 else 0)
def clad (S : TS) (hour c what : Nat) : Int := if clP S hour c what then (clS S c what : Int) else -1
def bstW (S : TS) (hour c : Nat) (f : Nat → Nat) (set : Nat) : Nat → Nat
  | 0 => 0
  | j + 1 => if clP S hour c j ∧ clS S c j &&& set = 0 then max (bstW S hour c f set j) (spBy S c j + f (set ||| clS S c j)) else bstW S hour c f set j
def savB (S : TS) (hour : Nat) : Nat → Nat → Nat
  | 0 => fun _ => 0
  | n + 1 => fun set => bstW S hour (sC S - (n + 1)) (savB S hour n) set 4
theorem savN_le {S : TS} (B : sB S) (x : Nat) : savN S x ≤ 99 := by have := B.2.2.2.2.2.2.1; unfold savN; split <;> omega
theorem spBy_le {S : TS} (B : sB S) (c what : Nat) : spBy S c what ≤ 198 := by
  unfold spBy
  have h1 := savN_le B (sW S c / 2)
  split
  · omega
  · split
    · omega
    · have h2 := savN_le B (if (sK S).testBit c = true then sW S c / 2 else sW S c)
      omega
theorem clS_lt {S : TS} (B : sB S) {c : Nat} (hc : c < sC S) (what : Nat) : clS S c what < 256 := by
  have hP8 := B.1
  have ho := B.2.2.2.1 c hc
  have h1 : 2 ^ sO S c 0 < 2 ^ 8 := Nat.pow_lt_pow_right (by omega) (by omega)
  have h2 : 2 ^ sO S c 1 < 2 ^ 8 := Nat.pow_lt_pow_right (by omega) (by omega)
  unfold clS
  refine Nat.or_lt_two_pow (n := 8) ?_ ?_ <;> split <;> omega
theorem bstW_le {S : TS} (B : sB S) (hour c : Nat) {f : Nat → Nat} {b : Nat} (hf : ∀ x, f x ≤ b) (set j : Nat) : bstW S hour c f set j ≤ 198 + b := by
  induction j with
  | zero => exact Nat.zero_le _
  | succ j ih =>
    unfold bstW
    have h1 := spBy_le B c j
    have h2 := hf (set ||| clS S c j)
    split
    · exact Nat.max_le.mpr ⟨ih, by omega⟩
    · exact ih
theorem savB_le {S : TS} (B : sB S) (hour : Nat) : ∀ n set, savB S hour n set ≤ 198 * n := by
  intro n
  induction n with
  | zero => intro set; exact Nat.le_refl _
  | succ n ih =>
    intro set
    show bstW S hour (sC S - (n + 1)) (savB S hour n) set 4 ≤ _
    have := bstW_le B hour (sC S - (n + 1)) ih set 4
    omega
theorem savN_0 {S : TS} : savN S 0 = 0 := by unfold savN; split <;> omega
section M13
variable {g : EG} {d t s : Nat} {h h1 : PH} {Q : EQ} {S : TS}
theorem sp_saving (B : sB S) (V : mV h S) {x : Nat} (hx : x < 1000) (k : Q (.int (zI ↑(savN S x))) (tau t s) h) : eX g 0 mX9_saving 0 (lv_args 0 [.ref (gA g 205), .int (zI ↑x)]) [] (tau t s) h Q := by
  show eX g 0 mX9_saving 0 [(0, .ref (gA g 205)), (1, .int (zI ↑x))] [] (tau t s) h Q
  have hF99 := B.2.2.2.2.2.2.1
  refine eR_ildn_1 dX9_saving_0 rfl ?_
  refine eR_aldn_0 dX9_saving_1 rfl ?_
  refine eR_getR (i := 206) dX9_saving_2 gf_X9_7 th_205 rfl ?_
  refine eR_bi (z := 17) dX9_saving_5 rfl ?_
  refine eR_iald (n := 17) dX9_saving_7 th_206 (rfl) (by decide) (by decide) ?_
  refine eX_pcI (V.2.2.2.2.2.2.1) ?_
  refine eR_icmp_ge (tgt := 15) dX9_saving_8 (by decide) (by first | exact rg_b01 _ | (unfold rg; omega)) (by first | exact rg_b01 _ | (unfold rg; omega)) (fun c8 => ?_) (fun c8 => ?_)
  · refine eR_aldn_0 dX9_saving_15 rfl ?_
    refine eR_getR (i := 206) dX9_saving_16 gf_X9_7 th_205 rfl ?_
    refine eR_bi (z := 17) dX9_saving_19 rfl ?_
    refine eR_iald (n := 17) dX9_saving_21 th_206 (rfl) (by decide) (by decide) ?_
    refine eX_pcI (V.2.2.2.2.2.2.1) ?_
    refine eR_iret dX9_saving_22 rfl rfl ?_
    rw [show (↑(savN S x) : Int) = ↑(sF S) from by unfold savN; split <;> omega] at k; exact k
  · refine eR_ildn_1 dX9_saving_11 rfl ?_
    refine eR_goto (tgt := 22) dX9_saving_12 (by decide) ?_
    refine eR_iret dX9_saving_22 rfl rfl ?_
    rw [show (↑(savN S x) : Int) = ↑x from by unfold savN; split <;> omega] at k; exact k
theorem sp_savedBy (B : sB S) (V : mV h S) {c what : Nat} (hc : c < sC S) (hw : what < 4) (k : Q (.int (zI ↑(spBy S c what))) (tau t s) h) : eX g 2 mX9_savedBy 0 (lv_args 0 [.ref (gA g 205), .int (zI ↑c), .int (zI ↑what)]) [] (tau t s) h Q := by
  have hC8 := B.2.1
  have hw9 := (B.2.2.2.1 c hc).2.2.2
  rcases (show what = 0 ∨ what = 1 ∨ what = 2 ∨ what = 3 by omega) with rfl | rfl | rfl | rfl
  · show eX g 2 mX9_savedBy 0 [(0, .ref (gA g 205)), (1, .int (zI ↑c)), (2, .int (zI 0))] [] (tau t s) h Q
    refine eR_aldn_0 dX9_savedBy_0 rfl ?_
    refine eR_ildn_1 dX9_savedBy_1 rfl ?_
    refine eR_callVi [_] rfl dX9_savedBy_2 ok_mX9_isCut kw_1061 rfl rfl th_205 rfl (Nat.le_of_ble_eq_true rfl) (d' := 1) (by decide) (Nat.le_of_ble_eq_true rfl) ?_
    refine sp_isCut (c := c) B V (by omega) ?_
    refine eR_if_ne (tgt := 13) dX9_savedBy_5 (by decide) (by first | exact rg_b01 _ | (unfold rg; omega)) (fun c5 => ?_) (fun c5 => ?_)
    · replace c5 := b01_ne0.mp c5
      refine eR_ic dX9_savedBy_13 ?_
      refine eR_goto (tgt := 18) dX9_savedBy_14 (by decide) ?_
      refine eR_istn_n3 dX9_savedBy_18 rfl (by decide) rfl ?_
      refine eR_aldn_0 dX9_savedBy_19 rfl ?_
      refine eR_ildn_3 dX9_savedBy_20 rfl ?_
      refine eR_if_eq (tgt := 35) dX9_savedBy_21 (by decide) (by first | exact rg_b01 _ | (unfold rg; omega)) (fun c21 => absurd c21 (by decide)) (fun c21 => ?_)
      refine eR_aldn_0 dX9_savedBy_24 rfl ?_
      refine eR_getR (i := 210) dX9_savedBy_25 gf_X9_23 th_205 rfl ?_
      refine eR_ildn_1 dX9_savedBy_28 rfl ?_
      refine eR_iald (n := c) dX9_savedBy_29 th_210 (rfl) (by omega) (by decide) ?_
      refine eX_pcI ((V.2.2.2.1 c (by omega)).2.2) ?_
      refine eR_ic dX9_savedBy_30 ?_
      refine eR_idiv dX9_savedBy_31 (by first | exact rg_b01 _ | (unfold rg; omega)) (by first | exact rg_b01 _ | (unfold rg; omega)) (by omega) ?_
      refine eX_pcI (show (Int.tdiv ↑(sW S c) 2 : Int) = ↑(sW S c / 2) from rfl) ?_
      refine eR_goto (tgt := 41) dX9_savedBy_32 (by decide) ?_
      refine eR_callVi [_] rfl dX9_savedBy_41 ok_mX9_saving kw_1069 rfl rfl th_205 rfl (Nat.le_of_ble_eq_true rfl) (d' := 0) (by decide) (Nat.le_of_ble_eq_true rfl) ?_
      refine sp_saving (x := (sW S c / 2)) B V (by omega) ?_
      refine eR_ist_n4 dX9_savedBy_44 (by decide) rfl ?_
      refine eR_ildn_2 dX9_savedBy_46 rfl ?_
      refine eR_if_ne (tgt := 54) dX9_savedBy_47 (by decide) (by first | exact rg_b01 _ | (unfold rg; omega)) (fun c47 => absurd c47 (by decide)) (fun c47 => ?_)
      refine eR_ic dX9_savedBy_50 ?_
      refine eR_goto (tgt := 68) dX9_savedBy_51 (by decide) ?_
      refine eR_iret dX9_savedBy_68 rfl rfl ?_
      rw [show ((spBy S c 0 : Nat) : Int) = 0 from by rfl] at k; exact k
    · replace c5 := b01_eq0.mp c5
      refine eR_ildn_2 dX9_savedBy_8 rfl ?_
      refine eR_ic dX9_savedBy_9 ?_
      refine eR_icmp_ne (tgt := 17) dX9_savedBy_10 (by decide) (by first | exact rg_b01 _ | (unfold rg; omega)) (by first | exact rg_b01 _ | (unfold rg; omega)) (fun c10 => ?_) (fun c10 => absurd c10 (by decide))
      refine eR_ic dX9_savedBy_17 ?_
      refine eR_istn_n3 dX9_savedBy_18 rfl (by decide) rfl ?_
      refine eR_aldn_0 dX9_savedBy_19 rfl ?_
      refine eR_ildn_3 dX9_savedBy_20 rfl ?_
      refine eR_if_eq (tgt := 35) dX9_savedBy_21 (by decide) (by first | exact rg_b01 _ | (unfold rg; omega)) (fun c21 => ?_) (fun c21 => absurd c21 (by decide))
      refine eR_aldn_0 dX9_savedBy_35 rfl ?_
      refine eR_getR (i := 210) dX9_savedBy_36 gf_X9_23 th_205 rfl ?_
      refine eR_ildn_1 dX9_savedBy_39 rfl ?_
      refine eR_iald (n := c) dX9_savedBy_40 th_210 (rfl) (by omega) (by decide) ?_
      refine eX_pcI ((V.2.2.2.1 c (by omega)).2.2) ?_
      refine eR_callVi [_] rfl dX9_savedBy_41 ok_mX9_saving kw_1069 rfl rfl th_205 rfl (Nat.le_of_ble_eq_true rfl) (d' := 0) (by decide) (Nat.le_of_ble_eq_true rfl) ?_
      refine sp_saving (x := (sW S c)) B V (by omega) ?_
      refine eR_ist_n4 dX9_savedBy_44 (by decide) rfl ?_
      refine eR_ildn_2 dX9_savedBy_46 rfl ?_
      refine eR_if_ne (tgt := 54) dX9_savedBy_47 (by decide) (by first | exact rg_b01 _ | (unfold rg; omega)) (fun c47 => absurd c47 (by decide)) (fun c47 => ?_)
      refine eR_ic dX9_savedBy_50 ?_
      refine eR_goto (tgt := 68) dX9_savedBy_51 (by decide) ?_
      refine eR_iret dX9_savedBy_68 rfl rfl ?_
      rw [show ((spBy S c 0 : Nat) : Int) = 0 from by rfl] at k; exact k
  · show eX g 2 mX9_savedBy 0 [(0, .ref (gA g 205)), (1, .int (zI ↑c)), (2, .int (zI 1))] [] (tau t s) h Q
    refine eR_aldn_0 dX9_savedBy_0 rfl ?_
    refine eR_ildn_1 dX9_savedBy_1 rfl ?_
    refine eR_callVi [_] rfl dX9_savedBy_2 ok_mX9_isCut kw_1061 rfl rfl th_205 rfl (Nat.le_of_ble_eq_true rfl) (d' := 1) (by decide) (Nat.le_of_ble_eq_true rfl) ?_
    refine sp_isCut (c := c) B V (by omega) ?_
    refine eR_if_ne (tgt := 13) dX9_savedBy_5 (by decide) (by first | exact rg_b01 _ | (unfold rg; omega)) (fun c5 => ?_) (fun c5 => ?_)
    · replace c5 := b01_ne0.mp c5
      refine eR_ic dX9_savedBy_13 ?_
      refine eR_goto (tgt := 18) dX9_savedBy_14 (by decide) ?_
      refine eR_istn_n3 dX9_savedBy_18 rfl (by decide) rfl ?_
      refine eR_aldn_0 dX9_savedBy_19 rfl ?_
      refine eR_ildn_3 dX9_savedBy_20 rfl ?_
      refine eR_if_eq (tgt := 35) dX9_savedBy_21 (by decide) (by first | exact rg_b01 _ | (unfold rg; omega)) (fun c21 => absurd c21 (by decide)) (fun c21 => ?_)
      refine eR_aldn_0 dX9_savedBy_24 rfl ?_
      refine eR_getR (i := 210) dX9_savedBy_25 gf_X9_23 th_205 rfl ?_
      refine eR_ildn_1 dX9_savedBy_28 rfl ?_
      refine eR_iald (n := c) dX9_savedBy_29 th_210 (rfl) (by omega) (by decide) ?_
      refine eX_pcI ((V.2.2.2.1 c (by omega)).2.2) ?_
      refine eR_ic dX9_savedBy_30 ?_
      refine eR_idiv dX9_savedBy_31 (by first | exact rg_b01 _ | (unfold rg; omega)) (by first | exact rg_b01 _ | (unfold rg; omega)) (by omega) ?_
      refine eX_pcI (show (Int.tdiv ↑(sW S c) 2 : Int) = ↑(sW S c / 2) from rfl) ?_
      refine eR_goto (tgt := 41) dX9_savedBy_32 (by decide) ?_
      refine eR_callVi [_] rfl dX9_savedBy_41 ok_mX9_saving kw_1069 rfl rfl th_205 rfl (Nat.le_of_ble_eq_true rfl) (d' := 0) (by decide) (Nat.le_of_ble_eq_true rfl) ?_
      refine sp_saving (x := (sW S c / 2)) B V (by omega) ?_
      refine eR_ist_n4 dX9_savedBy_44 (by decide) rfl ?_
      refine eR_ildn_2 dX9_savedBy_46 rfl ?_
      refine eR_if_ne (tgt := 54) dX9_savedBy_47 (by decide) (by first | exact rg_b01 _ | (unfold rg; omega)) (fun c47 => ?_) (fun c47 => absurd c47 (by decide))
      refine eR_ildn_2 dX9_savedBy_54 rfl ?_
      refine eR_ic dX9_savedBy_55 ?_
      refine eR_icmp_ne (tgt := 66) dX9_savedBy_56 (by decide) (by first | exact rg_b01 _ | (unfold rg; omega)) (by first | exact rg_b01 _ | (unfold rg; omega)) (fun c56 => ?_) (fun c56 => absurd c56 (by decide))
      refine eR_ild_4 dX9_savedBy_66 ?_
      refine eR_iret dX9_savedBy_68 rfl rfl ?_
      rw [show ((spBy S c 1 : Nat) : Int) = ↑(savN S (sW S c / 2)) from by first | (unfold spBy; rw [if_neg (by decide), if_neg (by decide), if_pos (by assumption)]) | (unfold spBy; rw [if_neg (by decide), if_neg (by decide), if_neg (by assumption)])] at k; exact k
    · replace c5 := b01_eq0.mp c5
      refine eR_ildn_2 dX9_savedBy_8 rfl ?_
      refine eR_ic dX9_savedBy_9 ?_
      refine eR_icmp_ne (tgt := 17) dX9_savedBy_10 (by decide) (by first | exact rg_b01 _ | (unfold rg; omega)) (by first | exact rg_b01 _ | (unfold rg; omega)) (fun c10 => ?_) (fun c10 => absurd c10 (by decide))
      refine eR_ic dX9_savedBy_17 ?_
      refine eR_istn_n3 dX9_savedBy_18 rfl (by decide) rfl ?_
      refine eR_aldn_0 dX9_savedBy_19 rfl ?_
      refine eR_ildn_3 dX9_savedBy_20 rfl ?_
      refine eR_if_eq (tgt := 35) dX9_savedBy_21 (by decide) (by first | exact rg_b01 _ | (unfold rg; omega)) (fun c21 => ?_) (fun c21 => absurd c21 (by decide))
      refine eR_aldn_0 dX9_savedBy_35 rfl ?_
      refine eR_getR (i := 210) dX9_savedBy_36 gf_X9_23 th_205 rfl ?_
      refine eR_ildn_1 dX9_savedBy_39 rfl ?_
      refine eR_iald (n := c) dX9_savedBy_40 th_210 (rfl) (by omega) (by decide) ?_
      refine eX_pcI ((V.2.2.2.1 c (by omega)).2.2) ?_
      refine eR_callVi [_] rfl dX9_savedBy_41 ok_mX9_saving kw_1069 rfl rfl th_205 rfl (Nat.le_of_ble_eq_true rfl) (d' := 0) (by decide) (Nat.le_of_ble_eq_true rfl) ?_
      refine sp_saving (x := (sW S c)) B V (by omega) ?_
      refine eR_ist_n4 dX9_savedBy_44 (by decide) rfl ?_
      refine eR_ildn_2 dX9_savedBy_46 rfl ?_
      refine eR_if_ne (tgt := 54) dX9_savedBy_47 (by decide) (by first | exact rg_b01 _ | (unfold rg; omega)) (fun c47 => ?_) (fun c47 => absurd c47 (by decide))
      refine eR_ildn_2 dX9_savedBy_54 rfl ?_
      refine eR_ic dX9_savedBy_55 ?_
      refine eR_icmp_ne (tgt := 66) dX9_savedBy_56 (by decide) (by first | exact rg_b01 _ | (unfold rg; omega)) (by first | exact rg_b01 _ | (unfold rg; omega)) (fun c56 => ?_) (fun c56 => absurd c56 (by decide))
      refine eR_ild_4 dX9_savedBy_66 ?_
      refine eR_iret dX9_savedBy_68 rfl rfl ?_
      rw [show ((spBy S c 1 : Nat) : Int) = ↑(savN S (sW S c)) from by first | (unfold spBy; rw [if_neg (by decide), if_neg (by decide), if_pos (by assumption)]) | (unfold spBy; rw [if_neg (by decide), if_neg (by decide), if_neg (by assumption)])] at k; exact k
  · show eX g 2 mX9_savedBy 0 [(0, .ref (gA g 205)), (1, .int (zI ↑c)), (2, .int (zI 2))] [] (tau t s) h Q
    refine eR_aldn_0 dX9_savedBy_0 rfl ?_
    refine eR_ildn_1 dX9_savedBy_1 rfl ?_
    refine eR_callVi [_] rfl dX9_savedBy_2 ok_mX9_isCut kw_1061 rfl rfl th_205 rfl (Nat.le_of_ble_eq_true rfl) (d' := 1) (by decide) (Nat.le_of_ble_eq_true rfl) ?_
    refine sp_isCut (c := c) B V (by omega) ?_
    refine eR_if_ne (tgt := 13) dX9_savedBy_5 (by decide) (by first | exact rg_b01 _ | (unfold rg; omega)) (fun c5 => ?_) (fun c5 => ?_)
    · replace c5 := b01_ne0.mp c5
      refine eR_ic dX9_savedBy_13 ?_
      refine eR_goto (tgt := 18) dX9_savedBy_14 (by decide) ?_
      refine eR_istn_n3 dX9_savedBy_18 rfl (by decide) rfl ?_
      refine eR_aldn_0 dX9_savedBy_19 rfl ?_
      refine eR_ildn_3 dX9_savedBy_20 rfl ?_
      refine eR_if_eq (tgt := 35) dX9_savedBy_21 (by decide) (by first | exact rg_b01 _ | (unfold rg; omega)) (fun c21 => absurd c21 (by decide)) (fun c21 => ?_)
      refine eR_aldn_0 dX9_savedBy_24 rfl ?_
      refine eR_getR (i := 210) dX9_savedBy_25 gf_X9_23 th_205 rfl ?_
      refine eR_ildn_1 dX9_savedBy_28 rfl ?_
      refine eR_iald (n := c) dX9_savedBy_29 th_210 (rfl) (by omega) (by decide) ?_
      refine eX_pcI ((V.2.2.2.1 c (by omega)).2.2) ?_
      refine eR_ic dX9_savedBy_30 ?_
      refine eR_idiv dX9_savedBy_31 (by first | exact rg_b01 _ | (unfold rg; omega)) (by first | exact rg_b01 _ | (unfold rg; omega)) (by omega) ?_
      refine eX_pcI (show (Int.tdiv ↑(sW S c) 2 : Int) = ↑(sW S c / 2) from rfl) ?_
      refine eR_goto (tgt := 41) dX9_savedBy_32 (by decide) ?_
      refine eR_callVi [_] rfl dX9_savedBy_41 ok_mX9_saving kw_1069 rfl rfl th_205 rfl (Nat.le_of_ble_eq_true rfl) (d' := 0) (by decide) (Nat.le_of_ble_eq_true rfl) ?_
      refine sp_saving (x := (sW S c / 2)) B V (by omega) ?_
      refine eR_ist_n4 dX9_savedBy_44 (by decide) rfl ?_
      refine eR_ildn_2 dX9_savedBy_46 rfl ?_
      refine eR_if_ne (tgt := 54) dX9_savedBy_47 (by decide) (by first | exact rg_b01 _ | (unfold rg; omega)) (fun c47 => ?_) (fun c47 => absurd c47 (by decide))
      refine eR_ildn_2 dX9_savedBy_54 rfl ?_
      refine eR_ic dX9_savedBy_55 ?_
      refine eR_icmp_ne (tgt := 66) dX9_savedBy_56 (by decide) (by first | exact rg_b01 _ | (unfold rg; omega)) (by first | exact rg_b01 _ | (unfold rg; omega)) (fun c56 => ?_) (fun c56 => absurd c56 (by decide))
      refine eR_ild_4 dX9_savedBy_66 ?_
      refine eR_iret dX9_savedBy_68 rfl rfl ?_
      rw [show ((spBy S c 2 : Nat) : Int) = ↑(savN S (sW S c / 2)) from by first | (unfold spBy; rw [if_neg (by decide), if_neg (by decide), if_pos (by assumption)]) | (unfold spBy; rw [if_neg (by decide), if_neg (by decide), if_neg (by assumption)])] at k; exact k
    · replace c5 := b01_eq0.mp c5
      refine eR_ildn_2 dX9_savedBy_8 rfl ?_
      refine eR_ic dX9_savedBy_9 ?_
      refine eR_icmp_ne (tgt := 17) dX9_savedBy_10 (by decide) (by first | exact rg_b01 _ | (unfold rg; omega)) (by first | exact rg_b01 _ | (unfold rg; omega)) (fun c10 => ?_) (fun c10 => absurd c10 (by decide))
      refine eR_ic dX9_savedBy_17 ?_
      refine eR_istn_n3 dX9_savedBy_18 rfl (by decide) rfl ?_
      refine eR_aldn_0 dX9_savedBy_19 rfl ?_
      refine eR_ildn_3 dX9_savedBy_20 rfl ?_
      refine eR_if_eq (tgt := 35) dX9_savedBy_21 (by decide) (by first | exact rg_b01 _ | (unfold rg; omega)) (fun c21 => ?_) (fun c21 => absurd c21 (by decide))
      refine eR_aldn_0 dX9_savedBy_35 rfl ?_
      refine eR_getR (i := 210) dX9_savedBy_36 gf_X9_23 th_205 rfl ?_
      refine eR_ildn_1 dX9_savedBy_39 rfl ?_
      refine eR_iald (n := c) dX9_savedBy_40 th_210 (rfl) (by omega) (by decide) ?_
      refine eX_pcI ((V.2.2.2.1 c (by omega)).2.2) ?_
      refine eR_callVi [_] rfl dX9_savedBy_41 ok_mX9_saving kw_1069 rfl rfl th_205 rfl (Nat.le_of_ble_eq_true rfl) (d' := 0) (by decide) (Nat.le_of_ble_eq_true rfl) ?_
      refine sp_saving (x := (sW S c)) B V (by omega) ?_
      refine eR_ist_n4 dX9_savedBy_44 (by decide) rfl ?_
      refine eR_ildn_2 dX9_savedBy_46 rfl ?_
      refine eR_if_ne (tgt := 54) dX9_savedBy_47 (by decide) (by first | exact rg_b01 _ | (unfold rg; omega)) (fun c47 => ?_) (fun c47 => absurd c47 (by decide))
      refine eR_ildn_2 dX9_savedBy_54 rfl ?_
      refine eR_ic dX9_savedBy_55 ?_
      refine eR_icmp_ne (tgt := 66) dX9_savedBy_56 (by decide) (by first | exact rg_b01 _ | (unfold rg; omega)) (by first | exact rg_b01 _ | (unfold rg; omega)) (fun c56 => ?_) (fun c56 => absurd c56 (by decide))
      refine eR_ild_4 dX9_savedBy_66 ?_
      refine eR_iret dX9_savedBy_68 rfl rfl ?_
      rw [show ((spBy S c 2 : Nat) : Int) = ↑(savN S (sW S c)) from by first | (unfold spBy; rw [if_neg (by decide), if_neg (by decide), if_pos (by assumption)]) | (unfold spBy; rw [if_neg (by decide), if_neg (by decide), if_neg (by assumption)])] at k; exact k
  · show eX g 2 mX9_savedBy 0 [(0, .ref (gA g 205)), (1, .int (zI ↑c)), (2, .int (zI 3))] [] (tau t s) h Q
    refine eR_aldn_0 dX9_savedBy_0 rfl ?_
    refine eR_ildn_1 dX9_savedBy_1 rfl ?_
    refine eR_callVi [_] rfl dX9_savedBy_2 ok_mX9_isCut kw_1061 rfl rfl th_205 rfl (Nat.le_of_ble_eq_true rfl) (d' := 1) (by decide) (Nat.le_of_ble_eq_true rfl) ?_
    refine sp_isCut (c := c) B V (by omega) ?_
    refine eR_if_ne (tgt := 13) dX9_savedBy_5 (by decide) (by first | exact rg_b01 _ | (unfold rg; omega)) (fun c5 => ?_) (fun c5 => ?_)
    · replace c5 := b01_ne0.mp c5
      refine eR_ic dX9_savedBy_13 ?_
      refine eR_goto (tgt := 18) dX9_savedBy_14 (by decide) ?_
      refine eR_istn_n3 dX9_savedBy_18 rfl (by decide) rfl ?_
      refine eR_aldn_0 dX9_savedBy_19 rfl ?_
      refine eR_ildn_3 dX9_savedBy_20 rfl ?_
      refine eR_if_eq (tgt := 35) dX9_savedBy_21 (by decide) (by first | exact rg_b01 _ | (unfold rg; omega)) (fun c21 => absurd c21 (by decide)) (fun c21 => ?_)
      refine eR_aldn_0 dX9_savedBy_24 rfl ?_
      refine eR_getR (i := 210) dX9_savedBy_25 gf_X9_23 th_205 rfl ?_
      refine eR_ildn_1 dX9_savedBy_28 rfl ?_
      refine eR_iald (n := c) dX9_savedBy_29 th_210 (rfl) (by omega) (by decide) ?_
      refine eX_pcI ((V.2.2.2.1 c (by omega)).2.2) ?_
      refine eR_ic dX9_savedBy_30 ?_
      refine eR_idiv dX9_savedBy_31 (by first | exact rg_b01 _ | (unfold rg; omega)) (by first | exact rg_b01 _ | (unfold rg; omega)) (by omega) ?_
      refine eX_pcI (show (Int.tdiv ↑(sW S c) 2 : Int) = ↑(sW S c / 2) from rfl) ?_
      refine eR_goto (tgt := 41) dX9_savedBy_32 (by decide) ?_
      refine eR_callVi [_] rfl dX9_savedBy_41 ok_mX9_saving kw_1069 rfl rfl th_205 rfl (Nat.le_of_ble_eq_true rfl) (d' := 0) (by decide) (Nat.le_of_ble_eq_true rfl) ?_
      refine sp_saving (x := (sW S c / 2)) B V (by omega) ?_
      refine eR_ist_n4 dX9_savedBy_44 (by decide) rfl ?_
      refine eR_ildn_2 dX9_savedBy_46 rfl ?_
      refine eR_if_ne (tgt := 54) dX9_savedBy_47 (by decide) (by first | exact rg_b01 _ | (unfold rg; omega)) (fun c47 => ?_) (fun c47 => absurd c47 (by decide))
      refine eR_ildn_2 dX9_savedBy_54 rfl ?_
      refine eR_ic dX9_savedBy_55 ?_
      refine eR_icmp_ne (tgt := 66) dX9_savedBy_56 (by decide) (by first | exact rg_b01 _ | (unfold rg; omega)) (by first | exact rg_b01 _ | (unfold rg; omega)) (fun c56 => absurd c56 (by decide)) (fun c56 => ?_)
      refine eR_ic dX9_savedBy_59 ?_
      refine eR_ild_4 dX9_savedBy_60 ?_
      refine eR_imul dX9_savedBy_62 ?_
      refine eR_goto (tgt := 68) dX9_savedBy_63 (by decide) ?_
      refine eR_iret dX9_savedBy_68 rfl rfl ?_
      rw [show ((spBy S c 3 : Nat) : Int) = 2 * (↑(savN S (sW S c / 2))) from by rfl] at k; exact k
    · replace c5 := b01_eq0.mp c5
      refine eR_ildn_2 dX9_savedBy_8 rfl ?_
      refine eR_ic dX9_savedBy_9 ?_
      refine eR_icmp_ne (tgt := 17) dX9_savedBy_10 (by decide) (by first | exact rg_b01 _ | (unfold rg; omega)) (by first | exact rg_b01 _ | (unfold rg; omega)) (fun c10 => absurd c10 (by decide)) (fun c10 => ?_)
      refine eR_ic dX9_savedBy_13 ?_
      refine eR_goto (tgt := 18) dX9_savedBy_14 (by decide) ?_
      refine eR_istn_n3 dX9_savedBy_18 rfl (by decide) rfl ?_
      refine eR_aldn_0 dX9_savedBy_19 rfl ?_
      refine eR_ildn_3 dX9_savedBy_20 rfl ?_
      refine eR_if_eq (tgt := 35) dX9_savedBy_21 (by decide) (by first | exact rg_b01 _ | (unfold rg; omega)) (fun c21 => absurd c21 (by decide)) (fun c21 => ?_)
      refine eR_aldn_0 dX9_savedBy_24 rfl ?_
      refine eR_getR (i := 210) dX9_savedBy_25 gf_X9_23 th_205 rfl ?_
      refine eR_ildn_1 dX9_savedBy_28 rfl ?_
      refine eR_iald (n := c) dX9_savedBy_29 th_210 (rfl) (by omega) (by decide) ?_
      refine eX_pcI ((V.2.2.2.1 c (by omega)).2.2) ?_
      refine eR_ic dX9_savedBy_30 ?_
      refine eR_idiv dX9_savedBy_31 (by first | exact rg_b01 _ | (unfold rg; omega)) (by first | exact rg_b01 _ | (unfold rg; omega)) (by omega) ?_
      refine eX_pcI (show (Int.tdiv ↑(sW S c) 2 : Int) = ↑(sW S c / 2) from rfl) ?_
      refine eR_goto (tgt := 41) dX9_savedBy_32 (by decide) ?_
      refine eR_callVi [_] rfl dX9_savedBy_41 ok_mX9_saving kw_1069 rfl rfl th_205 rfl (Nat.le_of_ble_eq_true rfl) (d' := 0) (by decide) (Nat.le_of_ble_eq_true rfl) ?_
      refine sp_saving (x := (sW S c / 2)) B V (by omega) ?_
      refine eR_ist_n4 dX9_savedBy_44 (by decide) rfl ?_
      refine eR_ildn_2 dX9_savedBy_46 rfl ?_
      refine eR_if_ne (tgt := 54) dX9_savedBy_47 (by decide) (by first | exact rg_b01 _ | (unfold rg; omega)) (fun c47 => ?_) (fun c47 => absurd c47 (by decide))
      refine eR_ildn_2 dX9_savedBy_54 rfl ?_
      refine eR_ic dX9_savedBy_55 ?_
      refine eR_icmp_ne (tgt := 66) dX9_savedBy_56 (by decide) (by first | exact rg_b01 _ | (unfold rg; omega)) (by first | exact rg_b01 _ | (unfold rg; omega)) (fun c56 => absurd c56 (by decide)) (fun c56 => ?_)
      refine eR_ic dX9_savedBy_59 ?_
      refine eR_ild_4 dX9_savedBy_60 ?_
      refine eR_imul dX9_savedBy_62 ?_
      refine eR_goto (tgt := 68) dX9_savedBy_63 (by decide) ?_
      refine eR_iret dX9_savedBy_68 rfl rfl ?_
      rw [show ((spBy S c 3 : Nat) : Int) = 2 * (↑(savN S (sW S c / 2))) from by rfl] at k; exact k
theorem sp_cladBy (B : sB S) (V : mV h S) {c what hour : Nat} (hh : hour < 24) (hc : c < sC S) (hw : what < 4) (k : Q (.int (zI (clad S hour c what))) (tau t s) h) : eX g 4 mX9_cladBy 0 (lv_args 0 [.ref (gA g 205), .int (zI ↑hour), .int (zI ↑c), .int (zI ↑what)]) [] (tau t s) h Q := by
  have hC8 := B.2.1
  have hP8 := B.1
  have ho9 := B.2.2.2.1 c hc
  have hl1 := whereIs_rg B (sO S c 0) hour
  have hl2 := whereIs_rg B (sO S c 1) hour
  have hl3 : 2 ^ sO S c 0 ≤ 2 ^ 7 := Nat.pow_le_pow_right (by omega) (by omega)
  have hl4 : 2 ^ sO S c 1 ≤ 2 ^ 7 := Nat.pow_le_pow_right (by omega) (by omega)
  rcases (show what = 0 ∨ what = 1 ∨ what = 2 ∨ what = 3 by omega) with rfl | rfl | rfl | rfl
  · show eX g 4 mX9_cladBy 0 [(0, .ref (gA g 205)), (1, .int (zI ↑hour)), (2, .int (zI ↑c)), (3, .int (zI 0))] [] (tau t s) h Q
    refine eR_aldn_0 dX9_cladBy_0 rfl ?_
    refine eR_getR (i := 206) dX9_cladBy_1 gf_X9_7 th_205 rfl ?_
    refine eR_ildn_2 dX9_cladBy_4 rfl ?_
    refine eR_iald (n := c) dX9_cladBy_5 th_206 (rfl) (by omega) (by decide) ?_
    refine eX_pcI ((V.2.2.2.1 c (by omega)).1) ?_
    refine eR_ist_n4 dX9_cladBy_6 (by decide) rfl ?_
    refine eR_aldn_0 dX9_cladBy_8 rfl ?_
    refine eR_getR (i := 206) dX9_cladBy_9 gf_X9_7 th_205 rfl ?_
    refine eR_bi (z := 8) dX9_cladBy_12 rfl ?_
    refine eR_ildn_2 dX9_cladBy_14 rfl ?_
    refine eR_iadd dX9_cladBy_15 ?_
    refine eR_iald (n := 8 + c) dX9_cladBy_16 th_206 (by omega) (by omega) (by decide) ?_
    refine eX_pcI ((V.2.2.2.1 c (by omega)).2.1) ?_
    refine eR_ist_n5 dX9_cladBy_17 (by decide) rfl ?_
    refine eR_ildn_3 dX9_cladBy_19 rfl ?_
    refine eR_ic dX9_cladBy_20 ?_
    refine eR_icmp_eq (tgt := 29) dX9_cladBy_21 (by decide) (by first | exact rg_b01 _ | (unfold rg; omega)) (by first | exact rg_b01 _ | (unfold rg; omega)) (fun c21 => absurd c21 (by decide)) (fun c21 => ?_)
    refine eR_ildn_3 dX9_cladBy_24 rfl ?_
    refine eR_ic dX9_cladBy_25 ?_
    refine eR_icmp_ne (tgt := 33) dX9_cladBy_26 (by decide) (by first | exact rg_b01 _ | (unfold rg; omega)) (by first | exact rg_b01 _ | (unfold rg; omega)) (fun c26 => ?_) (fun c26 => absurd c26 (by decide))
    refine eR_ic dX9_cladBy_33 ?_
    refine eR_ist_n6 dX9_cladBy_34 (by decide) rfl ?_
    refine eR_ildn_3 dX9_cladBy_36 rfl ?_
    refine eR_ic dX9_cladBy_37 ?_
    refine eR_icmp_lt (tgt := 45) dX9_cladBy_38 (by decide) (by first | exact rg_b01 _ | (unfold rg; omega)) (by first | exact rg_b01 _ | (unfold rg; omega)) (fun c38 => ?_) (fun c38 => absurd c38 (by decide))
    refine eR_ic dX9_cladBy_45 ?_
    refine eR_ist_n7 dX9_cladBy_46 (by decide) rfl ?_
    refine eR_ild_6 dX9_cladBy_48 ?_
    refine eR_if_eq (tgt := 63) dX9_cladBy_50 (by decide) (by first | exact rg_b01 _ | (unfold rg; omega)) (fun c50 => ?_) (fun c50 => absurd c50 (by decide))
    refine eR_ild_7 dX9_cladBy_63 ?_
    refine eR_if_eq (tgt := 78) dX9_cladBy_65 (by decide) (by first | exact rg_b01 _ | (unfold rg; omega)) (fun c65 => ?_) (fun c65 => absurd c65 (by decide))
    refine eR_ildn_3 dX9_cladBy_78 rfl ?_
    refine eR_ic dX9_cladBy_79 ?_
    refine eR_icmp_ne (tgt := 110) dX9_cladBy_80 (by decide) (by first | exact rg_b01 _ | (unfold rg; omega)) (by first | exact rg_b01 _ | (unfold rg; omega)) (fun c80 => ?_) (fun c80 => absurd c80 (by decide))
    refine eR_ild_6 dX9_cladBy_110 ?_
    refine eR_callSi [_] rfl dX9_cladBy_112 ok_mX9_one kw_1050 rfl rfl (Nat.le_of_ble_eq_true rfl) (d' := 0) (by decide) (Nat.le_of_ble_eq_true rfl) ?_
    refine sp_one (by first | exact b01_01 _ | omega) ?_
    refine eR_ild_4 dX9_cladBy_115 ?_
    refine eR_ishl dX9_cladBy_117 ?_
    refine eX_pcI (show (zShl 0 ↑(sO S c 0) : Int) = ↑(0 * 2 ^ sO S c 0 : Nat) from zShl_nat (a := 0) (k := sO S c 0) (by omega) (by omega)) ?_
    refine eR_ild_7 dX9_cladBy_118 ?_
    refine eR_callSi [_] rfl dX9_cladBy_120 ok_mX9_one kw_1050 rfl rfl (Nat.le_of_ble_eq_true rfl) (d' := 0) (by decide) (Nat.le_of_ble_eq_true rfl) ?_
    refine sp_one (by first | exact b01_01 _ | omega) ?_
    refine eR_ild_5 dX9_cladBy_123 ?_
    refine eR_ishl dX9_cladBy_125 ?_
    refine eX_pcI (show (zShl 0 ↑(sO S c 1) : Int) = ↑(0 * 2 ^ sO S c 1 : Nat) from zShl_nat (a := 0) (k := sO S c 1) (by omega) (by omega)) ?_
    refine eR_ior dX9_cladBy_126 ?_
    refine eX_pcI (show (zOr ↑(0 * 2 ^ sO S c 0 : Nat) ↑(0 * 2 ^ sO S c 1 : Nat) : Int) = ↑(clS S c 0) from by rw [zOr_nat (by omega) (by omega)]; unfold clS; simp) ?_
    refine eR_iret dX9_cladBy_127 rfl rfl ?_
    rw [show clad S hour c 0 = ↑(clS S c 0) from (if_pos (by grind)).trans rfl] at k; exact k
  · show eX g 4 mX9_cladBy 0 [(0, .ref (gA g 205)), (1, .int (zI ↑hour)), (2, .int (zI ↑c)), (3, .int (zI 1))] [] (tau t s) h Q
    refine eR_aldn_0 dX9_cladBy_0 rfl ?_
    refine eR_getR (i := 206) dX9_cladBy_1 gf_X9_7 th_205 rfl ?_
    refine eR_ildn_2 dX9_cladBy_4 rfl ?_
    refine eR_iald (n := c) dX9_cladBy_5 th_206 (rfl) (by omega) (by decide) ?_
    refine eX_pcI ((V.2.2.2.1 c (by omega)).1) ?_
    refine eR_ist_n4 dX9_cladBy_6 (by decide) rfl ?_
    refine eR_aldn_0 dX9_cladBy_8 rfl ?_
    refine eR_getR (i := 206) dX9_cladBy_9 gf_X9_7 th_205 rfl ?_
    refine eR_bi (z := 8) dX9_cladBy_12 rfl ?_
    refine eR_ildn_2 dX9_cladBy_14 rfl ?_
    refine eR_iadd dX9_cladBy_15 ?_
    refine eR_iald (n := 8 + c) dX9_cladBy_16 th_206 (by omega) (by omega) (by decide) ?_
    refine eX_pcI ((V.2.2.2.1 c (by omega)).2.1) ?_
    refine eR_ist_n5 dX9_cladBy_17 (by decide) rfl ?_
    refine eR_ildn_3 dX9_cladBy_19 rfl ?_
    refine eR_ic dX9_cladBy_20 ?_
    refine eR_icmp_eq (tgt := 29) dX9_cladBy_21 (by decide) (by first | exact rg_b01 _ | (unfold rg; omega)) (by first | exact rg_b01 _ | (unfold rg; omega)) (fun c21 => ?_) (fun c21 => absurd c21 (by decide))
    refine eR_ic dX9_cladBy_29 ?_
    refine eR_goto (tgt := 34) dX9_cladBy_30 (by decide) ?_
    refine eR_ist_n6 dX9_cladBy_34 (by decide) rfl ?_
    refine eR_ildn_3 dX9_cladBy_36 rfl ?_
    refine eR_ic dX9_cladBy_37 ?_
    refine eR_icmp_lt (tgt := 45) dX9_cladBy_38 (by decide) (by first | exact rg_b01 _ | (unfold rg; omega)) (by first | exact rg_b01 _ | (unfold rg; omega)) (fun c38 => ?_) (fun c38 => absurd c38 (by decide))
    refine eR_ic dX9_cladBy_45 ?_
    refine eR_ist_n7 dX9_cladBy_46 (by decide) rfl ?_
    refine eR_ild_6 dX9_cladBy_48 ?_
    refine eR_if_eq (tgt := 63) dX9_cladBy_50 (by decide) (by first | exact rg_b01 _ | (unfold rg; omega)) (fun c50 => absurd c50 (by decide)) (fun c50 => ?_)
    refine eR_aldn_0 dX9_cladBy_53 rfl ?_
    refine eR_ild_4 dX9_cladBy_54 ?_
    refine eR_ildn_1 dX9_cladBy_56 rfl ?_
    refine eR_callVi [_, _] rfl dX9_cladBy_57 ok_mX9_isOut kw_1035 rfl rfl th_205 rfl (Nat.le_of_ble_eq_true rfl) (d' := 3) (by decide) (Nat.le_of_ble_eq_true rfl) ?_
    refine sp_isOut (p := (sO S c 0)) (hour := hour) B V (by omega) (by omega) ?_
    refine eR_if_eq (tgt := 108) dX9_cladBy_60 (by decide) (by first | exact rg_b01 _ | (unfold rg; omega)) (fun c60 => ?_) (fun c60 => ?_)
    · replace c60 := b01_eq0.mp c60
      refine eR_ic dX9_cladBy_108 ?_
      refine eR_iret dX9_cladBy_109 rfl rfl ?_
      rw [show clad S hour c 1 = -1 from if_neg (by grind)] at k; exact k
    · replace c60 := b01_ne0.mp c60
      refine eR_ild_7 dX9_cladBy_63 ?_
      refine eR_if_eq (tgt := 78) dX9_cladBy_65 (by decide) (by first | exact rg_b01 _ | (unfold rg; omega)) (fun c65 => ?_) (fun c65 => absurd c65 (by decide))
      refine eR_ildn_3 dX9_cladBy_78 rfl ?_
      refine eR_ic dX9_cladBy_79 ?_
      refine eR_icmp_ne (tgt := 110) dX9_cladBy_80 (by decide) (by first | exact rg_b01 _ | (unfold rg; omega)) (by first | exact rg_b01 _ | (unfold rg; omega)) (fun c80 => ?_) (fun c80 => absurd c80 (by decide))
      refine eR_ild_6 dX9_cladBy_110 ?_
      refine eR_callSi [_] rfl dX9_cladBy_112 ok_mX9_one kw_1050 rfl rfl (Nat.le_of_ble_eq_true rfl) (d' := 0) (by decide) (Nat.le_of_ble_eq_true rfl) ?_
      refine sp_one (by first | exact b01_01 _ | omega) ?_
      refine eR_ild_4 dX9_cladBy_115 ?_
      refine eR_ishl dX9_cladBy_117 ?_
      refine eX_pcI (show (zShl 1 ↑(sO S c 0) : Int) = ↑(1 * 2 ^ sO S c 0 : Nat) from zShl_nat (a := 1) (k := sO S c 0) (by omega) (by omega)) ?_
      refine eR_ild_7 dX9_cladBy_118 ?_
      refine eR_callSi [_] rfl dX9_cladBy_120 ok_mX9_one kw_1050 rfl rfl (Nat.le_of_ble_eq_true rfl) (d' := 0) (by decide) (Nat.le_of_ble_eq_true rfl) ?_
      refine sp_one (by first | exact b01_01 _ | omega) ?_
      refine eR_ild_5 dX9_cladBy_123 ?_
      refine eR_ishl dX9_cladBy_125 ?_
      refine eX_pcI (show (zShl 0 ↑(sO S c 1) : Int) = ↑(0 * 2 ^ sO S c 1 : Nat) from zShl_nat (a := 0) (k := sO S c 1) (by omega) (by omega)) ?_
      refine eR_ior dX9_cladBy_126 ?_
      refine eX_pcI (show (zOr ↑(1 * 2 ^ sO S c 0 : Nat) ↑(0 * 2 ^ sO S c 1 : Nat) : Int) = ↑(clS S c 1) from by rw [zOr_nat (by omega) (by omega)]; unfold clS; simp) ?_
      refine eR_iret dX9_cladBy_127 rfl rfl ?_
      rw [show clad S hour c 1 = ↑(clS S c 1) from (if_pos (by grind)).trans rfl] at k; exact k
  · show eX g 4 mX9_cladBy 0 [(0, .ref (gA g 205)), (1, .int (zI ↑hour)), (2, .int (zI ↑c)), (3, .int (zI 2))] [] (tau t s) h Q
    refine eR_aldn_0 dX9_cladBy_0 rfl ?_
    refine eR_getR (i := 206) dX9_cladBy_1 gf_X9_7 th_205 rfl ?_
    refine eR_ildn_2 dX9_cladBy_4 rfl ?_
    refine eR_iald (n := c) dX9_cladBy_5 th_206 (rfl) (by omega) (by decide) ?_
    refine eX_pcI ((V.2.2.2.1 c (by omega)).1) ?_
    refine eR_ist_n4 dX9_cladBy_6 (by decide) rfl ?_
    refine eR_aldn_0 dX9_cladBy_8 rfl ?_
    refine eR_getR (i := 206) dX9_cladBy_9 gf_X9_7 th_205 rfl ?_
    refine eR_bi (z := 8) dX9_cladBy_12 rfl ?_
    refine eR_ildn_2 dX9_cladBy_14 rfl ?_
    refine eR_iadd dX9_cladBy_15 ?_
    refine eR_iald (n := 8 + c) dX9_cladBy_16 th_206 (by omega) (by omega) (by decide) ?_
    refine eX_pcI ((V.2.2.2.1 c (by omega)).2.1) ?_
    refine eR_ist_n5 dX9_cladBy_17 (by decide) rfl ?_
    refine eR_ildn_3 dX9_cladBy_19 rfl ?_
    refine eR_ic dX9_cladBy_20 ?_
    refine eR_icmp_eq (tgt := 29) dX9_cladBy_21 (by decide) (by first | exact rg_b01 _ | (unfold rg; omega)) (by first | exact rg_b01 _ | (unfold rg; omega)) (fun c21 => absurd c21 (by decide)) (fun c21 => ?_)
    refine eR_ildn_3 dX9_cladBy_24 rfl ?_
    refine eR_ic dX9_cladBy_25 ?_
    refine eR_icmp_ne (tgt := 33) dX9_cladBy_26 (by decide) (by first | exact rg_b01 _ | (unfold rg; omega)) (by first | exact rg_b01 _ | (unfold rg; omega)) (fun c26 => ?_) (fun c26 => absurd c26 (by decide))
    refine eR_ic dX9_cladBy_33 ?_
    refine eR_ist_n6 dX9_cladBy_34 (by decide) rfl ?_
    refine eR_ildn_3 dX9_cladBy_36 rfl ?_
    refine eR_ic dX9_cladBy_37 ?_
    refine eR_icmp_lt (tgt := 45) dX9_cladBy_38 (by decide) (by first | exact rg_b01 _ | (unfold rg; omega)) (by first | exact rg_b01 _ | (unfold rg; omega)) (fun c38 => absurd c38 (by decide)) (fun c38 => ?_)
    refine eR_ic dX9_cladBy_41 ?_
    refine eR_goto (tgt := 46) dX9_cladBy_42 (by decide) ?_
    refine eR_ist_n7 dX9_cladBy_46 (by decide) rfl ?_
    refine eR_ild_6 dX9_cladBy_48 ?_
    refine eR_if_eq (tgt := 63) dX9_cladBy_50 (by decide) (by first | exact rg_b01 _ | (unfold rg; omega)) (fun c50 => ?_) (fun c50 => absurd c50 (by decide))
    refine eR_ild_7 dX9_cladBy_63 ?_
    refine eR_if_eq (tgt := 78) dX9_cladBy_65 (by decide) (by first | exact rg_b01 _ | (unfold rg; omega)) (fun c65 => absurd c65 (by decide)) (fun c65 => ?_)
    refine eR_aldn_0 dX9_cladBy_68 rfl ?_
    refine eR_ild_5 dX9_cladBy_69 ?_
    refine eR_ildn_1 dX9_cladBy_71 rfl ?_
    refine eR_callVi [_, _] rfl dX9_cladBy_72 ok_mX9_isOut kw_1035 rfl rfl th_205 rfl (Nat.le_of_ble_eq_true rfl) (d' := 3) (by decide) (Nat.le_of_ble_eq_true rfl) ?_
    refine sp_isOut (p := (sO S c 1)) (hour := hour) B V (by omega) (by omega) ?_
    refine eR_if_eq (tgt := 108) dX9_cladBy_75 (by decide) (by first | exact rg_b01 _ | (unfold rg; omega)) (fun c75 => ?_) (fun c75 => ?_)
    · replace c75 := b01_eq0.mp c75
      refine eR_ic dX9_cladBy_108 ?_
      refine eR_iret dX9_cladBy_109 rfl rfl ?_
      rw [show clad S hour c 2 = -1 from if_neg (by grind)] at k; exact k
    · replace c75 := b01_ne0.mp c75
      refine eR_ildn_3 dX9_cladBy_78 rfl ?_
      refine eR_ic dX9_cladBy_79 ?_
      refine eR_icmp_ne (tgt := 110) dX9_cladBy_80 (by decide) (by first | exact rg_b01 _ | (unfold rg; omega)) (by first | exact rg_b01 _ | (unfold rg; omega)) (fun c80 => ?_) (fun c80 => absurd c80 (by decide))
      refine eR_ild_6 dX9_cladBy_110 ?_
      refine eR_callSi [_] rfl dX9_cladBy_112 ok_mX9_one kw_1050 rfl rfl (Nat.le_of_ble_eq_true rfl) (d' := 0) (by decide) (Nat.le_of_ble_eq_true rfl) ?_
      refine sp_one (by first | exact b01_01 _ | omega) ?_
      refine eR_ild_4 dX9_cladBy_115 ?_
      refine eR_ishl dX9_cladBy_117 ?_
      refine eX_pcI (show (zShl 0 ↑(sO S c 0) : Int) = ↑(0 * 2 ^ sO S c 0 : Nat) from zShl_nat (a := 0) (k := sO S c 0) (by omega) (by omega)) ?_
      refine eR_ild_7 dX9_cladBy_118 ?_
      refine eR_callSi [_] rfl dX9_cladBy_120 ok_mX9_one kw_1050 rfl rfl (Nat.le_of_ble_eq_true rfl) (d' := 0) (by decide) (Nat.le_of_ble_eq_true rfl) ?_
      refine sp_one (by first | exact b01_01 _ | omega) ?_
      refine eR_ild_5 dX9_cladBy_123 ?_
      refine eR_ishl dX9_cladBy_125 ?_
      refine eX_pcI (show (zShl 1 ↑(sO S c 1) : Int) = ↑(1 * 2 ^ sO S c 1 : Nat) from zShl_nat (a := 1) (k := sO S c 1) (by omega) (by omega)) ?_
      refine eR_ior dX9_cladBy_126 ?_
      refine eX_pcI (show (zOr ↑(0 * 2 ^ sO S c 0 : Nat) ↑(1 * 2 ^ sO S c 1 : Nat) : Int) = ↑(clS S c 2) from by rw [zOr_nat (by omega) (by omega)]; unfold clS; simp) ?_
      refine eR_iret dX9_cladBy_127 rfl rfl ?_
      rw [show clad S hour c 2 = ↑(clS S c 2) from (if_pos (by grind)).trans rfl] at k; exact k
  · show eX g 4 mX9_cladBy 0 [(0, .ref (gA g 205)), (1, .int (zI ↑hour)), (2, .int (zI ↑c)), (3, .int (zI 3))] [] (tau t s) h Q
    refine eR_aldn_0 dX9_cladBy_0 rfl ?_
    refine eR_getR (i := 206) dX9_cladBy_1 gf_X9_7 th_205 rfl ?_
    refine eR_ildn_2 dX9_cladBy_4 rfl ?_
    refine eR_iald (n := c) dX9_cladBy_5 th_206 (rfl) (by omega) (by decide) ?_
    refine eX_pcI ((V.2.2.2.1 c (by omega)).1) ?_
    refine eR_ist_n4 dX9_cladBy_6 (by decide) rfl ?_
    refine eR_aldn_0 dX9_cladBy_8 rfl ?_
    refine eR_getR (i := 206) dX9_cladBy_9 gf_X9_7 th_205 rfl ?_
    refine eR_bi (z := 8) dX9_cladBy_12 rfl ?_
    refine eR_ildn_2 dX9_cladBy_14 rfl ?_
    refine eR_iadd dX9_cladBy_15 ?_
    refine eR_iald (n := 8 + c) dX9_cladBy_16 th_206 (by omega) (by omega) (by decide) ?_
    refine eX_pcI ((V.2.2.2.1 c (by omega)).2.1) ?_
    refine eR_ist_n5 dX9_cladBy_17 (by decide) rfl ?_
    refine eR_ildn_3 dX9_cladBy_19 rfl ?_
    refine eR_ic dX9_cladBy_20 ?_
    refine eR_icmp_eq (tgt := 29) dX9_cladBy_21 (by decide) (by first | exact rg_b01 _ | (unfold rg; omega)) (by first | exact rg_b01 _ | (unfold rg; omega)) (fun c21 => absurd c21 (by decide)) (fun c21 => ?_)
    refine eR_ildn_3 dX9_cladBy_24 rfl ?_
    refine eR_ic dX9_cladBy_25 ?_
    refine eR_icmp_ne (tgt := 33) dX9_cladBy_26 (by decide) (by first | exact rg_b01 _ | (unfold rg; omega)) (by first | exact rg_b01 _ | (unfold rg; omega)) (fun c26 => absurd c26 (by decide)) (fun c26 => ?_)
    refine eR_ic dX9_cladBy_29 ?_
    refine eR_goto (tgt := 34) dX9_cladBy_30 (by decide) ?_
    refine eR_ist_n6 dX9_cladBy_34 (by decide) rfl ?_
    refine eR_ildn_3 dX9_cladBy_36 rfl ?_
    refine eR_ic dX9_cladBy_37 ?_
    refine eR_icmp_lt (tgt := 45) dX9_cladBy_38 (by decide) (by first | exact rg_b01 _ | (unfold rg; omega)) (by first | exact rg_b01 _ | (unfold rg; omega)) (fun c38 => absurd c38 (by decide)) (fun c38 => ?_)
    refine eR_ic dX9_cladBy_41 ?_
    refine eR_goto (tgt := 46) dX9_cladBy_42 (by decide) ?_
    refine eR_ist_n7 dX9_cladBy_46 (by decide) rfl ?_
    refine eR_ild_6 dX9_cladBy_48 ?_
    refine eR_if_eq (tgt := 63) dX9_cladBy_50 (by decide) (by first | exact rg_b01 _ | (unfold rg; omega)) (fun c50 => absurd c50 (by decide)) (fun c50 => ?_)
    refine eR_aldn_0 dX9_cladBy_53 rfl ?_
    refine eR_ild_4 dX9_cladBy_54 ?_
    refine eR_ildn_1 dX9_cladBy_56 rfl ?_
    refine eR_callVi [_, _] rfl dX9_cladBy_57 ok_mX9_isOut kw_1035 rfl rfl th_205 rfl (Nat.le_of_ble_eq_true rfl) (d' := 3) (by decide) (Nat.le_of_ble_eq_true rfl) ?_
    refine sp_isOut (p := (sO S c 0)) (hour := hour) B V (by omega) (by omega) ?_
    refine eR_if_eq (tgt := 108) dX9_cladBy_60 (by decide) (by first | exact rg_b01 _ | (unfold rg; omega)) (fun c60 => ?_) (fun c60 => ?_)
    · replace c60 := b01_eq0.mp c60
      refine eR_ic dX9_cladBy_108 ?_
      refine eR_iret dX9_cladBy_109 rfl rfl ?_
      rw [show clad S hour c 3 = -1 from if_neg (by grind)] at k; exact k
    · replace c60 := b01_ne0.mp c60
      refine eR_ild_7 dX9_cladBy_63 ?_
      refine eR_if_eq (tgt := 78) dX9_cladBy_65 (by decide) (by first | exact rg_b01 _ | (unfold rg; omega)) (fun c65 => absurd c65 (by decide)) (fun c65 => ?_)
      refine eR_aldn_0 dX9_cladBy_68 rfl ?_
      refine eR_ild_5 dX9_cladBy_69 ?_
      refine eR_ildn_1 dX9_cladBy_71 rfl ?_
      refine eR_callVi [_, _] rfl dX9_cladBy_72 ok_mX9_isOut kw_1035 rfl rfl th_205 rfl (Nat.le_of_ble_eq_true rfl) (d' := 3) (by decide) (Nat.le_of_ble_eq_true rfl) ?_
      refine sp_isOut (p := (sO S c 1)) (hour := hour) B V (by omega) (by omega) ?_
      refine eR_if_eq (tgt := 108) dX9_cladBy_75 (by decide) (by first | exact rg_b01 _ | (unfold rg; omega)) (fun c75 => ?_) (fun c75 => ?_)
      · replace c75 := b01_eq0.mp c75
        refine eR_ic dX9_cladBy_108 ?_
        refine eR_iret dX9_cladBy_109 rfl rfl ?_
        rw [show clad S hour c 3 = -1 from if_neg (by grind)] at k; exact k
      · replace c75 := b01_ne0.mp c75
        refine eR_ildn_3 dX9_cladBy_78 rfl ?_
        refine eR_ic dX9_cladBy_79 ?_
        refine eR_icmp_ne (tgt := 110) dX9_cladBy_80 (by decide) (by first | exact rg_b01 _ | (unfold rg; omega)) (by first | exact rg_b01 _ | (unfold rg; omega)) (fun c80 => absurd c80 (by decide)) (fun c80 => ?_)
        refine eR_aldn_0 dX9_cladBy_83 rfl ?_
        refine eR_ildn_2 dX9_cladBy_84 rfl ?_
        refine eR_callVi [_] rfl dX9_cladBy_85 ok_mX9_isCut kw_1061 rfl rfl th_205 rfl (Nat.le_of_ble_eq_true rfl) (d' := 1) (by decide) (Nat.le_of_ble_eq_true rfl) ?_
        refine sp_isCut (c := c) B V (by omega) ?_
        refine eR_if_ne (tgt := 110) dX9_cladBy_88 (by decide) (by first | exact rg_b01 _ | (unfold rg; omega)) (fun c88 => ?_) (fun c88 => ?_)
        · replace c88 := b01_ne0.mp c88
          refine eR_ild_6 dX9_cladBy_110 ?_
          refine eR_callSi [_] rfl dX9_cladBy_112 ok_mX9_one kw_1050 rfl rfl (Nat.le_of_ble_eq_true rfl) (d' := 0) (by decide) (Nat.le_of_ble_eq_true rfl) ?_
          refine sp_one (by first | exact b01_01 _ | omega) ?_
          refine eR_ild_4 dX9_cladBy_115 ?_
          refine eR_ishl dX9_cladBy_117 ?_
          refine eX_pcI (show (zShl 1 ↑(sO S c 0) : Int) = ↑(1 * 2 ^ sO S c 0 : Nat) from zShl_nat (a := 1) (k := sO S c 0) (by omega) (by omega)) ?_
          refine eR_ild_7 dX9_cladBy_118 ?_
          refine eR_callSi [_] rfl dX9_cladBy_120 ok_mX9_one kw_1050 rfl rfl (Nat.le_of_ble_eq_true rfl) (d' := 0) (by decide) (Nat.le_of_ble_eq_true rfl) ?_
          refine sp_one (by first | exact b01_01 _ | omega) ?_
          refine eR_ild_5 dX9_cladBy_123 ?_
          refine eR_ishl dX9_cladBy_125 ?_
          refine eX_pcI (show (zShl 1 ↑(sO S c 1) : Int) = ↑(1 * 2 ^ sO S c 1 : Nat) from zShl_nat (a := 1) (k := sO S c 1) (by omega) (by omega)) ?_
          refine eR_ior dX9_cladBy_126 ?_
          refine eX_pcI (show (zOr ↑(1 * 2 ^ sO S c 0 : Nat) ↑(1 * 2 ^ sO S c 1 : Nat) : Int) = ↑(clS S c 3) from by rw [zOr_nat (by omega) (by omega)]; unfold clS; simp) ?_
          refine eR_iret dX9_cladBy_127 rfl rfl ?_
          rw [show clad S hour c 3 = ↑(clS S c 3) from (if_pos (by grind)).trans rfl] at k; exact k
        · replace c88 := b01_eq0.mp c88
          refine eR_aldn_0 dX9_cladBy_91 rfl ?_
          refine eR_ild_4 dX9_cladBy_92 ?_
          refine eR_ildn_1 dX9_cladBy_94 rfl ?_
          refine eR_callVi [_, _] rfl dX9_cladBy_95 ok_mX9_whereIs kw_1039 rfl rfl th_205 rfl (Nat.le_of_ble_eq_true rfl) (d' := 2) (by decide) (Nat.le_of_ble_eq_true rfl) ?_
          refine sp_whereIs (p := (sO S c 0)) (hour := hour) B V (by omega) (by omega) ?_
          refine eR_aldn_0 dX9_cladBy_98 rfl ?_
          refine eR_ild_5 dX9_cladBy_99 ?_
          refine eR_ildn_1 dX9_cladBy_101 rfl ?_
          refine eR_callVi [_, _] rfl dX9_cladBy_102 ok_mX9_whereIs kw_1039 rfl rfl th_205 rfl (Nat.le_of_ble_eq_true rfl) (d' := 2) (by decide) (Nat.le_of_ble_eq_true rfl) ?_
          refine sp_whereIs (p := (sO S c 1)) (hour := hour) B V (by omega) (by omega) ?_
          refine eR_icmp_eq (tgt := 110) dX9_cladBy_105 (by decide) (by first | exact rg_b01 _ | (unfold rg; omega)) (by first | exact rg_b01 _ | (unfold rg; omega)) (fun c105 => ?_) (fun c105 => ?_)
          · refine eR_ild_6 dX9_cladBy_110 ?_
            refine eR_callSi [_] rfl dX9_cladBy_112 ok_mX9_one kw_1050 rfl rfl (Nat.le_of_ble_eq_true rfl) (d' := 0) (by decide) (Nat.le_of_ble_eq_true rfl) ?_
            refine sp_one (by first | exact b01_01 _ | omega) ?_
            refine eR_ild_4 dX9_cladBy_115 ?_
            refine eR_ishl dX9_cladBy_117 ?_
            refine eX_pcI (show (zShl 1 ↑(sO S c 0) : Int) = ↑(1 * 2 ^ sO S c 0 : Nat) from zShl_nat (a := 1) (k := sO S c 0) (by omega) (by omega)) ?_
            refine eR_ild_7 dX9_cladBy_118 ?_
            refine eR_callSi [_] rfl dX9_cladBy_120 ok_mX9_one kw_1050 rfl rfl (Nat.le_of_ble_eq_true rfl) (d' := 0) (by decide) (Nat.le_of_ble_eq_true rfl) ?_
            refine sp_one (by first | exact b01_01 _ | omega) ?_
            refine eR_ild_5 dX9_cladBy_123 ?_
            refine eR_ishl dX9_cladBy_125 ?_
            refine eX_pcI (show (zShl 1 ↑(sO S c 1) : Int) = ↑(1 * 2 ^ sO S c 1 : Nat) from zShl_nat (a := 1) (k := sO S c 1) (by omega) (by omega)) ?_
            refine eR_ior dX9_cladBy_126 ?_
            refine eX_pcI (show (zOr ↑(1 * 2 ^ sO S c 0 : Nat) ↑(1 * 2 ^ sO S c 1 : Nat) : Int) = ↑(clS S c 3) from by rw [zOr_nat (by omega) (by omega)]; unfold clS; simp) ?_
            refine eR_iret dX9_cladBy_127 rfl rfl ?_
            rw [show clad S hour c 3 = ↑(clS S c 3) from (if_pos (by grind)).trans rfl] at k; exact k
          · refine eR_ic dX9_cladBy_108 ?_
            refine eR_iret dX9_cladBy_109 rfl rfl ?_
            rw [show clad S hour c 3 = -1 from if_neg (by grind)] at k; exact k
def outN (S : TS) (hour : Nat) : Nat → Nat
  | 0 => 0
  | p + 1 => outN S hour p + (if 0 ≤ whereIs S p hour then 1 else 0)
theorem outN_le (S : TS) (hour p : Nat) : outN S hour p ≤ p := by
  induction p with
  | zero => exact Nat.le_refl _
  | succ p ih => unfold outN; split <;> omega
theorem lp_outMany (B : sB S) (V : mV h S) {hour : Nat} (hh : hour < 24) (k : Q (.int (zI ↑(outN S hour (sP S)))) (tau t s) h) : ∀ n p : Nat, p + n = sP S → eX g 4 mX9_outMany 4 [(0, .ref (gA g 205)), (1, .int (zI ↑hour)), (2, .int (zI ↑(outN S hour p))), (3, .int (zI ↑p))] [] (tau t s) h Q := by
  have hP8 := B.1
  have hC8 := B.2.1
  have hE10 := B.2.2.1
  have hF99 := B.2.2.2.2.2.2.1
  intro n
  induction n with
  | zero =>
    intro p hp
    have hb := outN_le S hour p
    refine eR_ildn_3 dX9_outMany_4 rfl ?_
    refine eR_aldn_0 dX9_outMany_5 rfl ?_
    refine eR_getR (i := 217) dX9_outMany_6 gf_X9_44 th_205 rfl ?_
    refine eR_ic dX9_outMany_9 ?_
    refine eR_iald (n := 0) dX9_outMany_10 th_217 (rfl) (by decide) (by decide) ?_
    refine eX_pcI (V.1) ?_
    refine eR_icmp_ge (tgt := 32) dX9_outMany_11 (by decide) (by first | exact rg_b01 _ | (unfold rg; omega)) (by first | exact rg_b01 _ | (unfold rg; omega)) (fun c11 => ?_) (fun c11 => absurd c11 (by omega))
    refine eR_ildn_2 dX9_outMany_32 rfl ?_
    refine eR_iret dX9_outMany_33 rfl rfl ?_
    have e9 : p = sP S := by omega
    subst e9
    exact k
  | succ n ih =>
    intro p hp
    have hb := outN_le S hour p
    refine eR_ildn_3 dX9_outMany_4 rfl ?_
    refine eR_aldn_0 dX9_outMany_5 rfl ?_
    refine eR_getR (i := 217) dX9_outMany_6 gf_X9_44 th_205 rfl ?_
    refine eR_ic dX9_outMany_9 ?_
    refine eR_iald (n := 0) dX9_outMany_10 th_217 (rfl) (by decide) (by decide) ?_
    refine eX_pcI (V.1) ?_
    refine eR_icmp_ge (tgt := 32) dX9_outMany_11 (by decide) (by first | exact rg_b01 _ | (unfold rg; omega)) (by first | exact rg_b01 _ | (unfold rg; omega)) (fun c11 => absurd c11 (by omega)) (fun c11 => ?_)
    refine eR_ildn_2 dX9_outMany_14 rfl ?_
    refine eR_aldn_0 dX9_outMany_15 rfl ?_
    refine eR_ildn_3 dX9_outMany_16 rfl ?_
    refine eR_ildn_1 dX9_outMany_17 rfl ?_
    refine eR_callVi [_, _] rfl dX9_outMany_18 ok_mX9_isOut kw_1035 rfl rfl th_205 rfl (Nat.le_of_ble_eq_true rfl) (d' := 3) (by decide) (Nat.le_of_ble_eq_true rfl) ?_
    refine sp_isOut (p := p) (hour := hour) B V (by omega) (by omega) ?_
    refine eR_callSi [_] rfl dX9_outMany_21 ok_mX9_one kw_1050 rfl rfl (Nat.le_of_ble_eq_true rfl) (d' := 0) (by decide) (Nat.le_of_ble_eq_true rfl) ?_
    refine sp_one (by first | exact b01_01 _ | omega) ?_
    refine eR_iadd dX9_outMany_24 ?_
    refine eX_pcI (show (↑(outN S hour p) + (b01 (0 ≤ whereIs S p hour)) : Int) = ↑(outN S hour (p + 1)) from by unfold b01; show _ = ((outN S hour p + (if 0 ≤ whereIs S p hour then 1 else 0) : Nat) : Int); split <;> rfl) ?_
    refine eR_istn_2 dX9_outMany_25 rfl (by decide) rfl ?_
    refine eR_iinc_3 dX9_outMany_26 (by decide) rfl ?_
    refine eR_goto (tgt := 4) dX9_outMany_29 (by decide) ?_
    exact ih (p + 1) (by omega)
theorem sp_outMany (B : sB S) (V : mV h S) {hour : Nat} (hh : hour < 24) (k : Q (.int (zI ↑(outN S hour (sP S)))) (tau t s) h) : eX g 4 mX9_outMany 0 (lv_args 0 [.ref (gA g 205), .int (zI ↑hour)]) [] (tau t s) h Q := by
  show eX g 4 mX9_outMany 0 [(0, .ref (gA g 205)), (1, .int (zI ↑hour))] [] (tau t s) h Q
  refine eR_ic dX9_outMany_0 ?_
  refine eR_istn_n2 dX9_outMany_1 rfl (by decide) rfl ?_
  refine eR_ic dX9_outMany_2 ?_
  refine eR_istn_n3 dX9_outMany_3 rfl (by decide) rfl ?_
  exact lp_outMany B V hh k (sP S) 0 (by omega)
theorem sp_canBuy (B : sB S) (V : mV h S) {c p : Nat} (hc : c < sC S) (hp : p < 8) (k : Q (.int (zI (b01 (¬ (sK S).testBit c = true ∧ sO S c 0 ≠ p ∧ sO S c 1 ≠ p)))) (tau t s) h) : eX g 2 mX9_canBuy 0 (lv_args 0 [.ref (gA g 205), .int (zI ↑c), .int (zI ↑p)]) [] (tau t s) h Q := by
  show eX g 2 mX9_canBuy 0 [(0, .ref (gA g 205)), (1, .int (zI ↑c)), (2, .int (zI ↑p))] [] (tau t s) h Q
  have hC8 := B.2.1
  have hP8 := B.1
  have ho9 := B.2.2.2.1 c hc
  refine eR_aldn_0 dX9_canBuy_0 rfl ?_
  refine eR_ildn_1 dX9_canBuy_1 rfl ?_
  refine eR_callVi [_] rfl dX9_canBuy_2 ok_mX9_isCut kw_1061 rfl rfl th_205 rfl (Nat.le_of_ble_eq_true rfl) (d' := 1) (by decide) (Nat.le_of_ble_eq_true rfl) ?_
  refine sp_isCut (c := c) B V (by omega) ?_
  refine eR_if_ne (tgt := 35) dX9_canBuy_5 (by decide) (by first | exact rg_b01 _ | (unfold rg; omega)) (fun c5 => ?_) (fun c5 => ?_)
  · replace c5 := b01_ne0.mp c5
    refine eR_ic dX9_canBuy_35 ?_
    refine eR_zret dX9_canBuy_36 rfl (by omega) ?_
    rw [show (b01 (¬ (sK S).testBit c = true ∧ sO S c 0 ≠ p ∧ sO S c 1 ≠ p) : Int) = 0 from by first | exact b01_t (by grind) | exact b01_f (by grind)] at k; exact k
  · replace c5 := b01_eq0.mp c5
    refine eR_aldn_0 dX9_canBuy_8 rfl ?_
    refine eR_getR (i := 206) dX9_canBuy_9 gf_X9_7 th_205 rfl ?_
    refine eR_ildn_1 dX9_canBuy_12 rfl ?_
    refine eR_iald (n := c) dX9_canBuy_13 th_206 (rfl) (by omega) (by decide) ?_
    refine eX_pcI ((V.2.2.2.1 c (by omega)).1) ?_
    refine eR_ildn_2 dX9_canBuy_14 rfl ?_
    refine eR_icmp_eq (tgt := 35) dX9_canBuy_15 (by decide) (by first | exact rg_b01 _ | (unfold rg; omega)) (by first | exact rg_b01 _ | (unfold rg; omega)) (fun c15 => ?_) (fun c15 => ?_)
    · refine eR_ic dX9_canBuy_35 ?_
      refine eR_zret dX9_canBuy_36 rfl (by omega) ?_
      rw [show (b01 (¬ (sK S).testBit c = true ∧ sO S c 0 ≠ p ∧ sO S c 1 ≠ p) : Int) = 0 from by first | exact b01_t (by grind) | exact b01_f (by grind)] at k; exact k
    · refine eR_aldn_0 dX9_canBuy_18 rfl ?_
      refine eR_getR (i := 206) dX9_canBuy_19 gf_X9_7 th_205 rfl ?_
      refine eR_bi (z := 8) dX9_canBuy_22 rfl ?_
      refine eR_ildn_1 dX9_canBuy_24 rfl ?_
      refine eR_iadd dX9_canBuy_25 ?_
      refine eR_iald (n := 8 + c) dX9_canBuy_26 th_206 (by omega) (by omega) (by decide) ?_
      refine eX_pcI ((V.2.2.2.1 c (by omega)).2.1) ?_
      refine eR_ildn_2 dX9_canBuy_27 rfl ?_
      refine eR_icmp_eq (tgt := 35) dX9_canBuy_28 (by decide) (by first | exact rg_b01 _ | (unfold rg; omega)) (by first | exact rg_b01 _ | (unfold rg; omega)) (fun c28 => ?_) (fun c28 => ?_)
      · refine eR_ic dX9_canBuy_35 ?_
        refine eR_zret dX9_canBuy_36 rfl (by omega) ?_
        rw [show (b01 (¬ (sK S).testBit c = true ∧ sO S c 0 ≠ p ∧ sO S c 1 ≠ p) : Int) = 0 from by first | exact b01_t (by grind) | exact b01_f (by grind)] at k; exact k
      · refine eR_ic dX9_canBuy_31 ?_
        refine eR_goto (tgt := 36) dX9_canBuy_32 (by decide) ?_
        refine eR_zret dX9_canBuy_36 rfl (by omega) ?_
        rw [show (b01 (¬ (sK S).testBit c = true ∧ sO S c 0 ≠ p ∧ sO S c 1 ≠ p) : Int) = 1 from by first | exact b01_t (by grind) | exact b01_f (by grind)] at k; exact k
end M13
