/-- n sightings: COAT, PLACE, HOUR -/
def sgV (h : PH) (n : Nat) (sg : Nat → Nat → Nat) : Prop := h 205 26 = (n : Int) ∧ ∀ i, i < n → h 222 (3 * i) = (sg i 0 : Int) ∧ h 222 (3 * i + 1) = (sg i 1 : Int) ∧ h 222 (3 * i + 2) = (sg i 2 : Int)
def sgB (S : TS) (n : Nat) (sg : Nat → Nat → Nat) : Prop := n ≤ 30 ∧ ∀ i, i < n → sg i 0 < sC S ∧ sg i 1 < 6 ∧ sg i 2 < 24
def woS (S : TS) (sg : Nat → Nat → Nat) (i : Nat) : Nat := (if whereIs S (sO S (sg i 0) 0) (sg i 2) = (sg i 1 : Int) then 2 ^ sO S (sg i 0) 0 else 0) ||| (if whereIs S (sO S (sg i 0) 1) (sg i 2) = (sg i 1 : Int) then 2 ^ sO S (sg i 0) 1 else 0)
def rWore (S : TS) (n : Nat) (sg : Nat → Nat → Nat) (i : Int) : Int := if 0 ≤ i ∧ i ≤ (n : Int) - 1 then (woS S sg i.toNat : Int) else -1000000001
def elsB (sg : Nat → Nat → Nat) (i : Nat) : Nat → Bool
  | 0 => false
  | k + 1 => elsB sg i k || (decide (sg k 0 = sg i 0) && decide (sg k 2 = sg i 2) && decide (sg k 1 ≠ sg i 1))
abbrev thfP (S : TS) (sg : Nat → Nat → Nat) (i : Nat) : Prop := woS S sg i = 0 ∨ elsB sg i i = true
def thfN (S : TS) (sg : Nat → Nat → Nat) : Nat → Nat → Int
  | 0, _ => -1
  | n + 1, i => if thfP S sg i then (i : Int) else thfN S sg n (i + 1)
theorem woS_lt {S : TS} (B : sB S) {n i : Nat} {sg : Nat → Nat → Nat} (G : sgB S n sg) (hi : i < n) : woS S sg i < 256 := by
  have hP8 := B.1
  have ho := B.2.2.2.1 _ (G.2 i hi).1
  have h1 : 2 ^ sO S (sg i 0) 0 < 2 ^ 8 := Nat.pow_lt_pow_right (by omega) (by omega)
  have h2 : 2 ^ sO S (sg i 0) 1 < 2 ^ 8 := Nat.pow_lt_pow_right (by omega) (by omega)
  unfold woS
  refine Nat.or_lt_two_pow (n := 8) ?_ ?_ <;> split <;> omega
section M27
variable {g : EG} {d t s : Nat} {h h1 : PH} {Q : EQ} {S : TS}
theorem sp_woreAt (B : sB S) (V : mV h S) {n : Nat} {sg : Nat → Nat → Nat} (G : sgB S n sg) (GV : sgV h n sg) {i : Nat} (hi : i < n) (k : Q (.int (zI ↑(woS S sg i))) (tau t s) h) : eX g 3 mX9_woreAt 0 (lv_args 0 [.ref (gA g 205), .int (zI ↑i)]) [] (tau t s) h Q := by
  show eX g 3 mX9_woreAt 0 [(0, .ref (gA g 205)), (1, .int (zI ↑i))] [] (tau t s) h Q
  have hP8 := B.1
  have hC8 := B.2.1
  have hE10 := B.2.2.1
  have hF99 := B.2.2.2.2.2.2.1
  have hg9 := G.1
  have hg8 := G.2 i hi
  have ho9 := B.2.2.2.1 _ hg8.1
  have hl3 : 2 ^ sO S (sg i 0) 0 ≤ 2 ^ 7 := Nat.pow_le_pow_right (by omega) (by omega)
  have hl4 : 2 ^ sO S (sg i 0) 1 ≤ 2 ^ 7 := Nat.pow_le_pow_right (by omega) (by omega)
  have hw1 := whereIs_rg B (sO S (sg i 0) 0) (sg i 2)
  have hw2 := whereIs_rg B (sO S (sg i 0) 1) (sg i 2)
  refine eR_aldn_0 dX9_woreAt_0 rfl ?_
  refine eR_getR (i := 222) dX9_woreAt_1 gf_X9_63 th_205 rfl ?_
  refine eR_ic dX9_woreAt_4 ?_
  refine eR_ildn_1 dX9_woreAt_5 rfl ?_
  refine eR_imul dX9_woreAt_6 ?_
  refine eR_iald (n := 3 * i) dX9_woreAt_7 th_222 (by omega) (by omega) (by decide) ?_
  refine eX_pcI ((GV.2 i (by omega)).1) ?_
  refine eR_istn_n2 dX9_woreAt_8 rfl (by decide) rfl ?_
  refine eR_aldn_0 dX9_woreAt_9 rfl ?_
  refine eR_getR (i := 222) dX9_woreAt_10 gf_X9_63 th_205 rfl ?_
  refine eR_ic dX9_woreAt_13 ?_
  refine eR_ildn_1 dX9_woreAt_14 rfl ?_
  refine eR_imul dX9_woreAt_15 ?_
  refine eR_ic dX9_woreAt_16 ?_
  refine eR_iadd dX9_woreAt_17 ?_
  refine eR_iald (n := 3 * i + 2) dX9_woreAt_18 th_222 (by omega) (by omega) (by decide) ?_
  refine eX_pcI ((GV.2 i (by omega)).2.2) ?_
  refine eR_istn_n3 dX9_woreAt_19 rfl (by decide) rfl ?_
  refine eR_aldn_0 dX9_woreAt_20 rfl ?_
  refine eR_aldn_0 dX9_woreAt_21 rfl ?_
  refine eR_getR (i := 206) dX9_woreAt_22 gf_X9_7 th_205 rfl ?_
  refine eR_ildn_2 dX9_woreAt_25 rfl ?_
  refine eR_iald (n := (sg i 0)) dX9_woreAt_26 th_206 (rfl) (by omega) (by decide) ?_
  refine eX_pcI ((V.2.2.2.1 (sg i 0) (by omega)).1) ?_
  refine eR_ildn_3 dX9_woreAt_27 rfl ?_
  refine eR_callVi [_, _] rfl dX9_woreAt_28 ok_mX9_whereIs kw_1039 rfl rfl th_205 rfl (Nat.le_of_ble_eq_true rfl) (d' := 2) (by decide) (Nat.le_of_ble_eq_true rfl) ?_
  refine sp_whereIs (p := (sO S (sg i 0) 0)) (hour := (sg i 2)) B V (by omega) (by omega) ?_
  refine eR_aldn_0 dX9_woreAt_31 rfl ?_
  refine eR_getR (i := 222) dX9_woreAt_32 gf_X9_63 th_205 rfl ?_
  refine eR_ic dX9_woreAt_35 ?_
  refine eR_ildn_1 dX9_woreAt_36 rfl ?_
  refine eR_imul dX9_woreAt_37 ?_
  refine eR_ic dX9_woreAt_38 ?_
  refine eR_iadd dX9_woreAt_39 ?_
  refine eR_iald (n := 3 * i + 1) dX9_woreAt_40 th_222 (by omega) (by omega) (by decide) ?_
  refine eX_pcI ((GV.2 i (by omega)).2.1) ?_
  refine eR_icmp_ne (tgt := 48) dX9_woreAt_41 (by decide) (by first | exact rg_b01 _ | (unfold rg; omega)) (by first | exact rg_b01 _ | (unfold rg; omega)) (fun c41 => ?_) (fun c41 => ?_)
  · refine eR_ic dX9_woreAt_48 ?_
    refine eR_callSi [_] rfl dX9_woreAt_49 ok_mX9_one kw_1050 rfl rfl (Nat.le_of_ble_eq_true rfl) (d' := 0) (by decide) (Nat.le_of_ble_eq_true rfl) ?_
    refine sp_one (by first | exact b01_01 _ | omega) ?_
    refine eR_aldn_0 dX9_woreAt_52 rfl ?_
    refine eR_getR (i := 206) dX9_woreAt_53 gf_X9_7 th_205 rfl ?_
    refine eR_ildn_2 dX9_woreAt_56 rfl ?_
    refine eR_iald (n := (sg i 0)) dX9_woreAt_57 th_206 (rfl) (by omega) (by decide) ?_
    refine eX_pcI ((V.2.2.2.1 (sg i 0) (by omega)).1) ?_
    refine eR_ishl dX9_woreAt_58 ?_
    refine eX_pcI (show (zShl 0 (↑(sO S (sg i 0) 0)) : Int) = ↑(0 : Nat) from by have := zShl_nat (a := 0) (k := sO S (sg i 0) 0) (by omega) (by omega); rw [Nat.zero_mul] at this; exact this) ?_
    refine eR_ist_n4 dX9_woreAt_59 (by decide) rfl ?_
    refine eR_ild_4 dX9_woreAt_61 ?_
    refine eR_aldn_0 dX9_woreAt_63 rfl ?_
    refine eR_aldn_0 dX9_woreAt_64 rfl ?_
    refine eR_getR (i := 206) dX9_woreAt_65 gf_X9_7 th_205 rfl ?_
    refine eR_bi (z := 8) dX9_woreAt_68 rfl ?_
    refine eR_ildn_2 dX9_woreAt_70 rfl ?_
    refine eR_iadd dX9_woreAt_71 ?_
    refine eR_iald (n := 8 + (sg i 0)) dX9_woreAt_72 th_206 (by omega) (by omega) (by decide) ?_
    refine eX_pcI ((V.2.2.2.1 (sg i 0) (by omega)).2.1) ?_
    refine eR_ildn_3 dX9_woreAt_73 rfl ?_
    refine eR_callVi [_, _] rfl dX9_woreAt_74 ok_mX9_whereIs kw_1039 rfl rfl th_205 rfl (Nat.le_of_ble_eq_true rfl) (d' := 2) (by decide) (Nat.le_of_ble_eq_true rfl) ?_
    refine sp_whereIs (p := (sO S (sg i 0) 1)) (hour := (sg i 2)) B V (by omega) (by omega) ?_
    refine eR_aldn_0 dX9_woreAt_77 rfl ?_
    refine eR_getR (i := 222) dX9_woreAt_78 gf_X9_63 th_205 rfl ?_
    refine eR_ic dX9_woreAt_81 ?_
    refine eR_ildn_1 dX9_woreAt_82 rfl ?_
    refine eR_imul dX9_woreAt_83 ?_
    refine eR_ic dX9_woreAt_84 ?_
    refine eR_iadd dX9_woreAt_85 ?_
    refine eR_iald (n := 3 * i + 1) dX9_woreAt_86 th_222 (by omega) (by omega) (by decide) ?_
    refine eX_pcI ((GV.2 i (by omega)).2.1) ?_
    refine eR_icmp_ne (tgt := 94) dX9_woreAt_87 (by decide) (by first | exact rg_b01 _ | (unfold rg; omega)) (by first | exact rg_b01 _ | (unfold rg; omega)) (fun c87 => ?_) (fun c87 => ?_)
    · refine eR_ic dX9_woreAt_94 ?_
      refine eR_callSi [_] rfl dX9_woreAt_95 ok_mX9_one kw_1050 rfl rfl (Nat.le_of_ble_eq_true rfl) (d' := 0) (by decide) (Nat.le_of_ble_eq_true rfl) ?_
      refine sp_one (by first | exact b01_01 _ | omega) ?_
      refine eR_aldn_0 dX9_woreAt_98 rfl ?_
      refine eR_getR (i := 206) dX9_woreAt_99 gf_X9_7 th_205 rfl ?_
      refine eR_bi (z := 8) dX9_woreAt_102 rfl ?_
      refine eR_ildn_2 dX9_woreAt_104 rfl ?_
      refine eR_iadd dX9_woreAt_105 ?_
      refine eR_iald (n := 8 + (sg i 0)) dX9_woreAt_106 th_206 (by omega) (by omega) (by decide) ?_
      refine eX_pcI ((V.2.2.2.1 (sg i 0) (by omega)).2.1) ?_
      refine eR_ishl dX9_woreAt_107 ?_
      refine eX_pcI (show (zShl 0 (↑(sO S (sg i 0) 1)) : Int) = ↑(0 : Nat) from by have := zShl_nat (a := 0) (k := sO S (sg i 0) 1) (by omega) (by omega); rw [Nat.zero_mul] at this; exact this) ?_
      refine eR_ior dX9_woreAt_108 ?_
      refine eX_pcI (show (zOr ↑(0 : Nat) ↑(0 : Nat) : Int) = ↑(woS S sg i) from by rw [zOr_nat (by omega) (by omega)]; unfold woS; (repeat' split) <;> first | rfl | omega | contradiction) ?_
      refine eR_iret dX9_woreAt_109 rfl rfl ?_
      exact k
    · refine eR_ic dX9_woreAt_90 ?_
      refine eR_goto (tgt := 95) dX9_woreAt_91 (by decide) ?_
      refine eR_callSi [_] rfl dX9_woreAt_95 ok_mX9_one kw_1050 rfl rfl (Nat.le_of_ble_eq_true rfl) (d' := 0) (by decide) (Nat.le_of_ble_eq_true rfl) ?_
      refine sp_one (by first | exact b01_01 _ | omega) ?_
      refine eR_aldn_0 dX9_woreAt_98 rfl ?_
      refine eR_getR (i := 206) dX9_woreAt_99 gf_X9_7 th_205 rfl ?_
      refine eR_bi (z := 8) dX9_woreAt_102 rfl ?_
      refine eR_ildn_2 dX9_woreAt_104 rfl ?_
      refine eR_iadd dX9_woreAt_105 ?_
      refine eR_iald (n := 8 + (sg i 0)) dX9_woreAt_106 th_206 (by omega) (by omega) (by decide) ?_
      refine eX_pcI ((V.2.2.2.1 (sg i 0) (by omega)).2.1) ?_
      refine eR_ishl dX9_woreAt_107 ?_
      refine eX_pcI (show (zShl 1 (↑(sO S (sg i 0) 1)) : Int) = ↑(2 ^ sO S (sg i 0) 1 : Nat) from by have := zShl_nat (a := 1) (k := sO S (sg i 0) 1) (by omega) (by omega); rw [Nat.one_mul] at this; exact this) ?_
      refine eR_ior dX9_woreAt_108 ?_
      refine eX_pcI (show (zOr ↑(0 : Nat) (↑(2 ^ sO S (sg i 0) 1 : Nat)) : Int) = ↑(woS S sg i) from by rw [zOr_nat (by omega) (by omega)]; unfold woS; (repeat' split) <;> first | rfl | omega | contradiction) ?_
      refine eR_iret dX9_woreAt_109 rfl rfl ?_
      exact k
  · refine eR_ic dX9_woreAt_44 ?_
    refine eR_goto (tgt := 49) dX9_woreAt_45 (by decide) ?_
    refine eR_callSi [_] rfl dX9_woreAt_49 ok_mX9_one kw_1050 rfl rfl (Nat.le_of_ble_eq_true rfl) (d' := 0) (by decide) (Nat.le_of_ble_eq_true rfl) ?_
    refine sp_one (by first | exact b01_01 _ | omega) ?_
    refine eR_aldn_0 dX9_woreAt_52 rfl ?_
    refine eR_getR (i := 206) dX9_woreAt_53 gf_X9_7 th_205 rfl ?_
    refine eR_ildn_2 dX9_woreAt_56 rfl ?_
    refine eR_iald (n := (sg i 0)) dX9_woreAt_57 th_206 (rfl) (by omega) (by decide) ?_
    refine eX_pcI ((V.2.2.2.1 (sg i 0) (by omega)).1) ?_
    refine eR_ishl dX9_woreAt_58 ?_
    refine eX_pcI (show (zShl 1 (↑(sO S (sg i 0) 0)) : Int) = ↑(2 ^ sO S (sg i 0) 0 : Nat) from by have := zShl_nat (a := 1) (k := sO S (sg i 0) 0) (by omega) (by omega); rw [Nat.one_mul] at this; exact this) ?_
    refine eR_ist_n4 dX9_woreAt_59 (by decide) rfl ?_
    refine eR_ild_4 dX9_woreAt_61 ?_
    refine eR_aldn_0 dX9_woreAt_63 rfl ?_
    refine eR_aldn_0 dX9_woreAt_64 rfl ?_
    refine eR_getR (i := 206) dX9_woreAt_65 gf_X9_7 th_205 rfl ?_
    refine eR_bi (z := 8) dX9_woreAt_68 rfl ?_
    refine eR_ildn_2 dX9_woreAt_70 rfl ?_
    refine eR_iadd dX9_woreAt_71 ?_
    refine eR_iald (n := 8 + (sg i 0)) dX9_woreAt_72 th_206 (by omega) (by omega) (by decide) ?_
    refine eX_pcI ((V.2.2.2.1 (sg i 0) (by omega)).2.1) ?_
    refine eR_ildn_3 dX9_woreAt_73 rfl ?_
    refine eR_callVi [_, _] rfl dX9_woreAt_74 ok_mX9_whereIs kw_1039 rfl rfl th_205 rfl (Nat.le_of_ble_eq_true rfl) (d' := 2) (by decide) (Nat.le_of_ble_eq_true rfl) ?_
    refine sp_whereIs (p := (sO S (sg i 0) 1)) (hour := (sg i 2)) B V (by omega) (by omega) ?_
    refine eR_aldn_0 dX9_woreAt_77 rfl ?_
    refine eR_getR (i := 222) dX9_woreAt_78 gf_X9_63 th_205 rfl ?_
    refine eR_ic dX9_woreAt_81 ?_
    refine eR_ildn_1 dX9_woreAt_82 rfl ?_
    refine eR_imul dX9_woreAt_83 ?_
    refine eR_ic dX9_woreAt_84 ?_
    refine eR_iadd dX9_woreAt_85 ?_
    refine eR_iald (n := 3 * i + 1) dX9_woreAt_86 th_222 (by omega) (by omega) (by decide) ?_
    refine eX_pcI ((GV.2 i (by omega)).2.1) ?_
    refine eR_icmp_ne (tgt := 94) dX9_woreAt_87 (by decide) (by first | exact rg_b01 _ | (unfold rg; omega)) (by first | exact rg_b01 _ | (unfold rg; omega)) (fun c87 => ?_) (fun c87 => ?_)
    · refine eR_ic dX9_woreAt_94 ?_
      refine eR_callSi [_] rfl dX9_woreAt_95 ok_mX9_one kw_1050 rfl rfl (Nat.le_of_ble_eq_true rfl) (d' := 0) (by decide) (Nat.le_of_ble_eq_true rfl) ?_
      refine sp_one (by first | exact b01_01 _ | omega) ?_
      refine eR_aldn_0 dX9_woreAt_98 rfl ?_
      refine eR_getR (i := 206) dX9_woreAt_99 gf_X9_7 th_205 rfl ?_
      refine eR_bi (z := 8) dX9_woreAt_102 rfl ?_
      refine eR_ildn_2 dX9_woreAt_104 rfl ?_
      refine eR_iadd dX9_woreAt_105 ?_
      refine eR_iald (n := 8 + (sg i 0)) dX9_woreAt_106 th_206 (by omega) (by omega) (by decide) ?_
      refine eX_pcI ((V.2.2.2.1 (sg i 0) (by omega)).2.1) ?_
      refine eR_ishl dX9_woreAt_107 ?_
      refine eX_pcI (show (zShl 0 (↑(sO S (sg i 0) 1)) : Int) = ↑(0 : Nat) from by have := zShl_nat (a := 0) (k := sO S (sg i 0) 1) (by omega) (by omega); rw [Nat.zero_mul] at this; exact this) ?_
      refine eR_ior dX9_woreAt_108 ?_
      refine eX_pcI (show (zOr (↑(2 ^ sO S (sg i 0) 0 : Nat)) ↑(0 : Nat) : Int) = ↑(woS S sg i) from by rw [zOr_nat (by omega) (by omega)]; unfold woS; (repeat' split) <;> first | rfl | omega | contradiction) ?_
      refine eR_iret dX9_woreAt_109 rfl rfl ?_
      exact k
    · refine eR_ic dX9_woreAt_90 ?_
      refine eR_goto (tgt := 95) dX9_woreAt_91 (by decide) ?_
      refine eR_callSi [_] rfl dX9_woreAt_95 ok_mX9_one kw_1050 rfl rfl (Nat.le_of_ble_eq_true rfl) (d' := 0) (by decide) (Nat.le_of_ble_eq_true rfl) ?_
      refine sp_one (by first | exact b01_01 _ | omega) ?_
      refine eR_aldn_0 dX9_woreAt_98 rfl ?_
      refine eR_getR (i := 206) dX9_woreAt_99 gf_X9_7 th_205 rfl ?_
      refine eR_bi (z := 8) dX9_woreAt_102 rfl ?_
      refine eR_ildn_2 dX9_woreAt_104 rfl ?_
      refine eR_iadd dX9_woreAt_105 ?_
      refine eR_iald (n := 8 + (sg i 0)) dX9_woreAt_106 th_206 (by omega) (by omega) (by decide) ?_
      refine eX_pcI ((V.2.2.2.1 (sg i 0) (by omega)).2.1) ?_
      refine eR_ishl dX9_woreAt_107 ?_
      refine eX_pcI (show (zShl 1 (↑(sO S (sg i 0) 1)) : Int) = ↑(2 ^ sO S (sg i 0) 1 : Nat) from by have := zShl_nat (a := 1) (k := sO S (sg i 0) 1) (by omega) (by omega); rw [Nat.one_mul] at this; exact this) ?_
      refine eR_ior dX9_woreAt_108 ?_
      refine eX_pcI (show (zOr (↑(2 ^ sO S (sg i 0) 0 : Nat)) (↑(2 ^ sO S (sg i 0) 1 : Nat)) : Int) = ↑(woS S sg i) from by rw [zOr_nat (by omega) (by omega)]; unfold woS; (repeat' split) <;> first | rfl | omega | contradiction) ?_
      refine eR_iret dX9_woreAt_109 rfl rfl ?_
      exact k
theorem sp_wore (B : sB S) (V : mV h S) {n : Nat} {sg : Nat → Nat → Nat} (G : sgB S n sg) (GV : sgV h n sg) {i : Int} (hr_i : rg i) (k : Q (.int (zI (rWore S n sg i))) (tau t s) h) : eX g 4 mX9_wore 0 (lv_args 0 [.ref (gA g 205), .int (zI i)]) [] (tau t s) h Q := by
  show eX g 4 mX9_wore 0 [(0, .ref (gA g 205)), (1, .int (zI i))] [] (tau t s) h Q
  have hg9 := G.1
  by_cases hq1 : 0 ≤ i ∧ i ≤ (↑n - 1)
  · obtain ⟨m, rfl⟩ : ∃ m : Nat, i = (m : Int) := ⟨i.toNat, by omega⟩
    have hg9 := G.1
    refine eR_ildn_1 dX9_wore_0 rfl ?_
    refine eR_i2lz dX9_wore_1 (by first | assumption | exact rg_b01 _ | (unfold rg; omega) | (unfold rg at *; omega)) ?_
    refine eR_lc (z := 0) dX9_wore_2 rfl ?_
    refine eR_aldn_0 dX9_wore_3 rfl ?_
    refine eR_getI dX9_wore_4 gf_X9_154 th_205 rfl ?_
    refine eX_pcI (GV.1) ?_
    refine eR_ic dX9_wore_7 ?_
    refine eR_isub dX9_wore_8 ?_
    refine eR_i2lz dX9_wore_9 (by first | assumption | exact rg_b01 _ | (unfold rg; omega) | (unfold rg at *; omega)) ?_
    refine eR_callSi [_, _, _] rfl dX9_wore_10 ok_mX9_in kw_952 rfl rfl (Nat.le_of_ble_eq_true rfl) (d' := 0) (by decide) (Nat.le_of_ble_eq_true rfl) ?_
    refine sp_in (by first | (unfold rL; omega) | (unfold rL; unfold rg at *; omega)) (by first | (unfold rL; omega) | (unfold rL; unfold rg at *; omega)) (by first | (unfold rL; omega) | (unfold rL; unfold rg at *; omega)) ?_
    refine eR_if_eq (tgt := 24) dX9_wore_13 (by decide) (by first | assumption | exact rg_b01 _ | (unfold rg; omega) | (unfold rg at *; omega)) (fun c13 => absurd c13 (by first | simp [b01, hq1] | (rw [b01_t hq1]; decide))) (fun c13 => ?_)
    refine eR_aldn_0 dX9_wore_16 rfl ?_
    refine eR_ildn_1 dX9_wore_17 rfl ?_
    refine eR_callVi [_] rfl dX9_wore_18 ok_mX9_woreAt kw_1221 rfl rfl th_205 rfl (Nat.le_of_ble_eq_true rfl) (d' := 3) (by decide) (Nat.le_of_ble_eq_true rfl) ?_
    refine sp_woreAt (i := m) B V G GV (by omega) ?_
    refine eR_goto (tgt := 26) dX9_wore_21 (by decide) ?_
    refine eR_iret dX9_wore_26 rfl rfl ?_
    rw [show (rWore S n sg ↑m : Int) = ↑(woS S sg m) from by unfold rWore; (repeat' split) <;> first | rfl | omega | simp_all] at k; exact k
  · have hg9 := G.1
    refine eR_ildn_1 dX9_wore_0 rfl ?_
    refine eR_i2lz dX9_wore_1 (by first | assumption | exact rg_b01 _ | (unfold rg; omega) | (unfold rg at *; omega)) ?_
    refine eR_lc (z := 0) dX9_wore_2 rfl ?_
    refine eR_aldn_0 dX9_wore_3 rfl ?_
    refine eR_getI dX9_wore_4 gf_X9_154 th_205 rfl ?_
    refine eX_pcI (GV.1) ?_
    refine eR_ic dX9_wore_7 ?_
    refine eR_isub dX9_wore_8 ?_
    refine eR_i2lz dX9_wore_9 (by first | assumption | exact rg_b01 _ | (unfold rg; omega) | (unfold rg at *; omega)) ?_
    refine eR_callSi [_, _, _] rfl dX9_wore_10 ok_mX9_in kw_952 rfl rfl (Nat.le_of_ble_eq_true rfl) (d' := 0) (by decide) (Nat.le_of_ble_eq_true rfl) ?_
    refine sp_in (by first | (unfold rL; omega) | (unfold rL; unfold rg at *; omega)) (by first | (unfold rL; omega) | (unfold rL; unfold rg at *; omega)) (by first | (unfold rL; omega) | (unfold rL; unfold rg at *; omega)) ?_
    refine eR_if_eq (tgt := 24) dX9_wore_13 (by decide) (by first | assumption | exact rg_b01 _ | (unfold rg; omega) | (unfold rg at *; omega)) (fun c13 => ?_) (fun c13 => absurd c13 (by first | (simp [b01, hq1]; done) | (rw [b01_f hq1]; decide)))
    refine eR_ldc (z := -1000000001) dX9_wore_24 kw_1089 (by decide) ?_
    refine eR_iret dX9_wore_26 rfl rfl ?_
    rw [show (rWore S n sg i : Int) = (-1000000001) from by unfold rWore; (repeat' split) <;> first | rfl | omega | simp_all] at k; exact k
theorem lp_theft2 (B : sB S) (V : mV h S) {n : Nat} {sg : Nat → Nat → Nat} (G : sgB S n sg) (GV : sgV h n sg) {i : Nat} (hi : i < n) (k : eX g 4 mX9_theft 112 [(0, .ref (gA g 205)), (1, .int (zI ↑i)), (2, .int (zI (b01 (woS S sg i = 0 ∨ elsB sg i i = true)))), (3, .int (zI ↑i))] [] (tau t s) h Q) : ∀ m j : Nat, j + m = i → eX g 4 mX9_theft 26 [(0, .ref (gA g 205)), (1, .int (zI ↑i)), (2, .int (zI (b01 (woS S sg i = 0 ∨ elsB sg i j = true)))), (3, .int (zI ↑j))] [] (tau t s) h Q := by
  have hP8 := B.1
  have hC8 := B.2.1
  have hE10 := B.2.2.1
  have hF99 := B.2.2.2.2.2.2.1
  have hg9 := G.1
  have hg8 := G.2 i hi
  intro m
  induction m with
  | zero =>
    intro j hj
    refine eR_ildn_3 dX9_theft_26 rfl ?_
    refine eR_ildn_1 dX9_theft_27 rfl ?_
    refine eR_icmp_ge (tgt := 112) dX9_theft_28 (by decide) (by first | exact rg_b01 _ | (unfold rg; omega)) (by first | exact rg_b01 _ | (unfold rg; omega)) (fun c28 => ?_) (fun c28 => absurd c28 (by omega))
    have e9 : j = i := by omega
    subst e9
    exact k
  | succ m ih =>
    intro j hj
    have hg7 := G.2 j (by omega)
    refine eR_ildn_3 dX9_theft_26 rfl ?_
    refine eR_ildn_1 dX9_theft_27 rfl ?_
    refine eR_icmp_ge (tgt := 112) dX9_theft_28 (by decide) (by first | exact rg_b01 _ | (unfold rg; omega)) (by first | exact rg_b01 _ | (unfold rg; omega)) (fun c28 => absurd c28 (by omega)) (fun c28 => ?_)
    refine eR_ildn_2 dX9_theft_31 rfl ?_
    refine eR_if_ne (tgt := 100) dX9_theft_32 (by decide) (by first | exact rg_b01 _ | (unfold rg; omega)) (fun c32 => ?_) (fun c32 => ?_)
    · replace c32 := b01_ne0.mp c32
      refine eR_ic dX9_theft_100 ?_
      refine eR_goto (tgt := 105) dX9_theft_101 (by decide) ?_
      refine eR_istn_2 dX9_theft_105 rfl (by decide) rfl ?_
      refine eR_iinc_3 dX9_theft_106 (by decide) rfl ?_
      refine eR_goto (tgt := 26) dX9_theft_109 (by decide) ?_
      have f4 : b01 (woS S sg i = 0 ∨ elsB sg i (j + 1) = true) = 1 := by first | exact b01_t (by rw [elsB]; grind) | exact b01_f (by rw [elsB]; grind) | exact b01_t (Or.inr (by rw [elsB, Bool.or_eq_true]; exact Or.inr (by simp only [Bool.and_eq_true, decide_eq_true_eq]; omega))) | (rw [b01_t (p := woS S sg i = 0 ∨ elsB sg i j = true) (by assumption)]; exact b01_t (by rw [elsB]; grind))
      have e8 := ih (j + 1) (by omega)
      rw [f4] at e8
      exact e8
    · replace c32 := b01_eq0.mp c32
      refine eR_aldn_0 dX9_theft_35 rfl ?_
      refine eR_getR (i := 222) dX9_theft_36 gf_X9_63 th_205 rfl ?_
      refine eR_ic dX9_theft_39 ?_
      refine eR_ildn_3 dX9_theft_40 rfl ?_
      refine eR_imul dX9_theft_41 ?_
      refine eR_iald (n := 3 * j) dX9_theft_42 th_222 (by omega) (by omega) (by decide) ?_
      refine eX_pcI ((GV.2 j (by omega)).1) ?_
      refine eR_aldn_0 dX9_theft_43 rfl ?_
      refine eR_getR (i := 222) dX9_theft_44 gf_X9_63 th_205 rfl ?_
      refine eR_ic dX9_theft_47 ?_
      refine eR_ildn_1 dX9_theft_48 rfl ?_
      refine eR_imul dX9_theft_49 ?_
      refine eR_iald (n := 3 * i) dX9_theft_50 th_222 (by omega) (by omega) (by decide) ?_
      refine eX_pcI ((GV.2 i (by omega)).1) ?_
      refine eR_icmp_ne (tgt := 104) dX9_theft_51 (by decide) (by first | exact rg_b01 _ | (unfold rg; omega)) (by first | exact rg_b01 _ | (unfold rg; omega)) (fun c51 => ?_) (fun c51 => ?_)
      · refine eR_ic dX9_theft_104 ?_
        refine eR_istn_2 dX9_theft_105 rfl (by decide) rfl ?_
        refine eR_iinc_3 dX9_theft_106 (by decide) rfl ?_
        refine eR_goto (tgt := 26) dX9_theft_109 (by decide) ?_
        have f4 : b01 (woS S sg i = 0 ∨ elsB sg i (j + 1) = true) = 0 := by first | exact b01_t (by rw [elsB]; grind) | exact b01_f (by rw [elsB]; grind) | exact b01_t (Or.inr (by rw [elsB, Bool.or_eq_true]; exact Or.inr (by simp only [Bool.and_eq_true, decide_eq_true_eq]; omega))) | (rw [b01_t (p := woS S sg i = 0 ∨ elsB sg i j = true) (by assumption)]; exact b01_t (by rw [elsB]; grind))
        have e8 := ih (j + 1) (by omega)
        rw [f4] at e8
        exact e8
      · refine eR_aldn_0 dX9_theft_54 rfl ?_
        refine eR_getR (i := 222) dX9_theft_55 gf_X9_63 th_205 rfl ?_
        refine eR_ic dX9_theft_58 ?_
        refine eR_ildn_3 dX9_theft_59 rfl ?_
        refine eR_imul dX9_theft_60 ?_
        refine eR_ic dX9_theft_61 ?_
        refine eR_iadd dX9_theft_62 ?_
        refine eR_iald (n := 3 * j + 2) dX9_theft_63 th_222 (by omega) (by omega) (by decide) ?_
        refine eX_pcI ((GV.2 j (by omega)).2.2) ?_
        refine eR_aldn_0 dX9_theft_64 rfl ?_
        refine eR_getR (i := 222) dX9_theft_65 gf_X9_63 th_205 rfl ?_
        refine eR_ic dX9_theft_68 ?_
        refine eR_ildn_1 dX9_theft_69 rfl ?_
        refine eR_imul dX9_theft_70 ?_
        refine eR_ic dX9_theft_71 ?_
        refine eR_iadd dX9_theft_72 ?_
        refine eR_iald (n := 3 * i + 2) dX9_theft_73 th_222 (by omega) (by omega) (by decide) ?_
        refine eX_pcI ((GV.2 i (by omega)).2.2) ?_
        refine eR_icmp_ne (tgt := 104) dX9_theft_74 (by decide) (by first | exact rg_b01 _ | (unfold rg; omega)) (by first | exact rg_b01 _ | (unfold rg; omega)) (fun c74 => ?_) (fun c74 => ?_)
        · refine eR_ic dX9_theft_104 ?_
          refine eR_istn_2 dX9_theft_105 rfl (by decide) rfl ?_
          refine eR_iinc_3 dX9_theft_106 (by decide) rfl ?_
          refine eR_goto (tgt := 26) dX9_theft_109 (by decide) ?_
          have f4 : b01 (woS S sg i = 0 ∨ elsB sg i (j + 1) = true) = 0 := by first | exact b01_t (by rw [elsB]; grind) | exact b01_f (by rw [elsB]; grind) | exact b01_t (Or.inr (by rw [elsB, Bool.or_eq_true]; exact Or.inr (by simp only [Bool.and_eq_true, decide_eq_true_eq]; omega))) | (rw [b01_t (p := woS S sg i = 0 ∨ elsB sg i j = true) (by assumption)]; exact b01_t (by rw [elsB]; grind))
          have e8 := ih (j + 1) (by omega)
          rw [f4] at e8
          exact e8
        · refine eR_aldn_0 dX9_theft_77 rfl ?_
          refine eR_getR (i := 222) dX9_theft_78 gf_X9_63 th_205 rfl ?_
          refine eR_ic dX9_theft_81 ?_
          refine eR_ildn_3 dX9_theft_82 rfl ?_
          refine eR_imul dX9_theft_83 ?_
          refine eR_ic dX9_theft_84 ?_
          refine eR_iadd dX9_theft_85 ?_
          refine eR_iald (n := 3 * j + 1) dX9_theft_86 th_222 (by omega) (by omega) (by decide) ?_
          refine eX_pcI ((GV.2 j (by omega)).2.1) ?_
          refine eR_aldn_0 dX9_theft_87 rfl ?_
          refine eR_getR (i := 222) dX9_theft_88 gf_X9_63 th_205 rfl ?_
          refine eR_ic dX9_theft_91 ?_
          refine eR_ildn_1 dX9_theft_92 rfl ?_
          refine eR_imul dX9_theft_93 ?_
          refine eR_ic dX9_theft_94 ?_
          refine eR_iadd dX9_theft_95 ?_
          refine eR_iald (n := 3 * i + 1) dX9_theft_96 th_222 (by omega) (by omega) (by decide) ?_
          refine eX_pcI ((GV.2 i (by omega)).2.1) ?_
          refine eR_icmp_eq (tgt := 104) dX9_theft_97 (by decide) (by first | exact rg_b01 _ | (unfold rg; omega)) (by first | exact rg_b01 _ | (unfold rg; omega)) (fun c97 => ?_) (fun c97 => ?_)
          · refine eR_ic dX9_theft_104 ?_
            refine eR_istn_2 dX9_theft_105 rfl (by decide) rfl ?_
            refine eR_iinc_3 dX9_theft_106 (by decide) rfl ?_
            refine eR_goto (tgt := 26) dX9_theft_109 (by decide) ?_
            have f4 : b01 (woS S sg i = 0 ∨ elsB sg i (j + 1) = true) = 0 := by first | exact b01_t (by rw [elsB]; grind) | exact b01_f (by rw [elsB]; grind) | exact b01_t (Or.inr (by rw [elsB, Bool.or_eq_true]; exact Or.inr (by simp only [Bool.and_eq_true, decide_eq_true_eq]; omega))) | (rw [b01_t (p := woS S sg i = 0 ∨ elsB sg i j = true) (by assumption)]; exact b01_t (by rw [elsB]; grind))
            have e8 := ih (j + 1) (by omega)
            rw [f4] at e8
            exact e8
          · refine eR_ic dX9_theft_100 ?_
            refine eR_goto (tgt := 105) dX9_theft_101 (by decide) ?_
            refine eR_istn_2 dX9_theft_105 rfl (by decide) rfl ?_
            refine eR_iinc_3 dX9_theft_106 (by decide) rfl ?_
            refine eR_goto (tgt := 26) dX9_theft_109 (by decide) ?_
            have f4 : b01 (woS S sg i = 0 ∨ elsB sg i (j + 1) = true) = 1 := by first | exact b01_t (by rw [elsB]; grind) | exact b01_f (by rw [elsB]; grind) | exact b01_t (Or.inr (by rw [elsB, Bool.or_eq_true]; exact Or.inr (by simp only [Bool.and_eq_true, decide_eq_true_eq]; omega))) | (rw [b01_t (p := woS S sg i = 0 ∨ elsB sg i j = true) (by assumption)]; exact b01_t (by rw [elsB]; grind))
            have e8 := ih (j + 1) (by omega)
            rw [f4] at e8
            exact e8
theorem lp_theft (B : sB S) (V : mV h S) {n : Nat} {sg : Nat → Nat → Nat} (G : sgB S n sg) (GV : sgV h n sg) : ∀ m i : Nat, i + m = n → Q (.int (zI (thfN S sg m i))) (tau t s) h → eX g 4 mX9_theft 2 [(0, .ref (gA g 205)), (1, .int (zI ↑i))] [] (tau t s) h Q := by
  have hP8 := B.1
  have hC8 := B.2.1
  have hE10 := B.2.2.1
  have hF99 := B.2.2.2.2.2.2.1
  have hg9 := G.1
  intro m
  induction m with
  | zero =>
    intro i hi k
    refine eR_ildn_1 dX9_theft_2 rfl ?_
    refine eR_aldn_0 dX9_theft_3 rfl ?_
    refine eR_getI dX9_theft_4 gf_X9_154 th_205 rfl ?_
    refine eX_pcI (GV.1) ?_
    refine eR_icmp_ge (tgt := 124) dX9_theft_7 (by decide) (by first | exact rg_b01 _ | (unfold rg; omega)) (by first | exact rg_b01 _ | (unfold rg; omega)) (fun c7 => ?_) (fun c7 => absurd c7 (by omega))
    refine eR_ic dX9_theft_124 ?_
    refine eR_iret dX9_theft_125 rfl rfl ?_
    exact k
  | succ m ih =>
    intro i hi k
    have hw9 := woS_lt B G (i := i) (by omega)
    refine eR_ildn_1 dX9_theft_2 rfl ?_
    refine eR_aldn_0 dX9_theft_3 rfl ?_
    refine eR_getI dX9_theft_4 gf_X9_154 th_205 rfl ?_
    refine eX_pcI (GV.1) ?_
    refine eR_icmp_ge (tgt := 124) dX9_theft_7 (by decide) (by first | exact rg_b01 _ | (unfold rg; omega)) (by first | exact rg_b01 _ | (unfold rg; omega)) (fun c7 => absurd c7 (by omega)) (fun c7 => ?_)
    refine eR_aldn_0 dX9_theft_10 rfl ?_
    refine eR_ildn_1 dX9_theft_11 rfl ?_
    refine eR_callVi [_] rfl dX9_theft_12 ok_mX9_woreAt kw_1221 rfl rfl th_205 rfl (Nat.le_of_ble_eq_true rfl) (d' := 3) (by decide) (Nat.le_of_ble_eq_true rfl) ?_
    refine sp_woreAt (i := i) B V G GV (by omega) ?_
    refine eR_if_ne (tgt := 22) dX9_theft_15 (by decide) (by first | exact rg_b01 _ | (unfold rg; omega)) (fun c15 => ?_) (fun c15 => ?_)
    · refine eR_ic dX9_theft_22 ?_
      refine eX_pcI (show (0 : Int) = b01 (woS S sg i = 0 ∨ elsB sg i 0 = true) from by first | exact (b01_t (by simp [elsB]; omega)).symm | exact (b01_f (by simp [elsB]; omega)).symm) ?_
      refine eR_istn_n2 dX9_theft_23 rfl (by decide) rfl ?_
      refine eR_ic dX9_theft_24 ?_
      refine eR_istn_n3 dX9_theft_25 rfl (by decide) rfl ?_
      refine lp_theft2 (n := n) (i := i) B V G GV (by omega) ?_ i 0 (by omega)
      refine eR_ildn_2 dX9_theft_112 rfl ?_
      refine eR_if_eq (tgt := 118) dX9_theft_113 (by decide) (by first | exact rg_b01 _ | (unfold rg; omega)) (fun c113 => ?_) (fun c113 => ?_)
      · replace c113 := b01_eq0.mp c113
        refine eR_iinc_1 dX9_theft_118 (by decide) rfl ?_
        refine eR_goto (tgt := 2) dX9_theft_121 (by decide) ?_
        refine eX_lv (lv2 := List.take 2 _) (fun q hq => List.mem_of_mem_take hq) ?_
        have e9 : thfN S sg (m + 1) i = thfN S sg m (i + 1) := if_neg c113
        rw [e9] at k
        exact ih (i + 1) (by omega) k
      · replace c113 := b01_ne0.mp c113
        refine eR_ildn_1 dX9_theft_116 rfl ?_
        refine eR_iret dX9_theft_117 rfl rfl ?_
        have e9 : thfN S sg (m + 1) i = (i : Int) := if_pos c113
        rw [e9] at k
        exact k
    · refine eR_ic dX9_theft_18 ?_
      refine eR_goto (tgt := 23) dX9_theft_19 (by decide) ?_
      refine eX_pcI (show (1 : Int) = b01 (woS S sg i = 0 ∨ elsB sg i 0 = true) from by first | exact (b01_t (by simp [elsB]; omega)).symm | exact (b01_f (by simp [elsB]; omega)).symm) ?_
      refine eR_istn_n2 dX9_theft_23 rfl (by decide) rfl ?_
      refine eR_ic dX9_theft_24 ?_
      refine eR_istn_n3 dX9_theft_25 rfl (by decide) rfl ?_
      refine lp_theft2 (n := n) (i := i) B V G GV (by omega) ?_ i 0 (by omega)
      refine eR_ildn_2 dX9_theft_112 rfl ?_
      refine eR_if_eq (tgt := 118) dX9_theft_113 (by decide) (by first | exact rg_b01 _ | (unfold rg; omega)) (fun c113 => ?_) (fun c113 => ?_)
      · replace c113 := b01_eq0.mp c113
        refine eR_iinc_1 dX9_theft_118 (by decide) rfl ?_
        refine eR_goto (tgt := 2) dX9_theft_121 (by decide) ?_
        refine eX_lv (lv2 := List.take 2 _) (fun q hq => List.mem_of_mem_take hq) ?_
        have e9 : thfN S sg (m + 1) i = thfN S sg m (i + 1) := if_neg c113
        rw [e9] at k
        exact ih (i + 1) (by omega) k
      · replace c113 := b01_ne0.mp c113
        refine eR_ildn_1 dX9_theft_116 rfl ?_
        refine eR_iret dX9_theft_117 rfl rfl ?_
        have e9 : thfN S sg (m + 1) i = (i : Int) := if_pos c113
        rw [e9] at k
        exact k
theorem sp_theft (B : sB S) (V : mV h S) {n : Nat} {sg : Nat → Nat → Nat} (G : sgB S n sg) (GV : sgV h n sg) (k : Q (.int (zI (thfN S sg n 0))) (tau t s) h) : eX g 4 mX9_theft 0 (lv_args 0 [.ref (gA g 205)]) [] (tau t s) h Q := by
  show eX g 4 mX9_theft 0 [(0, .ref (gA g 205))] [] (tau t s) h Q
  refine eR_ic dX9_theft_0 ?_
  refine eR_istn_n1 dX9_theft_1 rfl (by decide) rfl ?_
  exact lp_theft B V G GV n 0 (by omega) k
end M27
