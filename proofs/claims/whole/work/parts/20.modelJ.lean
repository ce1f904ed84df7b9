theorem zAndNot {a x : Nat} (ha : a < 256) (hx : x < 256) : zAnd (a : Int) (zXor (x : Int) (-1)) = ((a &&& (255 - x) : Nat) : Int) := by
  have e1 : nI a &&& (nI x ^^^ zI (-1)) = nI (a &&& (255 - x)) := by
    apply Int32.toBitVec_inj.mp
    apply BitVec.eq_of_getLsbD_eq
    intro i hi
    have e2 : (zI (-1)).toBitVec = BitVec.allOnes 32 := by decide
    have e3 := Nat.testBit_two_pow_sub_succ (n := 8) (x := x) hx i
    rw [show 2 ^ 8 - (x + 1) = 255 - x from by omega] at e3
    simp only [nI, Int32.toBitVec_and, Int32.toBitVec_xor, e2, Int32.toBitVec_ofNat', BitVec.getLsbD_and, BitVec.getLsbD_xor, BitVec.getLsbD_ofNat, BitVec.getLsbD_allOnes, Nat.testBit_and, e3, hi, decide_true, Bool.true_and]
    by_cases h8 : i < 8
    · simp [h8]
    · have e4 : a.testBit i = false := Nat.testBit_lt_two_pow (Nat.lt_of_lt_of_le ha (Nat.pow_le_pow_right (by omega) (by omega) : 2 ^ 8 ≤ 2 ^ i))
      simp [e4]
  unfold zAnd zXor
  rw [zI_of, zI_nI, zI_nI, e1, nI_toIntN (Nat.lt_of_le_of_lt Nat.and_le_left (by omega))]
theorem zAndM1 {a : Nat} (ha : a < 256) : zAnd (a : Int) (-1) = (a : Int) := by
  have e1 : nI a &&& zI (-1) = nI a := by
    apply Int32.toBitVec_inj.mp
    have e2 : (zI (-1)).toBitVec = BitVec.allOnes 32 := by decide
    simp only [Int32.toBitVec_and, e2, BitVec.and_allOnes]
  unfold zAnd
  rw [zI_nI, e1, nI_toIntN (by omega)]
theorem nmN_le (S : TS) (h8 : sP S ≤ 8) (p : Nat) : (nmN S p).1 ≤ p ∧ (nmN S p).2 < 256 := by
  induction p with
  | zero =>
    have : 2 ^ sP S ≤ 2 ^ 8 := Nat.pow_le_pow_right (by omega) h8
    have := Nat.two_pow_pos (sP S)
    unfold nmN
    refine ⟨Nat.le_refl _, ?_⟩
    show 2 ^ sP S - 1 < 256
    omega
  | succ p ih =>
    unfold nmN
    split
    · exact ⟨by show (nmN S p).1 + 1 ≤ p + 1; omega, Nat.lt_of_le_of_lt Nat.and_le_left ih.2⟩
    · exact ⟨by omega, ih.2⟩
def fewB (S : TS) (set : Nat) : Nat → Bool
  | 0 => true
  | k + 1 => fewB S set k && (!set.testBit k || decide (owN S k (sC S) ≤ 2))
def twoB (S : TS) (set : Nat) : Nat → Bool
  | 0 => true
  | k + 1 => twoB S set k && (!set.testBit k || decide (owN S k (sC S) = 2))
def kndN (S : TS) (set : Nat) : Nat := if (bcn (ctsN S set (sC S)) 24 : Int) = (bcn set 24 : Int) - 1 ∧ fewB S set (sP S) = true then 0 else if 2 < bcn set 24 ∧ bcn (ctsN S set (sC S)) 24 = bcn set 24 ∧ twoB S set (sP S) = true then 1 else 2
def rNet (S : TS) (p what : Int) : Int := if 0 ≤ p ∧ p ≤ (sP S : Int) - 1 then (if what = 0 then (netS S p.toNat : Int) else if what = 1 then (ctsN S (netS S p.toNat) (sC S) : Int) else if what = 2 then (kndN S (netS S p.toNat) : Int) else if what = 3 then
  (if kndN S (netS S p.toNat) = 0 then ((bcn (netS S p.toNat) 24 + 1) / 2 : Nat) else if kndN S (netS S p.toNat) = 1 then (bcn (netS S p.toNat) 24 : Int) else ((bcn (netS S p.toNat) 24 + bcn (ctsN S (netS S p.toNat) (sC S)) 24 : Nat) : Int)) else -1000000002) else -1000000001
theorem ctsN_256 {S : TS} (B : sB S) (set : Nat) : ctsN S set (sC S) < 256 := Nat.lt_of_lt_of_le (ctsN_lt S set (sC S)) (Nat.pow_le_pow_right (by omega) B.2.1 : 2 ^ sC S ≤ 2 ^ 8)
section M20
variable {g : EG} {d t s : Nat} {h h1 : PH} {Q : EQ} {S : TS}
theorem lp_netMany (B : sB S) (V : mV h S) (k : Q (.int (zI ↑(nmN S (sP S)).1)) (tau t s) h) : ∀ n p : Nat, p + n = sP S → eX g 3 mX9_netMany 15 [(0, .ref (gA g 205)), (1, .int (zI ↑(nmN S p).1)), (2, .int (zI ↑(nmN S p).2)), (3, .int (zI ↑p))] [] (tau t s) h Q := by
  have hP8 := B.1
  have hC8 := B.2.1
  have hE10 := B.2.2.1
  have hF99 := B.2.2.2.2.2.2.1
  intro n
  induction n with
  | zero =>
    intro p hx9
    have hn9 := nmN_le S hP8 p
    refine eR_ildn_3 dX9_netMany_15 rfl ?_
    refine eR_aldn_0 dX9_netMany_16 rfl ?_
    refine eR_getR (i := 217) dX9_netMany_17 gf_X9_44 th_205 rfl ?_
    refine eR_ic dX9_netMany_20 ?_
    refine eR_iald (n := 0) dX9_netMany_21 th_217 (rfl) (by decide) (by decide) ?_
    refine eX_pcI (V.1) ?_
    refine eR_icmp_ge (tgt := 64) dX9_netMany_22 (by decide) (by first | exact rg_b01 _ | (unfold rg; omega)) (by first | exact rg_b01 _ | (unfold rg; omega)) (fun c22 => ?_) (fun c22 => absurd c22 (by omega))
    refine eR_ildn_1 dX9_netMany_64 rfl ?_
    refine eR_iret dX9_netMany_65 rfl rfl ?_
    have e9 : p = sP S := by omega
    subst e9
    exact k
  | succ n ih =>
    intro p hx9
    have hn9 := nmN_le S hP8 p
    have hn8 := netS_lt B (p := p) (by omega)
    by_cases hb : (nmN S p).2.testBit p = true
    · refine eR_ildn_3 dX9_netMany_15 rfl ?_
      refine eR_aldn_0 dX9_netMany_16 rfl ?_
      refine eR_getR (i := 217) dX9_netMany_17 gf_X9_44 th_205 rfl ?_
      refine eR_ic dX9_netMany_20 ?_
      refine eR_iald (n := 0) dX9_netMany_21 th_217 (rfl) (by decide) (by decide) ?_
      refine eX_pcI (V.1) ?_
      refine eR_icmp_ge (tgt := 64) dX9_netMany_22 (by decide) (by first | exact rg_b01 _ | (unfold rg; omega)) (by first | exact rg_b01 _ | (unfold rg; omega)) (fun c22 => absurd c22 (by omega)) (fun c22 => ?_)
      refine eR_ildn_1 dX9_netMany_25 rfl ?_
      refine eR_ildn_2 dX9_netMany_26 rfl ?_
      refine eR_ildn_3 dX9_netMany_27 rfl ?_
      refine eR_callSi [_, _] rfl dX9_netMany_28 ok_mX9_has kw_1047 rfl rfl (Nat.le_of_ble_eq_true rfl) (d' := 0) (by decide) (Nat.le_of_ble_eq_true rfl) ?_
      refine sp_has (n := (nmN S p).2) (k := p) (by omega) (by omega) ?_
      refine eR_callSi [_] rfl dX9_netMany_31 ok_mX9_one kw_1050 rfl rfl (Nat.le_of_ble_eq_true rfl) (d' := 0) (by decide) (Nat.le_of_ble_eq_true rfl) ?_
      refine sp_one (by first | exact b01_01 _ | omega) ?_
      refine eR_iadd dX9_netMany_34 ?_
      refine eX_pcI (show (↑(nmN S p).1 + (b01 ((nmN S p).2.testBit p = true)) : Int) = ↑((nmN S p).1 + 1 : Nat) from by rw [b01_t hb]; rfl) ?_
      refine eR_istn_1 dX9_netMany_35 rfl (by decide) rfl ?_
      refine eR_ildn_2 dX9_netMany_36 rfl ?_
      refine eR_ildn_2 dX9_netMany_37 rfl ?_
      refine eR_ildn_3 dX9_netMany_38 rfl ?_
      refine eR_callSi [_, _] rfl dX9_netMany_39 ok_mX9_has kw_1047 rfl rfl (Nat.le_of_ble_eq_true rfl) (d' := 0) (by decide) (Nat.le_of_ble_eq_true rfl) ?_
      refine sp_has (n := (nmN S p).2) (k := p) (by omega) (by omega) ?_
      refine eR_if_eq (tgt := 55) dX9_netMany_42 (by decide) (by first | exact rg_b01 _ | (unfold rg; omega)) (fun c42 => absurd c42 (by simp [b01, hb])) (fun c42 => ?_)
      refine eR_aldn_0 dX9_netMany_45 rfl ?_
      refine eR_ildn_3 dX9_netMany_46 rfl ?_
      refine eR_callVi [_] rfl dX9_netMany_47 ok_mX9_netOf kw_1077 rfl rfl th_205 rfl (Nat.le_of_ble_eq_true rfl) (d' := 2) (by decide) (Nat.le_of_ble_eq_true rfl) ?_
      refine sp_netOf (p := p) B V (by omega) ?_
      refine eR_ic dX9_netMany_50 ?_
      refine eR_ixor dX9_netMany_51 ?_
      refine eR_goto (tgt := 56) dX9_netMany_52 (by decide) ?_
      refine eR_iand dX9_netMany_56 ?_
      refine eX_pcI (show (zAnd ↑(nmN S p).2 (zXor ↑(netS S p) (-1)) : Int) = ↑((nmN S p).2 &&& (255 - netS S p) : Nat) from zAndNot (by omega) (by omega)) ?_
      refine eR_istn_2 dX9_netMany_57 rfl (by decide) rfl ?_
      refine eR_iinc_3 dX9_netMany_58 (by decide) rfl ?_
      refine eR_goto (tgt := 15) dX9_netMany_61 (by decide) ?_
      have e9 : (nmN S (p + 1)).1 = (nmN S p).1 + 1 := by rw [nmN, if_pos hb]
      have e7 : (nmN S (p + 1)).2 = (nmN S p).2 &&& (255 - netS S p) := by rw [nmN, if_pos hb]
      have e8 := ih (p + 1) (by omega)
      rw [e9, e7] at e8
      exact e8
    · refine eR_ildn_3 dX9_netMany_15 rfl ?_
      refine eR_aldn_0 dX9_netMany_16 rfl ?_
      refine eR_getR (i := 217) dX9_netMany_17 gf_X9_44 th_205 rfl ?_
      refine eR_ic dX9_netMany_20 ?_
      refine eR_iald (n := 0) dX9_netMany_21 th_217 (rfl) (by decide) (by decide) ?_
      refine eX_pcI (V.1) ?_
      refine eR_icmp_ge (tgt := 64) dX9_netMany_22 (by decide) (by first | exact rg_b01 _ | (unfold rg; omega)) (by first | exact rg_b01 _ | (unfold rg; omega)) (fun c22 => absurd c22 (by omega)) (fun c22 => ?_)
      refine eR_ildn_1 dX9_netMany_25 rfl ?_
      refine eR_ildn_2 dX9_netMany_26 rfl ?_
      refine eR_ildn_3 dX9_netMany_27 rfl ?_
      refine eR_callSi [_, _] rfl dX9_netMany_28 ok_mX9_has kw_1047 rfl rfl (Nat.le_of_ble_eq_true rfl) (d' := 0) (by decide) (Nat.le_of_ble_eq_true rfl) ?_
      refine sp_has (n := (nmN S p).2) (k := p) (by omega) (by omega) ?_
      refine eR_callSi [_] rfl dX9_netMany_31 ok_mX9_one kw_1050 rfl rfl (Nat.le_of_ble_eq_true rfl) (d' := 0) (by decide) (Nat.le_of_ble_eq_true rfl) ?_
      refine sp_one (by first | exact b01_01 _ | omega) ?_
      refine eR_iadd dX9_netMany_34 ?_
      refine eX_pcI (show (↑(nmN S p).1 + (b01 ((nmN S p).2.testBit p = true)) : Int) = ↑(nmN S p).1 from by rw [b01_f hb]; omega) ?_
      refine eR_istn_1 dX9_netMany_35 rfl (by decide) rfl ?_
      refine eR_ildn_2 dX9_netMany_36 rfl ?_
      refine eR_ildn_2 dX9_netMany_37 rfl ?_
      refine eR_ildn_3 dX9_netMany_38 rfl ?_
      refine eR_callSi [_, _] rfl dX9_netMany_39 ok_mX9_has kw_1047 rfl rfl (Nat.le_of_ble_eq_true rfl) (d' := 0) (by decide) (Nat.le_of_ble_eq_true rfl) ?_
      refine sp_has (n := (nmN S p).2) (k := p) (by omega) (by omega) ?_
      refine eR_if_eq (tgt := 55) dX9_netMany_42 (by decide) (by first | exact rg_b01 _ | (unfold rg; omega)) (fun c42 => ?_) (fun c42 => absurd c42 (by simp [b01, hb]))
      refine eR_ic dX9_netMany_55 ?_
      refine eR_iand dX9_netMany_56 ?_
      refine eX_pcI (show (zAnd ↑(nmN S p).2 (-1) : Int) = ↑(nmN S p).2 from zAndM1 (by omega)) ?_
      refine eR_istn_2 dX9_netMany_57 rfl (by decide) rfl ?_
      refine eR_iinc_3 dX9_netMany_58 (by decide) rfl ?_
      refine eR_goto (tgt := 15) dX9_netMany_61 (by decide) ?_
      have e9 : nmN S (p + 1) = nmN S p := by rw [nmN]; exact if_neg (by assumption)
      have e8 := ih (p + 1) (by omega)
      rw [e9] at e8
      exact e8
theorem sp_netMany (B : sB S) (V : mV h S) (k : Q (.int (zI ↑(nmN S (sP S)).1)) (tau t s) h) : eX g 3 mX9_netMany 0 (lv_args 0 [.ref (gA g 205)]) [] (tau t s) h Q := by
  show eX g 3 mX9_netMany 0 [(0, .ref (gA g 205))] [] (tau t s) h Q
  have hP8 := B.1
  have hC8 := B.2.1
  have hE10 := B.2.2.1
  have hF99 := B.2.2.2.2.2.2.1
  have hl3 : 2 ^ sP S ≤ 2 ^ 8 := Nat.pow_le_pow_right (by omega) hP8
  have hl4 := Nat.two_pow_pos (sP S)
  refine eR_ic dX9_netMany_0 ?_
  refine eR_istn_n1 dX9_netMany_1 rfl (by decide) rfl ?_
  refine eR_ic dX9_netMany_2 ?_
  refine eR_aldn_0 dX9_netMany_3 rfl ?_
  refine eR_getR (i := 217) dX9_netMany_4 gf_X9_44 th_205 rfl ?_
  refine eR_ic dX9_netMany_7 ?_
  refine eR_iald (n := 0) dX9_netMany_8 th_217 (rfl) (by decide) (by decide) ?_
  refine eX_pcI (V.1) ?_
  refine eR_ishl dX9_netMany_9 ?_
  refine eX_pcI (show (zShl 1 ↑(sP S) : Int) = ↑(2 ^ sP S : Nat) from by have := zShl_nat (a := 1) (k := sP S) (by omega) (by omega); rw [Nat.one_mul] at this; exact this) ?_
  refine eR_ic dX9_netMany_10 ?_
  refine eR_isub dX9_netMany_11 ?_
  refine eX_pcI (show (↑(2 ^ sP S : Nat) - 1 : Int) = ↑(nmN S 0).2 from by show _ = ((2 ^ sP S - 1 : Nat) : Int); omega) ?_
  refine eR_istn_n2 dX9_netMany_12 rfl (by decide) rfl ?_
  refine eR_ic dX9_netMany_13 ?_
  refine eR_istn_n3 dX9_netMany_14 rfl (by decide) rfl ?_
  exact lp_netMany B V k (sP S) 0 (by omega)
theorem lp_kindOf (B : sB S) (V : mV h S) {set : Nat} (hs : set < 256) (k : Q (.int (zI ↑(kndN S set))) (tau t s) h) : ∀ n p : Nat, p + n = sP S → eX g 3 mX9_kindOf 23 [(0, .ref (gA g 205)), (1, .int (zI ↑set)), (2, .int (zI ↑(bcn set 24))), (3, .int (zI (↑(bcn (ctsN S set (sC S)) 24)))), (4, .int (zI (b01 (fewB S set p = true)))), (5, .int (zI (b01 (twoB S set p = true)))), (6, .int (zI ↑p))] [] (tau t s) h Q := by
  have hP8 := B.1
  have hC8 := B.2.1
  have hE10 := B.2.2.1
  have hF99 := B.2.2.2.2.2.2.1
  intro n
  induction n with
  | zero =>
    intro p hx9
    obtain rfl : p = sP S := by omega
    have hb8 := bcn_le set 24
    have hb9 := bcn_le (ctsN S set (sC S)) 24
    refine eR_ild_6 dX9_kindOf_23 ?_
    refine eR_aldn_0 dX9_kindOf_25 rfl ?_
    refine eR_getR (i := 217) dX9_kindOf_26 gf_X9_44 th_205 rfl ?_
    refine eR_ic dX9_kindOf_29 ?_
    refine eR_iald (n := 0) dX9_kindOf_30 th_217 (rfl) (by decide) (by decide) ?_
    refine eX_pcI (V.1) ?_
    refine eR_icmp_ge (tgt := 102) dX9_kindOf_31 (by decide) (by first | exact rg_b01 _ | (unfold rg; omega)) (by first | exact rg_b01 _ | (unfold rg; omega)) (fun c31 => ?_) (fun c31 => absurd c31 (by omega))
    refine eR_ildn_3 dX9_kindOf_102 rfl ?_
    refine eR_ildn_2 dX9_kindOf_103 rfl ?_
    refine eR_ic dX9_kindOf_104 ?_
    refine eR_isub dX9_kindOf_105 ?_
    refine eR_icmp_ne (tgt := 118) dX9_kindOf_106 (by decide) (by first | exact rg_b01 _ | (unfold rg; omega)) (by first | exact rg_b01 _ | (unfold rg; omega)) (fun c106 => ?_) (fun c106 => ?_)
    · refine eR_ildn_2 dX9_kindOf_118 rfl ?_
      refine eR_ic dX9_kindOf_119 ?_
      refine eR_icmp_le (tgt := 137) dX9_kindOf_120 (by decide) (by first | exact rg_b01 _ | (unfold rg; omega)) (by first | exact rg_b01 _ | (unfold rg; omega)) (fun c120 => ?_) (fun c120 => ?_)
      · refine eR_ic dX9_kindOf_137 ?_
        refine eR_iret dX9_kindOf_138 rfl rfl ?_
        rw [show (↑(kndN S set) : Int) = 2 from by unfold kndN; (repeat' split) <;> first | rfl | omega | (simp_all; done) | (simp_all; omega) | grind] at k; exact k
      · refine eR_ildn_3 dX9_kindOf_123 rfl ?_
        refine eR_ildn_2 dX9_kindOf_124 rfl ?_
        refine eR_icmp_ne (tgt := 137) dX9_kindOf_125 (by decide) (by first | exact rg_b01 _ | (unfold rg; omega)) (by first | exact rg_b01 _ | (unfold rg; omega)) (fun c125 => ?_) (fun c125 => ?_)
        · refine eR_ic dX9_kindOf_137 ?_
          refine eR_iret dX9_kindOf_138 rfl rfl ?_
          rw [show (↑(kndN S set) : Int) = 2 from by unfold kndN; (repeat' split) <;> first | rfl | omega | (simp_all; done) | (simp_all; omega) | grind] at k; exact k
        · refine eR_ild_5 dX9_kindOf_128 ?_
          refine eR_if_eq (tgt := 137) dX9_kindOf_130 (by decide) (by first | exact rg_b01 _ | (unfold rg; omega)) (fun c130 => ?_) (fun c130 => ?_)
          · replace c130 := b01_eq0.mp c130
            refine eR_ic dX9_kindOf_137 ?_
            refine eR_iret dX9_kindOf_138 rfl rfl ?_
            rw [show (↑(kndN S set) : Int) = 2 from by unfold kndN; (repeat' split) <;> first | rfl | omega | (simp_all; done) | (simp_all; omega) | grind] at k; exact k
          · replace c130 := b01_ne0.mp c130
            refine eR_ic dX9_kindOf_133 ?_
            refine eR_goto (tgt := 138) dX9_kindOf_134 (by decide) ?_
            refine eR_iret dX9_kindOf_138 rfl rfl ?_
            rw [show (↑(kndN S set) : Int) = 1 from by unfold kndN; (repeat' split) <;> first | rfl | omega | (simp_all; done) | (simp_all; omega) | grind] at k; exact k
    · refine eR_ild_4 dX9_kindOf_109 ?_
      refine eR_if_eq (tgt := 118) dX9_kindOf_111 (by decide) (by first | exact rg_b01 _ | (unfold rg; omega)) (fun c111 => ?_) (fun c111 => ?_)
      · replace c111 := b01_eq0.mp c111
        refine eR_ildn_2 dX9_kindOf_118 rfl ?_
        refine eR_ic dX9_kindOf_119 ?_
        refine eR_icmp_le (tgt := 137) dX9_kindOf_120 (by decide) (by first | exact rg_b01 _ | (unfold rg; omega)) (by first | exact rg_b01 _ | (unfold rg; omega)) (fun c120 => ?_) (fun c120 => ?_)
        · refine eR_ic dX9_kindOf_137 ?_
          refine eR_iret dX9_kindOf_138 rfl rfl ?_
          rw [show (↑(kndN S set) : Int) = 2 from by unfold kndN; (repeat' split) <;> first | rfl | omega | (simp_all; done) | (simp_all; omega) | grind] at k; exact k
        · refine eR_ildn_3 dX9_kindOf_123 rfl ?_
          refine eR_ildn_2 dX9_kindOf_124 rfl ?_
          refine eR_icmp_ne (tgt := 137) dX9_kindOf_125 (by decide) (by first | exact rg_b01 _ | (unfold rg; omega)) (by first | exact rg_b01 _ | (unfold rg; omega)) (fun c125 => ?_) (fun c125 => ?_)
          · refine eR_ic dX9_kindOf_137 ?_
            refine eR_iret dX9_kindOf_138 rfl rfl ?_
            rw [show (↑(kndN S set) : Int) = 2 from by unfold kndN; (repeat' split) <;> first | rfl | omega | (simp_all; done) | (simp_all; omega) | grind] at k; exact k
          · refine eR_ild_5 dX9_kindOf_128 ?_
            refine eR_if_eq (tgt := 137) dX9_kindOf_130 (by decide) (by first | exact rg_b01 _ | (unfold rg; omega)) (fun c130 => ?_) (fun c130 => ?_)
            · replace c130 := b01_eq0.mp c130
              refine eR_ic dX9_kindOf_137 ?_
              refine eR_iret dX9_kindOf_138 rfl rfl ?_
              rw [show (↑(kndN S set) : Int) = 2 from by unfold kndN; (repeat' split) <;> first | rfl | omega | (simp_all; done) | (simp_all; omega) | grind] at k; exact k
            · replace c130 := b01_ne0.mp c130
              refine eR_ic dX9_kindOf_133 ?_
              refine eR_goto (tgt := 138) dX9_kindOf_134 (by decide) ?_
              refine eR_iret dX9_kindOf_138 rfl rfl ?_
              rw [show (↑(kndN S set) : Int) = 1 from by unfold kndN; (repeat' split) <;> first | rfl | omega | (simp_all; done) | (simp_all; omega) | grind] at k; exact k
      · replace c111 := b01_ne0.mp c111
        refine eR_ic dX9_kindOf_114 ?_
        refine eR_goto (tgt := 138) dX9_kindOf_115 (by decide) ?_
        refine eR_iret dX9_kindOf_138 rfl rfl ?_
        rw [show (↑(kndN S set) : Int) = 0 from by unfold kndN; (repeat' split) <;> first | rfl | omega | (simp_all; done) | (simp_all; omega) | grind] at k; exact k
  | succ n ih =>
    intro p hx9
    have ho9 := owN_le S p (sC S)
    have hb8 := bcn_le set 24
    have hb9 := bcn_le (ctsN S set (sC S)) 24
    refine eR_ild_6 dX9_kindOf_23 ?_
    refine eR_aldn_0 dX9_kindOf_25 rfl ?_
    refine eR_getR (i := 217) dX9_kindOf_26 gf_X9_44 th_205 rfl ?_
    refine eR_ic dX9_kindOf_29 ?_
    refine eR_iald (n := 0) dX9_kindOf_30 th_217 (rfl) (by decide) (by decide) ?_
    refine eX_pcI (V.1) ?_
    refine eR_icmp_ge (tgt := 102) dX9_kindOf_31 (by decide) (by first | exact rg_b01 _ | (unfold rg; omega)) (by first | exact rg_b01 _ | (unfold rg; omega)) (fun c31 => absurd c31 (by omega)) (fun c31 => ?_)
    refine eR_ild_4 dX9_kindOf_34 ?_
    refine eR_if_eq (tgt := 62) dX9_kindOf_36 (by decide) (by first | exact rg_b01 _ | (unfold rg; omega)) (fun c36 => ?_) (fun c36 => ?_)
    · replace c36 := b01_eq0.mp c36
      refine eR_ic dX9_kindOf_62 ?_
      refine eR_ist_4 dX9_kindOf_63 (by decide) rfl ?_
      refine eR_ild_5 dX9_kindOf_65 ?_
      refine eR_if_eq (tgt := 93) dX9_kindOf_67 (by decide) (by first | exact rg_b01 _ | (unfold rg; omega)) (fun c67 => ?_) (fun c67 => ?_)
      · replace c67 := b01_eq0.mp c67
        refine eR_ic dX9_kindOf_93 ?_
        refine eR_ist_5 dX9_kindOf_94 (by decide) rfl ?_
        refine eR_iinc_6 dX9_kindOf_96 (by decide) rfl ?_
        refine eR_goto (tgt := 23) dX9_kindOf_99 (by decide) ?_
        have f4 : b01 (fewB S set (p + 1) = true) = 0 := by first | exact b01_t (by rw [fewB]; grind) | exact b01_f (by rw [fewB]; grind)
        have f5 : b01 (twoB S set (p + 1) = true) = 0 := by first | exact b01_t (by rw [twoB]; grind) | exact b01_f (by rw [twoB]; grind)
        have e8 := ih (p + 1) (by omega)
        rw [f4, f5] at e8
        exact e8
      · replace c67 := b01_ne0.mp c67
        refine eR_ildn_1 dX9_kindOf_70 rfl ?_
        refine eR_ild_6 dX9_kindOf_71 ?_
        refine eR_callSi [_, _] rfl dX9_kindOf_73 ok_mX9_has kw_1047 rfl rfl (Nat.le_of_ble_eq_true rfl) (d' := 0) (by decide) (Nat.le_of_ble_eq_true rfl) ?_
        refine sp_has (n := set) (k := p) (by omega) (by omega) ?_
        refine eR_if_eq (tgt := 89) dX9_kindOf_76 (by decide) (by first | exact rg_b01 _ | (unfold rg; omega)) (fun c76 => ?_) (fun c76 => ?_)
        · replace c76 := b01_eq0.mp c76
          refine eR_ic dX9_kindOf_89 ?_
          refine eR_goto (tgt := 94) dX9_kindOf_90 (by decide) ?_
          refine eR_ist_5 dX9_kindOf_94 (by decide) rfl ?_
          refine eR_iinc_6 dX9_kindOf_96 (by decide) rfl ?_
          refine eR_goto (tgt := 23) dX9_kindOf_99 (by decide) ?_
          have f4 : b01 (fewB S set (p + 1) = true) = 0 := by first | exact b01_t (by rw [fewB]; grind) | exact b01_f (by rw [fewB]; grind)
          have f5 : b01 (twoB S set (p + 1) = true) = 1 := by first | exact b01_t (by rw [twoB]; grind) | exact b01_f (by rw [twoB]; grind)
          have e8 := ih (p + 1) (by omega)
          rw [f4, f5] at e8
          exact e8
        · replace c76 := b01_ne0.mp c76
          refine eR_aldn_0 dX9_kindOf_79 rfl ?_
          refine eR_ild_6 dX9_kindOf_80 ?_
          refine eR_callVi [_] rfl dX9_kindOf_82 ok_mX9_coatsOf kw_1122 rfl rfl th_205 rfl (Nat.le_of_ble_eq_true rfl) (d' := 2) (by decide) (Nat.le_of_ble_eq_true rfl) ?_
          refine sp_coatsOf (p := p) B V (by omega) ?_
          refine eR_ic dX9_kindOf_85 ?_
          refine eR_icmp_ne (tgt := 93) dX9_kindOf_86 (by decide) (by first | exact rg_b01 _ | (unfold rg; omega)) (by first | exact rg_b01 _ | (unfold rg; omega)) (fun c86 => ?_) (fun c86 => ?_)
          · refine eR_ic dX9_kindOf_93 ?_
            refine eR_ist_5 dX9_kindOf_94 (by decide) rfl ?_
            refine eR_iinc_6 dX9_kindOf_96 (by decide) rfl ?_
            refine eR_goto (tgt := 23) dX9_kindOf_99 (by decide) ?_
            have f4 : b01 (fewB S set (p + 1) = true) = 0 := by first | exact b01_t (by rw [fewB]; grind) | exact b01_f (by rw [fewB]; grind)
            have f5 : b01 (twoB S set (p + 1) = true) = 0 := by first | exact b01_t (by rw [twoB]; grind) | exact b01_f (by rw [twoB]; grind)
            have e8 := ih (p + 1) (by omega)
            rw [f4, f5] at e8
            exact e8
          · refine eR_ic dX9_kindOf_89 ?_
            refine eR_goto (tgt := 94) dX9_kindOf_90 (by decide) ?_
            refine eR_ist_5 dX9_kindOf_94 (by decide) rfl ?_
            refine eR_iinc_6 dX9_kindOf_96 (by decide) rfl ?_
            refine eR_goto (tgt := 23) dX9_kindOf_99 (by decide) ?_
            have f4 : b01 (fewB S set (p + 1) = true) = 0 := by first | exact b01_t (by rw [fewB]; grind) | exact b01_f (by rw [fewB]; grind)
            have f5 : b01 (twoB S set (p + 1) = true) = 1 := by first | exact b01_t (by rw [twoB]; grind) | exact b01_f (by rw [twoB]; grind)
            have e8 := ih (p + 1) (by omega)
            rw [f4, f5] at e8
            exact e8
    · replace c36 := b01_ne0.mp c36
      refine eR_ildn_1 dX9_kindOf_39 rfl ?_
      refine eR_ild_6 dX9_kindOf_40 ?_
      refine eR_callSi [_, _] rfl dX9_kindOf_42 ok_mX9_has kw_1047 rfl rfl (Nat.le_of_ble_eq_true rfl) (d' := 0) (by decide) (Nat.le_of_ble_eq_true rfl) ?_
      refine sp_has (n := set) (k := p) (by omega) (by omega) ?_
      refine eR_if_eq (tgt := 58) dX9_kindOf_45 (by decide) (by first | exact rg_b01 _ | (unfold rg; omega)) (fun c45 => ?_) (fun c45 => ?_)
      · replace c45 := b01_eq0.mp c45
        refine eR_ic dX9_kindOf_58 ?_
        refine eR_goto (tgt := 63) dX9_kindOf_59 (by decide) ?_
        refine eR_ist_4 dX9_kindOf_63 (by decide) rfl ?_
        refine eR_ild_5 dX9_kindOf_65 ?_
        refine eR_if_eq (tgt := 93) dX9_kindOf_67 (by decide) (by first | exact rg_b01 _ | (unfold rg; omega)) (fun c67 => ?_) (fun c67 => ?_)
        · replace c67 := b01_eq0.mp c67
          refine eR_ic dX9_kindOf_93 ?_
          refine eR_ist_5 dX9_kindOf_94 (by decide) rfl ?_
          refine eR_iinc_6 dX9_kindOf_96 (by decide) rfl ?_
          refine eR_goto (tgt := 23) dX9_kindOf_99 (by decide) ?_
          have f4 : b01 (fewB S set (p + 1) = true) = 1 := by first | exact b01_t (by rw [fewB]; grind) | exact b01_f (by rw [fewB]; grind)
          have f5 : b01 (twoB S set (p + 1) = true) = 0 := by first | exact b01_t (by rw [twoB]; grind) | exact b01_f (by rw [twoB]; grind)
          have e8 := ih (p + 1) (by omega)
          rw [f4, f5] at e8
          exact e8
        · replace c67 := b01_ne0.mp c67
          refine eR_ildn_1 dX9_kindOf_70 rfl ?_
          refine eR_ild_6 dX9_kindOf_71 ?_
          refine eR_callSi [_, _] rfl dX9_kindOf_73 ok_mX9_has kw_1047 rfl rfl (Nat.le_of_ble_eq_true rfl) (d' := 0) (by decide) (Nat.le_of_ble_eq_true rfl) ?_
          refine sp_has (n := set) (k := p) (by omega) (by omega) ?_
          refine eR_if_eq (tgt := 89) dX9_kindOf_76 (by decide) (by first | exact rg_b01 _ | (unfold rg; omega)) (fun c76 => ?_) (fun c76 => ?_)
          · replace c76 := b01_eq0.mp c76
            refine eR_ic dX9_kindOf_89 ?_
            refine eR_goto (tgt := 94) dX9_kindOf_90 (by decide) ?_
            refine eR_ist_5 dX9_kindOf_94 (by decide) rfl ?_
            refine eR_iinc_6 dX9_kindOf_96 (by decide) rfl ?_
            refine eR_goto (tgt := 23) dX9_kindOf_99 (by decide) ?_
            have f4 : b01 (fewB S set (p + 1) = true) = 1 := by first | exact b01_t (by rw [fewB]; grind) | exact b01_f (by rw [fewB]; grind)
            have f5 : b01 (twoB S set (p + 1) = true) = 1 := by first | exact b01_t (by rw [twoB]; grind) | exact b01_f (by rw [twoB]; grind)
            have e8 := ih (p + 1) (by omega)
            rw [f4, f5] at e8
            exact e8
          · replace c76 := b01_ne0.mp c76
            refine eR_aldn_0 dX9_kindOf_79 rfl ?_
            refine eR_ild_6 dX9_kindOf_80 ?_
            refine eR_callVi [_] rfl dX9_kindOf_82 ok_mX9_coatsOf kw_1122 rfl rfl th_205 rfl (Nat.le_of_ble_eq_true rfl) (d' := 2) (by decide) (Nat.le_of_ble_eq_true rfl) ?_
            refine sp_coatsOf (p := p) B V (by omega) ?_
            refine eR_ic dX9_kindOf_85 ?_
            refine eR_icmp_ne (tgt := 93) dX9_kindOf_86 (by decide) (by first | exact rg_b01 _ | (unfold rg; omega)) (by first | exact rg_b01 _ | (unfold rg; omega)) (fun c86 => ?_) (fun c86 => ?_)
            · refine eR_ic dX9_kindOf_93 ?_
              refine eR_ist_5 dX9_kindOf_94 (by decide) rfl ?_
              refine eR_iinc_6 dX9_kindOf_96 (by decide) rfl ?_
              refine eR_goto (tgt := 23) dX9_kindOf_99 (by decide) ?_
              have f4 : b01 (fewB S set (p + 1) = true) = 1 := by first | exact b01_t (by rw [fewB]; grind) | exact b01_f (by rw [fewB]; grind)
              have f5 : b01 (twoB S set (p + 1) = true) = 0 := by first | exact b01_t (by rw [twoB]; grind) | exact b01_f (by rw [twoB]; grind)
              have e8 := ih (p + 1) (by omega)
              rw [f4, f5] at e8
              exact e8
            · refine eR_ic dX9_kindOf_89 ?_
              refine eR_goto (tgt := 94) dX9_kindOf_90 (by decide) ?_
              refine eR_ist_5 dX9_kindOf_94 (by decide) rfl ?_
              refine eR_iinc_6 dX9_kindOf_96 (by decide) rfl ?_
              refine eR_goto (tgt := 23) dX9_kindOf_99 (by decide) ?_
              have f4 : b01 (fewB S set (p + 1) = true) = 1 := by first | exact b01_t (by rw [fewB]; grind) | exact b01_f (by rw [fewB]; grind)
              have f5 : b01 (twoB S set (p + 1) = true) = 1 := by first | exact b01_t (by rw [twoB]; grind) | exact b01_f (by rw [twoB]; grind)
              have e8 := ih (p + 1) (by omega)
              rw [f4, f5] at e8
              exact e8
      · replace c45 := b01_ne0.mp c45
        refine eR_aldn_0 dX9_kindOf_48 rfl ?_
        refine eR_ild_6 dX9_kindOf_49 ?_
        refine eR_callVi [_] rfl dX9_kindOf_51 ok_mX9_coatsOf kw_1122 rfl rfl th_205 rfl (Nat.le_of_ble_eq_true rfl) (d' := 2) (by decide) (Nat.le_of_ble_eq_true rfl) ?_
        refine sp_coatsOf (p := p) B V (by omega) ?_
        refine eR_ic dX9_kindOf_54 ?_
        refine eR_icmp_gt (tgt := 62) dX9_kindOf_55 (by decide) (by first | exact rg_b01 _ | (unfold rg; omega)) (by first | exact rg_b01 _ | (unfold rg; omega)) (fun c55 => ?_) (fun c55 => ?_)
        · refine eR_ic dX9_kindOf_62 ?_
          refine eR_ist_4 dX9_kindOf_63 (by decide) rfl ?_
          refine eR_ild_5 dX9_kindOf_65 ?_
          refine eR_if_eq (tgt := 93) dX9_kindOf_67 (by decide) (by first | exact rg_b01 _ | (unfold rg; omega)) (fun c67 => ?_) (fun c67 => ?_)
          · replace c67 := b01_eq0.mp c67
            refine eR_ic dX9_kindOf_93 ?_
            refine eR_ist_5 dX9_kindOf_94 (by decide) rfl ?_
            refine eR_iinc_6 dX9_kindOf_96 (by decide) rfl ?_
            refine eR_goto (tgt := 23) dX9_kindOf_99 (by decide) ?_
            have f4 : b01 (fewB S set (p + 1) = true) = 0 := by first | exact b01_t (by rw [fewB]; grind) | exact b01_f (by rw [fewB]; grind)
            have f5 : b01 (twoB S set (p + 1) = true) = 0 := by first | exact b01_t (by rw [twoB]; grind) | exact b01_f (by rw [twoB]; grind)
            have e8 := ih (p + 1) (by omega)
            rw [f4, f5] at e8
            exact e8
          · replace c67 := b01_ne0.mp c67
            refine eR_ildn_1 dX9_kindOf_70 rfl ?_
            refine eR_ild_6 dX9_kindOf_71 ?_
            refine eR_callSi [_, _] rfl dX9_kindOf_73 ok_mX9_has kw_1047 rfl rfl (Nat.le_of_ble_eq_true rfl) (d' := 0) (by decide) (Nat.le_of_ble_eq_true rfl) ?_
            refine sp_has (n := set) (k := p) (by omega) (by omega) ?_
            refine eR_if_eq (tgt := 89) dX9_kindOf_76 (by decide) (by first | exact rg_b01 _ | (unfold rg; omega)) (fun c76 => ?_) (fun c76 => ?_)
            · replace c76 := b01_eq0.mp c76
              refine eR_ic dX9_kindOf_89 ?_
              refine eR_goto (tgt := 94) dX9_kindOf_90 (by decide) ?_
              refine eR_ist_5 dX9_kindOf_94 (by decide) rfl ?_
              refine eR_iinc_6 dX9_kindOf_96 (by decide) rfl ?_
              refine eR_goto (tgt := 23) dX9_kindOf_99 (by decide) ?_
              have f4 : b01 (fewB S set (p + 1) = true) = 0 := by first | exact b01_t (by rw [fewB]; grind) | exact b01_f (by rw [fewB]; grind)
              have f5 : b01 (twoB S set (p + 1) = true) = 1 := by first | exact b01_t (by rw [twoB]; grind) | exact b01_f (by rw [twoB]; grind)
              have e8 := ih (p + 1) (by omega)
              rw [f4, f5] at e8
              exact e8
            · replace c76 := b01_ne0.mp c76
              refine eR_aldn_0 dX9_kindOf_79 rfl ?_
              refine eR_ild_6 dX9_kindOf_80 ?_
              refine eR_callVi [_] rfl dX9_kindOf_82 ok_mX9_coatsOf kw_1122 rfl rfl th_205 rfl (Nat.le_of_ble_eq_true rfl) (d' := 2) (by decide) (Nat.le_of_ble_eq_true rfl) ?_
              refine sp_coatsOf (p := p) B V (by omega) ?_
              refine eR_ic dX9_kindOf_85 ?_
              refine eR_icmp_ne (tgt := 93) dX9_kindOf_86 (by decide) (by first | exact rg_b01 _ | (unfold rg; omega)) (by first | exact rg_b01 _ | (unfold rg; omega)) (fun c86 => ?_) (fun c86 => ?_)
              · refine eR_ic dX9_kindOf_93 ?_
                refine eR_ist_5 dX9_kindOf_94 (by decide) rfl ?_
                refine eR_iinc_6 dX9_kindOf_96 (by decide) rfl ?_
                refine eR_goto (tgt := 23) dX9_kindOf_99 (by decide) ?_
                have f4 : b01 (fewB S set (p + 1) = true) = 0 := by first | exact b01_t (by rw [fewB]; grind) | exact b01_f (by rw [fewB]; grind)
                have f5 : b01 (twoB S set (p + 1) = true) = 0 := by first | exact b01_t (by rw [twoB]; grind) | exact b01_f (by rw [twoB]; grind)
                have e8 := ih (p + 1) (by omega)
                rw [f4, f5] at e8
                exact e8
              · refine eR_ic dX9_kindOf_89 ?_
                refine eR_goto (tgt := 94) dX9_kindOf_90 (by decide) ?_
                refine eR_ist_5 dX9_kindOf_94 (by decide) rfl ?_
                refine eR_iinc_6 dX9_kindOf_96 (by decide) rfl ?_
                refine eR_goto (tgt := 23) dX9_kindOf_99 (by decide) ?_
                have f4 : b01 (fewB S set (p + 1) = true) = 0 := by first | exact b01_t (by rw [fewB]; grind) | exact b01_f (by rw [fewB]; grind)
                have f5 : b01 (twoB S set (p + 1) = true) = 1 := by first | exact b01_t (by rw [twoB]; grind) | exact b01_f (by rw [twoB]; grind)
                have e8 := ih (p + 1) (by omega)
                rw [f4, f5] at e8
                exact e8
        · refine eR_ic dX9_kindOf_58 ?_
          refine eR_goto (tgt := 63) dX9_kindOf_59 (by decide) ?_
          refine eR_ist_4 dX9_kindOf_63 (by decide) rfl ?_
          refine eR_ild_5 dX9_kindOf_65 ?_
          refine eR_if_eq (tgt := 93) dX9_kindOf_67 (by decide) (by first | exact rg_b01 _ | (unfold rg; omega)) (fun c67 => ?_) (fun c67 => ?_)
          · replace c67 := b01_eq0.mp c67
            refine eR_ic dX9_kindOf_93 ?_
            refine eR_ist_5 dX9_kindOf_94 (by decide) rfl ?_
            refine eR_iinc_6 dX9_kindOf_96 (by decide) rfl ?_
            refine eR_goto (tgt := 23) dX9_kindOf_99 (by decide) ?_
            have f4 : b01 (fewB S set (p + 1) = true) = 1 := by first | exact b01_t (by rw [fewB]; grind) | exact b01_f (by rw [fewB]; grind)
            have f5 : b01 (twoB S set (p + 1) = true) = 0 := by first | exact b01_t (by rw [twoB]; grind) | exact b01_f (by rw [twoB]; grind)
            have e8 := ih (p + 1) (by omega)
            rw [f4, f5] at e8
            exact e8
          · replace c67 := b01_ne0.mp c67
            refine eR_ildn_1 dX9_kindOf_70 rfl ?_
            refine eR_ild_6 dX9_kindOf_71 ?_
            refine eR_callSi [_, _] rfl dX9_kindOf_73 ok_mX9_has kw_1047 rfl rfl (Nat.le_of_ble_eq_true rfl) (d' := 0) (by decide) (Nat.le_of_ble_eq_true rfl) ?_
            refine sp_has (n := set) (k := p) (by omega) (by omega) ?_
            refine eR_if_eq (tgt := 89) dX9_kindOf_76 (by decide) (by first | exact rg_b01 _ | (unfold rg; omega)) (fun c76 => ?_) (fun c76 => ?_)
            · replace c76 := b01_eq0.mp c76
              refine eR_ic dX9_kindOf_89 ?_
              refine eR_goto (tgt := 94) dX9_kindOf_90 (by decide) ?_
              refine eR_ist_5 dX9_kindOf_94 (by decide) rfl ?_
              refine eR_iinc_6 dX9_kindOf_96 (by decide) rfl ?_
              refine eR_goto (tgt := 23) dX9_kindOf_99 (by decide) ?_
              have f4 : b01 (fewB S set (p + 1) = true) = 1 := by first | exact b01_t (by rw [fewB]; grind) | exact b01_f (by rw [fewB]; grind)
              have f5 : b01 (twoB S set (p + 1) = true) = 1 := by first | exact b01_t (by rw [twoB]; grind) | exact b01_f (by rw [twoB]; grind)
              have e8 := ih (p + 1) (by omega)
              rw [f4, f5] at e8
              exact e8
            · replace c76 := b01_ne0.mp c76
              refine eR_aldn_0 dX9_kindOf_79 rfl ?_
              refine eR_ild_6 dX9_kindOf_80 ?_
              refine eR_callVi [_] rfl dX9_kindOf_82 ok_mX9_coatsOf kw_1122 rfl rfl th_205 rfl (Nat.le_of_ble_eq_true rfl) (d' := 2) (by decide) (Nat.le_of_ble_eq_true rfl) ?_
              refine sp_coatsOf (p := p) B V (by omega) ?_
              refine eR_ic dX9_kindOf_85 ?_
              refine eR_icmp_ne (tgt := 93) dX9_kindOf_86 (by decide) (by first | exact rg_b01 _ | (unfold rg; omega)) (by first | exact rg_b01 _ | (unfold rg; omega)) (fun c86 => ?_) (fun c86 => ?_)
              · refine eR_ic dX9_kindOf_93 ?_
                refine eR_ist_5 dX9_kindOf_94 (by decide) rfl ?_
                refine eR_iinc_6 dX9_kindOf_96 (by decide) rfl ?_
                refine eR_goto (tgt := 23) dX9_kindOf_99 (by decide) ?_
                have f4 : b01 (fewB S set (p + 1) = true) = 1 := by first | exact b01_t (by rw [fewB]; grind) | exact b01_f (by rw [fewB]; grind)
                have f5 : b01 (twoB S set (p + 1) = true) = 0 := by first | exact b01_t (by rw [twoB]; grind) | exact b01_f (by rw [twoB]; grind)
                have e8 := ih (p + 1) (by omega)
                rw [f4, f5] at e8
                exact e8
              · refine eR_ic dX9_kindOf_89 ?_
                refine eR_goto (tgt := 94) dX9_kindOf_90 (by decide) ?_
                refine eR_ist_5 dX9_kindOf_94 (by decide) rfl ?_
                refine eR_iinc_6 dX9_kindOf_96 (by decide) rfl ?_
                refine eR_goto (tgt := 23) dX9_kindOf_99 (by decide) ?_
                have f4 : b01 (fewB S set (p + 1) = true) = 1 := by first | exact b01_t (by rw [fewB]; grind) | exact b01_f (by rw [fewB]; grind)
                have f5 : b01 (twoB S set (p + 1) = true) = 1 := by first | exact b01_t (by rw [twoB]; grind) | exact b01_f (by rw [twoB]; grind)
                have e8 := ih (p + 1) (by omega)
                rw [f4, f5] at e8
                exact e8
theorem sp_kindOf (B : sB S) (V : mV h S) {set : Nat} (hs : set < 256) (k : Q (.int (zI ↑(kndN S set))) (tau t s) h) : eX g 3 mX9_kindOf 0 (lv_args 0 [.ref (gA g 205), .int (zI ↑set)]) [] (tau t s) h Q := by
  show eX g 3 mX9_kindOf 0 [(0, .ref (gA g 205)), (1, .int (zI ↑set))] [] (tau t s) h Q
  have hc9 := ctsN_256 B set
  refine eR_ildn_1 dX9_kindOf_0 rfl ?_
  refine eR_callSi [_] rfl dX9_kindOf_1 ok_mX9_ones kw_1115 rfl rfl (Nat.le_of_ble_eq_true rfl) (d' := 0) (by decide) (Nat.le_of_ble_eq_true rfl) ?_
  refine sp_ones (n := set) (by omega) ?_
  refine eR_istn_n2 dX9_kindOf_4 rfl (by decide) rfl ?_
  refine eR_aldn_0 dX9_kindOf_5 rfl ?_
  refine eR_ildn_1 dX9_kindOf_6 rfl ?_
  refine eR_callVi [_] rfl dX9_kindOf_7 ok_mX9_coatsIn kw_1118 rfl rfl th_205 rfl (Nat.le_of_ble_eq_true rfl) (d' := 2) (by decide) (Nat.le_of_ble_eq_true rfl) ?_
  refine sp_coatsIn (set := set) B V (by omega) ?_
  refine eR_callSi [_] rfl dX9_kindOf_10 ok_mX9_ones kw_1115 rfl rfl (Nat.le_of_ble_eq_true rfl) (d' := 0) (by decide) (Nat.le_of_ble_eq_true rfl) ?_
  refine sp_ones (n := (ctsN S set (sC S))) (by omega) ?_
  refine eR_istn_n3 dX9_kindOf_13 rfl (by decide) rfl ?_
  refine eR_ic dX9_kindOf_14 ?_
  refine eR_ist_n4 dX9_kindOf_15 (by decide) rfl ?_
  refine eR_ic dX9_kindOf_17 ?_
  refine eR_ist_n5 dX9_kindOf_18 (by decide) rfl ?_
  refine eR_ic dX9_kindOf_20 ?_
  refine eR_ist_n6 dX9_kindOf_21 (by decide) rfl ?_
  exact lp_kindOf B V hs k (sP S) 0 (by omega)
theorem sp_net (B : sB S) (V : mV h S) {p : Int} (hr_p : rg p) {what : Int} (hr_what : rg what) (k : Q (.int (zI (rNet S p what))) (tau t s) h) : eX g 4 mX9_net 0 (lv_args 0 [.ref (gA g 205), .int (zI p), .int (zI what)]) [] (tau t s) h Q := by
  show eX g 4 mX9_net 0 [(0, .ref (gA g 205)), (1, .int (zI p)), (2, .int (zI what))] [] (tau t s) h Q
  have hP8 := B.1
  have hC8 := B.2.1
  have hE10 := B.2.2.1
  have hF99 := B.2.2.2.2.2.2.1
  by_cases hq1 : 0 ≤ p ∧ p ≤ ↑(sP S) - 1
  · obtain ⟨pn, rfl⟩ : ∃ pn : Nat, p = (pn : Int) := ⟨p.toNat, by omega⟩
    have hn8 := netS_lt B (p := pn) (by omega)
    have hb8 := bcn_le (netS S pn) 24
    have hb9 := bcn_le (ctsN S (netS S pn) (sC S)) 24
    have hc9 := ctsN_256 B (netS S pn)
    refine eR_aldn_0 dX9_net_0 rfl ?_
    refine eR_ildn_1 dX9_net_1 rfl ?_
    refine eR_callVi [_] rfl dX9_net_2 ok_mX9_isPerson kw_1098 rfl rfl th_205 rfl (Nat.le_of_ble_eq_true rfl) (d' := 1) (by decide) (Nat.le_of_ble_eq_true rfl) ?_
    refine sp_isPerson B V (by first | assumption | (unfold rg; omega)) ?_
    refine eR_if_ne (tgt := 11) dX9_net_5 (by decide) (by first | assumption | exact rg_b01 _ | (unfold kndN rg; (repeat' split) <;> omega) | (unfold rg; omega) | (unfold rg at *; omega)) (fun c5 => ?_) (fun c5 => absurd c5 (by simp [b01, hq1]))
    refine eR_aldn_0 dX9_net_11 rfl ?_
    refine eR_ildn_1 dX9_net_12 rfl ?_
    refine eR_callVi [_] rfl dX9_net_13 ok_mX9_netOf kw_1077 rfl rfl th_205 rfl (Nat.le_of_ble_eq_true rfl) (d' := 2) (by decide) (Nat.le_of_ble_eq_true rfl) ?_
    refine sp_netOf (p := pn) B V (by omega) ?_
    refine eR_istn_n3 dX9_net_16 rfl (by decide) rfl ?_
    refine eR_aldn_0 dX9_net_17 rfl ?_
    refine eR_ildn_3 dX9_net_18 rfl ?_
    refine eR_callVi [_] rfl dX9_net_19 ok_mX9_kindOf kw_1111 rfl rfl th_205 rfl (Nat.le_of_ble_eq_true rfl) (d' := 3) (by decide) (Nat.le_of_ble_eq_true rfl) ?_
    refine sp_kindOf (set := (netS S pn)) B V (by omega) ?_
    refine eR_ist_n4 dX9_net_22 (by decide) rfl ?_
    refine eR_ildn_2 dX9_net_24 rfl ?_
    by_cases hsw : what < 0 ∨ 3 < what
    · refine eR_tabOut (tgt := 110) dX9_net_25 (by first | assumption | (unfold rg; omega)) hsw (by decide) ?_
      refine eR_ldc (z := -1000000002) dX9_net_110 kw_955 (by decide) ?_
      refine eR_iret dX9_net_112 rfl rfl ?_
      rw [show (rNet S ↑pn what : Int) = (-1000000002) from by unfold rNet; (try simp only [Int.toNat_natCast]); (repeat' split) <;> first | omega | rfl | simp_all] at k; exact k
    · rcases (show what = 0 ∨ what = 1 ∨ what = 2 ∨ what = 3 by omega) with rfl | rfl | rfl | rfl
      · refine eR_tabIn (off := 31) (tgt := 56) dX9_net_25 (by unfold rg; omega) (by decide) (by decide) rfl (by decide) ?_
        refine eR_ildn_3 dX9_net_56 rfl ?_
        refine eR_iret dX9_net_57 rfl rfl ?_
        rw [show (rNet S ↑pn 0 : Int) = ↑(netS S pn) from by unfold rNet; (try simp only [Int.toNat_natCast]); (repeat' split) <;> first | omega | rfl | simp_all] at k; exact k
      · refine eR_tabIn (off := 33) (tgt := 58) dX9_net_25 (by unfold rg; omega) (by decide) (by decide) rfl (by decide) ?_
        refine eR_aldn_0 dX9_net_58 rfl ?_
        refine eR_ildn_3 dX9_net_59 rfl ?_
        refine eR_callVi [_] rfl dX9_net_60 ok_mX9_coatsIn kw_1118 rfl rfl th_205 rfl (Nat.le_of_ble_eq_true rfl) (d' := 2) (by decide) (Nat.le_of_ble_eq_true rfl) ?_
        refine sp_coatsIn (set := (netS S pn)) B V (by omega) ?_
        refine eR_iret dX9_net_63 rfl rfl ?_
        rw [show (rNet S ↑pn 1 : Int) = ↑(ctsN S (netS S pn) (sC S)) from by unfold rNet; (try simp only [Int.toNat_natCast]); (repeat' split) <;> first | omega | rfl | simp_all] at k; exact k
      · refine eR_tabIn (off := 39) (tgt := 64) dX9_net_25 (by unfold rg; omega) (by decide) (by decide) rfl (by decide) ?_
        refine eR_ild_4 dX9_net_64 ?_
        refine eR_iret dX9_net_66 rfl rfl ?_
        rw [show (rNet S ↑pn 2 : Int) = ↑(kndN S (netS S pn)) from by unfold rNet; (try simp only [Int.toNat_natCast]); (repeat' split) <;> first | omega | rfl | simp_all] at k; exact k
      · refine eR_tabIn (off := 42) (tgt := 67) dX9_net_25 (by unfold rg; omega) (by decide) (by decide) rfl (by decide) ?_
        refine eR_ild_4 dX9_net_67 ?_
        refine eR_if_ne (tgt := 83) dX9_net_69 (by decide) (by first | assumption | exact rg_b01 _ | (unfold kndN rg; (repeat' split) <;> omega) | (unfold rg; omega) | (unfold rg at *; omega)) (fun c69 => ?_) (fun c69 => ?_)
        · refine eR_ild_4 dX9_net_83 ?_
          refine eR_ic dX9_net_85 ?_
          refine eR_icmp_ne (tgt := 96) dX9_net_86 (by decide) (by first | assumption | exact rg_b01 _ | (unfold kndN rg; (repeat' split) <;> omega) | (unfold rg; omega) | (unfold rg at *; omega)) (by first | assumption | exact rg_b01 _ | (unfold kndN rg; (repeat' split) <;> omega) | (unfold rg; omega) | (unfold rg at *; omega)) (fun c86 => ?_) (fun c86 => ?_)
          · refine eR_ildn_3 dX9_net_96 rfl ?_
            refine eR_callSi [_] rfl dX9_net_97 ok_mX9_ones kw_1115 rfl rfl (Nat.le_of_ble_eq_true rfl) (d' := 0) (by decide) (Nat.le_of_ble_eq_true rfl) ?_
            refine sp_ones (n := (netS S pn)) (by omega) ?_
            refine eR_aldn_0 dX9_net_100 rfl ?_
            refine eR_ildn_3 dX9_net_101 rfl ?_
            refine eR_callVi [_] rfl dX9_net_102 ok_mX9_coatsIn kw_1118 rfl rfl th_205 rfl (Nat.le_of_ble_eq_true rfl) (d' := 2) (by decide) (Nat.le_of_ble_eq_true rfl) ?_
            refine sp_coatsIn (set := (netS S pn)) B V (by omega) ?_
            refine eR_callSi [_] rfl dX9_net_105 ok_mX9_ones kw_1115 rfl rfl (Nat.le_of_ble_eq_true rfl) (d' := 0) (by decide) (Nat.le_of_ble_eq_true rfl) ?_
            refine sp_ones (n := (ctsN S (netS S pn) (sC S))) (by omega) ?_
            refine eR_iadd dX9_net_108 ?_
            refine eX_pcI (show ((↑(bcn (netS S pn) 24)) + (↑(bcn ((ctsN S (netS S pn) (sC S))) 24)) : Int) = ↑(bcn (netS S pn) 24 + bcn (ctsN S (netS S pn) (sC S)) 24 : Nat) from rfl) ?_
            refine eR_iret dX9_net_109 rfl rfl ?_
            rw [show (rNet S ↑pn 3 : Int) = ↑(bcn (netS S pn) 24 + bcn (ctsN S (netS S pn) (sC S)) 24 : Nat) from by unfold rNet; (try simp only [Int.toNat_natCast]); (repeat' split) <;> first | omega | rfl | simp_all] at k; exact k
          · refine eR_ildn_3 dX9_net_89 rfl ?_
            refine eR_callSi [_] rfl dX9_net_90 ok_mX9_ones kw_1115 rfl rfl (Nat.le_of_ble_eq_true rfl) (d' := 0) (by decide) (Nat.le_of_ble_eq_true rfl) ?_
            refine sp_ones (n := (netS S pn)) (by omega) ?_
            refine eR_goto (tgt := 109) dX9_net_93 (by decide) ?_
            refine eR_iret dX9_net_109 rfl rfl ?_
            rw [show (rNet S ↑pn 3 : Int) = ↑(bcn (netS S pn) 24) from by unfold rNet; (try simp only [Int.toNat_natCast]); (repeat' split) <;> first | omega | rfl | simp_all] at k; exact k
        · refine eR_ildn_3 dX9_net_72 rfl ?_
          refine eR_callSi [_] rfl dX9_net_73 ok_mX9_ones kw_1115 rfl rfl (Nat.le_of_ble_eq_true rfl) (d' := 0) (by decide) (Nat.le_of_ble_eq_true rfl) ?_
          refine sp_ones (n := (netS S pn)) (by omega) ?_
          refine eR_ic dX9_net_76 ?_
          refine eR_iadd dX9_net_77 ?_
          refine eR_ic dX9_net_78 ?_
          refine eR_idiv dX9_net_79 (by first | assumption | exact rg_b01 _ | (unfold kndN rg; (repeat' split) <;> omega) | (unfold rg; omega) | (unfold rg at *; omega)) (by first | assumption | exact rg_b01 _ | (unfold kndN rg; (repeat' split) <;> omega) | (unfold rg; omega) | (unfold rg at *; omega)) (by omega) ?_
          refine eX_pcI (show (Int.tdiv ((↑(bcn (netS S pn) 24)) + 1) 2 : Int) = ↑((bcn (netS S pn) 24 + 1) / 2 : Nat) from rfl) ?_
          refine eR_goto (tgt := 109) dX9_net_80 (by decide) ?_
          refine eR_iret dX9_net_109 rfl rfl ?_
          rw [show (rNet S ↑pn 3 : Int) = ↑((bcn (netS S pn) 24 + 1) / 2 : Nat) from by unfold rNet; (try simp only [Int.toNat_natCast]); (repeat' split) <;> first | omega | rfl | simp_all] at k; exact k
  · refine eR_aldn_0 dX9_net_0 rfl ?_
    refine eR_ildn_1 dX9_net_1 rfl ?_
    refine eR_callVi [_] rfl dX9_net_2 ok_mX9_isPerson kw_1098 rfl rfl th_205 rfl (Nat.le_of_ble_eq_true rfl) (d' := 1) (by decide) (Nat.le_of_ble_eq_true rfl) ?_
    refine sp_isPerson B V (by first | assumption | (unfold rg; omega)) ?_
    refine eR_if_ne (tgt := 11) dX9_net_5 (by decide) (by first | assumption | exact rg_b01 _ | (unfold kndN rg; (repeat' split) <;> omega) | (unfold rg; omega) | (unfold rg at *; omega)) (fun c5 => absurd c5 (by simp [b01, hq1])) (fun c5 => ?_)
    refine eR_ldc (z := -1000000001) dX9_net_8 kw_1089 (by decide) ?_
    refine eR_iret dX9_net_10 rfl rfl ?_
    rw [show (rNet S p what : Int) = (-1000000001) from by unfold rNet; (try simp only [Int.toNat_natCast]); (repeat' split) <;> first | omega | rfl | simp_all] at k; exact k
noncomputable def rToldM (h : PH) (S : TS) (what : Int) : Int := if what = 0 then (sP S : Int) else if what = 1 then (sC S : Int) else if what = 2 then (sE S : Int) else if what = 3 then h 205 13 else if what = 4 then (sF S : Int) else if what = 5 then (sK S : Int) else if what = 6 then h 205 26 else if what = 7 then h 205 28 else if what = 8 then dyC S 24 else if what = 9 then ((nmN S (sP S)).1 : Int) else -1000000002
theorem sp_told (B : sB S) (V : mV h S) {what : Int} (hr_what : rg what) (k : ∀ h1 : PH, ofO 219 h h1 → Q (.int (zI (rToldM h S what))) (tau t s) h1) : eX g 8 mX9_told 0 (lv_args 0 [.ref (gA g 205), .int (zI what)]) [] (tau t s) h Q := by
  show eX g 8 mX9_told 0 [(0, .ref (gA g 205)), (1, .int (zI what))] [] (tau t s) h Q
  have hP8 := B.1
  have hC8 := B.2.1
  have hE10 := B.2.2.1
  have hF99 := B.2.2.2.2.2.2.1
  refine eR_ildn_1 dX9_told_0 rfl ?_
  by_cases hsw : what < 0 ∨ 9 < what
  · refine eR_tabOut (tgt := 118) dX9_told_1 (by first | assumption | (unfold rg; omega)) hsw (by decide) ?_
    refine eR_ldc (z := -1000000002) dX9_told_118 kw_955 (by decide) ?_
    refine eR_iret dX9_told_120 rfl rfl ?_
    have k9 := k h (ofO_rf _ _)
    rw [show (rToldM h S what : Int) = (-1000000002) from by unfold rToldM; rw [if_neg (by omega), if_neg (by omega), if_neg (by omega), if_neg (by omega), if_neg (by omega), if_neg (by omega), if_neg (by omega), if_neg (by omega), if_neg (by omega), if_neg (by omega)]] at k9; exact k9
  · rcases (show what = 0 ∨ what = 1 ∨ what = 2 ∨ what = 3 ∨ what = 4 ∨ what = 5 ∨ what = 6 ∨ what = 7 ∨ what = 8 ∨ what = 9 by omega) with rfl | rfl | rfl | rfl | rfl | rfl | rfl | rfl | rfl | rfl
    · refine eR_tabIn (off := 55) (tgt := 56) dX9_told_1 (by unfold rg; omega) (by decide) (by decide) rfl (by decide) ?_
      refine eR_aldn_0 dX9_told_56 rfl ?_
      refine eR_getR (i := 217) dX9_told_57 gf_X9_44 th_205 rfl ?_
      refine eR_ic dX9_told_60 ?_
      refine eR_iald (n := 0) dX9_told_61 th_217 (rfl) (by decide) (by decide) ?_
      refine eX_pcI (V.1) ?_
      refine eR_iret dX9_told_62 rfl rfl ?_
      exact k h (ofO_rf _ _)
    · refine eR_tabIn (off := 62) (tgt := 63) dX9_told_1 (by unfold rg; omega) (by decide) (by decide) rfl (by decide) ?_
      refine eR_aldn_0 dX9_told_63 rfl ?_
      refine eR_getR (i := 217) dX9_told_64 gf_X9_44 th_205 rfl ?_
      refine eR_ic dX9_told_67 ?_
      refine eR_iald (n := 1) dX9_told_68 th_217 (rfl) (by decide) (by decide) ?_
      refine eX_pcI (V.2.1) ?_
      refine eR_iret dX9_told_69 rfl rfl ?_
      exact k h (ofO_rf _ _)
    · refine eR_tabIn (off := 69) (tgt := 70) dX9_told_1 (by unfold rg; omega) (by decide) (by decide) rfl (by decide) ?_
      refine eR_aldn_0 dX9_told_70 rfl ?_
      refine eR_getR (i := 217) dX9_told_71 gf_X9_44 th_205 rfl ?_
      refine eR_ic dX9_told_74 ?_
      refine eR_iald (n := 2) dX9_told_75 th_217 (rfl) (by decide) (by decide) ?_
      refine eX_pcI (V.2.2.1) ?_
      refine eR_iret dX9_told_76 rfl rfl ?_
      exact k h (ofO_rf _ _)
    · refine eR_tabIn (off := 76) (tgt := 77) dX9_told_1 (by unfold rg; omega) (by decide) (by decide) rfl (by decide) ?_
      refine eR_aldn_0 dX9_told_77 rfl ?_
      refine eR_getI dX9_told_78 gf_X9_76 th_205 rfl ?_
      refine eR_iret dX9_told_81 rfl rfl ?_
      exact k h (ofO_rf _ _)
    · refine eR_tabIn (off := 81) (tgt := 82) dX9_told_1 (by unfold rg; omega) (by decide) (by decide) rfl (by decide) ?_
      refine eR_aldn_0 dX9_told_82 rfl ?_
      refine eR_getR (i := 206) dX9_told_83 gf_X9_7 th_205 rfl ?_
      refine eR_bi (z := 17) dX9_told_86 rfl ?_
      refine eR_iald (n := 17) dX9_told_88 th_206 (rfl) (by decide) (by decide) ?_
      refine eX_pcI (V.2.2.2.2.2.2.1) ?_
      refine eR_iret dX9_told_89 rfl rfl ?_
      exact k h (ofO_rf _ _)
    · refine eR_tabIn (off := 89) (tgt := 90) dX9_told_1 (by unfold rg; omega) (by decide) (by decide) rfl (by decide) ?_
      refine eR_aldn_0 dX9_told_90 rfl ?_
      refine eR_getR (i := 206) dX9_told_91 gf_X9_7 th_205 rfl ?_
      refine eR_bi (z := 16) dX9_told_94 rfl ?_
      refine eR_iald (n := 16) dX9_told_96 th_206 (rfl) (by decide) (by decide) ?_
      refine eX_pcI (V.2.2.2.2.2.1) ?_
      refine eR_iret dX9_told_97 rfl rfl ?_
      exact k h (ofO_rf _ _)
    · refine eR_tabIn (off := 97) (tgt := 98) dX9_told_1 (by unfold rg; omega) (by decide) (by decide) rfl (by decide) ?_
      refine eR_aldn_0 dX9_told_98 rfl ?_
      refine eR_getI dX9_told_99 gf_X9_154 th_205 rfl ?_
      refine eR_iret dX9_told_102 rfl rfl ?_
      exact k h (ofO_rf _ _)
    · refine eR_tabIn (off := 102) (tgt := 103) dX9_told_1 (by unfold rg; omega) (by decide) (by decide) rfl (by decide) ?_
      refine eR_aldn_0 dX9_told_103 rfl ?_
      refine eR_getI dX9_told_104 gf_X9_157 th_205 rfl ?_
      refine eR_iret dX9_told_107 rfl rfl ?_
      exact k h (ofO_rf _ _)
    · refine eR_tabIn (off := 107) (tgt := 108) dX9_told_1 (by unfold rg; omega) (by decide) (by decide) rfl (by decide) ?_
      refine eR_aldn_0 dX9_told_108 rfl ?_
      refine eR_callVi [] rfl dX9_told_109 ok_mX9_dayChill kw_1023 rfl rfl th_205 rfl (Nat.le_of_ble_eq_true rfl) (d' := 7) (by decide) (Nat.le_of_ble_eq_true rfl) ?_
      refine sp_dayChill B V (fun k2 Ok2 => ?_)
      have Vk2 := mV_o V Ok2 (by decide)
      refine eR_iret dX9_told_112 rfl rfl ?_
      exact k k2 (Ok2)
    · refine eR_tabIn (off := 112) (tgt := 113) dX9_told_1 (by unfold rg; omega) (by decide) (by decide) rfl (by decide) ?_
      refine eR_aldn_0 dX9_told_113 rfl ?_
      refine eR_callVi [] rfl dX9_told_114 ok_mX9_netMany kw_1073 rfl rfl th_205 rfl (Nat.le_of_ble_eq_true rfl) (d' := 3) (by decide) (Nat.le_of_ble_eq_true rfl) ?_
      refine sp_netMany B V ?_
      refine eR_iret dX9_told_117 rfl rfl ?_
      exact k h (ofO_rf _ _)
end M20
