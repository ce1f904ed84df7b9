/-- byte k of a long, from below -/
def bytL (x : Int64) (k : Nat) : Nat := x.toBitVec.toNat / 2 ^ (8 * k) % 256
theorem bytL_lt (x : Int64) (k : Nat) : bytL x k < 256 := Nat.mod_lt _ (by decide)
theorem sh_am (k : Nat) (hk : k < 8) : ((zI (8 * (k : Int))).toInt64 &&& 63) = Int64.ofNat (8 * k) := by
  rcases (show k = 0 ∨ k = 1 ∨ k = 2 ∨ k = 3 ∨ k = 4 ∨ k = 5 ∨ k = 6 ∨ k = 7 by omega) with rfl | rfl | rfl | rfl | rfl | rfl | rfl | rfl <;> decide
theorem sh_au (k : Nat) (hk : k < 8) : ((zI (8 * (k : Int))).toInt64.toUInt64 &&& Int64.toUInt64 63) = UInt64.ofNat (8 * k) := by
  rcases (show k = 0 ∨ k = 1 ∨ k = 2 ∨ k = 3 ∨ k = 4 ∨ k = 5 ∨ k = 6 ∨ k = 7 by omega) with rfl | rfl | rfl | rfl | rfl | rfl | rfl | rfl <;> decide
theorem sh_b (k : Nat) (hk : k < 8) : ((Int64.ofNat (8 * k)).toBitVec.smod 64).toNat = 8 * k := by
  rcases (show k = 0 ∨ k = 1 ∨ k = 2 ∨ k = 3 ∨ k = 4 ∨ k = 5 ∨ k = 6 ∨ k = 7 by omega) with rfl | rfl | rfl | rfl | rfl | rfl | rfl | rfl <;> decide
theorem sh_c (k : Nat) (hk : k < 8) : (UInt64.ofNat (8 * k)).toNat % 64 = 8 * k := by
  rcases (show k = 0 ∨ k = 1 ∨ k = 2 ∨ k = 3 ∨ k = 4 ∨ k = 5 ∨ k = 6 ∨ k = 7 by omega) with rfl | rfl | rfl | rfl | rfl | rfl | rfl | rfl <;> decide
theorem m255 (i : Nat) : (255 : Nat).testBit i = decide (i < 8) := by
  have := Nat.testBit_two_pow_sub_one 8 i
  exact this
theorem byt_bv {b : BitVec 64} {x : Int64} {k : Nat} (hb : ∀ i, i < 8 → b.getLsbD i = x.toBitVec.getLsbD (8 * k + i)) : (Int64.ofBitVec (b &&& 255)).toInt32 = zI ((bytL x k : Nat) : Int) := by
  rw [zI_nI]
  apply Int32.toBitVec_inj.mp
  show (b &&& 255).signExtend 32 = BitVec.ofNat 32 (bytL x k)
  apply BitVec.eq_of_getLsbD_eq
  intro i hi
  rw [BitVec.signExtend_eq_setWidth_of_le _ (by decide), BitVec.getLsbD_setWidth, BitVec.getLsbD_and, BitVec.getLsbD_ofNat]
  have e1 : (255 : BitVec 64).getLsbD i = decide (i < 8) := by
    show (BitVec.ofNat 64 255).getLsbD i = _
    rw [BitVec.getLsbD_ofNat, m255]
    simp
    omega
  rw [e1]
  unfold bytL
  rw [show (256 : Nat) = 2 ^ 8 from rfl, Nat.testBit_mod_two_pow, Nat.testBit_div_two_pow]
  by_cases h8 : i < 8
  · rw [hb i h8, decide_eq_true h8, decide_eq_true hi, Bool.and_true, BitVec.getLsbD]
    simp [Nat.add_comm]
  · rw [decide_eq_false h8]; simp
theorem byt_r (x : Int64) {k : Nat} (hk : k < 8) : (x >>> ((zI (8 * (k : Int))).toInt64 &&& 63) &&& 255).toInt32 = zI ((bytL x k : Nat) : Int) := by
  rw [sh_am k hk]
  refine byt_bv (b := (x >>> Int64.ofNat (8 * k)).toBitVec) (fun i hi => ?_)
  rw [Int64.toBitVec_shiftRight, BitVec.sshiftRight_eq', sh_b k hk, BitVec.getLsbD_sshiftRight]
  have h1 : ¬ 64 ≤ i := by omega
  have h2 : 8 * k + i < 64 := by omega
  simp [h1, h2]
theorem byt_u (x : Int64) {k : Nat} (hk : k < 8) : ((x.toUInt64 >>> ((zI (8 * (k : Int))).toInt64.toUInt64 &&& Int64.toUInt64 63)).toInt64 &&& 255).toInt32 = zI ((bytL x k : Nat) : Int) := by
  rw [sh_au k hk]
  refine byt_bv (b := (x.toUInt64 >>> UInt64.ofNat (8 * k)).toBitVec) (fun i hi => ?_)
  rw [UInt64.toBitVec_shiftRight]
  rw [BitVec.ushiftRight_eq', BitVec.toNat_umod]
  show (x.toUInt64.toBitVec >>> ((UInt64.ofNat (8 * k)).toNat % 64)).getLsbD i = _
  rw [sh_c k hk, BitVec.getLsbD_ushiftRight]
  rfl
theorem eX_pcV {g : EG} {d : Nat} {M : MM} {pc : Nat} {lv : List (Nat × Value)} {st : List Value} {τ : List Kd} {h : PH} {Q : EQ} {x y : Int32} (e9 : x = y) (k : eX g d M pc lv (.int y :: st) τ h Q) : eX g d M pc lv (.int x :: st) τ h Q := by rw [e9]; exact k
/-- THE TEXT with bytes behind it -/
def fdT (T : Nat → Nat) (n : Nat) (x : Int64) (c : Nat) (y : Nat) : Nat := if y < n then T y else bytL x (c - 1 - (y - n))
theorem fdT_lt {T : Nat → Nat} {n : Nat} {x : Int64} {c : Nat} (B : tB T n) (hc : n + c ≤ 400) : tB (fdT T n x c) (n + c) := ⟨hc, fun y _ => by
  unfold fdT
  split
  · rename_i q; exact B.2 y q
  · exact bytL_lt _ _⟩
theorem mT_e {h : PH} {T T' : Nat → Nat} {n : Nat} (V : mT h T n) (e : ∀ y, y < n → T' y = T y) : mT h T' n := ⟨V.1, fun y hy => by rw [e y hy]; exact V.2 y hy⟩
def fdF (h h' : PH) : Prop := ∀ a i, ¬ (a = 218 ∨ (a = 205 ∧ i = 13)) → h' a i = h a i
section M40
variable {g : EG} {d t s : Nat} {h h0 : PH} {Q : EQ} {T : Nat → Nat} {n : Nat}
theorem lp_feed {x : Int64} {c : Nat} (hc : c ≤ 8) (hn : n + c ≤ 400) (k : ∀ h1 : PH, fdF h h1 → mT h1 (fdT T n x c) (n + c) → Q (.int (zI ↑(n + c))) (tau t s) h1) : ∀ m : Nat, m ≤ c → ∀ h1 : PH, fdF h h1 → mT h1 (fdT T n x c) (n + c - m) → eX g 0 mX9_feed 35 [(0, .ref (gA g 205)), (1, .int (zI ↑c)), (2, .long x), (4, .int (zI (↑m - 1)))] [] (tau t s) h1 Q := by
  intro m
  induction m with
  | zero =>
    intro hm h1 F1 T1
    refine eR_ild_3 dX9_feed_35 ?_
    refine eR_if_lt (tgt := 77) dX9_feed_37 (by decide) (by first | exact rg_b01 _ | (unfold rg; omega)) (fun c37 => ?_) (fun c37 => absurd c37 (by omega))
    refine eR_aldn_0 dX9_feed_77 rfl ?_
    refine eR_getI dX9_feed_78 gf_X9_76 th_205 rfl ?_
    refine eX_pcI (T1.1) ?_
    refine eR_iret dX9_feed_81 rfl rfl ?_
    rw [Nat.sub_zero] at T1 ⊢
    exact k h1 F1 T1
  | succ m ih =>
    intro hm h1 F1 T1
    refine eR_ild_3 dX9_feed_35 ?_
    refine eR_if_lt (tgt := 77) dX9_feed_37 (by decide) (by first | exact rg_b01 _ | (unfold rg; omega)) (fun c37 => absurd c37 (by omega)) (fun c37 => ?_)
    rw [show ((↑(m + 1) : Int) - 1) = ↑m from by omega]
    refine eR_aldn_0 dX9_feed_40 rfl ?_
    refine eR_getR (i := 218) dX9_feed_41 gf_X9_47 th_205 rfl ?_
    refine eR_aldn_0 dX9_feed_44 rfl ?_
    refine eR_getI dX9_feed_45 gf_X9_76 th_205 rfl ?_
    refine eX_pcI (T1.1) ?_
    refine eR_lldn_2 dX9_feed_48 rfl ?_
    refine eR_bi (z := 8) dX9_feed_49 rfl ?_
    refine eR_ild_3 dX9_feed_51 ?_
    refine eR_imul dX9_feed_53 ?_
    refine eR_lshr dX9_feed_54 ?_
    refine eR_ldc2 (z := 255) dX9_feed_55 kw_957 (by decide) ?_
    refine eR_land dX9_feed_58 ?_
    refine eR_l2i dX9_feed_59 ?_
    refine eX_pcV (byt_r x (k := m) (by omega)) ?_
    refine eR_iast (n := n + c - (m + 1)) dX9_feed_60 th_218 (rfl) (by omega) (by decide) ?_
    refine eR_aldn_0 dX9_feed_61 rfl ?_
    refine eR_dup dX9_feed_62 rfl ?_
    refine eR_getI dX9_feed_63 gf_X9_76 th_205 rfl ?_
    refine eX_pcI (congrFun (hU_a _ _ _ (by decide)) _) ?_
    refine eX_pcI (T1.1) ?_
    refine eR_ic dX9_feed_66 ?_
    refine eR_iadd dX9_feed_67 ?_
    refine eR_putI dX9_feed_68 pf_X9_76 th_205 rfl ?_
    refine eR_iinc_3 dX9_feed_71 (by decide) rfl ?_
    refine eR_goto (tgt := 35) dX9_feed_74 (by decide) ?_
    rw [show ((↑m : Int) + (-1)) = ↑m - 1 from by omega]
    refine ih (by omega) _ (fun a i q => by rw [hU_ne (by omega), hU_ne (by omega)]; exact F1 a i q) ⟨?_, fun y hy => ?_⟩
    · rw [hU_s]; omega
    · by_cases hyy : y = n + c - (m + 1)
      · rw [hyy, hU_ne (by omega), hU_s]
        unfold fdT
        rw [if_neg (by omega), show c - 1 - (n + c - (m + 1) - n) = m from by omega]
      · rw [hU_ne (by omega), hU_ne (by omega)]
        exact T1.2 y (by omega)
theorem sp_feed (B : tB T n) (Th : mT h T n) {x : Int64} {N : Int} (hr_N : rg N) (k0 : ¬ (1 ≤ N ∧ N ≤ 8) → Q (.int (zI (-1000000002))) (tau t s) h) (k1 : (1 ≤ N ∧ N ≤ 8) → 400 < (n : Int) + N → Q (.int (zI (-1000000004))) (tau t s) h) (k2 : ∀ c : Nat, N = (c : Int) → 1 ≤ c → c ≤ 8 → n + c ≤ 400 → ∀ h1 : PH, fdF h h1 → mT h1 (fdT T n x c) (n + c) → Q (.int (zI ↑(n + c))) (tau t s) h1) : eX g 1 mX9_feed 0 (lv_args 0 [.ref (gA g 205), .int (zI N), .long x]) [] (tau t s) h Q := by
  show eX g 1 mX9_feed 0 [(0, .ref (gA g 205)), (1, .int (zI N)), (2, .long x)] [] (tau t s) h Q
  have hn9 := B.1
  by_cases hq1 : 1 ≤ N ∧ N ≤ 8
  · obtain ⟨c, rfl⟩ : ∃ c : Nat, N = (c : Int) := ⟨N.toNat, by omega⟩
    by_cases hq2 : n + c ≤ 400
    · refine eR_ildn_1 dX9_feed_0 rfl ?_
      refine eR_i2lz dX9_feed_1 (by first | assumption | exact rg_b01 _ | (unfold rg; omega) | (unfold rg at *; omega)) ?_
      refine eR_lc (z := 1) dX9_feed_2 rfl ?_
      refine eR_ldc2 (z := 8) dX9_feed_3 kw_951 (by decide) ?_
      refine eR_callSi [_, _, _] rfl dX9_feed_6 ok_mX9_in kw_952 rfl rfl (Nat.le_of_ble_eq_true rfl) (d' := 0) (by decide) (Nat.le_of_ble_eq_true rfl) ?_
      refine sp_in (by first | (unfold rL; omega) | (unfold rL; unfold rg at *; omega)) (by first | (unfold rL; omega) | (unfold rL; unfold rg at *; omega)) (by first | (unfold rL; omega) | (unfold rL; unfold rg at *; omega)) ?_
      refine eR_if_ne (tgt := 15) dX9_feed_9 (by decide) (by first | assumption | exact rg_b01 _ | (unfold rg; omega) | (unfold rg at *; omega)) (fun c9 => ?_) (fun c9 => absurd c9 (by first | simp [b01, hq1] | (rw [b01_t hq1]; decide)))
      refine eR_aldn_0 dX9_feed_15 rfl ?_
      refine eR_getI dX9_feed_16 gf_X9_76 th_205 rfl ?_
      refine eX_pcI (Th.1) ?_
      refine eR_ildn_1 dX9_feed_19 rfl ?_
      refine eR_iadd dX9_feed_20 ?_
      refine eR_si (z := 400) dX9_feed_21 rfl ?_
      refine eR_icmp_le (tgt := 30) dX9_feed_24 (by decide) (by first | assumption | exact rg_b01 _ | (unfold rg; omega) | (unfold rg at *; omega)) (by first | assumption | exact rg_b01 _ | (unfold rg; omega) | (unfold rg at *; omega)) (fun c24 => ?_) (fun c24 => absurd c24 (by omega))
      refine eR_ildn_1 dX9_feed_30 rfl ?_
      refine eR_ic dX9_feed_31 ?_
      refine eR_isub dX9_feed_32 ?_
      refine eR_ist_n3 dX9_feed_33 (by decide) rfl ?_
      refine eX_d (Nat.zero_le _) (lp_feed (n := n) (T := T) (by omega) hq2 (k2 c rfl (by omega) (by omega) hq2) c (Nat.le_refl _) h (fun _ _ _ => rfl) ?_)
      rw [Nat.add_sub_cancel]
      exact mT_e Th (fun y hy => if_pos hy)
    · refine eR_ildn_1 dX9_feed_0 rfl ?_
      refine eR_i2lz dX9_feed_1 (by first | assumption | exact rg_b01 _ | (unfold rg; omega) | (unfold rg at *; omega)) ?_
      refine eR_lc (z := 1) dX9_feed_2 rfl ?_
      refine eR_ldc2 (z := 8) dX9_feed_3 kw_951 (by decide) ?_
      refine eR_callSi [_, _, _] rfl dX9_feed_6 ok_mX9_in kw_952 rfl rfl (Nat.le_of_ble_eq_true rfl) (d' := 0) (by decide) (Nat.le_of_ble_eq_true rfl) ?_
      refine sp_in (by first | (unfold rL; omega) | (unfold rL; unfold rg at *; omega)) (by first | (unfold rL; omega) | (unfold rL; unfold rg at *; omega)) (by first | (unfold rL; omega) | (unfold rL; unfold rg at *; omega)) ?_
      refine eR_if_ne (tgt := 15) dX9_feed_9 (by decide) (by first | assumption | exact rg_b01 _ | (unfold rg; omega) | (unfold rg at *; omega)) (fun c9 => ?_) (fun c9 => absurd c9 (by first | simp [b01, hq1] | (rw [b01_t hq1]; decide)))
      refine eR_aldn_0 dX9_feed_15 rfl ?_
      refine eR_getI dX9_feed_16 gf_X9_76 th_205 rfl ?_
      refine eX_pcI (Th.1) ?_
      refine eR_ildn_1 dX9_feed_19 rfl ?_
      refine eR_iadd dX9_feed_20 ?_
      refine eR_si (z := 400) dX9_feed_21 rfl ?_
      refine eR_icmp_le (tgt := 30) dX9_feed_24 (by decide) (by first | assumption | exact rg_b01 _ | (unfold rg; omega) | (unfold rg at *; omega)) (by first | assumption | exact rg_b01 _ | (unfold rg; omega) | (unfold rg at *; omega)) (fun c24 => absurd c24 (by omega)) (fun c24 => ?_)
      refine eR_ldc (z := -1000000004) dX9_feed_27 kw_956 (by decide) ?_
      refine eR_iret dX9_feed_29 rfl rfl ?_
      exact k1 hq1 (by omega)
  · refine eR_ildn_1 dX9_feed_0 rfl ?_
    refine eR_i2lz dX9_feed_1 (by first | assumption | exact rg_b01 _ | (unfold rg; omega) | (unfold rg at *; omega)) ?_
    refine eR_lc (z := 1) dX9_feed_2 rfl ?_
    refine eR_ldc2 (z := 8) dX9_feed_3 kw_951 (by decide) ?_
    refine eR_callSi [_, _, _] rfl dX9_feed_6 ok_mX9_in kw_952 rfl rfl (Nat.le_of_ble_eq_true rfl) (d' := 0) (by decide) (Nat.le_of_ble_eq_true rfl) ?_
    refine sp_in (by first | (unfold rL; omega) | (unfold rL; unfold rg at *; omega)) (by first | (unfold rL; omega) | (unfold rL; unfold rg at *; omega)) (by first | (unfold rL; omega) | (unfold rL; unfold rg at *; omega)) ?_
    refine eR_if_ne (tgt := 15) dX9_feed_9 (by decide) (by first | assumption | exact rg_b01 _ | (unfold rg; omega) | (unfold rg at *; omega)) (fun c9 => absurd c9 (by first | (simp [b01, hq1]; done) | (rw [b01_f hq1]; decide))) (fun c9 => ?_)
    refine eR_ldc (z := -1000000002) dX9_feed_12 kw_955 (by decide) ?_
    refine eR_iret dX9_feed_14 rfl rfl ?_
    exact k0 hq1
end M40
