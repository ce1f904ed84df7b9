theorem us_l : ∀ n, n < 32 → ((nI n).toUInt32 &&& Int32.toUInt32 31) = UInt32.ofNat n := by decide +kernel
theorem zUshr_nat {a k : Nat} (hk : k < 32) (h : a < 2147483648) : zUshr (a : Int) (k : Int) = ((a / 2 ^ k : Nat) : Int) := by
  unfold zUshr
  rw [zI_nI, zI_nI, us_l k hk]
  have e : ((nI a).toUInt32 >>> UInt32.ofNat k).toInt32 = nI (a / 2 ^ k) := by
    apply Int32.toBitVec_inj.mp
    apply BitVec.eq_of_toNat_eq
    show ((nI a).toUInt32 >>> UInt32.ofNat k).toNat = (BitVec.ofNat 32 (a / 2 ^ k)).toNat
    rw [UInt32.toNat_shiftRight, BitVec.toNat_ofNat]
    have h1 : (nI a).toUInt32.toNat = a := by
      show (BitVec.ofNat 32 a).toNat = a
      rw [BitVec.toNat_ofNat, Nat.mod_eq_of_lt (by omega)]
    have h2 : (UInt32.ofNat k).toNat = k := by
      show (BitVec.ofNat 32 k).toNat = k
      rw [BitVec.toNat_ofNat, Nat.mod_eq_of_lt (by omega)]
    have h3 := Nat.div_le_self a (2 ^ k)
    rw [h1, h2, Nat.mod_eq_of_lt hk, Nat.shiftRight_eq_div_pow, Nat.mod_eq_of_lt (by omega)]
  rw [e, nI_toIntN (Nat.lt_of_le_of_lt (Nat.div_le_self _ _) h)]
theorem and_sp {a b m k : Nat} (ha : a < 256) (hm : m < 256) : (a + 256 * b) &&& (m + 256 * k) = (a &&& m) + 256 * (b &&& k) := by
  have h1 : a &&& m < 256 := Nat.lt_of_le_of_lt Nat.and_le_left ha
  apply Nat.eq_of_testBit_eq
  intro i
  have e : ∀ x y, x < 256 → (x + 256 * y).testBit i = if i < 8 then x.testBit i else y.testBit (i - 8) := fun x y hx => by
    rw [Nat.add_comm, show (256 : Nat) = 2 ^ 8 from rfl]
    exact Nat.testBit_two_pow_mul_add y (show x < 2 ^ 8 from hx) i
  rw [Nat.testBit_and, e a b ha, e m k hm, e _ _ h1]
  split <;> rw [Nat.testBit_and]
theorem b55 : ∀ a, a < 256 → ∀ e, e < 2 → (a / 2 + 128 * e) &&& 85 = (a / 2) &&& 85 := by decide +kernel
theorem b33 : ∀ a, a < 256 → ∀ e, e < 4 → (a / 4 + 64 * e) &&& 51 = (a / 4) &&& 51 := by decide +kernel
theorem b0f : ∀ a, a < 137 → a &&& 15 = a % 16 := by decide +kernel
def q1B (a : Nat) : Nat := a - ((a / 2) &&& 85)
def q2B (a : Nat) : Nat := (q1B a &&& 51) + ((q1B a / 4) &&& 51)
theorem q1_le : ∀ a, a < 256 → q1B a < 256 ∧ (a / 2) &&& 85 ≤ a := by decide +kernel
theorem q2_le : ∀ a, a < 256 → q2B a ≤ 68 ∧ (q2B a + q2B a / 16) % 16 = bcn a 8 ∧ q2B a % 16 ≤ 4 := by decide +kernel
theorem q2_e : ∀ a, a < 256 → ∀ e, e < 5 → (q2B a + q2B a / 16 + 16 * e) &&& 15 = bcn a 8 := by decide +kernel
theorem bcn_add (n k m : Nat) : bcn n (k + m) = bcn n k + bcn (n / 2 ^ k) m := by
  induction m with
  | zero => rfl
  | succ m ih =>
    show bcn n (k + m) + (if n.testBit (k + m) = true then 1 else 0) = bcn n k + (bcn (n / 2 ^ k) m + (if (n / 2 ^ k).testBit m = true then 1 else 0))
    rw [ih, Nat.testBit_div_two_pow, Nat.add_comm m k]
    omega
theorem bcn_mod {n w : Nat} : ∀ k, k ≤ w → bcn (n % 2 ^ w) k = bcn n k := by
  intro k
  induction k with
  | zero => intro _; rfl
  | succ k ih =>
    intro hk
    show bcn (n % 2 ^ w) k + _ = bcn n k + _
    rw [ih (by omega), Nat.testBit_mod_two_pow, decide_eq_true (show k < w by omega), Bool.true_and]
/-- the count, as the machine makes it -/
def sw1 (n : Nat) : Nat := n - (n / 2 &&& 1431655765)
def sw2 (n : Nat) : Nat := (sw1 n &&& 858993459) + (sw1 n / 4 &&& 858993459)
def sw3 (n : Nat) : Nat := (sw2 n + sw2 n / 16) &&& 252645135
def sw4 (n : Nat) : Nat := sw3 n + sw3 n / 256
def sw5 (n : Nat) : Nat := sw4 n + sw4 n / 65536
theorem and3 {a b c m : Nat} (ha : a < 256) (hb : b < 256) (hm : m < 256) (k : Nat) : (a + 256 * (b + 256 * c)) &&& (m + 256 * (m + 256 * (m + 256 * k))) = (a &&& m) + 256 * ((b &&& m) + 256 * (c &&& (m + 256 * k))) := by
  rw [and_sp ha hm, and_sp hb hm]
theorem and_lo {c m k : Nat} (hc : c < 256) (hm : m < 256) : c &&& (m + 256 * k) = c &&& m := by
  have := and_sp (b := 0) (k := k) hc hm
  simpa using this
theorem sw_all {a b c : Nat} (ha : a < 256) (hb : b < 256) (hc : c < 256) : sw5 (a + 256 * (b + 256 * c)) &&& 63 = bcn a 8 + bcn b 8 + bcn c 8 := by
  have e1 : sw1 (a + 256 * (b + 256 * c)) = q1B a + 256 * (q1B b + 256 * q1B c) := by
    unfold sw1
    have h1 : (a + 256 * (b + 256 * c)) / 2 = (a / 2 + 128 * (b % 2)) + 256 * ((b / 2 + 128 * (c % 2)) + 256 * (c / 2)) := by omega
    rw [h1, show (1431655765 : Nat) = 85 + 256 * (85 + 256 * (85 + 256 * 85)) from rfl, and3 (by omega) (by omega) (by decide), b55 a ha _ (by omega), b55 b hb _ (by omega), and_lo (by omega) (by decide)]
    have q1 := (q1_le a ha).2
    have q2 := (q1_le b hb).2
    have q3 := (q1_le c hc).2
    unfold q1B
    omega
  have l1 := (q1_le a ha).1
  have l2 := (q1_le b hb).1
  have l3 := (q1_le c hc).1
  have e2 : sw2 (a + 256 * (b + 256 * c)) = q2B a + 256 * (q2B b + 256 * q2B c) := by
    unfold sw2
    rw [e1]
    have h1 : (q1B a + 256 * (q1B b + 256 * q1B c)) / 4 = (q1B a / 4 + 64 * (q1B b % 4)) + 256 * ((q1B b / 4 + 64 * (q1B c % 4)) + 256 * (q1B c / 4)) := by omega
    rw [h1, show (858993459 : Nat) = 51 + 256 * (51 + 256 * (51 + 256 * 51)) from rfl, and3 l1 l2 (by decide), and3 (by omega) (by omega) (by decide), b33 _ l1 _ (by omega), b33 _ l2 _ (by omega), and_lo l3 (by decide), and_lo (by omega) (by decide)]
    unfold q2B
    omega
  have m1 := q2_le a ha
  have m2 := q2_le b hb
  have m3 := q2_le c hc
  have e3 : sw3 (a + 256 * (b + 256 * c)) = bcn a 8 + 256 * (bcn b 8 + 256 * bcn c 8) := by
    unfold sw3
    rw [e2]
    have h1 : q2B a + 256 * (q2B b + 256 * q2B c) + (q2B a + 256 * (q2B b + 256 * q2B c)) / 16 = (q2B a + q2B a / 16 + 16 * (q2B b % 16)) + 256 * ((q2B b + q2B b / 16 + 16 * (q2B c % 16)) + 256 * (q2B c + q2B c / 16 + 16 * 0)) := by omega
    rw [h1, show (252645135 : Nat) = 15 + 256 * (15 + 256 * (15 + 256 * 15)) from rfl, and3 (by omega) (by omega) (by decide), q2_e a ha _ (by omega), q2_e b hb _ (by omega), and_lo (by omega) (by decide), q2_e c hc _ (by omega)]
  have n1 := bcn_le a 8
  have n2 := bcn_le b 8
  have n3 := bcn_le c 8
  unfold sw5 sw4
  rw [e3, show (63 : Nat) = 2 ^ 6 - 1 from rfl, Nat.and_two_pow_sub_one_eq_mod]
  generalize bcn a 8 = A at *
  generalize bcn b 8 = B at *
  generalize bcn c 8 = C at *
  have f1 : (A + 256 * (B + 256 * C)) / 256 = B + 256 * C := by omega
  rw [f1]
  have f2 : (A + 256 * (B + 256 * C) + (B + 256 * C)) / 65536 = C := by omega
  rw [f2]
  omega
theorem sw_bcn {n : Nat} (hn : n < 16777216) : sw5 n &&& 63 = bcn n 24 := by
  have h1 : n = n % 256 + 256 * (n / 256 % 256 + 256 * (n / 65536)) := by omega
  have h2 := sw_all (a := n % 256) (b := n / 256 % 256) (c := n / 65536) (by omega) (by omega) (by omega)
  rw [← h1] at h2
  have e1 : bcn (n % 256) 8 = bcn n 8 := bcn_mod (n := n) (w := 8) 8 (Nat.le_refl _)
  have e2 : bcn (n / 256 % 256) 8 = bcn (n / 256) 8 := bcn_mod (n := n / 256) (w := 8) 8 (Nat.le_refl _)
  have e3 : bcn n 24 = bcn n 8 + bcn (n / 256) 16 := bcn_add n 8 16
  have e4 : bcn (n / 256) 16 = bcn (n / 256) 8 + bcn (n / 256 / 256) 8 := bcn_add (n / 256) 8 8
  rw [Nat.div_div_eq_div_mul, show 256 * 256 = 65536 from rfl] at e4
  rw [h2, e3, e4, e1, e2]
  omega
section M42
variable {g : EG} {d t s u : Nat} {h h1 : PH} {Q : EQ} {S : TS}
theorem sp_bitCount {n : Nat} (hn : n < 16777216) (k : Q (.int (zI ↑(bcn n 24))) (tau t s) h) : eX g 0 mJ6_bitCount_0f7a4 0 (lv_args 0 [.int (zI ↑n)]) [] (tau t s) h Q := by
  show eX g 0 mJ6_bitCount_0f7a4 0 [(0, .int (zI ↑n))] [] (tau t s) h Q
  have l1 : n / 2 &&& 1431655765 ≤ n / 2 := Nat.and_le_left
  have l2 : sw1 n ≤ n := Nat.sub_le _ _
  have l3 : sw1 n &&& 858993459 ≤ sw1 n := Nat.and_le_left
  have l4 : sw1 n / 4 &&& 858993459 ≤ sw1 n / 4 := Nat.and_le_left
  have l5 : sw2 n = (sw1 n &&& 858993459) + (sw1 n / 4 &&& 858993459) := rfl
  have l6 : sw3 n ≤ sw2 n + sw2 n / 16 := Nat.and_le_left
  have l7 : sw4 n = sw3 n + sw3 n / 256 := rfl
  have l8 : sw5 n = sw4 n + sw4 n / 65536 := rfl
  refine eR_ildn_0 dJ6_bitCount_0f7a4_0 rfl ?_
  refine eR_ildn_0 dJ6_bitCount_0f7a4_1 rfl ?_
  refine eR_ic dJ6_bitCount_0f7a4_2 ?_
  refine eR_iushr dJ6_bitCount_0f7a4_3 ?_
  refine eX_pcI (show (zUshr ↑n 1 : Int) = ↑(n / 2 : Nat) from zUshr_nat (a := n) (k := 1) (by omega) (by omega)) ?_
  refine eR_ldcw (z := 1431655765) dJ6_bitCount_0f7a4_4 kw_554 (by decide) ?_
  refine eR_iand dJ6_bitCount_0f7a4_7 ?_
  refine eX_pcI (show (zAnd ↑(n / 2 : Nat) 1431655765 : Int) = ↑(n / 2 &&& 1431655765 : Nat) from zAnd_nat (a := n / 2) (b := 1431655765) (by omega)) ?_
  refine eR_isub dJ6_bitCount_0f7a4_8 ?_
  refine eX_pcI (show (↑n - ↑(n / 2 &&& 1431655765 : Nat) : Int) = ↑(sw1 n) from by unfold sw1; omega) ?_
  refine eR_istn_0 dJ6_bitCount_0f7a4_9 rfl (by decide) rfl ?_
  refine eR_ildn_0 dJ6_bitCount_0f7a4_10 rfl ?_
  refine eR_ldcw (z := 858993459) dJ6_bitCount_0f7a4_11 kw_555 (by decide) ?_
  refine eR_iand dJ6_bitCount_0f7a4_14 ?_
  refine eX_pcI (show (zAnd ↑(sw1 n) 858993459 : Int) = ↑(sw1 n &&& 858993459 : Nat) from zAnd_nat (a := sw1 n) (b := 858993459) (by omega)) ?_
  refine eR_ildn_0 dJ6_bitCount_0f7a4_15 rfl ?_
  refine eR_ic dJ6_bitCount_0f7a4_16 ?_
  refine eR_iushr dJ6_bitCount_0f7a4_17 ?_
  refine eX_pcI (show (zUshr ↑(sw1 n) 2 : Int) = ↑(sw1 n / 4 : Nat) from zUshr_nat (a := sw1 n) (k := 2) (by omega) (by omega)) ?_
  refine eR_ldcw (z := 858993459) dJ6_bitCount_0f7a4_18 kw_555 (by decide) ?_
  refine eR_iand dJ6_bitCount_0f7a4_21 ?_
  refine eX_pcI (show (zAnd ↑(sw1 n / 4 : Nat) 858993459 : Int) = ↑(sw1 n / 4 &&& 858993459 : Nat) from zAnd_nat (a := sw1 n / 4) (b := 858993459) (by omega)) ?_
  refine eR_iadd dJ6_bitCount_0f7a4_22 ?_
  refine eX_pcI (show (↑(sw1 n &&& 858993459 : Nat) + ↑(sw1 n / 4 &&& 858993459 : Nat) : Int) = ↑(sw2 n) from rfl) ?_
  refine eR_istn_0 dJ6_bitCount_0f7a4_23 rfl (by decide) rfl ?_
  refine eR_ildn_0 dJ6_bitCount_0f7a4_24 rfl ?_
  refine eR_ildn_0 dJ6_bitCount_0f7a4_25 rfl ?_
  refine eR_ic dJ6_bitCount_0f7a4_26 ?_
  refine eR_iushr dJ6_bitCount_0f7a4_27 ?_
  refine eX_pcI (show (zUshr ↑(sw2 n) 4 : Int) = ↑(sw2 n / 16 : Nat) from zUshr_nat (a := sw2 n) (k := 4) (by omega) (by omega)) ?_
  refine eR_iadd dJ6_bitCount_0f7a4_28 ?_
  refine eX_pcI (show (↑(sw2 n) + ↑(sw2 n / 16 : Nat) : Int) = ↑(sw2 n + sw2 n / 16 : Nat) from rfl) ?_
  refine eR_ldcw (z := 252645135) dJ6_bitCount_0f7a4_29 kw_556 (by decide) ?_
  refine eR_iand dJ6_bitCount_0f7a4_32 ?_
  refine eX_pcI (show (zAnd ↑(sw2 n + sw2 n / 16 : Nat) 252645135 : Int) = ↑(sw3 n) from zAnd_nat (a := sw2 n + sw2 n / 16) (b := 252645135) (by omega)) ?_
  refine eR_istn_0 dJ6_bitCount_0f7a4_33 rfl (by decide) rfl ?_
  refine eR_ildn_0 dJ6_bitCount_0f7a4_34 rfl ?_
  refine eR_ildn_0 dJ6_bitCount_0f7a4_35 rfl ?_
  refine eR_bi (z := 8) dJ6_bitCount_0f7a4_36 rfl ?_
  refine eR_iushr dJ6_bitCount_0f7a4_38 ?_
  refine eX_pcI (show (zUshr ↑(sw3 n) 8 : Int) = ↑(sw3 n / 256 : Nat) from zUshr_nat (a := sw3 n) (k := 8) (by omega) (by omega)) ?_
  refine eR_iadd dJ6_bitCount_0f7a4_39 ?_
  refine eX_pcI (show (↑(sw3 n) + ↑(sw3 n / 256 : Nat) : Int) = ↑(sw4 n) from rfl) ?_
  refine eR_istn_0 dJ6_bitCount_0f7a4_40 rfl (by decide) rfl ?_
  refine eR_ildn_0 dJ6_bitCount_0f7a4_41 rfl ?_
  refine eR_ildn_0 dJ6_bitCount_0f7a4_42 rfl ?_
  refine eR_bi (z := 16) dJ6_bitCount_0f7a4_43 rfl ?_
  refine eR_iushr dJ6_bitCount_0f7a4_45 ?_
  refine eX_pcI (show (zUshr ↑(sw4 n) 16 : Int) = ↑(sw4 n / 65536 : Nat) from zUshr_nat (a := sw4 n) (k := 16) (by omega) (by omega)) ?_
  refine eR_iadd dJ6_bitCount_0f7a4_46 ?_
  refine eX_pcI (show (↑(sw4 n) + ↑(sw4 n / 65536 : Nat) : Int) = ↑(sw5 n) from rfl) ?_
  refine eR_istn_0 dJ6_bitCount_0f7a4_47 rfl (by decide) rfl ?_
  refine eR_ildn_0 dJ6_bitCount_0f7a4_48 rfl ?_
  refine eR_bi (z := 63) dJ6_bitCount_0f7a4_49 rfl ?_
  refine eR_iand dJ6_bitCount_0f7a4_51 ?_
  refine eX_pcI (show (zAnd ↑(sw5 n) 63 : Int) = ↑(bcn n 24) from by rw [← sw_bcn hn]; exact zAnd_nat (a := sw5 n) (b := 63) (by omega)) ?_
  refine eR_iret dJ6_bitCount_0f7a4_52 rfl rfl ?_
  exact k
end M42
