def rg (z : Int) : Prop := -2147483648 ≤ z ∧ z < 2147483648
theorem zI_toInt {z : Int} (h : rg z) : (zI z).toInt = z := Int32.toInt_ofInt_of_le h.1 h.2
theorem zI_of (x : Int32) : zI x.toInt = x := Int32.ofInt_toInt x
theorem rg_of (x : Int32) : rg x.toInt := ⟨x.le_toInt, x.toInt_lt⟩
theorem zI_ex (x : Int32) : ∃ z, rg z ∧ x = zI z := ⟨x.toInt, rg_of x, (zI_of x).symm⟩
theorem zL_of (x : Int64) : zL x.toInt = x := Int64.ofInt_toInt x
theorem zL_toInt {z : Int} (h : -9223372036854775808 ≤ z) (h2 : z < 9223372036854775808) : (zL z).toInt = z := Int64.toInt_ofInt_of_le h h2
theorem zI_lt {a b : Int} (ha : rg a) (hb : rg b) : zI a < zI b ↔ a < b := by rw [Int32.lt_iff_toInt_lt, zI_toInt ha, zI_toInt hb]
theorem zI_le {a b : Int} (ha : rg a) (hb : rg b) : zI a ≤ zI b ↔ a ≤ b := by rw [Int32.le_iff_toInt_le, zI_toInt ha, zI_toInt hb]
theorem zI_eq {a b : Int} (ha : rg a) (hb : rg b) : zI a = zI b ↔ a = b := by rw [← Int32.toInt_inj, zI_toInt ha, zI_toInt hb]
theorem zI_0 : (0 : Int32) = zI 0 := rfl
theorem rg_0 : rg 0 := by unfold rg; omega
theorem zI_add (a b : Int) : zI a + zI b = zI (a + b) := (Int32.ofInt_add a b).symm
theorem zI_sub (a b : Int) : zI a - zI b = zI (a - b) := (Int32.ofInt_sub a b).symm
theorem zI_mul (a b : Int) : zI a * zI b = zI (a * b) := (Int32.ofInt_mul a b).symm
theorem zI_neg (a : Int) : - zI a = zI (- a) := (Int32.ofInt_neg a).symm
theorem zI_div {a b : Int} (ha : rg a) (hb : rg b) : zI a / zI b = zI (a.tdiv b) := (Int32.ofInt_tdiv (show (-2147483648 : Int) ≤ a from ha.1) (show a ≤ 2147483647 by have := ha.2; omega) (show (-2147483648 : Int) ≤ b from hb.1) (show b ≤ 2147483647 by have := hb.2; omega)).symm
theorem zI_rem {a b : Int} (ha : rg a) (hb : rg b) : zI a - zI a / zI b * zI b = zI (a.tmod b) := by
  rw [zI_div ha hb, zI_mul, zI_sub, Int.tmod_def, Int.mul_comm]
def zAnd (a b : Int) : Int := (zI a &&& zI b).toInt
def zOr (a b : Int) : Int := (zI a ||| zI b).toInt
def zXor (a b : Int) : Int := (zI a ^^^ zI b).toInt
def zShl (a b : Int) : Int := (zI a <<< (zI b &&& 31)).toInt
def zShr (a b : Int) : Int := (zI a >>> (zI b &&& 31)).toInt
def zUshr (a b : Int) : Int := ((zI a).toUInt32 >>> ((zI b).toUInt32 &&& Int32.toUInt32 31)).toInt32.toInt
theorem zI_cl {n : Nat} (h : n < 2147483648) : (zI (n : Int)).toNatClampNeg = n := by
  rw [zI, Int32.ofInt_eq_ofNat]
  exact Int32.toNatClampNeg_ofNat_of_lt h
theorem zI_in {n N : Nat} (h : n < N) (hn : n < 2147483648) : vp_in (zI (n : Int)) N := by
  intro q
  rcases q with q | q
  · rw [zI_0, zI_lt ⟨by omega, by omega⟩ rg_0] at q
    omega
  · rw [zI_cl hn] at q
    omega
def okK (i : Nat) (lv : List (Nat × Value)) : Bool := lv.all (fun q => !(q.1 == i) && !(q.1 + 1 == i && q.2.category == 2))
theorem lv_mono {ls : Array Slot} {n : Nat} {l l' : List (Nat × Value)} (h : lv_has ls n l) (hs : ∀ q ∈ l', q ∈ l) : lv_has ls n l' := ⟨h.1, h.2.1, fun q hq => h.2.2 q (hs q hq)⟩
section RULES
variable {g : EG} {d : Nat} {M : MM} {pc : Nat} {lv r : List (Nat × Value)} {st : List Value} {τ : List Kd} {h : PH} {Q : EQ}
theorem eR_ic {n : Int} (hd : decode M.2.1 pc = .ok (.iconst n, 1)) (k : eX g d M (pc + 1) lv (.int (zI n) :: st) τ h Q) : eX g d M pc lv (st) τ h Q := by
  intro p l e R s m args below meth c H locs cells slots Fin C hH hS ls hl
  refine lv_iconst C.1.1 C.1.2.1 hd rfl ?_
  exact k p l e R s m args below meth c H locs cells slots Fin C hH hS ls hl
theorem eR_bi {n z : Int} (hd : decode M.2.1 pc = .ok (.bipush n, 2)) (hv : (Int8.ofInt n).toInt32 = zI z) (k : eX g d M (pc + 2) lv (.int (zI z) :: st) τ h Q) : eX g d M pc lv (st) τ h Q := by
  intro p l e R s m args below meth c H locs cells slots Fin C hH hS ls hl
  refine lv_bipush C.1.1 C.1.2.1 hd hv ?_
  exact k p l e R s m args below meth c H locs cells slots Fin C hH hS ls hl
theorem eR_si {n z : Int} (hd : decode M.2.1 pc = .ok (.sipush n, 3)) (hv : (Int16.ofInt n).toInt32 = zI z) (k : eX g d M (pc + 3) lv (.int (zI z) :: st) τ h Q) : eX g d M pc lv (st) τ h Q := by
  intro p l e R s m args below meth c H locs cells slots Fin C hH hS ls hl
  refine lv_sipush C.1.1 C.1.2.1 hd hv ?_
  exact k p l e R s m args below meth c H locs cells slots Fin C hH hS ls hl
theorem eR_lc {n : Fin 2} {z : Int} (hd : decode M.2.1 pc = .ok (.lconst n, 1)) (hv : Int64.ofNat (n : Nat) = zL z) (k : eX g d M (pc + 1) lv (.long (zL z) :: st) τ h Q) : eX g d M pc lv (st) τ h Q := by
  intro p l e R s m args below meth c H locs cells slots Fin C hH hS ls hl
  refine lv_lconst C.1.1 C.1.2.1 hd hv ?_
  exact k p l e R s m args below meth c H locs cells slots Fin C hH hS ls hl
theorem eR_ldc {i : Nat} {v : Int32} {z : Int} (hd : decode M.2.1 pc = .ok (.ldc i, 2)) (hw : Cond.constant M.1.cls i v ∈ lw_gd) (hv : v = zI z) (k : eX g d M (pc + 2) lv (.int (zI z) :: st) τ h Q) : eX g d M pc lv (st) τ h Q := by
  intro p l e R s m args below meth c H locs cells slots Fin C hH hS ls hl
  refine lv_ldc C.1.1 C.1.2.1 C.1.2.2.2.1 (C.1.2.2.2.2 _ (hv ▸ hw)) hd ?_
  exact k p l e R s m args below meth c H locs cells slots Fin C hH hS ls hl
theorem eR_ldcw {i : Nat} {v : Int32} {z : Int} (hd : decode M.2.1 pc = .ok (.ldc_w i, 3)) (hw : Cond.constant M.1.cls i v ∈ lw_gd) (hv : v = zI z) (k : eX g d M (pc + 3) lv (.int (zI z) :: st) τ h Q) : eX g d M pc lv (st) τ h Q := by
  intro p l e R s m args below meth c H locs cells slots Fin C hH hS ls hl
  refine lv_ldcw C.1.1 C.1.2.1 C.1.2.2.2.1 (C.1.2.2.2.2 _ (hv ▸ hw)) hd ?_
  exact k p l e R s m args below meth c H locs cells slots Fin C hH hS ls hl
theorem eR_ldc2 {i : Nat} {v : Int64} {z : Int} (hd : decode M.2.1 pc = .ok (.ldc2_w i, 3)) (hw : Cond.constantLong M.1.cls i v ∈ lw_gd) (hv : v = zL z) (k : eX g d M (pc + 3) lv (.long (zL z) :: st) τ h Q) : eX g d M pc lv (st) τ h Q := by
  intro p l e R s m args below meth c H locs cells slots Fin C hH hS ls hl
  refine lv_ldc2 C.1.1 C.1.2.1 C.1.2.2.2.1 (C.1.2.2.2.2 _ (hv ▸ hw)) hd ?_
  exact k p l e R s m args below meth c H locs cells slots Fin C hH hS ls hl
theorem eR_iadd {a b : Int} (hd : decode M.2.1 pc = .ok (.iadd, 1)) (k : eX g d M (pc + 1) lv (.int (zI (a + b)) :: st) τ h Q) : eX g d M pc lv (.int (zI b) :: .int (zI a) :: st) τ h Q := by
  intro p l e R s m args below meth c H locs cells slots Fin C hH hS ls hl
  refine lv_iadd C.1.1 C.1.2.1 hd ?_
  rw [zI_add]
  exact k p l e R s m args below meth c H locs cells slots Fin C hH hS ls hl
theorem eR_isub {a b : Int} (hd : decode M.2.1 pc = .ok (.isub, 1)) (k : eX g d M (pc + 1) lv (.int (zI (a - b)) :: st) τ h Q) : eX g d M pc lv (.int (zI b) :: .int (zI a) :: st) τ h Q := by
  intro p l e R s m args below meth c H locs cells slots Fin C hH hS ls hl
  refine lv_isub C.1.1 C.1.2.1 hd ?_
  rw [zI_sub]
  exact k p l e R s m args below meth c H locs cells slots Fin C hH hS ls hl
theorem eR_imul {a b : Int} (hd : decode M.2.1 pc = .ok (.imul, 1)) (k : eX g d M (pc + 1) lv (.int (zI (a * b)) :: st) τ h Q) : eX g d M pc lv (.int (zI b) :: .int (zI a) :: st) τ h Q := by
  intro p l e R s m args below meth c H locs cells slots Fin C hH hS ls hl
  refine lv_imul C.1.1 C.1.2.1 hd ?_
  rw [zI_mul]
  exact k p l e R s m args below meth c H locs cells slots Fin C hH hS ls hl
theorem eR_ineg {a : Int} (hd : decode M.2.1 pc = .ok (.ineg, 1)) (k : eX g d M (pc + 1) lv (.int (zI (-a)) :: st) τ h Q) : eX g d M pc lv (.int (zI a) :: st) τ h Q := by
  intro p l e R s m args below meth c H locs cells slots Fin C hH hS ls hl
  refine lv_ineg C.1.1 C.1.2.1 hd ?_
  rw [zI_neg]
  exact k p l e R s m args below meth c H locs cells slots Fin C hH hS ls hl
theorem eR_idiv {a b : Int} (hd : decode M.2.1 pc = .ok (.idiv, 1)) (ha : rg a) (hb : rg b) (h0 : b ≠ 0) (k : eX g d M (pc + 1) lv (.int (zI (a.tdiv b)) :: st) τ h Q) : eX g d M pc lv (.int (zI b) :: .int (zI a) :: st) τ h Q := by
  intro p l e R s m args below meth c H locs cells slots Fin C hH hS ls hl
  refine lv_idiv C.1.1 C.1.2.1 hd (by rw [zI_0, zI_eq hb rg_0]; exact h0) ?_
  rw [zI_div ha hb]
  exact k p l e R s m args below meth c H locs cells slots Fin C hH hS ls hl
theorem eR_irem {a b : Int} (hd : decode M.2.1 pc = .ok (.irem, 1)) (ha : rg a) (hb : rg b) (h0 : b ≠ 0) (k : eX g d M (pc + 1) lv (.int (zI (a.tmod b)) :: st) τ h Q) : eX g d M pc lv (.int (zI b) :: .int (zI a) :: st) τ h Q := by
  intro p l e R s m args below meth c H locs cells slots Fin C hH hS ls hl
  refine lv_irem C.1.1 C.1.2.1 hd (by rw [zI_0, zI_eq hb rg_0]; exact h0) ?_
  rw [zI_rem ha hb]
  exact k p l e R s m args below meth c H locs cells slots Fin C hH hS ls hl
theorem eR_iand {a b : Int} (hd : decode M.2.1 pc = .ok (.iand, 1)) (k : eX g d M (pc + 1) lv (.int (zI (zAnd a b)) :: st) τ h Q) : eX g d M pc lv (.int (zI b) :: .int (zI a) :: st) τ h Q := by
  intro p l e R s m args below meth c H locs cells slots Fin C hH hS ls hl
  refine lv_iand C.1.1 C.1.2.1 hd ?_
  rw [zAnd, zI_of] at k
  exact k p l e R s m args below meth c H locs cells slots Fin C hH hS ls hl
theorem eR_ior {a b : Int} (hd : decode M.2.1 pc = .ok (.ior, 1)) (k : eX g d M (pc + 1) lv (.int (zI (zOr a b)) :: st) τ h Q) : eX g d M pc lv (.int (zI b) :: .int (zI a) :: st) τ h Q := by
  intro p l e R s m args below meth c H locs cells slots Fin C hH hS ls hl
  refine lv_ior C.1.1 C.1.2.1 hd ?_
  rw [zOr, zI_of] at k
  exact k p l e R s m args below meth c H locs cells slots Fin C hH hS ls hl
theorem eR_ixor {a b : Int} (hd : decode M.2.1 pc = .ok (.ixor, 1)) (k : eX g d M (pc + 1) lv (.int (zI (zXor a b)) :: st) τ h Q) : eX g d M pc lv (.int (zI b) :: .int (zI a) :: st) τ h Q := by
  intro p l e R s m args below meth c H locs cells slots Fin C hH hS ls hl
  refine lv_ixor C.1.1 C.1.2.1 hd ?_
  rw [zXor, zI_of] at k
  exact k p l e R s m args below meth c H locs cells slots Fin C hH hS ls hl
theorem eR_ishl {a b : Int} (hd : decode M.2.1 pc = .ok (.ishl, 1)) (k : eX g d M (pc + 1) lv (.int (zI (zShl a b)) :: st) τ h Q) : eX g d M pc lv (.int (zI b) :: .int (zI a) :: st) τ h Q := by
  intro p l e R s m args below meth c H locs cells slots Fin C hH hS ls hl
  refine lv_ishl C.1.1 C.1.2.1 hd ?_
  rw [zShl, zI_of] at k
  exact k p l e R s m args below meth c H locs cells slots Fin C hH hS ls hl
theorem eR_ishr {a b : Int} (hd : decode M.2.1 pc = .ok (.ishr, 1)) (k : eX g d M (pc + 1) lv (.int (zI (zShr a b)) :: st) τ h Q) : eX g d M pc lv (.int (zI b) :: .int (zI a) :: st) τ h Q := by
  intro p l e R s m args below meth c H locs cells slots Fin C hH hS ls hl
  refine lv_ishr C.1.1 C.1.2.1 hd ?_
  rw [zShr, zI_of] at k
  exact k p l e R s m args below meth c H locs cells slots Fin C hH hS ls hl
theorem eR_iushr {a b : Int} (hd : decode M.2.1 pc = .ok (.iushr, 1)) (k : eX g d M (pc + 1) lv (.int (zI (zUshr a b)) :: st) τ h Q) : eX g d M pc lv (.int (zI b) :: .int (zI a) :: st) τ h Q := by
  intro p l e R s m args below meth c H locs cells slots Fin C hH hS ls hl
  refine lv_iushr C.1.1 C.1.2.1 hd rfl ?_
  rw [zUshr, zI_of] at k
  exact k p l e R s m args below meth c H locs cells slots Fin C hH hS ls hl
theorem eR_ladd {x y : Int64} (hd : decode M.2.1 pc = .ok (.ladd, 1)) (k : eX g d M (pc + 1) lv (.long (x + y) :: st) τ h Q) : eX g d M pc lv (.long y :: .long x :: st) τ h Q := by
  intro p l e R s m args below meth c H locs cells slots Fin C hH hS ls hl
  refine lv_ladd C.1.1 C.1.2.1 hd ?_
  exact k p l e R s m args below meth c H locs cells slots Fin C hH hS ls hl
theorem eR_lsub {x y : Int64} (hd : decode M.2.1 pc = .ok (.lsub, 1)) (k : eX g d M (pc + 1) lv (.long (x - y) :: st) τ h Q) : eX g d M pc lv (.long y :: .long x :: st) τ h Q := by
  intro p l e R s m args below meth c H locs cells slots Fin C hH hS ls hl
  refine lv_lsub C.1.1 C.1.2.1 hd ?_
  exact k p l e R s m args below meth c H locs cells slots Fin C hH hS ls hl
theorem eR_lmul {x y : Int64} (hd : decode M.2.1 pc = .ok (.lmul, 1)) (k : eX g d M (pc + 1) lv (.long (x * y) :: st) τ h Q) : eX g d M pc lv (.long y :: .long x :: st) τ h Q := by
  intro p l e R s m args below meth c H locs cells slots Fin C hH hS ls hl
  refine lv_lmul C.1.1 C.1.2.1 hd ?_
  exact k p l e R s m args below meth c H locs cells slots Fin C hH hS ls hl
theorem eR_land {x y : Int64} (hd : decode M.2.1 pc = .ok (.land, 1)) (k : eX g d M (pc + 1) lv (.long (x &&& y) :: st) τ h Q) : eX g d M pc lv (.long y :: .long x :: st) τ h Q := by
  intro p l e R s m args below meth c H locs cells slots Fin C hH hS ls hl
  refine lv_land C.1.1 C.1.2.1 hd ?_
  exact k p l e R s m args below meth c H locs cells slots Fin C hH hS ls hl
theorem eR_lor {x y : Int64} (hd : decode M.2.1 pc = .ok (.lor, 1)) (k : eX g d M (pc + 1) lv (.long (x ||| y) :: st) τ h Q) : eX g d M pc lv (.long y :: .long x :: st) τ h Q := by
  intro p l e R s m args below meth c H locs cells slots Fin C hH hS ls hl
  refine lv_lor C.1.1 C.1.2.1 hd ?_
  exact k p l e R s m args below meth c H locs cells slots Fin C hH hS ls hl
theorem eR_ldiv {x y : Int64} (hd : decode M.2.1 pc = .ok (.ldiv, 1)) (hne : ¬ y = 0) (k : eX g d M (pc + 1) lv (.long (x / y) :: st) τ h Q) : eX g d M pc lv (.long y :: .long x :: st) τ h Q := by
  intro p l e R s m args below meth c H locs cells slots Fin C hH hS ls hl
  refine lv_ldiv C.1.1 C.1.2.1 hd hne ?_
  exact k p l e R s m args below meth c H locs cells slots Fin C hH hS ls hl
theorem eR_lrem {x y : Int64} (hd : decode M.2.1 pc = .ok (.lrem, 1)) (hne : ¬ y = 0) (k : eX g d M (pc + 1) lv (.long (x - x / y * y) :: st) τ h Q) : eX g d M pc lv (.long y :: .long x :: st) τ h Q := by
  intro p l e R s m args below meth c H locs cells slots Fin C hH hS ls hl
  refine lv_lrem C.1.1 C.1.2.1 hd hne ?_
  exact k p l e R s m args below meth c H locs cells slots Fin C hH hS ls hl
theorem eR_lshl {x : Int64} {y : Int32} (hd : decode M.2.1 pc = .ok (.lshl, 1)) (k : eX g d M (pc + 1) lv (.long (x <<< (y.toInt64 &&& 63)) :: st) τ h Q) : eX g d M pc lv (.int y :: .long x :: st) τ h Q := by
  intro p l e R s m args below meth c H locs cells slots Fin C hH hS ls hl
  refine lv_lshl C.1.1 C.1.2.1 hd rfl ?_
  exact k p l e R s m args below meth c H locs cells slots Fin C hH hS ls hl
theorem eR_lshr {x : Int64} {y : Int32} (hd : decode M.2.1 pc = .ok (.lshr, 1)) (k : eX g d M (pc + 1) lv (.long (x >>> (y.toInt64 &&& 63)) :: st) τ h Q) : eX g d M pc lv (.int y :: .long x :: st) τ h Q := by
  intro p l e R s m args below meth c H locs cells slots Fin C hH hS ls hl
  refine lv_lshr C.1.1 C.1.2.1 hd rfl ?_
  exact k p l e R s m args below meth c H locs cells slots Fin C hH hS ls hl
theorem eR_lushr {x : Int64} {y : Int32} (hd : decode M.2.1 pc = .ok (.lushr, 1)) (k : eX g d M (pc + 1) lv (.long ((x.toUInt64 >>> (y.toInt64.toUInt64 &&& Int64.toUInt64 63)).toInt64) :: st) τ h Q) : eX g d M pc lv (.int y :: .long x :: st) τ h Q := by
  intro p l e R s m args below meth c H locs cells slots Fin C hH hS ls hl
  refine lv_lushr C.1.1 C.1.2.1 hd rfl ?_
  exact k p l e R s m args below meth c H locs cells slots Fin C hH hS ls hl
theorem eR_lcmp {x y : Int64} (hd : decode M.2.1 pc = .ok (.lcmp, 1)) (k : eX g d M (pc + 1) lv (.int (lg_cmp x y) :: st) τ h Q) : eX g d M pc lv (.long y :: .long x :: st) τ h Q := by
  intro p l e R s m args below meth c H locs cells slots Fin C hH hS ls hl
  refine W.lcmp C.1.1 C.1.2.1 hd ?_
  exact k p l e R s m args below meth c H locs cells slots Fin C hH hS ls hl
theorem eR_i2l {x : Int32} (hd : decode M.2.1 pc = .ok (.i2l, 1)) (k : eX g d M (pc + 1) lv (.long x.toInt64 :: st) τ h Q) : eX g d M pc lv (.int x :: st) τ h Q := by
  intro p l e R s m args below meth c H locs cells slots Fin C hH hS ls hl
  refine lv_i2l C.1.1 C.1.2.1 hd rfl ?_
  exact k p l e R s m args below meth c H locs cells slots Fin C hH hS ls hl
theorem eR_l2i {x : Int64} (hd : decode M.2.1 pc = .ok (.l2i, 1)) (k : eX g d M (pc + 1) lv (.int x.toInt32 :: st) τ h Q) : eX g d M pc lv (.long x :: st) τ h Q := by
  intro p l e R s m args below meth c H locs cells slots Fin C hH hS ls hl
  refine lv_l2i C.1.1 C.1.2.1 hd rfl ?_
  exact k p l e R s m args below meth c H locs cells slots Fin C hH hS ls hl
theorem eR_dup {v : Value} (hd : decode M.2.1 pc = .ok (.dup, 1)) (hc : v.category = 1) (k : eX g d M (pc + 1) lv (v :: v :: st) τ h Q) : eX g d M pc lv (v :: st) τ h Q := by
  intro p l e R s m args below meth c H locs cells slots Fin C hH hS ls hl
  refine lv_dup C.1.1 C.1.2.1 hd hc ?_
  exact k p l e R s m args below meth c H locs cells slots Fin C hH hS ls hl
theorem eR_dup2 {v u : Value} (hd : decode M.2.1 pc = .ok (.dup2, 1)) (hc : v.category = 1) (hc2 : u.category = 1) (k : eX g d M (pc + 1) lv (v :: u :: v :: u :: st) τ h Q) : eX g d M pc lv (v :: u :: st) τ h Q := by
  intro p l e R s m args below meth c H locs cells slots Fin C hH hS ls hl
  refine lv_dup2_11 C.1.1 C.1.2.1 hd hc hc2 ?_
  exact k p l e R s m args below meth c H locs cells slots Fin C hH hS ls hl
theorem eR_pop {v : Value} (hd : decode M.2.1 pc = .ok (.pop, 1)) (hc : v.category = 1) (k : eX g d M (pc + 1) lv (st) τ h Q) : eX g d M pc lv (v :: st) τ h Q := by
  intro p l e R s m args below meth c H locs cells slots Fin C hH hS ls hl
  refine lv_pop C.1.1 C.1.2.1 hd hc ?_
  exact k p l e R s m args below meth c H locs cells slots Fin C hH hS ls hl
theorem eR_icmp_lt {a b off : Int} {tgt : Nat} (hd : decode M.2.1 pc = .ok (.if_icmp .lt off, 3)) (ht : (pc : Int) + off = (tgt : Int)) (ha : rg a) (hb : rg b) (kt : a < b → eX g d M tgt lv st τ h Q) (kf : b ≤ a → eX g d M (pc + 3) lv st τ h Q) : eX g d M pc lv (.int (zI b) :: .int (zI a) :: st) τ h Q := by
  intro p l e R s m args below meth c H locs cells slots Fin C hH hS ls hl
  exact lv_icmp_lt C.1.1 C.1.2.1 hd ht (fun h9 => kt ((zI_lt ha hb).mp h9) p l e R s m args below meth c H locs cells slots Fin C hH hS ls hl) (fun h9 => kf (by have := mt (zI_lt ha hb).mpr h9; omega) p l e R s m args below meth c H locs cells slots Fin C hH hS ls hl)
theorem eR_if_lt {a off : Int} {tgt : Nat} (hd : decode M.2.1 pc = .ok (.ifCond .lt off, 3)) (ht : (pc : Int) + off = (tgt : Int)) (ha : rg a) (kt : a < 0 → eX g d M tgt lv st τ h Q) (kf : 0 ≤ a → eX g d M (pc + 3) lv st τ h Q) : eX g d M pc lv (.int (zI a) :: st) τ h Q := by
  intro p l e R s m args below meth c H locs cells slots Fin C hH hS ls hl
  exact lv_if_lt C.1.1 C.1.2.1 hd ht (fun h9 => kt ((zI_lt ha rg_0).mp h9) p l e R s m args below meth c H locs cells slots Fin C hH hS ls hl) (fun h9 => kf (by have := mt (zI_lt ha rg_0).mpr h9; omega) p l e R s m args below meth c H locs cells slots Fin C hH hS ls hl)
theorem eR_icmp_le {a b off : Int} {tgt : Nat} (hd : decode M.2.1 pc = .ok (.if_icmp .le off, 3)) (ht : (pc : Int) + off = (tgt : Int)) (ha : rg a) (hb : rg b) (kt : a ≤ b → eX g d M tgt lv st τ h Q) (kf : b < a → eX g d M (pc + 3) lv st τ h Q) : eX g d M pc lv (.int (zI b) :: .int (zI a) :: st) τ h Q := by
  intro p l e R s m args below meth c H locs cells slots Fin C hH hS ls hl
  exact lv_icmp_le C.1.1 C.1.2.1 hd ht (fun h9 => kt ((zI_le ha hb).mp h9) p l e R s m args below meth c H locs cells slots Fin C hH hS ls hl) (fun h9 => kf (by have := mt (zI_le ha hb).mpr h9; omega) p l e R s m args below meth c H locs cells slots Fin C hH hS ls hl)
theorem eR_if_le {a off : Int} {tgt : Nat} (hd : decode M.2.1 pc = .ok (.ifCond .le off, 3)) (ht : (pc : Int) + off = (tgt : Int)) (ha : rg a) (kt : a ≤ 0 → eX g d M tgt lv st τ h Q) (kf : 0 < a → eX g d M (pc + 3) lv st τ h Q) : eX g d M pc lv (.int (zI a) :: st) τ h Q := by
  intro p l e R s m args below meth c H locs cells slots Fin C hH hS ls hl
  exact lv_if_le C.1.1 C.1.2.1 hd ht (fun h9 => kt ((zI_le ha rg_0).mp h9) p l e R s m args below meth c H locs cells slots Fin C hH hS ls hl) (fun h9 => kf (by have := mt (zI_le ha rg_0).mpr h9; omega) p l e R s m args below meth c H locs cells slots Fin C hH hS ls hl)
theorem eR_icmp_gt {a b off : Int} {tgt : Nat} (hd : decode M.2.1 pc = .ok (.if_icmp .gt off, 3)) (ht : (pc : Int) + off = (tgt : Int)) (ha : rg a) (hb : rg b) (kt : b < a → eX g d M tgt lv st τ h Q) (kf : a ≤ b → eX g d M (pc + 3) lv st τ h Q) : eX g d M pc lv (.int (zI b) :: .int (zI a) :: st) τ h Q := by
  intro p l e R s m args below meth c H locs cells slots Fin C hH hS ls hl
  exact lv_icmp_gt C.1.1 C.1.2.1 hd ht (fun h9 => kt ((zI_lt hb ha).mp h9) p l e R s m args below meth c H locs cells slots Fin C hH hS ls hl) (fun h9 => kf (by have := mt (zI_lt hb ha).mpr h9; omega) p l e R s m args below meth c H locs cells slots Fin C hH hS ls hl)
theorem eR_if_gt {a off : Int} {tgt : Nat} (hd : decode M.2.1 pc = .ok (.ifCond .gt off, 3)) (ht : (pc : Int) + off = (tgt : Int)) (ha : rg a) (kt : 0 < a → eX g d M tgt lv st τ h Q) (kf : a ≤ 0 → eX g d M (pc + 3) lv st τ h Q) : eX g d M pc lv (.int (zI a) :: st) τ h Q := by
  intro p l e R s m args below meth c H locs cells slots Fin C hH hS ls hl
  exact lv_if_gt C.1.1 C.1.2.1 hd ht (fun h9 => kt ((zI_lt rg_0 ha).mp h9) p l e R s m args below meth c H locs cells slots Fin C hH hS ls hl) (fun h9 => kf (by have := mt (zI_lt rg_0 ha).mpr h9; omega) p l e R s m args below meth c H locs cells slots Fin C hH hS ls hl)
theorem eR_icmp_ge {a b off : Int} {tgt : Nat} (hd : decode M.2.1 pc = .ok (.if_icmp .ge off, 3)) (ht : (pc : Int) + off = (tgt : Int)) (ha : rg a) (hb : rg b) (kt : b ≤ a → eX g d M tgt lv st τ h Q) (kf : a < b → eX g d M (pc + 3) lv st τ h Q) : eX g d M pc lv (.int (zI b) :: .int (zI a) :: st) τ h Q := by
  intro p l e R s m args below meth c H locs cells slots Fin C hH hS ls hl
  exact lv_icmp_ge C.1.1 C.1.2.1 hd ht (fun h9 => kt ((zI_le hb ha).mp h9) p l e R s m args below meth c H locs cells slots Fin C hH hS ls hl) (fun h9 => kf (by have := mt (zI_le hb ha).mpr h9; omega) p l e R s m args below meth c H locs cells slots Fin C hH hS ls hl)
theorem eR_if_ge {a off : Int} {tgt : Nat} (hd : decode M.2.1 pc = .ok (.ifCond .ge off, 3)) (ht : (pc : Int) + off = (tgt : Int)) (ha : rg a) (kt : 0 ≤ a → eX g d M tgt lv st τ h Q) (kf : a < 0 → eX g d M (pc + 3) lv st τ h Q) : eX g d M pc lv (.int (zI a) :: st) τ h Q := by
  intro p l e R s m args below meth c H locs cells slots Fin C hH hS ls hl
  exact lv_if_ge C.1.1 C.1.2.1 hd ht (fun h9 => kt ((zI_le rg_0 ha).mp h9) p l e R s m args below meth c H locs cells slots Fin C hH hS ls hl) (fun h9 => kf (by have := mt (zI_le rg_0 ha).mpr h9; omega) p l e R s m args below meth c H locs cells slots Fin C hH hS ls hl)
theorem eR_icmp_eq {a b off : Int} {tgt : Nat} (hd : decode M.2.1 pc = .ok (.if_icmp .eq off, 3)) (ht : (pc : Int) + off = (tgt : Int)) (ha : rg a) (hb : rg b) (kt : a = b → eX g d M tgt lv st τ h Q) (kf : a ≠ b → eX g d M (pc + 3) lv st τ h Q) : eX g d M pc lv (.int (zI b) :: .int (zI a) :: st) τ h Q := by
  intro p l e R s m args below meth c H locs cells slots Fin C hH hS ls hl
  exact lv_icmp_eq C.1.1 C.1.2.1 hd ht (fun h9 => kt ((zI_eq ha hb).mp h9) p l e R s m args below meth c H locs cells slots Fin C hH hS ls hl) (fun h9 => kf (fun e9 => h9 ((zI_eq ha hb).mpr e9)) p l e R s m args below meth c H locs cells slots Fin C hH hS ls hl)
theorem eR_if_eq {a off : Int} {tgt : Nat} (hd : decode M.2.1 pc = .ok (.ifCond .eq off, 3)) (ht : (pc : Int) + off = (tgt : Int)) (ha : rg a) (kt : a = 0 → eX g d M tgt lv st τ h Q) (kf : a ≠ 0 → eX g d M (pc + 3) lv st τ h Q) : eX g d M pc lv (.int (zI a) :: st) τ h Q := by
  intro p l e R s m args below meth c H locs cells slots Fin C hH hS ls hl
  exact lv_if_eq C.1.1 C.1.2.1 hd ht (fun h9 => kt ((zI_eq ha rg_0).mp h9) p l e R s m args below meth c H locs cells slots Fin C hH hS ls hl) (fun h9 => kf (fun e9 => h9 ((zI_eq ha rg_0).mpr e9)) p l e R s m args below meth c H locs cells slots Fin C hH hS ls hl)
theorem eR_icmp_ne {a b off : Int} {tgt : Nat} (hd : decode M.2.1 pc = .ok (.if_icmp .ne off, 3)) (ht : (pc : Int) + off = (tgt : Int)) (ha : rg a) (hb : rg b) (kt : a ≠ b → eX g d M tgt lv st τ h Q) (kf : a = b → eX g d M (pc + 3) lv st τ h Q) : eX g d M pc lv (.int (zI b) :: .int (zI a) :: st) τ h Q := by
  intro p l e R s m args below meth c H locs cells slots Fin C hH hS ls hl
  exact lv_icmp_ne C.1.1 C.1.2.1 hd ht (fun h9 => kt (fun e9 => h9 ((zI_eq ha hb).mpr e9)) p l e R s m args below meth c H locs cells slots Fin C hH hS ls hl) (fun h9 => kf ((zI_eq ha hb).mp h9) p l e R s m args below meth c H locs cells slots Fin C hH hS ls hl)
theorem eR_if_ne {a off : Int} {tgt : Nat} (hd : decode M.2.1 pc = .ok (.ifCond .ne off, 3)) (ht : (pc : Int) + off = (tgt : Int)) (ha : rg a) (kt : a ≠ 0 → eX g d M tgt lv st τ h Q) (kf : a = 0 → eX g d M (pc + 3) lv st τ h Q) : eX g d M pc lv (.int (zI a) :: st) τ h Q := by
  intro p l e R s m args below meth c H locs cells slots Fin C hH hS ls hl
  exact lv_if_ne C.1.1 C.1.2.1 hd ht (fun h9 => kt (fun e9 => h9 ((zI_eq ha rg_0).mpr e9)) p l e R s m args below meth c H locs cells slots Fin C hH hS ls hl) (fun h9 => kf ((zI_eq ha rg_0).mp h9) p l e R s m args below meth c H locs cells slots Fin C hH hS ls hl)
theorem eR_goto {off : Int} {tgt : Nat} (hd : decode M.2.1 pc = .ok (.goto off, 3)) (ht : (pc : Int) + off = (tgt : Int)) (k : eX g d M tgt lv st τ h Q) : eX g d M pc lv st τ h Q := by
  intro p l e R s m args below meth c H locs cells slots Fin C hH hS ls hl
  exact lv_goto C.1.1 C.1.2.1 hd ht (k p l e R s m args below meth c H locs cells slots Fin C hH hS ls hl)
theorem eR_tabOut {dflt lo hi : Int} {offs : Array Int} {len : Nat} {z : Int} {tgt : Nat} (hd : decode M.2.1 pc = .ok (.tableswitch dflt lo hi offs, len)) (hz : rg z) (hx : z < lo ∨ hi < z) (ht : (pc : Int) + dflt = (tgt : Int)) (k : eX g d M tgt lv st τ h Q) : eX g d M pc lv (.int (zI z) :: st) τ h Q := by
  intro p l e R s m args below meth c H locs cells slots Fin C hH hS ls hl
  exact lv_tableOut C.1.1 C.1.2.1 hd (by rw [zI_toInt hz]; exact hx) ht (k p l e R s m args below meth c H locs cells slots Fin C hH hS ls hl)
theorem eR_tabIn {dflt lo hi : Int} {offs : Array Int} {len : Nat} {z off : Int} {tgt : Nat} (hd : decode M.2.1 pc = .ok (.tableswitch dflt lo hi offs, len)) (hz : rg z) (h1 : ¬ z < lo) (h2 : ¬ hi < z) (ho : offs[(z - lo).toNat]? = some off) (ht : (pc : Int) + off = (tgt : Int)) (k : eX g d M tgt lv st τ h Q) : eX g d M pc lv (.int (zI z) :: st) τ h Q := by
  intro p l e R s m args below meth c H locs cells slots Fin C hH hS ls hl
  exact lv_tableIn C.1.1 C.1.2.1 hd (by rw [zI_toInt hz]; exact h1) (by rw [zI_toInt hz]; exact h2) (by rw [zI_toInt hz]; exact ho) ht (k p l e R s m args below meth c H locs cells slots Fin C hH hS ls hl)
theorem eR_ildn_0 {k9 : Fin 4} {i : Nat} {x : Int32} (hd : decode M.2.1 pc = .ok (.iload_n k9, 1)) (hi : (k9 : Nat) = i) (k : eX g d M (pc + 1) ((i, .int x) :: r) (.int x :: st) τ h Q) : eX g d M pc ((i, .int x) :: r) st τ h Q := by
  intro p l e R s m args below meth c H locs cells slots Fin C hH hS ls hl
  exact lv_iload_n C.1.1 C.1.2.1 hd hi (lv_at hl 0 rfl) (k p l e R s m args below meth c H locs cells slots Fin C hH hS ls hl)
theorem eR_ild_0 {i : Nat} {x : Int32} (hd : decode M.2.1 pc = .ok (.iload i, 2)) (k : eX g d M (pc + 2) ((i, .int x) :: r) (.int x :: st) τ h Q) : eX g d M pc ((i, .int x) :: r) st τ h Q := by
  intro p l e R s m args below meth c H locs cells slots Fin C hH hS ls hl
  exact lv_iload C.1.1 C.1.2.1 hd (lv_at hl 0 rfl) (k p l e R s m args below meth c H locs cells slots Fin C hH hS ls hl)
theorem eR_aldn_0 {k9 : Fin 4} {i x : Nat} (hd : decode M.2.1 pc = .ok (.aload_n k9, 1)) (hi : (k9 : Nat) = i) (k : eX g d M (pc + 1) ((i, .ref x) :: r) (.ref x :: st) τ h Q) : eX g d M pc ((i, .ref x) :: r) st τ h Q := by
  intro p l e R s m args below meth c H locs cells slots Fin C hH hS ls hl
  exact lv_aload_n C.1.1 C.1.2.1 hd hi (lv_at hl 0 rfl) (k p l e R s m args below meth c H locs cells slots Fin C hH hS ls hl)
theorem eR_ald_0 {i x : Nat} (hd : decode M.2.1 pc = .ok (.aload i, 2)) (k : eX g d M (pc + 2) ((i, .ref x) :: r) (.ref x :: st) τ h Q) : eX g d M pc ((i, .ref x) :: r) st τ h Q := by
  intro p l e R s m args below meth c H locs cells slots Fin C hH hS ls hl
  exact lv_aload C.1.1 C.1.2.1 hd (lv_at hl 0 rfl) (k p l e R s m args below meth c H locs cells slots Fin C hH hS ls hl)
theorem eR_lldn_0 {k9 : Fin 4} {i : Nat} {x : Int64} (hd : decode M.2.1 pc = .ok (.lload_n k9, 1)) (hi : (k9 : Nat) = i) (k : eX g d M (pc + 1) ((i, .long x) :: r) (.long x :: st) τ h Q) : eX g d M pc ((i, .long x) :: r) st τ h Q := by
  intro p l e R s m args below meth c H locs cells slots Fin C hH hS ls hl
  exact lv_lload_n C.1.1 C.1.2.1 hd hi (lv_at hl 0 rfl) (k p l e R s m args below meth c H locs cells slots Fin C hH hS ls hl)
theorem eR_lld_0 {i : Nat} {x : Int64} (hd : decode M.2.1 pc = .ok (.lload i, 2)) (k : eX g d M (pc + 2) ((i, .long x) :: r) (.long x :: st) τ h Q) : eX g d M pc ((i, .long x) :: r) st τ h Q := by
  intro p l e R s m args below meth c H locs cells slots Fin C hH hS ls hl
  exact lv_lload C.1.1 C.1.2.1 hd (lv_at hl 0 rfl) (k p l e R s m args below meth c H locs cells slots Fin C hH hS ls hl)
theorem eR_istn_0 {k9 : Fin 4} {i : Nat} {x : Int32} {old : Value} (hd : decode M.2.1 pc = .ok (.istore_n k9, 1)) (hi : (k9 : Nat) = i) (hn : i < M.2.2.1) (ho : okK i (r) = true) (k : eX g d M (pc + 1) ((i, .int x) :: r) st τ h Q) : eX g d M pc ((i, old) :: r) (.int x :: st) τ h Q := by
  intro p l e R s m args below meth c H locs cells slots Fin C hH hS ls hl
  refine lv_istore_n C.1.1 C.1.2.1 hd hi hl hn rfl (fun ls hl => k p l e R s m args below meth c H locs cells slots Fin C hH hS ls (lv_mono hl ?_))
  have hA := List.all_eq_true.mp ho
  intro q hq
  simp only [List.mem_cons] at hq
  rw [List.mem_cons, List.mem_filter]
  rcases hq with hq | hq
  · exact Or.inl hq
  · exact Or.inr ⟨by simp [hq], hA q (by simp [hq])⟩
theorem eR_istn_n0 {k9 : Fin 4} {i : Nat} {x : Int32} (hd : decode M.2.1 pc = .ok (.istore_n k9, 1)) (hi : (k9 : Nat) = i) (hn : i < M.2.2.1) (ho : okK i (r) = true) (k : eX g d M (pc + 1) ((i, .int x) :: r) st τ h Q) : eX g d M pc (r) (.int x :: st) τ h Q := by
  intro p l e R s m args below meth c H locs cells slots Fin C hH hS ls hl
  refine lv_istore_n C.1.1 C.1.2.1 hd hi hl hn rfl (fun ls hl => k p l e R s m args below meth c H locs cells slots Fin C hH hS ls (lv_mono hl ?_))
  have hA := List.all_eq_true.mp ho
  intro q hq
  simp only [List.mem_cons] at hq
  rw [List.mem_cons, List.mem_filter]
  rcases hq with hq | hq
  · exact Or.inl hq
  · exact Or.inr ⟨by simp [hq], hA q (by simp [hq])⟩
theorem eR_ist_0 {i : Nat} {x : Int32} {old : Value} (hd : decode M.2.1 pc = .ok (.istore i, 2)) (hn : i < M.2.2.1) (ho : okK i (r) = true) (k : eX g d M (pc + 2) ((i, .int x) :: r) st τ h Q) : eX g d M pc ((i, old) :: r) (.int x :: st) τ h Q := by
  intro p l e R s m args below meth c H locs cells slots Fin C hH hS ls hl
  refine lv_istore C.1.1 C.1.2.1 hd hl hn rfl (fun ls hl => k p l e R s m args below meth c H locs cells slots Fin C hH hS ls (lv_mono hl ?_))
  have hA := List.all_eq_true.mp ho
  intro q hq
  simp only [List.mem_cons] at hq
  rw [List.mem_cons, List.mem_filter]
  rcases hq with hq | hq
  · exact Or.inl hq
  · exact Or.inr ⟨by simp [hq], hA q (by simp [hq])⟩
theorem eR_ist_n0 {i : Nat} {x : Int32} (hd : decode M.2.1 pc = .ok (.istore i, 2)) (hn : i < M.2.2.1) (ho : okK i (r) = true) (k : eX g d M (pc + 2) ((i, .int x) :: r) st τ h Q) : eX g d M pc (r) (.int x :: st) τ h Q := by
  intro p l e R s m args below meth c H locs cells slots Fin C hH hS ls hl
  refine lv_istore C.1.1 C.1.2.1 hd hl hn rfl (fun ls hl => k p l e R s m args below meth c H locs cells slots Fin C hH hS ls (lv_mono hl ?_))
  have hA := List.all_eq_true.mp ho
  intro q hq
  simp only [List.mem_cons] at hq
  rw [List.mem_cons, List.mem_filter]
  rcases hq with hq | hq
  · exact Or.inl hq
  · exact Or.inr ⟨by simp [hq], hA q (by simp [hq])⟩
theorem eR_astn_0 {k9 : Fin 4} {i x : Nat} {old : Value} (hd : decode M.2.1 pc = .ok (.astore_n k9, 1)) (hi : (k9 : Nat) = i) (hn : i < M.2.2.1) (ho : okK i (r) = true) (k : eX g d M (pc + 1) ((i, .ref x) :: r) st τ h Q) : eX g d M pc ((i, old) :: r) (.ref x :: st) τ h Q := by
  intro p l e R s m args below meth c H locs cells slots Fin C hH hS ls hl
  refine lv_astore_n C.1.1 C.1.2.1 hd hi hl hn rfl (fun ls hl => k p l e R s m args below meth c H locs cells slots Fin C hH hS ls (lv_mono hl ?_))
  have hA := List.all_eq_true.mp ho
  intro q hq
  simp only [List.mem_cons] at hq
  rw [List.mem_cons, List.mem_filter]
  rcases hq with hq | hq
  · exact Or.inl hq
  · exact Or.inr ⟨by simp [hq], hA q (by simp [hq])⟩
theorem eR_astn_n0 {k9 : Fin 4} {i x : Nat} (hd : decode M.2.1 pc = .ok (.astore_n k9, 1)) (hi : (k9 : Nat) = i) (hn : i < M.2.2.1) (ho : okK i (r) = true) (k : eX g d M (pc + 1) ((i, .ref x) :: r) st τ h Q) : eX g d M pc (r) (.ref x :: st) τ h Q := by
  intro p l e R s m args below meth c H locs cells slots Fin C hH hS ls hl
  refine lv_astore_n C.1.1 C.1.2.1 hd hi hl hn rfl (fun ls hl => k p l e R s m args below meth c H locs cells slots Fin C hH hS ls (lv_mono hl ?_))
  have hA := List.all_eq_true.mp ho
  intro q hq
  simp only [List.mem_cons] at hq
  rw [List.mem_cons, List.mem_filter]
  rcases hq with hq | hq
  · exact Or.inl hq
  · exact Or.inr ⟨by simp [hq], hA q (by simp [hq])⟩
theorem eR_ast_0 {i x : Nat} {old : Value} (hd : decode M.2.1 pc = .ok (.astore i, 2)) (hn : i < M.2.2.1) (ho : okK i (r) = true) (k : eX g d M (pc + 2) ((i, .ref x) :: r) st τ h Q) : eX g d M pc ((i, old) :: r) (.ref x :: st) τ h Q := by
  intro p l e R s m args below meth c H locs cells slots Fin C hH hS ls hl
  refine lv_astore C.1.1 C.1.2.1 hd hl hn rfl (fun ls hl => k p l e R s m args below meth c H locs cells slots Fin C hH hS ls (lv_mono hl ?_))
  have hA := List.all_eq_true.mp ho
  intro q hq
  simp only [List.mem_cons] at hq
  rw [List.mem_cons, List.mem_filter]
  rcases hq with hq | hq
  · exact Or.inl hq
  · exact Or.inr ⟨by simp [hq], hA q (by simp [hq])⟩
theorem eR_ast_n0 {i x : Nat} (hd : decode M.2.1 pc = .ok (.astore i, 2)) (hn : i < M.2.2.1) (ho : okK i (r) = true) (k : eX g d M (pc + 2) ((i, .ref x) :: r) st τ h Q) : eX g d M pc (r) (.ref x :: st) τ h Q := by
  intro p l e R s m args below meth c H locs cells slots Fin C hH hS ls hl
  refine lv_astore C.1.1 C.1.2.1 hd hl hn rfl (fun ls hl => k p l e R s m args below meth c H locs cells slots Fin C hH hS ls (lv_mono hl ?_))
  have hA := List.all_eq_true.mp ho
  intro q hq
  simp only [List.mem_cons] at hq
  rw [List.mem_cons, List.mem_filter]
  rcases hq with hq | hq
  · exact Or.inl hq
  · exact Or.inr ⟨by simp [hq], hA q (by simp [hq])⟩
theorem eR_iinc_0 {i : Nat} {n : Int} {a : Int} (hd : decode M.2.1 pc = .ok (.iinc i n, 3)) (hn : i < M.2.2.1) (ho : okK i (r) = true) (k : eX g d M (pc + 3) ((i, .int (zI (a + n))) :: r) st τ h Q) : eX g d M pc ((i, .int (zI a)) :: r) st τ h Q := by
  intro p l e R s m args below meth c H locs cells slots Fin C hH hS ls hl
  refine lv_iinc C.1.1 C.1.2.1 hd hl (k := 0) rfl (show zI a + zI n = zI (a + n) from zI_add a n) hn rfl (fun ls hl => k p l e R s m args below meth c H locs cells slots Fin C hH hS ls (lv_mono hl ?_))
  have hA := List.all_eq_true.mp ho
  intro q hq
  simp only [List.mem_cons] at hq
  rw [List.mem_cons, List.mem_filter]
  rcases hq with hq | hq
  · exact Or.inl hq
  · exact Or.inr ⟨by simp [hq], hA q (by simp [hq])⟩
theorem eR_ildn_1 {k9 : Fin 4} {i : Nat} {x : Int32} {q0 : Nat × Value} (hd : decode M.2.1 pc = .ok (.iload_n k9, 1)) (hi : (k9 : Nat) = i) (k : eX g d M (pc + 1) (q0 :: (i, .int x) :: r) (.int x :: st) τ h Q) : eX g d M pc (q0 :: (i, .int x) :: r) st τ h Q := by
  intro p l e R s m args below meth c H locs cells slots Fin C hH hS ls hl
  exact lv_iload_n C.1.1 C.1.2.1 hd hi (lv_at hl 1 rfl) (k p l e R s m args below meth c H locs cells slots Fin C hH hS ls hl)
theorem eR_ild_1 {i : Nat} {x : Int32} {q0 : Nat × Value} (hd : decode M.2.1 pc = .ok (.iload i, 2)) (k : eX g d M (pc + 2) (q0 :: (i, .int x) :: r) (.int x :: st) τ h Q) : eX g d M pc (q0 :: (i, .int x) :: r) st τ h Q := by
  intro p l e R s m args below meth c H locs cells slots Fin C hH hS ls hl
  exact lv_iload C.1.1 C.1.2.1 hd (lv_at hl 1 rfl) (k p l e R s m args below meth c H locs cells slots Fin C hH hS ls hl)
theorem eR_aldn_1 {k9 : Fin 4} {i x : Nat} {q0 : Nat × Value} (hd : decode M.2.1 pc = .ok (.aload_n k9, 1)) (hi : (k9 : Nat) = i) (k : eX g d M (pc + 1) (q0 :: (i, .ref x) :: r) (.ref x :: st) τ h Q) : eX g d M pc (q0 :: (i, .ref x) :: r) st τ h Q := by
  intro p l e R s m args below meth c H locs cells slots Fin C hH hS ls hl
  exact lv_aload_n C.1.1 C.1.2.1 hd hi (lv_at hl 1 rfl) (k p l e R s m args below meth c H locs cells slots Fin C hH hS ls hl)
theorem eR_ald_1 {i x : Nat} {q0 : Nat × Value} (hd : decode M.2.1 pc = .ok (.aload i, 2)) (k : eX g d M (pc + 2) (q0 :: (i, .ref x) :: r) (.ref x :: st) τ h Q) : eX g d M pc (q0 :: (i, .ref x) :: r) st τ h Q := by
  intro p l e R s m args below meth c H locs cells slots Fin C hH hS ls hl
  exact lv_aload C.1.1 C.1.2.1 hd (lv_at hl 1 rfl) (k p l e R s m args below meth c H locs cells slots Fin C hH hS ls hl)
theorem eR_lldn_1 {k9 : Fin 4} {i : Nat} {x : Int64} {q0 : Nat × Value} (hd : decode M.2.1 pc = .ok (.lload_n k9, 1)) (hi : (k9 : Nat) = i) (k : eX g d M (pc + 1) (q0 :: (i, .long x) :: r) (.long x :: st) τ h Q) : eX g d M pc (q0 :: (i, .long x) :: r) st τ h Q := by
  intro p l e R s m args below meth c H locs cells slots Fin C hH hS ls hl
  exact lv_lload_n C.1.1 C.1.2.1 hd hi (lv_at hl 1 rfl) (k p l e R s m args below meth c H locs cells slots Fin C hH hS ls hl)
theorem eR_lld_1 {i : Nat} {x : Int64} {q0 : Nat × Value} (hd : decode M.2.1 pc = .ok (.lload i, 2)) (k : eX g d M (pc + 2) (q0 :: (i, .long x) :: r) (.long x :: st) τ h Q) : eX g d M pc (q0 :: (i, .long x) :: r) st τ h Q := by
  intro p l e R s m args below meth c H locs cells slots Fin C hH hS ls hl
  exact lv_lload C.1.1 C.1.2.1 hd (lv_at hl 1 rfl) (k p l e R s m args below meth c H locs cells slots Fin C hH hS ls hl)
theorem eR_istn_1 {k9 : Fin 4} {i : Nat} {x : Int32} {old : Value} {q0 : Nat × Value} (hd : decode M.2.1 pc = .ok (.istore_n k9, 1)) (hi : (k9 : Nat) = i) (hn : i < M.2.2.1) (ho : okK i (q0 :: r) = true) (k : eX g d M (pc + 1) (q0 :: (i, .int x) :: r) st τ h Q) : eX g d M pc (q0 :: (i, old) :: r) (.int x :: st) τ h Q := by
  intro p l e R s m args below meth c H locs cells slots Fin C hH hS ls hl
  refine lv_istore_n C.1.1 C.1.2.1 hd hi hl hn rfl (fun ls hl => k p l e R s m args below meth c H locs cells slots Fin C hH hS ls (lv_mono hl ?_))
  have hA := List.all_eq_true.mp ho
  intro q hq
  simp only [List.mem_cons] at hq
  rw [List.mem_cons, List.mem_filter]
  rcases hq with hq | hq | hq
  · exact Or.inr ⟨by simp [hq], hA q (by simp [hq])⟩
  · exact Or.inl hq
  · exact Or.inr ⟨by simp [hq], hA q (by simp [hq])⟩
theorem eR_istn_n1 {k9 : Fin 4} {i : Nat} {x : Int32} {q0 : Nat × Value} (hd : decode M.2.1 pc = .ok (.istore_n k9, 1)) (hi : (k9 : Nat) = i) (hn : i < M.2.2.1) (ho : okK i (q0 :: r) = true) (k : eX g d M (pc + 1) (q0 :: (i, .int x) :: r) st τ h Q) : eX g d M pc (q0 :: r) (.int x :: st) τ h Q := by
  intro p l e R s m args below meth c H locs cells slots Fin C hH hS ls hl
  refine lv_istore_n C.1.1 C.1.2.1 hd hi hl hn rfl (fun ls hl => k p l e R s m args below meth c H locs cells slots Fin C hH hS ls (lv_mono hl ?_))
  have hA := List.all_eq_true.mp ho
  intro q hq
  simp only [List.mem_cons] at hq
  rw [List.mem_cons, List.mem_filter]
  rcases hq with hq | hq | hq
  · exact Or.inr ⟨by simp [hq], hA q (by simp [hq])⟩
  · exact Or.inl hq
  · exact Or.inr ⟨by simp [hq], hA q (by simp [hq])⟩
theorem eR_ist_1 {i : Nat} {x : Int32} {old : Value} {q0 : Nat × Value} (hd : decode M.2.1 pc = .ok (.istore i, 2)) (hn : i < M.2.2.1) (ho : okK i (q0 :: r) = true) (k : eX g d M (pc + 2) (q0 :: (i, .int x) :: r) st τ h Q) : eX g d M pc (q0 :: (i, old) :: r) (.int x :: st) τ h Q := by
  intro p l e R s m args below meth c H locs cells slots Fin C hH hS ls hl
  refine lv_istore C.1.1 C.1.2.1 hd hl hn rfl (fun ls hl => k p l e R s m args below meth c H locs cells slots Fin C hH hS ls (lv_mono hl ?_))
  have hA := List.all_eq_true.mp ho
  intro q hq
  simp only [List.mem_cons] at hq
  rw [List.mem_cons, List.mem_filter]
  rcases hq with hq | hq | hq
  · exact Or.inr ⟨by simp [hq], hA q (by simp [hq])⟩
  · exact Or.inl hq
  · exact Or.inr ⟨by simp [hq], hA q (by simp [hq])⟩
theorem eR_ist_n1 {i : Nat} {x : Int32} {q0 : Nat × Value} (hd : decode M.2.1 pc = .ok (.istore i, 2)) (hn : i < M.2.2.1) (ho : okK i (q0 :: r) = true) (k : eX g d M (pc + 2) (q0 :: (i, .int x) :: r) st τ h Q) : eX g d M pc (q0 :: r) (.int x :: st) τ h Q := by
  intro p l e R s m args below meth c H locs cells slots Fin C hH hS ls hl
  refine lv_istore C.1.1 C.1.2.1 hd hl hn rfl (fun ls hl => k p l e R s m args below meth c H locs cells slots Fin C hH hS ls (lv_mono hl ?_))
  have hA := List.all_eq_true.mp ho
  intro q hq
  simp only [List.mem_cons] at hq
  rw [List.mem_cons, List.mem_filter]
  rcases hq with hq | hq | hq
  · exact Or.inr ⟨by simp [hq], hA q (by simp [hq])⟩
  · exact Or.inl hq
  · exact Or.inr ⟨by simp [hq], hA q (by simp [hq])⟩
theorem eR_astn_1 {k9 : Fin 4} {i x : Nat} {old : Value} {q0 : Nat × Value} (hd : decode M.2.1 pc = .ok (.astore_n k9, 1)) (hi : (k9 : Nat) = i) (hn : i < M.2.2.1) (ho : okK i (q0 :: r) = true) (k : eX g d M (pc + 1) (q0 :: (i, .ref x) :: r) st τ h Q) : eX g d M pc (q0 :: (i, old) :: r) (.ref x :: st) τ h Q := by
  intro p l e R s m args below meth c H locs cells slots Fin C hH hS ls hl
  refine lv_astore_n C.1.1 C.1.2.1 hd hi hl hn rfl (fun ls hl => k p l e R s m args below meth c H locs cells slots Fin C hH hS ls (lv_mono hl ?_))
  have hA := List.all_eq_true.mp ho
  intro q hq
  simp only [List.mem_cons] at hq
  rw [List.mem_cons, List.mem_filter]
  rcases hq with hq | hq | hq
  · exact Or.inr ⟨by simp [hq], hA q (by simp [hq])⟩
  · exact Or.inl hq
  · exact Or.inr ⟨by simp [hq], hA q (by simp [hq])⟩
theorem eR_astn_n1 {k9 : Fin 4} {i x : Nat} {q0 : Nat × Value} (hd : decode M.2.1 pc = .ok (.astore_n k9, 1)) (hi : (k9 : Nat) = i) (hn : i < M.2.2.1) (ho : okK i (q0 :: r) = true) (k : eX g d M (pc + 1) (q0 :: (i, .ref x) :: r) st τ h Q) : eX g d M pc (q0 :: r) (.ref x :: st) τ h Q := by
  intro p l e R s m args below meth c H locs cells slots Fin C hH hS ls hl
  refine lv_astore_n C.1.1 C.1.2.1 hd hi hl hn rfl (fun ls hl => k p l e R s m args below meth c H locs cells slots Fin C hH hS ls (lv_mono hl ?_))
  have hA := List.all_eq_true.mp ho
  intro q hq
  simp only [List.mem_cons] at hq
  rw [List.mem_cons, List.mem_filter]
  rcases hq with hq | hq | hq
  · exact Or.inr ⟨by simp [hq], hA q (by simp [hq])⟩
  · exact Or.inl hq
  · exact Or.inr ⟨by simp [hq], hA q (by simp [hq])⟩
theorem eR_ast_1 {i x : Nat} {old : Value} {q0 : Nat × Value} (hd : decode M.2.1 pc = .ok (.astore i, 2)) (hn : i < M.2.2.1) (ho : okK i (q0 :: r) = true) (k : eX g d M (pc + 2) (q0 :: (i, .ref x) :: r) st τ h Q) : eX g d M pc (q0 :: (i, old) :: r) (.ref x :: st) τ h Q := by
  intro p l e R s m args below meth c H locs cells slots Fin C hH hS ls hl
  refine lv_astore C.1.1 C.1.2.1 hd hl hn rfl (fun ls hl => k p l e R s m args below meth c H locs cells slots Fin C hH hS ls (lv_mono hl ?_))
  have hA := List.all_eq_true.mp ho
  intro q hq
  simp only [List.mem_cons] at hq
  rw [List.mem_cons, List.mem_filter]
  rcases hq with hq | hq | hq
  · exact Or.inr ⟨by simp [hq], hA q (by simp [hq])⟩
  · exact Or.inl hq
  · exact Or.inr ⟨by simp [hq], hA q (by simp [hq])⟩
theorem eR_ast_n1 {i x : Nat} {q0 : Nat × Value} (hd : decode M.2.1 pc = .ok (.astore i, 2)) (hn : i < M.2.2.1) (ho : okK i (q0 :: r) = true) (k : eX g d M (pc + 2) (q0 :: (i, .ref x) :: r) st τ h Q) : eX g d M pc (q0 :: r) (.ref x :: st) τ h Q := by
  intro p l e R s m args below meth c H locs cells slots Fin C hH hS ls hl
  refine lv_astore C.1.1 C.1.2.1 hd hl hn rfl (fun ls hl => k p l e R s m args below meth c H locs cells slots Fin C hH hS ls (lv_mono hl ?_))
  have hA := List.all_eq_true.mp ho
  intro q hq
  simp only [List.mem_cons] at hq
  rw [List.mem_cons, List.mem_filter]
  rcases hq with hq | hq | hq
  · exact Or.inr ⟨by simp [hq], hA q (by simp [hq])⟩
  · exact Or.inl hq
  · exact Or.inr ⟨by simp [hq], hA q (by simp [hq])⟩
theorem eR_iinc_1 {i : Nat} {n : Int} {a : Int} {q0 : Nat × Value} (hd : decode M.2.1 pc = .ok (.iinc i n, 3)) (hn : i < M.2.2.1) (ho : okK i (q0 :: r) = true) (k : eX g d M (pc + 3) (q0 :: (i, .int (zI (a + n))) :: r) st τ h Q) : eX g d M pc (q0 :: (i, .int (zI a)) :: r) st τ h Q := by
  intro p l e R s m args below meth c H locs cells slots Fin C hH hS ls hl
  refine lv_iinc C.1.1 C.1.2.1 hd hl (k := 1) rfl (show zI a + zI n = zI (a + n) from zI_add a n) hn rfl (fun ls hl => k p l e R s m args below meth c H locs cells slots Fin C hH hS ls (lv_mono hl ?_))
  have hA := List.all_eq_true.mp ho
  intro q hq
  simp only [List.mem_cons] at hq
  rw [List.mem_cons, List.mem_filter]
  rcases hq with hq | hq | hq
  · exact Or.inr ⟨by simp [hq], hA q (by simp [hq])⟩
  · exact Or.inl hq
  · exact Or.inr ⟨by simp [hq], hA q (by simp [hq])⟩
theorem eR_ildn_2 {k9 : Fin 4} {i : Nat} {x : Int32} {q0 q1 : Nat × Value} (hd : decode M.2.1 pc = .ok (.iload_n k9, 1)) (hi : (k9 : Nat) = i) (k : eX g d M (pc + 1) (q0 :: q1 :: (i, .int x) :: r) (.int x :: st) τ h Q) : eX g d M pc (q0 :: q1 :: (i, .int x) :: r) st τ h Q := by
  intro p l e R s m args below meth c H locs cells slots Fin C hH hS ls hl
  exact lv_iload_n C.1.1 C.1.2.1 hd hi (lv_at hl 2 rfl) (k p l e R s m args below meth c H locs cells slots Fin C hH hS ls hl)
theorem eR_ild_2 {i : Nat} {x : Int32} {q0 q1 : Nat × Value} (hd : decode M.2.1 pc = .ok (.iload i, 2)) (k : eX g d M (pc + 2) (q0 :: q1 :: (i, .int x) :: r) (.int x :: st) τ h Q) : eX g d M pc (q0 :: q1 :: (i, .int x) :: r) st τ h Q := by
  intro p l e R s m args below meth c H locs cells slots Fin C hH hS ls hl
  exact lv_iload C.1.1 C.1.2.1 hd (lv_at hl 2 rfl) (k p l e R s m args below meth c H locs cells slots Fin C hH hS ls hl)
theorem eR_aldn_2 {k9 : Fin 4} {i x : Nat} {q0 q1 : Nat × Value} (hd : decode M.2.1 pc = .ok (.aload_n k9, 1)) (hi : (k9 : Nat) = i) (k : eX g d M (pc + 1) (q0 :: q1 :: (i, .ref x) :: r) (.ref x :: st) τ h Q) : eX g d M pc (q0 :: q1 :: (i, .ref x) :: r) st τ h Q := by
  intro p l e R s m args below meth c H locs cells slots Fin C hH hS ls hl
  exact lv_aload_n C.1.1 C.1.2.1 hd hi (lv_at hl 2 rfl) (k p l e R s m args below meth c H locs cells slots Fin C hH hS ls hl)
theorem eR_ald_2 {i x : Nat} {q0 q1 : Nat × Value} (hd : decode M.2.1 pc = .ok (.aload i, 2)) (k : eX g d M (pc + 2) (q0 :: q1 :: (i, .ref x) :: r) (.ref x :: st) τ h Q) : eX g d M pc (q0 :: q1 :: (i, .ref x) :: r) st τ h Q := by
  intro p l e R s m args below meth c H locs cells slots Fin C hH hS ls hl
  exact lv_aload C.1.1 C.1.2.1 hd (lv_at hl 2 rfl) (k p l e R s m args below meth c H locs cells slots Fin C hH hS ls hl)
theorem eR_lldn_2 {k9 : Fin 4} {i : Nat} {x : Int64} {q0 q1 : Nat × Value} (hd : decode M.2.1 pc = .ok (.lload_n k9, 1)) (hi : (k9 : Nat) = i) (k : eX g d M (pc + 1) (q0 :: q1 :: (i, .long x) :: r) (.long x :: st) τ h Q) : eX g d M pc (q0 :: q1 :: (i, .long x) :: r) st τ h Q := by
  intro p l e R s m args below meth c H locs cells slots Fin C hH hS ls hl
  exact lv_lload_n C.1.1 C.1.2.1 hd hi (lv_at hl 2 rfl) (k p l e R s m args below meth c H locs cells slots Fin C hH hS ls hl)
theorem eR_lld_2 {i : Nat} {x : Int64} {q0 q1 : Nat × Value} (hd : decode M.2.1 pc = .ok (.lload i, 2)) (k : eX g d M (pc + 2) (q0 :: q1 :: (i, .long x) :: r) (.long x :: st) τ h Q) : eX g d M pc (q0 :: q1 :: (i, .long x) :: r) st τ h Q := by
  intro p l e R s m args below meth c H locs cells slots Fin C hH hS ls hl
  exact lv_lload C.1.1 C.1.2.1 hd (lv_at hl 2 rfl) (k p l e R s m args below meth c H locs cells slots Fin C hH hS ls hl)
theorem eR_istn_2 {k9 : Fin 4} {i : Nat} {x : Int32} {old : Value} {q0 q1 : Nat × Value} (hd : decode M.2.1 pc = .ok (.istore_n k9, 1)) (hi : (k9 : Nat) = i) (hn : i < M.2.2.1) (ho : okK i (q0 :: q1 :: r) = true) (k : eX g d M (pc + 1) (q0 :: q1 :: (i, .int x) :: r) st τ h Q) : eX g d M pc (q0 :: q1 :: (i, old) :: r) (.int x :: st) τ h Q := by
  intro p l e R s m args below meth c H locs cells slots Fin C hH hS ls hl
  refine lv_istore_n C.1.1 C.1.2.1 hd hi hl hn rfl (fun ls hl => k p l e R s m args below meth c H locs cells slots Fin C hH hS ls (lv_mono hl ?_))
  have hA := List.all_eq_true.mp ho
  intro q hq
  simp only [List.mem_cons] at hq
  rw [List.mem_cons, List.mem_filter]
  rcases hq with hq | hq | hq | hq
  · exact Or.inr ⟨by simp [hq], hA q (by simp [hq])⟩
  · exact Or.inr ⟨by simp [hq], hA q (by simp [hq])⟩
  · exact Or.inl hq
  · exact Or.inr ⟨by simp [hq], hA q (by simp [hq])⟩
theorem eR_istn_n2 {k9 : Fin 4} {i : Nat} {x : Int32} {q0 q1 : Nat × Value} (hd : decode M.2.1 pc = .ok (.istore_n k9, 1)) (hi : (k9 : Nat) = i) (hn : i < M.2.2.1) (ho : okK i (q0 :: q1 :: r) = true) (k : eX g d M (pc + 1) (q0 :: q1 :: (i, .int x) :: r) st τ h Q) : eX g d M pc (q0 :: q1 :: r) (.int x :: st) τ h Q := by
  intro p l e R s m args below meth c H locs cells slots Fin C hH hS ls hl
  refine lv_istore_n C.1.1 C.1.2.1 hd hi hl hn rfl (fun ls hl => k p l e R s m args below meth c H locs cells slots Fin C hH hS ls (lv_mono hl ?_))
  have hA := List.all_eq_true.mp ho
  intro q hq
  simp only [List.mem_cons] at hq
  rw [List.mem_cons, List.mem_filter]
  rcases hq with hq | hq | hq | hq
  · exact Or.inr ⟨by simp [hq], hA q (by simp [hq])⟩
  · exact Or.inr ⟨by simp [hq], hA q (by simp [hq])⟩
  · exact Or.inl hq
  · exact Or.inr ⟨by simp [hq], hA q (by simp [hq])⟩
theorem eR_ist_2 {i : Nat} {x : Int32} {old : Value} {q0 q1 : Nat × Value} (hd : decode M.2.1 pc = .ok (.istore i, 2)) (hn : i < M.2.2.1) (ho : okK i (q0 :: q1 :: r) = true) (k : eX g d M (pc + 2) (q0 :: q1 :: (i, .int x) :: r) st τ h Q) : eX g d M pc (q0 :: q1 :: (i, old) :: r) (.int x :: st) τ h Q := by
  intro p l e R s m args below meth c H locs cells slots Fin C hH hS ls hl
  refine lv_istore C.1.1 C.1.2.1 hd hl hn rfl (fun ls hl => k p l e R s m args below meth c H locs cells slots Fin C hH hS ls (lv_mono hl ?_))
  have hA := List.all_eq_true.mp ho
  intro q hq
  simp only [List.mem_cons] at hq
  rw [List.mem_cons, List.mem_filter]
  rcases hq with hq | hq | hq | hq
  · exact Or.inr ⟨by simp [hq], hA q (by simp [hq])⟩
  · exact Or.inr ⟨by simp [hq], hA q (by simp [hq])⟩
  · exact Or.inl hq
  · exact Or.inr ⟨by simp [hq], hA q (by simp [hq])⟩
theorem eR_ist_n2 {i : Nat} {x : Int32} {q0 q1 : Nat × Value} (hd : decode M.2.1 pc = .ok (.istore i, 2)) (hn : i < M.2.2.1) (ho : okK i (q0 :: q1 :: r) = true) (k : eX g d M (pc + 2) (q0 :: q1 :: (i, .int x) :: r) st τ h Q) : eX g d M pc (q0 :: q1 :: r) (.int x :: st) τ h Q := by
  intro p l e R s m args below meth c H locs cells slots Fin C hH hS ls hl
  refine lv_istore C.1.1 C.1.2.1 hd hl hn rfl (fun ls hl => k p l e R s m args below meth c H locs cells slots Fin C hH hS ls (lv_mono hl ?_))
  have hA := List.all_eq_true.mp ho
  intro q hq
  simp only [List.mem_cons] at hq
  rw [List.mem_cons, List.mem_filter]
  rcases hq with hq | hq | hq | hq
  · exact Or.inr ⟨by simp [hq], hA q (by simp [hq])⟩
  · exact Or.inr ⟨by simp [hq], hA q (by simp [hq])⟩
  · exact Or.inl hq
  · exact Or.inr ⟨by simp [hq], hA q (by simp [hq])⟩
theorem eR_astn_2 {k9 : Fin 4} {i x : Nat} {old : Value} {q0 q1 : Nat × Value} (hd : decode M.2.1 pc = .ok (.astore_n k9, 1)) (hi : (k9 : Nat) = i) (hn : i < M.2.2.1) (ho : okK i (q0 :: q1 :: r) = true) (k : eX g d M (pc + 1) (q0 :: q1 :: (i, .ref x) :: r) st τ h Q) : eX g d M pc (q0 :: q1 :: (i, old) :: r) (.ref x :: st) τ h Q := by
  intro p l e R s m args below meth c H locs cells slots Fin C hH hS ls hl
  refine lv_astore_n C.1.1 C.1.2.1 hd hi hl hn rfl (fun ls hl => k p l e R s m args below meth c H locs cells slots Fin C hH hS ls (lv_mono hl ?_))
  have hA := List.all_eq_true.mp ho
  intro q hq
  simp only [List.mem_cons] at hq
  rw [List.mem_cons, List.mem_filter]
  rcases hq with hq | hq | hq | hq
  · exact Or.inr ⟨by simp [hq], hA q (by simp [hq])⟩
  · exact Or.inr ⟨by simp [hq], hA q (by simp [hq])⟩
  · exact Or.inl hq
  · exact Or.inr ⟨by simp [hq], hA q (by simp [hq])⟩
theorem eR_astn_n2 {k9 : Fin 4} {i x : Nat} {q0 q1 : Nat × Value} (hd : decode M.2.1 pc = .ok (.astore_n k9, 1)) (hi : (k9 : Nat) = i) (hn : i < M.2.2.1) (ho : okK i (q0 :: q1 :: r) = true) (k : eX g d M (pc + 1) (q0 :: q1 :: (i, .ref x) :: r) st τ h Q) : eX g d M pc (q0 :: q1 :: r) (.ref x :: st) τ h Q := by
  intro p l e R s m args below meth c H locs cells slots Fin C hH hS ls hl
  refine lv_astore_n C.1.1 C.1.2.1 hd hi hl hn rfl (fun ls hl => k p l e R s m args below meth c H locs cells slots Fin C hH hS ls (lv_mono hl ?_))
  have hA := List.all_eq_true.mp ho
  intro q hq
  simp only [List.mem_cons] at hq
  rw [List.mem_cons, List.mem_filter]
  rcases hq with hq | hq | hq | hq
  · exact Or.inr ⟨by simp [hq], hA q (by simp [hq])⟩
  · exact Or.inr ⟨by simp [hq], hA q (by simp [hq])⟩
  · exact Or.inl hq
  · exact Or.inr ⟨by simp [hq], hA q (by simp [hq])⟩
theorem eR_ast_2 {i x : Nat} {old : Value} {q0 q1 : Nat × Value} (hd : decode M.2.1 pc = .ok (.astore i, 2)) (hn : i < M.2.2.1) (ho : okK i (q0 :: q1 :: r) = true) (k : eX g d M (pc + 2) (q0 :: q1 :: (i, .ref x) :: r) st τ h Q) : eX g d M pc (q0 :: q1 :: (i, old) :: r) (.ref x :: st) τ h Q := by
  intro p l e R s m args below meth c H locs cells slots Fin C hH hS ls hl
  refine lv_astore C.1.1 C.1.2.1 hd hl hn rfl (fun ls hl => k p l e R s m args below meth c H locs cells slots Fin C hH hS ls (lv_mono hl ?_))
  have hA := List.all_eq_true.mp ho
  intro q hq
  simp only [List.mem_cons] at hq
  rw [List.mem_cons, List.mem_filter]
  rcases hq with hq | hq | hq | hq
  · exact Or.inr ⟨by simp [hq], hA q (by simp [hq])⟩
  · exact Or.inr ⟨by simp [hq], hA q (by simp [hq])⟩
  · exact Or.inl hq
  · exact Or.inr ⟨by simp [hq], hA q (by simp [hq])⟩
theorem eR_ast_n2 {i x : Nat} {q0 q1 : Nat × Value} (hd : decode M.2.1 pc = .ok (.astore i, 2)) (hn : i < M.2.2.1) (ho : okK i (q0 :: q1 :: r) = true) (k : eX g d M (pc + 2) (q0 :: q1 :: (i, .ref x) :: r) st τ h Q) : eX g d M pc (q0 :: q1 :: r) (.ref x :: st) τ h Q := by
  intro p l e R s m args below meth c H locs cells slots Fin C hH hS ls hl
  refine lv_astore C.1.1 C.1.2.1 hd hl hn rfl (fun ls hl => k p l e R s m args below meth c H locs cells slots Fin C hH hS ls (lv_mono hl ?_))
  have hA := List.all_eq_true.mp ho
  intro q hq
  simp only [List.mem_cons] at hq
  rw [List.mem_cons, List.mem_filter]
  rcases hq with hq | hq | hq | hq
  · exact Or.inr ⟨by simp [hq], hA q (by simp [hq])⟩
  · exact Or.inr ⟨by simp [hq], hA q (by simp [hq])⟩
  · exact Or.inl hq
  · exact Or.inr ⟨by simp [hq], hA q (by simp [hq])⟩
theorem eR_iinc_2 {i : Nat} {n : Int} {a : Int} {q0 q1 : Nat × Value} (hd : decode M.2.1 pc = .ok (.iinc i n, 3)) (hn : i < M.2.2.1) (ho : okK i (q0 :: q1 :: r) = true) (k : eX g d M (pc + 3) (q0 :: q1 :: (i, .int (zI (a + n))) :: r) st τ h Q) : eX g d M pc (q0 :: q1 :: (i, .int (zI a)) :: r) st τ h Q := by
  intro p l e R s m args below meth c H locs cells slots Fin C hH hS ls hl
  refine lv_iinc C.1.1 C.1.2.1 hd hl (k := 2) rfl (show zI a + zI n = zI (a + n) from zI_add a n) hn rfl (fun ls hl => k p l e R s m args below meth c H locs cells slots Fin C hH hS ls (lv_mono hl ?_))
  have hA := List.all_eq_true.mp ho
  intro q hq
  simp only [List.mem_cons] at hq
  rw [List.mem_cons, List.mem_filter]
  rcases hq with hq | hq | hq | hq
  · exact Or.inr ⟨by simp [hq], hA q (by simp [hq])⟩
  · exact Or.inr ⟨by simp [hq], hA q (by simp [hq])⟩
  · exact Or.inl hq
  · exact Or.inr ⟨by simp [hq], hA q (by simp [hq])⟩
theorem eR_ildn_3 {k9 : Fin 4} {i : Nat} {x : Int32} {q0 q1 q2 : Nat × Value} (hd : decode M.2.1 pc = .ok (.iload_n k9, 1)) (hi : (k9 : Nat) = i) (k : eX g d M (pc + 1) (q0 :: q1 :: q2 :: (i, .int x) :: r) (.int x :: st) τ h Q) : eX g d M pc (q0 :: q1 :: q2 :: (i, .int x) :: r) st τ h Q := by
  intro p l e R s m args below meth c H locs cells slots Fin C hH hS ls hl
  exact lv_iload_n C.1.1 C.1.2.1 hd hi (lv_at hl 3 rfl) (k p l e R s m args below meth c H locs cells slots Fin C hH hS ls hl)
theorem eR_ild_3 {i : Nat} {x : Int32} {q0 q1 q2 : Nat × Value} (hd : decode M.2.1 pc = .ok (.iload i, 2)) (k : eX g d M (pc + 2) (q0 :: q1 :: q2 :: (i, .int x) :: r) (.int x :: st) τ h Q) : eX g d M pc (q0 :: q1 :: q2 :: (i, .int x) :: r) st τ h Q := by
  intro p l e R s m args below meth c H locs cells slots Fin C hH hS ls hl
  exact lv_iload C.1.1 C.1.2.1 hd (lv_at hl 3 rfl) (k p l e R s m args below meth c H locs cells slots Fin C hH hS ls hl)
theorem eR_aldn_3 {k9 : Fin 4} {i x : Nat} {q0 q1 q2 : Nat × Value} (hd : decode M.2.1 pc = .ok (.aload_n k9, 1)) (hi : (k9 : Nat) = i) (k : eX g d M (pc + 1) (q0 :: q1 :: q2 :: (i, .ref x) :: r) (.ref x :: st) τ h Q) : eX g d M pc (q0 :: q1 :: q2 :: (i, .ref x) :: r) st τ h Q := by
  intro p l e R s m args below meth c H locs cells slots Fin C hH hS ls hl
  exact lv_aload_n C.1.1 C.1.2.1 hd hi (lv_at hl 3 rfl) (k p l e R s m args below meth c H locs cells slots Fin C hH hS ls hl)
theorem eR_ald_3 {i x : Nat} {q0 q1 q2 : Nat × Value} (hd : decode M.2.1 pc = .ok (.aload i, 2)) (k : eX g d M (pc + 2) (q0 :: q1 :: q2 :: (i, .ref x) :: r) (.ref x :: st) τ h Q) : eX g d M pc (q0 :: q1 :: q2 :: (i, .ref x) :: r) st τ h Q := by
  intro p l e R s m args below meth c H locs cells slots Fin C hH hS ls hl
  exact lv_aload C.1.1 C.1.2.1 hd (lv_at hl 3 rfl) (k p l e R s m args below meth c H locs cells slots Fin C hH hS ls hl)
theorem eR_lldn_3 {k9 : Fin 4} {i : Nat} {x : Int64} {q0 q1 q2 : Nat × Value} (hd : decode M.2.1 pc = .ok (.lload_n k9, 1)) (hi : (k9 : Nat) = i) (k : eX g d M (pc + 1) (q0 :: q1 :: q2 :: (i, .long x) :: r) (.long x :: st) τ h Q) : eX g d M pc (q0 :: q1 :: q2 :: (i, .long x) :: r) st τ h Q := by
  intro p l e R s m args below meth c H locs cells slots Fin C hH hS ls hl
  exact lv_lload_n C.1.1 C.1.2.1 hd hi (lv_at hl 3 rfl) (k p l e R s m args below meth c H locs cells slots Fin C hH hS ls hl)
theorem eR_lld_3 {i : Nat} {x : Int64} {q0 q1 q2 : Nat × Value} (hd : decode M.2.1 pc = .ok (.lload i, 2)) (k : eX g d M (pc + 2) (q0 :: q1 :: q2 :: (i, .long x) :: r) (.long x :: st) τ h Q) : eX g d M pc (q0 :: q1 :: q2 :: (i, .long x) :: r) st τ h Q := by
  intro p l e R s m args below meth c H locs cells slots Fin C hH hS ls hl
  exact lv_lload C.1.1 C.1.2.1 hd (lv_at hl 3 rfl) (k p l e R s m args below meth c H locs cells slots Fin C hH hS ls hl)
theorem eR_istn_3 {k9 : Fin 4} {i : Nat} {x : Int32} {old : Value} {q0 q1 q2 : Nat × Value} (hd : decode M.2.1 pc = .ok (.istore_n k9, 1)) (hi : (k9 : Nat) = i) (hn : i < M.2.2.1) (ho : okK i (q0 :: q1 :: q2 :: r) = true) (k : eX g d M (pc + 1) (q0 :: q1 :: q2 :: (i, .int x) :: r) st τ h Q) : eX g d M pc (q0 :: q1 :: q2 :: (i, old) :: r) (.int x :: st) τ h Q := by
  intro p l e R s m args below meth c H locs cells slots Fin C hH hS ls hl
  refine lv_istore_n C.1.1 C.1.2.1 hd hi hl hn rfl (fun ls hl => k p l e R s m args below meth c H locs cells slots Fin C hH hS ls (lv_mono hl ?_))
  have hA := List.all_eq_true.mp ho
  intro q hq
  simp only [List.mem_cons] at hq
  rw [List.mem_cons, List.mem_filter]
  rcases hq with hq | hq | hq | hq | hq
  · exact Or.inr ⟨by simp [hq], hA q (by simp [hq])⟩
  · exact Or.inr ⟨by simp [hq], hA q (by simp [hq])⟩
  · exact Or.inr ⟨by simp [hq], hA q (by simp [hq])⟩
  · exact Or.inl hq
  · exact Or.inr ⟨by simp [hq], hA q (by simp [hq])⟩
theorem eR_istn_n3 {k9 : Fin 4} {i : Nat} {x : Int32} {q0 q1 q2 : Nat × Value} (hd : decode M.2.1 pc = .ok (.istore_n k9, 1)) (hi : (k9 : Nat) = i) (hn : i < M.2.2.1) (ho : okK i (q0 :: q1 :: q2 :: r) = true) (k : eX g d M (pc + 1) (q0 :: q1 :: q2 :: (i, .int x) :: r) st τ h Q) : eX g d M pc (q0 :: q1 :: q2 :: r) (.int x :: st) τ h Q := by
  intro p l e R s m args below meth c H locs cells slots Fin C hH hS ls hl
  refine lv_istore_n C.1.1 C.1.2.1 hd hi hl hn rfl (fun ls hl => k p l e R s m args below meth c H locs cells slots Fin C hH hS ls (lv_mono hl ?_))
  have hA := List.all_eq_true.mp ho
  intro q hq
  simp only [List.mem_cons] at hq
  rw [List.mem_cons, List.mem_filter]
  rcases hq with hq | hq | hq | hq | hq
  · exact Or.inr ⟨by simp [hq], hA q (by simp [hq])⟩
  · exact Or.inr ⟨by simp [hq], hA q (by simp [hq])⟩
  · exact Or.inr ⟨by simp [hq], hA q (by simp [hq])⟩
  · exact Or.inl hq
  · exact Or.inr ⟨by simp [hq], hA q (by simp [hq])⟩
theorem eR_ist_3 {i : Nat} {x : Int32} {old : Value} {q0 q1 q2 : Nat × Value} (hd : decode M.2.1 pc = .ok (.istore i, 2)) (hn : i < M.2.2.1) (ho : okK i (q0 :: q1 :: q2 :: r) = true) (k : eX g d M (pc + 2) (q0 :: q1 :: q2 :: (i, .int x) :: r) st τ h Q) : eX g d M pc (q0 :: q1 :: q2 :: (i, old) :: r) (.int x :: st) τ h Q := by
  intro p l e R s m args below meth c H locs cells slots Fin C hH hS ls hl
  refine lv_istore C.1.1 C.1.2.1 hd hl hn rfl (fun ls hl => k p l e R s m args below meth c H locs cells slots Fin C hH hS ls (lv_mono hl ?_))
  have hA := List.all_eq_true.mp ho
  intro q hq
  simp only [List.mem_cons] at hq
  rw [List.mem_cons, List.mem_filter]
  rcases hq with hq | hq | hq | hq | hq
  · exact Or.inr ⟨by simp [hq], hA q (by simp [hq])⟩
  · exact Or.inr ⟨by simp [hq], hA q (by simp [hq])⟩
  · exact Or.inr ⟨by simp [hq], hA q (by simp [hq])⟩
  · exact Or.inl hq
  · exact Or.inr ⟨by simp [hq], hA q (by simp [hq])⟩
theorem eR_ist_n3 {i : Nat} {x : Int32} {q0 q1 q2 : Nat × Value} (hd : decode M.2.1 pc = .ok (.istore i, 2)) (hn : i < M.2.2.1) (ho : okK i (q0 :: q1 :: q2 :: r) = true) (k : eX g d M (pc + 2) (q0 :: q1 :: q2 :: (i, .int x) :: r) st τ h Q) : eX g d M pc (q0 :: q1 :: q2 :: r) (.int x :: st) τ h Q := by
  intro p l e R s m args below meth c H locs cells slots Fin C hH hS ls hl
  refine lv_istore C.1.1 C.1.2.1 hd hl hn rfl (fun ls hl => k p l e R s m args below meth c H locs cells slots Fin C hH hS ls (lv_mono hl ?_))
  have hA := List.all_eq_true.mp ho
  intro q hq
  simp only [List.mem_cons] at hq
  rw [List.mem_cons, List.mem_filter]
  rcases hq with hq | hq | hq | hq | hq
  · exact Or.inr ⟨by simp [hq], hA q (by simp [hq])⟩
  · exact Or.inr ⟨by simp [hq], hA q (by simp [hq])⟩
  · exact Or.inr ⟨by simp [hq], hA q (by simp [hq])⟩
  · exact Or.inl hq
  · exact Or.inr ⟨by simp [hq], hA q (by simp [hq])⟩
theorem eR_astn_3 {k9 : Fin 4} {i x : Nat} {old : Value} {q0 q1 q2 : Nat × Value} (hd : decode M.2.1 pc = .ok (.astore_n k9, 1)) (hi : (k9 : Nat) = i) (hn : i < M.2.2.1) (ho : okK i (q0 :: q1 :: q2 :: r) = true) (k : eX g d M (pc + 1) (q0 :: q1 :: q2 :: (i, .ref x) :: r) st τ h Q) : eX g d M pc (q0 :: q1 :: q2 :: (i, old) :: r) (.ref x :: st) τ h Q := by
  intro p l e R s m args below meth c H locs cells slots Fin C hH hS ls hl
  refine lv_astore_n C.1.1 C.1.2.1 hd hi hl hn rfl (fun ls hl => k p l e R s m args below meth c H locs cells slots Fin C hH hS ls (lv_mono hl ?_))
  have hA := List.all_eq_true.mp ho
  intro q hq
  simp only [List.mem_cons] at hq
  rw [List.mem_cons, List.mem_filter]
  rcases hq with hq | hq | hq | hq | hq
  · exact Or.inr ⟨by simp [hq], hA q (by simp [hq])⟩
  · exact Or.inr ⟨by simp [hq], hA q (by simp [hq])⟩
  · exact Or.inr ⟨by simp [hq], hA q (by simp [hq])⟩
  · exact Or.inl hq
  · exact Or.inr ⟨by simp [hq], hA q (by simp [hq])⟩
theorem eR_astn_n3 {k9 : Fin 4} {i x : Nat} {q0 q1 q2 : Nat × Value} (hd : decode M.2.1 pc = .ok (.astore_n k9, 1)) (hi : (k9 : Nat) = i) (hn : i < M.2.2.1) (ho : okK i (q0 :: q1 :: q2 :: r) = true) (k : eX g d M (pc + 1) (q0 :: q1 :: q2 :: (i, .ref x) :: r) st τ h Q) : eX g d M pc (q0 :: q1 :: q2 :: r) (.ref x :: st) τ h Q := by
  intro p l e R s m args below meth c H locs cells slots Fin C hH hS ls hl
  refine lv_astore_n C.1.1 C.1.2.1 hd hi hl hn rfl (fun ls hl => k p l e R s m args below meth c H locs cells slots Fin C hH hS ls (lv_mono hl ?_))
  have hA := List.all_eq_true.mp ho
  intro q hq
  simp only [List.mem_cons] at hq
  rw [List.mem_cons, List.mem_filter]
  rcases hq with hq | hq | hq | hq | hq
  · exact Or.inr ⟨by simp [hq], hA q (by simp [hq])⟩
  · exact Or.inr ⟨by simp [hq], hA q (by simp [hq])⟩
  · exact Or.inr ⟨by simp [hq], hA q (by simp [hq])⟩
  · exact Or.inl hq
  · exact Or.inr ⟨by simp [hq], hA q (by simp [hq])⟩
theorem eR_ast_3 {i x : Nat} {old : Value} {q0 q1 q2 : Nat × Value} (hd : decode M.2.1 pc = .ok (.astore i, 2)) (hn : i < M.2.2.1) (ho : okK i (q0 :: q1 :: q2 :: r) = true) (k : eX g d M (pc + 2) (q0 :: q1 :: q2 :: (i, .ref x) :: r) st τ h Q) : eX g d M pc (q0 :: q1 :: q2 :: (i, old) :: r) (.ref x :: st) τ h Q := by
  intro p l e R s m args below meth c H locs cells slots Fin C hH hS ls hl
  refine lv_astore C.1.1 C.1.2.1 hd hl hn rfl (fun ls hl => k p l e R s m args below meth c H locs cells slots Fin C hH hS ls (lv_mono hl ?_))
  have hA := List.all_eq_true.mp ho
  intro q hq
  simp only [List.mem_cons] at hq
  rw [List.mem_cons, List.mem_filter]
  rcases hq with hq | hq | hq | hq | hq
  · exact Or.inr ⟨by simp [hq], hA q (by simp [hq])⟩
  · exact Or.inr ⟨by simp [hq], hA q (by simp [hq])⟩
  · exact Or.inr ⟨by simp [hq], hA q (by simp [hq])⟩
  · exact Or.inl hq
  · exact Or.inr ⟨by simp [hq], hA q (by simp [hq])⟩
theorem eR_ast_n3 {i x : Nat} {q0 q1 q2 : Nat × Value} (hd : decode M.2.1 pc = .ok (.astore i, 2)) (hn : i < M.2.2.1) (ho : okK i (q0 :: q1 :: q2 :: r) = true) (k : eX g d M (pc + 2) (q0 :: q1 :: q2 :: (i, .ref x) :: r) st τ h Q) : eX g d M pc (q0 :: q1 :: q2 :: r) (.ref x :: st) τ h Q := by
  intro p l e R s m args below meth c H locs cells slots Fin C hH hS ls hl
  refine lv_astore C.1.1 C.1.2.1 hd hl hn rfl (fun ls hl => k p l e R s m args below meth c H locs cells slots Fin C hH hS ls (lv_mono hl ?_))
  have hA := List.all_eq_true.mp ho
  intro q hq
  simp only [List.mem_cons] at hq
  rw [List.mem_cons, List.mem_filter]
  rcases hq with hq | hq | hq | hq | hq
  · exact Or.inr ⟨by simp [hq], hA q (by simp [hq])⟩
  · exact Or.inr ⟨by simp [hq], hA q (by simp [hq])⟩
  · exact Or.inr ⟨by simp [hq], hA q (by simp [hq])⟩
  · exact Or.inl hq
  · exact Or.inr ⟨by simp [hq], hA q (by simp [hq])⟩
theorem eR_iinc_3 {i : Nat} {n : Int} {a : Int} {q0 q1 q2 : Nat × Value} (hd : decode M.2.1 pc = .ok (.iinc i n, 3)) (hn : i < M.2.2.1) (ho : okK i (q0 :: q1 :: q2 :: r) = true) (k : eX g d M (pc + 3) (q0 :: q1 :: q2 :: (i, .int (zI (a + n))) :: r) st τ h Q) : eX g d M pc (q0 :: q1 :: q2 :: (i, .int (zI a)) :: r) st τ h Q := by
  intro p l e R s m args below meth c H locs cells slots Fin C hH hS ls hl
  refine lv_iinc C.1.1 C.1.2.1 hd hl (k := 3) rfl (show zI a + zI n = zI (a + n) from zI_add a n) hn rfl (fun ls hl => k p l e R s m args below meth c H locs cells slots Fin C hH hS ls (lv_mono hl ?_))
  have hA := List.all_eq_true.mp ho
  intro q hq
  simp only [List.mem_cons] at hq
  rw [List.mem_cons, List.mem_filter]
  rcases hq with hq | hq | hq | hq | hq
  · exact Or.inr ⟨by simp [hq], hA q (by simp [hq])⟩
  · exact Or.inr ⟨by simp [hq], hA q (by simp [hq])⟩
  · exact Or.inr ⟨by simp [hq], hA q (by simp [hq])⟩
  · exact Or.inl hq
  · exact Or.inr ⟨by simp [hq], hA q (by simp [hq])⟩
theorem eR_ildn_4 {k9 : Fin 4} {i : Nat} {x : Int32} {q0 q1 q2 q3 : Nat × Value} (hd : decode M.2.1 pc = .ok (.iload_n k9, 1)) (hi : (k9 : Nat) = i) (k : eX g d M (pc + 1) (q0 :: q1 :: q2 :: q3 :: (i, .int x) :: r) (.int x :: st) τ h Q) : eX g d M pc (q0 :: q1 :: q2 :: q3 :: (i, .int x) :: r) st τ h Q := by
  intro p l e R s m args below meth c H locs cells slots Fin C hH hS ls hl
  exact lv_iload_n C.1.1 C.1.2.1 hd hi (lv_at hl 4 rfl) (k p l e R s m args below meth c H locs cells slots Fin C hH hS ls hl)
theorem eR_ild_4 {i : Nat} {x : Int32} {q0 q1 q2 q3 : Nat × Value} (hd : decode M.2.1 pc = .ok (.iload i, 2)) (k : eX g d M (pc + 2) (q0 :: q1 :: q2 :: q3 :: (i, .int x) :: r) (.int x :: st) τ h Q) : eX g d M pc (q0 :: q1 :: q2 :: q3 :: (i, .int x) :: r) st τ h Q := by
  intro p l e R s m args below meth c H locs cells slots Fin C hH hS ls hl
  exact lv_iload C.1.1 C.1.2.1 hd (lv_at hl 4 rfl) (k p l e R s m args below meth c H locs cells slots Fin C hH hS ls hl)
theorem eR_aldn_4 {k9 : Fin 4} {i x : Nat} {q0 q1 q2 q3 : Nat × Value} (hd : decode M.2.1 pc = .ok (.aload_n k9, 1)) (hi : (k9 : Nat) = i) (k : eX g d M (pc + 1) (q0 :: q1 :: q2 :: q3 :: (i, .ref x) :: r) (.ref x :: st) τ h Q) : eX g d M pc (q0 :: q1 :: q2 :: q3 :: (i, .ref x) :: r) st τ h Q := by
  intro p l e R s m args below meth c H locs cells slots Fin C hH hS ls hl
  exact lv_aload_n C.1.1 C.1.2.1 hd hi (lv_at hl 4 rfl) (k p l e R s m args below meth c H locs cells slots Fin C hH hS ls hl)
theorem eR_ald_4 {i x : Nat} {q0 q1 q2 q3 : Nat × Value} (hd : decode M.2.1 pc = .ok (.aload i, 2)) (k : eX g d M (pc + 2) (q0 :: q1 :: q2 :: q3 :: (i, .ref x) :: r) (.ref x :: st) τ h Q) : eX g d M pc (q0 :: q1 :: q2 :: q3 :: (i, .ref x) :: r) st τ h Q := by
  intro p l e R s m args below meth c H locs cells slots Fin C hH hS ls hl
  exact lv_aload C.1.1 C.1.2.1 hd (lv_at hl 4 rfl) (k p l e R s m args below meth c H locs cells slots Fin C hH hS ls hl)
theorem eR_lldn_4 {k9 : Fin 4} {i : Nat} {x : Int64} {q0 q1 q2 q3 : Nat × Value} (hd : decode M.2.1 pc = .ok (.lload_n k9, 1)) (hi : (k9 : Nat) = i) (k : eX g d M (pc + 1) (q0 :: q1 :: q2 :: q3 :: (i, .long x) :: r) (.long x :: st) τ h Q) : eX g d M pc (q0 :: q1 :: q2 :: q3 :: (i, .long x) :: r) st τ h Q := by
  intro p l e R s m args below meth c H locs cells slots Fin C hH hS ls hl
  exact lv_lload_n C.1.1 C.1.2.1 hd hi (lv_at hl 4 rfl) (k p l e R s m args below meth c H locs cells slots Fin C hH hS ls hl)
theorem eR_lld_4 {i : Nat} {x : Int64} {q0 q1 q2 q3 : Nat × Value} (hd : decode M.2.1 pc = .ok (.lload i, 2)) (k : eX g d M (pc + 2) (q0 :: q1 :: q2 :: q3 :: (i, .long x) :: r) (.long x :: st) τ h Q) : eX g d M pc (q0 :: q1 :: q2 :: q3 :: (i, .long x) :: r) st τ h Q := by
  intro p l e R s m args below meth c H locs cells slots Fin C hH hS ls hl
  exact lv_lload C.1.1 C.1.2.1 hd (lv_at hl 4 rfl) (k p l e R s m args below meth c H locs cells slots Fin C hH hS ls hl)
theorem eR_istn_4 {k9 : Fin 4} {i : Nat} {x : Int32} {old : Value} {q0 q1 q2 q3 : Nat × Value} (hd : decode M.2.1 pc = .ok (.istore_n k9, 1)) (hi : (k9 : Nat) = i) (hn : i < M.2.2.1) (ho : okK i (q0 :: q1 :: q2 :: q3 :: r) = true) (k : eX g d M (pc + 1) (q0 :: q1 :: q2 :: q3 :: (i, .int x) :: r) st τ h Q) : eX g d M pc (q0 :: q1 :: q2 :: q3 :: (i, old) :: r) (.int x :: st) τ h Q := by
  intro p l e R s m args below meth c H locs cells slots Fin C hH hS ls hl
  refine lv_istore_n C.1.1 C.1.2.1 hd hi hl hn rfl (fun ls hl => k p l e R s m args below meth c H locs cells slots Fin C hH hS ls (lv_mono hl ?_))
  have hA := List.all_eq_true.mp ho
  intro q hq
  simp only [List.mem_cons] at hq
  rw [List.mem_cons, List.mem_filter]
  rcases hq with hq | hq | hq | hq | hq | hq
  · exact Or.inr ⟨by simp [hq], hA q (by simp [hq])⟩
  · exact Or.inr ⟨by simp [hq], hA q (by simp [hq])⟩
  · exact Or.inr ⟨by simp [hq], hA q (by simp [hq])⟩
  · exact Or.inr ⟨by simp [hq], hA q (by simp [hq])⟩
  · exact Or.inl hq
  · exact Or.inr ⟨by simp [hq], hA q (by simp [hq])⟩
theorem eR_istn_n4 {k9 : Fin 4} {i : Nat} {x : Int32} {q0 q1 q2 q3 : Nat × Value} (hd : decode M.2.1 pc = .ok (.istore_n k9, 1)) (hi : (k9 : Nat) = i) (hn : i < M.2.2.1) (ho : okK i (q0 :: q1 :: q2 :: q3 :: r) = true) (k : eX g d M (pc + 1) (q0 :: q1 :: q2 :: q3 :: (i, .int x) :: r) st τ h Q) : eX g d M pc (q0 :: q1 :: q2 :: q3 :: r) (.int x :: st) τ h Q := by
  intro p l e R s m args below meth c H locs cells slots Fin C hH hS ls hl
  refine lv_istore_n C.1.1 C.1.2.1 hd hi hl hn rfl (fun ls hl => k p l e R s m args below meth c H locs cells slots Fin C hH hS ls (lv_mono hl ?_))
  have hA := List.all_eq_true.mp ho
  intro q hq
  simp only [List.mem_cons] at hq
  rw [List.mem_cons, List.mem_filter]
  rcases hq with hq | hq | hq | hq | hq | hq
  · exact Or.inr ⟨by simp [hq], hA q (by simp [hq])⟩
  · exact Or.inr ⟨by simp [hq], hA q (by simp [hq])⟩
  · exact Or.inr ⟨by simp [hq], hA q (by simp [hq])⟩
  · exact Or.inr ⟨by simp [hq], hA q (by simp [hq])⟩
  · exact Or.inl hq
  · exact Or.inr ⟨by simp [hq], hA q (by simp [hq])⟩
theorem eR_ist_4 {i : Nat} {x : Int32} {old : Value} {q0 q1 q2 q3 : Nat × Value} (hd : decode M.2.1 pc = .ok (.istore i, 2)) (hn : i < M.2.2.1) (ho : okK i (q0 :: q1 :: q2 :: q3 :: r) = true) (k : eX g d M (pc + 2) (q0 :: q1 :: q2 :: q3 :: (i, .int x) :: r) st τ h Q) : eX g d M pc (q0 :: q1 :: q2 :: q3 :: (i, old) :: r) (.int x :: st) τ h Q := by
  intro p l e R s m args below meth c H locs cells slots Fin C hH hS ls hl
  refine lv_istore C.1.1 C.1.2.1 hd hl hn rfl (fun ls hl => k p l e R s m args below meth c H locs cells slots Fin C hH hS ls (lv_mono hl ?_))
  have hA := List.all_eq_true.mp ho
  intro q hq
  simp only [List.mem_cons] at hq
  rw [List.mem_cons, List.mem_filter]
  rcases hq with hq | hq | hq | hq | hq | hq
  · exact Or.inr ⟨by simp [hq], hA q (by simp [hq])⟩
  · exact Or.inr ⟨by simp [hq], hA q (by simp [hq])⟩
  · exact Or.inr ⟨by simp [hq], hA q (by simp [hq])⟩
  · exact Or.inr ⟨by simp [hq], hA q (by simp [hq])⟩
  · exact Or.inl hq
  · exact Or.inr ⟨by simp [hq], hA q (by simp [hq])⟩
theorem eR_ist_n4 {i : Nat} {x : Int32} {q0 q1 q2 q3 : Nat × Value} (hd : decode M.2.1 pc = .ok (.istore i, 2)) (hn : i < M.2.2.1) (ho : okK i (q0 :: q1 :: q2 :: q3 :: r) = true) (k : eX g d M (pc + 2) (q0 :: q1 :: q2 :: q3 :: (i, .int x) :: r) st τ h Q) : eX g d M pc (q0 :: q1 :: q2 :: q3 :: r) (.int x :: st) τ h Q := by
  intro p l e R s m args below meth c H locs cells slots Fin C hH hS ls hl
  refine lv_istore C.1.1 C.1.2.1 hd hl hn rfl (fun ls hl => k p l e R s m args below meth c H locs cells slots Fin C hH hS ls (lv_mono hl ?_))
  have hA := List.all_eq_true.mp ho
  intro q hq
  simp only [List.mem_cons] at hq
  rw [List.mem_cons, List.mem_filter]
  rcases hq with hq | hq | hq | hq | hq | hq
  · exact Or.inr ⟨by simp [hq], hA q (by simp [hq])⟩
  · exact Or.inr ⟨by simp [hq], hA q (by simp [hq])⟩
  · exact Or.inr ⟨by simp [hq], hA q (by simp [hq])⟩
  · exact Or.inr ⟨by simp [hq], hA q (by simp [hq])⟩
  · exact Or.inl hq
  · exact Or.inr ⟨by simp [hq], hA q (by simp [hq])⟩
theorem eR_astn_4 {k9 : Fin 4} {i x : Nat} {old : Value} {q0 q1 q2 q3 : Nat × Value} (hd : decode M.2.1 pc = .ok (.astore_n k9, 1)) (hi : (k9 : Nat) = i) (hn : i < M.2.2.1) (ho : okK i (q0 :: q1 :: q2 :: q3 :: r) = true) (k : eX g d M (pc + 1) (q0 :: q1 :: q2 :: q3 :: (i, .ref x) :: r) st τ h Q) : eX g d M pc (q0 :: q1 :: q2 :: q3 :: (i, old) :: r) (.ref x :: st) τ h Q := by
  intro p l e R s m args below meth c H locs cells slots Fin C hH hS ls hl
  refine lv_astore_n C.1.1 C.1.2.1 hd hi hl hn rfl (fun ls hl => k p l e R s m args below meth c H locs cells slots Fin C hH hS ls (lv_mono hl ?_))
  have hA := List.all_eq_true.mp ho
  intro q hq
  simp only [List.mem_cons] at hq
  rw [List.mem_cons, List.mem_filter]
  rcases hq with hq | hq | hq | hq | hq | hq
  · exact Or.inr ⟨by simp [hq], hA q (by simp [hq])⟩
  · exact Or.inr ⟨by simp [hq], hA q (by simp [hq])⟩
  · exact Or.inr ⟨by simp [hq], hA q (by simp [hq])⟩
  · exact Or.inr ⟨by simp [hq], hA q (by simp [hq])⟩
  · exact Or.inl hq
  · exact Or.inr ⟨by simp [hq], hA q (by simp [hq])⟩
theorem eR_astn_n4 {k9 : Fin 4} {i x : Nat} {q0 q1 q2 q3 : Nat × Value} (hd : decode M.2.1 pc = .ok (.astore_n k9, 1)) (hi : (k9 : Nat) = i) (hn : i < M.2.2.1) (ho : okK i (q0 :: q1 :: q2 :: q3 :: r) = true) (k : eX g d M (pc + 1) (q0 :: q1 :: q2 :: q3 :: (i, .ref x) :: r) st τ h Q) : eX g d M pc (q0 :: q1 :: q2 :: q3 :: r) (.ref x :: st) τ h Q := by
  intro p l e R s m args below meth c H locs cells slots Fin C hH hS ls hl
  refine lv_astore_n C.1.1 C.1.2.1 hd hi hl hn rfl (fun ls hl => k p l e R s m args below meth c H locs cells slots Fin C hH hS ls (lv_mono hl ?_))
  have hA := List.all_eq_true.mp ho
  intro q hq
  simp only [List.mem_cons] at hq
  rw [List.mem_cons, List.mem_filter]
  rcases hq with hq | hq | hq | hq | hq | hq
  · exact Or.inr ⟨by simp [hq], hA q (by simp [hq])⟩
  · exact Or.inr ⟨by simp [hq], hA q (by simp [hq])⟩
  · exact Or.inr ⟨by simp [hq], hA q (by simp [hq])⟩
  · exact Or.inr ⟨by simp [hq], hA q (by simp [hq])⟩
  · exact Or.inl hq
  · exact Or.inr ⟨by simp [hq], hA q (by simp [hq])⟩
theorem eR_ast_4 {i x : Nat} {old : Value} {q0 q1 q2 q3 : Nat × Value} (hd : decode M.2.1 pc = .ok (.astore i, 2)) (hn : i < M.2.2.1) (ho : okK i (q0 :: q1 :: q2 :: q3 :: r) = true) (k : eX g d M (pc + 2) (q0 :: q1 :: q2 :: q3 :: (i, .ref x) :: r) st τ h Q) : eX g d M pc (q0 :: q1 :: q2 :: q3 :: (i, old) :: r) (.ref x :: st) τ h Q := by
  intro p l e R s m args below meth c H locs cells slots Fin C hH hS ls hl
  refine lv_astore C.1.1 C.1.2.1 hd hl hn rfl (fun ls hl => k p l e R s m args below meth c H locs cells slots Fin C hH hS ls (lv_mono hl ?_))
  have hA := List.all_eq_true.mp ho
  intro q hq
  simp only [List.mem_cons] at hq
  rw [List.mem_cons, List.mem_filter]
  rcases hq with hq | hq | hq | hq | hq | hq
  · exact Or.inr ⟨by simp [hq], hA q (by simp [hq])⟩
  · exact Or.inr ⟨by simp [hq], hA q (by simp [hq])⟩
  · exact Or.inr ⟨by simp [hq], hA q (by simp [hq])⟩
  · exact Or.inr ⟨by simp [hq], hA q (by simp [hq])⟩
  · exact Or.inl hq
  · exact Or.inr ⟨by simp [hq], hA q (by simp [hq])⟩
theorem eR_ast_n4 {i x : Nat} {q0 q1 q2 q3 : Nat × Value} (hd : decode M.2.1 pc = .ok (.astore i, 2)) (hn : i < M.2.2.1) (ho : okK i (q0 :: q1 :: q2 :: q3 :: r) = true) (k : eX g d M (pc + 2) (q0 :: q1 :: q2 :: q3 :: (i, .ref x) :: r) st τ h Q) : eX g d M pc (q0 :: q1 :: q2 :: q3 :: r) (.ref x :: st) τ h Q := by
  intro p l e R s m args below meth c H locs cells slots Fin C hH hS ls hl
  refine lv_astore C.1.1 C.1.2.1 hd hl hn rfl (fun ls hl => k p l e R s m args below meth c H locs cells slots Fin C hH hS ls (lv_mono hl ?_))
  have hA := List.all_eq_true.mp ho
  intro q hq
  simp only [List.mem_cons] at hq
  rw [List.mem_cons, List.mem_filter]
  rcases hq with hq | hq | hq | hq | hq | hq
  · exact Or.inr ⟨by simp [hq], hA q (by simp [hq])⟩
  · exact Or.inr ⟨by simp [hq], hA q (by simp [hq])⟩
  · exact Or.inr ⟨by simp [hq], hA q (by simp [hq])⟩
  · exact Or.inr ⟨by simp [hq], hA q (by simp [hq])⟩
  · exact Or.inl hq
  · exact Or.inr ⟨by simp [hq], hA q (by simp [hq])⟩
theorem eR_iinc_4 {i : Nat} {n : Int} {a : Int} {q0 q1 q2 q3 : Nat × Value} (hd : decode M.2.1 pc = .ok (.iinc i n, 3)) (hn : i < M.2.2.1) (ho : okK i (q0 :: q1 :: q2 :: q3 :: r) = true) (k : eX g d M (pc + 3) (q0 :: q1 :: q2 :: q3 :: (i, .int (zI (a + n))) :: r) st τ h Q) : eX g d M pc (q0 :: q1 :: q2 :: q3 :: (i, .int (zI a)) :: r) st τ h Q := by
  intro p l e R s m args below meth c H locs cells slots Fin C hH hS ls hl
  refine lv_iinc C.1.1 C.1.2.1 hd hl (k := 4) rfl (show zI a + zI n = zI (a + n) from zI_add a n) hn rfl (fun ls hl => k p l e R s m args below meth c H locs cells slots Fin C hH hS ls (lv_mono hl ?_))
  have hA := List.all_eq_true.mp ho
  intro q hq
  simp only [List.mem_cons] at hq
  rw [List.mem_cons, List.mem_filter]
  rcases hq with hq | hq | hq | hq | hq | hq
  · exact Or.inr ⟨by simp [hq], hA q (by simp [hq])⟩
  · exact Or.inr ⟨by simp [hq], hA q (by simp [hq])⟩
  · exact Or.inr ⟨by simp [hq], hA q (by simp [hq])⟩
  · exact Or.inr ⟨by simp [hq], hA q (by simp [hq])⟩
  · exact Or.inl hq
  · exact Or.inr ⟨by simp [hq], hA q (by simp [hq])⟩
theorem eR_ildn_5 {k9 : Fin 4} {i : Nat} {x : Int32} {q0 q1 q2 q3 q4 : Nat × Value} (hd : decode M.2.1 pc = .ok (.iload_n k9, 1)) (hi : (k9 : Nat) = i) (k : eX g d M (pc + 1) (q0 :: q1 :: q2 :: q3 :: q4 :: (i, .int x) :: r) (.int x :: st) τ h Q) : eX g d M pc (q0 :: q1 :: q2 :: q3 :: q4 :: (i, .int x) :: r) st τ h Q := by
  intro p l e R s m args below meth c H locs cells slots Fin C hH hS ls hl
  exact lv_iload_n C.1.1 C.1.2.1 hd hi (lv_at hl 5 rfl) (k p l e R s m args below meth c H locs cells slots Fin C hH hS ls hl)
theorem eR_ild_5 {i : Nat} {x : Int32} {q0 q1 q2 q3 q4 : Nat × Value} (hd : decode M.2.1 pc = .ok (.iload i, 2)) (k : eX g d M (pc + 2) (q0 :: q1 :: q2 :: q3 :: q4 :: (i, .int x) :: r) (.int x :: st) τ h Q) : eX g d M pc (q0 :: q1 :: q2 :: q3 :: q4 :: (i, .int x) :: r) st τ h Q := by
  intro p l e R s m args below meth c H locs cells slots Fin C hH hS ls hl
  exact lv_iload C.1.1 C.1.2.1 hd (lv_at hl 5 rfl) (k p l e R s m args below meth c H locs cells slots Fin C hH hS ls hl)
theorem eR_aldn_5 {k9 : Fin 4} {i x : Nat} {q0 q1 q2 q3 q4 : Nat × Value} (hd : decode M.2.1 pc = .ok (.aload_n k9, 1)) (hi : (k9 : Nat) = i) (k : eX g d M (pc + 1) (q0 :: q1 :: q2 :: q3 :: q4 :: (i, .ref x) :: r) (.ref x :: st) τ h Q) : eX g d M pc (q0 :: q1 :: q2 :: q3 :: q4 :: (i, .ref x) :: r) st τ h Q := by
  intro p l e R s m args below meth c H locs cells slots Fin C hH hS ls hl
  exact lv_aload_n C.1.1 C.1.2.1 hd hi (lv_at hl 5 rfl) (k p l e R s m args below meth c H locs cells slots Fin C hH hS ls hl)
theorem eR_ald_5 {i x : Nat} {q0 q1 q2 q3 q4 : Nat × Value} (hd : decode M.2.1 pc = .ok (.aload i, 2)) (k : eX g d M (pc + 2) (q0 :: q1 :: q2 :: q3 :: q4 :: (i, .ref x) :: r) (.ref x :: st) τ h Q) : eX g d M pc (q0 :: q1 :: q2 :: q3 :: q4 :: (i, .ref x) :: r) st τ h Q := by
  intro p l e R s m args below meth c H locs cells slots Fin C hH hS ls hl
  exact lv_aload C.1.1 C.1.2.1 hd (lv_at hl 5 rfl) (k p l e R s m args below meth c H locs cells slots Fin C hH hS ls hl)
theorem eR_lldn_5 {k9 : Fin 4} {i : Nat} {x : Int64} {q0 q1 q2 q3 q4 : Nat × Value} (hd : decode M.2.1 pc = .ok (.lload_n k9, 1)) (hi : (k9 : Nat) = i) (k : eX g d M (pc + 1) (q0 :: q1 :: q2 :: q3 :: q4 :: (i, .long x) :: r) (.long x :: st) τ h Q) : eX g d M pc (q0 :: q1 :: q2 :: q3 :: q4 :: (i, .long x) :: r) st τ h Q := by
  intro p l e R s m args below meth c H locs cells slots Fin C hH hS ls hl
  exact lv_lload_n C.1.1 C.1.2.1 hd hi (lv_at hl 5 rfl) (k p l e R s m args below meth c H locs cells slots Fin C hH hS ls hl)
theorem eR_lld_5 {i : Nat} {x : Int64} {q0 q1 q2 q3 q4 : Nat × Value} (hd : decode M.2.1 pc = .ok (.lload i, 2)) (k : eX g d M (pc + 2) (q0 :: q1 :: q2 :: q3 :: q4 :: (i, .long x) :: r) (.long x :: st) τ h Q) : eX g d M pc (q0 :: q1 :: q2 :: q3 :: q4 :: (i, .long x) :: r) st τ h Q := by
  intro p l e R s m args below meth c H locs cells slots Fin C hH hS ls hl
  exact lv_lload C.1.1 C.1.2.1 hd (lv_at hl 5 rfl) (k p l e R s m args below meth c H locs cells slots Fin C hH hS ls hl)
theorem eR_istn_5 {k9 : Fin 4} {i : Nat} {x : Int32} {old : Value} {q0 q1 q2 q3 q4 : Nat × Value} (hd : decode M.2.1 pc = .ok (.istore_n k9, 1)) (hi : (k9 : Nat) = i) (hn : i < M.2.2.1) (ho : okK i (q0 :: q1 :: q2 :: q3 :: q4 :: r) = true) (k : eX g d M (pc + 1) (q0 :: q1 :: q2 :: q3 :: q4 :: (i, .int x) :: r) st τ h Q) : eX g d M pc (q0 :: q1 :: q2 :: q3 :: q4 :: (i, old) :: r) (.int x :: st) τ h Q := by
  intro p l e R s m args below meth c H locs cells slots Fin C hH hS ls hl
  refine lv_istore_n C.1.1 C.1.2.1 hd hi hl hn rfl (fun ls hl => k p l e R s m args below meth c H locs cells slots Fin C hH hS ls (lv_mono hl ?_))
  have hA := List.all_eq_true.mp ho
  intro q hq
  simp only [List.mem_cons] at hq
  rw [List.mem_cons, List.mem_filter]
  rcases hq with hq | hq | hq | hq | hq | hq | hq
  · exact Or.inr ⟨by simp [hq], hA q (by simp [hq])⟩
  · exact Or.inr ⟨by simp [hq], hA q (by simp [hq])⟩
  · exact Or.inr ⟨by simp [hq], hA q (by simp [hq])⟩
  · exact Or.inr ⟨by simp [hq], hA q (by simp [hq])⟩
  · exact Or.inr ⟨by simp [hq], hA q (by simp [hq])⟩
  · exact Or.inl hq
  · exact Or.inr ⟨by simp [hq], hA q (by simp [hq])⟩
theorem eR_istn_n5 {k9 : Fin 4} {i : Nat} {x : Int32} {q0 q1 q2 q3 q4 : Nat × Value} (hd : decode M.2.1 pc = .ok (.istore_n k9, 1)) (hi : (k9 : Nat) = i) (hn : i < M.2.2.1) (ho : okK i (q0 :: q1 :: q2 :: q3 :: q4 :: r) = true) (k : eX g d M (pc + 1) (q0 :: q1 :: q2 :: q3 :: q4 :: (i, .int x) :: r) st τ h Q) : eX g d M pc (q0 :: q1 :: q2 :: q3 :: q4 :: r) (.int x :: st) τ h Q := by
  intro p l e R s m args below meth c H locs cells slots Fin C hH hS ls hl
  refine lv_istore_n C.1.1 C.1.2.1 hd hi hl hn rfl (fun ls hl => k p l e R s m args below meth c H locs cells slots Fin C hH hS ls (lv_mono hl ?_))
  have hA := List.all_eq_true.mp ho
  intro q hq
  simp only [List.mem_cons] at hq
  rw [List.mem_cons, List.mem_filter]
  rcases hq with hq | hq | hq | hq | hq | hq | hq
  · exact Or.inr ⟨by simp [hq], hA q (by simp [hq])⟩
  · exact Or.inr ⟨by simp [hq], hA q (by simp [hq])⟩
  · exact Or.inr ⟨by simp [hq], hA q (by simp [hq])⟩
  · exact Or.inr ⟨by simp [hq], hA q (by simp [hq])⟩
  · exact Or.inr ⟨by simp [hq], hA q (by simp [hq])⟩
  · exact Or.inl hq
  · exact Or.inr ⟨by simp [hq], hA q (by simp [hq])⟩
theorem eR_ist_5 {i : Nat} {x : Int32} {old : Value} {q0 q1 q2 q3 q4 : Nat × Value} (hd : decode M.2.1 pc = .ok (.istore i, 2)) (hn : i < M.2.2.1) (ho : okK i (q0 :: q1 :: q2 :: q3 :: q4 :: r) = true) (k : eX g d M (pc + 2) (q0 :: q1 :: q2 :: q3 :: q4 :: (i, .int x) :: r) st τ h Q) : eX g d M pc (q0 :: q1 :: q2 :: q3 :: q4 :: (i, old) :: r) (.int x :: st) τ h Q := by
  intro p l e R s m args below meth c H locs cells slots Fin C hH hS ls hl
  refine lv_istore C.1.1 C.1.2.1 hd hl hn rfl (fun ls hl => k p l e R s m args below meth c H locs cells slots Fin C hH hS ls (lv_mono hl ?_))
  have hA := List.all_eq_true.mp ho
  intro q hq
  simp only [List.mem_cons] at hq
  rw [List.mem_cons, List.mem_filter]
  rcases hq with hq | hq | hq | hq | hq | hq | hq
  · exact Or.inr ⟨by simp [hq], hA q (by simp [hq])⟩
  · exact Or.inr ⟨by simp [hq], hA q (by simp [hq])⟩
  · exact Or.inr ⟨by simp [hq], hA q (by simp [hq])⟩
  · exact Or.inr ⟨by simp [hq], hA q (by simp [hq])⟩
  · exact Or.inr ⟨by simp [hq], hA q (by simp [hq])⟩
  · exact Or.inl hq
  · exact Or.inr ⟨by simp [hq], hA q (by simp [hq])⟩
theorem eR_ist_n5 {i : Nat} {x : Int32} {q0 q1 q2 q3 q4 : Nat × Value} (hd : decode M.2.1 pc = .ok (.istore i, 2)) (hn : i < M.2.2.1) (ho : okK i (q0 :: q1 :: q2 :: q3 :: q4 :: r) = true) (k : eX g d M (pc + 2) (q0 :: q1 :: q2 :: q3 :: q4 :: (i, .int x) :: r) st τ h Q) : eX g d M pc (q0 :: q1 :: q2 :: q3 :: q4 :: r) (.int x :: st) τ h Q := by
  intro p l e R s m args below meth c H locs cells slots Fin C hH hS ls hl
  refine lv_istore C.1.1 C.1.2.1 hd hl hn rfl (fun ls hl => k p l e R s m args below meth c H locs cells slots Fin C hH hS ls (lv_mono hl ?_))
  have hA := List.all_eq_true.mp ho
  intro q hq
  simp only [List.mem_cons] at hq
  rw [List.mem_cons, List.mem_filter]
  rcases hq with hq | hq | hq | hq | hq | hq | hq
  · exact Or.inr ⟨by simp [hq], hA q (by simp [hq])⟩
  · exact Or.inr ⟨by simp [hq], hA q (by simp [hq])⟩
  · exact Or.inr ⟨by simp [hq], hA q (by simp [hq])⟩
  · exact Or.inr ⟨by simp [hq], hA q (by simp [hq])⟩
  · exact Or.inr ⟨by simp [hq], hA q (by simp [hq])⟩
  · exact Or.inl hq
  · exact Or.inr ⟨by simp [hq], hA q (by simp [hq])⟩
theorem eR_astn_5 {k9 : Fin 4} {i x : Nat} {old : Value} {q0 q1 q2 q3 q4 : Nat × Value} (hd : decode M.2.1 pc = .ok (.astore_n k9, 1)) (hi : (k9 : Nat) = i) (hn : i < M.2.2.1) (ho : okK i (q0 :: q1 :: q2 :: q3 :: q4 :: r) = true) (k : eX g d M (pc + 1) (q0 :: q1 :: q2 :: q3 :: q4 :: (i, .ref x) :: r) st τ h Q) : eX g d M pc (q0 :: q1 :: q2 :: q3 :: q4 :: (i, old) :: r) (.ref x :: st) τ h Q := by
  intro p l e R s m args below meth c H locs cells slots Fin C hH hS ls hl
  refine lv_astore_n C.1.1 C.1.2.1 hd hi hl hn rfl (fun ls hl => k p l e R s m args below meth c H locs cells slots Fin C hH hS ls (lv_mono hl ?_))
  have hA := List.all_eq_true.mp ho
  intro q hq
  simp only [List.mem_cons] at hq
  rw [List.mem_cons, List.mem_filter]
  rcases hq with hq | hq | hq | hq | hq | hq | hq
  · exact Or.inr ⟨by simp [hq], hA q (by simp [hq])⟩
  · exact Or.inr ⟨by simp [hq], hA q (by simp [hq])⟩
  · exact Or.inr ⟨by simp [hq], hA q (by simp [hq])⟩
  · exact Or.inr ⟨by simp [hq], hA q (by simp [hq])⟩
  · exact Or.inr ⟨by simp [hq], hA q (by simp [hq])⟩
  · exact Or.inl hq
  · exact Or.inr ⟨by simp [hq], hA q (by simp [hq])⟩
theorem eR_astn_n5 {k9 : Fin 4} {i x : Nat} {q0 q1 q2 q3 q4 : Nat × Value} (hd : decode M.2.1 pc = .ok (.astore_n k9, 1)) (hi : (k9 : Nat) = i) (hn : i < M.2.2.1) (ho : okK i (q0 :: q1 :: q2 :: q3 :: q4 :: r) = true) (k : eX g d M (pc + 1) (q0 :: q1 :: q2 :: q3 :: q4 :: (i, .ref x) :: r) st τ h Q) : eX g d M pc (q0 :: q1 :: q2 :: q3 :: q4 :: r) (.ref x :: st) τ h Q := by
  intro p l e R s m args below meth c H locs cells slots Fin C hH hS ls hl
  refine lv_astore_n C.1.1 C.1.2.1 hd hi hl hn rfl (fun ls hl => k p l e R s m args below meth c H locs cells slots Fin C hH hS ls (lv_mono hl ?_))
  have hA := List.all_eq_true.mp ho
  intro q hq
  simp only [List.mem_cons] at hq
  rw [List.mem_cons, List.mem_filter]
  rcases hq with hq | hq | hq | hq | hq | hq | hq
  · exact Or.inr ⟨by simp [hq], hA q (by simp [hq])⟩
  · exact Or.inr ⟨by simp [hq], hA q (by simp [hq])⟩
  · exact Or.inr ⟨by simp [hq], hA q (by simp [hq])⟩
  · exact Or.inr ⟨by simp [hq], hA q (by simp [hq])⟩
  · exact Or.inr ⟨by simp [hq], hA q (by simp [hq])⟩
  · exact Or.inl hq
  · exact Or.inr ⟨by simp [hq], hA q (by simp [hq])⟩
theorem eR_ast_5 {i x : Nat} {old : Value} {q0 q1 q2 q3 q4 : Nat × Value} (hd : decode M.2.1 pc = .ok (.astore i, 2)) (hn : i < M.2.2.1) (ho : okK i (q0 :: q1 :: q2 :: q3 :: q4 :: r) = true) (k : eX g d M (pc + 2) (q0 :: q1 :: q2 :: q3 :: q4 :: (i, .ref x) :: r) st τ h Q) : eX g d M pc (q0 :: q1 :: q2 :: q3 :: q4 :: (i, old) :: r) (.ref x :: st) τ h Q := by
  intro p l e R s m args below meth c H locs cells slots Fin C hH hS ls hl
  refine lv_astore C.1.1 C.1.2.1 hd hl hn rfl (fun ls hl => k p l e R s m args below meth c H locs cells slots Fin C hH hS ls (lv_mono hl ?_))
  have hA := List.all_eq_true.mp ho
  intro q hq
  simp only [List.mem_cons] at hq
  rw [List.mem_cons, List.mem_filter]
  rcases hq with hq | hq | hq | hq | hq | hq | hq
  · exact Or.inr ⟨by simp [hq], hA q (by simp [hq])⟩
  · exact Or.inr ⟨by simp [hq], hA q (by simp [hq])⟩
  · exact Or.inr ⟨by simp [hq], hA q (by simp [hq])⟩
  · exact Or.inr ⟨by simp [hq], hA q (by simp [hq])⟩
  · exact Or.inr ⟨by simp [hq], hA q (by simp [hq])⟩
  · exact Or.inl hq
  · exact Or.inr ⟨by simp [hq], hA q (by simp [hq])⟩
theorem eR_ast_n5 {i x : Nat} {q0 q1 q2 q3 q4 : Nat × Value} (hd : decode M.2.1 pc = .ok (.astore i, 2)) (hn : i < M.2.2.1) (ho : okK i (q0 :: q1 :: q2 :: q3 :: q4 :: r) = true) (k : eX g d M (pc + 2) (q0 :: q1 :: q2 :: q3 :: q4 :: (i, .ref x) :: r) st τ h Q) : eX g d M pc (q0 :: q1 :: q2 :: q3 :: q4 :: r) (.ref x :: st) τ h Q := by
  intro p l e R s m args below meth c H locs cells slots Fin C hH hS ls hl
  refine lv_astore C.1.1 C.1.2.1 hd hl hn rfl (fun ls hl => k p l e R s m args below meth c H locs cells slots Fin C hH hS ls (lv_mono hl ?_))
  have hA := List.all_eq_true.mp ho
  intro q hq
  simp only [List.mem_cons] at hq
  rw [List.mem_cons, List.mem_filter]
  rcases hq with hq | hq | hq | hq | hq | hq | hq
  · exact Or.inr ⟨by simp [hq], hA q (by simp [hq])⟩
  · exact Or.inr ⟨by simp [hq], hA q (by simp [hq])⟩
  · exact Or.inr ⟨by simp [hq], hA q (by simp [hq])⟩
  · exact Or.inr ⟨by simp [hq], hA q (by simp [hq])⟩
  · exact Or.inr ⟨by simp [hq], hA q (by simp [hq])⟩
  · exact Or.inl hq
  · exact Or.inr ⟨by simp [hq], hA q (by simp [hq])⟩
theorem eR_iinc_5 {i : Nat} {n : Int} {a : Int} {q0 q1 q2 q3 q4 : Nat × Value} (hd : decode M.2.1 pc = .ok (.iinc i n, 3)) (hn : i < M.2.2.1) (ho : okK i (q0 :: q1 :: q2 :: q3 :: q4 :: r) = true) (k : eX g d M (pc + 3) (q0 :: q1 :: q2 :: q3 :: q4 :: (i, .int (zI (a + n))) :: r) st τ h Q) : eX g d M pc (q0 :: q1 :: q2 :: q3 :: q4 :: (i, .int (zI a)) :: r) st τ h Q := by
  intro p l e R s m args below meth c H locs cells slots Fin C hH hS ls hl
  refine lv_iinc C.1.1 C.1.2.1 hd hl (k := 5) rfl (show zI a + zI n = zI (a + n) from zI_add a n) hn rfl (fun ls hl => k p l e R s m args below meth c H locs cells slots Fin C hH hS ls (lv_mono hl ?_))
  have hA := List.all_eq_true.mp ho
  intro q hq
  simp only [List.mem_cons] at hq
  rw [List.mem_cons, List.mem_filter]
  rcases hq with hq | hq | hq | hq | hq | hq | hq
  · exact Or.inr ⟨by simp [hq], hA q (by simp [hq])⟩
  · exact Or.inr ⟨by simp [hq], hA q (by simp [hq])⟩
  · exact Or.inr ⟨by simp [hq], hA q (by simp [hq])⟩
  · exact Or.inr ⟨by simp [hq], hA q (by simp [hq])⟩
  · exact Or.inr ⟨by simp [hq], hA q (by simp [hq])⟩
  · exact Or.inl hq
  · exact Or.inr ⟨by simp [hq], hA q (by simp [hq])⟩
theorem eR_ildn_6 {k9 : Fin 4} {i : Nat} {x : Int32} {q0 q1 q2 q3 q4 q5 : Nat × Value} (hd : decode M.2.1 pc = .ok (.iload_n k9, 1)) (hi : (k9 : Nat) = i) (k : eX g d M (pc + 1) (q0 :: q1 :: q2 :: q3 :: q4 :: q5 :: (i, .int x) :: r) (.int x :: st) τ h Q) : eX g d M pc (q0 :: q1 :: q2 :: q3 :: q4 :: q5 :: (i, .int x) :: r) st τ h Q := by
  intro p l e R s m args below meth c H locs cells slots Fin C hH hS ls hl
  exact lv_iload_n C.1.1 C.1.2.1 hd hi (lv_at hl 6 rfl) (k p l e R s m args below meth c H locs cells slots Fin C hH hS ls hl)
theorem eR_ild_6 {i : Nat} {x : Int32} {q0 q1 q2 q3 q4 q5 : Nat × Value} (hd : decode M.2.1 pc = .ok (.iload i, 2)) (k : eX g d M (pc + 2) (q0 :: q1 :: q2 :: q3 :: q4 :: q5 :: (i, .int x) :: r) (.int x :: st) τ h Q) : eX g d M pc (q0 :: q1 :: q2 :: q3 :: q4 :: q5 :: (i, .int x) :: r) st τ h Q := by
  intro p l e R s m args below meth c H locs cells slots Fin C hH hS ls hl
  exact lv_iload C.1.1 C.1.2.1 hd (lv_at hl 6 rfl) (k p l e R s m args below meth c H locs cells slots Fin C hH hS ls hl)
theorem eR_aldn_6 {k9 : Fin 4} {i x : Nat} {q0 q1 q2 q3 q4 q5 : Nat × Value} (hd : decode M.2.1 pc = .ok (.aload_n k9, 1)) (hi : (k9 : Nat) = i) (k : eX g d M (pc + 1) (q0 :: q1 :: q2 :: q3 :: q4 :: q5 :: (i, .ref x) :: r) (.ref x :: st) τ h Q) : eX g d M pc (q0 :: q1 :: q2 :: q3 :: q4 :: q5 :: (i, .ref x) :: r) st τ h Q := by
  intro p l e R s m args below meth c H locs cells slots Fin C hH hS ls hl
  exact lv_aload_n C.1.1 C.1.2.1 hd hi (lv_at hl 6 rfl) (k p l e R s m args below meth c H locs cells slots Fin C hH hS ls hl)
theorem eR_ald_6 {i x : Nat} {q0 q1 q2 q3 q4 q5 : Nat × Value} (hd : decode M.2.1 pc = .ok (.aload i, 2)) (k : eX g d M (pc + 2) (q0 :: q1 :: q2 :: q3 :: q4 :: q5 :: (i, .ref x) :: r) (.ref x :: st) τ h Q) : eX g d M pc (q0 :: q1 :: q2 :: q3 :: q4 :: q5 :: (i, .ref x) :: r) st τ h Q := by
  intro p l e R s m args below meth c H locs cells slots Fin C hH hS ls hl
  exact lv_aload C.1.1 C.1.2.1 hd (lv_at hl 6 rfl) (k p l e R s m args below meth c H locs cells slots Fin C hH hS ls hl)
theorem eR_lldn_6 {k9 : Fin 4} {i : Nat} {x : Int64} {q0 q1 q2 q3 q4 q5 : Nat × Value} (hd : decode M.2.1 pc = .ok (.lload_n k9, 1)) (hi : (k9 : Nat) = i) (k : eX g d M (pc + 1) (q0 :: q1 :: q2 :: q3 :: q4 :: q5 :: (i, .long x) :: r) (.long x :: st) τ h Q) : eX g d M pc (q0 :: q1 :: q2 :: q3 :: q4 :: q5 :: (i, .long x) :: r) st τ h Q := by
  intro p l e R s m args below meth c H locs cells slots Fin C hH hS ls hl
  exact lv_lload_n C.1.1 C.1.2.1 hd hi (lv_at hl 6 rfl) (k p l e R s m args below meth c H locs cells slots Fin C hH hS ls hl)
theorem eR_lld_6 {i : Nat} {x : Int64} {q0 q1 q2 q3 q4 q5 : Nat × Value} (hd : decode M.2.1 pc = .ok (.lload i, 2)) (k : eX g d M (pc + 2) (q0 :: q1 :: q2 :: q3 :: q4 :: q5 :: (i, .long x) :: r) (.long x :: st) τ h Q) : eX g d M pc (q0 :: q1 :: q2 :: q3 :: q4 :: q5 :: (i, .long x) :: r) st τ h Q := by
  intro p l e R s m args below meth c H locs cells slots Fin C hH hS ls hl
  exact lv_lload C.1.1 C.1.2.1 hd (lv_at hl 6 rfl) (k p l e R s m args below meth c H locs cells slots Fin C hH hS ls hl)
theorem eR_istn_6 {k9 : Fin 4} {i : Nat} {x : Int32} {old : Value} {q0 q1 q2 q3 q4 q5 : Nat × Value} (hd : decode M.2.1 pc = .ok (.istore_n k9, 1)) (hi : (k9 : Nat) = i) (hn : i < M.2.2.1) (ho : okK i (q0 :: q1 :: q2 :: q3 :: q4 :: q5 :: r) = true) (k : eX g d M (pc + 1) (q0 :: q1 :: q2 :: q3 :: q4 :: q5 :: (i, .int x) :: r) st τ h Q) : eX g d M pc (q0 :: q1 :: q2 :: q3 :: q4 :: q5 :: (i, old) :: r) (.int x :: st) τ h Q := by
  intro p l e R s m args below meth c H locs cells slots Fin C hH hS ls hl
  refine lv_istore_n C.1.1 C.1.2.1 hd hi hl hn rfl (fun ls hl => k p l e R s m args below meth c H locs cells slots Fin C hH hS ls (lv_mono hl ?_))
  have hA := List.all_eq_true.mp ho
  intro q hq
  simp only [List.mem_cons] at hq
  rw [List.mem_cons, List.mem_filter]
  rcases hq with hq | hq | hq | hq | hq | hq | hq | hq
  · exact Or.inr ⟨by simp [hq], hA q (by simp [hq])⟩
  · exact Or.inr ⟨by simp [hq], hA q (by simp [hq])⟩
  · exact Or.inr ⟨by simp [hq], hA q (by simp [hq])⟩
  · exact Or.inr ⟨by simp [hq], hA q (by simp [hq])⟩
  · exact Or.inr ⟨by simp [hq], hA q (by simp [hq])⟩
  · exact Or.inr ⟨by simp [hq], hA q (by simp [hq])⟩
  · exact Or.inl hq
  · exact Or.inr ⟨by simp [hq], hA q (by simp [hq])⟩
theorem eR_istn_n6 {k9 : Fin 4} {i : Nat} {x : Int32} {q0 q1 q2 q3 q4 q5 : Nat × Value} (hd : decode M.2.1 pc = .ok (.istore_n k9, 1)) (hi : (k9 : Nat) = i) (hn : i < M.2.2.1) (ho : okK i (q0 :: q1 :: q2 :: q3 :: q4 :: q5 :: r) = true) (k : eX g d M (pc + 1) (q0 :: q1 :: q2 :: q3 :: q4 :: q5 :: (i, .int x) :: r) st τ h Q) : eX g d M pc (q0 :: q1 :: q2 :: q3 :: q4 :: q5 :: r) (.int x :: st) τ h Q := by
  intro p l e R s m args below meth c H locs cells slots Fin C hH hS ls hl
  refine lv_istore_n C.1.1 C.1.2.1 hd hi hl hn rfl (fun ls hl => k p l e R s m args below meth c H locs cells slots Fin C hH hS ls (lv_mono hl ?_))
  have hA := List.all_eq_true.mp ho
  intro q hq
  simp only [List.mem_cons] at hq
  rw [List.mem_cons, List.mem_filter]
  rcases hq with hq | hq | hq | hq | hq | hq | hq | hq
  · exact Or.inr ⟨by simp [hq], hA q (by simp [hq])⟩
  · exact Or.inr ⟨by simp [hq], hA q (by simp [hq])⟩
  · exact Or.inr ⟨by simp [hq], hA q (by simp [hq])⟩
  · exact Or.inr ⟨by simp [hq], hA q (by simp [hq])⟩
  · exact Or.inr ⟨by simp [hq], hA q (by simp [hq])⟩
  · exact Or.inr ⟨by simp [hq], hA q (by simp [hq])⟩
  · exact Or.inl hq
  · exact Or.inr ⟨by simp [hq], hA q (by simp [hq])⟩
theorem eR_ist_6 {i : Nat} {x : Int32} {old : Value} {q0 q1 q2 q3 q4 q5 : Nat × Value} (hd : decode M.2.1 pc = .ok (.istore i, 2)) (hn : i < M.2.2.1) (ho : okK i (q0 :: q1 :: q2 :: q3 :: q4 :: q5 :: r) = true) (k : eX g d M (pc + 2) (q0 :: q1 :: q2 :: q3 :: q4 :: q5 :: (i, .int x) :: r) st τ h Q) : eX g d M pc (q0 :: q1 :: q2 :: q3 :: q4 :: q5 :: (i, old) :: r) (.int x :: st) τ h Q := by
  intro p l e R s m args below meth c H locs cells slots Fin C hH hS ls hl
  refine lv_istore C.1.1 C.1.2.1 hd hl hn rfl (fun ls hl => k p l e R s m args below meth c H locs cells slots Fin C hH hS ls (lv_mono hl ?_))
  have hA := List.all_eq_true.mp ho
  intro q hq
  simp only [List.mem_cons] at hq
  rw [List.mem_cons, List.mem_filter]
  rcases hq with hq | hq | hq | hq | hq | hq | hq | hq
  · exact Or.inr ⟨by simp [hq], hA q (by simp [hq])⟩
  · exact Or.inr ⟨by simp [hq], hA q (by simp [hq])⟩
  · exact Or.inr ⟨by simp [hq], hA q (by simp [hq])⟩
  · exact Or.inr ⟨by simp [hq], hA q (by simp [hq])⟩
  · exact Or.inr ⟨by simp [hq], hA q (by simp [hq])⟩
  · exact Or.inr ⟨by simp [hq], hA q (by simp [hq])⟩
  · exact Or.inl hq
  · exact Or.inr ⟨by simp [hq], hA q (by simp [hq])⟩
theorem eR_ist_n6 {i : Nat} {x : Int32} {q0 q1 q2 q3 q4 q5 : Nat × Value} (hd : decode M.2.1 pc = .ok (.istore i, 2)) (hn : i < M.2.2.1) (ho : okK i (q0 :: q1 :: q2 :: q3 :: q4 :: q5 :: r) = true) (k : eX g d M (pc + 2) (q0 :: q1 :: q2 :: q3 :: q4 :: q5 :: (i, .int x) :: r) st τ h Q) : eX g d M pc (q0 :: q1 :: q2 :: q3 :: q4 :: q5 :: r) (.int x :: st) τ h Q := by
  intro p l e R s m args below meth c H locs cells slots Fin C hH hS ls hl
  refine lv_istore C.1.1 C.1.2.1 hd hl hn rfl (fun ls hl => k p l e R s m args below meth c H locs cells slots Fin C hH hS ls (lv_mono hl ?_))
  have hA := List.all_eq_true.mp ho
  intro q hq
  simp only [List.mem_cons] at hq
  rw [List.mem_cons, List.mem_filter]
  rcases hq with hq | hq | hq | hq | hq | hq | hq | hq
  · exact Or.inr ⟨by simp [hq], hA q (by simp [hq])⟩
  · exact Or.inr ⟨by simp [hq], hA q (by simp [hq])⟩
  · exact Or.inr ⟨by simp [hq], hA q (by simp [hq])⟩
  · exact Or.inr ⟨by simp [hq], hA q (by simp [hq])⟩
  · exact Or.inr ⟨by simp [hq], hA q (by simp [hq])⟩
  · exact Or.inr ⟨by simp [hq], hA q (by simp [hq])⟩
  · exact Or.inl hq
  · exact Or.inr ⟨by simp [hq], hA q (by simp [hq])⟩
theorem eR_astn_6 {k9 : Fin 4} {i x : Nat} {old : Value} {q0 q1 q2 q3 q4 q5 : Nat × Value} (hd : decode M.2.1 pc = .ok (.astore_n k9, 1)) (hi : (k9 : Nat) = i) (hn : i < M.2.2.1) (ho : okK i (q0 :: q1 :: q2 :: q3 :: q4 :: q5 :: r) = true) (k : eX g d M (pc + 1) (q0 :: q1 :: q2 :: q3 :: q4 :: q5 :: (i, .ref x) :: r) st τ h Q) : eX g d M pc (q0 :: q1 :: q2 :: q3 :: q4 :: q5 :: (i, old) :: r) (.ref x :: st) τ h Q := by
  intro p l e R s m args below meth c H locs cells slots Fin C hH hS ls hl
  refine lv_astore_n C.1.1 C.1.2.1 hd hi hl hn rfl (fun ls hl => k p l e R s m args below meth c H locs cells slots Fin C hH hS ls (lv_mono hl ?_))
  have hA := List.all_eq_true.mp ho
  intro q hq
  simp only [List.mem_cons] at hq
  rw [List.mem_cons, List.mem_filter]
  rcases hq with hq | hq | hq | hq | hq | hq | hq | hq
  · exact Or.inr ⟨by simp [hq], hA q (by simp [hq])⟩
  · exact Or.inr ⟨by simp [hq], hA q (by simp [hq])⟩
  · exact Or.inr ⟨by simp [hq], hA q (by simp [hq])⟩
  · exact Or.inr ⟨by simp [hq], hA q (by simp [hq])⟩
  · exact Or.inr ⟨by simp [hq], hA q (by simp [hq])⟩
  · exact Or.inr ⟨by simp [hq], hA q (by simp [hq])⟩
  · exact Or.inl hq
  · exact Or.inr ⟨by simp [hq], hA q (by simp [hq])⟩
theorem eR_astn_n6 {k9 : Fin 4} {i x : Nat} {q0 q1 q2 q3 q4 q5 : Nat × Value} (hd : decode M.2.1 pc = .ok (.astore_n k9, 1)) (hi : (k9 : Nat) = i) (hn : i < M.2.2.1) (ho : okK i (q0 :: q1 :: q2 :: q3 :: q4 :: q5 :: r) = true) (k : eX g d M (pc + 1) (q0 :: q1 :: q2 :: q3 :: q4 :: q5 :: (i, .ref x) :: r) st τ h Q) : eX g d M pc (q0 :: q1 :: q2 :: q3 :: q4 :: q5 :: r) (.ref x :: st) τ h Q := by
  intro p l e R s m args below meth c H locs cells slots Fin C hH hS ls hl
  refine lv_astore_n C.1.1 C.1.2.1 hd hi hl hn rfl (fun ls hl => k p l e R s m args below meth c H locs cells slots Fin C hH hS ls (lv_mono hl ?_))
  have hA := List.all_eq_true.mp ho
  intro q hq
  simp only [List.mem_cons] at hq
  rw [List.mem_cons, List.mem_filter]
  rcases hq with hq | hq | hq | hq | hq | hq | hq | hq
  · exact Or.inr ⟨by simp [hq], hA q (by simp [hq])⟩
  · exact Or.inr ⟨by simp [hq], hA q (by simp [hq])⟩
  · exact Or.inr ⟨by simp [hq], hA q (by simp [hq])⟩
  · exact Or.inr ⟨by simp [hq], hA q (by simp [hq])⟩
  · exact Or.inr ⟨by simp [hq], hA q (by simp [hq])⟩
  · exact Or.inr ⟨by simp [hq], hA q (by simp [hq])⟩
  · exact Or.inl hq
  · exact Or.inr ⟨by simp [hq], hA q (by simp [hq])⟩
theorem eR_ast_6 {i x : Nat} {old : Value} {q0 q1 q2 q3 q4 q5 : Nat × Value} (hd : decode M.2.1 pc = .ok (.astore i, 2)) (hn : i < M.2.2.1) (ho : okK i (q0 :: q1 :: q2 :: q3 :: q4 :: q5 :: r) = true) (k : eX g d M (pc + 2) (q0 :: q1 :: q2 :: q3 :: q4 :: q5 :: (i, .ref x) :: r) st τ h Q) : eX g d M pc (q0 :: q1 :: q2 :: q3 :: q4 :: q5 :: (i, old) :: r) (.ref x :: st) τ h Q := by
  intro p l e R s m args below meth c H locs cells slots Fin C hH hS ls hl
  refine lv_astore C.1.1 C.1.2.1 hd hl hn rfl (fun ls hl => k p l e R s m args below meth c H locs cells slots Fin C hH hS ls (lv_mono hl ?_))
  have hA := List.all_eq_true.mp ho
  intro q hq
  simp only [List.mem_cons] at hq
  rw [List.mem_cons, List.mem_filter]
  rcases hq with hq | hq | hq | hq | hq | hq | hq | hq
  · exact Or.inr ⟨by simp [hq], hA q (by simp [hq])⟩
  · exact Or.inr ⟨by simp [hq], hA q (by simp [hq])⟩
  · exact Or.inr ⟨by simp [hq], hA q (by simp [hq])⟩
  · exact Or.inr ⟨by simp [hq], hA q (by simp [hq])⟩
  · exact Or.inr ⟨by simp [hq], hA q (by simp [hq])⟩
  · exact Or.inr ⟨by simp [hq], hA q (by simp [hq])⟩
  · exact Or.inl hq
  · exact Or.inr ⟨by simp [hq], hA q (by simp [hq])⟩
theorem eR_ast_n6 {i x : Nat} {q0 q1 q2 q3 q4 q5 : Nat × Value} (hd : decode M.2.1 pc = .ok (.astore i, 2)) (hn : i < M.2.2.1) (ho : okK i (q0 :: q1 :: q2 :: q3 :: q4 :: q5 :: r) = true) (k : eX g d M (pc + 2) (q0 :: q1 :: q2 :: q3 :: q4 :: q5 :: (i, .ref x) :: r) st τ h Q) : eX g d M pc (q0 :: q1 :: q2 :: q3 :: q4 :: q5 :: r) (.ref x :: st) τ h Q := by
  intro p l e R s m args below meth c H locs cells slots Fin C hH hS ls hl
  refine lv_astore C.1.1 C.1.2.1 hd hl hn rfl (fun ls hl => k p l e R s m args below meth c H locs cells slots Fin C hH hS ls (lv_mono hl ?_))
  have hA := List.all_eq_true.mp ho
  intro q hq
  simp only [List.mem_cons] at hq
  rw [List.mem_cons, List.mem_filter]
  rcases hq with hq | hq | hq | hq | hq | hq | hq | hq
  · exact Or.inr ⟨by simp [hq], hA q (by simp [hq])⟩
  · exact Or.inr ⟨by simp [hq], hA q (by simp [hq])⟩
  · exact Or.inr ⟨by simp [hq], hA q (by simp [hq])⟩
  · exact Or.inr ⟨by simp [hq], hA q (by simp [hq])⟩
  · exact Or.inr ⟨by simp [hq], hA q (by simp [hq])⟩
  · exact Or.inr ⟨by simp [hq], hA q (by simp [hq])⟩
  · exact Or.inl hq
  · exact Or.inr ⟨by simp [hq], hA q (by simp [hq])⟩
theorem eR_iinc_6 {i : Nat} {n : Int} {a : Int} {q0 q1 q2 q3 q4 q5 : Nat × Value} (hd : decode M.2.1 pc = .ok (.iinc i n, 3)) (hn : i < M.2.2.1) (ho : okK i (q0 :: q1 :: q2 :: q3 :: q4 :: q5 :: r) = true) (k : eX g d M (pc + 3) (q0 :: q1 :: q2 :: q3 :: q4 :: q5 :: (i, .int (zI (a + n))) :: r) st τ h Q) : eX g d M pc (q0 :: q1 :: q2 :: q3 :: q4 :: q5 :: (i, .int (zI a)) :: r) st τ h Q := by
  intro p l e R s m args below meth c H locs cells slots Fin C hH hS ls hl
  refine lv_iinc C.1.1 C.1.2.1 hd hl (k := 6) rfl (show zI a + zI n = zI (a + n) from zI_add a n) hn rfl (fun ls hl => k p l e R s m args below meth c H locs cells slots Fin C hH hS ls (lv_mono hl ?_))
  have hA := List.all_eq_true.mp ho
  intro q hq
  simp only [List.mem_cons] at hq
  rw [List.mem_cons, List.mem_filter]
  rcases hq with hq | hq | hq | hq | hq | hq | hq | hq
  · exact Or.inr ⟨by simp [hq], hA q (by simp [hq])⟩
  · exact Or.inr ⟨by simp [hq], hA q (by simp [hq])⟩
  · exact Or.inr ⟨by simp [hq], hA q (by simp [hq])⟩
  · exact Or.inr ⟨by simp [hq], hA q (by simp [hq])⟩
  · exact Or.inr ⟨by simp [hq], hA q (by simp [hq])⟩
  · exact Or.inr ⟨by simp [hq], hA q (by simp [hq])⟩
  · exact Or.inl hq
  · exact Or.inr ⟨by simp [hq], hA q (by simp [hq])⟩
theorem eR_ildn_7 {k9 : Fin 4} {i : Nat} {x : Int32} {q0 q1 q2 q3 q4 q5 q6 : Nat × Value} (hd : decode M.2.1 pc = .ok (.iload_n k9, 1)) (hi : (k9 : Nat) = i) (k : eX g d M (pc + 1) (q0 :: q1 :: q2 :: q3 :: q4 :: q5 :: q6 :: (i, .int x) :: r) (.int x :: st) τ h Q) : eX g d M pc (q0 :: q1 :: q2 :: q3 :: q4 :: q5 :: q6 :: (i, .int x) :: r) st τ h Q := by
  intro p l e R s m args below meth c H locs cells slots Fin C hH hS ls hl
  exact lv_iload_n C.1.1 C.1.2.1 hd hi (lv_at hl 7 rfl) (k p l e R s m args below meth c H locs cells slots Fin C hH hS ls hl)
theorem eR_ild_7 {i : Nat} {x : Int32} {q0 q1 q2 q3 q4 q5 q6 : Nat × Value} (hd : decode M.2.1 pc = .ok (.iload i, 2)) (k : eX g d M (pc + 2) (q0 :: q1 :: q2 :: q3 :: q4 :: q5 :: q6 :: (i, .int x) :: r) (.int x :: st) τ h Q) : eX g d M pc (q0 :: q1 :: q2 :: q3 :: q4 :: q5 :: q6 :: (i, .int x) :: r) st τ h Q := by
  intro p l e R s m args below meth c H locs cells slots Fin C hH hS ls hl
  exact lv_iload C.1.1 C.1.2.1 hd (lv_at hl 7 rfl) (k p l e R s m args below meth c H locs cells slots Fin C hH hS ls hl)
theorem eR_aldn_7 {k9 : Fin 4} {i x : Nat} {q0 q1 q2 q3 q4 q5 q6 : Nat × Value} (hd : decode M.2.1 pc = .ok (.aload_n k9, 1)) (hi : (k9 : Nat) = i) (k : eX g d M (pc + 1) (q0 :: q1 :: q2 :: q3 :: q4 :: q5 :: q6 :: (i, .ref x) :: r) (.ref x :: st) τ h Q) : eX g d M pc (q0 :: q1 :: q2 :: q3 :: q4 :: q5 :: q6 :: (i, .ref x) :: r) st τ h Q := by
  intro p l e R s m args below meth c H locs cells slots Fin C hH hS ls hl
  exact lv_aload_n C.1.1 C.1.2.1 hd hi (lv_at hl 7 rfl) (k p l e R s m args below meth c H locs cells slots Fin C hH hS ls hl)
theorem eR_ald_7 {i x : Nat} {q0 q1 q2 q3 q4 q5 q6 : Nat × Value} (hd : decode M.2.1 pc = .ok (.aload i, 2)) (k : eX g d M (pc + 2) (q0 :: q1 :: q2 :: q3 :: q4 :: q5 :: q6 :: (i, .ref x) :: r) (.ref x :: st) τ h Q) : eX g d M pc (q0 :: q1 :: q2 :: q3 :: q4 :: q5 :: q6 :: (i, .ref x) :: r) st τ h Q := by
  intro p l e R s m args below meth c H locs cells slots Fin C hH hS ls hl
  exact lv_aload C.1.1 C.1.2.1 hd (lv_at hl 7 rfl) (k p l e R s m args below meth c H locs cells slots Fin C hH hS ls hl)
theorem eR_istn_7 {k9 : Fin 4} {i : Nat} {x : Int32} {old : Value} {q0 q1 q2 q3 q4 q5 q6 : Nat × Value} (hd : decode M.2.1 pc = .ok (.istore_n k9, 1)) (hi : (k9 : Nat) = i) (hn : i < M.2.2.1) (ho : okK i (q0 :: q1 :: q2 :: q3 :: q4 :: q5 :: q6 :: r) = true) (k : eX g d M (pc + 1) (q0 :: q1 :: q2 :: q3 :: q4 :: q5 :: q6 :: (i, .int x) :: r) st τ h Q) : eX g d M pc (q0 :: q1 :: q2 :: q3 :: q4 :: q5 :: q6 :: (i, old) :: r) (.int x :: st) τ h Q := by
  intro p l e R s m args below meth c H locs cells slots Fin C hH hS ls hl
  refine lv_istore_n C.1.1 C.1.2.1 hd hi hl hn rfl (fun ls hl => k p l e R s m args below meth c H locs cells slots Fin C hH hS ls (lv_mono hl ?_))
  have hA := List.all_eq_true.mp ho
  intro q hq
  simp only [List.mem_cons] at hq
  rw [List.mem_cons, List.mem_filter]
  rcases hq with hq | hq | hq | hq | hq | hq | hq | hq | hq
  · exact Or.inr ⟨by simp [hq], hA q (by simp [hq])⟩
  · exact Or.inr ⟨by simp [hq], hA q (by simp [hq])⟩
  · exact Or.inr ⟨by simp [hq], hA q (by simp [hq])⟩
  · exact Or.inr ⟨by simp [hq], hA q (by simp [hq])⟩
  · exact Or.inr ⟨by simp [hq], hA q (by simp [hq])⟩
  · exact Or.inr ⟨by simp [hq], hA q (by simp [hq])⟩
  · exact Or.inr ⟨by simp [hq], hA q (by simp [hq])⟩
  · exact Or.inl hq
  · exact Or.inr ⟨by simp [hq], hA q (by simp [hq])⟩
theorem eR_istn_n7 {k9 : Fin 4} {i : Nat} {x : Int32} {q0 q1 q2 q3 q4 q5 q6 : Nat × Value} (hd : decode M.2.1 pc = .ok (.istore_n k9, 1)) (hi : (k9 : Nat) = i) (hn : i < M.2.2.1) (ho : okK i (q0 :: q1 :: q2 :: q3 :: q4 :: q5 :: q6 :: r) = true) (k : eX g d M (pc + 1) (q0 :: q1 :: q2 :: q3 :: q4 :: q5 :: q6 :: (i, .int x) :: r) st τ h Q) : eX g d M pc (q0 :: q1 :: q2 :: q3 :: q4 :: q5 :: q6 :: r) (.int x :: st) τ h Q := by
  intro p l e R s m args below meth c H locs cells slots Fin C hH hS ls hl
  refine lv_istore_n C.1.1 C.1.2.1 hd hi hl hn rfl (fun ls hl => k p l e R s m args below meth c H locs cells slots Fin C hH hS ls (lv_mono hl ?_))
  have hA := List.all_eq_true.mp ho
  intro q hq
  simp only [List.mem_cons] at hq
  rw [List.mem_cons, List.mem_filter]
  rcases hq with hq | hq | hq | hq | hq | hq | hq | hq | hq
  · exact Or.inr ⟨by simp [hq], hA q (by simp [hq])⟩
  · exact Or.inr ⟨by simp [hq], hA q (by simp [hq])⟩
  · exact Or.inr ⟨by simp [hq], hA q (by simp [hq])⟩
  · exact Or.inr ⟨by simp [hq], hA q (by simp [hq])⟩
  · exact Or.inr ⟨by simp [hq], hA q (by simp [hq])⟩
  · exact Or.inr ⟨by simp [hq], hA q (by simp [hq])⟩
  · exact Or.inr ⟨by simp [hq], hA q (by simp [hq])⟩
  · exact Or.inl hq
  · exact Or.inr ⟨by simp [hq], hA q (by simp [hq])⟩
theorem eR_ist_7 {i : Nat} {x : Int32} {old : Value} {q0 q1 q2 q3 q4 q5 q6 : Nat × Value} (hd : decode M.2.1 pc = .ok (.istore i, 2)) (hn : i < M.2.2.1) (ho : okK i (q0 :: q1 :: q2 :: q3 :: q4 :: q5 :: q6 :: r) = true) (k : eX g d M (pc + 2) (q0 :: q1 :: q2 :: q3 :: q4 :: q5 :: q6 :: (i, .int x) :: r) st τ h Q) : eX g d M pc (q0 :: q1 :: q2 :: q3 :: q4 :: q5 :: q6 :: (i, old) :: r) (.int x :: st) τ h Q := by
  intro p l e R s m args below meth c H locs cells slots Fin C hH hS ls hl
  refine lv_istore C.1.1 C.1.2.1 hd hl hn rfl (fun ls hl => k p l e R s m args below meth c H locs cells slots Fin C hH hS ls (lv_mono hl ?_))
  have hA := List.all_eq_true.mp ho
  intro q hq
  simp only [List.mem_cons] at hq
  rw [List.mem_cons, List.mem_filter]
  rcases hq with hq | hq | hq | hq | hq | hq | hq | hq | hq
  · exact Or.inr ⟨by simp [hq], hA q (by simp [hq])⟩
  · exact Or.inr ⟨by simp [hq], hA q (by simp [hq])⟩
  · exact Or.inr ⟨by simp [hq], hA q (by simp [hq])⟩
  · exact Or.inr ⟨by simp [hq], hA q (by simp [hq])⟩
  · exact Or.inr ⟨by simp [hq], hA q (by simp [hq])⟩
  · exact Or.inr ⟨by simp [hq], hA q (by simp [hq])⟩
  · exact Or.inr ⟨by simp [hq], hA q (by simp [hq])⟩
  · exact Or.inl hq
  · exact Or.inr ⟨by simp [hq], hA q (by simp [hq])⟩
theorem eR_ist_n7 {i : Nat} {x : Int32} {q0 q1 q2 q3 q4 q5 q6 : Nat × Value} (hd : decode M.2.1 pc = .ok (.istore i, 2)) (hn : i < M.2.2.1) (ho : okK i (q0 :: q1 :: q2 :: q3 :: q4 :: q5 :: q6 :: r) = true) (k : eX g d M (pc + 2) (q0 :: q1 :: q2 :: q3 :: q4 :: q5 :: q6 :: (i, .int x) :: r) st τ h Q) : eX g d M pc (q0 :: q1 :: q2 :: q3 :: q4 :: q5 :: q6 :: r) (.int x :: st) τ h Q := by
  intro p l e R s m args below meth c H locs cells slots Fin C hH hS ls hl
  refine lv_istore C.1.1 C.1.2.1 hd hl hn rfl (fun ls hl => k p l e R s m args below meth c H locs cells slots Fin C hH hS ls (lv_mono hl ?_))
  have hA := List.all_eq_true.mp ho
  intro q hq
  simp only [List.mem_cons] at hq
  rw [List.mem_cons, List.mem_filter]
  rcases hq with hq | hq | hq | hq | hq | hq | hq | hq | hq
  · exact Or.inr ⟨by simp [hq], hA q (by simp [hq])⟩
  · exact Or.inr ⟨by simp [hq], hA q (by simp [hq])⟩
  · exact Or.inr ⟨by simp [hq], hA q (by simp [hq])⟩
  · exact Or.inr ⟨by simp [hq], hA q (by simp [hq])⟩
  · exact Or.inr ⟨by simp [hq], hA q (by simp [hq])⟩
  · exact Or.inr ⟨by simp [hq], hA q (by simp [hq])⟩
  · exact Or.inr ⟨by simp [hq], hA q (by simp [hq])⟩
  · exact Or.inl hq
  · exact Or.inr ⟨by simp [hq], hA q (by simp [hq])⟩
theorem eR_astn_7 {k9 : Fin 4} {i x : Nat} {old : Value} {q0 q1 q2 q3 q4 q5 q6 : Nat × Value} (hd : decode M.2.1 pc = .ok (.astore_n k9, 1)) (hi : (k9 : Nat) = i) (hn : i < M.2.2.1) (ho : okK i (q0 :: q1 :: q2 :: q3 :: q4 :: q5 :: q6 :: r) = true) (k : eX g d M (pc + 1) (q0 :: q1 :: q2 :: q3 :: q4 :: q5 :: q6 :: (i, .ref x) :: r) st τ h Q) : eX g d M pc (q0 :: q1 :: q2 :: q3 :: q4 :: q5 :: q6 :: (i, old) :: r) (.ref x :: st) τ h Q := by
  intro p l e R s m args below meth c H locs cells slots Fin C hH hS ls hl
  refine lv_astore_n C.1.1 C.1.2.1 hd hi hl hn rfl (fun ls hl => k p l e R s m args below meth c H locs cells slots Fin C hH hS ls (lv_mono hl ?_))
  have hA := List.all_eq_true.mp ho
  intro q hq
  simp only [List.mem_cons] at hq
  rw [List.mem_cons, List.mem_filter]
  rcases hq with hq | hq | hq | hq | hq | hq | hq | hq | hq
  · exact Or.inr ⟨by simp [hq], hA q (by simp [hq])⟩
  · exact Or.inr ⟨by simp [hq], hA q (by simp [hq])⟩
  · exact Or.inr ⟨by simp [hq], hA q (by simp [hq])⟩
  · exact Or.inr ⟨by simp [hq], hA q (by simp [hq])⟩
  · exact Or.inr ⟨by simp [hq], hA q (by simp [hq])⟩
  · exact Or.inr ⟨by simp [hq], hA q (by simp [hq])⟩
  · exact Or.inr ⟨by simp [hq], hA q (by simp [hq])⟩
  · exact Or.inl hq
  · exact Or.inr ⟨by simp [hq], hA q (by simp [hq])⟩
theorem eR_astn_n7 {k9 : Fin 4} {i x : Nat} {q0 q1 q2 q3 q4 q5 q6 : Nat × Value} (hd : decode M.2.1 pc = .ok (.astore_n k9, 1)) (hi : (k9 : Nat) = i) (hn : i < M.2.2.1) (ho : okK i (q0 :: q1 :: q2 :: q3 :: q4 :: q5 :: q6 :: r) = true) (k : eX g d M (pc + 1) (q0 :: q1 :: q2 :: q3 :: q4 :: q5 :: q6 :: (i, .ref x) :: r) st τ h Q) : eX g d M pc (q0 :: q1 :: q2 :: q3 :: q4 :: q5 :: q6 :: r) (.ref x :: st) τ h Q := by
  intro p l e R s m args below meth c H locs cells slots Fin C hH hS ls hl
  refine lv_astore_n C.1.1 C.1.2.1 hd hi hl hn rfl (fun ls hl => k p l e R s m args below meth c H locs cells slots Fin C hH hS ls (lv_mono hl ?_))
  have hA := List.all_eq_true.mp ho
  intro q hq
  simp only [List.mem_cons] at hq
  rw [List.mem_cons, List.mem_filter]
  rcases hq with hq | hq | hq | hq | hq | hq | hq | hq | hq
  · exact Or.inr ⟨by simp [hq], hA q (by simp [hq])⟩
  · exact Or.inr ⟨by simp [hq], hA q (by simp [hq])⟩
  · exact Or.inr ⟨by simp [hq], hA q (by simp [hq])⟩
  · exact Or.inr ⟨by simp [hq], hA q (by simp [hq])⟩
  · exact Or.inr ⟨by simp [hq], hA q (by simp [hq])⟩
  · exact Or.inr ⟨by simp [hq], hA q (by simp [hq])⟩
  · exact Or.inr ⟨by simp [hq], hA q (by simp [hq])⟩
  · exact Or.inl hq
  · exact Or.inr ⟨by simp [hq], hA q (by simp [hq])⟩
theorem eR_ast_7 {i x : Nat} {old : Value} {q0 q1 q2 q3 q4 q5 q6 : Nat × Value} (hd : decode M.2.1 pc = .ok (.astore i, 2)) (hn : i < M.2.2.1) (ho : okK i (q0 :: q1 :: q2 :: q3 :: q4 :: q5 :: q6 :: r) = true) (k : eX g d M (pc + 2) (q0 :: q1 :: q2 :: q3 :: q4 :: q5 :: q6 :: (i, .ref x) :: r) st τ h Q) : eX g d M pc (q0 :: q1 :: q2 :: q3 :: q4 :: q5 :: q6 :: (i, old) :: r) (.ref x :: st) τ h Q := by
  intro p l e R s m args below meth c H locs cells slots Fin C hH hS ls hl
  refine lv_astore C.1.1 C.1.2.1 hd hl hn rfl (fun ls hl => k p l e R s m args below meth c H locs cells slots Fin C hH hS ls (lv_mono hl ?_))
  have hA := List.all_eq_true.mp ho
  intro q hq
  simp only [List.mem_cons] at hq
  rw [List.mem_cons, List.mem_filter]
  rcases hq with hq | hq | hq | hq | hq | hq | hq | hq | hq
  · exact Or.inr ⟨by simp [hq], hA q (by simp [hq])⟩
  · exact Or.inr ⟨by simp [hq], hA q (by simp [hq])⟩
  · exact Or.inr ⟨by simp [hq], hA q (by simp [hq])⟩
  · exact Or.inr ⟨by simp [hq], hA q (by simp [hq])⟩
  · exact Or.inr ⟨by simp [hq], hA q (by simp [hq])⟩
  · exact Or.inr ⟨by simp [hq], hA q (by simp [hq])⟩
  · exact Or.inr ⟨by simp [hq], hA q (by simp [hq])⟩
  · exact Or.inl hq
  · exact Or.inr ⟨by simp [hq], hA q (by simp [hq])⟩
theorem eR_ast_n7 {i x : Nat} {q0 q1 q2 q3 q4 q5 q6 : Nat × Value} (hd : decode M.2.1 pc = .ok (.astore i, 2)) (hn : i < M.2.2.1) (ho : okK i (q0 :: q1 :: q2 :: q3 :: q4 :: q5 :: q6 :: r) = true) (k : eX g d M (pc + 2) (q0 :: q1 :: q2 :: q3 :: q4 :: q5 :: q6 :: (i, .ref x) :: r) st τ h Q) : eX g d M pc (q0 :: q1 :: q2 :: q3 :: q4 :: q5 :: q6 :: r) (.ref x :: st) τ h Q := by
  intro p l e R s m args below meth c H locs cells slots Fin C hH hS ls hl
  refine lv_astore C.1.1 C.1.2.1 hd hl hn rfl (fun ls hl => k p l e R s m args below meth c H locs cells slots Fin C hH hS ls (lv_mono hl ?_))
  have hA := List.all_eq_true.mp ho
  intro q hq
  simp only [List.mem_cons] at hq
  rw [List.mem_cons, List.mem_filter]
  rcases hq with hq | hq | hq | hq | hq | hq | hq | hq | hq
  · exact Or.inr ⟨by simp [hq], hA q (by simp [hq])⟩
  · exact Or.inr ⟨by simp [hq], hA q (by simp [hq])⟩
  · exact Or.inr ⟨by simp [hq], hA q (by simp [hq])⟩
  · exact Or.inr ⟨by simp [hq], hA q (by simp [hq])⟩
  · exact Or.inr ⟨by simp [hq], hA q (by simp [hq])⟩
  · exact Or.inr ⟨by simp [hq], hA q (by simp [hq])⟩
  · exact Or.inr ⟨by simp [hq], hA q (by simp [hq])⟩
  · exact Or.inl hq
  · exact Or.inr ⟨by simp [hq], hA q (by simp [hq])⟩
theorem eR_iinc_7 {i : Nat} {n : Int} {a : Int} {q0 q1 q2 q3 q4 q5 q6 : Nat × Value} (hd : decode M.2.1 pc = .ok (.iinc i n, 3)) (hn : i < M.2.2.1) (ho : okK i (q0 :: q1 :: q2 :: q3 :: q4 :: q5 :: q6 :: r) = true) (k : eX g d M (pc + 3) (q0 :: q1 :: q2 :: q3 :: q4 :: q5 :: q6 :: (i, .int (zI (a + n))) :: r) st τ h Q) : eX g d M pc (q0 :: q1 :: q2 :: q3 :: q4 :: q5 :: q6 :: (i, .int (zI a)) :: r) st τ h Q := by
  intro p l e R s m args below meth c H locs cells slots Fin C hH hS ls hl
  refine lv_iinc C.1.1 C.1.2.1 hd hl (k := 7) rfl (show zI a + zI n = zI (a + n) from zI_add a n) hn rfl (fun ls hl => k p l e R s m args below meth c H locs cells slots Fin C hH hS ls (lv_mono hl ?_))
  have hA := List.all_eq_true.mp ho
  intro q hq
  simp only [List.mem_cons] at hq
  rw [List.mem_cons, List.mem_filter]
  rcases hq with hq | hq | hq | hq | hq | hq | hq | hq | hq
  · exact Or.inr ⟨by simp [hq], hA q (by simp [hq])⟩
  · exact Or.inr ⟨by simp [hq], hA q (by simp [hq])⟩
  · exact Or.inr ⟨by simp [hq], hA q (by simp [hq])⟩
  · exact Or.inr ⟨by simp [hq], hA q (by simp [hq])⟩
  · exact Or.inr ⟨by simp [hq], hA q (by simp [hq])⟩
  · exact Or.inr ⟨by simp [hq], hA q (by simp [hq])⟩
  · exact Or.inr ⟨by simp [hq], hA q (by simp [hq])⟩
  · exact Or.inl hq
  · exact Or.inr ⟨by simp [hq], hA q (by simp [hq])⟩
theorem eR_ildn_8 {k9 : Fin 4} {i : Nat} {x : Int32} {q0 q1 q2 q3 q4 q5 q6 q7 : Nat × Value} (hd : decode M.2.1 pc = .ok (.iload_n k9, 1)) (hi : (k9 : Nat) = i) (k : eX g d M (pc + 1) (q0 :: q1 :: q2 :: q3 :: q4 :: q5 :: q6 :: q7 :: (i, .int x) :: r) (.int x :: st) τ h Q) : eX g d M pc (q0 :: q1 :: q2 :: q3 :: q4 :: q5 :: q6 :: q7 :: (i, .int x) :: r) st τ h Q := by
  intro p l e R s m args below meth c H locs cells slots Fin C hH hS ls hl
  exact lv_iload_n C.1.1 C.1.2.1 hd hi (lv_at hl 8 rfl) (k p l e R s m args below meth c H locs cells slots Fin C hH hS ls hl)
theorem eR_ild_8 {i : Nat} {x : Int32} {q0 q1 q2 q3 q4 q5 q6 q7 : Nat × Value} (hd : decode M.2.1 pc = .ok (.iload i, 2)) (k : eX g d M (pc + 2) (q0 :: q1 :: q2 :: q3 :: q4 :: q5 :: q6 :: q7 :: (i, .int x) :: r) (.int x :: st) τ h Q) : eX g d M pc (q0 :: q1 :: q2 :: q3 :: q4 :: q5 :: q6 :: q7 :: (i, .int x) :: r) st τ h Q := by
  intro p l e R s m args below meth c H locs cells slots Fin C hH hS ls hl
  exact lv_iload C.1.1 C.1.2.1 hd (lv_at hl 8 rfl) (k p l e R s m args below meth c H locs cells slots Fin C hH hS ls hl)
theorem eR_aldn_8 {k9 : Fin 4} {i x : Nat} {q0 q1 q2 q3 q4 q5 q6 q7 : Nat × Value} (hd : decode M.2.1 pc = .ok (.aload_n k9, 1)) (hi : (k9 : Nat) = i) (k : eX g d M (pc + 1) (q0 :: q1 :: q2 :: q3 :: q4 :: q5 :: q6 :: q7 :: (i, .ref x) :: r) (.ref x :: st) τ h Q) : eX g d M pc (q0 :: q1 :: q2 :: q3 :: q4 :: q5 :: q6 :: q7 :: (i, .ref x) :: r) st τ h Q := by
  intro p l e R s m args below meth c H locs cells slots Fin C hH hS ls hl
  exact lv_aload_n C.1.1 C.1.2.1 hd hi (lv_at hl 8 rfl) (k p l e R s m args below meth c H locs cells slots Fin C hH hS ls hl)
theorem eR_ald_8 {i x : Nat} {q0 q1 q2 q3 q4 q5 q6 q7 : Nat × Value} (hd : decode M.2.1 pc = .ok (.aload i, 2)) (k : eX g d M (pc + 2) (q0 :: q1 :: q2 :: q3 :: q4 :: q5 :: q6 :: q7 :: (i, .ref x) :: r) (.ref x :: st) τ h Q) : eX g d M pc (q0 :: q1 :: q2 :: q3 :: q4 :: q5 :: q6 :: q7 :: (i, .ref x) :: r) st τ h Q := by
  intro p l e R s m args below meth c H locs cells slots Fin C hH hS ls hl
  exact lv_aload C.1.1 C.1.2.1 hd (lv_at hl 8 rfl) (k p l e R s m args below meth c H locs cells slots Fin C hH hS ls hl)
theorem eR_istn_8 {k9 : Fin 4} {i : Nat} {x : Int32} {old : Value} {q0 q1 q2 q3 q4 q5 q6 q7 : Nat × Value} (hd : decode M.2.1 pc = .ok (.istore_n k9, 1)) (hi : (k9 : Nat) = i) (hn : i < M.2.2.1) (ho : okK i (q0 :: q1 :: q2 :: q3 :: q4 :: q5 :: q6 :: q7 :: r) = true) (k : eX g d M (pc + 1) (q0 :: q1 :: q2 :: q3 :: q4 :: q5 :: q6 :: q7 :: (i, .int x) :: r) st τ h Q) : eX g d M pc (q0 :: q1 :: q2 :: q3 :: q4 :: q5 :: q6 :: q7 :: (i, old) :: r) (.int x :: st) τ h Q := by
  intro p l e R s m args below meth c H locs cells slots Fin C hH hS ls hl
  refine lv_istore_n C.1.1 C.1.2.1 hd hi hl hn rfl (fun ls hl => k p l e R s m args below meth c H locs cells slots Fin C hH hS ls (lv_mono hl ?_))
  have hA := List.all_eq_true.mp ho
  intro q hq
  simp only [List.mem_cons] at hq
  rw [List.mem_cons, List.mem_filter]
  rcases hq with hq | hq | hq | hq | hq | hq | hq | hq | hq | hq
  · exact Or.inr ⟨by simp [hq], hA q (by simp [hq])⟩
  · exact Or.inr ⟨by simp [hq], hA q (by simp [hq])⟩
  · exact Or.inr ⟨by simp [hq], hA q (by simp [hq])⟩
  · exact Or.inr ⟨by simp [hq], hA q (by simp [hq])⟩
  · exact Or.inr ⟨by simp [hq], hA q (by simp [hq])⟩
  · exact Or.inr ⟨by simp [hq], hA q (by simp [hq])⟩
  · exact Or.inr ⟨by simp [hq], hA q (by simp [hq])⟩
  · exact Or.inr ⟨by simp [hq], hA q (by simp [hq])⟩
  · exact Or.inl hq
  · exact Or.inr ⟨by simp [hq], hA q (by simp [hq])⟩
theorem eR_istn_n8 {k9 : Fin 4} {i : Nat} {x : Int32} {q0 q1 q2 q3 q4 q5 q6 q7 : Nat × Value} (hd : decode M.2.1 pc = .ok (.istore_n k9, 1)) (hi : (k9 : Nat) = i) (hn : i < M.2.2.1) (ho : okK i (q0 :: q1 :: q2 :: q3 :: q4 :: q5 :: q6 :: q7 :: r) = true) (k : eX g d M (pc + 1) (q0 :: q1 :: q2 :: q3 :: q4 :: q5 :: q6 :: q7 :: (i, .int x) :: r) st τ h Q) : eX g d M pc (q0 :: q1 :: q2 :: q3 :: q4 :: q5 :: q6 :: q7 :: r) (.int x :: st) τ h Q := by
  intro p l e R s m args below meth c H locs cells slots Fin C hH hS ls hl
  refine lv_istore_n C.1.1 C.1.2.1 hd hi hl hn rfl (fun ls hl => k p l e R s m args below meth c H locs cells slots Fin C hH hS ls (lv_mono hl ?_))
  have hA := List.all_eq_true.mp ho
  intro q hq
  simp only [List.mem_cons] at hq
  rw [List.mem_cons, List.mem_filter]
  rcases hq with hq | hq | hq | hq | hq | hq | hq | hq | hq | hq
  · exact Or.inr ⟨by simp [hq], hA q (by simp [hq])⟩
  · exact Or.inr ⟨by simp [hq], hA q (by simp [hq])⟩
  · exact Or.inr ⟨by simp [hq], hA q (by simp [hq])⟩
  · exact Or.inr ⟨by simp [hq], hA q (by simp [hq])⟩
  · exact Or.inr ⟨by simp [hq], hA q (by simp [hq])⟩
  · exact Or.inr ⟨by simp [hq], hA q (by simp [hq])⟩
  · exact Or.inr ⟨by simp [hq], hA q (by simp [hq])⟩
  · exact Or.inr ⟨by simp [hq], hA q (by simp [hq])⟩
  · exact Or.inl hq
  · exact Or.inr ⟨by simp [hq], hA q (by simp [hq])⟩
theorem eR_ist_8 {i : Nat} {x : Int32} {old : Value} {q0 q1 q2 q3 q4 q5 q6 q7 : Nat × Value} (hd : decode M.2.1 pc = .ok (.istore i, 2)) (hn : i < M.2.2.1) (ho : okK i (q0 :: q1 :: q2 :: q3 :: q4 :: q5 :: q6 :: q7 :: r) = true) (k : eX g d M (pc + 2) (q0 :: q1 :: q2 :: q3 :: q4 :: q5 :: q6 :: q7 :: (i, .int x) :: r) st τ h Q) : eX g d M pc (q0 :: q1 :: q2 :: q3 :: q4 :: q5 :: q6 :: q7 :: (i, old) :: r) (.int x :: st) τ h Q := by
  intro p l e R s m args below meth c H locs cells slots Fin C hH hS ls hl
  refine lv_istore C.1.1 C.1.2.1 hd hl hn rfl (fun ls hl => k p l e R s m args below meth c H locs cells slots Fin C hH hS ls (lv_mono hl ?_))
  have hA := List.all_eq_true.mp ho
  intro q hq
  simp only [List.mem_cons] at hq
  rw [List.mem_cons, List.mem_filter]
  rcases hq with hq | hq | hq | hq | hq | hq | hq | hq | hq | hq
  · exact Or.inr ⟨by simp [hq], hA q (by simp [hq])⟩
  · exact Or.inr ⟨by simp [hq], hA q (by simp [hq])⟩
  · exact Or.inr ⟨by simp [hq], hA q (by simp [hq])⟩
  · exact Or.inr ⟨by simp [hq], hA q (by simp [hq])⟩
  · exact Or.inr ⟨by simp [hq], hA q (by simp [hq])⟩
  · exact Or.inr ⟨by simp [hq], hA q (by simp [hq])⟩
  · exact Or.inr ⟨by simp [hq], hA q (by simp [hq])⟩
  · exact Or.inr ⟨by simp [hq], hA q (by simp [hq])⟩
  · exact Or.inl hq
  · exact Or.inr ⟨by simp [hq], hA q (by simp [hq])⟩
theorem eR_ist_n8 {i : Nat} {x : Int32} {q0 q1 q2 q3 q4 q5 q6 q7 : Nat × Value} (hd : decode M.2.1 pc = .ok (.istore i, 2)) (hn : i < M.2.2.1) (ho : okK i (q0 :: q1 :: q2 :: q3 :: q4 :: q5 :: q6 :: q7 :: r) = true) (k : eX g d M (pc + 2) (q0 :: q1 :: q2 :: q3 :: q4 :: q5 :: q6 :: q7 :: (i, .int x) :: r) st τ h Q) : eX g d M pc (q0 :: q1 :: q2 :: q3 :: q4 :: q5 :: q6 :: q7 :: r) (.int x :: st) τ h Q := by
  intro p l e R s m args below meth c H locs cells slots Fin C hH hS ls hl
  refine lv_istore C.1.1 C.1.2.1 hd hl hn rfl (fun ls hl => k p l e R s m args below meth c H locs cells slots Fin C hH hS ls (lv_mono hl ?_))
  have hA := List.all_eq_true.mp ho
  intro q hq
  simp only [List.mem_cons] at hq
  rw [List.mem_cons, List.mem_filter]
  rcases hq with hq | hq | hq | hq | hq | hq | hq | hq | hq | hq
  · exact Or.inr ⟨by simp [hq], hA q (by simp [hq])⟩
  · exact Or.inr ⟨by simp [hq], hA q (by simp [hq])⟩
  · exact Or.inr ⟨by simp [hq], hA q (by simp [hq])⟩
  · exact Or.inr ⟨by simp [hq], hA q (by simp [hq])⟩
  · exact Or.inr ⟨by simp [hq], hA q (by simp [hq])⟩
  · exact Or.inr ⟨by simp [hq], hA q (by simp [hq])⟩
  · exact Or.inr ⟨by simp [hq], hA q (by simp [hq])⟩
  · exact Or.inr ⟨by simp [hq], hA q (by simp [hq])⟩
  · exact Or.inl hq
  · exact Or.inr ⟨by simp [hq], hA q (by simp [hq])⟩
theorem eR_astn_8 {k9 : Fin 4} {i x : Nat} {old : Value} {q0 q1 q2 q3 q4 q5 q6 q7 : Nat × Value} (hd : decode M.2.1 pc = .ok (.astore_n k9, 1)) (hi : (k9 : Nat) = i) (hn : i < M.2.2.1) (ho : okK i (q0 :: q1 :: q2 :: q3 :: q4 :: q5 :: q6 :: q7 :: r) = true) (k : eX g d M (pc + 1) (q0 :: q1 :: q2 :: q3 :: q4 :: q5 :: q6 :: q7 :: (i, .ref x) :: r) st τ h Q) : eX g d M pc (q0 :: q1 :: q2 :: q3 :: q4 :: q5 :: q6 :: q7 :: (i, old) :: r) (.ref x :: st) τ h Q := by
  intro p l e R s m args below meth c H locs cells slots Fin C hH hS ls hl
  refine lv_astore_n C.1.1 C.1.2.1 hd hi hl hn rfl (fun ls hl => k p l e R s m args below meth c H locs cells slots Fin C hH hS ls (lv_mono hl ?_))
  have hA := List.all_eq_true.mp ho
  intro q hq
  simp only [List.mem_cons] at hq
  rw [List.mem_cons, List.mem_filter]
  rcases hq with hq | hq | hq | hq | hq | hq | hq | hq | hq | hq
  · exact Or.inr ⟨by simp [hq], hA q (by simp [hq])⟩
  · exact Or.inr ⟨by simp [hq], hA q (by simp [hq])⟩
  · exact Or.inr ⟨by simp [hq], hA q (by simp [hq])⟩
  · exact Or.inr ⟨by simp [hq], hA q (by simp [hq])⟩
  · exact Or.inr ⟨by simp [hq], hA q (by simp [hq])⟩
  · exact Or.inr ⟨by simp [hq], hA q (by simp [hq])⟩
  · exact Or.inr ⟨by simp [hq], hA q (by simp [hq])⟩
  · exact Or.inr ⟨by simp [hq], hA q (by simp [hq])⟩
  · exact Or.inl hq
  · exact Or.inr ⟨by simp [hq], hA q (by simp [hq])⟩
theorem eR_astn_n8 {k9 : Fin 4} {i x : Nat} {q0 q1 q2 q3 q4 q5 q6 q7 : Nat × Value} (hd : decode M.2.1 pc = .ok (.astore_n k9, 1)) (hi : (k9 : Nat) = i) (hn : i < M.2.2.1) (ho : okK i (q0 :: q1 :: q2 :: q3 :: q4 :: q5 :: q6 :: q7 :: r) = true) (k : eX g d M (pc + 1) (q0 :: q1 :: q2 :: q3 :: q4 :: q5 :: q6 :: q7 :: (i, .ref x) :: r) st τ h Q) : eX g d M pc (q0 :: q1 :: q2 :: q3 :: q4 :: q5 :: q6 :: q7 :: r) (.ref x :: st) τ h Q := by
  intro p l e R s m args below meth c H locs cells slots Fin C hH hS ls hl
  refine lv_astore_n C.1.1 C.1.2.1 hd hi hl hn rfl (fun ls hl => k p l e R s m args below meth c H locs cells slots Fin C hH hS ls (lv_mono hl ?_))
  have hA := List.all_eq_true.mp ho
  intro q hq
  simp only [List.mem_cons] at hq
  rw [List.mem_cons, List.mem_filter]
  rcases hq with hq | hq | hq | hq | hq | hq | hq | hq | hq | hq
  · exact Or.inr ⟨by simp [hq], hA q (by simp [hq])⟩
  · exact Or.inr ⟨by simp [hq], hA q (by simp [hq])⟩
  · exact Or.inr ⟨by simp [hq], hA q (by simp [hq])⟩
  · exact Or.inr ⟨by simp [hq], hA q (by simp [hq])⟩
  · exact Or.inr ⟨by simp [hq], hA q (by simp [hq])⟩
  · exact Or.inr ⟨by simp [hq], hA q (by simp [hq])⟩
  · exact Or.inr ⟨by simp [hq], hA q (by simp [hq])⟩
  · exact Or.inr ⟨by simp [hq], hA q (by simp [hq])⟩
  · exact Or.inl hq
  · exact Or.inr ⟨by simp [hq], hA q (by simp [hq])⟩
theorem eR_ast_8 {i x : Nat} {old : Value} {q0 q1 q2 q3 q4 q5 q6 q7 : Nat × Value} (hd : decode M.2.1 pc = .ok (.astore i, 2)) (hn : i < M.2.2.1) (ho : okK i (q0 :: q1 :: q2 :: q3 :: q4 :: q5 :: q6 :: q7 :: r) = true) (k : eX g d M (pc + 2) (q0 :: q1 :: q2 :: q3 :: q4 :: q5 :: q6 :: q7 :: (i, .ref x) :: r) st τ h Q) : eX g d M pc (q0 :: q1 :: q2 :: q3 :: q4 :: q5 :: q6 :: q7 :: (i, old) :: r) (.ref x :: st) τ h Q := by
  intro p l e R s m args below meth c H locs cells slots Fin C hH hS ls hl
  refine lv_astore C.1.1 C.1.2.1 hd hl hn rfl (fun ls hl => k p l e R s m args below meth c H locs cells slots Fin C hH hS ls (lv_mono hl ?_))
  have hA := List.all_eq_true.mp ho
  intro q hq
  simp only [List.mem_cons] at hq
  rw [List.mem_cons, List.mem_filter]
  rcases hq with hq | hq | hq | hq | hq | hq | hq | hq | hq | hq
  · exact Or.inr ⟨by simp [hq], hA q (by simp [hq])⟩
  · exact Or.inr ⟨by simp [hq], hA q (by simp [hq])⟩
  · exact Or.inr ⟨by simp [hq], hA q (by simp [hq])⟩
  · exact Or.inr ⟨by simp [hq], hA q (by simp [hq])⟩
  · exact Or.inr ⟨by simp [hq], hA q (by simp [hq])⟩
  · exact Or.inr ⟨by simp [hq], hA q (by simp [hq])⟩
  · exact Or.inr ⟨by simp [hq], hA q (by simp [hq])⟩
  · exact Or.inr ⟨by simp [hq], hA q (by simp [hq])⟩
  · exact Or.inl hq
  · exact Or.inr ⟨by simp [hq], hA q (by simp [hq])⟩
theorem eR_ast_n8 {i x : Nat} {q0 q1 q2 q3 q4 q5 q6 q7 : Nat × Value} (hd : decode M.2.1 pc = .ok (.astore i, 2)) (hn : i < M.2.2.1) (ho : okK i (q0 :: q1 :: q2 :: q3 :: q4 :: q5 :: q6 :: q7 :: r) = true) (k : eX g d M (pc + 2) (q0 :: q1 :: q2 :: q3 :: q4 :: q5 :: q6 :: q7 :: (i, .ref x) :: r) st τ h Q) : eX g d M pc (q0 :: q1 :: q2 :: q3 :: q4 :: q5 :: q6 :: q7 :: r) (.ref x :: st) τ h Q := by
  intro p l e R s m args below meth c H locs cells slots Fin C hH hS ls hl
  refine lv_astore C.1.1 C.1.2.1 hd hl hn rfl (fun ls hl => k p l e R s m args below meth c H locs cells slots Fin C hH hS ls (lv_mono hl ?_))
  have hA := List.all_eq_true.mp ho
  intro q hq
  simp only [List.mem_cons] at hq
  rw [List.mem_cons, List.mem_filter]
  rcases hq with hq | hq | hq | hq | hq | hq | hq | hq | hq | hq
  · exact Or.inr ⟨by simp [hq], hA q (by simp [hq])⟩
  · exact Or.inr ⟨by simp [hq], hA q (by simp [hq])⟩
  · exact Or.inr ⟨by simp [hq], hA q (by simp [hq])⟩
  · exact Or.inr ⟨by simp [hq], hA q (by simp [hq])⟩
  · exact Or.inr ⟨by simp [hq], hA q (by simp [hq])⟩
  · exact Or.inr ⟨by simp [hq], hA q (by simp [hq])⟩
  · exact Or.inr ⟨by simp [hq], hA q (by simp [hq])⟩
  · exact Or.inr ⟨by simp [hq], hA q (by simp [hq])⟩
  · exact Or.inl hq
  · exact Or.inr ⟨by simp [hq], hA q (by simp [hq])⟩
theorem eR_iinc_8 {i : Nat} {n : Int} {a : Int} {q0 q1 q2 q3 q4 q5 q6 q7 : Nat × Value} (hd : decode M.2.1 pc = .ok (.iinc i n, 3)) (hn : i < M.2.2.1) (ho : okK i (q0 :: q1 :: q2 :: q3 :: q4 :: q5 :: q6 :: q7 :: r) = true) (k : eX g d M (pc + 3) (q0 :: q1 :: q2 :: q3 :: q4 :: q5 :: q6 :: q7 :: (i, .int (zI (a + n))) :: r) st τ h Q) : eX g d M pc (q0 :: q1 :: q2 :: q3 :: q4 :: q5 :: q6 :: q7 :: (i, .int (zI a)) :: r) st τ h Q := by
  intro p l e R s m args below meth c H locs cells slots Fin C hH hS ls hl
  refine lv_iinc C.1.1 C.1.2.1 hd hl (k := 8) rfl (show zI a + zI n = zI (a + n) from zI_add a n) hn rfl (fun ls hl => k p l e R s m args below meth c H locs cells slots Fin C hH hS ls (lv_mono hl ?_))
  have hA := List.all_eq_true.mp ho
  intro q hq
  simp only [List.mem_cons] at hq
  rw [List.mem_cons, List.mem_filter]
  rcases hq with hq | hq | hq | hq | hq | hq | hq | hq | hq | hq
  · exact Or.inr ⟨by simp [hq], hA q (by simp [hq])⟩
  · exact Or.inr ⟨by simp [hq], hA q (by simp [hq])⟩
  · exact Or.inr ⟨by simp [hq], hA q (by simp [hq])⟩
  · exact Or.inr ⟨by simp [hq], hA q (by simp [hq])⟩
  · exact Or.inr ⟨by simp [hq], hA q (by simp [hq])⟩
  · exact Or.inr ⟨by simp [hq], hA q (by simp [hq])⟩
  · exact Or.inr ⟨by simp [hq], hA q (by simp [hq])⟩
  · exact Or.inr ⟨by simp [hq], hA q (by simp [hq])⟩
  · exact Or.inl hq
  · exact Or.inr ⟨by simp [hq], hA q (by simp [hq])⟩
theorem eR_ildn_9 {k9 : Fin 4} {i : Nat} {x : Int32} {q0 q1 q2 q3 q4 q5 q6 q7 q8 : Nat × Value} (hd : decode M.2.1 pc = .ok (.iload_n k9, 1)) (hi : (k9 : Nat) = i) (k : eX g d M (pc + 1) (q0 :: q1 :: q2 :: q3 :: q4 :: q5 :: q6 :: q7 :: q8 :: (i, .int x) :: r) (.int x :: st) τ h Q) : eX g d M pc (q0 :: q1 :: q2 :: q3 :: q4 :: q5 :: q6 :: q7 :: q8 :: (i, .int x) :: r) st τ h Q := by
  intro p l e R s m args below meth c H locs cells slots Fin C hH hS ls hl
  exact lv_iload_n C.1.1 C.1.2.1 hd hi (lv_at hl 9 rfl) (k p l e R s m args below meth c H locs cells slots Fin C hH hS ls hl)
theorem eR_ild_9 {i : Nat} {x : Int32} {q0 q1 q2 q3 q4 q5 q6 q7 q8 : Nat × Value} (hd : decode M.2.1 pc = .ok (.iload i, 2)) (k : eX g d M (pc + 2) (q0 :: q1 :: q2 :: q3 :: q4 :: q5 :: q6 :: q7 :: q8 :: (i, .int x) :: r) (.int x :: st) τ h Q) : eX g d M pc (q0 :: q1 :: q2 :: q3 :: q4 :: q5 :: q6 :: q7 :: q8 :: (i, .int x) :: r) st τ h Q := by
  intro p l e R s m args below meth c H locs cells slots Fin C hH hS ls hl
  exact lv_iload C.1.1 C.1.2.1 hd (lv_at hl 9 rfl) (k p l e R s m args below meth c H locs cells slots Fin C hH hS ls hl)
theorem eR_aldn_9 {k9 : Fin 4} {i x : Nat} {q0 q1 q2 q3 q4 q5 q6 q7 q8 : Nat × Value} (hd : decode M.2.1 pc = .ok (.aload_n k9, 1)) (hi : (k9 : Nat) = i) (k : eX g d M (pc + 1) (q0 :: q1 :: q2 :: q3 :: q4 :: q5 :: q6 :: q7 :: q8 :: (i, .ref x) :: r) (.ref x :: st) τ h Q) : eX g d M pc (q0 :: q1 :: q2 :: q3 :: q4 :: q5 :: q6 :: q7 :: q8 :: (i, .ref x) :: r) st τ h Q := by
  intro p l e R s m args below meth c H locs cells slots Fin C hH hS ls hl
  exact lv_aload_n C.1.1 C.1.2.1 hd hi (lv_at hl 9 rfl) (k p l e R s m args below meth c H locs cells slots Fin C hH hS ls hl)
theorem eR_ald_9 {i x : Nat} {q0 q1 q2 q3 q4 q5 q6 q7 q8 : Nat × Value} (hd : decode M.2.1 pc = .ok (.aload i, 2)) (k : eX g d M (pc + 2) (q0 :: q1 :: q2 :: q3 :: q4 :: q5 :: q6 :: q7 :: q8 :: (i, .ref x) :: r) (.ref x :: st) τ h Q) : eX g d M pc (q0 :: q1 :: q2 :: q3 :: q4 :: q5 :: q6 :: q7 :: q8 :: (i, .ref x) :: r) st τ h Q := by
  intro p l e R s m args below meth c H locs cells slots Fin C hH hS ls hl
  exact lv_aload C.1.1 C.1.2.1 hd (lv_at hl 9 rfl) (k p l e R s m args below meth c H locs cells slots Fin C hH hS ls hl)
theorem eR_istn_9 {k9 : Fin 4} {i : Nat} {x : Int32} {old : Value} {q0 q1 q2 q3 q4 q5 q6 q7 q8 : Nat × Value} (hd : decode M.2.1 pc = .ok (.istore_n k9, 1)) (hi : (k9 : Nat) = i) (hn : i < M.2.2.1) (ho : okK i (q0 :: q1 :: q2 :: q3 :: q4 :: q5 :: q6 :: q7 :: q8 :: r) = true) (k : eX g d M (pc + 1) (q0 :: q1 :: q2 :: q3 :: q4 :: q5 :: q6 :: q7 :: q8 :: (i, .int x) :: r) st τ h Q) : eX g d M pc (q0 :: q1 :: q2 :: q3 :: q4 :: q5 :: q6 :: q7 :: q8 :: (i, old) :: r) (.int x :: st) τ h Q := by
  intro p l e R s m args below meth c H locs cells slots Fin C hH hS ls hl
  refine lv_istore_n C.1.1 C.1.2.1 hd hi hl hn rfl (fun ls hl => k p l e R s m args below meth c H locs cells slots Fin C hH hS ls (lv_mono hl ?_))
  have hA := List.all_eq_true.mp ho
  intro q hq
  simp only [List.mem_cons] at hq
  rw [List.mem_cons, List.mem_filter]
  rcases hq with hq | hq | hq | hq | hq | hq | hq | hq | hq | hq | hq
  · exact Or.inr ⟨by simp [hq], hA q (by simp [hq])⟩
  · exact Or.inr ⟨by simp [hq], hA q (by simp [hq])⟩
  · exact Or.inr ⟨by simp [hq], hA q (by simp [hq])⟩
  · exact Or.inr ⟨by simp [hq], hA q (by simp [hq])⟩
  · exact Or.inr ⟨by simp [hq], hA q (by simp [hq])⟩
  · exact Or.inr ⟨by simp [hq], hA q (by simp [hq])⟩
  · exact Or.inr ⟨by simp [hq], hA q (by simp [hq])⟩
  · exact Or.inr ⟨by simp [hq], hA q (by simp [hq])⟩
  · exact Or.inr ⟨by simp [hq], hA q (by simp [hq])⟩
  · exact Or.inl hq
  · exact Or.inr ⟨by simp [hq], hA q (by simp [hq])⟩
theorem eR_istn_n9 {k9 : Fin 4} {i : Nat} {x : Int32} {q0 q1 q2 q3 q4 q5 q6 q7 q8 : Nat × Value} (hd : decode M.2.1 pc = .ok (.istore_n k9, 1)) (hi : (k9 : Nat) = i) (hn : i < M.2.2.1) (ho : okK i (q0 :: q1 :: q2 :: q3 :: q4 :: q5 :: q6 :: q7 :: q8 :: r) = true) (k : eX g d M (pc + 1) (q0 :: q1 :: q2 :: q3 :: q4 :: q5 :: q6 :: q7 :: q8 :: (i, .int x) :: r) st τ h Q) : eX g d M pc (q0 :: q1 :: q2 :: q3 :: q4 :: q5 :: q6 :: q7 :: q8 :: r) (.int x :: st) τ h Q := by
  intro p l e R s m args below meth c H locs cells slots Fin C hH hS ls hl
  refine lv_istore_n C.1.1 C.1.2.1 hd hi hl hn rfl (fun ls hl => k p l e R s m args below meth c H locs cells slots Fin C hH hS ls (lv_mono hl ?_))
  have hA := List.all_eq_true.mp ho
  intro q hq
  simp only [List.mem_cons] at hq
  rw [List.mem_cons, List.mem_filter]
  rcases hq with hq | hq | hq | hq | hq | hq | hq | hq | hq | hq | hq
  · exact Or.inr ⟨by simp [hq], hA q (by simp [hq])⟩
  · exact Or.inr ⟨by simp [hq], hA q (by simp [hq])⟩
  · exact Or.inr ⟨by simp [hq], hA q (by simp [hq])⟩
  · exact Or.inr ⟨by simp [hq], hA q (by simp [hq])⟩
  · exact Or.inr ⟨by simp [hq], hA q (by simp [hq])⟩
  · exact Or.inr ⟨by simp [hq], hA q (by simp [hq])⟩
  · exact Or.inr ⟨by simp [hq], hA q (by simp [hq])⟩
  · exact Or.inr ⟨by simp [hq], hA q (by simp [hq])⟩
  · exact Or.inr ⟨by simp [hq], hA q (by simp [hq])⟩
  · exact Or.inl hq
  · exact Or.inr ⟨by simp [hq], hA q (by simp [hq])⟩
theorem eR_ist_9 {i : Nat} {x : Int32} {old : Value} {q0 q1 q2 q3 q4 q5 q6 q7 q8 : Nat × Value} (hd : decode M.2.1 pc = .ok (.istore i, 2)) (hn : i < M.2.2.1) (ho : okK i (q0 :: q1 :: q2 :: q3 :: q4 :: q5 :: q6 :: q7 :: q8 :: r) = true) (k : eX g d M (pc + 2) (q0 :: q1 :: q2 :: q3 :: q4 :: q5 :: q6 :: q7 :: q8 :: (i, .int x) :: r) st τ h Q) : eX g d M pc (q0 :: q1 :: q2 :: q3 :: q4 :: q5 :: q6 :: q7 :: q8 :: (i, old) :: r) (.int x :: st) τ h Q := by
  intro p l e R s m args below meth c H locs cells slots Fin C hH hS ls hl
  refine lv_istore C.1.1 C.1.2.1 hd hl hn rfl (fun ls hl => k p l e R s m args below meth c H locs cells slots Fin C hH hS ls (lv_mono hl ?_))
  have hA := List.all_eq_true.mp ho
  intro q hq
  simp only [List.mem_cons] at hq
  rw [List.mem_cons, List.mem_filter]
  rcases hq with hq | hq | hq | hq | hq | hq | hq | hq | hq | hq | hq
  · exact Or.inr ⟨by simp [hq], hA q (by simp [hq])⟩
  · exact Or.inr ⟨by simp [hq], hA q (by simp [hq])⟩
  · exact Or.inr ⟨by simp [hq], hA q (by simp [hq])⟩
  · exact Or.inr ⟨by simp [hq], hA q (by simp [hq])⟩
  · exact Or.inr ⟨by simp [hq], hA q (by simp [hq])⟩
  · exact Or.inr ⟨by simp [hq], hA q (by simp [hq])⟩
  · exact Or.inr ⟨by simp [hq], hA q (by simp [hq])⟩
  · exact Or.inr ⟨by simp [hq], hA q (by simp [hq])⟩
  · exact Or.inr ⟨by simp [hq], hA q (by simp [hq])⟩
  · exact Or.inl hq
  · exact Or.inr ⟨by simp [hq], hA q (by simp [hq])⟩
theorem eR_ist_n9 {i : Nat} {x : Int32} {q0 q1 q2 q3 q4 q5 q6 q7 q8 : Nat × Value} (hd : decode M.2.1 pc = .ok (.istore i, 2)) (hn : i < M.2.2.1) (ho : okK i (q0 :: q1 :: q2 :: q3 :: q4 :: q5 :: q6 :: q7 :: q8 :: r) = true) (k : eX g d M (pc + 2) (q0 :: q1 :: q2 :: q3 :: q4 :: q5 :: q6 :: q7 :: q8 :: (i, .int x) :: r) st τ h Q) : eX g d M pc (q0 :: q1 :: q2 :: q3 :: q4 :: q5 :: q6 :: q7 :: q8 :: r) (.int x :: st) τ h Q := by
  intro p l e R s m args below meth c H locs cells slots Fin C hH hS ls hl
  refine lv_istore C.1.1 C.1.2.1 hd hl hn rfl (fun ls hl => k p l e R s m args below meth c H locs cells slots Fin C hH hS ls (lv_mono hl ?_))
  have hA := List.all_eq_true.mp ho
  intro q hq
  simp only [List.mem_cons] at hq
  rw [List.mem_cons, List.mem_filter]
  rcases hq with hq | hq | hq | hq | hq | hq | hq | hq | hq | hq | hq
  · exact Or.inr ⟨by simp [hq], hA q (by simp [hq])⟩
  · exact Or.inr ⟨by simp [hq], hA q (by simp [hq])⟩
  · exact Or.inr ⟨by simp [hq], hA q (by simp [hq])⟩
  · exact Or.inr ⟨by simp [hq], hA q (by simp [hq])⟩
  · exact Or.inr ⟨by simp [hq], hA q (by simp [hq])⟩
  · exact Or.inr ⟨by simp [hq], hA q (by simp [hq])⟩
  · exact Or.inr ⟨by simp [hq], hA q (by simp [hq])⟩
  · exact Or.inr ⟨by simp [hq], hA q (by simp [hq])⟩
  · exact Or.inr ⟨by simp [hq], hA q (by simp [hq])⟩
  · exact Or.inl hq
  · exact Or.inr ⟨by simp [hq], hA q (by simp [hq])⟩
theorem eR_astn_9 {k9 : Fin 4} {i x : Nat} {old : Value} {q0 q1 q2 q3 q4 q5 q6 q7 q8 : Nat × Value} (hd : decode M.2.1 pc = .ok (.astore_n k9, 1)) (hi : (k9 : Nat) = i) (hn : i < M.2.2.1) (ho : okK i (q0 :: q1 :: q2 :: q3 :: q4 :: q5 :: q6 :: q7 :: q8 :: r) = true) (k : eX g d M (pc + 1) (q0 :: q1 :: q2 :: q3 :: q4 :: q5 :: q6 :: q7 :: q8 :: (i, .ref x) :: r) st τ h Q) : eX g d M pc (q0 :: q1 :: q2 :: q3 :: q4 :: q5 :: q6 :: q7 :: q8 :: (i, old) :: r) (.ref x :: st) τ h Q := by
  intro p l e R s m args below meth c H locs cells slots Fin C hH hS ls hl
  refine lv_astore_n C.1.1 C.1.2.1 hd hi hl hn rfl (fun ls hl => k p l e R s m args below meth c H locs cells slots Fin C hH hS ls (lv_mono hl ?_))
  have hA := List.all_eq_true.mp ho
  intro q hq
  simp only [List.mem_cons] at hq
  rw [List.mem_cons, List.mem_filter]
  rcases hq with hq | hq | hq | hq | hq | hq | hq | hq | hq | hq | hq
  · exact Or.inr ⟨by simp [hq], hA q (by simp [hq])⟩
  · exact Or.inr ⟨by simp [hq], hA q (by simp [hq])⟩
  · exact Or.inr ⟨by simp [hq], hA q (by simp [hq])⟩
  · exact Or.inr ⟨by simp [hq], hA q (by simp [hq])⟩
  · exact Or.inr ⟨by simp [hq], hA q (by simp [hq])⟩
  · exact Or.inr ⟨by simp [hq], hA q (by simp [hq])⟩
  · exact Or.inr ⟨by simp [hq], hA q (by simp [hq])⟩
  · exact Or.inr ⟨by simp [hq], hA q (by simp [hq])⟩
  · exact Or.inr ⟨by simp [hq], hA q (by simp [hq])⟩
  · exact Or.inl hq
  · exact Or.inr ⟨by simp [hq], hA q (by simp [hq])⟩
theorem eR_astn_n9 {k9 : Fin 4} {i x : Nat} {q0 q1 q2 q3 q4 q5 q6 q7 q8 : Nat × Value} (hd : decode M.2.1 pc = .ok (.astore_n k9, 1)) (hi : (k9 : Nat) = i) (hn : i < M.2.2.1) (ho : okK i (q0 :: q1 :: q2 :: q3 :: q4 :: q5 :: q6 :: q7 :: q8 :: r) = true) (k : eX g d M (pc + 1) (q0 :: q1 :: q2 :: q3 :: q4 :: q5 :: q6 :: q7 :: q8 :: (i, .ref x) :: r) st τ h Q) : eX g d M pc (q0 :: q1 :: q2 :: q3 :: q4 :: q5 :: q6 :: q7 :: q8 :: r) (.ref x :: st) τ h Q := by
  intro p l e R s m args below meth c H locs cells slots Fin C hH hS ls hl
  refine lv_astore_n C.1.1 C.1.2.1 hd hi hl hn rfl (fun ls hl => k p l e R s m args below meth c H locs cells slots Fin C hH hS ls (lv_mono hl ?_))
  have hA := List.all_eq_true.mp ho
  intro q hq
  simp only [List.mem_cons] at hq
  rw [List.mem_cons, List.mem_filter]
  rcases hq with hq | hq | hq | hq | hq | hq | hq | hq | hq | hq | hq
  · exact Or.inr ⟨by simp [hq], hA q (by simp [hq])⟩
  · exact Or.inr ⟨by simp [hq], hA q (by simp [hq])⟩
  · exact Or.inr ⟨by simp [hq], hA q (by simp [hq])⟩
  · exact Or.inr ⟨by simp [hq], hA q (by simp [hq])⟩
  · exact Or.inr ⟨by simp [hq], hA q (by simp [hq])⟩
  · exact Or.inr ⟨by simp [hq], hA q (by simp [hq])⟩
  · exact Or.inr ⟨by simp [hq], hA q (by simp [hq])⟩
  · exact Or.inr ⟨by simp [hq], hA q (by simp [hq])⟩
  · exact Or.inr ⟨by simp [hq], hA q (by simp [hq])⟩
  · exact Or.inl hq
  · exact Or.inr ⟨by simp [hq], hA q (by simp [hq])⟩
theorem eR_ast_9 {i x : Nat} {old : Value} {q0 q1 q2 q3 q4 q5 q6 q7 q8 : Nat × Value} (hd : decode M.2.1 pc = .ok (.astore i, 2)) (hn : i < M.2.2.1) (ho : okK i (q0 :: q1 :: q2 :: q3 :: q4 :: q5 :: q6 :: q7 :: q8 :: r) = true) (k : eX g d M (pc + 2) (q0 :: q1 :: q2 :: q3 :: q4 :: q5 :: q6 :: q7 :: q8 :: (i, .ref x) :: r) st τ h Q) : eX g d M pc (q0 :: q1 :: q2 :: q3 :: q4 :: q5 :: q6 :: q7 :: q8 :: (i, old) :: r) (.ref x :: st) τ h Q := by
  intro p l e R s m args below meth c H locs cells slots Fin C hH hS ls hl
  refine lv_astore C.1.1 C.1.2.1 hd hl hn rfl (fun ls hl => k p l e R s m args below meth c H locs cells slots Fin C hH hS ls (lv_mono hl ?_))
  have hA := List.all_eq_true.mp ho
  intro q hq
  simp only [List.mem_cons] at hq
  rw [List.mem_cons, List.mem_filter]
  rcases hq with hq | hq | hq | hq | hq | hq | hq | hq | hq | hq | hq
  · exact Or.inr ⟨by simp [hq], hA q (by simp [hq])⟩
  · exact Or.inr ⟨by simp [hq], hA q (by simp [hq])⟩
  · exact Or.inr ⟨by simp [hq], hA q (by simp [hq])⟩
  · exact Or.inr ⟨by simp [hq], hA q (by simp [hq])⟩
  · exact Or.inr ⟨by simp [hq], hA q (by simp [hq])⟩
  · exact Or.inr ⟨by simp [hq], hA q (by simp [hq])⟩
  · exact Or.inr ⟨by simp [hq], hA q (by simp [hq])⟩
  · exact Or.inr ⟨by simp [hq], hA q (by simp [hq])⟩
  · exact Or.inr ⟨by simp [hq], hA q (by simp [hq])⟩
  · exact Or.inl hq
  · exact Or.inr ⟨by simp [hq], hA q (by simp [hq])⟩
theorem eR_ast_n9 {i x : Nat} {q0 q1 q2 q3 q4 q5 q6 q7 q8 : Nat × Value} (hd : decode M.2.1 pc = .ok (.astore i, 2)) (hn : i < M.2.2.1) (ho : okK i (q0 :: q1 :: q2 :: q3 :: q4 :: q5 :: q6 :: q7 :: q8 :: r) = true) (k : eX g d M (pc + 2) (q0 :: q1 :: q2 :: q3 :: q4 :: q5 :: q6 :: q7 :: q8 :: (i, .ref x) :: r) st τ h Q) : eX g d M pc (q0 :: q1 :: q2 :: q3 :: q4 :: q5 :: q6 :: q7 :: q8 :: r) (.ref x :: st) τ h Q := by
  intro p l e R s m args below meth c H locs cells slots Fin C hH hS ls hl
  refine lv_astore C.1.1 C.1.2.1 hd hl hn rfl (fun ls hl => k p l e R s m args below meth c H locs cells slots Fin C hH hS ls (lv_mono hl ?_))
  have hA := List.all_eq_true.mp ho
  intro q hq
  simp only [List.mem_cons] at hq
  rw [List.mem_cons, List.mem_filter]
  rcases hq with hq | hq | hq | hq | hq | hq | hq | hq | hq | hq | hq
  · exact Or.inr ⟨by simp [hq], hA q (by simp [hq])⟩
  · exact Or.inr ⟨by simp [hq], hA q (by simp [hq])⟩
  · exact Or.inr ⟨by simp [hq], hA q (by simp [hq])⟩
  · exact Or.inr ⟨by simp [hq], hA q (by simp [hq])⟩
  · exact Or.inr ⟨by simp [hq], hA q (by simp [hq])⟩
  · exact Or.inr ⟨by simp [hq], hA q (by simp [hq])⟩
  · exact Or.inr ⟨by simp [hq], hA q (by simp [hq])⟩
  · exact Or.inr ⟨by simp [hq], hA q (by simp [hq])⟩
  · exact Or.inr ⟨by simp [hq], hA q (by simp [hq])⟩
  · exact Or.inl hq
  · exact Or.inr ⟨by simp [hq], hA q (by simp [hq])⟩
theorem eR_iinc_9 {i : Nat} {n : Int} {a : Int} {q0 q1 q2 q3 q4 q5 q6 q7 q8 : Nat × Value} (hd : decode M.2.1 pc = .ok (.iinc i n, 3)) (hn : i < M.2.2.1) (ho : okK i (q0 :: q1 :: q2 :: q3 :: q4 :: q5 :: q6 :: q7 :: q8 :: r) = true) (k : eX g d M (pc + 3) (q0 :: q1 :: q2 :: q3 :: q4 :: q5 :: q6 :: q7 :: q8 :: (i, .int (zI (a + n))) :: r) st τ h Q) : eX g d M pc (q0 :: q1 :: q2 :: q3 :: q4 :: q5 :: q6 :: q7 :: q8 :: (i, .int (zI a)) :: r) st τ h Q := by
  intro p l e R s m args below meth c H locs cells slots Fin C hH hS ls hl
  refine lv_iinc C.1.1 C.1.2.1 hd hl (k := 9) rfl (show zI a + zI n = zI (a + n) from zI_add a n) hn rfl (fun ls hl => k p l e R s m args below meth c H locs cells slots Fin C hH hS ls (lv_mono hl ?_))
  have hA := List.all_eq_true.mp ho
  intro q hq
  simp only [List.mem_cons] at hq
  rw [List.mem_cons, List.mem_filter]
  rcases hq with hq | hq | hq | hq | hq | hq | hq | hq | hq | hq | hq
  · exact Or.inr ⟨by simp [hq], hA q (by simp [hq])⟩
  · exact Or.inr ⟨by simp [hq], hA q (by simp [hq])⟩
  · exact Or.inr ⟨by simp [hq], hA q (by simp [hq])⟩
  · exact Or.inr ⟨by simp [hq], hA q (by simp [hq])⟩
  · exact Or.inr ⟨by simp [hq], hA q (by simp [hq])⟩
  · exact Or.inr ⟨by simp [hq], hA q (by simp [hq])⟩
  · exact Or.inr ⟨by simp [hq], hA q (by simp [hq])⟩
  · exact Or.inr ⟨by simp [hq], hA q (by simp [hq])⟩
  · exact Or.inr ⟨by simp [hq], hA q (by simp [hq])⟩
  · exact Or.inl hq
  · exact Or.inr ⟨by simp [hq], hA q (by simp [hq])⟩
theorem eR_ildn_10 {k9 : Fin 4} {i : Nat} {x : Int32} {q0 q1 q2 q3 q4 q5 q6 q7 q8 q9 : Nat × Value} (hd : decode M.2.1 pc = .ok (.iload_n k9, 1)) (hi : (k9 : Nat) = i) (k : eX g d M (pc + 1) (q0 :: q1 :: q2 :: q3 :: q4 :: q5 :: q6 :: q7 :: q8 :: q9 :: (i, .int x) :: r) (.int x :: st) τ h Q) : eX g d M pc (q0 :: q1 :: q2 :: q3 :: q4 :: q5 :: q6 :: q7 :: q8 :: q9 :: (i, .int x) :: r) st τ h Q := by
  intro p l e R s m args below meth c H locs cells slots Fin C hH hS ls hl
  exact lv_iload_n C.1.1 C.1.2.1 hd hi (lv_at hl 10 rfl) (k p l e R s m args below meth c H locs cells slots Fin C hH hS ls hl)
theorem eR_ild_10 {i : Nat} {x : Int32} {q0 q1 q2 q3 q4 q5 q6 q7 q8 q9 : Nat × Value} (hd : decode M.2.1 pc = .ok (.iload i, 2)) (k : eX g d M (pc + 2) (q0 :: q1 :: q2 :: q3 :: q4 :: q5 :: q6 :: q7 :: q8 :: q9 :: (i, .int x) :: r) (.int x :: st) τ h Q) : eX g d M pc (q0 :: q1 :: q2 :: q3 :: q4 :: q5 :: q6 :: q7 :: q8 :: q9 :: (i, .int x) :: r) st τ h Q := by
  intro p l e R s m args below meth c H locs cells slots Fin C hH hS ls hl
  exact lv_iload C.1.1 C.1.2.1 hd (lv_at hl 10 rfl) (k p l e R s m args below meth c H locs cells slots Fin C hH hS ls hl)
theorem eR_aldn_10 {k9 : Fin 4} {i x : Nat} {q0 q1 q2 q3 q4 q5 q6 q7 q8 q9 : Nat × Value} (hd : decode M.2.1 pc = .ok (.aload_n k9, 1)) (hi : (k9 : Nat) = i) (k : eX g d M (pc + 1) (q0 :: q1 :: q2 :: q3 :: q4 :: q5 :: q6 :: q7 :: q8 :: q9 :: (i, .ref x) :: r) (.ref x :: st) τ h Q) : eX g d M pc (q0 :: q1 :: q2 :: q3 :: q4 :: q5 :: q6 :: q7 :: q8 :: q9 :: (i, .ref x) :: r) st τ h Q := by
  intro p l e R s m args below meth c H locs cells slots Fin C hH hS ls hl
  exact lv_aload_n C.1.1 C.1.2.1 hd hi (lv_at hl 10 rfl) (k p l e R s m args below meth c H locs cells slots Fin C hH hS ls hl)
theorem eR_ald_10 {i x : Nat} {q0 q1 q2 q3 q4 q5 q6 q7 q8 q9 : Nat × Value} (hd : decode M.2.1 pc = .ok (.aload i, 2)) (k : eX g d M (pc + 2) (q0 :: q1 :: q2 :: q3 :: q4 :: q5 :: q6 :: q7 :: q8 :: q9 :: (i, .ref x) :: r) (.ref x :: st) τ h Q) : eX g d M pc (q0 :: q1 :: q2 :: q3 :: q4 :: q5 :: q6 :: q7 :: q8 :: q9 :: (i, .ref x) :: r) st τ h Q := by
  intro p l e R s m args below meth c H locs cells slots Fin C hH hS ls hl
  exact lv_aload C.1.1 C.1.2.1 hd (lv_at hl 10 rfl) (k p l e R s m args below meth c H locs cells slots Fin C hH hS ls hl)
theorem eR_istn_10 {k9 : Fin 4} {i : Nat} {x : Int32} {old : Value} {q0 q1 q2 q3 q4 q5 q6 q7 q8 q9 : Nat × Value} (hd : decode M.2.1 pc = .ok (.istore_n k9, 1)) (hi : (k9 : Nat) = i) (hn : i < M.2.2.1) (ho : okK i (q0 :: q1 :: q2 :: q3 :: q4 :: q5 :: q6 :: q7 :: q8 :: q9 :: r) = true) (k : eX g d M (pc + 1) (q0 :: q1 :: q2 :: q3 :: q4 :: q5 :: q6 :: q7 :: q8 :: q9 :: (i, .int x) :: r) st τ h Q) : eX g d M pc (q0 :: q1 :: q2 :: q3 :: q4 :: q5 :: q6 :: q7 :: q8 :: q9 :: (i, old) :: r) (.int x :: st) τ h Q := by
  intro p l e R s m args below meth c H locs cells slots Fin C hH hS ls hl
  refine lv_istore_n C.1.1 C.1.2.1 hd hi hl hn rfl (fun ls hl => k p l e R s m args below meth c H locs cells slots Fin C hH hS ls (lv_mono hl ?_))
  have hA := List.all_eq_true.mp ho
  intro q hq
  simp only [List.mem_cons] at hq
  rw [List.mem_cons, List.mem_filter]
  rcases hq with hq | hq | hq | hq | hq | hq | hq | hq | hq | hq | hq | hq
  · exact Or.inr ⟨by simp [hq], hA q (by simp [hq])⟩
  · exact Or.inr ⟨by simp [hq], hA q (by simp [hq])⟩
  · exact Or.inr ⟨by simp [hq], hA q (by simp [hq])⟩
  · exact Or.inr ⟨by simp [hq], hA q (by simp [hq])⟩
  · exact Or.inr ⟨by simp [hq], hA q (by simp [hq])⟩
  · exact Or.inr ⟨by simp [hq], hA q (by simp [hq])⟩
  · exact Or.inr ⟨by simp [hq], hA q (by simp [hq])⟩
  · exact Or.inr ⟨by simp [hq], hA q (by simp [hq])⟩
  · exact Or.inr ⟨by simp [hq], hA q (by simp [hq])⟩
  · exact Or.inr ⟨by simp [hq], hA q (by simp [hq])⟩
  · exact Or.inl hq
  · exact Or.inr ⟨by simp [hq], hA q (by simp [hq])⟩
theorem eR_istn_n10 {k9 : Fin 4} {i : Nat} {x : Int32} {q0 q1 q2 q3 q4 q5 q6 q7 q8 q9 : Nat × Value} (hd : decode M.2.1 pc = .ok (.istore_n k9, 1)) (hi : (k9 : Nat) = i) (hn : i < M.2.2.1) (ho : okK i (q0 :: q1 :: q2 :: q3 :: q4 :: q5 :: q6 :: q7 :: q8 :: q9 :: r) = true) (k : eX g d M (pc + 1) (q0 :: q1 :: q2 :: q3 :: q4 :: q5 :: q6 :: q7 :: q8 :: q9 :: (i, .int x) :: r) st τ h Q) : eX g d M pc (q0 :: q1 :: q2 :: q3 :: q4 :: q5 :: q6 :: q7 :: q8 :: q9 :: r) (.int x :: st) τ h Q := by
  intro p l e R s m args below meth c H locs cells slots Fin C hH hS ls hl
  refine lv_istore_n C.1.1 C.1.2.1 hd hi hl hn rfl (fun ls hl => k p l e R s m args below meth c H locs cells slots Fin C hH hS ls (lv_mono hl ?_))
  have hA := List.all_eq_true.mp ho
  intro q hq
  simp only [List.mem_cons] at hq
  rw [List.mem_cons, List.mem_filter]
  rcases hq with hq | hq | hq | hq | hq | hq | hq | hq | hq | hq | hq | hq
  · exact Or.inr ⟨by simp [hq], hA q (by simp [hq])⟩
  · exact Or.inr ⟨by simp [hq], hA q (by simp [hq])⟩
  · exact Or.inr ⟨by simp [hq], hA q (by simp [hq])⟩
  · exact Or.inr ⟨by simp [hq], hA q (by simp [hq])⟩
  · exact Or.inr ⟨by simp [hq], hA q (by simp [hq])⟩
  · exact Or.inr ⟨by simp [hq], hA q (by simp [hq])⟩
  · exact Or.inr ⟨by simp [hq], hA q (by simp [hq])⟩
  · exact Or.inr ⟨by simp [hq], hA q (by simp [hq])⟩
  · exact Or.inr ⟨by simp [hq], hA q (by simp [hq])⟩
  · exact Or.inr ⟨by simp [hq], hA q (by simp [hq])⟩
  · exact Or.inl hq
  · exact Or.inr ⟨by simp [hq], hA q (by simp [hq])⟩
theorem eR_ist_10 {i : Nat} {x : Int32} {old : Value} {q0 q1 q2 q3 q4 q5 q6 q7 q8 q9 : Nat × Value} (hd : decode M.2.1 pc = .ok (.istore i, 2)) (hn : i < M.2.2.1) (ho : okK i (q0 :: q1 :: q2 :: q3 :: q4 :: q5 :: q6 :: q7 :: q8 :: q9 :: r) = true) (k : eX g d M (pc + 2) (q0 :: q1 :: q2 :: q3 :: q4 :: q5 :: q6 :: q7 :: q8 :: q9 :: (i, .int x) :: r) st τ h Q) : eX g d M pc (q0 :: q1 :: q2 :: q3 :: q4 :: q5 :: q6 :: q7 :: q8 :: q9 :: (i, old) :: r) (.int x :: st) τ h Q := by
  intro p l e R s m args below meth c H locs cells slots Fin C hH hS ls hl
  refine lv_istore C.1.1 C.1.2.1 hd hl hn rfl (fun ls hl => k p l e R s m args below meth c H locs cells slots Fin C hH hS ls (lv_mono hl ?_))
  have hA := List.all_eq_true.mp ho
  intro q hq
  simp only [List.mem_cons] at hq
  rw [List.mem_cons, List.mem_filter]
  rcases hq with hq | hq | hq | hq | hq | hq | hq | hq | hq | hq | hq | hq
  · exact Or.inr ⟨by simp [hq], hA q (by simp [hq])⟩
  · exact Or.inr ⟨by simp [hq], hA q (by simp [hq])⟩
  · exact Or.inr ⟨by simp [hq], hA q (by simp [hq])⟩
  · exact Or.inr ⟨by simp [hq], hA q (by simp [hq])⟩
  · exact Or.inr ⟨by simp [hq], hA q (by simp [hq])⟩
  · exact Or.inr ⟨by simp [hq], hA q (by simp [hq])⟩
  · exact Or.inr ⟨by simp [hq], hA q (by simp [hq])⟩
  · exact Or.inr ⟨by simp [hq], hA q (by simp [hq])⟩
  · exact Or.inr ⟨by simp [hq], hA q (by simp [hq])⟩
  · exact Or.inr ⟨by simp [hq], hA q (by simp [hq])⟩
  · exact Or.inl hq
  · exact Or.inr ⟨by simp [hq], hA q (by simp [hq])⟩
theorem eR_ist_n10 {i : Nat} {x : Int32} {q0 q1 q2 q3 q4 q5 q6 q7 q8 q9 : Nat × Value} (hd : decode M.2.1 pc = .ok (.istore i, 2)) (hn : i < M.2.2.1) (ho : okK i (q0 :: q1 :: q2 :: q3 :: q4 :: q5 :: q6 :: q7 :: q8 :: q9 :: r) = true) (k : eX g d M (pc + 2) (q0 :: q1 :: q2 :: q3 :: q4 :: q5 :: q6 :: q7 :: q8 :: q9 :: (i, .int x) :: r) st τ h Q) : eX g d M pc (q0 :: q1 :: q2 :: q3 :: q4 :: q5 :: q6 :: q7 :: q8 :: q9 :: r) (.int x :: st) τ h Q := by
  intro p l e R s m args below meth c H locs cells slots Fin C hH hS ls hl
  refine lv_istore C.1.1 C.1.2.1 hd hl hn rfl (fun ls hl => k p l e R s m args below meth c H locs cells slots Fin C hH hS ls (lv_mono hl ?_))
  have hA := List.all_eq_true.mp ho
  intro q hq
  simp only [List.mem_cons] at hq
  rw [List.mem_cons, List.mem_filter]
  rcases hq with hq | hq | hq | hq | hq | hq | hq | hq | hq | hq | hq | hq
  · exact Or.inr ⟨by simp [hq], hA q (by simp [hq])⟩
  · exact Or.inr ⟨by simp [hq], hA q (by simp [hq])⟩
  · exact Or.inr ⟨by simp [hq], hA q (by simp [hq])⟩
  · exact Or.inr ⟨by simp [hq], hA q (by simp [hq])⟩
  · exact Or.inr ⟨by simp [hq], hA q (by simp [hq])⟩
  · exact Or.inr ⟨by simp [hq], hA q (by simp [hq])⟩
  · exact Or.inr ⟨by simp [hq], hA q (by simp [hq])⟩
  · exact Or.inr ⟨by simp [hq], hA q (by simp [hq])⟩
  · exact Or.inr ⟨by simp [hq], hA q (by simp [hq])⟩
  · exact Or.inr ⟨by simp [hq], hA q (by simp [hq])⟩
  · exact Or.inl hq
  · exact Or.inr ⟨by simp [hq], hA q (by simp [hq])⟩
theorem eR_astn_10 {k9 : Fin 4} {i x : Nat} {old : Value} {q0 q1 q2 q3 q4 q5 q6 q7 q8 q9 : Nat × Value} (hd : decode M.2.1 pc = .ok (.astore_n k9, 1)) (hi : (k9 : Nat) = i) (hn : i < M.2.2.1) (ho : okK i (q0 :: q1 :: q2 :: q3 :: q4 :: q5 :: q6 :: q7 :: q8 :: q9 :: r) = true) (k : eX g d M (pc + 1) (q0 :: q1 :: q2 :: q3 :: q4 :: q5 :: q6 :: q7 :: q8 :: q9 :: (i, .ref x) :: r) st τ h Q) : eX g d M pc (q0 :: q1 :: q2 :: q3 :: q4 :: q5 :: q6 :: q7 :: q8 :: q9 :: (i, old) :: r) (.ref x :: st) τ h Q := by
  intro p l e R s m args below meth c H locs cells slots Fin C hH hS ls hl
  refine lv_astore_n C.1.1 C.1.2.1 hd hi hl hn rfl (fun ls hl => k p l e R s m args below meth c H locs cells slots Fin C hH hS ls (lv_mono hl ?_))
  have hA := List.all_eq_true.mp ho
  intro q hq
  simp only [List.mem_cons] at hq
  rw [List.mem_cons, List.mem_filter]
  rcases hq with hq | hq | hq | hq | hq | hq | hq | hq | hq | hq | hq | hq
  · exact Or.inr ⟨by simp [hq], hA q (by simp [hq])⟩
  · exact Or.inr ⟨by simp [hq], hA q (by simp [hq])⟩
  · exact Or.inr ⟨by simp [hq], hA q (by simp [hq])⟩
  · exact Or.inr ⟨by simp [hq], hA q (by simp [hq])⟩
  · exact Or.inr ⟨by simp [hq], hA q (by simp [hq])⟩
  · exact Or.inr ⟨by simp [hq], hA q (by simp [hq])⟩
  · exact Or.inr ⟨by simp [hq], hA q (by simp [hq])⟩
  · exact Or.inr ⟨by simp [hq], hA q (by simp [hq])⟩
  · exact Or.inr ⟨by simp [hq], hA q (by simp [hq])⟩
  · exact Or.inr ⟨by simp [hq], hA q (by simp [hq])⟩
  · exact Or.inl hq
  · exact Or.inr ⟨by simp [hq], hA q (by simp [hq])⟩
theorem eR_astn_n10 {k9 : Fin 4} {i x : Nat} {q0 q1 q2 q3 q4 q5 q6 q7 q8 q9 : Nat × Value} (hd : decode M.2.1 pc = .ok (.astore_n k9, 1)) (hi : (k9 : Nat) = i) (hn : i < M.2.2.1) (ho : okK i (q0 :: q1 :: q2 :: q3 :: q4 :: q5 :: q6 :: q7 :: q8 :: q9 :: r) = true) (k : eX g d M (pc + 1) (q0 :: q1 :: q2 :: q3 :: q4 :: q5 :: q6 :: q7 :: q8 :: q9 :: (i, .ref x) :: r) st τ h Q) : eX g d M pc (q0 :: q1 :: q2 :: q3 :: q4 :: q5 :: q6 :: q7 :: q8 :: q9 :: r) (.ref x :: st) τ h Q := by
  intro p l e R s m args below meth c H locs cells slots Fin C hH hS ls hl
  refine lv_astore_n C.1.1 C.1.2.1 hd hi hl hn rfl (fun ls hl => k p l e R s m args below meth c H locs cells slots Fin C hH hS ls (lv_mono hl ?_))
  have hA := List.all_eq_true.mp ho
  intro q hq
  simp only [List.mem_cons] at hq
  rw [List.mem_cons, List.mem_filter]
  rcases hq with hq | hq | hq | hq | hq | hq | hq | hq | hq | hq | hq | hq
  · exact Or.inr ⟨by simp [hq], hA q (by simp [hq])⟩
  · exact Or.inr ⟨by simp [hq], hA q (by simp [hq])⟩
  · exact Or.inr ⟨by simp [hq], hA q (by simp [hq])⟩
  · exact Or.inr ⟨by simp [hq], hA q (by simp [hq])⟩
  · exact Or.inr ⟨by simp [hq], hA q (by simp [hq])⟩
  · exact Or.inr ⟨by simp [hq], hA q (by simp [hq])⟩
  · exact Or.inr ⟨by simp [hq], hA q (by simp [hq])⟩
  · exact Or.inr ⟨by simp [hq], hA q (by simp [hq])⟩
  · exact Or.inr ⟨by simp [hq], hA q (by simp [hq])⟩
  · exact Or.inr ⟨by simp [hq], hA q (by simp [hq])⟩
  · exact Or.inl hq
  · exact Or.inr ⟨by simp [hq], hA q (by simp [hq])⟩
theorem eR_ast_10 {i x : Nat} {old : Value} {q0 q1 q2 q3 q4 q5 q6 q7 q8 q9 : Nat × Value} (hd : decode M.2.1 pc = .ok (.astore i, 2)) (hn : i < M.2.2.1) (ho : okK i (q0 :: q1 :: q2 :: q3 :: q4 :: q5 :: q6 :: q7 :: q8 :: q9 :: r) = true) (k : eX g d M (pc + 2) (q0 :: q1 :: q2 :: q3 :: q4 :: q5 :: q6 :: q7 :: q8 :: q9 :: (i, .ref x) :: r) st τ h Q) : eX g d M pc (q0 :: q1 :: q2 :: q3 :: q4 :: q5 :: q6 :: q7 :: q8 :: q9 :: (i, old) :: r) (.ref x :: st) τ h Q := by
  intro p l e R s m args below meth c H locs cells slots Fin C hH hS ls hl
  refine lv_astore C.1.1 C.1.2.1 hd hl hn rfl (fun ls hl => k p l e R s m args below meth c H locs cells slots Fin C hH hS ls (lv_mono hl ?_))
  have hA := List.all_eq_true.mp ho
  intro q hq
  simp only [List.mem_cons] at hq
  rw [List.mem_cons, List.mem_filter]
  rcases hq with hq | hq | hq | hq | hq | hq | hq | hq | hq | hq | hq | hq
  · exact Or.inr ⟨by simp [hq], hA q (by simp [hq])⟩
  · exact Or.inr ⟨by simp [hq], hA q (by simp [hq])⟩
  · exact Or.inr ⟨by simp [hq], hA q (by simp [hq])⟩
  · exact Or.inr ⟨by simp [hq], hA q (by simp [hq])⟩
  · exact Or.inr ⟨by simp [hq], hA q (by simp [hq])⟩
  · exact Or.inr ⟨by simp [hq], hA q (by simp [hq])⟩
  · exact Or.inr ⟨by simp [hq], hA q (by simp [hq])⟩
  · exact Or.inr ⟨by simp [hq], hA q (by simp [hq])⟩
  · exact Or.inr ⟨by simp [hq], hA q (by simp [hq])⟩
  · exact Or.inr ⟨by simp [hq], hA q (by simp [hq])⟩
  · exact Or.inl hq
  · exact Or.inr ⟨by simp [hq], hA q (by simp [hq])⟩
theorem eR_ast_n10 {i x : Nat} {q0 q1 q2 q3 q4 q5 q6 q7 q8 q9 : Nat × Value} (hd : decode M.2.1 pc = .ok (.astore i, 2)) (hn : i < M.2.2.1) (ho : okK i (q0 :: q1 :: q2 :: q3 :: q4 :: q5 :: q6 :: q7 :: q8 :: q9 :: r) = true) (k : eX g d M (pc + 2) (q0 :: q1 :: q2 :: q3 :: q4 :: q5 :: q6 :: q7 :: q8 :: q9 :: (i, .ref x) :: r) st τ h Q) : eX g d M pc (q0 :: q1 :: q2 :: q3 :: q4 :: q5 :: q6 :: q7 :: q8 :: q9 :: r) (.ref x :: st) τ h Q := by
  intro p l e R s m args below meth c H locs cells slots Fin C hH hS ls hl
  refine lv_astore C.1.1 C.1.2.1 hd hl hn rfl (fun ls hl => k p l e R s m args below meth c H locs cells slots Fin C hH hS ls (lv_mono hl ?_))
  have hA := List.all_eq_true.mp ho
  intro q hq
  simp only [List.mem_cons] at hq
  rw [List.mem_cons, List.mem_filter]
  rcases hq with hq | hq | hq | hq | hq | hq | hq | hq | hq | hq | hq | hq
  · exact Or.inr ⟨by simp [hq], hA q (by simp [hq])⟩
  · exact Or.inr ⟨by simp [hq], hA q (by simp [hq])⟩
  · exact Or.inr ⟨by simp [hq], hA q (by simp [hq])⟩
  · exact Or.inr ⟨by simp [hq], hA q (by simp [hq])⟩
  · exact Or.inr ⟨by simp [hq], hA q (by simp [hq])⟩
  · exact Or.inr ⟨by simp [hq], hA q (by simp [hq])⟩
  · exact Or.inr ⟨by simp [hq], hA q (by simp [hq])⟩
  · exact Or.inr ⟨by simp [hq], hA q (by simp [hq])⟩
  · exact Or.inr ⟨by simp [hq], hA q (by simp [hq])⟩
  · exact Or.inr ⟨by simp [hq], hA q (by simp [hq])⟩
  · exact Or.inl hq
  · exact Or.inr ⟨by simp [hq], hA q (by simp [hq])⟩
theorem eR_iinc_10 {i : Nat} {n : Int} {a : Int} {q0 q1 q2 q3 q4 q5 q6 q7 q8 q9 : Nat × Value} (hd : decode M.2.1 pc = .ok (.iinc i n, 3)) (hn : i < M.2.2.1) (ho : okK i (q0 :: q1 :: q2 :: q3 :: q4 :: q5 :: q6 :: q7 :: q8 :: q9 :: r) = true) (k : eX g d M (pc + 3) (q0 :: q1 :: q2 :: q3 :: q4 :: q5 :: q6 :: q7 :: q8 :: q9 :: (i, .int (zI (a + n))) :: r) st τ h Q) : eX g d M pc (q0 :: q1 :: q2 :: q3 :: q4 :: q5 :: q6 :: q7 :: q8 :: q9 :: (i, .int (zI a)) :: r) st τ h Q := by
  intro p l e R s m args below meth c H locs cells slots Fin C hH hS ls hl
  refine lv_iinc C.1.1 C.1.2.1 hd hl (k := 10) rfl (show zI a + zI n = zI (a + n) from zI_add a n) hn rfl (fun ls hl => k p l e R s m args below meth c H locs cells slots Fin C hH hS ls (lv_mono hl ?_))
  have hA := List.all_eq_true.mp ho
  intro q hq
  simp only [List.mem_cons] at hq
  rw [List.mem_cons, List.mem_filter]
  rcases hq with hq | hq | hq | hq | hq | hq | hq | hq | hq | hq | hq | hq
  · exact Or.inr ⟨by simp [hq], hA q (by simp [hq])⟩
  · exact Or.inr ⟨by simp [hq], hA q (by simp [hq])⟩
  · exact Or.inr ⟨by simp [hq], hA q (by simp [hq])⟩
  · exact Or.inr ⟨by simp [hq], hA q (by simp [hq])⟩
  · exact Or.inr ⟨by simp [hq], hA q (by simp [hq])⟩
  · exact Or.inr ⟨by simp [hq], hA q (by simp [hq])⟩
  · exact Or.inr ⟨by simp [hq], hA q (by simp [hq])⟩
  · exact Or.inr ⟨by simp [hq], hA q (by simp [hq])⟩
  · exact Or.inr ⟨by simp [hq], hA q (by simp [hq])⟩
  · exact Or.inr ⟨by simp [hq], hA q (by simp [hq])⟩
  · exact Or.inl hq
  · exact Or.inr ⟨by simp [hq], hA q (by simp [hq])⟩
theorem eR_ildn_11 {k9 : Fin 4} {i : Nat} {x : Int32} {q0 q1 q2 q3 q4 q5 q6 q7 q8 q9 q10 : Nat × Value} (hd : decode M.2.1 pc = .ok (.iload_n k9, 1)) (hi : (k9 : Nat) = i) (k : eX g d M (pc + 1) (q0 :: q1 :: q2 :: q3 :: q4 :: q5 :: q6 :: q7 :: q8 :: q9 :: q10 :: (i, .int x) :: r) (.int x :: st) τ h Q) : eX g d M pc (q0 :: q1 :: q2 :: q3 :: q4 :: q5 :: q6 :: q7 :: q8 :: q9 :: q10 :: (i, .int x) :: r) st τ h Q := by
  intro p l e R s m args below meth c H locs cells slots Fin C hH hS ls hl
  exact lv_iload_n C.1.1 C.1.2.1 hd hi (lv_at hl 11 rfl) (k p l e R s m args below meth c H locs cells slots Fin C hH hS ls hl)
theorem eR_ild_11 {i : Nat} {x : Int32} {q0 q1 q2 q3 q4 q5 q6 q7 q8 q9 q10 : Nat × Value} (hd : decode M.2.1 pc = .ok (.iload i, 2)) (k : eX g d M (pc + 2) (q0 :: q1 :: q2 :: q3 :: q4 :: q5 :: q6 :: q7 :: q8 :: q9 :: q10 :: (i, .int x) :: r) (.int x :: st) τ h Q) : eX g d M pc (q0 :: q1 :: q2 :: q3 :: q4 :: q5 :: q6 :: q7 :: q8 :: q9 :: q10 :: (i, .int x) :: r) st τ h Q := by
  intro p l e R s m args below meth c H locs cells slots Fin C hH hS ls hl
  exact lv_iload C.1.1 C.1.2.1 hd (lv_at hl 11 rfl) (k p l e R s m args below meth c H locs cells slots Fin C hH hS ls hl)
theorem eR_aldn_11 {k9 : Fin 4} {i x : Nat} {q0 q1 q2 q3 q4 q5 q6 q7 q8 q9 q10 : Nat × Value} (hd : decode M.2.1 pc = .ok (.aload_n k9, 1)) (hi : (k9 : Nat) = i) (k : eX g d M (pc + 1) (q0 :: q1 :: q2 :: q3 :: q4 :: q5 :: q6 :: q7 :: q8 :: q9 :: q10 :: (i, .ref x) :: r) (.ref x :: st) τ h Q) : eX g d M pc (q0 :: q1 :: q2 :: q3 :: q4 :: q5 :: q6 :: q7 :: q8 :: q9 :: q10 :: (i, .ref x) :: r) st τ h Q := by
  intro p l e R s m args below meth c H locs cells slots Fin C hH hS ls hl
  exact lv_aload_n C.1.1 C.1.2.1 hd hi (lv_at hl 11 rfl) (k p l e R s m args below meth c H locs cells slots Fin C hH hS ls hl)
theorem eR_ald_11 {i x : Nat} {q0 q1 q2 q3 q4 q5 q6 q7 q8 q9 q10 : Nat × Value} (hd : decode M.2.1 pc = .ok (.aload i, 2)) (k : eX g d M (pc + 2) (q0 :: q1 :: q2 :: q3 :: q4 :: q5 :: q6 :: q7 :: q8 :: q9 :: q10 :: (i, .ref x) :: r) (.ref x :: st) τ h Q) : eX g d M pc (q0 :: q1 :: q2 :: q3 :: q4 :: q5 :: q6 :: q7 :: q8 :: q9 :: q10 :: (i, .ref x) :: r) st τ h Q := by
  intro p l e R s m args below meth c H locs cells slots Fin C hH hS ls hl
  exact lv_aload C.1.1 C.1.2.1 hd (lv_at hl 11 rfl) (k p l e R s m args below meth c H locs cells slots Fin C hH hS ls hl)
theorem eR_istn_11 {k9 : Fin 4} {i : Nat} {x : Int32} {old : Value} {q0 q1 q2 q3 q4 q5 q6 q7 q8 q9 q10 : Nat × Value} (hd : decode M.2.1 pc = .ok (.istore_n k9, 1)) (hi : (k9 : Nat) = i) (hn : i < M.2.2.1) (ho : okK i (q0 :: q1 :: q2 :: q3 :: q4 :: q5 :: q6 :: q7 :: q8 :: q9 :: q10 :: r) = true) (k : eX g d M (pc + 1) (q0 :: q1 :: q2 :: q3 :: q4 :: q5 :: q6 :: q7 :: q8 :: q9 :: q10 :: (i, .int x) :: r) st τ h Q) : eX g d M pc (q0 :: q1 :: q2 :: q3 :: q4 :: q5 :: q6 :: q7 :: q8 :: q9 :: q10 :: (i, old) :: r) (.int x :: st) τ h Q := by
  intro p l e R s m args below meth c H locs cells slots Fin C hH hS ls hl
  refine lv_istore_n C.1.1 C.1.2.1 hd hi hl hn rfl (fun ls hl => k p l e R s m args below meth c H locs cells slots Fin C hH hS ls (lv_mono hl ?_))
  have hA := List.all_eq_true.mp ho
  intro q hq
  simp only [List.mem_cons] at hq
  rw [List.mem_cons, List.mem_filter]
  rcases hq with hq | hq | hq | hq | hq | hq | hq | hq | hq | hq | hq | hq | hq
  · exact Or.inr ⟨by simp [hq], hA q (by simp [hq])⟩
  · exact Or.inr ⟨by simp [hq], hA q (by simp [hq])⟩
  · exact Or.inr ⟨by simp [hq], hA q (by simp [hq])⟩
  · exact Or.inr ⟨by simp [hq], hA q (by simp [hq])⟩
  · exact Or.inr ⟨by simp [hq], hA q (by simp [hq])⟩
  · exact Or.inr ⟨by simp [hq], hA q (by simp [hq])⟩
  · exact Or.inr ⟨by simp [hq], hA q (by simp [hq])⟩
  · exact Or.inr ⟨by simp [hq], hA q (by simp [hq])⟩
  · exact Or.inr ⟨by simp [hq], hA q (by simp [hq])⟩
  · exact Or.inr ⟨by simp [hq], hA q (by simp [hq])⟩
  · exact Or.inr ⟨by simp [hq], hA q (by simp [hq])⟩
  · exact Or.inl hq
  · exact Or.inr ⟨by simp [hq], hA q (by simp [hq])⟩
theorem eR_istn_n11 {k9 : Fin 4} {i : Nat} {x : Int32} {q0 q1 q2 q3 q4 q5 q6 q7 q8 q9 q10 : Nat × Value} (hd : decode M.2.1 pc = .ok (.istore_n k9, 1)) (hi : (k9 : Nat) = i) (hn : i < M.2.2.1) (ho : okK i (q0 :: q1 :: q2 :: q3 :: q4 :: q5 :: q6 :: q7 :: q8 :: q9 :: q10 :: r) = true) (k : eX g d M (pc + 1) (q0 :: q1 :: q2 :: q3 :: q4 :: q5 :: q6 :: q7 :: q8 :: q9 :: q10 :: (i, .int x) :: r) st τ h Q) : eX g d M pc (q0 :: q1 :: q2 :: q3 :: q4 :: q5 :: q6 :: q7 :: q8 :: q9 :: q10 :: r) (.int x :: st) τ h Q := by
  intro p l e R s m args below meth c H locs cells slots Fin C hH hS ls hl
  refine lv_istore_n C.1.1 C.1.2.1 hd hi hl hn rfl (fun ls hl => k p l e R s m args below meth c H locs cells slots Fin C hH hS ls (lv_mono hl ?_))
  have hA := List.all_eq_true.mp ho
  intro q hq
  simp only [List.mem_cons] at hq
  rw [List.mem_cons, List.mem_filter]
  rcases hq with hq | hq | hq | hq | hq | hq | hq | hq | hq | hq | hq | hq | hq
  · exact Or.inr ⟨by simp [hq], hA q (by simp [hq])⟩
  · exact Or.inr ⟨by simp [hq], hA q (by simp [hq])⟩
  · exact Or.inr ⟨by simp [hq], hA q (by simp [hq])⟩
  · exact Or.inr ⟨by simp [hq], hA q (by simp [hq])⟩
  · exact Or.inr ⟨by simp [hq], hA q (by simp [hq])⟩
  · exact Or.inr ⟨by simp [hq], hA q (by simp [hq])⟩
  · exact Or.inr ⟨by simp [hq], hA q (by simp [hq])⟩
  · exact Or.inr ⟨by simp [hq], hA q (by simp [hq])⟩
  · exact Or.inr ⟨by simp [hq], hA q (by simp [hq])⟩
  · exact Or.inr ⟨by simp [hq], hA q (by simp [hq])⟩
  · exact Or.inr ⟨by simp [hq], hA q (by simp [hq])⟩
  · exact Or.inl hq
  · exact Or.inr ⟨by simp [hq], hA q (by simp [hq])⟩
theorem eR_ist_11 {i : Nat} {x : Int32} {old : Value} {q0 q1 q2 q3 q4 q5 q6 q7 q8 q9 q10 : Nat × Value} (hd : decode M.2.1 pc = .ok (.istore i, 2)) (hn : i < M.2.2.1) (ho : okK i (q0 :: q1 :: q2 :: q3 :: q4 :: q5 :: q6 :: q7 :: q8 :: q9 :: q10 :: r) = true) (k : eX g d M (pc + 2) (q0 :: q1 :: q2 :: q3 :: q4 :: q5 :: q6 :: q7 :: q8 :: q9 :: q10 :: (i, .int x) :: r) st τ h Q) : eX g d M pc (q0 :: q1 :: q2 :: q3 :: q4 :: q5 :: q6 :: q7 :: q8 :: q9 :: q10 :: (i, old) :: r) (.int x :: st) τ h Q := by
  intro p l e R s m args below meth c H locs cells slots Fin C hH hS ls hl
  refine lv_istore C.1.1 C.1.2.1 hd hl hn rfl (fun ls hl => k p l e R s m args below meth c H locs cells slots Fin C hH hS ls (lv_mono hl ?_))
  have hA := List.all_eq_true.mp ho
  intro q hq
  simp only [List.mem_cons] at hq
  rw [List.mem_cons, List.mem_filter]
  rcases hq with hq | hq | hq | hq | hq | hq | hq | hq | hq | hq | hq | hq | hq
  · exact Or.inr ⟨by simp [hq], hA q (by simp [hq])⟩
  · exact Or.inr ⟨by simp [hq], hA q (by simp [hq])⟩
  · exact Or.inr ⟨by simp [hq], hA q (by simp [hq])⟩
  · exact Or.inr ⟨by simp [hq], hA q (by simp [hq])⟩
  · exact Or.inr ⟨by simp [hq], hA q (by simp [hq])⟩
  · exact Or.inr ⟨by simp [hq], hA q (by simp [hq])⟩
  · exact Or.inr ⟨by simp [hq], hA q (by simp [hq])⟩
  · exact Or.inr ⟨by simp [hq], hA q (by simp [hq])⟩
  · exact Or.inr ⟨by simp [hq], hA q (by simp [hq])⟩
  · exact Or.inr ⟨by simp [hq], hA q (by simp [hq])⟩
  · exact Or.inr ⟨by simp [hq], hA q (by simp [hq])⟩
  · exact Or.inl hq
  · exact Or.inr ⟨by simp [hq], hA q (by simp [hq])⟩
theorem eR_ist_n11 {i : Nat} {x : Int32} {q0 q1 q2 q3 q4 q5 q6 q7 q8 q9 q10 : Nat × Value} (hd : decode M.2.1 pc = .ok (.istore i, 2)) (hn : i < M.2.2.1) (ho : okK i (q0 :: q1 :: q2 :: q3 :: q4 :: q5 :: q6 :: q7 :: q8 :: q9 :: q10 :: r) = true) (k : eX g d M (pc + 2) (q0 :: q1 :: q2 :: q3 :: q4 :: q5 :: q6 :: q7 :: q8 :: q9 :: q10 :: (i, .int x) :: r) st τ h Q) : eX g d M pc (q0 :: q1 :: q2 :: q3 :: q4 :: q5 :: q6 :: q7 :: q8 :: q9 :: q10 :: r) (.int x :: st) τ h Q := by
  intro p l e R s m args below meth c H locs cells slots Fin C hH hS ls hl
  refine lv_istore C.1.1 C.1.2.1 hd hl hn rfl (fun ls hl => k p l e R s m args below meth c H locs cells slots Fin C hH hS ls (lv_mono hl ?_))
  have hA := List.all_eq_true.mp ho
  intro q hq
  simp only [List.mem_cons] at hq
  rw [List.mem_cons, List.mem_filter]
  rcases hq with hq | hq | hq | hq | hq | hq | hq | hq | hq | hq | hq | hq | hq
  · exact Or.inr ⟨by simp [hq], hA q (by simp [hq])⟩
  · exact Or.inr ⟨by simp [hq], hA q (by simp [hq])⟩
  · exact Or.inr ⟨by simp [hq], hA q (by simp [hq])⟩
  · exact Or.inr ⟨by simp [hq], hA q (by simp [hq])⟩
  · exact Or.inr ⟨by simp [hq], hA q (by simp [hq])⟩
  · exact Or.inr ⟨by simp [hq], hA q (by simp [hq])⟩
  · exact Or.inr ⟨by simp [hq], hA q (by simp [hq])⟩
  · exact Or.inr ⟨by simp [hq], hA q (by simp [hq])⟩
  · exact Or.inr ⟨by simp [hq], hA q (by simp [hq])⟩
  · exact Or.inr ⟨by simp [hq], hA q (by simp [hq])⟩
  · exact Or.inr ⟨by simp [hq], hA q (by simp [hq])⟩
  · exact Or.inl hq
  · exact Or.inr ⟨by simp [hq], hA q (by simp [hq])⟩
theorem eR_astn_11 {k9 : Fin 4} {i x : Nat} {old : Value} {q0 q1 q2 q3 q4 q5 q6 q7 q8 q9 q10 : Nat × Value} (hd : decode M.2.1 pc = .ok (.astore_n k9, 1)) (hi : (k9 : Nat) = i) (hn : i < M.2.2.1) (ho : okK i (q0 :: q1 :: q2 :: q3 :: q4 :: q5 :: q6 :: q7 :: q8 :: q9 :: q10 :: r) = true) (k : eX g d M (pc + 1) (q0 :: q1 :: q2 :: q3 :: q4 :: q5 :: q6 :: q7 :: q8 :: q9 :: q10 :: (i, .ref x) :: r) st τ h Q) : eX g d M pc (q0 :: q1 :: q2 :: q3 :: q4 :: q5 :: q6 :: q7 :: q8 :: q9 :: q10 :: (i, old) :: r) (.ref x :: st) τ h Q := by
  intro p l e R s m args below meth c H locs cells slots Fin C hH hS ls hl
  refine lv_astore_n C.1.1 C.1.2.1 hd hi hl hn rfl (fun ls hl => k p l e R s m args below meth c H locs cells slots Fin C hH hS ls (lv_mono hl ?_))
  have hA := List.all_eq_true.mp ho
  intro q hq
  simp only [List.mem_cons] at hq
  rw [List.mem_cons, List.mem_filter]
  rcases hq with hq | hq | hq | hq | hq | hq | hq | hq | hq | hq | hq | hq | hq
  · exact Or.inr ⟨by simp [hq], hA q (by simp [hq])⟩
  · exact Or.inr ⟨by simp [hq], hA q (by simp [hq])⟩
  · exact Or.inr ⟨by simp [hq], hA q (by simp [hq])⟩
  · exact Or.inr ⟨by simp [hq], hA q (by simp [hq])⟩
  · exact Or.inr ⟨by simp [hq], hA q (by simp [hq])⟩
  · exact Or.inr ⟨by simp [hq], hA q (by simp [hq])⟩
  · exact Or.inr ⟨by simp [hq], hA q (by simp [hq])⟩
  · exact Or.inr ⟨by simp [hq], hA q (by simp [hq])⟩
  · exact Or.inr ⟨by simp [hq], hA q (by simp [hq])⟩
  · exact Or.inr ⟨by simp [hq], hA q (by simp [hq])⟩
  · exact Or.inr ⟨by simp [hq], hA q (by simp [hq])⟩
  · exact Or.inl hq
  · exact Or.inr ⟨by simp [hq], hA q (by simp [hq])⟩
theorem eR_astn_n11 {k9 : Fin 4} {i x : Nat} {q0 q1 q2 q3 q4 q5 q6 q7 q8 q9 q10 : Nat × Value} (hd : decode M.2.1 pc = .ok (.astore_n k9, 1)) (hi : (k9 : Nat) = i) (hn : i < M.2.2.1) (ho : okK i (q0 :: q1 :: q2 :: q3 :: q4 :: q5 :: q6 :: q7 :: q8 :: q9 :: q10 :: r) = true) (k : eX g d M (pc + 1) (q0 :: q1 :: q2 :: q3 :: q4 :: q5 :: q6 :: q7 :: q8 :: q9 :: q10 :: (i, .ref x) :: r) st τ h Q) : eX g d M pc (q0 :: q1 :: q2 :: q3 :: q4 :: q5 :: q6 :: q7 :: q8 :: q9 :: q10 :: r) (.ref x :: st) τ h Q := by
  intro p l e R s m args below meth c H locs cells slots Fin C hH hS ls hl
  refine lv_astore_n C.1.1 C.1.2.1 hd hi hl hn rfl (fun ls hl => k p l e R s m args below meth c H locs cells slots Fin C hH hS ls (lv_mono hl ?_))
  have hA := List.all_eq_true.mp ho
  intro q hq
  simp only [List.mem_cons] at hq
  rw [List.mem_cons, List.mem_filter]
  rcases hq with hq | hq | hq | hq | hq | hq | hq | hq | hq | hq | hq | hq | hq
  · exact Or.inr ⟨by simp [hq], hA q (by simp [hq])⟩
  · exact Or.inr ⟨by simp [hq], hA q (by simp [hq])⟩
  · exact Or.inr ⟨by simp [hq], hA q (by simp [hq])⟩
  · exact Or.inr ⟨by simp [hq], hA q (by simp [hq])⟩
  · exact Or.inr ⟨by simp [hq], hA q (by simp [hq])⟩
  · exact Or.inr ⟨by simp [hq], hA q (by simp [hq])⟩
  · exact Or.inr ⟨by simp [hq], hA q (by simp [hq])⟩
  · exact Or.inr ⟨by simp [hq], hA q (by simp [hq])⟩
  · exact Or.inr ⟨by simp [hq], hA q (by simp [hq])⟩
  · exact Or.inr ⟨by simp [hq], hA q (by simp [hq])⟩
  · exact Or.inr ⟨by simp [hq], hA q (by simp [hq])⟩
  · exact Or.inl hq
  · exact Or.inr ⟨by simp [hq], hA q (by simp [hq])⟩
theorem eR_ast_11 {i x : Nat} {old : Value} {q0 q1 q2 q3 q4 q5 q6 q7 q8 q9 q10 : Nat × Value} (hd : decode M.2.1 pc = .ok (.astore i, 2)) (hn : i < M.2.2.1) (ho : okK i (q0 :: q1 :: q2 :: q3 :: q4 :: q5 :: q6 :: q7 :: q8 :: q9 :: q10 :: r) = true) (k : eX g d M (pc + 2) (q0 :: q1 :: q2 :: q3 :: q4 :: q5 :: q6 :: q7 :: q8 :: q9 :: q10 :: (i, .ref x) :: r) st τ h Q) : eX g d M pc (q0 :: q1 :: q2 :: q3 :: q4 :: q5 :: q6 :: q7 :: q8 :: q9 :: q10 :: (i, old) :: r) (.ref x :: st) τ h Q := by
  intro p l e R s m args below meth c H locs cells slots Fin C hH hS ls hl
  refine lv_astore C.1.1 C.1.2.1 hd hl hn rfl (fun ls hl => k p l e R s m args below meth c H locs cells slots Fin C hH hS ls (lv_mono hl ?_))
  have hA := List.all_eq_true.mp ho
  intro q hq
  simp only [List.mem_cons] at hq
  rw [List.mem_cons, List.mem_filter]
  rcases hq with hq | hq | hq | hq | hq | hq | hq | hq | hq | hq | hq | hq | hq
  · exact Or.inr ⟨by simp [hq], hA q (by simp [hq])⟩
  · exact Or.inr ⟨by simp [hq], hA q (by simp [hq])⟩
  · exact Or.inr ⟨by simp [hq], hA q (by simp [hq])⟩
  · exact Or.inr ⟨by simp [hq], hA q (by simp [hq])⟩
  · exact Or.inr ⟨by simp [hq], hA q (by simp [hq])⟩
  · exact Or.inr ⟨by simp [hq], hA q (by simp [hq])⟩
  · exact Or.inr ⟨by simp [hq], hA q (by simp [hq])⟩
  · exact Or.inr ⟨by simp [hq], hA q (by simp [hq])⟩
  · exact Or.inr ⟨by simp [hq], hA q (by simp [hq])⟩
  · exact Or.inr ⟨by simp [hq], hA q (by simp [hq])⟩
  · exact Or.inr ⟨by simp [hq], hA q (by simp [hq])⟩
  · exact Or.inl hq
  · exact Or.inr ⟨by simp [hq], hA q (by simp [hq])⟩
theorem eR_ast_n11 {i x : Nat} {q0 q1 q2 q3 q4 q5 q6 q7 q8 q9 q10 : Nat × Value} (hd : decode M.2.1 pc = .ok (.astore i, 2)) (hn : i < M.2.2.1) (ho : okK i (q0 :: q1 :: q2 :: q3 :: q4 :: q5 :: q6 :: q7 :: q8 :: q9 :: q10 :: r) = true) (k : eX g d M (pc + 2) (q0 :: q1 :: q2 :: q3 :: q4 :: q5 :: q6 :: q7 :: q8 :: q9 :: q10 :: (i, .ref x) :: r) st τ h Q) : eX g d M pc (q0 :: q1 :: q2 :: q3 :: q4 :: q5 :: q6 :: q7 :: q8 :: q9 :: q10 :: r) (.ref x :: st) τ h Q := by
  intro p l e R s m args below meth c H locs cells slots Fin C hH hS ls hl
  refine lv_astore C.1.1 C.1.2.1 hd hl hn rfl (fun ls hl => k p l e R s m args below meth c H locs cells slots Fin C hH hS ls (lv_mono hl ?_))
  have hA := List.all_eq_true.mp ho
  intro q hq
  simp only [List.mem_cons] at hq
  rw [List.mem_cons, List.mem_filter]
  rcases hq with hq | hq | hq | hq | hq | hq | hq | hq | hq | hq | hq | hq | hq
  · exact Or.inr ⟨by simp [hq], hA q (by simp [hq])⟩
  · exact Or.inr ⟨by simp [hq], hA q (by simp [hq])⟩
  · exact Or.inr ⟨by simp [hq], hA q (by simp [hq])⟩
  · exact Or.inr ⟨by simp [hq], hA q (by simp [hq])⟩
  · exact Or.inr ⟨by simp [hq], hA q (by simp [hq])⟩
  · exact Or.inr ⟨by simp [hq], hA q (by simp [hq])⟩
  · exact Or.inr ⟨by simp [hq], hA q (by simp [hq])⟩
  · exact Or.inr ⟨by simp [hq], hA q (by simp [hq])⟩
  · exact Or.inr ⟨by simp [hq], hA q (by simp [hq])⟩
  · exact Or.inr ⟨by simp [hq], hA q (by simp [hq])⟩
  · exact Or.inr ⟨by simp [hq], hA q (by simp [hq])⟩
  · exact Or.inl hq
  · exact Or.inr ⟨by simp [hq], hA q (by simp [hq])⟩
theorem eR_iinc_11 {i : Nat} {n : Int} {a : Int} {q0 q1 q2 q3 q4 q5 q6 q7 q8 q9 q10 : Nat × Value} (hd : decode M.2.1 pc = .ok (.iinc i n, 3)) (hn : i < M.2.2.1) (ho : okK i (q0 :: q1 :: q2 :: q3 :: q4 :: q5 :: q6 :: q7 :: q8 :: q9 :: q10 :: r) = true) (k : eX g d M (pc + 3) (q0 :: q1 :: q2 :: q3 :: q4 :: q5 :: q6 :: q7 :: q8 :: q9 :: q10 :: (i, .int (zI (a + n))) :: r) st τ h Q) : eX g d M pc (q0 :: q1 :: q2 :: q3 :: q4 :: q5 :: q6 :: q7 :: q8 :: q9 :: q10 :: (i, .int (zI a)) :: r) st τ h Q := by
  intro p l e R s m args below meth c H locs cells slots Fin C hH hS ls hl
  refine lv_iinc C.1.1 C.1.2.1 hd hl (k := 11) rfl (show zI a + zI n = zI (a + n) from zI_add a n) hn rfl (fun ls hl => k p l e R s m args below meth c H locs cells slots Fin C hH hS ls (lv_mono hl ?_))
  have hA := List.all_eq_true.mp ho
  intro q hq
  simp only [List.mem_cons] at hq
  rw [List.mem_cons, List.mem_filter]
  rcases hq with hq | hq | hq | hq | hq | hq | hq | hq | hq | hq | hq | hq | hq
  · exact Or.inr ⟨by simp [hq], hA q (by simp [hq])⟩
  · exact Or.inr ⟨by simp [hq], hA q (by simp [hq])⟩
  · exact Or.inr ⟨by simp [hq], hA q (by simp [hq])⟩
  · exact Or.inr ⟨by simp [hq], hA q (by simp [hq])⟩
  · exact Or.inr ⟨by simp [hq], hA q (by simp [hq])⟩
  · exact Or.inr ⟨by simp [hq], hA q (by simp [hq])⟩
  · exact Or.inr ⟨by simp [hq], hA q (by simp [hq])⟩
  · exact Or.inr ⟨by simp [hq], hA q (by simp [hq])⟩
  · exact Or.inr ⟨by simp [hq], hA q (by simp [hq])⟩
  · exact Or.inr ⟨by simp [hq], hA q (by simp [hq])⟩
  · exact Or.inr ⟨by simp [hq], hA q (by simp [hq])⟩
  · exact Or.inl hq
  · exact Or.inr ⟨by simp [hq], hA q (by simp [hq])⟩
theorem eR_ildn_12 {k9 : Fin 4} {i : Nat} {x : Int32} {q0 q1 q2 q3 q4 q5 q6 q7 q8 q9 q10 q11 : Nat × Value} (hd : decode M.2.1 pc = .ok (.iload_n k9, 1)) (hi : (k9 : Nat) = i) (k : eX g d M (pc + 1) (q0 :: q1 :: q2 :: q3 :: q4 :: q5 :: q6 :: q7 :: q8 :: q9 :: q10 :: q11 :: (i, .int x) :: r) (.int x :: st) τ h Q) : eX g d M pc (q0 :: q1 :: q2 :: q3 :: q4 :: q5 :: q6 :: q7 :: q8 :: q9 :: q10 :: q11 :: (i, .int x) :: r) st τ h Q := by
  intro p l e R s m args below meth c H locs cells slots Fin C hH hS ls hl
  exact lv_iload_n C.1.1 C.1.2.1 hd hi (lv_at hl 12 rfl) (k p l e R s m args below meth c H locs cells slots Fin C hH hS ls hl)
theorem eR_ild_12 {i : Nat} {x : Int32} {q0 q1 q2 q3 q4 q5 q6 q7 q8 q9 q10 q11 : Nat × Value} (hd : decode M.2.1 pc = .ok (.iload i, 2)) (k : eX g d M (pc + 2) (q0 :: q1 :: q2 :: q3 :: q4 :: q5 :: q6 :: q7 :: q8 :: q9 :: q10 :: q11 :: (i, .int x) :: r) (.int x :: st) τ h Q) : eX g d M pc (q0 :: q1 :: q2 :: q3 :: q4 :: q5 :: q6 :: q7 :: q8 :: q9 :: q10 :: q11 :: (i, .int x) :: r) st τ h Q := by
  intro p l e R s m args below meth c H locs cells slots Fin C hH hS ls hl
  exact lv_iload C.1.1 C.1.2.1 hd (lv_at hl 12 rfl) (k p l e R s m args below meth c H locs cells slots Fin C hH hS ls hl)
theorem eR_aldn_12 {k9 : Fin 4} {i x : Nat} {q0 q1 q2 q3 q4 q5 q6 q7 q8 q9 q10 q11 : Nat × Value} (hd : decode M.2.1 pc = .ok (.aload_n k9, 1)) (hi : (k9 : Nat) = i) (k : eX g d M (pc + 1) (q0 :: q1 :: q2 :: q3 :: q4 :: q5 :: q6 :: q7 :: q8 :: q9 :: q10 :: q11 :: (i, .ref x) :: r) (.ref x :: st) τ h Q) : eX g d M pc (q0 :: q1 :: q2 :: q3 :: q4 :: q5 :: q6 :: q7 :: q8 :: q9 :: q10 :: q11 :: (i, .ref x) :: r) st τ h Q := by
  intro p l e R s m args below meth c H locs cells slots Fin C hH hS ls hl
  exact lv_aload_n C.1.1 C.1.2.1 hd hi (lv_at hl 12 rfl) (k p l e R s m args below meth c H locs cells slots Fin C hH hS ls hl)
theorem eR_ald_12 {i x : Nat} {q0 q1 q2 q3 q4 q5 q6 q7 q8 q9 q10 q11 : Nat × Value} (hd : decode M.2.1 pc = .ok (.aload i, 2)) (k : eX g d M (pc + 2) (q0 :: q1 :: q2 :: q3 :: q4 :: q5 :: q6 :: q7 :: q8 :: q9 :: q10 :: q11 :: (i, .ref x) :: r) (.ref x :: st) τ h Q) : eX g d M pc (q0 :: q1 :: q2 :: q3 :: q4 :: q5 :: q6 :: q7 :: q8 :: q9 :: q10 :: q11 :: (i, .ref x) :: r) st τ h Q := by
  intro p l e R s m args below meth c H locs cells slots Fin C hH hS ls hl
  exact lv_aload C.1.1 C.1.2.1 hd (lv_at hl 12 rfl) (k p l e R s m args below meth c H locs cells slots Fin C hH hS ls hl)
theorem eR_istn_12 {k9 : Fin 4} {i : Nat} {x : Int32} {old : Value} {q0 q1 q2 q3 q4 q5 q6 q7 q8 q9 q10 q11 : Nat × Value} (hd : decode M.2.1 pc = .ok (.istore_n k9, 1)) (hi : (k9 : Nat) = i) (hn : i < M.2.2.1) (ho : okK i (q0 :: q1 :: q2 :: q3 :: q4 :: q5 :: q6 :: q7 :: q8 :: q9 :: q10 :: q11 :: r) = true) (k : eX g d M (pc + 1) (q0 :: q1 :: q2 :: q3 :: q4 :: q5 :: q6 :: q7 :: q8 :: q9 :: q10 :: q11 :: (i, .int x) :: r) st τ h Q) : eX g d M pc (q0 :: q1 :: q2 :: q3 :: q4 :: q5 :: q6 :: q7 :: q8 :: q9 :: q10 :: q11 :: (i, old) :: r) (.int x :: st) τ h Q := by
  intro p l e R s m args below meth c H locs cells slots Fin C hH hS ls hl
  refine lv_istore_n C.1.1 C.1.2.1 hd hi hl hn rfl (fun ls hl => k p l e R s m args below meth c H locs cells slots Fin C hH hS ls (lv_mono hl ?_))
  have hA := List.all_eq_true.mp ho
  intro q hq
  simp only [List.mem_cons] at hq
  rw [List.mem_cons, List.mem_filter]
  rcases hq with hq | hq | hq | hq | hq | hq | hq | hq | hq | hq | hq | hq | hq | hq
  · exact Or.inr ⟨by simp [hq], hA q (by simp [hq])⟩
  · exact Or.inr ⟨by simp [hq], hA q (by simp [hq])⟩
  · exact Or.inr ⟨by simp [hq], hA q (by simp [hq])⟩
  · exact Or.inr ⟨by simp [hq], hA q (by simp [hq])⟩
  · exact Or.inr ⟨by simp [hq], hA q (by simp [hq])⟩
  · exact Or.inr ⟨by simp [hq], hA q (by simp [hq])⟩
  · exact Or.inr ⟨by simp [hq], hA q (by simp [hq])⟩
  · exact Or.inr ⟨by simp [hq], hA q (by simp [hq])⟩
  · exact Or.inr ⟨by simp [hq], hA q (by simp [hq])⟩
  · exact Or.inr ⟨by simp [hq], hA q (by simp [hq])⟩
  · exact Or.inr ⟨by simp [hq], hA q (by simp [hq])⟩
  · exact Or.inr ⟨by simp [hq], hA q (by simp [hq])⟩
  · exact Or.inl hq
  · exact Or.inr ⟨by simp [hq], hA q (by simp [hq])⟩
theorem eR_istn_n12 {k9 : Fin 4} {i : Nat} {x : Int32} {q0 q1 q2 q3 q4 q5 q6 q7 q8 q9 q10 q11 : Nat × Value} (hd : decode M.2.1 pc = .ok (.istore_n k9, 1)) (hi : (k9 : Nat) = i) (hn : i < M.2.2.1) (ho : okK i (q0 :: q1 :: q2 :: q3 :: q4 :: q5 :: q6 :: q7 :: q8 :: q9 :: q10 :: q11 :: r) = true) (k : eX g d M (pc + 1) (q0 :: q1 :: q2 :: q3 :: q4 :: q5 :: q6 :: q7 :: q8 :: q9 :: q10 :: q11 :: (i, .int x) :: r) st τ h Q) : eX g d M pc (q0 :: q1 :: q2 :: q3 :: q4 :: q5 :: q6 :: q7 :: q8 :: q9 :: q10 :: q11 :: r) (.int x :: st) τ h Q := by
  intro p l e R s m args below meth c H locs cells slots Fin C hH hS ls hl
  refine lv_istore_n C.1.1 C.1.2.1 hd hi hl hn rfl (fun ls hl => k p l e R s m args below meth c H locs cells slots Fin C hH hS ls (lv_mono hl ?_))
  have hA := List.all_eq_true.mp ho
  intro q hq
  simp only [List.mem_cons] at hq
  rw [List.mem_cons, List.mem_filter]
  rcases hq with hq | hq | hq | hq | hq | hq | hq | hq | hq | hq | hq | hq | hq | hq
  · exact Or.inr ⟨by simp [hq], hA q (by simp [hq])⟩
  · exact Or.inr ⟨by simp [hq], hA q (by simp [hq])⟩
  · exact Or.inr ⟨by simp [hq], hA q (by simp [hq])⟩
  · exact Or.inr ⟨by simp [hq], hA q (by simp [hq])⟩
  · exact Or.inr ⟨by simp [hq], hA q (by simp [hq])⟩
  · exact Or.inr ⟨by simp [hq], hA q (by simp [hq])⟩
  · exact Or.inr ⟨by simp [hq], hA q (by simp [hq])⟩
  · exact Or.inr ⟨by simp [hq], hA q (by simp [hq])⟩
  · exact Or.inr ⟨by simp [hq], hA q (by simp [hq])⟩
  · exact Or.inr ⟨by simp [hq], hA q (by simp [hq])⟩
  · exact Or.inr ⟨by simp [hq], hA q (by simp [hq])⟩
  · exact Or.inr ⟨by simp [hq], hA q (by simp [hq])⟩
  · exact Or.inl hq
  · exact Or.inr ⟨by simp [hq], hA q (by simp [hq])⟩
theorem eR_ist_12 {i : Nat} {x : Int32} {old : Value} {q0 q1 q2 q3 q4 q5 q6 q7 q8 q9 q10 q11 : Nat × Value} (hd : decode M.2.1 pc = .ok (.istore i, 2)) (hn : i < M.2.2.1) (ho : okK i (q0 :: q1 :: q2 :: q3 :: q4 :: q5 :: q6 :: q7 :: q8 :: q9 :: q10 :: q11 :: r) = true) (k : eX g d M (pc + 2) (q0 :: q1 :: q2 :: q3 :: q4 :: q5 :: q6 :: q7 :: q8 :: q9 :: q10 :: q11 :: (i, .int x) :: r) st τ h Q) : eX g d M pc (q0 :: q1 :: q2 :: q3 :: q4 :: q5 :: q6 :: q7 :: q8 :: q9 :: q10 :: q11 :: (i, old) :: r) (.int x :: st) τ h Q := by
  intro p l e R s m args below meth c H locs cells slots Fin C hH hS ls hl
  refine lv_istore C.1.1 C.1.2.1 hd hl hn rfl (fun ls hl => k p l e R s m args below meth c H locs cells slots Fin C hH hS ls (lv_mono hl ?_))
  have hA := List.all_eq_true.mp ho
  intro q hq
  simp only [List.mem_cons] at hq
  rw [List.mem_cons, List.mem_filter]
  rcases hq with hq | hq | hq | hq | hq | hq | hq | hq | hq | hq | hq | hq | hq | hq
  · exact Or.inr ⟨by simp [hq], hA q (by simp [hq])⟩
  · exact Or.inr ⟨by simp [hq], hA q (by simp [hq])⟩
  · exact Or.inr ⟨by simp [hq], hA q (by simp [hq])⟩
  · exact Or.inr ⟨by simp [hq], hA q (by simp [hq])⟩
  · exact Or.inr ⟨by simp [hq], hA q (by simp [hq])⟩
  · exact Or.inr ⟨by simp [hq], hA q (by simp [hq])⟩
  · exact Or.inr ⟨by simp [hq], hA q (by simp [hq])⟩
  · exact Or.inr ⟨by simp [hq], hA q (by simp [hq])⟩
  · exact Or.inr ⟨by simp [hq], hA q (by simp [hq])⟩
  · exact Or.inr ⟨by simp [hq], hA q (by simp [hq])⟩
  · exact Or.inr ⟨by simp [hq], hA q (by simp [hq])⟩
  · exact Or.inr ⟨by simp [hq], hA q (by simp [hq])⟩
  · exact Or.inl hq
  · exact Or.inr ⟨by simp [hq], hA q (by simp [hq])⟩
theorem eR_ist_n12 {i : Nat} {x : Int32} {q0 q1 q2 q3 q4 q5 q6 q7 q8 q9 q10 q11 : Nat × Value} (hd : decode M.2.1 pc = .ok (.istore i, 2)) (hn : i < M.2.2.1) (ho : okK i (q0 :: q1 :: q2 :: q3 :: q4 :: q5 :: q6 :: q7 :: q8 :: q9 :: q10 :: q11 :: r) = true) (k : eX g d M (pc + 2) (q0 :: q1 :: q2 :: q3 :: q4 :: q5 :: q6 :: q7 :: q8 :: q9 :: q10 :: q11 :: (i, .int x) :: r) st τ h Q) : eX g d M pc (q0 :: q1 :: q2 :: q3 :: q4 :: q5 :: q6 :: q7 :: q8 :: q9 :: q10 :: q11 :: r) (.int x :: st) τ h Q := by
  intro p l e R s m args below meth c H locs cells slots Fin C hH hS ls hl
  refine lv_istore C.1.1 C.1.2.1 hd hl hn rfl (fun ls hl => k p l e R s m args below meth c H locs cells slots Fin C hH hS ls (lv_mono hl ?_))
  have hA := List.all_eq_true.mp ho
  intro q hq
  simp only [List.mem_cons] at hq
  rw [List.mem_cons, List.mem_filter]
  rcases hq with hq | hq | hq | hq | hq | hq | hq | hq | hq | hq | hq | hq | hq | hq
  · exact Or.inr ⟨by simp [hq], hA q (by simp [hq])⟩
  · exact Or.inr ⟨by simp [hq], hA q (by simp [hq])⟩
  · exact Or.inr ⟨by simp [hq], hA q (by simp [hq])⟩
  · exact Or.inr ⟨by simp [hq], hA q (by simp [hq])⟩
  · exact Or.inr ⟨by simp [hq], hA q (by simp [hq])⟩
  · exact Or.inr ⟨by simp [hq], hA q (by simp [hq])⟩
  · exact Or.inr ⟨by simp [hq], hA q (by simp [hq])⟩
  · exact Or.inr ⟨by simp [hq], hA q (by simp [hq])⟩
  · exact Or.inr ⟨by simp [hq], hA q (by simp [hq])⟩
  · exact Or.inr ⟨by simp [hq], hA q (by simp [hq])⟩
  · exact Or.inr ⟨by simp [hq], hA q (by simp [hq])⟩
  · exact Or.inr ⟨by simp [hq], hA q (by simp [hq])⟩
  · exact Or.inl hq
  · exact Or.inr ⟨by simp [hq], hA q (by simp [hq])⟩
theorem eR_astn_12 {k9 : Fin 4} {i x : Nat} {old : Value} {q0 q1 q2 q3 q4 q5 q6 q7 q8 q9 q10 q11 : Nat × Value} (hd : decode M.2.1 pc = .ok (.astore_n k9, 1)) (hi : (k9 : Nat) = i) (hn : i < M.2.2.1) (ho : okK i (q0 :: q1 :: q2 :: q3 :: q4 :: q5 :: q6 :: q7 :: q8 :: q9 :: q10 :: q11 :: r) = true) (k : eX g d M (pc + 1) (q0 :: q1 :: q2 :: q3 :: q4 :: q5 :: q6 :: q7 :: q8 :: q9 :: q10 :: q11 :: (i, .ref x) :: r) st τ h Q) : eX g d M pc (q0 :: q1 :: q2 :: q3 :: q4 :: q5 :: q6 :: q7 :: q8 :: q9 :: q10 :: q11 :: (i, old) :: r) (.ref x :: st) τ h Q := by
  intro p l e R s m args below meth c H locs cells slots Fin C hH hS ls hl
  refine lv_astore_n C.1.1 C.1.2.1 hd hi hl hn rfl (fun ls hl => k p l e R s m args below meth c H locs cells slots Fin C hH hS ls (lv_mono hl ?_))
  have hA := List.all_eq_true.mp ho
  intro q hq
  simp only [List.mem_cons] at hq
  rw [List.mem_cons, List.mem_filter]
  rcases hq with hq | hq | hq | hq | hq | hq | hq | hq | hq | hq | hq | hq | hq | hq
  · exact Or.inr ⟨by simp [hq], hA q (by simp [hq])⟩
  · exact Or.inr ⟨by simp [hq], hA q (by simp [hq])⟩
  · exact Or.inr ⟨by simp [hq], hA q (by simp [hq])⟩
  · exact Or.inr ⟨by simp [hq], hA q (by simp [hq])⟩
  · exact Or.inr ⟨by simp [hq], hA q (by simp [hq])⟩
  · exact Or.inr ⟨by simp [hq], hA q (by simp [hq])⟩
  · exact Or.inr ⟨by simp [hq], hA q (by simp [hq])⟩
  · exact Or.inr ⟨by simp [hq], hA q (by simp [hq])⟩
  · exact Or.inr ⟨by simp [hq], hA q (by simp [hq])⟩
  · exact Or.inr ⟨by simp [hq], hA q (by simp [hq])⟩
  · exact Or.inr ⟨by simp [hq], hA q (by simp [hq])⟩
  · exact Or.inr ⟨by simp [hq], hA q (by simp [hq])⟩
  · exact Or.inl hq
  · exact Or.inr ⟨by simp [hq], hA q (by simp [hq])⟩
theorem eR_astn_n12 {k9 : Fin 4} {i x : Nat} {q0 q1 q2 q3 q4 q5 q6 q7 q8 q9 q10 q11 : Nat × Value} (hd : decode M.2.1 pc = .ok (.astore_n k9, 1)) (hi : (k9 : Nat) = i) (hn : i < M.2.2.1) (ho : okK i (q0 :: q1 :: q2 :: q3 :: q4 :: q5 :: q6 :: q7 :: q8 :: q9 :: q10 :: q11 :: r) = true) (k : eX g d M (pc + 1) (q0 :: q1 :: q2 :: q3 :: q4 :: q5 :: q6 :: q7 :: q8 :: q9 :: q10 :: q11 :: (i, .ref x) :: r) st τ h Q) : eX g d M pc (q0 :: q1 :: q2 :: q3 :: q4 :: q5 :: q6 :: q7 :: q8 :: q9 :: q10 :: q11 :: r) (.ref x :: st) τ h Q := by
  intro p l e R s m args below meth c H locs cells slots Fin C hH hS ls hl
  refine lv_astore_n C.1.1 C.1.2.1 hd hi hl hn rfl (fun ls hl => k p l e R s m args below meth c H locs cells slots Fin C hH hS ls (lv_mono hl ?_))
  have hA := List.all_eq_true.mp ho
  intro q hq
  simp only [List.mem_cons] at hq
  rw [List.mem_cons, List.mem_filter]
  rcases hq with hq | hq | hq | hq | hq | hq | hq | hq | hq | hq | hq | hq | hq | hq
  · exact Or.inr ⟨by simp [hq], hA q (by simp [hq])⟩
  · exact Or.inr ⟨by simp [hq], hA q (by simp [hq])⟩
  · exact Or.inr ⟨by simp [hq], hA q (by simp [hq])⟩
  · exact Or.inr ⟨by simp [hq], hA q (by simp [hq])⟩
  · exact Or.inr ⟨by simp [hq], hA q (by simp [hq])⟩
  · exact Or.inr ⟨by simp [hq], hA q (by simp [hq])⟩
  · exact Or.inr ⟨by simp [hq], hA q (by simp [hq])⟩
  · exact Or.inr ⟨by simp [hq], hA q (by simp [hq])⟩
  · exact Or.inr ⟨by simp [hq], hA q (by simp [hq])⟩
  · exact Or.inr ⟨by simp [hq], hA q (by simp [hq])⟩
  · exact Or.inr ⟨by simp [hq], hA q (by simp [hq])⟩
  · exact Or.inr ⟨by simp [hq], hA q (by simp [hq])⟩
  · exact Or.inl hq
  · exact Or.inr ⟨by simp [hq], hA q (by simp [hq])⟩
theorem eR_ast_12 {i x : Nat} {old : Value} {q0 q1 q2 q3 q4 q5 q6 q7 q8 q9 q10 q11 : Nat × Value} (hd : decode M.2.1 pc = .ok (.astore i, 2)) (hn : i < M.2.2.1) (ho : okK i (q0 :: q1 :: q2 :: q3 :: q4 :: q5 :: q6 :: q7 :: q8 :: q9 :: q10 :: q11 :: r) = true) (k : eX g d M (pc + 2) (q0 :: q1 :: q2 :: q3 :: q4 :: q5 :: q6 :: q7 :: q8 :: q9 :: q10 :: q11 :: (i, .ref x) :: r) st τ h Q) : eX g d M pc (q0 :: q1 :: q2 :: q3 :: q4 :: q5 :: q6 :: q7 :: q8 :: q9 :: q10 :: q11 :: (i, old) :: r) (.ref x :: st) τ h Q := by
  intro p l e R s m args below meth c H locs cells slots Fin C hH hS ls hl
  refine lv_astore C.1.1 C.1.2.1 hd hl hn rfl (fun ls hl => k p l e R s m args below meth c H locs cells slots Fin C hH hS ls (lv_mono hl ?_))
  have hA := List.all_eq_true.mp ho
  intro q hq
  simp only [List.mem_cons] at hq
  rw [List.mem_cons, List.mem_filter]
  rcases hq with hq | hq | hq | hq | hq | hq | hq | hq | hq | hq | hq | hq | hq | hq
  · exact Or.inr ⟨by simp [hq], hA q (by simp [hq])⟩
  · exact Or.inr ⟨by simp [hq], hA q (by simp [hq])⟩
  · exact Or.inr ⟨by simp [hq], hA q (by simp [hq])⟩
  · exact Or.inr ⟨by simp [hq], hA q (by simp [hq])⟩
  · exact Or.inr ⟨by simp [hq], hA q (by simp [hq])⟩
  · exact Or.inr ⟨by simp [hq], hA q (by simp [hq])⟩
  · exact Or.inr ⟨by simp [hq], hA q (by simp [hq])⟩
  · exact Or.inr ⟨by simp [hq], hA q (by simp [hq])⟩
  · exact Or.inr ⟨by simp [hq], hA q (by simp [hq])⟩
  · exact Or.inr ⟨by simp [hq], hA q (by simp [hq])⟩
  · exact Or.inr ⟨by simp [hq], hA q (by simp [hq])⟩
  · exact Or.inr ⟨by simp [hq], hA q (by simp [hq])⟩
  · exact Or.inl hq
  · exact Or.inr ⟨by simp [hq], hA q (by simp [hq])⟩
theorem eR_ast_n12 {i x : Nat} {q0 q1 q2 q3 q4 q5 q6 q7 q8 q9 q10 q11 : Nat × Value} (hd : decode M.2.1 pc = .ok (.astore i, 2)) (hn : i < M.2.2.1) (ho : okK i (q0 :: q1 :: q2 :: q3 :: q4 :: q5 :: q6 :: q7 :: q8 :: q9 :: q10 :: q11 :: r) = true) (k : eX g d M (pc + 2) (q0 :: q1 :: q2 :: q3 :: q4 :: q5 :: q6 :: q7 :: q8 :: q9 :: q10 :: q11 :: (i, .ref x) :: r) st τ h Q) : eX g d M pc (q0 :: q1 :: q2 :: q3 :: q4 :: q5 :: q6 :: q7 :: q8 :: q9 :: q10 :: q11 :: r) (.ref x :: st) τ h Q := by
  intro p l e R s m args below meth c H locs cells slots Fin C hH hS ls hl
  refine lv_astore C.1.1 C.1.2.1 hd hl hn rfl (fun ls hl => k p l e R s m args below meth c H locs cells slots Fin C hH hS ls (lv_mono hl ?_))
  have hA := List.all_eq_true.mp ho
  intro q hq
  simp only [List.mem_cons] at hq
  rw [List.mem_cons, List.mem_filter]
  rcases hq with hq | hq | hq | hq | hq | hq | hq | hq | hq | hq | hq | hq | hq | hq
  · exact Or.inr ⟨by simp [hq], hA q (by simp [hq])⟩
  · exact Or.inr ⟨by simp [hq], hA q (by simp [hq])⟩
  · exact Or.inr ⟨by simp [hq], hA q (by simp [hq])⟩
  · exact Or.inr ⟨by simp [hq], hA q (by simp [hq])⟩
  · exact Or.inr ⟨by simp [hq], hA q (by simp [hq])⟩
  · exact Or.inr ⟨by simp [hq], hA q (by simp [hq])⟩
  · exact Or.inr ⟨by simp [hq], hA q (by simp [hq])⟩
  · exact Or.inr ⟨by simp [hq], hA q (by simp [hq])⟩
  · exact Or.inr ⟨by simp [hq], hA q (by simp [hq])⟩
  · exact Or.inr ⟨by simp [hq], hA q (by simp [hq])⟩
  · exact Or.inr ⟨by simp [hq], hA q (by simp [hq])⟩
  · exact Or.inr ⟨by simp [hq], hA q (by simp [hq])⟩
  · exact Or.inl hq
  · exact Or.inr ⟨by simp [hq], hA q (by simp [hq])⟩
theorem eR_iinc_12 {i : Nat} {n : Int} {a : Int} {q0 q1 q2 q3 q4 q5 q6 q7 q8 q9 q10 q11 : Nat × Value} (hd : decode M.2.1 pc = .ok (.iinc i n, 3)) (hn : i < M.2.2.1) (ho : okK i (q0 :: q1 :: q2 :: q3 :: q4 :: q5 :: q6 :: q7 :: q8 :: q9 :: q10 :: q11 :: r) = true) (k : eX g d M (pc + 3) (q0 :: q1 :: q2 :: q3 :: q4 :: q5 :: q6 :: q7 :: q8 :: q9 :: q10 :: q11 :: (i, .int (zI (a + n))) :: r) st τ h Q) : eX g d M pc (q0 :: q1 :: q2 :: q3 :: q4 :: q5 :: q6 :: q7 :: q8 :: q9 :: q10 :: q11 :: (i, .int (zI a)) :: r) st τ h Q := by
  intro p l e R s m args below meth c H locs cells slots Fin C hH hS ls hl
  refine lv_iinc C.1.1 C.1.2.1 hd hl (k := 12) rfl (show zI a + zI n = zI (a + n) from zI_add a n) hn rfl (fun ls hl => k p l e R s m args below meth c H locs cells slots Fin C hH hS ls (lv_mono hl ?_))
  have hA := List.all_eq_true.mp ho
  intro q hq
  simp only [List.mem_cons] at hq
  rw [List.mem_cons, List.mem_filter]
  rcases hq with hq | hq | hq | hq | hq | hq | hq | hq | hq | hq | hq | hq | hq | hq
  · exact Or.inr ⟨by simp [hq], hA q (by simp [hq])⟩
  · exact Or.inr ⟨by simp [hq], hA q (by simp [hq])⟩
  · exact Or.inr ⟨by simp [hq], hA q (by simp [hq])⟩
  · exact Or.inr ⟨by simp [hq], hA q (by simp [hq])⟩
  · exact Or.inr ⟨by simp [hq], hA q (by simp [hq])⟩
  · exact Or.inr ⟨by simp [hq], hA q (by simp [hq])⟩
  · exact Or.inr ⟨by simp [hq], hA q (by simp [hq])⟩
  · exact Or.inr ⟨by simp [hq], hA q (by simp [hq])⟩
  · exact Or.inr ⟨by simp [hq], hA q (by simp [hq])⟩
  · exact Or.inr ⟨by simp [hq], hA q (by simp [hq])⟩
  · exact Or.inr ⟨by simp [hq], hA q (by simp [hq])⟩
  · exact Or.inr ⟨by simp [hq], hA q (by simp [hq])⟩
  · exact Or.inl hq
  · exact Or.inr ⟨by simp [hq], hA q (by simp [hq])⟩
theorem eX_lv {lv lv2 : List (Nat × Value)} (hs : ∀ q ∈ lv2, q ∈ lv) (k : eX g d M pc lv2 st τ h Q) : eX g d M pc lv st τ h Q := by
  intro p l e R s m args below meth c H locs cells slots Fin C hH hS ls hl
  exact k p l e R s m args below meth c H locs cells slots Fin C hH hS ls (lv_mono hl hs)
theorem eR_iret {x : Int32} (hd : decode M.2.1 pc = .ok (.ireturn, 1)) {ty : FieldType} (hr : M.2.2.2.1 = some ty) (hn : narrow ty (.int x) = .int x) (k : Q (.int x) τ h) : eX g d M pc lv [.int x] τ h Q := by
  intro p l e R s m args below meth c H locs cells slots Fin C hH hS ls hl
  obtain ⟨h1, h2, h3, h4, h5, h6, h9⟩ := C
  exact h9 (.int x) τ h H locs pc ls [.int x] _ k hH hS hd (Or.inr ⟨ty, x, hr, rfl, rfl, rfl, hn⟩)
theorem eR_vret (hd : decode M.2.1 pc = .ok (.return_, 1)) (hr : M.2.2.2.1 = none) (k : Q .null τ h) : eX g d M pc lv [] τ h Q := by
  intro p l e R s m args below meth c H locs cells slots Fin C hH hS ls hl
  obtain ⟨h1, h2, h3, h4, h5, h6, h9⟩ := C
  exact h9 .null τ h H locs pc ls [] _ k hH hS hd (Or.inl ⟨hr, rfl, rfl⟩)
theorem nar_b {z : Int} (hz : z = 0 ∨ z = 1) : narrow .boolean (.int (zI z)) = .int (zI z) := by rcases hz with rfl | rfl <;> rfl
theorem eR_zret {z : Int} (hd : decode M.2.1 pc = .ok (.ireturn, 1)) (hr : M.2.2.2.1 = some .boolean) (hz : z = 0 ∨ z = 1) (k : Q (.int (zI z)) τ h) : eX g d M pc lv [.int (zI z)] τ h Q := eR_iret hd hr (nar_b hz) k
theorem eX_top {v v' : Value} (e9 : v = v') (k : eX g d M pc lv (v' :: st) τ h Q) : eX g d M pc lv (v :: st) τ h Q := by rw [e9]; exact k
theorem eX_topI {z z' : Int} (e9 : z = z') (k : eX g d M pc lv (.int (zI z') :: st) τ h Q) : eX g d M pc lv (.int (zI z) :: st) τ h Q := by rw [e9]; exact k
theorem eX_name {z : Int} (k : ∀ y, y = z → eX g d M pc lv (.int (zI y) :: st) τ h Q) : eX g d M pc lv (.int (zI z) :: st) τ h Q := k z rfl
theorem eX_hp {h h' : PH} (e9 : h = h') (k : eX g d M pc lv st τ h' Q) : eX g d M pc lv st τ h Q := by rw [e9]; exact k
end RULES
