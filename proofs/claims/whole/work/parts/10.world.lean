/-! numbers: bits of small naturals -/
theorem zI_nI (n : Nat) : zI (n : Int) = nI n := Int32.ofInt_eq_ofNat
theorem nI_toIntN {n : Nat} (h : n < 2147483648) : (nI n).toInt = (n : Int) := nI_toInt (by omega)
theorem zAnd_nat {a b : Nat} (ha : a < 2147483648) : zAnd (a : Int) (b : Int) = ((a &&& b : Nat) : Int) := by
  have h1 : nI a &&& nI b = nI (a &&& b) := Int32.toBitVec_inj.mp (by simp [nI])
  unfold zAnd
  rw [zI_nI, zI_nI, h1, nI_toIntN (Nat.lt_of_le_of_lt Nat.and_le_left ha)]
theorem zOr_nat {a b : Nat} (ha : a < 2147483648) (hb : b < 2147483648) : zOr (a : Int) (b : Int) = ((a ||| b : Nat) : Int) := by
  have h1 : nI a ||| nI b = nI (a ||| b) := Int32.toBitVec_inj.mp (by simp [nI])
  unfold zOr
  rw [zI_nI, zI_nI, h1, nI_toIntN (Nat.or_lt_two_pow (n := 31) ha hb)]
theorem zXor_nat {a b : Nat} (ha : a < 2147483648) (hb : b < 2147483648) : zXor (a : Int) (b : Int) = ((a ^^^ b : Nat) : Int) := by
  have h1 : nI a ^^^ nI b = nI (a ^^^ b) := Int32.toBitVec_inj.mp (by simp [nI])
  unfold zXor
  rw [zI_nI, zI_nI, h1, nI_toIntN (Nat.xor_lt_two_pow (n := 31) ha hb)]
theorem zs_l : ∀ n, n < 32 → ((nI n &&& 31).toBitVec.smod 32).toNat = n := by decide +kernel
theorem zShl_nat {a k : Nat} (hk : k < 32) (h : a * 2 ^ k < 2147483648) : zShl (a : Int) (k : Int) = ((a * 2 ^ k : Nat) : Int) := by
  unfold zShl
  rw [zI_nI, zI_nI, pk_shlN _ k (zs_l k hk) (by omega), nI_toIntN h]
theorem zShr_nat {a k : Nat} (hk : k < 32) (h : a < 2147483648) : zShr (a : Int) (k : Int) = ((a / 2 ^ k : Nat) : Int) := by
  unfold zShr
  rw [zI_nI, zI_nI, pk_shrN (by omega) _ k (zs_l k hk), nI_toIntN (Nat.lt_of_le_of_lt (Nat.div_le_self _ _) h)]
theorem zBit_nat {a k : Nat} (hk : k < 32) (h : a < 2147483648) : zAnd (zShr (a : Int) (k : Int)) 1 = if a.testBit k then 1 else 0 := by
  rw [zShr_nat hk h, show (1 : Int) = ((1 : Nat) : Int) from rfl, zAnd_nat (Nat.lt_of_le_of_lt (Nat.div_le_self _ _) h)]
  rw [Nat.and_one_is_mod, Nat.testBit_eq_decide_div_mod_eq]
  rcases Nat.mod_two_eq_zero_or_one (a / 2 ^ k) with q | q <;> simp [q]
/-- two longs against each other -/
def zCmp (a b : Int) : Int := if b < a then 1 else if a = b then 0 else -1
def rL (z : Int) : Prop := -9223372036854775808 ≤ z ∧ z < 9223372036854775808
theorem zL_lt {a b : Int} (ha : rL a) (hb : rL b) : zL a < zL b ↔ a < b := by rw [Int64.lt_iff_toInt_lt, zL_toInt ha.1 ha.2, zL_toInt hb.1 hb.2]
theorem zL_eq {a b : Int} (ha : rL a) (hb : rL b) : zL a = zL b ↔ a = b := by rw [← Int64.toInt_inj, zL_toInt ha.1 ha.2, zL_toInt hb.1 hb.2]
theorem zL_cmp {a b : Int} (ha : rL a) (hb : rL b) : lg_cmp (zL a) (zL b) = zI (zCmp a b) := by
  unfold lg_cmp zCmp
  by_cases h1 : b < a
  · rw [if_pos h1, if_pos (show zL a > zL b from (zL_lt hb ha).mpr h1)]; rfl
  · rw [if_neg h1, if_neg (fun q => h1 ((zL_lt hb ha).mp q))]
    by_cases h2 : a = b
    · rw [if_pos h2, if_pos ((zL_eq ha hb).mpr h2)]; rfl
    · rw [if_neg h2, if_neg (fun q => h2 ((zL_eq ha hb).mp q))]; rfl
theorem zI_L {a : Int} (ha : rg a) : (zI a).toInt64 = zL a := by
  rw [← Int64.toInt_inj, Int32.toInt_toInt64, zI_toInt ha, zL_toInt (by have := ha.1; omega) (by have := ha.2; omega)]
section LZ
variable {g : EG} {d : Nat} {M : MM} {pc : Nat} {lv : List (Nat × Value)} {st : List Value} {τ : List Kd} {h : PH} {Q : EQ}
theorem eR_i2lz {a : Int} (hd : decode M.2.1 pc = .ok (.i2l, 1)) (ha : rg a) (k : eX g d M (pc + 1) lv (.long (zL a) :: st) τ h Q) : eX g d M pc lv (.int (zI a) :: st) τ h Q := eR_i2l hd (by rw [zI_L ha]; exact k)
theorem eR_lcmpz {a b : Int} (hd : decode M.2.1 pc = .ok (.lcmp, 1)) (ha : rL a) (hb : rL b) (k : eX g d M (pc + 1) lv (.int (zI (zCmp a b)) :: st) τ h Q) : eX g d M pc lv (.long (zL b) :: .long (zL a) :: st) τ h Q := eR_lcmp hd (by rw [zL_cmp ha hb]; exact k)
theorem eX_pcI {z z' : Int} (e9 : z = z') (k : eX g d M pc lv (.int (zI z') :: st) τ h Q) : eX g d M pc lv (.int (zI z) :: st) τ h Q := by rw [e9]; exact k
theorem eX_pcL {z z' : Int} (e9 : z = z') (k : eX g d M pc lv (.long (zL z') :: st) τ h Q) : eX g d M pc lv (.long (zL z) :: st) τ h Q := by rw [e9]; exact k
end LZ
theorem zCmp_rg (a b : Int) : rg (zCmp a b) := by unfold zCmp rg; split <;> (try split) <;> omega
theorem zCmp_lt {a b : Int} : zCmp a b < 0 ↔ a < b := by unfold zCmp; split <;> (try split) <;> omega
theorem zCmp_gt {a b : Int} : 0 < zCmp a b ↔ b < a := by unfold zCmp; split <;> (try split) <;> omega
def b01 (p : Prop) [Decidable p] : Int := if p then 1 else 0
/-! the cells -/
def rowsK (b n : Nat) : List Nat := (List.range n).map (fun i => b + i + 4)
theorem rowsK_at {b n i : Nat} (h : i < n) : (rowsK b n).getD i 3 = b + i + 4 := by
  simp [rowsK, List.getD, h]
def ks6 (t : Nat) : List Nat := [0, 0, 0, 0, 0, 0, 1, 0, t + 1 + 4, t + 10 + 4, t + 11 + 4, t + 22 + 4, t + 31 + 4, t + 40 + 4]
def ks9 : List Nat := [210, 211, 212, 213, 214, 215, 216, 217, 218, 219, 220, 221, 222, 0, 0, 0, 0, 0, 0, 0, 0, 1, 219 + 4, 220 + 4, 221 + 4, 222 + 4, 0, 223 + 4, 0]
def tauI (b j : Nat) : Kd := if j = 0 then (0, 0, [1, 2, 0, 0, b + 1 + 4]) else if j = 1 then (3, 8, rowsK (b + 2) 8) else (1, 2, [])
def tauT (b j : Nat) : Kd := if j = 0 then (0, 6, ks6 b) else if j = 1 then (3, 8, rowsK (b + 2) 8) else if j < 10 then (1, 2, []) else if j = 10 then (1, 8, []) else if j = 11 then (3, 10, rowsK (b + 12) 10) else if j < 22 then (1, 4, []) else
  if j = 22 then (3, 8, rowsK (b + 23) 8) else if j < 31 then (1, 24, []) else if j = 31 then (3, 8, rowsK (b + 32) 8) else (1, 8, [])
def tauA (t s k : Nat) : Kd := if k = 0 then (0, 8, [1 + 4, 3 + 4, 34 + 4, 37 + 4, 38 + 4, 70 + 4, 102 + 4, t + 4, s + 4, 2, 0]) else if k = 1 then (0, 4, [2 + 4, 0, 0, 0, 0, 0]) else if k = 2 then (1, 400, []) else
  if k = 3 then (0, 7, [4 + 4, 5 + 4, 14 + 4, 23 + 4, 24 + 4]) else if k = 4 then (1, 8, []) else if k = 5 then (3, 8, rowsK 6 8) else if k < 14 then (1, 4, []) else if k = 14 then (3, 8, rowsK 15 8) else if k < 23 then (1, 4, []) else
  if k = 23 then (1, 9, []) else if k = 24 then (3, 9, rowsK 25 9) else if k < 34 then (1, 256, []) else if k = 34 then (0, 3, [35 + 4, 36 + 4]) else if k = 35 then (2, 256, []) else if k = 36 then (1, 10, []) else (0, 2, [0, 0, 0])
def tauB (k : Nat) : Kd := if k = 38 then (0, 5, [39 + 4, 0]) else if k = 39 then (3, 30, rowsK 40 30) else if k < 70 then (1, 3, []) else if k = 70 then (0, 5, [71 + 4, 0]) else if k = 71 then (3, 30, rowsK 72 30) else if k < 102 then (1, 3, []) else
  if k = 102 then (4, 2, [103 + 4, 113 + 4]) else if k < 113 then tauI 103 (k - 103) else tauI 113 (k - 113)
def tauM (k : Nat) : Kd := if k = 205 then (0, 9, ks9) else if k = 207 then (2, 2, []) else (1, [80, 2, 16, 16, 16, 20, 20, 20, 20, 128, 64, 8, 400, 2304, 8, 256, 90, 90].getD (k - 206) 0, [])
def tauF (t s k : Nat) : Kd := if k < 38 then tauA t s k else if k < 123 then tauB k else if k < 164 then tauT 123 (k - 123) else if k < 205 then tauT 164 (k - 164) else tauM k
def tau (t s : Nat) : List Kd := (List.range 224).map (tauF t s)
theorem tau_at {t s k : Nat} (hk : k < 224) : (tau t s)[k]? = some (tauF t s k) := by simp [tau, hk]
theorem th_0 {t s : Nat} : (tau t s)[0]? = some (0, 8, [1 + 4, 3 + 4, 34 + 4, 37 + 4, 38 + 4, 70 + 4, 102 + 4, t + 4, s + 4, 2, 0]) := tau_at (by decide)
theorem th_1 {t s : Nat} : (tau t s)[1]? = some (0, 4, [2 + 4, 0, 0, 0, 0, 0]) := tau_at (by decide)
theorem th_2 {t s : Nat} : (tau t s)[2]? = some (1, 400, []) := tau_at (by decide)
theorem th_3 {t s : Nat} : (tau t s)[3]? = some (0, 7, [4 + 4, 5 + 4, 14 + 4, 23 + 4, 24 + 4]) := tau_at (by decide)
theorem th_4 {t s : Nat} : (tau t s)[4]? = some (1, 8, []) := tau_at (by decide)
theorem th_5 {t s : Nat} : (tau t s)[5]? = some (3, 8, rowsK 6 8) := tau_at (by decide)
theorem th_14 {t s : Nat} : (tau t s)[14]? = some (3, 8, rowsK 15 8) := tau_at (by decide)
theorem th_23 {t s : Nat} : (tau t s)[23]? = some (1, 9, []) := tau_at (by decide)
theorem th_24 {t s : Nat} : (tau t s)[24]? = some (3, 9, rowsK 25 9) := tau_at (by decide)
theorem th_34 {t s : Nat} : (tau t s)[34]? = some (0, 3, [35 + 4, 36 + 4]) := tau_at (by decide)
theorem th_35 {t s : Nat} : (tau t s)[35]? = some (2, 256, []) := tau_at (by decide)
theorem th_36 {t s : Nat} : (tau t s)[36]? = some (1, 10, []) := tau_at (by decide)
theorem th_37 {t s : Nat} : (tau t s)[37]? = some (0, 2, [0, 0, 0]) := tau_at (by decide)
theorem th_38 {t s : Nat} : (tau t s)[38]? = some (0, 5, [39 + 4, 0]) := tau_at (by decide)
theorem th_39 {t s : Nat} : (tau t s)[39]? = some (3, 30, rowsK 40 30) := tau_at (by decide)
theorem th_70 {t s : Nat} : (tau t s)[70]? = some (0, 5, [71 + 4, 0]) := tau_at (by decide)
theorem th_71 {t s : Nat} : (tau t s)[71]? = some (3, 30, rowsK 72 30) := tau_at (by decide)
theorem th_102 {t s : Nat} : (tau t s)[102]? = some (4, 2, [103 + 4, 113 + 4]) := tau_at (by decide)
theorem th_103 {t s : Nat} : (tau t s)[103]? = some (0, 0, [1, 2, 0, 0, 104 + 4]) := tau_at (by decide)
theorem th_104 {t s : Nat} : (tau t s)[104]? = some (3, 8, rowsK 105 8) := tau_at (by decide)
theorem th_113 {t s : Nat} : (tau t s)[113]? = some (0, 0, [1, 2, 0, 0, 114 + 4]) := tau_at (by decide)
theorem th_114 {t s : Nat} : (tau t s)[114]? = some (3, 8, rowsK 115 8) := tau_at (by decide)
theorem th_205 {t s : Nat} : (tau t s)[205]? = some (0, 9, ks9) := tau_at (by decide)
theorem th_206 {t s : Nat} : (tau t s)[206]? = some (1, 80, []) := tau_at (by decide)
theorem th_207 {t s : Nat} : (tau t s)[207]? = some (2, 2, []) := tau_at (by decide)
theorem th_208 {t s : Nat} : (tau t s)[208]? = some (1, 16, []) := tau_at (by decide)
theorem th_209 {t s : Nat} : (tau t s)[209]? = some (1, 16, []) := tau_at (by decide)
theorem th_210 {t s : Nat} : (tau t s)[210]? = some (1, 16, []) := tau_at (by decide)
theorem th_211 {t s : Nat} : (tau t s)[211]? = some (1, 20, []) := tau_at (by decide)
theorem th_212 {t s : Nat} : (tau t s)[212]? = some (1, 20, []) := tau_at (by decide)
theorem th_213 {t s : Nat} : (tau t s)[213]? = some (1, 20, []) := tau_at (by decide)
theorem th_214 {t s : Nat} : (tau t s)[214]? = some (1, 20, []) := tau_at (by decide)
theorem th_215 {t s : Nat} : (tau t s)[215]? = some (1, 128, []) := tau_at (by decide)
theorem th_216 {t s : Nat} : (tau t s)[216]? = some (1, 64, []) := tau_at (by decide)
theorem th_217 {t s : Nat} : (tau t s)[217]? = some (1, 8, []) := tau_at (by decide)
theorem th_218 {t s : Nat} : (tau t s)[218]? = some (1, 400, []) := tau_at (by decide)
theorem th_219 {t s : Nat} : (tau t s)[219]? = some (1, 2304, []) := tau_at (by decide)
theorem th_220 {t s : Nat} : (tau t s)[220]? = some (1, 8, []) := tau_at (by decide)
theorem th_221 {t s : Nat} : (tau t s)[221]? = some (1, 256, []) := tau_at (by decide)
theorem th_222 {t s : Nat} : (tau t s)[222]? = some (1, 90, []) := tau_at (by decide)
theorem th_223 {t s : Nat} : (tau t s)[223]? = some (1, 90, []) := tau_at (by decide)
theorem tr_w {t s i : Nat} (hi : i < 8) : (tau t s)[6 + i]? = some (1, 4, []) := by
  rw [tau_at (by omega)]
  refine congrArg some ?_
  simp (disch := omega) only [tauF, tauA, tauB, tauI, if_pos, if_neg]
theorem tr_s {t s i : Nat} (hi : i < 8) : (tau t s)[15 + i]? = some (1, 4, []) := by
  rw [tau_at (by omega)]
  refine congrArg some ?_
  simp (disch := omega) only [tauF, tauA, tauB, tauI, if_pos, if_neg]
theorem tr_m {t s i : Nat} (hi : i < 9) : (tau t s)[25 + i]? = some (1, 256, []) := by
  rw [tau_at (by omega)]
  refine congrArg some ?_
  simp (disch := omega) only [tauF, tauA, tauB, tauI, if_pos, if_neg]
theorem tr_g {t s i : Nat} (hi : i < 30) : (tau t s)[40 + i]? = some (1, 3, []) := by
  rw [tau_at (by omega)]
  refine congrArg some ?_
  simp (disch := omega) only [tauF, tauA, tauB, tauI, if_pos, if_neg]
theorem tr_b {t s i : Nat} (hi : i < 30) : (tau t s)[72 + i]? = some (1, 3, []) := by
  rw [tau_at (by omega)]
  refine congrArg some ?_
  simp (disch := omega) only [tauF, tauA, tauB, tauI, if_pos, if_neg]
theorem tr_i0 {t s i : Nat} (hi : i < 8) : (tau t s)[105 + i]? = some (1, 2, []) := by
  rw [tau_at (by omega)]
  refine congrArg some ?_
  simp (disch := omega) only [tauF, tauA, tauB, tauI, if_pos, if_neg]
theorem tr_i1 {t s i : Nat} (hi : i < 8) : (tau t s)[115 + i]? = some (1, 2, []) := by
  rw [tau_at (by omega)]
  refine congrArg some ?_
  simp (disch := omega) only [tauF, tauA, tauB, tauI, if_pos, if_neg]
def isTn (τ : List Kd) (t : Nat) : Prop := τ[t]? = some (0, 6, ks6 t) ∧ τ[t + 1]? = some (3, 8, rowsK (t + 2) 8) ∧ (∀ i, i < 8 → τ[t + 2 + i]? = some (1, 2, [])) ∧ τ[t + 10]? = some (1, 8, []) ∧ τ[t + 11]? = some (3, 10, rowsK (t + 12) 10) ∧ (∀ i, i < 10 → τ[t + 12 + i]? = some (1, 4, [])) ∧
  τ[t + 22]? = some (3, 8, rowsK (t + 23) 8) ∧ (∀ i, i < 8 → τ[t + 23 + i]? = some (1, 24, [])) ∧ τ[t + 31]? = some (3, 8, rowsK (t + 32) 8) ∧ (∀ i, i < 8 → τ[t + 32 + i]? = some (1, 8, [])) ∧ τ[t + 40]? = some (1, 8, [])
def isT (t : Nat) : Prop := t = 123 ∨ t = 164
theorem tnF {a b t j : Nat} (ht : isT t) (hj : j < 41) : (tau a b)[t + j]? = some (tauT t j) := by
  rcases ht with rfl | rfl
  · rw [tau_at (by omega)]
    unfold tauF
    rw [if_neg (by omega), if_neg (by omega), if_pos (by omega), Nat.add_sub_cancel_left]
  · rw [tau_at (by omega)]
    unfold tauF
    rw [if_neg (by omega), if_neg (by omega), if_neg (by omega), if_pos (by omega), Nat.add_sub_cancel_left]
theorem tn_tau {a b t : Nat} (ht : isT t) : isTn (tau a b) t := by
  have T : ∀ (i k : Nat) (x : Kd), k + i < 41 → tauT t (k + i) = x → (tau a b)[t + k + i]? = some x := fun i k x hk e => by rw [Nat.add_assoc, tnF ht hk, e]
  have U : ∀ (i lo n : Nat) (x : Kd), i < n → lo + n ≤ 41 → (∀ j, lo ≤ j → j < lo + n → tauT t j = x) → (tau a b)[t + lo + i]? = some x := fun i lo n x hi hn e => T i lo x (by omega) (e (lo + i) (by omega) (by omega))
  refine ⟨tnF (j := 0) ht (by omega), tnF (j := 1) ht (by omega), fun i hi => U i 2 8 _ hi (by omega) ?_, tnF (j := 10) ht (by omega), tnF (j := 11) ht (by omega), fun i hi => U i 12 10 _ hi (by omega) ?_, tnF (j := 22) ht (by omega), fun i hi => U i 23 8 _ hi (by omega) ?_, tnF (j := 31) ht (by omega), fun i hi => U i 32 8 _ hi (by omega) ?_, tnF (j := 40) ht (by omega)⟩
  all_goals
    intro j h1 h2
    unfold tauT
    (repeat' split) <;> first | rfl | omega
/-! the town as numbers: PERSONS, COATS, ERRANDS, owners, WARMTH, ERRANDS' rows, what is CUT, FROST, likes -/
abbrev TS : Type := Nat × Nat × Nat × (Nat → Nat → Nat) × (Nat → Nat) × (Nat → Nat → Nat) × Nat × Nat × (Nat → Nat → Nat)
abbrev sP (S : TS) : Nat := S.1
abbrev sC (S : TS) : Nat := S.2.1
abbrev sE (S : TS) : Nat := S.2.2.1
abbrev sO (S : TS) : Nat → Nat → Nat := S.2.2.2.1
abbrev sW (S : TS) : Nat → Nat := S.2.2.2.2.1
abbrev sR (S : TS) : Nat → Nat → Nat := S.2.2.2.2.2.1
abbrev sK (S : TS) : Nat := S.2.2.2.2.2.2.1
abbrev sF (S : TS) : Nat := S.2.2.2.2.2.2.2.1
abbrev sL (S : TS) : Nat → Nat → Nat := S.2.2.2.2.2.2.2.2
/-- what every town keeps -/
def sB (S : TS) : Prop := sP S ≤ 8 ∧ sC S ≤ 8 ∧ sE S ≤ 10 ∧ (∀ c, c < sC S → sO S c 0 < sP S ∧ sO S c 1 < sP S ∧ sO S c 0 ≠ sO S c 1 ∧ 1 ≤ sW S c ∧ sW S c ≤ 99) ∧
  (∀ e, e < sE S → sR S e 0 < sP S ∧ sR S e 1 < 6 ∧ sR S e 2 ≤ sR S e 3 ∧ sR S e 3 < 24) ∧ sK S < 2 ^ sC S ∧ sF S ≤ 99 ∧ (∀ p q, p < sP S → q < sP S → sL S p q ≤ 99)
/-- the reference's cells hold it -/
def mV (h : PH) (S : TS) : Prop := h 217 0 = (sP S : Int) ∧ h 217 1 = (sC S : Int) ∧ h 217 2 = (sE S : Int) ∧ (∀ c, c < sC S → h 206 c = (sO S c 0 : Int) ∧ h 206 (8 + c) = (sO S c 1 : Int) ∧ h 210 c = (sW S c : Int)) ∧
  (∀ e, e < sE S → h 211 e = (sR S e 0 : Int) ∧ h 212 e = (sR S e 1 : Int) ∧ h 213 e = (sR S e 2 : Int) ∧ h 214 e = (sR S e 3 : Int)) ∧ h 206 16 = (sK S : Int) ∧ h 206 17 = (sF S : Int) ∧ (∀ p q, p < sP S → q < sP S → h 215 (8 * p + q) = (sL S p q : Int))
theorem mV_of {h h' : PH} {S : TS} (V : mV h S) (e : ∀ a, a = 206 ∨ a = 210 ∨ a = 211 ∨ a = 212 ∨ a = 213 ∨ a = 214 ∨ a = 215 ∨ a = 217 → h' a = h a) : mV h' S := by
  unfold mV
  rw [e 206 (by omega), e 210 (by omega), e 211 (by omega), e 212 (by omega), e 213 (by omega), e 214 (by omega), e 215 (by omega), e 217 (by omega)]
  exact V
