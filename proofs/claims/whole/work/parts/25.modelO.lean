theorem zL_add (a b : Int) : zL a + zL b = zL (a + b) := (Int64.ofInt_add a b).symm
theorem zL_mul (a b : Int) : zL a * zL b = zL (a * b) := (Int64.ofInt_mul a b).symm
theorem zL_sub (a b : Int) : zL a - zL b = zL (a - b) := (Int64.ofInt_sub a b).symm
theorem zL_div {a b : Int} (ha : rL a) (hb : rL b) : zL a / zL b = zL (a.tdiv b) := (Int64.ofInt_tdiv (show (-9223372036854775808 : Int) ≤ a from ha.1) (show a ≤ 9223372036854775807 by have := ha.2; omega) (show (-9223372036854775808 : Int) ≤ b from hb.1) (show b ≤ 9223372036854775807 by have := hb.2; omega)).symm
theorem zL_rem {a b : Int} (ha : rL a) (hb : rL b) : zL a - zL a / zL b * zL b = zL (a.tmod b) := by
  rw [zL_div ha hb, zL_mul, zL_sub, Int.tmod_def, Int.mul_comm]
section LZ2
variable {g : EG} {d : Nat} {M : MM} {pc : Nat} {lv : List (Nat × Value)} {st : List Value} {τ : List Kd} {h : PH} {Q : EQ}
theorem eR_laddz {a b : Int} (hd : decode M.2.1 pc = .ok (.ladd, 1)) (k : eX g d M (pc + 1) lv (.long (zL (a + b)) :: st) τ h Q) : eX g d M pc lv (.long (zL b) :: .long (zL a) :: st) τ h Q := eR_ladd hd (by rw [zL_add]; exact k)
theorem eR_lmulz {a b : Int} (hd : decode M.2.1 pc = .ok (.lmul, 1)) (k : eX g d M (pc + 1) lv (.long (zL (a * b)) :: st) τ h Q) : eX g d M pc lv (.long (zL b) :: .long (zL a) :: st) τ h Q := eR_lmul hd (by rw [zL_mul]; exact k)
theorem eR_lremz {a b : Int} (hd : decode M.2.1 pc = .ok (.lrem, 1)) (ha : rL a) (hb : rL b) (h0 : ¬ zL b = 0) (k : eX g d M (pc + 1) lv (.long (zL (Int.tmod a b)) :: st) τ h Q) : eX g d M pc lv (.long (zL b) :: .long (zL a) :: st) τ h Q := eR_lrem hd h0 (by rw [zL_rem ha hb]; exact k)
theorem eR_ldivz {a b : Int} (hd : decode M.2.1 pc = .ok (.ldiv, 1)) (ha : rL a) (hb : rL b) (h0 : ¬ zL b = 0) (k : eX g d M (pc + 1) lv (.long (zL (Int.tdiv a b)) :: st) τ h Q) : eX g d M pc lv (.long (zL b) :: .long (zL a) :: st) τ h Q := eR_ldiv hd h0 (by rw [zL_div ha hb]; exact k)
theorem eR_l2iz {a : Int} (hd : decode M.2.1 pc = .ok (.l2i, 1)) (k : eX g d M (pc + 1) lv (.int (zI a) :: st) τ h Q) : eX g d M pc lv (.long (zL a) :: st) τ h Q := eR_l2i hd (by rw [show (zL a).toInt32 = zI a from Int64.toInt32_ofInt]; exact k)
end LZ2
/-- a DRAW: THE SEED becomes this -/
def nxS (x : Nat) : Nat := (x * 1103515245 + 12345) % 2147483648
def drN (x n : Nat) : Nat := nxS x / 65536 % n
theorem nxS_lt (x : Nat) : nxS x < 2147483648 := Nat.mod_lt _ (by decide)
section M25
variable {g : EG} {d t s : Nat} {h h1 : PH} {Q : EQ} {S : TS}
theorem sp_draw {x n : Nat} (hx : h 206 18 = (x : Int)) (hx1 : x < 2147483648) (hn : 0 < n) (hn1 : n < 1000) (k : Q (.int (zI ↑(drN x n))) (tau t s) (hU h 206 18 ↑(nxS x))) : eX g 0 mX9_draw 0 (lv_args 0 [.ref (gA g 205), .int (zI ↑n)]) [] (tau t s) h Q := by
  show eX g 0 mX9_draw 0 [(0, .ref (gA g 205)), (1, .int (zI ↑n))] [] (tau t s) h Q
  have hl9 := nxS_lt x
  refine eR_aldn_0 dX9_draw_0 rfl ?_
  refine eR_getR (i := 206) dX9_draw_1 gf_X9_7 th_205 rfl ?_
  refine eR_bi (z := 18) dX9_draw_4 rfl ?_
  refine eR_aldn_0 dX9_draw_6 rfl ?_
  refine eR_getR (i := 206) dX9_draw_7 gf_X9_7 th_205 rfl ?_
  refine eR_bi (z := 18) dX9_draw_10 rfl ?_
  refine eR_iald (n := 18) dX9_draw_12 th_206 (rfl) (by decide) (by decide) ?_
  refine eX_pcI (hx) ?_
  refine eR_i2lz dX9_draw_13 (by first | exact rg_b01 _ | (unfold rg; omega)) ?_
  refine eR_ldc2 (z := 1103515245) dX9_draw_14 kw_1250 (by decide) ?_
  refine eR_lmulz dX9_draw_17 ?_
  refine eR_ldc2 (z := 12345) dX9_draw_18 kw_1251 (by decide) ?_
  refine eR_laddz dX9_draw_21 ?_
  refine eR_ldc2 (z := 2147483648) dX9_draw_22 kw_1252 (by decide) ?_
  refine eR_lremz dX9_draw_25 (by unfold rL; omega) (by unfold rL; omega) (by decide) ?_
  refine eX_pcL (show (Int.tmod ((↑x * 1103515245) + 12345) 2147483648 : Int) = ↑(nxS x) from by show Int.tmod _ _ = ((nxS x : Nat) : Int); rw [show ((x : Int) * 1103515245 + 12345) = ((x * 1103515245 + 12345 : Nat) : Int) from by omega]; rfl) ?_
  refine eR_l2iz dX9_draw_26 ?_
  refine eR_iast (n := 18) dX9_draw_27 th_206 (rfl) (by decide) (by decide) ?_
  refine eR_aldn_0 dX9_draw_28 rfl ?_
  refine eR_getR (i := 206) dX9_draw_29 gf_X9_7 th_205 rfl ?_
  refine eR_bi (z := 18) dX9_draw_32 rfl ?_
  refine eR_iald (n := 18) dX9_draw_34 th_206 (rfl) (by decide) (by decide) ?_
  refine eX_pcI (hU_s _ _ _ _) ?_
  refine eR_ldcw (z := 65536) dX9_draw_35 kw_1253 (by decide) ?_
  refine eR_idiv dX9_draw_38 (by first | exact rg_b01 _ | (unfold rg; omega)) (by first | exact rg_b01 _ | (unfold rg; omega)) (by omega) ?_
  refine eX_pcI (show (Int.tdiv ↑(nxS x) 65536 : Int) = ↑(nxS x / 65536 : Nat) from rfl) ?_
  refine eR_ildn_1 dX9_draw_39 rfl ?_
  refine eR_irem dX9_draw_40 (by first | exact rg_b01 _ | (unfold rg; omega)) (by first | exact rg_b01 _ | (unfold rg; omega)) (by omega) ?_
  refine eX_pcI (show (Int.tmod ↑(nxS x / 65536 : Nat) ↑n : Int) = ↑(drN x n) from rfl) ?_
  refine eR_iret dX9_draw_41 rfl rfl ?_
  exact k
theorem lp_copy {x y : Nat} (hx : x + 20 ≤ 80) (hy : y + 20 ≤ 80) (hxy : x + 20 ≤ y ∨ y + 20 ≤ x) (k : ∀ h1 : PH, ofO 206 h h1 → (∀ j, j < 20 → h1 206 (y + j) = h 206 (x + j)) → (∀ j, (j < y ∨ y + 20 ≤ j) → h1 206 j = h 206 j) → Q .null (tau t s) h1) : ∀ n i : Nat, i + n = 20 → ∀ h1 : PH, ofO 206 h h1 → (∀ j, j < i → h1 206 (y + j) = h 206 (x + j)) → (∀ j, (j < y ∨ y + i ≤ j) → h1 206 j = h 206 j) → eX g 0 mX9_copy 2 [(0, .ref (gA g 205)), (1, .int (zI ↑x)), (2, .int (zI ↑y)), (3, .int (zI ↑i))] [] (tau t s) h1 Q := by
  intro n
  induction n with
  | zero =>
    intro i hi h1 hO hd ho
    refine eR_ildn_3 dX9_copy_2 rfl ?_
    refine eR_bi (z := 20) dX9_copy_3 rfl ?_
    refine eR_icmp_ge (tgt := 30) dX9_copy_5 (by decide) (by first | exact rg_b01 _ | (unfold rg; omega)) (by first | exact rg_b01 _ | (unfold rg; omega)) (fun c5 => ?_) (fun c5 => absurd c5 (by omega))
    refine eR_vret dX9_copy_30 rfl ?_
    have e9 : i = 20 := by omega
    subst e9
    exact k h1 hO hd ho
  | succ n ih =>
    intro i hi h1 hO hd ho
    refine eR_ildn_3 dX9_copy_2 rfl ?_
    refine eR_bi (z := 20) dX9_copy_3 rfl ?_
    refine eR_icmp_ge (tgt := 30) dX9_copy_5 (by decide) (by first | exact rg_b01 _ | (unfold rg; omega)) (by first | exact rg_b01 _ | (unfold rg; omega)) (fun c5 => absurd c5 (by omega)) (fun c5 => ?_)
    refine eR_aldn_0 dX9_copy_8 rfl ?_
    refine eR_getR (i := 206) dX9_copy_9 gf_X9_7 th_205 rfl ?_
    refine eR_ildn_2 dX9_copy_12 rfl ?_
    refine eR_ildn_3 dX9_copy_13 rfl ?_
    refine eR_iadd dX9_copy_14 ?_
    refine eR_aldn_0 dX9_copy_15 rfl ?_
    refine eR_getR (i := 206) dX9_copy_16 gf_X9_7 th_205 rfl ?_
    refine eR_ildn_1 dX9_copy_19 rfl ?_
    refine eR_ildn_3 dX9_copy_20 rfl ?_
    refine eR_iadd dX9_copy_21 ?_
    refine eR_iald (n := x + i) dX9_copy_22 th_206 (by omega) (by omega) (by decide) ?_
    refine eR_iast (n := y + i) dX9_copy_23 th_206 (by omega) (by omega) (by decide) ?_
    refine eR_iinc_3 dX9_copy_24 (by decide) rfl ?_
    refine eR_goto (tgt := 2) dX9_copy_27 (by decide) ?_
    refine ih (i + 1) (by omega) _ (ofO_w hO) ?_ ?_
    · intro j hj
      by_cases hji : j = i
      · subst hji
        rw [hU_s]
        exact ho _ (by omega)
      · rw [hU_i _ _ _ (by omega)]
        exact hd j (by omega)
    · intro j hj
      rw [hU_i _ _ _ (by omega)]
      exact ho j (by omega)
theorem sp_copy {x y : Nat} (hx : x + 20 ≤ 80) (hy : y + 20 ≤ 80) (hxy : x + 20 ≤ y ∨ y + 20 ≤ x) (k : ∀ h1 : PH, ofO 206 h h1 → (∀ j, j < 20 → h1 206 (y + j) = h 206 (x + j)) → (∀ j, (j < y ∨ y + 20 ≤ j) → h1 206 j = h 206 j) → Q .null (tau t s) h1) : eX g 0 mX9_copy 0 (lv_args 0 [.ref (gA g 205), .int (zI ↑x), .int (zI ↑y)]) [] (tau t s) h Q := by
  show eX g 0 mX9_copy 0 [(0, .ref (gA g 205)), (1, .int (zI ↑x)), (2, .int (zI ↑y))] [] (tau t s) h Q
  refine eR_ic dX9_copy_0 ?_
  refine eR_istn_n3 dX9_copy_1 rfl (by decide) rfl ?_
  exact lp_copy hx hy hxy k 20 0 (by omega) h (ofO_rf _ _) (fun j hj => absurd hj (Nat.not_lt_zero j)) (fun _ _ => rfl)
end M25
