theorem b01_eq0 {p : Prop} [Decidable p] : b01 p = 0 ↔ ¬ p := by unfold b01; split <;> simp_all
theorem b01_ne0 {p : Prop} [Decidable p] : b01 p ≠ 0 ↔ p := by unfold b01; split <;> simp_all
theorem rg_b01 (p : Prop) [Decidable p] : rg (b01 p) := by unfold b01 rg; split <;> omega
theorem b01_01 (p : Prop) [Decidable p] : b01 p = 0 ∨ b01 p = 1 := by unfold b01; split <;> simp
theorem b01_t {p : Prop} [Decidable p] (h : p) : b01 p = 1 := if_pos h
theorem b01_f {p : Prop} [Decidable p] (h : ¬ p) : b01 p = 0 := if_neg h
theorem zCmp_ge {a b : Int} : 0 ≤ zCmp a b ↔ b ≤ a := by unfold zCmp; split <;> (try split) <;> omega
theorem zCmp_le {a b : Int} : zCmp a b ≤ 0 ↔ a ≤ b := by unfold zCmp; split <;> (try split) <;> omega
section M11
variable {g : EG} {d t s : Nat} {h : PH} {Q : EQ} {τ : List Kd} {S : TS}
theorem sp_in {a b c : Int} (ha : rL a) (hb : rL b) (hc : rL c) (k : Q (.int (zI (b01 (b ≤ a ∧ a ≤ c)))) τ h) : eX g d mX9_in 0 (lv_args 0 [.long (zL a), .long (zL b), .long (zL c)]) [] τ h Q := by
  show eX g d mX9_in 0 [(0, .long (zL a)), (2, .long (zL b)), (4, .long (zL c))] [] τ h Q
  refine eR_lldn_0 dX9_in_0 rfl ?_
  refine eR_lldn_1 dX9_in_1 rfl ?_
  refine eR_lcmpz dX9_in_2 (by assumption) (by assumption) ?_
  refine eR_if_lt (tgt := 17) dX9_in_3 (by decide) (zCmp_rg _ _) (fun c3 => ?_) (fun c3 => ?_)
  · replace c3 := zCmp_lt.mp c3
    refine eR_ic dX9_in_17 ?_
    refine eR_zret dX9_in_18 rfl (by omega) ?_
    rw [show (b01 (b ≤ a ∧ a ≤ c) : Int) = 0 from by first | exact b01_t (by omega) | exact b01_f (by omega)] at k; exact k
  · replace c3 := zCmp_ge.mp c3
    refine eR_lldn_0 dX9_in_6 rfl ?_
    refine eR_lld_2 dX9_in_7 ?_
    refine eR_lcmpz dX9_in_9 (by assumption) (by assumption) ?_
    refine eR_if_gt (tgt := 17) dX9_in_10 (by decide) (zCmp_rg _ _) (fun c10 => ?_) (fun c10 => ?_)
    · replace c10 := zCmp_gt.mp c10
      refine eR_ic dX9_in_17 ?_
      refine eR_zret dX9_in_18 rfl (by omega) ?_
      rw [show (b01 (b ≤ a ∧ a ≤ c) : Int) = 0 from by first | exact b01_t (by omega) | exact b01_f (by omega)] at k; exact k
    · replace c10 := zCmp_le.mp c10
      refine eR_ic dX9_in_13 ?_
      refine eR_goto (tgt := 18) dX9_in_14 (by decide) ?_
      refine eR_zret dX9_in_18 rfl (by omega) ?_
      rw [show (b01 (b ≤ a ∧ a ≤ c) : Int) = 1 from by first | exact b01_t (by omega) | exact b01_f (by omega)] at k; exact k
theorem sp_one {z : Int} (hz : z = 0 ∨ z = 1) (k : Q (.int (zI z)) τ h) : eX g d mX9_one 0 (lv_args 0 [.int (zI z)]) [] τ h Q := by
  show eX g d mX9_one 0 [(0, .int (zI z))] [] τ h Q
  refine eR_ildn_0 dX9_one_0 rfl ?_
  refine eR_if_eq (tgt := 8) dX9_one_1 (by decide) (by first | exact rg_b01 _ | (unfold rg; omega)) (fun c1 => ?_) (fun c1 => ?_)
  · refine eR_ic dX9_one_8 ?_
    refine eR_iret dX9_one_9 rfl rfl ?_
    rw [show (z : Int) = 0 from by omega] at k; exact k
  · refine eR_ic dX9_one_4 ?_
    refine eR_goto (tgt := 9) dX9_one_5 (by decide) ?_
    refine eR_iret dX9_one_9 rfl rfl ?_
    rw [show (z : Int) = 1 from by omega] at k; exact k
theorem sp_has {n k : Nat} (hn : n < 2147483648) (hk : k < 31) (kk : Q (.int (zI (b01 (n.testBit k = true)))) τ h) : eX g d mX9_has 0 (lv_args 0 [.int (zI ↑n), .int (zI ↑k)]) [] τ h Q := by
  show eX g d mX9_has 0 [(0, .int (zI ↑n)), (1, .int (zI ↑k))] [] τ h Q
  have e0 := zBit_nat (a := n) (k := k) (by omega) hn
  refine eR_ildn_0 dX9_has_0 rfl ?_
  refine eR_ildn_1 dX9_has_1 rfl ?_
  refine eR_ishr dX9_has_2 ?_
  refine eR_ic dX9_has_3 ?_
  refine eR_iand dX9_has_4 ?_
  refine eR_ic dX9_has_5 ?_
  refine eR_icmp_ne (tgt := 13) dX9_has_6 (by decide) (by first | (rw [e0]; split <;> (unfold rg; omega)) | (unfold rg; omega)) (by first | (rw [e0]; split <;> (unfold rg; omega)) | (unfold rg; omega)) (fun c6 => ?_) (fun c6 => ?_)
  · refine eR_ic dX9_has_13 ?_
    refine eR_zret dX9_has_14 rfl (by omega) ?_
    rw [show (b01 (n.testBit k = true) : Int) = 0 from by first | exact b01_t (by rcases Bool.eq_false_or_eq_true (n.testBit k) with q | q <;> simp_all) | exact b01_f (by rcases Bool.eq_false_or_eq_true (n.testBit k) with q | q <;> simp_all)] at kk; exact kk
  · refine eR_ic dX9_has_9 ?_
    refine eR_goto (tgt := 14) dX9_has_10 (by decide) ?_
    refine eR_zret dX9_has_14 rfl (by omega) ?_
    rw [show (b01 (n.testBit k = true) : Int) = 1 from by first | exact b01_t (by rcases Bool.eq_false_or_eq_true (n.testBit k) with q | q <;> simp_all) | exact b01_f (by rcases Bool.eq_false_or_eq_true (n.testBit k) with q | q <;> simp_all)] at kk; exact kk
end M11
