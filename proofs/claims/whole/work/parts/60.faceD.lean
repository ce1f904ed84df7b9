/-- who is dressed by the entries ahead, in that HOUR -/
def drK (S : TS) (bk : Nat → Nat → Nat) (i : Nat) : Nat → Nat
  | 0 => 0
  | k + 1 => if bk k 0 = bk i 0 then drK S bk i k ||| clS S (bk k 1) (bk k 2) else drK S bk i k
theorem or_z {a b c : Nat} : a &&& (b ||| c) = 0 ↔ a &&& b = 0 ∧ a &&& c = 0 := by
  rw [and_z, and_z, and_z]
  constructor
  · intro h
    refine ⟨fun i hi => ?_, fun i hi => ?_⟩
    · have := h i hi; rw [Nat.testBit_or, Bool.or_eq_false_iff] at this; exact this.1
    · have := h i hi; rw [Nat.testBit_or, Bool.or_eq_false_iff] at this; exact this.2
  · rintro ⟨h1, h2⟩ i hi
    rw [Nat.testBit_or, h1 i hi, h2 i hi]; rfl
theorem drK_z {S : TS} {bk : Nat → Nat → Nat} {i a : Nat} : ∀ n, a &&& drK S bk i n = 0 ↔ ∀ k, k < n → bk k 0 = bk i 0 → clS S (bk k 1) (bk k 2) &&& a = 0 := by
  intro n
  induction n with
  | zero => exact ⟨fun _ k hk => absurd hk (Nat.not_lt_zero k), fun _ => by simp [drK]⟩
  | succ n ih =>
    unfold drK
    by_cases h : bk n 0 = bk i 0
    · rw [if_pos h, or_z, ih]
      constructor
      · rintro ⟨h1, h2⟩ k hk hk2
        by_cases hkn : k = n
        · subst hkn; rw [Nat.and_comm]; exact h2
        · exact h1 k (by omega) hk2
      · intro h1
        exact ⟨fun k hk hk2 => h1 k (by omega) hk2, by rw [Nat.and_comm]; exact h1 n (by omega) h⟩
    · rw [if_neg h, ih]
      constructor
      · intro h1 k hk hk2
        by_cases hkn : k = n
        · subst hkn; exact absurd hk2 h
        · exact h1 k (by omega) hk2
      · intro h1 k hk hk2; exact h1 k (by omega) hk2
theorem jdB_ex {S : TS} {bk : Nat → Nat → Nat} {i : Nat} : ∀ n, jdB S bk i n = true ↔ ∃ k, k < n ∧ bk k 0 = bk i 0 ∧ (bk k 1 = bk i 1 ∨ clS S (bk k 1) (bk k 2) &&& clS S (bk i 1) (bk i 2) ≠ 0) := by
  intro n
  induction n with
  | zero => simp [jdB]
  | succ n ih =>
    unfold jdB
    rw [Bool.or_eq_true, ih]
    unfold bdK
    rw [Bool.and_eq_true, Bool.or_eq_true, decide_eq_true_eq, decide_eq_true_eq, decide_eq_true_eq]
    constructor
    · rintro (⟨k, h1, h2⟩ | h)
      · exact ⟨k, by omega, h2⟩
      · exact ⟨n, by omega, h⟩
    · rintro ⟨k, h1, h2⟩
      by_cases hkn : k = n
      · subst hkn; right; exact h2
      · left; exact ⟨k, by omega, h2⟩
theorem elsB_ex {sg : Nat → Nat → Nat} {i : Nat} : ∀ n, elsB sg i n = true ↔ ∃ k, k < n ∧ sg k 0 = sg i 0 ∧ sg k 2 = sg i 2 ∧ sg k 1 ≠ sg i 1 := by
  intro n
  induction n with
  | zero => simp [elsB]
  | succ n ih =>
    unfold elsB
    rw [Bool.or_eq_true, ih, Bool.and_eq_true, Bool.and_eq_true, decide_eq_true_eq, decide_eq_true_eq, decide_eq_true_eq]
    constructor
    · rintro (⟨k, h1, h2⟩ | ⟨⟨h1, h2⟩, h3⟩)
      · exact ⟨k, by omega, h2⟩
      · exact ⟨n, by omega, h1, h2, h3⟩
    · rintro ⟨k, h1, h2⟩
      by_cases hkn : k = n
      · subst hkn; right; exact ⟨⟨h2.1, h2.2.1⟩, h2.2.2⟩
      · left; exact ⟨k, by omega, h2⟩
theorem drK_lt {S : TS} (B : sB S) {bk : Nat → Nat → Nat} {n i : Nat} (G : bkB S n bk) : ∀ k, k ≤ n → drK S bk i k < 256 := by
  intro k
  induction k with
  | zero => intro _; exact (by decide : (0 : Nat) < 256)
  | succ k ih =>
    intro hk
    have h1 := clS_lt B (G.2 k (by omega)).2.1 (bk k 2)
    unfold drK
    split
    · exact Nat.or_lt_two_pow (n := 8) (ih (by omega)) h1
    · exact ih (by omega)
/-- an image in the class's cells: what it keeps -/
def imC (h : PH) (S : TS) (b : Nat) (S2 : TS) (y : Nat) : Prop := smT S S2 ∧ h b 1 = (y : Int) ∧ h b 2 = (sF S2 : Int) ∧ h b 3 = (sK S2 : Int) ∧ ∀ c k, c < sC S → k < 2 → h (b + 2 + c) k = (sO S2 c k : Int)
section M60
variable {g : EG} {d t s u : Nat} {h h1 : PH} {Q : EQ} {S : TS}
theorem ct_see (T : isTn (tau t s) t) (B : sB S) (V : cV h t S) (h38 : 38 ≤ t) {c : Int} (hr_c : rg c) {at1 : Int} (hr_at1 : rg at1) {hour : Int} (hr_hour : rg hour) {n : Nat} (hn : h 38 1 = (n : Int)) (hn30 : n ≤ 30) (k0 : ¬ okSee S n c at1 hour → Q (.int (zI (rSee S n c at1 hour))) (tau t s) h) (k1 : okSee S n c at1 hour → Q (.int (zI (rSee S n c at1 hour))) (tau t s) (hU (hU (hU (hU h (40 + n) 0 hour) (40 + n) 1 c) (40 + n) 2 at1) 38 1 (↑n + 1))) : eX g 1 mX8_see 0 (lv_args 0 [.ref (gA g 0), .int (zI c), .int (zI at1), .int (zI hour)]) [] (tau t s) h Q := by
  show eX g 1 mX8_see 0 [(0, .ref (gA g 0)), (1, .int (zI c)), (2, .int (zI at1)), (3, .int (zI hour))] [] (tau t s) h Q
  have hP8 := B.1
  have hC8 := B.2.1
  have hE10 := B.2.2.1
  have hF99 := B.2.2.2.2.2.2.1
  by_cases hq1 : 0 ≤ c ∧ c ≤ ↑(sC S) - 1
  · obtain ⟨cn, rfl⟩ : ∃ cn : Nat, c = (cn : Int) := ⟨c.toNat, by omega⟩
    by_cases hq2 : 0 ≤ at1 ∧ at1 ≤ 5
    · obtain ⟨an, rfl⟩ : ∃ an : Nat, at1 = (an : Int) := ⟨at1.toNat, by omega⟩
      by_cases hq3 : 0 ≤ hour ∧ hour ≤ 23
      · obtain ⟨hn9, rfl⟩ : ∃ hn9 : Nat, hour = (hn9 : Int) := ⟨hour.toNat, by omega⟩
        refine eR_aldn_0 dX8_see_0 rfl ?_
        refine eR_getR (i := t) dX8_see_1 gf_X8_57 th_0 rfl ?_
        refine eR_ildn_1 dX8_see_4 rfl ?_
        refine eR_callVi [_] rfl dX8_see_5 ok_mX6_hasCoat kw_608 rfl rfl T.1 rfl (Nat.le_of_ble_eq_true rfl) (d' := 0) (by decide) (Nat.le_of_ble_eq_true rfl) ?_
        refine tn_hasCoat T B V (by first | assumption | (unfold rg; omega)) ?_
        refine eR_if_ne (tgt := 14) dX8_see_8 (by decide) (by first | assumption | exact rg_b01 _ | (unfold rg; omega) | (unfold rg at *; omega)) (fun c8 => ?_) (fun c8 => absurd c8 (by first | simp [b01, hq1] | (rw [b01_t hq1]; decide)))
        refine eR_ildn_2 dX8_see_14 rfl ?_
        refine eR_if_lt (tgt := 31) dX8_see_15 (by decide) (by first | assumption | exact rg_b01 _ | (unfold rg; omega) | (unfold rg at *; omega)) (fun c15 => ?_) (fun c15 => ?_)
        · refine eR_ldc (z := -1000000002) dX8_see_31 kw_349 (by decide) ?_
          refine eR_iret dX8_see_33 rfl rfl ?_
          have k9 := k0 (by rintro ⟨q1, q2, q3, q4⟩; first | contradiction | omega)
          rw [show (rSee S n ↑cn ↑an ↑hn9 : Int) = (-1000000002) from by unfold rSee; (repeat' split) <;> first | omega | rfl] at k9
          exact k9
        · refine eR_ildn_2 dX8_see_18 rfl ?_
          refine eR_bi (z := 6) dX8_see_19 rfl ?_
          refine eR_icmp_ge (tgt := 31) dX8_see_21 (by decide) (by first | assumption | exact rg_b01 _ | (unfold rg; omega) | (unfold rg at *; omega)) (by first | assumption | exact rg_b01 _ | (unfold rg; omega) | (unfold rg at *; omega)) (fun c21 => ?_) (fun c21 => ?_)
          · refine eR_ldc (z := -1000000002) dX8_see_31 kw_349 (by decide) ?_
            refine eR_iret dX8_see_33 rfl rfl ?_
            have k9 := k0 (by rintro ⟨q1, q2, q3, q4⟩; first | contradiction | omega)
            rw [show (rSee S n ↑cn ↑an ↑hn9 : Int) = (-1000000002) from by unfold rSee; (repeat' split) <;> first | omega | rfl] at k9
            exact k9
          · refine eR_ildn_3 dX8_see_24 rfl ?_
            refine eR_callSi [_] rfl dX8_see_25 ok_mX8_isHour kw_626 rfl rfl (Nat.le_of_ble_eq_true rfl) (d' := 0) (by decide) (Nat.le_of_ble_eq_true rfl) ?_
            refine ct_isHour (by first | assumption | exact rg_b01 _ | (unfold rg; omega) | (unfold rg at *; omega)) ?_
            refine eR_if_ne (tgt := 34) dX8_see_28 (by decide) (by first | assumption | exact rg_b01 _ | (unfold rg; omega) | (unfold rg at *; omega)) (fun c28 => ?_) (fun c28 => absurd c28 (by first | simp [b01, hq3] | (rw [b01_t hq3]; decide)))
            refine eR_aldn_0 dX8_see_34 rfl ?_
            refine eR_getR (i := 38) dX8_see_35 gf_X8_40 th_0 rfl ?_
            refine eR_ildn_3 dX8_see_38 rfl ?_
            refine eR_ildn_1 dX8_see_39 rfl ?_
            refine eR_ildn_2 dX8_see_40 rfl ?_
            refine eR_callVi [_, _, _] rfl dX8_see_41 ok_mX5_append kw_772 rfl rfl th_38 rfl (Nat.le_of_ble_eq_true rfl) (d' := 0) (by decide) (Nat.le_of_ble_eq_true rfl) ?_
            refine rw_append_sg (n := n) hn hn30 (fun hnn => ?_) (fun hnn => ?_)
            · refine eR_iret dX8_see_44 rfl rfl ?_
              have k9 := k0 (by rintro ⟨q1, q2, q3, q4⟩; first | contradiction | omega)
              rw [show (rSee S n ↑cn ↑an ↑hn9 : Int) = (-1000000004) from by unfold rSee; (repeat' split) <;> first | omega | rfl] at k9
              exact k9
            · refine eR_iret dX8_see_44 rfl rfl ?_
              have k9 := k1 ⟨hq1, hq2, hq3, by omega⟩
              rw [show (rSee S n ↑cn ↑an ↑hn9 : Int) = ↑n + 1 from by unfold rSee; (repeat' split) <;> first | omega | rfl] at k9
              exact k9
      · refine eR_aldn_0 dX8_see_0 rfl ?_
        refine eR_getR (i := t) dX8_see_1 gf_X8_57 th_0 rfl ?_
        refine eR_ildn_1 dX8_see_4 rfl ?_
        refine eR_callVi [_] rfl dX8_see_5 ok_mX6_hasCoat kw_608 rfl rfl T.1 rfl (Nat.le_of_ble_eq_true rfl) (d' := 0) (by decide) (Nat.le_of_ble_eq_true rfl) ?_
        refine tn_hasCoat T B V (by first | assumption | (unfold rg; omega)) ?_
        refine eR_if_ne (tgt := 14) dX8_see_8 (by decide) (by first | assumption | exact rg_b01 _ | (unfold rg; omega) | (unfold rg at *; omega)) (fun c8 => ?_) (fun c8 => absurd c8 (by first | simp [b01, hq1] | (rw [b01_t hq1]; decide)))
        refine eR_ildn_2 dX8_see_14 rfl ?_
        refine eR_if_lt (tgt := 31) dX8_see_15 (by decide) (by first | assumption | exact rg_b01 _ | (unfold rg; omega) | (unfold rg at *; omega)) (fun c15 => ?_) (fun c15 => ?_)
        · refine eR_ldc (z := -1000000002) dX8_see_31 kw_349 (by decide) ?_
          refine eR_iret dX8_see_33 rfl rfl ?_
          have k9 := k0 (by rintro ⟨q1, q2, q3, q4⟩; first | contradiction | omega)
          rw [show (rSee S n ↑cn ↑an hour : Int) = (-1000000002) from by unfold rSee; (repeat' split) <;> first | omega | rfl] at k9
          exact k9
        · refine eR_ildn_2 dX8_see_18 rfl ?_
          refine eR_bi (z := 6) dX8_see_19 rfl ?_
          refine eR_icmp_ge (tgt := 31) dX8_see_21 (by decide) (by first | assumption | exact rg_b01 _ | (unfold rg; omega) | (unfold rg at *; omega)) (by first | assumption | exact rg_b01 _ | (unfold rg; omega) | (unfold rg at *; omega)) (fun c21 => ?_) (fun c21 => ?_)
          · refine eR_ldc (z := -1000000002) dX8_see_31 kw_349 (by decide) ?_
            refine eR_iret dX8_see_33 rfl rfl ?_
            have k9 := k0 (by rintro ⟨q1, q2, q3, q4⟩; first | contradiction | omega)
            rw [show (rSee S n ↑cn ↑an hour : Int) = (-1000000002) from by unfold rSee; (repeat' split) <;> first | omega | rfl] at k9
            exact k9
          · refine eR_ildn_3 dX8_see_24 rfl ?_
            refine eR_callSi [_] rfl dX8_see_25 ok_mX8_isHour kw_626 rfl rfl (Nat.le_of_ble_eq_true rfl) (d' := 0) (by decide) (Nat.le_of_ble_eq_true rfl) ?_
            refine ct_isHour (by first | assumption | exact rg_b01 _ | (unfold rg; omega) | (unfold rg at *; omega)) ?_
            refine eR_if_ne (tgt := 34) dX8_see_28 (by decide) (by first | assumption | exact rg_b01 _ | (unfold rg; omega) | (unfold rg at *; omega)) (fun c28 => absurd c28 (by first | (simp [b01, hq3]; done) | (rw [b01_f hq3]; decide))) (fun c28 => ?_)
            refine eR_ldc (z := -1000000002) dX8_see_31 kw_349 (by decide) ?_
            refine eR_iret dX8_see_33 rfl rfl ?_
            have k9 := k0 (by rintro ⟨q1, q2, q3, q4⟩; first | contradiction | omega)
            rw [show (rSee S n ↑cn ↑an hour : Int) = (-1000000002) from by unfold rSee; (repeat' split) <;> first | omega | rfl] at k9
            exact k9
    · refine eR_aldn_0 dX8_see_0 rfl ?_
      refine eR_getR (i := t) dX8_see_1 gf_X8_57 th_0 rfl ?_
      refine eR_ildn_1 dX8_see_4 rfl ?_
      refine eR_callVi [_] rfl dX8_see_5 ok_mX6_hasCoat kw_608 rfl rfl T.1 rfl (Nat.le_of_ble_eq_true rfl) (d' := 0) (by decide) (Nat.le_of_ble_eq_true rfl) ?_
      refine tn_hasCoat T B V (by first | assumption | (unfold rg; omega)) ?_
      refine eR_if_ne (tgt := 14) dX8_see_8 (by decide) (by first | assumption | exact rg_b01 _ | (unfold rg; omega) | (unfold rg at *; omega)) (fun c8 => ?_) (fun c8 => absurd c8 (by first | simp [b01, hq1] | (rw [b01_t hq1]; decide)))
      refine eR_ildn_2 dX8_see_14 rfl ?_
      refine eR_if_lt (tgt := 31) dX8_see_15 (by decide) (by first | assumption | exact rg_b01 _ | (unfold rg; omega) | (unfold rg at *; omega)) (fun c15 => ?_) (fun c15 => ?_)
      · refine eR_ldc (z := -1000000002) dX8_see_31 kw_349 (by decide) ?_
        refine eR_iret dX8_see_33 rfl rfl ?_
        have k9 := k0 (by rintro ⟨q1, q2, q3, q4⟩; first | contradiction | omega)
        rw [show (rSee S n ↑cn at1 hour : Int) = (-1000000002) from by unfold rSee; (repeat' split) <;> first | omega | rfl] at k9
        exact k9
      · refine eR_ildn_2 dX8_see_18 rfl ?_
        refine eR_bi (z := 6) dX8_see_19 rfl ?_
        refine eR_icmp_ge (tgt := 31) dX8_see_21 (by decide) (by first | assumption | exact rg_b01 _ | (unfold rg; omega) | (unfold rg at *; omega)) (by first | assumption | exact rg_b01 _ | (unfold rg; omega) | (unfold rg at *; omega)) (fun c21 => ?_) (fun c21 => ?_)
        · refine eR_ldc (z := -1000000002) dX8_see_31 kw_349 (by decide) ?_
          refine eR_iret dX8_see_33 rfl rfl ?_
          have k9 := k0 (by rintro ⟨q1, q2, q3, q4⟩; first | contradiction | omega)
          rw [show (rSee S n ↑cn at1 hour : Int) = (-1000000002) from by unfold rSee; (repeat' split) <;> first | omega | rfl] at k9
          exact k9
        · refine eR_ildn_3 dX8_see_24 rfl ?_
          refine eR_callSi [_] rfl dX8_see_25 ok_mX8_isHour kw_626 rfl rfl (Nat.le_of_ble_eq_true rfl) (d' := 0) (by decide) (Nat.le_of_ble_eq_true rfl) ?_
          refine ct_isHour (by first | assumption | exact rg_b01 _ | (unfold rg; omega) | (unfold rg at *; omega)) ?_
          refine eR_if_ne (tgt := 34) dX8_see_28 (by decide) (by first | assumption | exact rg_b01 _ | (unfold rg; omega) | (unfold rg at *; omega)) (fun c28 => ?_) (fun c28 => ?_)
          · replace c28 := b01_ne0.mp c28
            refine eR_aldn_0 dX8_see_34 rfl ?_
            refine eR_getR (i := 38) dX8_see_35 gf_X8_40 th_0 rfl ?_
            refine eR_ildn_3 dX8_see_38 rfl ?_
            refine eR_ildn_1 dX8_see_39 rfl ?_
            refine eR_ildn_2 dX8_see_40 rfl ?_
            refine eR_callVi [_, _, _] rfl dX8_see_41 ok_mX5_append kw_772 rfl rfl th_38 rfl (Nat.le_of_ble_eq_true rfl) (d' := 0) (by decide) (Nat.le_of_ble_eq_true rfl) ?_
            refine rw_append_sg (n := n) hn hn30 (fun hnn => ?_) (fun hnn => ?_)
            · refine eR_iret dX8_see_44 rfl rfl ?_
              have k9 := k0 (by rintro ⟨q1, q2, q3, q4⟩; first | contradiction | omega)
              rw [show (rSee S n ↑cn at1 hour : Int) = (-1000000004) from by unfold rSee; (repeat' split) <;> first | omega | rfl] at k9
              exact k9
            · refine eR_iret dX8_see_44 rfl rfl ?_
              exact absurd ⟨by omega, by omega⟩ hq2
          · replace c28 := b01_eq0.mp c28
            refine eR_ldc (z := -1000000002) dX8_see_31 kw_349 (by decide) ?_
            refine eR_iret dX8_see_33 rfl rfl ?_
            have k9 := k0 (by rintro ⟨q1, q2, q3, q4⟩; first | contradiction | omega)
            rw [show (rSee S n ↑cn at1 hour : Int) = (-1000000002) from by unfold rSee; (repeat' split) <;> first | omega | rfl] at k9
            exact k9
  · refine eR_aldn_0 dX8_see_0 rfl ?_
    refine eR_getR (i := t) dX8_see_1 gf_X8_57 th_0 rfl ?_
    refine eR_ildn_1 dX8_see_4 rfl ?_
    refine eR_callVi [_] rfl dX8_see_5 ok_mX6_hasCoat kw_608 rfl rfl T.1 rfl (Nat.le_of_ble_eq_true rfl) (d' := 0) (by decide) (Nat.le_of_ble_eq_true rfl) ?_
    refine tn_hasCoat T B V (by first | assumption | (unfold rg; omega)) ?_
    refine eR_if_ne (tgt := 14) dX8_see_8 (by decide) (by first | assumption | exact rg_b01 _ | (unfold rg; omega) | (unfold rg at *; omega)) (fun c8 => absurd c8 (by first | (simp [b01, hq1]; done) | (rw [b01_f hq1]; decide))) (fun c8 => ?_)
    refine eR_ldc (z := -1000000001) dX8_see_11 kw_612 (by decide) ?_
    refine eR_iret dX8_see_13 rfl rfl ?_
    have k9 := k0 (by rintro ⟨q1, q2, q3, q4⟩; first | contradiction | omega)
    rw [show (rSee S n c at1 hour : Int) = (-1000000001) from by unfold rSee; (repeat' split) <;> first | omega | rfl] at k9
    exact k9
theorem ct_write (T : isTn (tau t s) t) (B : sB S) (V : cV h t S) (h38 : 38 ≤ t) {hour : Int} (hr_hour : rg hour) {c : Int} (hr_c : rg c) {what : Int} (hr_what : rg what) {n : Nat} (hn : h 70 1 = (n : Int)) (hn30 : n ≤ 30) (k0 : ¬ okWrite S n hour c what → Q (.int (zI (rWrite S n hour c what))) (tau t s) h) (k1 : okWrite S n hour c what → Q (.int (zI (rWrite S n hour c what))) (tau t s) (hU (hU (hU (hU h (72 + n) 0 hour) (72 + n) 1 c) (72 + n) 2 what) 70 1 (↑n + 1))) : eX g 1 mX8_write 0 (lv_args 0 [.ref (gA g 0), .int (zI hour), .int (zI c), .int (zI what)]) [] (tau t s) h Q := by
  show eX g 1 mX8_write 0 [(0, .ref (gA g 0)), (1, .int (zI hour)), (2, .int (zI c)), (3, .int (zI what))] [] (tau t s) h Q
  have hP8 := B.1
  have hC8 := B.2.1
  have hE10 := B.2.2.1
  have hF99 := B.2.2.2.2.2.2.1
  by_cases hq1 : 0 ≤ c ∧ c ≤ ↑(sC S) - 1
  · obtain ⟨cn, rfl⟩ : ∃ cn : Nat, c = (cn : Int) := ⟨c.toNat, by omega⟩
    by_cases hq2 : 0 ≤ hour ∧ hour ≤ 23
    · obtain ⟨hn9, rfl⟩ : ∃ hn9 : Nat, hour = (hn9 : Int) := ⟨hour.toNat, by omega⟩
      by_cases hq3 : 0 ≤ what ∧ what ≤ 3
      · obtain ⟨wn, rfl⟩ : ∃ wn : Nat, what = (wn : Int) := ⟨what.toNat, by omega⟩
        refine eR_aldn_0 dX8_write_0 rfl ?_
        refine eR_getR (i := t) dX8_write_1 gf_X8_57 th_0 rfl ?_
        refine eR_ildn_2 dX8_write_4 rfl ?_
        refine eR_callVi [_] rfl dX8_write_5 ok_mX6_hasCoat kw_608 rfl rfl T.1 rfl (Nat.le_of_ble_eq_true rfl) (d' := 0) (by decide) (Nat.le_of_ble_eq_true rfl) ?_
        refine tn_hasCoat T B V (by first | assumption | (unfold rg; omega)) ?_
        refine eR_if_ne (tgt := 14) dX8_write_8 (by decide) (by first | assumption | exact rg_b01 _ | (unfold rg; omega) | (unfold rg at *; omega)) (fun c8 => ?_) (fun c8 => absurd c8 (by first | simp [b01, hq1] | (rw [b01_t hq1]; decide)))
        refine eR_ildn_1 dX8_write_14 rfl ?_
        refine eR_callSi [_] rfl dX8_write_15 ok_mX8_isHour kw_626 rfl rfl (Nat.le_of_ble_eq_true rfl) (d' := 0) (by decide) (Nat.le_of_ble_eq_true rfl) ?_
        refine ct_isHour (by first | assumption | exact rg_b01 _ | (unfold rg; omega) | (unfold rg at *; omega)) ?_
        refine eR_if_eq (tgt := 30) dX8_write_18 (by decide) (by first | assumption | exact rg_b01 _ | (unfold rg; omega) | (unfold rg at *; omega)) (fun c18 => absurd c18 (by first | simp [b01, hq2] | (rw [b01_t hq2]; decide))) (fun c18 => ?_)
        refine eR_ildn_3 dX8_write_21 rfl ?_
        refine eR_if_lt (tgt := 30) dX8_write_22 (by decide) (by first | assumption | exact rg_b01 _ | (unfold rg; omega) | (unfold rg at *; omega)) (fun c22 => ?_) (fun c22 => ?_)
        · refine eR_ldc (z := -1000000002) dX8_write_30 kw_349 (by decide) ?_
          refine eR_iret dX8_write_32 rfl rfl ?_
          have k9 := k0 (by rintro ⟨q1, q2, q3, q4⟩; first | contradiction | omega)
          rw [show (rWrite S n ↑hn9 ↑cn ↑wn : Int) = (-1000000002) from by unfold rWrite; (repeat' split) <;> first | omega | rfl] at k9
          exact k9
        · refine eR_ildn_3 dX8_write_25 rfl ?_
          refine eR_ic dX8_write_26 ?_
          refine eR_icmp_lt (tgt := 33) dX8_write_27 (by decide) (by first | assumption | exact rg_b01 _ | (unfold rg; omega) | (unfold rg at *; omega)) (by first | assumption | exact rg_b01 _ | (unfold rg; omega) | (unfold rg at *; omega)) (fun c27 => ?_) (fun c27 => ?_)
          · refine eR_aldn_0 dX8_write_33 rfl ?_
            refine eR_getR (i := 70) dX8_write_34 gf_X8_44 th_0 rfl ?_
            refine eR_ildn_1 dX8_write_37 rfl ?_
            refine eR_ildn_2 dX8_write_38 rfl ?_
            refine eR_ildn_3 dX8_write_39 rfl ?_
            refine eR_callVi [_, _, _] rfl dX8_write_40 ok_mX5_append kw_772 rfl rfl th_70 rfl (Nat.le_of_ble_eq_true rfl) (d' := 0) (by decide) (Nat.le_of_ble_eq_true rfl) ?_
            refine rw_append_bk (n := n) hn hn30 (fun hnn => ?_) (fun hnn => ?_)
            · refine eR_iret dX8_write_43 rfl rfl ?_
              have k9 := k0 (by rintro ⟨q1, q2, q3, q4⟩; first | contradiction | omega)
              rw [show (rWrite S n ↑hn9 ↑cn ↑wn : Int) = (-1000000004) from by unfold rWrite; (repeat' split) <;> first | omega | rfl] at k9
              exact k9
            · refine eR_iret dX8_write_43 rfl rfl ?_
              have k9 := k1 ⟨hq1, hq2, hq3, by omega⟩
              rw [show (rWrite S n ↑hn9 ↑cn ↑wn : Int) = ↑n + 1 from by unfold rWrite; (repeat' split) <;> first | omega | rfl] at k9
              exact k9
          · refine eR_ldc (z := -1000000002) dX8_write_30 kw_349 (by decide) ?_
            refine eR_iret dX8_write_32 rfl rfl ?_
            have k9 := k0 (by rintro ⟨q1, q2, q3, q4⟩; first | contradiction | omega)
            rw [show (rWrite S n ↑hn9 ↑cn ↑wn : Int) = (-1000000002) from by unfold rWrite; (repeat' split) <;> first | omega | rfl] at k9
            exact k9
      · refine eR_aldn_0 dX8_write_0 rfl ?_
        refine eR_getR (i := t) dX8_write_1 gf_X8_57 th_0 rfl ?_
        refine eR_ildn_2 dX8_write_4 rfl ?_
        refine eR_callVi [_] rfl dX8_write_5 ok_mX6_hasCoat kw_608 rfl rfl T.1 rfl (Nat.le_of_ble_eq_true rfl) (d' := 0) (by decide) (Nat.le_of_ble_eq_true rfl) ?_
        refine tn_hasCoat T B V (by first | assumption | (unfold rg; omega)) ?_
        refine eR_if_ne (tgt := 14) dX8_write_8 (by decide) (by first | assumption | exact rg_b01 _ | (unfold rg; omega) | (unfold rg at *; omega)) (fun c8 => ?_) (fun c8 => absurd c8 (by first | simp [b01, hq1] | (rw [b01_t hq1]; decide)))
        refine eR_ildn_1 dX8_write_14 rfl ?_
        refine eR_callSi [_] rfl dX8_write_15 ok_mX8_isHour kw_626 rfl rfl (Nat.le_of_ble_eq_true rfl) (d' := 0) (by decide) (Nat.le_of_ble_eq_true rfl) ?_
        refine ct_isHour (by first | assumption | exact rg_b01 _ | (unfold rg; omega) | (unfold rg at *; omega)) ?_
        refine eR_if_eq (tgt := 30) dX8_write_18 (by decide) (by first | assumption | exact rg_b01 _ | (unfold rg; omega) | (unfold rg at *; omega)) (fun c18 => absurd c18 (by first | simp [b01, hq2] | (rw [b01_t hq2]; decide))) (fun c18 => ?_)
        refine eR_ildn_3 dX8_write_21 rfl ?_
        refine eR_if_lt (tgt := 30) dX8_write_22 (by decide) (by first | assumption | exact rg_b01 _ | (unfold rg; omega) | (unfold rg at *; omega)) (fun c22 => ?_) (fun c22 => ?_)
        · refine eR_ldc (z := -1000000002) dX8_write_30 kw_349 (by decide) ?_
          refine eR_iret dX8_write_32 rfl rfl ?_
          have k9 := k0 (by rintro ⟨q1, q2, q3, q4⟩; first | contradiction | omega)
          rw [show (rWrite S n ↑hn9 ↑cn what : Int) = (-1000000002) from by unfold rWrite; (repeat' split) <;> first | omega | rfl] at k9
          exact k9
        · refine eR_ildn_3 dX8_write_25 rfl ?_
          refine eR_ic dX8_write_26 ?_
          refine eR_icmp_lt (tgt := 33) dX8_write_27 (by decide) (by first | assumption | exact rg_b01 _ | (unfold rg; omega) | (unfold rg at *; omega)) (by first | assumption | exact rg_b01 _ | (unfold rg; omega) | (unfold rg at *; omega)) (fun c27 => ?_) (fun c27 => ?_)
          · refine eR_aldn_0 dX8_write_33 rfl ?_
            refine eR_getR (i := 70) dX8_write_34 gf_X8_44 th_0 rfl ?_
            refine eR_ildn_1 dX8_write_37 rfl ?_
            refine eR_ildn_2 dX8_write_38 rfl ?_
            refine eR_ildn_3 dX8_write_39 rfl ?_
            refine eR_callVi [_, _, _] rfl dX8_write_40 ok_mX5_append kw_772 rfl rfl th_70 rfl (Nat.le_of_ble_eq_true rfl) (d' := 0) (by decide) (Nat.le_of_ble_eq_true rfl) ?_
            refine rw_append_bk (n := n) hn hn30 (fun hnn => ?_) (fun hnn => ?_)
            · refine eR_iret dX8_write_43 rfl rfl ?_
              have k9 := k0 (by rintro ⟨q1, q2, q3, q4⟩; first | contradiction | omega)
              rw [show (rWrite S n ↑hn9 ↑cn what : Int) = (-1000000004) from by unfold rWrite; (repeat' split) <;> first | omega | rfl] at k9
              exact k9
            · refine eR_iret dX8_write_43 rfl rfl ?_
              exact absurd ⟨by omega, by omega⟩ hq3
          · refine eR_ldc (z := -1000000002) dX8_write_30 kw_349 (by decide) ?_
            refine eR_iret dX8_write_32 rfl rfl ?_
            have k9 := k0 (by rintro ⟨q1, q2, q3, q4⟩; first | contradiction | omega)
            rw [show (rWrite S n ↑hn9 ↑cn what : Int) = (-1000000002) from by unfold rWrite; (repeat' split) <;> first | omega | rfl] at k9
            exact k9
    · refine eR_aldn_0 dX8_write_0 rfl ?_
      refine eR_getR (i := t) dX8_write_1 gf_X8_57 th_0 rfl ?_
      refine eR_ildn_2 dX8_write_4 rfl ?_
      refine eR_callVi [_] rfl dX8_write_5 ok_mX6_hasCoat kw_608 rfl rfl T.1 rfl (Nat.le_of_ble_eq_true rfl) (d' := 0) (by decide) (Nat.le_of_ble_eq_true rfl) ?_
      refine tn_hasCoat T B V (by first | assumption | (unfold rg; omega)) ?_
      refine eR_if_ne (tgt := 14) dX8_write_8 (by decide) (by first | assumption | exact rg_b01 _ | (unfold rg; omega) | (unfold rg at *; omega)) (fun c8 => ?_) (fun c8 => absurd c8 (by first | simp [b01, hq1] | (rw [b01_t hq1]; decide)))
      refine eR_ildn_1 dX8_write_14 rfl ?_
      refine eR_callSi [_] rfl dX8_write_15 ok_mX8_isHour kw_626 rfl rfl (Nat.le_of_ble_eq_true rfl) (d' := 0) (by decide) (Nat.le_of_ble_eq_true rfl) ?_
      refine ct_isHour (by first | assumption | exact rg_b01 _ | (unfold rg; omega) | (unfold rg at *; omega)) ?_
      refine eR_if_eq (tgt := 30) dX8_write_18 (by decide) (by first | assumption | exact rg_b01 _ | (unfold rg; omega) | (unfold rg at *; omega)) (fun c18 => ?_) (fun c18 => absurd c18 (by first | (simp [b01, hq2]; done) | (rw [b01_f hq2]; decide)))
      refine eR_ldc (z := -1000000002) dX8_write_30 kw_349 (by decide) ?_
      refine eR_iret dX8_write_32 rfl rfl ?_
      have k9 := k0 (by rintro ⟨q1, q2, q3, q4⟩; first | contradiction | omega)
      rw [show (rWrite S n hour ↑cn what : Int) = (-1000000002) from by unfold rWrite; (repeat' split) <;> first | omega | rfl] at k9
      exact k9
  · refine eR_aldn_0 dX8_write_0 rfl ?_
    refine eR_getR (i := t) dX8_write_1 gf_X8_57 th_0 rfl ?_
    refine eR_ildn_2 dX8_write_4 rfl ?_
    refine eR_callVi [_] rfl dX8_write_5 ok_mX6_hasCoat kw_608 rfl rfl T.1 rfl (Nat.le_of_ble_eq_true rfl) (d' := 0) (by decide) (Nat.le_of_ble_eq_true rfl) ?_
    refine tn_hasCoat T B V (by first | assumption | (unfold rg; omega)) ?_
    refine eR_if_ne (tgt := 14) dX8_write_8 (by decide) (by first | assumption | exact rg_b01 _ | (unfold rg; omega) | (unfold rg at *; omega)) (fun c8 => absurd c8 (by first | (simp [b01, hq1]; done) | (rw [b01_f hq1]; decide))) (fun c8 => ?_)
    refine eR_ldc (z := -1000000001) dX8_write_11 kw_612 (by decide) ?_
    refine eR_iret dX8_write_13 rfl rfl ?_
    have k9 := k0 (by rintro ⟨q1, q2, q3, q4⟩; first | contradiction | omega)
    rw [show (rWrite S n hour c what : Int) = (-1000000001) from by unfold rWrite; (repeat' split) <;> first | omega | rfl] at k9
    exact k9
theorem ct_owners (T : isTn (tau t s) t) (B : sB S) (V : cV h t S) (h38 : 38 ≤ t) {n : Nat} {sg : Nat → Nat → Nat} (G : sgB S n sg) (GV : sgC h n sg) {i : Nat} (hi : i < n) (k : Q (.int (zI ↑(woS S sg i))) (tau t s) h) : eX g 0 mX8_ownersThere 0 (lv_args 0 [.ref (gA g 0), .int (zI ↑i)]) [] (tau t s) h Q := by
  show eX g 0 mX8_ownersThere 0 [(0, .ref (gA g 0)), (1, .int (zI ↑i))] [] (tau t s) h Q
  have hP8 := B.1
  have hC8 := B.2.1
  have hE10 := B.2.2.1
  have hF99 := B.2.2.2.2.2.2.1
  have hg9 := G.1
  have hg8 := G.2 i hi
  have ho9 := B.2.2.2.1 _ hg8.1
  have hl3 : 2 ^ sO S (sg i 0) 0 ≤ 2 ^ 7 := Nat.pow_le_pow_right (by omega) (by omega)
  have hl4 : 2 ^ sO S (sg i 0) 1 ≤ 2 ^ 7 := Nat.pow_le_pow_right (by omega) (by omega)
  have hw1 := whereIs_rg B (sO S (sg i 0) 0) (sg i 2)
  have hw2 := whereIs_rg B (sO S (sg i 0) 1) (sg i 2)
  refine eR_aldn_0 dX8_ownersThere_0 rfl ?_
  refine eR_getR (i := 38) dX8_ownersThere_1 gf_X8_40 th_0 rfl ?_
  refine eR_getR (i := 39) dX8_ownersThere_4 gf_X8_250 th_38 rfl ?_
  refine eR_ildn_1 dX8_ownersThere_7 rfl ?_
  refine eR_aald3 (n := i) (i := 40 + i) dX8_ownersThere_8 th_39 (rfl) (by omega) (by decide) (rowsK_at (by omega)) ?_
  refine eR_astn_n2 dX8_ownersThere_9 rfl (by decide) rfl ?_
  refine eR_ic dX8_ownersThere_10 ?_
  refine eR_istn_n3 dX8_ownersThere_11 rfl (by decide) rfl ?_
  refine eR_ic dX8_ownersThere_12 ?_
  refine eR_ist_n4 dX8_ownersThere_13 (by decide) rfl ?_
  refine eR_ild_4 dX8_ownersThere_15 ?_
  refine eR_ic dX8_ownersThere_17 ?_
  refine eR_icmp_ge (tgt := 70) dX8_ownersThere_18 (by decide) (by first | exact rg_b01 _ | (unfold rg; omega)) (by first | exact rg_b01 _ | (unfold rg; omega)) (fun c18 => absurd c18 (by decide)) (fun c18 => ?_)
  refine eR_aldn_0 dX8_ownersThere_21 rfl ?_
  refine eR_getR (i := t) dX8_ownersThere_22 gf_X8_57 th_0 rfl ?_
  refine eR_getR (i := t + 1) dX8_ownersThere_25 gf_X8_125 T.1 rfl ?_
  refine eR_aldn_2 dX8_ownersThere_28 rfl ?_
  refine eR_ic dX8_ownersThere_29 ?_
  refine eR_iald (n := 1) dX8_ownersThere_30 (tr_g (i := i) (by omega)) (rfl) (by decide) (by decide) ?_
  refine eX_pcI ((GV.2 i (by omega)).2.1) ?_
  refine eR_aald3 (n := (sg i 0)) (i := t + 2 + (sg i 0)) dX8_ownersThere_31 T.2.1 (rfl) (by omega) (by decide) (rowsK_at (by omega)) ?_
  refine eR_ild_4 dX8_ownersThere_32 ?_
  refine eR_iald (n := 0) dX8_ownersThere_34 (T.2.2.1 (sg i 0) (by omega)) (rfl) (by decide) (by decide) ?_
  refine eX_pcI ((V.2.2.2.2.2.1 (sg i 0) (by omega)).1) ?_
  refine eR_ist_n5 dX8_ownersThere_35 (by decide) rfl ?_
  refine eR_aldn_0 dX8_ownersThere_37 rfl ?_
  refine eR_getR (i := t) dX8_ownersThere_38 gf_X8_57 th_0 rfl ?_
  refine eR_getR (i := t + 22) dX8_ownersThere_41 gf_X8_145 T.1 rfl ?_
  refine eR_ild_5 dX8_ownersThere_44 ?_
  refine eR_aald3 (n := (sO S (sg i 0) 0)) (i := t + 23 + ((sO S (sg i 0) 0))) dX8_ownersThere_46 T.2.2.2.2.2.2.1 (rfl) (by omega) (by decide) (rowsK_at (by omega)) ?_
  refine eR_aldn_2 dX8_ownersThere_47 rfl ?_
  refine eR_ic dX8_ownersThere_48 ?_
  refine eR_iald (n := 0) dX8_ownersThere_49 (tr_g (i := i) (by omega)) (rfl) (by decide) (by decide) ?_
  refine eX_pcI ((GV.2 i (by omega)).1) ?_
  refine eR_iald (n := (sg i 2)) dX8_ownersThere_50 (T.2.2.2.2.2.2.2.1 ((sO S (sg i 0) 0)) (by omega)) (rfl) (by omega) (by decide) ?_
  refine eX_pcI (V.2.2.2.2.2.2.2.1 (((sO S (sg i 0) 0))) (sg i 2) (by omega) (by omega)) ?_
  refine eR_aldn_2 dX8_ownersThere_51 rfl ?_
  refine eR_ic dX8_ownersThere_52 ?_
  refine eR_iald (n := 2) dX8_ownersThere_53 (tr_g (i := i) (by omega)) (rfl) (by decide) (by decide) ?_
  refine eX_pcI ((GV.2 i (by omega)).2.2) ?_
  refine eR_icmp_ne (tgt := 64) dX8_ownersThere_54 (by decide) (by first | exact rg_b01 _ | (unfold rg; omega)) (by first | exact rg_b01 _ | (unfold rg; omega)) (fun c54 => ?_) (fun c54 => ?_)
  · refine eR_iinc_4 dX8_ownersThere_64 (by decide) rfl ?_
    refine eR_goto (tgt := 15) dX8_ownersThere_67 (by decide) ?_
    refine eR_ild_4 dX8_ownersThere_15 ?_
    refine eR_ic dX8_ownersThere_17 ?_
    refine eR_icmp_ge (tgt := 70) dX8_ownersThere_18 (by decide) (by first | exact rg_b01 _ | (unfold rg; omega)) (by first | exact rg_b01 _ | (unfold rg; omega)) (fun c18 => absurd c18 (by decide)) (fun c18 => ?_)
    refine eR_aldn_0 dX8_ownersThere_21 rfl ?_
    refine eR_getR (i := t) dX8_ownersThere_22 gf_X8_57 th_0 rfl ?_
    refine eR_getR (i := t + 1) dX8_ownersThere_25 gf_X8_125 T.1 rfl ?_
    refine eR_aldn_2 dX8_ownersThere_28 rfl ?_
    refine eR_ic dX8_ownersThere_29 ?_
    refine eR_iald (n := 1) dX8_ownersThere_30 (tr_g (i := i) (by omega)) (rfl) (by decide) (by decide) ?_
    refine eX_pcI ((GV.2 i (by omega)).2.1) ?_
    refine eR_aald3 (n := (sg i 0)) (i := t + 2 + (sg i 0)) dX8_ownersThere_31 T.2.1 (rfl) (by omega) (by decide) (rowsK_at (by omega)) ?_
    refine eR_ild_4 dX8_ownersThere_32 ?_
    refine eR_iald (n := 1) dX8_ownersThere_34 (T.2.2.1 (sg i 0) (by omega)) (rfl) (by decide) (by decide) ?_
    refine eX_pcI ((V.2.2.2.2.2.1 (sg i 0) (by omega)).2.1) ?_
    refine eR_ist_5 dX8_ownersThere_35 (by decide) rfl ?_
    refine eR_aldn_0 dX8_ownersThere_37 rfl ?_
    refine eR_getR (i := t) dX8_ownersThere_38 gf_X8_57 th_0 rfl ?_
    refine eR_getR (i := t + 22) dX8_ownersThere_41 gf_X8_145 T.1 rfl ?_
    refine eR_ild_5 dX8_ownersThere_44 ?_
    refine eR_aald3 (n := (sO S (sg i 0) 1)) (i := t + 23 + ((sO S (sg i 0) 1))) dX8_ownersThere_46 T.2.2.2.2.2.2.1 (rfl) (by omega) (by decide) (rowsK_at (by omega)) ?_
    refine eR_aldn_2 dX8_ownersThere_47 rfl ?_
    refine eR_ic dX8_ownersThere_48 ?_
    refine eR_iald (n := 0) dX8_ownersThere_49 (tr_g (i := i) (by omega)) (rfl) (by decide) (by decide) ?_
    refine eX_pcI ((GV.2 i (by omega)).1) ?_
    refine eR_iald (n := (sg i 2)) dX8_ownersThere_50 (T.2.2.2.2.2.2.2.1 ((sO S (sg i 0) 1)) (by omega)) (rfl) (by omega) (by decide) ?_
    refine eX_pcI (V.2.2.2.2.2.2.2.1 (((sO S (sg i 0) 1))) (sg i 2) (by omega) (by omega)) ?_
    refine eR_aldn_2 dX8_ownersThere_51 rfl ?_
    refine eR_ic dX8_ownersThere_52 ?_
    refine eR_iald (n := 2) dX8_ownersThere_53 (tr_g (i := i) (by omega)) (rfl) (by decide) (by decide) ?_
    refine eX_pcI ((GV.2 i (by omega)).2.2) ?_
    refine eR_icmp_ne (tgt := 64) dX8_ownersThere_54 (by decide) (by first | exact rg_b01 _ | (unfold rg; omega)) (by first | exact rg_b01 _ | (unfold rg; omega)) (fun c54 => ?_) (fun c54 => ?_)
    · refine eR_iinc_4 dX8_ownersThere_64 (by decide) rfl ?_
      refine eR_goto (tgt := 15) dX8_ownersThere_67 (by decide) ?_
      refine eR_ild_4 dX8_ownersThere_15 ?_
      refine eR_ic dX8_ownersThere_17 ?_
      refine eR_icmp_ge (tgt := 70) dX8_ownersThere_18 (by decide) (by first | exact rg_b01 _ | (unfold rg; omega)) (by first | exact rg_b01 _ | (unfold rg; omega)) (fun c18 => ?_) (fun c18 => absurd c18 (by decide))
      refine eR_ildn_3 dX8_ownersThere_70 rfl ?_
      refine eR_iret dX8_ownersThere_71 rfl rfl ?_
      rw [show (↑(woS S sg i) : Int) = 0 from by unfold woS; (repeat' split) <;> first | omega | rfl | (exfalso; omega) | simp] at k
      exact k
    · refine eR_ildn_3 dX8_ownersThere_57 rfl ?_
      refine eR_ic dX8_ownersThere_58 ?_
      refine eR_ild_5 dX8_ownersThere_59 ?_
      refine eR_ishl dX8_ownersThere_61 ?_
      refine eX_pcI (show (zShl 1 (↑(sO S (sg i 0) 1)) : Int) = ↑(2 ^ sO S (sg i 0) 1 : Nat) from by have := zShl_nat (a := 1) (k := sO S (sg i 0) 1) (by omega) (by omega); rw [Nat.one_mul] at this; exact this) ?_
      refine eR_ior dX8_ownersThere_62 ?_
      refine eX_pcI (show (zOr 0 (↑(2 ^ sO S (sg i 0) 1 : Nat)) : Int) = ↑(2 ^ sO S (sg i 0) 1 : Nat) from by rw [show (0 : Int) = ((0 : Nat) : Int) from rfl, zOr_nat (by omega) (by omega), Nat.zero_or]) ?_
      refine eR_istn_3 dX8_ownersThere_63 rfl (by decide) rfl ?_
      refine eR_iinc_4 dX8_ownersThere_64 (by decide) rfl ?_
      refine eR_goto (tgt := 15) dX8_ownersThere_67 (by decide) ?_
      refine eR_ild_4 dX8_ownersThere_15 ?_
      refine eR_ic dX8_ownersThere_17 ?_
      refine eR_icmp_ge (tgt := 70) dX8_ownersThere_18 (by decide) (by first | exact rg_b01 _ | (unfold rg; omega)) (by first | exact rg_b01 _ | (unfold rg; omega)) (fun c18 => ?_) (fun c18 => absurd c18 (by decide))
      refine eR_ildn_3 dX8_ownersThere_70 rfl ?_
      refine eR_iret dX8_ownersThere_71 rfl rfl ?_
      rw [show (↑(woS S sg i) : Int) = ↑(2 ^ sO S (sg i 0) 1 : Nat) from by unfold woS; (repeat' split) <;> first | omega | rfl | (exfalso; omega) | simp] at k
      exact k
  · refine eR_ildn_3 dX8_ownersThere_57 rfl ?_
    refine eR_ic dX8_ownersThere_58 ?_
    refine eR_ild_5 dX8_ownersThere_59 ?_
    refine eR_ishl dX8_ownersThere_61 ?_
    refine eX_pcI (show (zShl 1 (↑(sO S (sg i 0) 0)) : Int) = ↑(2 ^ sO S (sg i 0) 0 : Nat) from by have := zShl_nat (a := 1) (k := sO S (sg i 0) 0) (by omega) (by omega); rw [Nat.one_mul] at this; exact this) ?_
    refine eR_ior dX8_ownersThere_62 ?_
    refine eX_pcI (show (zOr 0 (↑(2 ^ sO S (sg i 0) 0 : Nat)) : Int) = ↑(2 ^ sO S (sg i 0) 0 : Nat) from by rw [show (0 : Int) = ((0 : Nat) : Int) from rfl, zOr_nat (by omega) (by omega), Nat.zero_or]) ?_
    refine eR_istn_3 dX8_ownersThere_63 rfl (by decide) rfl ?_
    refine eR_iinc_4 dX8_ownersThere_64 (by decide) rfl ?_
    refine eR_goto (tgt := 15) dX8_ownersThere_67 (by decide) ?_
    refine eR_ild_4 dX8_ownersThere_15 ?_
    refine eR_ic dX8_ownersThere_17 ?_
    refine eR_icmp_ge (tgt := 70) dX8_ownersThere_18 (by decide) (by first | exact rg_b01 _ | (unfold rg; omega)) (by first | exact rg_b01 _ | (unfold rg; omega)) (fun c18 => absurd c18 (by decide)) (fun c18 => ?_)
    refine eR_aldn_0 dX8_ownersThere_21 rfl ?_
    refine eR_getR (i := t) dX8_ownersThere_22 gf_X8_57 th_0 rfl ?_
    refine eR_getR (i := t + 1) dX8_ownersThere_25 gf_X8_125 T.1 rfl ?_
    refine eR_aldn_2 dX8_ownersThere_28 rfl ?_
    refine eR_ic dX8_ownersThere_29 ?_
    refine eR_iald (n := 1) dX8_ownersThere_30 (tr_g (i := i) (by omega)) (rfl) (by decide) (by decide) ?_
    refine eX_pcI ((GV.2 i (by omega)).2.1) ?_
    refine eR_aald3 (n := (sg i 0)) (i := t + 2 + (sg i 0)) dX8_ownersThere_31 T.2.1 (rfl) (by omega) (by decide) (rowsK_at (by omega)) ?_
    refine eR_ild_4 dX8_ownersThere_32 ?_
    refine eR_iald (n := 1) dX8_ownersThere_34 (T.2.2.1 (sg i 0) (by omega)) (rfl) (by decide) (by decide) ?_
    refine eX_pcI ((V.2.2.2.2.2.1 (sg i 0) (by omega)).2.1) ?_
    refine eR_ist_5 dX8_ownersThere_35 (by decide) rfl ?_
    refine eR_aldn_0 dX8_ownersThere_37 rfl ?_
    refine eR_getR (i := t) dX8_ownersThere_38 gf_X8_57 th_0 rfl ?_
    refine eR_getR (i := t + 22) dX8_ownersThere_41 gf_X8_145 T.1 rfl ?_
    refine eR_ild_5 dX8_ownersThere_44 ?_
    refine eR_aald3 (n := (sO S (sg i 0) 1)) (i := t + 23 + ((sO S (sg i 0) 1))) dX8_ownersThere_46 T.2.2.2.2.2.2.1 (rfl) (by omega) (by decide) (rowsK_at (by omega)) ?_
    refine eR_aldn_2 dX8_ownersThere_47 rfl ?_
    refine eR_ic dX8_ownersThere_48 ?_
    refine eR_iald (n := 0) dX8_ownersThere_49 (tr_g (i := i) (by omega)) (rfl) (by decide) (by decide) ?_
    refine eX_pcI ((GV.2 i (by omega)).1) ?_
    refine eR_iald (n := (sg i 2)) dX8_ownersThere_50 (T.2.2.2.2.2.2.2.1 ((sO S (sg i 0) 1)) (by omega)) (rfl) (by omega) (by decide) ?_
    refine eX_pcI (V.2.2.2.2.2.2.2.1 (((sO S (sg i 0) 1))) (sg i 2) (by omega) (by omega)) ?_
    refine eR_aldn_2 dX8_ownersThere_51 rfl ?_
    refine eR_ic dX8_ownersThere_52 ?_
    refine eR_iald (n := 2) dX8_ownersThere_53 (tr_g (i := i) (by omega)) (rfl) (by decide) (by decide) ?_
    refine eX_pcI ((GV.2 i (by omega)).2.2) ?_
    refine eR_icmp_ne (tgt := 64) dX8_ownersThere_54 (by decide) (by first | exact rg_b01 _ | (unfold rg; omega)) (by first | exact rg_b01 _ | (unfold rg; omega)) (fun c54 => ?_) (fun c54 => ?_)
    · refine eR_iinc_4 dX8_ownersThere_64 (by decide) rfl ?_
      refine eR_goto (tgt := 15) dX8_ownersThere_67 (by decide) ?_
      refine eR_ild_4 dX8_ownersThere_15 ?_
      refine eR_ic dX8_ownersThere_17 ?_
      refine eR_icmp_ge (tgt := 70) dX8_ownersThere_18 (by decide) (by first | exact rg_b01 _ | (unfold rg; omega)) (by first | exact rg_b01 _ | (unfold rg; omega)) (fun c18 => ?_) (fun c18 => absurd c18 (by decide))
      refine eR_ildn_3 dX8_ownersThere_70 rfl ?_
      refine eR_iret dX8_ownersThere_71 rfl rfl ?_
      rw [show (↑(woS S sg i) : Int) = ↑(2 ^ sO S (sg i 0) 0 : Nat) from by unfold woS; (repeat' split) <;> first | omega | rfl | (exfalso; omega) | simp] at k
      exact k
    · refine eR_ildn_3 dX8_ownersThere_57 rfl ?_
      refine eR_ic dX8_ownersThere_58 ?_
      refine eR_ild_5 dX8_ownersThere_59 ?_
      refine eR_ishl dX8_ownersThere_61 ?_
      refine eX_pcI (show (zShl 1 (↑(sO S (sg i 0) 1)) : Int) = ↑(2 ^ sO S (sg i 0) 1 : Nat) from by have := zShl_nat (a := 1) (k := sO S (sg i 0) 1) (by omega) (by omega); rw [Nat.one_mul] at this; exact this) ?_
      refine eR_ior dX8_ownersThere_62 ?_
      refine eX_pcI (show (zOr (↑(2 ^ sO S (sg i 0) 0 : Nat)) (↑(2 ^ sO S (sg i 0) 1 : Nat)) : Int) = ↑(2 ^ sO S (sg i 0) 0 ||| 2 ^ sO S (sg i 0) 1 : Nat) from zOr_nat (by omega) (by omega)) ?_
      refine eR_istn_3 dX8_ownersThere_63 rfl (by decide) rfl ?_
      refine eR_iinc_4 dX8_ownersThere_64 (by decide) rfl ?_
      refine eR_goto (tgt := 15) dX8_ownersThere_67 (by decide) ?_
      refine eR_ild_4 dX8_ownersThere_15 ?_
      refine eR_ic dX8_ownersThere_17 ?_
      refine eR_icmp_ge (tgt := 70) dX8_ownersThere_18 (by decide) (by first | exact rg_b01 _ | (unfold rg; omega)) (by first | exact rg_b01 _ | (unfold rg; omega)) (fun c18 => ?_) (fun c18 => absurd c18 (by decide))
      refine eR_ildn_3 dX8_ownersThere_70 rfl ?_
      refine eR_iret dX8_ownersThere_71 rfl rfl ?_
      rw [show (↑(woS S sg i) : Int) = ↑(2 ^ sO S (sg i 0) 0 ||| 2 ^ sO S (sg i 0) 1 : Nat) from by unfold woS; (repeat' split) <;> first | omega | rfl | (exfalso; omega) | simp] at k
      exact k
theorem ct_wore (T : isTn (tau t s) t) (B : sB S) (V : cV h t S) (h38 : 38 ≤ t) {i : Int} (hr_i : rg i) {n : Nat} {sg : Nat → Nat → Nat} (G : sgB S n sg) (GV : sgC h n sg) (k : Q (.int (zI (rWore S n sg i))) (tau t s) h) : eX g 1 mX8_wore 0 (lv_args 0 [.ref (gA g 0), .int (zI i)]) [] (tau t s) h Q := by
  show eX g 1 mX8_wore 0 [(0, .ref (gA g 0)), (1, .int (zI i))] [] (tau t s) h Q
  have hP8 := B.1
  have hC8 := B.2.1
  have hE10 := B.2.2.1
  have hF99 := B.2.2.2.2.2.2.1
  have hg9 := G.1
  by_cases hq1 : 0 ≤ i ∧ i ≤ (↑n - 1)
  · obtain ⟨m, rfl⟩ : ∃ m : Nat, i = (m : Int) := ⟨i.toNat, by omega⟩
    have hw9 := woS_lt B G (i := m) (by omega)
    refine eR_ildn_1 dX8_wore_0 rfl ?_
    refine eR_if_lt (tgt := 15) dX8_wore_1 (by decide) (by first | assumption | exact rg_b01 _ | (unfold rg; omega) | (unfold rg at *; omega)) (fun c1 => ?_) (fun c1 => ?_)
    · refine eR_ldc (z := -1000000001) dX8_wore_15 kw_612 (by decide) ?_
      refine eR_goto (tgt := 25) dX8_wore_17 (by decide) ?_
      refine eR_iret dX8_wore_25 rfl rfl ?_
      rw [show (rWore S n sg ↑m : Int) = (-1000000001) from by unfold rWore; (try simp only [Int.toNat_natCast]); (repeat' split) <;> first | omega | rfl | simp_all] at k; exact k
    · refine eR_ildn_1 dX8_wore_4 rfl ?_
      refine eR_aldn_0 dX8_wore_5 rfl ?_
      refine eR_getR (i := 38) dX8_wore_6 gf_X8_40 th_0 rfl ?_
      refine eR_getI dX8_wore_9 gf_X8_111 th_38 rfl ?_
      refine eX_pcI (GV.1) ?_
      refine eR_icmp_lt (tgt := 20) dX8_wore_12 (by decide) (by first | assumption | exact rg_b01 _ | (unfold rg; omega) | (unfold rg at *; omega)) (by first | assumption | exact rg_b01 _ | (unfold rg; omega) | (unfold rg at *; omega)) (fun c12 => ?_) (fun c12 => ?_)
      · refine eR_aldn_0 dX8_wore_20 rfl ?_
        refine eR_ildn_1 dX8_wore_21 rfl ?_
        refine eR_callVi [_] rfl dX8_wore_22 ok_mX8_ownersThere kw_781 rfl rfl th_0 rfl (Nat.le_of_ble_eq_true rfl) (d' := 0) (by decide) (Nat.le_of_ble_eq_true rfl) ?_
        refine ct_owners (i := m) T B V h38 G GV (by omega) ?_
        refine eR_iret dX8_wore_25 rfl rfl ?_
        rw [show (rWore S n sg ↑m : Int) = ↑(woS S sg m) from by unfold rWore; (try simp only [Int.toNat_natCast]); (repeat' split) <;> first | omega | rfl | simp_all] at k; exact k
      · refine eR_ldc (z := -1000000001) dX8_wore_15 kw_612 (by decide) ?_
        refine eR_goto (tgt := 25) dX8_wore_17 (by decide) ?_
        refine eR_iret dX8_wore_25 rfl rfl ?_
        rw [show (rWore S n sg ↑m : Int) = (-1000000001) from by unfold rWore; (try simp only [Int.toNat_natCast]); (repeat' split) <;> first | omega | rfl | simp_all] at k; exact k
  · refine eR_ildn_1 dX8_wore_0 rfl ?_
    refine eR_if_lt (tgt := 15) dX8_wore_1 (by decide) (by first | assumption | exact rg_b01 _ | (unfold rg; omega) | (unfold rg at *; omega)) (fun c1 => ?_) (fun c1 => ?_)
    · refine eR_ldc (z := -1000000001) dX8_wore_15 kw_612 (by decide) ?_
      refine eR_goto (tgt := 25) dX8_wore_17 (by decide) ?_
      refine eR_iret dX8_wore_25 rfl rfl ?_
      rw [show (rWore S n sg i : Int) = (-1000000001) from by unfold rWore; (try simp only [Int.toNat_natCast]); (repeat' split) <;> first | omega | rfl | simp_all] at k; exact k
    · refine eR_ildn_1 dX8_wore_4 rfl ?_
      refine eR_aldn_0 dX8_wore_5 rfl ?_
      refine eR_getR (i := 38) dX8_wore_6 gf_X8_40 th_0 rfl ?_
      refine eR_getI dX8_wore_9 gf_X8_111 th_38 rfl ?_
      refine eX_pcI (GV.1) ?_
      refine eR_icmp_lt (tgt := 20) dX8_wore_12 (by decide) (by first | assumption | exact rg_b01 _ | (unfold rg; omega) | (unfold rg at *; omega)) (by first | assumption | exact rg_b01 _ | (unfold rg; omega) | (unfold rg at *; omega)) (fun c12 => ?_) (fun c12 => ?_)
      · exact absurd ⟨by omega, by omega⟩ hq1
      · refine eR_ldc (z := -1000000001) dX8_wore_15 kw_612 (by decide) ?_
        refine eR_goto (tgt := 25) dX8_wore_17 (by decide) ?_
        refine eR_iret dX8_wore_25 rfl rfl ?_
        rw [show (rWore S n sg i : Int) = (-1000000001) from by unfold rWore; (try simp only [Int.toNat_natCast]); (repeat' split) <;> first | omega | rfl | simp_all] at k; exact k
theorem cl_else (T : isTn (tau t s) t) (B : sB S) (V : cV h t S) (h38 : 38 ≤ t) {n : Nat} {sg : Nat → Nat → Nat} (G : sgB S n sg) (GV : sgC h n sg) {i : Nat} (hi : i < n) (k : Q (.int (zI (b01 (elsB sg i i = true)))) (tau t s) h) : ∀ m j, j + m = i → (∀ x, x < j → ¬ (sg x 0 = sg i 0 ∧ sg x 2 = sg i 2 ∧ sg x 1 ≠ sg i 1)) → eX g 1 mX8_wasSeenElsewhere 2 [(0, .ref (gA g 0)), (1, .int (zI ↑i)), (2, .int (zI ↑j))] [] (tau t s) h Q := by
  have hP8 := B.1
  have hC8 := B.2.1
  have hE10 := B.2.2.1
  have hF99 := B.2.2.2.2.2.2.1
  have hg9 := G.1
  have hg8 := G.2 i hi
  have hbs : ∀ i, i < n → sg i 2 < 24 ∧ sg i 0 < 8 := fun i hi => by have := G.2 i hi; omega
  intro m
  induction m with
  | zero =>
    intro j hj hn
    refine eR_ildn_2 dX8_wasSeenElsewhere_2 rfl ?_
    refine eR_ildn_1 dX8_wasSeenElsewhere_3 rfl ?_
    refine eR_icmp_ge (tgt := 52) dX8_wasSeenElsewhere_4 (by decide) (by first | exact rg_b01 _ | (unfold rg; omega)) (by first | exact rg_b01 _ | (unfold rg; omega)) (fun c4 => ?_) (fun c4 => absurd c4 (by omega))
    refine eR_ic dX8_wasSeenElsewhere_52 ?_
    refine eR_zret dX8_wasSeenElsewhere_53 rfl (by omega) ?_
    rw [b01_f (fun q => by obtain ⟨x, q1, q2⟩ := (elsB_ex i).mp q; exact hn x (by omega) q2)] at k
    exact k
  | succ m ih =>
    intro j hj hn
    have hg7 := G.2 j (by omega)
    refine eR_ildn_2 dX8_wasSeenElsewhere_2 rfl ?_
    refine eR_ildn_1 dX8_wasSeenElsewhere_3 rfl ?_
    refine eR_icmp_ge (tgt := 52) dX8_wasSeenElsewhere_4 (by decide) (by first | exact rg_b01 _ | (unfold rg; omega)) (by first | exact rg_b01 _ | (unfold rg; omega)) (fun c4 => absurd c4 (by omega)) (fun c4 => ?_)
    refine eR_aldn_0 dX8_wasSeenElsewhere_7 rfl ?_
    refine eR_getR (i := 38) dX8_wasSeenElsewhere_8 gf_X8_40 th_0 rfl ?_
    refine eR_ildn_1 dX8_wasSeenElsewhere_11 rfl ?_
    refine eR_ildn_2 dX8_wasSeenElsewhere_12 rfl ?_
    refine eR_callVi [_, _] rfl dX8_wasSeenElsewhere_13 ok_mX5_tellOfTheSame kw_793 rfl rfl th_38 rfl (Nat.le_of_ble_eq_true rfl) (d' := 0) (by decide) (Nat.le_of_ble_eq_true rfl) ?_
    refine rw_same_sg (i := i) (j := j) GV hg9 hbs (by omega) (by omega) ?_
    refine eR_if_eq (tgt := 46) dX8_wasSeenElsewhere_16 (by decide) (by first | exact rg_b01 _ | (unfold rg; omega)) (fun c16 => ?_) (fun c16 => ?_)
    · replace c16 := b01_eq0.mp c16
      refine eR_iinc_2 dX8_wasSeenElsewhere_46 (by decide) rfl ?_
      refine eR_goto (tgt := 2) dX8_wasSeenElsewhere_49 (by decide) ?_
      exact ih (j + 1) (by omega) (fun x hx q => by
      by_cases hxj : x = j
      · subst hxj; first | exact c16 ⟨by omega, by omega⟩ | omega
      · exact hn x (by omega) q)
    · replace c16 := b01_ne0.mp c16
      refine eR_aldn_0 dX8_wasSeenElsewhere_19 rfl ?_
      refine eR_getR (i := 38) dX8_wasSeenElsewhere_20 gf_X8_40 th_0 rfl ?_
      refine eR_getR (i := 39) dX8_wasSeenElsewhere_23 gf_X8_250 th_38 rfl ?_
      refine eR_ildn_2 dX8_wasSeenElsewhere_26 rfl ?_
      refine eR_aald3 (n := j) (i := 40 + j) dX8_wasSeenElsewhere_27 th_39 (rfl) (by omega) (by decide) (rowsK_at (by omega)) ?_
      refine eR_ic dX8_wasSeenElsewhere_28 ?_
      refine eR_iald (n := 2) dX8_wasSeenElsewhere_29 (tr_g (i := j) (by omega)) (rfl) (by decide) (by decide) ?_
      refine eX_pcI ((GV.2 j (by omega)).2.2) ?_
      refine eR_aldn_0 dX8_wasSeenElsewhere_30 rfl ?_
      refine eR_getR (i := 38) dX8_wasSeenElsewhere_31 gf_X8_40 th_0 rfl ?_
      refine eR_getR (i := 39) dX8_wasSeenElsewhere_34 gf_X8_250 th_38 rfl ?_
      refine eR_ildn_1 dX8_wasSeenElsewhere_37 rfl ?_
      refine eR_aald3 (n := i) (i := 40 + i) dX8_wasSeenElsewhere_38 th_39 (rfl) (by omega) (by decide) (rowsK_at (by omega)) ?_
      refine eR_ic dX8_wasSeenElsewhere_39 ?_
      refine eR_iald (n := 2) dX8_wasSeenElsewhere_40 (tr_g (i := i) (by omega)) (rfl) (by decide) (by decide) ?_
      refine eX_pcI ((GV.2 i (by omega)).2.2) ?_
      refine eR_icmp_eq (tgt := 46) dX8_wasSeenElsewhere_41 (by decide) (by first | exact rg_b01 _ | (unfold rg; omega)) (by first | exact rg_b01 _ | (unfold rg; omega)) (fun c41 => ?_) (fun c41 => ?_)
      · refine eR_iinc_2 dX8_wasSeenElsewhere_46 (by decide) rfl ?_
        refine eR_goto (tgt := 2) dX8_wasSeenElsewhere_49 (by decide) ?_
        exact ih (j + 1) (by omega) (fun x hx q => by
        by_cases hxj : x = j
        · subst hxj; first | exact c16 ⟨by omega, by omega⟩ | omega
        · exact hn x (by omega) q)
      · refine eR_ic dX8_wasSeenElsewhere_44 ?_
        refine eR_zret dX8_wasSeenElsewhere_45 rfl (by omega) ?_
        rw [b01_t ((elsB_ex i).mpr ⟨j, by omega, by omega, by omega, by omega⟩)] at k
        exact k
theorem ct_else (T : isTn (tau t s) t) (B : sB S) (V : cV h t S) (h38 : 38 ≤ t) {n : Nat} {sg : Nat → Nat → Nat} (G : sgB S n sg) (GV : sgC h n sg) {i : Nat} (hi : i < n) (k : Q (.int (zI (b01 (elsB sg i i = true)))) (tau t s) h) : eX g 1 mX8_wasSeenElsewhere 0 (lv_args 0 [.ref (gA g 0), .int (zI ↑i)]) [] (tau t s) h Q := by
  show eX g 1 mX8_wasSeenElsewhere 0 [(0, .ref (gA g 0)), (1, .int (zI ↑i))] [] (tau t s) h Q
  refine eR_ic dX8_wasSeenElsewhere_0 ?_
  refine eR_istn_n2 dX8_wasSeenElsewhere_1 rfl (by decide) rfl ?_
  exact cl_else T B V h38 G GV hi k i 0 (by omega) (fun x hx => absurd hx (Nat.not_lt_zero x))
theorem cl_theft (T : isTn (tau t s) t) (B : sB S) (V : cV h t S) (h38 : 38 ≤ t) {n : Nat} {sg : Nat → Nat → Nat} (G : sgB S n sg) (GV : sgC h n sg) : ∀ m i, i + m = n → Q (.int (zI (thfN S sg m i))) (tau t s) h → eX g 2 mX8_theft 2 [(0, .ref (gA g 0)), (1, .int (zI ↑i))] [] (tau t s) h Q := by
  have hP8 := B.1
  have hC8 := B.2.1
  have hE10 := B.2.2.1
  have hF99 := B.2.2.2.2.2.2.1
  have hg9 := G.1
  intro m
  induction m with
  | zero =>
    intro i hi k
    refine eR_ildn_1 dX8_theft_2 rfl ?_
    refine eR_aldn_0 dX8_theft_3 rfl ?_
    refine eR_getR (i := 38) dX8_theft_4 gf_X8_40 th_0 rfl ?_
    refine eR_getI dX8_theft_7 gf_X8_111 th_38 rfl ?_
    refine eX_pcI (GV.1) ?_
    refine eR_icmp_ge (tgt := 37) dX8_theft_10 (by decide) (by first | exact rg_b01 _ | (unfold rg; omega)) (by first | exact rg_b01 _ | (unfold rg; omega)) (fun c10 => ?_) (fun c10 => absurd c10 (by omega))
    refine eR_ic dX8_theft_37 ?_
    refine eR_iret dX8_theft_38 rfl rfl ?_
    exact k
  | succ m ih =>
    intro i hi k
    have hw9 := woS_lt B G (i := i) (by omega)
    refine eR_ildn_1 dX8_theft_2 rfl ?_
    refine eR_aldn_0 dX8_theft_3 rfl ?_
    refine eR_getR (i := 38) dX8_theft_4 gf_X8_40 th_0 rfl ?_
    refine eR_getI dX8_theft_7 gf_X8_111 th_38 rfl ?_
    refine eX_pcI (GV.1) ?_
    refine eR_icmp_ge (tgt := 37) dX8_theft_10 (by decide) (by first | exact rg_b01 _ | (unfold rg; omega)) (by first | exact rg_b01 _ | (unfold rg; omega)) (fun c10 => absurd c10 (by omega)) (fun c10 => ?_)
    refine eR_aldn_0 dX8_theft_13 rfl ?_
    refine eR_ildn_1 dX8_theft_14 rfl ?_
    refine eR_callVi [_] rfl dX8_theft_15 ok_mX8_ownersThere kw_781 rfl rfl th_0 rfl (Nat.le_of_ble_eq_true rfl) (d' := 0) (by decide) (Nat.le_of_ble_eq_true rfl) ?_
    refine ct_owners (i := i) T B V h38 G GV (by omega) ?_
    refine eR_if_eq (tgt := 29) dX8_theft_18 (by decide) (by first | exact rg_b01 _ | (unfold rg; omega)) (fun c18 => ?_) (fun c18 => ?_)
    · refine eR_ildn_1 dX8_theft_29 rfl ?_
      refine eR_iret dX8_theft_30 rfl rfl ?_
      have e9 : thfN S sg (m + 1) i = (i : Int) := if_pos (Or.inl (by omega))
      rw [e9] at k
      exact k
    · refine eR_aldn_0 dX8_theft_21 rfl ?_
      refine eR_ildn_1 dX8_theft_22 rfl ?_
      refine eR_callVi [_] rfl dX8_theft_23 ok_mX8_wasSeenElsewhere kw_789 rfl rfl th_0 rfl (Nat.le_of_ble_eq_true rfl) (d' := 1) (by decide) (Nat.le_of_ble_eq_true rfl) ?_
      refine ct_else (i := i) T B V h38 G GV (by omega) ?_
      refine eR_if_eq (tgt := 31) dX8_theft_26 (by decide) (by first | exact rg_b01 _ | (unfold rg; omega)) (fun c26 => ?_) (fun c26 => ?_)
      · replace c26 := b01_eq0.mp c26
        refine eR_iinc_1 dX8_theft_31 (by decide) rfl ?_
        refine eR_goto (tgt := 2) dX8_theft_34 (by decide) ?_
        have e9 : thfN S sg (m + 1) i = thfN S sg m (i + 1) := if_neg (by rintro (q | q); omega; contradiction)
        rw [e9] at k
        exact ih (i + 1) (by omega) k
      · replace c26 := b01_ne0.mp c26
        refine eR_ildn_1 dX8_theft_29 rfl ?_
        refine eR_iret dX8_theft_30 rfl rfl ?_
        have e9 : thfN S sg (m + 1) i = (i : Int) := if_pos (Or.inr (by assumption))
        rw [e9] at k
        exact k
theorem ct_theft (T : isTn (tau t s) t) (B : sB S) (V : cV h t S) (h38 : 38 ≤ t) {n : Nat} {sg : Nat → Nat → Nat} (G : sgB S n sg) (GV : sgC h n sg) (k : Q (.int (zI (thfN S sg n 0))) (tau t s) h) : eX g 2 mX8_theft 0 (lv_args 0 [.ref (gA g 0)]) [] (tau t s) h Q := by
  show eX g 2 mX8_theft 0 [(0, .ref (gA g 0))] [] (tau t s) h Q
  refine eR_ic dX8_theft_0 ?_
  refine eR_istn_n1 dX8_theft_1 rfl (by decide) rfl ?_
  exact cl_theft T B V h38 G GV n 0 (by omega) k
theorem cl_wrong (T : isTn (tau t s) t) (B : sB S) (V : cV h t S) (h38 : 38 ≤ t) {n : Nat} {bk : Nat → Nat → Nat} (G : bkB S n bk) (GV : bkC h n bk) {i : Nat} (hi : i < n) (hgood : ∀ k, k < i → jcl S bk k) (k1 : jdP S bk i → Q (.int (zI 1)) (tau t s) h) (k0 : ¬ jdP S bk i → Q (.int (zI 0)) (tau t s) h) : ∀ m j, j + m = i → (∀ x, x < j → ¬ (bk i 0 = bk x 0 ∧ bk i 1 = bk x 1)) → eX g 2 mX8_isWrong 17 [(0, .ref (gA g 0)), (1, .int (zI ↑i)), (2, .int (zI ↑(bk i 0))), (3, .int (zI ↑(drK S bk i j))), (4, .int (zI ↑j))] [] (tau t s) h Q := by
  have hP8 := B.1
  have hC8 := B.2.1
  have hE10 := B.2.2.1
  have hF99 := B.2.2.2.2.2.2.1
  have hg9 := G.1
  have hg8 := G.2 i hi
  have hc8 := clS_lt B hg8.2.1 (bk i 2)
  have hbs : ∀ i, i < n → bk i 0 < 24 ∧ bk i 1 < 8 := fun i hi => by have := G.2 i hi; omega
  intro m
  induction m with
  | zero =>
    intro j hj hn
    have e9 : i = j := by omega
    subst e9
    have hd9 := drK_lt B (i := i) G i (by omega)
    have ha9 : clS S (bk i 1) (bk i 2) &&& drK S bk i i ≤ clS S (bk i 1) (bk i 2) := Nat.and_le_left
    by_cases hcl : jcl S bk i
    · refine eR_ild_4 dX8_isWrong_17 ?_
      refine eR_ildn_1 dX8_isWrong_19 rfl ?_
      refine eR_icmp_ge (tgt := 95) dX8_isWrong_20 (by decide) (by first | exact rg_b01 _ | (unfold rg; omega)) (by first | exact rg_b01 _ | (unfold rg; omega)) (fun c20 => ?_) (fun c20 => absurd c20 (by omega))
      refine eR_aldn_0 dX8_isWrong_95 rfl ?_
      refine eR_getR (i := t) dX8_isWrong_96 gf_X8_57 th_0 rfl ?_
      refine eR_aldn_0 dX8_isWrong_99 rfl ?_
      refine eR_getR (i := 70) dX8_isWrong_100 gf_X8_44 th_0 rfl ?_
      refine eR_getR (i := 71) dX8_isWrong_103 gf_X8_250 th_70 rfl ?_
      refine eR_ildn_1 dX8_isWrong_106 rfl ?_
      refine eR_aald3 (n := i) (i := 72 + i) dX8_isWrong_107 th_71 (rfl) (by omega) (by decide) (rowsK_at (by omega)) ?_
      refine eR_ic dX8_isWrong_108 ?_
      refine eR_iald (n := 1) dX8_isWrong_109 (tr_b (i := i) (by omega)) (rfl) (by decide) (by decide) ?_
      refine eX_pcI ((GV.2 i (by omega)).2.1) ?_
      refine eR_aldn_0 dX8_isWrong_110 rfl ?_
      refine eR_getR (i := 70) dX8_isWrong_111 gf_X8_44 th_0 rfl ?_
      refine eR_getR (i := 71) dX8_isWrong_114 gf_X8_250 th_70 rfl ?_
      refine eR_ildn_1 dX8_isWrong_117 rfl ?_
      refine eR_aald3 (n := i) (i := 72 + i) dX8_isWrong_118 th_71 (rfl) (by omega) (by decide) (rowsK_at (by omega)) ?_
      refine eR_ic dX8_isWrong_119 ?_
      refine eR_iald (n := 2) dX8_isWrong_120 (tr_b (i := i) (by omega)) (rfl) (by decide) (by decide) ?_
      refine eX_pcI ((GV.2 i (by omega)).2.2) ?_
      refine eR_ildn_2 dX8_isWrong_121 rfl ?_
      refine eR_callVi [_, _, _] rfl dX8_isWrong_122 ok_mX6_wearers kw_813 rfl rfl T.1 rfl (Nat.le_of_ble_eq_true rfl) (d' := 1) (by decide) (Nat.le_of_ble_eq_true rfl) ?_
      refine tn_wearers (c := (bk i 1)) (ch := (bk i 2)) (hour := (bk i 0)) T B V (by omega) (by omega) (by omega) ?_
      refine eX_pcI (show (clad S (bk i 0) (bk i 1) (bk i 2) : Int) = ↑(clS S (bk i 1) (bk i 2)) from clad_y hcl) ?_
      refine eR_ist_4 dX8_isWrong_125 (by decide) rfl ?_
      refine eR_ild_4 dX8_isWrong_127 ?_
      refine eR_ic dX8_isWrong_129 ?_
      refine eR_icmp_eq (tgt := 140) dX8_isWrong_130 (by decide) (by first | exact rg_b01 _ | (unfold rg; omega)) (by first | exact rg_b01 _ | (unfold rg; omega)) (fun c130 => absurd c130 (by omega)) (fun c130 => ?_)
      refine eR_ild_4 dX8_isWrong_133 ?_
      refine eR_ildn_3 dX8_isWrong_135 rfl ?_
      refine eR_iand dX8_isWrong_136 ?_
      refine eX_pcI (show (zAnd (↑(clS S (bk i 1) (bk i 2))) ↑(drK S bk i i) : Int) = ↑(clS S (bk i 1) (bk i 2) &&& drK S bk i i : Nat) from zAnd_nat (by omega)) ?_
      refine eR_if_eq (tgt := 144) dX8_isWrong_137 (by decide) (by first | exact rg_b01 _ | (unfold rg; omega)) (fun c137 => ?_) (fun c137 => ?_)
      · refine eR_ic dX8_isWrong_144 ?_
        refine eR_zret dX8_isWrong_145 rfl (by omega) ?_
        refine k0 (fun q => ?_)
        rcases q with q | q
        · exact q hcl
        · obtain ⟨x, q1, q2, q3⟩ := (jdB_ex i).mp q
          rcases q3 with q3 | q3
          · exact hn x q1 ⟨q2.symm, q3.symm⟩
          · exact q3 ((drK_z i).mp (by omega) x q1 q2)
      · refine eR_ic dX8_isWrong_140 ?_
        refine eR_goto (tgt := 145) dX8_isWrong_141 (by decide) ?_
        refine eR_zret dX8_isWrong_145 rfl (by omega) ?_
        refine k1 (Or.inr ((jdB_ex i).mpr ?_))
        refine Classical.byContradiction (fun q => ?_)
        have q2 : clS S (bk i 1) (bk i 2) &&& drK S bk i i = 0 := (drK_z i).mpr (fun x hx hx2 => by
          by_cases q3 : clS S (bk x 1) (bk x 2) &&& clS S (bk i 1) (bk i 2) = 0
          · exact q3
          · exact absurd ⟨x, hx, hx2, Or.inr q3⟩ q)
        omega
    · refine eR_ild_4 dX8_isWrong_17 ?_
      refine eR_ildn_1 dX8_isWrong_19 rfl ?_
      refine eR_icmp_ge (tgt := 95) dX8_isWrong_20 (by decide) (by first | exact rg_b01 _ | (unfold rg; omega)) (by first | exact rg_b01 _ | (unfold rg; omega)) (fun c20 => ?_) (fun c20 => absurd c20 (by omega))
      refine eR_aldn_0 dX8_isWrong_95 rfl ?_
      refine eR_getR (i := t) dX8_isWrong_96 gf_X8_57 th_0 rfl ?_
      refine eR_aldn_0 dX8_isWrong_99 rfl ?_
      refine eR_getR (i := 70) dX8_isWrong_100 gf_X8_44 th_0 rfl ?_
      refine eR_getR (i := 71) dX8_isWrong_103 gf_X8_250 th_70 rfl ?_
      refine eR_ildn_1 dX8_isWrong_106 rfl ?_
      refine eR_aald3 (n := i) (i := 72 + i) dX8_isWrong_107 th_71 (rfl) (by omega) (by decide) (rowsK_at (by omega)) ?_
      refine eR_ic dX8_isWrong_108 ?_
      refine eR_iald (n := 1) dX8_isWrong_109 (tr_b (i := i) (by omega)) (rfl) (by decide) (by decide) ?_
      refine eX_pcI ((GV.2 i (by omega)).2.1) ?_
      refine eR_aldn_0 dX8_isWrong_110 rfl ?_
      refine eR_getR (i := 70) dX8_isWrong_111 gf_X8_44 th_0 rfl ?_
      refine eR_getR (i := 71) dX8_isWrong_114 gf_X8_250 th_70 rfl ?_
      refine eR_ildn_1 dX8_isWrong_117 rfl ?_
      refine eR_aald3 (n := i) (i := 72 + i) dX8_isWrong_118 th_71 (rfl) (by omega) (by decide) (rowsK_at (by omega)) ?_
      refine eR_ic dX8_isWrong_119 ?_
      refine eR_iald (n := 2) dX8_isWrong_120 (tr_b (i := i) (by omega)) (rfl) (by decide) (by decide) ?_
      refine eX_pcI ((GV.2 i (by omega)).2.2) ?_
      refine eR_ildn_2 dX8_isWrong_121 rfl ?_
      refine eR_callVi [_, _, _] rfl dX8_isWrong_122 ok_mX6_wearers kw_813 rfl rfl T.1 rfl (Nat.le_of_ble_eq_true rfl) (d' := 1) (by decide) (Nat.le_of_ble_eq_true rfl) ?_
      refine tn_wearers (c := (bk i 1)) (ch := (bk i 2)) (hour := (bk i 0)) T B V (by omega) (by omega) (by omega) ?_
      refine eX_pcI (show (clad S (bk i 0) (bk i 1) (bk i 2) : Int) = (-1) from clad_n hcl) ?_
      refine eR_ist_4 dX8_isWrong_125 (by decide) rfl ?_
      refine eR_ild_4 dX8_isWrong_127 ?_
      refine eR_ic dX8_isWrong_129 ?_
      refine eR_icmp_eq (tgt := 140) dX8_isWrong_130 (by decide) (by first | exact rg_b01 _ | (unfold rg; omega)) (by first | exact rg_b01 _ | (unfold rg; omega)) (fun c130 => ?_) (fun c130 => absurd c130 (by omega))
      refine eR_ic dX8_isWrong_140 ?_
      refine eR_goto (tgt := 145) dX8_isWrong_141 (by decide) ?_
      refine eR_zret dX8_isWrong_145 rfl (by omega) ?_
      exact k1 (Or.inl hcl)
  | succ m ih =>
    intro j hj hn
    have hg7 := G.2 j (by omega)
    have hc7 := clS_lt B hg7.2.1 (bk j 2)
    have hd9 := drK_lt B (i := i) G j (by omega)
    refine eR_ild_4 dX8_isWrong_17 ?_
    refine eR_ildn_1 dX8_isWrong_19 rfl ?_
    refine eR_icmp_ge (tgt := 95) dX8_isWrong_20 (by decide) (by first | exact rg_b01 _ | (unfold rg; omega)) (by first | exact rg_b01 _ | (unfold rg; omega)) (fun c20 => absurd c20 (by omega)) (fun c20 => ?_)
    refine eR_aldn_0 dX8_isWrong_23 rfl ?_
    refine eR_getR (i := 70) dX8_isWrong_24 gf_X8_44 th_0 rfl ?_
    refine eR_ildn_1 dX8_isWrong_27 rfl ?_
    refine eR_ild_4 dX8_isWrong_28 ?_
    refine eR_callVi [_, _] rfl dX8_isWrong_30 ok_mX5_tellOfTheSame kw_793 rfl rfl th_70 rfl (Nat.le_of_ble_eq_true rfl) (d' := 0) (by decide) (Nat.le_of_ble_eq_true rfl) ?_
    refine rw_same_bk (i := i) (j := j) GV hg9 hbs (by omega) (by omega) ?_
    refine eR_if_eq (tgt := 38) dX8_isWrong_33 (by decide) (by first | exact rg_b01 _ | (unfold rg; omega)) (fun c33 => ?_) (fun c33 => ?_)
    · replace c33 := b01_eq0.mp c33
      refine eR_aldn_0 dX8_isWrong_38 rfl ?_
      refine eR_getR (i := 70) dX8_isWrong_39 gf_X8_44 th_0 rfl ?_
      refine eR_getR (i := 71) dX8_isWrong_42 gf_X8_250 th_70 rfl ?_
      refine eR_ild_4 dX8_isWrong_45 ?_
      refine eR_aald3 (n := j) (i := 72 + j) dX8_isWrong_47 th_71 (rfl) (by omega) (by decide) (rowsK_at (by omega)) ?_
      refine eR_ic dX8_isWrong_48 ?_
      refine eR_iald (n := 0) dX8_isWrong_49 (tr_b (i := j) (by omega)) (rfl) (by decide) (by decide) ?_
      refine eX_pcI ((GV.2 j (by omega)).1) ?_
      refine eR_ildn_2 dX8_isWrong_50 rfl ?_
      refine eR_icmp_ne (tgt := 89) dX8_isWrong_51 (by decide) (by first | exact rg_b01 _ | (unfold rg; omega)) (by first | exact rg_b01 _ | (unfold rg; omega)) (fun c51 => ?_) (fun c51 => ?_)
      · refine eR_iinc_4 dX8_isWrong_89 (by decide) rfl ?_
        refine eR_goto (tgt := 17) dX8_isWrong_92 (by decide) ?_
        have e9 : drK S bk i (j + 1) = drK S bk i j := if_neg (by omega)
        have e8 := ih (j + 1) (by omega) (fun x hx q => by
          by_cases hxj : x = j
          · subst hxj; exact c33 q
          · exact hn x (by omega) q)
        rw [e9] at e8
        exact e8
      · refine eR_ildn_3 dX8_isWrong_54 rfl ?_
        refine eR_aldn_0 dX8_isWrong_55 rfl ?_
        refine eR_getR (i := t) dX8_isWrong_56 gf_X8_57 th_0 rfl ?_
        refine eR_aldn_0 dX8_isWrong_59 rfl ?_
        refine eR_getR (i := 70) dX8_isWrong_60 gf_X8_44 th_0 rfl ?_
        refine eR_getR (i := 71) dX8_isWrong_63 gf_X8_250 th_70 rfl ?_
        refine eR_ild_4 dX8_isWrong_66 ?_
        refine eR_aald3 (n := j) (i := 72 + j) dX8_isWrong_68 th_71 (rfl) (by omega) (by decide) (rowsK_at (by omega)) ?_
        refine eR_ic dX8_isWrong_69 ?_
        refine eR_iald (n := 1) dX8_isWrong_70 (tr_b (i := j) (by omega)) (rfl) (by decide) (by decide) ?_
        refine eX_pcI ((GV.2 j (by omega)).2.1) ?_
        refine eR_aldn_0 dX8_isWrong_71 rfl ?_
        refine eR_getR (i := 70) dX8_isWrong_72 gf_X8_44 th_0 rfl ?_
        refine eR_getR (i := 71) dX8_isWrong_75 gf_X8_250 th_70 rfl ?_
        refine eR_ild_4 dX8_isWrong_78 ?_
        refine eR_aald3 (n := j) (i := 72 + j) dX8_isWrong_80 th_71 (rfl) (by omega) (by decide) (rowsK_at (by omega)) ?_
        refine eR_ic dX8_isWrong_81 ?_
        refine eR_iald (n := 2) dX8_isWrong_82 (tr_b (i := j) (by omega)) (rfl) (by decide) (by decide) ?_
        refine eX_pcI ((GV.2 j (by omega)).2.2) ?_
        refine eR_ildn_2 dX8_isWrong_83 rfl ?_
        refine eR_callVi [_, _, _] rfl dX8_isWrong_84 ok_mX6_wearers kw_813 rfl rfl T.1 rfl (Nat.le_of_ble_eq_true rfl) (d' := 1) (by decide) (Nat.le_of_ble_eq_true rfl) ?_
        refine tn_wearers (c := (bk j 1)) (ch := (bk j 2)) (hour := (bk i 0)) T B V (by omega) (by omega) (by omega) ?_
        refine eX_pcI (show (clad S (bk i 0) (bk j 1) (bk j 2) : Int) = ↑(clS S (bk j 1) (bk j 2)) from by rw [show bk i 0 = bk j 0 from by omega]; exact clad_y (hgood j (by omega))) ?_
        refine eR_ior dX8_isWrong_87 ?_
        refine eX_pcI (show (zOr ↑(drK S bk i j) (↑(clS S (bk j 1) (bk j 2))) : Int) = ↑(drK S bk i j ||| clS S (bk j 1) (bk j 2) : Nat) from zOr_nat (by omega) (by omega)) ?_
        refine eR_istn_3 dX8_isWrong_88 rfl (by decide) rfl ?_
        refine eR_iinc_4 dX8_isWrong_89 (by decide) rfl ?_
        refine eR_goto (tgt := 17) dX8_isWrong_92 (by decide) ?_
        have e9 : drK S bk i (j + 1) = drK S bk i j ||| clS S (bk j 1) (bk j 2) := if_pos (by omega)
        have e8 := ih (j + 1) (by omega) (fun x hx q => by
          by_cases hxj : x = j
          · subst hxj; exact c33 q
          · exact hn x (by omega) q)
        rw [e9] at e8
        exact e8
    · replace c33 := b01_ne0.mp c33
      refine eR_ic dX8_isWrong_36 ?_
      refine eR_zret dX8_isWrong_37 rfl (by omega) ?_
      exact k1 (Or.inr ((jdB_ex i).mpr ⟨j, by omega, by omega, Or.inl (by omega)⟩))
theorem ct_wrong (T : isTn (tau t s) t) (B : sB S) (V : cV h t S) (h38 : 38 ≤ t) {n : Nat} {bk : Nat → Nat → Nat} (G : bkB S n bk) (GV : bkC h n bk) {i : Nat} (hi : i < n) (hgood : ∀ k, k < i → jcl S bk k) (k1 : jdP S bk i → Q (.int (zI 1)) (tau t s) h) (k0 : ¬ jdP S bk i → Q (.int (zI 0)) (tau t s) h) : eX g 2 mX8_isWrong 0 (lv_args 0 [.ref (gA g 0), .int (zI ↑i)]) [] (tau t s) h Q := by
  show eX g 2 mX8_isWrong 0 [(0, .ref (gA g 0)), (1, .int (zI ↑i))] [] (tau t s) h Q
  have hg9 := G.1
  have hg8 := G.2 i hi
  refine eR_aldn_0 dX8_isWrong_0 rfl ?_
  refine eR_getR (i := 70) dX8_isWrong_1 gf_X8_44 th_0 rfl ?_
  refine eR_getR (i := 71) dX8_isWrong_4 gf_X8_250 th_70 rfl ?_
  refine eR_ildn_1 dX8_isWrong_7 rfl ?_
  refine eR_aald3 (n := i) (i := 72 + i) dX8_isWrong_8 th_71 (rfl) (by omega) (by decide) (rowsK_at (by omega)) ?_
  refine eR_ic dX8_isWrong_9 ?_
  refine eR_iald (n := 0) dX8_isWrong_10 (tr_b (i := i) (by omega)) (rfl) (by decide) (by decide) ?_
  refine eX_pcI ((GV.2 i (by omega)).1) ?_
  refine eR_istn_n2 dX8_isWrong_11 rfl (by decide) rfl ?_
  refine eR_ic dX8_isWrong_12 ?_
  refine eR_istn_n3 dX8_isWrong_13 rfl (by decide) rfl ?_
  refine eR_ic dX8_isWrong_14 ?_
  refine eR_ist_n4 dX8_isWrong_15 (by decide) rfl ?_
  exact cl_wrong T B V h38 G GV hi hgood k1 k0 i 0 (by omega) (fun x hx => absurd hx (Nat.not_lt_zero x))
theorem cl_judge (T : isTn (tau t s) t) (B : sB S) (V : cV h t S) (h38 : 38 ≤ t) {n : Nat} {bk : Nat → Nat → Nat} (G : bkB S n bk) (GV : bkC h n bk) : ∀ m i, i + m = n → (∀ k, k < i → jcl S bk k) → Q (.int (zI (jdN S bk m i))) (tau t s) h → eX g 3 mX8_judge 2 [(0, .ref (gA g 0)), (1, .int (zI ↑i))] [] (tau t s) h Q := by
  have hg9 := G.1
  intro m
  induction m with
  | zero =>
    intro i hi hgood k
    refine eR_ildn_1 dX8_judge_2 rfl ?_
    refine eR_aldn_0 dX8_judge_3 rfl ?_
    refine eR_getR (i := 70) dX8_judge_4 gf_X8_44 th_0 rfl ?_
    refine eR_getI dX8_judge_7 gf_X8_111 th_70 rfl ?_
    refine eX_pcI (GV.1) ?_
    refine eR_icmp_ge (tgt := 29) dX8_judge_10 (by decide) (by first | exact rg_b01 _ | (unfold rg; omega)) (by first | exact rg_b01 _ | (unfold rg; omega)) (fun c10 => ?_) (fun c10 => absurd c10 (by omega))
    refine eR_ic dX8_judge_29 ?_
    refine eR_iret dX8_judge_30 rfl rfl ?_
    exact k
  | succ m ih =>
    intro i hi hgood k
    refine eR_ildn_1 dX8_judge_2 rfl ?_
    refine eR_aldn_0 dX8_judge_3 rfl ?_
    refine eR_getR (i := 70) dX8_judge_4 gf_X8_44 th_0 rfl ?_
    refine eR_getI dX8_judge_7 gf_X8_111 th_70 rfl ?_
    refine eX_pcI (GV.1) ?_
    refine eR_icmp_ge (tgt := 29) dX8_judge_10 (by decide) (by first | exact rg_b01 _ | (unfold rg; omega)) (by first | exact rg_b01 _ | (unfold rg; omega)) (fun c10 => absurd c10 (by omega)) (fun c10 => ?_)
    refine eR_aldn_0 dX8_judge_13 rfl ?_
    refine eR_ildn_1 dX8_judge_14 rfl ?_
    refine eR_callVi [_] rfl dX8_judge_15 ok_mX8_isWrong kw_809 rfl rfl th_0 rfl (Nat.le_of_ble_eq_true rfl) (d' := 2) (by decide) (Nat.le_of_ble_eq_true rfl) ?_
    refine ct_wrong (i := i) T B V h38 G GV (by omega) hgood (fun hw => ?_) (fun hw => ?_)
    · refine eR_if_eq (tgt := 23) dX8_judge_18 (by decide) (by first | exact rg_b01 _ | (unfold rg; omega)) (fun c18 => absurd c18 (by decide)) (fun c18 => ?_)
      refine eR_ildn_1 dX8_judge_21 rfl ?_
      refine eR_iret dX8_judge_22 rfl rfl ?_
      have e9 : jdN S bk (m + 1) i = (i : Int) := if_pos hw
      rw [e9] at k
      exact k
    · refine eR_if_eq (tgt := 23) dX8_judge_18 (by decide) (by first | exact rg_b01 _ | (unfold rg; omega)) (fun c18 => ?_) (fun c18 => absurd c18 (by decide))
      refine eR_iinc_1 dX8_judge_23 (by decide) rfl ?_
      refine eR_goto (tgt := 2) dX8_judge_26 (by decide) ?_
      have e9 : jdN S bk (m + 1) i = jdN S bk m (i + 1) := if_neg hw
      rw [e9] at k
      have hcl : jcl S bk i := Classical.byContradiction (fun q => hw (Or.inl q))
      exact ih (i + 1) (by omega) (fun x hx => by rcases Nat.lt_or_ge x i with q | q; exact hgood x q; rw [show x = i from by omega]; exact hcl) k
theorem ct_judge (T : isTn (tau t s) t) (B : sB S) (V : cV h t S) (h38 : 38 ≤ t) {n : Nat} {bk : Nat → Nat → Nat} (G : bkB S n bk) (GV : bkC h n bk) (k : Q (.int (zI (jdN S bk n 0))) (tau t s) h) : eX g 3 mX8_judge 0 (lv_args 0 [.ref (gA g 0)]) [] (tau t s) h Q := by
  show eX g 3 mX8_judge 0 [(0, .ref (gA g 0))] [] (tau t s) h Q
  refine eR_ic dX8_judge_0 ?_
  refine eR_istn_n1 dX8_judge_1 rfl (by decide) rfl ?_
  exact cl_judge T B V h38 G GV n 0 (by omega) (fun x hx => absurd hx (Nat.not_lt_zero x)) k
theorem ct_tear {a b : Nat} (ha : h 38 1 = (a : Int)) (hb : h 70 1 = (b : Int)) (k : Q (.int (zI (↑a + ↑b))) (tau t s) (hU (hU h 38 1 0) 70 1 0)) : eX g 1 mX8_tear 0 (lv_args 0 [.ref (gA g 0)]) [] (tau t s) h Q := by
  show eX g 1 mX8_tear 0 [(0, .ref (gA g 0))] [] (tau t s) h Q
  refine eR_aldn_0 dX8_tear_0 rfl ?_
  refine eR_getR (i := 38) dX8_tear_1 gf_X8_40 th_0 rfl ?_
  refine eR_getI dX8_tear_4 gf_X8_111 th_38 rfl ?_
  refine eX_pcI (ha) ?_
  refine eR_aldn_0 dX8_tear_7 rfl ?_
  refine eR_getR (i := 70) dX8_tear_8 gf_X8_44 th_0 rfl ?_
  refine eR_getI dX8_tear_11 gf_X8_111 th_70 rfl ?_
  refine eX_pcI (hb) ?_
  refine eR_iadd dX8_tear_14 ?_
  refine eR_istn_n1 dX8_tear_15 rfl (by decide) rfl ?_
  refine eR_aldn_0 dX8_tear_16 rfl ?_
  refine eR_getR (i := 38) dX8_tear_17 gf_X8_40 th_0 rfl ?_
  refine eR_callVv [] rfl dX8_tear_20 ok_mX5_empty kw_510 rfl rfl th_38 rfl (Nat.le_of_ble_eq_true rfl) (d' := 0) (by decide) (Nat.le_of_ble_eq_true rfl) ?_
  refine rw_empty_sg ?_
  refine eR_aldn_0 dX8_tear_23 rfl ?_
  refine eR_getR (i := 70) dX8_tear_24 gf_X8_44 th_0 rfl ?_
  refine eR_callVv [] rfl dX8_tear_27 ok_mX5_empty kw_510 rfl rfl th_70 rfl (Nat.le_of_ble_eq_true rfl) (d' := 0) (by decide) (Nat.le_of_ble_eq_true rfl) ?_
  refine rw_empty_bk ?_
  refine eR_ildn_1 dX8_tear_30 rfl ?_
  refine eR_iret dX8_tear_31 rfl rfl ?_
  exact k
theorem ct_seed {x : Nat} (hx : h 0 9 = (x : Int)) {v : Int} (hr_v : rg v) (k0 : v < 0 → Q (.int (zI (-1000000002))) (tau t s) h) (k1 : 0 ≤ v → Q (.int (zI ↑x)) (tau t s) (hU h 0 9 v)) : eX g 0 mX8_seed 0 (lv_args 0 [.ref (gA g 0), .int (zI v)]) [] (tau t s) h Q := by
  show eX g 0 mX8_seed 0 [(0, .ref (gA g 0)), (1, .int (zI v))] [] (tau t s) h Q
  refine eR_ildn_1 dX8_seed_0 rfl ?_
  refine eR_if_ge (tgt := 7) dX8_seed_1 (by decide) (by first | assumption | exact rg_b01 _ | (unfold rg; omega) | (unfold rg at *; omega)) (fun c1 => ?_) (fun c1 => ?_)
  · refine eR_aldn_0 dX8_seed_7 rfl ?_
    refine eR_getL dX8_seed_8 gf_X8_64 th_0 rfl ?_
    refine eX_pcL (hx) ?_
    refine eR_l2iz dX8_seed_11 ?_
    refine eR_istn_n2 dX8_seed_12 rfl (by decide) rfl ?_
    refine eR_aldn_0 dX8_seed_13 rfl ?_
    refine eR_ildn_1 dX8_seed_14 rfl ?_
    refine eR_i2lz dX8_seed_15 (by first | assumption | exact rg_b01 _ | (unfold rg; omega) | (unfold rg at *; omega)) ?_
    refine eR_putL dX8_seed_16 pf_X8_64 th_0 rfl ?_
    refine eR_ildn_2 dX8_seed_19 rfl ?_
    refine eR_iret dX8_seed_20 rfl rfl ?_
    exact k1 (by omega)
  · refine eR_ldc (z := -1000000002) dX8_seed_4 kw_349 (by decide) ?_
    refine eR_iret dX8_seed_6 rfl rfl ?_
    exact k0 (by omega)
theorem ct_keep (T : isTn (tau t s) t) (B : sB S) (V : cV h t S) (h38 : 38 ≤ t) (h123 : 123 ≤ t) {x : Nat} (hx : h 0 9 = (x : Int)) {i : Int} (hr_i : rg i) (k0 : ¬ (0 ≤ i ∧ i ≤ 1) → Q (.int (zI (-1000000001))) (tau t s) h) (k1 : ∀ m : Nat, m < 2 → i = (m : Int) → ∀ h1 : PH, ofR (103 + 10 * m) (103 + 10 * m + 10) h h1 → h1 (103 + 10 * m) 0 = 1 → h1 (103 + 10 * m) 1 = (x : Int) → h1 (103 + 10 * m) 2 = (sF S : Int) → h1 (103 + 10 * m) 3 = (sK S : Int) → (∀ c k, c < sC S → k < 2 → h1 (103 + 10 * m + 2 + c) k = (sO S c k : Int)) → Q (.int (zI 1)) (tau t s) h1) : eX g 2 mX8_keep 0 (lv_args 0 [.ref (gA g 0), .int (zI i)]) [] (tau t s) h Q := by
  show eX g 2 mX8_keep 0 [(0, .ref (gA g 0)), (1, .int (zI i))] [] (tau t s) h Q
  by_cases hq : 0 ≤ i ∧ i ≤ 1
  · rcases (show i = 0 ∨ i = 1 by omega) with rfl | rfl
    · refine eR_ildn_1 dX8_keep_0 rfl ?_
      refine eR_if_lt (tgt := 9) dX8_keep_1 (by decide) (by first | exact rg_b01 _ | (unfold rg; omega)) (fun c1 => absurd c1 (by decide)) (fun c1 => ?_)
      refine eR_ildn_1 dX8_keep_4 rfl ?_
      refine eR_ic dX8_keep_5 ?_
      refine eR_icmp_lt (tgt := 12) dX8_keep_6 (by decide) (by first | exact rg_b01 _ | (unfold rg; omega)) (by first | exact rg_b01 _ | (unfold rg; omega)) (fun c6 => ?_) (fun c6 => absurd c6 (by decide))
      refine eR_aldn_0 dX8_keep_12 rfl ?_
      refine eR_getR (i := 102) dX8_keep_13 gf_X8_49 th_0 rfl ?_
      refine eR_ildn_1 dX8_keep_16 rfl ?_
      refine eR_aald4 (n := 0) (i := 103) dX8_keep_17 th_102 (rfl) (by decide) (by decide) (rfl) ?_
      refine eR_aldn_0 dX8_keep_18 rfl ?_
      refine eR_getR (i := t) dX8_keep_19 gf_X8_57 th_0 rfl ?_
      refine eR_aldn_0 dX8_keep_22 rfl ?_
      refine eR_getL dX8_keep_23 gf_X8_64 th_0 rfl ?_
      refine eX_pcL (hx) ?_
      refine eR_callVv [_, _] rfl dX8_keep_26 ok_mX0_take kw_838 rfl rfl im_0.1 rfl (Nat.le_of_ble_eq_true rfl) (d' := 1) (by decide) (Nat.le_of_ble_eq_true rfl) ?_
      refine im_take (b := 103) T B V im_0 (Or.inl (by omega)) (fun h1 O1 a0 a1 a2 a3 aO => ?_)
      refine eR_ic dX8_keep_29 ?_
      refine eR_iret dX8_keep_30 rfl rfl ?_
      exact k1 0 (by decide) rfl h1 O1 a0 a1 a2 a3 aO
    · refine eR_ildn_1 dX8_keep_0 rfl ?_
      refine eR_if_lt (tgt := 9) dX8_keep_1 (by decide) (by first | exact rg_b01 _ | (unfold rg; omega)) (fun c1 => absurd c1 (by decide)) (fun c1 => ?_)
      refine eR_ildn_1 dX8_keep_4 rfl ?_
      refine eR_ic dX8_keep_5 ?_
      refine eR_icmp_lt (tgt := 12) dX8_keep_6 (by decide) (by first | exact rg_b01 _ | (unfold rg; omega)) (by first | exact rg_b01 _ | (unfold rg; omega)) (fun c6 => ?_) (fun c6 => absurd c6 (by decide))
      refine eR_aldn_0 dX8_keep_12 rfl ?_
      refine eR_getR (i := 102) dX8_keep_13 gf_X8_49 th_0 rfl ?_
      refine eR_ildn_1 dX8_keep_16 rfl ?_
      refine eR_aald4 (n := 1) (i := 113) dX8_keep_17 th_102 (rfl) (by decide) (by decide) (rfl) ?_
      refine eR_aldn_0 dX8_keep_18 rfl ?_
      refine eR_getR (i := t) dX8_keep_19 gf_X8_57 th_0 rfl ?_
      refine eR_aldn_0 dX8_keep_22 rfl ?_
      refine eR_getL dX8_keep_23 gf_X8_64 th_0 rfl ?_
      refine eX_pcL (hx) ?_
      refine eR_callVv [_, _] rfl dX8_keep_26 ok_mX0_take kw_838 rfl rfl im_1.1 rfl (Nat.le_of_ble_eq_true rfl) (d' := 1) (by decide) (Nat.le_of_ble_eq_true rfl) ?_
      refine im_take (b := 113) T B V im_1 (Or.inl (by omega)) (fun h1 O1 a0 a1 a2 a3 aO => ?_)
      refine eR_ic dX8_keep_29 ?_
      refine eR_iret dX8_keep_30 rfl rfl ?_
      exact k1 1 (by decide) rfl h1 O1 a0 a1 a2 a3 aO
  · refine eR_ildn_1 dX8_keep_0 rfl ?_
    refine eR_if_lt (tgt := 9) dX8_keep_1 (by decide) (by first | assumption | exact rg_b01 _ | (unfold rg; omega) | (unfold rg at *; omega)) (fun c1 => ?_) (fun c1 => ?_)
    · refine eR_ldc (z := -1000000001) dX8_keep_9 kw_612 (by decide) ?_
      refine eR_iret dX8_keep_11 rfl rfl ?_
      exact k0 hq
    · refine eR_ildn_1 dX8_keep_4 rfl ?_
      refine eR_ic dX8_keep_5 ?_
      refine eR_icmp_lt (tgt := 12) dX8_keep_6 (by decide) (by first | assumption | exact rg_b01 _ | (unfold rg; omega) | (unfold rg at *; omega)) (by first | assumption | exact rg_b01 _ | (unfold rg; omega) | (unfold rg at *; omega)) (fun c6 => ?_) (fun c6 => ?_)
      · exact absurd ⟨by omega, by omega⟩ hq
      · refine eR_ldc (z := -1000000001) dX8_keep_9 kw_612 (by decide) ?_
        refine eR_iret dX8_keep_11 rfl rfl ?_
        exact k0 hq
theorem ct_goBack (T : isTn (tau t s) t) (B : sB S) (V : cV h t S) (h38 : 38 ≤ t) (h123 : 123 ≤ t) {S2 : Nat → TS} {y : Nat → Nat} (hk : ∀ m : Nat, m < 2 → h (103 + 10 * m) 0 = 0 ∨ (h (103 + 10 * m) 0 = 1 ∧ imC h S (103 + 10 * m) (S2 m) (y m))) {i : Int} (hr_i : rg i) (k0 : ¬ (0 ≤ i ∧ i ≤ 1) → Q (.int (zI (-1000000001))) (tau t s) h) (k1 : ∀ m : Nat, m < 2 → i = (m : Int) → h (103 + 10 * m) 0 = 0 → Q (.int (zI (-1000000003))) (tau t s) h) (k2 : ∀ m : Nat, m < 2 → i = (m : Int) → h (103 + 10 * m) 0 = 1 → ∀ h1 : PH, ofR t (t + 10) h h1 → cV h1 t (S2 m) → Q (.int (zI 1)) (tau t s) (hU h1 0 9 ↑(y m))) : eX g 2 mX8_goBack 0 (lv_args 0 [.ref (gA g 0), .int (zI i)]) [] (tau t s) h Q := by
  show eX g 2 mX8_goBack 0 [(0, .ref (gA g 0)), (1, .int (zI i))] [] (tau t s) h Q
  by_cases hq : 0 ≤ i ∧ i ≤ 1
  · rcases (show i = 0 ∨ i = 1 by omega) with rfl | rfl
    · rcases hk 0 (by decide) with hk9 | ⟨hk9, hi9⟩
      · refine eR_ildn_1 dX8_goBack_0 rfl ?_
        refine eR_if_lt (tgt := 9) dX8_goBack_1 (by decide) (by first | exact rg_b01 _ | (unfold rg; omega)) (fun c1 => absurd c1 (by decide)) (fun c1 => ?_)
        refine eR_ildn_1 dX8_goBack_4 rfl ?_
        refine eR_ic dX8_goBack_5 ?_
        refine eR_icmp_lt (tgt := 12) dX8_goBack_6 (by decide) (by first | exact rg_b01 _ | (unfold rg; omega)) (by first | exact rg_b01 _ | (unfold rg; omega)) (fun c6 => ?_) (fun c6 => absurd c6 (by decide))
        refine eR_aldn_0 dX8_goBack_12 rfl ?_
        refine eR_getR (i := 102) dX8_goBack_13 gf_X8_49 th_0 rfl ?_
        refine eR_ildn_1 dX8_goBack_16 rfl ?_
        refine eR_aald4 (n := 0) (i := 103) dX8_goBack_17 th_102 (rfl) (by decide) (by decide) (rfl) ?_
        refine eR_getZ dX8_goBack_18 gf_X8_89 im_0.1 rfl ?_
        refine eX_pcI (hk9) ?_
        refine eR_if_ne (tgt := 27) dX8_goBack_21 (by decide) (by first | exact rg_b01 _ | (unfold rg; omega)) (fun c21 => absurd c21 (by decide)) (fun c21 => ?_)
        refine eR_ldc (z := -1000000003) dX8_goBack_24 kw_663 (by decide) ?_
        refine eR_iret dX8_goBack_26 rfl rfl ?_
        exact k1 0 (by decide) rfl hk9
      · refine eR_ildn_1 dX8_goBack_0 rfl ?_
        refine eR_if_lt (tgt := 9) dX8_goBack_1 (by decide) (by first | exact rg_b01 _ | (unfold rg; omega)) (fun c1 => absurd c1 (by decide)) (fun c1 => ?_)
        refine eR_ildn_1 dX8_goBack_4 rfl ?_
        refine eR_ic dX8_goBack_5 ?_
        refine eR_icmp_lt (tgt := 12) dX8_goBack_6 (by decide) (by first | exact rg_b01 _ | (unfold rg; omega)) (by first | exact rg_b01 _ | (unfold rg; omega)) (fun c6 => ?_) (fun c6 => absurd c6 (by decide))
        refine eR_aldn_0 dX8_goBack_12 rfl ?_
        refine eR_getR (i := 102) dX8_goBack_13 gf_X8_49 th_0 rfl ?_
        refine eR_ildn_1 dX8_goBack_16 rfl ?_
        refine eR_aald4 (n := 0) (i := 103) dX8_goBack_17 th_102 (rfl) (by decide) (by decide) (rfl) ?_
        refine eR_getZ dX8_goBack_18 gf_X8_89 im_0.1 rfl ?_
        refine eX_pcI (hk9) ?_
        refine eR_if_ne (tgt := 27) dX8_goBack_21 (by decide) (by first | exact rg_b01 _ | (unfold rg; omega)) (fun c21 => ?_) (fun c21 => absurd c21 (by decide))
        refine eR_aldn_0 dX8_goBack_27 rfl ?_
        refine eR_getR (i := 102) dX8_goBack_28 gf_X8_49 th_0 rfl ?_
        refine eR_ildn_1 dX8_goBack_31 rfl ?_
        refine eR_aald4 (n := 0) (i := 103) dX8_goBack_32 th_102 (rfl) (by decide) (by decide) (rfl) ?_
        refine eR_aldn_0 dX8_goBack_33 rfl ?_
        refine eR_getR (i := t) dX8_goBack_34 gf_X8_57 th_0 rfl ?_
        refine eR_callVv [_] rfl dX8_goBack_37 ok_mX0_giveBack kw_849 rfl rfl im_0.1 rfl (Nat.le_of_ble_eq_true rfl) (d' := 1) (by decide) (Nat.le_of_ble_eq_true rfl) ?_
        refine im_giveBack (b := 103) (S2 := S2 0) T B V im_0 (Or.inl (by omega)) hi9.1 hi9.2.2.1 hi9.2.2.2.1 hi9.2.2.2.2 (fun h1 O1 V1 => ?_)
        have hs9 : h1 103 1 = (y 0 : Int) := by rw [O1 103 (by omega)]; exact hi9.2.1
        refine eR_aldn_0 dX8_goBack_40 rfl ?_
        refine eR_aldn_0 dX8_goBack_41 rfl ?_
        refine eR_getR (i := 102) dX8_goBack_42 gf_X8_49 th_0 rfl ?_
        refine eR_ildn_1 dX8_goBack_45 rfl ?_
        refine eR_aald4 (n := 0) (i := 103) dX8_goBack_46 th_102 (rfl) (by decide) (by decide) (rfl) ?_
        refine eR_getL dX8_goBack_47 gf_X8_247 im_0.1 rfl ?_
        refine eX_pcL (hs9) ?_
        refine eR_putL dX8_goBack_50 pf_X8_64 th_0 rfl ?_
        refine eR_ic dX8_goBack_53 ?_
        refine eR_iret dX8_goBack_54 rfl rfl ?_
        exact k2 0 (by decide) rfl hk9 h1 O1 V1
    · rcases hk 1 (by decide) with hk9 | ⟨hk9, hi9⟩
      · refine eR_ildn_1 dX8_goBack_0 rfl ?_
        refine eR_if_lt (tgt := 9) dX8_goBack_1 (by decide) (by first | exact rg_b01 _ | (unfold rg; omega)) (fun c1 => absurd c1 (by decide)) (fun c1 => ?_)
        refine eR_ildn_1 dX8_goBack_4 rfl ?_
        refine eR_ic dX8_goBack_5 ?_
        refine eR_icmp_lt (tgt := 12) dX8_goBack_6 (by decide) (by first | exact rg_b01 _ | (unfold rg; omega)) (by first | exact rg_b01 _ | (unfold rg; omega)) (fun c6 => ?_) (fun c6 => absurd c6 (by decide))
        refine eR_aldn_0 dX8_goBack_12 rfl ?_
        refine eR_getR (i := 102) dX8_goBack_13 gf_X8_49 th_0 rfl ?_
        refine eR_ildn_1 dX8_goBack_16 rfl ?_
        refine eR_aald4 (n := 1) (i := 113) dX8_goBack_17 th_102 (rfl) (by decide) (by decide) (rfl) ?_
        refine eR_getZ dX8_goBack_18 gf_X8_89 im_1.1 rfl ?_
        refine eX_pcI (hk9) ?_
        refine eR_if_ne (tgt := 27) dX8_goBack_21 (by decide) (by first | exact rg_b01 _ | (unfold rg; omega)) (fun c21 => absurd c21 (by decide)) (fun c21 => ?_)
        refine eR_ldc (z := -1000000003) dX8_goBack_24 kw_663 (by decide) ?_
        refine eR_iret dX8_goBack_26 rfl rfl ?_
        exact k1 1 (by decide) rfl hk9
      · refine eR_ildn_1 dX8_goBack_0 rfl ?_
        refine eR_if_lt (tgt := 9) dX8_goBack_1 (by decide) (by first | exact rg_b01 _ | (unfold rg; omega)) (fun c1 => absurd c1 (by decide)) (fun c1 => ?_)
        refine eR_ildn_1 dX8_goBack_4 rfl ?_
        refine eR_ic dX8_goBack_5 ?_
        refine eR_icmp_lt (tgt := 12) dX8_goBack_6 (by decide) (by first | exact rg_b01 _ | (unfold rg; omega)) (by first | exact rg_b01 _ | (unfold rg; omega)) (fun c6 => ?_) (fun c6 => absurd c6 (by decide))
        refine eR_aldn_0 dX8_goBack_12 rfl ?_
        refine eR_getR (i := 102) dX8_goBack_13 gf_X8_49 th_0 rfl ?_
        refine eR_ildn_1 dX8_goBack_16 rfl ?_
        refine eR_aald4 (n := 1) (i := 113) dX8_goBack_17 th_102 (rfl) (by decide) (by decide) (rfl) ?_
        refine eR_getZ dX8_goBack_18 gf_X8_89 im_1.1 rfl ?_
        refine eX_pcI (hk9) ?_
        refine eR_if_ne (tgt := 27) dX8_goBack_21 (by decide) (by first | exact rg_b01 _ | (unfold rg; omega)) (fun c21 => ?_) (fun c21 => absurd c21 (by decide))
        refine eR_aldn_0 dX8_goBack_27 rfl ?_
        refine eR_getR (i := 102) dX8_goBack_28 gf_X8_49 th_0 rfl ?_
        refine eR_ildn_1 dX8_goBack_31 rfl ?_
        refine eR_aald4 (n := 1) (i := 113) dX8_goBack_32 th_102 (rfl) (by decide) (by decide) (rfl) ?_
        refine eR_aldn_0 dX8_goBack_33 rfl ?_
        refine eR_getR (i := t) dX8_goBack_34 gf_X8_57 th_0 rfl ?_
        refine eR_callVv [_] rfl dX8_goBack_37 ok_mX0_giveBack kw_849 rfl rfl im_1.1 rfl (Nat.le_of_ble_eq_true rfl) (d' := 1) (by decide) (Nat.le_of_ble_eq_true rfl) ?_
        refine im_giveBack (b := 113) (S2 := S2 1) T B V im_1 (Or.inl (by omega)) hi9.1 hi9.2.2.1 hi9.2.2.2.1 hi9.2.2.2.2 (fun h1 O1 V1 => ?_)
        have hs9 : h1 113 1 = (y 1 : Int) := by rw [O1 113 (by omega)]; exact hi9.2.1
        refine eR_aldn_0 dX8_goBack_40 rfl ?_
        refine eR_aldn_0 dX8_goBack_41 rfl ?_
        refine eR_getR (i := 102) dX8_goBack_42 gf_X8_49 th_0 rfl ?_
        refine eR_ildn_1 dX8_goBack_45 rfl ?_
        refine eR_aald4 (n := 1) (i := 113) dX8_goBack_46 th_102 (rfl) (by decide) (by decide) (rfl) ?_
        refine eR_getL dX8_goBack_47 gf_X8_247 im_1.1 rfl ?_
        refine eX_pcL (hs9) ?_
        refine eR_putL dX8_goBack_50 pf_X8_64 th_0 rfl ?_
        refine eR_ic dX8_goBack_53 ?_
        refine eR_iret dX8_goBack_54 rfl rfl ?_
        exact k2 1 (by decide) rfl hk9 h1 O1 V1
  · refine eR_ildn_1 dX8_goBack_0 rfl ?_
    refine eR_if_lt (tgt := 9) dX8_goBack_1 (by decide) (by first | assumption | exact rg_b01 _ | (unfold rg; omega) | (unfold rg at *; omega)) (fun c1 => ?_) (fun c1 => ?_)
    · refine eR_ldc (z := -1000000001) dX8_goBack_9 kw_612 (by decide) ?_
      refine eR_iret dX8_goBack_11 rfl rfl ?_
      exact k0 hq
    · refine eR_ildn_1 dX8_goBack_4 rfl ?_
      refine eR_ic dX8_goBack_5 ?_
      refine eR_icmp_lt (tgt := 12) dX8_goBack_6 (by decide) (by first | assumption | exact rg_b01 _ | (unfold rg; omega) | (unfold rg at *; omega)) (by first | assumption | exact rg_b01 _ | (unfold rg; omega) | (unfold rg at *; omega)) (fun c6 => ?_) (fun c6 => ?_)
      · exact absurd ⟨by omega, by omega⟩ hq
      · refine eR_ldc (z := -1000000001) dX8_goBack_9 kw_612 (by decide) ?_
        refine eR_iret dX8_goBack_11 rfl rfl ?_
        exact k0 hq
end M60
