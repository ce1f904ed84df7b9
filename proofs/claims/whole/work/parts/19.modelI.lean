def bthN (S : TS) (c : Nat) : Nat := 2 ^ sO S c 0 ||| 2 ^ sO S c 1
def stepP (S : TS) (c set : Nat) : Nat := if ¬ (sK S).testBit c = true ∧ set &&& bthN S c ≠ 0 then set ||| bthN S c else set
def passP (S : TS) (set : Nat) : Nat → Nat
  | 0 => set
  | c + 1 => stepP S c (passP S set c)
def itP (S : TS) (p : Nat) : Nat → Nat
  | 0 => 2 ^ p
  | k + 1 => passP S (itP S p k) (sC S)
theorem bthN_lt {S : TS} (B : sB S) {c : Nat} (hc : c < sC S) : bthN S c < 256 := by
  have hP8 := B.1
  have ho := B.2.2.2.1 c hc
  have h1 : 2 ^ sO S c 0 < 2 ^ 8 := Nat.pow_lt_pow_right (by omega) (by omega)
  have h2 : 2 ^ sO S c 1 < 2 ^ 8 := Nat.pow_lt_pow_right (by omega) (by omega)
  exact Nat.or_lt_two_pow (n := 8) h1 h2
theorem stepP_lt {S : TS} (B : sB S) {c set : Nat} (hc : c < sC S) (hs : set < 256) : stepP S c set < 256 := by
  unfold stepP
  split
  · exact Nat.or_lt_two_pow (n := 8) hs (bthN_lt B hc)
  · exact hs
theorem passP_lt {S : TS} (B : sB S) {set : Nat} (hs : set < 256) : ∀ c, c ≤ sC S → passP S set c < 256 := by
  intro c
  induction c with
  | zero => intro _; exact hs
  | succ c ih => intro hc; exact stepP_lt B (by omega) (ih (by omega))
theorem itP_lt {S : TS} (B : sB S) {p : Nat} (hp : p < 8) : ∀ k, itP S p k < 256 := by
  intro k
  induction k with
  | zero => exact (Nat.pow_lt_pow_right (by omega) hp : 2 ^ p < 2 ^ 8)
  | succ k ih => exact passP_lt B ih _ (Nat.le_refl _)
/-! the sets grow; at most sC S passes change anything -/
abbrev subN (a b : Nat) : Prop := a ||| b = b
theorem subN_rf (a : Nat) : subN a a := Nat.or_self a
theorem subN_tr {a b c : Nat} (h1 : subN a b) (h2 : subN b c) : subN a c := by unfold subN at *; rw [← h2, ← Nat.or_assoc, h1]
theorem subN_or (a b : Nat) : subN a (a ||| b) := by unfold subN; rw [← Nat.or_assoc, Nat.or_self]
theorem subN_or2 (a b : Nat) : subN b (a ||| b) := by unfold subN; rw [Nat.or_comm a b, ← Nat.or_assoc, Nat.or_self]
theorem subN_step (S : TS) (c set : Nat) : subN set (stepP S c set) := by
  unfold stepP
  split
  · exact subN_or _ _
  · exact subN_rf _
theorem subN_pass (S : TS) (set : Nat) : ∀ c, subN set (passP S set c) := by
  intro c
  induction c with
  | zero => exact subN_rf _
  | succ c ih => exact subN_tr ih (subN_step S c _)
theorem subN_it (S : TS) (p k : Nat) : subN (itP S p k) (itP S p (k + 1)) := subN_pass S _ _
/-- how many of the first n COATS lie in the set -/
def inN (S : TS) (set : Nat) : Nat → Nat
  | 0 => 0
  | c + 1 => inN S set c + (if subN (bthN S c) set then 1 else 0)
theorem inN_le (S : TS) (set n : Nat) : inN S set n ≤ n := by
  induction n with
  | zero => exact Nat.le_refl _
  | succ n ih => unfold inN; split <;> omega
theorem inN_mono {S : TS} {a b : Nat} (h : subN a b) (n : Nat) : inN S a n ≤ inN S b n := by
  induction n with
  | zero => exact Nat.le_refl _
  | succ n ih =>
    unfold inN
    split
    · rename_i q1
      split
      · omega
      · rename_i q2
        exact absurd (subN_tr q1 h) q2
    · split <;> omega
theorem inN_new {S : TS} {a b : Nat} (h : subN a b) {c : Nat} (h1 : ¬ subN (bthN S c) a) (h2 : subN (bthN S c) b) : ∀ n, c < n → inN S a n + 1 ≤ inN S b n := by
  intro n
  induction n with
  | zero => intro hc; omega
  | succ n ih =>
    intro hc
    by_cases hcn : c = n
    · subst hcn
      have := inN_mono (S := S) h c
      unfold inN
      rw [if_neg h1, if_pos h2]
      omega
    · have := ih (by omega)
      unfold inN
      split
      · rename_i q1
        split
        · omega
        · rename_i q2
          exact absurd (subN_tr q1 h) q2
      · split <;> omega
/-- a pass that changes the set brings in a new coat -/
theorem pass_new {S : TS} {set : Nat} : ∀ n, passP S set n ≠ set → ∃ c, c < n ∧ ¬ subN (bthN S c) set ∧ subN (bthN S c) (passP S set n) := by
  intro n
  induction n with
  | zero => intro h; exact absurd rfl h
  | succ n ih =>
    intro h
    by_cases hn : passP S set n = set
    · have h1 : stepP S n (passP S set n) ≠ set := h
      rw [hn] at h1
      refine ⟨n, by omega, ?_, ?_⟩
      · intro q
        apply h1
        unfold stepP
        split
        · rw [Nat.or_comm]; exact q
        · rfl
      · show subN (bthN S n) (stepP S n (passP S set n))
        rw [hn]
        unfold stepP at h1 ⊢
        split
        · exact subN_or2 _ _
        · rename_i q
          rw [if_neg q] at h1
          exact absurd rfl h1
    · obtain ⟨c, h1, h2, h3⟩ := ih hn
      exact ⟨c, by omega, h2, subN_tr h3 (subN_step S n _)⟩
theorem it_cnt {S : TS} {p : Nat} : ∀ k, itP S p (k + 1) ≠ itP S p k → k + 1 ≤ inN S (itP S p (k + 1)) (sC S) := by
  intro k
  induction k with
  | zero =>
    intro h
    obtain ⟨c, h1, h2, h3⟩ := pass_new (S := S) (set := itP S p 0) (sC S) h
    have := inN_new (subN_it S p 0) h2 h3 (sC S) h1
    omega
  | succ k ih =>
    intro h
    have h0 : itP S p (k + 1) ≠ itP S p k := by
      intro q
      apply h
      show passP S (itP S p (k + 1)) (sC S) = itP S p (k + 1)
      rw [q]
      exact q
    obtain ⟨c, h1, h2, h3⟩ := pass_new (S := S) (set := itP S p (k + 1)) (sC S) h
    have := inN_new (subN_it S p (k + 1)) h2 h3 (sC S) h1
    have := ih h0
    omega
theorem it_fix (S : TS) (p : Nat) : itP S p (sC S + 1) = itP S p (sC S) := by
  by_cases h : itP S p (sC S + 1) = itP S p (sC S)
  · exact h
  · have h1 := it_cnt _ h
    have h2 := inN_le S (itP S p (sC S + 1)) (sC S)
    omega
theorem it_stay {S : TS} {p k : Nat} (h : itP S p (k + 1) = itP S p k) : ∀ j, itP S p (k + j) = itP S p k := by
  intro j
  induction j with
  | zero => rfl
  | succ j ih =>
    show passP S (itP S p (k + j)) (sC S) = itP S p k
    rw [ih]
    exact h
theorem it_end {S : TS} {p k : Nat} (h : itP S p (k + 1) = itP S p k) : itP S p k = itP S p (sC S) := by
  rcases Nat.le_total k (sC S) with q | q
  · rw [← it_stay h (sC S - k), show k + (sC S - k) = sC S from by omega]
  · rw [← it_stay (it_fix S p) (k - sC S), show sC S + (k - sC S) = k from by omega]
def netS (S : TS) (p : Nat) : Nat := itP S p (sC S)
theorem netS_lt {S : TS} (B : sB S) {p : Nat} (hp : p < 8) : netS S p < 256 := itP_lt B hp _
/-- COATS of a NET, as bits -/
def ctsN (S : TS) (set : Nat) : Nat → Nat
  | 0 => 0
  | c + 1 => ctsN S set c ||| (if ¬ (sK S).testBit c = true ∧ set.testBit (sO S c 0) = true then 2 ^ c else 0)
theorem ctsN_lt (S : TS) (set : Nat) : ∀ c, ctsN S set c < 2 ^ c := by
  intro c
  induction c with
  | zero => exact (by decide : (0 : Nat) < 2 ^ 0)
  | succ c ih =>
    unfold ctsN
    have h1 : 2 ^ c < 2 ^ (c + 1) := Nat.pow_lt_pow_right (by omega) (by omega)
    refine Nat.or_lt_two_pow (by omega) ?_
    split <;> omega
/-- how many COATS (not CUT) one has -/
def owN (S : TS) (p : Nat) : Nat → Nat
  | 0 => 0
  | c + 1 => owN S p c + (if ¬ (sK S).testBit c = true ∧ (sO S c 0 = p ∨ sO S c 1 = p) then 1 else 0)
theorem owN_le (S : TS) (p c : Nat) : owN S p c ≤ c := by
  induction c with
  | zero => exact Nat.le_refl _
  | succ c ih => unfold owN; split <;> omega
/-- how many NETS, and who is still left -/
def nmN (S : TS) : Nat → Nat × Nat
  | 0 => (0, 2 ^ sP S - 1)
  | p + 1 => if (nmN S p).2.testBit p = true then ((nmN S p).1 + 1, (nmN S p).2 &&& (255 - netS S p)) else nmN S p
section M19
variable {g : EG} {d t s : Nat} {h h1 : PH} {Q : EQ} {S : TS}
theorem lp_netOf1 (B : sB S) (V : mV h S) {p x : Nat} {was : Int} (hx : x < 256) (k : eX g 2 mX9_netOf 6 [(0, .ref (gA g 205)), (1, .int (zI ↑p)), (2, .int (zI (↑(passP S x (sC S))))), (3, .int (zI was)), (4, .int (zI ↑(sC S)))] [] (tau t s) h Q) : ∀ n c : Nat, c + n = sC S → eX g 2 mX9_netOf 16 [(0, .ref (gA g 205)), (1, .int (zI ↑p)), (2, .int (zI ↑(passP S x c))), (3, .int (zI was)), (4, .int (zI ↑c))] [] (tau t s) h Q := by
  have hP8 := B.1
  have hC8 := B.2.1
  have hE10 := B.2.2.1
  have hF99 := B.2.2.2.2.2.2.1
  intro n
  induction n with
  | zero =>
    intro c hx9
    refine eR_ild_4 dX9_netOf_16 ?_
    refine eR_aldn_0 dX9_netOf_18 rfl ?_
    refine eR_getR (i := 217) dX9_netOf_19 gf_X9_44 th_205 rfl ?_
    refine eR_ic dX9_netOf_22 ?_
    refine eR_iald (n := 1) dX9_netOf_23 th_217 (rfl) (by decide) (by decide) ?_
    refine eX_pcI (V.2.1) ?_
    refine eR_icmp_ge (tgt := 82) dX9_netOf_24 (by decide) (by first | exact rg_b01 _ | (unfold rg; omega)) (by first | exact rg_b01 _ | (unfold rg; omega)) (fun c24 => ?_) (fun c24 => absurd c24 (by omega))
    refine eR_goto (tgt := 6) dX9_netOf_82 (by decide) ?_
    have e9 : c = sC S := by omega
    subst e9
    exact k
  | succ n ih =>
    intro c hx9
    have ho9 := B.2.2.2.1 c (by omega)
    have hl3 : 2 ^ sO S c 0 ≤ 2 ^ 7 := Nat.pow_le_pow_right (by omega) (by omega)
    have hl4 : 2 ^ sO S c 1 ≤ 2 ^ 7 := Nat.pow_le_pow_right (by omega) (by omega)
    have hp9 := passP_lt B hx c (by omega)
    have hb9 := bthN_lt B (c := c) (by omega)
    have ha9 : passP S x c &&& bthN S c ≤ passP S x c := Nat.and_le_left
    refine eR_ild_4 dX9_netOf_16 ?_
    refine eR_aldn_0 dX9_netOf_18 rfl ?_
    refine eR_getR (i := 217) dX9_netOf_19 gf_X9_44 th_205 rfl ?_
    refine eR_ic dX9_netOf_22 ?_
    refine eR_iald (n := 1) dX9_netOf_23 th_217 (rfl) (by decide) (by decide) ?_
    refine eX_pcI (V.2.1) ?_
    refine eR_icmp_ge (tgt := 82) dX9_netOf_24 (by decide) (by first | exact rg_b01 _ | (unfold rg; omega)) (by first | exact rg_b01 _ | (unfold rg; omega)) (fun c24 => absurd c24 (by omega)) (fun c24 => ?_)
    refine eR_ic dX9_netOf_27 ?_
    refine eR_aldn_0 dX9_netOf_28 rfl ?_
    refine eR_getR (i := 206) dX9_netOf_29 gf_X9_7 th_205 rfl ?_
    refine eR_ild_4 dX9_netOf_32 ?_
    refine eR_iald (n := c) dX9_netOf_34 th_206 (rfl) (by omega) (by decide) ?_
    refine eX_pcI ((V.2.2.2.1 c (by omega)).1) ?_
    refine eR_ishl dX9_netOf_35 ?_
    refine eX_pcI (show (zShl 1 ↑(sO S c 0) : Int) = ↑(2 ^ sO S c 0 : Nat) from by have := zShl_nat (a := 1) (k := sO S c 0) (by omega) (by omega); rw [Nat.one_mul] at this; exact this) ?_
    refine eR_ic dX9_netOf_36 ?_
    refine eR_aldn_0 dX9_netOf_37 rfl ?_
    refine eR_getR (i := 206) dX9_netOf_38 gf_X9_7 th_205 rfl ?_
    refine eR_bi (z := 8) dX9_netOf_41 rfl ?_
    refine eR_ild_4 dX9_netOf_43 ?_
    refine eR_iadd dX9_netOf_45 ?_
    refine eR_iald (n := 8 + c) dX9_netOf_46 th_206 (by omega) (by omega) (by decide) ?_
    refine eX_pcI ((V.2.2.2.1 c (by omega)).2.1) ?_
    refine eR_ishl dX9_netOf_47 ?_
    refine eX_pcI (show (zShl 1 ↑(sO S c 1) : Int) = ↑(2 ^ sO S c 1 : Nat) from by have := zShl_nat (a := 1) (k := sO S c 1) (by omega) (by omega); rw [Nat.one_mul] at this; exact this) ?_
    refine eR_ior dX9_netOf_48 ?_
    refine eX_pcI (show (zOr ↑(2 ^ sO S c 0 : Nat) ↑(2 ^ sO S c 1 : Nat) : Int) = ↑(bthN S c) from zOr_nat (by omega) (by omega)) ?_
    refine eR_ist_n5 dX9_netOf_49 (by decide) rfl ?_
    refine eR_ildn_2 dX9_netOf_51 rfl ?_
    refine eR_aldn_0 dX9_netOf_52 rfl ?_
    refine eR_ild_4 dX9_netOf_53 ?_
    refine eR_callVi [_] rfl dX9_netOf_55 ok_mX9_isCut kw_1061 rfl rfl th_205 rfl (Nat.le_of_ble_eq_true rfl) (d' := 1) (by decide) (Nat.le_of_ble_eq_true rfl) ?_
    refine sp_isCut (c := c) B V (by omega) ?_
    refine eR_if_ne (tgt := 73) dX9_netOf_58 (by decide) (by first | exact rg_b01 _ | (unfold rg; omega)) (fun c58 => ?_) (fun c58 => ?_)
    · replace c58 := b01_ne0.mp c58
      refine eR_ic dX9_netOf_73 ?_
      refine eR_ior dX9_netOf_74 ?_
      refine eX_pcI (show (zOr ↑(passP S x c) 0 : Int) = ↑(passP S x c) from by rw [show (0 : Int) = ((0 : Nat) : Int) from rfl, zOr_nat (by omega) (by omega), Nat.or_zero]) ?_
      refine eR_istn_2 dX9_netOf_75 rfl (by decide) rfl ?_
      refine eR_iinc_4 dX9_netOf_76 (by decide) rfl ?_
      refine eR_goto (tgt := 16) dX9_netOf_79 (by decide) ?_
      refine eX_lv (lv2 := List.take 5 _) (fun q hq => List.mem_of_mem_take hq) ?_
      rw [show passP S x c = passP S x (c + 1) from by show _ = stepP S c (passP S x c); unfold stepP; rw [if_neg (by rintro ⟨q1, q2⟩; first | contradiction | omega)]]
      exact ih (c + 1) (by omega)
    · replace c58 := b01_eq0.mp c58
      refine eR_ildn_2 dX9_netOf_61 rfl ?_
      refine eR_ild_5 dX9_netOf_62 ?_
      refine eR_iand dX9_netOf_64 ?_
      refine eX_pcI (show (zAnd ↑(passP S x c) ↑(bthN S c) : Int) = ↑(passP S x c &&& bthN S c : Nat) from zAnd_nat (by omega)) ?_
      refine eR_if_eq (tgt := 73) dX9_netOf_65 (by decide) (by first | exact rg_b01 _ | (unfold rg; omega)) (fun c65 => ?_) (fun c65 => ?_)
      · refine eR_ic dX9_netOf_73 ?_
        refine eR_ior dX9_netOf_74 ?_
        refine eX_pcI (show (zOr ↑(passP S x c) 0 : Int) = ↑(passP S x c) from by rw [show (0 : Int) = ((0 : Nat) : Int) from rfl, zOr_nat (by omega) (by omega), Nat.or_zero]) ?_
        refine eR_istn_2 dX9_netOf_75 rfl (by decide) rfl ?_
        refine eR_iinc_4 dX9_netOf_76 (by decide) rfl ?_
        refine eR_goto (tgt := 16) dX9_netOf_79 (by decide) ?_
        refine eX_lv (lv2 := List.take 5 _) (fun q hq => List.mem_of_mem_take hq) ?_
        rw [show passP S x c = passP S x (c + 1) from by show _ = stepP S c (passP S x c); unfold stepP; rw [if_neg (by rintro ⟨q1, q2⟩; first | contradiction | omega)]]
        exact ih (c + 1) (by omega)
      · refine eR_ild_5 dX9_netOf_68 ?_
        refine eR_goto (tgt := 74) dX9_netOf_70 (by decide) ?_
        refine eR_ior dX9_netOf_74 ?_
        refine eX_pcI (show (zOr ↑(passP S x c) ↑(bthN S c) : Int) = ↑(passP S x c ||| bthN S c : Nat) from zOr_nat (by omega) (by omega)) ?_
        refine eR_istn_2 dX9_netOf_75 rfl (by decide) rfl ?_
        refine eR_iinc_4 dX9_netOf_76 (by decide) rfl ?_
        refine eR_goto (tgt := 16) dX9_netOf_79 (by decide) ?_
        refine eX_lv (lv2 := List.take 5 _) (fun q hq => List.mem_of_mem_take hq) ?_
        rw [show (↑(passP S x c ||| bthN S c : Nat) : Int) = ↑(passP S x (c + 1)) from by show _ = ((stepP S c (passP S x c) : Nat) : Int); unfold stepP; first | rw [if_pos ⟨by assumption, by omega⟩] | (rw [if_neg (by first | (rintro ⟨q1, q2⟩; first | contradiction | omega))]; done)]
        exact ih (c + 1) (by omega)

theorem lp_netOf2 (B : sB S) (V : mV h S) {p : Nat} (hp : p < 8) (k : Q (.int (zI ↑(netS S p))) (tau t s) h) : ∀ n i : Nat, i + n = sC S + 2 → ∀ was : Int, (0 ≤ was ∧ was < 256) → ((i = 0 ∧ was = 0) ∨ ∃ j, i = j + 1 ∧ was = (itP S p j : Int)) → eX g 2 mX9_netOf 6 [(0, .ref (gA g 205)), (1, .int (zI ↑p)), (2, .int (zI ↑(itP S p i))), (3, .int (zI was))] [] (tau t s) h Q := by
  have hP8 := B.1
  have hC8 := B.2.1
  have hE10 := B.2.2.1
  have hF99 := B.2.2.2.2.2.2.1
  intro n
  induction n with
  | zero =>
    intro i hx9 was hw9 hw8
    have hi9 := itP_lt B hp i
    obtain ⟨j, rfl, rfl⟩ : ∃ j, i = j + 1 ∧ was = (itP S p j : Int) := by rcases hw8 with ⟨q1, q2⟩ | q; omega; exact q
    have heq : itP S p (j + 1) = itP S p j := by rw [show j = sC S + 1 from by omega]; exact (it_stay (it_fix S p) 2).trans (it_stay (it_fix S p) 1).symm
    refine eR_ildn_2 dX9_netOf_6 rfl ?_
    refine eR_ildn_3 dX9_netOf_7 rfl ?_
    refine eR_icmp_eq (tgt := 85) dX9_netOf_8 (by decide) (by first | exact rg_b01 _ | (unfold rg; omega)) (by first | exact rg_b01 _ | (unfold rg; omega)) (fun c8 => ?_) (fun c8 => absurd c8 (by omega))
    refine eR_ildn_2 dX9_netOf_85 rfl ?_
    refine eR_iret dX9_netOf_86 rfl rfl ?_
    rw [show itP S p (j + 1) = netS S p from heq.trans (it_end heq)]; exact k
  | succ n ih =>
    intro i hx9 was hw9 hw8
    have hi9 := itP_lt B hp i
    by_cases hne : (itP S p i : Int) = was
    · obtain ⟨j, rfl, rfl⟩ : ∃ j, i = j + 1 ∧ was = (itP S p j : Int) := by
        rcases hw8 with ⟨q1, q2⟩ | q
        · subst q1
          have : 0 < itP S p 0 := Nat.two_pow_pos p
          omega
        · exact q
      have heq : itP S p (j + 1) = itP S p j := Int.ofNat.inj hne
      refine eR_ildn_2 dX9_netOf_6 rfl ?_
      refine eR_ildn_3 dX9_netOf_7 rfl ?_
      refine eR_icmp_eq (tgt := 85) dX9_netOf_8 (by decide) (by first | exact rg_b01 _ | (unfold rg; omega)) (by first | exact rg_b01 _ | (unfold rg; omega)) (fun c8 => ?_) (fun c8 => absurd c8 (by omega))
      refine eR_ildn_2 dX9_netOf_85 rfl ?_
      refine eR_iret dX9_netOf_86 rfl rfl ?_
      rw [show itP S p (j + 1) = netS S p from heq.trans (it_end heq)]; exact k
    · refine eR_ildn_2 dX9_netOf_6 rfl ?_
      refine eR_ildn_3 dX9_netOf_7 rfl ?_
      refine eR_icmp_eq (tgt := 85) dX9_netOf_8 (by decide) (by first | exact rg_b01 _ | (unfold rg; omega)) (by first | exact rg_b01 _ | (unfold rg; omega)) (fun c8 => absurd c8 (by omega)) (fun c8 => ?_)
      refine eR_ildn_2 dX9_netOf_11 rfl ?_
      refine eR_istn_3 dX9_netOf_12 rfl (by decide) rfl ?_
      refine eR_ic dX9_netOf_13 ?_
      refine eR_ist_n4 dX9_netOf_14 (by decide) rfl ?_
      refine lp_netOf1 (x := itP S p i) B V hi9 ?_ (sC S) 0 (by omega)
      refine eX_lv (lv2 := List.take 4 _) (fun q hq => List.mem_of_mem_take hq) ?_
      exact ih (i + 1) (by omega) (itP S p i : Int) ⟨by omega, by omega⟩ (Or.inr ⟨i, rfl, rfl⟩)
theorem sp_netOf (B : sB S) (V : mV h S) {p : Nat} (hp : p < 8) (k : Q (.int (zI ↑(netS S p))) (tau t s) h) : eX g 2 mX9_netOf 0 (lv_args 0 [.ref (gA g 205), .int (zI ↑p)]) [] (tau t s) h Q := by
  show eX g 2 mX9_netOf 0 [(0, .ref (gA g 205)), (1, .int (zI ↑p))] [] (tau t s) h Q
  have hl3 : 2 ^ p ≤ 2 ^ 7 := Nat.pow_le_pow_right (by omega) (by omega)
  refine eR_ic dX9_netOf_0 ?_
  refine eR_ildn_1 dX9_netOf_1 rfl ?_
  refine eR_ishl dX9_netOf_2 ?_
  refine eX_pcI (show (zShl 1 ↑p : Int) = ↑(itP S p 0) from by have := zShl_nat (a := 1) (k := p) (by omega) (by omega); rw [Nat.one_mul] at this; exact this) ?_
  refine eR_istn_n2 dX9_netOf_3 rfl (by decide) rfl ?_
  refine eR_ic dX9_netOf_4 ?_
  refine eR_istn_n3 dX9_netOf_5 rfl (by decide) rfl ?_
  exact lp_netOf2 B V hp k (sC S + 2) 0 (by omega) 0 (by omega) (Or.inl ⟨rfl, rfl⟩)
theorem lp_coatsIn (B : sB S) (V : mV h S) {set : Nat} (hs : set < 256) (k : Q (.int (zI ↑(ctsN S set (sC S)))) (tau t s) h) : ∀ n c : Nat, c + n = sC S → eX g 2 mX9_coatsIn 4 [(0, .ref (gA g 205)), (1, .int (zI ↑set)), (2, .int (zI ↑(ctsN S set c))), (3, .int (zI ↑c))] [] (tau t s) h Q := by
  have hP8 := B.1
  have hC8 := B.2.1
  have hE10 := B.2.2.1
  have hF99 := B.2.2.2.2.2.2.1
  intro n
  induction n with
  | zero =>
    intro c hx9
    refine eR_ildn_3 dX9_coatsIn_4 rfl ?_
    refine eR_aldn_0 dX9_coatsIn_5 rfl ?_
    refine eR_getR (i := 217) dX9_coatsIn_6 gf_X9_44 th_205 rfl ?_
    refine eR_ic dX9_coatsIn_9 ?_
    refine eR_iald (n := 1) dX9_coatsIn_10 th_217 (rfl) (by decide) (by decide) ?_
    refine eX_pcI (V.2.1) ?_
    refine eR_icmp_ge (tgt := 54) dX9_coatsIn_11 (by decide) (by first | exact rg_b01 _ | (unfold rg; omega)) (by first | exact rg_b01 _ | (unfold rg; omega)) (fun c11 => ?_) (fun c11 => absurd c11 (by omega))
    refine eR_ildn_2 dX9_coatsIn_54 rfl ?_
    refine eR_iret dX9_coatsIn_55 rfl rfl ?_
    have e9 : c = sC S := by omega
    subst e9
    exact k
  | succ n ih =>
    intro c hx9
    have ho9 := B.2.2.2.1 c (by omega)
    have hl3 : 2 ^ c ≤ 2 ^ 7 := Nat.pow_le_pow_right (by omega) (by omega)
    have hc9 := ctsN_lt S set c
    refine eR_ildn_3 dX9_coatsIn_4 rfl ?_
    refine eR_aldn_0 dX9_coatsIn_5 rfl ?_
    refine eR_getR (i := 217) dX9_coatsIn_6 gf_X9_44 th_205 rfl ?_
    refine eR_ic dX9_coatsIn_9 ?_
    refine eR_iald (n := 1) dX9_coatsIn_10 th_217 (rfl) (by decide) (by decide) ?_
    refine eX_pcI (V.2.1) ?_
    refine eR_icmp_ge (tgt := 54) dX9_coatsIn_11 (by decide) (by first | exact rg_b01 _ | (unfold rg; omega)) (by first | exact rg_b01 _ | (unfold rg; omega)) (fun c11 => absurd c11 (by omega)) (fun c11 => ?_)
    refine eR_ildn_2 dX9_coatsIn_14 rfl ?_
    refine eR_aldn_0 dX9_coatsIn_15 rfl ?_
    refine eR_ildn_3 dX9_coatsIn_16 rfl ?_
    refine eR_callVi [_] rfl dX9_coatsIn_17 ok_mX9_isCut kw_1061 rfl rfl th_205 rfl (Nat.le_of_ble_eq_true rfl) (d' := 1) (by decide) (Nat.le_of_ble_eq_true rfl) ?_
    refine sp_isCut (c := c) B V (by omega) ?_
    refine eR_if_ne (tgt := 40) dX9_coatsIn_20 (by decide) (by first | exact rg_b01 _ | (unfold rg; omega)) (fun c20 => ?_) (fun c20 => ?_)
    · replace c20 := b01_ne0.mp c20
      refine eR_ic dX9_coatsIn_40 ?_
      refine eR_callSi [_] rfl dX9_coatsIn_41 ok_mX9_one kw_1050 rfl rfl (Nat.le_of_ble_eq_true rfl) (d' := 0) (by decide) (Nat.le_of_ble_eq_true rfl) ?_
      refine sp_one (by first | exact b01_01 _ | omega) ?_
      refine eR_ildn_3 dX9_coatsIn_44 rfl ?_
      refine eR_ishl dX9_coatsIn_45 ?_
      refine eX_pcI (show (zShl 0 ↑c : Int) = ↑(0 : Nat) from by have := zShl_nat (a := 0) (k := c) (by omega) (by omega); rw [Nat.zero_mul] at this; exact this) ?_
      refine eR_ior dX9_coatsIn_46 ?_
      refine eX_pcI (show (zOr ↑(ctsN S set c) ↑(0 : Nat) : Int) = ↑(ctsN S set (c + 1)) from by rw [zOr_nat (by omega) (by omega), ctsN]; first | rw [if_pos ⟨by assumption, by assumption⟩] | rw [if_neg (by rintro ⟨q1, q2⟩; contradiction)]) ?_
      refine eR_istn_2 dX9_coatsIn_47 rfl (by decide) rfl ?_
      refine eR_iinc_3 dX9_coatsIn_48 (by decide) rfl ?_
      refine eR_goto (tgt := 4) dX9_coatsIn_51 (by decide) ?_
      exact ih (c + 1) (by omega)
    · replace c20 := b01_eq0.mp c20
      refine eR_ildn_1 dX9_coatsIn_23 rfl ?_
      refine eR_aldn_0 dX9_coatsIn_24 rfl ?_
      refine eR_getR (i := 206) dX9_coatsIn_25 gf_X9_7 th_205 rfl ?_
      refine eR_ildn_3 dX9_coatsIn_28 rfl ?_
      refine eR_iald (n := c) dX9_coatsIn_29 th_206 (rfl) (by omega) (by decide) ?_
      refine eX_pcI ((V.2.2.2.1 c (by omega)).1) ?_
      refine eR_callSi [_, _] rfl dX9_coatsIn_30 ok_mX9_has kw_1047 rfl rfl (Nat.le_of_ble_eq_true rfl) (d' := 0) (by decide) (Nat.le_of_ble_eq_true rfl) ?_
      refine sp_has (n := set) (k := (sO S c 0)) (by omega) (by omega) ?_
      refine eR_if_eq (tgt := 40) dX9_coatsIn_33 (by decide) (by first | exact rg_b01 _ | (unfold rg; omega)) (fun c33 => ?_) (fun c33 => ?_)
      · replace c33 := b01_eq0.mp c33
        refine eR_ic dX9_coatsIn_40 ?_
        refine eR_callSi [_] rfl dX9_coatsIn_41 ok_mX9_one kw_1050 rfl rfl (Nat.le_of_ble_eq_true rfl) (d' := 0) (by decide) (Nat.le_of_ble_eq_true rfl) ?_
        refine sp_one (by first | exact b01_01 _ | omega) ?_
        refine eR_ildn_3 dX9_coatsIn_44 rfl ?_
        refine eR_ishl dX9_coatsIn_45 ?_
        refine eX_pcI (show (zShl 0 ↑c : Int) = ↑(0 : Nat) from by have := zShl_nat (a := 0) (k := c) (by omega) (by omega); rw [Nat.zero_mul] at this; exact this) ?_
        refine eR_ior dX9_coatsIn_46 ?_
        refine eX_pcI (show (zOr ↑(ctsN S set c) ↑(0 : Nat) : Int) = ↑(ctsN S set (c + 1)) from by rw [zOr_nat (by omega) (by omega), ctsN]; first | rw [if_pos ⟨by assumption, by assumption⟩] | rw [if_neg (by rintro ⟨q1, q2⟩; contradiction)]) ?_
        refine eR_istn_2 dX9_coatsIn_47 rfl (by decide) rfl ?_
        refine eR_iinc_3 dX9_coatsIn_48 (by decide) rfl ?_
        refine eR_goto (tgt := 4) dX9_coatsIn_51 (by decide) ?_
        exact ih (c + 1) (by omega)
      · replace c33 := b01_ne0.mp c33
        refine eR_ic dX9_coatsIn_36 ?_
        refine eR_goto (tgt := 41) dX9_coatsIn_37 (by decide) ?_
        refine eR_callSi [_] rfl dX9_coatsIn_41 ok_mX9_one kw_1050 rfl rfl (Nat.le_of_ble_eq_true rfl) (d' := 0) (by decide) (Nat.le_of_ble_eq_true rfl) ?_
        refine sp_one (by first | exact b01_01 _ | omega) ?_
        refine eR_ildn_3 dX9_coatsIn_44 rfl ?_
        refine eR_ishl dX9_coatsIn_45 ?_
        refine eX_pcI (show (zShl 1 ↑c : Int) = ↑(2 ^ c : Nat) from by have := zShl_nat (a := 1) (k := c) (by omega) (by omega); rw [Nat.one_mul] at this; exact this) ?_
        refine eR_ior dX9_coatsIn_46 ?_
        refine eX_pcI (show (zOr ↑(ctsN S set c) ↑(2 ^ c : Nat) : Int) = ↑(ctsN S set (c + 1)) from by rw [zOr_nat (by omega) (by omega), ctsN]; first | rw [if_pos ⟨by assumption, by assumption⟩] | rw [if_neg (by rintro ⟨q1, q2⟩; contradiction)]) ?_
        refine eR_istn_2 dX9_coatsIn_47 rfl (by decide) rfl ?_
        refine eR_iinc_3 dX9_coatsIn_48 (by decide) rfl ?_
        refine eR_goto (tgt := 4) dX9_coatsIn_51 (by decide) ?_
        exact ih (c + 1) (by omega)
theorem sp_coatsIn (B : sB S) (V : mV h S) {set : Nat} (hs : set < 256) (k : Q (.int (zI ↑(ctsN S set (sC S)))) (tau t s) h) : eX g 2 mX9_coatsIn 0 (lv_args 0 [.ref (gA g 205), .int (zI ↑set)]) [] (tau t s) h Q := by
  show eX g 2 mX9_coatsIn 0 [(0, .ref (gA g 205)), (1, .int (zI ↑set))] [] (tau t s) h Q
  refine eR_ic dX9_coatsIn_0 ?_
  refine eR_istn_n2 dX9_coatsIn_1 rfl (by decide) rfl ?_
  refine eR_ic dX9_coatsIn_2 ?_
  refine eR_istn_n3 dX9_coatsIn_3 rfl (by decide) rfl ?_
  exact lp_coatsIn B V hs k (sC S) 0 (by omega)
theorem lp_coatsOf (B : sB S) (V : mV h S) {p : Nat} (hp : p < 8) (k : Q (.int (zI ↑(owN S p (sC S)))) (tau t s) h) : ∀ n c : Nat, c + n = sC S → eX g 2 mX9_coatsOf 4 [(0, .ref (gA g 205)), (1, .int (zI ↑p)), (2, .int (zI ↑(owN S p c))), (3, .int (zI ↑c))] [] (tau t s) h Q := by
  have hP8 := B.1
  have hC8 := B.2.1
  have hE10 := B.2.2.1
  have hF99 := B.2.2.2.2.2.2.1
  intro n
  induction n with
  | zero =>
    intro c hx9
    refine eR_ildn_3 dX9_coatsOf_4 rfl ?_
    refine eR_aldn_0 dX9_coatsOf_5 rfl ?_
    refine eR_getR (i := 217) dX9_coatsOf_6 gf_X9_44 th_205 rfl ?_
    refine eR_ic dX9_coatsOf_9 ?_
    refine eR_iald (n := 1) dX9_coatsOf_10 th_217 (rfl) (by decide) (by decide) ?_
    refine eX_pcI (V.2.1) ?_
    refine eR_icmp_ge (tgt := 62) dX9_coatsOf_11 (by decide) (by first | exact rg_b01 _ | (unfold rg; omega)) (by first | exact rg_b01 _ | (unfold rg; omega)) (fun c11 => ?_) (fun c11 => absurd c11 (by omega))
    refine eR_ildn_2 dX9_coatsOf_62 rfl ?_
    refine eR_iret dX9_coatsOf_63 rfl rfl ?_
    have e9 : c = sC S := by omega
    subst e9
    exact k
  | succ n ih =>
    intro c hx9
    have ho9 := B.2.2.2.1 c (by omega)
    have hc9 := owN_le S p c
    refine eR_ildn_3 dX9_coatsOf_4 rfl ?_
    refine eR_aldn_0 dX9_coatsOf_5 rfl ?_
    refine eR_getR (i := 217) dX9_coatsOf_6 gf_X9_44 th_205 rfl ?_
    refine eR_ic dX9_coatsOf_9 ?_
    refine eR_iald (n := 1) dX9_coatsOf_10 th_217 (rfl) (by decide) (by decide) ?_
    refine eX_pcI (V.2.1) ?_
    refine eR_icmp_ge (tgt := 62) dX9_coatsOf_11 (by decide) (by first | exact rg_b01 _ | (unfold rg; omega)) (by first | exact rg_b01 _ | (unfold rg; omega)) (fun c11 => absurd c11 (by omega)) (fun c11 => ?_)
    refine eR_ildn_2 dX9_coatsOf_14 rfl ?_
    refine eR_aldn_0 dX9_coatsOf_15 rfl ?_
    refine eR_ildn_3 dX9_coatsOf_16 rfl ?_
    refine eR_callVi [_] rfl dX9_coatsOf_17 ok_mX9_isCut kw_1061 rfl rfl th_205 rfl (Nat.le_of_ble_eq_true rfl) (d' := 1) (by decide) (Nat.le_of_ble_eq_true rfl) ?_
    refine sp_isCut (c := c) B V (by omega) ?_
    refine eR_if_ne (tgt := 50) dX9_coatsOf_20 (by decide) (by first | exact rg_b01 _ | (unfold rg; omega)) (fun c20 => ?_) (fun c20 => ?_)
    · replace c20 := b01_ne0.mp c20
      refine eR_ic dX9_coatsOf_50 ?_
      refine eR_callSi [_] rfl dX9_coatsOf_51 ok_mX9_one kw_1050 rfl rfl (Nat.le_of_ble_eq_true rfl) (d' := 0) (by decide) (Nat.le_of_ble_eq_true rfl) ?_
      refine sp_one (by first | exact b01_01 _ | omega) ?_
      refine eR_iadd dX9_coatsOf_54 ?_
      refine eX_pcI (show (↑(owN S p c) + 0 : Int) = ↑(owN S p (c + 1)) from by rw [owN]; (repeat' split) <;> first | rfl | omega | (simp_all; done) | grind) ?_
      refine eR_istn_2 dX9_coatsOf_55 rfl (by decide) rfl ?_
      refine eR_iinc_3 dX9_coatsOf_56 (by decide) rfl ?_
      refine eR_goto (tgt := 4) dX9_coatsOf_59 (by decide) ?_
      exact ih (c + 1) (by omega)
    · replace c20 := b01_eq0.mp c20
      refine eR_aldn_0 dX9_coatsOf_23 rfl ?_
      refine eR_getR (i := 206) dX9_coatsOf_24 gf_X9_7 th_205 rfl ?_
      refine eR_ildn_3 dX9_coatsOf_27 rfl ?_
      refine eR_iald (n := c) dX9_coatsOf_28 th_206 (rfl) (by omega) (by decide) ?_
      refine eX_pcI ((V.2.2.2.1 c (by omega)).1) ?_
      refine eR_ildn_1 dX9_coatsOf_29 rfl ?_
      refine eR_icmp_eq (tgt := 46) dX9_coatsOf_30 (by decide) (by first | exact rg_b01 _ | (unfold rg; omega)) (by first | exact rg_b01 _ | (unfold rg; omega)) (fun c30 => ?_) (fun c30 => ?_)
      · refine eR_ic dX9_coatsOf_46 ?_
        refine eR_goto (tgt := 51) dX9_coatsOf_47 (by decide) ?_
        refine eR_callSi [_] rfl dX9_coatsOf_51 ok_mX9_one kw_1050 rfl rfl (Nat.le_of_ble_eq_true rfl) (d' := 0) (by decide) (Nat.le_of_ble_eq_true rfl) ?_
        refine sp_one (by first | exact b01_01 _ | omega) ?_
        refine eR_iadd dX9_coatsOf_54 ?_
        refine eX_pcI (show (↑(owN S p c) + 1 : Int) = ↑(owN S p (c + 1)) from by rw [owN]; (repeat' split) <;> first | rfl | omega | (simp_all; done) | grind) ?_
        refine eR_istn_2 dX9_coatsOf_55 rfl (by decide) rfl ?_
        refine eR_iinc_3 dX9_coatsOf_56 (by decide) rfl ?_
        refine eR_goto (tgt := 4) dX9_coatsOf_59 (by decide) ?_
        exact ih (c + 1) (by omega)
      · refine eR_aldn_0 dX9_coatsOf_33 rfl ?_
        refine eR_getR (i := 206) dX9_coatsOf_34 gf_X9_7 th_205 rfl ?_
        refine eR_bi (z := 8) dX9_coatsOf_37 rfl ?_
        refine eR_ildn_3 dX9_coatsOf_39 rfl ?_
        refine eR_iadd dX9_coatsOf_40 ?_
        refine eR_iald (n := 8 + c) dX9_coatsOf_41 th_206 (by omega) (by omega) (by decide) ?_
        refine eX_pcI ((V.2.2.2.1 c (by omega)).2.1) ?_
        refine eR_ildn_1 dX9_coatsOf_42 rfl ?_
        refine eR_icmp_ne (tgt := 50) dX9_coatsOf_43 (by decide) (by first | exact rg_b01 _ | (unfold rg; omega)) (by first | exact rg_b01 _ | (unfold rg; omega)) (fun c43 => ?_) (fun c43 => ?_)
        · refine eR_ic dX9_coatsOf_50 ?_
          refine eR_callSi [_] rfl dX9_coatsOf_51 ok_mX9_one kw_1050 rfl rfl (Nat.le_of_ble_eq_true rfl) (d' := 0) (by decide) (Nat.le_of_ble_eq_true rfl) ?_
          refine sp_one (by first | exact b01_01 _ | omega) ?_
          refine eR_iadd dX9_coatsOf_54 ?_
          refine eX_pcI (show (↑(owN S p c) + 0 : Int) = ↑(owN S p (c + 1)) from by rw [owN]; (repeat' split) <;> first | rfl | omega | (simp_all; done) | grind) ?_
          refine eR_istn_2 dX9_coatsOf_55 rfl (by decide) rfl ?_
          refine eR_iinc_3 dX9_coatsOf_56 (by decide) rfl ?_
          refine eR_goto (tgt := 4) dX9_coatsOf_59 (by decide) ?_
          exact ih (c + 1) (by omega)
        · refine eR_ic dX9_coatsOf_46 ?_
          refine eR_goto (tgt := 51) dX9_coatsOf_47 (by decide) ?_
          refine eR_callSi [_] rfl dX9_coatsOf_51 ok_mX9_one kw_1050 rfl rfl (Nat.le_of_ble_eq_true rfl) (d' := 0) (by decide) (Nat.le_of_ble_eq_true rfl) ?_
          refine sp_one (by first | exact b01_01 _ | omega) ?_
          refine eR_iadd dX9_coatsOf_54 ?_
          refine eX_pcI (show (↑(owN S p c) + 1 : Int) = ↑(owN S p (c + 1)) from by rw [owN]; (repeat' split) <;> first | rfl | omega | (simp_all; done) | grind) ?_
          refine eR_istn_2 dX9_coatsOf_55 rfl (by decide) rfl ?_
          refine eR_iinc_3 dX9_coatsOf_56 (by decide) rfl ?_
          refine eR_goto (tgt := 4) dX9_coatsOf_59 (by decide) ?_
          exact ih (c + 1) (by omega)
theorem sp_coatsOf (B : sB S) (V : mV h S) {p : Nat} (hp : p < 8) (k : Q (.int (zI ↑(owN S p (sC S)))) (tau t s) h) : eX g 2 mX9_coatsOf 0 (lv_args 0 [.ref (gA g 205), .int (zI ↑p)]) [] (tau t s) h Q := by
  show eX g 2 mX9_coatsOf 0 [(0, .ref (gA g 205)), (1, .int (zI ↑p))] [] (tau t s) h Q
  refine eR_ic dX9_coatsOf_0 ?_
  refine eR_istn_n2 dX9_coatsOf_1 rfl (by decide) rfl ?_
  refine eR_ic dX9_coatsOf_2 ?_
  refine eR_istn_n3 dX9_coatsOf_3 rfl (by decide) rfl ?_
  exact lp_coatsOf B V hp k (sC S) 0 (by omega)
end M19
