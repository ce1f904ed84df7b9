theorem bcn_or {x n : Nat} (hx : x.testBit n = false) : ∀ k, bcn (x ||| 2 ^ n) k = bcn x k + (if n < k then 1 else 0) := by
  intro k
  induction k with
  | zero => rfl
  | succ k ih =>
    show bcn (x ||| 2 ^ n) k + _ = bcn x k + _ + _
    rw [ih, Nat.testBit_or, Nat.testBit_two_pow]
    by_cases hn : n = k
    · subst hn
      simp [hx]
    · by_cases h1 : n < k
      · simp [hn, h1, show n < k + 1 from by omega]; omega
      · simp [hn, h1, show ¬ n < k + 1 from by omega]
theorem subN_as {a b : Nat} (h1 : subN a b) (h2 : subN b a) : a = b := by
  unfold subN at h1 h2
  rw [← h1, Nat.or_comm a b]
  exact h2.symm
theorem pass_cn {S : TS} {N : Nat} (h : passP S N (sC S) = N) : ∀ c, c ≤ sC S → passP S N c = N := by
  intro c hc
  have h2 : ∀ j, subN (passP S N c) (passP S N (c + j)) := by
    intro j
    induction j with
    | zero => exact subN_rf _
    | succ j ih => exact subN_tr ih (subN_step S _ _)
  have h3 := h2 (sC S - c)
  rw [show c + (sC S - c) = sC S from by omega, h] at h3
  exact subN_as h3 (subN_pass S N c)
/-- a NET has both owners of a coat, or none -/
theorem net_cl {S : TS} {p c : Nat} (hc : c < sC S) (hk : ¬ (sK S).testBit c = true) : (netS S p).testBit (sO S c 0) = (netS S p).testBit (sO S c 1) := by
  have h1 : passP S (netS S p) (sC S) = netS S p := it_fix S p
  have h2 := pass_cn h1 (c + 1) (by omega)
  have h3 : stepP S c (passP S (netS S p) c) = netS S p := h2
  rw [pass_cn h1 c (by omega)] at h3
  unfold stepP at h3
  have h4 : ∀ i, (bthN S c).testBit i = true → (netS S p).testBit i = true → ∀ j, (bthN S c).testBit j = true → (netS S p).testBit j = true := by
    intro i hi hi2 j hj
    have h5 : netS S p &&& bthN S c ≠ 0 := by
      intro q
      have : (netS S p &&& bthN S c).testBit i = true := by rw [Nat.testBit_and, hi, hi2]; rfl
      rw [q] at this
      simp at this
    rw [if_pos ⟨hk, h5⟩] at h3
    rw [← h3, Nat.testBit_or, hj]
    simp
  have b0 : (bthN S c).testBit (sO S c 0) = true := by simp [bthN, Nat.testBit_or, Nat.testBit_two_pow]
  have b1 : (bthN S c).testBit (sO S c 1) = true := by simp [bthN, Nat.testBit_or, Nat.testBit_two_pow]
  have f1 := h4 _ b0
  have f2 := h4 _ b1
  cases e1 : (netS S p).testBit (sO S c 0) <;> cases e2 : (netS S p).testBit (sO S c 1)
  · rfl
  · have := f2 e2 _ b0; rw [e1] at this; cases this
  · have := f1 e1 _ b1; rw [e2] at this; cases this
  · rfl
/-- COATS (not CUT) of one, as bits -/
def wcN (S : TS) (p : Nat) : Nat → Nat
  | 0 => 0
  | c + 1 => wcN S p c ||| (if ¬ (sK S).testBit c = true ∧ (bthN S c).testBit p = true then 2 ^ c else 0)
theorem bth_bit {S : TS} {c p : Nat} : (bthN S c).testBit p = true ↔ (sO S c 0 = p ∨ sO S c 1 = p) := by
  simp [bthN, Nat.testBit_or, Nat.testBit_two_pow]
theorem wcN_lt (S : TS) (p : Nat) : ∀ c, wcN S p c < 2 ^ c := by
  intro c
  induction c with
  | zero => exact (by decide : (0 : Nat) < 2 ^ 0)
  | succ c ih =>
    unfold wcN
    have h1 : 2 ^ c < 2 ^ (c + 1) := Nat.pow_lt_pow_right (by omega) (by omega)
    refine Nat.or_lt_two_pow (by omega) ?_
    split <;> omega
theorem wcN_bit {S : TS} {p : Nat} : ∀ n i, (wcN S p n).testBit i = true ↔ i < n ∧ ¬ (sK S).testBit i = true ∧ (sO S i 0 = p ∨ sO S i 1 = p) := by
  intro n
  induction n with
  | zero => intro i; simp [wcN]
  | succ n ih =>
    intro i
    unfold wcN
    rw [Nat.testBit_or, Bool.or_eq_true, ih]
    by_cases hc : ¬ (sK S).testBit n = true ∧ (bthN S n).testBit p = true
    · rw [if_pos hc, Nat.testBit_two_pow]
      rw [bth_bit] at hc
      constructor
      · rintro (q | q)
        · exact ⟨by omega, q.2⟩
        · have : n = i := by simpa using q
          subst this
          exact ⟨by omega, hc⟩
      · rintro ⟨q1, q2⟩
        by_cases hn : n = i
        · right; simp [hn]
        · left; exact ⟨by omega, q2⟩
    · rw [if_neg hc]
      rw [bth_bit] at hc
      constructor
      · rintro (q | q)
        · exact ⟨by omega, q.2⟩
        · simp at q
      · rintro ⟨q1, q2⟩
        by_cases hn : n = i
        · subst hn; exact absurd q2 hc
        · left; exact ⟨by omega, q2⟩
theorem wcN_cnt {S : TS} {p : Nat} : ∀ n, n ≤ 24 → bcn (wcN S p n) 24 = owN S p n := by
  intro n
  induction n with
  | zero => intro _; exact bcn_0 24
  | succ n ih =>
    intro hn
    unfold wcN owN
    have hb : (wcN S p n).testBit n = false := by
      cases e : (wcN S p n).testBit n
      · rfl
      · have := (wcN_bit n n).mp e; omega
    by_cases hc : ¬ (sK S).testBit n = true ∧ (bthN S n).testBit p = true
    · rw [if_pos hc, bcn_or hb, ih (by omega), if_pos (by omega), if_pos ⟨hc.1, bth_bit.mp hc.2⟩]
    · rw [if_neg hc, Nat.or_zero, ih (by omega), if_neg (fun q => hc ⟨q.1, bth_bit.mpr q.2⟩), Nat.add_zero]
def csN (S : TS) (set : Nat) : Nat → Nat
  | 0 => 0
  | q + 1 => if set.testBit q = true then csN S set q ||| wcN S q (sC S) else csN S set q
theorem csN_lt {S : TS} (B : sB S) (set : Nat) : ∀ q, csN S set q < 256 := by
  intro q
  induction q with
  | zero => exact (by decide : (0 : Nat) < 256)
  | succ q ih =>
    unfold csN
    have h1 : wcN S q (sC S) < 256 := Nat.lt_of_lt_of_le (wcN_lt S q (sC S)) (Nat.pow_le_pow_right (by omega) B.2.1 : 2 ^ sC S ≤ 2 ^ 8)
    split
    · exact Nat.or_lt_two_pow (n := 8) ih h1
    · exact ih
theorem csN_bit {S : TS} {set : Nat} : ∀ n i, (csN S set n).testBit i = true ↔ ∃ q, q < n ∧ set.testBit q = true ∧ (wcN S q (sC S)).testBit i = true := by
  intro n
  induction n with
  | zero => intro i; simp [csN]
  | succ n ih =>
    intro i
    unfold csN
    by_cases hs : set.testBit n = true
    · rw [if_pos hs, Nat.testBit_or, Bool.or_eq_true, ih]
      constructor
      · rintro (⟨q, h1, h2⟩ | h)
        · exact ⟨q, by omega, h2⟩
        · exact ⟨n, by omega, hs, h⟩
      · rintro ⟨q, h1, h2, h3⟩
        by_cases hq : q = n
        · subst hq; right; exact h3
        · left; exact ⟨q, by omega, h2, h3⟩
    · rw [if_neg hs, ih]
      constructor
      · rintro ⟨q, h1, h2⟩; exact ⟨q, by omega, h2⟩
      · rintro ⟨q, h1, h2, h3⟩
        by_cases hq : q = n
        · subst hq; exact absurd h2 hs
        · exact ⟨q, by omega, h2, h3⟩
theorem ctsN_bit {S : TS} {set : Nat} : ∀ n i, (ctsN S set n).testBit i = true ↔ i < n ∧ ¬ (sK S).testBit i = true ∧ set.testBit (sO S i 0) = true := by
  intro n
  induction n with
  | zero => intro i; simp [ctsN]
  | succ n ih =>
    intro i
    unfold ctsN
    rw [Nat.testBit_or, Bool.or_eq_true, ih]
    by_cases hc : ¬ (sK S).testBit n = true ∧ set.testBit (sO S n 0) = true
    · rw [if_pos hc, Nat.testBit_two_pow]
      constructor
      · rintro (q | q)
        · exact ⟨by omega, q.2⟩
        · have : n = i := by simpa using q
          subst this
          exact ⟨by omega, hc⟩
      · rintro ⟨q1, q2⟩
        by_cases hn : n = i
        · right; simp [hn]
        · left; exact ⟨by omega, q2⟩
    · rw [if_neg hc]
      constructor
      · rintro (q | q)
        · exact ⟨by omega, q.2⟩
        · simp at q
      · rintro ⟨q1, q2⟩
        by_cases hn : n = i
        · subst hn; exact absurd q2 hc
        · left; exact ⟨by omega, q2⟩
theorem bool_if {a b : Bool} (h : a = true ↔ b = true) : a = b := by cases a <;> cases b <;> simp_all
theorem csN_net {S : TS} (B : sB S) {p : Nat} : csN S (netS S p) (sP S) = ctsN S (netS S p) (sC S) := by
  apply Nat.eq_of_testBit_eq
  intro i
  refine bool_if ?_
  rw [csN_bit, ctsN_bit]
  constructor
  · rintro ⟨q, h1, h2, h3⟩
    rw [wcN_bit] at h3
    refine ⟨h3.1, h3.2.1, ?_⟩
    rcases h3.2.2 with e | e
    · rw [e]; exact h2
    · rw [net_cl h3.1 h3.2.1, e]; exact h2
  · rintro ⟨h1, h2, h3⟩
    exact ⟨sO S i 0, (B.2.2.2.1 i h1).1, h3, (wcN_bit _ _).mpr ⟨h1, h2, Or.inl rfl⟩⟩
/-! the most and the fewest COATS of one -/
def msN (S : TS) (set : Nat) : Nat → Nat
  | 0 => 0
  | q + 1 => if set.testBit q = true then max (msN S set q) (owN S q (sC S)) else msN S set q
def lsN (S : TS) (set : Nat) : Nat → Nat
  | 0 => 8
  | q + 1 => if set.testBit q = true then min (lsN S set q) (owN S q (sC S)) else lsN S set q
theorem msN_le {S : TS} (set : Nat) (h8 : sC S ≤ 8) : ∀ q, msN S set q ≤ 8 ∧ lsN S set q ≤ 8 := by
  intro q
  induction q with
  | zero => exact ⟨by unfold msN; omega, Nat.le_refl _⟩
  | succ q ih =>
    have := owN_le S q (sC S)
    unfold msN lsN
    split <;> omega
theorem few_ms {S : TS} {set : Nat} : ∀ n, fewB S set n = true ↔ msN S set n ≤ 2 := by
  intro n
  induction n with
  | zero => simp [fewB, msN]
  | succ n ih =>
    unfold fewB msN
    rw [Bool.and_eq_true, ih, Bool.or_eq_true, decide_eq_true_eq]
    by_cases hs : set.testBit n = true
    · rw [if_pos hs, hs]; simp; omega
    · rw [if_neg hs]; simp [hs]
theorem two_ms {S : TS} {set : Nat} : ∀ n, (twoB S set n = true → (msN S set n = 0 ∧ lsN S set n = 8 ∧ ∀ q, q < n → ¬ set.testBit q = true) ∨ (msN S set n = 2 ∧ lsN S set n = 2)) ∧ (2 ≤ lsN S set n → msN S set n ≤ 2 → twoB S set n = true) := by
  intro n
  induction n with
  | zero => exact ⟨fun _ => Or.inl ⟨rfl, rfl, fun q hq => absurd hq (Nat.not_lt_zero q)⟩, fun _ _ => rfl⟩
  | succ n ih =>
    unfold twoB msN lsN
    rw [Bool.and_eq_true, Bool.or_eq_true, decide_eq_true_eq]
    by_cases hs : set.testBit n = true
    · rw [if_pos hs, if_pos hs, hs]
      refine ⟨fun q => ?_, fun q1 q2 => ?_⟩
      · have q2 : owN S n (sC S) = 2 := by simpa using q.2
        right
        rcases ih.1 q.1 with ⟨a1, a2, a3⟩ | ⟨a1, a2⟩ <;> omega
      · exact ⟨ih.2 (by omega) (by omega), Or.inr (by omega)⟩
    · rw [if_neg hs, if_neg hs]
      refine ⟨fun q => ?_, fun q1 q2 => ⟨ih.2 q1 q2, Or.inl (by simp [hs])⟩⟩
      rcases ih.1 q.1 with ⟨a1, a2, a3⟩ | a
      · refine Or.inl ⟨a1, a2, fun x hx => ?_⟩
        by_cases hxn : x = n
        · subst hxn; exact hs
        · exact a3 x (by omega)
      · exact Or.inr a
theorem net_own {S : TS} {p : Nat} : ∀ k, (itP S p k).testBit p = true := by
  intro k
  induction k with
  | zero => simp [itP, Nat.testBit_two_pow]
  | succ k ih =>
    have h1 : itP S p k ||| itP S p (k + 1) = itP S p (k + 1) := subN_it S p k
    rw [← h1, Nat.testBit_or, ih]
    rfl
def knBy (a b ls ms : Nat) : Nat := if (b : Int) = (a : Int) - 1 ∧ ms ≤ 2 then 0 else if 2 < a ∧ b = a ∧ ls = 2 ∧ ms = 2 then 1 else 2
theorem knd_by {S : TS} {p : Nat} (hp : p < sP S) : knBy (bcn (netS S p) 24) (bcn (ctsN S (netS S p) (sC S)) 24) (lsN S (netS S p) (sP S)) (msN S (netS S p) (sP S)) = kndN S (netS S p) := by
  unfold knBy kndN
  have h1 := few_ms (S := S) (set := netS S p) (sP S)
  have h2 := two_ms (S := S) (set := netS S p) (sP S)
  have h3 : twoB S (netS S p) (sP S) = true ↔ (lsN S (netS S p) (sP S) = 2 ∧ msN S (netS S p) (sP S) = 2) := by
    constructor
    · intro q
      rcases h2.1 q with ⟨a1, a2, a3⟩ | a
      · exact absurd (net_own (S := S) (p := p) (sC S)) (a3 p hp)
      · exact ⟨a.2, a.1⟩
    · rintro ⟨q1, q2⟩
      exact h2.2 (by omega) (by omega)
  simp only [h1, h3]
/-- NETS, as met one by one -/
def cmN (S : TS) : Nat → Nat × Nat
  | 0 => (0, 0)
  | p + 1 => if (cmN S p).2.testBit p = true then cmN S p else ((cmN S p).1 + 1, (cmN S p).2 ||| netS S p)
theorem cmN_rg {S : TS} (B : sB S) : ∀ n, n ≤ sP S → (cmN S n).1 ≤ n ∧ (cmN S n).2 < 256 := by
  intro n
  induction n with
  | zero => intro _; exact ⟨Nat.le_refl _, (by decide : (0 : Nat) < 256)⟩
  | succ n ih =>
    intro hn
    have h7 := ih (by omega)
    have h8 := B.1
    unfold cmN
    split
    · omega
    · exact ⟨by show (cmN S n).1 + 1 ≤ n + 1; omega, Nat.or_lt_two_pow (n := 8) h7.2 (netS_lt B (by omega))⟩
theorem cmN_nm {S : TS} (B : sB S) : ∀ n, n ≤ sP S → (cmN S n).1 = (nmN S n).1 ∧ ∀ i, i < sP S → (nmN S n).2.testBit i = !(cmN S n).2.testBit i := by
  have hP8 := B.1
  intro n
  induction n with
  | zero =>
    intro _
    refine ⟨rfl, fun i hi => ?_⟩
    show (2 ^ sP S - 1).testBit i = !(0 : Nat).testBit i
    rw [Nat.testBit_two_pow_sub_one]
    simp [hi]
  | succ n ih =>
    intro hn
    have h := ih (by omega)
    have h1 := h.2 n (by omega)
    unfold cmN nmN
    cases e : (cmN S n).2.testBit n
    · rw [e] at h1
      have h2 : (nmN S n).2.testBit n = true := h1
      rw [if_neg (by simp), if_pos h2]
      refine ⟨by show (cmN S n).1 + 1 = (nmN S n).1 + 1; rw [h.1], fun i hi => ?_⟩
      show ((nmN S n).2 &&& (255 - netS S n)).testBit i = !((cmN S n).2 ||| netS S n).testBit i
      have hx := netS_lt B (p := n) (by omega)
      have e2 := Nat.testBit_two_pow_sub_succ (n := 8) (x := netS S n) hx i
      rw [show 2 ^ 8 - (netS S n + 1) = 255 - netS S n from by omega] at e2
      rw [Nat.testBit_and, Nat.testBit_or, e2, h.2 i hi]
      have : i < 8 := by omega
      simp [this]
    · rw [e] at h1
      have h2 : ¬ (nmN S n).2.testBit n = true := by rw [h1]; simp
      rw [if_pos rfl, if_neg h2]
      exact h
section M48
variable {g : EG} {d t s u : Nat} {h h1 : PH} {Q : EQ} {S : TS}
theorem nl_spread1 (T : isTn (tau t s) u) (B : sB S) (V : cV h u S) (h38 : 38 ≤ u) {p x r : Nat} (hx : x < 256) (k : ∀ h1 : PH, ofO 37 h h1 → h1 37 0 = (passP S x (sC S) : Int) → eX g 1 mX2_spread 73 [(0, .ref (gA g 37)), (1, .ref (gA g u)), (2, .int (zI ↑p)), (3, .int (zI ↑r)), (4, .int (zI ↑(sC S)))] [] (tau t s) h1 Q) : ∀ n c, c + n = sC S → ∀ h1 : PH, ofO 37 h h1 → h1 37 0 = (passP S x c : Int) → eX g 1 mX2_spread 20 [(0, .ref (gA g 37)), (1, .ref (gA g u)), (2, .int (zI ↑p)), (3, .int (zI ↑r)), (4, .int (zI ↑c))] [] (tau t s) h1 Q := by
  have hP8 := B.1
  have hC8 := B.2.1
  have hE10 := B.2.2.1
  have hF99 := B.2.2.2.2.2.2.1
  intro n
  induction n with
  | zero =>
    intro c hc h1 hO hp
    have V1 : cV h1 u S := cV_of B V (fun a q1 q2 => hO a (by omega))
    refine eR_ild_4 dX2_spread_20 ?_
    refine eR_aldn_1 dX2_spread_22 rfl ?_
    refine eR_getI dX2_spread_23 gf_X2_52 T.1 rfl ?_
    refine eX_pcI (V1.2.1) ?_
    refine eR_icmp_ge (tgt := 73) dX2_spread_26 (by decide) (by first | exact rg_b01 _ | (unfold rg; omega)) (by first | exact rg_b01 _ | (unfold rg; omega)) (fun c26 => ?_) (fun c26 => absurd c26 (by omega))
    have e9 : c = sC S := by omega
    subst e9
    exact k h1 hO hp
  | succ n ih =>
    intro c hc h1 hO hp
    have V1 : cV h1 u S := cV_of B V (fun a q1 q2 => hO a (by omega))
    have hp9 := passP_lt B hx c (by omega)
    have hb9 := bthN_lt B (c := c) (by omega)
    have ha9 : passP S x c &&& bthN S c ≤ passP S x c := Nat.and_le_left
    refine eR_ild_4 dX2_spread_20 ?_
    refine eR_aldn_1 dX2_spread_22 rfl ?_
    refine eR_getI dX2_spread_23 gf_X2_52 T.1 rfl ?_
    refine eX_pcI (V1.2.1) ?_
    refine eR_icmp_ge (tgt := 73) dX2_spread_26 (by decide) (by first | exact rg_b01 _ | (unfold rg; omega)) (by first | exact rg_b01 _ | (unfold rg; omega)) (fun c26 => absurd c26 (by omega)) (fun c26 => ?_)
    refine eR_aldn_1 dX2_spread_29 rfl ?_
    refine eR_ild_4 dX2_spread_30 ?_
    refine eR_callVi [_] rfl dX2_spread_32 ok_mX6_isCut kw_599 rfl rfl T.1 rfl (Nat.le_of_ble_eq_true rfl) (d' := 0) (by decide) (Nat.le_of_ble_eq_true rfl) ?_
    refine tn_isCut (c := c) T B V1 (by omega) ?_
    refine eR_if_ne (tgt := 67) dX2_spread_35 (by decide) (by first | exact rg_b01 _ | (unfold rg; omega)) (fun c35 => ?_) (fun c35 => ?_)
    · replace c35 := b01_ne0.mp c35
      refine eR_iinc_4 dX2_spread_67 (by decide) rfl ?_
      refine eR_goto (tgt := 20) dX2_spread_70 (by decide) ?_
      refine ih (c + 1) (by omega) h1 hO ?_
      rw [hp]
      show ((passP S x c : Nat) : Int) = ((stepP S c (passP S x c) : Nat) : Int)
      unfold stepP
      rw [if_neg (by rintro ⟨q1, q2⟩; first | contradiction | omega)]
    · replace c35 := b01_eq0.mp c35
      refine eR_aldn_0 dX2_spread_38 rfl ?_
      refine eR_getI dX2_spread_39 gf_X2_9 th_37 rfl ?_
      refine eX_pcI (hp) ?_
      refine eR_aldn_1 dX2_spread_42 rfl ?_
      refine eR_ild_4 dX2_spread_43 ?_
      refine eR_callVi [_] rfl dX2_spread_45 ok_mX6_ownersOf kw_600 rfl rfl T.1 rfl (Nat.le_of_ble_eq_true rfl) (d' := 0) (by decide) (Nat.le_of_ble_eq_true rfl) ?_
      refine tn_ownersOf (c := c) T B V1 (by omega) ?_
      refine eR_iand dX2_spread_48 ?_
      refine eX_pcI (show (zAnd ↑(passP S x c) ↑(bthN S c) : Int) = ↑(passP S x c &&& bthN S c : Nat) from zAnd_nat (by omega)) ?_
      refine eR_if_eq (tgt := 67) dX2_spread_49 (by decide) (by first | exact rg_b01 _ | (unfold rg; omega)) (fun c49 => ?_) (fun c49 => ?_)
      · refine eR_iinc_4 dX2_spread_67 (by decide) rfl ?_
        refine eR_goto (tgt := 20) dX2_spread_70 (by decide) ?_
        refine ih (c + 1) (by omega) h1 hO ?_
        rw [hp]
        show ((passP S x c : Nat) : Int) = ((stepP S c (passP S x c) : Nat) : Int)
        unfold stepP
        rw [if_neg (by rintro ⟨q1, q2⟩; first | contradiction | omega)]
      · refine eR_aldn_0 dX2_spread_52 rfl ?_
        refine eR_dup dX2_spread_53 rfl ?_
        refine eR_getI dX2_spread_54 gf_X2_9 th_37 rfl ?_
        refine eX_pcI (hp) ?_
        refine eR_aldn_1 dX2_spread_57 rfl ?_
        refine eR_ild_4 dX2_spread_58 ?_
        refine eR_callVi [_] rfl dX2_spread_60 ok_mX6_ownersOf kw_600 rfl rfl T.1 rfl (Nat.le_of_ble_eq_true rfl) (d' := 0) (by decide) (Nat.le_of_ble_eq_true rfl) ?_
        refine tn_ownersOf (c := c) T B V1 (by omega) ?_
        refine eR_ior dX2_spread_63 ?_
        refine eX_pcI (show (zOr ↑(passP S x c) ↑(bthN S c) : Int) = ↑(passP S x c ||| bthN S c : Nat) from zOr_nat (by omega) (by omega)) ?_
        refine eR_putI dX2_spread_64 pf_X2_9 th_37 rfl ?_
        refine eR_iinc_4 dX2_spread_67 (by decide) rfl ?_
        refine eR_goto (tgt := 20) dX2_spread_70 (by decide) ?_
        refine ih (c + 1) (by omega) _ (ofO_w hO) ?_
        rw [hU_s]
        show ((passP S x c ||| bthN S c : Nat) : Int) = ((stepP S c (passP S x c) : Nat) : Int)
        unfold stepP
        rw [if_pos ⟨by assumption, by omega⟩]
theorem nl_spread2 (T : isTn (tau t s) u) (B : sB S) (V : cV h u S) (h38 : 38 ≤ u) {p : Nat} (hp8 : p < 8) (k : ∀ h1 : PH, ofO 37 h h1 → h1 37 0 = (netS S p : Int) → Q .null (tau t s) h1) : ∀ n r, r + n = sC S → ∀ h1 : PH, ofO 37 h h1 → h1 37 0 = (itP S p r : Int) → eX g 1 mX2_spread 9 [(0, .ref (gA g 37)), (1, .ref (gA g u)), (2, .int (zI ↑p)), (3, .int (zI ↑r))] [] (tau t s) h1 Q := by
  have hP8 := B.1
  have hC8 := B.2.1
  have hE10 := B.2.2.1
  have hF99 := B.2.2.2.2.2.2.1
  intro n
  induction n with
  | zero =>
    intro r hr h1 hO hp
    have V1 : cV h1 u S := cV_of B V (fun a q1 q2 => hO a (by omega))
    refine eR_ildn_3 dX2_spread_9 rfl ?_
    refine eR_aldn_1 dX2_spread_10 rfl ?_
    refine eR_getI dX2_spread_11 gf_X2_52 T.1 rfl ?_
    refine eX_pcI (V1.2.1) ?_
    refine eR_icmp_ge (tgt := 79) dX2_spread_14 (by decide) (by first | exact rg_b01 _ | (unfold rg; omega)) (by first | exact rg_b01 _ | (unfold rg; omega)) (fun c14 => ?_) (fun c14 => absurd c14 (by omega))
    refine eR_vret dX2_spread_79 rfl ?_
    have e9 : r = sC S := by omega
    subst e9
    exact k h1 hO hp
  | succ n ih =>
    intro r hr h1 hO hp
    have V1 : cV h1 u S := cV_of B V (fun a q1 q2 => hO a (by omega))
    refine eR_ildn_3 dX2_spread_9 rfl ?_
    refine eR_aldn_1 dX2_spread_10 rfl ?_
    refine eR_getI dX2_spread_11 gf_X2_52 T.1 rfl ?_
    refine eX_pcI (V1.2.1) ?_
    refine eR_icmp_ge (tgt := 79) dX2_spread_14 (by decide) (by first | exact rg_b01 _ | (unfold rg; omega)) (by first | exact rg_b01 _ | (unfold rg; omega)) (fun c14 => absurd c14 (by omega)) (fun c14 => ?_)
    refine eR_ic dX2_spread_17 ?_
    refine eR_ist_n4 dX2_spread_18 (by decide) rfl ?_
    refine nl_spread1 (x := itP S p r) (r := r) T B V1 h38 (itP_lt B hp8 r) (fun h2 hO2 hp2 => ?_) (sC S) 0 (by omega) h1 (ofO_rf _ _) hp
    refine eR_iinc_3 dX2_spread_73 (by decide) rfl ?_
    refine eR_goto (tgt := 9) dX2_spread_76 (by decide) ?_
    refine eX_lv (lv2 := List.take 4 _) (fun q hq => List.mem_of_mem_take hq) ?_
    exact ih (r + 1) (by omega) h2 (fun a q => (hO2 a q).trans (hO a q)) hp2
theorem nt_spread (T : isTn (tau t s) u) (B : sB S) (V : cV h u S) (h38 : 38 ≤ u) {p : Nat} (hp8 : p < 8) (k : ∀ h1 : PH, ofO 37 h h1 → h1 37 0 = (netS S p : Int) → Q .null (tau t s) h1) : eX g 1 mX2_spread 0 (lv_args 0 [.ref (gA g 37), .ref (gA g u), .int (zI ↑p)]) [] (tau t s) h Q := by
  show eX g 1 mX2_spread 0 [(0, .ref (gA g 37)), (1, .ref (gA g u)), (2, .int (zI ↑p))] [] (tau t s) h Q
  have hl3 : 2 ^ p ≤ 2 ^ 7 := Nat.pow_le_pow_right (by omega) (by omega)
  refine eR_aldn_0 dX2_spread_0 rfl ?_
  refine eR_ic dX2_spread_1 ?_
  refine eR_ildn_2 dX2_spread_2 rfl ?_
  refine eR_ishl dX2_spread_3 ?_
  refine eX_pcI (show (zShl 1 ↑p : Int) = ↑(2 ^ p : Nat) from by have := zShl_nat (a := 1) (k := p) (by omega) (by omega); rw [Nat.one_mul] at this; exact this) ?_
  refine eR_putI dX2_spread_4 pf_X2_9 th_37 rfl ?_
  refine eR_ic dX2_spread_7 ?_
  refine eR_istn_n3 dX2_spread_8 rfl (by decide) rfl ?_
  exact nl_spread2 T B V h38 hp8 k (sC S) 0 (by omega) _ (ofO_w (ofO_rf _ _)) (hU_s _ _ _ _)
theorem tl_whole (T : isTn (tau t s) u) (B : sB S) (V : cV h u S) {p : Nat} (hp : p < 8) (k : Q (.int (zI ↑(wcN S p (sC S)))) (tau t s) h) : ∀ n c : Nat, c + n = sC S → eX g 1 mX2_wholeCoatsOf 4 [(0, .ref (gA g u)), (1, .int (zI ↑p)), (2, .int (zI ↑(wcN S p c))), (3, .int (zI ↑c))] [] (tau t s) h Q := by
  have hP8 := B.1
  have hC8 := B.2.1
  have hE10 := B.2.2.1
  have hF99 := B.2.2.2.2.2.2.1
  intro n
  induction n with
  | zero =>
    intro c hx9
    refine eR_ildn_3 dX2_wholeCoatsOf_4 rfl ?_
    refine eR_aldn_0 dX2_wholeCoatsOf_5 rfl ?_
    refine eR_getI dX2_wholeCoatsOf_6 gf_X2_52 T.1 rfl ?_
    refine eX_pcI (V.2.1) ?_
    refine eR_icmp_ge (tgt := 44) dX2_wholeCoatsOf_9 (by decide) (by first | exact rg_b01 _ | (unfold rg; omega)) (by first | exact rg_b01 _ | (unfold rg; omega)) (fun c9 => ?_) (fun c9 => absurd c9 (by omega))
    refine eR_ildn_2 dX2_wholeCoatsOf_44 rfl ?_
    refine eR_iret dX2_wholeCoatsOf_45 rfl rfl ?_
    have e9 : c = sC S := by omega
    subst e9
    exact k
  | succ n ih =>
    intro c hx9
    have hb9 := bthN_lt B (c := c) (by omega)
    have hl3 : 2 ^ c ≤ 2 ^ 7 := Nat.pow_le_pow_right (by omega) (by omega)
    have hc9 := wcN_lt S p c
    refine eR_ildn_3 dX2_wholeCoatsOf_4 rfl ?_
    refine eR_aldn_0 dX2_wholeCoatsOf_5 rfl ?_
    refine eR_getI dX2_wholeCoatsOf_6 gf_X2_52 T.1 rfl ?_
    refine eX_pcI (V.2.1) ?_
    refine eR_icmp_ge (tgt := 44) dX2_wholeCoatsOf_9 (by decide) (by first | exact rg_b01 _ | (unfold rg; omega)) (by first | exact rg_b01 _ | (unfold rg; omega)) (fun c9 => absurd c9 (by omega)) (fun c9 => ?_)
    refine eR_aldn_0 dX2_wholeCoatsOf_12 rfl ?_
    refine eR_ildn_3 dX2_wholeCoatsOf_13 rfl ?_
    refine eR_callVi [_] rfl dX2_wholeCoatsOf_14 ok_mX6_isCut kw_599 rfl rfl T.1 rfl (Nat.le_of_ble_eq_true rfl) (d' := 0) (by decide) (Nat.le_of_ble_eq_true rfl) ?_
    refine tn_isCut (c := c) T B V (by omega) ?_
    refine eR_if_ne (tgt := 38) dX2_wholeCoatsOf_17 (by decide) (by first | exact rg_b01 _ | (unfold rg; omega)) (fun c17 => ?_) (fun c17 => ?_)
    · replace c17 := b01_ne0.mp c17
      refine eR_iinc_3 dX2_wholeCoatsOf_38 (by decide) rfl ?_
      refine eR_goto (tgt := 4) dX2_wholeCoatsOf_41 (by decide) ?_
      rw [show wcN S p c = wcN S p (c + 1) from by rw [wcN, if_neg (by rintro ⟨q1, q2⟩; contradiction), Nat.or_zero]]
      exact ih (c + 1) (by omega)
    · replace c17 := b01_eq0.mp c17
      refine eR_aldn_0 dX2_wholeCoatsOf_20 rfl ?_
      refine eR_ildn_3 dX2_wholeCoatsOf_21 rfl ?_
      refine eR_callVi [_] rfl dX2_wholeCoatsOf_22 ok_mX6_ownersOf kw_600 rfl rfl T.1 rfl (Nat.le_of_ble_eq_true rfl) (d' := 0) (by decide) (Nat.le_of_ble_eq_true rfl) ?_
      refine tn_ownersOf (c := c) T B V (by omega) ?_
      refine eR_ildn_1 dX2_wholeCoatsOf_25 rfl ?_
      refine eR_ishr dX2_wholeCoatsOf_26 ?_
      refine eR_ic dX2_wholeCoatsOf_27 ?_
      refine eR_iand dX2_wholeCoatsOf_28 ?_
      refine eX_pcI (show (zAnd (zShr ↑(bthN S c) ↑p) 1 : Int) = b01 ((bthN S c).testBit p = true) from zBit_nat (a := bthN S c) (k := p) (by omega) (by omega)) ?_
      refine eR_if_eq (tgt := 38) dX2_wholeCoatsOf_29 (by decide) (by first | exact rg_b01 _ | (unfold rg; omega)) (fun c29 => ?_) (fun c29 => ?_)
      · replace c29 := b01_eq0.mp c29
        refine eR_iinc_3 dX2_wholeCoatsOf_38 (by decide) rfl ?_
        refine eR_goto (tgt := 4) dX2_wholeCoatsOf_41 (by decide) ?_
        rw [show wcN S p c = wcN S p (c + 1) from by rw [wcN, if_neg (by rintro ⟨q1, q2⟩; contradiction), Nat.or_zero]]
        exact ih (c + 1) (by omega)
      · replace c29 := b01_ne0.mp c29
        refine eR_ildn_2 dX2_wholeCoatsOf_32 rfl ?_
        refine eR_ic dX2_wholeCoatsOf_33 ?_
        refine eR_ildn_3 dX2_wholeCoatsOf_34 rfl ?_
        refine eR_ishl dX2_wholeCoatsOf_35 ?_
        refine eX_pcI (show (zShl 1 ↑c : Int) = ↑(2 ^ c : Nat) from by have := zShl_nat (a := 1) (k := c) (by omega) (by omega); rw [Nat.one_mul] at this; exact this) ?_
        refine eR_ior dX2_wholeCoatsOf_36 ?_
        refine eX_pcI (show (zOr ↑(wcN S p c) ↑(2 ^ c : Nat) : Int) = ↑(wcN S p (c + 1)) from by rw [zOr_nat (by omega) (by omega), wcN, if_pos ⟨by assumption, by assumption⟩]) ?_
        refine eR_istn_2 dX2_wholeCoatsOf_37 rfl (by decide) rfl ?_
        refine eR_iinc_3 dX2_wholeCoatsOf_38 (by decide) rfl ?_
        refine eR_goto (tgt := 4) dX2_wholeCoatsOf_41 (by decide) ?_
        exact ih (c + 1) (by omega)
theorem tn_whole (T : isTn (tau t s) u) (B : sB S) (V : cV h u S) {p : Nat} (hp : p < 8) (k : Q (.int (zI ↑(wcN S p (sC S)))) (tau t s) h) : eX g 1 mX2_wholeCoatsOf 0 (lv_args 0 [.ref (gA g u), .int (zI ↑p)]) [] (tau t s) h Q := by
  show eX g 1 mX2_wholeCoatsOf 0 [(0, .ref (gA g u)), (1, .int (zI ↑p))] [] (tau t s) h Q
  refine eR_ic dX2_wholeCoatsOf_0 ?_
  refine eR_istn_n2 dX2_wholeCoatsOf_1 rfl (by decide) rfl ?_
  refine eR_ic dX2_wholeCoatsOf_2 ?_
  refine eR_istn_n3 dX2_wholeCoatsOf_3 rfl (by decide) rfl ?_
  exact tl_whole T B V hp k (sC S) 0 (by omega)
theorem nt_kindBy {a b ls ms : Nat} (h0 : h 37 0 = (a : Int)) (h1 : h 37 1 = (b : Int)) (ha : a < 256) (hb : b < 256) (hl : ls ≤ 8) (hm : ms ≤ 8) (k : Q (.int (zI ↑(knBy (bcn a 24) (bcn b 24) ls ms))) (tau t s) h) : eX g 1 mX2_kindBy 0 (lv_args 0 [.ref (gA g 37), .int (zI ↑ls), .int (zI ↑ms)]) [] (tau t s) h Q := by
  show eX g 1 mX2_kindBy 0 [(0, .ref (gA g 37)), (1, .int (zI ↑ls)), (2, .int (zI ↑ms))] [] (tau t s) h Q
  have q1 := bcn_le a 24
  have q2 := bcn_le b 24
  refine eR_aldn_0 dX2_kindBy_0 rfl ?_
  refine eR_getI dX2_kindBy_1 gf_X2_9 th_37 rfl ?_
  refine eX_pcI (h0) ?_
  refine eR_callSi [_] rfl dX2_kindBy_4 ok_mJ6_bitCount_0f7a4 kw_644 rfl rfl (Nat.le_of_ble_eq_true rfl) (d' := 0) (by decide) (Nat.le_of_ble_eq_true rfl) ?_
  refine sp_bitCount (n := a) (by omega) ?_
  refine eR_istn_n3 dX2_kindBy_7 rfl (by decide) rfl ?_
  refine eR_aldn_0 dX2_kindBy_8 rfl ?_
  refine eR_getI dX2_kindBy_9 gf_X2_15 th_37 rfl ?_
  refine eX_pcI (h1) ?_
  refine eR_callSi [_] rfl dX2_kindBy_12 ok_mJ6_bitCount_0f7a4 kw_644 rfl rfl (Nat.le_of_ble_eq_true rfl) (d' := 0) (by decide) (Nat.le_of_ble_eq_true rfl) ?_
  refine sp_bitCount (n := b) (by omega) ?_
  refine eR_ist_n4 dX2_kindBy_15 (by decide) rfl ?_
  refine eR_ild_4 dX2_kindBy_17 ?_
  refine eR_ildn_3 dX2_kindBy_19 rfl ?_
  refine eR_ic dX2_kindBy_20 ?_
  refine eR_isub dX2_kindBy_21 ?_
  refine eR_icmp_ne (tgt := 32) dX2_kindBy_22 (by decide) (by first | exact rg_b01 _ | (unfold rg; omega)) (by first | exact rg_b01 _ | (unfold rg; omega)) (fun c22 => ?_) (fun c22 => ?_)
  · refine eR_ildn_3 dX2_kindBy_32 rfl ?_
    refine eR_ic dX2_kindBy_33 ?_
    refine eR_icmp_le (tgt := 57) dX2_kindBy_34 (by decide) (by first | exact rg_b01 _ | (unfold rg; omega)) (by first | exact rg_b01 _ | (unfold rg; omega)) (fun c34 => ?_) (fun c34 => ?_)
    · refine eR_ic dX2_kindBy_57 ?_
      refine eR_iret dX2_kindBy_58 rfl rfl ?_
      rw [show (↑(knBy (bcn a 24) (bcn b 24) ls ms) : Int) = 2 from by unfold knBy; (repeat' split) <;> first | rfl | omega] at k; exact k
    · refine eR_ild_4 dX2_kindBy_37 ?_
      refine eR_ildn_3 dX2_kindBy_39 rfl ?_
      refine eR_icmp_ne (tgt := 57) dX2_kindBy_40 (by decide) (by first | exact rg_b01 _ | (unfold rg; omega)) (by first | exact rg_b01 _ | (unfold rg; omega)) (fun c40 => ?_) (fun c40 => ?_)
      · refine eR_ic dX2_kindBy_57 ?_
        refine eR_iret dX2_kindBy_58 rfl rfl ?_
        rw [show (↑(knBy (bcn a 24) (bcn b 24) ls ms) : Int) = 2 from by unfold knBy; (repeat' split) <;> first | rfl | omega] at k; exact k
      · refine eR_ildn_1 dX2_kindBy_43 rfl ?_
        refine eR_ic dX2_kindBy_44 ?_
        refine eR_icmp_ne (tgt := 57) dX2_kindBy_45 (by decide) (by first | exact rg_b01 _ | (unfold rg; omega)) (by first | exact rg_b01 _ | (unfold rg; omega)) (fun c45 => ?_) (fun c45 => ?_)
        · refine eR_ic dX2_kindBy_57 ?_
          refine eR_iret dX2_kindBy_58 rfl rfl ?_
          rw [show (↑(knBy (bcn a 24) (bcn b 24) ls ms) : Int) = 2 from by unfold knBy; (repeat' split) <;> first | rfl | omega] at k; exact k
        · refine eR_ildn_2 dX2_kindBy_48 rfl ?_
          refine eR_ic dX2_kindBy_49 ?_
          refine eR_icmp_ne (tgt := 57) dX2_kindBy_50 (by decide) (by first | exact rg_b01 _ | (unfold rg; omega)) (by first | exact rg_b01 _ | (unfold rg; omega)) (fun c50 => ?_) (fun c50 => ?_)
          · refine eR_ic dX2_kindBy_57 ?_
            refine eR_iret dX2_kindBy_58 rfl rfl ?_
            rw [show (↑(knBy (bcn a 24) (bcn b 24) ls ms) : Int) = 2 from by unfold knBy; (repeat' split) <;> first | rfl | omega] at k; exact k
          · refine eR_ic dX2_kindBy_53 ?_
            refine eR_goto (tgt := 58) dX2_kindBy_54 (by decide) ?_
            refine eR_iret dX2_kindBy_58 rfl rfl ?_
            rw [show (↑(knBy (bcn a 24) (bcn b 24) ls ms) : Int) = 1 from by unfold knBy; (repeat' split) <;> first | rfl | omega] at k; exact k
  · refine eR_ildn_2 dX2_kindBy_25 rfl ?_
    refine eR_ic dX2_kindBy_26 ?_
    refine eR_icmp_gt (tgt := 32) dX2_kindBy_27 (by decide) (by first | exact rg_b01 _ | (unfold rg; omega)) (by first | exact rg_b01 _ | (unfold rg; omega)) (fun c27 => ?_) (fun c27 => ?_)
    · refine eR_ildn_3 dX2_kindBy_32 rfl ?_
      refine eR_ic dX2_kindBy_33 ?_
      refine eR_icmp_le (tgt := 57) dX2_kindBy_34 (by decide) (by first | exact rg_b01 _ | (unfold rg; omega)) (by first | exact rg_b01 _ | (unfold rg; omega)) (fun c34 => ?_) (fun c34 => ?_)
      · refine eR_ic dX2_kindBy_57 ?_
        refine eR_iret dX2_kindBy_58 rfl rfl ?_
        rw [show (↑(knBy (bcn a 24) (bcn b 24) ls ms) : Int) = 2 from by unfold knBy; (repeat' split) <;> first | rfl | omega] at k; exact k
      · refine eR_ild_4 dX2_kindBy_37 ?_
        refine eR_ildn_3 dX2_kindBy_39 rfl ?_
        refine eR_icmp_ne (tgt := 57) dX2_kindBy_40 (by decide) (by first | exact rg_b01 _ | (unfold rg; omega)) (by first | exact rg_b01 _ | (unfold rg; omega)) (fun c40 => ?_) (fun c40 => ?_)
        · refine eR_ic dX2_kindBy_57 ?_
          refine eR_iret dX2_kindBy_58 rfl rfl ?_
          rw [show (↑(knBy (bcn a 24) (bcn b 24) ls ms) : Int) = 2 from by unfold knBy; (repeat' split) <;> first | rfl | omega] at k; exact k
        · refine eR_ildn_1 dX2_kindBy_43 rfl ?_
          refine eR_ic dX2_kindBy_44 ?_
          refine eR_icmp_ne (tgt := 57) dX2_kindBy_45 (by decide) (by first | exact rg_b01 _ | (unfold rg; omega)) (by first | exact rg_b01 _ | (unfold rg; omega)) (fun c45 => ?_) (fun c45 => ?_)
          · refine eR_ic dX2_kindBy_57 ?_
            refine eR_iret dX2_kindBy_58 rfl rfl ?_
            rw [show (↑(knBy (bcn a 24) (bcn b 24) ls ms) : Int) = 2 from by unfold knBy; (repeat' split) <;> first | rfl | omega] at k; exact k
          · refine eR_ildn_2 dX2_kindBy_48 rfl ?_
            refine eR_ic dX2_kindBy_49 ?_
            refine eR_icmp_ne (tgt := 57) dX2_kindBy_50 (by decide) (by first | exact rg_b01 _ | (unfold rg; omega)) (by first | exact rg_b01 _ | (unfold rg; omega)) (fun c50 => ?_) (fun c50 => ?_)
            · refine eR_ic dX2_kindBy_57 ?_
              refine eR_iret dX2_kindBy_58 rfl rfl ?_
              rw [show (↑(knBy (bcn a 24) (bcn b 24) ls ms) : Int) = 2 from by unfold knBy; (repeat' split) <;> first | rfl | omega] at k; exact k
            · refine eR_ic dX2_kindBy_53 ?_
              refine eR_goto (tgt := 58) dX2_kindBy_54 (by decide) ?_
              refine eR_iret dX2_kindBy_58 rfl rfl ?_
              rw [show (↑(knBy (bcn a 24) (bcn b 24) ls ms) : Int) = 1 from by unfold knBy; (repeat' split) <;> first | rfl | omega] at k; exact k
    · refine eR_ic dX2_kindBy_30 ?_
      refine eR_iret dX2_kindBy_31 rfl rfl ?_
      rw [show (↑(knBy (bcn a 24) (bcn b 24) ls ms) : Int) = 0 from by unfold knBy; (repeat' split) <;> first | rfl | omega] at k; exact k
theorem nt_door {a b kd : Nat} (h0 : h 37 0 = (a : Int)) (h1 : h 37 1 = (b : Int)) (h2 : h 37 2 = (kd : Int)) (ha : a < 256) (hb : b < 256) (hl : kd ≤ 2) (k : Q (.int (zI (if kd = 0 then ((bcn a 24 + 1) / 2 : Nat) else if kd = 1 then (bcn a 24 : Int) else ((bcn a 24 + bcn b 24 : Nat) : Int)))) (tau t s) h) : eX g 1 mX2_minutesAtDoor 0 (lv_args 0 [.ref (gA g 37)]) [] (tau t s) h Q := by
  show eX g 1 mX2_minutesAtDoor 0 [(0, .ref (gA g 37))] [] (tau t s) h Q
  have q1 := bcn_le a 24
  have q2 := bcn_le b 24
  refine eR_aldn_0 dX2_minutesAtDoor_0 rfl ?_
  refine eR_getI dX2_minutesAtDoor_1 gf_X2_9 th_37 rfl ?_
  refine eX_pcI (h0) ?_
  refine eR_callSi [_] rfl dX2_minutesAtDoor_4 ok_mJ6_bitCount_0f7a4 kw_644 rfl rfl (Nat.le_of_ble_eq_true rfl) (d' := 0) (by decide) (Nat.le_of_ble_eq_true rfl) ?_
  refine sp_bitCount (n := a) (by omega) ?_
  refine eR_istn_n1 dX2_minutesAtDoor_7 rfl (by decide) rfl ?_
  refine eR_aldn_0 dX2_minutesAtDoor_8 rfl ?_
  refine eR_getI dX2_minutesAtDoor_9 gf_X2_18 th_37 rfl ?_
  refine eX_pcI (h2) ?_
  refine eR_if_ne (tgt := 21) dX2_minutesAtDoor_12 (by decide) (by first | exact rg_b01 _ | (unfold rg; omega)) (fun c12 => ?_) (fun c12 => ?_)
  · refine eR_aldn_0 dX2_minutesAtDoor_21 rfl ?_
    refine eR_getI dX2_minutesAtDoor_22 gf_X2_18 th_37 rfl ?_
    refine eX_pcI (h2) ?_
    refine eR_ic dX2_minutesAtDoor_25 ?_
    refine eR_icmp_ne (tgt := 33) dX2_minutesAtDoor_26 (by decide) (by first | exact rg_b01 _ | (unfold rg; omega)) (by first | exact rg_b01 _ | (unfold rg; omega)) (fun c26 => ?_) (fun c26 => ?_)
    · refine eR_ildn_1 dX2_minutesAtDoor_33 rfl ?_
      refine eR_aldn_0 dX2_minutesAtDoor_34 rfl ?_
      refine eR_getI dX2_minutesAtDoor_35 gf_X2_15 th_37 rfl ?_
      refine eX_pcI (h1) ?_
      refine eR_callSi [_] rfl dX2_minutesAtDoor_38 ok_mJ6_bitCount_0f7a4 kw_644 rfl rfl (Nat.le_of_ble_eq_true rfl) (d' := 0) (by decide) (Nat.le_of_ble_eq_true rfl) ?_
      refine sp_bitCount (n := b) (by omega) ?_
      refine eR_iadd dX2_minutesAtDoor_41 ?_
      refine eR_iret dX2_minutesAtDoor_42 rfl rfl ?_
      rw [show ((if kd = 0 then ((bcn a 24 + 1) / 2 : Nat) else if kd = 1 then (bcn a 24 : Int) else ((bcn a 24 + bcn b 24 : Nat) : Int)) : Int) = ↑(bcn a 24) + ↑(bcn b 24) from by (repeat' split) <;> first | rfl | omega] at k; exact k
    · refine eR_ildn_1 dX2_minutesAtDoor_29 rfl ?_
      refine eR_goto (tgt := 42) dX2_minutesAtDoor_30 (by decide) ?_
      refine eR_iret dX2_minutesAtDoor_42 rfl rfl ?_
      rw [show ((if kd = 0 then ((bcn a 24 + 1) / 2 : Nat) else if kd = 1 then (bcn a 24 : Int) else ((bcn a 24 + bcn b 24 : Nat) : Int)) : Int) = ↑(bcn a 24) from by (repeat' split) <;> first | rfl | omega] at k; exact k
  · refine eR_ildn_1 dX2_minutesAtDoor_15 rfl ?_
    refine eR_ic dX2_minutesAtDoor_16 ?_
    refine eR_iadd dX2_minutesAtDoor_17 ?_
    refine eR_ic dX2_minutesAtDoor_18 ?_
    refine eR_idiv dX2_minutesAtDoor_19 (by first | exact rg_b01 _ | (unfold rg; omega)) (by first | exact rg_b01 _ | (unfold rg; omega)) (by omega) ?_
    refine eR_iret dX2_minutesAtDoor_20 rfl rfl ?_
    rw [show ((if kd = 0 then ((bcn a 24 + 1) / 2 : Nat) else if kd = 1 then (bcn a 24 : Int) else ((bcn a 24 + bcn b 24 : Nat) : Int)) : Int) = Int.tdiv (↑(bcn a 24) + 1) 2 from by (repeat' split) <;> first | rfl | omega] at k; exact k
theorem nl_trace (T : isTn (tau t s) u) (B : sB S) (V : cV h u S) (h38 : 38 ≤ u) {p : Nat} (hp7 : p < sP S) (k : ∀ h1 : PH, ofO 37 h h1 → h1 37 0 = (netS S p : Int) → h1 37 1 = (ctsN S (netS S p) (sC S) : Int) → h1 37 2 = (kndN S (netS S p) : Int) → Q .null (tau t s) h1) : ∀ n q, q + n = sP S → ∀ h1 : PH, ofO 37 h h1 → h1 37 0 = (netS S p : Int) → h1 37 1 = (csN S (netS S p) q : Int) → eX g 2 mX2_trace 20 [(0, .ref (gA g 37)), (1, .ref (gA g u)), (2, .int (zI ↑p)), (3, .int (zI (↑(msN S (netS S p) q)))), (4, .int (zI (↑(lsN S (netS S p) q)))), (5, .int (zI ↑q))] [] (tau t s) h1 Q := by
  have hP8 := B.1
  have hC8 := B.2.1
  have hE10 := B.2.2.1
  have hF99 := B.2.2.2.2.2.2.1
  have hn9 := netS_lt B (p := p) (by omega)
  intro n
  induction n with
  | zero =>
    intro q hq9 h1 hO hp hq
    have V1 : cV h1 u S := cV_of B V (fun a q1 q2 => hO a (by omega))
    have hm9 := msN_le (S := S) (netS S p) hC8 (sP S)
    refine eR_ild_5 dX2_trace_20 ?_
    refine eR_aldn_1 dX2_trace_22 rfl ?_
    refine eR_getI dX2_trace_23 gf_X2_21 T.1 rfl ?_
    refine eX_pcI (V1.1) ?_
    refine eR_icmp_ge (tgt := 88) dX2_trace_26 (by decide) (by first | exact rg_b01 _ | (unfold rg; omega)) (by first | exact rg_b01 _ | (unfold rg; omega)) (fun c26 => ?_) (fun c26 => absurd c26 (by omega))
    have e9 : q = sP S := by omega
    subst e9
    have hq2 : h1 37 1 = (ctsN S (netS S p) (sC S) : Int) := by rw [hq, csN_net B]
    have hc9 := ctsN_256 B (netS S p)
    refine eR_aldn_0 dX2_trace_88 rfl ?_
    refine eR_aldn_0 dX2_trace_89 rfl ?_
    refine eR_ild_4 dX2_trace_90 ?_
    refine eR_ildn_3 dX2_trace_92 rfl ?_
    refine eR_callVi [_, _] rfl dX2_trace_93 ok_mX2_kindBy kw_647 rfl rfl th_37 rfl (Nat.le_of_ble_eq_true rfl) (d' := 1) (by decide) (Nat.le_of_ble_eq_true rfl) ?_
    refine nt_kindBy (ls := lsN S (netS S p) (sP S)) (ms := msN S (netS S p) (sP S)) hp hq2 (by omega) (by omega) (by omega) (by omega) ?_
    refine eX_pcI (show (↑(knBy (bcn (netS S p) 24) (bcn (ctsN S (netS S p) (sC S)) 24) (lsN S (netS S p) (sP S)) (msN S (netS S p) (sP S))) : Int) = ↑(kndN S (netS S p)) from by rw [knd_by hp7]) ?_
    refine eR_putI dX2_trace_96 pf_X2_18 th_37 rfl ?_
    refine eR_vret dX2_trace_99 rfl ?_
    exact k _ (ofO_w hO) ((hU_i _ _ _ (by decide)).trans hp) ((hU_i _ _ _ (by decide)).trans hq2) (hU_s _ _ _ _)
  | succ n ih =>
    intro q hq9 h1 hO hp hq
    have V1 : cV h1 u S := cV_of B V (fun a q1 q2 => hO a (by omega))
    have hm9 := msN_le (S := S) (netS S p) hC8 q
    have ho9 := owN_le S q (sC S)
    have hc9 := csN_lt B (netS S p) q
    have hw9 : wcN S q (sC S) < 256 := Nat.lt_of_lt_of_le (wcN_lt S q (sC S)) (Nat.pow_le_pow_right (by omega) hC8 : 2 ^ sC S ≤ 2 ^ 8)
    refine eR_ild_5 dX2_trace_20 ?_
    refine eR_aldn_1 dX2_trace_22 rfl ?_
    refine eR_getI dX2_trace_23 gf_X2_21 T.1 rfl ?_
    refine eX_pcI (V1.1) ?_
    refine eR_icmp_ge (tgt := 88) dX2_trace_26 (by decide) (by first | exact rg_b01 _ | (unfold rg; omega)) (by first | exact rg_b01 _ | (unfold rg; omega)) (fun c26 => absurd c26 (by omega)) (fun c26 => ?_)
    refine eR_aldn_0 dX2_trace_29 rfl ?_
    refine eR_getI dX2_trace_30 gf_X2_9 th_37 rfl ?_
    refine eX_pcI (hp) ?_
    refine eR_ild_5 dX2_trace_33 ?_
    refine eR_ishr dX2_trace_35 ?_
    refine eR_ic dX2_trace_36 ?_
    refine eR_iand dX2_trace_37 ?_
    refine eX_pcI (show (zAnd (zShr ↑(netS S p) ↑q) 1 : Int) = b01 ((netS S p).testBit q = true) from zBit_nat (a := netS S p) (k := q) (by omega) (by omega)) ?_
    refine eR_if_eq (tgt := 82) dX2_trace_38 (by decide) (by first | exact rg_b01 _ | (unfold rg; omega)) (fun c38 => ?_) (fun c38 => ?_)
    · replace c38 := b01_eq0.mp c38
      refine eR_iinc_5 dX2_trace_82 (by decide) rfl ?_
      refine eR_goto (tgt := 20) dX2_trace_85 (by decide) ?_
      have e1 : msN S (netS S p) (q + 1) = msN S (netS S p) q := if_neg c38
      have e2 : lsN S (netS S p) (q + 1) = lsN S (netS S p) q := if_neg c38
      have e3 : csN S (netS S p) (q + 1) = csN S (netS S p) q := if_neg c38
      have e8 := ih (q + 1) (by omega) h1 hO hp (by rw [e3]; exact hq)
      rw [e1, e2] at e8
      exact e8
    · replace c38 := b01_ne0.mp c38
      refine eR_aldn_1 dX2_trace_41 rfl ?_
      refine eR_ild_5 dX2_trace_42 ?_
      refine eR_callSi [_, _] rfl dX2_trace_44 ok_mX2_wholeCoatsOf kw_641 rfl rfl (Nat.le_of_ble_eq_true rfl) (d' := 1) (by decide) (Nat.le_of_ble_eq_true rfl) ?_
      refine tn_whole (p := q) T B V1 (by omega) ?_
      refine eR_ist_n6 dX2_trace_47 (by decide) rfl ?_
      refine eR_aldn_0 dX2_trace_49 rfl ?_
      refine eR_dup dX2_trace_50 rfl ?_
      refine eR_getI dX2_trace_51 gf_X2_15 th_37 rfl ?_
      refine eX_pcI (hq) ?_
      refine eR_ild_6 dX2_trace_54 ?_
      refine eR_ior dX2_trace_56 ?_
      refine eX_pcI (show (zOr (↑(csN S (netS S p) q)) (↑(wcN S q (sC S))) : Int) = ↑(csN S (netS S p) q ||| wcN S q (sC S) : Nat) from zOr_nat (by omega) (by omega)) ?_
      refine eR_putI dX2_trace_57 pf_X2_15 th_37 rfl ?_
      refine eR_ildn_3 dX2_trace_60 rfl ?_
      refine eR_ild_6 dX2_trace_61 ?_
      refine eR_callSi [_] rfl dX2_trace_63 ok_mJ6_bitCount_0f7a4 kw_644 rfl rfl (Nat.le_of_ble_eq_true rfl) (d' := 0) (by decide) (Nat.le_of_ble_eq_true rfl) ?_
      refine sp_bitCount (n := (wcN S q (sC S))) (by omega) ?_
      refine eX_pcI (show (↑(bcn ((wcN S q (sC S))) 24) : Int) = ↑(owN S q (sC S)) from by rw [wcN_cnt _ (by omega)]) ?_
      refine eR_mmax dX2_trace_66 kw_645 (by first | exact rg_b01 _ | (unfold rg; omega)) (by first | exact rg_b01 _ | (unfold rg; omega)) (by decide) (Nat.le_of_ble_eq_true rfl) ?_
      refine eX_pcI (show (max (↑(msN S (netS S p) q)) (↑(owN S q (sC S))) : Int) = ↑(max (msN S (netS S p) q) (owN S q (sC S))) from by omega) ?_
      refine eR_istn_3 dX2_trace_69 rfl (by decide) rfl ?_
      refine eR_ild_4 dX2_trace_70 ?_
      refine eR_ild_6 dX2_trace_72 ?_
      refine eR_callSi [_] rfl dX2_trace_74 ok_mJ6_bitCount_0f7a4 kw_644 rfl rfl (Nat.le_of_ble_eq_true rfl) (d' := 0) (by decide) (Nat.le_of_ble_eq_true rfl) ?_
      refine sp_bitCount (n := (wcN S q (sC S))) (by omega) ?_
      refine eX_pcI (show (↑(bcn ((wcN S q (sC S))) 24) : Int) = ↑(owN S q (sC S)) from by rw [wcN_cnt _ (by omega)]) ?_
      refine eR_mmin dX2_trace_77 kw_646 (by first | exact rg_b01 _ | (unfold rg; omega)) (by first | exact rg_b01 _ | (unfold rg; omega)) (by decide) (Nat.le_of_ble_eq_true rfl) ?_
      refine eX_pcI (show (min (↑(lsN S (netS S p) q)) (↑(owN S q (sC S))) : Int) = ↑(min (lsN S (netS S p) q) (owN S q (sC S))) from by omega) ?_
      refine eR_ist_4 dX2_trace_80 (by decide) rfl ?_
      refine eR_iinc_5 dX2_trace_82 (by decide) rfl ?_
      refine eR_goto (tgt := 20) dX2_trace_85 (by decide) ?_
      refine eX_lv (lv2 := List.take 6 _) (fun q hq => List.mem_of_mem_take hq) ?_
      have e1 : msN S (netS S p) (q + 1) = max (msN S (netS S p) q) (owN S q (sC S)) := if_pos c38
      have e2 : lsN S (netS S p) (q + 1) = min (lsN S (netS S p) q) (owN S q (sC S)) := if_pos c38
      have e3 : csN S (netS S p) (q + 1) = csN S (netS S p) q ||| wcN S q (sC S) := if_pos c38
      have e8 := ih (q + 1) (by omega) _ (ofO_w hO) ((hU_i _ _ _ (show (0 : Nat) ≠ 1 by decide)).trans hp) (by rw [e3]; exact hU_s _ _ _ _)
      rw [e1, e2] at e8
      exact e8
theorem nt_trace (T : isTn (tau t s) u) (B : sB S) (V : cV h u S) (h38 : 38 ≤ u) {p : Nat} (hp7 : p < sP S) (k : ∀ h1 : PH, ofO 37 h h1 → h1 37 0 = (netS S p : Int) → h1 37 1 = (ctsN S (netS S p) (sC S) : Int) → h1 37 2 = (kndN S (netS S p) : Int) → Q .null (tau t s) h1) : eX g 2 mX2_trace 0 (lv_args 0 [.ref (gA g 37), .ref (gA g u), .int (zI ↑p)]) [] (tau t s) h Q := by
  show eX g 2 mX2_trace 0 [(0, .ref (gA g 37)), (1, .ref (gA g u)), (2, .int (zI ↑p))] [] (tau t s) h Q
  have hP8 := B.1
  have hC8 := B.2.1
  have hE10 := B.2.2.1
  have hF99 := B.2.2.2.2.2.2.1
  refine eR_aldn_0 dX2_trace_0 rfl ?_
  refine eR_aldn_1 dX2_trace_1 rfl ?_
  refine eR_ildn_2 dX2_trace_2 rfl ?_
  refine eR_callVv [_, _] rfl dX2_trace_3 ok_mX2_spread kw_595 rfl rfl th_37 rfl (Nat.le_of_ble_eq_true rfl) (d' := 1) (by decide) (Nat.le_of_ble_eq_true rfl) ?_
  refine nt_spread (p := p) T B V h38 (by omega) (fun h1 hO hp => ?_)
  refine eR_aldn_0 dX2_trace_6 rfl ?_
  refine eR_ic dX2_trace_7 ?_
  refine eR_putI dX2_trace_8 pf_X2_15 th_37 rfl ?_
  refine eR_ic dX2_trace_11 ?_
  refine eR_istn_n3 dX2_trace_12 rfl (by decide) rfl ?_
  refine eR_bi (z := 8) dX2_trace_13 rfl ?_
  refine eR_ist_n4 dX2_trace_15 (by decide) rfl ?_
  refine eR_ic dX2_trace_17 ?_
  refine eR_ist_n5 dX2_trace_18 (by decide) rfl ?_
  exact nl_trace T B V h38 hp7 k (sP S) 0 (by omega) _ (ofO_w hO) ((hU_i _ _ _ (show (0 : Nat) ≠ 1 by decide)).trans hp) (hU_s _ _ _ _)
theorem nl_count (T : isTn (tau t s) u) (B : sB S) (V : cV h u S) (h38 : 38 ≤ u) (k : ∀ h1 : PH, ofO 37 h h1 → Q (.int (zI ↑(nmN S (sP S)).1)) (tau t s) h1) : ∀ n p, p + n = sP S → ∀ h1 : PH, ofO 37 h h1 → eX g 2 mX2_countAll 7 [(0, .ref (gA g 37)), (1, .ref (gA g u)), (2, .int (zI ↑(cmN S p).1)), (3, .int (zI ↑(cmN S p).2)), (4, .int (zI ↑p))] [] (tau t s) h1 Q := by
  have hP8 := B.1
  have hC8 := B.2.1
  have hE10 := B.2.2.1
  have hF99 := B.2.2.2.2.2.2.1
  intro n
  induction n with
  | zero =>
    intro p hp9 h1 hO
    have V1 : cV h1 u S := cV_of B V (fun a q1 q2 => hO a (by omega))
    have hc9 := cmN_rg B p (by omega)
    refine eR_ild_4 dX2_countAll_7 ?_
    refine eR_aldn_1 dX2_countAll_9 rfl ?_
    refine eR_getI dX2_countAll_10 gf_X2_21 T.1 rfl ?_
    refine eX_pcI (V1.1) ?_
    refine eR_icmp_ge (tgt := 48) dX2_countAll_13 (by decide) (by first | exact rg_b01 _ | (unfold rg; omega)) (by first | exact rg_b01 _ | (unfold rg; omega)) (fun c13 => ?_) (fun c13 => absurd c13 (by omega))
    refine eR_ildn_2 dX2_countAll_48 rfl ?_
    refine eR_iret dX2_countAll_49 rfl rfl ?_
    have e9 : p = sP S := by omega
    subst e9
    rw [← (cmN_nm B _ (Nat.le_refl _)).1] at k
    exact k h1 hO
  | succ n ih =>
    intro p hp9 h1 hO
    have V1 : cV h1 u S := cV_of B V (fun a q1 q2 => hO a (by omega))
    have hc9 := cmN_rg B p (by omega)
    have hn9 := netS_lt B (p := p) (by omega)
    refine eR_ild_4 dX2_countAll_7 ?_
    refine eR_aldn_1 dX2_countAll_9 rfl ?_
    refine eR_getI dX2_countAll_10 gf_X2_21 T.1 rfl ?_
    refine eX_pcI (V1.1) ?_
    refine eR_icmp_ge (tgt := 48) dX2_countAll_13 (by decide) (by first | exact rg_b01 _ | (unfold rg; omega)) (by first | exact rg_b01 _ | (unfold rg; omega)) (fun c13 => absurd c13 (by omega)) (fun c13 => ?_)
    refine eR_ildn_3 dX2_countAll_16 rfl ?_
    refine eR_ild_4 dX2_countAll_17 ?_
    refine eR_ishr dX2_countAll_19 ?_
    refine eR_ic dX2_countAll_20 ?_
    refine eR_iand dX2_countAll_21 ?_
    refine eX_pcI (show (zAnd (zShr ↑(cmN S p).2 ↑p) 1 : Int) = b01 ((cmN S p).2.testBit p = true) from zBit_nat (a := (cmN S p).2) (k := p) (by omega) (by omega)) ?_
    refine eR_if_ne (tgt := 42) dX2_countAll_22 (by decide) (by first | exact rg_b01 _ | (unfold rg; omega)) (fun c22 => ?_) (fun c22 => ?_)
    · replace c22 := b01_ne0.mp c22
      refine eR_iinc_4 dX2_countAll_42 (by decide) rfl ?_
      refine eR_goto (tgt := 7) dX2_countAll_45 (by decide) ?_
      have e9 : cmN S (p + 1) = cmN S p := if_pos c22
      have e8 := ih (p + 1) (by omega) h1 hO
      rw [e9] at e8
      exact e8
    · replace c22 := b01_eq0.mp c22
      refine eR_aldn_0 dX2_countAll_25 rfl ?_
      refine eR_aldn_1 dX2_countAll_26 rfl ?_
      refine eR_ild_4 dX2_countAll_27 ?_
      refine eR_callVv [_, _] rfl dX2_countAll_29 ok_mX2_spread kw_595 rfl rfl th_37 rfl (Nat.le_of_ble_eq_true rfl) (d' := 1) (by decide) (Nat.le_of_ble_eq_true rfl) ?_
      refine nt_spread (p := p) T B V1 h38 (by omega) (fun h2 hO2 hp => ?_)
      refine eR_ildn_3 dX2_countAll_32 rfl ?_
      refine eR_aldn_0 dX2_countAll_33 rfl ?_
      refine eR_getI dX2_countAll_34 gf_X2_9 th_37 rfl ?_
      refine eX_pcI (hp) ?_
      refine eR_ior dX2_countAll_37 ?_
      refine eX_pcI (show (zOr ↑(cmN S p).2 ↑(netS S p) : Int) = ↑((cmN S p).2 ||| netS S p : Nat) from zOr_nat (by omega) (by omega)) ?_
      refine eR_istn_3 dX2_countAll_38 rfl (by decide) rfl ?_
      refine eR_iinc_2 dX2_countAll_39 (by decide) rfl ?_
      refine eR_iinc_4 dX2_countAll_42 (by decide) rfl ?_
      refine eR_goto (tgt := 7) dX2_countAll_45 (by decide) ?_
      have e9 : cmN S (p + 1) = ((cmN S p).1 + 1, (cmN S p).2 ||| netS S p) := if_neg c22
      have e8 := ih (p + 1) (by omega) h2 (fun a q => (hO2 a q).trans (hO a q))
      rw [e9] at e8
      exact e8
theorem nt_countAll (T : isTn (tau t s) u) (B : sB S) (V : cV h u S) (h38 : 38 ≤ u) (k : ∀ h1 : PH, ofO 37 h h1 → Q (.int (zI ↑(nmN S (sP S)).1)) (tau t s) h1) : eX g 2 mX2_countAll 0 (lv_args 0 [.ref (gA g 37), .ref (gA g u)]) [] (tau t s) h Q := by
  show eX g 2 mX2_countAll 0 [(0, .ref (gA g 37)), (1, .ref (gA g u))] [] (tau t s) h Q
  refine eR_ic dX2_countAll_0 ?_
  refine eR_istn_n2 dX2_countAll_1 rfl (by decide) rfl ?_
  refine eR_ic dX2_countAll_2 ?_
  refine eR_istn_n3 dX2_countAll_3 rfl (by decide) rfl ?_
  refine eR_ic dX2_countAll_4 ?_
  refine eR_ist_n4 dX2_countAll_5 (by decide) rfl ?_
  exact nl_count T B V h38 k (sP S) 0 (by omega) h (ofO_rf _ _)
end M48
