/-- whose errands these are -/
def ppN (S : TS) (es : Nat) : Nat → Nat
  | 0 => 0
  | e + 1 => if es.testBit e = true then ppN S es e ||| 2 ^ sR S e 0 else ppN S es e
/-- errands under way as e begins -/
def uwN (S : TS) (e : Nat) : Nat → Nat
  | 0 => 0
  | o + 1 => if sR S o 2 ≤ sR S e 2 ∧ sR S e 2 ≤ sR S o 3 then uwN S e o ||| 2 ^ o else uwN S e o
theorem ppN_bit {S : TS} {es p : Nat} : ∀ n, (ppN S es n).testBit p = true ↔ ∃ e, e < n ∧ es.testBit e = true ∧ sR S e 0 = p := by
  intro n
  induction n with
  | zero => simp [ppN]
  | succ n ih =>
    unfold ppN
    by_cases hb : es.testBit n = true
    · rw [if_pos hb, Nat.testBit_or, Bool.or_eq_true, ih, Nat.testBit_two_pow]
      constructor
      · rintro (⟨e, h1, h2⟩ | h)
        · exact ⟨e, by omega, h2⟩
        · exact ⟨n, by omega, hb, by simpa using h⟩
      · rintro ⟨e, h1, h2, h3⟩
        by_cases hen : e = n
        · subst hen; right; simpa using h3
        · left; exact ⟨e, by omega, h2, h3⟩
    · rw [if_neg hb, ih]
      constructor
      · rintro ⟨e, h1, h2⟩; exact ⟨e, by omega, h2⟩
      · rintro ⟨e, h1, h2, h3⟩
        by_cases hen : e = n
        · subst hen; exact absurd h2 hb
        · exact ⟨e, by omega, h2, h3⟩
theorem uwN_bit {S : TS} {e i : Nat} : ∀ n, (uwN S e n).testBit i = true ↔ i < n ∧ sR S i 2 ≤ sR S e 2 ∧ sR S e 2 ≤ sR S i 3 := by
  intro n
  induction n with
  | zero => simp [uwN]
  | succ n ih =>
    unfold uwN
    by_cases hb : sR S n 2 ≤ sR S e 2 ∧ sR S e 2 ≤ sR S n 3
    · rw [if_pos hb, Nat.testBit_or, Bool.or_eq_true, ih, Nat.testBit_two_pow]
      constructor
      · rintro (⟨h1, h2⟩ | h)
        · exact ⟨by omega, h2⟩
        · have : n = i := by simpa using h
          subst this
          exact ⟨by omega, hb⟩
      · rintro ⟨h1, h2⟩
        by_cases hen : n = i
        · right; simpa using hen
        · left; exact ⟨by omega, h2⟩
    · rw [if_neg hb, ih]
      constructor
      · rintro ⟨h1, h2⟩; exact ⟨by omega, h2⟩
      · rintro ⟨h1, h2⟩
        by_cases hen : i = n
        · subst hen; exact absurd h2 hb
        · exact ⟨by omega, h2⟩
theorem ppN_lt {S : TS} (B : sB S) (es : Nat) : ∀ n, n ≤ sE S → ppN S es n < 2 ^ sP S := by
  intro n
  induction n with
  | zero => intro _; exact Nat.two_pow_pos _
  | succ n ih =>
    intro hn
    have h1 := (B.2.2.2.2.1 n (by omega)).1
    unfold ppN
    split
    · exact Nat.or_lt_two_pow (ih (by omega)) (Nat.pow_lt_pow_right (by omega) h1)
    · exact ih (by omega)
theorem uwN_lt (S : TS) (e : Nat) : ∀ n, uwN S e n < 2 ^ n := by
  intro n
  induction n with
  | zero => exact (by decide : (0 : Nat) < 2 ^ 0)
  | succ n ih =>
    have h1 : 2 ^ n < 2 ^ (n + 1) := Nat.pow_lt_pow_right (by omega) (by omega)
    unfold uwN
    split
    · exact Nat.or_lt_two_pow (by omega) h1
    · omega
abbrev actE (S : TS) (errs hour e : Nat) : Prop := errs.testBit e = true ∧ sR S e 2 ≤ hour ∧ hour ≤ sR S e 3
theorem wBy_ge {S : TS} {p hour errs : Nat} : ∀ n e, 0 ≤ wBy S p hour errs n e ↔ ∃ x, e ≤ x ∧ x < e + n ∧ sR S x 0 = p ∧ actE S errs hour x := by
  intro n
  induction n with
  | zero =>
    intro e
    constructor
    · intro h; exact absurd h (by unfold wBy; omega)
    · rintro ⟨x, h1, h2, -⟩; omega
  | succ n ih =>
    intro e
    unfold wBy
    split
    · rename_i q
      constructor
      · intro _; exact ⟨e, by omega, by omega, q.2.1, q.1, q.2.2⟩
      · intro _; omega
    · rename_i q
      rw [ih]
      constructor
      · rintro ⟨x, h1, h2, h3⟩; exact ⟨x, by omega, by omega, h3⟩
      · rintro ⟨x, h1, h2, h3, h4⟩
        by_cases hx : x = e
        · subst hx; exact absurd ⟨h4.1, h3, h4.2⟩ q
        · exact ⟨x, by omega, by omega, h3, h4⟩
theorem whB_ge {S : TS} {p hour errs : Nat} : 0 ≤ whereBy S p hour errs ↔ ∃ x, x < sE S ∧ sR S x 0 = p ∧ actE S errs hour x := by
  unfold whereBy
  rw [wBy_ge]
  constructor
  · rintro ⟨x, h1, h2, h3⟩; exact ⟨x, by omega, h3⟩
  · rintro ⟨x, h1, h3⟩; exact ⟨x, by omega, by omega, h3⟩
theorem last_b {S : TS} {errs hour : Nat} : ∀ n, (∀ e, e < n → ¬ actE S errs hour e) ∨ ∃ e, e < n ∧ actE S errs hour e ∧ ∀ o, o < n → actE S errs hour o → sR S o 2 ≤ sR S e 2 := by
  intro n
  induction n with
  | zero => exact Or.inl (fun e he => absurd he (Nat.not_lt_zero e))
  | succ n ih =>
    by_cases hn : actE S errs hour n
    · right
      rcases ih with h | ⟨e, h1, h2, h3⟩
      · refine ⟨n, by omega, hn, fun o ho ha => ?_⟩
        by_cases hon : o = n
        · subst hon; exact Nat.le_refl _
        · exact absurd ha (h o (by omega))
      · by_cases hle : sR S n 2 ≤ sR S e 2
        · refine ⟨e, by omega, h2, fun o ho ha => ?_⟩
          by_cases hon : o = n
          · subst hon; exact hle
          · exact h3 o (by omega) ha
        · refine ⟨n, by omega, hn, fun o ho ha => ?_⟩
          by_cases hon : o = n
          · subst hon; exact Nat.le_refl _
          · have := h3 o (by omega) ha; omega
    · rcases ih with h | ⟨e, h1, h2, h3⟩
      · refine Or.inl (fun e he => ?_)
        by_cases hen : e = n
        · subst hen; exact hn
        · exact h e (by omega)
      · refine Or.inr ⟨e, by omega, h2, fun o ho ha => ?_⟩
        by_cases hon : o = n
        · subst hon; exact absurd ha hn
        · exact h3 o (by omega) ha
/-- looked at as each errand begins, as the class does -/
abbrev cbE (S : TS) (set e : Nat) : Prop := set.testBit e = true → fmD (opA S) (sC S) (ppN S (set &&& uwN S e (sE S)) (sE S))
theorem mok_cb {S : TS} (B : sB S) {set : Nat} : mokS S set ↔ ∀ e, e < sE S → cbE S set e := by
  constructor
  · intro h e he hs
    have hr := B.2.2.2.2.1 e he
    refine fmA_dn S _ _ _ (h (sR S e 2) (by omega)) (fun p hp => ?_)
    obtain ⟨o, h1, h2, h3⟩ := (ppN_bit _).mp hp
    rw [Nat.testBit_and, Bool.and_eq_true, uwN_bit] at h2
    rw [odP_bit]
    have hr2 := B.2.2.2.2.1 o h1
    exact ⟨by omega, whB_ge.mpr ⟨o, h1, h3, h2.1, h2.2.2⟩⟩
  · intro h hour hh
    unfold mokH
    rcases last_b (S := S) (errs := set) (hour := hour) (sE S) with h1 | ⟨e, h1, h2, h3⟩
    · refine fmA_dn S _ 0 _ (fmD_0 _ _) (fun p hp => ?_)
      rw [odP_bit] at hp
      obtain ⟨x, q1, q2, q3⟩ := whB_ge.mp hp.2
      exact absurd q3 (h1 x q1)
    · refine fmA_dn S _ _ _ (h e h1 h2.1) (fun p hp => ?_)
      rw [odP_bit] at hp
      obtain ⟨x, q1, q2, q3⟩ := whB_ge.mp hp.2
      rw [ppN_bit]
      refine ⟨x, q1, ?_, q2⟩
      rw [Nat.testBit_and, q3.1, Bool.true_and, uwN_bit]
      exact ⟨q1, h3 x q1 q3, by have := h2.2.1; have := q3.2.2; omega⟩
theorem bcn_hi {x w : Nat} (hx : x < 2 ^ w) : ∀ m, bcn x (w + m) = bcn x w := by
  intro m
  induction m with
  | zero => rfl
  | succ m ih =>
    show bcn x (w + m) + (if x.testBit (w + m) = true then 1 else 0) = _
    rw [ih, Nat.testBit_lt_two_pow (Nat.lt_of_lt_of_le hx (Nat.pow_le_pow_right (by decide) (Nat.le_add_right w m)))]
    rfl
theorem bcn_w {x w : Nat} (hw : w ≤ 24) (hx : x < 2 ^ w) : bcn x 24 ≤ w := by
  have h1 := bcn_hi hx (24 - w)
  rw [show w + (24 - w) = 24 from by omega] at h1
  rw [h1]
  exact bcn_le x w
/-! marks below a bound -/
def mrW (w : Nat) (f : Nat → Int) (F : Nat → Prop) : Prop := ∀ k, k < w → (f k = 1 ∧ F k) ∨ (f k = 0 ∧ ¬ F k)
theorem mrW_eq {w : Nat} {f : Nat → Int} {F G : Nat → Prop} (h : mrW w f F) (e : ∀ k, k < w → (F k ↔ G k)) : mrW w f G := fun k hk => by
  rcases h k hk with ⟨a1, a2⟩ | ⟨a1, a2⟩
  · exact Or.inl ⟨a1, (e k hk).mp a2⟩
  · exact Or.inr ⟨a1, fun q => a2 ((e k hk).mpr q)⟩
theorem mrW_at {w : Nat} {f : Nat → Int} {F : Nat → Prop} (h : mrW w f F) {k : Nat} (hk : k < w) : f k = 1 ↔ F k := by
  rcases h k hk with ⟨a1, a2⟩ | ⟨a1, a2⟩
  · exact ⟨fun _ => a2, fun _ => a1⟩
  · exact ⟨fun q => by omega, fun q => absurd q a2⟩
theorem mrW_rg {w : Nat} {f : Nat → Int} {F : Nat → Prop} (h : mrW w f F) {k : Nat} (hk : k < w) : f k = 0 ∨ f k = 1 := by
  rcases h k hk with ⟨a1, a2⟩ | ⟨a1, a2⟩
  · exact Or.inr a1
  · exact Or.inl a1
theorem mrW_w {w : Nat} {h : PH} {a j : Nat} {F : Nat → Prop} (M : mrW w (h a) F) : mrW w (hU h a j 1 a) (fun k => F k ∨ k = j) := fun k hk => by
  by_cases hkj : k = j
  · subst hkj; exact Or.inl ⟨hU_s _ _ _ _, Or.inr rfl⟩
  · rw [hU_i _ _ _ hkj]
    rcases M k hk with ⟨a1, a2⟩ | ⟨a1, a2⟩
    · exact Or.inl ⟨a1, Or.inl a2⟩
    · exact Or.inr ⟨a1, fun q => by rcases q with q | q; exact a2 q; exact hkj q⟩
theorem mkI_top {O : Nat → Nat → Prop} {c w k : Nat} (hl : ∀ x, fmD O c x → x < w) : mkI O c w k ↔ fmD O c k := by
  unfold mkI
  constructor
  · rintro (q | ⟨x, b, q1, q2, q3, -⟩)
    · exact q
    · have := hl x q3; omega
  · exact Or.inl
section M49
variable {g : EG} {d t s u : Nat} {h h1 : PH} {Q : EQ} {S : TS}
theorem pl_fd1 (T : isTn (tau t s) u) (B : sB S) (V : cV h u S) (h38 : 38 ≤ u) {c : Nat} (hc : c < sC S) (k : ∀ h1 : PH, ofO 35 h h1 → mrW (2 ^ sP S) (h1 35) (fmD (opA S) (c + 1)) → eX g 1 mX3_findDressable 138 [(0, .ref (gA g 34)), (1, .ref (gA g u)), (2, .int (zI ↑(2 ^ sP S : Nat))), (3, .int (zI ↑c)), (4, .int (zI ↑(2 ^ sO S c 0 : Nat))), (5, .int (zI ↑(2 ^ sO S c 1 : Nat))), (6, .int (zI (0 - 1)))] [] (tau t s) h1 Q) : ∀ n, n ≤ 2 ^ sP S → ∀ h1 : PH, ofO 35 h h1 → mrW (2 ^ sP S) (h1 35) (mkI (opA S) c n) → eX g 1 mX3_findDressable 73 [(0, .ref (gA g 34)), (1, .ref (gA g u)), (2, .int (zI ↑(2 ^ sP S : Nat))), (3, .int (zI ↑c)), (4, .int (zI ↑(2 ^ sO S c 0 : Nat))), (5, .int (zI ↑(2 ^ sO S c 1 : Nat))), (6, .int (zI (↑n - 1)))] [] (tau t s) h1 Q := by
  have hP8 := B.1
  have hC8 := B.2.1
  have hE10 := B.2.2.1
  have hF99 := B.2.2.2.2.2.2.1
  have e2 : 2 ^ sP S ≤ 2 ^ 8 := Nat.pow_le_pow_right (by omega) hP8
  have e3 := Nat.two_pow_pos (sP S)
  have ho9 := B.2.2.2.1 c hc
  have hl0 : 2 ^ sO S c 0 < 2 ^ sP S := Nat.pow_lt_pow_right (by omega) (by omega)
  have hl1 : 2 ^ sO S c 1 < 2 ^ sP S := Nat.pow_lt_pow_right (by omega) (by omega)
  intro n
  induction n with
  | zero =>
    intro hn h1 hO hM
    refine eR_ild_6 dX3_findDressable_73 ?_
    refine eR_if_lt (tgt := 138) dX3_findDressable_75 (by decide) (by first | exact rg_b01 _ | (unfold rg; omega)) (fun c75 => ?_) (fun c75 => absurd c75 (by omega))
    exact k h1 hO (mrW_eq hM (fun x _ => mkI_0 (fun y hy => Nat.lt_of_lt_of_le (fmA_lt B (by omega) hy) e2) x))
  | succ n ih =>
    intro hn h1 hO hM
    have V1 : cV h1 u S := cV_of B V (fun a q1 q2 => hO a (by omega))
    have hnP : n < 2 ^ sP S := by omega
    have hr9 := mrW_rg hM hnP
    have w1 : (n ||| 2 ^ sO S c 0) < 2 ^ sP S := Nat.or_lt_two_pow hnP hl0
    have w2 : (n ||| 2 ^ sO S c 1) < 2 ^ sP S := Nat.or_lt_two_pow hnP hl1
    have w3 : (n ||| 2 ^ sO S c 0 ||| 2 ^ sO S c 1) < 2 ^ sP S := Nat.or_lt_two_pow w1 hl1
    refine eR_ild_6 dX3_findDressable_73 ?_
    refine eR_if_lt (tgt := 138) dX3_findDressable_75 (by decide) (by first | exact rg_b01 _ | (unfold rg; omega)) (fun c75 => absurd c75 (by omega)) (fun c75 => ?_)
    rw [show ((↑(n + 1) : Int) - 1) = ↑n from by omega]
    refine eR_aldn_0 dX3_findDressable_78 rfl ?_
    refine eR_getR (i := 35) dX3_findDressable_79 gf_X3_9 th_34 rfl ?_
    refine eR_ild_6 dX3_findDressable_82 ?_
    refine eR_zald (n := n) dX3_findDressable_84 th_35 (rfl) (by omega) (by decide) ?_
    refine eR_if_eq (tgt := 132) dX3_findDressable_85 (by decide) (by first | exact rg_b01 _ | (unfold rg; omega)) (fun c85 => ?_) (fun c85 => ?_)
    · refine eR_iinc_6 dX3_findDressable_132 (by decide) rfl ?_
      refine eR_goto (tgt := 73) dX3_findDressable_135 (by decide) ?_
      refine ih (by omega) h1 hO (mrW_eq hM (fun x _ => (mkI_skip (fun q => ?_)).symm))
      have q9 := (mrW_at hM hnP).mpr ((mkI_at (by omega)).mpr q)
      omega
    · have hfm : fmD (opA S) c n := (mkI_at (by omega)).mp ((mrW_at hM hnP).mp (by omega))
      refine eR_aldn_0 dX3_findDressable_88 rfl ?_
      refine eR_getR (i := 35) dX3_findDressable_89 gf_X3_9 th_34 rfl ?_
      refine eR_ild_6 dX3_findDressable_92 ?_
      refine eR_ild_4 dX3_findDressable_94 ?_
      refine eR_ior dX3_findDressable_96 ?_
      refine eX_pcI (show (zOr ↑n ↑(2 ^ sO S c 0 : Nat) : Int) = ↑(n ||| 2 ^ sO S c 0 : Nat) from zOr_nat (by omega) (by omega)) ?_
      refine eR_ic dX3_findDressable_97 ?_
      refine eR_zast (n := (n ||| 2 ^ sO S c 0)) (by omega) dX3_findDressable_98 th_35 (rfl) (by omega) (by decide) ?_
      refine eR_aldn_0 dX3_findDressable_99 rfl ?_
      refine eR_getR (i := 35) dX3_findDressable_100 gf_X3_9 th_34 rfl ?_
      refine eR_ild_6 dX3_findDressable_103 ?_
      refine eR_ild_5 dX3_findDressable_105 ?_
      refine eR_ior dX3_findDressable_107 ?_
      refine eX_pcI (show (zOr ↑n ↑(2 ^ sO S c 1 : Nat) : Int) = ↑(n ||| 2 ^ sO S c 1 : Nat) from zOr_nat (by omega) (by omega)) ?_
      refine eR_ic dX3_findDressable_108 ?_
      refine eR_zast (n := (n ||| 2 ^ sO S c 1)) (by omega) dX3_findDressable_109 th_35 (rfl) (by omega) (by decide) ?_
      refine eR_aldn_1 dX3_findDressable_110 rfl ?_
      refine eR_ildn_3 dX3_findDressable_111 rfl ?_
      refine eR_callVi [_] rfl dX3_findDressable_112 ok_mX6_isCut kw_743 rfl rfl T.1 rfl (Nat.le_of_ble_eq_true rfl) (d' := 0) (by decide) (Nat.le_of_ble_eq_true rfl) ?_
      refine tn_isCut (c := c) T B (cV_w B (cV_w B V1 (by omega)) (by omega)) (by omega) ?_
      refine eR_if_eq (tgt := 132) dX3_findDressable_115 (by decide) (by first | exact rg_b01 _ | (unfold rg; omega)) (fun c115 => ?_) (fun c115 => ?_)
      · replace c115 := b01_eq0.mp c115
        refine eR_iinc_6 dX3_findDressable_132 (by decide) rfl ?_
        refine eR_goto (tgt := 73) dX3_findDressable_135 (by decide) ?_
        refine ih (by omega) _ (ofO_w (ofO_w hO)) (mrW_eq (mrW_w (mrW_w hM)) (fun x _ => ?_))
        rw [mkI_step hfm (by omega)]
        constructor
        · rintro ((q | q) | q)
          · exact Or.inl q
          · exact Or.inr ⟨_, Or.inl rfl, q⟩
          · exact Or.inr ⟨_, Or.inr (Or.inl rfl), q⟩
        · rintro (q | ⟨b, q1 | q1 | q1, q2⟩)
          · exact Or.inl (Or.inl q)
          · rw [q1] at q2; exact Or.inl (Or.inr q2)
          · rw [q1] at q2; exact Or.inr q2
          · exact absurd q1.1 c115
      · replace c115 := b01_ne0.mp c115
        refine eR_aldn_0 dX3_findDressable_118 rfl ?_
        refine eR_getR (i := 35) dX3_findDressable_119 gf_X3_9 th_34 rfl ?_
        refine eR_ild_6 dX3_findDressable_122 ?_
        refine eR_ild_4 dX3_findDressable_124 ?_
        refine eR_ior dX3_findDressable_126 ?_
        refine eX_pcI (show (zOr ↑n ↑(2 ^ sO S c 0 : Nat) : Int) = ↑(n ||| 2 ^ sO S c 0 : Nat) from zOr_nat (by omega) (by omega)) ?_
        refine eR_ild_5 dX3_findDressable_127 ?_
        refine eR_ior dX3_findDressable_129 ?_
        refine eX_pcI (show (zOr ↑(n ||| 2 ^ sO S c 0 : Nat) ↑(2 ^ sO S c 1 : Nat) : Int) = ↑(n ||| 2 ^ sO S c 0 ||| 2 ^ sO S c 1 : Nat) from zOr_nat (by omega) (by omega)) ?_
        refine eR_ic dX3_findDressable_130 ?_
        refine eR_zast (n := (n ||| 2 ^ sO S c 0 ||| 2 ^ sO S c 1)) (by omega) dX3_findDressable_131 th_35 (rfl) (by omega) (by decide) ?_
        refine eR_iinc_6 dX3_findDressable_132 (by decide) rfl ?_
        refine eR_goto (tgt := 73) dX3_findDressable_135 (by decide) ?_
        refine ih (by omega) _ (ofO_w (ofO_w (ofO_w hO))) (mrW_eq (mrW_w (mrW_w (mrW_w hM))) (fun x _ => ?_))
        rw [mkI_step hfm (by omega)]
        constructor
        · rintro (((q | q) | q) | q)
          · exact Or.inl q
          · exact Or.inr ⟨_, Or.inl rfl, q⟩
          · exact Or.inr ⟨_, Or.inr (Or.inl rfl), q⟩
          · exact Or.inr ⟨_, Or.inr (Or.inr ⟨c115, rfl⟩), by rw [← Nat.or_assoc]; exact q⟩
        · rintro (q | ⟨b, q1 | q1 | q1, q2⟩)
          · exact Or.inl (Or.inl (Or.inl q))
          · rw [q1] at q2; exact Or.inl (Or.inl (Or.inr q2))
          · rw [q1] at q2; exact Or.inl (Or.inr q2)
          · rw [q1.2, ← Nat.or_assoc] at q2; exact Or.inr q2
theorem pl_fd2 (T : isTn (tau t s) u) (B : sB S) (V : cV h u S) (h38 : 38 ≤ u) (k : ∀ h1 : PH, ofO 35 h h1 → mrW (2 ^ sP S) (h1 35) (fmD (opA S) (sC S)) → Q .null (tau t s) h1) : ∀ n c, c + n = sC S → ∀ h1 : PH, ofO 35 h h1 → mrW (2 ^ sP S) (h1 35) (fmD (opA S) c) → eX g 1 mX3_findDressable 36 [(0, .ref (gA g 34)), (1, .ref (gA g u)), (2, .int (zI ↑(2 ^ sP S : Nat))), (3, .int (zI ↑c))] [] (tau t s) h1 Q := by
  have hP8 := B.1
  have hC8 := B.2.1
  have hE10 := B.2.2.1
  have hF99 := B.2.2.2.2.2.2.1
  have e2 : 2 ^ sP S ≤ 2 ^ 8 := Nat.pow_le_pow_right (by omega) hP8
  have e3 := Nat.two_pow_pos (sP S)
  intro n
  induction n with
  | zero =>
    intro c hc h1 hO hM
    have V1 : cV h1 u S := cV_of B V (fun a q1 q2 => hO a (by omega))
    refine eR_ildn_3 dX3_findDressable_36 rfl ?_
    refine eR_aldn_1 dX3_findDressable_37 rfl ?_
    refine eR_getI dX3_findDressable_38 gf_X3_45 T.1 rfl ?_
    refine eX_pcI (V1.2.1) ?_
    refine eR_icmp_ge (tgt := 144) dX3_findDressable_41 (by decide) (by first | exact rg_b01 _ | (unfold rg; omega)) (by first | exact rg_b01 _ | (unfold rg; omega)) (fun c41 => ?_) (fun c41 => absurd c41 (by omega))
    refine eR_vret dX3_findDressable_144 rfl ?_
    have e9 : c = sC S := by omega
    subst e9
    exact k h1 hO hM
  | succ n ih =>
    intro c hc h1 hO hM
    have V1 : cV h1 u S := cV_of B V (fun a q1 q2 => hO a (by omega))
    have ho9 := B.2.2.2.1 c (by omega)
    have hl0 : 2 ^ sO S c 0 < 2 ^ sP S := Nat.pow_lt_pow_right (by omega) (by omega)
    have hl1 : 2 ^ sO S c 1 < 2 ^ sP S := Nat.pow_lt_pow_right (by omega) (by omega)
    refine eR_ildn_3 dX3_findDressable_36 rfl ?_
    refine eR_aldn_1 dX3_findDressable_37 rfl ?_
    refine eR_getI dX3_findDressable_38 gf_X3_45 T.1 rfl ?_
    refine eX_pcI (V1.2.1) ?_
    refine eR_icmp_ge (tgt := 144) dX3_findDressable_41 (by decide) (by first | exact rg_b01 _ | (unfold rg; omega)) (by first | exact rg_b01 _ | (unfold rg; omega)) (fun c41 => absurd c41 (by omega)) (fun c41 => ?_)
    refine eR_ic dX3_findDressable_44 ?_
    refine eR_aldn_1 dX3_findDressable_45 rfl ?_
    refine eR_getR (i := u + 1) dX3_findDressable_46 gf_X3_48 T.1 rfl ?_
    refine eR_ildn_3 dX3_findDressable_49 rfl ?_
    refine eR_aald3 (n := c) (i := u + 2 + c) dX3_findDressable_50 T.2.1 (rfl) (by omega) (by decide) (rowsK_at (by omega)) ?_
    refine eR_ic dX3_findDressable_51 ?_
    refine eR_iald (n := 0) dX3_findDressable_52 (T.2.2.1 c (by omega)) (rfl) (by decide) (by decide) ?_
    refine eX_pcI ((V1.2.2.2.2.2.1 c (by omega)).1) ?_
    refine eR_ishl dX3_findDressable_53 ?_
    refine eX_pcI (show (zShl 1 ↑(sO S c 0) : Int) = ↑(2 ^ sO S c 0 : Nat) from by have := zShl_nat (a := 1) (k := sO S c 0) (by omega) (by omega); rw [Nat.one_mul] at this; exact this) ?_
    refine eR_ist_n4 dX3_findDressable_54 (by decide) rfl ?_
    refine eR_ic dX3_findDressable_56 ?_
    refine eR_aldn_1 dX3_findDressable_57 rfl ?_
    refine eR_getR (i := u + 1) dX3_findDressable_58 gf_X3_48 T.1 rfl ?_
    refine eR_ildn_3 dX3_findDressable_61 rfl ?_
    refine eR_aald3 (n := c) (i := u + 2 + c) dX3_findDressable_62 T.2.1 (rfl) (by omega) (by decide) (rowsK_at (by omega)) ?_
    refine eR_ic dX3_findDressable_63 ?_
    refine eR_iald (n := 1) dX3_findDressable_64 (T.2.2.1 c (by omega)) (rfl) (by decide) (by decide) ?_
    refine eX_pcI ((V1.2.2.2.2.2.1 c (by omega)).2.1) ?_
    refine eR_ishl dX3_findDressable_65 ?_
    refine eX_pcI (show (zShl 1 ↑(sO S c 1) : Int) = ↑(2 ^ sO S c 1 : Nat) from by have := zShl_nat (a := 1) (k := sO S c 1) (by omega) (by omega); rw [Nat.one_mul] at this; exact this) ?_
    refine eR_ist_n5 dX3_findDressable_66 (by decide) rfl ?_
    refine eR_ildn_2 dX3_findDressable_68 rfl ?_
    refine eR_ic dX3_findDressable_69 ?_
    refine eR_isub dX3_findDressable_70 ?_
    refine eR_ist_n6 dX3_findDressable_71 (by decide) rfl ?_
    refine pl_fd1 (c := c) T B V1 h38 (by omega) (fun h2 hO2 hM2 => ?_) (2 ^ sP S) (Nat.le_refl _) h1 (ofO_rf _ _) (mrW_eq hM (fun x _ => (mkI_top (fun y hy => fmA_lt B (by omega) hy)).symm))
    refine eR_iinc_3 dX3_findDressable_138 (by decide) rfl ?_
    refine eR_goto (tgt := 36) dX3_findDressable_141 (by decide) ?_
    refine eX_lv (lv2 := List.take 4 _) (fun q hq => List.mem_of_mem_take hq) ?_
    exact ih (c + 1) (by omega) h2 (fun a q => (hO2 a q).trans (hO a q)) hM2
theorem pl_fd0 (B : sB S) (k : ∀ h1 : PH, ofO 35 h h1 → (∀ x, 1 ≤ x → x < 2 ^ sP S → h1 35 x = 0) → eX g 1 mX3_findDressable 27 [(0, .ref (gA g 34)), (1, .ref (gA g u)), (2, .int (zI ↑(2 ^ sP S : Nat))), (3, .int (zI ↑(2 ^ sP S : Nat)))] [] (tau t s) h1 Q) : ∀ n i, i + n = 2 ^ sP S → 1 ≤ i → ∀ h1 : PH, ofO 35 h h1 → (∀ x, 1 ≤ x → x < i → h1 35 x = 0) → eX g 1 mX3_findDressable 9 [(0, .ref (gA g 34)), (1, .ref (gA g u)), (2, .int (zI ↑(2 ^ sP S : Nat))), (3, .int (zI ↑i))] [] (tau t s) h1 Q := by
  have hP8 := B.1
  have hC8 := B.2.1
  have hE10 := B.2.2.1
  have hF99 := B.2.2.2.2.2.2.1
  have e2 : 2 ^ sP S ≤ 2 ^ 8 := Nat.pow_le_pow_right (by omega) hP8
  have e3 := Nat.two_pow_pos (sP S)
  intro n
  induction n with
  | zero =>
    intro i hi hi1 h1 hO hd
    refine eR_ildn_3 dX3_findDressable_9 rfl ?_
    refine eR_ildn_2 dX3_findDressable_10 rfl ?_
    refine eR_icmp_ge (tgt := 27) dX3_findDressable_11 (by decide) (by first | exact rg_b01 _ | (unfold rg; omega)) (by first | exact rg_b01 _ | (unfold rg; omega)) (fun c11 => ?_) (fun c11 => absurd c11 (by omega))
    have e9 : i = 2 ^ sP S := by omega
    subst e9
    exact k h1 hO hd
  | succ n ih =>
    intro i hi hi1 h1 hO hd
    refine eR_ildn_3 dX3_findDressable_9 rfl ?_
    refine eR_ildn_2 dX3_findDressable_10 rfl ?_
    refine eR_icmp_ge (tgt := 27) dX3_findDressable_11 (by decide) (by first | exact rg_b01 _ | (unfold rg; omega)) (by first | exact rg_b01 _ | (unfold rg; omega)) (fun c11 => absurd c11 (by omega)) (fun c11 => ?_)
    refine eR_aldn_0 dX3_findDressable_14 rfl ?_
    refine eR_getR (i := 35) dX3_findDressable_15 gf_X3_9 th_34 rfl ?_
    refine eR_ildn_3 dX3_findDressable_18 rfl ?_
    refine eR_ic dX3_findDressable_19 ?_
    refine eR_zast (n := i) (by omega) dX3_findDressable_20 th_35 (rfl) (by omega) (by decide) ?_
    refine eR_iinc_3 dX3_findDressable_21 (by decide) rfl ?_
    refine eR_goto (tgt := 9) dX3_findDressable_24 (by decide) ?_
    refine ih (i + 1) (by omega) (by omega) _ (ofO_w hO) (fun x q1 q2 => ?_)
    by_cases hxi : x = i
    · subst hxi; exact hU_s _ _ _ _
    · rw [hU_i _ _ _ hxi]; exact hd x q1 (by omega)
theorem pt_findDressable (T : isTn (tau t s) u) (B : sB S) (V : cV h u S) (h38 : 38 ≤ u) (k : ∀ h1 : PH, ofO 35 h h1 → mrW (2 ^ sP S) (h1 35) (fmD (opA S) (sC S)) → Q .null (tau t s) h1) : eX g 1 mX3_findDressable 0 (lv_args 0 [.ref (gA g 34), .ref (gA g u)]) [] (tau t s) h Q := by
  show eX g 1 mX3_findDressable 0 [(0, .ref (gA g 34)), (1, .ref (gA g u))] [] (tau t s) h Q
  have hP8 := B.1
  have hC8 := B.2.1
  have hE10 := B.2.2.1
  have hF99 := B.2.2.2.2.2.2.1
  have e2 : 2 ^ sP S ≤ 2 ^ 8 := Nat.pow_le_pow_right (by omega) hP8
  have e3 := Nat.two_pow_pos (sP S)
  refine eR_ic dX3_findDressable_0 ?_
  refine eR_aldn_1 dX3_findDressable_1 rfl ?_
  refine eR_getI dX3_findDressable_2 gf_X3_42 T.1 rfl ?_
  refine eX_pcI (V.1) ?_
  refine eR_ishl dX3_findDressable_5 ?_
  refine eX_pcI (show (zShl 1 ↑(sP S) : Int) = ↑(2 ^ sP S : Nat) from by have := zShl_nat (a := 1) (k := sP S) (by omega) (by omega); rw [Nat.one_mul] at this; exact this) ?_
  refine eR_istn_n2 dX3_findDressable_6 rfl (by decide) rfl ?_
  refine eR_ic dX3_findDressable_7 ?_
  refine eR_istn_n3 dX3_findDressable_8 rfl (by decide) rfl ?_
  refine pl_fd0 B (fun h1 hO hd => ?_) (2 ^ sP S - 1) 1 (by omega) (Nat.le_refl _) h (ofO_rf _ _) (fun x q1 q2 => by omega)
  have V1 : cV h1 u S := cV_of B V (fun a q1 q2 => hO a (by omega))
  refine eR_aldn_0 dX3_findDressable_27 rfl ?_
  refine eR_getR (i := 35) dX3_findDressable_28 gf_X3_9 th_34 rfl ?_
  refine eR_ic dX3_findDressable_31 ?_
  refine eR_ic dX3_findDressable_32 ?_
  refine eR_zast (n := 0) (by omega) dX3_findDressable_33 th_35 (rfl) (by decide) (by decide) ?_
  refine eR_ic dX3_findDressable_34 ?_
  refine eR_istn_3 dX3_findDressable_35 rfl (by decide) rfl ?_
  refine pl_fd2 T B V h38 k (sC S) 0 (by omega) _ (ofO_w hO) (fun x hx => ?_)
  by_cases hx0 : x = 0
  · subst hx0; exact Or.inl ⟨hU_s _ _ _ _, rfl⟩
  · rw [hU_i _ _ _ hx0]; exact Or.inr ⟨hd x (by omega) hx, hx0⟩
theorem pl_uw1 (T : isTn (tau t s) u) (B : sB S) (V : cV h u S) (h38 : 38 ≤ u) {e : Nat} (he : e < sE S) (k : ∀ h1 : PH, ofO 36 h h1 → h1 36 e = (uwN S e (sE S) : Int) → (∀ x, x ≠ e → h1 36 x = h 36 x) → eX g 0 mX3_findUnderWay 83 [(0, .ref (gA g 34)), (1, .ref (gA g u)), (2, .int (zI ↑e)), (3, .int (zI ↑(sR S e 2))), (4, .int (zI ↑(sE S)))] [] (tau t s) h1 Q) : ∀ n o, o + n = sE S → ∀ h1 : PH, ofO 36 h h1 → h1 36 e = (uwN S e o : Int) → (∀ x, x ≠ e → h1 36 x = h 36 x) → eX g 0 mX3_findUnderWay 29 [(0, .ref (gA g 34)), (1, .ref (gA g u)), (2, .int (zI ↑e)), (3, .int (zI ↑(sR S e 2))), (4, .int (zI ↑o))] [] (tau t s) h1 Q := by
  have hP8 := B.1
  have hC8 := B.2.1
  have hE10 := B.2.2.1
  have hF99 := B.2.2.2.2.2.2.1
  have hr8 := B.2.2.2.2.1 e he
  intro n
  induction n with
  | zero =>
    intro o ho h1 hO hp hd
    have V1 : cV h1 u S := cV_of B V (fun a q1 q2 => hO a (by omega))
    refine eR_ild_4 dX3_findUnderWay_29 ?_
    refine eR_aldn_1 dX3_findUnderWay_31 rfl ?_
    refine eR_getI dX3_findUnderWay_32 gf_X3_26 T.1 rfl ?_
    refine eX_pcI (V1.2.2.1) ?_
    refine eR_icmp_ge (tgt := 83) dX3_findUnderWay_35 (by decide) (by first | exact rg_b01 _ | (unfold rg; omega)) (by first | exact rg_b01 _ | (unfold rg; omega)) (fun c35 => ?_) (fun c35 => absurd c35 (by omega))
    have e9 : o = sE S := by omega
    subst e9
    exact k h1 hO hp hd
  | succ n ih =>
    intro o ho h1 hO hp hd
    have V1 : cV h1 u S := cV_of B V (fun a q1 q2 => hO a (by omega))
    have hr9 := B.2.2.2.2.1 o (by omega)
    have hu9 := uwN_lt S e o
    have hl9 : 2 ^ o ≤ 2 ^ 9 := Nat.pow_le_pow_right (by omega) (by omega)
    refine eR_ild_4 dX3_findUnderWay_29 ?_
    refine eR_aldn_1 dX3_findUnderWay_31 rfl ?_
    refine eR_getI dX3_findUnderWay_32 gf_X3_26 T.1 rfl ?_
    refine eX_pcI (V1.2.2.1) ?_
    refine eR_icmp_ge (tgt := 83) dX3_findUnderWay_35 (by decide) (by first | exact rg_b01 _ | (unfold rg; omega)) (by first | exact rg_b01 _ | (unfold rg; omega)) (fun c35 => absurd c35 (by omega)) (fun c35 => ?_)
    refine eR_aldn_1 dX3_findUnderWay_38 rfl ?_
    refine eR_getR (i := u + 11) dX3_findUnderWay_39 gf_X3_56 T.1 rfl ?_
    refine eR_ild_4 dX3_findUnderWay_42 ?_
    refine eR_aald3 (n := o) (i := u + 12 + o) dX3_findUnderWay_44 T.2.2.2.2.1 (rfl) (by omega) (by decide) (rowsK_at (by omega)) ?_
    refine eR_ic dX3_findUnderWay_45 ?_
    refine eR_iald (n := 2) dX3_findUnderWay_46 (T.2.2.2.2.2.1 o (by omega)) (rfl) (by decide) (by decide) ?_
    refine eX_pcI (cV_err V1 (e := o) (k := 2) (by omega) (by omega)) ?_
    refine eR_ildn_3 dX3_findUnderWay_47 rfl ?_
    refine eR_icmp_gt (tgt := 77) dX3_findUnderWay_48 (by decide) (by first | exact rg_b01 _ | (unfold rg; omega)) (by first | exact rg_b01 _ | (unfold rg; omega)) (fun c48 => ?_) (fun c48 => ?_)
    · refine eR_iinc_4 dX3_findUnderWay_77 (by decide) rfl ?_
      refine eR_goto (tgt := 29) dX3_findUnderWay_80 (by decide) ?_
      have e9 : uwN S e (o + 1) = uwN S e o := if_neg (by rintro ⟨q1, q2⟩; omega)
      exact ih (o + 1) (by omega) h1 hO (by rw [e9]; exact hp) hd
    · refine eR_ildn_3 dX3_findUnderWay_51 rfl ?_
      refine eR_aldn_1 dX3_findUnderWay_52 rfl ?_
      refine eR_getR (i := u + 11) dX3_findUnderWay_53 gf_X3_56 T.1 rfl ?_
      refine eR_ild_4 dX3_findUnderWay_56 ?_
      refine eR_aald3 (n := o) (i := u + 12 + o) dX3_findUnderWay_58 T.2.2.2.2.1 (rfl) (by omega) (by decide) (rowsK_at (by omega)) ?_
      refine eR_ic dX3_findUnderWay_59 ?_
      refine eR_iald (n := 3) dX3_findUnderWay_60 (T.2.2.2.2.2.1 o (by omega)) (rfl) (by decide) (by decide) ?_
      refine eX_pcI (cV_err V1 (e := o) (k := 3) (by omega) (by omega)) ?_
      refine eR_icmp_gt (tgt := 77) dX3_findUnderWay_61 (by decide) (by first | exact rg_b01 _ | (unfold rg; omega)) (by first | exact rg_b01 _ | (unfold rg; omega)) (fun c61 => ?_) (fun c61 => ?_)
      · refine eR_iinc_4 dX3_findUnderWay_77 (by decide) rfl ?_
        refine eR_goto (tgt := 29) dX3_findUnderWay_80 (by decide) ?_
        have e9 : uwN S e (o + 1) = uwN S e o := if_neg (by rintro ⟨q1, q2⟩; omega)
        exact ih (o + 1) (by omega) h1 hO (by rw [e9]; exact hp) hd
      · refine eR_aldn_0 dX3_findUnderWay_64 rfl ?_
        refine eR_getR (i := 36) dX3_findUnderWay_65 gf_X3_15 th_34 rfl ?_
        refine eR_ildn_2 dX3_findUnderWay_68 rfl ?_
        refine eR_dup2 dX3_findUnderWay_69 rfl rfl ?_
        refine eR_iald (n := e) dX3_findUnderWay_70 th_36 (rfl) (by omega) (by decide) ?_
        refine eX_pcI (hp) ?_
        refine eR_ic dX3_findUnderWay_71 ?_
        refine eR_ild_4 dX3_findUnderWay_72 ?_
        refine eR_ishl dX3_findUnderWay_74 ?_
        refine eX_pcI (show (zShl 1 ↑o : Int) = ↑(2 ^ o : Nat) from by have := zShl_nat (a := 1) (k := o) (by omega) (by omega); rw [Nat.one_mul] at this; exact this) ?_
        refine eR_ior dX3_findUnderWay_75 ?_
        refine eX_pcI (show (zOr ↑(uwN S e o) ↑(2 ^ o : Nat) : Int) = ↑(uwN S e o ||| 2 ^ o : Nat) from zOr_nat (by omega) (by omega)) ?_
        refine eR_iast (n := e) dX3_findUnderWay_76 th_36 (rfl) (by omega) (by decide) ?_
        refine eR_iinc_4 dX3_findUnderWay_77 (by decide) rfl ?_
        refine eR_goto (tgt := 29) dX3_findUnderWay_80 (by decide) ?_
        have e9 : uwN S e (o + 1) = uwN S e o ||| 2 ^ o := if_pos ⟨by omega, by omega⟩
        exact ih (o + 1) (by omega) _ (ofO_w hO) (by rw [e9]; exact hU_s _ _ _ _) (fun x hx => by rw [hU_i _ _ _ hx]; exact hd x hx)
theorem pl_uw2 (T : isTn (tau t s) u) (B : sB S) (V : cV h u S) (h38 : 38 ≤ u) (k : ∀ h1 : PH, ofO 36 h h1 → (∀ x, x < sE S → h1 36 x = (uwN S x (sE S) : Int)) → Q .null (tau t s) h1) : ∀ n e, e + n = sE S → ∀ h1 : PH, ofO 36 h h1 → (∀ x, x < e → h1 36 x = (uwN S x (sE S) : Int)) → eX g 0 mX3_findUnderWay 2 [(0, .ref (gA g 34)), (1, .ref (gA g u)), (2, .int (zI ↑e))] [] (tau t s) h1 Q := by
  have hP8 := B.1
  have hC8 := B.2.1
  have hE10 := B.2.2.1
  have hF99 := B.2.2.2.2.2.2.1
  intro n
  induction n with
  | zero =>
    intro e he h1 hO hd
    have V1 : cV h1 u S := cV_of B V (fun a q1 q2 => hO a (by omega))
    refine eR_ildn_2 dX3_findUnderWay_2 rfl ?_
    refine eR_aldn_1 dX3_findUnderWay_3 rfl ?_
    refine eR_getI dX3_findUnderWay_4 gf_X3_26 T.1 rfl ?_
    refine eX_pcI (V1.2.2.1) ?_
    refine eR_icmp_ge (tgt := 89) dX3_findUnderWay_7 (by decide) (by first | exact rg_b01 _ | (unfold rg; omega)) (by first | exact rg_b01 _ | (unfold rg; omega)) (fun c7 => ?_) (fun c7 => absurd c7 (by omega))
    refine eR_vret dX3_findUnderWay_89 rfl ?_
    have e9 : e = sE S := by omega
    subst e9
    exact k h1 hO hd
  | succ n ih =>
    intro e he h1 hO hd
    have V1 : cV h1 u S := cV_of B V (fun a q1 q2 => hO a (by omega))
    refine eR_ildn_2 dX3_findUnderWay_2 rfl ?_
    refine eR_aldn_1 dX3_findUnderWay_3 rfl ?_
    refine eR_getI dX3_findUnderWay_4 gf_X3_26 T.1 rfl ?_
    refine eX_pcI (V1.2.2.1) ?_
    refine eR_icmp_ge (tgt := 89) dX3_findUnderWay_7 (by decide) (by first | exact rg_b01 _ | (unfold rg; omega)) (by first | exact rg_b01 _ | (unfold rg; omega)) (fun c7 => absurd c7 (by omega)) (fun c7 => ?_)
    refine eR_aldn_1 dX3_findUnderWay_10 rfl ?_
    refine eR_getR (i := u + 11) dX3_findUnderWay_11 gf_X3_56 T.1 rfl ?_
    refine eR_ildn_2 dX3_findUnderWay_14 rfl ?_
    refine eR_aald3 (n := e) (i := u + 12 + e) dX3_findUnderWay_15 T.2.2.2.2.1 (rfl) (by omega) (by decide) (rowsK_at (by omega)) ?_
    refine eR_ic dX3_findUnderWay_16 ?_
    refine eR_iald (n := 2) dX3_findUnderWay_17 (T.2.2.2.2.2.1 e (by omega)) (rfl) (by decide) (by decide) ?_
    refine eX_pcI (cV_err V1 (e := e) (k := 2) (by omega) (by omega)) ?_
    refine eR_istn_n3 dX3_findUnderWay_18 rfl (by decide) rfl ?_
    refine eR_aldn_0 dX3_findUnderWay_19 rfl ?_
    refine eR_getR (i := 36) dX3_findUnderWay_20 gf_X3_15 th_34 rfl ?_
    refine eR_ildn_2 dX3_findUnderWay_23 rfl ?_
    refine eR_ic dX3_findUnderWay_24 ?_
    refine eR_iast (n := e) dX3_findUnderWay_25 th_36 (rfl) (by omega) (by decide) ?_
    refine eR_ic dX3_findUnderWay_26 ?_
    refine eR_ist_n4 dX3_findUnderWay_27 (by decide) rfl ?_
    refine pl_uw1 (e := e) T B (cV_w B V1 (by omega)) h38 (by omega) (fun h2 hO2 hp2 hd2 => ?_) (sE S) 0 (by omega) _ (ofO_rf _ _) (hU_s _ _ _ _) (fun x hx => rfl)
    refine eR_iinc_2 dX3_findUnderWay_83 (by decide) rfl ?_
    refine eR_goto (tgt := 2) dX3_findUnderWay_86 (by decide) ?_
    refine eX_lv (lv2 := List.take 3 _) (fun q hq => List.mem_of_mem_take hq) ?_
    refine ih (e + 1) (by omega) h2 (fun a q => by rw [hO2 a q, hU_a _ _ _ q]; exact hO a q) (fun x hx => ?_)
    by_cases hxe : x = e
    · subst hxe; exact hp2
    · rw [hd2 x hxe, hU_i _ _ _ hxe]; exact hd x (by omega)
theorem pt_findUnderWay (T : isTn (tau t s) u) (B : sB S) (V : cV h u S) (h38 : 38 ≤ u) (k : ∀ h1 : PH, ofO 36 h h1 → (∀ x, x < sE S → h1 36 x = (uwN S x (sE S) : Int)) → Q .null (tau t s) h1) : eX g 0 mX3_findUnderWay 0 (lv_args 0 [.ref (gA g 34), .ref (gA g u)]) [] (tau t s) h Q := by
  show eX g 0 mX3_findUnderWay 0 [(0, .ref (gA g 34)), (1, .ref (gA g u))] [] (tau t s) h Q
  refine eR_ic dX3_findUnderWay_0 ?_
  refine eR_istn_n2 dX3_findUnderWay_1 rfl (by decide) rfl ?_
  exact pl_uw2 T B V h38 k (sE S) 0 (by omega) h (ofO_rf _ _) (fun x hx => absurd hx (Nat.not_lt_zero x))
theorem pl_people (T : isTn (tau t s) u) (B : sB S) (V : cV h u S) {es : Nat} (hes : es < 1024) (k : Q (.int (zI ↑(ppN S es (sE S)))) (tau t s) h) : ∀ n e : Nat, e + n = sE S → eX g 0 mX3_peopleOf 4 [(0, .ref (gA g u)), (1, .int (zI ↑es)), (2, .int (zI ↑(ppN S es e))), (3, .int (zI ↑e))] [] (tau t s) h Q := by
  have hP8 := B.1
  have hC8 := B.2.1
  have hE10 := B.2.2.1
  have hF99 := B.2.2.2.2.2.2.1
  have e2 : 2 ^ sP S ≤ 2 ^ 8 := Nat.pow_le_pow_right (by omega) hP8
  have e3 := Nat.two_pow_pos (sP S)
  intro n
  induction n with
  | zero =>
    intro e hx9
    refine eR_ildn_3 dX3_peopleOf_4 rfl ?_
    refine eR_aldn_0 dX3_peopleOf_5 rfl ?_
    refine eR_getI dX3_peopleOf_6 gf_X3_26 T.1 rfl ?_
    refine eX_pcI (V.2.2.1) ?_
    refine eR_icmp_ge (tgt := 39) dX3_peopleOf_9 (by decide) (by first | exact rg_b01 _ | (unfold rg; omega)) (by first | exact rg_b01 _ | (unfold rg; omega)) (fun c9 => ?_) (fun c9 => absurd c9 (by omega))
    refine eR_ildn_2 dX3_peopleOf_39 rfl ?_
    refine eR_iret dX3_peopleOf_40 rfl rfl ?_
    have e9 : e = sE S := by omega
    subst e9
    exact k
  | succ n ih =>
    intro e hx9
    have hr9 := B.2.2.2.2.1 e (by omega)
    have hl3 : 2 ^ sR S e 0 ≤ 2 ^ 7 := Nat.pow_le_pow_right (by omega) (by omega)
    have hp9 := ppN_lt B es e (by omega)
    refine eR_ildn_3 dX3_peopleOf_4 rfl ?_
    refine eR_aldn_0 dX3_peopleOf_5 rfl ?_
    refine eR_getI dX3_peopleOf_6 gf_X3_26 T.1 rfl ?_
    refine eX_pcI (V.2.2.1) ?_
    refine eR_icmp_ge (tgt := 39) dX3_peopleOf_9 (by decide) (by first | exact rg_b01 _ | (unfold rg; omega)) (by first | exact rg_b01 _ | (unfold rg; omega)) (fun c9 => absurd c9 (by omega)) (fun c9 => ?_)
    refine eR_ildn_1 dX3_peopleOf_12 rfl ?_
    refine eR_ildn_3 dX3_peopleOf_13 rfl ?_
    refine eR_ishr dX3_peopleOf_14 ?_
    refine eR_ic dX3_peopleOf_15 ?_
    refine eR_iand dX3_peopleOf_16 ?_
    refine eX_pcI (show (zAnd (zShr ↑es ↑e) 1 : Int) = b01 (es.testBit e = true) from zBit_nat (a := es) (k := e) (by omega) (by omega)) ?_
    refine eR_if_eq (tgt := 33) dX3_peopleOf_17 (by decide) (by first | exact rg_b01 _ | (unfold rg; omega)) (fun c17 => ?_) (fun c17 => ?_)
    · replace c17 := b01_eq0.mp c17
      refine eR_iinc_3 dX3_peopleOf_33 (by decide) rfl ?_
      refine eR_goto (tgt := 4) dX3_peopleOf_36 (by decide) ?_
      have e9 : ppN S es (e + 1) = ppN S es e := if_neg c17
      have e8 := ih (e + 1) (by omega)
      rw [e9] at e8
      exact e8
    · replace c17 := b01_ne0.mp c17
      refine eR_ildn_2 dX3_peopleOf_20 rfl ?_
      refine eR_ic dX3_peopleOf_21 ?_
      refine eR_aldn_0 dX3_peopleOf_22 rfl ?_
      refine eR_getR (i := u + 11) dX3_peopleOf_23 gf_X3_56 T.1 rfl ?_
      refine eR_ildn_3 dX3_peopleOf_26 rfl ?_
      refine eR_aald3 (n := e) (i := u + 12 + e) dX3_peopleOf_27 T.2.2.2.2.1 (rfl) (by omega) (by decide) (rowsK_at (by omega)) ?_
      refine eR_ic dX3_peopleOf_28 ?_
      refine eR_iald (n := 0) dX3_peopleOf_29 (T.2.2.2.2.2.1 e (by omega)) (rfl) (by decide) (by decide) ?_
      refine eX_pcI (cV_err V (e := e) (k := 0) (by omega) (by omega)) ?_
      refine eR_ishl dX3_peopleOf_30 ?_
      refine eX_pcI (show (zShl 1 ↑(sR S e 0) : Int) = ↑(2 ^ sR S e 0 : Nat) from by have := zShl_nat (a := 1) (k := sR S e 0) (by omega) (by omega); rw [Nat.one_mul] at this; exact this) ?_
      refine eR_ior dX3_peopleOf_31 ?_
      refine eX_pcI (show (zOr ↑(ppN S es e) ↑(2 ^ sR S e 0 : Nat) : Int) = ↑(ppN S es e ||| 2 ^ sR S e 0 : Nat) from zOr_nat (by omega) (by omega)) ?_
      refine eR_istn_2 dX3_peopleOf_32 rfl (by decide) rfl ?_
      refine eR_iinc_3 dX3_peopleOf_33 (by decide) rfl ?_
      refine eR_goto (tgt := 4) dX3_peopleOf_36 (by decide) ?_
      have e9 : ppN S es (e + 1) = ppN S es e ||| 2 ^ sR S e 0 := if_pos c17
      have e8 := ih (e + 1) (by omega)
      rw [e9] at e8
      exact e8
theorem pt_people (T : isTn (tau t s) u) (B : sB S) (V : cV h u S) {es : Nat} (hes : es < 1024) (k : Q (.int (zI ↑(ppN S es (sE S)))) (tau t s) h) : eX g 0 mX3_peopleOf 0 (lv_args 0 [.ref (gA g u), .int (zI ↑es)]) [] (tau t s) h Q := by
  show eX g 0 mX3_peopleOf 0 [(0, .ref (gA g u)), (1, .int (zI ↑es))] [] (tau t s) h Q
  refine eR_ic dX3_peopleOf_0 ?_
  refine eR_istn_n2 dX3_peopleOf_1 rfl (by decide) rfl ?_
  refine eR_ic dX3_peopleOf_2 ?_
  refine eR_istn_n3 dX3_peopleOf_3 rfl (by decide) rfl ?_
  exact pl_people T B V hes k (sE S) 0 (by omega)
theorem pl_cb (T : isTn (tau t s) u) (B : sB S) (V : cV h u S) {set : Nat} (hset : set < 1024) (M : mrW (2 ^ sP S) (h 35) (fmD (opA S) (sC S))) (U : ∀ x, x < sE S → h 36 x = (uwN S x (sE S) : Int)) (k1 : mokS S set → Q (.int (zI 1)) (tau t s) h) (k0 : ¬ mokS S set → Q (.int (zI 0)) (tau t s) h) : ∀ n e, e + n = sE S → (∀ x, x < e → cbE S set x) → eX g 1 mX3_canBeDone 2 [(0, .ref (gA g 34)), (1, .ref (gA g u)), (2, .int (zI ↑set)), (3, .int (zI ↑e))] [] (tau t s) h Q := by
  have hP8 := B.1
  have hC8 := B.2.1
  have hE10 := B.2.2.1
  have hF99 := B.2.2.2.2.2.2.1
  have e2 : 2 ^ sP S ≤ 2 ^ 8 := Nat.pow_le_pow_right (by omega) hP8
  have e3 := Nat.two_pow_pos (sP S)
  intro n
  induction n with
  | zero =>
    intro e he hn
    refine eR_ildn_3 dX3_canBeDone_2 rfl ?_
    refine eR_aldn_1 dX3_canBeDone_3 rfl ?_
    refine eR_getI dX3_canBeDone_4 gf_X3_26 T.1 rfl ?_
    refine eX_pcI (V.2.2.1) ?_
    refine eR_icmp_ge (tgt := 46) dX3_canBeDone_7 (by decide) (by first | exact rg_b01 _ | (unfold rg; omega)) (by first | exact rg_b01 _ | (unfold rg; omega)) (fun c7 => ?_) (fun c7 => absurd c7 (by omega))
    refine eR_ic dX3_canBeDone_46 ?_
    refine eR_zret dX3_canBeDone_47 rfl (by omega) ?_
    exact k1 ((mok_cb B).mpr (fun x hx => hn x (by omega)))
  | succ n ih =>
    intro e he hn
    have ha9 : set &&& uwN S e (sE S) ≤ set := Nat.and_le_left
    have hp9 := ppN_lt B (set &&& uwN S e (sE S)) (sE S) (Nat.le_refl _)
    have hr9 := mrW_rg M hp9
    refine eR_ildn_3 dX3_canBeDone_2 rfl ?_
    refine eR_aldn_1 dX3_canBeDone_3 rfl ?_
    refine eR_getI dX3_canBeDone_4 gf_X3_26 T.1 rfl ?_
    refine eX_pcI (V.2.2.1) ?_
    refine eR_icmp_ge (tgt := 46) dX3_canBeDone_7 (by decide) (by first | exact rg_b01 _ | (unfold rg; omega)) (by first | exact rg_b01 _ | (unfold rg; omega)) (fun c7 => absurd c7 (by omega)) (fun c7 => ?_)
    refine eR_ildn_2 dX3_canBeDone_10 rfl ?_
    refine eR_ildn_3 dX3_canBeDone_11 rfl ?_
    refine eR_ishr dX3_canBeDone_12 ?_
    refine eR_ic dX3_canBeDone_13 ?_
    refine eR_iand dX3_canBeDone_14 ?_
    refine eX_pcI (show (zAnd (zShr ↑set ↑e) 1 : Int) = b01 (set.testBit e = true) from zBit_nat (a := set) (k := e) (by omega) (by omega)) ?_
    refine eR_if_eq (tgt := 40) dX3_canBeDone_15 (by decide) (by first | exact rg_b01 _ | (unfold rg; omega)) (fun c15 => ?_) (fun c15 => ?_)
    · replace c15 := b01_eq0.mp c15
      refine eR_iinc_3 dX3_canBeDone_40 (by decide) rfl ?_
      refine eR_goto (tgt := 2) dX3_canBeDone_43 (by decide) ?_
      exact ih (e + 1) (by omega) (fun x hx => by
      by_cases hxe : x = e
      · subst hxe; exact fun q => absurd q c15
      · exact hn x (by omega))
    · replace c15 := b01_ne0.mp c15
      refine eR_aldn_0 dX3_canBeDone_18 rfl ?_
      refine eR_getR (i := 35) dX3_canBeDone_19 gf_X3_9 th_34 rfl ?_
      refine eR_aldn_1 dX3_canBeDone_22 rfl ?_
      refine eR_ildn_2 dX3_canBeDone_23 rfl ?_
      refine eR_aldn_0 dX3_canBeDone_24 rfl ?_
      refine eR_getR (i := 36) dX3_canBeDone_25 gf_X3_15 th_34 rfl ?_
      refine eR_ildn_3 dX3_canBeDone_28 rfl ?_
      refine eR_iald (n := e) dX3_canBeDone_29 th_36 (rfl) (by omega) (by decide) ?_
      refine eX_pcI (U e (by omega)) ?_
      refine eR_iand dX3_canBeDone_30 ?_
      refine eX_pcI (show (zAnd ↑set (↑(uwN S e (sE S))) : Int) = ↑(set &&& uwN S e (sE S) : Nat) from zAnd_nat (by omega)) ?_
      refine eR_callSi [_, _] rfl dX3_canBeDone_31 ok_mX3_peopleOf kw_753 rfl rfl (Nat.le_of_ble_eq_true rfl) (d' := 0) (by decide) (Nat.le_of_ble_eq_true rfl) ?_
      refine pt_people (es := (set &&& uwN S e (sE S))) T B V (by omega) ?_
      refine eR_zald (n := (ppN S (set &&& uwN S e (sE S)) (sE S))) dX3_canBeDone_34 th_35 (rfl) (by omega) (by decide) ?_
      refine eR_if_ne (tgt := 40) dX3_canBeDone_35 (by decide) (by first | exact rg_b01 _ | (unfold rg; omega)) (fun c35 => ?_) (fun c35 => ?_)
      · refine eR_iinc_3 dX3_canBeDone_40 (by decide) rfl ?_
        refine eR_goto (tgt := 2) dX3_canBeDone_43 (by decide) ?_
        exact ih (e + 1) (by omega) (fun x hx => by
        by_cases hxe : x = e
        · subst hxe; exact fun _ => (mrW_at M hp9).mp (by omega)
        · exact hn x (by omega))
      · refine eR_ic dX3_canBeDone_38 ?_
        refine eR_zret dX3_canBeDone_39 rfl (by omega) ?_
        exact k0 (fun q => by have q2 := (mrW_at M hp9).mpr ((mok_cb B).mp q e (by omega) c15); omega)
theorem pt_canBeDone (T : isTn (tau t s) u) (B : sB S) (V : cV h u S) {set : Nat} (hset : set < 1024) (M : mrW (2 ^ sP S) (h 35) (fmD (opA S) (sC S))) (U : ∀ x, x < sE S → h 36 x = (uwN S x (sE S) : Int)) (k1 : mokS S set → Q (.int (zI 1)) (tau t s) h) (k0 : ¬ mokS S set → Q (.int (zI 0)) (tau t s) h) : eX g 1 mX3_canBeDone 0 (lv_args 0 [.ref (gA g 34), .ref (gA g u), .int (zI ↑set)]) [] (tau t s) h Q := by
  show eX g 1 mX3_canBeDone 0 [(0, .ref (gA g 34)), (1, .ref (gA g u)), (2, .int (zI ↑set))] [] (tau t s) h Q
  refine eR_ic dX3_canBeDone_0 ?_
  refine eR_istn_n3 dX3_canBeDone_1 rfl (by decide) rfl ?_
  exact pl_cb T B V hset M U k1 k0 (sE S) 0 (by omega) (fun x hx => absurd hx (Nat.not_lt_zero x))
theorem pl_me1 (T : isTn (tau t s) u) (B : sB S) (V : cV h u S) (M : mrW (2 ^ sP S) (h 35) (fmD (opA S) (sC S))) (U : ∀ x, x < sE S → h 36 x = (uwN S x (sE S) : Int)) {c : Nat} (hc : c ≤ sE S) (hu : ∀ y, y < 2 ^ sE S → mokS S y → bcn y 24 ≤ c) (k : ∀ r : Nat, isMst S r → Q (.int (zI ↑r)) (tau t s) h) (kn : (∀ y, y < 2 ^ sE S → mokS S y → bcn y 24 ≠ c) → eX g 2 mX3_mostErrands 63 [(0, .ref (gA g 34)), (1, .ref (gA g u)), (2, .int (zI ↑(2 ^ sE S : Nat))), (3, .int (zI ↑c)), (4, .int (zI ↑(2 ^ sE S : Nat)))] [] (tau t s) h Q) : ∀ n x, x + n = 2 ^ sE S → (∀ y, y < x → mokS S y → bcn y 24 ≠ c) → eX g 2 mX3_mostErrands 29 [(0, .ref (gA g 34)), (1, .ref (gA g u)), (2, .int (zI ↑(2 ^ sE S : Nat))), (3, .int (zI ↑c)), (4, .int (zI ↑x))] [] (tau t s) h Q := by
  have hP8 := B.1
  have hC8 := B.2.1
  have hE10 := B.2.2.1
  have hF99 := B.2.2.2.2.2.2.1
  have e2 : 2 ^ sE S ≤ 2 ^ 10 := Nat.pow_le_pow_right (by omega) hE10
  have e3 := Nat.two_pow_pos (sE S)
  intro n
  induction n with
  | zero =>
    intro x hx hn
    refine eR_ild_4 dX3_mostErrands_29 ?_
    refine eR_ildn_2 dX3_mostErrands_31 rfl ?_
    refine eR_icmp_ge (tgt := 63) dX3_mostErrands_32 (by decide) (by first | exact rg_b01 _ | (unfold rg; omega)) (by first | exact rg_b01 _ | (unfold rg; omega)) (fun c32 => ?_) (fun c32 => absurd c32 (by omega))
    have e9 : x = 2 ^ sE S := by omega
    subst e9
    exact kn hn
  | succ n ih =>
    intro x hx hn
    have hb9 := bcn_le x 24
    refine eR_ild_4 dX3_mostErrands_29 ?_
    refine eR_ildn_2 dX3_mostErrands_31 rfl ?_
    refine eR_icmp_ge (tgt := 63) dX3_mostErrands_32 (by decide) (by first | exact rg_b01 _ | (unfold rg; omega)) (by first | exact rg_b01 _ | (unfold rg; omega)) (fun c32 => absurd c32 (by omega)) (fun c32 => ?_)
    refine eR_ild_4 dX3_mostErrands_35 ?_
    refine eR_callSi [_] rfl dX3_mostErrands_37 ok_mJ6_bitCount_0f7a4 kw_748 rfl rfl (Nat.le_of_ble_eq_true rfl) (d' := 0) (by decide) (Nat.le_of_ble_eq_true rfl) ?_
    refine sp_bitCount (n := x) (by omega) ?_
    refine eR_ildn_3 dX3_mostErrands_40 rfl ?_
    refine eR_icmp_ne (tgt := 57) dX3_mostErrands_41 (by decide) (by first | exact rg_b01 _ | (unfold rg; omega)) (by first | exact rg_b01 _ | (unfold rg; omega)) (fun c41 => ?_) (fun c41 => ?_)
    · refine eR_iinc_4 dX3_mostErrands_57 (by decide) rfl ?_
      refine eR_goto (tgt := 29) dX3_mostErrands_60 (by decide) ?_
      exact ih (x + 1) (by omega) (fun y hy => by
      by_cases hyx : y = x
      · subst hyx; exact fun _ => by omega
      · exact hn y (by omega))
    · refine eR_aldn_0 dX3_mostErrands_44 rfl ?_
      refine eR_aldn_1 dX3_mostErrands_45 rfl ?_
      refine eR_ild_4 dX3_mostErrands_46 ?_
      refine eR_callVi [_, _] rfl dX3_mostErrands_48 ok_mX3_canBeDone kw_749 rfl rfl th_34 rfl (Nat.le_of_ble_eq_true rfl) (d' := 1) (by decide) (Nat.le_of_ble_eq_true rfl) ?_
      refine pt_canBeDone (set := x) T B V (by omega) M U (fun hm => ?_) (fun hm => ?_)
      · refine eR_if_eq (tgt := 57) dX3_mostErrands_51 (by decide) (by first | exact rg_b01 _ | (unfold rg; omega)) (fun c51 => absurd c51 (by decide)) (fun c51 => ?_)
        refine eR_ild_4 dX3_mostErrands_54 ?_
        refine eR_iret dX3_mostErrands_56 rfl rfl ?_
        exact k x ⟨by omega, hm, fun y hy hmy => ⟨by have := hu y hy hmy; omega, fun hyx => by have q1 := hu y hy hmy; have q2 := hn y hyx hmy; omega⟩⟩
      · refine eR_if_eq (tgt := 57) dX3_mostErrands_51 (by decide) (by first | exact rg_b01 _ | (unfold rg; omega)) (fun c51 => ?_) (fun c51 => absurd c51 (by decide))
        refine eR_iinc_4 dX3_mostErrands_57 (by decide) rfl ?_
        refine eR_goto (tgt := 29) dX3_mostErrands_60 (by decide) ?_
        exact ih (x + 1) (by omega) (fun y hy => by
        by_cases hyx : y = x
        · subst hyx; exact fun q => absurd q hm
        · exact hn y (by omega))
theorem pl_me2 (T : isTn (tau t s) u) (B : sB S) (V : cV h u S) (M : mrW (2 ^ sP S) (h 35) (fmD (opA S) (sC S))) (U : ∀ x, x < sE S → h 36 x = (uwN S x (sE S) : Int)) (k : ∀ r : Nat, isMst S r → Q (.int (zI ↑r)) (tau t s) h) : ∀ c, c ≤ sE S → (∀ y, y < 2 ^ sE S → mokS S y → bcn y 24 ≤ c) → eX g 2 mX3_mostErrands 22 [(0, .ref (gA g 34)), (1, .ref (gA g u)), (2, .int (zI ↑(2 ^ sE S : Nat))), (3, .int (zI ↑c))] [] (tau t s) h Q := by
  have hP8 := B.1
  have hC8 := B.2.1
  have hE10 := B.2.2.1
  have hF99 := B.2.2.2.2.2.2.1
  have e2 : 2 ^ sE S ≤ 2 ^ 10 := Nat.pow_le_pow_right (by omega) hE10
  have e3 := Nat.two_pow_pos (sE S)
  intro c
  induction c with
  | zero =>
    intro hc hu
    refine eR_ildn_3 dX3_mostErrands_22 rfl ?_
    refine eR_if_le (tgt := 69) dX3_mostErrands_23 (by decide) (by first | exact rg_b01 _ | (unfold rg; omega)) (fun c23 => ?_) (fun c23 => absurd c23 (by omega))
    refine eR_ic dX3_mostErrands_69 ?_
    refine eR_iret dX3_mostErrands_70 rfl rfl ?_
    exact k 0 ⟨e3, mokS_0 S, fun y hy hmy => ⟨by have := hu y hy hmy; omega, fun q => by omega⟩⟩
  | succ c ih =>
    intro hc hu
    refine eR_ildn_3 dX3_mostErrands_22 rfl ?_
    refine eR_if_le (tgt := 69) dX3_mostErrands_23 (by decide) (by first | exact rg_b01 _ | (unfold rg; omega)) (fun c23 => absurd c23 (by omega)) (fun c23 => ?_)
    refine eR_ic dX3_mostErrands_26 ?_
    refine eR_ist_n4 dX3_mostErrands_27 (by decide) rfl ?_
    refine pl_me1 (c := c + 1) T B V M U hc hu k (fun hn => ?_) (2 ^ sE S) 0 (by omega) (fun y hy => absurd hy (Nat.not_lt_zero y))
    refine eR_iinc_3 dX3_mostErrands_63 (by decide) rfl ?_
    refine eR_goto (tgt := 22) dX3_mostErrands_66 (by decide) ?_
    refine eX_lv (lv2 := List.take 4 _) (fun q hq => List.mem_of_mem_take hq) ?_
    rw [show ((↑(c + 1) : Int) + (-1)) = ↑c from by omega]
    exact ih (by omega) (fun y hy hmy => by have q1 := hu y hy hmy; have q2 := hn y hy hmy; omega)
theorem pt_most (T : isTn (tau t s) u) (B : sB S) (V : cV h u S) (h38 : 38 ≤ u) (k : ∀ (r : Nat) (h1 : PH), ofR 35 37 h h1 → isMst S r → Q (.int (zI ↑r)) (tau t s) h1) : eX g 2 mX3_mostErrands 0 (lv_args 0 [.ref (gA g 34), .ref (gA g u)]) [] (tau t s) h Q := by
  show eX g 2 mX3_mostErrands 0 [(0, .ref (gA g 34)), (1, .ref (gA g u))] [] (tau t s) h Q
  have hP8 := B.1
  have hC8 := B.2.1
  have hE10 := B.2.2.1
  have hF99 := B.2.2.2.2.2.2.1
  have e2 : 2 ^ sE S ≤ 2 ^ 10 := Nat.pow_le_pow_right (by omega) hE10
  have e3 := Nat.two_pow_pos (sE S)
  refine eR_aldn_0 dX3_mostErrands_0 rfl ?_
  refine eR_aldn_1 dX3_mostErrands_1 rfl ?_
  refine eR_callVv [_] rfl dX3_mostErrands_2 ok_mX3_findDressable kw_739 rfl rfl th_34 rfl (Nat.le_of_ble_eq_true rfl) (d' := 1) (by decide) (Nat.le_of_ble_eq_true rfl) ?_
  refine pt_findDressable T B V h38 (fun h1 hO1 hM1 => ?_)
  have V1 : cV h1 u S := cV_of B V (fun a q1 q2 => hO1 a (by omega))
  refine eR_aldn_0 dX3_mostErrands_5 rfl ?_
  refine eR_aldn_1 dX3_mostErrands_6 rfl ?_
  refine eR_callVv [_] rfl dX3_mostErrands_7 ok_mX3_findUnderWay kw_744 rfl rfl th_34 rfl (Nat.le_of_ble_eq_true rfl) (d' := 0) (by decide) (Nat.le_of_ble_eq_true rfl) ?_
  refine pt_findUnderWay T B V1 h38 (fun h2 hO2 hU2 => ?_)
  have V2 : cV h2 u S := cV_of B V1 (fun a q1 q2 => hO2 a (by omega))
  refine eR_ic dX3_mostErrands_10 ?_
  refine eR_aldn_1 dX3_mostErrands_11 rfl ?_
  refine eR_getI dX3_mostErrands_12 gf_X3_26 T.1 rfl ?_
  refine eX_pcI (V2.2.2.1) ?_
  refine eR_ishl dX3_mostErrands_15 ?_
  refine eX_pcI (show (zShl 1 ↑(sE S) : Int) = ↑(2 ^ sE S : Nat) from by have := zShl_nat (a := 1) (k := sE S) (by omega) (by omega); rw [Nat.one_mul] at this; exact this) ?_
  refine eR_istn_n2 dX3_mostErrands_16 rfl (by decide) rfl ?_
  refine eR_aldn_1 dX3_mostErrands_17 rfl ?_
  refine eR_getI dX3_mostErrands_18 gf_X3_26 T.1 rfl ?_
  refine eX_pcI (V2.2.2.1) ?_
  refine eR_istn_n3 dX3_mostErrands_21 rfl (by decide) rfl ?_
  exact pl_me2 T B V2 (by rw [hO2 35 (by omega)]; exact hM1) hU2 (fun r hr => k r h2 (fun a q => by rw [hO2 a (by omega), hO1 a (by omega)]) hr) (sE S) (Nat.le_refl _) (fun y hy _ => bcn_w (by omega) hy)
end M49
