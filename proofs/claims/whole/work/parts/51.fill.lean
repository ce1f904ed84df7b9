/-- a town as it is read -/
def rV (h : PH) (u : Nat) (U : PU) : Prop := cV h u U.1 ∧ h u 7 = 0 ∧ h u 3 = (U.2.1 : Int) ∧ h u 6 = (U.2.2.2 : Int) ∧ (∀ p, p < 8 → h (u + 40) p = (U.2.2.1 p : Int)) ∧ (∀ p q, p < 8 → q < 8 → h (u + 32 + p) q = (sL U.1 p q : Int))
theorem rV_mk {h : PH} {u : Nat} {U : PU} (hP8 : sP U.1 ≤ 8) (f0 : h u 0 = (sP U.1 : Int)) (f1 : h u 1 = (sC U.1 : Int)) (f2 : h u 2 = (sE U.1 : Int)) (f3 : h u 3 = (U.2.1 : Int)) (f4 : h u 4 = (sF U.1 : Int)) (f5 : h u 5 = (sK U.1 : Int)) (f6 : h u 6 = (U.2.2.2 : Int)) (f7 : h u 7 = 0)
    (fO : ∀ c, c < sC U.1 → h (u + 2 + c) 0 = (sO U.1 c 0 : Int) ∧ h (u + 2 + c) 1 = (sO U.1 c 1 : Int) ∧ h (u + 10) c = (sW U.1 c : Int)) (fR : ∀ e, e < sE U.1 → h (u + 12 + e) 0 = (sR U.1 e 0 : Int) ∧ h (u + 12 + e) 1 = (sR U.1 e 1 : Int) ∧ h (u + 12 + e) 2 = (sR U.1 e 2 : Int) ∧ h (u + 12 + e) 3 = (sR U.1 e 3 : Int))
    (fW : ∀ p hour, p < 8 → hour < 24 → h (u + 23 + p) hour = whereIs U.1 p hour) (fT : ∀ p, p < 8 → h (u + 40) p = (U.2.2.1 p : Int)) (fL : ∀ p q, p < 8 → q < 8 → h (u + 32 + p) q = (sL U.1 p q : Int)) : rV h u U :=
  ⟨⟨f0, f1, f2, f4, f5, fO, fR, fW, fun p q hp hq => fL p q (by omega) (by omega), 0, f7, by decide, fun hour _ q => by simp at q⟩, f7, f3, f6, fT, fL⟩
theorem rV_of {h h' : PH} {u : Nat} {U : PU} (B : sB U.1) (V : rV h u U) (e : ∀ a, u ≤ a → a < u + 41 → h' a = h a) : rV h' u U := by
  obtain ⟨v1, v2, v3, v4, v5, v6⟩ := V
  refine ⟨cV_of B v1 e, ?_, ?_, ?_, fun p hp => ?_, fun p q hp hq => ?_⟩
  · rw [e u (by omega) (by omega)]; exact v2
  · rw [e u (by omega) (by omega)]; exact v3
  · rw [e u (by omega) (by omega)]; exact v4
  · rw [e (u + 40) (by omega) (by omega)]; exact v5 p hp
  · rw [e (u + 32 + p) (by omega) (by omega)]; exact v6 p q hp hq
theorem rV_w {h : PH} {u a i : Nat} {z : Int} {U : PU} (B : sB U.1) (V : rV h u U) (q : ¬ (u ≤ a ∧ a < u + 41)) : rV (hU h a i z) u U := rV_of B V (fun b h1 h2 => hU_a h i z (by omega))
def clF (h : PH) (u : Nat) : Prop := h u 0 = 0 ∧ h u 1 = 0 ∧ h u 2 = 0 ∧ h u 3 = 0 ∧ h u 4 = 20 ∧ h u 5 = 0 ∧ h u 6 = 0 ∧ h u 7 = 0
def clR (h : PH) (u p : Nat) : Prop := h (u + 40) p = 0 ∧ (∀ q, q < 8 → h (u + 32 + p) q = 0) ∧ (∀ q, q < 24 → h (u + 23 + p) q = -1)
theorem rV_uZ {h : PH} {u : Nat} (F : clF h u) (R : ∀ p, p < 8 → clR h u p) : rV h u uZ := by
  obtain ⟨f0, f1, f2, f3, f4, f5, f6, f7⟩ := F
  exact rV_mk (Nat.zero_le _) f0 f1 f2 f3 f4 f5 f6 f7 (fun c hc => absurd hc (Nat.not_lt_zero c)) (fun c hc => absurd hc (Nat.not_lt_zero c)) (fun p hour hp hh => (R p hp).2.2 hour hh) (fun p hp => (R p hp).1) (fun p q hp hq => (R p hp).2.1 q hq)
theorem hU_ne2 {h : PH} {a i a' i' : Nat} {z : Int} (q : ¬ (a' = a ∧ i' = i)) : hU h a i z a' i' = h a' i' := by rw [hU_g, if_neg q]
theorem rV_adC {h : PH} {u p q w : Nat} {U : PU} (V : rV h u U) (hP8 : sP U.1 ≤ 8) (hC : sC U.1 < 8) (hE : sE U.1 ≤ 10) : rV (hU (hU (hU (hU h (u + 2 + sC U.1) 0 p) (u + 2 + sC U.1) 1 q) (u + 10) (sC U.1) w) u 1 (↑(sC U.1) + 1)) u (uO U (adC U.1 p q w)) := by
  obtain ⟨⟨v1, v2, v3, v4, v5, v6, v7, v8, v9, v10⟩, w7, w3, w6, wT, wL⟩ := V
  have E : ∀ a i, ¬ (a = u ∧ i = 1) → ¬ (a = u + 10 ∧ i = sC U.1) → ¬ (a = u + 2 + sC U.1) → (hU (hU (hU (hU h (u + 2 + sC U.1) 0 p) (u + 2 + sC U.1) 1 q) (u + 10) (sC U.1) w) u 1 (↑(sC U.1) + 1)) a i = h a i := fun a i q1 q2 q3 => by
    rw [hU_ne2 q1, hU_ne2 q2, hU_ne2 (by omega), hU_ne2 (by omega)]
  refine rV_mk hP8 ?_ ?_ ?_ ?_ ?_ ?_ ?_ ?_ (fun c hc => ?_) (fun e he => ?_) (fun p1 hour h1 h2 => ?_) (fun p1 h1 => ?_) (fun p1 q1 h1 h2 => ?_)
  · rw [E u 0 (by omega) (by omega) (by omega)]; exact v1
  · rw [hU_s]; rfl
  · rw [E u 2 (by omega) (by omega) (by omega)]; exact v3
  · rw [E u 3 (by omega) (by omega) (by omega)]; exact w3
  · rw [E u 4 (by omega) (by omega) (by omega)]; exact v4
  · rw [E u 5 (by omega) (by omega) (by omega)]; exact v5
  · rw [E u 6 (by omega) (by omega) (by omega)]; exact w6
  · rw [E u 7 (by omega) (by omega) (by omega)]; exact w7
  · have hc2 : c < sC U.1 + 1 := hc
    show _ = ((if c = sC U.1 then (if 0 = 0 then p else q) else sO U.1 c 0 : Nat) : Int) ∧ _ = ((if c = sC U.1 then (if 1 = 0 then p else q) else sO U.1 c 1 : Nat) : Int) ∧ _ = ((if c = sC U.1 then w else sW U.1 c : Nat) : Int)
    by_cases hcn : c = sC U.1
    · rw [if_pos hcn, if_pos hcn, if_pos hcn, if_pos rfl, if_neg (by decide), hcn]
      refine ⟨?_, ?_, ?_⟩
      · rw [hU_ne2 (by omega), hU_ne2 (by omega), hU_ne2 (by omega), hU_s]
      · rw [hU_ne2 (by omega), hU_ne2 (by omega), hU_s]
      · rw [hU_ne2 (by omega), hU_s]
    · rw [if_neg hcn, if_neg hcn, if_neg hcn, E _ _ (by omega) (by omega) (by omega), E _ _ (by omega) (by omega) (by omega), E _ _ (by omega) (by omega) (by omega)]
      exact v6 c (by omega)
  · have he2 : e < sE U.1 := he
    rw [E _ _ (by omega) (by omega) (by omega), E _ _ (by omega) (by omega) (by omega), E _ _ (by omega) (by omega) (by omega), E _ _ (by omega) (by omega) (by omega)]
    exact v7 e he2
  · rw [E _ _ (by omega) (by omega) (by omega)]
    exact (v8 p1 hour h1 h2).trans (whereIs_cg (S := U.1) (S' := adC U.1 p q w) rfl rfl p1 hour).symm
  · rw [E _ _ (by omega) (by omega) (by omega)]; exact wT p1 h1
  · rw [E _ _ (by omega) (by omega) (by omega)]; exact wL p1 q1 h1 h2
theorem rV_adL {h : PH} {u p q l : Nat} {U : PU} (V : rV h u U) (hP8 : sP U.1 ≤ 8) (hC : sC U.1 ≤ 8) (hE : sE U.1 ≤ 10) (hp : p < 8) : rV (hU (hU (hU h u 3 (↑U.2.1 + 1)) (u + 32 + p) q l) (u + 40) p ↑(U.2.2.1 p ||| 2 ^ q : Nat)) u (adL U p q l) := by
  obtain ⟨⟨v1, v2, v3, v4, v5, v6, v7, v8, v9, v10⟩, w7, w3, w6, wT, wL⟩ := V
  have E : ∀ a i, ¬ (a = u ∧ i = 3) → ¬ (a = u + 32 + p ∧ i = q) → ¬ (a = u + 40 ∧ i = p) → (hU (hU (hU h u 3 (↑U.2.1 + 1)) (u + 32 + p) q l) (u + 40) p ↑(U.2.2.1 p ||| 2 ^ q : Nat)) a i = h a i := fun a i q1 q2 q3 => by
    rw [hU_ne2 q3, hU_ne2 q2, hU_ne2 q1]
  refine rV_mk hP8 ?_ ?_ ?_ ?_ ?_ ?_ ?_ ?_ (fun c hc => ?_) (fun e he => ?_) (fun p1 hour h1 h2 => ?_) (fun p1 h1 => ?_) (fun p1 q1 h1 h2 => ?_)
  · rw [E u 0 (by omega) (by omega) (by omega)]; exact v1
  · rw [E u 1 (by omega) (by omega) (by omega)]; exact v2
  · rw [E u 2 (by omega) (by omega) (by omega)]; exact v3
  · rw [hU_ne2 (by omega), hU_ne2 (by omega), hU_s]; rfl
  · rw [E u 4 (by omega) (by omega) (by omega)]; exact v4
  · rw [E u 5 (by omega) (by omega) (by omega)]; exact v5
  · rw [E u 6 (by omega) (by omega) (by omega)]; exact w6
  · rw [E u 7 (by omega) (by omega) (by omega)]; exact w7
  · have hc2 : c < sC U.1 := hc
    rw [E _ _ (by omega) (by omega) (by omega), E _ _ (by omega) (by omega) (by omega), E _ _ (by omega) (by omega) (by omega)]
    exact v6 c hc2
  · have he2 : e < sE U.1 := he
    rw [E _ _ (by omega) (by omega) (by omega), E _ _ (by omega) (by omega) (by omega), E _ _ (by omega) (by omega) (by omega), E _ _ (by omega) (by omega) (by omega)]
    exact v7 e he2
  · rw [E _ _ (by omega) (by omega) (by omega)]
    exact (v8 p1 hour h1 h2).trans (whereIs_cg (S := U.1) (S' := (adL U p q l).1) rfl rfl p1 hour).symm
  · show _ = ((if p1 = p then U.2.2.1 p ||| 2 ^ q else U.2.2.1 p1 : Nat) : Int)
    by_cases hpp : p1 = p
    · rw [if_pos hpp, hpp, hU_s]
    · rw [if_neg hpp, E _ _ (by omega) (by omega) (by omega)]; exact wT p1 h1
  · show _ = ((if p1 = p ∧ q1 = q then l else sL U.1 p1 q1 : Nat) : Int)
    by_cases hpp : p1 = p ∧ q1 = q
    · rw [if_pos hpp, hpp.1, hpp.2, hU_ne2 (by omega), hU_s]
    · rw [if_neg hpp, E _ _ (by omega) (by omega) (by omega)]; exact wL p1 q1 h1 h2
theorem wIs_ge {S : TS} {p hour : Nat} : 0 ≤ whereIs S p hour ↔ ∃ x, x < sE S ∧ sR S x 0 = p ∧ sR S x 2 ≤ hour ∧ hour ≤ sR S x 3 := by
  unfold whereIs
  rw [whB_ge]
  constructor
  · rintro ⟨x, h1, h2, h3⟩; exact ⟨x, h1, h2, h3.2⟩
  · rintro ⟨x, h1, h2, h3⟩; exact ⟨x, h1, h2, by rw [Nat.testBit_two_pow_sub_one]; exact decide_eq_true h1, h3⟩
theorem bsy_ex {S : TS} {p a b : Nat} : ∀ n, bsyB S p a b n = true ↔ ∃ x, x < n ∧ sR S x 0 = p ∧ sR S x 2 ≤ b ∧ a ≤ sR S x 3 := by
  intro n
  induction n with
  | zero => simp [bsyB]
  | succ n ih =>
    unfold bsyB
    rw [Bool.or_eq_true, ih, decide_eq_true_eq]
    constructor
    · rintro (⟨x, h1, h2⟩ | h)
      · exact ⟨x, by omega, h2⟩
      · exact ⟨n, by omega, h⟩
    · rintro ⟨x, h1, h2⟩
      by_cases hx : x = n
      · subst hx; exact Or.inr h2
      · exact Or.inl ⟨x, by omega, h2⟩
theorem bsy_out {S : TS} (B : sB S) {p a b : Nat} (hab : a ≤ b) : bsyB S p a b (sE S) = true ↔ ∃ hour, a ≤ hour ∧ hour ≤ b ∧ 0 ≤ whereIs S p hour := by
  rw [bsy_ex]
  constructor
  · rintro ⟨x, h1, h2, h3, h4⟩
    have hr := B.2.2.2.2.1 x h1
    by_cases q : a ≤ sR S x 2
    · exact ⟨sR S x 2, q, h3, wIs_ge.mpr ⟨x, h1, h2, Nat.le_refl _, hr.2.2.1⟩⟩
    · exact ⟨a, Nat.le_refl _, hab, wIs_ge.mpr ⟨x, h1, h2, by omega, h4⟩⟩
  · rintro ⟨hour, h1, h2, h3⟩
    obtain ⟨x, q1, q2, q3, q4⟩ := wIs_ge.mp h3
    exact ⟨x, q1, q2, by omega, by omega⟩
theorem wBy_al {S : TS} {p hour : Nat} {a b : Nat} (h : ∀ i, i < sE S → (a.testBit i = b.testBit i)) : ∀ n e, e + n ≤ sE S → wBy S p hour a n e = wBy S p hour b n e := by
  intro n
  induction n with
  | zero => intro e _; rfl
  | succ n ih => intro e he; unfold wBy; rw [h e (by omega), ih (e + 1) (by omega)]
theorem wBy_ad {S : TS} {p x a b p1 hour errs : Nat} (hb : errs.testBit (sE S) = true) (hn : p1 = p → a ≤ hour → hour ≤ b → ∀ e, e < sE S → ¬ (sR S e 0 = p1 ∧ sR S e 2 ≤ hour ∧ hour ≤ sR S e 3)) : ∀ n e, e + n = sE S → wBy (adE S p x a b) p1 hour errs (n + 1) e = if p1 = p ∧ a ≤ hour ∧ hour ≤ b then (x : Int) else wBy S p1 hour errs n e := by
  have hR : ∀ e k, sR (adE S p x a b) e k = if e = sE S then (if k = 0 then p else if k = 1 then x else if k = 2 then a else b) else sR S e k := fun e k => rfl
  intro n
  induction n with
  | zero =>
    intro e he
    have e9 : e = sE S := by omega
    subst e9
    unfold wBy
    simp only [hR, if_true, hb, true_and]
    simp only [show (1 : Nat) ≠ 0 from by decide, show (2 : Nat) ≠ 0 from by decide, show (2 : Nat) ≠ 1 from by decide, show (3 : Nat) ≠ 0 from by decide, show (3 : Nat) ≠ 1 from by decide, show (3 : Nat) ≠ 2 from by decide, if_false, if_true]
    by_cases q : p1 = p ∧ a ≤ hour ∧ hour ≤ b
    · rw [if_pos q, if_pos ⟨q.1.symm, q.2⟩]
    · rw [if_neg q, if_neg (fun r => q ⟨r.1.symm, r.2⟩)]; unfold wBy; rfl
  | succ n ih =>
    intro e he
    have hne : e ≠ sE S := by omega
    show wBy (adE S p x a b) p1 hour errs (n + 1 + 1) e = _
    rw [wBy]
    simp only [hR, if_neg hne]
    rw [ih (e + 1) (by omega)]
    by_cases q : p1 = p ∧ a ≤ hour ∧ hour ≤ b
    · rw [if_pos q, if_pos q, if_neg (fun r => hn q.1 q.2.1 q.2.2 e (by omega) r.2)]
    · rw [if_neg q, if_neg q]; rfl
theorem wIs_ad {S : TS} {p x a b p1 hour : Nat} (hn : p1 = p → a ≤ hour → hour ≤ b → ∀ e, e < sE S → ¬ (sR S e 0 = p1 ∧ sR S e 2 ≤ hour ∧ hour ≤ sR S e 3)) : whereIs (adE S p x a b) p1 hour = if p1 = p ∧ a ≤ hour ∧ hour ≤ b then (x : Int) else whereIs S p1 hour := by
  unfold whereIs whereBy
  have h1 : (2 ^ sE (adE S p x a b) - 1).testBit (sE S) = true := by rw [Nat.testBit_two_pow_sub_one]; exact decide_eq_true (show sE S < sE S + 1 by omega)
  have h2 := wBy_ad (x := x) h1 hn (sE S) 0 (by omega)
  show wBy (adE S p x a b) p1 hour (2 ^ sE (adE S p x a b) - 1) (sE S + 1) 0 = _
  rw [h2, wBy_al (b := 2 ^ sE S - 1) (fun i hi => ?_) (sE S) 0 (by omega)]
  rw [Nat.testBit_two_pow_sub_one, Nat.testBit_two_pow_sub_one, decide_eq_true (show i < sE (adE S p x a b) by show i < sE S + 1; omega), decide_eq_true hi]
theorem rV_adE {h h1 : PH} {u p x a b : Nat} {U : PU} (B : sB U.1) (V : rV h u U) (hE : sE U.1 < 10) (hp : p < 8) (hb : b < 24) (hab : a ≤ b) (hn : ¬ bsyB U.1 p a b (sE U.1) = true)
    (e : ∀ y i, ¬ (y = u ∧ i = 2) → y ≠ u + 12 + sE U.1 → y ≠ u + 23 + p → h1 y i = h y i) (e2 : h1 u 2 = (sE U.1 : Int) + 1) (eR : h1 (u + 12 + sE U.1) 0 = (p : Int) ∧ h1 (u + 12 + sE U.1) 1 = (x : Int) ∧ h1 (u + 12 + sE U.1) 2 = (a : Int) ∧ h1 (u + 12 + sE U.1) 3 = (b : Int))
    (eW : ∀ hour, hour < 24 → h1 (u + 23 + p) hour = if a ≤ hour ∧ hour < b + 1 then (x : Int) else h (u + 23 + p) hour) : rV h1 u (uO U (adE U.1 p x a b)) := by
  obtain ⟨⟨v1, v2, v3, v4, v5, v6, v7, v8, v9, v10⟩, w7, w3, w6, wT, wL⟩ := V
  have hP8 := B.1
  have hC8 := B.2.1
  refine rV_mk hP8 ?_ ?_ ?_ ?_ ?_ ?_ ?_ ?_ (fun c hc => ?_) (fun y hy => ?_) (fun p1 hour q1 q2 => ?_) (fun p1 q1 => ?_) (fun p1 q1 r1 r2 => ?_)
  · rw [e u 0 (by omega) (by omega) (by omega)]; exact v1
  · rw [e u 1 (by omega) (by omega) (by omega)]; exact v2
  · rw [e2]; rfl
  · rw [e u 3 (by omega) (by omega) (by omega)]; exact w3
  · rw [e u 4 (by omega) (by omega) (by omega)]; exact v4
  · rw [e u 5 (by omega) (by omega) (by omega)]; exact v5
  · rw [e u 6 (by omega) (by omega) (by omega)]; exact w6
  · rw [e u 7 (by omega) (by omega) (by omega)]; exact w7
  · have hc2 : c < sC U.1 := hc
    rw [e _ _ (by omega) (by omega) (by omega), e _ _ (by omega) (by omega) (by omega), e _ _ (by omega) (by omega) (by omega)]
    exact v6 c hc2
  · have hy2 : y < sE U.1 + 1 := hy
    have hR : ∀ k, sR (uO U (adE U.1 p x a b)).1 y k = if y = sE U.1 then (if k = 0 then p else if k = 1 then x else if k = 2 then a else b) else sR U.1 y k := fun k => rfl
    by_cases hyn : y = sE U.1
    · subst hyn
      simp only [hR, if_true]
      exact eR
    · simp only [hR, if_neg hyn]
      rw [e _ _ (by omega) (by omega) (by omega), e _ _ (by omega) (by omega) (by omega), e _ _ (by omega) (by omega) (by omega), e _ _ (by omega) (by omega) (by omega)]
      exact v7 y (by omega)
  · show h1 (u + 23 + p1) hour = whereIs (adE U.1 p x a b) p1 hour
    rw [wIs_ad (fun r1 r2 r3 y hy r => hn ((bsy_ex _).mpr ⟨y, hy, by omega, by omega, by omega⟩))]
    by_cases hpp : p1 = p
    · subst hpp
      rw [eW hour q2]
      by_cases r : a ≤ hour ∧ hour < b + 1
      · rw [if_pos r, if_pos ⟨rfl, by omega⟩]
      · rw [if_neg r, if_neg (by omega)]; exact v8 p1 hour q1 q2
    · rw [if_neg (by omega), e _ _ (by omega) (by omega) (by omega)]; exact v8 p1 hour q1 q2
  · rw [e _ _ (by omega) (by omega) (by omega)]; exact wT p1 q1
  · rw [e _ _ (by omega) (by omega) (by omega)]; exact wL p1 q1 r1 r2
section M51
variable {g : EG} {d t s u : Nat} {h h1 : PH} {Q : EQ} {S : TS} {U : PU}
theorem cl_1 (T : isTn (tau t s) u) {p : Nat} (hp : p < 8) (k : ∀ h1 : PH, ofO (u + 32 + p) h h1 → (∀ x, x < 8 → h1 (u + 32 + p) x = 0) → eX g 0 mX6_clear 79 [(0, .ref (gA g u)), (1, .int (zI ↑p)), (2, .int (zI ↑8))] [] (tau t s) h1 Q) : ∀ n q, q + n = 8 → ∀ h1 : PH, ofO (u + 32 + p) h h1 → (∀ x, x < q → h1 (u + 32 + p) x = 0) → eX g 0 mX6_clear 58 [(0, .ref (gA g u)), (1, .int (zI ↑p)), (2, .int (zI ↑q))] [] (tau t s) h1 Q := by
  intro n
  induction n with
  | zero =>
    intro q hq h1 hO hd
    refine eR_ildn_2 dX6_clear_58 rfl ?_
    refine eR_bi (z := 8) dX6_clear_59 rfl ?_
    refine eR_icmp_ge (tgt := 79) dX6_clear_61 (by decide) (by first | exact rg_b01 _ | (unfold rg; omega)) (by first | exact rg_b01 _ | (unfold rg; omega)) (fun c61 => ?_) (fun c61 => absurd c61 (by omega))
    have e9 : q = 8 := by omega
    subst e9
    exact k h1 hO hd
  | succ n ih =>
    intro q hq h1 hO hd
    refine eR_ildn_2 dX6_clear_58 rfl ?_
    refine eR_bi (z := 8) dX6_clear_59 rfl ?_
    refine eR_icmp_ge (tgt := 79) dX6_clear_61 (by decide) (by first | exact rg_b01 _ | (unfold rg; omega)) (by first | exact rg_b01 _ | (unfold rg; omega)) (fun c61 => absurd c61 (by omega)) (fun c61 => ?_)
    refine eR_aldn_0 dX6_clear_64 rfl ?_
    refine eR_getR (i := u + 31) dX6_clear_65 gf_X6_26 T.1 rfl ?_
    refine eR_ildn_1 dX6_clear_68 rfl ?_
    refine eR_aald3 (n := p) (i := u + 32 + p) dX6_clear_69 T.2.2.2.2.2.2.2.2.1 (rfl) (by omega) (by decide) (rowsK_at (by omega)) ?_
    refine eR_ildn_2 dX6_clear_70 rfl ?_
    refine eR_ic dX6_clear_71 ?_
    refine eR_iast (n := q) dX6_clear_72 (T.2.2.2.2.2.2.2.2.2.1 p (by omega)) (rfl) (by omega) (by decide) ?_
    refine eR_iinc_2 dX6_clear_73 (by decide) rfl ?_
    refine eR_goto (tgt := 58) dX6_clear_76 (by decide) ?_
    refine ih (q + 1) (by omega) _ (ofO_w hO) (fun x hx => ?_)
    by_cases hxq : x = q
    · subst hxq; exact hU_s _ _ _ _
    · rw [hU_i _ _ _ hxq]; exact hd x (by omega)
theorem cl_2 (T : isTn (tau t s) u) {p : Nat} (hp : p < 8) (k : ∀ h1 : PH, ofO (u + 23 + p) h h1 → (∀ x, x < 24 → h1 (u + 23 + p) x = -1) → eX g 0 mX6_clear 102 [(0, .ref (gA g u)), (1, .int (zI ↑p)), (2, .int (zI ↑24))] [] (tau t s) h1 Q) : ∀ n q, q + n = 24 → ∀ h1 : PH, ofO (u + 23 + p) h h1 → (∀ x, x < q → h1 (u + 23 + p) x = -1) → eX g 0 mX6_clear 81 [(0, .ref (gA g u)), (1, .int (zI ↑p)), (2, .int (zI ↑q))] [] (tau t s) h1 Q := by
  intro n
  induction n with
  | zero =>
    intro q hq h1 hO hd
    refine eR_ildn_2 dX6_clear_81 rfl ?_
    refine eR_bi (z := 24) dX6_clear_82 rfl ?_
    refine eR_icmp_ge (tgt := 102) dX6_clear_84 (by decide) (by first | exact rg_b01 _ | (unfold rg; omega)) (by first | exact rg_b01 _ | (unfold rg; omega)) (fun c84 => ?_) (fun c84 => absurd c84 (by omega))
    have e9 : q = 24 := by omega
    subst e9
    exact k h1 hO hd
  | succ n ih =>
    intro q hq h1 hO hd
    refine eR_ildn_2 dX6_clear_81 rfl ?_
    refine eR_bi (z := 24) dX6_clear_82 rfl ?_
    refine eR_icmp_ge (tgt := 102) dX6_clear_84 (by decide) (by first | exact rg_b01 _ | (unfold rg; omega)) (by first | exact rg_b01 _ | (unfold rg; omega)) (fun c84 => absurd c84 (by omega)) (fun c84 => ?_)
    refine eR_aldn_0 dX6_clear_87 rfl ?_
    refine eR_getR (i := u + 22) dX6_clear_88 gf_X6_23 T.1 rfl ?_
    refine eR_ildn_1 dX6_clear_91 rfl ?_
    refine eR_aald3 (n := p) (i := u + 23 + p) dX6_clear_92 T.2.2.2.2.2.2.1 (rfl) (by omega) (by decide) (rowsK_at (by omega)) ?_
    refine eR_ildn_2 dX6_clear_93 rfl ?_
    refine eR_ic dX6_clear_94 ?_
    refine eR_iast (n := q) dX6_clear_95 (T.2.2.2.2.2.2.2.1 p (by omega)) (rfl) (by omega) (by decide) ?_
    refine eR_iinc_2 dX6_clear_96 (by decide) rfl ?_
    refine eR_goto (tgt := 81) dX6_clear_99 (by decide) ?_
    refine ih (q + 1) (by omega) _ (ofO_w hO) (fun x hx => ?_)
    by_cases hxq : x = q
    · subst hxq; exact hU_s _ _ _ _
    · rw [hU_i _ _ _ hxq]; exact hd x (by omega)
theorem cl_3 (T : isTn (tau t s) u) (k : ∀ h1 : PH, ofR u (u + 41) h h1 → rV h1 u uZ → Q .null (tau t s) h1) : ∀ n p, p + n = 8 → ∀ h1 : PH, ofR u (u + 41) h h1 → clF h1 u → (∀ x, x < p → clR h1 u x) → eX g 0 mX6_clear 43 [(0, .ref (gA g u)), (1, .int (zI ↑p))] [] (tau t s) h1 Q := by
  intro n
  induction n with
  | zero =>
    intro p hp h1 hO hF hR
    refine eR_ildn_1 dX6_clear_43 rfl ?_
    refine eR_bi (z := 8) dX6_clear_44 rfl ?_
    refine eR_icmp_ge (tgt := 108) dX6_clear_46 (by decide) (by first | exact rg_b01 _ | (unfold rg; omega)) (by first | exact rg_b01 _ | (unfold rg; omega)) (fun c46 => ?_) (fun c46 => absurd c46 (by omega))
    refine eR_vret dX6_clear_108 rfl ?_
    have e9 : p = 8 := by omega
    subst e9
    exact k h1 hO (rV_uZ hF hR)
  | succ n ih =>
    intro p hp h1 hO hF hR
    refine eR_ildn_1 dX6_clear_43 rfl ?_
    refine eR_bi (z := 8) dX6_clear_44 rfl ?_
    refine eR_icmp_ge (tgt := 108) dX6_clear_46 (by decide) (by first | exact rg_b01 _ | (unfold rg; omega)) (by first | exact rg_b01 _ | (unfold rg; omega)) (fun c46 => absurd c46 (by omega)) (fun c46 => ?_)
    refine eR_aldn_0 dX6_clear_49 rfl ?_
    refine eR_getR (i := u + 40) dX6_clear_50 gf_X6_29 T.1 rfl ?_
    refine eR_ildn_1 dX6_clear_53 rfl ?_
    refine eR_ic dX6_clear_54 ?_
    refine eR_iast (n := p) dX6_clear_55 T.2.2.2.2.2.2.2.2.2.2 (rfl) (by omega) (by decide) ?_
    refine eR_ic dX6_clear_56 ?_
    refine eR_istn_n2 dX6_clear_57 rfl (by decide) rfl ?_
    refine cl_1 T (by omega) (fun h2 hO2 hd2 => ?_) 8 0 (by omega) _ (ofO_rf _ _) (fun x hx => absurd hx (Nat.not_lt_zero x))
    refine eR_ic dX6_clear_79 ?_
    refine eR_istn_2 dX6_clear_80 rfl (by decide) rfl ?_
    refine cl_2 T (by omega) (fun h3 hO3 hd3 => ?_) 24 0 (by omega) _ (ofO_rf _ _) (fun x hx => absurd hx (Nat.not_lt_zero x))
    refine eR_iinc_1 dX6_clear_102 (by decide) rfl ?_
    refine eR_goto (tgt := 43) dX6_clear_105 (by decide) ?_
    refine eX_lv (lv2 := List.take 2 _) (fun q hq => List.mem_of_mem_take hq) ?_
    refine ih (p + 1) (by omega) h3 (fun a q => by rw [hO3 a (by omega), hO2 a (by omega), hU_a _ _ _ (by omega)]; exact hO a q) ?_ (fun x hx => ?_)
    · have e : ∀ i, h3 u i = h1 u i := fun i => by rw [hO3 u (by omega), hO2 u (by omega), hU_a _ _ _ (by omega)]
      unfold clF
      rw [e, e, e, e, e, e, e, e]
      exact hF
    · by_cases hxp : x = p
      · subst hxp
        refine ⟨?_, fun q hq => ?_, fun q hq => hd3 q hq⟩
        · rw [hO3 _ (by omega), hO2 _ (by omega), hU_s]
        · rw [hO3 _ (by omega)]; exact hd2 q hq
      · have hx2 := hR x (by omega)
        refine ⟨?_, fun q hq => ?_, fun q hq => ?_⟩
        · rw [hO3 _ (by omega), hO2 _ (by omega), hU_i _ _ _ hxp]; exact hx2.1
        · rw [hO3 _ (by omega), hO2 _ (by omega), hU_a _ _ _ (by omega)]; exact hx2.2.1 q hq
        · rw [hO3 _ (by omega), hO2 _ (by omega), hU_a _ _ _ (by omega)]; exact hx2.2.2 q hq
theorem tn_clear (T : isTn (tau t s) u) (k : ∀ h1 : PH, ofR u (u + 41) h h1 → rV h1 u uZ → Q .null (tau t s) h1) : eX g 0 mX6_clear 0 (lv_args 0 [.ref (gA g u)]) [] (tau t s) h Q := by
  show eX g 0 mX6_clear 0 [(0, .ref (gA g u))] [] (tau t s) h Q
  refine eR_aldn_0 dX6_clear_0 rfl ?_
  refine eR_ic dX6_clear_1 ?_
  refine eR_putI dX6_clear_2 pf_X6_35 T.1 rfl ?_
  refine eR_aldn_0 dX6_clear_5 rfl ?_
  refine eR_ic dX6_clear_6 ?_
  refine eR_putI dX6_clear_7 pf_X6_39 T.1 rfl ?_
  refine eR_aldn_0 dX6_clear_10 rfl ?_
  refine eR_ic dX6_clear_11 ?_
  refine eR_putI dX6_clear_12 pf_X6_42 T.1 rfl ?_
  refine eR_aldn_0 dX6_clear_15 rfl ?_
  refine eR_ic dX6_clear_16 ?_
  refine eR_putI dX6_clear_17 pf_X6_45 T.1 rfl ?_
  refine eR_aldn_0 dX6_clear_20 rfl ?_
  refine eR_bi (z := 20) dX6_clear_21 rfl ?_
  refine eR_putI dX6_clear_23 pf_X6_48 T.1 rfl ?_
  refine eR_aldn_0 dX6_clear_26 rfl ?_
  refine eR_ic dX6_clear_27 ?_
  refine eR_putI dX6_clear_28 pf_X6_51 T.1 rfl ?_
  refine eR_aldn_0 dX6_clear_31 rfl ?_
  refine eR_ic dX6_clear_32 ?_
  refine eR_putZ (by omega) dX6_clear_33 pf_X6_54 T.1 rfl ?_
  refine eR_aldn_0 dX6_clear_36 rfl ?_
  refine eR_ic dX6_clear_37 ?_
  refine eR_putI dX6_clear_38 pf_X6_58 T.1 rfl ?_
  refine eR_ic dX6_clear_41 ?_
  refine eR_istn_n1 dX6_clear_42 rfl (by decide) rfl ?_
  refine cl_3 T k 8 0 (by omega) _ (fun a q => ?_) ?_ (fun x hx => absurd hx (Nat.not_lt_zero x))
  · simp (disch := omega) only [hU_a]
  · unfold clF
    simp (disch := omega) only [hU_s, hU_i, and_self]
theorem tn_addCoat (T : isTn (tau t s) u) (B : sB U.1) (R : rV h u U) {p q w : Nat} (hC : sC U.1 < 8) (k : ∀ h1 : PH, ofR u (u + 41) h h1 → rV h1 u (uO U (adC U.1 p q w)) → Q .null (tau t s) h1) : eX g 0 mX6_addCoat 0 (lv_args 0 [.ref (gA g u), .int (zI ↑p), .int (zI ↑q), .int (zI ↑w)]) [] (tau t s) h Q := by
  show eX g 0 mX6_addCoat 0 [(0, .ref (gA g u)), (1, .int (zI ↑p)), (2, .int (zI ↑q)), (3, .int (zI ↑w))] [] (tau t s) h Q
  have hP8 := B.1
  have hC8 := B.2.1
  have hE10 := B.2.2.1
  have hF99 := B.2.2.2.2.2.2.1
  refine eR_aldn_0 dX6_addCoat_0 rfl ?_
  refine eR_getI dX6_addCoat_1 gf_X6_39 T.1 rfl ?_
  refine eX_pcI (R.1.2.1) ?_
  refine eR_bi (z := 8) dX6_addCoat_4 rfl ?_
  refine eR_icmp_ge (tgt := 53) dX6_addCoat_6 (by decide) (by first | exact rg_b01 _ | (unfold rg; omega)) (by first | exact rg_b01 _ | (unfold rg; omega)) (fun c6 => absurd c6 (by omega)) (fun c6 => ?_)
  refine eR_aldn_0 dX6_addCoat_9 rfl ?_
  refine eR_getR (i := u + 1) dX6_addCoat_10 gf_X6_11 T.1 rfl ?_
  refine eR_aldn_0 dX6_addCoat_13 rfl ?_
  refine eR_getI dX6_addCoat_14 gf_X6_39 T.1 rfl ?_
  refine eX_pcI (R.1.2.1) ?_
  refine eR_aald3 (n := (sC U.1)) (i := u + 2 + (sC U.1)) dX6_addCoat_17 T.2.1 (rfl) (by omega) (by decide) (rowsK_at (by omega)) ?_
  refine eR_ic dX6_addCoat_18 ?_
  refine eR_ildn_1 dX6_addCoat_19 rfl ?_
  refine eR_iast (n := 0) dX6_addCoat_20 (T.2.2.1 (sC U.1) (by omega)) (rfl) (by decide) (by decide) ?_
  refine eR_aldn_0 dX6_addCoat_21 rfl ?_
  refine eR_getR (i := u + 1) dX6_addCoat_22 gf_X6_11 T.1 rfl ?_
  refine eR_aldn_0 dX6_addCoat_25 rfl ?_
  refine eR_getI dX6_addCoat_26 gf_X6_39 T.1 rfl ?_
  refine eX_pcI (congrFun (hU_a _ _ _ (by omega)) _) ?_
  refine eX_pcI (R.1.2.1) ?_
  refine eR_aald3 (n := (sC U.1)) (i := u + 2 + (sC U.1)) dX6_addCoat_29 T.2.1 (rfl) (by omega) (by decide) (rowsK_at (by omega)) ?_
  refine eR_ic dX6_addCoat_30 ?_
  refine eR_ildn_2 dX6_addCoat_31 rfl ?_
  refine eR_iast (n := 1) dX6_addCoat_32 (T.2.2.1 (sC U.1) (by omega)) (rfl) (by decide) (by decide) ?_
  refine eR_aldn_0 dX6_addCoat_33 rfl ?_
  refine eR_getR (i := u + 10) dX6_addCoat_34 gf_X6_16 T.1 rfl ?_
  refine eR_aldn_0 dX6_addCoat_37 rfl ?_
  refine eR_getI dX6_addCoat_38 gf_X6_39 T.1 rfl ?_
  refine eX_pcI (congrFun (hU_a _ _ _ (by omega)) _) ?_
  refine eX_pcI (congrFun (hU_a _ _ _ (by omega)) _) ?_
  refine eX_pcI (R.1.2.1) ?_
  refine eR_ildn_3 dX6_addCoat_41 rfl ?_
  refine eR_iast (n := (sC U.1)) dX6_addCoat_42 T.2.2.2.1 (rfl) (by omega) (by decide) ?_
  refine eR_aldn_0 dX6_addCoat_43 rfl ?_
  refine eR_dup dX6_addCoat_44 rfl ?_
  refine eR_getI dX6_addCoat_45 gf_X6_39 T.1 rfl ?_
  refine eX_pcI (congrFun (hU_a _ _ _ (by omega)) _) ?_
  refine eX_pcI (congrFun (hU_a _ _ _ (by omega)) _) ?_
  refine eX_pcI (congrFun (hU_a _ _ _ (by omega)) _) ?_
  refine eX_pcI (R.1.2.1) ?_
  refine eR_ic dX6_addCoat_48 ?_
  refine eR_iadd dX6_addCoat_49 ?_
  refine eR_putI dX6_addCoat_50 pf_X6_39 T.1 rfl ?_
  refine eR_vret dX6_addCoat_53 rfl ?_
  exact k _ (ofR_w (ofR_w (ofR_w (ofR_w (ofR_rf _ _ h) (by omega)) (by omega)) (by omega)) (by omega)) (rV_adC R hP8 hC hE10)
theorem tn_addLiking (T : isTn (tau t s) u) (B : sB U.1) (R : rV h u U) {p q l : Nat} (hp : p < 8) (hq : q < 8) (hT : U.2.2.1 p < 256) (k : ∀ h1 : PH, ofR u (u + 41) h h1 → rV h1 u (adL U p q l) → Q .null (tau t s) h1) : eX g 0 mX6_addLiking 0 (lv_args 0 [.ref (gA g u), .int (zI ↑p), .int (zI ↑q), .int (zI ↑l)]) [] (tau t s) h Q := by
  show eX g 0 mX6_addLiking 0 [(0, .ref (gA g u)), (1, .int (zI ↑p)), (2, .int (zI ↑q)), (3, .int (zI ↑l))] [] (tau t s) h Q
  have hP8 := B.1
  have hC8 := B.2.1
  have hE10 := B.2.2.1
  have hF99 := B.2.2.2.2.2.2.1
  have hl9 : 2 ^ q ≤ 2 ^ 7 := Nat.pow_le_pow_right (by omega) (by omega)
  refine eR_aldn_0 dX6_addLiking_0 rfl ?_
  refine eR_dup dX6_addLiking_1 rfl ?_
  refine eR_getI dX6_addLiking_2 gf_X6_45 T.1 rfl ?_
  refine eX_pcI (R.2.2.1) ?_
  refine eR_ic dX6_addLiking_5 ?_
  refine eR_iadd dX6_addLiking_6 ?_
  refine eR_putI dX6_addLiking_7 pf_X6_45 T.1 rfl ?_
  refine eR_aldn_0 dX6_addLiking_10 rfl ?_
  refine eR_getR (i := u + 31) dX6_addLiking_11 gf_X6_26 T.1 rfl ?_
  refine eR_ildn_1 dX6_addLiking_14 rfl ?_
  refine eR_aald3 (n := p) (i := u + 32 + p) dX6_addLiking_15 T.2.2.2.2.2.2.2.2.1 (rfl) (by omega) (by decide) (rowsK_at (by omega)) ?_
  refine eR_ildn_2 dX6_addLiking_16 rfl ?_
  refine eR_ildn_3 dX6_addLiking_17 rfl ?_
  refine eR_iast (n := q) dX6_addLiking_18 (T.2.2.2.2.2.2.2.2.2.1 p (by omega)) (rfl) (by omega) (by decide) ?_
  refine eR_aldn_0 dX6_addLiking_19 rfl ?_
  refine eR_getR (i := u + 40) dX6_addLiking_20 gf_X6_29 T.1 rfl ?_
  refine eR_ildn_1 dX6_addLiking_23 rfl ?_
  refine eR_dup2 dX6_addLiking_24 rfl rfl ?_
  refine eR_iald (n := p) dX6_addLiking_25 T.2.2.2.2.2.2.2.2.2.2 (rfl) (by omega) (by decide) ?_
  refine eX_pcI (congrFun (hU_a _ _ _ (by omega)) _) ?_
  refine eX_pcI (congrFun (hU_a _ _ _ (by omega)) _) ?_
  refine eX_pcI (R.2.2.2.2.1 p (by omega)) ?_
  refine eR_ic dX6_addLiking_26 ?_
  refine eR_ildn_2 dX6_addLiking_27 rfl ?_
  refine eR_ishl dX6_addLiking_28 ?_
  refine eX_pcI (show (zShl 1 ↑q : Int) = ↑(2 ^ q : Nat) from by have := zShl_nat (a := 1) (k := q) (by omega) (by omega); rw [Nat.one_mul] at this; exact this) ?_
  refine eR_ior dX6_addLiking_29 ?_
  refine eX_pcI (show (zOr ↑(U.2.2.1 p) ↑(2 ^ q : Nat) : Int) = ↑(U.2.2.1 p ||| 2 ^ q : Nat) from zOr_nat (by omega) (by omega)) ?_
  refine eR_iast (n := p) dX6_addLiking_30 T.2.2.2.2.2.2.2.2.2.2 (rfl) (by omega) (by decide) ?_
  refine eR_vret dX6_addLiking_31 rfl ?_
  exact k _ (ofR_w (ofR_w (ofR_w (ofR_rf _ _ h) (by omega)) (by omega)) (by omega)) (rV_adL R hP8 hC8 hE10 hp)
theorem tn_told (T : isTn (tau t s) u) (B : sB U.1) (R : rV h u U) {p q : Nat} (hp : p < 8) (hq : q < 8) (hT : U.2.2.1 p < 256) (k : Q (.int (zI (b01 ((U.2.2.1 p).testBit q = true)))) (tau t s) h) : eX g 0 mX6_likingIsTold 0 (lv_args 0 [.ref (gA g u), .int (zI ↑p), .int (zI ↑q)]) [] (tau t s) h Q := by
  show eX g 0 mX6_likingIsTold 0 [(0, .ref (gA g u)), (1, .int (zI ↑p)), (2, .int (zI ↑q))] [] (tau t s) h Q
  have hP8 := B.1
  have hC8 := B.2.1
  have hE10 := B.2.2.1
  have hF99 := B.2.2.2.2.2.2.1
  refine eR_aldn_0 dX6_likingIsTold_0 rfl ?_
  refine eR_getR (i := u + 40) dX6_likingIsTold_1 gf_X6_29 T.1 rfl ?_
  refine eR_ildn_1 dX6_likingIsTold_4 rfl ?_
  refine eR_iald (n := p) dX6_likingIsTold_5 T.2.2.2.2.2.2.2.2.2.2 (rfl) (by omega) (by decide) ?_
  refine eX_pcI (R.2.2.2.2.1 p (by omega)) ?_
  refine eR_ildn_2 dX6_likingIsTold_6 rfl ?_
  refine eR_ishr dX6_likingIsTold_7 ?_
  refine eR_ic dX6_likingIsTold_8 ?_
  refine eR_iand dX6_likingIsTold_9 ?_
  refine eX_pcI (show (zAnd (zShr ↑(U.2.2.1 p) ↑q) 1 : Int) = b01 ((U.2.2.1 p).testBit q = true) from zBit_nat (a := U.2.2.1 p) (k := q) (by omega) (by omega)) ?_
  refine eR_if_eq (tgt := 17) dX6_likingIsTold_10 (by decide) (by first | exact rg_b01 _ | (unfold rg; omega)) (fun c10 => ?_) (fun c10 => ?_)
  · replace c10 := b01_eq0.mp c10
    refine eR_ic dX6_likingIsTold_17 ?_
    refine eR_zret dX6_likingIsTold_18 rfl (by omega) ?_
    rw [show (b01 ((U.2.2.1 p).testBit q = true) : Int) = 0 from by first | exact b01_t (by assumption) | exact b01_f (by assumption)] at k; exact k
  · replace c10 := b01_ne0.mp c10
    refine eR_ic dX6_likingIsTold_13 ?_
    refine eR_goto (tgt := 18) dX6_likingIsTold_14 (by decide) ?_
    refine eR_zret dX6_likingIsTold_18 rfl (by omega) ?_
    rw [show (b01 ((U.2.2.1 p).testBit q = true) : Int) = 1 from by first | exact b01_t (by assumption) | exact b01_f (by assumption)] at k; exact k
theorem tl_out (T : isTn (tau t s) u) (B : sB U.1) (R : rV h u U) {p a b : Nat} (hp : p < 8) (hb : b < 24) (hab : a ≤ b) (k : Q (.int (zI (b01 (bsyB U.1 p a b (sE U.1) = true)))) (tau t s) h) : ∀ n i, i + n = b + 1 → a ≤ i → (∀ x, a ≤ x → x < i → whereIs U.1 p x = -1) → eX g 0 mX6_isOutWithin 3 [(0, .ref (gA g u)), (1, .int (zI ↑p)), (2, .int (zI ↑a)), (3, .int (zI ↑b)), (4, .int (zI ↑i))] [] (tau t s) h Q := by
  intro n
  induction n with
  | zero =>
    intro i hi hai hn
    refine eR_ild_4 dX6_isOutWithin_3 ?_
    refine eR_ildn_3 dX6_isOutWithin_5 rfl ?_
    refine eR_icmp_gt (tgt := 30) dX6_isOutWithin_6 (by decide) (by first | exact rg_b01 _ | (unfold rg; omega)) (by first | exact rg_b01 _ | (unfold rg; omega)) (fun c6 => ?_) (fun c6 => absurd c6 (by omega))
    refine eR_ic dX6_isOutWithin_30 ?_
    refine eR_zret dX6_isOutWithin_31 rfl (by omega) ?_
    rw [b01_f (fun q => by obtain ⟨x, q1, q2, q3⟩ := (bsy_out B hab).mp q; have := hn x q1 (by omega); omega)] at k
    exact k
  | succ n ih =>
    intro i hi hai hn
    have hw9 := whereIs_rg B p i
    refine eR_ild_4 dX6_isOutWithin_3 ?_
    refine eR_ildn_3 dX6_isOutWithin_5 rfl ?_
    refine eR_icmp_gt (tgt := 30) dX6_isOutWithin_6 (by decide) (by first | exact rg_b01 _ | (unfold rg; omega)) (by first | exact rg_b01 _ | (unfold rg; omega)) (fun c6 => absurd c6 (by omega)) (fun c6 => ?_)
    refine eR_aldn_0 dX6_isOutWithin_9 rfl ?_
    refine eR_getR (i := u + 22) dX6_isOutWithin_10 gf_X6_23 T.1 rfl ?_
    refine eR_ildn_1 dX6_isOutWithin_13 rfl ?_
    refine eR_aald3 (n := p) (i := u + 23 + p) dX6_isOutWithin_14 T.2.2.2.2.2.2.1 (rfl) (by omega) (by decide) (rowsK_at (by omega)) ?_
    refine eR_ild_4 dX6_isOutWithin_15 ?_
    refine eR_iald (n := i) dX6_isOutWithin_17 (T.2.2.2.2.2.2.2.1 p (by omega)) (rfl) (by omega) (by decide) ?_
    refine eX_pcI (R.1.2.2.2.2.2.2.2.1 p i (by omega) (by omega)) ?_
    refine eR_ic dX6_isOutWithin_18 ?_
    refine eR_icmp_eq (tgt := 24) dX6_isOutWithin_19 (by decide) (by first | exact rg_b01 _ | (unfold rg; omega)) (by first | exact rg_b01 _ | (unfold rg; omega)) (fun c19 => ?_) (fun c19 => ?_)
    · refine eR_iinc_4 dX6_isOutWithin_24 (by decide) rfl ?_
      refine eR_goto (tgt := 3) dX6_isOutWithin_27 (by decide) ?_
      refine ih (i + 1) (by omega) (by omega) (fun x q1 q2 => ?_)
      by_cases hxi : x = i
      · subst hxi; omega
      · exact hn x q1 (by omega)
    · refine eR_ic dX6_isOutWithin_22 ?_
      refine eR_zret dX6_isOutWithin_23 rfl (by omega) ?_
      rw [b01_t ((bsy_out B hab).mpr ⟨i, by omega, by omega, by omega⟩)] at k
      exact k
theorem tn_out (T : isTn (tau t s) u) (B : sB U.1) (R : rV h u U) {p a b : Nat} (hp : p < 8) (hb : b < 24) (hab : a ≤ b) (k : Q (.int (zI (b01 (bsyB U.1 p a b (sE U.1) = true)))) (tau t s) h) : eX g 0 mX6_isOutWithin 0 (lv_args 0 [.ref (gA g u), .int (zI ↑p), .int (zI ↑a), .int (zI ↑b)]) [] (tau t s) h Q := by
  show eX g 0 mX6_isOutWithin 0 [(0, .ref (gA g u)), (1, .int (zI ↑p)), (2, .int (zI ↑a)), (3, .int (zI ↑b))] [] (tau t s) h Q
  refine eR_ildn_2 dX6_isOutWithin_0 rfl ?_
  refine eR_ist_n4 dX6_isOutWithin_1 (by decide) rfl ?_
  exact tl_out T B R hp hb hab k (b + 1 - a) a (by omega) (Nat.le_refl _) (fun x q1 q2 => by omega)
theorem tl_addE (T : isTn (tau t s) u) {h0 : PH} {p x a b : Nat} (hE : sE U.1 < 10) (hp : p < 8) (hb : b < 24) (hab : a ≤ b) (k : ∀ h1 : PH, ofO (u + 23 + p) h0 h1 → (∀ y, y < 24 → h1 (u + 23 + p) y = if a ≤ y ∧ y < b + 1 then (x : Int) else h0 (u + 23 + p) y) → Q .null (tau t s) h1) : ∀ n i, i + n = b + 1 → a ≤ i → ∀ h1 : PH, ofO (u + 23 + p) h0 h1 → (∀ y, y < 24 → h1 (u + 23 + p) y = if a ≤ y ∧ y < i then (x : Int) else h0 (u + 23 + p) y) → eX g 0 mX6_addErrand 54 [(0, .ref (gA g u)), (1, .int (zI ↑p)), (2, .int (zI ↑x)), (3, .int (zI ↑a)), (4, .int (zI ↑b)), (5, .ref (gA g (u + 12 + sE U.1))), (6, .int (zI ↑i))] [] (tau t s) h1 Q := by
  intro n
  induction n with
  | zero =>
    intro i hi hai h1 hO hd
    refine eR_ild_6 dX6_addErrand_54 ?_
    refine eR_ild_4 dX6_addErrand_56 ?_
    refine eR_icmp_gt (tgt := 77) dX6_addErrand_58 (by decide) (by first | exact rg_b01 _ | (unfold rg; omega)) (by first | exact rg_b01 _ | (unfold rg; omega)) (fun c58 => ?_) (fun c58 => absurd c58 (by omega))
    refine eR_vret dX6_addErrand_77 rfl ?_
    have e9 : i = b + 1 := by omega
    subst e9
    exact k h1 hO hd
  | succ n ih =>
    intro i hi hai h1 hO hd
    refine eR_ild_6 dX6_addErrand_54 ?_
    refine eR_ild_4 dX6_addErrand_56 ?_
    refine eR_icmp_gt (tgt := 77) dX6_addErrand_58 (by decide) (by first | exact rg_b01 _ | (unfold rg; omega)) (by first | exact rg_b01 _ | (unfold rg; omega)) (fun c58 => absurd c58 (by omega)) (fun c58 => ?_)
    refine eR_aldn_0 dX6_addErrand_61 rfl ?_
    refine eR_getR (i := u + 22) dX6_addErrand_62 gf_X6_23 T.1 rfl ?_
    refine eR_ildn_1 dX6_addErrand_65 rfl ?_
    refine eR_aald3 (n := p) (i := u + 23 + p) dX6_addErrand_66 T.2.2.2.2.2.2.1 (rfl) (by omega) (by decide) (rowsK_at (by omega)) ?_
    refine eR_ild_6 dX6_addErrand_67 ?_
    refine eR_ildn_2 dX6_addErrand_69 rfl ?_
    refine eR_iast (n := i) dX6_addErrand_70 (T.2.2.2.2.2.2.2.1 p (by omega)) (rfl) (by omega) (by decide) ?_
    refine eR_iinc_6 dX6_addErrand_71 (by decide) rfl ?_
    refine eR_goto (tgt := 54) dX6_addErrand_74 (by decide) ?_
    refine ih (i + 1) (by omega) (by omega) _ (ofO_w hO) (fun y hy => ?_)
    by_cases hyi : y = i
    · subst hyi; rw [hU_s, if_pos (by omega)]
    · rw [hU_i _ _ _ hyi, hd y hy]
      by_cases q : a ≤ y ∧ y < i
      · rw [if_pos q, if_pos (by omega)]
      · rw [if_neg q, if_neg (by omega)]
theorem tn_addErrand (T : isTn (tau t s) u) (B : sB U.1) (R : rV h u U) {p x a b : Nat} (hE : sE U.1 < 10) (hp : p < 8) (hb : b < 24) (hab : a ≤ b) (hn : ¬ bsyB U.1 p a b (sE U.1) = true) (k : ∀ h1 : PH, ofR u (u + 41) h h1 → rV h1 u (uO U (adE U.1 p x a b)) → Q .null (tau t s) h1) : eX g 0 mX6_addErrand 0 (lv_args 0 [.ref (gA g u), .int (zI ↑p), .int (zI ↑x), .int (zI ↑a), .int (zI ↑b)]) [] (tau t s) h Q := by
  show eX g 0 mX6_addErrand 0 [(0, .ref (gA g u)), (1, .int (zI ↑p)), (2, .int (zI ↑x)), (3, .int (zI ↑a)), (4, .int (zI ↑b))] [] (tau t s) h Q
  have hP8 := B.1
  have hC8 := B.2.1
  have hE10 := B.2.2.1
  have hF99 := B.2.2.2.2.2.2.1
  refine eR_aldn_0 dX6_addErrand_0 rfl ?_
  refine eR_getI dX6_addErrand_1 gf_X6_42 T.1 rfl ?_
  refine eX_pcI (R.1.2.2.1) ?_
  refine eR_bi (z := 10) dX6_addErrand_4 rfl ?_
  refine eR_icmp_ge (tgt := 77) dX6_addErrand_6 (by decide) (by first | exact rg_b01 _ | (unfold rg; omega)) (by first | exact rg_b01 _ | (unfold rg; omega)) (fun c6 => absurd c6 (by omega)) (fun c6 => ?_)
  refine eR_aldn_0 dX6_addErrand_9 rfl ?_
  refine eR_getR (i := u + 11) dX6_addErrand_10 gf_X6_20 T.1 rfl ?_
  refine eR_aldn_0 dX6_addErrand_13 rfl ?_
  refine eR_getI dX6_addErrand_14 gf_X6_42 T.1 rfl ?_
  refine eX_pcI (R.1.2.2.1) ?_
  refine eR_aald3 (n := (sE U.1)) (i := u + 12 + (sE U.1)) dX6_addErrand_17 T.2.2.2.2.1 (rfl) (by omega) (by decide) (rowsK_at (by omega)) ?_
  refine eR_ast_n5 dX6_addErrand_18 (by decide) rfl ?_
  refine eR_ald_5 dX6_addErrand_20 ?_
  refine eR_ic dX6_addErrand_22 ?_
  refine eR_ildn_1 dX6_addErrand_23 rfl ?_
  refine eR_iast (n := 0) dX6_addErrand_24 (T.2.2.2.2.2.1 (sE U.1) (by omega)) (rfl) (by decide) (by decide) ?_
  refine eR_ald_5 dX6_addErrand_25 ?_
  refine eR_ic dX6_addErrand_27 ?_
  refine eR_ildn_2 dX6_addErrand_28 rfl ?_
  refine eR_iast (n := 1) dX6_addErrand_29 (T.2.2.2.2.2.1 (sE U.1) (by omega)) (rfl) (by decide) (by decide) ?_
  refine eR_ald_5 dX6_addErrand_30 ?_
  refine eR_ic dX6_addErrand_32 ?_
  refine eR_ildn_3 dX6_addErrand_33 rfl ?_
  refine eR_iast (n := 2) dX6_addErrand_34 (T.2.2.2.2.2.1 (sE U.1) (by omega)) (rfl) (by decide) (by decide) ?_
  refine eR_ald_5 dX6_addErrand_35 ?_
  refine eR_ic dX6_addErrand_37 ?_
  refine eR_ild_4 dX6_addErrand_38 ?_
  refine eR_iast (n := 3) dX6_addErrand_40 (T.2.2.2.2.2.1 (sE U.1) (by omega)) (rfl) (by decide) (by decide) ?_
  refine eR_aldn_0 dX6_addErrand_41 rfl ?_
  refine eR_dup dX6_addErrand_42 rfl ?_
  refine eR_getI dX6_addErrand_43 gf_X6_42 T.1 rfl ?_
  refine eX_pcI (congrFun (hU_a _ _ _ (by omega)) _) ?_
  refine eX_pcI (congrFun (hU_a _ _ _ (by omega)) _) ?_
  refine eX_pcI (congrFun (hU_a _ _ _ (by omega)) _) ?_
  refine eX_pcI (congrFun (hU_a _ _ _ (by omega)) _) ?_
  refine eX_pcI (R.1.2.2.1) ?_
  refine eR_ic dX6_addErrand_46 ?_
  refine eR_iadd dX6_addErrand_47 ?_
  refine eR_putI dX6_addErrand_48 pf_X6_42 T.1 rfl ?_
  refine eR_ildn_3 dX6_addErrand_51 rfl ?_
  refine eR_ist_n6 dX6_addErrand_52 (by decide) rfl ?_
  refine tl_addE (U := U) (h0 := hU (hU (hU (hU (hU h (u + 12 + sE U.1) 0 p) (u + 12 + sE U.1) 1 x) (u + 12 + sE U.1) 2 a) (u + 12 + sE U.1) 3 b) u 2 (↑(sE U.1) + 1)) T hE hp hb hab (fun h1 hO hd => ?_) (b + 1 - a) a (by omega) (Nat.le_refl _) _ (ofO_rf _ _) (fun y hy => by rw [if_neg (by omega)])
  have E : ∀ y i, y ≠ u + 23 + p → h1 y i = (hU (hU (hU (hU (hU h (u + 12 + sE U.1) 0 p) (u + 12 + sE U.1) 1 x) (u + 12 + sE U.1) 2 a) (u + 12 + sE U.1) 3 b) u 2 (↑(sE U.1) + 1)) y i := fun y i q => by rw [hO y q]
  refine k h1 (fun y q => by rw [hO y (by omega), hU_a _ _ _ (by omega), hU_a _ _ _ (by omega), hU_a _ _ _ (by omega), hU_a _ _ _ (by omega), hU_a _ _ _ (by omega)]) (rV_adE B R hE hp hb hab hn (fun y i q1 q2 q3 => ?_) ?_ ⟨?_, ?_, ?_, ?_⟩ (fun hour q => ?_))
  · rw [E y i q3, hU_ne2 q1, hU_a _ _ _ q2, hU_a _ _ _ q2, hU_a _ _ _ q2, hU_a _ _ _ q2]
  · rw [E _ _ (by omega), hU_s]
  · rw [E _ _ (by omega), hU_ne2 (by omega), hU_i _ _ _ (by decide), hU_i _ _ _ (by decide), hU_i _ _ _ (by decide), hU_s]
  · rw [E _ _ (by omega), hU_ne2 (by omega), hU_i _ _ _ (by decide), hU_i _ _ _ (by decide), hU_s]
  · rw [E _ _ (by omega), hU_ne2 (by omega), hU_i _ _ _ (by decide), hU_s]
  · rw [E _ _ (by omega), hU_ne2 (by omega), hU_s]
  · rw [hd hour q, hU_a _ _ _ (by omega), hU_a _ _ _ (by omega), hU_a _ _ _ (by omega), hU_a _ _ _ (by omega), hU_a _ _ _ (by omega)]
def stF (u : Nat) (h h1 : PH) : Prop := ∀ a i, ¬ (a = u ∧ i = 7) → h1 a i = h a i
theorem cV_st {h h1 : PH} {u x : Nat} {S : TS} (V : cV h u S) (e : stF u h h1) (h7 : h1 u 7 = (x : Int)) (hx : x < 2 ^ 24) (hs : ∀ y, y < 24 → x.testBit y = true → 1 ≤ y ∧ ∀ p, p < sP S → whereIs S p y = whereIs S p (y - 1)) : cV h1 u S := by
  obtain ⟨v1, v2, v3, v4, v5, v6, v7, v8, v9, v10⟩ := V
  refine ⟨?_, ?_, ?_, ?_, ?_, fun c hc => ?_, fun y hy => ?_, fun p q hp hq => ?_, fun p q hp hq => ?_, x, h7, hx, hs⟩
  · rw [e u 0 (by omega)]; exact v1
  · rw [e u 1 (by omega)]; exact v2
  · rw [e u 2 (by omega)]; exact v3
  · rw [e u 4 (by omega)]; exact v4
  · rw [e u 5 (by omega)]; exact v5
  · rw [e _ 0 (by omega), e _ 1 (by omega), e _ c (by omega)]; exact v6 c hc
  · rw [e _ 0 (by omega), e _ 1 (by omega), e _ 2 (by omega), e _ 3 (by omega)]; exact v7 y hy
  · rw [e _ q (by omega)]; exact v8 p q hp hq
  · rw [e _ q (by omega)]; exact v9 p q hp hq
/-- as R, but for what is steady -/
def rS (h0 h1 : PH) (u x : Nat) (U : PU) : Prop := stF u h0 h1 ∧ h1 u 7 = (x : Int)
def rW (h : PH) (u : Nat) (U : PU) : Prop := h u 0 = (sP U.1 : Int) ∧ (∀ p hour, p < 8 → hour < 24 → h (u + 23 + p) hour = whereIs U.1 p hour)
theorem tl_st1 (T : isTn (tau t s) u) (B : sB U.1) (R : rW h u U) {i : Nat} (hi : i < 24) (hi1 : 1 ≤ i) (k1 : (∀ q, q < sP U.1 → whereIs U.1 q i = whereIs U.1 q (i - 1)) → eX g 0 mX6_markSteadyHours 66 [(0, .ref (gA g u)), (1, .int (zI ↑i))] [] (tau t s) h Q) (k0 : ∀ p : Nat, eX g 0 mX6_markSteadyHours 78 [(0, .ref (gA g u)), (1, .int (zI ↑i))] [] (tau t s) h Q) : ∀ n p, p + n = sP U.1 → (∀ q, q < p → whereIs U.1 q i = whereIs U.1 q (i - 1)) → eX g 0 mX6_markSteadyHours 17 [(0, .ref (gA g u)), (1, .int (zI ↑i)), (2, .int (zI 1)), (3, .int (zI ↑p))] [] (tau t s) h Q := by
  have hP8 := B.1
  have hC8 := B.2.1
  have hE10 := B.2.2.1
  have hF99 := B.2.2.2.2.2.2.1
  intro n
  induction n with
  | zero =>
    intro p hp hs
    refine eR_ildn_3 dX6_markSteadyHours_17 rfl ?_
    refine eR_aldn_0 dX6_markSteadyHours_18 rfl ?_
    refine eR_getI dX6_markSteadyHours_19 gf_X6_35 T.1 rfl ?_
    refine eX_pcI (R.1) ?_
    refine eR_icmp_ge (tgt := 62) dX6_markSteadyHours_22 (by decide) (by first | exact rg_b01 _ | (unfold rg; omega)) (by first | exact rg_b01 _ | (unfold rg; omega)) (fun c22 => ?_) (fun c22 => absurd c22 (by omega))
    refine eR_ildn_2 dX6_markSteadyHours_62 rfl ?_
    refine eR_if_eq (tgt := 78) dX6_markSteadyHours_63 (by decide) (by first | exact rg_b01 _ | (unfold rg; omega)) (fun c63 => absurd c63 (by decide)) (fun c63 => ?_)
    refine eX_lv (lv2 := List.take 2 _) (fun q hq => List.mem_of_mem_take hq) ?_
    exact k1 (fun q hq => hs q (by omega))
  | succ n ih =>
    intro p hp hs
    have hw9 := whereIs_rg B p i
    have hw8 := whereIs_rg B p (i - 1)
    refine eR_ildn_3 dX6_markSteadyHours_17 rfl ?_
    refine eR_aldn_0 dX6_markSteadyHours_18 rfl ?_
    refine eR_getI dX6_markSteadyHours_19 gf_X6_35 T.1 rfl ?_
    refine eX_pcI (R.1) ?_
    refine eR_icmp_ge (tgt := 62) dX6_markSteadyHours_22 (by decide) (by first | exact rg_b01 _ | (unfold rg; omega)) (by first | exact rg_b01 _ | (unfold rg; omega)) (fun c22 => absurd c22 (by omega)) (fun c22 => ?_)
    refine eR_ildn_2 dX6_markSteadyHours_25 rfl ?_
    refine eR_if_eq (tgt := 62) dX6_markSteadyHours_26 (by decide) (by first | exact rg_b01 _ | (unfold rg; omega)) (fun c26 => absurd c26 (by decide)) (fun c26 => ?_)
    refine eR_aldn_0 dX6_markSteadyHours_29 rfl ?_
    refine eR_getR (i := u + 22) dX6_markSteadyHours_30 gf_X6_23 T.1 rfl ?_
    refine eR_ildn_3 dX6_markSteadyHours_33 rfl ?_
    refine eR_aald3 (n := p) (i := u + 23 + p) dX6_markSteadyHours_34 T.2.2.2.2.2.2.1 (rfl) (by omega) (by decide) (rowsK_at (by omega)) ?_
    refine eR_ildn_1 dX6_markSteadyHours_35 rfl ?_
    refine eR_iald (n := i) dX6_markSteadyHours_36 (T.2.2.2.2.2.2.2.1 p (by omega)) (rfl) (by omega) (by decide) ?_
    refine eX_pcI (R.2 p i (by omega) (by omega)) ?_
    refine eR_aldn_0 dX6_markSteadyHours_37 rfl ?_
    refine eR_getR (i := u + 22) dX6_markSteadyHours_38 gf_X6_23 T.1 rfl ?_
    refine eR_ildn_3 dX6_markSteadyHours_41 rfl ?_
    refine eR_aald3 (n := p) (i := u + 23 + p) dX6_markSteadyHours_42 T.2.2.2.2.2.2.1 (rfl) (by omega) (by decide) (rowsK_at (by omega)) ?_
    refine eR_ildn_1 dX6_markSteadyHours_43 rfl ?_
    refine eR_ic dX6_markSteadyHours_44 ?_
    refine eR_isub dX6_markSteadyHours_45 ?_
    refine eR_iald (n := i - 1) dX6_markSteadyHours_46 (T.2.2.2.2.2.2.2.1 p (by omega)) (by omega) (by omega) (by decide) ?_
    refine eX_pcI (R.2 p (i - 1) (by omega) (by omega)) ?_
    refine eR_icmp_ne (tgt := 54) dX6_markSteadyHours_47 (by decide) (by first | exact rg_b01 _ | (unfold rg; omega)) (by first | exact rg_b01 _ | (unfold rg; omega)) (fun c47 => ?_) (fun c47 => ?_)
    · refine eR_ic dX6_markSteadyHours_54 ?_
      refine eR_istn_2 dX6_markSteadyHours_55 rfl (by decide) rfl ?_
      refine eR_iinc_3 dX6_markSteadyHours_56 (by decide) rfl ?_
      refine eR_goto (tgt := 17) dX6_markSteadyHours_59 (by decide) ?_
      refine eR_ildn_3 dX6_markSteadyHours_17 rfl ?_
      refine eR_aldn_0 dX6_markSteadyHours_18 rfl ?_
      refine eR_getI dX6_markSteadyHours_19 gf_X6_35 T.1 rfl ?_
      refine eX_pcI (R.1) ?_
      refine eR_icmp_ge (tgt := 62) dX6_markSteadyHours_22 (by decide) (by first | exact rg_b01 _ | (unfold rg; omega)) (by first | exact rg_b01 _ | (unfold rg; omega)) (fun c22b => ?_) (fun c22b => ?_)
      · refine eR_ildn_2 dX6_markSteadyHours_62 rfl ?_
        refine eR_if_eq (tgt := 78) dX6_markSteadyHours_63 (by decide) (by first | exact rg_b01 _ | (unfold rg; omega)) (fun c63b => ?_) (fun c63b => absurd c63b (by decide))
        refine eX_lv (lv2 := List.take 2 _) (fun q hq => List.mem_of_mem_take hq) ?_
        exact k0 0
      · refine eR_ildn_2 dX6_markSteadyHours_25 rfl ?_
        refine eR_if_eq (tgt := 62) dX6_markSteadyHours_26 (by decide) (by first | exact rg_b01 _ | (unfold rg; omega)) (fun c26b => ?_) (fun c26b => absurd c26b (by decide))
        refine eR_ildn_2 dX6_markSteadyHours_62 rfl ?_
        refine eR_if_eq (tgt := 78) dX6_markSteadyHours_63 (by decide) (by first | exact rg_b01 _ | (unfold rg; omega)) (fun c63b => ?_) (fun c63b => absurd c63b (by decide))
        refine eX_lv (lv2 := List.take 2 _) (fun q hq => List.mem_of_mem_take hq) ?_
        exact k0 0
    · refine eR_ic dX6_markSteadyHours_50 ?_
      refine eR_goto (tgt := 55) dX6_markSteadyHours_51 (by decide) ?_
      refine eR_istn_2 dX6_markSteadyHours_55 rfl (by decide) rfl ?_
      refine eR_iinc_3 dX6_markSteadyHours_56 (by decide) rfl ?_
      refine eR_goto (tgt := 17) dX6_markSteadyHours_59 (by decide) ?_
      refine ih (p + 1) (by omega) (fun q hq => ?_)
      by_cases hqp : q = p
      · subst hqp; omega
      · exact hs q (by omega)
theorem tl_st2 (T : isTn (tau t s) u) (B : sB U.1) (R : rV h u U) (k : ∀ h1 : PH, stF u h h1 → cV h1 u U.1 → Q .null (tau t s) h1) : ∀ n i : Nat, i + n = 24 → 1 ≤ i → ∀ h1 : PH, ∀ x : Nat, stF u h h1 → h1 u 7 = (x : Int) → x < 2 ^ i → (∀ y, y < 24 → x.testBit y = true → 1 ≤ y ∧ ∀ p, p < sP U.1 → whereIs U.1 p y = whereIs U.1 p (y - 1)) → eX g 0 mX6_markSteadyHours 7 [(0, .ref (gA g u)), (1, .int (zI ↑i))] [] (tau t s) h1 Q := by
  have hP8 := B.1
  have hC8 := B.2.1
  have hE10 := B.2.2.1
  have hF99 := B.2.2.2.2.2.2.1
  intro n
  induction n with
  | zero =>
    intro i hi hi1 h1 x hF h7 hx hs
    refine eR_ildn_1 dX6_markSteadyHours_7 rfl ?_
    refine eR_bi (z := 24) dX6_markSteadyHours_8 rfl ?_
    refine eR_icmp_ge (tgt := 84) dX6_markSteadyHours_10 (by decide) (by first | exact rg_b01 _ | (unfold rg; omega)) (by first | exact rg_b01 _ | (unfold rg; omega)) (fun c10 => ?_) (fun c10 => absurd c10 (by omega))
    refine eR_vret dX6_markSteadyHours_84 rfl ?_
    have e9 : i = 24 := by omega
    subst e9
    exact k h1 hF (cV_st R.1 hF h7 hx hs)
  | succ n ih =>
    intro i hi hi1 h1 x hF h7 hx hs
    have R1 : rW h1 u U := ⟨by rw [hF u 0 (by omega)]; exact R.1.1, fun p q hp hq => by rw [hF _ q (by omega)]; exact R.1.2.2.2.2.2.2.2.1 p q hp hq⟩
    have hp9 : 2 ^ i ≤ 2 ^ 23 := Nat.pow_le_pow_right (by omega) (by omega)
    refine eR_ildn_1 dX6_markSteadyHours_7 rfl ?_
    refine eR_bi (z := 24) dX6_markSteadyHours_8 rfl ?_
    refine eR_icmp_ge (tgt := 84) dX6_markSteadyHours_10 (by decide) (by first | exact rg_b01 _ | (unfold rg; omega)) (by first | exact rg_b01 _ | (unfold rg; omega)) (fun c10 => absurd c10 (by omega)) (fun c10 => ?_)
    refine eR_ic dX6_markSteadyHours_13 ?_
    refine eR_istn_n2 dX6_markSteadyHours_14 rfl (by decide) rfl ?_
    refine eR_ic dX6_markSteadyHours_15 ?_
    refine eR_istn_n3 dX6_markSteadyHours_16 rfl (by decide) rfl ?_
    refine tl_st1 (h := h1) T B R1 (by omega) hi1 (fun hst => ?_) (fun _ => ?_) (sP U.1) 0 (by omega) (fun q hq => absurd hq (Nat.not_lt_zero q))
    · refine eR_aldn_0 dX6_markSteadyHours_66 rfl ?_
      refine eR_dup dX6_markSteadyHours_67 rfl ?_
      refine eR_getI dX6_markSteadyHours_68 gf_X6_58 T.1 rfl ?_
      refine eX_pcI (h7) ?_
      refine eR_ic dX6_markSteadyHours_71 ?_
      refine eR_ildn_1 dX6_markSteadyHours_72 rfl ?_
      refine eR_ishl dX6_markSteadyHours_73 ?_
      refine eX_pcI (show (zShl 1 ↑i : Int) = ↑(2 ^ i : Nat) from by have := zShl_nat (a := 1) (k := i) (by omega) (by omega); rw [Nat.one_mul] at this; exact this) ?_
      refine eR_ior dX6_markSteadyHours_74 ?_
      refine eX_pcI (show (zOr ↑x ↑(2 ^ i : Nat) : Int) = ↑(x ||| 2 ^ i : Nat) from zOr_nat (by omega) (by omega)) ?_
      refine eR_putI dX6_markSteadyHours_75 pf_X6_58 T.1 rfl ?_
      refine eR_iinc_1 dX6_markSteadyHours_78 (by decide) rfl ?_
      refine eR_goto (tgt := 7) dX6_markSteadyHours_81 (by decide) ?_
      refine ih (i + 1) (by omega) (by omega) _ (x ||| 2 ^ i) (fun a j q => by rw [hU_ne2 q]; exact hF a j q) (hU_s _ _ _ _) ?_ (fun y hy hb => ?_)
      · have : 2 ^ i < 2 ^ (i + 1) := Nat.pow_lt_pow_right (by omega) (by omega)
        exact Nat.or_lt_two_pow (by omega) this
      · rw [Nat.testBit_or, Bool.or_eq_true, Nat.testBit_two_pow] at hb
        rcases hb with q | q
        · exact hs y hy q
        · have e9 : i = y := by simpa using q
          subst e9
          exact ⟨by omega, hst⟩
    · refine eR_iinc_1 dX6_markSteadyHours_78 (by decide) rfl ?_
      refine eR_goto (tgt := 7) dX6_markSteadyHours_81 (by decide) ?_
      exact ih (i + 1) (by omega) (by omega) h1 x hF h7 (by have : 2 ^ i < 2 ^ (i + 1) := Nat.pow_lt_pow_right (by omega) (by omega); omega) hs
theorem tn_mark (T : isTn (tau t s) u) (B : sB U.1) (R : rV h u U) (k : ∀ h1 : PH, stF u h h1 → cV h1 u U.1 → Q .null (tau t s) h1) : eX g 0 mX6_markSteadyHours 0 (lv_args 0 [.ref (gA g u)]) [] (tau t s) h Q := by
  show eX g 0 mX6_markSteadyHours 0 [(0, .ref (gA g u))] [] (tau t s) h Q
  refine eR_aldn_0 dX6_markSteadyHours_0 rfl ?_
  refine eR_ic dX6_markSteadyHours_1 ?_
  refine eR_putI dX6_markSteadyHours_2 pf_X6_58 T.1 rfl ?_
  refine eR_ic dX6_markSteadyHours_5 ?_
  refine eR_istn_n1 dX6_markSteadyHours_6 rfl (by decide) rfl ?_
  exact tl_st2 T B R k 23 1 (by omega) (Nat.le_refl _) _ 0 (fun a i q => hU_ne2 q) (hU_s _ _ _ _) (by decide) (fun y hy q => by simp at q)
end M51
