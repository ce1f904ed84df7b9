theorem numl_lt {T : Nat → Nat} {n lo hi' i : Nat} {x : Nat × Nat} (hi : i ≤ n) (h : num T n lo hi' i = .inl x) : 1 ≤ x.1 ∧ x.1 ≤ 4 ∧ x.2 ≤ n := by
  have := num_l hi h
  omega
/-- a town that is being read is a good one as far as it goes; who is not told likes nobody -/
def uD (U : PU) : Prop := uB U ∧ (∀ p q, sL U.1 p q ≤ 99) ∧ (∀ p q, ¬ (U.2.2.1 p).testBit q = true → sL U.1 p q = 0) ∧ (∀ p, U.2.2.1 p < 256)
theorem uD_Z : uD uZ := ⟨⟨⟨by decide, by decide, by decide, fun c hc => absurd hc (Nat.not_lt_zero c), fun c hc => absurd hc (Nat.not_lt_zero c), by decide, by decide, fun _ _ _ _ => Nat.zero_le _⟩, rfl, by decide, by decide⟩, fun _ _ => Nat.zero_le _, fun _ _ _ => rfl, fun _ => (by decide : (0 : Nat) < 256)⟩
theorem uD_P {U : PU} {v : Nat} (u : uD U) (h0 : sP U.1 = 0) (hv : v ≤ 8) : uD (uO U (adP U.1 v)) := by
  obtain ⟨⟨⟨b1, b2, b3, b4, b5, b6, b7, b8⟩, u2, u3, u4⟩, u5, u6⟩ := u
  refine ⟨⟨⟨hv, b2, b3, fun c hc => ?_, fun e he => ?_, b6, b7, fun p q _ _ => u5 p q⟩, u2, u3, u4⟩, u5, u6⟩
  · have := (b4 c hc).1; omega
  · have := (b5 e he).1; omega
theorem uD_C {U : PU} {p q w : Nat} (u : uD U) (hc8 : sC U.1 < 8) (hp : p < sP U.1) (hq : q < sP U.1) (hpq : p ≠ q) (hw : 1 ≤ w ∧ w ≤ 99) : uD (uO U (adC U.1 p q w)) := by
  obtain ⟨⟨⟨b1, b2, b3, b4, b5, b6, b7, b8⟩, u2, u3, u4⟩, u5, u6⟩ := u
  refine ⟨⟨⟨b1, hc8, b3, fun c hc => ?_, b5, ?_, b7, b8⟩, u2, u3, u4⟩, u5, u6⟩
  · have hc' : c < sC U.1 + 1 := hc
    show (if c = sC U.1 then (if (0 : Nat) = 0 then p else q) else sO U.1 c 0) < sP U.1 ∧ (if c = sC U.1 then (if (1 : Nat) = 0 then p else q) else sO U.1 c 1) < sP U.1 ∧ (if c = sC U.1 then (if (0 : Nat) = 0 then p else q) else sO U.1 c 0) ≠ (if c = sC U.1 then (if (1 : Nat) = 0 then p else q) else sO U.1 c 1) ∧ 1 ≤ (if c = sC U.1 then w else sW U.1 c) ∧ (if c = sC U.1 then w else sW U.1 c) ≤ 99
    by_cases hcc : c = sC U.1
    · rw [if_pos hcc, if_pos hcc, if_pos hcc]; exact ⟨hp, hq, hpq, hw⟩
    · rw [if_neg hcc, if_neg hcc, if_neg hcc]; exact b4 c (by omega)
  · show sK U.1 < 2 ^ (sC U.1 + 1)
    rw [u2]; exact Nat.two_pow_pos _
theorem uD_E {U : PU} {p x a b : Nat} (u : uD U) (hc8 : sE U.1 < 10) (hp : p < sP U.1) (hx : x < 6) (hab : a ≤ b) (hb : b < 24) : uD (uO U (adE U.1 p x a b)) := by
  obtain ⟨⟨⟨b1, b2, b3, b4, b5, b6, b7, b8⟩, u2, u3, u4⟩, u5, u6⟩ := u
  refine ⟨⟨⟨b1, b2, hc8, b4, fun e he => ?_, b6, b7, b8⟩, u2, u3, u4⟩, u5, u6⟩
  have he' : e < sE U.1 + 1 := he
  show (if e = sE U.1 then (if (0 : Nat) = 0 then p else if (0 : Nat) = 1 then x else if (0 : Nat) = 2 then a else b) else sR U.1 e 0) < sP U.1 ∧ (if e = sE U.1 then (if (1 : Nat) = 0 then p else if (1 : Nat) = 1 then x else if (1 : Nat) = 2 then a else b) else sR U.1 e 1) < 6 ∧ (if e = sE U.1 then (if (2 : Nat) = 0 then p else if (2 : Nat) = 1 then x else if (2 : Nat) = 2 then a else b) else sR U.1 e 2) ≤ (if e = sE U.1 then (if (3 : Nat) = 0 then p else if (3 : Nat) = 1 then x else if (3 : Nat) = 2 then a else b) else sR U.1 e 3) ∧ (if e = sE U.1 then (if (3 : Nat) = 0 then p else if (3 : Nat) = 1 then x else if (3 : Nat) = 2 then a else b) else sR U.1 e 3) < 24
  by_cases hcc : e = sE U.1
  · rw [if_pos hcc, if_pos hcc, if_pos hcc, if_pos hcc]; exact ⟨hp, hx, hab, hb⟩
  · rw [if_neg hcc, if_neg hcc, if_neg hcc, if_neg hcc]; exact b5 e (by omega)
theorem uD_L {U : PU} {p q l : Nat} (u : uD U) (hn : U.2.1 < 30) (hq : q < 8) (hl : l ≤ 99) : uD (adL U p q l) := by
  obtain ⟨⟨⟨b1, b2, b3, b4, b5, b6, b7, b8⟩, u2, u3, u4⟩, u5, u6, u7⟩ := u
  have k5 : ∀ p' q', (if p' = p ∧ q' = q then l else sL U.1 p' q') ≤ 99 := fun p' q' => by
    split
    · exact hl
    · exact u5 p' q'
  refine ⟨⟨⟨b1, b2, b3, b4, b5, b6, b7, fun p' q' _ _ => k5 p' q'⟩, u2, hn, u4⟩, k5, fun p' q' ht => ?_, fun p' => ?_⟩
  · have ht' : ¬ (if p' = p then U.2.2.1 p ||| 2 ^ q else U.2.2.1 p').testBit q' = true := ht
    show (if p' = p ∧ q' = q then l else sL U.1 p' q') = 0
    by_cases h1 : p' = p
    · subst h1
      rw [if_pos rfl, Nat.testBit_or, Nat.testBit_two_pow] at ht'
      by_cases h2 : q' = q
      · exact absurd (by simp [h2]) ht'
      · rw [if_neg (fun e => h2 e.2)]
        exact u6 _ _ (fun e => ht' (by rw [e]; rfl))
    · rw [if_neg h1] at ht'
      rw [if_neg (fun e => h1 e.1)]
      exact u6 _ _ ht'
  · show (if p' = p then U.2.2.1 p ||| 2 ^ q else U.2.2.1 p') < 256
    split
    · exact Nat.or_lt_two_pow (n := 8) (u7 p) (Nat.pow_lt_pow_right (by omega) hq)
    · exact u7 p'
theorem uD_F {U : PU} {v : Nat} (u : uD U) (hv : v ≤ 99) : uD (adF U v) := by
  obtain ⟨⟨⟨b1, b2, b3, b4, b5, b6, b7, b8⟩, u2, u3, u4⟩, u5, u6⟩ := u
  exact ⟨⟨⟨b1, b2, b3, b4, b5, b6, hv, b8⟩, u2, u3, Nat.le_refl _⟩, u5, u6⟩
/-- a clause's outcome is a good one -/
def okR (n i : Nat) (r : RU) : Prop := match r with
  | .inl x => 1 ≤ x.1 ∧ x.1 ≤ 4 ∧ x.2 ≤ n
  | .inr x => uD x.1 ∧ i ≤ x.2 ∧ x.2 ≤ n
theorem okR_l {n i : Nat} {x : Nat × Nat} (h : 1 ≤ x.1 ∧ x.1 ≤ 4 ∧ x.2 ≤ n) : okR n i (.inl x) := h
theorem rdP_ok {T : Nat → Nat} {n i : Nat} {U : PU} (u : uD U) (h0 : sP U.1 = 0) (hin : i ≤ n) : okR n i (rdP T n U i) := by
  have hi9 := sk_le (f := isB) (T := T) hin
  unfold rdP
  cases e : num T n 1 8 i with
  | inl y => exact numl_lt hin e
  | inr y =>
    have r := num_r hin e
    exact ⟨uD_P u h0 r.2.1, by simp only; omega, by simp only; omega⟩
theorem rdF_ok {T : Nat → Nat} {n i : Nat} {U : PU} (u : uD U) (hin : i ≤ n) : okR n i (rdF T n U i) := by
  have hi9 := sk_le (f := isB) (T := T) hin
  unfold rdF
  cases e : num T n 0 99 i with
  | inl y => exact numl_lt hin e
  | inr y =>
    have r := num_r hin e
    exact ⟨uD_F u r.2.1, by simp only; omega, by simp only; omega⟩
theorem num_i {T : Nat → Nat} {n lo hi' i : Nat} {x : Nat × Nat × Nat} (hi : i ≤ n) (h : num T n lo hi' i = .inr x) : i ≤ x.2.1 ∧ x.2.1 < x.2.2 ∧ x.2.2 ≤ n := by
  have := sk_le (f := isB) (T := T) hi
  have := num_r hi h
  omega
theorem rdC_ok {T : Nat → Nat} {n i : Nat} {U : PU} (u : uD U) (hP : 1 ≤ sP U.1) (hc8 : sC U.1 < 8) (hin : i ≤ n) : okR n i (rdC T n U i) := by
  unfold rdC
  cases e : num T n 0 (sP U.1 - 1) i with
  | inl y => exact numl_lt hin e
  | inr y =>
    have r := num_r hin e
    have r' := num_i hin e
    simp only
    cases e2 : num T n 0 (sP U.1 - 1) y.2.2 with
    | inl z => exact numl_lt (by omega) e2
    | inr z =>
      have r2 := num_r (by omega) e2
      have r2' := num_i (by omega) e2
      simp only
      split
      · exact okR_l ⟨by simp only; omega, by simp only; omega, by simp only; omega⟩
      · rename_i hne
        cases e3 : num T n 1 99 z.2.2 with
        | inl x => exact numl_lt (by omega) e3
        | inr x =>
          have r3 := num_r (by omega) e3
          have r3' := num_i (by omega) e3
          exact ⟨uD_C u hc8 (by omega) (by omega) hne ⟨r3.1, r3.2.1⟩, by simp only; omega, by simp only; omega⟩
theorem rdL_ok {T : Nat → Nat} {n i : Nat} {U : PU} (u : uD U) (hP : 1 ≤ sP U.1) (hc8 : U.2.1 < 30) (hin : i ≤ n) : okR n i (rdL T n U i) := by
  have hP8 := u.1.1.1
  unfold rdL
  cases e : num T n 0 (sP U.1 - 1) i with
  | inl y => exact numl_lt hin e
  | inr y =>
    have r := num_r hin e
    have r' := num_i hin e
    simp only
    cases e2 : num T n 0 (sP U.1 - 1) y.2.2 with
    | inl z => exact numl_lt (by omega) e2
    | inr z =>
      have r2 := num_r (by omega) e2
      have r2' := num_i (by omega) e2
      simp only
      split
      · exact okR_l ⟨by simp only; omega, by simp only; omega, by simp only; omega⟩
      · rename_i hne
        cases e3 : num T n 0 99 z.2.2 with
        | inl x => exact numl_lt (by omega) e3
        | inr x =>
          have r3 := num_r (by omega) e3
          have r3' := num_i (by omega) e3
          exact ⟨uD_L u hc8 (by omega) r3.2.1, by simp only; omega, by simp only; omega⟩
theorem rdG_ok {T : Nat → Nat} {n i : Nat} {U : PU} (u : uD U) (hP : 1 ≤ sP U.1) (hc8 : sE U.1 < 10) (hin : i ≤ n) : okR n i (rdG T n U i) := by
  unfold rdG
  cases e : num T n 0 (sP U.1 - 1) i with
  | inl y => exact numl_lt hin e
  | inr y =>
    have r := num_r hin e
    have r' := num_i hin e
    simp only
    cases e2 : num T n 0 5 y.2.2 with
    | inl z => exact numl_lt (by omega) e2
    | inr z =>
      have r2 := num_r (by omega) e2
      have r2' := num_i (by omega) e2
      simp only
      cases e3 : num T n 0 23 z.2.2 with
      | inl x => exact numl_lt (by omega) e3
      | inr x =>
        have r3 := num_r (by omega) e3
        have r3' := num_i (by omega) e3
        simp only
        cases e4 : num T n 0 23 x.2.2 with
        | inl v => exact numl_lt (by omega) e4
        | inr v =>
          have r4 := num_r (by omega) e4
          have r4' := num_i (by omega) e4
          simp only
          split
          · exact okR_l ⟨by simp only; omega, by simp only; omega, by simp only; omega⟩
          · rename_i hne
            exact ⟨uD_E u hc8 (by omega) (by omega) (by rcases Nat.lt_or_ge v.1 x.1 with q | q; exact absurd (Or.inl q) hne; exact q) (by omega), by simp only; omega, by simp only; omega⟩
theorem okR_i {n i j : Nat} {r : RU} (h : okR n j r) (hij : i ≤ j) : okR n i r := by
  cases r with
  | inl x => exact h
  | inr x => exact ⟨h.1, by have := h.2.1; omega, h.2.2⟩
theorem clz_ok {T : Nat → Nat} {n i : Nat} {U : PU} (u : uD U) (hin : i ≤ n) : okR n i (clz T n U i) := by
  have he := sk_le (f := isL) (T := T) hin
  have bad : ∀ f : Nat, 1 ≤ f → f ≤ 4 → okR n i (.inl (f, i)) := fun f h1 h2 => okR_l ⟨h1, h2, hin⟩
  unfold clz
  (repeat' split) <;> first | exact bad _ (by decide) (by decide) | exact okR_i (rdP_ok u (by omega) he.2) he.1 | exact okR_i (rdC_ok u (by omega) (by omega) he.2) he.1 | exact okR_i (rdG_ok u (by omega) (by omega) he.2) he.1 | exact okR_i (rdL_ok u (by omega) (by omega) he.2) he.1 | exact okR_i (rdF_ok u he.2) he.1
theorem smi_ok {T : Nat → Nat} {n i : Nat} {r : RU} (h : okR n i r) : okR n (i + 1) (smi T n r) := by
  cases r with
  | inl x => exact h
  | inr x =>
    have hs := sk_le (f := isB) (T := T) h.2.2
    have h2 := h.2.1
    unfold smi
    simp only
    split
    · exact ⟨h.1, by simp only; omega, by simp only; omega⟩
    · exact okR_l ⟨by simp only; omega, by simp only; omega, hs.2⟩
theorem prs_end {T : Nat → Nat} {n : Nat} {U : PU} {i : Nat} (h : ¬ sk isB T n i < n) (f : Nat) : prs T n f U i = .inr (U, i) := by
  cases f with
  | zero => rfl
  | succ f => rw [prs, if_neg h]
theorem prs_l {T : Nat → Nat} {n : Nat} {U : PU} {i f : Nat} {x : Nat × Nat} (h : sk isB T n i < n) (e : smi T n (clz T n U (sk isB T n i)) = .inl x) : prs T n (f + 1) U i = .inl x := by
  rw [prs, if_pos h, e]
theorem prs_r {T : Nat → Nat} {n : Nat} {U : PU} {i f : Nat} {x : PU × Nat} (h : sk isB T n i < n) (e : smi T n (clz T n U (sk isB T n i)) = .inr x) : prs T n (f + 1) U i = prs T n f x.1 x.2 := by
  rw [prs, if_pos h, e]
theorem sk_sk {f : Nat → Bool} {T : Nat → Nat} {n i : Nat} (hi : i ≤ n) : sk f T n (sk f T n i) = sk f T n i := sk_n (sk_sp f T n (n - i) i (by omega)).2.2.1
theorem prs_ok {T : Nat → Nat} {n : Nat} : ∀ f i U, i ≤ n → uD U → okR n 0 (prs T n f U i) := by
  intro f
  induction f with
  | zero => intro i U hi u; exact ⟨u, Nat.zero_le _, hi⟩
  | succ f ih =>
    intro i U hi u
    by_cases hs : sk isB T n i < n
    · have h1 := smi_ok (T := T) (n := n) (clz_ok (T := T) (n := n) u (i := sk isB T n i) (by omega))
      cases e : smi T n (clz T n U (sk isB T n i)) with
      | inl x => rw [prs_l hs e]; rw [e] at h1; exact h1
      | inr x => rw [prs_r hs e]; rw [e] at h1; exact ih _ _ h1.2.2 h1.1
    · rw [prs_end hs]; exact ⟨u, Nat.zero_le _, hi⟩
/-- how town's loop has ended -/
def pZ (h h1 : PH) (r : RU) : Prop := pF h h1 ∧ match r with
  | .inl x => h1 205 17 = (x.1 : Int) ∧ h1 205 18 = (x.2 : Int)
  | .inr x => pV h1 x.1 ∧ h1 205 17 = 0 ∧ h1 205 18 = h 205 18
theorem pZ_l {h h1 : PH} {r : RU} {x : Nat × Nat} (e : r = .inl x) (p : pF h h1) (o : h1 205 17 = (x.1 : Int)) (f : h1 205 18 = (x.2 : Int)) : pZ h h1 r := by rw [e]; exact ⟨p, o, f⟩
theorem pZ_r {h h1 : PH} {r : RU} {U : PU} {j : Nat} (e : r = .inr (U, j)) (p : pF h h1) (v : pV h1 U) (o : h1 205 17 = 0) (f : h1 205 18 = h 205 18) : pZ h h1 r := by rw [e]; exact ⟨p, v, o, f⟩
section M37
variable {g : EG} {d t s : Nat} {h h0 : PH} {Q : EQ} {T : Nat → Nat} {n : Nat} {U : PU}
theorem lp_town (B : tB T n) : ∀ f i U h1, n ≤ i + f → i ≤ n → uD U → mT h1 T n → pF h h1 → pV h1 U → h1 205 14 = (i : Int) → h1 205 17 = 0 → h1 205 18 = h 205 18 → (∀ h2 : PH, pZ h h2 (prs T n f U i) → eX g 5 mX9_town 68 [(0, .ref (gA g 205))] [] (tau t s) h2 Q) → eX g 5 mX9_town 4 [(0, .ref (gA g 205))] [] (tau t s) h1 Q := by
  have hn9 := B.1
  intro f
  induction f with
  | zero =>
    intro i U h1 hf hin u Th1 Ph1 Vh1 Ah1 Oh1 Xh1 k
    have hc9 := chZ_rg (j := sk isB T n i) B
    have hj9 := sk_le (f := isB) (T := T) hin
    have hj : ¬ sk isB T n i < n := by omega
    · refine eR_aldn_0 dX9_town_4 rfl ?_
      refine eR_getI dX9_town_5 gf_X9_85 th_205 rfl ?_
      refine eX_pcI (Oh1) ?_
      refine eR_if_ne (tgt := 68) dX9_town_8 (by decide) (by first | exact rg_b01 _ | (unfold rg; omega)) (fun c8 => absurd c8 (by decide)) (fun c8 => ?_)
      refine eR_aldn_0 dX9_town_11 rfl ?_
      refine eR_callVi [] rfl dX9_town_12 ok_mX9_here kw_966 rfl rfl th_205 rfl (Nat.le_of_ble_eq_true rfl) (d' := 0) (by decide) (Nat.le_of_ble_eq_true rfl) ?_
      refine sp_here (n := n) (i := i) B Th1 (by omega) Ah1 ?_
      refine eR_if_lt (tgt := 68) dX9_town_15 (by decide) (by have := hc9; unfold rg; omega) (fun c15 => ?_) (fun c15 => absurd c15 (by rw [chZ_n hj]; decide))
      exact k _ (pZ_r (prs_end hj _) (pF_w Ph1 (by unfold pS; omega)) (pV_w Vh1 (by unfold vS; omega)) ((hU_ne (by omega)).trans Oh1) ((hU_ne (by omega)).trans Xh1))
  | succ f ih =>
    intro i U h1 hf hin u Th1 Ph1 Vh1 Ah1 Oh1 Xh1 k
    have hc9 := chZ_rg (j := sk isB T n i) B
    have hj9 := sk_le (f := isB) (T := T) hin
    by_cases hj : sk isB T n i < n
    · have ok3 := clz_ok (T := T) (n := n) u (i := sk isB T n i) (by omega)
      have hc6 := chZ_y (T := T) hj
      refine eR_aldn_0 dX9_town_4 rfl ?_
      refine eR_getI dX9_town_5 gf_X9_85 th_205 rfl ?_
      refine eX_pcI (Oh1) ?_
      refine eR_if_ne (tgt := 68) dX9_town_8 (by decide) (by first | exact rg_b01 _ | (unfold rg; omega)) (fun c8 => absurd c8 (by decide)) (fun c8 => ?_)
      refine eR_aldn_0 dX9_town_11 rfl ?_
      refine eR_callVi [] rfl dX9_town_12 ok_mX9_here kw_966 rfl rfl th_205 rfl (Nat.le_of_ble_eq_true rfl) (d' := 0) (by decide) (Nat.le_of_ble_eq_true rfl) ?_
      refine sp_here (n := n) (i := i) B Th1 (by omega) Ah1 ?_
      refine eR_if_lt (tgt := 68) dX9_town_15 (by decide) (by have := hc9; unfold rg; omega) (fun c15 => absurd c15 (by omega)) (fun c15 => ?_)
      refine eR_aldn_0 dX9_town_18 rfl ?_
      obtain ⟨g97_, hg97_⟩ : ∃ g9, g9 = hU h1 205 14 ↑(sk isB T n i) := ⟨_, rfl⟩
      rw [← hg97_]
      have Tg97_ : mT g97_ T n := by rw [hg97_]; exact mT_w Th1 (by omega) (by decide)
      have Pg97_ : pF h g97_ := by rw [hg97_]; exact pF_w Ph1 (by unfold pS; omega)
      have Vg97_ : pV g97_ U := by rw [hg97_]; exact pV_w Vh1 (by unfold vS; omega)
      have Ag97_ : g97_ 205 14 = (((sk isB T n i) : Nat) : Int) := by rw [hg97_]; exact hU_s _ _ _ _
      have Og97_ : g97_ 205 17 = (0 : Int) := by rw [hg97_, hU_ne (by omega)]; exact Oh1
      have Xg97_ : g97_ 205 18 = (h 205 18 : Int) := by rw [hg97_, hU_ne (by omega)]; exact Xh1
      refine eR_callVv [] rfl dX9_town_19 ok_mX9_takeClause kw_970 rfl rfl th_205 rfl (Nat.le_of_ble_eq_true rfl) (d' := 4) (by decide) (Nat.le_of_ble_eq_true rfl) ?_
      refine sp_takeClause (U := U) (i := sk isB T n i) B Tg97_ u.1 Vg97_ (by omega) Ag97_ Og97_ (sk_sk hin) (fun h3 r3 => ?_)
      have Ph3 : pF h h3 := pF_tr Pg97_ r3.1
      have Th3 : mT h3 T n := mT_F Tg97_ r3.1
      cases er : clz T n U (sk isB T n i) with
      | inl x =>
        rw [er] at r3 ok3
        have Oh3 : h3 205 17 = ((x.1 : Nat) : Int) := r3.2.1
        have Xh3 : h3 205 18 = ((x.2 : Nat) : Int) := r3.2.2
        have okx : 1 ≤ x.1 ∧ x.1 ≤ 4 ∧ x.2 ≤ n := ok3
        refine eR_aldn_0 dX9_town_22 rfl ?_
        refine eR_getI dX9_town_23 gf_X9_85 th_205 rfl ?_
        refine eX_pcI (Oh3) ?_
        refine eR_if_ne (tgt := 4) dX9_town_26 (by decide) (by first | exact rg_b01 _ | (unfold rg; omega)) (fun c26 => ?_) (fun c26 => absurd c26 (by omega))
        refine eR_aldn_0 dX9_town_4 rfl ?_
        refine eR_getI dX9_town_5 gf_X9_85 th_205 rfl ?_
        refine eX_pcI (Oh3) ?_
        refine eR_if_ne (tgt := 68) dX9_town_8 (by decide) (by first | exact rg_b01 _ | (unfold rg; omega)) (fun c8 => ?_) (fun c8 => absurd c8 (by omega))
        exact k h3 (pZ_l (prs_l hj (by rw [er]; rfl)) Ph3 Oh3 Xh3)
      | inr x =>
        rw [er] at r3 ok3
        have Vh3 : pV h3 x.1 := r3.2.1
        have Ah3 : h3 205 14 = ((x.2 : Nat) : Int) := r3.2.2.1
        have Oh3 : h3 205 17 = (0 : Int) := r3.2.2.2.1
        have Xh3 : h3 205 18 = (h 205 18 : Int) := r3.2.2.2.2.trans Xg97_
        have ux : uD x.1 := ok3.1
        have hx2 : x.2 ≤ n := ok3.2.2
        have hx1 : sk isB T n i ≤ x.2 := ok3.2.1
        have hs9 := sk_le (f := isB) (T := T) hx2
        have hc8 := chZ_rg (j := sk isB T n x.2) B
        by_cases hs : sk isB T n x.2 < n ∧ T (sk isB T n x.2) = 59
        · refine eR_aldn_0 dX9_town_22 rfl ?_
          refine eR_getI dX9_town_23 gf_X9_85 th_205 rfl ?_
          refine eX_pcI (Oh3) ?_
          refine eR_if_ne (tgt := 4) dX9_town_26 (by decide) (by first | exact rg_b01 _ | (unfold rg; omega)) (fun c26 => absurd c26 (by decide)) (fun c26 => ?_)
          refine eR_aldn_0 dX9_town_29 rfl ?_
          refine eR_aldn_0 dX9_town_30 rfl ?_
          refine eR_callVi [] rfl dX9_town_31 ok_mX9_here kw_966 rfl rfl th_205 rfl (Nat.le_of_ble_eq_true rfl) (d' := 0) (by decide) (Nat.le_of_ble_eq_true rfl) ?_
          refine sp_here (n := n) (i := x.2) B Th3 (by omega) Ah3 ?_
          have hc7 : chZ T n (sk isB T n x.2) = 59 := by
            rw [chZ_y hs.1]; omega
          refine eR_bi (z := 59) dX9_town_34 rfl ?_
          refine eR_icmp_ne (tgt := 43) dX9_town_36 (by decide) (by first | exact rg_b01 _ | (unfold rg; omega)) (by first | exact rg_b01 _ | (unfold rg; omega)) (fun c36 => absurd c36 (by omega)) (fun c36 => ?_)
          refine eR_ic dX9_town_39 ?_
          refine eR_goto (tgt := 44) dX9_town_40 (by decide) ?_
          refine eR_ic dX9_town_44 ?_
          refine eR_aldn_0 dX9_town_45 rfl ?_
          refine eR_getI dX9_town_46 gf_X9_82 th_205 rfl ?_
          refine eX_pcI (hU_s _ _ _ _) ?_
          obtain ⟨g98_, hg98_⟩ : ∃ g9, g9 = hU h3 205 14 ↑(sk isB T n x.2) := ⟨_, rfl⟩
          rw [← hg98_]
          have Tg98_ : mT g98_ T n := by rw [hg98_]; exact mT_w Th3 (by omega) (by decide)
          have Pg98_ : pF h g98_ := by rw [hg98_]; exact pF_w Ph3 (by unfold pS; omega)
          have Vg98_ : pV g98_ x.1 := by rw [hg98_]; exact pV_w Vh3 (by unfold vS; omega)
          have Ag98_ : g98_ 205 14 = (((sk isB T n x.2) : Nat) : Int) := by rw [hg98_]; exact hU_s _ _ _ _
          have Og98_ : g98_ 205 17 = (0 : Int) := by rw [hg98_, hU_ne (by omega)]; exact Oh3
          have Xg98_ : g98_ 205 18 = (h 205 18 : Int) := by rw [hg98_, hU_ne (by omega)]; exact Xh3
          refine eR_callVi [_, _, _] rfl dX9_town_49 ok_mX9_want kw_984 rfl rfl th_205 rfl (Nat.le_of_ble_eq_true rfl) (d' := 0) (by decide) (Nat.le_of_ble_eq_true rfl) ?_
          refine sp_want_y (nb := 1) Og98_ ?_
          refine eR_if_eq (tgt := 4) dX9_town_52 (by decide) (by first | exact rg_b01 _ | (unfold rg; omega)) (fun c52 => absurd c52 (by decide)) (fun c52 => ?_)
          refine eR_aldn_0 dX9_town_55 rfl ?_
          refine eR_dup dX9_town_56 rfl ?_
          refine eR_getI dX9_town_57 gf_X9_82 th_205 rfl ?_
          refine eX_pcI (Ag98_) ?_
          refine eR_ic dX9_town_60 ?_
          refine eR_iadd dX9_town_61 ?_
          refine eR_putI dX9_town_62 pf_X9_82 th_205 rfl ?_
          refine eR_goto (tgt := 4) dX9_town_65 (by decide) ?_
          rw [show ((↑(sk isB T n x.2) : Int) + 1) = ((sk isB T n x.2 + 1 : Nat) : Int) from rfl]
          have e7 : prs T n (f + 1) U i = prs T n f x.1 (sk isB T n x.2 + 1) := prs_r (x := (x.1, sk isB T n x.2 + 1)) hj (by rw [er]; unfold smi; simp only; rw [if_pos hs])
          rw [e7] at k
          refine ih (sk isB T n x.2 + 1) x.1 _ (by omega) (by omega) ux (mT_w Tg98_ (by omega) (by decide)) (pF_w Pg98_ (by unfold pS; omega)) (pV_w Vg98_ (by unfold vS; omega)) (hU_s _ _ _ _) ((hU_ne (by omega)).trans Og98_) ((hU_ne (by omega)).trans Xg98_) k
        · refine eR_aldn_0 dX9_town_22 rfl ?_
          refine eR_getI dX9_town_23 gf_X9_85 th_205 rfl ?_
          refine eX_pcI (Oh3) ?_
          refine eR_if_ne (tgt := 4) dX9_town_26 (by decide) (by first | exact rg_b01 _ | (unfold rg; omega)) (fun c26 => absurd c26 (by decide)) (fun c26 => ?_)
          refine eR_aldn_0 dX9_town_29 rfl ?_
          refine eR_aldn_0 dX9_town_30 rfl ?_
          refine eR_callVi [] rfl dX9_town_31 ok_mX9_here kw_966 rfl rfl th_205 rfl (Nat.le_of_ble_eq_true rfl) (d' := 0) (by decide) (Nat.le_of_ble_eq_true rfl) ?_
          refine sp_here (n := n) (i := x.2) B Th3 (by omega) Ah3 ?_
          have hc7 : chZ T n (sk isB T n x.2) ≠ 59 := by
            rcases Nat.lt_or_ge (sk isB T n x.2) n with q | q
            · rw [chZ_y q]; intro q2; exact hs ⟨q, by omega⟩
            · rw [chZ_n (by omega)]; decide
          refine eR_bi (z := 59) dX9_town_34 rfl ?_
          refine eR_icmp_ne (tgt := 43) dX9_town_36 (by decide) (by first | exact rg_b01 _ | (unfold rg; omega)) (by first | exact rg_b01 _ | (unfold rg; omega)) (fun c36 => ?_) (fun c36 => absurd c36 (by omega))
          refine eR_ic dX9_town_43 ?_
          refine eR_ic dX9_town_44 ?_
          refine eR_aldn_0 dX9_town_45 rfl ?_
          refine eR_getI dX9_town_46 gf_X9_82 th_205 rfl ?_
          refine eX_pcI (hU_s _ _ _ _) ?_
          obtain ⟨g99_, hg99_⟩ : ∃ g9, g9 = hU h3 205 14 ↑(sk isB T n x.2) := ⟨_, rfl⟩
          rw [← hg99_]
          have Tg99_ : mT g99_ T n := by rw [hg99_]; exact mT_w Th3 (by omega) (by decide)
          have Pg99_ : pF h g99_ := by rw [hg99_]; exact pF_w Ph3 (by unfold pS; omega)
          have Vg99_ : pV g99_ x.1 := by rw [hg99_]; exact pV_w Vh3 (by unfold vS; omega)
          have Ag99_ : g99_ 205 14 = (((sk isB T n x.2) : Nat) : Int) := by rw [hg99_]; exact hU_s _ _ _ _
          have Og99_ : g99_ 205 17 = (0 : Int) := by rw [hg99_, hU_ne (by omega)]; exact Oh3
          have Xg99_ : g99_ 205 18 = (h 205 18 : Int) := by rw [hg99_, hU_ne (by omega)]; exact Xh3
          refine eR_callVi [_, _, _] rfl dX9_town_49 ok_mX9_want kw_984 rfl rfl th_205 rfl (Nat.le_of_ble_eq_true rfl) (d' := 0) (by decide) (Nat.le_of_ble_eq_true rfl) ?_
          refine sp_want_n (nb := 1) Og99_ (by decide) (by decide) ?_
          refine eR_if_eq (tgt := 4) dX9_town_52 (by decide) (by first | exact rg_b01 _ | (unfold rg; omega)) (fun c52 => ?_) (fun c52 => absurd c52 (by decide))
          obtain ⟨g100_, hg100_⟩ : ∃ g9, g9 = hU g99_ 205 17 ↑(1 : Nat) := ⟨_, rfl⟩
          rw [← hg100_]
          have Tg100_ : mT g100_ T n := by rw [hg100_]; exact mT_w Tg99_ (by omega) (by decide)
          have Pg100_ : pF h g100_ := by rw [hg100_]; exact pF_w Pg99_ (by unfold pS; omega)
          have Vg100_ : pV g100_ x.1 := by rw [hg100_]; exact pV_w Vg99_ (by unfold vS; omega)
          have Ag100_ : g100_ 205 14 = (((sk isB T n x.2) : Nat) : Int) := by rw [hg100_, hU_ne (by omega)]; exact Ag99_
          have Og100_ : g100_ 205 17 = (((1 : Nat) : Nat) : Int) := by rw [hg100_]; exact hU_s _ _ _ _
          have Xg100_ : g100_ 205 18 = (h 205 18 : Int) := by rw [hg100_, hU_ne (by omega)]; exact Xg99_
          obtain ⟨g101_, hg101_⟩ : ∃ g9, g9 = hU g100_ 205 18 ↑(sk isB T n x.2) := ⟨_, rfl⟩
          rw [← hg101_]
          have Tg101_ : mT g101_ T n := by rw [hg101_]; exact mT_w Tg100_ (by omega) (by decide)
          have Pg101_ : pF h g101_ := by rw [hg101_]; exact pF_w Pg100_ (by unfold pS; omega)
          have Vg101_ : pV g101_ x.1 := by rw [hg101_]; exact pV_w Vg100_ (by unfold vS; omega)
          have Ag101_ : g101_ 205 14 = (((sk isB T n x.2) : Nat) : Int) := by rw [hg101_, hU_ne (by omega)]; exact Ag100_
          have Og101_ : g101_ 205 17 = (((1 : Nat) : Nat) : Int) := by rw [hg101_, hU_ne (by omega)]; exact Og100_
          have Xg101_ : g101_ 205 18 = (((sk isB T n x.2) : Nat) : Int) := by rw [hg101_]; exact hU_s _ _ _ _
          refine eR_aldn_0 dX9_town_4 rfl ?_
          refine eR_getI dX9_town_5 gf_X9_85 th_205 rfl ?_
          refine eX_pcI (Og101_) ?_
          refine eR_if_ne (tgt := 68) dX9_town_8 (by decide) (by first | exact rg_b01 _ | (unfold rg; omega)) (fun c8 => ?_) (fun c8 => absurd c8 (by decide))
          exact k g101_ (pZ_l (x := ((1 : Nat), sk isB T n x.2)) (prs_l hj (by rw [er]; unfold smi; simp only; rw [if_neg hs])) Pg101_ Og101_ Xg101_)
    · refine eR_aldn_0 dX9_town_4 rfl ?_
      refine eR_getI dX9_town_5 gf_X9_85 th_205 rfl ?_
      refine eX_pcI (Oh1) ?_
      refine eR_if_ne (tgt := 68) dX9_town_8 (by decide) (by first | exact rg_b01 _ | (unfold rg; omega)) (fun c8 => absurd c8 (by decide)) (fun c8 => ?_)
      refine eR_aldn_0 dX9_town_11 rfl ?_
      refine eR_callVi [] rfl dX9_town_12 ok_mX9_here kw_966 rfl rfl th_205 rfl (Nat.le_of_ble_eq_true rfl) (d' := 0) (by decide) (Nat.le_of_ble_eq_true rfl) ?_
      refine sp_here (n := n) (i := i) B Th1 (by omega) Ah1 ?_
      refine eR_if_lt (tgt := 68) dX9_town_15 (by decide) (by have := hc9; unfold rg; omega) (fun c15 => ?_) (fun c15 => absurd c15 (by rw [chZ_n hj]; decide))
      exact k _ (pZ_r (prs_end hj _) (pF_w Ph1 (by unfold pS; omega)) (pV_w Vh1 (by unfold vS; omega)) ((hU_ne (by omega)).trans Oh1) ((hU_ne (by omega)).trans Xh1))
end M37
