theorem hU_ne {h : PH} {a i a' i' : Nat} {z : Int} (q : ¬ (a' = a ∧ i' = i)) : hU h a i z a' i' = h a' i' := by rw [hU_g, if_neg q]
/-- what reading may change -/
def pS (a i : Nat) : Prop := (a = 205 ∧ 14 ≤ i ∧ i ≤ 21) ∨ (208 ≤ a ∧ a ≤ 210 ∧ 8 ≤ i) ∨ (211 ≤ a ∧ a ≤ 214 ∧ 10 ≤ i) ∨ (a = 215 ∧ 64 ≤ i) ∨ a = 216 ∨ (a = 217 ∧ 4 ≤ i ∧ i ≤ 6)
def pF (h h' : PH) : Prop := ∀ a i, ¬ pS a i → h' a i = h a i
theorem pF_rf (h : PH) : pF h h := fun _ _ _ => rfl
theorem pF_tr {h h' h2 : PH} (a : pF h h') (b : pF h' h2) : pF h h2 := fun x i q => (b x i q).trans (a x i q)
theorem pF_of {h h' : PH} (a : pG h h') : pF h h' := fun x i q => a x i (fun q1 => q (by unfold pS; omega))
theorem pF_w {h h' : PH} {a i : Nat} {z : Int} (p : pF h h') (q : pS a i) : pF h (hU h' a i z) := fun x j q1 => by
  rw [hU_ne (by rintro ⟨rfl, rfl⟩; exact q1 q)]
  exact p x j q1
theorem mT_w {h : PH} {T : Nat → Nat} {n a i : Nat} {z : Int} (V : mT h T n) (q : ¬ (a = 205 ∧ i = 13)) (q2 : a ≠ 218) : mT (hU h a i z) T n := ⟨by rw [hU_ne (by omega)]; exact V.1, fun x hx => by rw [hU_ne (by omega)]; exact V.2 x hx⟩
theorem mT_F {h h' : PH} {T : Nat → Nat} {n : Nat} (V : mT h T n) (p : pF h h') : mT h' T n := ⟨by rw [p 205 13 (by unfold pS; omega)]; exact V.1, fun x hx => by rw [p 218 x (by unfold pS; omega)]; exact V.2 x hx⟩
/-- the town that is being read, in the reference's cells -/
def pV (h : PH) (U : PU) : Prop := h 217 4 = (sP U.1 : Int) ∧ h 217 5 = (sC U.1 : Int) ∧ h 217 6 = (sE U.1 : Int) ∧ (∀ c, c < sC U.1 → h 208 (8 + c) = (sO U.1 c 0 : Int) ∧ h 209 (8 + c) = (sO U.1 c 1 : Int) ∧ h 210 (8 + c) = (sW U.1 c : Int)) ∧
  (∀ e, e < sE U.1 → h 211 (10 + e) = (sR U.1 e 0 : Int) ∧ h 212 (10 + e) = (sR U.1 e 1 : Int) ∧ h 213 (10 + e) = (sR U.1 e 2 : Int) ∧ h 214 (10 + e) = (sR U.1 e 3 : Int)) ∧
  (∀ p q, p < 8 → q < 8 → h 216 (8 * p + q) = b01 ((U.2.2.1 p).testBit q = true) ∧ h 215 (64 + 8 * p + q) = (sL U.1 p q : Int)) ∧ h 205 19 = (U.2.1 : Int) ∧ h 205 20 = (sF U.1 : Int) ∧ h 205 21 = (U.2.2.2 : Int)
def vS (U : PU) (a i : Nat) : Prop := (a = 217 ∧ 4 ≤ i ∧ i ≤ 6) ∨ (208 ≤ a ∧ a ≤ 210 ∧ i < 8 + sC U.1) ∨ (211 ≤ a ∧ a ≤ 214 ∧ i < 10 + sE U.1) ∨ a = 216 ∨ (a = 215 ∧ 64 ≤ i) ∨ (a = 205 ∧ 19 ≤ i ∧ i ≤ 21)
theorem pV_of {h h' : PH} {U : PU} (V : pV h U) (e : ∀ a i, vS U a i → h' a i = h a i) : pV h' U := by
  obtain ⟨v1, v2, v3, v4, v5, v6, v7, v8, v9⟩ := V
  refine ⟨(e 217 4 (by unfold vS; omega)).trans v1, (e 217 5 (by unfold vS; omega)).trans v2, (e 217 6 (by unfold vS; omega)).trans v3, fun c hc => ?_, fun x hx => ?_, fun p q hp hq => ?_, (e 205 19 (by unfold vS; omega)).trans v7, (e 205 20 (by unfold vS; omega)).trans v8, (e 205 21 (by unfold vS; omega)).trans v9⟩
  · have w := v4 c hc
    exact ⟨(e 208 _ (by unfold vS; omega)).trans w.1, (e 209 _ (by unfold vS; omega)).trans w.2.1, (e 210 _ (by unfold vS; omega)).trans w.2.2⟩
  · have w := v5 x hx
    exact ⟨(e 211 _ (by unfold vS; omega)).trans w.1, (e 212 _ (by unfold vS; omega)).trans w.2.1, (e 213 _ (by unfold vS; omega)).trans w.2.2.1, (e 214 _ (by unfold vS; omega)).trans w.2.2.2⟩
  · have w := v6 p q hp hq
    exact ⟨(e 216 _ (by unfold vS; omega)).trans w.1, (e 215 _ (by unfold vS; omega)).trans w.2⟩
theorem pV_w {h : PH} {U : PU} {a i : Nat} {z : Int} (V : pV h U) (q : ¬ vS U a i) : pV (hU h a i z) U := pV_of V (fun x j q1 => hU_ne (by rintro ⟨rfl, rfl⟩; exact q q1))
theorem pV_p {h h' : PH} {U : PU} (V : pV h U) (p : pG h h') : pV h' U := pV_of V (fun x j q1 => p x j (fun q2 => by unfold vS at q1; omega))
theorem pV_adC {h : PH} {U : PU} {p q w : Nat} (V : pV h U) (h1 : h 208 (8 + sC U.1) = (p : Int)) (h2 : h 209 (8 + sC U.1) = (q : Int)) (h3 : h 210 (8 + sC U.1) = (w : Int)) : pV (hU h 217 5 ((sC U.1 : Int) + 1)) (uO U (adC U.1 p q w)) := by
  obtain ⟨v1, v2, v3, v4, v5, v6, v7, v8, v9⟩ := V
  refine ⟨(hU_ne (by omega)).trans v1, hU_s _ _ _ _, (hU_ne (by omega)).trans v3, fun c hc => ?_, fun x hx => ?_, fun p q hp hq => ?_, (hU_ne (by omega)).trans v7, (hU_ne (by omega)).trans v8, (hU_ne (by omega)).trans v9⟩
  · have hc' : c < sC U.1 + 1 := hc
    rw [hU_ne (by omega), hU_ne (by omega), hU_ne (by omega)]
    show h 208 (8 + c) = (((if c = sC U.1 then (if (0 : Nat) = 0 then p else q) else sO U.1 c 0 : Nat)) : Int) ∧ h 209 (8 + c) = (((if c = sC U.1 then (if (1 : Nat) = 0 then p else q) else sO U.1 c 1 : Nat)) : Int) ∧ h 210 (8 + c) = (((if c = sC U.1 then w else sW U.1 c : Nat)) : Int)
    by_cases hcc : c = sC U.1
    · rw [if_pos hcc, if_pos hcc, if_pos hcc, hcc]; exact ⟨h1, h2, h3⟩
    · rw [if_neg hcc, if_neg hcc, if_neg hcc]; exact v4 c (by omega)
  · rw [hU_ne (by omega), hU_ne (by omega), hU_ne (by omega), hU_ne (by omega)]; exact v5 x hx
  · rw [hU_ne (by omega), hU_ne (by omega)]; exact v6 p q hp hq
theorem pV_adE {h : PH} {U : PU} {p x a b : Nat} (V : pV h U) (h1 : h 211 (10 + sE U.1) = (p : Int)) (h2 : h 212 (10 + sE U.1) = (x : Int)) (h3 : h 213 (10 + sE U.1) = (a : Int)) (h4 : h 214 (10 + sE U.1) = (b : Int)) : pV (hU h 217 6 ((sE U.1 : Int) + 1)) (uO U (adE U.1 p x a b)) := by
  obtain ⟨v1, v2, v3, v4, v5, v6, v7, v8, v9⟩ := V
  refine ⟨(hU_ne (by omega)).trans v1, (hU_ne (by omega)).trans v2, hU_s _ _ _ _, fun c hc => ?_, fun y hy => ?_, fun p q hp hq => ?_, (hU_ne (by omega)).trans v7, (hU_ne (by omega)).trans v8, (hU_ne (by omega)).trans v9⟩
  · rw [hU_ne (by omega), hU_ne (by omega), hU_ne (by omega)]; exact v4 c hc
  · have hy' : y < sE U.1 + 1 := hy
    rw [hU_ne (by omega), hU_ne (by omega), hU_ne (by omega), hU_ne (by omega)]
    show h 211 (10 + y) = (((if y = sE U.1 then (if (0 : Nat) = 0 then p else if (0 : Nat) = 1 then x else if (0 : Nat) = 2 then a else b) else sR U.1 y 0 : Nat)) : Int) ∧ h 212 (10 + y) = (((if y = sE U.1 then (if (1 : Nat) = 0 then p else if (1 : Nat) = 1 then x else if (1 : Nat) = 2 then a else b) else sR U.1 y 1 : Nat)) : Int) ∧ h 213 (10 + y) = (((if y = sE U.1 then (if (2 : Nat) = 0 then p else if (2 : Nat) = 1 then x else if (2 : Nat) = 2 then a else b) else sR U.1 y 2 : Nat)) : Int) ∧ h 214 (10 + y) = (((if y = sE U.1 then (if (3 : Nat) = 0 then p else if (3 : Nat) = 1 then x else if (3 : Nat) = 2 then a else b) else sR U.1 y 3 : Nat)) : Int)
    by_cases hcc : y = sE U.1
    · rw [if_pos hcc, if_pos hcc, if_pos hcc, if_pos hcc, hcc]; exact ⟨h1, h2, h3, h4⟩
    · rw [if_neg hcc, if_neg hcc, if_neg hcc, if_neg hcc]; exact v5 y (by omega)
  · rw [hU_ne (by omega), hU_ne (by omega)]; exact v6 p q hp hq
theorem pV_adP {h : PH} {U : PU} {v : Nat} (V : pV h U) : pV (hU h 217 4 (v : Int)) (uO U (adP U.1 v)) := by
  obtain ⟨v1, v2, v3, v4, v5, v6, v7, v8, v9⟩ := V
  refine ⟨hU_s _ _ _ _, (hU_ne (by omega)).trans v2, (hU_ne (by omega)).trans v3, fun c hc => ?_, fun x hx => ?_, fun p q hp hq => ?_, (hU_ne (by omega)).trans v7, (hU_ne (by omega)).trans v8, (hU_ne (by omega)).trans v9⟩
  · rw [hU_ne (by omega), hU_ne (by omega), hU_ne (by omega)]; exact v4 c hc
  · rw [hU_ne (by omega), hU_ne (by omega), hU_ne (by omega), hU_ne (by omega)]; exact v5 x hx
  · rw [hU_ne (by omega), hU_ne (by omega)]; exact v6 p q hp hq
theorem pV_adF {h h' : PH} {U : PU} {v : Nat} (V : pV h U) (G : pG (hU h 205 21 1) h') : pV (hU h' 205 20 (v : Int)) (adF U v) := by
  obtain ⟨v1, v2, v3, v4, v5, v6, v7, v8, v9⟩ := V
  have E : ∀ a i, ¬ (a = 205 ∧ 14 ≤ i ∧ i ≤ 18) → ¬ (a = 205 ∧ (i = 20 ∨ i = 21)) → hU h' 205 20 (v : Int) a i = h a i := fun a i q1 q2 => by
    rw [hU_ne (by omega), G a i q1, hU_ne (by omega)]
  refine ⟨(E _ _ (by omega) (by omega)).trans v1, (E _ _ (by omega) (by omega)).trans v2, (E _ _ (by omega) (by omega)).trans v3, fun c hc => ?_, fun x hx => ?_, fun p q hp hq => ?_, (E _ _ (by omega) (by omega)).trans v7, hU_s _ _ _ _, ?_⟩
  · rw [E _ _ (by omega) (by omega), E _ _ (by omega) (by omega), E _ _ (by omega) (by omega)]; exact v4 c hc
  · rw [E _ _ (by omega) (by omega), E _ _ (by omega) (by omega), E _ _ (by omega) (by omega), E _ _ (by omega) (by omega)]; exact v5 x hx
  · rw [E _ _ (by omega) (by omega), E _ _ (by omega) (by omega)]; exact v6 p q hp hq
  · rw [hU_ne (by omega), G 205 21 (by omega), hU_s]; rfl
theorem pV_adL {h h' : PH} {U : PU} {p q l : Nat} (V : pV h U) (hp : p < 8) (hq : q < 8) (G : pG (hU h 216 (8 * p + q) 1) h') : pV (hU (hU h' 215 (64 + 8 * p + q) (l : Int)) 205 19 ((U.2.1 : Int) + 1)) (adL U p q l) := by
  obtain ⟨v1, v2, v3, v4, v5, v6, v7, v8, v9⟩ := V
  have E : ∀ a i, ¬ (a = 205 ∧ 14 ≤ i ∧ i ≤ 19) → ¬ (a = 215 ∧ i = 64 + 8 * p + q) → ¬ (a = 216 ∧ i = 8 * p + q) → hU (hU h' 215 (64 + 8 * p + q) (l : Int)) 205 19 ((U.2.1 : Int) + 1) a i = h a i := fun a i q1 q2 q3 => by
    rw [hU_ne (by omega), hU_ne (by omega), G a i (by omega), hU_ne (by omega)]
  refine ⟨(E _ _ (by omega) (by omega) (by omega)).trans v1, (E _ _ (by omega) (by omega) (by omega)).trans v2, (E _ _ (by omega) (by omega) (by omega)).trans v3, fun c hc => ?_, fun x hx => ?_, fun p' q' hp' hq' => ?_, hU_s _ _ _ _, (E _ _ (by omega) (by omega) (by omega)).trans v8, (E _ _ (by omega) (by omega) (by omega)).trans v9⟩
  · rw [E _ _ (by omega) (by omega) (by omega), E _ _ (by omega) (by omega) (by omega), E _ _ (by omega) (by omega) (by omega)]; exact v4 c hc
  · rw [E _ _ (by omega) (by omega) (by omega), E _ _ (by omega) (by omega) (by omega), E _ _ (by omega) (by omega) (by omega), E _ _ (by omega) (by omega) (by omega)]; exact v5 x hx
  · have w := v6 p' q' hp' hq'
    show _ = b01 (((if p' = p then U.2.2.1 p ||| 2 ^ q else U.2.2.1 p' : Nat)).testBit q' = true) ∧ _ = (((if p' = p ∧ q' = q then l else sL U.1 p' q' : Nat)) : Int)
    by_cases h1 : p' = p ∧ q' = q
    · obtain ⟨rfl, rfl⟩ := h1
      rw [if_pos rfl, if_pos ⟨rfl, rfl⟩]
      refine ⟨?_, ?_⟩
      · rw [hU_ne (by omega), hU_ne (by omega), G 216 _ (by omega), hU_s, b01_t]
        rw [Nat.testBit_or, Nat.testBit_two_pow]; simp
      · rw [hU_ne (by omega), hU_s]
    · rw [if_neg h1, E _ _ (by omega) (by omega) (by omega), E _ _ (by omega) (by omega) (by omega)]
      refine ⟨?_, w.2⟩
      rw [w.1]
      by_cases h2 : p' = p
      · rw [if_pos h2, Nat.testBit_or, Nat.testBit_two_pow, h2]
        have h3 : ¬ q = q' := fun e => h1 ⟨h2, e.symm⟩
        simp [h3]
      · rw [if_neg h2]
/-- what such a town keeps -/
def uB (U : PU) : Prop := sB U.1 ∧ sK U.1 = 0 ∧ U.2.1 ≤ 30 ∧ U.2.2.2 ≤ 1
/-- how a reading has ended -/
def pE (h h1 : PH) (r : RU) : Prop := pF h h1 ∧ match r with
  | .inl x => h1 205 17 = (x.1 : Int) ∧ h1 205 18 = (x.2 : Int)
  | .inr x => pV h1 x.1 ∧ h1 205 14 = (x.2 : Int) ∧ h1 205 17 = 0 ∧ h1 205 18 = h 205 18
theorem pE_l {h h1 : PH} {r : RU} {x : Nat × Nat} (e : r = .inl x) (p : pF h h1) (o : h1 205 17 = (x.1 : Int)) (f : h1 205 18 = (x.2 : Int)) : pE h h1 r := by rw [e]; exact ⟨p, o, f⟩
theorem pE_r {h h1 : PH} {r : RU} {U : PU} {j : Nat} (e : r = .inr (U, j)) (p : pF h h1) (v : pV h1 U) (a : h1 205 14 = (j : Int)) (o : h1 205 17 = 0) (f : h1 205 18 = h 205 18) : pE h h1 r := by rw [e]; exact ⟨p, v, a, o, f⟩
section M35
variable {g : EG} {d t s : Nat} {h h1 : PH} {Q : EQ} {T : Nat → Nat} {n : Nat} {U : PU}
theorem sp_takeCoat (B : tB T n) (Th : mT h T n) (uBh : uB U) (Vh : pV h U) {i : Nat} (hin : i ≤ n) (Ah : h 205 14 = (i : Int)) (Oh : h 205 17 = 0) (hP : 1 ≤ sP U.1) (hC : sC U.1 < 8) (k : ∀ h1 : PH, pE h h1 (rdC T n U i) → Q .null (tau t s) h1) : eX g 3 mX9_takeCoat 0 (lv_args 0 [.ref (gA g 205)]) [] (tau t s) h Q := by
  show eX g 3 mX9_takeCoat 0 [(0, .ref (gA g 205))] [] (tau t s) h Q
  have hn9 := B.1
  have hb8 := uBh.1.1
  have hbC := uBh.1.2.1
  have hbE := uBh.1.2.2.1
  have hbL := uBh.2.2.1
  have hbF := uBh.2.2.2
  have Xh : h 205 18 = h 205 18 := rfl
  have Ph := pF_rf h
  obtain ⟨k9, hk9⟩ : ∃ k9 : Nat, k9 = 8 + sC U.1 := ⟨_, rfl⟩
  refine eR_bi (z := 8) dX9_takeCoat_0 rfl ?_
  refine eR_aldn_0 dX9_takeCoat_2 rfl ?_
  refine eR_getR (i := 217) dX9_takeCoat_3 gf_X9_44 th_205 rfl ?_
  refine eR_ic dX9_takeCoat_6 ?_
  refine eR_iald (n := 5) dX9_takeCoat_7 th_217 (rfl) (by decide) (by decide) ?_
  refine eX_pcI (Vh.2.1) ?_
  refine eR_iadd dX9_takeCoat_8 ?_
  refine eX_pcI (show (8 + ↑(sC U.1) : Int) = ↑k9 from by omega) ?_
  refine eR_istn_n1 dX9_takeCoat_9 rfl (by decide) rfl ?_
  refine eR_aldn_0 dX9_takeCoat_10 rfl ?_
  refine eR_getR (i := 208) dX9_takeCoat_11 gf_X9_17 th_205 rfl ?_
  refine eR_ildn_1 dX9_takeCoat_14 rfl ?_
  refine eR_aldn_0 dX9_takeCoat_15 rfl ?_
  refine eR_callVi [] rfl dX9_takeCoat_16 ok_mX9_takePerson kw_999 rfl rfl th_205 rfl (Nat.le_of_ble_eq_true rfl) (d' := 2) (by decide) (Nat.le_of_ble_eq_true rfl) ?_
  refine sp_takePerson (i := i) (p9 := sP U.1) B Th (by omega) (by omega) (by omega) Vh.1 Ah Oh (fun x1_ vx1_ f2_ ex1_ hvx1_ px1_ ox1_ fx1_ => ?_) (fun x1_ h3_ ex1_ px1_ ax1_ bx1_ ox1_ fx1_ => ?_)
  · have nx1_ := num_l (by omega) ex1_
    have Tf2_ : mT f2_ T n := mT_p Th px1_
    have Pf2_ : pF h f2_ := pF_tr Ph (pF_of px1_)
    have Vf2_ : pV f2_ U := pV_p Vh px1_
    have Of2_ : f2_ 205 17 = ((x1_.1 : Nat) : Int) := ox1_
    have Xf2_ : f2_ 205 18 = ((x1_.2 : Nat) : Int) := fx1_
    refine eR_iast (n := k9) dX9_takeCoat_19 th_208 (rfl) (by omega) (by decide) ?_
    refine eR_aldn_0 dX9_takeCoat_20 rfl ?_
    refine eR_getR (i := 209) dX9_takeCoat_21 gf_X9_20 th_205 rfl ?_
    refine eR_ildn_1 dX9_takeCoat_24 rfl ?_
    refine eR_aldn_0 dX9_takeCoat_25 rfl ?_
    obtain ⟨g4_, hg4_⟩ : ∃ g9, g9 = hU f2_ 208 k9 ↑vx1_ := ⟨_, rfl⟩
    rw [← hg4_]
    have Tg4_ : mT g4_ T n := by rw [hg4_]; exact mT_w Tf2_ (by omega) (by decide)
    have Pg4_ : pF h g4_ := by rw [hg4_]; exact pF_w Pf2_ (by unfold pS; omega)
    have Vg4_ : pV g4_ U := by rw [hg4_]; exact pV_w Vf2_ (by unfold vS; omega)
    have Og4_ : g4_ 205 17 = ((x1_.1 : Nat) : Int) := by rw [hg4_, hU_ne (by omega)]; exact Of2_
    have Xg4_ : g4_ 205 18 = ((x1_.2 : Nat) : Int) := by rw [hg4_, hU_ne (by omega)]; exact Xf2_
    have E208_g4_ : g4_ 208 k9 = ((vx1_ : Nat) : Int) := by rw [hg4_]; exact hU_s _ _ _ _
    refine eR_callVi [] rfl dX9_takeCoat_26 ok_mX9_takePerson kw_999 rfl rfl th_205 rfl (Nat.le_of_ble_eq_true rfl) (d' := 2) (by decide) (Nat.le_of_ble_eq_true rfl) ?_
    refine sp_takePerson_f (f := x1_.1) Og4_ (by omega) (by omega) ?_
    refine eR_iast (n := k9) dX9_takeCoat_29 th_209 (rfl) (by omega) (by decide) ?_
    refine eR_aldn_0 dX9_takeCoat_30 rfl ?_
    refine eR_aldn_0 dX9_takeCoat_31 rfl ?_
    refine eR_getR (i := 208) dX9_takeCoat_32 gf_X9_17 th_205 rfl ?_
    refine eR_ildn_1 dX9_takeCoat_35 rfl ?_
    refine eR_iald (n := k9) dX9_takeCoat_36 th_208 (rfl) (by omega) (by decide) ?_
    refine eX_pcI (congrFun (hU_a _ _ _ (by decide)) _) ?_
    refine eX_pcI (E208_g4_) ?_
    refine eR_aldn_0 dX9_takeCoat_37 rfl ?_
    refine eR_getR (i := 209) dX9_takeCoat_38 gf_X9_20 th_205 rfl ?_
    refine eR_ildn_1 dX9_takeCoat_41 rfl ?_
    refine eR_iald (n := k9) dX9_takeCoat_42 th_209 (rfl) (by omega) (by decide) ?_
    refine eX_pcI (hU_s _ _ _ _) ?_
    refine eR_icmp_eq (tgt := 50) dX9_takeCoat_43 (by decide) (by first | exact rg_b01 _ | (unfold rg; omega)) (by first | exact rg_b01 _ | (unfold rg; omega)) (fun c43 => ?_) (fun c43 => ?_)
    · refine eR_ic dX9_takeCoat_50 ?_
      refine eR_ic dX9_takeCoat_51 ?_
      refine eR_aldn_0 dX9_takeCoat_52 rfl ?_
      refine eR_getI dX9_takeCoat_53 gf_X9_92 th_205 rfl ?_
      refine eX_pcI (congrFun (hU_a _ _ _ (by decide)) _) ?_
      obtain ⟨g5_, hg5_⟩ : ∃ g9, g9 = hU g4_ 209 k9 ↑(0 : Nat) := ⟨_, rfl⟩
      rw [← hg5_]
      have Tg5_ : mT g5_ T n := by rw [hg5_]; exact mT_w Tg4_ (by omega) (by decide)
      have Pg5_ : pF h g5_ := by rw [hg5_]; exact pF_w Pg4_ (by unfold pS; omega)
      have Vg5_ : pV g5_ U := by rw [hg5_]; exact pV_w Vg4_ (by unfold vS; omega)
      have Og5_ : g5_ 205 17 = ((x1_.1 : Nat) : Int) := by rw [hg5_, hU_ne (by omega)]; exact Og4_
      have Xg5_ : g5_ 205 18 = ((x1_.2 : Nat) : Int) := by rw [hg5_, hU_ne (by omega)]; exact Xg4_
      have E208_g5_ : g5_ 208 k9 = ((vx1_ : Nat) : Int) := by rw [hg5_, hU_ne (by omega)]; exact E208_g4_
      have E209_g5_ : g5_ 209 k9 = (((0 : Nat) : Nat) : Int) := by rw [hg5_]; exact hU_s _ _ _ _
      refine eR_callVi [_, _, _] rfl dX9_takeCoat_56 ok_mX9_want kw_984 rfl rfl th_205 rfl (Nat.le_of_ble_eq_true rfl) (d' := 0) (by decide) (Nat.le_of_ble_eq_true rfl) ?_
      refine sp_want_f (f := x1_.1) (by unfold rg; omega) Og5_ (by omega) (by omega) ?_
      refine eR_if_eq (tgt := 85) dX9_takeCoat_59 (by decide) (by first | exact rg_b01 _ | (unfold rg; omega)) (fun c59 => ?_) (fun c59 => absurd c59 (by decide))
      refine eR_vret dX9_takeCoat_85 rfl ?_
      refine k g5_ (pE_l (x := (x1_.1, x1_.2)) ?_ Pg5_ Og5_ Xg5_)
      unfold rdC
      simp only [ex1_] <;> first | rfl | (rw [if_pos (by first | omega | exact Or.inr (by assumption) | exact Or.inl (by omega))]; done) | (rw [if_neg (by first | omega | (rintro (q1 | q1); omega; exact absurd q1 (by assumption)))]; done)
    · refine eR_ic dX9_takeCoat_46 ?_
      refine eR_goto (tgt := 51) dX9_takeCoat_47 (by decide) ?_
      refine eR_ic dX9_takeCoat_51 ?_
      refine eR_aldn_0 dX9_takeCoat_52 rfl ?_
      refine eR_getI dX9_takeCoat_53 gf_X9_92 th_205 rfl ?_
      refine eX_pcI (congrFun (hU_a _ _ _ (by decide)) _) ?_
      obtain ⟨g6_, hg6_⟩ : ∃ g9, g9 = hU g4_ 209 k9 ↑(0 : Nat) := ⟨_, rfl⟩
      rw [← hg6_]
      have Tg6_ : mT g6_ T n := by rw [hg6_]; exact mT_w Tg4_ (by omega) (by decide)
      have Pg6_ : pF h g6_ := by rw [hg6_]; exact pF_w Pg4_ (by unfold pS; omega)
      have Vg6_ : pV g6_ U := by rw [hg6_]; exact pV_w Vg4_ (by unfold vS; omega)
      have Og6_ : g6_ 205 17 = ((x1_.1 : Nat) : Int) := by rw [hg6_, hU_ne (by omega)]; exact Og4_
      have Xg6_ : g6_ 205 18 = ((x1_.2 : Nat) : Int) := by rw [hg6_, hU_ne (by omega)]; exact Xg4_
      have E208_g6_ : g6_ 208 k9 = ((vx1_ : Nat) : Int) := by rw [hg6_, hU_ne (by omega)]; exact E208_g4_
      have E209_g6_ : g6_ 209 k9 = (((0 : Nat) : Nat) : Int) := by rw [hg6_]; exact hU_s _ _ _ _
      refine eR_callVi [_, _, _] rfl dX9_takeCoat_56 ok_mX9_want kw_984 rfl rfl th_205 rfl (Nat.le_of_ble_eq_true rfl) (d' := 0) (by decide) (Nat.le_of_ble_eq_true rfl) ?_
      refine sp_want_f (f := x1_.1) (by unfold rg; omega) Og6_ (by omega) (by omega) ?_
      refine eR_if_eq (tgt := 85) dX9_takeCoat_59 (by decide) (by first | exact rg_b01 _ | (unfold rg; omega)) (fun c59 => ?_) (fun c59 => absurd c59 (by decide))
      refine eR_vret dX9_takeCoat_85 rfl ?_
      refine k g6_ (pE_l (x := (x1_.1, x1_.2)) ?_ Pg6_ Og6_ Xg6_)
      unfold rdC
      simp only [ex1_] <;> first | rfl | (rw [if_pos (by first | omega | exact Or.inr (by assumption) | exact Or.inl (by omega))]; done) | (rw [if_neg (by first | omega | (rintro (q1 | q1); omega; exact absurd q1 (by assumption)))]; done)
  · have nx1_ := num_r (by omega) ex1_
    have Th3_ : mT h3_ T n := mT_p Th px1_
    have Ph3_ : pF h h3_ := pF_tr Ph (pF_of px1_)
    have Vh3_ : pV h3_ U := pV_p Vh px1_
    have Ah3_ : h3_ 205 14 = ((x1_.2.2 : Nat) : Int) := ax1_
    have Fh3_ : h3_ 205 15 = ((x1_.2.1 : Nat) : Int) := bx1_
    have Oh3_ : h3_ 205 17 = (0 : Int) := ox1_
    have Xh3_ : h3_ 205 18 = (h 205 18 : Int) := fx1_.trans Xh
    refine eR_iast (n := k9) dX9_takeCoat_19 th_208 (rfl) (by omega) (by decide) ?_
    refine eR_aldn_0 dX9_takeCoat_20 rfl ?_
    refine eR_getR (i := 209) dX9_takeCoat_21 gf_X9_20 th_205 rfl ?_
    refine eR_ildn_1 dX9_takeCoat_24 rfl ?_
    refine eR_aldn_0 dX9_takeCoat_25 rfl ?_
    obtain ⟨g7_, hg7_⟩ : ∃ g9, g9 = hU h3_ 208 k9 ↑x1_.1 := ⟨_, rfl⟩
    rw [← hg7_]
    have Tg7_ : mT g7_ T n := by rw [hg7_]; exact mT_w Th3_ (by omega) (by decide)
    have Pg7_ : pF h g7_ := by rw [hg7_]; exact pF_w Ph3_ (by unfold pS; omega)
    have Vg7_ : pV g7_ U := by rw [hg7_]; exact pV_w Vh3_ (by unfold vS; omega)
    have Ag7_ : g7_ 205 14 = ((x1_.2.2 : Nat) : Int) := by rw [hg7_, hU_ne (by omega)]; exact Ah3_
    have Fg7_ : g7_ 205 15 = ((x1_.2.1 : Nat) : Int) := by rw [hg7_, hU_ne (by omega)]; exact Fh3_
    have Og7_ : g7_ 205 17 = (0 : Int) := by rw [hg7_, hU_ne (by omega)]; exact Oh3_
    have Xg7_ : g7_ 205 18 = (h 205 18 : Int) := by rw [hg7_, hU_ne (by omega)]; exact Xh3_
    have E208_g7_ : g7_ 208 k9 = ((x1_.1 : Nat) : Int) := by rw [hg7_]; exact hU_s _ _ _ _
    refine eR_callVi [] rfl dX9_takeCoat_26 ok_mX9_takePerson kw_999 rfl rfl th_205 rfl (Nat.le_of_ble_eq_true rfl) (d' := 2) (by decide) (Nat.le_of_ble_eq_true rfl) ?_
    refine sp_takePerson (i := x1_.2.2) (p9 := sP U.1) B Tg7_ (by omega) (by omega) (by omega) Vg7_.1 Ag7_ Og7_ (fun x8_ vx8_ f9_ ex8_ hvx8_ px8_ ox8_ fx8_ => ?_) (fun x8_ h10_ ex8_ px8_ ax8_ bx8_ ox8_ fx8_ => ?_)
    · have nx8_ := num_l (by omega) ex8_
      have Tf9_ : mT f9_ T n := mT_p Tg7_ px8_
      have Pf9_ : pF h f9_ := pF_tr Pg7_ (pF_of px8_)
      have Vf9_ : pV f9_ U := pV_p Vg7_ px8_
      have Of9_ : f9_ 205 17 = ((x8_.1 : Nat) : Int) := ox8_
      have Xf9_ : f9_ 205 18 = ((x8_.2 : Nat) : Int) := fx8_
      have E208_f9_ : f9_ 208 k9 = ((x1_.1 : Nat) : Int) := (px8_ 208 k9 (by omega)).trans E208_g7_
      refine eR_iast (n := k9) dX9_takeCoat_29 th_209 (rfl) (by omega) (by decide) ?_
      refine eR_aldn_0 dX9_takeCoat_30 rfl ?_
      refine eR_aldn_0 dX9_takeCoat_31 rfl ?_
      refine eR_getR (i := 208) dX9_takeCoat_32 gf_X9_17 th_205 rfl ?_
      refine eR_ildn_1 dX9_takeCoat_35 rfl ?_
      refine eR_iald (n := k9) dX9_takeCoat_36 th_208 (rfl) (by omega) (by decide) ?_
      refine eX_pcI (congrFun (hU_a _ _ _ (by decide)) _) ?_
      refine eX_pcI (E208_f9_) ?_
      refine eR_aldn_0 dX9_takeCoat_37 rfl ?_
      refine eR_getR (i := 209) dX9_takeCoat_38 gf_X9_20 th_205 rfl ?_
      refine eR_ildn_1 dX9_takeCoat_41 rfl ?_
      refine eR_iald (n := k9) dX9_takeCoat_42 th_209 (rfl) (by omega) (by decide) ?_
      refine eX_pcI (hU_s _ _ _ _) ?_
      refine eR_icmp_eq (tgt := 50) dX9_takeCoat_43 (by decide) (by first | exact rg_b01 _ | (unfold rg; omega)) (by first | exact rg_b01 _ | (unfold rg; omega)) (fun c43 => ?_) (fun c43 => ?_)
      · refine eR_ic dX9_takeCoat_50 ?_
        refine eR_ic dX9_takeCoat_51 ?_
        refine eR_aldn_0 dX9_takeCoat_52 rfl ?_
        refine eR_getI dX9_takeCoat_53 gf_X9_92 th_205 rfl ?_
        refine eX_pcI (congrFun (hU_a _ _ _ (by decide)) _) ?_
        obtain ⟨g11_, hg11_⟩ : ∃ g9, g9 = hU f9_ 209 k9 ↑vx8_ := ⟨_, rfl⟩
        rw [← hg11_]
        have Tg11_ : mT g11_ T n := by rw [hg11_]; exact mT_w Tf9_ (by omega) (by decide)
        have Pg11_ : pF h g11_ := by rw [hg11_]; exact pF_w Pf9_ (by unfold pS; omega)
        have Vg11_ : pV g11_ U := by rw [hg11_]; exact pV_w Vf9_ (by unfold vS; omega)
        have Og11_ : g11_ 205 17 = ((x8_.1 : Nat) : Int) := by rw [hg11_, hU_ne (by omega)]; exact Of9_
        have Xg11_ : g11_ 205 18 = ((x8_.2 : Nat) : Int) := by rw [hg11_, hU_ne (by omega)]; exact Xf9_
        have E208_g11_ : g11_ 208 k9 = ((x1_.1 : Nat) : Int) := by rw [hg11_, hU_ne (by omega)]; exact E208_f9_
        have E209_g11_ : g11_ 209 k9 = ((vx8_ : Nat) : Int) := by rw [hg11_]; exact hU_s _ _ _ _
        refine eR_callVi [_, _, _] rfl dX9_takeCoat_56 ok_mX9_want kw_984 rfl rfl th_205 rfl (Nat.le_of_ble_eq_true rfl) (d' := 0) (by decide) (Nat.le_of_ble_eq_true rfl) ?_
        refine sp_want_f (f := x8_.1) (by unfold rg; omega) Og11_ (by omega) (by omega) ?_
        refine eR_if_eq (tgt := 85) dX9_takeCoat_59 (by decide) (by first | exact rg_b01 _ | (unfold rg; omega)) (fun c59 => ?_) (fun c59 => absurd c59 (by decide))
        refine eR_vret dX9_takeCoat_85 rfl ?_
        refine k g11_ (pE_l (x := (x8_.1, x8_.2)) ?_ Pg11_ Og11_ Xg11_)
        unfold rdC
        simp only [ex1_, ex8_] <;> first | rfl | (rw [if_pos (by first | omega | exact Or.inr (by assumption) | exact Or.inl (by omega))]; done) | (rw [if_neg (by first | omega | (rintro (q1 | q1); omega; exact absurd q1 (by assumption)))]; done)
      · refine eR_ic dX9_takeCoat_46 ?_
        refine eR_goto (tgt := 51) dX9_takeCoat_47 (by decide) ?_
        refine eR_ic dX9_takeCoat_51 ?_
        refine eR_aldn_0 dX9_takeCoat_52 rfl ?_
        refine eR_getI dX9_takeCoat_53 gf_X9_92 th_205 rfl ?_
        refine eX_pcI (congrFun (hU_a _ _ _ (by decide)) _) ?_
        obtain ⟨g12_, hg12_⟩ : ∃ g9, g9 = hU f9_ 209 k9 ↑vx8_ := ⟨_, rfl⟩
        rw [← hg12_]
        have Tg12_ : mT g12_ T n := by rw [hg12_]; exact mT_w Tf9_ (by omega) (by decide)
        have Pg12_ : pF h g12_ := by rw [hg12_]; exact pF_w Pf9_ (by unfold pS; omega)
        have Vg12_ : pV g12_ U := by rw [hg12_]; exact pV_w Vf9_ (by unfold vS; omega)
        have Og12_ : g12_ 205 17 = ((x8_.1 : Nat) : Int) := by rw [hg12_, hU_ne (by omega)]; exact Of9_
        have Xg12_ : g12_ 205 18 = ((x8_.2 : Nat) : Int) := by rw [hg12_, hU_ne (by omega)]; exact Xf9_
        have E208_g12_ : g12_ 208 k9 = ((x1_.1 : Nat) : Int) := by rw [hg12_, hU_ne (by omega)]; exact E208_f9_
        have E209_g12_ : g12_ 209 k9 = ((vx8_ : Nat) : Int) := by rw [hg12_]; exact hU_s _ _ _ _
        refine eR_callVi [_, _, _] rfl dX9_takeCoat_56 ok_mX9_want kw_984 rfl rfl th_205 rfl (Nat.le_of_ble_eq_true rfl) (d' := 0) (by decide) (Nat.le_of_ble_eq_true rfl) ?_
        refine sp_want_f (f := x8_.1) (by unfold rg; omega) Og12_ (by omega) (by omega) ?_
        refine eR_if_eq (tgt := 85) dX9_takeCoat_59 (by decide) (by first | exact rg_b01 _ | (unfold rg; omega)) (fun c59 => ?_) (fun c59 => absurd c59 (by decide))
        refine eR_vret dX9_takeCoat_85 rfl ?_
        refine k g12_ (pE_l (x := (x8_.1, x8_.2)) ?_ Pg12_ Og12_ Xg12_)
        unfold rdC
        simp only [ex1_, ex8_] <;> first | rfl | (rw [if_pos (by first | omega | exact Or.inr (by assumption) | exact Or.inl (by omega))]; done) | (rw [if_neg (by first | omega | (rintro (q1 | q1); omega; exact absurd q1 (by assumption)))]; done)
    · have nx8_ := num_r (by omega) ex8_
      have Th10_ : mT h10_ T n := mT_p Tg7_ px8_
      have Ph10_ : pF h h10_ := pF_tr Pg7_ (pF_of px8_)
      have Vh10_ : pV h10_ U := pV_p Vg7_ px8_
      have Ah10_ : h10_ 205 14 = ((x8_.2.2 : Nat) : Int) := ax8_
      have Fh10_ : h10_ 205 15 = ((x8_.2.1 : Nat) : Int) := bx8_
      have Oh10_ : h10_ 205 17 = (0 : Int) := ox8_
      have Xh10_ : h10_ 205 18 = (h 205 18 : Int) := fx8_.trans Xg7_
      have E208_h10_ : h10_ 208 k9 = ((x1_.1 : Nat) : Int) := (px8_ 208 k9 (by omega)).trans E208_g7_
      refine eR_iast (n := k9) dX9_takeCoat_29 th_209 (rfl) (by omega) (by decide) ?_
      refine eR_aldn_0 dX9_takeCoat_30 rfl ?_
      refine eR_aldn_0 dX9_takeCoat_31 rfl ?_
      refine eR_getR (i := 208) dX9_takeCoat_32 gf_X9_17 th_205 rfl ?_
      refine eR_ildn_1 dX9_takeCoat_35 rfl ?_
      refine eR_iald (n := k9) dX9_takeCoat_36 th_208 (rfl) (by omega) (by decide) ?_
      refine eX_pcI (congrFun (hU_a _ _ _ (by decide)) _) ?_
      refine eX_pcI (E208_h10_) ?_
      refine eR_aldn_0 dX9_takeCoat_37 rfl ?_
      refine eR_getR (i := 209) dX9_takeCoat_38 gf_X9_20 th_205 rfl ?_
      refine eR_ildn_1 dX9_takeCoat_41 rfl ?_
      refine eR_iald (n := k9) dX9_takeCoat_42 th_209 (rfl) (by omega) (by decide) ?_
      refine eX_pcI (hU_s _ _ _ _) ?_
      refine eR_icmp_eq (tgt := 50) dX9_takeCoat_43 (by decide) (by first | exact rg_b01 _ | (unfold rg; omega)) (by first | exact rg_b01 _ | (unfold rg; omega)) (fun c43 => ?_) (fun c43 => ?_)
      · refine eR_ic dX9_takeCoat_50 ?_
        refine eR_ic dX9_takeCoat_51 ?_
        refine eR_aldn_0 dX9_takeCoat_52 rfl ?_
        refine eR_getI dX9_takeCoat_53 gf_X9_92 th_205 rfl ?_
        refine eX_pcI (congrFun (hU_a _ _ _ (by decide)) _) ?_
        refine eX_pcI (Fh10_) ?_
        obtain ⟨g13_, hg13_⟩ : ∃ g9, g9 = hU h10_ 209 k9 ↑x8_.1 := ⟨_, rfl⟩
        rw [← hg13_]
        have Tg13_ : mT g13_ T n := by rw [hg13_]; exact mT_w Th10_ (by omega) (by decide)
        have Pg13_ : pF h g13_ := by rw [hg13_]; exact pF_w Ph10_ (by unfold pS; omega)
        have Vg13_ : pV g13_ U := by rw [hg13_]; exact pV_w Vh10_ (by unfold vS; omega)
        have Ag13_ : g13_ 205 14 = ((x8_.2.2 : Nat) : Int) := by rw [hg13_, hU_ne (by omega)]; exact Ah10_
        have Fg13_ : g13_ 205 15 = ((x8_.2.1 : Nat) : Int) := by rw [hg13_, hU_ne (by omega)]; exact Fh10_
        have Og13_ : g13_ 205 17 = (0 : Int) := by rw [hg13_, hU_ne (by omega)]; exact Oh10_
        have Xg13_ : g13_ 205 18 = (h 205 18 : Int) := by rw [hg13_, hU_ne (by omega)]; exact Xh10_
        have E208_g13_ : g13_ 208 k9 = ((x1_.1 : Nat) : Int) := by rw [hg13_, hU_ne (by omega)]; exact E208_h10_
        have E209_g13_ : g13_ 209 k9 = ((x8_.1 : Nat) : Int) := by rw [hg13_]; exact hU_s _ _ _ _
        refine eR_callVi [_, _, _] rfl dX9_takeCoat_56 ok_mX9_want kw_984 rfl rfl th_205 rfl (Nat.le_of_ble_eq_true rfl) (d' := 0) (by decide) (Nat.le_of_ble_eq_true rfl) ?_
        refine sp_want_n (nb := 4) Og13_ (by decide) (by decide) ?_
        refine eR_if_eq (tgt := 85) dX9_takeCoat_59 (by decide) (by first | exact rg_b01 _ | (unfold rg; omega)) (fun c59 => ?_) (fun c59 => absurd c59 (by decide))
        refine eR_vret dX9_takeCoat_85 rfl ?_
        obtain ⟨g14_, hg14_⟩ : ∃ g9, g9 = hU g13_ 205 17 ↑(4 : Nat) := ⟨_, rfl⟩
        rw [← hg14_]
        have Tg14_ : mT g14_ T n := by rw [hg14_]; exact mT_w Tg13_ (by omega) (by decide)
        have Pg14_ : pF h g14_ := by rw [hg14_]; exact pF_w Pg13_ (by unfold pS; omega)
        have Vg14_ : pV g14_ U := by rw [hg14_]; exact pV_w Vg13_ (by unfold vS; omega)
        have Ag14_ : g14_ 205 14 = ((x8_.2.2 : Nat) : Int) := by rw [hg14_, hU_ne (by omega)]; exact Ag13_
        have Fg14_ : g14_ 205 15 = ((x8_.2.1 : Nat) : Int) := by rw [hg14_, hU_ne (by omega)]; exact Fg13_
        have Og14_ : g14_ 205 17 = (((4 : Nat) : Nat) : Int) := by rw [hg14_]; exact hU_s _ _ _ _
        have Xg14_ : g14_ 205 18 = (h 205 18 : Int) := by rw [hg14_, hU_ne (by omega)]; exact Xg13_
        have E208_g14_ : g14_ 208 k9 = ((x1_.1 : Nat) : Int) := by rw [hg14_, hU_ne (by omega)]; exact E208_g13_
        have E209_g14_ : g14_ 209 k9 = ((x8_.1 : Nat) : Int) := by rw [hg14_, hU_ne (by omega)]; exact E209_g13_
        obtain ⟨g15_, hg15_⟩ : ∃ g9, g9 = hU g14_ 205 18 ↑x8_.2.1 := ⟨_, rfl⟩
        rw [← hg15_]
        have Tg15_ : mT g15_ T n := by rw [hg15_]; exact mT_w Tg14_ (by omega) (by decide)
        have Pg15_ : pF h g15_ := by rw [hg15_]; exact pF_w Pg14_ (by unfold pS; omega)
        have Vg15_ : pV g15_ U := by rw [hg15_]; exact pV_w Vg14_ (by unfold vS; omega)
        have Ag15_ : g15_ 205 14 = ((x8_.2.2 : Nat) : Int) := by rw [hg15_, hU_ne (by omega)]; exact Ag14_
        have Fg15_ : g15_ 205 15 = ((x8_.2.1 : Nat) : Int) := by rw [hg15_, hU_ne (by omega)]; exact Fg14_
        have Og15_ : g15_ 205 17 = (((4 : Nat) : Nat) : Int) := by rw [hg15_, hU_ne (by omega)]; exact Og14_
        have Xg15_ : g15_ 205 18 = ((x8_.2.1 : Nat) : Int) := by rw [hg15_]; exact hU_s _ _ _ _
        have E208_g15_ : g15_ 208 k9 = ((x1_.1 : Nat) : Int) := by rw [hg15_, hU_ne (by omega)]; exact E208_g14_
        have E209_g15_ : g15_ 209 k9 = ((x8_.1 : Nat) : Int) := by rw [hg15_, hU_ne (by omega)]; exact E209_g14_
        refine k g15_ (pE_l (x := ((4 : Nat), x8_.2.1)) ?_ Pg15_ Og15_ Xg15_)
        unfold rdC
        simp only [ex1_, ex8_] <;> first | rfl | (rw [if_pos (by first | omega | exact Or.inr (by assumption) | exact Or.inl (by omega))]; done) | (rw [if_neg (by first | omega | (rintro (q1 | q1); omega; exact absurd q1 (by assumption)))]; done)
      · refine eR_ic dX9_takeCoat_46 ?_
        refine eR_goto (tgt := 51) dX9_takeCoat_47 (by decide) ?_
        refine eR_ic dX9_takeCoat_51 ?_
        refine eR_aldn_0 dX9_takeCoat_52 rfl ?_
        refine eR_getI dX9_takeCoat_53 gf_X9_92 th_205 rfl ?_
        refine eX_pcI (congrFun (hU_a _ _ _ (by decide)) _) ?_
        refine eX_pcI (Fh10_) ?_
        obtain ⟨g16_, hg16_⟩ : ∃ g9, g9 = hU h10_ 209 k9 ↑x8_.1 := ⟨_, rfl⟩
        rw [← hg16_]
        have Tg16_ : mT g16_ T n := by rw [hg16_]; exact mT_w Th10_ (by omega) (by decide)
        have Pg16_ : pF h g16_ := by rw [hg16_]; exact pF_w Ph10_ (by unfold pS; omega)
        have Vg16_ : pV g16_ U := by rw [hg16_]; exact pV_w Vh10_ (by unfold vS; omega)
        have Ag16_ : g16_ 205 14 = ((x8_.2.2 : Nat) : Int) := by rw [hg16_, hU_ne (by omega)]; exact Ah10_
        have Fg16_ : g16_ 205 15 = ((x8_.2.1 : Nat) : Int) := by rw [hg16_, hU_ne (by omega)]; exact Fh10_
        have Og16_ : g16_ 205 17 = (0 : Int) := by rw [hg16_, hU_ne (by omega)]; exact Oh10_
        have Xg16_ : g16_ 205 18 = (h 205 18 : Int) := by rw [hg16_, hU_ne (by omega)]; exact Xh10_
        have E208_g16_ : g16_ 208 k9 = ((x1_.1 : Nat) : Int) := by rw [hg16_, hU_ne (by omega)]; exact E208_h10_
        have E209_g16_ : g16_ 209 k9 = ((x8_.1 : Nat) : Int) := by rw [hg16_]; exact hU_s _ _ _ _
        refine eR_callVi [_, _, _] rfl dX9_takeCoat_56 ok_mX9_want kw_984 rfl rfl th_205 rfl (Nat.le_of_ble_eq_true rfl) (d' := 0) (by decide) (Nat.le_of_ble_eq_true rfl) ?_
        refine sp_want_y (nb := 4) Og16_ ?_
        refine eR_if_eq (tgt := 85) dX9_takeCoat_59 (by decide) (by first | exact rg_b01 _ | (unfold rg; omega)) (fun c59 => absurd c59 (by decide)) (fun c59 => ?_)
        refine eR_aldn_0 dX9_takeCoat_62 rfl ?_
        refine eR_getR (i := 210) dX9_takeCoat_63 gf_X9_23 th_205 rfl ?_
        refine eR_ildn_1 dX9_takeCoat_66 rfl ?_
        refine eR_aldn_0 dX9_takeCoat_67 rfl ?_
        refine eR_ic dX9_takeCoat_68 ?_
        refine eR_bi (z := 99) dX9_takeCoat_69 rfl ?_
        refine eR_callVi [_, _] rfl dX9_takeCoat_71 ok_mX9_takeNumber kw_988 rfl rfl th_205 rfl (Nat.le_of_ble_eq_true rfl) (d' := 1) (by decide) (Nat.le_of_ble_eq_true rfl) ?_
        refine sp_takeNumber (i := x8_.2.2) (lo := 1) (hi := 99) B Tg16_ (by omega) (by decide) (by decide) Ag16_ Og16_ (fun x17_ vx17_ f18_ ex17_ hvx17_ px17_ ox17_ fx17_ => ?_) (fun x17_ h19_ ex17_ px17_ ax17_ bx17_ ox17_ fx17_ => ?_)
        · have nx17_ := num_l (by omega) ex17_
          have Tf18_ : mT f18_ T n := mT_p Tg16_ px17_
          have Pf18_ : pF h f18_ := pF_tr Pg16_ (pF_of px17_)
          have Vf18_ : pV f18_ U := pV_p Vg16_ px17_
          have Of18_ : f18_ 205 17 = ((x17_.1 : Nat) : Int) := ox17_
          have Xf18_ : f18_ 205 18 = ((x17_.2 : Nat) : Int) := fx17_
          have E208_f18_ : f18_ 208 k9 = ((x1_.1 : Nat) : Int) := (px17_ 208 k9 (by omega)).trans E208_g16_
          have E209_f18_ : f18_ 209 k9 = ((x8_.1 : Nat) : Int) := (px17_ 209 k9 (by omega)).trans E209_g16_
          refine eR_iast (n := k9) dX9_takeCoat_74 th_210 (rfl) (by omega) (by decide) ?_
          refine eR_aldn_0 dX9_takeCoat_75 rfl ?_
          refine eR_getR (i := 217) dX9_takeCoat_76 gf_X9_44 th_205 rfl ?_
          refine eR_ic dX9_takeCoat_79 ?_
          refine eR_dup2 dX9_takeCoat_80 rfl rfl ?_
          refine eR_iald (n := 5) dX9_takeCoat_81 th_217 (rfl) (by decide) (by decide) ?_
          refine eX_pcI (congrFun (hU_a _ _ _ (by decide)) _) ?_
          refine eX_pcI (Vf18_.2.1) ?_
          refine eR_ic dX9_takeCoat_82 ?_
          refine eR_iadd dX9_takeCoat_83 ?_
          refine eR_iast (n := 5) dX9_takeCoat_84 th_217 (rfl) (by decide) (by decide) ?_
          refine eR_vret dX9_takeCoat_85 rfl ?_
          obtain ⟨g20_, hg20_⟩ : ∃ g9, g9 = hU f18_ 210 k9 ↑vx17_ := ⟨_, rfl⟩
          rw [← hg20_]
          have Tg20_ : mT g20_ T n := by rw [hg20_]; exact mT_w Tf18_ (by omega) (by decide)
          have Pg20_ : pF h g20_ := by rw [hg20_]; exact pF_w Pf18_ (by unfold pS; omega)
          have Vg20_ : pV g20_ U := by rw [hg20_]; exact pV_w Vf18_ (by unfold vS; omega)
          have Og20_ : g20_ 205 17 = ((x17_.1 : Nat) : Int) := by rw [hg20_, hU_ne (by omega)]; exact Of18_
          have Xg20_ : g20_ 205 18 = ((x17_.2 : Nat) : Int) := by rw [hg20_, hU_ne (by omega)]; exact Xf18_
          have E208_g20_ : g20_ 208 k9 = ((x1_.1 : Nat) : Int) := by rw [hg20_, hU_ne (by omega)]; exact E208_f18_
          have E209_g20_ : g20_ 209 k9 = ((x8_.1 : Nat) : Int) := by rw [hg20_, hU_ne (by omega)]; exact E209_f18_
          have E210_g20_ : g20_ 210 k9 = ((vx17_ : Nat) : Int) := by rw [hg20_]; exact hU_s _ _ _ _
          obtain ⟨g21_, hg21_⟩ : ∃ g9, g9 = hU g20_ 217 5 (↑(sC U.1) + 1) := ⟨_, rfl⟩
          rw [← hg21_]
          have Tg21_ : mT g21_ T n := by rw [hg21_]; exact mT_w Tg20_ (by omega) (by decide)
          have Pg21_ : pF h g21_ := by rw [hg21_]; exact pF_w Pg20_ (by unfold pS; omega)
          have Og21_ : g21_ 205 17 = ((x17_.1 : Nat) : Int) := by rw [hg21_, hU_ne (by omega)]; exact Og20_
          have Xg21_ : g21_ 205 18 = ((x17_.2 : Nat) : Int) := by rw [hg21_, hU_ne (by omega)]; exact Xg20_
          have E208_g21_ : g21_ 208 k9 = ((x1_.1 : Nat) : Int) := by rw [hg21_, hU_ne (by omega)]; exact E208_g20_
          have E209_g21_ : g21_ 209 k9 = ((x8_.1 : Nat) : Int) := by rw [hg21_, hU_ne (by omega)]; exact E209_g20_
          have E210_g21_ : g21_ 210 k9 = ((vx17_ : Nat) : Int) := by rw [hg21_, hU_ne (by omega)]; exact E210_g20_
          refine k g21_ (pE_l (x := (x17_.1, x17_.2)) ?_ Pg21_ Og21_ Xg21_)
          unfold rdC
          simp only [ex1_, ex8_, ex17_] <;> first | rfl | (rw [if_pos (by first | omega | exact Or.inr (by assumption) | exact Or.inl (by omega))]; done) | (rw [if_neg (by first | omega | (rintro (q1 | q1); omega; exact absurd q1 (by assumption)))]; done)
        · have nx17_ := num_r (by omega) ex17_
          have Th19_ : mT h19_ T n := mT_p Tg16_ px17_
          have Ph19_ : pF h h19_ := pF_tr Pg16_ (pF_of px17_)
          have Vh19_ : pV h19_ U := pV_p Vg16_ px17_
          have Ah19_ : h19_ 205 14 = ((x17_.2.2 : Nat) : Int) := ax17_
          have Fh19_ : h19_ 205 15 = ((x17_.2.1 : Nat) : Int) := bx17_
          have Oh19_ : h19_ 205 17 = (0 : Int) := ox17_
          have Xh19_ : h19_ 205 18 = (h 205 18 : Int) := fx17_.trans Xg16_
          have E208_h19_ : h19_ 208 k9 = ((x1_.1 : Nat) : Int) := (px17_ 208 k9 (by omega)).trans E208_g16_
          have E209_h19_ : h19_ 209 k9 = ((x8_.1 : Nat) : Int) := (px17_ 209 k9 (by omega)).trans E209_g16_
          refine eR_iast (n := k9) dX9_takeCoat_74 th_210 (rfl) (by omega) (by decide) ?_
          refine eR_aldn_0 dX9_takeCoat_75 rfl ?_
          refine eR_getR (i := 217) dX9_takeCoat_76 gf_X9_44 th_205 rfl ?_
          refine eR_ic dX9_takeCoat_79 ?_
          refine eR_dup2 dX9_takeCoat_80 rfl rfl ?_
          refine eR_iald (n := 5) dX9_takeCoat_81 th_217 (rfl) (by decide) (by decide) ?_
          refine eX_pcI (congrFun (hU_a _ _ _ (by decide)) _) ?_
          refine eX_pcI (Vh19_.2.1) ?_
          refine eR_ic dX9_takeCoat_82 ?_
          refine eR_iadd dX9_takeCoat_83 ?_
          refine eR_iast (n := 5) dX9_takeCoat_84 th_217 (rfl) (by decide) (by decide) ?_
          refine eR_vret dX9_takeCoat_85 rfl ?_
          obtain ⟨g22_, hg22_⟩ : ∃ g9, g9 = hU h19_ 210 k9 ↑x17_.1 := ⟨_, rfl⟩
          rw [← hg22_]
          have Tg22_ : mT g22_ T n := by rw [hg22_]; exact mT_w Th19_ (by omega) (by decide)
          have Pg22_ : pF h g22_ := by rw [hg22_]; exact pF_w Ph19_ (by unfold pS; omega)
          have Vg22_ : pV g22_ U := by rw [hg22_]; exact pV_w Vh19_ (by unfold vS; omega)
          have Ag22_ : g22_ 205 14 = ((x17_.2.2 : Nat) : Int) := by rw [hg22_, hU_ne (by omega)]; exact Ah19_
          have Fg22_ : g22_ 205 15 = ((x17_.2.1 : Nat) : Int) := by rw [hg22_, hU_ne (by omega)]; exact Fh19_
          have Og22_ : g22_ 205 17 = (0 : Int) := by rw [hg22_, hU_ne (by omega)]; exact Oh19_
          have Xg22_ : g22_ 205 18 = (h 205 18 : Int) := by rw [hg22_, hU_ne (by omega)]; exact Xh19_
          have E208_g22_ : g22_ 208 k9 = ((x1_.1 : Nat) : Int) := by rw [hg22_, hU_ne (by omega)]; exact E208_h19_
          have E209_g22_ : g22_ 209 k9 = ((x8_.1 : Nat) : Int) := by rw [hg22_, hU_ne (by omega)]; exact E209_h19_
          have E210_g22_ : g22_ 210 k9 = ((x17_.1 : Nat) : Int) := by rw [hg22_]; exact hU_s _ _ _ _
          refine k _ (pE_r (U := uO U (adC U.1 (x1_.1) (x8_.1) (x17_.1))) (j := x17_.2.2) ?_ (pF_w Pg22_ (by unfold pS; omega)) (pV_adC Vg22_ (by rw [← hk9]; exact E208_g22_) (by rw [← hk9]; exact E209_g22_) (by rw [← hk9]; exact E210_g22_)) ((hU_ne (by omega)).trans Ag22_) ((hU_ne (by omega)).trans Og22_) ((hU_ne (by omega)).trans Xg22_))
          unfold rdC
          simp only [ex1_, ex8_, ex17_] <;> first | rfl | (rw [if_neg (by first | omega | (rintro (q1 | q1); omega; exact absurd q1 (by assumption)))]; done)
end M35
