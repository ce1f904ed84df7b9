/-! what holds between two calls of the law -/
abbrev LW : Type := TS × Nat × (Nat → Nat) × Nat × Int × Nat × (Nat → Nat → Nat) × Nat × (Nat → Nat → Nat) × (Nat → Bool) × (Nat → TS) × (Nat → Nat)
abbrev wdS (w : LW) : TS := w.1
abbrev wdN (w : LW) : Nat := w.2.1
abbrev wdT (w : LW) : (Nat → Nat) := w.2.2.1
abbrev wdX (w : LW) : Nat := w.2.2.2.1
abbrev wdZ (w : LW) : Int := w.2.2.2.2.1
abbrev wdSn (w : LW) : Nat := w.2.2.2.2.2.1
abbrev wdSg (w : LW) : (Nat → Nat → Nat) := w.2.2.2.2.2.2.1
abbrev wdBn (w : LW) : Nat := w.2.2.2.2.2.2.2.1
abbrev wdBk (w : LW) : (Nat → Nat → Nat) := w.2.2.2.2.2.2.2.2.1
abbrev wdK (w : LW) : (Nat → Bool) := w.2.2.2.2.2.2.2.2.2.1
abbrev wdI (w : LW) : (Nat → TS) := w.2.2.2.2.2.2.2.2.2.2.1
abbrev wdY (w : LW) : (Nat → Nat) := w.2.2.2.2.2.2.2.2.2.2.2
abbrev uSX (w : LW) (S : TS) (x : Nat) : LW := (S, wdN w, wdT w, x, wdZ w, wdSn w, wdSg w, wdBn w, wdBk w, wdK w, wdI w, wdY w)
def imV (h : PH) (m : Nat) (S2 : TS) (y : Nat) : Prop := (∀ c, c < sC S2 → h 206 (20 * (1 + m) + c) = (sO S2 c 0 : Int) ∧ h 206 (20 * (1 + m) + (8 + c)) = (sO S2 c 1 : Int)) ∧ h 206 (20 * (1 + m) + 16) = (sK S2 : Int) ∧ h 206 (20 * (1 + m) + 17) = (sF S2 : Int) ∧ h 206 (20 * (1 + m) + 18) = (y : Int)
def lP (w : LW) : Prop := sB (wdS w) ∧ tB (wdT w) (wdN w) ∧ (wdX w) < 2147483648 ∧ rg (wdZ w) ∧ sgB (wdS w) (wdSn w) (wdSg w) ∧ bkB (wdS w) (wdBn w) (wdBk w) ∧ ∀ m, m < 2 → (wdK w) m = true → smT (wdS w) ((wdI w) m) ∧ sB ((wdI w) m) ∧ (wdY w) m < 2147483648
def lC (t : Nat) (h : PH) (w : LW) : Prop := cV h t (wdS w) ∧ cT h (wdT w) (wdN w) ∧ h 0 9 = ((wdX w) : Int) ∧ h 0 10 = (wdZ w) ∧ sgC h (wdSn w) (wdSg w) ∧ bkC h (wdBn w) (wdBk w) ∧ ∀ m, m < 2 → ((wdK w) m = false → h (103 + 10 * m) 0 = 0) ∧ ((wdK w) m = true → h (103 + 10 * m) 0 = 1 ∧ imC h (wdS w) (103 + 10 * m) ((wdI w) m) ((wdY w) m))
def lM (h : PH) (w : LW) : Prop := mV h (wdS w) ∧ mT h (wdT w) (wdN w) ∧ h 206 18 = ((wdX w) : Int) ∧ h 205 18 = (wdZ w) ∧ sgV h (wdSn w) (wdSg w) ∧ bkV h (wdBn w) (wdBk w) ∧ ∀ m, m < 2 → ((wdK w) m = false → h 207 m = 0) ∧ ((wdK w) m = true → h 207 m = 1 ∧ imV h m ((wdI w) m) ((wdY w) m))
/-- the class's cells, the reference's cells -/
def cLo (h h1 : PH) : Prop := ∀ a, 205 ≤ a → h1 a = h a
def mHi (h h1 : PH) : Prop := ∀ a, a < 205 → h1 a = h a
section M66
variable {t s : Nat} {h h1 : PH} {w : LW} {S' : TS} {x' : Nat}
theorem mV_m {S : TS} (V : mV h S) (B : sB S) (e : ∀ a i, ((a = 206 ∧ i < 18) ∨ a = 210 ∨ a = 211 ∨ a = 212 ∨ a = 213 ∨ a = 214 ∨ a = 215 ∨ a = 217) → h1 a i = h a i) : mV h1 S := by
  obtain ⟨v1, v2, v3, v4, v5, v6, v7, v8⟩ := V
  have hC := B.2.1
  refine ⟨(e _ _ (by omega)).trans v1, (e _ _ (by omega)).trans v2, (e _ _ (by omega)).trans v3, fun c hc => ?_, fun c hc => ?_, (e _ _ (by omega)).trans v6, (e _ _ (by omega)).trans v7, fun p q hp hq => (e _ _ (by omega)).trans (v8 p q hp hq)⟩
  · rw [e _ _ (by omega), e _ _ (by omega), e _ _ (by omega)]; exact v4 c hc
  · rw [e _ _ (by omega), e _ _ (by omega), e _ _ (by omega), e _ _ (by omega)]; exact v5 c hc
theorem cT_m {TX : Nat → Nat} {n : Nat} (V : cT h TX n) (e : ∀ a i, ((a = 1 ∧ i = 1) ∨ a = 2) → h1 a i = h a i) : cT h1 TX n := ⟨(e _ _ (by omega)).trans V.1, fun x hx => (e _ _ (by omega)).trans (V.2 x hx)⟩
theorem mT_m {TX : Nat → Nat} {n : Nat} (V : mT h TX n) (e : ∀ a i, ((a = 205 ∧ i = 13) ∨ a = 218) → h1 a i = h a i) : mT h1 TX n := ⟨(e _ _ (by omega)).trans V.1, fun x hx => (e _ _ (by omega)).trans (V.2 x hx)⟩
theorem sgC_m {n : Nat} {sg : Nat → Nat → Nat} (V : sgC h n sg) (hn : n ≤ 30) (e : ∀ a i, ((a = 38 ∧ i = 1) ∨ (40 ≤ a ∧ a < 70)) → h1 a i = h a i) : sgC h1 n sg := ⟨(e _ _ (by omega)).trans V.1, fun i hi => by rw [e _ _ (by omega), e _ _ (by omega), e _ _ (by omega)]; exact V.2 i hi⟩
theorem bkC_m {n : Nat} {sg : Nat → Nat → Nat} (V : bkC h n sg) (hn : n ≤ 30) (e : ∀ a i, ((a = 70 ∧ i = 1) ∨ (72 ≤ a ∧ a < 102)) → h1 a i = h a i) : bkC h1 n sg := ⟨(e _ _ (by omega)).trans V.1, fun i hi => by rw [e _ _ (by omega), e _ _ (by omega), e _ _ (by omega)]; exact V.2 i hi⟩
theorem sgV_m {n : Nat} {sg : Nat → Nat → Nat} (V : sgV h n sg) (e : ∀ a i, ((a = 205 ∧ i = 26) ∨ a = 222) → h1 a i = h a i) : sgV h1 n sg := ⟨(e _ _ (by omega)).trans V.1, fun i hi => by rw [e _ _ (by omega), e _ _ (by omega), e _ _ (by omega)]; exact V.2 i hi⟩
theorem bkV_m {n : Nat} {sg : Nat → Nat → Nat} (V : bkV h n sg) (e : ∀ a i, ((a = 205 ∧ i = 28) ∨ a = 223) → h1 a i = h a i) : bkV h1 n sg := ⟨(e _ _ (by omega)).trans V.1, fun i hi => by rw [e _ _ (by omega), e _ _ (by omega), e _ _ (by omega)]; exact V.2 i hi⟩
theorem imC_m {S S2 : TS} {m y : Nat} (I : imC h S (103 + 10 * m) S2 y) (hm : m < 2) (hC : sC S ≤ 8) (sm : smT S S') (e : ∀ a i, (103 + 10 * m ≤ a ∧ a < 103 + 10 * m + 10) → h1 a i = h a i) : imC h1 S' (103 + 10 * m) S2 y :=
  ⟨smT_tr (smT_sy sm) I.1, (e _ _ (by omega)).trans I.2.1, (e _ _ (by omega)).trans I.2.2.1, (e _ _ (by omega)).trans I.2.2.2.1, fun c k hc hk => by
    have hc2 : c < sC S := by rw [← sm.2.1]; exact hc
    exact (e _ _ (by omega)).trans (I.2.2.2.2 c k hc2 hk)⟩
theorem imV_m {S2 : TS} {m y : Nat} (I : imV h m S2 y) (e : ∀ i, 20 * (1 + m) ≤ i → i < 20 * (1 + m) + 20 → h1 206 i = h 206 i) (hC : sC S2 ≤ 8) : imV h1 m S2 y :=
  ⟨fun c hc => by rw [e _ (by omega) (by omega), e _ (by omega) (by omega)]; exact I.1 c hc, (e _ (by omega) (by omega)).trans I.2.1, (e _ (by omega) (by omega)).trans I.2.2.1, (e _ (by omega) (by omega)).trans I.2.2.2⟩
theorem lC_S (P : lP w) (I : lC t h w) (m : smT (wdS w) S') (V' : cV h1 t S') (hx : h1 0 9 = (x' : Int)) (e : ∀ a i, ((a = 0 ∧ i = 10) ∨ (a = 1 ∧ i = 1) ∨ a = 2 ∨ (38 ≤ a ∧ a < 123)) → h1 a i = h a i) : lC t h1 (uSX w S' x') := by
  obtain ⟨i1, i2, i3, i4, i5, i6, i7⟩ := I
  obtain ⟨p1, p2, p3, p4, p5, p6, p7⟩ := P
  refine ⟨V', cT_m i2 (fun a i q => e a i (by omega)), hx, (e _ _ (by omega)).trans i4, sgC_m i5 p5.1 (fun a i q => e a i (by omega)), bkC_m i6 p6.1 (fun a i q => e a i (by omega)), fun m9 hm => ⟨fun hk => (e _ _ (by omega)).trans ((i7 m9 hm).1 hk), fun hk => ?_⟩⟩
  obtain ⟨q1, q2⟩ := (i7 m9 hm).2 hk
  exact ⟨(e _ _ (by omega)).trans q1, imC_m q2 hm p1.2.1 m (fun a i q => e a i (by omega))⟩
theorem lC_m (P : lP w) (I : lC t h w) (e : ∀ a i, ((t ≤ a ∧ a < t + 41) ∨ (a = 0 ∧ (i = 9 ∨ i = 10)) ∨ (a = 1 ∧ i = 1) ∨ a = 2 ∨ (38 ≤ a ∧ a < 123)) → h1 a i = h a i) : lC t h1 w :=
  lC_S (S' := (wdS w)) (x' := wdX w) P I (smT_rf _) (cV_of P.1 I.1 (fun a q1 q2 => funext fun i => e a i (by omega))) ((e _ _ (by omega)).trans I.2.2.1) (fun a i q => e a i (by omega))
theorem lM_S (P : lP w) (I : lM h w) (M' : mV h1 S') (hx : h1 206 18 = (x' : Int)) (e : ∀ a i, ((a = 205 ∧ (i = 13 ∨ i = 18 ∨ i = 26 ∨ i = 28)) ∨ (a = 206 ∧ 20 ≤ i) ∨ a = 207 ∨ a = 218 ∨ a = 222 ∨ a = 223) → h1 a i = h a i) : lM h1 (uSX w S' x') := by
  obtain ⟨i1, i2, i3, i4, i5, i6, i7⟩ := I
  obtain ⟨p1, p2, p3, p4, p5, p6, p7⟩ := P
  refine ⟨M', mT_m i2 (fun a i q => e a i (by omega)), hx, (e _ _ (by omega)).trans i4, sgV_m i5 (fun a i q => e a i (by omega)), bkV_m i6 (fun a i q => e a i (by omega)), fun m9 hm => ⟨fun hk => (e _ _ (by omega)).trans ((i7 m9 hm).1 hk), fun hk => ?_⟩⟩
  obtain ⟨q1, q2⟩ := (i7 m9 hm).2 hk
  exact ⟨(e _ _ (by omega)).trans q1, imV_m q2 (fun i r1 r2 => e _ _ (by omega)) (p7 m9 hm hk).2.1.2.1⟩
theorem lM_m (P : lP w) (I : lM h w) (e : ∀ a i, ((a = 205 ∧ (i = 13 ∨ i = 18 ∨ i = 26 ∨ i = 28)) ∨ a = 206 ∨ a = 207 ∨ a = 210 ∨ a = 211 ∨ a = 212 ∨ a = 213 ∨ a = 214 ∨ a = 215 ∨ a = 217 ∨ a = 218 ∨ a = 222 ∨ a = 223) → h1 a i = h a i) : lM h1 w :=
  lM_S (S' := (wdS w)) (x' := wdX w) P I (mV_m I.1 P.1 (fun a i q => e a i (by omega))) ((e _ _ (by omega)).trans I.2.2.1) (fun a i q => e a i (by omega))
def sg2 (S : TS) (sg : Nat → Nat → Nat) (i : Nat) : Prop := sg i 0 < sC S ∧ sg i 1 < 6 ∧ sg i 2 < 24
def bk2 (S : TS) (bk : Nat → Nat → Nat) (i : Nat) : Prop := bk i 0 < 24 ∧ bk i 1 < sC S ∧ bk i 2 < 4
theorem sg2_of {S : TS} {sg : Nat → Nat → Nat} {i : Nat} (m : smT S S') (q : sg2 S sg i) : sg2 S' sg i := by unfold sg2; rw [m.2.1]; exact q
theorem bk2_of {S : TS} {sg : Nat → Nat → Nat} {i : Nat} (m : smT S S') (q : bk2 S sg i) : bk2 S' sg i := by unfold bk2; rw [m.2.1]; exact q
theorem lP_S (P : lP w) (m : smT (wdS w) S') (B' : sB S') (hx : x' < 2147483648) : lP (uSX w S' x') := by
  obtain ⟨p1, p2, p3, p4, p5, p6, p7⟩ := P
  exact ⟨B', p2, hx, p4, ⟨p5.1, fun i hi => by show sg2 S' (wdSg w) i; exact sg2_of m (p5.2 i hi)⟩, ⟨p6.1, fun i hi => by show bk2 S' (wdBk w) i; exact bk2_of m (p6.2 i hi)⟩, fun m9 hm hk => ⟨smT_tr (smT_sy m) (p7 m9 hm hk).1, (p7 m9 hm hk).2⟩⟩
theorem lC_hi (P : lP w) (ht : t + 41 ≤ 205) (I : lC t h w) (e : mHi h h1) : lC t h1 w := lC_m P I (fun a i q => congrFun (e a (by omega)) i)
theorem lM_lo (P : lP w) (I : lM h w) (e : cLo h h1) : lM h1 w := lM_m P I (fun a i q => congrFun (e a (by omega)) i)
end M66
