abbrev uT (w : LW) (TX : Nat → Nat) (n : Nat) : LW := (wdS w, n, TX, wdX w, wdZ w, wdSn w, wdSg w, wdBn w, wdBk w, wdK w, wdI w, wdY w)
abbrev uG (w : LW) (n : Nat) (sg : Nat → Nat → Nat) : LW := (wdS w, wdN w, wdT w, wdX w, wdZ w, n, sg, wdBn w, wdBk w, wdK w, wdI w, wdY w)
abbrev uB2 (w : LW) (n : Nat) (bk : Nat → Nat → Nat) : LW := (wdS w, wdN w, wdT w, wdX w, wdZ w, wdSn w, wdSg w, n, bk, wdK w, wdI w, wdY w)
abbrev uZf (w : LW) (n : Nat) (z : Int) : LW := (wdS w, n, wdT w, wdX w, z, wdSn w, wdSg w, wdBn w, wdBk w, wdK w, wdI w, wdY w)
abbrev uK (w : LW) (m : Nat) : LW := (wdS w, wdN w, wdT w, wdX w, wdZ w, wdSn w, wdSg w, wdBn w, wdBk w, (fun j => if j = m then true else wdK w j), (fun j => if j = m then wdS w else wdI w j), (fun j => if j = m then wdX w else wdY w j))
abbrev uTw (w : LW) (S : TS) : LW := (S, 0, wdT w, wdX w, -1, 0, wdSg w, 0, wdBk w, (fun _ => false), wdI w, wdY w)
section M67
variable {t s n m : Nat} {h h1 : PH} {w : LW} {TX : Nat → Nat} {sg bk : Nat → Nat → Nat} {z : Int}
theorem lC_T (P : lP w) (h123 : 123 ≤ t) (I : lC t h w) (V9 : cT h1 TX n) (e : ∀ a i, ¬ (a = 2 ∨ (a = 1 ∧ i = 1)) → h1 a i = h a i) : lC t h1 (uT w TX n) := by
  obtain ⟨i1, i2, i3, i4, i5, i6, i7⟩ := I
  obtain ⟨p1, p2, p3, p4, p5, p6, p7⟩ := P
  exact ⟨cV_of p1 i1 (fun a q1 q2 => funext fun i => e a i (by omega)), V9, (e _ _ (by omega)).trans i3, (e _ _ (by omega)).trans i4, sgC_m i5 p5.1 (fun a i q => e a i (by omega)), bkC_m i6 p6.1 (fun a i q => e a i (by omega)), fun m9 hm => ⟨fun hk => (e _ _ (by omega)).trans ((i7 m9 hm).1 hk), fun hk => ⟨(e _ _ (by omega)).trans ((i7 m9 hm).2 hk).1, imC_m ((i7 m9 hm).2 hk).2 hm p1.2.1 (smT_rf _) (fun a i q => e a i (by omega))⟩⟩⟩
theorem lM_T (P : lP w) (I : lM h w) (V9 : mT h1 TX n) (e : ∀ a i, ¬ (a = 218 ∨ (a = 205 ∧ i = 13)) → h1 a i = h a i) : lM h1 (uT w TX n) := by
  obtain ⟨i1, i2, i3, i4, i5, i6, i7⟩ := I
  obtain ⟨p1, p2, p3, p4, p5, p6, p7⟩ := P
  exact ⟨mV_m i1 p1 (fun a i q => e a i (by omega)), V9, (e _ _ (by omega)).trans i3, (e _ _ (by omega)).trans i4, sgV_m i5 (fun a i q => e a i (by omega)), bkV_m i6 (fun a i q => e a i (by omega)), fun m9 hm => ⟨fun hk => (e _ _ (by omega)).trans ((i7 m9 hm).1 hk), fun hk => ⟨(e _ _ (by omega)).trans ((i7 m9 hm).2 hk).1, imV_m ((i7 m9 hm).2 hk).2 (fun i r1 r2 => e _ _ (by omega)) (p7 m9 hm hk).2.1.2.1⟩⟩⟩
theorem lC_G (P : lP w) (h123 : 123 ≤ t) (I : lC t h w) (V9 : sgC h1 n sg) (e : ∀ a i, ¬ ((40 ≤ a ∧ a < 70) ∨ (a = 38 ∧ i = 1)) → h1 a i = h a i) : lC t h1 (uG w n sg) := by
  obtain ⟨i1, i2, i3, i4, i5, i6, i7⟩ := I
  obtain ⟨p1, p2, p3, p4, p5, p6, p7⟩ := P
  exact ⟨cV_of p1 i1 (fun a q1 q2 => funext fun i => e a i (by omega)), cT_m i2 (fun a i q => e a i (by omega)), (e _ _ (by omega)).trans i3, (e _ _ (by omega)).trans i4, V9, bkC_m i6 p6.1 (fun a i q => e a i (by omega)), fun m9 hm => ⟨fun hk => (e _ _ (by omega)).trans ((i7 m9 hm).1 hk), fun hk => ⟨(e _ _ (by omega)).trans ((i7 m9 hm).2 hk).1, imC_m ((i7 m9 hm).2 hk).2 hm p1.2.1 (smT_rf _) (fun a i q => e a i (by omega))⟩⟩⟩
theorem lM_G (P : lP w) (I : lM h w) (V9 : sgV h1 n sg) (e : ∀ a i, ¬ (a = 222 ∨ (a = 205 ∧ i = 26)) → h1 a i = h a i) : lM h1 (uG w n sg) := by
  obtain ⟨i1, i2, i3, i4, i5, i6, i7⟩ := I
  obtain ⟨p1, p2, p3, p4, p5, p6, p7⟩ := P
  exact ⟨mV_m i1 p1 (fun a i q => e a i (by omega)), mT_m i2 (fun a i q => e a i (by omega)), (e _ _ (by omega)).trans i3, (e _ _ (by omega)).trans i4, V9, bkV_m i6 (fun a i q => e a i (by omega)), fun m9 hm => ⟨fun hk => (e _ _ (by omega)).trans ((i7 m9 hm).1 hk), fun hk => ⟨(e _ _ (by omega)).trans ((i7 m9 hm).2 hk).1, imV_m ((i7 m9 hm).2 hk).2 (fun i r1 r2 => e _ _ (by omega)) (p7 m9 hm hk).2.1.2.1⟩⟩⟩
theorem lC_B (P : lP w) (h123 : 123 ≤ t) (I : lC t h w) (V9 : bkC h1 n bk) (e : ∀ a i, ¬ ((72 ≤ a ∧ a < 102) ∨ (a = 70 ∧ i = 1)) → h1 a i = h a i) : lC t h1 (uB2 w n bk) := by
  obtain ⟨i1, i2, i3, i4, i5, i6, i7⟩ := I
  obtain ⟨p1, p2, p3, p4, p5, p6, p7⟩ := P
  exact ⟨cV_of p1 i1 (fun a q1 q2 => funext fun i => e a i (by omega)), cT_m i2 (fun a i q => e a i (by omega)), (e _ _ (by omega)).trans i3, (e _ _ (by omega)).trans i4, sgC_m i5 p5.1 (fun a i q => e a i (by omega)), V9, fun m9 hm => ⟨fun hk => (e _ _ (by omega)).trans ((i7 m9 hm).1 hk), fun hk => ⟨(e _ _ (by omega)).trans ((i7 m9 hm).2 hk).1, imC_m ((i7 m9 hm).2 hk).2 hm p1.2.1 (smT_rf _) (fun a i q => e a i (by omega))⟩⟩⟩
theorem lM_B (P : lP w) (I : lM h w) (V9 : bkV h1 n bk) (e : ∀ a i, ¬ (a = 223 ∨ (a = 205 ∧ i = 28)) → h1 a i = h a i) : lM h1 (uB2 w n bk) := by
  obtain ⟨i1, i2, i3, i4, i5, i6, i7⟩ := I
  obtain ⟨p1, p2, p3, p4, p5, p6, p7⟩ := P
  exact ⟨mV_m i1 p1 (fun a i q => e a i (by omega)), mT_m i2 (fun a i q => e a i (by omega)), (e _ _ (by omega)).trans i3, (e _ _ (by omega)).trans i4, sgV_m i5 (fun a i q => e a i (by omega)), V9, fun m9 hm => ⟨fun hk => (e _ _ (by omega)).trans ((i7 m9 hm).1 hk), fun hk => ⟨(e _ _ (by omega)).trans ((i7 m9 hm).2 hk).1, imV_m ((i7 m9 hm).2 hk).2 (fun i r1 r2 => e _ _ (by omega)) (p7 m9 hm hk).2.1.2.1⟩⟩⟩
theorem lC_Z (P : lP w) (h123 : 123 ≤ t) (I : lC t h w) (hs : 123 ≤ s ∧ (s + 41 ≤ t ∨ t + 41 ≤ s)) (V8 : h1 1 1 = 0) (V9 : h1 0 10 = z) (e : ∀ a i, ¬ ((s ≤ a ∧ a < s + 41) ∨ a = 1 ∨ (a = 0 ∧ i = 10)) → h1 a i = h a i) : lC t h1 (uZf w 0 z) := by
  obtain ⟨i1, i2, i3, i4, i5, i6, i7⟩ := I
  obtain ⟨p1, p2, p3, p4, p5, p6, p7⟩ := P
  exact ⟨cV_of p1 i1 (fun a q1 q2 => funext fun i => e a i (by omega)), ⟨V8, fun x hx => absurd hx (Nat.not_lt_zero x)⟩, (e _ _ (by omega)).trans i3, V9, sgC_m i5 p5.1 (fun a i q => e a i (by omega)), bkC_m i6 p6.1 (fun a i q => e a i (by omega)), fun m9 hm => ⟨fun hk => (e _ _ (by omega)).trans ((i7 m9 hm).1 hk), fun hk => ⟨(e _ _ (by omega)).trans ((i7 m9 hm).2 hk).1, imC_m ((i7 m9 hm).2 hk).2 hm p1.2.1 (smT_rf _) (fun a i q => e a i (by omega))⟩⟩⟩
theorem lM_Z (P : lP w) (I : lM h w) (V7 : mV h1 (wdS w)) (V8 : h1 205 13 = 0) (V9 : h1 205 18 = z) (e : ∀ a i, ¬ ((a = 205 ∧ (i = 13 ∨ (14 ≤ i ∧ i ≤ 21))) ∨ a = 216 ∨ (208 ≤ a ∧ a ≤ 210 ∧ 8 ≤ i) ∨ (211 ≤ a ∧ a ≤ 214 ∧ 10 ≤ i) ∨ (a = 215 ∧ 64 ≤ i) ∨ (a = 217 ∧ 4 ≤ i ∧ i ≤ 6)) → h1 a i = h a i) : lM h1 (uZf w 0 z) := by
  obtain ⟨i1, i2, i3, i4, i5, i6, i7⟩ := I
  obtain ⟨p1, p2, p3, p4, p5, p6, p7⟩ := P
  exact ⟨V7, ⟨V8, fun x hx => absurd hx (Nat.not_lt_zero x)⟩, (e _ _ (by omega)).trans i3, V9, sgV_m i5 (fun a i q => e a i (by omega)), bkV_m i6 (fun a i q => e a i (by omega)), fun m9 hm => ⟨fun hk => (e _ _ (by omega)).trans ((i7 m9 hm).1 hk), fun hk => ⟨(e _ _ (by omega)).trans ((i7 m9 hm).2 hk).1, imV_m ((i7 m9 hm).2 hk).2 (fun i r1 r2 => e _ _ (by omega)) (p7 m9 hm hk).2.1.2.1⟩⟩⟩
theorem lP_T (P : lP w) (B9 : tB TX n) : lP (uT w TX n) := ⟨P.1, B9, P.2.2⟩
theorem lP_G (P : lP w) (B9 : sgB (wdS w) n sg) : lP (uG w n sg) := ⟨P.1, P.2.1, P.2.2.1, P.2.2.2.1, B9, P.2.2.2.2.2⟩
theorem lP_B (P : lP w) (B9 : bkB (wdS w) n bk) : lP (uB2 w n bk) := ⟨P.1, P.2.1, P.2.2.1, P.2.2.2.1, P.2.2.2.2.1, B9, P.2.2.2.2.2.2⟩
theorem lP_Z (P : lP w) (hz : rg z) : lP (uZf w 0 z) := ⟨P.1, ⟨Nat.zero_le _, fun x hx => absurd hx (Nat.not_lt_zero x)⟩, P.2.2.1, hz, P.2.2.2.2⟩
theorem lP_K (P : lP w) : lP (uK w m) := ⟨P.1, P.2.1, P.2.2.1, P.2.2.2.1, P.2.2.2.2.1, P.2.2.2.2.2.1, fun m9 hm hk => by
  by_cases q : m9 = m
  · show smT (wdS w) (if m9 = m then wdS w else wdI w m9) ∧ sB (if m9 = m then wdS w else wdI w m9) ∧ (if m9 = m then wdX w else wdY w m9) < 2147483648
    rw [if_pos q, if_pos q]
    exact ⟨smT_rf _, P.1, P.2.2.1⟩
  · show smT (wdS w) (if m9 = m then wdS w else wdI w m9) ∧ sB (if m9 = m then wdS w else wdI w m9) ∧ (if m9 = m then wdX w else wdY w m9) < 2147483648
    rw [if_neg q, if_neg q]
    refine P.2.2.2.2.2.2 m9 hm ?_
    have hk2 : (if m9 = m then true else wdK w m9) = true := hk
    rw [if_neg q] at hk2
    exact hk2⟩
theorem lP_Tw (P : lP w) {S : TS} (B9 : sB S) : lP (uTw w S) := ⟨B9, ⟨by show (0 : Nat) ≤ 400; omega, fun x hx => absurd hx (Nat.not_lt_zero x)⟩, P.2.2.1, ⟨by show (-2147483648 : Int) ≤ -1; omega, by show (-1 : Int) < 2147483648; omega⟩, ⟨by show (0 : Nat) ≤ 30; omega, fun i hi => absurd hi (Nat.not_lt_zero i)⟩, ⟨by show (0 : Nat) ≤ 30; omega, fun i hi => absurd hi (Nat.not_lt_zero i)⟩, fun m9 hm hk => by cases hk⟩
theorem lC_K (P : lP w) (h123 : 123 ≤ t) (I : lC t h w) (hm1 : m < 2) (o1 : ofR (103 + 10 * m) (103 + 10 * m + 10) h h1) (v0 : h1 (103 + 10 * m) 0 = 1) (v1 : imC h1 (wdS w) (103 + 10 * m) (wdS w) (wdX w)) : lC t h1 (uK w m) := by
  have e : ∀ a i, ¬ (103 + 10 * m ≤ a ∧ a < 103 + 10 * m + 10) → h1 a i = h a i := fun a i q => congrFun (o1 a q) i
  obtain ⟨i1, i2, i3, i4, i5, i6, i7⟩ := I
  obtain ⟨p1, p2, p3, p4, p5, p6, p7⟩ := P
  refine ⟨cV_of p1 i1 (fun a q1 q2 => funext fun i => e a i (by omega)), cT_m i2 (fun a i q => e a i (by omega)), (e _ _ (by omega)).trans i3, (e _ _ (by omega)).trans i4, sgC_m i5 p5.1 (fun a i q => e a i (by omega)), bkC_m i6 p6.1 (fun a i q => e a i (by omega)), fun m9 hm => ?_⟩
  show ((if m9 = m then true else wdK w m9) = false → h1 (103 + 10 * m9) 0 = 0) ∧ ((if m9 = m then true else wdK w m9) = true → h1 (103 + 10 * m9) 0 = 1 ∧ imC h1 (wdS w) (103 + 10 * m9) (if m9 = m then wdS w else wdI w m9) (if m9 = m then wdX w else wdY w m9))
  by_cases q : m9 = m
  · subst q
    rw [if_pos rfl, if_pos rfl, if_pos rfl]
    exact ⟨fun hk => (by cases hk), fun _ => ⟨v0, v1⟩⟩
  · rw [if_neg q, if_neg q, if_neg q]
    exact ⟨fun hk => (e _ _ (by omega)).trans ((i7 m9 hm).1 hk), fun hk => ⟨(e _ _ (by omega)).trans ((i7 m9 hm).2 hk).1, imC_m ((i7 m9 hm).2 hk).2 hm p1.2.1 (smT_rf _) (fun a i q => e a i (by omega))⟩⟩
theorem lM_K (P : lP w) (I : lM h w) (hm1 : m < 2) (o1 : ofO 206 h h1) (c1 : ∀ j, j < 20 → h1 206 (20 * (1 + m) + j) = h 206 j) (c2 : ∀ j, (j < 20 * (1 + m) ∨ 20 * (1 + m) + 20 ≤ j) → h1 206 j = h 206 j) : lM (hU h1 207 m 1) (uK w m) := by
  have e : ∀ a i, ¬ ((a = 206 ∧ 20 * (1 + m) ≤ i ∧ i < 20 * (1 + m) + 20) ∨ (a = 207 ∧ i = m)) → hU h1 207 m 1 a i = h a i := fun a i q => by
    rw [hU_ne2 (by omega)]
    by_cases q2 : a = 206
    · subst q2; exact c2 i (by omega)
    · exact congrFun (o1 a q2) i
  obtain ⟨i1, i2, i3, i4, i5, i6, i7⟩ := I
  obtain ⟨p1, p2, p3, p4, p5, p6, p7⟩ := P
  refine ⟨mV_m i1 p1 (fun a i q => e a i (by omega)), mT_m i2 (fun a i q => e a i (by omega)), (e _ _ (by omega)).trans i3, (e _ _ (by omega)).trans i4, sgV_m i5 (fun a i q => e a i (by omega)), bkV_m i6 (fun a i q => e a i (by omega)), fun m9 hm => ?_⟩
  show ((if m9 = m then true else wdK w m9) = false → hU h1 207 m 1 207 m9 = 0) ∧ ((if m9 = m then true else wdK w m9) = true → hU h1 207 m 1 207 m9 = 1 ∧ imV (hU h1 207 m 1) m9 (if m9 = m then wdS w else wdI w m9) (if m9 = m then wdX w else wdY w m9))
  by_cases q : m9 = m
  · subst q
    rw [if_pos rfl, if_pos rfl, if_pos rfl]
    have hC := p1.2.1
    have f : ∀ j, j < 20 → hU h1 207 m9 1 206 (20 * (1 + m9) + j) = h 206 j := fun j hj => by rw [hU_ne2 (by omega)]; exact c1 j hj
    refine ⟨fun hk => (by cases hk), fun _ => ⟨hU_s _ _ _ _, fun c hc => ⟨(f c (by omega)).trans (i1.2.2.2.1 c hc).1, (f (8 + c) (by omega)).trans (i1.2.2.2.1 c hc).2.1⟩, (f 16 (by omega)).trans i1.2.2.2.2.2.1, (f 17 (by omega)).trans i1.2.2.2.2.2.2.1, (f 18 (by omega)).trans i3⟩⟩
  · rw [if_neg q, if_neg q, if_neg q]
    exact ⟨fun hk => (e _ _ (by omega)).trans ((i7 m9 hm).1 hk), fun hk => ⟨(e _ _ (by omega)).trans ((i7 m9 hm).2 hk).1, imV_m ((i7 m9 hm).2 hk).2 (fun i r1 r2 => e _ _ (by omega)) (p7 m9 hm hk).2.1.2.1⟩⟩
/-- one sighting more -/
def sgA (sg : Nat → Nat → Nat) (n c a b : Nat) (i k : Nat) : Nat := if i = n then (if k = 0 then c else if k = 1 then a else b) else sg i k
theorem sgA_n (sg : Nat → Nat → Nat) (n c a b : Nat) : sgA sg n c a b n 0 = c ∧ sgA sg n c a b n 1 = a ∧ sgA sg n c a b n 2 = b := by unfold sgA; simp
theorem sgA_o (sg : Nat → Nat → Nat) {n c a b i : Nat} (k : Nat) (hi : i ≠ n) : sgA sg n c a b i k = sg i k := by unfold sgA; rw [if_neg hi]
theorem sgC_A {c a b : Nat} (G : sgC h n sg) : sgC (hU (hU (hU (hU h (40 + n) 0 b) (40 + n) 1 c) (40 + n) 2 a) 38 1 (↑n + 1)) (n + 1) (sgA sg n c a b) := by
  refine ⟨by rw [hU_s]; rfl, fun i hi => ?_⟩
  by_cases q : i = n
  · subst q
    obtain ⟨q0, q1, q2⟩ := sgA_n sg i c a b
    rw [q0, q1, q2]
    exact ⟨by rw [hU_ne2 (by omega), hU_ne2 (by omega), hU_ne2 (by omega), hU_s], by rw [hU_ne2 (by omega), hU_ne2 (by omega), hU_s], by rw [hU_ne2 (by omega), hU_s]⟩
  · rw [sgA_o sg 0 q, sgA_o sg 1 q, sgA_o sg 2 q]
    have f : ∀ j, hU (hU (hU (hU h (40 + n) 0 b) (40 + n) 1 c) (40 + n) 2 a) 38 1 (↑n + 1) (40 + i) j = h (40 + i) j := fun j => by rw [hU_ne2 (by omega), hU_ne2 (by omega), hU_ne2 (by omega), hU_ne2 (by omega)]
    rw [f, f, f]
    exact G.2 i (by omega)
theorem bkC_A {c a b : Nat} (G : bkC h n sg) : bkC (hU (hU (hU (hU h (72 + n) 0 c) (72 + n) 1 a) (72 + n) 2 b) 70 1 (↑n + 1)) (n + 1) (sgA sg n c a b) := by
  refine ⟨by rw [hU_s]; rfl, fun i hi => ?_⟩
  by_cases q : i = n
  · subst q
    obtain ⟨q0, q1, q2⟩ := sgA_n sg i c a b
    rw [q0, q1, q2]
    exact ⟨by rw [hU_ne2 (by omega), hU_ne2 (by omega), hU_ne2 (by omega), hU_s], by rw [hU_ne2 (by omega), hU_ne2 (by omega), hU_s], by rw [hU_ne2 (by omega), hU_s]⟩
  · rw [sgA_o sg 0 q, sgA_o sg 1 q, sgA_o sg 2 q]
    have f : ∀ j, hU (hU (hU (hU h (72 + n) 0 c) (72 + n) 1 a) (72 + n) 2 b) 70 1 (↑n + 1) (72 + i) j = h (72 + i) j := fun j => by rw [hU_ne2 (by omega), hU_ne2 (by omega), hU_ne2 (by omega), hU_ne2 (by omega)]
    rw [f, f, f]
    exact G.2 i (by omega)
theorem sgV_A {c a b : Nat} (G : sgV h n sg) : sgV (hU (hU (hU (hU h 222 (3 * n) c) 222 (3 * n + 1) a) 222 (3 * n + 2) b) 205 26 (↑n + 1)) (n + 1) (sgA sg n c a b) := by
  refine ⟨by rw [hU_s]; rfl, fun i hi => ?_⟩
  by_cases q : i = n
  · subst q
    obtain ⟨q0, q1, q2⟩ := sgA_n sg i c a b
    rw [q0, q1, q2]
    exact ⟨by rw [hU_ne2 (by omega), hU_ne2 (by omega), hU_ne2 (by omega), hU_s], by rw [hU_ne2 (by omega), hU_ne2 (by omega), hU_s], by rw [hU_ne2 (by omega), hU_s]⟩
  · rw [sgA_o sg 0 q, sgA_o sg 1 q, sgA_o sg 2 q]
    have f : ∀ j, j < 3 → hU (hU (hU (hU h 222 (3 * n) c) 222 (3 * n + 1) a) 222 (3 * n + 2) b) 205 26 (↑n + 1) 222 (3 * i + j) = h 222 (3 * i + j) := fun j hj => by rw [hU_ne2 (by omega), hU_ne2 (by omega), hU_ne2 (by omega), hU_ne2 (by omega)]
    exact ⟨(f 0 (by omega)).trans (G.2 i (by omega)).1, (f 1 (by omega)).trans (G.2 i (by omega)).2.1, (f 2 (by omega)).trans (G.2 i (by omega)).2.2⟩
theorem bkV_A {c a b : Nat} (G : bkV h n sg) : bkV (hU (hU (hU (hU h 223 (3 * n) c) 223 (3 * n + 1) a) 223 (3 * n + 2) b) 205 28 (↑n + 1)) (n + 1) (sgA sg n c a b) := by
  refine ⟨by rw [hU_s]; rfl, fun i hi => ?_⟩
  by_cases q : i = n
  · subst q
    obtain ⟨q0, q1, q2⟩ := sgA_n sg i c a b
    rw [q0, q1, q2]
    exact ⟨by rw [hU_ne2 (by omega), hU_ne2 (by omega), hU_ne2 (by omega), hU_s], by rw [hU_ne2 (by omega), hU_ne2 (by omega), hU_s], by rw [hU_ne2 (by omega), hU_s]⟩
  · rw [sgA_o sg 0 q, sgA_o sg 1 q, sgA_o sg 2 q]
    have f : ∀ j, j < 3 → hU (hU (hU (hU h 223 (3 * n) c) 223 (3 * n + 1) a) 223 (3 * n + 2) b) 205 28 (↑n + 1) 223 (3 * i + j) = h 223 (3 * i + j) := fun j hj => by rw [hU_ne2 (by omega), hU_ne2 (by omega), hU_ne2 (by omega), hU_ne2 (by omega)]
    exact ⟨(f 0 (by omega)).trans (G.2 i (by omega)).1, (f 1 (by omega)).trans (G.2 i (by omega)).2.1, (f 2 (by omega)).trans (G.2 i (by omega)).2.2⟩
theorem sgB_A {S : TS} {c a b : Nat} (G : sgB S n sg) (hn : n ≠ 30) (hc : c < sC S) (ha : a < 6) (hb : b < 24) : sgB S (n + 1) (sgA sg n c a b) := by
  have := G.1
  refine ⟨by omega, fun i hi => ?_⟩
  by_cases q : i = n
  · subst q
    obtain ⟨q0, q1, q2⟩ := sgA_n sg i c a b
    rw [q0, q1, q2]
    exact ⟨hc, ha, hb⟩
  · rw [sgA_o sg 0 q, sgA_o sg 1 q, sgA_o sg 2 q]
    exact G.2 i (by omega)
theorem bkB_A {S : TS} {c a b : Nat} (G : bkB S n sg) (hn : n ≠ 30) (hc : c < 24) (ha : a < sC S) (hb : b < 4) : bkB S (n + 1) (sgA sg n c a b) := by
  have := G.1
  refine ⟨by omega, fun i hi => ?_⟩
  by_cases q : i = n
  · subst q
    obtain ⟨q0, q1, q2⟩ := sgA_n sg i c a b
    rw [q0, q1, q2]
    exact ⟨hc, ha, hb⟩
  · rw [sgA_o sg 0 q, sgA_o sg 1 q, sgA_o sg 2 q]
    exact G.2 i (by omega)
end M67
