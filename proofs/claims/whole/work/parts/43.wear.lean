/-! BEST WEARING by those concerned alone -/
def ooS (S : TS) (hour c : Nat) : Nat := (if 0 ≤ whereIs S (sO S c 0) hour then 2 ^ sO S c 0 else 0) ||| (if 0 ≤ whereIs S (sO S c 1) hour then 2 ^ sO S c 1 else 0)
def bhN (S : TS) (hour : Nat) : Nat → Nat
  | 0 => 0
  | n + 1 => bhN S hour n ||| ooS S hour (sC S - (n + 1))
def ahN (S : TS) (hour : Nat) : Nat → Nat
  | 0 => 0
  | c + 1 => ahN S hour c ||| ooS S hour c
def cnN (S : TS) (hour c : Nat) : Nat := bhN S hour (sC S - c) &&& ahN S hour c
theorem sbs_l {a b : Nat} : sbs a (a ||| b) := fun i h => by rw [Nat.testBit_or, h]; rfl
theorem sbs_r {a b : Nat} : sbs b (a ||| b) := fun i h => by rw [Nat.testBit_or, h]; simp
theorem and_z {a b : Nat} : a &&& b = 0 ↔ ∀ i, a.testBit i = true → b.testBit i = false := by
  constructor
  · intro h i hi
    have h1 : (a &&& b).testBit i = false := by rw [h]; simp
    rw [Nat.testBit_and, hi, Bool.true_and] at h1
    exact h1
  · intro h
    apply Nat.eq_of_testBit_eq
    intro i
    rw [Nat.testBit_and, Nat.zero_testBit]
    cases ha : a.testBit i
    · rfl
    · rw [h i ha]; rfl
theorem ooS_lt {S : TS} (B : sB S) {hour c : Nat} (hc : c < sC S) : ooS S hour c < 256 := by
  have hP8 := B.1
  have ho := B.2.2.2.1 c hc
  have h1 : 2 ^ sO S c 0 < 2 ^ 8 := Nat.pow_lt_pow_right (by omega) (by omega)
  have h2 : 2 ^ sO S c 1 < 2 ^ 8 := Nat.pow_lt_pow_right (by omega) (by omega)
  unfold ooS
  refine Nat.or_lt_two_pow (n := 8) ?_ ?_ <;> split <;> omega
theorem bhN_lt {S : TS} (B : sB S) {hour : Nat} : ∀ n, n ≤ sC S → bhN S hour n < 256 := by
  intro n
  induction n with
  | zero => intro _; exact (by decide : (0 : Nat) < 256)
  | succ n ih => intro hn; exact Nat.or_lt_two_pow (n := 8) (ih (by omega)) (ooS_lt B (by omega))
theorem ahN_lt {S : TS} (B : sB S) {hour : Nat} : ∀ n, n ≤ sC S → ahN S hour n < 256 := by
  intro n
  induction n with
  | zero => intro _; exact (by decide : (0 : Nat) < 256)
  | succ n ih => intro hn; exact Nat.or_lt_two_pow (n := 8) (ih (by omega)) (ooS_lt B (by omega))
theorem cnN_lt {S : TS} (B : sB S) {hour c : Nat} : cnN S hour c < 256 := Nat.lt_of_le_of_lt Nat.and_le_left (bhN_lt B _ (Nat.sub_le _ _))
theorem clS_sub {S : TS} {hour c k : Nat} (h : clP S hour c k) : sbs (clS S c k) (ooS S hour c) := by
  unfold clS ooS
  refine sbs_or ?_ ?_
  · split
    · rename_i q; rw [if_pos (h.1 q)]; exact sbs_rf _
    · intro i hi; simp at hi
  · split
    · rename_i q; rw [if_pos (h.2.1 q)]; exact sbs_rf _
    · intro i hi; simp at hi
theorem bh_oo {S : TS} {hour c : Nat} (hc : c < sC S) : sbs (ooS S hour c) (bhN S hour (sC S - c)) := by
  have e1 : sC S - c = (sC S - (c + 1)) + 1 := by omega
  rw [e1]
  show sbs _ (bhN S hour (sC S - (c + 1)) ||| ooS S hour (sC S - (sC S - (c + 1) + 1)))
  rw [show sC S - (sC S - (c + 1) + 1) = c from by omega]
  exact sbs_r
theorem bh_bh {S : TS} {hour c : Nat} (hc : c < sC S) : sbs (bhN S hour (sC S - (c + 1))) (bhN S hour (sC S - c)) := by
  have e1 : sC S - c = (sC S - (c + 1)) + 1 := by omega
  rw [e1]
  exact sbs_l
def agB (m a b : Nat) : Prop := ∀ i, m.testBit i = true → a.testBit i = b.testBit i
theorem bstW_cg {S : TS} {hour c : Nat} {f : Nat → Nat} {a b : Nat} (h : ∀ k, clP S hour c k → ((clS S c k &&& a = 0 ↔ clS S c k &&& b = 0) ∧ f (a ||| clS S c k) = f (b ||| clS S c k))) : ∀ k, bstW S hour c f a k = bstW S hour c f b k := by
  intro k
  induction k with
  | zero => rfl
  | succ k ih =>
    unfold bstW
    by_cases hc : clP S hour c k
    · have h1 := h k hc
      by_cases hd : clS S c k &&& a = 0
      · rw [if_pos ⟨hc, hd⟩, if_pos ⟨hc, h1.1.mp hd⟩, ih, h1.2]
      · rw [if_neg (fun q => hd q.2), if_neg (fun q => hd (h1.1.mpr q.2)), ih]
    · rw [if_neg (fun q => hc q.1), if_neg (fun q => hc q.1), ih]
theorem dsj_ag {w m a b : Nat} (hw : sbs w m) (h : agB m a b) : w &&& a = 0 ↔ w &&& b = 0 := by
  rw [and_z, and_z]
  constructor
  · intro q i hi; rw [← h i (hw i hi)]; exact q i hi
  · intro q i hi; rw [h i (hw i hi)]; exact q i hi
theorem savB_ag {S : TS} {hour : Nat} : ∀ n a b, n ≤ sC S → agB (bhN S hour n) a b → savB S hour n a = savB S hour n b := by
  intro n
  induction n with
  | zero => intro a b _ _; rfl
  | succ n ih =>
    intro a b hn h
    show bstW S hour (sC S - (n + 1)) (savB S hour n) a 4 = bstW S hour (sC S - (n + 1)) (savB S hour n) b 4
    refine bstW_cg (fun k hk => ⟨dsj_ag (sbs_tr (clS_sub hk) sbs_r) h, ih _ _ (by omega) (fun i hi => ?_)⟩) 4
    rw [Nat.testBit_or, Nat.testBit_or, h i (sbs_l i hi)]
theorem then_eq {S : TS} {hour c D k : Nat} (hc : c < sC S) (hD : sbs D (cnN S hour c)) (hk : clP S hour c k) : savB S hour (sC S - (c + 1)) ((D ||| clS S c k) &&& cnN S hour (c + 1)) = savB S hour (sC S - (c + 1)) (D ||| clS S c k) := by
  refine savB_ag _ _ _ (Nat.sub_le _ _) (fun i hi => ?_)
  unfold cnN
  rw [Nat.testBit_and, Nat.testBit_and, hi, Bool.true_and]
  cases hx : (D ||| clS S c k).testBit i
  · rfl
  · rw [Nat.testBit_or, Bool.or_eq_true] at hx
    rw [Bool.true_and]
    show (ahN S hour c ||| ooS S hour c).testBit i = true
    rcases hx with q | q
    · have h1 := hD i q
      unfold cnN at h1
      rw [Nat.testBit_and, Bool.and_eq_true] at h1
      exact sbs_l i h1.2
    · exact sbs_r i (clS_sub hk i q)
theorem then_sub {S : TS} {hour c x : Nat} : sbs (x &&& cnN S hour c) (cnN S hour c) := fun i hi => by rw [Nat.testBit_and, Bool.and_eq_true] at hi; exact hi.2
/-! the first best choice -/
def vlN (S : TS) (c : Nat) (f : Nat → Nat) (D k : Nat) : Nat := spBy S c k + f (D ||| clS S c k)
def fbN (S : TS) (hour c : Nat) (f : Nat → Nat) (D : Nat) : Nat → Nat × Nat
  | 0 => (0, vlN S c f D 0)
  | k + 1 => if clP S hour c (k + 1) ∧ clS S c (k + 1) &&& D = 0 ∧ (fbN S hour c f D k).2 < vlN S c f D (k + 1) then (k + 1, vlN S c f D (k + 1)) else fbN S hour c f D k
theorem clP_0 (S : TS) (hour c : Nat) : clP S hour c 0 ∧ ∀ D, clS S c 0 &&& D = 0 := ⟨⟨by simp, by simp, by simp⟩, fun D => by simp [clS]⟩
theorem fb_max (S : TS) (hour c : Nat) (f : Nat → Nat) (D : Nat) : ∀ k, (fbN S hour c f D k).2 = bstW S hour c f D (k + 1) := by
  intro k
  induction k with
  | zero =>
    unfold bstW
    rw [if_pos ⟨(clP_0 S hour c).1, (clP_0 S hour c).2 D⟩]
    simp [fbN, vlN, bstW]
  | succ k ih =>
    unfold fbN bstW
    by_cases hc : clP S hour c (k + 1) ∧ clS S c (k + 1) &&& D = 0
    · rw [if_pos hc, ← ih]
      by_cases hv : (fbN S hour c f D k).2 < vlN S c f D (k + 1)
      · rw [if_pos ⟨hc.1, hc.2, hv⟩]
        exact (Nat.max_eq_right (Nat.le_of_lt hv)).symm
      · rw [if_neg (fun q => hv q.2.2)]
        exact (Nat.max_eq_left (Nat.le_of_not_lt hv)).symm
    · rw [if_neg hc, ← ih, if_neg (fun q => hc ⟨q.1, q.2.1⟩)]
theorem bst_ub {S : TS} {hour c : Nat} {f : Nat → Nat} {D j : Nat} (h1 : clP S hour c j) (h2 : clS S c j &&& D = 0) : ∀ k, j < k → vlN S c f D j ≤ bstW S hour c f D k := by
  intro k
  induction k with
  | zero => intro h; omega
  | succ k ih =>
    intro hk
    unfold bstW
    by_cases hjk : j = k
    · subst hjk
      rw [if_pos ⟨h1, h2⟩]
      exact Nat.le_max_right _ _
    · have := ih (by omega)
      split
      · exact Nat.le_trans this (Nat.le_max_left _ _)
      · exact this
theorem fb_fst (S : TS) (hour c : Nat) (f : Nat → Nat) (D : Nat) : ∀ k, cdW S hour c f D (fbN S hour c f D k).2 (fbN S hour c f D k).1 ∧ (fbN S hour c f D k).1 ≤ k ∧ ∀ j, j < (fbN S hour c f D k).1 → clP S hour c j → clS S c j &&& D = 0 → vlN S c f D j < (fbN S hour c f D k).2 := by
  intro k
  induction k with
  | zero =>
    refine ⟨⟨(clP_0 S hour c).1, (clP_0 S hour c).2 D, rfl⟩, Nat.le_refl _, fun j hj => absurd hj (Nat.not_lt_zero j)⟩
  | succ k ih =>
    unfold fbN
    by_cases hc : clP S hour c (k + 1) ∧ clS S c (k + 1) &&& D = 0 ∧ (fbN S hour c f D k).2 < vlN S c f D (k + 1)
    · rw [if_pos hc]
      refine ⟨⟨hc.1, hc.2.1, rfl⟩, Nat.le_refl _, fun j hj h1 h2 => ?_⟩
      have h3 := bst_ub (f := f) h1 h2 (k + 1) hj
      rw [← fb_max] at h3
      exact Nat.lt_of_le_of_lt h3 hc.2.2
    · rw [if_neg hc]
      exact ⟨ih.1, by omega, ih.2.2⟩
theorem fst_is {S : TS} {hour c : Nat} {f : Nat → Nat} {set b j : Nat} (h : cdW S hour c f set b j) : ∀ n i, i ≤ j → j < i + n → (∀ x, i ≤ x → x < j → ¬ cdW S hour c f set b x) → fstW S hour c f set b n i = j := by
  intro n
  induction n with
  | zero => intro i h1 h2; omega
  | succ n ih =>
    intro i h1 h2 h3
    by_cases hij : i = j
    · subst hij; exact fstW_y h
    · rw [fstW_n (h3 i (Nat.le_refl _) (by omega))]
      exact ih (i + 1) (by omega) (by omega) (fun x q1 q2 => h3 x (by omega) q2)
/-- whom coat c's wearers meet: those concerned are enough -/
theorem cn_ag {S : TS} {hour c : Nat} {set : Nat} (hs : sbs set (ahN S hour c)) : agB (bhN S hour (sC S - c)) set (set &&& cnN S hour c) := fun i hi => by
  unfold cnN
  rw [Nat.testBit_and, Nat.testBit_and, hi, Bool.true_and]
  cases hx : set.testBit i
  · rfl
  · rw [hs i hx]; rfl
theorem cdW_ag {S : TS} {hour c : Nat} {set D b j : Nat} (hc : c < sC S) (h : agB (bhN S hour (sC S - c)) set D) : cdW S hour c (savB S hour (sC S - (c + 1))) set b j ↔ cdW S hour c (savB S hour (sC S - (c + 1))) D b j := by
  unfold cdW
  have hb := bh_bh (S := S) (hour := hour) hc
  constructor
  · rintro ⟨h1, h2, h3⟩
    refine ⟨h1, (dsj_ag (sbs_tr (clS_sub h1) (bh_oo hc)) h).mp h2, ?_⟩
    rw [← h3, savB_ag _ (set ||| clS S c j) (D ||| clS S c j) (Nat.sub_le _ _)]
    intro i hi
    rw [Nat.testBit_or, Nat.testBit_or, h i (hb i hi)]
  · rintro ⟨h1, h2, h3⟩
    refine ⟨h1, (dsj_ag (sbs_tr (clS_sub h1) (bh_oo hc)) h).mpr h2, ?_⟩
    rw [← h3, savB_ag _ (set ||| clS S c j) (D ||| clS S c j) (Nat.sub_le _ _)]
    intro i hi
    rw [Nat.testBit_or, Nat.testBit_or, h i (hb i hi)]
theorem savB_b {S : TS} {hour c : Nat} (hc : c < sC S) (D : Nat) : savB S hour (sC S - c) D = bstW S hour c (savB S hour (sC S - (c + 1))) D 4 := by
  have e1 : sC S - c = (sC S - (c + 1)) + 1 := by omega
  rw [e1]
  show bstW S hour (sC S - (sC S - (c + 1) + 1)) (savB S hour (sC S - (c + 1))) D 4 = _
  rw [show sC S - (sC S - (c + 1) + 1) = c from by omega]
abbrev fbC (S : TS) (hour c D : Nat) : Nat := (fbN S hour c (savB S hour (sC S - (c + 1))) D 3).1
theorem wr_is {S : TS} {hour c : Nat} (hc : c < sC S) (hs : sbs (setW S hour c) (ahN S hour c)) : wrW S hour c = fbC S hour c (setW S hour c &&& cnN S hour c) ∧ cdW S hour c (savB S hour (sC S - (c + 1))) (setW S hour c) (savB S hour (sC S - c) (setW S hour c)) (wrW S hour c) ∧ wrW S hour c < 4 := by
  have hag := cn_ag (S := S) (hour := hour) (c := c) hs
  have hb : savB S hour (sC S - c) (setW S hour c) = (fbN S hour c (savB S hour (sC S - (c + 1))) (setW S hour c &&& cnN S hour c) 3).2 := by
    rw [fb_max, ← savB_b hc]
    exact savB_ag _ _ _ (Nat.sub_le _ _) hag
  have hf := fb_fst S hour c (savB S hour (sC S - (c + 1))) (setW S hour c &&& cnN S hour c) 3
  have h1 : cdW S hour c (savB S hour (sC S - (c + 1))) (setW S hour c) (savB S hour (sC S - c) (setW S hour c)) (fbC S hour c (setW S hour c &&& cnN S hour c)) := by
    rw [cdW_ag hc hag, hb]
    exact hf.1
  have h2 : wrW S hour c = fbC S hour c (setW S hour c &&& cnN S hour c) := by
    unfold wrW
    refine fst_is h1 4 0 (Nat.zero_le _) (Nat.lt_of_le_of_lt hf.2.1 (by decide)) (fun x _ hx hcd => ?_)
    rw [cdW_ag hc hag, hb] at hcd
    have h3 := hf.2.2 x hx hcd.1 hcd.2.1
    have h4 := hcd.2.2
    unfold vlN at h3
    omega
  refine ⟨h2, by rw [h2]; exact h1, by rw [h2]; exact Nat.lt_of_le_of_lt hf.2.1 (by decide)⟩
theorem setW_ah {S : TS} {hour : Nat} : ∀ c, c ≤ sC S → sbs (setW S hour c) (ahN S hour c) := by
  intro c
  induction c with
  | zero => intro _ i hi; exact hi
  | succ c ih =>
    intro hc
    have h1 := wr_is (by omega) (ih (by omega))
    rw [setW_s]
    exact sbs_or (ih (by omega)) (clS_sub h1.2.1.1)
theorem wr_ok {S : TS} {hour c : Nat} (hc : c < sC S) : wrW S hour c = fbC S hour c (setW S hour c &&& cnN S hour c) ∧ cdW S hour c (savB S hour (sC S - (c + 1))) (setW S hour c) (savB S hour (sC S - c) (setW S hour c)) (wrW S hour c) ∧ wrW S hour c < 4 := wr_is hc (setW_ah c (by omega))
theorem next_eq {S : TS} {hour c : Nat} (hc : c < sC S) : ((setW S hour c &&& cnN S hour c) ||| clS S c (wrW S hour c)) &&& cnN S hour (c + 1) = setW S hour (c + 1) &&& cnN S hour (c + 1) := by
  apply Nat.eq_of_testBit_eq
  intro i
  rw [setW_s, Nat.testBit_and, Nat.testBit_and]
  cases hx : (cnN S hour (c + 1)).testBit i
  · simp
  · rw [Bool.and_true, Bool.and_true, Nat.testBit_or, Nat.testBit_or]
    congr 1
    unfold cnN at hx
    rw [Nat.testBit_and, Bool.and_eq_true] at hx
    exact (cn_ag (setW_ah c (by omega)) i (bh_bh hc i hx.1)).symm
/-- HOURS in which all are where they were are alike -/
theorem hrC_cg {S : TS} (B : sB S) {a b : Nat} (h : ∀ p, p < sP S → whereIs S p a = whereIs S p b) : hrC S a = hrC S b := by
  have ho : ∀ n, n ≤ sP S → outN S a n = outN S b n := by
    intro n
    induction n with
    | zero => intro _; rfl
    | succ n ih => intro hn; unfold outN; rw [ih (by omega), h n (by omega)]
  have hs : ∀ n x, n ≤ sC S → savB S a n x = savB S b n x := by
    intro n
    induction n with
    | zero => intro x _; rfl
    | succ n ih =>
      intro x hn
      show bstW S a (sC S - (n + 1)) (savB S a n) x 4 = bstW S b (sC S - (n + 1)) (savB S b n) x 4
      have hw := B.2.2.2.1 (sC S - (n + 1)) (by omega)
      have : ∀ k, bstW S a (sC S - (n + 1)) (savB S a n) x k = bstW S b (sC S - (n + 1)) (savB S b n) x k := by
        intro k
        induction k with
        | zero => rfl
        | succ k ihk =>
          unfold bstW
          rw [ihk, ih _ (by omega)]
          unfold clP
          rw [h _ hw.1, h _ hw.2.1]
      exact this 4
  unfold hrC
  rw [ho _ (Nat.le_refl _), hs _ _ (Nat.le_refl _)]
/-! CHILL of one -/
theorem wrI_bit {S : TS} {p c w : Nat} (hw : w < 4) : wrI S p c w ↔ (clS S c w).testBit p = true := by
  unfold wrI clS
  rw [Nat.testBit_or, Bool.or_eq_true]
  rcases (show w = 0 ∨ w = 1 ∨ w = 2 ∨ w = 3 by omega) with rfl | rfl | rfl | rfl <;> simp [Nat.testBit_two_pow]
theorem weN_w {S : TS} {c w : Nat} : weN S c w = if (sK S).testBit c = true ∨ w = 3 then sW S c / 2 else sW S c := by
  unfold weN
  by_cases h : w = 3
  · simp [h]
  · by_cases h2 : (sK S).testBit c = true <;> simp [h, h2]
/-- nobody wears two -/
theorem chV_one {S : TS} {hour p : Nat} : ∀ n, n ≤ sC S → ((¬ (setW S hour n).testBit p = true ∧ chV S hour p n = (sF S : Int) ∧ ∀ c, c < n → ¬ (clS S c (wrW S hour c)).testBit p = true) ∨
    ((setW S hour n).testBit p = true ∧ ∃ c, c < n ∧ (clS S c (wrW S hour c)).testBit p = true ∧ (∀ x, x < c → ¬ (clS S x (wrW S hour x)).testBit p = true) ∧ chV S hour p n = (sF S : Int) - (savN S (weN S c (wrW S hour c)) : Int))) := by
  intro n
  induction n with
  | zero => intro _; exact Or.inl ⟨by simp [setW], rfl, fun c hc => absurd hc (Nat.not_lt_zero c)⟩
  | succ n ih =>
    intro hn
    have hw := wr_ok (S := S) (hour := hour) (c := n) (by omega)
    have hd := hw.2.1.2.1
    rw [and_z] at hd
    have hi := wrI_bit (S := S) (p := p) (c := n) hw.2.2
    rcases ih (by omega) with ⟨h1, h2, h3⟩ | ⟨h1, c, h2, h3, h4, h5⟩
    · by_cases hb : (clS S n (wrW S hour n)).testBit p = true
      · refine Or.inr ⟨?_, n, by omega, hb, h3, ?_⟩
        · rw [setW_s, Nat.testBit_or, hb]; simp
        · rw [chV, h2, if_pos (hi.mpr hb), weN_w]
      · refine Or.inl ⟨?_, ?_, fun c hc => ?_⟩
        · rw [setW_s, Nat.testBit_or, Bool.or_eq_true]; rintro (q | q); exact h1 q; exact hb q
        · rw [chV, h2, if_neg (fun q => hb (hi.mp q))]; omega
        · by_cases hcn : c = n
          · subst hcn; exact hb
          · exact h3 c (by omega)
    · have hb : ¬ (clS S n (wrW S hour n)).testBit p = true := fun q => by
        have := hd p q
        rw [h1] at this
        cases this
      refine Or.inr ⟨?_, c, by omega, h3, h4, ?_⟩
      · rw [setW_s, Nat.testBit_or, h1]; rfl
      · rw [chV, h5, if_neg (fun q => hb (hi.mp q))]; omega
/-! all parts of a set, one by one -/
def nxM (m d : Nat) : Nat := (d + 256 - m) % 256 &&& m
def itM (m : Nat) : Nat → Nat
  | 0 => 0
  | k + 1 => nxM m (itM m k)
theorem nxM_sub (m d : Nat) : sbs (nxM m d) m := fun i hi => by unfold nxM at hi; rw [Nat.testBit_and, Bool.and_eq_true] at hi; exact hi.2
theorem itM_sub (m : Nat) : ∀ k, sbs (itM m k) m := by
  intro k
  cases k with
  | zero => intro i hi; simp [itM] at hi
  | succ k => exact nxM_sub m _
theorem sbs_le {a b : Nat} (h : sbs a b) : a ≤ b := by
  have : a &&& b = a := by
    apply Nat.eq_of_testBit_eq
    intro i
    rw [Nat.testBit_and]
    cases ha : a.testBit i
    · rfl
    · rw [h i ha]; rfl
  rw [← this]
  exact Nat.and_le_right
theorem zSubAnd {d m : Nat} (hd : d ≤ m) (hm : m < 256) : zAnd ((d : Int) - (m : Int)) (m : Int) = ((nxM m d : Nat) : Int) := by
  obtain ⟨K, hK⟩ : ∃ K : Nat, K = 2 ^ 32 := ⟨_, rfl⟩
  obtain ⟨x, hx⟩ : ∃ x : Nat, x = d + K - m := ⟨_, rfl⟩
  have hK2 : K = 4294967296 := by rw [hK]
  have e1 : zI ((d : Int) - (m : Int)) = nI x := by
    apply Int32.toBitVec_inj.mp
    show BitVec.ofInt 32 ((d : Int) - (m : Int)) = BitVec.ofNat 32 x
    apply BitVec.eq_of_toNat_eq
    rw [BitVec.toNat_ofInt, BitVec.toNat_ofNat]
    have h9 : ((2 ^ 32 : Nat) : Int) = (4294967296 : Int) := rfl
    rw [h9]
    omega
  unfold zAnd
  rw [e1, zI_nI]
  have h1 : nI x &&& nI m = nI (x &&& m) := Int32.toBitVec_inj.mp (by simp [nI])
  have h2 : x &&& m = nxM m d := by
    have h3 := and_sp (a := x % 256) (b := x / 256) (m := m) (k := 0) (by omega) hm
    rw [show x % 256 + 256 * (x / 256) = x from by omega] at h3
    simp only [Nat.mul_zero, Nat.add_zero, Nat.and_zero] at h3
    rw [h3]
    unfold nxM
    rw [show x % 256 = (d + 256 - m) % 256 from by omega]
  rw [h1, h2, nI_toIntN (Nat.lt_of_le_of_lt (sbs_le (nxM_sub m d)) (by omega))]
theorem and_b (x y a b : Nat) (ha : a < 2) (hb : b < 2) : (2 * x + a) &&& (2 * y + b) = 2 * (x &&& y) + a * b := by
  apply Nat.eq_of_testBit_eq
  intro i
  cases i with
  | zero =>
    rw [Nat.testBit_and, Nat.testBit_zero, Nat.testBit_zero, Nat.testBit_zero]
    rcases (show a = 0 ∨ a = 1 by omega) with rfl | rfl <;> rcases (show b = 0 ∨ b = 1 by omega) with rfl | rfl <;> simp
  | succ i =>
    rw [Nat.testBit_and, Nat.testBit_succ, Nat.testBit_succ, Nat.testBit_succ]
    have h1 : (2 * x + a) / 2 = x := by omega
    have h2 : (2 * y + b) / 2 = y := by omega
    have h3 : (2 * (x &&& y) + a * b) / 2 = x &&& y := by
      rcases (show a = 0 ∨ a = 1 by omega) with rfl | rfl <;> rcases (show b = 0 ∨ b = 1 by omega) with rfl | rfl <;> omega
    rw [h1, h2, h3, Nat.testBit_and]
def nxw (w m d : Nat) : Nat := (d + 2 ^ w - m) % 2 ^ w &&& m
def itw (w m : Nat) : Nat → Nat
  | 0 => 0
  | k + 1 => nxw w m (itw w m k)
theorem sbs_hf {a b : Nat} (h : sbs a b) : sbs (a / 2) (b / 2) ∧ a % 2 ≤ b % 2 := by
  refine ⟨fun i hi => ?_, ?_⟩
  · rw [← Nat.testBit_succ] at hi ⊢
    exact h _ hi
  · have h0 := h 0
    rw [Nat.testBit_zero, Nat.testBit_zero] at h0
    rcases Nat.mod_two_eq_zero_or_one a with q | q
    · omega
    · have := h0 (by rw [q]; rfl)
      have h1 : b % 2 = 1 := by simpa using this
      omega
theorem cmp_and : ∀ w m d, m < 2 ^ w → sbs d m → (d + 2 ^ w - m - 1) &&& m = d := by
  intro w
  induction w with
  | zero =>
    intro m d hm hd
    have h0 : m = 0 := by have : m < 1 := hm; omega
    have h1 := sbs_le hd
    subst h0
    rw [Nat.and_zero]
    omega
  | succ w ih =>
    intro m d hm hd
    have hh := sbs_hf hd
    have hp : 2 ^ (w + 1) = 2 * 2 ^ w := by rw [Nat.pow_succ, Nat.mul_comm]
    have h1 := ih (m / 2) (d / 2) (by omega) hh.1
    have hl := sbs_le hh.1
    have e1 : d + 2 ^ (w + 1) - m - 1 = 2 * (d / 2 + 2 ^ w - m / 2 - 1) + (d % 2 + 1 - m % 2) := by omega
    have e2 : m = 2 * (m / 2) + m % 2 := by omega
    have e3 : (d + 2 ^ (w + 1) - m - 1) &&& m = (2 * (d / 2 + 2 ^ w - m / 2 - 1) + (d % 2 + 1 - m % 2)) &&& (2 * (m / 2) + m % 2) := by rw [e1, ← e2]
    rw [e3, and_b]
    · rw [h1]
      have h2 := hh.2
      rcases Nat.mod_two_eq_zero_or_one m with q | q
      · rw [q]; omega
      · rw [q]; omega
    · omega
    · omega
theorem nxw_e {w m d : Nat} : nxw (w + 1) (2 * m) (2 * d) = 2 * nxw w m d := by
  unfold nxw
  have hp : 2 ^ (w + 1) = 2 * 2 ^ w := by rw [Nat.pow_succ, Nat.mul_comm]
  rw [hp, show 2 * d + 2 * 2 ^ w - 2 * m = 2 * (d + 2 ^ w - m) from by omega, Nat.mul_mod_mul_left]
  have := and_b ((d + 2 ^ w - m) % 2 ^ w) m 0 0 (by decide) (by decide)
  simpa using this
theorem nxw_o {w m d : Nat} : nxw (w + 1) (2 * m + 1) (2 * d + 1) = 2 * nxw w m d := by
  unfold nxw
  have hp : 2 ^ (w + 1) = 2 * 2 ^ w := by rw [Nat.pow_succ, Nat.mul_comm]
  rw [hp, show 2 * d + 1 + 2 * 2 ^ w - (2 * m + 1) = 2 * (d + 2 ^ w - m) from by omega, Nat.mul_mod_mul_left]
  have := and_b ((d + 2 ^ w - m) % 2 ^ w) m 0 1 (by decide) (by decide)
  simpa using this
theorem nxw_z {w m d : Nat} (hm : m < 2 ^ w) (hd : sbs d m) : nxw (w + 1) (2 * m + 1) (2 * d) = 2 * d + 1 := by
  unfold nxw
  have hp : 2 ^ (w + 1) = 2 * 2 ^ w := by rw [Nat.pow_succ, Nat.mul_comm]
  have hl := sbs_le hd
  rw [hp, show 2 * d + 2 * 2 ^ w - (2 * m + 1) = 2 * (d + 2 ^ w - m - 1) + 1 from by omega, Nat.mod_eq_of_lt (by omega), and_b _ _ _ _ (by decide) (by decide), cmp_and w m d hm hd]
theorem itw_sub (w m : Nat) : ∀ k, sbs (itw w m k) m := by
  intro k
  cases k with
  | zero => intro i hi; simp [itw] at hi
  | succ k =>
    intro i hi
    show m.testBit i = true
    have hi' : (nxw w m (itw w m k)).testBit i = true := hi
    unfold nxw at hi'
    rw [Nat.testBit_and, Bool.and_eq_true] at hi'
    exact hi'.2
theorem itw_e {w m : Nat} : ∀ j, itw (w + 1) (2 * m) j = 2 * itw w m j := by
  intro j
  induction j with
  | zero => rfl
  | succ j ih => show nxw (w + 1) (2 * m) (itw (w + 1) (2 * m) j) = _; rw [ih, nxw_e]; rfl
theorem itw_o {w m : Nat} (hm : m < 2 ^ w) : ∀ j, itw (w + 1) (2 * m + 1) (2 * j) = 2 * itw w m j := by
  intro j
  induction j with
  | zero => rfl
  | succ j ih =>
    show nxw (w + 1) (2 * m + 1) (nxw (w + 1) (2 * m + 1) (itw (w + 1) (2 * m + 1) (2 * j))) = _
    rw [ih, nxw_z hm (itw_sub w m j), nxw_o]
    rfl
theorem itw_o1 {w m : Nat} (hm : m < 2 ^ w) (j : Nat) : itw (w + 1) (2 * m + 1) (2 * j + 1) = 2 * itw w m j + 1 := by
  show nxw (w + 1) (2 * m + 1) (itw (w + 1) (2 * m + 1) (2 * j)) = _
  rw [itw_o hm, nxw_z hm (itw_sub w m j)]
theorem bcn_1 (n : Nat) : bcn n 1 = n % 2 := by
  show 0 + (if n.testBit 0 = true then 1 else 0) = n % 2
  rw [Nat.testBit_zero]
  rcases Nat.mod_two_eq_zero_or_one n with q | q <;> simp [q]
theorem itw_all : ∀ w m D, m < 2 ^ w → sbs D m → ∃ j, j < 2 ^ bcn m w ∧ itw w m j = D := by
  intro w
  induction w with
  | zero =>
    intro m D hm hD
    have h0 : m = 0 := by have : m < 1 := hm; omega
    have h1 := sbs_le hD
    exact ⟨0, Nat.two_pow_pos _, by show 0 = D; omega⟩
  | succ w ih =>
    intro m D hm hD
    have hh := sbs_hf hD
    have hp : 2 ^ (w + 1) = 2 * 2 ^ w := by rw [Nat.pow_succ, Nat.mul_comm]
    obtain ⟨j, hj, e⟩ := ih (m / 2) (D / 2) (by omega) hh.1
    have hb : bcn m (w + 1) = m % 2 + bcn (m / 2) w := by
      rw [Nat.add_comm w 1, bcn_add, bcn_1]
    have h2 := hh.2
    rcases Nat.mod_two_eq_zero_or_one m with q | q
    · refine ⟨j, by rw [hb, q, Nat.zero_add]; exact hj, ?_⟩
      have e2 : m = 2 * (m / 2) := by omega
      rw [e2, itw_e, e]
      omega
    · have e2 : m = 2 * (m / 2) + 1 := by omega
      have h3 : 2 ^ bcn m (w + 1) = 2 * 2 ^ bcn (m / 2) w := by rw [hb, q, Nat.add_comm, Nat.pow_succ, Nat.mul_comm]
      rcases Nat.mod_two_eq_zero_or_one D with r | r
      · refine ⟨2 * j, by omega, ?_⟩
        rw [e2, itw_o (by omega), e]
        omega
      · refine ⟨2 * j + 1, by omega, ?_⟩
        rw [e2, itw_o1 (by omega), e]
        omega
theorem itw_M (m : Nat) : ∀ j, itw 8 m j = itM m j := by
  intro j
  induction j with
  | zero => rfl
  | succ j ih => show nxw 8 m (itw 8 m j) = nxM m (itM m j); rw [ih]; rfl
theorem bcn_8 {m : Nat} (hm : m < 256) : bcn m 24 = bcn m 8 := by
  have h1 : bcn m 24 = bcn m 8 + bcn (m / 256) 16 := bcn_add m 8 16
  rw [h1, show m / 256 = 0 from by omega, bcn_0]
  rfl
theorem itM_all {m D : Nat} (hm : m < 256) (hD : sbs D m) : ∃ j, j < 2 ^ bcn m 24 ∧ itM m j = D := by
  obtain ⟨j, hj, e⟩ := itw_all 8 m D hm hD
  exact ⟨j, by rw [bcn_8 hm]; exact hj, by rw [← itw_M]; exact e⟩
