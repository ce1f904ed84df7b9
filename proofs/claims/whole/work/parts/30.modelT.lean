/-! sets that can be made, a part a coat -/
def fmD (O : Nat → Nat → Prop) : Nat → Nat → Prop
  | 0, k => k = 0
  | c + 1, k => fmD O c k ∨ ∃ x b, fmD O c x ∧ O c b ∧ k = x ||| b
def sbs (a b : Nat) : Prop := ∀ i, a.testBit i = true → b.testBit i = true
theorem sbs_rf (a : Nat) : sbs a a := fun _ h => h
theorem sbs_tr {a b c : Nat} (h1 : sbs a b) (h2 : sbs b c) : sbs a c := fun i h => h2 i (h1 i h)
/-- one's own coat, or half, alone; O1: the coats that are not CUT; O2: all, a CUT one for both -/
def opN (S : TS) (c b : Nat) : Prop := ¬ (sK S).testBit c = true ∧ (b = 2 ^ sO S c 0 ∨ b = 2 ^ sO S c 1)
def opQ (S : TS) (q c b : Nat) : Prop := ¬ (sK S).testBit c = true ∧ (b = 2 ^ sO S c 0 &&& q ∨ b = 2 ^ sO S c 1 &&& q)
def opA (S : TS) (c b : Nat) : Prop := b = 2 ^ sO S c 0 ∨ b = 2 ^ sO S c 1 ∨ ((sK S).testBit c = true ∧ b = 2 ^ sO S c 0 ||| 2 ^ sO S c 1)
/-- who has a half -/
def hvN (S : TS) : Nat → Nat
  | 0 => 0
  | c + 1 => if (sK S).testBit c = true then hvN S c ||| (2 ^ sO S c 0 ||| 2 ^ sO S c 1) else hvN S c
theorem two_and (i q : Nat) : 2 ^ i &&& q = if q.testBit i = true then 2 ^ i else 0 := by
  apply Nat.eq_of_testBit_eq
  intro j
  rw [Nat.testBit_and, Nat.testBit_two_pow]
  by_cases hij : i = j
  · subst hij
    by_cases hq : q.testBit i = true <;> simp [hq]
  · split <;> simp [hij]
theorem and_or_r (x b q : Nat) : (x ||| b) &&& q = (x &&& q) ||| (b &&& q) := by
  apply Nat.eq_of_testBit_eq
  intro j
  simp only [Nat.testBit_and, Nat.testBit_or]
  cases x.testBit j <;> cases b.testBit j <;> cases q.testBit j <;> rfl
theorem fmQ (S : TS) (q : Nat) : ∀ n z, fmD (opQ S q) n z ↔ ∃ y, fmD (opN S) n y ∧ z = y &&& q := by
  intro n
  induction n with
  | zero =>
    intro z
    show z = 0 ↔ ∃ y, y = 0 ∧ z = y &&& q
    constructor
    · rintro rfl; exact ⟨0, rfl, (Nat.zero_and q).symm⟩
    · rintro ⟨y, rfl, rfl⟩; exact Nat.zero_and q
  | succ n ih =>
    intro z
    constructor
    · rintro (h | ⟨x, b, hx, ⟨hc, hb⟩, rfl⟩)
      · obtain ⟨y, hy, rfl⟩ := (ih z).mp h
        exact ⟨y, Or.inl hy, rfl⟩
      · obtain ⟨y, hy, rfl⟩ := (ih x).mp hx
        rcases hb with rfl | rfl
        · exact ⟨y ||| 2 ^ sO S n 0, Or.inr ⟨y, _, hy, ⟨hc, Or.inl rfl⟩, rfl⟩, (and_or_r _ _ _).symm⟩
        · exact ⟨y ||| 2 ^ sO S n 1, Or.inr ⟨y, _, hy, ⟨hc, Or.inr rfl⟩, rfl⟩, (and_or_r _ _ _).symm⟩
    · rintro ⟨y, (hy | ⟨x, b, hx, ⟨hc, hb⟩, rfl⟩), rfl⟩
      · exact Or.inl ((ih _).mpr ⟨y, hy, rfl⟩)
      · refine Or.inr ⟨x &&& q, b &&& q, (ih _).mpr ⟨x, hx, rfl⟩, ⟨hc, ?_⟩, and_or_r _ _ _⟩
        rcases hb with rfl | rfl
        · exact Or.inl rfl
        · exact Or.inr rfl
theorem fmQ_q (S : TS) (q n : Nat) : fmD (opQ S q) n q ↔ ∃ y, fmD (opN S) n y ∧ sbs q y := by
  rw [fmQ]
  constructor
  · rintro ⟨y, hy, e⟩
    refine ⟨y, hy, fun i hi => ?_⟩
    rw [e, Nat.testBit_and] at hi
    cases hyi : y.testBit i
    · rw [hyi] at hi; cases hi
    · rfl
  · rintro ⟨y, hy, hs⟩
    refine ⟨y, hy, ?_⟩
    apply Nat.eq_of_testBit_eq
    intro i
    rw [Nat.testBit_and]
    cases hq : q.testBit i
    · simp
    · rw [hs i hq]; rfl
/-- what is made of all coats: any part of it can be made -/
theorem fmA_dn (S : TS) : ∀ n y p, fmD (opA S) n y → sbs p y → fmD (opA S) n p := by
  intro n
  induction n with
  | zero =>
    intro y p hy hs
    have hy0 : y = 0 := hy
    subst hy0
    show p = 0
    apply Nat.eq_of_testBit_eq
    intro i
    cases hp : p.testBit i
    · simp
    · have := hs i hp; simp at this
  | succ n ih =>
    intro y p hy hs
    rcases hy with hy | ⟨x, b, hx, hb, rfl⟩
    · exact Or.inl (ih y p hy hs)
    · have e1 : p = (p &&& x) ||| (p &&& b) := by
        apply Nat.eq_of_testBit_eq
        intro i
        rw [Nat.testBit_or, Nat.testBit_and, Nat.testBit_and]
        cases hp : p.testBit i
        · simp
        · have := hs i hp
          rw [Nat.testBit_or] at this
          simpa using this.symm
      have h1 : fmD (opA S) n (p &&& x) := ih x _ hx (fun i hi => by rw [Nat.testBit_and] at hi; simp at hi; exact hi.2)
      have hone : ∀ j, p &&& 2 ^ j = 2 ^ j ∨ p &&& 2 ^ j = 0 := fun j => by
        rw [Nat.and_comm, two_and]; split
        · exact Or.inl rfl
        · exact Or.inr rfl
      have hzero : p &&& b = 0 → fmD (opA S) (n + 1) p := fun q => Or.inl (by rw [e1, q, Nat.or_zero]; exact h1)
      have hmk : ∀ b', opA S n b' → p &&& b = b' → fmD (opA S) (n + 1) p := fun b' q1 q2 => Or.inr ⟨_, b', h1, q1, by rw [← q2]; exact e1⟩
      rcases hb with rfl | rfl | ⟨hc, rfl⟩
      · rcases hone (sO S n 0) with q | q
        · exact hmk _ (Or.inl rfl) q
        · exact hzero q
      · rcases hone (sO S n 1) with q | q
        · exact hmk _ (Or.inr (Or.inl rfl)) q
        · exact hzero q
      · have e2 : p &&& (2 ^ sO S n 0 ||| 2 ^ sO S n 1) = (p &&& 2 ^ sO S n 0) ||| (p &&& 2 ^ sO S n 1) := by
          rw [Nat.and_comm, and_or_r, Nat.and_comm p, Nat.and_comm p]
        rcases hone (sO S n 0) with q | q <;> rcases hone (sO S n 1) with q' | q'
        · exact hmk _ (Or.inr (Or.inr ⟨hc, rfl⟩)) (by rw [e2, q, q'])
        · exact hmk _ (Or.inl rfl) (by rw [e2, q, q', Nat.or_zero])
        · exact hmk _ (Or.inr (Or.inl rfl)) (by rw [e2, q, q', Nat.zero_or])
        · exact hzero (by rw [e2, q, q', Nat.zero_or])
theorem sbs_or {a b c d : Nat} (h1 : sbs a c) (h2 : sbs b d) : sbs (a ||| b) (c ||| d) := fun i hi => by
  rw [Nat.testBit_or] at hi ⊢
  rcases Bool.or_eq_true_iff.mp hi with q | q
  · rw [h1 i q]; rfl
  · rw [h2 i q]; simp
theorem fmA_hv (S : TS) : ∀ n y, fmD (opA S) n y → ∃ z, fmD (opN S) n z ∧ sbs y (z ||| hvN S n) := by
  intro n
  induction n with
  | zero =>
    intro y hy
    exact ⟨0, rfl, by have hy0 : y = 0 := hy; subst hy0; intro i hi; simp at hi⟩
  | succ n ih =>
    intro y hy
    have hmono : sbs (hvN S n) (hvN S (n + 1)) := fun i hi => by
      unfold hvN
      split
      · rw [Nat.testBit_or, hi]; rfl
      · exact hi
    rcases hy with hy | ⟨x, b, hx, hb, rfl⟩
    · obtain ⟨z, hz, hs⟩ := ih y hy
      exact ⟨z, Or.inl hz, sbs_tr hs (sbs_or (sbs_rf z) hmono)⟩
    · obtain ⟨z, hz, hs⟩ := ih x hx
      by_cases hc : (sK S).testBit n = true
      · refine ⟨z, Or.inl hz, ?_⟩
        have hbs : sbs b (2 ^ sO S n 0 ||| 2 ^ sO S n 1) := by
          rcases hb with rfl | rfl | ⟨-, rfl⟩
          · intro i hi; rw [Nat.testBit_or, hi]; rfl
          · intro i hi; rw [Nat.testBit_or, hi]; simp
          · exact sbs_rf _
        show sbs (x ||| b) (z ||| hvN S (n + 1))
        rw [hvN, if_pos hc, ← Nat.or_assoc]
        exact sbs_or hs hbs
      · refine ⟨z ||| b, Or.inr ⟨z, b, hz, ⟨hc, ?_⟩, rfl⟩, ?_⟩
        · rcases hb with q | q | ⟨q, -⟩
          · exact Or.inl q
          · exact Or.inr q
          · exact absurd q hc
        · rw [hvN, if_neg hc]
          rw [Nat.or_assoc, Nat.or_comm b, ← Nat.or_assoc]
          exact sbs_or hs (sbs_rf b)
theorem fmN_hv (S : TS) : ∀ n z, fmD (opN S) n z → fmD (opA S) n (z ||| hvN S n) := by
  intro n
  induction n with
  | zero =>
    intro z hz
    have hz0 : z = 0 := hz
    subst hz0
    show 0 ||| hvN S 0 = 0
    rw [hvN]; rfl
  | succ n ih =>
    intro z hz
    by_cases hc : (sK S).testBit n = true
    · rw [hvN, if_pos hc]
      rcases hz with hz | ⟨x, b, hx, hb, rfl⟩
      · rw [← Nat.or_assoc]
        exact Or.inr ⟨_, _, ih z hz, Or.inr (Or.inr ⟨hc, rfl⟩), rfl⟩
      · exact absurd hc hb.1
    · rw [hvN, if_neg hc]
      rcases hz with hz | ⟨x, b, hx, hb, rfl⟩
      · exact Or.inl (ih z hz)
      · rw [Nat.or_assoc, Nat.or_comm b, ← Nat.or_assoc]
        refine Or.inr ⟨_, b, ih x hx, ?_, rfl⟩
        rcases hb.2 with q | q
        · exact Or.inl q
        · exact Or.inr (Or.inl q)
/-- both ways to ask whether these can be clad are one -/
theorem fm_same (S : TS) (n p q : Nat) (hq : ∀ i, q.testBit i = true ↔ (p.testBit i = true ∧ ¬ (hvN S n).testBit i = true)) : fmD (opA S) n p ↔ fmD (opQ S q) n q := by
  rw [fmQ_q]
  constructor
  · intro h
    obtain ⟨z, hz, hs⟩ := fmA_hv S n p h
    refine ⟨z, hz, fun i hi => ?_⟩
    have h1 := (hq i).mp hi
    have h2 := hs i h1.1
    rw [Nat.testBit_or] at h2
    rcases Bool.or_eq_true_iff.mp h2 with q1 | q1
    · exact q1
    · exact absurd q1 h1.2
  · rintro ⟨y, hy, hs⟩
    refine fmA_dn S n _ p (fmN_hv S n y hy) (fun i hi => ?_)
    rw [Nat.testBit_or]
    by_cases hh : (hvN S n).testBit i = true
    · rw [hh]; simp
    · rw [hs i ((hq i).mpr ⟨hi, hh⟩)]; rfl
theorem fmD_lt2 {O : Nat → Nat → Prop} {w : Nat} : ∀ n k, (∀ c b, c < n → O c b → b < 2 ^ w) → fmD O n k → k < 2 ^ w := by
  intro n
  induction n with
  | zero => intro k _ hk; have : k = 0 := hk; subst this; exact Nat.two_pow_pos w
  | succ n ih =>
    intro k hc hk
    rcases hk with hk | ⟨x, b, hx, hb, rfl⟩
    · exact ih k (fun c b q => hc c b (by omega)) hk
    · exact Nat.or_lt_two_pow (ih x (fun c b q => hc c b (by omega)) hx) (hc n b (by omega) hb)
/-! who is OUT by a SET of ERRANDS -/
def odP (S : TS) (errs hour : Nat) : Nat → Nat
  | 0 => 0
  | p + 1 => odP S errs hour p ||| (if 0 ≤ whereBy S p hour errs then 2 ^ p else 0)
theorem odP_bit (S : TS) (errs hour : Nat) : ∀ n i, (odP S errs hour n).testBit i = true ↔ (i < n ∧ 0 ≤ whereBy S i hour errs) := by
  intro n
  induction n with
  | zero => intro i; simp [odP]
  | succ n ih =>
    intro i
    rw [odP, Nat.testBit_or, Bool.or_eq_true, ih]
    by_cases hw : 0 ≤ whereBy S n hour errs
    · rw [if_pos hw, Nat.testBit_two_pow]
      simp only [decide_eq_true_eq]
      constructor
      · rintro (⟨q1, q2⟩ | rfl)
        · exact ⟨by omega, q2⟩
        · exact ⟨by omega, hw⟩
      · rintro ⟨q1, q2⟩
        by_cases hin : n = i
        · exact Or.inr hin
        · exact Or.inl ⟨by omega, q2⟩
    · rw [if_neg hw]
      simp only [Nat.zero_testBit, Bool.false_eq_true, or_false]
      constructor
      · rintro ⟨q1, q2⟩; exact ⟨by omega, q2⟩
      · rintro ⟨q1, q2⟩
        refine ⟨?_, q2⟩
        rcases Nat.lt_or_ge i n with q | q
        · exact q
        · have : i = n := by omega
          subst this
          exact absurd q2 hw
theorem odP_lt (S : TS) (errs hour : Nat) : ∀ n, odP S errs hour n < 2 ^ n := by
  intro n
  induction n with
  | zero => exact (by decide : 0 < 2 ^ 0)
  | succ n ih =>
    unfold odP
    have h1 : 2 ^ n < 2 ^ (n + 1) := Nat.pow_lt_pow_right (by omega) (by omega)
    refine Nat.or_lt_two_pow (by omega) ?_
    split <;> omega
/-- all of these ERRANDS can be done -/
def mokH (S : TS) (errs hour : Nat) : Prop := fmD (opA S) (sC S) (odP S errs hour (sP S))
def mokS (S : TS) (errs : Nat) : Prop := ∀ hour, hour < 24 → mokH S errs hour
/-- MOST ERRANDS -/
def isMst (S : TS) (r : Nat) : Prop := r < 2 ^ sE S ∧ mokS S r ∧ ∀ x, x < 2 ^ sE S → mokS S x → bcn x 24 ≤ bcn r 24 ∧ (x < r → bcn x 24 < bcn r 24)
theorem isMst_one {S : TS} {r r' : Nat} (h : isMst S r) (h' : isMst S r') : r = r' := by
  have h1 := h.2.2 r' h'.1 h'.2.1
  have h2 := h'.2.2 r h.1 h.2.1
  omega
theorem bcn_0 (k : Nat) : bcn 0 k = 0 := by
  induction k with
  | zero => rfl
  | succ k ih => unfold bcn; rw [ih]; simp
theorem fmD_0 (O : Nat → Nat → Prop) : ∀ n, fmD O n 0 := by
  intro n
  induction n with
  | zero => rfl
  | succ n ih => exact Or.inl ih
theorem wBy_0 (S : TS) (p hour : Nat) : ∀ n e, wBy S p hour 0 n e = -1 := by
  intro n
  induction n with
  | zero => intro e; rfl
  | succ n ih => intro e; rw [wBy, if_neg (by simp)]; exact ih (e + 1)
theorem odP_0 (S : TS) (hour : Nat) : ∀ n, odP S 0 hour n = 0 := by
  intro n
  induction n with
  | zero => rfl
  | succ n ih => rw [odP, ih, show whereBy S n hour 0 = -1 from wBy_0 S n hour _ _, if_neg (by omega)]; rfl
theorem mokS_0 (S : TS) : mokS S 0 := fun hour _ => by unfold mokH; rw [odP_0]; exact fmD_0 _ _
/-- the half-owners, as the reference asks -/
theorem hvN_bit (S : TS) (p : Nat) : ∀ n, (hvN S n).testBit p = true ↔ ∃ c, c < n ∧ (sK S).testBit c = true ∧ (sO S c 0 = p ∨ sO S c 1 = p) := by
  intro n
  induction n with
  | zero => simp [hvN]
  | succ n ih =>
    unfold hvN
    by_cases hc : (sK S).testBit n = true
    · rw [if_pos hc, Nat.testBit_or, Nat.testBit_or, Nat.testBit_two_pow, Nat.testBit_two_pow, Bool.or_eq_true, ih]
      constructor
      · rintro (⟨c, q1, q2⟩ | q)
        · exact ⟨c, by omega, q2⟩
        · exact ⟨n, by omega, hc, by simpa using q⟩
      · rintro ⟨c, q1, q2, q3⟩
        by_cases hcn : c = n
        · subst hcn; exact Or.inr (by simpa using q3)
        · exact Or.inl ⟨c, by omega, q2, q3⟩
    · rw [if_neg hc, ih]
      constructor
      · rintro ⟨c, q1, q2⟩; exact ⟨c, by omega, q2⟩
      · rintro ⟨c, q1, q2, q3⟩
        by_cases hcn : c = n
        · subst hcn; exact absurd q2 hc
        · exact ⟨c, by omega, q2, q3⟩
/-- a row of 256 marks, gone through from above in place -/
def mkI (O : Nat → Nat → Prop) (c n : Nat) (k : Nat) : Prop := fmD O c k ∨ ∃ x b, n ≤ x ∧ x < 256 ∧ fmD O c x ∧ O c b ∧ k = x ||| b
theorem mkI_at {O : Nat → Nat → Prop} {c n k : Nat} (hk : k < n) : mkI O c n k ↔ fmD O c k := by
  constructor
  · rintro (h | ⟨x, b, h1, h2, h3, h4, rfl⟩)
    · exact h
    · have := Nat.left_le_or (n := x) (m := b); omega
  · exact Or.inl
theorem mkI_0 {O : Nat → Nat → Prop} {c : Nat} (hl : ∀ x, fmD O c x → x < 256) (k : Nat) : mkI O c 0 k ↔ fmD O (c + 1) k := by
  constructor
  · rintro (h | ⟨x, b, h1, h2, h3, h4, h5⟩)
    · exact Or.inl h
    · exact Or.inr ⟨x, b, h3, h4, h5⟩
  · rintro (h | ⟨x, b, h3, h4, h5⟩)
    · exact Or.inl h
    · exact Or.inr ⟨x, b, by omega, hl x h3, h3, h4, h5⟩
theorem mkI_hi {O : Nat → Nat → Prop} {c k : Nat} : mkI O c 256 k ↔ fmD O c k := by
  constructor
  · rintro (h | ⟨x, b, h1, h2, -⟩)
    · exact h
    · omega
  · exact Or.inl
theorem mkI_skip {O : Nat → Nat → Prop} {c n k : Nat} (h : ¬ fmD O c n) : mkI O c n k ↔ mkI O c (n + 1) k := by
  constructor
  · rintro (q | ⟨x, b, h1, h2, h3, h4⟩)
    · exact Or.inl q
    · by_cases hx : x = n
      · subst hx; exact absurd h3 h
      · exact Or.inr ⟨x, b, by omega, h2, h3, h4⟩
  · rintro (q | ⟨x, b, h1, h2, h3, h4⟩)
    · exact Or.inl q
    · exact Or.inr ⟨x, b, by omega, h2, h3, h4⟩
theorem mkI_step {O : Nat → Nat → Prop} {c n k : Nat} (h : fmD O c n) (hn : n < 256) : mkI O c n k ↔ mkI O c (n + 1) k ∨ ∃ b, O c b ∧ k = n ||| b := by
  constructor
  · rintro (q | ⟨x, b, h1, h2, h3, h4, h5⟩)
    · exact Or.inl (Or.inl q)
    · by_cases hx : x = n
      · subst hx; exact Or.inr ⟨b, h4, h5⟩
      · exact Or.inl (Or.inr ⟨x, b, by omega, h2, h3, h4, h5⟩)
  · rintro ((q | ⟨x, b, h1, h2, h3, h4⟩) | ⟨b, h1, h2⟩)
    · exact Or.inl q
    · exact Or.inr ⟨x, b, by omega, h2, h3, h4⟩
    · exact Or.inr ⟨n, b, Nat.le_refl _, hn, h, h1, h2⟩
/-- marks as numbers -/
def mrk (f : Nat → Int) (F : Nat → Prop) : Prop := ∀ k, k < 256 → (f k = 1 ∧ F k) ∨ (f k = 0 ∧ ¬ F k)
theorem mrk_eq {f : Nat → Int} {F G : Nat → Prop} (h : mrk f F) (e : ∀ k, k < 256 → (F k ↔ G k)) : mrk f G := fun k hk => by
  rcases h k hk with ⟨h1, h2⟩ | ⟨h1, h2⟩
  · exact Or.inl ⟨h1, (e k hk).mp h2⟩
  · exact Or.inr ⟨h1, fun q => h2 ((e k hk).mpr q)⟩
theorem mrk_at {f : Nat → Int} {F : Nat → Prop} (h : mrk f F) {k : Nat} (hk : k < 256) : f k = 1 ↔ F k := by
  rcases h k hk with ⟨h1, h2⟩ | ⟨h1, h2⟩
  · exact ⟨fun _ => h2, fun _ => h1⟩
  · exact ⟨fun q => by omega, fun q => absurd q h2⟩
theorem mrk_rg {f : Nat → Int} {F : Nat → Prop} (h : mrk f F) {k : Nat} (hk : k < 256) : f k = 0 ∨ f k = 1 := by
  rcases h k hk with ⟨h1, -⟩ | ⟨h1, -⟩ <;> omega
theorem mrk_w {h : PH} {a j : Nat} {F : Nat → Prop} (M : mrk (h a) F) : mrk (hU h a j 1 a) (fun k => F k ∨ k = j) := fun k hk => by
  by_cases hkj : k = j
  · subst hkj
    exact Or.inl ⟨hU_s _ _ _ _, Or.inr rfl⟩
  · rw [hU_i _ _ _ hkj]
    rcases M k hk with ⟨h1, h2⟩ | ⟨h1, h2⟩
    · exact Or.inl ⟨h1, Or.inl h2⟩
    · exact Or.inr ⟨h1, by rintro (q | q); exact h2 q; exact hkj q⟩
theorem own_lt {S : TS} (B : sB S) {c b : Nat} (hc : c < sC S) (h : opA S c b) : b < 2 ^ sP S := by
  have ho := B.2.2.2.1 c hc
  have h1 : 2 ^ sO S c 0 < 2 ^ sP S := Nat.pow_lt_pow_right (by omega) ho.1
  have h2 : 2 ^ sO S c 1 < 2 ^ sP S := Nat.pow_lt_pow_right (by omega) ho.2.1
  rcases h with rfl | rfl | ⟨-, rfl⟩
  · exact h1
  · exact h2
  · exact Nat.or_lt_two_pow h1 h2
theorem fmA_lt {S : TS} (B : sB S) {n x : Nat} (hn : n ≤ sC S) (h : fmD (opA S) n x) : x < 2 ^ sP S := fmD_lt2 n x (fun c b q1 q2 => own_lt B (by omega) q2) h
theorem opQ_lt {S : TS} (B : sB S) {q c b : Nat} (hc : c < sC S) (h : opQ S q c b) : b < 2 ^ sP S := by
  have ho := B.2.2.2.1 c hc
  have h1 : 2 ^ sO S c 0 < 2 ^ sP S := Nat.pow_lt_pow_right (by omega) ho.1
  have h2 : 2 ^ sO S c 1 < 2 ^ sP S := Nat.pow_lt_pow_right (by omega) ho.2.1
  rcases h.2 with rfl | rfl
  · exact Nat.lt_of_le_of_lt Nat.and_le_left h1
  · exact Nat.lt_of_le_of_lt Nat.and_le_left h2
theorem fmQ_lt {S : TS} (B : sB S) {q n x : Nat} (hn : n ≤ sC S) (h : fmD (opQ S q) n x) : x < 2 ^ sP S := fmD_lt2 n x (fun c b q1 q2 => opQ_lt B (by omega) q2) h
