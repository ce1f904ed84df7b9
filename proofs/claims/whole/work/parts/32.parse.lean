/-! the pure reading of THE TEXT -/
def skf (f : Nat → Bool) (T : Nat → Nat) (n : Nat) : Nat → Nat → Nat
  | 0, i => i
  | m + 1, i => if i < n ∧ f (T i) = true then skf f T n m (i + 1) else i
def sk (f : Nat → Bool) (T : Nat → Nat) (n i : Nat) : Nat := skf f T n (n - i) i
def isB (c : Nat) : Bool := decide (c = 32)
def isL (c : Nat) : Bool := decide (97 ≤ c ∧ c ≤ 122)
def isD (c : Nat) : Bool := decide (48 ≤ c ∧ c ≤ 57)
theorem isB_t {c : Nat} (h : c = 32) : isB c = true := by unfold isB; simp [h]
theorem isB_f {c : Nat} (h : c ≠ 32) : isB c = false := by unfold isB; simp [h]
theorem isL_t {c : Nat} (h : 97 ≤ c ∧ c ≤ 122) : isL c = true := by unfold isL; exact decide_eq_true h
theorem isL_f {c : Nat} (h : ¬ (97 ≤ c ∧ c ≤ 122)) : isL c = false := by unfold isL; exact decide_eq_false h
theorem isD_t {c : Nat} (h : 48 ≤ c ∧ c ≤ 57) : isD c = true := by unfold isD; exact decide_eq_true h
theorem isD_f {c : Nat} (h : ¬ (48 ≤ c ∧ c ≤ 57)) : isD c = false := by unfold isD; exact decide_eq_false h
theorem isD_iff {c : Nat} : isD c = true ↔ (48 ≤ c ∧ c ≤ 57) := by unfold isD; exact decide_eq_true_iff
theorem isL_iff {c : Nat} : isL c = true ↔ (97 ≤ c ∧ c ≤ 122) := by unfold isL; exact decide_eq_true_iff
theorem sk_y {f : Nat → Bool} {T : Nat → Nat} {n i : Nat} (hi : i < n) (hf : f (T i) = true) : sk f T n i = sk f T n (i + 1) := by
  unfold sk
  obtain ⟨m, hm⟩ : ∃ m, n - i = m + 1 := ⟨n - i - 1, by omega⟩
  rw [hm, skf, if_pos ⟨hi, hf⟩, show n - (i + 1) = m from by omega]
theorem sk_n {f : Nat → Bool} {T : Nat → Nat} {n i : Nat} (hf : ¬ (i < n ∧ f (T i) = true)) : sk f T n i = i := by
  unfold sk
  generalize n - i = m
  cases m with
  | zero => rfl
  | succ m => rw [skf, if_neg hf]
theorem sk_nf {f : Nat → Bool} {T : Nat → Nat} {n i : Nat} (hf : f (T i) = false) : sk f T n i = i := sk_n (fun q => by rw [hf] at q; exact absurd q.2 (by decide))
theorem sk_ne {f : Nat → Bool} {T : Nat → Nat} {n i : Nat} (hi : n ≤ i) : sk f T n i = i := sk_n (fun q => by omega)
theorem sk_sp (f : Nat → Bool) (T : Nat → Nat) (n : Nat) : ∀ m i, i + m = n → i ≤ sk f T n i ∧ sk f T n i ≤ n ∧ ¬ (sk f T n i < n ∧ f (T (sk f T n i)) = true) ∧ ∀ x, i ≤ x → x < sk f T n i → f (T x) = true := by
  intro m
  induction m with
  | zero =>
    intro i hi
    rw [sk_ne (by omega)]
    exact ⟨Nat.le_refl _, by omega, fun q => by omega, fun x h1 h2 => by omega⟩
  | succ m ih =>
    intro i hi
    by_cases hf : f (T i) = true
    · rw [sk_y (by omega) hf]
      have h := ih (i + 1) (by omega)
      refine ⟨by omega, h.2.1, h.2.2.1, fun x h1 h2 => ?_⟩
      by_cases hx : x = i
      · subst hx; exact hf
      · exact h.2.2.2 x (by omega) h2
    · rw [sk_n (fun q => hf q.2)]
      exact ⟨Nat.le_refl _, by omega, fun q => hf q.2, fun x h1 h2 => by omega⟩
theorem sk_le {f : Nat → Bool} {T : Nat → Nat} {n i : Nat} (hi : i ≤ n) : i ≤ sk f T n i ∧ sk f T n i ≤ n := by
  have := sk_sp f T n (n - i) i (by omega)
  exact ⟨this.1, this.2.1⟩
/-- the value of m figures from j on, as the reference counts -/
def vD (T : Nat → Nat) (j : Nat) : Nat → Nat
  | 0 => 0
  | m + 1 => if 99999 < vD T j m then vD T j m else 10 * vD T j m + T (j + m) - 48
/-- as the class counts -/
def vC (T : Nat → Nat) (j : Nat) : Nat → Nat
  | 0 => 0
  | m + 1 => if m < 3 then vC T j m * 10 + T (j + m) - 48 else vC T j m
theorem vD_le {T : Nat → Nat} {j : Nat} : ∀ m, (∀ x, x < m → 48 ≤ T (j + x) ∧ T (j + x) ≤ 57) → vD T j m < 1000010 := by
  intro m
  induction m with
  | zero => intro _; exact (by decide : 0 < 1000010)
  | succ m ih =>
    intro h
    have h1 := ih (fun x hx => h x (by omega))
    have h2 := h m (by omega)
    unfold vD
    split <;> omega
theorem vC_le {T : Nat → Nat} {j : Nat} : ∀ m, (∀ x, x < m → 48 ≤ T (j + x) ∧ T (j + x) ≤ 57) → vC T j m < 1000 ∧ (m ≤ 3 → vC T j m < 10 ^ m) := by
  intro m
  induction m with
  | zero => intro _; exact ⟨(by decide : 0 < 1000), fun _ => (by decide : 0 < 10 ^ 0)⟩
  | succ m ih =>
    intro h
    have h1 := ih (fun x hx => h x (by omega))
    have h2 := h m (by omega)
    unfold vC
    by_cases hm : m < 3
    · rw [if_pos hm]
      have h3 := h1.2 (by omega)
      rcases (show m = 0 ∨ m = 1 ∨ m = 2 by omega) with rfl | rfl | rfl
      · exact ⟨by omega, fun _ => by omega⟩
      · exact ⟨by omega, fun _ => by omega⟩
      · exact ⟨by omega, fun _ => by omega⟩
    · rw [if_neg hm]
      exact ⟨h1.1, fun q => by omega⟩
theorem vC_vD {T : Nat → Nat} {j : Nat} : ∀ m, m ≤ 3 → (∀ x, x < m → 48 ≤ T (j + x) ∧ T (j + x) ≤ 57) → vC T j m = vD T j m := by
  intro m
  induction m with
  | zero => intro _ _; rfl
  | succ m ih =>
    intro hm h
    have h1 := ih (by omega) (fun x hx => h x (by omega))
    have h2 := (vC_le m (fun x hx => h x (by omega))).1
    unfold vC vD
    rw [if_pos (by omega), ← h1, if_neg (by omega), Nat.mul_comm]
/-- a NUMBER between lo and hi from i on: its fault and the place; or its value, where it begins, where it ends -/
def num (T : Nat → Nat) (n lo hi i : Nat) : (Nat × Nat) ⊕ (Nat × Nat × Nat) :=
  if sk isD T n (sk isB T n i) = sk isB T n i then .inl (1, sk isB T n i)
  else if 3 < sk isD T n (sk isB T n i) - sk isB T n i ∨ vD T (sk isB T n i) (sk isD T n (sk isB T n i) - sk isB T n i) < lo ∨ hi < vD T (sk isB T n i) (sk isD T n (sk isB T n i) - sk isB T n i) then .inl (2, sk isB T n i)
  else .inr (vD T (sk isB T n i) (sk isD T n (sk isB T n i) - sk isB T n i), sk isB T n i, sk isD T n (sk isB T n i))
/-- a town that is being read: the town, how many 'likes', which are told, whether 'frost' is told -/
abbrev PU : Type := TS × Nat × (Nat → Nat) × Nat
def uO (U : PU) (S : TS) : PU := (S, U.2)
def adC (S : TS) (p q w : Nat) : TS := (sP S, sC S + 1, sE S, fun c k => if c = sC S then (if k = 0 then p else q) else sO S c k, fun c => if c = sC S then w else sW S c, sR S, sK S, sF S, sL S)
def adE (S : TS) (p x a b : Nat) : TS := (sP S, sC S, sE S + 1, sO S, sW S, fun e k => if e = sE S then (if k = 0 then p else if k = 1 then x else if k = 2 then a else b) else sR S e k, sK S, sF S, sL S)
def adL (U : PU) (p q l : Nat) : PU := ((sP U.1, sC U.1, sE U.1, sO U.1, sW U.1, sR U.1, sK U.1, sF U.1, fun p' q' => if p' = p ∧ q' = q then l else sL U.1 p' q'), U.2.1 + 1, fun p' => if p' = p then U.2.2.1 p ||| 2 ^ q else U.2.2.1 p', U.2.2.2)
def adP (S : TS) (v : Nat) : TS := (v, sC S, sE S, sO S, sW S, sR S, sK S, sF S, sL S)
def adF (U : PU) (v : Nat) : PU := ((sP U.1, sC U.1, sE U.1, sO U.1, sW U.1, sR U.1, sK U.1, v, sL U.1), U.2.1, U.2.2.1, 1)
/-- the empty town -/
def uZ : PU := ((0, 0, 0, fun _ _ => 0, fun _ => 0, fun _ _ => 0, 0, 20, fun _ _ => 0), 0, fun _ => 0, 0)
abbrev RU : Type := (Nat × Nat) ⊕ (PU × Nat)
/-- an HOUR between a and b that is p's already -/
def bsyB (S : TS) (p a b : Nat) : Nat → Bool
  | 0 => false
  | e + 1 => bsyB S p a b e || decide (sR S e 0 = p ∧ sR S e 2 ≤ b ∧ a ≤ sR S e 3)
def rdP (T : Nat → Nat) (n : Nat) (U : PU) (i : Nat) : RU := match num T n 1 8 i with
  | .inl x => .inl x
  | .inr x => .inr (uO U (adP U.1 x.1), x.2.2)
def rdC (T : Nat → Nat) (n : Nat) (U : PU) (i : Nat) : RU := match num T n 0 (sP U.1 - 1) i with
  | .inl x => .inl x
  | .inr x => match num T n 0 (sP U.1 - 1) x.2.2 with
    | .inl y => .inl y
    | .inr y => if x.1 = y.1 then .inl (4, y.2.1) else match num T n 1 99 y.2.2 with
      | .inl z => .inl z
      | .inr z => .inr (uO U (adC U.1 x.1 y.1 z.1), z.2.2)
def rdG (T : Nat → Nat) (n : Nat) (U : PU) (i : Nat) : RU := match num T n 0 (sP U.1 - 1) i with
  | .inl x => .inl x
  | .inr x => match num T n 0 5 x.2.2 with
    | .inl y => .inl y
    | .inr y => match num T n 0 23 y.2.2 with
      | .inl z => .inl z
      | .inr z => match num T n 0 23 z.2.2 with
        | .inl u => .inl u
        | .inr u => if u.1 < z.1 ∨ bsyB U.1 x.1 z.1 u.1 (sE U.1) = true then .inl (4, u.2.1) else .inr (uO U (adE U.1 x.1 y.1 z.1 u.1), u.2.2)
def rdL (T : Nat → Nat) (n : Nat) (U : PU) (i : Nat) : RU := match num T n 0 (sP U.1 - 1) i with
  | .inl x => .inl x
  | .inr x => match num T n 0 (sP U.1 - 1) x.2.2 with
    | .inl y => .inl y
    | .inr y => if x.1 = y.1 ∨ (U.2.2.1 x.1).testBit y.1 = true then .inl (4, y.2.1) else match num T n 0 99 y.2.2 with
      | .inl z => .inl z
      | .inr z => .inr (adL U x.1 y.1 z.1, z.2.2)
def rdF (T : Nat → Nat) (n : Nat) (U : PU) (i : Nat) : RU := match num T n 0 99 i with
  | .inl x => .inl x
  | .inr x => .inr (adF U x.1, x.2.2)
/-- the word from i to e is this one -/
def wrK (T : Nat → Nat) (i : Nat) (l : List Nat) : Nat → Bool
  | 0 => true
  | k + 1 => wrK T i l k && decide (T (i + k) = l.getD k 0)
def wrd (T : Nat → Nat) (i e : Nat) (l : List Nat) : Bool := decide (e - i = l.length) && wrK T i l l.length
def wPe : List Nat := [112, 101, 111, 112, 108, 101]
def wCo : List Nat := [99, 111, 97, 116]
def wGo : List Nat := [103, 111, 101, 115]
def wLi : List Nat := [108, 105, 107, 101, 115]
def wFr : List Nat := [102, 114, 111, 115, 116]
/-- a clause, without its ';' -/
def clz (T : Nat → Nat) (n : Nat) (U : PU) (i : Nat) : RU :=
  if wrd T i (sk isL T n i) wPe = true then (if sP U.1 = 0 then rdP T n U (sk isL T n i) else .inl (3, i))
  else if sP U.1 = 0 then .inl (1, i)
  else if wrd T i (sk isL T n i) wCo = true then (if sC U.1 < 8 then rdC T n U (sk isL T n i) else .inl (3, i))
  else if wrd T i (sk isL T n i) wGo = true then (if sE U.1 < 10 then rdG T n U (sk isL T n i) else .inl (3, i))
  else if wrd T i (sk isL T n i) wLi = true then (if U.2.1 < 30 then rdL T n U (sk isL T n i) else .inl (3, i))
  else if wrd T i (sk isL T n i) wFr = true then (if U.2.2.2 = 0 then rdF T n U (sk isL T n i) else .inl (3, i))
  else .inl (1, i)
def smi (T : Nat → Nat) (n : Nat) (r : RU) : RU := match r with
  | .inl x => .inl x
  | .inr x => if sk isB T n x.2 < n ∧ T (sk isB T n x.2) = 59 then .inr (x.1, sk isB T n x.2 + 1) else .inl (1, sk isB T n x.2)
/-- clauses, as many as come; i stands at a clause's first letter or at the end -/
def prs (T : Nat → Nat) (n : Nat) : Nat → PU → Nat → RU
  | 0, U, i => .inr (U, i)
  | f + 1, U, i => if sk isB T n i < n then (match smi T n (clz T n U (sk isB T n i)) with
      | .inl x => .inl x
      | .inr x => prs T n f x.1 x.2) else .inr (U, i)
/-! what a number tells -/
theorem num_l {T : Nat → Nat} {n lo hi' i : Nat} {x : Nat × Nat} (hi : i ≤ n) (h : num T n lo hi' i = .inl x) : (x.1 = 1 ∨ x.1 = 2) ∧ x.2 = sk isB T n i ∧ x.2 ≤ n := by
  have h1 := sk_le (f := isB) (T := T) hi
  unfold num at h
  split at h
  · cases h; exact ⟨Or.inl rfl, rfl, h1.2⟩
  · split at h
    · cases h; exact ⟨Or.inr rfl, rfl, h1.2⟩
    · cases h
theorem num_r {T : Nat → Nat} {n lo hi' i : Nat} {x : Nat × Nat × Nat} (hi : i ≤ n) (h : num T n lo hi' i = .inr x) : lo ≤ x.1 ∧ x.1 ≤ hi' ∧ x.2.1 = sk isB T n i ∧ x.2.1 < x.2.2 ∧ x.2.2 ≤ n ∧ x.2.2 = sk isD T n (sk isB T n i) := by
  have h1 := sk_le (f := isB) (T := T) hi
  have h2 := sk_le (f := isD) (T := T) h1.2
  unfold num at h
  split at h
  · cases h
  · rename_i q1
    split at h
    · cases h
    · rename_i q2
      cases h
      refine ⟨by simp only; omega, by simp only; omega, rfl, by simp only; omega, h2.2, rfl⟩
