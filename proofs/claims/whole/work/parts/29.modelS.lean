theorem mV_hi {h : PH} {S : TS} {i : Nat} {z : Int} (V : mV h S) (h8 : sC S ≤ 8) (hi : 18 ≤ i) : mV (hU h 206 i z) S := by
  obtain ⟨v1, v2, v3, v4, v5, v6, v7, v8⟩ := V
  refine ⟨v1, v2, v3, fun x hx => ?_, v5, ?_, ?_, v8⟩
  · have w1 := v4 x hx
    refine ⟨?_, ?_, w1.2.2⟩
    · rw [hU_i _ _ _ (by omega)]; exact w1.1
    · rw [hU_i _ _ _ (by omega)]; exact w1.2.1
  · rw [hU_i _ _ _ (by omega)]; exact v6
  · rw [hU_i _ _ _ (by omega)]; exact v7
/-- a day of a WINTER: the town, THE SEED, CHILL so far -/
def dayW (u : TS × Nat × Int) : TS × Nat × Int :=
  (if okBuy (setF u.1 (drN u.2.1 40)) (drN (nxS u.2.1) (sC u.1)) (drN (nxS (nxS (nxS u.2.1))) (sP u.1)) then setO (setF u.1 (drN u.2.1 40)) (drN (nxS u.2.1) (sC u.1)) (drN (nxS (nxS u.2.1)) 2) (drN (nxS (nxS (nxS u.2.1))) (sP u.1)) else setF u.1 (drN u.2.1 40),
   nxS (nxS (nxS (nxS u.2.1))), u.2.2 + dyC (setF u.1 (drN u.2.1 40)) 24)
def wnW (u : TS × Nat × Int) : Nat → TS × Nat × Int
  | 0 => u
  | k + 1 => wnW (dayW u) k
/-- what may change in a WINTER: owners, FROST, THE SEED, what is weighed -/
def frV (h h' : PH) : Prop := of2 206 219 h h' ∧ ∀ i, 19 ≤ i → h' 206 i = h 206 i
theorem frV_rf (h : PH) : frV h h := ⟨of2_rf _ _ _, fun _ _ => rfl⟩
theorem frV_tr {h h' h2 : PH} (a : frV h h') (b : frV h' h2) : frV h h2 := ⟨fun x hx hy => (b.1 x hx hy).trans (a.1 x hx hy), fun i hi => (b.2 i hi).trans (a.2 i hi)⟩
theorem frV_w {h h' : PH} {i : Nat} {z : Int} (a : frV h h') (hi : i < 19) : frV h (hU h' 206 i z) := ⟨of2_w1 a.1, fun x hx => by rw [hU_i _ _ _ (by omega)]; exact a.2 x hx⟩
theorem frV_o {h h' h2 : PH} (a : frV h h') (b : ofO 219 h' h2) : frV h h2 := ⟨fun x hx hy => (b x hy).trans (a.1 x hx hy), fun i hi => by rw [b 206 (by decide)]; exact a.2 i hi⟩
section M29
variable {g : EG} {d t s : Nat} {Q : EQ}
theorem drN_lt (x : Nat) {n : Nat} (hn : 0 < n) : drN x n < n := Nat.mod_lt _ hn
theorem day_step {S : TS} {x : Nat} {sum : Int} {cw lw pw : Nat} (hcw : drN (nxS x) (sC S) = cw) (hsw : drN (nxS (nxS x)) 2 = lw) (hpw : drN (nxS (nxS (nxS x))) (sP S) = pw) : dayW (S, x, sum) = (if okBuy (setF S (drN x 40)) cw pw then setO (setF S (drN x 40)) cw lw pw else setF S (drN x 40), nxS (nxS (nxS (nxS x))), sum + dyC (setF S (drN x 40)) 24) := by
  subst hcw; subst hsw; subst hpw; rfl
end M29
