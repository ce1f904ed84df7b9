theorem hU_2 (h : PH) (a i : Nat) (y z : Int) : hU (hU h a i y) a i z = hU h a i z := by
  funext a' i'
  simp only [hU_g]
  split <;> rfl
theorem hU_idv {h : PH} {a i : Nat} {z : Int} (e : h a i = z) : hU h a i z = h := by rw [← e]; exact hU_id h a i
/-- THE TEXT in the reference's cells -/
def mT (h : PH) (T : Nat → Nat) (n : Nat) : Prop := h 205 13 = (n : Int) ∧ ∀ x, x < n → h 218 x = (T x : Int)
def tB (T : Nat → Nat) (n : Nat) : Prop := n ≤ 400 ∧ ∀ x, x < n → T x < 256
/-- but for where the reader stands, and the fault, nothing has changed -/
def pG (h h' : PH) : Prop := ∀ a i, ¬ (a = 205 ∧ 14 ≤ i ∧ i ≤ 18) → h' a i = h a i
theorem pG_rf (h : PH) : pG h h := fun _ _ _ => rfl
theorem pG_tr {h h' h2 : PH} (a : pG h h') (b : pG h' h2) : pG h h2 := fun x i q => (b x i q).trans (a x i q)
theorem pG_w {h h' : PH} {i : Nat} {z : Int} (a : pG h h') (h1 : 14 ≤ i) (h2 : i ≤ 18) : pG h (hU h' 205 i z) := fun x j q => by
  rw [hU_g, if_neg (by rintro ⟨rfl, rfl⟩; exact q ⟨rfl, h1, h2⟩)]
  exact a x j q
theorem mT_p {h h' : PH} {T : Nat → Nat} {n : Nat} (V : mT h T n) (p : pG h h') : mT h' T n := ⟨by rw [p 205 13 (by omega)]; exact V.1, fun x hx => by rw [p 218 x (by omega)]; exact V.2 x hx⟩
def chZ (T : Nat → Nat) (n j : Nat) : Int := if j < n then (T j : Int) else -1
theorem chZ_y {T : Nat → Nat} {n j : Nat} (h : j < n) : chZ T n j = (T j : Int) := if_pos h
theorem chZ_n {T : Nat → Nat} {n j : Nat} (h : ¬ j < n) : chZ T n j = -1 := if_neg h
theorem chZ_rg {T : Nat → Nat} {n j : Nat} (B : tB T n) : -1 ≤ chZ T n j ∧ chZ T n j < 256 := by
  unfold chZ
  split
  · rename_i q; have := B.2 j q; omega
  · omega
theorem wrK_y {T : Nat → Nat} {j k : Nat} {l : List Nat} {b : Bool} (h : (b && wrK T j l k) = true) (e : T (j + k) = l.getD k 0) : (b && wrK T j l (k + 1)) = true := by
  rw [wrK, ← Bool.and_assoc, h, Bool.true_and]
  exact decide_eq_true e
theorem wrK_n {T : Nat → Nat} {j k : Nat} {l : List Nat} {b : Bool} (e : T (j + k) ≠ l.getD k 0) : ¬ (b && wrK T j l (k + 1)) = true := by
  rw [wrK, decide_eq_false e]
  simp
theorem wrK_m {T : Nat → Nat} {j k : Nat} {l : List Nat} {b : Bool} (h : ¬ (b && wrK T j l k) = true) : ∀ m, ¬ (b && wrK T j l (k + m)) = true := by
  intro m
  induction m with
  | zero => exact h
  | succ m ih =>
    intro q
    apply ih
    rw [← Nat.add_assoc, wrK, ← Bool.and_assoc, Bool.and_eq_true] at q
    exact q.1
section M33
variable {g : EG} {d t s : Nat} {h h1 : PH} {Q : EQ} {T : Nat → Nat} {n : Nat}
theorem lp_here (B : tB T n) (Th : mT h T n) : ∀ m j : Nat, j + m = n → Q (.int (zI (chZ T n (sk isB T n j)))) (tau t s) (hU h 205 14 ↑(sk isB T n j)) → eX g 0 mX9_here 0 [(0, .ref (gA g 205))] [] (tau t s) (hU h 205 14 ↑j) Q := by
  have hn9 := B.1
  intro m
  induction m with
  | zero =>
    intro j hj k
    refine eR_aldn_0 dX9_here_0 rfl ?_
    refine eR_getI dX9_here_1 gf_X9_82 th_205 rfl ?_
    refine eX_pcI (hU_s _ _ _ _) ?_
    refine eR_aldn_0 dX9_here_4 rfl ?_
    refine eR_getI dX9_here_5 gf_X9_76 th_205 rfl ?_
    refine eX_pcI (hU_i _ _ _ (by decide)) ?_
    refine eX_pcI (Th.1) ?_
    refine eR_icmp_ge (tgt := 38) dX9_here_8 (by decide) (by first | exact rg_b01 _ | (unfold rg; omega)) (by first | exact rg_b01 _ | (unfold rg; omega)) (fun c8 => ?_) (fun c8 => absurd c8 (by omega))
    refine eR_aldn_0 dX9_here_38 rfl ?_
    refine eR_getI dX9_here_39 gf_X9_82 th_205 rfl ?_
    refine eX_pcI (hU_s _ _ _ _) ?_
    refine eR_aldn_0 dX9_here_42 rfl ?_
    refine eR_getI dX9_here_43 gf_X9_76 th_205 rfl ?_
    refine eX_pcI (hU_i _ _ _ (by decide)) ?_
    refine eX_pcI (Th.1) ?_
    refine eR_icmp_ge (tgt := 61) dX9_here_46 (by decide) (by first | exact rg_b01 _ | (unfold rg; omega)) (by first | exact rg_b01 _ | (unfold rg; omega)) (fun c46 => ?_) (fun c46 => absurd c46 (by omega))
    refine eR_ic dX9_here_61 ?_
    refine eR_iret dX9_here_62 rfl rfl ?_
    have e9 : sk isB T n j = j := by first | exact sk_ne (by omega) | exact sk_nf (isB_f (by omega))
    rw [e9, chZ_n (by omega)] at k
    exact k
  | succ m ih =>
    intro j hj k
    have hb9 := B.2 j (by omega)
    refine eR_aldn_0 dX9_here_0 rfl ?_
    refine eR_getI dX9_here_1 gf_X9_82 th_205 rfl ?_
    refine eX_pcI (hU_s _ _ _ _) ?_
    refine eR_aldn_0 dX9_here_4 rfl ?_
    refine eR_getI dX9_here_5 gf_X9_76 th_205 rfl ?_
    refine eX_pcI (hU_i _ _ _ (by decide)) ?_
    refine eX_pcI (Th.1) ?_
    refine eR_icmp_ge (tgt := 38) dX9_here_8 (by decide) (by first | exact rg_b01 _ | (unfold rg; omega)) (by first | exact rg_b01 _ | (unfold rg; omega)) (fun c8 => absurd c8 (by omega)) (fun c8 => ?_)
    refine eR_aldn_0 dX9_here_11 rfl ?_
    refine eR_getR (i := 218) dX9_here_12 gf_X9_47 th_205 rfl ?_
    refine eR_aldn_0 dX9_here_15 rfl ?_
    refine eR_getI dX9_here_16 gf_X9_82 th_205 rfl ?_
    refine eX_pcI (hU_s _ _ _ _) ?_
    refine eR_iald (n := j) dX9_here_19 th_218 (rfl) (by omega) (by decide) ?_
    refine eX_pcI (congrFun (hU_a _ _ _ (by decide)) _) ?_
    refine eX_pcI (Th.2 j (by omega)) ?_
    refine eR_bi (z := 32) dX9_here_20 rfl ?_
    refine eR_icmp_ne (tgt := 38) dX9_here_22 (by decide) (by first | exact rg_b01 _ | (unfold rg; omega)) (by first | exact rg_b01 _ | (unfold rg; omega)) (fun c22 => ?_) (fun c22 => ?_)
    · refine eR_aldn_0 dX9_here_38 rfl ?_
      refine eR_getI dX9_here_39 gf_X9_82 th_205 rfl ?_
      refine eX_pcI (hU_s _ _ _ _) ?_
      refine eR_aldn_0 dX9_here_42 rfl ?_
      refine eR_getI dX9_here_43 gf_X9_76 th_205 rfl ?_
      refine eX_pcI (hU_i _ _ _ (by decide)) ?_
      refine eX_pcI (Th.1) ?_
      refine eR_icmp_ge (tgt := 61) dX9_here_46 (by decide) (by first | exact rg_b01 _ | (unfold rg; omega)) (by first | exact rg_b01 _ | (unfold rg; omega)) (fun c46 => absurd c46 (by omega)) (fun c46 => ?_)
      refine eR_aldn_0 dX9_here_49 rfl ?_
      refine eR_getR (i := 218) dX9_here_50 gf_X9_47 th_205 rfl ?_
      refine eR_aldn_0 dX9_here_53 rfl ?_
      refine eR_getI dX9_here_54 gf_X9_82 th_205 rfl ?_
      refine eX_pcI (hU_s _ _ _ _) ?_
      refine eR_iald (n := j) dX9_here_57 th_218 (rfl) (by omega) (by decide) ?_
      refine eX_pcI (congrFun (hU_a _ _ _ (by decide)) _) ?_
      refine eX_pcI (Th.2 j (by omega)) ?_
      refine eR_goto (tgt := 62) dX9_here_58 (by decide) ?_
      refine eR_iret dX9_here_62 rfl rfl ?_
      have e9 : sk isB T n j = j := by first | exact sk_ne (by omega) | exact sk_nf (isB_f (by omega))
      rw [e9, chZ_y (by omega)] at k
      exact k
    · refine eR_aldn_0 dX9_here_25 rfl ?_
      refine eR_dup dX9_here_26 rfl ?_
      refine eR_getI dX9_here_27 gf_X9_82 th_205 rfl ?_
      refine eX_pcI (hU_s _ _ _ _) ?_
      refine eR_ic dX9_here_30 ?_
      refine eR_iadd dX9_here_31 ?_
      refine eR_putI dX9_here_32 pf_X9_82 th_205 rfl ?_
      refine eR_goto (tgt := 0) dX9_here_35 (by decide) ?_
      rw [hU_2, show ((↑j : Int) + 1) = ((j + 1 : Nat) : Int) from rfl]
      rw [sk_y (by omega) (isB_t (by omega))] at k
      exact ih (j + 1) (by omega) k
theorem sp_here (B : tB T n) (Th : mT h T n) {i : Nat} (hi : i ≤ n) (Ah : h 205 14 = (i : Int)) (k : Q (.int (zI (chZ T n (sk isB T n i)))) (tau t s) (hU h 205 14 ↑(sk isB T n i))) : eX g 0 mX9_here 0 (lv_args 0 [.ref (gA g 205)]) [] (tau t s) h Q := by
  have e8 := lp_here (g := g) B Th (n - i) i (by omega) k
  rw [← Ah, hU_id] at e8
  exact e8
theorem sp_want_y {nb : Nat} {w : Int} (Oh : h 205 17 = 0) (k : Q (.int (zI 1)) (tau t s) h) : eX g 0 mX9_want 0 (lv_args 0 [.ref (gA g 205), .int (zI 1), .int (zI ↑nb), .int (zI w)]) [] (tau t s) h Q := by
  show eX g 0 mX9_want 0 [(0, .ref (gA g 205)), (1, .int (zI 1)), (2, .int (zI ↑nb)), (3, .int (zI w))] [] (tau t s) h Q
  refine eR_ildn_1 dX9_want_0 rfl ?_
  refine eR_if_ne (tgt := 21) dX9_want_1 (by decide) (by first | exact rg_b01 _ | (unfold rg; omega)) (fun c1 => ?_) (fun c1 => absurd c1 (by decide))
  refine eR_aldn_0 dX9_want_21 rfl ?_
  refine eR_getI dX9_want_22 gf_X9_85 th_205 rfl ?_
  refine eX_pcI (Oh) ?_
  refine eR_if_ne (tgt := 32) dX9_want_25 (by decide) (by first | exact rg_b01 _ | (unfold rg; omega)) (fun c25 => absurd c25 (by decide)) (fun c25 => ?_)
  refine eR_ic dX9_want_28 ?_
  refine eR_goto (tgt := 33) dX9_want_29 (by decide) ?_
  refine eR_zret dX9_want_33 rfl (by omega) ?_
  exact k
theorem sp_want_n {nb : Nat} {w : Int} (Oh : h 205 17 = 0) (h1 : 0 < nb) (h2 : nb < 10) (k : Q (.int (zI 0)) (tau t s) (hU (hU h 205 17 ↑nb) 205 18 w)) : eX g 0 mX9_want 0 (lv_args 0 [.ref (gA g 205), .int (zI 0), .int (zI ↑nb), .int (zI w)]) [] (tau t s) h Q := by
  show eX g 0 mX9_want 0 [(0, .ref (gA g 205)), (1, .int (zI 0)), (2, .int (zI ↑nb)), (3, .int (zI w))] [] (tau t s) h Q
  refine eR_ildn_1 dX9_want_0 rfl ?_
  refine eR_if_ne (tgt := 21) dX9_want_1 (by decide) (by first | exact rg_b01 _ | (unfold rg; omega)) (fun c1 => absurd c1 (by decide)) (fun c1 => ?_)
  refine eR_aldn_0 dX9_want_4 rfl ?_
  refine eR_getI dX9_want_5 gf_X9_85 th_205 rfl ?_
  refine eX_pcI (Oh) ?_
  refine eR_if_ne (tgt := 21) dX9_want_8 (by decide) (by first | exact rg_b01 _ | (unfold rg; omega)) (fun c8 => absurd c8 (by decide)) (fun c8 => ?_)
  refine eR_aldn_0 dX9_want_11 rfl ?_
  refine eR_ildn_2 dX9_want_12 rfl ?_
  refine eR_putI dX9_want_13 pf_X9_85 th_205 rfl ?_
  refine eR_aldn_0 dX9_want_16 rfl ?_
  refine eR_ildn_3 dX9_want_17 rfl ?_
  refine eR_putI dX9_want_18 pf_X9_50 th_205 rfl ?_
  refine eR_aldn_0 dX9_want_21 rfl ?_
  refine eR_getI dX9_want_22 gf_X9_85 th_205 rfl ?_
  refine eX_pcI (hU_i _ _ _ (by decide)) ?_
  refine eX_pcI (hU_s _ _ _ _) ?_
  refine eR_if_ne (tgt := 32) dX9_want_25 (by decide) (by first | exact rg_b01 _ | (unfold rg; omega)) (fun c25 => ?_) (fun c25 => absurd c25 (by omega))
  refine eR_ic dX9_want_32 ?_
  refine eR_zret dX9_want_33 rfl (by omega) ?_
  exact k
theorem sp_want_f {f : Nat} {z nb w : Int} (hz : rg z) (Oh : h 205 17 = (f : Int)) (hf : f ≠ 0) (hf1 : f < 10) (k : Q (.int (zI 0)) (tau t s) h) : eX g 0 mX9_want 0 (lv_args 0 [.ref (gA g 205), .int (zI z), .int (zI nb), .int (zI w)]) [] (tau t s) h Q := by
  show eX g 0 mX9_want 0 [(0, .ref (gA g 205)), (1, .int (zI z)), (2, .int (zI nb)), (3, .int (zI w))] [] (tau t s) h Q
  refine eR_ildn_1 dX9_want_0 rfl ?_
  refine eR_if_ne (tgt := 21) dX9_want_1 (by decide) (by first | assumption | (unfold rg; omega)) (fun c1 => ?_) (fun c1 => ?_)
  · refine eR_aldn_0 dX9_want_21 rfl ?_
    refine eR_getI dX9_want_22 gf_X9_85 th_205 rfl ?_
    refine eX_pcI (Oh) ?_
    refine eR_if_ne (tgt := 32) dX9_want_25 (by decide) (by first | assumption | (unfold rg; omega)) (fun c25 => ?_) (fun c25 => absurd c25 (by omega))
    refine eR_ic dX9_want_32 ?_
    refine eR_zret dX9_want_33 rfl (by omega) ?_
    exact k
  · refine eR_aldn_0 dX9_want_4 rfl ?_
    refine eR_getI dX9_want_5 gf_X9_85 th_205 rfl ?_
    refine eX_pcI (Oh) ?_
    refine eR_if_ne (tgt := 21) dX9_want_8 (by decide) (by first | assumption | (unfold rg; omega)) (fun c8 => ?_) (fun c8 => absurd c8 (by omega))
    refine eR_aldn_0 dX9_want_21 rfl ?_
    refine eR_getI dX9_want_22 gf_X9_85 th_205 rfl ?_
    refine eX_pcI (Oh) ?_
    refine eR_if_ne (tgt := 32) dX9_want_25 (by decide) (by first | assumption | (unfold rg; omega)) (fun c25 => ?_) (fun c25 => absurd c25 (by omega))
    refine eR_ic dX9_want_32 ?_
    refine eR_zret dX9_want_33 rfl (by omega) ?_
    exact k
theorem lp_takeWord (B : tB T n) (Th : mT h T n) {i : Nat} {c1 : Int} (Fh : h 205 15 = (i : Int)) : ∀ m j : Nat, j + m = n → (∀ h1 : PH, pG h h1 → h1 205 14 = (sk isL T n j : Int) → h1 205 15 = (i : Int) → h1 205 16 = (sk isL T n j : Int) - (i : Int) → h1 205 17 = h 205 17 → h1 205 18 = h 205 18 → Q .null (tau t s) h1) → eX g 1 mX9_takeWord 13 [(0, .ref (gA g 205)), (1, .int (zI c1))] [] (tau t s) (hU h 205 14 ↑j) Q := by
  have hn9 := B.1
  intro m
  induction m with
  | zero =>
    intro j hj k
    refine eR_aldn_0 dX9_takeWord_13 rfl ?_
    refine eR_getI dX9_takeWord_14 gf_X9_82 th_205 rfl ?_
    refine eX_pcI (hU_s _ _ _ _) ?_
    refine eR_aldn_0 dX9_takeWord_17 rfl ?_
    refine eR_getI dX9_takeWord_18 gf_X9_76 th_205 rfl ?_
    refine eX_pcI (hU_i _ _ _ (by decide)) ?_
    refine eX_pcI (Th.1) ?_
    refine eR_icmp_ge (tgt := 59) dX9_takeWord_21 (by decide) (by first | exact rg_b01 _ | (unfold rg; omega)) (by first | exact rg_b01 _ | (unfold rg; omega)) (fun c21 => ?_) (fun c21 => absurd c21 (by omega))
    refine eR_aldn_0 dX9_takeWord_59 rfl ?_
    refine eR_aldn_0 dX9_takeWord_60 rfl ?_
    refine eR_getI dX9_takeWord_61 gf_X9_82 th_205 rfl ?_
    refine eX_pcI (hU_s _ _ _ _) ?_
    refine eR_aldn_0 dX9_takeWord_64 rfl ?_
    refine eR_getI dX9_takeWord_65 gf_X9_92 th_205 rfl ?_
    refine eX_pcI (hU_i _ _ _ (by decide)) ?_
    refine eX_pcI (Fh) ?_
    refine eR_isub dX9_takeWord_68 ?_
    refine eR_putI dX9_takeWord_69 pf_X9_99 th_205 rfl ?_
    refine eR_vret dX9_takeWord_72 rfl ?_
    have e9 : sk isL T n j = j := by first | exact sk_ne (by omega) | exact sk_nf (isL_f (by omega))
    rw [e9] at k
    exact k _ (pG_w (pG_w (pG_rf h) (by decide) (by decide)) (by decide) (by decide)) (by rw [hU_i _ _ _ (by decide), hU_s]) (by rw [hU_i _ _ _ (by decide), hU_i _ _ _ (by decide), Fh]) (hU_s _ _ _ _) (by rw [hU_i _ _ _ (by decide), hU_i _ _ _ (by decide)]) (by rw [hU_i _ _ _ (by decide), hU_i _ _ _ (by decide)])
  | succ m ih =>
    intro j hj k
    have hb9 := B.2 j (by omega)
    refine eR_aldn_0 dX9_takeWord_13 rfl ?_
    refine eR_getI dX9_takeWord_14 gf_X9_82 th_205 rfl ?_
    refine eX_pcI (hU_s _ _ _ _) ?_
    refine eR_aldn_0 dX9_takeWord_17 rfl ?_
    refine eR_getI dX9_takeWord_18 gf_X9_76 th_205 rfl ?_
    refine eX_pcI (hU_i _ _ _ (by decide)) ?_
    refine eX_pcI (Th.1) ?_
    refine eR_icmp_ge (tgt := 59) dX9_takeWord_21 (by decide) (by first | exact rg_b01 _ | (unfold rg; omega)) (by first | exact rg_b01 _ | (unfold rg; omega)) (fun c21 => absurd c21 (by omega)) (fun c21 => ?_)
    refine eR_aldn_0 dX9_takeWord_24 rfl ?_
    refine eR_getR (i := 218) dX9_takeWord_25 gf_X9_47 th_205 rfl ?_
    refine eR_aldn_0 dX9_takeWord_28 rfl ?_
    refine eR_getI dX9_takeWord_29 gf_X9_82 th_205 rfl ?_
    refine eX_pcI (hU_s _ _ _ _) ?_
    refine eR_iald (n := j) dX9_takeWord_32 th_218 (rfl) (by omega) (by decide) ?_
    refine eX_pcI (congrFun (hU_a _ _ _ (by decide)) _) ?_
    refine eX_pcI (Th.2 j (by omega)) ?_
    refine eR_i2lz dX9_takeWord_33 (by first | exact rg_b01 _ | (unfold rg; omega)) ?_
    refine eR_ldc2 (z := 97) dX9_takeWord_34 kw_978 (by decide) ?_
    refine eR_ldc2 (z := 122) dX9_takeWord_37 kw_979 (by decide) ?_
    refine eR_callSi [_, _, _] rfl dX9_takeWord_40 ok_mX9_in kw_952 rfl rfl (Nat.le_of_ble_eq_true rfl) (d' := 0) (by decide) (Nat.le_of_ble_eq_true rfl) ?_
    refine sp_in (by unfold rL; omega) (by unfold rL; omega) (by unfold rL; omega) ?_
    refine eR_if_eq (tgt := 59) dX9_takeWord_43 (by decide) (by first | exact rg_b01 _ | (unfold rg; omega)) (fun c43 => ?_) (fun c43 => ?_)
    · replace c43 := b01_eq0.mp c43
      refine eR_aldn_0 dX9_takeWord_59 rfl ?_
      refine eR_aldn_0 dX9_takeWord_60 rfl ?_
      refine eR_getI dX9_takeWord_61 gf_X9_82 th_205 rfl ?_
      refine eX_pcI (hU_s _ _ _ _) ?_
      refine eR_aldn_0 dX9_takeWord_64 rfl ?_
      refine eR_getI dX9_takeWord_65 gf_X9_92 th_205 rfl ?_
      refine eX_pcI (hU_i _ _ _ (by decide)) ?_
      refine eX_pcI (Fh) ?_
      refine eR_isub dX9_takeWord_68 ?_
      refine eR_putI dX9_takeWord_69 pf_X9_99 th_205 rfl ?_
      refine eR_vret dX9_takeWord_72 rfl ?_
      have e9 : sk isL T n j = j := by first | exact sk_ne (by omega) | exact sk_nf (isL_f (by omega))
      rw [e9] at k
      exact k _ (pG_w (pG_w (pG_rf h) (by decide) (by decide)) (by decide) (by decide)) (by rw [hU_i _ _ _ (by decide), hU_s]) (by rw [hU_i _ _ _ (by decide), hU_i _ _ _ (by decide), Fh]) (hU_s _ _ _ _) (by rw [hU_i _ _ _ (by decide), hU_i _ _ _ (by decide)]) (by rw [hU_i _ _ _ (by decide), hU_i _ _ _ (by decide)])
    · replace c43 := b01_ne0.mp c43
      refine eR_aldn_0 dX9_takeWord_46 rfl ?_
      refine eR_dup dX9_takeWord_47 rfl ?_
      refine eR_getI dX9_takeWord_48 gf_X9_82 th_205 rfl ?_
      refine eX_pcI (hU_s _ _ _ _) ?_
      refine eR_ic dX9_takeWord_51 ?_
      refine eR_iadd dX9_takeWord_52 ?_
      refine eR_putI dX9_takeWord_53 pf_X9_82 th_205 rfl ?_
      refine eR_goto (tgt := 13) dX9_takeWord_56 (by decide) ?_
      rw [hU_2, show ((↑j : Int) + 1) = ((j + 1 : Nat) : Int) from rfl]
      rw [sk_y (by omega) (isL_t (by omega))] at k
      exact ih (j + 1) (by omega) k
theorem sp_takeWord (B : tB T n) (Th : mT h T n) {i : Nat} (hi : i ≤ n) (Ah : h 205 14 = (i : Int)) (k : ∀ h1 : PH, pG h h1 → h1 205 14 = (sk isL T n (sk isB T n i) : Int) → h1 205 15 = (sk isB T n i : Int) → h1 205 16 = (sk isL T n (sk isB T n i) : Int) - (sk isB T n i : Int) → h1 205 17 = h 205 17 → h1 205 18 = h 205 18 → Q .null (tau t s) h1) : eX g 1 mX9_takeWord 0 (lv_args 0 [.ref (gA g 205)]) [] (tau t s) h Q := by
  show eX g 1 mX9_takeWord 0 [(0, .ref (gA g 205))] [] (tau t s) h Q
  have hj9 := sk_le (f := isB) (T := T) hi
  refine eR_aldn_0 dX9_takeWord_0 rfl ?_
  refine eR_callVi [] rfl dX9_takeWord_1 ok_mX9_here kw_966 rfl rfl th_205 rfl (Nat.le_of_ble_eq_true rfl) (d' := 0) (by decide) (Nat.le_of_ble_eq_true rfl) ?_
  refine sp_here (n := n) (i := i) B Th hi Ah ?_
  refine eR_istn_n1 dX9_takeWord_4 rfl (by decide) rfl ?_
  refine eR_aldn_0 dX9_takeWord_5 rfl ?_
  refine eR_aldn_0 dX9_takeWord_6 rfl ?_
  refine eR_getI dX9_takeWord_7 gf_X9_82 th_205 rfl ?_
  refine eX_pcI (hU_s _ _ _ _) ?_
  refine eR_putI dX9_takeWord_10 pf_X9_92 th_205 rfl ?_
  have p1 : pG h (hU (hU h 205 14 ↑(sk isB T n i)) 205 15 ↑(sk isB T n i)) := pG_w (pG_w (pG_rf h) (by decide) (by decide)) (by decide) (by decide)
  have a1 : (hU (hU h 205 14 ↑(sk isB T n i)) 205 15 ↑(sk isB T n i)) 205 14 = ((sk isB T n i : Nat) : Int) := by rw [hU_i _ _ _ (by decide), hU_s]
  have e8 := lp_takeWord (g := g) (t := t) (s := s) (Q := Q) (h := hU (hU h 205 14 ↑(sk isB T n i)) 205 15 ↑(sk isB T n i)) (c1 := chZ T n (sk isB T n i)) B (mT_p Th p1) (hU_s _ _ _ _) (n - (sk isB T n i)) (sk isB T n i) (by omega) (fun h1 q1 q2 q3 q4 q5 q6 => k h1 (pG_tr p1 q1) q2 q3 q4 (q5.trans (by rw [hU_i _ _ _ (by decide), hU_i _ _ _ (by decide)])) (q6.trans (by rw [hU_i _ _ _ (by decide), hU_i _ _ _ (by decide)])))
  rw [hU_idv a1] at e8
  exact e8
theorem lp_isWord (B : tB T n) (Th : mT h T n) {i e : Nat} {l : List Nat} (hi : i ≤ e) (he : e ≤ n) (hl : l.length ≤ 6) (hc : ∀ x, l.getD x 0 < 256) (Fh : h 205 15 = (i : Int)) (Lh : h 205 16 = (e : Int) - (i : Int)) (k : Q (.int (zI (b01 (wrd T i e l = true)))) (tau t s) h) : ∀ m k9 : Nat, k9 + m = l.length → eX g 0 mX9_isWord 18 [(0, .ref (gA g 205)), (1, .int (zI ↑(l.length))), (2, .int (zI ↑(l.getD 0 0))), (3, .int (zI ↑(l.getD 1 0))), (4, .int (zI ↑(l.getD 2 0))), (5, .int (zI ↑(l.getD 3 0))), (6, .int (zI ↑(l.getD 4 0))), (7, .int (zI ↑(l.getD 5 0))), (8, .int (zI (b01 ((decide (e - i = l.length) && wrK T i l k9) = true)))), (9, .int (zI ↑k9))] [] (tau t s) h Q := by
  have hn9 := B.1
  have hc0 := hc 0
  have hc1 := hc 1
  have hc2 := hc 2
  have hc3 := hc 3
  have hc4 := hc 4
  have hc5 := hc 5
  intro m
  induction m with
  | zero =>
    intro k9 hk9
    refine eR_ild_9 dX9_isWord_18 ?_
    refine eR_ildn_1 dX9_isWord_20 rfl ?_
    refine eR_icmp_ge (tgt := 111) dX9_isWord_21 (by decide) (by first | exact rg_b01 _ | (unfold rg; omega)) (by first | exact rg_b01 _ | (unfold rg; omega)) (fun c21 => ?_) (fun c21 => absurd c21 (by omega))
    refine eR_ild_8 dX9_isWord_111 ?_
    refine eR_zret dX9_isWord_113 rfl (b01_01 _) ?_
    have e9 : k9 = l.length := by omega
    subst e9
    exact k
  | succ m ih =>
    intro k9 hk9
    refine eR_ild_9 dX9_isWord_18 ?_
    refine eR_ildn_1 dX9_isWord_20 rfl ?_
    refine eR_icmp_ge (tgt := 111) dX9_isWord_21 (by decide) (by first | exact rg_b01 _ | (unfold rg; omega)) (by first | exact rg_b01 _ | (unfold rg; omega)) (fun c21 => absurd c21 (by omega)) (fun c21 => ?_)
    refine eR_ild_8 dX9_isWord_24 ?_
    refine eR_if_eq (tgt := 111) dX9_isWord_26 (by decide) (by first | exact rg_b01 _ | (unfold rg; omega)) (fun c26 => ?_) (fun c26 => ?_)
    · replace c26 := b01_eq0.mp c26
      refine eR_ild_8 dX9_isWord_111 ?_
      refine eR_zret dX9_isWord_113 rfl (b01_01 _) ?_
      have e9 := wrK_m c26 (l.length - k9)
      rw [show k9 + (l.length - k9) = l.length from by omega] at e9
      rw [b01_f c26]
      rw [show b01 (wrd T i e l = true) = 0 from b01_f e9] at k
      exact k
    · replace c26 := b01_ne0.mp c26
      have c26b := (Bool.and_eq_true _ _ ▸ c26 : _ ∧ _).1
      have c26a : e - i = l.length := of_decide_eq_true c26b
      have hb9 := B.2 (i + k9) (by omega)
      refine eR_aldn_0 dX9_isWord_29 rfl ?_
      refine eR_getR (i := 218) dX9_isWord_30 gf_X9_47 th_205 rfl ?_
      refine eR_aldn_0 dX9_isWord_33 rfl ?_
      refine eR_getI dX9_isWord_34 gf_X9_92 th_205 rfl ?_
      refine eX_pcI (Fh) ?_
      refine eR_ild_9 dX9_isWord_37 ?_
      refine eR_iadd dX9_isWord_39 ?_
      refine eR_iald (n := i + k9) dX9_isWord_40 th_218 (by omega) (by omega) (by decide) ?_
      refine eX_pcI (Th.2 (i + k9) (by omega)) ?_
      refine eR_ild_9 dX9_isWord_41 ?_
      refine eR_if_ne (tgt := 50) dX9_isWord_43 (by decide) (by first | exact rg_b01 _ | (unfold rg; omega)) (fun c43 => ?_) (fun c43 => ?_)
      · refine eR_ild_9 dX9_isWord_50 ?_
        refine eR_ic dX9_isWord_52 ?_
        refine eR_icmp_ne (tgt := 60) dX9_isWord_53 (by decide) (by first | exact rg_b01 _ | (unfold rg; omega)) (by first | exact rg_b01 _ | (unfold rg; omega)) (fun c53 => ?_) (fun c53 => ?_)
        · refine eR_ild_9 dX9_isWord_60 ?_
          refine eR_ic dX9_isWord_62 ?_
          refine eR_icmp_ne (tgt := 71) dX9_isWord_63 (by decide) (by first | exact rg_b01 _ | (unfold rg; omega)) (by first | exact rg_b01 _ | (unfold rg; omega)) (fun c63 => ?_) (fun c63 => ?_)
          · refine eR_ild_9 dX9_isWord_71 ?_
            refine eR_ic dX9_isWord_73 ?_
            refine eR_icmp_ne (tgt := 82) dX9_isWord_74 (by decide) (by first | exact rg_b01 _ | (unfold rg; omega)) (by first | exact rg_b01 _ | (unfold rg; omega)) (fun c74 => ?_) (fun c74 => ?_)
            · refine eR_ild_9 dX9_isWord_82 ?_
              refine eR_ic dX9_isWord_84 ?_
              refine eR_icmp_ne (tgt := 93) dX9_isWord_85 (by decide) (by first | exact rg_b01 _ | (unfold rg; omega)) (by first | exact rg_b01 _ | (unfold rg; omega)) (fun c85 => ?_) (fun c85 => ?_)
              · refine eR_ild_7 dX9_isWord_93 ?_
                refine eR_icmp_ne (tgt := 102) dX9_isWord_95 (by decide) (by first | exact rg_b01 _ | (unfold rg; omega)) (by first | exact rg_b01 _ | (unfold rg; omega)) (fun c95 => ?_) (fun c95 => ?_)
                · refine eR_ic dX9_isWord_102 ?_
                  refine eR_ist_8 dX9_isWord_103 (by decide) rfl ?_
                  refine eR_iinc_9 dX9_isWord_105 (by decide) rfl ?_
                  refine eR_goto (tgt := 18) dX9_isWord_108 (by decide) ?_
                  have f4 : b01 ((decide (e - i = l.length) && wrK T i l (k9 + 1)) = true) = 0 := b01_f (wrK_n (by have e0 : k9 = 5 := (by omega); subst e0; omega))
                  have e8 := ih (k9 + 1) (by omega)
                  rw [f4] at e8
                  exact e8
                · refine eR_ic dX9_isWord_98 ?_
                  refine eR_goto (tgt := 103) dX9_isWord_99 (by decide) ?_
                  refine eR_ist_8 dX9_isWord_103 (by decide) rfl ?_
                  refine eR_iinc_9 dX9_isWord_105 (by decide) rfl ?_
                  refine eR_goto (tgt := 18) dX9_isWord_108 (by decide) ?_
                  have f4 : b01 ((decide (e - i = l.length) && wrK T i l (k9 + 1)) = true) = 1 := b01_t (wrK_y c26 (by have e0 : k9 = 5 := (by omega); subst e0; omega))
                  have e8 := ih (k9 + 1) (by omega)
                  rw [f4] at e8
                  exact e8
              · refine eR_ild_6 dX9_isWord_88 ?_
                refine eR_goto (tgt := 95) dX9_isWord_90 (by decide) ?_
                refine eR_icmp_ne (tgt := 102) dX9_isWord_95 (by decide) (by first | exact rg_b01 _ | (unfold rg; omega)) (by first | exact rg_b01 _ | (unfold rg; omega)) (fun c95 => ?_) (fun c95 => ?_)
                · refine eR_ic dX9_isWord_102 ?_
                  refine eR_ist_8 dX9_isWord_103 (by decide) rfl ?_
                  refine eR_iinc_9 dX9_isWord_105 (by decide) rfl ?_
                  refine eR_goto (tgt := 18) dX9_isWord_108 (by decide) ?_
                  have f4 : b01 ((decide (e - i = l.length) && wrK T i l (k9 + 1)) = true) = 0 := b01_f (wrK_n (by have e0 : k9 = 4 := (by omega); subst e0; omega))
                  have e8 := ih (k9 + 1) (by omega)
                  rw [f4] at e8
                  exact e8
                · refine eR_ic dX9_isWord_98 ?_
                  refine eR_goto (tgt := 103) dX9_isWord_99 (by decide) ?_
                  refine eR_ist_8 dX9_isWord_103 (by decide) rfl ?_
                  refine eR_iinc_9 dX9_isWord_105 (by decide) rfl ?_
                  refine eR_goto (tgt := 18) dX9_isWord_108 (by decide) ?_
                  have f4 : b01 ((decide (e - i = l.length) && wrK T i l (k9 + 1)) = true) = 1 := b01_t (wrK_y c26 (by have e0 : k9 = 4 := (by omega); subst e0; omega))
                  have e8 := ih (k9 + 1) (by omega)
                  rw [f4] at e8
                  exact e8
            · refine eR_ild_5 dX9_isWord_77 ?_
              refine eR_goto (tgt := 95) dX9_isWord_79 (by decide) ?_
              refine eR_icmp_ne (tgt := 102) dX9_isWord_95 (by decide) (by first | exact rg_b01 _ | (unfold rg; omega)) (by first | exact rg_b01 _ | (unfold rg; omega)) (fun c95 => ?_) (fun c95 => ?_)
              · refine eR_ic dX9_isWord_102 ?_
                refine eR_ist_8 dX9_isWord_103 (by decide) rfl ?_
                refine eR_iinc_9 dX9_isWord_105 (by decide) rfl ?_
                refine eR_goto (tgt := 18) dX9_isWord_108 (by decide) ?_
                have f4 : b01 ((decide (e - i = l.length) && wrK T i l (k9 + 1)) = true) = 0 := b01_f (wrK_n (by have e0 : k9 = 3 := (by omega); subst e0; omega))
                have e8 := ih (k9 + 1) (by omega)
                rw [f4] at e8
                exact e8
              · refine eR_ic dX9_isWord_98 ?_
                refine eR_goto (tgt := 103) dX9_isWord_99 (by decide) ?_
                refine eR_ist_8 dX9_isWord_103 (by decide) rfl ?_
                refine eR_iinc_9 dX9_isWord_105 (by decide) rfl ?_
                refine eR_goto (tgt := 18) dX9_isWord_108 (by decide) ?_
                have f4 : b01 ((decide (e - i = l.length) && wrK T i l (k9 + 1)) = true) = 1 := b01_t (wrK_y c26 (by have e0 : k9 = 3 := (by omega); subst e0; omega))
                have e8 := ih (k9 + 1) (by omega)
                rw [f4] at e8
                exact e8
          · refine eR_ild_4 dX9_isWord_66 ?_
            refine eR_goto (tgt := 95) dX9_isWord_68 (by decide) ?_
            refine eR_icmp_ne (tgt := 102) dX9_isWord_95 (by decide) (by first | exact rg_b01 _ | (unfold rg; omega)) (by first | exact rg_b01 _ | (unfold rg; omega)) (fun c95 => ?_) (fun c95 => ?_)
            · refine eR_ic dX9_isWord_102 ?_
              refine eR_ist_8 dX9_isWord_103 (by decide) rfl ?_
              refine eR_iinc_9 dX9_isWord_105 (by decide) rfl ?_
              refine eR_goto (tgt := 18) dX9_isWord_108 (by decide) ?_
              have f4 : b01 ((decide (e - i = l.length) && wrK T i l (k9 + 1)) = true) = 0 := b01_f (wrK_n (by have e0 : k9 = 2 := (by omega); subst e0; omega))
              have e8 := ih (k9 + 1) (by omega)
              rw [f4] at e8
              exact e8
            · refine eR_ic dX9_isWord_98 ?_
              refine eR_goto (tgt := 103) dX9_isWord_99 (by decide) ?_
              refine eR_ist_8 dX9_isWord_103 (by decide) rfl ?_
              refine eR_iinc_9 dX9_isWord_105 (by decide) rfl ?_
              refine eR_goto (tgt := 18) dX9_isWord_108 (by decide) ?_
              have f4 : b01 ((decide (e - i = l.length) && wrK T i l (k9 + 1)) = true) = 1 := b01_t (wrK_y c26 (by have e0 : k9 = 2 := (by omega); subst e0; omega))
              have e8 := ih (k9 + 1) (by omega)
              rw [f4] at e8
              exact e8
        · refine eR_ildn_3 dX9_isWord_56 rfl ?_
          refine eR_goto (tgt := 95) dX9_isWord_57 (by decide) ?_
          refine eR_icmp_ne (tgt := 102) dX9_isWord_95 (by decide) (by first | exact rg_b01 _ | (unfold rg; omega)) (by first | exact rg_b01 _ | (unfold rg; omega)) (fun c95 => ?_) (fun c95 => ?_)
          · refine eR_ic dX9_isWord_102 ?_
            refine eR_ist_8 dX9_isWord_103 (by decide) rfl ?_
            refine eR_iinc_9 dX9_isWord_105 (by decide) rfl ?_
            refine eR_goto (tgt := 18) dX9_isWord_108 (by decide) ?_
            have f4 : b01 ((decide (e - i = l.length) && wrK T i l (k9 + 1)) = true) = 0 := b01_f (wrK_n (by have e0 : k9 = 1 := (by omega); subst e0; omega))
            have e8 := ih (k9 + 1) (by omega)
            rw [f4] at e8
            exact e8
          · refine eR_ic dX9_isWord_98 ?_
            refine eR_goto (tgt := 103) dX9_isWord_99 (by decide) ?_
            refine eR_ist_8 dX9_isWord_103 (by decide) rfl ?_
            refine eR_iinc_9 dX9_isWord_105 (by decide) rfl ?_
            refine eR_goto (tgt := 18) dX9_isWord_108 (by decide) ?_
            have f4 : b01 ((decide (e - i = l.length) && wrK T i l (k9 + 1)) = true) = 1 := b01_t (wrK_y c26 (by have e0 : k9 = 1 := (by omega); subst e0; omega))
            have e8 := ih (k9 + 1) (by omega)
            rw [f4] at e8
            exact e8
      · refine eR_ildn_2 dX9_isWord_46 rfl ?_
        refine eR_goto (tgt := 95) dX9_isWord_47 (by decide) ?_
        refine eR_icmp_ne (tgt := 102) dX9_isWord_95 (by decide) (by first | exact rg_b01 _ | (unfold rg; omega)) (by first | exact rg_b01 _ | (unfold rg; omega)) (fun c95 => ?_) (fun c95 => ?_)
        · refine eR_ic dX9_isWord_102 ?_
          refine eR_ist_8 dX9_isWord_103 (by decide) rfl ?_
          refine eR_iinc_9 dX9_isWord_105 (by decide) rfl ?_
          refine eR_goto (tgt := 18) dX9_isWord_108 (by decide) ?_
          have f4 : b01 ((decide (e - i = l.length) && wrK T i l (k9 + 1)) = true) = 0 := b01_f (wrK_n (by have e0 : k9 = 0 := (by omega); subst e0; omega))
          have e8 := ih (k9 + 1) (by omega)
          rw [f4] at e8
          exact e8
        · refine eR_ic dX9_isWord_98 ?_
          refine eR_goto (tgt := 103) dX9_isWord_99 (by decide) ?_
          refine eR_ist_8 dX9_isWord_103 (by decide) rfl ?_
          refine eR_iinc_9 dX9_isWord_105 (by decide) rfl ?_
          refine eR_goto (tgt := 18) dX9_isWord_108 (by decide) ?_
          have f4 : b01 ((decide (e - i = l.length) && wrK T i l (k9 + 1)) = true) = 1 := b01_t (wrK_y c26 (by have e0 : k9 = 0 := (by omega); subst e0; omega))
          have e8 := ih (k9 + 1) (by omega)
          rw [f4] at e8
          exact e8
theorem sp_isWord (B : tB T n) (Th : mT h T n) {i e : Nat} {l : List Nat} (hi : i ≤ e) (he : e ≤ n) (hl : l.length ≤ 6) (hc : ∀ x, l.getD x 0 < 256) (Fh : h 205 15 = (i : Int)) (Lh : h 205 16 = (e : Int) - (i : Int)) (k : Q (.int (zI (b01 (wrd T i e l = true)))) (tau t s) h) : eX g 0 mX9_isWord 0 (lv_args 0 [.ref (gA g 205), .int (zI ↑(l.length)), .int (zI ↑(l.getD 0 0)), .int (zI ↑(l.getD 1 0)), .int (zI ↑(l.getD 2 0)), .int (zI ↑(l.getD 3 0)), .int (zI ↑(l.getD 4 0)), .int (zI ↑(l.getD 5 0))]) [] (tau t s) h Q := by
  show eX g 0 mX9_isWord 0 [(0, .ref (gA g 205)), (1, .int (zI ↑(l.length))), (2, .int (zI ↑(l.getD 0 0))), (3, .int (zI ↑(l.getD 1 0))), (4, .int (zI ↑(l.getD 2 0))), (5, .int (zI ↑(l.getD 3 0))), (6, .int (zI ↑(l.getD 4 0))), (7, .int (zI ↑(l.getD 5 0)))] [] (tau t s) h Q
  have hn9 := B.1
  refine eR_aldn_0 dX9_isWord_0 rfl ?_
  refine eR_getI dX9_isWord_1 gf_X9_99 th_205 rfl ?_
  refine eX_pcI (Lh) ?_
  refine eR_ildn_1 dX9_isWord_4 rfl ?_
  refine eR_icmp_ne (tgt := 12) dX9_isWord_5 (by decide) (by first | exact rg_b01 _ | (unfold rg; omega)) (by first | exact rg_b01 _ | (unfold rg; omega)) (fun c5 => ?_) (fun c5 => ?_)
  · refine eR_ic dX9_isWord_12 ?_
    refine eR_ist_n8 dX9_isWord_13 (by decide) rfl ?_
    refine eR_ic dX9_isWord_15 ?_
    refine eR_ist_n9 dX9_isWord_16 (by decide) rfl ?_
    have e8 := lp_isWord (g := g) B Th hi he hl hc Fh Lh k l.length 0 (by omega)
    rw [show b01 ((decide (e - i = l.length) && wrK T i l 0) = true) = 0 from b01_f (by rw [wrK, Bool.and_true, decide_eq_true_iff]; omega)] at e8
    exact e8
  · refine eR_ic dX9_isWord_8 ?_
    refine eR_goto (tgt := 13) dX9_isWord_9 (by decide) ?_
    refine eR_ist_n8 dX9_isWord_13 (by decide) rfl ?_
    refine eR_ic dX9_isWord_15 ?_
    refine eR_ist_n9 dX9_isWord_16 (by decide) rfl ?_
    have e8 := lp_isWord (g := g) B Th hi he hl hc Fh Lh k l.length 0 (by omega)
    rw [show b01 ((decide (e - i = l.length) && wrK T i l 0) = true) = 1 from b01_t (by rw [wrK, Bool.and_true]; exact decide_eq_true (by omega))] at e8
    exact e8
end M33
