/-- but for the reader's places and a town nothing has changed -/
def cG (u : Nat) (h h1 : PH) : Prop := ∀ a i, ¬ ((a = 1 ∧ 2 ≤ i ∧ i ≤ 5) ∨ (u ≤ a ∧ a < u + 41)) → h1 a i = h a i
theorem cG_G {u : Nat} {h h1 : PH} (p : rG h h1) : cG u h h1 := fun a i q => p a i (by omega)
theorem cG_R {u : Nat} {h h1 : PH} (p : ofR u (u + 41) h h1) : cG u h h1 := fun a i q => by rw [p a (by omega)]
theorem cG_tr {u : Nat} {h h1 h2 : PH} (p : cG u h h1) (q : cG u h1 h2) : cG u h h2 := fun a i r => (q a i r).trans (p a i r)
theorem cT_c {u : Nat} {h h1 : PH} {T : Nat → Nat} {n : Nat} (C : cT h T n) (h38 : 38 ≤ u) (p : cG u h h1) : cT h1 T n := ⟨(p 1 1 (by omega)).trans C.1, fun x hx => (p 2 x (by omega)).trans (C.2 x hx)⟩
/-- what a clause leaves behind -/
def rE (n : Nat) (h h1 : PH) (u : Nat) (U : PU) (r : RU) : Prop := cG u h h1 ∧ match r with
  | .inl x => h1 1 3 = (x.1 : Int) ∧ h1 1 4 = (x.2 : Int) ∧ rV h1 u U ∧ ∃ j : Nat, j ≤ n ∧ h1 1 2 = (j : Int)
  | .inr x => rV h1 u x.1 ∧ h1 1 2 = (x.2 : Int) ∧ h1 1 3 = 0 ∧ h1 1 4 = h 1 4
theorem rE_l {n u a b : Nat} {h h1 : PH} {U : PU} {r : RU} (e : r = .inl (a, b)) (g : rG h h1) (R : rV h1 u U) (j : ∃ j : Nat, j ≤ n ∧ h1 1 2 = (j : Int)) (o : h1 1 3 = (a : Int)) (x : h1 1 4 = (b : Int)) : rE n h h1 u U r := by rw [e]; exact ⟨cG_G g, o, x, R, j⟩
theorem rE_r {n u j : Nat} {h h1 : PH} {U U1 : PU} {r : RU} (e : r = .inr (U1, j)) (g : cG u h h1) (R : rV h1 u U1) (a : h1 1 2 = (j : Int)) (o : h1 1 3 = 0) (x : h1 1 4 = h 1 4) : rE n h h1 u U r := by rw [e]; exact ⟨g, R, a, o, x⟩
theorem smi_y {T : Nat → Nat} {n j : Nat} {U : PU} (q : sk isB T n j < n ∧ T (sk isB T n j) = 59) : smi T n (.inr (U, j)) = .inr (U, sk isB T n j + 1) := if_pos q
theorem smi_n {T : Nat → Nat} {n j : Nat} {U : PU} (q : ¬ (sk isB T n j < n ∧ T (sk isB T n j) = 59)) : smi T n (.inr (U, j)) = .inl (1, sk isB T n j) := if_neg q
section M54
variable {g : EG} {d t s u : Nat} {h h1 : PH} {Q : EQ} {S : TS} {T : Nat → Nat} {n : Nat} {U : PU}
theorem wrK_ff {T : Nat → Nat} {i : Nat} {l : List Nat} {k : Nat} (h : wrK T i l k = false) : ∀ m, wrK T i l (k + m) = false := by
  intro m
  induction m with
  | zero => exact h
  | succ m ih => show (wrK T i l (k + m) && _) = false; rw [ih]; rfl
theorem wrd_t {T : Nat → Nat} {i e : Nat} {l : List Nat} (h1 : e - i = l.length) (h2 : wrK T i l l.length = true) : wrd T i e l = true := by unfold wrd; rw [decide_eq_true h1, h2]; rfl
theorem wrd_f1 {T : Nat → Nat} {i e : Nat} {l : List Nat} (h1 : e - i ≠ l.length) : ¬ wrd T i e l = true := by unfold wrd; rw [decide_eq_false h1]; simp
theorem wrd_f2 {T : Nat → Nat} {i e : Nat} {l : List Nat} {k : Nat} (hk : k < l.length) (h2 : T (i + k) ≠ l.getD k 0) : ¬ wrd T i e l = true := by
  have h3 : wrK T i l (k + 1) = false := by show (wrK T i l k && decide (T (i + k) = l.getD k 0)) = false; rw [decide_eq_false h2]; simp
  have h4 := wrK_ff h3 (l.length - (k + 1))
  rw [show k + 1 + (l.length - (k + 1)) = l.length from by omega] at h4
  unfold wrd
  rw [h4]
  simp
theorem kl_isWord (B : tB T n) (C : cT h T n) {w i e : Nat} (hF : gF g = true) (hw : w < 5) (hi : i ≤ e) (he : e ≤ n) (hA : h 1 2 = (e : Int)) (hl : e - i = (wlN.getD w []).length) (kk : Q (.int (zI (b01 (wrd T i e (wlN.getD w []) = true)))) (tau t s) h) : ∀ m k : Nat, k + m = e_len.getD w 0 → wrK T i (wlN.getD w []) k = true → eX g 4 mX4_isWord 17 [(0, .ref (gA g 1)), (1, .int (zI ↑i)), (2, .ref (gK g w)), (3, .int (zI ↑k))] [] (tau t s) h Q := by
  have hn9 := B.1
  have h7 := e_len_lt w hw
  have hll := wl_len w hw
  intro m
  induction m with
  | zero =>
    intro k hk hp
    refine eR_ildn_3 dX4_isWord_17 rfl ?_
    refine eR_aldn_2 dX4_isWord_18 rfl ?_
    refine eR_callKi hF hw [] rfl dX4_isWord_19 ok_mJ0_length_8abf5 rfl kw_386 rfl rfl (Nat.le_of_ble_eq_true rfl) (d' := 1) (by decide) (Nat.le_of_ble_eq_true rfl) ?_
    refine sp_length hF hw ?_
    refine eR_icmp_ge (tgt := 49) dX4_isWord_22 (by decide) (by unfold rg; omega) (by unfold rg; omega) (fun _ => ?_) (fun c => absurd c (by omega))
    refine eR_ic dX4_isWord_49 ?_
    refine eR_zret dX4_isWord_50 rfl (Or.inr rfl) ?_
    rw [b01_t (wrd_t hl (by rw [hll, ← hk]; exact hp))] at kk
    exact kk
  | succ m ih =>
    intro k hk hp
    have hb1 := B.2 (i + k) (by omega)
    have hb2 := wl_lt w hw k (by omega)
    refine eR_ildn_3 dX4_isWord_17 rfl ?_
    refine eR_aldn_2 dX4_isWord_18 rfl ?_
    refine eR_callKi hF hw [] rfl dX4_isWord_19 ok_mJ0_length_8abf5 rfl kw_386 rfl rfl (Nat.le_of_ble_eq_true rfl) (d' := 1) (by decide) (Nat.le_of_ble_eq_true rfl) ?_
    refine sp_length hF hw ?_
    refine eR_icmp_ge (tgt := 49) dX4_isWord_22 (by decide) (by unfold rg; omega) (by unfold rg; omega) (fun c => absurd c (by omega)) (fun _ => ?_)
    refine eR_aldn_0 dX4_isWord_25 rfl ?_
    refine eR_getR (i := 2) dX4_isWord_26 gf_X4_9 th_1 rfl ?_
    refine eR_ildn_1 dX4_isWord_29 rfl ?_
    refine eR_ildn_3 dX4_isWord_30 rfl ?_
    refine eR_iadd dX4_isWord_31 ?_
    refine eR_iald (n := i + k) dX4_isWord_32 th_2 (by omega) (by omega) (by decide) ?_
    refine eX_pcI (C.2 (i + k) (by omega)) ?_
    refine eR_aldn_2 dX4_isWord_33 rfl ?_
    refine eR_ildn_3 dX4_isWord_34 rfl ?_
    refine eR_callKi hF hw [_] rfl dX4_isWord_35 ok_mJ0_charAt_5068e rfl kw_396 rfl rfl (Nat.le_of_ble_eq_true rfl) (d' := 3) (by decide) (Nat.le_of_ble_eq_true rfl) ?_
    refine sp_charAt hF hw (by omega) ?_
    refine eR_icmp_eq (tgt := 43) dX4_isWord_38 (by decide) (by unfold rg; omega) (by unfold rg; omega) (fun c38 => ?_) (fun c38 => ?_)
    · refine eR_iinc_3 dX4_isWord_43 (by decide) rfl ?_
      refine eR_goto (tgt := 17) dX4_isWord_46 (by decide) ?_
      exact ih (k + 1) (by omega) (by show (wrK T i (wlN.getD w []) k && decide (T (i + k) = (wlN.getD w []).getD k 0)) = true; rw [hp, decide_eq_true (by omega)]; rfl)
    · refine eR_ic dX4_isWord_41 ?_
      refine eR_zret dX4_isWord_42 rfl (Or.inl rfl) ?_
      rw [b01_f (wrd_f2 (k := k) (by omega) (by omega))] at kk
      exact kk
theorem kt_isWord (B : tB T n) (C : cT h T n) {w i e : Nat} (hF : gF g = true) (hw : w < 5) (hi : i ≤ e) (he : e ≤ n) (hA : h 1 2 = (e : Int)) (kk : Q (.int (zI (b01 (wrd T i e (wlN.getD w []) = true)))) (tau t s) h) : eX g 4 mX4_isWord 0 (lv_args 0 [.ref (gA g 1), .int (zI ↑i), .ref (gK g w)]) [] (tau t s) h Q := by
  show eX g 4 mX4_isWord 0 [(0, .ref (gA g 1)), (1, .int (zI ↑i)), (2, .ref (gK g w))] [] (tau t s) h Q
  have hn9 := B.1
  have h7 := e_len_lt w hw
  have hll := wl_len w hw
  refine eR_aldn_0 dX4_isWord_0 rfl ?_
  refine eR_getI dX4_isWord_1 gf_X4_19 th_1 rfl ?_
  refine eX_pcI hA ?_
  refine eR_ildn_1 dX4_isWord_4 rfl ?_
  refine eR_isub dX4_isWord_5 ?_
  refine eR_aldn_2 dX4_isWord_6 rfl ?_
  refine eR_callKi hF hw [] rfl dX4_isWord_7 ok_mJ0_length_8abf5 rfl kw_386 rfl rfl (Nat.le_of_ble_eq_true rfl) (d' := 1) (by decide) (Nat.le_of_ble_eq_true rfl) ?_
  refine sp_length hF hw ?_
  refine eR_icmp_eq (tgt := 15) dX4_isWord_10 (by decide) (by unfold rg; omega) (by unfold rg; omega) (fun c10 => ?_) (fun c10 => ?_)
  · refine eR_ic dX4_isWord_15 ?_
    refine eR_istn_n3 dX4_isWord_16 rfl (by decide) rfl ?_
    exact kl_isWord B C hF hw hi he hA (by omega) kk (e_len.getD w 0) 0 (by omega) rfl
  · refine eR_ic dX4_isWord_13 ?_
    refine eR_zret dX4_isWord_14 rfl (Or.inl rfl) ?_
    rw [b01_f (wrd_f1 (by omega))] at kk
    exact kk
theorem kt_kind (B : tB T n) (C : cT h T n) {i e : Nat} (hF : gF g = true) (hi : i ≤ e) (he : e ≤ n) (hA : h 1 2 = (e : Int)) (k : Q (.int (zI (if wrd T i e wPe = true then 0 else if wrd T i e wCo = true then 1 else if wrd T i e wGo = true then 2 else if wrd T i e wLi = true then 3 else if wrd T i e wFr = true then 4 else -1))) (tau t s) h) : eX g 5 mX4_kindOfWord 0 (lv_args 0 [.ref (gA g 1), .int (zI ↑i)]) [] (tau t s) h Q := by
  show eX g 5 mX4_kindOfWord 0 [(0, .ref (gA g 1)), (1, .int (zI ↑i))] [] (tau t s) h Q
  refine eR_aldn_0 dX4_kindOfWord_0 rfl ?_
  refine eR_ildn_1 dX4_kindOfWord_1 rfl ?_
  refine eR_ldcS (i := 0) hF (by decide) rfl dX4_kindOfWord_2 ?_
  refine eR_callVi [_, _] rfl dX4_kindOfWord_4 ok_mX4_isWord kw_382 rfl rfl th_1 rfl (Nat.le_of_ble_eq_true rfl) (d' := 4) (by decide) (Nat.le_of_ble_eq_true rfl) ?_
  refine kt_isWord (w := 0) (i := i) (e := e) B C hF (by decide) hi he hA ?_
  refine eR_if_eq (tgt := 12) dX4_kindOfWord_7 (by decide) (by first | exact rg_b01 _ | (unfold rg; omega)) (fun c7 => ?_) (fun c7 => ?_)
  · replace c7 := b01_eq0.mp c7
    refine eR_aldn_0 dX4_kindOfWord_12 rfl ?_
    refine eR_ildn_1 dX4_kindOfWord_13 rfl ?_
    refine eR_ldcS (i := 1) hF (by decide) rfl dX4_kindOfWord_14 ?_
    refine eR_callVi [_, _] rfl dX4_kindOfWord_16 ok_mX4_isWord kw_382 rfl rfl th_1 rfl (Nat.le_of_ble_eq_true rfl) (d' := 4) (by decide) (Nat.le_of_ble_eq_true rfl) ?_
    refine kt_isWord (w := 1) (i := i) (e := e) B C hF (by decide) hi he hA ?_
    refine eR_if_eq (tgt := 24) dX4_kindOfWord_19 (by decide) (by first | exact rg_b01 _ | (unfold rg; omega)) (fun c19 => ?_) (fun c19 => ?_)
    · replace c19 := b01_eq0.mp c19
      refine eR_aldn_0 dX4_kindOfWord_24 rfl ?_
      refine eR_ildn_1 dX4_kindOfWord_25 rfl ?_
      refine eR_ldcS (i := 2) hF (by decide) rfl dX4_kindOfWord_26 ?_
      refine eR_callVi [_, _] rfl dX4_kindOfWord_28 ok_mX4_isWord kw_382 rfl rfl th_1 rfl (Nat.le_of_ble_eq_true rfl) (d' := 4) (by decide) (Nat.le_of_ble_eq_true rfl) ?_
      refine kt_isWord (w := 2) (i := i) (e := e) B C hF (by decide) hi he hA ?_
      refine eR_if_eq (tgt := 36) dX4_kindOfWord_31 (by decide) (by first | exact rg_b01 _ | (unfold rg; omega)) (fun c31 => ?_) (fun c31 => ?_)
      · replace c31 := b01_eq0.mp c31
        refine eR_aldn_0 dX4_kindOfWord_36 rfl ?_
        refine eR_ildn_1 dX4_kindOfWord_37 rfl ?_
        refine eR_ldcS (i := 3) hF (by decide) rfl dX4_kindOfWord_38 ?_
        refine eR_callVi [_, _] rfl dX4_kindOfWord_40 ok_mX4_isWord kw_382 rfl rfl th_1 rfl (Nat.le_of_ble_eq_true rfl) (d' := 4) (by decide) (Nat.le_of_ble_eq_true rfl) ?_
        refine kt_isWord (w := 3) (i := i) (e := e) B C hF (by decide) hi he hA ?_
        refine eR_if_eq (tgt := 48) dX4_kindOfWord_43 (by decide) (by first | exact rg_b01 _ | (unfold rg; omega)) (fun c43 => ?_) (fun c43 => ?_)
        · replace c43 := b01_eq0.mp c43
          refine eR_aldn_0 dX4_kindOfWord_48 rfl ?_
          refine eR_ildn_1 dX4_kindOfWord_49 rfl ?_
          refine eR_ldcS (i := 4) hF (by decide) rfl dX4_kindOfWord_50 ?_
          refine eR_callVi [_, _] rfl dX4_kindOfWord_52 ok_mX4_isWord kw_382 rfl rfl th_1 rfl (Nat.le_of_ble_eq_true rfl) (d' := 4) (by decide) (Nat.le_of_ble_eq_true rfl) ?_
          refine kt_isWord (w := 4) (i := i) (e := e) B C hF (by decide) hi he hA ?_
          refine eR_if_eq (tgt := 62) dX4_kindOfWord_55 (by decide) (by first | exact rg_b01 _ | (unfold rg; omega)) (fun c55 => ?_) (fun c55 => ?_)
          · replace c55 := b01_eq0.mp c55
            refine eR_ic dX4_kindOfWord_62 ?_
            refine eR_iret dX4_kindOfWord_63 rfl rfl ?_
            rw [if_neg (show ¬ wrd T i e wPe = true from c7), if_neg (show ¬ wrd T i e wCo = true from c19), if_neg (show ¬ wrd T i e wGo = true from c31), if_neg (show ¬ wrd T i e wLi = true from c43), if_neg (show ¬ wrd T i e wFr = true from c55)] at k
            exact k
          · replace c55 := b01_ne0.mp c55
            refine eR_ic dX4_kindOfWord_58 ?_
            refine eR_goto (tgt := 63) dX4_kindOfWord_59 (by decide) ?_
            refine eR_iret dX4_kindOfWord_63 rfl rfl ?_
            rw [if_neg (show ¬ wrd T i e wPe = true from c7), if_neg (show ¬ wrd T i e wCo = true from c19), if_neg (show ¬ wrd T i e wGo = true from c31), if_neg (show ¬ wrd T i e wLi = true from c43), if_pos (show wrd T i e wFr = true from c55)] at k
            exact k
        · replace c43 := b01_ne0.mp c43
          refine eR_ic dX4_kindOfWord_46 ?_
          refine eR_iret dX4_kindOfWord_47 rfl rfl ?_
          rw [if_neg (show ¬ wrd T i e wPe = true from c7), if_neg (show ¬ wrd T i e wCo = true from c19), if_neg (show ¬ wrd T i e wGo = true from c31), if_pos (show wrd T i e wLi = true from c43)] at k
          exact k
      · replace c31 := b01_ne0.mp c31
        refine eR_ic dX4_kindOfWord_34 ?_
        refine eR_iret dX4_kindOfWord_35 rfl rfl ?_
        rw [if_neg (show ¬ wrd T i e wPe = true from c7), if_neg (show ¬ wrd T i e wCo = true from c19), if_pos (show wrd T i e wGo = true from c31)] at k
        exact k
    · replace c19 := b01_ne0.mp c19
      refine eR_ic dX4_kindOfWord_22 ?_
      refine eR_iret dX4_kindOfWord_23 rfl rfl ?_
      rw [if_neg (show ¬ wrd T i e wPe = true from c7), if_pos (show wrd T i e wCo = true from c19)] at k
      exact k
  · replace c7 := b01_ne0.mp c7
    refine eR_ic dX4_kindOfWord_10 ?_
    refine eR_iret dX4_kindOfWord_11 rfl rfl ?_
    rw [if_pos (show wrd T i e wPe = true from c7)] at k
    exact k
theorem kt_other (B : tB T n) (C : cT h T n) (TT : isTn (tau t s) u) (W : uD U) (R : rV h u U) (h38 : 38 ≤ u) (hP1 : 1 ≤ sP U.1) {i p : Nat} (hp : p < 1000) (hi : i ≤ n) (hA : h 1 2 = (i : Int)) (hO : h 1 3 = 0) (kf : ∀ (x : Nat × Nat) (v : Nat) (h1 : PH), num T n 0 (sP U.1 - 1) i = .inl x → v < 1000 → rG h h1 → (∃ j : Nat, j ≤ n ∧ h1 1 2 = (j : Int)) → h1 1 3 = (x.1 : Int) → h1 1 4 = (x.2 : Int) → Q (.int (zI ↑v)) (tau t s) h1) (ke : ∀ (x : Nat × Nat × Nat) (h1 : PH), num T n 0 (sP U.1 - 1) i = .inr x → x.1 = p → rG h h1 → (∃ j : Nat, j ≤ n ∧ h1 1 2 = (j : Int)) → h1 1 3 = ((4 : Nat) : Int) → h1 1 4 = (x.2.1 : Int) → Q (.int (zI ↑x.1)) (tau t s) h1) (kk : ∀ (x : Nat × Nat × Nat) (h1 : PH), num T n 0 (sP U.1 - 1) i = .inr x → x.1 ≠ p → rG h h1 → h1 1 2 = (x.2.2 : Int) → h1 1 5 = (x.2.1 : Int) → h1 1 3 = 0 → h1 1 4 = h 1 4 → Q (.int (zI ↑x.1)) (tau t s) h1) : eX g 2 mX4_readOther 0 (lv_args 0 [.ref (gA g 1), .ref (gA g u), .int (zI ↑p)]) [] (tau t s) h Q := by
  show eX g 2 mX4_readOther 0 [(0, .ref (gA g 1)), (1, .ref (gA g u)), (2, .int (zI ↑p))] [] (tau t s) h Q
  have hP8 := W.1.1.1
  have hn9 := B.1
  refine eR_aldn_0 dX4_readOther_0 rfl ?_
  refine eR_ic dX4_readOther_1 ?_
  refine eR_aldn_1 dX4_readOther_2 rfl ?_
  refine eR_getI dX4_readOther_3 gf_X4_56 TT.1 rfl ?_
  refine eX_pcI (R.1.1) ?_
  refine eR_ic dX4_readOther_6 ?_
  refine eR_isub dX4_readOther_7 ?_
  refine eX_pcI (show (↑(sP U.1) - 1 : Int) = ↑(sP U.1 - 1 : Nat) from by omega) ?_
  refine eR_callVi [_, _] rfl dX4_readOther_8 ok_mX4_readNumber kw_450 rfl rfl th_1 rfl (Nat.le_of_ble_eq_true rfl) (d' := 1) (by decide) (Nat.le_of_ble_eq_true rfl) ?_
  refine kt_number (i := i) (lo := 0) (hi := (sP U.1 - 1)) B C (by omega) (by omega) (by omega) hA hO (fun x1_ vx1_ y2_ ex1_ hvx1_ gy2_ jy2_ oy2_ xy2_ => ?_) (fun x1_ k3_ ex1_ gk3_ ak3_ nk3_ ok3_ xk3_ => ?_)
  · have nx1_ := num_l (by omega) ex1_
    have Gy2_ : rG h y2_ := rG_tr (rG_rf h) gy2_
    have Ry2_ : rV y2_ u U := rV_G W.1.1 R h38 Gy2_
    refine eR_istn_n3 dX4_readOther_11 rfl (by decide) rfl ?_
    refine eR_ildn_3 dX4_readOther_12 rfl ?_
    refine eR_ildn_2 dX4_readOther_13 rfl ?_
    refine eR_icmp_ne (tgt := 26) dX4_readOther_14 (by decide) (by first | exact rg_b01 _ | (unfold rg; omega)) (by first | exact rg_b01 _ | (unfold rg; omega)) (fun c14 => ?_) (fun c14 => ?_)
    · refine eR_ildn_3 dX4_readOther_26 rfl ?_
      refine eR_iret dX4_readOther_27 rfl rfl ?_
      exact kf _ _ _ ex1_ (by omega) Gy2_ jy2_ oy2_ xy2_
    · refine eR_aldn_0 dX4_readOther_17 rfl ?_
      refine eR_ic dX4_readOther_18 ?_
      refine eR_aldn_0 dX4_readOther_19 rfl ?_
      refine eR_getI dX4_readOther_20 gf_X4_28 th_1 rfl ?_
      refine eR_callVv [_, _] rfl dX4_readOther_23 ok_mX4_fail kw_438 rfl rfl th_1 rfl (Nat.le_of_ble_eq_true rfl) (d' := 0) (by decide) (Nat.le_of_ble_eq_true rfl) ?_
      refine kt_fail_f (f := x1_.1) oy2_ (by omega) (by omega) ?_
      refine eR_ildn_3 dX4_readOther_26 rfl ?_
      refine eR_iret dX4_readOther_27 rfl rfl ?_
      exact kf _ _ _ ex1_ (by omega) Gy2_ jy2_ oy2_ xy2_
  · have nx1_ := num_r (by omega) ex1_
    have Gk3_ : rG h k3_ := rG_tr (rG_rf h) gk3_
    have Rk3_ : rV k3_ u U := rV_G W.1.1 R h38 Gk3_
    have Ck3_ : cT k3_ T n := cT_G C Gk3_
    refine eR_istn_n3 dX4_readOther_11 rfl (by decide) rfl ?_
    refine eR_ildn_3 dX4_readOther_12 rfl ?_
    refine eR_ildn_2 dX4_readOther_13 rfl ?_
    refine eR_icmp_ne (tgt := 26) dX4_readOther_14 (by decide) (by first | exact rg_b01 _ | (unfold rg; omega)) (by first | exact rg_b01 _ | (unfold rg; omega)) (fun c14 => ?_) (fun c14 => ?_)
    · refine eR_ildn_3 dX4_readOther_26 rfl ?_
      refine eR_iret dX4_readOther_27 rfl rfl ?_
      exact kk _ _ ex1_ (by omega) Gk3_ ak3_ nk3_ ok3_ (xk3_.trans rfl)
    · refine eR_aldn_0 dX4_readOther_17 rfl ?_
      refine eR_ic dX4_readOther_18 ?_
      refine eR_aldn_0 dX4_readOther_19 rfl ?_
      refine eR_getI dX4_readOther_20 gf_X4_28 th_1 rfl ?_
      refine eX_pcI (nk3_) ?_
      refine eR_callVv [_, _] rfl dX4_readOther_23 ok_mX4_fail kw_438 rfl rfl th_1 rfl (Nat.le_of_ble_eq_true rfl) (d' := 0) (by decide) (Nat.le_of_ble_eq_true rfl) ?_
      refine kt_fail_n ok3_ ?_
      obtain ⟨y4_, hy4_⟩ : ∃ g9, g9 = hU (hU k3_ 1 3 4) 1 4 ↑x1_.2.1 := ⟨_, rfl⟩
      rw [← hy4_]
      have gy4_ : rG k3_ y4_ := by rw [hy4_]; exact rG_w (rG_w (rG_rf _) (by omega)) (by omega)
      have oy4_ : y4_ 1 3 = ((4 : Nat) : Int) := by rw [hy4_]; exact (hU_i _ _ _ (by decide)).trans (hU_s _ _ _ _)
      have xy4_ : y4_ 1 4 = ((x1_.2.1 : Nat) : Int) := by rw [hy4_]; exact hU_s _ _ _ _
      have jy4_ : ∃ j : Nat, j ≤ n ∧ y4_ 1 2 = (j : Int) := ⟨x1_.2.2, by omega, by rw [hy4_]; exact ((hU_i _ _ _ (by decide)).trans (hU_i _ _ _ (by decide))).trans ak3_⟩
      have Gy4_ : rG h y4_ := rG_tr Gk3_ gy4_
      have Ry4_ : rV y4_ u U := rV_G W.1.1 R h38 Gy4_
      refine eR_ildn_3 dX4_readOther_26 rfl ?_
      refine eR_iret dX4_readOther_27 rfl rfl ?_
      exact ke _ _ ex1_ (by omega) Gy4_ jy4_ oy4_ xy4_
theorem kt_other_f (TT : isTn (tau t s) u) (W : uD U) (R : rV h u U) {f : Nat} {p : Int} (hO : h 1 3 = (f : Int)) (hf : f ≠ 0) (hf1 : f < 10) (hp : rg p) (k : Q (.int (zI 0)) (tau t s) h) : eX g 2 mX4_readOther 0 (lv_args 0 [.ref (gA g 1), .ref (gA g u), .int (zI p)]) [] (tau t s) h Q := by
  show eX g 2 mX4_readOther 0 [(0, .ref (gA g 1)), (1, .ref (gA g u)), (2, .int (zI p))] [] (tau t s) h Q
  have hP8 := W.1.1.1
  refine eR_aldn_0 dX4_readOther_0 rfl ?_
  refine eR_ic dX4_readOther_1 ?_
  refine eR_aldn_1 dX4_readOther_2 rfl ?_
  refine eR_getI dX4_readOther_3 gf_X4_56 TT.1 rfl ?_
  refine eX_pcI (R.1.1) ?_
  refine eR_ic dX4_readOther_6 ?_
  refine eR_isub dX4_readOther_7 ?_
  refine eR_callVi [_, _] rfl dX4_readOther_8 ok_mX4_readNumber kw_450 rfl rfl th_1 rfl (Nat.le_of_ble_eq_true rfl) (d' := 1) (by decide) (Nat.le_of_ble_eq_true rfl) ?_
  refine kt_number_f (f := f) hO (by omega) (by omega) ?_
  refine eR_istn_n3 dX4_readOther_11 rfl (by decide) rfl ?_
  refine eR_ildn_3 dX4_readOther_12 rfl ?_
  refine eR_ildn_2 dX4_readOther_13 rfl ?_
  refine eR_icmp_ne (tgt := 26) dX4_readOther_14 (by decide) (by first | assumption | (unfold rg; omega)) (by first | assumption | (unfold rg; omega)) (fun c14 => ?_) (fun c14 => ?_)
  · refine eR_ildn_3 dX4_readOther_26 rfl ?_
    refine eR_iret dX4_readOther_27 rfl rfl ?_
    exact k
  · refine eR_aldn_0 dX4_readOther_17 rfl ?_
    refine eR_ic dX4_readOther_18 ?_
    refine eR_aldn_0 dX4_readOther_19 rfl ?_
    refine eR_getI dX4_readOther_20 gf_X4_28 th_1 rfl ?_
    refine eR_callVv [_, _] rfl dX4_readOther_23 ok_mX4_fail kw_438 rfl rfl th_1 rfl (Nat.le_of_ble_eq_true rfl) (d' := 0) (by decide) (Nat.le_of_ble_eq_true rfl) ?_
    refine kt_fail_f (f := f) hO (by omega) (by omega) ?_
    refine eR_ildn_3 dX4_readOther_26 rfl ?_
    refine eR_iret dX4_readOther_27 rfl rfl ?_
    exact k
end M54
