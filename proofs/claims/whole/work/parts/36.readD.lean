theorem pE_tr {h h1 h2 : PH} {r : RU} (p : pF h h1) (x : h1 205 18 = h 205 18) (e : pE h1 h2 r) : pE h h2 r := by
  obtain ⟨q, e⟩ := e
  refine ⟨pF_tr p q, ?_⟩
  cases r with
  | inl y => exact e
  | inr y => exact ⟨e.1, e.2.1, e.2.2.1, e.2.2.2.trans x⟩
theorem getD_lt {l : List Nat} (h : ∀ y ∈ l, y < 256) (x : Nat) : l.getD x 0 < 256 := by
  rw [List.getD_eq_getElem?_getD]
  cases hq : l[x]? with
  | none => simp
  | some y => exact h y (List.mem_of_getElem? hq)
section M36
variable {g : EG} {d t s : Nat} {h h1 : PH} {Q : EQ} {T : Nat → Nat} {n : Nat} {U : PU}
theorem lp_isBusy (uBh : uB U) (Vh : pV h U) {p a b : Nat} (hp : p < 2000000) (ha : a < 2000000) (hb : b < 2000000) (k : Q (.int (zI (b01 (bsyB U.1 p a b (sE U.1) = true)))) (tau t s) h) : ∀ m e : Nat, e + m = sE U.1 → eX g 0 mX9_isBusy 6 [(0, .ref (gA g 205)), (1, .int (zI ↑p)), (2, .int (zI ↑a)), (3, .int (zI ↑b)), (4, .int (zI (b01 (bsyB U.1 p a b e = true)))), (5, .int (zI ↑e))] [] (tau t s) h Q := by
  have hbE := uBh.1.2.2.1
  have hb8 := uBh.1.1
  intro m
  induction m with
  | zero =>
    intro e he
    refine eR_ild_5 dX9_isBusy_6 ?_
    refine eR_aldn_0 dX9_isBusy_8 rfl ?_
    refine eR_getR (i := 217) dX9_isBusy_9 gf_X9_44 th_205 rfl ?_
    refine eR_bi (z := 6) dX9_isBusy_12 rfl ?_
    refine eR_iald (n := 6) dX9_isBusy_14 th_217 (rfl) (by decide) (by decide) ?_
    refine eX_pcI (Vh.2.2.1) ?_
    refine eR_icmp_ge (tgt := 78) dX9_isBusy_15 (by decide) (by first | exact rg_b01 _ | (unfold rg; omega)) (by first | exact rg_b01 _ | (unfold rg; omega)) (fun c15 => ?_) (fun c15 => absurd c15 (by omega))
    refine eR_ild_4 dX9_isBusy_78 ?_
    refine eR_zret dX9_isBusy_80 rfl (b01_01 _) ?_
    have e9 : e = sE U.1 := by omega
    subst e9
    exact k
  | succ m ih =>
    intro e he
    have hee := uBh.1.2.2.2.2.1 e (by omega)
    refine eR_ild_5 dX9_isBusy_6 ?_
    refine eR_aldn_0 dX9_isBusy_8 rfl ?_
    refine eR_getR (i := 217) dX9_isBusy_9 gf_X9_44 th_205 rfl ?_
    refine eR_bi (z := 6) dX9_isBusy_12 rfl ?_
    refine eR_iald (n := 6) dX9_isBusy_14 th_217 (rfl) (by decide) (by decide) ?_
    refine eX_pcI (Vh.2.2.1) ?_
    refine eR_icmp_ge (tgt := 78) dX9_isBusy_15 (by decide) (by first | exact rg_b01 _ | (unfold rg; omega)) (by first | exact rg_b01 _ | (unfold rg; omega)) (fun c15 => absurd c15 (by omega)) (fun c15 => ?_)
    refine eR_ild_4 dX9_isBusy_18 ?_
    refine eR_if_ne (tgt := 65) dX9_isBusy_20 (by decide) (by first | exact rg_b01 _ | (unfold rg; omega)) (fun c20 => ?_) (fun c20 => ?_)
    · replace c20 := b01_ne0.mp c20
      refine eR_ic dX9_isBusy_65 ?_
      refine eR_goto (tgt := 70) dX9_isBusy_66 (by decide) ?_
      refine eR_ist_4 dX9_isBusy_70 (by decide) rfl ?_
      refine eR_iinc_5 dX9_isBusy_72 (by decide) rfl ?_
      refine eR_goto (tgt := 6) dX9_isBusy_75 (by decide) ?_
      have f4 : b01 (bsyB U.1 p a b (e + 1) = true) = 1 := b01_t (by rw [bsyB, Bool.or_eq_true, decide_eq_true_iff]; first | exact Or.inl (by assumption) | exact Or.inr ⟨by omega, by omega, by omega⟩)
      have e8 := ih (e + 1) (by omega)
      rw [f4] at e8
      exact e8
    · replace c20 := b01_eq0.mp c20
      refine eR_aldn_0 dX9_isBusy_23 rfl ?_
      refine eR_getR (i := 211) dX9_isBusy_24 gf_X9_26 th_205 rfl ?_
      refine eR_bi (z := 10) dX9_isBusy_27 rfl ?_
      refine eR_ild_5 dX9_isBusy_29 ?_
      refine eR_iadd dX9_isBusy_31 ?_
      refine eR_iald (n := 10 + e) dX9_isBusy_32 th_211 (by omega) (by omega) (by decide) ?_
      refine eX_pcI ((Vh.2.2.2.2.1 e (by omega)).1) ?_
      refine eR_ildn_1 dX9_isBusy_33 rfl ?_
      refine eR_icmp_ne (tgt := 69) dX9_isBusy_34 (by decide) (by first | exact rg_b01 _ | (unfold rg; omega)) (by first | exact rg_b01 _ | (unfold rg; omega)) (fun c34 => ?_) (fun c34 => ?_)
      · refine eR_ic dX9_isBusy_69 ?_
        refine eR_ist_4 dX9_isBusy_70 (by decide) rfl ?_
        refine eR_iinc_5 dX9_isBusy_72 (by decide) rfl ?_
        refine eR_goto (tgt := 6) dX9_isBusy_75 (by decide) ?_
        have f4 : b01 (bsyB U.1 p a b (e + 1) = true) = 0 := b01_f (fun q => by rw [bsyB, Bool.or_eq_true, decide_eq_true_iff] at q; rcases q with q1 | q1; exact absurd q1 (by assumption); omega)
        have e8 := ih (e + 1) (by omega)
        rw [f4] at e8
        exact e8
      · refine eR_aldn_0 dX9_isBusy_37 rfl ?_
        refine eR_getR (i := 213) dX9_isBusy_38 gf_X9_32 th_205 rfl ?_
        refine eR_bi (z := 10) dX9_isBusy_41 rfl ?_
        refine eR_ild_5 dX9_isBusy_43 ?_
        refine eR_iadd dX9_isBusy_45 ?_
        refine eR_iald (n := 10 + e) dX9_isBusy_46 th_213 (by omega) (by omega) (by decide) ?_
        refine eX_pcI ((Vh.2.2.2.2.1 e (by omega)).2.2.1) ?_
        refine eR_ildn_3 dX9_isBusy_47 rfl ?_
        refine eR_icmp_gt (tgt := 69) dX9_isBusy_48 (by decide) (by first | exact rg_b01 _ | (unfold rg; omega)) (by first | exact rg_b01 _ | (unfold rg; omega)) (fun c48 => ?_) (fun c48 => ?_)
        · refine eR_ic dX9_isBusy_69 ?_
          refine eR_ist_4 dX9_isBusy_70 (by decide) rfl ?_
          refine eR_iinc_5 dX9_isBusy_72 (by decide) rfl ?_
          refine eR_goto (tgt := 6) dX9_isBusy_75 (by decide) ?_
          have f4 : b01 (bsyB U.1 p a b (e + 1) = true) = 0 := b01_f (fun q => by rw [bsyB, Bool.or_eq_true, decide_eq_true_iff] at q; rcases q with q1 | q1; exact absurd q1 (by assumption); omega)
          have e8 := ih (e + 1) (by omega)
          rw [f4] at e8
          exact e8
        · refine eR_aldn_0 dX9_isBusy_51 rfl ?_
          refine eR_getR (i := 214) dX9_isBusy_52 gf_X9_35 th_205 rfl ?_
          refine eR_bi (z := 10) dX9_isBusy_55 rfl ?_
          refine eR_ild_5 dX9_isBusy_57 ?_
          refine eR_iadd dX9_isBusy_59 ?_
          refine eR_iald (n := 10 + e) dX9_isBusy_60 th_214 (by omega) (by omega) (by decide) ?_
          refine eX_pcI ((Vh.2.2.2.2.1 e (by omega)).2.2.2) ?_
          refine eR_ildn_2 dX9_isBusy_61 rfl ?_
          refine eR_icmp_lt (tgt := 69) dX9_isBusy_62 (by decide) (by first | exact rg_b01 _ | (unfold rg; omega)) (by first | exact rg_b01 _ | (unfold rg; omega)) (fun c62 => ?_) (fun c62 => ?_)
          · refine eR_ic dX9_isBusy_69 ?_
            refine eR_ist_4 dX9_isBusy_70 (by decide) rfl ?_
            refine eR_iinc_5 dX9_isBusy_72 (by decide) rfl ?_
            refine eR_goto (tgt := 6) dX9_isBusy_75 (by decide) ?_
            have f4 : b01 (bsyB U.1 p a b (e + 1) = true) = 0 := b01_f (fun q => by rw [bsyB, Bool.or_eq_true, decide_eq_true_iff] at q; rcases q with q1 | q1; exact absurd q1 (by assumption); omega)
            have e8 := ih (e + 1) (by omega)
            rw [f4] at e8
            exact e8
          · refine eR_ic dX9_isBusy_65 ?_
            refine eR_goto (tgt := 70) dX9_isBusy_66 (by decide) ?_
            refine eR_ist_4 dX9_isBusy_70 (by decide) rfl ?_
            refine eR_iinc_5 dX9_isBusy_72 (by decide) rfl ?_
            refine eR_goto (tgt := 6) dX9_isBusy_75 (by decide) ?_
            have f4 : b01 (bsyB U.1 p a b (e + 1) = true) = 1 := b01_t (by rw [bsyB, Bool.or_eq_true, decide_eq_true_iff]; first | exact Or.inl (by assumption) | exact Or.inr ⟨by omega, by omega, by omega⟩)
            have e8 := ih (e + 1) (by omega)
            rw [f4] at e8
            exact e8
theorem sp_isBusy (uBh : uB U) (Vh : pV h U) {p a b : Nat} (hp : p < 2000000) (ha : a < 2000000) (hb : b < 2000000) (k : Q (.int (zI (b01 (bsyB U.1 p a b (sE U.1) = true)))) (tau t s) h) : eX g 0 mX9_isBusy 0 (lv_args 0 [.ref (gA g 205), .int (zI ↑p), .int (zI ↑a), .int (zI ↑b)]) [] (tau t s) h Q := by
  show eX g 0 mX9_isBusy 0 [(0, .ref (gA g 205)), (1, .int (zI ↑p)), (2, .int (zI ↑a)), (3, .int (zI ↑b))] [] (tau t s) h Q
  refine eR_ic dX9_isBusy_0 ?_
  refine eR_ist_n4 dX9_isBusy_1 (by decide) rfl ?_
  refine eR_ic dX9_isBusy_3 ?_
  refine eR_ist_n5 dX9_isBusy_4 (by decide) rfl ?_
  exact lp_isBusy uBh Vh hp ha hb k (sE U.1) 0 (by omega)
theorem sp_takeErrand (B : tB T n) (Th : mT h T n) (uBh : uB U) (Vh : pV h U) {i : Nat} (hin : i ≤ n) (Ah : h 205 14 = (i : Int)) (Oh : h 205 17 = 0) (hP : 1 ≤ sP U.1) (hE : sE U.1 < 10) (k : ∀ h1 : PH, pE h h1 (rdG T n U i) → Q .null (tau t s) h1) : eX g 3 mX9_takeErrand 0 (lv_args 0 [.ref (gA g 205)]) [] (tau t s) h Q := by
  show eX g 3 mX9_takeErrand 0 [(0, .ref (gA g 205))] [] (tau t s) h Q
  have hn9 := B.1
  have hb8 := uBh.1.1
  have hbC := uBh.1.2.1
  have hbE := uBh.1.2.2.1
  have hbL := uBh.2.2.1
  have hbF := uBh.2.2.2
  have Xh : h 205 18 = h 205 18 := rfl
  have Ph := pF_rf h
  obtain ⟨k9, hk9⟩ : ∃ k9 : Nat, k9 = 10 + sE U.1 := ⟨_, rfl⟩
  refine eR_bi (z := 10) dX9_takeErrand_0 rfl ?_
  refine eR_aldn_0 dX9_takeErrand_2 rfl ?_
  refine eR_getR (i := 217) dX9_takeErrand_3 gf_X9_44 th_205 rfl ?_
  refine eR_bi (z := 6) dX9_takeErrand_6 rfl ?_
  refine eR_iald (n := 6) dX9_takeErrand_8 th_217 (rfl) (by decide) (by decide) ?_
  refine eX_pcI (Vh.2.2.1) ?_
  refine eR_iadd dX9_takeErrand_9 ?_
  refine eX_pcI (show (10 + ↑(sE U.1) : Int) = ↑k9 from by omega) ?_
  refine eR_istn_n1 dX9_takeErrand_10 rfl (by decide) rfl ?_
  refine eR_aldn_0 dX9_takeErrand_11 rfl ?_
  refine eR_getR (i := 211) dX9_takeErrand_12 gf_X9_26 th_205 rfl ?_
  refine eR_ildn_1 dX9_takeErrand_15 rfl ?_
  refine eR_aldn_0 dX9_takeErrand_16 rfl ?_
  refine eR_callVi [] rfl dX9_takeErrand_17 ok_mX9_takePerson kw_999 rfl rfl th_205 rfl (Nat.le_of_ble_eq_true rfl) (d' := 2) (by decide) (Nat.le_of_ble_eq_true rfl) ?_
  refine sp_takePerson (i := i) (p9 := sP U.1) B Th (by omega) (by omega) (by omega) Vh.1 Ah Oh (fun x23_ vx23_ f24_ ex23_ hvx23_ px23_ ox23_ fx23_ => ?_) (fun x23_ h25_ ex23_ px23_ ax23_ bx23_ ox23_ fx23_ => ?_)
  · have nx23_ := num_l (by omega) ex23_
    have Tf24_ : mT f24_ T n := mT_p Th px23_
    have Pf24_ : pF h f24_ := pF_tr Ph (pF_of px23_)
    have Vf24_ : pV f24_ U := pV_p Vh px23_
    have Of24_ : f24_ 205 17 = ((x23_.1 : Nat) : Int) := ox23_
    have Xf24_ : f24_ 205 18 = ((x23_.2 : Nat) : Int) := fx23_
    refine eR_iast (n := k9) dX9_takeErrand_20 th_211 (rfl) (by omega) (by decide) ?_
    refine eR_aldn_0 dX9_takeErrand_21 rfl ?_
    refine eR_getR (i := 212) dX9_takeErrand_22 gf_X9_29 th_205 rfl ?_
    refine eR_ildn_1 dX9_takeErrand_25 rfl ?_
    refine eR_aldn_0 dX9_takeErrand_26 rfl ?_
    refine eR_ic dX9_takeErrand_27 ?_
    refine eR_ic dX9_takeErrand_28 ?_
    obtain ⟨g26_, hg26_⟩ : ∃ g9, g9 = hU f24_ 211 k9 ↑vx23_ := ⟨_, rfl⟩
    rw [← hg26_]
    have Tg26_ : mT g26_ T n := by rw [hg26_]; exact mT_w Tf24_ (by omega) (by decide)
    have Pg26_ : pF h g26_ := by rw [hg26_]; exact pF_w Pf24_ (by unfold pS; omega)
    have Vg26_ : pV g26_ U := by rw [hg26_]; exact pV_w Vf24_ (by unfold vS; omega)
    have Og26_ : g26_ 205 17 = ((x23_.1 : Nat) : Int) := by rw [hg26_, hU_ne (by omega)]; exact Of24_
    have Xg26_ : g26_ 205 18 = ((x23_.2 : Nat) : Int) := by rw [hg26_, hU_ne (by omega)]; exact Xf24_
    have E211_g26_ : g26_ 211 k9 = ((vx23_ : Nat) : Int) := by rw [hg26_]; exact hU_s _ _ _ _
    refine eR_callVi [_, _] rfl dX9_takeErrand_29 ok_mX9_takeNumber kw_988 rfl rfl th_205 rfl (Nat.le_of_ble_eq_true rfl) (d' := 1) (by decide) (Nat.le_of_ble_eq_true rfl) ?_
    refine sp_takeNumber_f (f := x23_.1) Og26_ (by omega) (by omega) ?_
    refine eR_iast (n := k9) dX9_takeErrand_32 th_212 (rfl) (by omega) (by decide) ?_
    refine eR_aldn_0 dX9_takeErrand_33 rfl ?_
    refine eR_getR (i := 213) dX9_takeErrand_34 gf_X9_32 th_205 rfl ?_
    refine eR_ildn_1 dX9_takeErrand_37 rfl ?_
    refine eR_aldn_0 dX9_takeErrand_38 rfl ?_
    refine eR_ic dX9_takeErrand_39 ?_
    refine eR_bi (z := 23) dX9_takeErrand_40 rfl ?_
    obtain ⟨g27_, hg27_⟩ : ∃ g9, g9 = hU g26_ 212 k9 ↑(0 : Nat) := ⟨_, rfl⟩
    rw [← hg27_]
    have Tg27_ : mT g27_ T n := by rw [hg27_]; exact mT_w Tg26_ (by omega) (by decide)
    have Pg27_ : pF h g27_ := by rw [hg27_]; exact pF_w Pg26_ (by unfold pS; omega)
    have Vg27_ : pV g27_ U := by rw [hg27_]; exact pV_w Vg26_ (by unfold vS; omega)
    have Og27_ : g27_ 205 17 = ((x23_.1 : Nat) : Int) := by rw [hg27_, hU_ne (by omega)]; exact Og26_
    have Xg27_ : g27_ 205 18 = ((x23_.2 : Nat) : Int) := by rw [hg27_, hU_ne (by omega)]; exact Xg26_
    have E211_g27_ : g27_ 211 k9 = ((vx23_ : Nat) : Int) := by rw [hg27_, hU_ne (by omega)]; exact E211_g26_
    have E212_g27_ : g27_ 212 k9 = (((0 : Nat) : Nat) : Int) := by rw [hg27_]; exact hU_s _ _ _ _
    refine eR_callVi [_, _] rfl dX9_takeErrand_42 ok_mX9_takeNumber kw_988 rfl rfl th_205 rfl (Nat.le_of_ble_eq_true rfl) (d' := 1) (by decide) (Nat.le_of_ble_eq_true rfl) ?_
    refine sp_takeNumber_f (f := x23_.1) Og27_ (by omega) (by omega) ?_
    refine eR_iast (n := k9) dX9_takeErrand_45 th_213 (rfl) (by omega) (by decide) ?_
    refine eR_aldn_0 dX9_takeErrand_46 rfl ?_
    refine eR_getR (i := 214) dX9_takeErrand_47 gf_X9_35 th_205 rfl ?_
    refine eR_ildn_1 dX9_takeErrand_50 rfl ?_
    refine eR_aldn_0 dX9_takeErrand_51 rfl ?_
    refine eR_ic dX9_takeErrand_52 ?_
    refine eR_bi (z := 23) dX9_takeErrand_53 rfl ?_
    obtain ⟨g28_, hg28_⟩ : ∃ g9, g9 = hU g27_ 213 k9 ↑(0 : Nat) := ⟨_, rfl⟩
    rw [← hg28_]
    have Tg28_ : mT g28_ T n := by rw [hg28_]; exact mT_w Tg27_ (by omega) (by decide)
    have Pg28_ : pF h g28_ := by rw [hg28_]; exact pF_w Pg27_ (by unfold pS; omega)
    have Vg28_ : pV g28_ U := by rw [hg28_]; exact pV_w Vg27_ (by unfold vS; omega)
    have Og28_ : g28_ 205 17 = ((x23_.1 : Nat) : Int) := by rw [hg28_, hU_ne (by omega)]; exact Og27_
    have Xg28_ : g28_ 205 18 = ((x23_.2 : Nat) : Int) := by rw [hg28_, hU_ne (by omega)]; exact Xg27_
    have E211_g28_ : g28_ 211 k9 = ((vx23_ : Nat) : Int) := by rw [hg28_, hU_ne (by omega)]; exact E211_g27_
    have E212_g28_ : g28_ 212 k9 = (((0 : Nat) : Nat) : Int) := by rw [hg28_, hU_ne (by omega)]; exact E212_g27_
    have E213_g28_ : g28_ 213 k9 = (((0 : Nat) : Nat) : Int) := by rw [hg28_]; exact hU_s _ _ _ _
    refine eR_callVi [_, _] rfl dX9_takeErrand_55 ok_mX9_takeNumber kw_988 rfl rfl th_205 rfl (Nat.le_of_ble_eq_true rfl) (d' := 1) (by decide) (Nat.le_of_ble_eq_true rfl) ?_
    refine sp_takeNumber_f (f := x23_.1) Og28_ (by omega) (by omega) ?_
    refine eR_iast (n := k9) dX9_takeErrand_58 th_214 (rfl) (by omega) (by decide) ?_
    refine eR_aldn_0 dX9_takeErrand_59 rfl ?_
    refine eR_aldn_0 dX9_takeErrand_60 rfl ?_
    refine eR_getR (i := 214) dX9_takeErrand_61 gf_X9_35 th_205 rfl ?_
    refine eR_ildn_1 dX9_takeErrand_64 rfl ?_
    refine eR_iald (n := k9) dX9_takeErrand_65 th_214 (rfl) (by omega) (by decide) ?_
    refine eX_pcI (hU_s _ _ _ _) ?_
    refine eR_aldn_0 dX9_takeErrand_66 rfl ?_
    refine eR_getR (i := 213) dX9_takeErrand_67 gf_X9_32 th_205 rfl ?_
    refine eR_ildn_1 dX9_takeErrand_70 rfl ?_
    refine eR_iald (n := k9) dX9_takeErrand_71 th_213 (rfl) (by omega) (by decide) ?_
    refine eX_pcI (congrFun (hU_a _ _ _ (by decide)) _) ?_
    refine eX_pcI (E213_g28_) ?_
    refine eR_icmp_lt (tgt := 104) dX9_takeErrand_72 (by decide) (by first | exact rg_b01 _ | (unfold rg; omega)) (by first | exact rg_b01 _ | (unfold rg; omega)) (fun c72 => ?_) (fun c72 => ?_)
    · refine eR_ic dX9_takeErrand_104 ?_
      refine eR_ic dX9_takeErrand_105 ?_
      refine eR_aldn_0 dX9_takeErrand_106 rfl ?_
      refine eR_getI dX9_takeErrand_107 gf_X9_92 th_205 rfl ?_
      refine eX_pcI (congrFun (hU_a _ _ _ (by decide)) _) ?_
      obtain ⟨g29_, hg29_⟩ : ∃ g9, g9 = hU g28_ 214 k9 ↑(0 : Nat) := ⟨_, rfl⟩
      rw [← hg29_]
      have Tg29_ : mT g29_ T n := by rw [hg29_]; exact mT_w Tg28_ (by omega) (by decide)
      have Pg29_ : pF h g29_ := by rw [hg29_]; exact pF_w Pg28_ (by unfold pS; omega)
      have Vg29_ : pV g29_ U := by rw [hg29_]; exact pV_w Vg28_ (by unfold vS; omega)
      have Og29_ : g29_ 205 17 = ((x23_.1 : Nat) : Int) := by rw [hg29_, hU_ne (by omega)]; exact Og28_
      have Xg29_ : g29_ 205 18 = ((x23_.2 : Nat) : Int) := by rw [hg29_, hU_ne (by omega)]; exact Xg28_
      have E211_g29_ : g29_ 211 k9 = ((vx23_ : Nat) : Int) := by rw [hg29_, hU_ne (by omega)]; exact E211_g28_
      have E212_g29_ : g29_ 212 k9 = (((0 : Nat) : Nat) : Int) := by rw [hg29_, hU_ne (by omega)]; exact E212_g28_
      have E213_g29_ : g29_ 213 k9 = (((0 : Nat) : Nat) : Int) := by rw [hg29_, hU_ne (by omega)]; exact E213_g28_
      have E214_g29_ : g29_ 214 k9 = (((0 : Nat) : Nat) : Int) := by rw [hg29_]; exact hU_s _ _ _ _
      refine eR_callVi [_, _, _] rfl dX9_takeErrand_110 ok_mX9_want kw_984 rfl rfl th_205 rfl (Nat.le_of_ble_eq_true rfl) (d' := 0) (by decide) (Nat.le_of_ble_eq_true rfl) ?_
      refine sp_want_f (f := x23_.1) (by unfold rg; omega) Og29_ (by omega) (by omega) ?_
      refine eR_if_eq (tgt := 127) dX9_takeErrand_113 (by decide) (by first | exact rg_b01 _ | (unfold rg; omega)) (fun c113 => ?_) (fun c113 => absurd c113 (by decide))
      refine eR_vret dX9_takeErrand_127 rfl ?_
      refine k g29_ (pE_l (x := (x23_.1, x23_.2)) ?_ Pg29_ Og29_ Xg29_)
      unfold rdG
      simp only [ex23_] <;> first | rfl | (rw [if_pos (by first | omega | exact Or.inr (by assumption) | exact Or.inl (by omega))]; done) | (rw [if_neg (by first | omega | (rintro (q1 | q1); omega; exact absurd q1 (by assumption)))]; done)
    · refine eR_aldn_0 dX9_takeErrand_75 rfl ?_
      refine eR_aldn_0 dX9_takeErrand_76 rfl ?_
      refine eR_getR (i := 211) dX9_takeErrand_77 gf_X9_26 th_205 rfl ?_
      refine eR_ildn_1 dX9_takeErrand_80 rfl ?_
      refine eR_iald (n := k9) dX9_takeErrand_81 th_211 (rfl) (by omega) (by decide) ?_
      refine eX_pcI (congrFun (hU_a _ _ _ (by decide)) _) ?_
      refine eX_pcI (E211_g28_) ?_
      refine eR_aldn_0 dX9_takeErrand_82 rfl ?_
      refine eR_getR (i := 213) dX9_takeErrand_83 gf_X9_32 th_205 rfl ?_
      refine eR_ildn_1 dX9_takeErrand_86 rfl ?_
      refine eR_iald (n := k9) dX9_takeErrand_87 th_213 (rfl) (by omega) (by decide) ?_
      refine eX_pcI (congrFun (hU_a _ _ _ (by decide)) _) ?_
      refine eX_pcI (E213_g28_) ?_
      refine eR_aldn_0 dX9_takeErrand_88 rfl ?_
      refine eR_getR (i := 214) dX9_takeErrand_89 gf_X9_35 th_205 rfl ?_
      refine eR_ildn_1 dX9_takeErrand_92 rfl ?_
      refine eR_iald (n := k9) dX9_takeErrand_93 th_214 (rfl) (by omega) (by decide) ?_
      refine eX_pcI (hU_s _ _ _ _) ?_
      obtain ⟨g30_, hg30_⟩ : ∃ g9, g9 = hU g28_ 214 k9 ↑(0 : Nat) := ⟨_, rfl⟩
      rw [← hg30_]
      have Tg30_ : mT g30_ T n := by rw [hg30_]; exact mT_w Tg28_ (by omega) (by decide)
      have Pg30_ : pF h g30_ := by rw [hg30_]; exact pF_w Pg28_ (by unfold pS; omega)
      have Vg30_ : pV g30_ U := by rw [hg30_]; exact pV_w Vg28_ (by unfold vS; omega)
      have Og30_ : g30_ 205 17 = ((x23_.1 : Nat) : Int) := by rw [hg30_, hU_ne (by omega)]; exact Og28_
      have Xg30_ : g30_ 205 18 = ((x23_.2 : Nat) : Int) := by rw [hg30_, hU_ne (by omega)]; exact Xg28_
      have E211_g30_ : g30_ 211 k9 = ((vx23_ : Nat) : Int) := by rw [hg30_, hU_ne (by omega)]; exact E211_g28_
      have E212_g30_ : g30_ 212 k9 = (((0 : Nat) : Nat) : Int) := by rw [hg30_, hU_ne (by omega)]; exact E212_g28_
      have E213_g30_ : g30_ 213 k9 = (((0 : Nat) : Nat) : Int) := by rw [hg30_, hU_ne (by omega)]; exact E213_g28_
      have E214_g30_ : g30_ 214 k9 = (((0 : Nat) : Nat) : Int) := by rw [hg30_]; exact hU_s _ _ _ _
      refine eR_callVi [_, _, _] rfl dX9_takeErrand_94 ok_mX9_isBusy kw_1007 rfl rfl th_205 rfl (Nat.le_of_ble_eq_true rfl) (d' := 0) (by decide) (Nat.le_of_ble_eq_true rfl) ?_
      refine sp_isBusy (p := vx23_) (a := (0 : Nat)) (b := (0 : Nat)) uBh Vg30_ (by omega) (by omega) (by omega) ?_
      refine eR_if_ne (tgt := 104) dX9_takeErrand_97 (by decide) (by first | exact rg_b01 _ | (unfold rg; omega)) (fun c97 => ?_) (fun c97 => ?_)
      · replace c97 := b01_ne0.mp c97
        refine eR_ic dX9_takeErrand_104 ?_
        refine eR_ic dX9_takeErrand_105 ?_
        refine eR_aldn_0 dX9_takeErrand_106 rfl ?_
        refine eR_getI dX9_takeErrand_107 gf_X9_92 th_205 rfl ?_
        refine eR_callVi [_, _, _] rfl dX9_takeErrand_110 ok_mX9_want kw_984 rfl rfl th_205 rfl (Nat.le_of_ble_eq_true rfl) (d' := 0) (by decide) (Nat.le_of_ble_eq_true rfl) ?_
        refine sp_want_f (f := x23_.1) (by unfold rg; omega) Og30_ (by omega) (by omega) ?_
        refine eR_if_eq (tgt := 127) dX9_takeErrand_113 (by decide) (by first | exact rg_b01 _ | (unfold rg; omega)) (fun c113 => ?_) (fun c113 => absurd c113 (by decide))
        refine eR_vret dX9_takeErrand_127 rfl ?_
        refine k g30_ (pE_l (x := (x23_.1, x23_.2)) ?_ Pg30_ Og30_ Xg30_)
        unfold rdG
        simp only [ex23_] <;> first | rfl | (rw [if_pos (by first | omega | exact Or.inr (by assumption) | exact Or.inl (by omega))]; done) | (rw [if_neg (by first | omega | (rintro (q1 | q1); omega; exact absurd q1 (by assumption)))]; done)
      · replace c97 := b01_eq0.mp c97
        refine eR_ic dX9_takeErrand_100 ?_
        refine eR_goto (tgt := 105) dX9_takeErrand_101 (by decide) ?_
        refine eR_ic dX9_takeErrand_105 ?_
        refine eR_aldn_0 dX9_takeErrand_106 rfl ?_
        refine eR_getI dX9_takeErrand_107 gf_X9_92 th_205 rfl ?_
        refine eR_callVi [_, _, _] rfl dX9_takeErrand_110 ok_mX9_want kw_984 rfl rfl th_205 rfl (Nat.le_of_ble_eq_true rfl) (d' := 0) (by decide) (Nat.le_of_ble_eq_true rfl) ?_
        refine sp_want_f (f := x23_.1) (by unfold rg; omega) Og30_ (by omega) (by omega) ?_
        refine eR_if_eq (tgt := 127) dX9_takeErrand_113 (by decide) (by first | exact rg_b01 _ | (unfold rg; omega)) (fun c113 => ?_) (fun c113 => absurd c113 (by decide))
        refine eR_vret dX9_takeErrand_127 rfl ?_
        refine k g30_ (pE_l (x := (x23_.1, x23_.2)) ?_ Pg30_ Og30_ Xg30_)
        unfold rdG
        simp only [ex23_] <;> first | rfl | (rw [if_pos (by first | omega | exact Or.inr (by assumption) | exact Or.inl (by omega))]; done) | (rw [if_neg (by first | omega | (rintro (q1 | q1); omega; exact absurd q1 (by assumption)))]; done)
  · have nx23_ := num_r (by omega) ex23_
    have Th25_ : mT h25_ T n := mT_p Th px23_
    have Ph25_ : pF h h25_ := pF_tr Ph (pF_of px23_)
    have Vh25_ : pV h25_ U := pV_p Vh px23_
    have Ah25_ : h25_ 205 14 = ((x23_.2.2 : Nat) : Int) := ax23_
    have Fh25_ : h25_ 205 15 = ((x23_.2.1 : Nat) : Int) := bx23_
    have Oh25_ : h25_ 205 17 = (0 : Int) := ox23_
    have Xh25_ : h25_ 205 18 = (h 205 18 : Int) := fx23_.trans Xh
    refine eR_iast (n := k9) dX9_takeErrand_20 th_211 (rfl) (by omega) (by decide) ?_
    refine eR_aldn_0 dX9_takeErrand_21 rfl ?_
    refine eR_getR (i := 212) dX9_takeErrand_22 gf_X9_29 th_205 rfl ?_
    refine eR_ildn_1 dX9_takeErrand_25 rfl ?_
    refine eR_aldn_0 dX9_takeErrand_26 rfl ?_
    refine eR_ic dX9_takeErrand_27 ?_
    refine eR_ic dX9_takeErrand_28 ?_
    obtain ⟨g31_, hg31_⟩ : ∃ g9, g9 = hU h25_ 211 k9 ↑x23_.1 := ⟨_, rfl⟩
    rw [← hg31_]
    have Tg31_ : mT g31_ T n := by rw [hg31_]; exact mT_w Th25_ (by omega) (by decide)
    have Pg31_ : pF h g31_ := by rw [hg31_]; exact pF_w Ph25_ (by unfold pS; omega)
    have Vg31_ : pV g31_ U := by rw [hg31_]; exact pV_w Vh25_ (by unfold vS; omega)
    have Ag31_ : g31_ 205 14 = ((x23_.2.2 : Nat) : Int) := by rw [hg31_, hU_ne (by omega)]; exact Ah25_
    have Fg31_ : g31_ 205 15 = ((x23_.2.1 : Nat) : Int) := by rw [hg31_, hU_ne (by omega)]; exact Fh25_
    have Og31_ : g31_ 205 17 = (0 : Int) := by rw [hg31_, hU_ne (by omega)]; exact Oh25_
    have Xg31_ : g31_ 205 18 = (h 205 18 : Int) := by rw [hg31_, hU_ne (by omega)]; exact Xh25_
    have E211_g31_ : g31_ 211 k9 = ((x23_.1 : Nat) : Int) := by rw [hg31_]; exact hU_s _ _ _ _
    refine eR_callVi [_, _] rfl dX9_takeErrand_29 ok_mX9_takeNumber kw_988 rfl rfl th_205 rfl (Nat.le_of_ble_eq_true rfl) (d' := 1) (by decide) (Nat.le_of_ble_eq_true rfl) ?_
    refine sp_takeNumber (i := x23_.2.2) (lo := 0) (hi := 5) B Tg31_ (by omega) (by decide) (by decide) Ag31_ Og31_ (fun x32_ vx32_ f33_ ex32_ hvx32_ px32_ ox32_ fx32_ => ?_) (fun x32_ h34_ ex32_ px32_ ax32_ bx32_ ox32_ fx32_ => ?_)
    · have nx32_ := num_l (by omega) ex32_
      have Tf33_ : mT f33_ T n := mT_p Tg31_ px32_
      have Pf33_ : pF h f33_ := pF_tr Pg31_ (pF_of px32_)
      have Vf33_ : pV f33_ U := pV_p Vg31_ px32_
      have Of33_ : f33_ 205 17 = ((x32_.1 : Nat) : Int) := ox32_
      have Xf33_ : f33_ 205 18 = ((x32_.2 : Nat) : Int) := fx32_
      have E211_f33_ : f33_ 211 k9 = ((x23_.1 : Nat) : Int) := (px32_ 211 k9 (by omega)).trans E211_g31_
      refine eR_iast (n := k9) dX9_takeErrand_32 th_212 (rfl) (by omega) (by decide) ?_
      refine eR_aldn_0 dX9_takeErrand_33 rfl ?_
      refine eR_getR (i := 213) dX9_takeErrand_34 gf_X9_32 th_205 rfl ?_
      refine eR_ildn_1 dX9_takeErrand_37 rfl ?_
      refine eR_aldn_0 dX9_takeErrand_38 rfl ?_
      refine eR_ic dX9_takeErrand_39 ?_
      refine eR_bi (z := 23) dX9_takeErrand_40 rfl ?_
      obtain ⟨g35_, hg35_⟩ : ∃ g9, g9 = hU f33_ 212 k9 ↑vx32_ := ⟨_, rfl⟩
      rw [← hg35_]
      have Tg35_ : mT g35_ T n := by rw [hg35_]; exact mT_w Tf33_ (by omega) (by decide)
      have Pg35_ : pF h g35_ := by rw [hg35_]; exact pF_w Pf33_ (by unfold pS; omega)
      have Vg35_ : pV g35_ U := by rw [hg35_]; exact pV_w Vf33_ (by unfold vS; omega)
      have Og35_ : g35_ 205 17 = ((x32_.1 : Nat) : Int) := by rw [hg35_, hU_ne (by omega)]; exact Of33_
      have Xg35_ : g35_ 205 18 = ((x32_.2 : Nat) : Int) := by rw [hg35_, hU_ne (by omega)]; exact Xf33_
      have E211_g35_ : g35_ 211 k9 = ((x23_.1 : Nat) : Int) := by rw [hg35_, hU_ne (by omega)]; exact E211_f33_
      have E212_g35_ : g35_ 212 k9 = ((vx32_ : Nat) : Int) := by rw [hg35_]; exact hU_s _ _ _ _
      refine eR_callVi [_, _] rfl dX9_takeErrand_42 ok_mX9_takeNumber kw_988 rfl rfl th_205 rfl (Nat.le_of_ble_eq_true rfl) (d' := 1) (by decide) (Nat.le_of_ble_eq_true rfl) ?_
      refine sp_takeNumber_f (f := x32_.1) Og35_ (by omega) (by omega) ?_
      refine eR_iast (n := k9) dX9_takeErrand_45 th_213 (rfl) (by omega) (by decide) ?_
      refine eR_aldn_0 dX9_takeErrand_46 rfl ?_
      refine eR_getR (i := 214) dX9_takeErrand_47 gf_X9_35 th_205 rfl ?_
      refine eR_ildn_1 dX9_takeErrand_50 rfl ?_
      refine eR_aldn_0 dX9_takeErrand_51 rfl ?_
      refine eR_ic dX9_takeErrand_52 ?_
      refine eR_bi (z := 23) dX9_takeErrand_53 rfl ?_
      obtain ⟨g36_, hg36_⟩ : ∃ g9, g9 = hU g35_ 213 k9 ↑(0 : Nat) := ⟨_, rfl⟩
      rw [← hg36_]
      have Tg36_ : mT g36_ T n := by rw [hg36_]; exact mT_w Tg35_ (by omega) (by decide)
      have Pg36_ : pF h g36_ := by rw [hg36_]; exact pF_w Pg35_ (by unfold pS; omega)
      have Vg36_ : pV g36_ U := by rw [hg36_]; exact pV_w Vg35_ (by unfold vS; omega)
      have Og36_ : g36_ 205 17 = ((x32_.1 : Nat) : Int) := by rw [hg36_, hU_ne (by omega)]; exact Og35_
      have Xg36_ : g36_ 205 18 = ((x32_.2 : Nat) : Int) := by rw [hg36_, hU_ne (by omega)]; exact Xg35_
      have E211_g36_ : g36_ 211 k9 = ((x23_.1 : Nat) : Int) := by rw [hg36_, hU_ne (by omega)]; exact E211_g35_
      have E212_g36_ : g36_ 212 k9 = ((vx32_ : Nat) : Int) := by rw [hg36_, hU_ne (by omega)]; exact E212_g35_
      have E213_g36_ : g36_ 213 k9 = (((0 : Nat) : Nat) : Int) := by rw [hg36_]; exact hU_s _ _ _ _
      refine eR_callVi [_, _] rfl dX9_takeErrand_55 ok_mX9_takeNumber kw_988 rfl rfl th_205 rfl (Nat.le_of_ble_eq_true rfl) (d' := 1) (by decide) (Nat.le_of_ble_eq_true rfl) ?_
      refine sp_takeNumber_f (f := x32_.1) Og36_ (by omega) (by omega) ?_
      refine eR_iast (n := k9) dX9_takeErrand_58 th_214 (rfl) (by omega) (by decide) ?_
      refine eR_aldn_0 dX9_takeErrand_59 rfl ?_
      refine eR_aldn_0 dX9_takeErrand_60 rfl ?_
      refine eR_getR (i := 214) dX9_takeErrand_61 gf_X9_35 th_205 rfl ?_
      refine eR_ildn_1 dX9_takeErrand_64 rfl ?_
      refine eR_iald (n := k9) dX9_takeErrand_65 th_214 (rfl) (by omega) (by decide) ?_
      refine eX_pcI (hU_s _ _ _ _) ?_
      refine eR_aldn_0 dX9_takeErrand_66 rfl ?_
      refine eR_getR (i := 213) dX9_takeErrand_67 gf_X9_32 th_205 rfl ?_
      refine eR_ildn_1 dX9_takeErrand_70 rfl ?_
      refine eR_iald (n := k9) dX9_takeErrand_71 th_213 (rfl) (by omega) (by decide) ?_
      refine eX_pcI (congrFun (hU_a _ _ _ (by decide)) _) ?_
      refine eX_pcI (E213_g36_) ?_
      refine eR_icmp_lt (tgt := 104) dX9_takeErrand_72 (by decide) (by first | exact rg_b01 _ | (unfold rg; omega)) (by first | exact rg_b01 _ | (unfold rg; omega)) (fun c72 => ?_) (fun c72 => ?_)
      · refine eR_ic dX9_takeErrand_104 ?_
        refine eR_ic dX9_takeErrand_105 ?_
        refine eR_aldn_0 dX9_takeErrand_106 rfl ?_
        refine eR_getI dX9_takeErrand_107 gf_X9_92 th_205 rfl ?_
        refine eX_pcI (congrFun (hU_a _ _ _ (by decide)) _) ?_
        obtain ⟨g37_, hg37_⟩ : ∃ g9, g9 = hU g36_ 214 k9 ↑(0 : Nat) := ⟨_, rfl⟩
        rw [← hg37_]
        have Tg37_ : mT g37_ T n := by rw [hg37_]; exact mT_w Tg36_ (by omega) (by decide)
        have Pg37_ : pF h g37_ := by rw [hg37_]; exact pF_w Pg36_ (by unfold pS; omega)
        have Vg37_ : pV g37_ U := by rw [hg37_]; exact pV_w Vg36_ (by unfold vS; omega)
        have Og37_ : g37_ 205 17 = ((x32_.1 : Nat) : Int) := by rw [hg37_, hU_ne (by omega)]; exact Og36_
        have Xg37_ : g37_ 205 18 = ((x32_.2 : Nat) : Int) := by rw [hg37_, hU_ne (by omega)]; exact Xg36_
        have E211_g37_ : g37_ 211 k9 = ((x23_.1 : Nat) : Int) := by rw [hg37_, hU_ne (by omega)]; exact E211_g36_
        have E212_g37_ : g37_ 212 k9 = ((vx32_ : Nat) : Int) := by rw [hg37_, hU_ne (by omega)]; exact E212_g36_
        have E213_g37_ : g37_ 213 k9 = (((0 : Nat) : Nat) : Int) := by rw [hg37_, hU_ne (by omega)]; exact E213_g36_
        have E214_g37_ : g37_ 214 k9 = (((0 : Nat) : Nat) : Int) := by rw [hg37_]; exact hU_s _ _ _ _
        refine eR_callVi [_, _, _] rfl dX9_takeErrand_110 ok_mX9_want kw_984 rfl rfl th_205 rfl (Nat.le_of_ble_eq_true rfl) (d' := 0) (by decide) (Nat.le_of_ble_eq_true rfl) ?_
        refine sp_want_f (f := x32_.1) (by unfold rg; omega) Og37_ (by omega) (by omega) ?_
        refine eR_if_eq (tgt := 127) dX9_takeErrand_113 (by decide) (by first | exact rg_b01 _ | (unfold rg; omega)) (fun c113 => ?_) (fun c113 => absurd c113 (by decide))
        refine eR_vret dX9_takeErrand_127 rfl ?_
        refine k g37_ (pE_l (x := (x32_.1, x32_.2)) ?_ Pg37_ Og37_ Xg37_)
        unfold rdG
        simp only [ex23_, ex32_] <;> first | rfl | (rw [if_pos (by first | omega | exact Or.inr (by assumption) | exact Or.inl (by omega))]; done) | (rw [if_neg (by first | omega | (rintro (q1 | q1); omega; exact absurd q1 (by assumption)))]; done)
      · refine eR_aldn_0 dX9_takeErrand_75 rfl ?_
        refine eR_aldn_0 dX9_takeErrand_76 rfl ?_
        refine eR_getR (i := 211) dX9_takeErrand_77 gf_X9_26 th_205 rfl ?_
        refine eR_ildn_1 dX9_takeErrand_80 rfl ?_
        refine eR_iald (n := k9) dX9_takeErrand_81 th_211 (rfl) (by omega) (by decide) ?_
        refine eX_pcI (congrFun (hU_a _ _ _ (by decide)) _) ?_
        refine eX_pcI (E211_g36_) ?_
        refine eR_aldn_0 dX9_takeErrand_82 rfl ?_
        refine eR_getR (i := 213) dX9_takeErrand_83 gf_X9_32 th_205 rfl ?_
        refine eR_ildn_1 dX9_takeErrand_86 rfl ?_
        refine eR_iald (n := k9) dX9_takeErrand_87 th_213 (rfl) (by omega) (by decide) ?_
        refine eX_pcI (congrFun (hU_a _ _ _ (by decide)) _) ?_
        refine eX_pcI (E213_g36_) ?_
        refine eR_aldn_0 dX9_takeErrand_88 rfl ?_
        refine eR_getR (i := 214) dX9_takeErrand_89 gf_X9_35 th_205 rfl ?_
        refine eR_ildn_1 dX9_takeErrand_92 rfl ?_
        refine eR_iald (n := k9) dX9_takeErrand_93 th_214 (rfl) (by omega) (by decide) ?_
        refine eX_pcI (hU_s _ _ _ _) ?_
        obtain ⟨g38_, hg38_⟩ : ∃ g9, g9 = hU g36_ 214 k9 ↑(0 : Nat) := ⟨_, rfl⟩
        rw [← hg38_]
        have Tg38_ : mT g38_ T n := by rw [hg38_]; exact mT_w Tg36_ (by omega) (by decide)
        have Pg38_ : pF h g38_ := by rw [hg38_]; exact pF_w Pg36_ (by unfold pS; omega)
        have Vg38_ : pV g38_ U := by rw [hg38_]; exact pV_w Vg36_ (by unfold vS; omega)
        have Og38_ : g38_ 205 17 = ((x32_.1 : Nat) : Int) := by rw [hg38_, hU_ne (by omega)]; exact Og36_
        have Xg38_ : g38_ 205 18 = ((x32_.2 : Nat) : Int) := by rw [hg38_, hU_ne (by omega)]; exact Xg36_
        have E211_g38_ : g38_ 211 k9 = ((x23_.1 : Nat) : Int) := by rw [hg38_, hU_ne (by omega)]; exact E211_g36_
        have E212_g38_ : g38_ 212 k9 = ((vx32_ : Nat) : Int) := by rw [hg38_, hU_ne (by omega)]; exact E212_g36_
        have E213_g38_ : g38_ 213 k9 = (((0 : Nat) : Nat) : Int) := by rw [hg38_, hU_ne (by omega)]; exact E213_g36_
        have E214_g38_ : g38_ 214 k9 = (((0 : Nat) : Nat) : Int) := by rw [hg38_]; exact hU_s _ _ _ _
        refine eR_callVi [_, _, _] rfl dX9_takeErrand_94 ok_mX9_isBusy kw_1007 rfl rfl th_205 rfl (Nat.le_of_ble_eq_true rfl) (d' := 0) (by decide) (Nat.le_of_ble_eq_true rfl) ?_
        refine sp_isBusy (p := x23_.1) (a := (0 : Nat)) (b := (0 : Nat)) uBh Vg38_ (by omega) (by omega) (by omega) ?_
        refine eR_if_ne (tgt := 104) dX9_takeErrand_97 (by decide) (by first | exact rg_b01 _ | (unfold rg; omega)) (fun c97 => ?_) (fun c97 => ?_)
        · replace c97 := b01_ne0.mp c97
          refine eR_ic dX9_takeErrand_104 ?_
          refine eR_ic dX9_takeErrand_105 ?_
          refine eR_aldn_0 dX9_takeErrand_106 rfl ?_
          refine eR_getI dX9_takeErrand_107 gf_X9_92 th_205 rfl ?_
          refine eR_callVi [_, _, _] rfl dX9_takeErrand_110 ok_mX9_want kw_984 rfl rfl th_205 rfl (Nat.le_of_ble_eq_true rfl) (d' := 0) (by decide) (Nat.le_of_ble_eq_true rfl) ?_
          refine sp_want_f (f := x32_.1) (by unfold rg; omega) Og38_ (by omega) (by omega) ?_
          refine eR_if_eq (tgt := 127) dX9_takeErrand_113 (by decide) (by first | exact rg_b01 _ | (unfold rg; omega)) (fun c113 => ?_) (fun c113 => absurd c113 (by decide))
          refine eR_vret dX9_takeErrand_127 rfl ?_
          refine k g38_ (pE_l (x := (x32_.1, x32_.2)) ?_ Pg38_ Og38_ Xg38_)
          unfold rdG
          simp only [ex23_, ex32_] <;> first | rfl | (rw [if_pos (by first | omega | exact Or.inr (by assumption) | exact Or.inl (by omega))]; done) | (rw [if_neg (by first | omega | (rintro (q1 | q1); omega; exact absurd q1 (by assumption)))]; done)
        · replace c97 := b01_eq0.mp c97
          refine eR_ic dX9_takeErrand_100 ?_
          refine eR_goto (tgt := 105) dX9_takeErrand_101 (by decide) ?_
          refine eR_ic dX9_takeErrand_105 ?_
          refine eR_aldn_0 dX9_takeErrand_106 rfl ?_
          refine eR_getI dX9_takeErrand_107 gf_X9_92 th_205 rfl ?_
          refine eR_callVi [_, _, _] rfl dX9_takeErrand_110 ok_mX9_want kw_984 rfl rfl th_205 rfl (Nat.le_of_ble_eq_true rfl) (d' := 0) (by decide) (Nat.le_of_ble_eq_true rfl) ?_
          refine sp_want_f (f := x32_.1) (by unfold rg; omega) Og38_ (by omega) (by omega) ?_
          refine eR_if_eq (tgt := 127) dX9_takeErrand_113 (by decide) (by first | exact rg_b01 _ | (unfold rg; omega)) (fun c113 => ?_) (fun c113 => absurd c113 (by decide))
          refine eR_vret dX9_takeErrand_127 rfl ?_
          refine k g38_ (pE_l (x := (x32_.1, x32_.2)) ?_ Pg38_ Og38_ Xg38_)
          unfold rdG
          simp only [ex23_, ex32_] <;> first | rfl | (rw [if_pos (by first | omega | exact Or.inr (by assumption) | exact Or.inl (by omega))]; done) | (rw [if_neg (by first | omega | (rintro (q1 | q1); omega; exact absurd q1 (by assumption)))]; done)
    · have nx32_ := num_r (by omega) ex32_
      have Th34_ : mT h34_ T n := mT_p Tg31_ px32_
      have Ph34_ : pF h h34_ := pF_tr Pg31_ (pF_of px32_)
      have Vh34_ : pV h34_ U := pV_p Vg31_ px32_
      have Ah34_ : h34_ 205 14 = ((x32_.2.2 : Nat) : Int) := ax32_
      have Fh34_ : h34_ 205 15 = ((x32_.2.1 : Nat) : Int) := bx32_
      have Oh34_ : h34_ 205 17 = (0 : Int) := ox32_
      have Xh34_ : h34_ 205 18 = (h 205 18 : Int) := fx32_.trans Xg31_
      have E211_h34_ : h34_ 211 k9 = ((x23_.1 : Nat) : Int) := (px32_ 211 k9 (by omega)).trans E211_g31_
      refine eR_iast (n := k9) dX9_takeErrand_32 th_212 (rfl) (by omega) (by decide) ?_
      refine eR_aldn_0 dX9_takeErrand_33 rfl ?_
      refine eR_getR (i := 213) dX9_takeErrand_34 gf_X9_32 th_205 rfl ?_
      refine eR_ildn_1 dX9_takeErrand_37 rfl ?_
      refine eR_aldn_0 dX9_takeErrand_38 rfl ?_
      refine eR_ic dX9_takeErrand_39 ?_
      refine eR_bi (z := 23) dX9_takeErrand_40 rfl ?_
      obtain ⟨g39_, hg39_⟩ : ∃ g9, g9 = hU h34_ 212 k9 ↑x32_.1 := ⟨_, rfl⟩
      rw [← hg39_]
      have Tg39_ : mT g39_ T n := by rw [hg39_]; exact mT_w Th34_ (by omega) (by decide)
      have Pg39_ : pF h g39_ := by rw [hg39_]; exact pF_w Ph34_ (by unfold pS; omega)
      have Vg39_ : pV g39_ U := by rw [hg39_]; exact pV_w Vh34_ (by unfold vS; omega)
      have Ag39_ : g39_ 205 14 = ((x32_.2.2 : Nat) : Int) := by rw [hg39_, hU_ne (by omega)]; exact Ah34_
      have Fg39_ : g39_ 205 15 = ((x32_.2.1 : Nat) : Int) := by rw [hg39_, hU_ne (by omega)]; exact Fh34_
      have Og39_ : g39_ 205 17 = (0 : Int) := by rw [hg39_, hU_ne (by omega)]; exact Oh34_
      have Xg39_ : g39_ 205 18 = (h 205 18 : Int) := by rw [hg39_, hU_ne (by omega)]; exact Xh34_
      have E211_g39_ : g39_ 211 k9 = ((x23_.1 : Nat) : Int) := by rw [hg39_, hU_ne (by omega)]; exact E211_h34_
      have E212_g39_ : g39_ 212 k9 = ((x32_.1 : Nat) : Int) := by rw [hg39_]; exact hU_s _ _ _ _
      refine eR_callVi [_, _] rfl dX9_takeErrand_42 ok_mX9_takeNumber kw_988 rfl rfl th_205 rfl (Nat.le_of_ble_eq_true rfl) (d' := 1) (by decide) (Nat.le_of_ble_eq_true rfl) ?_
      refine sp_takeNumber (i := x32_.2.2) (lo := 0) (hi := 23) B Tg39_ (by omega) (by decide) (by decide) Ag39_ Og39_ (fun x40_ vx40_ f41_ ex40_ hvx40_ px40_ ox40_ fx40_ => ?_) (fun x40_ h42_ ex40_ px40_ ax40_ bx40_ ox40_ fx40_ => ?_)
      · have nx40_ := num_l (by omega) ex40_
        have Tf41_ : mT f41_ T n := mT_p Tg39_ px40_
        have Pf41_ : pF h f41_ := pF_tr Pg39_ (pF_of px40_)
        have Vf41_ : pV f41_ U := pV_p Vg39_ px40_
        have Of41_ : f41_ 205 17 = ((x40_.1 : Nat) : Int) := ox40_
        have Xf41_ : f41_ 205 18 = ((x40_.2 : Nat) : Int) := fx40_
        have E211_f41_ : f41_ 211 k9 = ((x23_.1 : Nat) : Int) := (px40_ 211 k9 (by omega)).trans E211_g39_
        have E212_f41_ : f41_ 212 k9 = ((x32_.1 : Nat) : Int) := (px40_ 212 k9 (by omega)).trans E212_g39_
        refine eR_iast (n := k9) dX9_takeErrand_45 th_213 (rfl) (by omega) (by decide) ?_
        refine eR_aldn_0 dX9_takeErrand_46 rfl ?_
        refine eR_getR (i := 214) dX9_takeErrand_47 gf_X9_35 th_205 rfl ?_
        refine eR_ildn_1 dX9_takeErrand_50 rfl ?_
        refine eR_aldn_0 dX9_takeErrand_51 rfl ?_
        refine eR_ic dX9_takeErrand_52 ?_
        refine eR_bi (z := 23) dX9_takeErrand_53 rfl ?_
        obtain ⟨g43_, hg43_⟩ : ∃ g9, g9 = hU f41_ 213 k9 ↑vx40_ := ⟨_, rfl⟩
        rw [← hg43_]
        have Tg43_ : mT g43_ T n := by rw [hg43_]; exact mT_w Tf41_ (by omega) (by decide)
        have Pg43_ : pF h g43_ := by rw [hg43_]; exact pF_w Pf41_ (by unfold pS; omega)
        have Vg43_ : pV g43_ U := by rw [hg43_]; exact pV_w Vf41_ (by unfold vS; omega)
        have Og43_ : g43_ 205 17 = ((x40_.1 : Nat) : Int) := by rw [hg43_, hU_ne (by omega)]; exact Of41_
        have Xg43_ : g43_ 205 18 = ((x40_.2 : Nat) : Int) := by rw [hg43_, hU_ne (by omega)]; exact Xf41_
        have E211_g43_ : g43_ 211 k9 = ((x23_.1 : Nat) : Int) := by rw [hg43_, hU_ne (by omega)]; exact E211_f41_
        have E212_g43_ : g43_ 212 k9 = ((x32_.1 : Nat) : Int) := by rw [hg43_, hU_ne (by omega)]; exact E212_f41_
        have E213_g43_ : g43_ 213 k9 = ((vx40_ : Nat) : Int) := by rw [hg43_]; exact hU_s _ _ _ _
        refine eR_callVi [_, _] rfl dX9_takeErrand_55 ok_mX9_takeNumber kw_988 rfl rfl th_205 rfl (Nat.le_of_ble_eq_true rfl) (d' := 1) (by decide) (Nat.le_of_ble_eq_true rfl) ?_
        refine sp_takeNumber_f (f := x40_.1) Og43_ (by omega) (by omega) ?_
        refine eR_iast (n := k9) dX9_takeErrand_58 th_214 (rfl) (by omega) (by decide) ?_
        refine eR_aldn_0 dX9_takeErrand_59 rfl ?_
        refine eR_aldn_0 dX9_takeErrand_60 rfl ?_
        refine eR_getR (i := 214) dX9_takeErrand_61 gf_X9_35 th_205 rfl ?_
        refine eR_ildn_1 dX9_takeErrand_64 rfl ?_
        refine eR_iald (n := k9) dX9_takeErrand_65 th_214 (rfl) (by omega) (by decide) ?_
        refine eX_pcI (hU_s _ _ _ _) ?_
        refine eR_aldn_0 dX9_takeErrand_66 rfl ?_
        refine eR_getR (i := 213) dX9_takeErrand_67 gf_X9_32 th_205 rfl ?_
        refine eR_ildn_1 dX9_takeErrand_70 rfl ?_
        refine eR_iald (n := k9) dX9_takeErrand_71 th_213 (rfl) (by omega) (by decide) ?_
        refine eX_pcI (congrFun (hU_a _ _ _ (by decide)) _) ?_
        refine eX_pcI (E213_g43_) ?_
        refine eR_icmp_lt (tgt := 104) dX9_takeErrand_72 (by decide) (by first | exact rg_b01 _ | (unfold rg; omega)) (by first | exact rg_b01 _ | (unfold rg; omega)) (fun c72 => ?_) (fun c72 => ?_)
        · refine eR_ic dX9_takeErrand_104 ?_
          refine eR_ic dX9_takeErrand_105 ?_
          refine eR_aldn_0 dX9_takeErrand_106 rfl ?_
          refine eR_getI dX9_takeErrand_107 gf_X9_92 th_205 rfl ?_
          refine eX_pcI (congrFun (hU_a _ _ _ (by decide)) _) ?_
          obtain ⟨g44_, hg44_⟩ : ∃ g9, g9 = hU g43_ 214 k9 ↑(0 : Nat) := ⟨_, rfl⟩
          rw [← hg44_]
          have Tg44_ : mT g44_ T n := by rw [hg44_]; exact mT_w Tg43_ (by omega) (by decide)
          have Pg44_ : pF h g44_ := by rw [hg44_]; exact pF_w Pg43_ (by unfold pS; omega)
          have Vg44_ : pV g44_ U := by rw [hg44_]; exact pV_w Vg43_ (by unfold vS; omega)
          have Og44_ : g44_ 205 17 = ((x40_.1 : Nat) : Int) := by rw [hg44_, hU_ne (by omega)]; exact Og43_
          have Xg44_ : g44_ 205 18 = ((x40_.2 : Nat) : Int) := by rw [hg44_, hU_ne (by omega)]; exact Xg43_
          have E211_g44_ : g44_ 211 k9 = ((x23_.1 : Nat) : Int) := by rw [hg44_, hU_ne (by omega)]; exact E211_g43_
          have E212_g44_ : g44_ 212 k9 = ((x32_.1 : Nat) : Int) := by rw [hg44_, hU_ne (by omega)]; exact E212_g43_
          have E213_g44_ : g44_ 213 k9 = ((vx40_ : Nat) : Int) := by rw [hg44_, hU_ne (by omega)]; exact E213_g43_
          have E214_g44_ : g44_ 214 k9 = (((0 : Nat) : Nat) : Int) := by rw [hg44_]; exact hU_s _ _ _ _
          refine eR_callVi [_, _, _] rfl dX9_takeErrand_110 ok_mX9_want kw_984 rfl rfl th_205 rfl (Nat.le_of_ble_eq_true rfl) (d' := 0) (by decide) (Nat.le_of_ble_eq_true rfl) ?_
          refine sp_want_f (f := x40_.1) (by unfold rg; omega) Og44_ (by omega) (by omega) ?_
          refine eR_if_eq (tgt := 127) dX9_takeErrand_113 (by decide) (by first | exact rg_b01 _ | (unfold rg; omega)) (fun c113 => ?_) (fun c113 => absurd c113 (by decide))
          refine eR_vret dX9_takeErrand_127 rfl ?_
          refine k g44_ (pE_l (x := (x40_.1, x40_.2)) ?_ Pg44_ Og44_ Xg44_)
          unfold rdG
          simp only [ex23_, ex32_, ex40_] <;> first | rfl | (rw [if_pos (by first | omega | exact Or.inr (by assumption) | exact Or.inl (by omega))]; done) | (rw [if_neg (by first | omega | (rintro (q1 | q1); omega; exact absurd q1 (by assumption)))]; done)
        · refine eR_aldn_0 dX9_takeErrand_75 rfl ?_
          refine eR_aldn_0 dX9_takeErrand_76 rfl ?_
          refine eR_getR (i := 211) dX9_takeErrand_77 gf_X9_26 th_205 rfl ?_
          refine eR_ildn_1 dX9_takeErrand_80 rfl ?_
          refine eR_iald (n := k9) dX9_takeErrand_81 th_211 (rfl) (by omega) (by decide) ?_
          refine eX_pcI (congrFun (hU_a _ _ _ (by decide)) _) ?_
          refine eX_pcI (E211_g43_) ?_
          refine eR_aldn_0 dX9_takeErrand_82 rfl ?_
          refine eR_getR (i := 213) dX9_takeErrand_83 gf_X9_32 th_205 rfl ?_
          refine eR_ildn_1 dX9_takeErrand_86 rfl ?_
          refine eR_iald (n := k9) dX9_takeErrand_87 th_213 (rfl) (by omega) (by decide) ?_
          refine eX_pcI (congrFun (hU_a _ _ _ (by decide)) _) ?_
          refine eX_pcI (E213_g43_) ?_
          refine eR_aldn_0 dX9_takeErrand_88 rfl ?_
          refine eR_getR (i := 214) dX9_takeErrand_89 gf_X9_35 th_205 rfl ?_
          refine eR_ildn_1 dX9_takeErrand_92 rfl ?_
          refine eR_iald (n := k9) dX9_takeErrand_93 th_214 (rfl) (by omega) (by decide) ?_
          refine eX_pcI (hU_s _ _ _ _) ?_
          obtain ⟨g45_, hg45_⟩ : ∃ g9, g9 = hU g43_ 214 k9 ↑(0 : Nat) := ⟨_, rfl⟩
          rw [← hg45_]
          have Tg45_ : mT g45_ T n := by rw [hg45_]; exact mT_w Tg43_ (by omega) (by decide)
          have Pg45_ : pF h g45_ := by rw [hg45_]; exact pF_w Pg43_ (by unfold pS; omega)
          have Vg45_ : pV g45_ U := by rw [hg45_]; exact pV_w Vg43_ (by unfold vS; omega)
          have Og45_ : g45_ 205 17 = ((x40_.1 : Nat) : Int) := by rw [hg45_, hU_ne (by omega)]; exact Og43_
          have Xg45_ : g45_ 205 18 = ((x40_.2 : Nat) : Int) := by rw [hg45_, hU_ne (by omega)]; exact Xg43_
          have E211_g45_ : g45_ 211 k9 = ((x23_.1 : Nat) : Int) := by rw [hg45_, hU_ne (by omega)]; exact E211_g43_
          have E212_g45_ : g45_ 212 k9 = ((x32_.1 : Nat) : Int) := by rw [hg45_, hU_ne (by omega)]; exact E212_g43_
          have E213_g45_ : g45_ 213 k9 = ((vx40_ : Nat) : Int) := by rw [hg45_, hU_ne (by omega)]; exact E213_g43_
          have E214_g45_ : g45_ 214 k9 = (((0 : Nat) : Nat) : Int) := by rw [hg45_]; exact hU_s _ _ _ _
          refine eR_callVi [_, _, _] rfl dX9_takeErrand_94 ok_mX9_isBusy kw_1007 rfl rfl th_205 rfl (Nat.le_of_ble_eq_true rfl) (d' := 0) (by decide) (Nat.le_of_ble_eq_true rfl) ?_
          refine sp_isBusy (p := x23_.1) (a := vx40_) (b := (0 : Nat)) uBh Vg45_ (by omega) (by omega) (by omega) ?_
          refine eR_if_ne (tgt := 104) dX9_takeErrand_97 (by decide) (by first | exact rg_b01 _ | (unfold rg; omega)) (fun c97 => ?_) (fun c97 => ?_)
          · replace c97 := b01_ne0.mp c97
            refine eR_ic dX9_takeErrand_104 ?_
            refine eR_ic dX9_takeErrand_105 ?_
            refine eR_aldn_0 dX9_takeErrand_106 rfl ?_
            refine eR_getI dX9_takeErrand_107 gf_X9_92 th_205 rfl ?_
            refine eR_callVi [_, _, _] rfl dX9_takeErrand_110 ok_mX9_want kw_984 rfl rfl th_205 rfl (Nat.le_of_ble_eq_true rfl) (d' := 0) (by decide) (Nat.le_of_ble_eq_true rfl) ?_
            refine sp_want_f (f := x40_.1) (by unfold rg; omega) Og45_ (by omega) (by omega) ?_
            refine eR_if_eq (tgt := 127) dX9_takeErrand_113 (by decide) (by first | exact rg_b01 _ | (unfold rg; omega)) (fun c113 => ?_) (fun c113 => absurd c113 (by decide))
            refine eR_vret dX9_takeErrand_127 rfl ?_
            refine k g45_ (pE_l (x := (x40_.1, x40_.2)) ?_ Pg45_ Og45_ Xg45_)
            unfold rdG
            simp only [ex23_, ex32_, ex40_] <;> first | rfl | (rw [if_pos (by first | omega | exact Or.inr (by assumption) | exact Or.inl (by omega))]; done) | (rw [if_neg (by first | omega | (rintro (q1 | q1); omega; exact absurd q1 (by assumption)))]; done)
          · replace c97 := b01_eq0.mp c97
            refine eR_ic dX9_takeErrand_100 ?_
            refine eR_goto (tgt := 105) dX9_takeErrand_101 (by decide) ?_
            refine eR_ic dX9_takeErrand_105 ?_
            refine eR_aldn_0 dX9_takeErrand_106 rfl ?_
            refine eR_getI dX9_takeErrand_107 gf_X9_92 th_205 rfl ?_
            refine eR_callVi [_, _, _] rfl dX9_takeErrand_110 ok_mX9_want kw_984 rfl rfl th_205 rfl (Nat.le_of_ble_eq_true rfl) (d' := 0) (by decide) (Nat.le_of_ble_eq_true rfl) ?_
            refine sp_want_f (f := x40_.1) (by unfold rg; omega) Og45_ (by omega) (by omega) ?_
            refine eR_if_eq (tgt := 127) dX9_takeErrand_113 (by decide) (by first | exact rg_b01 _ | (unfold rg; omega)) (fun c113 => ?_) (fun c113 => absurd c113 (by decide))
            refine eR_vret dX9_takeErrand_127 rfl ?_
            refine k g45_ (pE_l (x := (x40_.1, x40_.2)) ?_ Pg45_ Og45_ Xg45_)
            unfold rdG
            simp only [ex23_, ex32_, ex40_] <;> first | rfl | (rw [if_pos (by first | omega | exact Or.inr (by assumption) | exact Or.inl (by omega))]; done) | (rw [if_neg (by first | omega | (rintro (q1 | q1); omega; exact absurd q1 (by assumption)))]; done)
      · have nx40_ := num_r (by omega) ex40_
        have Th42_ : mT h42_ T n := mT_p Tg39_ px40_
        have Ph42_ : pF h h42_ := pF_tr Pg39_ (pF_of px40_)
        have Vh42_ : pV h42_ U := pV_p Vg39_ px40_
        have Ah42_ : h42_ 205 14 = ((x40_.2.2 : Nat) : Int) := ax40_
        have Fh42_ : h42_ 205 15 = ((x40_.2.1 : Nat) : Int) := bx40_
        have Oh42_ : h42_ 205 17 = (0 : Int) := ox40_
        have Xh42_ : h42_ 205 18 = (h 205 18 : Int) := fx40_.trans Xg39_
        have E211_h42_ : h42_ 211 k9 = ((x23_.1 : Nat) : Int) := (px40_ 211 k9 (by omega)).trans E211_g39_
        have E212_h42_ : h42_ 212 k9 = ((x32_.1 : Nat) : Int) := (px40_ 212 k9 (by omega)).trans E212_g39_
        refine eR_iast (n := k9) dX9_takeErrand_45 th_213 (rfl) (by omega) (by decide) ?_
        refine eR_aldn_0 dX9_takeErrand_46 rfl ?_
        refine eR_getR (i := 214) dX9_takeErrand_47 gf_X9_35 th_205 rfl ?_
        refine eR_ildn_1 dX9_takeErrand_50 rfl ?_
        refine eR_aldn_0 dX9_takeErrand_51 rfl ?_
        refine eR_ic dX9_takeErrand_52 ?_
        refine eR_bi (z := 23) dX9_takeErrand_53 rfl ?_
        obtain ⟨g46_, hg46_⟩ : ∃ g9, g9 = hU h42_ 213 k9 ↑x40_.1 := ⟨_, rfl⟩
        rw [← hg46_]
        have Tg46_ : mT g46_ T n := by rw [hg46_]; exact mT_w Th42_ (by omega) (by decide)
        have Pg46_ : pF h g46_ := by rw [hg46_]; exact pF_w Ph42_ (by unfold pS; omega)
        have Vg46_ : pV g46_ U := by rw [hg46_]; exact pV_w Vh42_ (by unfold vS; omega)
        have Ag46_ : g46_ 205 14 = ((x40_.2.2 : Nat) : Int) := by rw [hg46_, hU_ne (by omega)]; exact Ah42_
        have Fg46_ : g46_ 205 15 = ((x40_.2.1 : Nat) : Int) := by rw [hg46_, hU_ne (by omega)]; exact Fh42_
        have Og46_ : g46_ 205 17 = (0 : Int) := by rw [hg46_, hU_ne (by omega)]; exact Oh42_
        have Xg46_ : g46_ 205 18 = (h 205 18 : Int) := by rw [hg46_, hU_ne (by omega)]; exact Xh42_
        have E211_g46_ : g46_ 211 k9 = ((x23_.1 : Nat) : Int) := by rw [hg46_, hU_ne (by omega)]; exact E211_h42_
        have E212_g46_ : g46_ 212 k9 = ((x32_.1 : Nat) : Int) := by rw [hg46_, hU_ne (by omega)]; exact E212_h42_
        have E213_g46_ : g46_ 213 k9 = ((x40_.1 : Nat) : Int) := by rw [hg46_]; exact hU_s _ _ _ _
        refine eR_callVi [_, _] rfl dX9_takeErrand_55 ok_mX9_takeNumber kw_988 rfl rfl th_205 rfl (Nat.le_of_ble_eq_true rfl) (d' := 1) (by decide) (Nat.le_of_ble_eq_true rfl) ?_
        refine sp_takeNumber (i := x40_.2.2) (lo := 0) (hi := 23) B Tg46_ (by omega) (by decide) (by decide) Ag46_ Og46_ (fun x47_ vx47_ f48_ ex47_ hvx47_ px47_ ox47_ fx47_ => ?_) (fun x47_ h49_ ex47_ px47_ ax47_ bx47_ ox47_ fx47_ => ?_)
        · have nx47_ := num_l (by omega) ex47_
          have Tf48_ : mT f48_ T n := mT_p Tg46_ px47_
          have Pf48_ : pF h f48_ := pF_tr Pg46_ (pF_of px47_)
          have Vf48_ : pV f48_ U := pV_p Vg46_ px47_
          have Of48_ : f48_ 205 17 = ((x47_.1 : Nat) : Int) := ox47_
          have Xf48_ : f48_ 205 18 = ((x47_.2 : Nat) : Int) := fx47_
          have E211_f48_ : f48_ 211 k9 = ((x23_.1 : Nat) : Int) := (px47_ 211 k9 (by omega)).trans E211_g46_
          have E212_f48_ : f48_ 212 k9 = ((x32_.1 : Nat) : Int) := (px47_ 212 k9 (by omega)).trans E212_g46_
          have E213_f48_ : f48_ 213 k9 = ((x40_.1 : Nat) : Int) := (px47_ 213 k9 (by omega)).trans E213_g46_
          refine eR_iast (n := k9) dX9_takeErrand_58 th_214 (rfl) (by omega) (by decide) ?_
          refine eR_aldn_0 dX9_takeErrand_59 rfl ?_
          refine eR_aldn_0 dX9_takeErrand_60 rfl ?_
          refine eR_getR (i := 214) dX9_takeErrand_61 gf_X9_35 th_205 rfl ?_
          refine eR_ildn_1 dX9_takeErrand_64 rfl ?_
          refine eR_iald (n := k9) dX9_takeErrand_65 th_214 (rfl) (by omega) (by decide) ?_
          refine eX_pcI (hU_s _ _ _ _) ?_
          refine eR_aldn_0 dX9_takeErrand_66 rfl ?_
          refine eR_getR (i := 213) dX9_takeErrand_67 gf_X9_32 th_205 rfl ?_
          refine eR_ildn_1 dX9_takeErrand_70 rfl ?_
          refine eR_iald (n := k9) dX9_takeErrand_71 th_213 (rfl) (by omega) (by decide) ?_
          refine eX_pcI (congrFun (hU_a _ _ _ (by decide)) _) ?_
          refine eX_pcI (E213_f48_) ?_
          refine eR_icmp_lt (tgt := 104) dX9_takeErrand_72 (by decide) (by first | exact rg_b01 _ | (unfold rg; omega)) (by first | exact rg_b01 _ | (unfold rg; omega)) (fun c72 => ?_) (fun c72 => ?_)
          · refine eR_ic dX9_takeErrand_104 ?_
            refine eR_ic dX9_takeErrand_105 ?_
            refine eR_aldn_0 dX9_takeErrand_106 rfl ?_
            refine eR_getI dX9_takeErrand_107 gf_X9_92 th_205 rfl ?_
            refine eX_pcI (congrFun (hU_a _ _ _ (by decide)) _) ?_
            obtain ⟨g50_, hg50_⟩ : ∃ g9, g9 = hU f48_ 214 k9 ↑vx47_ := ⟨_, rfl⟩
            rw [← hg50_]
            have Tg50_ : mT g50_ T n := by rw [hg50_]; exact mT_w Tf48_ (by omega) (by decide)
            have Pg50_ : pF h g50_ := by rw [hg50_]; exact pF_w Pf48_ (by unfold pS; omega)
            have Vg50_ : pV g50_ U := by rw [hg50_]; exact pV_w Vf48_ (by unfold vS; omega)
            have Og50_ : g50_ 205 17 = ((x47_.1 : Nat) : Int) := by rw [hg50_, hU_ne (by omega)]; exact Of48_
            have Xg50_ : g50_ 205 18 = ((x47_.2 : Nat) : Int) := by rw [hg50_, hU_ne (by omega)]; exact Xf48_
            have E211_g50_ : g50_ 211 k9 = ((x23_.1 : Nat) : Int) := by rw [hg50_, hU_ne (by omega)]; exact E211_f48_
            have E212_g50_ : g50_ 212 k9 = ((x32_.1 : Nat) : Int) := by rw [hg50_, hU_ne (by omega)]; exact E212_f48_
            have E213_g50_ : g50_ 213 k9 = ((x40_.1 : Nat) : Int) := by rw [hg50_, hU_ne (by omega)]; exact E213_f48_
            have E214_g50_ : g50_ 214 k9 = ((vx47_ : Nat) : Int) := by rw [hg50_]; exact hU_s _ _ _ _
            refine eR_callVi [_, _, _] rfl dX9_takeErrand_110 ok_mX9_want kw_984 rfl rfl th_205 rfl (Nat.le_of_ble_eq_true rfl) (d' := 0) (by decide) (Nat.le_of_ble_eq_true rfl) ?_
            refine sp_want_f (f := x47_.1) (by unfold rg; omega) Og50_ (by omega) (by omega) ?_
            refine eR_if_eq (tgt := 127) dX9_takeErrand_113 (by decide) (by first | exact rg_b01 _ | (unfold rg; omega)) (fun c113 => ?_) (fun c113 => absurd c113 (by decide))
            refine eR_vret dX9_takeErrand_127 rfl ?_
            refine k g50_ (pE_l (x := (x47_.1, x47_.2)) ?_ Pg50_ Og50_ Xg50_)
            unfold rdG
            simp only [ex23_, ex32_, ex40_, ex47_] <;> first | rfl | (rw [if_pos (by first | omega | exact Or.inr (by assumption) | exact Or.inl (by omega))]; done) | (rw [if_neg (by first | omega | (rintro (q1 | q1); omega; exact absurd q1 (by assumption)))]; done)
          · refine eR_aldn_0 dX9_takeErrand_75 rfl ?_
            refine eR_aldn_0 dX9_takeErrand_76 rfl ?_
            refine eR_getR (i := 211) dX9_takeErrand_77 gf_X9_26 th_205 rfl ?_
            refine eR_ildn_1 dX9_takeErrand_80 rfl ?_
            refine eR_iald (n := k9) dX9_takeErrand_81 th_211 (rfl) (by omega) (by decide) ?_
            refine eX_pcI (congrFun (hU_a _ _ _ (by decide)) _) ?_
            refine eX_pcI (E211_f48_) ?_
            refine eR_aldn_0 dX9_takeErrand_82 rfl ?_
            refine eR_getR (i := 213) dX9_takeErrand_83 gf_X9_32 th_205 rfl ?_
            refine eR_ildn_1 dX9_takeErrand_86 rfl ?_
            refine eR_iald (n := k9) dX9_takeErrand_87 th_213 (rfl) (by omega) (by decide) ?_
            refine eX_pcI (congrFun (hU_a _ _ _ (by decide)) _) ?_
            refine eX_pcI (E213_f48_) ?_
            refine eR_aldn_0 dX9_takeErrand_88 rfl ?_
            refine eR_getR (i := 214) dX9_takeErrand_89 gf_X9_35 th_205 rfl ?_
            refine eR_ildn_1 dX9_takeErrand_92 rfl ?_
            refine eR_iald (n := k9) dX9_takeErrand_93 th_214 (rfl) (by omega) (by decide) ?_
            refine eX_pcI (hU_s _ _ _ _) ?_
            obtain ⟨g51_, hg51_⟩ : ∃ g9, g9 = hU f48_ 214 k9 ↑vx47_ := ⟨_, rfl⟩
            rw [← hg51_]
            have Tg51_ : mT g51_ T n := by rw [hg51_]; exact mT_w Tf48_ (by omega) (by decide)
            have Pg51_ : pF h g51_ := by rw [hg51_]; exact pF_w Pf48_ (by unfold pS; omega)
            have Vg51_ : pV g51_ U := by rw [hg51_]; exact pV_w Vf48_ (by unfold vS; omega)
            have Og51_ : g51_ 205 17 = ((x47_.1 : Nat) : Int) := by rw [hg51_, hU_ne (by omega)]; exact Of48_
            have Xg51_ : g51_ 205 18 = ((x47_.2 : Nat) : Int) := by rw [hg51_, hU_ne (by omega)]; exact Xf48_
            have E211_g51_ : g51_ 211 k9 = ((x23_.1 : Nat) : Int) := by rw [hg51_, hU_ne (by omega)]; exact E211_f48_
            have E212_g51_ : g51_ 212 k9 = ((x32_.1 : Nat) : Int) := by rw [hg51_, hU_ne (by omega)]; exact E212_f48_
            have E213_g51_ : g51_ 213 k9 = ((x40_.1 : Nat) : Int) := by rw [hg51_, hU_ne (by omega)]; exact E213_f48_
            have E214_g51_ : g51_ 214 k9 = ((vx47_ : Nat) : Int) := by rw [hg51_]; exact hU_s _ _ _ _
            refine eR_callVi [_, _, _] rfl dX9_takeErrand_94 ok_mX9_isBusy kw_1007 rfl rfl th_205 rfl (Nat.le_of_ble_eq_true rfl) (d' := 0) (by decide) (Nat.le_of_ble_eq_true rfl) ?_
            refine sp_isBusy (p := x23_.1) (a := x40_.1) (b := vx47_) uBh Vg51_ (by omega) (by omega) (by omega) ?_
            refine eR_if_ne (tgt := 104) dX9_takeErrand_97 (by decide) (by first | exact rg_b01 _ | (unfold rg; omega)) (fun c97 => ?_) (fun c97 => ?_)
            · replace c97 := b01_ne0.mp c97
              refine eR_ic dX9_takeErrand_104 ?_
              refine eR_ic dX9_takeErrand_105 ?_
              refine eR_aldn_0 dX9_takeErrand_106 rfl ?_
              refine eR_getI dX9_takeErrand_107 gf_X9_92 th_205 rfl ?_
              refine eR_callVi [_, _, _] rfl dX9_takeErrand_110 ok_mX9_want kw_984 rfl rfl th_205 rfl (Nat.le_of_ble_eq_true rfl) (d' := 0) (by decide) (Nat.le_of_ble_eq_true rfl) ?_
              refine sp_want_f (f := x47_.1) (by unfold rg; omega) Og51_ (by omega) (by omega) ?_
              refine eR_if_eq (tgt := 127) dX9_takeErrand_113 (by decide) (by first | exact rg_b01 _ | (unfold rg; omega)) (fun c113 => ?_) (fun c113 => absurd c113 (by decide))
              refine eR_vret dX9_takeErrand_127 rfl ?_
              refine k g51_ (pE_l (x := (x47_.1, x47_.2)) ?_ Pg51_ Og51_ Xg51_)
              unfold rdG
              simp only [ex23_, ex32_, ex40_, ex47_] <;> first | rfl | (rw [if_pos (by first | omega | exact Or.inr (by assumption) | exact Or.inl (by omega))]; done) | (rw [if_neg (by first | omega | (rintro (q1 | q1); omega; exact absurd q1 (by assumption)))]; done)
            · replace c97 := b01_eq0.mp c97
              refine eR_ic dX9_takeErrand_100 ?_
              refine eR_goto (tgt := 105) dX9_takeErrand_101 (by decide) ?_
              refine eR_ic dX9_takeErrand_105 ?_
              refine eR_aldn_0 dX9_takeErrand_106 rfl ?_
              refine eR_getI dX9_takeErrand_107 gf_X9_92 th_205 rfl ?_
              refine eR_callVi [_, _, _] rfl dX9_takeErrand_110 ok_mX9_want kw_984 rfl rfl th_205 rfl (Nat.le_of_ble_eq_true rfl) (d' := 0) (by decide) (Nat.le_of_ble_eq_true rfl) ?_
              refine sp_want_f (f := x47_.1) (by unfold rg; omega) Og51_ (by omega) (by omega) ?_
              refine eR_if_eq (tgt := 127) dX9_takeErrand_113 (by decide) (by first | exact rg_b01 _ | (unfold rg; omega)) (fun c113 => ?_) (fun c113 => absurd c113 (by decide))
              refine eR_vret dX9_takeErrand_127 rfl ?_
              refine k g51_ (pE_l (x := (x47_.1, x47_.2)) ?_ Pg51_ Og51_ Xg51_)
              unfold rdG
              simp only [ex23_, ex32_, ex40_, ex47_] <;> first | rfl | (rw [if_pos (by first | omega | exact Or.inr (by assumption) | exact Or.inl (by omega))]; done) | (rw [if_neg (by first | omega | (rintro (q1 | q1); omega; exact absurd q1 (by assumption)))]; done)
        · have nx47_ := num_r (by omega) ex47_
          have Th49_ : mT h49_ T n := mT_p Tg46_ px47_
          have Ph49_ : pF h h49_ := pF_tr Pg46_ (pF_of px47_)
          have Vh49_ : pV h49_ U := pV_p Vg46_ px47_
          have Ah49_ : h49_ 205 14 = ((x47_.2.2 : Nat) : Int) := ax47_
          have Fh49_ : h49_ 205 15 = ((x47_.2.1 : Nat) : Int) := bx47_
          have Oh49_ : h49_ 205 17 = (0 : Int) := ox47_
          have Xh49_ : h49_ 205 18 = (h 205 18 : Int) := fx47_.trans Xg46_
          have E211_h49_ : h49_ 211 k9 = ((x23_.1 : Nat) : Int) := (px47_ 211 k9 (by omega)).trans E211_g46_
          have E212_h49_ : h49_ 212 k9 = ((x32_.1 : Nat) : Int) := (px47_ 212 k9 (by omega)).trans E212_g46_
          have E213_h49_ : h49_ 213 k9 = ((x40_.1 : Nat) : Int) := (px47_ 213 k9 (by omega)).trans E213_g46_
          refine eR_iast (n := k9) dX9_takeErrand_58 th_214 (rfl) (by omega) (by decide) ?_
          refine eR_aldn_0 dX9_takeErrand_59 rfl ?_
          refine eR_aldn_0 dX9_takeErrand_60 rfl ?_
          refine eR_getR (i := 214) dX9_takeErrand_61 gf_X9_35 th_205 rfl ?_
          refine eR_ildn_1 dX9_takeErrand_64 rfl ?_
          refine eR_iald (n := k9) dX9_takeErrand_65 th_214 (rfl) (by omega) (by decide) ?_
          refine eX_pcI (hU_s _ _ _ _) ?_
          refine eR_aldn_0 dX9_takeErrand_66 rfl ?_
          refine eR_getR (i := 213) dX9_takeErrand_67 gf_X9_32 th_205 rfl ?_
          refine eR_ildn_1 dX9_takeErrand_70 rfl ?_
          refine eR_iald (n := k9) dX9_takeErrand_71 th_213 (rfl) (by omega) (by decide) ?_
          refine eX_pcI (congrFun (hU_a _ _ _ (by decide)) _) ?_
          refine eX_pcI (E213_h49_) ?_
          refine eR_icmp_lt (tgt := 104) dX9_takeErrand_72 (by decide) (by first | exact rg_b01 _ | (unfold rg; omega)) (by first | exact rg_b01 _ | (unfold rg; omega)) (fun c72 => ?_) (fun c72 => ?_)
          · refine eR_ic dX9_takeErrand_104 ?_
            refine eR_ic dX9_takeErrand_105 ?_
            refine eR_aldn_0 dX9_takeErrand_106 rfl ?_
            refine eR_getI dX9_takeErrand_107 gf_X9_92 th_205 rfl ?_
            refine eX_pcI (congrFun (hU_a _ _ _ (by decide)) _) ?_
            refine eX_pcI (Fh49_) ?_
            obtain ⟨g52_, hg52_⟩ : ∃ g9, g9 = hU h49_ 214 k9 ↑x47_.1 := ⟨_, rfl⟩
            rw [← hg52_]
            have Tg52_ : mT g52_ T n := by rw [hg52_]; exact mT_w Th49_ (by omega) (by decide)
            have Pg52_ : pF h g52_ := by rw [hg52_]; exact pF_w Ph49_ (by unfold pS; omega)
            have Vg52_ : pV g52_ U := by rw [hg52_]; exact pV_w Vh49_ (by unfold vS; omega)
            have Ag52_ : g52_ 205 14 = ((x47_.2.2 : Nat) : Int) := by rw [hg52_, hU_ne (by omega)]; exact Ah49_
            have Fg52_ : g52_ 205 15 = ((x47_.2.1 : Nat) : Int) := by rw [hg52_, hU_ne (by omega)]; exact Fh49_
            have Og52_ : g52_ 205 17 = (0 : Int) := by rw [hg52_, hU_ne (by omega)]; exact Oh49_
            have Xg52_ : g52_ 205 18 = (h 205 18 : Int) := by rw [hg52_, hU_ne (by omega)]; exact Xh49_
            have E211_g52_ : g52_ 211 k9 = ((x23_.1 : Nat) : Int) := by rw [hg52_, hU_ne (by omega)]; exact E211_h49_
            have E212_g52_ : g52_ 212 k9 = ((x32_.1 : Nat) : Int) := by rw [hg52_, hU_ne (by omega)]; exact E212_h49_
            have E213_g52_ : g52_ 213 k9 = ((x40_.1 : Nat) : Int) := by rw [hg52_, hU_ne (by omega)]; exact E213_h49_
            have E214_g52_ : g52_ 214 k9 = ((x47_.1 : Nat) : Int) := by rw [hg52_]; exact hU_s _ _ _ _
            refine eR_callVi [_, _, _] rfl dX9_takeErrand_110 ok_mX9_want kw_984 rfl rfl th_205 rfl (Nat.le_of_ble_eq_true rfl) (d' := 0) (by decide) (Nat.le_of_ble_eq_true rfl) ?_
            refine sp_want_n (nb := 4) Og52_ (by decide) (by decide) ?_
            refine eR_if_eq (tgt := 127) dX9_takeErrand_113 (by decide) (by first | exact rg_b01 _ | (unfold rg; omega)) (fun c113 => ?_) (fun c113 => absurd c113 (by decide))
            refine eR_vret dX9_takeErrand_127 rfl ?_
            obtain ⟨g53_, hg53_⟩ : ∃ g9, g9 = hU g52_ 205 17 ↑(4 : Nat) := ⟨_, rfl⟩
            rw [← hg53_]
            have Tg53_ : mT g53_ T n := by rw [hg53_]; exact mT_w Tg52_ (by omega) (by decide)
            have Pg53_ : pF h g53_ := by rw [hg53_]; exact pF_w Pg52_ (by unfold pS; omega)
            have Vg53_ : pV g53_ U := by rw [hg53_]; exact pV_w Vg52_ (by unfold vS; omega)
            have Ag53_ : g53_ 205 14 = ((x47_.2.2 : Nat) : Int) := by rw [hg53_, hU_ne (by omega)]; exact Ag52_
            have Fg53_ : g53_ 205 15 = ((x47_.2.1 : Nat) : Int) := by rw [hg53_, hU_ne (by omega)]; exact Fg52_
            have Og53_ : g53_ 205 17 = (((4 : Nat) : Nat) : Int) := by rw [hg53_]; exact hU_s _ _ _ _
            have Xg53_ : g53_ 205 18 = (h 205 18 : Int) := by rw [hg53_, hU_ne (by omega)]; exact Xg52_
            have E211_g53_ : g53_ 211 k9 = ((x23_.1 : Nat) : Int) := by rw [hg53_, hU_ne (by omega)]; exact E211_g52_
            have E212_g53_ : g53_ 212 k9 = ((x32_.1 : Nat) : Int) := by rw [hg53_, hU_ne (by omega)]; exact E212_g52_
            have E213_g53_ : g53_ 213 k9 = ((x40_.1 : Nat) : Int) := by rw [hg53_, hU_ne (by omega)]; exact E213_g52_
            have E214_g53_ : g53_ 214 k9 = ((x47_.1 : Nat) : Int) := by rw [hg53_, hU_ne (by omega)]; exact E214_g52_
            obtain ⟨g54_, hg54_⟩ : ∃ g9, g9 = hU g53_ 205 18 ↑x47_.2.1 := ⟨_, rfl⟩
            rw [← hg54_]
            have Tg54_ : mT g54_ T n := by rw [hg54_]; exact mT_w Tg53_ (by omega) (by decide)
            have Pg54_ : pF h g54_ := by rw [hg54_]; exact pF_w Pg53_ (by unfold pS; omega)
            have Vg54_ : pV g54_ U := by rw [hg54_]; exact pV_w Vg53_ (by unfold vS; omega)
            have Ag54_ : g54_ 205 14 = ((x47_.2.2 : Nat) : Int) := by rw [hg54_, hU_ne (by omega)]; exact Ag53_
            have Fg54_ : g54_ 205 15 = ((x47_.2.1 : Nat) : Int) := by rw [hg54_, hU_ne (by omega)]; exact Fg53_
            have Og54_ : g54_ 205 17 = (((4 : Nat) : Nat) : Int) := by rw [hg54_, hU_ne (by omega)]; exact Og53_
            have Xg54_ : g54_ 205 18 = ((x47_.2.1 : Nat) : Int) := by rw [hg54_]; exact hU_s _ _ _ _
            have E211_g54_ : g54_ 211 k9 = ((x23_.1 : Nat) : Int) := by rw [hg54_, hU_ne (by omega)]; exact E211_g53_
            have E212_g54_ : g54_ 212 k9 = ((x32_.1 : Nat) : Int) := by rw [hg54_, hU_ne (by omega)]; exact E212_g53_
            have E213_g54_ : g54_ 213 k9 = ((x40_.1 : Nat) : Int) := by rw [hg54_, hU_ne (by omega)]; exact E213_g53_
            have E214_g54_ : g54_ 214 k9 = ((x47_.1 : Nat) : Int) := by rw [hg54_, hU_ne (by omega)]; exact E214_g53_
            refine k g54_ (pE_l (x := ((4 : Nat), x47_.2.1)) ?_ Pg54_ Og54_ Xg54_)
            unfold rdG
            simp only [ex23_, ex32_, ex40_, ex47_] <;> first | rfl | (rw [if_pos (by first | omega | exact Or.inr (by assumption) | exact Or.inl (by omega))]; done) | (rw [if_neg (by first | omega | (rintro (q1 | q1); omega; exact absurd q1 (by assumption)))]; done)
          · refine eR_aldn_0 dX9_takeErrand_75 rfl ?_
            refine eR_aldn_0 dX9_takeErrand_76 rfl ?_
            refine eR_getR (i := 211) dX9_takeErrand_77 gf_X9_26 th_205 rfl ?_
            refine eR_ildn_1 dX9_takeErrand_80 rfl ?_
            refine eR_iald (n := k9) dX9_takeErrand_81 th_211 (rfl) (by omega) (by decide) ?_
            refine eX_pcI (congrFun (hU_a _ _ _ (by decide)) _) ?_
            refine eX_pcI (E211_h49_) ?_
            refine eR_aldn_0 dX9_takeErrand_82 rfl ?_
            refine eR_getR (i := 213) dX9_takeErrand_83 gf_X9_32 th_205 rfl ?_
            refine eR_ildn_1 dX9_takeErrand_86 rfl ?_
            refine eR_iald (n := k9) dX9_takeErrand_87 th_213 (rfl) (by omega) (by decide) ?_
            refine eX_pcI (congrFun (hU_a _ _ _ (by decide)) _) ?_
            refine eX_pcI (E213_h49_) ?_
            refine eR_aldn_0 dX9_takeErrand_88 rfl ?_
            refine eR_getR (i := 214) dX9_takeErrand_89 gf_X9_35 th_205 rfl ?_
            refine eR_ildn_1 dX9_takeErrand_92 rfl ?_
            refine eR_iald (n := k9) dX9_takeErrand_93 th_214 (rfl) (by omega) (by decide) ?_
            refine eX_pcI (hU_s _ _ _ _) ?_
            obtain ⟨g55_, hg55_⟩ : ∃ g9, g9 = hU h49_ 214 k9 ↑x47_.1 := ⟨_, rfl⟩
            rw [← hg55_]
            have Tg55_ : mT g55_ T n := by rw [hg55_]; exact mT_w Th49_ (by omega) (by decide)
            have Pg55_ : pF h g55_ := by rw [hg55_]; exact pF_w Ph49_ (by unfold pS; omega)
            have Vg55_ : pV g55_ U := by rw [hg55_]; exact pV_w Vh49_ (by unfold vS; omega)
            have Ag55_ : g55_ 205 14 = ((x47_.2.2 : Nat) : Int) := by rw [hg55_, hU_ne (by omega)]; exact Ah49_
            have Fg55_ : g55_ 205 15 = ((x47_.2.1 : Nat) : Int) := by rw [hg55_, hU_ne (by omega)]; exact Fh49_
            have Og55_ : g55_ 205 17 = (0 : Int) := by rw [hg55_, hU_ne (by omega)]; exact Oh49_
            have Xg55_ : g55_ 205 18 = (h 205 18 : Int) := by rw [hg55_, hU_ne (by omega)]; exact Xh49_
            have E211_g55_ : g55_ 211 k9 = ((x23_.1 : Nat) : Int) := by rw [hg55_, hU_ne (by omega)]; exact E211_h49_
            have E212_g55_ : g55_ 212 k9 = ((x32_.1 : Nat) : Int) := by rw [hg55_, hU_ne (by omega)]; exact E212_h49_
            have E213_g55_ : g55_ 213 k9 = ((x40_.1 : Nat) : Int) := by rw [hg55_, hU_ne (by omega)]; exact E213_h49_
            have E214_g55_ : g55_ 214 k9 = ((x47_.1 : Nat) : Int) := by rw [hg55_]; exact hU_s _ _ _ _
            refine eR_callVi [_, _, _] rfl dX9_takeErrand_94 ok_mX9_isBusy kw_1007 rfl rfl th_205 rfl (Nat.le_of_ble_eq_true rfl) (d' := 0) (by decide) (Nat.le_of_ble_eq_true rfl) ?_
            refine sp_isBusy (p := x23_.1) (a := x40_.1) (b := x47_.1) uBh Vg55_ (by omega) (by omega) (by omega) ?_
            refine eR_if_ne (tgt := 104) dX9_takeErrand_97 (by decide) (by first | exact rg_b01 _ | (unfold rg; omega)) (fun c97 => ?_) (fun c97 => ?_)
            · replace c97 := b01_ne0.mp c97
              refine eR_ic dX9_takeErrand_104 ?_
              refine eR_ic dX9_takeErrand_105 ?_
              refine eR_aldn_0 dX9_takeErrand_106 rfl ?_
              refine eR_getI dX9_takeErrand_107 gf_X9_92 th_205 rfl ?_
              refine eX_pcI (Fg55_) ?_
              refine eR_callVi [_, _, _] rfl dX9_takeErrand_110 ok_mX9_want kw_984 rfl rfl th_205 rfl (Nat.le_of_ble_eq_true rfl) (d' := 0) (by decide) (Nat.le_of_ble_eq_true rfl) ?_
              refine sp_want_n (nb := 4) Og55_ (by decide) (by decide) ?_
              refine eR_if_eq (tgt := 127) dX9_takeErrand_113 (by decide) (by first | exact rg_b01 _ | (unfold rg; omega)) (fun c113 => ?_) (fun c113 => absurd c113 (by decide))
              refine eR_vret dX9_takeErrand_127 rfl ?_
              obtain ⟨g56_, hg56_⟩ : ∃ g9, g9 = hU g55_ 205 17 ↑(4 : Nat) := ⟨_, rfl⟩
              rw [← hg56_]
              have Tg56_ : mT g56_ T n := by rw [hg56_]; exact mT_w Tg55_ (by omega) (by decide)
              have Pg56_ : pF h g56_ := by rw [hg56_]; exact pF_w Pg55_ (by unfold pS; omega)
              have Vg56_ : pV g56_ U := by rw [hg56_]; exact pV_w Vg55_ (by unfold vS; omega)
              have Ag56_ : g56_ 205 14 = ((x47_.2.2 : Nat) : Int) := by rw [hg56_, hU_ne (by omega)]; exact Ag55_
              have Fg56_ : g56_ 205 15 = ((x47_.2.1 : Nat) : Int) := by rw [hg56_, hU_ne (by omega)]; exact Fg55_
              have Og56_ : g56_ 205 17 = (((4 : Nat) : Nat) : Int) := by rw [hg56_]; exact hU_s _ _ _ _
              have Xg56_ : g56_ 205 18 = (h 205 18 : Int) := by rw [hg56_, hU_ne (by omega)]; exact Xg55_
              have E211_g56_ : g56_ 211 k9 = ((x23_.1 : Nat) : Int) := by rw [hg56_, hU_ne (by omega)]; exact E211_g55_
              have E212_g56_ : g56_ 212 k9 = ((x32_.1 : Nat) : Int) := by rw [hg56_, hU_ne (by omega)]; exact E212_g55_
              have E213_g56_ : g56_ 213 k9 = ((x40_.1 : Nat) : Int) := by rw [hg56_, hU_ne (by omega)]; exact E213_g55_
              have E214_g56_ : g56_ 214 k9 = ((x47_.1 : Nat) : Int) := by rw [hg56_, hU_ne (by omega)]; exact E214_g55_
              obtain ⟨g57_, hg57_⟩ : ∃ g9, g9 = hU g56_ 205 18 ↑x47_.2.1 := ⟨_, rfl⟩
              rw [← hg57_]
              have Tg57_ : mT g57_ T n := by rw [hg57_]; exact mT_w Tg56_ (by omega) (by decide)
              have Pg57_ : pF h g57_ := by rw [hg57_]; exact pF_w Pg56_ (by unfold pS; omega)
              have Vg57_ : pV g57_ U := by rw [hg57_]; exact pV_w Vg56_ (by unfold vS; omega)
              have Ag57_ : g57_ 205 14 = ((x47_.2.2 : Nat) : Int) := by rw [hg57_, hU_ne (by omega)]; exact Ag56_
              have Fg57_ : g57_ 205 15 = ((x47_.2.1 : Nat) : Int) := by rw [hg57_, hU_ne (by omega)]; exact Fg56_
              have Og57_ : g57_ 205 17 = (((4 : Nat) : Nat) : Int) := by rw [hg57_, hU_ne (by omega)]; exact Og56_
              have Xg57_ : g57_ 205 18 = ((x47_.2.1 : Nat) : Int) := by rw [hg57_]; exact hU_s _ _ _ _
              have E211_g57_ : g57_ 211 k9 = ((x23_.1 : Nat) : Int) := by rw [hg57_, hU_ne (by omega)]; exact E211_g56_
              have E212_g57_ : g57_ 212 k9 = ((x32_.1 : Nat) : Int) := by rw [hg57_, hU_ne (by omega)]; exact E212_g56_
              have E213_g57_ : g57_ 213 k9 = ((x40_.1 : Nat) : Int) := by rw [hg57_, hU_ne (by omega)]; exact E213_g56_
              have E214_g57_ : g57_ 214 k9 = ((x47_.1 : Nat) : Int) := by rw [hg57_, hU_ne (by omega)]; exact E214_g56_
              refine k g57_ (pE_l (x := ((4 : Nat), x47_.2.1)) ?_ Pg57_ Og57_ Xg57_)
              unfold rdG
              simp only [ex23_, ex32_, ex40_, ex47_] <;> first | rfl | (rw [if_pos (by first | omega | exact Or.inr (by assumption) | exact Or.inl (by omega))]; done) | (rw [if_neg (by first | omega | (rintro (q1 | q1); omega; exact absurd q1 (by assumption)))]; done)
            · replace c97 := b01_eq0.mp c97
              refine eR_ic dX9_takeErrand_100 ?_
              refine eR_goto (tgt := 105) dX9_takeErrand_101 (by decide) ?_
              refine eR_ic dX9_takeErrand_105 ?_
              refine eR_aldn_0 dX9_takeErrand_106 rfl ?_
              refine eR_getI dX9_takeErrand_107 gf_X9_92 th_205 rfl ?_
              refine eX_pcI (Fg55_) ?_
              refine eR_callVi [_, _, _] rfl dX9_takeErrand_110 ok_mX9_want kw_984 rfl rfl th_205 rfl (Nat.le_of_ble_eq_true rfl) (d' := 0) (by decide) (Nat.le_of_ble_eq_true rfl) ?_
              refine sp_want_y (nb := 4) Og55_ ?_
              refine eR_if_eq (tgt := 127) dX9_takeErrand_113 (by decide) (by first | exact rg_b01 _ | (unfold rg; omega)) (fun c113 => absurd c113 (by decide)) (fun c113 => ?_)
              refine eR_aldn_0 dX9_takeErrand_116 rfl ?_
              refine eR_getR (i := 217) dX9_takeErrand_117 gf_X9_44 th_205 rfl ?_
              refine eR_bi (z := 6) dX9_takeErrand_120 rfl ?_
              refine eR_dup2 dX9_takeErrand_122 rfl rfl ?_
              refine eR_iald (n := 6) dX9_takeErrand_123 th_217 (rfl) (by decide) (by decide) ?_
              refine eX_pcI (Vg55_.2.2.1) ?_
              refine eR_ic dX9_takeErrand_124 ?_
              refine eR_iadd dX9_takeErrand_125 ?_
              refine eR_iast (n := 6) dX9_takeErrand_126 th_217 (rfl) (by decide) (by decide) ?_
              refine eR_vret dX9_takeErrand_127 rfl ?_
              refine k _ (pE_r (U := uO U (adE U.1 (x23_.1) (x32_.1) (x40_.1) (x47_.1))) (j := x47_.2.2) ?_ (pF_w Pg55_ (by unfold pS; omega)) (pV_adE Vg55_ (by rw [← hk9]; exact E211_g55_) (by rw [← hk9]; exact E212_g55_) (by rw [← hk9]; exact E213_g55_) (by rw [← hk9]; exact E214_g55_)) ((hU_ne (by omega)).trans Ag55_) ((hU_ne (by omega)).trans Og55_) ((hU_ne (by omega)).trans Xg55_))
              unfold rdG
              simp only [ex23_, ex32_, ex40_, ex47_] <;> first | rfl | (rw [if_neg (by first | omega | (rintro (q1 | q1); omega; exact absurd q1 (by assumption)))]; done)
theorem sp_takeLike (B : tB T n) (Th : mT h T n) (uBh : uB U) (Vh : pV h U) {i : Nat} (hin : i ≤ n) (Ah : h 205 14 = (i : Int)) (Oh : h 205 17 = 0) (hP : 1 ≤ sP U.1) (k : ∀ h1 : PH, pE h h1 (rdL T n U i) → Q .null (tau t s) h1) : eX g 3 mX9_takeLike 0 (lv_args 0 [.ref (gA g 205)]) [] (tau t s) h Q := by
  show eX g 3 mX9_takeLike 0 [(0, .ref (gA g 205))] [] (tau t s) h Q
  have hn9 := B.1
  have hb8 := uBh.1.1
  have hbC := uBh.1.2.1
  have hbE := uBh.1.2.2.1
  have hbL := uBh.2.2.1
  have hbF := uBh.2.2.2
  have Xh : h 205 18 = h 205 18 := rfl
  have Ph := pF_rf h
  have Nh := Vh.2.2.2.2.2.2.1
  refine eR_aldn_0 dX9_takeLike_0 rfl ?_
  refine eR_callVi [] rfl dX9_takeLike_1 ok_mX9_takePerson kw_999 rfl rfl th_205 rfl (Nat.le_of_ble_eq_true rfl) (d' := 2) (by decide) (Nat.le_of_ble_eq_true rfl) ?_
  refine sp_takePerson (i := i) (p9 := sP U.1) B Th (by omega) (by omega) (by omega) Vh.1 Ah Oh (fun x58_ vx58_ f59_ ex58_ hvx58_ px58_ ox58_ fx58_ => ?_) (fun x58_ h60_ ex58_ px58_ ax58_ bx58_ ox58_ fx58_ => ?_)
  · have nx58_ := num_l (by omega) ex58_
    have Tf59_ : mT f59_ T n := mT_p Th px58_
    have Pf59_ : pF h f59_ := pF_tr Ph (pF_of px58_)
    have Vf59_ : pV f59_ U := pV_p Vh px58_
    have Of59_ : f59_ 205 17 = ((x58_.1 : Nat) : Int) := ox58_
    have Xf59_ : f59_ 205 18 = ((x58_.2 : Nat) : Int) := fx58_
    have Nf59_ : f59_ 205 19 = ((U.2.1 : Nat) : Int) := (px58_ 205 19 (by omega)).trans Nh
    refine eR_istn_n1 dX9_takeLike_4 rfl (by decide) rfl ?_
    refine eR_aldn_0 dX9_takeLike_5 rfl ?_
    refine eR_callVi [] rfl dX9_takeLike_6 ok_mX9_takePerson kw_999 rfl rfl th_205 rfl (Nat.le_of_ble_eq_true rfl) (d' := 2) (by decide) (Nat.le_of_ble_eq_true rfl) ?_
    refine sp_takePerson_f (f := x58_.1) Of59_ (by omega) (by omega) ?_
    refine eR_istn_n2 dX9_takeLike_9 rfl (by decide) rfl ?_
    refine eR_aldn_0 dX9_takeLike_10 rfl ?_
    refine eR_getI dX9_takeLike_11 gf_X9_85 th_205 rfl ?_
    refine eX_pcI (Of59_) ?_
    refine eR_if_ne (tgt := 96) dX9_takeLike_14 (by decide) (by first | exact rg_b01 _ | (unfold rg; omega)) (fun c14 => ?_) (fun c14 => absurd c14 (by omega))
    refine eR_vret dX9_takeLike_96 rfl ?_
    refine k f59_ (pE_l (x := (x58_.1, x58_.2)) ?_ Pf59_ Of59_ Xf59_)
    unfold rdL
    simp only [ex58_] <;> first | rfl | (rw [if_pos (by first | omega | exact Or.inr (by assumption) | exact Or.inl (by omega))]; done) | (rw [if_neg (by first | omega | (rintro (q1 | q1); omega; exact absurd q1 (by assumption)))]; done)
  · have nx58_ := num_r (by omega) ex58_
    have Th60_ : mT h60_ T n := mT_p Th px58_
    have Ph60_ : pF h h60_ := pF_tr Ph (pF_of px58_)
    have Vh60_ : pV h60_ U := pV_p Vh px58_
    have Ah60_ : h60_ 205 14 = ((x58_.2.2 : Nat) : Int) := ax58_
    have Fh60_ : h60_ 205 15 = ((x58_.2.1 : Nat) : Int) := bx58_
    have Oh60_ : h60_ 205 17 = (0 : Int) := ox58_
    have Xh60_ : h60_ 205 18 = (h 205 18 : Int) := fx58_.trans Xh
    have Nh60_ : h60_ 205 19 = ((U.2.1 : Nat) : Int) := (px58_ 205 19 (by omega)).trans Nh
    refine eR_istn_n1 dX9_takeLike_4 rfl (by decide) rfl ?_
    refine eR_aldn_0 dX9_takeLike_5 rfl ?_
    refine eR_callVi [] rfl dX9_takeLike_6 ok_mX9_takePerson kw_999 rfl rfl th_205 rfl (Nat.le_of_ble_eq_true rfl) (d' := 2) (by decide) (Nat.le_of_ble_eq_true rfl) ?_
    refine sp_takePerson (i := x58_.2.2) (p9 := sP U.1) B Th60_ (by omega) (by omega) (by omega) Vh60_.1 Ah60_ Oh60_ (fun x61_ vx61_ f62_ ex61_ hvx61_ px61_ ox61_ fx61_ => ?_) (fun x61_ h63_ ex61_ px61_ ax61_ bx61_ ox61_ fx61_ => ?_)
    · have nx61_ := num_l (by omega) ex61_
      have Tf62_ : mT f62_ T n := mT_p Th60_ px61_
      have Pf62_ : pF h f62_ := pF_tr Ph60_ (pF_of px61_)
      have Vf62_ : pV f62_ U := pV_p Vh60_ px61_
      have Of62_ : f62_ 205 17 = ((x61_.1 : Nat) : Int) := ox61_
      have Xf62_ : f62_ 205 18 = ((x61_.2 : Nat) : Int) := fx61_
      have Nf62_ : f62_ 205 19 = ((U.2.1 : Nat) : Int) := (px61_ 205 19 (by omega)).trans Nh60_
      refine eR_istn_n2 dX9_takeLike_9 rfl (by decide) rfl ?_
      refine eR_aldn_0 dX9_takeLike_10 rfl ?_
      refine eR_getI dX9_takeLike_11 gf_X9_85 th_205 rfl ?_
      refine eX_pcI (Of62_) ?_
      refine eR_if_ne (tgt := 96) dX9_takeLike_14 (by decide) (by first | exact rg_b01 _ | (unfold rg; omega)) (fun c14 => ?_) (fun c14 => absurd c14 (by omega))
      refine eR_vret dX9_takeLike_96 rfl ?_
      refine k f62_ (pE_l (x := (x61_.1, x61_.2)) ?_ Pf62_ Of62_ Xf62_)
      unfold rdL
      simp only [ex58_, ex61_] <;> first | rfl | (rw [if_pos (by first | omega | exact Or.inr (by assumption) | exact Or.inl (by omega))]; done) | (rw [if_neg (by first | omega | (rintro (q1 | q1); omega; exact absurd q1 (by assumption)))]; done)
    · have nx61_ := num_r (by omega) ex61_
      have Th63_ : mT h63_ T n := mT_p Th60_ px61_
      have Ph63_ : pF h h63_ := pF_tr Ph60_ (pF_of px61_)
      have Vh63_ : pV h63_ U := pV_p Vh60_ px61_
      have Ah63_ : h63_ 205 14 = ((x61_.2.2 : Nat) : Int) := ax61_
      have Fh63_ : h63_ 205 15 = ((x61_.2.1 : Nat) : Int) := bx61_
      have Oh63_ : h63_ 205 17 = (0 : Int) := ox61_
      have Xh63_ : h63_ 205 18 = (h 205 18 : Int) := fx61_.trans Xh60_
      have Nh63_ : h63_ 205 19 = ((U.2.1 : Nat) : Int) := (px61_ 205 19 (by omega)).trans Nh60_
      refine eR_istn_n2 dX9_takeLike_9 rfl (by decide) rfl ?_
      refine eR_aldn_0 dX9_takeLike_10 rfl ?_
      refine eR_getI dX9_takeLike_11 gf_X9_85 th_205 rfl ?_
      refine eX_pcI (Oh63_) ?_
      refine eR_if_ne (tgt := 96) dX9_takeLike_14 (by decide) (by first | exact rg_b01 _ | (unfold rg; omega)) (fun c14 => absurd c14 (by decide)) (fun c14 => ?_)
      refine eR_aldn_0 dX9_takeLike_17 rfl ?_
      refine eR_ildn_1 dX9_takeLike_18 rfl ?_
      refine eR_ildn_2 dX9_takeLike_19 rfl ?_
      refine eR_icmp_eq (tgt := 41) dX9_takeLike_20 (by decide) (by first | exact rg_b01 _ | (unfold rg; omega)) (by first | exact rg_b01 _ | (unfold rg; omega)) (fun c20 => ?_) (fun c20 => ?_)
      · refine eR_ic dX9_takeLike_41 ?_
        refine eR_ic dX9_takeLike_42 ?_
        refine eR_aldn_0 dX9_takeLike_43 rfl ?_
        refine eR_getI dX9_takeLike_44 gf_X9_92 th_205 rfl ?_
        refine eX_pcI (Fh63_) ?_
        refine eR_callVi [_, _, _] rfl dX9_takeLike_47 ok_mX9_want kw_984 rfl rfl th_205 rfl (Nat.le_of_ble_eq_true rfl) (d' := 0) (by decide) (Nat.le_of_ble_eq_true rfl) ?_
        refine sp_want_n (nb := 4) Oh63_ (by decide) (by decide) ?_
        refine eR_if_eq (tgt := 96) dX9_takeLike_50 (by decide) (by first | exact rg_b01 _ | (unfold rg; omega)) (fun c50 => ?_) (fun c50 => absurd c50 (by decide))
        refine eR_vret dX9_takeLike_96 rfl ?_
        obtain ⟨g64_, hg64_⟩ : ∃ g9, g9 = hU h63_ 205 17 ↑(4 : Nat) := ⟨_, rfl⟩
        rw [← hg64_]
        have Tg64_ : mT g64_ T n := by rw [hg64_]; exact mT_w Th63_ (by omega) (by decide)
        have Pg64_ : pF h g64_ := by rw [hg64_]; exact pF_w Ph63_ (by unfold pS; omega)
        have Vg64_ : pV g64_ U := by rw [hg64_]; exact pV_w Vh63_ (by unfold vS; omega)
        have Ag64_ : g64_ 205 14 = ((x61_.2.2 : Nat) : Int) := by rw [hg64_, hU_ne (by omega)]; exact Ah63_
        have Fg64_ : g64_ 205 15 = ((x61_.2.1 : Nat) : Int) := by rw [hg64_, hU_ne (by omega)]; exact Fh63_
        have Og64_ : g64_ 205 17 = (((4 : Nat) : Nat) : Int) := by rw [hg64_]; exact hU_s _ _ _ _
        have Xg64_ : g64_ 205 18 = (h 205 18 : Int) := by rw [hg64_, hU_ne (by omega)]; exact Xh63_
        have Ng64_ : g64_ 205 19 = ((U.2.1 : Nat) : Int) := by rw [hg64_, hU_ne (by omega)]; exact Nh63_
        obtain ⟨g65_, hg65_⟩ : ∃ g9, g9 = hU g64_ 205 18 ↑x61_.2.1 := ⟨_, rfl⟩
        rw [← hg65_]
        have Tg65_ : mT g65_ T n := by rw [hg65_]; exact mT_w Tg64_ (by omega) (by decide)
        have Pg65_ : pF h g65_ := by rw [hg65_]; exact pF_w Pg64_ (by unfold pS; omega)
        have Vg65_ : pV g65_ U := by rw [hg65_]; exact pV_w Vg64_ (by unfold vS; omega)
        have Ag65_ : g65_ 205 14 = ((x61_.2.2 : Nat) : Int) := by rw [hg65_, hU_ne (by omega)]; exact Ag64_
        have Fg65_ : g65_ 205 15 = ((x61_.2.1 : Nat) : Int) := by rw [hg65_, hU_ne (by omega)]; exact Fg64_
        have Og65_ : g65_ 205 17 = (((4 : Nat) : Nat) : Int) := by rw [hg65_, hU_ne (by omega)]; exact Og64_
        have Xg65_ : g65_ 205 18 = ((x61_.2.1 : Nat) : Int) := by rw [hg65_]; exact hU_s _ _ _ _
        have Ng65_ : g65_ 205 19 = ((U.2.1 : Nat) : Int) := by rw [hg65_, hU_ne (by omega)]; exact Ng64_
        refine k g65_ (pE_l (x := ((4 : Nat), x61_.2.1)) ?_ Pg65_ Og65_ Xg65_)
        unfold rdL
        simp only [ex58_, ex61_] <;> first | rfl | (rw [if_pos (by first | omega | exact Or.inr (by assumption) | exact Or.inl (by omega))]; done) | (rw [if_neg (by first | omega | (rintro (q1 | q1); omega; exact absurd q1 (by assumption)))]; done)
      · refine eR_aldn_0 dX9_takeLike_23 rfl ?_
        refine eR_getR (i := 216) dX9_takeLike_24 gf_X9_41 th_205 rfl ?_
        refine eR_bi (z := 8) dX9_takeLike_27 rfl ?_
        refine eR_ildn_1 dX9_takeLike_29 rfl ?_
        refine eR_imul dX9_takeLike_30 ?_
        refine eR_ildn_2 dX9_takeLike_31 rfl ?_
        refine eR_iadd dX9_takeLike_32 ?_
        refine eR_iald (n := 8 * x58_.1 + x61_.1) dX9_takeLike_33 th_216 (by omega) (by omega) (by decide) ?_
        refine eX_pcI ((Vh63_.2.2.2.2.2.1 x58_.1 x61_.1 (by omega) (by omega)).1) ?_
        refine eR_if_ne (tgt := 41) dX9_takeLike_34 (by decide) (by first | exact rg_b01 _ | (unfold rg; omega)) (fun c34 => ?_) (fun c34 => ?_)
        · replace c34 := b01_ne0.mp c34
          refine eR_ic dX9_takeLike_41 ?_
          refine eR_ic dX9_takeLike_42 ?_
          refine eR_aldn_0 dX9_takeLike_43 rfl ?_
          refine eR_getI dX9_takeLike_44 gf_X9_92 th_205 rfl ?_
          refine eX_pcI (Fh63_) ?_
          refine eR_callVi [_, _, _] rfl dX9_takeLike_47 ok_mX9_want kw_984 rfl rfl th_205 rfl (Nat.le_of_ble_eq_true rfl) (d' := 0) (by decide) (Nat.le_of_ble_eq_true rfl) ?_
          refine sp_want_n (nb := 4) Oh63_ (by decide) (by decide) ?_
          refine eR_if_eq (tgt := 96) dX9_takeLike_50 (by decide) (by first | exact rg_b01 _ | (unfold rg; omega)) (fun c50 => ?_) (fun c50 => absurd c50 (by decide))
          refine eR_vret dX9_takeLike_96 rfl ?_
          obtain ⟨g66_, hg66_⟩ : ∃ g9, g9 = hU h63_ 205 17 ↑(4 : Nat) := ⟨_, rfl⟩
          rw [← hg66_]
          have Tg66_ : mT g66_ T n := by rw [hg66_]; exact mT_w Th63_ (by omega) (by decide)
          have Pg66_ : pF h g66_ := by rw [hg66_]; exact pF_w Ph63_ (by unfold pS; omega)
          have Vg66_ : pV g66_ U := by rw [hg66_]; exact pV_w Vh63_ (by unfold vS; omega)
          have Ag66_ : g66_ 205 14 = ((x61_.2.2 : Nat) : Int) := by rw [hg66_, hU_ne (by omega)]; exact Ah63_
          have Fg66_ : g66_ 205 15 = ((x61_.2.1 : Nat) : Int) := by rw [hg66_, hU_ne (by omega)]; exact Fh63_
          have Og66_ : g66_ 205 17 = (((4 : Nat) : Nat) : Int) := by rw [hg66_]; exact hU_s _ _ _ _
          have Xg66_ : g66_ 205 18 = (h 205 18 : Int) := by rw [hg66_, hU_ne (by omega)]; exact Xh63_
          have Ng66_ : g66_ 205 19 = ((U.2.1 : Nat) : Int) := by rw [hg66_, hU_ne (by omega)]; exact Nh63_
          obtain ⟨g67_, hg67_⟩ : ∃ g9, g9 = hU g66_ 205 18 ↑x61_.2.1 := ⟨_, rfl⟩
          rw [← hg67_]
          have Tg67_ : mT g67_ T n := by rw [hg67_]; exact mT_w Tg66_ (by omega) (by decide)
          have Pg67_ : pF h g67_ := by rw [hg67_]; exact pF_w Pg66_ (by unfold pS; omega)
          have Vg67_ : pV g67_ U := by rw [hg67_]; exact pV_w Vg66_ (by unfold vS; omega)
          have Ag67_ : g67_ 205 14 = ((x61_.2.2 : Nat) : Int) := by rw [hg67_, hU_ne (by omega)]; exact Ag66_
          have Fg67_ : g67_ 205 15 = ((x61_.2.1 : Nat) : Int) := by rw [hg67_, hU_ne (by omega)]; exact Fg66_
          have Og67_ : g67_ 205 17 = (((4 : Nat) : Nat) : Int) := by rw [hg67_, hU_ne (by omega)]; exact Og66_
          have Xg67_ : g67_ 205 18 = ((x61_.2.1 : Nat) : Int) := by rw [hg67_]; exact hU_s _ _ _ _
          have Ng67_ : g67_ 205 19 = ((U.2.1 : Nat) : Int) := by rw [hg67_, hU_ne (by omega)]; exact Ng66_
          refine k g67_ (pE_l (x := ((4 : Nat), x61_.2.1)) ?_ Pg67_ Og67_ Xg67_)
          unfold rdL
          simp only [ex58_, ex61_] <;> first | rfl | (rw [if_pos (by first | omega | exact Or.inr (by assumption) | exact Or.inl (by omega))]; done) | (rw [if_neg (by first | omega | (rintro (q1 | q1); omega; exact absurd q1 (by assumption)))]; done)
        · replace c34 := b01_eq0.mp c34
          refine eR_ic dX9_takeLike_37 ?_
          refine eR_goto (tgt := 42) dX9_takeLike_38 (by decide) ?_
          refine eR_ic dX9_takeLike_42 ?_
          refine eR_aldn_0 dX9_takeLike_43 rfl ?_
          refine eR_getI dX9_takeLike_44 gf_X9_92 th_205 rfl ?_
          refine eX_pcI (Fh63_) ?_
          refine eR_callVi [_, _, _] rfl dX9_takeLike_47 ok_mX9_want kw_984 rfl rfl th_205 rfl (Nat.le_of_ble_eq_true rfl) (d' := 0) (by decide) (Nat.le_of_ble_eq_true rfl) ?_
          refine sp_want_y (nb := 4) Oh63_ ?_
          refine eR_if_eq (tgt := 96) dX9_takeLike_50 (by decide) (by first | exact rg_b01 _ | (unfold rg; omega)) (fun c50 => absurd c50 (by decide)) (fun c50 => ?_)
          refine eR_aldn_0 dX9_takeLike_53 rfl ?_
          refine eR_getR (i := 216) dX9_takeLike_54 gf_X9_41 th_205 rfl ?_
          refine eR_bi (z := 8) dX9_takeLike_57 rfl ?_
          refine eR_ildn_1 dX9_takeLike_59 rfl ?_
          refine eR_imul dX9_takeLike_60 ?_
          refine eR_ildn_2 dX9_takeLike_61 rfl ?_
          refine eR_iadd dX9_takeLike_62 ?_
          refine eR_ic dX9_takeLike_63 ?_
          refine eR_iast (n := 8 * x58_.1 + x61_.1) dX9_takeLike_64 th_216 (by omega) (by omega) (by decide) ?_
          refine eR_aldn_0 dX9_takeLike_65 rfl ?_
          refine eR_getR (i := 215) dX9_takeLike_66 gf_X9_38 th_205 rfl ?_
          refine eR_bi (z := 64) dX9_takeLike_69 rfl ?_
          refine eR_bi (z := 8) dX9_takeLike_71 rfl ?_
          refine eR_ildn_1 dX9_takeLike_73 rfl ?_
          refine eR_imul dX9_takeLike_74 ?_
          refine eR_iadd dX9_takeLike_75 ?_
          refine eR_ildn_2 dX9_takeLike_76 rfl ?_
          refine eR_iadd dX9_takeLike_77 ?_
          refine eR_aldn_0 dX9_takeLike_78 rfl ?_
          refine eR_ic dX9_takeLike_79 ?_
          refine eR_bi (z := 99) dX9_takeLike_80 rfl ?_
          obtain ⟨g68_, hg68_⟩ : ∃ g9, g9 = hU h63_ 216 (8 * x58_.1 + x61_.1) 1 := ⟨_, rfl⟩
          rw [← hg68_]
          have Tg68_ : mT g68_ T n := by rw [hg68_]; exact mT_w Th63_ (by omega) (by decide)
          have Pg68_ : pF h g68_ := by rw [hg68_]; exact pF_w Ph63_ (by unfold pS; omega)
          have Ag68_ : g68_ 205 14 = ((x61_.2.2 : Nat) : Int) := by rw [hg68_, hU_ne (by omega)]; exact Ah63_
          have Fg68_ : g68_ 205 15 = ((x61_.2.1 : Nat) : Int) := by rw [hg68_, hU_ne (by omega)]; exact Fh63_
          have Og68_ : g68_ 205 17 = (0 : Int) := by rw [hg68_, hU_ne (by omega)]; exact Oh63_
          have Xg68_ : g68_ 205 18 = (h 205 18 : Int) := by rw [hg68_, hU_ne (by omega)]; exact Xh63_
          have Ng68_ : g68_ 205 19 = ((U.2.1 : Nat) : Int) := by rw [hg68_, hU_ne (by omega)]; exact Nh63_
          have E216_g68_ : g68_ 216 (8 * x58_.1 + x61_.1) = (1 : Int) := by rw [hg68_]; exact hU_s _ _ _ _
          refine eR_callVi [_, _] rfl dX9_takeLike_82 ok_mX9_takeNumber kw_988 rfl rfl th_205 rfl (Nat.le_of_ble_eq_true rfl) (d' := 1) (by decide) (Nat.le_of_ble_eq_true rfl) ?_
          refine sp_takeNumber (i := x61_.2.2) (lo := 0) (hi := 99) B Tg68_ (by omega) (by decide) (by decide) Ag68_ Og68_ (fun x69_ vx69_ f70_ ex69_ hvx69_ px69_ ox69_ fx69_ => ?_) (fun x69_ h71_ ex69_ px69_ ax69_ bx69_ ox69_ fx69_ => ?_)
          · have nx69_ := num_l (by omega) ex69_
            have Tf70_ : mT f70_ T n := mT_p Tg68_ px69_
            have Pf70_ : pF h f70_ := pF_tr Pg68_ (pF_of px69_)
            have Of70_ : f70_ 205 17 = ((x69_.1 : Nat) : Int) := ox69_
            have Xf70_ : f70_ 205 18 = ((x69_.2 : Nat) : Int) := fx69_
            have Nf70_ : f70_ 205 19 = ((U.2.1 : Nat) : Int) := (px69_ 205 19 (by omega)).trans Ng68_
            have E216_f70_ : f70_ 216 (8 * x58_.1 + x61_.1) = (1 : Int) := (px69_ 216 (8 * x58_.1 + x61_.1) (by omega)).trans E216_g68_
            refine eR_iast (n := 64 + 8 * x58_.1 + x61_.1) dX9_takeLike_85 th_215 (by omega) (by omega) (by decide) ?_
            refine eR_aldn_0 dX9_takeLike_86 rfl ?_
            refine eR_dup dX9_takeLike_87 rfl ?_
            refine eR_getI dX9_takeLike_88 gf_X9_122 th_205 rfl ?_
            refine eX_pcI (congrFun (hU_a _ _ _ (by decide)) _) ?_
            refine eX_pcI (Nf70_) ?_
            refine eR_ic dX9_takeLike_91 ?_
            refine eR_iadd dX9_takeLike_92 ?_
            refine eR_putI dX9_takeLike_93 pf_X9_122 th_205 rfl ?_
            refine eR_vret dX9_takeLike_96 rfl ?_
            obtain ⟨g72_, hg72_⟩ : ∃ g9, g9 = hU f70_ 215 (64 + 8 * x58_.1 + x61_.1) ↑vx69_ := ⟨_, rfl⟩
            rw [← hg72_]
            have Tg72_ : mT g72_ T n := by rw [hg72_]; exact mT_w Tf70_ (by omega) (by decide)
            have Pg72_ : pF h g72_ := by rw [hg72_]; exact pF_w Pf70_ (by unfold pS; omega)
            have Og72_ : g72_ 205 17 = ((x69_.1 : Nat) : Int) := by rw [hg72_, hU_ne (by omega)]; exact Of70_
            have Xg72_ : g72_ 205 18 = ((x69_.2 : Nat) : Int) := by rw [hg72_, hU_ne (by omega)]; exact Xf70_
            have E216_g72_ : g72_ 216 (8 * x58_.1 + x61_.1) = (1 : Int) := by rw [hg72_, hU_ne (by omega)]; exact E216_f70_
            have Ng72_ : g72_ 205 19 = ((U.2.1 : Nat) : Int) := by rw [hg72_, hU_ne (by omega)]; exact Nf70_
            have E215_g72_ : g72_ 215 (64 + 8 * x58_.1 + x61_.1) = ((vx69_ : Nat) : Int) := by rw [hg72_]; exact hU_s _ _ _ _
            obtain ⟨g73_, hg73_⟩ : ∃ g9, g9 = hU g72_ 205 19 (↑U.2.1 + 1) := ⟨_, rfl⟩
            rw [← hg73_]
            have Tg73_ : mT g73_ T n := by rw [hg73_]; exact mT_w Tg72_ (by omega) (by decide)
            have Pg73_ : pF h g73_ := by rw [hg73_]; exact pF_w Pg72_ (by unfold pS; omega)
            have Og73_ : g73_ 205 17 = ((x69_.1 : Nat) : Int) := by rw [hg73_, hU_ne (by omega)]; exact Og72_
            have Xg73_ : g73_ 205 18 = ((x69_.2 : Nat) : Int) := by rw [hg73_, hU_ne (by omega)]; exact Xg72_
            have E216_g73_ : g73_ 216 (8 * x58_.1 + x61_.1) = (1 : Int) := by rw [hg73_, hU_ne (by omega)]; exact E216_g72_
            have E215_g73_ : g73_ 215 (64 + 8 * x58_.1 + x61_.1) = ((vx69_ : Nat) : Int) := by rw [hg73_, hU_ne (by omega)]; exact E215_g72_
            refine k g73_ (pE_l (x := (x69_.1, x69_.2)) ?_ Pg73_ Og73_ Xg73_)
            unfold rdL
            simp only [ex58_, ex61_, ex69_] <;> first | rfl | (rw [if_pos (by first | omega | exact Or.inr (by assumption) | exact Or.inl (by omega))]; done) | (rw [if_neg (by first | omega | (rintro (q1 | q1); omega; exact absurd q1 (by assumption)))]; done)
          · have nx69_ := num_r (by omega) ex69_
            have Th71_ : mT h71_ T n := mT_p Tg68_ px69_
            have Ph71_ : pF h h71_ := pF_tr Pg68_ (pF_of px69_)
            have Ah71_ : h71_ 205 14 = ((x69_.2.2 : Nat) : Int) := ax69_
            have Fh71_ : h71_ 205 15 = ((x69_.2.1 : Nat) : Int) := bx69_
            have Oh71_ : h71_ 205 17 = (0 : Int) := ox69_
            have Xh71_ : h71_ 205 18 = (h 205 18 : Int) := fx69_.trans Xg68_
            have Nh71_ : h71_ 205 19 = ((U.2.1 : Nat) : Int) := (px69_ 205 19 (by omega)).trans Ng68_
            have E216_h71_ : h71_ 216 (8 * x58_.1 + x61_.1) = (1 : Int) := (px69_ 216 (8 * x58_.1 + x61_.1) (by omega)).trans E216_g68_
            refine eR_iast (n := 64 + 8 * x58_.1 + x61_.1) dX9_takeLike_85 th_215 (by omega) (by omega) (by decide) ?_
            refine eR_aldn_0 dX9_takeLike_86 rfl ?_
            refine eR_dup dX9_takeLike_87 rfl ?_
            refine eR_getI dX9_takeLike_88 gf_X9_122 th_205 rfl ?_
            refine eX_pcI (congrFun (hU_a _ _ _ (by decide)) _) ?_
            refine eX_pcI (Nh71_) ?_
            refine eR_ic dX9_takeLike_91 ?_
            refine eR_iadd dX9_takeLike_92 ?_
            refine eR_putI dX9_takeLike_93 pf_X9_122 th_205 rfl ?_
            refine eR_vret dX9_takeLike_96 rfl ?_
            refine k _ (pE_r (U := adL U (x58_.1) (x61_.1) (x69_.1)) (j := x69_.2.2) ?_ (pF_w (pF_w Ph71_ (by unfold pS; omega)) (by unfold pS; omega)) (pV_adL Vh63_ (by omega) (by omega) (by rw [← hg68_]; exact px69_)) (((hU_ne (by omega)).trans (hU_ne (by omega))).trans Ah71_) (((hU_ne (by omega)).trans (hU_ne (by omega))).trans Oh71_) (((hU_ne (by omega)).trans (hU_ne (by omega))).trans Xh71_))
            unfold rdL
            simp only [ex58_, ex61_, ex69_] <;> first | rfl | (rw [if_neg (by first | omega | (rintro (q1 | q1); omega; exact absurd q1 (by assumption)))]; done)
theorem sp_isWord2 (B : tB T n) (Th : mT h T n) {i e : Nat} {l : List Nat} (hi : i ≤ e) (he : e ≤ n) (hl : l.length ≤ 6) (hc : ∀ x, l.getD x 0 < 256) (Fh : h 205 15 = (i : Int)) (Lh : h 205 16 = (e : Int) - (i : Int)) (k1 : wrd T i e l = true → Q (.int (zI 1)) (tau t s) h) (k0 : ¬ wrd T i e l = true → Q (.int (zI 0)) (tau t s) h) : eX g 0 mX9_isWord 0 (lv_args 0 [.ref (gA g 205), .int (zI ↑(l.length)), .int (zI ↑(l.getD 0 0)), .int (zI ↑(l.getD 1 0)), .int (zI ↑(l.getD 2 0)), .int (zI ↑(l.getD 3 0)), .int (zI ↑(l.getD 4 0)), .int (zI ↑(l.getD 5 0))]) [] (tau t s) h Q := by
  refine sp_isWord B Th hi he hl hc Fh Lh ?_
  by_cases hw : wrd T i e l = true
  · rw [b01_t hw]; exact k1 hw
  · rw [b01_f hw]; exact k0 hw
theorem sp_takeClause (B : tB T n) (Th : mT h T n) (uBh : uB U) (Vh : pV h U) {i : Nat} (hin : i ≤ n) (Ah : h 205 14 = (i : Int)) (Oh : h 205 17 = 0) (hsk : sk isB T n i = i) (k : ∀ h1 : PH, pE h h1 (clz T n U i) → Q .null (tau t s) h1) : eX g 4 mX9_takeClause 0 (lv_args 0 [.ref (gA g 205)]) [] (tau t s) h Q := by
  show eX g 4 mX9_takeClause 0 [(0, .ref (gA g 205))] [] (tau t s) h Q
  have hn9 := B.1
  have hb8 := uBh.1.1
  have hbC := uBh.1.2.1
  have hbE := uBh.1.2.2.1
  have hbL := uBh.2.2.1
  have hbF := uBh.2.2.2
  have Xh : h 205 18 = h 205 18 := rfl
  have Ph := pF_rf h
  obtain ⟨e9, he9⟩ : ∃ e9, e9 = sk isL T n i := ⟨_, rfl⟩
  have hie9 := sk_le (f := isL) (T := T) hin
  rw [← he9] at hie9
  refine eR_aldn_0 dX9_takeClause_0 rfl ?_
  refine eR_callVv [] rfl dX9_takeClause_1 ok_mX9_takeWord kw_974 rfl rfl th_205 rfl (Nat.le_of_ble_eq_true rfl) (d' := 1) (by decide) (Nat.le_of_ble_eq_true rfl) ?_
  refine sp_takeWord B Th hin Ah (fun h2 p2 a2 b2 c2 o2 f2 => ?_)
  rw [hsk, ← he9] at a2 c2
  rw [hsk] at b2
  have Th2 : mT h2 T n := mT_p Th p2
  have Ph2 : pF h h2 := pF_tr Ph (pF_of p2)
  have Vh2 : pV h2 U := pV_p Vh p2
  have Ah2 : h2 205 14 = ((e9 : Nat) : Int) := a2
  have Fh2 : h2 205 15 = ((i : Nat) : Int) := b2
  have Oh2 : h2 205 17 = (0 : Int) := (o2.trans Oh)
  have Xh2 : h2 205 18 = (h 205 18 : Int) := f2
  refine eR_aldn_0 dX9_takeClause_4 rfl ?_
  refine eR_getI dX9_takeClause_5 gf_X9_92 th_205 rfl ?_
  refine eX_pcI (Fh2) ?_
  refine eR_istn_n1 dX9_takeClause_8 rfl (by decide) rfl ?_
  refine eR_aldn_0 dX9_takeClause_9 rfl ?_
  refine eR_bi (z := 6) dX9_takeClause_10 rfl ?_
  refine eR_bi (z := 112) dX9_takeClause_12 rfl ?_
  refine eR_bi (z := 101) dX9_takeClause_14 rfl ?_
  refine eR_bi (z := 111) dX9_takeClause_16 rfl ?_
  refine eR_bi (z := 112) dX9_takeClause_18 rfl ?_
  refine eR_bi (z := 108) dX9_takeClause_20 rfl ?_
  refine eR_bi (z := 101) dX9_takeClause_22 rfl ?_
  refine eR_callVi [_, _, _, _, _, _, _] rfl dX9_takeClause_24 ok_mX9_isWord kw_980 rfl rfl th_205 rfl (Nat.le_of_ble_eq_true rfl) (d' := 0) (by decide) (Nat.le_of_ble_eq_true rfl) ?_
  refine sp_isWord2 (i := i) (e := e9) (l := wPe) B Th2 (by omega) (by omega) (by decide) (getD_lt (by decide)) Fh2 c2 (fun w24 => ?_) (fun w24 => ?_)
  · refine eR_istn_n2 dX9_takeClause_27 rfl (by decide) rfl ?_
    refine eR_aldn_0 dX9_takeClause_28 rfl ?_
    refine eR_ildn_2 dX9_takeClause_29 rfl ?_
    refine eR_if_ne (tgt := 42) dX9_takeClause_30 (by decide) (by first | exact rg_b01 _ | (unfold rg; omega)) (fun c30 => ?_) (fun c30 => absurd c30 (by decide))
    refine eR_ic dX9_takeClause_42 ?_
    refine eR_goto (tgt := 47) dX9_takeClause_43 (by decide) ?_
    refine eR_ic dX9_takeClause_47 ?_
    refine eR_ildn_1 dX9_takeClause_48 rfl ?_
    refine eR_callVi [_, _, _] rfl dX9_takeClause_49 ok_mX9_want kw_984 rfl rfl th_205 rfl (Nat.le_of_ble_eq_true rfl) (d' := 0) (by decide) (Nat.le_of_ble_eq_true rfl) ?_
    refine sp_want_y (nb := 1) Oh2 ?_
    refine eR_if_ne (tgt := 56) dX9_takeClause_52 (by decide) (by first | exact rg_b01 _ | (unfold rg; omega)) (fun c52 => ?_) (fun c52 => absurd c52 (by decide))
    refine eR_ildn_2 dX9_takeClause_56 rfl ?_
    refine eR_if_eq (tgt := 99) dX9_takeClause_57 (by decide) (by first | exact rg_b01 _ | (unfold rg; omega)) (fun c57 => absurd c57 (by decide)) (fun c57 => ?_)
    refine eR_aldn_0 dX9_takeClause_60 rfl ?_
    refine eR_aldn_0 dX9_takeClause_61 rfl ?_
    refine eR_getR (i := 217) dX9_takeClause_62 gf_X9_44 th_205 rfl ?_
    refine eR_ic dX9_takeClause_65 ?_
    refine eR_iald (n := 4) dX9_takeClause_66 th_217 (rfl) (by decide) (by decide) ?_
    refine eX_pcI (Vh2.1) ?_
    refine eR_if_ne (tgt := 74) dX9_takeClause_67 (by decide) (by first | exact rg_b01 _ | (unfold rg; omega)) (fun c67 => ?_) (fun c67 => ?_)
    · refine eR_ic dX9_takeClause_74 ?_
      refine eR_ic dX9_takeClause_75 ?_
      refine eR_ildn_1 dX9_takeClause_76 rfl ?_
      refine eR_callVi [_, _, _] rfl dX9_takeClause_77 ok_mX9_want kw_984 rfl rfl th_205 rfl (Nat.le_of_ble_eq_true rfl) (d' := 0) (by decide) (Nat.le_of_ble_eq_true rfl) ?_
      refine sp_want_n (nb := 3) Oh2 (by decide) (by decide) ?_
      refine eR_if_eq (tgt := 311) dX9_takeClause_80 (by decide) (by first | exact rg_b01 _ | (unfold rg; omega)) (fun c80 => ?_) (fun c80 => absurd c80 (by decide))
      refine eR_vret dX9_takeClause_311 rfl ?_
      obtain ⟨g74_, hg74_⟩ : ∃ g9, g9 = hU h2 205 17 ↑(3 : Nat) := ⟨_, rfl⟩
      rw [← hg74_]
      have Tg74_ : mT g74_ T n := by rw [hg74_]; exact mT_w Th2 (by omega) (by decide)
      have Pg74_ : pF h g74_ := by rw [hg74_]; exact pF_w Ph2 (by unfold pS; omega)
      have Vg74_ : pV g74_ U := by rw [hg74_]; exact pV_w Vh2 (by unfold vS; omega)
      have Ag74_ : g74_ 205 14 = ((e9 : Nat) : Int) := by rw [hg74_, hU_ne (by omega)]; exact Ah2
      have Fg74_ : g74_ 205 15 = ((i : Nat) : Int) := by rw [hg74_, hU_ne (by omega)]; exact Fh2
      have Og74_ : g74_ 205 17 = (((3 : Nat) : Nat) : Int) := by rw [hg74_]; exact hU_s _ _ _ _
      have Xg74_ : g74_ 205 18 = (h 205 18 : Int) := by rw [hg74_, hU_ne (by omega)]; exact Xh2
      obtain ⟨g75_, hg75_⟩ : ∃ g9, g9 = hU g74_ 205 18 ↑i := ⟨_, rfl⟩
      rw [← hg75_]
      have Tg75_ : mT g75_ T n := by rw [hg75_]; exact mT_w Tg74_ (by omega) (by decide)
      have Pg75_ : pF h g75_ := by rw [hg75_]; exact pF_w Pg74_ (by unfold pS; omega)
      have Vg75_ : pV g75_ U := by rw [hg75_]; exact pV_w Vg74_ (by unfold vS; omega)
      have Ag75_ : g75_ 205 14 = ((e9 : Nat) : Int) := by rw [hg75_, hU_ne (by omega)]; exact Ag74_
      have Fg75_ : g75_ 205 15 = ((i : Nat) : Int) := by rw [hg75_, hU_ne (by omega)]; exact Fg74_
      have Og75_ : g75_ 205 17 = (((3 : Nat) : Nat) : Int) := by rw [hg75_, hU_ne (by omega)]; exact Og74_
      have Xg75_ : g75_ 205 18 = ((i : Nat) : Int) := by rw [hg75_]; exact hU_s _ _ _ _
      refine k g75_ (pE_l (x := ((3 : Nat), i)) ?_ Pg75_ Og75_ Xg75_)
      unfold clz
      rw [← he9]
      (repeat' split) <;> first | rfl | contradiction | omega
    · refine eR_ic dX9_takeClause_70 ?_
      refine eR_goto (tgt := 75) dX9_takeClause_71 (by decide) ?_
      refine eR_ic dX9_takeClause_75 ?_
      refine eR_ildn_1 dX9_takeClause_76 rfl ?_
      refine eR_callVi [_, _, _] rfl dX9_takeClause_77 ok_mX9_want kw_984 rfl rfl th_205 rfl (Nat.le_of_ble_eq_true rfl) (d' := 0) (by decide) (Nat.le_of_ble_eq_true rfl) ?_
      refine sp_want_y (nb := 3) Oh2 ?_
      refine eR_if_eq (tgt := 311) dX9_takeClause_80 (by decide) (by first | exact rg_b01 _ | (unfold rg; omega)) (fun c80 => absurd c80 (by decide)) (fun c80 => ?_)
      refine eR_aldn_0 dX9_takeClause_83 rfl ?_
      refine eR_getR (i := 217) dX9_takeClause_84 gf_X9_44 th_205 rfl ?_
      refine eR_ic dX9_takeClause_87 ?_
      refine eR_aldn_0 dX9_takeClause_88 rfl ?_
      refine eR_ic dX9_takeClause_89 ?_
      refine eR_bi (z := 8) dX9_takeClause_90 rfl ?_
      refine eR_callVi [_, _] rfl dX9_takeClause_92 ok_mX9_takeNumber kw_988 rfl rfl th_205 rfl (Nat.le_of_ble_eq_true rfl) (d' := 1) (by decide) (Nat.le_of_ble_eq_true rfl) ?_
      refine sp_takeNumber (i := e9) (lo := 1) (hi := 8) B Th2 (by omega) (by decide) (by decide) Ah2 Oh2 (fun x76_ vx76_ f77_ ex76_ hvx76_ px76_ ox76_ fx76_ => ?_) (fun x76_ h78_ ex76_ px76_ ax76_ bx76_ ox76_ fx76_ => ?_)
      · have nx76_ := num_l (by omega) ex76_
        have Tf77_ : mT f77_ T n := mT_p Th2 px76_
        have Pf77_ : pF h f77_ := pF_tr Ph2 (pF_of px76_)
        have Vf77_ : pV f77_ U := pV_p Vh2 px76_
        have Of77_ : f77_ 205 17 = ((x76_.1 : Nat) : Int) := ox76_
        have Xf77_ : f77_ 205 18 = ((x76_.2 : Nat) : Int) := fx76_
        refine eR_iast (n := 4) dX9_takeClause_95 th_217 (rfl) (by decide) (by decide) ?_
        refine eR_goto (tgt := 311) dX9_takeClause_96 (by decide) ?_
        refine eR_vret dX9_takeClause_311 rfl ?_
        obtain ⟨g79_, hg79_⟩ : ∃ g9, g9 = hU f77_ 217 4 ↑vx76_ := ⟨_, rfl⟩
        rw [← hg79_]
        have Tg79_ : mT g79_ T n := by rw [hg79_]; exact mT_w Tf77_ (by omega) (by decide)
        have Pg79_ : pF h g79_ := by rw [hg79_]; exact pF_w Pf77_ (by unfold pS; omega)
        have Og79_ : g79_ 205 17 = ((x76_.1 : Nat) : Int) := by rw [hg79_, hU_ne (by omega)]; exact Of77_
        have Xg79_ : g79_ 205 18 = ((x76_.2 : Nat) : Int) := by rw [hg79_, hU_ne (by omega)]; exact Xf77_
        refine k g79_ (pE_l (x := (x76_.1, x76_.2)) ?_ Pg79_ Og79_ Xg79_)
        unfold clz
        rw [← he9]
        (repeat' split) <;> first | rfl | contradiction | omega | (unfold rdP; simp only [ex76_]) | (unfold rdF; simp only [ex76_])
      · have nx76_ := num_r (by omega) ex76_
        have Th78_ : mT h78_ T n := mT_p Th2 px76_
        have Ph78_ : pF h h78_ := pF_tr Ph2 (pF_of px76_)
        have Vh78_ : pV h78_ U := pV_p Vh2 px76_
        have Ah78_ : h78_ 205 14 = ((x76_.2.2 : Nat) : Int) := ax76_
        have Fh78_ : h78_ 205 15 = ((x76_.2.1 : Nat) : Int) := bx76_
        have Oh78_ : h78_ 205 17 = (0 : Int) := ox76_
        have Xh78_ : h78_ 205 18 = (h 205 18 : Int) := fx76_.trans Xh2
        refine eR_iast (n := 4) dX9_takeClause_95 th_217 (rfl) (by decide) (by decide) ?_
        refine eR_goto (tgt := 311) dX9_takeClause_96 (by decide) ?_
        refine eR_vret dX9_takeClause_311 rfl ?_
        refine k _ (pE_r (U := uO U (adP U.1 x76_.1)) (j := x76_.2.2) ?_ (pF_w Ph78_ (by unfold pS; omega)) (pV_adP Vh78_) ((hU_ne (by omega)).trans Ah78_) ((hU_ne (by omega)).trans Oh78_) ((hU_ne (by omega)).trans Xh78_))
        unfold clz
        rw [← he9]
        (repeat' split) <;> first | rfl | contradiction | omega | (unfold rdP; simp only [ex76_])
  · refine eR_istn_n2 dX9_takeClause_27 rfl (by decide) rfl ?_
    refine eR_aldn_0 dX9_takeClause_28 rfl ?_
    refine eR_ildn_2 dX9_takeClause_29 rfl ?_
    refine eR_if_ne (tgt := 42) dX9_takeClause_30 (by decide) (by first | exact rg_b01 _ | (unfold rg; omega)) (fun c30 => absurd c30 (by decide)) (fun c30 => ?_)
    refine eR_aldn_0 dX9_takeClause_33 rfl ?_
    refine eR_getR (i := 217) dX9_takeClause_34 gf_X9_44 th_205 rfl ?_
    refine eR_ic dX9_takeClause_37 ?_
    refine eR_iald (n := 4) dX9_takeClause_38 th_217 (rfl) (by decide) (by decide) ?_
    refine eX_pcI (Vh2.1) ?_
    refine eR_if_le (tgt := 46) dX9_takeClause_39 (by decide) (by first | exact rg_b01 _ | (unfold rg; omega)) (fun c39 => ?_) (fun c39 => ?_)
    · refine eR_ic dX9_takeClause_46 ?_
      refine eR_ic dX9_takeClause_47 ?_
      refine eR_ildn_1 dX9_takeClause_48 rfl ?_
      refine eR_callVi [_, _, _] rfl dX9_takeClause_49 ok_mX9_want kw_984 rfl rfl th_205 rfl (Nat.le_of_ble_eq_true rfl) (d' := 0) (by decide) (Nat.le_of_ble_eq_true rfl) ?_
      refine sp_want_n (nb := 1) Oh2 (by decide) (by decide) ?_
      refine eR_if_ne (tgt := 56) dX9_takeClause_52 (by decide) (by first | exact rg_b01 _ | (unfold rg; omega)) (fun c52 => absurd c52 (by decide)) (fun c52 => ?_)
      refine eR_vret dX9_takeClause_55 rfl ?_
      obtain ⟨g80_, hg80_⟩ : ∃ g9, g9 = hU h2 205 17 ↑(1 : Nat) := ⟨_, rfl⟩
      rw [← hg80_]
      have Tg80_ : mT g80_ T n := by rw [hg80_]; exact mT_w Th2 (by omega) (by decide)
      have Pg80_ : pF h g80_ := by rw [hg80_]; exact pF_w Ph2 (by unfold pS; omega)
      have Vg80_ : pV g80_ U := by rw [hg80_]; exact pV_w Vh2 (by unfold vS; omega)
      have Ag80_ : g80_ 205 14 = ((e9 : Nat) : Int) := by rw [hg80_, hU_ne (by omega)]; exact Ah2
      have Fg80_ : g80_ 205 15 = ((i : Nat) : Int) := by rw [hg80_, hU_ne (by omega)]; exact Fh2
      have Og80_ : g80_ 205 17 = (((1 : Nat) : Nat) : Int) := by rw [hg80_]; exact hU_s _ _ _ _
      have Xg80_ : g80_ 205 18 = (h 205 18 : Int) := by rw [hg80_, hU_ne (by omega)]; exact Xh2
      obtain ⟨g81_, hg81_⟩ : ∃ g9, g9 = hU g80_ 205 18 ↑i := ⟨_, rfl⟩
      rw [← hg81_]
      have Tg81_ : mT g81_ T n := by rw [hg81_]; exact mT_w Tg80_ (by omega) (by decide)
      have Pg81_ : pF h g81_ := by rw [hg81_]; exact pF_w Pg80_ (by unfold pS; omega)
      have Vg81_ : pV g81_ U := by rw [hg81_]; exact pV_w Vg80_ (by unfold vS; omega)
      have Ag81_ : g81_ 205 14 = ((e9 : Nat) : Int) := by rw [hg81_, hU_ne (by omega)]; exact Ag80_
      have Fg81_ : g81_ 205 15 = ((i : Nat) : Int) := by rw [hg81_, hU_ne (by omega)]; exact Fg80_
      have Og81_ : g81_ 205 17 = (((1 : Nat) : Nat) : Int) := by rw [hg81_, hU_ne (by omega)]; exact Og80_
      have Xg81_ : g81_ 205 18 = ((i : Nat) : Int) := by rw [hg81_]; exact hU_s _ _ _ _
      refine k g81_ (pE_l (x := ((1 : Nat), i)) ?_ Pg81_ Og81_ Xg81_)
      unfold clz
      rw [← he9]
      (repeat' split) <;> first | rfl | contradiction | omega
    · refine eR_ic dX9_takeClause_42 ?_
      refine eR_goto (tgt := 47) dX9_takeClause_43 (by decide) ?_
      refine eR_ic dX9_takeClause_47 ?_
      refine eR_ildn_1 dX9_takeClause_48 rfl ?_
      refine eR_callVi [_, _, _] rfl dX9_takeClause_49 ok_mX9_want kw_984 rfl rfl th_205 rfl (Nat.le_of_ble_eq_true rfl) (d' := 0) (by decide) (Nat.le_of_ble_eq_true rfl) ?_
      refine sp_want_y (nb := 1) Oh2 ?_
      refine eR_if_ne (tgt := 56) dX9_takeClause_52 (by decide) (by first | exact rg_b01 _ | (unfold rg; omega)) (fun c52 => ?_) (fun c52 => absurd c52 (by decide))
      refine eR_ildn_2 dX9_takeClause_56 rfl ?_
      refine eR_if_eq (tgt := 99) dX9_takeClause_57 (by decide) (by first | exact rg_b01 _ | (unfold rg; omega)) (fun c57 => ?_) (fun c57 => absurd c57 (by decide))
      refine eR_aldn_0 dX9_takeClause_99 rfl ?_
      refine eR_ic dX9_takeClause_100 ?_
      refine eR_bi (z := 99) dX9_takeClause_101 rfl ?_
      refine eR_bi (z := 111) dX9_takeClause_103 rfl ?_
      refine eR_bi (z := 97) dX9_takeClause_105 rfl ?_
      refine eR_bi (z := 116) dX9_takeClause_107 rfl ?_
      refine eR_ic dX9_takeClause_109 ?_
      refine eR_ic dX9_takeClause_110 ?_
      refine eR_callVi [_, _, _, _, _, _, _] rfl dX9_takeClause_111 ok_mX9_isWord kw_980 rfl rfl th_205 rfl (Nat.le_of_ble_eq_true rfl) (d' := 0) (by decide) (Nat.le_of_ble_eq_true rfl) ?_
      refine sp_isWord2 (i := i) (e := e9) (l := wCo) B Th2 (by omega) (by omega) (by decide) (getD_lt (by decide)) Fh2 c2 (fun w111 => ?_) (fun w111 => ?_)
      · refine eR_if_eq (tgt := 149) dX9_takeClause_114 (by decide) (by first | exact rg_b01 _ | (unfold rg; omega)) (fun c114 => absurd c114 (by decide)) (fun c114 => ?_)
        refine eR_aldn_0 dX9_takeClause_117 rfl ?_
        refine eR_aldn_0 dX9_takeClause_118 rfl ?_
        refine eR_getR (i := 217) dX9_takeClause_119 gf_X9_44 th_205 rfl ?_
        refine eR_ic dX9_takeClause_122 ?_
        refine eR_iald (n := 5) dX9_takeClause_123 th_217 (rfl) (by decide) (by decide) ?_
        refine eX_pcI (Vh2.2.1) ?_
        refine eR_bi (z := 8) dX9_takeClause_124 rfl ?_
        refine eR_icmp_ge (tgt := 133) dX9_takeClause_126 (by decide) (by first | exact rg_b01 _ | (unfold rg; omega)) (by first | exact rg_b01 _ | (unfold rg; omega)) (fun c126 => ?_) (fun c126 => ?_)
        · refine eR_ic dX9_takeClause_133 ?_
          refine eR_ic dX9_takeClause_134 ?_
          refine eR_ildn_1 dX9_takeClause_135 rfl ?_
          refine eR_callVi [_, _, _] rfl dX9_takeClause_136 ok_mX9_want kw_984 rfl rfl th_205 rfl (Nat.le_of_ble_eq_true rfl) (d' := 0) (by decide) (Nat.le_of_ble_eq_true rfl) ?_
          refine sp_want_n (nb := 3) Oh2 (by decide) (by decide) ?_
          refine eR_if_eq (tgt := 311) dX9_takeClause_139 (by decide) (by first | exact rg_b01 _ | (unfold rg; omega)) (fun c139 => ?_) (fun c139 => absurd c139 (by decide))
          refine eR_vret dX9_takeClause_311 rfl ?_
          obtain ⟨g82_, hg82_⟩ : ∃ g9, g9 = hU h2 205 17 ↑(3 : Nat) := ⟨_, rfl⟩
          rw [← hg82_]
          have Tg82_ : mT g82_ T n := by rw [hg82_]; exact mT_w Th2 (by omega) (by decide)
          have Pg82_ : pF h g82_ := by rw [hg82_]; exact pF_w Ph2 (by unfold pS; omega)
          have Vg82_ : pV g82_ U := by rw [hg82_]; exact pV_w Vh2 (by unfold vS; omega)
          have Ag82_ : g82_ 205 14 = ((e9 : Nat) : Int) := by rw [hg82_, hU_ne (by omega)]; exact Ah2
          have Fg82_ : g82_ 205 15 = ((i : Nat) : Int) := by rw [hg82_, hU_ne (by omega)]; exact Fh2
          have Og82_ : g82_ 205 17 = (((3 : Nat) : Nat) : Int) := by rw [hg82_]; exact hU_s _ _ _ _
          have Xg82_ : g82_ 205 18 = (h 205 18 : Int) := by rw [hg82_, hU_ne (by omega)]; exact Xh2
          obtain ⟨g83_, hg83_⟩ : ∃ g9, g9 = hU g82_ 205 18 ↑i := ⟨_, rfl⟩
          rw [← hg83_]
          have Tg83_ : mT g83_ T n := by rw [hg83_]; exact mT_w Tg82_ (by omega) (by decide)
          have Pg83_ : pF h g83_ := by rw [hg83_]; exact pF_w Pg82_ (by unfold pS; omega)
          have Vg83_ : pV g83_ U := by rw [hg83_]; exact pV_w Vg82_ (by unfold vS; omega)
          have Ag83_ : g83_ 205 14 = ((e9 : Nat) : Int) := by rw [hg83_, hU_ne (by omega)]; exact Ag82_
          have Fg83_ : g83_ 205 15 = ((i : Nat) : Int) := by rw [hg83_, hU_ne (by omega)]; exact Fg82_
          have Og83_ : g83_ 205 17 = (((3 : Nat) : Nat) : Int) := by rw [hg83_, hU_ne (by omega)]; exact Og82_
          have Xg83_ : g83_ 205 18 = ((i : Nat) : Int) := by rw [hg83_]; exact hU_s _ _ _ _
          refine k g83_ (pE_l (x := ((3 : Nat), i)) ?_ Pg83_ Og83_ Xg83_)
          unfold clz
          rw [← he9]
          (repeat' split) <;> first | rfl | contradiction | omega
        · refine eR_ic dX9_takeClause_129 ?_
          refine eR_goto (tgt := 134) dX9_takeClause_130 (by decide) ?_
          refine eR_ic dX9_takeClause_134 ?_
          refine eR_ildn_1 dX9_takeClause_135 rfl ?_
          refine eR_callVi [_, _, _] rfl dX9_takeClause_136 ok_mX9_want kw_984 rfl rfl th_205 rfl (Nat.le_of_ble_eq_true rfl) (d' := 0) (by decide) (Nat.le_of_ble_eq_true rfl) ?_
          refine sp_want_y (nb := 3) Oh2 ?_
          refine eR_if_eq (tgt := 311) dX9_takeClause_139 (by decide) (by first | exact rg_b01 _ | (unfold rg; omega)) (fun c139 => absurd c139 (by decide)) (fun c139 => ?_)
          refine eR_aldn_0 dX9_takeClause_142 rfl ?_
          refine eR_callVv [] rfl dX9_takeClause_143 ok_mX9_takeCoat kw_995 rfl rfl th_205 rfl (Nat.le_of_ble_eq_true rfl) (d' := 3) (by decide) (Nat.le_of_ble_eq_true rfl) ?_
          refine sp_takeCoat (U := U) (i := e9) B Th2 uBh Vh2 (by omega) Ah2 Oh2 (by omega) (by omega) (fun h3 r3 => ?_)
          refine eR_goto (tgt := 311) dX9_takeClause_146 (by decide) ?_
          refine eR_vret dX9_takeClause_311 rfl ?_
          refine k h3 (pE_tr Ph2 Xh2 ?_)
          have e8 : clz T n U i = rdC T n U e9 := by
            unfold clz
            rw [← he9]
            (repeat' split) <;> first | rfl | contradiction | omega
          rw [e8]
          exact r3
      · refine eR_if_eq (tgt := 149) dX9_takeClause_114 (by decide) (by first | exact rg_b01 _ | (unfold rg; omega)) (fun c114 => ?_) (fun c114 => absurd c114 (by decide))
        refine eR_aldn_0 dX9_takeClause_149 rfl ?_
        refine eR_ic dX9_takeClause_150 ?_
        refine eR_bi (z := 103) dX9_takeClause_151 rfl ?_
        refine eR_bi (z := 111) dX9_takeClause_153 rfl ?_
        refine eR_bi (z := 101) dX9_takeClause_155 rfl ?_
        refine eR_bi (z := 115) dX9_takeClause_157 rfl ?_
        refine eR_ic dX9_takeClause_159 ?_
        refine eR_ic dX9_takeClause_160 ?_
        refine eR_callVi [_, _, _, _, _, _, _] rfl dX9_takeClause_161 ok_mX9_isWord kw_980 rfl rfl th_205 rfl (Nat.le_of_ble_eq_true rfl) (d' := 0) (by decide) (Nat.le_of_ble_eq_true rfl) ?_
        refine sp_isWord2 (i := i) (e := e9) (l := wGo) B Th2 (by omega) (by omega) (by decide) (getD_lt (by decide)) Fh2 c2 (fun w161 => ?_) (fun w161 => ?_)
        · refine eR_if_eq (tgt := 200) dX9_takeClause_164 (by decide) (by first | exact rg_b01 _ | (unfold rg; omega)) (fun c164 => absurd c164 (by decide)) (fun c164 => ?_)
          refine eR_aldn_0 dX9_takeClause_167 rfl ?_
          refine eR_aldn_0 dX9_takeClause_168 rfl ?_
          refine eR_getR (i := 217) dX9_takeClause_169 gf_X9_44 th_205 rfl ?_
          refine eR_bi (z := 6) dX9_takeClause_172 rfl ?_
          refine eR_iald (n := 6) dX9_takeClause_174 th_217 (rfl) (by decide) (by decide) ?_
          refine eX_pcI (Vh2.2.2.1) ?_
          refine eR_bi (z := 10) dX9_takeClause_175 rfl ?_
          refine eR_icmp_ge (tgt := 184) dX9_takeClause_177 (by decide) (by first | exact rg_b01 _ | (unfold rg; omega)) (by first | exact rg_b01 _ | (unfold rg; omega)) (fun c177 => ?_) (fun c177 => ?_)
          · refine eR_ic dX9_takeClause_184 ?_
            refine eR_ic dX9_takeClause_185 ?_
            refine eR_ildn_1 dX9_takeClause_186 rfl ?_
            refine eR_callVi [_, _, _] rfl dX9_takeClause_187 ok_mX9_want kw_984 rfl rfl th_205 rfl (Nat.le_of_ble_eq_true rfl) (d' := 0) (by decide) (Nat.le_of_ble_eq_true rfl) ?_
            refine sp_want_n (nb := 3) Oh2 (by decide) (by decide) ?_
            refine eR_if_eq (tgt := 311) dX9_takeClause_190 (by decide) (by first | exact rg_b01 _ | (unfold rg; omega)) (fun c190 => ?_) (fun c190 => absurd c190 (by decide))
            refine eR_vret dX9_takeClause_311 rfl ?_
            obtain ⟨g84_, hg84_⟩ : ∃ g9, g9 = hU h2 205 17 ↑(3 : Nat) := ⟨_, rfl⟩
            rw [← hg84_]
            have Tg84_ : mT g84_ T n := by rw [hg84_]; exact mT_w Th2 (by omega) (by decide)
            have Pg84_ : pF h g84_ := by rw [hg84_]; exact pF_w Ph2 (by unfold pS; omega)
            have Vg84_ : pV g84_ U := by rw [hg84_]; exact pV_w Vh2 (by unfold vS; omega)
            have Ag84_ : g84_ 205 14 = ((e9 : Nat) : Int) := by rw [hg84_, hU_ne (by omega)]; exact Ah2
            have Fg84_ : g84_ 205 15 = ((i : Nat) : Int) := by rw [hg84_, hU_ne (by omega)]; exact Fh2
            have Og84_ : g84_ 205 17 = (((3 : Nat) : Nat) : Int) := by rw [hg84_]; exact hU_s _ _ _ _
            have Xg84_ : g84_ 205 18 = (h 205 18 : Int) := by rw [hg84_, hU_ne (by omega)]; exact Xh2
            obtain ⟨g85_, hg85_⟩ : ∃ g9, g9 = hU g84_ 205 18 ↑i := ⟨_, rfl⟩
            rw [← hg85_]
            have Tg85_ : mT g85_ T n := by rw [hg85_]; exact mT_w Tg84_ (by omega) (by decide)
            have Pg85_ : pF h g85_ := by rw [hg85_]; exact pF_w Pg84_ (by unfold pS; omega)
            have Vg85_ : pV g85_ U := by rw [hg85_]; exact pV_w Vg84_ (by unfold vS; omega)
            have Ag85_ : g85_ 205 14 = ((e9 : Nat) : Int) := by rw [hg85_, hU_ne (by omega)]; exact Ag84_
            have Fg85_ : g85_ 205 15 = ((i : Nat) : Int) := by rw [hg85_, hU_ne (by omega)]; exact Fg84_
            have Og85_ : g85_ 205 17 = (((3 : Nat) : Nat) : Int) := by rw [hg85_, hU_ne (by omega)]; exact Og84_
            have Xg85_ : g85_ 205 18 = ((i : Nat) : Int) := by rw [hg85_]; exact hU_s _ _ _ _
            refine k g85_ (pE_l (x := ((3 : Nat), i)) ?_ Pg85_ Og85_ Xg85_)
            unfold clz
            rw [← he9]
            (repeat' split) <;> first | rfl | contradiction | omega
          · refine eR_ic dX9_takeClause_180 ?_
            refine eR_goto (tgt := 185) dX9_takeClause_181 (by decide) ?_
            refine eR_ic dX9_takeClause_185 ?_
            refine eR_ildn_1 dX9_takeClause_186 rfl ?_
            refine eR_callVi [_, _, _] rfl dX9_takeClause_187 ok_mX9_want kw_984 rfl rfl th_205 rfl (Nat.le_of_ble_eq_true rfl) (d' := 0) (by decide) (Nat.le_of_ble_eq_true rfl) ?_
            refine sp_want_y (nb := 3) Oh2 ?_
            refine eR_if_eq (tgt := 311) dX9_takeClause_190 (by decide) (by first | exact rg_b01 _ | (unfold rg; omega)) (fun c190 => absurd c190 (by decide)) (fun c190 => ?_)
            refine eR_aldn_0 dX9_takeClause_193 rfl ?_
            refine eR_callVv [] rfl dX9_takeClause_194 ok_mX9_takeErrand kw_1003 rfl rfl th_205 rfl (Nat.le_of_ble_eq_true rfl) (d' := 3) (by decide) (Nat.le_of_ble_eq_true rfl) ?_
            refine sp_takeErrand (U := U) (i := e9) B Th2 uBh Vh2 (by omega) Ah2 Oh2 (by omega) (by omega) (fun h3 r3 => ?_)
            refine eR_goto (tgt := 311) dX9_takeClause_197 (by decide) ?_
            refine eR_vret dX9_takeClause_311 rfl ?_
            refine k h3 (pE_tr Ph2 Xh2 ?_)
            have e8 : clz T n U i = rdG T n U e9 := by
              unfold clz
              rw [← he9]
              (repeat' split) <;> first | rfl | contradiction | omega
            rw [e8]
            exact r3
        · refine eR_if_eq (tgt := 200) dX9_takeClause_164 (by decide) (by first | exact rg_b01 _ | (unfold rg; omega)) (fun c164 => ?_) (fun c164 => absurd c164 (by decide))
          refine eR_aldn_0 dX9_takeClause_200 rfl ?_
          refine eR_ic dX9_takeClause_201 ?_
          refine eR_bi (z := 108) dX9_takeClause_202 rfl ?_
          refine eR_bi (z := 105) dX9_takeClause_204 rfl ?_
          refine eR_bi (z := 107) dX9_takeClause_206 rfl ?_
          refine eR_bi (z := 101) dX9_takeClause_208 rfl ?_
          refine eR_bi (z := 115) dX9_takeClause_210 rfl ?_
          refine eR_ic dX9_takeClause_212 ?_
          refine eR_callVi [_, _, _, _, _, _, _] rfl dX9_takeClause_213 ok_mX9_isWord kw_980 rfl rfl th_205 rfl (Nat.le_of_ble_eq_true rfl) (d' := 0) (by decide) (Nat.le_of_ble_eq_true rfl) ?_
          refine sp_isWord2 (i := i) (e := e9) (l := wLi) B Th2 (by omega) (by omega) (by decide) (getD_lt (by decide)) Fh2 c2 (fun w213 => ?_) (fun w213 => ?_)
          · refine eR_if_eq (tgt := 249) dX9_takeClause_216 (by decide) (by first | exact rg_b01 _ | (unfold rg; omega)) (fun c216 => absurd c216 (by decide)) (fun c216 => ?_)
            refine eR_aldn_0 dX9_takeClause_219 rfl ?_
            refine eR_aldn_0 dX9_takeClause_220 rfl ?_
            refine eR_getI dX9_takeClause_221 gf_X9_122 th_205 rfl ?_
            refine eX_pcI (Vh2.2.2.2.2.2.2.1) ?_
            refine eR_bi (z := 30) dX9_takeClause_224 rfl ?_
            refine eR_icmp_ge (tgt := 233) dX9_takeClause_226 (by decide) (by first | exact rg_b01 _ | (unfold rg; omega)) (by first | exact rg_b01 _ | (unfold rg; omega)) (fun c226 => ?_) (fun c226 => ?_)
            · refine eR_ic dX9_takeClause_233 ?_
              refine eR_ic dX9_takeClause_234 ?_
              refine eR_ildn_1 dX9_takeClause_235 rfl ?_
              refine eR_callVi [_, _, _] rfl dX9_takeClause_236 ok_mX9_want kw_984 rfl rfl th_205 rfl (Nat.le_of_ble_eq_true rfl) (d' := 0) (by decide) (Nat.le_of_ble_eq_true rfl) ?_
              refine sp_want_n (nb := 3) Oh2 (by decide) (by decide) ?_
              refine eR_if_eq (tgt := 311) dX9_takeClause_239 (by decide) (by first | exact rg_b01 _ | (unfold rg; omega)) (fun c239 => ?_) (fun c239 => absurd c239 (by decide))
              refine eR_vret dX9_takeClause_311 rfl ?_
              obtain ⟨g86_, hg86_⟩ : ∃ g9, g9 = hU h2 205 17 ↑(3 : Nat) := ⟨_, rfl⟩
              rw [← hg86_]
              have Tg86_ : mT g86_ T n := by rw [hg86_]; exact mT_w Th2 (by omega) (by decide)
              have Pg86_ : pF h g86_ := by rw [hg86_]; exact pF_w Ph2 (by unfold pS; omega)
              have Vg86_ : pV g86_ U := by rw [hg86_]; exact pV_w Vh2 (by unfold vS; omega)
              have Ag86_ : g86_ 205 14 = ((e9 : Nat) : Int) := by rw [hg86_, hU_ne (by omega)]; exact Ah2
              have Fg86_ : g86_ 205 15 = ((i : Nat) : Int) := by rw [hg86_, hU_ne (by omega)]; exact Fh2
              have Og86_ : g86_ 205 17 = (((3 : Nat) : Nat) : Int) := by rw [hg86_]; exact hU_s _ _ _ _
              have Xg86_ : g86_ 205 18 = (h 205 18 : Int) := by rw [hg86_, hU_ne (by omega)]; exact Xh2
              obtain ⟨g87_, hg87_⟩ : ∃ g9, g9 = hU g86_ 205 18 ↑i := ⟨_, rfl⟩
              rw [← hg87_]
              have Tg87_ : mT g87_ T n := by rw [hg87_]; exact mT_w Tg86_ (by omega) (by decide)
              have Pg87_ : pF h g87_ := by rw [hg87_]; exact pF_w Pg86_ (by unfold pS; omega)
              have Vg87_ : pV g87_ U := by rw [hg87_]; exact pV_w Vg86_ (by unfold vS; omega)
              have Ag87_ : g87_ 205 14 = ((e9 : Nat) : Int) := by rw [hg87_, hU_ne (by omega)]; exact Ag86_
              have Fg87_ : g87_ 205 15 = ((i : Nat) : Int) := by rw [hg87_, hU_ne (by omega)]; exact Fg86_
              have Og87_ : g87_ 205 17 = (((3 : Nat) : Nat) : Int) := by rw [hg87_, hU_ne (by omega)]; exact Og86_
              have Xg87_ : g87_ 205 18 = ((i : Nat) : Int) := by rw [hg87_]; exact hU_s _ _ _ _
              refine k g87_ (pE_l (x := ((3 : Nat), i)) ?_ Pg87_ Og87_ Xg87_)
              unfold clz
              rw [← he9]
              (repeat' split) <;> first | rfl | contradiction | omega
            · refine eR_ic dX9_takeClause_229 ?_
              refine eR_goto (tgt := 234) dX9_takeClause_230 (by decide) ?_
              refine eR_ic dX9_takeClause_234 ?_
              refine eR_ildn_1 dX9_takeClause_235 rfl ?_
              refine eR_callVi [_, _, _] rfl dX9_takeClause_236 ok_mX9_want kw_984 rfl rfl th_205 rfl (Nat.le_of_ble_eq_true rfl) (d' := 0) (by decide) (Nat.le_of_ble_eq_true rfl) ?_
              refine sp_want_y (nb := 3) Oh2 ?_
              refine eR_if_eq (tgt := 311) dX9_takeClause_239 (by decide) (by first | exact rg_b01 _ | (unfold rg; omega)) (fun c239 => absurd c239 (by decide)) (fun c239 => ?_)
              refine eR_aldn_0 dX9_takeClause_242 rfl ?_
              refine eR_callVv [] rfl dX9_takeClause_243 ok_mX9_takeLike kw_1011 rfl rfl th_205 rfl (Nat.le_of_ble_eq_true rfl) (d' := 3) (by decide) (Nat.le_of_ble_eq_true rfl) ?_
              refine sp_takeLike (U := U) (i := e9) B Th2 uBh Vh2 (by omega) Ah2 Oh2 (by omega) (fun h3 r3 => ?_)
              refine eR_goto (tgt := 311) dX9_takeClause_246 (by decide) ?_
              refine eR_vret dX9_takeClause_311 rfl ?_
              refine k h3 (pE_tr Ph2 Xh2 ?_)
              have e8 : clz T n U i = rdL T n U e9 := by
                unfold clz
                rw [← he9]
                (repeat' split) <;> first | rfl | contradiction | omega
              rw [e8]
              exact r3
          · refine eR_if_eq (tgt := 249) dX9_takeClause_216 (by decide) (by first | exact rg_b01 _ | (unfold rg; omega)) (fun c216 => ?_) (fun c216 => absurd c216 (by decide))
            refine eR_aldn_0 dX9_takeClause_249 rfl ?_
            refine eR_aldn_0 dX9_takeClause_250 rfl ?_
            refine eR_ic dX9_takeClause_251 ?_
            refine eR_bi (z := 102) dX9_takeClause_252 rfl ?_
            refine eR_bi (z := 114) dX9_takeClause_254 rfl ?_
            refine eR_bi (z := 111) dX9_takeClause_256 rfl ?_
            refine eR_bi (z := 115) dX9_takeClause_258 rfl ?_
            refine eR_bi (z := 116) dX9_takeClause_260 rfl ?_
            refine eR_ic dX9_takeClause_262 ?_
            refine eR_callVi [_, _, _, _, _, _, _] rfl dX9_takeClause_263 ok_mX9_isWord kw_980 rfl rfl th_205 rfl (Nat.le_of_ble_eq_true rfl) (d' := 0) (by decide) (Nat.le_of_ble_eq_true rfl) ?_
            refine sp_isWord2 (i := i) (e := e9) (l := wFr) B Th2 (by omega) (by omega) (by decide) (getD_lt (by decide)) Fh2 c2 (fun w263 => ?_) (fun w263 => ?_)
            · refine eR_ic dX9_takeClause_266 ?_
              refine eR_ildn_1 dX9_takeClause_267 rfl ?_
              refine eR_callVi [_, _, _] rfl dX9_takeClause_268 ok_mX9_want kw_984 rfl rfl th_205 rfl (Nat.le_of_ble_eq_true rfl) (d' := 0) (by decide) (Nat.le_of_ble_eq_true rfl) ?_
              refine sp_want_y (nb := 1) Oh2 ?_
              refine eR_if_eq (tgt := 311) dX9_takeClause_271 (by decide) (by first | exact rg_b01 _ | (unfold rg; omega)) (fun c271 => absurd c271 (by decide)) (fun c271 => ?_)
              refine eR_aldn_0 dX9_takeClause_274 rfl ?_
              refine eR_aldn_0 dX9_takeClause_275 rfl ?_
              refine eR_getZ dX9_takeClause_276 gf_X9_141 th_205 rfl ?_
              refine eX_pcI (Vh2.2.2.2.2.2.2.2.2) ?_
              refine eR_if_ne (tgt := 286) dX9_takeClause_279 (by decide) (by first | exact rg_b01 _ | (unfold rg; omega)) (fun c279 => ?_) (fun c279 => ?_)
              · refine eR_ic dX9_takeClause_286 ?_
                refine eR_ic dX9_takeClause_287 ?_
                refine eR_ildn_1 dX9_takeClause_288 rfl ?_
                refine eR_callVi [_, _, _] rfl dX9_takeClause_289 ok_mX9_want kw_984 rfl rfl th_205 rfl (Nat.le_of_ble_eq_true rfl) (d' := 0) (by decide) (Nat.le_of_ble_eq_true rfl) ?_
                refine sp_want_n (nb := 3) Oh2 (by decide) (by decide) ?_
                refine eR_if_eq (tgt := 311) dX9_takeClause_292 (by decide) (by first | exact rg_b01 _ | (unfold rg; omega)) (fun c292 => ?_) (fun c292 => absurd c292 (by decide))
                refine eR_vret dX9_takeClause_311 rfl ?_
                obtain ⟨g88_, hg88_⟩ : ∃ g9, g9 = hU h2 205 17 ↑(3 : Nat) := ⟨_, rfl⟩
                rw [← hg88_]
                have Tg88_ : mT g88_ T n := by rw [hg88_]; exact mT_w Th2 (by omega) (by decide)
                have Pg88_ : pF h g88_ := by rw [hg88_]; exact pF_w Ph2 (by unfold pS; omega)
                have Vg88_ : pV g88_ U := by rw [hg88_]; exact pV_w Vh2 (by unfold vS; omega)
                have Ag88_ : g88_ 205 14 = ((e9 : Nat) : Int) := by rw [hg88_, hU_ne (by omega)]; exact Ah2
                have Fg88_ : g88_ 205 15 = ((i : Nat) : Int) := by rw [hg88_, hU_ne (by omega)]; exact Fh2
                have Og88_ : g88_ 205 17 = (((3 : Nat) : Nat) : Int) := by rw [hg88_]; exact hU_s _ _ _ _
                have Xg88_ : g88_ 205 18 = (h 205 18 : Int) := by rw [hg88_, hU_ne (by omega)]; exact Xh2
                obtain ⟨g89_, hg89_⟩ : ∃ g9, g9 = hU g88_ 205 18 ↑i := ⟨_, rfl⟩
                rw [← hg89_]
                have Tg89_ : mT g89_ T n := by rw [hg89_]; exact mT_w Tg88_ (by omega) (by decide)
                have Pg89_ : pF h g89_ := by rw [hg89_]; exact pF_w Pg88_ (by unfold pS; omega)
                have Vg89_ : pV g89_ U := by rw [hg89_]; exact pV_w Vg88_ (by unfold vS; omega)
                have Ag89_ : g89_ 205 14 = ((e9 : Nat) : Int) := by rw [hg89_, hU_ne (by omega)]; exact Ag88_
                have Fg89_ : g89_ 205 15 = ((i : Nat) : Int) := by rw [hg89_, hU_ne (by omega)]; exact Fg88_
                have Og89_ : g89_ 205 17 = (((3 : Nat) : Nat) : Int) := by rw [hg89_, hU_ne (by omega)]; exact Og88_
                have Xg89_ : g89_ 205 18 = ((i : Nat) : Int) := by rw [hg89_]; exact hU_s _ _ _ _
                refine k g89_ (pE_l (x := ((3 : Nat), i)) ?_ Pg89_ Og89_ Xg89_)
                unfold clz
                rw [← he9]
                (repeat' split) <;> first | rfl | contradiction | omega
              · refine eR_ic dX9_takeClause_282 ?_
                refine eR_goto (tgt := 287) dX9_takeClause_283 (by decide) ?_
                refine eR_ic dX9_takeClause_287 ?_
                refine eR_ildn_1 dX9_takeClause_288 rfl ?_
                refine eR_callVi [_, _, _] rfl dX9_takeClause_289 ok_mX9_want kw_984 rfl rfl th_205 rfl (Nat.le_of_ble_eq_true rfl) (d' := 0) (by decide) (Nat.le_of_ble_eq_true rfl) ?_
                refine sp_want_y (nb := 3) Oh2 ?_
                refine eR_if_eq (tgt := 311) dX9_takeClause_292 (by decide) (by first | exact rg_b01 _ | (unfold rg; omega)) (fun c292 => absurd c292 (by decide)) (fun c292 => ?_)
                refine eR_aldn_0 dX9_takeClause_295 rfl ?_
                refine eR_ic dX9_takeClause_296 ?_
                refine eR_putZ (by omega) dX9_takeClause_297 pf_X9_141 th_205 rfl ?_
                refine eR_aldn_0 dX9_takeClause_300 rfl ?_
                refine eR_aldn_0 dX9_takeClause_301 rfl ?_
                refine eR_ic dX9_takeClause_302 ?_
                refine eR_bi (z := 99) dX9_takeClause_303 rfl ?_
                obtain ⟨g90_, hg90_⟩ : ∃ g9, g9 = hU h2 205 21 1 := ⟨_, rfl⟩
                rw [← hg90_]
                have Tg90_ : mT g90_ T n := by rw [hg90_]; exact mT_w Th2 (by omega) (by decide)
                have Pg90_ : pF h g90_ := by rw [hg90_]; exact pF_w Ph2 (by unfold pS; omega)
                have Ag90_ : g90_ 205 14 = ((e9 : Nat) : Int) := by rw [hg90_, hU_ne (by omega)]; exact Ah2
                have Fg90_ : g90_ 205 15 = ((i : Nat) : Int) := by rw [hg90_, hU_ne (by omega)]; exact Fh2
                have Og90_ : g90_ 205 17 = (0 : Int) := by rw [hg90_, hU_ne (by omega)]; exact Oh2
                have Xg90_ : g90_ 205 18 = (h 205 18 : Int) := by rw [hg90_, hU_ne (by omega)]; exact Xh2
                refine eR_callVi [_, _] rfl dX9_takeClause_305 ok_mX9_takeNumber kw_988 rfl rfl th_205 rfl (Nat.le_of_ble_eq_true rfl) (d' := 1) (by decide) (Nat.le_of_ble_eq_true rfl) ?_
                refine sp_takeNumber (i := e9) (lo := 0) (hi := 99) B Tg90_ (by omega) (by decide) (by decide) Ag90_ Og90_ (fun x91_ vx91_ f92_ ex91_ hvx91_ px91_ ox91_ fx91_ => ?_) (fun x91_ h93_ ex91_ px91_ ax91_ bx91_ ox91_ fx91_ => ?_)
                · have nx91_ := num_l (by omega) ex91_
                  have Tf92_ : mT f92_ T n := mT_p Tg90_ px91_
                  have Pf92_ : pF h f92_ := pF_tr Pg90_ (pF_of px91_)
                  have Of92_ : f92_ 205 17 = ((x91_.1 : Nat) : Int) := ox91_
                  have Xf92_ : f92_ 205 18 = ((x91_.2 : Nat) : Int) := fx91_
                  refine eR_putI dX9_takeClause_308 pf_X9_145 th_205 rfl ?_
                  refine eR_vret dX9_takeClause_311 rfl ?_
                  obtain ⟨g94_, hg94_⟩ : ∃ g9, g9 = hU f92_ 205 20 ↑vx91_ := ⟨_, rfl⟩
                  rw [← hg94_]
                  have Tg94_ : mT g94_ T n := by rw [hg94_]; exact mT_w Tf92_ (by omega) (by decide)
                  have Pg94_ : pF h g94_ := by rw [hg94_]; exact pF_w Pf92_ (by unfold pS; omega)
                  have Og94_ : g94_ 205 17 = ((x91_.1 : Nat) : Int) := by rw [hg94_, hU_ne (by omega)]; exact Of92_
                  have Xg94_ : g94_ 205 18 = ((x91_.2 : Nat) : Int) := by rw [hg94_, hU_ne (by omega)]; exact Xf92_
                  refine k g94_ (pE_l (x := (x91_.1, x91_.2)) ?_ Pg94_ Og94_ Xg94_)
                  unfold clz
                  rw [← he9]
                  (repeat' split) <;> first | rfl | contradiction | omega | (unfold rdP; simp only [ex91_]) | (unfold rdF; simp only [ex91_])
                · have nx91_ := num_r (by omega) ex91_
                  have Th93_ : mT h93_ T n := mT_p Tg90_ px91_
                  have Ph93_ : pF h h93_ := pF_tr Pg90_ (pF_of px91_)
                  have Ah93_ : h93_ 205 14 = ((x91_.2.2 : Nat) : Int) := ax91_
                  have Fh93_ : h93_ 205 15 = ((x91_.2.1 : Nat) : Int) := bx91_
                  have Oh93_ : h93_ 205 17 = (0 : Int) := ox91_
                  have Xh93_ : h93_ 205 18 = (h 205 18 : Int) := fx91_.trans Xg90_
                  refine eR_putI dX9_takeClause_308 pf_X9_145 th_205 rfl ?_
                  refine eR_vret dX9_takeClause_311 rfl ?_
                  refine k _ (pE_r (U := adF U x91_.1) (j := x91_.2.2) ?_ (pF_w Ph93_ (by unfold pS; omega)) (pV_adF Vh2 (by rw [← hg90_]; exact px91_)) ((hU_ne (by omega)).trans Ah93_) ((hU_ne (by omega)).trans Oh93_) ((hU_ne (by omega)).trans Xh93_))
                  unfold clz
                  rw [← he9]
                  (repeat' split) <;> first | rfl | contradiction | omega | (unfold rdF; simp only [ex91_])
            · refine eR_ic dX9_takeClause_266 ?_
              refine eR_ildn_1 dX9_takeClause_267 rfl ?_
              refine eR_callVi [_, _, _] rfl dX9_takeClause_268 ok_mX9_want kw_984 rfl rfl th_205 rfl (Nat.le_of_ble_eq_true rfl) (d' := 0) (by decide) (Nat.le_of_ble_eq_true rfl) ?_
              refine sp_want_n (nb := 1) Oh2 (by decide) (by decide) ?_
              refine eR_if_eq (tgt := 311) dX9_takeClause_271 (by decide) (by first | exact rg_b01 _ | (unfold rg; omega)) (fun c271 => ?_) (fun c271 => absurd c271 (by decide))
              refine eR_vret dX9_takeClause_311 rfl ?_
              obtain ⟨g95_, hg95_⟩ : ∃ g9, g9 = hU h2 205 17 ↑(1 : Nat) := ⟨_, rfl⟩
              rw [← hg95_]
              have Tg95_ : mT g95_ T n := by rw [hg95_]; exact mT_w Th2 (by omega) (by decide)
              have Pg95_ : pF h g95_ := by rw [hg95_]; exact pF_w Ph2 (by unfold pS; omega)
              have Vg95_ : pV g95_ U := by rw [hg95_]; exact pV_w Vh2 (by unfold vS; omega)
              have Ag95_ : g95_ 205 14 = ((e9 : Nat) : Int) := by rw [hg95_, hU_ne (by omega)]; exact Ah2
              have Fg95_ : g95_ 205 15 = ((i : Nat) : Int) := by rw [hg95_, hU_ne (by omega)]; exact Fh2
              have Og95_ : g95_ 205 17 = (((1 : Nat) : Nat) : Int) := by rw [hg95_]; exact hU_s _ _ _ _
              have Xg95_ : g95_ 205 18 = (h 205 18 : Int) := by rw [hg95_, hU_ne (by omega)]; exact Xh2
              obtain ⟨g96_, hg96_⟩ : ∃ g9, g9 = hU g95_ 205 18 ↑i := ⟨_, rfl⟩
              rw [← hg96_]
              have Tg96_ : mT g96_ T n := by rw [hg96_]; exact mT_w Tg95_ (by omega) (by decide)
              have Pg96_ : pF h g96_ := by rw [hg96_]; exact pF_w Pg95_ (by unfold pS; omega)
              have Vg96_ : pV g96_ U := by rw [hg96_]; exact pV_w Vg95_ (by unfold vS; omega)
              have Ag96_ : g96_ 205 14 = ((e9 : Nat) : Int) := by rw [hg96_, hU_ne (by omega)]; exact Ag95_
              have Fg96_ : g96_ 205 15 = ((i : Nat) : Int) := by rw [hg96_, hU_ne (by omega)]; exact Fg95_
              have Og96_ : g96_ 205 17 = (((1 : Nat) : Nat) : Int) := by rw [hg96_, hU_ne (by omega)]; exact Og95_
              have Xg96_ : g96_ 205 18 = ((i : Nat) : Int) := by rw [hg96_]; exact hU_s _ _ _ _
              refine k g96_ (pE_l (x := ((1 : Nat), i)) ?_ Pg96_ Og96_ Xg96_)
              unfold clz
              rw [← he9]
              (repeat' split) <;> first | rfl | contradiction | omega
end M36
