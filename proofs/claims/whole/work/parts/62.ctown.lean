theorem eX_tau {g : EG} {d : Nat} {M : MM} {pc : Nat} {lv : List (Nat × Value)} {st : List Value} {τ τ' : List Kd} {h : PH} {Q : EQ} (e : τ = τ') (k : eX g d M pc lv st τ' h Q) : eX g d M pc lv st τ h Q := by rw [e]; exact k
theorem tau_sw (t s : Nat) : ((tau t s).set 0 (0, 8, ([1 + 4, 3 + 4, 34 + 4, 37 + 4, 38 + 4, 70 + 4, 102 + 4, t + 4, s + 4, 2, 0] : List Nat).set 7 (s + 4))).set 0 (0, 8, (([1 + 4, 3 + 4, 34 + 4, 37 + 4, 38 + 4, 70 + 4, 102 + 4, t + 4, s + 4, 2, 0] : List Nat).set 7 (s + 4)).set 8 (t + 4)) = tau s t := by
  apply List.ext_getElem?
  intro k
  by_cases hk : k < 224
  · rw [tau_at hk]
    by_cases h0 : k = 0
    · subst h0
      rw [List.getElem?_set, if_pos rfl, if_pos (by rw [List.length_set]; simp [tau])]
      rfl
    · rw [List.getElem?_set, if_neg (fun q => h0 q.symm), List.getElem?_set, if_neg (fun q => h0 q.symm), tau_at hk]
      refine congrArg some ?_
      unfold tauF tauA
      rw [if_neg h0, if_neg h0]
  · rw [List.getElem?_eq_none (by simp [tau]; omega), List.getElem?_eq_none (by simp [tau]; omega)]
theorem tau_s1 (t s : Nat) {x : Kd} : ((tau t s).set 0 x)[0]? = some x := by
  rw [List.getElem?_set, if_pos rfl, if_pos (by simp [tau])]
/-- what may change as a text becomes the town -/
def twC (s : Nat) (h h1 : PH) : Prop := ∀ a i, ¬ ((a = 0 ∧ i = 10) ∨ a = 1 ∨ (s ≤ a ∧ a < s + 41) ∨ (a = 38 ∧ i = 1) ∨ (a = 70 ∧ i = 1) ∨ ((a = 103 ∨ a = 113) ∧ i = 0)) → h1 a i = h a i
theorem twC_c {s : Nat} {h h1 : PH} (p : cG s h h1) : twC s h h1 := fun a i q => p a i (by omega)
theorem twC_w {s a i : Nat} {z : Int} {h h1 : PH} (p : twC s h h1) (q : (a = 0 ∧ i = 10) ∨ a = 1 ∨ (s ≤ a ∧ a < s + 41) ∨ (a = 38 ∧ i = 1) ∨ (a = 70 ∧ i = 1) ∨ ((a = 103 ∨ a = 113) ∧ i = 0)) : twC s h (hU h1 a i z) := fun x j r => by rw [hU_ne2 (by rintro ⟨e1, e2⟩; subst e1; subst e2; exact r q)]; exact p x j r
/-- and as one does not -/
def twD (s : Nat) (h h1 : PH) : Prop := ∀ a i, ¬ ((a = 0 ∧ i = 10) ∨ a = 1 ∨ (s ≤ a ∧ a < s + 41)) → h1 a i = h a i
theorem twD_c {s : Nat} {h h1 : PH} (p : cG s h h1) : twD s h h1 := fun a i q => p a i (by omega)
theorem twD_w {s a i : Nat} {z : Int} {h h1 : PH} (p : twD s h h1) (q : (a = 0 ∧ i = 10) ∨ a = 1 ∨ (s ≤ a ∧ a < s + 41)) : twD s h (hU h1 a i z) := fun x j r => by rw [hU_ne2 (by rintro ⟨e1, e2⟩; subst e1; subst e2; exact r q)]; exact p x j r
section M62
variable {g : EG} {d t s u : Nat} {h h1 : PH} {Q : EQ} {S : TS}
theorem ct_town (hF : gF g = true) (T2 : isTn (tau t s) s) (T2s : isTn (tau s t) s) (hs123 : 123 ≤ s) {n : Nat} {TX : Nat → Nat} (B0 : tB TX n) (C0 : cT h TX n) (kf : ∀ (x : Nat × Nat) (h2 : PH), prs TX n 400 uZ 0 = .inl x → (1 ≤ x.1 ∧ x.1 ≤ 4 ∧ x.2 ≤ n) → twD s h h2 → h2 1 1 = 0 → h2 0 10 = (x.2 : Int) → Q (.int (zI (-10 - ↑x.1))) (tau t s) h2) (kk : ∀ (U : PU) (j : Nat) (h2 : PH), prs TX n 400 uZ 0 = .inr (U, j) → uD U → twC s h h2 → h2 1 1 = 0 → h2 0 10 = -1 → cV h2 s U.1 → h2 38 1 = 0 → h2 70 1 = 0 → h2 103 0 = 0 → h2 113 0 = 0 → Q (.int (zI ↑(sC U.1))) (tau s t) h2) : eX g 8 mX8_town 0 (lv_args 0 [.ref (gA g 0)]) [] (tau t s) h Q := by
  show eX g 8 mX8_town 0 [(0, .ref (gA g 0))] [] (tau t s) h Q
  have h123 : 38 ≤ s := by omega
  refine eR_aldn_0 dX8_town_0 rfl ?_
  refine eR_getR (i := 1) dX8_town_1 gf_X8_10 th_0 rfl ?_
  refine eR_aldn_0 dX8_town_4 rfl ?_
  refine eR_getR (i := s) dX8_town_5 gf_X8_61 th_0 rfl ?_
  refine eR_callVi [_] rfl dX8_town_8 ok_mX4_readInto kw_360 rfl rfl th_1 rfl (Nat.le_of_ble_eq_true rfl) (d' := 7) (by decide) (Nat.le_of_ble_eq_true rfl) ?_
  refine kt_into (n := n) (T := TX) hF B0 C0 T2 h123 (fun x h2 e9 ho9 G2 x2 => ?_) (fun U j h2 e9 W2 G2 x2 V2 => ?_)
  · refine eR_istn_n1 dX8_town_11 rfl (by decide) rfl ?_
    refine eR_aldn_0 dX8_town_12 rfl ?_
    refine eR_aldn_0 dX8_town_13 rfl ?_
    refine eR_getR (i := 1) dX8_town_14 gf_X8_10 th_0 rfl ?_
    refine eR_callVi [] rfl dX8_town_17 ok_mX4_foundPlace kw_502 rfl rfl th_1 rfl (Nat.le_of_ble_eq_true rfl) (d' := 0) (by decide) (Nat.le_of_ble_eq_true rfl) ?_
    refine kt_found x2 ?_
    refine eR_putI dX8_town_20 pf_X8_68 th_0 rfl ?_
    refine eR_aldn_0 dX8_town_23 rfl ?_
    refine eR_getR (i := 1) dX8_town_24 gf_X8_10 th_0 rfl ?_
    refine eR_callVv [] rfl dX8_town_27 ok_mX4_empty kw_506 rfl rfl th_1 rfl (Nat.le_of_ble_eq_true rfl) (d' := 0) (by decide) (Nat.le_of_ble_eq_true rfl) ?_
    refine kt_empty ?_
    refine eR_ildn_1 dX8_town_30 rfl ?_
    refine eR_if_eq (tgt := 39) dX8_town_31 (by decide) (by first | exact rg_b01 _ | (unfold rg; omega)) (fun c31 => absurd c31 (by omega)) (fun c31 => ?_)
    refine eR_bi (z := -10) dX8_town_34 rfl ?_
    refine eR_ildn_1 dX8_town_36 rfl ?_
    refine eR_isub dX8_town_37 ?_
    refine eR_iret dX8_town_38 rfl rfl ?_
    exact kf x _ e9 ho9 (twD_w (twD_w (twD_c G2) (by omega)) (by omega)) (hU_s _ _ _ _) (by rw [hU_ne2 (by omega)]; exact hU_s _ _ _ _)
  · refine eR_istn_n1 dX8_town_11 rfl (by decide) rfl ?_
    refine eR_aldn_0 dX8_town_12 rfl ?_
    refine eR_aldn_0 dX8_town_13 rfl ?_
    refine eR_getR (i := 1) dX8_town_14 gf_X8_10 th_0 rfl ?_
    refine eR_callVi [] rfl dX8_town_17 ok_mX4_foundPlace kw_502 rfl rfl th_1 rfl (Nat.le_of_ble_eq_true rfl) (d' := 0) (by decide) (Nat.le_of_ble_eq_true rfl) ?_
    refine kt_found x2 ?_
    refine eR_putI dX8_town_20 pf_X8_68 th_0 rfl ?_
    refine eR_aldn_0 dX8_town_23 rfl ?_
    refine eR_getR (i := 1) dX8_town_24 gf_X8_10 th_0 rfl ?_
    refine eR_callVv [] rfl dX8_town_27 ok_mX4_empty kw_506 rfl rfl th_1 rfl (Nat.le_of_ble_eq_true rfl) (d' := 0) (by decide) (Nat.le_of_ble_eq_true rfl) ?_
    refine kt_empty ?_
    refine eR_ildn_1 dX8_town_30 rfl ?_
    refine eR_if_eq (tgt := 39) dX8_town_31 (by decide) (by first | exact rg_b01 _ | (unfold rg; omega)) (fun c31 => ?_) (fun c31 => absurd c31 (by decide))
    refine eR_aldn_0 dX8_town_39 rfl ?_
    refine eR_getR (i := t) dX8_town_40 gf_X8_57 th_0 rfl ?_
    refine eR_astn_n2 dX8_town_43 rfl (by decide) rfl ?_
    refine eR_aldn_0 dX8_town_44 rfl ?_
    refine eR_aldn_0 dX8_town_45 rfl ?_
    refine eR_getR (i := s) dX8_town_46 gf_X8_61 th_0 rfl ?_
    refine eR_putR (i := s) dX8_town_49 pf_X8_57 th_0 (by simp) ?_
    refine eR_aldn_0 dX8_town_52 rfl ?_
    refine eR_aldn_2 dX8_town_53 rfl ?_
    refine eR_putR (i := t) dX8_town_54 pf_X8_61 (tau_s1 t s) (by simp) ?_
    refine eX_tau (tau_sw t s) ?_
    refine eR_aldn_0 dX8_town_57 rfl ?_
    refine eR_getR (i := 38) dX8_town_58 gf_X8_40 th_0 rfl ?_
    refine eR_callVv [] rfl dX8_town_61 ok_mX5_empty kw_510 rfl rfl th_38 rfl (Nat.le_of_ble_eq_true rfl) (d' := 0) (by decide) (Nat.le_of_ble_eq_true rfl) ?_
    refine rw_empty_sg ?_
    refine eR_aldn_0 dX8_town_64 rfl ?_
    refine eR_getR (i := 70) dX8_town_65 gf_X8_44 th_0 rfl ?_
    refine eR_callVv [] rfl dX8_town_68 ok_mX5_empty kw_510 rfl rfl th_70 rfl (Nat.le_of_ble_eq_true rfl) (d' := 0) (by decide) (Nat.le_of_ble_eq_true rfl) ?_
    refine rw_empty_bk ?_
    refine eR_ic dX8_town_71 ?_
    refine eR_istn_n3 dX8_town_72 rfl (by decide) rfl ?_
    refine eR_ildn_3 dX8_town_73 rfl ?_
    refine eR_ic dX8_town_74 ?_
    refine eR_icmp_ge (tgt := 94) dX8_town_75 (by decide) (by first | exact rg_b01 _ | (unfold rg; omega)) (by first | exact rg_b01 _ | (unfold rg; omega)) (fun c75 => absurd c75 (by decide)) (fun c75 => ?_)
    refine eR_aldn_0 dX8_town_78 rfl ?_
    refine eR_getR (i := 102) dX8_town_79 gf_X8_49 th_0 rfl ?_
    refine eR_ildn_3 dX8_town_82 rfl ?_
    refine eR_aald4 (n := 0) (i := 103) dX8_town_83 th_102 (rfl) (by decide) (by decide) (rfl) ?_
    refine eR_ic dX8_town_84 ?_
    refine eR_putZ (by omega) dX8_town_85 pf_X8_89 im_0.1 rfl ?_
    refine eR_iinc_3 dX8_town_88 (by decide) rfl ?_
    refine eR_goto (tgt := 73) dX8_town_91 (by decide) ?_
    refine eR_ildn_3 dX8_town_73 rfl ?_
    refine eR_ic dX8_town_74 ?_
    refine eR_icmp_ge (tgt := 94) dX8_town_75 (by decide) (by first | exact rg_b01 _ | (unfold rg; omega)) (by first | exact rg_b01 _ | (unfold rg; omega)) (fun c75 => absurd c75 (by decide)) (fun c75 => ?_)
    refine eR_aldn_0 dX8_town_78 rfl ?_
    refine eR_getR (i := 102) dX8_town_79 gf_X8_49 th_0 rfl ?_
    refine eR_ildn_3 dX8_town_82 rfl ?_
    refine eR_aald4 (n := 1) (i := 113) dX8_town_83 th_102 (rfl) (by decide) (by decide) (rfl) ?_
    refine eR_ic dX8_town_84 ?_
    refine eR_putZ (by omega) dX8_town_85 pf_X8_89 im_1.1 rfl ?_
    refine eR_iinc_3 dX8_town_88 (by decide) rfl ?_
    refine eR_goto (tgt := 73) dX8_town_91 (by decide) ?_
    refine eR_ildn_3 dX8_town_73 rfl ?_
    refine eR_ic dX8_town_74 ?_
    refine eR_icmp_ge (tgt := 94) dX8_town_75 (by decide) (by first | exact rg_b01 _ | (unfold rg; omega)) (by first | exact rg_b01 _ | (unfold rg; omega)) (fun c75 => ?_) (fun c75 => absurd c75 (by decide))
    have V9 : cV (hU (hU (hU (hU (hU (hU h2 0 10 (-1)) 1 1 0) 38 1 0) 70 1 0) 103 0 0) 113 0 0) s U.1 := cV_w W2.1.1 (cV_w W2.1.1 (cV_w W2.1.1 (cV_w W2.1.1 (cV_w W2.1.1 (cV_w W2.1.1 V2 (by omega)) (by omega)) (by omega)) (by omega)) (by omega)) (by omega)
    refine eR_aldn_0 dX8_town_94 rfl ?_
    refine eR_getR (i := s) dX8_town_95 gf_X8_57 th_0 rfl ?_
    refine eR_getI dX8_town_98 gf_X8_93 T2s.1 rfl ?_
    refine eX_pcI (congrFun (hU_a _ _ _ (by omega)) _) ?_
    refine eX_pcI (congrFun (hU_a _ _ _ (by omega)) _) ?_
    refine eX_pcI (congrFun (hU_a _ _ _ (by omega)) _) ?_
    refine eX_pcI (congrFun (hU_a _ _ _ (by omega)) _) ?_
    refine eX_pcI (congrFun (hU_a _ _ _ (by omega)) _) ?_
    refine eX_pcI (congrFun (hU_a _ _ _ (by omega)) _) ?_
    refine eX_pcI (show _ = ((sC U.1 : Nat) : Int) from V2.2.1) ?_
    refine eR_iret dX8_town_101 rfl rfl ?_
    refine kk U j _ e9 W2 (twC_w (twC_w (twC_w (twC_w (twC_w (twC_w (twC_c G2) (by omega)) (by omega)) (by omega)) (by omega)) (by omega)) (by omega)) ?_ ?_ V9 ?_ ?_ ?_ ?_
    · rw [hU_ne2 (by omega), hU_ne2 (by omega), hU_ne2 (by omega), hU_ne2 (by omega), hU_s]
    · rw [hU_ne2 (by omega), hU_ne2 (by omega), hU_ne2 (by omega), hU_ne2 (by omega), hU_ne2 (by omega), hU_s]
    · rw [hU_ne2 (by omega), hU_ne2 (by omega), hU_ne2 (by omega), hU_s]
    · rw [hU_ne2 (by omega), hU_ne2 (by omega), hU_s]
    · rw [hU_ne2 (by omega), hU_s]
    · rw [hU_s]
end M62
