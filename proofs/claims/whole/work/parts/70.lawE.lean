def vKd (k : Nat) : Value := match k with
  | 0 => .int 0
  | 1 => .int 0
  | 2 => .long 0
  | _ => .null
theorem n_dv {ty : Nat → FieldType} {ks : List Nat} {N : Nat} (hl : ks.length = N) (h1 : ∀ j, j < N → defaultValue (ty j) = vKd (ks.getD j 3) ∧ ks.getD j 3 < 4) : ∀ j, j < N → ∀ ad : Nat → Nat, defaultValue (ty j) = (ks.mapIdx (fun _ k => vK ad k 0)).getD j .null := by
  intro j hj ad
  obtain ⟨e1, e2⟩ := h1 j hj
  have hk : ks[j]? = some (ks.getD j 3) := by
    rw [List.getD, List.getElem?_eq_getElem (by omega)]
    rfl
  have hm : (ks.mapIdx (fun _ k => vK ad k 0)).getD j .null = vK ad (ks.getD j 3) 0 := by
    rw [List.getD, List.getElem?_mapIdx, hk]
    rfl
  rw [e1, hm]
  generalize ks.getD j 3 = k at e2
  match k, e2 with
  | 0, _ => rfl
  | 1, _ => rfl
  | 2, _ => rfl
  | 3, _ => rfl
  | k + 4, h9 => exact absurd h9 (by omega)
theorem nw_L_7 : nwOK RL 7 8 11 [3, 3, 3, 3, 3, 3, 3, 3, 3, 2, 0] := ⟨RX8, TX8, tyX8, rfl, inG8, tyX8_ok, kw_92, kw_93, kw_76, rfl, n_dv rfl (by decide +kernel)⟩
theorem nw_L_10 : nwOK RL 10 9 29 [3, 3, 3, 3, 3, 3, 3, 3, 3, 3, 3, 3, 3, 0, 0, 0, 0, 0, 0, 0, 0, 1, 3, 3, 3, 3, 0, 3, 0] := ⟨RX9, TX9, tyX9, rfl, inG9, tyX9_ok, kw_853, kw_854, kw_84, rfl, n_dv rfl (by decide +kernel)⟩
theorem sB_0 : sB uZ.1 := ⟨by decide, by decide, by decide, fun c hc => absurd hc (Nat.not_lt_zero c), fun c hc => absurd hc (Nat.not_lt_zero c), by decide, by decide, fun p q hp => absurd hp (Nat.not_lt_zero p)⟩
/-- the two worlds as they are made -/
theorem LI_0 {h4 h1 h2 : PH} (e4 : ∀ a i, ¬ (a = 1 ∧ i = 4) → h4 a i = 0) (o1 : ofR 123 (123 + 41) h4 h1) (o2 : ofR 164 (164 + 41) h1 h2) (R1 : rV h1 123 uZ) : LI 123 164 (hU (hU (hU h2 0 10 (-1)) (205 + 0) 18 (-1)) (205 + 1) 17 20) := by
  have E : ∀ a i, ¬ (a = 1 ∧ i = 4) → ¬ (123 ≤ a ∧ a < 205) → ¬ (a = 0 ∧ i = 10) → ¬ (a = 205 ∧ i = 18) → ¬ (a = 206 ∧ i = 17) → (hU (hU (hU h2 0 10 (-1)) (205 + 0) 18 (-1)) (205 + 1) 17 20) a i = 0 := fun a i q1 q2 q3 q4 q5 => by
    rw [hU_ne2 (by omega), hU_ne2 (by omega), hU_ne2 (by omega), o2 a (by omega), o1 a (by omega)]
    exact e4 a i q1
  have z10 : (hU (hU (hU h2 0 10 (-1)) (205 + 0) 18 (-1)) (205 + 1) 17 20) 0 10 = -1 := by rw [hU_ne2 (by omega), hU_ne2 (by omega), hU_s]
  have z18 : (hU (hU (hU h2 0 10 (-1)) (205 + 0) 18 (-1)) (205 + 1) 17 20) 205 18 = -1 := by rw [hU_ne2 (by omega)]; exact hU_s _ _ _ _
  have z17 : (hU (hU (hU h2 0 10 (-1)) (205 + 0) 18 (-1)) (205 + 1) 17 20) 206 17 = 20 := hU_s _ _ _ _
  have zt : cV (hU (hU (hU h2 0 10 (-1)) (205 + 0) 18 (-1)) (205 + 1) 17 20) 123 uZ.1 := cV_of sB_0 R1.1 (fun a q1 q2 => funext fun i => by rw [hU_ne2 (by omega), hU_ne2 (by omega), hU_ne2 (by omega), o2 a (by omega)])
  generalize hU (hU (hU h2 0 10 (-1)) (205 + 0) 18 (-1)) (205 + 1) 17 20 = h5 at E z10 z18 z17 zt ⊢
  refine ⟨Or.inl rfl, Or.inr rfl, by decide, (uZ.1, 0, fun _ => 0, 0, -1, 0, fun _ _ => 0, 0, fun _ _ => 0, fun _ => false, fun _ => uZ.1, fun _ => 0), ⟨sB_0, ⟨Nat.zero_le _, fun x hx => absurd hx (Nat.not_lt_zero x)⟩, by show (0 : Nat) < 2147483648; omega, ⟨by show (-2147483648 : Int) ≤ -1; omega, by show (-1 : Int) < 2147483648; omega⟩, ⟨Nat.zero_le _, fun x hx => absurd hx (Nat.not_lt_zero x)⟩, ⟨Nat.zero_le _, fun x hx => absurd hx (Nat.not_lt_zero x)⟩, fun m9 hm hk => by cases hk⟩, ?_, ?_⟩
  · exact ⟨zt, ⟨E _ _ (by omega) (by omega) (by omega) (by omega) (by omega), fun x hx => absurd hx (Nat.not_lt_zero x)⟩, E _ _ (by omega) (by omega) (by omega) (by omega) (by omega), z10, ⟨E _ _ (by omega) (by omega) (by omega) (by omega) (by omega), fun x hx => absurd hx (Nat.not_lt_zero x)⟩, ⟨E _ _ (by omega) (by omega) (by omega) (by omega) (by omega), fun x hx => absurd hx (Nat.not_lt_zero x)⟩, fun m9 hm => ⟨fun _ => E _ _ (by omega) (by omega) (by omega) (by omega) (by omega), fun hk => by cases hk⟩⟩
  · exact ⟨⟨E _ _ (by omega) (by omega) (by omega) (by omega) (by omega), E _ _ (by omega) (by omega) (by omega) (by omega) (by omega), E _ _ (by omega) (by omega) (by omega) (by omega) (by omega), fun x hx => absurd hx (Nat.not_lt_zero x), fun x hx => absurd hx (Nat.not_lt_zero x), E _ _ (by omega) (by omega) (by omega) (by omega) (by omega), z17, fun p q hp => absurd hp (Nat.not_lt_zero p)⟩, ⟨E _ _ (by omega) (by omega) (by omega) (by omega) (by omega), fun x hx => absurd hx (Nat.not_lt_zero x)⟩, E _ _ (by omega) (by omega) (by omega) (by omega) (by omega), z18, ⟨E _ _ (by omega) (by omega) (by omega) (by omega) (by omega), fun x hx => absurd hx (Nat.not_lt_zero x)⟩, ⟨E _ _ (by omega) (by omega) (by omega) (by omega) (by omega), fun x hx => absurd hx (Nat.not_lt_zero x)⟩, fun m9 hm => ⟨fun _ => E _ _ (by omega) (by omega) (by omega) (by omega) (by omega), fun hk => by cases hk⟩⟩
/-- the law from its entry -/
theorem n_law {g : EG} {b : Nat} (hF : gF g = true) (hL : gL g ≤ 2048) : nX g b 12 mL_law 0 [(0, .ref (gS g))] [] [] (fun _ _ => 0) 224 7746 (nL g mL_law QL) := by
  refine nR_new (q := 0) (cn' := 223) (sn' := 7735) (τ' := [(0, 8, [3, 3, 3, 3, 3, 3, 3, 3, 3, 2, 0])]) dL_law_0 nw_L_7 rfl rfl rfl (fun i => rfl) rfl ?_
  refine nR_dup dL_law_3 rfl ?_
  refine nR_init (M' := mX8_init) (mc := 204) (ms := 4148) (cn' := 19) (sn' := 3587) (d' := 2) dL_law_4 ok_mX8_init kw_94 rfl (by decide) (by decide) (by simp only [List.map, Value.category]; decide) rfl rfl ?_
  refine n_X8 (fun _ _ => rfl) (fun h4 h1 h2 e4 o1 o2 R1 R2 => ⟨by decide +kernel, ?_⟩)
  have e4 : ∀ a i, ¬ (a = 1 ∧ i = 4) → h4 a i = 0 := e4
  refine nR_astn dL_law_7 rfl (by decide) (lv2 := [(1, .ref (gA g 0)), (0, .ref (gS g))]) rfl ?_
  have hh : ∀ a i, 205 ≤ a → hU h2 0 10 (-1) a i = 0 := fun a i q => by rw [hU_ne2 (by omega), o2 a (by omega), o1 a (by omega)]; exact e4 a i (by omega)
  refine nR_new (q := 205) (cn' := 18) (sn' := 3558) (τ' := (tau 123 164).take 205 ++ [(0, 9, [3, 3, 3, 3, 3, 3, 3, 3, 3, 3, 3, 3, 3, 0, 0, 0, 0, 0, 0, 0, 0, 1, 3, 3, 3, 3, 0, 3, 0])]) dL_law_8 nw_L_10 (by decide +kernel) rfl rfl (fun i => hh _ i (by decide)) rfl ?_
  refine nR_dup dL_law_11 rfl ?_
  refine nR_init (M' := mX9_init) (mc := 18) (ms := 3558) (cn' := 0) (sn' := 0) (d' := 1) dL_law_12 ok_mX9_init kw_855 rfl (by decide) (by decide) (by simp only [List.map, Value.category]; decide) rfl rfl ?_
  refine n_X9 (by decide +kernel) hh ⟨by decide +kernel, ?_⟩
  refine nX_tau (τ2 := tau 123 164) (by decide +kernel) ?_
  refine nR_astn dL_law_15 rfl (by decide) (lv2 := [(2, .ref (gA g 205)), (1, .ref (gA g 0)), (0, .ref (gS g))]) rfl ?_
  refine nR_ic dL_law_16 ?_
  refine nR_istn dL_law_17 rfl (by decide) (lv2 := [(3, .int (zI ((0 : Nat) : Int))), (2, .ref (gA g 205)), (1, .ref (gA g 0)), (0, .ref (gS g))]) rfl ?_
  exact nX_eX (ll_loop hF hL (gL g) 0 123 164 _ (Nat.zero_le _) (by omega) (LI_0 e4 o1 o2 R1))
