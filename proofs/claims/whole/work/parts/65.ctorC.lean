def tQ (ks : List Nat) (n : Nat) : List Kd := (0, 8, ks) :: ((tau 123 164).take n).drop 1
def tR (ks im : List Nat) (n : Nat) : List Kd := (0, 8, ks) :: (((tau 123 164).take n).drop 1).set 101 (4, 2, im)
section M65
variable {g : EG} {b : Nat} {h : PH} {Q : EQ}
theorem nw_X8_7 : nwOK RX8 7 4 6 [3, 0, 0, 0, 0, 0] := ⟨RX4, TX4, tyX4, rfl, inG4, tyX4_ok, kw_100, kw_101, kw_77, rfl, fun j hj ad => by rcases (show j = 0 ∨ j = 1 ∨ j = 2 ∨ j = 3 ∨ j = 4 ∨ j = 5 by omega) with rfl | rfl | rfl | rfl | rfl | rfl <;> rfl⟩
theorem pn_X8_10 : pfN RX8 10 8 0 (tyX8 0) := ⟨RX8, TX8, 11, rfl, by decide, inG8, rfl, kw_311, Or.inr ⟨rfl, rfl⟩, by decide +kernel, tyX8, tyX8_ok, nmX8⟩
theorem nw_X8_16 : nwOK RX8 16 7 5 [3, 3, 3, 3, 3] := ⟨RX7, TX7, tyX7, rfl, inG7, tyX7_ok, kw_126, kw_127, kw_78, rfl, fun j hj ad => by rcases (show j = 0 ∨ j = 1 ∨ j = 2 ∨ j = 3 ∨ j = 4 by omega) with rfl | rfl | rfl | rfl | rfl <;> rfl⟩
theorem pn_X8_19 : pfN RX8 19 8 1 (tyX8 1) := ⟨RX8, TX8, 11, rfl, by decide, inG8, rfl, kw_312, Or.inr ⟨rfl, rfl⟩, by decide +kernel, tyX8, tyX8_ok, nmX8⟩
theorem nw_X8_23 : nwOK RX8 23 3 2 [3, 3] := ⟨RX3, TX3, tyX3, rfl, inG3, tyX3_ok, kw_151, kw_152, kw_79, rfl, fun j hj ad => by rcases (show j = 0 ∨ j = 1 by omega) with rfl | rfl <;> rfl⟩
theorem pn_X8_26 : pfN RX8 26 8 2 (tyX8 2) := ⟨RX8, TX8, 11, rfl, by decide, inG8, rfl, kw_313, Or.inr ⟨rfl, rfl⟩, by decide +kernel, tyX8, tyX8_ok, nmX8⟩
theorem nw_X8_30 : nwOK RX8 30 2 3 [0, 0, 0] := ⟨RX2, TX2, tyX2, rfl, inG2, tyX2_ok, kw_165, kw_166, kw_80, rfl, fun j hj ad => by rcases (show j = 0 ∨ j = 1 ∨ j = 2 by omega) with rfl | rfl | rfl <;> rfl⟩
theorem pn_X8_33 : pfN RX8 33 8 3 (tyX8 3) := ⟨RX8, TX8, 11, rfl, by decide, inG8, rfl, kw_314, Or.inr ⟨rfl, rfl⟩, by decide +kernel, tyX8, tyX8_ok, nmX8⟩
theorem nw_X8_37 : nwOK RX8 37 5 2 [3, 0] := ⟨RX5, TX5, tyX5, rfl, inG5, tyX5_ok, kw_184, kw_185, kw_81, rfl, fun j hj ad => by rcases (show j = 0 ∨ j = 1 by omega) with rfl | rfl <;> rfl⟩
theorem pn_X8_40 : pfN RX8 40 8 4 (tyX8 4) := ⟨RX8, TX8, 11, rfl, by decide, inG8, rfl, kw_315, Or.inr ⟨rfl, rfl⟩, by decide +kernel, tyX8, tyX8_ok, nmX8⟩
theorem pn_X8_44 : pfN RX8 44 8 5 (tyX8 5) := ⟨RX8, TX8, 11, rfl, by decide, inG8, rfl, kw_316, Or.inr ⟨rfl, rfl⟩, by decide +kernel, tyX8, tyX8_ok, nmX8⟩
theorem pn_X8_49 : pfN RX8 49 8 6 (tyX8 6) := ⟨RX8, TX8, 11, rfl, by decide, inG8, rfl, kw_317, Or.inr ⟨rfl, rfl⟩, by decide +kernel, tyX8, tyX8_ok, nmX8⟩
theorem nw_X8_47 : nwOK RX8 47 0 5 [1, 2, 0, 0, 3] := ⟨RX0, TX0, tyX0, rfl, inG0, tyX0_ok, kw_200, kw_202, kw_82, rfl, fun j hj ad => by rcases (show j = 0 ∨ j = 1 ∨ j = 2 ∨ j = 3 ∨ j = 4 by omega) with rfl | rfl | rfl | rfl | rfl <;> rfl⟩
theorem nw_X8_54 : nwOK RX8 54 6 14 [0, 0, 0, 0, 0, 0, 1, 0, 3, 3, 3, 3, 3, 3] := ⟨RX6, TX6, tyX6, rfl, inG6, tyX6_ok, kw_226, kw_227, kw_83, rfl, fun j hj ad => by rcases (show j = 0 ∨ j = 1 ∨ j = 2 ∨ j = 3 ∨ j = 4 ∨ j = 5 ∨ j = 6 ∨ j = 7 ∨ j = 8 ∨ j = 9 ∨ j = 10 ∨ j = 11 ∨ j = 12 ∨ j = 13 by omega) with rfl | rfl | rfl | rfl | rfl | rfl | rfl | rfl | rfl | rfl | rfl | rfl | rfl | rfl <;> rfl⟩
theorem pn_X8_57 : pfN RX8 57 8 7 (tyX8 7) := ⟨RX8, TX8, 11, rfl, by decide, inG8, rfl, kw_318, Or.inl rfl, by decide +kernel, tyX8, tyX8_ok, nmX8⟩
theorem pn_X8_61 : pfN RX8 61 8 8 (tyX8 8) := ⟨RX8, TX8, 11, rfl, by decide, inG8, rfl, kw_319, Or.inl rfl, by decide +kernel, tyX8, tyX8_ok, nmX8⟩
theorem pn_X8_64 : pfN RX8 64 8 9 (tyX8 9) := ⟨RX8, TX8, 11, rfl, by decide, inG8, rfl, kw_320, Or.inl rfl, by decide +kernel, tyX8, tyX8_ok, nmX8⟩
theorem pn_X8_68 : pfN RX8 68 8 10 (tyX8 10) := ⟨RX8, TX8, 11, rfl, by decide, inG8, rfl, kw_321, Or.inl rfl, by decide +kernel, tyX8, tyX8_ok, nmX8⟩
/-- the class's constructor: the cells 0 .. 204 -/
theorem n_X8 (hh : ∀ a i, h a i = 0) (k : ∀ h4 h1 h2 : PH, (∀ a i, ¬ (a = 1 ∧ i = 4) → h4 a i = h a i) → ofR 123 (123 + 41) h4 h1 → ofR 164 (164 + 41) h1 h2 → rV h1 123 uZ → rV h2 164 uZ → Q .null ((tau 123 164).take 205) (hU h2 0 10 (-1))) : nX g b 2 mX8_init 0 (lv_args 0 [.ref (gA g 0)]) [] [(0, 8, [3, 3, 3, 3, 3, 3, 3, 3, 3, 2, 0])] h 204 4148 (nE g mX8_init Q) := by
  have hh : ∀ a i, 0 ≤ a → h a i = 0 := fun a i _ => hh a i
  show nX g b 2 mX8_init 0 [(0, .ref (gA g 0))] [] (tQ [3, 3, 3, 3, 3, 3, 3, 3, 3, 2, 0] 1) h 204 4148 (nE g mX8_init Q)
  refine nR_aldn 0 dX8_init_0 rfl rfl ?_
  refine nR_obj dX8_init_1 kw_97 (by decide) (by decide) ?_
  refine nR_aldn 0 dX8_init_4 rfl rfl ?_
  refine nR_new (q := 1) (cn' := 203) (sn' := 4142) (τ' := tQ [3, 3, 3, 3, 3, 3, 3, 3, 3, 2, 0] 1 ++ [(0, 4, [3, 0, 0, 0, 0, 0])]) dX8_init_5 nw_X8_7 (by decide +kernel) rfl rfl (fun i => hh _ i (by decide)) rfl ?_
  refine nR_dup dX8_init_8 rfl ?_
  refine nR_init (M' := mX4_init) (mc := 1) (ms := 400) (cn' := 202) (sn' := 3742) (d' := 1) dX8_init_9 ok_mX4_init kw_102 rfl (by decide) (by decide) (by simp only [List.map, Value.category]; decide) rfl rfl ?_
  refine n_X4 (by decide +kernel) (fun a i q9 => hh a i (by omega)) ⟨by decide +kernel, ?_⟩
  refine nX_tau (τ2 := tQ [3, 3, 3, 3, 3, 3, 3, 3, 3, 2, 0] 3) (by decide +kernel) ?_
  have hh4 : ∀ a i, 2 ≤ a → (hU h 1 4 (-1)) a i = 0 := fun a i q9 => (congrFun (hU_a _ _ _ (by omega)) _).trans (hh a i (by omega))
  refine nX_hp (h2 := hU h 1 4 (-1)) rfl ?_
  obtain ⟨h4, eh4⟩ : ∃ h9, h9 = hU h 1 4 (-1) := ⟨_, rfl⟩
  have e4 : ∀ a i, ¬ (a = 1 ∧ i = 4) → h4 a i = h a i := fun a i q9 => by rw [eh4, hU_g, if_neg q9]
  rw [← eh4] at hh4 ⊢
  refine nR_putR (a := 0) (i := 1) (τ' := tQ [1 + 4, 3, 3, 3, 3, 3, 3, 3, 3, 2, 0] 3) dX8_init_12 pn_X8_10 rfl rfl rfl (by decide) rfl ?_
  refine nR_aldn 0 dX8_init_15 rfl rfl ?_
  refine nR_new (q := 3) (cn' := 201) (sn' := 3737) (τ' := tQ [1 + 4, 3, 3, 3, 3, 3, 3, 3, 3, 2, 0] 3 ++ [(0, 7, [3, 3, 3, 3, 3])]) dX8_init_16 nw_X8_16 (by decide +kernel) rfl rfl (fun i => hh4 _ i (by decide)) rfl ?_
  refine nR_dup dX8_init_19 rfl ?_
  refine nR_init (M' := mX7_init) (mc := 30) (ms := 2410) (cn' := 171) (sn' := 1327) (d' := 1) dX8_init_20 ok_mX7_init kw_128 rfl (by decide) (by decide) (by simp only [List.map, Value.category]; decide) rfl rfl ?_
  refine n_X7 (by decide +kernel) (fun a i q9 => hh4 a i (by omega)) ⟨by decide +kernel, ?_⟩
  refine nX_tau (τ2 := tQ [1 + 4, 3, 3, 3, 3, 3, 3, 3, 3, 2, 0] 34) (by decide +kernel) ?_
  refine nR_putR (a := 0) (i := 3) (τ' := tQ [1 + 4, 3 + 4, 3, 3, 3, 3, 3, 3, 3, 2, 0] 34) dX8_init_23 pn_X8_19 rfl rfl rfl (by decide) rfl ?_
  refine nR_aldn 0 dX8_init_26 rfl rfl ?_
  refine nR_new (q := 34) (cn' := 170) (sn' := 1325) (τ' := tQ [1 + 4, 3 + 4, 3, 3, 3, 3, 3, 3, 3, 2, 0] 34 ++ [(0, 3, [3, 3])]) dX8_init_27 nw_X8_23 (by decide +kernel) rfl rfl (fun i => hh4 _ i (by decide)) rfl ?_
  refine nR_dup dX8_init_30 rfl ?_
  refine nR_init (M' := mX3_init) (mc := 2) (ms := 266) (cn' := 168) (sn' := 1059) (d' := 1) dX8_init_31 ok_mX3_init kw_153 rfl (by decide) (by decide) (by simp only [List.map, Value.category]; decide) rfl rfl ?_
  refine n_X3 (by decide +kernel) (fun a i q9 => hh4 a i (by omega)) ⟨by decide +kernel, ?_⟩
  refine nX_tau (τ2 := tQ [1 + 4, 3 + 4, 3, 3, 3, 3, 3, 3, 3, 2, 0] 37) (by decide +kernel) ?_
  refine nR_putR (a := 0) (i := 34) (τ' := tQ [1 + 4, 3 + 4, 34 + 4, 3, 3, 3, 3, 3, 3, 2, 0] 37) dX8_init_34 pn_X8_26 rfl rfl rfl (by decide) rfl ?_
  refine nR_aldn 0 dX8_init_37 rfl rfl ?_
  refine nR_new (q := 37) (cn' := 167) (sn' := 1056) (τ' := tQ [1 + 4, 3 + 4, 34 + 4, 3, 3, 3, 3, 3, 3, 2, 0] 37 ++ [(0, 2, [0, 0, 0])]) dX8_init_38 nw_X8_30 (by decide +kernel) rfl rfl (fun i => hh4 _ i (by decide)) rfl ?_
  refine nR_dup dX8_init_41 rfl ?_
  refine nR_init (M' := mX2_init) (mc := 0) (ms := 0) (cn' := 167) (sn' := 1056) (d' := 1) dX8_init_42 ok_mX2_init kw_167 rfl (by decide) (by decide) (by simp only [List.map, Value.category]; decide) rfl rfl ?_
  refine n_X2 (by decide +kernel) (fun a i q9 => hh4 a i (by omega)) ⟨by decide +kernel, ?_⟩
  refine nX_tau (τ2 := tQ [1 + 4, 3 + 4, 34 + 4, 3, 3, 3, 3, 3, 3, 2, 0] 38) (by decide +kernel) ?_
  refine nR_putR (a := 0) (i := 37) (τ' := tQ [1 + 4, 3 + 4, 34 + 4, 37 + 4, 3, 3, 3, 3, 3, 2, 0] 38) dX8_init_45 pn_X8_33 rfl rfl rfl (by decide) rfl ?_
  refine nR_aldn 0 dX8_init_48 rfl rfl ?_
  refine nR_new (q := 38) (cn' := 166) (sn' := 1054) (τ' := tQ [1 + 4, 3 + 4, 34 + 4, 37 + 4, 3, 3, 3, 3, 3, 2, 0] 38 ++ [(0, 5, [3, 0])]) dX8_init_49 nw_X8_37 (by decide +kernel) rfl rfl (fun i => hh4 _ i (by decide)) rfl ?_
  refine nR_dup dX8_init_52 rfl ?_
  refine nR_init (M' := mX5_init) (mc := 31) (ms := 120) (cn' := 135) (sn' := 934) (d' := 1) dX8_init_53 ok_mX5_init kw_186 rfl (by decide) (by decide) (by simp only [List.map, Value.category]; decide) rfl rfl ?_
  refine n_X5 (by decide +kernel) (fun a i q9 => hh4 a i (by omega)) ⟨by decide +kernel, ?_⟩
  refine nX_tau (τ2 := tQ [1 + 4, 3 + 4, 34 + 4, 37 + 4, 3, 3, 3, 3, 3, 2, 0] 70) (by decide +kernel) ?_
  refine nR_putR (a := 0) (i := 38) (τ' := tQ [1 + 4, 3 + 4, 34 + 4, 37 + 4, 38 + 4, 3, 3, 3, 3, 2, 0] 70) dX8_init_56 pn_X8_40 rfl rfl rfl (by decide) rfl ?_
  refine nR_aldn 0 dX8_init_59 rfl rfl ?_
  refine nR_new (q := 70) (cn' := 134) (sn' := 932) (τ' := tQ [1 + 4, 3 + 4, 34 + 4, 37 + 4, 38 + 4, 3, 3, 3, 3, 2, 0] 70 ++ [(0, 5, [3, 0])]) dX8_init_60 nw_X8_37 (by decide +kernel) rfl rfl (fun i => hh4 _ i (by decide)) rfl ?_
  refine nR_dup dX8_init_63 rfl ?_
  refine nR_init (M' := mX5_init) (mc := 31) (ms := 120) (cn' := 103) (sn' := 812) (d' := 1) dX8_init_64 ok_mX5_init kw_186 rfl (by decide) (by decide) (by simp only [List.map, Value.category]; decide) rfl rfl ?_
  refine n_X5 (by decide +kernel) (fun a i q9 => hh4 a i (by omega)) ⟨by decide +kernel, ?_⟩
  refine nX_tau (τ2 := tQ [1 + 4, 3 + 4, 34 + 4, 37 + 4, 38 + 4, 3, 3, 3, 3, 2, 0] 102) (by decide +kernel) ?_
  refine nR_putR (a := 0) (i := 70) (τ' := tQ [1 + 4, 3 + 4, 34 + 4, 37 + 4, 38 + 4, 70 + 4, 3, 3, 3, 2, 0] 102) dX8_init_67 pn_X8_44 rfl rfl rfl (by decide) rfl ?_
  refine nR_aldn 0 dX8_init_70 rfl rfl ?_
  refine nR_ic dX8_init_71 ?_
  refine nR_newq (N := 2) (q := 102) (ks := [3, 3]) (cn' := 102) (sn' := 810) (τ' := tR [1 + 4, 3 + 4, 34 + 4, 37 + 4, 38 + 4, 70 + 4, 3, 3, 3, 2, 0] [3, 3] 103) dX8_init_72 kw_200 rfl (by decide) (fun j => by rcases j with _ | _ | j <;> rfl) (by decide +kernel) rfl rfl (by decide +kernel) ?_
  refine nR_putR (a := 0) (i := 102) (τ' := tR [1 + 4, 3 + 4, 34 + 4, 37 + 4, 38 + 4, 70 + 4, 102 + 4, 3, 3, 2, 0] [3, 3] 103) dX8_init_75 pn_X8_49 rfl rfl rfl (by decide) rfl ?_
  refine nR_ic dX8_init_78 ?_
  refine nR_istn dX8_init_79 rfl (by decide) (lv2 := [(1, .int (zI 0)), (0, .ref (gA g 0))]) rfl ?_
  refine nR_ildn 0 dX8_init_80 rfl rfl ?_
  refine nR_ic dX8_init_81 ?_
  refine nR_icmp_ge (tgt := 104) dX8_init_82 (by decide) ⟨by decide, by decide⟩ ⟨by decide, by decide⟩ (fun c9 => absurd c9 (by decide)) (fun c9 => ?_)
  refine nR_aldn 1 dX8_init_85 rfl rfl ?_
  refine nR_getR (a := 0) (i := 102) dX8_init_86 gf_X8_49 rfl rfl ?_
  refine nR_ildn 0 dX8_init_89 rfl rfl ?_
  refine nR_new (q := 103) (cn' := 101) (sn' := 805) (τ' := tR [1 + 4, 3 + 4, 34 + 4, 37 + 4, 38 + 4, 70 + 4, 102 + 4, 3, 3, 2, 0] [3, 3] 103 ++ [(0, 0, [1, 2, 0, 0, 3])]) dX8_init_90 nw_X8_47 (by decide +kernel) rfl rfl (fun i => hh4 _ i (by decide)) rfl ?_
  refine nR_dup dX8_init_93 rfl ?_
  refine nR_init (M' := mX0_init) (mc := 9) (ms := 24) (cn' := 92) (sn' := 781) (d' := 1) dX8_init_94 ok_mX0_init kw_203 rfl (by decide) (by decide) (by simp only [List.map, Value.category]; decide) rfl rfl ?_
  refine n_X0 (by decide +kernel) (fun a i q9 => hh4 a i (by omega)) ⟨by decide +kernel, ?_⟩
  refine nX_tau (τ2 := tR [1 + 4, 3 + 4, 34 + 4, 37 + 4, 38 + 4, 70 + 4, 102 + 4, 3, 3, 2, 0] [3, 3] 113) (by decide +kernel) ?_
  refine nR_aast (a := 102) (i := 103) (n := 0) (len := 2) (ci := 0) (ks := [3, 3]) (vs := [1, 2, 0, 0, 104 + 4]) (τ' := tR [1 + 4, 3 + 4, 34 + 4, 37 + 4, 38 + 4, 70 + 4, 102 + 4, 3, 3, 2, 0] [103 + 4, 3] 113) dX8_init_97 (by decide +kernel) (by decide +kernel) rfl (by decide) (by decide) (by decide) (by decide +kernel) ?_
  refine nR_iinc 0 dX8_init_98 rfl (by decide) (lv2 := [(1, .int (zI 1)), (0, .ref (gA g 0))]) rfl ?_
  refine nR_goto (tgt := 80) dX8_init_101 (by decide) ?_
  refine nR_ildn 0 dX8_init_80 rfl rfl ?_
  refine nR_ic dX8_init_81 ?_
  refine nR_icmp_ge (tgt := 104) dX8_init_82 (by decide) ⟨by decide, by decide⟩ ⟨by decide, by decide⟩ (fun c9 => absurd c9 (by decide)) (fun c9 => ?_)
  refine nR_aldn 1 dX8_init_85 rfl rfl ?_
  refine nR_getR (a := 0) (i := 102) dX8_init_86 gf_X8_49 rfl rfl ?_
  refine nR_ildn 0 dX8_init_89 rfl rfl ?_
  refine nR_new (q := 113) (cn' := 91) (sn' := 776) (τ' := tR [1 + 4, 3 + 4, 34 + 4, 37 + 4, 38 + 4, 70 + 4, 102 + 4, 3, 3, 2, 0] [103 + 4, 3] 113 ++ [(0, 0, [1, 2, 0, 0, 3])]) dX8_init_90 nw_X8_47 (by decide +kernel) rfl rfl (fun i => hh4 _ i (by decide)) rfl ?_
  refine nR_dup dX8_init_93 rfl ?_
  refine nR_init (M' := mX0_init) (mc := 9) (ms := 24) (cn' := 82) (sn' := 752) (d' := 1) dX8_init_94 ok_mX0_init kw_203 rfl (by decide) (by decide) (by simp only [List.map, Value.category]; decide) rfl rfl ?_
  refine n_X0 (by decide +kernel) (fun a i q9 => hh4 a i (by omega)) ⟨by decide +kernel, ?_⟩
  refine nX_tau (τ2 := tR [1 + 4, 3 + 4, 34 + 4, 37 + 4, 38 + 4, 70 + 4, 102 + 4, 3, 3, 2, 0] [103 + 4, 3] 123) (by decide +kernel) ?_
  refine nR_aast (a := 102) (i := 113) (n := 1) (len := 2) (ci := 0) (ks := [103 + 4, 3]) (vs := [1, 2, 0, 0, 114 + 4]) (τ' := tR [1 + 4, 3 + 4, 34 + 4, 37 + 4, 38 + 4, 70 + 4, 102 + 4, 3, 3, 2, 0] [103 + 4, 113 + 4] 123) dX8_init_97 (by decide +kernel) (by decide +kernel) rfl (by decide) (by decide) (by decide) (by decide +kernel) ?_
  refine nR_iinc 0 dX8_init_98 rfl (by decide) (lv2 := [(1, .int (zI 2)), (0, .ref (gA g 0))]) rfl ?_
  refine nR_goto (tgt := 80) dX8_init_101 (by decide) ?_
  refine nR_ildn 0 dX8_init_80 rfl rfl ?_
  refine nR_ic dX8_init_81 ?_
  refine nR_icmp_ge (tgt := 104) dX8_init_82 (by decide) ⟨by decide, by decide⟩ ⟨by decide, by decide⟩ (fun c9 => ?_) (fun c9 => absurd c9 (by decide))
  refine nX_tau (τ2 := tQ [1 + 4, 3 + 4, 34 + 4, 37 + 4, 38 + 4, 70 + 4, 102 + 4, 3, 3, 2, 0] 123) (by decide +kernel) ?_
  refine nR_aldn 1 dX8_init_104 rfl rfl ?_
  refine nR_new (q := 123) (cn' := 81) (sn' := 738) (τ' := tQ [1 + 4, 3 + 4, 34 + 4, 37 + 4, 38 + 4, 70 + 4, 102 + 4, 3, 3, 2, 0] 123 ++ [(0, 6, [0, 0, 0, 0, 0, 0, 1, 0, 3, 3, 3, 3, 3, 3])]) dX8_init_105 nw_X8_54 (by decide +kernel) rfl rfl (fun i => hh4 _ i (by decide)) rfl ?_
  refine nR_dup dX8_init_108 rfl ?_
  refine nR_init (M' := mX6_init) (mc := 40) (ms := 362) (cn' := 41) (sn' := 376) (d' := 1) dX8_init_109 ok_mX6_init kw_228 rfl (by decide) (by decide) (by simp only [List.map, Value.category]; decide) rfl rfl ?_
  refine n_X6 (by decide +kernel) (fun a i q9 => hh4 a i (by omega)) (fun h1 o1 R1 => ⟨by decide +kernel, ?_⟩)
  refine nX_tau (τ2 := tQ [1 + 4, 3 + 4, 34 + 4, 37 + 4, 38 + 4, 70 + 4, 102 + 4, 3, 3, 2, 0] 164) (by decide +kernel) ?_
  have hh1 : ∀ a i, 164 ≤ a → h1 a i = 0 := fun a i q9 => (congrFun (o1 a (by omega)) i).trans (hh4 a i (by omega))
  refine nR_putR (a := 0) (i := 123) (τ' := tQ [1 + 4, 3 + 4, 34 + 4, 37 + 4, 38 + 4, 70 + 4, 102 + 4, 123 + 4, 3, 2, 0] 164) dX8_init_112 pn_X8_57 rfl rfl rfl (by decide) rfl ?_
  refine nR_aldn 1 dX8_init_115 rfl rfl ?_
  refine nR_new (q := 164) (cn' := 40) (sn' := 362) (τ' := tQ [1 + 4, 3 + 4, 34 + 4, 37 + 4, 38 + 4, 70 + 4, 102 + 4, 123 + 4, 3, 2, 0] 164 ++ [(0, 6, [0, 0, 0, 0, 0, 0, 1, 0, 3, 3, 3, 3, 3, 3])]) dX8_init_116 nw_X8_54 (by decide +kernel) rfl rfl (fun i => hh1 _ i (by decide)) rfl ?_
  refine nR_dup dX8_init_119 rfl ?_
  refine nR_init (M' := mX6_init) (mc := 40) (ms := 362) (cn' := 0) (sn' := 0) (d' := 1) dX8_init_120 ok_mX6_init kw_228 rfl (by decide) (by decide) (by simp only [List.map, Value.category]; decide) rfl rfl ?_
  refine n_X6 (by decide +kernel) (fun a i q9 => hh1 a i (by omega)) (fun h2 o2 R2 => ⟨by decide +kernel, ?_⟩)
  refine nX_tau (τ2 := tQ [1 + 4, 3 + 4, 34 + 4, 37 + 4, 38 + 4, 70 + 4, 102 + 4, 123 + 4, 3, 2, 0] 205) (by decide +kernel) ?_
  refine nR_putR (a := 0) (i := 164) (τ' := tQ [1 + 4, 3 + 4, 34 + 4, 37 + 4, 38 + 4, 70 + 4, 102 + 4, 123 + 4, 164 + 4, 2, 0] 205) dX8_init_123 pn_X8_61 rfl rfl rfl (by decide) rfl ?_
  have E0 : ∀ i, h2 0 i = h 0 i := fun i => by rw [o2 0 (by decide), o1 0 (by decide), e4 0 i (by omega)]
  refine nR_aldn 1 dX8_init_126 rfl rfl ?_
  refine nR_lc (z := 0) dX8_init_127 rfl ?_
  refine nR_putL0 (a := 0) ((E0 _).trans (hh _ _ (by decide))) dX8_init_128 pn_X8_64 rfl rfl ?_
  refine nR_aldn 1 dX8_init_131 rfl rfl ?_
  refine nR_ic dX8_init_132 ?_
  refine nR_putI (a := 0) dX8_init_133 pn_X8_68 rfl rfl ?_
  refine nX_tau (τ2 := (tau 123 164).take 205) (by decide +kernel) ?_
  refine nR_vret dX8_init_136 rfl rfl (k h4 h1 h2 e4 o1 o2 R1 R2)
end M65
