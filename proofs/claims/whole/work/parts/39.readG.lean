/-- what town has done, if there is no FAULT -/
def twV (h h' : PH) (S : TS) : Prop := mV h' S ∧ h' 205 13 = 0 ∧ h' 205 18 = -1 ∧ h' 205 26 = 0 ∧ h' 205 28 = 0 ∧ h' 207 0 = 0 ∧ h' 207 1 = 0 ∧ h' 206 18 = h 206 18 ∧ ∀ a, a < 205 → h' a = h a
section M39
variable {g : EG} {d t s : Nat} {h h0 : PH} {Q : EQ} {T : Nat → Nat} {n : Nat} {U : PU}
theorem sp_town (B : tB T n) (Th : mT h T n) (kf : ∀ (x : Nat × Nat) (h2 : PH), prs T n 400 uZ 0 = .inl x → (1 ≤ x.1 ∧ x.1 ≤ 4 ∧ x.2 ≤ n) → pF h h2 → h2 205 17 = (x.1 : Int) → h2 205 18 = (x.2 : Int) → Q (.int (zI (-10 - ↑x.1))) (tau t s) (hU h2 205 13 0)) (kk : ∀ (U : PU) (j : Nat) (h2 : PH), prs T n 400 uZ 0 = .inr (U, j) → uD U → twV h h2 U.1 → Q (.int (zI ↑(sC U.1))) (tau t s) h2) : eX g 5 mX9_town 0 (lv_args 0 [.ref (gA g 205)]) [] (tau t s) h Q := by
  show eX g 5 mX9_town 0 [(0, .ref (gA g 205))] [] (tau t s) h Q
  have hn9 := B.1
  refine eR_aldn_0 dX9_town_0 rfl ?_
  refine eR_callVv [] rfl dX9_town_1 ok_mX9_begin kw_962 rfl rfl th_205 rfl (Nat.le_of_ble_eq_true rfl) (d' := 0) (by decide) (Nat.le_of_ble_eq_true rfl) ?_
  refine sp_begin (fun h1 P1 V1 A1 O1 X1 => ?_)
  have ok9 := prs_ok (T := T) (n := n) 400 0 uZ (Nat.zero_le _) uD_Z
  refine lp_town (h := h1) B 400 0 uZ h1 (by omega) (Nat.zero_le _) uD_Z (mT_F Th P1) (pF_rf _) V1 A1 O1 rfl (fun h2 z2 => ?_)
  obtain ⟨p2, z2⟩ := z2
  cases er : prs T n 400 uZ 0 with
  | inl x =>
    rw [er] at z2 ok9
    have okx : 1 ≤ x.1 ∧ x.1 ≤ 4 ∧ x.2 ≤ n := ok9
    have O2 : h2 205 17 = (x.1 : Int) := z2.1
    refine eR_aldn_0 dX9_town_68 rfl ?_
    refine eR_ic dX9_town_69 ?_
    refine eR_putI dX9_town_70 pf_X9_76 th_205 rfl ?_
    refine eR_aldn_0 dX9_town_73 rfl ?_
    refine eR_getI dX9_town_74 gf_X9_85 th_205 rfl ?_
    refine eX_pcI (hU_i _ _ _ (by decide)) ?_
    refine eX_pcI (O2) ?_
    refine eR_if_le (tgt := 88) dX9_town_77 (by decide) (by first | exact rg_b01 _ | (unfold rg; omega)) (fun c77 => absurd c77 (by omega)) (fun c77 => ?_)
    refine eR_bi (z := -10) dX9_town_80 rfl ?_
    refine eR_aldn_0 dX9_town_82 rfl ?_
    refine eR_getI dX9_town_83 gf_X9_85 th_205 rfl ?_
    refine eX_pcI (hU_i _ _ _ (by decide)) ?_
    refine eX_pcI (O2) ?_
    refine eR_isub dX9_town_86 ?_
    refine eR_iret dX9_town_87 rfl rfl ?_
    exact kf x h2 er okx (pF_tr P1 p2) z2.1 z2.2
  | inr x =>
    rw [er] at z2 ok9
    have O2 : h2 205 17 = (0 : Int) := z2.2.1
    have V2 : pV h2 x.1 := z2.1
    have X2 : h2 205 18 = -1 := z2.2.2.trans X1
    have u : uD x.1 := ok9.1
    have hC8 := u.1.1.2.1
    have hE10 := u.1.1.2.2.1
    have hP8 := u.1.1.1
    refine eR_aldn_0 dX9_town_68 rfl ?_
    refine eR_ic dX9_town_69 ?_
    refine eR_putI dX9_town_70 pf_X9_76 th_205 rfl ?_
    refine eR_aldn_0 dX9_town_73 rfl ?_
    refine eR_getI dX9_town_74 gf_X9_85 th_205 rfl ?_
    refine eX_pcI (hU_i _ _ _ (by decide)) ?_
    refine eX_pcI (O2) ?_
    refine eR_if_le (tgt := 88) dX9_town_77 (by decide) (by first | exact rg_b01 _ | (unfold rg; omega)) (fun c77 => ?_) (fun c77 => absurd c77 (by decide))
    refine eR_aldn_0 dX9_town_88 rfl ?_
    refine eR_getR (i := 217) dX9_town_89 gf_X9_44 th_205 rfl ?_
    refine eR_ic dX9_town_92 ?_
    refine eR_aldn_0 dX9_town_93 rfl ?_
    refine eR_getR (i := 217) dX9_town_94 gf_X9_44 th_205 rfl ?_
    refine eR_ic dX9_town_97 ?_
    refine eR_iald (n := 4) dX9_town_98 th_217 (rfl) (by decide) (by decide) ?_
    refine eX_pcI (congrFun (hU_a _ _ _ (by decide)) _) ?_
    refine eX_pcI (V2.1) ?_
    refine eR_iast (n := 0) dX9_town_99 th_217 (rfl) (by decide) (by decide) ?_
    refine eR_aldn_0 dX9_town_100 rfl ?_
    refine eR_getR (i := 217) dX9_town_101 gf_X9_44 th_205 rfl ?_
    refine eR_ic dX9_town_104 ?_
    refine eR_aldn_0 dX9_town_105 rfl ?_
    refine eR_getR (i := 217) dX9_town_106 gf_X9_44 th_205 rfl ?_
    refine eR_ic dX9_town_109 ?_
    refine eR_iald (n := 5) dX9_town_110 th_217 (rfl) (by decide) (by decide) ?_
    refine eX_pcI (hU_i _ _ _ (by decide)) ?_
    refine eX_pcI (congrFun (hU_a _ _ _ (by decide)) _) ?_
    refine eX_pcI (V2.2.1) ?_
    refine eR_iast (n := 1) dX9_town_111 th_217 (rfl) (by decide) (by decide) ?_
    refine eR_aldn_0 dX9_town_112 rfl ?_
    refine eR_getR (i := 217) dX9_town_113 gf_X9_44 th_205 rfl ?_
    refine eR_ic dX9_town_116 ?_
    refine eR_aldn_0 dX9_town_117 rfl ?_
    refine eR_getR (i := 217) dX9_town_118 gf_X9_44 th_205 rfl ?_
    refine eR_bi (z := 6) dX9_town_121 rfl ?_
    refine eR_iald (n := 6) dX9_town_123 th_217 (rfl) (by decide) (by decide) ?_
    refine eX_pcI (hU_i _ _ _ (by decide)) ?_
    refine eX_pcI (hU_i _ _ _ (by decide)) ?_
    refine eX_pcI (congrFun (hU_a _ _ _ (by decide)) _) ?_
    refine eX_pcI (V2.2.2.1) ?_
    refine eR_iast (n := 2) dX9_town_124 th_217 (rfl) (by decide) (by decide) ?_
    refine eR_ic dX9_town_125 ?_
    refine eR_istn_n1 dX9_town_126 rfl (by decide) rfl ?_
    obtain ⟨hA, eA9⟩ : ∃ g9, g9 = hU (hU (hU (hU h2 205 13 0) 217 0 ↑(sP x.1.1)) 217 1 ↑(sC x.1.1)) 217 2 ↑(sE x.1.1) := ⟨_, rfl⟩
    rw [← eA9]
    refine lp_twA (h0 := hA) (fun hB fB zB => ?_) 8 0 (by omega) _ (fun _ _ _ => rfl) (fun x hx => absurd hx (Nat.not_lt_zero x))
    refine eR_ic dX9_town_211 ?_
    refine eR_istn_1 dX9_town_212 rfl (by decide) rfl ?_
    refine lp_twB (h0 := hB) (fun hC fC zC => ?_) 10 0 (by omega) _ (fun _ _ _ => rfl) (fun x hx => absurd hx (Nat.not_lt_zero x))
    refine eR_ic dX9_town_285 ?_
    refine eR_istn_1 dX9_town_286 rfl (by decide) rfl ?_
    refine lp_twC (h0 := hC) (fun hD fD zD => ?_) 64 0 (by omega) _ (fun _ _ _ => rfl) (fun x hx => absurd hx (Nat.not_lt_zero x))
    have eA : ∀ a i, ¬ ((a = 205 ∧ i = 13) ∨ (a = 217 ∧ i ≤ 2)) → hA a i = h2 a i := fun a i q => by rw [eA9, hU_ne (by omega), hU_ne (by omega), hU_ne (by omega), hU_ne (by omega)]
    have eD : ∀ a i, ¬ (a = 206 ∧ i < 16) → ¬ (208 ≤ a ∧ a ≤ 214 ∧ i < 10) → ¬ (a = 215 ∧ i < 64) → hD a i = hA a i := fun a i q1 q2 q3 => by rw [fD a i (by omega), fC a i (by omega), fB a i (by omega)]
    have fD20 : hD 205 20 = (sF x.1.1 : Int) := by rw [eD _ _ (by omega) (by omega) (by omega), eA _ _ (by omega)]; exact V2.2.2.2.2.2.2.2.1
    have fD1 : hD 217 1 = (sC x.1.1 : Int) := by rw [eD _ _ (by omega) (by omega) (by omega), eA9, hU_ne (by omega), hU_s]
    refine eR_aldn_0 dX9_town_314 rfl ?_
    refine eR_getR (i := 206) dX9_town_315 gf_X9_7 th_205 rfl ?_
    refine eR_bi (z := 16) dX9_town_318 rfl ?_
    refine eR_ic dX9_town_320 ?_
    refine eR_iast (n := 16) dX9_town_321 th_206 (rfl) (by decide) (by decide) ?_
    refine eR_aldn_0 dX9_town_322 rfl ?_
    refine eR_getR (i := 206) dX9_town_323 gf_X9_7 th_205 rfl ?_
    refine eR_bi (z := 17) dX9_town_326 rfl ?_
    refine eR_aldn_0 dX9_town_328 rfl ?_
    refine eR_getI dX9_town_329 gf_X9_145 th_205 rfl ?_
    refine eX_pcI (congrFun (hU_a _ _ _ (by decide)) _) ?_
    refine eX_pcI (fD20) ?_
    refine eR_iast (n := 17) dX9_town_332 th_206 (rfl) (by decide) (by decide) ?_
    refine eR_aldn_0 dX9_town_333 rfl ?_
    refine eR_ic dX9_town_334 ?_
    refine eR_putI dX9_town_335 pf_X9_154 th_205 rfl ?_
    refine eR_aldn_0 dX9_town_338 rfl ?_
    refine eR_ic dX9_town_339 ?_
    refine eR_putI dX9_town_340 pf_X9_157 th_205 rfl ?_
    refine eR_aldn_0 dX9_town_343 rfl ?_
    refine eR_getR (i := 207) dX9_town_344 gf_X9_13 th_205 rfl ?_
    refine eR_ic dX9_town_347 ?_
    refine eR_ic dX9_town_348 ?_
    refine eR_zast (n := 0) (Or.inl rfl) dX9_town_349 th_207 (rfl) (by decide) (by decide) ?_
    refine eR_aldn_0 dX9_town_350 rfl ?_
    refine eR_getR (i := 207) dX9_town_351 gf_X9_13 th_205 rfl ?_
    refine eR_ic dX9_town_354 ?_
    refine eR_ic dX9_town_355 ?_
    refine eR_zast (n := 1) (Or.inl rfl) dX9_town_356 th_207 (rfl) (by decide) (by decide) ?_
    refine eR_aldn_0 dX9_town_357 rfl ?_
    refine eR_getR (i := 217) dX9_town_358 gf_X9_44 th_205 rfl ?_
    refine eR_ic dX9_town_361 ?_
    refine eR_iald (n := 1) dX9_town_362 th_217 (rfl) (by decide) (by decide) ?_
    refine eX_pcI (congrFun (hU_a _ _ _ (by decide)) _) ?_
    refine eX_pcI (congrFun (hU_a _ _ _ (by decide)) _) ?_
    refine eX_pcI (congrFun (hU_a _ _ _ (by decide)) _) ?_
    refine eX_pcI (congrFun (hU_a _ _ _ (by decide)) _) ?_
    refine eX_pcI (congrFun (hU_a _ _ _ (by decide)) _) ?_
    refine eX_pcI (congrFun (hU_a _ _ _ (by decide)) _) ?_
    refine eX_pcI (fD1) ?_
    refine eR_iret dX9_town_363 rfl rfl ?_
    have eZ : ∀ a i, ¬ (a = 206 ∧ (i = 16 ∨ i = 17)) → ¬ (a = 205 ∧ (i = 26 ∨ i = 28)) → ¬ (a = 207 ∧ i < 2) → (hU (hU (hU (hU (hU (hU hD 206 16 0) 206 17 ↑(sF x.1.1)) 205 26 0) 205 28 0) 207 0 0) 207 1 0) a i = hD a i := fun a i q1 q2 q3 => by rw [hU_ne (by omega), hU_ne (by omega), hU_ne (by omega), hU_ne (by omega), hU_ne (by omega), hU_ne (by omega)]
    refine kk x.1 x.2 _ er u ⟨⟨?_, ?_, ?_, fun c hc => ?_, fun e he => ?_, ?_, ?_, fun p q hp hq => ?_⟩, ?_, ?_, ?_, ?_, ?_, ?_, ?_, fun a ha => ?_⟩
    · rw [eZ _ _ (by omega) (by omega) (by omega), eD _ _ (by omega) (by omega) (by omega), eA9, hU_ne (by omega), hU_ne (by omega), hU_s]
    · rw [eZ _ _ (by omega) (by omega) (by omega)]; exact fD1
    · rw [eZ _ _ (by omega) (by omega) (by omega), eD _ _ (by omega) (by omega) (by omega), eA9, hU_s]
    · have w := V2.2.2.2.1 c hc
      rw [eZ _ _ (by omega) (by omega) (by omega), eZ _ _ (by omega) (by omega) (by omega), eZ _ _ (by omega) (by omega) (by omega), fD _ _ (by omega), fD _ _ (by omega), fD _ _ (by omega), fC _ _ (by omega), fC _ _ (by omega), fC _ _ (by omega)]
      have z := zB c (by omega)
      rw [z.1, z.2.1, z.2.2, eA _ _ (by omega), eA _ _ (by omega), eA _ _ (by omega)]
      exact w
    · have w := V2.2.2.2.2.1 e he
      rw [eZ _ _ (by omega) (by omega) (by omega), eZ _ _ (by omega) (by omega) (by omega), eZ _ _ (by omega) (by omega) (by omega), eZ _ _ (by omega) (by omega) (by omega), fD _ _ (by omega), fD _ _ (by omega), fD _ _ (by omega), fD _ _ (by omega)]
      have z := zC e (by omega)
      rw [z.1, z.2.1, z.2.2.1, z.2.2.2, fB _ _ (by omega), fB _ _ (by omega), fB _ _ (by omega), fB _ _ (by omega), eA _ _ (by omega), eA _ _ (by omega), eA _ _ (by omega), eA _ _ (by omega)]
      exact w
    · rw [u.1.2.1, hU_ne (by omega), hU_ne (by omega), hU_ne (by omega), hU_ne (by omega), hU_ne (by omega), hU_s]; rfl
    · rw [hU_ne (by omega), hU_ne (by omega), hU_ne (by omega), hU_ne (by omega), hU_s]
    · rw [eZ _ _ (by omega) (by omega) (by omega), zD _ (by omega), fC _ _ (by omega), fB _ _ (by omega), eA _ _ (by omega), ← Nat.add_assoc]
      exact (V2.2.2.2.2.2.1 p q (by omega) (by omega)).2
    · rw [eZ _ _ (by omega) (by omega) (by omega), eD _ _ (by omega) (by omega) (by omega), eA9, hU_ne (by omega), hU_ne (by omega), hU_ne (by omega), hU_s]
    · rw [eZ _ _ (by omega) (by omega) (by omega), eD _ _ (by omega) (by omega) (by omega), eA _ _ (by omega)]; exact X2
    · rw [hU_ne (by omega), hU_ne (by omega), hU_ne (by omega), hU_s]
    · rw [hU_ne (by omega), hU_ne (by omega), hU_s]
    · rw [hU_ne (by omega), hU_s]
    · rw [hU_s]
    · rw [eZ _ _ (by omega) (by omega) (by omega), eD _ _ (by omega) (by omega) (by omega), eA _ _ (by omega), p2 _ _ (by unfold pS; omega), P1 _ _ (by unfold pS; omega)]
    · funext i
      rw [eZ _ _ (by omega) (by omega) (by omega), eD _ _ (by omega) (by omega) (by omega), eA _ _ (by omega), p2 _ _ (by unfold pS; omega), P1 _ _ (by unfold pS; omega)]
end M39
