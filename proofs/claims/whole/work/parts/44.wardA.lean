theorem cV_w {h : PH} {u a i : Nat} {z : Int} {S : TS} (B : sB S) (V : cV h u S) (q : ¬ (u ≤ a ∧ a < u + 41)) : cV (hU h a i z) u S := cV_of B V (fun b h1 h2 => hU_a h i z (by omega))
/-! what the wardrobe's cells hold -/
def wW (h : PH) (S : TS) (hour : Nat) : Prop := ∀ c ch, c < sC S → ch < 4 → h (6 + c) ch = clad S hour c ch
def wS (h : PH) (S : TS) (hour : Nat) : Prop := ∀ c ch, c < sC S → ch < 4 → clP S hour c ch → h (15 + c) ch = (spBy S c ch : Int)
def wC (h : PH) (S : TS) (hour : Nat) : Prop := ∀ c, c ≤ sC S → h 23 c = (cnN S hour c : Int)
def wM (h : PH) (S : TS) (hour c : Nat) : Prop := ∀ D, sbs D (cnN S hour c) → h (25 + c) D = (savB S hour (sC S - c) D : Int)
theorem wW_of {h h' : PH} {S : TS} {hour : Nat} (w : wW h S hour) (e : ∀ a, 6 ≤ a → a < 6 + sC S → h' a = h a) : wW h' S hour := fun c ch hc hh => by rw [e (6 + c) (by omega) (by omega)]; exact w c ch hc hh
theorem wS_of {h h' : PH} {S : TS} {hour : Nat} (w : wS h S hour) (e : ∀ a, 15 ≤ a → a < 15 + sC S → h' a = h a) : wS h' S hour := fun c ch hc hh q => by rw [e (15 + c) (by omega) (by omega)]; exact w c ch hc hh q
theorem wC_of {h h' : PH} {S : TS} {hour : Nat} (w : wC h S hour) (e : h' 23 = h 23) : wC h' S hour := fun c hc => by rw [e]; exact w c hc
theorem wM_of {h h' : PH} {S : TS} {hour c : Nat} (w : wM h S hour c) (e : h' (25 + c) = h (25 + c)) : wM h' S hour c := fun D hD => by rw [e]; exact w D hD
theorem clad_y {S : TS} {hour c k : Nat} (h : clP S hour c k) : clad S hour c k = (clS S c k : Int) := if_pos h
theorem clad_n {S : TS} {hour c k : Nat} (h : ¬ clP S hour c k) : clad S hour c k = -1 := if_neg h
theorem clad_1 {S : TS} {hour c : Nat} : max 0 (clad S hour c 1) = ((if 0 ≤ whereIs S (sO S c 0) hour then 2 ^ sO S c 0 else 0 : Nat) : Int) := by
  by_cases h : 0 ≤ whereIs S (sO S c 0) hour
  · rw [clad_y ⟨fun _ => h, by simp, by simp⟩, if_pos h]
    have : clS S c 1 = 2 ^ sO S c 0 := by simp [clS]
    rw [this]
    exact Int.max_eq_right (by omega)
  · rw [clad_n (fun q => h (q.1 (by simp))), if_neg h]
    rfl
theorem clad_2 {S : TS} {hour c : Nat} : max 0 (clad S hour c 2) = ((if 0 ≤ whereIs S (sO S c 1) hour then 2 ^ sO S c 1 else 0 : Nat) : Int) := by
  by_cases h : 0 ≤ whereIs S (sO S c 1) hour
  · rw [clad_y ⟨by simp, fun _ => h, by simp⟩, if_pos h]
    have : clS S c 2 = 2 ^ sO S c 1 := by simp [clS]
    rw [this]
    exact Int.max_eq_right (by omega)
  · rw [clad_n (fun q => h (q.2.1 (by decide))), if_neg h]
    rfl
theorem clad_rg {S : TS} (B : sB S) {hour c k : Nat} (hc : c < sC S) : -1 ≤ clad S hour c k ∧ clad S hour c k < 256 := by
  have := clS_lt B hc k
  unfold clad
  split <;> omega
theorem bcn_pw : ∀ a, a < 8 → bcn (2 ^ a) 24 = 1 := by decide +kernel
theorem bcn_pw2 : ∀ a, a < 8 → ∀ b, b < 8 → a ≠ b → bcn (2 ^ a ||| 2 ^ b) 24 = 2 := by decide +kernel
theorem savN_min (S : TS) (x : Nat) : min (sF S) x = savN S x := by unfold savN; split <;> omega
/-- what is spared: each of the wearers as much as the coat gives, or the frost -/
theorem sp_wt {S : TS} (B : sB S) {c k : Nat} (hc : c < sC S) (hk : k < 4) : bcn (clS S c k) 24 * min (sF S) (weN S c k) = spBy S c k := by
  have hP8 := B.1
  have ho := B.2.2.2.1 c hc
  rw [savN_min]
  rcases (show k = 0 ∨ k = 1 ∨ k = 2 ∨ k = 3 by omega) with rfl | rfl | rfl | rfl
  · rw [show clS S c 0 = 0 from by simp [clS], bcn_0]; simp [spBy]
  · rw [show clS S c 1 = 2 ^ sO S c 0 from by simp [clS], bcn_pw _ (by omega)]; simp [spBy, weN]
  · rw [show clS S c 2 = 2 ^ sO S c 1 from by simp [clS], bcn_pw _ (by omega)]; simp [spBy, weN]
  · rw [show clS S c 3 = 2 ^ sO S c 0 ||| 2 ^ sO S c 1 from by simp [clS], bcn_pw2 _ (by omega) _ (by omega) ho.2.2.1]; simp [spBy, weN]
theorem vl_fb {S : TS} {hour c D : Nat} (hc : c < sC S) : vlN S c (savB S hour (sC S - (c + 1))) D (fbC S hour c D) = savB S hour (sC S - c) D := by
  have h1 := (fb_fst S hour c (savB S hour (sC S - (c + 1))) D 3).1.2.2
  rw [savB_b hc, ← fb_max]
  exact h1
section M44
variable {g : EG} {d t s u : Nat} {h h1 : PH} {Q : EQ} {S : TS}
theorem wd_sparedBy (B : sB S) {hour : Nat} (Ww : wW h S hour) (Ws : wS h S hour) (Wc : wC h S hour) {c ch D : Nat} (hc : c < sC S) (hch : ch < 4) (Wm : wM h S hour (c + 1)) (hcl : clP S hour c ch) (hD : sbs D (cnN S hour c)) (k : Q (.int (zI ↑(vlN S c (savB S hour (sC S - (c + 1))) D ch))) (tau t s) h) : eX g 0 mX7_sparedBy 0 (lv_args 0 [.ref (gA g 3), .int (zI ↑c), .int (zI ↑ch), .int (zI ↑D)]) [] (tau t s) h Q := by
  show eX g 0 mX7_sparedBy 0 [(0, .ref (gA g 3)), (1, .int (zI ↑c)), (2, .int (zI ↑ch)), (3, .int (zI ↑D))] [] (tau t s) h Q
  have hC8 := B.2.1
  have hD9 := sbs_le hD
  have hc9 := cnN_lt B (hour := hour) (c := c)
  have hs9 := clS_lt B hc ch
  have ho9 : D ||| clS S c ch < 256 := Nat.or_lt_two_pow (n := 8) (by omega) hs9
  have ha9 : (D ||| clS S c ch) &&& cnN S hour (c + 1) ≤ D ||| clS S c ch := Nat.and_le_left
  refine eR_ildn_3 dX7_sparedBy_0 rfl ?_
  refine eR_aldn_0 dX7_sparedBy_1 rfl ?_
  refine eR_getR (i := 5) dX7_sparedBy_2 gf_X7_17 th_3 rfl ?_
  refine eR_ildn_1 dX7_sparedBy_5 rfl ?_
  refine eR_aald3 (n := c) (i := 6 + c) dX7_sparedBy_6 th_5 (rfl) (by omega) (by decide) (rowsK_at (by omega)) ?_
  refine eR_ildn_2 dX7_sparedBy_7 rfl ?_
  refine eR_iald (n := ch) dX7_sparedBy_8 (tr_w (i := c) (by omega)) (rfl) (by omega) (by decide) ?_
  refine eX_pcI ((Ww c ch hc hch).trans (clad_y hcl)) ?_
  refine eR_ior dX7_sparedBy_9 ?_
  refine eX_pcI (show (zOr ↑D ↑(clS S c ch) : Int) = ↑(D ||| clS S c ch : Nat) from zOr_nat (by omega) (by omega)) ?_
  refine eR_aldn_0 dX7_sparedBy_10 rfl ?_
  refine eR_getR (i := 23) dX7_sparedBy_11 gf_X7_23 th_3 rfl ?_
  refine eR_ildn_1 dX7_sparedBy_14 rfl ?_
  refine eR_ic dX7_sparedBy_15 ?_
  refine eR_iadd dX7_sparedBy_16 ?_
  refine eR_iald (n := c + 1) dX7_sparedBy_17 th_23 (rfl) (by omega) (by decide) ?_
  refine eX_pcI (Wc (c + 1) (by omega)) ?_
  refine eR_iand dX7_sparedBy_18 ?_
  refine eX_pcI (show (zAnd ↑(D ||| clS S c ch : Nat) (↑(cnN S hour (c + 1))) : Int) = ↑((D ||| clS S c ch) &&& cnN S hour (c + 1) : Nat) from zAnd_nat (by omega)) ?_
  refine eR_ist_n4 dX7_sparedBy_19 (by decide) rfl ?_
  refine eR_aldn_0 dX7_sparedBy_21 rfl ?_
  refine eR_getR (i := 14) dX7_sparedBy_22 gf_X7_20 th_3 rfl ?_
  refine eR_ildn_1 dX7_sparedBy_25 rfl ?_
  refine eR_aald3 (n := c) (i := 15 + c) dX7_sparedBy_26 th_14 (rfl) (by omega) (by decide) (rowsK_at (by omega)) ?_
  refine eR_ildn_2 dX7_sparedBy_27 rfl ?_
  refine eR_iald (n := ch) dX7_sparedBy_28 (tr_s (i := c) (by omega)) (rfl) (by omega) (by decide) ?_
  refine eX_pcI (Ws c ch hc hch hcl) ?_
  refine eR_aldn_0 dX7_sparedBy_29 rfl ?_
  refine eR_getR (i := 24) dX7_sparedBy_30 gf_X7_26 th_3 rfl ?_
  refine eR_ildn_1 dX7_sparedBy_33 rfl ?_
  refine eR_ic dX7_sparedBy_34 ?_
  refine eR_iadd dX7_sparedBy_35 ?_
  refine eR_aald3 (n := c + 1) (i := 25 + (c + 1)) dX7_sparedBy_36 th_24 (rfl) (by omega) (by decide) (rowsK_at (by omega)) ?_
  refine eR_ild_4 dX7_sparedBy_37 ?_
  refine eR_iald (n := (D ||| clS S c ch) &&& cnN S hour (c + 1)) dX7_sparedBy_39 (tr_m (i := c + 1) (by omega)) (rfl) (by omega) (by decide) ?_
  refine eX_pcI ((Wm _ then_sub).trans (by rw [then_eq hc hD hcl])) ?_
  refine eR_iadd dX7_sparedBy_40 ?_
  refine eX_pcI (show (↑(spBy S c ch) + (↑(savB S hour (sC S - (c + 1)) (D ||| clS S c ch))) : Int) = ↑(vlN S c (savB S hour (sC S - (c + 1))) D ch) from rfl) ?_
  refine eR_iret dX7_sparedBy_41 rfl rfl ?_
  exact k
theorem wl_firstBest (B : sB S) {hour : Nat} (Ww : wW h S hour) (Ws : wS h S hour) (Wc : wC h S hour) {c D : Nat} (hc : c < sC S) (Wm : wM h S hour (c + 1)) (hD : sbs D (cnN S hour c)) (kk : Q (.int (zI ↑(fbC S hour c D))) (tau t s) h) : ∀ m k : Nat, k + m = 3 → eX g 1 mX7_firstBest 14 [(0, .ref (gA g 3)), (1, .int (zI ↑c)), (2, .int (zI ↑D)), (3, .int (zI (↑(fbN S hour c (savB S hour (sC S - (c + 1))) D k).1))), (4, .int (zI (↑(fbN S hour c (savB S hour (sC S - (c + 1))) D k).2))), (5, .int (zI (↑k + 1)))] [] (tau t s) h Q := by
  have hC8 := B.2.1
  have hD9 := sbs_le hD
  have hc9 := cnN_lt B (hour := hour) (c := c)
  have hF : ∀ x, savB S hour (sC S - (c + 1)) x ≤ 198 * 8 := fun x => Nat.le_trans (savB_le B _ _ _) (by omega)
  intro m
  induction m with
  | zero =>
    intro k hk
    have hf9 := (fb_fst S hour c (savB S hour (sC S - (c + 1))) D k).2.1
    refine eR_ild_5 dX7_firstBest_14 ?_
    refine eR_ic dX7_firstBest_16 ?_
    refine eR_icmp_ge (tgt := 77) dX7_firstBest_17 (by decide) (by first | exact rg_b01 _ | (unfold rg; omega)) (by first | exact rg_b01 _ | (unfold rg; omega)) (fun c17 => ?_) (fun c17 => absurd c17 (by omega))
    refine eR_ildn_3 dX7_firstBest_77 rfl ?_
    refine eR_iret dX7_firstBest_78 rfl rfl ?_
    have e9 : k = 3 := by omega
    subst e9
    exact kk
  | succ m ih =>
    intro k hk
    have hf9 := (fb_fst S hour c (savB S hour (sC S - (c + 1))) D k).2.1
    have hf8 := fb_max S hour c (savB S hour (sC S - (c + 1))) D k
    have hf7 := bstW_le B hour c hF D (k + 1)
    have hs9 := clS_lt B hc (k + 1)
    have ha9 : clS S c (k + 1) &&& D ≤ D := Nat.and_le_right
    have hv9 : vlN S c (savB S hour (sC S - (c + 1))) D (k + 1) ≤ 198 + 198 * 8 := Nat.add_le_add (spBy_le B c (k + 1)) (hF _)
    by_cases hcl : clP S hour c (k + 1)
    · refine eR_ild_5 dX7_firstBest_14 ?_
      refine eR_ic dX7_firstBest_16 ?_
      refine eR_icmp_ge (tgt := 77) dX7_firstBest_17 (by decide) (by first | exact rg_b01 _ | (unfold rg; omega)) (by first | exact rg_b01 _ | (unfold rg; omega)) (fun c17 => absurd c17 (by omega)) (fun c17 => ?_)
      refine eR_aldn_0 dX7_firstBest_20 rfl ?_
      refine eR_getR (i := 5) dX7_firstBest_21 gf_X7_17 th_3 rfl ?_
      refine eR_ildn_1 dX7_firstBest_24 rfl ?_
      refine eR_aald3 (n := c) (i := 6 + c) dX7_firstBest_25 th_5 (rfl) (by omega) (by decide) (rowsK_at (by omega)) ?_
      refine eR_ild_5 dX7_firstBest_26 ?_
      refine eR_iald (n := k + 1) dX7_firstBest_28 (tr_w (i := c) (by omega)) (rfl) (by omega) (by decide) ?_
      refine eX_pcI ((Ww c (k + 1) hc (by omega)).trans (clad_y hcl)) ?_
      refine eR_ic dX7_firstBest_29 ?_
      refine eR_icmp_eq (tgt := 71) dX7_firstBest_30 (by decide) (by first | exact rg_b01 _ | (unfold rg; omega)) (by first | exact rg_b01 _ | (unfold rg; omega)) (fun c30 => absurd c30 (by omega)) (fun c30 => ?_)
      refine eR_aldn_0 dX7_firstBest_33 rfl ?_
      refine eR_getR (i := 5) dX7_firstBest_34 gf_X7_17 th_3 rfl ?_
      refine eR_ildn_1 dX7_firstBest_37 rfl ?_
      refine eR_aald3 (n := c) (i := 6 + c) dX7_firstBest_38 th_5 (rfl) (by omega) (by decide) (rowsK_at (by omega)) ?_
      refine eR_ild_5 dX7_firstBest_39 ?_
      refine eR_iald (n := k + 1) dX7_firstBest_41 (tr_w (i := c) (by omega)) (rfl) (by omega) (by decide) ?_
      refine eX_pcI ((Ww c (k + 1) hc (by omega)).trans (clad_y hcl)) ?_
      refine eR_ildn_2 dX7_firstBest_42 rfl ?_
      refine eR_iand dX7_firstBest_43 ?_
      refine eX_pcI (show (zAnd (↑(clS S c (k + 1))) ↑D : Int) = ↑(clS S c (k + 1) &&& D : Nat) from zAnd_nat (by omega)) ?_
      refine eR_if_ne (tgt := 71) dX7_firstBest_44 (by decide) (by first | exact rg_b01 _ | (unfold rg; omega)) (fun c44 => ?_) (fun c44 => ?_)
      · refine eR_iinc_5 dX7_firstBest_71 (by decide) rfl ?_
        refine eR_goto (tgt := 14) dX7_firstBest_74 (by decide) ?_
        refine eX_lv (lv2 := List.take 6 _) (fun q hq => List.mem_of_mem_take hq) ?_
        have e9 : (fbN S hour c (savB S hour (sC S - (c + 1))) D (k + 1)) = (fbN S hour c (savB S hour (sC S - (c + 1))) D k) := by rw [fbN]; exact if_neg (by first | (rintro ⟨q1, q2, q3⟩; first | contradiction | omega))
        have e8 := ih (k + 1) (by omega)
        rw [e9] at e8
        exact e8
      · refine eR_aldn_0 dX7_firstBest_47 rfl ?_
        refine eR_ildn_1 dX7_firstBest_48 rfl ?_
        refine eR_ild_5 dX7_firstBest_49 ?_
        refine eR_ildn_2 dX7_firstBest_51 rfl ?_
        refine eR_callVi [_, _, _] rfl dX7_firstBest_52 ok_mX7_sparedBy kw_583 rfl rfl th_3 rfl (Nat.le_of_ble_eq_true rfl) (d' := 0) (by decide) (Nat.le_of_ble_eq_true rfl) ?_
        refine wd_sparedBy (c := c) (ch := k + 1) (D := D) B Ww Ws Wc hc (by omega) Wm (hcl) hD ?_
        refine eR_ist_n6 dX7_firstBest_55 (by decide) rfl ?_
        refine eR_ild_6 dX7_firstBest_57 ?_
        refine eR_ild_4 dX7_firstBest_59 ?_
        refine eR_icmp_le (tgt := 71) dX7_firstBest_61 (by decide) (by first | exact rg_b01 _ | (unfold rg; omega)) (by first | exact rg_b01 _ | (unfold rg; omega)) (fun c61 => ?_) (fun c61 => ?_)
        · refine eR_iinc_5 dX7_firstBest_71 (by decide) rfl ?_
          refine eR_goto (tgt := 14) dX7_firstBest_74 (by decide) ?_
          refine eX_lv (lv2 := List.take 6 _) (fun q hq => List.mem_of_mem_take hq) ?_
          have e9 : (fbN S hour c (savB S hour (sC S - (c + 1))) D (k + 1)) = (fbN S hour c (savB S hour (sC S - (c + 1))) D k) := by rw [fbN]; exact if_neg (by first | (rintro ⟨q1, q2, q3⟩; first | contradiction | omega))
          have e8 := ih (k + 1) (by omega)
          rw [e9] at e8
          exact e8
        · refine eR_ild_5 dX7_firstBest_64 ?_
          refine eR_istn_3 dX7_firstBest_66 rfl (by decide) rfl ?_
          refine eR_ild_6 dX7_firstBest_67 ?_
          refine eR_ist_4 dX7_firstBest_69 (by decide) rfl ?_
          refine eR_iinc_5 dX7_firstBest_71 (by decide) rfl ?_
          refine eR_goto (tgt := 14) dX7_firstBest_74 (by decide) ?_
          refine eX_lv (lv2 := List.take 6 _) (fun q hq => List.mem_of_mem_take hq) ?_
          have e9 : (fbN S hour c (savB S hour (sC S - (c + 1))) D (k + 1)) = (k + 1, vlN S c (savB S hour (sC S - (c + 1))) D (k + 1)) := by rw [fbN]; exact if_pos ⟨hcl, by omega, by omega⟩
          have e8 := ih (k + 1) (by omega)
          rw [e9] at e8
          exact e8
    · refine eR_ild_5 dX7_firstBest_14 ?_
      refine eR_ic dX7_firstBest_16 ?_
      refine eR_icmp_ge (tgt := 77) dX7_firstBest_17 (by decide) (by first | exact rg_b01 _ | (unfold rg; omega)) (by first | exact rg_b01 _ | (unfold rg; omega)) (fun c17 => absurd c17 (by omega)) (fun c17 => ?_)
      refine eR_aldn_0 dX7_firstBest_20 rfl ?_
      refine eR_getR (i := 5) dX7_firstBest_21 gf_X7_17 th_3 rfl ?_
      refine eR_ildn_1 dX7_firstBest_24 rfl ?_
      refine eR_aald3 (n := c) (i := 6 + c) dX7_firstBest_25 th_5 (rfl) (by omega) (by decide) (rowsK_at (by omega)) ?_
      refine eR_ild_5 dX7_firstBest_26 ?_
      refine eR_iald (n := k + 1) dX7_firstBest_28 (tr_w (i := c) (by omega)) (rfl) (by omega) (by decide) ?_
      refine eX_pcI ((Ww c (k + 1) hc (by omega)).trans (clad_n hcl)) ?_
      refine eR_ic dX7_firstBest_29 ?_
      refine eR_icmp_eq (tgt := 71) dX7_firstBest_30 (by decide) (by first | exact rg_b01 _ | (unfold rg; omega)) (by first | exact rg_b01 _ | (unfold rg; omega)) (fun c30 => ?_) (fun c30 => absurd c30 (by omega))
      refine eR_iinc_5 dX7_firstBest_71 (by decide) rfl ?_
      refine eR_goto (tgt := 14) dX7_firstBest_74 (by decide) ?_
      refine eX_lv (lv2 := List.take 6 _) (fun q hq => List.mem_of_mem_take hq) ?_
      have e9 : (fbN S hour c (savB S hour (sC S - (c + 1))) D (k + 1)) = (fbN S hour c (savB S hour (sC S - (c + 1))) D k) := by rw [fbN]; exact if_neg (by first | (rintro ⟨q1, q2, q3⟩; first | contradiction | omega))
      have e8 := ih (k + 1) (by omega)
      rw [e9] at e8
      exact e8
theorem wd_firstBest (B : sB S) {hour : Nat} (Ww : wW h S hour) (Ws : wS h S hour) (Wc : wC h S hour) {c D : Nat} (hc : c < sC S) (Wm : wM h S hour (c + 1)) (hD : sbs D (cnN S hour c)) (k : Q (.int (zI ↑(fbC S hour c D))) (tau t s) h) : eX g 1 mX7_firstBest 0 (lv_args 0 [.ref (gA g 3), .int (zI ↑c), .int (zI ↑D)]) [] (tau t s) h Q := by
  show eX g 1 mX7_firstBest 0 [(0, .ref (gA g 3)), (1, .int (zI ↑c)), (2, .int (zI ↑D))] [] (tau t s) h Q
  have hC8 := B.2.1
  have hD9 := sbs_le hD
  have hc9 := cnN_lt B (hour := hour) (c := c)
  refine eR_ic dX7_firstBest_0 ?_
  refine eR_istn_n3 dX7_firstBest_1 rfl (by decide) rfl ?_
  refine eR_aldn_0 dX7_firstBest_2 rfl ?_
  refine eR_ildn_1 dX7_firstBest_3 rfl ?_
  refine eR_ic dX7_firstBest_4 ?_
  refine eR_ildn_2 dX7_firstBest_5 rfl ?_
  refine eR_callVi [_, _, _] rfl dX7_firstBest_6 ok_mX7_sparedBy kw_583 rfl rfl th_3 rfl (Nat.le_of_ble_eq_true rfl) (d' := 0) (by decide) (Nat.le_of_ble_eq_true rfl) ?_
  refine wd_sparedBy (c := c) (ch := 0) (D := D) B Ww Ws Wc hc (by omega) Wm ((clP_0 S hour c).1) hD ?_
  refine eR_ist_n4 dX7_firstBest_9 (by decide) rfl ?_
  refine eR_ic dX7_firstBest_11 ?_
  refine eR_ist_n5 dX7_firstBest_12 (by decide) rfl ?_
  exact wl_firstBest B Ww Ws Wc hc Wm hD k 3 0 (by omega)
theorem wd_outOwners (B : sB S) {hour : Nat} (Ww : wW h S hour) {c : Nat} (hc : c < sC S) (k : Q (.int (zI ↑(ooS S hour c))) (tau t s) h) : eX g 1 mX7_outOwners 0 (lv_args 0 [.ref (gA g 3), .int (zI ↑c)]) [] (tau t s) h Q := by
  show eX g 1 mX7_outOwners 0 [(0, .ref (gA g 3)), (1, .int (zI ↑c))] [] (tau t s) h Q
  have hP8 := B.1
  have hC8 := B.2.1
  have hE10 := B.2.2.1
  have hF99 := B.2.2.2.2.2.2.1
  have ho9 := B.2.2.2.1 c hc
  have hl0 : 2 ^ sO S c 0 ≤ 2 ^ 7 := Nat.pow_le_pow_right (by omega) (by omega)
  have hl1 : 2 ^ sO S c 1 ≤ 2 ^ 7 := Nat.pow_le_pow_right (by omega) (by omega)
  refine eR_ic dX7_outOwners_0 ?_
  refine eR_aldn_0 dX7_outOwners_1 rfl ?_
  refine eR_getR (i := 5) dX7_outOwners_2 gf_X7_17 th_3 rfl ?_
  refine eR_ildn_1 dX7_outOwners_5 rfl ?_
  refine eR_aald3 (n := c) (i := 6 + c) dX7_outOwners_6 th_5 (rfl) (by omega) (by decide) (rowsK_at (by omega)) ?_
  refine eR_ic dX7_outOwners_7 ?_
  refine eR_iald (n := 1) dX7_outOwners_8 (tr_w (i := c) (by omega)) (rfl) (by decide) (by decide) ?_
  refine eX_pcI (Ww c 1 hc (by decide)) ?_
  refine eR_mmax dX7_outOwners_9 kw_572 (by have := clad_rg B (hour := hour) (k := 1) hc; have := clad_rg B (hour := hour) (k := 2) hc; unfold rg; omega) (by have := clad_rg B (hour := hour) (k := 1) hc; have := clad_rg B (hour := hour) (k := 2) hc; unfold rg; omega) (by decide) (Nat.le_of_ble_eq_true rfl) ?_
  refine eX_pcI (show (max 0 (clad S hour c 1) : Int) = ↑(if 0 ≤ whereIs S (sO S c 0) hour then 2 ^ sO S c 0 else 0 : Nat) from clad_1) ?_
  refine eR_ic dX7_outOwners_12 ?_
  refine eR_aldn_0 dX7_outOwners_13 rfl ?_
  refine eR_getR (i := 5) dX7_outOwners_14 gf_X7_17 th_3 rfl ?_
  refine eR_ildn_1 dX7_outOwners_17 rfl ?_
  refine eR_aald3 (n := c) (i := 6 + c) dX7_outOwners_18 th_5 (rfl) (by omega) (by decide) (rowsK_at (by omega)) ?_
  refine eR_ic dX7_outOwners_19 ?_
  refine eR_iald (n := 2) dX7_outOwners_20 (tr_w (i := c) (by omega)) (rfl) (by decide) (by decide) ?_
  refine eX_pcI (Ww c 2 hc (by decide)) ?_
  refine eR_mmax dX7_outOwners_21 kw_572 (by have := clad_rg B (hour := hour) (k := 1) hc; have := clad_rg B (hour := hour) (k := 2) hc; unfold rg; omega) (by have := clad_rg B (hour := hour) (k := 1) hc; have := clad_rg B (hour := hour) (k := 2) hc; unfold rg; omega) (by decide) (Nat.le_of_ble_eq_true rfl) ?_
  refine eX_pcI (show (max 0 (clad S hour c 2) : Int) = ↑(if 0 ≤ whereIs S (sO S c 1) hour then 2 ^ sO S c 1 else 0 : Nat) from clad_2) ?_
  refine eR_ior dX7_outOwners_24 ?_
  refine eX_pcI (show (zOr (↑(if 0 ≤ whereIs S (sO S c 0) hour then 2 ^ sO S c 0 else 0 : Nat)) (↑(if 0 ≤ whereIs S (sO S c 1) hour then 2 ^ sO S c 1 else 0 : Nat)) : Int) = ↑(ooS S hour c) from zOr_nat (by split <;> omega) (by split <;> omega)) ?_
  refine eR_iret dX7_outOwners_25 rfl rfl ?_
  exact k
theorem wl_layOut {hour : Nat} (T : isTn (tau t s) u) (B : sB S) (V : cV h u S) {c : Nat} (hc : c < sC S) (hh : hour < 24) (h38 : 38 ≤ u) (k : ∀ h1 : PH, (∀ a, a ≠ 6 + c → a ≠ 15 + c → h1 a = h a) → (∀ x, x < 4 → h1 (6 + c) x = clad S hour c x) → (∀ x, x < 4 → clP S hour c x → h1 (15 + c) x = (spBy S c x : Int)) → Q .null (tau t s) h1) : ∀ m ch : Nat, ch + m = 4 → ∀ h1 : PH, (∀ a, a ≠ 6 + c → a ≠ 15 + c → h1 a = h a) → (∀ x, x < ch → h1 (6 + c) x = clad S hour c x) → (∀ x, x < ch → clP S hour c x → h1 (15 + c) x = (spBy S c x : Int)) → eX g 2 mX7_layOut 3 [(0, .ref (gA g 3)), (1, .ref (gA g u)), (2, .int (zI ↑c)), (3, .int (zI ↑hour)), (4, .int (zI ↑ch))] [] (tau t s) h1 Q := by
  have hP8 := B.1
  have hC8 := B.2.1
  have hE10 := B.2.2.1
  have hF99 := B.2.2.2.2.2.2.1
  have ho9 := B.2.2.2.1 c hc
  have hl0 : 2 ^ sO S c 0 ≤ 2 ^ 7 := Nat.pow_le_pow_right (by omega) (by omega)
  have hl1 : 2 ^ sO S c 1 ≤ 2 ^ 7 := Nat.pow_le_pow_right (by omega) (by omega)
  intro m
  induction m with
  | zero =>
    intro ch hch h1 hF hW hS
    refine eR_ild_4 dX7_layOut_3 ?_
    refine eR_ic dX7_layOut_5 ?_
    refine eR_icmp_ge (tgt := 75) dX7_layOut_6 (by decide) (by first | exact rg_b01 _ | (unfold rg; omega)) (by first | exact rg_b01 _ | (unfold rg; omega)) (fun c6 => ?_) (fun c6 => absurd c6 (by omega))
    refine eR_vret dX7_layOut_75 rfl ?_
    have e9 : ch = 4 := by omega
    subst e9
    exact k h1 hF hW hS
  | succ m ih =>
    intro ch hch h1 hF hW hS
    have V1 : cV h1 u S := cV_of B V (fun a q1 q2 => hF a (by omega) (by omega))
    have hs9 := clS_lt B hc ch
    have hb9 := bcn_le (clS S c ch) 24
    have hw9 : weN S c ch ≤ 99 := by unfold weN; split <;> omega
    by_cases hcl : clP S hour c ch
    · refine eR_ild_4 dX7_layOut_3 ?_
      refine eR_ic dX7_layOut_5 ?_
      refine eR_icmp_ge (tgt := 75) dX7_layOut_6 (by decide) (by first | exact rg_b01 _ | (unfold rg; omega)) (by first | exact rg_b01 _ | (unfold rg; omega)) (fun c6 => absurd c6 (by omega)) (fun c6 => ?_)
      refine eR_aldn_1 dX7_layOut_9 rfl ?_
      refine eR_ildn_2 dX7_layOut_10 rfl ?_
      refine eR_ild_4 dX7_layOut_11 ?_
      refine eR_ildn_3 dX7_layOut_13 rfl ?_
      refine eR_callVi [_, _, _] rfl dX7_layOut_14 ok_mX6_wearers kw_543 rfl rfl T.1 rfl (Nat.le_of_ble_eq_true rfl) (d' := 1) (by decide) (Nat.le_of_ble_eq_true rfl) ?_
      refine tn_wearers (c := c) (ch := ch) (hour := hour) T B V1 (by omega) (by omega) (by omega) ?_
      refine eX_pcI (show (clad S hour c ch : Int) = ↑(clS S c ch) from clad_y hcl) ?_
      refine eR_ist_n5 dX7_layOut_17 (by decide) rfl ?_
      refine eR_aldn_0 dX7_layOut_19 rfl ?_
      refine eR_getR (i := 5) dX7_layOut_20 gf_X7_17 th_3 rfl ?_
      refine eR_ildn_2 dX7_layOut_23 rfl ?_
      refine eR_aald3 (n := c) (i := 6 + c) dX7_layOut_24 th_5 (rfl) (by omega) (by decide) (rowsK_at (by omega)) ?_
      refine eR_ild_4 dX7_layOut_25 ?_
      refine eR_ild_5 dX7_layOut_27 ?_
      refine eR_iast (n := ch) dX7_layOut_29 (tr_w (i := c) (by omega)) (rfl) (by omega) (by decide) ?_
      refine eR_aldn_0 dX7_layOut_30 rfl ?_
      refine eR_getR (i := 14) dX7_layOut_31 gf_X7_20 th_3 rfl ?_
      refine eR_ildn_2 dX7_layOut_34 rfl ?_
      refine eR_aald3 (n := c) (i := 15 + c) dX7_layOut_35 th_14 (rfl) (by omega) (by decide) (rowsK_at (by omega)) ?_
      refine eR_ild_4 dX7_layOut_36 ?_
      refine eR_ild_5 dX7_layOut_38 ?_
      refine eR_ic dX7_layOut_40 ?_
      refine eR_icmp_ne (tgt := 48) dX7_layOut_41 (by decide) (by first | exact rg_b01 _ | (unfold rg; omega)) (by first | exact rg_b01 _ | (unfold rg; omega)) (fun c41 => ?_) (fun c41 => absurd c41 (by omega))
      refine eR_ild_5 dX7_layOut_48 ?_
      refine eR_callSi [_] rfl dX7_layOut_50 ok_mJ6_bitCount_0f7a4 kw_551 rfl rfl (Nat.le_of_ble_eq_true rfl) (d' := 0) (by decide) (Nat.le_of_ble_eq_true rfl) ?_
      refine sp_bitCount (n := (clS S c ch)) (by omega) ?_
      refine eR_aldn_1 dX7_layOut_53 rfl ?_
      refine eR_getI dX7_layOut_54 gf_X7_58 T.1 rfl ?_
      refine eX_pcI (congrFun (hU_a _ _ _ (by omega)) _) ?_
      refine eX_pcI (V1.2.2.2.1) ?_
      refine eR_aldn_1 dX7_layOut_57 rfl ?_
      refine eR_ildn_2 dX7_layOut_58 rfl ?_
      refine eR_ild_4 dX7_layOut_59 ?_
      refine eR_callVi [_, _] rfl dX7_layOut_61 ok_mX6_warmthEach kw_557 rfl rfl T.1 rfl (Nat.le_of_ble_eq_true rfl) (d' := 1) (by decide) (Nat.le_of_ble_eq_true rfl) ?_
      refine tn_warmthEach (c := c) (ch := ch) T B (cV_w B V1 (by omega)) (by omega) (by omega) ?_
      refine eR_mmin dX7_layOut_64 kw_561 (by first | exact rg_b01 _ | (unfold rg; omega)) (by first | exact rg_b01 _ | (unfold rg; omega)) (by decide) (Nat.le_of_ble_eq_true rfl) ?_
      refine eX_pcI (show (min ↑(sF S) ↑(weN S c ch) : Int) = ↑(min (sF S) (weN S c ch)) from by omega) ?_
      refine eR_imul dX7_layOut_67 ?_
      refine eX_pcI (show ((↑(bcn (clS S c ch) 24)) * (↑(min (sF S) (weN S c ch))) : Int) = ↑(spBy S c ch) from by rw [← sp_wt B hc (by omega)]; rfl) ?_
      refine eR_iast (n := ch) dX7_layOut_68 (tr_s (i := c) (by omega)) (rfl) (by omega) (by decide) ?_
      refine eR_iinc_4 dX7_layOut_69 (by decide) rfl ?_
      refine eR_goto (tgt := 3) dX7_layOut_72 (by decide) ?_
      refine eX_lv (lv2 := List.take 5 _) (fun q hq => List.mem_of_mem_take hq) ?_
      refine ih (ch + 1) (by omega) _ (fun a q1 q2 => by rw [hU_a _ _ _ (by omega), hU_a _ _ _ (by omega)]; exact hF a q1 q2) (fun x hx => ?_) (fun x hx hcx => ?_)
      · rw [hU_a _ _ _ (by omega)]
        by_cases hxc : x = ch
        · subst hxc; rw [hU_s]; exact (clad_y hcl).symm
        · rw [hU_i _ _ _ hxc]; exact hW x (by omega)
      · by_cases hxc : x = ch
        · subst hxc; rw [hU_s]
        · rw [hU_i _ _ _ hxc, hU_a _ _ _ (by omega)]; exact hS x (by omega) hcx
    · refine eR_ild_4 dX7_layOut_3 ?_
      refine eR_ic dX7_layOut_5 ?_
      refine eR_icmp_ge (tgt := 75) dX7_layOut_6 (by decide) (by first | exact rg_b01 _ | (unfold rg; omega)) (by first | exact rg_b01 _ | (unfold rg; omega)) (fun c6 => absurd c6 (by omega)) (fun c6 => ?_)
      refine eR_aldn_1 dX7_layOut_9 rfl ?_
      refine eR_ildn_2 dX7_layOut_10 rfl ?_
      refine eR_ild_4 dX7_layOut_11 ?_
      refine eR_ildn_3 dX7_layOut_13 rfl ?_
      refine eR_callVi [_, _, _] rfl dX7_layOut_14 ok_mX6_wearers kw_543 rfl rfl T.1 rfl (Nat.le_of_ble_eq_true rfl) (d' := 1) (by decide) (Nat.le_of_ble_eq_true rfl) ?_
      refine tn_wearers (c := c) (ch := ch) (hour := hour) T B V1 (by omega) (by omega) (by omega) ?_
      refine eX_pcI (show (clad S hour c ch : Int) = (-1) from clad_n hcl) ?_
      refine eR_ist_n5 dX7_layOut_17 (by decide) rfl ?_
      refine eR_aldn_0 dX7_layOut_19 rfl ?_
      refine eR_getR (i := 5) dX7_layOut_20 gf_X7_17 th_3 rfl ?_
      refine eR_ildn_2 dX7_layOut_23 rfl ?_
      refine eR_aald3 (n := c) (i := 6 + c) dX7_layOut_24 th_5 (rfl) (by omega) (by decide) (rowsK_at (by omega)) ?_
      refine eR_ild_4 dX7_layOut_25 ?_
      refine eR_ild_5 dX7_layOut_27 ?_
      refine eR_iast (n := ch) dX7_layOut_29 (tr_w (i := c) (by omega)) (rfl) (by omega) (by decide) ?_
      refine eR_aldn_0 dX7_layOut_30 rfl ?_
      refine eR_getR (i := 14) dX7_layOut_31 gf_X7_20 th_3 rfl ?_
      refine eR_ildn_2 dX7_layOut_34 rfl ?_
      refine eR_aald3 (n := c) (i := 15 + c) dX7_layOut_35 th_14 (rfl) (by omega) (by decide) (rowsK_at (by omega)) ?_
      refine eR_ild_4 dX7_layOut_36 ?_
      refine eR_ild_5 dX7_layOut_38 ?_
      refine eR_ic dX7_layOut_40 ?_
      refine eR_icmp_ne (tgt := 48) dX7_layOut_41 (by decide) (by first | exact rg_b01 _ | (unfold rg; omega)) (by first | exact rg_b01 _ | (unfold rg; omega)) (fun c41 => absurd c41 (by omega)) (fun c41 => ?_)
      refine eR_ic dX7_layOut_44 ?_
      refine eR_goto (tgt := 68) dX7_layOut_45 (by decide) ?_
      refine eR_iast (n := ch) dX7_layOut_68 (tr_s (i := c) (by omega)) (rfl) (by omega) (by decide) ?_
      refine eR_iinc_4 dX7_layOut_69 (by decide) rfl ?_
      refine eR_goto (tgt := 3) dX7_layOut_72 (by decide) ?_
      refine eX_lv (lv2 := List.take 5 _) (fun q hq => List.mem_of_mem_take hq) ?_
      refine ih (ch + 1) (by omega) _ (fun a q1 q2 => by rw [hU_a _ _ _ (by omega), hU_a _ _ _ (by omega)]; exact hF a q1 q2) (fun x hx => ?_) (fun x hx hcx => ?_)
      · rw [hU_a _ _ _ (by omega)]
        by_cases hxc : x = ch
        · subst hxc; rw [hU_s]; exact (clad_n hcl).symm
        · rw [hU_i _ _ _ hxc]; exact hW x (by omega)
      · by_cases hxc : x = ch
        · subst hxc; exact absurd hcx hcl
        · rw [hU_i _ _ _ hxc, hU_a _ _ _ (by omega)]; exact hS x (by omega) hcx
theorem wd_layOut {hour : Nat} (T : isTn (tau t s) u) (B : sB S) (V : cV h u S) {c : Nat} (hc : c < sC S) (hh : hour < 24) (h38 : 38 ≤ u) (k : ∀ h1 : PH, (∀ a, a ≠ 6 + c → a ≠ 15 + c → h1 a = h a) → (∀ x, x < 4 → h1 (6 + c) x = clad S hour c x) → (∀ x, x < 4 → clP S hour c x → h1 (15 + c) x = (spBy S c x : Int)) → Q .null (tau t s) h1) : eX g 2 mX7_layOut 0 (lv_args 0 [.ref (gA g 3), .ref (gA g u), .int (zI ↑c), .int (zI ↑hour)]) [] (tau t s) h Q := by
  show eX g 2 mX7_layOut 0 [(0, .ref (gA g 3)), (1, .ref (gA g u)), (2, .int (zI ↑c)), (3, .int (zI ↑hour))] [] (tau t s) h Q
  refine eR_ic dX7_layOut_0 ?_
  refine eR_ist_n4 dX7_layOut_1 (by decide) rfl ?_
  exact wl_layOut T B V hc hh h38 k 4 0 (by omega) h (fun _ _ _ => rfl) (fun x hx => absurd hx (Nat.not_lt_zero x)) (fun x hx => absurd hx (Nat.not_lt_zero x))
end M44
