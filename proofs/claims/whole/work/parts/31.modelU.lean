theorem hvN_s (S : TS) (p c : Nat) : (hvN S (c + 1)).testBit p = true ↔ ((hvN S c).testBit p = true ∨ ((sK S).testBit c = true ∧ (sO S c 0 = p ∨ sO S c 1 = p))) := by
  rw [hvN_bit, hvN_bit]
  constructor
  · rintro ⟨x, q1, q2, q3⟩
    by_cases hx : x = c
    · subst hx; exact Or.inr ⟨q2, q3⟩
    · exact Or.inl ⟨x, by omega, q2, q3⟩
  · rintro (⟨x, q1, q2⟩ | ⟨q2, q3⟩)
    · exact ⟨x, by omega, q2⟩
    · exact ⟨c, by omega, q2, q3⟩
/-- who is OUT and has no half -/
def rfP (S : TS) (errs hour : Nat) : Nat → Nat
  | 0 => 0
  | p + 1 => rfP S errs hour p ||| (if 0 ≤ whereBy S p hour errs ∧ ¬ (hvN S (sC S)).testBit p = true then 2 ^ p else 0)
theorem rfP_bit (S : TS) (errs hour : Nat) : ∀ n i, (rfP S errs hour n).testBit i = true ↔ ((odP S errs hour n).testBit i = true ∧ ¬ (hvN S (sC S)).testBit i = true) := by
  intro n
  induction n with
  | zero => intro i; simp [rfP, odP]
  | succ n ih =>
    intro i
    rw [rfP, odP, Nat.testBit_or, Nat.testBit_or, Bool.or_eq_true, Bool.or_eq_true, ih]
    by_cases hw : 0 ≤ whereBy S n hour errs
    · by_cases hv : (hvN S (sC S)).testBit n = true
      · rw [if_neg (by rintro ⟨q1, q2⟩; exact q2 hv), if_pos hw, Nat.testBit_two_pow]
        simp only [Nat.zero_testBit, Bool.false_eq_true, or_false, decide_eq_true_eq]
        constructor
        · rintro ⟨q1, q2⟩; exact ⟨Or.inl q1, q2⟩
        · rintro ⟨q1 | rfl, q2⟩
          · exact ⟨q1, q2⟩
          · exact absurd hv q2
      · rw [if_pos ⟨hw, hv⟩, if_pos hw, Nat.testBit_two_pow]
        simp only [decide_eq_true_eq]
        constructor
        · rintro (⟨q1, q2⟩ | rfl)
          · exact ⟨Or.inl q1, q2⟩
          · exact ⟨Or.inr rfl, hv⟩
        · rintro ⟨q1 | rfl, q2⟩
          · exact Or.inl ⟨q1, q2⟩
          · exact Or.inr rfl
    · rw [if_neg (by rintro ⟨q1, q2⟩; exact hw q1), if_neg hw]
      simp
theorem rfP_lt (S : TS) (errs hour : Nat) : ∀ n, rfP S errs hour n < 2 ^ n := by
  intro n
  induction n with
  | zero => exact (by decide : 0 < 2 ^ 0)
  | succ n ih =>
    unfold rfP
    have h1 : 2 ^ n < 2 ^ (n + 1) := Nat.pow_lt_pow_right (by omega) (by omega)
    refine Nat.or_lt_two_pow (by omega) ?_
    split <;> omega
theorem mokH_rf (S : TS) (errs hour : Nat) : mokH S errs hour ↔ fmD (opQ S (rfP S errs hour (sP S))) (sC S) (rfP S errs hour (sP S)) := fm_same S (sC S) _ _ (rfP_bit S errs hour (sP S))
def isMk (S : TS) (n r : Nat) : Prop := r < n ∧ mokS S r ∧ ∀ x, x < n → mokS S x → bcn x 24 ≤ bcn r 24 ∧ (x < r → bcn x 24 < bcn r 24)
theorem isMk_0 (S : TS) : isMk S 1 0 := ⟨by decide, mokS_0 S, fun x hx _ => by rw [show x = 0 from by omega]; exact ⟨Nat.le_refl _, fun q => by omega⟩⟩
theorem isMk_y {S : TS} {n r : Nat} (h : isMk S n r) (h1 : bcn r 24 < bcn n 24) (h2 : mokS S n) : isMk S (n + 1) n := ⟨by omega, h2, fun x hx hm => by
  by_cases hxn : x = n
  · subst hxn; exact ⟨Nat.le_refl _, fun q => by omega⟩
  · have := h.2.2 x (by omega) hm; exact ⟨by omega, fun _ => by omega⟩⟩
theorem isMk_n {S : TS} {n r : Nat} (h : isMk S n r) (h1 : ¬ (bcn r 24 < bcn n 24 ∧ mokS S n)) : isMk S (n + 1) r := ⟨by have := h.1; omega, h.2.1, fun x hx hm => by
  by_cases hxn : x = n
  · subst hxn
    have h2 : ¬ bcn r 24 < bcn x 24 := fun q => h1 ⟨q, hm⟩
    have := h.1
    exact ⟨by omega, fun q => by omega⟩
  · exact h.2.2 x (by omega) hm⟩
section M31
variable {g : EG} {d t s : Nat} {h h1 : PH} {Q : EQ} {S : TS}
theorem lp_hasHalf (B : sB S) (V : mV h S) {p : Nat} (hp : p < 8) (k : Q (.int (zI (b01 ((hvN S (sC S)).testBit p = true)))) (tau t s) h) : ∀ n c : Nat, c + n = sC S → eX g 2 mX9_hasHalf 4 [(0, .ref (gA g 205)), (1, .int (zI ↑p)), (2, .int (zI (b01 ((hvN S c).testBit p = true)))), (3, .int (zI ↑c))] [] (tau t s) h Q := by
  have hP8 := B.1
  have hC8 := B.2.1
  have hE10 := B.2.2.1
  have hF99 := B.2.2.2.2.2.2.1
  intro n
  induction n with
  | zero =>
    intro c hx9
    refine eR_ildn_3 dX9_hasHalf_4 rfl ?_
    refine eR_aldn_0 dX9_hasHalf_5 rfl ?_
    refine eR_getR (i := 217) dX9_hasHalf_6 gf_X9_44 th_205 rfl ?_
    refine eR_ic dX9_hasHalf_9 ?_
    refine eR_iald (n := 1) dX9_hasHalf_10 th_217 (rfl) (by decide) (by decide) ?_
    refine eX_pcI (V.2.1) ?_
    refine eR_icmp_ge (tgt := 61) dX9_hasHalf_11 (by decide) (by first | exact rg_b01 _ | (unfold rg; omega)) (by first | exact rg_b01 _ | (unfold rg; omega)) (fun c11 => ?_) (fun c11 => absurd c11 (by omega))
    refine eR_ildn_2 dX9_hasHalf_61 rfl ?_
    refine eR_zret dX9_hasHalf_62 rfl (b01_01 _) ?_
    have e9 : c = sC S := by omega
    subst e9
    exact k
  | succ n ih =>
    intro c hx9
    have ho9 := B.2.2.2.1 c (by omega)
    have hh9 := hvN_s S p c
    refine eR_ildn_3 dX9_hasHalf_4 rfl ?_
    refine eR_aldn_0 dX9_hasHalf_5 rfl ?_
    refine eR_getR (i := 217) dX9_hasHalf_6 gf_X9_44 th_205 rfl ?_
    refine eR_ic dX9_hasHalf_9 ?_
    refine eR_iald (n := 1) dX9_hasHalf_10 th_217 (rfl) (by decide) (by decide) ?_
    refine eX_pcI (V.2.1) ?_
    refine eR_icmp_ge (tgt := 61) dX9_hasHalf_11 (by decide) (by first | exact rg_b01 _ | (unfold rg; omega)) (by first | exact rg_b01 _ | (unfold rg; omega)) (fun c11 => absurd c11 (by omega)) (fun c11 => ?_)
    refine eR_ildn_2 dX9_hasHalf_14 rfl ?_
    refine eR_if_ne (tgt := 49) dX9_hasHalf_15 (by decide) (by first | exact rg_b01 _ | (unfold rg; omega)) (fun c15 => ?_) (fun c15 => ?_)
    · replace c15 := b01_ne0.mp c15
      refine eR_ic dX9_hasHalf_49 ?_
      refine eR_goto (tgt := 54) dX9_hasHalf_50 (by decide) ?_
      refine eR_istn_2 dX9_hasHalf_54 rfl (by decide) rfl ?_
      refine eR_iinc_3 dX9_hasHalf_55 (by decide) rfl ?_
      refine eR_goto (tgt := 4) dX9_hasHalf_58 (by decide) ?_
      have f4 : b01 ((hvN S (c + 1)).testBit p = true) = 1 := b01_t (hh9.mpr (by first | exact Or.inl (by assumption) | exact Or.inr ⟨by assumption, by omega⟩))
      have e8 := ih (c + 1) (by omega)
      rw [f4] at e8
      exact e8
    · replace c15 := b01_eq0.mp c15
      refine eR_aldn_0 dX9_hasHalf_18 rfl ?_
      refine eR_ildn_3 dX9_hasHalf_19 rfl ?_
      refine eR_callVi [_] rfl dX9_hasHalf_20 ok_mX9_isCut kw_1061 rfl rfl th_205 rfl (Nat.le_of_ble_eq_true rfl) (d' := 1) (by decide) (Nat.le_of_ble_eq_true rfl) ?_
      refine sp_isCut (c := c) B V (by omega) ?_
      refine eR_if_eq (tgt := 53) dX9_hasHalf_23 (by decide) (by first | exact rg_b01 _ | (unfold rg; omega)) (fun c23 => ?_) (fun c23 => ?_)
      · replace c23 := b01_eq0.mp c23
        refine eR_ic dX9_hasHalf_53 ?_
        refine eR_istn_2 dX9_hasHalf_54 rfl (by decide) rfl ?_
        refine eR_iinc_3 dX9_hasHalf_55 (by decide) rfl ?_
        refine eR_goto (tgt := 4) dX9_hasHalf_58 (by decide) ?_
        have f4 : b01 ((hvN S (c + 1)).testBit p = true) = 0 := b01_f (fun q => by rcases hh9.mp q with q1 | ⟨q1, q2⟩ <;> first | contradiction | omega)
        have e8 := ih (c + 1) (by omega)
        rw [f4] at e8
        exact e8
      · replace c23 := b01_ne0.mp c23
        refine eR_aldn_0 dX9_hasHalf_26 rfl ?_
        refine eR_getR (i := 206) dX9_hasHalf_27 gf_X9_7 th_205 rfl ?_
        refine eR_ildn_3 dX9_hasHalf_30 rfl ?_
        refine eR_iald (n := c) dX9_hasHalf_31 th_206 (rfl) (by omega) (by decide) ?_
        refine eX_pcI ((V.2.2.2.1 c (by omega)).1) ?_
        refine eR_ildn_1 dX9_hasHalf_32 rfl ?_
        refine eR_icmp_eq (tgt := 49) dX9_hasHalf_33 (by decide) (by first | exact rg_b01 _ | (unfold rg; omega)) (by first | exact rg_b01 _ | (unfold rg; omega)) (fun c33 => ?_) (fun c33 => ?_)
        · refine eR_ic dX9_hasHalf_49 ?_
          refine eR_goto (tgt := 54) dX9_hasHalf_50 (by decide) ?_
          refine eR_istn_2 dX9_hasHalf_54 rfl (by decide) rfl ?_
          refine eR_iinc_3 dX9_hasHalf_55 (by decide) rfl ?_
          refine eR_goto (tgt := 4) dX9_hasHalf_58 (by decide) ?_
          have f4 : b01 ((hvN S (c + 1)).testBit p = true) = 1 := b01_t (hh9.mpr (by first | exact Or.inl (by assumption) | exact Or.inr ⟨by assumption, by omega⟩))
          have e8 := ih (c + 1) (by omega)
          rw [f4] at e8
          exact e8
        · refine eR_aldn_0 dX9_hasHalf_36 rfl ?_
          refine eR_getR (i := 206) dX9_hasHalf_37 gf_X9_7 th_205 rfl ?_
          refine eR_bi (z := 8) dX9_hasHalf_40 rfl ?_
          refine eR_ildn_3 dX9_hasHalf_42 rfl ?_
          refine eR_iadd dX9_hasHalf_43 ?_
          refine eR_iald (n := 8 + c) dX9_hasHalf_44 th_206 (by omega) (by omega) (by decide) ?_
          refine eX_pcI ((V.2.2.2.1 c (by omega)).2.1) ?_
          refine eR_ildn_1 dX9_hasHalf_45 rfl ?_
          refine eR_icmp_ne (tgt := 53) dX9_hasHalf_46 (by decide) (by first | exact rg_b01 _ | (unfold rg; omega)) (by first | exact rg_b01 _ | (unfold rg; omega)) (fun c46 => ?_) (fun c46 => ?_)
          · refine eR_ic dX9_hasHalf_53 ?_
            refine eR_istn_2 dX9_hasHalf_54 rfl (by decide) rfl ?_
            refine eR_iinc_3 dX9_hasHalf_55 (by decide) rfl ?_
            refine eR_goto (tgt := 4) dX9_hasHalf_58 (by decide) ?_
            have f4 : b01 ((hvN S (c + 1)).testBit p = true) = 0 := b01_f (fun q => by rcases hh9.mp q with q1 | ⟨q1, q2⟩ <;> first | contradiction | omega)
            have e8 := ih (c + 1) (by omega)
            rw [f4] at e8
            exact e8
          · refine eR_ic dX9_hasHalf_49 ?_
            refine eR_goto (tgt := 54) dX9_hasHalf_50 (by decide) ?_
            refine eR_istn_2 dX9_hasHalf_54 rfl (by decide) rfl ?_
            refine eR_iinc_3 dX9_hasHalf_55 (by decide) rfl ?_
            refine eR_goto (tgt := 4) dX9_hasHalf_58 (by decide) ?_
            have f4 : b01 ((hvN S (c + 1)).testBit p = true) = 1 := b01_t (hh9.mpr (by first | exact Or.inl (by assumption) | exact Or.inr ⟨by assumption, by omega⟩))
            have e8 := ih (c + 1) (by omega)
            rw [f4] at e8
            exact e8
theorem sp_hasHalf (B : sB S) (V : mV h S) {p : Nat} (hp : p < 8) (k : Q (.int (zI (b01 ((hvN S (sC S)).testBit p = true)))) (tau t s) h) : eX g 2 mX9_hasHalf 0 (lv_args 0 [.ref (gA g 205), .int (zI ↑p)]) [] (tau t s) h Q := by
  show eX g 2 mX9_hasHalf 0 [(0, .ref (gA g 205)), (1, .int (zI ↑p))] [] (tau t s) h Q
  refine eR_ic dX9_hasHalf_0 ?_
  refine eR_istn_n2 dX9_hasHalf_1 rfl (by decide) rfl ?_
  refine eR_ic dX9_hasHalf_2 ?_
  refine eR_istn_n3 dX9_hasHalf_3 rfl (by decide) rfl ?_
  have e8 := lp_hasHalf (g := g) B V hp k (sC S) 0 (by omega)
  rw [show b01 ((hvN S 0).testBit p = true) = 0 from b01_f (by simp [hvN])] at e8
  exact e8
theorem lp_areClad3 (B : sB S) (V : mV h S) {set c : Nat} (hs : set < 256) (hc : c < sC S) (hcut : ¬ (sK S).testBit c = true) (k : ∀ h1 : PH, ofO 221 h h1 → mrk (h1 221) (fmD (opQ S set) (c + 1)) → eX g 2 mX9_areClad 116 [(0, .ref (gA g 205)), (1, .int (zI ↑set)), (2, .int (zI ↑c))] [] (tau t s) h1 Q) :
    ∀ n : Nat, n ≤ 256 → ∀ h1 : PH, ofO 221 h h1 → mrk (h1 221) (mkI (opQ S set) c n) → eX g 2 mX9_areClad 49 [(0, .ref (gA g 205)), (1, .int (zI ↑set)), (2, .int (zI ↑c)), (3, .int (zI (↑n - 1)))] [] (tau t s) h1 Q := by
  have hP8 := B.1
  have hC8 := B.2.1
  have hE10 := B.2.2.1
  have hF99 := B.2.2.2.2.2.2.1
  have ho9 := B.2.2.2.1 c hc
  have hl8 : ∀ y, fmD (opQ S set) c y → y < 256 := fun y hy => Nat.lt_of_lt_of_le (fmQ_lt B (by omega) hy) (Nat.pow_le_pow_right (by omega) hP8 : 2 ^ sP S ≤ 2 ^ 8)
  have hb0 : 2 ^ sO S c 0 ≤ 2 ^ 7 := Nat.pow_le_pow_right (by omega) (by omega)
  have hb1 : 2 ^ sO S c 1 ≤ 2 ^ 7 := Nat.pow_le_pow_right (by omega) (by omega)
  have ha0 : 2 ^ sO S c 0 &&& set ≤ 2 ^ sO S c 0 := Nat.and_le_left
  have ha1 : 2 ^ sO S c 1 &&& set ≤ 2 ^ sO S c 1 := Nat.and_le_left
  intro n
  induction n with
  | zero =>
    intro hn h1 hO hM
    have V1 := mV_o V hO (by decide)
    refine eR_ildn_3 dX9_areClad_49 rfl ?_
    refine eR_if_lt (tgt := 116) dX9_areClad_50 (by decide) (by first | exact rg_b01 _ | (unfold rg; omega)) (fun c50 => ?_) (fun c50 => absurd c50 (by omega))
    refine eX_lv (lv2 := List.take 3 _) (fun q hq => List.mem_of_mem_take hq) ?_
    exact k h1 hO (mrk_eq hM (fun x _ => mkI_0 (fun y hy => hl8 y hy) x))
  | succ n ih =>
    intro hn h1 hO hM
    have V1 := mV_o V hO (by decide)
    have hm9 : h1 221 n = 1 ↔ fmD (opQ S set) c n := (mrk_at hM (by omega)).trans (mkI_at (by omega))
    have hr0 : n ||| (2 ^ sO S c 0 &&& set) < 256 := Nat.or_lt_two_pow (n := 8) (by omega) (by omega)
    have hr1 : n ||| (2 ^ sO S c 1 &&& set) < 256 := Nat.or_lt_two_pow (n := 8) (by omega) (by omega)
    refine eR_ildn_3 dX9_areClad_49 rfl ?_
    refine eR_if_lt (tgt := 116) dX9_areClad_50 (by decide) (by first | exact rg_b01 _ | (unfold rg; omega)) (fun c50 => absurd c50 (by omega)) (fun c50 => ?_)
    rw [show ((↑(n + 1) : Int) - 1) = ↑n from by omega]
    refine eR_aldn_0 dX9_areClad_53 rfl ?_
    refine eR_ildn_2 dX9_areClad_54 rfl ?_
    refine eR_callVi [_] rfl dX9_areClad_55 ok_mX9_isCut kw_1061 rfl rfl th_205 rfl (Nat.le_of_ble_eq_true rfl) (d' := 1) (by decide) (Nat.le_of_ble_eq_true rfl) ?_
    refine sp_isCut (c := c) B V1 (by omega) ?_
    refine eR_if_ne (tgt := 116) dX9_areClad_58 (by decide) (by first | exact rg_b01 _ | (unfold rg; omega)) (fun c58 => absurd c58 (by first | (simp [b01, hcut]; done) | (rw [b01_f hcut]; decide))) (fun c58 => ?_)
    refine eR_aldn_0 dX9_areClad_61 rfl ?_
    refine eR_getR (i := 221) dX9_areClad_62 gf_X9_60 th_205 rfl ?_
    refine eR_ildn_3 dX9_areClad_65 rfl ?_
    refine eR_iald (n := n) dX9_areClad_66 th_221 (rfl) (by omega) (by decide) ?_
    refine eR_ic dX9_areClad_67 ?_
    refine eR_icmp_ne (tgt := 110) dX9_areClad_68 (by decide) (by rcases mrk_rg hM (k := n) (by omega) with q | q <;> rw [q] <;> unfold rg <;> omega) (by unfold rg; omega) (fun c68 => ?_) (fun c68 => ?_)
    · refine eR_iinc_3 dX9_areClad_110 (by decide) rfl ?_
      refine eR_goto (tgt := 49) dX9_areClad_113 (by decide) ?_
      rw [show ((↑n : Int) + (-1)) = ↑n - 1 from by omega]
      refine ih (by omega) h1 hO (mrk_eq hM (fun x _ => (mkI_skip (fun q => c68 (hm9.mpr q))).symm))
    · refine eR_aldn_0 dX9_areClad_71 rfl ?_
      refine eR_getR (i := 221) dX9_areClad_72 gf_X9_60 th_205 rfl ?_
      refine eR_ildn_3 dX9_areClad_75 rfl ?_
      refine eR_ic dX9_areClad_76 ?_
      refine eR_aldn_0 dX9_areClad_77 rfl ?_
      refine eR_getR (i := 206) dX9_areClad_78 gf_X9_7 th_205 rfl ?_
      refine eR_ildn_2 dX9_areClad_81 rfl ?_
      refine eR_iald (n := c) dX9_areClad_82 th_206 (rfl) (by omega) (by decide) ?_
      refine eX_pcI ((V1.2.2.2.1 c (by omega)).1) ?_
      refine eR_ishl dX9_areClad_83 ?_
      refine eX_pcI (show (zShl 1 ↑(sO S c 0) : Int) = ↑(2 ^ sO S c 0 : Nat) from by have := zShl_nat (a := 1) (k := sO S c 0) (by omega) (by omega); rw [Nat.one_mul] at this; exact this) ?_
      refine eR_ildn_1 dX9_areClad_84 rfl ?_
      refine eR_iand dX9_areClad_85 ?_
      refine eX_pcI (show (zAnd ↑(2 ^ sO S c 0 : Nat) ↑set : Int) = ↑(2 ^ sO S c 0 &&& set : Nat) from zAnd_nat (by omega)) ?_
      refine eR_ior dX9_areClad_86 ?_
      refine eX_pcI (show (zOr ↑n ↑(2 ^ sO S c 0 &&& set : Nat) : Int) = ↑(n ||| (2 ^ sO S c 0 &&& set) : Nat) from zOr_nat (by omega) (by omega)) ?_
      refine eR_ic dX9_areClad_87 ?_
      refine eR_iast (n := n ||| (2 ^ sO S c 0 &&& set)) dX9_areClad_88 th_221 (rfl) (by omega) (by decide) ?_
      refine eR_aldn_0 dX9_areClad_89 rfl ?_
      refine eR_getR (i := 221) dX9_areClad_90 gf_X9_60 th_205 rfl ?_
      refine eR_ildn_3 dX9_areClad_93 rfl ?_
      refine eR_ic dX9_areClad_94 ?_
      refine eR_aldn_0 dX9_areClad_95 rfl ?_
      refine eR_getR (i := 206) dX9_areClad_96 gf_X9_7 th_205 rfl ?_
      refine eR_bi (z := 8) dX9_areClad_99 rfl ?_
      refine eR_ildn_2 dX9_areClad_101 rfl ?_
      refine eR_iadd dX9_areClad_102 ?_
      refine eR_iald (n := 8 + c) dX9_areClad_103 th_206 (by omega) (by omega) (by decide) ?_
      refine eX_pcI (congrFun (hU_a _ _ _ (by decide)) _) ?_
      refine eX_pcI ((V1.2.2.2.1 c (by omega)).2.1) ?_
      refine eR_ishl dX9_areClad_104 ?_
      refine eX_pcI (show (zShl 1 ↑(sO S c 1) : Int) = ↑(2 ^ sO S c 1 : Nat) from by have := zShl_nat (a := 1) (k := sO S c 1) (by omega) (by omega); rw [Nat.one_mul] at this; exact this) ?_
      refine eR_ildn_1 dX9_areClad_105 rfl ?_
      refine eR_iand dX9_areClad_106 ?_
      refine eX_pcI (show (zAnd ↑(2 ^ sO S c 1 : Nat) ↑set : Int) = ↑(2 ^ sO S c 1 &&& set : Nat) from zAnd_nat (by omega)) ?_
      refine eR_ior dX9_areClad_107 ?_
      refine eX_pcI (show (zOr ↑n ↑(2 ^ sO S c 1 &&& set : Nat) : Int) = ↑(n ||| (2 ^ sO S c 1 &&& set) : Nat) from zOr_nat (by omega) (by omega)) ?_
      refine eR_ic dX9_areClad_108 ?_
      refine eR_iast (n := n ||| (2 ^ sO S c 1 &&& set)) dX9_areClad_109 th_221 (rfl) (by omega) (by decide) ?_
      refine eR_iinc_3 dX9_areClad_110 (by decide) rfl ?_
      refine eR_goto (tgt := 49) dX9_areClad_113 (by decide) ?_
      rw [show ((↑n : Int) + (-1)) = ↑n - 1 from by omega]
      refine ih (by omega) _ (ofO_w (ofO_w hO)) (mrk_eq (mrk_w (mrk_w hM)) (fun x _ => ?_))
      rw [mkI_step (O := opQ S set) (c := c) (hm9.mp (by omega)) (by omega)]
      constructor
      · rintro ((q | q) | q)
        · exact Or.inl q
        · exact Or.inr ⟨_, ⟨hcut, Or.inl rfl⟩, q⟩
        · exact Or.inr ⟨_, ⟨hcut, Or.inr rfl⟩, q⟩
      · rintro (q | ⟨b, ⟨-, rfl | rfl⟩, q⟩)
        · exact Or.inl (Or.inl q)
        · exact Or.inl (Or.inr q)
        · exact Or.inr q
theorem lp_areClad2 (B : sB S) (V : mV h S) {set : Nat} (hs : set < 256) (k : ∀ h1 : PH, ofO 221 h h1 → mrk (h1 221) (fmD (opQ S set) (sC S)) → eX g 2 mX9_areClad 122 [(0, .ref (gA g 205)), (1, .int (zI ↑set)), (2, .int (zI ↑(sC S)))] [] (tau t s) h1 Q) :
    ∀ n c : Nat, c + n = sC S → ∀ h1 : PH, ofO 221 h h1 → mrk (h1 221) (fmD (opQ S set) c) → eX g 2 mX9_areClad 35 [(0, .ref (gA g 205)), (1, .int (zI ↑set)), (2, .int (zI ↑c))] [] (tau t s) h1 Q := by
  have hP8 := B.1
  have hC8 := B.2.1
  have hE10 := B.2.2.1
  have hF99 := B.2.2.2.2.2.2.1
  intro n
  induction n with
  | zero =>
    intro c hc h1 hO hM
    have V1 := mV_o V hO (by decide)
    refine eR_ildn_2 dX9_areClad_35 rfl ?_
    refine eR_aldn_0 dX9_areClad_36 rfl ?_
    refine eR_getR (i := 217) dX9_areClad_37 gf_X9_44 th_205 rfl ?_
    refine eR_ic dX9_areClad_40 ?_
    refine eR_iald (n := 1) dX9_areClad_41 th_217 (rfl) (by decide) (by decide) ?_
    refine eX_pcI (V1.2.1) ?_
    refine eR_icmp_ge (tgt := 122) dX9_areClad_42 (by decide) (by first | exact rg_b01 _ | (unfold rg; omega)) (by first | exact rg_b01 _ | (unfold rg; omega)) (fun c42 => ?_) (fun c42 => absurd c42 (by omega))
    have e9 : c = sC S := by omega
    subst e9
    exact k h1 hO hM
  | succ n ih =>
    intro c hc h1 hO hM
    have V1 := mV_o V hO (by decide)
    by_cases hcut : (sK S).testBit c = true
    · refine eR_ildn_2 dX9_areClad_35 rfl ?_
      refine eR_aldn_0 dX9_areClad_36 rfl ?_
      refine eR_getR (i := 217) dX9_areClad_37 gf_X9_44 th_205 rfl ?_
      refine eR_ic dX9_areClad_40 ?_
      refine eR_iald (n := 1) dX9_areClad_41 th_217 (rfl) (by decide) (by decide) ?_
      refine eX_pcI (V1.2.1) ?_
      refine eR_icmp_ge (tgt := 122) dX9_areClad_42 (by decide) (by first | exact rg_b01 _ | (unfold rg; omega)) (by first | exact rg_b01 _ | (unfold rg; omega)) (fun c42 => absurd c42 (by omega)) (fun c42 => ?_)
      refine eR_si (z := 255) dX9_areClad_45 rfl ?_
      refine eR_istn_n3 dX9_areClad_48 rfl (by decide) rfl ?_
      refine eR_ildn_3 dX9_areClad_49 rfl ?_
      refine eR_if_lt (tgt := 116) dX9_areClad_50 (by decide) (by first | exact rg_b01 _ | (unfold rg; omega)) (fun c50 => absurd c50 (by decide)) (fun c50 => ?_)
      refine eR_aldn_0 dX9_areClad_53 rfl ?_
      refine eR_ildn_2 dX9_areClad_54 rfl ?_
      refine eR_callVi [_] rfl dX9_areClad_55 ok_mX9_isCut kw_1061 rfl rfl th_205 rfl (Nat.le_of_ble_eq_true rfl) (d' := 1) (by decide) (Nat.le_of_ble_eq_true rfl) ?_
      refine sp_isCut (c := c) B V1 (by omega) ?_
      refine eR_if_ne (tgt := 116) dX9_areClad_58 (by decide) (by first | exact rg_b01 _ | (unfold rg; omega)) (fun c58 => ?_) (fun c58 => absurd c58 (by first | simp [b01, hcut] | (rw [b01_t hcut]; decide)))
      refine eX_lv (lv2 := List.take 3 _) (fun q hq => List.mem_of_mem_take hq) ?_
      refine eR_iinc_2 dX9_areClad_116 (by decide) rfl ?_
      refine eR_goto (tgt := 35) dX9_areClad_119 (by decide) ?_
      exact ih (c + 1) (by omega) h1 hO (mrk_eq hM (fun x _ => ⟨Or.inl, by rintro (q | ⟨y, b, -, q, -⟩); exact q; exact absurd hcut q.1⟩))
    · refine eR_ildn_2 dX9_areClad_35 rfl ?_
      refine eR_aldn_0 dX9_areClad_36 rfl ?_
      refine eR_getR (i := 217) dX9_areClad_37 gf_X9_44 th_205 rfl ?_
      refine eR_ic dX9_areClad_40 ?_
      refine eR_iald (n := 1) dX9_areClad_41 th_217 (rfl) (by decide) (by decide) ?_
      refine eX_pcI (V1.2.1) ?_
      refine eR_icmp_ge (tgt := 122) dX9_areClad_42 (by decide) (by first | exact rg_b01 _ | (unfold rg; omega)) (by first | exact rg_b01 _ | (unfold rg; omega)) (fun c42 => absurd c42 (by omega)) (fun c42 => ?_)
      refine eR_si (z := 255) dX9_areClad_45 rfl ?_
      refine eR_istn_n3 dX9_areClad_48 rfl (by decide) rfl ?_
      refine lp_areClad3 B V hs (by omega) hcut ?_ 256 (Nat.le_refl _) h1 hO (mrk_eq hM (fun x _ => mkI_hi.symm))
      intro h2 hO2 hM2
      refine eR_iinc_2 dX9_areClad_116 (by decide) rfl ?_
      refine eR_goto (tgt := 35) dX9_areClad_119 (by decide) ?_
      exact ih (c + 1) (by omega) h2 hO2 hM2
theorem lp_areClad1 (B : sB S) (V : mV h S) {set : Nat} (hs : set < 256) (k : ∀ h1 : PH, ofO 221 h h1 → mrk (h1 221) (fmD (opQ S set) (sC S)) → eX g 2 mX9_areClad 122 [(0, .ref (gA g 205)), (1, .int (zI ↑set)), (2, .int (zI ↑(sC S)))] [] (tau t s) h1 Q) :
    ∀ n i : Nat, i + n = 256 → ∀ h1 : PH, ofO 221 h h1 → (∀ x, x < i → h1 221 x = if x = 0 then 1 else 0) → eX g 2 mX9_areClad 2 [(0, .ref (gA g 205)), (1, .int (zI ↑set)), (2, .int (zI ↑i))] [] (tau t s) h1 Q := by
  have hP8 := B.1
  have hC8 := B.2.1
  have hE10 := B.2.2.1
  have hF99 := B.2.2.2.2.2.2.1
  intro n
  induction n with
  | zero =>
    intro i hi h1 hO hz
    have V1 := mV_o V hO (by decide)
    refine eR_ildn_2 dX9_areClad_2 rfl ?_
    refine eR_si (z := 256) dX9_areClad_3 rfl ?_
    refine eR_icmp_ge (tgt := 33) dX9_areClad_6 (by decide) (by first | exact rg_b01 _ | (unfold rg; omega)) (by first | exact rg_b01 _ | (unfold rg; omega)) (fun c6 => ?_) (fun c6 => absurd c6 (by omega))
    refine eR_ic dX9_areClad_33 ?_
    refine eR_istn_2 dX9_areClad_34 rfl (by decide) rfl ?_
    refine lp_areClad2 B V hs k (sC S) 0 (by omega) h1 hO (fun x hx => ?_)
    by_cases hx0 : x = 0
    · subst hx0
      exact Or.inl ⟨(hz 0 (by omega)).trans (if_pos rfl), rfl⟩
    · exact Or.inr ⟨(hz x (by omega)).trans (if_neg hx0), hx0⟩
  | succ n ih =>
    intro i hi h1 hO hz
    have V1 := mV_o V hO (by decide)
    refine eR_ildn_2 dX9_areClad_2 rfl ?_
    refine eR_si (z := 256) dX9_areClad_3 rfl ?_
    refine eR_icmp_ge (tgt := 33) dX9_areClad_6 (by decide) (by first | exact rg_b01 _ | (unfold rg; omega)) (by first | exact rg_b01 _ | (unfold rg; omega)) (fun c6 => absurd c6 (by omega)) (fun c6 => ?_)
    refine eR_aldn_0 dX9_areClad_9 rfl ?_
    refine eR_getR (i := 221) dX9_areClad_10 gf_X9_60 th_205 rfl ?_
    refine eR_ildn_2 dX9_areClad_13 rfl ?_
    refine eR_ildn_2 dX9_areClad_14 rfl ?_
    refine eR_if_ne (tgt := 22) dX9_areClad_15 (by decide) (by first | exact rg_b01 _ | (unfold rg; omega)) (fun c15 => ?_) (fun c15 => ?_)
    · refine eR_ic dX9_areClad_22 ?_
      refine eR_callSi [_] rfl dX9_areClad_23 ok_mX9_one kw_1050 rfl rfl (Nat.le_of_ble_eq_true rfl) (d' := 0) (by decide) (Nat.le_of_ble_eq_true rfl) ?_
      refine sp_one (by first | exact b01_01 _ | omega) ?_
      refine eR_iast (n := i) dX9_areClad_26 th_221 (rfl) (by omega) (by decide) ?_
      refine eR_iinc_2 dX9_areClad_27 (by decide) rfl ?_
      refine eR_goto (tgt := 2) dX9_areClad_30 (by decide) ?_
      refine ih (i + 1) (by omega) _ (ofO_w hO) (fun x hx => ?_)
      by_cases hxi : x = i
      · subst hxi
        rw [hU_s]
        first | exact (if_pos (by omega)).symm | exact (if_neg (by omega)).symm
      · rw [hU_i _ _ _ hxi]
        exact hz x (by omega)
    · refine eR_ic dX9_areClad_18 ?_
      refine eR_goto (tgt := 23) dX9_areClad_19 (by decide) ?_
      refine eR_callSi [_] rfl dX9_areClad_23 ok_mX9_one kw_1050 rfl rfl (Nat.le_of_ble_eq_true rfl) (d' := 0) (by decide) (Nat.le_of_ble_eq_true rfl) ?_
      refine sp_one (by first | exact b01_01 _ | omega) ?_
      refine eR_iast (n := i) dX9_areClad_26 th_221 (rfl) (by omega) (by decide) ?_
      refine eR_iinc_2 dX9_areClad_27 (by decide) rfl ?_
      refine eR_goto (tgt := 2) dX9_areClad_30 (by decide) ?_
      refine ih (i + 1) (by omega) _ (ofO_w hO) (fun x hx => ?_)
      by_cases hxi : x = i
      · subst hxi
        rw [hU_s]
        first | exact (if_pos (by omega)).symm | exact (if_neg (by omega)).symm
      · rw [hU_i _ _ _ hxi]
        exact hz x (by omega)
theorem sp_areClad (B : sB S) (V : mV h S) {set : Nat} (hs : set < 256) (k1 : ∀ h1 : PH, ofO 221 h h1 → fmD (opQ S set) (sC S) set → Q (.int (zI 1)) (tau t s) h1) (k0 : ∀ h1 : PH, ofO 221 h h1 → ¬ fmD (opQ S set) (sC S) set → Q (.int (zI 0)) (tau t s) h1) : eX g 2 mX9_areClad 0 (lv_args 0 [.ref (gA g 205), .int (zI ↑set)]) [] (tau t s) h Q := by
  show eX g 2 mX9_areClad 0 [(0, .ref (gA g 205)), (1, .int (zI ↑set))] [] (tau t s) h Q
  refine eR_ic dX9_areClad_0 ?_
  refine eR_istn_n2 dX9_areClad_1 rfl (by decide) rfl ?_
  refine lp_areClad1 B V hs ?_ 256 0 (by omega) h (ofO_rf _ _) (fun x hx => absurd hx (Nat.not_lt_zero x))
  intro h1 hO hM
  refine eR_aldn_0 dX9_areClad_122 rfl ?_
  refine eR_getR (i := 221) dX9_areClad_123 gf_X9_60 th_205 rfl ?_
  refine eR_ildn_1 dX9_areClad_126 rfl ?_
  refine eR_iald (n := set) dX9_areClad_127 th_221 (rfl) (by omega) (by decide) ?_
  refine eR_ic dX9_areClad_128 ?_
  refine eR_icmp_ne (tgt := 136) dX9_areClad_129 (by decide) (by rcases mrk_rg hM (k := set) (by omega) with q | q <;> rw [q] <;> unfold rg <;> omega) (by unfold rg; omega) (fun c129 => ?_) (fun c129 => ?_)
  · refine eR_ic dX9_areClad_136 ?_
    refine eR_zret dX9_areClad_137 rfl (by omega) ?_
    exact k0 h1 hO (fun q => absurd ((mrk_at hM hs).mpr q) (by omega))
  · refine eR_ic dX9_areClad_132 ?_
    refine eR_goto (tgt := 137) dX9_areClad_133 (by decide) ?_
    refine eR_zret dX9_areClad_137 rfl (by omega) ?_
    exact k1 h1 hO ((mrk_at hM hs).mp (by omega))
theorem lp_canAll2 (B : sB S) (V : mV h S) {errs hour : Nat} (hr : errs < 1024) (hh : hour < 24) (k : eX g 3 mX9_canAll 64 [(0, .ref (gA g 205)), (1, .int (zI ↑errs)), (2, .int (zI ↑hour)), (3, .int (zI (↑(rfP S errs hour (sP S))))), (4, .int (zI ↑(sP S)))] [] (tau t s) h Q) : ∀ n p : Nat, p + n = sP S → eX g 3 mX9_canAll 13 [(0, .ref (gA g 205)), (1, .int (zI ↑errs)), (2, .int (zI ↑hour)), (3, .int (zI ↑(rfP S errs hour p))), (4, .int (zI ↑p))] [] (tau t s) h Q := by
  have hP8 := B.1
  have hC8 := B.2.1
  have hE10 := B.2.2.1
  have hF99 := B.2.2.2.2.2.2.1
  intro n
  induction n with
  | zero =>
    intro p hx9
    refine eR_ild_4 dX9_canAll_13 ?_
    refine eR_aldn_0 dX9_canAll_15 rfl ?_
    refine eR_getR (i := 217) dX9_canAll_16 gf_X9_44 th_205 rfl ?_
    refine eR_ic dX9_canAll_19 ?_
    refine eR_iald (n := 0) dX9_canAll_20 th_217 (rfl) (by decide) (by decide) ?_
    refine eX_pcI (V.1) ?_
    refine eR_icmp_ge (tgt := 64) dX9_canAll_21 (by decide) (by first | exact rg_b01 _ | (unfold rg; omega)) (by first | exact rg_b01 _ | (unfold rg; omega)) (fun c21 => ?_) (fun c21 => absurd c21 (by omega))
    have e9 : p = sP S := by omega
    subst e9
    exact k
  | succ n ih =>
    intro p hx9
    have hw9 := whereBy_rg B p hour errs
    have hl9 := rfP_lt S errs hour p
    have hl8 : 2 ^ p ≤ 2 ^ 7 := Nat.pow_le_pow_right (by omega) (by omega)
    refine eR_ild_4 dX9_canAll_13 ?_
    refine eR_aldn_0 dX9_canAll_15 rfl ?_
    refine eR_getR (i := 217) dX9_canAll_16 gf_X9_44 th_205 rfl ?_
    refine eR_ic dX9_canAll_19 ?_
    refine eR_iald (n := 0) dX9_canAll_20 th_217 (rfl) (by decide) (by decide) ?_
    refine eX_pcI (V.1) ?_
    refine eR_icmp_ge (tgt := 64) dX9_canAll_21 (by decide) (by first | exact rg_b01 _ | (unfold rg; omega)) (by first | exact rg_b01 _ | (unfold rg; omega)) (fun c21 => absurd c21 (by omega)) (fun c21 => ?_)
    refine eR_ildn_3 dX9_canAll_24 rfl ?_
    refine eR_aldn_0 dX9_canAll_25 rfl ?_
    refine eR_ild_4 dX9_canAll_26 ?_
    refine eR_ildn_2 dX9_canAll_28 rfl ?_
    refine eR_ildn_1 dX9_canAll_29 rfl ?_
    refine eR_callVi [_, _, _] rfl dX9_canAll_30 ok_mX9_whereBy kw_1043 rfl rfl th_205 rfl (Nat.le_of_ble_eq_true rfl) (d' := 1) (by decide) (Nat.le_of_ble_eq_true rfl) ?_
    refine sp_whereBy (p := p) (hour := hour) (errs := errs) B V (by omega) (by omega) (by omega) ?_
    refine eR_if_lt (tgt := 49) dX9_canAll_33 (by decide) (by first | exact rg_b01 _ | (unfold rg; omega)) (fun c33 => ?_) (fun c33 => ?_)
    · refine eR_ic dX9_canAll_49 ?_
      refine eR_callSi [_] rfl dX9_canAll_50 ok_mX9_one kw_1050 rfl rfl (Nat.le_of_ble_eq_true rfl) (d' := 0) (by decide) (Nat.le_of_ble_eq_true rfl) ?_
      refine sp_one (by first | exact b01_01 _ | omega) ?_
      refine eR_ild_4 dX9_canAll_53 ?_
      refine eR_ishl dX9_canAll_55 ?_
      refine eX_pcI (show (zShl 0 ↑p : Int) = ↑(0 : Nat) from by have := zShl_nat (a := 0) (k := p) (by omega) (by omega); rw [Nat.zero_mul] at this; exact this) ?_
      refine eR_ior dX9_canAll_56 ?_
      refine eX_pcI (show (zOr ↑(rfP S errs hour p) ↑(0 : Nat) : Int) = ↑(rfP S errs hour (p + 1)) from by rw [zOr_nat (by omega) (by omega), rfP, if_neg (by rintro ⟨q1, q2⟩; first | contradiction | omega)]) ?_
      refine eR_istn_3 dX9_canAll_57 rfl (by decide) rfl ?_
      refine eR_iinc_4 dX9_canAll_58 (by decide) rfl ?_
      refine eR_goto (tgt := 13) dX9_canAll_61 (by decide) ?_
      exact ih (p + 1) (by omega)
    · refine eR_aldn_0 dX9_canAll_36 rfl ?_
      refine eR_ild_4 dX9_canAll_37 ?_
      refine eR_callVi [_] rfl dX9_canAll_39 ok_mX9_hasHalf kw_1192 rfl rfl th_205 rfl (Nat.le_of_ble_eq_true rfl) (d' := 2) (by decide) (Nat.le_of_ble_eq_true rfl) ?_
      refine sp_hasHalf (p := p) B V (by omega) ?_
      refine eR_if_ne (tgt := 49) dX9_canAll_42 (by decide) (by first | exact rg_b01 _ | (unfold rg; omega)) (fun c42 => ?_) (fun c42 => ?_)
      · replace c42 := b01_ne0.mp c42
        refine eR_ic dX9_canAll_49 ?_
        refine eR_callSi [_] rfl dX9_canAll_50 ok_mX9_one kw_1050 rfl rfl (Nat.le_of_ble_eq_true rfl) (d' := 0) (by decide) (Nat.le_of_ble_eq_true rfl) ?_
        refine sp_one (by first | exact b01_01 _ | omega) ?_
        refine eR_ild_4 dX9_canAll_53 ?_
        refine eR_ishl dX9_canAll_55 ?_
        refine eX_pcI (show (zShl 0 ↑p : Int) = ↑(0 : Nat) from by have := zShl_nat (a := 0) (k := p) (by omega) (by omega); rw [Nat.zero_mul] at this; exact this) ?_
        refine eR_ior dX9_canAll_56 ?_
        refine eX_pcI (show (zOr ↑(rfP S errs hour p) ↑(0 : Nat) : Int) = ↑(rfP S errs hour (p + 1)) from by rw [zOr_nat (by omega) (by omega), rfP, if_neg (by rintro ⟨q1, q2⟩; first | contradiction | omega)]) ?_
        refine eR_istn_3 dX9_canAll_57 rfl (by decide) rfl ?_
        refine eR_iinc_4 dX9_canAll_58 (by decide) rfl ?_
        refine eR_goto (tgt := 13) dX9_canAll_61 (by decide) ?_
        exact ih (p + 1) (by omega)
      · replace c42 := b01_eq0.mp c42
        refine eR_ic dX9_canAll_45 ?_
        refine eR_goto (tgt := 50) dX9_canAll_46 (by decide) ?_
        refine eR_callSi [_] rfl dX9_canAll_50 ok_mX9_one kw_1050 rfl rfl (Nat.le_of_ble_eq_true rfl) (d' := 0) (by decide) (Nat.le_of_ble_eq_true rfl) ?_
        refine sp_one (by first | exact b01_01 _ | omega) ?_
        refine eR_ild_4 dX9_canAll_53 ?_
        refine eR_ishl dX9_canAll_55 ?_
        refine eX_pcI (show (zShl 1 ↑p : Int) = ↑(2 ^ p : Nat) from by have := zShl_nat (a := 1) (k := p) (by omega) (by omega); rw [Nat.one_mul] at this; exact this) ?_
        refine eR_ior dX9_canAll_56 ?_
        refine eX_pcI (show (zOr ↑(rfP S errs hour p) ↑(2 ^ p : Nat) : Int) = ↑(rfP S errs hour (p + 1)) from by rw [zOr_nat (by omega) (by omega), rfP, if_pos ⟨by omega, by assumption⟩]) ?_
        refine eR_istn_3 dX9_canAll_57 rfl (by decide) rfl ?_
        refine eR_iinc_4 dX9_canAll_58 (by decide) rfl ?_
        refine eR_goto (tgt := 13) dX9_canAll_61 (by decide) ?_
        exact ih (p + 1) (by omega)
theorem lp_canAll (B : sB S) (V : mV h S) {errs : Nat} (hr : errs < 1024) (k1 : ∀ h1 : PH, ofO 221 h h1 → mokS S errs → Q (.int (zI 1)) (tau t s) h1) (k0 : ∀ h1 : PH, ofO 221 h h1 → ¬ mokS S errs → Q (.int (zI 0)) (tau t s) h1) : ∀ n hour : Nat, hour + n = 24 → ∀ h1 : PH, ofO 221 h h1 → (∀ x, x < hour → mokH S errs x) → eX g 3 mX9_canAll 2 [(0, .ref (gA g 205)), (1, .int (zI ↑errs)), (2, .int (zI ↑hour))] [] (tau t s) h1 Q := by
  have hP8 := B.1
  have hC8 := B.2.1
  have hE10 := B.2.2.1
  have hF99 := B.2.2.2.2.2.2.1
  intro n
  induction n with
  | zero =>
    intro hour hx9 h1 hO hd
    have V1 := mV_o V hO (by decide)
    refine eR_ildn_2 dX9_canAll_2 rfl ?_
    refine eR_bi (z := 24) dX9_canAll_3 rfl ?_
    refine eR_icmp_ge (tgt := 84) dX9_canAll_5 (by decide) (by first | exact rg_b01 _ | (unfold rg; omega)) (by first | exact rg_b01 _ | (unfold rg; omega)) (fun c5 => ?_) (fun c5 => absurd c5 (by omega))
    refine eR_ic dX9_canAll_84 ?_
    refine eR_zret dX9_canAll_85 rfl (by omega) ?_
    exact k1 h1 hO (fun x hx => hd x (by omega))
  | succ n ih =>
    intro hour hx9 h1 hO hd
    have V1 := mV_o V hO (by decide)
    have hl9 := rfP_lt S errs hour (sP S)
    have hl8 : 2 ^ sP S ≤ 2 ^ 8 := Nat.pow_le_pow_right (by omega) hP8
    refine eR_ildn_2 dX9_canAll_2 rfl ?_
    refine eR_bi (z := 24) dX9_canAll_3 rfl ?_
    refine eR_icmp_ge (tgt := 84) dX9_canAll_5 (by decide) (by first | exact rg_b01 _ | (unfold rg; omega)) (by first | exact rg_b01 _ | (unfold rg; omega)) (fun c5 => absurd c5 (by omega)) (fun c5 => ?_)
    refine eR_ic dX9_canAll_8 ?_
    refine eR_istn_n3 dX9_canAll_9 rfl (by decide) rfl ?_
    refine eR_ic dX9_canAll_10 ?_
    refine eR_ist_n4 dX9_canAll_11 (by decide) rfl ?_
    refine lp_canAll2 B V1 hr (by omega) ?_ (sP S) 0 (by omega)
    refine eR_ildn_3 dX9_canAll_64 rfl ?_
    refine eR_if_le (tgt := 78) dX9_canAll_65 (by decide) (by first | exact rg_b01 _ | (unfold rg; omega)) (fun c65 => ?_) (fun c65 => ?_)
    · refine eR_iinc_2 dX9_canAll_78 (by decide) rfl ?_
      refine eR_goto (tgt := 2) dX9_canAll_81 (by decide) ?_
      refine eX_lv (lv2 := List.take 3 _) (fun q hq => List.mem_of_mem_take hq) ?_
      refine ih (hour + 1) (by omega) h1 hO (fun x hx => ?_)
      by_cases hxh : x = hour
      · subst hxh
        exact (mokH_rf S errs x).mpr (by rw [show rfP S errs x (sP S) = 0 from by omega]; exact fmD_0 _ _)
      · exact hd x (by omega)
    · refine eR_aldn_0 dX9_canAll_68 rfl ?_
      refine eR_ildn_3 dX9_canAll_69 rfl ?_
      refine eR_callVi [_] rfl dX9_canAll_70 ok_mX9_areClad kw_1196 rfl rfl th_205 rfl (Nat.le_of_ble_eq_true rfl) (d' := 2) (by decide) (Nat.le_of_ble_eq_true rfl) ?_
      refine sp_areClad (set := rfP S errs hour (sP S)) B V1 (by omega) (fun h2 O2 hg => ?_) (fun h2 O2 hg => ?_)
      · refine eR_if_ne (tgt := 78) dX9_canAll_73 (by decide) (by first | exact rg_b01 _ | (unfold rg; omega)) (fun c73 => ?_) (fun c73 => absurd c73 (by decide))
        refine eR_iinc_2 dX9_canAll_78 (by decide) rfl ?_
        refine eR_goto (tgt := 2) dX9_canAll_81 (by decide) ?_
        refine eX_lv (lv2 := List.take 3 _) (fun q hq => List.mem_of_mem_take hq) ?_
        refine ih (hour + 1) (by omega) h2 (fun b hb => (O2 b hb).trans (hO b hb)) (fun x hx => ?_)
        by_cases hxh : x = hour
        · subst hxh
          exact (mokH_rf S errs x).mpr hg
        · exact hd x (by omega)
      · refine eR_if_ne (tgt := 78) dX9_canAll_73 (by decide) (by first | exact rg_b01 _ | (unfold rg; omega)) (fun c73 => absurd c73 (by decide)) (fun c73 => ?_)
        refine eR_ic dX9_canAll_76 ?_
        refine eR_zret dX9_canAll_77 rfl (by omega) ?_
        exact k0 h2 (fun b hb => (O2 b hb).trans (hO b hb)) (fun q => hg ((mokH_rf S errs hour).mp (q hour (by omega))))
theorem sp_canAll (B : sB S) (V : mV h S) {errs : Nat} (hr : errs < 1024) (k1 : ∀ h1 : PH, ofO 221 h h1 → mokS S errs → Q (.int (zI 1)) (tau t s) h1) (k0 : ∀ h1 : PH, ofO 221 h h1 → ¬ mokS S errs → Q (.int (zI 0)) (tau t s) h1) : eX g 3 mX9_canAll 0 (lv_args 0 [.ref (gA g 205), .int (zI ↑errs)]) [] (tau t s) h Q := by
  show eX g 3 mX9_canAll 0 [(0, .ref (gA g 205)), (1, .int (zI ↑errs))] [] (tau t s) h Q
  refine eR_ic dX9_canAll_0 ?_
  refine eR_istn_n2 dX9_canAll_1 rfl (by decide) rfl ?_
  exact lp_canAll B V hr k1 k0 24 0 (by omega) h (ofO_rf _ _) (fun x hx => absurd hx (Nat.not_lt_zero x))
theorem lp_most (B : sB S) (V : mV h S) (k : ∀ (r : Nat) (h1 : PH), ofO 221 h h1 → isMst S r → Q (.int (zI ↑r)) (tau t s) h1) : ∀ m n r : Nat, n + m = 2 ^ sE S → ∀ h1 : PH, ofO 221 h h1 → isMk S n r → eX g 4 mX9_most 4 [(0, .ref (gA g 205)), (1, .int (zI ↑r)), (2, .int (zI ↑n))] [] (tau t s) h1 Q := by
  have hP8 := B.1
  have hC8 := B.2.1
  have hE10 := B.2.2.1
  have hF99 := B.2.2.2.2.2.2.1
  have e2 : 2 ^ sE S ≤ 2 ^ 10 := Nat.pow_le_pow_right (by omega) hE10
  intro m
  induction m with
  | zero =>
    intro n r hx9 h1 hO hr
    have V1 := mV_o V hO (by decide)
    have hr9 := hr.1
    refine eR_ildn_2 dX9_most_4 rfl ?_
    refine eR_ic dX9_most_5 ?_
    refine eR_aldn_0 dX9_most_6 rfl ?_
    refine eR_getR (i := 217) dX9_most_7 gf_X9_44 th_205 rfl ?_
    refine eR_ic dX9_most_10 ?_
    refine eR_iald (n := 2) dX9_most_11 th_217 (rfl) (by decide) (by decide) ?_
    refine eX_pcI (V1.2.2.1) ?_
    refine eR_ishl dX9_most_12 ?_
    refine eX_pcI (show (zShl 1 ↑(sE S) : Int) = ↑(2 ^ sE S : Nat) from by have := zShl_nat (a := 1) (k := sE S) (by omega) (by omega); rw [Nat.one_mul] at this; exact this) ?_
    refine eR_icmp_ge (tgt := 47) dX9_most_13 (by decide) (by first | exact rg_b01 _ | (unfold rg; omega)) (by first | exact rg_b01 _ | (unfold rg; omega)) (fun c13 => ?_) (fun c13 => absurd c13 (by omega))
    refine eR_ildn_1 dX9_most_47 rfl ?_
    refine eR_iret dX9_most_48 rfl rfl ?_
    have e9 : n = 2 ^ sE S := by omega
    subst e9
    exact k r h1 hO hr
  | succ m ih =>
    intro n r hx9 h1 hO hr
    have V1 := mV_o V hO (by decide)
    have hr9 := hr.1
    have hb9 := bcn_le n 24
    have hb8 := bcn_le r 24
    refine eR_ildn_2 dX9_most_4 rfl ?_
    refine eR_ic dX9_most_5 ?_
    refine eR_aldn_0 dX9_most_6 rfl ?_
    refine eR_getR (i := 217) dX9_most_7 gf_X9_44 th_205 rfl ?_
    refine eR_ic dX9_most_10 ?_
    refine eR_iald (n := 2) dX9_most_11 th_217 (rfl) (by decide) (by decide) ?_
    refine eX_pcI (V1.2.2.1) ?_
    refine eR_ishl dX9_most_12 ?_
    refine eX_pcI (show (zShl 1 ↑(sE S) : Int) = ↑(2 ^ sE S : Nat) from by have := zShl_nat (a := 1) (k := sE S) (by omega) (by omega); rw [Nat.one_mul] at this; exact this) ?_
    refine eR_icmp_ge (tgt := 47) dX9_most_13 (by decide) (by first | exact rg_b01 _ | (unfold rg; omega)) (by first | exact rg_b01 _ | (unfold rg; omega)) (fun c13 => absurd c13 (by omega)) (fun c13 => ?_)
    refine eR_ildn_2 dX9_most_16 rfl ?_
    refine eR_callSi [_] rfl dX9_most_17 ok_mX9_ones kw_1115 rfl rfl (Nat.le_of_ble_eq_true rfl) (d' := 0) (by decide) (Nat.le_of_ble_eq_true rfl) ?_
    refine sp_ones (n := n) (by omega) ?_
    refine eR_ildn_1 dX9_most_20 rfl ?_
    refine eR_callSi [_] rfl dX9_most_21 ok_mX9_ones kw_1115 rfl rfl (Nat.le_of_ble_eq_true rfl) (d' := 0) (by decide) (Nat.le_of_ble_eq_true rfl) ?_
    refine sp_ones (n := r) (by omega) ?_
    refine eR_icmp_le (tgt := 39) dX9_most_24 (by decide) (by first | exact rg_b01 _ | (unfold rg; omega)) (by first | exact rg_b01 _ | (unfold rg; omega)) (fun c24 => ?_) (fun c24 => ?_)
    · refine eR_ildn_1 dX9_most_39 rfl ?_
      refine eR_istn_1 dX9_most_40 rfl (by decide) rfl ?_
      refine eR_iinc_2 dX9_most_41 (by decide) rfl ?_
      refine eR_goto (tgt := 4) dX9_most_44 (by decide) ?_
      exact ih (n + 1) r (by omega) h1 hO (isMk_n hr (fun q => by have := q.1; omega))
    · refine eR_aldn_0 dX9_most_27 rfl ?_
      refine eR_ildn_2 dX9_most_28 rfl ?_
      refine eR_callVi [_] rfl dX9_most_29 ok_mX9_canAll kw_1188 rfl rfl th_205 rfl (Nat.le_of_ble_eq_true rfl) (d' := 3) (by decide) (Nat.le_of_ble_eq_true rfl) ?_
      refine sp_canAll (errs := n) B V1 (by omega) (fun h2 O2 hg => ?_) (fun h2 O2 hg => ?_)
      · refine eR_if_eq (tgt := 39) dX9_most_32 (by decide) (by first | exact rg_b01 _ | (unfold rg; omega)) (fun c32 => absurd c32 (by decide)) (fun c32 => ?_)
        refine eR_ildn_2 dX9_most_35 rfl ?_
        refine eR_goto (tgt := 40) dX9_most_36 (by decide) ?_
        refine eR_istn_1 dX9_most_40 rfl (by decide) rfl ?_
        refine eR_iinc_2 dX9_most_41 (by decide) rfl ?_
        refine eR_goto (tgt := 4) dX9_most_44 (by decide) ?_
        exact ih (n + 1) n (by omega) h2 (fun b hb => (O2 b hb).trans (hO b hb)) (isMk_y hr (by omega) hg)
      · refine eR_if_eq (tgt := 39) dX9_most_32 (by decide) (by first | exact rg_b01 _ | (unfold rg; omega)) (fun c32 => ?_) (fun c32 => absurd c32 (by decide))
        refine eR_ildn_1 dX9_most_39 rfl ?_
        refine eR_istn_1 dX9_most_40 rfl (by decide) rfl ?_
        refine eR_iinc_2 dX9_most_41 (by decide) rfl ?_
        refine eR_goto (tgt := 4) dX9_most_44 (by decide) ?_
        exact ih (n + 1) r (by omega) h2 (fun b hb => (O2 b hb).trans (hO b hb)) (isMk_n hr (fun q => hg q.2))
theorem sp_most (B : sB S) (V : mV h S) (k : ∀ (r : Nat) (h1 : PH), ofO 221 h h1 → isMst S r → Q (.int (zI ↑r)) (tau t s) h1) : eX g 4 mX9_most 0 (lv_args 0 [.ref (gA g 205)]) [] (tau t s) h Q := by
  show eX g 4 mX9_most 0 [(0, .ref (gA g 205))] [] (tau t s) h Q
  have e3 := Nat.two_pow_pos (sE S)
  refine eR_ic dX9_most_0 ?_
  refine eR_istn_n1 dX9_most_1 rfl (by decide) rfl ?_
  refine eR_ic dX9_most_2 ?_
  refine eR_istn_n2 dX9_most_3 rfl (by decide) rfl ?_
  exact lp_most B V k (2 ^ sE S - 1) 1 0 (by omega) h (ofO_rf _ _) (isMk_0 S)
end M31
