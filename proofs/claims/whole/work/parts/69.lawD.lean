section M69
variable {g : EG} {t s i : Nat} {h : PH}
theorem ll_head (hF : gF g = true) (hL : gL g ≤ 2048) (hi0 : i ≤ gL g) (ih : i + 4 ≤ gL g → ∀ (t s : Nat) (h : PH), LI t s h → eX g 12 mL_law 18 [(3, .int (zI ↑(i + 4))), (2, .ref (gA g 205)), (1, .ref (gA g 0)), (0, .ref (gS g))] [] (tau t s) h QL) (I : LI t s h) : eX g 12 mL_law 18 [(3, .int (zI ↑i)), (2, .ref (gA g 205)), (1, .ref (gA g 0)), (0, .ref (gS g))] [] (tau t s) h QL := by
  refine eR_ildn_0 dL_law_18 rfl ?_
  refine eR_aldn_3 dL_law_19 rfl ?_
  refine eR_slen hF dL_law_20 (by omega) ?_
  refine eR_ic dL_law_21 ?_
  refine eR_isub dL_law_22 ?_
  refine eR_icmp_gt (tgt := 964) dL_law_23 (by decide) (by unfold rg; omega) (by unfold rg; omega) (fun c9 => ?_) (fun c9 => ?_)
  · refine eR_ic dL_law_964 ?_
    exact eR_zret dL_law_965 rfl (Or.inr rfl) rfl
  have hi : i + 4 ≤ gL g := by omega
  have ih9 : ∀ (t s : Nat) (h : PH), LI t s h → eX g 12 mL_law 958 [(3, .int (zI ↑i)), (2, .ref (gA g 205)), (1, .ref (gA g 0)), (0, .ref (gS g))] [] (tau t s) h QL := fun t s h I => by
    refine eR_iinc_0 dL_law_958 (by decide) rfl ?_
    refine eR_goto (tgt := 18) dL_law_961 (by decide) ?_
    exact ih hi t s h I
  refine eR_aldn_3 dL_law_26 rfl ?_
  refine eR_ildn_0 dL_law_27 rfl ?_
  refine eR_sldz (n := i) hF dL_law_28 rfl (by omega) (by omega) ?_
  refine eR_bi (z := 31) dL_law_29 rfl ?_
  refine eR_iand dL_law_31 ?_
  obtain ⟨z, ez⟩ : ∃ z, z = zAnd (gX g i).toInt 31 := ⟨_, rfl⟩
  have hz : rg z := by rw [ez]; exact rg_of _
  rw [← ez]
  by_cases hx : z < 0 ∨ 29 < z
  · exact eR_tabOut (tgt := 958) dL_law_32 hz hx (by decide) (ih9 t s h I)
  rcases (show z = 0 ∨ z = 1 ∨ z = 2 ∨ z = 3 ∨ z = 4 ∨ z = 5 ∨ z = 6 ∨ z = 7 ∨ z = 8 ∨ z = 9 ∨ z = 10 ∨ z = 11 ∨ z = 12 ∨ z = 13 ∨ z = 14 ∨ z = 15 ∨ z = 16 ∨ z = 17 ∨ z = 18 ∨ z = 19 ∨ z = 20 ∨ z = 21 ∨ z = 22 ∨ z = 23 ∨ z = 24 ∨ z = 25 ∨ z = 26 ∨ z = 27 ∨ z = 28 ∨ z = 29 by omega) with q9 | q9 | q9 | q9 | q9 | q9 | q9 | q9 | q9 | q9 | q9 | q9 | q9 | q9 | q9 | q9 | q9 | q9 | q9 | q9 | q9 | q9 | q9 | q9 | q9 | q9 | q9 | q9 | q9 | q9
  · rw [q9] at hz ⊢
    exact eR_tabIn (tgt := 168) (off := 136) dL_law_32 hz (by decide) (by decide) rfl (by decide) (lc_0 hF hL hi I ih9)
  · rw [q9] at hz ⊢
    exact eR_tabIn (tgt := 231) (off := 199) dL_law_32 hz (by decide) (by decide) rfl (by decide) (lc_1 hF hL hi I ih9)
  · rw [q9] at hz ⊢
    exact eR_tabIn (tgt := 244) (off := 212) dL_law_32 hz (by decide) (by decide) rfl (by decide) (lc_2 hF hL hi I ih9)
  · rw [q9] at hz ⊢
    exact eR_tabIn (tgt := 257) (off := 225) dL_law_32 hz (by decide) (by decide) rfl (by decide) (lc_3 hF hL hi I ih9)
  · rw [q9] at hz ⊢
    exact eR_tabIn (tgt := 280) (off := 248) dL_law_32 hz (by decide) (by decide) rfl (by decide) (lc_4 hF hL hi I ih9)
  · rw [q9] at hz ⊢
    exact eR_tabIn (tgt := 313) (off := 281) dL_law_32 hz (by decide) (by decide) rfl (by decide) (lc_5 hF hL hi I ih9)
  · rw [q9] at hz ⊢
    exact eR_tabIn (tgt := 346) (off := 314) dL_law_32 hz (by decide) (by decide) rfl (by decide) (lc_6 hF hL hi I ih9)
  · rw [q9] at hz ⊢
    exact eR_tabIn (tgt := 379) (off := 347) dL_law_32 hz (by decide) (by decide) rfl (by decide) (lc_7 hF hL hi I ih9)
  · rw [q9] at hz ⊢
    exact eR_tabIn (tgt := 412) (off := 380) dL_law_32 hz (by decide) (by decide) rfl (by decide) (lc_8 hF hL hi I ih9)
  · rw [q9] at hz ⊢
    exact eR_tabIn (tgt := 445) (off := 413) dL_law_32 hz (by decide) (by decide) rfl (by decide) (lc_9 hF hL hi I ih9)
  · rw [q9] at hz ⊢
    exact eR_tabIn (tgt := 488) (off := 456) dL_law_32 hz (by decide) (by decide) rfl (by decide) (lc_10 hF hL hi I ih9)
  · rw [q9] at hz ⊢
    exact eR_tabIn (tgt := 511) (off := 479) dL_law_32 hz (by decide) (by decide) rfl (by decide) (lc_11 hF hL hi I ih9)
  · rw [q9] at hz ⊢
    exact eR_tabIn (tgt := 534) (off := 502) dL_law_32 hz (by decide) (by decide) rfl (by decide) (lc_12 hF hL hi I ih9)
  · rw [q9] at hz ⊢
    exact eR_tabIn (tgt := 567) (off := 535) dL_law_32 hz (by decide) (by decide) rfl (by decide) (lc_13 hF hL hi I ih9)
  · rw [q9] at hz ⊢
    exact eR_tabIn (tgt := 600) (off := 568) dL_law_32 hz (by decide) (by decide) rfl (by decide) (lc_14 hF hL hi I ih9)
  · rw [q9] at hz ⊢
    exact eR_tabIn (tgt := 633) (off := 601) dL_law_32 hz (by decide) (by decide) rfl (by decide) (lc_15 hF hL hi I ih9)
  · rw [q9] at hz ⊢
    exact eR_tabIn (tgt := 656) (off := 624) dL_law_32 hz (by decide) (by decide) rfl (by decide) (lc_16 hF hL hi I ih9)
  · rw [q9] at hz ⊢
    exact eR_tabIn (tgt := 669) (off := 637) dL_law_32 hz (by decide) (by decide) rfl (by decide) (lc_17 hF hL hi I ih9)
  · rw [q9] at hz ⊢
    exact eR_tabIn (tgt := 682) (off := 650) dL_law_32 hz (by decide) (by decide) rfl (by decide) (lc_18 hF hL hi I ih9)
  · rw [q9] at hz ⊢
    exact eR_tabIn (tgt := 705) (off := 673) dL_law_32 hz (by decide) (by decide) rfl (by decide) (lc_19 hF hL hi I ih9)
  · rw [q9] at hz ⊢
    exact eR_tabIn (tgt := 718) (off := 686) dL_law_32 hz (by decide) (by decide) rfl (by decide) (lc_20 hF hL hi I ih9)
  · rw [q9] at hz ⊢
    exact eR_tabIn (tgt := 761) (off := 729) dL_law_32 hz (by decide) (by decide) rfl (by decide) (lc_21 hF hL hi I ih9)
  · rw [q9] at hz ⊢
    exact eR_tabIn (tgt := 784) (off := 752) dL_law_32 hz (by decide) (by decide) rfl (by decide) (lc_22 hF hL hi I ih9)
  · rw [q9] at hz ⊢
    exact eR_tabIn (tgt := 797) (off := 765) dL_law_32 hz (by decide) (by decide) rfl (by decide) (lc_23 hF hL hi I ih9)
  · rw [q9] at hz ⊢
    exact eR_tabIn (tgt := 840) (off := 808) dL_law_32 hz (by decide) (by decide) rfl (by decide) (lc_24 hF hL hi I ih9)
  · rw [q9] at hz ⊢
    exact eR_tabIn (tgt := 853) (off := 821) dL_law_32 hz (by decide) (by decide) rfl (by decide) (lc_25 hF hL hi I ih9)
  · rw [q9] at hz ⊢
    exact eR_tabIn (tgt := 866) (off := 834) dL_law_32 hz (by decide) (by decide) rfl (by decide) (lc_26 hF hL hi I ih9)
  · rw [q9] at hz ⊢
    exact eR_tabIn (tgt := 889) (off := 857) dL_law_32 hz (by decide) (by decide) rfl (by decide) (lc_27 hF hL hi I ih9)
  · rw [q9] at hz ⊢
    exact eR_tabIn (tgt := 912) (off := 880) dL_law_32 hz (by decide) (by decide) rfl (by decide) (lc_28 hF hL hi I ih9)
  · rw [q9] at hz ⊢
    exact eR_tabIn (tgt := 935) (off := 903) dL_law_32 hz (by decide) (by decide) rfl (by decide) (lc_29 hF hL hi I ih9)
theorem ll_loop (hF : gF g = true) (hL : gL g ≤ 2048) : ∀ (n i t s : Nat) (h : PH), i ≤ gL g → gL g ≤ i + n → LI t s h → eX g 12 mL_law 18 [(3, .int (zI ↑i)), (2, .ref (gA g 205)), (1, .ref (gA g 0)), (0, .ref (gS g))] [] (tau t s) h QL := by
  intro n
  induction n with
  | zero =>
    intro i t s h hi hn I
    exact ll_head hF hL hi (fun q => absurd q (by omega)) I
  | succ n ihn =>
    intro i t s h hi hn I
    refine ll_head hF hL hi (fun q => ?_) I
    intro t2 s2 h2 I2
    exact ihn (i + 4) t2 s2 h2 (by omega) (by omega) I2
end M69
