theorem kw_562 : (Jvm.Cond.static ({ cls := "java/lang/Math", name := "min", desc := "(II)I" } : Jvm.MethodName)) ∈ lw_gd := lw_gd_in 562 (by decide +kernel) (by decide +kernel)
theorem kw_563 : (Jvm.Cond.code ({ cls := "java/lang/Math", name := "min", desc := "(II)I" } : Jvm.MethodName) prog_13_method_69_code (2 : Nat) (Option.some Jvm.ClassFile.FieldType.int)) ∈ lw_gd := lw_gd_in 563 (by decide +kernel) (by decide +kernel)
theorem kw_573 : (Jvm.Cond.static ({ cls := "java/lang/Math", name := "max", desc := "(II)I" } : Jvm.MethodName)) ∈ lw_gd := lw_gd_in 573 (by decide +kernel) (by decide +kernel)
theorem kw_574 : (Jvm.Cond.code ({ cls := "java/lang/Math", name := "max", desc := "(II)I" } : Jvm.MethodName) prog_13_method_65_code (2 : Nat) (Option.some Jvm.ClassFile.FieldType.int)) ∈ lw_gd := lw_gd_in 574 (by decide +kernel) (by decide +kernel)
section CALLS
variable {g : EG} {d d' : Nat} {M M' : MM} {pc : Nat} {lv : List (Nat × Value)} {st st0 : List Value} {τ : List Kd} {h : PH} {Q : EQ} {As : List Value}
theorem e_start {s : State} {H : Heap} {locs : List Loc} (hok : e_Ok g s s.heap) (hH : eH g τ h H) (hS : va_S (eA g) s.heap H locs) (U : State) (hU : U.heap = H) (hW : s.WarmedH U.vm) : e_Pc g As τ h As.toArray U :=
  ⟨rfl, by rw [hU]; exact e_Ok_warm hW (e_Ok_kept hok hS.1 hS.2.1), by rw [hU]; exact hH⟩
theorem e_blind : FrameBlind (e_Pc g As τ h) := fun a U gg mk q => by
  obtain ⟨q0, q1, q2⟩ := q
  exact ⟨q0, e_Ok_same (u := U) (U := U.calling gg mk a) rfl q1, q2⟩
theorem e_gV {idx : Nat} (hok : okV M') (hlk : Cond.methodLink M.1.cls idx M'.1 ∈ lw_gd) : GoodIn lw_gd (wsV M.1.cls idx M'.1.cls M'.1 (e_ws M')) := by
  refine lw_gd_good fun w hw => ?_
  unfold wsV at hw
  simp only [List.cons_append, List.nil_append, List.mem_cons] at hw
  rcases hw with rfl | rfl | rfl | rfl | rfl | hw
  · exact hlk
  · exact hok.2.1
  · exact hok.2.2
  · exact hok.1.2.1
  · exact hok.1.1
  · exact hw
theorem e_gS {idx : Nat} (hok : okS M') (hlk : Cond.methodLink M.1.cls idx M'.1 ∈ lw_gd) : GoodIn lw_gd (va_wsS M.1.cls idx M'.1 (e_ws M')) := by
  refine lw_gd_good fun w hw => ?_
  unfold va_wsS at hw
  simp only [List.cons_append, List.nil_append, List.mem_cons] at hw
  rcases hw with rfl | rfl | rfl | rfl | hw
  · exact hlk
  · exact hok.2
  · exact hok.1.2.1
  · exact hok.1.1
  · exact hw
theorem e_room {R : Room} (hM : okM M') (hdd : d' + 1 ≤ d) (h1 : d ≤ R.frames) (h2 : 39 * d ≤ R.locals) : (e_rm d').frames + 1 ≤ R.frames ∧ 8 + (M'.2.2.1 + 11) + (e_rm d').locals ≤ R.locals := by
  have := hM.2.2.2.2
  refine ⟨?_, ?_⟩
  · show d' + 1 ≤ R.frames
    omega
  · show 8 + (M'.2.2.1 + 11) + 39 * d' ≤ R.locals
    omega
theorem eR_callVi {idx a ci : Nat} {ks : List Nat} {ty : FieldType} (As : List Value) (hst : st0 = As.reverse ++ .ref (gA g a) :: st) (hd : decode M.2.1 pc = .ok (.invokevirtual idx, 3)) (hok : okV M') (hlk : Cond.methodLink M.1.cls idx M'.1 ∈ lw_gd) (hr : M'.2.2.2.1 = some ty)
    (hn : As.length = M'.2.2.2.2) (ht : τ[a]? = some (0, ci, ks)) (hcl : (e_cl[ci]?).map (fun q => q.1) = some M'.1.cls) (hlen : (lg_sl (.ref (gA g a) :: As)).length ≤ M'.2.2.1) (hdd : d' + 1 ≤ d) (hcat : (st.map fun v => v.category).sum ≤ 8)
    (k9 : eX g d' M' 0 (lv_args 0 (.ref (gA g a) :: As)) [] τ h (fun v τ' h' => eX g d M (pc + 3) lv (v :: st) τ' h' Q)) : eX g d M pc lv st0 τ h Q := by
  intro p l e R s m args below meth c H locs cells slots Fin C hH hS ls hl
  subst hst
  have hMet := e_met_i l hok.1 hr hlen k9
  obtain ⟨q, hq, hq1⟩ := Option.map_eq_some_iff.mp hcl
  have hrc := va_recv C.2.1.1 hH.1 (ci := ci) (q0 := a) hq (eL_get ht)
  rw [hq1] at hrc
  exact va_calli (va_runV (As := As) (rest := st) C.1 hMet (cwV M'.2.2.2.2 C.1.2.2.2.2 (e_gV hok hlk) rfl rfl rfl ⟨rfl, hok.1.2.2.1⟩ (e_room hok.1 hdd C.2.2.1 C.2.2.2.1)) ⟨e_blind, hrc, e_start C.2.1 hH hS⟩ rfl hn hl.1 rfl (lv_room hcat) hd ⟨C.2.2.2.2.1, C.2.2.2.2.2.1⟩) hS (fun q _ hq => hq) (fun q hq => hq) (fun r u t H1 locs1 ht1 hvm hw hB hz hk hS1 => by
    have hB1 : eH g u.1 u.2 t.heap := hB
    rw [ht1] at hB1
    exact hw p l e R s m args below meth c H1 locs1 cells slots Fin C hB1 hS1 ls hl)
theorem eR_callVv {idx a ci : Nat} {ks : List Nat} (As : List Value) (hst : st0 = As.reverse ++ .ref (gA g a) :: st) (hd : decode M.2.1 pc = .ok (.invokevirtual idx, 3)) (hok : okV M') (hlk : Cond.methodLink M.1.cls idx M'.1 ∈ lw_gd) (hr : M'.2.2.2.1 = none)
    (hn : As.length = M'.2.2.2.2) (ht : τ[a]? = some (0, ci, ks)) (hcl : (e_cl[ci]?).map (fun q => q.1) = some M'.1.cls) (hlen : (lg_sl (.ref (gA g a) :: As)).length ≤ M'.2.2.1) (hdd : d' + 1 ≤ d) (hcat : (st.map fun v => v.category).sum ≤ 8)
    (k9 : eX g d' M' 0 (lv_args 0 (.ref (gA g a) :: As)) [] τ h (fun _ τ' h' => eX g d M (pc + 3) lv st τ' h' Q)) : eX g d M pc lv st0 τ h Q := by
  intro p l e R s m args below meth c H locs cells slots Fin C hH hS ls hl
  subst hst
  have hMet := e_met_v l hok.1 hr hlen k9
  obtain ⟨q, hq, hq1⟩ := Option.map_eq_some_iff.mp hcl
  have hrc := va_recv C.2.1.1 hH.1 (ci := ci) (q0 := a) hq (eL_get ht)
  rw [hq1] at hrc
  exact va_callv (va_runV (As := As) (rest := st) C.1 hMet (cwV M'.2.2.2.2 C.1.2.2.2.2 (e_gV hok hlk) rfl rfl rfl ⟨rfl, hok.1.2.2.1⟩ (e_room hok.1 hdd C.2.2.1 C.2.2.2.1)) ⟨e_blind, hrc, e_start C.2.1 hH hS⟩ rfl hn hl.1 rfl (lv_room hcat) hd ⟨C.2.2.2.2.1, C.2.2.2.2.2.1⟩) hS (fun q _ hq => hq) (fun q hq => hq) (fun u t H1 locs1 ht1 hvm hw hB hz hk hS1 => by
    have hB1 : eH g u.1 u.2 t.heap := hB
    rw [ht1] at hB1
    obtain ⟨v, hw⟩ := hw
    exact hw p l e R s m args below meth c H1 locs1 cells slots Fin C hB1 hS1 ls hl)
theorem eR_callSi {idx : Nat} {ty : FieldType} (As : List Value) (hst : st0 = As.reverse ++ st) (hd : decode M.2.1 pc = .ok (.invokestatic idx, 3)) (hok : okS M') (hlk : Cond.methodLink M.1.cls idx M'.1 ∈ lw_gd) (hr : M'.2.2.2.1 = some ty)
    (hn : As.length = M'.2.2.2.2) (hlen : (lg_sl As).length ≤ M'.2.2.1) (hdd : d' + 1 ≤ d) (hcat : (st.map fun v => v.category).sum ≤ 8)
    (k9 : eX g d' M' 0 (lv_args 0 As) [] τ h (fun v τ' h' => eX g d M (pc + 3) lv (v :: st) τ' h' Q)) : eX g d M pc lv st0 τ h Q := by
  intro p l e R s m args below meth c H locs cells slots Fin C hH hS ls hl
  subst hst
  have hMet := e_met_i l hok.1 hr hlen k9
  exact va_calli (va_runS (As := As) (rest := st) C.1 hMet (va_cwS M'.2.2.2.2 C.1.2.2.2.2 (e_gS hok hlk) rfl rfl rfl hok.1.2.2.1 (e_room hok.1 hdd C.2.2.1 C.2.2.2.1)) ⟨e_blind, e_start C.2.1 hH hS⟩ rfl hn hl.1 rfl (lv_room hcat) hd ⟨C.2.2.2.2.1, C.2.2.2.2.2.1⟩) hS (fun q _ hq => hq) (fun q hq => hq) (fun r u t H1 locs1 ht1 hvm hw hB hz hk hS1 => by
    have hB1 : eH g u.1 u.2 t.heap := hB
    rw [ht1] at hB1
    exact hw p l e R s m args below meth c H1 locs1 cells slots Fin C hB1 hS1 ls hl)
theorem eR_callSv {idx : Nat} (As : List Value) (hst : st0 = As.reverse ++ st) (hd : decode M.2.1 pc = .ok (.invokestatic idx, 3)) (hok : okS M') (hlk : Cond.methodLink M.1.cls idx M'.1 ∈ lw_gd) (hr : M'.2.2.2.1 = none)
    (hn : As.length = M'.2.2.2.2) (hlen : (lg_sl As).length ≤ M'.2.2.1) (hdd : d' + 1 ≤ d) (hcat : (st.map fun v => v.category).sum ≤ 8)
    (k9 : eX g d' M' 0 (lv_args 0 As) [] τ h (fun _ τ' h' => eX g d M (pc + 3) lv st τ' h' Q)) : eX g d M pc lv st0 τ h Q := by
  intro p l e R s m args below meth c H locs cells slots Fin C hH hS ls hl
  subst hst
  have hMet := e_met_v l hok.1 hr hlen k9
  exact va_callv (va_runS (As := As) (rest := st) C.1 hMet (va_cwS M'.2.2.2.2 C.1.2.2.2.2 (e_gS hok hlk) rfl rfl rfl hok.1.2.2.1 (e_room hok.1 hdd C.2.2.1 C.2.2.2.1)) ⟨e_blind, e_start C.2.1 hH hS⟩ rfl hn hl.1 rfl (lv_room hcat) hd ⟨C.2.2.2.2.1, C.2.2.2.2.2.1⟩) hS (fun q _ hq => hq) (fun q hq => hq) (fun u t H1 locs1 ht1 hvm hw hB hz hk hS1 => by
    have hB1 : eH g u.1 u.2 t.heap := hB
    rw [ht1] at hB1
    obtain ⟨v, hw⟩ := hw
    exact hw p l e R s m args below meth c H1 locs1 cells slots Fin C hB1 hS1 ls hl)
theorem eR_mmax {idx : Nat} {a b : Int} (hd : decode M.2.1 pc = .ok (.invokestatic idx, 3)) (hlk : Cond.methodLink M.1.cls idx Lib.Math.max.name ∈ lw_gd) (ha : rg a) (hb : rg b) (hd1 : 1 ≤ d) (hcat : (st.map fun v => v.category).sum ≤ 8) (k9 : eX g d M (pc + 3) lv (.int (zI (max a b)) :: st) τ h Q) : eX g d M pc lv (.int (zI b) :: .int (zI a) :: st) τ h Q := by
  intro p l e R s m args below meth c H locs cells slots Fin C hH hS ls hl
  have h39 := C.2.2.2.1
  have hfr := C.2.2.1
  refine va_mmax C.1.1 C.1.2.1 (C.1.2.2.1.trans hl.1.symm) C.1.2.2.2.1 (C.1.2.2.2.2 _ hlk) (C.1.2.2.2.2 _ kw_573) (C.1.2.2.2.2 _ kw_90) (C.1.2.2.2.2 _ kw_574) (by omega) (by omega) C.2.2.2.2.1 C.2.2.2.2.2.1 hd ?_
  have e1 : (if zI a < zI b then zI b else zI a) = zI (max a b) := by
    by_cases hab : a < b
    · rw [if_pos ((zI_lt ha hb).mpr hab), Int.max_eq_right (by omega)]
    · rw [if_neg (fun q => hab ((zI_lt ha hb).mp q)), Int.max_eq_left (by omega)]
  rw [e1]
  exact k9 p l e R s m args below meth c H locs cells slots Fin C hH hS ls hl
theorem eR_mmin {idx : Nat} {a b : Int} (hd : decode M.2.1 pc = .ok (.invokestatic idx, 3)) (hlk : Cond.methodLink M.1.cls idx Lib.Math.min.name ∈ lw_gd) (ha : rg a) (hb : rg b) (hd1 : 1 ≤ d) (hcat : (st.map fun v => v.category).sum ≤ 8) (k9 : eX g d M (pc + 3) lv (.int (zI (min a b)) :: st) τ h Q) : eX g d M pc lv (.int (zI b) :: .int (zI a) :: st) τ h Q := by
  intro p l e R s m args below meth c H locs cells slots Fin C hH hS ls hl
  have h39 := C.2.2.2.1
  have hfr := C.2.2.1
  refine va_mmin C.1.1 C.1.2.1 (C.1.2.2.1.trans hl.1.symm) C.1.2.2.2.1 (C.1.2.2.2.2 _ hlk) (C.1.2.2.2.2 _ kw_562) (C.1.2.2.2.2 _ kw_90) (C.1.2.2.2.2 _ kw_563) (by omega) (by omega) C.2.2.2.2.1 C.2.2.2.2.2.1 hd ?_
  have e1 : (if zI b < zI a then zI b else zI a) = zI (min a b) := by
    by_cases hab : b < a
    · rw [if_pos ((zI_lt hb ha).mpr hab), Int.min_eq_right (by omega)]
    · rw [if_neg (fun q => hab ((zI_lt hb ha).mp q)), Int.min_eq_left (by omega)]
  first
    | rw [e1]
    | (rw [show (if zI a < zI b then zI a else zI b) = zI (min a b) from by
        by_cases hab : a < b
        · rw [if_pos ((zI_lt ha hb).mpr hab), Int.min_eq_left (by omega)]
        · rw [if_neg (fun q => hab ((zI_lt ha hb).mp q)), Int.min_eq_right (by omega)]])
  exact k9 p l e R s m args below meth c H locs cells slots Fin C hH hS ls hl
end CALLS
