def zI (z : Int) : Int32 := Int32.ofInt z
def zL (z : Int) : Int64 := Int64.ofInt z
abbrev Kd : Type := Nat × Nat × List Nat
abbrev PH : Type := Nat → Nat → Int
abbrev EG : Type := va_G × (Nat → ClassId) × (Nat → Nat) × (Nat → Nat) × (Nat → Nat) × (Nat → Prop) × Bool × Nat × Nat × (Nat → Int32)
abbrev gC (g : EG) : Nat → ClassId := g.2.1
abbrev gK (g : EG) : Nat → Nat := g.2.2.1
abbrev gV (g : EG) : Nat → Nat := g.2.2.2.1
/-- the addresses of the cells, by their numbers -/
abbrev gA (g : EG) : Nat → Nat := g.2.2.2.2.1
/-- what may be written -/
abbrev eA (g : EG) : Nat → Prop := g.2.2.2.2.2.1
abbrev gF (g : EG) : Bool := g.2.2.2.2.2.2.1
abbrev gS (g : EG) : Nat := g.2.2.2.2.2.2.2.1
abbrev gL (g : EG) : Nat := g.2.2.2.2.2.2.2.2.1
abbrev gX (g : EG) : Nat → Int32 := g.2.2.2.2.2.2.2.2.2
def vK (ad : Nat → Nat) (k : Nat) (z : Int) : Value := match k with
  | 0 => .int (zI z)
  | 1 => .int (zI z)
  | 2 => .long (zL z)
  | 3 => .null
  | k + 4 => .ref (ad k)
def rK (ad : Nat → Nat) (k : Nat) : Option Nat := match k with
  | 0 => none
  | 1 => none
  | 2 => none
  | 3 => none
  | k + 4 => some (ad k)
def eC (cA : Nat → ClassId) (ad : Nat → Nat) (kd : Kd) (f : Nat → Int) : va_E := match kd.1 with
  | 0 => .inr (kd.2.1, kd.2.2.mapIdx (fun i k => vK ad k (f i)))
  | 1 => .inl (cA 0, kd.2.1, .inl (fun j => zI (f j)))
  | 2 => .inl (cA 1, kd.2.1, .inl (fun j => zI (f j)))
  | 3 => .inl (cA 2, kd.2.1, .inr (.inr (.inr (.inr (fun j => rK ad (kd.2.2.getD j 3))))))
  | _ => .inl (cA 3, kd.2.1, .inr (.inr (.inr (.inr (fun j => rK ad (kd.2.2.getD j 3))))))
def eL (g : EG) (τ : List Kd) (h : PH) : va_W := τ.mapIdx (fun k kd => (gA g k, eC (gC g) (gA g) kd (h k)))
def hU (h : PH) (a i : Nat) (z : Int) : PH := fun a' => if a' = a then (fun i' => if i' = i then z else h a i') else h a'
theorem hU_s (h : PH) (a i : Nat) (z : Int) : hU h a i z a i = z := by simp [hU]
theorem hU_a (h : PH) {a a' : Nat} (i : Nat) (z : Int) (n : a' ≠ a) : hU h a i z a' = h a' := by simp [hU, n]
theorem hU_i (h : PH) (a : Nat) {i i' : Nat} (z : Int) (n : i' ≠ i) : hU h a i z a i' = h a i' := by simp [hU, n]
theorem hU_g (h : PH) (a i a' i' : Nat) (z : Int) : hU h a i z a' i' = if a' = a ∧ i' = i then z else h a' i' := by
  unfold hU
  by_cases h1 : a' = a
  · subst h1
    by_cases h2 : i' = i <;> simp [h2]
  · simp [h1]
def eDD (g : EG) (n : Nat) : Prop := (∀ i j : Nat, i < n → j < n → gA g i = gA g j → i = j) ∧ ∀ k : Nat, k < n → eA g (gA g k)
def eH (g : EG) (τ : List Kd) (h : PH) (H : Heap) : Prop := va_P g.1 e_cl (eL g τ h) H ∧ eDD g τ.length
theorem eL_get {g : EG} {τ : List Kd} {h : PH} {k : Nat} {kd : Kd} (hk : τ[k]? = some kd) : (eL g τ h)[k]? = some (gA g k, eC (gC g) (gA g) kd (h k)) := by
  simp [eL, List.getElem?_mapIdx, hk]
theorem eL_inv {g : EG} {τ : List Kd} {h : PH} {k : Nat} {q : Nat × va_E} (hk : (eL g τ h)[k]? = some q) : ∃ kd, τ[k]? = some kd ∧ q = (gA g k, eC (gC g) (gA g) kd (h k)) := by
  simp only [eL, List.getElem?_mapIdx, Option.map_eq_some_iff] at hk
  obtain ⟨kd, h1, h2⟩ := hk
  exact ⟨kd, h1, h2.symm⟩
theorem eD {g : EG} {τ : List Kd} {h : PH} (hd : eDD g τ.length) : va_D (eA g) (eL g τ h) := by
  refine ⟨fun i j p q hp hq he => ?_, fun k q hq => ?_⟩
  · obtain ⟨kd, h1, rfl⟩ := eL_inv hp
    obtain ⟨kd2, h2, rfl⟩ := eL_inv hq
    exact hd.1 i j (List.getElem?_eq_some_iff.mp h1).1 (List.getElem?_eq_some_iff.mp h2).1 he
  · obtain ⟨kd, h1, rfl⟩ := eL_inv hq
    exact hd.2 k (List.getElem?_eq_some_iff.mp h1).1
theorem eL_set {g : EG} {τ : List Kd} {h : PH} {k : Nat} {kd : Kd} {f' : Nat → Int} (hk : k < τ.length) : (eL g τ h).set k (gA g k, eC (gC g) (gA g) kd f') = eL g (τ.set k kd) (fun a => if a = k then f' else h a) := by
  apply List.ext_getElem?
  intro i
  rw [List.getElem?_set]
  by_cases hi : k = i
  · subst hi
    have h1 : k < (eL g τ h).length := by simpa [eL] using hk
    rw [if_pos rfl, if_pos h1]
    rw [eL_get (kd := kd) (by rw [List.getElem?_set, if_pos rfl, if_pos hk])]
    simp
  · rw [if_neg hi]
    have h2 : (τ.set k kd)[i]? = τ[i]? := by rw [List.getElem?_set, if_neg hi]
    have h3 : ¬ i = k := fun e => hi e.symm
    simp only [eL, List.getElem?_mapIdx, h2, h3, if_false]
theorem eL_set0 {g : EG} {τ : List Kd} {h : PH} {k : Nat} {kd : Kd} {f' : Nat → Int} (hk : τ[k]? = some kd) : (eL g τ h).set k (gA g k, eC (gC g) (gA g) kd f') = eL g τ (fun a => if a = k then f' else h a) := by
  have hl : k < τ.length := (List.getElem?_eq_some_iff.mp hk).1
  rw [eL_set hl]
  congr 1
  apply List.ext_getElem?
  intro i
  rw [List.getElem?_set]
  by_cases hi : k = i
  · subst hi
    rw [if_pos rfl, if_pos hl, hk]
  · rw [if_neg hi]
/-! what the machine gives and keeps -/
abbrev e_tys (g : EG) : List (ClassId × FieldType) := [(g.2.1 0, .int), (g.2.1 1, .boolean), (g.2.1 2, .array .int), (g.2.1 3, .object RX0)]
def e_sx (i : Nat) : Nat := [129, 134, 136, 138, 140].getD i 0
def e_tx (i : Nat) : String := ["people", "coat", "goes", "likes", "frost"].getD i ""
def e_len : List Nat := [6, 4, 4, 5, 5]
def e_byt : List (List Int32) := [[112, 101, 111, 112, 108, 101], [99, 111, 97, 116], [103, 111, 101, 115], [108, 105, 107, 101, 115], [102, 114, 111, 115, 116]]
def e_Fl (g : EG) (U : State) (H : Heap) : Prop :=
  (∀ i, i < 5 → vk_R RX4 (e_sx i) (e_tx i) (gK g i) U) ∧ vk_S 5 e_len e_byt (gK g) (gV g) (eA g) U H ∧
  va_Z "java/lang/String" "COMPACT_STRINGS" "Z" (.int 1) (eA g) U H ∧ va_Zq "jdk/internal/util/Preconditions" "SIOOBE_FORMATTER" "Ljava/util/function/BiFunction;" (eA g) U H ∧ va_X (gS g) (gL g) (gX g) U H ∧ ¬ eA g (gS g) ∧ gS g < H.size
def e_Ok (g : EG) (U : State) (H : Heap) : Prop := va_K g.1 e_cl (e_tys g) U ∧ (gF g = true → e_Fl g U H)
theorem va_Zq_moved {C n d : String} {A : Nat → Prop} {u U : State} {H : Heap} (hvm : u.vm.Alike U.vm) (h : va_Zq C n d A u H) : va_Zq C n d A U H := by
  rcases h with h | ⟨t, h⟩
  · exact Or.inl (h.moved hvm)
  · exact Or.inr ⟨t, h.moved hvm⟩
theorem e_Ok_kept {g : EG} {s : State} {H H1 : Heap} (h : e_Ok g s H) (hz : H.size ≤ H1.size) (hq : ∀ a : Nat, a < H.size → ¬ eA g a → H1[a]? = H[a]?) : e_Ok g s H1 := by
  refine ⟨h.1, fun hf => ?_⟩
  obtain ⟨h4, h5, h6, h7, h8, h9, h10⟩ := h.2 hf
  exact ⟨h4, h5.kept hq, h6.kept hq, h7.kept hq, h8.kept (hq _ h10 h9), h9, by omega⟩
theorem e_Ok_warm {g : EG} {s U : State} {H : Heap} (hW : s.WarmedH U.vm) (h : e_Ok g s H) : e_Ok g U H := by
  refine ⟨h.1.moved hW.alike, fun hf => ?_⟩
  obtain ⟨h4, h5, h6, h7, h8, h9, h10⟩ := h.2 hf
  exact ⟨fun i hi => (h4 i hi).warm hW, h5.moved hW.alike, h6.moved hW.alike, va_Zq_moved hW.alike h7, h8.moved hW.alike, h9, h10⟩
theorem e_Ok_same {g : EG} {u U : State} {H : Heap} (hv : U.vm = u.vm) (h : e_Ok g u H) : e_Ok g U H := by
  have ha : u.vm.Alike U.vm := by rw [hv]; exact Vm.Alike.refl _
  refine ⟨h.1.moved ha, fun hf => ?_⟩
  obtain ⟨h4, h5, h6, h7, h8, h9, h10⟩ := h.2 hf
  exact ⟨fun i hi => (h4 i hi).same hv, h5.moved ha, h6.moved ha, va_Zq_moved ha h7, h8.moved ha, h9, h10⟩
def e_Rt (rt : Option FieldType) (ins : Instr) (v : Value) (st : List Value) : Prop := (rt = none ∧ ins = .return_ ∧ st = []) ∨ ∃ ty x, rt = some ty ∧ ins = .ireturn ∧ v = .int x ∧ st = [.int x] ∧ narrow ty (.int x) = .int x
abbrev EQ : Type := Value → List Kd → PH → Prop
def eCx (g : EG) (d : Nat) (M : MM) (Q : EQ) (p : Program) (l : Launch) (e : Env) (R : Room) (s : State) (m : MethodId) (args : Array Value) (below : List Frame) (meth : Method) (c : Code) (cells slots : Nat) (Fin : State → Prop) : Prop :=
  (p.tables.exec = Jvm.exec ∧ c.code = M.2.1 ∧ c.maxLocals = M.2.2.1 ∧ s.vm.findClass M.1.cls = some m.cls ∧ ∀ w ∈ lw_gd, w.before args s = true) ∧ e_Ok g s s.heap ∧ d ≤ R.frames ∧ 39 * d ≤ R.locals ∧
  cells ≤ R.cells ∧ slots ≤ R.slots ∧
    ∀ (v : Value) (τ' : List Kd) (h' : PH) (H' : Heap) (locs' : List Loc) (pc' : Nat) (ls' : Array Slot) (st' : List Value) (ins : Instr), Q v τ' h' → eH g τ' h' H' → va_S (eA g) s.heap H' locs' → decode M.2.1 pc' = .ok (ins, 1) → e_Rt M.2.2.2.1 ins v st' → W p l e R s m args below meth c H' locs' cells slots Fin (F0 m pc' ls' st')
/-- from here the method M comes to its end with Q, whoever called it -/
def eX (g : EG) (d : Nat) (M : MM) (pc : Nat) (lv : List (Nat × Value)) (st : List Value) (τ : List Kd) (h : PH) (Q : EQ) : Prop :=
  ∀ (p : Program) (l : Launch) (e : Env) (R : Room) (s : State) (m : MethodId) (args : Array Value) (below : List Frame) (meth : Method) (c : Code) (H : Heap) (locs : List Loc) (cells slots : Nat) (Fin : State → Prop),
    eCx g d M Q p l e R s m args below meth c cells slots Fin → eH g τ h H → va_S (eA g) s.heap H locs → ∀ ls : Array Slot, lv_has ls M.2.2.1 lv → W p l e R s m args below meth c H locs cells slots Fin (F0 m pc ls st)
theorem eX_mono {g : EG} {d : Nat} {M : MM} {pc : Nat} {lv : List (Nat × Value)} {st : List Value} {τ : List Kd} {h : PH} {Q Q' : EQ} (hE : eX g d M pc lv st τ h Q) (hQ : ∀ v τ' h', Q v τ' h' → Q' v τ' h') : eX g d M pc lv st τ h Q' := by
  intro p l e R s m args below meth c H locs cells slots Fin C
  refine hE p l e R s m args below meth c H locs cells slots Fin ?_
  obtain ⟨h1, h2, h3, h4, h5, h6, h9⟩ := C
  exact ⟨h1, h2, h3, h4, h5, h6, fun v τ' h' H' locs' pc' ls' st' ins hq => h9 v τ' h' H' locs' pc' ls' st' ins (hQ v τ' h' hq)⟩
theorem eX_d {g : EG} {d d2 : Nat} {M : MM} {pc : Nat} {lv : List (Nat × Value)} {st : List Value} {τ : List Kd} {h : PH} {Q : EQ} (hd : d ≤ d2) (hE : eX g d M pc lv st τ h Q) : eX g d2 M pc lv st τ h Q := by
  intro p l e R s m args below meth c H locs cells slots Fin C
  refine hE p l e R s m args below meth c H locs cells slots Fin ?_
  obtain ⟨h1, h2, h3, h4, h5⟩ := C
  exact ⟨h1, h2, by omega, by omega, h5⟩
/-! a method's contract out of its walk -/
abbrev e_ws (M : MM) : List Cond := Cond.code M.1 M.2.1 M.2.2.1 M.2.2.2.1 :: lw_gd
abbrev e_rm (d : Nat) : Room := { frames := d, cells := 0, slots := 0, locals := 39 * d }
abbrev e_Pc (g : EG) (As : List Value) (τ : List Kd) (h : PH) : Array Value → State → Prop := va_Pc As (fun U => e_Ok g U U.heap ∧ eH g τ h U.heap)
abbrev e_Qi (g : EG) (Q : EQ) : Array Value → State → Outcome → State → Prop := va_Qi (S := List Kd × PH) (fun r u => Q (.int r) u.1 u.2) (fun u t => eH g u.1 u.2 t.heap) (eA g)
abbrev e_Qv (g : EG) (Q : EQ) : Array Value → State → Outcome → State → Prop := va_Qv (S := List Kd × PH) (fun u => ∃ v, Q v u.1 u.2) (fun u t => eH g u.1 u.2 t.heap) (eA g)
theorem e_good {M : MM} (hM : okM M) : GoodIn lw_gd (e_ws M) := lw_gd_good (List.forall_mem_cons.mpr ⟨hM.1, fun _ h => h⟩)
theorem e_met_i (l : Launch) {g : EG} {d : Nat} {M : MM} {As : List Value} {τ : List Kd} {h : PH} {Q : EQ} {ty : FieldType} (hM : okM M) (hr : M.2.2.2.1 = some ty) (hlen : (lg_sl As).length ≤ M.2.2.1) (hE : eX g d M 0 (lv_args 0 As) [] τ h Q) :
    Met l M.1 (e_ws M) (e_rm d) (e_Pc g As τ h) (e_Qi g Q) 0 0 (eA g) := by
  refine Met.ofW (cc := M.2.1) (maxL := M.2.2.1) (ret := M.2.2.2.1) hM.2.2.2.1 rfl ?_
  intro p e s m args below meth c s₁ B hml hv
  obtain ⟨rfl, hok, hH⟩ := hv
  have hts := atoms_spec (ws := e_ws M) B.pre
  have hown : s.vm.findClass M.1.cls = some m.cls := findClass_of_methodNamed B.named
  have hl := lv_entry As (n := M.2.2.1) hlen
  rw [lg_entry_eq]
  refine hE p l e _ s m _ below meth c s.heap [] 0 0 _ ⟨⟨B.exec, B.bytes, hml, hown, fun w hw => hts w (List.mem_cons_of_mem _ hw)⟩, hok, Nat.le_refl _, Nat.le_refl _, Nat.le_refl _, Nat.le_refl _, ?_⟩ hH va_S.rf _ hl
  intro v τ' h' H' locs' pc' ls' st' ins hq hH' hS' hdg hrt
  rcases hrt with ⟨q1, -, -⟩ | ⟨ty2, x, q1, rfl, rfl, rfl, q2⟩
  · rw [hr] at q1; cases q1
  · exact W.zret (ty := ty2) B.exec B.bytes (B.returns.trans q1) q2 (fun t ht _ => ⟨⟨x, (τ', h'), rfl, hq, by show eH g τ' h' t.heap; rw [ht]; exact hH'⟩, hS'.F ht⟩) hS'.2.2 hdg B.notSynchronized
theorem e_met_v (l : Launch) {g : EG} {d : Nat} {M : MM} {As : List Value} {τ : List Kd} {h : PH} {Q : EQ} (hM : okM M) (hr : M.2.2.2.1 = none) (hlen : (lg_sl As).length ≤ M.2.2.1) (hE : eX g d M 0 (lv_args 0 As) [] τ h Q) :
    Met l M.1 (e_ws M) (e_rm d) (e_Pc g As τ h) (e_Qv g Q) 0 0 (eA g) := by
  refine Met.ofW (cc := M.2.1) (maxL := M.2.2.1) (ret := M.2.2.2.1) hM.2.2.2.1 rfl ?_
  intro p e s m args below meth c s₁ B hml hv
  obtain ⟨rfl, hok, hH⟩ := hv
  have hts := atoms_spec (ws := e_ws M) B.pre
  have hown : s.vm.findClass M.1.cls = some m.cls := findClass_of_methodNamed B.named
  have hl := lv_entry As (n := M.2.2.1) hlen
  rw [lg_entry_eq]
  refine hE p l e _ s m _ below meth c s.heap [] 0 0 _ ⟨⟨B.exec, B.bytes, hml, hown, fun w hw => hts w (List.mem_cons_of_mem _ hw)⟩, hok, Nat.le_refl _, Nat.le_refl _, Nat.le_refl _, Nat.le_refl _, ?_⟩ hH va_S.rf _ hl
  intro v τ' h' H' locs' pc' ls' st' ins hq hH' hS' hdg hrt
  rcases hrt with ⟨q1, rfl, rfl⟩ | ⟨ty2, x, q1, rfl, rfl, rfl, q2⟩
  · exact W.vret B.exec B.bytes (B.returns.trans q1) (fun t ht _ => ⟨⟨(τ', h'), rfl, ⟨v, hq⟩, by show eH g τ' h' t.heap; rw [ht]; exact hH'⟩, hS'.F ht⟩) hS'.2.2 hdg B.notSynchronized
  · rw [hr] at q1; cases q1
