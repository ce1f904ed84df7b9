/-! multianewarray of two dimensions over int, from the instruction's own definition: a heap is told by what stands in it (mG), not by how it was made -/
def mO (cA : ClassId) (N h0 i : Nat) : Cell := arrV cA N (fun j => va_rf (if j < i then some (h0 + 1 + j) else none))
def mI (cI : ClassId) (K : Nat) : Cell := arrV cI K (fun _ => .int 0)
theorem mO_zero (cA : ClassId) (N h0 : Nat) : ({ cls := cA, slots := Array.replicate N .null, vm := .none } : Cell) = mO cA N h0 0 := by
  rw [arrV_new]
  refine congrArg (arrV cA N) (funext fun j => ?_)
  rw [if_neg (Nat.not_lt_zero j)]
  rfl
theorem mO_next (cA : ClassId) (N h0 i : Nat) : (mO cA N h0 i).setSlot i (.ref (h0 + 1 + i)) = mO cA N h0 (i + 1) := by
  unfold mO
  rw [arrV_store]
  refine congrArg (arrV cA N) (funext fun j => ?_)
  by_cases e9 : j = i
  · subst e9
    simp [updV, va_rf]
  · by_cases h9 : j < i
    · simp [updV, e9, h9, Nat.lt_succ_of_lt h9]
    · simp [updV, e9, h9, show ¬ j < i + 1 by omega]
theorem mO_size (cA : ClassId) (N h0 i : Nat) : (mO cA N h0 i).slots.size = N := by simp [mO, arrV]
theorem mI_size (cI : ClassId) (K : Nat) : (mI cI K).slots.size = K := by simp [mI, arrV]
theorem mI_new (cI : ClassId) (K : Nat) : ({ cls := cI, slots := Array.replicate K (defaultValue .int), vm := .none } : Cell) = mI cI K := by
  rw [arrV_new]
  rfl
/-- U is T with the outer array and i rows, the first i places of the outer array led to them -/
def mG (cA cI : ClassId) (N K i : Nat) (T U : State) : Prop :=
  U.heap.size = T.heap.size + 1 + i ∧ U.heap[T.heap.size]? = some (mO cA N T.heap.size i) ∧ (∀ j, j < i → U.heap[T.heap.size + 1 + j]? = some (mI cI K)) ∧
    (∀ x, x < T.heap.size → U.heap[x]? = T.heap[x]?) ∧ U.vm = T.vm ∧ U.slotsUsed = T.slotsUsed + N + i * K
/-- one row more -/
def mNx (cA cI : ClassId) (N K i : Nat) (T U : State) : State := (U.pushCell (mI cI K)).setCell T.heap.size (mO cA N T.heap.size (i + 1))
theorem mG_zero {cA cI : ClassId} {N K : Nat} {T : State} : mG cA cI N K 0 T (T.pushCell (mO cA N T.heap.size 0)) :=
  ⟨by simp, State.heap_pushCell_size _ _, fun j hj => absurd hj (Nat.not_lt_zero j), fun x hx => State.heap_pushCell_of_lt _ _ hx, rfl, by rw [State.slotsUsed_pushCell, mO_size]; omega⟩
theorem mG_out {cA cI : ClassId} {N K i : Nat} {T U : State} (hG : mG cA cI N K i T U) : (U.pushCell (mI cI K)).heap[T.heap.size]? = some (mO cA N T.heap.size i) := by
  have h9 : T.heap.size < U.heap.size := by have := hG.1; omega
  rw [State.heap_pushCell_of_lt (h := h9)]
  exact hG.2.1
theorem mG_next {cA cI : ClassId} {N K i : Nat} {T U : State} (hG : mG cA cI N K i T U) : mG cA cI N K (i + 1) T (mNx cA cI N K i T U) := by
  have hb := mG_out hG
  obtain ⟨z, -, r, o, v, u⟩ := hG
  refine ⟨?_, State.heap_setCell_self hb, fun j hj => ?_, fun x hx => ?_, v, ?_⟩
  · simp [mNx, State.setCell, z]; omega
  · unfold mNx
    have h8 : T.heap.size ≠ T.heap.size + 1 + j := by omega
    rw [State.heap_setCell_other h8]
    by_cases h9 : j < i
    · have h7 : T.heap.size + 1 + j < U.heap.size := by omega
      rw [State.heap_pushCell_of_lt (h := h7)]
      exact r j h9
    · rw [show T.heap.size + 1 + j = U.heap.size by omega]
      exact State.heap_pushCell_size _ _
  · unfold mNx
    have h8 : T.heap.size ≠ x := by omega
    have h7 : x < U.heap.size := by omega
    rw [State.heap_setCell_other h8, State.heap_pushCell_of_lt (h := h7)]
    exact o x hx
  · unfold mNx
    rw [State.slotsUsed_setCell, State.slotsUsed_pushCell, mI_size, u, Nat.succ_mul]
    omega
section
variable {p : Program} {l : Launch} {e : Env} {R : Room} {s : State} {m : MethodId} {args : Array Value} {below : List Frame} {meth : Method} {c : Code} {H : Heap} {T : State} {locs : List Loc} {cells slots : Nat} {Q : State → Prop}
theorem mG_stand {cA cI : ClassId} {N K i c2 s2 : Nat} {U : State} (hge : s.heap.size ≤ T.heap.size) (hG : mG cA cI N K i T U) (X : Stand p l e R s m args below meth c U locs c2 s2) : Stand p l e R s m args below meth c (mNx cA cI N K i T U) locs (c2 + 1) (s2 + K) := by
  have h := (X.pushed (mI cI K)).stored (mG_out hG) i (.ref (T.heap.size + 1 + i))
  rw [mO_next, mI_size] at h
  refine h.dropFresh (fun x hx => ?_)
  rw [List.mem_singleton] at hx
  subst hx
  exact hge
/-- the loop over the rows: it ends in one state, whoever asks -/
theorem m_loop {cA cI : ClassId} {N K : Nat} (hge : s.heap.size ≤ T.heap.size) : ∀ (n i c2 s2 : Nat) (U : State), i + n = N → mG cA cI N K i T U → Stand p l e R s m args below meth c U locs c2 s2 →
    ∃ F : State, mG cA cI N K N T F ∧ Stand p l e R s m args below meth c F locs (c2 + n) (s2 + n * K) ∧
      ∀ (E : CtlPost) (f : Nat → PUnit → Sem (ForInStep PUnit)) (f0 : JFrame),
        (∀ (i : Nat) (U : State) (d : Bool) (acts : List Action) (Q' : ForInStep PUnit → Pre), i < N → mG cA cI N K i T U → (∀ d' acts', Q' (ForInStep.yield PUnit.unit) d' acts' ((mNx cA cI N K i T U).setTop f0)) → wp (f i PUnit.unit) Q' E e d acts (U.setTop f0)) →
        ∀ (d : Bool) (acts : List Action) (Q' : PUnit → Pre), (∀ d' acts', Q' PUnit.unit d' acts' (F.setTop f0)) → wp (forIn (List.range' i n 1) PUnit.unit f) Q' E e d acts (U.setTop f0)
  | 0, i, c2, s2, U, h9, hG, X => by
    have e9 : i = N := h9
    subst e9
    refine ⟨U, hG, by rw [Nat.zero_mul]; exact X, fun E f f0 _ d acts Q' hq => ?_⟩
    rw [List.range'_zero, List.forIn_nil]
    exact hq _ _
  | n + 1, i, c2, s2, U, h9, hG, X => by
    obtain ⟨F, h1, h2, h3⟩ := m_loop hge n (i + 1) (c2 + 1) (s2 + K) (mNx cA cI N K i T U) (by omega) (mG_next hG) (mG_stand hge hG X)
    refine ⟨F, h1, ?_, fun E f f0 hf d acts Q' hq => ?_⟩
    · rw [show c2 + (n + 1) = c2 + 1 + n by omega, show s2 + (n + 1) * K = s2 + K + n * K by rw [Nat.succ_mul]; omega]
      exact h2
    · rw [List.range'_succ, List.forIn_cons]
      simp only [wp_bind']
      exact hf i U d acts _ (by omega) hG (fun d' acts' => h3 E f f0 hf d' acts' Q' hq)
/-- one row is made -/
theorem m_row {E : CtlPost} {d : Bool} {acts : List Action} {f0 : JFrame} {U : State} {cI cc : ClassId} {kI : Class} {k : Int32} (hkI : U.vm.classes[cI]? = some kI) (q2 : kI.kind = .array cc .int) (hk : ¬ k < 0)
    (hl : ¬ k.toNatClampNeg > e.platform.arrayLengthLimit) (hh : ¬ k.toNatClampNeg * 4 > e.platform.maxHeapBytes) (h1 : U.heap.size < e.platform.maxCells) (h2 : U.slotsUsed + k.toNatClampNeg ≤ e.platform.maxSlots)
    {Q' : Addr → Pre} (hq : ∀ acts', Q' U.heap.size d acts' ((U.pushCell (mI cI k.toNatClampNeg)).setTop f0)) : wp (Jvm.Op.multianewarray.make cI [k]) Q' E e d acts (U.setTop f0) := by
  rw [Jvm.Op.multianewarray.make]
  simp only [wp_bind', W.ite, hk, if_false, wp_pure', W.theClass, State.vm_setTop, hkI, q2, Option.some.injEq, exists_eq_left']
  refine W.newArray_of (s := U.setTop f0) hkI q2 hl hh h1 h2 rfl (fun acts' => ?_)
  have := hq acts'
  rw [← mI_new] at this
  exact this
/-- the instruction's two lengths: the outer array, then the rows -/
theorem m_make {E : CtlPost} {d : Bool} {acts : List Action} {f0 : JFrame} {F : State} {cA cI cc : ClassId} {kA kI : Class} {n k : Int32} (hkA : T.vm.classes[cA]? = some kA) (q1 : kA.kind = .array cI (.array .int)) (hkI : T.vm.classes[cI]? = some kI) (q2 : kI.kind = .array cc .int)
    (hn : ¬ n < 0) (hk : ¬ k < 0) (hl1 : ¬ n.toNatClampNeg > e.platform.arrayLengthLimit) (hh1 : ¬ n.toNatClampNeg * 4 > e.platform.maxHeapBytes) (hl2 : ¬ k.toNatClampNeg > e.platform.arrayLengthLimit) (hh2 : ¬ k.toNatClampNeg * 4 > e.platform.maxHeapBytes)
    (h1 : T.heap.size + (1 + n.toNatClampNeg) ≤ e.platform.maxCells) (h2 : T.slotsUsed + (n.toNatClampNeg + n.toNatClampNeg * k.toNatClampNeg) ≤ e.platform.maxSlots)
    (hl : ∀ (E : CtlPost) (f : Nat → PUnit → Sem (ForInStep PUnit)) (f0 : JFrame),
        (∀ (i : Nat) (U : State) (d : Bool) (acts : List Action) (Q' : ForInStep PUnit → Pre), i < n.toNatClampNeg → mG cA cI n.toNatClampNeg k.toNatClampNeg i T U → (∀ d' acts', Q' (ForInStep.yield PUnit.unit) d' acts' ((mNx cA cI n.toNatClampNeg k.toNatClampNeg i T U).setTop f0)) → wp (f i PUnit.unit) Q' E e d acts (U.setTop f0)) →
        ∀ (d : Bool) (acts : List Action) (Q' : PUnit → Pre), (∀ d' acts', Q' PUnit.unit d' acts' (F.setTop f0)) → wp (forIn (List.range' 0 n.toNatClampNeg 1) PUnit.unit f) Q' E e d acts ((T.pushCell (mO cA n.toNatClampNeg T.heap.size 0)).setTop f0))
    {Q' : Addr → Pre} (hq : ∀ d' acts', Q' T.heap.size d' acts' (F.setTop f0)) : wp (Jvm.Op.multianewarray.make cA [n, k]) Q' E e d acts (T.setTop f0) := by
  have hfind : ([k].find? (· < 0)) = none := by simp [hk]
  have hsz : ([:n.toNatClampNeg] : Std.Legacy.Range).size = n.toNatClampNeg := by simp [Std.Legacy.Range.size]
  have hz := Nat.zero_le (n.toNatClampNeg * k.toNatClampNeg)
  rw [Jvm.Op.multianewarray.make]
  simp only [wp_bind', W.ite, hn, if_false, wp_pure', W.theClass, State.vm_setTop, hkA, q1, Option.some.injEq, exists_eq_left']
  refine W.newArray_of (s := T.setTop f0) hkA q1 hl1 hh1 (by show T.heap.size < _; omega) (by show T.slotsUsed + _ ≤ _; omega) rfl (fun acts' => ?_)
  rw [mO_zero cA n.toNatClampNeg T.heap.size]
  simp only [hfind]
  rw [ite_self, wp_bind', Std.Legacy.Range.forIn_eq_forIn_range', hsz]
  show wp (forIn (List.range' 0 n.toNatClampNeg 1) PUnit.unit _) _ E e d acts' ((T.pushCell (mO cA n.toNatClampNeg T.heap.size 0)).setTop f0)
  refine hl E _ f0 (fun i U d acts Q9 hi hG hq9 => ?_) d acts' _ (fun d' acts' => ?_)
  · have hG1 := hG
    obtain ⟨z, -, -, -, v, u⟩ := hG1
    have hmul : i * k.toNatClampNeg + k.toNatClampNeg ≤ n.toNatClampNeg * k.toNatClampNeg := by
      have := Nat.mul_le_mul_right k.toNatClampNeg (show i + 1 ≤ n.toNatClampNeg from hi)
      rw [Nat.succ_mul] at this
      exact this
    simp only [wp_bind']
    refine m_row (by rw [v]; exact hkI) q2 hk hl2 hh2 (by omega) (by omega) (fun acts' => ?_)
    simp only [wp_bind', W.writeLoc, wp_pure']
    refine ⟨mO cA n.toNatClampNeg T.heap.size i, mG_out hG, by simp [mO, arrV], by rw [mO_size]; exact hi, ?_, ?_⟩
    · have hfit : State.fitsSlot U cA .none i (.ref U.heap.size) = true := by
        simp [State.fitsSlot, State.slotType?, v, hkA, q1, fits]
      exact hfit
    · have hx := hq9 true (writeActs ⟨T.heap.size, i⟩ .plain (.ref U.heap.size) acts')
      rw [mNx, ← mO_next, ← z] at hx
      exact hx
  · simp only [wp_pure']
    exact hq _ _
theorem m_mna {cc : ByteArray} (hexec : p.tables.exec = Jvm.exec) (hb : c.code = cc) {own : String} {index : Nat} (hown : s.vm.findClass own = some m.cls) (hclink : (Cond.classLink own index ("[" ++ (FieldType.array .int).toString)).before args s = true) (hover : (Cond.arrayOver (.array .int)).before args s = true) (harr : (Cond.arrayClass .int).before args s = true)
    {g : JFrame} (hg : g.method = m) (hdg : decode cc g.pc = .ok (.multianewarray index 2, 4)) {n k : Int32} {rest : List Value} (hstack : g.stack = .int k :: .int n :: rest) (hn : ¬ n < 0) (hk : ¬ k < 0) {N K : Nat} (hN : n.toNatClampNeg = N) (hK : k.toNatClampNeg = K) (hb1 : N * 4 ≤ 536870912) (hb2 : K * 4 ≤ 536870912) (hcells : cells + (1 + N) ≤ R.cells) (hslots : slots + (N + N * K) ≤ R.slots)
    (kk : ∀ (H' : Heap) (cA cI : ClassId), s.vm.findClass ("[" ++ (FieldType.array .int).toString) = some cA → s.vm.findClass (FieldType.array .int).toString = some cI → H'.size = H.size + 1 + N → H'[H.size]? = some (mO cA N H.size N) → (∀ j, j < N → H'[H.size + 1 + j]? = some (mI cI K)) → (∀ x : Nat, x < H.size → H'[x]? = H[x]?) →
      W p l e R s m args below meth c H' locs (cells + 1 + N) (slots + N + N * K) Q { g with pc := g.pc + 4, stack := .ref H.size :: rest }) : W p l e R s m args below meth c H locs cells slots Q g := by
  intro T hT X
  subst hT; subst hb; subst hg; subst hN; subst hK
  have hpl : e.platform.magicAccessors = ({} : Platform).magicAccessors := by rw [X.admits.platform]
  obtain ⟨cI, cA, kA, hcomp, -, hkA, hkindA, hnameA⟩ := arrayOverA_spec hover
  obtain ⟨cI2, kI, cc, hcomp2, hkI, hkindI⟩ := Cond.arrayClass_spec harr
  cases hcomp.symm.trans hcomp2
  obtain ⟨c0, hfc0, hcl⟩ := Cond.classLink_spec hown hclink e.platform hpl
  cases hnameA.symm.trans hfc0
  obtain ⟨hg₁, hwarm₁, hready₁⟩ := State.classEntry (e := e) X.warmed hcl
  generalize T.vm.noted g.method.cls index (.cls cA) = vm₁ at hg₁ hwarm₁ hready₁
  have hal : s.vm.Alike vm₁ := hwarm₁.alike
  obtain ⟨kA₁, hkA₁, heA⟩ := hal.2.2 _ _ hkA
  obtain ⟨kI₁, hkI₁, heI⟩ := hal.2.2 _ _ hkI
  have q1 : kA₁.kind = .array cI (.array .int) := by rw [heA]; exact hkindA
  have q2 : kI₁.kind = .array cc .int := by rw [heI]; exact hkindI
  obtain ⟨hr1, hr2⟩ := X.roomAbove hcells hslots
  have X2 := (X.noted hwarm₁).pushed (mO cA n.toNatClampNeg T.heap.size 0)
  rw [mO_size] at X2
  obtain ⟨F, hF, XF, hl⟩ := m_loop (T := T.setVm vm₁) (cA := cA) (cI := cI) (N := n.toNatClampNeg) (K := k.toNatClampNeg) X.heapGrown n.toNatClampNeg 0 _ _ _ (Nat.zero_add _) mG_zero X2
  obtain ⟨f1, f2, f3, f4, -, -⟩ := hF
  obtain ⟨t', a1, b1⟩ := kk F.heap cA cI hnameA hcomp f1 f2 f3 f4 F rfl XF
  refine ⟨t', ?_, b1⟩
  have hl1 : ¬ n.toNatClampNeg > e.platform.arrayLengthLimit := by rw [Launch.admits_arrayLengthLimit X.admits]; omega
  have hh1 : ¬ n.toNatClampNeg * 4 > e.platform.maxHeapBytes := by rw [Launch.admits_maxHeapBytes X.admits]; omega
  have hl2 : ¬ k.toNatClampNeg > e.platform.arrayLengthLimit := by rw [Launch.admits_arrayLengthLimit X.admits]; omega
  have hh2 : ¬ k.toNatClampNeg * 4 > e.platform.maxHeapBytes := by rw [Launch.admits_maxHeapBytes X.admits]; omega
  jvm_step X.here [hexec, hdg]
  simp only [Jvm.Op.multianewarray.sem, wp_bind', W.resolveClassAt_links (State.method?_setTop g X.here.top) hg₁]
  refine (popN_top (s := T.setVm vm₁) (f := g) (args := [.int n, .int k]) (rest := rest) X.here.top hstack).mpr ?_
  simp only [List.mapM_cons, List.mapM_nil, wp_bind', wp_pure']
  refine m_make (T := T.setVm vm₁) (F := F) hkA₁ q1 hkI₁ q2 hn hk hl1 hh1 hl2 hh2 hr1 hr2 hl (fun d' acts' => ?_)
  simp only [wp_bind', W.mark, W.pushRef, State.topJava?_setTop' _ XF.here.top, Option.some.injEq, exists_eq_left', State.setTop_setTop]
  intro acts
  simp [jvm, XF.here.top]
  exact a1
end
