/-! THE CLAIM OUT OF ONE WALK OF THE LAW'S BODY. Your part is whole_start (and what it stands on); all else here is the same for every law, but numbers. -/
def R_law : String := "PipPortraitLaw"
def lw_P (b : Addr) (xs : List Int32) (args : Array Value) (s : State) : Prop := args = #[.ref b] ∧ s.IntsAt b xs ∧ xs.length ≤ 260 ∧ (Jvm.Cond.and given_1 narrow_1).before args s = true
def lw_Q (_ : Array Value) (s : State) (o : Outcome) (t : State) : Prop := o = .returned (some (.int 1)) ∧ Framed s o t [] 1142817 5673017
def lw_Z (below : List Frame) (a : Array Value) (s : State) : State → Prop := fun t => ∃ o, t.status = .running ∧ Ended t below o ∧ lw_Q a s o t
/-- the law's own end, with 1 on the stack, nothing written that was there before, its room as the claim has it -/
theorem lw_ret {p : Program} {l : Launch} {e : Env} {s : State} {m : MethodId} {below : List Frame} {meth : Method} {c : Code} {b : Nat} (hx : p.tables.exec = Jvm.exec) (hb : c.code = code) (hr : meth.sig.returnType = ret) (hlocks : meth.locks = false) {pc : Nat} {H : Heap} {ls : Array Slot} (hdg : decode code pc = .ok (.ireturn, 1)) : W p l e room_1 s m #[Value.ref b] below meth c H [] 1142817 5673017 (lw_Z below #[Value.ref b] s) (F0 m pc ls [.int 1]) := by
  intro T hT X
  obtain ⟨fs, hret, hrun, hended, hW, hframe⟩ := X.leave (v := some (.int 1)) (hlocks := hlocks) (fun h => by rw [hr] at h; cases h)
  have hmeth' : T.vm.method? m = some meth := X.method'
  refine ⟨T.setFrames fs, ?_, .returned (some (.int 1)), hrun, hended, rfl, ⟨_, rfl⟩, hW, hframe⟩
  jvm_step X.here [X.here.top, hx, hb, hdg, hmeth', hr, ret, narrow_b1]
  (try refine ⟨rfl, ?_⟩); (try refine ⟨rfl, ?_⟩)
  first | (intro acts; rw [hret _ acts rfl rfl rfl]) | rw [hret _ _ rfl rfl rfl]
  exact Steps.refl _
/-- what holds at the law's entry: the machine, the code, the tables' words (any of lw_tbl by 'hts w (by decide +kernel)'), the script of L ints xs at the cell b, what the Statement gives of the start (any of its parts by flat_of_before) -/
def lw_At (p : Program) (s : State) (m : MethodId) (meth : Method) (c : Code) (b L : Nat) (xs : Nat → Int32) : Prop :=
  p.tables.exec = Jvm.exec ∧ c.code = code ∧ meth.sig.returnType = ret ∧ c.maxLocals = 8 ∧ s.vm.findClass R_law = some m.cls ∧ (∀ w ∈ lw_tbl, w.before #[Value.ref b] s = true) ∧ va_X b L xs s s.heap ∧ b < s.heap.size ∧ meth.locks = false ∧ (Jvm.Cond.and given_1 narrow_1).before #[Value.ref b] s = true


abbrev PCell : Type := (Nat × vp_A) ⊕ (Nat × List Value)
abbrev Mem : Type := Nat → Option PCell
abbrev cI (n : Nat) (f : Nat → Int32) : PCell := .inl (0, n, .inl f)
abbrev cZ (n : Nat) (f : Nat → Int32) : PCell := .inl (1, n, .inl f)
abbrev cC (n : Nat) (f : Nat → Int32) : PCell := .inl (2, n, .inl f)
abbrev cJ (n : Nat) (f : Nat → Int64) : PCell := .inl (3, n, .inr (.inl f))
abbrev cS (n : Nat) (f : Nat → Option Nat) : PCell := .inl (4, n, .inr (.inr (.inr (.inr f))))
abbrev cO (k : Nat) (vs : List Value) : PCell := .inr (k, vs)
def mset (M : Mem) (i : Nat) (c : PCell) : Mem := fun j => if j = i then some c else M j
def cvV (ad : Nat → Nat) (v : Value) : Value := match v with
  | .ref a => .ref (ad a)
  | .int x => .int x
  | .long x => .long x
  | .float x => .float x
  | .double x => .double x
  | .null => .null
  | .retAddr x => .retAddr x
def pcC (ad : Nat → Nat) (ca : Nat → ClassId) (c : PCell) : va_E := match c with
  | .inl (t, n, .inl f) => .inl (ca t, n, .inl f)
  | .inl (t, n, .inr (.inl f)) => .inl (ca t, n, .inr (.inl f))
  | .inl (t, n, .inr (.inr (.inl f))) => .inl (ca t, n, .inr (.inr (.inl f)))
  | .inl (t, n, .inr (.inr (.inr (.inl f)))) => .inl (ca t, n, .inr (.inr (.inr (.inl f))))
  | .inl (t, n, .inr (.inr (.inr (.inr f)))) => .inl (ca t, n, .inr (.inr (.inr (.inr (fun j => (f j).map ad)))))
  | .inr (k, vs) => .inr (k, vs.map (cvV ad))
def wl (nx : Nat) (ad : Nat → Nat) (ca : Nat → ClassId) (M : Mem) : va_W := (List.range nx).map fun i => (ad i, pcC ad ca ((M i).getD (.inr (99, []))))
theorem wl_at {nx : Nat} {ad : Nat → Nat} {ca : Nat → ClassId} {M : Mem} {i : Nat} {c : PCell} (hi : i < nx) (h : M i = some c) : (wl nx ad ca M)[i]? = some (ad i, pcC ad ca c) := by
  simp [wl, List.getElem?_map, List.getElem?_range hi, h]
theorem wl_get {nx : Nat} {ad : Nat → Nat} {ca : Nat → ClassId} {M : Mem} {i : Nat} {q : Nat × va_E} (h : (wl nx ad ca M)[i]? = some q) : i < nx ∧ q.1 = ad i := by
  by_cases hi : i < nx
  · simp [wl, List.getElem?_map, List.getElem?_range hi] at h
    exact ⟨hi, by rw [← h]⟩
  · simp [wl, List.getElem?_map, List.getElem?_eq_none (show (List.range nx).length ≤ i by simp; omega)] at h
theorem wl_set {nx : Nat} {ad : Nat → Nat} {ca : Nat → ClassId} {M : Mem} {i : Nat} {c : PCell} : wl nx ad ca (mset M i c) = (wl nx ad ca M).set i (ad i, pcC ad ca c) := by
  apply List.ext_getElem?
  intro j
  by_cases hj : j < nx
  · by_cases hij : i = j
    · subst hij
      rw [List.getElem?_set_self (by simp [wl]; exact hj)]
      simp [wl, List.getElem?_map, List.getElem?_range hj, mset]
    · rw [List.getElem?_set_ne hij]
      simp [wl, List.getElem?_map, List.getElem?_range hj, mset, Ne.symm hij]
  · rw [List.getElem?_eq_none (by simp [wl]; omega), List.getElem?_eq_none (by simp [wl]; omega)]
theorem mset_same {M : Mem} {i : Nat} {c : PCell} : mset M i c i = some c := by simp [mset]
theorem mset_ne {M : Mem} {i j : Nat} {c : PCell} (h : j ≠ i) : mset M i c j = M j := by simp [mset, h]
theorem mset_mset {M : Mem} {i : Nat} {c c' : PCell} : mset (mset M i c) i c' = mset M i c' := by
  funext j
  by_cases h : j = i <;> simp [mset, h]
theorem mset_self {M : Mem} {i : Nat} {c : PCell} (h : M i = some c) : mset M i c = M := by
  funext j
  by_cases hj : j = i
  · subst hj; simp [mset, h]
  · simp [mset, hj]
theorem mset_comm {M : Mem} {i j : Nat} {c c' : PCell} (h : i ≠ j) : mset (mset M i c) j c' = mset (mset M j c') i c := by
  funext k
  by_cases hi : k = i
  · subst hi; simp [mset, h]
  · simp [mset, hi]
theorem cv_cat (ad : Nat → Nat) (v : Value) : (cvV ad v).category = v.category := by cases v <;> rfl
theorem cv_sum (ad : Nat → Nat) (l : List Value) : ((l.map (cvV ad)).map fun v => v.category).sum = (l.map fun v => v.category).sum := by
  rw [List.map_map]
  congr 1
  apply List.map_congr_left
  intro v _
  exact cv_cat ad v
def pDom (nx : Nat) (M : Mem) : Prop := ∀ i c, M i = some c → i < nx
theorem pDom.set {nx : Nat} {M : Mem} {i : Nat} {c c' : PCell} (h : pDom nx M) (hi : M i = some c') : pDom nx (mset M i c) := by
  intro j x hj
  by_cases e : j = i
  · subst e; exact h _ _ hi
  · rw [mset_ne e] at hj; exact h _ _ hj
def pJ (nx : Nat) (ad : Nat → Nat) : Prop := nx < 1000 ∧ ∀ i j, i < nx → j < nx → ad i = ad j → i = j
def pAA (nx : Nat) (ad : Nat → Nat) (sz : Nat) : Nat → Prop := fun q => (∃ i, i < nx ∧ q = ad i) ∨ sz ≤ q
theorem wl_D {nx : Nat} {ad : Nat → Nat} {ca : Nat → ClassId} {M : Mem} {A : Nat → Prop} (hJ : pJ nx ad) (hA : ∀ i, i < nx → A (ad i)) : va_D A (wl nx ad ca M) := by
  refine ⟨fun i j p q hi hj e => ?_, fun k q hk => ?_⟩
  · obtain ⟨a1, a2⟩ := wl_get hi
    obtain ⟨b1, b2⟩ := wl_get hj
    exact hJ.2 i j a1 b1 (by rw [← a2, ← b2, e])
  · obtain ⟨a1, a2⟩ := wl_get hk
    rw [a2]; exact hA k a1
def tysOf (ca : Nat → ClassId) : List (ClassId × FieldType) := [(ca 0, .int), (ca 1, .boolean), (ca 2, .char), (ca 3, .int), (ca 4, .object "PipPortrait$State")]

def xIAE : String := "java/lang/IllegalArgumentException"
def xISE : String := "java/lang/IllegalStateException"
def xIOB : String := "java/lang/IndexOutOfBoundsException"
def excW : List Cond := [.castable xIAE xIAE, .castable xISE xISE, .castable xIOB xIOB, .declares ⟨"java/lang/RuntimeException", "<init>", "(Ljava/lang/String;)V"⟩, .declares ⟨"java/lang/Exception", "<init>", "(Ljava/lang/String;)V"⟩, .declares ⟨"java/lang/Throwable", "<init>", "(Ljava/lang/String;)V"⟩]
def ncW : List (String × String) := [(xIAE, xISE), (xIAE, xIOB), (xISE, xIAE), (xISE, xIOB), (xIOB, xIAE), (xIOB, xISE)]
theorem excW_ot : ∀ w ∈ excW, w.onTables = true := by decide +kernel
theorem excW_form : ∀ w ∈ excW, (∃ a b, w = .castable a b) ∨ ∃ y, w = .declares y := by
  intro w hw
  simp only [excW, List.mem_cons, List.not_mem_nil, or_false] at hw
  rcases hw with h | h | h | h | h | h
  · exact Or.inl ⟨_, _, h⟩
  · exact Or.inl ⟨_, _, h⟩
  · exact Or.inl ⟨_, _, h⟩
  · exact Or.inr ⟨_, h⟩
  · exact Or.inr ⟨_, h⟩
  · exact Or.inr ⟨_, h⟩
/-- what is known of the classes of exceptions, and of rows of states -/
def pW (U : State) : Prop := (∀ w ∈ excW, va_Nw w U) ∧ (∀ pr ∈ ncW, va_Nc pr.1 pr.2 U) ∧ va_AO "PipPortrait$State" U
theorem pW.same {u U : State} (hv : U.vm = u.vm) (h : pW u) : pW U := by
  have al : u.vm.Alike U.vm := by rw [hv]; exact Vm.Alike.refl _
  exact ⟨fun w hw => va_Nw.same (excW_ot w hw) hv.symm (h.1 w hw), fun pr hp => (h.2.1 pr hp).moved al, h.2.2.moved al⟩
theorem pW.go {s U : State} (hW : s.WarmedH U.vm) (h : pW s) : pW U := by
  refine ⟨fun w hw => ?_, fun pr hp => (h.2.1 pr hp).moved hW.alike, h.2.2.moved hW.alike⟩
  have h1 := h.1 w hw
  rcases excW_form w hw with ⟨a, b, rfl⟩ | ⟨y, rfl⟩
  · exact va_Nw.warmC hW h1
  · exact va_Nw.warmD hW h1
theorem nests_ot : ∀ w ∈ nests, w.onTables = true := by decide +kernel
/-- what is there from the start and is never written: texts, statics, links of nest mates -/
def pE (ad : Nat → Nat) (A : Nat → Prop) (U : State) (H : Heap) : Prop :=
  (∀ (k : Nat) (q : String × Nat × String), strs[k]? = some q → vk_R q.1 q.2.1 q.2.2 (ad (2000 + k)) U) ∧ vk_S 10 sLen sByt (fun k => ad (2000 + k)) (fun k => ad (3000 + k)) A U H ∧
  vx_Zq Bundle.tN "UNASSIGNED_STACK" Bundle.steD A U H ∧ (vx_Zq Bundle.tN "SUPPRESSED_SENTINEL" Bundle.listD A U H ∧ pW U) ∧
  (va_Z "java/lang/String" "COMPACT_STRINGS" "Z" (.int 1) A U H ∧ ∃ v : Value, (v = .null ∨ v = .ref 4000) ∧ va_Z "jdk/internal/util/Preconditions" "SIOOBE_FORMATTER" "Ljava/util/function/BiFunction;" (cvV ad v) A U H) ∧ ∀ w ∈ nests, va_Nw w U
theorem nests_form : ∀ w ∈ nests, ∃ a i x h, w = .methodLinkNest a i x h := by
  intro w hw
  simp only [nests, List.mem_cons, List.not_mem_nil, or_false] at hw
  rcases hw with h | h | h | h | h | h | h | h | h | h | h | h | h | h <;> exact ⟨_, _, _, _, h⟩
theorem pE.same {ad : Nat → Nat} {A : Nat → Prop} {u U : State} {H : Heap} (hv : U.vm = u.vm) (h : pE ad A u H) : pE ad A U H := by
  obtain ⟨h1, h2, h3, h4, ⟨h5, v, h6, h7⟩, h8⟩ := h
  have al : u.vm.Alike U.vm := by rw [hv]; exact Vm.Alike.refl _
  exact ⟨fun k q hk => vk_R.same hv (h1 k q hk), vk_S.moved al h2, vx_Zq.moved al h3, ⟨vx_Zq.moved al h4.1, h4.2.same hv⟩, ⟨va_Z.moved al h5, v, h6, va_Z.moved al h7⟩, fun w hw => va_Nw.same (nests_ot w hw) hv.symm (h8 w hw)⟩
theorem pE.go {ad : Nat → Nat} {A B : Nat → Prop} {s U : State} {H : Heap} {locs : List Loc} (h : pE ad A s s.heap) (hS : va_S A s.heap H locs) (hW : s.WarmedH U.vm) (hB : ∀ q, B q → A q) : pE ad B U H := by
  obtain ⟨h1, h2, h3, h4, ⟨h5, v, h6, h7⟩, h8⟩ := h
  have al : s.vm.Alike U.vm := hW.alike
  refine ⟨fun k q hk => vk_R.warm hW (h1 k q hk), vk_S.narrow (vk_S.moved al (h2.kept hS.2.1)) hB, vx_Zq.narrow (vx_Zq.moved al (h3.kept hS.2.1)) hB, ⟨vx_Zq.narrow (vx_Zq.moved al (h4.1.kept hS.2.1)) hB, h4.2.go hW⟩, ⟨va_Z.narrow (va_Z.moved al (h5.kept hS.2.1)) hB, v, h6, va_Z.narrow (va_Z.moved al (h7.kept hS.2.1)) hB⟩, fun w hw => ?_⟩
  obtain ⟨a, i, x, hh, rfl⟩ := nests_form w hw
  exact va_Nw.warmM hW (h8 _ hw)
def pPre (D : va_G) (nx : Nat) (ad : Nat → Nat) (ca : Nat → ClassId) (sz : Nat) (as : List Value) (M : Mem) : Array Value → State → Prop :=
  va_Pc (as.map (cvV ad)) (fun U => U.heap.size = sz ∧ pDom nx M ∧ pJ nx ad ∧ va_P D vwCl (wl nx ad ca M) U.heap ∧ va_K D vwCl (tysOf ca) U ∧ pE ad (pAA nx ad sz) U U.heap)
theorem pPre_blind {D : va_G} {nx : Nat} {ad : Nat → Nat} {ca : Nat → ClassId} {sz : Nat} {as : List Value} {M : Mem} : FrameBlind (pPre D nx ad ca sz as M) := by
  intro a U g mk h
  obtain ⟨h0, h1, h2, h3, h4, h5, h6⟩ := h
  exact ⟨h0, h1, h2, h3, h4, va_K.moved (u := U) (U := U.calling g mk a) (Vm.Alike.refl U.vm) h5, pE.same (u := U) (U := U.calling g mk a) rfl h6⟩
/-- what is owed at the end: of the answer, or of what is thrown, and of the memory -/
abbrev TG : Type := (Option Value ⊕ String) → Mem → Prop
def dT (r : Option Value) (M' : Mem) : TG := fun w Mf => w = .inl r ∧ Mf = M'
def tP (r : Option Value) (P : Mem → Prop) : TG := fun w Mf => w = .inl r ∧ P Mf
def dX (E : String) (M' : Mem) : TG := fun w Mf => w = .inr E ∧ Mf = M'
def pQ (D : va_G) (nz : Nat) (ad : Nat → Nat) (ca : Nat → ClassId) (A : Nat → Prop) (oc : TG) : Array Value → State → Outcome → State → Prop := fun _ st r t =>
  (∃ v M', oc (.inl v) M' ∧ r = .returned (v.map (cvV ad)) ∧ pDom nz M' ∧ va_P D vwCl (wl nz ad ca M') t.heap) ∧ va_F A st t
def pX (D : va_G) (nz : Nat) (ad : Nat → Nat) (ca : Nat → ClassId) (A : Nat → Prop) (oc : TG) : String → State → State → Prop := fun E st t =>
  (∃ M', oc (.inr E) M' ∧ pDom nz M' ∧ va_P D vwCl (wl nz ad ca M') t.heap) ∧ va_F A st t
/-- how a method ends: it returns; it may throw; the law; it returns and has handlers -/
abbrev XM : Type := Bool ⊕ ((Nat × (Nat → Int32)) ⊕ (List (Nat × Nat × Nat × Nat) ⊕ (Nat × (Nat → Int32))))
def pMode (x : XM) (mc ms : Nat) (oc : TG) (R : Room) (s : State) (args : Array Value) (below : List Frame) (c : Code) (Q : State → Prop) (D : va_G) (nz : Nat) (ad : Nat → Nat) (ca : Nat → ClassId) (A : Nat → Prop) : Prop := match x with
  | .inl false => Q = MQ below (pQ D nz ad ca A oc) args s mc ms A
  | .inl true => Q = vx_MQ below (pQ D nz ad ca A oc) (pX D nz ad ca A oc) args s mc ms A ∧ ∀ z ∈ c.exceptionTable.toList, False
  | .inr (.inl (L, xs)) => Q = lw_Z below args s ∧ R = room_1 ∧ L < 2 ^ 31 ∧ ∃ b, ad 1000 = b ∧ args = #[.ref b] ∧ va_X b L xs s s.heap ∧ b < s.heap.size ∧ ∀ a : Nat, A a → s.heap.size ≤ a
  | .inr (.inr (.inl hh)) => Q = vx_MQ below (pQ D nz ad ca A oc) (fun _ _ _ => False) args s mc ms A ∧ c.exceptionTable.toList = tableOf hh
  | .inr (.inr (.inr (L, xs))) => Q = MQ below (pQ D nz ad ca A oc) args s mc ms A ∧ L < 2 ^ 31 ∧ va_X (ad 1000) L xs s s.heap ∧ ad 1000 < s.heap.size ∧ ¬ A (ad 1000)
def alOK (al : Option Nat) (cs mc nx nz : Nat) (ad : Nat → Nat) (s : State) : Prop := match al with
  | none => nz = nx
  | some k0 => nz = k0 + mc ∧ nx = k0 + cs ∧ ∃ base, (∀ i, i < 500 → ad i = base + i) ∧ s.heap.size = base + k0
def lvOK (ad : Nat → Nat) (n : Nat) (lv : List (Option Value)) (ls : Array Slot) : Prop := ls.size = n ∧ lv_wf ls ∧ lv.length = n ∧ ∀ (i : Nat) (v : Value), lv[i]? = some (some v) → ls[i]? = some (Slot.val (cvV ad v))
theorem lvOK.get {ad : Nat → Nat} {n : Nat} {lv : List (Option Value)} {ls : Array Slot} (h : lvOK ad n lv ls) (i : Nat) {v : Value} (hi : lv[i]? = some (some v)) : ls[i]? = some (Slot.val (cvV ad v)) := h.2.2.2 i v hi
def lvA (ad : Nat → Nat) (lv : List (Option Value)) : List (Nat × Value) := (List.range lv.length).filterMap fun i => (lv[i]?.join).map fun v => (i, cvV ad v)
theorem lvA_mem {ad : Nat → Nat} {lv : List (Option Value)} {i : Nat} {v : Value} (h : lv[i]? = some (some v)) : (i, cvV ad v) ∈ lvA ad lv := by
  refine List.mem_filterMap.mpr ⟨i, List.mem_range.mpr (List.getElem?_eq_some_iff.mp h).1, ?_⟩
  rw [h]; rfl
theorem lvA_of {ad : Nat → Nat} {lv : List (Option Value)} {q : Nat × Value} (h : q ∈ lvA ad lv) : ∃ v, lv[q.1]? = some (some v) ∧ q.2 = cvV ad v := by
  obtain ⟨i, hi, he⟩ := List.mem_filterMap.mp h
  cases hj : lv[i]?.join with
  | none => rw [hj] at he; cases he
  | some v =>
    rw [hj] at he
    cases he
    refine ⟨v, ?_, rfl⟩
    cases hk : lv[i]? with
    | none => rw [hk] at hj; cases hj
    | some w => rw [hk] at hj; rw [← hj]; rfl
theorem lvOK.has {ad : Nat → Nat} {n : Nat} {lv : List (Option Value)} {ls : Array Slot} (h : lvOK ad n lv ls) : lv_has ls n (lvA ad lv) := by
  refine ⟨h.1, h.2.1, fun q hq => ?_⟩
  obtain ⟨v, h1, h2⟩ := lvA_of hq
  rw [h2]; exact h.2.2.2 _ _ h1
/-- no long begins here -/
def nc (o : Option Value) : Bool := match o with
  | none => true
  | some v => v.category != 2
theorem lvOK.st1 {ad : Nat → Nat} {n i : Nat} {lv : List (Option Value)} {ls ls' : Array Slot} {x : Value} (h : lvOK ad n lv ls) (hi : i < n) (hp : ∀ j, j + 1 = i → nc (lv[j]?.join) = true)
    (h' : lv_has ls' n ((i, cvV ad x) :: (lvA ad lv).filter (fun q => !(q.1 == i) && !(q.1 + 1 == i && q.2.category == 2)))) : lvOK ad n (lv.set i (some x)) ls' := by
  refine ⟨h'.1, h'.2.1, by simp [h.2.2.1], fun j v hj => ?_⟩
  by_cases e : i = j
  · subst e
    rw [List.getElem?_set_self (by rw [h.2.2.1]; exact hi)] at hj
    cases hj
    exact h'.2.2 (i, cvV ad x) List.mem_cons_self
  · rw [List.getElem?_set_ne e] at hj
    refine h'.2.2 (j, cvV ad v) (List.mem_cons_of_mem _ (List.mem_filter.mpr ⟨lvA_mem hj, ?_⟩))
    by_cases e2 : j + 1 = i
    · have h3 := hp j e2
      rw [hj] at h3
      simp [nc] at h3
      simp [Ne.symm e, cv_cat, h3]
    · simp [Ne.symm e, e2]
theorem lvOK.st2 {ad : Nat → Nat} {n i : Nat} {lv : List (Option Value)} {ls ls' : Array Slot} {x : Value} (h : lvOK ad n lv ls) (hi : i + 1 < n) (hp : ∀ j, j + 1 = i → nc (lv[j]?.join) = true)
    (h' : lv_has ls' n ((i, cvV ad x) :: (lvA ad lv).filter (fun q => !(q.1 == i) && (!(q.1 == i + 1) && !(q.1 + 1 == i && q.2.category == 2))))) : lvOK ad n ((lv.set i (some x)).set (i + 1) none) ls' := by
  refine ⟨h'.1, h'.2.1, by simp [h.2.2.1], fun j v hj => ?_⟩
  by_cases e1 : i + 1 = j
  · subst e1
    rw [List.getElem?_set_self (by simp [h.2.2.1]; exact hi)] at hj
    cases hj
  · rw [List.getElem?_set_ne e1] at hj
    by_cases e : i = j
    · subst e
      rw [List.getElem?_set_self (by rw [h.2.2.1]; omega)] at hj
      cases hj
      exact h'.2.2 (i, cvV ad x) List.mem_cons_self
    · rw [List.getElem?_set_ne e] at hj
      refine h'.2.2 (j, cvV ad v) (List.mem_cons_of_mem _ (List.mem_filter.mpr ⟨lvA_mem hj, ?_⟩))
      by_cases e2 : j + 1 = i
      · have h3 := hp j e2
        rw [hj] at h3
        simp [nc] at h3
        simp [Ne.symm e, Ne.symm e1, cv_cat, h3]
      · simp [Ne.symm e, Ne.symm e1, e2]
def lvI : List Value → List (Option Value)
  | [] => []
  | v :: vs => if v.category = 2 then some v :: none :: lvI vs else some v :: lvI vs
theorem lvI_mem (ad : Nat → Nat) : ∀ (vs : List Value) (k i : Nat) (v : Value), (lvI vs)[i]? = some (some v) → (k + i, cvV ad v) ∈ lv_args k (vs.map (cvV ad)) := by
  intro vs
  induction vs with
  | nil => intro k i v h; simp [lvI] at h
  | cons w vs ih =>
    intro k i v h
    unfold lvI at h
    show (k + i, cvV ad v) ∈ lv_args k (cvV ad w :: vs.map (cvV ad))
    unfold lv_args
    rw [cv_cat]
    by_cases hc : w.category = 2
    · rw [if_pos hc] at h ⊢
      match i, h with
      | 0, h => simp at h; subst h; exact List.mem_cons_self
      | 1, h => simp at h
      | i + 2, h =>
        have h1 : (lvI vs)[i]? = some (some v) := by simpa using h
        have h2 := ih (k + 2) i v h1
        rw [show k + (i + 2) = k + 2 + i by omega]
        exact List.mem_cons_of_mem _ h2
    · rw [if_neg hc] at h ⊢
      match i, h with
      | 0, h => simp at h; subst h; exact List.mem_cons_self
      | i + 1, h =>
        have h1 : (lvI vs)[i]? = some (some v) := by simpa using h
        have h2 := ih (k + 1) i v h1
        rw [show k + (i + 1) = k + 1 + i by omega]
        exact List.mem_cons_of_mem _ h2
theorem lvI_len (ad : Nat → Nat) : ∀ (vs : List Value), (lg_sl (vs.map (cvV ad))).length = (lvI vs).length := by
  intro vs
  induction vs with
  | nil => rfl
  | cons w vs ih =>
    unfold lvI
    show (lg_sl (cvV ad w :: vs.map (cvV ad))).length = _
    have e : lg_sl (cvV ad w :: vs.map (cvV ad)) = (if (cvV ad w).category = 2 then [Slot.val (cvV ad w), .second] else [.val (cvV ad w)]) ++ lg_sl (vs.map (cvV ad)) := by simp [lg_sl]
    rw [e, cv_cat, List.length_append, ih]
    by_cases hc : w.category = 2
    · rw [if_pos hc, if_pos hc]; simp; omega
    · rw [if_neg hc, if_neg hc]; simp; omega
theorem lvOK_entry (ad : Nat → Nat) (vs : List Value) {n : Nat} {lv : List (Option Value)} (hn : (lvI vs).length ≤ n) (hlv : lvI vs ++ List.replicate (n - (lvI vs).length) none = lv) :
    lvOK ad n lv ((lg_sl (vs.map (cvV ad)) ++ List.replicate (n - (lg_sl (vs.map (cvV ad))).length) Slot.unset).toArray) := by
  have h := lv_entry (vs.map (cvV ad)) (n := n) (by rw [lvI_len]; exact hn)
  refine ⟨h.1, h.2.1, ?_, fun i v hi => ?_⟩
  · rw [← hlv]; simp <;> omega
  · rw [← hlv] at hi
    by_cases hl : i < (lvI vs).length
    · rw [List.getElem?_append_left hl] at hi
      have h1 := lvI_mem ad vs 0 i v hi
      rw [Nat.zero_add] at h1
      exact h.2.2 _ h1
    · rw [List.getElem?_append_right (by omega), List.getElem?_replicate] at hi
      split at hi <;> cases hi
def Cx (q : MI) (d : Nat) (x : XM) (mc ms : Nat) (oc : TG) (p : Program) (l : Launch) (e : Env) (R : Room) (s : State) (m : MethodId) (args : Array Value) (below : List Frame) (meth : Method) (c : Code) (Q : State → Prop) (D : va_G) (nx nz : Nat) (ad : Nat → Nat) (ca : Nat → ClassId) (A : Nat → Prop) : Prop :=
  p.tables.exec = Jvm.exec ∧ c.code = mC q ∧ c.maxLocals = mL q ∧ (meth.sig.returnType = mR q ∧ (q.1.name = "<init>" → meth.name = "<init>")) ∧ s.vm.findClass q.1.cls = some m.cls ∧ (∀ w ∈ tblG, w.before args s = true) ∧ va_K D vwCl (tysOf ca) s ∧ pE ad A s s.heap ∧ (∀ a : Nat, s.heap.size ≤ a → A a) ∧ pJ nx ad ∧ (∀ i, i < nx → A (ad i)) ∧ meth.locks = false ∧ l.stackTraces = false ∧
  (d ≤ R.frames ∧ 40 * d ≤ R.locals ∧ mc ≤ R.cells ∧ ms ≤ R.slots) ∧ pMode x mc ms oc R s args below c Q D nz ad ca A
/-- from this place of the method's code, with these locals, this stack, this memory, it comes to its end as it should -/
def G (q : MI) (d : Nat) (x : XM) (mc ms : Nat) (oc : TG) (al : Option Nat) (cs ss pc : Nat) (lv : List (Option Value)) (st : List Value) (M : Mem) : Prop :=
  ∀ (p : Program) (l : Launch) (e : Env) (R : Room) (s : State) (m : MethodId) (args : Array Value) (below : List Frame) (meth : Method) (c : Code) (H : Heap) (locs : List Loc) (Q : State → Prop) (D : va_G) (nx nz : Nat) (ad : Nat → Nat) (ca : Nat → ClassId) (A : Nat → Prop) (ls : Array Slot),
    Cx q d x mc ms oc p l e R s m args below meth c Q D nx nz ad ca A → pDom nx M → va_P D vwCl (wl nx ad ca M) H → va_S A s.heap H locs → alOK al cs mc nx nz ad s → lvOK ad (mL q) lv ls →
    W p l e R s m args below meth c H locs cs ss Q (F0 m pc ls (st.map (cvV ad)))
def rmU (d mc ms : Nat) : Room := { frames := d, cells := mc, slots := ms, locals := 40 * d }
def wsU (q : MI) : List Cond := Cond.code q.1 (mC q) (mL q) (mR q) :: tblG
def SpecP (q : MI) (d mc ms : Nat) (as : List Value) (M : Mem) (oc : TG) : Prop :=
  ∀ (l : Launch) (D : va_G) (nx : Nat) (ad : Nat → Nat) (ca : Nat → ClassId) (sz : Nat), l.stackTraces = false → Met l q.1 (wsU q) (rmU d mc ms) (pPre D nx ad ca sz as M) (pQ D nx ad ca (pAA nx ad sz) oc) mc ms (pAA nx ad sz)
abbrev Spec (q : MI) (d mc ms : Nat) (as : List Value) (M : Mem) (r : Option Value) (M' : Mem) : Prop := SpecP q d mc ms as M (dT r M')
def SpecX (q : MI) (d mc ms : Nat) (as : List Value) (M : Mem) (oc : TG) : Prop :=
  ∀ (l : Launch) (D : va_G) (nx : Nat) (ad : Nat → Nat) (ca : Nat → ClassId) (sz : Nat), l.stackTraces = false → vx_Met l q.1 (wsU q) (rmU d mc ms) (pPre D nx ad ca sz as M) (pQ D nx ad ca (pAA nx ad sz) oc) (pX D nx ad ca (pAA nx ad sz) oc) mc ms (pAA nx ad sz)
def SpecA (q : MI) (d mc ms k0 : Nat) (as : List Value) (M : Mem) (oc : TG) : Prop :=
  ∀ (l : Launch) (D : va_G) (base : Nat) (ad : Nat → Nat) (ca : Nat → ClassId), l.stackTraces = false → (∀ i, i < 500 → ad i = base + i) → k0 + mc < 500 → Met l q.1 (wsU q) (rmU d mc ms) (pPre D k0 ad ca (base + k0) as M) (pQ D (k0 + mc) ad ca (pAA k0 ad (base + k0)) oc) mc ms (pAA k0 ad (base + k0))
theorem pAA_sz {nx : Nat} {ad : Nat → Nat} {sz : Nat} : ∀ a : Nat, sz ≤ a → pAA nx ad sz a := fun _ h => Or.inr h
theorem pAA_ad {nx : Nat} {ad : Nat → Nat} {sz : Nat} : ∀ i, i < nx → pAA nx ad sz (ad i) := fun i h => Or.inl ⟨i, h, rfl⟩
theorem Spec_of {q : MI} {d mc ms : Nat} {as : List Value} {M : Mem} {oc : TG} (lv : List (Option Value)) (hpl : plainName q.1.cls = true) (hn : (lvI as).length ≤ mL q) (hlv : lvI as ++ List.replicate (mL q - (lvI as).length) none = lv)
    (k : G q d (.inl false) mc ms oc none 0 0 0 lv [] M) : SpecP q d mc ms as M oc := by
  intro l D nx ad ca sz hl
  refine Met.ofW (cc := mC q) (maxL := mL q) (ret := mR q) hpl rfl ?_
  intro p e s m args below meth c s₁ B hml hv
  obtain ⟨rfl, hsz, hd, hJ, hP, hK, hE⟩ := hv
  subst hsz
  have hts := atoms_spec (ws := wsU q) B.pre
  have hown : s.vm.findClass q.1.cls = some m.cls := findClass_of_methodNamed B.named
  rw [lg_entry_eq]
  exact k p l e (rmU d mc ms) s m _ below meth c s.heap [] _ D nx nx ad ca (pAA nx ad s.heap.size) _
    ⟨B.exec, B.bytes, hml, ⟨B.returns, fun h => (name_of_methodNamed B.named B.method).1.trans h⟩, hown, fun w h => hts w (List.mem_cons_of_mem _ h), hK, hE, pAA_sz, hJ, pAA_ad, B.notSynchronized, hl, ⟨Nat.le_refl _, Nat.le_refl _, Nat.le_refl _, Nat.le_refl _⟩, rfl⟩ hd hP va_S.rf rfl (lvOK_entry ad as hn hlv)
theorem SpecX_of {q : MI} {d mc ms : Nat} {as : List Value} {M : Mem} {oc : TG} (lv : List (Option Value)) (hpl : plainName q.1.cls = true) (hn : (lvI as).length ≤ mL q) (hlv : lvI as ++ List.replicate (mL q - (lvI as).length) none = lv)
    (k : G q d (.inl true) mc ms oc none 0 0 0 lv [] M) : SpecX q d mc ms as M oc := by
  intro l D nx ad ca sz hl
  refine vx_ofW (cc := mC q) (maxL := mL q) (ret := mR q) hpl rfl ?_
  intro p e s m args below meth c s₁ B hml htab hv
  obtain ⟨rfl, hsz, hd, hJ, hP, hK, hE⟩ := hv
  subst hsz
  have hts := atoms_spec (ws := wsU q) B.pre
  have hown : s.vm.findClass q.1.cls = some m.cls := findClass_of_methodNamed B.named
  rw [lg_entry_eq]
  exact k p l e (rmU d mc ms) s m _ below meth c s.heap [] _ D nx nx ad ca (pAA nx ad s.heap.size) _
    ⟨B.exec, B.bytes, hml, ⟨B.returns, fun h => (name_of_methodNamed B.named B.method).1.trans h⟩, hown, fun w h => hts w (List.mem_cons_of_mem _ h), hK, hE, pAA_sz, hJ, pAA_ad, B.notSynchronized, hl, ⟨Nat.le_refl _, Nat.le_refl _, Nat.le_refl _, Nat.le_refl _⟩, rfl, htab⟩ hd hP va_S.rf rfl (lvOK_entry ad as hn hlv)
theorem SpecA_of {q : MI} {d mc ms k0 : Nat} {as : List Value} {M : Mem} {oc : TG} (lv : List (Option Value)) (hpl : plainName q.1.cls = true) (hn : (lvI as).length ≤ mL q) (hlv : lvI as ++ List.replicate (mL q - (lvI as).length) none = lv)
    (k : k0 + mc < 500 → G q d (.inl false) mc ms oc (some k0) 0 0 0 lv [] M) : SpecA q d mc ms k0 as M oc := by
  intro l D base ad ca hl haff h500
  refine Met.ofW (cc := mC q) (maxL := mL q) (ret := mR q) hpl rfl ?_
  intro p e s m args below meth c s₁ B hml hv
  obtain ⟨rfl, hsz, hd, hJ, hP, hK, hE⟩ := hv
  have hts := atoms_spec (ws := wsU q) B.pre
  have hown : s.vm.findClass q.1.cls = some m.cls := findClass_of_methodNamed B.named
  rw [lg_entry_eq]
  exact k h500 p l e (rmU d mc ms) s m _ below meth c s.heap [] _ D k0 (k0 + mc) ad ca (pAA k0 ad (base + k0)) _
    ⟨B.exec, B.bytes, hml, ⟨B.returns, fun h => (name_of_methodNamed B.named B.method).1.trans h⟩, hown, fun w h => hts w (List.mem_cons_of_mem _ h), hK, hE, by rw [hsz]; exact pAA_sz, hJ, pAA_ad, B.notSynchronized, hl, ⟨Nat.le_refl _, Nat.le_refl _, Nat.le_refl _, Nat.le_refl _⟩, rfl⟩ hd hP va_S.rf ⟨rfl, rfl, base, haff, hsz⟩ (lvOK_entry ad as hn hlv)
