section
-- ===== PART A: goes FIRST, ahead of the names: the tables' words, and 'selects' of the private methods out of them =====
/-- a private method of a class that the tables say can be made, by its rows of tables_1 -/
def lw_okq (q : MethodName × Nat) : Prop := (q.1.cls ≠ "java/lang/invoke/MethodHandle" ∧ q.1.cls ≠ "java/lang/invoke/VarHandle") ∧ Cond.instantiable q.1.cls q.2 ∈ tables_1 ∧ Cond.privateMethod q.1 ∈ tables_1 ∧ Cond.instanceMethod q.1 ∈ tables_1
theorem lw_p0 : lw_okq (⟨"StrainRows", "firstRowOfGreatestForce", "()I"⟩, 16) := ⟨⟨by decide +kernel, by decide +kernel⟩, List.mem_of_getElem? (i := 12) (by decide +kernel), List.mem_of_getElem? (i := 74) (by decide +kernel), List.mem_of_getElem? (i := 75) (by decide +kernel)⟩
theorem lw_p1 : lw_okq (⟨"StrainRows", "fallsBelowHalfBehind", "(I)Z"⟩, 16) := ⟨⟨by decide +kernel, by decide +kernel⟩, List.mem_of_getElem? (i := 12) (by decide +kernel), List.mem_of_getElem? (i := 78) (by decide +kernel), List.mem_of_getElem? (i := 79) (by decide +kernel)⟩
theorem lw_p2 : lw_okq (⟨"java/lang/Throwable", "fillInStackTrace", "(I)Ljava/lang/Throwable;"⟩, 6) := ⟨⟨by decide +kernel, by decide +kernel⟩, List.mem_of_getElem? (i := 138) (by decide +kernel), List.mem_of_getElem? (i := 136) (by decide +kernel), List.mem_of_getElem? (i := 137) (by decide +kernel)⟩
theorem lw_p3 : lw_okq (⟨"StrainRows", "firstRowFrom", "(I)I"⟩, 16) := ⟨⟨by decide +kernel, by decide +kernel⟩, List.mem_of_getElem? (i := 12) (by decide +kernel), List.mem_of_getElem? (i := 221) (by decide +kernel), List.mem_of_getElem? (i := 222) (by decide +kernel)⟩
theorem lw_p4 : lw_okq (⟨"StrainRows", "lastRowUpTo", "(I)I"⟩, 16) := ⟨⟨by decide +kernel, by decide +kernel⟩, List.mem_of_getElem? (i := 12) (by decide +kernel), List.mem_of_getElem? (i := 225) (by decide +kernel), List.mem_of_getElem? (i := 226) (by decide +kernel)⟩
theorem lw_p5 : lw_okq (⟨"StrainRows", "meetingRow", "(I)I"⟩, 16) := ⟨⟨by decide +kernel, by decide +kernel⟩, List.mem_of_getElem? (i := 12) (by decide +kernel), List.mem_of_getElem? (i := 264) (by decide +kernel), List.mem_of_getElem? (i := 265) (by decide +kernel)⟩
theorem lw_p6 : lw_okq (⟨"StrainRows", "excessOverLine", "(II)J"⟩, 16) := ⟨⟨by decide +kernel, by decide +kernel⟩, List.mem_of_getElem? (i := 12) (by decide +kernel), List.mem_of_getElem? (i := 268) (by decide +kernel), List.mem_of_getElem? (i := 269) (by decide +kernel)⟩
theorem lw_p7 : lw_okq (⟨"StrainRows", "firstTableRowFrom", "(I)I"⟩, 16) := ⟨⟨by decide +kernel, by decide +kernel⟩, List.mem_of_getElem? (i := 12) (by decide +kernel), List.mem_of_getElem? (i := 332) (by decide +kernel), List.mem_of_getElem? (i := 333) (by decide +kernel)⟩
theorem lw_p8 : lw_okq (⟨"StrainRowsModel", "goes", "(ZZZZ)Z"⟩, 18) := ⟨⟨by decide +kernel, by decide +kernel⟩, List.mem_of_getElem? (i := 365) (by decide +kernel), List.mem_of_getElem? (i := 438) (by decide +kernel), List.mem_of_getElem? (i := 439) (by decide +kernel)⟩
theorem lw_p9 : lw_okq (⟨"StrainRowsModel", "part", "(JJI)J"⟩, 18) := ⟨⟨by decide +kernel, by decide +kernel⟩, List.mem_of_getElem? (i := 365) (by decide +kernel), List.mem_of_getElem? (i := 450) (by decide +kernel), List.mem_of_getElem? (i := 451) (by decide +kernel)⟩
theorem lw_p10 : lw_okq (⟨"StrainRowsModel", "above", "(II)J"⟩, 18) := ⟨⟨by decide +kernel, by decide +kernel⟩, List.mem_of_getElem? (i := 365) (by decide +kernel), List.mem_of_getElem? (i := 458) (by decide +kernel), List.mem_of_getElem? (i := 459) (by decide +kernel)⟩
theorem lw_p11 : lw_okq (⟨"StrainRowsModel", "peakRow", "()I"⟩, 18) := ⟨⟨by decide +kernel, by decide +kernel⟩, List.mem_of_getElem? (i := 365) (by decide +kernel), List.mem_of_getElem? (i := 467) (by decide +kernel), List.mem_of_getElem? (i := 468) (by decide +kernel)⟩
def lw_privs_1 : List (MethodName × Nat) := [(⟨"StrainRows", "firstRowOfGreatestForce", "()I"⟩, 16), (⟨"StrainRows", "fallsBelowHalfBehind", "(I)Z"⟩, 16), (⟨"java/lang/Throwable", "fillInStackTrace", "(I)Ljava/lang/Throwable;"⟩, 6), (⟨"StrainRows", "firstRowFrom", "(I)I"⟩, 16), (⟨"StrainRows", "lastRowUpTo", "(I)I"⟩, 16), (⟨"StrainRows", "meetingRow", "(I)I"⟩, 16), (⟨"StrainRows", "excessOverLine", "(II)J"⟩, 16), (⟨"StrainRows", "firstTableRowFrom", "(I)I"⟩, 16), (⟨"StrainRowsModel", "goes", "(ZZZZ)Z"⟩, 18), (⟨"StrainRowsModel", "part", "(JJI)J"⟩, 18), (⟨"StrainRowsModel", "above", "(II)J"⟩, 18), (⟨"StrainRowsModel", "peakRow", "()I"⟩, 18)]
theorem lw_r1 : ∀ q ∈ lw_privs_1, lw_okq q := List.forall_mem_cons.mpr ⟨lw_p0, List.forall_mem_cons.mpr ⟨lw_p1, List.forall_mem_cons.mpr ⟨lw_p2, List.forall_mem_cons.mpr ⟨lw_p3, List.forall_mem_cons.mpr ⟨lw_p4, List.forall_mem_cons.mpr ⟨lw_p5, List.forall_mem_cons.mpr ⟨lw_p6, List.forall_mem_cons.mpr ⟨lw_p7, List.forall_mem_cons.mpr ⟨lw_p8, List.forall_mem_cons.mpr ⟨lw_p9, List.forall_mem_cons.mpr ⟨lw_p10, List.forall_mem_cons.mpr ⟨lw_p11, fun _ h => absurd h List.not_mem_nil⟩⟩⟩⟩⟩⟩⟩⟩⟩⟩⟩⟩
def lw_privs : List (MethodName × Nat) := lw_privs_1
def lw_tbl : List Cond := k2_sels lw_privs ++ tables_1
theorem lw_privs_ok : ∀ q ∈ lw_privs, lw_okq q := lw_r1
/-! ===== BEGIN words of one list among another's, by their places ===== -/
theorem goodIn_r {big : List Cond} (ws : List Cond) (ps : List Nat) (hp : ws = ps.filterMap (fun i => big[i]?)) (h : ws.all goodWord = true) : GoodIn big ws := by
  intro w hw
  have h1 := List.all_eq_true.mp h w hw
  rw [hp] at hw
  obtain ⟨i, -, hi⟩ := List.mem_filterMap.mp hw
  have hm : w ∈ big := by first | exact List.mem_of_getElem? hi | exact List.getElem?_mem hi
  exact ⟨hm, good_of_word h1⟩
theorem goodIn_app {big a b : List Cond} (ha : GoodIn big a) (hb : GoodIn big b) : GoodIn big (a ++ b) := fun w h => (List.mem_append.mp h).elim (ha w) (hb w)
theorem goodIn_ca {big a b : List Cond} {c : Cond} (ha : GoodIn big (c :: a)) (hb : GoodIn big b) : GoodIn big (c :: (a ++ b)) := fun w h => (List.mem_cons.mp h).elim (fun e => ha w (List.mem_cons.mpr (Or.inl e))) (fun h => (List.mem_append.mp h).elim (fun h => ha w (List.mem_cons.mpr (Or.inr h))) (hb w))
theorem goodIn_sub {big ws : List Cond} (hm : ∀ w ∈ ws, w ∈ big) (h : ws.all goodWord = true) : GoodIn big ws := fun w hw => ⟨hm w hw, good_of_word (List.all_eq_true.mp h w hw)⟩
/-! ===== END ===== -/

/-! ===== BEGIN exceptions that leave a method, and their catching by the caller (launches without stack traces) ===== -/
section VXA
/-! The laws vx_back, vx_callV, vx_callS, vx_callSW, vx_throw0, vx_throwS follow proofs of the library, with one case more: JvmDerived/Free/Laws.lean (Back.of_free), Shelf42/LK1.lean (callV, callS), Shelf/KitTraced.lean (throwNew0V, throwNewS). -/
/-- where a method has thrown q: the class by its name, the cell, what was written, the world -/
def vx_T (XC : String → State → State → Prop) (st : State) (q : Addr) (t : State) (mc ms : Nat) (free : Addr → Prop) : Prop :=
  ∃ (E : String) (ce : Cell) (L : List Loc), XC E st t ∧ t.heap[q]? = some ce ∧ ce.vm = .none ∧ st.vm.findClass E = some ce.cls ∧ st.WarmedH t.vm ∧ st.sameButNew ({ t with vm := st.vm } : State) L mc ms ∧ ∀ z ∈ L, free z.base
def vx_Q (Qc : Array Value → State → Outcome → State → Prop) (XC : String → State → State → Prop) (mc ms : Nat) (free : Addr → Prop) : Array Value → State → Outcome → State → Prop := fun a st o t =>
  (Qc a st o t ∧ ∃ L, FrameEnd st o t L mc ms ∧ ∀ q ∈ L, free q.base) ∨ ∃ q, o = .threw q ∧ vx_T XC st q t mc ms free
/-- a callee that returns or throws -/
def vx_Met (l : Launch) (y : MethodName) (ws : List Cond) (rm : Room) (Pc : Array Value → State → Prop) (Qc : Array Value → State → Outcome → State → Prop) (XC : String → State → State → Prop) (mc ms : Nat) (free : Addr → Prop) : Prop :=
  MetFree l y (headSpec ws rm) Pc (fun _ _ _ _ _ => True) (vx_Q Qc XC mc ms free)
def vx_Post (XC : String → State → State → Prop) (mc ms : Nat) (free : Addr → Prop) : Pt → Array Value → Addr → Pt → Prop := fun A a q B =>
  ∃ (g : JFrame) (mk : MethodId) (t : State) (L : List Loc) (E : String) (ce : Cell), B.U.heap = t.heap ∧ B.U.vm = t.vm ∧ XC E (A.U.calling g mk a) t ∧ t.heap[q]? = some ce ∧ ce.vm = .none ∧ A.U.vm.findClass E = some ce.cls ∧ B.locs = A.locs ++ L ∧ (∀ z ∈ L, free z.base) ∧ B.cells = A.cells + mc ∧ B.slots = A.slots + ms
def vx_Back (l : Launch) (R : Room) (p : Program) (e : Env) (below : List Frame) (s : State) (sargs : Array Value) (y : MethodName) (len W9 : Nat)
    (Pre : Pt → Array Value → Prop) (Post : Pt → Array Value → Option Value → Pt → Prop) (PostX : Pt → Array Value → Addr → Pt → Prop) : Prop :=
  ∀ (m : MethodId) (meth : Method) (c : Code) (A : Pt) (g : JFrame) (ig : Instr) (mk : MethodId) (a : Array Value),
    Stand p l e R s m sargs below meth c A.U A.locs A.cells A.slots → g.method = m → g.locals.size = c.maxLocals → decode c.code g.pc = .ok (ig, len) →
    2 * g.monitorRoom + (g.stack.map fun v => v.category).sum ≤ W9 → A.U.methodNamed? y = some mk → Pre A a →
    (∃ (v : Option Value) (B : Pt), Stand p l e R s m sargs below meth c B.U B.locs B.cells B.slots ∧ Post A a v B ∧
      Steps p.tables e below (doInvoke e (A.U.setTop g) [] mk a).1 (B.U.setTop { g with pc := g.pc + len, stack := v.toList ++ g.stack })) ∨
    (∃ (q : Addr) (B : Pt), Stand p l e R s m sargs below meth c B.U B.locs B.cells B.slots ∧ PostX A a q B ∧
      Steps p.tables e below (doInvoke e (A.U.setTop g) [] mk a).1 ((B.U.setTop g).pushFrame (.throwing q)))
section Payer
variable {l : Launch} {R : Room} {p : Program} {e : Env} {below : List Frame} {s : State} {sargs : Array Value} {y : MethodName} {len W9 : Nat}
theorem vx_back {ws : List Cond} {rm : Room} {Pc : Array Value → State → Prop} {Qc : Array Value → State → Outcome → State → Prop} {XC : String → State → State → Prop} {mc ms : Nat} {free : Addr → Prop} {bytes : ByteArray} {maxL : Nat} {ret : Option FieldType}
    (hM : vx_Met l y ws rm Pc Qc XC mc ms free) (hblind : FrameBlind Pc) (hrc : rm.cells = mc) (hrs : rm.slots = ms)
    (hframes : rm.frames + 1 ≤ R.frames) (hlocals : W9 + (maxL + 11) + rm.locals ≤ R.locals)
    (hws : ∀ w ∈ ws, ∀ a' U, s.WarmedH U.vm → w.before a' U = true) (hcode : Cond.code y bytes maxL ret ∈ ws) (hinit : ∀ a' U, s.WarmedH U.vm → (Cond.initialized y.cls).before a' U = true) :
    vx_Back l R p e below s sargs y len W9 (PreOf R mc ms Pc) (PostOf Qc mc ms free) (vx_Post XC mc ms free) := by
  intro m meth c A g ig mk a X hg hsize hdg hW hn hp
  have h1 : (headSpec ws rm).pre.before a A.U = true := atoms_intro fun w hw => hws w hw _ _ X.warmed
  have h2 : (Cond.code y bytes maxL ret).before a A.U = true := hws _ hcode _ _ X.warmed
  have h3 : (Cond.initialized y.cls).before a A.U = true := hinit _ _ X.warmed
  have h4 : A.cells + (headSpec ws rm).room.cells ≤ R.cells := by rw [show (headSpec ws rm).room.cells = mc from hrc]; exact hp.1
  have h5 : A.slots + (headSpec ws rm).room.slots ≤ R.slots := by rw [show (headSpec ws rm).room.slots = ms from hrs]; exact hp.2.1
  have hPc : Pc a (A.U.calling g mk a) := hblind _ _ _ _ hp.2.2
  obtain ⟨U, Ls, c0, s0⟩ := A
  dsimp only [Pt.U, Pt.locs, Pt.cells, Pt.slots] at h1 h2 h3 h4 h5 X hn hPc ⊢
  obtain ⟨methY, cY, hmY, hcY, -, hlY, -, -, -, -⟩ := Cond.code_spec hn h2
  obtain ⟨kY, hkY, -⟩ := className_of_methodNamed hn
  have hinitY : kY.init = .initialized := Cond.initialized_spec (findClass_of_methodNamed hn) hkY h3
  have h : At U g.method c below := by rw [hg]; exact X.here
  have hlocals9 : W9 + (maxL + 11) + (headSpec ws rm).room.locals ≤ R.locals := hlocals
  have happ : (headSpec ws rm).appliesLoose y e.platform (U.calling g mk a) = true :=
    Spec.appliesLoose_calling (g := g) h hdg hn hkY hinitY
      (X.room_calling (g := g) (R' := (headSpec ws rm).room) hsize hmY hcY hframes (by rw [hlY]; omega) h4 h5) h1
  obtain ⟨mid, hmid⟩ := h.above
  have hfr : (U.setTop g).frames = (.java g :: mid) ++ below := by rw [State.frames_setTop' g h.top, hmid]; rfl
  obtain ⟨o, s₂, hsteps, -, hend, hq⟩ := Steps.callFree hM p X.admits X.cas X.clock (acts := []) hfr happ hPc trivial
  have hq' : vx_Q Qc XC mc ms free a (U.calling g mk a) o s₂ := hq
  rw [State.frames_setTop' g h.top] at hend
  obtain ⟨g₀, hg0⟩ := Option.isSome_iff_exists.mp h.top
  obtain ⟨r, hr⟩ := State.topJava?_eq_some.mp hg0
  have hr' : (({ U with heap := s₂.heap, slotsUsed := s₂.slotsUsed } : State).setVm s₂.vm).frames = .java g₀ :: r := hr
  rcases hq' with ⟨hqc, L, hfe, hL⟩ | ⟨q, rfl, E, ce, L, hx, hce, hcv, hcl, hW₂, hsm, hL⟩
  · obtain ⟨⟨v, rfl⟩, hW₂, e2, q2, q3, q4, q5, q6⟩ := id hfe
    have e3 : s₂ = ({ (U.calling g mk a).setFrames s₂.frames with heap := s₂.heap, slotsUsed := s₂.slotsUsed } : State).setVm s₂.vm := by
      have : s₂ = ({ s₂ with vm := (U.calling g mk a).vm } : State).setVm s₂.vm := rfl
      rw [e2] at this
      exact this
    obtain ⟨c₂, i₂, len₂, hc₂, hd₂, hf₂⟩ := hend
    have hW' : U.WarmedH s₂.vm := hW₂
    have hcc : c₂ = c := by
      have h1 : s₂.code? g.method = U.code? g.method := by
        rw [State.code?_eq, State.code?_eq, hW'.alike.method?]
      exact Option.some.inj (hc₂.symm.trans (h1.trans h.code))
    subst hcc
    have hlen : len₂ = len := by rw [hdg] at hd₂; cases hd₂; rfl
    subst hlen
    have hs₂ : s₂ = (({ U with heap := s₂.heap, slotsUsed := s₂.slotsUsed } : State).setVm s₂.vm).setTop { g with pc := g.pc + len₂, stack := v.toList ++ g.stack } := by
      refine e3.trans ?_
      rw [hf₂, State.calling_eq h.top, State.setFrames_setFrames, State.setTop_of_frames _ hr', hr]
      rfl
    have hsame : U.sameButNew ({ U with heap := s₂.heap, slotsUsed := s₂.slotsUsed } : State) L mc ms := by
      refine ⟨?_, q2, q3, q4, q5, q6⟩
      obtain ⟨t, ht, -⟩ := State.frames_cons hr
      show ({ U with heap := s₂.heap, slotsUsed := s₂.slotsUsed } : State) = { U.setFrames U.frames with heap := s₂.heap, slotsUsed := s₂.slotsUsed }
      rw [State.setFrames_self ht]
    subst hg
    refine Or.inl ⟨v, ⟨(({ U with heap := s₂.heap, slotsUsed := s₂.slotsUsed } : State).setVm s₂.vm), Ls ++ L, c0 + mc, s0 + ms⟩,
      ⟨X.admits, X.cas, X.clock, X.frames, X.room, X.hears, X.method, X.code, (X.here.setHeapUsed s₂.heap s₂.slotsUsed).setVm hW'.alike, X.tail, State.WarmedH.trans X.warmed hW', X.limits, X.bytes, X.same.trans (hsame.setVm s.vm)⟩,
      ⟨g, mk, s₂, L, rfl, rfl, hqc, rfl, hL, rfl, rfl⟩, ?_⟩
    show Steps p.tables e below _ ((({ U with heap := s₂.heap, slotsUsed := s₂.slotsUsed } : State).setVm s₂.vm).setTop { g with pc := g.pc + len₂, stack := v.toList ++ g.stack })
    rw [← hs₂]
    exact hsteps
  · obtain ⟨e2, q2, q3, q4, q5, q6⟩ := id hsm
    have e3 : s₂ = ({ (U.calling g mk a).setFrames s₂.frames with heap := s₂.heap, slotsUsed := s₂.slotsUsed } : State).setVm s₂.vm := by
      have : s₂ = ({ s₂ with vm := (U.calling g mk a).vm } : State).setVm s₂.vm := rfl
      rw [e2] at this
      exact this
    have hf₂ : s₂.frames = .throwing q :: .java g :: U.frames.tail := hend
    have hW' : U.WarmedH s₂.vm := hW₂
    have hs₂ : s₂ = ((({ U with heap := s₂.heap, slotsUsed := s₂.slotsUsed } : State).setVm s₂.vm).setTop g).pushFrame (.throwing q) := by
      refine e3.trans ?_
      rw [hf₂, State.calling_eq h.top, State.setFrames_setFrames, State.pushFrame, State.frames_setTop _ hr', State.setTop_of_frames _ hr', State.setFrames_setFrames, hr]
      rfl
    have hsame : U.sameButNew ({ U with heap := s₂.heap, slotsUsed := s₂.slotsUsed } : State) L mc ms := by
      refine ⟨?_, q2, q3, q4, q5, q6⟩
      obtain ⟨t, ht, -⟩ := State.frames_cons hr
      show ({ U with heap := s₂.heap, slotsUsed := s₂.slotsUsed } : State) = { U.setFrames U.frames with heap := s₂.heap, slotsUsed := s₂.slotsUsed }
      rw [State.setFrames_self ht]
    subst hg
    refine Or.inr ⟨q, ⟨(({ U with heap := s₂.heap, slotsUsed := s₂.slotsUsed } : State).setVm s₂.vm), Ls ++ L, c0 + mc, s0 + ms⟩,
      ⟨X.admits, X.cas, X.clock, X.frames, X.room, X.hears, X.method, X.code, (X.here.setHeapUsed s₂.heap s₂.slotsUsed).setVm hW'.alike, X.tail, State.WarmedH.trans X.warmed hW', X.limits, X.bytes, X.same.trans (hsame.setVm s.vm)⟩,
      ⟨g, mk, s₂, L, E, ce, rfl, rfl, hx, hce, hcv, hcl, rfl, hL, rfl, rfl⟩, ?_⟩
    show Steps p.tables e below _ (((({ U with heap := s₂.heap, slotsUsed := s₂.slotsUsed } : State).setVm s₂.vm).setTop g).pushFrame (.throwing q))
    rw [← hs₂]
    exact hsteps
end Payer
section Calls
variable {p : Program} {l : Launch} {e : Env} {R : Room} {s : State} {m : MethodId} {args : Array Value} {below : List Frame} {meth : Method} {c : Code} {T : State} {locs : List Loc} {cells slots : Nat}
theorem vx_callV (X : Stand p l e R s m args below meth c T locs cells slots) (hexec : p.tables.exec = Jvm.exec) {own C : String} {index : Nat} {y : MethodName} {bytes : ByteArray} {maxL : Nat} {ret : Option FieldType}
    (hown : s.vm.findClass own = some m.cls) (hlink : (Cond.methodLink own index y).before args s = true) (hinst : (Cond.instanceMethod y).before args s = true) (hsel : (Cond.selects C y y).before args s = true)
    (hcode : (Cond.code y bytes maxL ret).before args s = true) (hy : y.cls ≠ "java/lang/invoke/MethodHandle" ∧ y.cls ≠ "java/lang/invoke/VarHandle")
    {W9 : Nat} {Pre : Pt → Array Value → Prop} {Post : Pt → Array Value → Option Value → Pt → Prop} {PostX : Pt → Array Value → Addr → Pt → Prop} (hK : vx_Back l R p e below s args y 3 W9 Pre Post PostX)
    {b : Addr} {cellB : Cell} (hcell : T.heap[b]? = some cellB) (hobj : cellB.vm.isStatics = false) (hcls : s.vm.findClass C = some cellB.cls)
    {g : JFrame} (hg : g.method = m) (hsize : g.locals.size = c.maxLocals) {argsL rest : List Value} (hlen : ∀ sig, parseMethodDescriptor y.desc = some sig → argsL.length = sig.parameters.length)
    (hstack : g.stack = argsL.reverse ++ .ref b :: rest) (hW : 2 * g.monitorRoom + (rest.map fun v => v.category).sum ≤ W9) (hdg : decode c.code g.pc = .ok (.invokevirtual index, 3))
    (hpre : ∀ vm₁, s.WarmedH vm₁ → Pre ⟨T.setVm vm₁, locs, cells, slots⟩ (Value.ref b :: argsL).toArray) :
    (∃ (v : Option Value) (vm₁ : Vm) (B : Pt), s.WarmedH vm₁ ∧ Stand p l e R s m args below meth c B.U B.locs B.cells B.slots ∧ Post ⟨T.setVm vm₁, locs, cells, slots⟩ (Value.ref b :: argsL).toArray v B ∧
      ∀ target, Steps p.tables e below (B.U.setTop { g with pc := g.pc + 3, stack := v.toList ++ rest }) target → Steps p.tables e below (T.setTop g) target) ∨
    (∃ (q : Addr) (vm₁ : Vm) (B : Pt), s.WarmedH vm₁ ∧ Stand p l e R s m args below meth c B.U B.locs B.cells B.slots ∧ PostX ⟨T.setVm vm₁, locs, cells, slots⟩ (Value.ref b :: argsL).toArray q B ∧
      Steps p.tables e below (T.setTop g) ((B.U.setTop { g with stack := rest }).pushFrame (.throwing q))) := by
  obtain ⟨mk, methM, hnamed, hmethM, hstM, habM⟩ := Cond.instanceMethod_spec hinst
  obtain ⟨methM', cM, hmethM', -, -, -, -, -, -, hsigM⟩ := Cond.code_spec hnamed hcode
  cases hmethM.symm.trans hmethM'
  obtain ⟨c2, r2, m2, q1, q2, q3, q4, kP, hkP, hkPi⟩ := Cond.selects_spec hsel
  cases hcls.symm.trans q1
  cases (State.methodFound?_of_named hnamed hy).symm.trans q2
  cases hnamed.symm.trans q3
  have hselP : selectMethod e.platform s.vm cellB.cls mk = .method mk := by rw [Launch.admits_selectMethod X.admits]; exact q4
  obtain ⟨vm₁, X₁, hstep₁⟩ := X.invokevirtual hexec hown hlink hnamed hmethM hstM hkP hkPi hy (a := b) (cell := cellB) hcell
    (fun z h => by rw [h] at hobj; cases hobj) hselP hmethM habM hkP hkPi (g := g) hg (argsL := argsL) (rest := rest) (hlen _ hsigM) hstack hdg
  rcases hK m meth c ⟨T.setVm vm₁, locs, cells, slots⟩ { g with stack := rest } (.invokevirtual index) mk (Value.ref b :: argsL).toArray X₁ hg hsize hdg hW (X₁.named hnamed) (hpre vm₁ X₁.warmed) with ⟨v, B, X', hpost, hsteps⟩ | ⟨q, B, X', hpost, hsteps⟩
  · exact Or.inl ⟨v, vm₁, B, X₁.warmed, X', hpost, fun target h => hstep₁ _ fun acts => by rw [doInvoke_state]; exact hsteps.trans h⟩
  · exact Or.inr ⟨q, vm₁, B, X₁.warmed, X', hpost, hstep₁ _ fun acts => by rw [doInvoke_state]; exact hsteps⟩
theorem vx_callS (X : Stand p l e R s m args below meth c T locs cells slots) (hexec : p.tables.exec = Jvm.exec) {own : String} {index : Nat} {y : MethodName} {bytes : ByteArray} {maxL : Nat} {ret : Option FieldType}
    (hown : s.vm.findClass own = some m.cls) (hlink : (Cond.methodLink own index y).before args s = true) (hstat : (Cond.static y).before args s = true) (hinit : (Cond.initialized y.cls).before args s = true)
    (hcode : (Cond.code y bytes maxL ret).before args s = true) (hy : y.cls ≠ "java/lang/invoke/MethodHandle" ∧ y.cls ≠ "java/lang/invoke/VarHandle")
    {W9 : Nat} {Pre : Pt → Array Value → Prop} {Post : Pt → Array Value → Option Value → Pt → Prop} {PostX : Pt → Array Value → Addr → Pt → Prop} (hK : vx_Back l R p e below s args y 3 W9 Pre Post PostX)
    {g : JFrame} (hg : g.method = m) (hsize : g.locals.size = c.maxLocals) {argsL rest : List Value} (hlen : ∀ sig, parseMethodDescriptor y.desc = some sig → argsL.length = sig.parameters.length)
    (hstack : g.stack = argsL.reverse ++ rest) (hW : 2 * g.monitorRoom + (rest.map fun v => v.category).sum ≤ W9) (hdg : decode c.code g.pc = .ok (.invokestatic index, 3))
    (hpre : ∀ vm₁, s.WarmedH vm₁ → Pre ⟨T.setVm vm₁, locs, cells, slots⟩ argsL.toArray) :
    (∃ (v : Option Value) (vm₁ : Vm) (B : Pt), s.WarmedH vm₁ ∧ Stand p l e R s m args below meth c B.U B.locs B.cells B.slots ∧ Post ⟨T.setVm vm₁, locs, cells, slots⟩ argsL.toArray v B ∧
      ∀ target, Steps p.tables e below (B.U.setTop { g with pc := g.pc + 3, stack := v.toList ++ rest }) target → Steps p.tables e below (T.setTop g) target) ∨
    (∃ (q : Addr) (vm₁ : Vm) (B : Pt), s.WarmedH vm₁ ∧ Stand p l e R s m args below meth c B.U B.locs B.cells B.slots ∧ PostX ⟨T.setVm vm₁, locs, cells, slots⟩ argsL.toArray q B ∧
      Steps p.tables e below (T.setTop g) ((B.U.setTop { g with stack := rest }).pushFrame (.throwing q))) := by
  obtain ⟨mk, hnamed⟩ := Cond.code_named hcode
  obtain ⟨methM, cM, hmethM, -, -, -, -, -, -, hsigM⟩ := Cond.code_spec hnamed hcode
  have hstatic : methM.isStatic = true := Cond.static_spec hnamed hmethM hstat
  obtain ⟨kP, hkP, -⟩ := className_of_methodNamed hnamed
  have hinitP : kP.init = .initialized := Cond.initialized_spec (findClass_of_methodNamed hnamed) hkP hinit
  obtain ⟨vm₁, X₁, hstep₁⟩ := X.invokestatic hexec hown hlink hnamed hmethM hstatic hkP hinitP hy (g := g) hg (argsL := argsL) (rest := rest) (hlen _ hsigM) hstack hdg
  rcases hK m meth c ⟨T.setVm vm₁, locs, cells, slots⟩ { g with stack := rest } (.invokestatic index) mk argsL.toArray X₁ hg hsize hdg hW (X₁.named hnamed) (hpre vm₁ X₁.warmed) with ⟨v, B, X', hpost, hsteps⟩ | ⟨q, B, X', hpost, hsteps⟩
  · exact Or.inl ⟨v, vm₁, B, X₁.warmed, X', hpost, fun target h => hstep₁ _ fun acts => by rw [doInvoke_state]; exact hsteps.trans h⟩
  · exact Or.inr ⟨q, vm₁, B, X₁.warmed, X', hpost, hstep₁ _ fun acts => by rw [doInvoke_state]; exact hsteps⟩
end Calls
theorem vx_cls {s : State} {T : State} {vm₁ : Vm} {E : String} {k : ClassId} (hW : s.WarmedH vm₁) (h : (T.setVm vm₁).vm.findClass E = some k) : s.vm.findClass E = some k := by
  have h1 : vm₁.findClass E = some k := h
  rw [hW.alike.findClass] at h1
  exact h1
/-- the method's frame g, with q thrown over it -/
def vx_W (p : Program) (l : Launch) (e : Env) (R : Room) (s : State) (m : MethodId) (args : Array Value) (below : List Frame) (meth : Method) (c : Code) (H : Heap) (locs : List Loc) (cells slots : Nat) (Q : State → Prop) (g : JFrame) (q : Addr) : Prop :=
  ∀ T : State, T.heap = H → Stand p l e R s m args below meth c T locs cells slots → ∃ t, Steps p.tables e below ((T.setTop g).pushFrame (.throwing q)) t ∧ Q t
def vx_Run (p : Program) (l : Launch) (e : Env) (R : Room) (s : State) (m : MethodId) (args : Array Value) (below : List Frame) (meth : Method) (c : Code) (H : Heap) (locs : List Loc) (cells slots mc ms : Nat) (g : JFrame) (rest : List Value) (Qa : State → Outcome → State → Prop) (XC : String → State → State → Prop) (free : Addr → Prop) : Prop :=
  ∀ T : State, T.heap = H → Stand p l e R s m args below meth c T locs cells slots →
    (∃ (v : Option Value) (st₀ t T' : State) (L : List Loc), st₀.heap = H ∧ Stand p l e R s m args below meth c T' (locs ++ L) (cells + mc) (slots + ms) ∧ (∀ q ∈ L, free q.base) ∧ T'.heap = t.heap ∧ T'.vm = t.vm ∧ Qa st₀ (.returned v) t ∧
      Goes p e below T g T' { g with pc := g.pc + 3, stack := v.toList ++ rest }) ∨
    (∃ (q : Addr) (st₀ t T' : State) (L : List Loc) (E : String) (ce : Cell), st₀.heap = H ∧ Stand p l e R s m args below meth c T' (locs ++ L) (cells + mc) (slots + ms) ∧ (∀ z ∈ L, free z.base) ∧ T'.heap = t.heap ∧ T'.vm = t.vm ∧ XC E st₀ t ∧ t.heap[q]? = some ce ∧ ce.vm = .none ∧ s.vm.findClass E = some ce.cls ∧
      Steps p.tables e below (T.setTop g) ((T'.setTop { g with stack := rest }).pushFrame (.throwing q)))
def vx_X {S : Type} (px : S → Prop) (B : String → S → State → Prop) (A : Nat → Prop) : String → State → State → Prop := fun E st t => ∃ u : S, px u ∧ B E u t ∧ va_F A st t
section Runs
variable {p : Program} {l : Launch} {e : Env} {R : Room} {s : State} {m : MethodId} {args : Array Value} {below : List Frame} {meth : Method} {c : Code} {H : Heap} {locs : List Loc} {cells slots : Nat}
variable {y : MethodName} {bytes cc : ByteArray} {maxL nL mc ms n index : Nat} {ret : Option FieldType} {ws : List Cond} {rm : Room} {Pc : Array Value → State → Prop} {Qc : Array Value → State → Outcome → State → Prop} {XC : String → State → State → Prop} {free : Addr → Prop} {Ts : List Cond} {own C : String} {b : Addr} {As rest : List Value} {g : JFrame}
theorem vx_callBack (cb : CallB R s args own index y bytes maxL ret ws rm mc ms n) (hM : vx_Met l y ws rm Pc Qc XC mc ms free) (hbl : FrameBlind Pc) : vx_Back l R p e below s args y 3 8 (PreOf R mc ms Pc) (PostOf Qc mc ms free) (vx_Post XC mc ms free) := by
  obtain ⟨hrc, hrs, hfr, hlo, hws, hcw, -, hini, -⟩ := cb
  exact vx_back (bytes := bytes) (maxL := maxL) (ret := ret) hM hbl hrc hrs hfr hlo hws hcw (fun a' U hW => word_at hW (Or.inl (by first | rfl | simp [Cond.onTables, Cond.keeps, Cond.steady])) hini)
theorem vx_runV (S : CallFix p m c cc nL s args Ts own) (hM : vx_Met l y ws rm Pc Qc XC mc ms free) (cw : CallW R s args own C index y bytes maxL ret ws rm mc ms n) (hp : PreV s H C b Pc As)
    (hg : g.method = m) (hn : As.length = n) (hsize : g.locals.size = nL) (hstack : g.stack = As.reverse ++ .ref b :: rest) (hW : 2 * g.monitorRoom + (rest.map fun v => v.category).sum ≤ 8) (hdg : decode cc g.pc = .ok (.invokevirtual index, 3)) (hf : cells + mc ≤ R.cells ∧ slots + ms ≤ R.slots) :
    vx_Run p l e R s m args below meth c H locs cells slots mc ms g rest (Qc (Value.ref b :: As).toArray) XC free := by
  have hK : vx_Back l R p e below s args y 3 8 (PreOf R mc ms Pc) (PostOf Qc mc ms free) (vx_Post XC mc ms free) := vx_callBack cw.1 hM hp.1
  obtain ⟨⟨-, -, -, -, -, -, hcode, -, hy, hlen, hl⟩, hin, hse⟩ := cw
  obtain ⟨hx, hb, hml, ho, -⟩ := S
  obtain ⟨-, ⟨cellB, hcB, hoB, hclB⟩, hPc⟩ := hp
  intro T hT X
  rcases vx_callV X hx (C := C) (bytes := bytes) (maxL := maxL) (ret := ret) ho hl hin hse hcode hy hK (by rw [hT]; exact hcB) hoB hclB hg (hsize.trans hml.symm) (argsL := As) (rest := rest) (fun sig h => hn.trans (hlen sig h)) hstack hW (by rw [hb]; exact hdg)
    (fun vm₁ hW₁ => ⟨hf.1, hf.2, hPc (T.setVm vm₁) hT hW₁⟩) with ⟨v, vm₁, ⟨U', l2, c2, s2⟩, hW₁, X', ⟨g', mk, t, L, e1, e2, hq, h1, hL, h2, h3⟩, st⟩ | ⟨q, vm₁, ⟨U', l2, c2, s2⟩, hW₁, X', ⟨g', mk, t, L, E, ce, e1, e2, hq, hce, hcv, hcl, h1, hL, h2, h3⟩, st⟩
  · dsimp only [Pt.U, Pt.locs, Pt.cells, Pt.slots] at X' e1 e2 h1 h2 h3 st
    subst h1; subst h2; subst h3
    exact Or.inl ⟨v, (T.setVm vm₁).calling g' mk (Value.ref b :: As).toArray, t, U', L, hT, X', hL, e1, e2, hq, st⟩
  · dsimp only [Pt.U, Pt.locs, Pt.cells, Pt.slots] at X' e1 e2 h1 h2 h3 st hcl
    subst h1; subst h2; subst h3
    exact Or.inr ⟨q, (T.setVm vm₁).calling g' mk (Value.ref b :: As).toArray, t, U', L, E, ce, hT, X', hL, e1, e2, hq, hce, hcv, vx_cls hW₁ hcl, st⟩
theorem vx_runS (S : CallFix p m c cc nL s args Ts own) (hM : vx_Met l y ws rm Pc Qc XC mc ms free) (cw : CallB R s args own index y bytes maxL ret ws rm mc ms n ∧ (Cond.static y).before args s = true) (hp : PreS s H Pc As)
    (hg : g.method = m) (hn : As.length = n) (hsize : g.locals.size = nL) (hstack : g.stack = As.reverse ++ rest) (hW : 2 * g.monitorRoom + (rest.map fun v => v.category).sum ≤ 8) (hdg : decode cc g.pc = .ok (.invokestatic index, 3)) (hf : cells + mc ≤ R.cells ∧ slots + ms ≤ R.slots) :
    vx_Run p l e R s m args below meth c H locs cells slots mc ms g rest (Qc As.toArray) XC free := by
  have hK : vx_Back l R p e below s args y 3 8 (PreOf R mc ms Pc) (PostOf Qc mc ms free) (vx_Post XC mc ms free) := vx_callBack cw.1 hM hp.1
  obtain ⟨⟨-, -, -, -, -, -, hcode, hini, hy, hlen, hl⟩, hstt⟩ := cw
  obtain ⟨hx, hb, hml, ho, -⟩ := S
  intro T hT X
  rcases vx_callS X hx (bytes := bytes) (maxL := maxL) (ret := ret) ho hl hstt hini hcode hy hK hg (hsize.trans hml.symm) (argsL := As) (rest := rest) (fun sig h => hn.trans (hlen sig h)) hstack hW (by rw [hb]; exact hdg)
    (fun vm₁ hW₁ => ⟨hf.1, hf.2, hp.2 (T.setVm vm₁) hT hW₁⟩) with ⟨v, vm₁, ⟨U', l2, c2, s2⟩, hW₁, X', ⟨g', mk, t, L, e1, e2, hq, h1, hL, h2, h3⟩, st⟩ | ⟨q, vm₁, ⟨U', l2, c2, s2⟩, hW₁, X', ⟨g', mk, t, L, E, ce, e1, e2, hq, hce, hcv, hcl, h1, hL, h2, h3⟩, st⟩
  · dsimp only [Pt.U, Pt.locs, Pt.cells, Pt.slots] at X' e1 e2 h1 h2 h3 st
    subst h1; subst h2; subst h3
    exact Or.inl ⟨v, (T.setVm vm₁).calling g' mk As.toArray, t, U', L, hT, X', hL, e1, e2, hq, st⟩
  · dsimp only [Pt.U, Pt.locs, Pt.cells, Pt.slots] at X' e1 e2 h1 h2 h3 st hcl
    subst h1; subst h2; subst h3
    exact Or.inr ⟨q, (T.setVm vm₁).calling g' mk As.toArray, t, U', L, E, ce, hT, X', hL, e1, e2, hq, hce, hcv, vx_cls hW₁ hcl, st⟩
end Runs
section Rows
variable {p : Program} {l : Launch} {e : Env} {R : Room} {s : State} {m : MethodId} {args : Array Value} {below : List Frame} {meth : Method} {c : Code} {H : Heap} {locs : List Loc} {cells slots : Nat} {Q : State → Prop}
variable {mc ms : Nat} {free : Addr → Prop} {A0 A1 : Nat → Prop} {H0 : Heap} {a : Array Value} {pc : Nat} {ls : Array Slot} {st0 rest : List Value}
theorem vx_keep {st₀ t T' : State} {L : List Loc} (h0 : st₀.heap = H) (e1 : T'.heap = t.heap) (hS : va_S A0 H0 H locs) (hA : ∀ q, q < H.size → A1 q → A0 q) (hf : ∀ q, free q → A0 q) (hL : ∀ q ∈ L, free q.base) (hF : va_F A1 st₀ t) :
    H.size ≤ T'.heap.size ∧ (∀ q : Nat, q < H.size → ¬ A1 q → T'.heap[q]? = H[q]?) ∧ va_S A0 H0 T'.heap (locs ++ L) := by
  obtain ⟨hz, hk⟩ := hF
  rw [h0] at hz hk
  exact ⟨by rw [e1]; exact hz, fun q h1 h2 => by rw [e1]; exact hk q h1 h2,
    ⟨Nat.le_trans hS.1 (by rw [e1]; exact hz), fun q h1 h2 => by rw [e1, hk q (Nat.lt_of_lt_of_le h1 hS.1) (fun z => h2 (hA q (Nat.lt_of_lt_of_le h1 hS.1) z))]; exact hS.2.1 q h1 h2, fun q hq => by
      rcases List.mem_append.mp hq with h | h
      · exact hS.2.2 q h
      · exact hf _ (hL q h)⟩⟩
theorem vx_calli {S SX : Type} {post : Int32 → S → Prop} {px : SX → Prop} {B : S → State → Prop} {BX : String → SX → State → Prop} {AX : Nat → Prop} (hr : vx_Run p l e R s m args below meth c H locs cells slots mc ms (F0 m pc ls st0) rest (va_Qi post B A1 a) (vx_X px BX AX) free) (hS : va_S A0 H0 H locs) (hA : ∀ q, q < H.size → A1 q → A0 q) (hf : ∀ q, free q → A0 q) (hAX : ∀ q, q < H.size → AX q → A0 q)
    (kx : ∀ (E : String) (ce : Cell) (q9 : Addr) (u : SX) (t : State) (H1 : Heap) (locs1 : List Loc), t.heap = H1 → s.vm.Alike t.vm → px u → BX E u t → H.size ≤ H1.size → (∀ q : Nat, q < H.size → ¬ AX q → H1[q]? = H[q]?) → va_S A0 H0 H1 locs1 → H1[q9]? = some ce → ce.vm = .none → s.vm.findClass E = some ce.cls → vx_W p l e R s m args below meth c H1 locs1 (cells + mc) (slots + ms) Q (F0 m pc ls rest) q9)
    (kk : ∀ (r : Int32) (u : S) (t : State) (H1 : Heap) (locs1 : List Loc), t.heap = H1 → s.vm.Alike t.vm → post r u → B u t → H.size ≤ H1.size → (∀ q : Nat, q < H.size → ¬ A1 q → H1[q]? = H[q]?) → va_S A0 H0 H1 locs1 → W p l e R s m args below meth c H1 locs1 (cells + mc) (slots + ms) Q (F0 m (pc + 3) ls (.int r :: rest))) : W p l e R s m args below meth c H locs cells slots Q (F0 m pc ls st0) := by
  intro T hT X
  rcases hr T hT X with ⟨v, st₀, t, T', L, h0, X', hL, e1, e2, ⟨⟨r, u, hv, hp, hb⟩, hF⟩, st⟩ | ⟨q, st₀, t, T', L, E, ce, h0, X', hL, e1, e2, ⟨u, hp, hb, hF⟩, hce, hcv, hcl, st⟩
  · cases hv
    obtain ⟨k1, k2, k3⟩ := vx_keep h0 e1 hS hA hf hL hF
    obtain ⟨t2, a1, b1⟩ := kk r u t T'.heap (locs ++ L) e1.symm (by rw [← e2]; exact X'.warmed.alike) hp hb k1 k2 k3 T' rfl X'
    exact ⟨t2, st t2 a1, b1⟩
  · obtain ⟨k1, k2, k3⟩ := vx_keep h0 e1 hS hAX hf hL hF
    obtain ⟨t2, a1, b1⟩ := kx E ce q u t T'.heap (locs ++ L) e1.symm (by rw [← e2]; exact X'.warmed.alike) hp hb k1 k2 k3 (by rw [e1]; exact hce) hcv hcl T' rfl X'
    exact ⟨t2, st.trans a1, b1⟩
theorem vx_calll {S SX : Type} {post : Int64 → S → Prop} {px : SX → Prop} {B : S → State → Prop} {BX : String → SX → State → Prop} {AX : Nat → Prop} (hr : vx_Run p l e R s m args below meth c H locs cells slots mc ms (F0 m pc ls st0) rest (va_Ql post B A1 a) (vx_X px BX AX) free) (hS : va_S A0 H0 H locs) (hA : ∀ q, q < H.size → A1 q → A0 q) (hf : ∀ q, free q → A0 q) (hAX : ∀ q, q < H.size → AX q → A0 q)
    (kx : ∀ (E : String) (ce : Cell) (q9 : Addr) (u : SX) (t : State) (H1 : Heap) (locs1 : List Loc), t.heap = H1 → s.vm.Alike t.vm → px u → BX E u t → H.size ≤ H1.size → (∀ q : Nat, q < H.size → ¬ AX q → H1[q]? = H[q]?) → va_S A0 H0 H1 locs1 → H1[q9]? = some ce → ce.vm = .none → s.vm.findClass E = some ce.cls → vx_W p l e R s m args below meth c H1 locs1 (cells + mc) (slots + ms) Q (F0 m pc ls rest) q9)
    (kk : ∀ (r : Int64) (u : S) (t : State) (H1 : Heap) (locs1 : List Loc), t.heap = H1 → s.vm.Alike t.vm → post r u → B u t → H.size ≤ H1.size → (∀ q : Nat, q < H.size → ¬ A1 q → H1[q]? = H[q]?) → va_S A0 H0 H1 locs1 → W p l e R s m args below meth c H1 locs1 (cells + mc) (slots + ms) Q (F0 m (pc + 3) ls (.long r :: rest))) : W p l e R s m args below meth c H locs cells slots Q (F0 m pc ls st0) := by
  intro T hT X
  rcases hr T hT X with ⟨v, st₀, t, T', L, h0, X', hL, e1, e2, ⟨⟨r, u, hv, hp, hb⟩, hF⟩, st⟩ | ⟨q, st₀, t, T', L, E, ce, h0, X', hL, e1, e2, ⟨u, hp, hb, hF⟩, hce, hcv, hcl, st⟩
  · cases hv
    obtain ⟨k1, k2, k3⟩ := vx_keep h0 e1 hS hA hf hL hF
    obtain ⟨t2, a1, b1⟩ := kk r u t T'.heap (locs ++ L) e1.symm (by rw [← e2]; exact X'.warmed.alike) hp hb k1 k2 k3 T' rfl X'
    exact ⟨t2, st t2 a1, b1⟩
  · obtain ⟨k1, k2, k3⟩ := vx_keep h0 e1 hS hAX hf hL hF
    obtain ⟨t2, a1, b1⟩ := kx E ce q u t T'.heap (locs ++ L) e1.symm (by rw [← e2]; exact X'.warmed.alike) hp hb k1 k2 k3 (by rw [e1]; exact hce) hcv hcl T' rfl X'
    exact ⟨t2, st.trans a1, b1⟩
theorem vx_callf {S SX : Type} {post : UInt32 → S → Prop} {px : SX → Prop} {B : S → State → Prop} {BX : String → SX → State → Prop} {AX : Nat → Prop} (hr : vx_Run p l e R s m args below meth c H locs cells slots mc ms (F0 m pc ls st0) rest (va_Qf post B A1 a) (vx_X px BX AX) free) (hS : va_S A0 H0 H locs) (hA : ∀ q, q < H.size → A1 q → A0 q) (hf : ∀ q, free q → A0 q) (hAX : ∀ q, q < H.size → AX q → A0 q)
    (kx : ∀ (E : String) (ce : Cell) (q9 : Addr) (u : SX) (t : State) (H1 : Heap) (locs1 : List Loc), t.heap = H1 → s.vm.Alike t.vm → px u → BX E u t → H.size ≤ H1.size → (∀ q : Nat, q < H.size → ¬ AX q → H1[q]? = H[q]?) → va_S A0 H0 H1 locs1 → H1[q9]? = some ce → ce.vm = .none → s.vm.findClass E = some ce.cls → vx_W p l e R s m args below meth c H1 locs1 (cells + mc) (slots + ms) Q (F0 m pc ls rest) q9)
    (kk : ∀ (r : UInt32) (u : S) (t : State) (H1 : Heap) (locs1 : List Loc), t.heap = H1 → s.vm.Alike t.vm → post r u → B u t → H.size ≤ H1.size → (∀ q : Nat, q < H.size → ¬ A1 q → H1[q]? = H[q]?) → va_S A0 H0 H1 locs1 → W p l e R s m args below meth c H1 locs1 (cells + mc) (slots + ms) Q (F0 m (pc + 3) ls (.float r :: rest))) : W p l e R s m args below meth c H locs cells slots Q (F0 m pc ls st0) := by
  intro T hT X
  rcases hr T hT X with ⟨v, st₀, t, T', L, h0, X', hL, e1, e2, ⟨⟨r, u, hv, hp, hb⟩, hF⟩, st⟩ | ⟨q, st₀, t, T', L, E, ce, h0, X', hL, e1, e2, ⟨u, hp, hb, hF⟩, hce, hcv, hcl, st⟩
  · cases hv
    obtain ⟨k1, k2, k3⟩ := vx_keep h0 e1 hS hA hf hL hF
    obtain ⟨t2, a1, b1⟩ := kk r u t T'.heap (locs ++ L) e1.symm (by rw [← e2]; exact X'.warmed.alike) hp hb k1 k2 k3 T' rfl X'
    exact ⟨t2, st t2 a1, b1⟩
  · obtain ⟨k1, k2, k3⟩ := vx_keep h0 e1 hS hAX hf hL hF
    obtain ⟨t2, a1, b1⟩ := kx E ce q u t T'.heap (locs ++ L) e1.symm (by rw [← e2]; exact X'.warmed.alike) hp hb k1 k2 k3 (by rw [e1]; exact hce) hcv hcl T' rfl X'
    exact ⟨t2, st.trans a1, b1⟩
theorem vx_calld {S SX : Type} {post : UInt64 → S → Prop} {px : SX → Prop} {B : S → State → Prop} {BX : String → SX → State → Prop} {AX : Nat → Prop} (hr : vx_Run p l e R s m args below meth c H locs cells slots mc ms (F0 m pc ls st0) rest (va_Qd post B A1 a) (vx_X px BX AX) free) (hS : va_S A0 H0 H locs) (hA : ∀ q, q < H.size → A1 q → A0 q) (hf : ∀ q, free q → A0 q) (hAX : ∀ q, q < H.size → AX q → A0 q)
    (kx : ∀ (E : String) (ce : Cell) (q9 : Addr) (u : SX) (t : State) (H1 : Heap) (locs1 : List Loc), t.heap = H1 → s.vm.Alike t.vm → px u → BX E u t → H.size ≤ H1.size → (∀ q : Nat, q < H.size → ¬ AX q → H1[q]? = H[q]?) → va_S A0 H0 H1 locs1 → H1[q9]? = some ce → ce.vm = .none → s.vm.findClass E = some ce.cls → vx_W p l e R s m args below meth c H1 locs1 (cells + mc) (slots + ms) Q (F0 m pc ls rest) q9)
    (kk : ∀ (r : UInt64) (u : S) (t : State) (H1 : Heap) (locs1 : List Loc), t.heap = H1 → s.vm.Alike t.vm → post r u → B u t → H.size ≤ H1.size → (∀ q : Nat, q < H.size → ¬ A1 q → H1[q]? = H[q]?) → va_S A0 H0 H1 locs1 → W p l e R s m args below meth c H1 locs1 (cells + mc) (slots + ms) Q (F0 m (pc + 3) ls (.double r :: rest))) : W p l e R s m args below meth c H locs cells slots Q (F0 m pc ls st0) := by
  intro T hT X
  rcases hr T hT X with ⟨v, st₀, t, T', L, h0, X', hL, e1, e2, ⟨⟨r, u, hv, hp, hb⟩, hF⟩, st⟩ | ⟨q, st₀, t, T', L, E, ce, h0, X', hL, e1, e2, ⟨u, hp, hb, hF⟩, hce, hcv, hcl, st⟩
  · cases hv
    obtain ⟨k1, k2, k3⟩ := vx_keep h0 e1 hS hA hf hL hF
    obtain ⟨t2, a1, b1⟩ := kk r u t T'.heap (locs ++ L) e1.symm (by rw [← e2]; exact X'.warmed.alike) hp hb k1 k2 k3 T' rfl X'
    exact ⟨t2, st t2 a1, b1⟩
  · obtain ⟨k1, k2, k3⟩ := vx_keep h0 e1 hS hAX hf hL hF
    obtain ⟨t2, a1, b1⟩ := kx E ce q u t T'.heap (locs ++ L) e1.symm (by rw [← e2]; exact X'.warmed.alike) hp hb k1 k2 k3 (by rw [e1]; exact hce) hcv hcl T' rfl X'
    exact ⟨t2, st.trans a1, b1⟩
theorem vx_callv {S SX : Type} {post : S → Prop} {px : SX → Prop} {B : S → State → Prop} {BX : String → SX → State → Prop} {AX : Nat → Prop} (hr : vx_Run p l e R s m args below meth c H locs cells slots mc ms (F0 m pc ls st0) rest (va_Qv post B A1 a) (vx_X px BX AX) free) (hS : va_S A0 H0 H locs) (hA : ∀ q, q < H.size → A1 q → A0 q) (hf : ∀ q, free q → A0 q) (hAX : ∀ q, q < H.size → AX q → A0 q)
    (kx : ∀ (E : String) (ce : Cell) (q9 : Addr) (u : SX) (t : State) (H1 : Heap) (locs1 : List Loc), t.heap = H1 → s.vm.Alike t.vm → px u → BX E u t → H.size ≤ H1.size → (∀ q : Nat, q < H.size → ¬ AX q → H1[q]? = H[q]?) → va_S A0 H0 H1 locs1 → H1[q9]? = some ce → ce.vm = .none → s.vm.findClass E = some ce.cls → vx_W p l e R s m args below meth c H1 locs1 (cells + mc) (slots + ms) Q (F0 m pc ls rest) q9)
    (kk : ∀ (u : S) (t : State) (H1 : Heap) (locs1 : List Loc), t.heap = H1 → s.vm.Alike t.vm → post u → B u t → H.size ≤ H1.size → (∀ q : Nat, q < H.size → ¬ A1 q → H1[q]? = H[q]?) → va_S A0 H0 H1 locs1 → W p l e R s m args below meth c H1 locs1 (cells + mc) (slots + ms) Q (F0 m (pc + 3) ls (rest))) : W p l e R s m args below meth c H locs cells slots Q (F0 m pc ls st0) := by
  intro T hT X
  rcases hr T hT X with ⟨v, st₀, t, T', L, h0, X', hL, e1, e2, ⟨⟨u, hv, hp, hb⟩, hF⟩, st⟩ | ⟨q, st₀, t, T', L, E, ce, h0, X', hL, e1, e2, ⟨u, hp, hb, hF⟩, hce, hcv, hcl, st⟩
  · cases hv
    obtain ⟨k1, k2, k3⟩ := vx_keep h0 e1 hS hA hf hL hF
    obtain ⟨t2, a1, b1⟩ := kk u t T'.heap (locs ++ L) e1.symm (by rw [← e2]; exact X'.warmed.alike) hp hb k1 k2 k3 T' rfl X'
    exact ⟨t2, st t2 a1, b1⟩
  · obtain ⟨k1, k2, k3⟩ := vx_keep h0 e1 hS hAX hf hL hF
    obtain ⟨t2, a1, b1⟩ := kx E ce q u t T'.heap (locs ++ L) e1.symm (by rw [← e2]; exact X'.warmed.alike) hp hb k1 k2 k3 (by rw [e1]; exact hce) hcv hcl T' rfl X'
    exact ⟨t2, st.trans a1, b1⟩
/-- caught by the row x of this method's table; the rows ahead don't take it -/
theorem vx_catch {own name : String} {E : String} {ce : Cell} {q : Addr} (hown : s.vm.findClass own = some m.cls) (pre : List ExceptionTableEntry) (x : ExceptionTableEntry) (suf : List ExceptionTableEntry) (hsplit : c.exceptionTable.toList = pre ++ x :: suf)
    (hpass : ∀ z ∈ pre, covers z pc = false ∨ (z.catchType ≠ 0 ∧ ∃ nm : String, (Cond.classLink own z.catchType nm).before args s = true ∧ va_Nc E nm s)) (hx : covers x pc = true) (h0 : x.catchType ≠ 0)
    (hlink : (Cond.classLink own x.catchType name).before args s = true) (hcast : (Cond.castable E name).before args s = true) (hcell : H[q]? = some ce) (hv : ce.vm = .none) (hcl : s.vm.findClass E = some ce.cls)
    (kk : W p l e R s m args below meth c H locs cells slots Q (F0 m x.handlerPc ls [.ref q])) : vx_W p l e R s m args below meth c H locs cells slots Q (F0 m pc ls rest) q := by
  intro T hT X
  have hpl : e.platform.magicAccessors = ({} : Platform).magicAccessors := by rw [X.admits.platform]
  obtain ⟨c3, c4, hc3, hc4, hasg⟩ := Cond.castable_spec hcast
  cases Option.some.inj (hc3.symm.trans hcl)
  obtain ⟨c5, hc5, hcl5⟩ := Cond.classLink_spec hown hlink e.platform hpl
  cases Option.some.inj (hc4.symm.trans hc5)
  obtain ⟨vm', X', st⟩ := X.thenCaughtThrough q (g := F0 m pc ls rest) rfl (Steps.refl _) (by rw [hT]; exact hcell) (by rw [hv]; rfl) (by obtain ⟨k9, h9, -⟩ := Vm.findClass_spec hcl; exact ⟨k9, h9⟩) pre x suf hsplit
    (fun z hz => by
      rcases hpass z hz with h | ⟨hz0, nm, hl1, hn1⟩
      · exact Or.inl h
      · obtain ⟨c6, hc6, hcl6⟩ := Cond.classLink_spec hown hl1 e.platform hpl
        obtain ⟨a8, b8, h1, h2, h3⟩ := hn1
        cases Option.some.inj (h1.symm.trans hcl)
        cases Option.some.inj (h2.symm.trans hc6)
        exact Or.inr ⟨hz0, _, hcl6, h3⟩) hx (Or.inr ⟨h0, c4, hcl5, hasg⟩)
  obtain ⟨t, a1, b1⟩ := kk (T.setVm vm') hT X'
  exact ⟨t, st.trans a1, b1⟩
end Rows
section Ends
variable {p : Program} {l : Launch} {e : Env} {R : Room} {s : State} {m : MethodId} {args : Array Value} {below : List Frame} {meth : Method} {c : Code} {H : Heap} {locs : List Loc} {cells slots : Nat} {Q : State → Prop}
variable {mc ms : Nat} {free : Addr → Prop} {A0 A1 : Nat → Prop} {H0 : Heap} {a : Array Value} {ls : Array Slot} {st0 rest : List Value}
variable {Qc : Array Value → State → Outcome → State → Prop} {XC : String → State → State → Prop}
/-- what a body that may throw owes at its end -/
def vx_MQ (below : List Frame) (Qc : Array Value → State → Outcome → State → Prop) (XC : String → State → State → Prop) (a : Array Value) (s : State) (mc ms : Nat) (free : Addr → Prop) : State → Prop := fun t =>
  ∃ o, t.status = .running ∧ Ended t below o ∧ vx_Q Qc XC mc ms free a s o t
theorem vx_ret {g : JFrame} {mc ms : Nat} (k : W p l e R s m args below meth c H locs cells slots (MQ below Qc args s mc ms free) g) : W p l e R s m args below meth c H locs cells slots (vx_MQ below Qc XC args s mc ms free) g := by
  intro T hT X
  obtain ⟨t, a1, o, b1, b2, b3, b4⟩ := k T hT X
  exact ⟨t, a1, o, b1, b2, Or.inl ⟨b3, b4⟩⟩
/-- not caught here: it goes on to the caller -/
theorem vx_widen {g : JFrame} {q : Addr} {k n : Nat} (h1 : cells ≤ k) (h2 : slots ≤ n) (kk : vx_W p l e R s m args below meth c H locs k n Q g q) : vx_W p l e R s m args below meth c H locs cells slots Q g q := fun T hT X => kk T hT (stand_widen X h1 h2)
theorem vx_out {pc : Nat} {E : String} {ce : Cell} {q : Addr} {mc ms : Nat} (hout : ∀ x ∈ c.exceptionTable.toList, covers x pc = false) (hlocks : meth.locks = false) (hcell : H[q]? = some ce) (hv : ce.vm = .none) (hcl : s.vm.findClass E = some ce.cls)
    (hx : ∀ t : State, t.heap = H → s.vm.Alike t.vm → XC E s t) (hf : ∀ z ∈ locs, free z.base) (hc : cells ≤ mc) (hs : slots ≤ ms) :
    vx_W p l e R s m args below meth c H locs cells slots (vx_MQ below Qc XC args s mc ms free) (F0 m pc ls rest) q := by
  intro T hT X
  obtain ⟨st1, hrun, hend, hW, hsm⟩ := X.leaveThrown q (g := F0 m pc ls rest) rfl rfl rfl hout hlocks
  have hcell9 : (T.setFrames (.throwing q :: below)).heap[q]? = some ce := by
    show T.heap[q]? = some ce
    rw [hT]; exact hcell
  exact ⟨_, st1, .threw q, hrun, hend, Or.inr ⟨q, rfl, E, ce, locs, hx _ hT hW.alike, hcell9, hv, hcl, hW, hsm.mono hc hs, hf⟩⟩
theorem vx_frame {U : State} {k n : Nat} (h : s.sameButNew ({ U with vm := s.vm } : State) locs k n) : s.heap.size ≤ U.heap.size ∧ ∀ q : Nat, q < s.heap.size → (∀ z ∈ locs, z.base ≠ q) → U.heap[q]? = s.heap[q]? := by
  obtain ⟨-, h2, -, -, -, h6⟩ := h
  refine ⟨h2, fun q hq hz => ?_⟩
  obtain ⟨c9, e1, e2, e3, e4⟩ := h6 q _ (Array.getElem?_eq_getElem hq)
  have hs : c9.slots = (s.heap[q]).slots := Array.ext_getElem? fun i => e4 i fun hm => hz _ hm rfl
  have h9 : c9 = s.heap[q] := by
    rw [hs] at e2
    exact e2
  have e5 : U.heap[q]? = some c9 := e1
  rw [e5, h9, Array.getElem?_eq_getElem hq]
/-- the words of a throw but the four that speak of the heap -/
def vx_no (w : Cond) : Bool := decide (w ≠ .isRef (.static Bundle.tN "UNASSIGNED_STACK" Bundle.steD)) && decide (w ≠ .isRef (.static Bundle.tN "SUPPRESSED_SENTINEL" Bundle.listD)) && decide (w ≠ .laysStatic Bundle.tN "UNASSIGNED_STACK" Bundle.steD) && decide (w ≠ .laysStatic Bundle.tN "SUPPRESSED_SENTINEL" Bundle.listD)
def vx_at0 (own : String) (ic : Nat) (X : String) (names : List String) : List Cond := (Bundle.ownAtoms0 own ic X names).filter vx_no
def vx_atS (own : String) (ic : Nat) (X : String) (names : List String) : List Cond := (Bundle.ownAtoms own ic X names).filter vx_no
/-- a word that the tables alone decide, or a good one -/
def vx_ot (w : Cond) : Bool := w.onTables || goodWord w
theorem vx_ot_at {args a' : Array Value} {s U : State} {w : Cond} (hW : s.WarmedH U.vm) (hvm : s.vm = U.vm) (hg : vx_ot w = true) (h : w.before args s = true) : w.before a' U = true := by
  simp only [vx_ot, Bool.or_eq_true] at hg
  rcases hg with hg | hg
  · exact va_tabs hg hvm h
  · exact word_at hW (good_of_word hg) h
/-- a list's words: the good ones out of the method's own list, the others by premises of their own -/
theorem vx_hat {args : Array Value} {s : State} {L B : List Cond} (h1 : ∀ w ∈ L.filter goodWord, w.before args s = true) (h2 : ∀ w ∈ L.filter (fun w => !goodWord w), w ∈ B) (h3 : ∀ w ∈ B, w.before args s = true) : ∀ w ∈ L, w.before args s = true := by
  intro w hw
  by_cases g : goodWord w = true
  · exact h1 w (List.mem_filter.mpr ⟨hw, g⟩)
  · refine h3 w (h2 w (List.mem_filter.mpr ⟨hw, ?_⟩))
    show (!goodWord w) = true
    cases hgw : goodWord w
    · rfl
    · exact absurd hgw g
theorem vx_c {args : Array Value} {s : State} {w : Cond} {B : List Cond} (h : w.before args s = true) (t : ∀ w ∈ B, w.before args s = true) : ∀ w' ∈ w :: B, w'.before args s = true := fun w' h' => (List.mem_cons.mp h').elim (fun e => by rw [e]; exact h) (t w')
theorem vx_n {args : Array Value} {s : State} : ∀ w ∈ ([] : List Cond), w.before args s = true := fun _ h => nomatch h
theorem vx_own {args : Array Value} {s : State} {L : List Cond} (h1 : ∀ w ∈ L.filter vx_no, w.before args s = true)
    (hU : (Cond.isRef (.static Bundle.tN "UNASSIGNED_STACK" Bundle.steD)).before args s = true) (hN : (Cond.isRef (.static Bundle.tN "SUPPRESSED_SENTINEL" Bundle.listD)).before args s = true)
    (lU : (Cond.laysStatic Bundle.tN "UNASSIGNED_STACK" Bundle.steD).before args s = true) (lN : (Cond.laysStatic Bundle.tN "SUPPRESSED_SENTINEL" Bundle.listD).before args s = true) : ∀ w ∈ L, w.before args s = true := by
  intro w hw
  by_cases e1 : w = .isRef (.static Bundle.tN "UNASSIGNED_STACK" Bundle.steD)
  · rw [e1]; exact hU
  · by_cases e2 : w = .isRef (.static Bundle.tN "SUPPRESSED_SENTINEL" Bundle.listD)
    · rw [e2]; exact hN
    · by_cases e3 : w = .laysStatic Bundle.tN "UNASSIGNED_STACK" Bundle.steD
      · rw [e3]; exact lU
      · by_cases e4 : w = .laysStatic Bundle.tN "SUPPRESSED_SENTINEL" Bundle.listD
        · rw [e4]; exact lN
        · exact h1 w (List.mem_filter.mpr ⟨hw, by unfold vx_no; rw [decide_eq_true e1, decide_eq_true e2, decide_eq_true e3, decide_eq_true e4]; rfl⟩)
/-- where a static field lies, its class's statics cell in H -/
def vx_L (C n d : String) (A : Nat → Prop) (U : State) (H : Heap) : Prop := ∃ (c : ClassId) (k : Class) (i : Nat) (f : Field) (a : Nat) (cell : Cell), U.vm.findClass C = some c ∧ U.fieldFound? C n d = some (c, k, i, f) ∧ f.isStatic = true ∧ k.statics = some a ∧ H[a]? = some cell ∧ cell.vm.isStatics = true ∧ cell.cls = c ∧ f.slot < cell.slots.size ∧ k.staticTypes[f.slot]? = some f.type ∧ ¬ A a
theorem vx_L.moved {C n d : String} {A : Nat → Prop} {u U : State} {H : Heap} (hvm : u.vm.Alike U.vm) (h : vx_L C n d A u H) : vx_L C n d A U H := by
  obtain ⟨c, k, i, f, a, cell, h1, h2, h3, h4, h5, h6, h7, h8, h9, h10⟩ := h
  obtain ⟨k', hi', he⟩ := State.fieldFound?_setVm hvm h2
  exact ⟨c, k', i, f, a, cell, by rw [hvm.findClass]; exact h1, hi', h3, by rw [he]; exact h4, h5, h6, h7, h8, by rw [he]; exact h9, h10⟩
theorem vx_L.kept {C n d : String} {A : Nat → Prop} {U : State} {H H1 : Heap} (h : vx_L C n d A U H) (hq : ∀ a : Nat, a < H.size → ¬ A a → H1[a]? = H[a]?) : vx_L C n d A U H1 := by
  obtain ⟨c, k, i, f, a, cell, h1, h2, h3, h4, h5, h6, h7, h8, h9, h10⟩ := h
  exact ⟨c, k, i, f, a, cell, h1, h2, h3, h4, by rw [hq a (Array.getElem?_eq_some_iff.mp h5).1 h10]; exact h5, h6, h7, h8, h9, h10⟩
theorem vx_L.narrow {C n d : String} {A B : Nat → Prop} {U : State} {H : Heap} (h : vx_L C n d A U H) (hAB : ∀ q, B q → A q) : vx_L C n d B U H := by
  obtain ⟨c, k, i, f, a, cell, h1, h2, h3, h4, h5, h6, h7, h8, h9, h10⟩ := h
  exact ⟨c, k, i, f, a, cell, h1, h2, h3, h4, h5, h6, h7, h8, h9, fun z => h10 (hAB _ z)⟩
theorem vx_L.word {C n d : String} {A : Nat → Prop} {s : State} {args : Array Value} (h : vx_L C n d A s s.heap) : (Cond.laysStatic C n d).before args s = true := by
  obtain ⟨c, k, i, f, a, cell, h1, h2, h3, h4, h5, h6, h7, h8, h9, -⟩ := h
  show (Cond.laysStatic C n d).holds args s none s [] = true
  exact Cond.laysStatic_of h1 h2 h3 h4 h5 h6 h7 h8 h9
/-- .. and what it holds: null or some reference -/
def vx_Zq (C n d : String) (A : Nat → Prop) (U : State) (H : Heap) : Prop := va_Zq C n d A U H ∧ vx_L C n d A U H
theorem vx_Zq.moved {C n d : String} {A : Nat → Prop} {u U : State} {H : Heap} (hvm : u.vm.Alike U.vm) (h : vx_Zq C n d A u H) : vx_Zq C n d A U H := ⟨va_Zq.moved hvm h.1, vx_L.moved hvm h.2⟩
theorem vx_Zq.kept {C n d : String} {A : Nat → Prop} {U : State} {H H1 : Heap} (h : vx_Zq C n d A U H) (hq : ∀ a : Nat, a < H.size → ¬ A a → H1[a]? = H[a]?) : vx_Zq C n d A U H1 := ⟨va_Zq.kept h.1 hq, vx_L.kept h.2 hq⟩
theorem vx_Zq.narrow {C n d : String} {A B : Nat → Prop} {U : State} {H : Heap} (h : vx_Zq C n d A U H) (hAB : ∀ q, B q → A q) : vx_Zq C n d B U H := ⟨va_Zq.narrow h.1 hAB, vx_L.narrow h.2 hAB⟩
theorem vx_Zqof {args : Array Value} {s : State} {C n d : String} {A : Nat → Prop} (hl : (Cond.laysStatic C n d).before args s = true) (hini : (Cond.initialized C).before args s = true) (h : (Cond.isRef (.static C n d)).before args s = true) (hA : ∀ a : Nat, a < s.heap.size → ¬ A a) : vx_Zq C n d A s s.heap := by
  refine ⟨va_Zqof hl hini h hA, ?_⟩
  obtain ⟨c, k, i, f, a, cell, h1, h2, h3, h4, h5, h6, h7, h8, h9⟩ := Cond.laysStatic_spec hl
  exact ⟨c, k, i, f, a, cell, h1, h2, h3, h4, h5, h6, h7, h8, h9, hA a (Array.getElem?_eq_some_iff.mp h5).1⟩
theorem vx_isRef {C n d : String} {v : Value} {A : Nat → Prop} {s : State} {args : Array Value} (h : va_Z C n d v A s s.heap) (hv : v.isRef = true) : (Cond.isRef (.static C n d)).before args s = true := by
  obtain ⟨cf, kf, fi, f, a, cell, h1, h2, h3, h4, h5, h6, h7, -⟩ := h
  have he : (Term.static C n d).eval args s none [] s = some v := by
    simp [Term.eval, State.fieldNamed?, h1, h2, h4, h5, h6, h7]
  simp only [Cond.before, Cond.holds, Cond.value, he]
  cases v <;> simp_all [Value.isRef]
theorem vx_isRefq {C n d : String} {A : Nat → Prop} {s : State} {args : Array Value} (h : va_Zq C n d A s s.heap) : (Cond.isRef (.static C n d)).before args s = true := by
  rcases h with h | ⟨t, h⟩
  · exact vx_isRef h rfl
  · exact vx_isRef h rfl
/-- the same frame, seen from here: as if the method were called anew in this heap -/
theorem vx_rebase {T : State} (X : Stand p l e R s m args below meth c T locs cells slots) {R' : Room} (hf : R'.frames ≤ R.frames) (hl : R'.locals ≤ R.locals) (hc : cells + R'.cells ≤ R.cells) (hs : slots + R'.slots ≤ R.slots) :
    Stand p l e R' ((T.setVm s.vm).setFrames (.invoking m args :: below)) m args below meth c T [] 0 0 := by
  have htop : (T.setVm s.vm).topJava?.isSome := X.here.top
  have hF : ((T.setVm s.vm).setFrames (.invoking m args :: below)).frames = .invoking m args :: below := State.frames_setFrames _ (State.cur_lt_of_top htop)
  obtain ⟨g₀, hg0⟩ := Option.isSome_iff_exists.mp htop
  obtain ⟨r, hr⟩ := State.topJava?_eq_some.mp hg0
  have hl9 : e.platform.stackLimits (T.setVm s.vm).me = e.platform.stackLimits s.me := X.limits
  have hb9 : (T.setVm s.vm).me.stackBytes = s.me.stackBytes := X.bytes
  refine ⟨X.admits, X.cas, X.clock, hF, ?_, X.hears, X.method, X.code, X.here, X.tail, X.warmed, ?_, ?_, ?_⟩
  · have h := X.room
    have hU : ((T.setVm s.vm).setFrames (.invoking m args :: below)).localsInUse = s.localsInUse := by
      rw [State.localsInUse_invoking hF (meth := meth) (c := c) X.method X.code, State.localsInUse_invoking X.frames X.method X.code]
    simp only [State.hasRoom, Bool.and_eq_true, decide_eq_true_eq] at h ⊢
    obtain ⟨⟨⟨⟨h1, h2, h3, h4, h5, h6⟩, h7⟩, h8⟩, h9⟩ := h
    rw [X.frames, List.length_cons] at h2 h3
    have q1 := X.heapSize
    have q2 := X.used
    simp only [hF, hU, List.length_cons, State.stackLimits_setFrames, State.stackBytes_setFrames, hl9, hb9]
    refine ⟨⟨⟨⟨by omega, by omega, by omega, by omega, by omega, h6⟩, ?_⟩, ?_⟩, X.book⟩
    · show T.heap.size + R'.cells ≤ e.platform.maxCells
      omega
    · show T.slotsUsed + R'.slots ≤ e.platform.maxSlots
      omega
  · rw [State.stackLimits_setFrames]; rfl
  · rw [State.stackBytes_setFrames]; rfl
  · refine ⟨?_, Nat.le_refl _, Nat.le_refl _, ?_, ?_, fun a c9 h9 => ⟨c9, h9, rfl, rfl, fun _ _ => rfl⟩⟩
    · obtain ⟨t, ht, -⟩ := State.frames_cons hr
      show T.setVm s.vm = { ((T.setVm s.vm).setFrames (.invoking m args :: below)).setFrames (T.setVm s.vm).frames with heap := T.heap, slotsUsed := T.slotsUsed }
      rw [State.setFrames_setFrames, State.setFrames_self ht]
      rfl
    · show T.slotsUsed = T.slotsUsed + ((T.heap.toList.drop T.heap.size).map (·.slots.size)).sum
      rw [List.drop_eq_nil_of_le (Nat.le_of_eq Array.length_toList)]
      rfl
    · show ((T.heap.toList.drop T.heap.size).map (·.slots.size)).sum ≤ 0
      rw [List.drop_eq_nil_of_le (Nat.le_of_eq Array.length_toList)]
      exact Nat.le_refl _
/-- 'throw new E()': new; dup; invokespecial; athrow -/
theorem vx_throw0 {cc : ByteArray} {pc : Nat} (hexec : p.tables.exec = Jvm.exec) (hb : c.code = cc) (hl : l.stackTraces = false) {own cls : String} {names : List String} {ik ic mc ms : Nat} {A : Nat → Prop}
    (hown : s.vm.findClass own = some m.cls) (hcls : Bundle.fit cls = true) (hnames : ∀ n ∈ names, Bundle.fit n = true)
    (hk : (Cond.classLink own ik cls).before args s = true) (hini : (Cond.initialized cls).before args s = true) (hat : ∀ w ∈ vx_at0 own ic cls names, w.before args s = true)
    (hgood : ∀ w ∈ Cond.classLink own ik cls :: Cond.initialized cls :: vx_at0 own ic cls names, vx_ot w = true)
    (hU : vx_Zq Bundle.tN "UNASSIGNED_STACK" Bundle.steD A s s.heap) (hN : vx_Zq Bundle.tN "SUPPRESSED_SENTINEL" Bundle.listD A s s.heap) (hS : va_S A s.heap H locs) (hsize : ls.size = c.maxLocals)
    (d0 : decode cc pc = .ok (.new ik, 3)) (d3 : decode cc (pc + 3) = .ok (.dup, 1)) (d4 : decode cc (pc + 4) = .ok (.invokespecial ic, 3)) (d7 : decode cc (pc + 7) = .ok (.athrow, 1))
    (hout : ∀ x ∈ c.exceptionTable.toList, covers x (pc + 7) = false)
    (hRframes : names.length + 3 < R.frames) (hRlocals : (rest.map fun v => v.category).sum + (13 * (names.length + 1) + 42) ≤ R.locals) (hRcells : cells + 1 ≤ R.cells) (hRslots : slots + 6 ≤ R.slots) (hlocks : meth.locks = false)
    (hx : ∀ t : State, s.vm.Alike t.vm → H.size ≤ t.heap.size → (∀ q : Nat, q < H.size → t.heap[q]? = H[q]?) → XC cls s t)
    (hf : ∀ z ∈ locs, free z.base) (hc : cells + 1 ≤ mc) (hs : slots + 6 ≤ ms) :
    W p l e R s m args below meth c H locs cells slots (vx_MQ below Qc XC args s mc ms free) (F0 m pc ls rest) := by
  intro T hT X
  have htr : e.platform.stackTraces = false := (show e.platform.stackTraces = l.stackTraces by rw [X.admits.platform]).trans hl
  have Y := vx_rebase X (R' := { frames := R.frames, locals := R.locals, cells := 1, slots := 6 }) (Nat.le_refl _) (Nat.le_refl _) hRcells hRslots
  obtain ⟨s', hA⟩ : ∃ z, z = (T.setVm s.vm).setFrames (.invoking m args :: below) := ⟨_, rfl⟩
  rw [← hA] at Y
  have hvm : s'.vm = s.vm := by rw [hA]; rfl
  have hhp : s'.heap = H := by rw [hA]; exact hT
  have hW0 : s.WarmedH s'.vm := by rw [hvm]; exact State.WarmedH.refl s
  have hat' : ∀ w ∈ vx_at0 own ic cls names, w.before args s' = true := fun w hw => vx_ot_at hW0 hvm.symm (hgood w (List.mem_cons_of_mem _ (List.mem_cons_of_mem _ hw))) (hat w hw)
  have hk' : (Cond.classLink own ik cls).before args s' = true := vx_ot_at hW0 hvm.symm (hgood _ List.mem_cons_self) hk
  have hini' : (Cond.initialized cls).before args s' = true := vx_ot_at hW0 hvm.symm (hgood _ (List.mem_cons_of_mem _ List.mem_cons_self)) hini
  have hU' : vx_Zq Bundle.tN "UNASSIGNED_STACK" Bundle.steD A s' s'.heap := by rw [hhp]; exact vx_Zq.moved hW0.alike (hU.kept hS.2.1)
  have hN' : vx_Zq Bundle.tN "SUPPRESSED_SENTINEL" Bundle.listD A s' s'.heap := by rw [hhp]; exact vx_Zq.moved hW0.alike (hN.kept hS.2.1)
  have h : ∀ w ∈ Bundle.ownAtoms0 own ic cls names, w.before args s' = true := vx_own hat' (vx_isRefq hU'.1) (vx_isRefq hN'.1) hU'.2.word hN'.2.word
  have hown' : s'.vm.findClass own = some m.cls := by rw [hvm]; exact hown
  have hins : (Cond.instantiable cls 6).before args s' = true := h _ (by simp [Bundle.ownAtoms0])
  obtain ⟨vm₁, cX, kX, hfX, hkX, -, -, X₁, st1⟩ := Y.newCold hexec (own := own) (C := cls) (index := ik) (n := 6) hown' hk' hins hini'
    (g := F0 m pc ls rest) rfl (by rw [hb]; exact d0) (Nat.le_refl _) (Nat.le_refl _)
  generalize hT1 : (T.setVm vm₁).pushCell { cls := cX, slots := kX.instanceTypes.map defaultValue, vm := .none } = T1 at X₁ st1
  have hcat : (Value.ref T.heap.size).category = 1 := rfl
  have hcellA : T1.heap[T.heap.size]? = some (freshCell cX kX) := by rw [← hT1]; exact State.heap_pushCell_size _ _
  have d3' : decode c.code (pc + 3) = .ok (.dup, 1) := by rw [hb]; exact d3
  obtain ⟨U, hsteps, hrun, hend, hW, hsame, ce, hce, hO⟩ := X₁.ctorThrow0 hexec htr (own := own) (cls := cls) (names := names) (ic := ic) hown' hcls hnames h (fun x hx => nomatch hx) hfX hkX hcellA (by rw [hhp, hT]; exact Nat.le_refl _)
    (g := { method := m, pc := pc + 4, locals := ls, stack := .ref T.heap.size :: .ref T.heap.size :: rest, locked := none }) rfl hsize rfl rfl (rest := rest) rfl
    (by rw [hb]; exact d4) (by rw [hb]; exact d7) hout hRframes (by simp only [List.map_cons, List.sum_cons, hcat]; omega) hlocks
  obtain ⟨f1, f2⟩ := vx_frame hsame
  rw [hhp] at f1 f2
  have hWs : s.WarmedH U.vm := State.WarmedH.trans hW0 hW
  have hcl : s.vm.findClass cls = some ce.cls := by
    have h9 := hO.cls
    rw [hvm] at h9
    exact h9
  have hall : s.sameButNew ({ U with vm := s.vm } : State) locs mc ms := by
    subst hA
    obtain ⟨e1, e2⟩ := hsame
    rw [State.setFrames_setFrames] at e1
    have h2 : (T.setVm s.vm).sameButNew ({ U with vm := s.vm } : State) [] (0 + 1) (0 + 6) := ⟨e1, e2⟩
    have h3 := X.same.trans h2
    rw [List.append_nil] at h3
    exact h3.mono hc hs
  refine ⟨U, ?_, .threw T.heap.size, hrun, hend, Or.inr ⟨T.heap.size, rfl, cls, ce, locs, hx U hWs.alike f1 (fun q hq => f2 q hq (fun z hz => nomatch hz)), hce, hO.vm, hcl, hWs, hall, hf⟩⟩
  refine st1 _ ?_
  show Steps p.tables e below (T1.setTop { method := m, pc := pc + 3, locals := ls, stack := .ref T.heap.size :: rest, locked := none }) _
  jvm_step X₁.here [X₁.here.top, hexec, d3', Value.category]
  exact hsteps
/-- 'throw new E("text")': new; dup; ldc; invokespecial; athrow -/
theorem vx_throwS {cc : ByteArray} {pc : Nat} (hexec : p.tables.exec = Jvm.exec) (hb : c.code = cc) (hl : l.stackTraces = false) {own cls text : String} {names : List String} {ik is ic mc ms sa : Nat} {A : Nat → Prop}
    (hown : s.vm.findClass own = some m.cls) (hcls : Bundle.fit cls = true) (hnames : ∀ n ∈ names, Bundle.fit n = true)
    (hk : (Cond.classLink own ik cls).before args s = true) (hini : (Cond.initialized cls).before args s = true) (hstr : vk_R own is text sa s) (hat : ∀ w ∈ vx_atS own ic cls names, w.before args s = true)
    (hgood : ∀ w ∈ Cond.classLink own ik cls :: Cond.initialized cls :: vx_atS own ic cls names, vx_ot w = true)
    (hU : vx_Zq Bundle.tN "UNASSIGNED_STACK" Bundle.steD A s s.heap) (hN : vx_Zq Bundle.tN "SUPPRESSED_SENTINEL" Bundle.listD A s s.heap) (hS : va_S A s.heap H locs) (hsize : ls.size = c.maxLocals)
    (d0 : decode cc pc = .ok (.new ik, 3)) (d3 : decode cc (pc + 3) = .ok (.dup, 1)) (d4 : decode cc (pc + 4) = .ok (.ldc is, 2)) (d6 : decode cc (pc + 6) = .ok (.invokespecial ic, 3)) (d9 : decode cc (pc + 9) = .ok (.athrow, 1))
    (hout : ∀ x ∈ c.exceptionTable.toList, covers x (pc + 9) = false)
    (hRframes : names.length + 3 < R.frames) (hRlocals : (rest.map fun v => v.category).sum + (13 * (names.length + 1) + 43) ≤ R.locals) (hRcells : cells + 1 ≤ R.cells) (hRslots : slots + 6 ≤ R.slots) (hlocks : meth.locks = false)
    (hx : ∀ t : State, s.vm.Alike t.vm → H.size ≤ t.heap.size → (∀ q : Nat, q < H.size → t.heap[q]? = H[q]?) → XC cls s t)
    (hf : ∀ z ∈ locs, free z.base) (hc : cells + 1 ≤ mc) (hs : slots + 6 ≤ ms) :
    W p l e R s m args below meth c H locs cells slots (vx_MQ below Qc XC args s mc ms free) (F0 m pc ls rest) := by
  intro T hT X
  have htr : e.platform.stackTraces = false := (show e.platform.stackTraces = l.stackTraces by rw [X.admits.platform]).trans hl
  have Y := vx_rebase X (R' := { frames := R.frames, locals := R.locals, cells := 1, slots := 6 }) (Nat.le_refl _) (Nat.le_refl _) hRcells hRslots
  obtain ⟨s', hA⟩ : ∃ z, z = (T.setVm s.vm).setFrames (.invoking m args :: below) := ⟨_, rfl⟩
  rw [← hA] at Y
  have hvm : s'.vm = s.vm := by rw [hA]; rfl
  have hhp : s'.heap = H := by rw [hA]; exact hT
  have hW0 : s.WarmedH s'.vm := by rw [hvm]; exact State.WarmedH.refl s
  have hat' : ∀ w ∈ vx_atS own ic cls names, w.before args s' = true := fun w hw => vx_ot_at hW0 hvm.symm (hgood w (List.mem_cons_of_mem _ (List.mem_cons_of_mem _ hw))) (hat w hw)
  have hk' : (Cond.classLink own ik cls).before args s' = true := vx_ot_at hW0 hvm.symm (hgood _ List.mem_cons_self) hk
  have hini' : (Cond.initialized cls).before args s' = true := vx_ot_at hW0 hvm.symm (hgood _ (List.mem_cons_of_mem _ List.mem_cons_self)) hini
  have hU' : vx_Zq Bundle.tN "UNASSIGNED_STACK" Bundle.steD A s' s'.heap := by rw [hhp]; exact vx_Zq.moved hW0.alike (hU.kept hS.2.1)
  have hN' : vx_Zq Bundle.tN "SUPPRESSED_SENTINEL" Bundle.listD A s' s'.heap := by rw [hhp]; exact vx_Zq.moved hW0.alike (hN.kept hS.2.1)
  have h : ∀ w ∈ Bundle.ownAtoms own ic cls names, w.before args s' = true := vx_own hat' (vx_isRefq hU'.1) (vx_isRefq hN'.1) hU'.2.word hN'.2.word
  have hown' : s'.vm.findClass own = some m.cls := by rw [hvm]; exact hown
  have hins : (Cond.instantiable cls 6).before args s' = true := h _ (by simp [Bundle.ownAtoms])
  obtain ⟨vm₁, cX, kX, hfX, hkX, -, -, X₁, st1⟩ := Y.newCold hexec (own := own) (C := cls) (index := ik) (n := 6) hown' hk' hins hini'
    (g := F0 m pc ls rest) rfl (by rw [hb]; exact d0) (Nat.le_refl _) (Nat.le_refl _)
  generalize hT1 : (T.setVm vm₁).pushCell { cls := cX, slots := kX.instanceTypes.map defaultValue, vm := .none } = T1 at X₁ st1
  have hcat : (Value.ref T.heap.size).category = 1 := rfl
  have hcellA : T1.heap[T.heap.size]? = some (freshCell cX kX) := by rw [← hT1]; exact State.heap_pushCell_size _ _
  have d3' : decode c.code (pc + 3) = .ok (.dup, 1) := by rw [hb]; exact d3
  have d4' : decode c.code (pc + 4) = .ok (.ldc is, 2) := by rw [hb]; exact d4
  have hstr' : vk_R own is text sa s' := vk_R.warm hW0 hstr
  obtain ⟨U, hsteps, hrun, hend, hW, hsame, ce, hce, hO⟩ := X₁.ctorThrowS hexec htr (own := own) (cls := cls) (names := names) (ic := ic) hown' hcls hnames h (fun x hx => nomatch hx) hfX hkX hcellA (by rw [hhp, hT]; exact Nat.le_refl _) (msg := .ref sa) rfl
    (g := { method := m, pc := pc + 6, locals := ls, stack := .ref sa :: .ref T.heap.size :: .ref T.heap.size :: rest, locked := none }) rfl hsize rfl rfl (rest := rest) rfl
    (by rw [hb]; exact d6) (by rw [hb]; exact d9) hout hRframes (by simp only [List.map_cons, List.sum_cons, hcat]; omega) hlocks
  obtain ⟨f1, f2⟩ := vx_frame hsame
  rw [hhp] at f1 f2
  have hWs : s.WarmedH U.vm := State.WarmedH.trans hW0 hW
  have hcl : s.vm.findClass cls = some ce.cls := by
    have h9 := hO.cls
    rw [hvm] at h9
    exact h9
  have hall : s.sameButNew ({ U with vm := s.vm } : State) locs mc ms := by
    subst hA
    obtain ⟨e1, e2⟩ := hsame
    rw [State.setFrames_setFrames] at e1
    have h2 : (T.setVm s.vm).sameButNew ({ U with vm := s.vm } : State) [] (0 + 1) (0 + 6) := ⟨e1, e2⟩
    have h3 := X.same.trans h2
    rw [List.append_nil] at h3
    exact h3.mono hc hs
  refine ⟨U, ?_, .threw T.heap.size, hrun, hend, Or.inr ⟨T.heap.size, rfl, cls, ce, locs, hx U hWs.alike f1 (fun q hq => f2 q hq (fun z hz => nomatch hz)), hce, hO.vm, hcl, hWs, hall, hf⟩⟩
  refine st1 _ ?_
  show Steps p.tables e below (T1.setTop { method := m, pc := pc + 3, locals := ls, stack := .ref T.heap.size :: rest, locked := none }) _
  jvm_step X₁.here [X₁.here.top, hexec, d3', Value.category]
  exact X₁.ldcString hexec (own := own) (text := text) (index := is) (a := sa) hown' hstr'.1 hstr'.2
    (g := { method := m, pc := pc + 4, locals := ls, stack := .ref T.heap.size :: .ref T.heap.size :: rest, locked := none }) rfl d4' _ hsteps
/-- 'throw new E("text")', the text by a wide index -/
theorem vx_throwSW {cc : ByteArray} {pc : Nat} (hexec : p.tables.exec = Jvm.exec) (hb : c.code = cc) (hl : l.stackTraces = false) {own cls text : String} {names : List String} {ik is ic mc ms sa : Nat} {A : Nat → Prop}
    (hown : s.vm.findClass own = some m.cls) (hcls : Bundle.fit cls = true) (hnames : ∀ n ∈ names, Bundle.fit n = true)
    (hk : (Cond.classLink own ik cls).before args s = true) (hini : (Cond.initialized cls).before args s = true) (hstr : vk_R own is text sa s) (hat : ∀ w ∈ vx_atS own ic cls names, w.before args s = true)
    (hgood : ∀ w ∈ Cond.classLink own ik cls :: Cond.initialized cls :: vx_atS own ic cls names, vx_ot w = true)
    (hU : vx_Zq Bundle.tN "UNASSIGNED_STACK" Bundle.steD A s s.heap) (hN : vx_Zq Bundle.tN "SUPPRESSED_SENTINEL" Bundle.listD A s s.heap) (hS : va_S A s.heap H locs) (hsize : ls.size = c.maxLocals)
    (d0 : decode cc pc = .ok (.new ik, 3)) (d3 : decode cc (pc + 3) = .ok (.dup, 1)) (d4 : decode cc (pc + 4) = .ok (.ldc_w is, 3)) (d7 : decode cc (pc + 7) = .ok (.invokespecial ic, 3)) (d10 : decode cc (pc + 10) = .ok (.athrow, 1))
    (hout : ∀ x ∈ c.exceptionTable.toList, covers x (pc + 10) = false)
    (hRframes : names.length + 3 < R.frames) (hRlocals : (rest.map fun v => v.category).sum + (13 * (names.length + 1) + 43) ≤ R.locals) (hRcells : cells + 1 ≤ R.cells) (hRslots : slots + 6 ≤ R.slots) (hlocks : meth.locks = false)
    (hx : ∀ t : State, s.vm.Alike t.vm → H.size ≤ t.heap.size → (∀ q : Nat, q < H.size → t.heap[q]? = H[q]?) → XC cls s t)
    (hf : ∀ z ∈ locs, free z.base) (hc : cells + 1 ≤ mc) (hs : slots + 6 ≤ ms) :
    W p l e R s m args below meth c H locs cells slots (vx_MQ below Qc XC args s mc ms free) (F0 m pc ls rest) := by
  intro T hT X
  have htr : e.platform.stackTraces = false := (show e.platform.stackTraces = l.stackTraces by rw [X.admits.platform]).trans hl
  have Y := vx_rebase X (R' := { frames := R.frames, locals := R.locals, cells := 1, slots := 6 }) (Nat.le_refl _) (Nat.le_refl _) hRcells hRslots
  obtain ⟨s', hA⟩ : ∃ z, z = (T.setVm s.vm).setFrames (.invoking m args :: below) := ⟨_, rfl⟩
  rw [← hA] at Y
  have hvm : s'.vm = s.vm := by rw [hA]; rfl
  have hhp : s'.heap = H := by rw [hA]; exact hT
  have hW0 : s.WarmedH s'.vm := by rw [hvm]; exact State.WarmedH.refl s
  have hat' : ∀ w ∈ vx_atS own ic cls names, w.before args s' = true := fun w hw => vx_ot_at hW0 hvm.symm (hgood w (List.mem_cons_of_mem _ (List.mem_cons_of_mem _ hw))) (hat w hw)
  have hk' : (Cond.classLink own ik cls).before args s' = true := vx_ot_at hW0 hvm.symm (hgood _ List.mem_cons_self) hk
  have hini' : (Cond.initialized cls).before args s' = true := vx_ot_at hW0 hvm.symm (hgood _ (List.mem_cons_of_mem _ List.mem_cons_self)) hini
  have hU' : vx_Zq Bundle.tN "UNASSIGNED_STACK" Bundle.steD A s' s'.heap := by rw [hhp]; exact vx_Zq.moved hW0.alike (hU.kept hS.2.1)
  have hN' : vx_Zq Bundle.tN "SUPPRESSED_SENTINEL" Bundle.listD A s' s'.heap := by rw [hhp]; exact vx_Zq.moved hW0.alike (hN.kept hS.2.1)
  have h : ∀ w ∈ Bundle.ownAtoms own ic cls names, w.before args s' = true := vx_own hat' (vx_isRefq hU'.1) (vx_isRefq hN'.1) hU'.2.word hN'.2.word
  have hown' : s'.vm.findClass own = some m.cls := by rw [hvm]; exact hown
  have hins : (Cond.instantiable cls 6).before args s' = true := h _ (by simp [Bundle.ownAtoms])
  obtain ⟨vm₁, cX, kX, hfX, hkX, -, -, X₁, st1⟩ := Y.newCold hexec (own := own) (C := cls) (index := ik) (n := 6) hown' hk' hins hini'
    (g := F0 m pc ls rest) rfl (by rw [hb]; exact d0) (Nat.le_refl _) (Nat.le_refl _)
  generalize hT1 : (T.setVm vm₁).pushCell { cls := cX, slots := kX.instanceTypes.map defaultValue, vm := .none } = T1 at X₁ st1
  have hcat : (Value.ref T.heap.size).category = 1 := rfl
  have hcellA : T1.heap[T.heap.size]? = some (freshCell cX kX) := by rw [← hT1]; exact State.heap_pushCell_size _ _
  have d3' : decode c.code (pc + 3) = .ok (.dup, 1) := by rw [hb]; exact d3
  have d4' : decode c.code (pc + 4) = .ok (.ldc_w is, 3) := by rw [hb]; exact d4
  have hstr' : vk_R own is text sa s' := vk_R.warm hW0 hstr
  obtain ⟨U, hsteps, hrun, hend, hW, hsame, ce, hce, hO⟩ := X₁.ctorThrowS hexec htr (own := own) (cls := cls) (names := names) (ic := ic) hown' hcls hnames h (fun x hx => nomatch hx) hfX hkX hcellA (by rw [hhp, hT]; exact Nat.le_refl _) (msg := .ref sa) rfl
    (g := { method := m, pc := pc + 7, locals := ls, stack := .ref sa :: .ref T.heap.size :: .ref T.heap.size :: rest, locked := none }) rfl hsize rfl rfl (rest := rest) rfl
    (by rw [hb]; exact d7) (by rw [hb]; exact d10) hout hRframes (by simp only [List.map_cons, List.sum_cons, hcat]; omega) hlocks
  obtain ⟨f1, f2⟩ := vx_frame hsame
  rw [hhp] at f1 f2
  have hWs : s.WarmedH U.vm := State.WarmedH.trans hW0 hW
  have hcl : s.vm.findClass cls = some ce.cls := by
    have h9 := hO.cls
    rw [hvm] at h9
    exact h9
  have hall : s.sameButNew ({ U with vm := s.vm } : State) locs mc ms := by
    subst hA
    obtain ⟨e1, e2⟩ := hsame
    rw [State.setFrames_setFrames] at e1
    have h2 : (T.setVm s.vm).sameButNew ({ U with vm := s.vm } : State) [] (0 + 1) (0 + 6) := ⟨e1, e2⟩
    have h3 := X.same.trans h2
    rw [List.append_nil] at h3
    exact h3.mono hc hs
  refine ⟨U, ?_, .threw T.heap.size, hrun, hend, Or.inr ⟨T.heap.size, rfl, cls, ce, locs, hx U hWs.alike f1 (fun q hq => f2 q hq (fun z hz => nomatch hz)), hce, hO.vm, hcl, hWs, hall, hf⟩⟩
  refine st1 _ ?_
  show Steps p.tables e below (T1.setTop { method := m, pc := pc + 3, locals := ls, stack := .ref T.heap.size :: rest, locked := none }) _
  jvm_step X₁.here [X₁.here.top, hexec, d3', Value.category]
  exact X₁.ldcStringW hexec (own := own) (text := text) (index := is) (a := sa) hown' hstr'.1 hstr'.2
    (g := { method := m, pc := pc + 4, locals := ls, stack := .ref T.heap.size :: .ref T.heap.size :: rest, locked := none }) rfl d4' _ hsteps
end Ends
section Bodies
variable {l : Launch}
theorem vx_ofW {y : MethodName} {ws ws' : List Cond} {rm : Room} {Pc : Array Value → State → Prop} {Qc : Array Value → State → Outcome → State → Prop} {XC : String → State → State → Prop} {mc ms : Nat} {free : Addr → Prop} {cc : ByteArray} {maxL : Nat} {ret : Option FieldType}
    (hy : plainName y.cls = true) (hw : ws = Cond.code y cc maxL ret :: ws')
    (body : ∀ p e s m args below meth c s₁, BodyLoose p l y (headSpec ws rm) cc maxL ret e s m args below meth c s₁ → c.maxLocals = maxL → (∀ x ∈ c.exceptionTable.toList, False) → Pc args s →
      W p l e (headSpec ws rm).room s m args below meth c s.heap [] 0 0 (vx_MQ below Qc XC args s mc ms free) (entryFrame m args maxL)) : vx_Met l y ws rm Pc Qc XC mc ms free := by
  refine MetFree.of_bodyS (code := cc) (maxLocals := maxL) (ret := ret) hy ?_ ?_
  · intro args s m h hn
    obtain ⟨meth, c, h1, h2, h3, h4, h5, h6, -, -⟩ := Cond.code_spec hn (atoms_spec (ws := ws) h _ (by rw [hw]; exact List.mem_cons_self))
    exact ⟨meth, c, h1, h2, h3, h4, h5, h6⟩
  · intro p e s m args below meth c s₁ B hml hP _
    have hh0 : s₁.heap = s.heap := by rw [B.state]; rfl
    have ht : ∀ x ∈ c.exceptionTable.toList, False := by
      obtain ⟨meth9, c9, h1, h2, -, -, -, -, h7, -⟩ := Cond.code_spec B.named (atoms_spec (ws := ws) B.pre _ (by rw [hw]; exact List.mem_cons_self))
      cases Option.some.inj (h1.symm.trans B.method)
      cases Option.some.inj (h2.symm.trans (Stand.of_body B).code)
      intro x hx
      rw [Array.isEmpty_iff.mp h7] at hx
      cases hx
    obtain ⟨t, a1, o, b1, b2, b3⟩ := body p e s m args below meth c s₁ B hml ht hP s₁ hh0 (Stand.of_body B)
    exact ⟨t, o, a1, b1, b2, b3⟩
/-- the table of a body with handlers -/
theorem vx_table {p : Program} {x y : MethodName} {S : Spec} {cc bytes : ByteArray} {maxL maxL' : Nat} {ret ret' : Option FieldType} {e : Env} {s s₁ : State} {m : MethodId} {args : Array Value} {below : List Frame} {meth : Method} {c : Code} {hh : List (Nat × Nat × Nat × Nat)}
    (B : BodyLoose p l y S cc maxL ret e s m args below meth c s₁) (h : (Cond.codeWith y bytes maxL' ret' hh).before args s = true) : c.exceptionTable.toList = tableOf hh := by
  obtain ⟨m9, meth9, c9, hn9, h1, h2, -, -, h6, -⟩ := Cond.codeWith_spec h
  cases Option.some.inj (hn9.symm.trans B.named)
  cases Option.some.inj (h1.symm.trans B.method)
  cases Option.some.inj (h2.symm.trans (Stand.of_body B).code)
  rw [← h6, table_eq]
end Bodies
end VXA
/-! ===== END ===== -/
/-! ===== BEGIN a static call of a method with an exception table ===== -/
section VXS
variable {p : Program} {l : Launch} {e : Env} {R : Room} {s : State} {m : MethodId} {args : Array Value} {below : List Frame} {meth : Method} {c : Code} {T : State} {H : Heap} {locs : List Loc} {cells slots : Nat}
abbrev vx_CSW (R : Room) (s : State) (args : Array Value) (own : String) (index : Nat) (y : MethodName) (bytes : ByteArray) (maxL : Nat) (ret : Option FieldType) (hh : List (Nat × Nat × Nat × Nat)) (ws : List Cond) (rm : Room) (mc ms n : Nat) : Prop :=
  (rm.cells = mc ∧ rm.slots = ms ∧ rm.frames + 1 ≤ R.frames ∧ 8 + (maxL + 11) + rm.locals ≤ R.locals ∧ (∀ w ∈ ws, ∀ (a' : Array Value) (U : State), s.WarmedH U.vm → w.before a' U = true) ∧ Cond.codeWith y bytes maxL ret hh ∈ ws) ∧
  (Cond.codeWith y bytes maxL ret hh).before args s = true ∧ (Cond.initialized y.cls).before args s = true ∧ (y.cls ≠ "java/lang/invoke/MethodHandle" ∧ y.cls ≠ "java/lang/invoke/VarHandle") ∧
  (∀ sig, parseMethodDescriptor y.desc = some sig → n = sig.parameters.length) ∧ (Cond.methodLink own index y).before args s = true ∧ (Cond.static y).before args s = true
theorem vx_cwSW {own : String} {index maxL mc ms : Nat} {y : MethodName} {bytes : ByteArray} {ret : Option FieldType} {hh : List (Nat × Nat × Nat × Nat)} {Ts ws ws' : List Cond} {rm : Room} (n : Nat) (ht : ∀ w ∈ Ts, w.before args s = true) (hT : GoodIn Ts (va_wsS own index y ws)) (hw : ws = Cond.codeWith y bytes maxL ret hh :: ws') (hrc : rm.cells = mc) (hrs : rm.slots = ms)
    (hd : y.cls ≠ "java/lang/invoke/MethodHandle" ∧ y.cls ≠ "java/lang/invoke/VarHandle" ∧ (parseMethodDescriptor y.desc).map (fun d => d.parameters.length) = some n) (hR : rm.frames + 1 ≤ R.frames ∧ 8 + (maxL + 11) + rm.locals ≤ R.locals) :
    vx_CSW R s args own index y bytes maxL ret hh ws rm mc ms n := by
  have ok : ∀ w ∈ va_wsS own index y ws, w.before args s = true := fun w h => ht w (hT w h).1
  have hG : GoodIn Ts ws := fun w h => hT w (by unfold va_wsS; exact List.mem_append_right _ h)
  have hc : Cond.codeWith y bytes maxL ret hh ∈ ws := by rw [hw]; exact List.mem_cons_self
  refine ⟨⟨hrc, hrs, hR.1, hR.2, pay_in ht hG, hc⟩, ht _ (hG _ hc).1, ok _ (by simp [va_wsS]), ⟨hd.1, hd.2.1⟩, fun sig h => ?_, ok _ (by simp [va_wsS]), ok _ (by simp [va_wsS])⟩
  have h2 := hd.2.2
  rw [h] at h2
  exact (Option.some.inj h2).symm
theorem vx_callSW (X : Stand p l e R s m args below meth c T locs cells slots) (hexec : p.tables.exec = Jvm.exec) {own : String} {index : Nat} {y : MethodName} {bytes : ByteArray} {maxL : Nat} {ret : Option FieldType} {hh : List (Nat × Nat × Nat × Nat)}
    (hown : s.vm.findClass own = some m.cls) (hlink : (Cond.methodLink own index y).before args s = true) (hstat : (Cond.static y).before args s = true) (hinit : (Cond.initialized y.cls).before args s = true)
    (hcode : (Cond.codeWith y bytes maxL ret hh).before args s = true) (hy : y.cls ≠ "java/lang/invoke/MethodHandle" ∧ y.cls ≠ "java/lang/invoke/VarHandle")
    {W9 : Nat} {Pre : Pt → Array Value → Prop} {Post : Pt → Array Value → Option Value → Pt → Prop} (hK : Back l R p e below s args y 3 W9 Pre Post)
    {g : JFrame} (hg : g.method = m) (hsize : g.locals.size = c.maxLocals) {argsL rest : List Value} (hlen : ∀ sig, parseMethodDescriptor y.desc = some sig → argsL.length = sig.parameters.length)
    (hstack : g.stack = argsL.reverse ++ rest) (hW : 2 * g.monitorRoom + (rest.map fun v => v.category).sum ≤ W9) (hdg : decode c.code g.pc = .ok (.invokestatic index, 3))
    (hpre : ∀ vm₁, s.WarmedH vm₁ → Pre ⟨T.setVm vm₁, locs, cells, slots⟩ argsL.toArray) :
    ∃ (v : Option Value) (vm₁ : Vm) (B : Pt), s.WarmedH vm₁ ∧ Stand p l e R s m args below meth c B.U B.locs B.cells B.slots ∧ Post ⟨T.setVm vm₁, locs, cells, slots⟩ argsL.toArray v B ∧
      ∀ target, Steps p.tables e below (B.U.setTop { g with pc := g.pc + 3, stack := v.toList ++ rest }) target → Steps p.tables e below (T.setTop g) target := by
  obtain ⟨mk, methM, cM, hnamed, hmethM, -, -, -, -, -, -, hsigM⟩ := Cond.codeWith_spec hcode
  have hstatic : methM.isStatic = true := Cond.static_spec hnamed hmethM hstat
  obtain ⟨kP, hkP, -⟩ := className_of_methodNamed hnamed
  have hinitP : kP.init = .initialized := Cond.initialized_spec (findClass_of_methodNamed hnamed) hkP hinit
  obtain ⟨vm₁, X₁, hstep₁⟩ := X.invokestatic hexec hown hlink hnamed hmethM hstatic hkP hinitP hy (g := g) hg (argsL := argsL) (rest := rest) (hlen _ hsigM) hstack hdg
  obtain ⟨v, B, X', hpost, hsteps⟩ := hK m meth c ⟨T.setVm vm₁, locs, cells, slots⟩ { g with stack := rest } (.invokestatic index) mk argsL.toArray X₁ hg hsize hdg hW (X₁.named hnamed) (hpre vm₁ X₁.warmed)
  exact ⟨v, vm₁, B, X₁.warmed, X', hpost, fun target h => hstep₁ _ fun acts => by rw [doInvoke_state]; exact hsteps.trans h⟩
theorem vx_runSW {y : MethodName} {bytes cc : ByteArray} {maxL nL mc ms n index : Nat} {ret : Option FieldType} {hh : List (Nat × Nat × Nat × Nat)} {ws : List Cond} {rm : Room} {Pc : Array Value → State → Prop} {Qc : Array Value → State → Outcome → State → Prop} {free : Addr → Prop} {Ts : List Cond} {own : String} {As rest : List Value} {g : JFrame}
    (S : CallFix p m c cc nL s args Ts own) (hM : Met l y ws rm Pc Qc mc ms free) (cw : vx_CSW R s args own index y bytes maxL ret hh ws rm mc ms n) (hp : PreS s H Pc As)
    (hg : g.method = m) (hn : As.length = n) (hsize : g.locals.size = nL) (hstack : g.stack = As.reverse ++ rest) (hW : 2 * g.monitorRoom + (rest.map fun v => v.category).sum ≤ 8) (hdg : decode cc g.pc = .ok (.invokestatic index, 3)) (hf : cells + mc ≤ R.cells ∧ slots + ms ≤ R.slots) :
    va_Run p l e R s m args below meth c H locs cells slots mc ms g rest (Qc As.toArray) (free) := by
  obtain ⟨⟨hrc, hrs, hfr, hlo, hws, hcw⟩, hcode, hini, hy, hlen, hl, hstt⟩ := cw
  have hK : Back l R p e below s args y 3 8 (PreOf R mc ms Pc) (PostOf Qc mc ms free) := va_backW (hh := hh) (bytes := bytes) (maxL := maxL) (ret := ret) hM hp.1 hrc hrs hfr hlo hws hcw (fun a' U hW => word_at hW (Or.inl (by first | rfl | simp [Cond.onTables, Cond.keeps, Cond.steady])) hini)
  obtain ⟨hx, hb, hml, ho, -⟩ := S
  intro T hT X
  obtain ⟨v, vm₁, ⟨U', l2, c2, s2⟩, hW₁, X', ⟨g', mk, t, L, e1, e2, hq, h1, hL, h2, h3⟩, st⟩ := vx_callSW X hx (hh := hh) (bytes := bytes) (maxL := maxL) (ret := ret) ho hl hstt hini hcode hy hK hg (hsize.trans hml.symm) (argsL := As) (rest := rest) (fun sig h => hn.trans (hlen sig h)) hstack hW (by rw [hb]; exact hdg)
    (fun vm₁ hW₁ => ⟨hf.1, hf.2, hp.2 (T.setVm vm₁) hT hW₁⟩)
  dsimp only [Pt.U, Pt.locs, Pt.cells, Pt.slots] at X' e1 e2 h1 h2 h3 st
  subst h1; subst h2; subst h3
  exact ⟨v, (T.setVm vm₁).calling g' mk As.toArray, t, U', L, hT, X', hL, e1, e2, hq, st⟩
/-- not caught here, past rows that name other classes: it goes on to the caller -/
theorem vx_outP {p : Program} {l : Launch} {e : Env} {R : Room} {s : State} {m : MethodId} {args : Array Value} {below : List Frame} {meth : Method} {c : Code} {H : Heap} {locs : List Loc} {cells slots : Nat} {free : Addr → Prop} {ls : Array Slot} {rest : List Value} {Qc : Array Value → State → Outcome → State → Prop} {XC : String → State → State → Prop}
    {pc : Nat} {own E : String} {ce : Cell} {q : Addr} {mc ms : Nat} (hown : s.vm.findClass own = some m.cls) (hlocks : meth.locks = false)
    (hpass : ∀ z ∈ c.exceptionTable.toList, covers z pc = false ∨ (z.catchType ≠ 0 ∧ ∃ nm : String, (Cond.classLink own z.catchType nm).before args s = true ∧ va_Nc E nm s)) (hcell : H[q]? = some ce) (hv : ce.vm = .none) (hcl : s.vm.findClass E = some ce.cls)
    (hx : ∀ t : State, t.heap = H → s.vm.Alike t.vm → XC E s t) (hf : ∀ z ∈ locs, free z.base) (hc : cells ≤ mc) (hs : slots ≤ ms) :
    vx_W p l e R s m args below meth c H locs cells slots (vx_MQ below Qc XC args s mc ms free) (F0 m pc ls rest) q := by
  intro T hT X
  have hpl : e.platform.magicAccessors = ({} : Platform).magicAccessors := by rw [X.admits.platform]
  obtain ⟨vm', hW', X', st⟩ := X.outThrough hlocks q (g := F0 m pc ls rest) rfl rfl rfl (cell := ce) (by rw [hT]; exact hcell) (by rw [hv]; rfl)
    (by obtain ⟨k9, h9, -⟩ := Vm.findClass_spec hcl; exact ⟨k9, h9⟩) (fun z hz => by
      rcases hpass z hz with h | ⟨hz0, nm, hl1, hn1⟩
      · exact Or.inl h
      · obtain ⟨c6, hc6, hcl6⟩ := Cond.classLink_spec hown hl1 e.platform hpl
        obtain ⟨a8, b8, h1, h2, h3⟩ := hn1
        cases Option.some.inj (h1.symm.trans hcl)
        cases Option.some.inj (h2.symm.trans hc6)
        exact Or.inr ⟨hz0, _, hcl6, h3⟩)
  obtain ⟨g₀, hfr⟩ := X'.frames_eq
  have hcell9 : ((T.setVm vm').setFrames (.throwing q :: below)).heap[q]? = some ce := by
    show T.heap[q]? = some ce
    rw [hT]; exact hcell
  have hend : Ended ((T.setVm vm').setFrames (.throwing q :: below)) below (.threw q) := State.frames_setFrames _ (State.cur_lt_of_frames hfr)
  refine ⟨(T.setVm vm').setFrames (.throwing q :: below), ?_, .threw q, X'.here.running, hend, Or.inr ⟨q, rfl, E, ce, locs, hx _ hT (X'.ends _).1.alike, hcell9, hv, hcl, (X'.ends _).1, (X'.ends _).2.mono hc hs, hf⟩⟩
  rw [X.pushThrowing_eq]
  exact st
/-- a thing of a world lies in the heap -/
theorem vx_lt {D : va_G} {cl : List vw_C} {ws : va_W} {H1 : Heap} (h : va_P D cl ws H1) {k : Nat} {q : Nat × va_E} (hk : ws[k]? = some q) : q.1 < H1.size := (h k q hk).lt
end VXS
/-! ===== END ===== -/
/-! ===== BEGIN methods with a table of their own: called by a name, returning or throwing ===== -/
section VXH
/-! vx_backW, vx_callVX, vx_callSX, vx_callVW, vx_runVW, vx_runVX, vx_runSX, vx_ofWH follow the same proofs as their sisters above (Free/Laws.lean, Shelf42/LK1.lean); vx_outP calls Shelf42/NT130.lean (outThrough). -/
section
variable {l : Launch} {R : Room} {p : Program} {e : Env} {below : List Frame} {s : State} {sargs : Array Value} {y : MethodName} {len W9 : Nat}
theorem vx_backW {ws : List Cond} {rm : Room} {Pc : Array Value → State → Prop} {Qc : Array Value → State → Outcome → State → Prop} {XC : String → State → State → Prop} {mc ms : Nat} {free : Addr → Prop} {bytes : ByteArray} {maxL : Nat} {ret : Option FieldType} {hh : List (Nat × Nat × Nat × Nat)}
    (hM : vx_Met l y ws rm Pc Qc XC mc ms free) (hblind : FrameBlind Pc) (hrc : rm.cells = mc) (hrs : rm.slots = ms)
    (hframes : rm.frames + 1 ≤ R.frames) (hlocals : W9 + (maxL + 11) + rm.locals ≤ R.locals)
    (hws : ∀ w ∈ ws, ∀ a' U, s.WarmedH U.vm → w.before a' U = true) (hcode : Cond.codeWith y bytes maxL ret hh ∈ ws) (hinit : ∀ a' U, s.WarmedH U.vm → (Cond.initialized y.cls).before a' U = true) :
    vx_Back l R p e below s sargs y len W9 (PreOf R mc ms Pc) (PostOf Qc mc ms free) (vx_Post XC mc ms free) := by
  intro m meth c A g ig mk a X hg hsize hdg hW hn hp
  have h1 : (headSpec ws rm).pre.before a A.U = true := atoms_intro fun w hw => hws w hw _ _ X.warmed
  have h2 : (Cond.codeWith y bytes maxL ret hh).before a A.U = true := hws _ hcode _ _ X.warmed
  have h3 : (Cond.initialized y.cls).before a A.U = true := hinit _ _ X.warmed
  have h4 : A.cells + (headSpec ws rm).room.cells ≤ R.cells := by rw [show (headSpec ws rm).room.cells = mc from hrc]; exact hp.1
  have h5 : A.slots + (headSpec ws rm).room.slots ≤ R.slots := by rw [show (headSpec ws rm).room.slots = ms from hrs]; exact hp.2.1
  have hPc : Pc a (A.U.calling g mk a) := hblind _ _ _ _ hp.2.2
  obtain ⟨U, Ls, c0, s0⟩ := A
  dsimp only [Pt.U, Pt.locs, Pt.cells, Pt.slots] at h1 h2 h3 h4 h5 X hn hPc ⊢
  obtain ⟨m9, methY, cY, hn9, hmY, hcY, -, hlY, -⟩ := Cond.codeWith_spec h2
  cases Option.some.inj (hn9.symm.trans hn)
  obtain ⟨kY, hkY, -⟩ := className_of_methodNamed hn
  have hinitY : kY.init = .initialized := Cond.initialized_spec (findClass_of_methodNamed hn) hkY h3
  have h : At U g.method c below := by rw [hg]; exact X.here
  have hlocals9 : W9 + (maxL + 11) + (headSpec ws rm).room.locals ≤ R.locals := hlocals
  have happ : (headSpec ws rm).appliesLoose y e.platform (U.calling g mk a) = true :=
    Spec.appliesLoose_calling (g := g) h hdg hn hkY hinitY
      (X.room_calling (g := g) (R' := (headSpec ws rm).room) hsize hmY hcY hframes (by rw [hlY]; omega) h4 h5) h1
  obtain ⟨mid, hmid⟩ := h.above
  have hfr : (U.setTop g).frames = (.java g :: mid) ++ below := by rw [State.frames_setTop' g h.top, hmid]; rfl
  obtain ⟨o, s₂, hsteps, -, hend, hq⟩ := Steps.callFree hM p X.admits X.cas X.clock (acts := []) hfr happ hPc trivial
  have hq' : vx_Q Qc XC mc ms free a (U.calling g mk a) o s₂ := hq
  rw [State.frames_setTop' g h.top] at hend
  obtain ⟨g₀, hg0⟩ := Option.isSome_iff_exists.mp h.top
  obtain ⟨r, hr⟩ := State.topJava?_eq_some.mp hg0
  have hr' : (({ U with heap := s₂.heap, slotsUsed := s₂.slotsUsed } : State).setVm s₂.vm).frames = .java g₀ :: r := hr
  rcases hq' with ⟨hqc, L, hfe, hL⟩ | ⟨q, rfl, E, ce, L, hx, hce, hcv, hcl, hW₂, hsm, hL⟩
  · obtain ⟨⟨v, rfl⟩, hW₂, e2, q2, q3, q4, q5, q6⟩ := id hfe
    have e3 : s₂ = ({ (U.calling g mk a).setFrames s₂.frames with heap := s₂.heap, slotsUsed := s₂.slotsUsed } : State).setVm s₂.vm := by
      have : s₂ = ({ s₂ with vm := (U.calling g mk a).vm } : State).setVm s₂.vm := rfl
      rw [e2] at this
      exact this
    obtain ⟨c₂, i₂, len₂, hc₂, hd₂, hf₂⟩ := hend
    have hW' : U.WarmedH s₂.vm := hW₂
    have hcc : c₂ = c := by
      have h1 : s₂.code? g.method = U.code? g.method := by
        rw [State.code?_eq, State.code?_eq, hW'.alike.method?]
      exact Option.some.inj (hc₂.symm.trans (h1.trans h.code))
    subst hcc
    have hlen : len₂ = len := by rw [hdg] at hd₂; cases hd₂; rfl
    subst hlen
    have hs₂ : s₂ = (({ U with heap := s₂.heap, slotsUsed := s₂.slotsUsed } : State).setVm s₂.vm).setTop { g with pc := g.pc + len₂, stack := v.toList ++ g.stack } := by
      refine e3.trans ?_
      rw [hf₂, State.calling_eq h.top, State.setFrames_setFrames, State.setTop_of_frames _ hr', hr]
      rfl
    have hsame : U.sameButNew ({ U with heap := s₂.heap, slotsUsed := s₂.slotsUsed } : State) L mc ms := by
      refine ⟨?_, q2, q3, q4, q5, q6⟩
      obtain ⟨t, ht, -⟩ := State.frames_cons hr
      show ({ U with heap := s₂.heap, slotsUsed := s₂.slotsUsed } : State) = { U.setFrames U.frames with heap := s₂.heap, slotsUsed := s₂.slotsUsed }
      rw [State.setFrames_self ht]
    subst hg
    refine Or.inl ⟨v, ⟨(({ U with heap := s₂.heap, slotsUsed := s₂.slotsUsed } : State).setVm s₂.vm), Ls ++ L, c0 + mc, s0 + ms⟩,
      ⟨X.admits, X.cas, X.clock, X.frames, X.room, X.hears, X.method, X.code, (X.here.setHeapUsed s₂.heap s₂.slotsUsed).setVm hW'.alike, X.tail, State.WarmedH.trans X.warmed hW', X.limits, X.bytes, X.same.trans (hsame.setVm s.vm)⟩,
      ⟨g, mk, s₂, L, rfl, rfl, hqc, rfl, hL, rfl, rfl⟩, ?_⟩
    show Steps p.tables e below _ ((({ U with heap := s₂.heap, slotsUsed := s₂.slotsUsed } : State).setVm s₂.vm).setTop { g with pc := g.pc + len₂, stack := v.toList ++ g.stack })
    rw [← hs₂]
    exact hsteps
  · obtain ⟨e2, q2, q3, q4, q5, q6⟩ := id hsm
    have e3 : s₂ = ({ (U.calling g mk a).setFrames s₂.frames with heap := s₂.heap, slotsUsed := s₂.slotsUsed } : State).setVm s₂.vm := by
      have : s₂ = ({ s₂ with vm := (U.calling g mk a).vm } : State).setVm s₂.vm := rfl
      rw [e2] at this
      exact this
    have hf₂ : s₂.frames = .throwing q :: .java g :: U.frames.tail := hend
    have hW' : U.WarmedH s₂.vm := hW₂
    have hs₂ : s₂ = ((({ U with heap := s₂.heap, slotsUsed := s₂.slotsUsed } : State).setVm s₂.vm).setTop g).pushFrame (.throwing q) := by
      refine e3.trans ?_
      rw [hf₂, State.calling_eq h.top, State.setFrames_setFrames, State.pushFrame, State.frames_setTop _ hr', State.setTop_of_frames _ hr', State.setFrames_setFrames, hr]
      rfl
    have hsame : U.sameButNew ({ U with heap := s₂.heap, slotsUsed := s₂.slotsUsed } : State) L mc ms := by
      refine ⟨?_, q2, q3, q4, q5, q6⟩
      obtain ⟨t, ht, -⟩ := State.frames_cons hr
      show ({ U with heap := s₂.heap, slotsUsed := s₂.slotsUsed } : State) = { U.setFrames U.frames with heap := s₂.heap, slotsUsed := s₂.slotsUsed }
      rw [State.setFrames_self ht]
    subst hg
    refine Or.inr ⟨q, ⟨(({ U with heap := s₂.heap, slotsUsed := s₂.slotsUsed } : State).setVm s₂.vm), Ls ++ L, c0 + mc, s0 + ms⟩,
      ⟨X.admits, X.cas, X.clock, X.frames, X.room, X.hears, X.method, X.code, (X.here.setHeapUsed s₂.heap s₂.slotsUsed).setVm hW'.alike, X.tail, State.WarmedH.trans X.warmed hW', X.limits, X.bytes, X.same.trans (hsame.setVm s.vm)⟩,
      ⟨g, mk, s₂, L, E, ce, rfl, rfl, hx, hce, hcv, hcl, rfl, hL, rfl, rfl⟩, ?_⟩
    show Steps p.tables e below _ (((({ U with heap := s₂.heap, slotsUsed := s₂.slotsUsed } : State).setVm s₂.vm).setTop g).pushFrame (.throwing q))
    rw [← hs₂]
    exact hsteps
end
variable {p : Program} {l : Launch} {e : Env} {R : Room} {s : State} {m : MethodId} {args : Array Value} {below : List Frame} {meth : Method} {c : Code} {T : State} {H : Heap} {locs : List Loc} {cells slots : Nat}
theorem vx_callVX (X : Stand p l e R s m args below meth c T locs cells slots) (hexec : p.tables.exec = Jvm.exec) {own C : String} {index : Nat} {y : MethodName} {bytes : ByteArray} {maxL : Nat} {ret : Option FieldType} {hh : List (Nat × Nat × Nat × Nat)}
    (hown : s.vm.findClass own = some m.cls) (hlink : (Cond.methodLink own index y).before args s = true) (hinst : (Cond.instanceMethod y).before args s = true) (hsel : (Cond.selects C y y).before args s = true)
    (hcode : (Cond.codeWith y bytes maxL ret hh).before args s = true) (hy : y.cls ≠ "java/lang/invoke/MethodHandle" ∧ y.cls ≠ "java/lang/invoke/VarHandle")
    {W9 : Nat} {Pre : Pt → Array Value → Prop} {Post : Pt → Array Value → Option Value → Pt → Prop} {PostX : Pt → Array Value → Addr → Pt → Prop} (hK : vx_Back l R p e below s args y 3 W9 Pre Post PostX)
    {b : Addr} {cellB : Cell} (hcell : T.heap[b]? = some cellB) (hobj : cellB.vm.isStatics = false) (hcls : s.vm.findClass C = some cellB.cls)
    {g : JFrame} (hg : g.method = m) (hsize : g.locals.size = c.maxLocals) {argsL rest : List Value} (hlen : ∀ sig, parseMethodDescriptor y.desc = some sig → argsL.length = sig.parameters.length)
    (hstack : g.stack = argsL.reverse ++ .ref b :: rest) (hW : 2 * g.monitorRoom + (rest.map fun v => v.category).sum ≤ W9) (hdg : decode c.code g.pc = .ok (.invokevirtual index, 3))
    (hpre : ∀ vm₁, s.WarmedH vm₁ → Pre ⟨T.setVm vm₁, locs, cells, slots⟩ (Value.ref b :: argsL).toArray) :
    (∃ (v : Option Value) (vm₁ : Vm) (B : Pt), s.WarmedH vm₁ ∧ Stand p l e R s m args below meth c B.U B.locs B.cells B.slots ∧ Post ⟨T.setVm vm₁, locs, cells, slots⟩ (Value.ref b :: argsL).toArray v B ∧
      ∀ target, Steps p.tables e below (B.U.setTop { g with pc := g.pc + 3, stack := v.toList ++ rest }) target → Steps p.tables e below (T.setTop g) target) ∨
    (∃ (q : Addr) (vm₁ : Vm) (B : Pt), s.WarmedH vm₁ ∧ Stand p l e R s m args below meth c B.U B.locs B.cells B.slots ∧ PostX ⟨T.setVm vm₁, locs, cells, slots⟩ (Value.ref b :: argsL).toArray q B ∧
      Steps p.tables e below (T.setTop g) ((B.U.setTop { g with stack := rest }).pushFrame (.throwing q))) := by
  obtain ⟨mk, methM, hnamed, hmethM, hstM, habM⟩ := Cond.instanceMethod_spec hinst
  obtain ⟨m8, methM', cM, hn8, hmethM', -, -, -, -, -, -, hsigM⟩ := Cond.codeWith_spec hcode
  cases Option.some.inj (hn8.symm.trans hnamed)
  cases hmethM.symm.trans hmethM'
  obtain ⟨c2, r2, m2, q1, q2, q3, q4, kP, hkP, hkPi⟩ := Cond.selects_spec hsel
  cases hcls.symm.trans q1
  cases (State.methodFound?_of_named hnamed hy).symm.trans q2
  cases hnamed.symm.trans q3
  have hselP : selectMethod e.platform s.vm cellB.cls mk = .method mk := by rw [Launch.admits_selectMethod X.admits]; exact q4
  obtain ⟨vm₁, X₁, hstep₁⟩ := X.invokevirtual hexec hown hlink hnamed hmethM hstM hkP hkPi hy (a := b) (cell := cellB) hcell
    (fun z h => by rw [h] at hobj; cases hobj) hselP hmethM habM hkP hkPi (g := g) hg (argsL := argsL) (rest := rest) (hlen _ hsigM) hstack hdg
  rcases hK m meth c ⟨T.setVm vm₁, locs, cells, slots⟩ { g with stack := rest } (.invokevirtual index) mk (Value.ref b :: argsL).toArray X₁ hg hsize hdg hW (X₁.named hnamed) (hpre vm₁ X₁.warmed) with ⟨v, B, X', hpost, hsteps⟩ | ⟨q, B, X', hpost, hsteps⟩
  · exact Or.inl ⟨v, vm₁, B, X₁.warmed, X', hpost, fun target h => hstep₁ _ fun acts => by rw [doInvoke_state]; exact hsteps.trans h⟩
  · exact Or.inr ⟨q, vm₁, B, X₁.warmed, X', hpost, hstep₁ _ fun acts => by rw [doInvoke_state]; exact hsteps⟩
theorem vx_callSX (X : Stand p l e R s m args below meth c T locs cells slots) (hexec : p.tables.exec = Jvm.exec) {own : String} {index : Nat} {y : MethodName} {bytes : ByteArray} {maxL : Nat} {ret : Option FieldType} {hh : List (Nat × Nat × Nat × Nat)}
    (hown : s.vm.findClass own = some m.cls) (hlink : (Cond.methodLink own index y).before args s = true) (hstat : (Cond.static y).before args s = true) (hinit : (Cond.initialized y.cls).before args s = true)
    (hcode : (Cond.codeWith y bytes maxL ret hh).before args s = true) (hy : y.cls ≠ "java/lang/invoke/MethodHandle" ∧ y.cls ≠ "java/lang/invoke/VarHandle")
    {W9 : Nat} {Pre : Pt → Array Value → Prop} {Post : Pt → Array Value → Option Value → Pt → Prop} {PostX : Pt → Array Value → Addr → Pt → Prop} (hK : vx_Back l R p e below s args y 3 W9 Pre Post PostX)
    {g : JFrame} (hg : g.method = m) (hsize : g.locals.size = c.maxLocals) {argsL rest : List Value} (hlen : ∀ sig, parseMethodDescriptor y.desc = some sig → argsL.length = sig.parameters.length)
    (hstack : g.stack = argsL.reverse ++ rest) (hW : 2 * g.monitorRoom + (rest.map fun v => v.category).sum ≤ W9) (hdg : decode c.code g.pc = .ok (.invokestatic index, 3))
    (hpre : ∀ vm₁, s.WarmedH vm₁ → Pre ⟨T.setVm vm₁, locs, cells, slots⟩ argsL.toArray) :
    (∃ (v : Option Value) (vm₁ : Vm) (B : Pt), s.WarmedH vm₁ ∧ Stand p l e R s m args below meth c B.U B.locs B.cells B.slots ∧ Post ⟨T.setVm vm₁, locs, cells, slots⟩ argsL.toArray v B ∧
      ∀ target, Steps p.tables e below (B.U.setTop { g with pc := g.pc + 3, stack := v.toList ++ rest }) target → Steps p.tables e below (T.setTop g) target) ∨
    (∃ (q : Addr) (vm₁ : Vm) (B : Pt), s.WarmedH vm₁ ∧ Stand p l e R s m args below meth c B.U B.locs B.cells B.slots ∧ PostX ⟨T.setVm vm₁, locs, cells, slots⟩ argsL.toArray q B ∧
      Steps p.tables e below (T.setTop g) ((B.U.setTop { g with stack := rest }).pushFrame (.throwing q))) := by
  obtain ⟨mk, methM, cM, hnamed, hmethM, -, -, -, -, -, -, hsigM⟩ := Cond.codeWith_spec hcode
  have hstatic : methM.isStatic = true := Cond.static_spec hnamed hmethM hstat
  obtain ⟨kP, hkP, -⟩ := className_of_methodNamed hnamed
  have hinitP : kP.init = .initialized := Cond.initialized_spec (findClass_of_methodNamed hnamed) hkP hinit
  obtain ⟨vm₁, X₁, hstep₁⟩ := X.invokestatic hexec hown hlink hnamed hmethM hstatic hkP hinitP hy (g := g) hg (argsL := argsL) (rest := rest) (hlen _ hsigM) hstack hdg
  rcases hK m meth c ⟨T.setVm vm₁, locs, cells, slots⟩ { g with stack := rest } (.invokestatic index) mk argsL.toArray X₁ hg hsize hdg hW (X₁.named hnamed) (hpre vm₁ X₁.warmed) with ⟨v, B, X', hpost, hsteps⟩ | ⟨q, B, X', hpost, hsteps⟩
  · exact Or.inl ⟨v, vm₁, B, X₁.warmed, X', hpost, fun target h => hstep₁ _ fun acts => by rw [doInvoke_state]; exact hsteps.trans h⟩
  · exact Or.inr ⟨q, vm₁, B, X₁.warmed, X', hpost, hstep₁ _ fun acts => by rw [doInvoke_state]; exact hsteps⟩
theorem vx_callVW (X : Stand p l e R s m args below meth c T locs cells slots) (hexec : p.tables.exec = Jvm.exec) {own C : String} {index : Nat} {y : MethodName} {bytes : ByteArray} {maxL : Nat} {ret : Option FieldType} {hh : List (Nat × Nat × Nat × Nat)}
    (hown : s.vm.findClass own = some m.cls) (hlink : (Cond.methodLink own index y).before args s = true) (hinst : (Cond.instanceMethod y).before args s = true) (hsel : (Cond.selects C y y).before args s = true)
    (hcode : (Cond.codeWith y bytes maxL ret hh).before args s = true) (hy : y.cls ≠ "java/lang/invoke/MethodHandle" ∧ y.cls ≠ "java/lang/invoke/VarHandle")
    {W9 : Nat} {Pre : Pt → Array Value → Prop} {Post : Pt → Array Value → Option Value → Pt → Prop} (hK : Back l R p e below s args y 3 W9 Pre Post)
    {b : Addr} {cellB : Cell} (hcell : T.heap[b]? = some cellB) (hobj : cellB.vm.isStatics = false) (hcls : s.vm.findClass C = some cellB.cls)
    {g : JFrame} (hg : g.method = m) (hsize : g.locals.size = c.maxLocals) {argsL rest : List Value} (hlen : ∀ sig, parseMethodDescriptor y.desc = some sig → argsL.length = sig.parameters.length)
    (hstack : g.stack = argsL.reverse ++ .ref b :: rest) (hW : 2 * g.monitorRoom + (rest.map fun v => v.category).sum ≤ W9) (hdg : decode c.code g.pc = .ok (.invokevirtual index, 3))
    (hpre : ∀ vm₁, s.WarmedH vm₁ → Pre ⟨T.setVm vm₁, locs, cells, slots⟩ (Value.ref b :: argsL).toArray) :
    ∃ (v : Option Value) (vm₁ : Vm) (B : Pt), s.WarmedH vm₁ ∧ Stand p l e R s m args below meth c B.U B.locs B.cells B.slots ∧ Post ⟨T.setVm vm₁, locs, cells, slots⟩ (Value.ref b :: argsL).toArray v B ∧
      ∀ target, Steps p.tables e below (B.U.setTop { g with pc := g.pc + 3, stack := v.toList ++ rest }) target → Steps p.tables e below (T.setTop g) target := by
  obtain ⟨mk, methM, hnamed, hmethM, hstM, habM⟩ := Cond.instanceMethod_spec hinst
  obtain ⟨m8, methM', cM, hn8, hmethM', -, -, -, -, -, -, hsigM⟩ := Cond.codeWith_spec hcode
  cases Option.some.inj (hn8.symm.trans hnamed)
  cases hmethM.symm.trans hmethM'
  obtain ⟨c2, r2, m2, q1, q2, q3, q4, kP, hkP, hkPi⟩ := Cond.selects_spec hsel
  cases hcls.symm.trans q1
  cases (State.methodFound?_of_named hnamed hy).symm.trans q2
  cases hnamed.symm.trans q3
  have hselP : selectMethod e.platform s.vm cellB.cls mk = .method mk := by rw [Launch.admits_selectMethod X.admits]; exact q4
  obtain ⟨vm₁, X₁, hstep₁⟩ := X.invokevirtual hexec hown hlink hnamed hmethM hstM hkP hkPi hy (a := b) (cell := cellB) hcell
    (fun z h => by rw [h] at hobj; cases hobj) hselP hmethM habM hkP hkPi (g := g) hg (argsL := argsL) (rest := rest) (hlen _ hsigM) hstack hdg
  obtain ⟨v, B, X', hpost, hsteps⟩ := hK m meth c ⟨T.setVm vm₁, locs, cells, slots⟩ { g with stack := rest } (.invokevirtual index) mk (Value.ref b :: argsL).toArray X₁ hg hsize hdg hW (X₁.named hnamed) (hpre vm₁ X₁.warmed)
  exact ⟨v, vm₁, B, X₁.warmed, X', hpost, fun target h => hstep₁ _ fun acts => by rw [doInvoke_state]; exact hsteps.trans h⟩
abbrev vx_CVW (R : Room) (s : State) (args : Array Value) (own C : String) (index : Nat) (y : MethodName) (bytes : ByteArray) (maxL : Nat) (ret : Option FieldType) (hh : List (Nat × Nat × Nat × Nat)) (ws : List Cond) (rm : Room) (mc ms n : Nat) : Prop :=
  (rm.cells = mc ∧ rm.slots = ms ∧ rm.frames + 1 ≤ R.frames ∧ 8 + (maxL + 11) + rm.locals ≤ R.locals ∧ (∀ w ∈ ws, ∀ (a' : Array Value) (U : State), s.WarmedH U.vm → w.before a' U = true) ∧ Cond.codeWith y bytes maxL ret hh ∈ ws) ∧
  (Cond.codeWith y bytes maxL ret hh).before args s = true ∧ (Cond.initialized y.cls).before args s = true ∧ (y.cls ≠ "java/lang/invoke/MethodHandle" ∧ y.cls ≠ "java/lang/invoke/VarHandle") ∧
  (∀ sig, parseMethodDescriptor y.desc = some sig → n = sig.parameters.length) ∧ (Cond.methodLink own index y).before args s = true ∧ (Cond.instanceMethod y).before args s = true ∧ (Cond.selects C y y).before args s = true
theorem vx_cwVW {own C : String} {index maxL mc ms : Nat} {y : MethodName} {bytes : ByteArray} {ret : Option FieldType} {hh : List (Nat × Nat × Nat × Nat)} {Ts ws ws' : List Cond} {rm : Room} (n : Nat) (ht : ∀ w ∈ Ts, w.before args s = true) (hT : GoodIn Ts (wsV own index C y ws)) (hw : ws = Cond.codeWith y bytes maxL ret hh :: ws') (hrc : rm.cells = mc) (hrs : rm.slots = ms)
    (hd : y.cls = C ∧ y.cls ≠ "java/lang/invoke/MethodHandle" ∧ y.cls ≠ "java/lang/invoke/VarHandle" ∧ (parseMethodDescriptor y.desc).map (fun d => d.parameters.length) = some n) (hR : rm.frames + 1 ≤ R.frames ∧ 8 + (maxL + 11) + rm.locals ≤ R.locals) :
    vx_CVW R s args own C index y bytes maxL ret hh ws rm mc ms n := by
  obtain ⟨hC, hd⟩ := hd
  subst hC
  have ok : ∀ w ∈ wsV own index y.cls y ws, w.before args s = true := fun w h => ht w (hT w h).1
  have hG : GoodIn Ts ws := fun w h => hT w (by unfold wsV; exact List.mem_append_right _ h)
  have hc : Cond.codeWith y bytes maxL ret hh ∈ ws := by rw [hw]; exact List.mem_cons_self
  refine ⟨⟨hrc, hrs, hR.1, hR.2, pay_in ht hG, hc⟩, ht _ (hG _ hc).1, ok _ (by simp [wsV]), ⟨hd.1, hd.2.1⟩, fun sig h => ?_, ok _ (by simp [wsV]), ok _ (by simp [wsV]), ok _ (by simp [wsV])⟩
  have h2 := hd.2.2
  rw [h] at h2
  exact (Option.some.inj h2).symm
theorem vx_runVW {y : MethodName} {bytes cc : ByteArray} {maxL nL mc ms n index : Nat} {ret : Option FieldType} {hh : List (Nat × Nat × Nat × Nat)} {ws : List Cond} {rm : Room} {Pc : Array Value → State → Prop} {Qc : Array Value → State → Outcome → State → Prop} {free : Addr → Prop} {Ts : List Cond} {own C : String} {b : Addr} {As rest : List Value} {g : JFrame}
    (S : CallFix p m c cc nL s args Ts own) (hM : Met l y ws rm Pc Qc mc ms free) (cw : vx_CVW R s args own C index y bytes maxL ret hh ws rm mc ms n) (hp : PreV s H C b Pc As)
    (hg : g.method = m) (hn : As.length = n) (hsize : g.locals.size = nL) (hstack : g.stack = As.reverse ++ .ref b :: rest) (hW : 2 * g.monitorRoom + (rest.map fun v => v.category).sum ≤ 8) (hdg : decode cc g.pc = .ok (.invokevirtual index, 3)) (hf : cells + mc ≤ R.cells ∧ slots + ms ≤ R.slots) :
    va_Run p l e R s m args below meth c H locs cells slots mc ms g rest (Qc (Value.ref b :: As).toArray) free := by
  obtain ⟨⟨hrc, hrs, hfr, hlo, hws, hcw⟩, hcode, hini, hy, hlen, hl, hin, hse⟩ := cw
  have hK : Back l R p e below s args y 3 8 (PreOf R mc ms Pc) (PostOf Qc mc ms free) := va_backW (hh := hh) (bytes := bytes) (maxL := maxL) (ret := ret) hM hp.1 hrc hrs hfr hlo hws hcw (fun a' U hW => word_at hW (Or.inl (by first | rfl | simp [Cond.onTables, Cond.keeps, Cond.steady])) hini)
  obtain ⟨hx, hb, hml, ho, -⟩ := S
  obtain ⟨-, ⟨cellB, hcB, hoB, hclB⟩, hPc⟩ := hp
  intro T hT X
  obtain ⟨v, vm₁, ⟨U', l2, c2, s2⟩, hW₁, X', ⟨g', mk, t, L, e1, e2, hq, h1, hL, h2, h3⟩, st⟩ := vx_callVW X hx (C := C) (hh := hh) (bytes := bytes) (maxL := maxL) (ret := ret) ho hl hin hse hcode hy hK (by rw [hT]; exact hcB) hoB hclB hg (hsize.trans hml.symm) (argsL := As) (rest := rest) (fun sig h => hn.trans (hlen sig h)) hstack hW (by rw [hb]; exact hdg)
    (fun vm₁ hW₁ => ⟨hf.1, hf.2, hPc (T.setVm vm₁) hT hW₁⟩)
  dsimp only [Pt.U, Pt.locs, Pt.cells, Pt.slots] at X' e1 e2 h1 h2 h3 st
  subst h1; subst h2; subst h3
  exact ⟨v, (T.setVm vm₁).calling g' mk (Value.ref b :: As).toArray, t, U', L, hT, X', hL, e1, e2, hq, st⟩
section
variable {y : MethodName} {bytes cc : ByteArray} {maxL nL mc ms n index : Nat} {ret : Option FieldType} {ws : List Cond} {rm : Room} {Pc : Array Value → State → Prop} {Qc : Array Value → State → Outcome → State → Prop} {XC : String → State → State → Prop} {free : Addr → Prop} {Ts : List Cond} {own C : String} {b : Addr} {As rest : List Value} {g : JFrame}
theorem vx_runVX {hh : List (Nat × Nat × Nat × Nat)} (S : CallFix p m c cc nL s args Ts own) (hM : vx_Met l y ws rm Pc Qc XC mc ms free) (cw : vx_CVW R s args own C index y bytes maxL ret hh ws rm mc ms n) (hp : PreV s H C b Pc As)
    (hg : g.method = m) (hn : As.length = n) (hsize : g.locals.size = nL) (hstack : g.stack = As.reverse ++ .ref b :: rest) (hW : 2 * g.monitorRoom + (rest.map fun v => v.category).sum ≤ 8) (hdg : decode cc g.pc = .ok (.invokevirtual index, 3)) (hf : cells + mc ≤ R.cells ∧ slots + ms ≤ R.slots) :
    vx_Run p l e R s m args below meth c H locs cells slots mc ms g rest (Qc (Value.ref b :: As).toArray) XC free := by
  obtain ⟨⟨hrc, hrs, hfr, hlo, hws, hcw⟩, hcode, hini, hy, hlen, hl, hin, hse⟩ := cw
  have hK : vx_Back l R p e below s args y 3 8 (PreOf R mc ms Pc) (PostOf Qc mc ms free) (vx_Post XC mc ms free) := vx_backW (hh := hh) (bytes := bytes) (maxL := maxL) (ret := ret) hM hp.1 hrc hrs hfr hlo hws hcw (fun a' U hW => word_at hW (Or.inl (by first | rfl | simp [Cond.onTables, Cond.keeps, Cond.steady])) hini)
  obtain ⟨hx, hb, hml, ho, -⟩ := S
  obtain ⟨-, ⟨cellB, hcB, hoB, hclB⟩, hPc⟩ := hp
  intro T hT X
  rcases vx_callVX X hx (C := C) (hh := hh) (bytes := bytes) (maxL := maxL) (ret := ret) ho hl hin hse hcode hy hK (by rw [hT]; exact hcB) hoB hclB hg (hsize.trans hml.symm) (argsL := As) (rest := rest) (fun sig h => hn.trans (hlen sig h)) hstack hW (by rw [hb]; exact hdg)
    (fun vm₁ hW₁ => ⟨hf.1, hf.2, hPc (T.setVm vm₁) hT hW₁⟩) with ⟨v, vm₁, ⟨U', l2, c2, s2⟩, hW₁, X', ⟨g', mk, t, L, e1, e2, hq, h1, hL, h2, h3⟩, st⟩ | ⟨q, vm₁, ⟨U', l2, c2, s2⟩, hW₁, X', ⟨g', mk, t, L, E, ce, e1, e2, hq, hce, hcv, hcl, h1, hL, h2, h3⟩, st⟩
  · dsimp only [Pt.U, Pt.locs, Pt.cells, Pt.slots] at X' e1 e2 h1 h2 h3 st
    subst h1; subst h2; subst h3
    exact Or.inl ⟨v, (T.setVm vm₁).calling g' mk (Value.ref b :: As).toArray, t, U', L, hT, X', hL, e1, e2, hq, st⟩
  · dsimp only [Pt.U, Pt.locs, Pt.cells, Pt.slots] at X' e1 e2 h1 h2 h3 st hcl
    subst h1; subst h2; subst h3
    exact Or.inr ⟨q, (T.setVm vm₁).calling g' mk (Value.ref b :: As).toArray, t, U', L, E, ce, hT, X', hL, e1, e2, hq, hce, hcv, vx_cls hW₁ hcl, st⟩
theorem vx_runSX {hh : List (Nat × Nat × Nat × Nat)} (S : CallFix p m c cc nL s args Ts own) (hM : vx_Met l y ws rm Pc Qc XC mc ms free) (cw : vx_CSW R s args own index y bytes maxL ret hh ws rm mc ms n) (hp : PreS s H Pc As)
    (hg : g.method = m) (hn : As.length = n) (hsize : g.locals.size = nL) (hstack : g.stack = As.reverse ++ rest) (hW : 2 * g.monitorRoom + (rest.map fun v => v.category).sum ≤ 8) (hdg : decode cc g.pc = .ok (.invokestatic index, 3)) (hf : cells + mc ≤ R.cells ∧ slots + ms ≤ R.slots) :
    vx_Run p l e R s m args below meth c H locs cells slots mc ms g rest (Qc As.toArray) XC free := by
  obtain ⟨⟨hrc, hrs, hfr, hlo, hws, hcw⟩, hcode, hini, hy, hlen, hl, hstt⟩ := cw
  have hK : vx_Back l R p e below s args y 3 8 (PreOf R mc ms Pc) (PostOf Qc mc ms free) (vx_Post XC mc ms free) := vx_backW (hh := hh) (bytes := bytes) (maxL := maxL) (ret := ret) hM hp.1 hrc hrs hfr hlo hws hcw (fun a' U hW => word_at hW (Or.inl (by first | rfl | simp [Cond.onTables, Cond.keeps, Cond.steady])) hini)
  obtain ⟨hx, hb, hml, ho, -⟩ := S
  intro T hT X
  rcases vx_callSX X hx (hh := hh) (bytes := bytes) (maxL := maxL) (ret := ret) ho hl hstt hini hcode hy hK hg (hsize.trans hml.symm) (argsL := As) (rest := rest) (fun sig h => hn.trans (hlen sig h)) hstack hW (by rw [hb]; exact hdg)
    (fun vm₁ hW₁ => ⟨hf.1, hf.2, hp.2 (T.setVm vm₁) hT hW₁⟩) with ⟨v, vm₁, ⟨U', l2, c2, s2⟩, hW₁, X', ⟨g', mk, t, L, e1, e2, hq, h1, hL, h2, h3⟩, st⟩ | ⟨q, vm₁, ⟨U', l2, c2, s2⟩, hW₁, X', ⟨g', mk, t, L, E, ce, e1, e2, hq, hce, hcv, hcl, h1, hL, h2, h3⟩, st⟩
  · dsimp only [Pt.U, Pt.locs, Pt.cells, Pt.slots] at X' e1 e2 h1 h2 h3 st
    subst h1; subst h2; subst h3
    exact Or.inl ⟨v, (T.setVm vm₁).calling g' mk As.toArray, t, U', L, hT, X', hL, e1, e2, hq, st⟩
  · dsimp only [Pt.U, Pt.locs, Pt.cells, Pt.slots] at X' e1 e2 h1 h2 h3 st hcl
    subst h1; subst h2; subst h3
    exact Or.inr ⟨q, (T.setVm vm₁).calling g' mk As.toArray, t, U', L, E, ce, hT, X', hL, e1, e2, hq, hce, hcv, vx_cls hW₁ hcl, st⟩
end
end VXH
theorem vx_ofWH {l : Launch} {y : MethodName} {ws ws' : List Cond} {rm : Room} {Pc : Array Value → State → Prop} {Qc : Array Value → State → Outcome → State → Prop} {XC : String → State → State → Prop} {mc ms : Nat} {free : Addr → Prop} {cc : ByteArray} {maxL : Nat} {ret : Option FieldType} {hh : List (Nat × Nat × Nat × Nat)}
    (hy : plainName y.cls = true) (hw : ws = Cond.codeWith y cc maxL ret hh :: ws')
    (body : ∀ p e s m args below meth c s₁, BodyLoose p l y (headSpec ws rm) cc maxL ret e s m args below meth c s₁ → c.maxLocals = maxL → Pc args s →
      W p l e (headSpec ws rm).room s m args below meth c s.heap [] 0 0 (vx_MQ below Qc XC args s mc ms free) (entryFrame m args maxL)) : vx_Met l y ws rm Pc Qc XC mc ms free := by
  refine MetFree.of_bodyS (code := cc) (maxLocals := maxL) (ret := ret) hy ?_ ?_
  · intro args s m h hn
    obtain ⟨m9, meth, c, hn9, h1, h2, h3, h4, -, h5, h6, -⟩ := Cond.codeWith_spec (atoms_spec (ws := ws) h _ (by rw [hw]; exact List.mem_cons_self))
    cases hn.symm.trans hn9
    exact ⟨meth, c, h1, h2, h3, h4, h5, h6⟩
  · intro p e s m args below meth c s₁ B hml hP _
    have hh0 : s₁.heap = s.heap := by rw [B.state]; rfl
    obtain ⟨t, a1, o, b1, b2, b3⟩ := body p e s m args below meth c s₁ B hml hP s₁ hh0 (Stand.of_body B)
    exact ⟨t, o, a1, b1, b2, b3⟩
/-! ===== END ===== -/
end
section
def RX0 : String := "StrainRows"
def RX1 : String := "StrainRowsModel"
def RL : String := "StrainRowsLaw"
def RJ : String := "java/lang/Math"
def TX0 : u_T := fun k => match k with
  | 0 => ("StrainRows", "strains", "[I", true)
  | 1 => ("StrainRows", "forces", "[I", true)
  | 2 => ("StrainRows", "rowCount", "I", false)
  | 3 => ("StrainRows", "area", "I", false)
  | 4 => ("StrainRows", "slack", "I", false)
  | 5 => ("StrainRows", "modulusUpper", "J", false)
  | 6 => ("StrainRows", "modulusLower", "J", false)
  | 7 => ("StrainRows", "checkFailed", "Z", false)
  | 8 => ("StrainRows", "impactCount", "I", false)
  | 9 => ("StrainRows", "degreesSum", "J", false)
  | 10 => ("StrainRows", "joulesSum", "J", false)
  | 11 => ("StrainRows", "productsSum", "J", false)
  | 12 => ("StrainRows", "squaresSum", "J", false)
  | 13 => ("StrainRows", "tableXs", "[I", true)
  | 14 => ("StrainRows", "tableYs", "[I", true)
  | _ => ("StrainRows", "tableCount", "I", false)
def tyX0 : Nat → FieldType := fun k => match k with
  | 0 => .array .int
  | 1 => .array .int
  | 2 => .int
  | 3 => .int
  | 4 => .int
  | 5 => .long
  | 6 => .long
  | 7 => .boolean
  | 8 => .int
  | 9 => .long
  | 10 => .long
  | 11 => .long
  | 12 => .long
  | 13 => .array .int
  | 14 => .array .int
  | _ => .int
abbrev wsX00 : List Cond := u_ws RX0 TX0 16
theorem nmX0 : ∀ a, a < 16 → ∀ b, b < 16 → a ≠ b → (TX0 a).2.1 ≠ (TX0 b).2.1 := by decide +kernel
theorem tyX0_ok : ∀ k, k < 16 → parseFieldDescriptor (TX0 k).2.2.1 = some (tyX0 k) := by decide +kernel
def TX1 : u_T := fun k => match k with
  | 0 => ("StrainRowsModel", "thrown", "I", false)
  | 1 => ("StrainRowsModel", "rows", "I", false)
  | 2 => ("StrainRowsModel", "strain", "[I", true)
  | 3 => ("StrainRowsModel", "force", "[I", true)
  | 4 => ("StrainRowsModel", "area", "I", false)
  | 5 => ("StrainRowsModel", "slack", "I", false)
  | 6 => ("StrainRowsModel", "hard", "Z", false)
  | 7 => ("StrainRowsModel", "hardUp", "J", false)
  | 8 => ("StrainRowsModel", "hardDown", "J", false)
  | 9 => ("StrainRowsModel", "impacts", "I", false)
  | 10 => ("StrainRowsModel", "degrees", "[I", true)
  | 11 => ("StrainRowsModel", "joules", "[I", true)
  | 12 => ("StrainRowsModel", "tables", "I", false)
  | 13 => ("StrainRowsModel", "tableX", "[I", true)
  | 14 => ("StrainRowsModel", "tableY", "[I", true)
  | 15 => ("StrainRowsModel", "failed", "Z", false)
  | 16 => ("StrainRowsModel", "up", "J", false)
  | _ => ("StrainRowsModel", "down", "J", false)
def tyX1 : Nat → FieldType := fun k => match k with
  | 0 => .int
  | 1 => .int
  | 2 => .array .int
  | 3 => .array .int
  | 4 => .int
  | 5 => .int
  | 6 => .boolean
  | 7 => .long
  | 8 => .long
  | 9 => .int
  | 10 => .array .int
  | 11 => .array .int
  | 12 => .int
  | 13 => .array .int
  | 14 => .array .int
  | 15 => .boolean
  | 16 => .long
  | _ => .long
abbrev wsX10 : List Cond := u_ws RX1 TX1 18
theorem nmX1 : ∀ a, a < 18 → ∀ b, b < 18 → a ≠ b → (TX1 a).2.1 ≠ (TX1 b).2.1 := by decide +kernel
theorem tyX1_ok : ∀ k, k < 18 → parseFieldDescriptor (TX1 k).2.2.1 = some (tyX1 k) := by decide +kernel
abbrev cX0_init : ByteArray := prog_1_method_1_code
def yX0_init : MethodName := ⟨RX0, "<init>", "()V"⟩
abbrev cX0_invalid : ByteArray := prog_1_method_14_code
def yX0_invalid : MethodName := ⟨RX0, "invalid", "()I"⟩
abbrev cX0_firstRowOfGreatestForce : ByteArray := prog_1_method_23_code
def yX0_firstRowOfGreatestForce : MethodName := ⟨RX0, "firstRowOfGreatestForce", "()I"⟩
abbrev cX0_fallsBelowHalfBehind : ByteArray := prog_1_method_24_code
def yX0_fallsBelowHalfBehind : MethodName := ⟨RX0, "fallsBelowHalfBehind", "(I)Z"⟩
abbrev cX0_clear : ByteArray := prog_1_method_15_code
def yX0_clear : MethodName := ⟨RX0, "clear", "()V"⟩
abbrev cL_row : ByteArray := method_3_code
def yL_row : MethodName := ⟨RL, "row", "(LStrainRows;II[J)I"⟩
abbrev cX0_row : ByteArray := prog_1_method_2_code
def yX0_row : MethodName := ⟨RX0, "row", "(II)I"⟩
abbrev cX0_isWithin : ByteArray := prog_1_method_16_code
def yX0_isWithin : MethodName := ⟨RX0, "isWithin", "(III)Z"⟩
abbrev cL_section : ByteArray := method_4_code
def yL_section : MethodName := ⟨RL, "section", "(LStrainRows;II)I"⟩
abbrev cX0_section : ByteArray := prog_1_method_3_code
def yX0_section : MethodName := ⟨RX0, "section", "(II)V"⟩
abbrev cL_slope : ByteArray := method_5_code
def yL_slope : MethodName := ⟨RL, "slope", "(LStrainRows;III[J)I"⟩
abbrev cX0_slope : ByteArray := prog_1_method_4_code
def yX0_slope : MethodName := ⟨RX0, "slope", "(III)J"⟩
abbrev cX0_refuseNoSuchPart : ByteArray := prog_1_method_17_code
def yX0_refuseNoSuchPart : MethodName := ⟨RX0, "refuseNoSuchPart", "(I)V"⟩
abbrev cX0_firstRowFrom : ByteArray := prog_1_method_19_code
def yX0_firstRowFrom : MethodName := ⟨RX0, "firstRowFrom", "(I)I"⟩
abbrev cX0_lastRowUpTo : ByteArray := prog_1_method_20_code
def yX0_lastRowUpTo : MethodName := ⟨RX0, "lastRowUpTo", "(I)I"⟩
abbrev cX0_partInLowestTerms : ByteArray := prog_1_method_27_code
def yX0_partInLowestTerms : MethodName := ⟨RX0, "partInLowestTerms", "(JJI)J"⟩
abbrev cX0_greatestCommonDivisor : ByteArray := prog_1_method_28_code
def yX0_greatestCommonDivisor : MethodName := ⟨RX0, "greatestCommonDivisor", "(JJ)J"⟩
abbrev cL_offset : ByteArray := method_6_code
def yL_offset : MethodName := ⟨RL, "offset", "(LStrainRows;II[J)I"⟩
abbrev cX0_offset : ByteArray := prog_1_method_5_code
def yX0_offset : MethodName := ⟨RX0, "offset", "(II)J"⟩
abbrev cX0_meetingRow : ByteArray := prog_1_method_21_code
def yX0_meetingRow : MethodName := ⟨RX0, "meetingRow", "(I)I"⟩
abbrev cX0_excessOverLine : ByteArray := prog_1_method_22_code
def yX0_excessOverLine : MethodName := ⟨RX0, "excessOverLine", "(II)J"⟩
abbrev cL_peak : ByteArray := method_7_code
def yL_peak : MethodName := ⟨RL, "peak", "(LStrainRows;I[J)I"⟩
abbrev cX0_peak : ByteArray := prog_1_method_6_code
def yX0_peak : MethodName := ⟨RX0, "peak", "(I)I"⟩
abbrev cL_stretch : ByteArray := method_8_code
def yL_stretch : MethodName := ⟨RL, "stretch", "(LStrainRows;III[J)I"⟩
abbrev cX0_stretch : ByteArray := prog_1_method_7_code
def yX0_stretch : MethodName := ⟨RX0, "stretch", "(III)J"⟩
abbrev cL_impact : ByteArray := method_9_code
def yL_impact : MethodName := ⟨RL, "impact", "(LStrainRows;II[J)I"⟩
abbrev cX0_impact : ByteArray := prog_1_method_8_code
def yX0_impact : MethodName := ⟨RX0, "impact", "(II)I"⟩
abbrev cL_fitted : ByteArray := method_10_code
def yL_fitted : MethodName := ⟨RL, "fitted", "(LStrainRows;II[J)I"⟩
abbrev cX0_fitted : ByteArray := prog_1_method_9_code
def yX0_fitted : MethodName := ⟨RX0, "fitted", "(II)J"⟩
abbrev cL_table : ByteArray := method_11_code
def yL_table : MethodName := ⟨RL, "table", "(LStrainRows;II[J)I"⟩
abbrev cX0_table : ByteArray := prog_1_method_10_code
def yX0_table : MethodName := ⟨RX0, "table", "(II)I"⟩
abbrev cL_convert : ByteArray := method_12_code
def yL_convert : MethodName := ⟨RL, "convert", "(LStrainRows;II[J)I"⟩
abbrev cX0_convert : ByteArray := prog_1_method_11_code
def yX0_convert : MethodName := ⟨RX0, "convert", "(II)I"⟩
abbrev cX0_refuseNoSuchRule : ByteArray := prog_1_method_18_code
def yX0_refuseNoSuchRule : MethodName := ⟨RX0, "refuseNoSuchRule", "(I)V"⟩
abbrev cX0_firstTableRowFrom : ByteArray := prog_1_method_25_code
def yX0_firstTableRowFrom : MethodName := ⟨RX0, "firstTableRowFrom", "(I)I"⟩
abbrev cX0_roundedByRule : ByteArray := prog_1_method_26_code
def yX0_roundedByRule : MethodName := ⟨RX0, "roundedByRule", "(JJI)J"⟩
abbrev cJ_floorDiv : ByteArray := prog_8_method_49_code
def yJ_floorDiv : MethodName := ⟨RJ, "floorDiv", "(JJ)J"⟩
abbrev cL_round : ByteArray := method_13_code
def yL_round : MethodName := ⟨RL, "round", "(LStrainRows;JJI[J)I"⟩
abbrev cX0_round : ByteArray := prog_1_method_12_code
def yX0_round : MethodName := ⟨RX0, "round", "(JJI)J"⟩
abbrev cL_machine : ByteArray := method_14_code
def yL_machine : MethodName := ⟨RL, "machine", "(LStrainRows;II[J)I"⟩
abbrev cX0_machine : ByteArray := prog_1_method_13_code
def yX0_machine : MethodName := ⟨RX0, "machine", "(II)Z"⟩
abbrev cX1_init : ByteArray := prog_3_method_1_code
def yX1_init : MethodName := ⟨RX1, "<init>", "()V"⟩
abbrev cX1_thrown : ByteArray := prog_3_method_2_code
def yX1_thrown : MethodName := ⟨RX1, "thrown", "()I"⟩
abbrev cX1_row : ByteArray := prog_3_method_7_code
def yX1_row : MethodName := ⟨RX1, "row", "(II)I"⟩
abbrev cX1_in : ByteArray := prog_3_method_3_code
def yX1_in : MethodName := ⟨RX1, "in", "(III)Z"⟩
abbrev cX1_goes : ByteArray := prog_3_method_5_code
def yX1_goes : MethodName := ⟨RX1, "goes", "(ZZZZ)Z"⟩
abbrev cX1_section : ByteArray := prog_3_method_8_code
def yX1_section : MethodName := ⟨RX1, "section", "(II)V"⟩
abbrev cX1_slope : ByteArray := prog_3_method_9_code
def yX1_slope : MethodName := ⟨RX1, "slope", "(III)J"⟩
abbrev cX1_part : ByteArray := prog_3_method_6_code
def yX1_part : MethodName := ⟨RX1, "part", "(JJI)J"⟩
abbrev cX1_offset : ByteArray := prog_3_method_11_code
def yX1_offset : MethodName := ⟨RX1, "offset", "(II)J"⟩
abbrev cX1_above : ByteArray := prog_3_method_10_code
def yX1_above : MethodName := ⟨RX1, "above", "(II)J"⟩
abbrev cX1_peak : ByteArray := prog_3_method_13_code
def yX1_peak : MethodName := ⟨RX1, "peak", "(I)I"⟩
abbrev cX1_peakRow : ByteArray := prog_3_method_12_code
def yX1_peakRow : MethodName := ⟨RX1, "peakRow", "()I"⟩
abbrev cX1_stretch : ByteArray := prog_3_method_14_code
def yX1_stretch : MethodName := ⟨RX1, "stretch", "(III)J"⟩
abbrev cX1_impact : ByteArray := prog_3_method_15_code
def yX1_impact : MethodName := ⟨RX1, "impact", "(II)I"⟩
abbrev cX1_fitted : ByteArray := prog_3_method_16_code
def yX1_fitted : MethodName := ⟨RX1, "fitted", "(II)J"⟩
abbrev cX1_table : ByteArray := prog_3_method_17_code
def yX1_table : MethodName := ⟨RX1, "table", "(II)I"⟩
abbrev cX1_convert : ByteArray := prog_3_method_19_code
def yX1_convert : MethodName := ⟨RX1, "convert", "(II)I"⟩
abbrev cX1_rounded : ByteArray := prog_3_method_18_code
def yX1_rounded : MethodName := ⟨RX1, "rounded", "(JJI)J"⟩
abbrev cX1_round : ByteArray := prog_3_method_20_code
def yX1_round : MethodName := ⟨RX1, "round", "(JJI)J"⟩
abbrev cX1_in8 : ByteArray := prog_3_method_4_code
def yX1_in8 : MethodName := ⟨RX1, "in8", "(JJJ)Z"⟩
abbrev cX1_machine : ByteArray := prog_3_method_21_code
def yX1_machine : MethodName := ⟨RX1, "machine", "(II)Z"⟩
abbrev cX1_invalid : ByteArray := prog_3_method_22_code
def yX1_invalid : MethodName := ⟨RX1, "invalid", "()I"⟩
abbrev cX1_clear : ByteArray := prog_3_method_23_code
def yX1_clear : MethodName := ⟨RX1, "clear", "()V"⟩
abbrev cL_law : ByteArray := code
abbrev vwCl : List vw_C := [(RX0, TX0, 16), (RX1, TX1, 18)]
/-- the words that every method here may use: the good ones of the tables -/
def W0 : List Cond := lw_tbl.filter goodWord
theorem gw {w : Cond} (i : Nat) (h : tables_1[i]? = some w) (hg : goodWord w = true) : w ∈ W0 := List.mem_filter.mpr ⟨List.mem_append_right _ (List.mem_of_getElem? h), hg⟩
theorem gs {w : Cond} (i : Nat) (h : (k2_sels lw_privs)[i]? = some w) (hg : goodWord w = true) : w ∈ W0 := List.mem_filter.mpr ⟨List.mem_append_left _ (List.mem_of_getElem? h), hg⟩
theorem W0_good {w : Cond} (h : w ∈ W0) : (w.onTables && w.keeps) = true ∨ ∃ ty, w = .arrayClass ty := good_of_word (List.mem_filter.mp h).2
theorem g0 {cw : Cond} {ws : List Cond} (h : ∀ w ∈ ws, w ∈ W0) : GoodIn (cw :: W0) ws := fun w hw => ⟨List.mem_cons_of_mem _ (h w hw), W0_good (h w hw)⟩
theorem in_c {P : Cond → Prop} {a : Cond} {l : List Cond} (h : P a) (t : ∀ w ∈ l, P w) : ∀ w ∈ a :: l, P w := fun w hw => (List.mem_cons.mp hw).elim (fun e => by rw [e]; exact h) (t w)
theorem in_n {P : Cond → Prop} : ∀ w ∈ ([] : List Cond), P w := fun _ h => nomatch h
theorem gS {cw cw' : Cond} {own : String} {idx : Nat} {y : MethodName} (h1 : .methodLink own idx y ∈ W0) (h2 : .static y ∈ W0) (h3 : .initialized y.cls ∈ W0) (h4 : cw' ∈ W0) : GoodIn (cw :: W0) (va_wsS own idx y (cw' :: W0)) := g0 (in_c h1 (in_c h2 (in_c h3 (in_c h4 (fun _ h => h)))))
theorem gV {cw cw' : Cond} {own C : String} {idx : Nat} {y : MethodName} (h1 : .methodLink own idx y ∈ W0) (h2 : .instanceMethod y ∈ W0) (h3 : .selects C y y ∈ W0) (h5 : .initialized C ∈ W0) (h4 : cw' ∈ W0) : GoodIn (cw :: W0) (wsV own idx C y (cw' :: W0)) := g0 (in_c h1 (in_c h2 (in_c h3 (in_c h5 (in_c h4 (fun _ h => h))))))
def wsX0_init : List Cond := .code yX0_init cX0_init 1 none :: W0
def wsX0_invalid : List Cond := .code yX0_invalid cX0_invalid 2 (some .int) :: W0
def wsX0_firstRowOfGreatestForce : List Cond := .code yX0_firstRowOfGreatestForce cX0_firstRowOfGreatestForce 3 (some .int) :: W0
def wsX0_fallsBelowHalfBehind : List Cond := .code yX0_fallsBelowHalfBehind cX0_fallsBelowHalfBehind 3 (some .boolean) :: W0
def wsX0_clear : List Cond := .code yX0_clear cX0_clear 1 none :: W0
def wsL_row : List Cond := .codeWith yL_row cL_row 5 (some .int) [(0, 10, 13, 13), (0, 10, 17, 15)] :: W0
def wsX0_row : List Cond := .code yX0_row cX0_row 3 (some .int) :: W0
def wsX0_isWithin : List Cond := .code yX0_isWithin cX0_isWithin 3 (some .boolean) :: W0
def wsL_section : List Cond := .codeWith yL_section cL_section 4 (some .int) [(0, 6, 9, 13)] :: W0
def wsX0_section : List Cond := .code yX0_section cX0_section 3 none :: W0
def wsL_slope : List Cond := .codeWith yL_slope cL_slope 6 (some .int) [(0, 11, 14, 25), (0, 11, 18, 13), (0, 11, 22, 15)] :: W0
def wsX0_slope : List Cond := .code yX0_slope cX0_slope 10 (some .long) :: W0
def wsX0_refuseNoSuchPart : List Cond := .code yX0_refuseNoSuchPart cX0_refuseNoSuchPart 1 none :: W0
def wsX0_firstRowFrom : List Cond := .code yX0_firstRowFrom cX0_firstRowFrom 3 (some .int) :: W0
def wsX0_lastRowUpTo : List Cond := .code yX0_lastRowUpTo cX0_lastRowUpTo 3 (some .int) :: W0
def wsX0_partInLowestTerms : List Cond := .code yX0_partInLowestTerms cX0_partInLowestTerms 9 (some .long) :: W0
def wsX0_greatestCommonDivisor : List Cond := .code yX0_greatestCommonDivisor cX0_greatestCommonDivisor 11 (some .long) :: W0
def wsL_offset : List Cond := .codeWith yL_offset cL_offset 5 (some .int) [(0, 9, 12, 25), (0, 9, 16, 31), (0, 9, 20, 13)] :: W0
def wsX0_offset : List Cond := .code yX0_offset cX0_offset 11 (some .long) :: W0
def wsX0_meetingRow : List Cond := .code yX0_meetingRow cX0_meetingRow 3 (some .int) :: W0
def wsX0_excessOverLine : List Cond := .code yX0_excessOverLine cX0_excessOverLine 3 (some .long) :: W0
def wsL_peak : List Cond := .codeWith yL_peak cL_peak 4 (some .int) [(0, 9, 12, 25), (0, 9, 15, 31)] :: W0
def wsX0_peak : List Cond := .code yX0_peak cX0_peak 3 (some .int) :: W0
def wsL_stretch : List Cond := .codeWith yL_stretch cL_stretch 6 (some .int) [(0, 11, 14, 25), (0, 11, 18, 13)] :: W0
def wsX0_stretch : List Cond := .code yX0_stretch cX0_stretch 4 (some .long) :: W0
def wsL_impact : List Cond := .codeWith yL_impact cL_impact 5 (some .int) [(0, 10, 13, 13), (0, 10, 17, 15)] :: W0
def wsX0_impact : List Cond := .code yX0_impact cX0_impact 3 (some .int) :: W0
def wsL_fitted : List Cond := .codeWith yL_fitted cL_fitted 5 (some .int) [(0, 9, 12, 25), (0, 9, 16, 31), (0, 9, 20, 13)] :: W0
def wsX0_fitted : List Cond := .code yX0_fitted cX0_fitted 9 (some .long) :: W0
def wsL_table : List Cond := .codeWith yL_table cL_table 5 (some .int) [(0, 10, 13, 13), (0, 10, 17, 15)] :: W0
def wsX0_table : List Cond := .code yX0_table cX0_table 3 (some .int) :: W0
def wsL_convert : List Cond := .codeWith yL_convert cL_convert 5 (some .int) [(0, 10, 13, 25), (0, 10, 17, 31), (0, 10, 21, 13), (0, 10, 25, 15)] :: W0
def wsX0_convert : List Cond := .code yX0_convert cX0_convert 8 (some .int) :: W0
def wsX0_refuseNoSuchRule : List Cond := .code yX0_refuseNoSuchRule cX0_refuseNoSuchRule 1 none :: W0
def wsX0_firstTableRowFrom : List Cond := .code yX0_firstTableRowFrom cX0_firstTableRowFrom 3 (some .int) :: W0
def wsX0_roundedByRule : List Cond := .code yX0_roundedByRule cX0_roundedByRule 11 (some .long) :: W0
def wsJ_floorDiv : List Cond := .code yJ_floorDiv cJ_floorDiv 6 (some .long) :: W0
def wsL_round : List Cond := .codeWith yL_round cL_round 8 (some .int) [(0, 12, 15, 25), (0, 12, 19, 13)] :: W0
def wsX0_round : List Cond := .code yX0_round cX0_round 6 (some .long) :: W0
def wsL_machine : List Cond := .codeWith yL_machine cL_machine 5 (some .int) [(0, 17, 20, 13)] :: W0
def wsX0_machine : List Cond := .code yX0_machine cX0_machine 3 (some .boolean) :: W0
def wsX1_init : List Cond := .code yX1_init cX1_init 1 none :: W0
def wsX1_thrown : List Cond := .code yX1_thrown cX1_thrown 1 (some .int) :: W0
def wsX1_row : List Cond := .code yX1_row cX1_row 4 (some .int) :: W0
def wsX1_in : List Cond := .code yX1_in cX1_in 3 (some .boolean) :: W0
def wsX1_goes : List Cond := .code yX1_goes cX1_goes 5 (some .boolean) :: W0
def wsX1_section : List Cond := .code yX1_section cX1_section 3 none :: W0
def wsX1_slope : List Cond := .code yX1_slope cX1_slope 8 (some .long) :: W0
def wsX1_part : List Cond := .code yX1_part cX1_part 12 (some .long) :: W0
def wsX1_offset : List Cond := .code yX1_offset cX1_offset 8 (some .long) :: W0
def wsX1_above : List Cond := .code yX1_above cX1_above 3 (some .long) :: W0
def wsX1_peak : List Cond := .code yX1_peak cX1_peak 3 (some .int) :: W0
def wsX1_peakRow : List Cond := .code yX1_peakRow cX1_peakRow 3 (some .int) :: W0
def wsX1_stretch : List Cond := .code yX1_stretch cX1_stretch 4 (some .long) :: W0
def wsX1_impact : List Cond := .code yX1_impact cX1_impact 3 (some .int) :: W0
def wsX1_fitted : List Cond := .code yX1_fitted cX1_fitted 17 (some .long) :: W0
def wsX1_table : List Cond := .code yX1_table cX1_table 4 (some .int) :: W0
def wsX1_convert : List Cond := .code yX1_convert cX1_convert 6 (some .int) :: W0
def wsX1_rounded : List Cond := .code yX1_rounded cX1_rounded 10 (some .long) :: W0
def wsX1_round : List Cond := .code yX1_round cX1_round 6 (some .long) :: W0
def wsX1_in8 : List Cond := .code yX1_in8 cX1_in8 6 (some .boolean) :: W0
def wsX1_machine : List Cond := .code yX1_machine cX1_machine 4 (some .boolean) :: W0
def wsX1_invalid : List Cond := .code yX1_invalid cX1_invalid 4 (some .int) :: W0
def wsX1_clear : List Cond := .code yX1_clear cX1_clear 1 none :: W0
end
section
theorem wi_X0 : Cond.initialized RX0 ∈ W0 := gw 1 (by decide +kernel) (by decide +kernel)
theorem wi_X1 : Cond.initialized RX1 ∈ W0 := gw 2 (by decide +kernel) (by decide +kernel)
theorem wi_L : Cond.initialized RL ∈ W0 := gw 0 (by decide +kernel) (by decide +kernel)
theorem wi_J : Cond.initialized RJ ∈ W0 := gw 9 (by decide +kernel) (by decide +kernel)
theorem wi_IllegalArgument : Cond.initialized "java/lang/IllegalArgumentException" ∈ W0 := gw 6 (by decide +kernel) (by decide +kernel)
theorem wi_IllegalState : Cond.initialized "java/lang/IllegalStateException" ∈ W0 := gw 10 (by decide +kernel) (by decide +kernel)
theorem wi_UnsupportedOperation : Cond.initialized "java/lang/UnsupportedOperationException" ∈ W0 := gw 7 (by decide +kernel) (by decide +kernel)
theorem wi_IndexOutOfBounds : Cond.initialized "java/lang/IndexOutOfBoundsException" ∈ W0 := gw 8 (by decide +kernel) (by decide +kernel)
theorem wc_X0_init : Cond.code yX0_init cX0_init 1 none ∈ W0 := gw 15 (by decide +kernel) (by decide +kernel)
theorem wi_X0_init : Cond.instanceMethod yX0_init ∈ W0 := gw 14 (by decide +kernel) (by decide +kernel)
theorem wc_X0_invalid : Cond.code yX0_invalid cX0_invalid 2 (some .int) ∈ W0 := gw 72 (by decide +kernel) (by decide +kernel)
theorem wi_X0_invalid : Cond.instanceMethod yX0_invalid ∈ W0 := gw 70 (by decide +kernel) (by decide +kernel)
theorem wv_X0_invalid : Cond.selects RX0 yX0_invalid yX0_invalid ∈ W0 := gw 71 (by decide +kernel) (by decide +kernel)
theorem wc_X0_firstRowOfGreatestForce : Cond.code yX0_firstRowOfGreatestForce cX0_firstRowOfGreatestForce 3 (some .int) ∈ W0 := gw 76 (by decide +kernel) (by decide +kernel)
theorem wi_X0_firstRowOfGreatestForce : Cond.instanceMethod yX0_firstRowOfGreatestForce ∈ W0 := gw 75 (by decide +kernel) (by decide +kernel)
theorem wc_X0_fallsBelowHalfBehind : Cond.code yX0_fallsBelowHalfBehind cX0_fallsBelowHalfBehind 3 (some .boolean) ∈ W0 := gw 80 (by decide +kernel) (by decide +kernel)
theorem wi_X0_fallsBelowHalfBehind : Cond.instanceMethod yX0_fallsBelowHalfBehind ∈ W0 := gw 79 (by decide +kernel) (by decide +kernel)
theorem wc_X0_clear : Cond.code yX0_clear cX0_clear 1 none ∈ W0 := gw 84 (by decide +kernel) (by decide +kernel)
theorem wi_X0_clear : Cond.instanceMethod yX0_clear ∈ W0 := gw 82 (by decide +kernel) (by decide +kernel)
theorem wv_X0_clear : Cond.selects RX0 yX0_clear yX0_clear ∈ W0 := gw 83 (by decide +kernel) (by decide +kernel)
theorem wc_L_row : Cond.codeWith yL_row cL_row 5 (some .int) [(0, 10, 13, 13), (0, 10, 17, 15)] ∈ W0 := gw 87 (by decide +kernel) (by decide +kernel)
theorem ws_L_row : Cond.static yL_row ∈ W0 := gw 86 (by decide +kernel) (by decide +kernel)
theorem wc_X0_row : Cond.code yX0_row cX0_row 3 (some .int) ∈ W0 := gw 93 (by decide +kernel) (by decide +kernel)
theorem wi_X0_row : Cond.instanceMethod yX0_row ∈ W0 := gw 91 (by decide +kernel) (by decide +kernel)
theorem wv_X0_row : Cond.selects RX0 yX0_row yX0_row ∈ W0 := gw 92 (by decide +kernel) (by decide +kernel)
theorem wc_X0_isWithin : Cond.code yX0_isWithin cX0_isWithin 3 (some .boolean) ∈ W0 := gw 97 (by decide +kernel) (by decide +kernel)
theorem ws_X0_isWithin : Cond.static yX0_isWithin ∈ W0 := gw 96 (by decide +kernel) (by decide +kernel)
theorem wc_L_section : Cond.codeWith yL_section cL_section 4 (some .int) [(0, 6, 9, 13)] ∈ W0 := gw 186 (by decide +kernel) (by decide +kernel)
theorem ws_L_section : Cond.static yL_section ∈ W0 := gw 185 (by decide +kernel) (by decide +kernel)
theorem wc_X0_section : Cond.code yX0_section cX0_section 3 none ∈ W0 := gw 190 (by decide +kernel) (by decide +kernel)
theorem wi_X0_section : Cond.instanceMethod yX0_section ∈ W0 := gw 188 (by decide +kernel) (by decide +kernel)
theorem wv_X0_section : Cond.selects RX0 yX0_section yX0_section ∈ W0 := gw 189 (by decide +kernel) (by decide +kernel)
theorem wc_L_slope : Cond.codeWith yL_slope cL_slope 6 (some .int) [(0, 11, 14, 25), (0, 11, 18, 13), (0, 11, 22, 15)] ∈ W0 := gw 194 (by decide +kernel) (by decide +kernel)
theorem ws_L_slope : Cond.static yL_slope ∈ W0 := gw 193 (by decide +kernel) (by decide +kernel)
theorem wc_X0_slope : Cond.code yX0_slope cX0_slope 10 (some .long) ∈ W0 := gw 199 (by decide +kernel) (by decide +kernel)
theorem wi_X0_slope : Cond.instanceMethod yX0_slope ∈ W0 := gw 197 (by decide +kernel) (by decide +kernel)
theorem wv_X0_slope : Cond.selects RX0 yX0_slope yX0_slope ∈ W0 := gw 198 (by decide +kernel) (by decide +kernel)
theorem wc_X0_refuseNoSuchPart : Cond.code yX0_refuseNoSuchPart cX0_refuseNoSuchPart 1 none ∈ W0 := gw 202 (by decide +kernel) (by decide +kernel)
theorem ws_X0_refuseNoSuchPart : Cond.static yX0_refuseNoSuchPart ∈ W0 := gw 201 (by decide +kernel) (by decide +kernel)
theorem wc_X0_firstRowFrom : Cond.code yX0_firstRowFrom cX0_firstRowFrom 3 (some .int) ∈ W0 := gw 223 (by decide +kernel) (by decide +kernel)
theorem wi_X0_firstRowFrom : Cond.instanceMethod yX0_firstRowFrom ∈ W0 := gw 222 (by decide +kernel) (by decide +kernel)
theorem wc_X0_lastRowUpTo : Cond.code yX0_lastRowUpTo cX0_lastRowUpTo 3 (some .int) ∈ W0 := gw 227 (by decide +kernel) (by decide +kernel)
theorem wi_X0_lastRowUpTo : Cond.instanceMethod yX0_lastRowUpTo ∈ W0 := gw 226 (by decide +kernel) (by decide +kernel)
theorem wc_X0_partInLowestTerms : Cond.code yX0_partInLowestTerms cX0_partInLowestTerms 9 (some .long) ∈ W0 := gw 231 (by decide +kernel) (by decide +kernel)
theorem ws_X0_partInLowestTerms : Cond.static yX0_partInLowestTerms ∈ W0 := gw 230 (by decide +kernel) (by decide +kernel)
theorem wc_X0_greatestCommonDivisor : Cond.code yX0_greatestCommonDivisor cX0_greatestCommonDivisor 11 (some .long) ∈ W0 := gw 237 (by decide +kernel) (by decide +kernel)
theorem ws_X0_greatestCommonDivisor : Cond.static yX0_greatestCommonDivisor ∈ W0 := gw 236 (by decide +kernel) (by decide +kernel)
theorem wc_L_offset : Cond.codeWith yL_offset cL_offset 5 (some .int) [(0, 9, 12, 25), (0, 9, 16, 31), (0, 9, 20, 13)] ∈ W0 := gw 240 (by decide +kernel) (by decide +kernel)
theorem ws_L_offset : Cond.static yL_offset ∈ W0 := gw 239 (by decide +kernel) (by decide +kernel)
theorem wc_X0_offset : Cond.code yX0_offset cX0_offset 11 (some .long) ∈ W0 := gw 245 (by decide +kernel) (by decide +kernel)
theorem wi_X0_offset : Cond.instanceMethod yX0_offset ∈ W0 := gw 243 (by decide +kernel) (by decide +kernel)
theorem wv_X0_offset : Cond.selects RX0 yX0_offset yX0_offset ∈ W0 := gw 244 (by decide +kernel) (by decide +kernel)
theorem wc_X0_meetingRow : Cond.code yX0_meetingRow cX0_meetingRow 3 (some .int) ∈ W0 := gw 266 (by decide +kernel) (by decide +kernel)
theorem wi_X0_meetingRow : Cond.instanceMethod yX0_meetingRow ∈ W0 := gw 265 (by decide +kernel) (by decide +kernel)
theorem wc_X0_excessOverLine : Cond.code yX0_excessOverLine cX0_excessOverLine 3 (some .long) ∈ W0 := gw 270 (by decide +kernel) (by decide +kernel)
theorem wi_X0_excessOverLine : Cond.instanceMethod yX0_excessOverLine ∈ W0 := gw 269 (by decide +kernel) (by decide +kernel)
theorem wc_L_peak : Cond.codeWith yL_peak cL_peak 4 (some .int) [(0, 9, 12, 25), (0, 9, 15, 31)] ∈ W0 := gw 274 (by decide +kernel) (by decide +kernel)
theorem ws_L_peak : Cond.static yL_peak ∈ W0 := gw 273 (by decide +kernel) (by decide +kernel)
theorem wc_X0_peak : Cond.code yX0_peak cX0_peak 3 (some .int) ∈ W0 := gw 278 (by decide +kernel) (by decide +kernel)
theorem wi_X0_peak : Cond.instanceMethod yX0_peak ∈ W0 := gw 276 (by decide +kernel) (by decide +kernel)
theorem wv_X0_peak : Cond.selects RX0 yX0_peak yX0_peak ∈ W0 := gw 277 (by decide +kernel) (by decide +kernel)
theorem wc_L_stretch : Cond.codeWith yL_stretch cL_stretch 6 (some .int) [(0, 11, 14, 25), (0, 11, 18, 13)] ∈ W0 := gw 284 (by decide +kernel) (by decide +kernel)
theorem ws_L_stretch : Cond.static yL_stretch ∈ W0 := gw 283 (by decide +kernel) (by decide +kernel)
theorem wc_X0_stretch : Cond.code yX0_stretch cX0_stretch 4 (some .long) ∈ W0 := gw 288 (by decide +kernel) (by decide +kernel)
theorem wi_X0_stretch : Cond.instanceMethod yX0_stretch ∈ W0 := gw 286 (by decide +kernel) (by decide +kernel)
theorem wv_X0_stretch : Cond.selects RX0 yX0_stretch yX0_stretch ∈ W0 := gw 287 (by decide +kernel) (by decide +kernel)
theorem wc_L_impact : Cond.codeWith yL_impact cL_impact 5 (some .int) [(0, 10, 13, 13), (0, 10, 17, 15)] ∈ W0 := gw 292 (by decide +kernel) (by decide +kernel)
theorem ws_L_impact : Cond.static yL_impact ∈ W0 := gw 291 (by decide +kernel) (by decide +kernel)
theorem wc_X0_impact : Cond.code yX0_impact cX0_impact 3 (some .int) ∈ W0 := gw 296 (by decide +kernel) (by decide +kernel)
theorem wi_X0_impact : Cond.instanceMethod yX0_impact ∈ W0 := gw 294 (by decide +kernel) (by decide +kernel)
theorem wv_X0_impact : Cond.selects RX0 yX0_impact yX0_impact ∈ W0 := gw 295 (by decide +kernel) (by decide +kernel)
theorem wc_L_fitted : Cond.codeWith yL_fitted cL_fitted 5 (some .int) [(0, 9, 12, 25), (0, 9, 16, 31), (0, 9, 20, 13)] ∈ W0 := gw 301 (by decide +kernel) (by decide +kernel)
theorem ws_L_fitted : Cond.static yL_fitted ∈ W0 := gw 300 (by decide +kernel) (by decide +kernel)
theorem wc_X0_fitted : Cond.code yX0_fitted cX0_fitted 9 (some .long) ∈ W0 := gw 305 (by decide +kernel) (by decide +kernel)
theorem wi_X0_fitted : Cond.instanceMethod yX0_fitted ∈ W0 := gw 303 (by decide +kernel) (by decide +kernel)
theorem wv_X0_fitted : Cond.selects RX0 yX0_fitted yX0_fitted ∈ W0 := gw 304 (by decide +kernel) (by decide +kernel)
theorem wc_L_table : Cond.codeWith yL_table cL_table 5 (some .int) [(0, 10, 13, 13), (0, 10, 17, 15)] ∈ W0 := gw 310 (by decide +kernel) (by decide +kernel)
theorem ws_L_table : Cond.static yL_table ∈ W0 := gw 309 (by decide +kernel) (by decide +kernel)
theorem wc_X0_table : Cond.code yX0_table cX0_table 3 (some .int) ∈ W0 := gw 314 (by decide +kernel) (by decide +kernel)
theorem wi_X0_table : Cond.instanceMethod yX0_table ∈ W0 := gw 312 (by decide +kernel) (by decide +kernel)
theorem wv_X0_table : Cond.selects RX0 yX0_table yX0_table ∈ W0 := gw 313 (by decide +kernel) (by decide +kernel)
theorem wc_L_convert : Cond.codeWith yL_convert cL_convert 5 (some .int) [(0, 10, 13, 25), (0, 10, 17, 31), (0, 10, 21, 13), (0, 10, 25, 15)] ∈ W0 := gw 320 (by decide +kernel) (by decide +kernel)
theorem ws_L_convert : Cond.static yL_convert ∈ W0 := gw 319 (by decide +kernel) (by decide +kernel)
theorem wc_X0_convert : Cond.code yX0_convert cX0_convert 8 (some .int) ∈ W0 := gw 324 (by decide +kernel) (by decide +kernel)
theorem wi_X0_convert : Cond.instanceMethod yX0_convert ∈ W0 := gw 322 (by decide +kernel) (by decide +kernel)
theorem wv_X0_convert : Cond.selects RX0 yX0_convert yX0_convert ∈ W0 := gw 323 (by decide +kernel) (by decide +kernel)
theorem wc_X0_refuseNoSuchRule : Cond.code yX0_refuseNoSuchRule cX0_refuseNoSuchRule 1 none ∈ W0 := gw 327 (by decide +kernel) (by decide +kernel)
theorem ws_X0_refuseNoSuchRule : Cond.static yX0_refuseNoSuchRule ∈ W0 := gw 326 (by decide +kernel) (by decide +kernel)
theorem wc_X0_firstTableRowFrom : Cond.code yX0_firstTableRowFrom cX0_firstTableRowFrom 3 (some .int) ∈ W0 := gw 334 (by decide +kernel) (by decide +kernel)
theorem wi_X0_firstTableRowFrom : Cond.instanceMethod yX0_firstTableRowFrom ∈ W0 := gw 333 (by decide +kernel) (by decide +kernel)
theorem wc_X0_roundedByRule : Cond.code yX0_roundedByRule cX0_roundedByRule 11 (some .long) ∈ W0 := gw 337 (by decide +kernel) (by decide +kernel)
theorem ws_X0_roundedByRule : Cond.static yX0_roundedByRule ∈ W0 := gw 336 (by decide +kernel) (by decide +kernel)
theorem wc_J_floorDiv : Cond.code yJ_floorDiv cJ_floorDiv 6 (some .long) ∈ W0 := gw 340 (by decide +kernel) (by decide +kernel)
theorem ws_J_floorDiv : Cond.static yJ_floorDiv ∈ W0 := gw 339 (by decide +kernel) (by decide +kernel)
theorem wc_L_round : Cond.codeWith yL_round cL_round 8 (some .int) [(0, 12, 15, 25), (0, 12, 19, 13)] ∈ W0 := gw 344 (by decide +kernel) (by decide +kernel)
theorem ws_L_round : Cond.static yL_round ∈ W0 := gw 343 (by decide +kernel) (by decide +kernel)
theorem wc_X0_round : Cond.code yX0_round cX0_round 6 (some .long) ∈ W0 := gw 348 (by decide +kernel) (by decide +kernel)
theorem wi_X0_round : Cond.instanceMethod yX0_round ∈ W0 := gw 346 (by decide +kernel) (by decide +kernel)
theorem wv_X0_round : Cond.selects RX0 yX0_round yX0_round ∈ W0 := gw 347 (by decide +kernel) (by decide +kernel)
theorem wc_L_machine : Cond.codeWith yL_machine cL_machine 5 (some .int) [(0, 17, 20, 13)] ∈ W0 := gw 355 (by decide +kernel) (by decide +kernel)
theorem ws_L_machine : Cond.static yL_machine ∈ W0 := gw 354 (by decide +kernel) (by decide +kernel)
theorem wc_X0_machine : Cond.code yX0_machine cX0_machine 3 (some .boolean) ∈ W0 := gw 359 (by decide +kernel) (by decide +kernel)
theorem wi_X0_machine : Cond.instanceMethod yX0_machine ∈ W0 := gw 357 (by decide +kernel) (by decide +kernel)
theorem wv_X0_machine : Cond.selects RX0 yX0_machine yX0_machine ∈ W0 := gw 358 (by decide +kernel) (by decide +kernel)
theorem wc_X1_init : Cond.code yX1_init cX1_init 1 none ∈ W0 := gw 368 (by decide +kernel) (by decide +kernel)
theorem wi_X1_init : Cond.instanceMethod yX1_init ∈ W0 := gw 367 (by decide +kernel) (by decide +kernel)
theorem wc_X1_thrown : Cond.code yX1_thrown cX1_thrown 1 (some .int) ∈ W0 := gw 428 (by decide +kernel) (by decide +kernel)
theorem wi_X1_thrown : Cond.instanceMethod yX1_thrown ∈ W0 := gw 426 (by decide +kernel) (by decide +kernel)
theorem wv_X1_thrown : Cond.selects RX1 yX1_thrown yX1_thrown ∈ W0 := gw 427 (by decide +kernel) (by decide +kernel)
theorem wc_X1_row : Cond.code yX1_row cX1_row 4 (some .int) ∈ W0 := gw 432 (by decide +kernel) (by decide +kernel)
theorem wi_X1_row : Cond.instanceMethod yX1_row ∈ W0 := gw 430 (by decide +kernel) (by decide +kernel)
theorem wv_X1_row : Cond.selects RX1 yX1_row yX1_row ∈ W0 := gw 431 (by decide +kernel) (by decide +kernel)
theorem wc_X1_in : Cond.code yX1_in cX1_in 3 (some .boolean) ∈ W0 := gw 436 (by decide +kernel) (by decide +kernel)
theorem ws_X1_in : Cond.static yX1_in ∈ W0 := gw 435 (by decide +kernel) (by decide +kernel)
theorem wc_X1_goes : Cond.code yX1_goes cX1_goes 5 (some .boolean) ∈ W0 := gw 440 (by decide +kernel) (by decide +kernel)
theorem wi_X1_goes : Cond.instanceMethod yX1_goes ∈ W0 := gw 439 (by decide +kernel) (by decide +kernel)
theorem wc_X1_section : Cond.code yX1_section cX1_section 3 none ∈ W0 := gw 444 (by decide +kernel) (by decide +kernel)
theorem wi_X1_section : Cond.instanceMethod yX1_section ∈ W0 := gw 442 (by decide +kernel) (by decide +kernel)
theorem wv_X1_section : Cond.selects RX1 yX1_section yX1_section ∈ W0 := gw 443 (by decide +kernel) (by decide +kernel)
theorem wc_X1_slope : Cond.code yX1_slope cX1_slope 8 (some .long) ∈ W0 := gw 448 (by decide +kernel) (by decide +kernel)
theorem wi_X1_slope : Cond.instanceMethod yX1_slope ∈ W0 := gw 446 (by decide +kernel) (by decide +kernel)
theorem wv_X1_slope : Cond.selects RX1 yX1_slope yX1_slope ∈ W0 := gw 447 (by decide +kernel) (by decide +kernel)
theorem wc_X1_part : Cond.code yX1_part cX1_part 12 (some .long) ∈ W0 := gw 452 (by decide +kernel) (by decide +kernel)
theorem wi_X1_part : Cond.instanceMethod yX1_part ∈ W0 := gw 451 (by decide +kernel) (by decide +kernel)
theorem wc_X1_offset : Cond.code yX1_offset cX1_offset 8 (some .long) ∈ W0 := gw 456 (by decide +kernel) (by decide +kernel)
theorem wi_X1_offset : Cond.instanceMethod yX1_offset ∈ W0 := gw 454 (by decide +kernel) (by decide +kernel)
theorem wv_X1_offset : Cond.selects RX1 yX1_offset yX1_offset ∈ W0 := gw 455 (by decide +kernel) (by decide +kernel)
theorem wc_X1_above : Cond.code yX1_above cX1_above 3 (some .long) ∈ W0 := gw 460 (by decide +kernel) (by decide +kernel)
theorem wi_X1_above : Cond.instanceMethod yX1_above ∈ W0 := gw 459 (by decide +kernel) (by decide +kernel)
theorem wc_X1_peak : Cond.code yX1_peak cX1_peak 3 (some .int) ∈ W0 := gw 465 (by decide +kernel) (by decide +kernel)
theorem wi_X1_peak : Cond.instanceMethod yX1_peak ∈ W0 := gw 463 (by decide +kernel) (by decide +kernel)
theorem wv_X1_peak : Cond.selects RX1 yX1_peak yX1_peak ∈ W0 := gw 464 (by decide +kernel) (by decide +kernel)
theorem wc_X1_peakRow : Cond.code yX1_peakRow cX1_peakRow 3 (some .int) ∈ W0 := gw 469 (by decide +kernel) (by decide +kernel)
theorem wi_X1_peakRow : Cond.instanceMethod yX1_peakRow ∈ W0 := gw 468 (by decide +kernel) (by decide +kernel)
theorem wc_X1_stretch : Cond.code yX1_stretch cX1_stretch 4 (some .long) ∈ W0 := gw 473 (by decide +kernel) (by decide +kernel)
theorem wi_X1_stretch : Cond.instanceMethod yX1_stretch ∈ W0 := gw 471 (by decide +kernel) (by decide +kernel)
theorem wv_X1_stretch : Cond.selects RX1 yX1_stretch yX1_stretch ∈ W0 := gw 472 (by decide +kernel) (by decide +kernel)
theorem wc_X1_impact : Cond.code yX1_impact cX1_impact 3 (some .int) ∈ W0 := gw 477 (by decide +kernel) (by decide +kernel)
theorem wi_X1_impact : Cond.instanceMethod yX1_impact ∈ W0 := gw 475 (by decide +kernel) (by decide +kernel)
theorem wv_X1_impact : Cond.selects RX1 yX1_impact yX1_impact ∈ W0 := gw 476 (by decide +kernel) (by decide +kernel)
theorem wc_X1_fitted : Cond.code yX1_fitted cX1_fitted 17 (some .long) ∈ W0 := gw 481 (by decide +kernel) (by decide +kernel)
theorem wi_X1_fitted : Cond.instanceMethod yX1_fitted ∈ W0 := gw 479 (by decide +kernel) (by decide +kernel)
theorem wv_X1_fitted : Cond.selects RX1 yX1_fitted yX1_fitted ∈ W0 := gw 480 (by decide +kernel) (by decide +kernel)
theorem wc_X1_table : Cond.code yX1_table cX1_table 4 (some .int) ∈ W0 := gw 486 (by decide +kernel) (by decide +kernel)
theorem wi_X1_table : Cond.instanceMethod yX1_table ∈ W0 := gw 484 (by decide +kernel) (by decide +kernel)
theorem wv_X1_table : Cond.selects RX1 yX1_table yX1_table ∈ W0 := gw 485 (by decide +kernel) (by decide +kernel)
theorem wc_X1_convert : Cond.code yX1_convert cX1_convert 6 (some .int) ∈ W0 := gw 490 (by decide +kernel) (by decide +kernel)
theorem wi_X1_convert : Cond.instanceMethod yX1_convert ∈ W0 := gw 488 (by decide +kernel) (by decide +kernel)
theorem wv_X1_convert : Cond.selects RX1 yX1_convert yX1_convert ∈ W0 := gw 489 (by decide +kernel) (by decide +kernel)
theorem wc_X1_rounded : Cond.code yX1_rounded cX1_rounded 10 (some .long) ∈ W0 := gw 493 (by decide +kernel) (by decide +kernel)
theorem ws_X1_rounded : Cond.static yX1_rounded ∈ W0 := gw 492 (by decide +kernel) (by decide +kernel)
theorem wc_X1_round : Cond.code yX1_round cX1_round 6 (some .long) ∈ W0 := gw 497 (by decide +kernel) (by decide +kernel)
theorem wi_X1_round : Cond.instanceMethod yX1_round ∈ W0 := gw 495 (by decide +kernel) (by decide +kernel)
theorem wv_X1_round : Cond.selects RX1 yX1_round yX1_round ∈ W0 := gw 496 (by decide +kernel) (by decide +kernel)
theorem wc_X1_in8 : Cond.code yX1_in8 cX1_in8 6 (some .boolean) ∈ W0 := gw 501 (by decide +kernel) (by decide +kernel)
theorem ws_X1_in8 : Cond.static yX1_in8 ∈ W0 := gw 500 (by decide +kernel) (by decide +kernel)
theorem wc_X1_machine : Cond.code yX1_machine cX1_machine 4 (some .boolean) ∈ W0 := gw 506 (by decide +kernel) (by decide +kernel)
theorem wi_X1_machine : Cond.instanceMethod yX1_machine ∈ W0 := gw 504 (by decide +kernel) (by decide +kernel)
theorem wv_X1_machine : Cond.selects RX1 yX1_machine yX1_machine ∈ W0 := gw 505 (by decide +kernel) (by decide +kernel)
theorem wc_X1_invalid : Cond.code yX1_invalid cX1_invalid 4 (some .int) ∈ W0 := gw 510 (by decide +kernel) (by decide +kernel)
theorem wi_X1_invalid : Cond.instanceMethod yX1_invalid ∈ W0 := gw 508 (by decide +kernel) (by decide +kernel)
theorem wv_X1_invalid : Cond.selects RX1 yX1_invalid yX1_invalid ∈ W0 := gw 509 (by decide +kernel) (by decide +kernel)
theorem wc_X1_clear : Cond.code yX1_clear cX1_clear 1 none ∈ W0 := gw 514 (by decide +kernel) (by decide +kernel)
theorem wi_X1_clear : Cond.instanceMethod yX1_clear ∈ W0 := gw 512 (by decide +kernel) (by decide +kernel)
theorem wv_X1_clear : Cond.selects RX1 yX1_clear yX1_clear ∈ W0 := gw 513 (by decide +kernel) (by decide +kernel)
theorem wv_X0_firstRowOfGreatestForce : Cond.selects RX0 yX0_firstRowOfGreatestForce yX0_firstRowOfGreatestForce ∈ W0 := gs 0 (by decide +kernel) (by decide +kernel)
theorem wv_X0_fallsBelowHalfBehind : Cond.selects RX0 yX0_fallsBelowHalfBehind yX0_fallsBelowHalfBehind ∈ W0 := gs 1 (by decide +kernel) (by decide +kernel)
theorem wv_X0_firstRowFrom : Cond.selects RX0 yX0_firstRowFrom yX0_firstRowFrom ∈ W0 := gs 3 (by decide +kernel) (by decide +kernel)
theorem wv_X0_lastRowUpTo : Cond.selects RX0 yX0_lastRowUpTo yX0_lastRowUpTo ∈ W0 := gs 4 (by decide +kernel) (by decide +kernel)
theorem wv_X0_meetingRow : Cond.selects RX0 yX0_meetingRow yX0_meetingRow ∈ W0 := gs 5 (by decide +kernel) (by decide +kernel)
theorem wv_X0_excessOverLine : Cond.selects RX0 yX0_excessOverLine yX0_excessOverLine ∈ W0 := gs 6 (by decide +kernel) (by decide +kernel)
theorem wv_X0_firstTableRowFrom : Cond.selects RX0 yX0_firstTableRowFrom yX0_firstTableRowFrom ∈ W0 := gs 7 (by decide +kernel) (by decide +kernel)
theorem wv_X1_goes : Cond.selects RX1 yX1_goes yX1_goes ∈ W0 := gs 8 (by decide +kernel) (by decide +kernel)
theorem wv_X1_part : Cond.selects RX1 yX1_part yX1_part ∈ W0 := gs 9 (by decide +kernel) (by decide +kernel)
theorem wv_X1_above : Cond.selects RX1 yX1_above yX1_above ∈ W0 := gs 10 (by decide +kernel) (by decide +kernel)
theorem wv_X1_peakRow : Cond.selects RX1 yX1_peakRow yX1_peakRow ∈ W0 := gs 11 (by decide +kernel) (by decide +kernel)
theorem wl_L_8 : Cond.classLink RL 8 "StrainRows" ∈ W0 := gw 11 (by decide +kernel) (by decide +kernel)
theorem wl_L_60 : Cond.methodLink RL 60 yX0_init ∈ W0 := gw 13 (by decide +kernel) (by decide +kernel)
theorem wl_X0_1 : Cond.methodLink RX0 1 objectInit ∈ W0 := gw 16 (by decide +kernel) (by decide +kernel)
theorem wl_X0_9 : Cond.fieldLink RX0 9 "StrainRows" "strains" "[I" ∈ W0 := gw 19 (by decide +kernel) (by decide +kernel)
theorem wl_X0_13 : Cond.fieldLink RX0 13 "StrainRows" "forces" "[I" ∈ W0 := gw 20 (by decide +kernel) (by decide +kernel)
theorem wl_X0_34 : Cond.fieldLink RX0 34 "StrainRows" "rowCount" "I" ∈ W0 := gw 21 (by decide +kernel) (by decide +kernel)
theorem wl_X0_47 : Cond.fieldLink RX0 47 "StrainRows" "area" "I" ∈ W0 := gw 22 (by decide +kernel) (by decide +kernel)
theorem wl_X0_50 : Cond.fieldLink RX0 50 "StrainRows" "slack" "I" ∈ W0 := gw 23 (by decide +kernel) (by decide +kernel)
theorem wl_X0_68 : Cond.fieldLink RX0 68 "StrainRows" "modulusUpper" "J" ∈ W0 := gw 24 (by decide +kernel) (by decide +kernel)
theorem wl_X0_72 : Cond.fieldLink RX0 72 "StrainRows" "modulusLower" "J" ∈ W0 := gw 25 (by decide +kernel) (by decide +kernel)
theorem wl_X0_170 : Cond.fieldLink RX0 170 "StrainRows" "checkFailed" "Z" ∈ W0 := gw 26 (by decide +kernel) (by decide +kernel)
theorem wl_X0_112 : Cond.fieldLink RX0 112 "StrainRows" "impactCount" "I" ∈ W0 := gw 27 (by decide +kernel) (by decide +kernel)
theorem wl_X0_117 : Cond.fieldLink RX0 117 "StrainRows" "degreesSum" "J" ∈ W0 := gw 28 (by decide +kernel) (by decide +kernel)
theorem wl_X0_120 : Cond.fieldLink RX0 120 "StrainRows" "joulesSum" "J" ∈ W0 := gw 29 (by decide +kernel) (by decide +kernel)
theorem wl_X0_123 : Cond.fieldLink RX0 123 "StrainRows" "productsSum" "J" ∈ W0 := gw 30 (by decide +kernel) (by decide +kernel)
theorem wl_X0_126 : Cond.fieldLink RX0 126 "StrainRows" "squaresSum" "J" ∈ W0 := gw 31 (by decide +kernel) (by decide +kernel)
theorem wl_X0_16 : Cond.fieldLink RX0 16 "StrainRows" "tableXs" "[I" ∈ W0 := gw 32 (by decide +kernel) (by decide +kernel)
theorem wl_X0_19 : Cond.fieldLink RX0 19 "StrainRows" "tableYs" "[I" ∈ W0 := gw 33 (by decide +kernel) (by decide +kernel)
theorem wl_X0_135 : Cond.fieldLink RX0 135 "StrainRows" "tableCount" "I" ∈ W0 := gw 34 (by decide +kernel) (by decide +kernel)
theorem wl_L_113 : Cond.methodLink RL 113 yX0_invalid ∈ W0 := gw 69 (by decide +kernel) (by decide +kernel)
theorem wl_X0_102 : Cond.methodLink RX0 102 yX0_firstRowOfGreatestForce ∈ W0 := gw 73 (by decide +kernel) (by decide +kernel)
theorem wl_X0_174 : Cond.methodLink RX0 174 yX0_fallsBelowHalfBehind ∈ W0 := gw 77 (by decide +kernel) (by decide +kernel)
theorem wl_L_117 : Cond.methodLink RL 117 yX0_clear ∈ W0 := gw 81 (by decide +kernel) (by decide +kernel)
theorem wl_L_64 : Cond.methodLink RL 64 yL_row ∈ W0 := gw 85 (by decide +kernel) (by decide +kernel)
theorem wl_L_13 : Cond.classLink RL 13 "java/lang/IllegalArgumentException" ∈ W0 := gw 88 (by decide +kernel) (by decide +kernel)
theorem wl_L_15 : Cond.classLink RL 15 "java/lang/UnsupportedOperationException" ∈ W0 := gw 89 (by decide +kernel) (by decide +kernel)
theorem wl_L_7 : Cond.methodLink RL 7 yX0_row ∈ W0 := gw 90 (by decide +kernel) (by decide +kernel)
theorem wl_X0_22 : Cond.constant RX0 22 1000000 ∈ W0 := gw 94 (by decide +kernel) (by decide +kernel)
theorem wl_X0_23 : Cond.methodLink RX0 23 yX0_isWithin ∈ W0 := gw 95 (by decide +kernel) (by decide +kernel)
theorem wl_X0_27 : Cond.classLink RX0 27 "java/lang/IllegalArgumentException" ∈ W0 := gw 98 (by decide +kernel) (by decide +kernel)
theorem wl_X0_40 : Cond.classLink RX0 40 "java/lang/UnsupportedOperationException" ∈ W0 := gw 168 (by decide +kernel) (by decide +kernel)
theorem wl_L_74 : Cond.methodLink RL 74 yL_section ∈ W0 := gw 184 (by decide +kernel) (by decide +kernel)
theorem wl_L_17 : Cond.methodLink RL 17 yX0_section ∈ W0 := gw 187 (by decide +kernel) (by decide +kernel)
theorem wl_L_78 : Cond.methodLink RL 78 yL_slope ∈ W0 := gw 192 (by decide +kernel) (by decide +kernel)
theorem wl_L_25 : Cond.classLink RL 25 "java/lang/IndexOutOfBoundsException" ∈ W0 := gw 195 (by decide +kernel) (by decide +kernel)
theorem wl_L_21 : Cond.methodLink RL 21 yX0_slope ∈ W0 := gw 196 (by decide +kernel) (by decide +kernel)
theorem wl_X0_53 : Cond.methodLink RX0 53 yX0_refuseNoSuchPart ∈ W0 := gw 200 (by decide +kernel) (by decide +kernel)
theorem wl_X0_95 : Cond.classLink RX0 95 "java/lang/IndexOutOfBoundsException" ∈ W0 := gw 203 (by decide +kernel) (by decide +kernel)
theorem wl_X0_59 : Cond.methodLink RX0 59 yX0_firstRowFrom ∈ W0 := gw 220 (by decide +kernel) (by decide +kernel)
theorem wl_X0_63 : Cond.methodLink RX0 63 yX0_lastRowUpTo ∈ W0 := gw 224 (by decide +kernel) (by decide +kernel)
theorem wl_X0_75 : Cond.methodLink RX0 75 yX0_partInLowestTerms ∈ W0 := gw 229 (by decide +kernel) (by decide +kernel)
theorem wl_X0_188 : Cond.methodLink RX0 188 Lib.MathLoose.abs_long.x ∈ W0 := gw 232 (by decide +kernel) (by decide +kernel)
theorem wl_X0_191 : Cond.methodLink RX0 191 yX0_greatestCommonDivisor ∈ W0 := gw 235 (by decide +kernel) (by decide +kernel)
theorem wl_L_82 : Cond.methodLink RL 82 yL_offset ∈ W0 := gw 238 (by decide +kernel) (by decide +kernel)
theorem wl_L_31 : Cond.classLink RL 31 "java/lang/IllegalStateException" ∈ W0 := gw 241 (by decide +kernel) (by decide +kernel)
theorem wl_L_27 : Cond.methodLink RL 27 yX0_offset ∈ W0 := gw 242 (by decide +kernel) (by decide +kernel)
theorem wl_X0_79 : Cond.classLink RX0 79 "java/lang/IllegalStateException" ∈ W0 := gw 246 (by decide +kernel) (by decide +kernel)
theorem wl_X0_86 : Cond.methodLink RX0 86 yX0_meetingRow ∈ W0 := gw 263 (by decide +kernel) (by decide +kernel)
theorem wl_X0_91 : Cond.methodLink RX0 91 yX0_excessOverLine ∈ W0 := gw 267 (by decide +kernel) (by decide +kernel)
theorem wl_X0_89 : Cond.constantLong RX0 89 (-9223372036854775808) ∈ W0 := gw 271 (by decide +kernel) (by decide +kernel)
theorem wl_L_85 : Cond.methodLink RL 85 yL_peak ∈ W0 := gw 272 (by decide +kernel) (by decide +kernel)
theorem wl_L_33 : Cond.methodLink RL 33 yX0_peak ∈ W0 := gw 275 (by decide +kernel) (by decide +kernel)
theorem wl_L_89 : Cond.methodLink RL 89 yL_stretch ∈ W0 := gw 282 (by decide +kernel) (by decide +kernel)
theorem wl_L_37 : Cond.methodLink RL 37 yX0_stretch ∈ W0 := gw 285 (by decide +kernel) (by decide +kernel)
theorem wl_L_92 : Cond.methodLink RL 92 yL_impact ∈ W0 := gw 290 (by decide +kernel) (by decide +kernel)
theorem wl_L_40 : Cond.methodLink RL 40 yX0_impact ∈ W0 := gw 293 (by decide +kernel) (by decide +kernel)
theorem wl_L_95 : Cond.methodLink RL 95 yL_fitted ∈ W0 := gw 299 (by decide +kernel) (by decide +kernel)
theorem wl_L_43 : Cond.methodLink RL 43 yX0_fitted ∈ W0 := gw 302 (by decide +kernel) (by decide +kernel)
theorem wl_L_98 : Cond.methodLink RL 98 yL_table ∈ W0 := gw 308 (by decide +kernel) (by decide +kernel)
theorem wl_L_46 : Cond.methodLink RL 46 yX0_table ∈ W0 := gw 311 (by decide +kernel) (by decide +kernel)
theorem wl_L_101 : Cond.methodLink RL 101 yL_convert ∈ W0 := gw 318 (by decide +kernel) (by decide +kernel)
theorem wl_L_49 : Cond.methodLink RL 49 yX0_convert ∈ W0 := gw 321 (by decide +kernel) (by decide +kernel)
theorem wl_X0_142 : Cond.methodLink RX0 142 yX0_refuseNoSuchRule ∈ W0 := gw 325 (by decide +kernel) (by decide +kernel)
theorem wl_X0_149 : Cond.methodLink RX0 149 yX0_firstTableRowFrom ∈ W0 := gw 331 (by decide +kernel) (by decide +kernel)
theorem wl_X0_152 : Cond.methodLink RX0 152 yX0_roundedByRule ∈ W0 := gw 335 (by decide +kernel) (by decide +kernel)
theorem wl_X0_182 : Cond.methodLink RX0 182 yJ_floorDiv ∈ W0 := gw 338 (by decide +kernel) (by decide +kernel)
theorem wl_X0_186 : Cond.constantLong RX0 186 2 ∈ W0 := gw 341 (by decide +kernel) (by decide +kernel)
theorem wl_L_106 : Cond.methodLink RL 106 yL_round ∈ W0 := gw 342 (by decide +kernel) (by decide +kernel)
theorem wl_L_52 : Cond.methodLink RL 52 yX0_round ∈ W0 := gw 345 (by decide +kernel) (by decide +kernel)
theorem wl_X0_155 : Cond.constantLong RX0 155 1000000000000 ∈ W0 := gw 349 (by decide +kernel) (by decide +kernel)
theorem wl_X0_159 : Cond.constantLong RX0 159 (-1000000000000) ∈ W0 := gw 351 (by decide +kernel) (by decide +kernel)
theorem wl_L_110 : Cond.methodLink RL 110 yL_machine ∈ W0 := gw 353 (by decide +kernel) (by decide +kernel)
theorem wl_L_56 : Cond.methodLink RL 56 yX0_machine ∈ W0 := gw 356 (by decide +kernel) (by decide +kernel)
theorem wl_X0_165 : Cond.methodLink RX0 165 Lib.Math.abs.name ∈ W0 := gw 361 (by decide +kernel) (by decide +kernel)
theorem wl_L_61 : Cond.classLink RL 61 "StrainRowsModel" ∈ W0 := gw 364 (by decide +kernel) (by decide +kernel)
theorem wl_L_63 : Cond.methodLink RL 63 yX1_init ∈ W0 := gw 366 (by decide +kernel) (by decide +kernel)
theorem wl_X1_1 : Cond.methodLink RX1 1 objectInit ∈ W0 := gw 369 (by decide +kernel) (by decide +kernel)
theorem wl_X1_28 : Cond.fieldLink RX1 28 "StrainRowsModel" "thrown" "I" ∈ W0 := gw 370 (by decide +kernel) (by decide +kernel)
theorem wl_X1_44 : Cond.fieldLink RX1 44 "StrainRowsModel" "rows" "I" ∈ W0 := gw 371 (by decide +kernel) (by decide +kernel)
theorem wl_X1_7 : Cond.fieldLink RX1 7 "StrainRowsModel" "strain" "[I" ∈ W0 := gw 372 (by decide +kernel) (by decide +kernel)
theorem wl_X1_13 : Cond.fieldLink RX1 13 "StrainRowsModel" "force" "[I" ∈ W0 := gw 373 (by decide +kernel) (by decide +kernel)
theorem wl_X1_51 : Cond.fieldLink RX1 51 "StrainRowsModel" "area" "I" ∈ W0 := gw 374 (by decide +kernel) (by decide +kernel)
theorem wl_X1_54 : Cond.fieldLink RX1 54 "StrainRowsModel" "slack" "I" ∈ W0 := gw 375 (by decide +kernel) (by decide +kernel)
theorem wl_X1_61 : Cond.fieldLink RX1 61 "StrainRowsModel" "hard" "Z" ∈ W0 := gw 376 (by decide +kernel) (by decide +kernel)
theorem wl_X1_65 : Cond.fieldLink RX1 65 "StrainRowsModel" "hardUp" "J" ∈ W0 := gw 377 (by decide +kernel) (by decide +kernel)
theorem wl_X1_68 : Cond.fieldLink RX1 68 "StrainRowsModel" "hardDown" "J" ∈ W0 := gw 378 (by decide +kernel) (by decide +kernel)
theorem wl_X1_81 : Cond.fieldLink RX1 81 "StrainRowsModel" "impacts" "I" ∈ W0 := gw 379 (by decide +kernel) (by decide +kernel)
theorem wl_X1_16 : Cond.fieldLink RX1 16 "StrainRowsModel" "degrees" "[I" ∈ W0 := gw 380 (by decide +kernel) (by decide +kernel)
theorem wl_X1_19 : Cond.fieldLink RX1 19 "StrainRowsModel" "joules" "[I" ∈ W0 := gw 381 (by decide +kernel) (by decide +kernel)
theorem wl_X1_86 : Cond.fieldLink RX1 86 "StrainRowsModel" "tables" "I" ∈ W0 := gw 382 (by decide +kernel) (by decide +kernel)
theorem wl_X1_22 : Cond.fieldLink RX1 22 "StrainRowsModel" "tableX" "[I" ∈ W0 := gw 383 (by decide +kernel) (by decide +kernel)
theorem wl_X1_25 : Cond.fieldLink RX1 25 "StrainRowsModel" "tableY" "[I" ∈ W0 := gw 384 (by decide +kernel) (by decide +kernel)
theorem wl_X1_100 : Cond.fieldLink RX1 100 "StrainRowsModel" "failed" "Z" ∈ W0 := gw 385 (by decide +kernel) (by decide +kernel)
theorem wl_X1_32 : Cond.fieldLink RX1 32 "StrainRowsModel" "up" "J" ∈ W0 := gw 386 (by decide +kernel) (by decide +kernel)
theorem wl_X1_36 : Cond.fieldLink RX1 36 "StrainRowsModel" "down" "J" ∈ W0 := gw 387 (by decide +kernel) (by decide +kernel)
theorem wl_L_70 : Cond.methodLink RL 70 yX1_thrown ∈ W0 := gw 425 (by decide +kernel) (by decide +kernel)
theorem wl_L_69 : Cond.methodLink RL 69 yX1_row ∈ W0 := gw 429 (by decide +kernel) (by decide +kernel)
theorem wl_X1_39 : Cond.constant RX1 39 1000000 ∈ W0 := gw 433 (by decide +kernel) (by decide +kernel)
theorem wl_X1_40 : Cond.methodLink RX1 40 yX1_in ∈ W0 := gw 434 (by decide +kernel) (by decide +kernel)
theorem wl_X1_47 : Cond.methodLink RX1 47 yX1_goes ∈ W0 := gw 437 (by decide +kernel) (by decide +kernel)
theorem wl_L_77 : Cond.methodLink RL 77 yX1_section ∈ W0 := gw 441 (by decide +kernel) (by decide +kernel)
theorem wl_L_81 : Cond.methodLink RL 81 yX1_slope ∈ W0 := gw 445 (by decide +kernel) (by decide +kernel)
theorem wl_X1_57 : Cond.methodLink RX1 57 yX1_part ∈ W0 := gw 449 (by decide +kernel) (by decide +kernel)
theorem wl_L_84 : Cond.methodLink RL 84 yX1_offset ∈ W0 := gw 453 (by decide +kernel) (by decide +kernel)
theorem wl_X1_71 : Cond.methodLink RX1 71 yX1_above ∈ W0 := gw 457 (by decide +kernel) (by decide +kernel)
theorem wl_X1_75 : Cond.constantLong RX1 75 (-9223372036854775808) ∈ W0 := gw 461 (by decide +kernel) (by decide +kernel)
theorem wl_L_88 : Cond.methodLink RL 88 yX1_peak ∈ W0 := gw 462 (by decide +kernel) (by decide +kernel)
theorem wl_X1_77 : Cond.methodLink RX1 77 yX1_peakRow ∈ W0 := gw 466 (by decide +kernel) (by decide +kernel)
theorem wl_L_91 : Cond.methodLink RL 91 yX1_stretch ∈ W0 := gw 470 (by decide +kernel) (by decide +kernel)
theorem wl_L_94 : Cond.methodLink RL 94 yX1_impact ∈ W0 := gw 474 (by decide +kernel) (by decide +kernel)
theorem wl_L_97 : Cond.methodLink RL 97 yX1_fitted ∈ W0 := gw 478 (by decide +kernel) (by decide +kernel)
theorem wl_X1_84 : Cond.constantLong RX1 84 2 ∈ W0 := gw 482 (by decide +kernel) (by decide +kernel)
theorem wl_L_100 : Cond.methodLink RL 100 yX1_table ∈ W0 := gw 483 (by decide +kernel) (by decide +kernel)
theorem wl_L_103 : Cond.methodLink RL 103 yX1_convert ∈ W0 := gw 487 (by decide +kernel) (by decide +kernel)
theorem wl_X1_89 : Cond.methodLink RX1 89 yX1_rounded ∈ W0 := gw 491 (by decide +kernel) (by decide +kernel)
theorem wl_L_109 : Cond.methodLink RL 109 yX1_round ∈ W0 := gw 494 (by decide +kernel) (by decide +kernel)
theorem wl_X1_92 : Cond.constantLong RX1 92 1000000000000 ∈ W0 := gw 498 (by decide +kernel) (by decide +kernel)
theorem wl_X1_94 : Cond.methodLink RX1 94 yX1_in8 ∈ W0 := gw 499 (by decide +kernel) (by decide +kernel)
theorem wl_X1_98 : Cond.constantLong RX1 98 (-1000000000000) ∈ W0 := gw 502 (by decide +kernel) (by decide +kernel)
theorem wl_L_112 : Cond.methodLink RL 112 yX1_machine ∈ W0 := gw 503 (by decide +kernel) (by decide +kernel)
theorem wl_L_116 : Cond.methodLink RL 116 yX1_invalid ∈ W0 := gw 507 (by decide +kernel) (by decide +kernel)
theorem wl_L_120 : Cond.methodLink RL 120 yX1_clear ∈ W0 := gw 511 (by decide +kernel) (by decide +kernel)
theorem wl_L_104 : Cond.constantLong RL 104 4294967295 ∈ W0 := gw 515 (by decide +kernel) (by decide +kernel)
theorem w_oi : Cond.instanceMethod objectInit ∈ W0 := gw 17 (by decide +kernel) (by decide +kernel)
theorem w_aI : Cond.arrayClass .int ∈ W0 := gw 68 (by decide +kernel) (by decide +kernel)
theorem w_aJ : Cond.arrayClass .long ∈ W0 := gw 516 (by decide +kernel) (by decide +kernel)
theorem w_nX0 : Cond.instantiable RX0 16 ∈ W0 := gw 12 (by decide +kernel) (by decide +kernel)
theorem w_nX1 : Cond.instantiable RX1 18 ∈ W0 := gw 365 (by decide +kernel) (by decide +kernel)
theorem w_sabs : Cond.static Lib.Math.abs.name ∈ W0 := gw 362 (by decide +kernel) (by decide +kernel)
theorem w_slab : Cond.static Lib.MathLoose.abs_long.x ∈ W0 := gw 233 (by decide +kernel) (by decide +kernel)
theorem w_oc : Cond.code objectInit ⟨#[0xb1]⟩ 1 none ∈ W0 := gw 18 (by decide +kernel) (by decide +kernel)
theorem w_clab : Cond.code Lib.MathLoose.abs_long.x Lib.MathLoose.abs_long.code 2 (some .long) ∈ W0 := gw 234 (by decide +kernel) (by decide +kernel)
theorem w_cabs : Cond.code Lib.Math.abs.name Lib.Math.abs.code 1 (some .int) ∈ W0 := gw 363 (by decide +kernel) (by decide +kernel)
theorem inX0t : ∀ w ∈ wsX00, w ∈ tables_1 := by decide +kernel
theorem inX0g : ∀ w ∈ wsX00, goodWord w = true := by decide +kernel
theorem inX0 : ∀ w ∈ wsX00, w ∈ W0 := fun w h => List.mem_filter.mpr ⟨List.mem_append_right _ (inX0t w h), inX0g w h⟩
theorem inX1t : ∀ w ∈ wsX10, w ∈ tables_1 := by decide +kernel
theorem inX1g : ∀ w ∈ wsX10, goodWord w = true := by decide +kernel
theorem inX1 : ∀ w ∈ wsX10, w ∈ W0 := fun w h => List.mem_filter.mpr ⟨List.mem_append_right _ (inX1t w h), inX1g w h⟩
theorem xa_IllegalArgumentt : ∀ w ∈ (vx_atS RX0 31 "java/lang/IllegalArgumentException" ["java/lang/RuntimeException", "java/lang/Exception"]).filter goodWord, w ∈ lw_tbl := by decide +kernel
theorem xa_IllegalArgument : ∀ w ∈ (vx_atS RX0 31 "java/lang/IllegalArgumentException" ["java/lang/RuntimeException", "java/lang/Exception"]).filter goodWord, w ∈ W0 := fun w h => List.mem_filter.mpr ⟨xa_IllegalArgumentt w h, (List.mem_filter.mp h).2⟩
theorem xa_UnsupportedOperationt : ∀ w ∈ (vx_atS RX0 44 "java/lang/UnsupportedOperationException" ["java/lang/RuntimeException", "java/lang/Exception"]).filter goodWord, w ∈ lw_tbl := by decide +kernel
theorem xa_UnsupportedOperation : ∀ w ∈ (vx_atS RX0 44 "java/lang/UnsupportedOperationException" ["java/lang/RuntimeException", "java/lang/Exception"]).filter goodWord, w ∈ W0 := fun w h => List.mem_filter.mpr ⟨xa_UnsupportedOperationt w h, (List.mem_filter.mp h).2⟩
theorem xa_IllegalStatet : ∀ w ∈ (vx_atS RX0 83 "java/lang/IllegalStateException" ["java/lang/RuntimeException", "java/lang/Exception"]).filter goodWord, w ∈ lw_tbl := by decide +kernel
theorem xa_IllegalState : ∀ w ∈ (vx_atS RX0 83 "java/lang/IllegalStateException" ["java/lang/RuntimeException", "java/lang/Exception"]).filter goodWord, w ∈ W0 := fun w h => List.mem_filter.mpr ⟨xa_IllegalStatet w h, (List.mem_filter.mp h).2⟩
theorem xa_IndexOutOfBoundst : ∀ w ∈ (vx_atS RX0 99 "java/lang/IndexOutOfBoundsException" ["java/lang/RuntimeException", "java/lang/Exception"]).filter goodWord, w ∈ lw_tbl := by decide +kernel
theorem xa_IndexOutOfBounds : ∀ w ∈ (vx_atS RX0 99 "java/lang/IndexOutOfBoundsException" ["java/lang/RuntimeException", "java/lang/Exception"]).filter goodWord, w ∈ W0 := fun w h => List.mem_filter.mpr ⟨xa_IndexOutOfBoundst w h, (List.mem_filter.mp h).2⟩
end
section
theorem dX0_init_0 : decode cX0_init 0 = .ok (.aload_n 0, 1) := by decide +kernel
theorem dX0_init_1 : decode cX0_init 1 = .ok (.invokespecial 1, 3) := by decide +kernel
theorem dX0_init_4 : decode cX0_init 4 = .ok (.aload_n 0, 1) := by decide +kernel
theorem dX0_init_5 : decode cX0_init 5 = .ok (.bipush 40, 2) := by decide +kernel
theorem dX0_init_7 : decode cX0_init 7 = .ok (.newarray .int, 2) := by decide +kernel
theorem dX0_init_9 : decode cX0_init 9 = .ok (.putfield 9, 3) := by decide +kernel
theorem dX0_init_12 : decode cX0_init 12 = .ok (.aload_n 0, 1) := by decide +kernel
theorem dX0_init_13 : decode cX0_init 13 = .ok (.bipush 40, 2) := by decide +kernel
theorem dX0_init_15 : decode cX0_init 15 = .ok (.newarray .int, 2) := by decide +kernel
theorem dX0_init_17 : decode cX0_init 17 = .ok (.putfield 13, 3) := by decide +kernel
theorem dX0_init_20 : decode cX0_init 20 = .ok (.aload_n 0, 1) := by decide +kernel
theorem dX0_init_21 : decode cX0_init 21 = .ok (.bipush 8, 2) := by decide +kernel
theorem dX0_init_23 : decode cX0_init 23 = .ok (.newarray .int, 2) := by decide +kernel
theorem dX0_init_25 : decode cX0_init 25 = .ok (.putfield 16, 3) := by decide +kernel
theorem dX0_init_28 : decode cX0_init 28 = .ok (.aload_n 0, 1) := by decide +kernel
theorem dX0_init_29 : decode cX0_init 29 = .ok (.bipush 8, 2) := by decide +kernel
theorem dX0_init_31 : decode cX0_init 31 = .ok (.newarray .int, 2) := by decide +kernel
theorem dX0_init_33 : decode cX0_init 33 = .ok (.putfield 19, 3) := by decide +kernel
theorem dX0_init_36 : decode cX0_init 36 = .ok (.return_, 1) := by decide +kernel
theorem dX0_invalid_0 : decode cX0_invalid 0 = .ok (.aload_n 0, 1) := by decide +kernel
theorem dX0_invalid_1 : decode cX0_invalid 1 = .ok (.getfield 47, 3) := by decide +kernel
theorem dX0_invalid_4 : decode cX0_invalid 4 = .ok (.ifCond .ne 5, 3) := by decide +kernel
theorem dX0_invalid_7 : decode cX0_invalid 7 = .ok (.iconst 1, 1) := by decide +kernel
theorem dX0_invalid_8 : decode cX0_invalid 8 = .ok (.ireturn, 1) := by decide +kernel
theorem dX0_invalid_9 : decode cX0_invalid 9 = .ok (.aload_n 0, 1) := by decide +kernel
theorem dX0_invalid_10 : decode cX0_invalid 10 = .ok (.getfield 34, 3) := by decide +kernel
theorem dX0_invalid_13 : decode cX0_invalid 13 = .ok (.iconst 5, 1) := by decide +kernel
theorem dX0_invalid_14 : decode cX0_invalid 14 = .ok (.if_icmp .ge 5, 3) := by decide +kernel
theorem dX0_invalid_17 : decode cX0_invalid 17 = .ok (.iconst 2, 1) := by decide +kernel
theorem dX0_invalid_18 : decode cX0_invalid 18 = .ok (.ireturn, 1) := by decide +kernel
theorem dX0_invalid_19 : decode cX0_invalid 19 = .ok (.aload_n 0, 1) := by decide +kernel
theorem dX0_invalid_20 : decode cX0_invalid 20 = .ok (.invokevirtual 102, 3) := by decide +kernel
theorem dX0_invalid_23 : decode cX0_invalid 23 = .ok (.istore_n 1, 1) := by decide +kernel
theorem dX0_invalid_24 : decode cX0_invalid 24 = .ok (.iload_n 1, 1) := by decide +kernel
theorem dX0_invalid_25 : decode cX0_invalid 25 = .ok (.ifCond .ne 5, 3) := by decide +kernel
theorem dX0_invalid_28 : decode cX0_invalid 28 = .ok (.iconst 3, 1) := by decide +kernel
theorem dX0_invalid_29 : decode cX0_invalid 29 = .ok (.ireturn, 1) := by decide +kernel
theorem dX0_invalid_30 : decode cX0_invalid 30 = .ok (.iload_n 1, 1) := by decide +kernel
theorem dX0_invalid_31 : decode cX0_invalid 31 = .ok (.aload_n 0, 1) := by decide +kernel
theorem dX0_invalid_32 : decode cX0_invalid 32 = .ok (.getfield 34, 3) := by decide +kernel
theorem dX0_invalid_35 : decode cX0_invalid 35 = .ok (.iconst 1, 1) := by decide +kernel
theorem dX0_invalid_36 : decode cX0_invalid 36 = .ok (.isub, 1) := by decide +kernel
theorem dX0_invalid_37 : decode cX0_invalid 37 = .ok (.if_icmp .eq 13, 3) := by decide +kernel
theorem dX0_invalid_40 : decode cX0_invalid 40 = .ok (.aload_n 0, 1) := by decide +kernel
theorem dX0_invalid_41 : decode cX0_invalid 41 = .ok (.iload_n 1, 1) := by decide +kernel
theorem dX0_invalid_42 : decode cX0_invalid 42 = .ok (.invokevirtual 174, 3) := by decide +kernel
theorem dX0_invalid_45 : decode cX0_invalid 45 = .ok (.ifCond .ne 5, 3) := by decide +kernel
theorem dX0_invalid_48 : decode cX0_invalid 48 = .ok (.iconst 4, 1) := by decide +kernel
theorem dX0_invalid_49 : decode cX0_invalid 49 = .ok (.ireturn, 1) := by decide +kernel
theorem dX0_invalid_50 : decode cX0_invalid 50 = .ok (.aload_n 0, 1) := by decide +kernel
theorem dX0_invalid_51 : decode cX0_invalid 51 = .ok (.getfield 170, 3) := by decide +kernel
theorem dX0_invalid_54 : decode cX0_invalid 54 = .ok (.ifCond .eq 7, 3) := by decide +kernel
theorem dX0_invalid_57 : decode cX0_invalid 57 = .ok (.iconst 5, 1) := by decide +kernel
theorem dX0_invalid_58 : decode cX0_invalid 58 = .ok (.goto 4, 3) := by decide +kernel
theorem dX0_invalid_61 : decode cX0_invalid 61 = .ok (.iconst 0, 1) := by decide +kernel
theorem dX0_invalid_62 : decode cX0_invalid 62 = .ok (.ireturn, 1) := by decide +kernel
theorem dX0_firstRowOfGreatestForce_0 : decode cX0_firstRowOfGreatestForce 0 = .ok (.iconst 0, 1) := by decide +kernel
theorem dX0_firstRowOfGreatestForce_1 : decode cX0_firstRowOfGreatestForce 1 = .ok (.istore_n 1, 1) := by decide +kernel
theorem dX0_firstRowOfGreatestForce_2 : decode cX0_firstRowOfGreatestForce 2 = .ok (.iconst 1, 1) := by decide +kernel
theorem dX0_firstRowOfGreatestForce_3 : decode cX0_firstRowOfGreatestForce 3 = .ok (.istore_n 2, 1) := by decide +kernel
theorem dX0_firstRowOfGreatestForce_4 : decode cX0_firstRowOfGreatestForce 4 = .ok (.iload_n 2, 1) := by decide +kernel
theorem dX0_firstRowOfGreatestForce_5 : decode cX0_firstRowOfGreatestForce 5 = .ok (.aload_n 0, 1) := by decide +kernel
theorem dX0_firstRowOfGreatestForce_6 : decode cX0_firstRowOfGreatestForce 6 = .ok (.getfield 34, 3) := by decide +kernel
theorem dX0_firstRowOfGreatestForce_9 : decode cX0_firstRowOfGreatestForce 9 = .ok (.if_icmp .ge 26, 3) := by decide +kernel
theorem dX0_firstRowOfGreatestForce_12 : decode cX0_firstRowOfGreatestForce 12 = .ok (.aload_n 0, 1) := by decide +kernel
theorem dX0_firstRowOfGreatestForce_13 : decode cX0_firstRowOfGreatestForce 13 = .ok (.getfield 13, 3) := by decide +kernel
theorem dX0_firstRowOfGreatestForce_16 : decode cX0_firstRowOfGreatestForce 16 = .ok (.iload_n 2, 1) := by decide +kernel
theorem dX0_firstRowOfGreatestForce_17 : decode cX0_firstRowOfGreatestForce 17 = .ok (.iaload, 1) := by decide +kernel
theorem dX0_firstRowOfGreatestForce_18 : decode cX0_firstRowOfGreatestForce 18 = .ok (.aload_n 0, 1) := by decide +kernel
theorem dX0_firstRowOfGreatestForce_19 : decode cX0_firstRowOfGreatestForce 19 = .ok (.getfield 13, 3) := by decide +kernel
theorem dX0_firstRowOfGreatestForce_22 : decode cX0_firstRowOfGreatestForce 22 = .ok (.iload_n 1, 1) := by decide +kernel
theorem dX0_firstRowOfGreatestForce_23 : decode cX0_firstRowOfGreatestForce 23 = .ok (.iaload, 1) := by decide +kernel
theorem dX0_firstRowOfGreatestForce_24 : decode cX0_firstRowOfGreatestForce 24 = .ok (.if_icmp .le 5, 3) := by decide +kernel
theorem dX0_firstRowOfGreatestForce_27 : decode cX0_firstRowOfGreatestForce 27 = .ok (.iload_n 2, 1) := by decide +kernel
theorem dX0_firstRowOfGreatestForce_28 : decode cX0_firstRowOfGreatestForce 28 = .ok (.istore_n 1, 1) := by decide +kernel
theorem dX0_firstRowOfGreatestForce_29 : decode cX0_firstRowOfGreatestForce 29 = .ok (.iinc 2 1, 3) := by decide +kernel
theorem dX0_firstRowOfGreatestForce_32 : decode cX0_firstRowOfGreatestForce 32 = .ok (.goto (-28), 3) := by decide +kernel
theorem dX0_firstRowOfGreatestForce_35 : decode cX0_firstRowOfGreatestForce 35 = .ok (.iload_n 1, 1) := by decide +kernel
theorem dX0_firstRowOfGreatestForce_36 : decode cX0_firstRowOfGreatestForce 36 = .ok (.ireturn, 1) := by decide +kernel
theorem dX0_fallsBelowHalfBehind_0 : decode cX0_fallsBelowHalfBehind 0 = .ok (.iload_n 1, 1) := by decide +kernel
theorem dX0_fallsBelowHalfBehind_1 : decode cX0_fallsBelowHalfBehind 1 = .ok (.iconst 1, 1) := by decide +kernel
theorem dX0_fallsBelowHalfBehind_2 : decode cX0_fallsBelowHalfBehind 2 = .ok (.iadd, 1) := by decide +kernel
theorem dX0_fallsBelowHalfBehind_3 : decode cX0_fallsBelowHalfBehind 3 = .ok (.istore_n 2, 1) := by decide +kernel
theorem dX0_fallsBelowHalfBehind_4 : decode cX0_fallsBelowHalfBehind 4 = .ok (.iload_n 2, 1) := by decide +kernel
theorem dX0_fallsBelowHalfBehind_5 : decode cX0_fallsBelowHalfBehind 5 = .ok (.aload_n 0, 1) := by decide +kernel
theorem dX0_fallsBelowHalfBehind_6 : decode cX0_fallsBelowHalfBehind 6 = .ok (.getfield 34, 3) := by decide +kernel
theorem dX0_fallsBelowHalfBehind_9 : decode cX0_fallsBelowHalfBehind 9 = .ok (.if_icmp .ge 28, 3) := by decide +kernel
theorem dX0_fallsBelowHalfBehind_12 : decode cX0_fallsBelowHalfBehind 12 = .ok (.aload_n 0, 1) := by decide +kernel
theorem dX0_fallsBelowHalfBehind_13 : decode cX0_fallsBelowHalfBehind 13 = .ok (.getfield 13, 3) := by decide +kernel
theorem dX0_fallsBelowHalfBehind_16 : decode cX0_fallsBelowHalfBehind 16 = .ok (.iload_n 2, 1) := by decide +kernel
theorem dX0_fallsBelowHalfBehind_17 : decode cX0_fallsBelowHalfBehind 17 = .ok (.iaload, 1) := by decide +kernel
theorem dX0_fallsBelowHalfBehind_18 : decode cX0_fallsBelowHalfBehind 18 = .ok (.iconst 2, 1) := by decide +kernel
theorem dX0_fallsBelowHalfBehind_19 : decode cX0_fallsBelowHalfBehind 19 = .ok (.imul, 1) := by decide +kernel
theorem dX0_fallsBelowHalfBehind_20 : decode cX0_fallsBelowHalfBehind 20 = .ok (.aload_n 0, 1) := by decide +kernel
theorem dX0_fallsBelowHalfBehind_21 : decode cX0_fallsBelowHalfBehind 21 = .ok (.getfield 13, 3) := by decide +kernel
theorem dX0_fallsBelowHalfBehind_24 : decode cX0_fallsBelowHalfBehind 24 = .ok (.iload_n 1, 1) := by decide +kernel
theorem dX0_fallsBelowHalfBehind_25 : decode cX0_fallsBelowHalfBehind 25 = .ok (.iaload, 1) := by decide +kernel
theorem dX0_fallsBelowHalfBehind_26 : decode cX0_fallsBelowHalfBehind 26 = .ok (.if_icmp .ge 5, 3) := by decide +kernel
theorem dX0_fallsBelowHalfBehind_29 : decode cX0_fallsBelowHalfBehind 29 = .ok (.iconst 1, 1) := by decide +kernel
theorem dX0_fallsBelowHalfBehind_30 : decode cX0_fallsBelowHalfBehind 30 = .ok (.ireturn, 1) := by decide +kernel
theorem dX0_fallsBelowHalfBehind_31 : decode cX0_fallsBelowHalfBehind 31 = .ok (.iinc 2 1, 3) := by decide +kernel
theorem dX0_fallsBelowHalfBehind_34 : decode cX0_fallsBelowHalfBehind 34 = .ok (.goto (-30), 3) := by decide +kernel
theorem dX0_fallsBelowHalfBehind_37 : decode cX0_fallsBelowHalfBehind 37 = .ok (.iconst 0, 1) := by decide +kernel
theorem dX0_fallsBelowHalfBehind_38 : decode cX0_fallsBelowHalfBehind 38 = .ok (.ireturn, 1) := by decide +kernel
theorem dX0_clear_0 : decode cX0_clear 0 = .ok (.aload_n 0, 1) := by decide +kernel
theorem dX0_clear_1 : decode cX0_clear 1 = .ok (.iconst 0, 1) := by decide +kernel
theorem dX0_clear_2 : decode cX0_clear 2 = .ok (.putfield 34, 3) := by decide +kernel
theorem dX0_clear_5 : decode cX0_clear 5 = .ok (.aload_n 0, 1) := by decide +kernel
theorem dX0_clear_6 : decode cX0_clear 6 = .ok (.iconst 0, 1) := by decide +kernel
theorem dX0_clear_7 : decode cX0_clear 7 = .ok (.putfield 47, 3) := by decide +kernel
theorem dX0_clear_10 : decode cX0_clear 10 = .ok (.aload_n 0, 1) := by decide +kernel
theorem dX0_clear_11 : decode cX0_clear 11 = .ok (.iconst 0, 1) := by decide +kernel
theorem dX0_clear_12 : decode cX0_clear 12 = .ok (.putfield 50, 3) := by decide +kernel
theorem dX0_clear_15 : decode cX0_clear 15 = .ok (.aload_n 0, 1) := by decide +kernel
theorem dX0_clear_16 : decode cX0_clear 16 = .ok (.lconst 0, 1) := by decide +kernel
theorem dX0_clear_17 : decode cX0_clear 17 = .ok (.putfield 68, 3) := by decide +kernel
theorem dX0_clear_20 : decode cX0_clear 20 = .ok (.aload_n 0, 1) := by decide +kernel
theorem dX0_clear_21 : decode cX0_clear 21 = .ok (.lconst 0, 1) := by decide +kernel
theorem dX0_clear_22 : decode cX0_clear 22 = .ok (.putfield 72, 3) := by decide +kernel
theorem dX0_clear_25 : decode cX0_clear 25 = .ok (.aload_n 0, 1) := by decide +kernel
theorem dX0_clear_26 : decode cX0_clear 26 = .ok (.iconst 0, 1) := by decide +kernel
theorem dX0_clear_27 : decode cX0_clear 27 = .ok (.putfield 170, 3) := by decide +kernel
theorem dX0_clear_30 : decode cX0_clear 30 = .ok (.return_, 1) := by decide +kernel
theorem dL_row_0 : decode cL_row 0 = .ok (.aload_n 3, 1) := by decide +kernel
theorem dL_row_1 : decode cL_row 1 = .ok (.iconst 0, 1) := by decide +kernel
theorem dL_row_2 : decode cL_row 2 = .ok (.aload_n 0, 1) := by decide +kernel
theorem dL_row_3 : decode cL_row 3 = .ok (.iload_n 1, 1) := by decide +kernel
theorem dL_row_4 : decode cL_row 4 = .ok (.iload_n 2, 1) := by decide +kernel
theorem dL_row_5 : decode cL_row 5 = .ok (.invokevirtual 7, 3) := by decide +kernel
theorem dL_row_8 : decode cL_row 8 = .ok (.i2l, 1) := by decide +kernel
theorem dL_row_9 : decode cL_row 9 = .ok (.lastore, 1) := by decide +kernel
theorem dL_row_10 : decode cL_row 10 = .ok (.goto 11, 3) := by decide +kernel
theorem dL_row_13 : decode cL_row 13 = .ok (.astore 4, 2) := by decide +kernel
theorem dL_row_15 : decode cL_row 15 = .ok (.iconst 1, 1) := by decide +kernel
theorem dL_row_16 : decode cL_row 16 = .ok (.ireturn, 1) := by decide +kernel
theorem dL_row_17 : decode cL_row 17 = .ok (.astore 4, 2) := by decide +kernel
theorem dL_row_19 : decode cL_row 19 = .ok (.iconst 2, 1) := by decide +kernel
theorem dL_row_20 : decode cL_row 20 = .ok (.ireturn, 1) := by decide +kernel
theorem dL_row_21 : decode cL_row 21 = .ok (.iconst 0, 1) := by decide +kernel
theorem dL_row_22 : decode cL_row 22 = .ok (.ireturn, 1) := by decide +kernel
theorem dX0_row_0 : decode cX0_row 0 = .ok (.iload_n 1, 1) := by decide +kernel
theorem dX0_row_1 : decode cX0_row 1 = .ok (.iconst 0, 1) := by decide +kernel
theorem dX0_row_2 : decode cX0_row 2 = .ok (.ldc 22, 2) := by decide +kernel
theorem dX0_row_4 : decode cX0_row 4 = .ok (.invokestatic 23, 3) := by decide +kernel
theorem dX0_row_7 : decode cX0_row 7 = .ok (.ifCond .eq 13, 3) := by decide +kernel
theorem dX0_row_10 : decode cX0_row 10 = .ok (.iload_n 2, 1) := by decide +kernel
theorem dX0_row_11 : decode cX0_row 11 = .ok (.iconst 0, 1) := by decide +kernel
theorem dX0_row_12 : decode cX0_row 12 = .ok (.ldc 22, 2) := by decide +kernel
theorem dX0_row_14 : decode cX0_row 14 = .ok (.invokestatic 23, 3) := by decide +kernel
theorem dX0_row_17 : decode cX0_row 17 = .ok (.ifCond .ne 13, 3) := by decide +kernel
theorem dX0_row_20 : decode cX0_row 20 = .ok (.new 27, 3) := by decide +kernel
theorem dX0_row_23 : decode cX0_row 23 = .ok (.dup, 1) := by decide +kernel
theorem dX0_row_24 : decode cX0_row 24 = .ok (.ldc 29, 2) := by decide +kernel
theorem dX0_row_26 : decode cX0_row 26 = .ok (.invokespecial 31, 3) := by decide +kernel
theorem dX0_row_29 : decode cX0_row 29 = .ok (.athrow, 1) := by decide +kernel
theorem dX0_row_30 : decode cX0_row 30 = .ok (.aload_n 0, 1) := by decide +kernel
theorem dX0_row_31 : decode cX0_row 31 = .ok (.getfield 34, 3) := by decide +kernel
theorem dX0_row_34 : decode cX0_row 34 = .ok (.ifCond .le 28, 3) := by decide +kernel
theorem dX0_row_37 : decode cX0_row 37 = .ok (.iload_n 1, 1) := by decide +kernel
theorem dX0_row_38 : decode cX0_row 38 = .ok (.aload_n 0, 1) := by decide +kernel
theorem dX0_row_39 : decode cX0_row 39 = .ok (.getfield 9, 3) := by decide +kernel
theorem dX0_row_42 : decode cX0_row 42 = .ok (.aload_n 0, 1) := by decide +kernel
theorem dX0_row_43 : decode cX0_row 43 = .ok (.getfield 34, 3) := by decide +kernel
theorem dX0_row_46 : decode cX0_row 46 = .ok (.iconst 1, 1) := by decide +kernel
theorem dX0_row_47 : decode cX0_row 47 = .ok (.isub, 1) := by decide +kernel
theorem dX0_row_48 : decode cX0_row 48 = .ok (.iaload, 1) := by decide +kernel
theorem dX0_row_49 : decode cX0_row 49 = .ok (.if_icmp .gt 13, 3) := by decide +kernel
theorem dX0_row_52 : decode cX0_row 52 = .ok (.new 27, 3) := by decide +kernel
theorem dX0_row_55 : decode cX0_row 55 = .ok (.dup, 1) := by decide +kernel
theorem dX0_row_56 : decode cX0_row 56 = .ok (.ldc 38, 2) := by decide +kernel
theorem dX0_row_58 : decode cX0_row 58 = .ok (.invokespecial 31, 3) := by decide +kernel
theorem dX0_row_61 : decode cX0_row 61 = .ok (.athrow, 1) := by decide +kernel
theorem dX0_row_62 : decode cX0_row 62 = .ok (.aload_n 0, 1) := by decide +kernel
theorem dX0_row_63 : decode cX0_row 63 = .ok (.getfield 34, 3) := by decide +kernel
theorem dX0_row_66 : decode cX0_row 66 = .ok (.bipush 40, 2) := by decide +kernel
theorem dX0_row_68 : decode cX0_row 68 = .ok (.if_icmp .lt 13, 3) := by decide +kernel
theorem dX0_row_71 : decode cX0_row 71 = .ok (.new 40, 3) := by decide +kernel
theorem dX0_row_74 : decode cX0_row 74 = .ok (.dup, 1) := by decide +kernel
theorem dX0_row_75 : decode cX0_row 75 = .ok (.ldc 42, 2) := by decide +kernel
theorem dX0_row_77 : decode cX0_row 77 = .ok (.invokespecial 44, 3) := by decide +kernel
theorem dX0_row_80 : decode cX0_row 80 = .ok (.athrow, 1) := by decide +kernel
theorem dX0_row_81 : decode cX0_row 81 = .ok (.aload_n 0, 1) := by decide +kernel
theorem dX0_row_82 : decode cX0_row 82 = .ok (.getfield 9, 3) := by decide +kernel
theorem dX0_row_85 : decode cX0_row 85 = .ok (.aload_n 0, 1) := by decide +kernel
theorem dX0_row_86 : decode cX0_row 86 = .ok (.getfield 34, 3) := by decide +kernel
theorem dX0_row_89 : decode cX0_row 89 = .ok (.iload_n 1, 1) := by decide +kernel
theorem dX0_row_90 : decode cX0_row 90 = .ok (.iastore, 1) := by decide +kernel
theorem dX0_row_91 : decode cX0_row 91 = .ok (.aload_n 0, 1) := by decide +kernel
theorem dX0_row_92 : decode cX0_row 92 = .ok (.getfield 13, 3) := by decide +kernel
theorem dX0_row_95 : decode cX0_row 95 = .ok (.aload_n 0, 1) := by decide +kernel
theorem dX0_row_96 : decode cX0_row 96 = .ok (.getfield 34, 3) := by decide +kernel
theorem dX0_row_99 : decode cX0_row 99 = .ok (.iload_n 2, 1) := by decide +kernel
theorem dX0_row_100 : decode cX0_row 100 = .ok (.iastore, 1) := by decide +kernel
theorem dX0_row_101 : decode cX0_row 101 = .ok (.aload_n 0, 1) := by decide +kernel
theorem dX0_row_102 : decode cX0_row 102 = .ok (.dup, 1) := by decide +kernel
theorem dX0_row_103 : decode cX0_row 103 = .ok (.getfield 34, 3) := by decide +kernel
theorem dX0_row_106 : decode cX0_row 106 = .ok (.iconst 1, 1) := by decide +kernel
theorem dX0_row_107 : decode cX0_row 107 = .ok (.iadd, 1) := by decide +kernel
theorem dX0_row_108 : decode cX0_row 108 = .ok (.putfield 34, 3) := by decide +kernel
theorem dX0_row_111 : decode cX0_row 111 = .ok (.aload_n 0, 1) := by decide +kernel
theorem dX0_row_112 : decode cX0_row 112 = .ok (.getfield 34, 3) := by decide +kernel
theorem dX0_row_115 : decode cX0_row 115 = .ok (.ireturn, 1) := by decide +kernel
theorem dX0_isWithin_0 : decode cX0_isWithin 0 = .ok (.iload_n 0, 1) := by decide +kernel
theorem dX0_isWithin_1 : decode cX0_isWithin 1 = .ok (.iload_n 1, 1) := by decide +kernel
theorem dX0_isWithin_2 : decode cX0_isWithin 2 = .ok (.if_icmp .lt 12, 3) := by decide +kernel
theorem dX0_isWithin_5 : decode cX0_isWithin 5 = .ok (.iload_n 0, 1) := by decide +kernel
theorem dX0_isWithin_6 : decode cX0_isWithin 6 = .ok (.iload_n 2, 1) := by decide +kernel
theorem dX0_isWithin_7 : decode cX0_isWithin 7 = .ok (.if_icmp .gt 7, 3) := by decide +kernel
theorem dX0_isWithin_10 : decode cX0_isWithin 10 = .ok (.iconst 1, 1) := by decide +kernel
theorem dX0_isWithin_11 : decode cX0_isWithin 11 = .ok (.goto 4, 3) := by decide +kernel
theorem dX0_isWithin_14 : decode cX0_isWithin 14 = .ok (.iconst 0, 1) := by decide +kernel
theorem dX0_isWithin_15 : decode cX0_isWithin 15 = .ok (.ireturn, 1) := by decide +kernel
theorem dL_section_0 : decode cL_section 0 = .ok (.aload_n 0, 1) := by decide +kernel
theorem dL_section_1 : decode cL_section 1 = .ok (.iload_n 1, 1) := by decide +kernel
theorem dL_section_2 : decode cL_section 2 = .ok (.iload_n 2, 1) := by decide +kernel
theorem dL_section_3 : decode cL_section 3 = .ok (.invokevirtual 17, 3) := by decide +kernel
theorem dL_section_6 : decode cL_section 6 = .ok (.goto 6, 3) := by decide +kernel
theorem dL_section_9 : decode cL_section 9 = .ok (.astore_n 3, 1) := by decide +kernel
theorem dL_section_10 : decode cL_section 10 = .ok (.iconst 1, 1) := by decide +kernel
theorem dL_section_11 : decode cL_section 11 = .ok (.ireturn, 1) := by decide +kernel
theorem dL_section_12 : decode cL_section 12 = .ok (.iconst 0, 1) := by decide +kernel
theorem dL_section_13 : decode cL_section 13 = .ok (.ireturn, 1) := by decide +kernel
theorem dX0_section_0 : decode cX0_section 0 = .ok (.iload_n 1, 1) := by decide +kernel
theorem dX0_section_1 : decode cX0_section 1 = .ok (.iconst 1, 1) := by decide +kernel
theorem dX0_section_2 : decode cX0_section 2 = .ok (.sipush 10000, 3) := by decide +kernel
theorem dX0_section_5 : decode cX0_section 5 = .ok (.invokestatic 23, 3) := by decide +kernel
theorem dX0_section_8 : decode cX0_section 8 = .ok (.ifCond .eq 13, 3) := by decide +kernel
theorem dX0_section_11 : decode cX0_section 11 = .ok (.iload_n 2, 1) := by decide +kernel
theorem dX0_section_12 : decode cX0_section 12 = .ok (.iconst 0, 1) := by decide +kernel
theorem dX0_section_13 : decode cX0_section 13 = .ok (.ldc 22, 2) := by decide +kernel
theorem dX0_section_15 : decode cX0_section 15 = .ok (.invokestatic 23, 3) := by decide +kernel
theorem dX0_section_18 : decode cX0_section 18 = .ok (.ifCond .ne 13, 3) := by decide +kernel
theorem dX0_section_21 : decode cX0_section 21 = .ok (.new 27, 3) := by decide +kernel
theorem dX0_section_24 : decode cX0_section 24 = .ok (.dup, 1) := by decide +kernel
theorem dX0_section_25 : decode cX0_section 25 = .ok (.ldc 45, 2) := by decide +kernel
theorem dX0_section_27 : decode cX0_section 27 = .ok (.invokespecial 31, 3) := by decide +kernel
theorem dX0_section_30 : decode cX0_section 30 = .ok (.athrow, 1) := by decide +kernel
theorem dX0_section_31 : decode cX0_section 31 = .ok (.aload_n 0, 1) := by decide +kernel
theorem dX0_section_32 : decode cX0_section 32 = .ok (.iload_n 1, 1) := by decide +kernel
theorem dX0_section_33 : decode cX0_section 33 = .ok (.putfield 47, 3) := by decide +kernel
theorem dX0_section_36 : decode cX0_section 36 = .ok (.aload_n 0, 1) := by decide +kernel
theorem dX0_section_37 : decode cX0_section 37 = .ok (.iload_n 2, 1) := by decide +kernel
theorem dX0_section_38 : decode cX0_section 38 = .ok (.putfield 50, 3) := by decide +kernel
theorem dX0_section_41 : decode cX0_section 41 = .ok (.return_, 1) := by decide +kernel
theorem dL_slope_0 : decode cL_slope 0 = .ok (.aload 4, 2) := by decide +kernel
theorem dL_slope_2 : decode cL_slope 2 = .ok (.iconst 0, 1) := by decide +kernel
theorem dL_slope_3 : decode cL_slope 3 = .ok (.aload_n 0, 1) := by decide +kernel
theorem dL_slope_4 : decode cL_slope 4 = .ok (.iload_n 1, 1) := by decide +kernel
theorem dL_slope_5 : decode cL_slope 5 = .ok (.iload_n 2, 1) := by decide +kernel
theorem dL_slope_6 : decode cL_slope 6 = .ok (.iload_n 3, 1) := by decide +kernel
theorem dL_slope_7 : decode cL_slope 7 = .ok (.invokevirtual 21, 3) := by decide +kernel
theorem dL_slope_10 : decode cL_slope 10 = .ok (.lastore, 1) := by decide +kernel
theorem dL_slope_11 : decode cL_slope 11 = .ok (.goto 15, 3) := by decide +kernel
theorem dL_slope_14 : decode cL_slope 14 = .ok (.astore 5, 2) := by decide +kernel
theorem dL_slope_16 : decode cL_slope 16 = .ok (.iconst 1, 1) := by decide +kernel
theorem dL_slope_17 : decode cL_slope 17 = .ok (.ireturn, 1) := by decide +kernel
theorem dL_slope_18 : decode cL_slope 18 = .ok (.astore 5, 2) := by decide +kernel
theorem dL_slope_20 : decode cL_slope 20 = .ok (.iconst 2, 1) := by decide +kernel
theorem dL_slope_21 : decode cL_slope 21 = .ok (.ireturn, 1) := by decide +kernel
theorem dL_slope_22 : decode cL_slope 22 = .ok (.astore 5, 2) := by decide +kernel
theorem dL_slope_24 : decode cL_slope 24 = .ok (.iconst 3, 1) := by decide +kernel
theorem dL_slope_25 : decode cL_slope 25 = .ok (.ireturn, 1) := by decide +kernel
theorem dL_slope_26 : decode cL_slope 26 = .ok (.iconst 0, 1) := by decide +kernel
theorem dL_slope_27 : decode cL_slope 27 = .ok (.ireturn, 1) := by decide +kernel
theorem dX0_slope_0 : decode cX0_slope 0 = .ok (.iload_n 3, 1) := by decide +kernel
theorem dX0_slope_1 : decode cX0_slope 1 = .ok (.invokestatic 53, 3) := by decide +kernel
theorem dX0_slope_4 : decode cX0_slope 4 = .ok (.iload_n 1, 1) := by decide +kernel
theorem dX0_slope_5 : decode cX0_slope 5 = .ok (.iconst 0, 1) := by decide +kernel
theorem dX0_slope_6 : decode cX0_slope 6 = .ok (.ldc 22, 2) := by decide +kernel
theorem dX0_slope_8 : decode cX0_slope 8 = .ok (.invokestatic 23, 3) := by decide +kernel
theorem dX0_slope_11 : decode cX0_slope 11 = .ok (.ifCond .eq 18, 3) := by decide +kernel
theorem dX0_slope_14 : decode cX0_slope 14 = .ok (.iload_n 2, 1) := by decide +kernel
theorem dX0_slope_15 : decode cX0_slope 15 = .ok (.iconst 0, 1) := by decide +kernel
theorem dX0_slope_16 : decode cX0_slope 16 = .ok (.ldc 22, 2) := by decide +kernel
theorem dX0_slope_18 : decode cX0_slope 18 = .ok (.invokestatic 23, 3) := by decide +kernel
theorem dX0_slope_21 : decode cX0_slope 21 = .ok (.ifCond .eq 8, 3) := by decide +kernel
theorem dX0_slope_24 : decode cX0_slope 24 = .ok (.iload_n 1, 1) := by decide +kernel
theorem dX0_slope_25 : decode cX0_slope 25 = .ok (.iload_n 2, 1) := by decide +kernel
theorem dX0_slope_26 : decode cX0_slope 26 = .ok (.if_icmp .lt 13, 3) := by decide +kernel
theorem dX0_slope_29 : decode cX0_slope 29 = .ok (.new 27, 3) := by decide +kernel
theorem dX0_slope_32 : decode cX0_slope 32 = .ok (.dup, 1) := by decide +kernel
theorem dX0_slope_33 : decode cX0_slope 33 = .ok (.ldc 57, 2) := by decide +kernel
theorem dX0_slope_35 : decode cX0_slope 35 = .ok (.invokespecial 31, 3) := by decide +kernel
theorem dX0_slope_38 : decode cX0_slope 38 = .ok (.athrow, 1) := by decide +kernel
theorem dX0_slope_39 : decode cX0_slope 39 = .ok (.aload_n 0, 1) := by decide +kernel
theorem dX0_slope_40 : decode cX0_slope 40 = .ok (.iload_n 1, 1) := by decide +kernel
theorem dX0_slope_41 : decode cX0_slope 41 = .ok (.invokevirtual 59, 3) := by decide +kernel
theorem dX0_slope_44 : decode cX0_slope 44 = .ok (.istore 4, 2) := by decide +kernel
theorem dX0_slope_46 : decode cX0_slope 46 = .ok (.aload_n 0, 1) := by decide +kernel
theorem dX0_slope_47 : decode cX0_slope 47 = .ok (.iload_n 2, 1) := by decide +kernel
theorem dX0_slope_48 : decode cX0_slope 48 = .ok (.invokevirtual 63, 3) := by decide +kernel
theorem dX0_slope_51 : decode cX0_slope 51 = .ok (.istore 5, 2) := by decide +kernel
theorem dX0_slope_53 : decode cX0_slope 53 = .ok (.iload 4, 2) := by decide +kernel
theorem dX0_slope_55 : decode cX0_slope 55 = .ok (.iload 5, 2) := by decide +kernel
theorem dX0_slope_57 : decode cX0_slope 57 = .ok (.if_icmp .lt 13, 3) := by decide +kernel
theorem dX0_slope_60 : decode cX0_slope 60 = .ok (.new 40, 3) := by decide +kernel
theorem dX0_slope_63 : decode cX0_slope 63 = .ok (.dup, 1) := by decide +kernel
theorem dX0_slope_64 : decode cX0_slope 64 = .ok (.ldc 66, 2) := by decide +kernel
theorem dX0_slope_66 : decode cX0_slope 66 = .ok (.invokespecial 44, 3) := by decide +kernel
theorem dX0_slope_69 : decode cX0_slope 69 = .ok (.athrow, 1) := by decide +kernel
theorem dX0_slope_70 : decode cX0_slope 70 = .ok (.aload_n 0, 1) := by decide +kernel
theorem dX0_slope_71 : decode cX0_slope 71 = .ok (.getfield 13, 3) := by decide +kernel
theorem dX0_slope_74 : decode cX0_slope 74 = .ok (.iload 5, 2) := by decide +kernel
theorem dX0_slope_76 : decode cX0_slope 76 = .ok (.iaload, 1) := by decide +kernel
theorem dX0_slope_77 : decode cX0_slope 77 = .ok (.aload_n 0, 1) := by decide +kernel
theorem dX0_slope_78 : decode cX0_slope 78 = .ok (.getfield 13, 3) := by decide +kernel
theorem dX0_slope_81 : decode cX0_slope 81 = .ok (.iload 4, 2) := by decide +kernel
theorem dX0_slope_83 : decode cX0_slope 83 = .ok (.iaload, 1) := by decide +kernel
theorem dX0_slope_84 : decode cX0_slope 84 = .ok (.isub, 1) := by decide +kernel
theorem dX0_slope_85 : decode cX0_slope 85 = .ok (.i2l, 1) := by decide +kernel
theorem dX0_slope_86 : decode cX0_slope 86 = .ok (.lstore 6, 2) := by decide +kernel
theorem dX0_slope_88 : decode cX0_slope 88 = .ok (.aload_n 0, 1) := by decide +kernel
theorem dX0_slope_89 : decode cX0_slope 89 = .ok (.getfield 9, 3) := by decide +kernel
theorem dX0_slope_92 : decode cX0_slope 92 = .ok (.iload 5, 2) := by decide +kernel
theorem dX0_slope_94 : decode cX0_slope 94 = .ok (.iaload, 1) := by decide +kernel
theorem dX0_slope_95 : decode cX0_slope 95 = .ok (.aload_n 0, 1) := by decide +kernel
theorem dX0_slope_96 : decode cX0_slope 96 = .ok (.getfield 9, 3) := by decide +kernel
theorem dX0_slope_99 : decode cX0_slope 99 = .ok (.iload 4, 2) := by decide +kernel
theorem dX0_slope_101 : decode cX0_slope 101 = .ok (.iaload, 1) := by decide +kernel
theorem dX0_slope_102 : decode cX0_slope 102 = .ok (.isub, 1) := by decide +kernel
theorem dX0_slope_103 : decode cX0_slope 103 = .ok (.i2l, 1) := by decide +kernel
theorem dX0_slope_104 : decode cX0_slope 104 = .ok (.lstore 8, 2) := by decide +kernel
theorem dX0_slope_106 : decode cX0_slope 106 = .ok (.lload 6, 2) := by decide +kernel
theorem dX0_slope_108 : decode cX0_slope 108 = .ok (.lconst 0, 1) := by decide +kernel
theorem dX0_slope_109 : decode cX0_slope 109 = .ok (.lcmp, 1) := by decide +kernel
theorem dX0_slope_110 : decode cX0_slope 110 = .ok (.ifCond .le 15, 3) := by decide +kernel
theorem dX0_slope_113 : decode cX0_slope 113 = .ok (.aload_n 0, 1) := by decide +kernel
theorem dX0_slope_114 : decode cX0_slope 114 = .ok (.lload 6, 2) := by decide +kernel
theorem dX0_slope_116 : decode cX0_slope 116 = .ok (.putfield 68, 3) := by decide +kernel
theorem dX0_slope_119 : decode cX0_slope 119 = .ok (.aload_n 0, 1) := by decide +kernel
theorem dX0_slope_120 : decode cX0_slope 120 = .ok (.lload 8, 2) := by decide +kernel
theorem dX0_slope_122 : decode cX0_slope 122 = .ok (.putfield 72, 3) := by decide +kernel
theorem dX0_slope_125 : decode cX0_slope 125 = .ok (.lload 6, 2) := by decide +kernel
theorem dX0_slope_127 : decode cX0_slope 127 = .ok (.lload 8, 2) := by decide +kernel
theorem dX0_slope_129 : decode cX0_slope 129 = .ok (.iload_n 3, 1) := by decide +kernel
theorem dX0_slope_130 : decode cX0_slope 130 = .ok (.invokestatic 75, 3) := by decide +kernel
theorem dX0_slope_133 : decode cX0_slope 133 = .ok (.lreturn, 1) := by decide +kernel
theorem dX0_refuseNoSuchPart_0 : decode cX0_refuseNoSuchPart 0 = .ok (.iload_n 0, 1) := by decide +kernel
theorem dX0_refuseNoSuchPart_1 : decode cX0_refuseNoSuchPart 1 = .ok (.iconst 0, 1) := by decide +kernel
theorem dX0_refuseNoSuchPart_2 : decode cX0_refuseNoSuchPart 2 = .ok (.iconst 1, 1) := by decide +kernel
theorem dX0_refuseNoSuchPart_3 : decode cX0_refuseNoSuchPart 3 = .ok (.invokestatic 23, 3) := by decide +kernel
theorem dX0_refuseNoSuchPart_6 : decode cX0_refuseNoSuchPart 6 = .ok (.ifCond .ne 13, 3) := by decide +kernel
theorem dX0_refuseNoSuchPart_9 : decode cX0_refuseNoSuchPart 9 = .ok (.new 95, 3) := by decide +kernel
theorem dX0_refuseNoSuchPart_12 : decode cX0_refuseNoSuchPart 12 = .ok (.dup, 1) := by decide +kernel
theorem dX0_refuseNoSuchPart_13 : decode cX0_refuseNoSuchPart 13 = .ok (.ldc 178, 2) := by decide +kernel
theorem dX0_refuseNoSuchPart_15 : decode cX0_refuseNoSuchPart 15 = .ok (.invokespecial 99, 3) := by decide +kernel
theorem dX0_refuseNoSuchPart_18 : decode cX0_refuseNoSuchPart 18 = .ok (.athrow, 1) := by decide +kernel
theorem dX0_refuseNoSuchPart_19 : decode cX0_refuseNoSuchPart 19 = .ok (.return_, 1) := by decide +kernel
theorem dX0_firstRowFrom_0 : decode cX0_firstRowFrom 0 = .ok (.iconst 0, 1) := by decide +kernel
theorem dX0_firstRowFrom_1 : decode cX0_firstRowFrom 1 = .ok (.istore_n 2, 1) := by decide +kernel
theorem dX0_firstRowFrom_2 : decode cX0_firstRowFrom 2 = .ok (.iload_n 2, 1) := by decide +kernel
theorem dX0_firstRowFrom_3 : decode cX0_firstRowFrom 3 = .ok (.aload_n 0, 1) := by decide +kernel
theorem dX0_firstRowFrom_4 : decode cX0_firstRowFrom 4 = .ok (.getfield 34, 3) := by decide +kernel
theorem dX0_firstRowFrom_7 : decode cX0_firstRowFrom 7 = .ok (.if_icmp .ge 21, 3) := by decide +kernel
theorem dX0_firstRowFrom_10 : decode cX0_firstRowFrom 10 = .ok (.aload_n 0, 1) := by decide +kernel
theorem dX0_firstRowFrom_11 : decode cX0_firstRowFrom 11 = .ok (.getfield 9, 3) := by decide +kernel
theorem dX0_firstRowFrom_14 : decode cX0_firstRowFrom 14 = .ok (.iload_n 2, 1) := by decide +kernel
theorem dX0_firstRowFrom_15 : decode cX0_firstRowFrom 15 = .ok (.iaload, 1) := by decide +kernel
theorem dX0_firstRowFrom_16 : decode cX0_firstRowFrom 16 = .ok (.iload_n 1, 1) := by decide +kernel
theorem dX0_firstRowFrom_17 : decode cX0_firstRowFrom 17 = .ok (.if_icmp .lt 5, 3) := by decide +kernel
theorem dX0_firstRowFrom_20 : decode cX0_firstRowFrom 20 = .ok (.iload_n 2, 1) := by decide +kernel
theorem dX0_firstRowFrom_21 : decode cX0_firstRowFrom 21 = .ok (.ireturn, 1) := by decide +kernel
theorem dX0_firstRowFrom_22 : decode cX0_firstRowFrom 22 = .ok (.iinc 2 1, 3) := by decide +kernel
theorem dX0_firstRowFrom_25 : decode cX0_firstRowFrom 25 = .ok (.goto (-23), 3) := by decide +kernel
theorem dX0_firstRowFrom_28 : decode cX0_firstRowFrom 28 = .ok (.aload_n 0, 1) := by decide +kernel
theorem dX0_firstRowFrom_29 : decode cX0_firstRowFrom 29 = .ok (.getfield 34, 3) := by decide +kernel
theorem dX0_firstRowFrom_32 : decode cX0_firstRowFrom 32 = .ok (.ireturn, 1) := by decide +kernel
theorem dX0_lastRowUpTo_0 : decode cX0_lastRowUpTo 0 = .ok (.aload_n 0, 1) := by decide +kernel
theorem dX0_lastRowUpTo_1 : decode cX0_lastRowUpTo 1 = .ok (.getfield 34, 3) := by decide +kernel
theorem dX0_lastRowUpTo_4 : decode cX0_lastRowUpTo 4 = .ok (.iconst 1, 1) := by decide +kernel
theorem dX0_lastRowUpTo_5 : decode cX0_lastRowUpTo 5 = .ok (.isub, 1) := by decide +kernel
theorem dX0_lastRowUpTo_6 : decode cX0_lastRowUpTo 6 = .ok (.istore_n 2, 1) := by decide +kernel
theorem dX0_lastRowUpTo_7 : decode cX0_lastRowUpTo 7 = .ok (.iload_n 2, 1) := by decide +kernel
theorem dX0_lastRowUpTo_8 : decode cX0_lastRowUpTo 8 = .ok (.ifCond .lt 21, 3) := by decide +kernel
theorem dX0_lastRowUpTo_11 : decode cX0_lastRowUpTo 11 = .ok (.aload_n 0, 1) := by decide +kernel
theorem dX0_lastRowUpTo_12 : decode cX0_lastRowUpTo 12 = .ok (.getfield 9, 3) := by decide +kernel
theorem dX0_lastRowUpTo_15 : decode cX0_lastRowUpTo 15 = .ok (.iload_n 2, 1) := by decide +kernel
theorem dX0_lastRowUpTo_16 : decode cX0_lastRowUpTo 16 = .ok (.iaload, 1) := by decide +kernel
theorem dX0_lastRowUpTo_17 : decode cX0_lastRowUpTo 17 = .ok (.iload_n 1, 1) := by decide +kernel
theorem dX0_lastRowUpTo_18 : decode cX0_lastRowUpTo 18 = .ok (.if_icmp .gt 5, 3) := by decide +kernel
theorem dX0_lastRowUpTo_21 : decode cX0_lastRowUpTo 21 = .ok (.iload_n 2, 1) := by decide +kernel
theorem dX0_lastRowUpTo_22 : decode cX0_lastRowUpTo 22 = .ok (.ireturn, 1) := by decide +kernel
theorem dX0_lastRowUpTo_23 : decode cX0_lastRowUpTo 23 = .ok (.iinc 2 (-1), 3) := by decide +kernel
theorem dX0_lastRowUpTo_26 : decode cX0_lastRowUpTo 26 = .ok (.goto (-19), 3) := by decide +kernel
theorem dX0_lastRowUpTo_29 : decode cX0_lastRowUpTo 29 = .ok (.iconst (-1), 1) := by decide +kernel
theorem dX0_lastRowUpTo_30 : decode cX0_lastRowUpTo 30 = .ok (.ireturn, 1) := by decide +kernel
theorem dX0_partInLowestTerms_0 : decode cX0_partInLowestTerms 0 = .ok (.iload 4, 2) := by decide +kernel
theorem dX0_partInLowestTerms_2 : decode cX0_partInLowestTerms 2 = .ok (.ifCond .ne 7, 3) := by decide +kernel
theorem dX0_partInLowestTerms_5 : decode cX0_partInLowestTerms 5 = .ok (.lload_n 0, 1) := by decide +kernel
theorem dX0_partInLowestTerms_6 : decode cX0_partInLowestTerms 6 = .ok (.goto 4, 3) := by decide +kernel
theorem dX0_partInLowestTerms_9 : decode cX0_partInLowestTerms 9 = .ok (.lload_n 2, 1) := by decide +kernel
theorem dX0_partInLowestTerms_10 : decode cX0_partInLowestTerms 10 = .ok (.lstore 5, 2) := by decide +kernel
theorem dX0_partInLowestTerms_12 : decode cX0_partInLowestTerms 12 = .ok (.lload_n 0, 1) := by decide +kernel
theorem dX0_partInLowestTerms_13 : decode cX0_partInLowestTerms 13 = .ok (.invokestatic 188, 3) := by decide +kernel
theorem dX0_partInLowestTerms_16 : decode cX0_partInLowestTerms 16 = .ok (.lload_n 2, 1) := by decide +kernel
theorem dX0_partInLowestTerms_17 : decode cX0_partInLowestTerms 17 = .ok (.invokestatic 191, 3) := by decide +kernel
theorem dX0_partInLowestTerms_20 : decode cX0_partInLowestTerms 20 = .ok (.lstore 7, 2) := by decide +kernel
theorem dX0_partInLowestTerms_22 : decode cX0_partInLowestTerms 22 = .ok (.lload 7, 2) := by decide +kernel
theorem dX0_partInLowestTerms_24 : decode cX0_partInLowestTerms 24 = .ok (.lconst 1, 1) := by decide +kernel
theorem dX0_partInLowestTerms_25 : decode cX0_partInLowestTerms 25 = .ok (.lcmp, 1) := by decide +kernel
end
section
theorem dX0_partInLowestTerms_26 : decode cX0_partInLowestTerms 26 = .ok (.ifCond .le 11, 3) := by decide +kernel
theorem dX0_partInLowestTerms_29 : decode cX0_partInLowestTerms 29 = .ok (.lload 5, 2) := by decide +kernel
theorem dX0_partInLowestTerms_31 : decode cX0_partInLowestTerms 31 = .ok (.lload 7, 2) := by decide +kernel
theorem dX0_partInLowestTerms_33 : decode cX0_partInLowestTerms 33 = .ok (.ldiv, 1) := by decide +kernel
theorem dX0_partInLowestTerms_34 : decode cX0_partInLowestTerms 34 = .ok (.goto 5, 3) := by decide +kernel
theorem dX0_partInLowestTerms_37 : decode cX0_partInLowestTerms 37 = .ok (.lload 5, 2) := by decide +kernel
theorem dX0_partInLowestTerms_39 : decode cX0_partInLowestTerms 39 = .ok (.lreturn, 1) := by decide +kernel
theorem dX0_greatestCommonDivisor_0 : decode cX0_greatestCommonDivisor 0 = .ok (.lload_n 0, 1) := by decide +kernel
theorem dX0_greatestCommonDivisor_1 : decode cX0_greatestCommonDivisor 1 = .ok (.lstore 4, 2) := by decide +kernel
theorem dX0_greatestCommonDivisor_3 : decode cX0_greatestCommonDivisor 3 = .ok (.lload_n 2, 1) := by decide +kernel
theorem dX0_greatestCommonDivisor_4 : decode cX0_greatestCommonDivisor 4 = .ok (.lstore 6, 2) := by decide +kernel
theorem dX0_greatestCommonDivisor_6 : decode cX0_greatestCommonDivisor 6 = .ok (.iconst 0, 1) := by decide +kernel
theorem dX0_greatestCommonDivisor_7 : decode cX0_greatestCommonDivisor 7 = .ok (.istore 8, 2) := by decide +kernel
theorem dX0_greatestCommonDivisor_9 : decode cX0_greatestCommonDivisor 9 = .ok (.iload 8, 2) := by decide +kernel
theorem dX0_greatestCommonDivisor_11 : decode cX0_greatestCommonDivisor 11 = .ok (.bipush 100, 2) := by decide +kernel
theorem dX0_greatestCommonDivisor_13 : decode cX0_greatestCommonDivisor 13 = .ok (.if_icmp .ge 31, 3) := by decide +kernel
theorem dX0_greatestCommonDivisor_16 : decode cX0_greatestCommonDivisor 16 = .ok (.lload 6, 2) := by decide +kernel
theorem dX0_greatestCommonDivisor_18 : decode cX0_greatestCommonDivisor 18 = .ok (.lconst 0, 1) := by decide +kernel
theorem dX0_greatestCommonDivisor_19 : decode cX0_greatestCommonDivisor 19 = .ok (.lcmp, 1) := by decide +kernel
theorem dX0_greatestCommonDivisor_20 : decode cX0_greatestCommonDivisor 20 = .ok (.ifCond .eq 24, 3) := by decide +kernel
theorem dX0_greatestCommonDivisor_23 : decode cX0_greatestCommonDivisor 23 = .ok (.lload 4, 2) := by decide +kernel
theorem dX0_greatestCommonDivisor_25 : decode cX0_greatestCommonDivisor 25 = .ok (.lload 6, 2) := by decide +kernel
theorem dX0_greatestCommonDivisor_27 : decode cX0_greatestCommonDivisor 27 = .ok (.lrem, 1) := by decide +kernel
theorem dX0_greatestCommonDivisor_28 : decode cX0_greatestCommonDivisor 28 = .ok (.lstore 9, 2) := by decide +kernel
theorem dX0_greatestCommonDivisor_30 : decode cX0_greatestCommonDivisor 30 = .ok (.lload 6, 2) := by decide +kernel
theorem dX0_greatestCommonDivisor_32 : decode cX0_greatestCommonDivisor 32 = .ok (.lstore 4, 2) := by decide +kernel
theorem dX0_greatestCommonDivisor_34 : decode cX0_greatestCommonDivisor 34 = .ok (.lload 9, 2) := by decide +kernel
theorem dX0_greatestCommonDivisor_36 : decode cX0_greatestCommonDivisor 36 = .ok (.lstore 6, 2) := by decide +kernel
theorem dX0_greatestCommonDivisor_38 : decode cX0_greatestCommonDivisor 38 = .ok (.iinc 8 1, 3) := by decide +kernel
theorem dX0_greatestCommonDivisor_41 : decode cX0_greatestCommonDivisor 41 = .ok (.goto (-32), 3) := by decide +kernel
theorem dX0_greatestCommonDivisor_44 : decode cX0_greatestCommonDivisor 44 = .ok (.lload 4, 2) := by decide +kernel
theorem dX0_greatestCommonDivisor_46 : decode cX0_greatestCommonDivisor 46 = .ok (.lreturn, 1) := by decide +kernel
theorem dL_offset_0 : decode cL_offset 0 = .ok (.aload_n 3, 1) := by decide +kernel
theorem dL_offset_1 : decode cL_offset 1 = .ok (.iconst 0, 1) := by decide +kernel
theorem dL_offset_2 : decode cL_offset 2 = .ok (.aload_n 0, 1) := by decide +kernel
theorem dL_offset_3 : decode cL_offset 3 = .ok (.iload_n 1, 1) := by decide +kernel
theorem dL_offset_4 : decode cL_offset 4 = .ok (.iload_n 2, 1) := by decide +kernel
theorem dL_offset_5 : decode cL_offset 5 = .ok (.invokevirtual 27, 3) := by decide +kernel
theorem dL_offset_8 : decode cL_offset 8 = .ok (.lastore, 1) := by decide +kernel
theorem dL_offset_9 : decode cL_offset 9 = .ok (.goto 15, 3) := by decide +kernel
theorem dL_offset_12 : decode cL_offset 12 = .ok (.astore 4, 2) := by decide +kernel
theorem dL_offset_14 : decode cL_offset 14 = .ok (.iconst 1, 1) := by decide +kernel
theorem dL_offset_15 : decode cL_offset 15 = .ok (.ireturn, 1) := by decide +kernel
theorem dL_offset_16 : decode cL_offset 16 = .ok (.astore 4, 2) := by decide +kernel
theorem dL_offset_18 : decode cL_offset 18 = .ok (.iconst 2, 1) := by decide +kernel
theorem dL_offset_19 : decode cL_offset 19 = .ok (.ireturn, 1) := by decide +kernel
theorem dL_offset_20 : decode cL_offset 20 = .ok (.astore 4, 2) := by decide +kernel
theorem dL_offset_22 : decode cL_offset 22 = .ok (.iconst 3, 1) := by decide +kernel
theorem dL_offset_23 : decode cL_offset 23 = .ok (.ireturn, 1) := by decide +kernel
theorem dL_offset_24 : decode cL_offset 24 = .ok (.iconst 0, 1) := by decide +kernel
theorem dL_offset_25 : decode cL_offset 25 = .ok (.ireturn, 1) := by decide +kernel
theorem dX0_offset_0 : decode cX0_offset 0 = .ok (.iload_n 2, 1) := by decide +kernel
theorem dX0_offset_1 : decode cX0_offset 1 = .ok (.invokestatic 53, 3) := by decide +kernel
theorem dX0_offset_4 : decode cX0_offset 4 = .ok (.aload_n 0, 1) := by decide +kernel
theorem dX0_offset_5 : decode cX0_offset 5 = .ok (.getfield 68, 3) := by decide +kernel
theorem dX0_offset_8 : decode cX0_offset 8 = .ok (.lconst 0, 1) := by decide +kernel
theorem dX0_offset_9 : decode cX0_offset 9 = .ok (.lcmp, 1) := by decide +kernel
theorem dX0_offset_10 : decode cX0_offset 10 = .ok (.ifCond .ne 13, 3) := by decide +kernel
theorem dX0_offset_13 : decode cX0_offset 13 = .ok (.new 79, 3) := by decide +kernel
theorem dX0_offset_16 : decode cX0_offset 16 = .ok (.dup, 1) := by decide +kernel
theorem dX0_offset_17 : decode cX0_offset 17 = .ok (.ldc 81, 2) := by decide +kernel
theorem dX0_offset_19 : decode cX0_offset 19 = .ok (.invokespecial 83, 3) := by decide +kernel
theorem dX0_offset_22 : decode cX0_offset 22 = .ok (.athrow, 1) := by decide +kernel
theorem dX0_offset_23 : decode cX0_offset 23 = .ok (.iload_n 1, 1) := by decide +kernel
theorem dX0_offset_24 : decode cX0_offset 24 = .ok (.iconst 0, 1) := by decide +kernel
theorem dX0_offset_25 : decode cX0_offset 25 = .ok (.ldc 22, 2) := by decide +kernel
theorem dX0_offset_27 : decode cX0_offset 27 = .ok (.invokestatic 23, 3) := by decide +kernel
theorem dX0_offset_30 : decode cX0_offset 30 = .ok (.ifCond .ne 13, 3) := by decide +kernel
theorem dX0_offset_33 : decode cX0_offset 33 = .ok (.new 27, 3) := by decide +kernel
theorem dX0_offset_36 : decode cX0_offset 36 = .ok (.dup, 1) := by decide +kernel
theorem dX0_offset_37 : decode cX0_offset 37 = .ok (.ldc 84, 2) := by decide +kernel
theorem dX0_offset_39 : decode cX0_offset 39 = .ok (.invokespecial 31, 3) := by decide +kernel
theorem dX0_offset_42 : decode cX0_offset 42 = .ok (.athrow, 1) := by decide +kernel
theorem dX0_offset_43 : decode cX0_offset 43 = .ok (.aload_n 0, 1) := by decide +kernel
theorem dX0_offset_44 : decode cX0_offset 44 = .ok (.getfield 50, 3) := by decide +kernel
theorem dX0_offset_47 : decode cX0_offset 47 = .ok (.iload_n 1, 1) := by decide +kernel
theorem dX0_offset_48 : decode cX0_offset 48 = .ok (.iadd, 1) := by decide +kernel
theorem dX0_offset_49 : decode cX0_offset 49 = .ok (.istore_n 3, 1) := by decide +kernel
theorem dX0_offset_50 : decode cX0_offset 50 = .ok (.aload_n 0, 1) := by decide +kernel
theorem dX0_offset_51 : decode cX0_offset 51 = .ok (.iload_n 3, 1) := by decide +kernel
theorem dX0_offset_52 : decode cX0_offset 52 = .ok (.invokevirtual 86, 3) := by decide +kernel
theorem dX0_offset_55 : decode cX0_offset 55 = .ok (.istore 4, 2) := by decide +kernel
theorem dX0_offset_57 : decode cX0_offset 57 = .ok (.iload 4, 2) := by decide +kernel
theorem dX0_offset_59 : decode cX0_offset 59 = .ok (.iconst 1, 1) := by decide +kernel
theorem dX0_offset_60 : decode cX0_offset 60 = .ok (.if_icmp .ge 15, 3) := by decide +kernel
theorem dX0_offset_63 : decode cX0_offset 63 = .ok (.iload_n 2, 1) := by decide +kernel
theorem dX0_offset_64 : decode cX0_offset 64 = .ok (.ifCond .ne 9, 3) := by decide +kernel
theorem dX0_offset_67 : decode cX0_offset 67 = .ok (.ldc2_w 89, 3) := by decide +kernel
theorem dX0_offset_70 : decode cX0_offset 70 = .ok (.goto 4, 3) := by decide +kernel
theorem dX0_offset_73 : decode cX0_offset 73 = .ok (.lconst 0, 1) := by decide +kernel
theorem dX0_offset_74 : decode cX0_offset 74 = .ok (.lreturn, 1) := by decide +kernel
theorem dX0_offset_75 : decode cX0_offset 75 = .ok (.aload_n 0, 1) := by decide +kernel
theorem dX0_offset_76 : decode cX0_offset 76 = .ok (.iload 4, 2) := by decide +kernel
theorem dX0_offset_78 : decode cX0_offset 78 = .ok (.iconst 1, 1) := by decide +kernel
theorem dX0_offset_79 : decode cX0_offset 79 = .ok (.isub, 1) := by decide +kernel
theorem dX0_offset_80 : decode cX0_offset 80 = .ok (.iload_n 3, 1) := by decide +kernel
theorem dX0_offset_81 : decode cX0_offset 81 = .ok (.invokevirtual 91, 3) := by decide +kernel
theorem dX0_offset_84 : decode cX0_offset 84 = .ok (.lstore 5, 2) := by decide +kernel
theorem dX0_offset_86 : decode cX0_offset 86 = .ok (.aload_n 0, 1) := by decide +kernel
theorem dX0_offset_87 : decode cX0_offset 87 = .ok (.iload 4, 2) := by decide +kernel
theorem dX0_offset_89 : decode cX0_offset 89 = .ok (.iload_n 3, 1) := by decide +kernel
theorem dX0_offset_90 : decode cX0_offset 90 = .ok (.invokevirtual 91, 3) := by decide +kernel
theorem dX0_offset_93 : decode cX0_offset 93 = .ok (.lstore 7, 2) := by decide +kernel
theorem dX0_offset_95 : decode cX0_offset 95 = .ok (.aload_n 0, 1) := by decide +kernel
theorem dX0_offset_96 : decode cX0_offset 96 = .ok (.getfield 13, 3) := by decide +kernel
theorem dX0_offset_99 : decode cX0_offset 99 = .ok (.iload 4, 2) := by decide +kernel
theorem dX0_offset_101 : decode cX0_offset 101 = .ok (.iaload, 1) := by decide +kernel
theorem dX0_offset_102 : decode cX0_offset 102 = .ok (.i2l, 1) := by decide +kernel
theorem dX0_offset_103 : decode cX0_offset 103 = .ok (.lload 5, 2) := by decide +kernel
theorem dX0_offset_105 : decode cX0_offset 105 = .ok (.lmul, 1) := by decide +kernel
theorem dX0_offset_106 : decode cX0_offset 106 = .ok (.aload_n 0, 1) := by decide +kernel
theorem dX0_offset_107 : decode cX0_offset 107 = .ok (.getfield 13, 3) := by decide +kernel
theorem dX0_offset_110 : decode cX0_offset 110 = .ok (.iload 4, 2) := by decide +kernel
theorem dX0_offset_112 : decode cX0_offset 112 = .ok (.iconst 1, 1) := by decide +kernel
theorem dX0_offset_113 : decode cX0_offset 113 = .ok (.isub, 1) := by decide +kernel
theorem dX0_offset_114 : decode cX0_offset 114 = .ok (.iaload, 1) := by decide +kernel
theorem dX0_offset_115 : decode cX0_offset 115 = .ok (.i2l, 1) := by decide +kernel
theorem dX0_offset_116 : decode cX0_offset 116 = .ok (.lload 7, 2) := by decide +kernel
theorem dX0_offset_118 : decode cX0_offset 118 = .ok (.lmul, 1) := by decide +kernel
theorem dX0_offset_119 : decode cX0_offset 119 = .ok (.lsub, 1) := by decide +kernel
theorem dX0_offset_120 : decode cX0_offset 120 = .ok (.lstore 9, 2) := by decide +kernel
theorem dX0_offset_122 : decode cX0_offset 122 = .ok (.lload 9, 2) := by decide +kernel
theorem dX0_offset_124 : decode cX0_offset 124 = .ok (.lload 5, 2) := by decide +kernel
theorem dX0_offset_126 : decode cX0_offset 126 = .ok (.lload 7, 2) := by decide +kernel
theorem dX0_offset_128 : decode cX0_offset 128 = .ok (.lsub, 1) := by decide +kernel
theorem dX0_offset_129 : decode cX0_offset 129 = .ok (.iload_n 2, 1) := by decide +kernel
theorem dX0_offset_130 : decode cX0_offset 130 = .ok (.invokestatic 75, 3) := by decide +kernel
theorem dX0_offset_133 : decode cX0_offset 133 = .ok (.lreturn, 1) := by decide +kernel
theorem dX0_meetingRow_0 : decode cX0_meetingRow 0 = .ok (.iconst 1, 1) := by decide +kernel
theorem dX0_meetingRow_1 : decode cX0_meetingRow 1 = .ok (.istore_n 2, 1) := by decide +kernel
theorem dX0_meetingRow_2 : decode cX0_meetingRow 2 = .ok (.iload_n 2, 1) := by decide +kernel
theorem dX0_meetingRow_3 : decode cX0_meetingRow 3 = .ok (.aload_n 0, 1) := by decide +kernel
theorem dX0_meetingRow_4 : decode cX0_meetingRow 4 = .ok (.getfield 34, 3) := by decide +kernel
theorem dX0_meetingRow_7 : decode cX0_meetingRow 7 = .ok (.if_icmp .ge 35, 3) := by decide +kernel
theorem dX0_meetingRow_10 : decode cX0_meetingRow 10 = .ok (.aload_n 0, 1) := by decide +kernel
theorem dX0_meetingRow_11 : decode cX0_meetingRow 11 = .ok (.iload_n 2, 1) := by decide +kernel
theorem dX0_meetingRow_12 : decode cX0_meetingRow 12 = .ok (.iload_n 1, 1) := by decide +kernel
theorem dX0_meetingRow_13 : decode cX0_meetingRow 13 = .ok (.invokevirtual 91, 3) := by decide +kernel
theorem dX0_meetingRow_16 : decode cX0_meetingRow 16 = .ok (.lconst 0, 1) := by decide +kernel
theorem dX0_meetingRow_17 : decode cX0_meetingRow 17 = .ok (.lcmp, 1) := by decide +kernel
theorem dX0_meetingRow_18 : decode cX0_meetingRow 18 = .ok (.ifCond .gt 18, 3) := by decide +kernel
theorem dX0_meetingRow_21 : decode cX0_meetingRow 21 = .ok (.aload_n 0, 1) := by decide +kernel
theorem dX0_meetingRow_22 : decode cX0_meetingRow 22 = .ok (.iload_n 2, 1) := by decide +kernel
theorem dX0_meetingRow_23 : decode cX0_meetingRow 23 = .ok (.iconst 1, 1) := by decide +kernel
theorem dX0_meetingRow_24 : decode cX0_meetingRow 24 = .ok (.isub, 1) := by decide +kernel
theorem dX0_meetingRow_25 : decode cX0_meetingRow 25 = .ok (.iload_n 1, 1) := by decide +kernel
theorem dX0_meetingRow_26 : decode cX0_meetingRow 26 = .ok (.invokevirtual 91, 3) := by decide +kernel
theorem dX0_meetingRow_29 : decode cX0_meetingRow 29 = .ok (.lconst 0, 1) := by decide +kernel
theorem dX0_meetingRow_30 : decode cX0_meetingRow 30 = .ok (.lcmp, 1) := by decide +kernel
theorem dX0_meetingRow_31 : decode cX0_meetingRow 31 = .ok (.ifCond .le 5, 3) := by decide +kernel
theorem dX0_meetingRow_34 : decode cX0_meetingRow 34 = .ok (.iload_n 2, 1) := by decide +kernel
theorem dX0_meetingRow_35 : decode cX0_meetingRow 35 = .ok (.ireturn, 1) := by decide +kernel
theorem dX0_meetingRow_36 : decode cX0_meetingRow 36 = .ok (.iinc 2 1, 3) := by decide +kernel
theorem dX0_meetingRow_39 : decode cX0_meetingRow 39 = .ok (.goto (-37), 3) := by decide +kernel
theorem dX0_meetingRow_42 : decode cX0_meetingRow 42 = .ok (.iconst (-1), 1) := by decide +kernel
theorem dX0_meetingRow_43 : decode cX0_meetingRow 43 = .ok (.ireturn, 1) := by decide +kernel
theorem dX0_excessOverLine_0 : decode cX0_excessOverLine 0 = .ok (.aload_n 0, 1) := by decide +kernel
theorem dX0_excessOverLine_1 : decode cX0_excessOverLine 1 = .ok (.getfield 13, 3) := by decide +kernel
theorem dX0_excessOverLine_4 : decode cX0_excessOverLine 4 = .ok (.iload_n 1, 1) := by decide +kernel
theorem dX0_excessOverLine_5 : decode cX0_excessOverLine 5 = .ok (.iaload, 1) := by decide +kernel
theorem dX0_excessOverLine_6 : decode cX0_excessOverLine 6 = .ok (.i2l, 1) := by decide +kernel
theorem dX0_excessOverLine_7 : decode cX0_excessOverLine 7 = .ok (.aload_n 0, 1) := by decide +kernel
theorem dX0_excessOverLine_8 : decode cX0_excessOverLine 8 = .ok (.getfield 72, 3) := by decide +kernel
theorem dX0_excessOverLine_11 : decode cX0_excessOverLine 11 = .ok (.lmul, 1) := by decide +kernel
theorem dX0_excessOverLine_12 : decode cX0_excessOverLine 12 = .ok (.aload_n 0, 1) := by decide +kernel
theorem dX0_excessOverLine_13 : decode cX0_excessOverLine 13 = .ok (.getfield 68, 3) := by decide +kernel
theorem dX0_excessOverLine_16 : decode cX0_excessOverLine 16 = .ok (.aload_n 0, 1) := by decide +kernel
theorem dX0_excessOverLine_17 : decode cX0_excessOverLine 17 = .ok (.getfield 9, 3) := by decide +kernel
theorem dX0_excessOverLine_20 : decode cX0_excessOverLine 20 = .ok (.iload_n 1, 1) := by decide +kernel
theorem dX0_excessOverLine_21 : decode cX0_excessOverLine 21 = .ok (.iaload, 1) := by decide +kernel
theorem dX0_excessOverLine_22 : decode cX0_excessOverLine 22 = .ok (.iload_n 2, 1) := by decide +kernel
theorem dX0_excessOverLine_23 : decode cX0_excessOverLine 23 = .ok (.isub, 1) := by decide +kernel
theorem dX0_excessOverLine_24 : decode cX0_excessOverLine 24 = .ok (.i2l, 1) := by decide +kernel
theorem dX0_excessOverLine_25 : decode cX0_excessOverLine 25 = .ok (.lmul, 1) := by decide +kernel
theorem dX0_excessOverLine_26 : decode cX0_excessOverLine 26 = .ok (.lsub, 1) := by decide +kernel
theorem dX0_excessOverLine_27 : decode cX0_excessOverLine 27 = .ok (.lreturn, 1) := by decide +kernel
theorem dL_peak_0 : decode cL_peak 0 = .ok (.aload_n 2, 1) := by decide +kernel
theorem dL_peak_1 : decode cL_peak 1 = .ok (.iconst 0, 1) := by decide +kernel
theorem dL_peak_2 : decode cL_peak 2 = .ok (.aload_n 0, 1) := by decide +kernel
theorem dL_peak_3 : decode cL_peak 3 = .ok (.iload_n 1, 1) := by decide +kernel
theorem dL_peak_4 : decode cL_peak 4 = .ok (.invokevirtual 33, 3) := by decide +kernel
theorem dL_peak_7 : decode cL_peak 7 = .ok (.i2l, 1) := by decide +kernel
theorem dL_peak_8 : decode cL_peak 8 = .ok (.lastore, 1) := by decide +kernel
theorem dL_peak_9 : decode cL_peak 9 = .ok (.goto 9, 3) := by decide +kernel
theorem dL_peak_12 : decode cL_peak 12 = .ok (.astore_n 3, 1) := by decide +kernel
theorem dL_peak_13 : decode cL_peak 13 = .ok (.iconst 1, 1) := by decide +kernel
theorem dL_peak_14 : decode cL_peak 14 = .ok (.ireturn, 1) := by decide +kernel
theorem dL_peak_15 : decode cL_peak 15 = .ok (.astore_n 3, 1) := by decide +kernel
theorem dL_peak_16 : decode cL_peak 16 = .ok (.iconst 2, 1) := by decide +kernel
theorem dL_peak_17 : decode cL_peak 17 = .ok (.ireturn, 1) := by decide +kernel
theorem dL_peak_18 : decode cL_peak 18 = .ok (.iconst 0, 1) := by decide +kernel
theorem dL_peak_19 : decode cL_peak 19 = .ok (.ireturn, 1) := by decide +kernel
theorem dX0_peak_0 : decode cX0_peak 0 = .ok (.iload_n 1, 1) := by decide +kernel
theorem dX0_peak_1 : decode cX0_peak 1 = .ok (.iconst 0, 1) := by decide +kernel
theorem dX0_peak_2 : decode cX0_peak 2 = .ok (.iconst 2, 1) := by decide +kernel
theorem dX0_peak_3 : decode cX0_peak 3 = .ok (.invokestatic 23, 3) := by decide +kernel
theorem dX0_peak_6 : decode cX0_peak 6 = .ok (.ifCond .ne 13, 3) := by decide +kernel
theorem dX0_peak_9 : decode cX0_peak 9 = .ok (.new 95, 3) := by decide +kernel
theorem dX0_peak_12 : decode cX0_peak 12 = .ok (.dup, 1) := by decide +kernel
theorem dX0_peak_13 : decode cX0_peak 13 = .ok (.ldc 97, 2) := by decide +kernel
theorem dX0_peak_15 : decode cX0_peak 15 = .ok (.invokespecial 99, 3) := by decide +kernel
theorem dX0_peak_18 : decode cX0_peak 18 = .ok (.athrow, 1) := by decide +kernel
theorem dX0_peak_19 : decode cX0_peak 19 = .ok (.aload_n 0, 1) := by decide +kernel
theorem dX0_peak_20 : decode cX0_peak 20 = .ok (.getfield 34, 3) := by decide +kernel
theorem dX0_peak_23 : decode cX0_peak 23 = .ok (.ifCond .ne 13, 3) := by decide +kernel
theorem dX0_peak_26 : decode cX0_peak 26 = .ok (.new 79, 3) := by decide +kernel
theorem dX0_peak_29 : decode cX0_peak 29 = .ok (.dup, 1) := by decide +kernel
theorem dX0_peak_30 : decode cX0_peak 30 = .ok (.ldc 100, 2) := by decide +kernel
theorem dX0_peak_32 : decode cX0_peak 32 = .ok (.invokespecial 83, 3) := by decide +kernel
theorem dX0_peak_35 : decode cX0_peak 35 = .ok (.athrow, 1) := by decide +kernel
theorem dX0_peak_36 : decode cX0_peak 36 = .ok (.aload_n 0, 1) := by decide +kernel
theorem dX0_peak_37 : decode cX0_peak 37 = .ok (.invokevirtual 102, 3) := by decide +kernel
theorem dX0_peak_40 : decode cX0_peak 40 = .ok (.istore_n 2, 1) := by decide +kernel
theorem dX0_peak_41 : decode cX0_peak 41 = .ok (.iload_n 1, 1) := by decide +kernel
theorem dX0_peak_42 : decode cX0_peak 42 = .ok (.ifCond .ne 10, 3) := by decide +kernel
theorem dX0_peak_45 : decode cX0_peak 45 = .ok (.aload_n 0, 1) := by decide +kernel
theorem dX0_peak_46 : decode cX0_peak 46 = .ok (.getfield 13, 3) := by decide +kernel
theorem dX0_peak_49 : decode cX0_peak 49 = .ok (.iload_n 2, 1) := by decide +kernel
theorem dX0_peak_50 : decode cX0_peak 50 = .ok (.iaload, 1) := by decide +kernel
theorem dX0_peak_51 : decode cX0_peak 51 = .ok (.ireturn, 1) := by decide +kernel
theorem dX0_peak_52 : decode cX0_peak 52 = .ok (.iload_n 1, 1) := by decide +kernel
theorem dX0_peak_53 : decode cX0_peak 53 = .ok (.iconst 1, 1) := by decide +kernel
theorem dX0_peak_54 : decode cX0_peak 54 = .ok (.if_icmp .ne 15, 3) := by decide +kernel
theorem dX0_peak_57 : decode cX0_peak 57 = .ok (.aload_n 0, 1) := by decide +kernel
theorem dX0_peak_58 : decode cX0_peak 58 = .ok (.getfield 9, 3) := by decide +kernel
theorem dX0_peak_61 : decode cX0_peak 61 = .ok (.iload_n 2, 1) := by decide +kernel
theorem dX0_peak_62 : decode cX0_peak 62 = .ok (.iaload, 1) := by decide +kernel
theorem dX0_peak_63 : decode cX0_peak 63 = .ok (.aload_n 0, 1) := by decide +kernel
theorem dX0_peak_64 : decode cX0_peak 64 = .ok (.getfield 50, 3) := by decide +kernel
theorem dX0_peak_67 : decode cX0_peak 67 = .ok (.isub, 1) := by decide +kernel
theorem dX0_peak_68 : decode cX0_peak 68 = .ok (.ireturn, 1) := by decide +kernel
theorem dX0_peak_69 : decode cX0_peak 69 = .ok (.aload_n 0, 1) := by decide +kernel
theorem dX0_peak_70 : decode cX0_peak 70 = .ok (.getfield 47, 3) := by decide +kernel
theorem dX0_peak_73 : decode cX0_peak 73 = .ok (.ifCond .ne 13, 3) := by decide +kernel
theorem dX0_peak_76 : decode cX0_peak 76 = .ok (.new 79, 3) := by decide +kernel
theorem dX0_peak_79 : decode cX0_peak 79 = .ok (.dup, 1) := by decide +kernel
theorem dX0_peak_80 : decode cX0_peak 80 = .ok (.ldc 106, 2) := by decide +kernel
theorem dX0_peak_82 : decode cX0_peak 82 = .ok (.invokespecial 83, 3) := by decide +kernel
theorem dX0_peak_85 : decode cX0_peak 85 = .ok (.athrow, 1) := by decide +kernel
theorem dX0_peak_86 : decode cX0_peak 86 = .ok (.aload_n 0, 1) := by decide +kernel
theorem dX0_peak_87 : decode cX0_peak 87 = .ok (.getfield 13, 3) := by decide +kernel
theorem dX0_peak_90 : decode cX0_peak 90 = .ok (.iload_n 2, 1) := by decide +kernel
theorem dX0_peak_91 : decode cX0_peak 91 = .ok (.iaload, 1) := by decide +kernel
theorem dX0_peak_92 : decode cX0_peak 92 = .ok (.sipush 1000, 3) := by decide +kernel
theorem dX0_peak_95 : decode cX0_peak 95 = .ok (.imul, 1) := by decide +kernel
theorem dX0_peak_96 : decode cX0_peak 96 = .ok (.aload_n 0, 1) := by decide +kernel
theorem dX0_peak_97 : decode cX0_peak 97 = .ok (.getfield 47, 3) := by decide +kernel
theorem dX0_peak_100 : decode cX0_peak 100 = .ok (.idiv, 1) := by decide +kernel
theorem dX0_peak_101 : decode cX0_peak 101 = .ok (.ireturn, 1) := by decide +kernel
theorem dL_stretch_0 : decode cL_stretch 0 = .ok (.aload 4, 2) := by decide +kernel
theorem dL_stretch_2 : decode cL_stretch 2 = .ok (.iconst 0, 1) := by decide +kernel
theorem dL_stretch_3 : decode cL_stretch 3 = .ok (.aload_n 0, 1) := by decide +kernel
theorem dL_stretch_4 : decode cL_stretch 4 = .ok (.iload_n 1, 1) := by decide +kernel
theorem dL_stretch_5 : decode cL_stretch 5 = .ok (.iload_n 2, 1) := by decide +kernel
theorem dL_stretch_6 : decode cL_stretch 6 = .ok (.iload_n 3, 1) := by decide +kernel
theorem dL_stretch_7 : decode cL_stretch 7 = .ok (.invokevirtual 37, 3) := by decide +kernel
theorem dL_stretch_10 : decode cL_stretch 10 = .ok (.lastore, 1) := by decide +kernel
theorem dL_stretch_11 : decode cL_stretch 11 = .ok (.goto 11, 3) := by decide +kernel
theorem dL_stretch_14 : decode cL_stretch 14 = .ok (.astore 5, 2) := by decide +kernel
theorem dL_stretch_16 : decode cL_stretch 16 = .ok (.iconst 1, 1) := by decide +kernel
theorem dL_stretch_17 : decode cL_stretch 17 = .ok (.ireturn, 1) := by decide +kernel
theorem dL_stretch_18 : decode cL_stretch 18 = .ok (.astore 5, 2) := by decide +kernel
theorem dL_stretch_20 : decode cL_stretch 20 = .ok (.iconst 2, 1) := by decide +kernel
theorem dL_stretch_21 : decode cL_stretch 21 = .ok (.ireturn, 1) := by decide +kernel
theorem dL_stretch_22 : decode cL_stretch 22 = .ok (.iconst 0, 1) := by decide +kernel
theorem dL_stretch_23 : decode cL_stretch 23 = .ok (.ireturn, 1) := by decide +kernel
theorem dX0_stretch_0 : decode cX0_stretch 0 = .ok (.iload_n 3, 1) := by decide +kernel
theorem dX0_stretch_1 : decode cX0_stretch 1 = .ok (.invokestatic 53, 3) := by decide +kernel
theorem dX0_stretch_4 : decode cX0_stretch 4 = .ok (.iload_n 1, 1) := by decide +kernel
theorem dX0_stretch_5 : decode cX0_stretch 5 = .ok (.iconst 1, 1) := by decide +kernel
theorem dX0_stretch_6 : decode cX0_stretch 6 = .ok (.ldc 22, 2) := by decide +kernel
theorem dX0_stretch_8 : decode cX0_stretch 8 = .ok (.invokestatic 23, 3) := by decide +kernel
theorem dX0_stretch_11 : decode cX0_stretch 11 = .ok (.ifCond .eq 13, 3) := by decide +kernel
theorem dX0_stretch_14 : decode cX0_stretch 14 = .ok (.iload_n 2, 1) := by decide +kernel
theorem dX0_stretch_15 : decode cX0_stretch 15 = .ok (.iconst 1, 1) := by decide +kernel
theorem dX0_stretch_16 : decode cX0_stretch 16 = .ok (.ldc 22, 2) := by decide +kernel
theorem dX0_stretch_18 : decode cX0_stretch 18 = .ok (.invokestatic 23, 3) := by decide +kernel
theorem dX0_stretch_21 : decode cX0_stretch 21 = .ok (.ifCond .ne 13, 3) := by decide +kernel
theorem dX0_stretch_24 : decode cX0_stretch 24 = .ok (.new 27, 3) := by decide +kernel
theorem dX0_stretch_27 : decode cX0_stretch 27 = .ok (.dup, 1) := by decide +kernel
theorem dX0_stretch_28 : decode cX0_stretch 28 = .ok (.ldc 108, 2) := by decide +kernel
theorem dX0_stretch_30 : decode cX0_stretch 30 = .ok (.invokespecial 31, 3) := by decide +kernel
theorem dX0_stretch_33 : decode cX0_stretch 33 = .ok (.athrow, 1) := by decide +kernel
theorem dX0_stretch_34 : decode cX0_stretch 34 = .ok (.iload_n 2, 1) := by decide +kernel
theorem dX0_stretch_35 : decode cX0_stretch 35 = .ok (.iload_n 1, 1) := by decide +kernel
theorem dX0_stretch_36 : decode cX0_stretch 36 = .ok (.isub, 1) := by decide +kernel
theorem dX0_stretch_37 : decode cX0_stretch 37 = .ok (.i2l, 1) := by decide +kernel
theorem dX0_stretch_38 : decode cX0_stretch 38 = .ok (.iload_n 1, 1) := by decide +kernel
theorem dX0_stretch_39 : decode cX0_stretch 39 = .ok (.i2l, 1) := by decide +kernel
theorem dX0_stretch_40 : decode cX0_stretch 40 = .ok (.iload_n 3, 1) := by decide +kernel
theorem dX0_stretch_41 : decode cX0_stretch 41 = .ok (.invokestatic 75, 3) := by decide +kernel
theorem dX0_stretch_44 : decode cX0_stretch 44 = .ok (.lreturn, 1) := by decide +kernel
theorem dL_impact_0 : decode cL_impact 0 = .ok (.aload_n 3, 1) := by decide +kernel
theorem dL_impact_1 : decode cL_impact 1 = .ok (.iconst 0, 1) := by decide +kernel
theorem dL_impact_2 : decode cL_impact 2 = .ok (.aload_n 0, 1) := by decide +kernel
theorem dL_impact_3 : decode cL_impact 3 = .ok (.iload_n 1, 1) := by decide +kernel
theorem dL_impact_4 : decode cL_impact 4 = .ok (.iload_n 2, 1) := by decide +kernel
theorem dL_impact_5 : decode cL_impact 5 = .ok (.invokevirtual 40, 3) := by decide +kernel
theorem dL_impact_8 : decode cL_impact 8 = .ok (.i2l, 1) := by decide +kernel
theorem dL_impact_9 : decode cL_impact 9 = .ok (.lastore, 1) := by decide +kernel
theorem dL_impact_10 : decode cL_impact 10 = .ok (.goto 11, 3) := by decide +kernel
theorem dL_impact_13 : decode cL_impact 13 = .ok (.astore 4, 2) := by decide +kernel
theorem dL_impact_15 : decode cL_impact 15 = .ok (.iconst 1, 1) := by decide +kernel
theorem dL_impact_16 : decode cL_impact 16 = .ok (.ireturn, 1) := by decide +kernel
theorem dL_impact_17 : decode cL_impact 17 = .ok (.astore 4, 2) := by decide +kernel
theorem dL_impact_19 : decode cL_impact 19 = .ok (.iconst 2, 1) := by decide +kernel
theorem dL_impact_20 : decode cL_impact 20 = .ok (.ireturn, 1) := by decide +kernel
theorem dL_impact_21 : decode cL_impact 21 = .ok (.iconst 0, 1) := by decide +kernel
theorem dL_impact_22 : decode cL_impact 22 = .ok (.ireturn, 1) := by decide +kernel
theorem dX0_impact_0 : decode cX0_impact 0 = .ok (.iload_n 1, 1) := by decide +kernel
theorem dX0_impact_1 : decode cX0_impact 1 = .ok (.sipush (-200), 3) := by decide +kernel
theorem dX0_impact_4 : decode cX0_impact 4 = .ok (.sipush 200, 3) := by decide +kernel
theorem dX0_impact_7 : decode cX0_impact 7 = .ok (.invokestatic 23, 3) := by decide +kernel
theorem dX0_impact_10 : decode cX0_impact 10 = .ok (.ifCond .eq 14, 3) := by decide +kernel
theorem dX0_impact_13 : decode cX0_impact 13 = .ok (.iload_n 2, 1) := by decide +kernel
theorem dX0_impact_14 : decode cX0_impact 14 = .ok (.iconst 0, 1) := by decide +kernel
theorem dX0_impact_15 : decode cX0_impact 15 = .ok (.sipush 400, 3) := by decide +kernel
theorem dX0_impact_18 : decode cX0_impact 18 = .ok (.invokestatic 23, 3) := by decide +kernel
theorem dX0_impact_21 : decode cX0_impact 21 = .ok (.ifCond .ne 13, 3) := by decide +kernel
theorem dX0_impact_24 : decode cX0_impact 24 = .ok (.new 27, 3) := by decide +kernel
theorem dX0_impact_27 : decode cX0_impact 27 = .ok (.dup, 1) := by decide +kernel
theorem dX0_impact_28 : decode cX0_impact 28 = .ok (.ldc 110, 2) := by decide +kernel
theorem dX0_impact_30 : decode cX0_impact 30 = .ok (.invokespecial 31, 3) := by decide +kernel
theorem dX0_impact_33 : decode cX0_impact 33 = .ok (.athrow, 1) := by decide +kernel
theorem dX0_impact_34 : decode cX0_impact 34 = .ok (.aload_n 0, 1) := by decide +kernel
theorem dX0_impact_35 : decode cX0_impact 35 = .ok (.getfield 112, 3) := by decide +kernel
theorem dX0_impact_38 : decode cX0_impact 38 = .ok (.bipush 8, 2) := by decide +kernel
theorem dX0_impact_40 : decode cX0_impact 40 = .ok (.if_icmp .lt 13, 3) := by decide +kernel
theorem dX0_impact_43 : decode cX0_impact 43 = .ok (.new 40, 3) := by decide +kernel
theorem dX0_impact_46 : decode cX0_impact 46 = .ok (.dup, 1) := by decide +kernel
theorem dX0_impact_47 : decode cX0_impact 47 = .ok (.ldc 115, 2) := by decide +kernel
theorem dX0_impact_49 : decode cX0_impact 49 = .ok (.invokespecial 44, 3) := by decide +kernel
theorem dX0_impact_52 : decode cX0_impact 52 = .ok (.athrow, 1) := by decide +kernel
theorem dX0_impact_53 : decode cX0_impact 53 = .ok (.aload_n 0, 1) := by decide +kernel
theorem dX0_impact_54 : decode cX0_impact 54 = .ok (.dup, 1) := by decide +kernel
theorem dX0_impact_55 : decode cX0_impact 55 = .ok (.getfield 112, 3) := by decide +kernel
theorem dX0_impact_58 : decode cX0_impact 58 = .ok (.iconst 1, 1) := by decide +kernel
theorem dX0_impact_59 : decode cX0_impact 59 = .ok (.iadd, 1) := by decide +kernel
theorem dX0_impact_60 : decode cX0_impact 60 = .ok (.putfield 112, 3) := by decide +kernel
theorem dX0_impact_63 : decode cX0_impact 63 = .ok (.aload_n 0, 1) := by decide +kernel
theorem dX0_impact_64 : decode cX0_impact 64 = .ok (.dup, 1) := by decide +kernel
theorem dX0_impact_65 : decode cX0_impact 65 = .ok (.getfield 117, 3) := by decide +kernel
theorem dX0_impact_68 : decode cX0_impact 68 = .ok (.iload_n 1, 1) := by decide +kernel
theorem dX0_impact_69 : decode cX0_impact 69 = .ok (.i2l, 1) := by decide +kernel
theorem dX0_impact_70 : decode cX0_impact 70 = .ok (.ladd, 1) := by decide +kernel
theorem dX0_impact_71 : decode cX0_impact 71 = .ok (.putfield 117, 3) := by decide +kernel
theorem dX0_impact_74 : decode cX0_impact 74 = .ok (.aload_n 0, 1) := by decide +kernel
theorem dX0_impact_75 : decode cX0_impact 75 = .ok (.dup, 1) := by decide +kernel
theorem dX0_impact_76 : decode cX0_impact 76 = .ok (.getfield 120, 3) := by decide +kernel
theorem dX0_impact_79 : decode cX0_impact 79 = .ok (.iload_n 2, 1) := by decide +kernel
theorem dX0_impact_80 : decode cX0_impact 80 = .ok (.i2l, 1) := by decide +kernel
theorem dX0_impact_81 : decode cX0_impact 81 = .ok (.ladd, 1) := by decide +kernel
theorem dX0_impact_82 : decode cX0_impact 82 = .ok (.putfield 120, 3) := by decide +kernel
theorem dX0_impact_85 : decode cX0_impact 85 = .ok (.aload_n 0, 1) := by decide +kernel
theorem dX0_impact_86 : decode cX0_impact 86 = .ok (.dup, 1) := by decide +kernel
theorem dX0_impact_87 : decode cX0_impact 87 = .ok (.getfield 123, 3) := by decide +kernel
theorem dX0_impact_90 : decode cX0_impact 90 = .ok (.iload_n 1, 1) := by decide +kernel
theorem dX0_impact_91 : decode cX0_impact 91 = .ok (.iload_n 2, 1) := by decide +kernel
theorem dX0_impact_92 : decode cX0_impact 92 = .ok (.imul, 1) := by decide +kernel
theorem dX0_impact_93 : decode cX0_impact 93 = .ok (.i2l, 1) := by decide +kernel
theorem dX0_impact_94 : decode cX0_impact 94 = .ok (.ladd, 1) := by decide +kernel
theorem dX0_impact_95 : decode cX0_impact 95 = .ok (.putfield 123, 3) := by decide +kernel
theorem dX0_impact_98 : decode cX0_impact 98 = .ok (.aload_n 0, 1) := by decide +kernel
theorem dX0_impact_99 : decode cX0_impact 99 = .ok (.dup, 1) := by decide +kernel
theorem dX0_impact_100 : decode cX0_impact 100 = .ok (.getfield 126, 3) := by decide +kernel
theorem dX0_impact_103 : decode cX0_impact 103 = .ok (.iload_n 1, 1) := by decide +kernel
theorem dX0_impact_104 : decode cX0_impact 104 = .ok (.iload_n 1, 1) := by decide +kernel
theorem dX0_impact_105 : decode cX0_impact 105 = .ok (.imul, 1) := by decide +kernel
theorem dX0_impact_106 : decode cX0_impact 106 = .ok (.i2l, 1) := by decide +kernel
theorem dX0_impact_107 : decode cX0_impact 107 = .ok (.ladd, 1) := by decide +kernel
theorem dX0_impact_108 : decode cX0_impact 108 = .ok (.putfield 126, 3) := by decide +kernel
theorem dX0_impact_111 : decode cX0_impact 111 = .ok (.aload_n 0, 1) := by decide +kernel
theorem dX0_impact_112 : decode cX0_impact 112 = .ok (.getfield 112, 3) := by decide +kernel
theorem dX0_impact_115 : decode cX0_impact 115 = .ok (.ireturn, 1) := by decide +kernel
theorem dL_fitted_0 : decode cL_fitted 0 = .ok (.aload_n 3, 1) := by decide +kernel
theorem dL_fitted_1 : decode cL_fitted 1 = .ok (.iconst 0, 1) := by decide +kernel
theorem dL_fitted_2 : decode cL_fitted 2 = .ok (.aload_n 0, 1) := by decide +kernel
theorem dL_fitted_3 : decode cL_fitted 3 = .ok (.iload_n 1, 1) := by decide +kernel
theorem dL_fitted_4 : decode cL_fitted 4 = .ok (.iload_n 2, 1) := by decide +kernel
theorem dL_fitted_5 : decode cL_fitted 5 = .ok (.invokevirtual 43, 3) := by decide +kernel
theorem dL_fitted_8 : decode cL_fitted 8 = .ok (.lastore, 1) := by decide +kernel
theorem dL_fitted_9 : decode cL_fitted 9 = .ok (.goto 15, 3) := by decide +kernel
theorem dL_fitted_12 : decode cL_fitted 12 = .ok (.astore 4, 2) := by decide +kernel
theorem dL_fitted_14 : decode cL_fitted 14 = .ok (.iconst 1, 1) := by decide +kernel
theorem dL_fitted_15 : decode cL_fitted 15 = .ok (.ireturn, 1) := by decide +kernel
theorem dL_fitted_16 : decode cL_fitted 16 = .ok (.astore 4, 2) := by decide +kernel
theorem dL_fitted_18 : decode cL_fitted 18 = .ok (.iconst 2, 1) := by decide +kernel
theorem dL_fitted_19 : decode cL_fitted 19 = .ok (.ireturn, 1) := by decide +kernel
theorem dL_fitted_20 : decode cL_fitted 20 = .ok (.astore 4, 2) := by decide +kernel
theorem dL_fitted_22 : decode cL_fitted 22 = .ok (.iconst 3, 1) := by decide +kernel
theorem dL_fitted_23 : decode cL_fitted 23 = .ok (.ireturn, 1) := by decide +kernel
theorem dL_fitted_24 : decode cL_fitted 24 = .ok (.iconst 0, 1) := by decide +kernel
theorem dL_fitted_25 : decode cL_fitted 25 = .ok (.ireturn, 1) := by decide +kernel
theorem dX0_fitted_0 : decode cX0_fitted 0 = .ok (.iload_n 2, 1) := by decide +kernel
theorem dX0_fitted_1 : decode cX0_fitted 1 = .ok (.invokestatic 53, 3) := by decide +kernel
theorem dX0_fitted_4 : decode cX0_fitted 4 = .ok (.aload_n 0, 1) := by decide +kernel
theorem dX0_fitted_5 : decode cX0_fitted 5 = .ok (.getfield 112, 3) := by decide +kernel
theorem dX0_fitted_8 : decode cX0_fitted 8 = .ok (.i2l, 1) := by decide +kernel
theorem dX0_fitted_9 : decode cX0_fitted 9 = .ok (.aload_n 0, 1) := by decide +kernel
theorem dX0_fitted_10 : decode cX0_fitted 10 = .ok (.getfield 126, 3) := by decide +kernel
end
section
theorem dX0_fitted_13 : decode cX0_fitted 13 = .ok (.lmul, 1) := by decide +kernel
theorem dX0_fitted_14 : decode cX0_fitted 14 = .ok (.aload_n 0, 1) := by decide +kernel
theorem dX0_fitted_15 : decode cX0_fitted 15 = .ok (.getfield 117, 3) := by decide +kernel
theorem dX0_fitted_18 : decode cX0_fitted 18 = .ok (.aload_n 0, 1) := by decide +kernel
theorem dX0_fitted_19 : decode cX0_fitted 19 = .ok (.getfield 117, 3) := by decide +kernel
theorem dX0_fitted_22 : decode cX0_fitted 22 = .ok (.lmul, 1) := by decide +kernel
theorem dX0_fitted_23 : decode cX0_fitted 23 = .ok (.lsub, 1) := by decide +kernel
theorem dX0_fitted_24 : decode cX0_fitted 24 = .ok (.lstore_n 3, 1) := by decide +kernel
theorem dX0_fitted_25 : decode cX0_fitted 25 = .ok (.lload_n 3, 1) := by decide +kernel
theorem dX0_fitted_26 : decode cX0_fitted 26 = .ok (.lconst 0, 1) := by decide +kernel
theorem dX0_fitted_27 : decode cX0_fitted 27 = .ok (.lcmp, 1) := by decide +kernel
theorem dX0_fitted_28 : decode cX0_fitted 28 = .ok (.ifCond .gt 13, 3) := by decide +kernel
theorem dX0_fitted_31 : decode cX0_fitted 31 = .ok (.new 79, 3) := by decide +kernel
theorem dX0_fitted_34 : decode cX0_fitted 34 = .ok (.dup, 1) := by decide +kernel
theorem dX0_fitted_35 : decode cX0_fitted 35 = .ok (.ldc 129, 2) := by decide +kernel
theorem dX0_fitted_37 : decode cX0_fitted 37 = .ok (.invokespecial 83, 3) := by decide +kernel
theorem dX0_fitted_40 : decode cX0_fitted 40 = .ok (.athrow, 1) := by decide +kernel
theorem dX0_fitted_41 : decode cX0_fitted 41 = .ok (.iload_n 1, 1) := by decide +kernel
theorem dX0_fitted_42 : decode cX0_fitted 42 = .ok (.sipush (-200), 3) := by decide +kernel
theorem dX0_fitted_45 : decode cX0_fitted 45 = .ok (.sipush 200, 3) := by decide +kernel
theorem dX0_fitted_48 : decode cX0_fitted 48 = .ok (.invokestatic 23, 3) := by decide +kernel
theorem dX0_fitted_51 : decode cX0_fitted 51 = .ok (.ifCond .ne 13, 3) := by decide +kernel
theorem dX0_fitted_54 : decode cX0_fitted 54 = .ok (.new 27, 3) := by decide +kernel
theorem dX0_fitted_57 : decode cX0_fitted 57 = .ok (.dup, 1) := by decide +kernel
theorem dX0_fitted_58 : decode cX0_fitted 58 = .ok (.ldc 131, 2) := by decide +kernel
theorem dX0_fitted_60 : decode cX0_fitted 60 = .ok (.invokespecial 31, 3) := by decide +kernel
theorem dX0_fitted_63 : decode cX0_fitted 63 = .ok (.athrow, 1) := by decide +kernel
theorem dX0_fitted_64 : decode cX0_fitted 64 = .ok (.aload_n 0, 1) := by decide +kernel
theorem dX0_fitted_65 : decode cX0_fitted 65 = .ok (.getfield 112, 3) := by decide +kernel
theorem dX0_fitted_68 : decode cX0_fitted 68 = .ok (.i2l, 1) := by decide +kernel
theorem dX0_fitted_69 : decode cX0_fitted 69 = .ok (.aload_n 0, 1) := by decide +kernel
theorem dX0_fitted_70 : decode cX0_fitted 70 = .ok (.getfield 123, 3) := by decide +kernel
theorem dX0_fitted_73 : decode cX0_fitted 73 = .ok (.lmul, 1) := by decide +kernel
theorem dX0_fitted_74 : decode cX0_fitted 74 = .ok (.aload_n 0, 1) := by decide +kernel
theorem dX0_fitted_75 : decode cX0_fitted 75 = .ok (.getfield 117, 3) := by decide +kernel
theorem dX0_fitted_78 : decode cX0_fitted 78 = .ok (.aload_n 0, 1) := by decide +kernel
theorem dX0_fitted_79 : decode cX0_fitted 79 = .ok (.getfield 120, 3) := by decide +kernel
theorem dX0_fitted_82 : decode cX0_fitted 82 = .ok (.lmul, 1) := by decide +kernel
theorem dX0_fitted_83 : decode cX0_fitted 83 = .ok (.lsub, 1) := by decide +kernel
theorem dX0_fitted_84 : decode cX0_fitted 84 = .ok (.lstore 5, 2) := by decide +kernel
theorem dX0_fitted_86 : decode cX0_fitted 86 = .ok (.aload_n 0, 1) := by decide +kernel
theorem dX0_fitted_87 : decode cX0_fitted 87 = .ok (.getfield 120, 3) := by decide +kernel
theorem dX0_fitted_90 : decode cX0_fitted 90 = .ok (.lload_n 3, 1) := by decide +kernel
theorem dX0_fitted_91 : decode cX0_fitted 91 = .ok (.lmul, 1) := by decide +kernel
theorem dX0_fitted_92 : decode cX0_fitted 92 = .ok (.lload 5, 2) := by decide +kernel
theorem dX0_fitted_94 : decode cX0_fitted 94 = .ok (.aload_n 0, 1) := by decide +kernel
theorem dX0_fitted_95 : decode cX0_fitted 95 = .ok (.getfield 112, 3) := by decide +kernel
theorem dX0_fitted_98 : decode cX0_fitted 98 = .ok (.iload_n 1, 1) := by decide +kernel
theorem dX0_fitted_99 : decode cX0_fitted 99 = .ok (.imul, 1) := by decide +kernel
theorem dX0_fitted_100 : decode cX0_fitted 100 = .ok (.i2l, 1) := by decide +kernel
theorem dX0_fitted_101 : decode cX0_fitted 101 = .ok (.aload_n 0, 1) := by decide +kernel
theorem dX0_fitted_102 : decode cX0_fitted 102 = .ok (.getfield 117, 3) := by decide +kernel
theorem dX0_fitted_105 : decode cX0_fitted 105 = .ok (.lsub, 1) := by decide +kernel
theorem dX0_fitted_106 : decode cX0_fitted 106 = .ok (.lmul, 1) := by decide +kernel
theorem dX0_fitted_107 : decode cX0_fitted 107 = .ok (.ladd, 1) := by decide +kernel
theorem dX0_fitted_108 : decode cX0_fitted 108 = .ok (.lstore 7, 2) := by decide +kernel
theorem dX0_fitted_110 : decode cX0_fitted 110 = .ok (.lload 7, 2) := by decide +kernel
theorem dX0_fitted_112 : decode cX0_fitted 112 = .ok (.aload_n 0, 1) := by decide +kernel
theorem dX0_fitted_113 : decode cX0_fitted 113 = .ok (.getfield 112, 3) := by decide +kernel
theorem dX0_fitted_116 : decode cX0_fitted 116 = .ok (.i2l, 1) := by decide +kernel
theorem dX0_fitted_117 : decode cX0_fitted 117 = .ok (.lload_n 3, 1) := by decide +kernel
theorem dX0_fitted_118 : decode cX0_fitted 118 = .ok (.lmul, 1) := by decide +kernel
theorem dX0_fitted_119 : decode cX0_fitted 119 = .ok (.iload_n 2, 1) := by decide +kernel
theorem dX0_fitted_120 : decode cX0_fitted 120 = .ok (.invokestatic 75, 3) := by decide +kernel
theorem dX0_fitted_123 : decode cX0_fitted 123 = .ok (.lreturn, 1) := by decide +kernel
theorem dL_table_0 : decode cL_table 0 = .ok (.aload_n 3, 1) := by decide +kernel
theorem dL_table_1 : decode cL_table 1 = .ok (.iconst 0, 1) := by decide +kernel
theorem dL_table_2 : decode cL_table 2 = .ok (.aload_n 0, 1) := by decide +kernel
theorem dL_table_3 : decode cL_table 3 = .ok (.iload_n 1, 1) := by decide +kernel
theorem dL_table_4 : decode cL_table 4 = .ok (.iload_n 2, 1) := by decide +kernel
theorem dL_table_5 : decode cL_table 5 = .ok (.invokevirtual 46, 3) := by decide +kernel
theorem dL_table_8 : decode cL_table 8 = .ok (.i2l, 1) := by decide +kernel
theorem dL_table_9 : decode cL_table 9 = .ok (.lastore, 1) := by decide +kernel
theorem dL_table_10 : decode cL_table 10 = .ok (.goto 11, 3) := by decide +kernel
theorem dL_table_13 : decode cL_table 13 = .ok (.astore 4, 2) := by decide +kernel
theorem dL_table_15 : decode cL_table 15 = .ok (.iconst 1, 1) := by decide +kernel
theorem dL_table_16 : decode cL_table 16 = .ok (.ireturn, 1) := by decide +kernel
theorem dL_table_17 : decode cL_table 17 = .ok (.astore 4, 2) := by decide +kernel
theorem dL_table_19 : decode cL_table 19 = .ok (.iconst 2, 1) := by decide +kernel
theorem dL_table_20 : decode cL_table 20 = .ok (.ireturn, 1) := by decide +kernel
theorem dL_table_21 : decode cL_table 21 = .ok (.iconst 0, 1) := by decide +kernel
theorem dL_table_22 : decode cL_table 22 = .ok (.ireturn, 1) := by decide +kernel
theorem dX0_table_0 : decode cX0_table 0 = .ok (.iload_n 1, 1) := by decide +kernel
theorem dX0_table_1 : decode cX0_table 1 = .ok (.iconst 0, 1) := by decide +kernel
theorem dX0_table_2 : decode cX0_table 2 = .ok (.sipush 2000, 3) := by decide +kernel
theorem dX0_table_5 : decode cX0_table 5 = .ok (.invokestatic 23, 3) := by decide +kernel
theorem dX0_table_8 : decode cX0_table 8 = .ok (.ifCond .eq 14, 3) := by decide +kernel
theorem dX0_table_11 : decode cX0_table 11 = .ok (.iload_n 2, 1) := by decide +kernel
theorem dX0_table_12 : decode cX0_table 12 = .ok (.iconst 0, 1) := by decide +kernel
theorem dX0_table_13 : decode cX0_table 13 = .ok (.sipush 2000, 3) := by decide +kernel
theorem dX0_table_16 : decode cX0_table 16 = .ok (.invokestatic 23, 3) := by decide +kernel
theorem dX0_table_19 : decode cX0_table 19 = .ok (.ifCond .ne 13, 3) := by decide +kernel
theorem dX0_table_22 : decode cX0_table 22 = .ok (.new 27, 3) := by decide +kernel
theorem dX0_table_25 : decode cX0_table 25 = .ok (.dup, 1) := by decide +kernel
theorem dX0_table_26 : decode cX0_table 26 = .ok (.ldc 133, 2) := by decide +kernel
theorem dX0_table_28 : decode cX0_table 28 = .ok (.invokespecial 31, 3) := by decide +kernel
theorem dX0_table_31 : decode cX0_table 31 = .ok (.athrow, 1) := by decide +kernel
theorem dX0_table_32 : decode cX0_table 32 = .ok (.aload_n 0, 1) := by decide +kernel
theorem dX0_table_33 : decode cX0_table 33 = .ok (.getfield 135, 3) := by decide +kernel
theorem dX0_table_36 : decode cX0_table 36 = .ok (.ifCond .le 28, 3) := by decide +kernel
theorem dX0_table_39 : decode cX0_table 39 = .ok (.iload_n 1, 1) := by decide +kernel
theorem dX0_table_40 : decode cX0_table 40 = .ok (.aload_n 0, 1) := by decide +kernel
theorem dX0_table_41 : decode cX0_table 41 = .ok (.getfield 16, 3) := by decide +kernel
theorem dX0_table_44 : decode cX0_table 44 = .ok (.aload_n 0, 1) := by decide +kernel
theorem dX0_table_45 : decode cX0_table 45 = .ok (.getfield 135, 3) := by decide +kernel
theorem dX0_table_48 : decode cX0_table 48 = .ok (.iconst 1, 1) := by decide +kernel
theorem dX0_table_49 : decode cX0_table 49 = .ok (.isub, 1) := by decide +kernel
theorem dX0_table_50 : decode cX0_table 50 = .ok (.iaload, 1) := by decide +kernel
theorem dX0_table_51 : decode cX0_table 51 = .ok (.if_icmp .gt 13, 3) := by decide +kernel
theorem dX0_table_54 : decode cX0_table 54 = .ok (.new 27, 3) := by decide +kernel
theorem dX0_table_57 : decode cX0_table 57 = .ok (.dup, 1) := by decide +kernel
theorem dX0_table_58 : decode cX0_table 58 = .ok (.ldc 138, 2) := by decide +kernel
theorem dX0_table_60 : decode cX0_table 60 = .ok (.invokespecial 31, 3) := by decide +kernel
theorem dX0_table_63 : decode cX0_table 63 = .ok (.athrow, 1) := by decide +kernel
theorem dX0_table_64 : decode cX0_table 64 = .ok (.aload_n 0, 1) := by decide +kernel
theorem dX0_table_65 : decode cX0_table 65 = .ok (.getfield 135, 3) := by decide +kernel
theorem dX0_table_68 : decode cX0_table 68 = .ok (.bipush 8, 2) := by decide +kernel
theorem dX0_table_70 : decode cX0_table 70 = .ok (.if_icmp .lt 13, 3) := by decide +kernel
theorem dX0_table_73 : decode cX0_table 73 = .ok (.new 40, 3) := by decide +kernel
theorem dX0_table_76 : decode cX0_table 76 = .ok (.dup, 1) := by decide +kernel
theorem dX0_table_77 : decode cX0_table 77 = .ok (.ldc 140, 2) := by decide +kernel
theorem dX0_table_79 : decode cX0_table 79 = .ok (.invokespecial 44, 3) := by decide +kernel
theorem dX0_table_82 : decode cX0_table 82 = .ok (.athrow, 1) := by decide +kernel
theorem dX0_table_83 : decode cX0_table 83 = .ok (.aload_n 0, 1) := by decide +kernel
theorem dX0_table_84 : decode cX0_table 84 = .ok (.getfield 16, 3) := by decide +kernel
theorem dX0_table_87 : decode cX0_table 87 = .ok (.aload_n 0, 1) := by decide +kernel
theorem dX0_table_88 : decode cX0_table 88 = .ok (.getfield 135, 3) := by decide +kernel
theorem dX0_table_91 : decode cX0_table 91 = .ok (.iload_n 1, 1) := by decide +kernel
theorem dX0_table_92 : decode cX0_table 92 = .ok (.iastore, 1) := by decide +kernel
theorem dX0_table_93 : decode cX0_table 93 = .ok (.aload_n 0, 1) := by decide +kernel
theorem dX0_table_94 : decode cX0_table 94 = .ok (.getfield 19, 3) := by decide +kernel
theorem dX0_table_97 : decode cX0_table 97 = .ok (.aload_n 0, 1) := by decide +kernel
theorem dX0_table_98 : decode cX0_table 98 = .ok (.getfield 135, 3) := by decide +kernel
theorem dX0_table_101 : decode cX0_table 101 = .ok (.iload_n 2, 1) := by decide +kernel
theorem dX0_table_102 : decode cX0_table 102 = .ok (.iastore, 1) := by decide +kernel
theorem dX0_table_103 : decode cX0_table 103 = .ok (.aload_n 0, 1) := by decide +kernel
theorem dX0_table_104 : decode cX0_table 104 = .ok (.dup, 1) := by decide +kernel
theorem dX0_table_105 : decode cX0_table 105 = .ok (.getfield 135, 3) := by decide +kernel
theorem dX0_table_108 : decode cX0_table 108 = .ok (.iconst 1, 1) := by decide +kernel
theorem dX0_table_109 : decode cX0_table 109 = .ok (.iadd, 1) := by decide +kernel
theorem dX0_table_110 : decode cX0_table 110 = .ok (.putfield 135, 3) := by decide +kernel
theorem dX0_table_113 : decode cX0_table 113 = .ok (.aload_n 0, 1) := by decide +kernel
theorem dX0_table_114 : decode cX0_table 114 = .ok (.getfield 135, 3) := by decide +kernel
theorem dX0_table_117 : decode cX0_table 117 = .ok (.ireturn, 1) := by decide +kernel
theorem dL_convert_0 : decode cL_convert 0 = .ok (.aload_n 3, 1) := by decide +kernel
theorem dL_convert_1 : decode cL_convert 1 = .ok (.iconst 0, 1) := by decide +kernel
theorem dL_convert_2 : decode cL_convert 2 = .ok (.aload_n 0, 1) := by decide +kernel
theorem dL_convert_3 : decode cL_convert 3 = .ok (.iload_n 1, 1) := by decide +kernel
theorem dL_convert_4 : decode cL_convert 4 = .ok (.iload_n 2, 1) := by decide +kernel
theorem dL_convert_5 : decode cL_convert 5 = .ok (.invokevirtual 49, 3) := by decide +kernel
theorem dL_convert_8 : decode cL_convert 8 = .ok (.i2l, 1) := by decide +kernel
theorem dL_convert_9 : decode cL_convert 9 = .ok (.lastore, 1) := by decide +kernel
theorem dL_convert_10 : decode cL_convert 10 = .ok (.goto 19, 3) := by decide +kernel
theorem dL_convert_13 : decode cL_convert 13 = .ok (.astore 4, 2) := by decide +kernel
theorem dL_convert_15 : decode cL_convert 15 = .ok (.iconst 1, 1) := by decide +kernel
theorem dL_convert_16 : decode cL_convert 16 = .ok (.ireturn, 1) := by decide +kernel
theorem dL_convert_17 : decode cL_convert 17 = .ok (.astore 4, 2) := by decide +kernel
theorem dL_convert_19 : decode cL_convert 19 = .ok (.iconst 2, 1) := by decide +kernel
theorem dL_convert_20 : decode cL_convert 20 = .ok (.ireturn, 1) := by decide +kernel
theorem dL_convert_21 : decode cL_convert 21 = .ok (.astore 4, 2) := by decide +kernel
theorem dL_convert_23 : decode cL_convert 23 = .ok (.iconst 3, 1) := by decide +kernel
theorem dL_convert_24 : decode cL_convert 24 = .ok (.ireturn, 1) := by decide +kernel
theorem dL_convert_25 : decode cL_convert 25 = .ok (.astore 4, 2) := by decide +kernel
theorem dL_convert_27 : decode cL_convert 27 = .ok (.iconst 4, 1) := by decide +kernel
theorem dL_convert_28 : decode cL_convert 28 = .ok (.ireturn, 1) := by decide +kernel
theorem dL_convert_29 : decode cL_convert 29 = .ok (.iconst 0, 1) := by decide +kernel
theorem dL_convert_30 : decode cL_convert 30 = .ok (.ireturn, 1) := by decide +kernel
theorem dX0_convert_0 : decode cX0_convert 0 = .ok (.iload_n 2, 1) := by decide +kernel
theorem dX0_convert_1 : decode cX0_convert 1 = .ok (.invokestatic 142, 3) := by decide +kernel
theorem dX0_convert_4 : decode cX0_convert 4 = .ok (.aload_n 0, 1) := by decide +kernel
theorem dX0_convert_5 : decode cX0_convert 5 = .ok (.getfield 135, 3) := by decide +kernel
theorem dX0_convert_8 : decode cX0_convert 8 = .ok (.ifCond .ne 13, 3) := by decide +kernel
theorem dX0_convert_11 : decode cX0_convert 11 = .ok (.new 79, 3) := by decide +kernel
theorem dX0_convert_14 : decode cX0_convert 14 = .ok (.dup, 1) := by decide +kernel
theorem dX0_convert_15 : decode cX0_convert 15 = .ok (.ldc 145, 2) := by decide +kernel
theorem dX0_convert_17 : decode cX0_convert 17 = .ok (.invokespecial 83, 3) := by decide +kernel
theorem dX0_convert_20 : decode cX0_convert 20 = .ok (.athrow, 1) := by decide +kernel
theorem dX0_convert_21 : decode cX0_convert 21 = .ok (.iload_n 1, 1) := by decide +kernel
theorem dX0_convert_22 : decode cX0_convert 22 = .ok (.iconst 0, 1) := by decide +kernel
theorem dX0_convert_23 : decode cX0_convert 23 = .ok (.sipush 2000, 3) := by decide +kernel
theorem dX0_convert_26 : decode cX0_convert 26 = .ok (.invokestatic 23, 3) := by decide +kernel
theorem dX0_convert_29 : decode cX0_convert 29 = .ok (.ifCond .ne 13, 3) := by decide +kernel
theorem dX0_convert_32 : decode cX0_convert 32 = .ok (.new 27, 3) := by decide +kernel
theorem dX0_convert_35 : decode cX0_convert 35 = .ok (.dup, 1) := by decide +kernel
theorem dX0_convert_36 : decode cX0_convert 36 = .ok (.ldc 133, 2) := by decide +kernel
theorem dX0_convert_38 : decode cX0_convert 38 = .ok (.invokespecial 31, 3) := by decide +kernel
theorem dX0_convert_41 : decode cX0_convert 41 = .ok (.athrow, 1) := by decide +kernel
theorem dX0_convert_42 : decode cX0_convert 42 = .ok (.iload_n 1, 1) := by decide +kernel
theorem dX0_convert_43 : decode cX0_convert 43 = .ok (.aload_n 0, 1) := by decide +kernel
theorem dX0_convert_44 : decode cX0_convert 44 = .ok (.getfield 16, 3) := by decide +kernel
theorem dX0_convert_47 : decode cX0_convert 47 = .ok (.iconst 0, 1) := by decide +kernel
theorem dX0_convert_48 : decode cX0_convert 48 = .ok (.iaload, 1) := by decide +kernel
theorem dX0_convert_49 : decode cX0_convert 49 = .ok (.if_icmp .lt 18, 3) := by decide +kernel
theorem dX0_convert_52 : decode cX0_convert 52 = .ok (.iload_n 1, 1) := by decide +kernel
theorem dX0_convert_53 : decode cX0_convert 53 = .ok (.aload_n 0, 1) := by decide +kernel
theorem dX0_convert_54 : decode cX0_convert 54 = .ok (.getfield 16, 3) := by decide +kernel
theorem dX0_convert_57 : decode cX0_convert 57 = .ok (.aload_n 0, 1) := by decide +kernel
theorem dX0_convert_58 : decode cX0_convert 58 = .ok (.getfield 135, 3) := by decide +kernel
theorem dX0_convert_61 : decode cX0_convert 61 = .ok (.iconst 1, 1) := by decide +kernel
theorem dX0_convert_62 : decode cX0_convert 62 = .ok (.isub, 1) := by decide +kernel
theorem dX0_convert_63 : decode cX0_convert 63 = .ok (.iaload, 1) := by decide +kernel
theorem dX0_convert_64 : decode cX0_convert 64 = .ok (.if_icmp .le 13, 3) := by decide +kernel
theorem dX0_convert_67 : decode cX0_convert 67 = .ok (.new 40, 3) := by decide +kernel
theorem dX0_convert_70 : decode cX0_convert 70 = .ok (.dup, 1) := by decide +kernel
theorem dX0_convert_71 : decode cX0_convert 71 = .ok (.ldc 147, 2) := by decide +kernel
theorem dX0_convert_73 : decode cX0_convert 73 = .ok (.invokespecial 44, 3) := by decide +kernel
theorem dX0_convert_76 : decode cX0_convert 76 = .ok (.athrow, 1) := by decide +kernel
theorem dX0_convert_77 : decode cX0_convert 77 = .ok (.aload_n 0, 1) := by decide +kernel
theorem dX0_convert_78 : decode cX0_convert 78 = .ok (.iload_n 1, 1) := by decide +kernel
theorem dX0_convert_79 : decode cX0_convert 79 = .ok (.invokevirtual 149, 3) := by decide +kernel
theorem dX0_convert_82 : decode cX0_convert 82 = .ok (.istore_n 3, 1) := by decide +kernel
theorem dX0_convert_83 : decode cX0_convert 83 = .ok (.iload_n 3, 1) := by decide +kernel
theorem dX0_convert_84 : decode cX0_convert 84 = .ok (.iconst 1, 1) := by decide +kernel
theorem dX0_convert_85 : decode cX0_convert 85 = .ok (.if_icmp .ge 10, 3) := by decide +kernel
theorem dX0_convert_88 : decode cX0_convert 88 = .ok (.aload_n 0, 1) := by decide +kernel
theorem dX0_convert_89 : decode cX0_convert 89 = .ok (.getfield 19, 3) := by decide +kernel
theorem dX0_convert_92 : decode cX0_convert 92 = .ok (.iconst 0, 1) := by decide +kernel
theorem dX0_convert_93 : decode cX0_convert 93 = .ok (.iaload, 1) := by decide +kernel
theorem dX0_convert_94 : decode cX0_convert 94 = .ok (.ireturn, 1) := by decide +kernel
theorem dX0_convert_95 : decode cX0_convert 95 = .ok (.aload_n 0, 1) := by decide +kernel
theorem dX0_convert_96 : decode cX0_convert 96 = .ok (.getfield 16, 3) := by decide +kernel
theorem dX0_convert_99 : decode cX0_convert 99 = .ok (.iload_n 3, 1) := by decide +kernel
theorem dX0_convert_100 : decode cX0_convert 100 = .ok (.iaload, 1) := by decide +kernel
theorem dX0_convert_101 : decode cX0_convert 101 = .ok (.aload_n 0, 1) := by decide +kernel
theorem dX0_convert_102 : decode cX0_convert 102 = .ok (.getfield 16, 3) := by decide +kernel
theorem dX0_convert_105 : decode cX0_convert 105 = .ok (.iload_n 3, 1) := by decide +kernel
theorem dX0_convert_106 : decode cX0_convert 106 = .ok (.iconst 1, 1) := by decide +kernel
theorem dX0_convert_107 : decode cX0_convert 107 = .ok (.isub, 1) := by decide +kernel
theorem dX0_convert_108 : decode cX0_convert 108 = .ok (.iaload, 1) := by decide +kernel
theorem dX0_convert_109 : decode cX0_convert 109 = .ok (.isub, 1) := by decide +kernel
theorem dX0_convert_110 : decode cX0_convert 110 = .ok (.i2l, 1) := by decide +kernel
theorem dX0_convert_111 : decode cX0_convert 111 = .ok (.lstore 4, 2) := by decide +kernel
theorem dX0_convert_113 : decode cX0_convert 113 = .ok (.aload_n 0, 1) := by decide +kernel
theorem dX0_convert_114 : decode cX0_convert 114 = .ok (.getfield 19, 3) := by decide +kernel
theorem dX0_convert_117 : decode cX0_convert 117 = .ok (.iload_n 3, 1) := by decide +kernel
theorem dX0_convert_118 : decode cX0_convert 118 = .ok (.iconst 1, 1) := by decide +kernel
theorem dX0_convert_119 : decode cX0_convert 119 = .ok (.isub, 1) := by decide +kernel
theorem dX0_convert_120 : decode cX0_convert 120 = .ok (.iaload, 1) := by decide +kernel
theorem dX0_convert_121 : decode cX0_convert 121 = .ok (.i2l, 1) := by decide +kernel
theorem dX0_convert_122 : decode cX0_convert 122 = .ok (.lload 4, 2) := by decide +kernel
theorem dX0_convert_124 : decode cX0_convert 124 = .ok (.lmul, 1) := by decide +kernel
theorem dX0_convert_125 : decode cX0_convert 125 = .ok (.aload_n 0, 1) := by decide +kernel
theorem dX0_convert_126 : decode cX0_convert 126 = .ok (.getfield 19, 3) := by decide +kernel
theorem dX0_convert_129 : decode cX0_convert 129 = .ok (.iload_n 3, 1) := by decide +kernel
theorem dX0_convert_130 : decode cX0_convert 130 = .ok (.iaload, 1) := by decide +kernel
theorem dX0_convert_131 : decode cX0_convert 131 = .ok (.aload_n 0, 1) := by decide +kernel
theorem dX0_convert_132 : decode cX0_convert 132 = .ok (.getfield 19, 3) := by decide +kernel
theorem dX0_convert_135 : decode cX0_convert 135 = .ok (.iload_n 3, 1) := by decide +kernel
theorem dX0_convert_136 : decode cX0_convert 136 = .ok (.iconst 1, 1) := by decide +kernel
theorem dX0_convert_137 : decode cX0_convert 137 = .ok (.isub, 1) := by decide +kernel
theorem dX0_convert_138 : decode cX0_convert 138 = .ok (.iaload, 1) := by decide +kernel
theorem dX0_convert_139 : decode cX0_convert 139 = .ok (.isub, 1) := by decide +kernel
theorem dX0_convert_140 : decode cX0_convert 140 = .ok (.i2l, 1) := by decide +kernel
theorem dX0_convert_141 : decode cX0_convert 141 = .ok (.iload_n 1, 1) := by decide +kernel
theorem dX0_convert_142 : decode cX0_convert 142 = .ok (.aload_n 0, 1) := by decide +kernel
theorem dX0_convert_143 : decode cX0_convert 143 = .ok (.getfield 16, 3) := by decide +kernel
theorem dX0_convert_146 : decode cX0_convert 146 = .ok (.iload_n 3, 1) := by decide +kernel
theorem dX0_convert_147 : decode cX0_convert 147 = .ok (.iconst 1, 1) := by decide +kernel
theorem dX0_convert_148 : decode cX0_convert 148 = .ok (.isub, 1) := by decide +kernel
theorem dX0_convert_149 : decode cX0_convert 149 = .ok (.iaload, 1) := by decide +kernel
theorem dX0_convert_150 : decode cX0_convert 150 = .ok (.isub, 1) := by decide +kernel
theorem dX0_convert_151 : decode cX0_convert 151 = .ok (.i2l, 1) := by decide +kernel
theorem dX0_convert_152 : decode cX0_convert 152 = .ok (.lmul, 1) := by decide +kernel
theorem dX0_convert_153 : decode cX0_convert 153 = .ok (.ladd, 1) := by decide +kernel
theorem dX0_convert_154 : decode cX0_convert 154 = .ok (.lstore 6, 2) := by decide +kernel
theorem dX0_convert_156 : decode cX0_convert 156 = .ok (.lload 6, 2) := by decide +kernel
theorem dX0_convert_158 : decode cX0_convert 158 = .ok (.lload 4, 2) := by decide +kernel
theorem dX0_convert_160 : decode cX0_convert 160 = .ok (.iload_n 2, 1) := by decide +kernel
theorem dX0_convert_161 : decode cX0_convert 161 = .ok (.invokestatic 152, 3) := by decide +kernel
theorem dX0_convert_164 : decode cX0_convert 164 = .ok (.l2i, 1) := by decide +kernel
theorem dX0_convert_165 : decode cX0_convert 165 = .ok (.ireturn, 1) := by decide +kernel
theorem dX0_refuseNoSuchRule_0 : decode cX0_refuseNoSuchRule 0 = .ok (.iload_n 0, 1) := by decide +kernel
theorem dX0_refuseNoSuchRule_1 : decode cX0_refuseNoSuchRule 1 = .ok (.iconst 0, 1) := by decide +kernel
theorem dX0_refuseNoSuchRule_2 : decode cX0_refuseNoSuchRule 2 = .ok (.iconst 2, 1) := by decide +kernel
theorem dX0_refuseNoSuchRule_3 : decode cX0_refuseNoSuchRule 3 = .ok (.invokestatic 23, 3) := by decide +kernel
theorem dX0_refuseNoSuchRule_6 : decode cX0_refuseNoSuchRule 6 = .ok (.ifCond .ne 13, 3) := by decide +kernel
theorem dX0_refuseNoSuchRule_9 : decode cX0_refuseNoSuchRule 9 = .ok (.new 95, 3) := by decide +kernel
theorem dX0_refuseNoSuchRule_12 : decode cX0_refuseNoSuchRule 12 = .ok (.dup, 1) := by decide +kernel
theorem dX0_refuseNoSuchRule_13 : decode cX0_refuseNoSuchRule 13 = .ok (.ldc 180, 2) := by decide +kernel
theorem dX0_refuseNoSuchRule_15 : decode cX0_refuseNoSuchRule 15 = .ok (.invokespecial 99, 3) := by decide +kernel
theorem dX0_refuseNoSuchRule_18 : decode cX0_refuseNoSuchRule 18 = .ok (.athrow, 1) := by decide +kernel
theorem dX0_refuseNoSuchRule_19 : decode cX0_refuseNoSuchRule 19 = .ok (.return_, 1) := by decide +kernel
theorem dX0_firstTableRowFrom_0 : decode cX0_firstTableRowFrom 0 = .ok (.iconst 0, 1) := by decide +kernel
theorem dX0_firstTableRowFrom_1 : decode cX0_firstTableRowFrom 1 = .ok (.istore_n 2, 1) := by decide +kernel
theorem dX0_firstTableRowFrom_2 : decode cX0_firstTableRowFrom 2 = .ok (.iload_n 2, 1) := by decide +kernel
theorem dX0_firstTableRowFrom_3 : decode cX0_firstTableRowFrom 3 = .ok (.aload_n 0, 1) := by decide +kernel
theorem dX0_firstTableRowFrom_4 : decode cX0_firstTableRowFrom 4 = .ok (.getfield 135, 3) := by decide +kernel
theorem dX0_firstTableRowFrom_7 : decode cX0_firstTableRowFrom 7 = .ok (.if_icmp .ge 21, 3) := by decide +kernel
theorem dX0_firstTableRowFrom_10 : decode cX0_firstTableRowFrom 10 = .ok (.aload_n 0, 1) := by decide +kernel
theorem dX0_firstTableRowFrom_11 : decode cX0_firstTableRowFrom 11 = .ok (.getfield 16, 3) := by decide +kernel
theorem dX0_firstTableRowFrom_14 : decode cX0_firstTableRowFrom 14 = .ok (.iload_n 2, 1) := by decide +kernel
theorem dX0_firstTableRowFrom_15 : decode cX0_firstTableRowFrom 15 = .ok (.iaload, 1) := by decide +kernel
theorem dX0_firstTableRowFrom_16 : decode cX0_firstTableRowFrom 16 = .ok (.iload_n 1, 1) := by decide +kernel
theorem dX0_firstTableRowFrom_17 : decode cX0_firstTableRowFrom 17 = .ok (.if_icmp .lt 5, 3) := by decide +kernel
theorem dX0_firstTableRowFrom_20 : decode cX0_firstTableRowFrom 20 = .ok (.iload_n 2, 1) := by decide +kernel
theorem dX0_firstTableRowFrom_21 : decode cX0_firstTableRowFrom 21 = .ok (.ireturn, 1) := by decide +kernel
theorem dX0_firstTableRowFrom_22 : decode cX0_firstTableRowFrom 22 = .ok (.iinc 2 1, 3) := by decide +kernel
theorem dX0_firstTableRowFrom_25 : decode cX0_firstTableRowFrom 25 = .ok (.goto (-23), 3) := by decide +kernel
theorem dX0_firstTableRowFrom_28 : decode cX0_firstTableRowFrom 28 = .ok (.iconst (-1), 1) := by decide +kernel
theorem dX0_firstTableRowFrom_29 : decode cX0_firstTableRowFrom 29 = .ok (.ireturn, 1) := by decide +kernel
theorem dX0_roundedByRule_0 : decode cX0_roundedByRule 0 = .ok (.lload_n 2, 1) := by decide +kernel
theorem dX0_roundedByRule_1 : decode cX0_roundedByRule 1 = .ok (.lconst 1, 1) := by decide +kernel
theorem dX0_roundedByRule_2 : decode cX0_roundedByRule 2 = .ok (.lcmp, 1) := by decide +kernel
theorem dX0_roundedByRule_3 : decode cX0_roundedByRule 3 = .ok (.ifCond .ge 5, 3) := by decide +kernel
theorem dX0_roundedByRule_6 : decode cX0_roundedByRule 6 = .ok (.lload_n 0, 1) := by decide +kernel
theorem dX0_roundedByRule_7 : decode cX0_roundedByRule 7 = .ok (.lreturn, 1) := by decide +kernel
theorem dX0_roundedByRule_8 : decode cX0_roundedByRule 8 = .ok (.lload_n 0, 1) := by decide +kernel
theorem dX0_roundedByRule_9 : decode cX0_roundedByRule 9 = .ok (.lload_n 2, 1) := by decide +kernel
theorem dX0_roundedByRule_10 : decode cX0_roundedByRule 10 = .ok (.invokestatic 182, 3) := by decide +kernel
theorem dX0_roundedByRule_13 : decode cX0_roundedByRule 13 = .ok (.lstore 5, 2) := by decide +kernel
theorem dX0_roundedByRule_15 : decode cX0_roundedByRule 15 = .ok (.ldc2_w 186, 3) := by decide +kernel
theorem dX0_roundedByRule_18 : decode cX0_roundedByRule 18 = .ok (.lload_n 0, 1) := by decide +kernel
theorem dX0_roundedByRule_19 : decode cX0_roundedByRule 19 = .ok (.lload 5, 2) := by decide +kernel
theorem dX0_roundedByRule_21 : decode cX0_roundedByRule 21 = .ok (.lload_n 2, 1) := by decide +kernel
theorem dX0_roundedByRule_22 : decode cX0_roundedByRule 22 = .ok (.lmul, 1) := by decide +kernel
theorem dX0_roundedByRule_23 : decode cX0_roundedByRule 23 = .ok (.lsub, 1) := by decide +kernel
theorem dX0_roundedByRule_24 : decode cX0_roundedByRule 24 = .ok (.lmul, 1) := by decide +kernel
theorem dX0_roundedByRule_25 : decode cX0_roundedByRule 25 = .ok (.lstore 7, 2) := by decide +kernel
theorem dX0_roundedByRule_27 : decode cX0_roundedByRule 27 = .ok (.iload 4, 2) := by decide +kernel
theorem dX0_roundedByRule_29 : decode cX0_roundedByRule 29 = .ok (.iconst 2, 1) := by decide +kernel
theorem dX0_roundedByRule_30 : decode cX0_roundedByRule 30 = .ok (.if_icmp .eq 10, 3) := by decide +kernel
theorem dX0_roundedByRule_33 : decode cX0_roundedByRule 33 = .ok (.lload 7, 2) := by decide +kernel
theorem dX0_roundedByRule_35 : decode cX0_roundedByRule 35 = .ok (.lload_n 2, 1) := by decide +kernel
theorem dX0_roundedByRule_36 : decode cX0_roundedByRule 36 = .ok (.lcmp, 1) := by decide +kernel
theorem dX0_roundedByRule_37 : decode cX0_roundedByRule 37 = .ok (.ifCond .ge 6, 3) := by decide +kernel
theorem dX0_roundedByRule_40 : decode cX0_roundedByRule 40 = .ok (.lload 5, 2) := by decide +kernel
theorem dX0_roundedByRule_42 : decode cX0_roundedByRule 42 = .ok (.lreturn, 1) := by decide +kernel
theorem dX0_roundedByRule_43 : decode cX0_roundedByRule 43 = .ok (.lload 7, 2) := by decide +kernel
theorem dX0_roundedByRule_45 : decode cX0_roundedByRule 45 = .ok (.lload_n 2, 1) := by decide +kernel
theorem dX0_roundedByRule_46 : decode cX0_roundedByRule 46 = .ok (.lcmp, 1) := by decide +kernel
theorem dX0_roundedByRule_47 : decode cX0_roundedByRule 47 = .ok (.ifCond .ne 7, 3) := by decide +kernel
theorem dX0_roundedByRule_50 : decode cX0_roundedByRule 50 = .ok (.iconst 1, 1) := by decide +kernel
theorem dX0_roundedByRule_51 : decode cX0_roundedByRule 51 = .ok (.goto 4, 3) := by decide +kernel
theorem dX0_roundedByRule_54 : decode cX0_roundedByRule 54 = .ok (.iconst 0, 1) := by decide +kernel
theorem dX0_roundedByRule_55 : decode cX0_roundedByRule 55 = .ok (.istore 9, 2) := by decide +kernel
theorem dX0_roundedByRule_57 : decode cX0_roundedByRule 57 = .ok (.lload 5, 2) := by decide +kernel
theorem dX0_roundedByRule_59 : decode cX0_roundedByRule 59 = .ok (.lconst 1, 1) := by decide +kernel
theorem dX0_roundedByRule_60 : decode cX0_roundedByRule 60 = .ok (.land, 1) := by decide +kernel
theorem dX0_roundedByRule_61 : decode cX0_roundedByRule 61 = .ok (.lconst 0, 1) := by decide +kernel
theorem dX0_roundedByRule_62 : decode cX0_roundedByRule 62 = .ok (.lcmp, 1) := by decide +kernel
theorem dX0_roundedByRule_63 : decode cX0_roundedByRule 63 = .ok (.ifCond .ne 7, 3) := by decide +kernel
theorem dX0_roundedByRule_66 : decode cX0_roundedByRule 66 = .ok (.iconst 1, 1) := by decide +kernel
theorem dX0_roundedByRule_67 : decode cX0_roundedByRule 67 = .ok (.goto 4, 3) := by decide +kernel
theorem dX0_roundedByRule_70 : decode cX0_roundedByRule 70 = .ok (.iconst 0, 1) := by decide +kernel
theorem dX0_roundedByRule_71 : decode cX0_roundedByRule 71 = .ok (.istore 10, 2) := by decide +kernel
theorem dX0_roundedByRule_73 : decode cX0_roundedByRule 73 = .ok (.iload 9, 2) := by decide +kernel
theorem dX0_roundedByRule_75 : decode cX0_roundedByRule 75 = .ok (.ifCond .eq 19, 3) := by decide +kernel
theorem dX0_roundedByRule_78 : decode cX0_roundedByRule 78 = .ok (.iload 10, 2) := by decide +kernel
theorem dX0_roundedByRule_80 : decode cX0_roundedByRule 80 = .ok (.ifCond .eq 14, 3) := by decide +kernel
theorem dX0_roundedByRule_83 : decode cX0_roundedByRule 83 = .ok (.iload 4, 2) := by decide +kernel
theorem dX0_roundedByRule_85 : decode cX0_roundedByRule 85 = .ok (.iconst 1, 1) := by decide +kernel
theorem dX0_roundedByRule_86 : decode cX0_roundedByRule 86 = .ok (.if_icmp .ne 8, 3) := by decide +kernel
theorem dX0_roundedByRule_89 : decode cX0_roundedByRule 89 = .ok (.lload 5, 2) := by decide +kernel
theorem dX0_roundedByRule_91 : decode cX0_roundedByRule 91 = .ok (.goto 7, 3) := by decide +kernel
theorem dX0_roundedByRule_94 : decode cX0_roundedByRule 94 = .ok (.lload 5, 2) := by decide +kernel
theorem dX0_roundedByRule_96 : decode cX0_roundedByRule 96 = .ok (.lconst 1, 1) := by decide +kernel
theorem dX0_roundedByRule_97 : decode cX0_roundedByRule 97 = .ok (.ladd, 1) := by decide +kernel
theorem dX0_roundedByRule_98 : decode cX0_roundedByRule 98 = .ok (.lreturn, 1) := by decide +kernel
theorem dJ_floorDiv_0 : decode cJ_floorDiv 0 = .ok (.lload_n 0, 1) := by decide +kernel
theorem dJ_floorDiv_1 : decode cJ_floorDiv 1 = .ok (.lload_n 2, 1) := by decide +kernel
theorem dJ_floorDiv_2 : decode cJ_floorDiv 2 = .ok (.ldiv, 1) := by decide +kernel
theorem dJ_floorDiv_3 : decode cJ_floorDiv 3 = .ok (.lstore 4, 2) := by decide +kernel
theorem dJ_floorDiv_5 : decode cJ_floorDiv 5 = .ok (.lload_n 0, 1) := by decide +kernel
theorem dJ_floorDiv_6 : decode cJ_floorDiv 6 = .ok (.lload_n 2, 1) := by decide +kernel
theorem dJ_floorDiv_7 : decode cJ_floorDiv 7 = .ok (.lxor, 1) := by decide +kernel
theorem dJ_floorDiv_8 : decode cJ_floorDiv 8 = .ok (.lconst 0, 1) := by decide +kernel
theorem dJ_floorDiv_9 : decode cJ_floorDiv 9 = .ok (.lcmp, 1) := by decide +kernel
theorem dJ_floorDiv_10 : decode cJ_floorDiv 10 = .ok (.ifCond .ge 17, 3) := by decide +kernel
theorem dJ_floorDiv_13 : decode cJ_floorDiv 13 = .ok (.lload 4, 2) := by decide +kernel
theorem dJ_floorDiv_15 : decode cJ_floorDiv 15 = .ok (.lload_n 2, 1) := by decide +kernel
theorem dJ_floorDiv_16 : decode cJ_floorDiv 16 = .ok (.lmul, 1) := by decide +kernel
theorem dJ_floorDiv_17 : decode cJ_floorDiv 17 = .ok (.lload_n 0, 1) := by decide +kernel
theorem dJ_floorDiv_18 : decode cJ_floorDiv 18 = .ok (.lcmp, 1) := by decide +kernel
theorem dJ_floorDiv_19 : decode cJ_floorDiv 19 = .ok (.ifCond .eq 8, 3) := by decide +kernel
theorem dJ_floorDiv_22 : decode cJ_floorDiv 22 = .ok (.lload 4, 2) := by decide +kernel
theorem dJ_floorDiv_24 : decode cJ_floorDiv 24 = .ok (.lconst 1, 1) := by decide +kernel
theorem dJ_floorDiv_25 : decode cJ_floorDiv 25 = .ok (.lsub, 1) := by decide +kernel
theorem dJ_floorDiv_26 : decode cJ_floorDiv 26 = .ok (.lreturn, 1) := by decide +kernel
theorem dJ_floorDiv_27 : decode cJ_floorDiv 27 = .ok (.lload 4, 2) := by decide +kernel
theorem dJ_floorDiv_29 : decode cJ_floorDiv 29 = .ok (.lreturn, 1) := by decide +kernel
theorem dL_round_0 : decode cL_round 0 = .ok (.aload 6, 2) := by decide +kernel
theorem dL_round_2 : decode cL_round 2 = .ok (.iconst 0, 1) := by decide +kernel
theorem dL_round_3 : decode cL_round 3 = .ok (.aload_n 0, 1) := by decide +kernel
theorem dL_round_4 : decode cL_round 4 = .ok (.lload_n 1, 1) := by decide +kernel
theorem dL_round_5 : decode cL_round 5 = .ok (.lload_n 3, 1) := by decide +kernel
theorem dL_round_6 : decode cL_round 6 = .ok (.iload 5, 2) := by decide +kernel
theorem dL_round_8 : decode cL_round 8 = .ok (.invokevirtual 52, 3) := by decide +kernel
theorem dL_round_11 : decode cL_round 11 = .ok (.lastore, 1) := by decide +kernel
theorem dL_round_12 : decode cL_round 12 = .ok (.goto 11, 3) := by decide +kernel
theorem dL_round_15 : decode cL_round 15 = .ok (.astore 7, 2) := by decide +kernel
theorem dL_round_17 : decode cL_round 17 = .ok (.iconst 1, 1) := by decide +kernel
theorem dL_round_18 : decode cL_round 18 = .ok (.ireturn, 1) := by decide +kernel
theorem dL_round_19 : decode cL_round 19 = .ok (.astore 7, 2) := by decide +kernel
theorem dL_round_21 : decode cL_round 21 = .ok (.iconst 2, 1) := by decide +kernel
theorem dL_round_22 : decode cL_round 22 = .ok (.ireturn, 1) := by decide +kernel
theorem dL_round_23 : decode cL_round 23 = .ok (.iconst 0, 1) := by decide +kernel
theorem dL_round_24 : decode cL_round 24 = .ok (.ireturn, 1) := by decide +kernel
theorem dX0_round_0 : decode cX0_round 0 = .ok (.iload 5, 2) := by decide +kernel
theorem dX0_round_2 : decode cX0_round 2 = .ok (.invokestatic 142, 3) := by decide +kernel
theorem dX0_round_5 : decode cX0_round 5 = .ok (.lload_n 3, 1) := by decide +kernel
end
section
theorem dX0_round_6 : decode cX0_round 6 = .ok (.lconst 1, 1) := by decide +kernel
theorem dX0_round_7 : decode cX0_round 7 = .ok (.lcmp, 1) := by decide +kernel
theorem dX0_round_8 : decode cX0_round 8 = .ok (.ifCond .lt 11, 3) := by decide +kernel
theorem dX0_round_11 : decode cX0_round 11 = .ok (.lload_n 3, 1) := by decide +kernel
theorem dX0_round_12 : decode cX0_round 12 = .ok (.ldc2_w 155, 3) := by decide +kernel
theorem dX0_round_15 : decode cX0_round 15 = .ok (.lcmp, 1) := by decide +kernel
theorem dX0_round_16 : decode cX0_round 16 = .ok (.ifCond .le 13, 3) := by decide +kernel
theorem dX0_round_19 : decode cX0_round 19 = .ok (.new 27, 3) := by decide +kernel
theorem dX0_round_22 : decode cX0_round 22 = .ok (.dup, 1) := by decide +kernel
theorem dX0_round_23 : decode cX0_round 23 = .ok (.ldc 157, 2) := by decide +kernel
theorem dX0_round_25 : decode cX0_round 25 = .ok (.invokespecial 31, 3) := by decide +kernel
theorem dX0_round_28 : decode cX0_round 28 = .ok (.athrow, 1) := by decide +kernel
theorem dX0_round_29 : decode cX0_round 29 = .ok (.lload_n 1, 1) := by decide +kernel
theorem dX0_round_30 : decode cX0_round 30 = .ok (.ldc2_w 159, 3) := by decide +kernel
theorem dX0_round_33 : decode cX0_round 33 = .ok (.lcmp, 1) := by decide +kernel
theorem dX0_round_34 : decode cX0_round 34 = .ok (.ifCond .lt 11, 3) := by decide +kernel
theorem dX0_round_37 : decode cX0_round 37 = .ok (.lload_n 1, 1) := by decide +kernel
theorem dX0_round_38 : decode cX0_round 38 = .ok (.ldc2_w 155, 3) := by decide +kernel
theorem dX0_round_41 : decode cX0_round 41 = .ok (.lcmp, 1) := by decide +kernel
theorem dX0_round_42 : decode cX0_round 42 = .ok (.ifCond .le 13, 3) := by decide +kernel
theorem dX0_round_45 : decode cX0_round 45 = .ok (.new 27, 3) := by decide +kernel
theorem dX0_round_48 : decode cX0_round 48 = .ok (.dup, 1) := by decide +kernel
theorem dX0_round_49 : decode cX0_round 49 = .ok (.ldc 161, 2) := by decide +kernel
theorem dX0_round_51 : decode cX0_round 51 = .ok (.invokespecial 31, 3) := by decide +kernel
theorem dX0_round_54 : decode cX0_round 54 = .ok (.athrow, 1) := by decide +kernel
theorem dX0_round_55 : decode cX0_round 55 = .ok (.lload_n 1, 1) := by decide +kernel
theorem dX0_round_56 : decode cX0_round 56 = .ok (.lload_n 3, 1) := by decide +kernel
theorem dX0_round_57 : decode cX0_round 57 = .ok (.iload 5, 2) := by decide +kernel
theorem dX0_round_59 : decode cX0_round 59 = .ok (.invokestatic 152, 3) := by decide +kernel
theorem dX0_round_62 : decode cX0_round 62 = .ok (.lreturn, 1) := by decide +kernel
theorem dL_machine_0 : decode cL_machine 0 = .ok (.aload_n 3, 1) := by decide +kernel
theorem dL_machine_1 : decode cL_machine 1 = .ok (.iconst 0, 1) := by decide +kernel
theorem dL_machine_2 : decode cL_machine 2 = .ok (.aload_n 0, 1) := by decide +kernel
theorem dL_machine_3 : decode cL_machine 3 = .ok (.iload_n 1, 1) := by decide +kernel
theorem dL_machine_4 : decode cL_machine 4 = .ok (.iload_n 2, 1) := by decide +kernel
theorem dL_machine_5 : decode cL_machine 5 = .ok (.invokevirtual 56, 3) := by decide +kernel
theorem dL_machine_8 : decode cL_machine 8 = .ok (.ifCond .eq 7, 3) := by decide +kernel
theorem dL_machine_11 : decode cL_machine 11 = .ok (.lconst 1, 1) := by decide +kernel
theorem dL_machine_12 : decode cL_machine 12 = .ok (.goto 4, 3) := by decide +kernel
theorem dL_machine_15 : decode cL_machine 15 = .ok (.lconst 0, 1) := by decide +kernel
theorem dL_machine_16 : decode cL_machine 16 = .ok (.lastore, 1) := by decide +kernel
theorem dL_machine_17 : decode cL_machine 17 = .ok (.goto 7, 3) := by decide +kernel
theorem dL_machine_20 : decode cL_machine 20 = .ok (.astore 4, 2) := by decide +kernel
theorem dL_machine_22 : decode cL_machine 22 = .ok (.iconst 1, 1) := by decide +kernel
theorem dL_machine_23 : decode cL_machine 23 = .ok (.ireturn, 1) := by decide +kernel
theorem dL_machine_24 : decode cL_machine 24 = .ok (.iconst 0, 1) := by decide +kernel
theorem dL_machine_25 : decode cL_machine 25 = .ok (.ireturn, 1) := by decide +kernel
theorem dX0_machine_0 : decode cX0_machine 0 = .ok (.iload_n 1, 1) := by decide +kernel
theorem dX0_machine_1 : decode cX0_machine 1 = .ok (.iconst 1, 1) := by decide +kernel
theorem dX0_machine_2 : decode cX0_machine 2 = .ok (.ldc 22, 2) := by decide +kernel
theorem dX0_machine_4 : decode cX0_machine 4 = .ok (.invokestatic 23, 3) := by decide +kernel
theorem dX0_machine_7 : decode cX0_machine 7 = .ok (.ifCond .eq 13, 3) := by decide +kernel
theorem dX0_machine_10 : decode cX0_machine 10 = .ok (.iload_n 2, 1) := by decide +kernel
theorem dX0_machine_11 : decode cX0_machine 11 = .ok (.iconst 1, 1) := by decide +kernel
theorem dX0_machine_12 : decode cX0_machine 12 = .ok (.ldc 22, 2) := by decide +kernel
theorem dX0_machine_14 : decode cX0_machine 14 = .ok (.invokestatic 23, 3) := by decide +kernel
theorem dX0_machine_17 : decode cX0_machine 17 = .ok (.ifCond .ne 13, 3) := by decide +kernel
theorem dX0_machine_20 : decode cX0_machine 20 = .ok (.new 27, 3) := by decide +kernel
theorem dX0_machine_23 : decode cX0_machine 23 = .ok (.dup, 1) := by decide +kernel
theorem dX0_machine_24 : decode cX0_machine 24 = .ok (.ldc 163, 2) := by decide +kernel
theorem dX0_machine_26 : decode cX0_machine 26 = .ok (.invokespecial 31, 3) := by decide +kernel
theorem dX0_machine_29 : decode cX0_machine 29 = .ok (.athrow, 1) := by decide +kernel
theorem dX0_machine_30 : decode cX0_machine 30 = .ok (.aload_n 0, 1) := by decide +kernel
theorem dX0_machine_31 : decode cX0_machine 31 = .ok (.iload_n 1, 1) := by decide +kernel
theorem dX0_machine_32 : decode cX0_machine 32 = .ok (.iload_n 2, 1) := by decide +kernel
theorem dX0_machine_33 : decode cX0_machine 33 = .ok (.isub, 1) := by decide +kernel
theorem dX0_machine_34 : decode cX0_machine 34 = .ok (.invokestatic 165, 3) := by decide +kernel
theorem dX0_machine_37 : decode cX0_machine 37 = .ok (.bipush 100, 2) := by decide +kernel
theorem dX0_machine_39 : decode cX0_machine 39 = .ok (.imul, 1) := by decide +kernel
theorem dX0_machine_40 : decode cX0_machine 40 = .ok (.iload_n 1, 1) := by decide +kernel
theorem dX0_machine_41 : decode cX0_machine 41 = .ok (.if_icmp .le 7, 3) := by decide +kernel
theorem dX0_machine_44 : decode cX0_machine 44 = .ok (.iconst 1, 1) := by decide +kernel
theorem dX0_machine_45 : decode cX0_machine 45 = .ok (.goto 4, 3) := by decide +kernel
theorem dX0_machine_48 : decode cX0_machine 48 = .ok (.iconst 0, 1) := by decide +kernel
theorem dX0_machine_49 : decode cX0_machine 49 = .ok (.putfield 170, 3) := by decide +kernel
theorem dX0_machine_52 : decode cX0_machine 52 = .ok (.aload_n 0, 1) := by decide +kernel
theorem dX0_machine_53 : decode cX0_machine 53 = .ok (.getfield 170, 3) := by decide +kernel
theorem dX0_machine_56 : decode cX0_machine 56 = .ok (.ireturn, 1) := by decide +kernel
theorem dX1_init_0 : decode cX1_init 0 = .ok (.aload_n 0, 1) := by decide +kernel
theorem dX1_init_1 : decode cX1_init 1 = .ok (.invokespecial 1, 3) := by decide +kernel
theorem dX1_init_4 : decode cX1_init 4 = .ok (.aload_n 0, 1) := by decide +kernel
theorem dX1_init_5 : decode cX1_init 5 = .ok (.bipush 40, 2) := by decide +kernel
theorem dX1_init_7 : decode cX1_init 7 = .ok (.newarray .int, 2) := by decide +kernel
theorem dX1_init_9 : decode cX1_init 9 = .ok (.putfield 7, 3) := by decide +kernel
theorem dX1_init_12 : decode cX1_init 12 = .ok (.aload_n 0, 1) := by decide +kernel
theorem dX1_init_13 : decode cX1_init 13 = .ok (.bipush 40, 2) := by decide +kernel
theorem dX1_init_15 : decode cX1_init 15 = .ok (.newarray .int, 2) := by decide +kernel
theorem dX1_init_17 : decode cX1_init 17 = .ok (.putfield 13, 3) := by decide +kernel
theorem dX1_init_20 : decode cX1_init 20 = .ok (.aload_n 0, 1) := by decide +kernel
theorem dX1_init_21 : decode cX1_init 21 = .ok (.bipush 8, 2) := by decide +kernel
theorem dX1_init_23 : decode cX1_init 23 = .ok (.newarray .int, 2) := by decide +kernel
theorem dX1_init_25 : decode cX1_init 25 = .ok (.putfield 16, 3) := by decide +kernel
theorem dX1_init_28 : decode cX1_init 28 = .ok (.aload_n 0, 1) := by decide +kernel
theorem dX1_init_29 : decode cX1_init 29 = .ok (.bipush 8, 2) := by decide +kernel
theorem dX1_init_31 : decode cX1_init 31 = .ok (.newarray .int, 2) := by decide +kernel
theorem dX1_init_33 : decode cX1_init 33 = .ok (.putfield 19, 3) := by decide +kernel
theorem dX1_init_36 : decode cX1_init 36 = .ok (.aload_n 0, 1) := by decide +kernel
theorem dX1_init_37 : decode cX1_init 37 = .ok (.bipush 8, 2) := by decide +kernel
theorem dX1_init_39 : decode cX1_init 39 = .ok (.newarray .int, 2) := by decide +kernel
theorem dX1_init_41 : decode cX1_init 41 = .ok (.putfield 22, 3) := by decide +kernel
theorem dX1_init_44 : decode cX1_init 44 = .ok (.aload_n 0, 1) := by decide +kernel
theorem dX1_init_45 : decode cX1_init 45 = .ok (.bipush 8, 2) := by decide +kernel
theorem dX1_init_47 : decode cX1_init 47 = .ok (.newarray .int, 2) := by decide +kernel
theorem dX1_init_49 : decode cX1_init 49 = .ok (.putfield 25, 3) := by decide +kernel
theorem dX1_init_52 : decode cX1_init 52 = .ok (.return_, 1) := by decide +kernel
theorem dX1_thrown_0 : decode cX1_thrown 0 = .ok (.aload_n 0, 1) := by decide +kernel
theorem dX1_thrown_1 : decode cX1_thrown 1 = .ok (.getfield 28, 3) := by decide +kernel
theorem dX1_thrown_4 : decode cX1_thrown 4 = .ok (.ireturn, 1) := by decide +kernel
theorem dX1_row_0 : decode cX1_row 0 = .ok (.iload_n 1, 1) := by decide +kernel
theorem dX1_row_1 : decode cX1_row 1 = .ok (.iconst 0, 1) := by decide +kernel
theorem dX1_row_2 : decode cX1_row 2 = .ok (.ldc 39, 2) := by decide +kernel
theorem dX1_row_4 : decode cX1_row 4 = .ok (.invokestatic 40, 3) := by decide +kernel
theorem dX1_row_7 : decode cX1_row 7 = .ok (.ifCond .eq 39, 3) := by decide +kernel
theorem dX1_row_10 : decode cX1_row 10 = .ok (.iload_n 2, 1) := by decide +kernel
theorem dX1_row_11 : decode cX1_row 11 = .ok (.iconst 0, 1) := by decide +kernel
theorem dX1_row_12 : decode cX1_row 12 = .ok (.ldc 39, 2) := by decide +kernel
theorem dX1_row_14 : decode cX1_row 14 = .ok (.invokestatic 40, 3) := by decide +kernel
theorem dX1_row_17 : decode cX1_row 17 = .ok (.ifCond .eq 29, 3) := by decide +kernel
theorem dX1_row_20 : decode cX1_row 20 = .ok (.aload_n 0, 1) := by decide +kernel
theorem dX1_row_21 : decode cX1_row 21 = .ok (.getfield 44, 3) := by decide +kernel
theorem dX1_row_24 : decode cX1_row 24 = .ok (.ifCond .eq 18, 3) := by decide +kernel
theorem dX1_row_27 : decode cX1_row 27 = .ok (.iload_n 1, 1) := by decide +kernel
theorem dX1_row_28 : decode cX1_row 28 = .ok (.aload_n 0, 1) := by decide +kernel
theorem dX1_row_29 : decode cX1_row 29 = .ok (.getfield 7, 3) := by decide +kernel
theorem dX1_row_32 : decode cX1_row 32 = .ok (.aload_n 0, 1) := by decide +kernel
theorem dX1_row_33 : decode cX1_row 33 = .ok (.getfield 44, 3) := by decide +kernel
theorem dX1_row_36 : decode cX1_row 36 = .ok (.iconst 1, 1) := by decide +kernel
theorem dX1_row_37 : decode cX1_row 37 = .ok (.isub, 1) := by decide +kernel
theorem dX1_row_38 : decode cX1_row 38 = .ok (.iaload, 1) := by decide +kernel
theorem dX1_row_39 : decode cX1_row 39 = .ok (.if_icmp .le 7, 3) := by decide +kernel
theorem dX1_row_42 : decode cX1_row 42 = .ok (.iconst 1, 1) := by decide +kernel
theorem dX1_row_43 : decode cX1_row 43 = .ok (.goto 4, 3) := by decide +kernel
theorem dX1_row_46 : decode cX1_row 46 = .ok (.iconst 0, 1) := by decide +kernel
theorem dX1_row_47 : decode cX1_row 47 = .ok (.istore_n 3, 1) := by decide +kernel
theorem dX1_row_48 : decode cX1_row 48 = .ok (.aload_n 0, 1) := by decide +kernel
theorem dX1_row_49 : decode cX1_row 49 = .ok (.iload_n 3, 1) := by decide +kernel
theorem dX1_row_50 : decode cX1_row 50 = .ok (.aload_n 0, 1) := by decide +kernel
theorem dX1_row_51 : decode cX1_row 51 = .ok (.getfield 44, 3) := by decide +kernel
theorem dX1_row_54 : decode cX1_row 54 = .ok (.bipush 40, 2) := by decide +kernel
theorem dX1_row_56 : decode cX1_row 56 = .ok (.if_icmp .ge 7, 3) := by decide +kernel
theorem dX1_row_59 : decode cX1_row 59 = .ok (.iconst 1, 1) := by decide +kernel
theorem dX1_row_60 : decode cX1_row 60 = .ok (.goto 4, 3) := by decide +kernel
theorem dX1_row_63 : decode cX1_row 63 = .ok (.iconst 0, 1) := by decide +kernel
theorem dX1_row_64 : decode cX1_row 64 = .ok (.iconst 1, 1) := by decide +kernel
theorem dX1_row_65 : decode cX1_row 65 = .ok (.iconst 1, 1) := by decide +kernel
theorem dX1_row_66 : decode cX1_row 66 = .ok (.invokevirtual 47, 3) := by decide +kernel
theorem dX1_row_69 : decode cX1_row 69 = .ok (.ifCond .ne 5, 3) := by decide +kernel
theorem dX1_row_72 : decode cX1_row 72 = .ok (.iconst 0, 1) := by decide +kernel
theorem dX1_row_73 : decode cX1_row 73 = .ok (.ireturn, 1) := by decide +kernel
theorem dX1_row_74 : decode cX1_row 74 = .ok (.aload_n 0, 1) := by decide +kernel
theorem dX1_row_75 : decode cX1_row 75 = .ok (.getfield 7, 3) := by decide +kernel
theorem dX1_row_78 : decode cX1_row 78 = .ok (.aload_n 0, 1) := by decide +kernel
theorem dX1_row_79 : decode cX1_row 79 = .ok (.getfield 44, 3) := by decide +kernel
theorem dX1_row_82 : decode cX1_row 82 = .ok (.iload_n 1, 1) := by decide +kernel
theorem dX1_row_83 : decode cX1_row 83 = .ok (.iastore, 1) := by decide +kernel
theorem dX1_row_84 : decode cX1_row 84 = .ok (.aload_n 0, 1) := by decide +kernel
theorem dX1_row_85 : decode cX1_row 85 = .ok (.getfield 13, 3) := by decide +kernel
theorem dX1_row_88 : decode cX1_row 88 = .ok (.aload_n 0, 1) := by decide +kernel
theorem dX1_row_89 : decode cX1_row 89 = .ok (.getfield 44, 3) := by decide +kernel
theorem dX1_row_92 : decode cX1_row 92 = .ok (.iload_n 2, 1) := by decide +kernel
theorem dX1_row_93 : decode cX1_row 93 = .ok (.iastore, 1) := by decide +kernel
theorem dX1_row_94 : decode cX1_row 94 = .ok (.aload_n 0, 1) := by decide +kernel
theorem dX1_row_95 : decode cX1_row 95 = .ok (.dup, 1) := by decide +kernel
theorem dX1_row_96 : decode cX1_row 96 = .ok (.getfield 44, 3) := by decide +kernel
theorem dX1_row_99 : decode cX1_row 99 = .ok (.iconst 1, 1) := by decide +kernel
theorem dX1_row_100 : decode cX1_row 100 = .ok (.iadd, 1) := by decide +kernel
theorem dX1_row_101 : decode cX1_row 101 = .ok (.putfield 44, 3) := by decide +kernel
theorem dX1_row_104 : decode cX1_row 104 = .ok (.aload_n 0, 1) := by decide +kernel
theorem dX1_row_105 : decode cX1_row 105 = .ok (.getfield 44, 3) := by decide +kernel
theorem dX1_row_108 : decode cX1_row 108 = .ok (.ireturn, 1) := by decide +kernel
theorem dX1_in_0 : decode cX1_in 0 = .ok (.iload_n 0, 1) := by decide +kernel
theorem dX1_in_1 : decode cX1_in 1 = .ok (.iload_n 1, 1) := by decide +kernel
theorem dX1_in_2 : decode cX1_in 2 = .ok (.if_icmp .lt 12, 3) := by decide +kernel
theorem dX1_in_5 : decode cX1_in 5 = .ok (.iload_n 0, 1) := by decide +kernel
theorem dX1_in_6 : decode cX1_in 6 = .ok (.iload_n 2, 1) := by decide +kernel
theorem dX1_in_7 : decode cX1_in 7 = .ok (.if_icmp .gt 7, 3) := by decide +kernel
theorem dX1_in_10 : decode cX1_in 10 = .ok (.iconst 1, 1) := by decide +kernel
theorem dX1_in_11 : decode cX1_in 11 = .ok (.goto 4, 3) := by decide +kernel
theorem dX1_in_14 : decode cX1_in 14 = .ok (.iconst 0, 1) := by decide +kernel
theorem dX1_in_15 : decode cX1_in 15 = .ok (.ireturn, 1) := by decide +kernel
theorem dX1_goes_0 : decode cX1_goes 0 = .ok (.aload_n 0, 1) := by decide +kernel
theorem dX1_goes_1 : decode cX1_goes 1 = .ok (.iload_n 1, 1) := by decide +kernel
theorem dX1_goes_2 : decode cX1_goes 2 = .ok (.ifCond .ne 7, 3) := by decide +kernel
theorem dX1_goes_5 : decode cX1_goes 5 = .ok (.iconst 1, 1) := by decide +kernel
theorem dX1_goes_6 : decode cX1_goes 6 = .ok (.goto 29, 3) := by decide +kernel
theorem dX1_goes_9 : decode cX1_goes 9 = .ok (.iload_n 2, 1) := by decide +kernel
theorem dX1_goes_10 : decode cX1_goes 10 = .ok (.ifCond .ne 7, 3) := by decide +kernel
theorem dX1_goes_13 : decode cX1_goes 13 = .ok (.iconst 2, 1) := by decide +kernel
theorem dX1_goes_14 : decode cX1_goes 14 = .ok (.goto 21, 3) := by decide +kernel
theorem dX1_goes_17 : decode cX1_goes 17 = .ok (.iload_n 3, 1) := by decide +kernel
theorem dX1_goes_18 : decode cX1_goes 18 = .ok (.ifCond .ne 7, 3) := by decide +kernel
theorem dX1_goes_21 : decode cX1_goes 21 = .ok (.iconst 3, 1) := by decide +kernel
theorem dX1_goes_22 : decode cX1_goes 22 = .ok (.goto 13, 3) := by decide +kernel
theorem dX1_goes_25 : decode cX1_goes 25 = .ok (.iload 4, 2) := by decide +kernel
theorem dX1_goes_27 : decode cX1_goes 27 = .ok (.ifCond .ne 7, 3) := by decide +kernel
theorem dX1_goes_30 : decode cX1_goes 30 = .ok (.iconst 4, 1) := by decide +kernel
theorem dX1_goes_31 : decode cX1_goes 31 = .ok (.goto 4, 3) := by decide +kernel
theorem dX1_goes_34 : decode cX1_goes 34 = .ok (.iconst 0, 1) := by decide +kernel
theorem dX1_goes_35 : decode cX1_goes 35 = .ok (.putfield 28, 3) := by decide +kernel
theorem dX1_goes_38 : decode cX1_goes 38 = .ok (.aload_n 0, 1) := by decide +kernel
theorem dX1_goes_39 : decode cX1_goes 39 = .ok (.getfield 28, 3) := by decide +kernel
theorem dX1_goes_42 : decode cX1_goes 42 = .ok (.ifCond .ne 7, 3) := by decide +kernel
theorem dX1_goes_45 : decode cX1_goes 45 = .ok (.iconst 1, 1) := by decide +kernel
theorem dX1_goes_46 : decode cX1_goes 46 = .ok (.goto 4, 3) := by decide +kernel
theorem dX1_goes_49 : decode cX1_goes 49 = .ok (.iconst 0, 1) := by decide +kernel
theorem dX1_goes_50 : decode cX1_goes 50 = .ok (.ireturn, 1) := by decide +kernel
theorem dX1_section_0 : decode cX1_section 0 = .ok (.aload_n 0, 1) := by decide +kernel
theorem dX1_section_1 : decode cX1_section 1 = .ok (.iload_n 1, 1) := by decide +kernel
theorem dX1_section_2 : decode cX1_section 2 = .ok (.iconst 1, 1) := by decide +kernel
theorem dX1_section_3 : decode cX1_section 3 = .ok (.sipush 10000, 3) := by decide +kernel
theorem dX1_section_6 : decode cX1_section 6 = .ok (.invokestatic 40, 3) := by decide +kernel
theorem dX1_section_9 : decode cX1_section 9 = .ok (.ifCond .eq 17, 3) := by decide +kernel
theorem dX1_section_12 : decode cX1_section 12 = .ok (.iload_n 2, 1) := by decide +kernel
theorem dX1_section_13 : decode cX1_section 13 = .ok (.iconst 0, 1) := by decide +kernel
theorem dX1_section_14 : decode cX1_section 14 = .ok (.ldc 39, 2) := by decide +kernel
theorem dX1_section_16 : decode cX1_section 16 = .ok (.invokestatic 40, 3) := by decide +kernel
theorem dX1_section_19 : decode cX1_section 19 = .ok (.ifCond .eq 7, 3) := by decide +kernel
theorem dX1_section_22 : decode cX1_section 22 = .ok (.iconst 1, 1) := by decide +kernel
theorem dX1_section_23 : decode cX1_section 23 = .ok (.goto 4, 3) := by decide +kernel
theorem dX1_section_26 : decode cX1_section 26 = .ok (.iconst 0, 1) := by decide +kernel
theorem dX1_section_27 : decode cX1_section 27 = .ok (.iconst 1, 1) := by decide +kernel
theorem dX1_section_28 : decode cX1_section 28 = .ok (.iconst 1, 1) := by decide +kernel
theorem dX1_section_29 : decode cX1_section 29 = .ok (.iconst 1, 1) := by decide +kernel
theorem dX1_section_30 : decode cX1_section 30 = .ok (.invokevirtual 47, 3) := by decide +kernel
theorem dX1_section_33 : decode cX1_section 33 = .ok (.ifCond .ne 4, 3) := by decide +kernel
theorem dX1_section_36 : decode cX1_section 36 = .ok (.return_, 1) := by decide +kernel
theorem dX1_section_37 : decode cX1_section 37 = .ok (.aload_n 0, 1) := by decide +kernel
theorem dX1_section_38 : decode cX1_section 38 = .ok (.iload_n 1, 1) := by decide +kernel
theorem dX1_section_39 : decode cX1_section 39 = .ok (.putfield 51, 3) := by decide +kernel
theorem dX1_section_42 : decode cX1_section 42 = .ok (.aload_n 0, 1) := by decide +kernel
theorem dX1_section_43 : decode cX1_section 43 = .ok (.iload_n 2, 1) := by decide +kernel
theorem dX1_section_44 : decode cX1_section 44 = .ok (.putfield 54, 3) := by decide +kernel
theorem dX1_section_47 : decode cX1_section 47 = .ok (.return_, 1) := by decide +kernel
theorem dX1_slope_0 : decode cX1_slope 0 = .ok (.iconst (-1), 1) := by decide +kernel
theorem dX1_slope_1 : decode cX1_slope 1 = .ok (.istore 4, 2) := by decide +kernel
theorem dX1_slope_3 : decode cX1_slope 3 = .ok (.iconst (-1), 1) := by decide +kernel
theorem dX1_slope_4 : decode cX1_slope 4 = .ok (.istore 5, 2) := by decide +kernel
theorem dX1_slope_6 : decode cX1_slope 6 = .ok (.iconst 0, 1) := by decide +kernel
theorem dX1_slope_7 : decode cX1_slope 7 = .ok (.istore 6, 2) := by decide +kernel
theorem dX1_slope_9 : decode cX1_slope 9 = .ok (.iload 6, 2) := by decide +kernel
theorem dX1_slope_11 : decode cX1_slope 11 = .ok (.aload_n 0, 1) := by decide +kernel
theorem dX1_slope_12 : decode cX1_slope 12 = .ok (.getfield 44, 3) := by decide +kernel
theorem dX1_slope_15 : decode cX1_slope 15 = .ok (.if_icmp .ge 47, 3) := by decide +kernel
theorem dX1_slope_18 : decode cX1_slope 18 = .ok (.aload_n 0, 1) := by decide +kernel
theorem dX1_slope_19 : decode cX1_slope 19 = .ok (.getfield 7, 3) := by decide +kernel
theorem dX1_slope_22 : decode cX1_slope 22 = .ok (.iload 6, 2) := by decide +kernel
theorem dX1_slope_24 : decode cX1_slope 24 = .ok (.iaload, 1) := by decide +kernel
theorem dX1_slope_25 : decode cX1_slope 25 = .ok (.iload_n 1, 1) := by decide +kernel
theorem dX1_slope_26 : decode cX1_slope 26 = .ok (.if_icmp .lt 30, 3) := by decide +kernel
theorem dX1_slope_29 : decode cX1_slope 29 = .ok (.aload_n 0, 1) := by decide +kernel
theorem dX1_slope_30 : decode cX1_slope 30 = .ok (.getfield 7, 3) := by decide +kernel
theorem dX1_slope_33 : decode cX1_slope 33 = .ok (.iload 6, 2) := by decide +kernel
theorem dX1_slope_35 : decode cX1_slope 35 = .ok (.iaload, 1) := by decide +kernel
theorem dX1_slope_36 : decode cX1_slope 36 = .ok (.iload_n 2, 1) := by decide +kernel
theorem dX1_slope_37 : decode cX1_slope 37 = .ok (.if_icmp .le 6, 3) := by decide +kernel
theorem dX1_slope_40 : decode cX1_slope 40 = .ok (.goto 16, 3) := by decide +kernel
theorem dX1_slope_43 : decode cX1_slope 43 = .ok (.iload 4, 2) := by decide +kernel
theorem dX1_slope_45 : decode cX1_slope 45 = .ok (.ifCond .ge 7, 3) := by decide +kernel
theorem dX1_slope_48 : decode cX1_slope 48 = .ok (.iload 6, 2) := by decide +kernel
theorem dX1_slope_50 : decode cX1_slope 50 = .ok (.istore 4, 2) := by decide +kernel
theorem dX1_slope_52 : decode cX1_slope 52 = .ok (.iload 6, 2) := by decide +kernel
theorem dX1_slope_54 : decode cX1_slope 54 = .ok (.istore 5, 2) := by decide +kernel
theorem dX1_slope_56 : decode cX1_slope 56 = .ok (.iinc 6 1, 3) := by decide +kernel
theorem dX1_slope_59 : decode cX1_slope 59 = .ok (.goto (-50), 3) := by decide +kernel
theorem dX1_slope_62 : decode cX1_slope 62 = .ok (.aload_n 0, 1) := by decide +kernel
theorem dX1_slope_63 : decode cX1_slope 63 = .ok (.iload_n 3, 1) := by decide +kernel
theorem dX1_slope_64 : decode cX1_slope 64 = .ok (.iconst 0, 1) := by decide +kernel
theorem dX1_slope_65 : decode cX1_slope 65 = .ok (.iconst 1, 1) := by decide +kernel
theorem dX1_slope_66 : decode cX1_slope 66 = .ok (.invokestatic 40, 3) := by decide +kernel
theorem dX1_slope_69 : decode cX1_slope 69 = .ok (.iload_n 1, 1) := by decide +kernel
theorem dX1_slope_70 : decode cX1_slope 70 = .ok (.iconst 0, 1) := by decide +kernel
theorem dX1_slope_71 : decode cX1_slope 71 = .ok (.ldc 39, 2) := by decide +kernel
theorem dX1_slope_73 : decode cX1_slope 73 = .ok (.invokestatic 40, 3) := by decide +kernel
theorem dX1_slope_76 : decode cX1_slope 76 = .ok (.ifCond .eq 22, 3) := by decide +kernel
theorem dX1_slope_79 : decode cX1_slope 79 = .ok (.iload_n 2, 1) := by decide +kernel
theorem dX1_slope_80 : decode cX1_slope 80 = .ok (.iconst 0, 1) := by decide +kernel
theorem dX1_slope_81 : decode cX1_slope 81 = .ok (.ldc 39, 2) := by decide +kernel
theorem dX1_slope_83 : decode cX1_slope 83 = .ok (.invokestatic 40, 3) := by decide +kernel
theorem dX1_slope_86 : decode cX1_slope 86 = .ok (.ifCond .eq 12, 3) := by decide +kernel
theorem dX1_slope_89 : decode cX1_slope 89 = .ok (.iload_n 1, 1) := by decide +kernel
theorem dX1_slope_90 : decode cX1_slope 90 = .ok (.iload_n 2, 1) := by decide +kernel
theorem dX1_slope_91 : decode cX1_slope 91 = .ok (.if_icmp .ge 7, 3) := by decide +kernel
theorem dX1_slope_94 : decode cX1_slope 94 = .ok (.iconst 1, 1) := by decide +kernel
theorem dX1_slope_95 : decode cX1_slope 95 = .ok (.goto 4, 3) := by decide +kernel
theorem dX1_slope_98 : decode cX1_slope 98 = .ok (.iconst 0, 1) := by decide +kernel
theorem dX1_slope_99 : decode cX1_slope 99 = .ok (.iload 5, 2) := by decide +kernel
theorem dX1_slope_101 : decode cX1_slope 101 = .ok (.iload 4, 2) := by decide +kernel
theorem dX1_slope_103 : decode cX1_slope 103 = .ok (.if_icmp .le 7, 3) := by decide +kernel
theorem dX1_slope_106 : decode cX1_slope 106 = .ok (.iconst 1, 1) := by decide +kernel
theorem dX1_slope_107 : decode cX1_slope 107 = .ok (.goto 4, 3) := by decide +kernel
theorem dX1_slope_110 : decode cX1_slope 110 = .ok (.iconst 0, 1) := by decide +kernel
theorem dX1_slope_111 : decode cX1_slope 111 = .ok (.iconst 1, 1) := by decide +kernel
theorem dX1_slope_112 : decode cX1_slope 112 = .ok (.invokevirtual 47, 3) := by decide +kernel
theorem dX1_slope_115 : decode cX1_slope 115 = .ok (.ifCond .ne 5, 3) := by decide +kernel
theorem dX1_slope_118 : decode cX1_slope 118 = .ok (.lconst 0, 1) := by decide +kernel
theorem dX1_slope_119 : decode cX1_slope 119 = .ok (.lreturn, 1) := by decide +kernel
theorem dX1_slope_120 : decode cX1_slope 120 = .ok (.aload_n 0, 1) := by decide +kernel
theorem dX1_slope_121 : decode cX1_slope 121 = .ok (.aload_n 0, 1) := by decide +kernel
theorem dX1_slope_122 : decode cX1_slope 122 = .ok (.getfield 13, 3) := by decide +kernel
theorem dX1_slope_125 : decode cX1_slope 125 = .ok (.iload 5, 2) := by decide +kernel
theorem dX1_slope_127 : decode cX1_slope 127 = .ok (.iaload, 1) := by decide +kernel
theorem dX1_slope_128 : decode cX1_slope 128 = .ok (.aload_n 0, 1) := by decide +kernel
theorem dX1_slope_129 : decode cX1_slope 129 = .ok (.getfield 13, 3) := by decide +kernel
theorem dX1_slope_132 : decode cX1_slope 132 = .ok (.iload 4, 2) := by decide +kernel
theorem dX1_slope_134 : decode cX1_slope 134 = .ok (.iaload, 1) := by decide +kernel
theorem dX1_slope_135 : decode cX1_slope 135 = .ok (.isub, 1) := by decide +kernel
theorem dX1_slope_136 : decode cX1_slope 136 = .ok (.i2l, 1) := by decide +kernel
theorem dX1_slope_137 : decode cX1_slope 137 = .ok (.aload_n 0, 1) := by decide +kernel
theorem dX1_slope_138 : decode cX1_slope 138 = .ok (.getfield 7, 3) := by decide +kernel
theorem dX1_slope_141 : decode cX1_slope 141 = .ok (.iload 5, 2) := by decide +kernel
theorem dX1_slope_143 : decode cX1_slope 143 = .ok (.iaload, 1) := by decide +kernel
theorem dX1_slope_144 : decode cX1_slope 144 = .ok (.aload_n 0, 1) := by decide +kernel
theorem dX1_slope_145 : decode cX1_slope 145 = .ok (.getfield 7, 3) := by decide +kernel
theorem dX1_slope_148 : decode cX1_slope 148 = .ok (.iload 4, 2) := by decide +kernel
theorem dX1_slope_150 : decode cX1_slope 150 = .ok (.iaload, 1) := by decide +kernel
theorem dX1_slope_151 : decode cX1_slope 151 = .ok (.isub, 1) := by decide +kernel
theorem dX1_slope_152 : decode cX1_slope 152 = .ok (.i2l, 1) := by decide +kernel
theorem dX1_slope_153 : decode cX1_slope 153 = .ok (.iload_n 3, 1) := by decide +kernel
theorem dX1_slope_154 : decode cX1_slope 154 = .ok (.invokevirtual 57, 3) := by decide +kernel
theorem dX1_slope_157 : decode cX1_slope 157 = .ok (.lstore 6, 2) := by decide +kernel
theorem dX1_slope_159 : decode cX1_slope 159 = .ok (.aload_n 0, 1) := by decide +kernel
theorem dX1_slope_160 : decode cX1_slope 160 = .ok (.getfield 32, 3) := by decide +kernel
theorem dX1_slope_163 : decode cX1_slope 163 = .ok (.lconst 0, 1) := by decide +kernel
theorem dX1_slope_164 : decode cX1_slope 164 = .ok (.lcmp, 1) := by decide +kernel
theorem dX1_slope_165 : decode cX1_slope 165 = .ok (.ifCond .le 24, 3) := by decide +kernel
theorem dX1_slope_168 : decode cX1_slope 168 = .ok (.aload_n 0, 1) := by decide +kernel
theorem dX1_slope_169 : decode cX1_slope 169 = .ok (.iconst 1, 1) := by decide +kernel
theorem dX1_slope_170 : decode cX1_slope 170 = .ok (.putfield 61, 3) := by decide +kernel
theorem dX1_slope_173 : decode cX1_slope 173 = .ok (.aload_n 0, 1) := by decide +kernel
theorem dX1_slope_174 : decode cX1_slope 174 = .ok (.aload_n 0, 1) := by decide +kernel
theorem dX1_slope_175 : decode cX1_slope 175 = .ok (.getfield 32, 3) := by decide +kernel
theorem dX1_slope_178 : decode cX1_slope 178 = .ok (.putfield 65, 3) := by decide +kernel
theorem dX1_slope_181 : decode cX1_slope 181 = .ok (.aload_n 0, 1) := by decide +kernel
theorem dX1_slope_182 : decode cX1_slope 182 = .ok (.aload_n 0, 1) := by decide +kernel
theorem dX1_slope_183 : decode cX1_slope 183 = .ok (.getfield 36, 3) := by decide +kernel
theorem dX1_slope_186 : decode cX1_slope 186 = .ok (.putfield 68, 3) := by decide +kernel
theorem dX1_slope_189 : decode cX1_slope 189 = .ok (.lload 6, 2) := by decide +kernel
theorem dX1_slope_191 : decode cX1_slope 191 = .ok (.lreturn, 1) := by decide +kernel
theorem dX1_part_0 : decode cX1_part 0 = .ok (.lload_n 1, 1) := by decide +kernel
theorem dX1_part_1 : decode cX1_part 1 = .ok (.lconst 0, 1) := by decide +kernel
theorem dX1_part_2 : decode cX1_part 2 = .ok (.lcmp, 1) := by decide +kernel
theorem dX1_part_3 : decode cX1_part 3 = .ok (.ifCond .ge 8, 3) := by decide +kernel
theorem dX1_part_6 : decode cX1_part 6 = .ok (.lload_n 1, 1) := by decide +kernel
theorem dX1_part_7 : decode cX1_part 7 = .ok (.lneg, 1) := by decide +kernel
theorem dX1_part_8 : decode cX1_part 8 = .ok (.goto 4, 3) := by decide +kernel
theorem dX1_part_11 : decode cX1_part 11 = .ok (.lload_n 1, 1) := by decide +kernel
theorem dX1_part_12 : decode cX1_part 12 = .ok (.lstore 6, 2) := by decide +kernel
theorem dX1_part_14 : decode cX1_part 14 = .ok (.lload_n 3, 1) := by decide +kernel
theorem dX1_part_15 : decode cX1_part 15 = .ok (.lstore 8, 2) := by decide +kernel
theorem dX1_part_17 : decode cX1_part 17 = .ok (.lload 8, 2) := by decide +kernel
theorem dX1_part_19 : decode cX1_part 19 = .ok (.lconst 0, 1) := by decide +kernel
theorem dX1_part_20 : decode cX1_part 20 = .ok (.lcmp, 1) := by decide +kernel
theorem dX1_part_21 : decode cX1_part 21 = .ok (.ifCond .eq 21, 3) := by decide +kernel
theorem dX1_part_24 : decode cX1_part 24 = .ok (.lload 6, 2) := by decide +kernel
theorem dX1_part_26 : decode cX1_part 26 = .ok (.lload 8, 2) := by decide +kernel
theorem dX1_part_28 : decode cX1_part 28 = .ok (.lrem, 1) := by decide +kernel
theorem dX1_part_29 : decode cX1_part 29 = .ok (.lstore 10, 2) := by decide +kernel
theorem dX1_part_31 : decode cX1_part 31 = .ok (.lload 8, 2) := by decide +kernel
theorem dX1_part_33 : decode cX1_part 33 = .ok (.lstore 6, 2) := by decide +kernel
theorem dX1_part_35 : decode cX1_part 35 = .ok (.lload 10, 2) := by decide +kernel
theorem dX1_part_37 : decode cX1_part 37 = .ok (.lstore 8, 2) := by decide +kernel
theorem dX1_part_39 : decode cX1_part 39 = .ok (.goto (-22), 3) := by decide +kernel
theorem dX1_part_42 : decode cX1_part 42 = .ok (.aload_n 0, 1) := by decide +kernel
theorem dX1_part_43 : decode cX1_part 43 = .ok (.lload_n 1, 1) := by decide +kernel
theorem dX1_part_44 : decode cX1_part 44 = .ok (.lload 6, 2) := by decide +kernel
theorem dX1_part_46 : decode cX1_part 46 = .ok (.ldiv, 1) := by decide +kernel
theorem dX1_part_47 : decode cX1_part 47 = .ok (.putfield 32, 3) := by decide +kernel
theorem dX1_part_50 : decode cX1_part 50 = .ok (.aload_n 0, 1) := by decide +kernel
theorem dX1_part_51 : decode cX1_part 51 = .ok (.lload_n 3, 1) := by decide +kernel
theorem dX1_part_52 : decode cX1_part 52 = .ok (.lload 6, 2) := by decide +kernel
theorem dX1_part_54 : decode cX1_part 54 = .ok (.ldiv, 1) := by decide +kernel
theorem dX1_part_55 : decode cX1_part 55 = .ok (.putfield 36, 3) := by decide +kernel
theorem dX1_part_58 : decode cX1_part 58 = .ok (.iload 5, 2) := by decide +kernel
theorem dX1_part_60 : decode cX1_part 60 = .ok (.ifCond .ne 10, 3) := by decide +kernel
theorem dX1_part_63 : decode cX1_part 63 = .ok (.aload_n 0, 1) := by decide +kernel
theorem dX1_part_64 : decode cX1_part 64 = .ok (.getfield 32, 3) := by decide +kernel
theorem dX1_part_67 : decode cX1_part 67 = .ok (.goto 7, 3) := by decide +kernel
theorem dX1_part_70 : decode cX1_part 70 = .ok (.aload_n 0, 1) := by decide +kernel
theorem dX1_part_71 : decode cX1_part 71 = .ok (.getfield 36, 3) := by decide +kernel
theorem dX1_part_74 : decode cX1_part 74 = .ok (.lreturn, 1) := by decide +kernel
theorem dX1_offset_0 : decode cX1_offset 0 = .ok (.aload_n 0, 1) := by decide +kernel
theorem dX1_offset_1 : decode cX1_offset 1 = .ok (.iload_n 2, 1) := by decide +kernel
theorem dX1_offset_2 : decode cX1_offset 2 = .ok (.iconst 0, 1) := by decide +kernel
theorem dX1_offset_3 : decode cX1_offset 3 = .ok (.iconst 1, 1) := by decide +kernel
theorem dX1_offset_4 : decode cX1_offset 4 = .ok (.invokestatic 40, 3) := by decide +kernel
theorem dX1_offset_7 : decode cX1_offset 7 = .ok (.aload_n 0, 1) := by decide +kernel
theorem dX1_offset_8 : decode cX1_offset 8 = .ok (.getfield 61, 3) := by decide +kernel
theorem dX1_offset_11 : decode cX1_offset 11 = .ok (.iload_n 1, 1) := by decide +kernel
theorem dX1_offset_12 : decode cX1_offset 12 = .ok (.iconst 0, 1) := by decide +kernel
theorem dX1_offset_13 : decode cX1_offset 13 = .ok (.ldc 39, 2) := by decide +kernel
theorem dX1_offset_15 : decode cX1_offset 15 = .ok (.invokestatic 40, 3) := by decide +kernel
theorem dX1_offset_18 : decode cX1_offset 18 = .ok (.iconst 1, 1) := by decide +kernel
theorem dX1_offset_19 : decode cX1_offset 19 = .ok (.invokevirtual 47, 3) := by decide +kernel
theorem dX1_offset_22 : decode cX1_offset 22 = .ok (.ifCond .ne 5, 3) := by decide +kernel
theorem dX1_offset_25 : decode cX1_offset 25 = .ok (.lconst 0, 1) := by decide +kernel
theorem dX1_offset_26 : decode cX1_offset 26 = .ok (.lreturn, 1) := by decide +kernel
theorem dX1_offset_27 : decode cX1_offset 27 = .ok (.iconst 1, 1) := by decide +kernel
theorem dX1_offset_28 : decode cX1_offset 28 = .ok (.istore_n 3, 1) := by decide +kernel
theorem dX1_offset_29 : decode cX1_offset 29 = .ok (.iload_n 3, 1) := by decide +kernel
theorem dX1_offset_30 : decode cX1_offset 30 = .ok (.aload_n 0, 1) := by decide +kernel
end
section
theorem dX1_offset_31 : decode cX1_offset 31 = .ok (.getfield 44, 3) := by decide +kernel
theorem dX1_offset_34 : decode cX1_offset 34 = .ok (.if_icmp .ge 75, 3) := by decide +kernel
theorem dX1_offset_37 : decode cX1_offset 37 = .ok (.aload_n 0, 1) := by decide +kernel
theorem dX1_offset_38 : decode cX1_offset 38 = .ok (.iload_n 3, 1) := by decide +kernel
theorem dX1_offset_39 : decode cX1_offset 39 = .ok (.iconst 1, 1) := by decide +kernel
theorem dX1_offset_40 : decode cX1_offset 40 = .ok (.isub, 1) := by decide +kernel
theorem dX1_offset_41 : decode cX1_offset 41 = .ok (.iload_n 1, 1) := by decide +kernel
theorem dX1_offset_42 : decode cX1_offset 42 = .ok (.invokevirtual 71, 3) := by decide +kernel
theorem dX1_offset_45 : decode cX1_offset 45 = .ok (.lstore 4, 2) := by decide +kernel
theorem dX1_offset_47 : decode cX1_offset 47 = .ok (.aload_n 0, 1) := by decide +kernel
theorem dX1_offset_48 : decode cX1_offset 48 = .ok (.iload_n 3, 1) := by decide +kernel
theorem dX1_offset_49 : decode cX1_offset 49 = .ok (.iload_n 1, 1) := by decide +kernel
theorem dX1_offset_50 : decode cX1_offset 50 = .ok (.invokevirtual 71, 3) := by decide +kernel
theorem dX1_offset_53 : decode cX1_offset 53 = .ok (.lstore 6, 2) := by decide +kernel
theorem dX1_offset_55 : decode cX1_offset 55 = .ok (.lload 4, 2) := by decide +kernel
theorem dX1_offset_57 : decode cX1_offset 57 = .ok (.lconst 0, 1) := by decide +kernel
theorem dX1_offset_58 : decode cX1_offset 58 = .ok (.lcmp, 1) := by decide +kernel
theorem dX1_offset_59 : decode cX1_offset 59 = .ok (.ifCond .le 44, 3) := by decide +kernel
theorem dX1_offset_62 : decode cX1_offset 62 = .ok (.lload 6, 2) := by decide +kernel
theorem dX1_offset_64 : decode cX1_offset 64 = .ok (.lconst 0, 1) := by decide +kernel
theorem dX1_offset_65 : decode cX1_offset 65 = .ok (.lcmp, 1) := by decide +kernel
theorem dX1_offset_66 : decode cX1_offset 66 = .ok (.ifCond .gt 37, 3) := by decide +kernel
theorem dX1_offset_69 : decode cX1_offset 69 = .ok (.aload_n 0, 1) := by decide +kernel
theorem dX1_offset_70 : decode cX1_offset 70 = .ok (.aload_n 0, 1) := by decide +kernel
theorem dX1_offset_71 : decode cX1_offset 71 = .ok (.getfield 13, 3) := by decide +kernel
theorem dX1_offset_74 : decode cX1_offset 74 = .ok (.iload_n 3, 1) := by decide +kernel
theorem dX1_offset_75 : decode cX1_offset 75 = .ok (.iaload, 1) := by decide +kernel
theorem dX1_offset_76 : decode cX1_offset 76 = .ok (.i2l, 1) := by decide +kernel
theorem dX1_offset_77 : decode cX1_offset 77 = .ok (.lload 4, 2) := by decide +kernel
theorem dX1_offset_79 : decode cX1_offset 79 = .ok (.lmul, 1) := by decide +kernel
theorem dX1_offset_80 : decode cX1_offset 80 = .ok (.aload_n 0, 1) := by decide +kernel
theorem dX1_offset_81 : decode cX1_offset 81 = .ok (.getfield 13, 3) := by decide +kernel
theorem dX1_offset_84 : decode cX1_offset 84 = .ok (.iload_n 3, 1) := by decide +kernel
theorem dX1_offset_85 : decode cX1_offset 85 = .ok (.iconst 1, 1) := by decide +kernel
theorem dX1_offset_86 : decode cX1_offset 86 = .ok (.isub, 1) := by decide +kernel
theorem dX1_offset_87 : decode cX1_offset 87 = .ok (.iaload, 1) := by decide +kernel
theorem dX1_offset_88 : decode cX1_offset 88 = .ok (.i2l, 1) := by decide +kernel
theorem dX1_offset_89 : decode cX1_offset 89 = .ok (.lload 6, 2) := by decide +kernel
theorem dX1_offset_91 : decode cX1_offset 91 = .ok (.lmul, 1) := by decide +kernel
theorem dX1_offset_92 : decode cX1_offset 92 = .ok (.lsub, 1) := by decide +kernel
theorem dX1_offset_93 : decode cX1_offset 93 = .ok (.lload 4, 2) := by decide +kernel
theorem dX1_offset_95 : decode cX1_offset 95 = .ok (.lload 6, 2) := by decide +kernel
theorem dX1_offset_97 : decode cX1_offset 97 = .ok (.lsub, 1) := by decide +kernel
theorem dX1_offset_98 : decode cX1_offset 98 = .ok (.iload_n 2, 1) := by decide +kernel
theorem dX1_offset_99 : decode cX1_offset 99 = .ok (.invokevirtual 57, 3) := by decide +kernel
theorem dX1_offset_102 : decode cX1_offset 102 = .ok (.lreturn, 1) := by decide +kernel
theorem dX1_offset_103 : decode cX1_offset 103 = .ok (.iinc 3 1, 3) := by decide +kernel
theorem dX1_offset_106 : decode cX1_offset 106 = .ok (.goto (-77), 3) := by decide +kernel
theorem dX1_offset_109 : decode cX1_offset 109 = .ok (.iload_n 2, 1) := by decide +kernel
theorem dX1_offset_110 : decode cX1_offset 110 = .ok (.ifCond .ne 9, 3) := by decide +kernel
theorem dX1_offset_113 : decode cX1_offset 113 = .ok (.ldc2_w 75, 3) := by decide +kernel
theorem dX1_offset_116 : decode cX1_offset 116 = .ok (.goto 4, 3) := by decide +kernel
theorem dX1_offset_119 : decode cX1_offset 119 = .ok (.lconst 0, 1) := by decide +kernel
theorem dX1_offset_120 : decode cX1_offset 120 = .ok (.lreturn, 1) := by decide +kernel
theorem dX1_above_0 : decode cX1_above 0 = .ok (.aload_n 0, 1) := by decide +kernel
theorem dX1_above_1 : decode cX1_above 1 = .ok (.getfield 13, 3) := by decide +kernel
theorem dX1_above_4 : decode cX1_above 4 = .ok (.iload_n 1, 1) := by decide +kernel
theorem dX1_above_5 : decode cX1_above 5 = .ok (.iaload, 1) := by decide +kernel
theorem dX1_above_6 : decode cX1_above 6 = .ok (.i2l, 1) := by decide +kernel
theorem dX1_above_7 : decode cX1_above 7 = .ok (.aload_n 0, 1) := by decide +kernel
theorem dX1_above_8 : decode cX1_above 8 = .ok (.getfield 68, 3) := by decide +kernel
theorem dX1_above_11 : decode cX1_above 11 = .ok (.lmul, 1) := by decide +kernel
theorem dX1_above_12 : decode cX1_above 12 = .ok (.aload_n 0, 1) := by decide +kernel
theorem dX1_above_13 : decode cX1_above 13 = .ok (.getfield 65, 3) := by decide +kernel
theorem dX1_above_16 : decode cX1_above 16 = .ok (.aload_n 0, 1) := by decide +kernel
theorem dX1_above_17 : decode cX1_above 17 = .ok (.getfield 7, 3) := by decide +kernel
theorem dX1_above_20 : decode cX1_above 20 = .ok (.iload_n 1, 1) := by decide +kernel
theorem dX1_above_21 : decode cX1_above 21 = .ok (.iaload, 1) := by decide +kernel
theorem dX1_above_22 : decode cX1_above 22 = .ok (.aload_n 0, 1) := by decide +kernel
theorem dX1_above_23 : decode cX1_above 23 = .ok (.getfield 54, 3) := by decide +kernel
theorem dX1_above_26 : decode cX1_above 26 = .ok (.isub, 1) := by decide +kernel
theorem dX1_above_27 : decode cX1_above 27 = .ok (.iload_n 2, 1) := by decide +kernel
theorem dX1_above_28 : decode cX1_above 28 = .ok (.isub, 1) := by decide +kernel
theorem dX1_above_29 : decode cX1_above 29 = .ok (.i2l, 1) := by decide +kernel
theorem dX1_above_30 : decode cX1_above 30 = .ok (.lmul, 1) := by decide +kernel
theorem dX1_above_31 : decode cX1_above 31 = .ok (.lsub, 1) := by decide +kernel
theorem dX1_above_32 : decode cX1_above 32 = .ok (.lreturn, 1) := by decide +kernel
theorem dX1_peak_0 : decode cX1_peak 0 = .ok (.aload_n 0, 1) := by decide +kernel
theorem dX1_peak_1 : decode cX1_peak 1 = .ok (.iload_n 1, 1) := by decide +kernel
theorem dX1_peak_2 : decode cX1_peak 2 = .ok (.iconst 0, 1) := by decide +kernel
theorem dX1_peak_3 : decode cX1_peak 3 = .ok (.iconst 2, 1) := by decide +kernel
theorem dX1_peak_4 : decode cX1_peak 4 = .ok (.invokestatic 40, 3) := by decide +kernel
theorem dX1_peak_7 : decode cX1_peak 7 = .ok (.aload_n 0, 1) := by decide +kernel
theorem dX1_peak_8 : decode cX1_peak 8 = .ok (.getfield 44, 3) := by decide +kernel
theorem dX1_peak_11 : decode cX1_peak 11 = .ok (.ifCond .le 19, 3) := by decide +kernel
theorem dX1_peak_14 : decode cX1_peak 14 = .ok (.iload_n 1, 1) := by decide +kernel
theorem dX1_peak_15 : decode cX1_peak 15 = .ok (.iconst 2, 1) := by decide +kernel
theorem dX1_peak_16 : decode cX1_peak 16 = .ok (.if_icmp .ne 10, 3) := by decide +kernel
theorem dX1_peak_19 : decode cX1_peak 19 = .ok (.aload_n 0, 1) := by decide +kernel
theorem dX1_peak_20 : decode cX1_peak 20 = .ok (.getfield 51, 3) := by decide +kernel
theorem dX1_peak_23 : decode cX1_peak 23 = .ok (.ifCond .le 7, 3) := by decide +kernel
theorem dX1_peak_26 : decode cX1_peak 26 = .ok (.iconst 1, 1) := by decide +kernel
theorem dX1_peak_27 : decode cX1_peak 27 = .ok (.goto 4, 3) := by decide +kernel
theorem dX1_peak_30 : decode cX1_peak 30 = .ok (.iconst 0, 1) := by decide +kernel
theorem dX1_peak_31 : decode cX1_peak 31 = .ok (.iconst 1, 1) := by decide +kernel
theorem dX1_peak_32 : decode cX1_peak 32 = .ok (.iconst 1, 1) := by decide +kernel
theorem dX1_peak_33 : decode cX1_peak 33 = .ok (.invokevirtual 47, 3) := by decide +kernel
theorem dX1_peak_36 : decode cX1_peak 36 = .ok (.ifCond .ne 5, 3) := by decide +kernel
theorem dX1_peak_39 : decode cX1_peak 39 = .ok (.iconst 0, 1) := by decide +kernel
theorem dX1_peak_40 : decode cX1_peak 40 = .ok (.ireturn, 1) := by decide +kernel
theorem dX1_peak_41 : decode cX1_peak 41 = .ok (.aload_n 0, 1) := by decide +kernel
theorem dX1_peak_42 : decode cX1_peak 42 = .ok (.invokevirtual 77, 3) := by decide +kernel
theorem dX1_peak_45 : decode cX1_peak 45 = .ok (.istore_n 2, 1) := by decide +kernel
theorem dX1_peak_46 : decode cX1_peak 46 = .ok (.iload_n 1, 1) := by decide +kernel
theorem dX1_peak_47 : decode cX1_peak 47 = .ok (.ifCond .ne 12, 3) := by decide +kernel
theorem dX1_peak_50 : decode cX1_peak 50 = .ok (.aload_n 0, 1) := by decide +kernel
theorem dX1_peak_51 : decode cX1_peak 51 = .ok (.getfield 13, 3) := by decide +kernel
theorem dX1_peak_54 : decode cX1_peak 54 = .ok (.iload_n 2, 1) := by decide +kernel
theorem dX1_peak_55 : decode cX1_peak 55 = .ok (.iaload, 1) := by decide +kernel
theorem dX1_peak_56 : decode cX1_peak 56 = .ok (.goto 37, 3) := by decide +kernel
theorem dX1_peak_59 : decode cX1_peak 59 = .ok (.iload_n 1, 1) := by decide +kernel
theorem dX1_peak_60 : decode cX1_peak 60 = .ok (.iconst 1, 1) := by decide +kernel
theorem dX1_peak_61 : decode cX1_peak 61 = .ok (.if_icmp .ne 17, 3) := by decide +kernel
theorem dX1_peak_64 : decode cX1_peak 64 = .ok (.aload_n 0, 1) := by decide +kernel
theorem dX1_peak_65 : decode cX1_peak 65 = .ok (.getfield 7, 3) := by decide +kernel
theorem dX1_peak_68 : decode cX1_peak 68 = .ok (.iload_n 2, 1) := by decide +kernel
theorem dX1_peak_69 : decode cX1_peak 69 = .ok (.iaload, 1) := by decide +kernel
theorem dX1_peak_70 : decode cX1_peak 70 = .ok (.aload_n 0, 1) := by decide +kernel
theorem dX1_peak_71 : decode cX1_peak 71 = .ok (.getfield 54, 3) := by decide +kernel
theorem dX1_peak_74 : decode cX1_peak 74 = .ok (.isub, 1) := by decide +kernel
theorem dX1_peak_75 : decode cX1_peak 75 = .ok (.goto 18, 3) := by decide +kernel
theorem dX1_peak_78 : decode cX1_peak 78 = .ok (.aload_n 0, 1) := by decide +kernel
theorem dX1_peak_79 : decode cX1_peak 79 = .ok (.getfield 13, 3) := by decide +kernel
theorem dX1_peak_82 : decode cX1_peak 82 = .ok (.iload_n 2, 1) := by decide +kernel
theorem dX1_peak_83 : decode cX1_peak 83 = .ok (.iaload, 1) := by decide +kernel
theorem dX1_peak_84 : decode cX1_peak 84 = .ok (.sipush 1000, 3) := by decide +kernel
theorem dX1_peak_87 : decode cX1_peak 87 = .ok (.imul, 1) := by decide +kernel
theorem dX1_peak_88 : decode cX1_peak 88 = .ok (.aload_n 0, 1) := by decide +kernel
theorem dX1_peak_89 : decode cX1_peak 89 = .ok (.getfield 51, 3) := by decide +kernel
theorem dX1_peak_92 : decode cX1_peak 92 = .ok (.idiv, 1) := by decide +kernel
theorem dX1_peak_93 : decode cX1_peak 93 = .ok (.ireturn, 1) := by decide +kernel
theorem dX1_peakRow_0 : decode cX1_peakRow 0 = .ok (.iconst 0, 1) := by decide +kernel
theorem dX1_peakRow_1 : decode cX1_peakRow 1 = .ok (.istore_n 1, 1) := by decide +kernel
theorem dX1_peakRow_2 : decode cX1_peakRow 2 = .ok (.iconst 1, 1) := by decide +kernel
theorem dX1_peakRow_3 : decode cX1_peakRow 3 = .ok (.istore_n 2, 1) := by decide +kernel
theorem dX1_peakRow_4 : decode cX1_peakRow 4 = .ok (.iload_n 2, 1) := by decide +kernel
theorem dX1_peakRow_5 : decode cX1_peakRow 5 = .ok (.aload_n 0, 1) := by decide +kernel
theorem dX1_peakRow_6 : decode cX1_peakRow 6 = .ok (.getfield 44, 3) := by decide +kernel
theorem dX1_peakRow_9 : decode cX1_peakRow 9 = .ok (.if_icmp .ge 26, 3) := by decide +kernel
theorem dX1_peakRow_12 : decode cX1_peakRow 12 = .ok (.aload_n 0, 1) := by decide +kernel
theorem dX1_peakRow_13 : decode cX1_peakRow 13 = .ok (.getfield 13, 3) := by decide +kernel
theorem dX1_peakRow_16 : decode cX1_peakRow 16 = .ok (.iload_n 2, 1) := by decide +kernel
theorem dX1_peakRow_17 : decode cX1_peakRow 17 = .ok (.iaload, 1) := by decide +kernel
theorem dX1_peakRow_18 : decode cX1_peakRow 18 = .ok (.aload_n 0, 1) := by decide +kernel
theorem dX1_peakRow_19 : decode cX1_peakRow 19 = .ok (.getfield 13, 3) := by decide +kernel
theorem dX1_peakRow_22 : decode cX1_peakRow 22 = .ok (.iload_n 1, 1) := by decide +kernel
theorem dX1_peakRow_23 : decode cX1_peakRow 23 = .ok (.iaload, 1) := by decide +kernel
theorem dX1_peakRow_24 : decode cX1_peakRow 24 = .ok (.if_icmp .le 5, 3) := by decide +kernel
theorem dX1_peakRow_27 : decode cX1_peakRow 27 = .ok (.iload_n 2, 1) := by decide +kernel
theorem dX1_peakRow_28 : decode cX1_peakRow 28 = .ok (.istore_n 1, 1) := by decide +kernel
theorem dX1_peakRow_29 : decode cX1_peakRow 29 = .ok (.iinc 2 1, 3) := by decide +kernel
theorem dX1_peakRow_32 : decode cX1_peakRow 32 = .ok (.goto (-28), 3) := by decide +kernel
theorem dX1_peakRow_35 : decode cX1_peakRow 35 = .ok (.iload_n 1, 1) := by decide +kernel
theorem dX1_peakRow_36 : decode cX1_peakRow 36 = .ok (.ireturn, 1) := by decide +kernel
theorem dX1_stretch_0 : decode cX1_stretch 0 = .ok (.aload_n 0, 1) := by decide +kernel
theorem dX1_stretch_1 : decode cX1_stretch 1 = .ok (.iload_n 3, 1) := by decide +kernel
theorem dX1_stretch_2 : decode cX1_stretch 2 = .ok (.iconst 0, 1) := by decide +kernel
theorem dX1_stretch_3 : decode cX1_stretch 3 = .ok (.iconst 1, 1) := by decide +kernel
theorem dX1_stretch_4 : decode cX1_stretch 4 = .ok (.invokestatic 40, 3) := by decide +kernel
theorem dX1_stretch_7 : decode cX1_stretch 7 = .ok (.iload_n 1, 1) := by decide +kernel
theorem dX1_stretch_8 : decode cX1_stretch 8 = .ok (.iconst 1, 1) := by decide +kernel
theorem dX1_stretch_9 : decode cX1_stretch 9 = .ok (.ldc 39, 2) := by decide +kernel
theorem dX1_stretch_11 : decode cX1_stretch 11 = .ok (.invokestatic 40, 3) := by decide +kernel
theorem dX1_stretch_14 : decode cX1_stretch 14 = .ok (.ifCond .eq 17, 3) := by decide +kernel
theorem dX1_stretch_17 : decode cX1_stretch 17 = .ok (.iload_n 2, 1) := by decide +kernel
theorem dX1_stretch_18 : decode cX1_stretch 18 = .ok (.iconst 1, 1) := by decide +kernel
theorem dX1_stretch_19 : decode cX1_stretch 19 = .ok (.ldc 39, 2) := by decide +kernel
theorem dX1_stretch_21 : decode cX1_stretch 21 = .ok (.invokestatic 40, 3) := by decide +kernel
theorem dX1_stretch_24 : decode cX1_stretch 24 = .ok (.ifCond .eq 7, 3) := by decide +kernel
theorem dX1_stretch_27 : decode cX1_stretch 27 = .ok (.iconst 1, 1) := by decide +kernel
theorem dX1_stretch_28 : decode cX1_stretch 28 = .ok (.goto 4, 3) := by decide +kernel
theorem dX1_stretch_31 : decode cX1_stretch 31 = .ok (.iconst 0, 1) := by decide +kernel
theorem dX1_stretch_32 : decode cX1_stretch 32 = .ok (.iconst 1, 1) := by decide +kernel
theorem dX1_stretch_33 : decode cX1_stretch 33 = .ok (.iconst 1, 1) := by decide +kernel
theorem dX1_stretch_34 : decode cX1_stretch 34 = .ok (.invokevirtual 47, 3) := by decide +kernel
theorem dX1_stretch_37 : decode cX1_stretch 37 = .ok (.ifCond .ne 5, 3) := by decide +kernel
theorem dX1_stretch_40 : decode cX1_stretch 40 = .ok (.lconst 0, 1) := by decide +kernel
theorem dX1_stretch_41 : decode cX1_stretch 41 = .ok (.lreturn, 1) := by decide +kernel
theorem dX1_stretch_42 : decode cX1_stretch 42 = .ok (.aload_n 0, 1) := by decide +kernel
theorem dX1_stretch_43 : decode cX1_stretch 43 = .ok (.iload_n 2, 1) := by decide +kernel
theorem dX1_stretch_44 : decode cX1_stretch 44 = .ok (.iload_n 1, 1) := by decide +kernel
theorem dX1_stretch_45 : decode cX1_stretch 45 = .ok (.isub, 1) := by decide +kernel
theorem dX1_stretch_46 : decode cX1_stretch 46 = .ok (.i2l, 1) := by decide +kernel
theorem dX1_stretch_47 : decode cX1_stretch 47 = .ok (.iload_n 1, 1) := by decide +kernel
theorem dX1_stretch_48 : decode cX1_stretch 48 = .ok (.i2l, 1) := by decide +kernel
theorem dX1_stretch_49 : decode cX1_stretch 49 = .ok (.iload_n 3, 1) := by decide +kernel
theorem dX1_stretch_50 : decode cX1_stretch 50 = .ok (.invokevirtual 57, 3) := by decide +kernel
theorem dX1_stretch_53 : decode cX1_stretch 53 = .ok (.lreturn, 1) := by decide +kernel
theorem dX1_impact_0 : decode cX1_impact 0 = .ok (.aload_n 0, 1) := by decide +kernel
theorem dX1_impact_1 : decode cX1_impact 1 = .ok (.iload_n 1, 1) := by decide +kernel
theorem dX1_impact_2 : decode cX1_impact 2 = .ok (.sipush (-200), 3) := by decide +kernel
theorem dX1_impact_5 : decode cX1_impact 5 = .ok (.sipush 200, 3) := by decide +kernel
theorem dX1_impact_8 : decode cX1_impact 8 = .ok (.invokestatic 40, 3) := by decide +kernel
theorem dX1_impact_11 : decode cX1_impact 11 = .ok (.ifCond .eq 18, 3) := by decide +kernel
theorem dX1_impact_14 : decode cX1_impact 14 = .ok (.iload_n 2, 1) := by decide +kernel
theorem dX1_impact_15 : decode cX1_impact 15 = .ok (.iconst 0, 1) := by decide +kernel
theorem dX1_impact_16 : decode cX1_impact 16 = .ok (.sipush 400, 3) := by decide +kernel
theorem dX1_impact_19 : decode cX1_impact 19 = .ok (.invokestatic 40, 3) := by decide +kernel
theorem dX1_impact_22 : decode cX1_impact 22 = .ok (.ifCond .eq 7, 3) := by decide +kernel
theorem dX1_impact_25 : decode cX1_impact 25 = .ok (.iconst 1, 1) := by decide +kernel
theorem dX1_impact_26 : decode cX1_impact 26 = .ok (.goto 4, 3) := by decide +kernel
theorem dX1_impact_29 : decode cX1_impact 29 = .ok (.iconst 0, 1) := by decide +kernel
theorem dX1_impact_30 : decode cX1_impact 30 = .ok (.aload_n 0, 1) := by decide +kernel
theorem dX1_impact_31 : decode cX1_impact 31 = .ok (.getfield 81, 3) := by decide +kernel
theorem dX1_impact_34 : decode cX1_impact 34 = .ok (.bipush 8, 2) := by decide +kernel
theorem dX1_impact_36 : decode cX1_impact 36 = .ok (.if_icmp .ge 7, 3) := by decide +kernel
theorem dX1_impact_39 : decode cX1_impact 39 = .ok (.iconst 1, 1) := by decide +kernel
theorem dX1_impact_40 : decode cX1_impact 40 = .ok (.goto 4, 3) := by decide +kernel
theorem dX1_impact_43 : decode cX1_impact 43 = .ok (.iconst 0, 1) := by decide +kernel
theorem dX1_impact_44 : decode cX1_impact 44 = .ok (.iconst 1, 1) := by decide +kernel
theorem dX1_impact_45 : decode cX1_impact 45 = .ok (.iconst 1, 1) := by decide +kernel
theorem dX1_impact_46 : decode cX1_impact 46 = .ok (.invokevirtual 47, 3) := by decide +kernel
theorem dX1_impact_49 : decode cX1_impact 49 = .ok (.ifCond .ne 5, 3) := by decide +kernel
theorem dX1_impact_52 : decode cX1_impact 52 = .ok (.iconst 0, 1) := by decide +kernel
theorem dX1_impact_53 : decode cX1_impact 53 = .ok (.ireturn, 1) := by decide +kernel
theorem dX1_impact_54 : decode cX1_impact 54 = .ok (.aload_n 0, 1) := by decide +kernel
theorem dX1_impact_55 : decode cX1_impact 55 = .ok (.getfield 16, 3) := by decide +kernel
theorem dX1_impact_58 : decode cX1_impact 58 = .ok (.aload_n 0, 1) := by decide +kernel
theorem dX1_impact_59 : decode cX1_impact 59 = .ok (.getfield 81, 3) := by decide +kernel
theorem dX1_impact_62 : decode cX1_impact 62 = .ok (.iload_n 1, 1) := by decide +kernel
theorem dX1_impact_63 : decode cX1_impact 63 = .ok (.iastore, 1) := by decide +kernel
theorem dX1_impact_64 : decode cX1_impact 64 = .ok (.aload_n 0, 1) := by decide +kernel
theorem dX1_impact_65 : decode cX1_impact 65 = .ok (.getfield 19, 3) := by decide +kernel
theorem dX1_impact_68 : decode cX1_impact 68 = .ok (.aload_n 0, 1) := by decide +kernel
theorem dX1_impact_69 : decode cX1_impact 69 = .ok (.getfield 81, 3) := by decide +kernel
theorem dX1_impact_72 : decode cX1_impact 72 = .ok (.iload_n 2, 1) := by decide +kernel
theorem dX1_impact_73 : decode cX1_impact 73 = .ok (.iastore, 1) := by decide +kernel
theorem dX1_impact_74 : decode cX1_impact 74 = .ok (.aload_n 0, 1) := by decide +kernel
theorem dX1_impact_75 : decode cX1_impact 75 = .ok (.dup, 1) := by decide +kernel
theorem dX1_impact_76 : decode cX1_impact 76 = .ok (.getfield 81, 3) := by decide +kernel
theorem dX1_impact_79 : decode cX1_impact 79 = .ok (.iconst 1, 1) := by decide +kernel
theorem dX1_impact_80 : decode cX1_impact 80 = .ok (.iadd, 1) := by decide +kernel
theorem dX1_impact_81 : decode cX1_impact 81 = .ok (.putfield 81, 3) := by decide +kernel
theorem dX1_impact_84 : decode cX1_impact 84 = .ok (.aload_n 0, 1) := by decide +kernel
theorem dX1_impact_85 : decode cX1_impact 85 = .ok (.getfield 81, 3) := by decide +kernel
theorem dX1_impact_88 : decode cX1_impact 88 = .ok (.ireturn, 1) := by decide +kernel
theorem dX1_fitted_0 : decode cX1_fitted 0 = .ok (.aload_n 0, 1) := by decide +kernel
theorem dX1_fitted_1 : decode cX1_fitted 1 = .ok (.getfield 81, 3) := by decide +kernel
theorem dX1_fitted_4 : decode cX1_fitted 4 = .ok (.i2l, 1) := by decide +kernel
theorem dX1_fitted_5 : decode cX1_fitted 5 = .ok (.lstore_n 3, 1) := by decide +kernel
theorem dX1_fitted_6 : decode cX1_fitted 6 = .ok (.lconst 0, 1) := by decide +kernel
theorem dX1_fitted_7 : decode cX1_fitted 7 = .ok (.lstore 5, 2) := by decide +kernel
theorem dX1_fitted_9 : decode cX1_fitted 9 = .ok (.lconst 0, 1) := by decide +kernel
theorem dX1_fitted_10 : decode cX1_fitted 10 = .ok (.lstore 7, 2) := by decide +kernel
theorem dX1_fitted_12 : decode cX1_fitted 12 = .ok (.lconst 0, 1) := by decide +kernel
theorem dX1_fitted_13 : decode cX1_fitted 13 = .ok (.lstore 9, 2) := by decide +kernel
theorem dX1_fitted_15 : decode cX1_fitted 15 = .ok (.lconst 0, 1) := by decide +kernel
theorem dX1_fitted_16 : decode cX1_fitted 16 = .ok (.lstore 11, 2) := by decide +kernel
theorem dX1_fitted_18 : decode cX1_fitted 18 = .ok (.iconst 0, 1) := by decide +kernel
theorem dX1_fitted_19 : decode cX1_fitted 19 = .ok (.istore 13, 2) := by decide +kernel
theorem dX1_fitted_21 : decode cX1_fitted 21 = .ok (.iload 13, 2) := by decide +kernel
theorem dX1_fitted_23 : decode cX1_fitted 23 = .ok (.aload_n 0, 1) := by decide +kernel
theorem dX1_fitted_24 : decode cX1_fitted 24 = .ok (.getfield 81, 3) := by decide +kernel
theorem dX1_fitted_27 : decode cX1_fitted 27 = .ok (.if_icmp .ge 77, 3) := by decide +kernel
theorem dX1_fitted_30 : decode cX1_fitted 30 = .ok (.lload 5, 2) := by decide +kernel
theorem dX1_fitted_32 : decode cX1_fitted 32 = .ok (.aload_n 0, 1) := by decide +kernel
theorem dX1_fitted_33 : decode cX1_fitted 33 = .ok (.getfield 16, 3) := by decide +kernel
theorem dX1_fitted_36 : decode cX1_fitted 36 = .ok (.iload 13, 2) := by decide +kernel
theorem dX1_fitted_38 : decode cX1_fitted 38 = .ok (.iaload, 1) := by decide +kernel
theorem dX1_fitted_39 : decode cX1_fitted 39 = .ok (.i2l, 1) := by decide +kernel
theorem dX1_fitted_40 : decode cX1_fitted 40 = .ok (.ladd, 1) := by decide +kernel
theorem dX1_fitted_41 : decode cX1_fitted 41 = .ok (.lstore 5, 2) := by decide +kernel
theorem dX1_fitted_43 : decode cX1_fitted 43 = .ok (.lload 7, 2) := by decide +kernel
theorem dX1_fitted_45 : decode cX1_fitted 45 = .ok (.aload_n 0, 1) := by decide +kernel
theorem dX1_fitted_46 : decode cX1_fitted 46 = .ok (.getfield 19, 3) := by decide +kernel
theorem dX1_fitted_49 : decode cX1_fitted 49 = .ok (.iload 13, 2) := by decide +kernel
theorem dX1_fitted_51 : decode cX1_fitted 51 = .ok (.iaload, 1) := by decide +kernel
theorem dX1_fitted_52 : decode cX1_fitted 52 = .ok (.i2l, 1) := by decide +kernel
theorem dX1_fitted_53 : decode cX1_fitted 53 = .ok (.ladd, 1) := by decide +kernel
theorem dX1_fitted_54 : decode cX1_fitted 54 = .ok (.lstore 7, 2) := by decide +kernel
theorem dX1_fitted_56 : decode cX1_fitted 56 = .ok (.lload 9, 2) := by decide +kernel
theorem dX1_fitted_58 : decode cX1_fitted 58 = .ok (.aload_n 0, 1) := by decide +kernel
theorem dX1_fitted_59 : decode cX1_fitted 59 = .ok (.getfield 16, 3) := by decide +kernel
theorem dX1_fitted_62 : decode cX1_fitted 62 = .ok (.iload 13, 2) := by decide +kernel
theorem dX1_fitted_64 : decode cX1_fitted 64 = .ok (.iaload, 1) := by decide +kernel
theorem dX1_fitted_65 : decode cX1_fitted 65 = .ok (.aload_n 0, 1) := by decide +kernel
theorem dX1_fitted_66 : decode cX1_fitted 66 = .ok (.getfield 16, 3) := by decide +kernel
theorem dX1_fitted_69 : decode cX1_fitted 69 = .ok (.iload 13, 2) := by decide +kernel
theorem dX1_fitted_71 : decode cX1_fitted 71 = .ok (.iaload, 1) := by decide +kernel
theorem dX1_fitted_72 : decode cX1_fitted 72 = .ok (.imul, 1) := by decide +kernel
theorem dX1_fitted_73 : decode cX1_fitted 73 = .ok (.i2l, 1) := by decide +kernel
theorem dX1_fitted_74 : decode cX1_fitted 74 = .ok (.ladd, 1) := by decide +kernel
theorem dX1_fitted_75 : decode cX1_fitted 75 = .ok (.lstore 9, 2) := by decide +kernel
theorem dX1_fitted_77 : decode cX1_fitted 77 = .ok (.lload 11, 2) := by decide +kernel
theorem dX1_fitted_79 : decode cX1_fitted 79 = .ok (.aload_n 0, 1) := by decide +kernel
theorem dX1_fitted_80 : decode cX1_fitted 80 = .ok (.getfield 16, 3) := by decide +kernel
theorem dX1_fitted_83 : decode cX1_fitted 83 = .ok (.iload 13, 2) := by decide +kernel
theorem dX1_fitted_85 : decode cX1_fitted 85 = .ok (.iaload, 1) := by decide +kernel
theorem dX1_fitted_86 : decode cX1_fitted 86 = .ok (.aload_n 0, 1) := by decide +kernel
theorem dX1_fitted_87 : decode cX1_fitted 87 = .ok (.getfield 19, 3) := by decide +kernel
theorem dX1_fitted_90 : decode cX1_fitted 90 = .ok (.iload 13, 2) := by decide +kernel
theorem dX1_fitted_92 : decode cX1_fitted 92 = .ok (.iaload, 1) := by decide +kernel
theorem dX1_fitted_93 : decode cX1_fitted 93 = .ok (.imul, 1) := by decide +kernel
theorem dX1_fitted_94 : decode cX1_fitted 94 = .ok (.i2l, 1) := by decide +kernel
theorem dX1_fitted_95 : decode cX1_fitted 95 = .ok (.ladd, 1) := by decide +kernel
theorem dX1_fitted_96 : decode cX1_fitted 96 = .ok (.lstore 11, 2) := by decide +kernel
theorem dX1_fitted_98 : decode cX1_fitted 98 = .ok (.iinc 13 1, 3) := by decide +kernel
theorem dX1_fitted_101 : decode cX1_fitted 101 = .ok (.goto (-80), 3) := by decide +kernel
theorem dX1_fitted_104 : decode cX1_fitted 104 = .ok (.lload_n 3, 1) := by decide +kernel
theorem dX1_fitted_105 : decode cX1_fitted 105 = .ok (.lload 9, 2) := by decide +kernel
theorem dX1_fitted_107 : decode cX1_fitted 107 = .ok (.lmul, 1) := by decide +kernel
theorem dX1_fitted_108 : decode cX1_fitted 108 = .ok (.lload 5, 2) := by decide +kernel
theorem dX1_fitted_110 : decode cX1_fitted 110 = .ok (.lload 5, 2) := by decide +kernel
theorem dX1_fitted_112 : decode cX1_fitted 112 = .ok (.lmul, 1) := by decide +kernel
theorem dX1_fitted_113 : decode cX1_fitted 113 = .ok (.lsub, 1) := by decide +kernel
theorem dX1_fitted_114 : decode cX1_fitted 114 = .ok (.lstore 13, 2) := by decide +kernel
theorem dX1_fitted_116 : decode cX1_fitted 116 = .ok (.aload_n 0, 1) := by decide +kernel
theorem dX1_fitted_117 : decode cX1_fitted 117 = .ok (.iload_n 2, 1) := by decide +kernel
theorem dX1_fitted_118 : decode cX1_fitted 118 = .ok (.iconst 0, 1) := by decide +kernel
theorem dX1_fitted_119 : decode cX1_fitted 119 = .ok (.iconst 1, 1) := by decide +kernel
theorem dX1_fitted_120 : decode cX1_fitted 120 = .ok (.invokestatic 40, 3) := by decide +kernel
theorem dX1_fitted_123 : decode cX1_fitted 123 = .ok (.lload_n 3, 1) := by decide +kernel
theorem dX1_fitted_124 : decode cX1_fitted 124 = .ok (.ldc2_w 84, 3) := by decide +kernel
theorem dX1_fitted_127 : decode cX1_fitted 127 = .ok (.lcmp, 1) := by decide +kernel
theorem dX1_fitted_128 : decode cX1_fitted 128 = .ok (.ifCond .lt 14, 3) := by decide +kernel
theorem dX1_fitted_131 : decode cX1_fitted 131 = .ok (.lload 13, 2) := by decide +kernel
theorem dX1_fitted_133 : decode cX1_fitted 133 = .ok (.lconst 0, 1) := by decide +kernel
theorem dX1_fitted_134 : decode cX1_fitted 134 = .ok (.lcmp, 1) := by decide +kernel
theorem dX1_fitted_135 : decode cX1_fitted 135 = .ok (.ifCond .le 7, 3) := by decide +kernel
theorem dX1_fitted_138 : decode cX1_fitted 138 = .ok (.iconst 1, 1) := by decide +kernel
theorem dX1_fitted_139 : decode cX1_fitted 139 = .ok (.goto 4, 3) := by decide +kernel
theorem dX1_fitted_142 : decode cX1_fitted 142 = .ok (.iconst 0, 1) := by decide +kernel
theorem dX1_fitted_143 : decode cX1_fitted 143 = .ok (.iload_n 1, 1) := by decide +kernel
theorem dX1_fitted_144 : decode cX1_fitted 144 = .ok (.sipush (-200), 3) := by decide +kernel
theorem dX1_fitted_147 : decode cX1_fitted 147 = .ok (.sipush 200, 3) := by decide +kernel
theorem dX1_fitted_150 : decode cX1_fitted 150 = .ok (.invokestatic 40, 3) := by decide +kernel
theorem dX1_fitted_153 : decode cX1_fitted 153 = .ok (.iconst 1, 1) := by decide +kernel
theorem dX1_fitted_154 : decode cX1_fitted 154 = .ok (.invokevirtual 47, 3) := by decide +kernel
theorem dX1_fitted_157 : decode cX1_fitted 157 = .ok (.ifCond .ne 5, 3) := by decide +kernel
theorem dX1_fitted_160 : decode cX1_fitted 160 = .ok (.lconst 0, 1) := by decide +kernel
theorem dX1_fitted_161 : decode cX1_fitted 161 = .ok (.lreturn, 1) := by decide +kernel
theorem dX1_fitted_162 : decode cX1_fitted 162 = .ok (.lload_n 3, 1) := by decide +kernel
theorem dX1_fitted_163 : decode cX1_fitted 163 = .ok (.lload 11, 2) := by decide +kernel
theorem dX1_fitted_165 : decode cX1_fitted 165 = .ok (.lmul, 1) := by decide +kernel
theorem dX1_fitted_166 : decode cX1_fitted 166 = .ok (.lload 5, 2) := by decide +kernel
theorem dX1_fitted_168 : decode cX1_fitted 168 = .ok (.lload 7, 2) := by decide +kernel
theorem dX1_fitted_170 : decode cX1_fitted 170 = .ok (.lmul, 1) := by decide +kernel
theorem dX1_fitted_171 : decode cX1_fitted 171 = .ok (.lsub, 1) := by decide +kernel
theorem dX1_fitted_172 : decode cX1_fitted 172 = .ok (.lstore 15, 2) := by decide +kernel
theorem dX1_fitted_174 : decode cX1_fitted 174 = .ok (.aload_n 0, 1) := by decide +kernel
theorem dX1_fitted_175 : decode cX1_fitted 175 = .ok (.lload 7, 2) := by decide +kernel
theorem dX1_fitted_177 : decode cX1_fitted 177 = .ok (.lload 13, 2) := by decide +kernel
theorem dX1_fitted_179 : decode cX1_fitted 179 = .ok (.lmul, 1) := by decide +kernel
theorem dX1_fitted_180 : decode cX1_fitted 180 = .ok (.lload 15, 2) := by decide +kernel
theorem dX1_fitted_182 : decode cX1_fitted 182 = .ok (.lload 5, 2) := by decide +kernel
theorem dX1_fitted_184 : decode cX1_fitted 184 = .ok (.lmul, 1) := by decide +kernel
theorem dX1_fitted_185 : decode cX1_fitted 185 = .ok (.lsub, 1) := by decide +kernel
theorem dX1_fitted_186 : decode cX1_fitted 186 = .ok (.lload 15, 2) := by decide +kernel
theorem dX1_fitted_188 : decode cX1_fitted 188 = .ok (.iload_n 1, 1) := by decide +kernel
theorem dX1_fitted_189 : decode cX1_fitted 189 = .ok (.i2l, 1) := by decide +kernel
theorem dX1_fitted_190 : decode cX1_fitted 190 = .ok (.lmul, 1) := by decide +kernel
theorem dX1_fitted_191 : decode cX1_fitted 191 = .ok (.lload_n 3, 1) := by decide +kernel
theorem dX1_fitted_192 : decode cX1_fitted 192 = .ok (.lmul, 1) := by decide +kernel
theorem dX1_fitted_193 : decode cX1_fitted 193 = .ok (.ladd, 1) := by decide +kernel
theorem dX1_fitted_194 : decode cX1_fitted 194 = .ok (.lload_n 3, 1) := by decide +kernel
theorem dX1_fitted_195 : decode cX1_fitted 195 = .ok (.lload 13, 2) := by decide +kernel
theorem dX1_fitted_197 : decode cX1_fitted 197 = .ok (.lmul, 1) := by decide +kernel
theorem dX1_fitted_198 : decode cX1_fitted 198 = .ok (.iload_n 2, 1) := by decide +kernel
theorem dX1_fitted_199 : decode cX1_fitted 199 = .ok (.invokevirtual 57, 3) := by decide +kernel
theorem dX1_fitted_202 : decode cX1_fitted 202 = .ok (.lreturn, 1) := by decide +kernel
theorem dX1_table_0 : decode cX1_table 0 = .ok (.iload_n 1, 1) := by decide +kernel
theorem dX1_table_1 : decode cX1_table 1 = .ok (.iconst 0, 1) := by decide +kernel
theorem dX1_table_2 : decode cX1_table 2 = .ok (.sipush 2000, 3) := by decide +kernel
theorem dX1_table_5 : decode cX1_table 5 = .ok (.invokestatic 40, 3) := by decide +kernel
theorem dX1_table_8 : decode cX1_table 8 = .ok (.ifCond .eq 40, 3) := by decide +kernel
theorem dX1_table_11 : decode cX1_table 11 = .ok (.iload_n 2, 1) := by decide +kernel
theorem dX1_table_12 : decode cX1_table 12 = .ok (.iconst 0, 1) := by decide +kernel
theorem dX1_table_13 : decode cX1_table 13 = .ok (.sipush 2000, 3) := by decide +kernel
theorem dX1_table_16 : decode cX1_table 16 = .ok (.invokestatic 40, 3) := by decide +kernel
theorem dX1_table_19 : decode cX1_table 19 = .ok (.ifCond .eq 29, 3) := by decide +kernel
theorem dX1_table_22 : decode cX1_table 22 = .ok (.aload_n 0, 1) := by decide +kernel
theorem dX1_table_23 : decode cX1_table 23 = .ok (.getfield 86, 3) := by decide +kernel
theorem dX1_table_26 : decode cX1_table 26 = .ok (.ifCond .eq 18, 3) := by decide +kernel
theorem dX1_table_29 : decode cX1_table 29 = .ok (.iload_n 1, 1) := by decide +kernel
theorem dX1_table_30 : decode cX1_table 30 = .ok (.aload_n 0, 1) := by decide +kernel
theorem dX1_table_31 : decode cX1_table 31 = .ok (.getfield 22, 3) := by decide +kernel
theorem dX1_table_34 : decode cX1_table 34 = .ok (.aload_n 0, 1) := by decide +kernel
theorem dX1_table_35 : decode cX1_table 35 = .ok (.getfield 86, 3) := by decide +kernel
theorem dX1_table_38 : decode cX1_table 38 = .ok (.iconst 1, 1) := by decide +kernel
theorem dX1_table_39 : decode cX1_table 39 = .ok (.isub, 1) := by decide +kernel
theorem dX1_table_40 : decode cX1_table 40 = .ok (.iaload, 1) := by decide +kernel
theorem dX1_table_41 : decode cX1_table 41 = .ok (.if_icmp .le 7, 3) := by decide +kernel
theorem dX1_table_44 : decode cX1_table 44 = .ok (.iconst 1, 1) := by decide +kernel
theorem dX1_table_45 : decode cX1_table 45 = .ok (.goto 4, 3) := by decide +kernel
theorem dX1_table_48 : decode cX1_table 48 = .ok (.iconst 0, 1) := by decide +kernel
theorem dX1_table_49 : decode cX1_table 49 = .ok (.istore_n 3, 1) := by decide +kernel
theorem dX1_table_50 : decode cX1_table 50 = .ok (.aload_n 0, 1) := by decide +kernel
theorem dX1_table_51 : decode cX1_table 51 = .ok (.iload_n 3, 1) := by decide +kernel
theorem dX1_table_52 : decode cX1_table 52 = .ok (.aload_n 0, 1) := by decide +kernel
theorem dX1_table_53 : decode cX1_table 53 = .ok (.getfield 86, 3) := by decide +kernel
theorem dX1_table_56 : decode cX1_table 56 = .ok (.bipush 8, 2) := by decide +kernel
theorem dX1_table_58 : decode cX1_table 58 = .ok (.if_icmp .ge 7, 3) := by decide +kernel
theorem dX1_table_61 : decode cX1_table 61 = .ok (.iconst 1, 1) := by decide +kernel
theorem dX1_table_62 : decode cX1_table 62 = .ok (.goto 4, 3) := by decide +kernel
theorem dX1_table_65 : decode cX1_table 65 = .ok (.iconst 0, 1) := by decide +kernel
theorem dX1_table_66 : decode cX1_table 66 = .ok (.iconst 1, 1) := by decide +kernel
theorem dX1_table_67 : decode cX1_table 67 = .ok (.iconst 1, 1) := by decide +kernel
theorem dX1_table_68 : decode cX1_table 68 = .ok (.invokevirtual 47, 3) := by decide +kernel
theorem dX1_table_71 : decode cX1_table 71 = .ok (.ifCond .ne 5, 3) := by decide +kernel
theorem dX1_table_74 : decode cX1_table 74 = .ok (.iconst 0, 1) := by decide +kernel
end
section
theorem dX1_table_75 : decode cX1_table 75 = .ok (.ireturn, 1) := by decide +kernel
theorem dX1_table_76 : decode cX1_table 76 = .ok (.aload_n 0, 1) := by decide +kernel
theorem dX1_table_77 : decode cX1_table 77 = .ok (.getfield 22, 3) := by decide +kernel
theorem dX1_table_80 : decode cX1_table 80 = .ok (.aload_n 0, 1) := by decide +kernel
theorem dX1_table_81 : decode cX1_table 81 = .ok (.getfield 86, 3) := by decide +kernel
theorem dX1_table_84 : decode cX1_table 84 = .ok (.iload_n 1, 1) := by decide +kernel
theorem dX1_table_85 : decode cX1_table 85 = .ok (.iastore, 1) := by decide +kernel
theorem dX1_table_86 : decode cX1_table 86 = .ok (.aload_n 0, 1) := by decide +kernel
theorem dX1_table_87 : decode cX1_table 87 = .ok (.getfield 25, 3) := by decide +kernel
theorem dX1_table_90 : decode cX1_table 90 = .ok (.aload_n 0, 1) := by decide +kernel
theorem dX1_table_91 : decode cX1_table 91 = .ok (.getfield 86, 3) := by decide +kernel
theorem dX1_table_94 : decode cX1_table 94 = .ok (.iload_n 2, 1) := by decide +kernel
theorem dX1_table_95 : decode cX1_table 95 = .ok (.iastore, 1) := by decide +kernel
theorem dX1_table_96 : decode cX1_table 96 = .ok (.aload_n 0, 1) := by decide +kernel
theorem dX1_table_97 : decode cX1_table 97 = .ok (.dup, 1) := by decide +kernel
theorem dX1_table_98 : decode cX1_table 98 = .ok (.getfield 86, 3) := by decide +kernel
theorem dX1_table_101 : decode cX1_table 101 = .ok (.iconst 1, 1) := by decide +kernel
theorem dX1_table_102 : decode cX1_table 102 = .ok (.iadd, 1) := by decide +kernel
theorem dX1_table_103 : decode cX1_table 103 = .ok (.putfield 86, 3) := by decide +kernel
theorem dX1_table_106 : decode cX1_table 106 = .ok (.aload_n 0, 1) := by decide +kernel
theorem dX1_table_107 : decode cX1_table 107 = .ok (.getfield 86, 3) := by decide +kernel
theorem dX1_table_110 : decode cX1_table 110 = .ok (.ireturn, 1) := by decide +kernel
theorem dX1_convert_0 : decode cX1_convert 0 = .ok (.aload_n 0, 1) := by decide +kernel
theorem dX1_convert_1 : decode cX1_convert 1 = .ok (.getfield 86, 3) := by decide +kernel
theorem dX1_convert_4 : decode cX1_convert 4 = .ok (.ifCond .le 32, 3) := by decide +kernel
theorem dX1_convert_7 : decode cX1_convert 7 = .ok (.iload_n 1, 1) := by decide +kernel
theorem dX1_convert_8 : decode cX1_convert 8 = .ok (.aload_n 0, 1) := by decide +kernel
theorem dX1_convert_9 : decode cX1_convert 9 = .ok (.getfield 22, 3) := by decide +kernel
theorem dX1_convert_12 : decode cX1_convert 12 = .ok (.iconst 0, 1) := by decide +kernel
theorem dX1_convert_13 : decode cX1_convert 13 = .ok (.iaload, 1) := by decide +kernel
theorem dX1_convert_14 : decode cX1_convert 14 = .ok (.if_icmp .lt 22, 3) := by decide +kernel
theorem dX1_convert_17 : decode cX1_convert 17 = .ok (.iload_n 1, 1) := by decide +kernel
theorem dX1_convert_18 : decode cX1_convert 18 = .ok (.aload_n 0, 1) := by decide +kernel
theorem dX1_convert_19 : decode cX1_convert 19 = .ok (.getfield 22, 3) := by decide +kernel
theorem dX1_convert_22 : decode cX1_convert 22 = .ok (.aload_n 0, 1) := by decide +kernel
theorem dX1_convert_23 : decode cX1_convert 23 = .ok (.getfield 86, 3) := by decide +kernel
theorem dX1_convert_26 : decode cX1_convert 26 = .ok (.iconst 1, 1) := by decide +kernel
theorem dX1_convert_27 : decode cX1_convert 27 = .ok (.isub, 1) := by decide +kernel
theorem dX1_convert_28 : decode cX1_convert 28 = .ok (.iaload, 1) := by decide +kernel
theorem dX1_convert_29 : decode cX1_convert 29 = .ok (.if_icmp .gt 7, 3) := by decide +kernel
theorem dX1_convert_32 : decode cX1_convert 32 = .ok (.iconst 1, 1) := by decide +kernel
theorem dX1_convert_33 : decode cX1_convert 33 = .ok (.goto 4, 3) := by decide +kernel
theorem dX1_convert_36 : decode cX1_convert 36 = .ok (.iconst 0, 1) := by decide +kernel
theorem dX1_convert_37 : decode cX1_convert 37 = .ok (.istore_n 3, 1) := by decide +kernel
theorem dX1_convert_38 : decode cX1_convert 38 = .ok (.aload_n 0, 1) := by decide +kernel
theorem dX1_convert_39 : decode cX1_convert 39 = .ok (.iload_n 2, 1) := by decide +kernel
theorem dX1_convert_40 : decode cX1_convert 40 = .ok (.iconst 0, 1) := by decide +kernel
theorem dX1_convert_41 : decode cX1_convert 41 = .ok (.iconst 2, 1) := by decide +kernel
theorem dX1_convert_42 : decode cX1_convert 42 = .ok (.invokestatic 40, 3) := by decide +kernel
theorem dX1_convert_45 : decode cX1_convert 45 = .ok (.aload_n 0, 1) := by decide +kernel
theorem dX1_convert_46 : decode cX1_convert 46 = .ok (.getfield 86, 3) := by decide +kernel
theorem dX1_convert_49 : decode cX1_convert 49 = .ok (.ifCond .le 7, 3) := by decide +kernel
theorem dX1_convert_52 : decode cX1_convert 52 = .ok (.iconst 1, 1) := by decide +kernel
theorem dX1_convert_53 : decode cX1_convert 53 = .ok (.goto 4, 3) := by decide +kernel
theorem dX1_convert_56 : decode cX1_convert 56 = .ok (.iconst 0, 1) := by decide +kernel
theorem dX1_convert_57 : decode cX1_convert 57 = .ok (.iload_n 1, 1) := by decide +kernel
theorem dX1_convert_58 : decode cX1_convert 58 = .ok (.iconst 0, 1) := by decide +kernel
theorem dX1_convert_59 : decode cX1_convert 59 = .ok (.sipush 2000, 3) := by decide +kernel
theorem dX1_convert_62 : decode cX1_convert 62 = .ok (.invokestatic 40, 3) := by decide +kernel
theorem dX1_convert_65 : decode cX1_convert 65 = .ok (.iload_n 3, 1) := by decide +kernel
theorem dX1_convert_66 : decode cX1_convert 66 = .ok (.invokevirtual 47, 3) := by decide +kernel
theorem dX1_convert_69 : decode cX1_convert 69 = .ok (.ifCond .ne 5, 3) := by decide +kernel
theorem dX1_convert_72 : decode cX1_convert 72 = .ok (.iconst 0, 1) := by decide +kernel
theorem dX1_convert_73 : decode cX1_convert 73 = .ok (.ireturn, 1) := by decide +kernel
theorem dX1_convert_74 : decode cX1_convert 74 = .ok (.iconst 0, 1) := by decide +kernel
theorem dX1_convert_75 : decode cX1_convert 75 = .ok (.istore 4, 2) := by decide +kernel
theorem dX1_convert_77 : decode cX1_convert 77 = .ok (.iload 4, 2) := by decide +kernel
theorem dX1_convert_79 : decode cX1_convert 79 = .ok (.aload_n 0, 1) := by decide +kernel
theorem dX1_convert_80 : decode cX1_convert 80 = .ok (.getfield 86, 3) := by decide +kernel
theorem dX1_convert_83 : decode cX1_convert 83 = .ok (.if_icmp .ge 113, 3) := by decide +kernel
theorem dX1_convert_86 : decode cX1_convert 86 = .ok (.iload_n 1, 1) := by decide +kernel
theorem dX1_convert_87 : decode cX1_convert 87 = .ok (.aload_n 0, 1) := by decide +kernel
theorem dX1_convert_88 : decode cX1_convert 88 = .ok (.getfield 22, 3) := by decide +kernel
theorem dX1_convert_91 : decode cX1_convert 91 = .ok (.iload 4, 2) := by decide +kernel
theorem dX1_convert_93 : decode cX1_convert 93 = .ok (.iaload, 1) := by decide +kernel
theorem dX1_convert_94 : decode cX1_convert 94 = .ok (.if_icmp .le 6, 3) := by decide +kernel
theorem dX1_convert_97 : decode cX1_convert 97 = .ok (.goto 93, 3) := by decide +kernel
theorem dX1_convert_100 : decode cX1_convert 100 = .ok (.iload_n 1, 1) := by decide +kernel
theorem dX1_convert_101 : decode cX1_convert 101 = .ok (.aload_n 0, 1) := by decide +kernel
theorem dX1_convert_102 : decode cX1_convert 102 = .ok (.getfield 22, 3) := by decide +kernel
theorem dX1_convert_105 : decode cX1_convert 105 = .ok (.iload 4, 2) := by decide +kernel
theorem dX1_convert_107 : decode cX1_convert 107 = .ok (.iaload, 1) := by decide +kernel
theorem dX1_convert_108 : decode cX1_convert 108 = .ok (.if_icmp .ne 11, 3) := by decide +kernel
theorem dX1_convert_111 : decode cX1_convert 111 = .ok (.aload_n 0, 1) := by decide +kernel
theorem dX1_convert_112 : decode cX1_convert 112 = .ok (.getfield 25, 3) := by decide +kernel
theorem dX1_convert_115 : decode cX1_convert 115 = .ok (.iload 4, 2) := by decide +kernel
theorem dX1_convert_117 : decode cX1_convert 117 = .ok (.iaload, 1) := by decide +kernel
theorem dX1_convert_118 : decode cX1_convert 118 = .ok (.ireturn, 1) := by decide +kernel
theorem dX1_convert_119 : decode cX1_convert 119 = .ok (.aload_n 0, 1) := by decide +kernel
theorem dX1_convert_120 : decode cX1_convert 120 = .ok (.getfield 22, 3) := by decide +kernel
theorem dX1_convert_123 : decode cX1_convert 123 = .ok (.iload 4, 2) := by decide +kernel
theorem dX1_convert_125 : decode cX1_convert 125 = .ok (.iaload, 1) := by decide +kernel
theorem dX1_convert_126 : decode cX1_convert 126 = .ok (.aload_n 0, 1) := by decide +kernel
theorem dX1_convert_127 : decode cX1_convert 127 = .ok (.getfield 22, 3) := by decide +kernel
theorem dX1_convert_130 : decode cX1_convert 130 = .ok (.iload 4, 2) := by decide +kernel
theorem dX1_convert_132 : decode cX1_convert 132 = .ok (.iconst 1, 1) := by decide +kernel
theorem dX1_convert_133 : decode cX1_convert 133 = .ok (.isub, 1) := by decide +kernel
theorem dX1_convert_134 : decode cX1_convert 134 = .ok (.iaload, 1) := by decide +kernel
theorem dX1_convert_135 : decode cX1_convert 135 = .ok (.isub, 1) := by decide +kernel
theorem dX1_convert_136 : decode cX1_convert 136 = .ok (.istore 5, 2) := by decide +kernel
theorem dX1_convert_138 : decode cX1_convert 138 = .ok (.aload_n 0, 1) := by decide +kernel
theorem dX1_convert_139 : decode cX1_convert 139 = .ok (.getfield 25, 3) := by decide +kernel
theorem dX1_convert_142 : decode cX1_convert 142 = .ok (.iload 4, 2) := by decide +kernel
theorem dX1_convert_144 : decode cX1_convert 144 = .ok (.iconst 1, 1) := by decide +kernel
theorem dX1_convert_145 : decode cX1_convert 145 = .ok (.isub, 1) := by decide +kernel
theorem dX1_convert_146 : decode cX1_convert 146 = .ok (.iaload, 1) := by decide +kernel
theorem dX1_convert_147 : decode cX1_convert 147 = .ok (.iload 5, 2) := by decide +kernel
theorem dX1_convert_149 : decode cX1_convert 149 = .ok (.imul, 1) := by decide +kernel
theorem dX1_convert_150 : decode cX1_convert 150 = .ok (.aload_n 0, 1) := by decide +kernel
theorem dX1_convert_151 : decode cX1_convert 151 = .ok (.getfield 25, 3) := by decide +kernel
theorem dX1_convert_154 : decode cX1_convert 154 = .ok (.iload 4, 2) := by decide +kernel
theorem dX1_convert_156 : decode cX1_convert 156 = .ok (.iaload, 1) := by decide +kernel
theorem dX1_convert_157 : decode cX1_convert 157 = .ok (.aload_n 0, 1) := by decide +kernel
theorem dX1_convert_158 : decode cX1_convert 158 = .ok (.getfield 25, 3) := by decide +kernel
theorem dX1_convert_161 : decode cX1_convert 161 = .ok (.iload 4, 2) := by decide +kernel
theorem dX1_convert_163 : decode cX1_convert 163 = .ok (.iconst 1, 1) := by decide +kernel
theorem dX1_convert_164 : decode cX1_convert 164 = .ok (.isub, 1) := by decide +kernel
theorem dX1_convert_165 : decode cX1_convert 165 = .ok (.iaload, 1) := by decide +kernel
theorem dX1_convert_166 : decode cX1_convert 166 = .ok (.isub, 1) := by decide +kernel
theorem dX1_convert_167 : decode cX1_convert 167 = .ok (.iload_n 1, 1) := by decide +kernel
theorem dX1_convert_168 : decode cX1_convert 168 = .ok (.aload_n 0, 1) := by decide +kernel
theorem dX1_convert_169 : decode cX1_convert 169 = .ok (.getfield 22, 3) := by decide +kernel
theorem dX1_convert_172 : decode cX1_convert 172 = .ok (.iload 4, 2) := by decide +kernel
theorem dX1_convert_174 : decode cX1_convert 174 = .ok (.iconst 1, 1) := by decide +kernel
theorem dX1_convert_175 : decode cX1_convert 175 = .ok (.isub, 1) := by decide +kernel
theorem dX1_convert_176 : decode cX1_convert 176 = .ok (.iaload, 1) := by decide +kernel
theorem dX1_convert_177 : decode cX1_convert 177 = .ok (.isub, 1) := by decide +kernel
theorem dX1_convert_178 : decode cX1_convert 178 = .ok (.imul, 1) := by decide +kernel
theorem dX1_convert_179 : decode cX1_convert 179 = .ok (.iadd, 1) := by decide +kernel
theorem dX1_convert_180 : decode cX1_convert 180 = .ok (.i2l, 1) := by decide +kernel
theorem dX1_convert_181 : decode cX1_convert 181 = .ok (.iload 5, 2) := by decide +kernel
theorem dX1_convert_183 : decode cX1_convert 183 = .ok (.i2l, 1) := by decide +kernel
theorem dX1_convert_184 : decode cX1_convert 184 = .ok (.iload_n 2, 1) := by decide +kernel
theorem dX1_convert_185 : decode cX1_convert 185 = .ok (.invokestatic 89, 3) := by decide +kernel
theorem dX1_convert_188 : decode cX1_convert 188 = .ok (.l2i, 1) := by decide +kernel
theorem dX1_convert_189 : decode cX1_convert 189 = .ok (.ireturn, 1) := by decide +kernel
theorem dX1_convert_190 : decode cX1_convert 190 = .ok (.iinc 4 1, 3) := by decide +kernel
theorem dX1_convert_193 : decode cX1_convert 193 = .ok (.goto (-116), 3) := by decide +kernel
theorem dX1_convert_196 : decode cX1_convert 196 = .ok (.iconst 0, 1) := by decide +kernel
theorem dX1_convert_197 : decode cX1_convert 197 = .ok (.ireturn, 1) := by decide +kernel
theorem dX1_rounded_0 : decode cX1_rounded 0 = .ok (.lload_n 0, 1) := by decide +kernel
theorem dX1_rounded_1 : decode cX1_rounded 1 = .ok (.lload_n 2, 1) := by decide +kernel
theorem dX1_rounded_2 : decode cX1_rounded 2 = .ok (.ldiv, 1) := by decide +kernel
theorem dX1_rounded_3 : decode cX1_rounded 3 = .ok (.lstore 5, 2) := by decide +kernel
theorem dX1_rounded_5 : decode cX1_rounded 5 = .ok (.lload 5, 2) := by decide +kernel
theorem dX1_rounded_7 : decode cX1_rounded 7 = .ok (.lload_n 2, 1) := by decide +kernel
theorem dX1_rounded_8 : decode cX1_rounded 8 = .ok (.lmul, 1) := by decide +kernel
theorem dX1_rounded_9 : decode cX1_rounded 9 = .ok (.lload_n 0, 1) := by decide +kernel
theorem dX1_rounded_10 : decode cX1_rounded 10 = .ok (.lcmp, 1) := by decide +kernel
theorem dX1_rounded_11 : decode cX1_rounded 11 = .ok (.ifCond .le 9, 3) := by decide +kernel
theorem dX1_rounded_14 : decode cX1_rounded 14 = .ok (.lload 5, 2) := by decide +kernel
theorem dX1_rounded_16 : decode cX1_rounded 16 = .ok (.lconst 1, 1) := by decide +kernel
theorem dX1_rounded_17 : decode cX1_rounded 17 = .ok (.lsub, 1) := by decide +kernel
theorem dX1_rounded_18 : decode cX1_rounded 18 = .ok (.lstore 5, 2) := by decide +kernel
theorem dX1_rounded_20 : decode cX1_rounded 20 = .ok (.lload_n 0, 1) := by decide +kernel
theorem dX1_rounded_21 : decode cX1_rounded 21 = .ok (.lload 5, 2) := by decide +kernel
theorem dX1_rounded_23 : decode cX1_rounded 23 = .ok (.lload_n 2, 1) := by decide +kernel
theorem dX1_rounded_24 : decode cX1_rounded 24 = .ok (.lmul, 1) := by decide +kernel
theorem dX1_rounded_25 : decode cX1_rounded 25 = .ok (.lsub, 1) := by decide +kernel
theorem dX1_rounded_26 : decode cX1_rounded 26 = .ok (.lstore 7, 2) := by decide +kernel
theorem dX1_rounded_28 : decode cX1_rounded 28 = .ok (.iload 4, 2) := by decide +kernel
theorem dX1_rounded_30 : decode cX1_rounded 30 = .ok (.ifCond .ne 22, 3) := by decide +kernel
theorem dX1_rounded_33 : decode cX1_rounded 33 = .ok (.ldc2_w 84, 3) := by decide +kernel
theorem dX1_rounded_36 : decode cX1_rounded 36 = .ok (.lload 7, 2) := by decide +kernel
theorem dX1_rounded_38 : decode cX1_rounded 38 = .ok (.lmul, 1) := by decide +kernel
theorem dX1_rounded_39 : decode cX1_rounded 39 = .ok (.lload_n 2, 1) := by decide +kernel
theorem dX1_rounded_40 : decode cX1_rounded 40 = .ok (.lcmp, 1) := by decide +kernel
theorem dX1_rounded_41 : decode cX1_rounded 41 = .ok (.ifCond .lt 7, 3) := by decide +kernel
theorem dX1_rounded_44 : decode cX1_rounded 44 = .ok (.iconst 1, 1) := by decide +kernel
theorem dX1_rounded_45 : decode cX1_rounded 45 = .ok (.goto 49, 3) := by decide +kernel
theorem dX1_rounded_48 : decode cX1_rounded 48 = .ok (.iconst 0, 1) := by decide +kernel
theorem dX1_rounded_49 : decode cX1_rounded 49 = .ok (.goto 45, 3) := by decide +kernel
theorem dX1_rounded_52 : decode cX1_rounded 52 = .ok (.iload 4, 2) := by decide +kernel
theorem dX1_rounded_54 : decode cX1_rounded 54 = .ok (.iconst 1, 1) := by decide +kernel
theorem dX1_rounded_55 : decode cX1_rounded 55 = .ok (.if_icmp .ne 38, 3) := by decide +kernel
theorem dX1_rounded_58 : decode cX1_rounded 58 = .ok (.ldc2_w 84, 3) := by decide +kernel
theorem dX1_rounded_61 : decode cX1_rounded 61 = .ok (.lload 7, 2) := by decide +kernel
theorem dX1_rounded_63 : decode cX1_rounded 63 = .ok (.lmul, 1) := by decide +kernel
theorem dX1_rounded_64 : decode cX1_rounded 64 = .ok (.lload_n 2, 1) := by decide +kernel
theorem dX1_rounded_65 : decode cX1_rounded 65 = .ok (.lcmp, 1) := by decide +kernel
theorem dX1_rounded_66 : decode cX1_rounded 66 = .ok (.ifCond .gt 23, 3) := by decide +kernel
theorem dX1_rounded_69 : decode cX1_rounded 69 = .ok (.ldc2_w 84, 3) := by decide +kernel
theorem dX1_rounded_72 : decode cX1_rounded 72 = .ok (.lload 7, 2) := by decide +kernel
theorem dX1_rounded_74 : decode cX1_rounded 74 = .ok (.lmul, 1) := by decide +kernel
theorem dX1_rounded_75 : decode cX1_rounded 75 = .ok (.lload_n 2, 1) := by decide +kernel
theorem dX1_rounded_76 : decode cX1_rounded 76 = .ok (.lcmp, 1) := by decide +kernel
theorem dX1_rounded_77 : decode cX1_rounded 77 = .ok (.ifCond .ne 16, 3) := by decide +kernel
theorem dX1_rounded_80 : decode cX1_rounded 80 = .ok (.lload 5, 2) := by decide +kernel
theorem dX1_rounded_82 : decode cX1_rounded 82 = .ok (.lconst 1, 1) := by decide +kernel
theorem dX1_rounded_83 : decode cX1_rounded 83 = .ok (.land, 1) := by decide +kernel
theorem dX1_rounded_84 : decode cX1_rounded 84 = .ok (.lconst 1, 1) := by decide +kernel
theorem dX1_rounded_85 : decode cX1_rounded 85 = .ok (.lcmp, 1) := by decide +kernel
theorem dX1_rounded_86 : decode cX1_rounded 86 = .ok (.ifCond .ne 7, 3) := by decide +kernel
theorem dX1_rounded_89 : decode cX1_rounded 89 = .ok (.iconst 1, 1) := by decide +kernel
theorem dX1_rounded_90 : decode cX1_rounded 90 = .ok (.goto 4, 3) := by decide +kernel
theorem dX1_rounded_93 : decode cX1_rounded 93 = .ok (.iconst 0, 1) := by decide +kernel
theorem dX1_rounded_94 : decode cX1_rounded 94 = .ok (.istore 9, 2) := by decide +kernel
theorem dX1_rounded_96 : decode cX1_rounded 96 = .ok (.iload 9, 2) := by decide +kernel
theorem dX1_rounded_98 : decode cX1_rounded 98 = .ok (.ifCond .eq 10, 3) := by decide +kernel
theorem dX1_rounded_101 : decode cX1_rounded 101 = .ok (.lload 5, 2) := by decide +kernel
theorem dX1_rounded_103 : decode cX1_rounded 103 = .ok (.lconst 1, 1) := by decide +kernel
theorem dX1_rounded_104 : decode cX1_rounded 104 = .ok (.ladd, 1) := by decide +kernel
theorem dX1_rounded_105 : decode cX1_rounded 105 = .ok (.goto 5, 3) := by decide +kernel
theorem dX1_rounded_108 : decode cX1_rounded 108 = .ok (.lload 5, 2) := by decide +kernel
theorem dX1_rounded_110 : decode cX1_rounded 110 = .ok (.lreturn, 1) := by decide +kernel
theorem dX1_round_0 : decode cX1_round 0 = .ok (.aload_n 0, 1) := by decide +kernel
theorem dX1_round_1 : decode cX1_round 1 = .ok (.iload 5, 2) := by decide +kernel
theorem dX1_round_3 : decode cX1_round 3 = .ok (.iconst 0, 1) := by decide +kernel
theorem dX1_round_4 : decode cX1_round 4 = .ok (.iconst 2, 1) := by decide +kernel
theorem dX1_round_5 : decode cX1_round 5 = .ok (.invokestatic 40, 3) := by decide +kernel
theorem dX1_round_8 : decode cX1_round 8 = .ok (.lload_n 3, 1) := by decide +kernel
theorem dX1_round_9 : decode cX1_round 9 = .ok (.lconst 1, 1) := by decide +kernel
theorem dX1_round_10 : decode cX1_round 10 = .ok (.ldc2_w 92, 3) := by decide +kernel
theorem dX1_round_13 : decode cX1_round 13 = .ok (.invokestatic 94, 3) := by decide +kernel
theorem dX1_round_16 : decode cX1_round 16 = .ok (.ifCond .eq 20, 3) := by decide +kernel
theorem dX1_round_19 : decode cX1_round 19 = .ok (.lload_n 1, 1) := by decide +kernel
theorem dX1_round_20 : decode cX1_round 20 = .ok (.ldc2_w 98, 3) := by decide +kernel
theorem dX1_round_23 : decode cX1_round 23 = .ok (.ldc2_w 92, 3) := by decide +kernel
theorem dX1_round_26 : decode cX1_round 26 = .ok (.invokestatic 94, 3) := by decide +kernel
theorem dX1_round_29 : decode cX1_round 29 = .ok (.ifCond .eq 7, 3) := by decide +kernel
theorem dX1_round_32 : decode cX1_round 32 = .ok (.iconst 1, 1) := by decide +kernel
theorem dX1_round_33 : decode cX1_round 33 = .ok (.goto 4, 3) := by decide +kernel
theorem dX1_round_36 : decode cX1_round 36 = .ok (.iconst 0, 1) := by decide +kernel
theorem dX1_round_37 : decode cX1_round 37 = .ok (.iconst 1, 1) := by decide +kernel
theorem dX1_round_38 : decode cX1_round 38 = .ok (.iconst 1, 1) := by decide +kernel
theorem dX1_round_39 : decode cX1_round 39 = .ok (.invokevirtual 47, 3) := by decide +kernel
theorem dX1_round_42 : decode cX1_round 42 = .ok (.ifCond .ne 5, 3) := by decide +kernel
theorem dX1_round_45 : decode cX1_round 45 = .ok (.lconst 0, 1) := by decide +kernel
theorem dX1_round_46 : decode cX1_round 46 = .ok (.lreturn, 1) := by decide +kernel
theorem dX1_round_47 : decode cX1_round 47 = .ok (.lload_n 1, 1) := by decide +kernel
theorem dX1_round_48 : decode cX1_round 48 = .ok (.lload_n 3, 1) := by decide +kernel
theorem dX1_round_49 : decode cX1_round 49 = .ok (.iload 5, 2) := by decide +kernel
theorem dX1_round_51 : decode cX1_round 51 = .ok (.invokestatic 89, 3) := by decide +kernel
theorem dX1_round_54 : decode cX1_round 54 = .ok (.lreturn, 1) := by decide +kernel
theorem dX1_in8_0 : decode cX1_in8 0 = .ok (.lload_n 0, 1) := by decide +kernel
theorem dX1_in8_1 : decode cX1_in8 1 = .ok (.lload_n 2, 1) := by decide +kernel
theorem dX1_in8_2 : decode cX1_in8 2 = .ok (.lcmp, 1) := by decide +kernel
theorem dX1_in8_3 : decode cX1_in8 3 = .ok (.ifCond .lt 14, 3) := by decide +kernel
theorem dX1_in8_6 : decode cX1_in8 6 = .ok (.lload_n 0, 1) := by decide +kernel
theorem dX1_in8_7 : decode cX1_in8 7 = .ok (.lload 4, 2) := by decide +kernel
theorem dX1_in8_9 : decode cX1_in8 9 = .ok (.lcmp, 1) := by decide +kernel
theorem dX1_in8_10 : decode cX1_in8 10 = .ok (.ifCond .gt 7, 3) := by decide +kernel
theorem dX1_in8_13 : decode cX1_in8 13 = .ok (.iconst 1, 1) := by decide +kernel
theorem dX1_in8_14 : decode cX1_in8 14 = .ok (.goto 4, 3) := by decide +kernel
theorem dX1_in8_17 : decode cX1_in8 17 = .ok (.iconst 0, 1) := by decide +kernel
theorem dX1_in8_18 : decode cX1_in8 18 = .ok (.ireturn, 1) := by decide +kernel
theorem dX1_machine_0 : decode cX1_machine 0 = .ok (.aload_n 0, 1) := by decide +kernel
theorem dX1_machine_1 : decode cX1_machine 1 = .ok (.iload_n 1, 1) := by decide +kernel
theorem dX1_machine_2 : decode cX1_machine 2 = .ok (.iconst 1, 1) := by decide +kernel
theorem dX1_machine_3 : decode cX1_machine 3 = .ok (.ldc 39, 2) := by decide +kernel
theorem dX1_machine_5 : decode cX1_machine 5 = .ok (.invokestatic 40, 3) := by decide +kernel
theorem dX1_machine_8 : decode cX1_machine 8 = .ok (.ifCond .eq 17, 3) := by decide +kernel
theorem dX1_machine_11 : decode cX1_machine 11 = .ok (.iload_n 2, 1) := by decide +kernel
theorem dX1_machine_12 : decode cX1_machine 12 = .ok (.iconst 1, 1) := by decide +kernel
theorem dX1_machine_13 : decode cX1_machine 13 = .ok (.ldc 39, 2) := by decide +kernel
theorem dX1_machine_15 : decode cX1_machine 15 = .ok (.invokestatic 40, 3) := by decide +kernel
theorem dX1_machine_18 : decode cX1_machine 18 = .ok (.ifCond .eq 7, 3) := by decide +kernel
theorem dX1_machine_21 : decode cX1_machine 21 = .ok (.iconst 1, 1) := by decide +kernel
theorem dX1_machine_22 : decode cX1_machine 22 = .ok (.goto 4, 3) := by decide +kernel
theorem dX1_machine_25 : decode cX1_machine 25 = .ok (.iconst 0, 1) := by decide +kernel
theorem dX1_machine_26 : decode cX1_machine 26 = .ok (.iconst 1, 1) := by decide +kernel
theorem dX1_machine_27 : decode cX1_machine 27 = .ok (.iconst 1, 1) := by decide +kernel
theorem dX1_machine_28 : decode cX1_machine 28 = .ok (.iconst 1, 1) := by decide +kernel
theorem dX1_machine_29 : decode cX1_machine 29 = .ok (.invokevirtual 47, 3) := by decide +kernel
theorem dX1_machine_32 : decode cX1_machine 32 = .ok (.ifCond .ne 5, 3) := by decide +kernel
theorem dX1_machine_35 : decode cX1_machine 35 = .ok (.iconst 0, 1) := by decide +kernel
theorem dX1_machine_36 : decode cX1_machine 36 = .ok (.ireturn, 1) := by decide +kernel
theorem dX1_machine_37 : decode cX1_machine 37 = .ok (.iload_n 1, 1) := by decide +kernel
theorem dX1_machine_38 : decode cX1_machine 38 = .ok (.iload_n 2, 1) := by decide +kernel
theorem dX1_machine_39 : decode cX1_machine 39 = .ok (.if_icmp .le 9, 3) := by decide +kernel
theorem dX1_machine_42 : decode cX1_machine 42 = .ok (.iload_n 1, 1) := by decide +kernel
theorem dX1_machine_43 : decode cX1_machine 43 = .ok (.iload_n 2, 1) := by decide +kernel
theorem dX1_machine_44 : decode cX1_machine 44 = .ok (.isub, 1) := by decide +kernel
theorem dX1_machine_45 : decode cX1_machine 45 = .ok (.goto 6, 3) := by decide +kernel
theorem dX1_machine_48 : decode cX1_machine 48 = .ok (.iload_n 2, 1) := by decide +kernel
theorem dX1_machine_49 : decode cX1_machine 49 = .ok (.iload_n 1, 1) := by decide +kernel
theorem dX1_machine_50 : decode cX1_machine 50 = .ok (.isub, 1) := by decide +kernel
theorem dX1_machine_51 : decode cX1_machine 51 = .ok (.istore_n 3, 1) := by decide +kernel
theorem dX1_machine_52 : decode cX1_machine 52 = .ok (.aload_n 0, 1) := by decide +kernel
theorem dX1_machine_53 : decode cX1_machine 53 = .ok (.iload_n 3, 1) := by decide +kernel
theorem dX1_machine_54 : decode cX1_machine 54 = .ok (.bipush 100, 2) := by decide +kernel
theorem dX1_machine_56 : decode cX1_machine 56 = .ok (.imul, 1) := by decide +kernel
theorem dX1_machine_57 : decode cX1_machine 57 = .ok (.iload_n 1, 1) := by decide +kernel
theorem dX1_machine_58 : decode cX1_machine 58 = .ok (.if_icmp .le 7, 3) := by decide +kernel
theorem dX1_machine_61 : decode cX1_machine 61 = .ok (.iconst 1, 1) := by decide +kernel
theorem dX1_machine_62 : decode cX1_machine 62 = .ok (.goto 4, 3) := by decide +kernel
theorem dX1_machine_65 : decode cX1_machine 65 = .ok (.iconst 0, 1) := by decide +kernel
theorem dX1_machine_66 : decode cX1_machine 66 = .ok (.putfield 100, 3) := by decide +kernel
theorem dX1_machine_69 : decode cX1_machine 69 = .ok (.aload_n 0, 1) := by decide +kernel
theorem dX1_machine_70 : decode cX1_machine 70 = .ok (.getfield 100, 3) := by decide +kernel
theorem dX1_machine_73 : decode cX1_machine 73 = .ok (.ireturn, 1) := by decide +kernel
theorem dX1_invalid_0 : decode cX1_invalid 0 = .ok (.aload_n 0, 1) := by decide +kernel
theorem dX1_invalid_1 : decode cX1_invalid 1 = .ok (.iconst 0, 1) := by decide +kernel
theorem dX1_invalid_2 : decode cX1_invalid 2 = .ok (.putfield 28, 3) := by decide +kernel
theorem dX1_invalid_5 : decode cX1_invalid 5 = .ok (.aload_n 0, 1) := by decide +kernel
theorem dX1_invalid_6 : decode cX1_invalid 6 = .ok (.getfield 51, 3) := by decide +kernel
theorem dX1_invalid_9 : decode cX1_invalid 9 = .ok (.ifCond .ne 5, 3) := by decide +kernel
theorem dX1_invalid_12 : decode cX1_invalid 12 = .ok (.iconst 1, 1) := by decide +kernel
theorem dX1_invalid_13 : decode cX1_invalid 13 = .ok (.ireturn, 1) := by decide +kernel
theorem dX1_invalid_14 : decode cX1_invalid 14 = .ok (.aload_n 0, 1) := by decide +kernel
theorem dX1_invalid_15 : decode cX1_invalid 15 = .ok (.getfield 44, 3) := by decide +kernel
theorem dX1_invalid_18 : decode cX1_invalid 18 = .ok (.iconst 5, 1) := by decide +kernel
theorem dX1_invalid_19 : decode cX1_invalid 19 = .ok (.if_icmp .ge 5, 3) := by decide +kernel
theorem dX1_invalid_22 : decode cX1_invalid 22 = .ok (.iconst 2, 1) := by decide +kernel
theorem dX1_invalid_23 : decode cX1_invalid 23 = .ok (.ireturn, 1) := by decide +kernel
theorem dX1_invalid_24 : decode cX1_invalid 24 = .ok (.aload_n 0, 1) := by decide +kernel
theorem dX1_invalid_25 : decode cX1_invalid 25 = .ok (.invokevirtual 77, 3) := by decide +kernel
theorem dX1_invalid_28 : decode cX1_invalid 28 = .ok (.istore_n 1, 1) := by decide +kernel
theorem dX1_invalid_29 : decode cX1_invalid 29 = .ok (.iload_n 1, 1) := by decide +kernel
theorem dX1_invalid_30 : decode cX1_invalid 30 = .ok (.ifCond .ne 5, 3) := by decide +kernel
theorem dX1_invalid_33 : decode cX1_invalid 33 = .ok (.iconst 3, 1) := by decide +kernel
theorem dX1_invalid_34 : decode cX1_invalid 34 = .ok (.ireturn, 1) := by decide +kernel
theorem dX1_invalid_35 : decode cX1_invalid 35 = .ok (.iload_n 1, 1) := by decide +kernel
theorem dX1_invalid_36 : decode cX1_invalid 36 = .ok (.aload_n 0, 1) := by decide +kernel
theorem dX1_invalid_37 : decode cX1_invalid 37 = .ok (.getfield 44, 3) := by decide +kernel
theorem dX1_invalid_40 : decode cX1_invalid 40 = .ok (.iconst 1, 1) := by decide +kernel
theorem dX1_invalid_41 : decode cX1_invalid 41 = .ok (.isub, 1) := by decide +kernel
theorem dX1_invalid_42 : decode cX1_invalid 42 = .ok (.if_icmp .ne 7, 3) := by decide +kernel
theorem dX1_invalid_45 : decode cX1_invalid 45 = .ok (.iconst 1, 1) := by decide +kernel
theorem dX1_invalid_46 : decode cX1_invalid 46 = .ok (.goto 4, 3) := by decide +kernel
theorem dX1_invalid_49 : decode cX1_invalid 49 = .ok (.iconst 0, 1) := by decide +kernel
theorem dX1_invalid_50 : decode cX1_invalid 50 = .ok (.istore_n 2, 1) := by decide +kernel
theorem dX1_invalid_51 : decode cX1_invalid 51 = .ok (.iload_n 1, 1) := by decide +kernel
theorem dX1_invalid_52 : decode cX1_invalid 52 = .ok (.iconst 1, 1) := by decide +kernel
theorem dX1_invalid_53 : decode cX1_invalid 53 = .ok (.iadd, 1) := by decide +kernel
theorem dX1_invalid_54 : decode cX1_invalid 54 = .ok (.istore_n 3, 1) := by decide +kernel
theorem dX1_invalid_55 : decode cX1_invalid 55 = .ok (.iload_n 3, 1) := by decide +kernel
theorem dX1_invalid_56 : decode cX1_invalid 56 = .ok (.aload_n 0, 1) := by decide +kernel
theorem dX1_invalid_57 : decode cX1_invalid 57 = .ok (.getfield 44, 3) := by decide +kernel
theorem dX1_invalid_60 : decode cX1_invalid 60 = .ok (.if_icmp .ge 28, 3) := by decide +kernel
theorem dX1_invalid_63 : decode cX1_invalid 63 = .ok (.iconst 2, 1) := by decide +kernel
theorem dX1_invalid_64 : decode cX1_invalid 64 = .ok (.aload_n 0, 1) := by decide +kernel
theorem dX1_invalid_65 : decode cX1_invalid 65 = .ok (.getfield 13, 3) := by decide +kernel
theorem dX1_invalid_68 : decode cX1_invalid 68 = .ok (.iload_n 3, 1) := by decide +kernel
theorem dX1_invalid_69 : decode cX1_invalid 69 = .ok (.iaload, 1) := by decide +kernel
theorem dX1_invalid_70 : decode cX1_invalid 70 = .ok (.imul, 1) := by decide +kernel
theorem dX1_invalid_71 : decode cX1_invalid 71 = .ok (.aload_n 0, 1) := by decide +kernel
theorem dX1_invalid_72 : decode cX1_invalid 72 = .ok (.getfield 13, 3) := by decide +kernel
theorem dX1_invalid_75 : decode cX1_invalid 75 = .ok (.iload_n 1, 1) := by decide +kernel
theorem dX1_invalid_76 : decode cX1_invalid 76 = .ok (.iaload, 1) := by decide +kernel
theorem dX1_invalid_77 : decode cX1_invalid 77 = .ok (.if_icmp .ge 5, 3) := by decide +kernel
theorem dX1_invalid_80 : decode cX1_invalid 80 = .ok (.iconst 1, 1) := by decide +kernel
theorem dX1_invalid_81 : decode cX1_invalid 81 = .ok (.istore_n 2, 1) := by decide +kernel
theorem dX1_invalid_82 : decode cX1_invalid 82 = .ok (.iinc 3 1, 3) := by decide +kernel
theorem dX1_invalid_85 : decode cX1_invalid 85 = .ok (.goto (-30), 3) := by decide +kernel
theorem dX1_invalid_88 : decode cX1_invalid 88 = .ok (.iload_n 2, 1) := by decide +kernel
theorem dX1_invalid_89 : decode cX1_invalid 89 = .ok (.ifCond .ne 5, 3) := by decide +kernel
theorem dX1_invalid_92 : decode cX1_invalid 92 = .ok (.iconst 4, 1) := by decide +kernel
theorem dX1_invalid_93 : decode cX1_invalid 93 = .ok (.ireturn, 1) := by decide +kernel
theorem dX1_invalid_94 : decode cX1_invalid 94 = .ok (.aload_n 0, 1) := by decide +kernel
theorem dX1_invalid_95 : decode cX1_invalid 95 = .ok (.getfield 100, 3) := by decide +kernel
theorem dX1_invalid_98 : decode cX1_invalid 98 = .ok (.ifCond .eq 7, 3) := by decide +kernel
theorem dX1_invalid_101 : decode cX1_invalid 101 = .ok (.iconst 5, 1) := by decide +kernel
theorem dX1_invalid_102 : decode cX1_invalid 102 = .ok (.goto 4, 3) := by decide +kernel
theorem dX1_invalid_105 : decode cX1_invalid 105 = .ok (.iconst 0, 1) := by decide +kernel
theorem dX1_invalid_106 : decode cX1_invalid 106 = .ok (.ireturn, 1) := by decide +kernel
theorem dX1_clear_0 : decode cX1_clear 0 = .ok (.aload_n 0, 1) := by decide +kernel
theorem dX1_clear_1 : decode cX1_clear 1 = .ok (.iconst 0, 1) := by decide +kernel
theorem dX1_clear_2 : decode cX1_clear 2 = .ok (.putfield 28, 3) := by decide +kernel
theorem dX1_clear_5 : decode cX1_clear 5 = .ok (.aload_n 0, 1) := by decide +kernel
theorem dX1_clear_6 : decode cX1_clear 6 = .ok (.iconst 0, 1) := by decide +kernel
theorem dX1_clear_7 : decode cX1_clear 7 = .ok (.putfield 44, 3) := by decide +kernel
theorem dX1_clear_10 : decode cX1_clear 10 = .ok (.aload_n 0, 1) := by decide +kernel
theorem dX1_clear_11 : decode cX1_clear 11 = .ok (.iconst 0, 1) := by decide +kernel
theorem dX1_clear_12 : decode cX1_clear 12 = .ok (.putfield 51, 3) := by decide +kernel
theorem dX1_clear_15 : decode cX1_clear 15 = .ok (.aload_n 0, 1) := by decide +kernel
theorem dX1_clear_16 : decode cX1_clear 16 = .ok (.iconst 0, 1) := by decide +kernel
theorem dX1_clear_17 : decode cX1_clear 17 = .ok (.putfield 54, 3) := by decide +kernel
theorem dX1_clear_20 : decode cX1_clear 20 = .ok (.aload_n 0, 1) := by decide +kernel
theorem dX1_clear_21 : decode cX1_clear 21 = .ok (.iconst 0, 1) := by decide +kernel
theorem dX1_clear_22 : decode cX1_clear 22 = .ok (.putfield 61, 3) := by decide +kernel
theorem dX1_clear_25 : decode cX1_clear 25 = .ok (.aload_n 0, 1) := by decide +kernel
theorem dX1_clear_26 : decode cX1_clear 26 = .ok (.iconst 0, 1) := by decide +kernel
theorem dX1_clear_27 : decode cX1_clear 27 = .ok (.putfield 100, 3) := by decide +kernel
theorem dX1_clear_30 : decode cX1_clear 30 = .ok (.return_, 1) := by decide +kernel
theorem dL_law_0 : decode cL_law 0 = .ok (.new 8, 3) := by decide +kernel
theorem dL_law_3 : decode cL_law 3 = .ok (.dup, 1) := by decide +kernel
theorem dL_law_4 : decode cL_law 4 = .ok (.invokespecial 60, 3) := by decide +kernel
theorem dL_law_7 : decode cL_law 7 = .ok (.astore_n 1, 1) := by decide +kernel
theorem dL_law_8 : decode cL_law 8 = .ok (.new 61, 3) := by decide +kernel
theorem dL_law_11 : decode cL_law 11 = .ok (.dup, 1) := by decide +kernel
theorem dL_law_12 : decode cL_law 12 = .ok (.invokespecial 63, 3) := by decide +kernel
theorem dL_law_15 : decode cL_law 15 = .ok (.astore_n 2, 1) := by decide +kernel
theorem dL_law_16 : decode cL_law 16 = .ok (.iconst 1, 1) := by decide +kernel
theorem dL_law_17 : decode cL_law 17 = .ok (.newarray .long, 2) := by decide +kernel
theorem dL_law_19 : decode cL_law 19 = .ok (.astore_n 3, 1) := by decide +kernel
theorem dL_law_20 : decode cL_law 20 = .ok (.iconst 0, 1) := by decide +kernel
theorem dL_law_21 : decode cL_law 21 = .ok (.istore 4, 2) := by decide +kernel
theorem dL_law_23 : decode cL_law 23 = .ok (.iload 4, 2) := by decide +kernel
theorem dL_law_25 : decode cL_law 25 = .ok (.aload_n 0, 1) := by decide +kernel
theorem dL_law_26 : decode cL_law 26 = .ok (.arraylength, 1) := by decide +kernel
theorem dL_law_27 : decode cL_law 27 = .ok (.bipush 6, 2) := by decide +kernel
theorem dL_law_29 : decode cL_law 29 = .ok (.isub, 1) := by decide +kernel
theorem dL_law_30 : decode cL_law 30 = .ok (.if_icmp .gt 998, 3) := by decide +kernel
theorem dL_law_33 : decode cL_law 33 = .ok (.aload_n 0, 1) := by decide +kernel
theorem dL_law_34 : decode cL_law 34 = .ok (.iload 4, 2) := by decide +kernel
theorem dL_law_36 : decode cL_law 36 = .ok (.iaload, 1) := by decide +kernel
theorem dL_law_37 : decode cL_law 37 = .ok (.bipush 15, 2) := by decide +kernel
theorem dL_law_39 : decode cL_law 39 = .ok (.iand, 1) := by decide +kernel
theorem dL_law_40 : decode cL_law 40 = .ok (.tableswitch 982 0 13 #[72, 140, 188, 267, 334, 390, 469, 537, 604, 672, 740, 883, 958, 971], 72) := by decide +kernel
end
section
theorem dL_law_112 : decode cL_law 112 = .ok (.aload_n 1, 1) := by decide +kernel
theorem dL_law_113 : decode cL_law 113 = .ok (.aload_n 0, 1) := by decide +kernel
theorem dL_law_114 : decode cL_law 114 = .ok (.iload 4, 2) := by decide +kernel
theorem dL_law_116 : decode cL_law 116 = .ok (.iconst 1, 1) := by decide +kernel
theorem dL_law_117 : decode cL_law 117 = .ok (.iadd, 1) := by decide +kernel
theorem dL_law_118 : decode cL_law 118 = .ok (.iaload, 1) := by decide +kernel
theorem dL_law_119 : decode cL_law 119 = .ok (.aload_n 0, 1) := by decide +kernel
theorem dL_law_120 : decode cL_law 120 = .ok (.iload 4, 2) := by decide +kernel
theorem dL_law_122 : decode cL_law 122 = .ok (.iconst 2, 1) := by decide +kernel
theorem dL_law_123 : decode cL_law 123 = .ok (.iadd, 1) := by decide +kernel
theorem dL_law_124 : decode cL_law 124 = .ok (.iaload, 1) := by decide +kernel
theorem dL_law_125 : decode cL_law 125 = .ok (.aload_n 3, 1) := by decide +kernel
theorem dL_law_126 : decode cL_law 126 = .ok (.invokestatic 64, 3) := by decide +kernel
theorem dL_law_129 : decode cL_law 129 = .ok (.istore 5, 2) := by decide +kernel
theorem dL_law_131 : decode cL_law 131 = .ok (.aload_n 2, 1) := by decide +kernel
theorem dL_law_132 : decode cL_law 132 = .ok (.aload_n 0, 1) := by decide +kernel
theorem dL_law_133 : decode cL_law 133 = .ok (.iload 4, 2) := by decide +kernel
theorem dL_law_135 : decode cL_law 135 = .ok (.iconst 1, 1) := by decide +kernel
theorem dL_law_136 : decode cL_law 136 = .ok (.iadd, 1) := by decide +kernel
theorem dL_law_137 : decode cL_law 137 = .ok (.iaload, 1) := by decide +kernel
theorem dL_law_138 : decode cL_law 138 = .ok (.aload_n 0, 1) := by decide +kernel
theorem dL_law_139 : decode cL_law 139 = .ok (.iload 4, 2) := by decide +kernel
theorem dL_law_141 : decode cL_law 141 = .ok (.iconst 2, 1) := by decide +kernel
theorem dL_law_142 : decode cL_law 142 = .ok (.iadd, 1) := by decide +kernel
theorem dL_law_143 : decode cL_law 143 = .ok (.iaload, 1) := by decide +kernel
theorem dL_law_144 : decode cL_law 144 = .ok (.invokevirtual 69, 3) := by decide +kernel
theorem dL_law_147 : decode cL_law 147 = .ok (.istore 6, 2) := by decide +kernel
theorem dL_law_149 : decode cL_law 149 = .ok (.aload_n 2, 1) := by decide +kernel
theorem dL_law_150 : decode cL_law 150 = .ok (.invokevirtual 70, 3) := by decide +kernel
theorem dL_law_153 : decode cL_law 153 = .ok (.iload 5, 2) := by decide +kernel
theorem dL_law_155 : decode cL_law 155 = .ok (.if_icmp .eq 5, 3) := by decide +kernel
theorem dL_law_158 : decode cL_law 158 = .ok (.iconst 0, 1) := by decide +kernel
theorem dL_law_159 : decode cL_law 159 = .ok (.ireturn, 1) := by decide +kernel
theorem dL_law_160 : decode cL_law 160 = .ok (.iload 5, 2) := by decide +kernel
theorem dL_law_162 : decode cL_law 162 = .ok (.ifCond .ne 15, 3) := by decide +kernel
theorem dL_law_165 : decode cL_law 165 = .ok (.aload_n 3, 1) := by decide +kernel
theorem dL_law_166 : decode cL_law 166 = .ok (.iconst 0, 1) := by decide +kernel
theorem dL_law_167 : decode cL_law 167 = .ok (.laload, 1) := by decide +kernel
theorem dL_law_168 : decode cL_law 168 = .ok (.iload 6, 2) := by decide +kernel
theorem dL_law_170 : decode cL_law 170 = .ok (.i2l, 1) := by decide +kernel
theorem dL_law_171 : decode cL_law 171 = .ok (.lcmp, 1) := by decide +kernel
theorem dL_law_172 : decode cL_law 172 = .ok (.ifCond .eq 5, 3) := by decide +kernel
theorem dL_law_175 : decode cL_law 175 = .ok (.iconst 0, 1) := by decide +kernel
theorem dL_law_176 : decode cL_law 176 = .ok (.ireturn, 1) := by decide +kernel
theorem dL_law_177 : decode cL_law 177 = .ok (.goto 845, 3) := by decide +kernel
theorem dL_law_180 : decode cL_law 180 = .ok (.aload_n 1, 1) := by decide +kernel
theorem dL_law_181 : decode cL_law 181 = .ok (.aload_n 0, 1) := by decide +kernel
theorem dL_law_182 : decode cL_law 182 = .ok (.iload 4, 2) := by decide +kernel
theorem dL_law_184 : decode cL_law 184 = .ok (.iconst 1, 1) := by decide +kernel
theorem dL_law_185 : decode cL_law 185 = .ok (.iadd, 1) := by decide +kernel
theorem dL_law_186 : decode cL_law 186 = .ok (.iaload, 1) := by decide +kernel
theorem dL_law_187 : decode cL_law 187 = .ok (.aload_n 0, 1) := by decide +kernel
theorem dL_law_188 : decode cL_law 188 = .ok (.iload 4, 2) := by decide +kernel
theorem dL_law_190 : decode cL_law 190 = .ok (.iconst 2, 1) := by decide +kernel
theorem dL_law_191 : decode cL_law 191 = .ok (.iadd, 1) := by decide +kernel
theorem dL_law_192 : decode cL_law 192 = .ok (.iaload, 1) := by decide +kernel
theorem dL_law_193 : decode cL_law 193 = .ok (.invokestatic 74, 3) := by decide +kernel
theorem dL_law_196 : decode cL_law 196 = .ok (.istore 5, 2) := by decide +kernel
theorem dL_law_198 : decode cL_law 198 = .ok (.aload_n 2, 1) := by decide +kernel
theorem dL_law_199 : decode cL_law 199 = .ok (.aload_n 0, 1) := by decide +kernel
theorem dL_law_200 : decode cL_law 200 = .ok (.iload 4, 2) := by decide +kernel
theorem dL_law_202 : decode cL_law 202 = .ok (.iconst 1, 1) := by decide +kernel
theorem dL_law_203 : decode cL_law 203 = .ok (.iadd, 1) := by decide +kernel
theorem dL_law_204 : decode cL_law 204 = .ok (.iaload, 1) := by decide +kernel
theorem dL_law_205 : decode cL_law 205 = .ok (.aload_n 0, 1) := by decide +kernel
theorem dL_law_206 : decode cL_law 206 = .ok (.iload 4, 2) := by decide +kernel
theorem dL_law_208 : decode cL_law 208 = .ok (.iconst 2, 1) := by decide +kernel
theorem dL_law_209 : decode cL_law 209 = .ok (.iadd, 1) := by decide +kernel
theorem dL_law_210 : decode cL_law 210 = .ok (.iaload, 1) := by decide +kernel
theorem dL_law_211 : decode cL_law 211 = .ok (.invokevirtual 77, 3) := by decide +kernel
theorem dL_law_214 : decode cL_law 214 = .ok (.aload_n 2, 1) := by decide +kernel
theorem dL_law_215 : decode cL_law 215 = .ok (.invokevirtual 70, 3) := by decide +kernel
theorem dL_law_218 : decode cL_law 218 = .ok (.iload 5, 2) := by decide +kernel
theorem dL_law_220 : decode cL_law 220 = .ok (.if_icmp .eq 5, 3) := by decide +kernel
theorem dL_law_223 : decode cL_law 223 = .ok (.iconst 0, 1) := by decide +kernel
theorem dL_law_224 : decode cL_law 224 = .ok (.ireturn, 1) := by decide +kernel
theorem dL_law_225 : decode cL_law 225 = .ok (.goto 797, 3) := by decide +kernel
theorem dL_law_228 : decode cL_law 228 = .ok (.aload_n 1, 1) := by decide +kernel
theorem dL_law_229 : decode cL_law 229 = .ok (.aload_n 0, 1) := by decide +kernel
theorem dL_law_230 : decode cL_law 230 = .ok (.iload 4, 2) := by decide +kernel
theorem dL_law_232 : decode cL_law 232 = .ok (.iconst 1, 1) := by decide +kernel
theorem dL_law_233 : decode cL_law 233 = .ok (.iadd, 1) := by decide +kernel
theorem dL_law_234 : decode cL_law 234 = .ok (.iaload, 1) := by decide +kernel
theorem dL_law_235 : decode cL_law 235 = .ok (.aload_n 0, 1) := by decide +kernel
theorem dL_law_236 : decode cL_law 236 = .ok (.iload 4, 2) := by decide +kernel
theorem dL_law_238 : decode cL_law 238 = .ok (.iconst 2, 1) := by decide +kernel
theorem dL_law_239 : decode cL_law 239 = .ok (.iadd, 1) := by decide +kernel
theorem dL_law_240 : decode cL_law 240 = .ok (.iaload, 1) := by decide +kernel
theorem dL_law_241 : decode cL_law 241 = .ok (.aload_n 0, 1) := by decide +kernel
theorem dL_law_242 : decode cL_law 242 = .ok (.iload 4, 2) := by decide +kernel
theorem dL_law_244 : decode cL_law 244 = .ok (.iconst 3, 1) := by decide +kernel
theorem dL_law_245 : decode cL_law 245 = .ok (.iadd, 1) := by decide +kernel
theorem dL_law_246 : decode cL_law 246 = .ok (.iaload, 1) := by decide +kernel
theorem dL_law_247 : decode cL_law 247 = .ok (.aload_n 3, 1) := by decide +kernel
theorem dL_law_248 : decode cL_law 248 = .ok (.invokestatic 78, 3) := by decide +kernel
theorem dL_law_251 : decode cL_law 251 = .ok (.istore 5, 2) := by decide +kernel
theorem dL_law_253 : decode cL_law 253 = .ok (.aload_n 2, 1) := by decide +kernel
theorem dL_law_254 : decode cL_law 254 = .ok (.aload_n 0, 1) := by decide +kernel
theorem dL_law_255 : decode cL_law 255 = .ok (.iload 4, 2) := by decide +kernel
theorem dL_law_257 : decode cL_law 257 = .ok (.iconst 1, 1) := by decide +kernel
theorem dL_law_258 : decode cL_law 258 = .ok (.iadd, 1) := by decide +kernel
theorem dL_law_259 : decode cL_law 259 = .ok (.iaload, 1) := by decide +kernel
theorem dL_law_260 : decode cL_law 260 = .ok (.aload_n 0, 1) := by decide +kernel
theorem dL_law_261 : decode cL_law 261 = .ok (.iload 4, 2) := by decide +kernel
theorem dL_law_263 : decode cL_law 263 = .ok (.iconst 2, 1) := by decide +kernel
theorem dL_law_264 : decode cL_law 264 = .ok (.iadd, 1) := by decide +kernel
theorem dL_law_265 : decode cL_law 265 = .ok (.iaload, 1) := by decide +kernel
theorem dL_law_266 : decode cL_law 266 = .ok (.aload_n 0, 1) := by decide +kernel
theorem dL_law_267 : decode cL_law 267 = .ok (.iload 4, 2) := by decide +kernel
theorem dL_law_269 : decode cL_law 269 = .ok (.iconst 3, 1) := by decide +kernel
theorem dL_law_270 : decode cL_law 270 = .ok (.iadd, 1) := by decide +kernel
theorem dL_law_271 : decode cL_law 271 = .ok (.iaload, 1) := by decide +kernel
theorem dL_law_272 : decode cL_law 272 = .ok (.invokevirtual 81, 3) := by decide +kernel
theorem dL_law_275 : decode cL_law 275 = .ok (.lstore 6, 2) := by decide +kernel
theorem dL_law_277 : decode cL_law 277 = .ok (.aload_n 2, 1) := by decide +kernel
theorem dL_law_278 : decode cL_law 278 = .ok (.invokevirtual 70, 3) := by decide +kernel
theorem dL_law_281 : decode cL_law 281 = .ok (.iload 5, 2) := by decide +kernel
theorem dL_law_283 : decode cL_law 283 = .ok (.if_icmp .eq 5, 3) := by decide +kernel
theorem dL_law_286 : decode cL_law 286 = .ok (.iconst 0, 1) := by decide +kernel
theorem dL_law_287 : decode cL_law 287 = .ok (.ireturn, 1) := by decide +kernel
theorem dL_law_288 : decode cL_law 288 = .ok (.iload 5, 2) := by decide +kernel
theorem dL_law_290 : decode cL_law 290 = .ok (.ifCond .ne 14, 3) := by decide +kernel
theorem dL_law_293 : decode cL_law 293 = .ok (.aload_n 3, 1) := by decide +kernel
theorem dL_law_294 : decode cL_law 294 = .ok (.iconst 0, 1) := by decide +kernel
theorem dL_law_295 : decode cL_law 295 = .ok (.laload, 1) := by decide +kernel
theorem dL_law_296 : decode cL_law 296 = .ok (.lload 6, 2) := by decide +kernel
theorem dL_law_298 : decode cL_law 298 = .ok (.lcmp, 1) := by decide +kernel
theorem dL_law_299 : decode cL_law 299 = .ok (.ifCond .eq 5, 3) := by decide +kernel
theorem dL_law_302 : decode cL_law 302 = .ok (.iconst 0, 1) := by decide +kernel
theorem dL_law_303 : decode cL_law 303 = .ok (.ireturn, 1) := by decide +kernel
theorem dL_law_304 : decode cL_law 304 = .ok (.goto 718, 3) := by decide +kernel
theorem dL_law_307 : decode cL_law 307 = .ok (.aload_n 1, 1) := by decide +kernel
theorem dL_law_308 : decode cL_law 308 = .ok (.aload_n 0, 1) := by decide +kernel
theorem dL_law_309 : decode cL_law 309 = .ok (.iload 4, 2) := by decide +kernel
theorem dL_law_311 : decode cL_law 311 = .ok (.iconst 1, 1) := by decide +kernel
theorem dL_law_312 : decode cL_law 312 = .ok (.iadd, 1) := by decide +kernel
theorem dL_law_313 : decode cL_law 313 = .ok (.iaload, 1) := by decide +kernel
theorem dL_law_314 : decode cL_law 314 = .ok (.aload_n 0, 1) := by decide +kernel
theorem dL_law_315 : decode cL_law 315 = .ok (.iload 4, 2) := by decide +kernel
theorem dL_law_317 : decode cL_law 317 = .ok (.iconst 2, 1) := by decide +kernel
theorem dL_law_318 : decode cL_law 318 = .ok (.iadd, 1) := by decide +kernel
theorem dL_law_319 : decode cL_law 319 = .ok (.iaload, 1) := by decide +kernel
theorem dL_law_320 : decode cL_law 320 = .ok (.aload_n 3, 1) := by decide +kernel
theorem dL_law_321 : decode cL_law 321 = .ok (.invokestatic 82, 3) := by decide +kernel
theorem dL_law_324 : decode cL_law 324 = .ok (.istore 5, 2) := by decide +kernel
theorem dL_law_326 : decode cL_law 326 = .ok (.aload_n 2, 1) := by decide +kernel
theorem dL_law_327 : decode cL_law 327 = .ok (.aload_n 0, 1) := by decide +kernel
theorem dL_law_328 : decode cL_law 328 = .ok (.iload 4, 2) := by decide +kernel
theorem dL_law_330 : decode cL_law 330 = .ok (.iconst 1, 1) := by decide +kernel
theorem dL_law_331 : decode cL_law 331 = .ok (.iadd, 1) := by decide +kernel
theorem dL_law_332 : decode cL_law 332 = .ok (.iaload, 1) := by decide +kernel
theorem dL_law_333 : decode cL_law 333 = .ok (.aload_n 0, 1) := by decide +kernel
theorem dL_law_334 : decode cL_law 334 = .ok (.iload 4, 2) := by decide +kernel
theorem dL_law_336 : decode cL_law 336 = .ok (.iconst 2, 1) := by decide +kernel
theorem dL_law_337 : decode cL_law 337 = .ok (.iadd, 1) := by decide +kernel
theorem dL_law_338 : decode cL_law 338 = .ok (.iaload, 1) := by decide +kernel
theorem dL_law_339 : decode cL_law 339 = .ok (.invokevirtual 84, 3) := by decide +kernel
theorem dL_law_342 : decode cL_law 342 = .ok (.lstore 6, 2) := by decide +kernel
theorem dL_law_344 : decode cL_law 344 = .ok (.aload_n 2, 1) := by decide +kernel
theorem dL_law_345 : decode cL_law 345 = .ok (.invokevirtual 70, 3) := by decide +kernel
theorem dL_law_348 : decode cL_law 348 = .ok (.iload 5, 2) := by decide +kernel
theorem dL_law_350 : decode cL_law 350 = .ok (.if_icmp .eq 5, 3) := by decide +kernel
theorem dL_law_353 : decode cL_law 353 = .ok (.iconst 0, 1) := by decide +kernel
theorem dL_law_354 : decode cL_law 354 = .ok (.ireturn, 1) := by decide +kernel
theorem dL_law_355 : decode cL_law 355 = .ok (.iload 5, 2) := by decide +kernel
theorem dL_law_357 : decode cL_law 357 = .ok (.ifCond .ne 14, 3) := by decide +kernel
theorem dL_law_360 : decode cL_law 360 = .ok (.aload_n 3, 1) := by decide +kernel
theorem dL_law_361 : decode cL_law 361 = .ok (.iconst 0, 1) := by decide +kernel
theorem dL_law_362 : decode cL_law 362 = .ok (.laload, 1) := by decide +kernel
theorem dL_law_363 : decode cL_law 363 = .ok (.lload 6, 2) := by decide +kernel
theorem dL_law_365 : decode cL_law 365 = .ok (.lcmp, 1) := by decide +kernel
theorem dL_law_366 : decode cL_law 366 = .ok (.ifCond .eq 5, 3) := by decide +kernel
theorem dL_law_369 : decode cL_law 369 = .ok (.iconst 0, 1) := by decide +kernel
theorem dL_law_370 : decode cL_law 370 = .ok (.ireturn, 1) := by decide +kernel
theorem dL_law_371 : decode cL_law 371 = .ok (.goto 651, 3) := by decide +kernel
theorem dL_law_374 : decode cL_law 374 = .ok (.aload_n 1, 1) := by decide +kernel
theorem dL_law_375 : decode cL_law 375 = .ok (.aload_n 0, 1) := by decide +kernel
theorem dL_law_376 : decode cL_law 376 = .ok (.iload 4, 2) := by decide +kernel
theorem dL_law_378 : decode cL_law 378 = .ok (.iconst 1, 1) := by decide +kernel
theorem dL_law_379 : decode cL_law 379 = .ok (.iadd, 1) := by decide +kernel
theorem dL_law_380 : decode cL_law 380 = .ok (.iaload, 1) := by decide +kernel
theorem dL_law_381 : decode cL_law 381 = .ok (.aload_n 3, 1) := by decide +kernel
theorem dL_law_382 : decode cL_law 382 = .ok (.invokestatic 85, 3) := by decide +kernel
theorem dL_law_385 : decode cL_law 385 = .ok (.istore 5, 2) := by decide +kernel
theorem dL_law_387 : decode cL_law 387 = .ok (.aload_n 2, 1) := by decide +kernel
theorem dL_law_388 : decode cL_law 388 = .ok (.aload_n 0, 1) := by decide +kernel
theorem dL_law_389 : decode cL_law 389 = .ok (.iload 4, 2) := by decide +kernel
theorem dL_law_391 : decode cL_law 391 = .ok (.iconst 1, 1) := by decide +kernel
theorem dL_law_392 : decode cL_law 392 = .ok (.iadd, 1) := by decide +kernel
theorem dL_law_393 : decode cL_law 393 = .ok (.iaload, 1) := by decide +kernel
theorem dL_law_394 : decode cL_law 394 = .ok (.invokevirtual 88, 3) := by decide +kernel
theorem dL_law_397 : decode cL_law 397 = .ok (.istore 6, 2) := by decide +kernel
theorem dL_law_399 : decode cL_law 399 = .ok (.aload_n 2, 1) := by decide +kernel
theorem dL_law_400 : decode cL_law 400 = .ok (.invokevirtual 70, 3) := by decide +kernel
theorem dL_law_403 : decode cL_law 403 = .ok (.iload 5, 2) := by decide +kernel
theorem dL_law_405 : decode cL_law 405 = .ok (.if_icmp .eq 5, 3) := by decide +kernel
theorem dL_law_408 : decode cL_law 408 = .ok (.iconst 0, 1) := by decide +kernel
theorem dL_law_409 : decode cL_law 409 = .ok (.ireturn, 1) := by decide +kernel
theorem dL_law_410 : decode cL_law 410 = .ok (.iload 5, 2) := by decide +kernel
theorem dL_law_412 : decode cL_law 412 = .ok (.ifCond .ne 15, 3) := by decide +kernel
theorem dL_law_415 : decode cL_law 415 = .ok (.aload_n 3, 1) := by decide +kernel
theorem dL_law_416 : decode cL_law 416 = .ok (.iconst 0, 1) := by decide +kernel
theorem dL_law_417 : decode cL_law 417 = .ok (.laload, 1) := by decide +kernel
theorem dL_law_418 : decode cL_law 418 = .ok (.iload 6, 2) := by decide +kernel
theorem dL_law_420 : decode cL_law 420 = .ok (.i2l, 1) := by decide +kernel
theorem dL_law_421 : decode cL_law 421 = .ok (.lcmp, 1) := by decide +kernel
theorem dL_law_422 : decode cL_law 422 = .ok (.ifCond .eq 5, 3) := by decide +kernel
theorem dL_law_425 : decode cL_law 425 = .ok (.iconst 0, 1) := by decide +kernel
theorem dL_law_426 : decode cL_law 426 = .ok (.ireturn, 1) := by decide +kernel
theorem dL_law_427 : decode cL_law 427 = .ok (.goto 595, 3) := by decide +kernel
theorem dL_law_430 : decode cL_law 430 = .ok (.aload_n 1, 1) := by decide +kernel
theorem dL_law_431 : decode cL_law 431 = .ok (.aload_n 0, 1) := by decide +kernel
theorem dL_law_432 : decode cL_law 432 = .ok (.iload 4, 2) := by decide +kernel
theorem dL_law_434 : decode cL_law 434 = .ok (.iconst 1, 1) := by decide +kernel
theorem dL_law_435 : decode cL_law 435 = .ok (.iadd, 1) := by decide +kernel
theorem dL_law_436 : decode cL_law 436 = .ok (.iaload, 1) := by decide +kernel
theorem dL_law_437 : decode cL_law 437 = .ok (.aload_n 0, 1) := by decide +kernel
theorem dL_law_438 : decode cL_law 438 = .ok (.iload 4, 2) := by decide +kernel
theorem dL_law_440 : decode cL_law 440 = .ok (.iconst 2, 1) := by decide +kernel
theorem dL_law_441 : decode cL_law 441 = .ok (.iadd, 1) := by decide +kernel
theorem dL_law_442 : decode cL_law 442 = .ok (.iaload, 1) := by decide +kernel
theorem dL_law_443 : decode cL_law 443 = .ok (.aload_n 0, 1) := by decide +kernel
theorem dL_law_444 : decode cL_law 444 = .ok (.iload 4, 2) := by decide +kernel
theorem dL_law_446 : decode cL_law 446 = .ok (.iconst 3, 1) := by decide +kernel
theorem dL_law_447 : decode cL_law 447 = .ok (.iadd, 1) := by decide +kernel
theorem dL_law_448 : decode cL_law 448 = .ok (.iaload, 1) := by decide +kernel
theorem dL_law_449 : decode cL_law 449 = .ok (.aload_n 3, 1) := by decide +kernel
theorem dL_law_450 : decode cL_law 450 = .ok (.invokestatic 89, 3) := by decide +kernel
theorem dL_law_453 : decode cL_law 453 = .ok (.istore 5, 2) := by decide +kernel
theorem dL_law_455 : decode cL_law 455 = .ok (.aload_n 2, 1) := by decide +kernel
theorem dL_law_456 : decode cL_law 456 = .ok (.aload_n 0, 1) := by decide +kernel
theorem dL_law_457 : decode cL_law 457 = .ok (.iload 4, 2) := by decide +kernel
theorem dL_law_459 : decode cL_law 459 = .ok (.iconst 1, 1) := by decide +kernel
theorem dL_law_460 : decode cL_law 460 = .ok (.iadd, 1) := by decide +kernel
theorem dL_law_461 : decode cL_law 461 = .ok (.iaload, 1) := by decide +kernel
theorem dL_law_462 : decode cL_law 462 = .ok (.aload_n 0, 1) := by decide +kernel
theorem dL_law_463 : decode cL_law 463 = .ok (.iload 4, 2) := by decide +kernel
theorem dL_law_465 : decode cL_law 465 = .ok (.iconst 2, 1) := by decide +kernel
theorem dL_law_466 : decode cL_law 466 = .ok (.iadd, 1) := by decide +kernel
theorem dL_law_467 : decode cL_law 467 = .ok (.iaload, 1) := by decide +kernel
theorem dL_law_468 : decode cL_law 468 = .ok (.aload_n 0, 1) := by decide +kernel
theorem dL_law_469 : decode cL_law 469 = .ok (.iload 4, 2) := by decide +kernel
theorem dL_law_471 : decode cL_law 471 = .ok (.iconst 3, 1) := by decide +kernel
theorem dL_law_472 : decode cL_law 472 = .ok (.iadd, 1) := by decide +kernel
theorem dL_law_473 : decode cL_law 473 = .ok (.iaload, 1) := by decide +kernel
theorem dL_law_474 : decode cL_law 474 = .ok (.invokevirtual 91, 3) := by decide +kernel
theorem dL_law_477 : decode cL_law 477 = .ok (.lstore 6, 2) := by decide +kernel
theorem dL_law_479 : decode cL_law 479 = .ok (.aload_n 2, 1) := by decide +kernel
theorem dL_law_480 : decode cL_law 480 = .ok (.invokevirtual 70, 3) := by decide +kernel
theorem dL_law_483 : decode cL_law 483 = .ok (.iload 5, 2) := by decide +kernel
theorem dL_law_485 : decode cL_law 485 = .ok (.if_icmp .eq 5, 3) := by decide +kernel
theorem dL_law_488 : decode cL_law 488 = .ok (.iconst 0, 1) := by decide +kernel
theorem dL_law_489 : decode cL_law 489 = .ok (.ireturn, 1) := by decide +kernel
theorem dL_law_490 : decode cL_law 490 = .ok (.iload 5, 2) := by decide +kernel
theorem dL_law_492 : decode cL_law 492 = .ok (.ifCond .ne 14, 3) := by decide +kernel
theorem dL_law_495 : decode cL_law 495 = .ok (.aload_n 3, 1) := by decide +kernel
theorem dL_law_496 : decode cL_law 496 = .ok (.iconst 0, 1) := by decide +kernel
theorem dL_law_497 : decode cL_law 497 = .ok (.laload, 1) := by decide +kernel
theorem dL_law_498 : decode cL_law 498 = .ok (.lload 6, 2) := by decide +kernel
theorem dL_law_500 : decode cL_law 500 = .ok (.lcmp, 1) := by decide +kernel
theorem dL_law_501 : decode cL_law 501 = .ok (.ifCond .eq 5, 3) := by decide +kernel
theorem dL_law_504 : decode cL_law 504 = .ok (.iconst 0, 1) := by decide +kernel
theorem dL_law_505 : decode cL_law 505 = .ok (.ireturn, 1) := by decide +kernel
theorem dL_law_506 : decode cL_law 506 = .ok (.goto 516, 3) := by decide +kernel
theorem dL_law_509 : decode cL_law 509 = .ok (.aload_n 1, 1) := by decide +kernel
theorem dL_law_510 : decode cL_law 510 = .ok (.aload_n 0, 1) := by decide +kernel
theorem dL_law_511 : decode cL_law 511 = .ok (.iload 4, 2) := by decide +kernel
theorem dL_law_513 : decode cL_law 513 = .ok (.iconst 1, 1) := by decide +kernel
theorem dL_law_514 : decode cL_law 514 = .ok (.iadd, 1) := by decide +kernel
theorem dL_law_515 : decode cL_law 515 = .ok (.iaload, 1) := by decide +kernel
theorem dL_law_516 : decode cL_law 516 = .ok (.aload_n 0, 1) := by decide +kernel
theorem dL_law_517 : decode cL_law 517 = .ok (.iload 4, 2) := by decide +kernel
theorem dL_law_519 : decode cL_law 519 = .ok (.iconst 2, 1) := by decide +kernel
theorem dL_law_520 : decode cL_law 520 = .ok (.iadd, 1) := by decide +kernel
theorem dL_law_521 : decode cL_law 521 = .ok (.iaload, 1) := by decide +kernel
theorem dL_law_522 : decode cL_law 522 = .ok (.aload_n 3, 1) := by decide +kernel
theorem dL_law_523 : decode cL_law 523 = .ok (.invokestatic 92, 3) := by decide +kernel
theorem dL_law_526 : decode cL_law 526 = .ok (.istore 5, 2) := by decide +kernel
theorem dL_law_528 : decode cL_law 528 = .ok (.aload_n 2, 1) := by decide +kernel
theorem dL_law_529 : decode cL_law 529 = .ok (.aload_n 0, 1) := by decide +kernel
theorem dL_law_530 : decode cL_law 530 = .ok (.iload 4, 2) := by decide +kernel
theorem dL_law_532 : decode cL_law 532 = .ok (.iconst 1, 1) := by decide +kernel
theorem dL_law_533 : decode cL_law 533 = .ok (.iadd, 1) := by decide +kernel
theorem dL_law_534 : decode cL_law 534 = .ok (.iaload, 1) := by decide +kernel
theorem dL_law_535 : decode cL_law 535 = .ok (.aload_n 0, 1) := by decide +kernel
theorem dL_law_536 : decode cL_law 536 = .ok (.iload 4, 2) := by decide +kernel
theorem dL_law_538 : decode cL_law 538 = .ok (.iconst 2, 1) := by decide +kernel
theorem dL_law_539 : decode cL_law 539 = .ok (.iadd, 1) := by decide +kernel
theorem dL_law_540 : decode cL_law 540 = .ok (.iaload, 1) := by decide +kernel
theorem dL_law_541 : decode cL_law 541 = .ok (.invokevirtual 94, 3) := by decide +kernel
theorem dL_law_544 : decode cL_law 544 = .ok (.istore 6, 2) := by decide +kernel
theorem dL_law_546 : decode cL_law 546 = .ok (.aload_n 2, 1) := by decide +kernel
theorem dL_law_547 : decode cL_law 547 = .ok (.invokevirtual 70, 3) := by decide +kernel
theorem dL_law_550 : decode cL_law 550 = .ok (.iload 5, 2) := by decide +kernel
theorem dL_law_552 : decode cL_law 552 = .ok (.if_icmp .eq 5, 3) := by decide +kernel
theorem dL_law_555 : decode cL_law 555 = .ok (.iconst 0, 1) := by decide +kernel
theorem dL_law_556 : decode cL_law 556 = .ok (.ireturn, 1) := by decide +kernel
theorem dL_law_557 : decode cL_law 557 = .ok (.iload 5, 2) := by decide +kernel
theorem dL_law_559 : decode cL_law 559 = .ok (.ifCond .ne 15, 3) := by decide +kernel
theorem dL_law_562 : decode cL_law 562 = .ok (.aload_n 3, 1) := by decide +kernel
theorem dL_law_563 : decode cL_law 563 = .ok (.iconst 0, 1) := by decide +kernel
theorem dL_law_564 : decode cL_law 564 = .ok (.laload, 1) := by decide +kernel
theorem dL_law_565 : decode cL_law 565 = .ok (.iload 6, 2) := by decide +kernel
theorem dL_law_567 : decode cL_law 567 = .ok (.i2l, 1) := by decide +kernel
theorem dL_law_568 : decode cL_law 568 = .ok (.lcmp, 1) := by decide +kernel
theorem dL_law_569 : decode cL_law 569 = .ok (.ifCond .eq 5, 3) := by decide +kernel
theorem dL_law_572 : decode cL_law 572 = .ok (.iconst 0, 1) := by decide +kernel
theorem dL_law_573 : decode cL_law 573 = .ok (.ireturn, 1) := by decide +kernel
theorem dL_law_574 : decode cL_law 574 = .ok (.goto 448, 3) := by decide +kernel
theorem dL_law_577 : decode cL_law 577 = .ok (.aload_n 1, 1) := by decide +kernel
theorem dL_law_578 : decode cL_law 578 = .ok (.aload_n 0, 1) := by decide +kernel
theorem dL_law_579 : decode cL_law 579 = .ok (.iload 4, 2) := by decide +kernel
theorem dL_law_581 : decode cL_law 581 = .ok (.iconst 1, 1) := by decide +kernel
theorem dL_law_582 : decode cL_law 582 = .ok (.iadd, 1) := by decide +kernel
theorem dL_law_583 : decode cL_law 583 = .ok (.iaload, 1) := by decide +kernel
theorem dL_law_584 : decode cL_law 584 = .ok (.aload_n 0, 1) := by decide +kernel
theorem dL_law_585 : decode cL_law 585 = .ok (.iload 4, 2) := by decide +kernel
theorem dL_law_587 : decode cL_law 587 = .ok (.iconst 2, 1) := by decide +kernel
theorem dL_law_588 : decode cL_law 588 = .ok (.iadd, 1) := by decide +kernel
theorem dL_law_589 : decode cL_law 589 = .ok (.iaload, 1) := by decide +kernel
theorem dL_law_590 : decode cL_law 590 = .ok (.aload_n 3, 1) := by decide +kernel
theorem dL_law_591 : decode cL_law 591 = .ok (.invokestatic 95, 3) := by decide +kernel
theorem dL_law_594 : decode cL_law 594 = .ok (.istore 5, 2) := by decide +kernel
theorem dL_law_596 : decode cL_law 596 = .ok (.aload_n 2, 1) := by decide +kernel
theorem dL_law_597 : decode cL_law 597 = .ok (.aload_n 0, 1) := by decide +kernel
theorem dL_law_598 : decode cL_law 598 = .ok (.iload 4, 2) := by decide +kernel
theorem dL_law_600 : decode cL_law 600 = .ok (.iconst 1, 1) := by decide +kernel
theorem dL_law_601 : decode cL_law 601 = .ok (.iadd, 1) := by decide +kernel
theorem dL_law_602 : decode cL_law 602 = .ok (.iaload, 1) := by decide +kernel
theorem dL_law_603 : decode cL_law 603 = .ok (.aload_n 0, 1) := by decide +kernel
theorem dL_law_604 : decode cL_law 604 = .ok (.iload 4, 2) := by decide +kernel
theorem dL_law_606 : decode cL_law 606 = .ok (.iconst 2, 1) := by decide +kernel
theorem dL_law_607 : decode cL_law 607 = .ok (.iadd, 1) := by decide +kernel
theorem dL_law_608 : decode cL_law 608 = .ok (.iaload, 1) := by decide +kernel
theorem dL_law_609 : decode cL_law 609 = .ok (.invokevirtual 97, 3) := by decide +kernel
theorem dL_law_612 : decode cL_law 612 = .ok (.lstore 6, 2) := by decide +kernel
theorem dL_law_614 : decode cL_law 614 = .ok (.aload_n 2, 1) := by decide +kernel
theorem dL_law_615 : decode cL_law 615 = .ok (.invokevirtual 70, 3) := by decide +kernel
theorem dL_law_618 : decode cL_law 618 = .ok (.iload 5, 2) := by decide +kernel
theorem dL_law_620 : decode cL_law 620 = .ok (.if_icmp .eq 5, 3) := by decide +kernel
theorem dL_law_623 : decode cL_law 623 = .ok (.iconst 0, 1) := by decide +kernel
theorem dL_law_624 : decode cL_law 624 = .ok (.ireturn, 1) := by decide +kernel
theorem dL_law_625 : decode cL_law 625 = .ok (.iload 5, 2) := by decide +kernel
theorem dL_law_627 : decode cL_law 627 = .ok (.ifCond .ne 14, 3) := by decide +kernel
theorem dL_law_630 : decode cL_law 630 = .ok (.aload_n 3, 1) := by decide +kernel
theorem dL_law_631 : decode cL_law 631 = .ok (.iconst 0, 1) := by decide +kernel
theorem dL_law_632 : decode cL_law 632 = .ok (.laload, 1) := by decide +kernel
theorem dL_law_633 : decode cL_law 633 = .ok (.lload 6, 2) := by decide +kernel
theorem dL_law_635 : decode cL_law 635 = .ok (.lcmp, 1) := by decide +kernel
theorem dL_law_636 : decode cL_law 636 = .ok (.ifCond .eq 5, 3) := by decide +kernel
theorem dL_law_639 : decode cL_law 639 = .ok (.iconst 0, 1) := by decide +kernel
theorem dL_law_640 : decode cL_law 640 = .ok (.ireturn, 1) := by decide +kernel
theorem dL_law_641 : decode cL_law 641 = .ok (.goto 381, 3) := by decide +kernel
theorem dL_law_644 : decode cL_law 644 = .ok (.aload_n 1, 1) := by decide +kernel
theorem dL_law_645 : decode cL_law 645 = .ok (.aload_n 0, 1) := by decide +kernel
theorem dL_law_646 : decode cL_law 646 = .ok (.iload 4, 2) := by decide +kernel
theorem dL_law_648 : decode cL_law 648 = .ok (.iconst 1, 1) := by decide +kernel
theorem dL_law_649 : decode cL_law 649 = .ok (.iadd, 1) := by decide +kernel
theorem dL_law_650 : decode cL_law 650 = .ok (.iaload, 1) := by decide +kernel
theorem dL_law_651 : decode cL_law 651 = .ok (.aload_n 0, 1) := by decide +kernel
theorem dL_law_652 : decode cL_law 652 = .ok (.iload 4, 2) := by decide +kernel
theorem dL_law_654 : decode cL_law 654 = .ok (.iconst 2, 1) := by decide +kernel
theorem dL_law_655 : decode cL_law 655 = .ok (.iadd, 1) := by decide +kernel
theorem dL_law_656 : decode cL_law 656 = .ok (.iaload, 1) := by decide +kernel
theorem dL_law_657 : decode cL_law 657 = .ok (.aload_n 3, 1) := by decide +kernel
theorem dL_law_658 : decode cL_law 658 = .ok (.invokestatic 98, 3) := by decide +kernel
theorem dL_law_661 : decode cL_law 661 = .ok (.istore 5, 2) := by decide +kernel
theorem dL_law_663 : decode cL_law 663 = .ok (.aload_n 2, 1) := by decide +kernel
theorem dL_law_664 : decode cL_law 664 = .ok (.aload_n 0, 1) := by decide +kernel
theorem dL_law_665 : decode cL_law 665 = .ok (.iload 4, 2) := by decide +kernel
theorem dL_law_667 : decode cL_law 667 = .ok (.iconst 1, 1) := by decide +kernel
theorem dL_law_668 : decode cL_law 668 = .ok (.iadd, 1) := by decide +kernel
theorem dL_law_669 : decode cL_law 669 = .ok (.iaload, 1) := by decide +kernel
theorem dL_law_670 : decode cL_law 670 = .ok (.aload_n 0, 1) := by decide +kernel
theorem dL_law_671 : decode cL_law 671 = .ok (.iload 4, 2) := by decide +kernel
theorem dL_law_673 : decode cL_law 673 = .ok (.iconst 2, 1) := by decide +kernel
theorem dL_law_674 : decode cL_law 674 = .ok (.iadd, 1) := by decide +kernel
theorem dL_law_675 : decode cL_law 675 = .ok (.iaload, 1) := by decide +kernel
theorem dL_law_676 : decode cL_law 676 = .ok (.invokevirtual 100, 3) := by decide +kernel
theorem dL_law_679 : decode cL_law 679 = .ok (.istore 6, 2) := by decide +kernel
theorem dL_law_681 : decode cL_law 681 = .ok (.aload_n 2, 1) := by decide +kernel
theorem dL_law_682 : decode cL_law 682 = .ok (.invokevirtual 70, 3) := by decide +kernel
theorem dL_law_685 : decode cL_law 685 = .ok (.iload 5, 2) := by decide +kernel
theorem dL_law_687 : decode cL_law 687 = .ok (.if_icmp .eq 5, 3) := by decide +kernel
theorem dL_law_690 : decode cL_law 690 = .ok (.iconst 0, 1) := by decide +kernel
theorem dL_law_691 : decode cL_law 691 = .ok (.ireturn, 1) := by decide +kernel
theorem dL_law_692 : decode cL_law 692 = .ok (.iload 5, 2) := by decide +kernel
theorem dL_law_694 : decode cL_law 694 = .ok (.ifCond .ne 15, 3) := by decide +kernel
theorem dL_law_697 : decode cL_law 697 = .ok (.aload_n 3, 1) := by decide +kernel
theorem dL_law_698 : decode cL_law 698 = .ok (.iconst 0, 1) := by decide +kernel
theorem dL_law_699 : decode cL_law 699 = .ok (.laload, 1) := by decide +kernel
theorem dL_law_700 : decode cL_law 700 = .ok (.iload 6, 2) := by decide +kernel
theorem dL_law_702 : decode cL_law 702 = .ok (.i2l, 1) := by decide +kernel
theorem dL_law_703 : decode cL_law 703 = .ok (.lcmp, 1) := by decide +kernel
theorem dL_law_704 : decode cL_law 704 = .ok (.ifCond .eq 5, 3) := by decide +kernel
theorem dL_law_707 : decode cL_law 707 = .ok (.iconst 0, 1) := by decide +kernel
theorem dL_law_708 : decode cL_law 708 = .ok (.ireturn, 1) := by decide +kernel
theorem dL_law_709 : decode cL_law 709 = .ok (.goto 313, 3) := by decide +kernel
theorem dL_law_712 : decode cL_law 712 = .ok (.aload_n 1, 1) := by decide +kernel
theorem dL_law_713 : decode cL_law 713 = .ok (.aload_n 0, 1) := by decide +kernel
end
section
theorem dL_law_714 : decode cL_law 714 = .ok (.iload 4, 2) := by decide +kernel
theorem dL_law_716 : decode cL_law 716 = .ok (.iconst 1, 1) := by decide +kernel
theorem dL_law_717 : decode cL_law 717 = .ok (.iadd, 1) := by decide +kernel
theorem dL_law_718 : decode cL_law 718 = .ok (.iaload, 1) := by decide +kernel
theorem dL_law_719 : decode cL_law 719 = .ok (.aload_n 0, 1) := by decide +kernel
theorem dL_law_720 : decode cL_law 720 = .ok (.iload 4, 2) := by decide +kernel
theorem dL_law_722 : decode cL_law 722 = .ok (.iconst 2, 1) := by decide +kernel
theorem dL_law_723 : decode cL_law 723 = .ok (.iadd, 1) := by decide +kernel
theorem dL_law_724 : decode cL_law 724 = .ok (.iaload, 1) := by decide +kernel
theorem dL_law_725 : decode cL_law 725 = .ok (.aload_n 3, 1) := by decide +kernel
theorem dL_law_726 : decode cL_law 726 = .ok (.invokestatic 101, 3) := by decide +kernel
theorem dL_law_729 : decode cL_law 729 = .ok (.istore 5, 2) := by decide +kernel
theorem dL_law_731 : decode cL_law 731 = .ok (.aload_n 2, 1) := by decide +kernel
theorem dL_law_732 : decode cL_law 732 = .ok (.aload_n 0, 1) := by decide +kernel
theorem dL_law_733 : decode cL_law 733 = .ok (.iload 4, 2) := by decide +kernel
theorem dL_law_735 : decode cL_law 735 = .ok (.iconst 1, 1) := by decide +kernel
theorem dL_law_736 : decode cL_law 736 = .ok (.iadd, 1) := by decide +kernel
theorem dL_law_737 : decode cL_law 737 = .ok (.iaload, 1) := by decide +kernel
theorem dL_law_738 : decode cL_law 738 = .ok (.aload_n 0, 1) := by decide +kernel
theorem dL_law_739 : decode cL_law 739 = .ok (.iload 4, 2) := by decide +kernel
theorem dL_law_741 : decode cL_law 741 = .ok (.iconst 2, 1) := by decide +kernel
theorem dL_law_742 : decode cL_law 742 = .ok (.iadd, 1) := by decide +kernel
theorem dL_law_743 : decode cL_law 743 = .ok (.iaload, 1) := by decide +kernel
theorem dL_law_744 : decode cL_law 744 = .ok (.invokevirtual 103, 3) := by decide +kernel
theorem dL_law_747 : decode cL_law 747 = .ok (.istore 6, 2) := by decide +kernel
theorem dL_law_749 : decode cL_law 749 = .ok (.aload_n 2, 1) := by decide +kernel
theorem dL_law_750 : decode cL_law 750 = .ok (.invokevirtual 70, 3) := by decide +kernel
theorem dL_law_753 : decode cL_law 753 = .ok (.iload 5, 2) := by decide +kernel
theorem dL_law_755 : decode cL_law 755 = .ok (.if_icmp .eq 5, 3) := by decide +kernel
theorem dL_law_758 : decode cL_law 758 = .ok (.iconst 0, 1) := by decide +kernel
theorem dL_law_759 : decode cL_law 759 = .ok (.ireturn, 1) := by decide +kernel
theorem dL_law_760 : decode cL_law 760 = .ok (.iload 5, 2) := by decide +kernel
theorem dL_law_762 : decode cL_law 762 = .ok (.ifCond .ne 15, 3) := by decide +kernel
theorem dL_law_765 : decode cL_law 765 = .ok (.aload_n 3, 1) := by decide +kernel
theorem dL_law_766 : decode cL_law 766 = .ok (.iconst 0, 1) := by decide +kernel
theorem dL_law_767 : decode cL_law 767 = .ok (.laload, 1) := by decide +kernel
theorem dL_law_768 : decode cL_law 768 = .ok (.iload 6, 2) := by decide +kernel
theorem dL_law_770 : decode cL_law 770 = .ok (.i2l, 1) := by decide +kernel
theorem dL_law_771 : decode cL_law 771 = .ok (.lcmp, 1) := by decide +kernel
theorem dL_law_772 : decode cL_law 772 = .ok (.ifCond .eq 5, 3) := by decide +kernel
theorem dL_law_775 : decode cL_law 775 = .ok (.iconst 0, 1) := by decide +kernel
theorem dL_law_776 : decode cL_law 776 = .ok (.ireturn, 1) := by decide +kernel
theorem dL_law_777 : decode cL_law 777 = .ok (.goto 245, 3) := by decide +kernel
theorem dL_law_780 : decode cL_law 780 = .ok (.aload_n 1, 1) := by decide +kernel
theorem dL_law_781 : decode cL_law 781 = .ok (.aload_n 0, 1) := by decide +kernel
theorem dL_law_782 : decode cL_law 782 = .ok (.iload 4, 2) := by decide +kernel
theorem dL_law_784 : decode cL_law 784 = .ok (.iconst 1, 1) := by decide +kernel
theorem dL_law_785 : decode cL_law 785 = .ok (.iadd, 1) := by decide +kernel
theorem dL_law_786 : decode cL_law 786 = .ok (.iaload, 1) := by decide +kernel
theorem dL_law_787 : decode cL_law 787 = .ok (.i2l, 1) := by decide +kernel
theorem dL_law_788 : decode cL_law 788 = .ok (.bipush 32, 2) := by decide +kernel
theorem dL_law_790 : decode cL_law 790 = .ok (.lshl, 1) := by decide +kernel
theorem dL_law_791 : decode cL_law 791 = .ok (.aload_n 0, 1) := by decide +kernel
theorem dL_law_792 : decode cL_law 792 = .ok (.iload 4, 2) := by decide +kernel
theorem dL_law_794 : decode cL_law 794 = .ok (.iconst 2, 1) := by decide +kernel
theorem dL_law_795 : decode cL_law 795 = .ok (.iadd, 1) := by decide +kernel
theorem dL_law_796 : decode cL_law 796 = .ok (.iaload, 1) := by decide +kernel
theorem dL_law_797 : decode cL_law 797 = .ok (.i2l, 1) := by decide +kernel
theorem dL_law_798 : decode cL_law 798 = .ok (.ldc2_w 104, 3) := by decide +kernel
theorem dL_law_801 : decode cL_law 801 = .ok (.land, 1) := by decide +kernel
theorem dL_law_802 : decode cL_law 802 = .ok (.lor, 1) := by decide +kernel
theorem dL_law_803 : decode cL_law 803 = .ok (.aload_n 0, 1) := by decide +kernel
theorem dL_law_804 : decode cL_law 804 = .ok (.iload 4, 2) := by decide +kernel
theorem dL_law_806 : decode cL_law 806 = .ok (.iconst 3, 1) := by decide +kernel
theorem dL_law_807 : decode cL_law 807 = .ok (.iadd, 1) := by decide +kernel
theorem dL_law_808 : decode cL_law 808 = .ok (.iaload, 1) := by decide +kernel
theorem dL_law_809 : decode cL_law 809 = .ok (.i2l, 1) := by decide +kernel
theorem dL_law_810 : decode cL_law 810 = .ok (.bipush 32, 2) := by decide +kernel
theorem dL_law_812 : decode cL_law 812 = .ok (.lshl, 1) := by decide +kernel
theorem dL_law_813 : decode cL_law 813 = .ok (.aload_n 0, 1) := by decide +kernel
theorem dL_law_814 : decode cL_law 814 = .ok (.iload 4, 2) := by decide +kernel
theorem dL_law_816 : decode cL_law 816 = .ok (.iconst 4, 1) := by decide +kernel
theorem dL_law_817 : decode cL_law 817 = .ok (.iadd, 1) := by decide +kernel
theorem dL_law_818 : decode cL_law 818 = .ok (.iaload, 1) := by decide +kernel
theorem dL_law_819 : decode cL_law 819 = .ok (.i2l, 1) := by decide +kernel
theorem dL_law_820 : decode cL_law 820 = .ok (.ldc2_w 104, 3) := by decide +kernel
theorem dL_law_823 : decode cL_law 823 = .ok (.land, 1) := by decide +kernel
theorem dL_law_824 : decode cL_law 824 = .ok (.lor, 1) := by decide +kernel
theorem dL_law_825 : decode cL_law 825 = .ok (.aload_n 0, 1) := by decide +kernel
theorem dL_law_826 : decode cL_law 826 = .ok (.iload 4, 2) := by decide +kernel
theorem dL_law_828 : decode cL_law 828 = .ok (.iconst 5, 1) := by decide +kernel
theorem dL_law_829 : decode cL_law 829 = .ok (.iadd, 1) := by decide +kernel
theorem dL_law_830 : decode cL_law 830 = .ok (.iaload, 1) := by decide +kernel
theorem dL_law_831 : decode cL_law 831 = .ok (.aload_n 3, 1) := by decide +kernel
theorem dL_law_832 : decode cL_law 832 = .ok (.invokestatic 106, 3) := by decide +kernel
theorem dL_law_835 : decode cL_law 835 = .ok (.istore 5, 2) := by decide +kernel
theorem dL_law_837 : decode cL_law 837 = .ok (.aload_n 2, 1) := by decide +kernel
theorem dL_law_838 : decode cL_law 838 = .ok (.aload_n 0, 1) := by decide +kernel
theorem dL_law_839 : decode cL_law 839 = .ok (.iload 4, 2) := by decide +kernel
theorem dL_law_841 : decode cL_law 841 = .ok (.iconst 1, 1) := by decide +kernel
theorem dL_law_842 : decode cL_law 842 = .ok (.iadd, 1) := by decide +kernel
theorem dL_law_843 : decode cL_law 843 = .ok (.iaload, 1) := by decide +kernel
theorem dL_law_844 : decode cL_law 844 = .ok (.i2l, 1) := by decide +kernel
theorem dL_law_845 : decode cL_law 845 = .ok (.bipush 32, 2) := by decide +kernel
theorem dL_law_847 : decode cL_law 847 = .ok (.lshl, 1) := by decide +kernel
theorem dL_law_848 : decode cL_law 848 = .ok (.aload_n 0, 1) := by decide +kernel
theorem dL_law_849 : decode cL_law 849 = .ok (.iload 4, 2) := by decide +kernel
theorem dL_law_851 : decode cL_law 851 = .ok (.iconst 2, 1) := by decide +kernel
theorem dL_law_852 : decode cL_law 852 = .ok (.iadd, 1) := by decide +kernel
theorem dL_law_853 : decode cL_law 853 = .ok (.iaload, 1) := by decide +kernel
theorem dL_law_854 : decode cL_law 854 = .ok (.i2l, 1) := by decide +kernel
theorem dL_law_855 : decode cL_law 855 = .ok (.ldc2_w 104, 3) := by decide +kernel
theorem dL_law_858 : decode cL_law 858 = .ok (.land, 1) := by decide +kernel
theorem dL_law_859 : decode cL_law 859 = .ok (.lor, 1) := by decide +kernel
theorem dL_law_860 : decode cL_law 860 = .ok (.aload_n 0, 1) := by decide +kernel
theorem dL_law_861 : decode cL_law 861 = .ok (.iload 4, 2) := by decide +kernel
theorem dL_law_863 : decode cL_law 863 = .ok (.iconst 3, 1) := by decide +kernel
theorem dL_law_864 : decode cL_law 864 = .ok (.iadd, 1) := by decide +kernel
theorem dL_law_865 : decode cL_law 865 = .ok (.iaload, 1) := by decide +kernel
theorem dL_law_866 : decode cL_law 866 = .ok (.i2l, 1) := by decide +kernel
theorem dL_law_867 : decode cL_law 867 = .ok (.bipush 32, 2) := by decide +kernel
theorem dL_law_869 : decode cL_law 869 = .ok (.lshl, 1) := by decide +kernel
theorem dL_law_870 : decode cL_law 870 = .ok (.aload_n 0, 1) := by decide +kernel
theorem dL_law_871 : decode cL_law 871 = .ok (.iload 4, 2) := by decide +kernel
theorem dL_law_873 : decode cL_law 873 = .ok (.iconst 4, 1) := by decide +kernel
theorem dL_law_874 : decode cL_law 874 = .ok (.iadd, 1) := by decide +kernel
theorem dL_law_875 : decode cL_law 875 = .ok (.iaload, 1) := by decide +kernel
theorem dL_law_876 : decode cL_law 876 = .ok (.i2l, 1) := by decide +kernel
theorem dL_law_877 : decode cL_law 877 = .ok (.ldc2_w 104, 3) := by decide +kernel
theorem dL_law_880 : decode cL_law 880 = .ok (.land, 1) := by decide +kernel
theorem dL_law_881 : decode cL_law 881 = .ok (.lor, 1) := by decide +kernel
theorem dL_law_882 : decode cL_law 882 = .ok (.aload_n 0, 1) := by decide +kernel
theorem dL_law_883 : decode cL_law 883 = .ok (.iload 4, 2) := by decide +kernel
theorem dL_law_885 : decode cL_law 885 = .ok (.iconst 5, 1) := by decide +kernel
theorem dL_law_886 : decode cL_law 886 = .ok (.iadd, 1) := by decide +kernel
theorem dL_law_887 : decode cL_law 887 = .ok (.iaload, 1) := by decide +kernel
theorem dL_law_888 : decode cL_law 888 = .ok (.invokevirtual 109, 3) := by decide +kernel
theorem dL_law_891 : decode cL_law 891 = .ok (.lstore 6, 2) := by decide +kernel
theorem dL_law_893 : decode cL_law 893 = .ok (.aload_n 2, 1) := by decide +kernel
theorem dL_law_894 : decode cL_law 894 = .ok (.invokevirtual 70, 3) := by decide +kernel
theorem dL_law_897 : decode cL_law 897 = .ok (.iload 5, 2) := by decide +kernel
theorem dL_law_899 : decode cL_law 899 = .ok (.if_icmp .eq 5, 3) := by decide +kernel
theorem dL_law_902 : decode cL_law 902 = .ok (.iconst 0, 1) := by decide +kernel
theorem dL_law_903 : decode cL_law 903 = .ok (.ireturn, 1) := by decide +kernel
theorem dL_law_904 : decode cL_law 904 = .ok (.iload 5, 2) := by decide +kernel
theorem dL_law_906 : decode cL_law 906 = .ok (.ifCond .ne 14, 3) := by decide +kernel
theorem dL_law_909 : decode cL_law 909 = .ok (.aload_n 3, 1) := by decide +kernel
theorem dL_law_910 : decode cL_law 910 = .ok (.iconst 0, 1) := by decide +kernel
theorem dL_law_911 : decode cL_law 911 = .ok (.laload, 1) := by decide +kernel
theorem dL_law_912 : decode cL_law 912 = .ok (.lload 6, 2) := by decide +kernel
theorem dL_law_914 : decode cL_law 914 = .ok (.lcmp, 1) := by decide +kernel
theorem dL_law_915 : decode cL_law 915 = .ok (.ifCond .eq 5, 3) := by decide +kernel
theorem dL_law_918 : decode cL_law 918 = .ok (.iconst 0, 1) := by decide +kernel
theorem dL_law_919 : decode cL_law 919 = .ok (.ireturn, 1) := by decide +kernel
theorem dL_law_920 : decode cL_law 920 = .ok (.goto 102, 3) := by decide +kernel
theorem dL_law_923 : decode cL_law 923 = .ok (.aload_n 1, 1) := by decide +kernel
theorem dL_law_924 : decode cL_law 924 = .ok (.aload_n 0, 1) := by decide +kernel
theorem dL_law_925 : decode cL_law 925 = .ok (.iload 4, 2) := by decide +kernel
theorem dL_law_927 : decode cL_law 927 = .ok (.iconst 1, 1) := by decide +kernel
theorem dL_law_928 : decode cL_law 928 = .ok (.iadd, 1) := by decide +kernel
theorem dL_law_929 : decode cL_law 929 = .ok (.iaload, 1) := by decide +kernel
theorem dL_law_930 : decode cL_law 930 = .ok (.aload_n 0, 1) := by decide +kernel
theorem dL_law_931 : decode cL_law 931 = .ok (.iload 4, 2) := by decide +kernel
theorem dL_law_933 : decode cL_law 933 = .ok (.iconst 2, 1) := by decide +kernel
theorem dL_law_934 : decode cL_law 934 = .ok (.iadd, 1) := by decide +kernel
theorem dL_law_935 : decode cL_law 935 = .ok (.iaload, 1) := by decide +kernel
theorem dL_law_936 : decode cL_law 936 = .ok (.aload_n 3, 1) := by decide +kernel
theorem dL_law_937 : decode cL_law 937 = .ok (.invokestatic 110, 3) := by decide +kernel
theorem dL_law_940 : decode cL_law 940 = .ok (.istore 5, 2) := by decide +kernel
theorem dL_law_942 : decode cL_law 942 = .ok (.aload_n 2, 1) := by decide +kernel
theorem dL_law_943 : decode cL_law 943 = .ok (.aload_n 0, 1) := by decide +kernel
theorem dL_law_944 : decode cL_law 944 = .ok (.iload 4, 2) := by decide +kernel
theorem dL_law_946 : decode cL_law 946 = .ok (.iconst 1, 1) := by decide +kernel
theorem dL_law_947 : decode cL_law 947 = .ok (.iadd, 1) := by decide +kernel
theorem dL_law_948 : decode cL_law 948 = .ok (.iaload, 1) := by decide +kernel
theorem dL_law_949 : decode cL_law 949 = .ok (.aload_n 0, 1) := by decide +kernel
theorem dL_law_950 : decode cL_law 950 = .ok (.iload 4, 2) := by decide +kernel
theorem dL_law_952 : decode cL_law 952 = .ok (.iconst 2, 1) := by decide +kernel
theorem dL_law_953 : decode cL_law 953 = .ok (.iadd, 1) := by decide +kernel
theorem dL_law_954 : decode cL_law 954 = .ok (.iaload, 1) := by decide +kernel
theorem dL_law_955 : decode cL_law 955 = .ok (.invokevirtual 112, 3) := by decide +kernel
theorem dL_law_958 : decode cL_law 958 = .ok (.istore 6, 2) := by decide +kernel
theorem dL_law_960 : decode cL_law 960 = .ok (.aload_n 2, 1) := by decide +kernel
theorem dL_law_961 : decode cL_law 961 = .ok (.invokevirtual 70, 3) := by decide +kernel
theorem dL_law_964 : decode cL_law 964 = .ok (.iload 5, 2) := by decide +kernel
theorem dL_law_966 : decode cL_law 966 = .ok (.if_icmp .eq 5, 3) := by decide +kernel
theorem dL_law_969 : decode cL_law 969 = .ok (.iconst 0, 1) := by decide +kernel
theorem dL_law_970 : decode cL_law 970 = .ok (.ireturn, 1) := by decide +kernel
theorem dL_law_971 : decode cL_law 971 = .ok (.iload 5, 2) := by decide +kernel
theorem dL_law_973 : decode cL_law 973 = .ok (.ifCond .ne 22, 3) := by decide +kernel
theorem dL_law_976 : decode cL_law 976 = .ok (.aload_n 3, 1) := by decide +kernel
theorem dL_law_977 : decode cL_law 977 = .ok (.iconst 0, 1) := by decide +kernel
theorem dL_law_978 : decode cL_law 978 = .ok (.laload, 1) := by decide +kernel
theorem dL_law_979 : decode cL_law 979 = .ok (.iload 6, 2) := by decide +kernel
theorem dL_law_981 : decode cL_law 981 = .ok (.ifCond .eq 7, 3) := by decide +kernel
theorem dL_law_984 : decode cL_law 984 = .ok (.lconst 1, 1) := by decide +kernel
theorem dL_law_985 : decode cL_law 985 = .ok (.goto 4, 3) := by decide +kernel
theorem dL_law_988 : decode cL_law 988 = .ok (.lconst 0, 1) := by decide +kernel
theorem dL_law_989 : decode cL_law 989 = .ok (.lcmp, 1) := by decide +kernel
theorem dL_law_990 : decode cL_law 990 = .ok (.ifCond .eq 5, 3) := by decide +kernel
theorem dL_law_993 : decode cL_law 993 = .ok (.iconst 0, 1) := by decide +kernel
theorem dL_law_994 : decode cL_law 994 = .ok (.ireturn, 1) := by decide +kernel
theorem dL_law_995 : decode cL_law 995 = .ok (.goto 27, 3) := by decide +kernel
theorem dL_law_998 : decode cL_law 998 = .ok (.aload_n 1, 1) := by decide +kernel
theorem dL_law_999 : decode cL_law 999 = .ok (.invokevirtual 113, 3) := by decide +kernel
theorem dL_law_1002 : decode cL_law 1002 = .ok (.aload_n 2, 1) := by decide +kernel
theorem dL_law_1003 : decode cL_law 1003 = .ok (.invokevirtual 116, 3) := by decide +kernel
theorem dL_law_1006 : decode cL_law 1006 = .ok (.if_icmp .eq 16, 3) := by decide +kernel
theorem dL_law_1009 : decode cL_law 1009 = .ok (.iconst 0, 1) := by decide +kernel
theorem dL_law_1010 : decode cL_law 1010 = .ok (.ireturn, 1) := by decide +kernel
theorem dL_law_1011 : decode cL_law 1011 = .ok (.aload_n 1, 1) := by decide +kernel
theorem dL_law_1012 : decode cL_law 1012 = .ok (.invokevirtual 117, 3) := by decide +kernel
theorem dL_law_1015 : decode cL_law 1015 = .ok (.aload_n 2, 1) := by decide +kernel
theorem dL_law_1016 : decode cL_law 1016 = .ok (.invokevirtual 120, 3) := by decide +kernel
theorem dL_law_1019 : decode cL_law 1019 = .ok (.goto 3, 3) := by decide +kernel
theorem dL_law_1022 : decode cL_law 1022 = .ok (.iinc 4 6, 3) := by decide +kernel
theorem dL_law_1025 : decode cL_law 1025 = .ok (.goto (-1002), 3) := by decide +kernel
theorem dL_law_1028 : decode cL_law 1028 = .ok (.iconst 1, 1) := by decide +kernel
theorem dL_law_1029 : decode cL_law 1029 = .ok (.ireturn, 1) := by decide +kernel
end
section
/-! pure rows: numbers alone, no machine -/
def bI (c : Prop) [Decidable c] : Int32 := if c then 1 else 0
theorem bI_1 {c : Prop} [Decidable c] (h : c) : bI c = 1 := if_pos h
theorem bI_0 {c : Prop} [Decidable c] (h : ¬ c) : bI c = 0 := if_neg h
theorem bI_eq0 {c : Prop} [Decidable c] : bI c = 0 ↔ ¬ c := by
  constructor
  · intro h q
    rw [bI_1 q] at h
    exact absurd h (by decide)
  · exact bI_0
theorem bI_ne0 {c : Prop} [Decidable c] : ¬ bI c = 0 ↔ c := by
  constructor
  · intro h
    exact Decidable.byContradiction (fun q => h (bI_0 q))
  · intro h q
    exact bI_eq0.mp q h
theorem one32 : (1 : Int32).toInt = 1 := by decide
theorem m132 : (-1 : Int32).toInt = -1 := by decide
theorem two32 : (2 : Int32).toInt = 2 := by decide
theorem one64 : (1 : Int64).toInt = 1 := by decide
theorem two64 : (2 : Int64).toInt = 2 := by decide
theorem zero64 : (0 : Int64).toInt = 0 := by decide
theorem cl_of {z : Int32} {j : Nat} (h : z.toInt = (j : Int)) : z.toNatClampNeg = j := by
  rw [← Int32.toNat_toInt, h]
  rfl
theorem nI_m1 {n : Nat} (h : n ≤ 40) : (nI n - 1).toInt = (n : Int) - 1 := by
  have h2 := nI_toInt (n := n) (by omega)
  rw [Kit.i32_sub (by rw [one32, h2]; omega) (by rw [one32, h2]; omega), one32, h2]
theorem nI_sub1 {k : Nat} (h : 1 ≤ k) (h2 : k < 2 ^ 31) : (nI k - 1).toInt = ((k - 1 : Nat) : Int) := by
  have h3 := nI_toInt (n := k) h2
  rw [Kit.i32_sub (by rw [one32, h3]; omega) (by rw [one32, h3]; omega), one32, h3]
  omega
theorem i32_m1 {z : Int32} {b : Int} (h0 : 0 ≤ z.toInt) (h : z.toInt = b + 1) : (z + (-1)).toInt = b := by
  have h1 := z.toInt_lt
  rw [Kit.i32_add (by rw [m132]; omega) (by rw [m132]; omega), m132]
  omega
theorem i32_x2 {a : Int32} (h1 : 0 ≤ a.toInt) (h2 : a.toInt ≤ 1000000) : (a * 2).toInt = a.toInt * 2 := by
  rw [Kit.i32_mul (by rw [two32]; omega) (by rw [two32]; omega), two32]
theorem i32_x2' {a : Int32} (h1 : 0 ≤ a.toInt) (h2 : a.toInt ≤ 1000000) : (2 * a).toInt = a.toInt * 2 := by
  rw [Kit.i32_mul (by rw [two32]; omega) (by rw [two32]; omega), two32]
  omega
theorem ext_dn {P : Nat → Prop} {k n : Nat} (h : 0 < k) (ha : ∀ j, k ≤ j → j < n → P j) (hp : P (k - 1)) : ∀ j, k - 1 ≤ j → j < n → P j := by
  intro j h1 h2
  rcases Nat.lt_or_ge j k with q | q
  · rw [show j = k - 1 by omega]
    exact hp
  · exact ha j q h2
theorem ext_up {P : Nat → Prop} {k : Nat} (ha : ∀ j, 1 ≤ j → j < k → P j) (hp : P k) : ∀ j, 1 ≤ j → j < k + 1 → P j := by
  intro j h1 h2
  rcases Nat.lt_or_ge j k with q | q
  · exact ha j h1 q
  · rw [show j = k by omega]
    exact hp
theorem ext_q {P : Nat → Prop} {k q0 : Nat} (ha : ∀ j, q0 < j → j < k → P j) (hp : P k) : ∀ j, q0 < j → j < k + 1 → P j := by
  intro j h1 h2
  rcases Nat.lt_or_ge j k with q | q
  · exact ha j h1 q
  · rw [show j = k by omega]
    exact hp
/-- how far a row is above the line, as the class has it, and as the reference has it -/
def exl (S F : Nat → Int32) (mu ml : Int64) (ls : Int32) (k : Nat) : Int64 := (F k).toInt64 * ml - mu * (S k - ls).toInt64
def exm (S F : Nat → Int32) (hu hw : Int64) (sl sh : Int32) (k : Nat) : Int64 := (F k).toInt64 * hw - hu * (S k - sl - sh).toInt64
def mtg (g : Nat → Int64) (k : Nat) : Prop := (g k).toInt ≤ 0 ∧ 0 < (g (k - 1)).toInt
/-- the first place of the greatest force among n rows -/
def pk (F : Nat → Int32) : Nat → Nat
  | 0 => 0
  | k + 1 => if (F (pk F k)).toInt < (F k).toInt then k else pk F k
theorem pkf_t (F : Nat → Int32) (k : Nat) (h : (F (pk F k)).toInt < (F k).toInt) : pk F (k + 1) = k := by
  unfold pk
  rw [if_pos h]
theorem pkf_f (F : Nat → Int32) (k : Nat) (h : ¬ (F (pk F k)).toInt < (F k).toInt) : pk F (k + 1) = pk F k := by
  rw [pk, if_neg h]
theorem pkf_1 (F : Nat → Int32) : (0 : Int32) = nI (pk F 1) := by
  rw [pkf_f F 0 (by unfold pk; omega)]
  rfl
theorem pkf_lt (F : Nat → Int32) {k : Nat} (h : 1 ≤ k) : pk F k < k := by
  induction k with
  | zero => omega
  | succ k ih =>
    by_cases q : (F (pk F k)).toInt < (F k).toInt
    · rw [pkf_t F k q]
      omega
    · rw [pkf_f F k q]
      rcases Nat.eq_zero_or_pos k with z | z
      · subst z
        exact Nat.zero_lt_one
      · have := ih z
        omega
/-- behind row q some force is below a half of its force -/
def hfb (F : Nat → Int32) (n q : Nat) : Prop := ∃ j, q < j ∧ j < n ∧ (F j).toInt * 2 < (F q).toInt
/-! Euclid's way: the product of the two numbers halves at each step -/
def eu_inv (a b i u v : Nat) : Prop := Nat.gcd u v = Nat.gcd a b ∧ ((i = 0 ∧ v ≤ 2 ^ 41) ∨ (0 < i ∧ v ≤ u ∧ u * v * 2 ^ (i - 1) ≤ 2 ^ 82))
theorem eu_0 {a b : Nat} (h : b ≤ 2 ^ 41) : eu_inv a b 0 a b := ⟨rfl, Or.inl ⟨rfl, h⟩⟩
theorem eu_half {x y : Nat} (hy : 0 < y) (h : y ≤ x) : 2 * (y * (x % y)) ≤ x * y := by
  have h1 := Nat.mod_lt x hy
  have h2 := Nat.mod_add_div x y
  have h3 : 1 ≤ x / y := (Nat.le_div_iff_mul_le hy).mpr (by omega)
  have h4 : y * 1 ≤ y * (x / y) := Nat.mul_le_mul_left y h3
  rw [Nat.mul_left_comm, Nat.mul_comm x y]
  exact Nat.mul_le_mul_left y (by omega)
theorem eu_gcd (u v : Nat) : Nat.gcd v (u % v) = Nat.gcd u v := by
  rw [Nat.gcd_comm u v, Nat.gcd_rec v u, Nat.gcd_comm]
theorem eu_next {a b i u v : Nat} (h : eu_inv a b i u v) (hv : v ≠ 0) : eu_inv a b (i + 1) v (u % v) := by
  obtain ⟨hg, h⟩ := h
  have hv0 : 0 < v := by omega
  have hm := Nat.mod_lt u hv0
  refine ⟨(eu_gcd u v).trans hg, Or.inr ⟨by omega, by omega, ?_⟩⟩
  rw [Nat.add_sub_cancel]
  rcases h with ⟨rfl, h⟩ | ⟨hi, hvu, hb⟩
  · have h1 : v * (u % v) ≤ 2 ^ 41 * 2 ^ 41 := Nat.mul_le_mul h (by omega)
    rw [Nat.pow_zero, Nat.mul_one]
    exact Nat.le_trans h1 (by decide)
  · have h1 := eu_half hv0 hvu
    have h2 : 2 ^ i = 2 * 2 ^ (i - 1) := by
      obtain ⟨k, rfl⟩ : ∃ k, i = k + 1 := ⟨i - 1, by omega⟩
      rw [Nat.add_sub_cancel, Nat.pow_succ, Nat.mul_comm]
    rw [h2, ← Nat.mul_assoc, Nat.mul_comm (v * (u % v)) 2]
    exact Nat.le_trans (Nat.mul_le_mul_right _ h1) hb
theorem eu_end {a b i u v : Nat} (hi : i = 100) (h : eu_inv a b i u v) : v = 0 := by
  obtain ⟨-, h⟩ := h
  rcases h with ⟨h, -⟩ | ⟨-, hvu, hb⟩
  · omega
  · rcases Nat.eq_zero_or_pos v with q | q
    · exact q
    · have h1 : 1 * 1 ≤ u * v := Nat.mul_le_mul (by omega) q
      have h2 : 1 * 2 ^ (i - 1) ≤ u * v * 2 ^ (i - 1) := Nat.mul_le_mul_right _ (by omega)
      rw [hi] at h2 hb
      exact absurd (Nat.le_trans h2 hb) (by decide)
theorem eu_out {a b i u v : Nat} {g1 : Int64} (h : eu_inv a b i u v) (hu : g1.toInt = (u : Int)) (hv : v = 0) : g1.toInt = (Nat.gcd a b : Int) := by
  rw [hu, ← h.1, hv, Nat.gcd_zero_right]
theorem eu_rem {g1 g2 : Int64} {u v : Nat} (hu : g1.toInt = (u : Int)) (hv : g2.toInt = (v : Int)) : (g1 - g1 / g2 * g2).toInt = ((u % v : Nat) : Int) := by
  rw [Kit.i64_rem_nonneg (by omega), hu, hv]
  rfl
/-- a part of a fraction in lowest terms -/
def fr (U L p : Int) : Int := (if p = 0 then U else L).tdiv (Int.gcd U L)
theorem fr_scale {U L p : Int} {g : Nat} (hg : 0 < g) : fr ((g : Int) * U) ((g : Int) * L) p = fr U L p := by
  unfold fr
  rw [Int.gcd_mul_left, Int.natAbs_natCast, Int.natCast_mul]
  split
  · exact Int.mul_tdiv_mul_of_pos _ _ (by omega)
  · exact Int.mul_tdiv_mul_of_pos _ _ (by omega)
theorem pit_abs {y1 : Int64} (h1 : y1.toInt ≠ -2 ^ 63) : (if 0 < y1 then y1 else -y1).toInt = (y1.toInt.natAbs : Int) := by
  split
  · rename_i h
    have := Int64.lt_iff_toInt_lt.mp h
    rw [zero64] at this
    omega
  · rename_i h
    have : ¬ (0 : Int64).toInt < y1.toInt := fun q => h (Int64.lt_iff_toInt_lt.mpr q)
    rw [zero64] at this
    rw [Kit.i64_neg h1]
    omega
theorem pit_pos {y2 : Int64} (h2 : 0 < y2.toInt) : y2.toInt = (y2.toInt.natAbs : Int) := by omega
theorem pit_41 {y2 : Int64} (h2 : 0 < y2.toInt) (h3 : y2.toInt ≤ 2 ^ 41) : y2.toInt.natAbs ≤ 2 ^ 41 := by omega
theorem pit_g {y1 y2 r : Int64} (h2 : 0 < y2.toInt) (h : r.toInt = (Nat.gcd y1.toInt.natAbs y2.toInt.natAbs : Int)) : r.toInt = (Int.gcd y1.toInt y2.toInt : Int) ∧ 1 ≤ r.toInt := by
  refine ⟨h, ?_⟩
  have : 0 < Nat.gcd y1.toInt.natAbs y2.toInt.natAbs := Nat.gcd_pos_of_pos_right _ (by omega)
  omega
theorem pit_uk {y1 y2 r : Int64} {p : Int} (h1 : y1.toInt ≠ -2 ^ 63) (h2 : 0 < y2.toInt) (hp : p = 0) (h : r.toInt = (Nat.gcd y1.toInt.natAbs y2.toInt.natAbs : Int)) (hc : r.toInt ≤ 1) : y1.toInt = fr y1.toInt y2.toInt p := by
  obtain ⟨e1, e2⟩ := pit_g h2 h
  unfold fr
  rw [if_pos hp, ← e1, show r.toInt = 1 by omega, Int.tdiv_one]
theorem pit_lk {y1 y2 r : Int64} {p : Int} (h1 : y1.toInt ≠ -2 ^ 63) (h2 : 0 < y2.toInt) (hp : ¬ p = 0) (h : r.toInt = (Nat.gcd y1.toInt.natAbs y2.toInt.natAbs : Int)) (hc : r.toInt ≤ 1) : y2.toInt = fr y1.toInt y2.toInt p := by
  obtain ⟨e1, e2⟩ := pit_g h2 h
  unfold fr
  rw [if_neg hp, ← e1, show r.toInt = 1 by omega, Int.tdiv_one]
theorem pit_ud {y1 y2 r : Int64} {p : Int} (h1 : y1.toInt ≠ -2 ^ 63) (h2 : 0 < y2.toInt) (hp : p = 0) (h : r.toInt = (Nat.gcd y1.toInt.natAbs y2.toInt.natAbs : Int)) (hc : ¬ r.toInt ≤ 1) : (y1 / r).toInt = fr y1.toInt y2.toInt p := by
  obtain ⟨e1, e2⟩ := pit_g h2 h
  unfold fr
  rw [if_pos hp, ← e1, Kit.i64_div (by omega)]
theorem pit_ld {y1 y2 r : Int64} {p : Int} (h1 : y1.toInt ≠ -2 ^ 63) (h2 : 0 < y2.toInt) (hp : ¬ p = 0) (h : r.toInt = (Nat.gcd y1.toInt.natAbs y2.toInt.natAbs : Int)) (hc : ¬ r.toInt ≤ 1) : (y2 / r).toInt = fr y1.toInt y2.toInt p := by
  obtain ⟨e1, e2⟩ := pit_g h2 h
  unfold fr
  rw [if_neg hp, ← e1, Kit.i64_div (by omega)]
/-- rounding by a rule: 0 half up, 1 half to even, 2 down -/
def rnd (U L p : Int) : Int := if p = 2 ∨ 2 * (U % L) < L then U / L else if 2 * (U % L) = L ∧ (U / L) % 2 = 0 ∧ p = 1 then U / L else U / L + 1
theorem rnd_1 {U L p : Int} (h : p = 2 ∨ 2 * (U % L) < L) : rnd U L p = U / L := if_pos h
theorem rnd_2 {U L p : Int} (h : ¬ (p = 2 ∨ 2 * (U % L) < L)) (h2 : 2 * (U % L) = L ∧ (U / L) % 2 = 0 ∧ p = 1) : rnd U L p = U / L := by
  unfold rnd
  rw [if_neg h, if_pos h2]
theorem rnd_3 {U L p : Int} (h : ¬ (p = 2 ∨ 2 * (U % L) < L)) (h2 : ¬ (2 * (U % L) = L ∧ (U / L) % 2 = 0 ∧ p = 1)) : rnd U L p = U / L + 1 := by
  unfold rnd
  rw [if_neg h, if_neg h2]
theorem fl_bd {U L : Int} (h1 : -1000000000000 ≤ U) (h2 : U ≤ 1000000000000) (h3 : 1 ≤ L) : -1000000000000 ≤ U / L ∧ U / L ≤ 1000000000000 := by
  constructor
  · exact (Int.le_ediv_iff_mul_le (by omega)).mpr (by have := Int.mul_le_mul_of_nonneg_left h3 (show (0 : Int) ≤ 1000000000000 by decide); omega)
  · refine Int.le_of_lt_add_one ((Int.ediv_lt_iff_lt_mul (by omega)).mpr ?_)
    have := Int.mul_le_mul_of_nonneg_left h3 (show (0 : Int) ≤ 1000000000001 by decide)
    omega
theorem fl_rem {U L : Int} (h3 : 1 ≤ L) : U - U / L * L = U % L ∧ 0 ≤ U % L ∧ U % L < L := by
  refine ⟨?_, Int.emod_nonneg _ (by omega), Int.emod_lt_of_pos _ (by omega)⟩
  have := Int.mul_ediv_add_emod U L
  rw [Int.mul_comm] at this
  omega
/-- what is left, twice, in machine numbers -/
theorem rbr_tw {y1 y2 q : Int64} (h1 : -1000000000000 ≤ y1.toInt) (h2 : y1.toInt ≤ 1000000000000) (h3 : 1 ≤ y2.toInt) (h4 : y2.toInt ≤ 1000000000000) (hq : q.toInt = y1.toInt / y2.toInt) :
    (q * y2).toInt = y1.toInt - y1.toInt % y2.toInt ∧ (y1 - q * y2).toInt = y1.toInt % y2.toInt ∧ (2 * (y1 - q * y2)).toInt = 2 * (y1.toInt % y2.toInt) := by
  obtain ⟨a1, a2, a3⟩ := fl_rem (U := y1.toInt) h3
  have e1 : (q * y2).toInt = y1.toInt / y2.toInt * y2.toInt := by
    rw [Kit.i64_mul (by rw [hq]; omega) (by rw [hq]; omega), hq]
  have e2 : (y1 - q * y2).toInt = y1.toInt % y2.toInt := by
    rw [Kit.i64_sub (by rw [e1]; omega) (by rw [e1]; omega), e1]
    omega
  refine ⟨by omega, e2, ?_⟩
  rw [Kit.i64_mul (by rw [e2, two64]; omega) (by rw [e2, two64]; omega), e2, two64]
theorem rbr_up {y1 y2 q : Int64} (h1 : -1000000000000 ≤ y1.toInt) (h2 : y1.toInt ≤ 1000000000000) (h3 : 1 ≤ y2.toInt) (hq : q.toInt = y1.toInt / y2.toInt) : (q + 1).toInt = y1.toInt / y2.toInt + 1 ∧ (q &&& 1).toInt = (y1.toInt / y2.toInt) % 2 := by
  have b := fl_bd h1 h2 h3
  constructor
  · rw [Kit.i64_add (by rw [hq, one64]; omega) (by rw [hq, one64]; omega), hq, one64]
  · rw [Kit.i64_mask q 1 (k := 1) (by decide) (by decide), hq]
    rfl
/-- truncated division, set right to the floor -/
theorem fl_t {U L : Int} (h3 : 1 ≤ L) : (0 ≤ U ∧ U.tdiv L = U / L) ∨ (U < 0 ∧ ((U % L = 0 ∧ U.tdiv L = U / L) ∨ (U % L ≠ 0 ∧ U.tdiv L = U / L + 1))) := by
  rcases Int.le_total 0 U with h | h
  · exact Or.inl ⟨h, Int.tdiv_eq_ediv_of_nonneg h⟩
  · rcases Int.lt_or_eq_of_le h with h | h
    · refine Or.inr ⟨h, ?_⟩
      by_cases q : U % L = 0
      · exact Or.inl ⟨q, Int.tdiv_eq_ediv_of_dvd (Int.dvd_of_emod_eq_zero q)⟩
      · refine Or.inr ⟨q, ?_⟩
        rw [Int.tdiv_eq_ediv, if_neg (by rintro (a | a); omega; exact q (Int.emod_eq_zero_of_dvd a)), Int.sign_eq_one_of_pos (by omega)]
    · exact Or.inl ⟨by omega, Int.tdiv_eq_ediv_of_nonneg (by omega)⟩
theorem fl_d {y1 y2 : Int64} (h1 : -1000000000000 ≤ y1.toInt) (h2 : y1.toInt ≤ 1000000000000) (h3 : 1 ≤ y2.toInt) (h4 : y2.toInt ≤ 1000000000000) :
    ((y1 / y2).toInt = y1.toInt.tdiv y2.toInt) ∧ ((y1 / y2 * y2).toInt = y1.toInt.tdiv y2.toInt * y2.toInt) ∧ ((y1 / y2 - 1).toInt = y1.toInt.tdiv y2.toInt - 1) ∧ y1.toInt / y2.toInt * y2.toInt = y1.toInt - y1.toInt % y2.toInt ∧ 0 ≤ y1.toInt % y2.toInt ∧ y1.toInt % y2.toInt < y2.toInt := by
  obtain ⟨a1, a2, a3⟩ := fl_rem (U := y1.toInt) h3
  have b := fl_bd h1 h2 h3
  have t := fl_t (U := y1.toInt) h3
  have e1 : (y1 / y2).toInt = y1.toInt.tdiv y2.toInt := Kit.i64_div (by omega)
  have e2 : y1.toInt.tdiv y2.toInt * y2.toInt = y1.toInt / y2.toInt * y2.toInt ∨ y1.toInt.tdiv y2.toInt * y2.toInt = y1.toInt / y2.toInt * y2.toInt + y2.toInt := by
    rcases t with ⟨-, t⟩ | ⟨-, ⟨-, t⟩ | ⟨-, t⟩⟩
    · left; rw [t]
    · left; rw [t]
    · right; rw [t, Int.add_mul, Int.one_mul]
  refine ⟨e1, ?_, ?_, by omega, a2, a3⟩
  · rw [Kit.i64_mul (by rw [e1]; omega) (by rw [e1]; omega), e1]
  · rw [Kit.i64_sub (by rw [e1, one64]; omega) (by rw [e1, one64]; omega), e1, one64]
theorem fl_k {U L : Int} (h3 : 1 ≤ L) : (U.tdiv L = U / L ∧ U.tdiv L * L = U / L * L) ∨ (U.tdiv L = U / L + 1 ∧ U.tdiv L * L = U / L * L + L) := by
  rcases fl_t (U := U) h3 with ⟨-, t⟩ | ⟨-, ⟨-, t⟩ | ⟨-, t⟩⟩
  · left; rw [t]; exact ⟨rfl, rfl⟩
  · left; rw [t]; exact ⟨rfl, rfl⟩
  · right; rw [t, Int.add_mul, Int.one_mul]; exact ⟨rfl, rfl⟩
end
section
/-! what a call is refused for: the number of the first condition that fails -/
def kd4 (a b c d : Prop) [Decidable a] [Decidable b] [Decidable c] [Decidable d] : Int32 := if ¬ a then 1 else if ¬ b then 2 else if ¬ c then 3 else if ¬ d then 4 else 0
section KD
variable {a b c d : Prop}
theorem kd_1 [Decidable a] [Decidable b] [Decidable c] [Decidable d] (h1 : ¬ a) : kd4 a b c d = 1 := by unfold kd4; rw [if_pos h1]
theorem kd_2 [Decidable a] [Decidable b] [Decidable c] [Decidable d] (h1 : a) (h2 : ¬ b) : kd4 a b c d = 2 := by unfold kd4; rw [if_neg (fun q => q h1), if_pos h2]
theorem kd_3 [Decidable a] [Decidable b] [Decidable c] [Decidable d] (h1 : a) (h2 : b) (h3 : ¬ c) : kd4 a b c d = 3 := by unfold kd4; rw [if_neg (fun q => q h1), if_neg (fun q => q h2), if_pos h3]
theorem kd_4 [Decidable a] [Decidable b] [Decidable c] [Decidable d] (h1 : a) (h2 : b) (h3 : c) (h4 : ¬ d) : kd4 a b c d = 4 := by unfold kd4; rw [if_neg (fun q => q h1), if_neg (fun q => q h2), if_neg (fun q => q h3), if_pos h4]
theorem kd_0 [Decidable a] [Decidable b] [Decidable c] [Decidable d] (h1 : a) (h2 : b) (h3 : c) (h4 : d) : kd4 a b c d = 0 := by unfold kd4; rw [if_neg (fun q => q h1), if_neg (fun q => q h2), if_neg (fun q => q h3), if_neg (fun q => q h4)]
theorem kd_z [Decidable a] [Decidable b] [Decidable c] [Decidable d] (h : kd4 a b c d = 0) : a ∧ b ∧ c ∧ d := by
  by_cases h1 : a
  · by_cases h2 : b
    · by_cases h3 : c
      · by_cases h4 : d
        · exact ⟨h1, h2, h3, h4⟩
        · rw [kd_4 h1 h2 h3 h4] at h; exact absurd h (by decide)
      · rw [kd_3 h1 h2 h3] at h; exact absurd h (by decide)
    · rw [kd_2 h1 h2] at h; exact absurd h (by decide)
  · rw [kd_1 h1] at h; exact absurd h (by decide)
end KD
theorem kd_congr {a b c d a' b' c' d' : Prop} [Decidable a] [Decidable b] [Decidable c] [Decidable d] [Decidable a'] [Decidable b'] [Decidable c'] [Decidable d'] (h1 : a ↔ a') (h2 : a → (b ↔ b')) (h3 : a → b → (c ↔ c')) (h4 : a → b → c → (d ↔ d')) : kd4 a b c d = kd4 a' b' c' d' := by
  by_cases q1 : a
  · by_cases q2 : b
    · by_cases q3 : c
      · by_cases q4 : d
        · rw [kd_0 q1 q2 q3 q4, kd_0 (h1.mp q1) ((h2 q1).mp q2) ((h3 q1 q2).mp q3) ((h4 q1 q2 q3).mp q4)]
        · rw [kd_4 q1 q2 q3 q4, kd_4 (h1.mp q1) ((h2 q1).mp q2) ((h3 q1 q2).mp q3) (fun z => q4 ((h4 q1 q2 q3).mpr z))]
      · rw [kd_3 q1 q2 q3, kd_3 (h1.mp q1) ((h2 q1).mp q2) (fun z => q3 ((h3 q1 q2).mpr z))]
    · rw [kd_2 q1 q2, kd_2 (h1.mp q1) (fun z => q2 ((h2 q1).mpr z))]
  · rw [kd_1 q1, kd_1 (fun z => q1 (h1.mpr z))]
abbrev ok_row (n : Nat) (S : Nat → Int32) (p1 p2 : Int32) : Prop := (0 ≤ p1.toInt ∧ p1.toInt ≤ 1000000) ∧ (0 ≤ p2.toInt ∧ p2.toInt ≤ 1000000) ∧ (n = 0 ∨ (S (n - 1)).toInt < p1.toInt)
abbrev ok_sec (p1 p2 : Int32) : Prop := (1 ≤ p1.toInt ∧ p1.toInt ≤ 10000) ∧ (0 ≤ p2.toInt ∧ p2.toInt ≤ 1000000)
abbrev ok_span (p1 p2 : Int32) : Prop := (0 ≤ p1.toInt ∧ p1.toInt ≤ 1000000) ∧ (0 ≤ p2.toInt ∧ p2.toInt ≤ 1000000) ∧ p1.toInt < p2.toInt
abbrev ok_len (p1 p2 : Int32) : Prop := (1 ≤ p1.toInt ∧ p1.toInt ≤ 1000000) ∧ (1 ≤ p2.toInt ∧ p2.toInt ≤ 1000000)
abbrev ok_mac (p1 p2 : Int32) : Prop := (1 ≤ p1.toInt ∧ p1.toInt ≤ 1000000) ∧ (1 ≤ p2.toInt ∧ p2.toInt ≤ 1000000)
abbrev ok_imp (p1 p2 : Int32) : Prop := (-200 ≤ p1.toInt ∧ p1.toInt ≤ 200) ∧ (0 ≤ p2.toInt ∧ p2.toInt ≤ 400)
abbrev ok_tab (tc : Nat) (X : Nat → Int32) (p1 p2 : Int32) : Prop := (0 ≤ p1.toInt ∧ p1.toInt ≤ 2000) ∧ (0 ≤ p2.toInt ∧ p2.toInt ≤ 2000) ∧ (tc = 0 ∨ (X (tc - 1)).toInt < p1.toInt)
abbrev ok_rd (y1 y2 : Int64) : Prop := (1 ≤ y2.toInt ∧ y2.toInt ≤ 1000000000000) ∧ (-1000000000000 ≤ y1.toInt ∧ y1.toInt ≤ 1000000000000)
abbrev ok_cv (tc : Nat) (X : Nat → Int32) (p1 : Int32) : Prop := 0 < tc ∧ (X 0).toInt ≤ p1.toInt ∧ p1.toInt ≤ (X (tc - 1)).toInt
abbrev ok_pk (n : Nat) (ar p1 : Int32) : Prop := 0 < n ∧ (¬ p1.toInt = 2 ∨ 0 < ar.toInt)
abbrev mfail (p1 p2 : Int32) : Prop := p1.toInt < 100 * (p1.toInt - p2.toInt) ∨ p1.toInt < 100 * (p2.toInt - p1.toInt)
theorem nI_p1 {n : Nat} (h : 1 ≤ n) : nI n - 1 = nI (n - 1) := by
  obtain ⟨k, rfl⟩ : ∃ k, n = k + 1 := ⟨n - 1, by omega⟩
  rw [nI_pred, Nat.add_sub_cancel]
theorem bI_nar {c : Prop} [Decidable c] : narrow .boolean (.int (bI c)) = .int (bI c) := by
  by_cases h : c
  · rw [bI_1 h]; rfl
  · rw [bI_0 h]; rfl
theorem bI_fit {c : Prop} [Decidable c] : fits .boolean (.int (bI c)) = true := by
  by_cases h : c
  · rw [bI_1 h]; rfl
  · rw [bI_0 h]; rfl
/-- of n rows, how many lie below v -/
def cl (S : Nat → Int32) (v : Int) : Nat → Nat
  | 0 => 0
  | n + 1 => cl S v n + if (S n).toInt < v then 1 else 0
theorem cl_t {S : Nat → Int32} {v : Int} {n : Nat} (h : (S n).toInt < v) : cl S v (n + 1) = cl S v n + 1 := by rw [cl, if_pos h]
theorem cl_f {S : Nat → Int32} {v : Int} {n : Nat} (h : ¬ (S n).toInt < v) : cl S v (n + 1) = cl S v n := by rw [cl, if_neg h]; rfl
theorem cl_le (S : Nat → Int32) (v : Int) (n : Nat) : cl S v n ≤ n := by
  induction n with
  | zero => exact Nat.le_refl 0
  | succ n ih =>
    by_cases h : (S n).toInt < v
    · rw [cl_t h]; omega
    · rw [cl_f h]; omega
/-- rising rows -/
abbrev ris (S : Nat → Int32) (n : Nat) : Prop := ∀ j k, j < k → k < n → (S j).toInt < (S k).toInt
theorem ris_le {S : Nat → Int32} {n k : Nat} (h : ris S n) (hk : k ≤ n) : ris S k := fun i j h1 h2 => h i j h1 (by omega)
theorem cl_all {S : Nat → Int32} {v : Int} {n : Nat} (h : ∀ j, j < n → (S j).toInt < v) : cl S v n = n := by
  induction n with
  | zero => rfl
  | succ n ih => rw [cl_t (h n (by omega)), ih (fun j hj => h j (by omega))]
theorem cl_none {S : Nat → Int32} {v : Int} {n k : Nat} (h : ∀ j, k ≤ j → j < n → ¬ (S j).toInt < v) (hk : k ≤ n) : cl S v n = cl S v k := by
  induction n with
  | zero => rw [show k = 0 by omega]
  | succ n ih =>
    by_cases q : k ≤ n
    · rw [cl_f (h n q (by omega)), ih (fun j h1 h2 => h j h1 (by omega)) q]
    · rw [show k = n + 1 by omega]
theorem cl_is {S : Nat → Int32} {v : Int} {n k : Nat} (hk : k ≤ n) (h1 : ∀ j, j < k → (S j).toInt < v) (h2 : ∀ j, k ≤ j → j < n → ¬ (S j).toInt < v) : cl S v n = k := by
  rw [cl_none h2 hk, cl_all h1]
/-- the class's first row from v on -/
theorem cl_first {S : Nat → Int32} {v : Int} {n k : Nat} (hr : ris S n) (hk : k ≤ n) (h1 : ∀ j, j < k → (S j).toInt < v) (h2 : k < n → v ≤ (S k).toInt) : cl S v n = k := by
  refine cl_is hk h1 (fun j a b => ?_)
  have h3 := h2 (by omega)
  rcases Nat.lt_or_eq_of_le a with q | q
  · have := hr k j q b
    omega
  · subst q
    omega
/-- the class's last row up to v -/
theorem cl_last {S : Nat → Int32} {v : Int} {n k : Nat} (hr : ris S n) (hk : k ≤ n) (h1 : ∀ j, k ≤ j → j < n → v < (S j).toInt) (h2 : 0 < k → (S (k - 1)).toInt ≤ v) : cl S (v + 1) n = k := by
  refine cl_is hk (fun j a => ?_) (fun j a b => ?_)
  · have h3 := h2 (by omega)
    rcases Nat.lt_or_eq_of_le (show j ≤ k - 1 by omega) with q | q
    · have := hr j (k - 1) q (by omega)
      omega
    · rw [q]
      omega
  · have := h1 j a b
    omega
/-- the reference's way through the rows of a span -/
def spf (a b : Nat) (z4 z5 : Int32) : Prop := (b ≤ a ∧ z4.toInt = -1 ∧ z5.toInt = -1) ∨ (a < b ∧ z4.toInt = (a : Int) ∧ z5.toInt = (b : Int) - 1)
theorem cl_pre {S : Nat → Int32} {v : Int} {n k : Nat} (hr : ris S n) (hk : k < n) (h : (S k).toInt < v) : cl S v k = k := cl_all (fun j hj => by have := hr j k hj hk; omega)
theorem sp_lo {S : Nat → Int32} {v w : Int} {n k : Nat} {z4 z5 : Int32} (hr : ris S n) (hk : k < n) (hf : spf (cl S v k) (cl S w k) z4 z5) (h : (S k).toInt < v) : spf (cl S v (k + 1)) (cl S w (k + 1)) z4 z5 := by
  have a := cl_pre hr hk h
  have b := cl_le S w k
  have b2 := cl_le S w (k + 1)
  rw [cl_t h, a]
  rw [a] at hf
  unfold spf at hf ⊢
  omega
theorem sp_hi {S : Nat → Int32} {v w : Int} {k : Nat} {z4 z5 : Int32} (hf : spf (cl S v k) (cl S w k) z4 z5) (h : ¬ (S k).toInt < v) (h2 : ¬ (S k).toInt < w) : spf (cl S v (k + 1)) (cl S w (k + 1)) z4 z5 := by
  rw [cl_f h, cl_f h2]
  exact hf
theorem sp_in1 {S : Nat → Int32} {v w : Int} {n k : Nat} {z4 z5 : Int32} (hr : ris S n) (hk : k < n) (hn : n ≤ 40) (hf : spf (cl S v k) (cl S w k) z4 z5) (h : ¬ (S k).toInt < v) (h2 : (S k).toInt < w) (hz : ¬ 0 ≤ z4.toInt) : spf (cl S v (k + 1)) (cl S w (k + 1)) (nI k) (nI k) := by
  have a := cl_pre hr hk h2
  have b := cl_le S v k
  have e := nI_toInt (n := k) (by omega)
  rw [cl_f h, cl_t h2, a]
  rw [a] at hf
  unfold spf at hf ⊢
  rw [e]
  omega
theorem sp_in2 {S : Nat → Int32} {v w : Int} {n k : Nat} {z4 z5 : Int32} (hr : ris S n) (hk : k < n) (hn : n ≤ 40) (hf : spf (cl S v k) (cl S w k) z4 z5) (h : ¬ (S k).toInt < v) (h2 : (S k).toInt < w) (hz : 0 ≤ z4.toInt) : spf (cl S v (k + 1)) (cl S w (k + 1)) z4 (nI k) := by
  have a := cl_pre hr hk h2
  have b := cl_le S v k
  have e := nI_toInt (n := k) (by omega)
  rw [cl_f h, cl_t h2, a]
  rw [a] at hf
  unfold spf at hf ⊢
  rw [e]
  omega
theorem part_g {y1 y2 g1 : Int64} {u v : Nat} (h2 : 0 < y2.toInt) (hu : g1.toInt = (u : Int)) (hg : Nat.gcd u v = Nat.gcd y1.toInt.natAbs y2.toInt.natAbs) (hv : v = 0) : g1.toInt = (Int.gcd y1.toInt y2.toInt : Int) ∧ 1 ≤ g1.toInt :=
  pit_g h2 (by rw [hu, ← hg, hv, Nat.gcd_zero_right])
theorem part_u {y1 y2 g1 : Int64} (h1 : y1.toInt ≠ -2 ^ 63) (hg : g1.toInt = (Int.gcd y1.toInt y2.toInt : Int) ∧ 1 ≤ g1.toInt) : (y1 / g1).toInt = fr y1.toInt y2.toInt 0 := by
  have := hg.2
  unfold fr
  rw [if_pos rfl, ← hg.1, Kit.i64_div (by omega)]
theorem part_l {y1 y2 g1 : Int64} (h2 : 0 < y2.toInt) (hg : g1.toInt = (Int.gcd y1.toInt y2.toInt : Int) ∧ 1 ≤ g1.toInt) : (y2 / g1).toInt = fr y1.toInt y2.toInt 1 := by
  have := hg.2
  unfold fr
  rw [if_neg (by decide), ← hg.1, Kit.i64_div (by omega)]
theorem fr_1 {U L p : Int} (h : ¬ p = 0) : fr U L p = fr U L 1 := by
  unfold fr
  rw [if_neg h, if_neg (by decide)]
theorem part_r0 {U L p : Int} {r : Int} (hp : p = 0) (h : r = fr U L 0) : r = fr U L p := by rw [hp]; exact h
theorem part_r1 {U L p : Int} {r : Int} (hp : ¬ p = 0) (h : r = fr U L 1) : r = fr U L p := by rw [fr_1 hp]; exact h
theorem str_e {p1 p2 : Int32} (h : ok_len p1 p2) : (p2 - p1).toInt64.toInt = p2.toInt - p1.toInt ∧ p1.toInt64.toInt = p1.toInt ∧ 1 ≤ p1.toInt ∧ p1.toInt ≤ 1000000 ∧ 1 ≤ p2.toInt ∧ p2.toInt ≤ 1000000 := by
  obtain ⟨⟨a1, a2⟩, a3, a4⟩ := h
  refine ⟨?_, Kit.i64_of_i32 _, a1, a2, a3, a4⟩
  rw [Kit.i64_of_i32, Kit.i32_sub (by omega) (by omega)]
theorem mac_e {p1 p2 : Int32} (h : ok_mac p1 p2) : ((p1 - p2) * 100).toInt = 100 * (p1.toInt - p2.toInt) ∧ ((p2 - p1) * 100).toInt = 100 * (p2.toInt - p1.toInt) ∧ (p1 - p2).toInt = p1.toInt - p2.toInt ∧ 1 ≤ p1.toInt ∧ p1.toInt ≤ 1000000 ∧ 1 ≤ p2.toInt ∧ p2.toInt ≤ 1000000 := by
  obtain ⟨⟨a1, a2⟩, a3, a4⟩ := h
  have c : (100 : Int32).toInt = 100 := by decide
  have e1 : (p1 - p2).toInt = p1.toInt - p2.toInt := Kit.i32_sub (by omega) (by omega)
  have e2 : (p2 - p1).toInt = p2.toInt - p1.toInt := Kit.i32_sub (by omega) (by omega)
  refine ⟨?_, ?_, e1, a1, a2, a3, a4⟩
  · rw [Kit.i32_mul (by rw [e1, c]; omega) (by rw [e1, c]; omega), e1, c]; omega
  · rw [Kit.i32_mul (by rw [e2, c]; omega) (by rw [e2, c]; omega), e2, c]; omega
theorem sp_end {a b : Nat} {z4 z5 : Int32} (hf : spf a b z4 z5) (h : a + 1 < b) : z4.toInt = (a : Int) ∧ z5.toInt = (b : Int) - 1 := by
  unfold spf at hf
  omega
theorem sl_e {S F : Nat → Int32} {n a b : Nat} (hn : n ≤ 40) (hr : ris S n) (hS : ∀ j, j < n → 0 ≤ (S j).toInt ∧ (S j).toInt ≤ 1000000) (hF : ∀ j, j < n → 0 ≤ (F j).toInt ∧ (F j).toInt ≤ 1000000) (h : a + 1 < b) (hb : b ≤ n) :
    (F (b - 1) - F a).toInt64.toInt = (F (b - 1)).toInt - (F a).toInt ∧ (S (b - 1) - S a).toInt64.toInt = (S (b - 1)).toInt - (S a).toInt ∧ (-1000000 ≤ (F (b - 1)).toInt - (F a).toInt ∧ (F (b - 1)).toInt - (F a).toInt ≤ 1000000) ∧ (1 ≤ (S (b - 1)).toInt - (S a).toInt ∧ (S (b - 1)).toInt - (S a).toInt ≤ 1000000) := by
  have f1 := hF (b - 1) (by omega)
  have f2 := hF a (by omega)
  have s1 := hS (b - 1) (by omega)
  have s2 := hS a (by omega)
  have s3 := hr a (b - 1) (by omega) (by omega)
  refine ⟨?_, ?_, by omega, by omega⟩
  · rw [Kit.i64_of_i32, Kit.i32_sub (by omega) (by omega)]
  · rw [Kit.i64_of_i32, Kit.i32_sub (by omega) (by omega)]
theorem sl_r {y1 y2 : Int64} {U L p r : Int} (h1 : y1.toInt = U) (h2 : y2.toInt = L) (h : r = fr y1.toInt y2.toInt p) : r = fr U L p := by rw [h, h1, h2]
theorem fr_sgn {U L : Int} (hL : 1 ≤ L) : 0 < fr U L 0 ↔ 0 < U := by
  unfold fr
  rw [if_pos rfl]
  have hg : 0 < (Int.gcd U L : Int) := by
    have := Int.gcd_pos_of_ne_zero_right U (b := L) (by omega)
    omega
  rw [Int.tdiv_eq_ediv_of_dvd (Int.gcd_dvd_left U L)]
  have h1 : U / (Int.gcd U L : Int) * (Int.gcd U L : Int) = U := Int.ediv_mul_cancel (Int.gcd_dvd_left U L)
  constructor
  · intro h
    have := Int.mul_pos h hg
    omega
  · intro h
    rcases Int.lt_or_le 0 (U / (Int.gcd U L : Int)) with q | q
    · exact q
    · have := Int.mul_nonpos_of_nonpos_of_nonneg q (show (0 : Int) ≤ (Int.gcd U L : Int) by omega)
      omega
theorem sl_p {y1 y2 : Int64} {U L r : Int} (h1 : y1.toInt = U) (h2 : y2.toInt = L) (hL : 1 ≤ L ∧ L ≤ 1000000) (h : r = fr y1.toInt y2.toInt 0) : 0 < r ↔ 0 < U := by
  rw [h, h1, h2]
  exact fr_sgn hL.1
/-- of the peak: its force, its strain without the slack, its strength -/
def pka (S F : Nat → Int32) (n : Nat) (sl ar p : Int32) : Int32 := if p.toInt = 0 then F (pk F n) else if p.toInt = 1 then S (pk F n) - sl else F (pk F n) * 1000 / ar
theorem pka_0 {S F : Nat → Int32} {n : Nat} {sl ar p : Int32} (h : p.toInt = 0) : pka S F n sl ar p = F (pk F n) := if_pos h
theorem pka_1 {S F : Nat → Int32} {n : Nat} {sl ar p : Int32} (h : p.toInt = 1) : pka S F n sl ar p = S (pk F n) - sl := by
  unfold pka
  rw [if_neg (by omega), if_pos h]
theorem pka_2 {S F : Nat → Int32} {n : Nat} {sl ar p : Int32} (h0 : ¬ p.toInt = 0) (h : ¬ p.toInt = 1) : pka S F n sl ar p = F (pk F n) * 1000 / ar := by
  unfold pka
  rw [if_neg h0, if_neg h]
/-- by which rule a test is invalid -/
def ivs (F : Nat → Int32) (n : Nat) (ar : Int) (ck : Prop) (r : Int32) : Prop :=
  (ar = 0 ∧ r = 1) ∨ (¬ ar = 0 ∧ n < 5 ∧ r = 2) ∨ (¬ ar = 0 ∧ 5 ≤ n ∧ pk F n = 0 ∧ r = 3) ∨ (¬ ar = 0 ∧ 5 ≤ n ∧ ¬ pk F n = 0 ∧ ¬ (pk F n = n - 1 ∨ hfb F n (pk F n)) ∧ r = 4) ∨
  (¬ ar = 0 ∧ 5 ≤ n ∧ ¬ pk F n = 0 ∧ (pk F n = n - 1 ∨ hfb F n (pk F n)) ∧ ck ∧ r = 5) ∨ (¬ ar = 0 ∧ 5 ≤ n ∧ ¬ pk F n = 0 ∧ (pk F n = n - 1 ∨ hfb F n (pk F n)) ∧ ¬ ck ∧ r = 0)
theorem hfb_0 {F : Nat → Int32} {q : Nat} : ¬ hfb F (q + 1) q := fun ⟨j, h1, h2, _⟩ => by omega
theorem iv_s {F : Nat → Int32} {n q : Nat} (h : q = n - 1) : ((1 : Int32) = 1 ∧ (q = n - 1 ∨ hfb F (q + 1) q)) ∨ ((1 : Int32) = 0 ∧ ¬ (q = n - 1 ∨ hfb F (q + 1) q)) := Or.inl ⟨rfl, Or.inl h⟩
theorem iv_n {F : Nat → Int32} {n q : Nat} (h : ¬ q = n - 1) : ((0 : Int32) = 1 ∧ (q = n - 1 ∨ hfb F (q + 1) q)) ∨ ((0 : Int32) = 0 ∧ ¬ (q = n - 1 ∨ hfb F (q + 1) q)) := Or.inr ⟨rfl, fun z => z.elim h hfb_0⟩
theorem iv_1 {F : Nat → Int32} {n q k : Nat} (hk : q < k) (h : (F k).toInt * 2 < (F q).toInt) : ((1 : Int32) = 1 ∧ (q = n - 1 ∨ hfb F (k + 1) q)) ∨ ((1 : Int32) = 0 ∧ ¬ (q = n - 1 ∨ hfb F (k + 1) q)) := Or.inl ⟨rfl, Or.inr ⟨k, hk, by omega, h⟩⟩
theorem iv_0 {F : Nat → Int32} {n q k : Nat} {z : Int32} (hz : (z = 1 ∧ (q = n - 1 ∨ hfb F k q)) ∨ (z = 0 ∧ ¬ (q = n - 1 ∨ hfb F k q))) (h : ¬ (F k).toInt * 2 < (F q).toInt) : (z = 1 ∧ (q = n - 1 ∨ hfb F (k + 1) q)) ∨ (z = 0 ∧ ¬ (q = n - 1 ∨ hfb F (k + 1) q)) := by
  rcases hz with ⟨e, hz⟩ | ⟨e, hz⟩
  · refine Or.inl ⟨e, hz.imp id ?_⟩
    rintro ⟨j, h1, h2, h3⟩
    exact ⟨j, h1, by omega, h3⟩
  · refine Or.inr ⟨e, fun w => hz (w.imp id ?_)⟩
    rintro ⟨j, h1, h2, h3⟩
    rcases Nat.lt_or_ge j k with g | g
    · exact ⟨j, h1, g, h3⟩
    · rw [show j = k by omega] at h3
      exact absurd h3 h
theorem iv_z {z : Int32} {P : Prop} (hz : (z = 1 ∧ P) ∨ (z = 0 ∧ ¬ P)) (h : z.toInt = 0) : ¬ P := by
  rcases hz with ⟨e, -⟩ | ⟨-, hz⟩
  · rw [e] at h; exact absurd h (by decide)
  · exact hz
theorem iv_nz {z : Int32} {P : Prop} (hz : (z = 1 ∧ P) ∨ (z = 0 ∧ ¬ P)) (h : ¬ z.toInt = 0) : P := by
  rcases hz with ⟨-, hz⟩ | ⟨e, -⟩
  · exact hz
  · rw [e] at h; exact absurd h (by decide)
end
section
/-! machine numbers with bounds -/
theorem mulb {a b A B : Int} (h1 : -A ≤ a) (h2 : a ≤ A) (h3 : -B ≤ b) (h4 : b ≤ B) : -(A * B) ≤ a * b ∧ a * b ≤ A * B := by
  have e1 : 0 ≤ (A - a) * (B - b) := Int.mul_nonneg (by omega) (by omega)
  have e2 : 0 ≤ (A + a) * (B + b) := Int.mul_nonneg (by omega) (by omega)
  have e3 : 0 ≤ (A - a) * (B + b) := Int.mul_nonneg (by omega) (by omega)
  have e4 : 0 ≤ (A + a) * (B - b) := Int.mul_nonneg (by omega) (by omega)
  grind
theorem mu64 {x y : Int64} {a b : Int} (hx : x.toInt = a) (hy : y.toInt = b) (h : -4611686018427387904 ≤ a * b ∧ a * b ≤ 4611686018427387904) : (x * y).toInt = a * b := by
  rw [Kit.i64_mul (by rw [hx, hy]; omega) (by rw [hx, hy]; omega), hx, hy]
theorem ad64 {x y : Int64} {a b : Int} (hx : x.toInt = a) (hy : y.toInt = b) (h : -4611686018427387904 ≤ a + b ∧ a + b ≤ 4611686018427387904) : (x + y).toInt = a + b := by
  rw [Kit.i64_add (by rw [hx, hy]; omega) (by rw [hx, hy]; omega), hx, hy]
theorem sb64 {x y : Int64} {a b : Int} (hx : x.toInt = a) (hy : y.toInt = b) (h : -4611686018427387904 ≤ a - b ∧ a - b ≤ 4611686018427387904) : (x - y).toInt = a - b := by
  rw [Kit.i64_sub (by rw [hx, hy]; omega) (by rw [hx, hy]; omega), hx, hy]
theorem hd_b {z : Int32} (h : z = 0 ∨ z = 1) : z = bI (z.toInt = 1) := by
  rcases h with rfl | rfl
  · exact (bI_0 (by decide)).symm
  · exact (bI_1 (by decide)).symm
theorem mac_a {p1 p2 : Int32} (h : ok_mac p1 p2) : ((if 0 ≤ p1 - p2 then p1 - p2 else 0 - (p1 - p2)) * 100).toInt = if 0 ≤ p1.toInt - p2.toInt then 100 * (p1.toInt - p2.toInt) else 100 * (p2.toInt - p1.toInt) := by
  obtain ⟨e1, e2, e3, a1, a2, a3, a4⟩ := mac_e h
  have c : (100 : Int32).toInt = 100 := by decide
  have z : (0 : Int32).toInt = 0 := by decide
  by_cases q : 0 ≤ p1 - p2
  · have q2 := Int32.le_iff_toInt_le.mp q
    rw [z] at q2
    rw [if_pos q, if_pos (by omega), e1]
  · have q2 : ¬ (0 : Int32).toInt ≤ (p1 - p2).toInt := fun w => q (Int32.le_iff_toInt_le.mpr w)
    rw [z] at q2
    have e4 : (0 - (p1 - p2)).toInt = p2.toInt - p1.toInt := by
      rw [Kit.i32_sub (by rw [z]; omega) (by rw [z]; omega), z]
      omega
    rw [if_neg q, if_neg (by omega), Kit.i32_mul (by rw [e4, c]; omega) (by rw [e4, c]; omega), e4, c]
    omega
theorem iv_c4 {F : Nat → Int32} {n : Nat} {r : Int32} (h : ¬ pk F n = n - 1) (hr : (r = 1 ∧ hfb F n (pk F n)) ∨ (r = 0 ∧ ¬ hfb F n (pk F n))) (hc : r.toInt = 0) : ¬ (pk F n = n - 1 ∨ hfb F n (pk F n)) := by
  rintro (q | q)
  · exact h q
  · exact iv_z hr hc q
theorem iv_c5 {F : Nat → Int32} {n : Nat} {r : Int32} (hr : (r = 1 ∧ hfb F n (pk F n)) ∨ (r = 0 ∧ ¬ hfb F n (pk F n))) (hc : ¬ r.toInt = 0) : pk F n = n - 1 ∨ hfb F n (pk F n) := Or.inr (iv_nz hr hc)
/-! the proof strength -/
def ofs (F : Nat → Int32) (n : Nat) (ex : Nat → Int64) (p : Int) (r : Int64) : Prop :=
  (∃ k, 1 ≤ k ∧ k < n ∧ mtg ex k ∧ (∀ j, 1 ≤ j → j < k → ¬ mtg ex j) ∧ r.toInt = fr ((F k).toInt * (ex (k - 1)).toInt - (F (k - 1)).toInt * (ex k).toInt) ((ex (k - 1)).toInt - (ex k).toInt) p) ∨
  ((∀ j, 1 ≤ j → j < n → ¬ mtg ex j) ∧ ((p = 0 ∧ r = (-9223372036854775808)) ∨ (¬ p = 0 ∧ r = 0)))
theorem exl_v {S F : Nat → Int32} {mu ml : Int64} {ls : Int32} {k : Nat} (h1 : 0 ≤ mu.toInt ∧ mu.toInt ≤ 1000000) (h2 : 0 ≤ ml.toInt ∧ ml.toInt ≤ 1000000) (h3 : 0 ≤ ls.toInt ∧ ls.toInt ≤ 2000000) (h4 : 0 ≤ (S k).toInt ∧ (S k).toInt ≤ 1000000) (h5 : 0 ≤ (F k).toInt ∧ (F k).toInt ≤ 1000000) :
    (exl S F mu ml ls k).toInt = (F k).toInt * ml.toInt - mu.toInt * ((S k).toInt - ls.toInt) ∧ -3000000000000 ≤ (exl S F mu ml ls k).toInt ∧ (exl S F mu ml ls k).toInt ≤ 3000000000000 := by
  have b1 := mulb (a := (F k).toInt) (b := ml.toInt) (A := 1000000) (B := 1000000) (by omega) (by omega) (by omega) (by omega)
  have b2 := mulb (a := mu.toInt) (b := (S k).toInt - ls.toInt) (A := 1000000) (B := 2000000) (by omega) (by omega) (by omega) (by omega)
  have e0 : (S k - ls).toInt64.toInt = (S k).toInt - ls.toInt := by rw [Kit.i64_of_i32, Kit.i32_sub (by omega) (by omega)]
  have e1 := mu64 (Kit.i64_of_i32 (F k)) (y := ml) rfl (by omega)
  have e2 := mu64 (x := mu) rfl e0 (by omega)
  have e3 : (exl S F mu ml ls k).toInt = (F k).toInt * ml.toInt - mu.toInt * ((S k).toInt - ls.toInt) := sb64 e1 e2 (by omega)
  exact ⟨e3, by omega, by omega⟩
theorem exm_v {S F : Nat → Int32} {hu hw : Int64} {sl sh : Int32} {k : Nat} (h1 : 0 ≤ hu.toInt ∧ hu.toInt ≤ 1000000) (h2 : 0 ≤ hw.toInt ∧ hw.toInt ≤ 1000000) (h3 : 0 ≤ sl.toInt ∧ sl.toInt ≤ 1000000) (h6 : 0 ≤ sh.toInt ∧ sh.toInt ≤ 1000000) (h4 : 0 ≤ (S k).toInt ∧ (S k).toInt ≤ 1000000) (h5 : 0 ≤ (F k).toInt ∧ (F k).toInt ≤ 1000000) :
    (exm S F hu hw sl sh k).toInt = (F k).toInt * hw.toInt - hu.toInt * ((S k).toInt - sl.toInt - sh.toInt) ∧ -3000000000000 ≤ (exm S F hu hw sl sh k).toInt ∧ (exm S F hu hw sl sh k).toInt ≤ 3000000000000 := by
  have b1 := mulb (a := (F k).toInt) (b := hw.toInt) (A := 1000000) (B := 1000000) (by omega) (by omega) (by omega) (by omega)
  have b2 := mulb (a := hu.toInt) (b := (S k).toInt - sl.toInt - sh.toInt) (A := 1000000) (B := 2000000) (by omega) (by omega) (by omega) (by omega)
  have e9 : (S k - sl).toInt = (S k).toInt - sl.toInt := Kit.i32_sub (by omega) (by omega)
  have e0 : (S k - sl - sh).toInt64.toInt = (S k).toInt - sl.toInt - sh.toInt := by rw [Kit.i64_of_i32, Kit.i32_sub (by omega) (by omega), e9]
  have e1 := mu64 (Kit.i64_of_i32 (F k)) (y := hw) rfl (by omega)
  have e2 := mu64 (x := hu) rfl e0 (by omega)
  have e3 : (exm S F hu hw sl sh k).toInt = (F k).toInt * hw.toInt - hu.toInt * ((S k).toInt - sl.toInt - sh.toInt) := sb64 e1 e2 (by omega)
  exact ⟨e3, by omega, by omega⟩
theorem off_g {e0 e1 : Int64} {f0 f1 : Int32} (h0 : 0 < e0.toInt) (h1 : e1.toInt ≤ 0) (hL : e0.toInt - e1.toInt ≤ 2000000000000) (hf0 : 0 ≤ f0.toInt ∧ f0.toInt ≤ 1000000) (hf1 : 0 ≤ f1.toInt ∧ f1.toInt ≤ 1000000) :
    (f1.toInt64 * e0 - f0.toInt64 * e1).toInt = f1.toInt * e0.toInt - f0.toInt * e1.toInt ∧ (e0 - e1).toInt = e0.toInt - e1.toInt ∧ (f1.toInt64 * e0 - f0.toInt64 * e1).toInt ≠ -2 ^ 63 ∧ 0 < (e0 - e1).toInt ∧ (e0 - e1).toInt ≤ 2 ^ 41 := by
  have b1 := mulb (a := f1.toInt) (b := e0.toInt) (A := 1000000) (B := 2000000000000) (by omega) (by omega) (by omega) (by omega)
  have b2 := mulb (a := f0.toInt) (b := e1.toInt) (A := 1000000) (B := 2000000000000) (by omega) (by omega) (by omega) (by omega)
  have g1 := sb64 (mu64 (Kit.i64_of_i32 f1) (y := e0) rfl (by omega)) (mu64 (Kit.i64_of_i32 f0) (y := e1) rfl (by omega)) (by omega)
  have g2 := sb64 (x := e0) (y := e1) rfl rfl (by omega)
  exact ⟨g1, g2, by omega, by omega, by omega⟩
theorem off_c {S F : Nat → Int32} {mu ml : Int64} {sl p : Int32} {k : Nat} (hsl : 0 ≤ sl.toInt ∧ sl.toInt ≤ 1000000) (hp : 0 ≤ p.toInt ∧ p.toInt ≤ 1000000) (h1 : 1 ≤ mu.toInt ∧ mu.toInt ≤ 1000000) (h2 : 1 ≤ ml.toInt ∧ ml.toInt ≤ 1000000) (s1 : 0 ≤ (S k).toInt ∧ (S k).toInt ≤ 1000000) (s0 : 0 ≤ (S (k - 1)).toInt ∧ (S (k - 1)).toInt ≤ 1000000) (f1 : 0 ≤ (F k).toInt ∧ (F k).toInt ≤ 1000000) (f0 : 0 ≤ (F (k - 1)).toInt ∧ (F (k - 1)).toInt ≤ 1000000) (hm : mtg (exl S F mu ml (sl + p)) k) :
    ((F k).toInt64 * exl S F mu ml (sl + p) (k - 1) - (F (k - 1)).toInt64 * exl S F mu ml (sl + p) k).toInt = (F k).toInt * (exl S F mu ml (sl + p) (k - 1)).toInt - (F (k - 1)).toInt * (exl S F mu ml (sl + p) k).toInt ∧ (exl S F mu ml (sl + p) (k - 1) - exl S F mu ml (sl + p) k).toInt = (exl S F mu ml (sl + p) (k - 1)).toInt - (exl S F mu ml (sl + p) k).toInt ∧ ((F k).toInt64 * exl S F mu ml (sl + p) (k - 1) - (F (k - 1)).toInt64 * exl S F mu ml (sl + p) k).toInt ≠ -2 ^ 63 ∧ 0 < (exl S F mu ml (sl + p) (k - 1) - exl S F mu ml (sl + p) k).toInt ∧ (exl S F mu ml (sl + p) (k - 1) - exl S F mu ml (sl + p) k).toInt ≤ 2 ^ 41 := by
  have e9 : (sl + p).toInt = sl.toInt + p.toInt := Kit.i32_add (by omega) (by omega)
  obtain ⟨v1, -⟩ := exl_v (S := S) (F := F) (mu := mu) (ml := ml) (ls := sl + p) (k := k) (by omega) (by omega) (by omega) s1 f1
  obtain ⟨v0, -⟩ := exl_v (S := S) (F := F) (mu := mu) (ml := ml) (ls := sl + p) (k := k - 1) (by omega) (by omega) (by omega) s0 f0
  have b1 := mulb (a := (F (k - 1)).toInt - (F k).toInt) (b := ml.toInt) (A := 1000000) (B := 1000000) (by omega) (by omega) (by omega) (by omega)
  have b2 := mulb (a := mu.toInt) (b := (S k).toInt - (S (k - 1)).toInt) (A := 1000000) (B := 1000000) (by omega) (by omega) (by omega) (by omega)
  refine off_g hm.2 hm.1 ?_ f0 f1
  rw [v0, v1]
  grind
theorem off_m {S F : Nat → Int32} {hu hw : Int64} {sl p : Int32} {k : Nat} (hsl : 0 ≤ sl.toInt ∧ sl.toInt ≤ 1000000) (hp : 0 ≤ p.toInt ∧ p.toInt ≤ 1000000) (h1 : 1 ≤ hu.toInt ∧ hu.toInt ≤ 1000000) (h2 : 1 ≤ hw.toInt ∧ hw.toInt ≤ 1000000) (s1 : 0 ≤ (S k).toInt ∧ (S k).toInt ≤ 1000000) (s0 : 0 ≤ (S (k - 1)).toInt ∧ (S (k - 1)).toInt ≤ 1000000) (f1 : 0 ≤ (F k).toInt ∧ (F k).toInt ≤ 1000000) (f0 : 0 ≤ (F (k - 1)).toInt ∧ (F (k - 1)).toInt ≤ 1000000) (c0 : ¬ (exm S F hu hw sl p (k - 1)).toInt ≤ 0) (c1 : ¬ 0 < (exm S F hu hw sl p k).toInt) :
    ((F k).toInt64 * exm S F hu hw sl p (k - 1) - (F (k - 1)).toInt64 * exm S F hu hw sl p k).toInt = (F k).toInt * (exm S F hu hw sl p (k - 1)).toInt - (F (k - 1)).toInt * (exm S F hu hw sl p k).toInt ∧ (exm S F hu hw sl p (k - 1) - exm S F hu hw sl p k).toInt = (exm S F hu hw sl p (k - 1)).toInt - (exm S F hu hw sl p k).toInt ∧ ((F k).toInt64 * exm S F hu hw sl p (k - 1) - (F (k - 1)).toInt64 * exm S F hu hw sl p k).toInt ≠ -2 ^ 63 ∧ 0 < (exm S F hu hw sl p (k - 1) - exm S F hu hw sl p k).toInt ∧ (exm S F hu hw sl p (k - 1) - exm S F hu hw sl p k).toInt ≤ 2 ^ 41 := by
  obtain ⟨v1, -⟩ := exm_v (S := S) (F := F) (hu := hu) (hw := hw) (sl := sl) (sh := p) (k := k) (by omega) (by omega) hsl hp s1 f1
  obtain ⟨v0, -⟩ := exm_v (S := S) (F := F) (hu := hu) (hw := hw) (sl := sl) (sh := p) (k := k - 1) (by omega) (by omega) hsl hp s0 f0
  have b1 := mulb (a := (F (k - 1)).toInt - (F k).toInt) (b := hw.toInt) (A := 1000000) (B := 1000000) (by omega) (by omega) (by omega) (by omega)
  have b2 := mulb (a := hu.toInt) (b := (S k).toInt - (S (k - 1)).toInt) (A := 1000000) (B := 1000000) (by omega) (by omega) (by omega) (by omega)
  refine off_g (by omega) (by omega) ?_ f0 f1
  rw [v0, v1]
  grind
/-! the table's value -/
def cvU (X Y : Nat → Int32) (k : Nat) (p : Int) : Int := (Y (k - 1)).toInt * ((X k).toInt - (X (k - 1)).toInt) + ((Y k).toInt - (Y (k - 1)).toInt) * (p - (X (k - 1)).toInt)
def cvs (X Y : Nat → Int32) (tc : Nat) (p rule : Int) (r : Int32) : Prop := ∃ k, k < tc ∧ (∀ j, j < k → (X j).toInt < p) ∧ p ≤ (X k).toInt ∧ ((p = (X k).toInt ∧ r = Y k) ∨ (¬ p = (X k).toInt ∧ 1 ≤ k ∧ r.toInt = rnd (cvU X Y k p) ((X k).toInt - (X (k - 1)).toInt) rule))
theorem cvU_b {X Y : Nat → Int32} {k : Nat} {p : Int} (hx : (X (k - 1)).toInt < (X k).toInt) (y1 : 0 ≤ (Y k).toInt ∧ (Y k).toInt ≤ 2000) (y0 : 0 ≤ (Y (k - 1)).toInt ∧ (Y (k - 1)).toInt ≤ 2000) (h0 : (X (k - 1)).toInt < p) (h1 : p ≤ (X k).toInt) : 0 ≤ cvU X Y k p ∧ cvU X Y k p ≤ 2000 * ((X k).toInt - (X (k - 1)).toInt) := by
  unfold cvU
  have e1 : 0 ≤ (Y (k - 1)).toInt * ((X k).toInt - p) := Int.mul_nonneg (by omega) (by omega)
  have e2 : 0 ≤ (Y k).toInt * (p - (X (k - 1)).toInt) := Int.mul_nonneg (by omega) (by omega)
  have e3 : 0 ≤ (2000 - (Y (k - 1)).toInt) * ((X k).toInt - p) := Int.mul_nonneg (by omega) (by omega)
  have e4 : 0 ≤ (2000 - (Y k).toInt) * (p - (X (k - 1)).toInt) := Int.mul_nonneg (by omega) (by omega)
  constructor <;> grind
theorem rnd_b {U L p : Int} (hL : 1 ≤ L) (h0 : 0 ≤ U) (h1 : U ≤ 2000 * L) : 0 ≤ rnd U L p ∧ rnd U L p ≤ 2001 := by
  have a1 : 0 ≤ U / L := Int.ediv_nonneg h0 (by omega)
  have a2 : U / L ≤ 2000 := by
    refine Int.le_of_lt_add_one ((Int.ediv_lt_iff_lt_mul (by omega)).mpr ?_)
    omega
  unfold rnd
  split
  · omega
  · split <;> omega
theorem cv_r {X Y : Nat → Int32} {k : Nat} {p rule : Int} {y1 y2 r : Int64} (g1 : y1.toInt = cvU X Y k p) (g2 : y2.toInt = (X k).toInt - (X (k - 1)).toInt) (g3 : 1 ≤ (X k).toInt - (X (k - 1)).toInt ∧ 0 ≤ cvU X Y k p ∧ cvU X Y k p ≤ 2000 * ((X k).toInt - (X (k - 1)).toInt)) (h : r.toInt = rnd y1.toInt y2.toInt rule) : r.toInt32.toInt = rnd (cvU X Y k p) ((X k).toInt - (X (k - 1)).toInt) rule := by
  rw [g1, g2] at h
  have b := rnd_b (p := rule) g3.1 g3.2.1 g3.2.2
  rw [Kit.i32_of_i64 (by omega) (by omega), h]
theorem cv_m {X Y : Nat → Int32} {k : Nat} {p : Int32} (hx : (X (k - 1)).toInt < (X k).toInt) (x1 : 0 ≤ (X k).toInt ∧ (X k).toInt ≤ 2000) (x0 : 0 ≤ (X (k - 1)).toInt ∧ (X (k - 1)).toInt ≤ 2000) (y1 : 0 ≤ (Y k).toInt ∧ (Y k).toInt ≤ 2000) (y0 : 0 ≤ (Y (k - 1)).toInt ∧ (Y (k - 1)).toInt ≤ 2000) (h0 : (X (k - 1)).toInt < p.toInt) (h1 : p.toInt ≤ (X k).toInt) :
    ((Y (k - 1) * (X k - X (k - 1)) + (Y k - Y (k - 1)) * (p - X (k - 1))).toInt64.toInt = cvU X Y k p.toInt) ∧ (X k - X (k - 1)).toInt64.toInt = (X k).toInt - (X (k - 1)).toInt ∧ (1 ≤ (X k).toInt - (X (k - 1)).toInt ∧ 0 ≤ cvU X Y k p.toInt ∧ cvU X Y k p.toInt ≤ 2000 * ((X k).toInt - (X (k - 1)).toInt)) ∧ (X k).toInt - (X (k - 1)).toInt ≤ 2000 := by
  have b := cvU_b hx y1 y0 h0 h1
  have e1 : (X k - X (k - 1)).toInt = (X k).toInt - (X (k - 1)).toInt := Kit.i32_sub (by omega) (by omega)
  have e2 : (Y k - Y (k - 1)).toInt = (Y k).toInt - (Y (k - 1)).toInt := Kit.i32_sub (by omega) (by omega)
  have e3 : (p - X (k - 1)).toInt = p.toInt - (X (k - 1)).toInt := Kit.i32_sub (by omega) (by omega)
  have m1 := mulb (a := (Y (k - 1)).toInt) (b := (X k).toInt - (X (k - 1)).toInt) (A := 2000) (B := 2000) (by omega) (by omega) (by omega) (by omega)
  have m2 := mulb (a := (Y k).toInt - (Y (k - 1)).toInt) (b := p.toInt - (X (k - 1)).toInt) (A := 2000) (B := 2000) (by omega) (by omega) (by omega) (by omega)
  have e4 : (Y (k - 1) * (X k - X (k - 1))).toInt = (Y (k - 1)).toInt * ((X k).toInt - (X (k - 1)).toInt) := by rw [Kit.i32_mul (by rw [e1]; omega) (by rw [e1]; omega), e1]
  have e5 : ((Y k - Y (k - 1)) * (p - X (k - 1))).toInt = ((Y k).toInt - (Y (k - 1)).toInt) * (p.toInt - (X (k - 1)).toInt) := by rw [Kit.i32_mul (by rw [e2, e3]; omega) (by rw [e2, e3]; omega), e2, e3]
  refine ⟨?_, by rw [Kit.i64_of_i32, e1], ⟨by omega, b⟩, by omega⟩
  rw [Kit.i64_of_i32, Kit.i32_add (by rw [e4, e5]; omega) (by rw [e4, e5]; omega), e4, e5]
  rfl
theorem cv_c {X Y : Nat → Int32} {k : Nat} {p : Int32} (hx : (X (k - 1)).toInt < (X k).toInt) (x1 : 0 ≤ (X k).toInt ∧ (X k).toInt ≤ 2000) (x0 : 0 ≤ (X (k - 1)).toInt ∧ (X (k - 1)).toInt ≤ 2000) (y1 : 0 ≤ (Y k).toInt ∧ (Y k).toInt ≤ 2000) (y0 : 0 ≤ (Y (k - 1)).toInt ∧ (Y (k - 1)).toInt ≤ 2000) (h0 : (X (k - 1)).toInt < p.toInt) (h1 : p.toInt ≤ (X k).toInt) :
    (((Y (k - 1)).toInt64 * (X k - X (k - 1)).toInt64 + (Y k - Y (k - 1)).toInt64 * (p - X (k - 1)).toInt64).toInt = cvU X Y k p.toInt) ∧ (X k - X (k - 1)).toInt64.toInt = (X k).toInt - (X (k - 1)).toInt ∧ (1 ≤ (X k).toInt - (X (k - 1)).toInt ∧ 0 ≤ cvU X Y k p.toInt ∧ cvU X Y k p.toInt ≤ 2000 * ((X k).toInt - (X (k - 1)).toInt)) ∧ (X k).toInt - (X (k - 1)).toInt ≤ 2000 := by
  have b := cvU_b hx y1 y0 h0 h1
  have e1 : (X k - X (k - 1)).toInt64.toInt = (X k).toInt - (X (k - 1)).toInt := by rw [Kit.i64_of_i32, Kit.i32_sub (by omega) (by omega)]
  have e2 : (Y k - Y (k - 1)).toInt64.toInt = (Y k).toInt - (Y (k - 1)).toInt := by rw [Kit.i64_of_i32, Kit.i32_sub (by omega) (by omega)]
  have e3 : (p - X (k - 1)).toInt64.toInt = p.toInt - (X (k - 1)).toInt := by rw [Kit.i64_of_i32, Kit.i32_sub (by omega) (by omega)]
  have m1 := mulb (a := (Y (k - 1)).toInt) (b := (X k).toInt - (X (k - 1)).toInt) (A := 2000) (B := 2000) (by omega) (by omega) (by omega) (by omega)
  have m2 := mulb (a := (Y k).toInt - (Y (k - 1)).toInt) (b := p.toInt - (X (k - 1)).toInt) (A := 2000) (B := 2000) (by omega) (by omega) (by omega) (by omega)
  refine ⟨?_, e1, ⟨by omega, b⟩, by omega⟩
  exact ad64 (mu64 (Kit.i64_of_i32 _) e1 (by omega)) (mu64 e2 e3 (by omega)) (by omega)
theorem cv_0 {X Y : Nat → Int32} {tc k : Nat} {p rule : Int} (hk : k < tc) (ha : ∀ j, j < k → (X j).toInt < p) (hb : p ≤ (X k).toInt) (h0 : k = 0) (h1 : (X 0).toInt ≤ p) : cvs X Y tc p rule (Y 0) := by
  subst h0
  exact ⟨0, hk, ha, hb, Or.inl ⟨by omega, rfl⟩⟩
theorem rnd_ex {a L p : Int} (hL : 1 ≤ L) : rnd (a * L) L p = a := by
  have e1 : a * L % L = 0 := Int.mul_emod_left a L
  have e2 : a * L / L = a := Int.mul_ediv_cancel a (by omega)
  rw [rnd_1 (by rw [e1]; omega), e2]
theorem cv_k {X Y : Nat → Int32} {tc k : Nat} {p rule : Int} {y1 y2 r : Int64} (hk : k < tc) (ha : ∀ j, j < k → (X j).toInt < p) (hb : p ≤ (X k).toInt) (h1 : 1 ≤ k) (g1 : y1.toInt = cvU X Y k p) (g2 : y2.toInt = (X k).toInt - (X (k - 1)).toInt) (g3 : 1 ≤ (X k).toInt - (X (k - 1)).toInt ∧ 0 ≤ cvU X Y k p ∧ cvU X Y k p ≤ 2000 * ((X k).toInt - (X (k - 1)).toInt)) (h : r.toInt = rnd y1.toInt y2.toInt rule) : cvs X Y tc p rule r.toInt32 := by
  have e := cv_r g1 g2 g3 h
  refine ⟨k, hk, ha, hb, ?_⟩
  by_cases q : p = (X k).toInt
  · refine Or.inl ⟨q, Int32.toInt_inj.mp ?_⟩
    have e2 : cvU X Y k p = (Y k).toInt * ((X k).toInt - (X (k - 1)).toInt) := by
      unfold cvU
      rw [q]
      grind
    rw [e, e2, rnd_ex g3.1]
  · exact Or.inr ⟨q, h1, e⟩
/-! the fit -/
def sm (f : Nat → Int) : Nat → Int
  | 0 => 0
  | n + 1 => sm f n + f n
def sD (D : Nat → Int32) : Nat → Int := sm (fun j => (D j).toInt)
def sQ (D : Nat → Int32) : Nat → Int := sm (fun j => (D j).toInt * (D j).toInt)
def sP (D J : Nat → Int32) : Nat → Int := sm (fun j => (D j).toInt * (J j).toInt)
def ftb (D : Nat → Int32) (im : Nat) : Int := (im : Int) * sQ D im - sD D im * sD D im
def fta (D J : Nat → Int32) (im : Nat) : Int := (im : Int) * sP D J im - sD D im * sD J im
def ftu (D J : Nat → Int32) (im : Nat) (p : Int) : Int := sD J im * ftb D im + fta D J im * ((im : Int) * p - sD D im)
def fts (D J : Nat → Int32) (k : Nat) (x1 x2 x3 x4 : Int64) : Prop := x1.toInt = sD D k ∧ x2.toInt = sD J k ∧ x3.toInt = sQ D k ∧ x4.toInt = sP D J k
theorem fts_0 {D J : Nat → Int32} : fts D J 0 0 0 0 0 := ⟨rfl, rfl, rfl, rfl⟩
theorem sm_b {f : Nat → Int} {lo hi : Int} {n : Nat} (h : ∀ j, j < n → lo ≤ f j ∧ f j ≤ hi) : (n : Int) * lo ≤ sm f n ∧ sm f n ≤ (n : Int) * hi := by
  induction n with
  | zero => simp [sm]
  | succ n ih =>
    have h1 := ih (fun j hj => h j (by omega))
    have h2 := h n (by omega)
    have e : sm f (n + 1) = sm f n + f n := rfl
    rw [e, Int.natCast_add, Int.add_mul, Int.add_mul]
    omega
theorem fts_b {D J : Nat → Int32} {k : Nat} (hD : ∀ j, j < k → -200 ≤ (D j).toInt ∧ (D j).toInt ≤ 200) (hJ : ∀ j, j < k → 0 ≤ (J j).toInt ∧ (J j).toInt ≤ 400) (hk : k ≤ 8) : (-1600 ≤ sD D k ∧ sD D k ≤ 1600) ∧ (0 ≤ sD J k ∧ sD J k ≤ 3200) ∧ (0 ≤ sQ D k ∧ sQ D k ≤ 320000) ∧ (-640000 ≤ sP D J k ∧ sP D J k ≤ 640000) := by
  have a1 := sm_b (f := fun j => (D j).toInt) hD
  have a2 := sm_b (f := fun j => (J j).toInt) hJ
  have a3 := sm_b (f := fun j => (D j).toInt * (D j).toInt) (lo := 0) (hi := 40000) (n := k) (fun j hj => by
    have h1 := hD j hj
    have h2 := mulb (a := (D j).toInt) (b := (D j).toInt) (A := 200) (B := 200) (by omega) (by omega) (by omega) (by omega)
    exact ⟨by rcases Int.le_total 0 (D j).toInt with q | q; exact Int.mul_nonneg q q; exact Int.mul_nonneg_of_nonpos_of_nonpos q q, by omega⟩)
  have a4 := sm_b (f := fun j => (D j).toInt * (J j).toInt) (lo := -80000) (hi := 80000) (n := k) (fun j hj => by
    have h1 := hD j hj
    have h2 := hJ j hj
    have h3 := mulb (a := (D j).toInt) (b := (J j).toInt) (A := 200) (B := 400) (by omega) (by omega) (by omega) (by omega)
    omega)
  unfold sD sQ sP
  omega
theorem fts_s {D J : Nat → Int32} {k : Nat} {x1 x2 x3 x4 : Int64} (hs : fts D J k x1 x2 x3 x4) (hk : k < 8) (d : -200 ≤ (D k).toInt ∧ (D k).toInt ≤ 200) (j : 0 ≤ (J k).toInt ∧ (J k).toInt ≤ 400) (hb : (-1600 ≤ sD D k ∧ sD D k ≤ 1600) ∧ (0 ≤ sD J k ∧ sD J k ≤ 3200) ∧ (0 ≤ sQ D k ∧ sQ D k ≤ 320000) ∧ (-640000 ≤ sP D J k ∧ sP D J k ≤ 640000)) : fts D J (k + 1) (x1 + (D k).toInt64) (x2 + (J k).toInt64) (x3 + (D k * D k).toInt64) (x4 + (D k * J k).toInt64) := by
  obtain ⟨h1, h2, h3, h4⟩ := hs
  have m1 := mulb (a := (D k).toInt) (b := (D k).toInt) (A := 200) (B := 200) (by omega) (by omega) (by omega) (by omega)
  have m2 := mulb (a := (D k).toInt) (b := (J k).toInt) (A := 200) (B := 400) (by omega) (by omega) (by omega) (by omega)
  have e1 : (D k * D k).toInt64.toInt = (D k).toInt * (D k).toInt := by rw [Kit.i64_of_i32, Kit.i32_mul (by omega) (by omega)]
  have e2 : (D k * J k).toInt64.toInt = (D k).toInt * (J k).toInt := by rw [Kit.i64_of_i32, Kit.i32_mul (by omega) (by omega)]
  have q1 : (x1 + (D k).toInt64).toInt = sD D k + (D k).toInt := ad64 h1 (Kit.i64_of_i32 _) (by omega)
  have q2 : (x2 + (J k).toInt64).toInt = sD J k + (J k).toInt := ad64 h2 (Kit.i64_of_i32 _) (by omega)
  have q3 : (x3 + (D k * D k).toInt64).toInt = sQ D k + (D k).toInt * (D k).toInt := ad64 h3 e1 (by omega)
  have q4 : (x4 + (D k * J k).toInt64).toInt = sP D J k + (D k).toInt * (J k).toInt := ad64 h4 e2 (by omega)
  exact ⟨q1, q2, q3, q4⟩
theorem nIL {n : Nat} (h : n ≤ 8) : (nI n).toInt64.toInt = (n : Int) := by rw [Kit.i64_of_i32, nI_toInt (by omega)]
theorem fit_m {D J : Nat → Int32} {im : Nat} {x1 x2 x3 x4 : Int64} (hi : im ≤ 8) (hs : fts D J im x1 x2 x3 x4) (hb : (-1600 ≤ sD D im ∧ sD D im ≤ 1600) ∧ (0 ≤ sD J im ∧ sD J im ≤ 3200) ∧ (0 ≤ sQ D im ∧ sQ D im ≤ 320000) ∧ (-640000 ≤ sP D J im ∧ sP D J im ≤ 640000)) :
    (nI im).toInt64.toInt = (im : Int) ∧ ((nI im).toInt64 * x3 - x1 * x1).toInt = ftb D im ∧ ((nI im).toInt64 * x4 - x1 * x2).toInt = fta D J im ∧ (-2560000 ≤ ftb D im ∧ ftb D im ≤ 2560000) ∧ (-10240000 ≤ fta D J im ∧ fta D J im ≤ 10240000) := by
  obtain ⟨h1, h2, h3, h4⟩ := hs
  have n0 := nIL hi
  have m1 := mulb (a := (im : Int)) (b := sQ D im) (A := 8) (B := 320000) (by omega) (by omega) (by omega) (by omega)
  have m1' : 0 ≤ (im : Int) * sQ D im := Int.mul_nonneg (by omega) (by omega)
  have m2 := mulb (a := sD D im) (b := sD D im) (A := 1600) (B := 1600) (by omega) (by omega) (by omega) (by omega)
  have m2' : 0 ≤ sD D im * sD D im := by rcases Int.le_total 0 (sD D im) with q | q; exact Int.mul_nonneg q q; exact Int.mul_nonneg_of_nonpos_of_nonpos q q
  have m3 := mulb (a := (im : Int)) (b := sP D J im) (A := 8) (B := 640000) (by omega) (by omega) (by omega) (by omega)
  have m4 := mulb (a := sD D im) (b := sD J im) (A := 1600) (B := 3200) (by omega) (by omega) (by omega) (by omega)
  refine ⟨n0, sb64 (mu64 n0 h3 (by omega)) (mu64 h1 h1 (by omega)) (by omega), sb64 (mu64 n0 h4 (by omega)) (mu64 h1 h2 (by omega)) (by omega), ?_, ?_⟩
  · unfold ftb; omega
  · unfold fta; omega
theorem fit_u {D J : Nat → Int32} {im : Nat} {x1 x2 x3 x4 : Int64} {p : Int32} (hi : im ≤ 8) (e2 : 2 ≤ im ∧ 0 < ftb D im) (e3 : -200 ≤ p.toInt ∧ p.toInt ≤ 200) (hs : fts D J im x1 x2 x3 x4) (hb : (-1600 ≤ sD D im ∧ sD D im ≤ 1600) ∧ (0 ≤ sD J im ∧ sD J im ≤ 3200) ∧ (0 ≤ sQ D im ∧ sQ D im ≤ 320000) ∧ (-640000 ≤ sP D J im ∧ sP D J im ≤ 640000)) :
    (x2 * ((nI im).toInt64 * x3 - x1 * x1) - ((nI im).toInt64 * x4 - x1 * x2) * x1 + ((nI im).toInt64 * x4 - x1 * x2) * p.toInt64 * (nI im).toInt64).toInt = ftu D J im p.toInt ∧ ((nI im).toInt64 * ((nI im).toInt64 * x3 - x1 * x1)).toInt = (im : Int) * ftb D im ∧ (x2 * ((nI im).toInt64 * x3 - x1 * x1) - ((nI im).toInt64 * x4 - x1 * x2) * x1 + ((nI im).toInt64 * x4 - x1 * x2) * p.toInt64 * (nI im).toInt64).toInt ≠ -2 ^ 63 ∧ 0 < ((nI im).toInt64 * ((nI im).toInt64 * x3 - x1 * x1)).toInt := by
  obtain ⟨g1, g2, g3, g4, g5⟩ := fit_m hi hs hb
  obtain ⟨h1, h2, h3, h4⟩ := hs
  have m1 := mulb (a := sD J im) (b := ftb D im) (A := 3200) (B := 2560000) (by omega) (by omega) (by omega) (by omega)
  have m2 := mulb (a := fta D J im) (b := sD D im) (A := 10240000) (B := 1600) (by omega) (by omega) (by omega) (by omega)
  have m3 := mulb (a := fta D J im) (b := p.toInt) (A := 10240000) (B := 200) (by omega) (by omega) (by omega) (by omega)
  have m4 := mulb (a := fta D J im * p.toInt) (b := (im : Int)) (A := 10240000 * 200) (B := 8) (by omega) (by omega) (by omega) (by omega)
  have m5 := mulb (a := (im : Int)) (b := ftb D im) (A := 8) (B := 2560000) (by omega) (by omega) (by omega) (by omega)
  have m6 : 0 < (im : Int) * ftb D im := Int.mul_pos (by omega) e2.2
  have k1 := ad64 (sb64 (mu64 h2 g2 (by omega)) (mu64 g3 h1 (by omega)) (by omega)) (mu64 (mu64 g3 (Kit.i64_of_i32 p) (by omega)) g1 (by omega)) (by omega)
  have k2 := mu64 g1 g2 (by omega)
  have ku : sD J im * ftb D im - fta D J im * sD D im + fta D J im * p.toInt * (im : Int) = ftu D J im p.toInt := by
    unfold ftu
    grind
  refine ⟨k1.trans ku, k2, by omega, by omega⟩
theorem fitx_b {ic : Nat} {ds ss : Int64} (hi : ic ≤ 8) (hd : -1600 ≤ ds.toInt ∧ ds.toInt ≤ 1600) (hs : 0 ≤ ss.toInt ∧ ss.toInt ≤ 320000) : ((nI ic).toInt64 * ss - ds * ds).toInt = (ic : Int) * ss.toInt - ds.toInt * ds.toInt ∧ (-2560000 ≤ (ic : Int) * ss.toInt - ds.toInt * ds.toInt ∧ (ic : Int) * ss.toInt - ds.toInt * ds.toInt ≤ 2560000) := by
  have n0 := nIL hi
  have m1 := mulb (a := (ic : Int)) (b := ss.toInt) (A := 8) (B := 320000) (by omega) (by omega) (by omega) (by omega)
  have m1' : 0 ≤ (ic : Int) * ss.toInt := Int.mul_nonneg (by omega) (by omega)
  have m2 := mulb (a := ds.toInt) (b := ds.toInt) (A := 1600) (B := 1600) (by omega) (by omega) (by omega) (by omega)
  have m2' : 0 ≤ ds.toInt * ds.toInt := by rcases Int.le_total 0 ds.toInt with q | q; exact Int.mul_nonneg q q; exact Int.mul_nonneg_of_nonpos_of_nonpos q q
  exact ⟨sb64 (mu64 n0 rfl (by omega)) (mu64 (x := ds) (y := ds) rfl rfl (by omega)) (by omega), by omega⟩
theorem fitx_u {ic : Nat} {ds js ps ss : Int64} {p : Int32} (hi : ic ≤ 8) (hd : -1600 ≤ ds.toInt ∧ ds.toInt ≤ 1600) (hj : 0 ≤ js.toInt ∧ js.toInt ≤ 3200) (hp : -640000 ≤ ps.toInt ∧ ps.toInt ≤ 640000) (hs : 0 ≤ ss.toInt ∧ ss.toInt ≤ 320000) (h0 : 0 < (ic : Int) * ss.toInt - ds.toInt * ds.toInt) (e3 : -200 ≤ p.toInt ∧ p.toInt ≤ 200) :
    (js * ((nI ic).toInt64 * ss - ds * ds) + ((nI ic).toInt64 * ps - ds * js) * ((nI ic * p).toInt64 - ds)).toInt = js.toInt * ((ic : Int) * ss.toInt - ds.toInt * ds.toInt) + ((ic : Int) * ps.toInt - ds.toInt * js.toInt) * ((ic : Int) * p.toInt - ds.toInt) ∧ ((nI ic).toInt64 * ((nI ic).toInt64 * ss - ds * ds)).toInt = (ic : Int) * ((ic : Int) * ss.toInt - ds.toInt * ds.toInt) ∧ (js * ((nI ic).toInt64 * ss - ds * ds) + ((nI ic).toInt64 * ps - ds * js) * ((nI ic * p).toInt64 - ds)).toInt ≠ -2 ^ 63 ∧ 0 < ((nI ic).toInt64 * ((nI ic).toInt64 * ss - ds * ds)).toInt ∧ ((nI ic).toInt64 * ((nI ic).toInt64 * ss - ds * ds)).toInt ≤ 2 ^ 41 := by
  obtain ⟨g1, g2⟩ := fitx_b hi hd hs
  have n0 := nIL hi
  have n1 := nI_toInt (n := ic) (by omega)
  have m3 := mulb (a := (ic : Int)) (b := ps.toInt) (A := 8) (B := 640000) (by omega) (by omega) (by omega) (by omega)
  have m4 := mulb (a := ds.toInt) (b := js.toInt) (A := 1600) (B := 3200) (by omega) (by omega) (by omega) (by omega)
  have m5 := mulb (a := (ic : Int)) (b := p.toInt) (A := 8) (B := 200) (by omega) (by omega) (by omega) (by omega)
  have a1 := sb64 (mu64 n0 (y := ps) rfl (by omega)) (mu64 (x := ds) (y := js) rfl rfl (by omega)) (by omega)
  have q1 : (nI ic * p).toInt64.toInt = (ic : Int) * p.toInt := by rw [Kit.i64_of_i32, Kit.i32_mul (by rw [n1]; omega) (by rw [n1]; omega), n1]
  have a2 := sb64 q1 (y := ds) rfl (by omega)
  have m6 := mulb (a := js.toInt) (b := (ic : Int) * ss.toInt - ds.toInt * ds.toInt) (A := 3200) (B := 2560000) (by omega) (by omega) (by omega) (by omega)
  have m7 := mulb (a := (ic : Int) * ps.toInt - ds.toInt * js.toInt) (b := (ic : Int) * p.toInt - ds.toInt) (A := 10240000) (B := 3200) (by omega) (by omega) (by omega) (by omega)
  have m8 := mulb (a := (ic : Int)) (b := (ic : Int) * ss.toInt - ds.toInt * ds.toInt) (A := 8) (B := 2560000) (by omega) (by omega) (by omega) (by omega)
  have m9 : 0 < (ic : Int) * ((ic : Int) * ss.toInt - ds.toInt * ds.toInt) := by
    refine Int.mul_pos ?_ h0
    rcases Nat.eq_zero_or_pos ic with q | q
    · subst q
      have : 0 ≤ ds.toInt * ds.toInt := by rcases Int.le_total 0 ds.toInt with q | q; exact Int.mul_nonneg q q; exact Int.mul_nonneg_of_nonpos_of_nonpos q q
      omega
    · omega
  have k1 := ad64 (mu64 (x := js) rfl g1 (by omega)) (mu64 a1 a2 (by omega)) (by omega)
  have k2 := mu64 n0 g1 (by omega)
  exact ⟨k1, k2, by omega, by omega, by omega⟩
end
section
/-! what holds between the class and the reference, between two calls -/
abbrev bd (f : Nat → Int32) (n : Nat) (lo hi : Int) : Prop := ∀ j, j < n → lo ≤ (f j).toInt ∧ (f j).toInt ≤ hi
/-- the modulus: the class keeps it as it came, the reference in lowest terms -/
def mr (mu ml : Int64) (hd : Int32) (hu hw : Int64) : Prop := (mu = 0 ∧ hd = 0) ∨ (hd = 1 ∧ (1 ≤ mu.toInt ∧ mu.toInt ≤ 1000000) ∧ (1 ≤ ml.toInt ∧ ml.toInt ≤ 1000000) ∧ hu.toInt = fr mu.toInt ml.toInt 0 ∧ hw.toInt = fr mu.toInt ml.toInt 1)
def li (S F D J X Y : Nat → Int32) (n im tc : Nat) (ar sl ck : Int32) (mu ml ds js ps ss : Int64) (hd : Int32) (hu hw : Int64) : Prop :=
  (n ≤ 40 ∧ ris S n ∧ bd S n 0 1000000 ∧ bd F n 0 1000000) ∧ ((0 ≤ ar.toInt ∧ ar.toInt ≤ 10000) ∧ (0 ≤ sl.toInt ∧ sl.toInt ≤ 1000000) ∧ (ck = 0 ∨ ck = 1)) ∧ mr mu ml hd hu hw ∧
  (tc ≤ 8 ∧ ris X tc ∧ bd X tc 0 2000 ∧ bd Y tc 0 2000) ∧ (im ≤ 8 ∧ bd D im (-200) 200 ∧ bd J im 0 400 ∧ fts D J im ds js ss ps)
theorem upd_eq {f : Nat → Int32} {k : Nat} {x : Int32} : upd f k x k = x := pk_us
theorem upd_ne {f : Nat → Int32} {k j : Nat} {x : Int32} (h : j ≠ k) : upd f k x j = f j := pk_un h
theorem bd_up {f : Nat → Int32} {n : Nat} {lo hi : Int} {x : Int32} (h : bd f n lo hi) (hx : lo ≤ x.toInt ∧ x.toInt ≤ hi) : bd (upd f n x) (n + 1) lo hi := by
  intro j hj
  by_cases q : j = n
  · subst q
    rw [upd_eq]
    exact hx
  · rw [upd_ne q]
    exact h j (by omega)
theorem ris_up {f : Nat → Int32} {n : Nat} {x : Int32} (h : ris f n) (hx : n = 0 ∨ (f (n - 1)).toInt < x.toInt) : ris (upd f n x) (n + 1) := by
  intro j k h1 h2
  by_cases q : k = n
  · subst q
    rw [upd_eq, upd_ne (by omega)]
    rcases hx with e | hx
    · omega
    · rcases Nat.lt_or_eq_of_le (show j ≤ k - 1 by omega) with w | w
      · have := h j (k - 1) w (by omega)
        omega
      · rw [w]
        exact hx
  · rw [upd_ne q, upd_ne (by omega)]
    exact h j k h1 (by omega)
theorem sm_up {D : Nat → Int32} {x : Int32} {n : Nat} {g : Int32 → Int} : sm (fun j => g (upd D n x j)) n = sm (fun j => g (D j)) n := by
  have key : ∀ k, k ≤ n → sm (fun j => g (upd D n x j)) k = sm (fun j => g (D j)) k := by
    intro k
    induction k with
    | zero => intro _; rfl
    | succ k ih =>
      intro hk
      show sm (fun j => g (upd D n x j)) k + g (upd D n x k) = sm (fun j => g (D j)) k + g (D k)
      rw [ih (by omega), upd_ne (by omega)]
  exact key n (Nat.le_refl n)
theorem sP_s (D J : Nat → Int32) (k : Nat) : sP D J (k + 1) = sP D J k + (D k).toInt * (J k).toInt := by
  unfold sP
  rw [sm]
theorem sP_0 (D J : Nat → Int32) : sP D J 0 = 0 := by
  unfold sP
  rw [sm]
theorem sP_up {D J : Nat → Int32} {x y : Int32} {n : Nat} : sP (upd D n x) (upd J n y) n = sP D J n := by
  have key : ∀ k, k ≤ n → sP (upd D n x) (upd J n y) k = sP D J k := by
    intro k
    induction k with
    | zero => intro _; rw [sP_0, sP_0]
    | succ k ih =>
      intro hk
      rw [sP_s, sP_s, ih (by omega), upd_ne (by omega), upd_ne (by omega)]
  exact key n (Nat.le_refl n)
theorem fts_imp {D J : Nat → Int32} {n : Nat} {ds js ss ps : Int64} {x y : Int32} (h : fts D J n ds js ss ps) (hn : n < 8) (hD : bd D n (-200) 200) (hJ : bd J n 0 400) (hx : -200 ≤ x.toInt ∧ x.toInt ≤ 200) (hy : 0 ≤ y.toInt ∧ y.toInt ≤ 400) :
    fts (upd D n x) (upd J n y) (n + 1) (ds + x.toInt64) (js + y.toInt64) (ss + (x * x).toInt64) (ps + (x * y).toInt64) := by
  have h' : fts (upd D n x) (upd J n y) n ds js ss ps := by
    obtain ⟨h1, h2, h3, h4⟩ := h
    refine ⟨h1.trans ?_, h2.trans ?_, h3.trans ?_, h4.trans sP_up.symm⟩
    · exact (sm_up (D := D) (x := x) (n := n) (g := fun z => z.toInt)).symm
    · exact (sm_up (D := J) (x := y) (n := n) (g := fun z => z.toInt)).symm
    · exact (sm_up (D := D) (x := x) (n := n) (g := fun z => z.toInt * z.toInt)).symm
  have b := fts_b (D := upd D n x) (J := upd J n y) (k := n) (fun j hj => by rw [upd_ne (by omega)]; exact hD j hj) (fun j hj => by rw [upd_ne (by omega)]; exact hJ j hj) (by omega)
  have e := fts_s h' hn (by rw [upd_eq]; exact hx) (by rw [upd_eq]; exact hy) b
  rw [upd_eq, upd_eq] at e
  exact e
theorem li_0 {S F D J X Y : Nat → Int32} : li S F D J X Y 0 0 0 0 0 0 0 0 0 0 0 0 0 0 0 :=
  ⟨⟨by decide, fun j k _ h => absurd h (Nat.not_lt_zero k), fun j h => absurd h (Nat.not_lt_zero j), fun j h => absurd h (Nat.not_lt_zero j)⟩, ⟨by decide, by decide, Or.inl rfl⟩, Or.inl ⟨rfl, rfl⟩, ⟨by decide, fun j k _ h => absurd h (Nat.not_lt_zero k), fun j h => absurd h (Nat.not_lt_zero j), fun j h => absurd h (Nat.not_lt_zero j)⟩, ⟨by decide, fun j h => absurd h (Nat.not_lt_zero j), fun j h => absurd h (Nat.not_lt_zero j), fts_0⟩⟩
section LI
variable {S F D J X Y : Nat → Int32} {n im tc : Nat} {ar sl ck : Int32} {mu ml ds js ps ss : Int64} {hd : Int32} {hu hw : Int64}
theorem li_row {p1 p2 : Int32} (h : li S F D J X Y n im tc ar sl ck mu ml ds js ps ss hd hu hw) (ho : ok_row n S p1 p2) (hn : n < 40) : li (upd S n p1) (upd F n p2) D J X Y (n + 1) im tc ar sl ck mu ml ds js ps ss hd hu hw := by
  obtain ⟨⟨h1, h2, h3, h4⟩, h5⟩ := h
  exact ⟨⟨by omega, ris_up h2 ho.2.2, bd_up h3 ho.1, bd_up h4 ho.2.1⟩, h5⟩
theorem li_sec {p1 p2 : Int32} (h : li S F D J X Y n im tc ar sl ck mu ml ds js ps ss hd hu hw) (ho : ok_sec p1 p2) : li S F D J X Y n im tc p1 p2 ck mu ml ds js ps ss hd hu hw := by
  obtain ⟨h1, ⟨-, -, h2⟩, h3⟩ := h
  exact ⟨h1, ⟨by omega, ho.2, h2⟩, h3⟩
theorem li_imp {p1 p2 : Int32} (h : li S F D J X Y n im tc ar sl ck mu ml ds js ps ss hd hu hw) (ho : ok_imp p1 p2) (hn : im < 8) : li S F (upd D im p1) (upd J im p2) X Y n (im + 1) tc ar sl ck mu ml (ds + p1.toInt64) (js + p2.toInt64) (ps + (p1 * p2).toInt64) (ss + (p1 * p1).toInt64) hd hu hw := by
  obtain ⟨h1, h2, h3, h4, h5, h6, h7, h8⟩ := h
  exact ⟨h1, h2, h3, h4, by omega, bd_up h6 ho.1, bd_up h7 ho.2, fts_imp h8 hn h6 h7 ho.1 ho.2⟩
theorem li_tab {p1 p2 : Int32} (h : li S F D J X Y n im tc ar sl ck mu ml ds js ps ss hd hu hw) (ho : ok_tab tc X p1 p2) (hn : tc < 8) : li S F D J (upd X tc p1) (upd Y tc p2) n im (tc + 1) ar sl ck mu ml ds js ps ss hd hu hw := by
  obtain ⟨h1, h2, h3, ⟨h4, h5, h6, h7⟩, h8⟩ := h
  exact ⟨h1, h2, h3, ⟨by omega, ris_up h5 ho.2.2, bd_up h6 ho.1, bd_up h7 ho.2.1⟩, h8⟩
theorem li_mac {c : Prop} [Decidable c] (h : li S F D J X Y n im tc ar sl ck mu ml ds js ps ss hd hu hw) : li S F D J X Y n im tc ar sl (bI c) mu ml ds js ps ss hd hu hw := by
  obtain ⟨h1, ⟨h2, h3, -⟩, h4⟩ := h
  refine ⟨h1, ⟨h2, h3, ?_⟩, h4⟩
  by_cases q : c
  · exact Or.inr (bI_1 q)
  · exact Or.inl (bI_0 q)
theorem li_clear (h : li S F D J X Y n im tc ar sl ck mu ml ds js ps ss hd hu hw) : li S F D J X Y 0 im tc 0 0 0 0 0 ds js ps ss 0 hu hw := by
  obtain ⟨-, -, -, h4⟩ := h
  exact ⟨⟨by decide, fun j k _ h => absurd h (Nat.not_lt_zero k), fun j h => absurd h (Nat.not_lt_zero j), fun j h => absurd h (Nat.not_lt_zero j)⟩, ⟨by decide, by decide, Or.inl rfl⟩, Or.inl ⟨rfl, rfl⟩, h4⟩
theorem li_slope {U L : Int} {hd' : Int32} {mu' ml' hu' hw' : Int64} (h : li S F D J X Y n im tc ar sl ck mu ml ds js ps ss hd hu hw) (hU : 0 < U → U ≤ 1000000) (hL : 1 ≤ L ∧ L ≤ 1000000)
    (hx : (0 < U ∧ mu'.toInt = U ∧ ml'.toInt = L) ∨ (¬ 0 < U ∧ mu' = mu ∧ ml' = ml)) (hm : (0 < U ∧ hd' = 1 ∧ hu'.toInt = fr U L 0 ∧ hw'.toInt = fr U L 1) ∨ (¬ 0 < U ∧ hd' = hd ∧ hu' = hu ∧ hw' = hw)) : li S F D J X Y n im tc ar sl ck mu' ml' ds js ps ss hd' hu' hw' := by
  obtain ⟨h1, h2, h3, h4⟩ := h
  refine ⟨h1, h2, ?_, h4⟩
  rcases hx with ⟨u, x1, x2⟩ | ⟨u, x1, x2⟩
  · rcases hm with ⟨-, m1, m2, m3⟩ | ⟨w, -⟩
    · have := hU u
      exact Or.inr ⟨m1, by omega, by omega, by rw [x1, x2]; exact m2, by rw [x1, x2]; exact m3⟩
    · exact absurd u w
  · rcases hm with ⟨w, -⟩ | ⟨-, m1, m2, m3⟩
    · exact absurd w u
    · rw [x1, x2, m1, m2, m3]
      exact h3
end LI
end
section
/-! the class's answers are the reference's -/
theorem fr_div {U L : Int} : fr U L 0 * (Int.gcd U L : Int) = U ∧ fr U L 1 * (Int.gcd U L : Int) = L := by
  unfold fr
  rw [if_pos rfl, if_neg (by decide), Int.tdiv_eq_ediv_of_dvd (Int.gcd_dvd_left U L), Int.tdiv_eq_ediv_of_dvd (Int.gcd_dvd_right U L)]
  exact ⟨Int.ediv_mul_cancel (Int.gcd_dvd_left U L), Int.ediv_mul_cancel (Int.gcd_dvd_right U L)⟩
theorem fac_b {a g u : Int} (hg : 1 ≤ g) (hu : 1 ≤ u) (h : a * g = u) : 1 ≤ a ∧ a ≤ u := by
  have h1 : 1 ≤ a := by
    rcases Int.lt_or_le 0 a with q | q
    · omega
    · have := Int.mul_nonpos_of_nonpos_of_nonneg q (show (0 : Int) ≤ g by omega)
      omega
  have h2 : 0 ≤ a * (g - 1) := Int.mul_nonneg (by omega) (by omega)
  refine ⟨h1, ?_⟩
  grind
theorem mr_b {mu ml : Int64} {hd : Int32} {hu hw : Int64} (h : mr mu ml hd hu hw) : (hd = 0 ∨ hd = 1) ∧ (hd.toInt = 1 ↔ ¬ mu.toInt = 0) ∧ (hd.toInt = 1 → (1 ≤ hu.toInt ∧ hu.toInt ≤ 1000000) ∧ (1 ≤ hw.toInt ∧ hw.toInt ≤ 1000000)) ∧ (mu = 0 ∨ ((1 ≤ mu.toInt ∧ mu.toInt ≤ 1000000) ∧ (1 ≤ ml.toInt ∧ ml.toInt ≤ 1000000))) := by
  rcases h with ⟨rfl, rfl⟩ | ⟨rfl, h1, h2, h3, h4⟩
  · exact ⟨Or.inl rfl, by decide, fun q => absurd q (by decide), Or.inl rfl⟩
  · have hg : 1 ≤ (Int.gcd mu.toInt ml.toInt : Int) := by
      have := Int.gcd_pos_of_ne_zero_right mu.toInt (b := ml.toInt) (by omega)
      omega
    obtain ⟨d1, d2⟩ := fr_div (U := mu.toInt) (L := ml.toInt)
    have b1 := fac_b hg h1.1 d1
    have b2 := fac_b hg h2.1 d2
    refine ⟨Or.inr rfl, ⟨fun _ => by omega, fun _ => by decide⟩, fun _ => ⟨by omega, by omega⟩, Or.inr ⟨h1, h2⟩⟩
theorem ex_sc {S F : Nat → Int32} {mu ml hu hw : Int64} {sl p : Int32} {n : Nat} (hm : (1 ≤ mu.toInt ∧ mu.toInt ≤ 1000000) ∧ (1 ≤ ml.toInt ∧ ml.toInt ≤ 1000000)) (h3 : hu.toInt = fr mu.toInt ml.toInt 0) (h4 : hw.toInt = fr mu.toInt ml.toInt 1) (hsl : 0 ≤ sl.toInt ∧ sl.toInt ≤ 1000000) (hp : 0 ≤ p.toInt ∧ p.toInt ≤ 1000000) (hS : bd S n 0 1000000) (hF : bd F n 0 1000000) :
    ∃ g : Nat, 0 < g ∧ ∀ k, k < n → (exl S F mu ml (sl + p) k).toInt = (g : Int) * (exm S F hu hw sl p k).toInt := by
  have hg := Int.gcd_pos_of_ne_zero_right mu.toInt (b := ml.toInt) (by omega)
  obtain ⟨d1, d2⟩ := fr_div (U := mu.toInt) (L := ml.toInt)
  have b1 := fac_b (show 1 ≤ (Int.gcd mu.toInt ml.toInt : Int) by omega) hm.1.1 d1
  have b2 := fac_b (show 1 ≤ (Int.gcd mu.toInt ml.toInt : Int) by omega) hm.2.1 d2
  refine ⟨Int.gcd mu.toInt ml.toInt, hg, fun k hk => ?_⟩
  have e9 : (sl + p).toInt = sl.toInt + p.toInt := Kit.i32_add (by omega) (by omega)
  obtain ⟨v1, -⟩ := exl_v (S := S) (F := F) (mu := mu) (ml := ml) (ls := sl + p) (k := k) (by omega) (by omega) (by omega) (hS k hk) (hF k hk)
  obtain ⟨v2, -⟩ := exm_v (S := S) (F := F) (hu := hu) (hw := hw) (sl := sl) (sh := p) (k := k) (by omega) (by omega) hsl hp (hS k hk) (hF k hk)
  rw [v1, v2, e9]
  rw [← h3] at d1
  rw [← h4] at d2
  generalize (Int.gcd mu.toInt ml.toInt : Int) = g at d1 d2 ⊢
  rw [← d1, ← d2]
  grind
theorem mtg_sc {f h : Nat → Int64} {g n k : Nat} (hg : 0 < g) (he : ∀ k, k < n → (f k).toInt = (g : Int) * (h k).toInt) (hk : k < n) : mtg f k ↔ mtg h k := by
  have e1 := he k hk
  have e2 := he (k - 1) (by omega)
  have s : ∀ z : Int, ((g : Int) * z ≤ 0 ↔ z ≤ 0) := fun z => by
    constructor
    · intro q
      rcases Int.lt_or_le 0 z with w | w
      · have := Int.mul_pos (show (0 : Int) < g by omega) w
        omega
      · exact w
    · intro q
      exact Int.mul_nonpos_of_nonneg_of_nonpos (by omega) q
  unfold mtg
  rw [e1, e2]
  have s1 := s (h k).toInt
  have s2 := s (h (k - 1)).toInt
  omega
theorem ofs_eq {F : Nat → Int32} {n g : Nat} {f h : Nat → Int64} {p : Int} {r r' : Int64} (hg : 0 < g) (he : ∀ k, k < n → (f k).toInt = (g : Int) * (h k).toInt) (hx : ofs F n f p r) (hm : ofs F n h p r') : r = r' := by
  rcases hx with ⟨k, k1, k2, k3, k4, k5⟩ | ⟨x1, x2⟩
  · rcases hm with ⟨j, j1, j2, j3, j4, j5⟩ | ⟨m1, m2⟩
    · have hjk : j = k := by
        rcases Nat.lt_trichotomy j k with q | q | q
        · exact absurd ((mtg_sc hg he j2).mpr j3) (k4 j j1 q)
        · exact q
        · exact absurd ((mtg_sc hg he k2).mp k3) (j4 k k1 q)
      subst hjk
      refine Int64.toInt_inj.mp ?_
      rw [k5, j5, he j j2, he (j - 1) (by omega), ← fr_scale (U := (F j).toInt * (h (j - 1)).toInt - (F (j - 1)).toInt * (h j).toInt) hg]
      congr 1
      · grind
      · grind
    · exact absurd ((mtg_sc hg he k2).mp k3) (m1 k k1 k2)
  · rcases hm with ⟨j, j1, j2, j3, j4, j5⟩ | ⟨m1, m2⟩
    · exact absurd ((mtg_sc hg he j2).mpr j3) (x1 j j1 j2)
    · rcases x2 with ⟨a, rfl⟩ | ⟨a, rfl⟩
      · rcases m2 with ⟨b, rfl⟩ | ⟨b, rfl⟩
        · rfl
        · exact absurd a b
      · rcases m2 with ⟨b, rfl⟩ | ⟨b, rfl⟩
        · exact absurd b a
        · rfl
theorem cvs_eq {X Y : Nat → Int32} {tc : Nat} {p q : Int} {r r' : Int32} (hx : cvs X Y tc p q r) (hm : cvs X Y tc p q r') : r = r' := by
  obtain ⟨k, k1, k2, k3, k4⟩ := hx
  obtain ⟨j, j1, j2, j3, j4⟩ := hm
  have hjk : j = k := by
    rcases Nat.lt_trichotomy j k with w | w | w
    · have := k2 j w
      omega
    · exact w
    · have := j2 k w
      omega
  subst hjk
  rcases k4 with ⟨a, e⟩ | ⟨a, -, e⟩
  · rcases j4 with ⟨b, f⟩ | ⟨b, -⟩
    · rw [e, f]
    · exact absurd a b
  · rcases j4 with ⟨b, f⟩ | ⟨b, -, f⟩
    · exact absurd b a
    · exact Int32.toInt_inj.mp (e.trans f.symm)
theorem ivs_eq {F : Nat → Int32} {n : Nat} {ar : Int} {ck : Prop} {r r' : Int32} (hx : ivs F n ar ck r) (hm : ivs F n ar ck r') : r = r' := by
  unfold ivs at hx hm
  rcases hx with ⟨a, rfl⟩ | ⟨a, b, rfl⟩ | ⟨a, b, c, rfl⟩ | ⟨a, b, c, d, rfl⟩ | ⟨a, b, c, d, e, rfl⟩ | ⟨a, b, c, d, e, rfl⟩ <;>
  rcases hm with ⟨a', rfl⟩ | ⟨a', b', rfl⟩ | ⟨a', b', c', rfl⟩ | ⟨a', b', c', d', rfl⟩ | ⟨a', b', c', d', e', rfl⟩ | ⟨a', b', c', d', e', rfl⟩ <;>
  first | rfl | (exfalso; omega) | exact absurd d' d | exact absurd d d' | exact absurd e' e | exact absurd e e'
theorem ftb_01 {D : Nat → Int32} {im : Nat} (h : im ≤ 1) : ftb D im = 0 := by
  rcases (show im = 0 ∨ im = 1 by omega) with rfl | rfl
  · rfl
  · show (1 : Int) * (0 + (D 0).toInt * (D 0).toInt) - (0 + (D 0).toInt) * (0 + (D 0).toInt) = 0
    grind
theorem fit_kd {D J : Nat → Int32} {im : Nat} {ds js ss ps : Int64} (h : fts D J im ds js ss ps) : (0 < (im : Int) * ss.toInt - ds.toInt * ds.toInt) ↔ (2 ≤ im ∧ 0 < ftb D im) := by
  obtain ⟨h1, h2, h3, h4⟩ := h
  rw [h1, h3]
  constructor
  · intro q
    refine ⟨?_, q⟩
    rcases Nat.lt_or_ge im 2 with w | w
    · have e := ftb_01 (D := D) (show im ≤ 1 by omega)
      unfold ftb at e
      omega
    · exact w
  · intro q
    exact q.2
theorem fit_eq {D J : Nat → Int32} {im : Nat} {ds js ss ps : Int64} {p q r r' : Int} (h : fts D J im ds js ss ps) (hx : r = fr (js.toInt * ((im : Int) * ss.toInt - ds.toInt * ds.toInt) + ((im : Int) * ps.toInt - ds.toInt * js.toInt) * ((im : Int) * p - ds.toInt)) ((im : Int) * ((im : Int) * ss.toInt - ds.toInt * ds.toInt)) q) (hm : r' = fr (ftu D J im p) ((im : Int) * ftb D im) q) : r = r' := by
  obtain ⟨h1, h2, h3, h4⟩ := h
  rw [hx, hm, h1, h2, h3, h4]
  rfl
end
section
/-! the sign of an exclusive or with a number that is not below 0 -/
theorem xor_neg {x y : Int64} (h : 0 ≤ y.toInt) : (x ^^^ y).toInt < 0 ↔ x.toInt < 0 := by
  have e : ∀ z : Int64, z.toInt < 0 ↔ z.toBitVec.msb = true := fun z => by
    rw [BitVec.msb_eq_toInt]
    exact (decide_eq_true_iff (p := z.toBitVec.toInt < 0)).symm
  have hy : y.toBitVec.msb = false := by
    rw [BitVec.msb_eq_toInt]
    exact decide_eq_false (show ¬ y.toInt < 0 by omega)
  rw [e, e, Int64.toBitVec_xor, BitVec.msb_xor, hy, Bool.xor_false]
end
section
abbrev wX (x a1 a2 a3 a4 : Nat) (cI : ClassId) (S F X Y : Nat → Int32) (n : Nat) (ar sl : Int32) (mu ml : Int64) (ck : Int32) (ic : Nat) (ds js ps ss : Int64) (tc : Nat) : va_W := [(x, .inr (0, [.ref a1, .ref a2, .int (nI n), .int ar, .int sl, .long mu, .long ml, .int ck, .int (nI ic), .long ds, .long js, .long ps, .long ss, .ref a3, .ref a4, .int (nI tc)])), (a1, .inl (cI, (40, .inl S))), (a2, .inl (cI, (40, .inl F))), (a3, .inl (cI, (8, .inl X))), (a4, .inl (cI, (8, .inl Y)))]
abbrev wM (m9 b1 b2 b3 b4 b5 b6 : Nat) (cI : ClassId) (S F D J X Y : Nat → Int32) (th : Int32) (n : Nat) (ar sl hd : Int32) (hu hw : Int64) (im tc : Nat) (fa : Int32) (up dn : Int64) : va_W := [(m9, .inr (1, [.int th, .int (nI n), .ref b1, .ref b2, .int ar, .int sl, .int hd, .long hu, .long hw, .int (nI im), .ref b3, .ref b4, .int (nI tc), .ref b5, .ref b6, .int fa, .long up, .long dn])), (b1, .inl (cI, (40, .inl S))), (b2, .inl (cI, (40, .inl F))), (b3, .inl (cI, (8, .inl D))), (b4, .inl (cI, (8, .inl J))), (b5, .inl (cI, (8, .inl X))), (b6, .inl (cI, (8, .inl Y)))]
abbrev wXO (x a1 a2 a3 a4 : Nat) (cI : ClassId) (S F X Y : Nat → Int32) (n : Nat) (ar sl : Int32) (mu ml : Int64) (ck : Int32) (ic : Nat) (ds js ps ss : Int64) (tc : Nat) (o : Nat) (cJ : ClassId) (O : Nat → Int64) : va_W := [(x, .inr (0, [.ref a1, .ref a2, .int (nI n), .int ar, .int sl, .long mu, .long ml, .int ck, .int (nI ic), .long ds, .long js, .long ps, .long ss, .ref a3, .ref a4, .int (nI tc)])), (a1, .inl (cI, (40, .inl S))), (a2, .inl (cI, (40, .inl F))), (a3, .inl (cI, (8, .inl X))), (a4, .inl (cI, (8, .inl Y))), (o, .inl (cJ, (1, .inr (.inl O))))]
abbrev at_2 (dC : Nat → ClassId) (dI : Nat → Nat → Nat) (cI cJ : ClassId) (A : Nat → Prop) (w : va_W) (t : State) : Prop := va_P (dC, dI) vwCl w t.heap ∧ va_K (dC, dI) vwCl [(cI, .int), (cJ, .long)] t ∧ va_D A w
/-! what the throws and the catches need of the start, carried through every call -/
def gl_str : List (Nat × String) := [(29, "strain and force are 0 to 1,000,000"), (38, "the strain must rise"), (42, "there is room for 40 rows"), (45, "the area is 1 to 10,000, the slack 0 to 1,000,000"), (57, "a span's strains are 0 to 1,000,000 and rise"), (66, "a slope needs two rows"), (81, "there is no modulus"), (84, "a share is 0 to 1,000,000"), (97, "of a peak there are 0, 1 and 2"), (100, "there are no rows"), (106, "no area is told"), (108, "lengths are 1 to 1,000,000"), (110, "degrees are -200 to 200, joules 0 to 400"), (115, "there is room for 8 impacts"), (129, "there is no fit"), (131, "degrees are -200 to 200"), (133, "a table's values are 0 to 2,000"), (138, "x must rise"), (140, "there is room for 8 table rows"), (145, "there are no table rows"), (147, "the value lies beyond the table"), (157, "the lower number is 1 to 1,000,000,000,000"), (161, "the upper number is at most 1,000,000,000,000 from 0"), (163, "a check's forces are 1 to 1,000,000"), (178, "a fraction's parts are 0 and 1"), (180, "the rules are 0, 1 and 2")]
def gl_cast : List (String × String) := [("java/lang/IllegalArgumentException", "java/lang/IllegalArgumentException"), ("java/lang/IllegalStateException", "java/lang/IllegalStateException"), ("java/lang/UnsupportedOperationException", "java/lang/UnsupportedOperationException"), ("java/lang/IndexOutOfBoundsException", "java/lang/IndexOutOfBoundsException")]
def gl_not : List (String × String) := [("java/lang/IllegalArgumentException", "java/lang/IllegalStateException"), ("java/lang/IllegalArgumentException", "java/lang/UnsupportedOperationException"), ("java/lang/IllegalArgumentException", "java/lang/IndexOutOfBoundsException"), ("java/lang/IllegalStateException", "java/lang/IllegalArgumentException"), ("java/lang/IllegalStateException", "java/lang/UnsupportedOperationException"), ("java/lang/IllegalStateException", "java/lang/IndexOutOfBoundsException"), ("java/lang/UnsupportedOperationException", "java/lang/IllegalArgumentException"), ("java/lang/UnsupportedOperationException", "java/lang/IllegalStateException"), ("java/lang/UnsupportedOperationException", "java/lang/IndexOutOfBoundsException"), ("java/lang/IndexOutOfBoundsException", "java/lang/IllegalArgumentException"), ("java/lang/IndexOutOfBoundsException", "java/lang/IllegalStateException"), ("java/lang/IndexOutOfBoundsException", "java/lang/UnsupportedOperationException")]
def gl_decl : List MethodName := [⟨"java/lang/RuntimeException", "<init>", "(Ljava/lang/String;)V"⟩, ⟨"java/lang/Exception", "<init>", "(Ljava/lang/String;)V"⟩, ⟨"java/lang/Throwable", "<init>", "(Ljava/lang/String;)V"⟩]
def gl_ok (z0 : Nat) (sa : Nat → Nat) (U : State) : Prop := vx_Zq Bundle.tN "UNASSIGNED_STACK" Bundle.steD (fun q => z0 ≤ q) U U.heap ∧ vx_Zq Bundle.tN "SUPPRESSED_SENTINEL" Bundle.listD (fun q => z0 ≤ q) U U.heap ∧ (∀ q ∈ gl_str, vk_R RX0 q.1 q.2 (sa q.1) U) ∧ (∀ q ∈ gl_cast, va_Nw (.castable q.1 q.2) U) ∧ (∀ q ∈ gl_not, va_Nc q.1 q.2 U) ∧ ∀ x ∈ gl_decl, va_Nw (.declares x) U
theorem gl_moved {z0 : Nat} {sa : Nat → Nat} {A : Nat → Prop} {s U : State} {H : Heap} {locs : List Loc} (h : gl_ok z0 sa s) (hS : va_S A s.heap H locs) (hA : ∀ q, A q → z0 ≤ q) (hU : U.heap = H) (hW : s.WarmedH U.vm) : gl_ok z0 sa U := by
  obtain ⟨h1, h2, h3, h4, h5, h6⟩ := h
  have hk : ∀ a : Nat, a < s.heap.size → ¬ (fun q => z0 ≤ q) a → U.heap[a]? = s.heap[a]? := fun a h9 h8 => by rw [hU]; exact hS.2.1 a h9 (fun q => h8 (hA a q))
  exact ⟨vx_Zq.moved hW.alike (h1.kept hk), vx_Zq.moved hW.alike (h2.kept hk), fun q hq => vk_R.warm hW (h3 q hq), fun q hq => va_Nw.warmC hW (h4 q hq), fun q hq => va_Nc.moved hW.alike (h5 q hq), fun x hx => va_Nw.warmD hW (h6 x hx)⟩
theorem gl_blind {z0 : Nat} {sa : Nat → Nat} {U : State} {g : JFrame} {mk : MethodId} {a : Array Value} (h : gl_ok z0 sa U) : gl_ok z0 sa (U.calling g mk a) := by
  obtain ⟨h1, h2, h3, h4, h5, h6⟩ := h
  exact ⟨vx_Zq.moved (u := U) (U := U.calling g mk a) (Vm.Alike.refl U.vm) h1, vx_Zq.moved (u := U) (U := U.calling g mk a) (Vm.Alike.refl U.vm) h2, fun q hq => vk_R.same (u := U) rfl (h3 q hq), fun q hq => va_Nw.same (u := U) rfl rfl (h4 q hq), fun q hq => va_Nc.moved (u := U) (U := U.calling g mk a) (Vm.Alike.refl U.vm) (h5 q hq), fun x hx => va_Nw.same (u := U) rfl rfl (h6 x hx)⟩
theorem az_of {z0 sz : Nat} {w : va_W} (hD : va_D (fun q => z0 ≤ q) w) (hz : z0 ≤ sz) : ∀ q, va_A w sz q → z0 ≤ q := by
  intro q h
  rcases h with ⟨k, e, h⟩ | h
  · exact hD.2 k (q, e) h
  · exact Nat.le_trans hz h
theorem nil_P {D : va_G} {cl : List vw_C} {H : Heap} : va_P D cl [] H := fun k q h => by simp at h
theorem nil_D {A : Nat → Prop} : va_D A [] := ⟨fun i j p q h => by simp at h, fun k q h => by simp at h⟩
abbrev at_w (dC : Nat → ClassId) (dI : Nat → Nat → Nat) (cI : ClassId) (A : Nat → Prop) (w : va_W) (t : State) : Prop := va_P (dC, dI) vwCl w t.heap ∧ va_K (dC, dI) vwCl [(cI, .int)] t ∧ va_D A w
end
section
set_option maxHeartbeats 4000000 in
set_option maxRecDepth 100000 in
theorem c_X0_isWithin (l : Launch) (x a b : Int32) (lo hi : Int) (hA : a.toInt = lo) (hB : b.toInt = hi) : Met l yX0_isWithin wsX0_isWithin ({ frames := 0, cells := 0, slots := 0, locals := 0 }) (va_Pc [.int x, .int a, .int b] (fun U => True)) (vp_Si (fun r => r = bI (lo ≤ x.toInt ∧ x.toInt ≤ hi))) 0 0 (fun _ => False) := by
  refine Met.ofW (cc := cX0_isWithin) (maxL := 3) (ret := (some .boolean)) (by decide) rfl ?_
  intro p e s m args below meth c s₁ B hml hv
  obtain ⟨rfl, -⟩ := hv
  have hx := B.exec
  have hb := B.bytes
  have hr := B.returns
  have hts := atoms_spec (ws := wsX0_isWithin) B.pre
  have hown : s.vm.findClass RX0 = some m.cls := findClass_of_methodNamed B.named
  have hlocks := B.notSynchronized
  have hl := lv_entry ([.int x, .int a, .int b]) (n := 3) (Nat.le_of_ble_eq_true rfl)
  rw [lg_entry_eq]
  generalize (lg_sl ([.int x, .int a, .int b]) ++ List.replicate (3 - (lg_sl ([.int x, .int a, .int b])).length) Slot.unset).toArray = ls at hl ⊢
  have hl : lv_has ls 3 [(0, .int x), (1, .int a), (2, .int b)] := hl
  refine lv_iload_n hx hb dX0_isWithin_0 rfl (lv_at hl 0 rfl) ?_
  refine lv_iload_n hx hb dX0_isWithin_1 rfl (lv_at hl 1 rfl) ?_
  refine lv_icmp_lt (tgt := 14) hx hb dX0_isWithin_2 (by decide) (fun c2 => ?_) (fun c2 => ?_)
  · -- taken at 2
    have c2 : x.toInt < a.toInt := (Int32.lt_iff_toInt_lt).mp c2
    refine lv_iconst (v := 0) hx hb dX0_isWithin_14 (by decide) ?_
    exact W.zret (v := 0) hx hb hr rfl (fun t ht hW => ⟨0, rfl, (bI_0 (by omega)).symm, ht⟩) t_nil dX0_isWithin_15
  · -- not taken at 2
    have c2 : ¬ x.toInt < a.toInt := fun q9 => c2 ((Int32.lt_iff_toInt_lt).mpr q9)
    refine lv_iload_n hx hb dX0_isWithin_5 rfl (lv_at hl 0 rfl) ?_
    refine lv_iload_n hx hb dX0_isWithin_6 rfl (lv_at hl 2 rfl) ?_
    refine lv_icmp_gt (tgt := 14) hx hb dX0_isWithin_7 (by decide) (fun c7 => ?_) (fun c7 => ?_)
    · -- taken at 7
      have c7 : b.toInt < x.toInt := (Int32.lt_iff_toInt_lt).mp c7
      refine lv_iconst (v := 0) hx hb dX0_isWithin_14 (by decide) ?_
      exact W.zret (v := 0) hx hb hr rfl (fun t ht hW => ⟨0, rfl, (bI_0 (by omega)).symm, ht⟩) t_nil dX0_isWithin_15
    · -- not taken at 7
      have c7 : ¬ b.toInt < x.toInt := fun q9 => c7 ((Int32.lt_iff_toInt_lt).mpr q9)
      refine lv_iconst (v := 1) hx hb dX0_isWithin_10 (by decide) ?_
      refine lv_goto (tgt := 15) hx hb dX0_isWithin_11 (by decide) ?_
      exact W.zret (v := 1) hx hb hr rfl (fun t ht hW => ⟨1, rfl, (bI_1 (by omega)).symm, ht⟩) t_nil dX0_isWithin_15
set_option maxHeartbeats 4000000 in
set_option maxRecDepth 100000 in
theorem c_X0_firstRowFrom (l : Launch) (dC : Nat → ClassId) (dI : Nat → Nat → Nat) (x a1 a2 a3 a4 : Nat) (cI : ClassId) (S F X Y : Nat → Int32) (n : Nat) (ar sl : Int32) (mu ml : Int64) (ck : Int32) (ic : Nat) (ds js ps ss : Int64) (tc : Nat) (p1 : Int32) (hn : n ≤ 40) : Met l yX0_firstRowFrom wsX0_firstRowFrom ({ frames := 0, cells := 0, slots := 0, locals := 0 }) (va_Pc [.ref x, .int p1] (fun U => va_P (dC, dI) vwCl (wX x a1 a2 a3 a4 cI S F X Y n ar sl mu ml ck ic ds js ps ss tc) U.heap ∧ va_K (dC, dI) vwCl [(cI, .int)] U)) (vp_Si (fun r => ∃ k, k ≤ n ∧ r = nI k ∧ (∀ j, j < k → (S j).toInt < p1.toInt) ∧ (k < n → p1.toInt ≤ (S k).toInt))) 0 0 (fun _ => False) := by
  refine Met.ofW (cc := cX0_firstRowFrom) (maxL := 3) (ret := (some .int)) (by decide) rfl ?_
  intro p e s m args below meth c s₁ B hml hv
  obtain ⟨rfl, hP, hK⟩ := hv
  have hx := B.exec
  have hb := B.bytes
  have hr := B.returns
  have hts := atoms_spec (ws := wsX0_firstRowFrom) B.pre
  have hown : s.vm.findClass RX0 = some m.cls := findClass_of_methodNamed B.named
  have hlocks := B.notSynchronized
  have hinX0 : ∀ w ∈ wsX00, w ∈ wsX0_firstRowFrom := fun w h => List.mem_cons_of_mem _ (inX0 w h)
  have f34 := hts _ (List.mem_cons_of_mem _ wl_X0_34)
  have f9 := hts _ (List.mem_cons_of_mem _ wl_X0_9)
  have hl := lv_entry ([.ref x, .int p1]) (n := 3) (Nat.le_of_ble_eq_true rfl)
  rw [lg_entry_eq]
  generalize (lg_sl ([.ref x, .int p1]) ++ List.replicate (3 - (lg_sl ([.ref x, .int p1])).length) Slot.unset).toArray = ls at hl ⊢
  have hl : lv_has ls 3 [(0, .ref x), (1, .int p1)] := hl
  have L2 : ∀ (f : Nat) (k : Nat) (ls : Array Slot), n + 1 ≤ k + f → (k ≤ n) → (∀ j, j < k → (S j).toInt < p1.toInt) → lv_has ls 3 [(2, .int (nI k)), (0, .ref x), (1, .int p1)] → W p l e (headSpec wsX0_firstRowFrom ({ frames := 0, cells := 0, slots := 0, locals := 0 })).room s m ([.ref x, .int p1] : List Value).toArray below meth c s.heap [] 0 0 (MQ below (vp_Si (fun r => ∃ k, k ≤ n ∧ r = nI k ∧ (∀ j, j < k → (S j).toInt < p1.toInt) ∧ (k < n → p1.toInt ≤ (S k).toInt))) ([.ref x, .int p1] : List Value).toArray s 0 0 (fun _ => False)) (F0 m 2 ls []) := by
    intro f
    induction f with
    | zero => intro k ls hm hk ha hl; exact absurd hm (by omega)
    | succ f ih =>
      intro k ls hm hk ha hl
      refine lv_iload_n hx hb dX0_firstRowFrom_2 rfl (lv_at hl 0 rfl) ?_
      refine lv_aload_n hx hb dX0_firstRowFrom_3 rfl (lv_at hl 1 rfl) ?_
      refine va_get (D := (dC, dI)) (ci := 0) (v := .int (nI n)) (C := RX0) (T := TX0) (N := 16) hx hb hts hinX0 hown hK hP 0 rfl rfl 2 (by decide) f34 (fun _ h9 => h9) rfl dX0_firstRowFrom_4 ?_
      refine lv_icmp_ge (tgt := 28) hx hb dX0_firstRowFrom_7 (by decide) (fun c7 => ?_) (fun c7 => ?_)
      · -- taken at 7
        have c7 : n ≤ k := (nI_leI (a := n) (b := k) (by omega) (by omega)).mp c7
        refine lv_aload_n hx hb dX0_firstRowFrom_28 rfl (lv_at hl 1 rfl) ?_
        refine va_get (D := (dC, dI)) (ci := 0) (v := .int (nI n)) (C := RX0) (T := TX0) (N := 16) hx hb hts hinX0 hown hK hP 0 rfl rfl 2 (by decide) f34 (fun _ h9 => h9) rfl dX0_firstRowFrom_29 ?_
        exact W.iret (v := nI n) hx hb hr (fun t ht hW => ⟨nI n, rfl, ⟨n, Nat.le_refl n, rfl, fun j hj => ha j (by omega), fun q => absurd q (Nat.lt_irrefl n)⟩, ht⟩) t_nil dX0_firstRowFrom_32
      · -- not taken at 7
        have c7 : ¬ n ≤ k := fun q9 => c7 ((nI_leI (a := n) (b := k) (by omega) (by omega)).mpr q9)
        refine lv_aload_n hx hb dX0_firstRowFrom_10 rfl (lv_at hl 1 rfl) ?_
        refine va_get (D := (dC, dI)) (ci := 0) (v := .ref a1) (C := RX0) (T := TX0) (N := 16) hx hb hts hinX0 hown hK hP 0 rfl rfl 0 (by decide) f9 (fun _ h9 => h9) rfl dX0_firstRowFrom_11 ?_
        refine lv_iload_n hx hb dX0_firstRowFrom_14 rfl (lv_at hl 0 rfl) ?_
        refine va_iald (D := (dC, dI)) hx hb hK hP 1 0 rfl rfl (vp_in_nI (show k < 40 by omega) (by decide)) dX0_firstRowFrom_15 ?_
        refine W.eq (congrArg (fun z => F0 m 16 ls (.int z :: [])) (congrArg S (nI_clamp (show k < 2 ^ 31 by omega)))) ?_
        refine lv_iload_n hx hb dX0_firstRowFrom_16 rfl (lv_at hl 2 rfl) ?_
        refine lv_icmp_lt (tgt := 22) hx hb dX0_firstRowFrom_17 (by decide) (fun c17 => ?_) (fun c17 => ?_)
        · -- taken at 17
          have c17 : (S k).toInt < p1.toInt := (Int32.lt_iff_toInt_lt).mp c17
          refine lv_iinc (v := nI (k + 1)) (lv' := [(2, .int (nI (k + 1))), (0, .ref x), (1, .int p1)]) hx hb dX0_firstRowFrom_22 hl (k := 0) rfl ((nI_succ _).symm) (by decide) rfl (fun ls hl => ?_)
          refine lv_goto (tgt := 2) hx hb dX0_firstRowFrom_25 (by decide) ?_
          exact ih (k + 1) ls (by omega) (by omega) (lt_s ha c17) (lv_sub hl [0, 1, 2] rfl)
        · -- not taken at 17
          have c17 : ¬ (S k).toInt < p1.toInt := fun q9 => c17 ((Int32.lt_iff_toInt_lt).mpr q9)
          refine lv_iload_n hx hb dX0_firstRowFrom_20 rfl (lv_at hl 0 rfl) ?_
          exact W.iret (v := nI k) hx hb hr (fun t ht hW => ⟨nI k, rfl, ⟨k, hk, rfl, ha, fun _ => by omega⟩, ht⟩) t_nil dX0_firstRowFrom_21
  refine lv_iconst (v := 0) hx hb dX0_firstRowFrom_0 (by decide) ?_
  refine lv_istore_n (lv' := [(2, .int 0), (0, .ref x), (1, .int p1)]) hx hb dX0_firstRowFrom_1 rfl hl (by decide) rfl (fun ls hl => ?_)
  exact L2 (n + 1) 0 ls (by omega) (Nat.zero_le _) (fun j hj => absurd hj (Nat.not_lt_zero j)) (lv_sub hl [0, 1, 2] rfl)
set_option maxHeartbeats 4000000 in
set_option maxRecDepth 100000 in
theorem c_X0_lastRowUpTo (l : Launch) (dC : Nat → ClassId) (dI : Nat → Nat → Nat) (x a1 a2 a3 a4 : Nat) (cI : ClassId) (S F X Y : Nat → Int32) (n : Nat) (ar sl : Int32) (mu ml : Int64) (ck : Int32) (ic : Nat) (ds js ps ss : Int64) (tc : Nat) (p1 : Int32) (hn : n ≤ 40) : Met l yX0_lastRowUpTo wsX0_lastRowUpTo ({ frames := 0, cells := 0, slots := 0, locals := 0 }) (va_Pc [.ref x, .int p1] (fun U => va_P (dC, dI) vwCl (wX x a1 a2 a3 a4 cI S F X Y n ar sl mu ml ck ic ds js ps ss tc) U.heap ∧ va_K (dC, dI) vwCl [(cI, .int)] U)) (vp_Si (fun r => ∃ k : Nat, k ≤ n ∧ r.toInt = (k : Int) - 1 ∧ (∀ j, k ≤ j → j < n → p1.toInt < (S j).toInt) ∧ (0 < k → (S (k - 1)).toInt ≤ p1.toInt))) 0 0 (fun _ => False) := by
  refine Met.ofW (cc := cX0_lastRowUpTo) (maxL := 3) (ret := (some .int)) (by decide) rfl ?_
  intro p e s m args below meth c s₁ B hml hv
  obtain ⟨rfl, hP, hK⟩ := hv
  have hx := B.exec
  have hb := B.bytes
  have hr := B.returns
  have hts := atoms_spec (ws := wsX0_lastRowUpTo) B.pre
  have hown : s.vm.findClass RX0 = some m.cls := findClass_of_methodNamed B.named
  have hlocks := B.notSynchronized
  have hinX0 : ∀ w ∈ wsX00, w ∈ wsX0_lastRowUpTo := fun w h => List.mem_cons_of_mem _ (inX0 w h)
  have f34 := hts _ (List.mem_cons_of_mem _ wl_X0_34)
  have f9 := hts _ (List.mem_cons_of_mem _ wl_X0_9)
  have hl := lv_entry ([.ref x, .int p1]) (n := 3) (Nat.le_of_ble_eq_true rfl)
  rw [lg_entry_eq]
  generalize (lg_sl ([.ref x, .int p1]) ++ List.replicate (3 - (lg_sl ([.ref x, .int p1])).length) Slot.unset).toArray = ls at hl ⊢
  have hl : lv_has ls 3 [(0, .ref x), (1, .int p1)] := hl
  have L7 : ∀ (f : Nat) (k : Nat) (z : Int32) (ls : Array Slot), k + 1 ≤ f → (k ≤ n) → (z.toInt = (k : Int) - 1) → (∀ j, k ≤ j → j < n → p1.toInt < (S j).toInt) → lv_has ls 3 [(2, .int z), (0, .ref x), (1, .int p1)] → W p l e (headSpec wsX0_lastRowUpTo ({ frames := 0, cells := 0, slots := 0, locals := 0 })).room s m ([.ref x, .int p1] : List Value).toArray below meth c s.heap [] 0 0 (MQ below (vp_Si (fun r => ∃ k : Nat, k ≤ n ∧ r.toInt = (k : Int) - 1 ∧ (∀ j, k ≤ j → j < n → p1.toInt < (S j).toInt) ∧ (0 < k → (S (k - 1)).toInt ≤ p1.toInt))) ([.ref x, .int p1] : List Value).toArray s 0 0 (fun _ => False)) (F0 m 7 ls []) := by
    intro f
    induction f with
    | zero => intro k z ls hm hk hz ha hl; exact absurd hm (by omega)
    | succ f ih =>
      intro k z ls hm hk hz ha hl
      refine lv_iload_n hx hb dX0_lastRowUpTo_7 rfl (lv_at hl 0 rfl) ?_
      refine lv_if_lt (tgt := 29) hx hb dX0_lastRowUpTo_8 (by decide) (fun c8 => ?_) (fun c8 => ?_)
      · -- taken at 8
        have c8 : z.toInt < 0 := (Int32.lt_iff_toInt_lt).mp c8
        refine lv_iconst (v := (-1)) hx hb dX0_lastRowUpTo_29 (by decide) ?_
        exact W.iret (v := (-1)) hx hb hr (fun t ht hW => ⟨(-1), rfl, ⟨0, Nat.zero_le _, by decide, fun j h1 h2 => ha j (by omega) h2, fun q => absurd q (by decide)⟩, ht⟩) t_nil dX0_lastRowUpTo_30
      · -- not taken at 8
        have c8 : ¬ z.toInt < 0 := fun q9 => c8 ((Int32.lt_iff_toInt_lt).mpr q9)
        refine lv_aload_n hx hb dX0_lastRowUpTo_11 rfl (lv_at hl 1 rfl) ?_
        refine va_get (D := (dC, dI)) (ci := 0) (v := .ref a1) (C := RX0) (T := TX0) (N := 16) hx hb hts hinX0 hown hK hP 0 rfl rfl 0 (by decide) f9 (fun _ h9 => h9) rfl dX0_lastRowUpTo_12 ?_
        refine lv_iload_n hx hb dX0_lastRowUpTo_15 rfl (lv_at hl 0 rfl) ?_
        refine va_iald (D := (dC, dI)) hx hb hK hP 1 0 rfl rfl (vp_in_iff.mpr ⟨by omega, by omega⟩) dX0_lastRowUpTo_16 ?_
        refine W.eq (congrArg (fun z => F0 m 17 ls (.int z :: [])) (congrArg S (cl_of (j := k - 1) (by omega)))) ?_
        refine lv_iload_n hx hb dX0_lastRowUpTo_17 rfl (lv_at hl 2 rfl) ?_
        refine lv_icmp_gt (tgt := 23) hx hb dX0_lastRowUpTo_18 (by decide) (fun c18 => ?_) (fun c18 => ?_)
        · -- taken at 18
          have c18 : p1.toInt < (S (k - 1)).toInt := (Int32.lt_iff_toInt_lt).mp c18
          refine lv_iinc (v := z + (-1)) (lv' := [(2, .int (z + (-1))), (0, .ref x), (1, .int p1)]) hx hb dX0_lastRowUpTo_23 hl (k := 0) rfl (rfl) (by decide) rfl (fun ls hl => ?_)
          refine lv_goto (tgt := 7) hx hb dX0_lastRowUpTo_26 (by decide) ?_
          exact ih (k - 1) (z + (-1)) ls (by omega) (by omega) (i32_m1 (by omega) (by omega)) (ext_dn (by omega) ha c18) (lv_sub hl [0, 1, 2] rfl)
        · -- not taken at 18
          have c18 : ¬ p1.toInt < (S (k - 1)).toInt := fun q9 => c18 ((Int32.lt_iff_toInt_lt).mpr q9)
          refine lv_iload_n hx hb dX0_lastRowUpTo_21 rfl (lv_at hl 0 rfl) ?_
          exact W.iret (v := z) hx hb hr (fun t ht hW => ⟨z, rfl, ⟨k, hk, hz, ha, fun _ => by omega⟩, ht⟩) t_nil dX0_lastRowUpTo_22
  refine lv_aload_n hx hb dX0_lastRowUpTo_0 rfl (lv_at hl 0 rfl) ?_
  refine va_get (D := (dC, dI)) (ci := 0) (v := .int (nI n)) (C := RX0) (T := TX0) (N := 16) hx hb hts hinX0 hown hK hP 0 rfl rfl 2 (by decide) f34 (fun _ h9 => h9) rfl dX0_lastRowUpTo_1 ?_
  refine lv_iconst (v := 1) hx hb dX0_lastRowUpTo_4 (by decide) ?_
  refine lv_isub hx hb dX0_lastRowUpTo_5 ?_
  refine lv_istore_n (lv' := [(2, .int ((nI n) - 1)), (0, .ref x), (1, .int p1)]) hx hb dX0_lastRowUpTo_6 rfl hl (by decide) rfl (fun ls hl => ?_)
  exact L7 (n + 1) n (nI n - 1) ls (by omega) (Nat.le_refl n) (nI_m1 hn) (fun j h1 h2 => absurd h2 (Nat.not_lt.mpr h1)) (lv_sub hl [0, 1, 2] rfl)
set_option maxHeartbeats 4000000 in
set_option maxRecDepth 100000 in
theorem c_X0_excessOverLine (l : Launch) (dC : Nat → ClassId) (dI : Nat → Nat → Nat) (x a1 a2 a3 a4 : Nat) (cI : ClassId) (S F X Y : Nat → Int32) (n : Nat) (ar sl : Int32) (mu ml : Int64) (ck : Int32) (ic : Nat) (ds js ps ss : Int64) (tc : Nat) (p1 p2 : Int32) (k : Nat) (hk : p1.toInt = (k : Int)) (hk40 : k < 40) : Met l yX0_excessOverLine wsX0_excessOverLine ({ frames := 0, cells := 0, slots := 0, locals := 0 }) (va_Pc [.ref x, .int p1, .int p2] (fun U => va_P (dC, dI) vwCl (wX x a1 a2 a3 a4 cI S F X Y n ar sl mu ml ck ic ds js ps ss tc) U.heap ∧ va_K (dC, dI) vwCl [(cI, .int)] U)) (vp_Sl (fun r => r = exl S F mu ml p2 k)) 0 0 (fun _ => False) := by
  refine Met.ofW (cc := cX0_excessOverLine) (maxL := 3) (ret := (some .long)) (by decide) rfl ?_
  intro p e s m args below meth c s₁ B hml hv
  obtain ⟨rfl, hP, hK⟩ := hv
  have hx := B.exec
  have hb := B.bytes
  have hr := B.returns
  have hts := atoms_spec (ws := wsX0_excessOverLine) B.pre
  have hown : s.vm.findClass RX0 = some m.cls := findClass_of_methodNamed B.named
  have hlocks := B.notSynchronized
  have hinX0 : ∀ w ∈ wsX00, w ∈ wsX0_excessOverLine := fun w h => List.mem_cons_of_mem _ (inX0 w h)
  have f13 := hts _ (List.mem_cons_of_mem _ wl_X0_13)
  have f72 := hts _ (List.mem_cons_of_mem _ wl_X0_72)
  have f68 := hts _ (List.mem_cons_of_mem _ wl_X0_68)
  have f9 := hts _ (List.mem_cons_of_mem _ wl_X0_9)
  have hl := lv_entry ([.ref x, .int p1, .int p2]) (n := 3) (Nat.le_of_ble_eq_true rfl)
  rw [lg_entry_eq]
  generalize (lg_sl ([.ref x, .int p1, .int p2]) ++ List.replicate (3 - (lg_sl ([.ref x, .int p1, .int p2])).length) Slot.unset).toArray = ls at hl ⊢
  have hl : lv_has ls 3 [(0, .ref x), (1, .int p1), (2, .int p2)] := hl
  refine lv_aload_n hx hb dX0_excessOverLine_0 rfl (lv_at hl 0 rfl) ?_
  refine va_get (D := (dC, dI)) (ci := 0) (v := .ref a2) (C := RX0) (T := TX0) (N := 16) hx hb hts hinX0 hown hK hP 0 rfl rfl 1 (by decide) f13 (fun _ h9 => h9) rfl dX0_excessOverLine_1 ?_
  refine lv_iload_n hx hb dX0_excessOverLine_4 rfl (lv_at hl 1 rfl) ?_
  refine va_iald (D := (dC, dI)) hx hb hK hP 2 0 rfl rfl (vp_in_iff.mpr ⟨by omega, by omega⟩) dX0_excessOverLine_5 ?_
  refine W.eq (congrArg (fun z => F0 m 6 ls (.int z :: [])) (congrArg F (cl_of (j := k) (hk)))) ?_
  refine lv_i2l hx hb dX0_excessOverLine_6 rfl ?_
  refine lv_aload_n hx hb dX0_excessOverLine_7 rfl (lv_at hl 0 rfl) ?_
  refine va_get (D := (dC, dI)) (ci := 0) (v := .long ml) (C := RX0) (T := TX0) (N := 16) hx hb hts hinX0 hown hK hP 0 rfl rfl 6 (by decide) f72 (fun _ h9 => h9) rfl dX0_excessOverLine_8 ?_
  refine lv_lmul hx hb dX0_excessOverLine_11 ?_
  refine lv_aload_n hx hb dX0_excessOverLine_12 rfl (lv_at hl 0 rfl) ?_
  refine va_get (D := (dC, dI)) (ci := 0) (v := .long mu) (C := RX0) (T := TX0) (N := 16) hx hb hts hinX0 hown hK hP 0 rfl rfl 5 (by decide) f68 (fun _ h9 => h9) rfl dX0_excessOverLine_13 ?_
  refine lv_aload_n hx hb dX0_excessOverLine_16 rfl (lv_at hl 0 rfl) ?_
  refine va_get (D := (dC, dI)) (ci := 0) (v := .ref a1) (C := RX0) (T := TX0) (N := 16) hx hb hts hinX0 hown hK hP 0 rfl rfl 0 (by decide) f9 (fun _ h9 => h9) rfl dX0_excessOverLine_17 ?_
  refine lv_iload_n hx hb dX0_excessOverLine_20 rfl (lv_at hl 1 rfl) ?_
  refine va_iald (D := (dC, dI)) hx hb hK hP 1 0 rfl rfl (vp_in_iff.mpr ⟨by omega, by omega⟩) dX0_excessOverLine_21 ?_
  refine W.eq (congrArg (fun z => F0 m 22 ls (.int z :: [.long mu, .long (((F k).toInt64) * ml)])) (congrArg S (cl_of (j := k) (hk)))) ?_
  refine lv_iload_n hx hb dX0_excessOverLine_22 rfl (lv_at hl 2 rfl) ?_
  refine lv_isub hx hb dX0_excessOverLine_23 ?_
  refine lv_i2l hx hb dX0_excessOverLine_24 rfl ?_
  refine lv_lmul hx hb dX0_excessOverLine_25 ?_
  refine lv_lsub hx hb dX0_excessOverLine_26 ?_
  exact W.lret (v := (((F k).toInt64) * ml) - (mu * (((S k) - p2).toInt64))) hx hb hr (fun t ht hW => ⟨(((F k).toInt64) * ml) - (mu * (((S k) - p2).toInt64)), rfl, rfl, ht⟩) t_nil dX0_excessOverLine_27
set_option maxHeartbeats 4000000 in
set_option maxRecDepth 100000 in
theorem c_X0_meetingRow (l : Launch) (dC : Nat → ClassId) (dI : Nat → Nat → Nat) (x a1 a2 a3 a4 : Nat) (cI : ClassId) (S F X Y : Nat → Int32) (n : Nat) (ar sl : Int32) (mu ml : Int64) (ck : Int32) (ic : Nat) (ds js ps ss : Int64) (tc : Nat) (p1 : Int32) (hn : n ≤ 40) : Met l yX0_meetingRow wsX0_meetingRow ({ frames := 1, cells := 0, slots := 0, locals := 22 }) (va_Pc [.ref x, .int p1] (fun U => va_P (dC, dI) vwCl (wX x a1 a2 a3 a4 cI S F X Y n ar sl mu ml ck ic ds js ps ss tc) U.heap ∧ va_K (dC, dI) vwCl [(cI, .int)] U)) (vp_Si (fun r => (∃ k, 1 ≤ k ∧ k < n ∧ r = nI k ∧ mtg (exl S F mu ml p1) k ∧ ∀ j, 1 ≤ j → j < k → ¬ mtg (exl S F mu ml p1) j) ∨ (r = -1 ∧ ∀ j, 1 ≤ j → j < n → ¬ mtg (exl S F mu ml p1) j))) 0 0 (fun _ => False) := by
  refine Met.ofW (cc := cX0_meetingRow) (maxL := 3) (ret := (some .int)) (by decide) rfl ?_
  intro p e s m args below meth c s₁ B hml hv
  obtain ⟨rfl, hP, hK⟩ := hv
  have hx := B.exec
  have hb := B.bytes
  have hr := B.returns
  have hts := atoms_spec (ws := wsX0_meetingRow) B.pre
  have hown : s.vm.findClass RX0 = some m.cls := findClass_of_methodNamed B.named
  have hlocks := B.notSynchronized
  have hinX0 : ∀ w ∈ wsX00, w ∈ wsX0_meetingRow := fun w h => List.mem_cons_of_mem _ (inX0 w h)
  have f34 := hts _ (List.mem_cons_of_mem _ wl_X0_34)
  have hl := lv_entry ([.ref x, .int p1]) (n := 3) (Nat.le_of_ble_eq_true rfl)
  rw [lg_entry_eq]
  generalize (lg_sl ([.ref x, .int p1]) ++ List.replicate (3 - (lg_sl ([.ref x, .int p1])).length) Slot.unset).toArray = ls at hl ⊢
  have hl : lv_has ls 3 [(0, .ref x), (1, .int p1)] := hl
  have L2 : ∀ (f : Nat) (k : Nat) (ls : Array Slot), n + 2 ≤ k + f → (1 ≤ k) → (k ≤ n + 1) → (∀ j, 1 ≤ j → j < k → ¬ mtg (exl S F mu ml p1) j) → lv_has ls 3 [(2, .int (nI k)), (0, .ref x), (1, .int p1)] → W p l e (headSpec wsX0_meetingRow ({ frames := 1, cells := 0, slots := 0, locals := 22 })).room s m ([.ref x, .int p1] : List Value).toArray below meth c s.heap [] 0 0 (MQ below (vp_Si (fun r => (∃ k, 1 ≤ k ∧ k < n ∧ r = nI k ∧ mtg (exl S F mu ml p1) k ∧ ∀ j, 1 ≤ j → j < k → ¬ mtg (exl S F mu ml p1) j) ∨ (r = -1 ∧ ∀ j, 1 ≤ j → j < n → ¬ mtg (exl S F mu ml p1) j))) ([.ref x, .int p1] : List Value).toArray s 0 0 (fun _ => False)) (F0 m 2 ls []) := by
    intro f
    induction f with
    | zero => intro k ls hm hk hk2 ha hl; exact absurd hm (by omega)
    | succ f ih =>
      intro k ls hm hk hk2 ha hl
      refine lv_iload_n hx hb dX0_meetingRow_2 rfl (lv_at hl 0 rfl) ?_
      refine lv_aload_n hx hb dX0_meetingRow_3 rfl (lv_at hl 1 rfl) ?_
      refine va_get (D := (dC, dI)) (ci := 0) (v := .int (nI n)) (C := RX0) (T := TX0) (N := 16) hx hb hts hinX0 hown hK hP 0 rfl rfl 2 (by decide) f34 (fun _ h9 => h9) rfl dX0_meetingRow_4 ?_
      refine lv_icmp_ge (tgt := 42) hx hb dX0_meetingRow_7 (by decide) (fun c7 => ?_) (fun c7 => ?_)
      · -- taken at 7
        have c7 : n ≤ k := (nI_leI (a := n) (b := k) (by omega) (by omega)).mp c7
        refine lv_iconst (v := (-1)) hx hb dX0_meetingRow_42 (by decide) ?_
        exact W.iret (v := (-1)) hx hb hr (fun t ht hW => ⟨(-1), rfl, Or.inr ⟨rfl, fun j h1 h2 => ha j h1 (by omega)⟩, ht⟩) t_nil dX0_meetingRow_43
      · -- not taken at 7
        have c7 : ¬ n ≤ k := fun q9 => c7 ((nI_leI (a := n) (b := k) (by omega) (by omega)).mpr q9)
        refine lv_aload_n hx hb dX0_meetingRow_10 rfl (lv_at hl 1 rfl) ?_
        refine lv_iload_n hx hb dX0_meetingRow_11 rfl (lv_at hl 0 rfl) ?_
        refine lv_iload_n hx hb dX0_meetingRow_12 rfl (lv_at hl 2 rfl) ?_
        refine vp_callSl (W.runV (As := [.int (nI k), .int p1]) (rest := []) ⟨hx, hb, hml, hown, hts⟩ (c_X0_excessOverLine l dC dI x a1 a2 a3 a4 cI S F X Y n ar sl mu ml ck ic ds js ps ss tc (nI k) p1 k (nI_toInt (by omega)) (by omega)) (cwV 2 hts (gV wl_X0_91 wi_X0_excessOverLine wv_X0_excessOverLine wi_X0 wc_X0_excessOverLine) rfl rfl rfl (by decide +kernel) ⟨Nat.le_of_ble_eq_true rfl, Nat.le_of_ble_eq_true rfl⟩) ⟨fun a U g mk q => ⟨q.1, q.2.1, va_K.moved (u := U) (U := U.calling g mk a) (Vm.Alike.refl U.vm) q.2.2⟩, va_recv hK hP (ci := 0) (q0 := 0) rfl rfl, fun U hU hW => ⟨rfl, by rw [hU]; exact hP, va_K.moved hW.alike hK⟩⟩ rfl rfl hl.1 rfl (lv_room (Nat.le_of_ble_eq_true rfl)) dX0_meetingRow_13 ⟨Nat.le_of_ble_eq_true rfl, Nat.le_of_ble_eq_true rfl⟩) (fun r13 h13 => ?_)
        subst h13
        refine lv_lconst (v := 0) hx hb dX0_meetingRow_16 (by decide) ?_
        refine W.lcmp hx hb dX0_meetingRow_17 ?_
        refine lv_if_gt (tgt := 36) hx hb dX0_meetingRow_18 (by decide) (fun c18 => ?_) (fun c18 => ?_)
        · -- taken at 18
          have c18 := (lg_cmp_gt _ _).mp c18
          have c18 : 0 < (exl S F mu ml p1 k).toInt := (Int64.lt_iff_toInt_lt).mp c18
          refine lv_iinc (v := nI (k + 1)) (lv' := [(2, .int (nI (k + 1))), (0, .ref x), (1, .int p1)]) hx hb dX0_meetingRow_36 hl (k := 0) rfl ((nI_succ _).symm) (by decide) rfl (fun ls hl => ?_)
          refine lv_goto (tgt := 2) hx hb dX0_meetingRow_39 (by decide) ?_
          exact ih (k + 1) ls (by omega) (by omega) (by omega) (ext_up ha (fun q => by have := q.1; have := q.2; omega)) (lv_sub hl [0, 1, 2] rfl)
        · -- not taken at 18
          have c18 := fun q9 => c18 ((lg_cmp_gt _ _).mpr q9)
          have c18 : ¬ 0 < (exl S F mu ml p1 k).toInt := fun q9 => c18 ((Int64.lt_iff_toInt_lt).mpr q9)
          refine lv_aload_n hx hb dX0_meetingRow_21 rfl (lv_at hl 1 rfl) ?_
          refine lv_iload_n hx hb dX0_meetingRow_22 rfl (lv_at hl 0 rfl) ?_
          refine lv_iconst (v := 1) hx hb dX0_meetingRow_23 (by decide) ?_
          refine lv_isub hx hb dX0_meetingRow_24 ?_
          refine lv_iload_n hx hb dX0_meetingRow_25 rfl (lv_at hl 2 rfl) ?_
          refine vp_callSl (W.runV (As := [.int ((nI k) - 1), .int p1]) (rest := []) ⟨hx, hb, hml, hown, hts⟩ (c_X0_excessOverLine l dC dI x a1 a2 a3 a4 cI S F X Y n ar sl mu ml ck ic ds js ps ss tc ((nI k) - 1) p1 (k - 1) (nI_sub1 (by omega) (by omega)) (by omega)) (cwV 2 hts (gV wl_X0_91 wi_X0_excessOverLine wv_X0_excessOverLine wi_X0 wc_X0_excessOverLine) rfl rfl rfl (by decide +kernel) ⟨Nat.le_of_ble_eq_true rfl, Nat.le_of_ble_eq_true rfl⟩) ⟨fun a U g mk q => ⟨q.1, q.2.1, va_K.moved (u := U) (U := U.calling g mk a) (Vm.Alike.refl U.vm) q.2.2⟩, va_recv hK hP (ci := 0) (q0 := 0) rfl rfl, fun U hU hW => ⟨rfl, by rw [hU]; exact hP, va_K.moved hW.alike hK⟩⟩ rfl rfl hl.1 rfl (lv_room (Nat.le_of_ble_eq_true rfl)) dX0_meetingRow_26 ⟨Nat.le_of_ble_eq_true rfl, Nat.le_of_ble_eq_true rfl⟩) (fun r26 h26 => ?_)
          subst h26
          refine lv_lconst (v := 0) hx hb dX0_meetingRow_29 (by decide) ?_
          refine W.lcmp hx hb dX0_meetingRow_30 ?_
          refine lv_if_le (tgt := 36) hx hb dX0_meetingRow_31 (by decide) (fun c31 => ?_) (fun c31 => ?_)
          · -- taken at 31
            have c31 := (lg_cmp_le _ _).mp c31
            have c31 : (exl S F mu ml p1 (k - 1)).toInt ≤ 0 := (Int64.le_iff_toInt_le).mp c31
            refine lv_iinc (v := nI (k + 1)) (lv' := [(2, .int (nI (k + 1))), (0, .ref x), (1, .int p1)]) hx hb dX0_meetingRow_36 hl (k := 0) rfl ((nI_succ _).symm) (by decide) rfl (fun ls hl => ?_)
            refine lv_goto (tgt := 2) hx hb dX0_meetingRow_39 (by decide) ?_
            exact ih (k + 1) ls (by omega) (by omega) (by omega) (ext_up ha (fun q => by have := q.1; have := q.2; omega)) (lv_sub hl [0, 1, 2] rfl)
          · -- not taken at 31
            have c31 := fun q9 => c31 ((lg_cmp_le _ _).mpr q9)
            have c31 : ¬ (exl S F mu ml p1 (k - 1)).toInt ≤ 0 := fun q9 => c31 ((Int64.le_iff_toInt_le).mpr q9)
            refine lv_iload_n hx hb dX0_meetingRow_34 rfl (lv_at hl 0 rfl) ?_
            exact W.iret (v := nI k) hx hb hr (fun t ht hW => ⟨nI k, rfl, Or.inl ⟨k, hk, by omega, rfl, ⟨by omega, by omega⟩, ha⟩, ht⟩) t_nil dX0_meetingRow_35
  refine lv_iconst (v := 1) hx hb dX0_meetingRow_0 (by decide) ?_
  refine lv_istore_n (lv' := [(2, .int 1), (0, .ref x), (1, .int p1)]) hx hb dX0_meetingRow_1 rfl hl (by decide) rfl (fun ls hl => ?_)
  exact L2 (n + 2) 1 ls (by omega) (by decide) (by omega) (fun j h1 h2 => absurd h1 (by omega)) (lv_sub hl [0, 1, 2] rfl)
set_option maxHeartbeats 4000000 in
set_option maxRecDepth 100000 in
theorem c_X0_firstRowOfGreatestForce (l : Launch) (dC : Nat → ClassId) (dI : Nat → Nat → Nat) (x a1 a2 a3 a4 : Nat) (cI : ClassId) (S F X Y : Nat → Int32) (n : Nat) (ar sl : Int32) (mu ml : Int64) (ck : Int32) (ic : Nat) (ds js ps ss : Int64) (tc : Nat) (hn : n ≤ 40) (hn0 : 0 < n) : Met l yX0_firstRowOfGreatestForce wsX0_firstRowOfGreatestForce ({ frames := 0, cells := 0, slots := 0, locals := 0 }) (va_Pc [.ref x] (fun U => va_P (dC, dI) vwCl (wX x a1 a2 a3 a4 cI S F X Y n ar sl mu ml ck ic ds js ps ss tc) U.heap ∧ va_K (dC, dI) vwCl [(cI, .int)] U)) (vp_Si (fun r => r = nI (pk F n))) 0 0 (fun _ => False) := by
  refine Met.ofW (cc := cX0_firstRowOfGreatestForce) (maxL := 3) (ret := (some .int)) (by decide) rfl ?_
  intro p e s m args below meth c s₁ B hml hv
  obtain ⟨rfl, hP, hK⟩ := hv
  have hx := B.exec
  have hb := B.bytes
  have hr := B.returns
  have hts := atoms_spec (ws := wsX0_firstRowOfGreatestForce) B.pre
  have hown : s.vm.findClass RX0 = some m.cls := findClass_of_methodNamed B.named
  have hlocks := B.notSynchronized
  have hinX0 : ∀ w ∈ wsX00, w ∈ wsX0_firstRowOfGreatestForce := fun w h => List.mem_cons_of_mem _ (inX0 w h)
  have f34 := hts _ (List.mem_cons_of_mem _ wl_X0_34)
  have f13 := hts _ (List.mem_cons_of_mem _ wl_X0_13)
  have hl := lv_entry ([.ref x]) (n := 3) (Nat.le_of_ble_eq_true rfl)
  rw [lg_entry_eq]
  generalize (lg_sl ([.ref x]) ++ List.replicate (3 - (lg_sl ([.ref x])).length) Slot.unset).toArray = ls at hl ⊢
  have hl : lv_has ls 3 [(0, .ref x)] := hl
  have L4 : ∀ (f k : Nat) (ls : Array Slot), n + 1 ≤ k + f → 1 ≤ k → k ≤ n → lv_has ls 3 [(2, .int (nI k)), (1, .int (nI (pk F k))), (0, .ref x)] → W p l e (headSpec wsX0_firstRowOfGreatestForce ({ frames := 0, cells := 0, slots := 0, locals := 0 })).room s m ([.ref x] : List Value).toArray below meth c s.heap [] 0 0 (MQ below (vp_Si (fun r => r = nI (pk F n))) ([.ref x] : List Value).toArray s 0 0 (fun _ => False)) (F0 m 4 ls []) := by
    intro f
    induction f with
    | zero => intro k ls hm h1 h2 hl; exact absurd hm (by omega)
    | succ f ih =>
      intro k ls hm h1 h2 hl
      have hpk := pkf_lt F h1
      refine lv_iload_n hx hb dX0_firstRowOfGreatestForce_4 rfl (lv_at hl 0 rfl) ?_
      refine lv_aload_n hx hb dX0_firstRowOfGreatestForce_5 rfl (lv_at hl 2 rfl) ?_
      refine va_get (D := (dC, dI)) (ci := 0) (v := .int (nI n)) (C := RX0) (T := TX0) (N := 16) hx hb hts hinX0 hown hK hP 0 rfl rfl 2 (by decide) f34 (fun _ h9 => h9) rfl dX0_firstRowOfGreatestForce_6 ?_
      refine lv_icmp_ge (tgt := 35) hx hb dX0_firstRowOfGreatestForce_9 (by decide) (fun c9 => ?_) (fun c9 => ?_)
      · -- taken at 9
        have c9 : n ≤ k := (nI_leI (a := n) (b := k) (by omega) (by omega)).mp c9
        refine lv_iload_n hx hb dX0_firstRowOfGreatestForce_35 rfl (lv_at hl 1 rfl) ?_
        exact W.iret (v := nI (pk F k)) hx hb hr (fun t ht hW => ⟨nI (pk F k), rfl, by rw [show n = k by omega], ht⟩) t_nil dX0_firstRowOfGreatestForce_36
      · -- not taken at 9
        have c9 : ¬ n ≤ k := fun q9 => c9 ((nI_leI (a := n) (b := k) (by omega) (by omega)).mpr q9)
        refine lv_aload_n hx hb dX0_firstRowOfGreatestForce_12 rfl (lv_at hl 2 rfl) ?_
        refine va_get (D := (dC, dI)) (ci := 0) (v := .ref a2) (C := RX0) (T := TX0) (N := 16) hx hb hts hinX0 hown hK hP 0 rfl rfl 1 (by decide) f13 (fun _ h9 => h9) rfl dX0_firstRowOfGreatestForce_13 ?_
        refine lv_iload_n hx hb dX0_firstRowOfGreatestForce_16 rfl (lv_at hl 0 rfl) ?_
        refine va_iald (D := (dC, dI)) hx hb hK hP 2 0 rfl rfl (vp_in_nI (show k < 40 by omega) (by decide)) dX0_firstRowOfGreatestForce_17 ?_
        refine W.eq (congrArg (fun z => F0 m 18 ls (.int z :: [])) (congrArg F (nI_clamp (show k < 2 ^ 31 by omega)))) ?_
        refine lv_aload_n hx hb dX0_firstRowOfGreatestForce_18 rfl (lv_at hl 2 rfl) ?_
        refine va_get (D := (dC, dI)) (ci := 0) (v := .ref a2) (C := RX0) (T := TX0) (N := 16) hx hb hts hinX0 hown hK hP 0 rfl rfl 1 (by decide) f13 (fun _ h9 => h9) rfl dX0_firstRowOfGreatestForce_19 ?_
        refine lv_iload_n hx hb dX0_firstRowOfGreatestForce_22 rfl (lv_at hl 1 rfl) ?_
        refine va_iald (D := (dC, dI)) hx hb hK hP 2 0 rfl rfl (vp_in_nI (show pk F k < 40 by omega) (by decide)) dX0_firstRowOfGreatestForce_23 ?_
        refine W.eq (congrArg (fun z => F0 m 24 ls (.int z :: [.int (F k)])) (congrArg F (nI_clamp (show pk F k < 2 ^ 31 by omega)))) ?_
        refine lv_icmp_le (tgt := 29) hx hb dX0_firstRowOfGreatestForce_24 (by decide) (fun c24 => ?_) (fun c24 => ?_)
        · -- taken at 24
          have c24 : (F k).toInt ≤ (F (pk F k)).toInt := (Int32.le_iff_toInt_le).mp c24
          refine lv_iinc (v := nI (k + 1)) (lv' := [(2, .int (nI (k + 1))), (1, .int (nI (pk F k))), (0, .ref x)]) hx hb dX0_firstRowOfGreatestForce_29 hl (k := 0) rfl ((nI_succ _).symm) (by decide) rfl (fun ls hl => ?_)
          refine lv_goto (tgt := 4) hx hb dX0_firstRowOfGreatestForce_32 (by decide) ?_
          exact ih (k + 1) ls (by omega) (by omega) (by omega) (by rw [pkf_f F k (by omega)]; exact (lv_sub hl [0, 1, 2] rfl))
        · -- not taken at 24
          have c24 : ¬ (F k).toInt ≤ (F (pk F k)).toInt := fun q9 => c24 ((Int32.le_iff_toInt_le).mpr q9)
          refine lv_iload_n hx hb dX0_firstRowOfGreatestForce_27 rfl (lv_at hl 0 rfl) ?_
          refine lv_istore_n (lv' := [(1, .int (nI k)), (2, .int (nI k)), (0, .ref x)]) hx hb dX0_firstRowOfGreatestForce_28 rfl hl (by decide) rfl (fun ls hl => ?_)
          refine lv_iinc (v := nI (k + 1)) (lv' := [(2, .int (nI (k + 1))), (1, .int (nI k)), (0, .ref x)]) hx hb dX0_firstRowOfGreatestForce_29 hl (k := 1) rfl ((nI_succ _).symm) (by decide) rfl (fun ls hl => ?_)
          refine lv_goto (tgt := 4) hx hb dX0_firstRowOfGreatestForce_32 (by decide) ?_
          exact ih (k + 1) ls (by omega) (by omega) (by omega) (by rw [pkf_t F k (by omega)]; exact (lv_sub hl [0, 1, 2] rfl))
  refine lv_iconst (v := 0) hx hb dX0_firstRowOfGreatestForce_0 (by decide) ?_
  refine W.eq (congrArg (fun z => F0 m 1 ls (.int z :: [])) (pkf_1 F)) ?_
  refine lv_istore_n (lv' := [(1, .int (nI (pk F 1))), (0, .ref x)]) hx hb dX0_firstRowOfGreatestForce_1 rfl hl (by decide) rfl (fun ls hl => ?_)
  refine lv_iconst (v := 1) hx hb dX0_firstRowOfGreatestForce_2 (by decide) ?_
  refine lv_istore_n (lv' := [(2, .int 1), (1, .int (nI (pk F 1))), (0, .ref x)]) hx hb dX0_firstRowOfGreatestForce_3 rfl hl (by decide) rfl (fun ls hl => ?_)
  exact L4 (n + 1) 1 ls (by omega) (by decide) (by omega) (lv_sub hl [0, 1, 2] rfl)
set_option maxHeartbeats 4000000 in
set_option maxRecDepth 100000 in
theorem c_X0_fallsBelowHalfBehind (l : Launch) (dC : Nat → ClassId) (dI : Nat → Nat → Nat) (x a1 a2 a3 a4 : Nat) (cI : ClassId) (S F X Y : Nat → Int32) (n : Nat) (ar sl : Int32) (mu ml : Int64) (ck : Int32) (ic : Nat) (ds js ps ss : Int64) (tc : Nat) (q : Nat) (hn : n ≤ 40) (hq : q < n) (hF : ∀ j, j < n → 0 ≤ (F j).toInt ∧ (F j).toInt ≤ 1000000) : Met l yX0_fallsBelowHalfBehind wsX0_fallsBelowHalfBehind ({ frames := 0, cells := 0, slots := 0, locals := 0 }) (va_Pc [.ref x, .int (nI q)] (fun U => va_P (dC, dI) vwCl (wX x a1 a2 a3 a4 cI S F X Y n ar sl mu ml ck ic ds js ps ss tc) U.heap ∧ va_K (dC, dI) vwCl [(cI, .int)] U)) (vp_Si (fun r => (r = 1 ∧ hfb F n q) ∨ (r = 0 ∧ ¬ hfb F n q))) 0 0 (fun _ => False) := by
  refine Met.ofW (cc := cX0_fallsBelowHalfBehind) (maxL := 3) (ret := (some .boolean)) (by decide) rfl ?_
  intro p e s m args below meth c s₁ B hml hv
  obtain ⟨rfl, hP, hK⟩ := hv
  have hx := B.exec
  have hb := B.bytes
  have hr := B.returns
  have hts := atoms_spec (ws := wsX0_fallsBelowHalfBehind) B.pre
  have hown : s.vm.findClass RX0 = some m.cls := findClass_of_methodNamed B.named
  have hlocks := B.notSynchronized
  have hinX0 : ∀ w ∈ wsX00, w ∈ wsX0_fallsBelowHalfBehind := fun w h => List.mem_cons_of_mem _ (inX0 w h)
  have f34 := hts _ (List.mem_cons_of_mem _ wl_X0_34)
  have f13 := hts _ (List.mem_cons_of_mem _ wl_X0_13)
  have hl := lv_entry ([.ref x, .int (nI q)]) (n := 3) (Nat.le_of_ble_eq_true rfl)
  rw [lg_entry_eq]
  generalize (lg_sl ([.ref x, .int (nI q)]) ++ List.replicate (3 - (lg_sl ([.ref x, .int (nI q)])).length) Slot.unset).toArray = ls at hl ⊢
  have hl : lv_has ls 3 [(0, .ref x), (1, .int (nI q))] := hl
  have L4 : ∀ (f : Nat) (k : Nat) (ls : Array Slot), n + 1 ≤ k + f → (q < k) → (k ≤ n) → (∀ j, q < j → j < k → ¬ (F j).toInt * 2 < (F q).toInt) → lv_has ls 3 [(2, .int (nI k)), (0, .ref x), (1, .int (nI q))] → W p l e (headSpec wsX0_fallsBelowHalfBehind ({ frames := 0, cells := 0, slots := 0, locals := 0 })).room s m ([.ref x, .int (nI q)] : List Value).toArray below meth c s.heap [] 0 0 (MQ below (vp_Si (fun r => (r = 1 ∧ hfb F n q) ∨ (r = 0 ∧ ¬ hfb F n q))) ([.ref x, .int (nI q)] : List Value).toArray s 0 0 (fun _ => False)) (F0 m 4 ls []) := by
    intro f
    induction f with
    | zero => intro k ls hm hk hk2 ha hl; exact absurd hm (by omega)
    | succ f ih =>
      intro k ls hm hk hk2 ha hl
      refine lv_iload_n hx hb dX0_fallsBelowHalfBehind_4 rfl (lv_at hl 0 rfl) ?_
      refine lv_aload_n hx hb dX0_fallsBelowHalfBehind_5 rfl (lv_at hl 1 rfl) ?_
      refine va_get (D := (dC, dI)) (ci := 0) (v := .int (nI n)) (C := RX0) (T := TX0) (N := 16) hx hb hts hinX0 hown hK hP 0 rfl rfl 2 (by decide) f34 (fun _ h9 => h9) rfl dX0_fallsBelowHalfBehind_6 ?_
      refine lv_icmp_ge (tgt := 37) hx hb dX0_fallsBelowHalfBehind_9 (by decide) (fun c9 => ?_) (fun c9 => ?_)
      · -- taken at 9
        have c9 : n ≤ k := (nI_leI (a := n) (b := k) (by omega) (by omega)).mp c9
        refine lv_iconst (v := 0) hx hb dX0_fallsBelowHalfBehind_37 (by decide) ?_
        exact W.zret (v := 0) hx hb hr rfl (fun t ht hW => ⟨0, rfl, Or.inr ⟨rfl, fun ⟨j, h1, h2, h3⟩ => ha j h1 (by omega) h3⟩, ht⟩) t_nil dX0_fallsBelowHalfBehind_38
      · -- not taken at 9
        have c9 : ¬ n ≤ k := fun q9 => c9 ((nI_leI (a := n) (b := k) (by omega) (by omega)).mpr q9)
        refine lv_aload_n hx hb dX0_fallsBelowHalfBehind_12 rfl (lv_at hl 1 rfl) ?_
        refine va_get (D := (dC, dI)) (ci := 0) (v := .ref a2) (C := RX0) (T := TX0) (N := 16) hx hb hts hinX0 hown hK hP 0 rfl rfl 1 (by decide) f13 (fun _ h9 => h9) rfl dX0_fallsBelowHalfBehind_13 ?_
        refine lv_iload_n hx hb dX0_fallsBelowHalfBehind_16 rfl (lv_at hl 0 rfl) ?_
        refine va_iald (D := (dC, dI)) hx hb hK hP 2 0 rfl rfl (vp_in_nI (show k < 40 by omega) (by decide)) dX0_fallsBelowHalfBehind_17 ?_
        refine W.eq (congrArg (fun z => F0 m 18 ls (.int z :: [])) (congrArg F (nI_clamp (show k < 2 ^ 31 by omega)))) ?_
        refine lv_iconst (v := 2) hx hb dX0_fallsBelowHalfBehind_18 (by decide) ?_
        refine lv_imul hx hb dX0_fallsBelowHalfBehind_19 ?_
        refine lv_aload_n hx hb dX0_fallsBelowHalfBehind_20 rfl (lv_at hl 1 rfl) ?_
        refine va_get (D := (dC, dI)) (ci := 0) (v := .ref a2) (C := RX0) (T := TX0) (N := 16) hx hb hts hinX0 hown hK hP 0 rfl rfl 1 (by decide) f13 (fun _ h9 => h9) rfl dX0_fallsBelowHalfBehind_21 ?_
        refine lv_iload_n hx hb dX0_fallsBelowHalfBehind_24 rfl (lv_at hl 2 rfl) ?_
        refine va_iald (D := (dC, dI)) hx hb hK hP 2 0 rfl rfl (vp_in_nI (show q < 40 by omega) (by decide)) dX0_fallsBelowHalfBehind_25 ?_
        refine W.eq (congrArg (fun z => F0 m 26 ls (.int z :: [.int ((F k) * 2)])) (congrArg F (nI_clamp (show q < 2 ^ 31 by omega)))) ?_
        refine lv_icmp_ge (tgt := 31) hx hb dX0_fallsBelowHalfBehind_26 (by decide) (fun c26 => ?_) (fun c26 => ?_)
        · -- taken at 26
          have c26 : (F q).toInt ≤ ((F k) * 2).toInt := (Int32.le_iff_toInt_le).mp c26
          refine lv_iinc (v := nI (k + 1)) (lv' := [(2, .int (nI (k + 1))), (0, .ref x), (1, .int (nI q))]) hx hb dX0_fallsBelowHalfBehind_31 hl (k := 0) rfl ((nI_succ _).symm) (by decide) rfl (fun ls hl => ?_)
          refine lv_goto (tgt := 4) hx hb dX0_fallsBelowHalfBehind_34 (by decide) ?_
          exact ih (k + 1) ls (by omega) (by omega) (by omega) (ext_q ha (by have e9 := i32_x2 (hF k (by omega)).1 (hF k (by omega)).2; omega)) (lv_sub hl [0, 1, 2] rfl)
        · -- not taken at 26
          have c26 : ¬ (F q).toInt ≤ ((F k) * 2).toInt := fun q9 => c26 ((Int32.le_iff_toInt_le).mpr q9)
          refine lv_iconst (v := 1) hx hb dX0_fallsBelowHalfBehind_29 (by decide) ?_
          exact W.zret (v := 1) hx hb hr rfl (fun t ht hW => ⟨1, rfl, Or.inl ⟨rfl, k, hk, by omega, by have e9 := i32_x2 (hF k (by omega)).1 (hF k (by omega)).2; omega⟩, ht⟩) t_nil dX0_fallsBelowHalfBehind_30
  refine lv_iload_n hx hb dX0_fallsBelowHalfBehind_0 rfl (lv_at hl 1 rfl) ?_
  refine lv_iconst (v := 1) hx hb dX0_fallsBelowHalfBehind_1 (by decide) ?_
  refine lv_iadd hx hb dX0_fallsBelowHalfBehind_2 ?_
  refine W.eq (congrArg (fun z => F0 m 3 ls (.int z :: [])) (nI_1 q)) ?_
  refine lv_istore_n (lv' := [(2, .int (nI (q + 1))), (0, .ref x), (1, .int (nI q))]) hx hb dX0_fallsBelowHalfBehind_3 rfl hl (by decide) rfl (fun ls hl => ?_)
  exact L4 (n + 1) (q + 1) ls (by omega) (by omega) (by omega) (fun j h1 h2 => absurd h2 (by omega)) (lv_sub hl [0, 1, 2] rfl)
set_option maxHeartbeats 4000000 in
set_option maxRecDepth 100000 in
theorem c_X0_firstTableRowFrom (l : Launch) (dC : Nat → ClassId) (dI : Nat → Nat → Nat) (x a1 a2 a3 a4 : Nat) (cI : ClassId) (S F X Y : Nat → Int32) (n : Nat) (ar sl : Int32) (mu ml : Int64) (ck : Int32) (ic : Nat) (ds js ps ss : Int64) (tc : Nat) (p1 : Int32) (ht : tc ≤ 8) : Met l yX0_firstTableRowFrom wsX0_firstTableRowFrom ({ frames := 0, cells := 0, slots := 0, locals := 0 }) (va_Pc [.ref x, .int p1] (fun U => va_P (dC, dI) vwCl (wX x a1 a2 a3 a4 cI S F X Y n ar sl mu ml ck ic ds js ps ss tc) U.heap ∧ va_K (dC, dI) vwCl [(cI, .int)] U)) (vp_Si (fun r => (∃ k, k < tc ∧ r = nI k ∧ (∀ j, j < k → (X j).toInt < p1.toInt) ∧ p1.toInt ≤ (X k).toInt) ∨ (r = -1 ∧ ∀ j, j < tc → (X j).toInt < p1.toInt))) 0 0 (fun _ => False) := by
  refine Met.ofW (cc := cX0_firstTableRowFrom) (maxL := 3) (ret := (some .int)) (by decide) rfl ?_
  intro p e s m args below meth c s₁ B hml hv
  obtain ⟨rfl, hP, hK⟩ := hv
  have hx := B.exec
  have hb := B.bytes
  have hr := B.returns
  have hts := atoms_spec (ws := wsX0_firstTableRowFrom) B.pre
  have hown : s.vm.findClass RX0 = some m.cls := findClass_of_methodNamed B.named
  have hlocks := B.notSynchronized
  have hinX0 : ∀ w ∈ wsX00, w ∈ wsX0_firstTableRowFrom := fun w h => List.mem_cons_of_mem _ (inX0 w h)
  have f135 := hts _ (List.mem_cons_of_mem _ wl_X0_135)
  have f16 := hts _ (List.mem_cons_of_mem _ wl_X0_16)
  have hl := lv_entry ([.ref x, .int p1]) (n := 3) (Nat.le_of_ble_eq_true rfl)
  rw [lg_entry_eq]
  generalize (lg_sl ([.ref x, .int p1]) ++ List.replicate (3 - (lg_sl ([.ref x, .int p1])).length) Slot.unset).toArray = ls at hl ⊢
  have hl : lv_has ls 3 [(0, .ref x), (1, .int p1)] := hl
  have L2 : ∀ (f : Nat) (k : Nat) (ls : Array Slot), tc + 1 ≤ k + f → (k ≤ tc) → (∀ j, j < k → (X j).toInt < p1.toInt) → lv_has ls 3 [(2, .int (nI k)), (0, .ref x), (1, .int p1)] → W p l e (headSpec wsX0_firstTableRowFrom ({ frames := 0, cells := 0, slots := 0, locals := 0 })).room s m ([.ref x, .int p1] : List Value).toArray below meth c s.heap [] 0 0 (MQ below (vp_Si (fun r => (∃ k, k < tc ∧ r = nI k ∧ (∀ j, j < k → (X j).toInt < p1.toInt) ∧ p1.toInt ≤ (X k).toInt) ∨ (r = -1 ∧ ∀ j, j < tc → (X j).toInt < p1.toInt))) ([.ref x, .int p1] : List Value).toArray s 0 0 (fun _ => False)) (F0 m 2 ls []) := by
    intro f
    induction f with
    | zero => intro k ls hm hk ha hl; exact absurd hm (by omega)
    | succ f ih =>
      intro k ls hm hk ha hl
      refine lv_iload_n hx hb dX0_firstTableRowFrom_2 rfl (lv_at hl 0 rfl) ?_
      refine lv_aload_n hx hb dX0_firstTableRowFrom_3 rfl (lv_at hl 1 rfl) ?_
      refine va_get (D := (dC, dI)) (ci := 0) (v := .int (nI tc)) (C := RX0) (T := TX0) (N := 16) hx hb hts hinX0 hown hK hP 0 rfl rfl 15 (by decide) f135 (fun _ h9 => h9) rfl dX0_firstTableRowFrom_4 ?_
      refine lv_icmp_ge (tgt := 28) hx hb dX0_firstTableRowFrom_7 (by decide) (fun c7 => ?_) (fun c7 => ?_)
      · -- taken at 7
        have c7 : tc ≤ k := (nI_leI (a := tc) (b := k) (by omega) (by omega)).mp c7
        refine lv_iconst (v := (-1)) hx hb dX0_firstTableRowFrom_28 (by decide) ?_
        exact W.iret (v := (-1)) hx hb hr (fun t ht hW => ⟨(-1), rfl, Or.inr ⟨rfl, fun j hj => ha j (by omega)⟩, ht⟩) t_nil dX0_firstTableRowFrom_29
      · -- not taken at 7
        have c7 : ¬ tc ≤ k := fun q9 => c7 ((nI_leI (a := tc) (b := k) (by omega) (by omega)).mpr q9)
        refine lv_aload_n hx hb dX0_firstTableRowFrom_10 rfl (lv_at hl 1 rfl) ?_
        refine va_get (D := (dC, dI)) (ci := 0) (v := .ref a3) (C := RX0) (T := TX0) (N := 16) hx hb hts hinX0 hown hK hP 0 rfl rfl 13 (by decide) f16 (fun _ h9 => h9) rfl dX0_firstTableRowFrom_11 ?_
        refine lv_iload_n hx hb dX0_firstTableRowFrom_14 rfl (lv_at hl 0 rfl) ?_
        refine va_iald (D := (dC, dI)) hx hb hK hP 3 0 rfl rfl (vp_in_nI (show k < 8 by omega) (by decide)) dX0_firstTableRowFrom_15 ?_
        refine W.eq (congrArg (fun z => F0 m 16 ls (.int z :: [])) (congrArg X (nI_clamp (show k < 2 ^ 31 by omega)))) ?_
        refine lv_iload_n hx hb dX0_firstTableRowFrom_16 rfl (lv_at hl 2 rfl) ?_
        refine lv_icmp_lt (tgt := 22) hx hb dX0_firstTableRowFrom_17 (by decide) (fun c17 => ?_) (fun c17 => ?_)
        · -- taken at 17
          have c17 : (X k).toInt < p1.toInt := (Int32.lt_iff_toInt_lt).mp c17
          refine lv_iinc (v := nI (k + 1)) (lv' := [(2, .int (nI (k + 1))), (0, .ref x), (1, .int p1)]) hx hb dX0_firstTableRowFrom_22 hl (k := 0) rfl ((nI_succ _).symm) (by decide) rfl (fun ls hl => ?_)
          refine lv_goto (tgt := 2) hx hb dX0_firstTableRowFrom_25 (by decide) ?_
          exact ih (k + 1) ls (by omega) (by omega) (lt_s ha c17) (lv_sub hl [0, 1, 2] rfl)
        · -- not taken at 17
          have c17 : ¬ (X k).toInt < p1.toInt := fun q9 => c17 ((Int32.lt_iff_toInt_lt).mpr q9)
          refine lv_iload_n hx hb dX0_firstTableRowFrom_20 rfl (lv_at hl 0 rfl) ?_
          exact W.iret (v := nI k) hx hb hr (fun t ht hW => ⟨nI k, rfl, Or.inl ⟨k, by omega, rfl, ha, by omega⟩, ht⟩) t_nil dX0_firstTableRowFrom_21
  refine lv_iconst (v := 0) hx hb dX0_firstTableRowFrom_0 (by decide) ?_
  refine lv_istore_n (lv' := [(2, .int 0), (0, .ref x), (1, .int p1)]) hx hb dX0_firstTableRowFrom_1 rfl hl (by decide) rfl (fun ls hl => ?_)
  exact L2 (tc + 1) 0 ls (by omega) (Nat.zero_le _) (fun j hj => absurd hj (Nat.not_lt_zero j)) (lv_sub hl [0, 1, 2] rfl)
end
section
set_option maxHeartbeats 4000000 in
set_option maxRecDepth 100000 in
theorem c_X0_greatestCommonDivisor (l : Launch) (y1 y2 : Int64) (a b : Nat) (h1 : y1.toInt = (a : Int)) (h2 : y2.toInt = (b : Int)) (hb41 : b ≤ 2 ^ 41) : Met l yX0_greatestCommonDivisor wsX0_greatestCommonDivisor ({ frames := 0, cells := 0, slots := 0, locals := 0 }) (va_Pc [.long y1, .long y2] (fun U => True)) (vp_Sl (fun r => r.toInt = (Nat.gcd a b : Int))) 0 0 (fun _ => False) := by
  refine Met.ofW (cc := cX0_greatestCommonDivisor) (maxL := 11) (ret := (some .long)) (by decide) rfl ?_
  intro p e s m args below meth c s₁ B hml hv
  obtain ⟨rfl, -⟩ := hv
  have hx := B.exec
  have hb := B.bytes
  have hr := B.returns
  have hts := atoms_spec (ws := wsX0_greatestCommonDivisor) B.pre
  have hown : s.vm.findClass RX0 = some m.cls := findClass_of_methodNamed B.named
  have hlocks := B.notSynchronized
  have hl := lv_entry ([.long y1, .long y2]) (n := 11) (Nat.le_of_ble_eq_true rfl)
  rw [lg_entry_eq]
  generalize (lg_sl ([.long y1, .long y2]) ++ List.replicate (11 - (lg_sl ([.long y1, .long y2])).length) Slot.unset).toArray = ls at hl ⊢
  have hl : lv_has ls 11 [(0, .long y1), (2, .long y2)] := hl
  have L9 : ∀ (f : Nat) (i : Nat) (u : Nat) (v : Nat) (g1 : Int64) (g2 : Int64) (ls : Array Slot), 101 ≤ i + f → (i ≤ 100) → (g1.toInt = (u : Int)) → (g2.toInt = (v : Int)) → (eu_inv a b i u v) → lv_has ls 11 [(8, .int (nI i)), (6, .long g2), (4, .long g1)] → W p l e (headSpec wsX0_greatestCommonDivisor ({ frames := 0, cells := 0, slots := 0, locals := 0 })).room s m ([.long y1, .long y2] : List Value).toArray below meth c s.heap [] 0 0 (MQ below (vp_Sl (fun r => r.toInt = (Nat.gcd a b : Int))) ([.long y1, .long y2] : List Value).toArray s 0 0 (fun _ => False)) (F0 m 9 ls []) := by
    intro f
    induction f with
    | zero => intro i u v g1 g2 ls hm hi hu hv he hl; exact absurd hm (by omega)
    | succ f ih =>
      intro i u v g1 g2 ls hm hi hu hv he hl
      refine lv_iload hx hb dX0_greatestCommonDivisor_9 (lv_at hl 0 rfl) ?_
      refine lv_bipush (v := 100) hx hb dX0_greatestCommonDivisor_11 (by decide) ?_
      refine lv_icmp_ge (tgt := 44) hx hb dX0_greatestCommonDivisor_13 (by decide) (fun c13 => ?_) (fun c13 => ?_)
      · -- taken at 13
        have c13 : 100 ≤ i := (nI_leI (a := 100) (b := i) (by omega) (by omega)).mp c13
        refine lv_lload hx hb dX0_greatestCommonDivisor_44 (lv_at hl 2 rfl) ?_
        exact W.lret (v := g1) hx hb hr (fun t ht hW => ⟨g1, rfl, eu_out he hu (by first | exact eu_end (show i = 100 by omega) he | omega), ht⟩) t_nil dX0_greatestCommonDivisor_46
      · -- not taken at 13
        have c13 : ¬ 100 ≤ i := fun q9 => c13 ((nI_leI (a := 100) (b := i) (by omega) (by omega)).mpr q9)
        refine lv_lload hx hb dX0_greatestCommonDivisor_16 (lv_at hl 1 rfl) ?_
        refine lv_lconst (v := 0) hx hb dX0_greatestCommonDivisor_18 (by decide) ?_
        refine W.lcmp hx hb dX0_greatestCommonDivisor_19 ?_
        refine lv_if_eq (tgt := 44) hx hb dX0_greatestCommonDivisor_20 (by decide) (fun c20 => ?_) (fun c20 => ?_)
        · -- taken at 20
          have c20 := (lg_cmp_eq _ _).mp c20
          have c20 : g2.toInt = 0 := (Int64.toInt_inj.symm).mp c20
          refine lv_lload hx hb dX0_greatestCommonDivisor_44 (lv_at hl 2 rfl) ?_
          exact W.lret (v := g1) hx hb hr (fun t ht hW => ⟨g1, rfl, eu_out he hu (by first | exact eu_end (show i = 100 by omega) he | omega), ht⟩) t_nil dX0_greatestCommonDivisor_46
        · -- not taken at 20
          have c20 := fun q9 => c20 ((lg_cmp_eq _ _).mpr q9)
          have c20 : ¬ g2.toInt = 0 := fun q9 => c20 ((Int64.toInt_inj.symm).mpr q9)
          refine lv_lload hx hb dX0_greatestCommonDivisor_23 (lv_at hl 2 rfl) ?_
          refine lv_lload hx hb dX0_greatestCommonDivisor_25 (lv_at hl 1 rfl) ?_
          refine lv_lrem hx hb dX0_greatestCommonDivisor_27 (fun q => c20 (by rw [q]; rfl)) ?_
          refine lv_lstore (lv' := [(9, .long (g1 - g1 / g2 * g2)), (8, .int (nI i)), (6, .long g2), (4, .long g1)]) hx hb dX0_greatestCommonDivisor_28 hl (by decide) rfl (fun ls hl => ?_)
          refine lv_lload hx hb dX0_greatestCommonDivisor_30 (lv_at hl 2 rfl) ?_
          refine lv_lstore (lv' := [(4, .long g2), (9, .long (g1 - g1 / g2 * g2)), (8, .int (nI i)), (6, .long g2)]) hx hb dX0_greatestCommonDivisor_32 hl (by decide) rfl (fun ls hl => ?_)
          refine lv_lload hx hb dX0_greatestCommonDivisor_34 (lv_at hl 1 rfl) ?_
          refine lv_lstore (lv' := [(6, .long (g1 - g1 / g2 * g2)), (4, .long g2), (9, .long (g1 - g1 / g2 * g2)), (8, .int (nI i))]) hx hb dX0_greatestCommonDivisor_36 hl (by decide) rfl (fun ls hl => ?_)
          refine lv_iinc (v := nI (i + 1)) (lv' := [(8, .int (nI (i + 1))), (6, .long (g1 - g1 / g2 * g2)), (4, .long g2), (9, .long (g1 - g1 / g2 * g2))]) hx hb dX0_greatestCommonDivisor_38 hl (k := 3) rfl ((nI_succ _).symm) (by decide) rfl (fun ls hl => ?_)
          refine lv_goto (tgt := 9) hx hb dX0_greatestCommonDivisor_41 (by decide) ?_
          exact ih (i + 1) v (u % v) g2 (g1 - g1 / g2 * g2) ls (by omega) (by omega) hv (eu_rem hu hv) (eu_next he (by omega)) (lv_sub hl [0, 1, 2] rfl)
  refine lv_lload_n hx hb dX0_greatestCommonDivisor_0 rfl (lv_at hl 0 rfl) ?_
  refine lv_lstore (lv' := [(4, .long y1), (0, .long y1), (2, .long y2)]) hx hb dX0_greatestCommonDivisor_1 hl (by decide) rfl (fun ls hl => ?_)
  refine lv_lload_n hx hb dX0_greatestCommonDivisor_3 rfl (lv_at hl 2 rfl) ?_
  refine lv_lstore (lv' := [(6, .long y2), (4, .long y1), (0, .long y1), (2, .long y2)]) hx hb dX0_greatestCommonDivisor_4 hl (by decide) rfl (fun ls hl => ?_)
  refine lv_iconst (v := 0) hx hb dX0_greatestCommonDivisor_6 (by decide) ?_
  refine lv_istore (lv' := [(8, .int 0), (6, .long y2), (4, .long y1), (0, .long y1), (2, .long y2)]) hx hb dX0_greatestCommonDivisor_7 hl (by decide) rfl (fun ls hl => ?_)
  exact L9 101 0 a b y1 y2 ls (by omega) (by decide) h1 h2 (eu_0 hb41) (lv_sub hl [0, 1, 2] rfl)
set_option maxHeartbeats 4000000 in
set_option maxRecDepth 100000 in
theorem c_X0_partInLowestTerms (l : Launch) (y1 y2 : Int64) (p3 : Int32) (h1 : y1.toInt ≠ -2 ^ 63) (h2 : 0 < y2.toInt) (h3 : y2.toInt ≤ 2 ^ 41) : Met l yX0_partInLowestTerms wsX0_partInLowestTerms ({ frames := 1, cells := 0, slots := 0, locals := 30 }) (va_Pc [.long y1, .long y2, .int p3] (fun U => True)) (vp_Sl (fun r => r.toInt = fr y1.toInt y2.toInt p3.toInt)) 0 0 (fun _ => False) := by
  refine Met.ofW (cc := cX0_partInLowestTerms) (maxL := 9) (ret := (some .long)) (by decide) rfl ?_
  intro p e s m args below meth c s₁ B hml hv
  obtain ⟨rfl, -⟩ := hv
  have hx := B.exec
  have hb := B.bytes
  have hr := B.returns
  have hts := atoms_spec (ws := wsX0_partInLowestTerms) B.pre
  have hown : s.vm.findClass RX0 = some m.cls := findClass_of_methodNamed B.named
  have hlocks := B.notSynchronized
  have k188 := hts _ (List.mem_cons_of_mem _ wl_X0_188)
  have kst188 := hts _ (List.mem_cons_of_mem _ w_slab)
  have kinM := hts _ (List.mem_cons_of_mem _ wi_J)
  have kcode188 := hts _ (List.mem_cons_of_mem _ w_clab)
  have hl := lv_entry ([.long y1, .long y2, .int p3]) (n := 9) (Nat.le_of_ble_eq_true rfl)
  rw [lg_entry_eq]
  generalize (lg_sl ([.long y1, .long y2, .int p3]) ++ List.replicate (9 - (lg_sl ([.long y1, .long y2, .int p3])).length) Slot.unset).toArray = ls at hl ⊢
  have hl : lv_has ls 9 [(0, .long y1), (2, .long y2), (4, .int p3)] := hl
  refine lv_iload hx hb dX0_partInLowestTerms_0 (lv_at hl 2 rfl) ?_
  refine lv_if_ne (tgt := 9) hx hb dX0_partInLowestTerms_2 (by decide) (fun c2 => ?_) (fun c2 => ?_)
  · -- taken at 2
    have c2 : ¬ p3.toInt = 0 := fun q9 => c2 ((Int32.toInt_inj.symm).mpr q9)
    refine lv_lload_n hx hb dX0_partInLowestTerms_9 rfl (lv_at hl 1 rfl) ?_
    refine lv_lstore (lv' := [(5, .long y2), (0, .long y1), (2, .long y2), (4, .int p3)]) hx hb dX0_partInLowestTerms_10 hl (by decide) rfl (fun ls hl => ?_)
    refine lv_lload_n hx hb dX0_partInLowestTerms_12 rfl (lv_at hl 1 rfl) ?_
    refine va_mabs_long hx hb (by rw [hml]; exact hl.1.symm) hown k188 kst188 kinM kcode188 (Nat.le_of_ble_eq_true rfl) (Nat.le_of_ble_eq_true rfl) (Nat.le_of_ble_eq_true rfl) (Nat.le_of_ble_eq_true rfl) dX0_partInLowestTerms_13 ?_
    refine lv_lload_n hx hb dX0_partInLowestTerms_16 rfl (lv_at hl 2 rfl) ?_
    refine vp_callSl (W.runS (As := [.long (if 0 < y1 then y1 else -y1), .long y2]) (rest := []) ⟨hx, hb, hml, hown, hts⟩ (c_X0_greatestCommonDivisor l (if 0 < y1 then y1 else -y1) y2 y1.toInt.natAbs y2.toInt.natAbs (pit_abs h1) (pit_pos h2) (pit_41 h2 h3)) (va_cwS 2 hts (gS wl_X0_191 ws_X0_greatestCommonDivisor wi_X0 wc_X0_greatestCommonDivisor) rfl rfl rfl (by decide +kernel) ⟨Nat.le_of_ble_eq_true rfl, Nat.le_of_ble_eq_true rfl⟩) ⟨fun _ _ _ _ q => q, fun U hU hW => ⟨rfl, trivial⟩⟩ rfl rfl hl.1 rfl (lv_room (Nat.le_of_ble_eq_true rfl)) dX0_partInLowestTerms_17 ⟨Nat.le_of_ble_eq_true rfl, Nat.le_of_ble_eq_true rfl⟩) (fun r17 h17 => ?_)
    refine lv_lstore (lv' := [(7, .long r17), (5, .long y2), (0, .long y1), (2, .long y2), (4, .int p3)]) hx hb dX0_partInLowestTerms_20 hl (by decide) rfl (fun ls hl => ?_)
    refine lv_lload hx hb dX0_partInLowestTerms_22 (lv_at hl 0 rfl) ?_
    refine lv_lconst (v := 1) hx hb dX0_partInLowestTerms_24 (by decide) ?_
    refine W.lcmp hx hb dX0_partInLowestTerms_25 ?_
    refine lv_if_le (tgt := 37) hx hb dX0_partInLowestTerms_26 (by decide) (fun c26 => ?_) (fun c26 => ?_)
    · -- taken at 26
      have c26 := (lg_cmp_le _ _).mp c26
      have c26 : r17.toInt ≤ 1 := (Int64.le_iff_toInt_le).mp c26
      refine lv_lload hx hb dX0_partInLowestTerms_37 (lv_at hl 1 rfl) ?_
      exact W.lret (v := y2) hx hb hr (fun t ht hW => ⟨y2, rfl, pit_lk h1 h2 c2 h17 c26, ht⟩) t_nil dX0_partInLowestTerms_39
    · -- not taken at 26
      have c26 := fun q9 => c26 ((lg_cmp_le _ _).mpr q9)
      have c26 : ¬ r17.toInt ≤ 1 := fun q9 => c26 ((Int64.le_iff_toInt_le).mpr q9)
      refine lv_lload hx hb dX0_partInLowestTerms_29 (lv_at hl 1 rfl) ?_
      refine lv_lload hx hb dX0_partInLowestTerms_31 (lv_at hl 0 rfl) ?_
      refine lv_ldiv hx hb dX0_partInLowestTerms_33 (fun q => c26 (by rw [q]; decide)) ?_
      refine lv_goto (tgt := 39) hx hb dX0_partInLowestTerms_34 (by decide) ?_
      exact W.lret (v := y2 / r17) hx hb hr (fun t ht hW => ⟨y2 / r17, rfl, pit_ld h1 h2 c2 h17 c26, ht⟩) t_nil dX0_partInLowestTerms_39
  · -- not taken at 2
    have c2 : p3.toInt = 0 := (Int32.toInt_inj.symm).mp c2
    refine lv_lload_n hx hb dX0_partInLowestTerms_5 rfl (lv_at hl 0 rfl) ?_
    refine lv_goto (tgt := 10) hx hb dX0_partInLowestTerms_6 (by decide) ?_
    refine lv_lstore (lv' := [(5, .long y1), (0, .long y1), (2, .long y2), (4, .int p3)]) hx hb dX0_partInLowestTerms_10 hl (by decide) rfl (fun ls hl => ?_)
    refine lv_lload_n hx hb dX0_partInLowestTerms_12 rfl (lv_at hl 1 rfl) ?_
    refine va_mabs_long hx hb (by rw [hml]; exact hl.1.symm) hown k188 kst188 kinM kcode188 (Nat.le_of_ble_eq_true rfl) (Nat.le_of_ble_eq_true rfl) (Nat.le_of_ble_eq_true rfl) (Nat.le_of_ble_eq_true rfl) dX0_partInLowestTerms_13 ?_
    refine lv_lload_n hx hb dX0_partInLowestTerms_16 rfl (lv_at hl 2 rfl) ?_
    refine vp_callSl (W.runS (As := [.long (if 0 < y1 then y1 else -y1), .long y2]) (rest := []) ⟨hx, hb, hml, hown, hts⟩ (c_X0_greatestCommonDivisor l (if 0 < y1 then y1 else -y1) y2 y1.toInt.natAbs y2.toInt.natAbs (pit_abs h1) (pit_pos h2) (pit_41 h2 h3)) (va_cwS 2 hts (gS wl_X0_191 ws_X0_greatestCommonDivisor wi_X0 wc_X0_greatestCommonDivisor) rfl rfl rfl (by decide +kernel) ⟨Nat.le_of_ble_eq_true rfl, Nat.le_of_ble_eq_true rfl⟩) ⟨fun _ _ _ _ q => q, fun U hU hW => ⟨rfl, trivial⟩⟩ rfl rfl hl.1 rfl (lv_room (Nat.le_of_ble_eq_true rfl)) dX0_partInLowestTerms_17 ⟨Nat.le_of_ble_eq_true rfl, Nat.le_of_ble_eq_true rfl⟩) (fun r17 h17 => ?_)
    refine lv_lstore (lv' := [(7, .long r17), (5, .long y1), (0, .long y1), (2, .long y2), (4, .int p3)]) hx hb dX0_partInLowestTerms_20 hl (by decide) rfl (fun ls hl => ?_)
    refine lv_lload hx hb dX0_partInLowestTerms_22 (lv_at hl 0 rfl) ?_
    refine lv_lconst (v := 1) hx hb dX0_partInLowestTerms_24 (by decide) ?_
    refine W.lcmp hx hb dX0_partInLowestTerms_25 ?_
    refine lv_if_le (tgt := 37) hx hb dX0_partInLowestTerms_26 (by decide) (fun c26 => ?_) (fun c26 => ?_)
    · -- taken at 26
      have c26 := (lg_cmp_le _ _).mp c26
      have c26 : r17.toInt ≤ 1 := (Int64.le_iff_toInt_le).mp c26
      refine lv_lload hx hb dX0_partInLowestTerms_37 (lv_at hl 1 rfl) ?_
      exact W.lret (v := y1) hx hb hr (fun t ht hW => ⟨y1, rfl, pit_uk h1 h2 c2 h17 c26, ht⟩) t_nil dX0_partInLowestTerms_39
    · -- not taken at 26
      have c26 := fun q9 => c26 ((lg_cmp_le _ _).mpr q9)
      have c26 : ¬ r17.toInt ≤ 1 := fun q9 => c26 ((Int64.le_iff_toInt_le).mpr q9)
      refine lv_lload hx hb dX0_partInLowestTerms_29 (lv_at hl 1 rfl) ?_
      refine lv_lload hx hb dX0_partInLowestTerms_31 (lv_at hl 0 rfl) ?_
      refine lv_ldiv hx hb dX0_partInLowestTerms_33 (fun q => c26 (by rw [q]; decide)) ?_
      refine lv_goto (tgt := 39) hx hb dX0_partInLowestTerms_34 (by decide) ?_
      exact W.lret (v := y1 / r17) hx hb hr (fun t ht hW => ⟨y1 / r17, rfl, pit_ud h1 h2 c2 h17 c26, ht⟩) t_nil dX0_partInLowestTerms_39
set_option maxHeartbeats 4000000 in
set_option maxRecDepth 100000 in
theorem c_J_floorDiv (l : Launch) (y1 y2 : Int64) (h1 : -1000000000000 ≤ y1.toInt) (h2 : y1.toInt ≤ 1000000000000) (h3 : 1 ≤ y2.toInt) (h4 : y2.toInt ≤ 1000000000000) : Met l yJ_floorDiv wsJ_floorDiv ({ frames := 0, cells := 0, slots := 0, locals := 0 }) (va_Pc [.long y1, .long y2] (fun U => True)) (vp_Sl (fun r => r.toInt = y1.toInt / y2.toInt)) 0 0 (fun _ => False) := by
  refine va_MetF (cc := cJ_floorDiv) (maxL := 6) (ret := (some .long)) (by decide +kernel) rfl ?_
  intro p e s m args below meth c s₁ B hml hv
  obtain ⟨rfl, -⟩ := hv
  have hx := B.exec
  have hb := B.bytes
  have hr := B.returns
  have hts := atoms_spec (ws := wsJ_floorDiv) B.pre
  have hown : s.vm.findClass RJ = some m.cls := findClass_of_methodNamed B.named
  have hlocks := B.notSynchronized
  have hl := lv_entry ([.long y1, .long y2]) (n := 6) (Nat.le_of_ble_eq_true rfl)
  rw [lg_entry_eq]
  generalize (lg_sl ([.long y1, .long y2]) ++ List.replicate (6 - (lg_sl ([.long y1, .long y2])).length) Slot.unset).toArray = ls at hl ⊢
  have hl : lv_has ls 6 [(0, .long y1), (2, .long y2)] := hl
  refine lv_lload_n hx hb dJ_floorDiv_0 rfl (lv_at hl 0 rfl) ?_
  refine lv_lload_n hx hb dJ_floorDiv_1 rfl (lv_at hl 1 rfl) ?_
  refine lv_ldiv hx hb dJ_floorDiv_2 (fun q => by rw [q] at h3; exact absurd h3 (by decide)) ?_
  obtain ⟨e1, e2, e3, e4, e5, e6⟩ := fl_d h1 h2 h3 h4
  have e7 := fl_t (U := y1.toInt) h3
  have e8 := fl_k (U := y1.toInt) h3
  have e9 := xor_neg (x := y1) (y := y2) (by omega)
  refine lv_lstore (lv' := [(4, .long (y1 / y2)), (0, .long y1), (2, .long y2)]) hx hb dJ_floorDiv_3 hl (by decide) rfl (fun ls hl => ?_)
  refine lv_lload_n hx hb dJ_floorDiv_5 rfl (lv_at hl 1 rfl) ?_
  refine lv_lload_n hx hb dJ_floorDiv_6 rfl (lv_at hl 2 rfl) ?_
  refine lv_lxor hx hb dJ_floorDiv_7 ?_
  refine lv_lconst (v := 0) hx hb dJ_floorDiv_8 (by decide) ?_
  refine W.lcmp hx hb dJ_floorDiv_9 ?_
  refine lv_if_ge (tgt := 27) hx hb dJ_floorDiv_10 (by decide) (fun c10 => ?_) (fun c10 => ?_)
  · -- taken at 10
    have c10 := (lg_cmp_ge _ _).mp c10
    have c10 : 0 ≤ (y1 ^^^ y2).toInt := (Int64.le_iff_toInt_le).mp c10
    refine lv_lload hx hb dJ_floorDiv_27 (lv_at hl 0 rfl) ?_
    exact W.lret (v := y1 / y2) hx hb hr (fun t ht hW => ⟨y1 / y2, rfl, by omega, ht⟩) t_nil dJ_floorDiv_29
  · -- not taken at 10
    have c10 := fun q9 => c10 ((lg_cmp_ge _ _).mpr q9)
    have c10 : ¬ 0 ≤ (y1 ^^^ y2).toInt := fun q9 => c10 ((Int64.le_iff_toInt_le).mpr q9)
    refine lv_lload hx hb dJ_floorDiv_13 (lv_at hl 0 rfl) ?_
    refine lv_lload_n hx hb dJ_floorDiv_15 rfl (lv_at hl 2 rfl) ?_
    refine lv_lmul hx hb dJ_floorDiv_16 ?_
    refine lv_lload_n hx hb dJ_floorDiv_17 rfl (lv_at hl 1 rfl) ?_
    refine W.lcmp hx hb dJ_floorDiv_18 ?_
    refine lv_if_eq (tgt := 27) hx hb dJ_floorDiv_19 (by decide) (fun c19 => ?_) (fun c19 => ?_)
    · -- taken at 19
      have c19 := (lg_cmp_eq _ _).mp c19
      have c19 : ((y1 / y2) * y2).toInt = y1.toInt := (Int64.toInt_inj.symm).mp c19
      refine lv_lload hx hb dJ_floorDiv_27 (lv_at hl 0 rfl) ?_
      exact W.lret (v := y1 / y2) hx hb hr (fun t ht hW => ⟨y1 / y2, rfl, by omega, ht⟩) t_nil dJ_floorDiv_29
    · -- not taken at 19
      have c19 := fun q9 => c19 ((lg_cmp_eq _ _).mpr q9)
      have c19 : ¬ ((y1 / y2) * y2).toInt = y1.toInt := fun q9 => c19 ((Int64.toInt_inj.symm).mpr q9)
      refine lv_lload hx hb dJ_floorDiv_22 (lv_at hl 0 rfl) ?_
      refine lv_lconst (v := 1) hx hb dJ_floorDiv_24 (by decide) ?_
      refine lv_lsub hx hb dJ_floorDiv_25 ?_
      exact W.lret (v := (y1 / y2) - 1) hx hb hr (fun t ht hW => ⟨(y1 / y2) - 1, rfl, by omega, ht⟩) t_nil dJ_floorDiv_26
set_option maxHeartbeats 4000000 in
set_option maxRecDepth 100000 in
theorem c_X0_roundedByRule (l : Launch) (y1 y2 : Int64) (p3 : Int32) (h1 : -1000000000000 ≤ y1.toInt) (h2 : y1.toInt ≤ 1000000000000) (h3 : 1 ≤ y2.toInt) (h4 : y2.toInt ≤ 1000000000000) : Met l yX0_roundedByRule wsX0_roundedByRule ({ frames := 1, cells := 0, slots := 0, locals := 30 }) (va_Pc [.long y1, .long y2, .int p3] (fun U => True)) (vp_Sl (fun r => r.toInt = rnd y1.toInt y2.toInt p3.toInt)) 0 0 (fun _ => False) := by
  refine Met.ofW (cc := cX0_roundedByRule) (maxL := 11) (ret := (some .long)) (by decide) rfl ?_
  intro p e s m args below meth c s₁ B hml hv
  obtain ⟨rfl, -⟩ := hv
  have hx := B.exec
  have hb := B.bytes
  have hr := B.returns
  have hts := atoms_spec (ws := wsX0_roundedByRule) B.pre
  have hown : s.vm.findClass RX0 = some m.cls := findClass_of_methodNamed B.named
  have hlocks := B.notSynchronized
  have k186 := hts _ (List.mem_cons_of_mem _ wl_X0_186)
  have hl := lv_entry ([.long y1, .long y2, .int p3]) (n := 11) (Nat.le_of_ble_eq_true rfl)
  rw [lg_entry_eq]
  generalize (lg_sl ([.long y1, .long y2, .int p3]) ++ List.replicate (11 - (lg_sl ([.long y1, .long y2, .int p3])).length) Slot.unset).toArray = ls at hl ⊢
  have hl : lv_has ls 11 [(0, .long y1), (2, .long y2), (4, .int p3)] := hl
  refine lv_lload_n hx hb dX0_roundedByRule_0 rfl (lv_at hl 1 rfl) ?_
  refine lv_lconst (v := 1) hx hb dX0_roundedByRule_1 (by decide) ?_
  refine W.lcmp hx hb dX0_roundedByRule_2 ?_
  refine lv_if_ge (tgt := 8) hx hb dX0_roundedByRule_3 (by decide) (fun c3 => ?_) (fun c3 => ?_)
  · -- taken at 3
    have c3 := (lg_cmp_ge _ _).mp c3
    have c3 : 1 ≤ y2.toInt := (Int64.le_iff_toInt_le).mp c3
    refine lv_lload_n hx hb dX0_roundedByRule_8 rfl (lv_at hl 0 rfl) ?_
    refine lv_lload_n hx hb dX0_roundedByRule_9 rfl (lv_at hl 1 rfl) ?_
    refine vp_callSl (W.runS (As := [.long y1, .long y2]) (rest := []) ⟨hx, hb, hml, hown, hts⟩ (c_J_floorDiv l y1 y2 h1 h2 h3 h4) (va_cwS 2 hts (gS wl_X0_182 ws_J_floorDiv wi_J wc_J_floorDiv) rfl rfl rfl (by decide +kernel) ⟨Nat.le_of_ble_eq_true rfl, Nat.le_of_ble_eq_true rfl⟩) ⟨fun _ _ _ _ q => q, fun U hU hW => ⟨rfl, trivial⟩⟩ rfl rfl hl.1 rfl (lv_room (Nat.le_of_ble_eq_true rfl)) dX0_roundedByRule_10 ⟨Nat.le_of_ble_eq_true rfl, Nat.le_of_ble_eq_true rfl⟩) (fun r10 h10 => ?_)
    refine lv_lstore (lv' := [(5, .long r10), (0, .long y1), (2, .long y2), (4, .int p3)]) hx hb dX0_roundedByRule_13 hl (by decide) rfl (fun ls hl => ?_)
    refine lv_ldc2 (v := 2) hx hb hown k186 dX0_roundedByRule_15 ?_
    refine lv_lload_n hx hb dX0_roundedByRule_18 rfl (lv_at hl 1 rfl) ?_
    refine lv_lload hx hb dX0_roundedByRule_19 (lv_at hl 0 rfl) ?_
    refine lv_lload_n hx hb dX0_roundedByRule_21 rfl (lv_at hl 2 rfl) ?_
    refine lv_lmul hx hb dX0_roundedByRule_22 ?_
    refine lv_lsub hx hb dX0_roundedByRule_23 ?_
    refine lv_lmul hx hb dX0_roundedByRule_24 ?_
    refine lv_lstore (lv' := [(7, .long (2 * (y1 - (r10 * y2)))), (5, .long r10), (0, .long y1), (2, .long y2), (4, .int p3)]) hx hb dX0_roundedByRule_25 hl (by decide) rfl (fun ls hl => ?_)
    obtain ⟨e1, e2, e3⟩ := rbr_tw h1 h2 h3 h4 h10
    obtain ⟨e4, e5⟩ := rbr_up h1 h2 h3 h10
    refine lv_iload hx hb dX0_roundedByRule_27 (lv_at hl 4 rfl) ?_
    refine lv_iconst (v := 2) hx hb dX0_roundedByRule_29 (by decide) ?_
    refine lv_icmp_eq (tgt := 40) hx hb dX0_roundedByRule_30 (by decide) (fun c30 => ?_) (fun c30 => ?_)
    · -- taken at 30
      have c30 : p3.toInt = 2 := (Int32.toInt_inj.symm).mp c30
      refine lv_lload hx hb dX0_roundedByRule_40 (lv_at hl 1 rfl) ?_
      exact W.lret (v := r10) hx hb hr (fun t ht hW => ⟨r10, rfl, by rw [rnd_1 (by omega)]; exact h10, ht⟩) t_nil dX0_roundedByRule_42
    · -- not taken at 30
      have c30 : ¬ p3.toInt = 2 := fun q9 => c30 ((Int32.toInt_inj.symm).mpr q9)
      refine lv_lload hx hb dX0_roundedByRule_33 (lv_at hl 0 rfl) ?_
      refine lv_lload_n hx hb dX0_roundedByRule_35 rfl (lv_at hl 3 rfl) ?_
      refine W.lcmp hx hb dX0_roundedByRule_36 ?_
      refine lv_if_ge (tgt := 43) hx hb dX0_roundedByRule_37 (by decide) (fun c37 => ?_) (fun c37 => ?_)
      · -- taken at 37
        have c37 := (lg_cmp_ge _ _).mp c37
        have c37 : y2.toInt ≤ (2 * (y1 - (r10 * y2))).toInt := (Int64.le_iff_toInt_le).mp c37
        refine lv_lload hx hb dX0_roundedByRule_43 (lv_at hl 0 rfl) ?_
        refine lv_lload_n hx hb dX0_roundedByRule_45 rfl (lv_at hl 3 rfl) ?_
        refine W.lcmp hx hb dX0_roundedByRule_46 ?_
        refine lv_if_ne (tgt := 54) hx hb dX0_roundedByRule_47 (by decide) (fun c47 => ?_) (fun c47 => ?_)
        · -- taken at 47
          have c47 := fun q9 => c47 ((lg_cmp_eq _ _).mpr q9)
          have c47 : ¬ (2 * (y1 - (r10 * y2))).toInt = y2.toInt := fun q9 => c47 ((Int64.toInt_inj.symm).mpr q9)
          refine lv_iconst (v := 0) hx hb dX0_roundedByRule_54 (by decide) ?_
          refine lv_istore (lv' := [(9, .int 0), (7, .long (2 * (y1 - (r10 * y2)))), (5, .long r10), (0, .long y1), (2, .long y2), (4, .int p3)]) hx hb dX0_roundedByRule_55 hl (by decide) rfl (fun ls hl => ?_)
          refine lv_lload hx hb dX0_roundedByRule_57 (lv_at hl 2 rfl) ?_
          refine lv_lconst (v := 1) hx hb dX0_roundedByRule_59 (by decide) ?_
          refine lv_land hx hb dX0_roundedByRule_60 ?_
          refine lv_lconst (v := 0) hx hb dX0_roundedByRule_61 (by decide) ?_
          refine W.lcmp hx hb dX0_roundedByRule_62 ?_
          refine lv_if_ne (tgt := 70) hx hb dX0_roundedByRule_63 (by decide) (fun c63 => ?_) (fun c63 => ?_)
          · -- taken at 63
            have c63 := fun q9 => c63 ((lg_cmp_eq _ _).mpr q9)
            have c63 : ¬ (r10 &&& 1).toInt = 0 := fun q9 => c63 ((Int64.toInt_inj.symm).mpr q9)
            refine lv_iconst (v := 0) hx hb dX0_roundedByRule_70 (by decide) ?_
            refine lv_istore (lv' := [(10, .int 0), (9, .int 0), (7, .long (2 * (y1 - (r10 * y2)))), (5, .long r10), (0, .long y1), (2, .long y2), (4, .int p3)]) hx hb dX0_roundedByRule_71 hl (by decide) rfl (fun ls hl => ?_)
            refine lv_iload hx hb dX0_roundedByRule_73 (lv_at hl 1 rfl) ?_
            refine lv_if_eq (tgt := 94) hx hb dX0_roundedByRule_75 (by decide) (fun c75 => ?_) (fun c75 => ?_)
            · -- taken at 75
              refine lv_lload hx hb dX0_roundedByRule_94 (lv_at hl 3 rfl) ?_
              refine lv_lconst (v := 1) hx hb dX0_roundedByRule_96 (by decide) ?_
              refine lv_ladd hx hb dX0_roundedByRule_97 ?_
              exact W.lret (v := r10 + 1) hx hb hr (fun t ht hW => ⟨r10 + 1, rfl, by rw [rnd_3 (by omega) (by omega)]; exact e4, ht⟩) t_nil dX0_roundedByRule_98
            · -- not taken at 75
              exact absurd c75 (by decide)
          · -- not taken at 63
            have c63 := (lg_cmp_eq _ _).mp c63
            have c63 : (r10 &&& 1).toInt = 0 := (Int64.toInt_inj.symm).mp c63
            refine lv_iconst (v := 1) hx hb dX0_roundedByRule_66 (by decide) ?_
            refine lv_goto (tgt := 71) hx hb dX0_roundedByRule_67 (by decide) ?_
            refine lv_istore (lv' := [(10, .int 1), (9, .int 0), (7, .long (2 * (y1 - (r10 * y2)))), (5, .long r10), (0, .long y1), (2, .long y2), (4, .int p3)]) hx hb dX0_roundedByRule_71 hl (by decide) rfl (fun ls hl => ?_)
            refine lv_iload hx hb dX0_roundedByRule_73 (lv_at hl 1 rfl) ?_
            refine lv_if_eq (tgt := 94) hx hb dX0_roundedByRule_75 (by decide) (fun c75 => ?_) (fun c75 => ?_)
            · -- taken at 75
              refine lv_lload hx hb dX0_roundedByRule_94 (lv_at hl 3 rfl) ?_
              refine lv_lconst (v := 1) hx hb dX0_roundedByRule_96 (by decide) ?_
              refine lv_ladd hx hb dX0_roundedByRule_97 ?_
              exact W.lret (v := r10 + 1) hx hb hr (fun t ht hW => ⟨r10 + 1, rfl, by rw [rnd_3 (by omega) (by omega)]; exact e4, ht⟩) t_nil dX0_roundedByRule_98
            · -- not taken at 75
              exact absurd c75 (by decide)
        · -- not taken at 47
          have c47 := (lg_cmp_eq _ _).mp c47
          have c47 : (2 * (y1 - (r10 * y2))).toInt = y2.toInt := (Int64.toInt_inj.symm).mp c47
          refine lv_iconst (v := 1) hx hb dX0_roundedByRule_50 (by decide) ?_
          refine lv_goto (tgt := 55) hx hb dX0_roundedByRule_51 (by decide) ?_
          refine lv_istore (lv' := [(9, .int 1), (7, .long (2 * (y1 - (r10 * y2)))), (5, .long r10), (0, .long y1), (2, .long y2), (4, .int p3)]) hx hb dX0_roundedByRule_55 hl (by decide) rfl (fun ls hl => ?_)
          refine lv_lload hx hb dX0_roundedByRule_57 (lv_at hl 2 rfl) ?_
          refine lv_lconst (v := 1) hx hb dX0_roundedByRule_59 (by decide) ?_
          refine lv_land hx hb dX0_roundedByRule_60 ?_
          refine lv_lconst (v := 0) hx hb dX0_roundedByRule_61 (by decide) ?_
          refine W.lcmp hx hb dX0_roundedByRule_62 ?_
          refine lv_if_ne (tgt := 70) hx hb dX0_roundedByRule_63 (by decide) (fun c63 => ?_) (fun c63 => ?_)
          · -- taken at 63
            have c63 := fun q9 => c63 ((lg_cmp_eq _ _).mpr q9)
            have c63 : ¬ (r10 &&& 1).toInt = 0 := fun q9 => c63 ((Int64.toInt_inj.symm).mpr q9)
            refine lv_iconst (v := 0) hx hb dX0_roundedByRule_70 (by decide) ?_
            refine lv_istore (lv' := [(10, .int 0), (9, .int 1), (7, .long (2 * (y1 - (r10 * y2)))), (5, .long r10), (0, .long y1), (2, .long y2), (4, .int p3)]) hx hb dX0_roundedByRule_71 hl (by decide) rfl (fun ls hl => ?_)
            refine lv_iload hx hb dX0_roundedByRule_73 (lv_at hl 1 rfl) ?_
            refine lv_if_eq (tgt := 94) hx hb dX0_roundedByRule_75 (by decide) (fun c75 => ?_) (fun c75 => ?_)
            · -- taken at 75
              exact absurd c75 (by decide)
            · -- not taken at 75
              refine lv_iload hx hb dX0_roundedByRule_78 (lv_at hl 0 rfl) ?_
              refine lv_if_eq (tgt := 94) hx hb dX0_roundedByRule_80 (by decide) (fun c80 => ?_) (fun c80 => ?_)
              · -- taken at 80
                refine lv_lload hx hb dX0_roundedByRule_94 (lv_at hl 3 rfl) ?_
                refine lv_lconst (v := 1) hx hb dX0_roundedByRule_96 (by decide) ?_
                refine lv_ladd hx hb dX0_roundedByRule_97 ?_
                exact W.lret (v := r10 + 1) hx hb hr (fun t ht hW => ⟨r10 + 1, rfl, by rw [rnd_3 (by omega) (by omega)]; exact e4, ht⟩) t_nil dX0_roundedByRule_98
              · -- not taken at 80
                exact absurd c80 (by decide)
          · -- not taken at 63
            have c63 := (lg_cmp_eq _ _).mp c63
            have c63 : (r10 &&& 1).toInt = 0 := (Int64.toInt_inj.symm).mp c63
            refine lv_iconst (v := 1) hx hb dX0_roundedByRule_66 (by decide) ?_
            refine lv_goto (tgt := 71) hx hb dX0_roundedByRule_67 (by decide) ?_
            refine lv_istore (lv' := [(10, .int 1), (9, .int 1), (7, .long (2 * (y1 - (r10 * y2)))), (5, .long r10), (0, .long y1), (2, .long y2), (4, .int p3)]) hx hb dX0_roundedByRule_71 hl (by decide) rfl (fun ls hl => ?_)
            refine lv_iload hx hb dX0_roundedByRule_73 (lv_at hl 1 rfl) ?_
            refine lv_if_eq (tgt := 94) hx hb dX0_roundedByRule_75 (by decide) (fun c75 => ?_) (fun c75 => ?_)
            · -- taken at 75
              exact absurd c75 (by decide)
            · -- not taken at 75
              refine lv_iload hx hb dX0_roundedByRule_78 (lv_at hl 0 rfl) ?_
              refine lv_if_eq (tgt := 94) hx hb dX0_roundedByRule_80 (by decide) (fun c80 => ?_) (fun c80 => ?_)
              · -- taken at 80
                exact absurd c80 (by decide)
              · -- not taken at 80
                refine lv_iload hx hb dX0_roundedByRule_83 (lv_at hl 6 rfl) ?_
                refine lv_iconst (v := 1) hx hb dX0_roundedByRule_85 (by decide) ?_
                refine lv_icmp_ne (tgt := 94) hx hb dX0_roundedByRule_86 (by decide) (fun c86 => ?_) (fun c86 => ?_)
                · -- taken at 86
                  have c86 : ¬ p3.toInt = 1 := fun q9 => c86 ((Int32.toInt_inj.symm).mpr q9)
                  refine lv_lload hx hb dX0_roundedByRule_94 (lv_at hl 3 rfl) ?_
                  refine lv_lconst (v := 1) hx hb dX0_roundedByRule_96 (by decide) ?_
                  refine lv_ladd hx hb dX0_roundedByRule_97 ?_
                  exact W.lret (v := r10 + 1) hx hb hr (fun t ht hW => ⟨r10 + 1, rfl, by rw [rnd_3 (by omega) (by omega)]; exact e4, ht⟩) t_nil dX0_roundedByRule_98
                · -- not taken at 86
                  have c86 : p3.toInt = 1 := (Int32.toInt_inj.symm).mp c86
                  refine lv_lload hx hb dX0_roundedByRule_89 (lv_at hl 3 rfl) ?_
                  refine lv_goto (tgt := 98) hx hb dX0_roundedByRule_91 (by decide) ?_
                  exact W.lret (v := r10) hx hb hr (fun t ht hW => ⟨r10, rfl, by rw [rnd_2 (by omega) (by omega)]; exact h10, ht⟩) t_nil dX0_roundedByRule_98
      · -- not taken at 37
        have c37 := fun q9 => c37 ((lg_cmp_ge _ _).mpr q9)
        have c37 : ¬ y2.toInt ≤ (2 * (y1 - (r10 * y2))).toInt := fun q9 => c37 ((Int64.le_iff_toInt_le).mpr q9)
        refine lv_lload hx hb dX0_roundedByRule_40 (lv_at hl 1 rfl) ?_
        exact W.lret (v := r10) hx hb hr (fun t ht hW => ⟨r10, rfl, by rw [rnd_1 (by omega)]; exact h10, ht⟩) t_nil dX0_roundedByRule_42
  · -- not taken at 3
    have c3 := fun q9 => c3 ((lg_cmp_ge _ _).mpr q9)
    have c3 : ¬ 1 ≤ y2.toInt := fun q9 => c3 ((Int64.le_iff_toInt_le).mpr q9)
    exact absurd h3 (by omega)
end
section
set_option maxHeartbeats 4000000 in
set_option maxRecDepth 100000 in
theorem c_X1_in (l : Launch) (x a b : Int32) (lo hi : Int) (hA : a.toInt = lo) (hB : b.toInt = hi) : Met l yX1_in wsX1_in ({ frames := 0, cells := 0, slots := 0, locals := 0 }) (va_Pc [.int x, .int a, .int b] (fun U => True)) (vp_Si (fun r => r = bI (lo ≤ x.toInt ∧ x.toInt ≤ hi))) 0 0 (fun _ => False) := by
  refine Met.ofW (cc := cX1_in) (maxL := 3) (ret := (some .boolean)) (by decide) rfl ?_
  intro p e s m args below meth c s₁ B hml hv
  obtain ⟨rfl, -⟩ := hv
  have hx := B.exec
  have hb := B.bytes
  have hr := B.returns
  have hts := atoms_spec (ws := wsX1_in) B.pre
  have hown : s.vm.findClass RX1 = some m.cls := findClass_of_methodNamed B.named
  have hlocks := B.notSynchronized
  have hl := lv_entry ([.int x, .int a, .int b]) (n := 3) (Nat.le_of_ble_eq_true rfl)
  rw [lg_entry_eq]
  generalize (lg_sl ([.int x, .int a, .int b]) ++ List.replicate (3 - (lg_sl ([.int x, .int a, .int b])).length) Slot.unset).toArray = ls at hl ⊢
  have hl : lv_has ls 3 [(0, .int x), (1, .int a), (2, .int b)] := hl
  refine lv_iload_n hx hb dX1_in_0 rfl (lv_at hl 0 rfl) ?_
  refine lv_iload_n hx hb dX1_in_1 rfl (lv_at hl 1 rfl) ?_
  refine lv_icmp_lt (tgt := 14) hx hb dX1_in_2 (by decide) (fun c2 => ?_) (fun c2 => ?_)
  · -- taken at 2
    have c2 : x.toInt < a.toInt := (Int32.lt_iff_toInt_lt).mp c2
    refine lv_iconst (v := 0) hx hb dX1_in_14 (by decide) ?_
    exact W.zret (v := 0) hx hb hr rfl (fun t ht hW => ⟨0, rfl, (bI_0 (by omega)).symm, ht⟩) t_nil dX1_in_15
  · -- not taken at 2
    have c2 : ¬ x.toInt < a.toInt := fun q9 => c2 ((Int32.lt_iff_toInt_lt).mpr q9)
    refine lv_iload_n hx hb dX1_in_5 rfl (lv_at hl 0 rfl) ?_
    refine lv_iload_n hx hb dX1_in_6 rfl (lv_at hl 2 rfl) ?_
    refine lv_icmp_gt (tgt := 14) hx hb dX1_in_7 (by decide) (fun c7 => ?_) (fun c7 => ?_)
    · -- taken at 7
      have c7 : b.toInt < x.toInt := (Int32.lt_iff_toInt_lt).mp c7
      refine lv_iconst (v := 0) hx hb dX1_in_14 (by decide) ?_
      exact W.zret (v := 0) hx hb hr rfl (fun t ht hW => ⟨0, rfl, (bI_0 (by omega)).symm, ht⟩) t_nil dX1_in_15
    · -- not taken at 7
      have c7 : ¬ b.toInt < x.toInt := fun q9 => c7 ((Int32.lt_iff_toInt_lt).mpr q9)
      refine lv_iconst (v := 1) hx hb dX1_in_10 (by decide) ?_
      refine lv_goto (tgt := 15) hx hb dX1_in_11 (by decide) ?_
      exact W.zret (v := 1) hx hb hr rfl (fun t ht hW => ⟨1, rfl, (bI_1 (by omega)).symm, ht⟩) t_nil dX1_in_15
set_option maxHeartbeats 4000000 in
set_option maxRecDepth 100000 in
theorem c_X1_in8 (l : Launch) (x a b : Int64) (lo hi : Int) (hA : a.toInt = lo) (hB : b.toInt = hi) : Met l yX1_in8 wsX1_in8 ({ frames := 0, cells := 0, slots := 0, locals := 0 }) (va_Pc [.long x, .long a, .long b] (fun U => True)) (vp_Si (fun r => r = bI (lo ≤ x.toInt ∧ x.toInt ≤ hi))) 0 0 (fun _ => False) := by
  refine Met.ofW (cc := cX1_in8) (maxL := 6) (ret := (some .boolean)) (by decide) rfl ?_
  intro p e s m args below meth c s₁ B hml hv
  obtain ⟨rfl, -⟩ := hv
  have hx := B.exec
  have hb := B.bytes
  have hr := B.returns
  have hts := atoms_spec (ws := wsX1_in8) B.pre
  have hown : s.vm.findClass RX1 = some m.cls := findClass_of_methodNamed B.named
  have hlocks := B.notSynchronized
  have hl := lv_entry ([.long x, .long a, .long b]) (n := 6) (Nat.le_of_ble_eq_true rfl)
  rw [lg_entry_eq]
  generalize (lg_sl ([.long x, .long a, .long b]) ++ List.replicate (6 - (lg_sl ([.long x, .long a, .long b])).length) Slot.unset).toArray = ls at hl ⊢
  have hl : lv_has ls 6 [(0, .long x), (2, .long a), (4, .long b)] := hl
  refine lv_lload_n hx hb dX1_in8_0 rfl (lv_at hl 0 rfl) ?_
  refine lv_lload_n hx hb dX1_in8_1 rfl (lv_at hl 1 rfl) ?_
  refine W.lcmp hx hb dX1_in8_2 ?_
  refine lv_if_lt (tgt := 17) hx hb dX1_in8_3 (by decide) (fun c3 => ?_) (fun c3 => ?_)
  · -- taken at 3
    have c3 := (lg_cmp_lt _ _).mp c3
    have c3 : x.toInt < a.toInt := (Int64.lt_iff_toInt_lt).mp c3
    refine lv_iconst (v := 0) hx hb dX1_in8_17 (by decide) ?_
    exact W.zret (v := 0) hx hb hr rfl (fun t ht hW => ⟨0, rfl, (bI_0 (by omega)).symm, ht⟩) t_nil dX1_in8_18
  · -- not taken at 3
    have c3 := fun q9 => c3 ((lg_cmp_lt _ _).mpr q9)
    have c3 : ¬ x.toInt < a.toInt := fun q9 => c3 ((Int64.lt_iff_toInt_lt).mpr q9)
    refine lv_lload_n hx hb dX1_in8_6 rfl (lv_at hl 0 rfl) ?_
    refine lv_lload hx hb dX1_in8_7 (lv_at hl 2 rfl) ?_
    refine W.lcmp hx hb dX1_in8_9 ?_
    refine lv_if_gt (tgt := 17) hx hb dX1_in8_10 (by decide) (fun c10 => ?_) (fun c10 => ?_)
    · -- taken at 10
      have c10 := (lg_cmp_gt _ _).mp c10
      have c10 : b.toInt < x.toInt := (Int64.lt_iff_toInt_lt).mp c10
      refine lv_iconst (v := 0) hx hb dX1_in8_17 (by decide) ?_
      exact W.zret (v := 0) hx hb hr rfl (fun t ht hW => ⟨0, rfl, (bI_0 (by omega)).symm, ht⟩) t_nil dX1_in8_18
    · -- not taken at 10
      have c10 := fun q9 => c10 ((lg_cmp_gt _ _).mpr q9)
      have c10 : ¬ b.toInt < x.toInt := fun q9 => c10 ((Int64.lt_iff_toInt_lt).mpr q9)
      refine lv_iconst (v := 1) hx hb dX1_in8_13 (by decide) ?_
      refine lv_goto (tgt := 18) hx hb dX1_in8_14 (by decide) ?_
      exact W.zret (v := 1) hx hb hr rfl (fun t ht hW => ⟨1, rfl, (bI_1 (by omega)).symm, ht⟩) t_nil dX1_in8_18
set_option maxHeartbeats 4000000 in
set_option maxRecDepth 100000 in
theorem c_X1_above (l : Launch) (dC : Nat → ClassId) (dI : Nat → Nat → Nat) (m9 b1 b2 b3 b4 b5 b6 : Nat) (cI : ClassId) (S F D J X Y : Nat → Int32) (th : Int32) (n : Nat) (ar sl hd : Int32) (hu hw : Int64) (im tc : Nat) (fa : Int32) (up dn : Int64) (p1 p2 : Int32) (k : Nat) (hk : p1.toInt = (k : Int)) (hk40 : k < 40) : Met l yX1_above wsX1_above ({ frames := 0, cells := 0, slots := 0, locals := 0 }) (va_Pc [.ref m9, .int p1, .int p2] (fun U => va_P (dC, dI) vwCl (wM m9 b1 b2 b3 b4 b5 b6 cI S F D J X Y th n ar sl hd hu hw im tc fa up dn) U.heap ∧ va_K (dC, dI) vwCl [(cI, .int)] U)) (vp_Sl (fun r => r = exm S F hu hw sl p2 k)) 0 0 (fun _ => False) := by
  refine Met.ofW (cc := cX1_above) (maxL := 3) (ret := (some .long)) (by decide) rfl ?_
  intro p e s m args below meth c s₁ B hml hv
  obtain ⟨rfl, hP, hK⟩ := hv
  have hx := B.exec
  have hb := B.bytes
  have hr := B.returns
  have hts := atoms_spec (ws := wsX1_above) B.pre
  have hown : s.vm.findClass RX1 = some m.cls := findClass_of_methodNamed B.named
  have hlocks := B.notSynchronized
  have hinX1 : ∀ w ∈ wsX10, w ∈ wsX1_above := fun w h => List.mem_cons_of_mem _ (inX1 w h)
  have f13 := hts _ (List.mem_cons_of_mem _ wl_X1_13)
  have f68 := hts _ (List.mem_cons_of_mem _ wl_X1_68)
  have f65 := hts _ (List.mem_cons_of_mem _ wl_X1_65)
  have f7 := hts _ (List.mem_cons_of_mem _ wl_X1_7)
  have f54 := hts _ (List.mem_cons_of_mem _ wl_X1_54)
  have hl := lv_entry ([.ref m9, .int p1, .int p2]) (n := 3) (Nat.le_of_ble_eq_true rfl)
  rw [lg_entry_eq]
  generalize (lg_sl ([.ref m9, .int p1, .int p2]) ++ List.replicate (3 - (lg_sl ([.ref m9, .int p1, .int p2])).length) Slot.unset).toArray = ls at hl ⊢
  have hl : lv_has ls 3 [(0, .ref m9), (1, .int p1), (2, .int p2)] := hl
  refine lv_aload_n hx hb dX1_above_0 rfl (lv_at hl 0 rfl) ?_
  refine va_get (D := (dC, dI)) (ci := 1) (v := .ref b2) (C := RX1) (T := TX1) (N := 18) hx hb hts hinX1 hown hK hP 0 rfl rfl 3 (by decide) f13 (fun _ h9 => h9) rfl dX1_above_1 ?_
  refine lv_iload_n hx hb dX1_above_4 rfl (lv_at hl 1 rfl) ?_
  refine va_iald (D := (dC, dI)) hx hb hK hP 2 0 rfl rfl (vp_in_iff.mpr ⟨by omega, by omega⟩) dX1_above_5 ?_
  refine W.eq (congrArg (fun z => F0 m 6 ls (.int z :: [])) (congrArg F (cl_of (j := k) (hk)))) ?_
  refine lv_i2l hx hb dX1_above_6 rfl ?_
  refine lv_aload_n hx hb dX1_above_7 rfl (lv_at hl 0 rfl) ?_
  refine va_get (D := (dC, dI)) (ci := 1) (v := .long hw) (C := RX1) (T := TX1) (N := 18) hx hb hts hinX1 hown hK hP 0 rfl rfl 8 (by decide) f68 (fun _ h9 => h9) rfl dX1_above_8 ?_
  refine lv_lmul hx hb dX1_above_11 ?_
  refine lv_aload_n hx hb dX1_above_12 rfl (lv_at hl 0 rfl) ?_
  refine va_get (D := (dC, dI)) (ci := 1) (v := .long hu) (C := RX1) (T := TX1) (N := 18) hx hb hts hinX1 hown hK hP 0 rfl rfl 7 (by decide) f65 (fun _ h9 => h9) rfl dX1_above_13 ?_
  refine lv_aload_n hx hb dX1_above_16 rfl (lv_at hl 0 rfl) ?_
  refine va_get (D := (dC, dI)) (ci := 1) (v := .ref b1) (C := RX1) (T := TX1) (N := 18) hx hb hts hinX1 hown hK hP 0 rfl rfl 2 (by decide) f7 (fun _ h9 => h9) rfl dX1_above_17 ?_
  refine lv_iload_n hx hb dX1_above_20 rfl (lv_at hl 1 rfl) ?_
  refine va_iald (D := (dC, dI)) hx hb hK hP 1 0 rfl rfl (vp_in_iff.mpr ⟨by omega, by omega⟩) dX1_above_21 ?_
  refine W.eq (congrArg (fun z => F0 m 22 ls (.int z :: [.long hu, .long (((F k).toInt64) * hw)])) (congrArg S (cl_of (j := k) (hk)))) ?_
  refine lv_aload_n hx hb dX1_above_22 rfl (lv_at hl 0 rfl) ?_
  refine va_get (D := (dC, dI)) (ci := 1) (v := .int sl) (C := RX1) (T := TX1) (N := 18) hx hb hts hinX1 hown hK hP 0 rfl rfl 5 (by decide) f54 (fun _ h9 => h9) rfl dX1_above_23 ?_
  refine lv_isub hx hb dX1_above_26 ?_
  refine lv_iload_n hx hb dX1_above_27 rfl (lv_at hl 2 rfl) ?_
  refine lv_isub hx hb dX1_above_28 ?_
  refine lv_i2l hx hb dX1_above_29 rfl ?_
  refine lv_lmul hx hb dX1_above_30 ?_
  refine lv_lsub hx hb dX1_above_31 ?_
  exact W.lret (v := (((F k).toInt64) * hw) - (hu * ((((S k) - sl) - p2).toInt64))) hx hb hr (fun t ht hW => ⟨(((F k).toInt64) * hw) - (hu * ((((S k) - sl) - p2).toInt64)), rfl, rfl, ht⟩) t_nil dX1_above_32
set_option maxHeartbeats 4000000 in
set_option maxRecDepth 100000 in
theorem c_X1_peakRow (l : Launch) (dC : Nat → ClassId) (dI : Nat → Nat → Nat) (m9 b1 b2 b3 b4 b5 b6 : Nat) (cI : ClassId) (S F D J X Y : Nat → Int32) (th : Int32) (n : Nat) (ar sl hd : Int32) (hu hw : Int64) (im tc : Nat) (fa : Int32) (up dn : Int64) (hn : n ≤ 40) (hn0 : 0 < n) : Met l yX1_peakRow wsX1_peakRow ({ frames := 0, cells := 0, slots := 0, locals := 0 }) (va_Pc [.ref m9] (fun U => va_P (dC, dI) vwCl (wM m9 b1 b2 b3 b4 b5 b6 cI S F D J X Y th n ar sl hd hu hw im tc fa up dn) U.heap ∧ va_K (dC, dI) vwCl [(cI, .int)] U)) (vp_Si (fun r => r = nI (pk F n))) 0 0 (fun _ => False) := by
  refine Met.ofW (cc := cX1_peakRow) (maxL := 3) (ret := (some .int)) (by decide) rfl ?_
  intro p e s m args below meth c s₁ B hml hv
  obtain ⟨rfl, hP, hK⟩ := hv
  have hx := B.exec
  have hb := B.bytes
  have hr := B.returns
  have hts := atoms_spec (ws := wsX1_peakRow) B.pre
  have hown : s.vm.findClass RX1 = some m.cls := findClass_of_methodNamed B.named
  have hlocks := B.notSynchronized
  have hinX1 : ∀ w ∈ wsX10, w ∈ wsX1_peakRow := fun w h => List.mem_cons_of_mem _ (inX1 w h)
  have f44 := hts _ (List.mem_cons_of_mem _ wl_X1_44)
  have f13 := hts _ (List.mem_cons_of_mem _ wl_X1_13)
  have hl := lv_entry ([.ref m9]) (n := 3) (Nat.le_of_ble_eq_true rfl)
  rw [lg_entry_eq]
  generalize (lg_sl ([.ref m9]) ++ List.replicate (3 - (lg_sl ([.ref m9])).length) Slot.unset).toArray = ls at hl ⊢
  have hl : lv_has ls 3 [(0, .ref m9)] := hl
  have L4 : ∀ (f k : Nat) (ls : Array Slot), n + 1 ≤ k + f → 1 ≤ k → k ≤ n → lv_has ls 3 [(2, .int (nI k)), (1, .int (nI (pk F k))), (0, .ref m9)] → W p l e (headSpec wsX1_peakRow ({ frames := 0, cells := 0, slots := 0, locals := 0 })).room s m ([.ref m9] : List Value).toArray below meth c s.heap [] 0 0 (MQ below (vp_Si (fun r => r = nI (pk F n))) ([.ref m9] : List Value).toArray s 0 0 (fun _ => False)) (F0 m 4 ls []) := by
    intro f
    induction f with
    | zero => intro k ls hm h1 h2 hl; exact absurd hm (by omega)
    | succ f ih =>
      intro k ls hm h1 h2 hl
      have hpk := pkf_lt F h1
      refine lv_iload_n hx hb dX1_peakRow_4 rfl (lv_at hl 0 rfl) ?_
      refine lv_aload_n hx hb dX1_peakRow_5 rfl (lv_at hl 2 rfl) ?_
      refine va_get (D := (dC, dI)) (ci := 1) (v := .int (nI n)) (C := RX1) (T := TX1) (N := 18) hx hb hts hinX1 hown hK hP 0 rfl rfl 1 (by decide) f44 (fun _ h9 => h9) rfl dX1_peakRow_6 ?_
      refine lv_icmp_ge (tgt := 35) hx hb dX1_peakRow_9 (by decide) (fun c9 => ?_) (fun c9 => ?_)
      · -- taken at 9
        have c9 : n ≤ k := (nI_leI (a := n) (b := k) (by omega) (by omega)).mp c9
        refine lv_iload_n hx hb dX1_peakRow_35 rfl (lv_at hl 1 rfl) ?_
        exact W.iret (v := nI (pk F k)) hx hb hr (fun t ht hW => ⟨nI (pk F k), rfl, by rw [show n = k by omega], ht⟩) t_nil dX1_peakRow_36
      · -- not taken at 9
        have c9 : ¬ n ≤ k := fun q9 => c9 ((nI_leI (a := n) (b := k) (by omega) (by omega)).mpr q9)
        refine lv_aload_n hx hb dX1_peakRow_12 rfl (lv_at hl 2 rfl) ?_
        refine va_get (D := (dC, dI)) (ci := 1) (v := .ref b2) (C := RX1) (T := TX1) (N := 18) hx hb hts hinX1 hown hK hP 0 rfl rfl 3 (by decide) f13 (fun _ h9 => h9) rfl dX1_peakRow_13 ?_
        refine lv_iload_n hx hb dX1_peakRow_16 rfl (lv_at hl 0 rfl) ?_
        refine va_iald (D := (dC, dI)) hx hb hK hP 2 0 rfl rfl (vp_in_nI (show k < 40 by omega) (by decide)) dX1_peakRow_17 ?_
        refine W.eq (congrArg (fun z => F0 m 18 ls (.int z :: [])) (congrArg F (nI_clamp (show k < 2 ^ 31 by omega)))) ?_
        refine lv_aload_n hx hb dX1_peakRow_18 rfl (lv_at hl 2 rfl) ?_
        refine va_get (D := (dC, dI)) (ci := 1) (v := .ref b2) (C := RX1) (T := TX1) (N := 18) hx hb hts hinX1 hown hK hP 0 rfl rfl 3 (by decide) f13 (fun _ h9 => h9) rfl dX1_peakRow_19 ?_
        refine lv_iload_n hx hb dX1_peakRow_22 rfl (lv_at hl 1 rfl) ?_
        refine va_iald (D := (dC, dI)) hx hb hK hP 2 0 rfl rfl (vp_in_nI (show pk F k < 40 by omega) (by decide)) dX1_peakRow_23 ?_
        refine W.eq (congrArg (fun z => F0 m 24 ls (.int z :: [.int (F k)])) (congrArg F (nI_clamp (show pk F k < 2 ^ 31 by omega)))) ?_
        refine lv_icmp_le (tgt := 29) hx hb dX1_peakRow_24 (by decide) (fun c24 => ?_) (fun c24 => ?_)
        · -- taken at 24
          have c24 : (F k).toInt ≤ (F (pk F k)).toInt := (Int32.le_iff_toInt_le).mp c24
          refine lv_iinc (v := nI (k + 1)) (lv' := [(2, .int (nI (k + 1))), (1, .int (nI (pk F k))), (0, .ref m9)]) hx hb dX1_peakRow_29 hl (k := 0) rfl ((nI_succ _).symm) (by decide) rfl (fun ls hl => ?_)
          refine lv_goto (tgt := 4) hx hb dX1_peakRow_32 (by decide) ?_
          exact ih (k + 1) ls (by omega) (by omega) (by omega) (by rw [pkf_f F k (by omega)]; exact (lv_sub hl [0, 1, 2] rfl))
        · -- not taken at 24
          have c24 : ¬ (F k).toInt ≤ (F (pk F k)).toInt := fun q9 => c24 ((Int32.le_iff_toInt_le).mpr q9)
          refine lv_iload_n hx hb dX1_peakRow_27 rfl (lv_at hl 0 rfl) ?_
          refine lv_istore_n (lv' := [(1, .int (nI k)), (2, .int (nI k)), (0, .ref m9)]) hx hb dX1_peakRow_28 rfl hl (by decide) rfl (fun ls hl => ?_)
          refine lv_iinc (v := nI (k + 1)) (lv' := [(2, .int (nI (k + 1))), (1, .int (nI k)), (0, .ref m9)]) hx hb dX1_peakRow_29 hl (k := 1) rfl ((nI_succ _).symm) (by decide) rfl (fun ls hl => ?_)
          refine lv_goto (tgt := 4) hx hb dX1_peakRow_32 (by decide) ?_
          exact ih (k + 1) ls (by omega) (by omega) (by omega) (by rw [pkf_t F k (by omega)]; exact (lv_sub hl [0, 1, 2] rfl))
  refine lv_iconst (v := 0) hx hb dX1_peakRow_0 (by decide) ?_
  refine W.eq (congrArg (fun z => F0 m 1 ls (.int z :: [])) (pkf_1 F)) ?_
  refine lv_istore_n (lv' := [(1, .int (nI (pk F 1))), (0, .ref m9)]) hx hb dX1_peakRow_1 rfl hl (by decide) rfl (fun ls hl => ?_)
  refine lv_iconst (v := 1) hx hb dX1_peakRow_2 (by decide) ?_
  refine lv_istore_n (lv' := [(2, .int 1), (1, .int (nI (pk F 1))), (0, .ref m9)]) hx hb dX1_peakRow_3 rfl hl (by decide) rfl (fun ls hl => ?_)
  exact L4 (n + 1) 1 ls (by omega) (by decide) (by omega) (lv_sub hl [0, 1, 2] rfl)
set_option maxHeartbeats 4000000 in
set_option maxRecDepth 100000 in
theorem c_X1_rounded (l : Launch) (y1 y2 : Int64) (p3 : Int32) (h1 : -1000000000000 ≤ y1.toInt) (h2 : y1.toInt ≤ 1000000000000) (h3 : 1 ≤ y2.toInt) (h4 : y2.toInt ≤ 1000000000000) (h5 : 0 ≤ p3.toInt ∧ p3.toInt ≤ 2) : Met l yX1_rounded wsX1_rounded ({ frames := 0, cells := 0, slots := 0, locals := 0 }) (va_Pc [.long y1, .long y2, .int p3] (fun U => True)) (vp_Sl (fun r => r.toInt = rnd y1.toInt y2.toInt p3.toInt)) 0 0 (fun _ => False) := by
  refine Met.ofW (cc := cX1_rounded) (maxL := 10) (ret := (some .long)) (by decide) rfl ?_
  intro p e s m args below meth c s₁ B hml hv
  obtain ⟨rfl, -⟩ := hv
  have hx := B.exec
  have hb := B.bytes
  have hr := B.returns
  have hts := atoms_spec (ws := wsX1_rounded) B.pre
  have hown : s.vm.findClass RX1 = some m.cls := findClass_of_methodNamed B.named
  have hlocks := B.notSynchronized
  have k84 := hts _ (List.mem_cons_of_mem _ wl_X1_84)
  have hl := lv_entry ([.long y1, .long y2, .int p3]) (n := 10) (Nat.le_of_ble_eq_true rfl)
  rw [lg_entry_eq]
  generalize (lg_sl ([.long y1, .long y2, .int p3]) ++ List.replicate (10 - (lg_sl ([.long y1, .long y2, .int p3])).length) Slot.unset).toArray = ls at hl ⊢
  have hl : lv_has ls 10 [(0, .long y1), (2, .long y2), (4, .int p3)] := hl
  have J20 : ∀ (q : Int64) (ls : Array Slot), (q.toInt = y1.toInt / y2.toInt) → lv_has ls 10 [(5, .long q), (0, .long y1), (2, .long y2), (4, .int p3)] → W p l e (headSpec wsX1_rounded ({ frames := 0, cells := 0, slots := 0, locals := 0 })).room s m ([.long y1, .long y2, .int p3] : List Value).toArray below meth c s.heap [] 0 0 (MQ below (vp_Sl (fun r => r.toInt = rnd y1.toInt y2.toInt p3.toInt)) ([.long y1, .long y2, .int p3] : List Value).toArray s 0 0 (fun _ => False)) (F0 m 20 ls []) := by
    intro q ls hq hl
    refine lv_lload_n hx hb dX1_rounded_20 rfl (lv_at hl 1 rfl) ?_
    refine lv_lload hx hb dX1_rounded_21 (lv_at hl 0 rfl) ?_
    refine lv_lload_n hx hb dX1_rounded_23 rfl (lv_at hl 2 rfl) ?_
    refine lv_lmul hx hb dX1_rounded_24 ?_
    refine lv_lsub hx hb dX1_rounded_25 ?_
    refine lv_lstore (lv' := [(7, .long (y1 - (q * y2))), (5, .long q), (0, .long y1), (2, .long y2), (4, .int p3)]) hx hb dX1_rounded_26 hl (by decide) rfl (fun ls hl => ?_)
    obtain ⟨g1, g2, g3⟩ := rbr_tw h1 h2 h3 h4 hq
    obtain ⟨g4, g5⟩ := rbr_up h1 h2 h3 hq
    refine lv_iload hx hb dX1_rounded_28 (lv_at hl 4 rfl) ?_
    refine lv_if_ne (tgt := 52) hx hb dX1_rounded_30 (by decide) (fun c30 => ?_) (fun c30 => ?_)
    · -- taken at 30
      have c30 : ¬ p3.toInt = 0 := fun q9 => c30 ((Int32.toInt_inj.symm).mpr q9)
      refine lv_iload hx hb dX1_rounded_52 (lv_at hl 4 rfl) ?_
      refine lv_iconst (v := 1) hx hb dX1_rounded_54 (by decide) ?_
      refine lv_icmp_ne (tgt := 93) hx hb dX1_rounded_55 (by decide) (fun c55 => ?_) (fun c55 => ?_)
      · -- taken at 55
        have c55 : ¬ p3.toInt = 1 := fun q9 => c55 ((Int32.toInt_inj.symm).mpr q9)
        refine lv_iconst (v := 0) hx hb dX1_rounded_93 (by decide) ?_
        refine lv_istore (lv' := [(9, .int 0), (7, .long (y1 - (q * y2))), (5, .long q), (0, .long y1), (2, .long y2), (4, .int p3)]) hx hb dX1_rounded_94 hl (by decide) rfl (fun ls hl => ?_)
        refine lv_iload hx hb dX1_rounded_96 (lv_at hl 0 rfl) ?_
        refine lv_if_eq (tgt := 108) hx hb dX1_rounded_98 (by decide) (fun c98 => ?_) (fun c98 => ?_)
        · -- taken at 98
          refine lv_lload hx hb dX1_rounded_108 (lv_at hl 2 rfl) ?_
          exact W.lret (v := q) hx hb hr (fun t ht hW => ⟨q, rfl, by first | (rw [rnd_1 (by omega)]; exact hq) | (rw [rnd_2 (by omega) (by omega)]; exact hq), ht⟩) t_nil dX1_rounded_110
        · -- not taken at 98
          exact absurd c98 (by decide)
      · -- not taken at 55
        have c55 : p3.toInt = 1 := (Int32.toInt_inj.symm).mp c55
        refine lv_ldc2 (v := 2) hx hb hown k84 dX1_rounded_58 ?_
        refine lv_lload hx hb dX1_rounded_61 (lv_at hl 0 rfl) ?_
        refine lv_lmul hx hb dX1_rounded_63 ?_
        refine lv_lload_n hx hb dX1_rounded_64 rfl (lv_at hl 3 rfl) ?_
        refine W.lcmp hx hb dX1_rounded_65 ?_
        refine lv_if_gt (tgt := 89) hx hb dX1_rounded_66 (by decide) (fun c66 => ?_) (fun c66 => ?_)
        · -- taken at 66
          have c66 := (lg_cmp_gt _ _).mp c66
          have c66 : y2.toInt < (2 * (y1 - (q * y2))).toInt := (Int64.lt_iff_toInt_lt).mp c66
          refine lv_iconst (v := 1) hx hb dX1_rounded_89 (by decide) ?_
          refine lv_goto (tgt := 94) hx hb dX1_rounded_90 (by decide) ?_
          refine lv_istore (lv' := [(9, .int 1), (7, .long (y1 - (q * y2))), (5, .long q), (0, .long y1), (2, .long y2), (4, .int p3)]) hx hb dX1_rounded_94 hl (by decide) rfl (fun ls hl => ?_)
          refine lv_iload hx hb dX1_rounded_96 (lv_at hl 0 rfl) ?_
          refine lv_if_eq (tgt := 108) hx hb dX1_rounded_98 (by decide) (fun c98 => ?_) (fun c98 => ?_)
          · -- taken at 98
            exact absurd c98 (by decide)
          · -- not taken at 98
            refine lv_lload hx hb dX1_rounded_101 (lv_at hl 2 rfl) ?_
            refine lv_lconst (v := 1) hx hb dX1_rounded_103 (by decide) ?_
            refine lv_ladd hx hb dX1_rounded_104 ?_
            refine lv_goto (tgt := 110) hx hb dX1_rounded_105 (by decide) ?_
            exact W.lret (v := q + 1) hx hb hr (fun t ht hW => ⟨q + 1, rfl, by rw [rnd_3 (by omega) (by omega)]; exact g4, ht⟩) t_nil dX1_rounded_110
        · -- not taken at 66
          have c66 := fun q9 => c66 ((lg_cmp_gt _ _).mpr q9)
          have c66 : ¬ y2.toInt < (2 * (y1 - (q * y2))).toInt := fun q9 => c66 ((Int64.lt_iff_toInt_lt).mpr q9)
          refine lv_ldc2 (v := 2) hx hb hown k84 dX1_rounded_69 ?_
          refine lv_lload hx hb dX1_rounded_72 (lv_at hl 0 rfl) ?_
          refine lv_lmul hx hb dX1_rounded_74 ?_
          refine lv_lload_n hx hb dX1_rounded_75 rfl (lv_at hl 3 rfl) ?_
          refine W.lcmp hx hb dX1_rounded_76 ?_
          refine lv_if_ne (tgt := 93) hx hb dX1_rounded_77 (by decide) (fun c77 => ?_) (fun c77 => ?_)
          · -- taken at 77
            have c77 := fun q9 => c77 ((lg_cmp_eq _ _).mpr q9)
            have c77 : ¬ (2 * (y1 - (q * y2))).toInt = y2.toInt := fun q9 => c77 ((Int64.toInt_inj.symm).mpr q9)
            refine lv_iconst (v := 0) hx hb dX1_rounded_93 (by decide) ?_
            refine lv_istore (lv' := [(9, .int 0), (7, .long (y1 - (q * y2))), (5, .long q), (0, .long y1), (2, .long y2), (4, .int p3)]) hx hb dX1_rounded_94 hl (by decide) rfl (fun ls hl => ?_)
            refine lv_iload hx hb dX1_rounded_96 (lv_at hl 0 rfl) ?_
            refine lv_if_eq (tgt := 108) hx hb dX1_rounded_98 (by decide) (fun c98 => ?_) (fun c98 => ?_)
            · -- taken at 98
              refine lv_lload hx hb dX1_rounded_108 (lv_at hl 2 rfl) ?_
              exact W.lret (v := q) hx hb hr (fun t ht hW => ⟨q, rfl, by first | (rw [rnd_1 (by omega)]; exact hq) | (rw [rnd_2 (by omega) (by omega)]; exact hq), ht⟩) t_nil dX1_rounded_110
            · -- not taken at 98
              exact absurd c98 (by decide)
          · -- not taken at 77
            have c77 := (lg_cmp_eq _ _).mp c77
            have c77 : (2 * (y1 - (q * y2))).toInt = y2.toInt := (Int64.toInt_inj.symm).mp c77
            refine lv_lload hx hb dX1_rounded_80 (lv_at hl 1 rfl) ?_
            refine lv_lconst (v := 1) hx hb dX1_rounded_82 (by decide) ?_
            refine lv_land hx hb dX1_rounded_83 ?_
            refine lv_lconst (v := 1) hx hb dX1_rounded_84 (by decide) ?_
            refine W.lcmp hx hb dX1_rounded_85 ?_
            refine lv_if_ne (tgt := 93) hx hb dX1_rounded_86 (by decide) (fun c86 => ?_) (fun c86 => ?_)
            · -- taken at 86
              have c86 := fun q9 => c86 ((lg_cmp_eq _ _).mpr q9)
              have c86 : ¬ (q &&& 1).toInt = 1 := fun q9 => c86 ((Int64.toInt_inj.symm).mpr q9)
              refine lv_iconst (v := 0) hx hb dX1_rounded_93 (by decide) ?_
              refine lv_istore (lv' := [(9, .int 0), (7, .long (y1 - (q * y2))), (5, .long q), (0, .long y1), (2, .long y2), (4, .int p3)]) hx hb dX1_rounded_94 hl (by decide) rfl (fun ls hl => ?_)
              refine lv_iload hx hb dX1_rounded_96 (lv_at hl 0 rfl) ?_
              refine lv_if_eq (tgt := 108) hx hb dX1_rounded_98 (by decide) (fun c98 => ?_) (fun c98 => ?_)
              · -- taken at 98
                refine lv_lload hx hb dX1_rounded_108 (lv_at hl 2 rfl) ?_
                exact W.lret (v := q) hx hb hr (fun t ht hW => ⟨q, rfl, by first | (rw [rnd_1 (by omega)]; exact hq) | (rw [rnd_2 (by omega) (by omega)]; exact hq), ht⟩) t_nil dX1_rounded_110
              · -- not taken at 98
                exact absurd c98 (by decide)
            · -- not taken at 86
              have c86 := (lg_cmp_eq _ _).mp c86
              have c86 : (q &&& 1).toInt = 1 := (Int64.toInt_inj.symm).mp c86
              refine lv_iconst (v := 1) hx hb dX1_rounded_89 (by decide) ?_
              refine lv_goto (tgt := 94) hx hb dX1_rounded_90 (by decide) ?_
              refine lv_istore (lv' := [(9, .int 1), (7, .long (y1 - (q * y2))), (5, .long q), (0, .long y1), (2, .long y2), (4, .int p3)]) hx hb dX1_rounded_94 hl (by decide) rfl (fun ls hl => ?_)
              refine lv_iload hx hb dX1_rounded_96 (lv_at hl 0 rfl) ?_
              refine lv_if_eq (tgt := 108) hx hb dX1_rounded_98 (by decide) (fun c98 => ?_) (fun c98 => ?_)
              · -- taken at 98
                exact absurd c98 (by decide)
              · -- not taken at 98
                refine lv_lload hx hb dX1_rounded_101 (lv_at hl 2 rfl) ?_
                refine lv_lconst (v := 1) hx hb dX1_rounded_103 (by decide) ?_
                refine lv_ladd hx hb dX1_rounded_104 ?_
                refine lv_goto (tgt := 110) hx hb dX1_rounded_105 (by decide) ?_
                exact W.lret (v := q + 1) hx hb hr (fun t ht hW => ⟨q + 1, rfl, by rw [rnd_3 (by omega) (by omega)]; exact g4, ht⟩) t_nil dX1_rounded_110
    · -- not taken at 30
      have c30 : p3.toInt = 0 := (Int32.toInt_inj.symm).mp c30
      refine lv_ldc2 (v := 2) hx hb hown k84 dX1_rounded_33 ?_
      refine lv_lload hx hb dX1_rounded_36 (lv_at hl 0 rfl) ?_
      refine lv_lmul hx hb dX1_rounded_38 ?_
      refine lv_lload_n hx hb dX1_rounded_39 rfl (lv_at hl 3 rfl) ?_
      refine W.lcmp hx hb dX1_rounded_40 ?_
      refine lv_if_lt (tgt := 48) hx hb dX1_rounded_41 (by decide) (fun c41 => ?_) (fun c41 => ?_)
      · -- taken at 41
        have c41 := (lg_cmp_lt _ _).mp c41
        have c41 : (2 * (y1 - (q * y2))).toInt < y2.toInt := (Int64.lt_iff_toInt_lt).mp c41
        refine lv_iconst (v := 0) hx hb dX1_rounded_48 (by decide) ?_
        refine lv_goto (tgt := 94) hx hb dX1_rounded_49 (by decide) ?_
        refine lv_istore (lv' := [(9, .int 0), (7, .long (y1 - (q * y2))), (5, .long q), (0, .long y1), (2, .long y2), (4, .int p3)]) hx hb dX1_rounded_94 hl (by decide) rfl (fun ls hl => ?_)
        refine lv_iload hx hb dX1_rounded_96 (lv_at hl 0 rfl) ?_
        refine lv_if_eq (tgt := 108) hx hb dX1_rounded_98 (by decide) (fun c98 => ?_) (fun c98 => ?_)
        · -- taken at 98
          refine lv_lload hx hb dX1_rounded_108 (lv_at hl 2 rfl) ?_
          exact W.lret (v := q) hx hb hr (fun t ht hW => ⟨q, rfl, by first | (rw [rnd_1 (by omega)]; exact hq) | (rw [rnd_2 (by omega) (by omega)]; exact hq), ht⟩) t_nil dX1_rounded_110
        · -- not taken at 98
          exact absurd c98 (by decide)
      · -- not taken at 41
        have c41 := fun q9 => c41 ((lg_cmp_lt _ _).mpr q9)
        have c41 : ¬ (2 * (y1 - (q * y2))).toInt < y2.toInt := fun q9 => c41 ((Int64.lt_iff_toInt_lt).mpr q9)
        refine lv_iconst (v := 1) hx hb dX1_rounded_44 (by decide) ?_
        refine lv_goto (tgt := 94) hx hb dX1_rounded_45 (by decide) ?_
        refine lv_istore (lv' := [(9, .int 1), (7, .long (y1 - (q * y2))), (5, .long q), (0, .long y1), (2, .long y2), (4, .int p3)]) hx hb dX1_rounded_94 hl (by decide) rfl (fun ls hl => ?_)
        refine lv_iload hx hb dX1_rounded_96 (lv_at hl 0 rfl) ?_
        refine lv_if_eq (tgt := 108) hx hb dX1_rounded_98 (by decide) (fun c98 => ?_) (fun c98 => ?_)
        · -- taken at 98
          exact absurd c98 (by decide)
        · -- not taken at 98
          refine lv_lload hx hb dX1_rounded_101 (lv_at hl 2 rfl) ?_
          refine lv_lconst (v := 1) hx hb dX1_rounded_103 (by decide) ?_
          refine lv_ladd hx hb dX1_rounded_104 ?_
          refine lv_goto (tgt := 110) hx hb dX1_rounded_105 (by decide) ?_
          exact W.lret (v := q + 1) hx hb hr (fun t ht hW => ⟨q + 1, rfl, by rw [rnd_3 (by omega) (by omega)]; exact g4, ht⟩) t_nil dX1_rounded_110
  refine lv_lload_n hx hb dX1_rounded_0 rfl (lv_at hl 0 rfl) ?_
  refine lv_lload_n hx hb dX1_rounded_1 rfl (lv_at hl 1 rfl) ?_
  refine lv_ldiv hx hb dX1_rounded_2 (fun q => by rw [q] at h3; exact absurd h3 (by decide)) ?_
  refine lv_lstore (lv' := [(5, .long (y1 / y2)), (0, .long y1), (2, .long y2), (4, .int p3)]) hx hb dX1_rounded_3 hl (by decide) rfl (fun ls hl => ?_)
  obtain ⟨e1, e2, e3, e4, e5, e6⟩ := fl_d h1 h2 h3 h4
  have e7 := fl_t (U := y1.toInt) h3
  have e8 := fl_k (U := y1.toInt) h3
  refine lv_lload hx hb dX1_rounded_5 (lv_at hl 0 rfl) ?_
  refine lv_lload_n hx hb dX1_rounded_7 rfl (lv_at hl 2 rfl) ?_
  refine lv_lmul hx hb dX1_rounded_8 ?_
  refine lv_lload_n hx hb dX1_rounded_9 rfl (lv_at hl 1 rfl) ?_
  refine W.lcmp hx hb dX1_rounded_10 ?_
  refine lv_if_le (tgt := 20) hx hb dX1_rounded_11 (by decide) (fun c11 => ?_) (fun c11 => ?_)
  · -- taken at 11
    have c11 := (lg_cmp_le _ _).mp c11
    have c11 : ((y1 / y2) * y2).toInt ≤ y1.toInt := (Int64.le_iff_toInt_le).mp c11
    exact J20 (y1 / y2) ls (by omega) (lv_sub hl [0, 1, 2, 3] rfl)
  · -- not taken at 11
    have c11 := fun q9 => c11 ((lg_cmp_le _ _).mpr q9)
    have c11 : ¬ ((y1 / y2) * y2).toInt ≤ y1.toInt := fun q9 => c11 ((Int64.le_iff_toInt_le).mpr q9)
    refine lv_lload hx hb dX1_rounded_14 (lv_at hl 0 rfl) ?_
    refine lv_lconst (v := 1) hx hb dX1_rounded_16 (by decide) ?_
    refine lv_lsub hx hb dX1_rounded_17 ?_
    refine lv_lstore (lv' := [(5, .long ((y1 / y2) - 1)), (0, .long y1), (2, .long y2), (4, .int p3)]) hx hb dX1_rounded_18 hl (by decide) rfl (fun ls hl => ?_)
    exact J20 ((y1 / y2) - 1) ls (by omega) (lv_sub hl [0, 1, 2, 3] rfl)
set_option maxHeartbeats 4000000 in
set_option maxRecDepth 100000 in
theorem c_X1_thrown (l : Launch) (dC : Nat → ClassId) (dI : Nat → Nat → Nat) (m9 b1 b2 b3 b4 b5 b6 : Nat) (cI : ClassId) (S F D J X Y : Nat → Int32) (th : Int32) (n : Nat) (ar sl hd : Int32) (hu hw : Int64) (im tc : Nat) (fa : Int32) (up dn : Int64) : Met l yX1_thrown wsX1_thrown ({ frames := 0, cells := 0, slots := 0, locals := 0 }) (va_Pc [.ref m9] (fun U => va_P (dC, dI) vwCl (wM m9 b1 b2 b3 b4 b5 b6 cI S F D J X Y th n ar sl hd hu hw im tc fa up dn) U.heap ∧ va_K (dC, dI) vwCl [(cI, .int)] U)) (vp_Si (fun r => r = th)) 0 0 (fun _ => False) := by
  refine Met.ofW (cc := cX1_thrown) (maxL := 1) (ret := (some .int)) (by decide) rfl ?_
  intro p e s m args below meth c s₁ B hml hv
  obtain ⟨rfl, hP, hK⟩ := hv
  have hx := B.exec
  have hb := B.bytes
  have hr := B.returns
  have hts := atoms_spec (ws := wsX1_thrown) B.pre
  have hown : s.vm.findClass RX1 = some m.cls := findClass_of_methodNamed B.named
  have hlocks := B.notSynchronized
  have hinX1 : ∀ w ∈ wsX10, w ∈ wsX1_thrown := fun w h => List.mem_cons_of_mem _ (inX1 w h)
  have f28 := hts _ (List.mem_cons_of_mem _ wl_X1_28)
  have hl := lv_entry ([.ref m9]) (n := 1) (Nat.le_of_ble_eq_true rfl)
  rw [lg_entry_eq]
  generalize (lg_sl ([.ref m9]) ++ List.replicate (1 - (lg_sl ([.ref m9])).length) Slot.unset).toArray = ls at hl ⊢
  have hl : lv_has ls 1 [(0, .ref m9)] := hl
  refine lv_aload_n hx hb dX1_thrown_0 rfl (lv_at hl 0 rfl) ?_
  refine va_get (D := (dC, dI)) (ci := 1) (v := .int th) (C := RX1) (T := TX1) (N := 18) hx hb hts hinX1 hown hK hP 0 rfl rfl 0 (by decide) f28 (fun _ h9 => h9) rfl dX1_thrown_1 ?_
  exact W.iret (v := th) hx hb hr (fun t ht hW => ⟨th, rfl, rfl, ht⟩) t_nil dX1_thrown_4
end
section
set_option maxHeartbeats 4000000 in
set_option maxRecDepth 100000 in
theorem c_X1_goes (l : Launch) (dC : Nat → ClassId) (dI : Nat → Nat → Nat) (sz : Nat) (m9 b1 b2 b3 b4 b5 b6 : Nat) (cI : ClassId) (S F D J X Y : Nat → Int32) (th : Int32) (n : Nat) (ar sl hd : Int32) (hu hw : Int64) (im tc : Nat) (fa : Int32) (up dn : Int64) (q1 q2 q3 q4 : Prop) [Decidable q1] [Decidable q2] [Decidable q3] [Decidable q4] : Met l yX1_goes wsX1_goes ({ frames := 0, cells := 0, slots := 0, locals := 0 }) (va_Pc [.ref m9, .int (bI q1), .int (bI q2), .int (bI q3), .int (bI q4)] (fun U => U.heap.size = sz ∧ va_P (dC, dI) vwCl (wM m9 b1 b2 b3 b4 b5 b6 cI S F D J X Y th n ar sl hd hu hw im tc fa up dn) U.heap ∧ va_K (dC, dI) vwCl [(cI, .int)] U ∧ va_D (fun _ => True) (wM m9 b1 b2 b3 b4 b5 b6 cI S F D J X Y th n ar sl hd hu hw im tc fa up dn))) (va_Qi (fun r (_ : Unit) => r = bI (kd4 q1 q2 q3 q4 = 0)) (fun (_ : Unit) t => at_w dC dI cI (va_A (wM m9 b1 b2 b3 b4 b5 b6 cI S F D J X Y th n ar sl hd hu hw im tc fa up dn) sz) (wM m9 b1 b2 b3 b4 b5 b6 cI S F D J X Y (kd4 q1 q2 q3 q4) n ar sl hd hu hw im tc fa up dn) t) (va_A (wM m9 b1 b2 b3 b4 b5 b6 cI S F D J X Y th n ar sl hd hu hw im tc fa up dn) sz)) 0 0 (va_A (wM m9 b1 b2 b3 b4 b5 b6 cI S F D J X Y th n ar sl hd hu hw im tc fa up dn) sz) := by
  refine Met.ofW (cc := cX1_goes) (maxL := 5) (ret := (some .boolean)) (by decide) rfl ?_
  intro p e s m args below meth c s₁ B hml hv
  obtain ⟨rfl, hsz, hP, hK, hD0⟩ := hv
  have hx := B.exec
  have hb := B.bytes
  have hr := B.returns
  have hts := atoms_spec (ws := wsX1_goes) B.pre
  have hown : s.vm.findClass RX1 = some m.cls := findClass_of_methodNamed B.named
  have hlocks := B.notSynchronized
  have hinX1 : ∀ w ∈ wsX10, w ∈ wsX1_goes := fun w h => List.mem_cons_of_mem _ (inX1 w h)
  have f28 := hts _ (List.mem_cons_of_mem _ wl_X1_28)
  subst hsz
  have hD := hD0.self (sz := s.heap.size)
  generalize hAe : va_A (wM m9 b1 b2 b3 b4 b5 b6 cI S F D J X Y th n ar sl hd hu hw im tc fa up dn) s.heap.size = A at hD ⊢
  have hA : ∀ q : Nat, s.heap.size ≤ q → A q := fun q h => by rw [← hAe]; exact Or.inr h
  have hS : va_S A s.heap s.heap [] := va_S.rf
  have hl := lv_entry ([.ref m9, .int (bI q1), .int (bI q2), .int (bI q3), .int (bI q4)]) (n := 5) (Nat.le_of_ble_eq_true rfl)
  rw [lg_entry_eq]
  generalize (lg_sl ([.ref m9, .int (bI q1), .int (bI q2), .int (bI q3), .int (bI q4)]) ++ List.replicate (5 - (lg_sl ([.ref m9, .int (bI q1), .int (bI q2), .int (bI q3), .int (bI q4)])).length) Slot.unset).toArray = ls at hl ⊢
  have hl : lv_has ls 5 [(0, .ref m9), (1, .int (bI q1)), (2, .int (bI q2)), (3, .int (bI q3)), (4, .int (bI q4))] := hl
  have J35 : ∀ (ls : Array Slot), lv_has ls 5 [(0, .ref m9)] → W p l e (headSpec wsX1_goes ({ frames := 0, cells := 0, slots := 0, locals := 0 })).room s m ([.ref m9, .int (bI q1), .int (bI q2), .int (bI q3), .int (bI q4)] : List Value).toArray below meth c s.heap [] 0 0 (MQ below (va_Qi (fun r (_ : Unit) => r = bI (kd4 q1 q2 q3 q4 = 0)) (fun (_ : Unit) t => at_w dC dI cI A (wM m9 b1 b2 b3 b4 b5 b6 cI S F D J X Y (kd4 q1 q2 q3 q4) n ar sl hd hu hw im tc fa up dn) t) A) ([.ref m9, .int (bI q1), .int (bI q2), .int (bI q3), .int (bI q4)] : List Value).toArray s 0 0 A) (F0 m 35 ls [.int (kd4 q1 q2 q3 q4), .ref m9]) := by
    intro ls hl
    refine va_put (D := (dC, dI)) (ci := 1) (v := .int (kd4 q1 q2 q3 q4)) (ty := .int) (C := RX1) (T := TX1) (N := 18) hx hb hts hinX1 tyX1 tyX1_ok nmX1 hown hK hP hD hS 0 rfl rfl 0 (by decide) f28 (fun _ h9 => h9) rfl (by decide +kernel) (rfl) (rfl) (Nat.le_of_ble_eq_true rfl) dX1_goes_35 (fun H locs hP hD hS => ?_)
    have hP : va_P (dC, dI) vwCl (wM m9 b1 b2 b3 b4 b5 b6 cI S F D J X Y (kd4 q1 q2 q3 q4) n ar sl hd hu hw im tc fa up dn) H := hP
    have hD : va_D A (wM m9 b1 b2 b3 b4 b5 b6 cI S F D J X Y (kd4 q1 q2 q3 q4) n ar sl hd hu hw im tc fa up dn) := hD
    refine lv_aload_n hx hb dX1_goes_38 rfl (lv_at hl 0 rfl) ?_
    refine va_get (D := (dC, dI)) (ci := 1) (v := .int (kd4 q1 q2 q3 q4)) (C := RX1) (T := TX1) (N := 18) hx hb hts hinX1 hown hK hP 0 rfl rfl 0 (by decide) f28 (fun _ h9 => h9) rfl dX1_goes_39 ?_
    refine lv_if_ne (tgt := 49) hx hb dX1_goes_42 (by decide) (fun c42 => ?_) (fun c42 => ?_)
    · -- taken at 42
      refine lv_iconst (v := 0) hx hb dX1_goes_49 (by decide) ?_
      exact W.zret (v := 0) hx hb hr rfl (fun t ht hW => ⟨⟨0, (), rfl, (bI_0 c42).symm, ⟨by rw [ht]; exact hP, va_K.moved hW.alike hK, hD⟩⟩, hS.F ht⟩) hS.2.2 dX1_goes_50
    · -- not taken at 42
      refine lv_iconst (v := 1) hx hb dX1_goes_45 (by decide) ?_
      refine lv_goto (tgt := 50) hx hb dX1_goes_46 (by decide) ?_
      exact W.zret (v := 1) hx hb hr rfl (fun t ht hW => ⟨⟨1, (), rfl, (bI_1 c42).symm, ⟨by rw [ht]; exact hP, va_K.moved hW.alike hK, hD⟩⟩, hS.F ht⟩) hS.2.2 dX1_goes_50
  refine lv_aload_n hx hb dX1_goes_0 rfl (lv_at hl 0 rfl) ?_
  refine lv_iload_n hx hb dX1_goes_1 rfl (lv_at hl 1 rfl) ?_
  refine lv_if_ne (tgt := 9) hx hb dX1_goes_2 (by decide) (fun c2 => ?_) (fun c2 => ?_)
  · -- taken at 2
    have c2 := bI_ne0.mp c2
    refine lv_iload_n hx hb dX1_goes_9 rfl (lv_at hl 2 rfl) ?_
    refine lv_if_ne (tgt := 17) hx hb dX1_goes_10 (by decide) (fun c10 => ?_) (fun c10 => ?_)
    · -- taken at 10
      have c10 := bI_ne0.mp c10
      refine lv_iload_n hx hb dX1_goes_17 rfl (lv_at hl 3 rfl) ?_
      refine lv_if_ne (tgt := 25) hx hb dX1_goes_18 (by decide) (fun c18 => ?_) (fun c18 => ?_)
      · -- taken at 18
        have c18 := bI_ne0.mp c18
        refine lv_iload hx hb dX1_goes_25 (lv_at hl 4 rfl) ?_
        refine lv_if_ne (tgt := 34) hx hb dX1_goes_27 (by decide) (fun c27 => ?_) (fun c27 => ?_)
        · -- taken at 27
          have c27 := bI_ne0.mp c27
          refine lv_iconst (v := 0) hx hb dX1_goes_34 (by decide) ?_
          refine W.eq (congrArg (fun z => F0 m 35 ls (.int z :: [.ref m9])) ((kd_0 (a := q1) (b := q2) (c := q3) (d := q4) c2 c10 c18 c27).symm)) ?_
          exact J35 ls (lv_sub hl [0] rfl)
        · -- not taken at 27
          have c27 := bI_eq0.mp c27
          refine lv_iconst (v := 4) hx hb dX1_goes_30 (by decide) ?_
          refine lv_goto (tgt := 35) hx hb dX1_goes_31 (by decide) ?_
          refine W.eq (congrArg (fun z => F0 m 35 ls (.int z :: [.ref m9])) ((kd_4 (a := q1) (b := q2) (c := q3) (d := q4) c2 c10 c18 c27).symm)) ?_
          exact J35 ls (lv_sub hl [0] rfl)
      · -- not taken at 18
        have c18 := bI_eq0.mp c18
        refine lv_iconst (v := 3) hx hb dX1_goes_21 (by decide) ?_
        refine lv_goto (tgt := 35) hx hb dX1_goes_22 (by decide) ?_
        refine W.eq (congrArg (fun z => F0 m 35 ls (.int z :: [.ref m9])) ((kd_3 (a := q1) (b := q2) (c := q3) (d := q4) c2 c10 c18).symm)) ?_
        exact J35 ls (lv_sub hl [0] rfl)
    · -- not taken at 10
      have c10 := bI_eq0.mp c10
      refine lv_iconst (v := 2) hx hb dX1_goes_13 (by decide) ?_
      refine lv_goto (tgt := 35) hx hb dX1_goes_14 (by decide) ?_
      refine W.eq (congrArg (fun z => F0 m 35 ls (.int z :: [.ref m9])) ((kd_2 (a := q1) (b := q2) (c := q3) (d := q4) c2 c10).symm)) ?_
      exact J35 ls (lv_sub hl [0] rfl)
  · -- not taken at 2
    have c2 := bI_eq0.mp c2
    refine lv_iconst (v := 1) hx hb dX1_goes_5 (by decide) ?_
    refine lv_goto (tgt := 35) hx hb dX1_goes_6 (by decide) ?_
    refine W.eq (congrArg (fun z => F0 m 35 ls (.int z :: [.ref m9])) ((kd_1 (a := q1) (b := q2) (c := q3) (d := q4) c2).symm)) ?_
    exact J35 ls (lv_sub hl [0] rfl)
set_option maxHeartbeats 4000000 in
set_option maxRecDepth 100000 in
theorem c_X1_part (l : Launch) (dC : Nat → ClassId) (dI : Nat → Nat → Nat) (sz : Nat) (m9 b1 b2 b3 b4 b5 b6 : Nat) (cI : ClassId) (S F D J X Y : Nat → Int32) (th : Int32) (n : Nat) (ar sl hd : Int32) (hu hw : Int64) (im tc : Nat) (fa : Int32) (up dn : Int64) (y1 y2 : Int64) (p3 : Int32) (h1 : y1.toInt ≠ -2 ^ 63) (h2 : 0 < y2.toInt) : Met l yX1_part wsX1_part ({ frames := 0, cells := 0, slots := 0, locals := 0 }) (va_Pc [.ref m9, .long y1, .long y2, .int p3] (fun U => U.heap.size = sz ∧ va_P (dC, dI) vwCl (wM m9 b1 b2 b3 b4 b5 b6 cI S F D J X Y th n ar sl hd hu hw im tc fa up dn) U.heap ∧ va_K (dC, dI) vwCl [(cI, .int)] U ∧ va_D (fun _ => True) (wM m9 b1 b2 b3 b4 b5 b6 cI S F D J X Y th n ar sl hd hu hw im tc fa up dn))) (va_Ql (fun r (u : Int64 × Int64) => r.toInt = fr y1.toInt y2.toInt p3.toInt ∧ u.1.toInt = fr y1.toInt y2.toInt 0 ∧ u.2.toInt = fr y1.toInt y2.toInt 1) (fun (u : Int64 × Int64) t => at_w dC dI cI (va_A (wM m9 b1 b2 b3 b4 b5 b6 cI S F D J X Y th n ar sl hd hu hw im tc fa up dn) sz) (wM m9 b1 b2 b3 b4 b5 b6 cI S F D J X Y th n ar sl hd hu hw im tc fa u.1 u.2) t) (va_A (wM m9 b1 b2 b3 b4 b5 b6 cI S F D J X Y th n ar sl hd hu hw im tc fa up dn) sz)) 0 0 (va_A (wM m9 b1 b2 b3 b4 b5 b6 cI S F D J X Y th n ar sl hd hu hw im tc fa up dn) sz) := by
  refine Met.ofW (cc := cX1_part) (maxL := 12) (ret := (some .long)) (by decide) rfl ?_
  intro p e s m args below meth c s₁ B hml hv
  obtain ⟨rfl, hsz, hP, hK, hD0⟩ := hv
  have hx := B.exec
  have hb := B.bytes
  have hr := B.returns
  have hts := atoms_spec (ws := wsX1_part) B.pre
  have hown : s.vm.findClass RX1 = some m.cls := findClass_of_methodNamed B.named
  have hlocks := B.notSynchronized
  have hinX1 : ∀ w ∈ wsX10, w ∈ wsX1_part := fun w h => List.mem_cons_of_mem _ (inX1 w h)
  have f32 := hts _ (List.mem_cons_of_mem _ wl_X1_32)
  have f36 := hts _ (List.mem_cons_of_mem _ wl_X1_36)
  subst hsz
  have hD := hD0.self (sz := s.heap.size)
  generalize hAe : va_A (wM m9 b1 b2 b3 b4 b5 b6 cI S F D J X Y th n ar sl hd hu hw im tc fa up dn) s.heap.size = A at hD ⊢
  have hA : ∀ q : Nat, s.heap.size ≤ q → A q := fun q h => by rw [← hAe]; exact Or.inr h
  have hS : va_S A s.heap s.heap [] := va_S.rf
  have hl := lv_entry ([.ref m9, .long y1, .long y2, .int p3]) (n := 12) (Nat.le_of_ble_eq_true rfl)
  rw [lg_entry_eq]
  generalize (lg_sl ([.ref m9, .long y1, .long y2, .int p3]) ++ List.replicate (12 - (lg_sl ([.ref m9, .long y1, .long y2, .int p3])).length) Slot.unset).toArray = ls at hl ⊢
  have hl : lv_has ls 12 [(0, .ref m9), (1, .long y1), (3, .long y2), (5, .int p3)] := hl
  have L17 : ∀ (f : Nat) (u : Nat) (v : Nat) (g1 : Int64) (g2 : Int64) (ls : Array Slot), v + 1 ≤ f → (g1.toInt = (u : Int)) → (g2.toInt = (v : Int)) → (Nat.gcd u v = Nat.gcd y1.toInt.natAbs y2.toInt.natAbs) → lv_has ls 12 [(8, .long g2), (6, .long g1), (0, .ref m9), (1, .long y1), (3, .long y2), (5, .int p3)] → W p l e (headSpec wsX1_part ({ frames := 0, cells := 0, slots := 0, locals := 0 })).room s m ([.ref m9, .long y1, .long y2, .int p3] : List Value).toArray below meth c s.heap [] 0 0 (MQ below (va_Ql (fun r (u : Int64 × Int64) => r.toInt = fr y1.toInt y2.toInt p3.toInt ∧ u.1.toInt = fr y1.toInt y2.toInt 0 ∧ u.2.toInt = fr y1.toInt y2.toInt 1) (fun (u : Int64 × Int64) t => at_w dC dI cI A (wM m9 b1 b2 b3 b4 b5 b6 cI S F D J X Y th n ar sl hd hu hw im tc fa u.1 u.2) t) A) ([.ref m9, .long y1, .long y2, .int p3] : List Value).toArray s 0 0 A) (F0 m 17 ls []) := by
    intro f
    induction f with
    | zero => intro u v g1 g2 ls hm ju jv jg hl; exact absurd hm (by omega)
    | succ f ih =>
      intro u v g1 g2 ls hm ju jv jg hl
      refine lv_lload hx hb dX1_part_17 (lv_at hl 0 rfl) ?_
      refine lv_lconst (v := 0) hx hb dX1_part_19 (by decide) ?_
      refine W.lcmp hx hb dX1_part_20 ?_
      refine lv_if_eq (tgt := 42) hx hb dX1_part_21 (by decide) (fun c21 => ?_) (fun c21 => ?_)
      · -- taken at 21
        have c21 := (lg_cmp_eq _ _).mp c21
        have c21 : g2.toInt = 0 := (Int64.toInt_inj.symm).mp c21
        have hg1 := part_g (y1 := y1) (y2 := y2) h2 ju jg (show v = 0 by omega)
        refine lv_aload_n hx hb dX1_part_42 rfl (lv_at hl 2 rfl) ?_
        refine lv_lload_n hx hb dX1_part_43 rfl (lv_at hl 3 rfl) ?_
        refine lv_lload hx hb dX1_part_44 (lv_at hl 1 rfl) ?_
        refine lv_ldiv hx hb dX1_part_46 (fun q => by rw [q] at hg1; exact absurd hg1.2 (by decide)) ?_
        refine va_put (D := (dC, dI)) (ci := 1) (v := .long (y1 / g1)) (ty := .long) (C := RX1) (T := TX1) (N := 18) hx hb hts hinX1 tyX1 tyX1_ok nmX1 hown hK hP hD hS 0 rfl rfl 16 (by decide) f32 (fun _ h9 => h9) rfl (by decide +kernel) (rfl) (rfl) (Nat.le_of_ble_eq_true rfl) dX1_part_47 (fun H locs hP hD hS => ?_)
        have hP : va_P (dC, dI) vwCl (wM m9 b1 b2 b3 b4 b5 b6 cI S F D J X Y th n ar sl hd hu hw im tc fa (y1 / g1) dn) H := hP
        have hD : va_D A (wM m9 b1 b2 b3 b4 b5 b6 cI S F D J X Y th n ar sl hd hu hw im tc fa (y1 / g1) dn) := hD
        refine lv_aload_n hx hb dX1_part_50 rfl (lv_at hl 2 rfl) ?_
        refine lv_lload_n hx hb dX1_part_51 rfl (lv_at hl 4 rfl) ?_
        refine lv_lload hx hb dX1_part_52 (lv_at hl 1 rfl) ?_
        refine lv_ldiv hx hb dX1_part_54 (fun q => by rw [q] at hg1; exact absurd hg1.2 (by decide)) ?_
        refine va_put (D := (dC, dI)) (ci := 1) (v := .long (y2 / g1)) (ty := .long) (C := RX1) (T := TX1) (N := 18) hx hb hts hinX1 tyX1 tyX1_ok nmX1 hown hK hP hD hS 0 rfl rfl 17 (by decide) f36 (fun _ h9 => h9) rfl (by decide +kernel) (rfl) (rfl) (Nat.le_of_ble_eq_true rfl) dX1_part_55 (fun H locs hP hD hS => ?_)
        have hP : va_P (dC, dI) vwCl (wM m9 b1 b2 b3 b4 b5 b6 cI S F D J X Y th n ar sl hd hu hw im tc fa (y1 / g1) (y2 / g1)) H := hP
        have hD : va_D A (wM m9 b1 b2 b3 b4 b5 b6 cI S F D J X Y th n ar sl hd hu hw im tc fa (y1 / g1) (y2 / g1)) := hD
        refine lv_iload hx hb dX1_part_58 (lv_at hl 5 rfl) ?_
        refine lv_if_ne (tgt := 70) hx hb dX1_part_60 (by decide) (fun c60 => ?_) (fun c60 => ?_)
        · -- taken at 60
          have c60 : ¬ p3.toInt = 0 := fun q9 => c60 ((Int32.toInt_inj.symm).mpr q9)
          refine lv_aload_n hx hb dX1_part_70 rfl (lv_at hl 2 rfl) ?_
          refine va_get (D := (dC, dI)) (ci := 1) (v := .long (y2 / g1)) (C := RX1) (T := TX1) (N := 18) hx hb hts hinX1 hown hK hP 0 rfl rfl 17 (by decide) f36 (fun _ h9 => h9) rfl dX1_part_71 ?_
          exact W.lret (v := y2 / g1) hx hb hr (fun t ht hW => ⟨⟨y2 / g1, (y1 / g1, y2 / g1), rfl, ⟨part_r1 c60 (part_l h2 hg1), part_u h1 hg1, part_l h2 hg1⟩, ⟨by rw [ht]; exact hP, va_K.moved hW.alike hK, hD⟩⟩, hS.F ht⟩) hS.2.2 dX1_part_74
        · -- not taken at 60
          have c60 : p3.toInt = 0 := (Int32.toInt_inj.symm).mp c60
          refine lv_aload_n hx hb dX1_part_63 rfl (lv_at hl 2 rfl) ?_
          refine va_get (D := (dC, dI)) (ci := 1) (v := .long (y1 / g1)) (C := RX1) (T := TX1) (N := 18) hx hb hts hinX1 hown hK hP 0 rfl rfl 16 (by decide) f32 (fun _ h9 => h9) rfl dX1_part_64 ?_
          refine lv_goto (tgt := 74) hx hb dX1_part_67 (by decide) ?_
          exact W.lret (v := y1 / g1) hx hb hr (fun t ht hW => ⟨⟨y1 / g1, (y1 / g1, y2 / g1), rfl, ⟨part_r0 c60 (part_u h1 hg1), part_u h1 hg1, part_l h2 hg1⟩, ⟨by rw [ht]; exact hP, va_K.moved hW.alike hK, hD⟩⟩, hS.F ht⟩) hS.2.2 dX1_part_74
      · -- not taken at 21
        have c21 := fun q9 => c21 ((lg_cmp_eq _ _).mpr q9)
        have c21 : ¬ g2.toInt = 0 := fun q9 => c21 ((Int64.toInt_inj.symm).mpr q9)
        have hm9 := Nat.mod_lt u (show 0 < v by omega)
        refine lv_lload hx hb dX1_part_24 (lv_at hl 1 rfl) ?_
        refine lv_lload hx hb dX1_part_26 (lv_at hl 0 rfl) ?_
        refine lv_lrem hx hb dX1_part_28 (fun q => c21 (by rw [q]; rfl)) ?_
        refine lv_lstore (lv' := [(10, .long (g1 - g1 / g2 * g2)), (8, .long g2), (6, .long g1), (0, .ref m9), (1, .long y1), (3, .long y2), (5, .int p3)]) hx hb dX1_part_29 hl (by decide) rfl (fun ls hl => ?_)
        refine lv_lload hx hb dX1_part_31 (lv_at hl 1 rfl) ?_
        refine lv_lstore (lv' := [(6, .long g2), (10, .long (g1 - g1 / g2 * g2)), (8, .long g2), (0, .ref m9), (1, .long y1), (3, .long y2), (5, .int p3)]) hx hb dX1_part_33 hl (by decide) rfl (fun ls hl => ?_)
        refine lv_lload hx hb dX1_part_35 (lv_at hl 1 rfl) ?_
        refine lv_lstore (lv' := [(8, .long (g1 - g1 / g2 * g2)), (6, .long g2), (10, .long (g1 - g1 / g2 * g2)), (0, .ref m9), (1, .long y1), (3, .long y2), (5, .int p3)]) hx hb dX1_part_37 hl (by decide) rfl (fun ls hl => ?_)
        refine lv_goto (tgt := 17) hx hb dX1_part_39 (by decide) ?_
        exact ih v (u % v) g2 (g1 - g1 / g2 * g2) ls (by omega) jv (eu_rem ju jv) ((eu_gcd u v).trans jg) (lv_sub hl [0, 1, 3, 4, 5, 6] rfl)
  have J12 : ∀ (z : Int64) (ls : Array Slot), (z.toInt = (y1.toInt.natAbs : Int)) → lv_has ls 12 [(0, .ref m9), (1, .long y1), (3, .long y2), (5, .int p3)] → W p l e (headSpec wsX1_part ({ frames := 0, cells := 0, slots := 0, locals := 0 })).room s m ([.ref m9, .long y1, .long y2, .int p3] : List Value).toArray below meth c s.heap [] 0 0 (MQ below (va_Ql (fun r (u : Int64 × Int64) => r.toInt = fr y1.toInt y2.toInt p3.toInt ∧ u.1.toInt = fr y1.toInt y2.toInt 0 ∧ u.2.toInt = fr y1.toInt y2.toInt 1) (fun (u : Int64 × Int64) t => at_w dC dI cI A (wM m9 b1 b2 b3 b4 b5 b6 cI S F D J X Y th n ar sl hd hu hw im tc fa u.1 u.2) t) A) ([.ref m9, .long y1, .long y2, .int p3] : List Value).toArray s 0 0 A) (F0 m 12 ls [.long z]) := by
    intro z ls hz hl
    refine lv_lstore (lv' := [(6, .long z), (0, .ref m9), (1, .long y1), (3, .long y2), (5, .int p3)]) hx hb dX1_part_12 hl (by decide) rfl (fun ls hl => ?_)
    refine lv_lload_n hx hb dX1_part_14 rfl (lv_at hl 3 rfl) ?_
    refine lv_lstore (lv' := [(8, .long y2), (6, .long z), (0, .ref m9), (1, .long y1), (3, .long y2), (5, .int p3)]) hx hb dX1_part_15 hl (by decide) rfl (fun ls hl => ?_)
    exact L17 (y2.toInt.natAbs + 1) y1.toInt.natAbs y2.toInt.natAbs z y2 ls (by omega) hz (pit_pos h2) rfl (lv_sub hl [0, 1, 2, 3, 4, 5] rfl)
  refine lv_lload_n hx hb dX1_part_0 rfl (lv_at hl 1 rfl) ?_
  refine lv_lconst (v := 0) hx hb dX1_part_1 (by decide) ?_
  refine W.lcmp hx hb dX1_part_2 ?_
  refine lv_if_ge (tgt := 11) hx hb dX1_part_3 (by decide) (fun c3 => ?_) (fun c3 => ?_)
  · -- taken at 3
    have c3 := (lg_cmp_ge _ _).mp c3
    have c3 : 0 ≤ y1.toInt := (Int64.le_iff_toInt_le).mp c3
    refine lv_lload_n hx hb dX1_part_11 rfl (lv_at hl 1 rfl) ?_
    exact J12 y1 ls (by first | omega | (rw [Kit.i64_neg h1]; omega)) (lv_sub hl [0, 1, 2, 3] rfl)
  · -- not taken at 3
    have c3 := fun q9 => c3 ((lg_cmp_ge _ _).mpr q9)
    have c3 : ¬ 0 ≤ y1.toInt := fun q9 => c3 ((Int64.le_iff_toInt_le).mpr q9)
    refine lv_lload_n hx hb dX1_part_6 rfl (lv_at hl 1 rfl) ?_
    refine lv_lneg hx hb dX1_part_7 ?_
    refine lv_goto (tgt := 12) hx hb dX1_part_8 (by decide) ?_
    exact J12 (-y1) ls (by first | omega | (rw [Kit.i64_neg h1]; omega)) (lv_sub hl [0, 1, 2, 3] rfl)
end
section
set_option maxHeartbeats 4000000 in
set_option maxRecDepth 100000 in
theorem c_X1_row (l : Launch) (dC : Nat → ClassId) (dI : Nat → Nat → Nat) (sz : Nat) (m9 b1 b2 b3 b4 b5 b6 : Nat) (cI : ClassId) (S F D J X Y : Nat → Int32) (th : Int32) (n : Nat) (ar sl hd : Int32) (hu hw : Int64) (im tc : Nat) (fa : Int32) (up dn : Int64) (p1 p2 : Int32) (hn : n ≤ 40) : Met l yX1_row wsX1_row ({ frames := 1, cells := 0, slots := 0, locals := 24 }) (va_Pc [.ref m9, .int p1, .int p2] (fun U => U.heap.size = sz ∧ va_P (dC, dI) vwCl (wM m9 b1 b2 b3 b4 b5 b6 cI S F D J X Y th n ar sl hd hu hw im tc fa up dn) U.heap ∧ va_K (dC, dI) vwCl [(cI, .int)] U ∧ va_D (fun _ => True) (wM m9 b1 b2 b3 b4 b5 b6 cI S F D J X Y th n ar sl hd hu hw im tc fa up dn))) (va_Qi (fun r (_ : Unit) => kd4 (ok_row n S p1 p2) (n < 40) True True = 0 → r = nI (n + 1)) (fun (_ : Unit) t => (kd4 (ok_row n S p1 p2) (n < 40) True True = 0 ∧ at_w dC dI cI (va_A (wM m9 b1 b2 b3 b4 b5 b6 cI S F D J X Y th n ar sl hd hu hw im tc fa up dn) sz) (wM m9 b1 b2 b3 b4 b5 b6 cI (upd S n p1) (upd F n p2) D J X Y (kd4 (ok_row n S p1 p2) (n < 40) True True) (n + 1) ar sl hd hu hw im tc fa up dn) t) ∨ (¬ kd4 (ok_row n S p1 p2) (n < 40) True True = 0 ∧ at_w dC dI cI (va_A (wM m9 b1 b2 b3 b4 b5 b6 cI S F D J X Y th n ar sl hd hu hw im tc fa up dn) sz) (wM m9 b1 b2 b3 b4 b5 b6 cI S F D J X Y (kd4 (ok_row n S p1 p2) (n < 40) True True) n ar sl hd hu hw im tc fa up dn) t)) (va_A (wM m9 b1 b2 b3 b4 b5 b6 cI S F D J X Y th n ar sl hd hu hw im tc fa up dn) sz)) 0 0 (va_A (wM m9 b1 b2 b3 b4 b5 b6 cI S F D J X Y th n ar sl hd hu hw im tc fa up dn) sz) := by
  refine Met.ofW (cc := cX1_row) (maxL := 4) (ret := (some .int)) (by decide) rfl ?_
  intro p e s m args below meth c s₁ B hml hv
  obtain ⟨rfl, hsz, hP, hK, hD0⟩ := hv
  have hx := B.exec
  have hb := B.bytes
  have hr := B.returns
  have hts := atoms_spec (ws := wsX1_row) B.pre
  have hown : s.vm.findClass RX1 = some m.cls := findClass_of_methodNamed B.named
  have hlocks := B.notSynchronized
  have hinX1 : ∀ w ∈ wsX10, w ∈ wsX1_row := fun w h => List.mem_cons_of_mem _ (inX1 w h)
  have k39 := hts _ (List.mem_cons_of_mem _ wl_X1_39)
  have f44 := hts _ (List.mem_cons_of_mem _ wl_X1_44)
  have f7 := hts _ (List.mem_cons_of_mem _ wl_X1_7)
  have f13 := hts _ (List.mem_cons_of_mem _ wl_X1_13)
  subst hsz
  have hD := hD0.self (sz := s.heap.size)
  generalize hAe : va_A (wM m9 b1 b2 b3 b4 b5 b6 cI S F D J X Y th n ar sl hd hu hw im tc fa up dn) s.heap.size = A at hD ⊢
  have hA : ∀ q : Nat, s.heap.size ≤ q → A q := fun q h => by rw [← hAe]; exact Or.inr h
  have hS : va_S A s.heap s.heap [] := va_S.rf
  have hl := lv_entry ([.ref m9, .int p1, .int p2]) (n := 4) (Nat.le_of_ble_eq_true rfl)
  rw [lg_entry_eq]
  generalize (lg_sl ([.ref m9, .int p1, .int p2]) ++ List.replicate (4 - (lg_sl ([.ref m9, .int p1, .int p2])).length) Slot.unset).toArray = ls at hl ⊢
  have hl : lv_has ls 4 [(0, .ref m9), (1, .int p1), (2, .int p2)] := hl
  have J64 : ∀ (ls : Array Slot), lv_has ls 4 [(3, .int (bI (ok_row n S p1 p2))), (0, .ref m9), (1, .int p1), (2, .int p2)] → W p l e (headSpec wsX1_row ({ frames := 1, cells := 0, slots := 0, locals := 24 })).room s m ([.ref m9, .int p1, .int p2] : List Value).toArray below meth c s.heap [] 0 0 (MQ below (va_Qi (fun r (_ : Unit) => kd4 (ok_row n S p1 p2) (n < 40) True True = 0 → r = nI (n + 1)) (fun (_ : Unit) t => (kd4 (ok_row n S p1 p2) (n < 40) True True = 0 ∧ at_w dC dI cI A (wM m9 b1 b2 b3 b4 b5 b6 cI (upd S n p1) (upd F n p2) D J X Y (kd4 (ok_row n S p1 p2) (n < 40) True True) (n + 1) ar sl hd hu hw im tc fa up dn) t) ∨ (¬ kd4 (ok_row n S p1 p2) (n < 40) True True = 0 ∧ at_w dC dI cI A (wM m9 b1 b2 b3 b4 b5 b6 cI S F D J X Y (kd4 (ok_row n S p1 p2) (n < 40) True True) n ar sl hd hu hw im tc fa up dn) t)) A) ([.ref m9, .int p1, .int p2] : List Value).toArray s 0 0 A) (F0 m 64 ls [.int (bI (n < 40)), .int (bI (ok_row n S p1 p2)), .ref m9]) := by
    intro ls hl
    refine lv_iconst (v := 1) hx hb dX1_row_64 (by decide) ?_
    refine lv_iconst (v := 1) hx hb dX1_row_65 (by decide) ?_
    have hFc := va_free (wc := (wM m9 b1 b2 b3 b4 b5 b6 cI S F D J X Y th n ar sl hd hu hw im tc fa up dn)) hD hS hA [0, 1, 2, 3, 4, 5, 6] rfl
    refine va_calli (va_runV (As := [.int (bI (ok_row n S p1 p2)), .int (bI (n < 40)), .int 1, .int 1]) (rest := []) ⟨hx, hb, hml, hown, hts⟩ (c_X1_goes l dC dI s.heap.size m9 b1 b2 b3 b4 b5 b6 cI S F D J X Y th n ar sl hd hu hw im tc fa up dn (ok_row n S p1 p2) (n < 40) True True) (cwV 4 hts (gV wl_X1_47 wi_X1_goes wv_X1_goes wi_X1 wc_X1_goes) rfl rfl rfl (by decide +kernel) ⟨Nat.le_of_ble_eq_true rfl, Nat.le_of_ble_eq_true rfl⟩) ⟨fun a U g mk q => ⟨q.1, q.2.1, q.2.2.1, va_K.moved (u := U) (U := U.calling g mk a) (Vm.Alike.refl U.vm) q.2.2.2.1, q.2.2.2.2⟩, va_recv hK hP (ci := 1) (q0 := 0) rfl rfl, fun U hU hW => ⟨rfl, by rw [hU], by rw [hU]; exact hP, va_K.moved hW.alike hK, hD.weaken (fun _ _ _ _ => trivial)⟩⟩ rfl rfl hl.1 rfl (lv_room (Nat.le_of_ble_eq_true rfl)) dX1_row_66 ⟨Nat.le_of_ble_eq_true rfl, Nat.le_of_ble_eq_true rfl⟩) hS (fun q _ h => hFc q h) hFc (fun r66 u66 t H1 locs ht hvm h66 hB hz1 hk1 hS => ?_)
    obtain ⟨hP1, hK1, hD1⟩ := hB
    rw [ht] at hP1
    obtain ⟨hP, hD⟩ := va_join (wr := []) (w1 := (wM m9 b1 b2 b3 b4 b5 b6 cI S F D J X Y (kd4 (ok_row n S p1 p2) (n < 40) True True) n ar sl hd hu hw im tc fa up dn)) hP hD [0, 1, 2, 3, 4, 5, 6] [] rfl rfl (by decide) (by decide) hk1 hFc hP1 hD1
    generalize H1 = H at hP hS ⊢
    have hP : va_P (dC, dI) vwCl (wM m9 b1 b2 b3 b4 b5 b6 cI S F D J X Y (kd4 (ok_row n S p1 p2) (n < 40) True True) n ar sl hd hu hw im tc fa up dn) H := hP
    have hD : va_D A (wM m9 b1 b2 b3 b4 b5 b6 cI S F D J X Y (kd4 (ok_row n S p1 p2) (n < 40) True True) n ar sl hd hu hw im tc fa up dn) := hD
    subst h66
    refine lv_if_ne (tgt := 74) hx hb dX1_row_69 (by decide) (fun c69 => ?_) (fun c69 => ?_)
    · -- taken at 69
      have c69 := bI_ne0.mp c69
      have hn4 := (kd_z c69).2.1
      refine lv_aload_n hx hb dX1_row_74 rfl (lv_at hl 1 rfl) ?_
      refine va_get (D := (dC, dI)) (ci := 1) (v := .ref b1) (C := RX1) (T := TX1) (N := 18) hx hb hts hinX1 hown hK hP 0 rfl rfl 2 (by decide) f7 (fun _ h9 => h9) rfl dX1_row_75 ?_
      refine lv_aload_n hx hb dX1_row_78 rfl (lv_at hl 1 rfl) ?_
      refine va_get (D := (dC, dI)) (ci := 1) (v := .int (nI n)) (C := RX1) (T := TX1) (N := 18) hx hb hts hinX1 hown hK hP 0 rfl rfl 1 (by decide) f44 (fun _ h9 => h9) rfl dX1_row_79 ?_
      refine lv_iload_n hx hb dX1_row_82 rfl (lv_at hl 2 rfl) ?_
      refine va_iast (D := (dC, dI)) hx hb hK hP hD hS 1 0 rfl rfl (vp_in_nI (show n < 40 by omega) (by decide)) dX1_row_83 (fun H locs hP hD hS => ?_)
      rw [show (nI n : Int32).toNatClampNeg = n from nI_clamp (show n < 2 ^ 31 by omega)] at hP hD
      have hP : va_P (dC, dI) vwCl (wM m9 b1 b2 b3 b4 b5 b6 cI (upd S n p1) F D J X Y (kd4 (ok_row n S p1 p2) (n < 40) True True) n ar sl hd hu hw im tc fa up dn) H := hP
      have hD : va_D A (wM m9 b1 b2 b3 b4 b5 b6 cI (upd S n p1) F D J X Y (kd4 (ok_row n S p1 p2) (n < 40) True True) n ar sl hd hu hw im tc fa up dn) := hD
      refine lv_aload_n hx hb dX1_row_84 rfl (lv_at hl 1 rfl) ?_
      refine va_get (D := (dC, dI)) (ci := 1) (v := .ref b2) (C := RX1) (T := TX1) (N := 18) hx hb hts hinX1 hown hK hP 0 rfl rfl 3 (by decide) f13 (fun _ h9 => h9) rfl dX1_row_85 ?_
      refine lv_aload_n hx hb dX1_row_88 rfl (lv_at hl 1 rfl) ?_
      refine va_get (D := (dC, dI)) (ci := 1) (v := .int (nI n)) (C := RX1) (T := TX1) (N := 18) hx hb hts hinX1 hown hK hP 0 rfl rfl 1 (by decide) f44 (fun _ h9 => h9) rfl dX1_row_89 ?_
      refine lv_iload_n hx hb dX1_row_92 rfl (lv_at hl 3 rfl) ?_
      refine va_iast (D := (dC, dI)) hx hb hK hP hD hS 2 0 rfl rfl (vp_in_nI (show n < 40 by omega) (by decide)) dX1_row_93 (fun H locs hP hD hS => ?_)
      rw [show (nI n : Int32).toNatClampNeg = n from nI_clamp (show n < 2 ^ 31 by omega)] at hP hD
      have hP : va_P (dC, dI) vwCl (wM m9 b1 b2 b3 b4 b5 b6 cI (upd S n p1) (upd F n p2) D J X Y (kd4 (ok_row n S p1 p2) (n < 40) True True) n ar sl hd hu hw im tc fa up dn) H := hP
      have hD : va_D A (wM m9 b1 b2 b3 b4 b5 b6 cI (upd S n p1) (upd F n p2) D J X Y (kd4 (ok_row n S p1 p2) (n < 40) True True) n ar sl hd hu hw im tc fa up dn) := hD
      refine lv_aload_n hx hb dX1_row_94 rfl (lv_at hl 1 rfl) ?_
      refine lv_dup hx hb dX1_row_95 rfl ?_
      refine va_get (D := (dC, dI)) (ci := 1) (v := .int (nI n)) (C := RX1) (T := TX1) (N := 18) hx hb hts hinX1 hown hK hP 0 rfl rfl 1 (by decide) f44 (fun _ h9 => h9) rfl dX1_row_96 ?_
      refine lv_iconst (v := 1) hx hb dX1_row_99 (by decide) ?_
      refine lv_iadd hx hb dX1_row_100 ?_
      refine W.eq (congrArg (fun z => F0 m 101 ls (.int z :: [.ref m9])) (nI_1 n)) ?_
      refine va_put (D := (dC, dI)) (ci := 1) (v := .int (nI (n + 1))) (ty := .int) (C := RX1) (T := TX1) (N := 18) hx hb hts hinX1 tyX1 tyX1_ok nmX1 hown hK hP hD hS 0 rfl rfl 1 (by decide) f44 (fun _ h9 => h9) rfl (by decide +kernel) (rfl) (rfl) (Nat.le_of_ble_eq_true rfl) dX1_row_101 (fun H locs hP hD hS => ?_)
      have hP : va_P (dC, dI) vwCl (wM m9 b1 b2 b3 b4 b5 b6 cI (upd S n p1) (upd F n p2) D J X Y (kd4 (ok_row n S p1 p2) (n < 40) True True) (n + 1) ar sl hd hu hw im tc fa up dn) H := hP
      have hD : va_D A (wM m9 b1 b2 b3 b4 b5 b6 cI (upd S n p1) (upd F n p2) D J X Y (kd4 (ok_row n S p1 p2) (n < 40) True True) (n + 1) ar sl hd hu hw im tc fa up dn) := hD
      refine lv_aload_n hx hb dX1_row_104 rfl (lv_at hl 1 rfl) ?_
      refine va_get (D := (dC, dI)) (ci := 1) (v := .int (nI (n + 1))) (C := RX1) (T := TX1) (N := 18) hx hb hts hinX1 hown hK hP 0 rfl rfl 1 (by decide) f44 (fun _ h9 => h9) rfl dX1_row_105 ?_
      exact W.iret (v := nI (n + 1)) hx hb hr (fun t ht hW => ⟨⟨nI (n + 1), (), rfl, fun _ => rfl, Or.inl ⟨c69, ⟨by rw [ht]; exact hP, va_K.moved hW.alike hK, hD⟩⟩⟩, hS.F ht⟩) hS.2.2 dX1_row_108
    · -- not taken at 69
      have c69 := bI_eq0.mp c69
      refine lv_iconst (v := 0) hx hb dX1_row_72 (by decide) ?_
      exact W.iret (v := 0) hx hb hr (fun t ht hW => ⟨⟨0, (), rfl, fun q => absurd q c69, Or.inr ⟨c69, ⟨by rw [ht]; exact hP, va_K.moved hW.alike hK, hD⟩⟩⟩, hS.F ht⟩) hS.2.2 dX1_row_73
  have J47 : ∀ (ls : Array Slot), lv_has ls 4 [(0, .ref m9), (1, .int p1), (2, .int p2)] → W p l e (headSpec wsX1_row ({ frames := 1, cells := 0, slots := 0, locals := 24 })).room s m ([.ref m9, .int p1, .int p2] : List Value).toArray below meth c s.heap [] 0 0 (MQ below (va_Qi (fun r (_ : Unit) => kd4 (ok_row n S p1 p2) (n < 40) True True = 0 → r = nI (n + 1)) (fun (_ : Unit) t => (kd4 (ok_row n S p1 p2) (n < 40) True True = 0 ∧ at_w dC dI cI A (wM m9 b1 b2 b3 b4 b5 b6 cI (upd S n p1) (upd F n p2) D J X Y (kd4 (ok_row n S p1 p2) (n < 40) True True) (n + 1) ar sl hd hu hw im tc fa up dn) t) ∨ (¬ kd4 (ok_row n S p1 p2) (n < 40) True True = 0 ∧ at_w dC dI cI A (wM m9 b1 b2 b3 b4 b5 b6 cI S F D J X Y (kd4 (ok_row n S p1 p2) (n < 40) True True) n ar sl hd hu hw im tc fa up dn) t)) A) ([.ref m9, .int p1, .int p2] : List Value).toArray s 0 0 A) (F0 m 47 ls [.int (bI (ok_row n S p1 p2))]) := by
    intro ls hl
    refine lv_istore_n (lv' := [(3, .int (bI (ok_row n S p1 p2))), (0, .ref m9), (1, .int p1), (2, .int p2)]) hx hb dX1_row_47 rfl hl (by decide) rfl (fun ls hl => ?_)
    refine lv_aload_n hx hb dX1_row_48 rfl (lv_at hl 1 rfl) ?_
    refine lv_iload_n hx hb dX1_row_49 rfl (lv_at hl 0 rfl) ?_
    refine lv_aload_n hx hb dX1_row_50 rfl (lv_at hl 1 rfl) ?_
    refine va_get (D := (dC, dI)) (ci := 1) (v := .int (nI n)) (C := RX1) (T := TX1) (N := 18) hx hb hts hinX1 hown hK hP 0 rfl rfl 1 (by decide) f44 (fun _ h9 => h9) rfl dX1_row_51 ?_
    refine lv_bipush (v := 40) hx hb dX1_row_54 (by decide) ?_
    refine lv_icmp_ge (tgt := 63) hx hb dX1_row_56 (by decide) (fun c56 => ?_) (fun c56 => ?_)
    · -- taken at 56
      have c56 : 40 ≤ n := (nI_leI (a := 40) (b := n) (by omega) (by omega)).mp c56
      refine lv_iconst (v := 0) hx hb dX1_row_63 (by decide) ?_
      refine W.eq (congrArg (fun z => F0 m 64 ls (.int z :: [.int (bI (ok_row n S p1 p2)), .ref m9])) ((bI_0 (c := n < 40) (by omega)).symm)) ?_
      exact J64 ls (lv_sub hl [0, 1, 2, 3] rfl)
    · -- not taken at 56
      have c56 : ¬ 40 ≤ n := fun q9 => c56 ((nI_leI (a := 40) (b := n) (by omega) (by omega)).mpr q9)
      refine lv_iconst (v := 1) hx hb dX1_row_59 (by decide) ?_
      refine lv_goto (tgt := 64) hx hb dX1_row_60 (by decide) ?_
      refine W.eq (congrArg (fun z => F0 m 64 ls (.int z :: [.int (bI (ok_row n S p1 p2)), .ref m9])) ((bI_1 (c := n < 40) (by omega)).symm)) ?_
      exact J64 ls (lv_sub hl [0, 1, 2, 3] rfl)
  refine lv_iload_n hx hb dX1_row_0 rfl (lv_at hl 1 rfl) ?_
  refine lv_iconst (v := 0) hx hb dX1_row_1 (by decide) ?_
  refine lv_ldc (v := 1000000) hx hb hown k39 dX1_row_2 ?_
  refine vp_callSi (W.runS (As := [.int p1, .int 0, .int 1000000]) (rest := []) ⟨hx, hb, hml, hown, hts⟩ (c_X1_in l p1 0 1000000 0 1000000 (by decide) (by decide)) (va_cwS 3 hts (gS wl_X1_40 ws_X1_in wi_X1 wc_X1_in) rfl rfl rfl (by decide +kernel) ⟨Nat.le_of_ble_eq_true rfl, Nat.le_of_ble_eq_true rfl⟩) ⟨fun _ _ _ _ q => q, fun U hU hW => ⟨rfl, trivial⟩⟩ rfl rfl hl.1 rfl (lv_room (Nat.le_of_ble_eq_true rfl)) dX1_row_4 ⟨Nat.le_of_ble_eq_true rfl, Nat.le_of_ble_eq_true rfl⟩) (fun r4 h4 => ?_)
  subst h4
  refine lv_if_eq (tgt := 46) hx hb dX1_row_7 (by decide) (fun c7 => ?_) (fun c7 => ?_)
  · -- taken at 7
    have c7 := bI_eq0.mp c7
    refine lv_iconst (v := 0) hx hb dX1_row_46 (by decide) ?_
    refine W.eq (congrArg (fun z => F0 m 47 ls (.int z :: [])) ((bI_0 (c := ok_row n S p1 p2) (by unfold ok_row; omega)).symm)) ?_
    exact J47 ls (lv_sub hl [0, 1, 2] rfl)
  · -- not taken at 7
    have c7 := bI_ne0.mp c7
    refine lv_iload_n hx hb dX1_row_10 rfl (lv_at hl 2 rfl) ?_
    refine lv_iconst (v := 0) hx hb dX1_row_11 (by decide) ?_
    refine lv_ldc (v := 1000000) hx hb hown k39 dX1_row_12 ?_
    refine vp_callSi (W.runS (As := [.int p2, .int 0, .int 1000000]) (rest := []) ⟨hx, hb, hml, hown, hts⟩ (c_X1_in l p2 0 1000000 0 1000000 (by decide) (by decide)) (va_cwS 3 hts (gS wl_X1_40 ws_X1_in wi_X1 wc_X1_in) rfl rfl rfl (by decide +kernel) ⟨Nat.le_of_ble_eq_true rfl, Nat.le_of_ble_eq_true rfl⟩) ⟨fun _ _ _ _ q => q, fun U hU hW => ⟨rfl, trivial⟩⟩ rfl rfl hl.1 rfl (lv_room (Nat.le_of_ble_eq_true rfl)) dX1_row_14 ⟨Nat.le_of_ble_eq_true rfl, Nat.le_of_ble_eq_true rfl⟩) (fun r14 h14 => ?_)
    subst h14
    refine lv_if_eq (tgt := 46) hx hb dX1_row_17 (by decide) (fun c17 => ?_) (fun c17 => ?_)
    · -- taken at 17
      have c17 := bI_eq0.mp c17
      refine lv_iconst (v := 0) hx hb dX1_row_46 (by decide) ?_
      refine W.eq (congrArg (fun z => F0 m 47 ls (.int z :: [])) ((bI_0 (c := ok_row n S p1 p2) (by unfold ok_row; omega)).symm)) ?_
      exact J47 ls (lv_sub hl [0, 1, 2] rfl)
    · -- not taken at 17
      have c17 := bI_ne0.mp c17
      refine lv_aload_n hx hb dX1_row_20 rfl (lv_at hl 0 rfl) ?_
      refine va_get (D := (dC, dI)) (ci := 1) (v := .int (nI n)) (C := RX1) (T := TX1) (N := 18) hx hb hts hinX1 hown hK hP 0 rfl rfl 1 (by decide) f44 (fun _ h9 => h9) rfl dX1_row_21 ?_
      refine lv_if_eq (tgt := 42) hx hb dX1_row_24 (by decide) (fun c24 => ?_) (fun c24 => ?_)
      · -- taken at 24
        have c24 : n = 0 := (nI_eq (a := n) (b := 0) (by omega) (by omega)).mp c24
        refine lv_iconst (v := 1) hx hb dX1_row_42 (by decide) ?_
        refine lv_goto (tgt := 47) hx hb dX1_row_43 (by decide) ?_
        refine W.eq (congrArg (fun z => F0 m 47 ls (.int z :: [])) ((bI_1 (c := ok_row n S p1 p2) (by unfold ok_row; omega)).symm)) ?_
        exact J47 ls (lv_sub hl [0, 1, 2] rfl)
      · -- not taken at 24
        have c24 : ¬ n = 0 := fun q9 => c24 ((nI_eq (a := n) (b := 0) (by omega) (by omega)).mpr q9)
        refine lv_iload_n hx hb dX1_row_27 rfl (lv_at hl 1 rfl) ?_
        refine lv_aload_n hx hb dX1_row_28 rfl (lv_at hl 0 rfl) ?_
        refine va_get (D := (dC, dI)) (ci := 1) (v := .ref b1) (C := RX1) (T := TX1) (N := 18) hx hb hts hinX1 hown hK hP 0 rfl rfl 2 (by decide) f7 (fun _ h9 => h9) rfl dX1_row_29 ?_
        refine lv_aload_n hx hb dX1_row_32 rfl (lv_at hl 0 rfl) ?_
        refine va_get (D := (dC, dI)) (ci := 1) (v := .int (nI n)) (C := RX1) (T := TX1) (N := 18) hx hb hts hinX1 hown hK hP 0 rfl rfl 1 (by decide) f44 (fun _ h9 => h9) rfl dX1_row_33 ?_
        refine lv_iconst (v := 1) hx hb dX1_row_36 (by decide) ?_
        refine lv_isub hx hb dX1_row_37 ?_
        refine W.eq (congrArg (fun z => F0 m 38 ls (.int z :: [.ref b1, .int p1])) (nI_p1 (by omega))) ?_
        refine va_iald (D := (dC, dI)) hx hb hK hP 1 0 rfl rfl (vp_in_nI (show n - 1 < 40 by omega) (by decide)) dX1_row_38 ?_
        refine W.eq (congrArg (fun z => F0 m 39 ls (.int z :: [.int p1])) (congrArg S (nI_clamp (show n - 1 < 2 ^ 31 by omega)))) ?_
        refine lv_icmp_le (tgt := 46) hx hb dX1_row_39 (by decide) (fun c39 => ?_) (fun c39 => ?_)
        · -- taken at 39
          have c39 : p1.toInt ≤ (S (n - 1)).toInt := (Int32.le_iff_toInt_le).mp c39
          refine lv_iconst (v := 0) hx hb dX1_row_46 (by decide) ?_
          refine W.eq (congrArg (fun z => F0 m 47 ls (.int z :: [])) ((bI_0 (c := ok_row n S p1 p2) (by unfold ok_row; omega)).symm)) ?_
          exact J47 ls (lv_sub hl [0, 1, 2] rfl)
        · -- not taken at 39
          have c39 : ¬ p1.toInt ≤ (S (n - 1)).toInt := fun q9 => c39 ((Int32.le_iff_toInt_le).mpr q9)
          refine lv_iconst (v := 1) hx hb dX1_row_42 (by decide) ?_
          refine lv_goto (tgt := 47) hx hb dX1_row_43 (by decide) ?_
          refine W.eq (congrArg (fun z => F0 m 47 ls (.int z :: [])) ((bI_1 (c := ok_row n S p1 p2) (by unfold ok_row; omega)).symm)) ?_
          exact J47 ls (lv_sub hl [0, 1, 2] rfl)
set_option maxHeartbeats 4000000 in
set_option maxRecDepth 100000 in
theorem c_X1_section (l : Launch) (dC : Nat → ClassId) (dI : Nat → Nat → Nat) (sz : Nat) (m9 b1 b2 b3 b4 b5 b6 : Nat) (cI : ClassId) (S F D J X Y : Nat → Int32) (th : Int32) (n : Nat) (ar sl hd : Int32) (hu hw : Int64) (im tc : Nat) (fa : Int32) (up dn : Int64) (p1 p2 : Int32) : Met l yX1_section wsX1_section ({ frames := 1, cells := 0, slots := 0, locals := 24 }) (va_Pc [.ref m9, .int p1, .int p2] (fun U => U.heap.size = sz ∧ va_P (dC, dI) vwCl (wM m9 b1 b2 b3 b4 b5 b6 cI S F D J X Y th n ar sl hd hu hw im tc fa up dn) U.heap ∧ va_K (dC, dI) vwCl [(cI, .int)] U ∧ va_D (fun _ => True) (wM m9 b1 b2 b3 b4 b5 b6 cI S F D J X Y th n ar sl hd hu hw im tc fa up dn))) (va_Qv (fun (_ : Unit) => True) (fun (_ : Unit) t => (kd4 (ok_sec p1 p2) True True True = 0 ∧ at_w dC dI cI (va_A (wM m9 b1 b2 b3 b4 b5 b6 cI S F D J X Y th n ar sl hd hu hw im tc fa up dn) sz) (wM m9 b1 b2 b3 b4 b5 b6 cI S F D J X Y (kd4 (ok_sec p1 p2) True True True) n p1 p2 hd hu hw im tc fa up dn) t) ∨ (¬ kd4 (ok_sec p1 p2) True True True = 0 ∧ at_w dC dI cI (va_A (wM m9 b1 b2 b3 b4 b5 b6 cI S F D J X Y th n ar sl hd hu hw im tc fa up dn) sz) (wM m9 b1 b2 b3 b4 b5 b6 cI S F D J X Y (kd4 (ok_sec p1 p2) True True True) n ar sl hd hu hw im tc fa up dn) t)) (va_A (wM m9 b1 b2 b3 b4 b5 b6 cI S F D J X Y th n ar sl hd hu hw im tc fa up dn) sz)) 0 0 (va_A (wM m9 b1 b2 b3 b4 b5 b6 cI S F D J X Y th n ar sl hd hu hw im tc fa up dn) sz) := by
  refine Met.ofW (cc := cX1_section) (maxL := 3) (ret := none) (by decide) rfl ?_
  intro p e s m args below meth c s₁ B hml hv
  obtain ⟨rfl, hsz, hP, hK, hD0⟩ := hv
  have hx := B.exec
  have hb := B.bytes
  have hr := B.returns
  have hts := atoms_spec (ws := wsX1_section) B.pre
  have hown : s.vm.findClass RX1 = some m.cls := findClass_of_methodNamed B.named
  have hlocks := B.notSynchronized
  have hinX1 : ∀ w ∈ wsX10, w ∈ wsX1_section := fun w h => List.mem_cons_of_mem _ (inX1 w h)
  have k39 := hts _ (List.mem_cons_of_mem _ wl_X1_39)
  have f51 := hts _ (List.mem_cons_of_mem _ wl_X1_51)
  have f54 := hts _ (List.mem_cons_of_mem _ wl_X1_54)
  subst hsz
  have hD := hD0.self (sz := s.heap.size)
  generalize hAe : va_A (wM m9 b1 b2 b3 b4 b5 b6 cI S F D J X Y th n ar sl hd hu hw im tc fa up dn) s.heap.size = A at hD ⊢
  have hA : ∀ q : Nat, s.heap.size ≤ q → A q := fun q h => by rw [← hAe]; exact Or.inr h
  have hS : va_S A s.heap s.heap [] := va_S.rf
  have hl := lv_entry ([.ref m9, .int p1, .int p2]) (n := 3) (Nat.le_of_ble_eq_true rfl)
  rw [lg_entry_eq]
  generalize (lg_sl ([.ref m9, .int p1, .int p2]) ++ List.replicate (3 - (lg_sl ([.ref m9, .int p1, .int p2])).length) Slot.unset).toArray = ls at hl ⊢
  have hl : lv_has ls 3 [(0, .ref m9), (1, .int p1), (2, .int p2)] := hl
  have J27 : ∀ (ls : Array Slot), lv_has ls 3 [(0, .ref m9), (1, .int p1), (2, .int p2)] → W p l e (headSpec wsX1_section ({ frames := 1, cells := 0, slots := 0, locals := 24 })).room s m ([.ref m9, .int p1, .int p2] : List Value).toArray below meth c s.heap [] 0 0 (MQ below (va_Qv (fun (_ : Unit) => True) (fun (_ : Unit) t => (kd4 (ok_sec p1 p2) True True True = 0 ∧ at_w dC dI cI A (wM m9 b1 b2 b3 b4 b5 b6 cI S F D J X Y (kd4 (ok_sec p1 p2) True True True) n p1 p2 hd hu hw im tc fa up dn) t) ∨ (¬ kd4 (ok_sec p1 p2) True True True = 0 ∧ at_w dC dI cI A (wM m9 b1 b2 b3 b4 b5 b6 cI S F D J X Y (kd4 (ok_sec p1 p2) True True True) n ar sl hd hu hw im tc fa up dn) t)) A) ([.ref m9, .int p1, .int p2] : List Value).toArray s 0 0 A) (F0 m 27 ls [.int (bI (ok_sec p1 p2)), .ref m9]) := by
    intro ls hl
    refine lv_iconst (v := 1) hx hb dX1_section_27 (by decide) ?_
    refine lv_iconst (v := 1) hx hb dX1_section_28 (by decide) ?_
    refine lv_iconst (v := 1) hx hb dX1_section_29 (by decide) ?_
    have hFc := va_free (wc := (wM m9 b1 b2 b3 b4 b5 b6 cI S F D J X Y th n ar sl hd hu hw im tc fa up dn)) hD hS hA [0, 1, 2, 3, 4, 5, 6] rfl
    refine va_calli (va_runV (As := [.int (bI (ok_sec p1 p2)), .int 1, .int 1, .int 1]) (rest := []) ⟨hx, hb, hml, hown, hts⟩ (c_X1_goes l dC dI s.heap.size m9 b1 b2 b3 b4 b5 b6 cI S F D J X Y th n ar sl hd hu hw im tc fa up dn (ok_sec p1 p2) True True True) (cwV 4 hts (gV wl_X1_47 wi_X1_goes wv_X1_goes wi_X1 wc_X1_goes) rfl rfl rfl (by decide +kernel) ⟨Nat.le_of_ble_eq_true rfl, Nat.le_of_ble_eq_true rfl⟩) ⟨fun a U g mk q => ⟨q.1, q.2.1, q.2.2.1, va_K.moved (u := U) (U := U.calling g mk a) (Vm.Alike.refl U.vm) q.2.2.2.1, q.2.2.2.2⟩, va_recv hK hP (ci := 1) (q0 := 0) rfl rfl, fun U hU hW => ⟨rfl, by rw [hU], by rw [hU]; exact hP, va_K.moved hW.alike hK, hD.weaken (fun _ _ _ _ => trivial)⟩⟩ rfl rfl hl.1 rfl (lv_room (Nat.le_of_ble_eq_true rfl)) dX1_section_30 ⟨Nat.le_of_ble_eq_true rfl, Nat.le_of_ble_eq_true rfl⟩) hS (fun q _ h => hFc q h) hFc (fun r30 u30 t H1 locs ht hvm h30 hB hz1 hk1 hS => ?_)
    obtain ⟨hP1, hK1, hD1⟩ := hB
    rw [ht] at hP1
    obtain ⟨hP, hD⟩ := va_join (wr := []) (w1 := (wM m9 b1 b2 b3 b4 b5 b6 cI S F D J X Y (kd4 (ok_sec p1 p2) True True True) n ar sl hd hu hw im tc fa up dn)) hP hD [0, 1, 2, 3, 4, 5, 6] [] rfl rfl (by decide) (by decide) hk1 hFc hP1 hD1
    generalize H1 = H at hP hS ⊢
    have hP : va_P (dC, dI) vwCl (wM m9 b1 b2 b3 b4 b5 b6 cI S F D J X Y (kd4 (ok_sec p1 p2) True True True) n ar sl hd hu hw im tc fa up dn) H := hP
    have hD : va_D A (wM m9 b1 b2 b3 b4 b5 b6 cI S F D J X Y (kd4 (ok_sec p1 p2) True True True) n ar sl hd hu hw im tc fa up dn) := hD
    subst h30
    refine lv_if_ne (tgt := 37) hx hb dX1_section_33 (by decide) (fun c33 => ?_) (fun c33 => ?_)
    · -- taken at 33
      have c33 := bI_ne0.mp c33
      refine lv_aload_n hx hb dX1_section_37 rfl (lv_at hl 0 rfl) ?_
      refine lv_iload_n hx hb dX1_section_38 rfl (lv_at hl 1 rfl) ?_
      refine va_put (D := (dC, dI)) (ci := 1) (v := .int p1) (ty := .int) (C := RX1) (T := TX1) (N := 18) hx hb hts hinX1 tyX1 tyX1_ok nmX1 hown hK hP hD hS 0 rfl rfl 4 (by decide) f51 (fun _ h9 => h9) rfl (by decide +kernel) (rfl) (rfl) (Nat.le_of_ble_eq_true rfl) dX1_section_39 (fun H locs hP hD hS => ?_)
      have hP : va_P (dC, dI) vwCl (wM m9 b1 b2 b3 b4 b5 b6 cI S F D J X Y (kd4 (ok_sec p1 p2) True True True) n p1 sl hd hu hw im tc fa up dn) H := hP
      have hD : va_D A (wM m9 b1 b2 b3 b4 b5 b6 cI S F D J X Y (kd4 (ok_sec p1 p2) True True True) n p1 sl hd hu hw im tc fa up dn) := hD
      refine lv_aload_n hx hb dX1_section_42 rfl (lv_at hl 0 rfl) ?_
      refine lv_iload_n hx hb dX1_section_43 rfl (lv_at hl 2 rfl) ?_
      refine va_put (D := (dC, dI)) (ci := 1) (v := .int p2) (ty := .int) (C := RX1) (T := TX1) (N := 18) hx hb hts hinX1 tyX1 tyX1_ok nmX1 hown hK hP hD hS 0 rfl rfl 5 (by decide) f54 (fun _ h9 => h9) rfl (by decide +kernel) (rfl) (rfl) (Nat.le_of_ble_eq_true rfl) dX1_section_44 (fun H locs hP hD hS => ?_)
      have hP : va_P (dC, dI) vwCl (wM m9 b1 b2 b3 b4 b5 b6 cI S F D J X Y (kd4 (ok_sec p1 p2) True True True) n p1 p2 hd hu hw im tc fa up dn) H := hP
      have hD : va_D A (wM m9 b1 b2 b3 b4 b5 b6 cI S F D J X Y (kd4 (ok_sec p1 p2) True True True) n p1 p2 hd hu hw im tc fa up dn) := hD
      exact W.vret hx hb hr (fun t ht hW => ⟨⟨(), rfl, trivial, Or.inl ⟨c33, ⟨by rw [ht]; exact hP, va_K.moved hW.alike hK, hD⟩⟩⟩, hS.F ht⟩) hS.2.2 dX1_section_47
    · -- not taken at 33
      have c33 := bI_eq0.mp c33
      exact W.vret hx hb hr (fun t ht hW => ⟨⟨(), rfl, trivial, Or.inr ⟨c33, ⟨by rw [ht]; exact hP, va_K.moved hW.alike hK, hD⟩⟩⟩, hS.F ht⟩) hS.2.2 dX1_section_36
  refine lv_aload_n hx hb dX1_section_0 rfl (lv_at hl 0 rfl) ?_
  refine lv_iload_n hx hb dX1_section_1 rfl (lv_at hl 1 rfl) ?_
  refine lv_iconst (v := 1) hx hb dX1_section_2 (by decide) ?_
  refine lv_sipush (v := 10000) hx hb dX1_section_3 (by decide) ?_
  refine vp_callSi (W.runS (As := [.int p1, .int 1, .int 10000]) (rest := [.ref m9]) ⟨hx, hb, hml, hown, hts⟩ (c_X1_in l p1 1 10000 1 10000 (by decide) (by decide)) (va_cwS 3 hts (gS wl_X1_40 ws_X1_in wi_X1 wc_X1_in) rfl rfl rfl (by decide +kernel) ⟨Nat.le_of_ble_eq_true rfl, Nat.le_of_ble_eq_true rfl⟩) ⟨fun _ _ _ _ q => q, fun U hU hW => ⟨rfl, trivial⟩⟩ rfl rfl hl.1 rfl (lv_room (Nat.le_of_ble_eq_true rfl)) dX1_section_6 ⟨Nat.le_of_ble_eq_true rfl, Nat.le_of_ble_eq_true rfl⟩) (fun r6 h6 => ?_)
  subst h6
  refine lv_if_eq (tgt := 26) hx hb dX1_section_9 (by decide) (fun c9 => ?_) (fun c9 => ?_)
  · -- taken at 9
    have c9 := bI_eq0.mp c9
    refine lv_iconst (v := 0) hx hb dX1_section_26 (by decide) ?_
    refine W.eq (congrArg (fun z => F0 m 27 ls (.int z :: [.ref m9])) ((bI_0 (c := ok_sec p1 p2) (by unfold ok_sec; omega)).symm)) ?_
    exact J27 ls (lv_sub hl [0, 1, 2] rfl)
  · -- not taken at 9
    have c9 := bI_ne0.mp c9
    refine lv_iload_n hx hb dX1_section_12 rfl (lv_at hl 2 rfl) ?_
    refine lv_iconst (v := 0) hx hb dX1_section_13 (by decide) ?_
    refine lv_ldc (v := 1000000) hx hb hown k39 dX1_section_14 ?_
    refine vp_callSi (W.runS (As := [.int p2, .int 0, .int 1000000]) (rest := [.ref m9]) ⟨hx, hb, hml, hown, hts⟩ (c_X1_in l p2 0 1000000 0 1000000 (by decide) (by decide)) (va_cwS 3 hts (gS wl_X1_40 ws_X1_in wi_X1 wc_X1_in) rfl rfl rfl (by decide +kernel) ⟨Nat.le_of_ble_eq_true rfl, Nat.le_of_ble_eq_true rfl⟩) ⟨fun _ _ _ _ q => q, fun U hU hW => ⟨rfl, trivial⟩⟩ rfl rfl hl.1 rfl (lv_room (Nat.le_of_ble_eq_true rfl)) dX1_section_16 ⟨Nat.le_of_ble_eq_true rfl, Nat.le_of_ble_eq_true rfl⟩) (fun r16 h16 => ?_)
    subst h16
    refine lv_if_eq (tgt := 26) hx hb dX1_section_19 (by decide) (fun c19 => ?_) (fun c19 => ?_)
    · -- taken at 19
      have c19 := bI_eq0.mp c19
      refine lv_iconst (v := 0) hx hb dX1_section_26 (by decide) ?_
      refine W.eq (congrArg (fun z => F0 m 27 ls (.int z :: [.ref m9])) ((bI_0 (c := ok_sec p1 p2) (by unfold ok_sec; omega)).symm)) ?_
      exact J27 ls (lv_sub hl [0, 1, 2] rfl)
    · -- not taken at 19
      have c19 := bI_ne0.mp c19
      refine lv_iconst (v := 1) hx hb dX1_section_22 (by decide) ?_
      refine lv_goto (tgt := 27) hx hb dX1_section_23 (by decide) ?_
      refine W.eq (congrArg (fun z => F0 m 27 ls (.int z :: [.ref m9])) ((bI_1 (c := ok_sec p1 p2) (by unfold ok_sec; omega)).symm)) ?_
      exact J27 ls (lv_sub hl [0, 1, 2] rfl)
set_option maxHeartbeats 4000000 in
set_option maxRecDepth 100000 in
theorem c_X1_impact (l : Launch) (dC : Nat → ClassId) (dI : Nat → Nat → Nat) (sz : Nat) (m9 b1 b2 b3 b4 b5 b6 : Nat) (cI : ClassId) (S F D J X Y : Nat → Int32) (th : Int32) (n : Nat) (ar sl hd : Int32) (hu hw : Int64) (im tc : Nat) (fa : Int32) (up dn : Int64) (p1 p2 : Int32) (hi8 : im ≤ 8) : Met l yX1_impact wsX1_impact ({ frames := 1, cells := 0, slots := 0, locals := 24 }) (va_Pc [.ref m9, .int p1, .int p2] (fun U => U.heap.size = sz ∧ va_P (dC, dI) vwCl (wM m9 b1 b2 b3 b4 b5 b6 cI S F D J X Y th n ar sl hd hu hw im tc fa up dn) U.heap ∧ va_K (dC, dI) vwCl [(cI, .int)] U ∧ va_D (fun _ => True) (wM m9 b1 b2 b3 b4 b5 b6 cI S F D J X Y th n ar sl hd hu hw im tc fa up dn))) (va_Qi (fun r (_ : Unit) => kd4 (ok_imp p1 p2) (im < 8) True True = 0 → r = nI (im + 1)) (fun (_ : Unit) t => (kd4 (ok_imp p1 p2) (im < 8) True True = 0 ∧ at_w dC dI cI (va_A (wM m9 b1 b2 b3 b4 b5 b6 cI S F D J X Y th n ar sl hd hu hw im tc fa up dn) sz) (wM m9 b1 b2 b3 b4 b5 b6 cI S F (upd D im p1) (upd J im p2) X Y (kd4 (ok_imp p1 p2) (im < 8) True True) n ar sl hd hu hw (im + 1) tc fa up dn) t) ∨ (¬ kd4 (ok_imp p1 p2) (im < 8) True True = 0 ∧ at_w dC dI cI (va_A (wM m9 b1 b2 b3 b4 b5 b6 cI S F D J X Y th n ar sl hd hu hw im tc fa up dn) sz) (wM m9 b1 b2 b3 b4 b5 b6 cI S F D J X Y (kd4 (ok_imp p1 p2) (im < 8) True True) n ar sl hd hu hw im tc fa up dn) t)) (va_A (wM m9 b1 b2 b3 b4 b5 b6 cI S F D J X Y th n ar sl hd hu hw im tc fa up dn) sz)) 0 0 (va_A (wM m9 b1 b2 b3 b4 b5 b6 cI S F D J X Y th n ar sl hd hu hw im tc fa up dn) sz) := by
  refine Met.ofW (cc := cX1_impact) (maxL := 3) (ret := (some .int)) (by decide) rfl ?_
  intro p e s m args below meth c s₁ B hml hv
  obtain ⟨rfl, hsz, hP, hK, hD0⟩ := hv
  have hx := B.exec
  have hb := B.bytes
  have hr := B.returns
  have hts := atoms_spec (ws := wsX1_impact) B.pre
  have hown : s.vm.findClass RX1 = some m.cls := findClass_of_methodNamed B.named
  have hlocks := B.notSynchronized
  have hinX1 : ∀ w ∈ wsX10, w ∈ wsX1_impact := fun w h => List.mem_cons_of_mem _ (inX1 w h)
  have f81 := hts _ (List.mem_cons_of_mem _ wl_X1_81)
  have f16 := hts _ (List.mem_cons_of_mem _ wl_X1_16)
  have f19 := hts _ (List.mem_cons_of_mem _ wl_X1_19)
  subst hsz
  have hD := hD0.self (sz := s.heap.size)
  generalize hAe : va_A (wM m9 b1 b2 b3 b4 b5 b6 cI S F D J X Y th n ar sl hd hu hw im tc fa up dn) s.heap.size = A at hD ⊢
  have hA : ∀ q : Nat, s.heap.size ≤ q → A q := fun q h => by rw [← hAe]; exact Or.inr h
  have hS : va_S A s.heap s.heap [] := va_S.rf
  have hl := lv_entry ([.ref m9, .int p1, .int p2]) (n := 3) (Nat.le_of_ble_eq_true rfl)
  rw [lg_entry_eq]
  generalize (lg_sl ([.ref m9, .int p1, .int p2]) ++ List.replicate (3 - (lg_sl ([.ref m9, .int p1, .int p2])).length) Slot.unset).toArray = ls at hl ⊢
  have hl : lv_has ls 3 [(0, .ref m9), (1, .int p1), (2, .int p2)] := hl
  have J44 : ∀ (ls : Array Slot), lv_has ls 3 [(0, .ref m9), (1, .int p1), (2, .int p2)] → W p l e (headSpec wsX1_impact ({ frames := 1, cells := 0, slots := 0, locals := 24 })).room s m ([.ref m9, .int p1, .int p2] : List Value).toArray below meth c s.heap [] 0 0 (MQ below (va_Qi (fun r (_ : Unit) => kd4 (ok_imp p1 p2) (im < 8) True True = 0 → r = nI (im + 1)) (fun (_ : Unit) t => (kd4 (ok_imp p1 p2) (im < 8) True True = 0 ∧ at_w dC dI cI A (wM m9 b1 b2 b3 b4 b5 b6 cI S F (upd D im p1) (upd J im p2) X Y (kd4 (ok_imp p1 p2) (im < 8) True True) n ar sl hd hu hw (im + 1) tc fa up dn) t) ∨ (¬ kd4 (ok_imp p1 p2) (im < 8) True True = 0 ∧ at_w dC dI cI A (wM m9 b1 b2 b3 b4 b5 b6 cI S F D J X Y (kd4 (ok_imp p1 p2) (im < 8) True True) n ar sl hd hu hw im tc fa up dn) t)) A) ([.ref m9, .int p1, .int p2] : List Value).toArray s 0 0 A) (F0 m 44 ls [.int (bI (im < 8)), .int (bI (ok_imp p1 p2)), .ref m9]) := by
    intro ls hl
    refine lv_iconst (v := 1) hx hb dX1_impact_44 (by decide) ?_
    refine lv_iconst (v := 1) hx hb dX1_impact_45 (by decide) ?_
    have hFc := va_free (wc := (wM m9 b1 b2 b3 b4 b5 b6 cI S F D J X Y th n ar sl hd hu hw im tc fa up dn)) hD hS hA [0, 1, 2, 3, 4, 5, 6] rfl
    refine va_calli (va_runV (As := [.int (bI (ok_imp p1 p2)), .int (bI (im < 8)), .int 1, .int 1]) (rest := []) ⟨hx, hb, hml, hown, hts⟩ (c_X1_goes l dC dI s.heap.size m9 b1 b2 b3 b4 b5 b6 cI S F D J X Y th n ar sl hd hu hw im tc fa up dn (ok_imp p1 p2) (im < 8) True True) (cwV 4 hts (gV wl_X1_47 wi_X1_goes wv_X1_goes wi_X1 wc_X1_goes) rfl rfl rfl (by decide +kernel) ⟨Nat.le_of_ble_eq_true rfl, Nat.le_of_ble_eq_true rfl⟩) ⟨fun a U g mk q => ⟨q.1, q.2.1, q.2.2.1, va_K.moved (u := U) (U := U.calling g mk a) (Vm.Alike.refl U.vm) q.2.2.2.1, q.2.2.2.2⟩, va_recv hK hP (ci := 1) (q0 := 0) rfl rfl, fun U hU hW => ⟨rfl, by rw [hU], by rw [hU]; exact hP, va_K.moved hW.alike hK, hD.weaken (fun _ _ _ _ => trivial)⟩⟩ rfl rfl hl.1 rfl (lv_room (Nat.le_of_ble_eq_true rfl)) dX1_impact_46 ⟨Nat.le_of_ble_eq_true rfl, Nat.le_of_ble_eq_true rfl⟩) hS (fun q _ h => hFc q h) hFc (fun r46 u46 t H1 locs ht hvm h46 hB hz1 hk1 hS => ?_)
    obtain ⟨hP1, hK1, hD1⟩ := hB
    rw [ht] at hP1
    obtain ⟨hP, hD⟩ := va_join (wr := []) (w1 := (wM m9 b1 b2 b3 b4 b5 b6 cI S F D J X Y (kd4 (ok_imp p1 p2) (im < 8) True True) n ar sl hd hu hw im tc fa up dn)) hP hD [0, 1, 2, 3, 4, 5, 6] [] rfl rfl (by decide) (by decide) hk1 hFc hP1 hD1
    generalize H1 = H at hP hS ⊢
    have hP : va_P (dC, dI) vwCl (wM m9 b1 b2 b3 b4 b5 b6 cI S F D J X Y (kd4 (ok_imp p1 p2) (im < 8) True True) n ar sl hd hu hw im tc fa up dn) H := hP
    have hD : va_D A (wM m9 b1 b2 b3 b4 b5 b6 cI S F D J X Y (kd4 (ok_imp p1 p2) (im < 8) True True) n ar sl hd hu hw im tc fa up dn) := hD
    subst h46
    refine lv_if_ne (tgt := 54) hx hb dX1_impact_49 (by decide) (fun c49 => ?_) (fun c49 => ?_)
    · -- taken at 49
      have c49 := bI_ne0.mp c49
      have hn4 := (kd_z c49).2.1
      refine lv_aload_n hx hb dX1_impact_54 rfl (lv_at hl 0 rfl) ?_
      refine va_get (D := (dC, dI)) (ci := 1) (v := .ref b3) (C := RX1) (T := TX1) (N := 18) hx hb hts hinX1 hown hK hP 0 rfl rfl 10 (by decide) f16 (fun _ h9 => h9) rfl dX1_impact_55 ?_
      refine lv_aload_n hx hb dX1_impact_58 rfl (lv_at hl 0 rfl) ?_
      refine va_get (D := (dC, dI)) (ci := 1) (v := .int (nI im)) (C := RX1) (T := TX1) (N := 18) hx hb hts hinX1 hown hK hP 0 rfl rfl 9 (by decide) f81 (fun _ h9 => h9) rfl dX1_impact_59 ?_
      refine lv_iload_n hx hb dX1_impact_62 rfl (lv_at hl 1 rfl) ?_
      refine va_iast (D := (dC, dI)) hx hb hK hP hD hS 3 0 rfl rfl (vp_in_nI (show im < 8 by omega) (by decide)) dX1_impact_63 (fun H locs hP hD hS => ?_)
      rw [show (nI im : Int32).toNatClampNeg = im from nI_clamp (show im < 2 ^ 31 by omega)] at hP hD
      have hP : va_P (dC, dI) vwCl (wM m9 b1 b2 b3 b4 b5 b6 cI S F (upd D im p1) J X Y (kd4 (ok_imp p1 p2) (im < 8) True True) n ar sl hd hu hw im tc fa up dn) H := hP
      have hD : va_D A (wM m9 b1 b2 b3 b4 b5 b6 cI S F (upd D im p1) J X Y (kd4 (ok_imp p1 p2) (im < 8) True True) n ar sl hd hu hw im tc fa up dn) := hD
      refine lv_aload_n hx hb dX1_impact_64 rfl (lv_at hl 0 rfl) ?_
      refine va_get (D := (dC, dI)) (ci := 1) (v := .ref b4) (C := RX1) (T := TX1) (N := 18) hx hb hts hinX1 hown hK hP 0 rfl rfl 11 (by decide) f19 (fun _ h9 => h9) rfl dX1_impact_65 ?_
      refine lv_aload_n hx hb dX1_impact_68 rfl (lv_at hl 0 rfl) ?_
      refine va_get (D := (dC, dI)) (ci := 1) (v := .int (nI im)) (C := RX1) (T := TX1) (N := 18) hx hb hts hinX1 hown hK hP 0 rfl rfl 9 (by decide) f81 (fun _ h9 => h9) rfl dX1_impact_69 ?_
      refine lv_iload_n hx hb dX1_impact_72 rfl (lv_at hl 2 rfl) ?_
      refine va_iast (D := (dC, dI)) hx hb hK hP hD hS 4 0 rfl rfl (vp_in_nI (show im < 8 by omega) (by decide)) dX1_impact_73 (fun H locs hP hD hS => ?_)
      rw [show (nI im : Int32).toNatClampNeg = im from nI_clamp (show im < 2 ^ 31 by omega)] at hP hD
      have hP : va_P (dC, dI) vwCl (wM m9 b1 b2 b3 b4 b5 b6 cI S F (upd D im p1) (upd J im p2) X Y (kd4 (ok_imp p1 p2) (im < 8) True True) n ar sl hd hu hw im tc fa up dn) H := hP
      have hD : va_D A (wM m9 b1 b2 b3 b4 b5 b6 cI S F (upd D im p1) (upd J im p2) X Y (kd4 (ok_imp p1 p2) (im < 8) True True) n ar sl hd hu hw im tc fa up dn) := hD
      refine lv_aload_n hx hb dX1_impact_74 rfl (lv_at hl 0 rfl) ?_
      refine lv_dup hx hb dX1_impact_75 rfl ?_
      refine va_get (D := (dC, dI)) (ci := 1) (v := .int (nI im)) (C := RX1) (T := TX1) (N := 18) hx hb hts hinX1 hown hK hP 0 rfl rfl 9 (by decide) f81 (fun _ h9 => h9) rfl dX1_impact_76 ?_
      refine lv_iconst (v := 1) hx hb dX1_impact_79 (by decide) ?_
      refine lv_iadd hx hb dX1_impact_80 ?_
      refine W.eq (congrArg (fun z => F0 m 81 ls (.int z :: [.ref m9])) (nI_1 im)) ?_
      refine va_put (D := (dC, dI)) (ci := 1) (v := .int (nI (im + 1))) (ty := .int) (C := RX1) (T := TX1) (N := 18) hx hb hts hinX1 tyX1 tyX1_ok nmX1 hown hK hP hD hS 0 rfl rfl 9 (by decide) f81 (fun _ h9 => h9) rfl (by decide +kernel) (rfl) (rfl) (Nat.le_of_ble_eq_true rfl) dX1_impact_81 (fun H locs hP hD hS => ?_)
      have hP : va_P (dC, dI) vwCl (wM m9 b1 b2 b3 b4 b5 b6 cI S F (upd D im p1) (upd J im p2) X Y (kd4 (ok_imp p1 p2) (im < 8) True True) n ar sl hd hu hw (im + 1) tc fa up dn) H := hP
      have hD : va_D A (wM m9 b1 b2 b3 b4 b5 b6 cI S F (upd D im p1) (upd J im p2) X Y (kd4 (ok_imp p1 p2) (im < 8) True True) n ar sl hd hu hw (im + 1) tc fa up dn) := hD
      refine lv_aload_n hx hb dX1_impact_84 rfl (lv_at hl 0 rfl) ?_
      refine va_get (D := (dC, dI)) (ci := 1) (v := .int (nI (im + 1))) (C := RX1) (T := TX1) (N := 18) hx hb hts hinX1 hown hK hP 0 rfl rfl 9 (by decide) f81 (fun _ h9 => h9) rfl dX1_impact_85 ?_
      exact W.iret (v := nI (im + 1)) hx hb hr (fun t ht hW => ⟨⟨nI (im + 1), (), rfl, fun _ => rfl, Or.inl ⟨c49, ⟨by rw [ht]; exact hP, va_K.moved hW.alike hK, hD⟩⟩⟩, hS.F ht⟩) hS.2.2 dX1_impact_88
    · -- not taken at 49
      have c49 := bI_eq0.mp c49
      refine lv_iconst (v := 0) hx hb dX1_impact_52 (by decide) ?_
      exact W.iret (v := 0) hx hb hr (fun t ht hW => ⟨⟨0, (), rfl, fun q => absurd q c49, Or.inr ⟨c49, ⟨by rw [ht]; exact hP, va_K.moved hW.alike hK, hD⟩⟩⟩, hS.F ht⟩) hS.2.2 dX1_impact_53
  have J30 : ∀ (ls : Array Slot), lv_has ls 3 [(0, .ref m9), (1, .int p1), (2, .int p2)] → W p l e (headSpec wsX1_impact ({ frames := 1, cells := 0, slots := 0, locals := 24 })).room s m ([.ref m9, .int p1, .int p2] : List Value).toArray below meth c s.heap [] 0 0 (MQ below (va_Qi (fun r (_ : Unit) => kd4 (ok_imp p1 p2) (im < 8) True True = 0 → r = nI (im + 1)) (fun (_ : Unit) t => (kd4 (ok_imp p1 p2) (im < 8) True True = 0 ∧ at_w dC dI cI A (wM m9 b1 b2 b3 b4 b5 b6 cI S F (upd D im p1) (upd J im p2) X Y (kd4 (ok_imp p1 p2) (im < 8) True True) n ar sl hd hu hw (im + 1) tc fa up dn) t) ∨ (¬ kd4 (ok_imp p1 p2) (im < 8) True True = 0 ∧ at_w dC dI cI A (wM m9 b1 b2 b3 b4 b5 b6 cI S F D J X Y (kd4 (ok_imp p1 p2) (im < 8) True True) n ar sl hd hu hw im tc fa up dn) t)) A) ([.ref m9, .int p1, .int p2] : List Value).toArray s 0 0 A) (F0 m 30 ls [.int (bI (ok_imp p1 p2)), .ref m9]) := by
    intro ls hl
    refine lv_aload_n hx hb dX1_impact_30 rfl (lv_at hl 0 rfl) ?_
    refine va_get (D := (dC, dI)) (ci := 1) (v := .int (nI im)) (C := RX1) (T := TX1) (N := 18) hx hb hts hinX1 hown hK hP 0 rfl rfl 9 (by decide) f81 (fun _ h9 => h9) rfl dX1_impact_31 ?_
    refine lv_bipush (v := 8) hx hb dX1_impact_34 (by decide) ?_
    refine lv_icmp_ge (tgt := 43) hx hb dX1_impact_36 (by decide) (fun c36 => ?_) (fun c36 => ?_)
    · -- taken at 36
      have c36 : 8 ≤ im := (nI_leI (a := 8) (b := im) (by omega) (by omega)).mp c36
      refine lv_iconst (v := 0) hx hb dX1_impact_43 (by decide) ?_
      refine W.eq (congrArg (fun z => F0 m 44 ls (.int z :: [.int (bI (ok_imp p1 p2)), .ref m9])) ((bI_0 (c := im < 8) (by omega)).symm)) ?_
      exact J44 ls (lv_sub hl [0, 1, 2] rfl)
    · -- not taken at 36
      have c36 : ¬ 8 ≤ im := fun q9 => c36 ((nI_leI (a := 8) (b := im) (by omega) (by omega)).mpr q9)
      refine lv_iconst (v := 1) hx hb dX1_impact_39 (by decide) ?_
      refine lv_goto (tgt := 44) hx hb dX1_impact_40 (by decide) ?_
      refine W.eq (congrArg (fun z => F0 m 44 ls (.int z :: [.int (bI (ok_imp p1 p2)), .ref m9])) ((bI_1 (c := im < 8) (by omega)).symm)) ?_
      exact J44 ls (lv_sub hl [0, 1, 2] rfl)
  refine lv_aload_n hx hb dX1_impact_0 rfl (lv_at hl 0 rfl) ?_
  refine lv_iload_n hx hb dX1_impact_1 rfl (lv_at hl 1 rfl) ?_
  refine lv_sipush (v := (-200)) hx hb dX1_impact_2 (by decide) ?_
  refine lv_sipush (v := 200) hx hb dX1_impact_5 (by decide) ?_
  refine vp_callSi (W.runS (As := [.int p1, .int (-200), .int 200]) (rest := [.ref m9]) ⟨hx, hb, hml, hown, hts⟩ (c_X1_in l p1 (-200) 200 (-200) 200 (by decide) (by decide)) (va_cwS 3 hts (gS wl_X1_40 ws_X1_in wi_X1 wc_X1_in) rfl rfl rfl (by decide +kernel) ⟨Nat.le_of_ble_eq_true rfl, Nat.le_of_ble_eq_true rfl⟩) ⟨fun _ _ _ _ q => q, fun U hU hW => ⟨rfl, trivial⟩⟩ rfl rfl hl.1 rfl (lv_room (Nat.le_of_ble_eq_true rfl)) dX1_impact_8 ⟨Nat.le_of_ble_eq_true rfl, Nat.le_of_ble_eq_true rfl⟩) (fun r8 h8 => ?_)
  subst h8
  refine lv_if_eq (tgt := 29) hx hb dX1_impact_11 (by decide) (fun c11 => ?_) (fun c11 => ?_)
  · -- taken at 11
    have c11 := bI_eq0.mp c11
    refine lv_iconst (v := 0) hx hb dX1_impact_29 (by decide) ?_
    refine W.eq (congrArg (fun z => F0 m 30 ls (.int z :: [.ref m9])) ((bI_0 (c := ok_imp p1 p2) (by unfold ok_imp; omega)).symm)) ?_
    exact J30 ls (lv_sub hl [0, 1, 2] rfl)
  · -- not taken at 11
    have c11 := bI_ne0.mp c11
    refine lv_iload_n hx hb dX1_impact_14 rfl (lv_at hl 2 rfl) ?_
    refine lv_iconst (v := 0) hx hb dX1_impact_15 (by decide) ?_
    refine lv_sipush (v := 400) hx hb dX1_impact_16 (by decide) ?_
    refine vp_callSi (W.runS (As := [.int p2, .int 0, .int 400]) (rest := [.ref m9]) ⟨hx, hb, hml, hown, hts⟩ (c_X1_in l p2 0 400 0 400 (by decide) (by decide)) (va_cwS 3 hts (gS wl_X1_40 ws_X1_in wi_X1 wc_X1_in) rfl rfl rfl (by decide +kernel) ⟨Nat.le_of_ble_eq_true rfl, Nat.le_of_ble_eq_true rfl⟩) ⟨fun _ _ _ _ q => q, fun U hU hW => ⟨rfl, trivial⟩⟩ rfl rfl hl.1 rfl (lv_room (Nat.le_of_ble_eq_true rfl)) dX1_impact_19 ⟨Nat.le_of_ble_eq_true rfl, Nat.le_of_ble_eq_true rfl⟩) (fun r19 h19 => ?_)
    subst h19
    refine lv_if_eq (tgt := 29) hx hb dX1_impact_22 (by decide) (fun c22 => ?_) (fun c22 => ?_)
    · -- taken at 22
      have c22 := bI_eq0.mp c22
      refine lv_iconst (v := 0) hx hb dX1_impact_29 (by decide) ?_
      refine W.eq (congrArg (fun z => F0 m 30 ls (.int z :: [.ref m9])) ((bI_0 (c := ok_imp p1 p2) (by unfold ok_imp; omega)).symm)) ?_
      exact J30 ls (lv_sub hl [0, 1, 2] rfl)
    · -- not taken at 22
      have c22 := bI_ne0.mp c22
      refine lv_iconst (v := 1) hx hb dX1_impact_25 (by decide) ?_
      refine lv_goto (tgt := 30) hx hb dX1_impact_26 (by decide) ?_
      refine W.eq (congrArg (fun z => F0 m 30 ls (.int z :: [.ref m9])) ((bI_1 (c := ok_imp p1 p2) (by unfold ok_imp; omega)).symm)) ?_
      exact J30 ls (lv_sub hl [0, 1, 2] rfl)
set_option maxHeartbeats 4000000 in
set_option maxRecDepth 100000 in
theorem c_X1_table (l : Launch) (dC : Nat → ClassId) (dI : Nat → Nat → Nat) (sz : Nat) (m9 b1 b2 b3 b4 b5 b6 : Nat) (cI : ClassId) (S F D J X Y : Nat → Int32) (th : Int32) (n : Nat) (ar sl hd : Int32) (hu hw : Int64) (im tc : Nat) (fa : Int32) (up dn : Int64) (p1 p2 : Int32) (ht : tc ≤ 8) : Met l yX1_table wsX1_table ({ frames := 1, cells := 0, slots := 0, locals := 24 }) (va_Pc [.ref m9, .int p1, .int p2] (fun U => U.heap.size = sz ∧ va_P (dC, dI) vwCl (wM m9 b1 b2 b3 b4 b5 b6 cI S F D J X Y th n ar sl hd hu hw im tc fa up dn) U.heap ∧ va_K (dC, dI) vwCl [(cI, .int)] U ∧ va_D (fun _ => True) (wM m9 b1 b2 b3 b4 b5 b6 cI S F D J X Y th n ar sl hd hu hw im tc fa up dn))) (va_Qi (fun r (_ : Unit) => kd4 (ok_tab tc X p1 p2) (tc < 8) True True = 0 → r = nI (tc + 1)) (fun (_ : Unit) t => (kd4 (ok_tab tc X p1 p2) (tc < 8) True True = 0 ∧ at_w dC dI cI (va_A (wM m9 b1 b2 b3 b4 b5 b6 cI S F D J X Y th n ar sl hd hu hw im tc fa up dn) sz) (wM m9 b1 b2 b3 b4 b5 b6 cI S F D J (upd X tc p1) (upd Y tc p2) (kd4 (ok_tab tc X p1 p2) (tc < 8) True True) n ar sl hd hu hw im (tc + 1) fa up dn) t) ∨ (¬ kd4 (ok_tab tc X p1 p2) (tc < 8) True True = 0 ∧ at_w dC dI cI (va_A (wM m9 b1 b2 b3 b4 b5 b6 cI S F D J X Y th n ar sl hd hu hw im tc fa up dn) sz) (wM m9 b1 b2 b3 b4 b5 b6 cI S F D J X Y (kd4 (ok_tab tc X p1 p2) (tc < 8) True True) n ar sl hd hu hw im tc fa up dn) t)) (va_A (wM m9 b1 b2 b3 b4 b5 b6 cI S F D J X Y th n ar sl hd hu hw im tc fa up dn) sz)) 0 0 (va_A (wM m9 b1 b2 b3 b4 b5 b6 cI S F D J X Y th n ar sl hd hu hw im tc fa up dn) sz) := by
  refine Met.ofW (cc := cX1_table) (maxL := 4) (ret := (some .int)) (by decide) rfl ?_
  intro p e s m args below meth c s₁ B hml hv
  obtain ⟨rfl, hsz, hP, hK, hD0⟩ := hv
  have hx := B.exec
  have hb := B.bytes
  have hr := B.returns
  have hts := atoms_spec (ws := wsX1_table) B.pre
  have hown : s.vm.findClass RX1 = some m.cls := findClass_of_methodNamed B.named
  have hlocks := B.notSynchronized
  have hinX1 : ∀ w ∈ wsX10, w ∈ wsX1_table := fun w h => List.mem_cons_of_mem _ (inX1 w h)
  have f86 := hts _ (List.mem_cons_of_mem _ wl_X1_86)
  have f22 := hts _ (List.mem_cons_of_mem _ wl_X1_22)
  have f25 := hts _ (List.mem_cons_of_mem _ wl_X1_25)
  subst hsz
  have hD := hD0.self (sz := s.heap.size)
  generalize hAe : va_A (wM m9 b1 b2 b3 b4 b5 b6 cI S F D J X Y th n ar sl hd hu hw im tc fa up dn) s.heap.size = A at hD ⊢
  have hA : ∀ q : Nat, s.heap.size ≤ q → A q := fun q h => by rw [← hAe]; exact Or.inr h
  have hS : va_S A s.heap s.heap [] := va_S.rf
  have hl := lv_entry ([.ref m9, .int p1, .int p2]) (n := 4) (Nat.le_of_ble_eq_true rfl)
  rw [lg_entry_eq]
  generalize (lg_sl ([.ref m9, .int p1, .int p2]) ++ List.replicate (4 - (lg_sl ([.ref m9, .int p1, .int p2])).length) Slot.unset).toArray = ls at hl ⊢
  have hl : lv_has ls 4 [(0, .ref m9), (1, .int p1), (2, .int p2)] := hl
  have J66 : ∀ (ls : Array Slot), lv_has ls 4 [(3, .int (bI (ok_tab tc X p1 p2))), (0, .ref m9), (1, .int p1), (2, .int p2)] → W p l e (headSpec wsX1_table ({ frames := 1, cells := 0, slots := 0, locals := 24 })).room s m ([.ref m9, .int p1, .int p2] : List Value).toArray below meth c s.heap [] 0 0 (MQ below (va_Qi (fun r (_ : Unit) => kd4 (ok_tab tc X p1 p2) (tc < 8) True True = 0 → r = nI (tc + 1)) (fun (_ : Unit) t => (kd4 (ok_tab tc X p1 p2) (tc < 8) True True = 0 ∧ at_w dC dI cI A (wM m9 b1 b2 b3 b4 b5 b6 cI S F D J (upd X tc p1) (upd Y tc p2) (kd4 (ok_tab tc X p1 p2) (tc < 8) True True) n ar sl hd hu hw im (tc + 1) fa up dn) t) ∨ (¬ kd4 (ok_tab tc X p1 p2) (tc < 8) True True = 0 ∧ at_w dC dI cI A (wM m9 b1 b2 b3 b4 b5 b6 cI S F D J X Y (kd4 (ok_tab tc X p1 p2) (tc < 8) True True) n ar sl hd hu hw im tc fa up dn) t)) A) ([.ref m9, .int p1, .int p2] : List Value).toArray s 0 0 A) (F0 m 66 ls [.int (bI (tc < 8)), .int (bI (ok_tab tc X p1 p2)), .ref m9]) := by
    intro ls hl
    refine lv_iconst (v := 1) hx hb dX1_table_66 (by decide) ?_
    refine lv_iconst (v := 1) hx hb dX1_table_67 (by decide) ?_
    have hFc := va_free (wc := (wM m9 b1 b2 b3 b4 b5 b6 cI S F D J X Y th n ar sl hd hu hw im tc fa up dn)) hD hS hA [0, 1, 2, 3, 4, 5, 6] rfl
    refine va_calli (va_runV (As := [.int (bI (ok_tab tc X p1 p2)), .int (bI (tc < 8)), .int 1, .int 1]) (rest := []) ⟨hx, hb, hml, hown, hts⟩ (c_X1_goes l dC dI s.heap.size m9 b1 b2 b3 b4 b5 b6 cI S F D J X Y th n ar sl hd hu hw im tc fa up dn (ok_tab tc X p1 p2) (tc < 8) True True) (cwV 4 hts (gV wl_X1_47 wi_X1_goes wv_X1_goes wi_X1 wc_X1_goes) rfl rfl rfl (by decide +kernel) ⟨Nat.le_of_ble_eq_true rfl, Nat.le_of_ble_eq_true rfl⟩) ⟨fun a U g mk q => ⟨q.1, q.2.1, q.2.2.1, va_K.moved (u := U) (U := U.calling g mk a) (Vm.Alike.refl U.vm) q.2.2.2.1, q.2.2.2.2⟩, va_recv hK hP (ci := 1) (q0 := 0) rfl rfl, fun U hU hW => ⟨rfl, by rw [hU], by rw [hU]; exact hP, va_K.moved hW.alike hK, hD.weaken (fun _ _ _ _ => trivial)⟩⟩ rfl rfl hl.1 rfl (lv_room (Nat.le_of_ble_eq_true rfl)) dX1_table_68 ⟨Nat.le_of_ble_eq_true rfl, Nat.le_of_ble_eq_true rfl⟩) hS (fun q _ h => hFc q h) hFc (fun r68 u68 t H1 locs ht hvm h68 hB hz1 hk1 hS => ?_)
    obtain ⟨hP1, hK1, hD1⟩ := hB
    rw [ht] at hP1
    obtain ⟨hP, hD⟩ := va_join (wr := []) (w1 := (wM m9 b1 b2 b3 b4 b5 b6 cI S F D J X Y (kd4 (ok_tab tc X p1 p2) (tc < 8) True True) n ar sl hd hu hw im tc fa up dn)) hP hD [0, 1, 2, 3, 4, 5, 6] [] rfl rfl (by decide) (by decide) hk1 hFc hP1 hD1
    generalize H1 = H at hP hS ⊢
    have hP : va_P (dC, dI) vwCl (wM m9 b1 b2 b3 b4 b5 b6 cI S F D J X Y (kd4 (ok_tab tc X p1 p2) (tc < 8) True True) n ar sl hd hu hw im tc fa up dn) H := hP
    have hD : va_D A (wM m9 b1 b2 b3 b4 b5 b6 cI S F D J X Y (kd4 (ok_tab tc X p1 p2) (tc < 8) True True) n ar sl hd hu hw im tc fa up dn) := hD
    subst h68
    refine lv_if_ne (tgt := 76) hx hb dX1_table_71 (by decide) (fun c71 => ?_) (fun c71 => ?_)
    · -- taken at 71
      have c71 := bI_ne0.mp c71
      have hn4 := (kd_z c71).2.1
      refine lv_aload_n hx hb dX1_table_76 rfl (lv_at hl 1 rfl) ?_
      refine va_get (D := (dC, dI)) (ci := 1) (v := .ref b5) (C := RX1) (T := TX1) (N := 18) hx hb hts hinX1 hown hK hP 0 rfl rfl 13 (by decide) f22 (fun _ h9 => h9) rfl dX1_table_77 ?_
      refine lv_aload_n hx hb dX1_table_80 rfl (lv_at hl 1 rfl) ?_
      refine va_get (D := (dC, dI)) (ci := 1) (v := .int (nI tc)) (C := RX1) (T := TX1) (N := 18) hx hb hts hinX1 hown hK hP 0 rfl rfl 12 (by decide) f86 (fun _ h9 => h9) rfl dX1_table_81 ?_
      refine lv_iload_n hx hb dX1_table_84 rfl (lv_at hl 2 rfl) ?_
      refine va_iast (D := (dC, dI)) hx hb hK hP hD hS 5 0 rfl rfl (vp_in_nI (show tc < 8 by omega) (by decide)) dX1_table_85 (fun H locs hP hD hS => ?_)
      rw [show (nI tc : Int32).toNatClampNeg = tc from nI_clamp (show tc < 2 ^ 31 by omega)] at hP hD
      have hP : va_P (dC, dI) vwCl (wM m9 b1 b2 b3 b4 b5 b6 cI S F D J (upd X tc p1) Y (kd4 (ok_tab tc X p1 p2) (tc < 8) True True) n ar sl hd hu hw im tc fa up dn) H := hP
      have hD : va_D A (wM m9 b1 b2 b3 b4 b5 b6 cI S F D J (upd X tc p1) Y (kd4 (ok_tab tc X p1 p2) (tc < 8) True True) n ar sl hd hu hw im tc fa up dn) := hD
      refine lv_aload_n hx hb dX1_table_86 rfl (lv_at hl 1 rfl) ?_
      refine va_get (D := (dC, dI)) (ci := 1) (v := .ref b6) (C := RX1) (T := TX1) (N := 18) hx hb hts hinX1 hown hK hP 0 rfl rfl 14 (by decide) f25 (fun _ h9 => h9) rfl dX1_table_87 ?_
      refine lv_aload_n hx hb dX1_table_90 rfl (lv_at hl 1 rfl) ?_
      refine va_get (D := (dC, dI)) (ci := 1) (v := .int (nI tc)) (C := RX1) (T := TX1) (N := 18) hx hb hts hinX1 hown hK hP 0 rfl rfl 12 (by decide) f86 (fun _ h9 => h9) rfl dX1_table_91 ?_
      refine lv_iload_n hx hb dX1_table_94 rfl (lv_at hl 3 rfl) ?_
      refine va_iast (D := (dC, dI)) hx hb hK hP hD hS 6 0 rfl rfl (vp_in_nI (show tc < 8 by omega) (by decide)) dX1_table_95 (fun H locs hP hD hS => ?_)
      rw [show (nI tc : Int32).toNatClampNeg = tc from nI_clamp (show tc < 2 ^ 31 by omega)] at hP hD
      have hP : va_P (dC, dI) vwCl (wM m9 b1 b2 b3 b4 b5 b6 cI S F D J (upd X tc p1) (upd Y tc p2) (kd4 (ok_tab tc X p1 p2) (tc < 8) True True) n ar sl hd hu hw im tc fa up dn) H := hP
      have hD : va_D A (wM m9 b1 b2 b3 b4 b5 b6 cI S F D J (upd X tc p1) (upd Y tc p2) (kd4 (ok_tab tc X p1 p2) (tc < 8) True True) n ar sl hd hu hw im tc fa up dn) := hD
      refine lv_aload_n hx hb dX1_table_96 rfl (lv_at hl 1 rfl) ?_
      refine lv_dup hx hb dX1_table_97 rfl ?_
      refine va_get (D := (dC, dI)) (ci := 1) (v := .int (nI tc)) (C := RX1) (T := TX1) (N := 18) hx hb hts hinX1 hown hK hP 0 rfl rfl 12 (by decide) f86 (fun _ h9 => h9) rfl dX1_table_98 ?_
      refine lv_iconst (v := 1) hx hb dX1_table_101 (by decide) ?_
      refine lv_iadd hx hb dX1_table_102 ?_
      refine W.eq (congrArg (fun z => F0 m 103 ls (.int z :: [.ref m9])) (nI_1 tc)) ?_
      refine va_put (D := (dC, dI)) (ci := 1) (v := .int (nI (tc + 1))) (ty := .int) (C := RX1) (T := TX1) (N := 18) hx hb hts hinX1 tyX1 tyX1_ok nmX1 hown hK hP hD hS 0 rfl rfl 12 (by decide) f86 (fun _ h9 => h9) rfl (by decide +kernel) (rfl) (rfl) (Nat.le_of_ble_eq_true rfl) dX1_table_103 (fun H locs hP hD hS => ?_)
      have hP : va_P (dC, dI) vwCl (wM m9 b1 b2 b3 b4 b5 b6 cI S F D J (upd X tc p1) (upd Y tc p2) (kd4 (ok_tab tc X p1 p2) (tc < 8) True True) n ar sl hd hu hw im (tc + 1) fa up dn) H := hP
      have hD : va_D A (wM m9 b1 b2 b3 b4 b5 b6 cI S F D J (upd X tc p1) (upd Y tc p2) (kd4 (ok_tab tc X p1 p2) (tc < 8) True True) n ar sl hd hu hw im (tc + 1) fa up dn) := hD
      refine lv_aload_n hx hb dX1_table_106 rfl (lv_at hl 1 rfl) ?_
      refine va_get (D := (dC, dI)) (ci := 1) (v := .int (nI (tc + 1))) (C := RX1) (T := TX1) (N := 18) hx hb hts hinX1 hown hK hP 0 rfl rfl 12 (by decide) f86 (fun _ h9 => h9) rfl dX1_table_107 ?_
      exact W.iret (v := nI (tc + 1)) hx hb hr (fun t ht hW => ⟨⟨nI (tc + 1), (), rfl, fun _ => rfl, Or.inl ⟨c71, ⟨by rw [ht]; exact hP, va_K.moved hW.alike hK, hD⟩⟩⟩, hS.F ht⟩) hS.2.2 dX1_table_110
    · -- not taken at 71
      have c71 := bI_eq0.mp c71
      refine lv_iconst (v := 0) hx hb dX1_table_74 (by decide) ?_
      exact W.iret (v := 0) hx hb hr (fun t ht hW => ⟨⟨0, (), rfl, fun q => absurd q c71, Or.inr ⟨c71, ⟨by rw [ht]; exact hP, va_K.moved hW.alike hK, hD⟩⟩⟩, hS.F ht⟩) hS.2.2 dX1_table_75
  have J49 : ∀ (ls : Array Slot), lv_has ls 4 [(0, .ref m9), (1, .int p1), (2, .int p2)] → W p l e (headSpec wsX1_table ({ frames := 1, cells := 0, slots := 0, locals := 24 })).room s m ([.ref m9, .int p1, .int p2] : List Value).toArray below meth c s.heap [] 0 0 (MQ below (va_Qi (fun r (_ : Unit) => kd4 (ok_tab tc X p1 p2) (tc < 8) True True = 0 → r = nI (tc + 1)) (fun (_ : Unit) t => (kd4 (ok_tab tc X p1 p2) (tc < 8) True True = 0 ∧ at_w dC dI cI A (wM m9 b1 b2 b3 b4 b5 b6 cI S F D J (upd X tc p1) (upd Y tc p2) (kd4 (ok_tab tc X p1 p2) (tc < 8) True True) n ar sl hd hu hw im (tc + 1) fa up dn) t) ∨ (¬ kd4 (ok_tab tc X p1 p2) (tc < 8) True True = 0 ∧ at_w dC dI cI A (wM m9 b1 b2 b3 b4 b5 b6 cI S F D J X Y (kd4 (ok_tab tc X p1 p2) (tc < 8) True True) n ar sl hd hu hw im tc fa up dn) t)) A) ([.ref m9, .int p1, .int p2] : List Value).toArray s 0 0 A) (F0 m 49 ls [.int (bI (ok_tab tc X p1 p2))]) := by
    intro ls hl
    refine lv_istore_n (lv' := [(3, .int (bI (ok_tab tc X p1 p2))), (0, .ref m9), (1, .int p1), (2, .int p2)]) hx hb dX1_table_49 rfl hl (by decide) rfl (fun ls hl => ?_)
    refine lv_aload_n hx hb dX1_table_50 rfl (lv_at hl 1 rfl) ?_
    refine lv_iload_n hx hb dX1_table_51 rfl (lv_at hl 0 rfl) ?_
    refine lv_aload_n hx hb dX1_table_52 rfl (lv_at hl 1 rfl) ?_
    refine va_get (D := (dC, dI)) (ci := 1) (v := .int (nI tc)) (C := RX1) (T := TX1) (N := 18) hx hb hts hinX1 hown hK hP 0 rfl rfl 12 (by decide) f86 (fun _ h9 => h9) rfl dX1_table_53 ?_
    refine lv_bipush (v := 8) hx hb dX1_table_56 (by decide) ?_
    refine lv_icmp_ge (tgt := 65) hx hb dX1_table_58 (by decide) (fun c58 => ?_) (fun c58 => ?_)
    · -- taken at 58
      have c58 : 8 ≤ tc := (nI_leI (a := 8) (b := tc) (by omega) (by omega)).mp c58
      refine lv_iconst (v := 0) hx hb dX1_table_65 (by decide) ?_
      refine W.eq (congrArg (fun z => F0 m 66 ls (.int z :: [.int (bI (ok_tab tc X p1 p2)), .ref m9])) ((bI_0 (c := tc < 8) (by omega)).symm)) ?_
      exact J66 ls (lv_sub hl [0, 1, 2, 3] rfl)
    · -- not taken at 58
      have c58 : ¬ 8 ≤ tc := fun q9 => c58 ((nI_leI (a := 8) (b := tc) (by omega) (by omega)).mpr q9)
      refine lv_iconst (v := 1) hx hb dX1_table_61 (by decide) ?_
      refine lv_goto (tgt := 66) hx hb dX1_table_62 (by decide) ?_
      refine W.eq (congrArg (fun z => F0 m 66 ls (.int z :: [.int (bI (ok_tab tc X p1 p2)), .ref m9])) ((bI_1 (c := tc < 8) (by omega)).symm)) ?_
      exact J66 ls (lv_sub hl [0, 1, 2, 3] rfl)
  refine lv_iload_n hx hb dX1_table_0 rfl (lv_at hl 1 rfl) ?_
  refine lv_iconst (v := 0) hx hb dX1_table_1 (by decide) ?_
  refine lv_sipush (v := 2000) hx hb dX1_table_2 (by decide) ?_
  refine vp_callSi (W.runS (As := [.int p1, .int 0, .int 2000]) (rest := []) ⟨hx, hb, hml, hown, hts⟩ (c_X1_in l p1 0 2000 0 2000 (by decide) (by decide)) (va_cwS 3 hts (gS wl_X1_40 ws_X1_in wi_X1 wc_X1_in) rfl rfl rfl (by decide +kernel) ⟨Nat.le_of_ble_eq_true rfl, Nat.le_of_ble_eq_true rfl⟩) ⟨fun _ _ _ _ q => q, fun U hU hW => ⟨rfl, trivial⟩⟩ rfl rfl hl.1 rfl (lv_room (Nat.le_of_ble_eq_true rfl)) dX1_table_5 ⟨Nat.le_of_ble_eq_true rfl, Nat.le_of_ble_eq_true rfl⟩) (fun r5 h5 => ?_)
  subst h5
  refine lv_if_eq (tgt := 48) hx hb dX1_table_8 (by decide) (fun c8 => ?_) (fun c8 => ?_)
  · -- taken at 8
    have c8 := bI_eq0.mp c8
    refine lv_iconst (v := 0) hx hb dX1_table_48 (by decide) ?_
    refine W.eq (congrArg (fun z => F0 m 49 ls (.int z :: [])) ((bI_0 (c := ok_tab tc X p1 p2) (by unfold ok_tab; omega)).symm)) ?_
    exact J49 ls (lv_sub hl [0, 1, 2] rfl)
  · -- not taken at 8
    have c8 := bI_ne0.mp c8
    refine lv_iload_n hx hb dX1_table_11 rfl (lv_at hl 2 rfl) ?_
    refine lv_iconst (v := 0) hx hb dX1_table_12 (by decide) ?_
    refine lv_sipush (v := 2000) hx hb dX1_table_13 (by decide) ?_
    refine vp_callSi (W.runS (As := [.int p2, .int 0, .int 2000]) (rest := []) ⟨hx, hb, hml, hown, hts⟩ (c_X1_in l p2 0 2000 0 2000 (by decide) (by decide)) (va_cwS 3 hts (gS wl_X1_40 ws_X1_in wi_X1 wc_X1_in) rfl rfl rfl (by decide +kernel) ⟨Nat.le_of_ble_eq_true rfl, Nat.le_of_ble_eq_true rfl⟩) ⟨fun _ _ _ _ q => q, fun U hU hW => ⟨rfl, trivial⟩⟩ rfl rfl hl.1 rfl (lv_room (Nat.le_of_ble_eq_true rfl)) dX1_table_16 ⟨Nat.le_of_ble_eq_true rfl, Nat.le_of_ble_eq_true rfl⟩) (fun r16 h16 => ?_)
    subst h16
    refine lv_if_eq (tgt := 48) hx hb dX1_table_19 (by decide) (fun c19 => ?_) (fun c19 => ?_)
    · -- taken at 19
      have c19 := bI_eq0.mp c19
      refine lv_iconst (v := 0) hx hb dX1_table_48 (by decide) ?_
      refine W.eq (congrArg (fun z => F0 m 49 ls (.int z :: [])) ((bI_0 (c := ok_tab tc X p1 p2) (by unfold ok_tab; omega)).symm)) ?_
      exact J49 ls (lv_sub hl [0, 1, 2] rfl)
    · -- not taken at 19
      have c19 := bI_ne0.mp c19
      refine lv_aload_n hx hb dX1_table_22 rfl (lv_at hl 0 rfl) ?_
      refine va_get (D := (dC, dI)) (ci := 1) (v := .int (nI tc)) (C := RX1) (T := TX1) (N := 18) hx hb hts hinX1 hown hK hP 0 rfl rfl 12 (by decide) f86 (fun _ h9 => h9) rfl dX1_table_23 ?_
      refine lv_if_eq (tgt := 44) hx hb dX1_table_26 (by decide) (fun c26 => ?_) (fun c26 => ?_)
      · -- taken at 26
        have c26 : tc = 0 := (nI_eq (a := tc) (b := 0) (by omega) (by omega)).mp c26
        refine lv_iconst (v := 1) hx hb dX1_table_44 (by decide) ?_
        refine lv_goto (tgt := 49) hx hb dX1_table_45 (by decide) ?_
        refine W.eq (congrArg (fun z => F0 m 49 ls (.int z :: [])) ((bI_1 (c := ok_tab tc X p1 p2) (by unfold ok_tab; omega)).symm)) ?_
        exact J49 ls (lv_sub hl [0, 1, 2] rfl)
      · -- not taken at 26
        have c26 : ¬ tc = 0 := fun q9 => c26 ((nI_eq (a := tc) (b := 0) (by omega) (by omega)).mpr q9)
        refine lv_iload_n hx hb dX1_table_29 rfl (lv_at hl 1 rfl) ?_
        refine lv_aload_n hx hb dX1_table_30 rfl (lv_at hl 0 rfl) ?_
        refine va_get (D := (dC, dI)) (ci := 1) (v := .ref b5) (C := RX1) (T := TX1) (N := 18) hx hb hts hinX1 hown hK hP 0 rfl rfl 13 (by decide) f22 (fun _ h9 => h9) rfl dX1_table_31 ?_
        refine lv_aload_n hx hb dX1_table_34 rfl (lv_at hl 0 rfl) ?_
        refine va_get (D := (dC, dI)) (ci := 1) (v := .int (nI tc)) (C := RX1) (T := TX1) (N := 18) hx hb hts hinX1 hown hK hP 0 rfl rfl 12 (by decide) f86 (fun _ h9 => h9) rfl dX1_table_35 ?_
        refine lv_iconst (v := 1) hx hb dX1_table_38 (by decide) ?_
        refine lv_isub hx hb dX1_table_39 ?_
        refine W.eq (congrArg (fun z => F0 m 40 ls (.int z :: [.ref b5, .int p1])) (nI_p1 (by omega))) ?_
        refine va_iald (D := (dC, dI)) hx hb hK hP 5 0 rfl rfl (vp_in_nI (show tc - 1 < 8 by omega) (by decide)) dX1_table_40 ?_
        refine W.eq (congrArg (fun z => F0 m 41 ls (.int z :: [.int p1])) (congrArg X (nI_clamp (show tc - 1 < 2 ^ 31 by omega)))) ?_
        refine lv_icmp_le (tgt := 48) hx hb dX1_table_41 (by decide) (fun c41 => ?_) (fun c41 => ?_)
        · -- taken at 41
          have c41 : p1.toInt ≤ (X (tc - 1)).toInt := (Int32.le_iff_toInt_le).mp c41
          refine lv_iconst (v := 0) hx hb dX1_table_48 (by decide) ?_
          refine W.eq (congrArg (fun z => F0 m 49 ls (.int z :: [])) ((bI_0 (c := ok_tab tc X p1 p2) (by unfold ok_tab; omega)).symm)) ?_
          exact J49 ls (lv_sub hl [0, 1, 2] rfl)
        · -- not taken at 41
          have c41 : ¬ p1.toInt ≤ (X (tc - 1)).toInt := fun q9 => c41 ((Int32.le_iff_toInt_le).mpr q9)
          refine lv_iconst (v := 1) hx hb dX1_table_44 (by decide) ?_
          refine lv_goto (tgt := 49) hx hb dX1_table_45 (by decide) ?_
          refine W.eq (congrArg (fun z => F0 m 49 ls (.int z :: [])) ((bI_1 (c := ok_tab tc X p1 p2) (by unfold ok_tab; omega)).symm)) ?_
          exact J49 ls (lv_sub hl [0, 1, 2] rfl)
set_option maxHeartbeats 4000000 in
set_option maxRecDepth 100000 in
theorem c_X1_clear (l : Launch) (dC : Nat → ClassId) (dI : Nat → Nat → Nat) (sz : Nat) (m9 b1 b2 b3 b4 b5 b6 : Nat) (cI : ClassId) (S F D J X Y : Nat → Int32) (th : Int32) (n : Nat) (ar sl hd : Int32) (hu hw : Int64) (im tc : Nat) (fa : Int32) (up dn : Int64) : Met l yX1_clear wsX1_clear ({ frames := 0, cells := 0, slots := 0, locals := 0 }) (va_Pc [.ref m9] (fun U => U.heap.size = sz ∧ va_P (dC, dI) vwCl (wM m9 b1 b2 b3 b4 b5 b6 cI S F D J X Y th n ar sl hd hu hw im tc fa up dn) U.heap ∧ va_K (dC, dI) vwCl [(cI, .int)] U ∧ va_D (fun _ => True) (wM m9 b1 b2 b3 b4 b5 b6 cI S F D J X Y th n ar sl hd hu hw im tc fa up dn))) (va_Qv (fun (_ : Unit) => True) (fun (_ : Unit) t => at_w dC dI cI (va_A (wM m9 b1 b2 b3 b4 b5 b6 cI S F D J X Y th n ar sl hd hu hw im tc fa up dn) sz) (wM m9 b1 b2 b3 b4 b5 b6 cI S F D J X Y 0 0 0 0 0 hu hw im tc 0 up dn) t) (va_A (wM m9 b1 b2 b3 b4 b5 b6 cI S F D J X Y th n ar sl hd hu hw im tc fa up dn) sz)) 0 0 (va_A (wM m9 b1 b2 b3 b4 b5 b6 cI S F D J X Y th n ar sl hd hu hw im tc fa up dn) sz) := by
  refine Met.ofW (cc := cX1_clear) (maxL := 1) (ret := none) (by decide) rfl ?_
  intro p e s m args below meth c s₁ B hml hv
  obtain ⟨rfl, hsz, hP, hK, hD0⟩ := hv
  have hx := B.exec
  have hb := B.bytes
  have hr := B.returns
  have hts := atoms_spec (ws := wsX1_clear) B.pre
  have hown : s.vm.findClass RX1 = some m.cls := findClass_of_methodNamed B.named
  have hlocks := B.notSynchronized
  have hinX1 : ∀ w ∈ wsX10, w ∈ wsX1_clear := fun w h => List.mem_cons_of_mem _ (inX1 w h)
  have f28 := hts _ (List.mem_cons_of_mem _ wl_X1_28)
  have f44 := hts _ (List.mem_cons_of_mem _ wl_X1_44)
  have f51 := hts _ (List.mem_cons_of_mem _ wl_X1_51)
  have f54 := hts _ (List.mem_cons_of_mem _ wl_X1_54)
  have f61 := hts _ (List.mem_cons_of_mem _ wl_X1_61)
  have f100 := hts _ (List.mem_cons_of_mem _ wl_X1_100)
  subst hsz
  have hD := hD0.self (sz := s.heap.size)
  generalize hAe : va_A (wM m9 b1 b2 b3 b4 b5 b6 cI S F D J X Y th n ar sl hd hu hw im tc fa up dn) s.heap.size = A at hD ⊢
  have hA : ∀ q : Nat, s.heap.size ≤ q → A q := fun q h => by rw [← hAe]; exact Or.inr h
  have hS : va_S A s.heap s.heap [] := va_S.rf
  have hl := lv_entry ([.ref m9]) (n := 1) (Nat.le_of_ble_eq_true rfl)
  rw [lg_entry_eq]
  generalize (lg_sl ([.ref m9]) ++ List.replicate (1 - (lg_sl ([.ref m9])).length) Slot.unset).toArray = ls at hl ⊢
  have hl : lv_has ls 1 [(0, .ref m9)] := hl
  refine lv_aload_n hx hb dX1_clear_0 rfl (lv_at hl 0 rfl) ?_
  refine lv_iconst (v := 0) hx hb dX1_clear_1 (by decide) ?_
  refine va_put (D := (dC, dI)) (ci := 1) (v := .int 0) (ty := .int) (C := RX1) (T := TX1) (N := 18) hx hb hts hinX1 tyX1 tyX1_ok nmX1 hown hK hP hD hS 0 rfl rfl 0 (by decide) f28 (fun _ h9 => h9) rfl (by decide +kernel) (rfl) (rfl) (Nat.le_of_ble_eq_true rfl) dX1_clear_2 (fun H locs hP hD hS => ?_)
  have hP : va_P (dC, dI) vwCl (wM m9 b1 b2 b3 b4 b5 b6 cI S F D J X Y 0 n ar sl hd hu hw im tc fa up dn) H := hP
  have hD : va_D A (wM m9 b1 b2 b3 b4 b5 b6 cI S F D J X Y 0 n ar sl hd hu hw im tc fa up dn) := hD
  refine lv_aload_n hx hb dX1_clear_5 rfl (lv_at hl 0 rfl) ?_
  refine lv_iconst (v := 0) hx hb dX1_clear_6 (by decide) ?_
  refine va_put (D := (dC, dI)) (ci := 1) (v := .int 0) (ty := .int) (C := RX1) (T := TX1) (N := 18) hx hb hts hinX1 tyX1 tyX1_ok nmX1 hown hK hP hD hS 0 rfl rfl 1 (by decide) f44 (fun _ h9 => h9) rfl (by decide +kernel) (rfl) (rfl) (Nat.le_of_ble_eq_true rfl) dX1_clear_7 (fun H locs hP hD hS => ?_)
  have hP : va_P (dC, dI) vwCl (wM m9 b1 b2 b3 b4 b5 b6 cI S F D J X Y 0 0 ar sl hd hu hw im tc fa up dn) H := hP
  have hD : va_D A (wM m9 b1 b2 b3 b4 b5 b6 cI S F D J X Y 0 0 ar sl hd hu hw im tc fa up dn) := hD
  refine lv_aload_n hx hb dX1_clear_10 rfl (lv_at hl 0 rfl) ?_
  refine lv_iconst (v := 0) hx hb dX1_clear_11 (by decide) ?_
  refine va_put (D := (dC, dI)) (ci := 1) (v := .int 0) (ty := .int) (C := RX1) (T := TX1) (N := 18) hx hb hts hinX1 tyX1 tyX1_ok nmX1 hown hK hP hD hS 0 rfl rfl 4 (by decide) f51 (fun _ h9 => h9) rfl (by decide +kernel) (rfl) (rfl) (Nat.le_of_ble_eq_true rfl) dX1_clear_12 (fun H locs hP hD hS => ?_)
  have hP : va_P (dC, dI) vwCl (wM m9 b1 b2 b3 b4 b5 b6 cI S F D J X Y 0 0 0 sl hd hu hw im tc fa up dn) H := hP
  have hD : va_D A (wM m9 b1 b2 b3 b4 b5 b6 cI S F D J X Y 0 0 0 sl hd hu hw im tc fa up dn) := hD
  refine lv_aload_n hx hb dX1_clear_15 rfl (lv_at hl 0 rfl) ?_
  refine lv_iconst (v := 0) hx hb dX1_clear_16 (by decide) ?_
  refine va_put (D := (dC, dI)) (ci := 1) (v := .int 0) (ty := .int) (C := RX1) (T := TX1) (N := 18) hx hb hts hinX1 tyX1 tyX1_ok nmX1 hown hK hP hD hS 0 rfl rfl 5 (by decide) f54 (fun _ h9 => h9) rfl (by decide +kernel) (rfl) (rfl) (Nat.le_of_ble_eq_true rfl) dX1_clear_17 (fun H locs hP hD hS => ?_)
  have hP : va_P (dC, dI) vwCl (wM m9 b1 b2 b3 b4 b5 b6 cI S F D J X Y 0 0 0 0 hd hu hw im tc fa up dn) H := hP
  have hD : va_D A (wM m9 b1 b2 b3 b4 b5 b6 cI S F D J X Y 0 0 0 0 hd hu hw im tc fa up dn) := hD
  refine lv_aload_n hx hb dX1_clear_20 rfl (lv_at hl 0 rfl) ?_
  refine lv_iconst (v := 0) hx hb dX1_clear_21 (by decide) ?_
  refine va_put (D := (dC, dI)) (ci := 1) (v := .int 0) (ty := .boolean) (C := RX1) (T := TX1) (N := 18) hx hb hts hinX1 tyX1 tyX1_ok nmX1 hown hK hP hD hS 0 rfl rfl 6 (by decide) f61 (fun _ h9 => h9) rfl (by decide +kernel) (rfl) (rfl) (Nat.le_of_ble_eq_true rfl) dX1_clear_22 (fun H locs hP hD hS => ?_)
  have hP : va_P (dC, dI) vwCl (wM m9 b1 b2 b3 b4 b5 b6 cI S F D J X Y 0 0 0 0 0 hu hw im tc fa up dn) H := hP
  have hD : va_D A (wM m9 b1 b2 b3 b4 b5 b6 cI S F D J X Y 0 0 0 0 0 hu hw im tc fa up dn) := hD
  refine lv_aload_n hx hb dX1_clear_25 rfl (lv_at hl 0 rfl) ?_
  refine lv_iconst (v := 0) hx hb dX1_clear_26 (by decide) ?_
  refine va_put (D := (dC, dI)) (ci := 1) (v := .int 0) (ty := .boolean) (C := RX1) (T := TX1) (N := 18) hx hb hts hinX1 tyX1 tyX1_ok nmX1 hown hK hP hD hS 0 rfl rfl 15 (by decide) f100 (fun _ h9 => h9) rfl (by decide +kernel) (rfl) (rfl) (Nat.le_of_ble_eq_true rfl) dX1_clear_27 (fun H locs hP hD hS => ?_)
  have hP : va_P (dC, dI) vwCl (wM m9 b1 b2 b3 b4 b5 b6 cI S F D J X Y 0 0 0 0 0 hu hw im tc 0 up dn) H := hP
  have hD : va_D A (wM m9 b1 b2 b3 b4 b5 b6 cI S F D J X Y 0 0 0 0 0 hu hw im tc 0 up dn) := hD
  exact W.vret hx hb hr (fun t ht hW => ⟨⟨(), rfl, trivial, ⟨by rw [ht]; exact hP, va_K.moved hW.alike hK, hD⟩⟩, hS.F ht⟩) hS.2.2 dX1_clear_30
end
section
set_option maxHeartbeats 4000000 in
set_option maxRecDepth 100000 in
theorem c_X1_stretch (l : Launch) (dC : Nat → ClassId) (dI : Nat → Nat → Nat) (sz : Nat) (m9 b1 b2 b3 b4 b5 b6 : Nat) (cI : ClassId) (S F D J X Y : Nat → Int32) (th : Int32) (n : Nat) (ar sl hd : Int32) (hu hw : Int64) (im tc : Nat) (fa : Int32) (up dn : Int64) (p1 p2 p3 : Int32) : Met l yX1_stretch wsX1_stretch ({ frames := 1, cells := 0, slots := 0, locals := 31 }) (va_Pc [.ref m9, .int p1, .int p2, .int p3] (fun U => U.heap.size = sz ∧ va_P (dC, dI) vwCl (wM m9 b1 b2 b3 b4 b5 b6 cI S F D J X Y th n ar sl hd hu hw im tc fa up dn) U.heap ∧ va_K (dC, dI) vwCl [(cI, .int)] U ∧ va_D (fun _ => True) (wM m9 b1 b2 b3 b4 b5 b6 cI S F D J X Y th n ar sl hd hu hw im tc fa up dn))) (va_Ql (fun r (u : Int64 × Int64) => kd4 (0 ≤ p3.toInt ∧ p3.toInt ≤ 1) (ok_len p1 p2) True True = 0 → r.toInt = fr (p2.toInt - p1.toInt) p1.toInt p3.toInt) (fun (u : Int64 × Int64) t => at_w dC dI cI (va_A (wM m9 b1 b2 b3 b4 b5 b6 cI S F D J X Y th n ar sl hd hu hw im tc fa up dn) sz) (wM m9 b1 b2 b3 b4 b5 b6 cI S F D J X Y (kd4 (0 ≤ p3.toInt ∧ p3.toInt ≤ 1) (ok_len p1 p2) True True) n ar sl hd hu hw im tc fa u.1 u.2) t) (va_A (wM m9 b1 b2 b3 b4 b5 b6 cI S F D J X Y th n ar sl hd hu hw im tc fa up dn) sz)) 0 0 (va_A (wM m9 b1 b2 b3 b4 b5 b6 cI S F D J X Y th n ar sl hd hu hw im tc fa up dn) sz) := by
  refine Met.ofW (cc := cX1_stretch) (maxL := 4) (ret := (some .long)) (by decide) rfl ?_
  intro p e s m args below meth c s₁ B hml hv
  obtain ⟨rfl, hsz, hP, hK, hD0⟩ := hv
  have hx := B.exec
  have hb := B.bytes
  have hr := B.returns
  have hts := atoms_spec (ws := wsX1_stretch) B.pre
  have hown : s.vm.findClass RX1 = some m.cls := findClass_of_methodNamed B.named
  have hlocks := B.notSynchronized
  have hinX1 : ∀ w ∈ wsX10, w ∈ wsX1_stretch := fun w h => List.mem_cons_of_mem _ (inX1 w h)
  have k39 := hts _ (List.mem_cons_of_mem _ wl_X1_39)
  subst hsz
  have hD := hD0.self (sz := s.heap.size)
  generalize hAe : va_A (wM m9 b1 b2 b3 b4 b5 b6 cI S F D J X Y th n ar sl hd hu hw im tc fa up dn) s.heap.size = A at hD ⊢
  have hA : ∀ q : Nat, s.heap.size ≤ q → A q := fun q h => by rw [← hAe]; exact Or.inr h
  have hS : va_S A s.heap s.heap [] := va_S.rf
  have hl := lv_entry ([.ref m9, .int p1, .int p2, .int p3]) (n := 4) (Nat.le_of_ble_eq_true rfl)
  rw [lg_entry_eq]
  generalize (lg_sl ([.ref m9, .int p1, .int p2, .int p3]) ++ List.replicate (4 - (lg_sl ([.ref m9, .int p1, .int p2, .int p3])).length) Slot.unset).toArray = ls at hl ⊢
  have hl : lv_has ls 4 [(0, .ref m9), (1, .int p1), (2, .int p2), (3, .int p3)] := hl
  have J32 : ∀ (ls : Array Slot), lv_has ls 4 [(0, .ref m9), (1, .int p1), (2, .int p2), (3, .int p3)] → W p l e (headSpec wsX1_stretch ({ frames := 1, cells := 0, slots := 0, locals := 31 })).room s m ([.ref m9, .int p1, .int p2, .int p3] : List Value).toArray below meth c s.heap [] 0 0 (MQ below (va_Ql (fun r (u : Int64 × Int64) => kd4 (0 ≤ p3.toInt ∧ p3.toInt ≤ 1) (ok_len p1 p2) True True = 0 → r.toInt = fr (p2.toInt - p1.toInt) p1.toInt p3.toInt) (fun (u : Int64 × Int64) t => at_w dC dI cI A (wM m9 b1 b2 b3 b4 b5 b6 cI S F D J X Y (kd4 (0 ≤ p3.toInt ∧ p3.toInt ≤ 1) (ok_len p1 p2) True True) n ar sl hd hu hw im tc fa u.1 u.2) t) A) ([.ref m9, .int p1, .int p2, .int p3] : List Value).toArray s 0 0 A) (F0 m 32 ls [.int (bI (ok_len p1 p2)), .int (bI (0 ≤ p3.toInt ∧ p3.toInt ≤ 1)), .ref m9]) := by
    intro ls hl
    refine lv_iconst (v := 1) hx hb dX1_stretch_32 (by decide) ?_
    refine lv_iconst (v := 1) hx hb dX1_stretch_33 (by decide) ?_
    have hFc := va_free (wc := (wM m9 b1 b2 b3 b4 b5 b6 cI S F D J X Y th n ar sl hd hu hw im tc fa up dn)) hD hS hA [0, 1, 2, 3, 4, 5, 6] rfl
    refine va_calli (va_runV (As := [.int (bI (0 ≤ p3.toInt ∧ p3.toInt ≤ 1)), .int (bI (ok_len p1 p2)), .int 1, .int 1]) (rest := []) ⟨hx, hb, hml, hown, hts⟩ (c_X1_goes l dC dI s.heap.size m9 b1 b2 b3 b4 b5 b6 cI S F D J X Y th n ar sl hd hu hw im tc fa up dn (0 ≤ p3.toInt ∧ p3.toInt ≤ 1) (ok_len p1 p2) True True) (cwV 4 hts (gV wl_X1_47 wi_X1_goes wv_X1_goes wi_X1 wc_X1_goes) rfl rfl rfl (by decide +kernel) ⟨Nat.le_of_ble_eq_true rfl, Nat.le_of_ble_eq_true rfl⟩) ⟨fun a U g mk q => ⟨q.1, q.2.1, q.2.2.1, va_K.moved (u := U) (U := U.calling g mk a) (Vm.Alike.refl U.vm) q.2.2.2.1, q.2.2.2.2⟩, va_recv hK hP (ci := 1) (q0 := 0) rfl rfl, fun U hU hW => ⟨rfl, by rw [hU], by rw [hU]; exact hP, va_K.moved hW.alike hK, hD.weaken (fun _ _ _ _ => trivial)⟩⟩ rfl rfl hl.1 rfl (lv_room (Nat.le_of_ble_eq_true rfl)) dX1_stretch_34 ⟨Nat.le_of_ble_eq_true rfl, Nat.le_of_ble_eq_true rfl⟩) hS (fun q _ h => hFc q h) hFc (fun r34 u34 t H1 locs ht hvm h34 hB hz1 hk1 hS => ?_)
    obtain ⟨hP1, hK1, hD1⟩ := hB
    rw [ht] at hP1
    obtain ⟨hP, hD⟩ := va_join (wr := []) (w1 := (wM m9 b1 b2 b3 b4 b5 b6 cI S F D J X Y (kd4 (0 ≤ p3.toInt ∧ p3.toInt ≤ 1) (ok_len p1 p2) True True) n ar sl hd hu hw im tc fa up dn)) hP hD [0, 1, 2, 3, 4, 5, 6] [] rfl rfl (by decide) (by decide) hk1 hFc hP1 hD1
    generalize H1 = H at hP hS ⊢
    have hP : va_P (dC, dI) vwCl (wM m9 b1 b2 b3 b4 b5 b6 cI S F D J X Y (kd4 (0 ≤ p3.toInt ∧ p3.toInt ≤ 1) (ok_len p1 p2) True True) n ar sl hd hu hw im tc fa up dn) H := hP
    have hD : va_D A (wM m9 b1 b2 b3 b4 b5 b6 cI S F D J X Y (kd4 (0 ≤ p3.toInt ∧ p3.toInt ≤ 1) (ok_len p1 p2) True True) n ar sl hd hu hw im tc fa up dn) := hD
    subst h34
    refine lv_if_ne (tgt := 42) hx hb dX1_stretch_37 (by decide) (fun c37 => ?_) (fun c37 => ?_)
    · -- taken at 37
      have c37 := bI_ne0.mp c37
      have e9 := str_e (kd_z c37).2.1
      refine lv_aload_n hx hb dX1_stretch_42 rfl (lv_at hl 0 rfl) ?_
      refine lv_iload_n hx hb dX1_stretch_43 rfl (lv_at hl 2 rfl) ?_
      refine lv_iload_n hx hb dX1_stretch_44 rfl (lv_at hl 1 rfl) ?_
      refine lv_isub hx hb dX1_stretch_45 ?_
      refine lv_i2l hx hb dX1_stretch_46 rfl ?_
      refine lv_iload_n hx hb dX1_stretch_47 rfl (lv_at hl 1 rfl) ?_
      refine lv_i2l hx hb dX1_stretch_48 rfl ?_
      refine lv_iload_n hx hb dX1_stretch_49 rfl (lv_at hl 3 rfl) ?_
      have hFc := va_free (wc := (wM m9 b1 b2 b3 b4 b5 b6 cI S F D J X Y (kd4 (0 ≤ p3.toInt ∧ p3.toInt ≤ 1) (ok_len p1 p2) True True) n ar sl hd hu hw im tc fa up dn)) hD hS hA [0, 1, 2, 3, 4, 5, 6] rfl
      refine va_calll (va_runV (As := [.long ((p2 - p1).toInt64), .long p1.toInt64, .int p3]) (rest := []) ⟨hx, hb, hml, hown, hts⟩ (c_X1_part l dC dI H.size m9 b1 b2 b3 b4 b5 b6 cI S F D J X Y (kd4 (0 ≤ p3.toInt ∧ p3.toInt ≤ 1) (ok_len p1 p2) True True) n ar sl hd hu hw im tc fa up dn ((p2 - p1).toInt64) p1.toInt64 p3 (by omega) (by omega)) (cwV 3 hts (gV wl_X1_57 wi_X1_part wv_X1_part wi_X1 wc_X1_part) rfl rfl rfl (by decide +kernel) ⟨Nat.le_of_ble_eq_true rfl, Nat.le_of_ble_eq_true rfl⟩) ⟨fun a U g mk q => ⟨q.1, q.2.1, q.2.2.1, va_K.moved (u := U) (U := U.calling g mk a) (Vm.Alike.refl U.vm) q.2.2.2.1, q.2.2.2.2⟩, va_recv hK hP (ci := 1) (q0 := 0) rfl rfl, fun U hU hW => ⟨rfl, by rw [hU], by rw [hU]; exact hP, va_K.moved hW.alike hK, hD.weaken (fun _ _ _ _ => trivial)⟩⟩ rfl rfl hl.1 rfl (lv_room (Nat.le_of_ble_eq_true rfl)) dX1_stretch_50 ⟨Nat.le_of_ble_eq_true rfl, Nat.le_of_ble_eq_true rfl⟩) hS (fun q _ h => hFc q h) hFc (fun r50 u50 t H1 locs ht hvm h50 hB hz1 hk1 hS => ?_)
      obtain ⟨hP1, hK1, hD1⟩ := hB
      rw [ht] at hP1
      obtain ⟨hP, hD⟩ := va_join (wr := []) (w1 := (wM m9 b1 b2 b3 b4 b5 b6 cI S F D J X Y (kd4 (0 ≤ p3.toInt ∧ p3.toInt ≤ 1) (ok_len p1 p2) True True) n ar sl hd hu hw im tc fa u50.1 u50.2)) hP hD [0, 1, 2, 3, 4, 5, 6] [] rfl rfl (by decide) (by decide) hk1 hFc hP1 hD1
      generalize H1 = H at hP hS ⊢
      have hP : va_P (dC, dI) vwCl (wM m9 b1 b2 b3 b4 b5 b6 cI S F D J X Y (kd4 (0 ≤ p3.toInt ∧ p3.toInt ≤ 1) (ok_len p1 p2) True True) n ar sl hd hu hw im tc fa u50.1 u50.2) H := hP
      have hD : va_D A (wM m9 b1 b2 b3 b4 b5 b6 cI S F D J X Y (kd4 (0 ≤ p3.toInt ∧ p3.toInt ≤ 1) (ok_len p1 p2) True True) n ar sl hd hu hw im tc fa u50.1 u50.2) := hD
      exact W.lret (v := r50) hx hb hr (fun t ht hW => ⟨⟨r50, (u50.1, u50.2), rfl, fun _ => by rw [h50.1, e9.1, e9.2.1], ⟨by rw [ht]; exact hP, va_K.moved hW.alike hK, hD⟩⟩, hS.F ht⟩) hS.2.2 dX1_stretch_53
    · -- not taken at 37
      have c37 := bI_eq0.mp c37
      refine lv_lconst (v := 0) hx hb dX1_stretch_40 (by decide) ?_
      exact W.lret (v := 0) hx hb hr (fun t ht hW => ⟨⟨0, (up, dn), rfl, fun q => absurd q c37, ⟨by rw [ht]; exact hP, va_K.moved hW.alike hK, hD⟩⟩, hS.F ht⟩) hS.2.2 dX1_stretch_41
  refine lv_aload_n hx hb dX1_stretch_0 rfl (lv_at hl 0 rfl) ?_
  refine lv_iload_n hx hb dX1_stretch_1 rfl (lv_at hl 3 rfl) ?_
  refine lv_iconst (v := 0) hx hb dX1_stretch_2 (by decide) ?_
  refine lv_iconst (v := 1) hx hb dX1_stretch_3 (by decide) ?_
  refine vp_callSi (W.runS (As := [.int p3, .int 0, .int 1]) (rest := [.ref m9]) ⟨hx, hb, hml, hown, hts⟩ (c_X1_in l p3 0 1 0 1 (by decide) (by decide)) (va_cwS 3 hts (gS wl_X1_40 ws_X1_in wi_X1 wc_X1_in) rfl rfl rfl (by decide +kernel) ⟨Nat.le_of_ble_eq_true rfl, Nat.le_of_ble_eq_true rfl⟩) ⟨fun _ _ _ _ q => q, fun U hU hW => ⟨rfl, trivial⟩⟩ rfl rfl hl.1 rfl (lv_room (Nat.le_of_ble_eq_true rfl)) dX1_stretch_4 ⟨Nat.le_of_ble_eq_true rfl, Nat.le_of_ble_eq_true rfl⟩) (fun r4 h4 => ?_)
  subst h4
  refine lv_iload_n hx hb dX1_stretch_7 rfl (lv_at hl 1 rfl) ?_
  refine lv_iconst (v := 1) hx hb dX1_stretch_8 (by decide) ?_
  refine lv_ldc (v := 1000000) hx hb hown k39 dX1_stretch_9 ?_
  refine vp_callSi (W.runS (As := [.int p1, .int 1, .int 1000000]) (rest := [.int (bI (0 ≤ p3.toInt ∧ p3.toInt ≤ 1)), .ref m9]) ⟨hx, hb, hml, hown, hts⟩ (c_X1_in l p1 1 1000000 1 1000000 (by decide) (by decide)) (va_cwS 3 hts (gS wl_X1_40 ws_X1_in wi_X1 wc_X1_in) rfl rfl rfl (by decide +kernel) ⟨Nat.le_of_ble_eq_true rfl, Nat.le_of_ble_eq_true rfl⟩) ⟨fun _ _ _ _ q => q, fun U hU hW => ⟨rfl, trivial⟩⟩ rfl rfl hl.1 rfl (lv_room (Nat.le_of_ble_eq_true rfl)) dX1_stretch_11 ⟨Nat.le_of_ble_eq_true rfl, Nat.le_of_ble_eq_true rfl⟩) (fun r11 h11 => ?_)
  subst h11
  refine lv_if_eq (tgt := 31) hx hb dX1_stretch_14 (by decide) (fun c14 => ?_) (fun c14 => ?_)
  · -- taken at 14
    have c14 := bI_eq0.mp c14
    refine lv_iconst (v := 0) hx hb dX1_stretch_31 (by decide) ?_
    refine W.eq (congrArg (fun z => F0 m 32 ls (.int z :: [.int (bI (0 ≤ p3.toInt ∧ p3.toInt ≤ 1)), .ref m9])) ((bI_0 (c := ok_len p1 p2) (by unfold ok_len; omega)).symm)) ?_
    exact J32 ls (lv_sub hl [0, 1, 2, 3] rfl)
  · -- not taken at 14
    have c14 := bI_ne0.mp c14
    refine lv_iload_n hx hb dX1_stretch_17 rfl (lv_at hl 2 rfl) ?_
    refine lv_iconst (v := 1) hx hb dX1_stretch_18 (by decide) ?_
    refine lv_ldc (v := 1000000) hx hb hown k39 dX1_stretch_19 ?_
    refine vp_callSi (W.runS (As := [.int p2, .int 1, .int 1000000]) (rest := [.int (bI (0 ≤ p3.toInt ∧ p3.toInt ≤ 1)), .ref m9]) ⟨hx, hb, hml, hown, hts⟩ (c_X1_in l p2 1 1000000 1 1000000 (by decide) (by decide)) (va_cwS 3 hts (gS wl_X1_40 ws_X1_in wi_X1 wc_X1_in) rfl rfl rfl (by decide +kernel) ⟨Nat.le_of_ble_eq_true rfl, Nat.le_of_ble_eq_true rfl⟩) ⟨fun _ _ _ _ q => q, fun U hU hW => ⟨rfl, trivial⟩⟩ rfl rfl hl.1 rfl (lv_room (Nat.le_of_ble_eq_true rfl)) dX1_stretch_21 ⟨Nat.le_of_ble_eq_true rfl, Nat.le_of_ble_eq_true rfl⟩) (fun r21 h21 => ?_)
    subst h21
    refine lv_if_eq (tgt := 31) hx hb dX1_stretch_24 (by decide) (fun c24 => ?_) (fun c24 => ?_)
    · -- taken at 24
      have c24 := bI_eq0.mp c24
      refine lv_iconst (v := 0) hx hb dX1_stretch_31 (by decide) ?_
      refine W.eq (congrArg (fun z => F0 m 32 ls (.int z :: [.int (bI (0 ≤ p3.toInt ∧ p3.toInt ≤ 1)), .ref m9])) ((bI_0 (c := ok_len p1 p2) (by unfold ok_len; omega)).symm)) ?_
      exact J32 ls (lv_sub hl [0, 1, 2, 3] rfl)
    · -- not taken at 24
      have c24 := bI_ne0.mp c24
      refine lv_iconst (v := 1) hx hb dX1_stretch_27 (by decide) ?_
      refine lv_goto (tgt := 32) hx hb dX1_stretch_28 (by decide) ?_
      refine W.eq (congrArg (fun z => F0 m 32 ls (.int z :: [.int (bI (0 ≤ p3.toInt ∧ p3.toInt ≤ 1)), .ref m9])) ((bI_1 (c := ok_len p1 p2) (by unfold ok_len; omega)).symm)) ?_
      exact J32 ls (lv_sub hl [0, 1, 2, 3] rfl)
set_option maxHeartbeats 4000000 in
set_option maxRecDepth 100000 in
theorem c_X1_round (l : Launch) (dC : Nat → ClassId) (dI : Nat → Nat → Nat) (sz : Nat) (m9 b1 b2 b3 b4 b5 b6 : Nat) (cI : ClassId) (S F D J X Y : Nat → Int32) (th : Int32) (n : Nat) (ar sl hd : Int32) (hu hw : Int64) (im tc : Nat) (fa : Int32) (up dn : Int64) (y1 y2 : Int64) (p5 : Int32) : Met l yX1_round wsX1_round ({ frames := 1, cells := 0, slots := 0, locals := 29 }) (va_Pc [.ref m9, .long y1, .long y2, .int p5] (fun U => U.heap.size = sz ∧ va_P (dC, dI) vwCl (wM m9 b1 b2 b3 b4 b5 b6 cI S F D J X Y th n ar sl hd hu hw im tc fa up dn) U.heap ∧ va_K (dC, dI) vwCl [(cI, .int)] U ∧ va_D (fun _ => True) (wM m9 b1 b2 b3 b4 b5 b6 cI S F D J X Y th n ar sl hd hu hw im tc fa up dn))) (va_Ql (fun r (_ : Unit) => kd4 (0 ≤ p5.toInt ∧ p5.toInt ≤ 2) (ok_rd y1 y2) True True = 0 → r.toInt = rnd y1.toInt y2.toInt p5.toInt) (fun (_ : Unit) t => at_w dC dI cI (va_A (wM m9 b1 b2 b3 b4 b5 b6 cI S F D J X Y th n ar sl hd hu hw im tc fa up dn) sz) (wM m9 b1 b2 b3 b4 b5 b6 cI S F D J X Y (kd4 (0 ≤ p5.toInt ∧ p5.toInt ≤ 2) (ok_rd y1 y2) True True) n ar sl hd hu hw im tc fa up dn) t) (va_A (wM m9 b1 b2 b3 b4 b5 b6 cI S F D J X Y th n ar sl hd hu hw im tc fa up dn) sz)) 0 0 (va_A (wM m9 b1 b2 b3 b4 b5 b6 cI S F D J X Y th n ar sl hd hu hw im tc fa up dn) sz) := by
  refine Met.ofW (cc := cX1_round) (maxL := 6) (ret := (some .long)) (by decide) rfl ?_
  intro p e s m args below meth c s₁ B hml hv
  obtain ⟨rfl, hsz, hP, hK, hD0⟩ := hv
  have hx := B.exec
  have hb := B.bytes
  have hr := B.returns
  have hts := atoms_spec (ws := wsX1_round) B.pre
  have hown : s.vm.findClass RX1 = some m.cls := findClass_of_methodNamed B.named
  have hlocks := B.notSynchronized
  have hinX1 : ∀ w ∈ wsX10, w ∈ wsX1_round := fun w h => List.mem_cons_of_mem _ (inX1 w h)
  have k92 := hts _ (List.mem_cons_of_mem _ wl_X1_92)
  have k98 := hts _ (List.mem_cons_of_mem _ wl_X1_98)
  subst hsz
  have hD := hD0.self (sz := s.heap.size)
  generalize hAe : va_A (wM m9 b1 b2 b3 b4 b5 b6 cI S F D J X Y th n ar sl hd hu hw im tc fa up dn) s.heap.size = A at hD ⊢
  have hA : ∀ q : Nat, s.heap.size ≤ q → A q := fun q h => by rw [← hAe]; exact Or.inr h
  have hS : va_S A s.heap s.heap [] := va_S.rf
  have hl := lv_entry ([.ref m9, .long y1, .long y2, .int p5]) (n := 6) (Nat.le_of_ble_eq_true rfl)
  rw [lg_entry_eq]
  generalize (lg_sl ([.ref m9, .long y1, .long y2, .int p5]) ++ List.replicate (6 - (lg_sl ([.ref m9, .long y1, .long y2, .int p5])).length) Slot.unset).toArray = ls at hl ⊢
  have hl : lv_has ls 6 [(0, .ref m9), (1, .long y1), (3, .long y2), (5, .int p5)] := hl
  have J37 : ∀ (ls : Array Slot), lv_has ls 6 [(0, .ref m9), (1, .long y1), (3, .long y2), (5, .int p5)] → W p l e (headSpec wsX1_round ({ frames := 1, cells := 0, slots := 0, locals := 29 })).room s m ([.ref m9, .long y1, .long y2, .int p5] : List Value).toArray below meth c s.heap [] 0 0 (MQ below (va_Ql (fun r (_ : Unit) => kd4 (0 ≤ p5.toInt ∧ p5.toInt ≤ 2) (ok_rd y1 y2) True True = 0 → r.toInt = rnd y1.toInt y2.toInt p5.toInt) (fun (_ : Unit) t => at_w dC dI cI A (wM m9 b1 b2 b3 b4 b5 b6 cI S F D J X Y (kd4 (0 ≤ p5.toInt ∧ p5.toInt ≤ 2) (ok_rd y1 y2) True True) n ar sl hd hu hw im tc fa up dn) t) A) ([.ref m9, .long y1, .long y2, .int p5] : List Value).toArray s 0 0 A) (F0 m 37 ls [.int (bI (ok_rd y1 y2)), .int (bI (0 ≤ p5.toInt ∧ p5.toInt ≤ 2)), .ref m9]) := by
    intro ls hl
    refine lv_iconst (v := 1) hx hb dX1_round_37 (by decide) ?_
    refine lv_iconst (v := 1) hx hb dX1_round_38 (by decide) ?_
    have hFc := va_free (wc := (wM m9 b1 b2 b3 b4 b5 b6 cI S F D J X Y th n ar sl hd hu hw im tc fa up dn)) hD hS hA [0, 1, 2, 3, 4, 5, 6] rfl
    refine va_calli (va_runV (As := [.int (bI (0 ≤ p5.toInt ∧ p5.toInt ≤ 2)), .int (bI (ok_rd y1 y2)), .int 1, .int 1]) (rest := []) ⟨hx, hb, hml, hown, hts⟩ (c_X1_goes l dC dI s.heap.size m9 b1 b2 b3 b4 b5 b6 cI S F D J X Y th n ar sl hd hu hw im tc fa up dn (0 ≤ p5.toInt ∧ p5.toInt ≤ 2) (ok_rd y1 y2) True True) (cwV 4 hts (gV wl_X1_47 wi_X1_goes wv_X1_goes wi_X1 wc_X1_goes) rfl rfl rfl (by decide +kernel) ⟨Nat.le_of_ble_eq_true rfl, Nat.le_of_ble_eq_true rfl⟩) ⟨fun a U g mk q => ⟨q.1, q.2.1, q.2.2.1, va_K.moved (u := U) (U := U.calling g mk a) (Vm.Alike.refl U.vm) q.2.2.2.1, q.2.2.2.2⟩, va_recv hK hP (ci := 1) (q0 := 0) rfl rfl, fun U hU hW => ⟨rfl, by rw [hU], by rw [hU]; exact hP, va_K.moved hW.alike hK, hD.weaken (fun _ _ _ _ => trivial)⟩⟩ rfl rfl hl.1 rfl (lv_room (Nat.le_of_ble_eq_true rfl)) dX1_round_39 ⟨Nat.le_of_ble_eq_true rfl, Nat.le_of_ble_eq_true rfl⟩) hS (fun q _ h => hFc q h) hFc (fun r39 u39 t H1 locs ht hvm h39 hB hz1 hk1 hS => ?_)
    obtain ⟨hP1, hK1, hD1⟩ := hB
    rw [ht] at hP1
    obtain ⟨hP, hD⟩ := va_join (wr := []) (w1 := (wM m9 b1 b2 b3 b4 b5 b6 cI S F D J X Y (kd4 (0 ≤ p5.toInt ∧ p5.toInt ≤ 2) (ok_rd y1 y2) True True) n ar sl hd hu hw im tc fa up dn)) hP hD [0, 1, 2, 3, 4, 5, 6] [] rfl rfl (by decide) (by decide) hk1 hFc hP1 hD1
    generalize H1 = H at hP hS ⊢
    have hP : va_P (dC, dI) vwCl (wM m9 b1 b2 b3 b4 b5 b6 cI S F D J X Y (kd4 (0 ≤ p5.toInt ∧ p5.toInt ≤ 2) (ok_rd y1 y2) True True) n ar sl hd hu hw im tc fa up dn) H := hP
    have hD : va_D A (wM m9 b1 b2 b3 b4 b5 b6 cI S F D J X Y (kd4 (0 ≤ p5.toInt ∧ p5.toInt ≤ 2) (ok_rd y1 y2) True True) n ar sl hd hu hw im tc fa up dn) := hD
    subst h39
    refine lv_if_ne (tgt := 47) hx hb dX1_round_42 (by decide) (fun c42 => ?_) (fun c42 => ?_)
    · -- taken at 42
      have c42 := bI_ne0.mp c42
      obtain ⟨e1, ⟨⟨e2, e3⟩, e4, e5⟩, -⟩ := kd_z c42
      refine lv_lload_n hx hb dX1_round_47 rfl (lv_at hl 1 rfl) ?_
      refine lv_lload_n hx hb dX1_round_48 rfl (lv_at hl 2 rfl) ?_
      refine lv_iload hx hb dX1_round_49 (lv_at hl 3 rfl) ?_
      refine vp_callSl (W.runS (As := [.long y1, .long y2, .int p5]) (rest := []) ⟨hx, hb, hml, hown, hts⟩ (c_X1_rounded l y1 y2 p5 e4 e5 e2 e3 e1) (va_cwS 3 hts (gS wl_X1_89 ws_X1_rounded wi_X1 wc_X1_rounded) rfl rfl rfl (by decide +kernel) ⟨Nat.le_of_ble_eq_true rfl, Nat.le_of_ble_eq_true rfl⟩) ⟨fun _ _ _ _ q => q, fun U hU hW => ⟨rfl, trivial⟩⟩ rfl rfl hl.1 rfl (lv_room (Nat.le_of_ble_eq_true rfl)) dX1_round_51 ⟨Nat.le_of_ble_eq_true rfl, Nat.le_of_ble_eq_true rfl⟩) (fun r51 h51 => ?_)
      exact W.lret (v := r51) hx hb hr (fun t ht hW => ⟨⟨r51, (), rfl, fun _ => h51, ⟨by rw [ht]; exact hP, va_K.moved hW.alike hK, hD⟩⟩, hS.F ht⟩) hS.2.2 dX1_round_54
    · -- not taken at 42
      have c42 := bI_eq0.mp c42
      refine lv_lconst (v := 0) hx hb dX1_round_45 (by decide) ?_
      exact W.lret (v := 0) hx hb hr (fun t ht hW => ⟨⟨0, (), rfl, fun q => absurd q c42, ⟨by rw [ht]; exact hP, va_K.moved hW.alike hK, hD⟩⟩, hS.F ht⟩) hS.2.2 dX1_round_46
  refine lv_aload_n hx hb dX1_round_0 rfl (lv_at hl 0 rfl) ?_
  refine lv_iload hx hb dX1_round_1 (lv_at hl 3 rfl) ?_
  refine lv_iconst (v := 0) hx hb dX1_round_3 (by decide) ?_
  refine lv_iconst (v := 2) hx hb dX1_round_4 (by decide) ?_
  refine vp_callSi (W.runS (As := [.int p5, .int 0, .int 2]) (rest := [.ref m9]) ⟨hx, hb, hml, hown, hts⟩ (c_X1_in l p5 0 2 0 2 (by decide) (by decide)) (va_cwS 3 hts (gS wl_X1_40 ws_X1_in wi_X1 wc_X1_in) rfl rfl rfl (by decide +kernel) ⟨Nat.le_of_ble_eq_true rfl, Nat.le_of_ble_eq_true rfl⟩) ⟨fun _ _ _ _ q => q, fun U hU hW => ⟨rfl, trivial⟩⟩ rfl rfl hl.1 rfl (lv_room (Nat.le_of_ble_eq_true rfl)) dX1_round_5 ⟨Nat.le_of_ble_eq_true rfl, Nat.le_of_ble_eq_true rfl⟩) (fun r5 h5 => ?_)
  subst h5
  refine lv_lload_n hx hb dX1_round_8 rfl (lv_at hl 2 rfl) ?_
  refine lv_lconst (v := 1) hx hb dX1_round_9 (by decide) ?_
  refine lv_ldc2 (v := 1000000000000) hx hb hown k92 dX1_round_10 ?_
  refine vp_callSi (W.runS (As := [.long y2, .long 1, .long 1000000000000]) (rest := [.int (bI (0 ≤ p5.toInt ∧ p5.toInt ≤ 2)), .ref m9]) ⟨hx, hb, hml, hown, hts⟩ (c_X1_in8 l y2 1 1000000000000 1 1000000000000 (by decide) (by decide)) (va_cwS 3 hts (gS wl_X1_94 ws_X1_in8 wi_X1 wc_X1_in8) rfl rfl rfl (by decide +kernel) ⟨Nat.le_of_ble_eq_true rfl, Nat.le_of_ble_eq_true rfl⟩) ⟨fun _ _ _ _ q => q, fun U hU hW => ⟨rfl, trivial⟩⟩ rfl rfl hl.1 rfl (lv_room (Nat.le_of_ble_eq_true rfl)) dX1_round_13 ⟨Nat.le_of_ble_eq_true rfl, Nat.le_of_ble_eq_true rfl⟩) (fun r13 h13 => ?_)
  subst h13
  refine lv_if_eq (tgt := 36) hx hb dX1_round_16 (by decide) (fun c16 => ?_) (fun c16 => ?_)
  · -- taken at 16
    have c16 := bI_eq0.mp c16
    refine lv_iconst (v := 0) hx hb dX1_round_36 (by decide) ?_
    refine W.eq (congrArg (fun z => F0 m 37 ls (.int z :: [.int (bI (0 ≤ p5.toInt ∧ p5.toInt ≤ 2)), .ref m9])) ((bI_0 (c := ok_rd y1 y2) (by unfold ok_rd; omega)).symm)) ?_
    exact J37 ls (lv_sub hl [0, 1, 2, 3] rfl)
  · -- not taken at 16
    have c16 := bI_ne0.mp c16
    refine lv_lload_n hx hb dX1_round_19 rfl (lv_at hl 1 rfl) ?_
    refine lv_ldc2 (v := (-1000000000000)) hx hb hown k98 dX1_round_20 ?_
    refine lv_ldc2 (v := 1000000000000) hx hb hown k92 dX1_round_23 ?_
    refine vp_callSi (W.runS (As := [.long y1, .long (-1000000000000), .long 1000000000000]) (rest := [.int (bI (0 ≤ p5.toInt ∧ p5.toInt ≤ 2)), .ref m9]) ⟨hx, hb, hml, hown, hts⟩ (c_X1_in8 l y1 (-1000000000000) 1000000000000 (-1000000000000) 1000000000000 (by decide) (by decide)) (va_cwS 3 hts (gS wl_X1_94 ws_X1_in8 wi_X1 wc_X1_in8) rfl rfl rfl (by decide +kernel) ⟨Nat.le_of_ble_eq_true rfl, Nat.le_of_ble_eq_true rfl⟩) ⟨fun _ _ _ _ q => q, fun U hU hW => ⟨rfl, trivial⟩⟩ rfl rfl hl.1 rfl (lv_room (Nat.le_of_ble_eq_true rfl)) dX1_round_26 ⟨Nat.le_of_ble_eq_true rfl, Nat.le_of_ble_eq_true rfl⟩) (fun r26 h26 => ?_)
    subst h26
    refine lv_if_eq (tgt := 36) hx hb dX1_round_29 (by decide) (fun c29 => ?_) (fun c29 => ?_)
    · -- taken at 29
      have c29 := bI_eq0.mp c29
      refine lv_iconst (v := 0) hx hb dX1_round_36 (by decide) ?_
      refine W.eq (congrArg (fun z => F0 m 37 ls (.int z :: [.int (bI (0 ≤ p5.toInt ∧ p5.toInt ≤ 2)), .ref m9])) ((bI_0 (c := ok_rd y1 y2) (by unfold ok_rd; omega)).symm)) ?_
      exact J37 ls (lv_sub hl [0, 1, 2, 3] rfl)
    · -- not taken at 29
      have c29 := bI_ne0.mp c29
      refine lv_iconst (v := 1) hx hb dX1_round_32 (by decide) ?_
      refine lv_goto (tgt := 37) hx hb dX1_round_33 (by decide) ?_
      refine W.eq (congrArg (fun z => F0 m 37 ls (.int z :: [.int (bI (0 ≤ p5.toInt ∧ p5.toInt ≤ 2)), .ref m9])) ((bI_1 (c := ok_rd y1 y2) (by unfold ok_rd; omega)).symm)) ?_
      exact J37 ls (lv_sub hl [0, 1, 2, 3] rfl)
set_option maxHeartbeats 4000000 in
set_option maxRecDepth 100000 in
theorem c_X1_machine (l : Launch) (dC : Nat → ClassId) (dI : Nat → Nat → Nat) (sz : Nat) (m9 b1 b2 b3 b4 b5 b6 : Nat) (cI : ClassId) (S F D J X Y : Nat → Int32) (th : Int32) (n : Nat) (ar sl hd : Int32) (hu hw : Int64) (im tc : Nat) (fa : Int32) (up dn : Int64) (p1 p2 : Int32) : Met l yX1_machine wsX1_machine ({ frames := 1, cells := 0, slots := 0, locals := 24 }) (va_Pc [.ref m9, .int p1, .int p2] (fun U => U.heap.size = sz ∧ va_P (dC, dI) vwCl (wM m9 b1 b2 b3 b4 b5 b6 cI S F D J X Y th n ar sl hd hu hw im tc fa up dn) U.heap ∧ va_K (dC, dI) vwCl [(cI, .int)] U ∧ va_D (fun _ => True) (wM m9 b1 b2 b3 b4 b5 b6 cI S F D J X Y th n ar sl hd hu hw im tc fa up dn))) (va_Qi (fun r (_ : Unit) => kd4 (ok_mac p1 p2) True True True = 0 → r = bI (mfail p1 p2)) (fun (_ : Unit) t => (kd4 (ok_mac p1 p2) True True True = 0 ∧ at_w dC dI cI (va_A (wM m9 b1 b2 b3 b4 b5 b6 cI S F D J X Y th n ar sl hd hu hw im tc fa up dn) sz) (wM m9 b1 b2 b3 b4 b5 b6 cI S F D J X Y (kd4 (ok_mac p1 p2) True True True) n ar sl hd hu hw im tc (bI (mfail p1 p2)) up dn) t) ∨ (¬ kd4 (ok_mac p1 p2) True True True = 0 ∧ at_w dC dI cI (va_A (wM m9 b1 b2 b3 b4 b5 b6 cI S F D J X Y th n ar sl hd hu hw im tc fa up dn) sz) (wM m9 b1 b2 b3 b4 b5 b6 cI S F D J X Y (kd4 (ok_mac p1 p2) True True True) n ar sl hd hu hw im tc fa up dn) t)) (va_A (wM m9 b1 b2 b3 b4 b5 b6 cI S F D J X Y th n ar sl hd hu hw im tc fa up dn) sz)) 0 0 (va_A (wM m9 b1 b2 b3 b4 b5 b6 cI S F D J X Y th n ar sl hd hu hw im tc fa up dn) sz) := by
  refine Met.ofW (cc := cX1_machine) (maxL := 4) (ret := (some .boolean)) (by decide) rfl ?_
  intro p e s m args below meth c s₁ B hml hv
  obtain ⟨rfl, hsz, hP, hK, hD0⟩ := hv
  have hx := B.exec
  have hb := B.bytes
  have hr := B.returns
  have hts := atoms_spec (ws := wsX1_machine) B.pre
  have hown : s.vm.findClass RX1 = some m.cls := findClass_of_methodNamed B.named
  have hlocks := B.notSynchronized
  have hinX1 : ∀ w ∈ wsX10, w ∈ wsX1_machine := fun w h => List.mem_cons_of_mem _ (inX1 w h)
  have k39 := hts _ (List.mem_cons_of_mem _ wl_X1_39)
  have f100 := hts _ (List.mem_cons_of_mem _ wl_X1_100)
  subst hsz
  have hD := hD0.self (sz := s.heap.size)
  generalize hAe : va_A (wM m9 b1 b2 b3 b4 b5 b6 cI S F D J X Y th n ar sl hd hu hw im tc fa up dn) s.heap.size = A at hD ⊢
  have hA : ∀ q : Nat, s.heap.size ≤ q → A q := fun q h => by rw [← hAe]; exact Or.inr h
  have hS : va_S A s.heap s.heap [] := va_S.rf
  have hl := lv_entry ([.ref m9, .int p1, .int p2]) (n := 4) (Nat.le_of_ble_eq_true rfl)
  rw [lg_entry_eq]
  generalize (lg_sl ([.ref m9, .int p1, .int p2]) ++ List.replicate (4 - (lg_sl ([.ref m9, .int p1, .int p2])).length) Slot.unset).toArray = ls at hl ⊢
  have hl : lv_has ls 4 [(0, .ref m9), (1, .int p1), (2, .int p2)] := hl
  have J26 : ∀ (ls : Array Slot), lv_has ls 4 [(0, .ref m9), (1, .int p1), (2, .int p2)] → W p l e (headSpec wsX1_machine ({ frames := 1, cells := 0, slots := 0, locals := 24 })).room s m ([.ref m9, .int p1, .int p2] : List Value).toArray below meth c s.heap [] 0 0 (MQ below (va_Qi (fun r (_ : Unit) => kd4 (ok_mac p1 p2) True True True = 0 → r = bI (mfail p1 p2)) (fun (_ : Unit) t => (kd4 (ok_mac p1 p2) True True True = 0 ∧ at_w dC dI cI A (wM m9 b1 b2 b3 b4 b5 b6 cI S F D J X Y (kd4 (ok_mac p1 p2) True True True) n ar sl hd hu hw im tc (bI (mfail p1 p2)) up dn) t) ∨ (¬ kd4 (ok_mac p1 p2) True True True = 0 ∧ at_w dC dI cI A (wM m9 b1 b2 b3 b4 b5 b6 cI S F D J X Y (kd4 (ok_mac p1 p2) True True True) n ar sl hd hu hw im tc fa up dn) t)) A) ([.ref m9, .int p1, .int p2] : List Value).toArray s 0 0 A) (F0 m 26 ls [.int (bI (ok_mac p1 p2)), .ref m9]) := by
    intro ls hl
    refine lv_iconst (v := 1) hx hb dX1_machine_26 (by decide) ?_
    refine lv_iconst (v := 1) hx hb dX1_machine_27 (by decide) ?_
    refine lv_iconst (v := 1) hx hb dX1_machine_28 (by decide) ?_
    have hFc := va_free (wc := (wM m9 b1 b2 b3 b4 b5 b6 cI S F D J X Y th n ar sl hd hu hw im tc fa up dn)) hD hS hA [0, 1, 2, 3, 4, 5, 6] rfl
    refine va_calli (va_runV (As := [.int (bI (ok_mac p1 p2)), .int 1, .int 1, .int 1]) (rest := []) ⟨hx, hb, hml, hown, hts⟩ (c_X1_goes l dC dI s.heap.size m9 b1 b2 b3 b4 b5 b6 cI S F D J X Y th n ar sl hd hu hw im tc fa up dn (ok_mac p1 p2) True True True) (cwV 4 hts (gV wl_X1_47 wi_X1_goes wv_X1_goes wi_X1 wc_X1_goes) rfl rfl rfl (by decide +kernel) ⟨Nat.le_of_ble_eq_true rfl, Nat.le_of_ble_eq_true rfl⟩) ⟨fun a U g mk q => ⟨q.1, q.2.1, q.2.2.1, va_K.moved (u := U) (U := U.calling g mk a) (Vm.Alike.refl U.vm) q.2.2.2.1, q.2.2.2.2⟩, va_recv hK hP (ci := 1) (q0 := 0) rfl rfl, fun U hU hW => ⟨rfl, by rw [hU], by rw [hU]; exact hP, va_K.moved hW.alike hK, hD.weaken (fun _ _ _ _ => trivial)⟩⟩ rfl rfl hl.1 rfl (lv_room (Nat.le_of_ble_eq_true rfl)) dX1_machine_29 ⟨Nat.le_of_ble_eq_true rfl, Nat.le_of_ble_eq_true rfl⟩) hS (fun q _ h => hFc q h) hFc (fun r29 u29 t H1 locs ht hvm h29 hB hz1 hk1 hS => ?_)
    obtain ⟨hP1, hK1, hD1⟩ := hB
    rw [ht] at hP1
    obtain ⟨hP, hD⟩ := va_join (wr := []) (w1 := (wM m9 b1 b2 b3 b4 b5 b6 cI S F D J X Y (kd4 (ok_mac p1 p2) True True True) n ar sl hd hu hw im tc fa up dn)) hP hD [0, 1, 2, 3, 4, 5, 6] [] rfl rfl (by decide) (by decide) hk1 hFc hP1 hD1
    generalize H1 = H at hP hS ⊢
    have hP : va_P (dC, dI) vwCl (wM m9 b1 b2 b3 b4 b5 b6 cI S F D J X Y (kd4 (ok_mac p1 p2) True True True) n ar sl hd hu hw im tc fa up dn) H := hP
    have hD : va_D A (wM m9 b1 b2 b3 b4 b5 b6 cI S F D J X Y (kd4 (ok_mac p1 p2) True True True) n ar sl hd hu hw im tc fa up dn) := hD
    subst h29
    refine lv_if_ne (tgt := 37) hx hb dX1_machine_32 (by decide) (fun c32 => ?_) (fun c32 => ?_)
    · -- taken at 32
      have c32 := bI_ne0.mp c32
      have e9 := mac_e (kd_z c32).1
      have J66 : ∀ (ls : Array Slot), lv_has ls 4 [(0, .ref m9), (1, .int p1), (2, .int p2)] → W p l e (headSpec wsX1_machine ({ frames := 1, cells := 0, slots := 0, locals := 24 })).room s m ([.ref m9, .int p1, .int p2] : List Value).toArray below meth c H locs 0 0 (MQ below (va_Qi (fun r (_ : Unit) => kd4 (ok_mac p1 p2) True True True = 0 → r = bI (mfail p1 p2)) (fun (_ : Unit) t => (kd4 (ok_mac p1 p2) True True True = 0 ∧ at_w dC dI cI A (wM m9 b1 b2 b3 b4 b5 b6 cI S F D J X Y (kd4 (ok_mac p1 p2) True True True) n ar sl hd hu hw im tc (bI (mfail p1 p2)) up dn) t) ∨ (¬ kd4 (ok_mac p1 p2) True True True = 0 ∧ at_w dC dI cI A (wM m9 b1 b2 b3 b4 b5 b6 cI S F D J X Y (kd4 (ok_mac p1 p2) True True True) n ar sl hd hu hw im tc fa up dn) t)) A) ([.ref m9, .int p1, .int p2] : List Value).toArray s 0 0 A) (F0 m 66 ls [.int (bI (mfail p1 p2)), .ref m9]) := by
        intro ls hl
        refine va_put (D := (dC, dI)) (ci := 1) (v := .int (bI (mfail p1 p2))) (ty := .boolean) (C := RX1) (T := TX1) (N := 18) hx hb hts hinX1 tyX1 tyX1_ok nmX1 hown hK hP hD hS 0 rfl rfl 15 (by decide) f100 (fun _ h9 => h9) rfl (by decide +kernel) (bI_nar) (bI_fit) (Nat.le_of_ble_eq_true rfl) dX1_machine_66 (fun H locs hP hD hS => ?_)
        have hP : va_P (dC, dI) vwCl (wM m9 b1 b2 b3 b4 b5 b6 cI S F D J X Y (kd4 (ok_mac p1 p2) True True True) n ar sl hd hu hw im tc (bI (mfail p1 p2)) up dn) H := hP
        have hD : va_D A (wM m9 b1 b2 b3 b4 b5 b6 cI S F D J X Y (kd4 (ok_mac p1 p2) True True True) n ar sl hd hu hw im tc (bI (mfail p1 p2)) up dn) := hD
        refine lv_aload_n hx hb dX1_machine_69 rfl (lv_at hl 0 rfl) ?_
        refine va_get (D := (dC, dI)) (ci := 1) (v := .int (bI (mfail p1 p2))) (C := RX1) (T := TX1) (N := 18) hx hb hts hinX1 hown hK hP 0 rfl rfl 15 (by decide) f100 (fun _ h9 => h9) rfl dX1_machine_70 ?_
        exact W.zret (v := bI (mfail p1 p2)) hx hb hr bI_nar (fun t ht hW => ⟨⟨bI (mfail p1 p2), (), rfl, fun _ => rfl, Or.inl ⟨c32, ⟨by rw [ht]; exact hP, va_K.moved hW.alike hK, hD⟩⟩⟩, hS.F ht⟩) hS.2.2 dX1_machine_73
      refine lv_iload_n hx hb dX1_machine_37 rfl (lv_at hl 1 rfl) ?_
      refine lv_iload_n hx hb dX1_machine_38 rfl (lv_at hl 2 rfl) ?_
      refine lv_icmp_le (tgt := 48) hx hb dX1_machine_39 (by decide) (fun c39 => ?_) (fun c39 => ?_)
      · -- taken at 39
        have c39 : p1.toInt ≤ p2.toInt := (Int32.le_iff_toInt_le).mp c39
        refine lv_iload_n hx hb dX1_machine_48 rfl (lv_at hl 2 rfl) ?_
        refine lv_iload_n hx hb dX1_machine_49 rfl (lv_at hl 1 rfl) ?_
        refine lv_isub hx hb dX1_machine_50 ?_
        refine lv_istore_n (lv' := [(3, .int (p2 - p1)), (0, .ref m9), (1, .int p1), (2, .int p2)]) hx hb dX1_machine_51 rfl hl (by decide) rfl (fun ls hl => ?_)
        refine lv_aload_n hx hb dX1_machine_52 rfl (lv_at hl 1 rfl) ?_
        refine lv_iload_n hx hb dX1_machine_53 rfl (lv_at hl 0 rfl) ?_
        refine lv_bipush (v := 100) hx hb dX1_machine_54 (by decide) ?_
        refine lv_imul hx hb dX1_machine_56 ?_
        refine lv_iload_n hx hb dX1_machine_57 rfl (lv_at hl 2 rfl) ?_
        refine lv_icmp_le (tgt := 65) hx hb dX1_machine_58 (by decide) (fun c58 => ?_) (fun c58 => ?_)
        · -- taken at 58
          have c58 : ((p2 - p1) * 100).toInt ≤ p1.toInt := (Int32.le_iff_toInt_le).mp c58
          refine lv_iconst (v := 0) hx hb dX1_machine_65 (by decide) ?_
          refine W.eq (congrArg (fun z => F0 m 66 ls (.int z :: [.ref m9])) ((bI_0 (c := mfail p1 p2) (by unfold mfail; omega)).symm)) ?_
          exact J66 ls (lv_sub hl [1, 2, 3] rfl)
        · -- not taken at 58
          have c58 : ¬ ((p2 - p1) * 100).toInt ≤ p1.toInt := fun q9 => c58 ((Int32.le_iff_toInt_le).mpr q9)
          refine lv_iconst (v := 1) hx hb dX1_machine_61 (by decide) ?_
          refine lv_goto (tgt := 66) hx hb dX1_machine_62 (by decide) ?_
          refine W.eq (congrArg (fun z => F0 m 66 ls (.int z :: [.ref m9])) ((bI_1 (c := mfail p1 p2) (by unfold mfail; omega)).symm)) ?_
          exact J66 ls (lv_sub hl [1, 2, 3] rfl)
      · -- not taken at 39
        have c39 : ¬ p1.toInt ≤ p2.toInt := fun q9 => c39 ((Int32.le_iff_toInt_le).mpr q9)
        refine lv_iload_n hx hb dX1_machine_42 rfl (lv_at hl 1 rfl) ?_
        refine lv_iload_n hx hb dX1_machine_43 rfl (lv_at hl 2 rfl) ?_
        refine lv_isub hx hb dX1_machine_44 ?_
        refine lv_goto (tgt := 51) hx hb dX1_machine_45 (by decide) ?_
        refine lv_istore_n (lv' := [(3, .int (p1 - p2)), (0, .ref m9), (1, .int p1), (2, .int p2)]) hx hb dX1_machine_51 rfl hl (by decide) rfl (fun ls hl => ?_)
        refine lv_aload_n hx hb dX1_machine_52 rfl (lv_at hl 1 rfl) ?_
        refine lv_iload_n hx hb dX1_machine_53 rfl (lv_at hl 0 rfl) ?_
        refine lv_bipush (v := 100) hx hb dX1_machine_54 (by decide) ?_
        refine lv_imul hx hb dX1_machine_56 ?_
        refine lv_iload_n hx hb dX1_machine_57 rfl (lv_at hl 2 rfl) ?_
        refine lv_icmp_le (tgt := 65) hx hb dX1_machine_58 (by decide) (fun c58 => ?_) (fun c58 => ?_)
        · -- taken at 58
          have c58 : ((p1 - p2) * 100).toInt ≤ p1.toInt := (Int32.le_iff_toInt_le).mp c58
          refine lv_iconst (v := 0) hx hb dX1_machine_65 (by decide) ?_
          refine W.eq (congrArg (fun z => F0 m 66 ls (.int z :: [.ref m9])) ((bI_0 (c := mfail p1 p2) (by unfold mfail; omega)).symm)) ?_
          exact J66 ls (lv_sub hl [1, 2, 3] rfl)
        · -- not taken at 58
          have c58 : ¬ ((p1 - p2) * 100).toInt ≤ p1.toInt := fun q9 => c58 ((Int32.le_iff_toInt_le).mpr q9)
          refine lv_iconst (v := 1) hx hb dX1_machine_61 (by decide) ?_
          refine lv_goto (tgt := 66) hx hb dX1_machine_62 (by decide) ?_
          refine W.eq (congrArg (fun z => F0 m 66 ls (.int z :: [.ref m9])) ((bI_1 (c := mfail p1 p2) (by unfold mfail; omega)).symm)) ?_
          exact J66 ls (lv_sub hl [1, 2, 3] rfl)
    · -- not taken at 32
      have c32 := bI_eq0.mp c32
      refine lv_iconst (v := 0) hx hb dX1_machine_35 (by decide) ?_
      exact W.zret (v := 0) hx hb hr rfl (fun t ht hW => ⟨⟨0, (), rfl, fun q => absurd q c32, Or.inr ⟨c32, ⟨by rw [ht]; exact hP, va_K.moved hW.alike hK, hD⟩⟩⟩, hS.F ht⟩) hS.2.2 dX1_machine_36
  refine lv_aload_n hx hb dX1_machine_0 rfl (lv_at hl 0 rfl) ?_
  refine lv_iload_n hx hb dX1_machine_1 rfl (lv_at hl 1 rfl) ?_
  refine lv_iconst (v := 1) hx hb dX1_machine_2 (by decide) ?_
  refine lv_ldc (v := 1000000) hx hb hown k39 dX1_machine_3 ?_
  refine vp_callSi (W.runS (As := [.int p1, .int 1, .int 1000000]) (rest := [.ref m9]) ⟨hx, hb, hml, hown, hts⟩ (c_X1_in l p1 1 1000000 1 1000000 (by decide) (by decide)) (va_cwS 3 hts (gS wl_X1_40 ws_X1_in wi_X1 wc_X1_in) rfl rfl rfl (by decide +kernel) ⟨Nat.le_of_ble_eq_true rfl, Nat.le_of_ble_eq_true rfl⟩) ⟨fun _ _ _ _ q => q, fun U hU hW => ⟨rfl, trivial⟩⟩ rfl rfl hl.1 rfl (lv_room (Nat.le_of_ble_eq_true rfl)) dX1_machine_5 ⟨Nat.le_of_ble_eq_true rfl, Nat.le_of_ble_eq_true rfl⟩) (fun r5 h5 => ?_)
  subst h5
  refine lv_if_eq (tgt := 25) hx hb dX1_machine_8 (by decide) (fun c8 => ?_) (fun c8 => ?_)
  · -- taken at 8
    have c8 := bI_eq0.mp c8
    refine lv_iconst (v := 0) hx hb dX1_machine_25 (by decide) ?_
    refine W.eq (congrArg (fun z => F0 m 26 ls (.int z :: [.ref m9])) ((bI_0 (c := ok_mac p1 p2) (by unfold ok_mac; omega)).symm)) ?_
    exact J26 ls (lv_sub hl [0, 1, 2] rfl)
  · -- not taken at 8
    have c8 := bI_ne0.mp c8
    refine lv_iload_n hx hb dX1_machine_11 rfl (lv_at hl 2 rfl) ?_
    refine lv_iconst (v := 1) hx hb dX1_machine_12 (by decide) ?_
    refine lv_ldc (v := 1000000) hx hb hown k39 dX1_machine_13 ?_
    refine vp_callSi (W.runS (As := [.int p2, .int 1, .int 1000000]) (rest := [.ref m9]) ⟨hx, hb, hml, hown, hts⟩ (c_X1_in l p2 1 1000000 1 1000000 (by decide) (by decide)) (va_cwS 3 hts (gS wl_X1_40 ws_X1_in wi_X1 wc_X1_in) rfl rfl rfl (by decide +kernel) ⟨Nat.le_of_ble_eq_true rfl, Nat.le_of_ble_eq_true rfl⟩) ⟨fun _ _ _ _ q => q, fun U hU hW => ⟨rfl, trivial⟩⟩ rfl rfl hl.1 rfl (lv_room (Nat.le_of_ble_eq_true rfl)) dX1_machine_15 ⟨Nat.le_of_ble_eq_true rfl, Nat.le_of_ble_eq_true rfl⟩) (fun r15 h15 => ?_)
    subst h15
    refine lv_if_eq (tgt := 25) hx hb dX1_machine_18 (by decide) (fun c18 => ?_) (fun c18 => ?_)
    · -- taken at 18
      have c18 := bI_eq0.mp c18
      refine lv_iconst (v := 0) hx hb dX1_machine_25 (by decide) ?_
      refine W.eq (congrArg (fun z => F0 m 26 ls (.int z :: [.ref m9])) ((bI_0 (c := ok_mac p1 p2) (by unfold ok_mac; omega)).symm)) ?_
      exact J26 ls (lv_sub hl [0, 1, 2] rfl)
    · -- not taken at 18
      have c18 := bI_ne0.mp c18
      refine lv_iconst (v := 1) hx hb dX1_machine_21 (by decide) ?_
      refine lv_goto (tgt := 26) hx hb dX1_machine_22 (by decide) ?_
      refine W.eq (congrArg (fun z => F0 m 26 ls (.int z :: [.ref m9])) ((bI_1 (c := ok_mac p1 p2) (by unfold ok_mac; omega)).symm)) ?_
      exact J26 ls (lv_sub hl [0, 1, 2] rfl)
set_option maxHeartbeats 4000000 in
set_option maxRecDepth 100000 in
theorem c_X1_peak (l : Launch) (dC : Nat → ClassId) (dI : Nat → Nat → Nat) (sz : Nat) (m9 b1 b2 b3 b4 b5 b6 : Nat) (cI : ClassId) (S F D J X Y : Nat → Int32) (th : Int32) (n : Nat) (ar sl hd : Int32) (hu hw : Int64) (im tc : Nat) (fa : Int32) (up dn : Int64) (p1 : Int32) (hn : n ≤ 40) (har : 0 ≤ ar.toInt) : Met l yX1_peak wsX1_peak ({ frames := 1, cells := 0, slots := 0, locals := 24 }) (va_Pc [.ref m9, .int p1] (fun U => U.heap.size = sz ∧ va_P (dC, dI) vwCl (wM m9 b1 b2 b3 b4 b5 b6 cI S F D J X Y th n ar sl hd hu hw im tc fa up dn) U.heap ∧ va_K (dC, dI) vwCl [(cI, .int)] U ∧ va_D (fun _ => True) (wM m9 b1 b2 b3 b4 b5 b6 cI S F D J X Y th n ar sl hd hu hw im tc fa up dn))) (va_Qi (fun r (_ : Unit) => kd4 (0 ≤ p1.toInt ∧ p1.toInt ≤ 2) (ok_pk n ar p1) True True = 0 → r = pka S F n sl ar p1) (fun (_ : Unit) t => at_w dC dI cI (va_A (wM m9 b1 b2 b3 b4 b5 b6 cI S F D J X Y th n ar sl hd hu hw im tc fa up dn) sz) (wM m9 b1 b2 b3 b4 b5 b6 cI S F D J X Y (kd4 (0 ≤ p1.toInt ∧ p1.toInt ≤ 2) (ok_pk n ar p1) True True) n ar sl hd hu hw im tc fa up dn) t) (va_A (wM m9 b1 b2 b3 b4 b5 b6 cI S F D J X Y th n ar sl hd hu hw im tc fa up dn) sz)) 0 0 (va_A (wM m9 b1 b2 b3 b4 b5 b6 cI S F D J X Y th n ar sl hd hu hw im tc fa up dn) sz) := by
  refine Met.ofW (cc := cX1_peak) (maxL := 3) (ret := (some .int)) (by decide) rfl ?_
  intro p e s m args below meth c s₁ B hml hv
  obtain ⟨rfl, hsz, hP, hK, hD0⟩ := hv
  have hx := B.exec
  have hb := B.bytes
  have hr := B.returns
  have hts := atoms_spec (ws := wsX1_peak) B.pre
  have hown : s.vm.findClass RX1 = some m.cls := findClass_of_methodNamed B.named
  have hlocks := B.notSynchronized
  have hinX1 : ∀ w ∈ wsX10, w ∈ wsX1_peak := fun w h => List.mem_cons_of_mem _ (inX1 w h)
  have f44 := hts _ (List.mem_cons_of_mem _ wl_X1_44)
  have f51 := hts _ (List.mem_cons_of_mem _ wl_X1_51)
  have f13 := hts _ (List.mem_cons_of_mem _ wl_X1_13)
  have f7 := hts _ (List.mem_cons_of_mem _ wl_X1_7)
  have f54 := hts _ (List.mem_cons_of_mem _ wl_X1_54)
  subst hsz
  have hD := hD0.self (sz := s.heap.size)
  generalize hAe : va_A (wM m9 b1 b2 b3 b4 b5 b6 cI S F D J X Y th n ar sl hd hu hw im tc fa up dn) s.heap.size = A at hD ⊢
  have hA : ∀ q : Nat, s.heap.size ≤ q → A q := fun q h => by rw [← hAe]; exact Or.inr h
  have hS : va_S A s.heap s.heap [] := va_S.rf
  have hl := lv_entry ([.ref m9, .int p1]) (n := 3) (Nat.le_of_ble_eq_true rfl)
  rw [lg_entry_eq]
  generalize (lg_sl ([.ref m9, .int p1]) ++ List.replicate (3 - (lg_sl ([.ref m9, .int p1])).length) Slot.unset).toArray = ls at hl ⊢
  have hl : lv_has ls 3 [(0, .ref m9), (1, .int p1)] := hl
  have J31 : ∀ (ls : Array Slot), lv_has ls 3 [(0, .ref m9), (1, .int p1)] → W p l e (headSpec wsX1_peak ({ frames := 1, cells := 0, slots := 0, locals := 24 })).room s m ([.ref m9, .int p1] : List Value).toArray below meth c s.heap [] 0 0 (MQ below (va_Qi (fun r (_ : Unit) => kd4 (0 ≤ p1.toInt ∧ p1.toInt ≤ 2) (ok_pk n ar p1) True True = 0 → r = pka S F n sl ar p1) (fun (_ : Unit) t => at_w dC dI cI A (wM m9 b1 b2 b3 b4 b5 b6 cI S F D J X Y (kd4 (0 ≤ p1.toInt ∧ p1.toInt ≤ 2) (ok_pk n ar p1) True True) n ar sl hd hu hw im tc fa up dn) t) A) ([.ref m9, .int p1] : List Value).toArray s 0 0 A) (F0 m 31 ls [.int (bI (ok_pk n ar p1)), .int (bI (0 ≤ p1.toInt ∧ p1.toInt ≤ 2)), .ref m9]) := by
    intro ls hl
    refine lv_iconst (v := 1) hx hb dX1_peak_31 (by decide) ?_
    refine lv_iconst (v := 1) hx hb dX1_peak_32 (by decide) ?_
    have hFc := va_free (wc := (wM m9 b1 b2 b3 b4 b5 b6 cI S F D J X Y th n ar sl hd hu hw im tc fa up dn)) hD hS hA [0, 1, 2, 3, 4, 5, 6] rfl
    refine va_calli (va_runV (As := [.int (bI (0 ≤ p1.toInt ∧ p1.toInt ≤ 2)), .int (bI (ok_pk n ar p1)), .int 1, .int 1]) (rest := []) ⟨hx, hb, hml, hown, hts⟩ (c_X1_goes l dC dI s.heap.size m9 b1 b2 b3 b4 b5 b6 cI S F D J X Y th n ar sl hd hu hw im tc fa up dn (0 ≤ p1.toInt ∧ p1.toInt ≤ 2) (ok_pk n ar p1) True True) (cwV 4 hts (gV wl_X1_47 wi_X1_goes wv_X1_goes wi_X1 wc_X1_goes) rfl rfl rfl (by decide +kernel) ⟨Nat.le_of_ble_eq_true rfl, Nat.le_of_ble_eq_true rfl⟩) ⟨fun a U g mk q => ⟨q.1, q.2.1, q.2.2.1, va_K.moved (u := U) (U := U.calling g mk a) (Vm.Alike.refl U.vm) q.2.2.2.1, q.2.2.2.2⟩, va_recv hK hP (ci := 1) (q0 := 0) rfl rfl, fun U hU hW => ⟨rfl, by rw [hU], by rw [hU]; exact hP, va_K.moved hW.alike hK, hD.weaken (fun _ _ _ _ => trivial)⟩⟩ rfl rfl hl.1 rfl (lv_room (Nat.le_of_ble_eq_true rfl)) dX1_peak_33 ⟨Nat.le_of_ble_eq_true rfl, Nat.le_of_ble_eq_true rfl⟩) hS (fun q _ h => hFc q h) hFc (fun r33 u33 t H1 locs ht hvm h33 hB hz1 hk1 hS => ?_)
    obtain ⟨hP1, hK1, hD1⟩ := hB
    rw [ht] at hP1
    obtain ⟨hP, hD⟩ := va_join (wr := []) (w1 := (wM m9 b1 b2 b3 b4 b5 b6 cI S F D J X Y (kd4 (0 ≤ p1.toInt ∧ p1.toInt ≤ 2) (ok_pk n ar p1) True True) n ar sl hd hu hw im tc fa up dn)) hP hD [0, 1, 2, 3, 4, 5, 6] [] rfl rfl (by decide) (by decide) hk1 hFc hP1 hD1
    generalize H1 = H at hP hS ⊢
    have hP : va_P (dC, dI) vwCl (wM m9 b1 b2 b3 b4 b5 b6 cI S F D J X Y (kd4 (0 ≤ p1.toInt ∧ p1.toInt ≤ 2) (ok_pk n ar p1) True True) n ar sl hd hu hw im tc fa up dn) H := hP
    have hD : va_D A (wM m9 b1 b2 b3 b4 b5 b6 cI S F D J X Y (kd4 (0 ≤ p1.toInt ∧ p1.toInt ≤ 2) (ok_pk n ar p1) True True) n ar sl hd hu hw im tc fa up dn) := hD
    subst h33
    refine lv_if_ne (tgt := 41) hx hb dX1_peak_36 (by decide) (fun c36 => ?_) (fun c36 => ?_)
    · -- taken at 36
      have c36 := bI_ne0.mp c36
      obtain ⟨e1, e2, -⟩ := kd_z c36
      have e4 := e2.1
      have hpk := pkf_lt F (k := n) (by omega)
      refine lv_aload_n hx hb dX1_peak_41 rfl (lv_at hl 0 rfl) ?_
      refine vp_callSi (W.runV (As := []) (rest := []) ⟨hx, hb, hml, hown, hts⟩ (c_X1_peakRow l dC dI m9 b1 b2 b3 b4 b5 b6 cI S F D J X Y (kd4 (0 ≤ p1.toInt ∧ p1.toInt ≤ 2) (ok_pk n ar p1) True True) n ar sl hd hu hw im tc fa up dn hn (by omega)) (cwV 0 hts (gV wl_X1_77 wi_X1_peakRow wv_X1_peakRow wi_X1 wc_X1_peakRow) rfl rfl rfl (by decide +kernel) ⟨Nat.le_of_ble_eq_true rfl, Nat.le_of_ble_eq_true rfl⟩) ⟨fun a U g mk q => ⟨q.1, q.2.1, va_K.moved (u := U) (U := U.calling g mk a) (Vm.Alike.refl U.vm) q.2.2⟩, va_recv hK hP (ci := 1) (q0 := 0) rfl rfl, fun U hU hW => ⟨rfl, by rw [hU]; exact hP, va_K.moved hW.alike hK⟩⟩ rfl rfl hl.1 rfl (lv_room (Nat.le_of_ble_eq_true rfl)) dX1_peak_42 ⟨Nat.le_of_ble_eq_true rfl, Nat.le_of_ble_eq_true rfl⟩) (fun r42 h42 => ?_)
      subst h42
      refine lv_istore_n (lv' := [(2, .int (nI (pk F n))), (0, .ref m9), (1, .int p1)]) hx hb dX1_peak_45 rfl hl (by decide) rfl (fun ls hl => ?_)
      refine lv_iload_n hx hb dX1_peak_46 rfl (lv_at hl 2 rfl) ?_
      refine lv_if_ne (tgt := 59) hx hb dX1_peak_47 (by decide) (fun c47 => ?_) (fun c47 => ?_)
      · -- taken at 47
        have c47 : ¬ p1.toInt = 0 := fun q9 => c47 ((Int32.toInt_inj.symm).mpr q9)
        refine lv_iload_n hx hb dX1_peak_59 rfl (lv_at hl 2 rfl) ?_
        refine lv_iconst (v := 1) hx hb dX1_peak_60 (by decide) ?_
        refine lv_icmp_ne (tgt := 78) hx hb dX1_peak_61 (by decide) (fun c61 => ?_) (fun c61 => ?_)
        · -- taken at 61
          have c61 : ¬ p1.toInt = 1 := fun q9 => c61 ((Int32.toInt_inj.symm).mpr q9)
          have e3 : 0 < ar.toInt := by have := e2.2; omega
          refine lv_aload_n hx hb dX1_peak_78 rfl (lv_at hl 1 rfl) ?_
          refine va_get (D := (dC, dI)) (ci := 1) (v := .ref b2) (C := RX1) (T := TX1) (N := 18) hx hb hts hinX1 hown hK hP 0 rfl rfl 3 (by decide) f13 (fun _ h9 => h9) rfl dX1_peak_79 ?_
          refine lv_iload_n hx hb dX1_peak_82 rfl (lv_at hl 0 rfl) ?_
          refine va_iald (D := (dC, dI)) hx hb hK hP 2 0 rfl rfl (vp_in_nI (show pk F n < 40 by omega) (by decide)) dX1_peak_83 ?_
          refine W.eq (congrArg (fun z => F0 m 84 ls (.int z :: [])) (congrArg F (nI_clamp (show pk F n < 2 ^ 31 by omega)))) ?_
          refine lv_sipush (v := 1000) hx hb dX1_peak_84 (by decide) ?_
          refine lv_imul hx hb dX1_peak_87 ?_
          refine lv_aload_n hx hb dX1_peak_88 rfl (lv_at hl 1 rfl) ?_
          refine va_get (D := (dC, dI)) (ci := 1) (v := .int ar) (C := RX1) (T := TX1) (N := 18) hx hb hts hinX1 hown hK hP 0 rfl rfl 4 (by decide) f51 (fun _ h9 => h9) rfl dX1_peak_89 ?_
          refine lv_idiv hx hb dX1_peak_92 (fun q => by rw [q] at e3; exact absurd e3 (by decide)) ?_
          exact W.iret (v := ((F (pk F n)) * 1000) / ar) hx hb hr (fun t ht hW => ⟨⟨((F (pk F n)) * 1000) / ar, (), rfl, fun _ => (pka_2 c47 c61).symm, ⟨by rw [ht]; exact hP, va_K.moved hW.alike hK, hD⟩⟩, hS.F ht⟩) hS.2.2 dX1_peak_93
        · -- not taken at 61
          have c61 : p1.toInt = 1 := (Int32.toInt_inj.symm).mp c61
          refine lv_aload_n hx hb dX1_peak_64 rfl (lv_at hl 1 rfl) ?_
          refine va_get (D := (dC, dI)) (ci := 1) (v := .ref b1) (C := RX1) (T := TX1) (N := 18) hx hb hts hinX1 hown hK hP 0 rfl rfl 2 (by decide) f7 (fun _ h9 => h9) rfl dX1_peak_65 ?_
          refine lv_iload_n hx hb dX1_peak_68 rfl (lv_at hl 0 rfl) ?_
          refine va_iald (D := (dC, dI)) hx hb hK hP 1 0 rfl rfl (vp_in_nI (show pk F n < 40 by omega) (by decide)) dX1_peak_69 ?_
          refine W.eq (congrArg (fun z => F0 m 70 ls (.int z :: [])) (congrArg S (nI_clamp (show pk F n < 2 ^ 31 by omega)))) ?_
          refine lv_aload_n hx hb dX1_peak_70 rfl (lv_at hl 1 rfl) ?_
          refine va_get (D := (dC, dI)) (ci := 1) (v := .int sl) (C := RX1) (T := TX1) (N := 18) hx hb hts hinX1 hown hK hP 0 rfl rfl 5 (by decide) f54 (fun _ h9 => h9) rfl dX1_peak_71 ?_
          refine lv_isub hx hb dX1_peak_74 ?_
          refine lv_goto (tgt := 93) hx hb dX1_peak_75 (by decide) ?_
          exact W.iret (v := (S (pk F n)) - sl) hx hb hr (fun t ht hW => ⟨⟨(S (pk F n)) - sl, (), rfl, fun _ => (pka_1 c61).symm, ⟨by rw [ht]; exact hP, va_K.moved hW.alike hK, hD⟩⟩, hS.F ht⟩) hS.2.2 dX1_peak_93
      · -- not taken at 47
        have c47 : p1.toInt = 0 := (Int32.toInt_inj.symm).mp c47
        refine lv_aload_n hx hb dX1_peak_50 rfl (lv_at hl 1 rfl) ?_
        refine va_get (D := (dC, dI)) (ci := 1) (v := .ref b2) (C := RX1) (T := TX1) (N := 18) hx hb hts hinX1 hown hK hP 0 rfl rfl 3 (by decide) f13 (fun _ h9 => h9) rfl dX1_peak_51 ?_
        refine lv_iload_n hx hb dX1_peak_54 rfl (lv_at hl 0 rfl) ?_
        refine va_iald (D := (dC, dI)) hx hb hK hP 2 0 rfl rfl (vp_in_nI (show pk F n < 40 by omega) (by decide)) dX1_peak_55 ?_
        refine W.eq (congrArg (fun z => F0 m 56 ls (.int z :: [])) (congrArg F (nI_clamp (show pk F n < 2 ^ 31 by omega)))) ?_
        refine lv_goto (tgt := 93) hx hb dX1_peak_56 (by decide) ?_
        exact W.iret (v := F (pk F n)) hx hb hr (fun t ht hW => ⟨⟨F (pk F n), (), rfl, fun _ => (pka_0 c47).symm, ⟨by rw [ht]; exact hP, va_K.moved hW.alike hK, hD⟩⟩, hS.F ht⟩) hS.2.2 dX1_peak_93
    · -- not taken at 36
      have c36 := bI_eq0.mp c36
      refine lv_iconst (v := 0) hx hb dX1_peak_39 (by decide) ?_
      exact W.iret (v := 0) hx hb hr (fun t ht hW => ⟨⟨0, (), rfl, fun q => absurd q c36, ⟨by rw [ht]; exact hP, va_K.moved hW.alike hK, hD⟩⟩, hS.F ht⟩) hS.2.2 dX1_peak_40
  refine lv_aload_n hx hb dX1_peak_0 rfl (lv_at hl 0 rfl) ?_
  refine lv_iload_n hx hb dX1_peak_1 rfl (lv_at hl 1 rfl) ?_
  refine lv_iconst (v := 0) hx hb dX1_peak_2 (by decide) ?_
  refine lv_iconst (v := 2) hx hb dX1_peak_3 (by decide) ?_
  refine vp_callSi (W.runS (As := [.int p1, .int 0, .int 2]) (rest := [.ref m9]) ⟨hx, hb, hml, hown, hts⟩ (c_X1_in l p1 0 2 0 2 (by decide) (by decide)) (va_cwS 3 hts (gS wl_X1_40 ws_X1_in wi_X1 wc_X1_in) rfl rfl rfl (by decide +kernel) ⟨Nat.le_of_ble_eq_true rfl, Nat.le_of_ble_eq_true rfl⟩) ⟨fun _ _ _ _ q => q, fun U hU hW => ⟨rfl, trivial⟩⟩ rfl rfl hl.1 rfl (lv_room (Nat.le_of_ble_eq_true rfl)) dX1_peak_4 ⟨Nat.le_of_ble_eq_true rfl, Nat.le_of_ble_eq_true rfl⟩) (fun r4 h4 => ?_)
  subst h4
  refine lv_aload_n hx hb dX1_peak_7 rfl (lv_at hl 0 rfl) ?_
  refine va_get (D := (dC, dI)) (ci := 1) (v := .int (nI n)) (C := RX1) (T := TX1) (N := 18) hx hb hts hinX1 hown hK hP 0 rfl rfl 1 (by decide) f44 (fun _ h9 => h9) rfl dX1_peak_8 ?_
  refine lv_if_le (tgt := 30) hx hb dX1_peak_11 (by decide) (fun c11 => ?_) (fun c11 => ?_)
  · -- taken at 11
    have c11 : n ≤ 0 := (nI_leI (a := n) (b := 0) (by omega) (by omega)).mp c11
    refine lv_iconst (v := 0) hx hb dX1_peak_30 (by decide) ?_
    refine W.eq (congrArg (fun z => F0 m 31 ls (.int z :: [.int (bI (0 ≤ p1.toInt ∧ p1.toInt ≤ 2)), .ref m9])) ((bI_0 (c := ok_pk n ar p1) (by unfold ok_pk; omega)).symm)) ?_
    exact J31 ls (lv_sub hl [0, 1] rfl)
  · -- not taken at 11
    have c11 : ¬ n ≤ 0 := fun q9 => c11 ((nI_leI (a := n) (b := 0) (by omega) (by omega)).mpr q9)
    refine lv_iload_n hx hb dX1_peak_14 rfl (lv_at hl 1 rfl) ?_
    refine lv_iconst (v := 2) hx hb dX1_peak_15 (by decide) ?_
    refine lv_icmp_ne (tgt := 26) hx hb dX1_peak_16 (by decide) (fun c16 => ?_) (fun c16 => ?_)
    · -- taken at 16
      have c16 : ¬ p1.toInt = 2 := fun q9 => c16 ((Int32.toInt_inj.symm).mpr q9)
      refine lv_iconst (v := 1) hx hb dX1_peak_26 (by decide) ?_
      refine lv_goto (tgt := 31) hx hb dX1_peak_27 (by decide) ?_
      refine W.eq (congrArg (fun z => F0 m 31 ls (.int z :: [.int (bI (0 ≤ p1.toInt ∧ p1.toInt ≤ 2)), .ref m9])) ((bI_1 (c := ok_pk n ar p1) (by unfold ok_pk; omega)).symm)) ?_
      exact J31 ls (lv_sub hl [0, 1] rfl)
    · -- not taken at 16
      have c16 : p1.toInt = 2 := (Int32.toInt_inj.symm).mp c16
      refine lv_aload_n hx hb dX1_peak_19 rfl (lv_at hl 0 rfl) ?_
      refine va_get (D := (dC, dI)) (ci := 1) (v := .int ar) (C := RX1) (T := TX1) (N := 18) hx hb hts hinX1 hown hK hP 0 rfl rfl 4 (by decide) f51 (fun _ h9 => h9) rfl dX1_peak_20 ?_
      refine lv_if_le (tgt := 30) hx hb dX1_peak_23 (by decide) (fun c23 => ?_) (fun c23 => ?_)
      · -- taken at 23
        have c23 : ar.toInt ≤ 0 := (Int32.le_iff_toInt_le).mp c23
        refine lv_iconst (v := 0) hx hb dX1_peak_30 (by decide) ?_
        refine W.eq (congrArg (fun z => F0 m 31 ls (.int z :: [.int (bI (0 ≤ p1.toInt ∧ p1.toInt ≤ 2)), .ref m9])) ((bI_0 (c := ok_pk n ar p1) (by unfold ok_pk; omega)).symm)) ?_
        exact J31 ls (lv_sub hl [0, 1] rfl)
      · -- not taken at 23
        have c23 : ¬ ar.toInt ≤ 0 := fun q9 => c23 ((Int32.le_iff_toInt_le).mpr q9)
        refine lv_iconst (v := 1) hx hb dX1_peak_26 (by decide) ?_
        refine lv_goto (tgt := 31) hx hb dX1_peak_27 (by decide) ?_
        refine W.eq (congrArg (fun z => F0 m 31 ls (.int z :: [.int (bI (0 ≤ p1.toInt ∧ p1.toInt ≤ 2)), .ref m9])) ((bI_1 (c := ok_pk n ar p1) (by unfold ok_pk; omega)).symm)) ?_
        exact J31 ls (lv_sub hl [0, 1] rfl)
set_option maxHeartbeats 4000000 in
set_option maxRecDepth 100000 in
theorem c_X1_invalid (l : Launch) (dC : Nat → ClassId) (dI : Nat → Nat → Nat) (sz : Nat) (m9 b1 b2 b3 b4 b5 b6 : Nat) (cI : ClassId) (S F D J X Y : Nat → Int32) (th : Int32) (n : Nat) (ar sl hd : Int32) (hu hw : Int64) (im tc : Nat) (fa : Int32) (up dn : Int64) (hn : n ≤ 40) (hFb : ∀ j, j < n → 0 ≤ (F j).toInt ∧ (F j).toInt ≤ 1000000) : Met l yX1_invalid wsX1_invalid ({ frames := 1, cells := 0, slots := 0, locals := 22 }) (va_Pc [.ref m9] (fun U => U.heap.size = sz ∧ va_P (dC, dI) vwCl (wM m9 b1 b2 b3 b4 b5 b6 cI S F D J X Y th n ar sl hd hu hw im tc fa up dn) U.heap ∧ va_K (dC, dI) vwCl [(cI, .int)] U ∧ va_D (fun _ => True) (wM m9 b1 b2 b3 b4 b5 b6 cI S F D J X Y th n ar sl hd hu hw im tc fa up dn))) (va_Qi (fun r (_ : Unit) => ivs F n ar.toInt (¬ fa.toInt = 0) r) (fun (_ : Unit) t => at_w dC dI cI (va_A (wM m9 b1 b2 b3 b4 b5 b6 cI S F D J X Y th n ar sl hd hu hw im tc fa up dn) sz) (wM m9 b1 b2 b3 b4 b5 b6 cI S F D J X Y 0 n ar sl hd hu hw im tc fa up dn) t) (va_A (wM m9 b1 b2 b3 b4 b5 b6 cI S F D J X Y th n ar sl hd hu hw im tc fa up dn) sz)) 0 0 (va_A (wM m9 b1 b2 b3 b4 b5 b6 cI S F D J X Y th n ar sl hd hu hw im tc fa up dn) sz) := by
  refine Met.ofW (cc := cX1_invalid) (maxL := 4) (ret := (some .int)) (by decide) rfl ?_
  intro p e s m args below meth c s₁ B hml hv
  obtain ⟨rfl, hsz, hP, hK, hD0⟩ := hv
  have hx := B.exec
  have hb := B.bytes
  have hr := B.returns
  have hts := atoms_spec (ws := wsX1_invalid) B.pre
  have hown : s.vm.findClass RX1 = some m.cls := findClass_of_methodNamed B.named
  have hlocks := B.notSynchronized
  have hinX1 : ∀ w ∈ wsX10, w ∈ wsX1_invalid := fun w h => List.mem_cons_of_mem _ (inX1 w h)
  have f28 := hts _ (List.mem_cons_of_mem _ wl_X1_28)
  have f51 := hts _ (List.mem_cons_of_mem _ wl_X1_51)
  have f44 := hts _ (List.mem_cons_of_mem _ wl_X1_44)
  have f13 := hts _ (List.mem_cons_of_mem _ wl_X1_13)
  have f100 := hts _ (List.mem_cons_of_mem _ wl_X1_100)
  subst hsz
  have hD := hD0.self (sz := s.heap.size)
  generalize hAe : va_A (wM m9 b1 b2 b3 b4 b5 b6 cI S F D J X Y th n ar sl hd hu hw im tc fa up dn) s.heap.size = A at hD ⊢
  have hA : ∀ q : Nat, s.heap.size ≤ q → A q := fun q h => by rw [← hAe]; exact Or.inr h
  have hS : va_S A s.heap s.heap [] := va_S.rf
  have hl := lv_entry ([.ref m9]) (n := 4) (Nat.le_of_ble_eq_true rfl)
  rw [lg_entry_eq]
  generalize (lg_sl ([.ref m9]) ++ List.replicate (4 - (lg_sl ([.ref m9])).length) Slot.unset).toArray = ls at hl ⊢
  have hl : lv_has ls 4 [(0, .ref m9)] := hl
  refine lv_aload_n hx hb dX1_invalid_0 rfl (lv_at hl 0 rfl) ?_
  refine lv_iconst (v := 0) hx hb dX1_invalid_1 (by decide) ?_
  refine va_put (D := (dC, dI)) (ci := 1) (v := .int 0) (ty := .int) (C := RX1) (T := TX1) (N := 18) hx hb hts hinX1 tyX1 tyX1_ok nmX1 hown hK hP hD hS 0 rfl rfl 0 (by decide) f28 (fun _ h9 => h9) rfl (by decide +kernel) (rfl) (rfl) (Nat.le_of_ble_eq_true rfl) dX1_invalid_2 (fun H locs hP hD hS => ?_)
  have hP : va_P (dC, dI) vwCl (wM m9 b1 b2 b3 b4 b5 b6 cI S F D J X Y 0 n ar sl hd hu hw im tc fa up dn) H := hP
  have hD : va_D A (wM m9 b1 b2 b3 b4 b5 b6 cI S F D J X Y 0 n ar sl hd hu hw im tc fa up dn) := hD
  refine lv_aload_n hx hb dX1_invalid_5 rfl (lv_at hl 0 rfl) ?_
  refine va_get (D := (dC, dI)) (ci := 1) (v := .int ar) (C := RX1) (T := TX1) (N := 18) hx hb hts hinX1 hown hK hP 0 rfl rfl 4 (by decide) f51 (fun _ h9 => h9) rfl dX1_invalid_6 ?_
  refine lv_if_ne (tgt := 14) hx hb dX1_invalid_9 (by decide) (fun c9 => ?_) (fun c9 => ?_)
  · -- taken at 9
    have c9 : ¬ ar.toInt = 0 := fun q9 => c9 ((Int32.toInt_inj.symm).mpr q9)
    refine lv_aload_n hx hb dX1_invalid_14 rfl (lv_at hl 0 rfl) ?_
    refine va_get (D := (dC, dI)) (ci := 1) (v := .int (nI n)) (C := RX1) (T := TX1) (N := 18) hx hb hts hinX1 hown hK hP 0 rfl rfl 1 (by decide) f44 (fun _ h9 => h9) rfl dX1_invalid_15 ?_
    refine lv_iconst (v := 5) hx hb dX1_invalid_18 (by decide) ?_
    refine lv_icmp_ge (tgt := 24) hx hb dX1_invalid_19 (by decide) (fun c19 => ?_) (fun c19 => ?_)
    · -- taken at 19
      have c19 : 5 ≤ n := (nI_leI (a := 5) (b := n) (by omega) (by omega)).mp c19
      have hpk := pkf_lt F (k := n) (by omega)
      refine lv_aload_n hx hb dX1_invalid_24 rfl (lv_at hl 0 rfl) ?_
      refine vp_callSi (W.runV (As := []) (rest := []) ⟨hx, hb, hml, hown, hts⟩ (c_X1_peakRow l dC dI m9 b1 b2 b3 b4 b5 b6 cI S F D J X Y 0 n ar sl hd hu hw im tc fa up dn hn (by omega)) (cwV 0 hts (gV wl_X1_77 wi_X1_peakRow wv_X1_peakRow wi_X1 wc_X1_peakRow) rfl rfl rfl (by decide +kernel) ⟨Nat.le_of_ble_eq_true rfl, Nat.le_of_ble_eq_true rfl⟩) ⟨fun a U g mk q => ⟨q.1, q.2.1, va_K.moved (u := U) (U := U.calling g mk a) (Vm.Alike.refl U.vm) q.2.2⟩, va_recv hK hP (ci := 1) (q0 := 0) rfl rfl, fun U hU hW => ⟨rfl, by rw [hU]; exact hP, va_K.moved hW.alike hK⟩⟩ rfl rfl hl.1 rfl (lv_room (Nat.le_of_ble_eq_true rfl)) dX1_invalid_25 ⟨Nat.le_of_ble_eq_true rfl, Nat.le_of_ble_eq_true rfl⟩) (fun r25 h25 => ?_)
      subst h25
      refine lv_istore_n (lv' := [(1, .int (nI (pk F n))), (0, .ref m9)]) hx hb dX1_invalid_28 rfl hl (by decide) rfl (fun ls hl => ?_)
      refine lv_iload_n hx hb dX1_invalid_29 rfl (lv_at hl 0 rfl) ?_
      refine lv_if_ne (tgt := 35) hx hb dX1_invalid_30 (by decide) (fun c30 => ?_) (fun c30 => ?_)
      · -- taken at 30
        have c30 : ¬ (pk F n) = 0 := fun q9 => c30 ((nI_eq (a := (pk F n)) (b := 0) (by omega) (by omega)).mpr q9)
        have L55 : ∀ (f : Nat) (k : Nat) (z : Int32) (ls : Array Slot), n + 1 ≤ k + f → (pk F n < k) → (k ≤ n) → ((z = 1 ∧ (pk F n = n - 1 ∨ hfb F k (pk F n))) ∨ (z = 0 ∧ ¬ (pk F n = n - 1 ∨ hfb F k (pk F n)))) → lv_has ls 4 [(3, .int (nI k)), (2, .int z), (1, .int (nI (pk F n))), (0, .ref m9)] → W p l e (headSpec wsX1_invalid ({ frames := 1, cells := 0, slots := 0, locals := 22 })).room s m ([.ref m9] : List Value).toArray below meth c H locs 0 0 (MQ below (va_Qi (fun r (_ : Unit) => ivs F n ar.toInt (¬ fa.toInt = 0) r) (fun (_ : Unit) t => at_w dC dI cI A (wM m9 b1 b2 b3 b4 b5 b6 cI S F D J X Y 0 n ar sl hd hu hw im tc fa up dn) t) A) ([.ref m9] : List Value).toArray s 0 0 A) (F0 m 55 ls []) := by
          intro f
          induction f with
          | zero => intro k z ls hm hk hk2 hz hl; exact absurd hm (by omega)
          | succ f ih =>
            intro k z ls hm hk hk2 hz hl
            refine lv_iload_n hx hb dX1_invalid_55 rfl (lv_at hl 0 rfl) ?_
            refine lv_aload_n hx hb dX1_invalid_56 rfl (lv_at hl 3 rfl) ?_
            refine va_get (D := (dC, dI)) (ci := 1) (v := .int (nI n)) (C := RX1) (T := TX1) (N := 18) hx hb hts hinX1 hown hK hP 0 rfl rfl 1 (by decide) f44 (fun _ h9 => h9) rfl dX1_invalid_57 ?_
            refine lv_icmp_ge (tgt := 88) hx hb dX1_invalid_60 (by decide) (fun c60 => ?_) (fun c60 => ?_)
            · -- taken at 60
              have c60 : n ≤ k := (nI_leI (a := n) (b := k) (by omega) (by omega)).mp c60
              have hkn : n = k := by omega
              subst hkn
              refine lv_iload_n hx hb dX1_invalid_88 rfl (lv_at hl 1 rfl) ?_
              refine lv_if_ne (tgt := 94) hx hb dX1_invalid_89 (by decide) (fun c89 => ?_) (fun c89 => ?_)
              · -- taken at 89
                have c89 : ¬ z.toInt = 0 := fun q9 => c89 ((Int32.toInt_inj.symm).mpr q9)
                refine lv_aload_n hx hb dX1_invalid_94 rfl (lv_at hl 3 rfl) ?_
                refine va_get (D := (dC, dI)) (ci := 1) (v := .int fa) (C := RX1) (T := TX1) (N := 18) hx hb hts hinX1 hown hK hP 0 rfl rfl 15 (by decide) f100 (fun _ h9 => h9) rfl dX1_invalid_95 ?_
                refine lv_if_eq (tgt := 105) hx hb dX1_invalid_98 (by decide) (fun c98 => ?_) (fun c98 => ?_)
                · -- taken at 98
                  have c98 : fa.toInt = 0 := (Int32.toInt_inj.symm).mp c98
                  refine lv_iconst (v := 0) hx hb dX1_invalid_105 (by decide) ?_
                  exact W.iret (v := 0) hx hb hr (fun t ht hW => ⟨⟨0, (), rfl, Or.inr (Or.inr (Or.inr (Or.inr (Or.inr ⟨c9, by omega, c30, iv_nz hz c89, fun q => q c98, rfl⟩)))), ⟨by rw [ht]; exact hP, va_K.moved hW.alike hK, hD⟩⟩, hS.F ht⟩) hS.2.2 dX1_invalid_106
                · -- not taken at 98
                  have c98 : ¬ fa.toInt = 0 := fun q9 => c98 ((Int32.toInt_inj.symm).mpr q9)
                  refine lv_iconst (v := 5) hx hb dX1_invalid_101 (by decide) ?_
                  refine lv_goto (tgt := 106) hx hb dX1_invalid_102 (by decide) ?_
                  exact W.iret (v := 5) hx hb hr (fun t ht hW => ⟨⟨5, (), rfl, Or.inr (Or.inr (Or.inr (Or.inr (Or.inl ⟨c9, by omega, c30, iv_nz hz c89, c98, rfl⟩)))), ⟨by rw [ht]; exact hP, va_K.moved hW.alike hK, hD⟩⟩, hS.F ht⟩) hS.2.2 dX1_invalid_106
              · -- not taken at 89
                have c89 : z.toInt = 0 := (Int32.toInt_inj.symm).mp c89
                refine lv_iconst (v := 4) hx hb dX1_invalid_92 (by decide) ?_
                exact W.iret (v := 4) hx hb hr (fun t ht hW => ⟨⟨4, (), rfl, Or.inr (Or.inr (Or.inr (Or.inl ⟨c9, by omega, c30, iv_z hz c89, rfl⟩))), ⟨by rw [ht]; exact hP, va_K.moved hW.alike hK, hD⟩⟩, hS.F ht⟩) hS.2.2 dX1_invalid_93
            · -- not taken at 60
              have c60 : ¬ n ≤ k := fun q9 => c60 ((nI_leI (a := n) (b := k) (by omega) (by omega)).mpr q9)
              refine lv_iconst (v := 2) hx hb dX1_invalid_63 (by decide) ?_
              refine lv_aload_n hx hb dX1_invalid_64 rfl (lv_at hl 3 rfl) ?_
              refine va_get (D := (dC, dI)) (ci := 1) (v := .ref b2) (C := RX1) (T := TX1) (N := 18) hx hb hts hinX1 hown hK hP 0 rfl rfl 3 (by decide) f13 (fun _ h9 => h9) rfl dX1_invalid_65 ?_
              refine lv_iload_n hx hb dX1_invalid_68 rfl (lv_at hl 0 rfl) ?_
              refine va_iald (D := (dC, dI)) hx hb hK hP 2 0 rfl rfl (vp_in_nI (show k < 40 by omega) (by decide)) dX1_invalid_69 ?_
              refine W.eq (congrArg (fun z => F0 m 70 ls (.int z :: [.int 2])) (congrArg F (nI_clamp (show k < 2 ^ 31 by omega)))) ?_
              refine lv_imul hx hb dX1_invalid_70 ?_
              refine lv_aload_n hx hb dX1_invalid_71 rfl (lv_at hl 3 rfl) ?_
              refine va_get (D := (dC, dI)) (ci := 1) (v := .ref b2) (C := RX1) (T := TX1) (N := 18) hx hb hts hinX1 hown hK hP 0 rfl rfl 3 (by decide) f13 (fun _ h9 => h9) rfl dX1_invalid_72 ?_
              refine lv_iload_n hx hb dX1_invalid_75 rfl (lv_at hl 2 rfl) ?_
              refine va_iald (D := (dC, dI)) hx hb hK hP 2 0 rfl rfl (vp_in_nI (show pk F n < 40 by omega) (by decide)) dX1_invalid_76 ?_
              refine W.eq (congrArg (fun z => F0 m 77 ls (.int z :: [.int (2 * (F k))])) (congrArg F (nI_clamp (show pk F n < 2 ^ 31 by omega)))) ?_
              refine lv_icmp_ge (tgt := 82) hx hb dX1_invalid_77 (by decide) (fun c77 => ?_) (fun c77 => ?_)
              · -- taken at 77
                have c77 : (F (pk F n)).toInt ≤ (2 * (F k)).toInt := (Int32.le_iff_toInt_le).mp c77
                refine lv_iinc (v := nI (k + 1)) (lv' := [(3, .int (nI (k + 1))), (2, .int z), (1, .int (nI (pk F n))), (0, .ref m9)]) hx hb dX1_invalid_82 hl (k := 0) rfl ((nI_succ _).symm) (by decide) rfl (fun ls hl => ?_)
                refine lv_goto (tgt := 55) hx hb dX1_invalid_85 (by decide) ?_
                exact ih (k + 1) z ls (by omega) (by omega) (by omega) (iv_0 hz (by have e9 := i32_x2' (hFb k (by omega)).1 (hFb k (by omega)).2; omega)) (lv_sub hl [0, 1, 2, 3] rfl)
              · -- not taken at 77
                have c77 : ¬ (F (pk F n)).toInt ≤ (2 * (F k)).toInt := fun q9 => c77 ((Int32.le_iff_toInt_le).mpr q9)
                refine lv_iconst (v := 1) hx hb dX1_invalid_80 (by decide) ?_
                refine lv_istore_n (lv' := [(2, .int 1), (3, .int (nI k)), (1, .int (nI (pk F n))), (0, .ref m9)]) hx hb dX1_invalid_81 rfl hl (by decide) rfl (fun ls hl => ?_)
                refine lv_iinc (v := nI (k + 1)) (lv' := [(3, .int (nI (k + 1))), (2, .int 1), (1, .int (nI (pk F n))), (0, .ref m9)]) hx hb dX1_invalid_82 hl (k := 1) rfl ((nI_succ _).symm) (by decide) rfl (fun ls hl => ?_)
                refine lv_goto (tgt := 55) hx hb dX1_invalid_85 (by decide) ?_
                exact ih (k + 1) 1 ls (by omega) (by omega) (by omega) (iv_1 hk (by have e9 := i32_x2' (hFb k (by omega)).1 (hFb k (by omega)).2; omega)) (lv_sub hl [0, 1, 2, 3] rfl)
        refine lv_iload_n hx hb dX1_invalid_35 rfl (lv_at hl 0 rfl) ?_
        refine lv_aload_n hx hb dX1_invalid_36 rfl (lv_at hl 1 rfl) ?_
        refine va_get (D := (dC, dI)) (ci := 1) (v := .int (nI n)) (C := RX1) (T := TX1) (N := 18) hx hb hts hinX1 hown hK hP 0 rfl rfl 1 (by decide) f44 (fun _ h9 => h9) rfl dX1_invalid_37 ?_
        refine lv_iconst (v := 1) hx hb dX1_invalid_40 (by decide) ?_
        refine lv_isub hx hb dX1_invalid_41 ?_
        refine W.eq (congrArg (fun z => F0 m 42 ls (.int z :: [.int (nI (pk F n))])) (nI_p1 (by omega))) ?_
        refine lv_icmp_ne (tgt := 49) hx hb dX1_invalid_42 (by decide) (fun c42 => ?_) (fun c42 => ?_)
        · -- taken at 42
          have c42 : ¬ (pk F n) = (n - 1) := fun q9 => c42 ((nI_eq (a := (pk F n)) (b := (n - 1)) (by omega) (by omega)).mpr q9)
          refine lv_iconst (v := 0) hx hb dX1_invalid_49 (by decide) ?_
          refine lv_istore_n (lv' := [(2, .int 0), (1, .int (nI (pk F n))), (0, .ref m9)]) hx hb dX1_invalid_50 rfl hl (by decide) rfl (fun ls hl => ?_)
          refine lv_iload_n hx hb dX1_invalid_51 rfl (lv_at hl 1 rfl) ?_
          refine lv_iconst (v := 1) hx hb dX1_invalid_52 (by decide) ?_
          refine lv_iadd hx hb dX1_invalid_53 ?_
          refine W.eq (congrArg (fun z => F0 m 54 ls (.int z :: [])) (nI_1 (pk F n))) ?_
          refine lv_istore_n (lv' := [(3, .int (nI (pk F n + 1))), (2, .int 0), (1, .int (nI (pk F n))), (0, .ref m9)]) hx hb dX1_invalid_54 rfl hl (by decide) rfl (fun ls hl => ?_)
          exact L55 (n + 1) (pk F n + 1) 0 ls (by omega) (by omega) (by omega) (iv_n (by omega)) (lv_sub hl [0, 1, 2, 3] rfl)
        · -- not taken at 42
          have c42 : (pk F n) = (n - 1) := (nI_eq (a := (pk F n)) (b := (n - 1)) (by omega) (by omega)).mp c42
          refine lv_iconst (v := 1) hx hb dX1_invalid_45 (by decide) ?_
          refine lv_goto (tgt := 50) hx hb dX1_invalid_46 (by decide) ?_
          refine lv_istore_n (lv' := [(2, .int 1), (1, .int (nI (pk F n))), (0, .ref m9)]) hx hb dX1_invalid_50 rfl hl (by decide) rfl (fun ls hl => ?_)
          refine lv_iload_n hx hb dX1_invalid_51 rfl (lv_at hl 1 rfl) ?_
          refine lv_iconst (v := 1) hx hb dX1_invalid_52 (by decide) ?_
          refine lv_iadd hx hb dX1_invalid_53 ?_
          refine W.eq (congrArg (fun z => F0 m 54 ls (.int z :: [])) (nI_1 (pk F n))) ?_
          refine lv_istore_n (lv' := [(3, .int (nI (pk F n + 1))), (2, .int 1), (1, .int (nI (pk F n))), (0, .ref m9)]) hx hb dX1_invalid_54 rfl hl (by decide) rfl (fun ls hl => ?_)
          exact L55 (n + 1) (pk F n + 1) 1 ls (by omega) (by omega) (by omega) (iv_s (by omega)) (lv_sub hl [0, 1, 2, 3] rfl)
      · -- not taken at 30
        have c30 : (pk F n) = 0 := (nI_eq (a := (pk F n)) (b := 0) (by omega) (by omega)).mp c30
        refine lv_iconst (v := 3) hx hb dX1_invalid_33 (by decide) ?_
        exact W.iret (v := 3) hx hb hr (fun t ht hW => ⟨⟨3, (), rfl, Or.inr (Or.inr (Or.inl ⟨c9, by omega, c30, rfl⟩)), ⟨by rw [ht]; exact hP, va_K.moved hW.alike hK, hD⟩⟩, hS.F ht⟩) hS.2.2 dX1_invalid_34
    · -- not taken at 19
      have c19 : ¬ 5 ≤ n := fun q9 => c19 ((nI_leI (a := 5) (b := n) (by omega) (by omega)).mpr q9)
      refine lv_iconst (v := 2) hx hb dX1_invalid_22 (by decide) ?_
      exact W.iret (v := 2) hx hb hr (fun t ht hW => ⟨⟨2, (), rfl, Or.inr (Or.inl ⟨c9, by omega, rfl⟩), ⟨by rw [ht]; exact hP, va_K.moved hW.alike hK, hD⟩⟩, hS.F ht⟩) hS.2.2 dX1_invalid_23
  · -- not taken at 9
    have c9 : ar.toInt = 0 := (Int32.toInt_inj.symm).mp c9
    refine lv_iconst (v := 1) hx hb dX1_invalid_12 (by decide) ?_
    exact W.iret (v := 1) hx hb hr (fun t ht hW => ⟨⟨1, (), rfl, Or.inl ⟨c9, rfl⟩, ⟨by rw [ht]; exact hP, va_K.moved hW.alike hK, hD⟩⟩, hS.F ht⟩) hS.2.2 dX1_invalid_13
end
section
set_option maxHeartbeats 4000000 in
set_option maxRecDepth 100000 in
theorem c_X1_slope (l : Launch) (dC : Nat → ClassId) (dI : Nat → Nat → Nat) (sz : Nat) (m9 b1 b2 b3 b4 b5 b6 : Nat) (cI : ClassId) (S F D J X Y : Nat → Int32) (th : Int32) (n : Nat) (ar sl hd : Int32) (hu hw : Int64) (im tc : Nat) (fa : Int32) (up dn : Int64) (p1 p2 p3 : Int32) (hn : n ≤ 40) (hrs : ris S n) (hSb : ∀ j, j < n → 0 ≤ (S j).toInt ∧ (S j).toInt ≤ 1000000) (hFb : ∀ j, j < n → 0 ≤ (F j).toInt ∧ (F j).toInt ≤ 1000000) : Met l yX1_slope wsX1_slope ({ frames := 1, cells := 0, slots := 0, locals := 31 }) (va_Pc [.ref m9, .int p1, .int p2, .int p3] (fun U => U.heap.size = sz ∧ va_P (dC, dI) vwCl (wM m9 b1 b2 b3 b4 b5 b6 cI S F D J X Y th n ar sl hd hu hw im tc fa up dn) U.heap ∧ va_K (dC, dI) vwCl [(cI, .int)] U ∧ va_D (fun _ => True) (wM m9 b1 b2 b3 b4 b5 b6 cI S F D J X Y th n ar sl hd hu hw im tc fa up dn))) (va_Ql (fun r (u : Int32 × Int64 × Int64 × Int64 × Int64) => (kd4 (0 ≤ p3.toInt ∧ p3.toInt ≤ 1) (ok_span p1 p2) (cl S p1.toInt n + 1 < cl S (p2.toInt + 1) n) True = 0 ∧ r.toInt = fr ((F (cl S (p2.toInt + 1) n - 1)).toInt - (F (cl S p1.toInt n)).toInt) ((S (cl S (p2.toInt + 1) n - 1)).toInt - (S (cl S p1.toInt n)).toInt) p3.toInt ∧ ((0 < ((F (cl S (p2.toInt + 1) n - 1)).toInt - (F (cl S p1.toInt n)).toInt) ∧ u.1 = 1 ∧ u.2.1.toInt = fr ((F (cl S (p2.toInt + 1) n - 1)).toInt - (F (cl S p1.toInt n)).toInt) ((S (cl S (p2.toInt + 1) n - 1)).toInt - (S (cl S p1.toInt n)).toInt) 0 ∧ u.2.2.1.toInt = fr ((F (cl S (p2.toInt + 1) n - 1)).toInt - (F (cl S p1.toInt n)).toInt) ((S (cl S (p2.toInt + 1) n - 1)).toInt - (S (cl S p1.toInt n)).toInt) 1) ∨ (¬ 0 < ((F (cl S (p2.toInt + 1) n - 1)).toInt - (F (cl S p1.toInt n)).toInt) ∧ u.1 = hd ∧ u.2.1 = hu ∧ u.2.2.1 = hw))) ∨ (¬ kd4 (0 ≤ p3.toInt ∧ p3.toInt ≤ 1) (ok_span p1 p2) (cl S p1.toInt n + 1 < cl S (p2.toInt + 1) n) True = 0 ∧ u.1 = hd ∧ u.2.1 = hu ∧ u.2.2.1 = hw)) (fun (u : Int32 × Int64 × Int64 × Int64 × Int64) t => at_w dC dI cI (va_A (wM m9 b1 b2 b3 b4 b5 b6 cI S F D J X Y th n ar sl hd hu hw im tc fa up dn) sz) (wM m9 b1 b2 b3 b4 b5 b6 cI S F D J X Y (kd4 (0 ≤ p3.toInt ∧ p3.toInt ≤ 1) (ok_span p1 p2) (cl S p1.toInt n + 1 < cl S (p2.toInt + 1) n) True) n ar sl u.1 u.2.1 u.2.2.1 im tc fa u.2.2.2.1 u.2.2.2.2) t) (va_A (wM m9 b1 b2 b3 b4 b5 b6 cI S F D J X Y th n ar sl hd hu hw im tc fa up dn) sz)) 0 0 (va_A (wM m9 b1 b2 b3 b4 b5 b6 cI S F D J X Y th n ar sl hd hu hw im tc fa up dn) sz) := by
  refine Met.ofW (cc := cX1_slope) (maxL := 8) (ret := (some .long)) (by decide) rfl ?_
  intro p e s m args below meth c s₁ B hml hv
  obtain ⟨rfl, hsz, hP, hK, hD0⟩ := hv
  have hx := B.exec
  have hb := B.bytes
  have hr := B.returns
  have hts := atoms_spec (ws := wsX1_slope) B.pre
  have hown : s.vm.findClass RX1 = some m.cls := findClass_of_methodNamed B.named
  have hlocks := B.notSynchronized
  have hinX1 : ∀ w ∈ wsX10, w ∈ wsX1_slope := fun w h => List.mem_cons_of_mem _ (inX1 w h)
  have f44 := hts _ (List.mem_cons_of_mem _ wl_X1_44)
  have f7 := hts _ (List.mem_cons_of_mem _ wl_X1_7)
  have k39 := hts _ (List.mem_cons_of_mem _ wl_X1_39)
  have f13 := hts _ (List.mem_cons_of_mem _ wl_X1_13)
  have f32 := hts _ (List.mem_cons_of_mem _ wl_X1_32)
  have f61 := hts _ (List.mem_cons_of_mem _ wl_X1_61)
  have f65 := hts _ (List.mem_cons_of_mem _ wl_X1_65)
  have f36 := hts _ (List.mem_cons_of_mem _ wl_X1_36)
  have f68 := hts _ (List.mem_cons_of_mem _ wl_X1_68)
  subst hsz
  have hD := hD0.self (sz := s.heap.size)
  generalize hAe : va_A (wM m9 b1 b2 b3 b4 b5 b6 cI S F D J X Y th n ar sl hd hu hw im tc fa up dn) s.heap.size = A at hD ⊢
  have hA : ∀ q : Nat, s.heap.size ≤ q → A q := fun q h => by rw [← hAe]; exact Or.inr h
  have hS : va_S A s.heap s.heap [] := va_S.rf
  have hl := lv_entry ([.ref m9, .int p1, .int p2, .int p3]) (n := 8) (Nat.le_of_ble_eq_true rfl)
  rw [lg_entry_eq]
  generalize (lg_sl ([.ref m9, .int p1, .int p2, .int p3]) ++ List.replicate (8 - (lg_sl ([.ref m9, .int p1, .int p2, .int p3])).length) Slot.unset).toArray = ls at hl ⊢
  have hl : lv_has ls 8 [(0, .ref m9), (1, .int p1), (2, .int p2), (3, .int p3)] := hl
  have L9 : ∀ (f : Nat) (k : Nat) (z4 : Int32) (z5 : Int32) (ls : Array Slot), n + 1 ≤ k + f → (k ≤ n) → (spf (cl S p1.toInt k) (cl S (p2.toInt + 1) k) z4 z5) → lv_has ls 8 [(6, .int (nI k)), (5, .int z5), (4, .int z4), (0, .ref m9), (1, .int p1), (2, .int p2), (3, .int p3)] → W p l e (headSpec wsX1_slope ({ frames := 1, cells := 0, slots := 0, locals := 31 })).room s m ([.ref m9, .int p1, .int p2, .int p3] : List Value).toArray below meth c s.heap [] 0 0 (MQ below (va_Ql (fun r (u : Int32 × Int64 × Int64 × Int64 × Int64) => (kd4 (0 ≤ p3.toInt ∧ p3.toInt ≤ 1) (ok_span p1 p2) (cl S p1.toInt n + 1 < cl S (p2.toInt + 1) n) True = 0 ∧ r.toInt = fr ((F (cl S (p2.toInt + 1) n - 1)).toInt - (F (cl S p1.toInt n)).toInt) ((S (cl S (p2.toInt + 1) n - 1)).toInt - (S (cl S p1.toInt n)).toInt) p3.toInt ∧ ((0 < ((F (cl S (p2.toInt + 1) n - 1)).toInt - (F (cl S p1.toInt n)).toInt) ∧ u.1 = 1 ∧ u.2.1.toInt = fr ((F (cl S (p2.toInt + 1) n - 1)).toInt - (F (cl S p1.toInt n)).toInt) ((S (cl S (p2.toInt + 1) n - 1)).toInt - (S (cl S p1.toInt n)).toInt) 0 ∧ u.2.2.1.toInt = fr ((F (cl S (p2.toInt + 1) n - 1)).toInt - (F (cl S p1.toInt n)).toInt) ((S (cl S (p2.toInt + 1) n - 1)).toInt - (S (cl S p1.toInt n)).toInt) 1) ∨ (¬ 0 < ((F (cl S (p2.toInt + 1) n - 1)).toInt - (F (cl S p1.toInt n)).toInt) ∧ u.1 = hd ∧ u.2.1 = hu ∧ u.2.2.1 = hw))) ∨ (¬ kd4 (0 ≤ p3.toInt ∧ p3.toInt ≤ 1) (ok_span p1 p2) (cl S p1.toInt n + 1 < cl S (p2.toInt + 1) n) True = 0 ∧ u.1 = hd ∧ u.2.1 = hu ∧ u.2.2.1 = hw)) (fun (u : Int32 × Int64 × Int64 × Int64 × Int64) t => at_w dC dI cI A (wM m9 b1 b2 b3 b4 b5 b6 cI S F D J X Y (kd4 (0 ≤ p3.toInt ∧ p3.toInt ≤ 1) (ok_span p1 p2) (cl S p1.toInt n + 1 < cl S (p2.toInt + 1) n) True) n ar sl u.1 u.2.1 u.2.2.1 im tc fa u.2.2.2.1 u.2.2.2.2) t) A) ([.ref m9, .int p1, .int p2, .int p3] : List Value).toArray s 0 0 A) (F0 m 9 ls []) := by
    intro f
    induction f with
    | zero => intro k z4 z5 ls hm hk hf hl; exact absurd hm (by omega)
    | succ f ih =>
      intro k z4 z5 ls hm hk hf hl
      refine lv_iload hx hb dX1_slope_9 (lv_at hl 0 rfl) ?_
      refine lv_aload_n hx hb dX1_slope_11 rfl (lv_at hl 3 rfl) ?_
      refine va_get (D := (dC, dI)) (ci := 1) (v := .int (nI n)) (C := RX1) (T := TX1) (N := 18) hx hb hts hinX1 hown hK hP 0 rfl rfl 1 (by decide) f44 (fun _ h9 => h9) rfl dX1_slope_12 ?_
      refine lv_icmp_ge (tgt := 62) hx hb dX1_slope_15 (by decide) (fun c15 => ?_) (fun c15 => ?_)
      · -- taken at 15
        have c15 : n ≤ k := (nI_leI (a := n) (b := k) (by omega) (by omega)).mp c15
        have hkn : n = k := by omega
        subst hkn
        have J111 : ∀ (ls : Array Slot), lv_has ls 8 [(5, .int z5), (4, .int z4), (0, .ref m9), (1, .int p1), (2, .int p2), (3, .int p3)] → W p l e (headSpec wsX1_slope ({ frames := 1, cells := 0, slots := 0, locals := 31 })).room s m ([.ref m9, .int p1, .int p2, .int p3] : List Value).toArray below meth c s.heap [] 0 0 (MQ below (va_Ql (fun r (u : Int32 × Int64 × Int64 × Int64 × Int64) => (kd4 (0 ≤ p3.toInt ∧ p3.toInt ≤ 1) (ok_span p1 p2) (cl S p1.toInt n + 1 < cl S (p2.toInt + 1) n) True = 0 ∧ r.toInt = fr ((F (cl S (p2.toInt + 1) n - 1)).toInt - (F (cl S p1.toInt n)).toInt) ((S (cl S (p2.toInt + 1) n - 1)).toInt - (S (cl S p1.toInt n)).toInt) p3.toInt ∧ ((0 < ((F (cl S (p2.toInt + 1) n - 1)).toInt - (F (cl S p1.toInt n)).toInt) ∧ u.1 = 1 ∧ u.2.1.toInt = fr ((F (cl S (p2.toInt + 1) n - 1)).toInt - (F (cl S p1.toInt n)).toInt) ((S (cl S (p2.toInt + 1) n - 1)).toInt - (S (cl S p1.toInt n)).toInt) 0 ∧ u.2.2.1.toInt = fr ((F (cl S (p2.toInt + 1) n - 1)).toInt - (F (cl S p1.toInt n)).toInt) ((S (cl S (p2.toInt + 1) n - 1)).toInt - (S (cl S p1.toInt n)).toInt) 1) ∨ (¬ 0 < ((F (cl S (p2.toInt + 1) n - 1)).toInt - (F (cl S p1.toInt n)).toInt) ∧ u.1 = hd ∧ u.2.1 = hu ∧ u.2.2.1 = hw))) ∨ (¬ kd4 (0 ≤ p3.toInt ∧ p3.toInt ≤ 1) (ok_span p1 p2) (cl S p1.toInt n + 1 < cl S (p2.toInt + 1) n) True = 0 ∧ u.1 = hd ∧ u.2.1 = hu ∧ u.2.2.1 = hw)) (fun (u : Int32 × Int64 × Int64 × Int64 × Int64) t => at_w dC dI cI A (wM m9 b1 b2 b3 b4 b5 b6 cI S F D J X Y (kd4 (0 ≤ p3.toInt ∧ p3.toInt ≤ 1) (ok_span p1 p2) (cl S p1.toInt n + 1 < cl S (p2.toInt + 1) n) True) n ar sl u.1 u.2.1 u.2.2.1 im tc fa u.2.2.2.1 u.2.2.2.2) t) A) ([.ref m9, .int p1, .int p2, .int p3] : List Value).toArray s 0 0 A) (F0 m 111 ls [.int (bI (cl S p1.toInt n + 1 < cl S (p2.toInt + 1) n)), .int (bI (ok_span p1 p2)), .int (bI (0 ≤ p3.toInt ∧ p3.toInt ≤ 1)), .ref m9]) := by
          intro ls hl
          refine lv_iconst (v := 1) hx hb dX1_slope_111 (by decide) ?_
          have hFc := va_free (wc := (wM m9 b1 b2 b3 b4 b5 b6 cI S F D J X Y th n ar sl hd hu hw im tc fa up dn)) hD hS hA [0, 1, 2, 3, 4, 5, 6] rfl
          refine va_calli (va_runV (As := [.int (bI (0 ≤ p3.toInt ∧ p3.toInt ≤ 1)), .int (bI (ok_span p1 p2)), .int (bI (cl S p1.toInt n + 1 < cl S (p2.toInt + 1) n)), .int 1]) (rest := []) ⟨hx, hb, hml, hown, hts⟩ (c_X1_goes l dC dI s.heap.size m9 b1 b2 b3 b4 b5 b6 cI S F D J X Y th n ar sl hd hu hw im tc fa up dn (0 ≤ p3.toInt ∧ p3.toInt ≤ 1) (ok_span p1 p2) (cl S p1.toInt n + 1 < cl S (p2.toInt + 1) n) True) (cwV 4 hts (gV wl_X1_47 wi_X1_goes wv_X1_goes wi_X1 wc_X1_goes) rfl rfl rfl (by decide +kernel) ⟨Nat.le_of_ble_eq_true rfl, Nat.le_of_ble_eq_true rfl⟩) ⟨fun a U g mk q => ⟨q.1, q.2.1, q.2.2.1, va_K.moved (u := U) (U := U.calling g mk a) (Vm.Alike.refl U.vm) q.2.2.2.1, q.2.2.2.2⟩, va_recv hK hP (ci := 1) (q0 := 0) rfl rfl, fun U hU hW => ⟨rfl, by rw [hU], by rw [hU]; exact hP, va_K.moved hW.alike hK, hD.weaken (fun _ _ _ _ => trivial)⟩⟩ rfl rfl hl.1 rfl (lv_room (Nat.le_of_ble_eq_true rfl)) dX1_slope_112 ⟨Nat.le_of_ble_eq_true rfl, Nat.le_of_ble_eq_true rfl⟩) hS (fun q _ h => hFc q h) hFc (fun r112 u112 t H1 locs ht hvm h112 hB hz1 hk1 hS => ?_)
          obtain ⟨hP1, hK1, hD1⟩ := hB
          rw [ht] at hP1
          obtain ⟨hP, hD⟩ := va_join (wr := []) (w1 := (wM m9 b1 b2 b3 b4 b5 b6 cI S F D J X Y (kd4 (0 ≤ p3.toInt ∧ p3.toInt ≤ 1) (ok_span p1 p2) (cl S p1.toInt n + 1 < cl S (p2.toInt + 1) n) True) n ar sl hd hu hw im tc fa up dn)) hP hD [0, 1, 2, 3, 4, 5, 6] [] rfl rfl (by decide) (by decide) hk1 hFc hP1 hD1
          generalize H1 = H at hP hS ⊢
          have hP : va_P (dC, dI) vwCl (wM m9 b1 b2 b3 b4 b5 b6 cI S F D J X Y (kd4 (0 ≤ p3.toInt ∧ p3.toInt ≤ 1) (ok_span p1 p2) (cl S p1.toInt n + 1 < cl S (p2.toInt + 1) n) True) n ar sl hd hu hw im tc fa up dn) H := hP
          have hD : va_D A (wM m9 b1 b2 b3 b4 b5 b6 cI S F D J X Y (kd4 (0 ≤ p3.toInt ∧ p3.toInt ≤ 1) (ok_span p1 p2) (cl S p1.toInt n + 1 < cl S (p2.toInt + 1) n) True) n ar sl hd hu hw im tc fa up dn) := hD
          subst h112
          refine lv_if_ne (tgt := 120) hx hb dX1_slope_115 (by decide) (fun c115 => ?_) (fun c115 => ?_)
          · -- taken at 115
            have c115 := bI_ne0.mp c115
            obtain ⟨e1, e2, e3, -⟩ := kd_z c115
            obtain ⟨hz4, hz5⟩ := sp_end hf e3
            have hb9 := cl_le S (p2.toInt + 1) n
            obtain ⟨s1, s2, s3, s4⟩ := sl_e hn hrs hSb hFb e3 hb9
            refine lv_aload_n hx hb dX1_slope_120 rfl (lv_at hl 2 rfl) ?_
            refine lv_aload_n hx hb dX1_slope_121 rfl (lv_at hl 2 rfl) ?_
            refine va_get (D := (dC, dI)) (ci := 1) (v := .ref b2) (C := RX1) (T := TX1) (N := 18) hx hb hts hinX1 hown hK hP 0 rfl rfl 3 (by decide) f13 (fun _ h9 => h9) rfl dX1_slope_122 ?_
            refine lv_iload hx hb dX1_slope_125 (lv_at hl 0 rfl) ?_
            refine va_iald (D := (dC, dI)) hx hb hK hP 2 0 rfl rfl (vp_in_iff.mpr ⟨by omega, by omega⟩) dX1_slope_127 ?_
            refine W.eq (congrArg (fun z => F0 m 128 ls (.int z :: [.ref m9])) (congrArg F (cl_of (j := cl S (p2.toInt + 1) n - 1) (by omega)))) ?_
            refine lv_aload_n hx hb dX1_slope_128 rfl (lv_at hl 2 rfl) ?_
            refine va_get (D := (dC, dI)) (ci := 1) (v := .ref b2) (C := RX1) (T := TX1) (N := 18) hx hb hts hinX1 hown hK hP 0 rfl rfl 3 (by decide) f13 (fun _ h9 => h9) rfl dX1_slope_129 ?_
            refine lv_iload hx hb dX1_slope_132 (lv_at hl 1 rfl) ?_
            refine va_iald (D := (dC, dI)) hx hb hK hP 2 0 rfl rfl (vp_in_iff.mpr ⟨by omega, by omega⟩) dX1_slope_134 ?_
            refine W.eq (congrArg (fun z => F0 m 135 ls (.int z :: [.int (F (cl S (p2.toInt + 1) n - 1)), .ref m9])) (congrArg F (cl_of (j := cl S p1.toInt n) (hz4)))) ?_
            refine lv_isub hx hb dX1_slope_135 ?_
            refine lv_i2l hx hb dX1_slope_136 rfl ?_
            refine lv_aload_n hx hb dX1_slope_137 rfl (lv_at hl 2 rfl) ?_
            refine va_get (D := (dC, dI)) (ci := 1) (v := .ref b1) (C := RX1) (T := TX1) (N := 18) hx hb hts hinX1 hown hK hP 0 rfl rfl 2 (by decide) f7 (fun _ h9 => h9) rfl dX1_slope_138 ?_
            refine lv_iload hx hb dX1_slope_141 (lv_at hl 0 rfl) ?_
            refine va_iald (D := (dC, dI)) hx hb hK hP 1 0 rfl rfl (vp_in_iff.mpr ⟨by omega, by omega⟩) dX1_slope_143 ?_
            refine W.eq (congrArg (fun z => F0 m 144 ls (.int z :: [.long (((F (cl S (p2.toInt + 1) n - 1)) - (F (cl S p1.toInt n))).toInt64), .ref m9])) (congrArg S (cl_of (j := cl S (p2.toInt + 1) n - 1) (by omega)))) ?_
            refine lv_aload_n hx hb dX1_slope_144 rfl (lv_at hl 2 rfl) ?_
            refine va_get (D := (dC, dI)) (ci := 1) (v := .ref b1) (C := RX1) (T := TX1) (N := 18) hx hb hts hinX1 hown hK hP 0 rfl rfl 2 (by decide) f7 (fun _ h9 => h9) rfl dX1_slope_145 ?_
            refine lv_iload hx hb dX1_slope_148 (lv_at hl 1 rfl) ?_
            refine va_iald (D := (dC, dI)) hx hb hK hP 1 0 rfl rfl (vp_in_iff.mpr ⟨by omega, by omega⟩) dX1_slope_150 ?_
            refine W.eq (congrArg (fun z => F0 m 151 ls (.int z :: [.int (S (cl S (p2.toInt + 1) n - 1)), .long (((F (cl S (p2.toInt + 1) n - 1)) - (F (cl S p1.toInt n))).toInt64), .ref m9])) (congrArg S (cl_of (j := cl S p1.toInt n) (hz4)))) ?_
            refine lv_isub hx hb dX1_slope_151 ?_
            refine lv_i2l hx hb dX1_slope_152 rfl ?_
            refine lv_iload_n hx hb dX1_slope_153 rfl (lv_at hl 5 rfl) ?_
            have hFc := va_free (wc := (wM m9 b1 b2 b3 b4 b5 b6 cI S F D J X Y (kd4 (0 ≤ p3.toInt ∧ p3.toInt ≤ 1) (ok_span p1 p2) (cl S p1.toInt n + 1 < cl S (p2.toInt + 1) n) True) n ar sl hd hu hw im tc fa up dn)) hD hS hA [0, 1, 2, 3, 4, 5, 6] rfl
            refine va_calll (va_runV (As := [.long (((F (cl S (p2.toInt + 1) n - 1)) - (F (cl S p1.toInt n))).toInt64), .long (((S (cl S (p2.toInt + 1) n - 1)) - (S (cl S p1.toInt n))).toInt64), .int p3]) (rest := []) ⟨hx, hb, hml, hown, hts⟩ (c_X1_part l dC dI H.size m9 b1 b2 b3 b4 b5 b6 cI S F D J X Y (kd4 (0 ≤ p3.toInt ∧ p3.toInt ≤ 1) (ok_span p1 p2) (cl S p1.toInt n + 1 < cl S (p2.toInt + 1) n) True) n ar sl hd hu hw im tc fa up dn (((F (cl S (p2.toInt + 1) n - 1)) - (F (cl S p1.toInt n))).toInt64) (((S (cl S (p2.toInt + 1) n - 1)) - (S (cl S p1.toInt n))).toInt64) p3 (by omega) (by omega)) (cwV 3 hts (gV wl_X1_57 wi_X1_part wv_X1_part wi_X1 wc_X1_part) rfl rfl rfl (by decide +kernel) ⟨Nat.le_of_ble_eq_true rfl, Nat.le_of_ble_eq_true rfl⟩) ⟨fun a U g mk q => ⟨q.1, q.2.1, q.2.2.1, va_K.moved (u := U) (U := U.calling g mk a) (Vm.Alike.refl U.vm) q.2.2.2.1, q.2.2.2.2⟩, va_recv hK hP (ci := 1) (q0 := 0) rfl rfl, fun U hU hW => ⟨rfl, by rw [hU], by rw [hU]; exact hP, va_K.moved hW.alike hK, hD.weaken (fun _ _ _ _ => trivial)⟩⟩ rfl rfl hl.1 rfl (lv_room (Nat.le_of_ble_eq_true rfl)) dX1_slope_154 ⟨Nat.le_of_ble_eq_true rfl, Nat.le_of_ble_eq_true rfl⟩) hS (fun q _ h => hFc q h) hFc (fun r154 u154 t H1 locs ht hvm h154 hB hz1 hk1 hS => ?_)
            obtain ⟨hP1, hK1, hD1⟩ := hB
            rw [ht] at hP1
            obtain ⟨hP, hD⟩ := va_join (wr := []) (w1 := (wM m9 b1 b2 b3 b4 b5 b6 cI S F D J X Y (kd4 (0 ≤ p3.toInt ∧ p3.toInt ≤ 1) (ok_span p1 p2) (cl S p1.toInt n + 1 < cl S (p2.toInt + 1) n) True) n ar sl hd hu hw im tc fa u154.1 u154.2)) hP hD [0, 1, 2, 3, 4, 5, 6] [] rfl rfl (by decide) (by decide) hk1 hFc hP1 hD1
            generalize H1 = H at hP hS ⊢
            have hP : va_P (dC, dI) vwCl (wM m9 b1 b2 b3 b4 b5 b6 cI S F D J X Y (kd4 (0 ≤ p3.toInt ∧ p3.toInt ≤ 1) (ok_span p1 p2) (cl S p1.toInt n + 1 < cl S (p2.toInt + 1) n) True) n ar sl hd hu hw im tc fa u154.1 u154.2) H := hP
            have hD : va_D A (wM m9 b1 b2 b3 b4 b5 b6 cI S F D J X Y (kd4 (0 ≤ p3.toInt ∧ p3.toInt ≤ 1) (ok_span p1 p2) (cl S p1.toInt n + 1 < cl S (p2.toInt + 1) n) True) n ar sl hd hu hw im tc fa u154.1 u154.2) := hD
            refine lv_lstore (lv' := [(6, .long r154), (5, .int z5), (4, .int z4), (0, .ref m9), (1, .int p1), (2, .int p2), (3, .int p3)]) hx hb dX1_slope_157 hl (by decide) rfl (fun ls hl => ?_)
            refine lv_aload_n hx hb dX1_slope_159 rfl (lv_at hl 3 rfl) ?_
            refine va_get (D := (dC, dI)) (ci := 1) (v := .long u154.1) (C := RX1) (T := TX1) (N := 18) hx hb hts hinX1 hown hK hP 0 rfl rfl 16 (by decide) f32 (fun _ h9 => h9) rfl dX1_slope_160 ?_
            refine lv_lconst (v := 0) hx hb dX1_slope_163 (by decide) ?_
            refine W.lcmp hx hb dX1_slope_164 ?_
            refine lv_if_le (tgt := 189) hx hb dX1_slope_165 (by decide) (fun c165 => ?_) (fun c165 => ?_)
            · -- taken at 165
              have c165 := (lg_cmp_le _ _).mp c165
              have c165 : u154.1.toInt ≤ 0 := (Int64.le_iff_toInt_le).mp c165
              refine lv_lload hx hb dX1_slope_189 (lv_at hl 0 rfl) ?_
              exact W.lret (v := r154) hx hb hr (fun t ht hW => ⟨⟨r154, (hd, hu, hw, u154.1, u154.2), rfl, Or.inl ⟨c115, sl_r s1 s2 h154.1, Or.inr ⟨by have q := sl_p s1 s2 s4 h154.2.1; omega, rfl, rfl, rfl⟩⟩, ⟨by rw [ht]; exact hP, va_K.moved hW.alike hK, hD⟩⟩, hS.F ht⟩) hS.2.2 dX1_slope_191
            · -- not taken at 165
              have c165 := fun q9 => c165 ((lg_cmp_le _ _).mpr q9)
              have c165 : ¬ u154.1.toInt ≤ 0 := fun q9 => c165 ((Int64.le_iff_toInt_le).mpr q9)
              refine lv_aload_n hx hb dX1_slope_168 rfl (lv_at hl 3 rfl) ?_
              refine lv_iconst (v := 1) hx hb dX1_slope_169 (by decide) ?_
              refine va_put (D := (dC, dI)) (ci := 1) (v := .int 1) (ty := .boolean) (C := RX1) (T := TX1) (N := 18) hx hb hts hinX1 tyX1 tyX1_ok nmX1 hown hK hP hD hS 0 rfl rfl 6 (by decide) f61 (fun _ h9 => h9) rfl (by decide +kernel) (rfl) (rfl) (Nat.le_of_ble_eq_true rfl) dX1_slope_170 (fun H locs hP hD hS => ?_)
              have hP : va_P (dC, dI) vwCl (wM m9 b1 b2 b3 b4 b5 b6 cI S F D J X Y (kd4 (0 ≤ p3.toInt ∧ p3.toInt ≤ 1) (ok_span p1 p2) (cl S p1.toInt n + 1 < cl S (p2.toInt + 1) n) True) n ar sl 1 hu hw im tc fa u154.1 u154.2) H := hP
              have hD : va_D A (wM m9 b1 b2 b3 b4 b5 b6 cI S F D J X Y (kd4 (0 ≤ p3.toInt ∧ p3.toInt ≤ 1) (ok_span p1 p2) (cl S p1.toInt n + 1 < cl S (p2.toInt + 1) n) True) n ar sl 1 hu hw im tc fa u154.1 u154.2) := hD
              refine lv_aload_n hx hb dX1_slope_173 rfl (lv_at hl 3 rfl) ?_
              refine lv_aload_n hx hb dX1_slope_174 rfl (lv_at hl 3 rfl) ?_
              refine va_get (D := (dC, dI)) (ci := 1) (v := .long u154.1) (C := RX1) (T := TX1) (N := 18) hx hb hts hinX1 hown hK hP 0 rfl rfl 16 (by decide) f32 (fun _ h9 => h9) rfl dX1_slope_175 ?_
              refine va_put (D := (dC, dI)) (ci := 1) (v := .long u154.1) (ty := .long) (C := RX1) (T := TX1) (N := 18) hx hb hts hinX1 tyX1 tyX1_ok nmX1 hown hK hP hD hS 0 rfl rfl 7 (by decide) f65 (fun _ h9 => h9) rfl (by decide +kernel) (rfl) (rfl) (Nat.le_of_ble_eq_true rfl) dX1_slope_178 (fun H locs hP hD hS => ?_)
              have hP : va_P (dC, dI) vwCl (wM m9 b1 b2 b3 b4 b5 b6 cI S F D J X Y (kd4 (0 ≤ p3.toInt ∧ p3.toInt ≤ 1) (ok_span p1 p2) (cl S p1.toInt n + 1 < cl S (p2.toInt + 1) n) True) n ar sl 1 u154.1 hw im tc fa u154.1 u154.2) H := hP
              have hD : va_D A (wM m9 b1 b2 b3 b4 b5 b6 cI S F D J X Y (kd4 (0 ≤ p3.toInt ∧ p3.toInt ≤ 1) (ok_span p1 p2) (cl S p1.toInt n + 1 < cl S (p2.toInt + 1) n) True) n ar sl 1 u154.1 hw im tc fa u154.1 u154.2) := hD
              refine lv_aload_n hx hb dX1_slope_181 rfl (lv_at hl 3 rfl) ?_
              refine lv_aload_n hx hb dX1_slope_182 rfl (lv_at hl 3 rfl) ?_
              refine va_get (D := (dC, dI)) (ci := 1) (v := .long u154.2) (C := RX1) (T := TX1) (N := 18) hx hb hts hinX1 hown hK hP 0 rfl rfl 17 (by decide) f36 (fun _ h9 => h9) rfl dX1_slope_183 ?_
              refine va_put (D := (dC, dI)) (ci := 1) (v := .long u154.2) (ty := .long) (C := RX1) (T := TX1) (N := 18) hx hb hts hinX1 tyX1 tyX1_ok nmX1 hown hK hP hD hS 0 rfl rfl 8 (by decide) f68 (fun _ h9 => h9) rfl (by decide +kernel) (rfl) (rfl) (Nat.le_of_ble_eq_true rfl) dX1_slope_186 (fun H locs hP hD hS => ?_)
              have hP : va_P (dC, dI) vwCl (wM m9 b1 b2 b3 b4 b5 b6 cI S F D J X Y (kd4 (0 ≤ p3.toInt ∧ p3.toInt ≤ 1) (ok_span p1 p2) (cl S p1.toInt n + 1 < cl S (p2.toInt + 1) n) True) n ar sl 1 u154.1 u154.2 im tc fa u154.1 u154.2) H := hP
              have hD : va_D A (wM m9 b1 b2 b3 b4 b5 b6 cI S F D J X Y (kd4 (0 ≤ p3.toInt ∧ p3.toInt ≤ 1) (ok_span p1 p2) (cl S p1.toInt n + 1 < cl S (p2.toInt + 1) n) True) n ar sl 1 u154.1 u154.2 im tc fa u154.1 u154.2) := hD
              refine lv_lload hx hb dX1_slope_189 (lv_at hl 0 rfl) ?_
              exact W.lret (v := r154) hx hb hr (fun t ht hW => ⟨⟨r154, (1, u154.1, u154.2, u154.1, u154.2), rfl, Or.inl ⟨c115, sl_r s1 s2 h154.1, Or.inl ⟨by have q := sl_p s1 s2 s4 h154.2.1; omega, rfl, sl_r s1 s2 h154.2.1, sl_r s1 s2 h154.2.2⟩⟩, ⟨by rw [ht]; exact hP, va_K.moved hW.alike hK, hD⟩⟩, hS.F ht⟩) hS.2.2 dX1_slope_191
          · -- not taken at 115
            have c115 := bI_eq0.mp c115
            refine lv_lconst (v := 0) hx hb dX1_slope_118 (by decide) ?_
            exact W.lret (v := 0) hx hb hr (fun t ht hW => ⟨⟨0, (hd, hu, hw, up, dn), rfl, Or.inr ⟨c115, rfl, rfl, rfl⟩, ⟨by rw [ht]; exact hP, va_K.moved hW.alike hK, hD⟩⟩, hS.F ht⟩) hS.2.2 dX1_slope_119
        have J99 : ∀ (ls : Array Slot), lv_has ls 8 [(5, .int z5), (4, .int z4), (0, .ref m9), (1, .int p1), (2, .int p2), (3, .int p3)] → W p l e (headSpec wsX1_slope ({ frames := 1, cells := 0, slots := 0, locals := 31 })).room s m ([.ref m9, .int p1, .int p2, .int p3] : List Value).toArray below meth c s.heap [] 0 0 (MQ below (va_Ql (fun r (u : Int32 × Int64 × Int64 × Int64 × Int64) => (kd4 (0 ≤ p3.toInt ∧ p3.toInt ≤ 1) (ok_span p1 p2) (cl S p1.toInt n + 1 < cl S (p2.toInt + 1) n) True = 0 ∧ r.toInt = fr ((F (cl S (p2.toInt + 1) n - 1)).toInt - (F (cl S p1.toInt n)).toInt) ((S (cl S (p2.toInt + 1) n - 1)).toInt - (S (cl S p1.toInt n)).toInt) p3.toInt ∧ ((0 < ((F (cl S (p2.toInt + 1) n - 1)).toInt - (F (cl S p1.toInt n)).toInt) ∧ u.1 = 1 ∧ u.2.1.toInt = fr ((F (cl S (p2.toInt + 1) n - 1)).toInt - (F (cl S p1.toInt n)).toInt) ((S (cl S (p2.toInt + 1) n - 1)).toInt - (S (cl S p1.toInt n)).toInt) 0 ∧ u.2.2.1.toInt = fr ((F (cl S (p2.toInt + 1) n - 1)).toInt - (F (cl S p1.toInt n)).toInt) ((S (cl S (p2.toInt + 1) n - 1)).toInt - (S (cl S p1.toInt n)).toInt) 1) ∨ (¬ 0 < ((F (cl S (p2.toInt + 1) n - 1)).toInt - (F (cl S p1.toInt n)).toInt) ∧ u.1 = hd ∧ u.2.1 = hu ∧ u.2.2.1 = hw))) ∨ (¬ kd4 (0 ≤ p3.toInt ∧ p3.toInt ≤ 1) (ok_span p1 p2) (cl S p1.toInt n + 1 < cl S (p2.toInt + 1) n) True = 0 ∧ u.1 = hd ∧ u.2.1 = hu ∧ u.2.2.1 = hw)) (fun (u : Int32 × Int64 × Int64 × Int64 × Int64) t => at_w dC dI cI A (wM m9 b1 b2 b3 b4 b5 b6 cI S F D J X Y (kd4 (0 ≤ p3.toInt ∧ p3.toInt ≤ 1) (ok_span p1 p2) (cl S p1.toInt n + 1 < cl S (p2.toInt + 1) n) True) n ar sl u.1 u.2.1 u.2.2.1 im tc fa u.2.2.2.1 u.2.2.2.2) t) A) ([.ref m9, .int p1, .int p2, .int p3] : List Value).toArray s 0 0 A) (F0 m 99 ls [.int (bI (ok_span p1 p2)), .int (bI (0 ≤ p3.toInt ∧ p3.toInt ≤ 1)), .ref m9]) := by
          intro ls hl
          refine lv_iload hx hb dX1_slope_99 (lv_at hl 0 rfl) ?_
          refine lv_iload hx hb dX1_slope_101 (lv_at hl 1 rfl) ?_
          refine lv_icmp_le (tgt := 110) hx hb dX1_slope_103 (by decide) (fun c103 => ?_) (fun c103 => ?_)
          · -- taken at 103
            have c103 : z5.toInt ≤ z4.toInt := (Int32.le_iff_toInt_le).mp c103
            refine lv_iconst (v := 0) hx hb dX1_slope_110 (by decide) ?_
            refine W.eq (congrArg (fun z => F0 m 111 ls (.int z :: [.int (bI (ok_span p1 p2)), .int (bI (0 ≤ p3.toInt ∧ p3.toInt ≤ 1)), .ref m9])) ((bI_0 (c := cl S p1.toInt n + 1 < cl S (p2.toInt + 1) n) (by unfold spf at hf; omega)).symm)) ?_
            exact J111 ls (lv_sub hl [0, 1, 2, 3, 4, 5] rfl)
          · -- not taken at 103
            have c103 : ¬ z5.toInt ≤ z4.toInt := fun q9 => c103 ((Int32.le_iff_toInt_le).mpr q9)
            refine lv_iconst (v := 1) hx hb dX1_slope_106 (by decide) ?_
            refine lv_goto (tgt := 111) hx hb dX1_slope_107 (by decide) ?_
            refine W.eq (congrArg (fun z => F0 m 111 ls (.int z :: [.int (bI (ok_span p1 p2)), .int (bI (0 ≤ p3.toInt ∧ p3.toInt ≤ 1)), .ref m9])) ((bI_1 (c := cl S p1.toInt n + 1 < cl S (p2.toInt + 1) n) (by unfold spf at hf; omega)).symm)) ?_
            exact J111 ls (lv_sub hl [0, 1, 2, 3, 4, 5] rfl)
        refine lv_aload_n hx hb dX1_slope_62 rfl (lv_at hl 3 rfl) ?_
        refine lv_iload_n hx hb dX1_slope_63 rfl (lv_at hl 6 rfl) ?_
        refine lv_iconst (v := 0) hx hb dX1_slope_64 (by decide) ?_
        refine lv_iconst (v := 1) hx hb dX1_slope_65 (by decide) ?_
        refine vp_callSi (W.runS (As := [.int p3, .int 0, .int 1]) (rest := [.ref m9]) ⟨hx, hb, hml, hown, hts⟩ (c_X1_in l p3 0 1 0 1 (by decide) (by decide)) (va_cwS 3 hts (gS wl_X1_40 ws_X1_in wi_X1 wc_X1_in) rfl rfl rfl (by decide +kernel) ⟨Nat.le_of_ble_eq_true rfl, Nat.le_of_ble_eq_true rfl⟩) ⟨fun _ _ _ _ q => q, fun U hU hW => ⟨rfl, trivial⟩⟩ rfl rfl hl.1 rfl (lv_room (Nat.le_of_ble_eq_true rfl)) dX1_slope_66 ⟨Nat.le_of_ble_eq_true rfl, Nat.le_of_ble_eq_true rfl⟩) (fun r66 h66 => ?_)
        subst h66
        refine lv_iload_n hx hb dX1_slope_69 rfl (lv_at hl 4 rfl) ?_
        refine lv_iconst (v := 0) hx hb dX1_slope_70 (by decide) ?_
        refine lv_ldc (v := 1000000) hx hb hown k39 dX1_slope_71 ?_
        refine vp_callSi (W.runS (As := [.int p1, .int 0, .int 1000000]) (rest := [.int (bI (0 ≤ p3.toInt ∧ p3.toInt ≤ 1)), .ref m9]) ⟨hx, hb, hml, hown, hts⟩ (c_X1_in l p1 0 1000000 0 1000000 (by decide) (by decide)) (va_cwS 3 hts (gS wl_X1_40 ws_X1_in wi_X1 wc_X1_in) rfl rfl rfl (by decide +kernel) ⟨Nat.le_of_ble_eq_true rfl, Nat.le_of_ble_eq_true rfl⟩) ⟨fun _ _ _ _ q => q, fun U hU hW => ⟨rfl, trivial⟩⟩ rfl rfl hl.1 rfl (lv_room (Nat.le_of_ble_eq_true rfl)) dX1_slope_73 ⟨Nat.le_of_ble_eq_true rfl, Nat.le_of_ble_eq_true rfl⟩) (fun r73 h73 => ?_)
        subst h73
        refine lv_if_eq (tgt := 98) hx hb dX1_slope_76 (by decide) (fun c76 => ?_) (fun c76 => ?_)
        · -- taken at 76
          have c76 := bI_eq0.mp c76
          refine lv_iconst (v := 0) hx hb dX1_slope_98 (by decide) ?_
          refine W.eq (congrArg (fun z => F0 m 99 ls (.int z :: [.int (bI (0 ≤ p3.toInt ∧ p3.toInt ≤ 1)), .ref m9])) ((bI_0 (c := ok_span p1 p2) (by unfold ok_span; omega)).symm)) ?_
          exact J99 ls (lv_sub hl [1, 2, 3, 4, 5, 6] rfl)
        · -- not taken at 76
          have c76 := bI_ne0.mp c76
          refine lv_iload_n hx hb dX1_slope_79 rfl (lv_at hl 5 rfl) ?_
          refine lv_iconst (v := 0) hx hb dX1_slope_80 (by decide) ?_
          refine lv_ldc (v := 1000000) hx hb hown k39 dX1_slope_81 ?_
          refine vp_callSi (W.runS (As := [.int p2, .int 0, .int 1000000]) (rest := [.int (bI (0 ≤ p3.toInt ∧ p3.toInt ≤ 1)), .ref m9]) ⟨hx, hb, hml, hown, hts⟩ (c_X1_in l p2 0 1000000 0 1000000 (by decide) (by decide)) (va_cwS 3 hts (gS wl_X1_40 ws_X1_in wi_X1 wc_X1_in) rfl rfl rfl (by decide +kernel) ⟨Nat.le_of_ble_eq_true rfl, Nat.le_of_ble_eq_true rfl⟩) ⟨fun _ _ _ _ q => q, fun U hU hW => ⟨rfl, trivial⟩⟩ rfl rfl hl.1 rfl (lv_room (Nat.le_of_ble_eq_true rfl)) dX1_slope_83 ⟨Nat.le_of_ble_eq_true rfl, Nat.le_of_ble_eq_true rfl⟩) (fun r83 h83 => ?_)
          subst h83
          refine lv_if_eq (tgt := 98) hx hb dX1_slope_86 (by decide) (fun c86 => ?_) (fun c86 => ?_)
          · -- taken at 86
            have c86 := bI_eq0.mp c86
            refine lv_iconst (v := 0) hx hb dX1_slope_98 (by decide) ?_
            refine W.eq (congrArg (fun z => F0 m 99 ls (.int z :: [.int (bI (0 ≤ p3.toInt ∧ p3.toInt ≤ 1)), .ref m9])) ((bI_0 (c := ok_span p1 p2) (by unfold ok_span; omega)).symm)) ?_
            exact J99 ls (lv_sub hl [1, 2, 3, 4, 5, 6] rfl)
          · -- not taken at 86
            have c86 := bI_ne0.mp c86
            refine lv_iload_n hx hb dX1_slope_89 rfl (lv_at hl 4 rfl) ?_
            refine lv_iload_n hx hb dX1_slope_90 rfl (lv_at hl 5 rfl) ?_
            refine lv_icmp_ge (tgt := 98) hx hb dX1_slope_91 (by decide) (fun c91 => ?_) (fun c91 => ?_)
            · -- taken at 91
              have c91 : p2.toInt ≤ p1.toInt := (Int32.le_iff_toInt_le).mp c91
              refine lv_iconst (v := 0) hx hb dX1_slope_98 (by decide) ?_
              refine W.eq (congrArg (fun z => F0 m 99 ls (.int z :: [.int (bI (0 ≤ p3.toInt ∧ p3.toInt ≤ 1)), .ref m9])) ((bI_0 (c := ok_span p1 p2) (by unfold ok_span; omega)).symm)) ?_
              exact J99 ls (lv_sub hl [1, 2, 3, 4, 5, 6] rfl)
            · -- not taken at 91
              have c91 : ¬ p2.toInt ≤ p1.toInt := fun q9 => c91 ((Int32.le_iff_toInt_le).mpr q9)
              refine lv_iconst (v := 1) hx hb dX1_slope_94 (by decide) ?_
              refine lv_goto (tgt := 99) hx hb dX1_slope_95 (by decide) ?_
              refine W.eq (congrArg (fun z => F0 m 99 ls (.int z :: [.int (bI (0 ≤ p3.toInt ∧ p3.toInt ≤ 1)), .ref m9])) ((bI_1 (c := ok_span p1 p2) (by unfold ok_span; omega)).symm)) ?_
              exact J99 ls (lv_sub hl [1, 2, 3, 4, 5, 6] rfl)
      · -- not taken at 15
        have c15 : ¬ n ≤ k := fun q9 => c15 ((nI_leI (a := n) (b := k) (by omega) (by omega)).mpr q9)
        refine lv_aload_n hx hb dX1_slope_18 rfl (lv_at hl 3 rfl) ?_
        refine va_get (D := (dC, dI)) (ci := 1) (v := .ref b1) (C := RX1) (T := TX1) (N := 18) hx hb hts hinX1 hown hK hP 0 rfl rfl 2 (by decide) f7 (fun _ h9 => h9) rfl dX1_slope_19 ?_
        refine lv_iload hx hb dX1_slope_22 (lv_at hl 0 rfl) ?_
        refine va_iald (D := (dC, dI)) hx hb hK hP 1 0 rfl rfl (vp_in_nI (show k < 40 by omega) (by decide)) dX1_slope_24 ?_
        refine W.eq (congrArg (fun z => F0 m 25 ls (.int z :: [])) (congrArg S (nI_clamp (show k < 2 ^ 31 by omega)))) ?_
        refine lv_iload_n hx hb dX1_slope_25 rfl (lv_at hl 4 rfl) ?_
        refine lv_icmp_lt (tgt := 56) hx hb dX1_slope_26 (by decide) (fun c26 => ?_) (fun c26 => ?_)
        · -- taken at 26
          have c26 : (S k).toInt < p1.toInt := (Int32.lt_iff_toInt_lt).mp c26
          refine lv_iinc (v := nI (k + 1)) (lv' := [(6, .int (nI (k + 1))), (5, .int z5), (4, .int z4), (0, .ref m9), (1, .int p1), (2, .int p2), (3, .int p3)]) hx hb dX1_slope_56 hl (k := 0) rfl ((nI_succ _).symm) (by decide) rfl (fun ls hl => ?_)
          refine lv_goto (tgt := 9) hx hb dX1_slope_59 (by decide) ?_
          exact ih (k + 1) z4 z5 ls (by omega) (by omega) (by first | exact sp_lo hrs (by omega) hf c26 | exact sp_hi hf c26 (by omega)) (lv_sub hl [0, 1, 2, 3, 4, 5, 6] rfl)
        · -- not taken at 26
          have c26 : ¬ (S k).toInt < p1.toInt := fun q9 => c26 ((Int32.lt_iff_toInt_lt).mpr q9)
          refine lv_aload_n hx hb dX1_slope_29 rfl (lv_at hl 3 rfl) ?_
          refine va_get (D := (dC, dI)) (ci := 1) (v := .ref b1) (C := RX1) (T := TX1) (N := 18) hx hb hts hinX1 hown hK hP 0 rfl rfl 2 (by decide) f7 (fun _ h9 => h9) rfl dX1_slope_30 ?_
          refine lv_iload hx hb dX1_slope_33 (lv_at hl 0 rfl) ?_
          refine va_iald (D := (dC, dI)) hx hb hK hP 1 0 rfl rfl (vp_in_nI (show k < 40 by omega) (by decide)) dX1_slope_35 ?_
          refine W.eq (congrArg (fun z => F0 m 36 ls (.int z :: [])) (congrArg S (nI_clamp (show k < 2 ^ 31 by omega)))) ?_
          refine lv_iload_n hx hb dX1_slope_36 rfl (lv_at hl 5 rfl) ?_
          refine lv_icmp_le (tgt := 43) hx hb dX1_slope_37 (by decide) (fun c37 => ?_) (fun c37 => ?_)
          · -- taken at 37
            have c37 : (S k).toInt ≤ p2.toInt := (Int32.le_iff_toInt_le).mp c37
            refine lv_iload hx hb dX1_slope_43 (lv_at hl 2 rfl) ?_
            refine lv_if_ge (tgt := 52) hx hb dX1_slope_45 (by decide) (fun c45 => ?_) (fun c45 => ?_)
            · -- taken at 45
              have c45 : 0 ≤ z4.toInt := (Int32.le_iff_toInt_le).mp c45
              refine lv_iload hx hb dX1_slope_52 (lv_at hl 0 rfl) ?_
              refine lv_istore (lv' := [(5, .int (nI k)), (6, .int (nI k)), (4, .int z4), (0, .ref m9), (1, .int p1), (2, .int p2), (3, .int p3)]) hx hb dX1_slope_54 hl (by decide) rfl (fun ls hl => ?_)
              refine lv_iinc (v := nI (k + 1)) (lv' := [(6, .int (nI (k + 1))), (5, .int (nI k)), (4, .int z4), (0, .ref m9), (1, .int p1), (2, .int p2), (3, .int p3)]) hx hb dX1_slope_56 hl (k := 1) rfl ((nI_succ _).symm) (by decide) rfl (fun ls hl => ?_)
              refine lv_goto (tgt := 9) hx hb dX1_slope_59 (by decide) ?_
              exact ih (k + 1) z4 (nI k) ls (by omega) (by omega) (sp_in2 hrs (by omega) hn hf c26 (by omega) c45) (lv_sub hl [0, 1, 2, 3, 4, 5, 6] rfl)
            · -- not taken at 45
              have c45 : ¬ 0 ≤ z4.toInt := fun q9 => c45 ((Int32.le_iff_toInt_le).mpr q9)
              refine lv_iload hx hb dX1_slope_48 (lv_at hl 0 rfl) ?_
              refine lv_istore (lv' := [(4, .int (nI k)), (6, .int (nI k)), (5, .int z5), (0, .ref m9), (1, .int p1), (2, .int p2), (3, .int p3)]) hx hb dX1_slope_50 hl (by decide) rfl (fun ls hl => ?_)
              refine lv_iload hx hb dX1_slope_52 (lv_at hl 1 rfl) ?_
              refine lv_istore (lv' := [(5, .int (nI k)), (4, .int (nI k)), (6, .int (nI k)), (0, .ref m9), (1, .int p1), (2, .int p2), (3, .int p3)]) hx hb dX1_slope_54 hl (by decide) rfl (fun ls hl => ?_)
              refine lv_iinc (v := nI (k + 1)) (lv' := [(6, .int (nI (k + 1))), (5, .int (nI k)), (4, .int (nI k)), (0, .ref m9), (1, .int p1), (2, .int p2), (3, .int p3)]) hx hb dX1_slope_56 hl (k := 2) rfl ((nI_succ _).symm) (by decide) rfl (fun ls hl => ?_)
              refine lv_goto (tgt := 9) hx hb dX1_slope_59 (by decide) ?_
              exact ih (k + 1) (nI k) (nI k) ls (by omega) (by omega) (sp_in1 hrs (by omega) hn hf c26 (by omega) c45) (lv_sub hl [0, 1, 2, 3, 4, 5, 6] rfl)
          · -- not taken at 37
            have c37 : ¬ (S k).toInt ≤ p2.toInt := fun q9 => c37 ((Int32.le_iff_toInt_le).mpr q9)
            refine lv_goto (tgt := 56) hx hb dX1_slope_40 (by decide) ?_
            refine lv_iinc (v := nI (k + 1)) (lv' := [(6, .int (nI (k + 1))), (5, .int z5), (4, .int z4), (0, .ref m9), (1, .int p1), (2, .int p2), (3, .int p3)]) hx hb dX1_slope_56 hl (k := 0) rfl ((nI_succ _).symm) (by decide) rfl (fun ls hl => ?_)
            refine lv_goto (tgt := 9) hx hb dX1_slope_59 (by decide) ?_
            exact ih (k + 1) z4 z5 ls (by omega) (by omega) (by first | exact sp_lo hrs (by omega) hf c26 | exact sp_hi hf c26 (by omega)) (lv_sub hl [0, 1, 2, 3, 4, 5, 6] rfl)
  refine lv_iconst (v := (-1)) hx hb dX1_slope_0 (by decide) ?_
  refine lv_istore (lv' := [(4, .int (-1)), (0, .ref m9), (1, .int p1), (2, .int p2), (3, .int p3)]) hx hb dX1_slope_1 hl (by decide) rfl (fun ls hl => ?_)
  refine lv_iconst (v := (-1)) hx hb dX1_slope_3 (by decide) ?_
  refine lv_istore (lv' := [(5, .int (-1)), (4, .int (-1)), (0, .ref m9), (1, .int p1), (2, .int p2), (3, .int p3)]) hx hb dX1_slope_4 hl (by decide) rfl (fun ls hl => ?_)
  refine lv_iconst (v := 0) hx hb dX1_slope_6 (by decide) ?_
  refine lv_istore (lv' := [(6, .int 0), (5, .int (-1)), (4, .int (-1)), (0, .ref m9), (1, .int p1), (2, .int p2), (3, .int p3)]) hx hb dX1_slope_7 hl (by decide) rfl (fun ls hl => ?_)
  exact L9 (n + 1) 0 (-1) (-1) ls (by omega) (Nat.zero_le _) (Or.inl ⟨Nat.le_refl _, by decide, by decide⟩) (lv_sub hl [0, 1, 2, 3, 4, 5, 6] rfl)
set_option maxHeartbeats 4000000 in
set_option maxRecDepth 100000 in
theorem c_X1_offset (l : Launch) (dC : Nat → ClassId) (dI : Nat → Nat → Nat) (sz : Nat) (m9 b1 b2 b3 b4 b5 b6 : Nat) (cI : ClassId) (S F D J X Y : Nat → Int32) (th : Int32) (n : Nat) (ar sl hd : Int32) (hu hw : Int64) (im tc : Nat) (fa : Int32) (up dn : Int64) (p1 p2 : Int32) (hn : n ≤ 40) (hhd : hd = 0 ∨ hd = 1) (hsl : 0 ≤ sl.toInt ∧ sl.toInt ≤ 1000000) (hH : hd.toInt = 1 → (1 ≤ hu.toInt ∧ hu.toInt ≤ 1000000) ∧ (1 ≤ hw.toInt ∧ hw.toInt ≤ 1000000)) (hSb : ∀ j, j < n → 0 ≤ (S j).toInt ∧ (S j).toInt ≤ 1000000) (hFb : ∀ j, j < n → 0 ≤ (F j).toInt ∧ (F j).toInt ≤ 1000000) : Met l yX1_offset wsX1_offset ({ frames := 1, cells := 0, slots := 0, locals := 31 }) (va_Pc [.ref m9, .int p1, .int p2] (fun U => U.heap.size = sz ∧ va_P (dC, dI) vwCl (wM m9 b1 b2 b3 b4 b5 b6 cI S F D J X Y th n ar sl hd hu hw im tc fa up dn) U.heap ∧ va_K (dC, dI) vwCl [(cI, .int)] U ∧ va_D (fun _ => True) (wM m9 b1 b2 b3 b4 b5 b6 cI S F D J X Y th n ar sl hd hu hw im tc fa up dn))) (va_Ql (fun r (u : Int64 × Int64) => kd4 (0 ≤ p2.toInt ∧ p2.toInt ≤ 1) (hd.toInt = 1) (0 ≤ p1.toInt ∧ p1.toInt ≤ 1000000) True = 0 → ofs F n (exm S F hu hw sl p1) p2.toInt r) (fun (u : Int64 × Int64) t => at_w dC dI cI (va_A (wM m9 b1 b2 b3 b4 b5 b6 cI S F D J X Y th n ar sl hd hu hw im tc fa up dn) sz) (wM m9 b1 b2 b3 b4 b5 b6 cI S F D J X Y (kd4 (0 ≤ p2.toInt ∧ p2.toInt ≤ 1) (hd.toInt = 1) (0 ≤ p1.toInt ∧ p1.toInt ≤ 1000000) True) n ar sl hd hu hw im tc fa u.1 u.2) t) (va_A (wM m9 b1 b2 b3 b4 b5 b6 cI S F D J X Y th n ar sl hd hu hw im tc fa up dn) sz)) 0 0 (va_A (wM m9 b1 b2 b3 b4 b5 b6 cI S F D J X Y th n ar sl hd hu hw im tc fa up dn) sz) := by
  refine Met.ofW (cc := cX1_offset) (maxL := 8) (ret := (some .long)) (by decide) rfl ?_
  intro p e s m args below meth c s₁ B hml hv
  obtain ⟨rfl, hsz, hP, hK, hD0⟩ := hv
  have hx := B.exec
  have hb := B.bytes
  have hr := B.returns
  have hts := atoms_spec (ws := wsX1_offset) B.pre
  have hown : s.vm.findClass RX1 = some m.cls := findClass_of_methodNamed B.named
  have hlocks := B.notSynchronized
  have hinX1 : ∀ w ∈ wsX10, w ∈ wsX1_offset := fun w h => List.mem_cons_of_mem _ (inX1 w h)
  have f61 := hts _ (List.mem_cons_of_mem _ wl_X1_61)
  have k39 := hts _ (List.mem_cons_of_mem _ wl_X1_39)
  have f44 := hts _ (List.mem_cons_of_mem _ wl_X1_44)
  have f13 := hts _ (List.mem_cons_of_mem _ wl_X1_13)
  have k75 := hts _ (List.mem_cons_of_mem _ wl_X1_75)
  subst hsz
  have hD := hD0.self (sz := s.heap.size)
  generalize hAe : va_A (wM m9 b1 b2 b3 b4 b5 b6 cI S F D J X Y th n ar sl hd hu hw im tc fa up dn) s.heap.size = A at hD ⊢
  have hA : ∀ q : Nat, s.heap.size ≤ q → A q := fun q h => by rw [← hAe]; exact Or.inr h
  have hS : va_S A s.heap s.heap [] := va_S.rf
  have hl := lv_entry ([.ref m9, .int p1, .int p2]) (n := 8) (Nat.le_of_ble_eq_true rfl)
  rw [lg_entry_eq]
  generalize (lg_sl ([.ref m9, .int p1, .int p2]) ++ List.replicate (8 - (lg_sl ([.ref m9, .int p1, .int p2])).length) Slot.unset).toArray = ls at hl ⊢
  have hl : lv_has ls 8 [(0, .ref m9), (1, .int p1), (2, .int p2)] := hl
  refine lv_aload_n hx hb dX1_offset_0 rfl (lv_at hl 0 rfl) ?_
  refine lv_iload_n hx hb dX1_offset_1 rfl (lv_at hl 2 rfl) ?_
  refine lv_iconst (v := 0) hx hb dX1_offset_2 (by decide) ?_
  refine lv_iconst (v := 1) hx hb dX1_offset_3 (by decide) ?_
  refine vp_callSi (W.runS (As := [.int p2, .int 0, .int 1]) (rest := [.ref m9]) ⟨hx, hb, hml, hown, hts⟩ (c_X1_in l p2 0 1 0 1 (by decide) (by decide)) (va_cwS 3 hts (gS wl_X1_40 ws_X1_in wi_X1 wc_X1_in) rfl rfl rfl (by decide +kernel) ⟨Nat.le_of_ble_eq_true rfl, Nat.le_of_ble_eq_true rfl⟩) ⟨fun _ _ _ _ q => q, fun U hU hW => ⟨rfl, trivial⟩⟩ rfl rfl hl.1 rfl (lv_room (Nat.le_of_ble_eq_true rfl)) dX1_offset_4 ⟨Nat.le_of_ble_eq_true rfl, Nat.le_of_ble_eq_true rfl⟩) (fun r4 h4 => ?_)
  subst h4
  refine lv_aload_n hx hb dX1_offset_7 rfl (lv_at hl 0 rfl) ?_
  refine va_get (D := (dC, dI)) (ci := 1) (v := .int hd) (C := RX1) (T := TX1) (N := 18) hx hb hts hinX1 hown hK hP 0 rfl rfl 6 (by decide) f61 (fun _ h9 => h9) rfl dX1_offset_8 ?_
  refine W.eq (congrArg (fun z => F0 m 11 ls (.int z :: [.int (bI (0 ≤ p2.toInt ∧ p2.toInt ≤ 1)), .ref m9])) (hd_b hhd)) ?_
  refine lv_iload_n hx hb dX1_offset_11 rfl (lv_at hl 1 rfl) ?_
  refine lv_iconst (v := 0) hx hb dX1_offset_12 (by decide) ?_
  refine lv_ldc (v := 1000000) hx hb hown k39 dX1_offset_13 ?_
  refine vp_callSi (W.runS (As := [.int p1, .int 0, .int 1000000]) (rest := [.int (bI (hd.toInt = 1)), .int (bI (0 ≤ p2.toInt ∧ p2.toInt ≤ 1)), .ref m9]) ⟨hx, hb, hml, hown, hts⟩ (c_X1_in l p1 0 1000000 0 1000000 (by decide) (by decide)) (va_cwS 3 hts (gS wl_X1_40 ws_X1_in wi_X1 wc_X1_in) rfl rfl rfl (by decide +kernel) ⟨Nat.le_of_ble_eq_true rfl, Nat.le_of_ble_eq_true rfl⟩) ⟨fun _ _ _ _ q => q, fun U hU hW => ⟨rfl, trivial⟩⟩ rfl rfl hl.1 rfl (lv_room (Nat.le_of_ble_eq_true rfl)) dX1_offset_15 ⟨Nat.le_of_ble_eq_true rfl, Nat.le_of_ble_eq_true rfl⟩) (fun r15 h15 => ?_)
  subst h15
  refine lv_iconst (v := 1) hx hb dX1_offset_18 (by decide) ?_
  have hFc := va_free (wc := (wM m9 b1 b2 b3 b4 b5 b6 cI S F D J X Y th n ar sl hd hu hw im tc fa up dn)) hD hS hA [0, 1, 2, 3, 4, 5, 6] rfl
  refine va_calli (va_runV (As := [.int (bI (0 ≤ p2.toInt ∧ p2.toInt ≤ 1)), .int (bI (hd.toInt = 1)), .int (bI (0 ≤ p1.toInt ∧ p1.toInt ≤ 1000000)), .int 1]) (rest := []) ⟨hx, hb, hml, hown, hts⟩ (c_X1_goes l dC dI s.heap.size m9 b1 b2 b3 b4 b5 b6 cI S F D J X Y th n ar sl hd hu hw im tc fa up dn (0 ≤ p2.toInt ∧ p2.toInt ≤ 1) (hd.toInt = 1) (0 ≤ p1.toInt ∧ p1.toInt ≤ 1000000) True) (cwV 4 hts (gV wl_X1_47 wi_X1_goes wv_X1_goes wi_X1 wc_X1_goes) rfl rfl rfl (by decide +kernel) ⟨Nat.le_of_ble_eq_true rfl, Nat.le_of_ble_eq_true rfl⟩) ⟨fun a U g mk q => ⟨q.1, q.2.1, q.2.2.1, va_K.moved (u := U) (U := U.calling g mk a) (Vm.Alike.refl U.vm) q.2.2.2.1, q.2.2.2.2⟩, va_recv hK hP (ci := 1) (q0 := 0) rfl rfl, fun U hU hW => ⟨rfl, by rw [hU], by rw [hU]; exact hP, va_K.moved hW.alike hK, hD.weaken (fun _ _ _ _ => trivial)⟩⟩ rfl rfl hl.1 rfl (lv_room (Nat.le_of_ble_eq_true rfl)) dX1_offset_19 ⟨Nat.le_of_ble_eq_true rfl, Nat.le_of_ble_eq_true rfl⟩) hS (fun q _ h => hFc q h) hFc (fun r19 u19 t H1 locs ht hvm h19 hB hz1 hk1 hS => ?_)
  obtain ⟨hP1, hK1, hD1⟩ := hB
  rw [ht] at hP1
  obtain ⟨hP, hD⟩ := va_join (wr := []) (w1 := (wM m9 b1 b2 b3 b4 b5 b6 cI S F D J X Y (kd4 (0 ≤ p2.toInt ∧ p2.toInt ≤ 1) (hd.toInt = 1) (0 ≤ p1.toInt ∧ p1.toInt ≤ 1000000) True) n ar sl hd hu hw im tc fa up dn)) hP hD [0, 1, 2, 3, 4, 5, 6] [] rfl rfl (by decide) (by decide) hk1 hFc hP1 hD1
  generalize H1 = H at hP hS ⊢
  have hP : va_P (dC, dI) vwCl (wM m9 b1 b2 b3 b4 b5 b6 cI S F D J X Y (kd4 (0 ≤ p2.toInt ∧ p2.toInt ≤ 1) (hd.toInt = 1) (0 ≤ p1.toInt ∧ p1.toInt ≤ 1000000) True) n ar sl hd hu hw im tc fa up dn) H := hP
  have hD : va_D A (wM m9 b1 b2 b3 b4 b5 b6 cI S F D J X Y (kd4 (0 ≤ p2.toInt ∧ p2.toInt ≤ 1) (hd.toInt = 1) (0 ≤ p1.toInt ∧ p1.toInt ≤ 1000000) True) n ar sl hd hu hw im tc fa up dn) := hD
  subst h19
  refine lv_if_ne (tgt := 27) hx hb dX1_offset_22 (by decide) (fun c22 => ?_) (fun c22 => ?_)
  · -- taken at 22
    have c22 := bI_ne0.mp c22
    obtain ⟨e1, e2, e3, -⟩ := kd_z c22
    obtain ⟨e4, e5⟩ := hH e2
    have L29 : ∀ (f : Nat) (k : Nat) (ls : Array Slot), n + 2 ≤ k + f → (1 ≤ k) → (k ≤ n + 1) → (∀ j, 1 ≤ j → j < k → ¬ mtg (exm S F hu hw sl p1) j) → lv_has ls 8 [(3, .int (nI k)), (0, .ref m9), (1, .int p1), (2, .int p2)] → W p l e (headSpec wsX1_offset ({ frames := 1, cells := 0, slots := 0, locals := 31 })).room s m ([.ref m9, .int p1, .int p2] : List Value).toArray below meth c H locs 0 0 (MQ below (va_Ql (fun r (u : Int64 × Int64) => kd4 (0 ≤ p2.toInt ∧ p2.toInt ≤ 1) (hd.toInt = 1) (0 ≤ p1.toInt ∧ p1.toInt ≤ 1000000) True = 0 → ofs F n (exm S F hu hw sl p1) p2.toInt r) (fun (u : Int64 × Int64) t => at_w dC dI cI A (wM m9 b1 b2 b3 b4 b5 b6 cI S F D J X Y (kd4 (0 ≤ p2.toInt ∧ p2.toInt ≤ 1) (hd.toInt = 1) (0 ≤ p1.toInt ∧ p1.toInt ≤ 1000000) True) n ar sl hd hu hw im tc fa u.1 u.2) t) A) ([.ref m9, .int p1, .int p2] : List Value).toArray s 0 0 A) (F0 m 29 ls []) := by
      intro f
      induction f with
      | zero => intro k ls hm hk hk2 ha hl; exact absurd hm (by omega)
      | succ f ih =>
        intro k ls hm hk hk2 ha hl
        refine lv_iload_n hx hb dX1_offset_29 rfl (lv_at hl 0 rfl) ?_
        refine lv_aload_n hx hb dX1_offset_30 rfl (lv_at hl 1 rfl) ?_
        refine va_get (D := (dC, dI)) (ci := 1) (v := .int (nI n)) (C := RX1) (T := TX1) (N := 18) hx hb hts hinX1 hown hK hP 0 rfl rfl 1 (by decide) f44 (fun _ h9 => h9) rfl dX1_offset_31 ?_
        refine lv_icmp_ge (tgt := 109) hx hb dX1_offset_34 (by decide) (fun c34 => ?_) (fun c34 => ?_)
        · -- taken at 34
          have c34 : n ≤ k := (nI_leI (a := n) (b := k) (by omega) (by omega)).mp c34
          refine lv_iload_n hx hb dX1_offset_109 rfl (lv_at hl 3 rfl) ?_
          refine lv_if_ne (tgt := 119) hx hb dX1_offset_110 (by decide) (fun c110 => ?_) (fun c110 => ?_)
          · -- taken at 110
            have c110 : ¬ p2.toInt = 0 := fun q9 => c110 ((Int32.toInt_inj.symm).mpr q9)
            refine lv_lconst (v := 0) hx hb dX1_offset_119 (by decide) ?_
            exact W.lret (v := 0) hx hb hr (fun t ht hW => ⟨⟨0, (up, dn), rfl, fun _ => Or.inr ⟨fun j h1 h2 => ha j h1 (by omega), Or.inr ⟨c110, rfl⟩⟩, ⟨by rw [ht]; exact hP, va_K.moved hW.alike hK, hD⟩⟩, hS.F ht⟩) hS.2.2 dX1_offset_120
          · -- not taken at 110
            have c110 : p2.toInt = 0 := (Int32.toInt_inj.symm).mp c110
            refine lv_ldc2 (v := (-9223372036854775808)) hx hb hown k75 dX1_offset_113 ?_
            refine lv_goto (tgt := 120) hx hb dX1_offset_116 (by decide) ?_
            exact W.lret (v := (-9223372036854775808)) hx hb hr (fun t ht hW => ⟨⟨(-9223372036854775808), (up, dn), rfl, fun _ => Or.inr ⟨fun j h1 h2 => ha j h1 (by omega), Or.inl ⟨c110, rfl⟩⟩, ⟨by rw [ht]; exact hP, va_K.moved hW.alike hK, hD⟩⟩, hS.F ht⟩) hS.2.2 dX1_offset_120
        · -- not taken at 34
          have c34 : ¬ n ≤ k := fun q9 => c34 ((nI_leI (a := n) (b := k) (by omega) (by omega)).mpr q9)
          refine lv_aload_n hx hb dX1_offset_37 rfl (lv_at hl 1 rfl) ?_
          refine lv_iload_n hx hb dX1_offset_38 rfl (lv_at hl 0 rfl) ?_
          refine lv_iconst (v := 1) hx hb dX1_offset_39 (by decide) ?_
          refine lv_isub hx hb dX1_offset_40 ?_
          refine lv_iload_n hx hb dX1_offset_41 rfl (lv_at hl 2 rfl) ?_
          refine vp_callSl (W.runV (As := [.int ((nI k) - 1), .int p1]) (rest := []) ⟨hx, hb, hml, hown, hts⟩ (c_X1_above l dC dI m9 b1 b2 b3 b4 b5 b6 cI S F D J X Y (kd4 (0 ≤ p2.toInt ∧ p2.toInt ≤ 1) (hd.toInt = 1) (0 ≤ p1.toInt ∧ p1.toInt ≤ 1000000) True) n ar sl hd hu hw im tc fa up dn ((nI k) - 1) p1 (k - 1) (nI_sub1 (by omega) (by omega)) (by omega)) (cwV 2 hts (gV wl_X1_71 wi_X1_above wv_X1_above wi_X1 wc_X1_above) rfl rfl rfl (by decide +kernel) ⟨Nat.le_of_ble_eq_true rfl, Nat.le_of_ble_eq_true rfl⟩) ⟨fun a U g mk q => ⟨q.1, q.2.1, va_K.moved (u := U) (U := U.calling g mk a) (Vm.Alike.refl U.vm) q.2.2⟩, va_recv hK hP (ci := 1) (q0 := 0) rfl rfl, fun U hU hW => ⟨rfl, by rw [hU]; exact hP, va_K.moved hW.alike hK⟩⟩ rfl rfl hl.1 rfl (lv_room (Nat.le_of_ble_eq_true rfl)) dX1_offset_42 ⟨Nat.le_of_ble_eq_true rfl, Nat.le_of_ble_eq_true rfl⟩) (fun r42 h42 => ?_)
          subst h42
          refine lv_lstore (lv' := [(4, .long (exm S F hu hw sl p1 (k - 1))), (3, .int (nI k)), (0, .ref m9), (1, .int p1), (2, .int p2)]) hx hb dX1_offset_45 hl (by decide) rfl (fun ls hl => ?_)
          refine lv_aload_n hx hb dX1_offset_47 rfl (lv_at hl 2 rfl) ?_
          refine lv_iload_n hx hb dX1_offset_48 rfl (lv_at hl 1 rfl) ?_
          refine lv_iload_n hx hb dX1_offset_49 rfl (lv_at hl 3 rfl) ?_
          refine vp_callSl (W.runV (As := [.int (nI k), .int p1]) (rest := []) ⟨hx, hb, hml, hown, hts⟩ (c_X1_above l dC dI m9 b1 b2 b3 b4 b5 b6 cI S F D J X Y (kd4 (0 ≤ p2.toInt ∧ p2.toInt ≤ 1) (hd.toInt = 1) (0 ≤ p1.toInt ∧ p1.toInt ≤ 1000000) True) n ar sl hd hu hw im tc fa up dn (nI k) p1 k (nI_toInt (by omega)) (by omega)) (cwV 2 hts (gV wl_X1_71 wi_X1_above wv_X1_above wi_X1 wc_X1_above) rfl rfl rfl (by decide +kernel) ⟨Nat.le_of_ble_eq_true rfl, Nat.le_of_ble_eq_true rfl⟩) ⟨fun a U g mk q => ⟨q.1, q.2.1, va_K.moved (u := U) (U := U.calling g mk a) (Vm.Alike.refl U.vm) q.2.2⟩, va_recv hK hP (ci := 1) (q0 := 0) rfl rfl, fun U hU hW => ⟨rfl, by rw [hU]; exact hP, va_K.moved hW.alike hK⟩⟩ rfl rfl hl.1 rfl (lv_room (Nat.le_of_ble_eq_true rfl)) dX1_offset_50 ⟨Nat.le_of_ble_eq_true rfl, Nat.le_of_ble_eq_true rfl⟩) (fun r50 h50 => ?_)
          subst h50
          refine lv_lstore (lv' := [(6, .long (exm S F hu hw sl p1 k)), (4, .long (exm S F hu hw sl p1 (k - 1))), (3, .int (nI k)), (0, .ref m9), (1, .int p1), (2, .int p2)]) hx hb dX1_offset_53 hl (by decide) rfl (fun ls hl => ?_)
          refine lv_lload hx hb dX1_offset_55 (lv_at hl 1 rfl) ?_
          refine lv_lconst (v := 0) hx hb dX1_offset_57 (by decide) ?_
          refine W.lcmp hx hb dX1_offset_58 ?_
          refine lv_if_le (tgt := 103) hx hb dX1_offset_59 (by decide) (fun c59 => ?_) (fun c59 => ?_)
          · -- taken at 59
            have c59 := (lg_cmp_le _ _).mp c59
            have c59 : (exm S F hu hw sl p1 (k - 1)).toInt ≤ 0 := (Int64.le_iff_toInt_le).mp c59
            refine lv_iinc (v := nI (k + 1)) (lv' := [(3, .int (nI (k + 1))), (6, .long (exm S F hu hw sl p1 k)), (4, .long (exm S F hu hw sl p1 (k - 1))), (0, .ref m9), (1, .int p1), (2, .int p2)]) hx hb dX1_offset_103 hl (k := 2) rfl ((nI_succ _).symm) (by decide) rfl (fun ls hl => ?_)
            refine lv_goto (tgt := 29) hx hb dX1_offset_106 (by decide) ?_
            exact ih (k + 1) ls (by omega) (by omega) (by omega) (ext_up ha (fun q => by have := q.1; have := q.2; omega)) (lv_sub hl [0, 3, 4, 5] rfl)
          · -- not taken at 59
            have c59 := fun q9 => c59 ((lg_cmp_le _ _).mpr q9)
            have c59 : ¬ (exm S F hu hw sl p1 (k - 1)).toInt ≤ 0 := fun q9 => c59 ((Int64.le_iff_toInt_le).mpr q9)
            refine lv_lload hx hb dX1_offset_62 (lv_at hl 0 rfl) ?_
            refine lv_lconst (v := 0) hx hb dX1_offset_64 (by decide) ?_
            refine W.lcmp hx hb dX1_offset_65 ?_
            refine lv_if_gt (tgt := 103) hx hb dX1_offset_66 (by decide) (fun c66 => ?_) (fun c66 => ?_)
            · -- taken at 66
              have c66 := (lg_cmp_gt _ _).mp c66
              have c66 : 0 < (exm S F hu hw sl p1 k).toInt := (Int64.lt_iff_toInt_lt).mp c66
              refine lv_iinc (v := nI (k + 1)) (lv' := [(3, .int (nI (k + 1))), (6, .long (exm S F hu hw sl p1 k)), (4, .long (exm S F hu hw sl p1 (k - 1))), (0, .ref m9), (1, .int p1), (2, .int p2)]) hx hb dX1_offset_103 hl (k := 2) rfl ((nI_succ _).symm) (by decide) rfl (fun ls hl => ?_)
              refine lv_goto (tgt := 29) hx hb dX1_offset_106 (by decide) ?_
              exact ih (k + 1) ls (by omega) (by omega) (by omega) (ext_up ha (fun q => by have := q.1; have := q.2; omega)) (lv_sub hl [0, 3, 4, 5] rfl)
            · -- not taken at 66
              have c66 := fun q9 => c66 ((lg_cmp_gt _ _).mpr q9)
              have c66 : ¬ 0 < (exm S F hu hw sl p1 k).toInt := fun q9 => c66 ((Int64.lt_iff_toInt_lt).mpr q9)
              obtain ⟨g1, g2, g3, g4, g5⟩ := off_m hsl e3 e4 e5 (hSb k (by omega)) (hSb (k - 1) (by omega)) (hFb k (by omega)) (hFb (k - 1) (by omega)) c59 c66
              refine lv_aload_n hx hb dX1_offset_69 rfl (lv_at hl 3 rfl) ?_
              refine lv_aload_n hx hb dX1_offset_70 rfl (lv_at hl 3 rfl) ?_
              refine va_get (D := (dC, dI)) (ci := 1) (v := .ref b2) (C := RX1) (T := TX1) (N := 18) hx hb hts hinX1 hown hK hP 0 rfl rfl 3 (by decide) f13 (fun _ h9 => h9) rfl dX1_offset_71 ?_
              refine lv_iload_n hx hb dX1_offset_74 rfl (lv_at hl 2 rfl) ?_
              refine va_iald (D := (dC, dI)) hx hb hK hP 2 0 rfl rfl (vp_in_nI (show k < 40 by omega) (by decide)) dX1_offset_75 ?_
              refine W.eq (congrArg (fun z => F0 m 76 ls (.int z :: [.ref m9])) (congrArg F (nI_clamp (show k < 2 ^ 31 by omega)))) ?_
              refine lv_i2l hx hb dX1_offset_76 rfl ?_
              refine lv_lload hx hb dX1_offset_77 (lv_at hl 1 rfl) ?_
              refine lv_lmul hx hb dX1_offset_79 ?_
              refine lv_aload_n hx hb dX1_offset_80 rfl (lv_at hl 3 rfl) ?_
              refine va_get (D := (dC, dI)) (ci := 1) (v := .ref b2) (C := RX1) (T := TX1) (N := 18) hx hb hts hinX1 hown hK hP 0 rfl rfl 3 (by decide) f13 (fun _ h9 => h9) rfl dX1_offset_81 ?_
              refine lv_iload_n hx hb dX1_offset_84 rfl (lv_at hl 2 rfl) ?_
              refine lv_iconst (v := 1) hx hb dX1_offset_85 (by decide) ?_
              refine lv_isub hx hb dX1_offset_86 ?_
              refine va_iald (D := (dC, dI)) hx hb hK hP 2 0 rfl rfl (by rw [nI_p1 (show 1 ≤ k by omega)]; exact vp_in_nI (show k - 1 < 40 by omega) (by decide)) dX1_offset_87 ?_
              refine W.eq (congrArg (fun z => F0 m 88 ls (.int z :: [.long (((F k).toInt64) * (exm S F hu hw sl p1 (k - 1))), .ref m9])) (congrArg F (by rw [nI_p1 (show 1 ≤ k by omega)]; exact nI_clamp (show k - 1 < 2 ^ 31 by omega)))) ?_
              refine lv_i2l hx hb dX1_offset_88 rfl ?_
              refine lv_lload hx hb dX1_offset_89 (lv_at hl 0 rfl) ?_
              refine lv_lmul hx hb dX1_offset_91 ?_
              refine lv_lsub hx hb dX1_offset_92 ?_
              refine lv_lload hx hb dX1_offset_93 (lv_at hl 1 rfl) ?_
              refine lv_lload hx hb dX1_offset_95 (lv_at hl 0 rfl) ?_
              refine lv_lsub hx hb dX1_offset_97 ?_
              refine lv_iload_n hx hb dX1_offset_98 rfl (lv_at hl 5 rfl) ?_
              have hFc := va_free (wc := (wM m9 b1 b2 b3 b4 b5 b6 cI S F D J X Y (kd4 (0 ≤ p2.toInt ∧ p2.toInt ≤ 1) (hd.toInt = 1) (0 ≤ p1.toInt ∧ p1.toInt ≤ 1000000) True) n ar sl hd hu hw im tc fa up dn)) hD hS hA [0, 1, 2, 3, 4, 5, 6] rfl
              refine va_calll (va_runV (As := [.long ((((F k).toInt64) * (exm S F hu hw sl p1 (k - 1))) - (((F (k - 1)).toInt64) * (exm S F hu hw sl p1 k))), .long ((exm S F hu hw sl p1 (k - 1)) - (exm S F hu hw sl p1 k)), .int p2]) (rest := []) ⟨hx, hb, hml, hown, hts⟩ (c_X1_part l dC dI H.size m9 b1 b2 b3 b4 b5 b6 cI S F D J X Y (kd4 (0 ≤ p2.toInt ∧ p2.toInt ≤ 1) (hd.toInt = 1) (0 ≤ p1.toInt ∧ p1.toInt ≤ 1000000) True) n ar sl hd hu hw im tc fa up dn ((((F k).toInt64) * (exm S F hu hw sl p1 (k - 1))) - (((F (k - 1)).toInt64) * (exm S F hu hw sl p1 k))) ((exm S F hu hw sl p1 (k - 1)) - (exm S F hu hw sl p1 k)) p2 g3 g4) (cwV 3 hts (gV wl_X1_57 wi_X1_part wv_X1_part wi_X1 wc_X1_part) rfl rfl rfl (by decide +kernel) ⟨Nat.le_of_ble_eq_true rfl, Nat.le_of_ble_eq_true rfl⟩) ⟨fun a U g mk q => ⟨q.1, q.2.1, q.2.2.1, va_K.moved (u := U) (U := U.calling g mk a) (Vm.Alike.refl U.vm) q.2.2.2.1, q.2.2.2.2⟩, va_recv hK hP (ci := 1) (q0 := 0) rfl rfl, fun U hU hW => ⟨rfl, by rw [hU], by rw [hU]; exact hP, va_K.moved hW.alike hK, hD.weaken (fun _ _ _ _ => trivial)⟩⟩ rfl rfl hl.1 rfl (lv_room (Nat.le_of_ble_eq_true rfl)) dX1_offset_99 ⟨Nat.le_of_ble_eq_true rfl, Nat.le_of_ble_eq_true rfl⟩) hS (fun q _ h => hFc q h) hFc (fun r99 u99 t H1 locs ht hvm h99 hB hz1 hk1 hS => ?_)
              obtain ⟨hP1, hK1, hD1⟩ := hB
              rw [ht] at hP1
              obtain ⟨hP, hD⟩ := va_join (wr := []) (w1 := (wM m9 b1 b2 b3 b4 b5 b6 cI S F D J X Y (kd4 (0 ≤ p2.toInt ∧ p2.toInt ≤ 1) (hd.toInt = 1) (0 ≤ p1.toInt ∧ p1.toInt ≤ 1000000) True) n ar sl hd hu hw im tc fa u99.1 u99.2)) hP hD [0, 1, 2, 3, 4, 5, 6] [] rfl rfl (by decide) (by decide) hk1 hFc hP1 hD1
              generalize H1 = H at hP hS ⊢
              have hP : va_P (dC, dI) vwCl (wM m9 b1 b2 b3 b4 b5 b6 cI S F D J X Y (kd4 (0 ≤ p2.toInt ∧ p2.toInt ≤ 1) (hd.toInt = 1) (0 ≤ p1.toInt ∧ p1.toInt ≤ 1000000) True) n ar sl hd hu hw im tc fa u99.1 u99.2) H := hP
              have hD : va_D A (wM m9 b1 b2 b3 b4 b5 b6 cI S F D J X Y (kd4 (0 ≤ p2.toInt ∧ p2.toInt ≤ 1) (hd.toInt = 1) (0 ≤ p1.toInt ∧ p1.toInt ≤ 1000000) True) n ar sl hd hu hw im tc fa u99.1 u99.2) := hD
              exact W.lret (v := r99) hx hb hr (fun t ht hW => ⟨⟨r99, (u99.1, u99.2), rfl, fun _ => Or.inl ⟨k, hk, by omega, ⟨by omega, by omega⟩, ha, sl_r g1 g2 h99.1⟩, ⟨by rw [ht]; exact hP, va_K.moved hW.alike hK, hD⟩⟩, hS.F ht⟩) hS.2.2 dX1_offset_102
    refine lv_iconst (v := 1) hx hb dX1_offset_27 (by decide) ?_
    refine lv_istore_n (lv' := [(3, .int 1), (0, .ref m9), (1, .int p1), (2, .int p2)]) hx hb dX1_offset_28 rfl hl (by decide) rfl (fun ls hl => ?_)
    exact L29 (n + 2) 1 ls (by omega) (by decide) (by omega) (fun j h1 h2 => absurd h1 (by omega)) (lv_sub hl [0, 1, 2, 3] rfl)
  · -- not taken at 22
    have c22 := bI_eq0.mp c22
    refine lv_lconst (v := 0) hx hb dX1_offset_25 (by decide) ?_
    exact W.lret (v := 0) hx hb hr (fun t ht hW => ⟨⟨0, (up, dn), rfl, fun q => absurd q c22, ⟨by rw [ht]; exact hP, va_K.moved hW.alike hK, hD⟩⟩, hS.F ht⟩) hS.2.2 dX1_offset_26
end
section
set_option maxHeartbeats 4000000 in
set_option maxRecDepth 100000 in
theorem c_X1_convert (l : Launch) (dC : Nat → ClassId) (dI : Nat → Nat → Nat) (sz : Nat) (m9 b1 b2 b3 b4 b5 b6 : Nat) (cI : ClassId) (S F D J X Y : Nat → Int32) (th : Int32) (n : Nat) (ar sl hd : Int32) (hu hw : Int64) (im tc : Nat) (fa : Int32) (up dn : Int64) (p1 p2 : Int32) (ht : tc ≤ 8) (hrt : ris X tc) (hXb : ∀ j, j < tc → 0 ≤ (X j).toInt ∧ (X j).toInt ≤ 2000) (hYb : ∀ j, j < tc → 0 ≤ (Y j).toInt ∧ (Y j).toInt ≤ 2000) : Met l yX1_convert wsX1_convert ({ frames := 1, cells := 0, slots := 0, locals := 29 }) (va_Pc [.ref m9, .int p1, .int p2] (fun U => U.heap.size = sz ∧ va_P (dC, dI) vwCl (wM m9 b1 b2 b3 b4 b5 b6 cI S F D J X Y th n ar sl hd hu hw im tc fa up dn) U.heap ∧ va_K (dC, dI) vwCl [(cI, .int)] U ∧ va_D (fun _ => True) (wM m9 b1 b2 b3 b4 b5 b6 cI S F D J X Y th n ar sl hd hu hw im tc fa up dn))) (va_Qi (fun r (_ : Unit) => kd4 (0 ≤ p2.toInt ∧ p2.toInt ≤ 2) (0 < tc) (0 ≤ p1.toInt ∧ p1.toInt ≤ 2000) (ok_cv tc X p1) = 0 → cvs X Y tc p1.toInt p2.toInt r) (fun (_ : Unit) t => at_w dC dI cI (va_A (wM m9 b1 b2 b3 b4 b5 b6 cI S F D J X Y th n ar sl hd hu hw im tc fa up dn) sz) (wM m9 b1 b2 b3 b4 b5 b6 cI S F D J X Y (kd4 (0 ≤ p2.toInt ∧ p2.toInt ≤ 2) (0 < tc) (0 ≤ p1.toInt ∧ p1.toInt ≤ 2000) (ok_cv tc X p1)) n ar sl hd hu hw im tc fa up dn) t) (va_A (wM m9 b1 b2 b3 b4 b5 b6 cI S F D J X Y th n ar sl hd hu hw im tc fa up dn) sz)) 0 0 (va_A (wM m9 b1 b2 b3 b4 b5 b6 cI S F D J X Y th n ar sl hd hu hw im tc fa up dn) sz) := by
  refine Met.ofW (cc := cX1_convert) (maxL := 6) (ret := (some .int)) (by decide) rfl ?_
  intro p e s m args below meth c s₁ B hml hv
  obtain ⟨rfl, hsz, hP, hK, hD0⟩ := hv
  have hx := B.exec
  have hb := B.bytes
  have hr := B.returns
  have hts := atoms_spec (ws := wsX1_convert) B.pre
  have hown : s.vm.findClass RX1 = some m.cls := findClass_of_methodNamed B.named
  have hlocks := B.notSynchronized
  have hinX1 : ∀ w ∈ wsX10, w ∈ wsX1_convert := fun w h => List.mem_cons_of_mem _ (inX1 w h)
  have f86 := hts _ (List.mem_cons_of_mem _ wl_X1_86)
  have f22 := hts _ (List.mem_cons_of_mem _ wl_X1_22)
  have f25 := hts _ (List.mem_cons_of_mem _ wl_X1_25)
  subst hsz
  have hD := hD0.self (sz := s.heap.size)
  generalize hAe : va_A (wM m9 b1 b2 b3 b4 b5 b6 cI S F D J X Y th n ar sl hd hu hw im tc fa up dn) s.heap.size = A at hD ⊢
  have hA : ∀ q : Nat, s.heap.size ≤ q → A q := fun q h => by rw [← hAe]; exact Or.inr h
  have hS : va_S A s.heap s.heap [] := va_S.rf
  have hl := lv_entry ([.ref m9, .int p1, .int p2]) (n := 6) (Nat.le_of_ble_eq_true rfl)
  rw [lg_entry_eq]
  generalize (lg_sl ([.ref m9, .int p1, .int p2]) ++ List.replicate (6 - (lg_sl ([.ref m9, .int p1, .int p2])).length) Slot.unset).toArray = ls at hl ⊢
  have hl : lv_has ls 6 [(0, .ref m9), (1, .int p1), (2, .int p2)] := hl
  have J57 : ∀ (ls : Array Slot), lv_has ls 6 [(3, .int (bI (ok_cv tc X p1))), (0, .ref m9), (1, .int p1), (2, .int p2)] → W p l e (headSpec wsX1_convert ({ frames := 1, cells := 0, slots := 0, locals := 29 })).room s m ([.ref m9, .int p1, .int p2] : List Value).toArray below meth c s.heap [] 0 0 (MQ below (va_Qi (fun r (_ : Unit) => kd4 (0 ≤ p2.toInt ∧ p2.toInt ≤ 2) (0 < tc) (0 ≤ p1.toInt ∧ p1.toInt ≤ 2000) (ok_cv tc X p1) = 0 → cvs X Y tc p1.toInt p2.toInt r) (fun (_ : Unit) t => at_w dC dI cI A (wM m9 b1 b2 b3 b4 b5 b6 cI S F D J X Y (kd4 (0 ≤ p2.toInt ∧ p2.toInt ≤ 2) (0 < tc) (0 ≤ p1.toInt ∧ p1.toInt ≤ 2000) (ok_cv tc X p1)) n ar sl hd hu hw im tc fa up dn) t) A) ([.ref m9, .int p1, .int p2] : List Value).toArray s 0 0 A) (F0 m 57 ls [.int (bI (0 < tc)), .int (bI (0 ≤ p2.toInt ∧ p2.toInt ≤ 2)), .ref m9]) := by
    intro ls hl
    refine lv_iload_n hx hb dX1_convert_57 rfl (lv_at hl 2 rfl) ?_
    refine lv_iconst (v := 0) hx hb dX1_convert_58 (by decide) ?_
    refine lv_sipush (v := 2000) hx hb dX1_convert_59 (by decide) ?_
    refine vp_callSi (W.runS (As := [.int p1, .int 0, .int 2000]) (rest := [.int (bI (0 < tc)), .int (bI (0 ≤ p2.toInt ∧ p2.toInt ≤ 2)), .ref m9]) ⟨hx, hb, hml, hown, hts⟩ (c_X1_in l p1 0 2000 0 2000 (by decide) (by decide)) (va_cwS 3 hts (gS wl_X1_40 ws_X1_in wi_X1 wc_X1_in) rfl rfl rfl (by decide +kernel) ⟨Nat.le_of_ble_eq_true rfl, Nat.le_of_ble_eq_true rfl⟩) ⟨fun _ _ _ _ q => q, fun U hU hW => ⟨rfl, trivial⟩⟩ rfl rfl hl.1 rfl (lv_room (Nat.le_of_ble_eq_true rfl)) dX1_convert_62 ⟨Nat.le_of_ble_eq_true rfl, Nat.le_of_ble_eq_true rfl⟩) (fun r62 h62 => ?_)
    subst h62
    refine lv_iload_n hx hb dX1_convert_65 rfl (lv_at hl 0 rfl) ?_
    have hFc := va_free (wc := (wM m9 b1 b2 b3 b4 b5 b6 cI S F D J X Y th n ar sl hd hu hw im tc fa up dn)) hD hS hA [0, 1, 2, 3, 4, 5, 6] rfl
    refine va_calli (va_runV (As := [.int (bI (0 ≤ p2.toInt ∧ p2.toInt ≤ 2)), .int (bI (0 < tc)), .int (bI (0 ≤ p1.toInt ∧ p1.toInt ≤ 2000)), .int (bI (ok_cv tc X p1))]) (rest := []) ⟨hx, hb, hml, hown, hts⟩ (c_X1_goes l dC dI s.heap.size m9 b1 b2 b3 b4 b5 b6 cI S F D J X Y th n ar sl hd hu hw im tc fa up dn (0 ≤ p2.toInt ∧ p2.toInt ≤ 2) (0 < tc) (0 ≤ p1.toInt ∧ p1.toInt ≤ 2000) (ok_cv tc X p1)) (cwV 4 hts (gV wl_X1_47 wi_X1_goes wv_X1_goes wi_X1 wc_X1_goes) rfl rfl rfl (by decide +kernel) ⟨Nat.le_of_ble_eq_true rfl, Nat.le_of_ble_eq_true rfl⟩) ⟨fun a U g mk q => ⟨q.1, q.2.1, q.2.2.1, va_K.moved (u := U) (U := U.calling g mk a) (Vm.Alike.refl U.vm) q.2.2.2.1, q.2.2.2.2⟩, va_recv hK hP (ci := 1) (q0 := 0) rfl rfl, fun U hU hW => ⟨rfl, by rw [hU], by rw [hU]; exact hP, va_K.moved hW.alike hK, hD.weaken (fun _ _ _ _ => trivial)⟩⟩ rfl rfl hl.1 rfl (lv_room (Nat.le_of_ble_eq_true rfl)) dX1_convert_66 ⟨Nat.le_of_ble_eq_true rfl, Nat.le_of_ble_eq_true rfl⟩) hS (fun q _ h => hFc q h) hFc (fun r66 u66 t H1 locs ht hvm h66 hB hz1 hk1 hS => ?_)
    obtain ⟨hP1, hK1, hD1⟩ := hB
    rw [ht] at hP1
    obtain ⟨hP, hD⟩ := va_join (wr := []) (w1 := (wM m9 b1 b2 b3 b4 b5 b6 cI S F D J X Y (kd4 (0 ≤ p2.toInt ∧ p2.toInt ≤ 2) (0 < tc) (0 ≤ p1.toInt ∧ p1.toInt ≤ 2000) (ok_cv tc X p1)) n ar sl hd hu hw im tc fa up dn)) hP hD [0, 1, 2, 3, 4, 5, 6] [] rfl rfl (by decide) (by decide) hk1 hFc hP1 hD1
    generalize H1 = H at hP hS ⊢
    have hP : va_P (dC, dI) vwCl (wM m9 b1 b2 b3 b4 b5 b6 cI S F D J X Y (kd4 (0 ≤ p2.toInt ∧ p2.toInt ≤ 2) (0 < tc) (0 ≤ p1.toInt ∧ p1.toInt ≤ 2000) (ok_cv tc X p1)) n ar sl hd hu hw im tc fa up dn) H := hP
    have hD : va_D A (wM m9 b1 b2 b3 b4 b5 b6 cI S F D J X Y (kd4 (0 ≤ p2.toInt ∧ p2.toInt ≤ 2) (0 < tc) (0 ≤ p1.toInt ∧ p1.toInt ≤ 2000) (ok_cv tc X p1)) n ar sl hd hu hw im tc fa up dn) := hD
    subst h66
    refine lv_if_ne (tgt := 74) hx hb dX1_convert_69 (by decide) (fun c69 => ?_) (fun c69 => ?_)
    · -- taken at 69
      have c69 := bI_ne0.mp c69
      obtain ⟨e1, e2, e3, e4, e5, e6⟩ := kd_z c69
      have L77 : ∀ (f : Nat) (k : Nat) (ls : Array Slot), tc + 1 ≤ k + f → (k ≤ tc) → (∀ j, j < k → (X j).toInt < p1.toInt) → lv_has ls 6 [(4, .int (nI k)), (0, .ref m9), (1, .int p1), (2, .int p2)] → W p l e (headSpec wsX1_convert ({ frames := 1, cells := 0, slots := 0, locals := 29 })).room s m ([.ref m9, .int p1, .int p2] : List Value).toArray below meth c H locs 0 0 (MQ below (va_Qi (fun r (_ : Unit) => kd4 (0 ≤ p2.toInt ∧ p2.toInt ≤ 2) (0 < tc) (0 ≤ p1.toInt ∧ p1.toInt ≤ 2000) (ok_cv tc X p1) = 0 → cvs X Y tc p1.toInt p2.toInt r) (fun (_ : Unit) t => at_w dC dI cI A (wM m9 b1 b2 b3 b4 b5 b6 cI S F D J X Y (kd4 (0 ≤ p2.toInt ∧ p2.toInt ≤ 2) (0 < tc) (0 ≤ p1.toInt ∧ p1.toInt ≤ 2000) (ok_cv tc X p1)) n ar sl hd hu hw im tc fa up dn) t) A) ([.ref m9, .int p1, .int p2] : List Value).toArray s 0 0 A) (F0 m 77 ls []) := by
        intro f
        induction f with
        | zero => intro k ls hm hk ha hl; exact absurd hm (by omega)
        | succ f ih =>
          intro k ls hm hk ha hl
          refine lv_iload hx hb dX1_convert_77 (lv_at hl 0 rfl) ?_
          refine lv_aload_n hx hb dX1_convert_79 rfl (lv_at hl 1 rfl) ?_
          refine va_get (D := (dC, dI)) (ci := 1) (v := .int (nI tc)) (C := RX1) (T := TX1) (N := 18) hx hb hts hinX1 hown hK hP 0 rfl rfl 12 (by decide) f86 (fun _ h9 => h9) rfl dX1_convert_80 ?_
          refine lv_icmp_ge (tgt := 196) hx hb dX1_convert_83 (by decide) (fun c83 => ?_) (fun c83 => ?_)
          · -- taken at 83
            have c83 : tc ≤ k := (nI_leI (a := tc) (b := k) (by omega) (by omega)).mp c83
            exact absurd (ha (tc - 1) (by omega)) (by omega)
          · -- not taken at 83
            have c83 : ¬ tc ≤ k := fun q9 => c83 ((nI_leI (a := tc) (b := k) (by omega) (by omega)).mpr q9)
            refine lv_iload_n hx hb dX1_convert_86 rfl (lv_at hl 2 rfl) ?_
            refine lv_aload_n hx hb dX1_convert_87 rfl (lv_at hl 1 rfl) ?_
            refine va_get (D := (dC, dI)) (ci := 1) (v := .ref b5) (C := RX1) (T := TX1) (N := 18) hx hb hts hinX1 hown hK hP 0 rfl rfl 13 (by decide) f22 (fun _ h9 => h9) rfl dX1_convert_88 ?_
            refine lv_iload hx hb dX1_convert_91 (lv_at hl 0 rfl) ?_
            refine va_iald (D := (dC, dI)) hx hb hK hP 5 0 rfl rfl (vp_in_nI (show k < 8 by omega) (by decide)) dX1_convert_93 ?_
            refine W.eq (congrArg (fun z => F0 m 94 ls (.int z :: [.int p1])) (congrArg X (nI_clamp (show k < 2 ^ 31 by omega)))) ?_
            refine lv_icmp_le (tgt := 100) hx hb dX1_convert_94 (by decide) (fun c94 => ?_) (fun c94 => ?_)
            · -- taken at 94
              have c94 : p1.toInt ≤ (X k).toInt := (Int32.le_iff_toInt_le).mp c94
              refine lv_iload_n hx hb dX1_convert_100 rfl (lv_at hl 2 rfl) ?_
              refine lv_aload_n hx hb dX1_convert_101 rfl (lv_at hl 1 rfl) ?_
              refine va_get (D := (dC, dI)) (ci := 1) (v := .ref b5) (C := RX1) (T := TX1) (N := 18) hx hb hts hinX1 hown hK hP 0 rfl rfl 13 (by decide) f22 (fun _ h9 => h9) rfl dX1_convert_102 ?_
              refine lv_iload hx hb dX1_convert_105 (lv_at hl 0 rfl) ?_
              refine va_iald (D := (dC, dI)) hx hb hK hP 5 0 rfl rfl (vp_in_nI (show k < 8 by omega) (by decide)) dX1_convert_107 ?_
              refine W.eq (congrArg (fun z => F0 m 108 ls (.int z :: [.int p1])) (congrArg X (nI_clamp (show k < 2 ^ 31 by omega)))) ?_
              refine lv_icmp_ne (tgt := 119) hx hb dX1_convert_108 (by decide) (fun c108 => ?_) (fun c108 => ?_)
              · -- taken at 108
                have c108 : ¬ p1.toInt = (X k).toInt := fun q9 => c108 ((Int32.toInt_inj.symm).mpr q9)
                have hk0 : 1 ≤ k := by
                  rcases Nat.eq_zero_or_pos k with q | q
                  · subst q; omega
                  · exact q
                obtain ⟨g1, g2, g3, g4⟩ := cv_m (hrt (k - 1) k (by omega) (by omega)) (hXb k (by omega)) (hXb (k - 1) (by omega)) (hYb k (by omega)) (hYb (k - 1) (by omega)) (ha (k - 1) (by omega)) c94
                refine lv_aload_n hx hb dX1_convert_119 rfl (lv_at hl 1 rfl) ?_
                refine va_get (D := (dC, dI)) (ci := 1) (v := .ref b5) (C := RX1) (T := TX1) (N := 18) hx hb hts hinX1 hown hK hP 0 rfl rfl 13 (by decide) f22 (fun _ h9 => h9) rfl dX1_convert_120 ?_
                refine lv_iload hx hb dX1_convert_123 (lv_at hl 0 rfl) ?_
                refine va_iald (D := (dC, dI)) hx hb hK hP 5 0 rfl rfl (vp_in_nI (show k < 8 by omega) (by decide)) dX1_convert_125 ?_
                refine W.eq (congrArg (fun z => F0 m 126 ls (.int z :: [])) (congrArg X (nI_clamp (show k < 2 ^ 31 by omega)))) ?_
                refine lv_aload_n hx hb dX1_convert_126 rfl (lv_at hl 1 rfl) ?_
                refine va_get (D := (dC, dI)) (ci := 1) (v := .ref b5) (C := RX1) (T := TX1) (N := 18) hx hb hts hinX1 hown hK hP 0 rfl rfl 13 (by decide) f22 (fun _ h9 => h9) rfl dX1_convert_127 ?_
                refine lv_iload hx hb dX1_convert_130 (lv_at hl 0 rfl) ?_
                refine lv_iconst (v := 1) hx hb dX1_convert_132 (by decide) ?_
                refine lv_isub hx hb dX1_convert_133 ?_
                refine W.eq (congrArg (fun z => F0 m 134 ls (.int z :: [.ref b5, .int (X k)])) (nI_p1 (by omega))) ?_
                refine va_iald (D := (dC, dI)) hx hb hK hP 5 0 rfl rfl (vp_in_nI (show k - 1 < 8 by omega) (by decide)) dX1_convert_134 ?_
                refine W.eq (congrArg (fun z => F0 m 135 ls (.int z :: [.int (X k)])) (congrArg X (nI_clamp (show k - 1 < 2 ^ 31 by omega)))) ?_
                refine lv_isub hx hb dX1_convert_135 ?_
                refine lv_istore (lv' := [(5, .int ((X k) - (X (k - 1)))), (4, .int (nI k)), (0, .ref m9), (1, .int p1), (2, .int p2)]) hx hb dX1_convert_136 hl (by decide) rfl (fun ls hl => ?_)
                refine lv_aload_n hx hb dX1_convert_138 rfl (lv_at hl 2 rfl) ?_
                refine va_get (D := (dC, dI)) (ci := 1) (v := .ref b6) (C := RX1) (T := TX1) (N := 18) hx hb hts hinX1 hown hK hP 0 rfl rfl 14 (by decide) f25 (fun _ h9 => h9) rfl dX1_convert_139 ?_
                refine lv_iload hx hb dX1_convert_142 (lv_at hl 1 rfl) ?_
                refine lv_iconst (v := 1) hx hb dX1_convert_144 (by decide) ?_
                refine lv_isub hx hb dX1_convert_145 ?_
                refine W.eq (congrArg (fun z => F0 m 146 ls (.int z :: [.ref b6])) (nI_p1 (by omega))) ?_
                refine va_iald (D := (dC, dI)) hx hb hK hP 6 0 rfl rfl (vp_in_nI (show k - 1 < 8 by omega) (by decide)) dX1_convert_146 ?_
                refine W.eq (congrArg (fun z => F0 m 147 ls (.int z :: [])) (congrArg Y (nI_clamp (show k - 1 < 2 ^ 31 by omega)))) ?_
                refine lv_iload hx hb dX1_convert_147 (lv_at hl 0 rfl) ?_
                refine lv_imul hx hb dX1_convert_149 ?_
                refine lv_aload_n hx hb dX1_convert_150 rfl (lv_at hl 2 rfl) ?_
                refine va_get (D := (dC, dI)) (ci := 1) (v := .ref b6) (C := RX1) (T := TX1) (N := 18) hx hb hts hinX1 hown hK hP 0 rfl rfl 14 (by decide) f25 (fun _ h9 => h9) rfl dX1_convert_151 ?_
                refine lv_iload hx hb dX1_convert_154 (lv_at hl 1 rfl) ?_
                refine va_iald (D := (dC, dI)) hx hb hK hP 6 0 rfl rfl (vp_in_nI (show k < 8 by omega) (by decide)) dX1_convert_156 ?_
                refine W.eq (congrArg (fun z => F0 m 157 ls (.int z :: [.int ((Y (k - 1)) * ((X k) - (X (k - 1))))])) (congrArg Y (nI_clamp (show k < 2 ^ 31 by omega)))) ?_
                refine lv_aload_n hx hb dX1_convert_157 rfl (lv_at hl 2 rfl) ?_
                refine va_get (D := (dC, dI)) (ci := 1) (v := .ref b6) (C := RX1) (T := TX1) (N := 18) hx hb hts hinX1 hown hK hP 0 rfl rfl 14 (by decide) f25 (fun _ h9 => h9) rfl dX1_convert_158 ?_
                refine lv_iload hx hb dX1_convert_161 (lv_at hl 1 rfl) ?_
                refine lv_iconst (v := 1) hx hb dX1_convert_163 (by decide) ?_
                refine lv_isub hx hb dX1_convert_164 ?_
                refine W.eq (congrArg (fun z => F0 m 165 ls (.int z :: [.ref b6, .int (Y k), .int ((Y (k - 1)) * ((X k) - (X (k - 1))))])) (nI_p1 (by omega))) ?_
                refine va_iald (D := (dC, dI)) hx hb hK hP 6 0 rfl rfl (vp_in_nI (show k - 1 < 8 by omega) (by decide)) dX1_convert_165 ?_
                refine W.eq (congrArg (fun z => F0 m 166 ls (.int z :: [.int (Y k), .int ((Y (k - 1)) * ((X k) - (X (k - 1))))])) (congrArg Y (nI_clamp (show k - 1 < 2 ^ 31 by omega)))) ?_
                refine lv_isub hx hb dX1_convert_166 ?_
                refine lv_iload_n hx hb dX1_convert_167 rfl (lv_at hl 3 rfl) ?_
                refine lv_aload_n hx hb dX1_convert_168 rfl (lv_at hl 2 rfl) ?_
                refine va_get (D := (dC, dI)) (ci := 1) (v := .ref b5) (C := RX1) (T := TX1) (N := 18) hx hb hts hinX1 hown hK hP 0 rfl rfl 13 (by decide) f22 (fun _ h9 => h9) rfl dX1_convert_169 ?_
                refine lv_iload hx hb dX1_convert_172 (lv_at hl 1 rfl) ?_
                refine lv_iconst (v := 1) hx hb dX1_convert_174 (by decide) ?_
                refine lv_isub hx hb dX1_convert_175 ?_
                refine va_iald (D := (dC, dI)) hx hb hK hP 5 0 rfl rfl (by rw [nI_p1 (show 1 ≤ k by omega)]; exact vp_in_nI (show k - 1 < 8 by omega) (by decide)) dX1_convert_176 ?_
                refine W.eq (congrArg (fun z => F0 m 177 ls (.int z :: [.int p1, .int ((Y k) - (Y (k - 1))), .int ((Y (k - 1)) * ((X k) - (X (k - 1))))])) (congrArg X (by rw [nI_p1 (show 1 ≤ k by omega)]; exact nI_clamp (show k - 1 < 2 ^ 31 by omega)))) ?_
                refine W.eq (congrArg (fun z => F0 m 177 ls (.int z :: [.int p1, .int ((Y k) - (Y (k - 1))), .int ((Y (k - 1)) * ((X k) - (X (k - 1))))])) (nI_p1 (by omega))) ?_
                refine lv_isub hx hb dX1_convert_177 ?_
                refine lv_imul hx hb dX1_convert_178 ?_
                refine lv_iadd hx hb dX1_convert_179 ?_
                refine lv_i2l hx hb dX1_convert_180 rfl ?_
                refine lv_iload hx hb dX1_convert_181 (lv_at hl 0 rfl) ?_
                refine lv_i2l hx hb dX1_convert_183 rfl ?_
                refine lv_iload_n hx hb dX1_convert_184 rfl (lv_at hl 4 rfl) ?_
                refine vp_callSl (W.runS (As := [.long ((((Y (k - 1)) * ((X k) - (X (k - 1)))) + (((Y k) - (Y (k - 1))) * (p1 - (nI (k - 1))))).toInt64), .long (((X k) - (X (k - 1))).toInt64), .int p2]) (rest := []) ⟨hx, hb, hml, hown, hts⟩ (c_X1_rounded l ((((Y (k - 1)) * ((X k) - (X (k - 1)))) + (((Y k) - (Y (k - 1))) * (p1 - (nI (k - 1))))).toInt64) (((X k) - (X (k - 1))).toInt64) p2 (by omega) (by omega) (by omega) (by omega) e1) (va_cwS 3 hts (gS wl_X1_89 ws_X1_rounded wi_X1 wc_X1_rounded) rfl rfl rfl (by decide +kernel) ⟨Nat.le_of_ble_eq_true rfl, Nat.le_of_ble_eq_true rfl⟩) ⟨fun _ _ _ _ q => q, fun U hU hW => ⟨rfl, trivial⟩⟩ rfl rfl hl.1 rfl (lv_room (Nat.le_of_ble_eq_true rfl)) dX1_convert_185 ⟨Nat.le_of_ble_eq_true rfl, Nat.le_of_ble_eq_true rfl⟩) (fun r185 h185 => ?_)
                refine lv_l2i hx hb dX1_convert_188 rfl ?_
                exact W.iret (v := r185.toInt32) hx hb hr (fun t ht hW => ⟨⟨r185.toInt32, (), rfl, fun _ => ⟨k, by omega, ha, c94, Or.inr ⟨c108, hk0, cv_r g1 g2 g3 h185⟩⟩, ⟨by rw [ht]; exact hP, va_K.moved hW.alike hK, hD⟩⟩, hS.F ht⟩) hS.2.2 dX1_convert_189
              · -- not taken at 108
                have c108 : p1.toInt = (X k).toInt := (Int32.toInt_inj.symm).mp c108
                refine lv_aload_n hx hb dX1_convert_111 rfl (lv_at hl 1 rfl) ?_
                refine va_get (D := (dC, dI)) (ci := 1) (v := .ref b6) (C := RX1) (T := TX1) (N := 18) hx hb hts hinX1 hown hK hP 0 rfl rfl 14 (by decide) f25 (fun _ h9 => h9) rfl dX1_convert_112 ?_
                refine lv_iload hx hb dX1_convert_115 (lv_at hl 0 rfl) ?_
                refine va_iald (D := (dC, dI)) hx hb hK hP 6 0 rfl rfl (vp_in_nI (show k < 8 by omega) (by decide)) dX1_convert_117 ?_
                refine W.eq (congrArg (fun z => F0 m 118 ls (.int z :: [])) (congrArg Y (nI_clamp (show k < 2 ^ 31 by omega)))) ?_
                exact W.iret (v := Y k) hx hb hr (fun t ht hW => ⟨⟨Y k, (), rfl, fun _ => ⟨k, by omega, ha, c94, Or.inl ⟨c108, rfl⟩⟩, ⟨by rw [ht]; exact hP, va_K.moved hW.alike hK, hD⟩⟩, hS.F ht⟩) hS.2.2 dX1_convert_118
            · -- not taken at 94
              have c94 : ¬ p1.toInt ≤ (X k).toInt := fun q9 => c94 ((Int32.le_iff_toInt_le).mpr q9)
              refine lv_goto (tgt := 190) hx hb dX1_convert_97 (by decide) ?_
              refine lv_iinc (v := nI (k + 1)) (lv' := [(4, .int (nI (k + 1))), (0, .ref m9), (1, .int p1), (2, .int p2)]) hx hb dX1_convert_190 hl (k := 0) rfl ((nI_succ _).symm) (by decide) rfl (fun ls hl => ?_)
              refine lv_goto (tgt := 77) hx hb dX1_convert_193 (by decide) ?_
              exact ih (k + 1) ls (by omega) (by omega) (lt_s ha (by omega)) (lv_sub hl [0, 1, 2, 3] rfl)
      refine lv_iconst (v := 0) hx hb dX1_convert_74 (by decide) ?_
      refine lv_istore (lv' := [(4, .int 0), (3, .int (bI (ok_cv tc X p1))), (0, .ref m9), (1, .int p1), (2, .int p2)]) hx hb dX1_convert_75 hl (by decide) rfl (fun ls hl => ?_)
      exact L77 (tc + 1) 0 ls (by omega) (Nat.zero_le _) (fun j hj => absurd hj (Nat.not_lt_zero j)) (lv_sub hl [0, 2, 3, 4] rfl)
    · -- not taken at 69
      have c69 := bI_eq0.mp c69
      refine lv_iconst (v := 0) hx hb dX1_convert_72 (by decide) ?_
      exact W.iret (v := 0) hx hb hr (fun t ht hW => ⟨⟨0, (), rfl, fun q => absurd q c69, ⟨by rw [ht]; exact hP, va_K.moved hW.alike hK, hD⟩⟩, hS.F ht⟩) hS.2.2 dX1_convert_73
  have J37 : ∀ (ls : Array Slot), lv_has ls 6 [(0, .ref m9), (1, .int p1), (2, .int p2)] → W p l e (headSpec wsX1_convert ({ frames := 1, cells := 0, slots := 0, locals := 29 })).room s m ([.ref m9, .int p1, .int p2] : List Value).toArray below meth c s.heap [] 0 0 (MQ below (va_Qi (fun r (_ : Unit) => kd4 (0 ≤ p2.toInt ∧ p2.toInt ≤ 2) (0 < tc) (0 ≤ p1.toInt ∧ p1.toInt ≤ 2000) (ok_cv tc X p1) = 0 → cvs X Y tc p1.toInt p2.toInt r) (fun (_ : Unit) t => at_w dC dI cI A (wM m9 b1 b2 b3 b4 b5 b6 cI S F D J X Y (kd4 (0 ≤ p2.toInt ∧ p2.toInt ≤ 2) (0 < tc) (0 ≤ p1.toInt ∧ p1.toInt ≤ 2000) (ok_cv tc X p1)) n ar sl hd hu hw im tc fa up dn) t) A) ([.ref m9, .int p1, .int p2] : List Value).toArray s 0 0 A) (F0 m 37 ls [.int (bI (ok_cv tc X p1))]) := by
    intro ls hl
    refine lv_istore_n (lv' := [(3, .int (bI (ok_cv tc X p1))), (0, .ref m9), (1, .int p1), (2, .int p2)]) hx hb dX1_convert_37 rfl hl (by decide) rfl (fun ls hl => ?_)
    refine lv_aload_n hx hb dX1_convert_38 rfl (lv_at hl 1 rfl) ?_
    refine lv_iload_n hx hb dX1_convert_39 rfl (lv_at hl 3 rfl) ?_
    refine lv_iconst (v := 0) hx hb dX1_convert_40 (by decide) ?_
    refine lv_iconst (v := 2) hx hb dX1_convert_41 (by decide) ?_
    refine vp_callSi (W.runS (As := [.int p2, .int 0, .int 2]) (rest := [.ref m9]) ⟨hx, hb, hml, hown, hts⟩ (c_X1_in l p2 0 2 0 2 (by decide) (by decide)) (va_cwS 3 hts (gS wl_X1_40 ws_X1_in wi_X1 wc_X1_in) rfl rfl rfl (by decide +kernel) ⟨Nat.le_of_ble_eq_true rfl, Nat.le_of_ble_eq_true rfl⟩) ⟨fun _ _ _ _ q => q, fun U hU hW => ⟨rfl, trivial⟩⟩ rfl rfl hl.1 rfl (lv_room (Nat.le_of_ble_eq_true rfl)) dX1_convert_42 ⟨Nat.le_of_ble_eq_true rfl, Nat.le_of_ble_eq_true rfl⟩) (fun r42 h42 => ?_)
    subst h42
    refine lv_aload_n hx hb dX1_convert_45 rfl (lv_at hl 1 rfl) ?_
    refine va_get (D := (dC, dI)) (ci := 1) (v := .int (nI tc)) (C := RX1) (T := TX1) (N := 18) hx hb hts hinX1 hown hK hP 0 rfl rfl 12 (by decide) f86 (fun _ h9 => h9) rfl dX1_convert_46 ?_
    refine lv_if_le (tgt := 56) hx hb dX1_convert_49 (by decide) (fun c49 => ?_) (fun c49 => ?_)
    · -- taken at 49
      have c49 : tc ≤ 0 := (nI_leI (a := tc) (b := 0) (by omega) (by omega)).mp c49
      refine lv_iconst (v := 0) hx hb dX1_convert_56 (by decide) ?_
      refine W.eq (congrArg (fun z => F0 m 57 ls (.int z :: [.int (bI (0 ≤ p2.toInt ∧ p2.toInt ≤ 2)), .ref m9])) ((bI_0 (c := 0 < tc) (by omega)).symm)) ?_
      exact J57 ls (lv_sub hl [0, 1, 2, 3] rfl)
    · -- not taken at 49
      have c49 : ¬ tc ≤ 0 := fun q9 => c49 ((nI_leI (a := tc) (b := 0) (by omega) (by omega)).mpr q9)
      refine lv_iconst (v := 1) hx hb dX1_convert_52 (by decide) ?_
      refine lv_goto (tgt := 57) hx hb dX1_convert_53 (by decide) ?_
      refine W.eq (congrArg (fun z => F0 m 57 ls (.int z :: [.int (bI (0 ≤ p2.toInt ∧ p2.toInt ≤ 2)), .ref m9])) ((bI_1 (c := 0 < tc) (by omega)).symm)) ?_
      exact J57 ls (lv_sub hl [0, 1, 2, 3] rfl)
  refine lv_aload_n hx hb dX1_convert_0 rfl (lv_at hl 0 rfl) ?_
  refine va_get (D := (dC, dI)) (ci := 1) (v := .int (nI tc)) (C := RX1) (T := TX1) (N := 18) hx hb hts hinX1 hown hK hP 0 rfl rfl 12 (by decide) f86 (fun _ h9 => h9) rfl dX1_convert_1 ?_
  refine lv_if_le (tgt := 36) hx hb dX1_convert_4 (by decide) (fun c4 => ?_) (fun c4 => ?_)
  · -- taken at 4
    have c4 : tc ≤ 0 := (nI_leI (a := tc) (b := 0) (by omega) (by omega)).mp c4
    refine lv_iconst (v := 0) hx hb dX1_convert_36 (by decide) ?_
    refine W.eq (congrArg (fun z => F0 m 37 ls (.int z :: [])) ((bI_0 (c := ok_cv tc X p1) (by unfold ok_cv; omega)).symm)) ?_
    exact J37 ls (lv_sub hl [0, 1, 2] rfl)
  · -- not taken at 4
    have c4 : ¬ tc ≤ 0 := fun q9 => c4 ((nI_leI (a := tc) (b := 0) (by omega) (by omega)).mpr q9)
    refine lv_iload_n hx hb dX1_convert_7 rfl (lv_at hl 1 rfl) ?_
    refine lv_aload_n hx hb dX1_convert_8 rfl (lv_at hl 0 rfl) ?_
    refine va_get (D := (dC, dI)) (ci := 1) (v := .ref b5) (C := RX1) (T := TX1) (N := 18) hx hb hts hinX1 hown hK hP 0 rfl rfl 13 (by decide) f22 (fun _ h9 => h9) rfl dX1_convert_9 ?_
    refine lv_iconst (v := 0) hx hb dX1_convert_12 (by decide) ?_
    refine va_iald (D := (dC, dI)) hx hb hK hP 5 0 rfl rfl (vp_in_nI (show 0 < 8 by omega) (by decide)) dX1_convert_13 ?_
    refine W.eq (congrArg (fun z => F0 m 14 ls (.int z :: [.int p1])) (congrArg X (nI_clamp (show 0 < 2 ^ 31 by omega)))) ?_
    refine lv_icmp_lt (tgt := 36) hx hb dX1_convert_14 (by decide) (fun c14 => ?_) (fun c14 => ?_)
    · -- taken at 14
      have c14 : p1.toInt < (X 0).toInt := (Int32.lt_iff_toInt_lt).mp c14
      refine lv_iconst (v := 0) hx hb dX1_convert_36 (by decide) ?_
      refine W.eq (congrArg (fun z => F0 m 37 ls (.int z :: [])) ((bI_0 (c := ok_cv tc X p1) (by unfold ok_cv; omega)).symm)) ?_
      exact J37 ls (lv_sub hl [0, 1, 2] rfl)
    · -- not taken at 14
      have c14 : ¬ p1.toInt < (X 0).toInt := fun q9 => c14 ((Int32.lt_iff_toInt_lt).mpr q9)
      refine lv_iload_n hx hb dX1_convert_17 rfl (lv_at hl 1 rfl) ?_
      refine lv_aload_n hx hb dX1_convert_18 rfl (lv_at hl 0 rfl) ?_
      refine va_get (D := (dC, dI)) (ci := 1) (v := .ref b5) (C := RX1) (T := TX1) (N := 18) hx hb hts hinX1 hown hK hP 0 rfl rfl 13 (by decide) f22 (fun _ h9 => h9) rfl dX1_convert_19 ?_
      refine lv_aload_n hx hb dX1_convert_22 rfl (lv_at hl 0 rfl) ?_
      refine va_get (D := (dC, dI)) (ci := 1) (v := .int (nI tc)) (C := RX1) (T := TX1) (N := 18) hx hb hts hinX1 hown hK hP 0 rfl rfl 12 (by decide) f86 (fun _ h9 => h9) rfl dX1_convert_23 ?_
      refine lv_iconst (v := 1) hx hb dX1_convert_26 (by decide) ?_
      refine lv_isub hx hb dX1_convert_27 ?_
      refine W.eq (congrArg (fun z => F0 m 28 ls (.int z :: [.ref b5, .int p1])) (nI_p1 (by omega))) ?_
      refine va_iald (D := (dC, dI)) hx hb hK hP 5 0 rfl rfl (vp_in_nI (show tc - 1 < 8 by omega) (by decide)) dX1_convert_28 ?_
      refine W.eq (congrArg (fun z => F0 m 29 ls (.int z :: [.int p1])) (congrArg X (nI_clamp (show tc - 1 < 2 ^ 31 by omega)))) ?_
      refine lv_icmp_gt (tgt := 36) hx hb dX1_convert_29 (by decide) (fun c29 => ?_) (fun c29 => ?_)
      · -- taken at 29
        have c29 : (X (tc - 1)).toInt < p1.toInt := (Int32.lt_iff_toInt_lt).mp c29
        refine lv_iconst (v := 0) hx hb dX1_convert_36 (by decide) ?_
        refine W.eq (congrArg (fun z => F0 m 37 ls (.int z :: [])) ((bI_0 (c := ok_cv tc X p1) (by unfold ok_cv; omega)).symm)) ?_
        exact J37 ls (lv_sub hl [0, 1, 2] rfl)
      · -- not taken at 29
        have c29 : ¬ (X (tc - 1)).toInt < p1.toInt := fun q9 => c29 ((Int32.lt_iff_toInt_lt).mpr q9)
        refine lv_iconst (v := 1) hx hb dX1_convert_32 (by decide) ?_
        refine lv_goto (tgt := 37) hx hb dX1_convert_33 (by decide) ?_
        refine W.eq (congrArg (fun z => F0 m 37 ls (.int z :: [])) ((bI_1 (c := ok_cv tc X p1) (by unfold ok_cv; omega)).symm)) ?_
        exact J37 ls (lv_sub hl [0, 1, 2] rfl)
set_option maxHeartbeats 4000000 in
set_option maxRecDepth 100000 in
theorem c_X1_fitted (l : Launch) (dC : Nat → ClassId) (dI : Nat → Nat → Nat) (sz : Nat) (m9 b1 b2 b3 b4 b5 b6 : Nat) (cI : ClassId) (S F D J X Y : Nat → Int32) (th : Int32) (n : Nat) (ar sl hd : Int32) (hu hw : Int64) (im tc : Nat) (fa : Int32) (up dn : Int64) (p1 p2 : Int32) (hi8 : im ≤ 8) (hDb : ∀ j, j < im → -200 ≤ (D j).toInt ∧ (D j).toInt ≤ 200) (hJb : ∀ j, j < im → 0 ≤ (J j).toInt ∧ (J j).toInt ≤ 400) : Met l yX1_fitted wsX1_fitted ({ frames := 1, cells := 0, slots := 0, locals := 31 }) (va_Pc [.ref m9, .int p1, .int p2] (fun U => U.heap.size = sz ∧ va_P (dC, dI) vwCl (wM m9 b1 b2 b3 b4 b5 b6 cI S F D J X Y th n ar sl hd hu hw im tc fa up dn) U.heap ∧ va_K (dC, dI) vwCl [(cI, .int)] U ∧ va_D (fun _ => True) (wM m9 b1 b2 b3 b4 b5 b6 cI S F D J X Y th n ar sl hd hu hw im tc fa up dn))) (va_Ql (fun r (u : Int64 × Int64) => kd4 (0 ≤ p2.toInt ∧ p2.toInt ≤ 1) (2 ≤ im ∧ 0 < ftb D im) (-200 ≤ p1.toInt ∧ p1.toInt ≤ 200) True = 0 → r.toInt = fr (ftu D J im p1.toInt) ((im : Int) * ftb D im) p2.toInt) (fun (u : Int64 × Int64) t => at_w dC dI cI (va_A (wM m9 b1 b2 b3 b4 b5 b6 cI S F D J X Y th n ar sl hd hu hw im tc fa up dn) sz) (wM m9 b1 b2 b3 b4 b5 b6 cI S F D J X Y (kd4 (0 ≤ p2.toInt ∧ p2.toInt ≤ 1) (2 ≤ im ∧ 0 < ftb D im) (-200 ≤ p1.toInt ∧ p1.toInt ≤ 200) True) n ar sl hd hu hw im tc fa u.1 u.2) t) (va_A (wM m9 b1 b2 b3 b4 b5 b6 cI S F D J X Y th n ar sl hd hu hw im tc fa up dn) sz)) 0 0 (va_A (wM m9 b1 b2 b3 b4 b5 b6 cI S F D J X Y th n ar sl hd hu hw im tc fa up dn) sz) := by
  refine Met.ofW (cc := cX1_fitted) (maxL := 17) (ret := (some .long)) (by decide) rfl ?_
  intro p e s m args below meth c s₁ B hml hv
  obtain ⟨rfl, hsz, hP, hK, hD0⟩ := hv
  have hx := B.exec
  have hb := B.bytes
  have hr := B.returns
  have hts := atoms_spec (ws := wsX1_fitted) B.pre
  have hown : s.vm.findClass RX1 = some m.cls := findClass_of_methodNamed B.named
  have hlocks := B.notSynchronized
  have hinX1 : ∀ w ∈ wsX10, w ∈ wsX1_fitted := fun w h => List.mem_cons_of_mem _ (inX1 w h)
  have f81 := hts _ (List.mem_cons_of_mem _ wl_X1_81)
  have f16 := hts _ (List.mem_cons_of_mem _ wl_X1_16)
  have f19 := hts _ (List.mem_cons_of_mem _ wl_X1_19)
  have k84 := hts _ (List.mem_cons_of_mem _ wl_X1_84)
  subst hsz
  have hD := hD0.self (sz := s.heap.size)
  generalize hAe : va_A (wM m9 b1 b2 b3 b4 b5 b6 cI S F D J X Y th n ar sl hd hu hw im tc fa up dn) s.heap.size = A at hD ⊢
  have hA : ∀ q : Nat, s.heap.size ≤ q → A q := fun q h => by rw [← hAe]; exact Or.inr h
  have hS : va_S A s.heap s.heap [] := va_S.rf
  have hl := lv_entry ([.ref m9, .int p1, .int p2]) (n := 17) (Nat.le_of_ble_eq_true rfl)
  rw [lg_entry_eq]
  generalize (lg_sl ([.ref m9, .int p1, .int p2]) ++ List.replicate (17 - (lg_sl ([.ref m9, .int p1, .int p2])).length) Slot.unset).toArray = ls at hl ⊢
  have hl : lv_has ls 17 [(0, .ref m9), (1, .int p1), (2, .int p2)] := hl
  have L21 : ∀ (f : Nat) (k : Nat) (x1 : Int64) (x2 : Int64) (x3 : Int64) (x4 : Int64) (ls : Array Slot), im + 1 ≤ k + f → (k ≤ im) → (fts D J k x1 x2 x3 x4) → lv_has ls 17 [(13, .int (nI k)), (11, .long x4), (9, .long x3), (7, .long x2), (5, .long x1), (3, .long ((nI im).toInt64)), (0, .ref m9), (1, .int p1), (2, .int p2)] → W p l e (headSpec wsX1_fitted ({ frames := 1, cells := 0, slots := 0, locals := 31 })).room s m ([.ref m9, .int p1, .int p2] : List Value).toArray below meth c s.heap [] 0 0 (MQ below (va_Ql (fun r (u : Int64 × Int64) => kd4 (0 ≤ p2.toInt ∧ p2.toInt ≤ 1) (2 ≤ im ∧ 0 < ftb D im) (-200 ≤ p1.toInt ∧ p1.toInt ≤ 200) True = 0 → r.toInt = fr (ftu D J im p1.toInt) ((im : Int) * ftb D im) p2.toInt) (fun (u : Int64 × Int64) t => at_w dC dI cI A (wM m9 b1 b2 b3 b4 b5 b6 cI S F D J X Y (kd4 (0 ≤ p2.toInt ∧ p2.toInt ≤ 1) (2 ≤ im ∧ 0 < ftb D im) (-200 ≤ p1.toInt ∧ p1.toInt ≤ 200) True) n ar sl hd hu hw im tc fa u.1 u.2) t) A) ([.ref m9, .int p1, .int p2] : List Value).toArray s 0 0 A) (F0 m 21 ls []) := by
    intro f
    induction f with
    | zero => intro k x1 x2 x3 x4 ls hm hk hs hl; exact absurd hm (by omega)
    | succ f ih =>
      intro k x1 x2 x3 x4 ls hm hk hs hl
      refine lv_iload hx hb dX1_fitted_21 (lv_at hl 0 rfl) ?_
      refine lv_aload_n hx hb dX1_fitted_23 rfl (lv_at hl 6 rfl) ?_
      refine va_get (D := (dC, dI)) (ci := 1) (v := .int (nI im)) (C := RX1) (T := TX1) (N := 18) hx hb hts hinX1 hown hK hP 0 rfl rfl 9 (by decide) f81 (fun _ h9 => h9) rfl dX1_fitted_24 ?_
      refine lv_icmp_ge (tgt := 104) hx hb dX1_fitted_27 (by decide) (fun c27 => ?_) (fun c27 => ?_)
      · -- taken at 27
        have c27 : im ≤ k := (nI_leI (a := im) (b := k) (by omega) (by omega)).mp c27
        have hkn : im = k := by omega
        subst hkn
        have hb9 := fts_b hDb hJb hi8
        obtain ⟨g1, g2, -, -, -⟩ := fit_m hi8 hs hb9
        refine lv_lload_n hx hb dX1_fitted_104 rfl (lv_at hl 5 rfl) ?_
        refine lv_lload hx hb dX1_fitted_105 (lv_at hl 2 rfl) ?_
        refine lv_lmul hx hb dX1_fitted_107 ?_
        refine lv_lload hx hb dX1_fitted_108 (lv_at hl 4 rfl) ?_
        refine lv_lload hx hb dX1_fitted_110 (lv_at hl 4 rfl) ?_
        refine lv_lmul hx hb dX1_fitted_112 ?_
        refine lv_lsub hx hb dX1_fitted_113 ?_
        refine lv_lstore (lv' := [(13, .long ((((nI im).toInt64) * x3) - (x1 * x1))), (11, .long x4), (9, .long x3), (7, .long x2), (5, .long x1), (3, .long ((nI im).toInt64)), (0, .ref m9), (1, .int p1), (2, .int p2)]) hx hb dX1_fitted_114 hl (by decide) rfl (fun ls hl => ?_)
        have J143 : ∀ (ls : Array Slot), lv_has ls 17 [(13, .long ((nI im).toInt64 * x3 - x1 * x1)), (11, .long x4), (9, .long x3), (7, .long x2), (5, .long x1), (3, .long ((nI im).toInt64)), (0, .ref m9), (1, .int p1), (2, .int p2)] → W p l e (headSpec wsX1_fitted ({ frames := 1, cells := 0, slots := 0, locals := 31 })).room s m ([.ref m9, .int p1, .int p2] : List Value).toArray below meth c s.heap [] 0 0 (MQ below (va_Ql (fun r (u : Int64 × Int64) => kd4 (0 ≤ p2.toInt ∧ p2.toInt ≤ 1) (2 ≤ im ∧ 0 < ftb D im) (-200 ≤ p1.toInt ∧ p1.toInt ≤ 200) True = 0 → r.toInt = fr (ftu D J im p1.toInt) ((im : Int) * ftb D im) p2.toInt) (fun (u : Int64 × Int64) t => at_w dC dI cI A (wM m9 b1 b2 b3 b4 b5 b6 cI S F D J X Y (kd4 (0 ≤ p2.toInt ∧ p2.toInt ≤ 1) (2 ≤ im ∧ 0 < ftb D im) (-200 ≤ p1.toInt ∧ p1.toInt ≤ 200) True) n ar sl hd hu hw im tc fa u.1 u.2) t) A) ([.ref m9, .int p1, .int p2] : List Value).toArray s 0 0 A) (F0 m 143 ls [.int (bI (2 ≤ im ∧ 0 < ftb D im)), .int (bI (0 ≤ p2.toInt ∧ p2.toInt ≤ 1)), .ref m9]) := by
          intro ls hl
          refine lv_iload_n hx hb dX1_fitted_143 rfl (lv_at hl 7 rfl) ?_
          refine lv_sipush (v := (-200)) hx hb dX1_fitted_144 (by decide) ?_
          refine lv_sipush (v := 200) hx hb dX1_fitted_147 (by decide) ?_
          refine vp_callSi (W.runS (As := [.int p1, .int (-200), .int 200]) (rest := [.int (bI (2 ≤ im ∧ 0 < ftb D im)), .int (bI (0 ≤ p2.toInt ∧ p2.toInt ≤ 1)), .ref m9]) ⟨hx, hb, hml, hown, hts⟩ (c_X1_in l p1 (-200) 200 (-200) 200 (by decide) (by decide)) (va_cwS 3 hts (gS wl_X1_40 ws_X1_in wi_X1 wc_X1_in) rfl rfl rfl (by decide +kernel) ⟨Nat.le_of_ble_eq_true rfl, Nat.le_of_ble_eq_true rfl⟩) ⟨fun _ _ _ _ q => q, fun U hU hW => ⟨rfl, trivial⟩⟩ rfl rfl hl.1 rfl (lv_room (Nat.le_of_ble_eq_true rfl)) dX1_fitted_150 ⟨Nat.le_of_ble_eq_true rfl, Nat.le_of_ble_eq_true rfl⟩) (fun r150 h150 => ?_)
          subst h150
          refine lv_iconst (v := 1) hx hb dX1_fitted_153 (by decide) ?_
          have hFc := va_free (wc := (wM m9 b1 b2 b3 b4 b5 b6 cI S F D J X Y th n ar sl hd hu hw im tc fa up dn)) hD hS hA [0, 1, 2, 3, 4, 5, 6] rfl
          refine va_calli (va_runV (As := [.int (bI (0 ≤ p2.toInt ∧ p2.toInt ≤ 1)), .int (bI (2 ≤ im ∧ 0 < ftb D im)), .int (bI ((-200) ≤ p1.toInt ∧ p1.toInt ≤ 200)), .int 1]) (rest := []) ⟨hx, hb, hml, hown, hts⟩ (c_X1_goes l dC dI s.heap.size m9 b1 b2 b3 b4 b5 b6 cI S F D J X Y th n ar sl hd hu hw im tc fa up dn (0 ≤ p2.toInt ∧ p2.toInt ≤ 1) (2 ≤ im ∧ 0 < ftb D im) ((-200) ≤ p1.toInt ∧ p1.toInt ≤ 200) True) (cwV 4 hts (gV wl_X1_47 wi_X1_goes wv_X1_goes wi_X1 wc_X1_goes) rfl rfl rfl (by decide +kernel) ⟨Nat.le_of_ble_eq_true rfl, Nat.le_of_ble_eq_true rfl⟩) ⟨fun a U g mk q => ⟨q.1, q.2.1, q.2.2.1, va_K.moved (u := U) (U := U.calling g mk a) (Vm.Alike.refl U.vm) q.2.2.2.1, q.2.2.2.2⟩, va_recv hK hP (ci := 1) (q0 := 0) rfl rfl, fun U hU hW => ⟨rfl, by rw [hU], by rw [hU]; exact hP, va_K.moved hW.alike hK, hD.weaken (fun _ _ _ _ => trivial)⟩⟩ rfl rfl hl.1 rfl (lv_room (Nat.le_of_ble_eq_true rfl)) dX1_fitted_154 ⟨Nat.le_of_ble_eq_true rfl, Nat.le_of_ble_eq_true rfl⟩) hS (fun q _ h => hFc q h) hFc (fun r154 u154 t H1 locs ht hvm h154 hB hz1 hk1 hS => ?_)
          obtain ⟨hP1, hK1, hD1⟩ := hB
          rw [ht] at hP1
          obtain ⟨hP, hD⟩ := va_join (wr := []) (w1 := (wM m9 b1 b2 b3 b4 b5 b6 cI S F D J X Y (kd4 (0 ≤ p2.toInt ∧ p2.toInt ≤ 1) (2 ≤ im ∧ 0 < ftb D im) ((-200) ≤ p1.toInt ∧ p1.toInt ≤ 200) True) n ar sl hd hu hw im tc fa up dn)) hP hD [0, 1, 2, 3, 4, 5, 6] [] rfl rfl (by decide) (by decide) hk1 hFc hP1 hD1
          generalize H1 = H at hP hS ⊢
          have hP : va_P (dC, dI) vwCl (wM m9 b1 b2 b3 b4 b5 b6 cI S F D J X Y (kd4 (0 ≤ p2.toInt ∧ p2.toInt ≤ 1) (2 ≤ im ∧ 0 < ftb D im) ((-200) ≤ p1.toInt ∧ p1.toInt ≤ 200) True) n ar sl hd hu hw im tc fa up dn) H := hP
          have hD : va_D A (wM m9 b1 b2 b3 b4 b5 b6 cI S F D J X Y (kd4 (0 ≤ p2.toInt ∧ p2.toInt ≤ 1) (2 ≤ im ∧ 0 < ftb D im) ((-200) ≤ p1.toInt ∧ p1.toInt ≤ 200) True) n ar sl hd hu hw im tc fa up dn) := hD
          subst h154
          refine lv_if_ne (tgt := 162) hx hb dX1_fitted_157 (by decide) (fun c157 => ?_) (fun c157 => ?_)
          · -- taken at 157
            have c157 := bI_ne0.mp c157
            obtain ⟨e1, e2, e3, -⟩ := kd_z c157
            obtain ⟨k1, k2, k3, k4⟩ := fit_u hi8 e2 e3 hs hb9
            refine lv_lload_n hx hb dX1_fitted_162 rfl (lv_at hl 5 rfl) ?_
            refine lv_lload hx hb dX1_fitted_163 (lv_at hl 1 rfl) ?_
            refine lv_lmul hx hb dX1_fitted_165 ?_
            refine lv_lload hx hb dX1_fitted_166 (lv_at hl 4 rfl) ?_
            refine lv_lload hx hb dX1_fitted_168 (lv_at hl 3 rfl) ?_
            refine lv_lmul hx hb dX1_fitted_170 ?_
            refine lv_lsub hx hb dX1_fitted_171 ?_
            refine lv_lstore (lv' := [(15, .long ((((nI im).toInt64) * x4) - (x1 * x2))), (13, .long ((nI im).toInt64 * x3 - x1 * x1)), (11, .long x4), (9, .long x3), (7, .long x2), (5, .long x1), (3, .long ((nI im).toInt64)), (0, .ref m9), (1, .int p1), (2, .int p2)]) hx hb dX1_fitted_172 hl (by decide) rfl (fun ls hl => ?_)
            refine lv_aload_n hx hb dX1_fitted_174 rfl (lv_at hl 7 rfl) ?_
            refine lv_lload hx hb dX1_fitted_175 (lv_at hl 4 rfl) ?_
            refine lv_lload hx hb dX1_fitted_177 (lv_at hl 1 rfl) ?_
            refine lv_lmul hx hb dX1_fitted_179 ?_
            refine lv_lload hx hb dX1_fitted_180 (lv_at hl 0 rfl) ?_
            refine lv_lload hx hb dX1_fitted_182 (lv_at hl 5 rfl) ?_
            refine lv_lmul hx hb dX1_fitted_184 ?_
            refine lv_lsub hx hb dX1_fitted_185 ?_
            refine lv_lload hx hb dX1_fitted_186 (lv_at hl 0 rfl) ?_
            refine lv_iload_n hx hb dX1_fitted_188 rfl (lv_at hl 8 rfl) ?_
            refine lv_i2l hx hb dX1_fitted_189 rfl ?_
            refine lv_lmul hx hb dX1_fitted_190 ?_
            refine lv_lload_n hx hb dX1_fitted_191 rfl (lv_at hl 6 rfl) ?_
            refine lv_lmul hx hb dX1_fitted_192 ?_
            refine lv_ladd hx hb dX1_fitted_193 ?_
            refine lv_lload_n hx hb dX1_fitted_194 rfl (lv_at hl 6 rfl) ?_
            refine lv_lload hx hb dX1_fitted_195 (lv_at hl 1 rfl) ?_
            refine lv_lmul hx hb dX1_fitted_197 ?_
            refine lv_iload_n hx hb dX1_fitted_198 rfl (lv_at hl 9 rfl) ?_
            have hFc := va_free (wc := (wM m9 b1 b2 b3 b4 b5 b6 cI S F D J X Y (kd4 (0 ≤ p2.toInt ∧ p2.toInt ≤ 1) (2 ≤ im ∧ 0 < ftb D im) ((-200) ≤ p1.toInt ∧ p1.toInt ≤ 200) True) n ar sl hd hu hw im tc fa up dn)) hD hS hA [0, 1, 2, 3, 4, 5, 6] rfl
            refine va_calll (va_runV (As := [.long (((x2 * ((nI im).toInt64 * x3 - x1 * x1)) - (((((nI im).toInt64) * x4) - (x1 * x2)) * x1)) + ((((((nI im).toInt64) * x4) - (x1 * x2)) * p1.toInt64) * ((nI im).toInt64))), .long (((nI im).toInt64) * ((nI im).toInt64 * x3 - x1 * x1)), .int p2]) (rest := []) ⟨hx, hb, hml, hown, hts⟩ (c_X1_part l dC dI H.size m9 b1 b2 b3 b4 b5 b6 cI S F D J X Y (kd4 (0 ≤ p2.toInt ∧ p2.toInt ≤ 1) (2 ≤ im ∧ 0 < ftb D im) ((-200) ≤ p1.toInt ∧ p1.toInt ≤ 200) True) n ar sl hd hu hw im tc fa up dn (((x2 * ((nI im).toInt64 * x3 - x1 * x1)) - (((((nI im).toInt64) * x4) - (x1 * x2)) * x1)) + ((((((nI im).toInt64) * x4) - (x1 * x2)) * p1.toInt64) * ((nI im).toInt64))) (((nI im).toInt64) * ((nI im).toInt64 * x3 - x1 * x1)) p2 k3 k4) (cwV 3 hts (gV wl_X1_57 wi_X1_part wv_X1_part wi_X1 wc_X1_part) rfl rfl rfl (by decide +kernel) ⟨Nat.le_of_ble_eq_true rfl, Nat.le_of_ble_eq_true rfl⟩) ⟨fun a U g mk q => ⟨q.1, q.2.1, q.2.2.1, va_K.moved (u := U) (U := U.calling g mk a) (Vm.Alike.refl U.vm) q.2.2.2.1, q.2.2.2.2⟩, va_recv hK hP (ci := 1) (q0 := 0) rfl rfl, fun U hU hW => ⟨rfl, by rw [hU], by rw [hU]; exact hP, va_K.moved hW.alike hK, hD.weaken (fun _ _ _ _ => trivial)⟩⟩ rfl rfl hl.1 rfl (lv_room (Nat.le_of_ble_eq_true rfl)) dX1_fitted_199 ⟨Nat.le_of_ble_eq_true rfl, Nat.le_of_ble_eq_true rfl⟩) hS (fun q _ h => hFc q h) hFc (fun r199 u199 t H1 locs ht hvm h199 hB hz1 hk1 hS => ?_)
            obtain ⟨hP1, hK1, hD1⟩ := hB
            rw [ht] at hP1
            obtain ⟨hP, hD⟩ := va_join (wr := []) (w1 := (wM m9 b1 b2 b3 b4 b5 b6 cI S F D J X Y (kd4 (0 ≤ p2.toInt ∧ p2.toInt ≤ 1) (2 ≤ im ∧ 0 < ftb D im) ((-200) ≤ p1.toInt ∧ p1.toInt ≤ 200) True) n ar sl hd hu hw im tc fa u199.1 u199.2)) hP hD [0, 1, 2, 3, 4, 5, 6] [] rfl rfl (by decide) (by decide) hk1 hFc hP1 hD1
            generalize H1 = H at hP hS ⊢
            have hP : va_P (dC, dI) vwCl (wM m9 b1 b2 b3 b4 b5 b6 cI S F D J X Y (kd4 (0 ≤ p2.toInt ∧ p2.toInt ≤ 1) (2 ≤ im ∧ 0 < ftb D im) ((-200) ≤ p1.toInt ∧ p1.toInt ≤ 200) True) n ar sl hd hu hw im tc fa u199.1 u199.2) H := hP
            have hD : va_D A (wM m9 b1 b2 b3 b4 b5 b6 cI S F D J X Y (kd4 (0 ≤ p2.toInt ∧ p2.toInt ≤ 1) (2 ≤ im ∧ 0 < ftb D im) ((-200) ≤ p1.toInt ∧ p1.toInt ≤ 200) True) n ar sl hd hu hw im tc fa u199.1 u199.2) := hD
            exact W.lret (v := r199) hx hb hr (fun t ht hW => ⟨⟨r199, (u199.1, u199.2), rfl, fun _ => sl_r k1 k2 h199.1, ⟨by rw [ht]; exact hP, va_K.moved hW.alike hK, hD⟩⟩, hS.F ht⟩) hS.2.2 dX1_fitted_202
          · -- not taken at 157
            have c157 := bI_eq0.mp c157
            refine lv_lconst (v := 0) hx hb dX1_fitted_160 (by decide) ?_
            exact W.lret (v := 0) hx hb hr (fun t ht hW => ⟨⟨0, (up, dn), rfl, fun q => absurd q c157, ⟨by rw [ht]; exact hP, va_K.moved hW.alike hK, hD⟩⟩, hS.F ht⟩) hS.2.2 dX1_fitted_161
        refine lv_aload_n hx hb dX1_fitted_116 rfl (lv_at hl 6 rfl) ?_
        refine lv_iload_n hx hb dX1_fitted_117 rfl (lv_at hl 8 rfl) ?_
        refine lv_iconst (v := 0) hx hb dX1_fitted_118 (by decide) ?_
        refine lv_iconst (v := 1) hx hb dX1_fitted_119 (by decide) ?_
        refine vp_callSi (W.runS (As := [.int p2, .int 0, .int 1]) (rest := [.ref m9]) ⟨hx, hb, hml, hown, hts⟩ (c_X1_in l p2 0 1 0 1 (by decide) (by decide)) (va_cwS 3 hts (gS wl_X1_40 ws_X1_in wi_X1 wc_X1_in) rfl rfl rfl (by decide +kernel) ⟨Nat.le_of_ble_eq_true rfl, Nat.le_of_ble_eq_true rfl⟩) ⟨fun _ _ _ _ q => q, fun U hU hW => ⟨rfl, trivial⟩⟩ rfl rfl hl.1 rfl (lv_room (Nat.le_of_ble_eq_true rfl)) dX1_fitted_120 ⟨Nat.le_of_ble_eq_true rfl, Nat.le_of_ble_eq_true rfl⟩) (fun r120 h120 => ?_)
        subst h120
        refine lv_lload_n hx hb dX1_fitted_123 rfl (lv_at hl 5 rfl) ?_
        refine lv_ldc2 (v := 2) hx hb hown k84 dX1_fitted_124 ?_
        refine W.lcmp hx hb dX1_fitted_127 ?_
        refine lv_if_lt (tgt := 142) hx hb dX1_fitted_128 (by decide) (fun c128 => ?_) (fun c128 => ?_)
        · -- taken at 128
          have c128 := (lg_cmp_lt _ _).mp c128
          have c128 : ((nI im).toInt64).toInt < 2 := (Int64.lt_iff_toInt_lt).mp c128
          refine lv_iconst (v := 0) hx hb dX1_fitted_142 (by decide) ?_
          refine W.eq (congrArg (fun z => F0 m 143 ls (.int z :: [.int (bI (0 ≤ p2.toInt ∧ p2.toInt ≤ 1)), .ref m9])) ((bI_0 (c := 2 ≤ im ∧ 0 < ftb D im) (by omega)).symm)) ?_
          exact J143 ls (lv_sub hl [0, 1, 2, 3, 4, 5, 6, 7, 8] rfl)
        · -- not taken at 128
          have c128 := fun q9 => c128 ((lg_cmp_lt _ _).mpr q9)
          have c128 : ¬ ((nI im).toInt64).toInt < 2 := fun q9 => c128 ((Int64.lt_iff_toInt_lt).mpr q9)
          refine lv_lload hx hb dX1_fitted_131 (lv_at hl 0 rfl) ?_
          refine lv_lconst (v := 0) hx hb dX1_fitted_133 (by decide) ?_
          refine W.lcmp hx hb dX1_fitted_134 ?_
          refine lv_if_le (tgt := 142) hx hb dX1_fitted_135 (by decide) (fun c135 => ?_) (fun c135 => ?_)
          · -- taken at 135
            have c135 := (lg_cmp_le _ _).mp c135
            have c135 : ((((nI im).toInt64) * x3) - (x1 * x1)).toInt ≤ 0 := (Int64.le_iff_toInt_le).mp c135
            refine lv_iconst (v := 0) hx hb dX1_fitted_142 (by decide) ?_
            refine W.eq (congrArg (fun z => F0 m 143 ls (.int z :: [.int (bI (0 ≤ p2.toInt ∧ p2.toInt ≤ 1)), .ref m9])) ((bI_0 (c := 2 ≤ im ∧ 0 < ftb D im) (by omega)).symm)) ?_
            exact J143 ls (lv_sub hl [0, 1, 2, 3, 4, 5, 6, 7, 8] rfl)
          · -- not taken at 135
            have c135 := fun q9 => c135 ((lg_cmp_le _ _).mpr q9)
            have c135 : ¬ ((((nI im).toInt64) * x3) - (x1 * x1)).toInt ≤ 0 := fun q9 => c135 ((Int64.le_iff_toInt_le).mpr q9)
            refine lv_iconst (v := 1) hx hb dX1_fitted_138 (by decide) ?_
            refine lv_goto (tgt := 143) hx hb dX1_fitted_139 (by decide) ?_
            refine W.eq (congrArg (fun z => F0 m 143 ls (.int z :: [.int (bI (0 ≤ p2.toInt ∧ p2.toInt ≤ 1)), .ref m9])) ((bI_1 (c := 2 ≤ im ∧ 0 < ftb D im) (by omega)).symm)) ?_
            exact J143 ls (lv_sub hl [0, 1, 2, 3, 4, 5, 6, 7, 8] rfl)
      · -- not taken at 27
        have c27 : ¬ im ≤ k := fun q9 => c27 ((nI_leI (a := im) (b := k) (by omega) (by omega)).mpr q9)
        have hb9 := fts_b (fun j hj => hDb j (by omega)) (fun j hj => hJb j (by omega)) (show k ≤ 8 by omega)
        refine lv_lload hx hb dX1_fitted_30 (lv_at hl 4 rfl) ?_
        refine lv_aload_n hx hb dX1_fitted_32 rfl (lv_at hl 6 rfl) ?_
        refine va_get (D := (dC, dI)) (ci := 1) (v := .ref b3) (C := RX1) (T := TX1) (N := 18) hx hb hts hinX1 hown hK hP 0 rfl rfl 10 (by decide) f16 (fun _ h9 => h9) rfl dX1_fitted_33 ?_
        refine lv_iload hx hb dX1_fitted_36 (lv_at hl 0 rfl) ?_
        refine va_iald (D := (dC, dI)) hx hb hK hP 3 0 rfl rfl (vp_in_nI (show k < 8 by omega) (by decide)) dX1_fitted_38 ?_
        refine W.eq (congrArg (fun z => F0 m 39 ls (.int z :: [.long x1])) (congrArg D (nI_clamp (show k < 2 ^ 31 by omega)))) ?_
        refine lv_i2l hx hb dX1_fitted_39 rfl ?_
        refine lv_ladd hx hb dX1_fitted_40 ?_
        refine lv_lstore (lv' := [(5, .long (x1 + ((D k).toInt64))), (13, .int (nI k)), (11, .long x4), (9, .long x3), (7, .long x2), (3, .long ((nI im).toInt64)), (0, .ref m9), (1, .int p1), (2, .int p2)]) hx hb dX1_fitted_41 hl (by decide) rfl (fun ls hl => ?_)
        refine lv_lload hx hb dX1_fitted_43 (lv_at hl 4 rfl) ?_
        refine lv_aload_n hx hb dX1_fitted_45 rfl (lv_at hl 6 rfl) ?_
        refine va_get (D := (dC, dI)) (ci := 1) (v := .ref b4) (C := RX1) (T := TX1) (N := 18) hx hb hts hinX1 hown hK hP 0 rfl rfl 11 (by decide) f19 (fun _ h9 => h9) rfl dX1_fitted_46 ?_
        refine lv_iload hx hb dX1_fitted_49 (lv_at hl 1 rfl) ?_
        refine va_iald (D := (dC, dI)) hx hb hK hP 4 0 rfl rfl (vp_in_nI (show k < 8 by omega) (by decide)) dX1_fitted_51 ?_
        refine W.eq (congrArg (fun z => F0 m 52 ls (.int z :: [.long x2])) (congrArg J (nI_clamp (show k < 2 ^ 31 by omega)))) ?_
        refine lv_i2l hx hb dX1_fitted_52 rfl ?_
        refine lv_ladd hx hb dX1_fitted_53 ?_
        refine lv_lstore (lv' := [(7, .long (x2 + ((J k).toInt64))), (5, .long (x1 + ((D k).toInt64))), (13, .int (nI k)), (11, .long x4), (9, .long x3), (3, .long ((nI im).toInt64)), (0, .ref m9), (1, .int p1), (2, .int p2)]) hx hb dX1_fitted_54 hl (by decide) rfl (fun ls hl => ?_)
        refine lv_lload hx hb dX1_fitted_56 (lv_at hl 4 rfl) ?_
        refine lv_aload_n hx hb dX1_fitted_58 rfl (lv_at hl 6 rfl) ?_
        refine va_get (D := (dC, dI)) (ci := 1) (v := .ref b3) (C := RX1) (T := TX1) (N := 18) hx hb hts hinX1 hown hK hP 0 rfl rfl 10 (by decide) f16 (fun _ h9 => h9) rfl dX1_fitted_59 ?_
        refine lv_iload hx hb dX1_fitted_62 (lv_at hl 2 rfl) ?_
        refine va_iald (D := (dC, dI)) hx hb hK hP 3 0 rfl rfl (vp_in_nI (show k < 8 by omega) (by decide)) dX1_fitted_64 ?_
        refine W.eq (congrArg (fun z => F0 m 65 ls (.int z :: [.long x3])) (congrArg D (nI_clamp (show k < 2 ^ 31 by omega)))) ?_
        refine lv_aload_n hx hb dX1_fitted_65 rfl (lv_at hl 6 rfl) ?_
        refine va_get (D := (dC, dI)) (ci := 1) (v := .ref b3) (C := RX1) (T := TX1) (N := 18) hx hb hts hinX1 hown hK hP 0 rfl rfl 10 (by decide) f16 (fun _ h9 => h9) rfl dX1_fitted_66 ?_
        refine lv_iload hx hb dX1_fitted_69 (lv_at hl 2 rfl) ?_
        refine va_iald (D := (dC, dI)) hx hb hK hP 3 0 rfl rfl (vp_in_nI (show k < 8 by omega) (by decide)) dX1_fitted_71 ?_
        refine W.eq (congrArg (fun z => F0 m 72 ls (.int z :: [.int (D k), .long x3])) (congrArg D (nI_clamp (show k < 2 ^ 31 by omega)))) ?_
        refine lv_imul hx hb dX1_fitted_72 ?_
        refine lv_i2l hx hb dX1_fitted_73 rfl ?_
        refine lv_ladd hx hb dX1_fitted_74 ?_
        refine lv_lstore (lv' := [(9, .long (x3 + (((D k) * (D k)).toInt64))), (7, .long (x2 + ((J k).toInt64))), (5, .long (x1 + ((D k).toInt64))), (13, .int (nI k)), (11, .long x4), (3, .long ((nI im).toInt64)), (0, .ref m9), (1, .int p1), (2, .int p2)]) hx hb dX1_fitted_75 hl (by decide) rfl (fun ls hl => ?_)
        refine lv_lload hx hb dX1_fitted_77 (lv_at hl 4 rfl) ?_
        refine lv_aload_n hx hb dX1_fitted_79 rfl (lv_at hl 6 rfl) ?_
        refine va_get (D := (dC, dI)) (ci := 1) (v := .ref b3) (C := RX1) (T := TX1) (N := 18) hx hb hts hinX1 hown hK hP 0 rfl rfl 10 (by decide) f16 (fun _ h9 => h9) rfl dX1_fitted_80 ?_
        refine lv_iload hx hb dX1_fitted_83 (lv_at hl 3 rfl) ?_
        refine va_iald (D := (dC, dI)) hx hb hK hP 3 0 rfl rfl (vp_in_nI (show k < 8 by omega) (by decide)) dX1_fitted_85 ?_
        refine W.eq (congrArg (fun z => F0 m 86 ls (.int z :: [.long x4])) (congrArg D (nI_clamp (show k < 2 ^ 31 by omega)))) ?_
        refine lv_aload_n hx hb dX1_fitted_86 rfl (lv_at hl 6 rfl) ?_
        refine va_get (D := (dC, dI)) (ci := 1) (v := .ref b4) (C := RX1) (T := TX1) (N := 18) hx hb hts hinX1 hown hK hP 0 rfl rfl 11 (by decide) f19 (fun _ h9 => h9) rfl dX1_fitted_87 ?_
        refine lv_iload hx hb dX1_fitted_90 (lv_at hl 3 rfl) ?_
        refine va_iald (D := (dC, dI)) hx hb hK hP 4 0 rfl rfl (vp_in_nI (show k < 8 by omega) (by decide)) dX1_fitted_92 ?_
        refine W.eq (congrArg (fun z => F0 m 93 ls (.int z :: [.int (D k), .long x4])) (congrArg J (nI_clamp (show k < 2 ^ 31 by omega)))) ?_
        refine lv_imul hx hb dX1_fitted_93 ?_
        refine lv_i2l hx hb dX1_fitted_94 rfl ?_
        refine lv_ladd hx hb dX1_fitted_95 ?_
        refine lv_lstore (lv' := [(11, .long (x4 + (((D k) * (J k)).toInt64))), (9, .long (x3 + (((D k) * (D k)).toInt64))), (7, .long (x2 + ((J k).toInt64))), (5, .long (x1 + ((D k).toInt64))), (13, .int (nI k)), (3, .long ((nI im).toInt64)), (0, .ref m9), (1, .int p1), (2, .int p2)]) hx hb dX1_fitted_96 hl (by decide) rfl (fun ls hl => ?_)
        refine lv_iinc (v := nI (k + 1)) (lv' := [(13, .int (nI (k + 1))), (11, .long (x4 + (((D k) * (J k)).toInt64))), (9, .long (x3 + (((D k) * (D k)).toInt64))), (7, .long (x2 + ((J k).toInt64))), (5, .long (x1 + ((D k).toInt64))), (3, .long ((nI im).toInt64)), (0, .ref m9), (1, .int p1), (2, .int p2)]) hx hb dX1_fitted_98 hl (k := 4) rfl ((nI_succ _).symm) (by decide) rfl (fun ls hl => ?_)
        refine lv_goto (tgt := 21) hx hb dX1_fitted_101 (by decide) ?_
        exact ih (k + 1) (x1 + ((D k).toInt64)) (x2 + ((J k).toInt64)) (x3 + (((D k) * (D k)).toInt64)) (x4 + (((D k) * (J k)).toInt64)) ls (by omega) (by omega) (fts_s hs (by omega) (hDb k (by omega)) (hJb k (by omega)) hb9) (lv_sub hl [0, 1, 2, 3, 4, 5, 6, 7, 8] rfl)
  refine lv_aload_n hx hb dX1_fitted_0 rfl (lv_at hl 0 rfl) ?_
  refine va_get (D := (dC, dI)) (ci := 1) (v := .int (nI im)) (C := RX1) (T := TX1) (N := 18) hx hb hts hinX1 hown hK hP 0 rfl rfl 9 (by decide) f81 (fun _ h9 => h9) rfl dX1_fitted_1 ?_
  refine lv_i2l hx hb dX1_fitted_4 rfl ?_
  refine lv_lstore_n (lv' := [(3, .long ((nI im).toInt64)), (0, .ref m9), (1, .int p1), (2, .int p2)]) hx hb dX1_fitted_5 rfl hl (by decide) rfl (fun ls hl => ?_)
  refine lv_lconst (v := 0) hx hb dX1_fitted_6 (by decide) ?_
  refine lv_lstore (lv' := [(5, .long 0), (3, .long ((nI im).toInt64)), (0, .ref m9), (1, .int p1), (2, .int p2)]) hx hb dX1_fitted_7 hl (by decide) rfl (fun ls hl => ?_)
  refine lv_lconst (v := 0) hx hb dX1_fitted_9 (by decide) ?_
  refine lv_lstore (lv' := [(7, .long 0), (5, .long 0), (3, .long ((nI im).toInt64)), (0, .ref m9), (1, .int p1), (2, .int p2)]) hx hb dX1_fitted_10 hl (by decide) rfl (fun ls hl => ?_)
  refine lv_lconst (v := 0) hx hb dX1_fitted_12 (by decide) ?_
  refine lv_lstore (lv' := [(9, .long 0), (7, .long 0), (5, .long 0), (3, .long ((nI im).toInt64)), (0, .ref m9), (1, .int p1), (2, .int p2)]) hx hb dX1_fitted_13 hl (by decide) rfl (fun ls hl => ?_)
  refine lv_lconst (v := 0) hx hb dX1_fitted_15 (by decide) ?_
  refine lv_lstore (lv' := [(11, .long 0), (9, .long 0), (7, .long 0), (5, .long 0), (3, .long ((nI im).toInt64)), (0, .ref m9), (1, .int p1), (2, .int p2)]) hx hb dX1_fitted_16 hl (by decide) rfl (fun ls hl => ?_)
  refine lv_iconst (v := 0) hx hb dX1_fitted_18 (by decide) ?_
  refine lv_istore (lv' := [(13, .int 0), (11, .long 0), (9, .long 0), (7, .long 0), (5, .long 0), (3, .long ((nI im).toInt64)), (0, .ref m9), (1, .int p1), (2, .int p2)]) hx hb dX1_fitted_19 hl (by decide) rfl (fun ls hl => ?_)
  exact L21 (im + 1) 0 0 0 0 0 ls (by omega) (Nat.zero_le _) fts_0 (lv_sub hl [0, 1, 2, 3, 4, 5, 6, 7, 8] rfl)
end
