section
-- ===== PART A: goes FIRST, ahead of the names: the tables' words, and 'selects' of the private methods out of them =====
/-- a private method of a class that the tables say can be made, by its rows of tables_1 -/
def lw_okq (q : MethodName × Nat) : Prop := (q.1.cls ≠ "java/lang/invoke/MethodHandle" ∧ q.1.cls ≠ "java/lang/invoke/VarHandle") ∧ Cond.instantiable q.1.cls q.2 ∈ tables_1 ∧ Cond.privateMethod q.1 ∈ tables_1 ∧ Cond.instanceMethod q.1 ∈ tables_1
theorem lw_p0 : lw_okq (⟨"CookieListener$SipHash", "absorb", "(J)V"⟩, 6) := ⟨⟨by decide +kernel, by decide +kernel⟩, List.mem_of_getElem? (i := 19) (by decide +kernel), List.mem_of_getElem? (i := 164) (by decide +kernel), List.mem_of_getElem? (i := 165) (by decide +kernel)⟩
theorem lw_p1 : lw_okq (⟨"CookieListener$SipHash", "mix", "(I)V"⟩, 6) := ⟨⟨by decide +kernel, by decide +kernel⟩, List.mem_of_getElem? (i := 19) (by decide +kernel), List.mem_of_getElem? (i := 168) (by decide +kernel), List.mem_of_getElem? (i := 169) (by decide +kernel)⟩
theorem lw_p2 : lw_okq (⟨"java/lang/Throwable", "fillInStackTrace", "(I)Ljava/lang/Throwable;"⟩, 6) := ⟨⟨by decide +kernel, by decide +kernel⟩, List.mem_of_getElem? (i := 224) (by decide +kernel), List.mem_of_getElem? (i := 222) (by decide +kernel), List.mem_of_getElem? (i := 223) (by decide +kernel)⟩
theorem lw_p3 : lw_okq (⟨"CookieListener", "answerNewSyn", "(JII)I"⟩, 11) := ⟨⟨by decide +kernel, by decide +kernel⟩, List.mem_of_getElem? (i := 11) (by decide +kernel), List.mem_of_getElem? (i := 298) (by decide +kernel), List.mem_of_getElem? (i := 299) (by decide +kernel)⟩
theorem lw_p4 : lw_okq (⟨"CookieListener", "slotNow", "()I"⟩, 11) := ⟨⟨by decide +kernel, by decide +kernel⟩, List.mem_of_getElem? (i := 11) (by decide +kernel), List.mem_of_getElem? (i := 302) (by decide +kernel), List.mem_of_getElem? (i := 303) (by decide +kernel)⟩
theorem lw_p5 : lw_okq (⟨"CookieListener", "cookieOf", "(JIII)I"⟩, 11) := ⟨⟨by decide +kernel, by decide +kernel⟩, List.mem_of_getElem? (i := 11) (by decide +kernel), List.mem_of_getElem? (i := 306) (by decide +kernel), List.mem_of_getElem? (i := 307) (by decide +kernel)⟩
theorem lw_p6 : lw_okq (⟨"CookieListener", "ackOfHalf", "(III)I"⟩, 11) := ⟨⟨by decide +kernel, by decide +kernel⟩, List.mem_of_getElem? (i := 11) (by decide +kernel), List.mem_of_getElem? (i := 324) (by decide +kernel), List.mem_of_getElem? (i := 325) (by decide +kernel)⟩
theorem lw_p7 : lw_okq (⟨"CookieListener", "ackWithoutHalf", "(JII)I"⟩, 11) := ⟨⟨by decide +kernel, by decide +kernel⟩, List.mem_of_getElem? (i := 11) (by decide +kernel), List.mem_of_getElem? (i := 340) (by decide +kernel), List.mem_of_getElem? (i := 341) (by decide +kernel)⟩
theorem lw_p8 : lw_okq (⟨"CookieListener", "cookiesGivenLately", "()Z"⟩, 11) := ⟨⟨by decide +kernel, by decide +kernel⟩, List.mem_of_getElem? (i := 11) (by decide +kernel), List.mem_of_getElem? (i := 344) (by decide +kernel), List.mem_of_getElem? (i := 345) (by decide +kernel)⟩
theorem lw_p9 : lw_okq (⟨"CookieListener", "isCookieOfLateSlot", "(IJII)Z"⟩, 11) := ⟨⟨by decide +kernel, by decide +kernel⟩, List.mem_of_getElem? (i := 11) (by decide +kernel), List.mem_of_getElem? (i := 348) (by decide +kernel), List.mem_of_getElem? (i := 349) (by decide +kernel)⟩
theorem lw_p10 : lw_okq (⟨"CookieListener", "stateOf", "(J)I"⟩, 11) := ⟨⟨by decide +kernel, by decide +kernel⟩, List.mem_of_getElem? (i := 11) (by decide +kernel), List.mem_of_getElem? (i := 359) (by decide +kernel), List.mem_of_getElem? (i := 360) (by decide +kernel)⟩
theorem lw_p11 : lw_okq (⟨"CookieListenerModel", "hashOf", "(JJ)J"⟩, 24) := ⟨⟨by decide +kernel, by decide +kernel⟩, List.mem_of_getElem? (i := 396) (by decide +kernel), List.mem_of_getElem? (i := 492) (by decide +kernel), List.mem_of_getElem? (i := 493) (by decide +kernel)⟩
theorem lw_p12 : lw_okq (⟨"CookieListenerModel", "take", "(J)V"⟩, 24) := ⟨⟨by decide +kernel, by decide +kernel⟩, List.mem_of_getElem? (i := 396) (by decide +kernel), List.mem_of_getElem? (i := 500) (by decide +kernel), List.mem_of_getElem? (i := 501) (by decide +kernel)⟩
theorem lw_p13 : lw_okq (⟨"CookieListenerModel", "round", "()V"⟩, 24) := ⟨⟨by decide +kernel, by decide +kernel⟩, List.mem_of_getElem? (i := 396) (by decide +kernel), List.mem_of_getElem? (i := 504) (by decide +kernel), List.mem_of_getElem? (i := 505) (by decide +kernel)⟩
theorem lw_p14 : lw_okq (⟨"CookieListenerModel", "cookieOf", "(IIIII)I"⟩, 24) := ⟨⟨by decide +kernel, by decide +kernel⟩, List.mem_of_getElem? (i := 396) (by decide +kernel), List.mem_of_getElem? (i := 521) (by decide +kernel), List.mem_of_getElem? (i := 522) (by decide +kernel)⟩
theorem lw_p15 : lw_okq (⟨"CookieListenerModel", "dropHalf", "(I)V"⟩, 24) := ⟨⟨by decide +kernel, by decide +kernel⟩, List.mem_of_getElem? (i := 396) (by decide +kernel), List.mem_of_getElem? (i := 533) (by decide +kernel), List.mem_of_getElem? (i := 534) (by decide +kernel)⟩
def lw_privs_1 : List (MethodName × Nat) := [(⟨"CookieListener$SipHash", "absorb", "(J)V"⟩, 6), (⟨"CookieListener$SipHash", "mix", "(I)V"⟩, 6), (⟨"java/lang/Throwable", "fillInStackTrace", "(I)Ljava/lang/Throwable;"⟩, 6), (⟨"CookieListener", "answerNewSyn", "(JII)I"⟩, 11), (⟨"CookieListener", "slotNow", "()I"⟩, 11), (⟨"CookieListener", "cookieOf", "(JIII)I"⟩, 11), (⟨"CookieListener", "ackOfHalf", "(III)I"⟩, 11), (⟨"CookieListener", "ackWithoutHalf", "(JII)I"⟩, 11), (⟨"CookieListener", "cookiesGivenLately", "()Z"⟩, 11), (⟨"CookieListener", "isCookieOfLateSlot", "(IJII)Z"⟩, 11), (⟨"CookieListener", "stateOf", "(J)I"⟩, 11), (⟨"CookieListenerModel", "hashOf", "(JJ)J"⟩, 24), (⟨"CookieListenerModel", "take", "(J)V"⟩, 24), (⟨"CookieListenerModel", "round", "()V"⟩, 24), (⟨"CookieListenerModel", "cookieOf", "(IIIII)I"⟩, 24), (⟨"CookieListenerModel", "dropHalf", "(I)V"⟩, 24)]
theorem lw_r1 : ∀ q ∈ lw_privs_1, lw_okq q := List.forall_mem_cons.mpr ⟨lw_p0, List.forall_mem_cons.mpr ⟨lw_p1, List.forall_mem_cons.mpr ⟨lw_p2, List.forall_mem_cons.mpr ⟨lw_p3, List.forall_mem_cons.mpr ⟨lw_p4, List.forall_mem_cons.mpr ⟨lw_p5, List.forall_mem_cons.mpr ⟨lw_p6, List.forall_mem_cons.mpr ⟨lw_p7, List.forall_mem_cons.mpr ⟨lw_p8, List.forall_mem_cons.mpr ⟨lw_p9, List.forall_mem_cons.mpr ⟨lw_p10, List.forall_mem_cons.mpr ⟨lw_p11, List.forall_mem_cons.mpr ⟨lw_p12, List.forall_mem_cons.mpr ⟨lw_p13, List.forall_mem_cons.mpr ⟨lw_p14, List.forall_mem_cons.mpr ⟨lw_p15, fun _ h => absurd h List.not_mem_nil⟩⟩⟩⟩⟩⟩⟩⟩⟩⟩⟩⟩⟩⟩⟩⟩
theorem lw_p16 : lw_okq (⟨"CookieListenerModel", "opened", "(II)I"⟩, 24) := ⟨⟨by decide +kernel, by decide +kernel⟩, List.mem_of_getElem? (i := 396) (by decide +kernel), List.mem_of_getElem? (i := 541) (by decide +kernel), List.mem_of_getElem? (i := 542) (by decide +kernel)⟩
theorem lw_p17 : lw_okq (⟨"CookieListenerModel", "half", "(II)I"⟩, 24) := ⟨⟨by decide +kernel, by decide +kernel⟩, List.mem_of_getElem? (i := 396) (by decide +kernel), List.mem_of_getElem? (i := 546) (by decide +kernel), List.mem_of_getElem? (i := 547) (by decide +kernel)⟩
theorem lw_p18 : lw_okq (⟨"CookieListenerModel", "hasRoom", "()Z"⟩, 24) := ⟨⟨by decide +kernel, by decide +kernel⟩, List.mem_of_getElem? (i := 396) (by decide +kernel), List.mem_of_getElem? (i := 558) (by decide +kernel), List.mem_of_getElem? (i := 559) (by decide +kernel)⟩
theorem lw_p19 : lw_okq (⟨"CookieListenerModel", "waiting", "()I"⟩, 24) := ⟨⟨by decide +kernel, by decide +kernel⟩, List.mem_of_getElem? (i := 396) (by decide +kernel), List.mem_of_getElem? (i := 562) (by decide +kernel), List.mem_of_getElem? (i := 563) (by decide +kernel)⟩
theorem lw_p20 : lw_okq (⟨"CookieListenerModel", "come", "(III)V"⟩, 24) := ⟨⟨by decide +kernel, by decide +kernel⟩, List.mem_of_getElem? (i := 396) (by decide +kernel), List.mem_of_getElem? (i := 566) (by decide +kernel), List.mem_of_getElem? (i := 567) (by decide +kernel)⟩
theorem lw_p21 : lw_okq (⟨"CookieListenerModel", "stateOf", "(II)I"⟩, 24) := ⟨⟨by decide +kernel, by decide +kernel⟩, List.mem_of_getElem? (i := 396) (by decide +kernel), List.mem_of_getElem? (i := 579) (by decide +kernel), List.mem_of_getElem? (i := 580) (by decide +kernel)⟩
theorem lw_p22 : lw_okq (⟨"CookieListenerModel", "dropOpen", "(I)V"⟩, 24) := ⟨⟨by decide +kernel, by decide +kernel⟩, List.mem_of_getElem? (i := 396) (by decide +kernel), List.mem_of_getElem? (i := 583) (by decide +kernel), List.mem_of_getElem? (i := 584) (by decide +kernel)⟩
def lw_privs_2 : List (MethodName × Nat) := [(⟨"CookieListenerModel", "opened", "(II)I"⟩, 24), (⟨"CookieListenerModel", "half", "(II)I"⟩, 24), (⟨"CookieListenerModel", "hasRoom", "()Z"⟩, 24), (⟨"CookieListenerModel", "waiting", "()I"⟩, 24), (⟨"CookieListenerModel", "come", "(III)V"⟩, 24), (⟨"CookieListenerModel", "stateOf", "(II)I"⟩, 24), (⟨"CookieListenerModel", "dropOpen", "(I)V"⟩, 24)]
theorem lw_r2 : ∀ q ∈ lw_privs_2, lw_okq q := List.forall_mem_cons.mpr ⟨lw_p16, List.forall_mem_cons.mpr ⟨lw_p17, List.forall_mem_cons.mpr ⟨lw_p18, List.forall_mem_cons.mpr ⟨lw_p19, List.forall_mem_cons.mpr ⟨lw_p20, List.forall_mem_cons.mpr ⟨lw_p21, List.forall_mem_cons.mpr ⟨lw_p22, fun _ h => absurd h List.not_mem_nil⟩⟩⟩⟩⟩⟩⟩
def lw_privs : List (MethodName × Nat) := lw_privs_1 ++ (lw_privs_2)
def lw_tbl : List Cond := k2_sels lw_privs ++ tables_1
theorem lw_privs_ok : ∀ q ∈ lw_privs, lw_okq q := by
  show ∀ q ∈ lw_privs_1 ++ (lw_privs_2), lw_okq q
  exact List.forall_mem_append.mpr ⟨lw_r1, lw_r2⟩
end
section
/-! ===== BEGIN words of one list among another's, by their places ===== -/
theorem goodIn_r {big : List Cond} (ws : List Cond) (ps : List Nat) (hp : ws = ps.filterMap (fun i => big[i]?)) (h : ws.all goodWord = true) : GoodIn big ws := by
  intro w hw
  have h1 := List.all_eq_true.mp h w hw
  rw [hp] at hw
  obtain ⟨i, -, hi⟩ := List.mem_filterMap.mp hw
  have hm : w ∈ big := by first | exact List.mem_of_getElem? hi | exact List.getElem?_mem hi
  exact ⟨hm, good_of_word h1⟩
theorem goodIn_app {big a b : List Cond} (ha : GoodIn big a) (hb : GoodIn big b) : GoodIn big (a ++ b) := fun w h => (List.mem_append.mp h).elim (ha w) (hb w)
theorem goodIn_ca {big a b : List Cond} {c : Cond} (ha : GoodIn big (c :: a)) (hb : GoodIn big b) : GoodIn big (c :: (a ++ b)) := fun w h => (List.mem_cons.mp h).elim (fun e => ha w (List.mem_cons.mpr (Or.inl e))) (fun h => (List.mem_append.mp h).elim (fun h => ha w (List.mem_cons.mpr (Or.inr h))) (hb w))
theorem goodIn_sub {big ws : List Cond} (hm : ∀ w ∈ ws, w ∈ big) (h : ws.all goodWord = true) : GoodIn big ws := fun w hw => ⟨hm w hw, good_of_word (List.all_eq_true.mp h w hw)⟩
/-! ===== END ===== -/

/-! ===== BEGIN exceptions that leave a method, and their catching by the caller (launches without stack traces) ===== -/
section VXA
/-! The laws vx_back, vx_callV, vx_callS, vx_callSW, vx_throw0, vx_throwS follow proofs of the library, with one case more: JvmDerived/Free/Laws.lean (Back.of_free), Shelf42/LK1.lean (callV, callS), Shelf/KitTraced.lean (throwNew0V, throwNewS). -/
/-- where a method has thrown q: the class by its name, the cell, what was written, the world -/
def vx_T (XC : String → State → State → Prop) (st : State) (q : Addr) (t : State) (mc ms : Nat) (free : Addr → Prop) : Prop :=
  ∃ (E : String) (ce : Cell) (L : List Loc), XC E st t ∧ t.heap[q]? = some ce ∧ ce.vm = .none ∧ st.vm.findClass E = some ce.cls ∧ st.WarmedH t.vm ∧ st.sameButNew ({ t with vm := st.vm } : State) L mc ms ∧ ∀ z ∈ L, free z.base
def vx_Q (Qc : Array Value → State → Outcome → State → Prop) (XC : String → State → State → Prop) (mc ms : Nat) (free : Addr → Prop) : Array Value → State → Outcome → State → Prop := fun a st o t =>
  (Qc a st o t ∧ ∃ L, FrameEnd st o t L mc ms ∧ ∀ q ∈ L, free q.base) ∨ ∃ q, o = .threw q ∧ vx_T XC st q t mc ms free
/-- a callee that returns or throws -/
def vx_Met (l : Launch) (y : MethodName) (ws : List Cond) (rm : Room) (Pc : Array Value → State → Prop) (Qc : Array Value → State → Outcome → State → Prop) (XC : String → State → State → Prop) (mc ms : Nat) (free : Addr → Prop) : Prop :=
  MetFree l y (headSpec ws rm) Pc (fun _ _ _ _ _ => True) (vx_Q Qc XC mc ms free)
def vx_Post (XC : String → State → State → Prop) (mc ms : Nat) (free : Addr → Prop) : Pt → Array Value → Addr → Pt → Prop := fun A a q B =>
  ∃ (g : JFrame) (mk : MethodId) (t : State) (L : List Loc) (E : String) (ce : Cell), B.U.heap = t.heap ∧ B.U.vm = t.vm ∧ XC E (A.U.calling g mk a) t ∧ t.heap[q]? = some ce ∧ ce.vm = .none ∧ A.U.vm.findClass E = some ce.cls ∧ B.locs = A.locs ++ L ∧ (∀ z ∈ L, free z.base) ∧ B.cells = A.cells + mc ∧ B.slots = A.slots + ms
def vx_Back (l : Launch) (R : Room) (p : Program) (e : Env) (below : List Frame) (s : State) (sargs : Array Value) (y : MethodName) (len W9 : Nat)
    (Pre : Pt → Array Value → Prop) (Post : Pt → Array Value → Option Value → Pt → Prop) (PostX : Pt → Array Value → Addr → Pt → Prop) : Prop :=
  ∀ (m : MethodId) (meth : Method) (c : Code) (A : Pt) (g : JFrame) (ig : Instr) (mk : MethodId) (a : Array Value),
    Stand p l e R s m sargs below meth c A.U A.locs A.cells A.slots → g.method = m → g.locals.size = c.maxLocals → decode c.code g.pc = .ok (ig, len) →
    2 * g.monitorRoom + (g.stack.map fun v => v.category).sum ≤ W9 → A.U.methodNamed? y = some mk → Pre A a →
    (∃ (v : Option Value) (B : Pt), Stand p l e R s m sargs below meth c B.U B.locs B.cells B.slots ∧ Post A a v B ∧
      Steps p.tables e below (doInvoke e (A.U.setTop g) [] mk a).1 (B.U.setTop { g with pc := g.pc + len, stack := v.toList ++ g.stack })) ∨
    (∃ (q : Addr) (B : Pt), Stand p l e R s m sargs below meth c B.U B.locs B.cells B.slots ∧ PostX A a q B ∧
      Steps p.tables e below (doInvoke e (A.U.setTop g) [] mk a).1 ((B.U.setTop g).pushFrame (.throwing q)))
section Payer
variable {l : Launch} {R : Room} {p : Program} {e : Env} {below : List Frame} {s : State} {sargs : Array Value} {y : MethodName} {len W9 : Nat}
theorem vx_back {ws : List Cond} {rm : Room} {Pc : Array Value → State → Prop} {Qc : Array Value → State → Outcome → State → Prop} {XC : String → State → State → Prop} {mc ms : Nat} {free : Addr → Prop} {bytes : ByteArray} {maxL : Nat} {ret : Option FieldType}
    (hM : vx_Met l y ws rm Pc Qc XC mc ms free) (hblind : FrameBlind Pc) (hrc : rm.cells = mc) (hrs : rm.slots = ms)
    (hframes : rm.frames + 1 ≤ R.frames) (hlocals : W9 + (maxL + 11) + rm.locals ≤ R.locals)
    (hws : ∀ w ∈ ws, ∀ a' U, s.WarmedH U.vm → w.before a' U = true) (hcode : Cond.code y bytes maxL ret ∈ ws) (hinit : ∀ a' U, s.WarmedH U.vm → (Cond.initialized y.cls).before a' U = true) :
    vx_Back l R p e below s sargs y len W9 (PreOf R mc ms Pc) (PostOf Qc mc ms free) (vx_Post XC mc ms free) := by
  intro m meth c A g ig mk a X hg hsize hdg hW hn hp
  have h1 : (headSpec ws rm).pre.before a A.U = true := atoms_intro fun w hw => hws w hw _ _ X.warmed
  have h2 : (Cond.code y bytes maxL ret).before a A.U = true := hws _ hcode _ _ X.warmed
  have h3 : (Cond.initialized y.cls).before a A.U = true := hinit _ _ X.warmed
  have h4 : A.cells + (headSpec ws rm).room.cells ≤ R.cells := by rw [show (headSpec ws rm).room.cells = mc from hrc]; exact hp.1
  have h5 : A.slots + (headSpec ws rm).room.slots ≤ R.slots := by rw [show (headSpec ws rm).room.slots = ms from hrs]; exact hp.2.1
  have hPc : Pc a (A.U.calling g mk a) := hblind _ _ _ _ hp.2.2
  obtain ⟨U, Ls, c0, s0⟩ := A
  dsimp only [Pt.U, Pt.locs, Pt.cells, Pt.slots] at h1 h2 h3 h4 h5 X hn hPc ⊢
  obtain ⟨methY, cY, hmY, hcY, -, hlY, -, -, -, -⟩ := Cond.code_spec hn h2
  obtain ⟨kY, hkY, -⟩ := className_of_methodNamed hn
  have hinitY : kY.init = .initialized := Cond.initialized_spec (findClass_of_methodNamed hn) hkY h3
  have h : At U g.method c below := by rw [hg]; exact X.here
  have hlocals9 : W9 + (maxL + 11) + (headSpec ws rm).room.locals ≤ R.locals := hlocals
  have happ : (headSpec ws rm).appliesLoose y e.platform (U.calling g mk a) = true :=
    Spec.appliesLoose_calling (g := g) h hdg hn hkY hinitY
      (X.room_calling (g := g) (R' := (headSpec ws rm).room) hsize hmY hcY hframes (by rw [hlY]; omega) h4 h5) h1
  obtain ⟨mid, hmid⟩ := h.above
  have hfr : (U.setTop g).frames = (.java g :: mid) ++ below := by rw [State.frames_setTop' g h.top, hmid]; rfl
  obtain ⟨o, s₂, hsteps, -, hend, hq⟩ := Steps.callFree hM p X.admits X.cas X.clock (acts := []) hfr happ hPc trivial
  have hq' : vx_Q Qc XC mc ms free a (U.calling g mk a) o s₂ := hq
  rw [State.frames_setTop' g h.top] at hend
  obtain ⟨g₀, hg0⟩ := Option.isSome_iff_exists.mp h.top
  obtain ⟨r, hr⟩ := State.topJava?_eq_some.mp hg0
  have hr' : (({ U with heap := s₂.heap, slotsUsed := s₂.slotsUsed } : State).setVm s₂.vm).frames = .java g₀ :: r := hr
  rcases hq' with ⟨hqc, L, hfe, hL⟩ | ⟨q, rfl, E, ce, L, hx, hce, hcv, hcl, hW₂, hsm, hL⟩
  · obtain ⟨⟨v, rfl⟩, hW₂, e2, q2, q3, q4, q5, q6⟩ := id hfe
    have e3 : s₂ = ({ (U.calling g mk a).setFrames s₂.frames with heap := s₂.heap, slotsUsed := s₂.slotsUsed } : State).setVm s₂.vm := by
      have : s₂ = ({ s₂ with vm := (U.calling g mk a).vm } : State).setVm s₂.vm := rfl
      rw [e2] at this
      exact this
    obtain ⟨c₂, i₂, len₂, hc₂, hd₂, hf₂⟩ := hend
    have hW' : U.WarmedH s₂.vm := hW₂
    have hcc : c₂ = c := by
      have h1 : s₂.code? g.method = U.code? g.method := by
        rw [State.code?_eq, State.code?_eq, hW'.alike.method?]
      exact Option.some.inj (hc₂.symm.trans (h1.trans h.code))
    subst hcc
    have hlen : len₂ = len := by rw [hdg] at hd₂; cases hd₂; rfl
    subst hlen
    have hs₂ : s₂ = (({ U with heap := s₂.heap, slotsUsed := s₂.slotsUsed } : State).setVm s₂.vm).setTop { g with pc := g.pc + len₂, stack := v.toList ++ g.stack } := by
      refine e3.trans ?_
      rw [hf₂, State.calling_eq h.top, State.setFrames_setFrames, State.setTop_of_frames _ hr', hr]
      rfl
    have hsame : U.sameButNew ({ U with heap := s₂.heap, slotsUsed := s₂.slotsUsed } : State) L mc ms := by
      refine ⟨?_, q2, q3, q4, q5, q6⟩
      obtain ⟨t, ht, -⟩ := State.frames_cons hr
      show ({ U with heap := s₂.heap, slotsUsed := s₂.slotsUsed } : State) = { U.setFrames U.frames with heap := s₂.heap, slotsUsed := s₂.slotsUsed }
      rw [State.setFrames_self ht]
    subst hg
    refine Or.inl ⟨v, ⟨(({ U with heap := s₂.heap, slotsUsed := s₂.slotsUsed } : State).setVm s₂.vm), Ls ++ L, c0 + mc, s0 + ms⟩,
      ⟨X.admits, X.cas, X.clock, X.frames, X.room, X.hears, X.method, X.code, (X.here.setHeapUsed s₂.heap s₂.slotsUsed).setVm hW'.alike, X.tail, State.WarmedH.trans X.warmed hW', X.limits, X.bytes, X.same.trans (hsame.setVm s.vm)⟩,
      ⟨g, mk, s₂, L, rfl, rfl, hqc, rfl, hL, rfl, rfl⟩, ?_⟩
    show Steps p.tables e below _ ((({ U with heap := s₂.heap, slotsUsed := s₂.slotsUsed } : State).setVm s₂.vm).setTop { g with pc := g.pc + len₂, stack := v.toList ++ g.stack })
    rw [← hs₂]
    exact hsteps
  · obtain ⟨e2, q2, q3, q4, q5, q6⟩ := id hsm
    have e3 : s₂ = ({ (U.calling g mk a).setFrames s₂.frames with heap := s₂.heap, slotsUsed := s₂.slotsUsed } : State).setVm s₂.vm := by
      have : s₂ = ({ s₂ with vm := (U.calling g mk a).vm } : State).setVm s₂.vm := rfl
      rw [e2] at this
      exact this
    have hf₂ : s₂.frames = .throwing q :: .java g :: U.frames.tail := hend
    have hW' : U.WarmedH s₂.vm := hW₂
    have hs₂ : s₂ = ((({ U with heap := s₂.heap, slotsUsed := s₂.slotsUsed } : State).setVm s₂.vm).setTop g).pushFrame (.throwing q) := by
      refine e3.trans ?_
      rw [hf₂, State.calling_eq h.top, State.setFrames_setFrames, State.pushFrame, State.frames_setTop _ hr', State.setTop_of_frames _ hr', State.setFrames_setFrames, hr]
      rfl
    have hsame : U.sameButNew ({ U with heap := s₂.heap, slotsUsed := s₂.slotsUsed } : State) L mc ms := by
      refine ⟨?_, q2, q3, q4, q5, q6⟩
      obtain ⟨t, ht, -⟩ := State.frames_cons hr
      show ({ U with heap := s₂.heap, slotsUsed := s₂.slotsUsed } : State) = { U.setFrames U.frames with heap := s₂.heap, slotsUsed := s₂.slotsUsed }
      rw [State.setFrames_self ht]
    subst hg
    refine Or.inr ⟨q, ⟨(({ U with heap := s₂.heap, slotsUsed := s₂.slotsUsed } : State).setVm s₂.vm), Ls ++ L, c0 + mc, s0 + ms⟩,
      ⟨X.admits, X.cas, X.clock, X.frames, X.room, X.hears, X.method, X.code, (X.here.setHeapUsed s₂.heap s₂.slotsUsed).setVm hW'.alike, X.tail, State.WarmedH.trans X.warmed hW', X.limits, X.bytes, X.same.trans (hsame.setVm s.vm)⟩,
      ⟨g, mk, s₂, L, E, ce, rfl, rfl, hx, hce, hcv, hcl, rfl, hL, rfl, rfl⟩, ?_⟩
    show Steps p.tables e below _ (((({ U with heap := s₂.heap, slotsUsed := s₂.slotsUsed } : State).setVm s₂.vm).setTop g).pushFrame (.throwing q))
    rw [← hs₂]
    exact hsteps
end Payer
section Calls
variable {p : Program} {l : Launch} {e : Env} {R : Room} {s : State} {m : MethodId} {args : Array Value} {below : List Frame} {meth : Method} {c : Code} {T : State} {locs : List Loc} {cells slots : Nat}
theorem vx_callV (X : Stand p l e R s m args below meth c T locs cells slots) (hexec : p.tables.exec = Jvm.exec) {own C : String} {index : Nat} {y : MethodName} {bytes : ByteArray} {maxL : Nat} {ret : Option FieldType}
    (hown : s.vm.findClass own = some m.cls) (hlink : (Cond.methodLink own index y).before args s = true) (hinst : (Cond.instanceMethod y).before args s = true) (hsel : (Cond.selects C y y).before args s = true)
    (hcode : (Cond.code y bytes maxL ret).before args s = true) (hy : y.cls ≠ "java/lang/invoke/MethodHandle" ∧ y.cls ≠ "java/lang/invoke/VarHandle")
    {W9 : Nat} {Pre : Pt → Array Value → Prop} {Post : Pt → Array Value → Option Value → Pt → Prop} {PostX : Pt → Array Value → Addr → Pt → Prop} (hK : vx_Back l R p e below s args y 3 W9 Pre Post PostX)
    {b : Addr} {cellB : Cell} (hcell : T.heap[b]? = some cellB) (hobj : cellB.vm.isStatics = false) (hcls : s.vm.findClass C = some cellB.cls)
    {g : JFrame} (hg : g.method = m) (hsize : g.locals.size = c.maxLocals) {argsL rest : List Value} (hlen : ∀ sig, parseMethodDescriptor y.desc = some sig → argsL.length = sig.parameters.length)
    (hstack : g.stack = argsL.reverse ++ .ref b :: rest) (hW : 2 * g.monitorRoom + (rest.map fun v => v.category).sum ≤ W9) (hdg : decode c.code g.pc = .ok (.invokevirtual index, 3))
    (hpre : ∀ vm₁, s.WarmedH vm₁ → Pre ⟨T.setVm vm₁, locs, cells, slots⟩ (Value.ref b :: argsL).toArray) :
    (∃ (v : Option Value) (vm₁ : Vm) (B : Pt), s.WarmedH vm₁ ∧ Stand p l e R s m args below meth c B.U B.locs B.cells B.slots ∧ Post ⟨T.setVm vm₁, locs, cells, slots⟩ (Value.ref b :: argsL).toArray v B ∧
      ∀ target, Steps p.tables e below (B.U.setTop { g with pc := g.pc + 3, stack := v.toList ++ rest }) target → Steps p.tables e below (T.setTop g) target) ∨
    (∃ (q : Addr) (vm₁ : Vm) (B : Pt), s.WarmedH vm₁ ∧ Stand p l e R s m args below meth c B.U B.locs B.cells B.slots ∧ PostX ⟨T.setVm vm₁, locs, cells, slots⟩ (Value.ref b :: argsL).toArray q B ∧
      Steps p.tables e below (T.setTop g) ((B.U.setTop { g with stack := rest }).pushFrame (.throwing q))) := by
  obtain ⟨mk, methM, hnamed, hmethM, hstM, habM⟩ := Cond.instanceMethod_spec hinst
  obtain ⟨methM', cM, hmethM', -, -, -, -, -, -, hsigM⟩ := Cond.code_spec hnamed hcode
  cases hmethM.symm.trans hmethM'
  obtain ⟨c2, r2, m2, q1, q2, q3, q4, kP, hkP, hkPi⟩ := Cond.selects_spec hsel
  cases hcls.symm.trans q1
  cases (State.methodFound?_of_named hnamed hy).symm.trans q2
  cases hnamed.symm.trans q3
  have hselP : selectMethod e.platform s.vm cellB.cls mk = .method mk := by rw [Launch.admits_selectMethod X.admits]; exact q4
  obtain ⟨vm₁, X₁, hstep₁⟩ := X.invokevirtual hexec hown hlink hnamed hmethM hstM hkP hkPi hy (a := b) (cell := cellB) hcell
    (fun z h => by rw [h] at hobj; cases hobj) hselP hmethM habM hkP hkPi (g := g) hg (argsL := argsL) (rest := rest) (hlen _ hsigM) hstack hdg
  rcases hK m meth c ⟨T.setVm vm₁, locs, cells, slots⟩ { g with stack := rest } (.invokevirtual index) mk (Value.ref b :: argsL).toArray X₁ hg hsize hdg hW (X₁.named hnamed) (hpre vm₁ X₁.warmed) with ⟨v, B, X', hpost, hsteps⟩ | ⟨q, B, X', hpost, hsteps⟩
  · exact Or.inl ⟨v, vm₁, B, X₁.warmed, X', hpost, fun target h => hstep₁ _ fun acts => by rw [doInvoke_state]; exact hsteps.trans h⟩
  · exact Or.inr ⟨q, vm₁, B, X₁.warmed, X', hpost, hstep₁ _ fun acts => by rw [doInvoke_state]; exact hsteps⟩
theorem vx_callS (X : Stand p l e R s m args below meth c T locs cells slots) (hexec : p.tables.exec = Jvm.exec) {own : String} {index : Nat} {y : MethodName} {bytes : ByteArray} {maxL : Nat} {ret : Option FieldType}
    (hown : s.vm.findClass own = some m.cls) (hlink : (Cond.methodLink own index y).before args s = true) (hstat : (Cond.static y).before args s = true) (hinit : (Cond.initialized y.cls).before args s = true)
    (hcode : (Cond.code y bytes maxL ret).before args s = true) (hy : y.cls ≠ "java/lang/invoke/MethodHandle" ∧ y.cls ≠ "java/lang/invoke/VarHandle")
    {W9 : Nat} {Pre : Pt → Array Value → Prop} {Post : Pt → Array Value → Option Value → Pt → Prop} {PostX : Pt → Array Value → Addr → Pt → Prop} (hK : vx_Back l R p e below s args y 3 W9 Pre Post PostX)
    {g : JFrame} (hg : g.method = m) (hsize : g.locals.size = c.maxLocals) {argsL rest : List Value} (hlen : ∀ sig, parseMethodDescriptor y.desc = some sig → argsL.length = sig.parameters.length)
    (hstack : g.stack = argsL.reverse ++ rest) (hW : 2 * g.monitorRoom + (rest.map fun v => v.category).sum ≤ W9) (hdg : decode c.code g.pc = .ok (.invokestatic index, 3))
    (hpre : ∀ vm₁, s.WarmedH vm₁ → Pre ⟨T.setVm vm₁, locs, cells, slots⟩ argsL.toArray) :
    (∃ (v : Option Value) (vm₁ : Vm) (B : Pt), s.WarmedH vm₁ ∧ Stand p l e R s m args below meth c B.U B.locs B.cells B.slots ∧ Post ⟨T.setVm vm₁, locs, cells, slots⟩ argsL.toArray v B ∧
      ∀ target, Steps p.tables e below (B.U.setTop { g with pc := g.pc + 3, stack := v.toList ++ rest }) target → Steps p.tables e below (T.setTop g) target) ∨
    (∃ (q : Addr) (vm₁ : Vm) (B : Pt), s.WarmedH vm₁ ∧ Stand p l e R s m args below meth c B.U B.locs B.cells B.slots ∧ PostX ⟨T.setVm vm₁, locs, cells, slots⟩ argsL.toArray q B ∧
      Steps p.tables e below (T.setTop g) ((B.U.setTop { g with stack := rest }).pushFrame (.throwing q))) := by
  obtain ⟨mk, hnamed⟩ := Cond.code_named hcode
  obtain ⟨methM, cM, hmethM, -, -, -, -, -, -, hsigM⟩ := Cond.code_spec hnamed hcode
  have hstatic : methM.isStatic = true := Cond.static_spec hnamed hmethM hstat
  obtain ⟨kP, hkP, -⟩ := className_of_methodNamed hnamed
  have hinitP : kP.init = .initialized := Cond.initialized_spec (findClass_of_methodNamed hnamed) hkP hinit
  obtain ⟨vm₁, X₁, hstep₁⟩ := X.invokestatic hexec hown hlink hnamed hmethM hstatic hkP hinitP hy (g := g) hg (argsL := argsL) (rest := rest) (hlen _ hsigM) hstack hdg
  rcases hK m meth c ⟨T.setVm vm₁, locs, cells, slots⟩ { g with stack := rest } (.invokestatic index) mk argsL.toArray X₁ hg hsize hdg hW (X₁.named hnamed) (hpre vm₁ X₁.warmed) with ⟨v, B, X', hpost, hsteps⟩ | ⟨q, B, X', hpost, hsteps⟩
  · exact Or.inl ⟨v, vm₁, B, X₁.warmed, X', hpost, fun target h => hstep₁ _ fun acts => by rw [doInvoke_state]; exact hsteps.trans h⟩
  · exact Or.inr ⟨q, vm₁, B, X₁.warmed, X', hpost, hstep₁ _ fun acts => by rw [doInvoke_state]; exact hsteps⟩
end Calls
theorem vx_cls {s : State} {T : State} {vm₁ : Vm} {E : String} {k : ClassId} (hW : s.WarmedH vm₁) (h : (T.setVm vm₁).vm.findClass E = some k) : s.vm.findClass E = some k := by
  have h1 : vm₁.findClass E = some k := h
  rw [hW.alike.findClass] at h1
  exact h1
/-- the method's frame g, with q thrown over it -/
def vx_W (p : Program) (l : Launch) (e : Env) (R : Room) (s : State) (m : MethodId) (args : Array Value) (below : List Frame) (meth : Method) (c : Code) (H : Heap) (locs : List Loc) (cells slots : Nat) (Q : State → Prop) (g : JFrame) (q : Addr) : Prop :=
  ∀ T : State, T.heap = H → Stand p l e R s m args below meth c T locs cells slots → ∃ t, Steps p.tables e below ((T.setTop g).pushFrame (.throwing q)) t ∧ Q t
def vx_Run (p : Program) (l : Launch) (e : Env) (R : Room) (s : State) (m : MethodId) (args : Array Value) (below : List Frame) (meth : Method) (c : Code) (H : Heap) (locs : List Loc) (cells slots mc ms : Nat) (g : JFrame) (rest : List Value) (Qa : State → Outcome → State → Prop) (XC : String → State → State → Prop) (free : Addr → Prop) : Prop :=
  ∀ T : State, T.heap = H → Stand p l e R s m args below meth c T locs cells slots →
    (∃ (v : Option Value) (st₀ t T' : State) (L : List Loc), st₀.heap = H ∧ Stand p l e R s m args below meth c T' (locs ++ L) (cells + mc) (slots + ms) ∧ (∀ q ∈ L, free q.base) ∧ T'.heap = t.heap ∧ T'.vm = t.vm ∧ Qa st₀ (.returned v) t ∧
      Goes p e below T g T' { g with pc := g.pc + 3, stack := v.toList ++ rest }) ∨
    (∃ (q : Addr) (st₀ t T' : State) (L : List Loc) (E : String) (ce : Cell), st₀.heap = H ∧ Stand p l e R s m args below meth c T' (locs ++ L) (cells + mc) (slots + ms) ∧ (∀ z ∈ L, free z.base) ∧ T'.heap = t.heap ∧ T'.vm = t.vm ∧ XC E st₀ t ∧ t.heap[q]? = some ce ∧ ce.vm = .none ∧ s.vm.findClass E = some ce.cls ∧
      Steps p.tables e below (T.setTop g) ((T'.setTop { g with stack := rest }).pushFrame (.throwing q)))
def vx_X {S : Type} (px : S → Prop) (B : String → S → State → Prop) (A : Nat → Prop) : String → State → State → Prop := fun E st t => ∃ u : S, px u ∧ B E u t ∧ va_F A st t
section Runs
variable {p : Program} {l : Launch} {e : Env} {R : Room} {s : State} {m : MethodId} {args : Array Value} {below : List Frame} {meth : Method} {c : Code} {H : Heap} {locs : List Loc} {cells slots : Nat}
variable {y : MethodName} {bytes cc : ByteArray} {maxL nL mc ms n index : Nat} {ret : Option FieldType} {ws : List Cond} {rm : Room} {Pc : Array Value → State → Prop} {Qc : Array Value → State → Outcome → State → Prop} {XC : String → State → State → Prop} {free : Addr → Prop} {Ts : List Cond} {own C : String} {b : Addr} {As rest : List Value} {g : JFrame}
theorem vx_callBack (cb : CallB R s args own index y bytes maxL ret ws rm mc ms n) (hM : vx_Met l y ws rm Pc Qc XC mc ms free) (hbl : FrameBlind Pc) : vx_Back l R p e below s args y 3 8 (PreOf R mc ms Pc) (PostOf Qc mc ms free) (vx_Post XC mc ms free) := by
  obtain ⟨hrc, hrs, hfr, hlo, hws, hcw, -, hini, -⟩ := cb
  exact vx_back (bytes := bytes) (maxL := maxL) (ret := ret) hM hbl hrc hrs hfr hlo hws hcw (fun a' U hW => word_at hW (Or.inl (by first | rfl | simp [Cond.onTables, Cond.keeps, Cond.steady])) hini)
theorem vx_runV (S : CallFix p m c cc nL s args Ts own) (hM : vx_Met l y ws rm Pc Qc XC mc ms free) (cw : CallW R s args own C index y bytes maxL ret ws rm mc ms n) (hp : PreV s H C b Pc As)
    (hg : g.method = m) (hn : As.length = n) (hsize : g.locals.size = nL) (hstack : g.stack = As.reverse ++ .ref b :: rest) (hW : 2 * g.monitorRoom + (rest.map fun v => v.category).sum ≤ 8) (hdg : decode cc g.pc = .ok (.invokevirtual index, 3)) (hf : cells + mc ≤ R.cells ∧ slots + ms ≤ R.slots) :
    vx_Run p l e R s m args below meth c H locs cells slots mc ms g rest (Qc (Value.ref b :: As).toArray) XC free := by
  have hK : vx_Back l R p e below s args y 3 8 (PreOf R mc ms Pc) (PostOf Qc mc ms free) (vx_Post XC mc ms free) := vx_callBack cw.1 hM hp.1
  obtain ⟨⟨-, -, -, -, -, -, hcode, -, hy, hlen, hl⟩, hin, hse⟩ := cw
  obtain ⟨hx, hb, hml, ho, -⟩ := S
  obtain ⟨-, ⟨cellB, hcB, hoB, hclB⟩, hPc⟩ := hp
  intro T hT X
  rcases vx_callV X hx (C := C) (bytes := bytes) (maxL := maxL) (ret := ret) ho hl hin hse hcode hy hK (by rw [hT]; exact hcB) hoB hclB hg (hsize.trans hml.symm) (argsL := As) (rest := rest) (fun sig h => hn.trans (hlen sig h)) hstack hW (by rw [hb]; exact hdg)
    (fun vm₁ hW₁ => ⟨hf.1, hf.2, hPc (T.setVm vm₁) hT hW₁⟩) with ⟨v, vm₁, ⟨U', l2, c2, s2⟩, hW₁, X', ⟨g', mk, t, L, e1, e2, hq, h1, hL, h2, h3⟩, st⟩ | ⟨q, vm₁, ⟨U', l2, c2, s2⟩, hW₁, X', ⟨g', mk, t, L, E, ce, e1, e2, hq, hce, hcv, hcl, h1, hL, h2, h3⟩, st⟩
  · dsimp only [Pt.U, Pt.locs, Pt.cells, Pt.slots] at X' e1 e2 h1 h2 h3 st
    subst h1; subst h2; subst h3
    exact Or.inl ⟨v, (T.setVm vm₁).calling g' mk (Value.ref b :: As).toArray, t, U', L, hT, X', hL, e1, e2, hq, st⟩
  · dsimp only [Pt.U, Pt.locs, Pt.cells, Pt.slots] at X' e1 e2 h1 h2 h3 st hcl
    subst h1; subst h2; subst h3
    exact Or.inr ⟨q, (T.setVm vm₁).calling g' mk (Value.ref b :: As).toArray, t, U', L, E, ce, hT, X', hL, e1, e2, hq, hce, hcv, vx_cls hW₁ hcl, st⟩
theorem vx_runS (S : CallFix p m c cc nL s args Ts own) (hM : vx_Met l y ws rm Pc Qc XC mc ms free) (cw : CallB R s args own index y bytes maxL ret ws rm mc ms n ∧ (Cond.static y).before args s = true) (hp : PreS s H Pc As)
    (hg : g.method = m) (hn : As.length = n) (hsize : g.locals.size = nL) (hstack : g.stack = As.reverse ++ rest) (hW : 2 * g.monitorRoom + (rest.map fun v => v.category).sum ≤ 8) (hdg : decode cc g.pc = .ok (.invokestatic index, 3)) (hf : cells + mc ≤ R.cells ∧ slots + ms ≤ R.slots) :
    vx_Run p l e R s m args below meth c H locs cells slots mc ms g rest (Qc As.toArray) XC free := by
  have hK : vx_Back l R p e below s args y 3 8 (PreOf R mc ms Pc) (PostOf Qc mc ms free) (vx_Post XC mc ms free) := vx_callBack cw.1 hM hp.1
  obtain ⟨⟨-, -, -, -, -, -, hcode, hini, hy, hlen, hl⟩, hstt⟩ := cw
  obtain ⟨hx, hb, hml, ho, -⟩ := S
  intro T hT X
  rcases vx_callS X hx (bytes := bytes) (maxL := maxL) (ret := ret) ho hl hstt hini hcode hy hK hg (hsize.trans hml.symm) (argsL := As) (rest := rest) (fun sig h => hn.trans (hlen sig h)) hstack hW (by rw [hb]; exact hdg)
    (fun vm₁ hW₁ => ⟨hf.1, hf.2, hp.2 (T.setVm vm₁) hT hW₁⟩) with ⟨v, vm₁, ⟨U', l2, c2, s2⟩, hW₁, X', ⟨g', mk, t, L, e1, e2, hq, h1, hL, h2, h3⟩, st⟩ | ⟨q, vm₁, ⟨U', l2, c2, s2⟩, hW₁, X', ⟨g', mk, t, L, E, ce, e1, e2, hq, hce, hcv, hcl, h1, hL, h2, h3⟩, st⟩
  · dsimp only [Pt.U, Pt.locs, Pt.cells, Pt.slots] at X' e1 e2 h1 h2 h3 st
    subst h1; subst h2; subst h3
    exact Or.inl ⟨v, (T.setVm vm₁).calling g' mk As.toArray, t, U', L, hT, X', hL, e1, e2, hq, st⟩
  · dsimp only [Pt.U, Pt.locs, Pt.cells, Pt.slots] at X' e1 e2 h1 h2 h3 st hcl
    subst h1; subst h2; subst h3
    exact Or.inr ⟨q, (T.setVm vm₁).calling g' mk As.toArray, t, U', L, E, ce, hT, X', hL, e1, e2, hq, hce, hcv, vx_cls hW₁ hcl, st⟩
end Runs
section Rows
variable {p : Program} {l : Launch} {e : Env} {R : Room} {s : State} {m : MethodId} {args : Array Value} {below : List Frame} {meth : Method} {c : Code} {H : Heap} {locs : List Loc} {cells slots : Nat} {Q : State → Prop}
variable {mc ms : Nat} {free : Addr → Prop} {A0 A1 : Nat → Prop} {H0 : Heap} {a : Array Value} {pc : Nat} {ls : Array Slot} {st0 rest : List Value}
theorem vx_keep {st₀ t T' : State} {L : List Loc} (h0 : st₀.heap = H) (e1 : T'.heap = t.heap) (hS : va_S A0 H0 H locs) (hA : ∀ q, q < H.size → A1 q → A0 q) (hf : ∀ q, free q → A0 q) (hL : ∀ q ∈ L, free q.base) (hF : va_F A1 st₀ t) :
    H.size ≤ T'.heap.size ∧ (∀ q : Nat, q < H.size → ¬ A1 q → T'.heap[q]? = H[q]?) ∧ va_S A0 H0 T'.heap (locs ++ L) := by
  obtain ⟨hz, hk⟩ := hF
  rw [h0] at hz hk
  exact ⟨by rw [e1]; exact hz, fun q h1 h2 => by rw [e1]; exact hk q h1 h2,
    ⟨Nat.le_trans hS.1 (by rw [e1]; exact hz), fun q h1 h2 => by rw [e1, hk q (Nat.lt_of_lt_of_le h1 hS.1) (fun z => h2 (hA q (Nat.lt_of_lt_of_le h1 hS.1) z))]; exact hS.2.1 q h1 h2, fun q hq => by
      rcases List.mem_append.mp hq with h | h
      · exact hS.2.2 q h
      · exact hf _ (hL q h)⟩⟩
theorem vx_calli {S SX : Type} {post : Int32 → S → Prop} {px : SX → Prop} {B : S → State → Prop} {BX : String → SX → State → Prop} {AX : Nat → Prop} (hr : vx_Run p l e R s m args below meth c H locs cells slots mc ms (F0 m pc ls st0) rest (va_Qi post B A1 a) (vx_X px BX AX) free) (hS : va_S A0 H0 H locs) (hA : ∀ q, q < H.size → A1 q → A0 q) (hf : ∀ q, free q → A0 q) (hAX : ∀ q, q < H.size → AX q → A0 q)
    (kx : ∀ (E : String) (ce : Cell) (q9 : Addr) (u : SX) (t : State) (H1 : Heap) (locs1 : List Loc), t.heap = H1 → s.vm.Alike t.vm → px u → BX E u t → H.size ≤ H1.size → (∀ q : Nat, q < H.size → ¬ AX q → H1[q]? = H[q]?) → va_S A0 H0 H1 locs1 → H1[q9]? = some ce → ce.vm = .none → s.vm.findClass E = some ce.cls → vx_W p l e R s m args below meth c H1 locs1 (cells + mc) (slots + ms) Q (F0 m pc ls rest) q9)
    (kk : ∀ (r : Int32) (u : S) (t : State) (H1 : Heap) (locs1 : List Loc), t.heap = H1 → s.vm.Alike t.vm → post r u → B u t → H.size ≤ H1.size → (∀ q : Nat, q < H.size → ¬ A1 q → H1[q]? = H[q]?) → va_S A0 H0 H1 locs1 → W p l e R s m args below meth c H1 locs1 (cells + mc) (slots + ms) Q (F0 m (pc + 3) ls (.int r :: rest))) : W p l e R s m args below meth c H locs cells slots Q (F0 m pc ls st0) := by
  intro T hT X
  rcases hr T hT X with ⟨v, st₀, t, T', L, h0, X', hL, e1, e2, ⟨⟨r, u, hv, hp, hb⟩, hF⟩, st⟩ | ⟨q, st₀, t, T', L, E, ce, h0, X', hL, e1, e2, ⟨u, hp, hb, hF⟩, hce, hcv, hcl, st⟩
  · cases hv
    obtain ⟨k1, k2, k3⟩ := vx_keep h0 e1 hS hA hf hL hF
    obtain ⟨t2, a1, b1⟩ := kk r u t T'.heap (locs ++ L) e1.symm (by rw [← e2]; exact X'.warmed.alike) hp hb k1 k2 k3 T' rfl X'
    exact ⟨t2, st t2 a1, b1⟩
  · obtain ⟨k1, k2, k3⟩ := vx_keep h0 e1 hS hAX hf hL hF
    obtain ⟨t2, a1, b1⟩ := kx E ce q u t T'.heap (locs ++ L) e1.symm (by rw [← e2]; exact X'.warmed.alike) hp hb k1 k2 k3 (by rw [e1]; exact hce) hcv hcl T' rfl X'
    exact ⟨t2, st.trans a1, b1⟩
theorem vx_calll {S SX : Type} {post : Int64 → S → Prop} {px : SX → Prop} {B : S → State → Prop} {BX : String → SX → State → Prop} {AX : Nat → Prop} (hr : vx_Run p l e R s m args below meth c H locs cells slots mc ms (F0 m pc ls st0) rest (va_Ql post B A1 a) (vx_X px BX AX) free) (hS : va_S A0 H0 H locs) (hA : ∀ q, q < H.size → A1 q → A0 q) (hf : ∀ q, free q → A0 q) (hAX : ∀ q, q < H.size → AX q → A0 q)
    (kx : ∀ (E : String) (ce : Cell) (q9 : Addr) (u : SX) (t : State) (H1 : Heap) (locs1 : List Loc), t.heap = H1 → s.vm.Alike t.vm → px u → BX E u t → H.size ≤ H1.size → (∀ q : Nat, q < H.size → ¬ AX q → H1[q]? = H[q]?) → va_S A0 H0 H1 locs1 → H1[q9]? = some ce → ce.vm = .none → s.vm.findClass E = some ce.cls → vx_W p l e R s m args below meth c H1 locs1 (cells + mc) (slots + ms) Q (F0 m pc ls rest) q9)
    (kk : ∀ (r : Int64) (u : S) (t : State) (H1 : Heap) (locs1 : List Loc), t.heap = H1 → s.vm.Alike t.vm → post r u → B u t → H.size ≤ H1.size → (∀ q : Nat, q < H.size → ¬ A1 q → H1[q]? = H[q]?) → va_S A0 H0 H1 locs1 → W p l e R s m args below meth c H1 locs1 (cells + mc) (slots + ms) Q (F0 m (pc + 3) ls (.long r :: rest))) : W p l e R s m args below meth c H locs cells slots Q (F0 m pc ls st0) := by
  intro T hT X
  rcases hr T hT X with ⟨v, st₀, t, T', L, h0, X', hL, e1, e2, ⟨⟨r, u, hv, hp, hb⟩, hF⟩, st⟩ | ⟨q, st₀, t, T', L, E, ce, h0, X', hL, e1, e2, ⟨u, hp, hb, hF⟩, hce, hcv, hcl, st⟩
  · cases hv
    obtain ⟨k1, k2, k3⟩ := vx_keep h0 e1 hS hA hf hL hF
    obtain ⟨t2, a1, b1⟩ := kk r u t T'.heap (locs ++ L) e1.symm (by rw [← e2]; exact X'.warmed.alike) hp hb k1 k2 k3 T' rfl X'
    exact ⟨t2, st t2 a1, b1⟩
  · obtain ⟨k1, k2, k3⟩ := vx_keep h0 e1 hS hAX hf hL hF
    obtain ⟨t2, a1, b1⟩ := kx E ce q u t T'.heap (locs ++ L) e1.symm (by rw [← e2]; exact X'.warmed.alike) hp hb k1 k2 k3 (by rw [e1]; exact hce) hcv hcl T' rfl X'
    exact ⟨t2, st.trans a1, b1⟩
theorem vx_callf {S SX : Type} {post : UInt32 → S → Prop} {px : SX → Prop} {B : S → State → Prop} {BX : String → SX → State → Prop} {AX : Nat → Prop} (hr : vx_Run p l e R s m args below meth c H locs cells slots mc ms (F0 m pc ls st0) rest (va_Qf post B A1 a) (vx_X px BX AX) free) (hS : va_S A0 H0 H locs) (hA : ∀ q, q < H.size → A1 q → A0 q) (hf : ∀ q, free q → A0 q) (hAX : ∀ q, q < H.size → AX q → A0 q)
    (kx : ∀ (E : String) (ce : Cell) (q9 : Addr) (u : SX) (t : State) (H1 : Heap) (locs1 : List Loc), t.heap = H1 → s.vm.Alike t.vm → px u → BX E u t → H.size ≤ H1.size → (∀ q : Nat, q < H.size → ¬ AX q → H1[q]? = H[q]?) → va_S A0 H0 H1 locs1 → H1[q9]? = some ce → ce.vm = .none → s.vm.findClass E = some ce.cls → vx_W p l e R s m args below meth c H1 locs1 (cells + mc) (slots + ms) Q (F0 m pc ls rest) q9)
    (kk : ∀ (r : UInt32) (u : S) (t : State) (H1 : Heap) (locs1 : List Loc), t.heap = H1 → s.vm.Alike t.vm → post r u → B u t → H.size ≤ H1.size → (∀ q : Nat, q < H.size → ¬ A1 q → H1[q]? = H[q]?) → va_S A0 H0 H1 locs1 → W p l e R s m args below meth c H1 locs1 (cells + mc) (slots + ms) Q (F0 m (pc + 3) ls (.float r :: rest))) : W p l e R s m args below meth c H locs cells slots Q (F0 m pc ls st0) := by
  intro T hT X
  rcases hr T hT X with ⟨v, st₀, t, T', L, h0, X', hL, e1, e2, ⟨⟨r, u, hv, hp, hb⟩, hF⟩, st⟩ | ⟨q, st₀, t, T', L, E, ce, h0, X', hL, e1, e2, ⟨u, hp, hb, hF⟩, hce, hcv, hcl, st⟩
  · cases hv
    obtain ⟨k1, k2, k3⟩ := vx_keep h0 e1 hS hA hf hL hF
    obtain ⟨t2, a1, b1⟩ := kk r u t T'.heap (locs ++ L) e1.symm (by rw [← e2]; exact X'.warmed.alike) hp hb k1 k2 k3 T' rfl X'
    exact ⟨t2, st t2 a1, b1⟩
  · obtain ⟨k1, k2, k3⟩ := vx_keep h0 e1 hS hAX hf hL hF
    obtain ⟨t2, a1, b1⟩ := kx E ce q u t T'.heap (locs ++ L) e1.symm (by rw [← e2]; exact X'.warmed.alike) hp hb k1 k2 k3 (by rw [e1]; exact hce) hcv hcl T' rfl X'
    exact ⟨t2, st.trans a1, b1⟩
theorem vx_calld {S SX : Type} {post : UInt64 → S → Prop} {px : SX → Prop} {B : S → State → Prop} {BX : String → SX → State → Prop} {AX : Nat → Prop} (hr : vx_Run p l e R s m args below meth c H locs cells slots mc ms (F0 m pc ls st0) rest (va_Qd post B A1 a) (vx_X px BX AX) free) (hS : va_S A0 H0 H locs) (hA : ∀ q, q < H.size → A1 q → A0 q) (hf : ∀ q, free q → A0 q) (hAX : ∀ q, q < H.size → AX q → A0 q)
    (kx : ∀ (E : String) (ce : Cell) (q9 : Addr) (u : SX) (t : State) (H1 : Heap) (locs1 : List Loc), t.heap = H1 → s.vm.Alike t.vm → px u → BX E u t → H.size ≤ H1.size → (∀ q : Nat, q < H.size → ¬ AX q → H1[q]? = H[q]?) → va_S A0 H0 H1 locs1 → H1[q9]? = some ce → ce.vm = .none → s.vm.findClass E = some ce.cls → vx_W p l e R s m args below meth c H1 locs1 (cells + mc) (slots + ms) Q (F0 m pc ls rest) q9)
    (kk : ∀ (r : UInt64) (u : S) (t : State) (H1 : Heap) (locs1 : List Loc), t.heap = H1 → s.vm.Alike t.vm → post r u → B u t → H.size ≤ H1.size → (∀ q : Nat, q < H.size → ¬ A1 q → H1[q]? = H[q]?) → va_S A0 H0 H1 locs1 → W p l e R s m args below meth c H1 locs1 (cells + mc) (slots + ms) Q (F0 m (pc + 3) ls (.double r :: rest))) : W p l e R s m args below meth c H locs cells slots Q (F0 m pc ls st0) := by
  intro T hT X
  rcases hr T hT X with ⟨v, st₀, t, T', L, h0, X', hL, e1, e2, ⟨⟨r, u, hv, hp, hb⟩, hF⟩, st⟩ | ⟨q, st₀, t, T', L, E, ce, h0, X', hL, e1, e2, ⟨u, hp, hb, hF⟩, hce, hcv, hcl, st⟩
  · cases hv
    obtain ⟨k1, k2, k3⟩ := vx_keep h0 e1 hS hA hf hL hF
    obtain ⟨t2, a1, b1⟩ := kk r u t T'.heap (locs ++ L) e1.symm (by rw [← e2]; exact X'.warmed.alike) hp hb k1 k2 k3 T' rfl X'
    exact ⟨t2, st t2 a1, b1⟩
  · obtain ⟨k1, k2, k3⟩ := vx_keep h0 e1 hS hAX hf hL hF
    obtain ⟨t2, a1, b1⟩ := kx E ce q u t T'.heap (locs ++ L) e1.symm (by rw [← e2]; exact X'.warmed.alike) hp hb k1 k2 k3 (by rw [e1]; exact hce) hcv hcl T' rfl X'
    exact ⟨t2, st.trans a1, b1⟩
theorem vx_callv {S SX : Type} {post : S → Prop} {px : SX → Prop} {B : S → State → Prop} {BX : String → SX → State → Prop} {AX : Nat → Prop} (hr : vx_Run p l e R s m args below meth c H locs cells slots mc ms (F0 m pc ls st0) rest (va_Qv post B A1 a) (vx_X px BX AX) free) (hS : va_S A0 H0 H locs) (hA : ∀ q, q < H.size → A1 q → A0 q) (hf : ∀ q, free q → A0 q) (hAX : ∀ q, q < H.size → AX q → A0 q)
    (kx : ∀ (E : String) (ce : Cell) (q9 : Addr) (u : SX) (t : State) (H1 : Heap) (locs1 : List Loc), t.heap = H1 → s.vm.Alike t.vm → px u → BX E u t → H.size ≤ H1.size → (∀ q : Nat, q < H.size → ¬ AX q → H1[q]? = H[q]?) → va_S A0 H0 H1 locs1 → H1[q9]? = some ce → ce.vm = .none → s.vm.findClass E = some ce.cls → vx_W p l e R s m args below meth c H1 locs1 (cells + mc) (slots + ms) Q (F0 m pc ls rest) q9)
    (kk : ∀ (u : S) (t : State) (H1 : Heap) (locs1 : List Loc), t.heap = H1 → s.vm.Alike t.vm → post u → B u t → H.size ≤ H1.size → (∀ q : Nat, q < H.size → ¬ A1 q → H1[q]? = H[q]?) → va_S A0 H0 H1 locs1 → W p l e R s m args below meth c H1 locs1 (cells + mc) (slots + ms) Q (F0 m (pc + 3) ls (rest))) : W p l e R s m args below meth c H locs cells slots Q (F0 m pc ls st0) := by
  intro T hT X
  rcases hr T hT X with ⟨v, st₀, t, T', L, h0, X', hL, e1, e2, ⟨⟨u, hv, hp, hb⟩, hF⟩, st⟩ | ⟨q, st₀, t, T', L, E, ce, h0, X', hL, e1, e2, ⟨u, hp, hb, hF⟩, hce, hcv, hcl, st⟩
  · cases hv
    obtain ⟨k1, k2, k3⟩ := vx_keep h0 e1 hS hA hf hL hF
    obtain ⟨t2, a1, b1⟩ := kk u t T'.heap (locs ++ L) e1.symm (by rw [← e2]; exact X'.warmed.alike) hp hb k1 k2 k3 T' rfl X'
    exact ⟨t2, st t2 a1, b1⟩
  · obtain ⟨k1, k2, k3⟩ := vx_keep h0 e1 hS hAX hf hL hF
    obtain ⟨t2, a1, b1⟩ := kx E ce q u t T'.heap (locs ++ L) e1.symm (by rw [← e2]; exact X'.warmed.alike) hp hb k1 k2 k3 (by rw [e1]; exact hce) hcv hcl T' rfl X'
    exact ⟨t2, st.trans a1, b1⟩
end Rows
section Ends
variable {p : Program} {l : Launch} {e : Env} {R : Room} {s : State} {m : MethodId} {args : Array Value} {below : List Frame} {meth : Method} {c : Code} {H : Heap} {locs : List Loc} {cells slots : Nat} {Q : State → Prop}
variable {mc ms : Nat} {free : Addr → Prop} {A0 A1 : Nat → Prop} {H0 : Heap} {a : Array Value} {ls : Array Slot} {st0 rest : List Value}
variable {Qc : Array Value → State → Outcome → State → Prop} {XC : String → State → State → Prop}
/-- what a body that may throw owes at its end -/
def vx_MQ (below : List Frame) (Qc : Array Value → State → Outcome → State → Prop) (XC : String → State → State → Prop) (a : Array Value) (s : State) (mc ms : Nat) (free : Addr → Prop) : State → Prop := fun t =>
  ∃ o, t.status = .running ∧ Ended t below o ∧ vx_Q Qc XC mc ms free a s o t
theorem vx_ret {g : JFrame} {mc ms : Nat} (k : W p l e R s m args below meth c H locs cells slots (MQ below Qc args s mc ms free) g) : W p l e R s m args below meth c H locs cells slots (vx_MQ below Qc XC args s mc ms free) g := by
  intro T hT X
  obtain ⟨t, a1, o, b1, b2, b3, b4⟩ := k T hT X
  exact ⟨t, a1, o, b1, b2, Or.inl ⟨b3, b4⟩⟩
/-- not caught here: it goes on to the caller -/
theorem vx_widen {g : JFrame} {q : Addr} {k n : Nat} (h1 : cells ≤ k) (h2 : slots ≤ n) (kk : vx_W p l e R s m args below meth c H locs k n Q g q) : vx_W p l e R s m args below meth c H locs cells slots Q g q := fun T hT X => kk T hT (stand_widen X h1 h2)
theorem vx_out {pc : Nat} {E : String} {ce : Cell} {q : Addr} {mc ms : Nat} (hout : ∀ x ∈ c.exceptionTable.toList, covers x pc = false) (hlocks : meth.locks = false) (hcell : H[q]? = some ce) (hv : ce.vm = .none) (hcl : s.vm.findClass E = some ce.cls)
    (hx : ∀ t : State, t.heap = H → s.vm.Alike t.vm → XC E s t) (hf : ∀ z ∈ locs, free z.base) (hc : cells ≤ mc) (hs : slots ≤ ms) :
    vx_W p l e R s m args below meth c H locs cells slots (vx_MQ below Qc XC args s mc ms free) (F0 m pc ls rest) q := by
  intro T hT X
  obtain ⟨st1, hrun, hend, hW, hsm⟩ := X.leaveThrown q (g := F0 m pc ls rest) rfl rfl rfl hout hlocks
  have hcell9 : (T.setFrames (.throwing q :: below)).heap[q]? = some ce := by
    show T.heap[q]? = some ce
    rw [hT]; exact hcell
  exact ⟨_, st1, .threw q, hrun, hend, Or.inr ⟨q, rfl, E, ce, locs, hx _ hT hW.alike, hcell9, hv, hcl, hW, hsm.mono hc hs, hf⟩⟩
theorem vx_frame {U : State} {k n : Nat} (h : s.sameButNew ({ U with vm := s.vm } : State) locs k n) : s.heap.size ≤ U.heap.size ∧ ∀ q : Nat, q < s.heap.size → (∀ z ∈ locs, z.base ≠ q) → U.heap[q]? = s.heap[q]? := by
  obtain ⟨-, h2, -, -, -, h6⟩ := h
  refine ⟨h2, fun q hq hz => ?_⟩
  obtain ⟨c9, e1, e2, e3, e4⟩ := h6 q _ (Array.getElem?_eq_getElem hq)
  have hs : c9.slots = (s.heap[q]).slots := Array.ext_getElem? fun i => e4 i fun hm => hz _ hm rfl
  have h9 : c9 = s.heap[q] := by
    rw [hs] at e2
    exact e2
  have e5 : U.heap[q]? = some c9 := e1
  rw [e5, h9, Array.getElem?_eq_getElem hq]
/-- the words of a throw but the four that speak of the heap -/
def vx_no (w : Cond) : Bool := decide (w ≠ .isRef (.static Bundle.tN "UNASSIGNED_STACK" Bundle.steD)) && decide (w ≠ .isRef (.static Bundle.tN "SUPPRESSED_SENTINEL" Bundle.listD)) && decide (w ≠ .laysStatic Bundle.tN "UNASSIGNED_STACK" Bundle.steD) && decide (w ≠ .laysStatic Bundle.tN "SUPPRESSED_SENTINEL" Bundle.listD)
def vx_at0 (own : String) (ic : Nat) (X : String) (names : List String) : List Cond := (Bundle.ownAtoms0 own ic X names).filter vx_no
def vx_atS (own : String) (ic : Nat) (X : String) (names : List String) : List Cond := (Bundle.ownAtoms own ic X names).filter vx_no
/-- a word that the tables alone decide, or a good one -/
def vx_ot (w : Cond) : Bool := w.onTables || goodWord w
theorem vx_ot_at {args a' : Array Value} {s U : State} {w : Cond} (hW : s.WarmedH U.vm) (hvm : s.vm = U.vm) (hg : vx_ot w = true) (h : w.before args s = true) : w.before a' U = true := by
  simp only [vx_ot, Bool.or_eq_true] at hg
  rcases hg with hg | hg
  · exact va_tabs hg hvm h
  · exact word_at hW (good_of_word hg) h
/-- a list's words: the good ones out of the method's own list, the others by premises of their own -/
theorem vx_hat {args : Array Value} {s : State} {L B : List Cond} (h1 : ∀ w ∈ L.filter goodWord, w.before args s = true) (h2 : ∀ w ∈ L.filter (fun w => !goodWord w), w ∈ B) (h3 : ∀ w ∈ B, w.before args s = true) : ∀ w ∈ L, w.before args s = true := by
  intro w hw
  by_cases g : goodWord w = true
  · exact h1 w (List.mem_filter.mpr ⟨hw, g⟩)
  · refine h3 w (h2 w (List.mem_filter.mpr ⟨hw, ?_⟩))
    show (!goodWord w) = true
    cases hgw : goodWord w
    · rfl
    · exact absurd hgw g
theorem vx_c {args : Array Value} {s : State} {w : Cond} {B : List Cond} (h : w.before args s = true) (t : ∀ w ∈ B, w.before args s = true) : ∀ w' ∈ w :: B, w'.before args s = true := fun w' h' => (List.mem_cons.mp h').elim (fun e => by rw [e]; exact h) (t w')
theorem vx_n {args : Array Value} {s : State} : ∀ w ∈ ([] : List Cond), w.before args s = true := fun _ h => nomatch h
theorem vx_own {args : Array Value} {s : State} {L : List Cond} (h1 : ∀ w ∈ L.filter vx_no, w.before args s = true)
    (hU : (Cond.isRef (.static Bundle.tN "UNASSIGNED_STACK" Bundle.steD)).before args s = true) (hN : (Cond.isRef (.static Bundle.tN "SUPPRESSED_SENTINEL" Bundle.listD)).before args s = true)
    (lU : (Cond.laysStatic Bundle.tN "UNASSIGNED_STACK" Bundle.steD).before args s = true) (lN : (Cond.laysStatic Bundle.tN "SUPPRESSED_SENTINEL" Bundle.listD).before args s = true) : ∀ w ∈ L, w.before args s = true := by
  intro w hw
  by_cases e1 : w = .isRef (.static Bundle.tN "UNASSIGNED_STACK" Bundle.steD)
  · rw [e1]; exact hU
  · by_cases e2 : w = .isRef (.static Bundle.tN "SUPPRESSED_SENTINEL" Bundle.listD)
    · rw [e2]; exact hN
    · by_cases e3 : w = .laysStatic Bundle.tN "UNASSIGNED_STACK" Bundle.steD
      · rw [e3]; exact lU
      · by_cases e4 : w = .laysStatic Bundle.tN "SUPPRESSED_SENTINEL" Bundle.listD
        · rw [e4]; exact lN
        · exact h1 w (List.mem_filter.mpr ⟨hw, by unfold vx_no; rw [decide_eq_true e1, decide_eq_true e2, decide_eq_true e3, decide_eq_true e4]; rfl⟩)
/-- where a static field lies, its class's statics cell in H -/
def vx_L (C n d : String) (A : Nat → Prop) (U : State) (H : Heap) : Prop := ∃ (c : ClassId) (k : Class) (i : Nat) (f : Field) (a : Nat) (cell : Cell), U.vm.findClass C = some c ∧ U.fieldFound? C n d = some (c, k, i, f) ∧ f.isStatic = true ∧ k.statics = some a ∧ H[a]? = some cell ∧ cell.vm.isStatics = true ∧ cell.cls = c ∧ f.slot < cell.slots.size ∧ k.staticTypes[f.slot]? = some f.type ∧ ¬ A a
theorem vx_L.moved {C n d : String} {A : Nat → Prop} {u U : State} {H : Heap} (hvm : u.vm.Alike U.vm) (h : vx_L C n d A u H) : vx_L C n d A U H := by
  obtain ⟨c, k, i, f, a, cell, h1, h2, h3, h4, h5, h6, h7, h8, h9, h10⟩ := h
  obtain ⟨k', hi', he⟩ := State.fieldFound?_setVm hvm h2
  exact ⟨c, k', i, f, a, cell, by rw [hvm.findClass]; exact h1, hi', h3, by rw [he]; exact h4, h5, h6, h7, h8, by rw [he]; exact h9, h10⟩
theorem vx_L.kept {C n d : String} {A : Nat → Prop} {U : State} {H H1 : Heap} (h : vx_L C n d A U H) (hq : ∀ a : Nat, a < H.size → ¬ A a → H1[a]? = H[a]?) : vx_L C n d A U H1 := by
  obtain ⟨c, k, i, f, a, cell, h1, h2, h3, h4, h5, h6, h7, h8, h9, h10⟩ := h
  exact ⟨c, k, i, f, a, cell, h1, h2, h3, h4, by rw [hq a (Array.getElem?_eq_some_iff.mp h5).1 h10]; exact h5, h6, h7, h8, h9, h10⟩
theorem vx_L.narrow {C n d : String} {A B : Nat → Prop} {U : State} {H : Heap} (h : vx_L C n d A U H) (hAB : ∀ q, B q → A q) : vx_L C n d B U H := by
  obtain ⟨c, k, i, f, a, cell, h1, h2, h3, h4, h5, h6, h7, h8, h9, h10⟩ := h
  exact ⟨c, k, i, f, a, cell, h1, h2, h3, h4, h5, h6, h7, h8, h9, fun z => h10 (hAB _ z)⟩
theorem vx_L.word {C n d : String} {A : Nat → Prop} {s : State} {args : Array Value} (h : vx_L C n d A s s.heap) : (Cond.laysStatic C n d).before args s = true := by
  obtain ⟨c, k, i, f, a, cell, h1, h2, h3, h4, h5, h6, h7, h8, h9, -⟩ := h
  show (Cond.laysStatic C n d).holds args s none s [] = true
  exact Cond.laysStatic_of h1 h2 h3 h4 h5 h6 h7 h8 h9
/-- .. and what it holds: null or some reference -/
def vx_Zq (C n d : String) (A : Nat → Prop) (U : State) (H : Heap) : Prop := va_Zq C n d A U H ∧ vx_L C n d A U H
theorem vx_Zq.moved {C n d : String} {A : Nat → Prop} {u U : State} {H : Heap} (hvm : u.vm.Alike U.vm) (h : vx_Zq C n d A u H) : vx_Zq C n d A U H := ⟨va_Zq.moved hvm h.1, vx_L.moved hvm h.2⟩
theorem vx_Zq.kept {C n d : String} {A : Nat → Prop} {U : State} {H H1 : Heap} (h : vx_Zq C n d A U H) (hq : ∀ a : Nat, a < H.size → ¬ A a → H1[a]? = H[a]?) : vx_Zq C n d A U H1 := ⟨va_Zq.kept h.1 hq, vx_L.kept h.2 hq⟩
theorem vx_Zq.narrow {C n d : String} {A B : Nat → Prop} {U : State} {H : Heap} (h : vx_Zq C n d A U H) (hAB : ∀ q, B q → A q) : vx_Zq C n d B U H := ⟨va_Zq.narrow h.1 hAB, vx_L.narrow h.2 hAB⟩
theorem vx_Zqof {args : Array Value} {s : State} {C n d : String} {A : Nat → Prop} (hl : (Cond.laysStatic C n d).before args s = true) (hini : (Cond.initialized C).before args s = true) (h : (Cond.isRef (.static C n d)).before args s = true) (hA : ∀ a : Nat, a < s.heap.size → ¬ A a) : vx_Zq C n d A s s.heap := by
  refine ⟨va_Zqof hl hini h hA, ?_⟩
  obtain ⟨c, k, i, f, a, cell, h1, h2, h3, h4, h5, h6, h7, h8, h9⟩ := Cond.laysStatic_spec hl
  exact ⟨c, k, i, f, a, cell, h1, h2, h3, h4, h5, h6, h7, h8, h9, hA a (Array.getElem?_eq_some_iff.mp h5).1⟩
theorem vx_isRef {C n d : String} {v : Value} {A : Nat → Prop} {s : State} {args : Array Value} (h : va_Z C n d v A s s.heap) (hv : v.isRef = true) : (Cond.isRef (.static C n d)).before args s = true := by
  obtain ⟨cf, kf, fi, f, a, cell, h1, h2, h3, h4, h5, h6, h7, -⟩ := h
  have he : (Term.static C n d).eval args s none [] s = some v := by
    simp [Term.eval, State.fieldNamed?, h1, h2, h4, h5, h6, h7]
  simp only [Cond.before, Cond.holds, Cond.value, he]
  cases v <;> simp_all [Value.isRef]
theorem vx_isRefq {C n d : String} {A : Nat → Prop} {s : State} {args : Array Value} (h : va_Zq C n d A s s.heap) : (Cond.isRef (.static C n d)).before args s = true := by
  rcases h with h | ⟨t, h⟩
  · exact vx_isRef h rfl
  · exact vx_isRef h rfl
/-- the same frame, seen from here: as if the method were called anew in this heap -/
theorem vx_rebase {T : State} (X : Stand p l e R s m args below meth c T locs cells slots) {R' : Room} (hf : R'.frames ≤ R.frames) (hl : R'.locals ≤ R.locals) (hc : cells + R'.cells ≤ R.cells) (hs : slots + R'.slots ≤ R.slots) :
    Stand p l e R' ((T.setVm s.vm).setFrames (.invoking m args :: below)) m args below meth c T [] 0 0 := by
  have htop : (T.setVm s.vm).topJava?.isSome := X.here.top
  have hF : ((T.setVm s.vm).setFrames (.invoking m args :: below)).frames = .invoking m args :: below := State.frames_setFrames _ (State.cur_lt_of_top htop)
  obtain ⟨g₀, hg0⟩ := Option.isSome_iff_exists.mp htop
  obtain ⟨r, hr⟩ := State.topJava?_eq_some.mp hg0
  have hl9 : e.platform.stackLimits (T.setVm s.vm).me = e.platform.stackLimits s.me := X.limits
  have hb9 : (T.setVm s.vm).me.stackBytes = s.me.stackBytes := X.bytes
  refine ⟨X.admits, X.cas, X.clock, hF, ?_, X.hears, X.method, X.code, X.here, X.tail, X.warmed, ?_, ?_, ?_⟩
  · have h := X.room
    have hU : ((T.setVm s.vm).setFrames (.invoking m args :: below)).localsInUse = s.localsInUse := by
      rw [State.localsInUse_invoking hF (meth := meth) (c := c) X.method X.code, State.localsInUse_invoking X.frames X.method X.code]
    simp only [State.hasRoom, Bool.and_eq_true, decide_eq_true_eq] at h ⊢
    obtain ⟨⟨⟨⟨h1, h2, h3, h4, h5, h6⟩, h7⟩, h8⟩, h9⟩ := h
    rw [X.frames, List.length_cons] at h2 h3
    have q1 := X.heapSize
    have q2 := X.used
    simp only [hF, hU, List.length_cons, State.stackLimits_setFrames, State.stackBytes_setFrames, hl9, hb9]
    refine ⟨⟨⟨⟨by omega, by omega, by omega, by omega, by omega, h6⟩, ?_⟩, ?_⟩, X.book⟩
    · show T.heap.size + R'.cells ≤ e.platform.maxCells
      omega
    · show T.slotsUsed + R'.slots ≤ e.platform.maxSlots
      omega
  · rw [State.stackLimits_setFrames]; rfl
  · rw [State.stackBytes_setFrames]; rfl
  · refine ⟨?_, Nat.le_refl _, Nat.le_refl _, ?_, ?_, fun a c9 h9 => ⟨c9, h9, rfl, rfl, fun _ _ => rfl⟩⟩
    · obtain ⟨t, ht, -⟩ := State.frames_cons hr
      show T.setVm s.vm = { ((T.setVm s.vm).setFrames (.invoking m args :: below)).setFrames (T.setVm s.vm).frames with heap := T.heap, slotsUsed := T.slotsUsed }
      rw [State.setFrames_setFrames, State.setFrames_self ht]
      rfl
    · show T.slotsUsed = T.slotsUsed + ((T.heap.toList.drop T.heap.size).map (·.slots.size)).sum
      rw [List.drop_eq_nil_of_le (Nat.le_of_eq Array.length_toList)]
      rfl
    · show ((T.heap.toList.drop T.heap.size).map (·.slots.size)).sum ≤ 0
      rw [List.drop_eq_nil_of_le (Nat.le_of_eq Array.length_toList)]
      exact Nat.le_refl _
/-- 'throw new E()': new; dup; invokespecial; athrow -/
theorem vx_throw0 {cc : ByteArray} {pc : Nat} (hexec : p.tables.exec = Jvm.exec) (hb : c.code = cc) (hl : l.stackTraces = false) {own cls : String} {names : List String} {ik ic mc ms : Nat} {A : Nat → Prop}
    (hown : s.vm.findClass own = some m.cls) (hcls : Bundle.fit cls = true) (hnames : ∀ n ∈ names, Bundle.fit n = true)
    (hk : (Cond.classLink own ik cls).before args s = true) (hini : (Cond.initialized cls).before args s = true) (hat : ∀ w ∈ vx_at0 own ic cls names, w.before args s = true)
    (hgood : ∀ w ∈ Cond.classLink own ik cls :: Cond.initialized cls :: vx_at0 own ic cls names, vx_ot w = true)
    (hU : vx_Zq Bundle.tN "UNASSIGNED_STACK" Bundle.steD A s s.heap) (hN : vx_Zq Bundle.tN "SUPPRESSED_SENTINEL" Bundle.listD A s s.heap) (hS : va_S A s.heap H locs) (hsize : ls.size = c.maxLocals)
    (d0 : decode cc pc = .ok (.new ik, 3)) (d3 : decode cc (pc + 3) = .ok (.dup, 1)) (d4 : decode cc (pc + 4) = .ok (.invokespecial ic, 3)) (d7 : decode cc (pc + 7) = .ok (.athrow, 1))
    (hout : ∀ x ∈ c.exceptionTable.toList, covers x (pc + 7) = false)
    (hRframes : names.length + 3 < R.frames) (hRlocals : (rest.map fun v => v.category).sum + (13 * (names.length + 1) + 42) ≤ R.locals) (hRcells : cells + 1 ≤ R.cells) (hRslots : slots + 6 ≤ R.slots) (hlocks : meth.locks = false)
    (hx : ∀ t : State, s.vm.Alike t.vm → H.size ≤ t.heap.size → (∀ q : Nat, q < H.size → t.heap[q]? = H[q]?) → XC cls s t)
    (hf : ∀ z ∈ locs, free z.base) (hc : cells + 1 ≤ mc) (hs : slots + 6 ≤ ms) :
    W p l e R s m args below meth c H locs cells slots (vx_MQ below Qc XC args s mc ms free) (F0 m pc ls rest) := by
  intro T hT X
  have htr : e.platform.stackTraces = false := (show e.platform.stackTraces = l.stackTraces by rw [X.admits.platform]).trans hl
  have Y := vx_rebase X (R' := { frames := R.frames, locals := R.locals, cells := 1, slots := 6 }) (Nat.le_refl _) (Nat.le_refl _) hRcells hRslots
  obtain ⟨s', hA⟩ : ∃ z, z = (T.setVm s.vm).setFrames (.invoking m args :: below) := ⟨_, rfl⟩
  rw [← hA] at Y
  have hvm : s'.vm = s.vm := by rw [hA]; rfl
  have hhp : s'.heap = H := by rw [hA]; exact hT
  have hW0 : s.WarmedH s'.vm := by rw [hvm]; exact State.WarmedH.refl s
  have hat' : ∀ w ∈ vx_at0 own ic cls names, w.before args s' = true := fun w hw => vx_ot_at hW0 hvm.symm (hgood w (List.mem_cons_of_mem _ (List.mem_cons_of_mem _ hw))) (hat w hw)
  have hk' : (Cond.classLink own ik cls).before args s' = true := vx_ot_at hW0 hvm.symm (hgood _ List.mem_cons_self) hk
  have hini' : (Cond.initialized cls).before args s' = true := vx_ot_at hW0 hvm.symm (hgood _ (List.mem_cons_of_mem _ List.mem_cons_self)) hini
  have hU' : vx_Zq Bundle.tN "UNASSIGNED_STACK" Bundle.steD A s' s'.heap := by rw [hhp]; exact vx_Zq.moved hW0.alike (hU.kept hS.2.1)
  have hN' : vx_Zq Bundle.tN "SUPPRESSED_SENTINEL" Bundle.listD A s' s'.heap := by rw [hhp]; exact vx_Zq.moved hW0.alike (hN.kept hS.2.1)
  have h : ∀ w ∈ Bundle.ownAtoms0 own ic cls names, w.before args s' = true := vx_own hat' (vx_isRefq hU'.1) (vx_isRefq hN'.1) hU'.2.word hN'.2.word
  have hown' : s'.vm.findClass own = some m.cls := by rw [hvm]; exact hown
  have hins : (Cond.instantiable cls 6).before args s' = true := h _ (by simp [Bundle.ownAtoms0])
  obtain ⟨vm₁, cX, kX, hfX, hkX, -, -, X₁, st1⟩ := Y.newCold hexec (own := own) (C := cls) (index := ik) (n := 6) hown' hk' hins hini'
    (g := F0 m pc ls rest) rfl (by rw [hb]; exact d0) (Nat.le_refl _) (Nat.le_refl _)
  generalize hT1 : (T.setVm vm₁).pushCell { cls := cX, slots := kX.instanceTypes.map defaultValue, vm := .none } = T1 at X₁ st1
  have hcat : (Value.ref T.heap.size).category = 1 := rfl
  have hcellA : T1.heap[T.heap.size]? = some (freshCell cX kX) := by rw [← hT1]; exact State.heap_pushCell_size _ _
  have d3' : decode c.code (pc + 3) = .ok (.dup, 1) := by rw [hb]; exact d3
  obtain ⟨U, hsteps, hrun, hend, hW, hsame, ce, hce, hO⟩ := X₁.ctorThrow0 hexec htr (own := own) (cls := cls) (names := names) (ic := ic) hown' hcls hnames h (fun x hx => nomatch hx) hfX hkX hcellA (by rw [hhp, hT]; exact Nat.le_refl _)
    (g := { method := m, pc := pc + 4, locals := ls, stack := .ref T.heap.size :: .ref T.heap.size :: rest, locked := none }) rfl hsize rfl rfl (rest := rest) rfl
    (by rw [hb]; exact d4) (by rw [hb]; exact d7) hout hRframes (by simp only [List.map_cons, List.sum_cons, hcat]; omega) hlocks
  obtain ⟨f1, f2⟩ := vx_frame hsame
  rw [hhp] at f1 f2
  have hWs : s.WarmedH U.vm := State.WarmedH.trans hW0 hW
  have hcl : s.vm.findClass cls = some ce.cls := by
    have h9 := hO.cls
    rw [hvm] at h9
    exact h9
  have hall : s.sameButNew ({ U with vm := s.vm } : State) locs mc ms := by
    subst hA
    obtain ⟨e1, e2⟩ := hsame
    rw [State.setFrames_setFrames] at e1
    have h2 : (T.setVm s.vm).sameButNew ({ U with vm := s.vm } : State) [] (0 + 1) (0 + 6) := ⟨e1, e2⟩
    have h3 := X.same.trans h2
    rw [List.append_nil] at h3
    exact h3.mono hc hs
  refine ⟨U, ?_, .threw T.heap.size, hrun, hend, Or.inr ⟨T.heap.size, rfl, cls, ce, locs, hx U hWs.alike f1 (fun q hq => f2 q hq (fun z hz => nomatch hz)), hce, hO.vm, hcl, hWs, hall, hf⟩⟩
  refine st1 _ ?_
  show Steps p.tables e below (T1.setTop { method := m, pc := pc + 3, locals := ls, stack := .ref T.heap.size :: rest, locked := none }) _
  jvm_step X₁.here [X₁.here.top, hexec, d3', Value.category]
  exact hsteps
/-- 'throw new E("text")': new; dup; ldc; invokespecial; athrow -/
theorem vx_throwS {cc : ByteArray} {pc : Nat} (hexec : p.tables.exec = Jvm.exec) (hb : c.code = cc) (hl : l.stackTraces = false) {own cls text : String} {names : List String} {ik is ic mc ms sa : Nat} {A : Nat → Prop}
    (hown : s.vm.findClass own = some m.cls) (hcls : Bundle.fit cls = true) (hnames : ∀ n ∈ names, Bundle.fit n = true)
    (hk : (Cond.classLink own ik cls).before args s = true) (hini : (Cond.initialized cls).before args s = true) (hstr : vk_R own is text sa s) (hat : ∀ w ∈ vx_atS own ic cls names, w.before args s = true)
    (hgood : ∀ w ∈ Cond.classLink own ik cls :: Cond.initialized cls :: vx_atS own ic cls names, vx_ot w = true)
    (hU : vx_Zq Bundle.tN "UNASSIGNED_STACK" Bundle.steD A s s.heap) (hN : vx_Zq Bundle.tN "SUPPRESSED_SENTINEL" Bundle.listD A s s.heap) (hS : va_S A s.heap H locs) (hsize : ls.size = c.maxLocals)
    (d0 : decode cc pc = .ok (.new ik, 3)) (d3 : decode cc (pc + 3) = .ok (.dup, 1)) (d4 : decode cc (pc + 4) = .ok (.ldc is, 2)) (d6 : decode cc (pc + 6) = .ok (.invokespecial ic, 3)) (d9 : decode cc (pc + 9) = .ok (.athrow, 1))
    (hout : ∀ x ∈ c.exceptionTable.toList, covers x (pc + 9) = false)
    (hRframes : names.length + 3 < R.frames) (hRlocals : (rest.map fun v => v.category).sum + (13 * (names.length + 1) + 43) ≤ R.locals) (hRcells : cells + 1 ≤ R.cells) (hRslots : slots + 6 ≤ R.slots) (hlocks : meth.locks = false)
    (hx : ∀ t : State, s.vm.Alike t.vm → H.size ≤ t.heap.size → (∀ q : Nat, q < H.size → t.heap[q]? = H[q]?) → XC cls s t)
    (hf : ∀ z ∈ locs, free z.base) (hc : cells + 1 ≤ mc) (hs : slots + 6 ≤ ms) :
    W p l e R s m args below meth c H locs cells slots (vx_MQ below Qc XC args s mc ms free) (F0 m pc ls rest) := by
  intro T hT X
  have htr : e.platform.stackTraces = false := (show e.platform.stackTraces = l.stackTraces by rw [X.admits.platform]).trans hl
  have Y := vx_rebase X (R' := { frames := R.frames, locals := R.locals, cells := 1, slots := 6 }) (Nat.le_refl _) (Nat.le_refl _) hRcells hRslots
  obtain ⟨s', hA⟩ : ∃ z, z = (T.setVm s.vm).setFrames (.invoking m args :: below) := ⟨_, rfl⟩
  rw [← hA] at Y
  have hvm : s'.vm = s.vm := by rw [hA]; rfl
  have hhp : s'.heap = H := by rw [hA]; exact hT
  have hW0 : s.WarmedH s'.vm := by rw [hvm]; exact State.WarmedH.refl s
  have hat' : ∀ w ∈ vx_atS own ic cls names, w.before args s' = true := fun w hw => vx_ot_at hW0 hvm.symm (hgood w (List.mem_cons_of_mem _ (List.mem_cons_of_mem _ hw))) (hat w hw)
  have hk' : (Cond.classLink own ik cls).before args s' = true := vx_ot_at hW0 hvm.symm (hgood _ List.mem_cons_self) hk
  have hini' : (Cond.initialized cls).before args s' = true := vx_ot_at hW0 hvm.symm (hgood _ (List.mem_cons_of_mem _ List.mem_cons_self)) hini
  have hU' : vx_Zq Bundle.tN "UNASSIGNED_STACK" Bundle.steD A s' s'.heap := by rw [hhp]; exact vx_Zq.moved hW0.alike (hU.kept hS.2.1)
  have hN' : vx_Zq Bundle.tN "SUPPRESSED_SENTINEL" Bundle.listD A s' s'.heap := by rw [hhp]; exact vx_Zq.moved hW0.alike (hN.kept hS.2.1)
  have h : ∀ w ∈ Bundle.ownAtoms own ic cls names, w.before args s' = true := vx_own hat' (vx_isRefq hU'.1) (vx_isRefq hN'.1) hU'.2.word hN'.2.word
  have hown' : s'.vm.findClass own = some m.cls := by rw [hvm]; exact hown
  have hins : (Cond.instantiable cls 6).before args s' = true := h _ (by simp [Bundle.ownAtoms])
  obtain ⟨vm₁, cX, kX, hfX, hkX, -, -, X₁, st1⟩ := Y.newCold hexec (own := own) (C := cls) (index := ik) (n := 6) hown' hk' hins hini'
    (g := F0 m pc ls rest) rfl (by rw [hb]; exact d0) (Nat.le_refl _) (Nat.le_refl _)
  generalize hT1 : (T.setVm vm₁).pushCell { cls := cX, slots := kX.instanceTypes.map defaultValue, vm := .none } = T1 at X₁ st1
  have hcat : (Value.ref T.heap.size).category = 1 := rfl
  have hcellA : T1.heap[T.heap.size]? = some (freshCell cX kX) := by rw [← hT1]; exact State.heap_pushCell_size _ _
  have d3' : decode c.code (pc + 3) = .ok (.dup, 1) := by rw [hb]; exact d3
  have d4' : decode c.code (pc + 4) = .ok (.ldc is, 2) := by rw [hb]; exact d4
  have hstr' : vk_R own is text sa s' := vk_R.warm hW0 hstr
  obtain ⟨U, hsteps, hrun, hend, hW, hsame, ce, hce, hO⟩ := X₁.ctorThrowS hexec htr (own := own) (cls := cls) (names := names) (ic := ic) hown' hcls hnames h (fun x hx => nomatch hx) hfX hkX hcellA (by rw [hhp, hT]; exact Nat.le_refl _) (msg := .ref sa) rfl
    (g := { method := m, pc := pc + 6, locals := ls, stack := .ref sa :: .ref T.heap.size :: .ref T.heap.size :: rest, locked := none }) rfl hsize rfl rfl (rest := rest) rfl
    (by rw [hb]; exact d6) (by rw [hb]; exact d9) hout hRframes (by simp only [List.map_cons, List.sum_cons, hcat]; omega) hlocks
  obtain ⟨f1, f2⟩ := vx_frame hsame
  rw [hhp] at f1 f2
  have hWs : s.WarmedH U.vm := State.WarmedH.trans hW0 hW
  have hcl : s.vm.findClass cls = some ce.cls := by
    have h9 := hO.cls
    rw [hvm] at h9
    exact h9
  have hall : s.sameButNew ({ U with vm := s.vm } : State) locs mc ms := by
    subst hA
    obtain ⟨e1, e2⟩ := hsame
    rw [State.setFrames_setFrames] at e1
    have h2 : (T.setVm s.vm).sameButNew ({ U with vm := s.vm } : State) [] (0 + 1) (0 + 6) := ⟨e1, e2⟩
    have h3 := X.same.trans h2
    rw [List.append_nil] at h3
    exact h3.mono hc hs
  refine ⟨U, ?_, .threw T.heap.size, hrun, hend, Or.inr ⟨T.heap.size, rfl, cls, ce, locs, hx U hWs.alike f1 (fun q hq => f2 q hq (fun z hz => nomatch hz)), hce, hO.vm, hcl, hWs, hall, hf⟩⟩
  refine st1 _ ?_
  show Steps p.tables e below (T1.setTop { method := m, pc := pc + 3, locals := ls, stack := .ref T.heap.size :: rest, locked := none }) _
  jvm_step X₁.here [X₁.here.top, hexec, d3', Value.category]
  exact X₁.ldcString hexec (own := own) (text := text) (index := is) (a := sa) hown' hstr'.1 hstr'.2
    (g := { method := m, pc := pc + 4, locals := ls, stack := .ref T.heap.size :: .ref T.heap.size :: rest, locked := none }) rfl d4' _ hsteps
/-- 'throw new E("text")', the text by a wide index -/
theorem vx_throwSW {cc : ByteArray} {pc : Nat} (hexec : p.tables.exec = Jvm.exec) (hb : c.code = cc) (hl : l.stackTraces = false) {own cls text : String} {names : List String} {ik is ic mc ms sa : Nat} {A : Nat → Prop}
    (hown : s.vm.findClass own = some m.cls) (hcls : Bundle.fit cls = true) (hnames : ∀ n ∈ names, Bundle.fit n = true)
    (hk : (Cond.classLink own ik cls).before args s = true) (hini : (Cond.initialized cls).before args s = true) (hstr : vk_R own is text sa s) (hat : ∀ w ∈ vx_atS own ic cls names, w.before args s = true)
    (hgood : ∀ w ∈ Cond.classLink own ik cls :: Cond.initialized cls :: vx_atS own ic cls names, vx_ot w = true)
    (hU : vx_Zq Bundle.tN "UNASSIGNED_STACK" Bundle.steD A s s.heap) (hN : vx_Zq Bundle.tN "SUPPRESSED_SENTINEL" Bundle.listD A s s.heap) (hS : va_S A s.heap H locs) (hsize : ls.size = c.maxLocals)
    (d0 : decode cc pc = .ok (.new ik, 3)) (d3 : decode cc (pc + 3) = .ok (.dup, 1)) (d4 : decode cc (pc + 4) = .ok (.ldc_w is, 3)) (d7 : decode cc (pc + 7) = .ok (.invokespecial ic, 3)) (d10 : decode cc (pc + 10) = .ok (.athrow, 1))
    (hout : ∀ x ∈ c.exceptionTable.toList, covers x (pc + 10) = false)
    (hRframes : names.length + 3 < R.frames) (hRlocals : (rest.map fun v => v.category).sum + (13 * (names.length + 1) + 43) ≤ R.locals) (hRcells : cells + 1 ≤ R.cells) (hRslots : slots + 6 ≤ R.slots) (hlocks : meth.locks = false)
    (hx : ∀ t : State, s.vm.Alike t.vm → H.size ≤ t.heap.size → (∀ q : Nat, q < H.size → t.heap[q]? = H[q]?) → XC cls s t)
    (hf : ∀ z ∈ locs, free z.base) (hc : cells + 1 ≤ mc) (hs : slots + 6 ≤ ms) :
    W p l e R s m args below meth c H locs cells slots (vx_MQ below Qc XC args s mc ms free) (F0 m pc ls rest) := by
  intro T hT X
  have htr : e.platform.stackTraces = false := (show e.platform.stackTraces = l.stackTraces by rw [X.admits.platform]).trans hl
  have Y := vx_rebase X (R' := { frames := R.frames, locals := R.locals, cells := 1, slots := 6 }) (Nat.le_refl _) (Nat.le_refl _) hRcells hRslots
  obtain ⟨s', hA⟩ : ∃ z, z = (T.setVm s.vm).setFrames (.invoking m args :: below) := ⟨_, rfl⟩
  rw [← hA] at Y
  have hvm : s'.vm = s.vm := by rw [hA]; rfl
  have hhp : s'.heap = H := by rw [hA]; exact hT
  have hW0 : s.WarmedH s'.vm := by rw [hvm]; exact State.WarmedH.refl s
  have hat' : ∀ w ∈ vx_atS own ic cls names, w.before args s' = true := fun w hw => vx_ot_at hW0 hvm.symm (hgood w (List.mem_cons_of_mem _ (List.mem_cons_of_mem _ hw))) (hat w hw)
  have hk' : (Cond.classLink own ik cls).before args s' = true := vx_ot_at hW0 hvm.symm (hgood _ List.mem_cons_self) hk
  have hini' : (Cond.initialized cls).before args s' = true := vx_ot_at hW0 hvm.symm (hgood _ (List.mem_cons_of_mem _ List.mem_cons_self)) hini
  have hU' : vx_Zq Bundle.tN "UNASSIGNED_STACK" Bundle.steD A s' s'.heap := by rw [hhp]; exact vx_Zq.moved hW0.alike (hU.kept hS.2.1)
  have hN' : vx_Zq Bundle.tN "SUPPRESSED_SENTINEL" Bundle.listD A s' s'.heap := by rw [hhp]; exact vx_Zq.moved hW0.alike (hN.kept hS.2.1)
  have h : ∀ w ∈ Bundle.ownAtoms own ic cls names, w.before args s' = true := vx_own hat' (vx_isRefq hU'.1) (vx_isRefq hN'.1) hU'.2.word hN'.2.word
  have hown' : s'.vm.findClass own = some m.cls := by rw [hvm]; exact hown
  have hins : (Cond.instantiable cls 6).before args s' = true := h _ (by simp [Bundle.ownAtoms])
  obtain ⟨vm₁, cX, kX, hfX, hkX, -, -, X₁, st1⟩ := Y.newCold hexec (own := own) (C := cls) (index := ik) (n := 6) hown' hk' hins hini'
    (g := F0 m pc ls rest) rfl (by rw [hb]; exact d0) (Nat.le_refl _) (Nat.le_refl _)
  generalize hT1 : (T.setVm vm₁).pushCell { cls := cX, slots := kX.instanceTypes.map defaultValue, vm := .none } = T1 at X₁ st1
  have hcat : (Value.ref T.heap.size).category = 1 := rfl
  have hcellA : T1.heap[T.heap.size]? = some (freshCell cX kX) := by rw [← hT1]; exact State.heap_pushCell_size _ _
  have d3' : decode c.code (pc + 3) = .ok (.dup, 1) := by rw [hb]; exact d3
  have d4' : decode c.code (pc + 4) = .ok (.ldc_w is, 3) := by rw [hb]; exact d4
  have hstr' : vk_R own is text sa s' := vk_R.warm hW0 hstr
  obtain ⟨U, hsteps, hrun, hend, hW, hsame, ce, hce, hO⟩ := X₁.ctorThrowS hexec htr (own := own) (cls := cls) (names := names) (ic := ic) hown' hcls hnames h (fun x hx => nomatch hx) hfX hkX hcellA (by rw [hhp, hT]; exact Nat.le_refl _) (msg := .ref sa) rfl
    (g := { method := m, pc := pc + 7, locals := ls, stack := .ref sa :: .ref T.heap.size :: .ref T.heap.size :: rest, locked := none }) rfl hsize rfl rfl (rest := rest) rfl
    (by rw [hb]; exact d7) (by rw [hb]; exact d10) hout hRframes (by simp only [List.map_cons, List.sum_cons, hcat]; omega) hlocks
  obtain ⟨f1, f2⟩ := vx_frame hsame
  rw [hhp] at f1 f2
  have hWs : s.WarmedH U.vm := State.WarmedH.trans hW0 hW
  have hcl : s.vm.findClass cls = some ce.cls := by
    have h9 := hO.cls
    rw [hvm] at h9
    exact h9
  have hall : s.sameButNew ({ U with vm := s.vm } : State) locs mc ms := by
    subst hA
    obtain ⟨e1, e2⟩ := hsame
    rw [State.setFrames_setFrames] at e1
    have h2 : (T.setVm s.vm).sameButNew ({ U with vm := s.vm } : State) [] (0 + 1) (0 + 6) := ⟨e1, e2⟩
    have h3 := X.same.trans h2
    rw [List.append_nil] at h3
    exact h3.mono hc hs
  refine ⟨U, ?_, .threw T.heap.size, hrun, hend, Or.inr ⟨T.heap.size, rfl, cls, ce, locs, hx U hWs.alike f1 (fun q hq => f2 q hq (fun z hz => nomatch hz)), hce, hO.vm, hcl, hWs, hall, hf⟩⟩
  refine st1 _ ?_
  show Steps p.tables e below (T1.setTop { method := m, pc := pc + 3, locals := ls, stack := .ref T.heap.size :: rest, locked := none }) _
  jvm_step X₁.here [X₁.here.top, hexec, d3', Value.category]
  exact X₁.ldcStringW hexec (own := own) (text := text) (index := is) (a := sa) hown' hstr'.1 hstr'.2
    (g := { method := m, pc := pc + 4, locals := ls, stack := .ref T.heap.size :: .ref T.heap.size :: rest, locked := none }) rfl d4' _ hsteps
end Ends
section Bodies
variable {l : Launch}
theorem vx_ofW {y : MethodName} {ws ws' : List Cond} {rm : Room} {Pc : Array Value → State → Prop} {Qc : Array Value → State → Outcome → State → Prop} {XC : String → State → State → Prop} {mc ms : Nat} {free : Addr → Prop} {cc : ByteArray} {maxL : Nat} {ret : Option FieldType}
    (hy : plainName y.cls = true) (hw : ws = Cond.code y cc maxL ret :: ws')
    (body : ∀ p e s m args below meth c s₁, BodyLoose p l y (headSpec ws rm) cc maxL ret e s m args below meth c s₁ → c.maxLocals = maxL → (∀ x ∈ c.exceptionTable.toList, False) → Pc args s →
      W p l e (headSpec ws rm).room s m args below meth c s.heap [] 0 0 (vx_MQ below Qc XC args s mc ms free) (entryFrame m args maxL)) : vx_Met l y ws rm Pc Qc XC mc ms free := by
  refine MetFree.of_bodyS (code := cc) (maxLocals := maxL) (ret := ret) hy ?_ ?_
  · intro args s m h hn
    obtain ⟨meth, c, h1, h2, h3, h4, h5, h6, -, -⟩ := Cond.code_spec hn (atoms_spec (ws := ws) h _ (by rw [hw]; exact List.mem_cons_self))
    exact ⟨meth, c, h1, h2, h3, h4, h5, h6⟩
  · intro p e s m args below meth c s₁ B hml hP _
    have hh0 : s₁.heap = s.heap := by rw [B.state]; rfl
    have ht : ∀ x ∈ c.exceptionTable.toList, False := by
      obtain ⟨meth9, c9, h1, h2, -, -, -, -, h7, -⟩ := Cond.code_spec B.named (atoms_spec (ws := ws) B.pre _ (by rw [hw]; exact List.mem_cons_self))
      cases Option.some.inj (h1.symm.trans B.method)
      cases Option.some.inj (h2.symm.trans (Stand.of_body B).code)
      intro x hx
      rw [Array.isEmpty_iff.mp h7] at hx
      cases hx
    obtain ⟨t, a1, o, b1, b2, b3⟩ := body p e s m args below meth c s₁ B hml ht hP s₁ hh0 (Stand.of_body B)
    exact ⟨t, o, a1, b1, b2, b3⟩
/-- the table of a body with handlers -/
theorem vx_table {p : Program} {x y : MethodName} {S : Spec} {cc bytes : ByteArray} {maxL maxL' : Nat} {ret ret' : Option FieldType} {e : Env} {s s₁ : State} {m : MethodId} {args : Array Value} {below : List Frame} {meth : Method} {c : Code} {hh : List (Nat × Nat × Nat × Nat)}
    (B : BodyLoose p l y S cc maxL ret e s m args below meth c s₁) (h : (Cond.codeWith y bytes maxL' ret' hh).before args s = true) : c.exceptionTable.toList = tableOf hh := by
  obtain ⟨m9, meth9, c9, hn9, h1, h2, -, -, h6, -⟩ := Cond.codeWith_spec h
  cases Option.some.inj (hn9.symm.trans B.named)
  cases Option.some.inj (h1.symm.trans B.method)
  cases Option.some.inj (h2.symm.trans (Stand.of_body B).code)
  rw [← h6, table_eq]
end Bodies
end VXA
/-! ===== END ===== -/
/-! ===== BEGIN a static call of a method with an exception table ===== -/
section VXS
variable {p : Program} {l : Launch} {e : Env} {R : Room} {s : State} {m : MethodId} {args : Array Value} {below : List Frame} {meth : Method} {c : Code} {T : State} {H : Heap} {locs : List Loc} {cells slots : Nat}
abbrev vx_CSW (R : Room) (s : State) (args : Array Value) (own : String) (index : Nat) (y : MethodName) (bytes : ByteArray) (maxL : Nat) (ret : Option FieldType) (hh : List (Nat × Nat × Nat × Nat)) (ws : List Cond) (rm : Room) (mc ms n : Nat) : Prop :=
  (rm.cells = mc ∧ rm.slots = ms ∧ rm.frames + 1 ≤ R.frames ∧ 8 + (maxL + 11) + rm.locals ≤ R.locals ∧ (∀ w ∈ ws, ∀ (a' : Array Value) (U : State), s.WarmedH U.vm → w.before a' U = true) ∧ Cond.codeWith y bytes maxL ret hh ∈ ws) ∧
  (Cond.codeWith y bytes maxL ret hh).before args s = true ∧ (Cond.initialized y.cls).before args s = true ∧ (y.cls ≠ "java/lang/invoke/MethodHandle" ∧ y.cls ≠ "java/lang/invoke/VarHandle") ∧
  (∀ sig, parseMethodDescriptor y.desc = some sig → n = sig.parameters.length) ∧ (Cond.methodLink own index y).before args s = true ∧ (Cond.static y).before args s = true
theorem vx_cwSW {own : String} {index maxL mc ms : Nat} {y : MethodName} {bytes : ByteArray} {ret : Option FieldType} {hh : List (Nat × Nat × Nat × Nat)} {Ts ws ws' : List Cond} {rm : Room} (n : Nat) (ht : ∀ w ∈ Ts, w.before args s = true) (hT : GoodIn Ts (va_wsS own index y ws)) (hw : ws = Cond.codeWith y bytes maxL ret hh :: ws') (hrc : rm.cells = mc) (hrs : rm.slots = ms)
    (hd : y.cls ≠ "java/lang/invoke/MethodHandle" ∧ y.cls ≠ "java/lang/invoke/VarHandle" ∧ (parseMethodDescriptor y.desc).map (fun d => d.parameters.length) = some n) (hR : rm.frames + 1 ≤ R.frames ∧ 8 + (maxL + 11) + rm.locals ≤ R.locals) :
    vx_CSW R s args own index y bytes maxL ret hh ws rm mc ms n := by
  have ok : ∀ w ∈ va_wsS own index y ws, w.before args s = true := fun w h => ht w (hT w h).1
  have hG : GoodIn Ts ws := fun w h => hT w (by unfold va_wsS; exact List.mem_append_right _ h)
  have hc : Cond.codeWith y bytes maxL ret hh ∈ ws := by rw [hw]; exact List.mem_cons_self
  refine ⟨⟨hrc, hrs, hR.1, hR.2, pay_in ht hG, hc⟩, ht _ (hG _ hc).1, ok _ (by simp [va_wsS]), ⟨hd.1, hd.2.1⟩, fun sig h => ?_, ok _ (by simp [va_wsS]), ok _ (by simp [va_wsS])⟩
  have h2 := hd.2.2
  rw [h] at h2
  exact (Option.some.inj h2).symm
theorem vx_callSW (X : Stand p l e R s m args below meth c T locs cells slots) (hexec : p.tables.exec = Jvm.exec) {own : String} {index : Nat} {y : MethodName} {bytes : ByteArray} {maxL : Nat} {ret : Option FieldType} {hh : List (Nat × Nat × Nat × Nat)}
    (hown : s.vm.findClass own = some m.cls) (hlink : (Cond.methodLink own index y).before args s = true) (hstat : (Cond.static y).before args s = true) (hinit : (Cond.initialized y.cls).before args s = true)
    (hcode : (Cond.codeWith y bytes maxL ret hh).before args s = true) (hy : y.cls ≠ "java/lang/invoke/MethodHandle" ∧ y.cls ≠ "java/lang/invoke/VarHandle")
    {W9 : Nat} {Pre : Pt → Array Value → Prop} {Post : Pt → Array Value → Option Value → Pt → Prop} (hK : Back l R p e below s args y 3 W9 Pre Post)
    {g : JFrame} (hg : g.method = m) (hsize : g.locals.size = c.maxLocals) {argsL rest : List Value} (hlen : ∀ sig, parseMethodDescriptor y.desc = some sig → argsL.length = sig.parameters.length)
    (hstack : g.stack = argsL.reverse ++ rest) (hW : 2 * g.monitorRoom + (rest.map fun v => v.category).sum ≤ W9) (hdg : decode c.code g.pc = .ok (.invokestatic index, 3))
    (hpre : ∀ vm₁, s.WarmedH vm₁ → Pre ⟨T.setVm vm₁, locs, cells, slots⟩ argsL.toArray) :
    ∃ (v : Option Value) (vm₁ : Vm) (B : Pt), s.WarmedH vm₁ ∧ Stand p l e R s m args below meth c B.U B.locs B.cells B.slots ∧ Post ⟨T.setVm vm₁, locs, cells, slots⟩ argsL.toArray v B ∧
      ∀ target, Steps p.tables e below (B.U.setTop { g with pc := g.pc + 3, stack := v.toList ++ rest }) target → Steps p.tables e below (T.setTop g) target := by
  obtain ⟨mk, methM, cM, hnamed, hmethM, -, -, -, -, -, -, hsigM⟩ := Cond.codeWith_spec hcode
  have hstatic : methM.isStatic = true := Cond.static_spec hnamed hmethM hstat
  obtain ⟨kP, hkP, -⟩ := className_of_methodNamed hnamed
  have hinitP : kP.init = .initialized := Cond.initialized_spec (findClass_of_methodNamed hnamed) hkP hinit
  obtain ⟨vm₁, X₁, hstep₁⟩ := X.invokestatic hexec hown hlink hnamed hmethM hstatic hkP hinitP hy (g := g) hg (argsL := argsL) (rest := rest) (hlen _ hsigM) hstack hdg
  obtain ⟨v, B, X', hpost, hsteps⟩ := hK m meth c ⟨T.setVm vm₁, locs, cells, slots⟩ { g with stack := rest } (.invokestatic index) mk argsL.toArray X₁ hg hsize hdg hW (X₁.named hnamed) (hpre vm₁ X₁.warmed)
  exact ⟨v, vm₁, B, X₁.warmed, X', hpost, fun target h => hstep₁ _ fun acts => by rw [doInvoke_state]; exact hsteps.trans h⟩
theorem vx_runSW {y : MethodName} {bytes cc : ByteArray} {maxL nL mc ms n index : Nat} {ret : Option FieldType} {hh : List (Nat × Nat × Nat × Nat)} {ws : List Cond} {rm : Room} {Pc : Array Value → State → Prop} {Qc : Array Value → State → Outcome → State → Prop} {free : Addr → Prop} {Ts : List Cond} {own : String} {As rest : List Value} {g : JFrame}
    (S : CallFix p m c cc nL s args Ts own) (hM : Met l y ws rm Pc Qc mc ms free) (cw : vx_CSW R s args own index y bytes maxL ret hh ws rm mc ms n) (hp : PreS s H Pc As)
    (hg : g.method = m) (hn : As.length = n) (hsize : g.locals.size = nL) (hstack : g.stack = As.reverse ++ rest) (hW : 2 * g.monitorRoom + (rest.map fun v => v.category).sum ≤ 8) (hdg : decode cc g.pc = .ok (.invokestatic index, 3)) (hf : cells + mc ≤ R.cells ∧ slots + ms ≤ R.slots) :
    va_Run p l e R s m args below meth c H locs cells slots mc ms g rest (Qc As.toArray) (free) := by
  obtain ⟨⟨hrc, hrs, hfr, hlo, hws, hcw⟩, hcode, hini, hy, hlen, hl, hstt⟩ := cw
  have hK : Back l R p e below s args y 3 8 (PreOf R mc ms Pc) (PostOf Qc mc ms free) := va_backW (hh := hh) (bytes := bytes) (maxL := maxL) (ret := ret) hM hp.1 hrc hrs hfr hlo hws hcw (fun a' U hW => word_at hW (Or.inl (by first | rfl | simp [Cond.onTables, Cond.keeps, Cond.steady])) hini)
  obtain ⟨hx, hb, hml, ho, -⟩ := S
  intro T hT X
  obtain ⟨v, vm₁, ⟨U', l2, c2, s2⟩, hW₁, X', ⟨g', mk, t, L, e1, e2, hq, h1, hL, h2, h3⟩, st⟩ := vx_callSW X hx (hh := hh) (bytes := bytes) (maxL := maxL) (ret := ret) ho hl hstt hini hcode hy hK hg (hsize.trans hml.symm) (argsL := As) (rest := rest) (fun sig h => hn.trans (hlen sig h)) hstack hW (by rw [hb]; exact hdg)
    (fun vm₁ hW₁ => ⟨hf.1, hf.2, hp.2 (T.setVm vm₁) hT hW₁⟩)
  dsimp only [Pt.U, Pt.locs, Pt.cells, Pt.slots] at X' e1 e2 h1 h2 h3 st
  subst h1; subst h2; subst h3
  exact ⟨v, (T.setVm vm₁).calling g' mk As.toArray, t, U', L, hT, X', hL, e1, e2, hq, st⟩
/-- a thing of a world lies in the heap -/
theorem vx_lt {D : va_G} {cl : List vw_C} {ws : va_W} {H1 : Heap} (h : va_P D cl ws H1) {k : Nat} {q : Nat × va_E} (hk : ws[k]? = some q) : q.1 < H1.size := (h k q hk).lt
end VXS
/-! ===== END ===== -/
/-! ===== BEGIN methods with a table of their own: called by a name, returning or throwing ===== -/
section VXH
/-! vx_backW, vx_callVX, vx_callSX, vx_callVW, vx_runVW, vx_runVX, vx_runSX, vx_ofWH follow the same proofs as their sisters above (Free/Laws.lean, Shelf42/LK1.lean); vx_outP calls Shelf42/NT130.lean (outThrough). -/
section
variable {l : Launch} {R : Room} {p : Program} {e : Env} {below : List Frame} {s : State} {sargs : Array Value} {y : MethodName} {len W9 : Nat}
theorem vx_backW {ws : List Cond} {rm : Room} {Pc : Array Value → State → Prop} {Qc : Array Value → State → Outcome → State → Prop} {XC : String → State → State → Prop} {mc ms : Nat} {free : Addr → Prop} {bytes : ByteArray} {maxL : Nat} {ret : Option FieldType} {hh : List (Nat × Nat × Nat × Nat)}
    (hM : vx_Met l y ws rm Pc Qc XC mc ms free) (hblind : FrameBlind Pc) (hrc : rm.cells = mc) (hrs : rm.slots = ms)
    (hframes : rm.frames + 1 ≤ R.frames) (hlocals : W9 + (maxL + 11) + rm.locals ≤ R.locals)
    (hws : ∀ w ∈ ws, ∀ a' U, s.WarmedH U.vm → w.before a' U = true) (hcode : Cond.codeWith y bytes maxL ret hh ∈ ws) (hinit : ∀ a' U, s.WarmedH U.vm → (Cond.initialized y.cls).before a' U = true) :
    vx_Back l R p e below s sargs y len W9 (PreOf R mc ms Pc) (PostOf Qc mc ms free) (vx_Post XC mc ms free) := by
  intro m meth c A g ig mk a X hg hsize hdg hW hn hp
  have h1 : (headSpec ws rm).pre.before a A.U = true := atoms_intro fun w hw => hws w hw _ _ X.warmed
  have h2 : (Cond.codeWith y bytes maxL ret hh).before a A.U = true := hws _ hcode _ _ X.warmed
  have h3 : (Cond.initialized y.cls).before a A.U = true := hinit _ _ X.warmed
  have h4 : A.cells + (headSpec ws rm).room.cells ≤ R.cells := by rw [show (headSpec ws rm).room.cells = mc from hrc]; exact hp.1
  have h5 : A.slots + (headSpec ws rm).room.slots ≤ R.slots := by rw [show (headSpec ws rm).room.slots = ms from hrs]; exact hp.2.1
  have hPc : Pc a (A.U.calling g mk a) := hblind _ _ _ _ hp.2.2
  obtain ⟨U, Ls, c0, s0⟩ := A
  dsimp only [Pt.U, Pt.locs, Pt.cells, Pt.slots] at h1 h2 h3 h4 h5 X hn hPc ⊢
  obtain ⟨m9, methY, cY, hn9, hmY, hcY, -, hlY, -⟩ := Cond.codeWith_spec h2
  cases Option.some.inj (hn9.symm.trans hn)
  obtain ⟨kY, hkY, -⟩ := className_of_methodNamed hn
  have hinitY : kY.init = .initialized := Cond.initialized_spec (findClass_of_methodNamed hn) hkY h3
  have h : At U g.method c below := by rw [hg]; exact X.here
  have hlocals9 : W9 + (maxL + 11) + (headSpec ws rm).room.locals ≤ R.locals := hlocals
  have happ : (headSpec ws rm).appliesLoose y e.platform (U.calling g mk a) = true :=
    Spec.appliesLoose_calling (g := g) h hdg hn hkY hinitY
      (X.room_calling (g := g) (R' := (headSpec ws rm).room) hsize hmY hcY hframes (by rw [hlY]; omega) h4 h5) h1
  obtain ⟨mid, hmid⟩ := h.above
  have hfr : (U.setTop g).frames = (.java g :: mid) ++ below := by rw [State.frames_setTop' g h.top, hmid]; rfl
  obtain ⟨o, s₂, hsteps, -, hend, hq⟩ := Steps.callFree hM p X.admits X.cas X.clock (acts := []) hfr happ hPc trivial
  have hq' : vx_Q Qc XC mc ms free a (U.calling g mk a) o s₂ := hq
  rw [State.frames_setTop' g h.top] at hend
  obtain ⟨g₀, hg0⟩ := Option.isSome_iff_exists.mp h.top
  obtain ⟨r, hr⟩ := State.topJava?_eq_some.mp hg0
  have hr' : (({ U with heap := s₂.heap, slotsUsed := s₂.slotsUsed } : State).setVm s₂.vm).frames = .java g₀ :: r := hr
  rcases hq' with ⟨hqc, L, hfe, hL⟩ | ⟨q, rfl, E, ce, L, hx, hce, hcv, hcl, hW₂, hsm, hL⟩
  · obtain ⟨⟨v, rfl⟩, hW₂, e2, q2, q3, q4, q5, q6⟩ := id hfe
    have e3 : s₂ = ({ (U.calling g mk a).setFrames s₂.frames with heap := s₂.heap, slotsUsed := s₂.slotsUsed } : State).setVm s₂.vm := by
      have : s₂ = ({ s₂ with vm := (U.calling g mk a).vm } : State).setVm s₂.vm := rfl
      rw [e2] at this
      exact this
    obtain ⟨c₂, i₂, len₂, hc₂, hd₂, hf₂⟩ := hend
    have hW' : U.WarmedH s₂.vm := hW₂
    have hcc : c₂ = c := by
      have h1 : s₂.code? g.method = U.code? g.method := by
        rw [State.code?_eq, State.code?_eq, hW'.alike.method?]
      exact Option.some.inj (hc₂.symm.trans (h1.trans h.code))
    subst hcc
    have hlen : len₂ = len := by rw [hdg] at hd₂; cases hd₂; rfl
    subst hlen
    have hs₂ : s₂ = (({ U with heap := s₂.heap, slotsUsed := s₂.slotsUsed } : State).setVm s₂.vm).setTop { g with pc := g.pc + len₂, stack := v.toList ++ g.stack } := by
      refine e3.trans ?_
      rw [hf₂, State.calling_eq h.top, State.setFrames_setFrames, State.setTop_of_frames _ hr', hr]
      rfl
    have hsame : U.sameButNew ({ U with heap := s₂.heap, slotsUsed := s₂.slotsUsed } : State) L mc ms := by
      refine ⟨?_, q2, q3, q4, q5, q6⟩
      obtain ⟨t, ht, -⟩ := State.frames_cons hr
      show ({ U with heap := s₂.heap, slotsUsed := s₂.slotsUsed } : State) = { U.setFrames U.frames with heap := s₂.heap, slotsUsed := s₂.slotsUsed }
      rw [State.setFrames_self ht]
    subst hg
    refine Or.inl ⟨v, ⟨(({ U with heap := s₂.heap, slotsUsed := s₂.slotsUsed } : State).setVm s₂.vm), Ls ++ L, c0 + mc, s0 + ms⟩,
      ⟨X.admits, X.cas, X.clock, X.frames, X.room, X.hears, X.method, X.code, (X.here.setHeapUsed s₂.heap s₂.slotsUsed).setVm hW'.alike, X.tail, State.WarmedH.trans X.warmed hW', X.limits, X.bytes, X.same.trans (hsame.setVm s.vm)⟩,
      ⟨g, mk, s₂, L, rfl, rfl, hqc, rfl, hL, rfl, rfl⟩, ?_⟩
    show Steps p.tables e below _ ((({ U with heap := s₂.heap, slotsUsed := s₂.slotsUsed } : State).setVm s₂.vm).setTop { g with pc := g.pc + len₂, stack := v.toList ++ g.stack })
    rw [← hs₂]
    exact hsteps
  · obtain ⟨e2, q2, q3, q4, q5, q6⟩ := id hsm
    have e3 : s₂ = ({ (U.calling g mk a).setFrames s₂.frames with heap := s₂.heap, slotsUsed := s₂.slotsUsed } : State).setVm s₂.vm := by
      have : s₂ = ({ s₂ with vm := (U.calling g mk a).vm } : State).setVm s₂.vm := rfl
      rw [e2] at this
      exact this
    have hf₂ : s₂.frames = .throwing q :: .java g :: U.frames.tail := hend
    have hW' : U.WarmedH s₂.vm := hW₂
    have hs₂ : s₂ = ((({ U with heap := s₂.heap, slotsUsed := s₂.slotsUsed } : State).setVm s₂.vm).setTop g).pushFrame (.throwing q) := by
      refine e3.trans ?_
      rw [hf₂, State.calling_eq h.top, State.setFrames_setFrames, State.pushFrame, State.frames_setTop _ hr', State.setTop_of_frames _ hr', State.setFrames_setFrames, hr]
      rfl
    have hsame : U.sameButNew ({ U with heap := s₂.heap, slotsUsed := s₂.slotsUsed } : State) L mc ms := by
      refine ⟨?_, q2, q3, q4, q5, q6⟩
      obtain ⟨t, ht, -⟩ := State.frames_cons hr
      show ({ U with heap := s₂.heap, slotsUsed := s₂.slotsUsed } : State) = { U.setFrames U.frames with heap := s₂.heap, slotsUsed := s₂.slotsUsed }
      rw [State.setFrames_self ht]
    subst hg
    refine Or.inr ⟨q, ⟨(({ U with heap := s₂.heap, slotsUsed := s₂.slotsUsed } : State).setVm s₂.vm), Ls ++ L, c0 + mc, s0 + ms⟩,
      ⟨X.admits, X.cas, X.clock, X.frames, X.room, X.hears, X.method, X.code, (X.here.setHeapUsed s₂.heap s₂.slotsUsed).setVm hW'.alike, X.tail, State.WarmedH.trans X.warmed hW', X.limits, X.bytes, X.same.trans (hsame.setVm s.vm)⟩,
      ⟨g, mk, s₂, L, E, ce, rfl, rfl, hx, hce, hcv, hcl, rfl, hL, rfl, rfl⟩, ?_⟩
    show Steps p.tables e below _ (((({ U with heap := s₂.heap, slotsUsed := s₂.slotsUsed } : State).setVm s₂.vm).setTop g).pushFrame (.throwing q))
    rw [← hs₂]
    exact hsteps
end
variable {p : Program} {l : Launch} {e : Env} {R : Room} {s : State} {m : MethodId} {args : Array Value} {below : List Frame} {meth : Method} {c : Code} {T : State} {H : Heap} {locs : List Loc} {cells slots : Nat}
theorem vx_callVX (X : Stand p l e R s m args below meth c T locs cells slots) (hexec : p.tables.exec = Jvm.exec) {own C : String} {index : Nat} {y : MethodName} {bytes : ByteArray} {maxL : Nat} {ret : Option FieldType} {hh : List (Nat × Nat × Nat × Nat)}
    (hown : s.vm.findClass own = some m.cls) (hlink : (Cond.methodLink own index y).before args s = true) (hinst : (Cond.instanceMethod y).before args s = true) (hsel : (Cond.selects C y y).before args s = true)
    (hcode : (Cond.codeWith y bytes maxL ret hh).before args s = true) (hy : y.cls ≠ "java/lang/invoke/MethodHandle" ∧ y.cls ≠ "java/lang/invoke/VarHandle")
    {W9 : Nat} {Pre : Pt → Array Value → Prop} {Post : Pt → Array Value → Option Value → Pt → Prop} {PostX : Pt → Array Value → Addr → Pt → Prop} (hK : vx_Back l R p e below s args y 3 W9 Pre Post PostX)
    {b : Addr} {cellB : Cell} (hcell : T.heap[b]? = some cellB) (hobj : cellB.vm.isStatics = false) (hcls : s.vm.findClass C = some cellB.cls)
    {g : JFrame} (hg : g.method = m) (hsize : g.locals.size = c.maxLocals) {argsL rest : List Value} (hlen : ∀ sig, parseMethodDescriptor y.desc = some sig → argsL.length = sig.parameters.length)
    (hstack : g.stack = argsL.reverse ++ .ref b :: rest) (hW : 2 * g.monitorRoom + (rest.map fun v => v.category).sum ≤ W9) (hdg : decode c.code g.pc = .ok (.invokevirtual index, 3))
    (hpre : ∀ vm₁, s.WarmedH vm₁ → Pre ⟨T.setVm vm₁, locs, cells, slots⟩ (Value.ref b :: argsL).toArray) :
    (∃ (v : Option Value) (vm₁ : Vm) (B : Pt), s.WarmedH vm₁ ∧ Stand p l e R s m args below meth c B.U B.locs B.cells B.slots ∧ Post ⟨T.setVm vm₁, locs, cells, slots⟩ (Value.ref b :: argsL).toArray v B ∧
      ∀ target, Steps p.tables e below (B.U.setTop { g with pc := g.pc + 3, stack := v.toList ++ rest }) target → Steps p.tables e below (T.setTop g) target) ∨
    (∃ (q : Addr) (vm₁ : Vm) (B : Pt), s.WarmedH vm₁ ∧ Stand p l e R s m args below meth c B.U B.locs B.cells B.slots ∧ PostX ⟨T.setVm vm₁, locs, cells, slots⟩ (Value.ref b :: argsL).toArray q B ∧
      Steps p.tables e below (T.setTop g) ((B.U.setTop { g with stack := rest }).pushFrame (.throwing q))) := by
  obtain ⟨mk, methM, hnamed, hmethM, hstM, habM⟩ := Cond.instanceMethod_spec hinst
  obtain ⟨m8, methM', cM, hn8, hmethM', -, -, -, -, -, -, hsigM⟩ := Cond.codeWith_spec hcode
  cases Option.some.inj (hn8.symm.trans hnamed)
  cases hmethM.symm.trans hmethM'
  obtain ⟨c2, r2, m2, q1, q2, q3, q4, kP, hkP, hkPi⟩ := Cond.selects_spec hsel
  cases hcls.symm.trans q1
  cases (State.methodFound?_of_named hnamed hy).symm.trans q2
  cases hnamed.symm.trans q3
  have hselP : selectMethod e.platform s.vm cellB.cls mk = .method mk := by rw [Launch.admits_selectMethod X.admits]; exact q4
  obtain ⟨vm₁, X₁, hstep₁⟩ := X.invokevirtual hexec hown hlink hnamed hmethM hstM hkP hkPi hy (a := b) (cell := cellB) hcell
    (fun z h => by rw [h] at hobj; cases hobj) hselP hmethM habM hkP hkPi (g := g) hg (argsL := argsL) (rest := rest) (hlen _ hsigM) hstack hdg
  rcases hK m meth c ⟨T.setVm vm₁, locs, cells, slots⟩ { g with stack := rest } (.invokevirtual index) mk (Value.ref b :: argsL).toArray X₁ hg hsize hdg hW (X₁.named hnamed) (hpre vm₁ X₁.warmed) with ⟨v, B, X', hpost, hsteps⟩ | ⟨q, B, X', hpost, hsteps⟩
  · exact Or.inl ⟨v, vm₁, B, X₁.warmed, X', hpost, fun target h => hstep₁ _ fun acts => by rw [doInvoke_state]; exact hsteps.trans h⟩
  · exact Or.inr ⟨q, vm₁, B, X₁.warmed, X', hpost, hstep₁ _ fun acts => by rw [doInvoke_state]; exact hsteps⟩
theorem vx_callSX (X : Stand p l e R s m args below meth c T locs cells slots) (hexec : p.tables.exec = Jvm.exec) {own : String} {index : Nat} {y : MethodName} {bytes : ByteArray} {maxL : Nat} {ret : Option FieldType} {hh : List (Nat × Nat × Nat × Nat)}
    (hown : s.vm.findClass own = some m.cls) (hlink : (Cond.methodLink own index y).before args s = true) (hstat : (Cond.static y).before args s = true) (hinit : (Cond.initialized y.cls).before args s = true)
    (hcode : (Cond.codeWith y bytes maxL ret hh).before args s = true) (hy : y.cls ≠ "java/lang/invoke/MethodHandle" ∧ y.cls ≠ "java/lang/invoke/VarHandle")
    {W9 : Nat} {Pre : Pt → Array Value → Prop} {Post : Pt → Array Value → Option Value → Pt → Prop} {PostX : Pt → Array Value → Addr → Pt → Prop} (hK : vx_Back l R p e below s args y 3 W9 Pre Post PostX)
    {g : JFrame} (hg : g.method = m) (hsize : g.locals.size = c.maxLocals) {argsL rest : List Value} (hlen : ∀ sig, parseMethodDescriptor y.desc = some sig → argsL.length = sig.parameters.length)
    (hstack : g.stack = argsL.reverse ++ rest) (hW : 2 * g.monitorRoom + (rest.map fun v => v.category).sum ≤ W9) (hdg : decode c.code g.pc = .ok (.invokestatic index, 3))
    (hpre : ∀ vm₁, s.WarmedH vm₁ → Pre ⟨T.setVm vm₁, locs, cells, slots⟩ argsL.toArray) :
    (∃ (v : Option Value) (vm₁ : Vm) (B : Pt), s.WarmedH vm₁ ∧ Stand p l e R s m args below meth c B.U B.locs B.cells B.slots ∧ Post ⟨T.setVm vm₁, locs, cells, slots⟩ argsL.toArray v B ∧
      ∀ target, Steps p.tables e below (B.U.setTop { g with pc := g.pc + 3, stack := v.toList ++ rest }) target → Steps p.tables e below (T.setTop g) target) ∨
    (∃ (q : Addr) (vm₁ : Vm) (B : Pt), s.WarmedH vm₁ ∧ Stand p l e R s m args below meth c B.U B.locs B.cells B.slots ∧ PostX ⟨T.setVm vm₁, locs, cells, slots⟩ argsL.toArray q B ∧
      Steps p.tables e below (T.setTop g) ((B.U.setTop { g with stack := rest }).pushFrame (.throwing q))) := by
  obtain ⟨mk, methM, cM, hnamed, hmethM, -, -, -, -, -, -, hsigM⟩ := Cond.codeWith_spec hcode
  have hstatic : methM.isStatic = true := Cond.static_spec hnamed hmethM hstat
  obtain ⟨kP, hkP, -⟩ := className_of_methodNamed hnamed
  have hinitP : kP.init = .initialized := Cond.initialized_spec (findClass_of_methodNamed hnamed) hkP hinit
  obtain ⟨vm₁, X₁, hstep₁⟩ := X.invokestatic hexec hown hlink hnamed hmethM hstatic hkP hinitP hy (g := g) hg (argsL := argsL) (rest := rest) (hlen _ hsigM) hstack hdg
  rcases hK m meth c ⟨T.setVm vm₁, locs, cells, slots⟩ { g with stack := rest } (.invokestatic index) mk argsL.toArray X₁ hg hsize hdg hW (X₁.named hnamed) (hpre vm₁ X₁.warmed) with ⟨v, B, X', hpost, hsteps⟩ | ⟨q, B, X', hpost, hsteps⟩
  · exact Or.inl ⟨v, vm₁, B, X₁.warmed, X', hpost, fun target h => hstep₁ _ fun acts => by rw [doInvoke_state]; exact hsteps.trans h⟩
  · exact Or.inr ⟨q, vm₁, B, X₁.warmed, X', hpost, hstep₁ _ fun acts => by rw [doInvoke_state]; exact hsteps⟩
theorem vx_callVW (X : Stand p l e R s m args below meth c T locs cells slots) (hexec : p.tables.exec = Jvm.exec) {own C : String} {index : Nat} {y : MethodName} {bytes : ByteArray} {maxL : Nat} {ret : Option FieldType} {hh : List (Nat × Nat × Nat × Nat)}
    (hown : s.vm.findClass own = some m.cls) (hlink : (Cond.methodLink own index y).before args s = true) (hinst : (Cond.instanceMethod y).before args s = true) (hsel : (Cond.selects C y y).before args s = true)
    (hcode : (Cond.codeWith y bytes maxL ret hh).before args s = true) (hy : y.cls ≠ "java/lang/invoke/MethodHandle" ∧ y.cls ≠ "java/lang/invoke/VarHandle")
    {W9 : Nat} {Pre : Pt → Array Value → Prop} {Post : Pt → Array Value → Option Value → Pt → Prop} (hK : Back l R p e below s args y 3 W9 Pre Post)
    {b : Addr} {cellB : Cell} (hcell : T.heap[b]? = some cellB) (hobj : cellB.vm.isStatics = false) (hcls : s.vm.findClass C = some cellB.cls)
    {g : JFrame} (hg : g.method = m) (hsize : g.locals.size = c.maxLocals) {argsL rest : List Value} (hlen : ∀ sig, parseMethodDescriptor y.desc = some sig → argsL.length = sig.parameters.length)
    (hstack : g.stack = argsL.reverse ++ .ref b :: rest) (hW : 2 * g.monitorRoom + (rest.map fun v => v.category).sum ≤ W9) (hdg : decode c.code g.pc = .ok (.invokevirtual index, 3))
    (hpre : ∀ vm₁, s.WarmedH vm₁ → Pre ⟨T.setVm vm₁, locs, cells, slots⟩ (Value.ref b :: argsL).toArray) :
    ∃ (v : Option Value) (vm₁ : Vm) (B : Pt), s.WarmedH vm₁ ∧ Stand p l e R s m args below meth c B.U B.locs B.cells B.slots ∧ Post ⟨T.setVm vm₁, locs, cells, slots⟩ (Value.ref b :: argsL).toArray v B ∧
      ∀ target, Steps p.tables e below (B.U.setTop { g with pc := g.pc + 3, stack := v.toList ++ rest }) target → Steps p.tables e below (T.setTop g) target := by
  obtain ⟨mk, methM, hnamed, hmethM, hstM, habM⟩ := Cond.instanceMethod_spec hinst
  obtain ⟨m8, methM', cM, hn8, hmethM', -, -, -, -, -, -, hsigM⟩ := Cond.codeWith_spec hcode
  cases Option.some.inj (hn8.symm.trans hnamed)
  cases hmethM.symm.trans hmethM'
  obtain ⟨c2, r2, m2, q1, q2, q3, q4, kP, hkP, hkPi⟩ := Cond.selects_spec hsel
  cases hcls.symm.trans q1
  cases (State.methodFound?_of_named hnamed hy).symm.trans q2
  cases hnamed.symm.trans q3
  have hselP : selectMethod e.platform s.vm cellB.cls mk = .method mk := by rw [Launch.admits_selectMethod X.admits]; exact q4
  obtain ⟨vm₁, X₁, hstep₁⟩ := X.invokevirtual hexec hown hlink hnamed hmethM hstM hkP hkPi hy (a := b) (cell := cellB) hcell
    (fun z h => by rw [h] at hobj; cases hobj) hselP hmethM habM hkP hkPi (g := g) hg (argsL := argsL) (rest := rest) (hlen _ hsigM) hstack hdg
  obtain ⟨v, B, X', hpost, hsteps⟩ := hK m meth c ⟨T.setVm vm₁, locs, cells, slots⟩ { g with stack := rest } (.invokevirtual index) mk (Value.ref b :: argsL).toArray X₁ hg hsize hdg hW (X₁.named hnamed) (hpre vm₁ X₁.warmed)
  exact ⟨v, vm₁, B, X₁.warmed, X', hpost, fun target h => hstep₁ _ fun acts => by rw [doInvoke_state]; exact hsteps.trans h⟩
abbrev vx_CVW (R : Room) (s : State) (args : Array Value) (own C : String) (index : Nat) (y : MethodName) (bytes : ByteArray) (maxL : Nat) (ret : Option FieldType) (hh : List (Nat × Nat × Nat × Nat)) (ws : List Cond) (rm : Room) (mc ms n : Nat) : Prop :=
  (rm.cells = mc ∧ rm.slots = ms ∧ rm.frames + 1 ≤ R.frames ∧ 8 + (maxL + 11) + rm.locals ≤ R.locals ∧ (∀ w ∈ ws, ∀ (a' : Array Value) (U : State), s.WarmedH U.vm → w.before a' U = true) ∧ Cond.codeWith y bytes maxL ret hh ∈ ws) ∧
  (Cond.codeWith y bytes maxL ret hh).before args s = true ∧ (Cond.initialized y.cls).before args s = true ∧ (y.cls ≠ "java/lang/invoke/MethodHandle" ∧ y.cls ≠ "java/lang/invoke/VarHandle") ∧
  (∀ sig, parseMethodDescriptor y.desc = some sig → n = sig.parameters.length) ∧ (Cond.methodLink own index y).before args s = true ∧ (Cond.instanceMethod y).before args s = true ∧ (Cond.selects C y y).before args s = true
theorem vx_cwVW {own C : String} {index maxL mc ms : Nat} {y : MethodName} {bytes : ByteArray} {ret : Option FieldType} {hh : List (Nat × Nat × Nat × Nat)} {Ts ws ws' : List Cond} {rm : Room} (n : Nat) (ht : ∀ w ∈ Ts, w.before args s = true) (hT : GoodIn Ts (wsV own index C y ws)) (hw : ws = Cond.codeWith y bytes maxL ret hh :: ws') (hrc : rm.cells = mc) (hrs : rm.slots = ms)
    (hd : y.cls = C ∧ y.cls ≠ "java/lang/invoke/MethodHandle" ∧ y.cls ≠ "java/lang/invoke/VarHandle" ∧ (parseMethodDescriptor y.desc).map (fun d => d.parameters.length) = some n) (hR : rm.frames + 1 ≤ R.frames ∧ 8 + (maxL + 11) + rm.locals ≤ R.locals) :
    vx_CVW R s args own C index y bytes maxL ret hh ws rm mc ms n := by
  obtain ⟨hC, hd⟩ := hd
  subst hC
  have ok : ∀ w ∈ wsV own index y.cls y ws, w.before args s = true := fun w h => ht w (hT w h).1
  have hG : GoodIn Ts ws := fun w h => hT w (by unfold wsV; exact List.mem_append_right _ h)
  have hc : Cond.codeWith y bytes maxL ret hh ∈ ws := by rw [hw]; exact List.mem_cons_self
  refine ⟨⟨hrc, hrs, hR.1, hR.2, pay_in ht hG, hc⟩, ht _ (hG _ hc).1, ok _ (by simp [wsV]), ⟨hd.1, hd.2.1⟩, fun sig h => ?_, ok _ (by simp [wsV]), ok _ (by simp [wsV]), ok _ (by simp [wsV])⟩
  have h2 := hd.2.2
  rw [h] at h2
  exact (Option.some.inj h2).symm
theorem vx_runVW {y : MethodName} {bytes cc : ByteArray} {maxL nL mc ms n index : Nat} {ret : Option FieldType} {hh : List (Nat × Nat × Nat × Nat)} {ws : List Cond} {rm : Room} {Pc : Array Value → State → Prop} {Qc : Array Value → State → Outcome → State → Prop} {free : Addr → Prop} {Ts : List Cond} {own C : String} {b : Addr} {As rest : List Value} {g : JFrame}
    (S : CallFix p m c cc nL s args Ts own) (hM : Met l y ws rm Pc Qc mc ms free) (cw : vx_CVW R s args own C index y bytes maxL ret hh ws rm mc ms n) (hp : PreV s H C b Pc As)
    (hg : g.method = m) (hn : As.length = n) (hsize : g.locals.size = nL) (hstack : g.stack = As.reverse ++ .ref b :: rest) (hW : 2 * g.monitorRoom + (rest.map fun v => v.category).sum ≤ 8) (hdg : decode cc g.pc = .ok (.invokevirtual index, 3)) (hf : cells + mc ≤ R.cells ∧ slots + ms ≤ R.slots) :
    va_Run p l e R s m args below meth c H locs cells slots mc ms g rest (Qc (Value.ref b :: As).toArray) free := by
  obtain ⟨⟨hrc, hrs, hfr, hlo, hws, hcw⟩, hcode, hini, hy, hlen, hl, hin, hse⟩ := cw
  have hK : Back l R p e below s args y 3 8 (PreOf R mc ms Pc) (PostOf Qc mc ms free) := va_backW (hh := hh) (bytes := bytes) (maxL := maxL) (ret := ret) hM hp.1 hrc hrs hfr hlo hws hcw (fun a' U hW => word_at hW (Or.inl (by first | rfl | simp [Cond.onTables, Cond.keeps, Cond.steady])) hini)
  obtain ⟨hx, hb, hml, ho, -⟩ := S
  obtain ⟨-, ⟨cellB, hcB, hoB, hclB⟩, hPc⟩ := hp
  intro T hT X
  obtain ⟨v, vm₁, ⟨U', l2, c2, s2⟩, hW₁, X', ⟨g', mk, t, L, e1, e2, hq, h1, hL, h2, h3⟩, st⟩ := vx_callVW X hx (C := C) (hh := hh) (bytes := bytes) (maxL := maxL) (ret := ret) ho hl hin hse hcode hy hK (by rw [hT]; exact hcB) hoB hclB hg (hsize.trans hml.symm) (argsL := As) (rest := rest) (fun sig h => hn.trans (hlen sig h)) hstack hW (by rw [hb]; exact hdg)
    (fun vm₁ hW₁ => ⟨hf.1, hf.2, hPc (T.setVm vm₁) hT hW₁⟩)
  dsimp only [Pt.U, Pt.locs, Pt.cells, Pt.slots] at X' e1 e2 h1 h2 h3 st
  subst h1; subst h2; subst h3
  exact ⟨v, (T.setVm vm₁).calling g' mk (Value.ref b :: As).toArray, t, U', L, hT, X', hL, e1, e2, hq, st⟩
section
variable {y : MethodName} {bytes cc : ByteArray} {maxL nL mc ms n index : Nat} {ret : Option FieldType} {ws : List Cond} {rm : Room} {Pc : Array Value → State → Prop} {Qc : Array Value → State → Outcome → State → Prop} {XC : String → State → State → Prop} {free : Addr → Prop} {Ts : List Cond} {own C : String} {b : Addr} {As rest : List Value} {g : JFrame}
theorem vx_runVX {hh : List (Nat × Nat × Nat × Nat)} (S : CallFix p m c cc nL s args Ts own) (hM : vx_Met l y ws rm Pc Qc XC mc ms free) (cw : vx_CVW R s args own C index y bytes maxL ret hh ws rm mc ms n) (hp : PreV s H C b Pc As)
    (hg : g.method = m) (hn : As.length = n) (hsize : g.locals.size = nL) (hstack : g.stack = As.reverse ++ .ref b :: rest) (hW : 2 * g.monitorRoom + (rest.map fun v => v.category).sum ≤ 8) (hdg : decode cc g.pc = .ok (.invokevirtual index, 3)) (hf : cells + mc ≤ R.cells ∧ slots + ms ≤ R.slots) :
    vx_Run p l e R s m args below meth c H locs cells slots mc ms g rest (Qc (Value.ref b :: As).toArray) XC free := by
  obtain ⟨⟨hrc, hrs, hfr, hlo, hws, hcw⟩, hcode, hini, hy, hlen, hl, hin, hse⟩ := cw
  have hK : vx_Back l R p e below s args y 3 8 (PreOf R mc ms Pc) (PostOf Qc mc ms free) (vx_Post XC mc ms free) := vx_backW (hh := hh) (bytes := bytes) (maxL := maxL) (ret := ret) hM hp.1 hrc hrs hfr hlo hws hcw (fun a' U hW => word_at hW (Or.inl (by first | rfl | simp [Cond.onTables, Cond.keeps, Cond.steady])) hini)
  obtain ⟨hx, hb, hml, ho, -⟩ := S
  obtain ⟨-, ⟨cellB, hcB, hoB, hclB⟩, hPc⟩ := hp
  intro T hT X
  rcases vx_callVX X hx (C := C) (hh := hh) (bytes := bytes) (maxL := maxL) (ret := ret) ho hl hin hse hcode hy hK (by rw [hT]; exact hcB) hoB hclB hg (hsize.trans hml.symm) (argsL := As) (rest := rest) (fun sig h => hn.trans (hlen sig h)) hstack hW (by rw [hb]; exact hdg)
    (fun vm₁ hW₁ => ⟨hf.1, hf.2, hPc (T.setVm vm₁) hT hW₁⟩) with ⟨v, vm₁, ⟨U', l2, c2, s2⟩, hW₁, X', ⟨g', mk, t, L, e1, e2, hq, h1, hL, h2, h3⟩, st⟩ | ⟨q, vm₁, ⟨U', l2, c2, s2⟩, hW₁, X', ⟨g', mk, t, L, E, ce, e1, e2, hq, hce, hcv, hcl, h1, hL, h2, h3⟩, st⟩
  · dsimp only [Pt.U, Pt.locs, Pt.cells, Pt.slots] at X' e1 e2 h1 h2 h3 st
    subst h1; subst h2; subst h3
    exact Or.inl ⟨v, (T.setVm vm₁).calling g' mk (Value.ref b :: As).toArray, t, U', L, hT, X', hL, e1, e2, hq, st⟩
  · dsimp only [Pt.U, Pt.locs, Pt.cells, Pt.slots] at X' e1 e2 h1 h2 h3 st hcl
    subst h1; subst h2; subst h3
    exact Or.inr ⟨q, (T.setVm vm₁).calling g' mk (Value.ref b :: As).toArray, t, U', L, E, ce, hT, X', hL, e1, e2, hq, hce, hcv, vx_cls hW₁ hcl, st⟩
theorem vx_runSX {hh : List (Nat × Nat × Nat × Nat)} (S : CallFix p m c cc nL s args Ts own) (hM : vx_Met l y ws rm Pc Qc XC mc ms free) (cw : vx_CSW R s args own index y bytes maxL ret hh ws rm mc ms n) (hp : PreS s H Pc As)
    (hg : g.method = m) (hn : As.length = n) (hsize : g.locals.size = nL) (hstack : g.stack = As.reverse ++ rest) (hW : 2 * g.monitorRoom + (rest.map fun v => v.category).sum ≤ 8) (hdg : decode cc g.pc = .ok (.invokestatic index, 3)) (hf : cells + mc ≤ R.cells ∧ slots + ms ≤ R.slots) :
    vx_Run p l e R s m args below meth c H locs cells slots mc ms g rest (Qc As.toArray) XC free := by
  obtain ⟨⟨hrc, hrs, hfr, hlo, hws, hcw⟩, hcode, hini, hy, hlen, hl, hstt⟩ := cw
  have hK : vx_Back l R p e below s args y 3 8 (PreOf R mc ms Pc) (PostOf Qc mc ms free) (vx_Post XC mc ms free) := vx_backW (hh := hh) (bytes := bytes) (maxL := maxL) (ret := ret) hM hp.1 hrc hrs hfr hlo hws hcw (fun a' U hW => word_at hW (Or.inl (by first | rfl | simp [Cond.onTables, Cond.keeps, Cond.steady])) hini)
  obtain ⟨hx, hb, hml, ho, -⟩ := S
  intro T hT X
  rcases vx_callSX X hx (hh := hh) (bytes := bytes) (maxL := maxL) (ret := ret) ho hl hstt hini hcode hy hK hg (hsize.trans hml.symm) (argsL := As) (rest := rest) (fun sig h => hn.trans (hlen sig h)) hstack hW (by rw [hb]; exact hdg)
    (fun vm₁ hW₁ => ⟨hf.1, hf.2, hp.2 (T.setVm vm₁) hT hW₁⟩) with ⟨v, vm₁, ⟨U', l2, c2, s2⟩, hW₁, X', ⟨g', mk, t, L, e1, e2, hq, h1, hL, h2, h3⟩, st⟩ | ⟨q, vm₁, ⟨U', l2, c2, s2⟩, hW₁, X', ⟨g', mk, t, L, E, ce, e1, e2, hq, hce, hcv, hcl, h1, hL, h2, h3⟩, st⟩
  · dsimp only [Pt.U, Pt.locs, Pt.cells, Pt.slots] at X' e1 e2 h1 h2 h3 st
    subst h1; subst h2; subst h3
    exact Or.inl ⟨v, (T.setVm vm₁).calling g' mk As.toArray, t, U', L, hT, X', hL, e1, e2, hq, st⟩
  · dsimp only [Pt.U, Pt.locs, Pt.cells, Pt.slots] at X' e1 e2 h1 h2 h3 st hcl
    subst h1; subst h2; subst h3
    exact Or.inr ⟨q, (T.setVm vm₁).calling g' mk As.toArray, t, U', L, E, ce, hT, X', hL, e1, e2, hq, hce, hcv, vx_cls hW₁ hcl, st⟩
end
end VXH
theorem vx_ofWH {l : Launch} {y : MethodName} {ws ws' : List Cond} {rm : Room} {Pc : Array Value → State → Prop} {Qc : Array Value → State → Outcome → State → Prop} {XC : String → State → State → Prop} {mc ms : Nat} {free : Addr → Prop} {cc : ByteArray} {maxL : Nat} {ret : Option FieldType} {hh : List (Nat × Nat × Nat × Nat)}
    (hy : plainName y.cls = true) (hw : ws = Cond.codeWith y cc maxL ret hh :: ws')
    (body : ∀ p e s m args below meth c s₁, BodyLoose p l y (headSpec ws rm) cc maxL ret e s m args below meth c s₁ → c.maxLocals = maxL → Pc args s →
      W p l e (headSpec ws rm).room s m args below meth c s.heap [] 0 0 (vx_MQ below Qc XC args s mc ms free) (entryFrame m args maxL)) : vx_Met l y ws rm Pc Qc XC mc ms free := by
  refine MetFree.of_bodyS (code := cc) (maxLocals := maxL) (ret := ret) hy ?_ ?_
  · intro args s m h hn
    obtain ⟨m9, meth, c, hn9, h1, h2, h3, h4, -, h5, h6, -⟩ := Cond.codeWith_spec (atoms_spec (ws := ws) h _ (by rw [hw]; exact List.mem_cons_self))
    cases hn.symm.trans hn9
    exact ⟨meth, c, h1, h2, h3, h4, h5, h6⟩
  · intro p e s m args below meth c s₁ B hml hP _
    have hh0 : s₁.heap = s.heap := by rw [B.state]; rfl
    obtain ⟨t, a1, o, b1, b2, b3⟩ := body p e s m args below meth c s₁ B hml hP s₁ hh0 (Stand.of_body B)
    exact ⟨t, o, a1, b1, b2, b3⟩
/-! ===== END ===== -/
end
section
/-! ===== BEGIN printed: names, fields, word lists, decode rows ===== -/
def RX0 : String := "CookieListener$Connections"
def TX0 : u_T := fun k => match k with
  | 0 => ("CookieListener$Connections", "callers", "[J", true)
  | 1 => ("CookieListener$Connections", "kinds", "[I", true)
  | 2 => ("CookieListener$Connections", "count", "I", false)
  | _ => ("CookieListener$Connections", "taken", "I", false)
def tyX0 : Nat → FieldType := fun k => match k with
  | 0 => .array .long
  | 1 => .array .int
  | 2 => .int
  | _ => .int
abbrev wsX00 : List Cond := u_ws RX0 TX0 4
theorem nmX0 : ∀ a, a < 4 → ∀ b, b < 4 → a ≠ b → (TX0 a).2.1 ≠ (TX0 b).2.1 := by decide +kernel
theorem tyX0_ok : ∀ k, k < 4 → parseFieldDescriptor (TX0 k).2.2.1 = some (tyX0 k) := by decide +kernel
abbrev cX0_init : ByteArray := prog_2_method_1_code
def yX0_init : MethodName := ⟨RX0, "<init>", "()V"⟩
abbrev cX0_waiting : ByteArray := prog_2_method_2_code
def yX0_waiting : MethodName := ⟨RX0, "waiting", "()I"⟩
abbrev cX0_isTaken : ByteArray := prog_2_method_3_code
def yX0_isTaken : MethodName := ⟨RX0, "isTaken", "(I)Z"⟩
abbrev cX0_hasRoom : ByteArray := prog_2_method_4_code
def yX0_hasRoom : MethodName := ⟨RX0, "hasRoom", "(I)Z"⟩
abbrev cX0_find : ByteArray := prog_2_method_5_code
def yX0_find : MethodName := ⟨RX0, "find", "(J)I"⟩
abbrev cX0_add : ByteArray := prog_2_method_6_code
def yX0_add : MethodName := ⟨RX0, "add", "(JI)V"⟩
abbrev cX0_takeFirst : ByteArray := prog_2_method_7_code
def yX0_takeFirst : MethodName := ⟨RX0, "takeFirst", "()I"⟩
abbrev cX0_drop : ByteArray := prog_2_method_8_code
def yX0_drop : MethodName := ⟨RX0, "drop", "(I)V"⟩
def RX1 : String := "CookieListener$Halves"
def TX1 : u_T := fun k => match k with
  | 0 => ("CookieListener$Halves", "callers", "[J", true)
  | 1 => ("CookieListener$Halves", "numbers", "[I", true)
  | 2 => ("CookieListener$Halves", "answers", "[I", true)
  | 3 => ("CookieListener$Halves", "kinds", "[I", true)
  | 4 => ("CookieListener$Halves", "asked", "[I", true)
  | _ => ("CookieListener$Halves", "count", "I", false)
def tyX1 : Nat → FieldType := fun k => match k with
  | 0 => .array .long
  | 1 => .array .int
  | 2 => .array .int
  | 3 => .array .int
  | 4 => .array .int
  | _ => .int
abbrev wsX10 : List Cond := u_ws RX1 TX1 6
theorem nmX1 : ∀ a, a < 6 → ∀ b, b < 6 → a ≠ b → (TX1 a).2.1 ≠ (TX1 b).2.1 := by decide +kernel
theorem tyX1_ok : ∀ k, k < 6 → parseFieldDescriptor (TX1 k).2.2.1 = some (tyX1 k) := by decide +kernel
abbrev cX1_init : ByteArray := prog_3_method_1_code
def yX1_init : MethodName := ⟨RX1, "<init>", "()V"⟩
abbrev cX1_find : ByteArray := prog_3_method_2_code
def yX1_find : MethodName := ⟨RX1, "find", "(J)I"⟩
abbrev cX1_add : ByteArray := prog_3_method_3_code
def yX1_add : MethodName := ⟨RX1, "add", "(JIIII)V"⟩
abbrev cX1_drop : ByteArray := prog_3_method_4_code
def yX1_drop : MethodName := ⟨RX1, "drop", "(I)V"⟩
abbrev cX1_dropOld : ByteArray := prog_3_method_5_code
def yX1_dropOld : MethodName := ⟨RX1, "dropOld", "(I)V"⟩
def RX2 : String := "CookieListener$SipHash"
def TX2 : u_T := fun k => match k with
  | 0 => ("CookieListener$SipHash", "k", "J", false)
  | 1 => ("CookieListener$SipHash", "l", "J", false)
  | 2 => ("CookieListener$SipHash", "v0", "J", false)
  | 3 => ("CookieListener$SipHash", "v1", "J", false)
  | 4 => ("CookieListener$SipHash", "v2", "J", false)
  | _ => ("CookieListener$SipHash", "v3", "J", false)
def tyX2 : Nat → FieldType := fun k => match k with
  | 0 => .long
  | 1 => .long
  | 2 => .long
  | 3 => .long
  | 4 => .long
  | _ => .long
abbrev wsX20 : List Cond := u_ws RX2 TX2 6
theorem nmX2 : ∀ a, a < 6 → ∀ b, b < 6 → a ≠ b → (TX2 a).2.1 ≠ (TX2 b).2.1 := by decide +kernel
theorem tyX2_ok : ∀ k, k < 6 → parseFieldDescriptor (TX2 k).2.2.1 = some (tyX2 k) := by decide +kernel
abbrev cX2_init : ByteArray := prog_4_method_1_code
def yX2_init : MethodName := ⟨RX2, "<init>", "()V"⟩
abbrev cX2_useKey : ByteArray := prog_4_method_2_code
def yX2_useKey : MethodName := ⟨RX2, "useKey", "(JJ)V"⟩
abbrev cX2_digest : ByteArray := prog_4_method_3_code
def yX2_digest : MethodName := ⟨RX2, "digest", "(JJ)J"⟩
abbrev cX2_absorb : ByteArray := prog_4_method_4_code
def yX2_absorb : MethodName := ⟨RX2, "absorb", "(J)V"⟩
abbrev cX2_mix : ByteArray := prog_4_method_5_code
def yX2_mix : MethodName := ⟨RX2, "mix", "(I)V"⟩
abbrev cX2_turnLeft : ByteArray := prog_4_method_6_code
def yX2_turnLeft : MethodName := ⟨RX2, "turnLeft", "(JI)J"⟩
def RX3 : String := "CookieListener"
def TX3 : u_T := fun k => match k with
  | 0 => ("CookieListener", "sip", "LCookieListener$SipHash;", true)
  | 1 => ("CookieListener", "halves", "LCookieListener$Halves;", true)
  | 2 => ("CookieListener", "connections", "LCookieListener$Connections;", true)
  | 3 => ("CookieListener", "sizeOfHalves", "I", false)
  | 4 => ("CookieListener", "roomOfQueue", "I", false)
  | 5 => ("CookieListener", "time", "I", false)
  | 6 => ("CookieListener", "cookiesTime", "I", false)
  | 7 => ("CookieListener", "cookiesGiven", "I", false)
  | 8 => ("CookieListener", "openedByHalves", "I", false)
  | 9 => ("CookieListener", "openedByCookies", "I", false)
  | _ => ("CookieListener", "unproven", "I", false)
def tyX3 : Nat → FieldType := fun k => match k with
  | 0 => .object "CookieListener$SipHash"
  | 1 => .object "CookieListener$Halves"
  | 2 => .object "CookieListener$Connections"
  | 3 => .int
  | 4 => .int
  | 5 => .int
  | 6 => .int
  | 7 => .int
  | 8 => .int
  | 9 => .int
  | _ => .int
abbrev wsX30 : List Cond := u_ws RX3 TX3 11
theorem nmX3 : ∀ a, a < 11 → ∀ b, b < 11 → a ≠ b → (TX3 a).2.1 ≠ (TX3 b).2.1 := by decide +kernel
theorem tyX3_ok : ∀ k, k < 11 → parseFieldDescriptor (TX3 k).2.2.1 = some (tyX3 k) := by decide +kernel
abbrev cX3_init : ByteArray := prog_1_method_1_code
def yX3_init : MethodName := ⟨RX3, "<init>", "()V"⟩
abbrev cX3_rooms : ByteArray := prog_1_method_2_code
def yX3_rooms : MethodName := ⟨RX3, "rooms", "(II)V"⟩
abbrev cX3_key : ByteArray := prog_1_method_3_code
def yX3_key : MethodName := ⟨RX3, "key", "(JJ)V"⟩
abbrev cX3_pass : ByteArray := prog_1_method_4_code
def yX3_pass : MethodName := ⟨RX3, "pass", "(I)I"⟩
abbrev cX3_syn : ByteArray := prog_1_method_5_code
def yX3_syn : MethodName := ⟨RX3, "syn", "(IIII)J"⟩
abbrev cX3_ack : ByteArray := prog_1_method_6_code
def yX3_ack : MethodName := ⟨RX3, "ack", "(IIII)I"⟩
abbrev cX3_take : ByteArray := prog_1_method_7_code
def yX3_take : MethodName := ⟨RX3, "take", "()I"⟩
abbrev cX3_close : ByteArray := prog_1_method_8_code
def yX3_close : MethodName := ⟨RX3, "close", "(II)I"⟩
abbrev cX3_state : ByteArray := prog_1_method_9_code
def yX3_state : MethodName := ⟨RX3, "state", "(II)I"⟩
abbrev cX3_cookie : ByteArray := prog_1_method_10_code
def yX3_cookie : MethodName := ⟨RX3, "cookie", "(IIIII)J"⟩
abbrev cX3_hash : ByteArray := prog_1_method_11_code
def yX3_hash : MethodName := ⟨RX3, "hash", "(JJ)J"⟩
abbrev cX3_told : ByteArray := prog_1_method_12_code
def yX3_told : MethodName := ⟨RX3, "told", "(I)I"⟩
abbrev cX3_requireWithin : ByteArray := prog_1_method_13_code
def yX3_requireWithin : MethodName := ⟨RX3, "requireWithin", "(III)V"⟩
abbrev cX3_callerOf : ByteArray := prog_1_method_14_code
def yX3_callerOf : MethodName := ⟨RX3, "callerOf", "(II)J"⟩
abbrev cX3_portOf : ByteArray := prog_1_method_15_code
def yX3_portOf : MethodName := ⟨RX3, "portOf", "(J)I"⟩
abbrev cX3_withoutSign : ByteArray := prog_1_method_16_code
def yX3_withoutSign : MethodName := ⟨RX3, "withoutSign", "(I)J"⟩
abbrev cX3_kindOf : ByteArray := prog_1_method_17_code
def yX3_kindOf : MethodName := ⟨RX3, "kindOf", "(I)I"⟩
abbrev cX3_slotNow : ByteArray := prog_1_method_18_code
def yX3_slotNow : MethodName := ⟨RX3, "slotNow", "()I"⟩
abbrev cX3_cookieOf : ByteArray := prog_1_method_19_code
def yX3_cookieOf : MethodName := ⟨RX3, "cookieOf", "(JIII)I"⟩
abbrev cX3_answerNewSyn : ByteArray := prog_1_method_20_code
def yX3_answerNewSyn : MethodName := ⟨RX3, "answerNewSyn", "(JII)I"⟩
abbrev cX3_ackOfHalf : ByteArray := prog_1_method_21_code
def yX3_ackOfHalf : MethodName := ⟨RX3, "ackOfHalf", "(III)I"⟩
abbrev cX3_ackWithoutHalf : ByteArray := prog_1_method_22_code
def yX3_ackWithoutHalf : MethodName := ⟨RX3, "ackWithoutHalf", "(JII)I"⟩
abbrev cX3_cookiesGivenLately : ByteArray := prog_1_method_23_code
def yX3_cookiesGivenLately : MethodName := ⟨RX3, "cookiesGivenLately", "()Z"⟩
abbrev cX3_isCookieOfLateSlot : ByteArray := prog_1_method_24_code
def yX3_isCookieOfLateSlot : MethodName := ⟨RX3, "isCookieOfLateSlot", "(IJII)Z"⟩
abbrev cX3_stateOf : ByteArray := prog_1_method_25_code
def yX3_stateOf : MethodName := ⟨RX3, "stateOf", "(J)I"⟩
def RX4 : String := "CookieListenerModel"
def TX4 : u_T := fun k => match k with
  | 0 => ("CookieListenerModel", "thrown", "I", false)
  | 1 => ("CookieListenerModel", "size", "I", false)
  | 2 => ("CookieListenerModel", "room", "I", false)
  | 3 => ("CookieListenerModel", "k", "J", false)
  | 4 => ("CookieListenerModel", "l", "J", false)
  | 5 => ("CookieListenerModel", "time", "I", false)
  | 6 => ("CookieListenerModel", "cookiesTime", "I", false)
  | 7 => ("CookieListenerModel", "halves", "I", false)
  | 8 => ("CookieListenerModel", "halfAddress", "[I", true)
  | 9 => ("CookieListenerModel", "halfPort", "[I", true)
  | 10 => ("CookieListenerModel", "halfNumber", "[I", true)
  | 11 => ("CookieListenerModel", "halfOwn", "[I", true)
  | 12 => ("CookieListenerModel", "halfKind", "[I", true)
  | 13 => ("CookieListenerModel", "halfTime", "[I", true)
  | 14 => ("CookieListenerModel", "open", "I", false)
  | 15 => ("CookieListenerModel", "openAddress", "[I", true)
  | 16 => ("CookieListenerModel", "openPort", "[I", true)
  | 17 => ("CookieListenerModel", "openKind", "[I", true)
  | 18 => ("CookieListenerModel", "taken", "[Z", true)
  | 19 => ("CookieListenerModel", "counts", "[I", true)
  | 20 => ("CookieListenerModel", "v0", "J", false)
  | 21 => ("CookieListenerModel", "v1", "J", false)
  | 22 => ("CookieListenerModel", "v2", "J", false)
  | _ => ("CookieListenerModel", "v3", "J", false)
def tyX4 : Nat → FieldType := fun k => match k with
  | 0 => .int
  | 1 => .int
  | 2 => .int
  | 3 => .long
  | 4 => .long
  | 5 => .int
  | 6 => .int
  | 7 => .int
  | 8 => .array .int
  | 9 => .array .int
  | 10 => .array .int
  | 11 => .array .int
  | 12 => .array .int
  | 13 => .array .int
  | 14 => .int
  | 15 => .array .int
  | 16 => .array .int
  | 17 => .array .int
  | 18 => .array .boolean
  | 19 => .array .int
  | 20 => .long
  | 21 => .long
  | 22 => .long
  | _ => .long
abbrev wsX40 : List Cond := u_ws RX4 TX4 24
theorem nmX4 : ∀ a, a < 24 → ∀ b, b < 24 → a ≠ b → (TX4 a).2.1 ≠ (TX4 b).2.1 := by decide +kernel
theorem tyX4_ok : ∀ k, k < 24 → parseFieldDescriptor (TX4 k).2.2.1 = some (tyX4 k) := by decide +kernel
abbrev cX4_init : ByteArray := prog_6_method_1_code
def yX4_init : MethodName := ⟨RX4, "<init>", "()V"⟩
abbrev cX4_thrown : ByteArray := prog_6_method_2_code
def yX4_thrown : MethodName := ⟨RX4, "thrown", "()I"⟩
abbrev cX4_rooms : ByteArray := prog_6_method_3_code
def yX4_rooms : MethodName := ⟨RX4, "rooms", "(II)V"⟩
abbrev cX4_key : ByteArray := prog_6_method_4_code
def yX4_key : MethodName := ⟨RX4, "key", "(JJ)V"⟩
abbrev cX4_turned : ByteArray := prog_6_method_5_code
def yX4_turned : MethodName := ⟨RX4, "turned", "(JI)J"⟩
abbrev cX4_round : ByteArray := prog_6_method_6_code
def yX4_round : MethodName := ⟨RX4, "round", "()V"⟩
abbrev cX4_take : ByteArray := prog_6_method_7_code
def yX4_take : MethodName := ⟨RX4, "take", "(J)V"⟩
abbrev cX4_hashOf : ByteArray := prog_6_method_8_code
def yX4_hashOf : MethodName := ⟨RX4, "hashOf", "(JJ)J"⟩
abbrev cX4_hash : ByteArray := prog_6_method_9_code
def yX4_hash : MethodName := ⟨RX4, "hash", "(JJ)J"⟩
abbrev cX4_cookieOf : ByteArray := prog_6_method_10_code
def yX4_cookieOf : MethodName := ⟨RX4, "cookieOf", "(IIIII)I"⟩
abbrev cX4_noPort : ByteArray := prog_6_method_11_code
def yX4_noPort : MethodName := ⟨RX4, "noPort", "(I)Z"⟩
abbrev cX4_cookie : ByteArray := prog_6_method_12_code
def yX4_cookie : MethodName := ⟨RX4, "cookie", "(IIIII)J"⟩
abbrev cX4_half : ByteArray := prog_6_method_13_code
def yX4_half : MethodName := ⟨RX4, "half", "(II)I"⟩
abbrev cX4_opened : ByteArray := prog_6_method_14_code
def yX4_opened : MethodName := ⟨RX4, "opened", "(II)I"⟩
abbrev cX4_dropHalf : ByteArray := prog_6_method_15_code
def yX4_dropHalf : MethodName := ⟨RX4, "dropHalf", "(I)V"⟩
abbrev cX4_dropOpen : ByteArray := prog_6_method_16_code
def yX4_dropOpen : MethodName := ⟨RX4, "dropOpen", "(I)V"⟩
abbrev cX4_waiting : ByteArray := prog_6_method_17_code
def yX4_waiting : MethodName := ⟨RX4, "waiting", "()I"⟩
abbrev cX4_hasRoom : ByteArray := prog_6_method_18_code
def yX4_hasRoom : MethodName := ⟨RX4, "hasRoom", "()Z"⟩
abbrev cX4_come : ByteArray := prog_6_method_19_code
def yX4_come : MethodName := ⟨RX4, "come", "(III)V"⟩
abbrev cX4_pass : ByteArray := prog_6_method_20_code
def yX4_pass : MethodName := ⟨RX4, "pass", "(I)I"⟩
abbrev cX4_kindOf : ByteArray := prog_6_method_21_code
def yX4_kindOf : MethodName := ⟨RX4, "kindOf", "(I)I"⟩
abbrev cX4_syn : ByteArray := prog_6_method_22_code
def yX4_syn : MethodName := ⟨RX4, "syn", "(IIII)J"⟩
abbrev cX4_ack : ByteArray := prog_6_method_23_code
def yX4_ack : MethodName := ⟨RX4, "ack", "(IIII)I"⟩
abbrev cX4_take_ : ByteArray := prog_6_method_24_code
def yX4_take_ : MethodName := ⟨RX4, "take", "()I"⟩
abbrev cX4_stateOf : ByteArray := prog_6_method_25_code
def yX4_stateOf : MethodName := ⟨RX4, "stateOf", "(II)I"⟩
abbrev cX4_close : ByteArray := prog_6_method_26_code
def yX4_close : MethodName := ⟨RX4, "close", "(II)I"⟩
abbrev cX4_state : ByteArray := prog_6_method_27_code
def yX4_state : MethodName := ⟨RX4, "state", "(II)I"⟩
abbrev cX4_told : ByteArray := prog_6_method_28_code
def yX4_told : MethodName := ⟨RX4, "told", "(I)I"⟩
def RJ0 : String := "java/lang/String"
def TJ0 : u_T := fun k => match k with
  | _ => ("", "", "", false)
def tyJ0 : Nat → FieldType := fun k => match k with
  | _ => .int
abbrev wsJ00 : List Cond := u_ws RJ0 TJ0 0
theorem nmJ0 : ∀ a, a < 0 → ∀ b, b < 0 → a ≠ b → (TJ0 a).2.1 ≠ (TJ0 b).2.1 := by decide +kernel
theorem tyJ0_ok : ∀ k, k < 0 → parseFieldDescriptor (TJ0 k).2.2.1 = some (tyJ0 k) := by decide +kernel
def RL : String := "CookieListenerLaw"
abbrev cL_rooms : ByteArray := method_3_code
def yL_rooms : MethodName := ⟨RL, "rooms", "(LCookieListener;II)I"⟩
abbrev cL_pass : ByteArray := method_4_code
def yL_pass : MethodName := ⟨RL, "pass", "(LCookieListener;I[J)I"⟩
abbrev cL_syn : ByteArray := method_5_code
def yL_syn : MethodName := ⟨RL, "syn", "(LCookieListener;IIII[J)I"⟩
abbrev cL_ack : ByteArray := method_6_code
def yL_ack : MethodName := ⟨RL, "ack", "(LCookieListener;IIII[J)I"⟩
abbrev cL_close : ByteArray := method_7_code
def yL_close : MethodName := ⟨RL, "close", "(LCookieListener;II[J)I"⟩
abbrev cL_state : ByteArray := method_8_code
def yL_state : MethodName := ⟨RL, "state", "(LCookieListener;II[J)I"⟩
abbrev cL_cookie : ByteArray := method_9_code
def yL_cookie : MethodName := ⟨RL, "cookie", "(LCookieListener;IIIII[J)I"⟩
abbrev cL_told : ByteArray := method_10_code
def yL_told : MethodName := ⟨RL, "told", "(LCookieListener;I[J)I"⟩
abbrev cL_law : ByteArray := code
def yL_law : MethodName := ⟨RL, "law", "([I)Z"⟩
def wsX0_init : List Cond := .code yX0_init cX0_init 1 none :: ([.methodLink RX0 3 objectInit, .instanceMethod objectInit, .code objectInit ⟨#[0xb1]⟩ 1 none, .arrayClass .long, .fieldLink RX0 9 "CookieListener$Connections" "callers" "[J", .arrayClass .int, .fieldLink RX0 15 "CookieListener$Connections" "kinds" "[I", .fieldLink RX0 19 "CookieListener$Connections" "count" "I", .fieldLink RX0 23 "CookieListener$Connections" "taken" "I"] ++ wsX00)
def wsX0_waiting : List Cond := .code yX0_waiting cX0_waiting 1 (some .int) :: ([.fieldLink RX0 19 "CookieListener$Connections" "count" "I", .fieldLink RX0 23 "CookieListener$Connections" "taken" "I"] ++ wsX00)
def wsX0_isTaken : List Cond := .code yX0_isTaken cX0_isTaken 2 (some .boolean) :: ([.fieldLink RX0 23 "CookieListener$Connections" "taken" "I"] ++ wsX00)
def wsX0_hasRoom : List Cond := .code yX0_hasRoom cX0_hasRoom 2 (some .boolean) :: ([.fieldLink RX0 19 "CookieListener$Connections" "count" "I", .methodLink RX0 26 yX0_waiting, .instanceMethod yX0_waiting, .selects RX0 yX0_waiting yX0_waiting, .initialized RX0, .code yX0_waiting cX0_waiting 1 (some .int), .fieldLink RX0 23 "CookieListener$Connections" "taken" "I"] ++ wsX00)
def wsX0_find : List Cond := .code yX0_find cX0_find 4 (some .int) :: ([.fieldLink RX0 19 "CookieListener$Connections" "count" "I", .fieldLink RX0 9 "CookieListener$Connections" "callers" "[J"] ++ wsX00)
def wsX0_add : List Cond := .code yX0_add cX0_add 4 none :: ([.fieldLink RX0 19 "CookieListener$Connections" "count" "I", .fieldLink RX0 9 "CookieListener$Connections" "callers" "[J", .fieldLink RX0 15 "CookieListener$Connections" "kinds" "[I"] ++ wsX00)
def wsX0_takeFirst : List Cond := .code yX0_takeFirst cX0_takeFirst 1 (some .int) :: ([.fieldLink RX0 23 "CookieListener$Connections" "taken" "I", .fieldLink RX0 19 "CookieListener$Connections" "count" "I"] ++ wsX00)
def wsX0_drop : List Cond := .code yX0_drop cX0_drop 3 none :: ([.fieldLink RX0 19 "CookieListener$Connections" "count" "I", .fieldLink RX0 23 "CookieListener$Connections" "taken" "I", .fieldLink RX0 9 "CookieListener$Connections" "callers" "[J", .fieldLink RX0 15 "CookieListener$Connections" "kinds" "[I", .methodLink RX0 30 yX0_isTaken, .instanceMethod yX0_isTaken, .selects RX0 yX0_isTaken yX0_isTaken, .initialized RX0, .code yX0_isTaken cX0_isTaken 2 (some .boolean)] ++ wsX00)
def wsX1_init : List Cond := .code yX1_init cX1_init 1 none :: ([.methodLink RX1 3 objectInit, .instanceMethod objectInit, .code objectInit ⟨#[0xb1]⟩ 1 none, .arrayClass .long, .fieldLink RX1 9 "CookieListener$Halves" "callers" "[J", .arrayClass .int, .fieldLink RX1 15 "CookieListener$Halves" "numbers" "[I", .fieldLink RX1 19 "CookieListener$Halves" "answers" "[I", .fieldLink RX1 22 "CookieListener$Halves" "kinds" "[I", .fieldLink RX1 25 "CookieListener$Halves" "asked" "[I", .fieldLink RX1 28 "CookieListener$Halves" "count" "I"] ++ wsX10)
def wsX1_find : List Cond := .code yX1_find cX1_find 4 (some .int) :: ([.fieldLink RX1 28 "CookieListener$Halves" "count" "I", .fieldLink RX1 9 "CookieListener$Halves" "callers" "[J"] ++ wsX10)
def wsX1_add : List Cond := .code yX1_add cX1_add 7 none :: ([.fieldLink RX1 28 "CookieListener$Halves" "count" "I", .fieldLink RX1 9 "CookieListener$Halves" "callers" "[J", .fieldLink RX1 15 "CookieListener$Halves" "numbers" "[I", .fieldLink RX1 19 "CookieListener$Halves" "answers" "[I", .fieldLink RX1 22 "CookieListener$Halves" "kinds" "[I", .fieldLink RX1 25 "CookieListener$Halves" "asked" "[I"] ++ wsX10)
def wsX1_drop : List Cond := .code yX1_drop cX1_drop 2 none :: ([.fieldLink RX1 28 "CookieListener$Halves" "count" "I", .fieldLink RX1 9 "CookieListener$Halves" "callers" "[J", .fieldLink RX1 15 "CookieListener$Halves" "numbers" "[I", .fieldLink RX1 19 "CookieListener$Halves" "answers" "[I", .fieldLink RX1 22 "CookieListener$Halves" "kinds" "[I", .fieldLink RX1 25 "CookieListener$Halves" "asked" "[I"] ++ wsX10)
def wsX1_dropOld : List Cond := .code yX1_dropOld cX1_dropOld 3 none :: ([.fieldLink RX1 28 "CookieListener$Halves" "count" "I", .fieldLink RX1 25 "CookieListener$Halves" "asked" "[I", .methodLink RX1 32 yX1_drop, .instanceMethod yX1_drop, .selects RX1 yX1_drop yX1_drop, .initialized RX1, .code yX1_drop cX1_drop 2 none, .fieldLink RX1 9 "CookieListener$Halves" "callers" "[J", .fieldLink RX1 15 "CookieListener$Halves" "numbers" "[I", .fieldLink RX1 19 "CookieListener$Halves" "answers" "[I", .fieldLink RX1 22 "CookieListener$Halves" "kinds" "[I"] ++ wsX10)
def wsX2_init : List Cond := .code yX2_init cX2_init 1 none :: ([.methodLink RX2 1 objectInit, .instanceMethod objectInit, .code objectInit ⟨#[0xb1]⟩ 1 none, .fieldLink RX2 7 "CookieListener$SipHash" "k" "J", .fieldLink RX2 13 "CookieListener$SipHash" "l" "J", .fieldLink RX2 16 "CookieListener$SipHash" "v0" "J", .fieldLink RX2 19 "CookieListener$SipHash" "v1" "J", .fieldLink RX2 22 "CookieListener$SipHash" "v2" "J", .fieldLink RX2 25 "CookieListener$SipHash" "v3" "J"] ++ wsX20)
def wsX2_useKey : List Cond := .code yX2_useKey cX2_useKey 5 none :: ([.fieldLink RX2 7 "CookieListener$SipHash" "k" "J", .fieldLink RX2 13 "CookieListener$SipHash" "l" "J"] ++ wsX20)
def wsX2_turnLeft : List Cond := .code yX2_turnLeft cX2_turnLeft 3 (some .long) :: ([])
def wsX2_mix : List Cond := .code yX2_mix cX2_mix 3 none :: ([.fieldLink RX2 16 "CookieListener$SipHash" "v0" "J", .fieldLink RX2 19 "CookieListener$SipHash" "v1" "J", .fieldLink RX2 22 "CookieListener$SipHash" "v2" "J", .fieldLink RX2 25 "CookieListener$SipHash" "v3" "J", .methodLink RX2 48 yX2_turnLeft, .static yX2_turnLeft, .initialized RX2, .code yX2_turnLeft cX2_turnLeft 3 (some .long)] ++ wsX20)
def wsX2_absorb : List Cond := .code yX2_absorb cX2_absorb 3 none :: ([.fieldLink RX2 25 "CookieListener$SipHash" "v3" "J", .fieldLink RX2 16 "CookieListener$SipHash" "v0" "J", .methodLink RX2 44 yX2_mix, .instanceMethod yX2_mix, .selects RX2 yX2_mix yX2_mix, .initialized RX2, .code yX2_mix cX2_mix 3 none, .fieldLink RX2 19 "CookieListener$SipHash" "v1" "J", .fieldLink RX2 22 "CookieListener$SipHash" "v2" "J", .methodLink RX2 48 yX2_turnLeft, .static yX2_turnLeft, .code yX2_turnLeft cX2_turnLeft 3 (some .long)] ++ wsX20)
def wsX2_digest : List Cond := .code yX2_digest cX2_digest 5 (some .long) :: ([.fieldLink RX2 7 "CookieListener$SipHash" "k" "J", .constantLong RX2 28 (8317987319222330741), .fieldLink RX2 16 "CookieListener$SipHash" "v0" "J", .fieldLink RX2 13 "CookieListener$SipHash" "l" "J", .constantLong RX2 30 (7237128888997146477), .fieldLink RX2 19 "CookieListener$SipHash" "v1" "J", .constantLong RX2 32 (7816392313619706465), .fieldLink RX2 22 "CookieListener$SipHash" "v2" "J", .constantLong RX2 34 (8387220255154660723), .fieldLink RX2 25 "CookieListener$SipHash" "v3" "J", .constantLong RX2 40 (1152921504606846976), .constantLong RX2 42 (255), .methodLink RX2 36 yX2_absorb, .instanceMethod yX2_absorb, .selects RX2 yX2_absorb yX2_absorb, .initialized RX2, .code yX2_absorb cX2_absorb 3 none, .methodLink RX2 44 yX2_mix, .instanceMethod yX2_mix, .selects RX2 yX2_mix yX2_mix, .code yX2_mix cX2_mix 3 none, .methodLink RX2 48 yX2_turnLeft, .static yX2_turnLeft, .code yX2_turnLeft cX2_turnLeft 3 (some .long)] ++ wsX20)
def wsX3_init_r1 : List Cond := [Cond.methodLink RX3 1 objectInit, Cond.instanceMethod objectInit, Cond.code objectInit ⟨#[0xb1]⟩ 1 none, Cond.classLink RX3 7 RX2, Cond.instantiable RX2 6, Cond.initialized RX2, Cond.fieldLink RX3 10 "CookieListener" "sip" "LCookieListener$SipHash;", Cond.classLink RX3 16 RX1, Cond.instantiable RX1 6, Cond.initialized RX1, Cond.fieldLink RX3 19 "CookieListener" "halves" "LCookieListener$Halves;", Cond.classLink RX3 23 RX0, Cond.instantiable RX0 4, Cond.initialized RX0, Cond.fieldLink RX3 26 "CookieListener" "connections" "LCookieListener$Connections;", Cond.fieldLink RX3 30 "CookieListener" "sizeOfHalves" "I", Cond.fieldLink RX3 34 "CookieListener" "roomOfQueue" "I", Cond.fieldLink RX3 37 "CookieListener" "time" "I", Cond.fieldLink RX3 40 "CookieListener" "cookiesTime" "I", Cond.fieldLink RX3 43 "CookieListener" "cookiesGiven" "I", Cond.fieldLink RX3 46 "CookieListener" "openedByHalves" "I", Cond.fieldLink RX3 49 "CookieListener" "openedByCookies" "I", Cond.fieldLink RX3 52 "CookieListener" "unproven" "I", Cond.instanceMethod yX2_init]
def wsX3_init_r2 : List Cond := [Cond.code yX2_init cX2_init 1 none, Cond.methodLink RX2 1 objectInit, Cond.fieldLink RX2 7 "CookieListener$SipHash" "k" "J", Cond.fieldLink RX2 13 "CookieListener$SipHash" "l" "J", Cond.fieldLink RX2 16 "CookieListener$SipHash" "v0" "J", Cond.fieldLink RX2 19 "CookieListener$SipHash" "v1" "J", Cond.fieldLink RX2 22 "CookieListener$SipHash" "v2" "J", Cond.fieldLink RX2 25 "CookieListener$SipHash" "v3" "J", Cond.instanceMethod yX1_init, Cond.code yX1_init cX1_init 1 none, Cond.methodLink RX1 3 objectInit, Cond.arrayClass .long, Cond.fieldLink RX1 9 "CookieListener$Halves" "callers" "[J", Cond.arrayClass .int, Cond.fieldLink RX1 15 "CookieListener$Halves" "numbers" "[I", Cond.fieldLink RX1 19 "CookieListener$Halves" "answers" "[I", Cond.fieldLink RX1 22 "CookieListener$Halves" "kinds" "[I", Cond.fieldLink RX1 25 "CookieListener$Halves" "asked" "[I", Cond.fieldLink RX1 28 "CookieListener$Halves" "count" "I", Cond.instanceMethod yX0_init, Cond.code yX0_init cX0_init 1 none, Cond.methodLink RX0 3 objectInit, Cond.fieldLink RX0 9 "CookieListener$Connections" "callers" "[J", Cond.fieldLink RX0 15 "CookieListener$Connections" "kinds" "[I"]
def wsX3_init_r3 : List Cond := [Cond.fieldLink RX0 19 "CookieListener$Connections" "count" "I", Cond.fieldLink RX0 23 "CookieListener$Connections" "taken" "I"]
def wsX3_init : List Cond := .code yX3_init cX3_init 1 none :: ((wsX3_init_r1 ++ (wsX3_init_r2 ++ wsX3_init_r3)) ++ wsX20 ++ wsX30 ++ wsX10 ++ wsX00)
def wsX3_requireWithin : List Cond := .code yX3_requireWithin cX3_requireWithin 3 none :: ([.classLink RX3 144 "java/lang/IllegalArgumentException", .initialized "java/lang/IllegalArgumentException"] ++ (vx_atS RX3 148 "java/lang/IllegalArgumentException" ["java/lang/RuntimeException", "java/lang/Exception"]).filter goodWord)
def wsX3_rooms : List Cond := .code yX3_rooms cX3_rooms 3 none :: ([.fieldLink RX3 30 "CookieListener" "sizeOfHalves" "I", .fieldLink RX3 34 "CookieListener" "roomOfQueue" "I", .methodLink RX3 55 yX3_requireWithin, .static yX3_requireWithin, .initialized RX3, .code yX3_requireWithin cX3_requireWithin 3 none, .classLink RX3 144 "java/lang/IllegalArgumentException", .initialized "java/lang/IllegalArgumentException"] ++ wsX30 ++ (vx_atS RX3 148 "java/lang/IllegalArgumentException" ["java/lang/RuntimeException", "java/lang/Exception"]).filter goodWord)
def wsX3_key : List Cond := .code yX3_key cX3_key 5 none :: ([.fieldLink RX3 10 "CookieListener" "sip" "LCookieListener$SipHash;", .methodLink RX3 59 yX2_useKey, .instanceMethod yX2_useKey, .selects RX2 yX2_useKey yX2_useKey, .initialized RX2, .code yX2_useKey cX2_useKey 5 none, .fieldLink RX2 7 "CookieListener$SipHash" "k" "J", .fieldLink RX2 13 "CookieListener$SipHash" "l" "J"] ++ wsX30 ++ wsX20)
def wsX3_pass : List Cond := .code yX3_pass cX3_pass 2 (some .int) :: ([.fieldLink RX3 37 "CookieListener" "time" "I", .fieldLink RX3 19 "CookieListener" "halves" "LCookieListener$Halves;", .methodLink RX3 55 yX3_requireWithin, .static yX3_requireWithin, .initialized RX3, .code yX3_requireWithin cX3_requireWithin 3 none, .classLink RX3 144 "java/lang/IllegalArgumentException", .initialized "java/lang/IllegalArgumentException", .methodLink RX3 63 yX1_dropOld, .instanceMethod yX1_dropOld, .selects RX1 yX1_dropOld yX1_dropOld, .initialized RX1, .code yX1_dropOld cX1_dropOld 3 none, .fieldLink RX1 28 "CookieListener$Halves" "count" "I", .fieldLink RX1 25 "CookieListener$Halves" "asked" "[I", .methodLink RX1 32 yX1_drop, .instanceMethod yX1_drop, .selects RX1 yX1_drop yX1_drop, .code yX1_drop cX1_drop 2 none, .fieldLink RX1 9 "CookieListener$Halves" "callers" "[J", .fieldLink RX1 15 "CookieListener$Halves" "numbers" "[I", .fieldLink RX1 19 "CookieListener$Halves" "answers" "[I", .fieldLink RX1 22 "CookieListener$Halves" "kinds" "[I"] ++ wsX30 ++ wsX10 ++ (vx_atS RX3 148 "java/lang/IllegalArgumentException" ["java/lang/RuntimeException", "java/lang/Exception"]).filter goodWord)
def wsX3_callerOf : List Cond := .code yX3_callerOf cX3_callerOf 2 (some .long) :: ([])
def wsX3_withoutSign : List Cond := .code yX3_withoutSign cX3_withoutSign 1 (some .long) :: ([.constantLong RX3 153 (4294967295)])
def wsX3_kindOf : List Cond := .code yX3_kindOf cX3_kindOf 3 (some .int) :: ([.fieldLink RX3 155 "CookieListener" "GREATEST_SIZES" "[I"])
def wsX3_slotNow : List Cond := .code yX3_slotNow cX3_slotNow 1 (some .int) :: ([.fieldLink RX3 37 "CookieListener" "time" "I"] ++ wsX30)
def wsX3_portOf : List Cond := .code yX3_portOf cX3_portOf 2 (some .int) :: ([.constant RX3 67 (65535)])
def wsX3_cookieOf_r1 : List Cond := [Cond.constantLong RX3 158 (-4294967296), Cond.fieldLink RX3 10 "CookieListener" "sip" "LCookieListener$SipHash;", Cond.constant RX3 160 (16777215), Cond.methodLink RX3 86 yX3_withoutSign, Cond.static yX3_withoutSign, Cond.initialized RX3, Cond.code yX3_withoutSign cX3_withoutSign 1 (some .long), Cond.constantLong RX3 153 (4294967295), Cond.methodLink RX3 116 yX3_portOf, Cond.static yX3_portOf, Cond.code yX3_portOf cX3_portOf 2 (some .int), Cond.constant RX3 67 (65535), Cond.methodLink RX3 133 yX2_digest, Cond.instanceMethod yX2_digest, Cond.selects RX2 yX2_digest yX2_digest, Cond.initialized RX2, Cond.code yX2_digest cX2_digest 5 (some .long), Cond.fieldLink RX2 7 "CookieListener$SipHash" "k" "J", Cond.constantLong RX2 28 (8317987319222330741), Cond.fieldLink RX2 16 "CookieListener$SipHash" "v0" "J", Cond.fieldLink RX2 13 "CookieListener$SipHash" "l" "J", Cond.constantLong RX2 30 (7237128888997146477), Cond.fieldLink RX2 19 "CookieListener$SipHash" "v1" "J", Cond.constantLong RX2 32 (7816392313619706465)]
def wsX3_cookieOf_r2 : List Cond := [Cond.fieldLink RX2 22 "CookieListener$SipHash" "v2" "J", Cond.constantLong RX2 34 (8387220255154660723), Cond.fieldLink RX2 25 "CookieListener$SipHash" "v3" "J", Cond.constantLong RX2 40 (1152921504606846976), Cond.constantLong RX2 42 (255), Cond.methodLink RX2 36 yX2_absorb, Cond.instanceMethod yX2_absorb, Cond.selects RX2 yX2_absorb yX2_absorb, Cond.code yX2_absorb cX2_absorb 3 none, Cond.methodLink RX2 44 yX2_mix, Cond.instanceMethod yX2_mix, Cond.selects RX2 yX2_mix yX2_mix, Cond.code yX2_mix cX2_mix 3 none, Cond.methodLink RX2 48 yX2_turnLeft, Cond.static yX2_turnLeft, Cond.code yX2_turnLeft cX2_turnLeft 3 (some .long)]
def wsX3_cookieOf : List Cond := .code yX3_cookieOf cX3_cookieOf 11 (some .int) :: ((wsX3_cookieOf_r1 ++ wsX3_cookieOf_r2) ++ wsX30 ++ wsX20)
def wsX3_answerNewSyn_r1 : List Cond := [Cond.fieldLink RX3 19 "CookieListener" "halves" "LCookieListener$Halves;", Cond.fieldLink RX3 30 "CookieListener" "sizeOfHalves" "I", Cond.fieldLink RX3 43 "CookieListener" "cookiesGiven" "I", Cond.fieldLink RX3 37 "CookieListener" "time" "I", Cond.fieldLink RX3 40 "CookieListener" "cookiesTime" "I", Cond.constant RX3 164 (-16777216), Cond.methodLink RX3 161 yX3_slotNow, Cond.instanceMethod yX3_slotNow, Cond.selects RX3 yX3_slotNow yX3_slotNow, Cond.initialized RX3, Cond.code yX3_slotNow cX3_slotNow 1 (some .int), Cond.methodLink RX3 129 yX3_cookieOf, Cond.instanceMethod yX3_cookieOf, Cond.selects RX3 yX3_cookieOf yX3_cookieOf, Cond.code yX3_cookieOf cX3_cookieOf 11 (some .int), Cond.constantLong RX3 158 (-4294967296), Cond.fieldLink RX3 10 "CookieListener" "sip" "LCookieListener$SipHash;", Cond.constant RX3 160 (16777215), Cond.methodLink RX3 86 yX3_withoutSign, Cond.static yX3_withoutSign, Cond.code yX3_withoutSign cX3_withoutSign 1 (some .long), Cond.constantLong RX3 153 (4294967295), Cond.methodLink RX3 116 yX3_portOf, Cond.static yX3_portOf]
def wsX3_answerNewSyn_r2 : List Cond := [Cond.code yX3_portOf cX3_portOf 2 (some .int), Cond.constant RX3 67 (65535), Cond.methodLink RX3 133 yX2_digest, Cond.instanceMethod yX2_digest, Cond.selects RX2 yX2_digest yX2_digest, Cond.initialized RX2, Cond.code yX2_digest cX2_digest 5 (some .long), Cond.fieldLink RX2 7 "CookieListener$SipHash" "k" "J", Cond.constantLong RX2 28 (8317987319222330741), Cond.fieldLink RX2 16 "CookieListener$SipHash" "v0" "J", Cond.fieldLink RX2 13 "CookieListener$SipHash" "l" "J", Cond.constantLong RX2 30 (7237128888997146477), Cond.fieldLink RX2 19 "CookieListener$SipHash" "v1" "J", Cond.constantLong RX2 32 (7816392313619706465), Cond.fieldLink RX2 22 "CookieListener$SipHash" "v2" "J", Cond.constantLong RX2 34 (8387220255154660723), Cond.fieldLink RX2 25 "CookieListener$SipHash" "v3" "J", Cond.constantLong RX2 40 (1152921504606846976), Cond.constantLong RX2 42 (255), Cond.methodLink RX2 36 yX2_absorb, Cond.instanceMethod yX2_absorb, Cond.selects RX2 yX2_absorb yX2_absorb, Cond.code yX2_absorb cX2_absorb 3 none, Cond.methodLink RX2 44 yX2_mix]
def wsX3_answerNewSyn_r3 : List Cond := [Cond.instanceMethod yX2_mix, Cond.selects RX2 yX2_mix yX2_mix, Cond.code yX2_mix cX2_mix 3 none, Cond.methodLink RX2 48 yX2_turnLeft, Cond.static yX2_turnLeft, Cond.code yX2_turnLeft cX2_turnLeft 3 (some .long), Cond.methodLink RX3 165 yX1_add, Cond.instanceMethod yX1_add, Cond.selects RX1 yX1_add yX1_add, Cond.initialized RX1, Cond.code yX1_add cX1_add 7 none, Cond.fieldLink RX1 28 "CookieListener$Halves" "count" "I", Cond.fieldLink RX1 9 "CookieListener$Halves" "callers" "[J", Cond.fieldLink RX1 15 "CookieListener$Halves" "numbers" "[I", Cond.fieldLink RX1 19 "CookieListener$Halves" "answers" "[I", Cond.fieldLink RX1 22 "CookieListener$Halves" "kinds" "[I", Cond.fieldLink RX1 25 "CookieListener$Halves" "asked" "[I"]
def wsX3_answerNewSyn : List Cond := .code yX3_answerNewSyn cX3_answerNewSyn 7 (some .int) :: ((wsX3_answerNewSyn_r1 ++ (wsX3_answerNewSyn_r2 ++ wsX3_answerNewSyn_r3)) ++ wsX30 ++ wsX10 ++ wsX20)
def wsX3_syn_r1 : List Cond := [Cond.constant RX3 67 (65535), Cond.fieldLink RX3 26 "CookieListener" "connections" "LCookieListener$Connections;", Cond.constantLong RX3 76 (-1), Cond.fieldLink RX3 19 "CookieListener" "halves" "LCookieListener$Halves;", Cond.methodLink RX3 55 yX3_requireWithin, Cond.static yX3_requireWithin, Cond.initialized RX3, Cond.code yX3_requireWithin cX3_requireWithin 3 none, Cond.classLink RX3 144 "java/lang/IllegalArgumentException", Cond.initialized "java/lang/IllegalArgumentException", Cond.methodLink RX3 68 yX3_callerOf, Cond.static yX3_callerOf, Cond.code yX3_callerOf cX3_callerOf 2 (some .long), Cond.methodLink RX3 72 yX0_find, Cond.instanceMethod yX0_find, Cond.selects RX0 yX0_find yX0_find, Cond.initialized RX0, Cond.code yX0_find cX0_find 4 (some .int), Cond.fieldLink RX0 19 "CookieListener$Connections" "count" "I", Cond.fieldLink RX0 9 "CookieListener$Connections" "callers" "[J", Cond.methodLink RX3 78 yX1_find, Cond.instanceMethod yX1_find, Cond.selects RX1 yX1_find yX1_find, Cond.initialized RX1]
def wsX3_syn_r2 : List Cond := [Cond.code yX1_find cX1_find 4 (some .int), Cond.fieldLink RX1 28 "CookieListener$Halves" "count" "I", Cond.fieldLink RX1 9 "CookieListener$Halves" "callers" "[J", Cond.methodLink RX3 86 yX3_withoutSign, Cond.static yX3_withoutSign, Cond.code yX3_withoutSign cX3_withoutSign 1 (some .long), Cond.constantLong RX3 153 (4294967295), Cond.methodLink RX3 90 yX1_drop, Cond.instanceMethod yX1_drop, Cond.selects RX1 yX1_drop yX1_drop, Cond.code yX1_drop cX1_drop 2 none, Cond.fieldLink RX1 15 "CookieListener$Halves" "numbers" "[I", Cond.fieldLink RX1 19 "CookieListener$Halves" "answers" "[I", Cond.fieldLink RX1 22 "CookieListener$Halves" "kinds" "[I", Cond.fieldLink RX1 25 "CookieListener$Halves" "asked" "[I", Cond.methodLink RX3 93 yX3_kindOf, Cond.static yX3_kindOf, Cond.code yX3_kindOf cX3_kindOf 3 (some .int), Cond.fieldLink RX3 155 "CookieListener" "GREATEST_SIZES" "[I", Cond.methodLink RX3 97 yX3_answerNewSyn, Cond.instanceMethod yX3_answerNewSyn, Cond.selects RX3 yX3_answerNewSyn yX3_answerNewSyn, Cond.code yX3_answerNewSyn cX3_answerNewSyn 7 (some .int), Cond.fieldLink RX3 30 "CookieListener" "sizeOfHalves" "I"]
def wsX3_syn_r3 : List Cond := [Cond.fieldLink RX3 43 "CookieListener" "cookiesGiven" "I", Cond.fieldLink RX3 37 "CookieListener" "time" "I", Cond.fieldLink RX3 40 "CookieListener" "cookiesTime" "I", Cond.constant RX3 164 (-16777216), Cond.methodLink RX3 161 yX3_slotNow, Cond.instanceMethod yX3_slotNow, Cond.selects RX3 yX3_slotNow yX3_slotNow, Cond.code yX3_slotNow cX3_slotNow 1 (some .int), Cond.methodLink RX3 129 yX3_cookieOf, Cond.instanceMethod yX3_cookieOf, Cond.selects RX3 yX3_cookieOf yX3_cookieOf, Cond.code yX3_cookieOf cX3_cookieOf 11 (some .int), Cond.constantLong RX3 158 (-4294967296), Cond.fieldLink RX3 10 "CookieListener" "sip" "LCookieListener$SipHash;", Cond.constant RX3 160 (16777215), Cond.methodLink RX3 116 yX3_portOf, Cond.static yX3_portOf, Cond.code yX3_portOf cX3_portOf 2 (some .int), Cond.methodLink RX3 133 yX2_digest, Cond.instanceMethod yX2_digest, Cond.selects RX2 yX2_digest yX2_digest, Cond.initialized RX2, Cond.code yX2_digest cX2_digest 5 (some .long), Cond.fieldLink RX2 7 "CookieListener$SipHash" "k" "J"]
def wsX3_syn_r4 : List Cond := [Cond.constantLong RX2 28 (8317987319222330741), Cond.fieldLink RX2 16 "CookieListener$SipHash" "v0" "J", Cond.fieldLink RX2 13 "CookieListener$SipHash" "l" "J", Cond.constantLong RX2 30 (7237128888997146477), Cond.fieldLink RX2 19 "CookieListener$SipHash" "v1" "J", Cond.constantLong RX2 32 (7816392313619706465), Cond.fieldLink RX2 22 "CookieListener$SipHash" "v2" "J", Cond.constantLong RX2 34 (8387220255154660723), Cond.fieldLink RX2 25 "CookieListener$SipHash" "v3" "J", Cond.constantLong RX2 40 (1152921504606846976), Cond.constantLong RX2 42 (255), Cond.methodLink RX2 36 yX2_absorb, Cond.instanceMethod yX2_absorb, Cond.selects RX2 yX2_absorb yX2_absorb, Cond.code yX2_absorb cX2_absorb 3 none, Cond.methodLink RX2 44 yX2_mix, Cond.instanceMethod yX2_mix, Cond.selects RX2 yX2_mix yX2_mix, Cond.code yX2_mix cX2_mix 3 none, Cond.methodLink RX2 48 yX2_turnLeft, Cond.static yX2_turnLeft, Cond.code yX2_turnLeft cX2_turnLeft 3 (some .long), Cond.methodLink RX3 165 yX1_add, Cond.instanceMethod yX1_add]
def wsX3_syn_r5 : List Cond := [Cond.selects RX1 yX1_add yX1_add, Cond.code yX1_add cX1_add 7 none]
def wsX3_syn : List Cond := .code yX3_syn cX3_syn 8 (some .long) :: ((wsX3_syn_r1 ++ (wsX3_syn_r2 ++ (wsX3_syn_r3 ++ (wsX3_syn_r4 ++ wsX3_syn_r5)))) ++ wsX30 ++ wsX10 ++ wsX00 ++ wsX20 ++ (vx_atS RX3 148 "java/lang/IllegalArgumentException" ["java/lang/RuntimeException", "java/lang/Exception"]).filter goodWord)
def wsX3_ackOfHalf_r1 : List Cond := [Cond.fieldLink RX3 19 "CookieListener" "halves" "LCookieListener$Halves;", Cond.fieldLink RX3 26 "CookieListener" "connections" "LCookieListener$Connections;", Cond.fieldLink RX3 34 "CookieListener" "roomOfQueue" "I", Cond.fieldLink RX3 46 "CookieListener" "openedByHalves" "I", Cond.methodLink RX3 169 yX0_hasRoom, Cond.instanceMethod yX0_hasRoom, Cond.selects RX0 yX0_hasRoom yX0_hasRoom, Cond.initialized RX0, Cond.code yX0_hasRoom cX0_hasRoom 2 (some .boolean), Cond.fieldLink RX0 19 "CookieListener$Connections" "count" "I", Cond.methodLink RX0 26 yX0_waiting, Cond.instanceMethod yX0_waiting, Cond.selects RX0 yX0_waiting yX0_waiting, Cond.code yX0_waiting cX0_waiting 1 (some .int), Cond.fieldLink RX0 23 "CookieListener$Connections" "taken" "I", Cond.methodLink RX3 175 yX0_add, Cond.instanceMethod yX0_add, Cond.selects RX0 yX0_add yX0_add, Cond.code yX0_add cX0_add 4 none, Cond.fieldLink RX0 9 "CookieListener$Connections" "callers" "[J", Cond.fieldLink RX0 15 "CookieListener$Connections" "kinds" "[I", Cond.methodLink RX3 90 yX1_drop, Cond.instanceMethod yX1_drop, Cond.selects RX1 yX1_drop yX1_drop]
def wsX3_ackOfHalf_r2 : List Cond := [Cond.initialized RX1, Cond.code yX1_drop cX1_drop 2 none, Cond.fieldLink RX1 28 "CookieListener$Halves" "count" "I", Cond.fieldLink RX1 9 "CookieListener$Halves" "callers" "[J", Cond.fieldLink RX1 15 "CookieListener$Halves" "numbers" "[I", Cond.fieldLink RX1 19 "CookieListener$Halves" "answers" "[I", Cond.fieldLink RX1 22 "CookieListener$Halves" "kinds" "[I", Cond.fieldLink RX1 25 "CookieListener$Halves" "asked" "[I"]
def wsX3_ackOfHalf : List Cond := .code yX3_ackOfHalf cX3_ackOfHalf 4 (some .int) :: ((wsX3_ackOfHalf_r1 ++ wsX3_ackOfHalf_r2) ++ wsX30 ++ wsX10 ++ wsX00)
def wsX3_cookiesGivenLately : List Cond := .code yX3_cookiesGivenLately cX3_cookiesGivenLately 1 (some .boolean) :: ([.fieldLink RX3 43 "CookieListener" "cookiesGiven" "I", .fieldLink RX3 37 "CookieListener" "time" "I", .fieldLink RX3 40 "CookieListener" "cookiesTime" "I"] ++ wsX30)
def wsX3_isCookieOfLateSlot_r1 : List Cond := [Cond.methodLink RX3 161 yX3_slotNow, Cond.instanceMethod yX3_slotNow, Cond.selects RX3 yX3_slotNow yX3_slotNow, Cond.initialized RX3, Cond.code yX3_slotNow cX3_slotNow 1 (some .int), Cond.fieldLink RX3 37 "CookieListener" "time" "I", Cond.methodLink RX3 129 yX3_cookieOf, Cond.instanceMethod yX3_cookieOf, Cond.selects RX3 yX3_cookieOf yX3_cookieOf, Cond.code yX3_cookieOf cX3_cookieOf 11 (some .int), Cond.constantLong RX3 158 (-4294967296), Cond.fieldLink RX3 10 "CookieListener" "sip" "LCookieListener$SipHash;", Cond.constant RX3 160 (16777215), Cond.methodLink RX3 86 yX3_withoutSign, Cond.static yX3_withoutSign, Cond.code yX3_withoutSign cX3_withoutSign 1 (some .long), Cond.constantLong RX3 153 (4294967295), Cond.methodLink RX3 116 yX3_portOf, Cond.static yX3_portOf, Cond.code yX3_portOf cX3_portOf 2 (some .int), Cond.constant RX3 67 (65535), Cond.methodLink RX3 133 yX2_digest, Cond.instanceMethod yX2_digest, Cond.selects RX2 yX2_digest yX2_digest]
def wsX3_isCookieOfLateSlot_r2 : List Cond := [Cond.initialized RX2, Cond.code yX2_digest cX2_digest 5 (some .long), Cond.fieldLink RX2 7 "CookieListener$SipHash" "k" "J", Cond.constantLong RX2 28 (8317987319222330741), Cond.fieldLink RX2 16 "CookieListener$SipHash" "v0" "J", Cond.fieldLink RX2 13 "CookieListener$SipHash" "l" "J", Cond.constantLong RX2 30 (7237128888997146477), Cond.fieldLink RX2 19 "CookieListener$SipHash" "v1" "J", Cond.constantLong RX2 32 (7816392313619706465), Cond.fieldLink RX2 22 "CookieListener$SipHash" "v2" "J", Cond.constantLong RX2 34 (8387220255154660723), Cond.fieldLink RX2 25 "CookieListener$SipHash" "v3" "J", Cond.constantLong RX2 40 (1152921504606846976), Cond.constantLong RX2 42 (255), Cond.methodLink RX2 36 yX2_absorb, Cond.instanceMethod yX2_absorb, Cond.selects RX2 yX2_absorb yX2_absorb, Cond.code yX2_absorb cX2_absorb 3 none, Cond.methodLink RX2 44 yX2_mix, Cond.instanceMethod yX2_mix, Cond.selects RX2 yX2_mix yX2_mix, Cond.code yX2_mix cX2_mix 3 none, Cond.methodLink RX2 48 yX2_turnLeft, Cond.static yX2_turnLeft]
def wsX3_isCookieOfLateSlot_r3 : List Cond := [Cond.code yX2_turnLeft cX2_turnLeft 3 (some .long)]
def wsX3_isCookieOfLateSlot : List Cond := .code yX3_isCookieOfLateSlot cX3_isCookieOfLateSlot 7 (some .boolean) :: ((wsX3_isCookieOfLateSlot_r1 ++ (wsX3_isCookieOfLateSlot_r2 ++ wsX3_isCookieOfLateSlot_r3)) ++ wsX30 ++ wsX20)
def wsX3_ackWithoutHalf_r1 : List Cond := [Cond.fieldLink RX3 26 "CookieListener" "connections" "LCookieListener$Connections;", Cond.fieldLink RX3 34 "CookieListener" "roomOfQueue" "I", Cond.fieldLink RX3 49 "CookieListener" "openedByCookies" "I", Cond.methodLink RX3 178 yX3_cookiesGivenLately, Cond.instanceMethod yX3_cookiesGivenLately, Cond.selects RX3 yX3_cookiesGivenLately yX3_cookiesGivenLately, Cond.initialized RX3, Cond.code yX3_cookiesGivenLately cX3_cookiesGivenLately 1 (some .boolean), Cond.fieldLink RX3 43 "CookieListener" "cookiesGiven" "I", Cond.fieldLink RX3 37 "CookieListener" "time" "I", Cond.fieldLink RX3 40 "CookieListener" "cookiesTime" "I", Cond.methodLink RX3 182 yX3_isCookieOfLateSlot, Cond.instanceMethod yX3_isCookieOfLateSlot, Cond.selects RX3 yX3_isCookieOfLateSlot yX3_isCookieOfLateSlot, Cond.code yX3_isCookieOfLateSlot cX3_isCookieOfLateSlot 7 (some .boolean), Cond.methodLink RX3 161 yX3_slotNow, Cond.instanceMethod yX3_slotNow, Cond.selects RX3 yX3_slotNow yX3_slotNow, Cond.code yX3_slotNow cX3_slotNow 1 (some .int), Cond.methodLink RX3 129 yX3_cookieOf, Cond.instanceMethod yX3_cookieOf, Cond.selects RX3 yX3_cookieOf yX3_cookieOf, Cond.code yX3_cookieOf cX3_cookieOf 11 (some .int), Cond.constantLong RX3 158 (-4294967296)]
def wsX3_ackWithoutHalf_r2 : List Cond := [Cond.fieldLink RX3 10 "CookieListener" "sip" "LCookieListener$SipHash;", Cond.constant RX3 160 (16777215), Cond.methodLink RX3 86 yX3_withoutSign, Cond.static yX3_withoutSign, Cond.code yX3_withoutSign cX3_withoutSign 1 (some .long), Cond.constantLong RX3 153 (4294967295), Cond.methodLink RX3 116 yX3_portOf, Cond.static yX3_portOf, Cond.code yX3_portOf cX3_portOf 2 (some .int), Cond.constant RX3 67 (65535), Cond.methodLink RX3 133 yX2_digest, Cond.instanceMethod yX2_digest, Cond.selects RX2 yX2_digest yX2_digest, Cond.initialized RX2, Cond.code yX2_digest cX2_digest 5 (some .long), Cond.fieldLink RX2 7 "CookieListener$SipHash" "k" "J", Cond.constantLong RX2 28 (8317987319222330741), Cond.fieldLink RX2 16 "CookieListener$SipHash" "v0" "J", Cond.fieldLink RX2 13 "CookieListener$SipHash" "l" "J", Cond.constantLong RX2 30 (7237128888997146477), Cond.fieldLink RX2 19 "CookieListener$SipHash" "v1" "J", Cond.constantLong RX2 32 (7816392313619706465), Cond.fieldLink RX2 22 "CookieListener$SipHash" "v2" "J", Cond.constantLong RX2 34 (8387220255154660723)]
def wsX3_ackWithoutHalf_r3 : List Cond := [Cond.fieldLink RX2 25 "CookieListener$SipHash" "v3" "J", Cond.constantLong RX2 40 (1152921504606846976), Cond.constantLong RX2 42 (255), Cond.methodLink RX2 36 yX2_absorb, Cond.instanceMethod yX2_absorb, Cond.selects RX2 yX2_absorb yX2_absorb, Cond.code yX2_absorb cX2_absorb 3 none, Cond.methodLink RX2 44 yX2_mix, Cond.instanceMethod yX2_mix, Cond.selects RX2 yX2_mix yX2_mix, Cond.code yX2_mix cX2_mix 3 none, Cond.methodLink RX2 48 yX2_turnLeft, Cond.static yX2_turnLeft, Cond.code yX2_turnLeft cX2_turnLeft 3 (some .long), Cond.methodLink RX3 169 yX0_hasRoom, Cond.instanceMethod yX0_hasRoom, Cond.selects RX0 yX0_hasRoom yX0_hasRoom, Cond.initialized RX0, Cond.code yX0_hasRoom cX0_hasRoom 2 (some .boolean), Cond.fieldLink RX0 19 "CookieListener$Connections" "count" "I", Cond.methodLink RX0 26 yX0_waiting, Cond.instanceMethod yX0_waiting, Cond.selects RX0 yX0_waiting yX0_waiting, Cond.code yX0_waiting cX0_waiting 1 (some .int)]
def wsX3_ackWithoutHalf_r4 : List Cond := [Cond.fieldLink RX0 23 "CookieListener$Connections" "taken" "I", Cond.methodLink RX3 175 yX0_add, Cond.instanceMethod yX0_add, Cond.selects RX0 yX0_add yX0_add, Cond.code yX0_add cX0_add 4 none, Cond.fieldLink RX0 9 "CookieListener$Connections" "callers" "[J", Cond.fieldLink RX0 15 "CookieListener$Connections" "kinds" "[I"]
def wsX3_ackWithoutHalf : List Cond := .code yX3_ackWithoutHalf cX3_ackWithoutHalf 6 (some .int) :: ((wsX3_ackWithoutHalf_r1 ++ (wsX3_ackWithoutHalf_r2 ++ (wsX3_ackWithoutHalf_r3 ++ wsX3_ackWithoutHalf_r4))) ++ wsX30 ++ wsX20 ++ wsX00)
def wsX3_ack_r1 : List Cond := [Cond.constant RX3 67 (65535), Cond.fieldLink RX3 26 "CookieListener" "connections" "LCookieListener$Connections;", Cond.fieldLink RX3 19 "CookieListener" "halves" "LCookieListener$Halves;", Cond.fieldLink RX3 52 "CookieListener" "unproven" "I", Cond.methodLink RX3 55 yX3_requireWithin, Cond.static yX3_requireWithin, Cond.initialized RX3, Cond.code yX3_requireWithin cX3_requireWithin 3 none, Cond.classLink RX3 144 "java/lang/IllegalArgumentException", Cond.initialized "java/lang/IllegalArgumentException", Cond.methodLink RX3 68 yX3_callerOf, Cond.static yX3_callerOf, Cond.code yX3_callerOf cX3_callerOf 2 (some .long), Cond.methodLink RX3 72 yX0_find, Cond.instanceMethod yX0_find, Cond.selects RX0 yX0_find yX0_find, Cond.initialized RX0, Cond.code yX0_find cX0_find 4 (some .int), Cond.fieldLink RX0 19 "CookieListener$Connections" "count" "I", Cond.fieldLink RX0 9 "CookieListener$Connections" "callers" "[J", Cond.methodLink RX3 78 yX1_find, Cond.instanceMethod yX1_find, Cond.selects RX1 yX1_find yX1_find, Cond.initialized RX1]
def wsX3_ack_r2 : List Cond := [Cond.code yX1_find cX1_find 4 (some .int), Cond.fieldLink RX1 28 "CookieListener$Halves" "count" "I", Cond.fieldLink RX1 9 "CookieListener$Halves" "callers" "[J", Cond.methodLink RX3 101 yX3_ackOfHalf, Cond.instanceMethod yX3_ackOfHalf, Cond.selects RX3 yX3_ackOfHalf yX3_ackOfHalf, Cond.code yX3_ackOfHalf cX3_ackOfHalf 4 (some .int), Cond.fieldLink RX3 34 "CookieListener" "roomOfQueue" "I", Cond.fieldLink RX3 46 "CookieListener" "openedByHalves" "I", Cond.methodLink RX3 169 yX0_hasRoom, Cond.instanceMethod yX0_hasRoom, Cond.selects RX0 yX0_hasRoom yX0_hasRoom, Cond.code yX0_hasRoom cX0_hasRoom 2 (some .boolean), Cond.methodLink RX0 26 yX0_waiting, Cond.instanceMethod yX0_waiting, Cond.selects RX0 yX0_waiting yX0_waiting, Cond.code yX0_waiting cX0_waiting 1 (some .int), Cond.fieldLink RX0 23 "CookieListener$Connections" "taken" "I", Cond.methodLink RX3 175 yX0_add, Cond.instanceMethod yX0_add, Cond.selects RX0 yX0_add yX0_add, Cond.code yX0_add cX0_add 4 none, Cond.fieldLink RX0 15 "CookieListener$Connections" "kinds" "[I", Cond.methodLink RX3 90 yX1_drop]
def wsX3_ack_r3 : List Cond := [Cond.instanceMethod yX1_drop, Cond.selects RX1 yX1_drop yX1_drop, Cond.code yX1_drop cX1_drop 2 none, Cond.fieldLink RX1 15 "CookieListener$Halves" "numbers" "[I", Cond.fieldLink RX1 19 "CookieListener$Halves" "answers" "[I", Cond.fieldLink RX1 22 "CookieListener$Halves" "kinds" "[I", Cond.fieldLink RX1 25 "CookieListener$Halves" "asked" "[I", Cond.methodLink RX3 105 yX3_ackWithoutHalf, Cond.instanceMethod yX3_ackWithoutHalf, Cond.selects RX3 yX3_ackWithoutHalf yX3_ackWithoutHalf, Cond.code yX3_ackWithoutHalf cX3_ackWithoutHalf 6 (some .int), Cond.fieldLink RX3 49 "CookieListener" "openedByCookies" "I", Cond.methodLink RX3 178 yX3_cookiesGivenLately, Cond.instanceMethod yX3_cookiesGivenLately, Cond.selects RX3 yX3_cookiesGivenLately yX3_cookiesGivenLately, Cond.code yX3_cookiesGivenLately cX3_cookiesGivenLately 1 (some .boolean), Cond.fieldLink RX3 43 "CookieListener" "cookiesGiven" "I", Cond.fieldLink RX3 37 "CookieListener" "time" "I", Cond.fieldLink RX3 40 "CookieListener" "cookiesTime" "I", Cond.methodLink RX3 182 yX3_isCookieOfLateSlot, Cond.instanceMethod yX3_isCookieOfLateSlot, Cond.selects RX3 yX3_isCookieOfLateSlot yX3_isCookieOfLateSlot, Cond.code yX3_isCookieOfLateSlot cX3_isCookieOfLateSlot 7 (some .boolean), Cond.methodLink RX3 161 yX3_slotNow]
def wsX3_ack_r4 : List Cond := [Cond.instanceMethod yX3_slotNow, Cond.selects RX3 yX3_slotNow yX3_slotNow, Cond.code yX3_slotNow cX3_slotNow 1 (some .int), Cond.methodLink RX3 129 yX3_cookieOf, Cond.instanceMethod yX3_cookieOf, Cond.selects RX3 yX3_cookieOf yX3_cookieOf, Cond.code yX3_cookieOf cX3_cookieOf 11 (some .int), Cond.constantLong RX3 158 (-4294967296), Cond.fieldLink RX3 10 "CookieListener" "sip" "LCookieListener$SipHash;", Cond.constant RX3 160 (16777215), Cond.methodLink RX3 86 yX3_withoutSign, Cond.static yX3_withoutSign, Cond.code yX3_withoutSign cX3_withoutSign 1 (some .long), Cond.constantLong RX3 153 (4294967295), Cond.methodLink RX3 116 yX3_portOf, Cond.static yX3_portOf, Cond.code yX3_portOf cX3_portOf 2 (some .int), Cond.methodLink RX3 133 yX2_digest, Cond.instanceMethod yX2_digest, Cond.selects RX2 yX2_digest yX2_digest, Cond.initialized RX2, Cond.code yX2_digest cX2_digest 5 (some .long), Cond.fieldLink RX2 7 "CookieListener$SipHash" "k" "J", Cond.constantLong RX2 28 (8317987319222330741)]
def wsX3_ack_r5 : List Cond := [Cond.fieldLink RX2 16 "CookieListener$SipHash" "v0" "J", Cond.fieldLink RX2 13 "CookieListener$SipHash" "l" "J", Cond.constantLong RX2 30 (7237128888997146477), Cond.fieldLink RX2 19 "CookieListener$SipHash" "v1" "J", Cond.constantLong RX2 32 (7816392313619706465), Cond.fieldLink RX2 22 "CookieListener$SipHash" "v2" "J", Cond.constantLong RX2 34 (8387220255154660723), Cond.fieldLink RX2 25 "CookieListener$SipHash" "v3" "J", Cond.constantLong RX2 40 (1152921504606846976), Cond.constantLong RX2 42 (255), Cond.methodLink RX2 36 yX2_absorb, Cond.instanceMethod yX2_absorb, Cond.selects RX2 yX2_absorb yX2_absorb, Cond.code yX2_absorb cX2_absorb 3 none, Cond.methodLink RX2 44 yX2_mix, Cond.instanceMethod yX2_mix, Cond.selects RX2 yX2_mix yX2_mix, Cond.code yX2_mix cX2_mix 3 none, Cond.methodLink RX2 48 yX2_turnLeft, Cond.static yX2_turnLeft, Cond.code yX2_turnLeft cX2_turnLeft 3 (some .long)]
def wsX3_ack : List Cond := .code yX3_ack cX3_ack 9 (some .int) :: ((wsX3_ack_r1 ++ (wsX3_ack_r2 ++ (wsX3_ack_r3 ++ (wsX3_ack_r4 ++ wsX3_ack_r5)))) ++ wsX30 ++ wsX00 ++ wsX10 ++ wsX20 ++ (vx_atS RX3 148 "java/lang/IllegalArgumentException" ["java/lang/RuntimeException", "java/lang/Exception"]).filter goodWord)
def wsX3_take : List Cond := .code yX3_take cX3_take 2 (some .int) :: ([.fieldLink RX3 26 "CookieListener" "connections" "LCookieListener$Connections;", .methodLink RX3 108 yX0_takeFirst, .instanceMethod yX0_takeFirst, .selects RX0 yX0_takeFirst yX0_takeFirst, .initialized RX0, .code yX0_takeFirst cX0_takeFirst 1 (some .int), .fieldLink RX0 23 "CookieListener$Connections" "taken" "I", .fieldLink RX0 19 "CookieListener$Connections" "count" "I", .methodLink RX3 116 yX3_portOf, .static yX3_portOf, .initialized RX3, .code yX3_portOf cX3_portOf 2 (some .int), .constant RX3 67 (65535)] ++ wsX30 ++ wsX00)
def wsX3_stateOf : List Cond := .code yX3_stateOf cX3_stateOf 4 (some .int) :: ([.fieldLink RX3 26 "CookieListener" "connections" "LCookieListener$Connections;", .fieldLink RX3 19 "CookieListener" "halves" "LCookieListener$Halves;", .methodLink RX3 72 yX0_find, .instanceMethod yX0_find, .selects RX0 yX0_find yX0_find, .initialized RX0, .code yX0_find cX0_find 4 (some .int), .fieldLink RX0 19 "CookieListener$Connections" "count" "I", .fieldLink RX0 9 "CookieListener$Connections" "callers" "[J", .methodLink RX3 186 yX0_isTaken, .instanceMethod yX0_isTaken, .selects RX0 yX0_isTaken yX0_isTaken, .code yX0_isTaken cX0_isTaken 2 (some .boolean), .fieldLink RX0 23 "CookieListener$Connections" "taken" "I", .methodLink RX3 78 yX1_find, .instanceMethod yX1_find, .selects RX1 yX1_find yX1_find, .initialized RX1, .code yX1_find cX1_find 4 (some .int), .fieldLink RX1 28 "CookieListener$Halves" "count" "I", .fieldLink RX1 9 "CookieListener$Halves" "callers" "[J"] ++ wsX30 ++ wsX00 ++ wsX10)
def wsX3_close_r1 : List Cond := [Cond.constant RX3 67 (65535), Cond.fieldLink RX3 19 "CookieListener" "halves" "LCookieListener$Halves;", Cond.fieldLink RX3 26 "CookieListener" "connections" "LCookieListener$Connections;", Cond.methodLink RX3 55 yX3_requireWithin, Cond.static yX3_requireWithin, Cond.initialized RX3, Cond.code yX3_requireWithin cX3_requireWithin 3 none, Cond.classLink RX3 144 "java/lang/IllegalArgumentException", Cond.initialized "java/lang/IllegalArgumentException", Cond.methodLink RX3 68 yX3_callerOf, Cond.static yX3_callerOf, Cond.code yX3_callerOf cX3_callerOf 2 (some .long), Cond.methodLink RX3 122 yX3_stateOf, Cond.instanceMethod yX3_stateOf, Cond.selects RX3 yX3_stateOf yX3_stateOf, Cond.code yX3_stateOf cX3_stateOf 4 (some .int), Cond.methodLink RX3 72 yX0_find, Cond.instanceMethod yX0_find, Cond.selects RX0 yX0_find yX0_find, Cond.initialized RX0, Cond.code yX0_find cX0_find 4 (some .int), Cond.fieldLink RX0 19 "CookieListener$Connections" "count" "I", Cond.fieldLink RX0 9 "CookieListener$Connections" "callers" "[J", Cond.methodLink RX3 186 yX0_isTaken]
def wsX3_close_r2 : List Cond := [Cond.instanceMethod yX0_isTaken, Cond.selects RX0 yX0_isTaken yX0_isTaken, Cond.code yX0_isTaken cX0_isTaken 2 (some .boolean), Cond.fieldLink RX0 23 "CookieListener$Connections" "taken" "I", Cond.methodLink RX3 78 yX1_find, Cond.instanceMethod yX1_find, Cond.selects RX1 yX1_find yX1_find, Cond.initialized RX1, Cond.code yX1_find cX1_find 4 (some .int), Cond.fieldLink RX1 28 "CookieListener$Halves" "count" "I", Cond.fieldLink RX1 9 "CookieListener$Halves" "callers" "[J", Cond.methodLink RX3 90 yX1_drop, Cond.instanceMethod yX1_drop, Cond.selects RX1 yX1_drop yX1_drop, Cond.code yX1_drop cX1_drop 2 none, Cond.fieldLink RX1 15 "CookieListener$Halves" "numbers" "[I", Cond.fieldLink RX1 19 "CookieListener$Halves" "answers" "[I", Cond.fieldLink RX1 22 "CookieListener$Halves" "kinds" "[I", Cond.fieldLink RX1 25 "CookieListener$Halves" "asked" "[I", Cond.methodLink RX3 125 yX0_drop, Cond.instanceMethod yX0_drop, Cond.selects RX0 yX0_drop yX0_drop, Cond.code yX0_drop cX0_drop 3 none, Cond.fieldLink RX0 15 "CookieListener$Connections" "kinds" "[I"]
def wsX3_close_r3 : List Cond := [Cond.methodLink RX0 30 yX0_isTaken]
def wsX3_close : List Cond := .code yX3_close cX3_close 6 (some .int) :: ((wsX3_close_r1 ++ (wsX3_close_r2 ++ wsX3_close_r3)) ++ wsX30 ++ wsX00 ++ wsX10 ++ (vx_atS RX3 148 "java/lang/IllegalArgumentException" ["java/lang/RuntimeException", "java/lang/Exception"]).filter goodWord)
def wsX3_state_r1 : List Cond := [Cond.constant RX3 67 (65535), Cond.methodLink RX3 55 yX3_requireWithin, Cond.static yX3_requireWithin, Cond.initialized RX3, Cond.code yX3_requireWithin cX3_requireWithin 3 none, Cond.classLink RX3 144 "java/lang/IllegalArgumentException", Cond.initialized "java/lang/IllegalArgumentException", Cond.methodLink RX3 68 yX3_callerOf, Cond.static yX3_callerOf, Cond.code yX3_callerOf cX3_callerOf 2 (some .long), Cond.methodLink RX3 122 yX3_stateOf, Cond.instanceMethod yX3_stateOf, Cond.selects RX3 yX3_stateOf yX3_stateOf, Cond.code yX3_stateOf cX3_stateOf 4 (some .int), Cond.fieldLink RX3 26 "CookieListener" "connections" "LCookieListener$Connections;", Cond.fieldLink RX3 19 "CookieListener" "halves" "LCookieListener$Halves;", Cond.methodLink RX3 72 yX0_find, Cond.instanceMethod yX0_find, Cond.selects RX0 yX0_find yX0_find, Cond.initialized RX0, Cond.code yX0_find cX0_find 4 (some .int), Cond.fieldLink RX0 19 "CookieListener$Connections" "count" "I", Cond.fieldLink RX0 9 "CookieListener$Connections" "callers" "[J", Cond.methodLink RX3 186 yX0_isTaken]
def wsX3_state_r2 : List Cond := [Cond.instanceMethod yX0_isTaken, Cond.selects RX0 yX0_isTaken yX0_isTaken, Cond.code yX0_isTaken cX0_isTaken 2 (some .boolean), Cond.fieldLink RX0 23 "CookieListener$Connections" "taken" "I", Cond.methodLink RX3 78 yX1_find, Cond.instanceMethod yX1_find, Cond.selects RX1 yX1_find yX1_find, Cond.initialized RX1, Cond.code yX1_find cX1_find 4 (some .int), Cond.fieldLink RX1 28 "CookieListener$Halves" "count" "I", Cond.fieldLink RX1 9 "CookieListener$Halves" "callers" "[J"]
def wsX3_state : List Cond := .code yX3_state cX3_state 3 (some .int) :: ((wsX3_state_r1 ++ wsX3_state_r2) ++ wsX30 ++ wsX00 ++ wsX10 ++ (vx_atS RX3 148 "java/lang/IllegalArgumentException" ["java/lang/RuntimeException", "java/lang/Exception"]).filter goodWord)
def wsX3_cookie_r1 : List Cond := [Cond.constant RX3 67 (65535), Cond.constant RX3 128 (2147483647), Cond.methodLink RX3 55 yX3_requireWithin, Cond.static yX3_requireWithin, Cond.initialized RX3, Cond.code yX3_requireWithin cX3_requireWithin 3 none, Cond.classLink RX3 144 "java/lang/IllegalArgumentException", Cond.initialized "java/lang/IllegalArgumentException", Cond.methodLink RX3 68 yX3_callerOf, Cond.static yX3_callerOf, Cond.code yX3_callerOf cX3_callerOf 2 (some .long), Cond.methodLink RX3 129 yX3_cookieOf, Cond.instanceMethod yX3_cookieOf, Cond.selects RX3 yX3_cookieOf yX3_cookieOf, Cond.code yX3_cookieOf cX3_cookieOf 11 (some .int), Cond.constantLong RX3 158 (-4294967296), Cond.fieldLink RX3 10 "CookieListener" "sip" "LCookieListener$SipHash;", Cond.constant RX3 160 (16777215), Cond.methodLink RX3 86 yX3_withoutSign, Cond.static yX3_withoutSign, Cond.code yX3_withoutSign cX3_withoutSign 1 (some .long), Cond.constantLong RX3 153 (4294967295), Cond.methodLink RX3 116 yX3_portOf, Cond.static yX3_portOf]
def wsX3_cookie_r2 : List Cond := [Cond.code yX3_portOf cX3_portOf 2 (some .int), Cond.methodLink RX3 133 yX2_digest, Cond.instanceMethod yX2_digest, Cond.selects RX2 yX2_digest yX2_digest, Cond.initialized RX2, Cond.code yX2_digest cX2_digest 5 (some .long), Cond.fieldLink RX2 7 "CookieListener$SipHash" "k" "J", Cond.constantLong RX2 28 (8317987319222330741), Cond.fieldLink RX2 16 "CookieListener$SipHash" "v0" "J", Cond.fieldLink RX2 13 "CookieListener$SipHash" "l" "J", Cond.constantLong RX2 30 (7237128888997146477), Cond.fieldLink RX2 19 "CookieListener$SipHash" "v1" "J", Cond.constantLong RX2 32 (7816392313619706465), Cond.fieldLink RX2 22 "CookieListener$SipHash" "v2" "J", Cond.constantLong RX2 34 (8387220255154660723), Cond.fieldLink RX2 25 "CookieListener$SipHash" "v3" "J", Cond.constantLong RX2 40 (1152921504606846976), Cond.constantLong RX2 42 (255), Cond.methodLink RX2 36 yX2_absorb, Cond.instanceMethod yX2_absorb, Cond.selects RX2 yX2_absorb yX2_absorb, Cond.code yX2_absorb cX2_absorb 3 none, Cond.methodLink RX2 44 yX2_mix, Cond.instanceMethod yX2_mix]
def wsX3_cookie_r3 : List Cond := [Cond.selects RX2 yX2_mix yX2_mix, Cond.code yX2_mix cX2_mix 3 none, Cond.methodLink RX2 48 yX2_turnLeft, Cond.static yX2_turnLeft, Cond.code yX2_turnLeft cX2_turnLeft 3 (some .long)]
def wsX3_cookie : List Cond := .code yX3_cookie cX3_cookie 6 (some .long) :: ((wsX3_cookie_r1 ++ (wsX3_cookie_r2 ++ wsX3_cookie_r3)) ++ wsX30 ++ wsX20 ++ (vx_atS RX3 148 "java/lang/IllegalArgumentException" ["java/lang/RuntimeException", "java/lang/Exception"]).filter goodWord)
def wsX3_hash_r1 : List Cond := [Cond.fieldLink RX3 10 "CookieListener" "sip" "LCookieListener$SipHash;", Cond.methodLink RX3 133 yX2_digest, Cond.instanceMethod yX2_digest, Cond.selects RX2 yX2_digest yX2_digest, Cond.initialized RX2, Cond.code yX2_digest cX2_digest 5 (some .long), Cond.fieldLink RX2 7 "CookieListener$SipHash" "k" "J", Cond.constantLong RX2 28 (8317987319222330741), Cond.fieldLink RX2 16 "CookieListener$SipHash" "v0" "J", Cond.fieldLink RX2 13 "CookieListener$SipHash" "l" "J", Cond.constantLong RX2 30 (7237128888997146477), Cond.fieldLink RX2 19 "CookieListener$SipHash" "v1" "J", Cond.constantLong RX2 32 (7816392313619706465), Cond.fieldLink RX2 22 "CookieListener$SipHash" "v2" "J", Cond.constantLong RX2 34 (8387220255154660723), Cond.fieldLink RX2 25 "CookieListener$SipHash" "v3" "J", Cond.constantLong RX2 40 (1152921504606846976), Cond.constantLong RX2 42 (255), Cond.methodLink RX2 36 yX2_absorb, Cond.instanceMethod yX2_absorb, Cond.selects RX2 yX2_absorb yX2_absorb, Cond.code yX2_absorb cX2_absorb 3 none, Cond.methodLink RX2 44 yX2_mix, Cond.instanceMethod yX2_mix]
def wsX3_hash_r2 : List Cond := [Cond.selects RX2 yX2_mix yX2_mix, Cond.code yX2_mix cX2_mix 3 none, Cond.methodLink RX2 48 yX2_turnLeft, Cond.static yX2_turnLeft, Cond.code yX2_turnLeft cX2_turnLeft 3 (some .long)]
def wsX3_hash : List Cond := .code yX3_hash cX3_hash 5 (some .long) :: ((wsX3_hash_r1 ++ wsX3_hash_r2) ++ wsX30 ++ wsX20)
def wsX3_told : List Cond := .code yX3_told cX3_told 2 (some .int) :: ([.classLink RX3 144 "java/lang/IllegalArgumentException", .initialized "java/lang/IllegalArgumentException", .fieldLink RX3 19 "CookieListener" "halves" "LCookieListener$Halves;", .fieldLink RX3 26 "CookieListener" "connections" "LCookieListener$Connections;", .fieldLink RX3 43 "CookieListener" "cookiesGiven" "I", .fieldLink RX3 46 "CookieListener" "openedByHalves" "I", .fieldLink RX3 49 "CookieListener" "openedByCookies" "I", .fieldLink RX3 52 "CookieListener" "unproven" "I", .fieldLink RX3 37 "CookieListener" "time" "I", .methodLink RX3 140 yX0_waiting, .instanceMethod yX0_waiting, .selects RX0 yX0_waiting yX0_waiting, .initialized RX0, .code yX0_waiting cX0_waiting 1 (some .int), .fieldLink RX0 19 "CookieListener$Connections" "count" "I", .fieldLink RX0 23 "CookieListener$Connections" "taken" "I"] ++ wsX30 ++ wsX10 ++ wsX00 ++ (vx_atS RX3 148 "java/lang/IllegalArgumentException" ["java/lang/RuntimeException", "java/lang/Exception"]).filter goodWord)
def wsX4_init : List Cond := .code yX4_init cX4_init 1 none :: ([.methodLink RX4 1 objectInit, .instanceMethod objectInit, .code objectInit ⟨#[0xb1]⟩ 1 none, .fieldLink RX4 7 "CookieListenerModel" "size" "I", .fieldLink RX4 13 "CookieListenerModel" "room" "I", .fieldLink RX4 16 "CookieListenerModel" "cookiesTime" "I", .arrayClass .int, .fieldLink RX4 19 "CookieListenerModel" "halfAddress" "[I", .fieldLink RX4 23 "CookieListenerModel" "halfPort" "[I", .fieldLink RX4 26 "CookieListenerModel" "halfNumber" "[I", .fieldLink RX4 29 "CookieListenerModel" "halfOwn" "[I", .fieldLink RX4 32 "CookieListenerModel" "halfKind" "[I", .fieldLink RX4 35 "CookieListenerModel" "halfTime" "[I", .fieldLink RX4 38 "CookieListenerModel" "openAddress" "[I", .fieldLink RX4 41 "CookieListenerModel" "openPort" "[I", .fieldLink RX4 44 "CookieListenerModel" "openKind" "[I", .arrayClass .boolean, .fieldLink RX4 47 "CookieListenerModel" "taken" "[Z", .fieldLink RX4 51 "CookieListenerModel" "counts" "[I"] ++ wsX40)
def wsX4_thrown : List Cond := .code yX4_thrown cX4_thrown 1 (some .int) :: ([.fieldLink RX4 54 "CookieListenerModel" "thrown" "I"] ++ wsX40)
def wsX4_rooms : List Cond := .code yX4_rooms cX4_rooms 3 none :: ([.fieldLink RX4 54 "CookieListenerModel" "thrown" "I", .fieldLink RX4 7 "CookieListenerModel" "size" "I", .fieldLink RX4 13 "CookieListenerModel" "room" "I"] ++ wsX40)
def wsX4_key : List Cond := .code yX4_key cX4_key 5 none :: ([.fieldLink RX4 54 "CookieListenerModel" "thrown" "I", .fieldLink RX4 57 "CookieListenerModel" "k" "J", .fieldLink RX4 61 "CookieListenerModel" "l" "J"] ++ wsX40)
def wsX4_turned : List Cond := .code yX4_turned cX4_turned 3 (some .long) :: ([])
def wsX4_round : List Cond := .code yX4_round cX4_round 1 none :: ([.fieldLink RX4 64 "CookieListenerModel" "v0" "J", .fieldLink RX4 67 "CookieListenerModel" "v1" "J", .fieldLink RX4 74 "CookieListenerModel" "v2" "J", .fieldLink RX4 77 "CookieListenerModel" "v3" "J", .methodLink RX4 70 yX4_turned, .static yX4_turned, .initialized RX4, .code yX4_turned cX4_turned 3 (some .long)] ++ wsX40)
def wsX4_take : List Cond := .code yX4_take cX4_take 3 none :: ([.fieldLink RX4 77 "CookieListenerModel" "v3" "J", .fieldLink RX4 64 "CookieListenerModel" "v0" "J", .methodLink RX4 80 yX4_round, .instanceMethod yX4_round, .selects RX4 yX4_round yX4_round, .initialized RX4, .code yX4_round cX4_round 1 none, .fieldLink RX4 67 "CookieListenerModel" "v1" "J", .fieldLink RX4 74 "CookieListenerModel" "v2" "J", .methodLink RX4 70 yX4_turned, .static yX4_turned, .code yX4_turned cX4_turned 3 (some .long)] ++ wsX40)
def wsX4_hashOf : List Cond := .code yX4_hashOf cX4_hashOf 6 (some .long) :: ([.fieldLink RX4 57 "CookieListenerModel" "k" "J", .constantLong RX4 83 (8317987319222330741), .fieldLink RX4 64 "CookieListenerModel" "v0" "J", .fieldLink RX4 61 "CookieListenerModel" "l" "J", .constantLong RX4 85 (7237128888997146477), .fieldLink RX4 67 "CookieListenerModel" "v1" "J", .constantLong RX4 87 (7816392313619706465), .fieldLink RX4 74 "CookieListenerModel" "v2" "J", .constantLong RX4 89 (8387220255154660723), .fieldLink RX4 77 "CookieListenerModel" "v3" "J", .constantLong RX4 95 (1152921504606846976), .constantLong RX4 97 (255), .methodLink RX4 91 yX4_take, .instanceMethod yX4_take, .selects RX4 yX4_take yX4_take, .initialized RX4, .code yX4_take cX4_take 3 none, .methodLink RX4 80 yX4_round, .instanceMethod yX4_round, .selects RX4 yX4_round yX4_round, .code yX4_round cX4_round 1 none, .methodLink RX4 70 yX4_turned, .static yX4_turned, .code yX4_turned cX4_turned 3 (some .long)] ++ wsX40)
def wsX4_hash_r1 : List Cond := [Cond.fieldLink RX4 54 "CookieListenerModel" "thrown" "I", Cond.methodLink RX4 99 yX4_hashOf, Cond.instanceMethod yX4_hashOf, Cond.selects RX4 yX4_hashOf yX4_hashOf, Cond.initialized RX4, Cond.code yX4_hashOf cX4_hashOf 6 (some .long), Cond.fieldLink RX4 57 "CookieListenerModel" "k" "J", Cond.constantLong RX4 83 (8317987319222330741), Cond.fieldLink RX4 64 "CookieListenerModel" "v0" "J", Cond.fieldLink RX4 61 "CookieListenerModel" "l" "J", Cond.constantLong RX4 85 (7237128888997146477), Cond.fieldLink RX4 67 "CookieListenerModel" "v1" "J", Cond.constantLong RX4 87 (7816392313619706465), Cond.fieldLink RX4 74 "CookieListenerModel" "v2" "J", Cond.constantLong RX4 89 (8387220255154660723), Cond.fieldLink RX4 77 "CookieListenerModel" "v3" "J", Cond.constantLong RX4 95 (1152921504606846976), Cond.constantLong RX4 97 (255), Cond.methodLink RX4 91 yX4_take, Cond.instanceMethod yX4_take, Cond.selects RX4 yX4_take yX4_take, Cond.code yX4_take cX4_take 3 none, Cond.methodLink RX4 80 yX4_round, Cond.instanceMethod yX4_round]
def wsX4_hash_r2 : List Cond := [Cond.selects RX4 yX4_round yX4_round, Cond.code yX4_round cX4_round 1 none, Cond.methodLink RX4 70 yX4_turned, Cond.static yX4_turned, Cond.code yX4_turned cX4_turned 3 (some .long)]
def wsX4_hash : List Cond := .code yX4_hash cX4_hash 5 (some .long) :: ((wsX4_hash_r1 ++ wsX4_hash_r2) ++ wsX40)
def wsX4_cookieOf_r1 : List Cond := [Cond.constantLong RX4 103 (4294967295), Cond.constantLong RX4 105 (65536), Cond.constantLong RX4 107 (1048576), Cond.constantLong RX4 109 (16777215), Cond.methodLink RX4 99 yX4_hashOf, Cond.instanceMethod yX4_hashOf, Cond.selects RX4 yX4_hashOf yX4_hashOf, Cond.initialized RX4, Cond.code yX4_hashOf cX4_hashOf 6 (some .long), Cond.fieldLink RX4 57 "CookieListenerModel" "k" "J", Cond.constantLong RX4 83 (8317987319222330741), Cond.fieldLink RX4 64 "CookieListenerModel" "v0" "J", Cond.fieldLink RX4 61 "CookieListenerModel" "l" "J", Cond.constantLong RX4 85 (7237128888997146477), Cond.fieldLink RX4 67 "CookieListenerModel" "v1" "J", Cond.constantLong RX4 87 (7816392313619706465), Cond.fieldLink RX4 74 "CookieListenerModel" "v2" "J", Cond.constantLong RX4 89 (8387220255154660723), Cond.fieldLink RX4 77 "CookieListenerModel" "v3" "J", Cond.constantLong RX4 95 (1152921504606846976), Cond.constantLong RX4 97 (255), Cond.methodLink RX4 91 yX4_take, Cond.instanceMethod yX4_take, Cond.selects RX4 yX4_take yX4_take]
def wsX4_cookieOf_r2 : List Cond := [Cond.code yX4_take cX4_take 3 none, Cond.methodLink RX4 80 yX4_round, Cond.instanceMethod yX4_round, Cond.selects RX4 yX4_round yX4_round, Cond.code yX4_round cX4_round 1 none, Cond.methodLink RX4 70 yX4_turned, Cond.static yX4_turned, Cond.code yX4_turned cX4_turned 3 (some .long)]
def wsX4_cookieOf : List Cond := .code yX4_cookieOf cX4_cookieOf 11 (some .int) :: ((wsX4_cookieOf_r1 ++ wsX4_cookieOf_r2) ++ wsX40)
def wsX4_noPort : List Cond := .code yX4_noPort cX4_noPort 1 (some .boolean) :: ([.constant RX4 111 (65535)])
def wsX4_cookie_r1 : List Cond := [Cond.fieldLink RX4 54 "CookieListenerModel" "thrown" "I", Cond.constantLong RX4 103 (4294967295), Cond.methodLink RX4 112 yX4_noPort, Cond.static yX4_noPort, Cond.initialized RX4, Cond.code yX4_noPort cX4_noPort 1 (some .boolean), Cond.constant RX4 111 (65535), Cond.methodLink RX4 116 yX4_cookieOf, Cond.instanceMethod yX4_cookieOf, Cond.selects RX4 yX4_cookieOf yX4_cookieOf, Cond.code yX4_cookieOf cX4_cookieOf 11 (some .int), Cond.constantLong RX4 105 (65536), Cond.constantLong RX4 107 (1048576), Cond.constantLong RX4 109 (16777215), Cond.methodLink RX4 99 yX4_hashOf, Cond.instanceMethod yX4_hashOf, Cond.selects RX4 yX4_hashOf yX4_hashOf, Cond.code yX4_hashOf cX4_hashOf 6 (some .long), Cond.fieldLink RX4 57 "CookieListenerModel" "k" "J", Cond.constantLong RX4 83 (8317987319222330741), Cond.fieldLink RX4 64 "CookieListenerModel" "v0" "J", Cond.fieldLink RX4 61 "CookieListenerModel" "l" "J", Cond.constantLong RX4 85 (7237128888997146477), Cond.fieldLink RX4 67 "CookieListenerModel" "v1" "J"]
def wsX4_cookie_r2 : List Cond := [Cond.constantLong RX4 87 (7816392313619706465), Cond.fieldLink RX4 74 "CookieListenerModel" "v2" "J", Cond.constantLong RX4 89 (8387220255154660723), Cond.fieldLink RX4 77 "CookieListenerModel" "v3" "J", Cond.constantLong RX4 95 (1152921504606846976), Cond.constantLong RX4 97 (255), Cond.methodLink RX4 91 yX4_take, Cond.instanceMethod yX4_take, Cond.selects RX4 yX4_take yX4_take, Cond.code yX4_take cX4_take 3 none, Cond.methodLink RX4 80 yX4_round, Cond.instanceMethod yX4_round, Cond.selects RX4 yX4_round yX4_round, Cond.code yX4_round cX4_round 1 none, Cond.methodLink RX4 70 yX4_turned, Cond.static yX4_turned, Cond.code yX4_turned cX4_turned 3 (some .long)]
def wsX4_cookie : List Cond := .code yX4_cookie cX4_cookie 6 (some .long) :: ((wsX4_cookie_r1 ++ wsX4_cookie_r2) ++ wsX40)
def wsX4_half : List Cond := .code yX4_half cX4_half 4 (some .int) :: ([.fieldLink RX4 120 "CookieListenerModel" "halves" "I", .fieldLink RX4 19 "CookieListenerModel" "halfAddress" "[I", .fieldLink RX4 23 "CookieListenerModel" "halfPort" "[I"] ++ wsX40)
def wsX4_opened : List Cond := .code yX4_opened cX4_opened 4 (some .int) :: ([.fieldLink RX4 123 "CookieListenerModel" "open" "I", .fieldLink RX4 38 "CookieListenerModel" "openAddress" "[I", .fieldLink RX4 41 "CookieListenerModel" "openPort" "[I"] ++ wsX40)
def wsX4_dropHalf : List Cond := .code yX4_dropHalf cX4_dropHalf 3 none :: ([.fieldLink RX4 120 "CookieListenerModel" "halves" "I", .fieldLink RX4 19 "CookieListenerModel" "halfAddress" "[I", .fieldLink RX4 23 "CookieListenerModel" "halfPort" "[I", .fieldLink RX4 26 "CookieListenerModel" "halfNumber" "[I", .fieldLink RX4 29 "CookieListenerModel" "halfOwn" "[I", .fieldLink RX4 32 "CookieListenerModel" "halfKind" "[I", .fieldLink RX4 35 "CookieListenerModel" "halfTime" "[I"] ++ wsX40)
def wsX4_dropOpen : List Cond := .code yX4_dropOpen cX4_dropOpen 3 none :: ([.fieldLink RX4 123 "CookieListenerModel" "open" "I", .fieldLink RX4 38 "CookieListenerModel" "openAddress" "[I", .fieldLink RX4 41 "CookieListenerModel" "openPort" "[I", .fieldLink RX4 44 "CookieListenerModel" "openKind" "[I", .fieldLink RX4 47 "CookieListenerModel" "taken" "[Z"] ++ wsX40)
def wsX4_waiting : List Cond := .code yX4_waiting cX4_waiting 3 (some .int) :: ([.fieldLink RX4 123 "CookieListenerModel" "open" "I", .fieldLink RX4 47 "CookieListenerModel" "taken" "[Z"] ++ wsX40)
def wsX4_hasRoom : List Cond := .code yX4_hasRoom cX4_hasRoom 1 (some .boolean) :: ([.fieldLink RX4 13 "CookieListenerModel" "room" "I", .fieldLink RX4 123 "CookieListenerModel" "open" "I", .methodLink RX4 126 yX4_waiting, .instanceMethod yX4_waiting, .selects RX4 yX4_waiting yX4_waiting, .initialized RX4, .code yX4_waiting cX4_waiting 3 (some .int), .fieldLink RX4 47 "CookieListenerModel" "taken" "[Z"] ++ wsX40)
def wsX4_come : List Cond := .code yX4_come cX4_come 4 none :: ([.fieldLink RX4 38 "CookieListenerModel" "openAddress" "[I", .fieldLink RX4 123 "CookieListenerModel" "open" "I", .fieldLink RX4 41 "CookieListenerModel" "openPort" "[I", .fieldLink RX4 44 "CookieListenerModel" "openKind" "[I", .fieldLink RX4 47 "CookieListenerModel" "taken" "[Z"] ++ wsX40)
def wsX4_pass : List Cond := .code yX4_pass cX4_pass 3 (some .int) :: ([.fieldLink RX4 54 "CookieListenerModel" "thrown" "I", .fieldLink RX4 130 "CookieListenerModel" "time" "I", .fieldLink RX4 120 "CookieListenerModel" "halves" "I", .fieldLink RX4 35 "CookieListenerModel" "halfTime" "[I", .methodLink RX4 133 yX4_dropHalf, .instanceMethod yX4_dropHalf, .selects RX4 yX4_dropHalf yX4_dropHalf, .initialized RX4, .code yX4_dropHalf cX4_dropHalf 3 none, .fieldLink RX4 19 "CookieListenerModel" "halfAddress" "[I", .fieldLink RX4 23 "CookieListenerModel" "halfPort" "[I", .fieldLink RX4 26 "CookieListenerModel" "halfNumber" "[I", .fieldLink RX4 29 "CookieListenerModel" "halfOwn" "[I", .fieldLink RX4 32 "CookieListenerModel" "halfKind" "[I"] ++ wsX40)
def wsX4_kindOf : List Cond := .code yX4_kindOf cX4_kindOf 1 (some .int) :: ([])
def wsX4_syn_r1 : List Cond := [Cond.fieldLink RX4 54 "CookieListenerModel" "thrown" "I", Cond.constantLong RX4 141 (-1), Cond.fieldLink RX4 26 "CookieListenerModel" "halfNumber" "[I", Cond.fieldLink RX4 29 "CookieListenerModel" "halfOwn" "[I", Cond.constantLong RX4 103 (4294967295), Cond.fieldLink RX4 130 "CookieListenerModel" "time" "I", Cond.fieldLink RX4 120 "CookieListenerModel" "halves" "I", Cond.fieldLink RX4 7 "CookieListenerModel" "size" "I", Cond.fieldLink RX4 16 "CookieListenerModel" "cookiesTime" "I", Cond.fieldLink RX4 51 "CookieListenerModel" "counts" "[I", Cond.constant RX4 150 (-16777216), Cond.fieldLink RX4 19 "CookieListenerModel" "halfAddress" "[I", Cond.fieldLink RX4 23 "CookieListenerModel" "halfPort" "[I", Cond.fieldLink RX4 32 "CookieListenerModel" "halfKind" "[I", Cond.fieldLink RX4 35 "CookieListenerModel" "halfTime" "[I", Cond.methodLink RX4 112 yX4_noPort, Cond.static yX4_noPort, Cond.initialized RX4, Cond.code yX4_noPort cX4_noPort 1 (some .boolean), Cond.constant RX4 111 (65535), Cond.methodLink RX4 137 yX4_opened, Cond.instanceMethod yX4_opened, Cond.selects RX4 yX4_opened yX4_opened, Cond.code yX4_opened cX4_opened 4 (some .int)]
def wsX4_syn_r2 : List Cond := [Cond.fieldLink RX4 123 "CookieListenerModel" "open" "I", Cond.fieldLink RX4 38 "CookieListenerModel" "openAddress" "[I", Cond.fieldLink RX4 41 "CookieListenerModel" "openPort" "[I", Cond.methodLink RX4 143 yX4_half, Cond.instanceMethod yX4_half, Cond.selects RX4 yX4_half yX4_half, Cond.code yX4_half cX4_half 4 (some .int), Cond.methodLink RX4 133 yX4_dropHalf, Cond.instanceMethod yX4_dropHalf, Cond.selects RX4 yX4_dropHalf yX4_dropHalf, Cond.code yX4_dropHalf cX4_dropHalf 3 none, Cond.methodLink RX4 146 yX4_kindOf, Cond.static yX4_kindOf, Cond.code yX4_kindOf cX4_kindOf 1 (some .int), Cond.methodLink RX4 116 yX4_cookieOf, Cond.instanceMethod yX4_cookieOf, Cond.selects RX4 yX4_cookieOf yX4_cookieOf, Cond.code yX4_cookieOf cX4_cookieOf 11 (some .int), Cond.constantLong RX4 105 (65536), Cond.constantLong RX4 107 (1048576), Cond.constantLong RX4 109 (16777215), Cond.methodLink RX4 99 yX4_hashOf, Cond.instanceMethod yX4_hashOf, Cond.selects RX4 yX4_hashOf yX4_hashOf]
def wsX4_syn_r3 : List Cond := [Cond.code yX4_hashOf cX4_hashOf 6 (some .long), Cond.fieldLink RX4 57 "CookieListenerModel" "k" "J", Cond.constantLong RX4 83 (8317987319222330741), Cond.fieldLink RX4 64 "CookieListenerModel" "v0" "J", Cond.fieldLink RX4 61 "CookieListenerModel" "l" "J", Cond.constantLong RX4 85 (7237128888997146477), Cond.fieldLink RX4 67 "CookieListenerModel" "v1" "J", Cond.constantLong RX4 87 (7816392313619706465), Cond.fieldLink RX4 74 "CookieListenerModel" "v2" "J", Cond.constantLong RX4 89 (8387220255154660723), Cond.fieldLink RX4 77 "CookieListenerModel" "v3" "J", Cond.constantLong RX4 95 (1152921504606846976), Cond.constantLong RX4 97 (255), Cond.methodLink RX4 91 yX4_take, Cond.instanceMethod yX4_take, Cond.selects RX4 yX4_take yX4_take, Cond.code yX4_take cX4_take 3 none, Cond.methodLink RX4 80 yX4_round, Cond.instanceMethod yX4_round, Cond.selects RX4 yX4_round yX4_round, Cond.code yX4_round cX4_round 1 none, Cond.methodLink RX4 70 yX4_turned, Cond.static yX4_turned, Cond.code yX4_turned cX4_turned 3 (some .long)]
def wsX4_syn : List Cond := .code yX4_syn cX4_syn 8 (some .long) :: ((wsX4_syn_r1 ++ (wsX4_syn_r2 ++ wsX4_syn_r3)) ++ wsX40)
def wsX4_ack_r1 : List Cond := [Cond.fieldLink RX4 54 "CookieListenerModel" "thrown" "I", Cond.fieldLink RX4 26 "CookieListenerModel" "halfNumber" "[I", Cond.fieldLink RX4 29 "CookieListenerModel" "halfOwn" "[I", Cond.fieldLink RX4 32 "CookieListenerModel" "halfKind" "[I", Cond.fieldLink RX4 51 "CookieListenerModel" "counts" "[I", Cond.fieldLink RX4 16 "CookieListenerModel" "cookiesTime" "I", Cond.fieldLink RX4 130 "CookieListenerModel" "time" "I", Cond.methodLink RX4 112 yX4_noPort, Cond.static yX4_noPort, Cond.initialized RX4, Cond.code yX4_noPort cX4_noPort 1 (some .boolean), Cond.constant RX4 111 (65535), Cond.methodLink RX4 137 yX4_opened, Cond.instanceMethod yX4_opened, Cond.selects RX4 yX4_opened yX4_opened, Cond.code yX4_opened cX4_opened 4 (some .int), Cond.fieldLink RX4 123 "CookieListenerModel" "open" "I", Cond.fieldLink RX4 38 "CookieListenerModel" "openAddress" "[I", Cond.fieldLink RX4 41 "CookieListenerModel" "openPort" "[I", Cond.methodLink RX4 143 yX4_half, Cond.instanceMethod yX4_half, Cond.selects RX4 yX4_half yX4_half, Cond.code yX4_half cX4_half 4 (some .int), Cond.fieldLink RX4 120 "CookieListenerModel" "halves" "I"]
def wsX4_ack_r2 : List Cond := [Cond.fieldLink RX4 19 "CookieListenerModel" "halfAddress" "[I", Cond.fieldLink RX4 23 "CookieListenerModel" "halfPort" "[I", Cond.methodLink RX4 151 yX4_hasRoom, Cond.instanceMethod yX4_hasRoom, Cond.selects RX4 yX4_hasRoom yX4_hasRoom, Cond.code yX4_hasRoom cX4_hasRoom 1 (some .boolean), Cond.fieldLink RX4 13 "CookieListenerModel" "room" "I", Cond.methodLink RX4 126 yX4_waiting, Cond.instanceMethod yX4_waiting, Cond.selects RX4 yX4_waiting yX4_waiting, Cond.code yX4_waiting cX4_waiting 3 (some .int), Cond.fieldLink RX4 47 "CookieListenerModel" "taken" "[Z", Cond.methodLink RX4 155 yX4_come, Cond.instanceMethod yX4_come, Cond.selects RX4 yX4_come yX4_come, Cond.code yX4_come cX4_come 4 none, Cond.fieldLink RX4 44 "CookieListenerModel" "openKind" "[I", Cond.methodLink RX4 133 yX4_dropHalf, Cond.instanceMethod yX4_dropHalf, Cond.selects RX4 yX4_dropHalf yX4_dropHalf, Cond.code yX4_dropHalf cX4_dropHalf 3 none, Cond.fieldLink RX4 35 "CookieListenerModel" "halfTime" "[I", Cond.methodLink RX4 116 yX4_cookieOf, Cond.instanceMethod yX4_cookieOf]
def wsX4_ack_r3 : List Cond := [Cond.selects RX4 yX4_cookieOf yX4_cookieOf, Cond.code yX4_cookieOf cX4_cookieOf 11 (some .int), Cond.constantLong RX4 103 (4294967295), Cond.constantLong RX4 105 (65536), Cond.constantLong RX4 107 (1048576), Cond.constantLong RX4 109 (16777215), Cond.methodLink RX4 99 yX4_hashOf, Cond.instanceMethod yX4_hashOf, Cond.selects RX4 yX4_hashOf yX4_hashOf, Cond.code yX4_hashOf cX4_hashOf 6 (some .long), Cond.fieldLink RX4 57 "CookieListenerModel" "k" "J", Cond.constantLong RX4 83 (8317987319222330741), Cond.fieldLink RX4 64 "CookieListenerModel" "v0" "J", Cond.fieldLink RX4 61 "CookieListenerModel" "l" "J", Cond.constantLong RX4 85 (7237128888997146477), Cond.fieldLink RX4 67 "CookieListenerModel" "v1" "J", Cond.constantLong RX4 87 (7816392313619706465), Cond.fieldLink RX4 74 "CookieListenerModel" "v2" "J", Cond.constantLong RX4 89 (8387220255154660723), Cond.fieldLink RX4 77 "CookieListenerModel" "v3" "J", Cond.constantLong RX4 95 (1152921504606846976), Cond.constantLong RX4 97 (255), Cond.methodLink RX4 91 yX4_take, Cond.instanceMethod yX4_take]
def wsX4_ack_r4 : List Cond := [Cond.selects RX4 yX4_take yX4_take, Cond.code yX4_take cX4_take 3 none, Cond.methodLink RX4 80 yX4_round, Cond.instanceMethod yX4_round, Cond.selects RX4 yX4_round yX4_round, Cond.code yX4_round cX4_round 1 none, Cond.methodLink RX4 70 yX4_turned, Cond.static yX4_turned, Cond.code yX4_turned cX4_turned 3 (some .long)]
def wsX4_ack : List Cond := .code yX4_ack cX4_ack 10 (some .int) :: ((wsX4_ack_r1 ++ (wsX4_ack_r2 ++ (wsX4_ack_r3 ++ wsX4_ack_r4))) ++ wsX40)
def wsX4_take_ : List Cond := .code yX4_take_ cX4_take_ 2 (some .int) :: ([.fieldLink RX4 54 "CookieListenerModel" "thrown" "I", .fieldLink RX4 123 "CookieListenerModel" "open" "I", .fieldLink RX4 47 "CookieListenerModel" "taken" "[Z", .fieldLink RX4 41 "CookieListenerModel" "openPort" "[I", .constant RX4 159 (65536), .fieldLink RX4 44 "CookieListenerModel" "openKind" "[I"] ++ wsX40)
def wsX4_stateOf : List Cond := .code yX4_stateOf cX4_stateOf 4 (some .int) :: ([.fieldLink RX4 47 "CookieListenerModel" "taken" "[Z", .methodLink RX4 137 yX4_opened, .instanceMethod yX4_opened, .selects RX4 yX4_opened yX4_opened, .initialized RX4, .code yX4_opened cX4_opened 4 (some .int), .fieldLink RX4 123 "CookieListenerModel" "open" "I", .fieldLink RX4 38 "CookieListenerModel" "openAddress" "[I", .fieldLink RX4 41 "CookieListenerModel" "openPort" "[I", .methodLink RX4 143 yX4_half, .instanceMethod yX4_half, .selects RX4 yX4_half yX4_half, .code yX4_half cX4_half 4 (some .int), .fieldLink RX4 120 "CookieListenerModel" "halves" "I", .fieldLink RX4 19 "CookieListenerModel" "halfAddress" "[I", .fieldLink RX4 23 "CookieListenerModel" "halfPort" "[I"] ++ wsX40)
def wsX4_close_r1 : List Cond := [Cond.fieldLink RX4 54 "CookieListenerModel" "thrown" "I", Cond.methodLink RX4 112 yX4_noPort, Cond.static yX4_noPort, Cond.initialized RX4, Cond.code yX4_noPort cX4_noPort 1 (some .boolean), Cond.constant RX4 111 (65535), Cond.methodLink RX4 160 yX4_stateOf, Cond.instanceMethod yX4_stateOf, Cond.selects RX4 yX4_stateOf yX4_stateOf, Cond.code yX4_stateOf cX4_stateOf 4 (some .int), Cond.fieldLink RX4 47 "CookieListenerModel" "taken" "[Z", Cond.methodLink RX4 137 yX4_opened, Cond.instanceMethod yX4_opened, Cond.selects RX4 yX4_opened yX4_opened, Cond.code yX4_opened cX4_opened 4 (some .int), Cond.fieldLink RX4 123 "CookieListenerModel" "open" "I", Cond.fieldLink RX4 38 "CookieListenerModel" "openAddress" "[I", Cond.fieldLink RX4 41 "CookieListenerModel" "openPort" "[I", Cond.methodLink RX4 143 yX4_half, Cond.instanceMethod yX4_half, Cond.selects RX4 yX4_half yX4_half, Cond.code yX4_half cX4_half 4 (some .int), Cond.fieldLink RX4 120 "CookieListenerModel" "halves" "I", Cond.fieldLink RX4 19 "CookieListenerModel" "halfAddress" "[I"]
def wsX4_close_r2 : List Cond := [Cond.fieldLink RX4 23 "CookieListenerModel" "halfPort" "[I", Cond.methodLink RX4 133 yX4_dropHalf, Cond.instanceMethod yX4_dropHalf, Cond.selects RX4 yX4_dropHalf yX4_dropHalf, Cond.code yX4_dropHalf cX4_dropHalf 3 none, Cond.fieldLink RX4 26 "CookieListenerModel" "halfNumber" "[I", Cond.fieldLink RX4 29 "CookieListenerModel" "halfOwn" "[I", Cond.fieldLink RX4 32 "CookieListenerModel" "halfKind" "[I", Cond.fieldLink RX4 35 "CookieListenerModel" "halfTime" "[I", Cond.methodLink RX4 163 yX4_dropOpen, Cond.instanceMethod yX4_dropOpen, Cond.selects RX4 yX4_dropOpen yX4_dropOpen, Cond.code yX4_dropOpen cX4_dropOpen 3 none, Cond.fieldLink RX4 44 "CookieListenerModel" "openKind" "[I"]
def wsX4_close : List Cond := .code yX4_close cX4_close 4 (some .int) :: ((wsX4_close_r1 ++ wsX4_close_r2) ++ wsX40)
def wsX4_state_r1 : List Cond := [Cond.fieldLink RX4 54 "CookieListenerModel" "thrown" "I", Cond.methodLink RX4 112 yX4_noPort, Cond.static yX4_noPort, Cond.initialized RX4, Cond.code yX4_noPort cX4_noPort 1 (some .boolean), Cond.constant RX4 111 (65535), Cond.methodLink RX4 160 yX4_stateOf, Cond.instanceMethod yX4_stateOf, Cond.selects RX4 yX4_stateOf yX4_stateOf, Cond.code yX4_stateOf cX4_stateOf 4 (some .int), Cond.fieldLink RX4 47 "CookieListenerModel" "taken" "[Z", Cond.methodLink RX4 137 yX4_opened, Cond.instanceMethod yX4_opened, Cond.selects RX4 yX4_opened yX4_opened, Cond.code yX4_opened cX4_opened 4 (some .int), Cond.fieldLink RX4 123 "CookieListenerModel" "open" "I", Cond.fieldLink RX4 38 "CookieListenerModel" "openAddress" "[I", Cond.fieldLink RX4 41 "CookieListenerModel" "openPort" "[I", Cond.methodLink RX4 143 yX4_half, Cond.instanceMethod yX4_half, Cond.selects RX4 yX4_half yX4_half, Cond.code yX4_half cX4_half 4 (some .int), Cond.fieldLink RX4 120 "CookieListenerModel" "halves" "I", Cond.fieldLink RX4 19 "CookieListenerModel" "halfAddress" "[I"]
def wsX4_state_r2 : List Cond := [Cond.fieldLink RX4 23 "CookieListenerModel" "halfPort" "[I"]
def wsX4_state : List Cond := .code yX4_state cX4_state 3 (some .int) :: ((wsX4_state_r1 ++ wsX4_state_r2) ++ wsX40)
def wsX4_told : List Cond := .code yX4_told cX4_told 2 (some .int) :: ([.fieldLink RX4 54 "CookieListenerModel" "thrown" "I", .fieldLink RX4 120 "CookieListenerModel" "halves" "I", .fieldLink RX4 123 "CookieListenerModel" "open" "I", .fieldLink RX4 130 "CookieListenerModel" "time" "I", .fieldLink RX4 51 "CookieListenerModel" "counts" "[I", .methodLink RX4 126 yX4_waiting, .instanceMethod yX4_waiting, .selects RX4 yX4_waiting yX4_waiting, .initialized RX4, .code yX4_waiting cX4_waiting 3 (some .int), .fieldLink RX4 47 "CookieListenerModel" "taken" "[Z"] ++ wsX40)
def wsL_rooms : List Cond := .codeWith yL_rooms cL_rooms 4 (some .int) [(0, 6, 9, 13)] :: ([.classLink RL 13 "java/lang/IllegalArgumentException", .methodLink RL 7 yX3_rooms, .instanceMethod yX3_rooms, .selects RX3 yX3_rooms yX3_rooms, .initialized RX3, .code yX3_rooms cX3_rooms 3 none, .fieldLink RX3 30 "CookieListener" "sizeOfHalves" "I", .fieldLink RX3 34 "CookieListener" "roomOfQueue" "I", .methodLink RX3 55 yX3_requireWithin, .static yX3_requireWithin, .code yX3_requireWithin cX3_requireWithin 3 none, .classLink RX3 144 "java/lang/IllegalArgumentException", .initialized "java/lang/IllegalArgumentException"] ++ wsX30 ++ (vx_atS RX3 148 "java/lang/IllegalArgumentException" ["java/lang/RuntimeException", "java/lang/Exception"]).filter goodWord)
def wsL_pass_r1 : List Cond := [Cond.classLink RL 13 "java/lang/IllegalArgumentException", Cond.methodLink RL 15 yX3_pass, Cond.instanceMethod yX3_pass, Cond.selects RX3 yX3_pass yX3_pass, Cond.initialized RX3, Cond.code yX3_pass cX3_pass 2 (some .int), Cond.fieldLink RX3 37 "CookieListener" "time" "I", Cond.fieldLink RX3 19 "CookieListener" "halves" "LCookieListener$Halves;", Cond.methodLink RX3 55 yX3_requireWithin, Cond.static yX3_requireWithin, Cond.code yX3_requireWithin cX3_requireWithin 3 none, Cond.classLink RX3 144 "java/lang/IllegalArgumentException", Cond.initialized "java/lang/IllegalArgumentException", Cond.methodLink RX3 63 yX1_dropOld, Cond.instanceMethod yX1_dropOld, Cond.selects RX1 yX1_dropOld yX1_dropOld, Cond.initialized RX1, Cond.code yX1_dropOld cX1_dropOld 3 none, Cond.fieldLink RX1 28 "CookieListener$Halves" "count" "I", Cond.fieldLink RX1 25 "CookieListener$Halves" "asked" "[I", Cond.methodLink RX1 32 yX1_drop, Cond.instanceMethod yX1_drop, Cond.selects RX1 yX1_drop yX1_drop, Cond.code yX1_drop cX1_drop 2 none]
def wsL_pass_r2 : List Cond := [Cond.fieldLink RX1 9 "CookieListener$Halves" "callers" "[J", Cond.fieldLink RX1 15 "CookieListener$Halves" "numbers" "[I", Cond.fieldLink RX1 19 "CookieListener$Halves" "answers" "[I", Cond.fieldLink RX1 22 "CookieListener$Halves" "kinds" "[I"]
def wsL_pass : List Cond := .codeWith yL_pass cL_pass 4 (some .int) [(0, 9, 12, 13)] :: ((wsL_pass_r1 ++ wsL_pass_r2) ++ wsX30 ++ wsX10 ++ (vx_atS RX3 148 "java/lang/IllegalArgumentException" ["java/lang/RuntimeException", "java/lang/Exception"]).filter goodWord)
def wsL_syn_r1 : List Cond := [Cond.classLink RL 13 "java/lang/IllegalArgumentException", Cond.methodLink RL 19 yX3_syn, Cond.instanceMethod yX3_syn, Cond.selects RX3 yX3_syn yX3_syn, Cond.initialized RX3, Cond.code yX3_syn cX3_syn 8 (some .long), Cond.constant RX3 67 (65535), Cond.fieldLink RX3 26 "CookieListener" "connections" "LCookieListener$Connections;", Cond.constantLong RX3 76 (-1), Cond.fieldLink RX3 19 "CookieListener" "halves" "LCookieListener$Halves;", Cond.methodLink RX3 55 yX3_requireWithin, Cond.static yX3_requireWithin, Cond.code yX3_requireWithin cX3_requireWithin 3 none, Cond.classLink RX3 144 "java/lang/IllegalArgumentException", Cond.initialized "java/lang/IllegalArgumentException", Cond.methodLink RX3 68 yX3_callerOf, Cond.static yX3_callerOf, Cond.code yX3_callerOf cX3_callerOf 2 (some .long), Cond.methodLink RX3 72 yX0_find, Cond.instanceMethod yX0_find, Cond.selects RX0 yX0_find yX0_find, Cond.initialized RX0, Cond.code yX0_find cX0_find 4 (some .int), Cond.fieldLink RX0 19 "CookieListener$Connections" "count" "I"]
def wsL_syn_r2 : List Cond := [Cond.fieldLink RX0 9 "CookieListener$Connections" "callers" "[J", Cond.methodLink RX3 78 yX1_find, Cond.instanceMethod yX1_find, Cond.selects RX1 yX1_find yX1_find, Cond.initialized RX1, Cond.code yX1_find cX1_find 4 (some .int), Cond.fieldLink RX1 28 "CookieListener$Halves" "count" "I", Cond.fieldLink RX1 9 "CookieListener$Halves" "callers" "[J", Cond.methodLink RX3 86 yX3_withoutSign, Cond.static yX3_withoutSign, Cond.code yX3_withoutSign cX3_withoutSign 1 (some .long), Cond.constantLong RX3 153 (4294967295), Cond.methodLink RX3 90 yX1_drop, Cond.instanceMethod yX1_drop, Cond.selects RX1 yX1_drop yX1_drop, Cond.code yX1_drop cX1_drop 2 none, Cond.fieldLink RX1 15 "CookieListener$Halves" "numbers" "[I", Cond.fieldLink RX1 19 "CookieListener$Halves" "answers" "[I", Cond.fieldLink RX1 22 "CookieListener$Halves" "kinds" "[I", Cond.fieldLink RX1 25 "CookieListener$Halves" "asked" "[I", Cond.methodLink RX3 93 yX3_kindOf, Cond.static yX3_kindOf, Cond.code yX3_kindOf cX3_kindOf 3 (some .int), Cond.fieldLink RX3 155 "CookieListener" "GREATEST_SIZES" "[I"]
def wsL_syn_r3 : List Cond := [Cond.methodLink RX3 97 yX3_answerNewSyn, Cond.instanceMethod yX3_answerNewSyn, Cond.selects RX3 yX3_answerNewSyn yX3_answerNewSyn, Cond.code yX3_answerNewSyn cX3_answerNewSyn 7 (some .int), Cond.fieldLink RX3 30 "CookieListener" "sizeOfHalves" "I", Cond.fieldLink RX3 43 "CookieListener" "cookiesGiven" "I", Cond.fieldLink RX3 37 "CookieListener" "time" "I", Cond.fieldLink RX3 40 "CookieListener" "cookiesTime" "I", Cond.constant RX3 164 (-16777216), Cond.methodLink RX3 161 yX3_slotNow, Cond.instanceMethod yX3_slotNow, Cond.selects RX3 yX3_slotNow yX3_slotNow, Cond.code yX3_slotNow cX3_slotNow 1 (some .int), Cond.methodLink RX3 129 yX3_cookieOf, Cond.instanceMethod yX3_cookieOf, Cond.selects RX3 yX3_cookieOf yX3_cookieOf, Cond.code yX3_cookieOf cX3_cookieOf 11 (some .int), Cond.constantLong RX3 158 (-4294967296), Cond.fieldLink RX3 10 "CookieListener" "sip" "LCookieListener$SipHash;", Cond.constant RX3 160 (16777215), Cond.methodLink RX3 116 yX3_portOf, Cond.static yX3_portOf, Cond.code yX3_portOf cX3_portOf 2 (some .int), Cond.methodLink RX3 133 yX2_digest]
def wsL_syn_r4 : List Cond := [Cond.instanceMethod yX2_digest, Cond.selects RX2 yX2_digest yX2_digest, Cond.initialized RX2, Cond.code yX2_digest cX2_digest 5 (some .long), Cond.fieldLink RX2 7 "CookieListener$SipHash" "k" "J", Cond.constantLong RX2 28 (8317987319222330741), Cond.fieldLink RX2 16 "CookieListener$SipHash" "v0" "J", Cond.fieldLink RX2 13 "CookieListener$SipHash" "l" "J", Cond.constantLong RX2 30 (7237128888997146477), Cond.fieldLink RX2 19 "CookieListener$SipHash" "v1" "J", Cond.constantLong RX2 32 (7816392313619706465), Cond.fieldLink RX2 22 "CookieListener$SipHash" "v2" "J", Cond.constantLong RX2 34 (8387220255154660723), Cond.fieldLink RX2 25 "CookieListener$SipHash" "v3" "J", Cond.constantLong RX2 40 (1152921504606846976), Cond.constantLong RX2 42 (255), Cond.methodLink RX2 36 yX2_absorb, Cond.instanceMethod yX2_absorb, Cond.selects RX2 yX2_absorb yX2_absorb, Cond.code yX2_absorb cX2_absorb 3 none, Cond.methodLink RX2 44 yX2_mix, Cond.instanceMethod yX2_mix, Cond.selects RX2 yX2_mix yX2_mix, Cond.code yX2_mix cX2_mix 3 none]
def wsL_syn_r5 : List Cond := [Cond.methodLink RX2 48 yX2_turnLeft, Cond.static yX2_turnLeft, Cond.code yX2_turnLeft cX2_turnLeft 3 (some .long), Cond.methodLink RX3 165 yX1_add, Cond.instanceMethod yX1_add, Cond.selects RX1 yX1_add yX1_add, Cond.code yX1_add cX1_add 7 none]
def wsL_syn : List Cond := .codeWith yL_syn cL_syn 7 (some .int) [(0, 13, 16, 13)] :: ((wsL_syn_r1 ++ (wsL_syn_r2 ++ (wsL_syn_r3 ++ (wsL_syn_r4 ++ wsL_syn_r5)))) ++ wsX30 ++ wsX10 ++ wsX00 ++ wsX20 ++ (vx_atS RX3 148 "java/lang/IllegalArgumentException" ["java/lang/RuntimeException", "java/lang/Exception"]).filter goodWord)
def wsL_ack_r1 : List Cond := [Cond.classLink RL 13 "java/lang/IllegalArgumentException", Cond.methodLink RL 23 yX3_ack, Cond.instanceMethod yX3_ack, Cond.selects RX3 yX3_ack yX3_ack, Cond.initialized RX3, Cond.code yX3_ack cX3_ack 9 (some .int), Cond.constant RX3 67 (65535), Cond.fieldLink RX3 26 "CookieListener" "connections" "LCookieListener$Connections;", Cond.fieldLink RX3 19 "CookieListener" "halves" "LCookieListener$Halves;", Cond.fieldLink RX3 52 "CookieListener" "unproven" "I", Cond.methodLink RX3 55 yX3_requireWithin, Cond.static yX3_requireWithin, Cond.code yX3_requireWithin cX3_requireWithin 3 none, Cond.classLink RX3 144 "java/lang/IllegalArgumentException", Cond.initialized "java/lang/IllegalArgumentException", Cond.methodLink RX3 68 yX3_callerOf, Cond.static yX3_callerOf, Cond.code yX3_callerOf cX3_callerOf 2 (some .long), Cond.methodLink RX3 72 yX0_find, Cond.instanceMethod yX0_find, Cond.selects RX0 yX0_find yX0_find, Cond.initialized RX0, Cond.code yX0_find cX0_find 4 (some .int), Cond.fieldLink RX0 19 "CookieListener$Connections" "count" "I"]
def wsL_ack_r2 : List Cond := [Cond.fieldLink RX0 9 "CookieListener$Connections" "callers" "[J", Cond.methodLink RX3 78 yX1_find, Cond.instanceMethod yX1_find, Cond.selects RX1 yX1_find yX1_find, Cond.initialized RX1, Cond.code yX1_find cX1_find 4 (some .int), Cond.fieldLink RX1 28 "CookieListener$Halves" "count" "I", Cond.fieldLink RX1 9 "CookieListener$Halves" "callers" "[J", Cond.methodLink RX3 101 yX3_ackOfHalf, Cond.instanceMethod yX3_ackOfHalf, Cond.selects RX3 yX3_ackOfHalf yX3_ackOfHalf, Cond.code yX3_ackOfHalf cX3_ackOfHalf 4 (some .int), Cond.fieldLink RX3 34 "CookieListener" "roomOfQueue" "I", Cond.fieldLink RX3 46 "CookieListener" "openedByHalves" "I", Cond.methodLink RX3 169 yX0_hasRoom, Cond.instanceMethod yX0_hasRoom, Cond.selects RX0 yX0_hasRoom yX0_hasRoom, Cond.code yX0_hasRoom cX0_hasRoom 2 (some .boolean), Cond.methodLink RX0 26 yX0_waiting, Cond.instanceMethod yX0_waiting, Cond.selects RX0 yX0_waiting yX0_waiting, Cond.code yX0_waiting cX0_waiting 1 (some .int), Cond.fieldLink RX0 23 "CookieListener$Connections" "taken" "I", Cond.methodLink RX3 175 yX0_add]
def wsL_ack_r3 : List Cond := [Cond.instanceMethod yX0_add, Cond.selects RX0 yX0_add yX0_add, Cond.code yX0_add cX0_add 4 none, Cond.fieldLink RX0 15 "CookieListener$Connections" "kinds" "[I", Cond.methodLink RX3 90 yX1_drop, Cond.instanceMethod yX1_drop, Cond.selects RX1 yX1_drop yX1_drop, Cond.code yX1_drop cX1_drop 2 none, Cond.fieldLink RX1 15 "CookieListener$Halves" "numbers" "[I", Cond.fieldLink RX1 19 "CookieListener$Halves" "answers" "[I", Cond.fieldLink RX1 22 "CookieListener$Halves" "kinds" "[I", Cond.fieldLink RX1 25 "CookieListener$Halves" "asked" "[I", Cond.methodLink RX3 105 yX3_ackWithoutHalf, Cond.instanceMethod yX3_ackWithoutHalf, Cond.selects RX3 yX3_ackWithoutHalf yX3_ackWithoutHalf, Cond.code yX3_ackWithoutHalf cX3_ackWithoutHalf 6 (some .int), Cond.fieldLink RX3 49 "CookieListener" "openedByCookies" "I", Cond.methodLink RX3 178 yX3_cookiesGivenLately, Cond.instanceMethod yX3_cookiesGivenLately, Cond.selects RX3 yX3_cookiesGivenLately yX3_cookiesGivenLately, Cond.code yX3_cookiesGivenLately cX3_cookiesGivenLately 1 (some .boolean), Cond.fieldLink RX3 43 "CookieListener" "cookiesGiven" "I", Cond.fieldLink RX3 37 "CookieListener" "time" "I", Cond.fieldLink RX3 40 "CookieListener" "cookiesTime" "I"]
def wsL_ack_r4 : List Cond := [Cond.methodLink RX3 182 yX3_isCookieOfLateSlot, Cond.instanceMethod yX3_isCookieOfLateSlot, Cond.selects RX3 yX3_isCookieOfLateSlot yX3_isCookieOfLateSlot, Cond.code yX3_isCookieOfLateSlot cX3_isCookieOfLateSlot 7 (some .boolean), Cond.methodLink RX3 161 yX3_slotNow, Cond.instanceMethod yX3_slotNow, Cond.selects RX3 yX3_slotNow yX3_slotNow, Cond.code yX3_slotNow cX3_slotNow 1 (some .int), Cond.methodLink RX3 129 yX3_cookieOf, Cond.instanceMethod yX3_cookieOf, Cond.selects RX3 yX3_cookieOf yX3_cookieOf, Cond.code yX3_cookieOf cX3_cookieOf 11 (some .int), Cond.constantLong RX3 158 (-4294967296), Cond.fieldLink RX3 10 "CookieListener" "sip" "LCookieListener$SipHash;", Cond.constant RX3 160 (16777215), Cond.methodLink RX3 86 yX3_withoutSign, Cond.static yX3_withoutSign, Cond.code yX3_withoutSign cX3_withoutSign 1 (some .long), Cond.constantLong RX3 153 (4294967295), Cond.methodLink RX3 116 yX3_portOf, Cond.static yX3_portOf, Cond.code yX3_portOf cX3_portOf 2 (some .int), Cond.methodLink RX3 133 yX2_digest, Cond.instanceMethod yX2_digest]
def wsL_ack_r5 : List Cond := [Cond.selects RX2 yX2_digest yX2_digest, Cond.initialized RX2, Cond.code yX2_digest cX2_digest 5 (some .long), Cond.fieldLink RX2 7 "CookieListener$SipHash" "k" "J", Cond.constantLong RX2 28 (8317987319222330741), Cond.fieldLink RX2 16 "CookieListener$SipHash" "v0" "J", Cond.fieldLink RX2 13 "CookieListener$SipHash" "l" "J", Cond.constantLong RX2 30 (7237128888997146477), Cond.fieldLink RX2 19 "CookieListener$SipHash" "v1" "J", Cond.constantLong RX2 32 (7816392313619706465), Cond.fieldLink RX2 22 "CookieListener$SipHash" "v2" "J", Cond.constantLong RX2 34 (8387220255154660723), Cond.fieldLink RX2 25 "CookieListener$SipHash" "v3" "J", Cond.constantLong RX2 40 (1152921504606846976), Cond.constantLong RX2 42 (255), Cond.methodLink RX2 36 yX2_absorb, Cond.instanceMethod yX2_absorb, Cond.selects RX2 yX2_absorb yX2_absorb, Cond.code yX2_absorb cX2_absorb 3 none, Cond.methodLink RX2 44 yX2_mix, Cond.instanceMethod yX2_mix, Cond.selects RX2 yX2_mix yX2_mix, Cond.code yX2_mix cX2_mix 3 none, Cond.methodLink RX2 48 yX2_turnLeft]
def wsL_ack_r6 : List Cond := [Cond.static yX2_turnLeft, Cond.code yX2_turnLeft cX2_turnLeft 3 (some .long)]
def wsL_ack : List Cond := .codeWith yL_ack cL_ack 7 (some .int) [(0, 14, 17, 13)] :: ((wsL_ack_r1 ++ (wsL_ack_r2 ++ (wsL_ack_r3 ++ (wsL_ack_r4 ++ (wsL_ack_r5 ++ wsL_ack_r6))))) ++ wsX30 ++ wsX00 ++ wsX10 ++ wsX20 ++ (vx_atS RX3 148 "java/lang/IllegalArgumentException" ["java/lang/RuntimeException", "java/lang/Exception"]).filter goodWord)
def wsL_close_r1 : List Cond := [Cond.classLink RL 13 "java/lang/IllegalArgumentException", Cond.methodLink RL 27 yX3_close, Cond.instanceMethod yX3_close, Cond.selects RX3 yX3_close yX3_close, Cond.initialized RX3, Cond.code yX3_close cX3_close 6 (some .int), Cond.constant RX3 67 (65535), Cond.fieldLink RX3 19 "CookieListener" "halves" "LCookieListener$Halves;", Cond.fieldLink RX3 26 "CookieListener" "connections" "LCookieListener$Connections;", Cond.methodLink RX3 55 yX3_requireWithin, Cond.static yX3_requireWithin, Cond.code yX3_requireWithin cX3_requireWithin 3 none, Cond.classLink RX3 144 "java/lang/IllegalArgumentException", Cond.initialized "java/lang/IllegalArgumentException", Cond.methodLink RX3 68 yX3_callerOf, Cond.static yX3_callerOf, Cond.code yX3_callerOf cX3_callerOf 2 (some .long), Cond.methodLink RX3 122 yX3_stateOf, Cond.instanceMethod yX3_stateOf, Cond.selects RX3 yX3_stateOf yX3_stateOf, Cond.code yX3_stateOf cX3_stateOf 4 (some .int), Cond.methodLink RX3 72 yX0_find, Cond.instanceMethod yX0_find, Cond.selects RX0 yX0_find yX0_find]
def wsL_close_r2 : List Cond := [Cond.initialized RX0, Cond.code yX0_find cX0_find 4 (some .int), Cond.fieldLink RX0 19 "CookieListener$Connections" "count" "I", Cond.fieldLink RX0 9 "CookieListener$Connections" "callers" "[J", Cond.methodLink RX3 186 yX0_isTaken, Cond.instanceMethod yX0_isTaken, Cond.selects RX0 yX0_isTaken yX0_isTaken, Cond.code yX0_isTaken cX0_isTaken 2 (some .boolean), Cond.fieldLink RX0 23 "CookieListener$Connections" "taken" "I", Cond.methodLink RX3 78 yX1_find, Cond.instanceMethod yX1_find, Cond.selects RX1 yX1_find yX1_find, Cond.initialized RX1, Cond.code yX1_find cX1_find 4 (some .int), Cond.fieldLink RX1 28 "CookieListener$Halves" "count" "I", Cond.fieldLink RX1 9 "CookieListener$Halves" "callers" "[J", Cond.methodLink RX3 90 yX1_drop, Cond.instanceMethod yX1_drop, Cond.selects RX1 yX1_drop yX1_drop, Cond.code yX1_drop cX1_drop 2 none, Cond.fieldLink RX1 15 "CookieListener$Halves" "numbers" "[I", Cond.fieldLink RX1 19 "CookieListener$Halves" "answers" "[I", Cond.fieldLink RX1 22 "CookieListener$Halves" "kinds" "[I", Cond.fieldLink RX1 25 "CookieListener$Halves" "asked" "[I"]
def wsL_close_r3 : List Cond := [Cond.methodLink RX3 125 yX0_drop, Cond.instanceMethod yX0_drop, Cond.selects RX0 yX0_drop yX0_drop, Cond.code yX0_drop cX0_drop 3 none, Cond.fieldLink RX0 15 "CookieListener$Connections" "kinds" "[I", Cond.methodLink RX0 30 yX0_isTaken]
def wsL_close : List Cond := .codeWith yL_close cL_close 5 (some .int) [(0, 10, 13, 13)] :: ((wsL_close_r1 ++ (wsL_close_r2 ++ wsL_close_r3)) ++ wsX30 ++ wsX00 ++ wsX10 ++ (vx_atS RX3 148 "java/lang/IllegalArgumentException" ["java/lang/RuntimeException", "java/lang/Exception"]).filter goodWord)
def wsL_state_r1 : List Cond := [Cond.classLink RL 13 "java/lang/IllegalArgumentException", Cond.methodLink RL 31 yX3_state, Cond.instanceMethod yX3_state, Cond.selects RX3 yX3_state yX3_state, Cond.initialized RX3, Cond.code yX3_state cX3_state 3 (some .int), Cond.constant RX3 67 (65535), Cond.methodLink RX3 55 yX3_requireWithin, Cond.static yX3_requireWithin, Cond.code yX3_requireWithin cX3_requireWithin 3 none, Cond.classLink RX3 144 "java/lang/IllegalArgumentException", Cond.initialized "java/lang/IllegalArgumentException", Cond.methodLink RX3 68 yX3_callerOf, Cond.static yX3_callerOf, Cond.code yX3_callerOf cX3_callerOf 2 (some .long), Cond.methodLink RX3 122 yX3_stateOf, Cond.instanceMethod yX3_stateOf, Cond.selects RX3 yX3_stateOf yX3_stateOf, Cond.code yX3_stateOf cX3_stateOf 4 (some .int), Cond.fieldLink RX3 26 "CookieListener" "connections" "LCookieListener$Connections;", Cond.fieldLink RX3 19 "CookieListener" "halves" "LCookieListener$Halves;", Cond.methodLink RX3 72 yX0_find, Cond.instanceMethod yX0_find, Cond.selects RX0 yX0_find yX0_find]
def wsL_state_r2 : List Cond := [Cond.initialized RX0, Cond.code yX0_find cX0_find 4 (some .int), Cond.fieldLink RX0 19 "CookieListener$Connections" "count" "I", Cond.fieldLink RX0 9 "CookieListener$Connections" "callers" "[J", Cond.methodLink RX3 186 yX0_isTaken, Cond.instanceMethod yX0_isTaken, Cond.selects RX0 yX0_isTaken yX0_isTaken, Cond.code yX0_isTaken cX0_isTaken 2 (some .boolean), Cond.fieldLink RX0 23 "CookieListener$Connections" "taken" "I", Cond.methodLink RX3 78 yX1_find, Cond.instanceMethod yX1_find, Cond.selects RX1 yX1_find yX1_find, Cond.initialized RX1, Cond.code yX1_find cX1_find 4 (some .int), Cond.fieldLink RX1 28 "CookieListener$Halves" "count" "I", Cond.fieldLink RX1 9 "CookieListener$Halves" "callers" "[J"]
def wsL_state : List Cond := .codeWith yL_state cL_state 5 (some .int) [(0, 10, 13, 13)] :: ((wsL_state_r1 ++ wsL_state_r2) ++ wsX30 ++ wsX00 ++ wsX10 ++ (vx_atS RX3 148 "java/lang/IllegalArgumentException" ["java/lang/RuntimeException", "java/lang/Exception"]).filter goodWord)
def wsL_cookie_r1 : List Cond := [Cond.classLink RL 13 "java/lang/IllegalArgumentException", Cond.methodLink RL 34 yX3_cookie, Cond.instanceMethod yX3_cookie, Cond.selects RX3 yX3_cookie yX3_cookie, Cond.initialized RX3, Cond.code yX3_cookie cX3_cookie 6 (some .long), Cond.constant RX3 67 (65535), Cond.constant RX3 128 (2147483647), Cond.methodLink RX3 55 yX3_requireWithin, Cond.static yX3_requireWithin, Cond.code yX3_requireWithin cX3_requireWithin 3 none, Cond.classLink RX3 144 "java/lang/IllegalArgumentException", Cond.initialized "java/lang/IllegalArgumentException", Cond.methodLink RX3 68 yX3_callerOf, Cond.static yX3_callerOf, Cond.code yX3_callerOf cX3_callerOf 2 (some .long), Cond.methodLink RX3 129 yX3_cookieOf, Cond.instanceMethod yX3_cookieOf, Cond.selects RX3 yX3_cookieOf yX3_cookieOf, Cond.code yX3_cookieOf cX3_cookieOf 11 (some .int), Cond.constantLong RX3 158 (-4294967296), Cond.fieldLink RX3 10 "CookieListener" "sip" "LCookieListener$SipHash;", Cond.constant RX3 160 (16777215), Cond.methodLink RX3 86 yX3_withoutSign]
def wsL_cookie_r2 : List Cond := [Cond.static yX3_withoutSign, Cond.code yX3_withoutSign cX3_withoutSign 1 (some .long), Cond.constantLong RX3 153 (4294967295), Cond.methodLink RX3 116 yX3_portOf, Cond.static yX3_portOf, Cond.code yX3_portOf cX3_portOf 2 (some .int), Cond.methodLink RX3 133 yX2_digest, Cond.instanceMethod yX2_digest, Cond.selects RX2 yX2_digest yX2_digest, Cond.initialized RX2, Cond.code yX2_digest cX2_digest 5 (some .long), Cond.fieldLink RX2 7 "CookieListener$SipHash" "k" "J", Cond.constantLong RX2 28 (8317987319222330741), Cond.fieldLink RX2 16 "CookieListener$SipHash" "v0" "J", Cond.fieldLink RX2 13 "CookieListener$SipHash" "l" "J", Cond.constantLong RX2 30 (7237128888997146477), Cond.fieldLink RX2 19 "CookieListener$SipHash" "v1" "J", Cond.constantLong RX2 32 (7816392313619706465), Cond.fieldLink RX2 22 "CookieListener$SipHash" "v2" "J", Cond.constantLong RX2 34 (8387220255154660723), Cond.fieldLink RX2 25 "CookieListener$SipHash" "v3" "J", Cond.constantLong RX2 40 (1152921504606846976), Cond.constantLong RX2 42 (255), Cond.methodLink RX2 36 yX2_absorb]
def wsL_cookie_r3 : List Cond := [Cond.instanceMethod yX2_absorb, Cond.selects RX2 yX2_absorb yX2_absorb, Cond.code yX2_absorb cX2_absorb 3 none, Cond.methodLink RX2 44 yX2_mix, Cond.instanceMethod yX2_mix, Cond.selects RX2 yX2_mix yX2_mix, Cond.code yX2_mix cX2_mix 3 none, Cond.methodLink RX2 48 yX2_turnLeft, Cond.static yX2_turnLeft, Cond.code yX2_turnLeft cX2_turnLeft 3 (some .long)]
def wsL_cookie : List Cond := .codeWith yL_cookie cL_cookie 8 (some .int) [(0, 15, 18, 13)] :: ((wsL_cookie_r1 ++ (wsL_cookie_r2 ++ wsL_cookie_r3)) ++ wsX30 ++ wsX20 ++ (vx_atS RX3 148 "java/lang/IllegalArgumentException" ["java/lang/RuntimeException", "java/lang/Exception"]).filter goodWord)
def wsL_told : List Cond := .codeWith yL_told cL_told 4 (some .int) [(0, 9, 12, 13)] :: ([.classLink RL 13 "java/lang/IllegalArgumentException", .methodLink RL 38 yX3_told, .instanceMethod yX3_told, .selects RX3 yX3_told yX3_told, .initialized RX3, .code yX3_told cX3_told 2 (some .int), .classLink RX3 144 "java/lang/IllegalArgumentException", .initialized "java/lang/IllegalArgumentException", .fieldLink RX3 19 "CookieListener" "halves" "LCookieListener$Halves;", .fieldLink RX3 26 "CookieListener" "connections" "LCookieListener$Connections;", .fieldLink RX3 43 "CookieListener" "cookiesGiven" "I", .fieldLink RX3 46 "CookieListener" "openedByHalves" "I", .fieldLink RX3 49 "CookieListener" "openedByCookies" "I", .fieldLink RX3 52 "CookieListener" "unproven" "I", .fieldLink RX3 37 "CookieListener" "time" "I", .methodLink RX3 140 yX0_waiting, .instanceMethod yX0_waiting, .selects RX0 yX0_waiting yX0_waiting, .initialized RX0, .code yX0_waiting cX0_waiting 1 (some .int), .fieldLink RX0 19 "CookieListener$Connections" "count" "I", .fieldLink RX0 23 "CookieListener$Connections" "taken" "I"] ++ wsX30 ++ wsX10 ++ wsX00 ++ (vx_atS RX3 148 "java/lang/IllegalArgumentException" ["java/lang/RuntimeException", "java/lang/Exception"]).filter goodWord)
def wsL_law0_r1 : List Cond := [Cond.classLink RL 8 RX3, Cond.instantiable RX3 11, Cond.initialized RX3, Cond.classLink RL 42 RX4, Cond.instantiable RX4 24, Cond.initialized RX4, Cond.arrayClass .long, Cond.constantLong RL 55 (4294967295), Cond.methodLink RL 41 yX3_init, Cond.instanceMethod yX3_init, Cond.code yX3_init cX3_init 1 none, Cond.methodLink RX3 1 objectInit, Cond.instanceMethod objectInit, Cond.code objectInit ⟨#[0xb1]⟩ 1 none, Cond.classLink RX3 7 RX2, Cond.instantiable RX2 6, Cond.initialized RX2, Cond.fieldLink RX3 10 "CookieListener" "sip" "LCookieListener$SipHash;", Cond.classLink RX3 16 RX1, Cond.instantiable RX1 6, Cond.initialized RX1, Cond.fieldLink RX3 19 "CookieListener" "halves" "LCookieListener$Halves;", Cond.classLink RX3 23 RX0, Cond.instantiable RX0 4]
def wsL_law0_r2 : List Cond := [Cond.initialized RX0, Cond.fieldLink RX3 26 "CookieListener" "connections" "LCookieListener$Connections;", Cond.fieldLink RX3 30 "CookieListener" "sizeOfHalves" "I", Cond.fieldLink RX3 34 "CookieListener" "roomOfQueue" "I", Cond.fieldLink RX3 37 "CookieListener" "time" "I", Cond.fieldLink RX3 40 "CookieListener" "cookiesTime" "I", Cond.fieldLink RX3 43 "CookieListener" "cookiesGiven" "I", Cond.fieldLink RX3 46 "CookieListener" "openedByHalves" "I", Cond.fieldLink RX3 49 "CookieListener" "openedByCookies" "I", Cond.fieldLink RX3 52 "CookieListener" "unproven" "I", Cond.instanceMethod yX2_init, Cond.code yX2_init cX2_init 1 none, Cond.methodLink RX2 1 objectInit, Cond.fieldLink RX2 7 "CookieListener$SipHash" "k" "J", Cond.fieldLink RX2 13 "CookieListener$SipHash" "l" "J", Cond.fieldLink RX2 16 "CookieListener$SipHash" "v0" "J", Cond.fieldLink RX2 19 "CookieListener$SipHash" "v1" "J", Cond.fieldLink RX2 22 "CookieListener$SipHash" "v2" "J", Cond.fieldLink RX2 25 "CookieListener$SipHash" "v3" "J", Cond.instanceMethod yX1_init, Cond.code yX1_init cX1_init 1 none, Cond.methodLink RX1 3 objectInit, Cond.fieldLink RX1 9 "CookieListener$Halves" "callers" "[J", Cond.arrayClass .int]
def wsL_law0_r3 : List Cond := [Cond.fieldLink RX1 15 "CookieListener$Halves" "numbers" "[I", Cond.fieldLink RX1 19 "CookieListener$Halves" "answers" "[I", Cond.fieldLink RX1 22 "CookieListener$Halves" "kinds" "[I", Cond.fieldLink RX1 25 "CookieListener$Halves" "asked" "[I", Cond.fieldLink RX1 28 "CookieListener$Halves" "count" "I", Cond.instanceMethod yX0_init, Cond.code yX0_init cX0_init 1 none, Cond.methodLink RX0 3 objectInit, Cond.fieldLink RX0 9 "CookieListener$Connections" "callers" "[J", Cond.fieldLink RX0 15 "CookieListener$Connections" "kinds" "[I", Cond.fieldLink RX0 19 "CookieListener$Connections" "count" "I", Cond.fieldLink RX0 23 "CookieListener$Connections" "taken" "I", Cond.methodLink RL 44 yX4_init, Cond.instanceMethod yX4_init, Cond.code yX4_init cX4_init 1 none, Cond.methodLink RX4 1 objectInit, Cond.fieldLink RX4 7 "CookieListenerModel" "size" "I", Cond.fieldLink RX4 13 "CookieListenerModel" "room" "I", Cond.fieldLink RX4 16 "CookieListenerModel" "cookiesTime" "I", Cond.fieldLink RX4 19 "CookieListenerModel" "halfAddress" "[I", Cond.fieldLink RX4 23 "CookieListenerModel" "halfPort" "[I", Cond.fieldLink RX4 26 "CookieListenerModel" "halfNumber" "[I", Cond.fieldLink RX4 29 "CookieListenerModel" "halfOwn" "[I", Cond.fieldLink RX4 32 "CookieListenerModel" "halfKind" "[I"]
def wsL_law0_r4 : List Cond := [Cond.fieldLink RX4 35 "CookieListenerModel" "halfTime" "[I", Cond.fieldLink RX4 38 "CookieListenerModel" "openAddress" "[I", Cond.fieldLink RX4 41 "CookieListenerModel" "openPort" "[I", Cond.fieldLink RX4 44 "CookieListenerModel" "openKind" "[I", Cond.arrayClass .boolean, Cond.fieldLink RX4 47 "CookieListenerModel" "taken" "[Z", Cond.fieldLink RX4 51 "CookieListenerModel" "counts" "[I", Cond.methodLink RL 45 yL_rooms, Cond.static yL_rooms, Cond.initialized RL, Cond.codeWith yL_rooms cL_rooms 4 (some .int) [(0, 6, 9, 13)], Cond.classLink RL 13 "java/lang/IllegalArgumentException", Cond.methodLink RL 7 yX3_rooms, Cond.instanceMethod yX3_rooms, Cond.selects RX3 yX3_rooms yX3_rooms, Cond.code yX3_rooms cX3_rooms 3 none, Cond.methodLink RX3 55 yX3_requireWithin, Cond.static yX3_requireWithin, Cond.code yX3_requireWithin cX3_requireWithin 3 none, Cond.classLink RX3 144 "java/lang/IllegalArgumentException", Cond.initialized "java/lang/IllegalArgumentException", Cond.methodLink RL 50 yX4_rooms, Cond.instanceMethod yX4_rooms, Cond.selects RX4 yX4_rooms yX4_rooms]
def wsL_law0_r5 : List Cond := [Cond.code yX4_rooms cX4_rooms 3 none, Cond.fieldLink RX4 54 "CookieListenerModel" "thrown" "I", Cond.methodLink RL 51 yX4_thrown, Cond.instanceMethod yX4_thrown, Cond.selects RX4 yX4_thrown yX4_thrown, Cond.code yX4_thrown cX4_thrown 1 (some .int), Cond.methodLink RL 57 yX3_key, Cond.instanceMethod yX3_key, Cond.selects RX3 yX3_key yX3_key, Cond.code yX3_key cX3_key 5 none, Cond.methodLink RX3 59 yX2_useKey, Cond.instanceMethod yX2_useKey, Cond.selects RX2 yX2_useKey yX2_useKey, Cond.code yX2_useKey cX2_useKey 5 none, Cond.methodLink RL 61 yX4_key, Cond.instanceMethod yX4_key, Cond.selects RX4 yX4_key yX4_key, Cond.code yX4_key cX4_key 5 none, Cond.fieldLink RX4 57 "CookieListenerModel" "k" "J", Cond.fieldLink RX4 61 "CookieListenerModel" "l" "J", Cond.methodLink RL 62 yL_pass, Cond.static yL_pass, Cond.codeWith yL_pass cL_pass 4 (some .int) [(0, 9, 12, 13)], Cond.methodLink RL 15 yX3_pass]
def wsL_law0_r6 : List Cond := [Cond.instanceMethod yX3_pass, Cond.selects RX3 yX3_pass yX3_pass, Cond.code yX3_pass cX3_pass 2 (some .int), Cond.methodLink RX3 63 yX1_dropOld, Cond.instanceMethod yX1_dropOld, Cond.selects RX1 yX1_dropOld yX1_dropOld, Cond.code yX1_dropOld cX1_dropOld 3 none, Cond.methodLink RX1 32 yX1_drop, Cond.instanceMethod yX1_drop, Cond.selects RX1 yX1_drop yX1_drop, Cond.code yX1_drop cX1_drop 2 none, Cond.methodLink RL 65 yX4_pass, Cond.instanceMethod yX4_pass, Cond.selects RX4 yX4_pass yX4_pass, Cond.code yX4_pass cX4_pass 3 (some .int), Cond.fieldLink RX4 130 "CookieListenerModel" "time" "I", Cond.fieldLink RX4 120 "CookieListenerModel" "halves" "I", Cond.methodLink RX4 133 yX4_dropHalf, Cond.instanceMethod yX4_dropHalf, Cond.selects RX4 yX4_dropHalf yX4_dropHalf, Cond.code yX4_dropHalf cX4_dropHalf 3 none, Cond.methodLink RL 66 yL_syn, Cond.static yL_syn, Cond.codeWith yL_syn cL_syn 7 (some .int) [(0, 13, 16, 13)]]
def wsL_law0_r7 : List Cond := [Cond.methodLink RL 19 yX3_syn, Cond.instanceMethod yX3_syn, Cond.selects RX3 yX3_syn yX3_syn, Cond.code yX3_syn cX3_syn 8 (some .long), Cond.constant RX3 67 (65535), Cond.constantLong RX3 76 (-1), Cond.methodLink RX3 68 yX3_callerOf, Cond.static yX3_callerOf, Cond.code yX3_callerOf cX3_callerOf 2 (some .long), Cond.methodLink RX3 72 yX0_find, Cond.instanceMethod yX0_find, Cond.selects RX0 yX0_find yX0_find, Cond.code yX0_find cX0_find 4 (some .int), Cond.methodLink RX3 78 yX1_find, Cond.instanceMethod yX1_find, Cond.selects RX1 yX1_find yX1_find, Cond.code yX1_find cX1_find 4 (some .int), Cond.methodLink RX3 86 yX3_withoutSign, Cond.static yX3_withoutSign, Cond.code yX3_withoutSign cX3_withoutSign 1 (some .long), Cond.constantLong RX3 153 (4294967295), Cond.methodLink RX3 90 yX1_drop, Cond.methodLink RX3 93 yX3_kindOf, Cond.static yX3_kindOf]
def wsL_law0_r8 : List Cond := [Cond.code yX3_kindOf cX3_kindOf 3 (some .int), Cond.fieldLink RX3 155 "CookieListener" "GREATEST_SIZES" "[I", Cond.methodLink RX3 97 yX3_answerNewSyn, Cond.instanceMethod yX3_answerNewSyn, Cond.selects RX3 yX3_answerNewSyn yX3_answerNewSyn, Cond.code yX3_answerNewSyn cX3_answerNewSyn 7 (some .int), Cond.constant RX3 164 (-16777216), Cond.methodLink RX3 161 yX3_slotNow, Cond.instanceMethod yX3_slotNow, Cond.selects RX3 yX3_slotNow yX3_slotNow, Cond.code yX3_slotNow cX3_slotNow 1 (some .int), Cond.methodLink RX3 129 yX3_cookieOf, Cond.instanceMethod yX3_cookieOf, Cond.selects RX3 yX3_cookieOf yX3_cookieOf, Cond.code yX3_cookieOf cX3_cookieOf 11 (some .int), Cond.constantLong RX3 158 (-4294967296), Cond.constant RX3 160 (16777215), Cond.methodLink RX3 116 yX3_portOf, Cond.static yX3_portOf, Cond.code yX3_portOf cX3_portOf 2 (some .int), Cond.methodLink RX3 133 yX2_digest, Cond.instanceMethod yX2_digest, Cond.selects RX2 yX2_digest yX2_digest, Cond.code yX2_digest cX2_digest 5 (some .long)]
def wsL_law0_r9 : List Cond := [Cond.constantLong RX2 28 (8317987319222330741), Cond.constantLong RX2 30 (7237128888997146477), Cond.constantLong RX2 32 (7816392313619706465), Cond.constantLong RX2 34 (8387220255154660723), Cond.constantLong RX2 40 (1152921504606846976), Cond.constantLong RX2 42 (255), Cond.methodLink RX2 36 yX2_absorb, Cond.instanceMethod yX2_absorb, Cond.selects RX2 yX2_absorb yX2_absorb, Cond.code yX2_absorb cX2_absorb 3 none, Cond.methodLink RX2 44 yX2_mix, Cond.instanceMethod yX2_mix, Cond.selects RX2 yX2_mix yX2_mix, Cond.code yX2_mix cX2_mix 3 none, Cond.methodLink RX2 48 yX2_turnLeft, Cond.static yX2_turnLeft, Cond.code yX2_turnLeft cX2_turnLeft 3 (some .long), Cond.methodLink RX3 165 yX1_add, Cond.instanceMethod yX1_add, Cond.selects RX1 yX1_add yX1_add, Cond.code yX1_add cX1_add 7 none, Cond.methodLink RL 69 yX4_syn, Cond.instanceMethod yX4_syn, Cond.selects RX4 yX4_syn yX4_syn]
def wsL_law0_r10 : List Cond := [Cond.code yX4_syn cX4_syn 8 (some .long), Cond.constantLong RX4 141 (-1), Cond.constantLong RX4 103 (4294967295), Cond.constant RX4 150 (-16777216), Cond.methodLink RX4 112 yX4_noPort, Cond.static yX4_noPort, Cond.code yX4_noPort cX4_noPort 1 (some .boolean), Cond.constant RX4 111 (65535), Cond.methodLink RX4 137 yX4_opened, Cond.instanceMethod yX4_opened, Cond.selects RX4 yX4_opened yX4_opened, Cond.code yX4_opened cX4_opened 4 (some .int), Cond.fieldLink RX4 123 "CookieListenerModel" "open" "I", Cond.methodLink RX4 143 yX4_half, Cond.instanceMethod yX4_half, Cond.selects RX4 yX4_half yX4_half, Cond.code yX4_half cX4_half 4 (some .int), Cond.methodLink RX4 146 yX4_kindOf, Cond.static yX4_kindOf, Cond.code yX4_kindOf cX4_kindOf 1 (some .int), Cond.methodLink RX4 116 yX4_cookieOf, Cond.instanceMethod yX4_cookieOf, Cond.selects RX4 yX4_cookieOf yX4_cookieOf, Cond.code yX4_cookieOf cX4_cookieOf 11 (some .int)]
def wsL_law0_r11 : List Cond := [Cond.constantLong RX4 105 (65536), Cond.constantLong RX4 107 (1048576), Cond.constantLong RX4 109 (16777215), Cond.methodLink RX4 99 yX4_hashOf, Cond.instanceMethod yX4_hashOf, Cond.selects RX4 yX4_hashOf yX4_hashOf, Cond.code yX4_hashOf cX4_hashOf 6 (some .long), Cond.constantLong RX4 83 (8317987319222330741), Cond.fieldLink RX4 64 "CookieListenerModel" "v0" "J", Cond.constantLong RX4 85 (7237128888997146477), Cond.fieldLink RX4 67 "CookieListenerModel" "v1" "J", Cond.constantLong RX4 87 (7816392313619706465), Cond.fieldLink RX4 74 "CookieListenerModel" "v2" "J", Cond.constantLong RX4 89 (8387220255154660723), Cond.fieldLink RX4 77 "CookieListenerModel" "v3" "J", Cond.constantLong RX4 95 (1152921504606846976), Cond.constantLong RX4 97 (255), Cond.methodLink RX4 91 yX4_take, Cond.instanceMethod yX4_take, Cond.selects RX4 yX4_take yX4_take, Cond.code yX4_take cX4_take 3 none, Cond.methodLink RX4 80 yX4_round, Cond.instanceMethod yX4_round, Cond.selects RX4 yX4_round yX4_round]
def wsL_law0_r12 : List Cond := [Cond.code yX4_round cX4_round 1 none, Cond.methodLink RX4 70 yX4_turned, Cond.static yX4_turned, Cond.code yX4_turned cX4_turned 3 (some .long), Cond.methodLink RL 70 yL_ack, Cond.static yL_ack, Cond.codeWith yL_ack cL_ack 7 (some .int) [(0, 14, 17, 13)], Cond.methodLink RL 23 yX3_ack, Cond.instanceMethod yX3_ack, Cond.selects RX3 yX3_ack yX3_ack, Cond.code yX3_ack cX3_ack 9 (some .int), Cond.methodLink RX3 101 yX3_ackOfHalf, Cond.instanceMethod yX3_ackOfHalf, Cond.selects RX3 yX3_ackOfHalf yX3_ackOfHalf, Cond.code yX3_ackOfHalf cX3_ackOfHalf 4 (some .int), Cond.methodLink RX3 169 yX0_hasRoom, Cond.instanceMethod yX0_hasRoom, Cond.selects RX0 yX0_hasRoom yX0_hasRoom, Cond.code yX0_hasRoom cX0_hasRoom 2 (some .boolean), Cond.methodLink RX0 26 yX0_waiting, Cond.instanceMethod yX0_waiting, Cond.selects RX0 yX0_waiting yX0_waiting, Cond.code yX0_waiting cX0_waiting 1 (some .int), Cond.methodLink RX3 175 yX0_add]
def wsL_law0_r13 : List Cond := [Cond.instanceMethod yX0_add, Cond.selects RX0 yX0_add yX0_add, Cond.code yX0_add cX0_add 4 none, Cond.methodLink RX3 105 yX3_ackWithoutHalf, Cond.instanceMethod yX3_ackWithoutHalf, Cond.selects RX3 yX3_ackWithoutHalf yX3_ackWithoutHalf, Cond.code yX3_ackWithoutHalf cX3_ackWithoutHalf 6 (some .int), Cond.methodLink RX3 178 yX3_cookiesGivenLately, Cond.instanceMethod yX3_cookiesGivenLately, Cond.selects RX3 yX3_cookiesGivenLately yX3_cookiesGivenLately, Cond.code yX3_cookiesGivenLately cX3_cookiesGivenLately 1 (some .boolean), Cond.methodLink RX3 182 yX3_isCookieOfLateSlot, Cond.instanceMethod yX3_isCookieOfLateSlot, Cond.selects RX3 yX3_isCookieOfLateSlot yX3_isCookieOfLateSlot, Cond.code yX3_isCookieOfLateSlot cX3_isCookieOfLateSlot 7 (some .boolean), Cond.methodLink RL 72 yX4_ack, Cond.instanceMethod yX4_ack, Cond.selects RX4 yX4_ack yX4_ack, Cond.code yX4_ack cX4_ack 10 (some .int), Cond.methodLink RX4 151 yX4_hasRoom, Cond.instanceMethod yX4_hasRoom, Cond.selects RX4 yX4_hasRoom yX4_hasRoom, Cond.code yX4_hasRoom cX4_hasRoom 1 (some .boolean), Cond.methodLink RX4 126 yX4_waiting]
def wsL_law0_r14 : List Cond := [Cond.instanceMethod yX4_waiting, Cond.selects RX4 yX4_waiting yX4_waiting, Cond.code yX4_waiting cX4_waiting 3 (some .int), Cond.methodLink RX4 155 yX4_come, Cond.instanceMethod yX4_come, Cond.selects RX4 yX4_come yX4_come, Cond.code yX4_come cX4_come 4 none, Cond.methodLink RL 73 yX3_take, Cond.instanceMethod yX3_take, Cond.selects RX3 yX3_take yX3_take, Cond.code yX3_take cX3_take 2 (some .int), Cond.methodLink RX3 108 yX0_takeFirst, Cond.instanceMethod yX0_takeFirst, Cond.selects RX0 yX0_takeFirst yX0_takeFirst, Cond.code yX0_takeFirst cX0_takeFirst 1 (some .int), Cond.methodLink RL 76 yX4_take_, Cond.instanceMethod yX4_take_, Cond.selects RX4 yX4_take_ yX4_take_, Cond.code yX4_take_ cX4_take_ 2 (some .int), Cond.constant RX4 159 (65536), Cond.methodLink RL 77 yL_close, Cond.static yL_close, Cond.codeWith yL_close cL_close 5 (some .int) [(0, 10, 13, 13)], Cond.methodLink RL 27 yX3_close]
def wsL_law0_r15 : List Cond := [Cond.instanceMethod yX3_close, Cond.selects RX3 yX3_close yX3_close, Cond.code yX3_close cX3_close 6 (some .int), Cond.methodLink RX3 122 yX3_stateOf, Cond.instanceMethod yX3_stateOf, Cond.selects RX3 yX3_stateOf yX3_stateOf, Cond.code yX3_stateOf cX3_stateOf 4 (some .int), Cond.methodLink RX3 186 yX0_isTaken, Cond.instanceMethod yX0_isTaken, Cond.selects RX0 yX0_isTaken yX0_isTaken, Cond.code yX0_isTaken cX0_isTaken 2 (some .boolean), Cond.methodLink RX3 125 yX0_drop, Cond.instanceMethod yX0_drop, Cond.selects RX0 yX0_drop yX0_drop, Cond.code yX0_drop cX0_drop 3 none, Cond.methodLink RX0 30 yX0_isTaken, Cond.methodLink RL 80 yX4_close, Cond.instanceMethod yX4_close, Cond.selects RX4 yX4_close yX4_close, Cond.code yX4_close cX4_close 4 (some .int), Cond.methodLink RX4 160 yX4_stateOf, Cond.instanceMethod yX4_stateOf, Cond.selects RX4 yX4_stateOf yX4_stateOf, Cond.code yX4_stateOf cX4_stateOf 4 (some .int)]
def wsL_law0_r16 : List Cond := [Cond.methodLink RX4 163 yX4_dropOpen, Cond.instanceMethod yX4_dropOpen, Cond.selects RX4 yX4_dropOpen yX4_dropOpen, Cond.code yX4_dropOpen cX4_dropOpen 3 none, Cond.methodLink RL 81 yL_state, Cond.static yL_state, Cond.codeWith yL_state cL_state 5 (some .int) [(0, 10, 13, 13)], Cond.methodLink RL 31 yX3_state, Cond.instanceMethod yX3_state, Cond.selects RX3 yX3_state yX3_state, Cond.code yX3_state cX3_state 3 (some .int), Cond.methodLink RL 83 yX4_state, Cond.instanceMethod yX4_state, Cond.selects RX4 yX4_state yX4_state, Cond.code yX4_state cX4_state 3 (some .int), Cond.methodLink RL 84 yL_cookie, Cond.static yL_cookie, Cond.codeWith yL_cookie cL_cookie 8 (some .int) [(0, 15, 18, 13)], Cond.methodLink RL 34 yX3_cookie, Cond.instanceMethod yX3_cookie, Cond.selects RX3 yX3_cookie yX3_cookie, Cond.code yX3_cookie cX3_cookie 6 (some .long), Cond.constant RX3 128 (2147483647), Cond.methodLink RL 87 yX4_cookie]
def wsL_law0_r17 : List Cond := [Cond.instanceMethod yX4_cookie, Cond.selects RX4 yX4_cookie yX4_cookie, Cond.code yX4_cookie cX4_cookie 6 (some .long), Cond.methodLink RL 88 yX3_hash, Cond.instanceMethod yX3_hash, Cond.selects RX3 yX3_hash yX3_hash, Cond.code yX3_hash cX3_hash 5 (some .long), Cond.methodLink RL 92 yX4_hash, Cond.instanceMethod yX4_hash, Cond.selects RX4 yX4_hash yX4_hash, Cond.code yX4_hash cX4_hash 5 (some .long), Cond.methodLink RL 93 yL_told, Cond.static yL_told, Cond.codeWith yL_told cL_told 4 (some .int) [(0, 9, 12, 13)], Cond.methodLink RL 38 yX3_told, Cond.instanceMethod yX3_told, Cond.selects RX3 yX3_told yX3_told, Cond.code yX3_told cX3_told 2 (some .int), Cond.methodLink RX3 140 yX0_waiting, Cond.methodLink RL 95 yX4_told, Cond.instanceMethod yX4_told, Cond.selects RX4 yX4_told yX4_told, Cond.code yX4_told cX4_told 2 (some .int)]
def wsL_law0 : List Cond := (wsL_law0_r1 ++ (wsL_law0_r2 ++ (wsL_law0_r3 ++ (wsL_law0_r4 ++ (wsL_law0_r5 ++ (wsL_law0_r6 ++ (wsL_law0_r7 ++ (wsL_law0_r8 ++ (wsL_law0_r9 ++ (wsL_law0_r10 ++ (wsL_law0_r11 ++ (wsL_law0_r12 ++ (wsL_law0_r13 ++ (wsL_law0_r14 ++ (wsL_law0_r15 ++ (wsL_law0_r16 ++ wsL_law0_r17)))))))))))))))) ++ wsX30 ++ wsX40 ++ wsX20 ++ wsX10 ++ wsX00 ++ ([] : List Cond)
def wsL_law : List Cond := wsL_law0 ++ (vx_atS RX3 148 "java/lang/IllegalArgumentException" ["java/lang/RuntimeException", "java/lang/Exception"]).filter goodWord
theorem ck_sub {big ws : List Cond} {ps : List Nat} (hp : ws = ps.filterMap (fun i => big[i]?)) : ∀ w ∈ ws, w ∈ big := by
  intro w hw
  rw [hp] at hw
  obtain ⟨i, -, hi⟩ := List.mem_filterMap.mp hw
  exact List.mem_of_getElem? hi
set_option maxRecDepth 20000 in
theorem wsL_q1 : ∀ w ∈ wsL_law0_r1, w ∈ lw_tbl := ck_sub (ps := [33, 34, 24, 418, 419, 28, 96, 617, 35, 36, 37, 38, 39, 40, 41, 42, 25, 120, 66, 67, 26, 121, 98, 99]) (by decide +kernel)
set_option maxRecDepth 20000 in
theorem wsL_q2 : ∀ w ∈ wsL_law0_r2, w ∈ lw_tbl := ck_sub (ps := [27, 122, 123, 124, 125, 126, 127, 128, 129, 130, 44, 45, 46, 47, 48, 49, 50, 51, 52, 69, 70, 71, 72, 97]) (by decide +kernel)
set_option maxRecDepth 20000 in
theorem wsL_q3 : ∀ w ∈ wsL_law0_r3, w ∈ lw_tbl := ck_sub (ps := [74, 76, 78, 80, 81, 101, 102, 103, 104, 106, 108, 110, 420, 421, 422, 423, 425, 426, 430, 432, 433, 434, 435, 436]) (by decide +kernel)
set_option maxRecDepth 20000 in
theorem wsL_q4 : ∀ w ∈ wsL_law0_r4, w ∈ lw_tbl := ck_sub (ps := [437, 439, 440, 441, 497, 442, 443, 199, 200, 23, 201, 202, 203, 204, 205, 206, 207, 208, 209, 210, 32, 502, 503, 504]) (by decide +kernel)
set_option maxRecDepth 20000 in
theorem wsL_q5 : ∀ w ∈ wsL_law0_r5, w ∈ lw_tbl := ck_sub (ps := [505, 424, 498, 499, 500, 501, 154, 155, 156, 157, 158, 159, 160, 161, 506, 507, 508, 509, 427, 428, 276, 277, 278, 279]) (by decide +kernel)
set_option maxRecDepth 20000 in
theorem wsL_q6 : ∀ w ∈ wsL_law0_r6, w ∈ lw_tbl := ck_sub (ps := [280, 281, 282, 283, 284, 285, 286, 287, 288, 289, 290, 551, 552, 553, 554, 429, 431, 555, 557, 15, 558, 291, 292, 293]) (by decide +kernel)
set_option maxRecDepth 20000 in
theorem wsL_q7 : ∀ w ∈ wsL_law0_r7, w ∈ lw_tbl := ck_sub (ps := [294, 295, 296, 297, 173, 305, 298, 299, 300, 301, 302, 303, 304, 306, 307, 308, 309, 310, 311, 312, 313, 314, 315, 316]) (by decide +kernel)
set_option maxRecDepth 20000 in
theorem wsL_q8 : ∀ w ∈ wsL_law0_r8, w ∈ lw_tbl := ck_sub (ps := [317, 318, 320, 322, 3, 323, 334, 324, 326, 4, 327, 328, 330, 5, 331, 332, 333, 170, 171, 172, 178, 179, 180, 181]) (by decide +kernel)
set_option maxRecDepth 20000 in
theorem wsL_q9 : ∀ w ∈ wsL_law0_r9, w ∈ lw_tbl := ck_sub (ps := [182, 183, 184, 185, 197, 198, 186, 188, 0, 189, 190, 192, 1, 193, 194, 195, 196, 335, 336, 337, 338, 559, 560, 561]) (by decide +kernel)
set_option maxRecDepth 20000 in
theorem wsL_q10 : ∀ w ∈ wsL_law0_r10, w ∈ lw_tbl := ck_sub (ps := [562, 567, 547, 575, 539, 540, 541, 542, 563, 565, 16, 566, 438, 568, 570, 17, 571, 572, 573, 574, 543, 545, 14, 546]) (by decide +kernel)
set_option maxRecDepth 20000 in
theorem wsL_q11 : ∀ w ∈ wsL_law0_r11, w ∈ lw_tbl := ck_sub (ps := [548, 549, 550, 514, 516, 11, 517, 518, 444, 519, 445, 520, 446, 521, 447, 533, 534, 522, 524, 12, 525, 526, 528, 13]) (by decide +kernel)
set_option maxRecDepth 20000 in
theorem wsL_q12 : ∀ w ∈ wsL_law0_r12, w ∈ lw_tbl := ck_sub (ps := [529, 530, 531, 532, 339, 340, 341, 342, 343, 344, 345, 346, 348, 6, 349, 350, 351, 352, 353, 354, 355, 356, 357, 358]) (by decide +kernel)
set_option maxRecDepth 20000 in
theorem wsL_q13 : ∀ w ∈ wsL_law0_r13, w ∈ lw_tbl := ck_sub (ps := [359, 360, 361, 362, 364, 7, 365, 366, 368, 8, 369, 370, 372, 9, 373, 576, 577, 578, 579, 580, 582, 18, 583, 584]) (by decide +kernel)
set_option maxRecDepth 20000 in
theorem wsL_q14 : ∀ w ∈ wsL_law0_r14, w ∈ lw_tbl := ck_sub (ps := [586, 19, 587, 588, 590, 20, 591, 162, 163, 164, 165, 166, 167, 168, 169, 592, 593, 594, 595, 596, 374, 375, 376, 377]) (by decide +kernel)
set_option maxRecDepth 20000 in
theorem wsL_q15 : ∀ w ∈ wsL_law0_r15, w ∈ lw_tbl := ck_sub (ps := [378, 379, 380, 381, 383, 10, 384, 385, 386, 387, 388, 389, 390, 391, 392, 393, 597, 598, 599, 600, 601, 603, 21, 604]) (by decide +kernel)
set_option maxRecDepth 20000 in
theorem wsL_q16 : ∀ w ∈ wsL_law0_r16, w ∈ lw_tbl := ck_sub (ps := [605, 607, 22, 608, 394, 395, 396, 397, 398, 399, 400, 609, 610, 611, 612, 401, 402, 403, 404, 405, 406, 407, 408, 535]) (by decide +kernel)
set_option maxRecDepth 20000 in
theorem wsL_q17 : ∀ w ∈ wsL_law0_r17, w ∈ lw_tbl := ck_sub (ps := [536, 537, 538, 174, 175, 176, 177, 510, 511, 512, 513, 409, 410, 411, 412, 413, 414, 415, 416, 613, 614, 615, 616]) (by decide +kernel)
set_option maxRecDepth 20000 in
theorem wsL_qX0 : ∀ w ∈ wsX00, w ∈ lw_tbl := ck_sub (ps := [111, 113, 115, 117]) (by decide +kernel)
set_option maxRecDepth 20000 in
theorem wsL_qX1 : ∀ w ∈ wsX10, w ∈ lw_tbl := ck_sub (ps := [83, 85, 87, 89, 91, 93]) (by decide +kernel)
set_option maxRecDepth 20000 in
theorem wsL_qX2 : ∀ w ∈ wsX20, w ∈ lw_tbl := ck_sub (ps := [53, 55, 57, 59, 61, 63]) (by decide +kernel)
set_option maxRecDepth 20000 in
theorem wsL_qX3 : ∀ w ∈ wsX30, w ∈ lw_tbl := ck_sub (ps := [131, 133, 135, 137, 139, 141, 143, 145, 147, 149, 151]) (by decide +kernel)
set_option maxRecDepth 20000 in
theorem wsL_qX4 : ∀ w ∈ wsX40, w ∈ lw_tbl := ck_sub (ps := [448, 450, 452, 454, 456, 458, 460, 462, 464, 466, 468, 470, 472, 474, 476, 478, 480, 482, 484, 486, 488, 490, 492, 494]) (by decide +kernel)
theorem wsL_law_in0 : ∀ w ∈ wsL_law0, w ∈ lw_tbl := List.forall_mem_append.mpr ⟨List.forall_mem_append.mpr ⟨List.forall_mem_append.mpr ⟨List.forall_mem_append.mpr ⟨List.forall_mem_append.mpr ⟨List.forall_mem_append.mpr ⟨List.forall_mem_append.mpr ⟨wsL_q1, List.forall_mem_append.mpr ⟨wsL_q2, List.forall_mem_append.mpr ⟨wsL_q3, List.forall_mem_append.mpr ⟨wsL_q4, List.forall_mem_append.mpr ⟨wsL_q5, List.forall_mem_append.mpr ⟨wsL_q6, List.forall_mem_append.mpr ⟨wsL_q7, List.forall_mem_append.mpr ⟨wsL_q8, List.forall_mem_append.mpr ⟨wsL_q9, List.forall_mem_append.mpr ⟨wsL_q10, List.forall_mem_append.mpr ⟨wsL_q11, List.forall_mem_append.mpr ⟨wsL_q12, List.forall_mem_append.mpr ⟨wsL_q13, List.forall_mem_append.mpr ⟨wsL_q14, List.forall_mem_append.mpr ⟨wsL_q15, List.forall_mem_append.mpr ⟨wsL_q16, wsL_q17⟩⟩⟩⟩⟩⟩⟩⟩⟩⟩⟩⟩⟩⟩⟩⟩, wsL_qX3⟩, wsL_qX4⟩, wsL_qX2⟩, wsL_qX1⟩, wsL_qX0⟩, fun _ h => absurd h List.not_mem_nil⟩
theorem wsL_law_x0 : ∀ w ∈ (vx_atS RX3 148 "java/lang/IllegalArgumentException" ["java/lang/RuntimeException", "java/lang/Exception"]).filter goodWord, w ∈ lw_tbl := by decide +kernel
theorem wsL_law_in : ∀ w ∈ wsL_law, w ∈ lw_tbl := fun w h => (List.mem_append.mp h).elim (fun h => wsL_law_in0 w h) (fun h => wsL_law_x0 w h)
theorem inlX0 : ∀ w ∈ wsX00, w ∈ wsL_law := fun _ h => List.mem_append_left _ (List.mem_append_left _ (List.mem_append_right _ h))
theorem inX0 : ∀ w ∈ wsX00, w ∈ lw_tbl := fun w h => wsL_law_in w (inlX0 w h)
theorem inlX1 : ∀ w ∈ wsX10, w ∈ wsL_law := fun _ h => List.mem_append_left _ (List.mem_append_left _ (List.mem_append_left _ (List.mem_append_right _ h)))
theorem inX1 : ∀ w ∈ wsX10, w ∈ lw_tbl := fun w h => wsL_law_in w (inlX1 w h)
theorem inlX2 : ∀ w ∈ wsX20, w ∈ wsL_law := fun _ h => List.mem_append_left _ (List.mem_append_left _ (List.mem_append_left _ (List.mem_append_left _ (List.mem_append_right _ h))))
theorem inX2 : ∀ w ∈ wsX20, w ∈ lw_tbl := fun w h => wsL_law_in w (inlX2 w h)
theorem inlX3 : ∀ w ∈ wsX30, w ∈ wsL_law := fun _ h => List.mem_append_left _ (List.mem_append_left _ (List.mem_append_left _ (List.mem_append_left _ (List.mem_append_left _ (List.mem_append_left _ (List.mem_append_right _ h))))))
theorem inX3 : ∀ w ∈ wsX30, w ∈ lw_tbl := fun w h => wsL_law_in w (inlX3 w h)
theorem inlX4 : ∀ w ∈ wsX40, w ∈ wsL_law := fun _ h => List.mem_append_left _ (List.mem_append_left _ (List.mem_append_left _ (List.mem_append_left _ (List.mem_append_left _ (List.mem_append_right _ h)))))
theorem inX4 : ∀ w ∈ wsX40, w ∈ lw_tbl := fun w h => wsL_law_in w (inlX4 w h)
theorem inJ0 : ∀ w ∈ wsJ00, w ∈ lw_tbl := by decide +kernel
abbrev vwCl : List vw_C := [(RX0, TX0, 4), (RX1, TX1, 6), (RX2, TX2, 6), (RX3, TX3, 11), (RX4, TX4, 24)]
end
section
theorem dX0_init_0 : decode cX0_init 0 = .ok (.aload_n 0, 1) := by decide +kernel
theorem dX0_init_1 : decode cX0_init 1 = .ok (.invokespecial 3, 3) := by decide +kernel
theorem dX0_init_4 : decode cX0_init 4 = .ok (.aload_n 0, 1) := by decide +kernel
theorem dX0_init_5 : decode cX0_init 5 = .ok (.bipush 64, 2) := by decide +kernel
theorem dX0_init_7 : decode cX0_init 7 = .ok (.newarray .long, 2) := by decide +kernel
theorem dX0_init_9 : decode cX0_init 9 = .ok (.putfield 9, 3) := by decide +kernel
theorem dX0_init_12 : decode cX0_init 12 = .ok (.aload_n 0, 1) := by decide +kernel
theorem dX0_init_13 : decode cX0_init 13 = .ok (.bipush 64, 2) := by decide +kernel
theorem dX0_init_15 : decode cX0_init 15 = .ok (.newarray .int, 2) := by decide +kernel
theorem dX0_init_17 : decode cX0_init 17 = .ok (.putfield 15, 3) := by decide +kernel
theorem dX0_init_20 : decode cX0_init 20 = .ok (.aload_n 0, 1) := by decide +kernel
theorem dX0_init_21 : decode cX0_init 21 = .ok (.iconst 0, 1) := by decide +kernel
theorem dX0_init_22 : decode cX0_init 22 = .ok (.putfield 19, 3) := by decide +kernel
theorem dX0_init_25 : decode cX0_init 25 = .ok (.aload_n 0, 1) := by decide +kernel
theorem dX0_init_26 : decode cX0_init 26 = .ok (.iconst 0, 1) := by decide +kernel
theorem dX0_init_27 : decode cX0_init 27 = .ok (.putfield 23, 3) := by decide +kernel
theorem dX0_init_30 : decode cX0_init 30 = .ok (.return_, 1) := by decide +kernel
theorem dX0_waiting_0 : decode cX0_waiting 0 = .ok (.aload_n 0, 1) := by decide +kernel
theorem dX0_waiting_1 : decode cX0_waiting 1 = .ok (.getfield 19, 3) := by decide +kernel
theorem dX0_waiting_4 : decode cX0_waiting 4 = .ok (.aload_n 0, 1) := by decide +kernel
theorem dX0_waiting_5 : decode cX0_waiting 5 = .ok (.getfield 23, 3) := by decide +kernel
theorem dX0_waiting_8 : decode cX0_waiting 8 = .ok (.isub, 1) := by decide +kernel
theorem dX0_waiting_9 : decode cX0_waiting 9 = .ok (.ireturn, 1) := by decide +kernel
theorem dX0_isTaken_0 : decode cX0_isTaken 0 = .ok (.iload_n 1, 1) := by decide +kernel
theorem dX0_isTaken_1 : decode cX0_isTaken 1 = .ok (.aload_n 0, 1) := by decide +kernel
theorem dX0_isTaken_2 : decode cX0_isTaken 2 = .ok (.getfield 23, 3) := by decide +kernel
theorem dX0_isTaken_5 : decode cX0_isTaken 5 = .ok (.if_icmp .ge 7, 3) := by decide +kernel
theorem dX0_isTaken_8 : decode cX0_isTaken 8 = .ok (.iconst 1, 1) := by decide +kernel
theorem dX0_isTaken_9 : decode cX0_isTaken 9 = .ok (.goto 4, 3) := by decide +kernel
theorem dX0_isTaken_12 : decode cX0_isTaken 12 = .ok (.iconst 0, 1) := by decide +kernel
theorem dX0_isTaken_13 : decode cX0_isTaken 13 = .ok (.ireturn, 1) := by decide +kernel
set_option maxRecDepth 20000 in
theorem ggX0_hasRoom_X0_waiting : GoodIn wsX0_hasRoom wsX0_waiting := goodIn_r _ [6, 1, 7, 8, 9, 10, 11] (by decide +kernel) (by decide +kernel)
set_option maxRecDepth 20000 in
theorem gX0_hasRoom_X0_waiting : GoodIn wsX0_hasRoom (wsV RX0 26 RX0 yX0_waiting wsX0_waiting) := goodIn_app (goodIn_of _ (by decide +kernel)) ggX0_hasRoom_X0_waiting
theorem dX0_hasRoom_0 : decode cX0_hasRoom 0 = .ok (.aload_n 0, 1) := by decide +kernel
theorem dX0_hasRoom_1 : decode cX0_hasRoom 1 = .ok (.invokevirtual 26, 3) := by decide +kernel
theorem dX0_hasRoom_4 : decode cX0_hasRoom 4 = .ok (.iload_n 1, 1) := by decide +kernel
theorem dX0_hasRoom_5 : decode cX0_hasRoom 5 = .ok (.if_icmp .ge 16, 3) := by decide +kernel
theorem dX0_hasRoom_8 : decode cX0_hasRoom 8 = .ok (.aload_n 0, 1) := by decide +kernel
theorem dX0_hasRoom_9 : decode cX0_hasRoom 9 = .ok (.getfield 19, 3) := by decide +kernel
theorem dX0_hasRoom_12 : decode cX0_hasRoom 12 = .ok (.bipush 64, 2) := by decide +kernel
theorem dX0_hasRoom_14 : decode cX0_hasRoom 14 = .ok (.if_icmp .ge 7, 3) := by decide +kernel
theorem dX0_hasRoom_17 : decode cX0_hasRoom 17 = .ok (.iconst 1, 1) := by decide +kernel
theorem dX0_hasRoom_18 : decode cX0_hasRoom 18 = .ok (.goto 4, 3) := by decide +kernel
theorem dX0_hasRoom_21 : decode cX0_hasRoom 21 = .ok (.iconst 0, 1) := by decide +kernel
theorem dX0_hasRoom_22 : decode cX0_hasRoom 22 = .ok (.ireturn, 1) := by decide +kernel
theorem dX0_find_0 : decode cX0_find 0 = .ok (.iconst 0, 1) := by decide +kernel
theorem dX0_find_1 : decode cX0_find 1 = .ok (.istore_n 3, 1) := by decide +kernel
theorem dX0_find_2 : decode cX0_find 2 = .ok (.iload_n 3, 1) := by decide +kernel
theorem dX0_find_3 : decode cX0_find 3 = .ok (.aload_n 0, 1) := by decide +kernel
theorem dX0_find_4 : decode cX0_find 4 = .ok (.getfield 19, 3) := by decide +kernel
theorem dX0_find_7 : decode cX0_find 7 = .ok (.if_icmp .ge 22, 3) := by decide +kernel
theorem dX0_find_10 : decode cX0_find 10 = .ok (.aload_n 0, 1) := by decide +kernel
theorem dX0_find_11 : decode cX0_find 11 = .ok (.getfield 9, 3) := by decide +kernel
theorem dX0_find_14 : decode cX0_find 14 = .ok (.iload_n 3, 1) := by decide +kernel
theorem dX0_find_15 : decode cX0_find 15 = .ok (.laload, 1) := by decide +kernel
theorem dX0_find_16 : decode cX0_find 16 = .ok (.lload_n 1, 1) := by decide +kernel
theorem dX0_find_17 : decode cX0_find 17 = .ok (.lcmp, 1) := by decide +kernel
theorem dX0_find_18 : decode cX0_find 18 = .ok (.ifCond .ne 5, 3) := by decide +kernel
theorem dX0_find_21 : decode cX0_find 21 = .ok (.iload_n 3, 1) := by decide +kernel
theorem dX0_find_22 : decode cX0_find 22 = .ok (.ireturn, 1) := by decide +kernel
theorem dX0_find_23 : decode cX0_find 23 = .ok (.iinc 3 1, 3) := by decide +kernel
theorem dX0_find_26 : decode cX0_find 26 = .ok (.goto (-24), 3) := by decide +kernel
theorem dX0_find_29 : decode cX0_find 29 = .ok (.iconst (-1), 1) := by decide +kernel
theorem dX0_find_30 : decode cX0_find 30 = .ok (.ireturn, 1) := by decide +kernel
theorem dX0_add_0 : decode cX0_add 0 = .ok (.aload_n 0, 1) := by decide +kernel
theorem dX0_add_1 : decode cX0_add 1 = .ok (.getfield 19, 3) := by decide +kernel
theorem dX0_add_4 : decode cX0_add 4 = .ok (.bipush 64, 2) := by decide +kernel
theorem dX0_add_6 : decode cX0_add 6 = .ok (.if_icmp .lt 4, 3) := by decide +kernel
theorem dX0_add_9 : decode cX0_add 9 = .ok (.return_, 1) := by decide +kernel
theorem dX0_add_10 : decode cX0_add 10 = .ok (.aload_n 0, 1) := by decide +kernel
theorem dX0_add_11 : decode cX0_add 11 = .ok (.getfield 9, 3) := by decide +kernel
theorem dX0_add_14 : decode cX0_add 14 = .ok (.aload_n 0, 1) := by decide +kernel
theorem dX0_add_15 : decode cX0_add 15 = .ok (.getfield 19, 3) := by decide +kernel
theorem dX0_add_18 : decode cX0_add 18 = .ok (.lload_n 1, 1) := by decide +kernel
theorem dX0_add_19 : decode cX0_add 19 = .ok (.lastore, 1) := by decide +kernel
theorem dX0_add_20 : decode cX0_add 20 = .ok (.aload_n 0, 1) := by decide +kernel
theorem dX0_add_21 : decode cX0_add 21 = .ok (.getfield 15, 3) := by decide +kernel
theorem dX0_add_24 : decode cX0_add 24 = .ok (.aload_n 0, 1) := by decide +kernel
theorem dX0_add_25 : decode cX0_add 25 = .ok (.getfield 19, 3) := by decide +kernel
theorem dX0_add_28 : decode cX0_add 28 = .ok (.iload_n 3, 1) := by decide +kernel
theorem dX0_add_29 : decode cX0_add 29 = .ok (.iastore, 1) := by decide +kernel
theorem dX0_add_30 : decode cX0_add 30 = .ok (.aload_n 0, 1) := by decide +kernel
theorem dX0_add_31 : decode cX0_add 31 = .ok (.dup, 1) := by decide +kernel
theorem dX0_add_32 : decode cX0_add 32 = .ok (.getfield 19, 3) := by decide +kernel
theorem dX0_add_35 : decode cX0_add 35 = .ok (.iconst 1, 1) := by decide +kernel
theorem dX0_add_36 : decode cX0_add 36 = .ok (.iadd, 1) := by decide +kernel
theorem dX0_add_37 : decode cX0_add 37 = .ok (.putfield 19, 3) := by decide +kernel
theorem dX0_add_40 : decode cX0_add 40 = .ok (.return_, 1) := by decide +kernel
theorem dX0_takeFirst_0 : decode cX0_takeFirst 0 = .ok (.aload_n 0, 1) := by decide +kernel
theorem dX0_takeFirst_1 : decode cX0_takeFirst 1 = .ok (.getfield 23, 3) := by decide +kernel
theorem dX0_takeFirst_4 : decode cX0_takeFirst 4 = .ok (.aload_n 0, 1) := by decide +kernel
theorem dX0_takeFirst_5 : decode cX0_takeFirst 5 = .ok (.getfield 19, 3) := by decide +kernel
theorem dX0_takeFirst_8 : decode cX0_takeFirst 8 = .ok (.if_icmp .lt 5, 3) := by decide +kernel
theorem dX0_takeFirst_11 : decode cX0_takeFirst 11 = .ok (.iconst (-1), 1) := by decide +kernel
theorem dX0_takeFirst_12 : decode cX0_takeFirst 12 = .ok (.ireturn, 1) := by decide +kernel
theorem dX0_takeFirst_13 : decode cX0_takeFirst 13 = .ok (.aload_n 0, 1) := by decide +kernel
theorem dX0_takeFirst_14 : decode cX0_takeFirst 14 = .ok (.dup, 1) := by decide +kernel
theorem dX0_takeFirst_15 : decode cX0_takeFirst 15 = .ok (.getfield 23, 3) := by decide +kernel
theorem dX0_takeFirst_18 : decode cX0_takeFirst 18 = .ok (.iconst 1, 1) := by decide +kernel
theorem dX0_takeFirst_19 : decode cX0_takeFirst 19 = .ok (.iadd, 1) := by decide +kernel
theorem dX0_takeFirst_20 : decode cX0_takeFirst 20 = .ok (.putfield 23, 3) := by decide +kernel
theorem dX0_takeFirst_23 : decode cX0_takeFirst 23 = .ok (.aload_n 0, 1) := by decide +kernel
theorem dX0_takeFirst_24 : decode cX0_takeFirst 24 = .ok (.getfield 23, 3) := by decide +kernel
theorem dX0_takeFirst_27 : decode cX0_takeFirst 27 = .ok (.iconst 1, 1) := by decide +kernel
theorem dX0_takeFirst_28 : decode cX0_takeFirst 28 = .ok (.isub, 1) := by decide +kernel
theorem dX0_takeFirst_29 : decode cX0_takeFirst 29 = .ok (.ireturn, 1) := by decide +kernel
set_option maxRecDepth 20000 in
theorem ggX0_drop_X0_isTaken : GoodIn wsX0_drop wsX0_isTaken := goodIn_r _ [9, 2, 10, 11, 12, 13] (by decide +kernel) (by decide +kernel)
set_option maxRecDepth 20000 in
theorem gX0_drop_X0_isTaken : GoodIn wsX0_drop (wsV RX0 30 RX0 yX0_isTaken wsX0_isTaken) := goodIn_app (goodIn_of _ (by decide +kernel)) ggX0_drop_X0_isTaken
theorem dX0_drop_0 : decode cX0_drop 0 = .ok (.iload_n 1, 1) := by decide +kernel
theorem dX0_drop_1 : decode cX0_drop 1 = .ok (.ifCond .lt 11, 3) := by decide +kernel
theorem dX0_drop_4 : decode cX0_drop 4 = .ok (.iload_n 1, 1) := by decide +kernel
theorem dX0_drop_5 : decode cX0_drop 5 = .ok (.aload_n 0, 1) := by decide +kernel
theorem dX0_drop_6 : decode cX0_drop 6 = .ok (.getfield 19, 3) := by decide +kernel
theorem dX0_drop_9 : decode cX0_drop 9 = .ok (.if_icmp .lt 4, 3) := by decide +kernel
theorem dX0_drop_12 : decode cX0_drop 12 = .ok (.return_, 1) := by decide +kernel
theorem dX0_drop_13 : decode cX0_drop 13 = .ok (.aload_n 0, 1) := by decide +kernel
theorem dX0_drop_14 : decode cX0_drop 14 = .ok (.iload_n 1, 1) := by decide +kernel
theorem dX0_drop_15 : decode cX0_drop 15 = .ok (.invokevirtual 30, 3) := by decide +kernel
theorem dX0_drop_18 : decode cX0_drop 18 = .ok (.ifCond .eq 13, 3) := by decide +kernel
theorem dX0_drop_21 : decode cX0_drop 21 = .ok (.aload_n 0, 1) := by decide +kernel
theorem dX0_drop_22 : decode cX0_drop 22 = .ok (.dup, 1) := by decide +kernel
theorem dX0_drop_23 : decode cX0_drop 23 = .ok (.getfield 23, 3) := by decide +kernel
theorem dX0_drop_26 : decode cX0_drop 26 = .ok (.iconst 1, 1) := by decide +kernel
theorem dX0_drop_27 : decode cX0_drop 27 = .ok (.isub, 1) := by decide +kernel
theorem dX0_drop_28 : decode cX0_drop 28 = .ok (.putfield 23, 3) := by decide +kernel
theorem dX0_drop_31 : decode cX0_drop 31 = .ok (.aload_n 0, 1) := by decide +kernel
theorem dX0_drop_32 : decode cX0_drop 32 = .ok (.dup, 1) := by decide +kernel
theorem dX0_drop_33 : decode cX0_drop 33 = .ok (.getfield 19, 3) := by decide +kernel
theorem dX0_drop_36 : decode cX0_drop 36 = .ok (.iconst 1, 1) := by decide +kernel
theorem dX0_drop_37 : decode cX0_drop 37 = .ok (.isub, 1) := by decide +kernel
theorem dX0_drop_38 : decode cX0_drop 38 = .ok (.putfield 19, 3) := by decide +kernel
theorem dX0_drop_41 : decode cX0_drop 41 = .ok (.iload_n 1, 1) := by decide +kernel
theorem dX0_drop_42 : decode cX0_drop 42 = .ok (.istore_n 2, 1) := by decide +kernel
theorem dX0_drop_43 : decode cX0_drop 43 = .ok (.iload_n 2, 1) := by decide +kernel
theorem dX0_drop_44 : decode cX0_drop 44 = .ok (.aload_n 0, 1) := by decide +kernel
theorem dX0_drop_45 : decode cX0_drop 45 = .ok (.getfield 19, 3) := by decide +kernel
theorem dX0_drop_48 : decode cX0_drop 48 = .ok (.if_icmp .ge 37, 3) := by decide +kernel
theorem dX0_drop_51 : decode cX0_drop 51 = .ok (.aload_n 0, 1) := by decide +kernel
theorem dX0_drop_52 : decode cX0_drop 52 = .ok (.getfield 9, 3) := by decide +kernel
theorem dX0_drop_55 : decode cX0_drop 55 = .ok (.iload_n 2, 1) := by decide +kernel
theorem dX0_drop_56 : decode cX0_drop 56 = .ok (.aload_n 0, 1) := by decide +kernel
theorem dX0_drop_57 : decode cX0_drop 57 = .ok (.getfield 9, 3) := by decide +kernel
theorem dX0_drop_60 : decode cX0_drop 60 = .ok (.iload_n 2, 1) := by decide +kernel
theorem dX0_drop_61 : decode cX0_drop 61 = .ok (.iconst 1, 1) := by decide +kernel
theorem dX0_drop_62 : decode cX0_drop 62 = .ok (.iadd, 1) := by decide +kernel
theorem dX0_drop_63 : decode cX0_drop 63 = .ok (.laload, 1) := by decide +kernel
theorem dX0_drop_64 : decode cX0_drop 64 = .ok (.lastore, 1) := by decide +kernel
theorem dX0_drop_65 : decode cX0_drop 65 = .ok (.aload_n 0, 1) := by decide +kernel
theorem dX0_drop_66 : decode cX0_drop 66 = .ok (.getfield 15, 3) := by decide +kernel
theorem dX0_drop_69 : decode cX0_drop 69 = .ok (.iload_n 2, 1) := by decide +kernel
theorem dX0_drop_70 : decode cX0_drop 70 = .ok (.aload_n 0, 1) := by decide +kernel
theorem dX0_drop_71 : decode cX0_drop 71 = .ok (.getfield 15, 3) := by decide +kernel
theorem dX0_drop_74 : decode cX0_drop 74 = .ok (.iload_n 2, 1) := by decide +kernel
theorem dX0_drop_75 : decode cX0_drop 75 = .ok (.iconst 1, 1) := by decide +kernel
theorem dX0_drop_76 : decode cX0_drop 76 = .ok (.iadd, 1) := by decide +kernel
theorem dX0_drop_77 : decode cX0_drop 77 = .ok (.iaload, 1) := by decide +kernel
theorem dX0_drop_78 : decode cX0_drop 78 = .ok (.iastore, 1) := by decide +kernel
theorem dX0_drop_79 : decode cX0_drop 79 = .ok (.iinc 2 1, 3) := by decide +kernel
theorem dX0_drop_82 : decode cX0_drop 82 = .ok (.goto (-39), 3) := by decide +kernel
theorem dX0_drop_85 : decode cX0_drop 85 = .ok (.return_, 1) := by decide +kernel
theorem dX1_init_0 : decode cX1_init 0 = .ok (.aload_n 0, 1) := by decide +kernel
theorem dX1_init_1 : decode cX1_init 1 = .ok (.invokespecial 3, 3) := by decide +kernel
theorem dX1_init_4 : decode cX1_init 4 = .ok (.aload_n 0, 1) := by decide +kernel
theorem dX1_init_5 : decode cX1_init 5 = .ok (.bipush 32, 2) := by decide +kernel
theorem dX1_init_7 : decode cX1_init 7 = .ok (.newarray .long, 2) := by decide +kernel
theorem dX1_init_9 : decode cX1_init 9 = .ok (.putfield 9, 3) := by decide +kernel
theorem dX1_init_12 : decode cX1_init 12 = .ok (.aload_n 0, 1) := by decide +kernel
theorem dX1_init_13 : decode cX1_init 13 = .ok (.bipush 32, 2) := by decide +kernel
theorem dX1_init_15 : decode cX1_init 15 = .ok (.newarray .int, 2) := by decide +kernel
theorem dX1_init_17 : decode cX1_init 17 = .ok (.putfield 15, 3) := by decide +kernel
theorem dX1_init_20 : decode cX1_init 20 = .ok (.aload_n 0, 1) := by decide +kernel
theorem dX1_init_21 : decode cX1_init 21 = .ok (.bipush 32, 2) := by decide +kernel
theorem dX1_init_23 : decode cX1_init 23 = .ok (.newarray .int, 2) := by decide +kernel
theorem dX1_init_25 : decode cX1_init 25 = .ok (.putfield 19, 3) := by decide +kernel
theorem dX1_init_28 : decode cX1_init 28 = .ok (.aload_n 0, 1) := by decide +kernel
theorem dX1_init_29 : decode cX1_init 29 = .ok (.bipush 32, 2) := by decide +kernel
theorem dX1_init_31 : decode cX1_init 31 = .ok (.newarray .int, 2) := by decide +kernel
theorem dX1_init_33 : decode cX1_init 33 = .ok (.putfield 22, 3) := by decide +kernel
theorem dX1_init_36 : decode cX1_init 36 = .ok (.aload_n 0, 1) := by decide +kernel
theorem dX1_init_37 : decode cX1_init 37 = .ok (.bipush 32, 2) := by decide +kernel
theorem dX1_init_39 : decode cX1_init 39 = .ok (.newarray .int, 2) := by decide +kernel
theorem dX1_init_41 : decode cX1_init 41 = .ok (.putfield 25, 3) := by decide +kernel
theorem dX1_init_44 : decode cX1_init 44 = .ok (.aload_n 0, 1) := by decide +kernel
theorem dX1_init_45 : decode cX1_init 45 = .ok (.iconst 0, 1) := by decide +kernel
theorem dX1_init_46 : decode cX1_init 46 = .ok (.putfield 28, 3) := by decide +kernel
theorem dX1_init_49 : decode cX1_init 49 = .ok (.return_, 1) := by decide +kernel
theorem dX1_find_0 : decode cX1_find 0 = .ok (.iconst 0, 1) := by decide +kernel
theorem dX1_find_1 : decode cX1_find 1 = .ok (.istore_n 3, 1) := by decide +kernel
theorem dX1_find_2 : decode cX1_find 2 = .ok (.iload_n 3, 1) := by decide +kernel
theorem dX1_find_3 : decode cX1_find 3 = .ok (.aload_n 0, 1) := by decide +kernel
theorem dX1_find_4 : decode cX1_find 4 = .ok (.getfield 28, 3) := by decide +kernel
theorem dX1_find_7 : decode cX1_find 7 = .ok (.if_icmp .ge 22, 3) := by decide +kernel
theorem dX1_find_10 : decode cX1_find 10 = .ok (.aload_n 0, 1) := by decide +kernel
theorem dX1_find_11 : decode cX1_find 11 = .ok (.getfield 9, 3) := by decide +kernel
theorem dX1_find_14 : decode cX1_find 14 = .ok (.iload_n 3, 1) := by decide +kernel
theorem dX1_find_15 : decode cX1_find 15 = .ok (.laload, 1) := by decide +kernel
theorem dX1_find_16 : decode cX1_find 16 = .ok (.lload_n 1, 1) := by decide +kernel
theorem dX1_find_17 : decode cX1_find 17 = .ok (.lcmp, 1) := by decide +kernel
theorem dX1_find_18 : decode cX1_find 18 = .ok (.ifCond .ne 5, 3) := by decide +kernel
theorem dX1_find_21 : decode cX1_find 21 = .ok (.iload_n 3, 1) := by decide +kernel
theorem dX1_find_22 : decode cX1_find 22 = .ok (.ireturn, 1) := by decide +kernel
theorem dX1_find_23 : decode cX1_find 23 = .ok (.iinc 3 1, 3) := by decide +kernel
theorem dX1_find_26 : decode cX1_find 26 = .ok (.goto (-24), 3) := by decide +kernel
theorem dX1_find_29 : decode cX1_find 29 = .ok (.iconst (-1), 1) := by decide +kernel
theorem dX1_find_30 : decode cX1_find 30 = .ok (.ireturn, 1) := by decide +kernel
theorem dX1_add_0 : decode cX1_add 0 = .ok (.aload_n 0, 1) := by decide +kernel
theorem dX1_add_1 : decode cX1_add 1 = .ok (.getfield 28, 3) := by decide +kernel
theorem dX1_add_4 : decode cX1_add 4 = .ok (.bipush 32, 2) := by decide +kernel
theorem dX1_add_6 : decode cX1_add 6 = .ok (.if_icmp .lt 4, 3) := by decide +kernel
theorem dX1_add_9 : decode cX1_add 9 = .ok (.return_, 1) := by decide +kernel
theorem dX1_add_10 : decode cX1_add 10 = .ok (.aload_n 0, 1) := by decide +kernel
theorem dX1_add_11 : decode cX1_add 11 = .ok (.getfield 9, 3) := by decide +kernel
theorem dX1_add_14 : decode cX1_add 14 = .ok (.aload_n 0, 1) := by decide +kernel
theorem dX1_add_15 : decode cX1_add 15 = .ok (.getfield 28, 3) := by decide +kernel
theorem dX1_add_18 : decode cX1_add 18 = .ok (.lload_n 1, 1) := by decide +kernel
theorem dX1_add_19 : decode cX1_add 19 = .ok (.lastore, 1) := by decide +kernel
theorem dX1_add_20 : decode cX1_add 20 = .ok (.aload_n 0, 1) := by decide +kernel
theorem dX1_add_21 : decode cX1_add 21 = .ok (.getfield 15, 3) := by decide +kernel
theorem dX1_add_24 : decode cX1_add 24 = .ok (.aload_n 0, 1) := by decide +kernel
theorem dX1_add_25 : decode cX1_add 25 = .ok (.getfield 28, 3) := by decide +kernel
theorem dX1_add_28 : decode cX1_add 28 = .ok (.iload_n 3, 1) := by decide +kernel
theorem dX1_add_29 : decode cX1_add 29 = .ok (.iastore, 1) := by decide +kernel
theorem dX1_add_30 : decode cX1_add 30 = .ok (.aload_n 0, 1) := by decide +kernel
theorem dX1_add_31 : decode cX1_add 31 = .ok (.getfield 19, 3) := by decide +kernel
theorem dX1_add_34 : decode cX1_add 34 = .ok (.aload_n 0, 1) := by decide +kernel
theorem dX1_add_35 : decode cX1_add 35 = .ok (.getfield 28, 3) := by decide +kernel
theorem dX1_add_38 : decode cX1_add 38 = .ok (.iload 4, 2) := by decide +kernel
theorem dX1_add_40 : decode cX1_add 40 = .ok (.iastore, 1) := by decide +kernel
theorem dX1_add_41 : decode cX1_add 41 = .ok (.aload_n 0, 1) := by decide +kernel
theorem dX1_add_42 : decode cX1_add 42 = .ok (.getfield 22, 3) := by decide +kernel
theorem dX1_add_45 : decode cX1_add 45 = .ok (.aload_n 0, 1) := by decide +kernel
theorem dX1_add_46 : decode cX1_add 46 = .ok (.getfield 28, 3) := by decide +kernel
theorem dX1_add_49 : decode cX1_add 49 = .ok (.iload 5, 2) := by decide +kernel
theorem dX1_add_51 : decode cX1_add 51 = .ok (.iastore, 1) := by decide +kernel
theorem dX1_add_52 : decode cX1_add 52 = .ok (.aload_n 0, 1) := by decide +kernel
theorem dX1_add_53 : decode cX1_add 53 = .ok (.getfield 25, 3) := by decide +kernel
theorem dX1_add_56 : decode cX1_add 56 = .ok (.aload_n 0, 1) := by decide +kernel
theorem dX1_add_57 : decode cX1_add 57 = .ok (.getfield 28, 3) := by decide +kernel
theorem dX1_add_60 : decode cX1_add 60 = .ok (.iload 6, 2) := by decide +kernel
theorem dX1_add_62 : decode cX1_add 62 = .ok (.iastore, 1) := by decide +kernel
theorem dX1_add_63 : decode cX1_add 63 = .ok (.aload_n 0, 1) := by decide +kernel
theorem dX1_add_64 : decode cX1_add 64 = .ok (.dup, 1) := by decide +kernel
theorem dX1_add_65 : decode cX1_add 65 = .ok (.getfield 28, 3) := by decide +kernel
theorem dX1_add_68 : decode cX1_add 68 = .ok (.iconst 1, 1) := by decide +kernel
theorem dX1_add_69 : decode cX1_add 69 = .ok (.iadd, 1) := by decide +kernel
theorem dX1_add_70 : decode cX1_add 70 = .ok (.putfield 28, 3) := by decide +kernel
theorem dX1_add_73 : decode cX1_add 73 = .ok (.return_, 1) := by decide +kernel
theorem dX1_drop_0 : decode cX1_drop 0 = .ok (.iload_n 1, 1) := by decide +kernel
theorem dX1_drop_1 : decode cX1_drop 1 = .ok (.ifCond .lt 11, 3) := by decide +kernel
theorem dX1_drop_4 : decode cX1_drop 4 = .ok (.iload_n 1, 1) := by decide +kernel
theorem dX1_drop_5 : decode cX1_drop 5 = .ok (.aload_n 0, 1) := by decide +kernel
theorem dX1_drop_6 : decode cX1_drop 6 = .ok (.getfield 28, 3) := by decide +kernel
theorem dX1_drop_9 : decode cX1_drop 9 = .ok (.if_icmp .lt 4, 3) := by decide +kernel
theorem dX1_drop_12 : decode cX1_drop 12 = .ok (.return_, 1) := by decide +kernel
theorem dX1_drop_13 : decode cX1_drop 13 = .ok (.aload_n 0, 1) := by decide +kernel
theorem dX1_drop_14 : decode cX1_drop 14 = .ok (.dup, 1) := by decide +kernel
theorem dX1_drop_15 : decode cX1_drop 15 = .ok (.getfield 28, 3) := by decide +kernel
theorem dX1_drop_18 : decode cX1_drop 18 = .ok (.iconst 1, 1) := by decide +kernel
theorem dX1_drop_19 : decode cX1_drop 19 = .ok (.isub, 1) := by decide +kernel
theorem dX1_drop_20 : decode cX1_drop 20 = .ok (.putfield 28, 3) := by decide +kernel
theorem dX1_drop_23 : decode cX1_drop 23 = .ok (.aload_n 0, 1) := by decide +kernel
theorem dX1_drop_24 : decode cX1_drop 24 = .ok (.getfield 9, 3) := by decide +kernel
theorem dX1_drop_27 : decode cX1_drop 27 = .ok (.iload_n 1, 1) := by decide +kernel
theorem dX1_drop_28 : decode cX1_drop 28 = .ok (.aload_n 0, 1) := by decide +kernel
theorem dX1_drop_29 : decode cX1_drop 29 = .ok (.getfield 9, 3) := by decide +kernel
theorem dX1_drop_32 : decode cX1_drop 32 = .ok (.aload_n 0, 1) := by decide +kernel
theorem dX1_drop_33 : decode cX1_drop 33 = .ok (.getfield 28, 3) := by decide +kernel
theorem dX1_drop_36 : decode cX1_drop 36 = .ok (.laload, 1) := by decide +kernel
theorem dX1_drop_37 : decode cX1_drop 37 = .ok (.lastore, 1) := by decide +kernel
theorem dX1_drop_38 : decode cX1_drop 38 = .ok (.aload_n 0, 1) := by decide +kernel
theorem dX1_drop_39 : decode cX1_drop 39 = .ok (.getfield 15, 3) := by decide +kernel
theorem dX1_drop_42 : decode cX1_drop 42 = .ok (.iload_n 1, 1) := by decide +kernel
theorem dX1_drop_43 : decode cX1_drop 43 = .ok (.aload_n 0, 1) := by decide +kernel
theorem dX1_drop_44 : decode cX1_drop 44 = .ok (.getfield 15, 3) := by decide +kernel
theorem dX1_drop_47 : decode cX1_drop 47 = .ok (.aload_n 0, 1) := by decide +kernel
theorem dX1_drop_48 : decode cX1_drop 48 = .ok (.getfield 28, 3) := by decide +kernel
theorem dX1_drop_51 : decode cX1_drop 51 = .ok (.iaload, 1) := by decide +kernel
theorem dX1_drop_52 : decode cX1_drop 52 = .ok (.iastore, 1) := by decide +kernel
theorem dX1_drop_53 : decode cX1_drop 53 = .ok (.aload_n 0, 1) := by decide +kernel
theorem dX1_drop_54 : decode cX1_drop 54 = .ok (.getfield 19, 3) := by decide +kernel
theorem dX1_drop_57 : decode cX1_drop 57 = .ok (.iload_n 1, 1) := by decide +kernel
theorem dX1_drop_58 : decode cX1_drop 58 = .ok (.aload_n 0, 1) := by decide +kernel
theorem dX1_drop_59 : decode cX1_drop 59 = .ok (.getfield 19, 3) := by decide +kernel
theorem dX1_drop_62 : decode cX1_drop 62 = .ok (.aload_n 0, 1) := by decide +kernel
theorem dX1_drop_63 : decode cX1_drop 63 = .ok (.getfield 28, 3) := by decide +kernel
theorem dX1_drop_66 : decode cX1_drop 66 = .ok (.iaload, 1) := by decide +kernel
theorem dX1_drop_67 : decode cX1_drop 67 = .ok (.iastore, 1) := by decide +kernel
theorem dX1_drop_68 : decode cX1_drop 68 = .ok (.aload_n 0, 1) := by decide +kernel
theorem dX1_drop_69 : decode cX1_drop 69 = .ok (.getfield 22, 3) := by decide +kernel
theorem dX1_drop_72 : decode cX1_drop 72 = .ok (.iload_n 1, 1) := by decide +kernel
theorem dX1_drop_73 : decode cX1_drop 73 = .ok (.aload_n 0, 1) := by decide +kernel
theorem dX1_drop_74 : decode cX1_drop 74 = .ok (.getfield 22, 3) := by decide +kernel
theorem dX1_drop_77 : decode cX1_drop 77 = .ok (.aload_n 0, 1) := by decide +kernel
theorem dX1_drop_78 : decode cX1_drop 78 = .ok (.getfield 28, 3) := by decide +kernel
theorem dX1_drop_81 : decode cX1_drop 81 = .ok (.iaload, 1) := by decide +kernel
theorem dX1_drop_82 : decode cX1_drop 82 = .ok (.iastore, 1) := by decide +kernel
theorem dX1_drop_83 : decode cX1_drop 83 = .ok (.aload_n 0, 1) := by decide +kernel
theorem dX1_drop_84 : decode cX1_drop 84 = .ok (.getfield 25, 3) := by decide +kernel
theorem dX1_drop_87 : decode cX1_drop 87 = .ok (.iload_n 1, 1) := by decide +kernel
theorem dX1_drop_88 : decode cX1_drop 88 = .ok (.aload_n 0, 1) := by decide +kernel
theorem dX1_drop_89 : decode cX1_drop 89 = .ok (.getfield 25, 3) := by decide +kernel
theorem dX1_drop_92 : decode cX1_drop 92 = .ok (.aload_n 0, 1) := by decide +kernel
theorem dX1_drop_93 : decode cX1_drop 93 = .ok (.getfield 28, 3) := by decide +kernel
theorem dX1_drop_96 : decode cX1_drop 96 = .ok (.iaload, 1) := by decide +kernel
theorem dX1_drop_97 : decode cX1_drop 97 = .ok (.iastore, 1) := by decide +kernel
theorem dX1_drop_98 : decode cX1_drop 98 = .ok (.return_, 1) := by decide +kernel
set_option maxRecDepth 20000 in
theorem ggX1_dropOld_X1_drop : GoodIn wsX1_dropOld wsX1_drop := goodIn_r _ [7, 1, 8, 9, 10, 11, 2, 12, 13, 14, 15, 16, 17] (by decide +kernel) (by decide +kernel)
set_option maxRecDepth 20000 in
theorem gX1_dropOld_X1_drop : GoodIn wsX1_dropOld (wsV RX1 32 RX1 yX1_drop wsX1_drop) := goodIn_app (goodIn_of _ (by decide +kernel)) ggX1_dropOld_X1_drop
theorem dX1_dropOld_0 : decode cX1_dropOld 0 = .ok (.aload_n 0, 1) := by decide +kernel
theorem dX1_dropOld_1 : decode cX1_dropOld 1 = .ok (.getfield 28, 3) := by decide +kernel
theorem dX1_dropOld_4 : decode cX1_dropOld 4 = .ok (.iconst 1, 1) := by decide +kernel
theorem dX1_dropOld_5 : decode cX1_dropOld 5 = .ok (.isub, 1) := by decide +kernel
theorem dX1_dropOld_6 : decode cX1_dropOld 6 = .ok (.istore_n 2, 1) := by decide +kernel
theorem dX1_dropOld_7 : decode cX1_dropOld 7 = .ok (.iload_n 2, 1) := by decide +kernel
theorem dX1_dropOld_8 : decode cX1_dropOld 8 = .ok (.ifCond .lt 27, 3) := by decide +kernel
theorem dX1_dropOld_11 : decode cX1_dropOld 11 = .ok (.iload_n 1, 1) := by decide +kernel
theorem dX1_dropOld_12 : decode cX1_dropOld 12 = .ok (.aload_n 0, 1) := by decide +kernel
theorem dX1_dropOld_13 : decode cX1_dropOld 13 = .ok (.getfield 25, 3) := by decide +kernel
theorem dX1_dropOld_16 : decode cX1_dropOld 16 = .ok (.iload_n 2, 1) := by decide +kernel
theorem dX1_dropOld_17 : decode cX1_dropOld 17 = .ok (.iaload, 1) := by decide +kernel
theorem dX1_dropOld_18 : decode cX1_dropOld 18 = .ok (.isub, 1) := by decide +kernel
theorem dX1_dropOld_19 : decode cX1_dropOld 19 = .ok (.bipush 60, 2) := by decide +kernel
theorem dX1_dropOld_21 : decode cX1_dropOld 21 = .ok (.if_icmp .lt 8, 3) := by decide +kernel
theorem dX1_dropOld_24 : decode cX1_dropOld 24 = .ok (.aload_n 0, 1) := by decide +kernel
theorem dX1_dropOld_25 : decode cX1_dropOld 25 = .ok (.iload_n 2, 1) := by decide +kernel
theorem dX1_dropOld_26 : decode cX1_dropOld 26 = .ok (.invokevirtual 32, 3) := by decide +kernel
theorem dX1_dropOld_29 : decode cX1_dropOld 29 = .ok (.iinc 2 (-1), 3) := by decide +kernel
theorem dX1_dropOld_32 : decode cX1_dropOld 32 = .ok (.goto (-25), 3) := by decide +kernel
theorem dX1_dropOld_35 : decode cX1_dropOld 35 = .ok (.return_, 1) := by decide +kernel
theorem dX2_init_0 : decode cX2_init 0 = .ok (.aload_n 0, 1) := by decide +kernel
theorem dX2_init_1 : decode cX2_init 1 = .ok (.invokespecial 1, 3) := by decide +kernel
theorem dX2_init_4 : decode cX2_init 4 = .ok (.aload_n 0, 1) := by decide +kernel
theorem dX2_init_5 : decode cX2_init 5 = .ok (.lconst 0, 1) := by decide +kernel
theorem dX2_init_6 : decode cX2_init 6 = .ok (.putfield 7, 3) := by decide +kernel
theorem dX2_init_9 : decode cX2_init 9 = .ok (.aload_n 0, 1) := by decide +kernel
theorem dX2_init_10 : decode cX2_init 10 = .ok (.lconst 0, 1) := by decide +kernel
theorem dX2_init_11 : decode cX2_init 11 = .ok (.putfield 13, 3) := by decide +kernel
theorem dX2_init_14 : decode cX2_init 14 = .ok (.aload_n 0, 1) := by decide +kernel
theorem dX2_init_15 : decode cX2_init 15 = .ok (.lconst 0, 1) := by decide +kernel
theorem dX2_init_16 : decode cX2_init 16 = .ok (.putfield 16, 3) := by decide +kernel
theorem dX2_init_19 : decode cX2_init 19 = .ok (.aload_n 0, 1) := by decide +kernel
theorem dX2_init_20 : decode cX2_init 20 = .ok (.lconst 0, 1) := by decide +kernel
theorem dX2_init_21 : decode cX2_init 21 = .ok (.putfield 19, 3) := by decide +kernel
theorem dX2_init_24 : decode cX2_init 24 = .ok (.aload_n 0, 1) := by decide +kernel
theorem dX2_init_25 : decode cX2_init 25 = .ok (.lconst 0, 1) := by decide +kernel
theorem dX2_init_26 : decode cX2_init 26 = .ok (.putfield 22, 3) := by decide +kernel
theorem dX2_init_29 : decode cX2_init 29 = .ok (.aload_n 0, 1) := by decide +kernel
theorem dX2_init_30 : decode cX2_init 30 = .ok (.lconst 0, 1) := by decide +kernel
theorem dX2_init_31 : decode cX2_init 31 = .ok (.putfield 25, 3) := by decide +kernel
theorem dX2_init_34 : decode cX2_init 34 = .ok (.return_, 1) := by decide +kernel
theorem dX2_useKey_0 : decode cX2_useKey 0 = .ok (.aload_n 0, 1) := by decide +kernel
theorem dX2_useKey_1 : decode cX2_useKey 1 = .ok (.lload_n 1, 1) := by decide +kernel
theorem dX2_useKey_2 : decode cX2_useKey 2 = .ok (.putfield 7, 3) := by decide +kernel
theorem dX2_useKey_5 : decode cX2_useKey 5 = .ok (.aload_n 0, 1) := by decide +kernel
theorem dX2_useKey_6 : decode cX2_useKey 6 = .ok (.lload_n 3, 1) := by decide +kernel
theorem dX2_useKey_7 : decode cX2_useKey 7 = .ok (.putfield 13, 3) := by decide +kernel
theorem dX2_useKey_10 : decode cX2_useKey 10 = .ok (.return_, 1) := by decide +kernel
set_option maxRecDepth 20000 in
theorem ggX2_digest_X2_absorb : GoodIn wsX2_digest wsX2_absorb := goodIn_r _ [17, 10, 3, 18, 19, 20, 16, 21, 6, 8, 22, 23, 24, 25, 26, 27, 28, 29, 30] (by decide +kernel) (by decide +kernel)
set_option maxRecDepth 20000 in
theorem gX2_digest_X2_absorb : GoodIn wsX2_digest (wsV RX2 36 RX2 yX2_absorb wsX2_absorb) := goodIn_app (goodIn_of _ (by decide +kernel)) ggX2_digest_X2_absorb
set_option maxRecDepth 20000 in
theorem ggX2_digest_X2_mix : GoodIn wsX2_digest wsX2_mix := goodIn_r _ [21, 3, 6, 8, 10, 22, 23, 16, 24, 25, 26, 27, 28, 29, 30] (by decide +kernel) (by decide +kernel)
set_option maxRecDepth 20000 in
theorem gX2_digest_X2_mix : GoodIn wsX2_digest (wsV RX2 44 RX2 yX2_mix wsX2_mix) := goodIn_app (goodIn_of _ (by decide +kernel)) ggX2_digest_X2_mix
theorem dX2_digest_0 : decode cX2_digest 0 = .ok (.aload_n 0, 1) := by decide +kernel
theorem dX2_digest_1 : decode cX2_digest 1 = .ok (.aload_n 0, 1) := by decide +kernel
theorem dX2_digest_2 : decode cX2_digest 2 = .ok (.getfield 7, 3) := by decide +kernel
theorem dX2_digest_5 : decode cX2_digest 5 = .ok (.ldc2_w 28, 3) := by decide +kernel
theorem dX2_digest_8 : decode cX2_digest 8 = .ok (.lxor, 1) := by decide +kernel
theorem dX2_digest_9 : decode cX2_digest 9 = .ok (.putfield 16, 3) := by decide +kernel
theorem dX2_digest_12 : decode cX2_digest 12 = .ok (.aload_n 0, 1) := by decide +kernel
theorem dX2_digest_13 : decode cX2_digest 13 = .ok (.aload_n 0, 1) := by decide +kernel
theorem dX2_digest_14 : decode cX2_digest 14 = .ok (.getfield 13, 3) := by decide +kernel
theorem dX2_digest_17 : decode cX2_digest 17 = .ok (.ldc2_w 30, 3) := by decide +kernel
theorem dX2_digest_20 : decode cX2_digest 20 = .ok (.lxor, 1) := by decide +kernel
theorem dX2_digest_21 : decode cX2_digest 21 = .ok (.putfield 19, 3) := by decide +kernel
theorem dX2_digest_24 : decode cX2_digest 24 = .ok (.aload_n 0, 1) := by decide +kernel
theorem dX2_digest_25 : decode cX2_digest 25 = .ok (.aload_n 0, 1) := by decide +kernel
theorem dX2_digest_26 : decode cX2_digest 26 = .ok (.getfield 7, 3) := by decide +kernel
theorem dX2_digest_29 : decode cX2_digest 29 = .ok (.ldc2_w 32, 3) := by decide +kernel
theorem dX2_digest_32 : decode cX2_digest 32 = .ok (.lxor, 1) := by decide +kernel
theorem dX2_digest_33 : decode cX2_digest 33 = .ok (.putfield 22, 3) := by decide +kernel
theorem dX2_digest_36 : decode cX2_digest 36 = .ok (.aload_n 0, 1) := by decide +kernel
theorem dX2_digest_37 : decode cX2_digest 37 = .ok (.aload_n 0, 1) := by decide +kernel
theorem dX2_digest_38 : decode cX2_digest 38 = .ok (.getfield 13, 3) := by decide +kernel
theorem dX2_digest_41 : decode cX2_digest 41 = .ok (.ldc2_w 34, 3) := by decide +kernel
theorem dX2_digest_44 : decode cX2_digest 44 = .ok (.lxor, 1) := by decide +kernel
theorem dX2_digest_45 : decode cX2_digest 45 = .ok (.putfield 25, 3) := by decide +kernel
theorem dX2_digest_48 : decode cX2_digest 48 = .ok (.aload_n 0, 1) := by decide +kernel
theorem dX2_digest_49 : decode cX2_digest 49 = .ok (.lload_n 1, 1) := by decide +kernel
theorem dX2_digest_50 : decode cX2_digest 50 = .ok (.invokevirtual 36, 3) := by decide +kernel
theorem dX2_digest_53 : decode cX2_digest 53 = .ok (.aload_n 0, 1) := by decide +kernel
theorem dX2_digest_54 : decode cX2_digest 54 = .ok (.lload_n 3, 1) := by decide +kernel
theorem dX2_digest_55 : decode cX2_digest 55 = .ok (.invokevirtual 36, 3) := by decide +kernel
theorem dX2_digest_58 : decode cX2_digest 58 = .ok (.aload_n 0, 1) := by decide +kernel
theorem dX2_digest_59 : decode cX2_digest 59 = .ok (.ldc2_w 40, 3) := by decide +kernel
theorem dX2_digest_62 : decode cX2_digest 62 = .ok (.invokevirtual 36, 3) := by decide +kernel
theorem dX2_digest_65 : decode cX2_digest 65 = .ok (.aload_n 0, 1) := by decide +kernel
theorem dX2_digest_66 : decode cX2_digest 66 = .ok (.dup, 1) := by decide +kernel
theorem dX2_digest_67 : decode cX2_digest 67 = .ok (.getfield 22, 3) := by decide +kernel
theorem dX2_digest_70 : decode cX2_digest 70 = .ok (.ldc2_w 42, 3) := by decide +kernel
theorem dX2_digest_73 : decode cX2_digest 73 = .ok (.lxor, 1) := by decide +kernel
theorem dX2_digest_74 : decode cX2_digest 74 = .ok (.putfield 22, 3) := by decide +kernel
theorem dX2_digest_77 : decode cX2_digest 77 = .ok (.aload_n 0, 1) := by decide +kernel
theorem dX2_digest_78 : decode cX2_digest 78 = .ok (.iconst 4, 1) := by decide +kernel
theorem dX2_digest_79 : decode cX2_digest 79 = .ok (.invokevirtual 44, 3) := by decide +kernel
theorem dX2_digest_82 : decode cX2_digest 82 = .ok (.aload_n 0, 1) := by decide +kernel
theorem dX2_digest_83 : decode cX2_digest 83 = .ok (.getfield 16, 3) := by decide +kernel
theorem dX2_digest_86 : decode cX2_digest 86 = .ok (.aload_n 0, 1) := by decide +kernel
theorem dX2_digest_87 : decode cX2_digest 87 = .ok (.getfield 19, 3) := by decide +kernel
theorem dX2_digest_90 : decode cX2_digest 90 = .ok (.lxor, 1) := by decide +kernel
theorem dX2_digest_91 : decode cX2_digest 91 = .ok (.aload_n 0, 1) := by decide +kernel
theorem dX2_digest_92 : decode cX2_digest 92 = .ok (.getfield 22, 3) := by decide +kernel
theorem dX2_digest_95 : decode cX2_digest 95 = .ok (.lxor, 1) := by decide +kernel
theorem dX2_digest_96 : decode cX2_digest 96 = .ok (.aload_n 0, 1) := by decide +kernel
theorem dX2_digest_97 : decode cX2_digest 97 = .ok (.getfield 25, 3) := by decide +kernel
theorem dX2_digest_100 : decode cX2_digest 100 = .ok (.lxor, 1) := by decide +kernel
theorem dX2_digest_101 : decode cX2_digest 101 = .ok (.lreturn, 1) := by decide +kernel
set_option maxRecDepth 20000 in
theorem ggX2_absorb_X2_mix : GoodIn wsX2_absorb wsX2_mix := goodIn_r _ [7, 2, 8, 9, 1, 10, 11, 6, 12, 13, 14, 15, 16, 17, 18] (by decide +kernel) (by decide +kernel)
set_option maxRecDepth 20000 in
theorem gX2_absorb_X2_mix : GoodIn wsX2_absorb (wsV RX2 44 RX2 yX2_mix wsX2_mix) := goodIn_app (goodIn_of _ (by decide +kernel)) ggX2_absorb_X2_mix
theorem dX2_absorb_0 : decode cX2_absorb 0 = .ok (.aload_n 0, 1) := by decide +kernel
theorem dX2_absorb_1 : decode cX2_absorb 1 = .ok (.dup, 1) := by decide +kernel
theorem dX2_absorb_2 : decode cX2_absorb 2 = .ok (.getfield 25, 3) := by decide +kernel
theorem dX2_absorb_5 : decode cX2_absorb 5 = .ok (.lload_n 1, 1) := by decide +kernel
theorem dX2_absorb_6 : decode cX2_absorb 6 = .ok (.lxor, 1) := by decide +kernel
theorem dX2_absorb_7 : decode cX2_absorb 7 = .ok (.putfield 25, 3) := by decide +kernel
theorem dX2_absorb_10 : decode cX2_absorb 10 = .ok (.aload_n 0, 1) := by decide +kernel
theorem dX2_absorb_11 : decode cX2_absorb 11 = .ok (.iconst 2, 1) := by decide +kernel
theorem dX2_absorb_12 : decode cX2_absorb 12 = .ok (.invokevirtual 44, 3) := by decide +kernel
theorem dX2_absorb_15 : decode cX2_absorb 15 = .ok (.aload_n 0, 1) := by decide +kernel
theorem dX2_absorb_16 : decode cX2_absorb 16 = .ok (.dup, 1) := by decide +kernel
theorem dX2_absorb_17 : decode cX2_absorb 17 = .ok (.getfield 16, 3) := by decide +kernel
theorem dX2_absorb_20 : decode cX2_absorb 20 = .ok (.lload_n 1, 1) := by decide +kernel
theorem dX2_absorb_21 : decode cX2_absorb 21 = .ok (.lxor, 1) := by decide +kernel
theorem dX2_absorb_22 : decode cX2_absorb 22 = .ok (.putfield 16, 3) := by decide +kernel
theorem dX2_absorb_25 : decode cX2_absorb 25 = .ok (.return_, 1) := by decide +kernel
set_option maxRecDepth 20000 in
theorem ggX2_mix_X2_turnLeft : GoodIn wsX2_mix wsX2_turnLeft := goodIn_r _ [8] (by decide +kernel) (by decide +kernel)
set_option maxRecDepth 20000 in
theorem gX2_mix_X2_turnLeft : GoodIn wsX2_mix (va_wsS RX2 48 yX2_turnLeft wsX2_turnLeft) := goodIn_app (goodIn_of _ (by decide +kernel)) ggX2_mix_X2_turnLeft
theorem dX2_mix_0 : decode cX2_mix 0 = .ok (.iconst 0, 1) := by decide +kernel
theorem dX2_mix_1 : decode cX2_mix 1 = .ok (.istore_n 2, 1) := by decide +kernel
theorem dX2_mix_2 : decode cX2_mix 2 = .ok (.iload_n 2, 1) := by decide +kernel
theorem dX2_mix_3 : decode cX2_mix 3 = .ok (.iload_n 1, 1) := by decide +kernel
theorem dX2_mix_4 : decode cX2_mix 4 = .ok (.if_icmp .ge 159, 3) := by decide +kernel
theorem dX2_mix_7 : decode cX2_mix 7 = .ok (.aload_n 0, 1) := by decide +kernel
theorem dX2_mix_8 : decode cX2_mix 8 = .ok (.dup, 1) := by decide +kernel
theorem dX2_mix_9 : decode cX2_mix 9 = .ok (.getfield 16, 3) := by decide +kernel
theorem dX2_mix_12 : decode cX2_mix 12 = .ok (.aload_n 0, 1) := by decide +kernel
theorem dX2_mix_13 : decode cX2_mix 13 = .ok (.getfield 19, 3) := by decide +kernel
theorem dX2_mix_16 : decode cX2_mix 16 = .ok (.ladd, 1) := by decide +kernel
theorem dX2_mix_17 : decode cX2_mix 17 = .ok (.putfield 16, 3) := by decide +kernel
theorem dX2_mix_20 : decode cX2_mix 20 = .ok (.aload_n 0, 1) := by decide +kernel
theorem dX2_mix_21 : decode cX2_mix 21 = .ok (.aload_n 0, 1) := by decide +kernel
theorem dX2_mix_22 : decode cX2_mix 22 = .ok (.getfield 19, 3) := by decide +kernel
theorem dX2_mix_25 : decode cX2_mix 25 = .ok (.bipush 13, 2) := by decide +kernel
theorem dX2_mix_27 : decode cX2_mix 27 = .ok (.invokestatic 48, 3) := by decide +kernel
theorem dX2_mix_30 : decode cX2_mix 30 = .ok (.aload_n 0, 1) := by decide +kernel
theorem dX2_mix_31 : decode cX2_mix 31 = .ok (.getfield 16, 3) := by decide +kernel
theorem dX2_mix_34 : decode cX2_mix 34 = .ok (.lxor, 1) := by decide +kernel
theorem dX2_mix_35 : decode cX2_mix 35 = .ok (.putfield 19, 3) := by decide +kernel
theorem dX2_mix_38 : decode cX2_mix 38 = .ok (.aload_n 0, 1) := by decide +kernel
theorem dX2_mix_39 : decode cX2_mix 39 = .ok (.aload_n 0, 1) := by decide +kernel
theorem dX2_mix_40 : decode cX2_mix 40 = .ok (.getfield 16, 3) := by decide +kernel
theorem dX2_mix_43 : decode cX2_mix 43 = .ok (.bipush 32, 2) := by decide +kernel
theorem dX2_mix_45 : decode cX2_mix 45 = .ok (.invokestatic 48, 3) := by decide +kernel
theorem dX2_mix_48 : decode cX2_mix 48 = .ok (.putfield 16, 3) := by decide +kernel
theorem dX2_mix_51 : decode cX2_mix 51 = .ok (.aload_n 0, 1) := by decide +kernel
theorem dX2_mix_52 : decode cX2_mix 52 = .ok (.dup, 1) := by decide +kernel
theorem dX2_mix_53 : decode cX2_mix 53 = .ok (.getfield 22, 3) := by decide +kernel
theorem dX2_mix_56 : decode cX2_mix 56 = .ok (.aload_n 0, 1) := by decide +kernel
theorem dX2_mix_57 : decode cX2_mix 57 = .ok (.getfield 25, 3) := by decide +kernel
theorem dX2_mix_60 : decode cX2_mix 60 = .ok (.ladd, 1) := by decide +kernel
theorem dX2_mix_61 : decode cX2_mix 61 = .ok (.putfield 22, 3) := by decide +kernel
theorem dX2_mix_64 : decode cX2_mix 64 = .ok (.aload_n 0, 1) := by decide +kernel
theorem dX2_mix_65 : decode cX2_mix 65 = .ok (.aload_n 0, 1) := by decide +kernel
theorem dX2_mix_66 : decode cX2_mix 66 = .ok (.getfield 25, 3) := by decide +kernel
theorem dX2_mix_69 : decode cX2_mix 69 = .ok (.bipush 16, 2) := by decide +kernel
theorem dX2_mix_71 : decode cX2_mix 71 = .ok (.invokestatic 48, 3) := by decide +kernel
theorem dX2_mix_74 : decode cX2_mix 74 = .ok (.aload_n 0, 1) := by decide +kernel
theorem dX2_mix_75 : decode cX2_mix 75 = .ok (.getfield 22, 3) := by decide +kernel
theorem dX2_mix_78 : decode cX2_mix 78 = .ok (.lxor, 1) := by decide +kernel
theorem dX2_mix_79 : decode cX2_mix 79 = .ok (.putfield 25, 3) := by decide +kernel
theorem dX2_mix_82 : decode cX2_mix 82 = .ok (.aload_n 0, 1) := by decide +kernel
theorem dX2_mix_83 : decode cX2_mix 83 = .ok (.dup, 1) := by decide +kernel
theorem dX2_mix_84 : decode cX2_mix 84 = .ok (.getfield 16, 3) := by decide +kernel
theorem dX2_mix_87 : decode cX2_mix 87 = .ok (.aload_n 0, 1) := by decide +kernel
theorem dX2_mix_88 : decode cX2_mix 88 = .ok (.getfield 25, 3) := by decide +kernel
theorem dX2_mix_91 : decode cX2_mix 91 = .ok (.ladd, 1) := by decide +kernel
theorem dX2_mix_92 : decode cX2_mix 92 = .ok (.putfield 16, 3) := by decide +kernel
theorem dX2_mix_95 : decode cX2_mix 95 = .ok (.aload_n 0, 1) := by decide +kernel
theorem dX2_mix_96 : decode cX2_mix 96 = .ok (.aload_n 0, 1) := by decide +kernel
theorem dX2_mix_97 : decode cX2_mix 97 = .ok (.getfield 25, 3) := by decide +kernel
theorem dX2_mix_100 : decode cX2_mix 100 = .ok (.bipush 21, 2) := by decide +kernel
theorem dX2_mix_102 : decode cX2_mix 102 = .ok (.invokestatic 48, 3) := by decide +kernel
theorem dX2_mix_105 : decode cX2_mix 105 = .ok (.aload_n 0, 1) := by decide +kernel
theorem dX2_mix_106 : decode cX2_mix 106 = .ok (.getfield 16, 3) := by decide +kernel
theorem dX2_mix_109 : decode cX2_mix 109 = .ok (.lxor, 1) := by decide +kernel
theorem dX2_mix_110 : decode cX2_mix 110 = .ok (.putfield 25, 3) := by decide +kernel
theorem dX2_mix_113 : decode cX2_mix 113 = .ok (.aload_n 0, 1) := by decide +kernel
theorem dX2_mix_114 : decode cX2_mix 114 = .ok (.dup, 1) := by decide +kernel
theorem dX2_mix_115 : decode cX2_mix 115 = .ok (.getfield 22, 3) := by decide +kernel
theorem dX2_mix_118 : decode cX2_mix 118 = .ok (.aload_n 0, 1) := by decide +kernel
theorem dX2_mix_119 : decode cX2_mix 119 = .ok (.getfield 19, 3) := by decide +kernel
theorem dX2_mix_122 : decode cX2_mix 122 = .ok (.ladd, 1) := by decide +kernel
theorem dX2_mix_123 : decode cX2_mix 123 = .ok (.putfield 22, 3) := by decide +kernel
theorem dX2_mix_126 : decode cX2_mix 126 = .ok (.aload_n 0, 1) := by decide +kernel
theorem dX2_mix_127 : decode cX2_mix 127 = .ok (.aload_n 0, 1) := by decide +kernel
theorem dX2_mix_128 : decode cX2_mix 128 = .ok (.getfield 19, 3) := by decide +kernel
theorem dX2_mix_131 : decode cX2_mix 131 = .ok (.bipush 17, 2) := by decide +kernel
theorem dX2_mix_133 : decode cX2_mix 133 = .ok (.invokestatic 48, 3) := by decide +kernel
theorem dX2_mix_136 : decode cX2_mix 136 = .ok (.aload_n 0, 1) := by decide +kernel
theorem dX2_mix_137 : decode cX2_mix 137 = .ok (.getfield 22, 3) := by decide +kernel
theorem dX2_mix_140 : decode cX2_mix 140 = .ok (.lxor, 1) := by decide +kernel
theorem dX2_mix_141 : decode cX2_mix 141 = .ok (.putfield 19, 3) := by decide +kernel
theorem dX2_mix_144 : decode cX2_mix 144 = .ok (.aload_n 0, 1) := by decide +kernel
theorem dX2_mix_145 : decode cX2_mix 145 = .ok (.aload_n 0, 1) := by decide +kernel
theorem dX2_mix_146 : decode cX2_mix 146 = .ok (.getfield 22, 3) := by decide +kernel
theorem dX2_mix_149 : decode cX2_mix 149 = .ok (.bipush 32, 2) := by decide +kernel
theorem dX2_mix_151 : decode cX2_mix 151 = .ok (.invokestatic 48, 3) := by decide +kernel
theorem dX2_mix_154 : decode cX2_mix 154 = .ok (.putfield 22, 3) := by decide +kernel
theorem dX2_mix_157 : decode cX2_mix 157 = .ok (.iinc 2 1, 3) := by decide +kernel
theorem dX2_mix_160 : decode cX2_mix 160 = .ok (.goto (-158), 3) := by decide +kernel
theorem dX2_mix_163 : decode cX2_mix 163 = .ok (.return_, 1) := by decide +kernel
theorem dX2_turnLeft_0 : decode cX2_turnLeft 0 = .ok (.lload_n 0, 1) := by decide +kernel
theorem dX2_turnLeft_1 : decode cX2_turnLeft 1 = .ok (.iload_n 2, 1) := by decide +kernel
theorem dX2_turnLeft_2 : decode cX2_turnLeft 2 = .ok (.lshl, 1) := by decide +kernel
theorem dX2_turnLeft_3 : decode cX2_turnLeft 3 = .ok (.lload_n 0, 1) := by decide +kernel
theorem dX2_turnLeft_4 : decode cX2_turnLeft 4 = .ok (.bipush 64, 2) := by decide +kernel
theorem dX2_turnLeft_6 : decode cX2_turnLeft 6 = .ok (.iload_n 2, 1) := by decide +kernel
theorem dX2_turnLeft_7 : decode cX2_turnLeft 7 = .ok (.isub, 1) := by decide +kernel
theorem dX2_turnLeft_8 : decode cX2_turnLeft 8 = .ok (.lushr, 1) := by decide +kernel
theorem dX2_turnLeft_9 : decode cX2_turnLeft 9 = .ok (.lor, 1) := by decide +kernel
theorem dX2_turnLeft_10 : decode cX2_turnLeft 10 = .ok (.lreturn, 1) := by decide +kernel
set_option maxRecDepth 20000 in
theorem ggX3_init_X2_init : GoodIn wsX3_init wsX2_init := goodIn_r _ [25, 26, 2, 3, 27, 28, 29, 30, 31, 32, 51, 52, 53, 54, 55, 56] (by decide +kernel) (by decide +kernel)
set_option maxRecDepth 20000 in
theorem gX3_init_X2_init_n9 : GoodIn wsX3_init (wsX2_init) := ggX3_init_X2_init
set_option maxRecDepth 20000 in
theorem ggX3_init_X1_init : GoodIn wsX3_init wsX1_init := goodIn_r _ [34, 35, 2, 3, 36, 37, 38, 39, 40, 41, 42, 43, 68, 69, 70, 71, 72, 73] (by decide +kernel) (by decide +kernel)
set_option maxRecDepth 20000 in
theorem gX3_init_X1_init_n18 : GoodIn wsX3_init (wsX1_init) := ggX3_init_X1_init
set_option maxRecDepth 20000 in
theorem ggX3_init_X0_init : GoodIn wsX3_init wsX0_init := goodIn_r _ [45, 46, 2, 3, 36, 47, 38, 48, 49, 50, 74, 75, 76, 77] (by decide +kernel) (by decide +kernel)
set_option maxRecDepth 20000 in
theorem gX3_init_X0_init_n25 : GoodIn wsX3_init (wsX0_init) := ggX3_init_X0_init
theorem dX3_init_0 : decode cX3_init 0 = .ok (.aload_n 0, 1) := by decide +kernel
theorem dX3_init_1 : decode cX3_init 1 = .ok (.invokespecial 1, 3) := by decide +kernel
theorem dX3_init_4 : decode cX3_init 4 = .ok (.aload_n 0, 1) := by decide +kernel
theorem dX3_init_5 : decode cX3_init 5 = .ok (.new 7, 3) := by decide +kernel
theorem dX3_init_8 : decode cX3_init 8 = .ok (.dup, 1) := by decide +kernel
theorem dX3_init_9 : decode cX3_init 9 = .ok (.invokespecial 9, 3) := by decide +kernel
theorem dX3_init_12 : decode cX3_init 12 = .ok (.putfield 10, 3) := by decide +kernel
theorem dX3_init_15 : decode cX3_init 15 = .ok (.aload_n 0, 1) := by decide +kernel
theorem dX3_init_16 : decode cX3_init 16 = .ok (.new 16, 3) := by decide +kernel
theorem dX3_init_19 : decode cX3_init 19 = .ok (.dup, 1) := by decide +kernel
theorem dX3_init_20 : decode cX3_init 20 = .ok (.invokespecial 18, 3) := by decide +kernel
theorem dX3_init_23 : decode cX3_init 23 = .ok (.putfield 19, 3) := by decide +kernel
theorem dX3_init_26 : decode cX3_init 26 = .ok (.aload_n 0, 1) := by decide +kernel
theorem dX3_init_27 : decode cX3_init 27 = .ok (.new 23, 3) := by decide +kernel
theorem dX3_init_30 : decode cX3_init 30 = .ok (.dup, 1) := by decide +kernel
theorem dX3_init_31 : decode cX3_init 31 = .ok (.invokespecial 25, 3) := by decide +kernel
theorem dX3_init_34 : decode cX3_init 34 = .ok (.putfield 26, 3) := by decide +kernel
theorem dX3_init_37 : decode cX3_init 37 = .ok (.aload_n 0, 1) := by decide +kernel
theorem dX3_init_38 : decode cX3_init 38 = .ok (.iconst 4, 1) := by decide +kernel
theorem dX3_init_39 : decode cX3_init 39 = .ok (.putfield 30, 3) := by decide +kernel
theorem dX3_init_42 : decode cX3_init 42 = .ok (.aload_n 0, 1) := by decide +kernel
theorem dX3_init_43 : decode cX3_init 43 = .ok (.iconst 2, 1) := by decide +kernel
theorem dX3_init_44 : decode cX3_init 44 = .ok (.putfield 34, 3) := by decide +kernel
theorem dX3_init_47 : decode cX3_init 47 = .ok (.aload_n 0, 1) := by decide +kernel
theorem dX3_init_48 : decode cX3_init 48 = .ok (.iconst 0, 1) := by decide +kernel
theorem dX3_init_49 : decode cX3_init 49 = .ok (.putfield 37, 3) := by decide +kernel
theorem dX3_init_52 : decode cX3_init 52 = .ok (.aload_n 0, 1) := by decide +kernel
theorem dX3_init_53 : decode cX3_init 53 = .ok (.iconst 0, 1) := by decide +kernel
theorem dX3_init_54 : decode cX3_init 54 = .ok (.putfield 40, 3) := by decide +kernel
theorem dX3_init_57 : decode cX3_init 57 = .ok (.aload_n 0, 1) := by decide +kernel
theorem dX3_init_58 : decode cX3_init 58 = .ok (.iconst 0, 1) := by decide +kernel
theorem dX3_init_59 : decode cX3_init 59 = .ok (.putfield 43, 3) := by decide +kernel
theorem dX3_init_62 : decode cX3_init 62 = .ok (.aload_n 0, 1) := by decide +kernel
theorem dX3_init_63 : decode cX3_init 63 = .ok (.iconst 0, 1) := by decide +kernel
theorem dX3_init_64 : decode cX3_init 64 = .ok (.putfield 46, 3) := by decide +kernel
theorem dX3_init_67 : decode cX3_init 67 = .ok (.aload_n 0, 1) := by decide +kernel
theorem dX3_init_68 : decode cX3_init 68 = .ok (.iconst 0, 1) := by decide +kernel
theorem dX3_init_69 : decode cX3_init 69 = .ok (.putfield 49, 3) := by decide +kernel
theorem dX3_init_72 : decode cX3_init 72 = .ok (.aload_n 0, 1) := by decide +kernel
theorem dX3_init_73 : decode cX3_init 73 = .ok (.iconst 0, 1) := by decide +kernel
theorem dX3_init_74 : decode cX3_init 74 = .ok (.putfield 52, 3) := by decide +kernel
theorem dX3_init_77 : decode cX3_init 77 = .ok (.return_, 1) := by decide +kernel
set_option maxRecDepth 20000 in
theorem ggX3_rooms_X3_requireWithin : GoodIn wsX3_rooms wsX3_requireWithin := goodIn_ca (goodIn_r _ [6, 7, 8] (by decide +kernel) (by decide +kernel)) (goodIn_sub (fun _ h => List.mem_cons_of_mem _ (List.mem_append_right _ h)) (by decide +kernel))
set_option maxRecDepth 20000 in
theorem gX3_rooms_X3_requireWithin : GoodIn wsX3_rooms (va_wsS RX3 55 yX3_requireWithin wsX3_requireWithin) := goodIn_app (goodIn_of _ (by decide +kernel)) ggX3_rooms_X3_requireWithin
theorem dX3_rooms_0 : decode cX3_rooms 0 = .ok (.iload_n 1, 1) := by decide +kernel
theorem dX3_rooms_1 : decode cX3_rooms 1 = .ok (.iconst 0, 1) := by decide +kernel
theorem dX3_rooms_2 : decode cX3_rooms 2 = .ok (.bipush 32, 2) := by decide +kernel
theorem dX3_rooms_4 : decode cX3_rooms 4 = .ok (.invokestatic 55, 3) := by decide +kernel
theorem dX3_rooms_7 : decode cX3_rooms 7 = .ok (.iload_n 2, 1) := by decide +kernel
theorem dX3_rooms_8 : decode cX3_rooms 8 = .ok (.iconst 1, 1) := by decide +kernel
theorem dX3_rooms_9 : decode cX3_rooms 9 = .ok (.bipush 16, 2) := by decide +kernel
theorem dX3_rooms_11 : decode cX3_rooms 11 = .ok (.invokestatic 55, 3) := by decide +kernel
theorem dX3_rooms_14 : decode cX3_rooms 14 = .ok (.aload_n 0, 1) := by decide +kernel
theorem dX3_rooms_15 : decode cX3_rooms 15 = .ok (.iload_n 1, 1) := by decide +kernel
theorem dX3_rooms_16 : decode cX3_rooms 16 = .ok (.putfield 30, 3) := by decide +kernel
theorem dX3_rooms_19 : decode cX3_rooms 19 = .ok (.aload_n 0, 1) := by decide +kernel
theorem dX3_rooms_20 : decode cX3_rooms 20 = .ok (.iload_n 2, 1) := by decide +kernel
theorem dX3_rooms_21 : decode cX3_rooms 21 = .ok (.putfield 34, 3) := by decide +kernel
theorem dX3_rooms_24 : decode cX3_rooms 24 = .ok (.return_, 1) := by decide +kernel
set_option maxRecDepth 20000 in
theorem ggX3_key_X2_useKey : GoodIn wsX3_key wsX2_useKey := goodIn_r _ [6, 7, 8, 20, 21, 22, 23, 24, 25] (by decide +kernel) (by decide +kernel)
set_option maxRecDepth 20000 in
theorem gX3_key_X2_useKey : GoodIn wsX3_key (wsV RX3 59 RX2 yX2_useKey wsX2_useKey) := goodIn_app (goodIn_of _ (by decide +kernel)) ggX3_key_X2_useKey
theorem dX3_key_0 : decode cX3_key 0 = .ok (.aload_n 0, 1) := by decide +kernel
theorem dX3_key_1 : decode cX3_key 1 = .ok (.getfield 10, 3) := by decide +kernel
theorem dX3_key_4 : decode cX3_key 4 = .ok (.lload_n 1, 1) := by decide +kernel
theorem dX3_key_5 : decode cX3_key 5 = .ok (.lload_n 3, 1) := by decide +kernel
theorem dX3_key_6 : decode cX3_key 6 = .ok (.invokevirtual 59, 3) := by decide +kernel
theorem dX3_key_9 : decode cX3_key 9 = .ok (.return_, 1) := by decide +kernel
set_option maxRecDepth 20000 in
theorem ggX3_pass_X3_requireWithin : GoodIn wsX3_pass wsX3_requireWithin := goodIn_ca (goodIn_r _ [6, 7, 8] (by decide +kernel) (by decide +kernel)) (goodIn_sub (fun _ h => List.mem_cons_of_mem _ (List.mem_append_right _ h)) (by decide +kernel))
set_option maxRecDepth 20000 in
theorem gX3_pass_X3_requireWithin : GoodIn wsX3_pass (va_wsS RX3 55 yX3_requireWithin wsX3_requireWithin) := goodIn_app (goodIn_of _ (by decide +kernel)) ggX3_pass_X3_requireWithin
set_option maxRecDepth 20000 in
theorem ggX3_pass_X1_dropOld : GoodIn wsX3_pass wsX1_dropOld := goodIn_r _ [13, 14, 15, 16, 17, 18, 12, 19, 20, 21, 22, 23, 35, 36, 37, 38, 39, 40] (by decide +kernel) (by decide +kernel)
set_option maxRecDepth 20000 in
theorem gX3_pass_X1_dropOld : GoodIn wsX3_pass (wsV RX3 63 RX1 yX1_dropOld wsX1_dropOld) := goodIn_app (goodIn_of _ (by decide +kernel)) ggX3_pass_X1_dropOld
theorem dX3_pass_0 : decode cX3_pass 0 = .ok (.iload_n 1, 1) := by decide +kernel
theorem dX3_pass_1 : decode cX3_pass 1 = .ok (.iconst 0, 1) := by decide +kernel
theorem dX3_pass_2 : decode cX3_pass 2 = .ok (.sipush 10000, 3) := by decide +kernel
theorem dX3_pass_5 : decode cX3_pass 5 = .ok (.invokestatic 55, 3) := by decide +kernel
theorem dX3_pass_8 : decode cX3_pass 8 = .ok (.aload_n 0, 1) := by decide +kernel
theorem dX3_pass_9 : decode cX3_pass 9 = .ok (.dup, 1) := by decide +kernel
theorem dX3_pass_10 : decode cX3_pass 10 = .ok (.getfield 37, 3) := by decide +kernel
theorem dX3_pass_13 : decode cX3_pass 13 = .ok (.iload_n 1, 1) := by decide +kernel
theorem dX3_pass_14 : decode cX3_pass 14 = .ok (.iadd, 1) := by decide +kernel
theorem dX3_pass_15 : decode cX3_pass 15 = .ok (.putfield 37, 3) := by decide +kernel
theorem dX3_pass_18 : decode cX3_pass 18 = .ok (.aload_n 0, 1) := by decide +kernel
theorem dX3_pass_19 : decode cX3_pass 19 = .ok (.getfield 19, 3) := by decide +kernel
theorem dX3_pass_22 : decode cX3_pass 22 = .ok (.aload_n 0, 1) := by decide +kernel
theorem dX3_pass_23 : decode cX3_pass 23 = .ok (.getfield 37, 3) := by decide +kernel
theorem dX3_pass_26 : decode cX3_pass 26 = .ok (.invokevirtual 63, 3) := by decide +kernel
theorem dX3_pass_29 : decode cX3_pass 29 = .ok (.aload_n 0, 1) := by decide +kernel
theorem dX3_pass_30 : decode cX3_pass 30 = .ok (.getfield 37, 3) := by decide +kernel
theorem dX3_pass_33 : decode cX3_pass 33 = .ok (.ireturn, 1) := by decide +kernel
set_option maxRecDepth 20000 in
theorem ggX3_syn_X3_requireWithin : GoodIn wsX3_syn wsX3_requireWithin := goodIn_ca (goodIn_r _ [8, 9, 10] (by decide +kernel) (by decide +kernel)) (goodIn_sub (fun _ h => List.mem_cons_of_mem _ (List.mem_append_right _ h)) (by decide +kernel))
set_option maxRecDepth 20000 in
theorem gX3_syn_X3_requireWithin : GoodIn wsX3_syn (va_wsS RX3 55 yX3_requireWithin wsX3_requireWithin) := goodIn_app (goodIn_of _ (by decide +kernel)) ggX3_syn_X3_requireWithin
set_option maxRecDepth 20000 in
theorem ggX3_syn_X3_callerOf : GoodIn wsX3_syn wsX3_callerOf := goodIn_r _ [13] (by decide +kernel) (by decide +kernel)
set_option maxRecDepth 20000 in
theorem gX3_syn_X3_callerOf : GoodIn wsX3_syn (va_wsS RX3 68 yX3_callerOf wsX3_callerOf) := goodIn_app (goodIn_of _ (by decide +kernel)) ggX3_syn_X3_callerOf
set_option maxRecDepth 20000 in
theorem ggX3_syn_X0_find : GoodIn wsX3_syn wsX0_find := goodIn_r _ [18, 19, 20, 116, 117, 118, 119] (by decide +kernel) (by decide +kernel)
set_option maxRecDepth 20000 in
theorem gX3_syn_X0_find : GoodIn wsX3_syn (wsV RX3 72 RX0 yX0_find wsX0_find) := goodIn_app (goodIn_of _ (by decide +kernel)) ggX3_syn_X0_find
set_option maxRecDepth 20000 in
theorem ggX3_syn_X1_find : GoodIn wsX3_syn wsX1_find := goodIn_r _ [25, 26, 27, 110, 111, 112, 113, 114, 115] (by decide +kernel) (by decide +kernel)
set_option maxRecDepth 20000 in
theorem gX3_syn_X1_find : GoodIn wsX3_syn (wsV RX3 78 RX1 yX1_find wsX1_find) := goodIn_app (goodIn_of _ (by decide +kernel)) ggX3_syn_X1_find
set_option maxRecDepth 20000 in
theorem ggX3_syn_X3_withoutSign : GoodIn wsX3_syn wsX3_withoutSign := goodIn_r _ [30, 31] (by decide +kernel) (by decide +kernel)
set_option maxRecDepth 20000 in
theorem gX3_syn_X3_withoutSign : GoodIn wsX3_syn (va_wsS RX3 86 yX3_withoutSign wsX3_withoutSign) := goodIn_app (goodIn_of _ (by decide +kernel)) ggX3_syn_X3_withoutSign
set_option maxRecDepth 20000 in
theorem ggX3_syn_X1_drop : GoodIn wsX3_syn wsX1_drop := goodIn_r _ [35, 26, 27, 36, 37, 38, 39, 110, 111, 112, 113, 114, 115] (by decide +kernel) (by decide +kernel)
set_option maxRecDepth 20000 in
theorem gX3_syn_X1_drop : GoodIn wsX3_syn (wsV RX3 90 RX1 yX1_drop wsX1_drop) := goodIn_app (goodIn_of _ (by decide +kernel)) ggX3_syn_X1_drop
set_option maxRecDepth 20000 in
theorem ggX3_syn_X3_kindOf : GoodIn wsX3_syn wsX3_kindOf := goodIn_r _ [42, 43] (by decide +kernel) (by decide +kernel)
set_option maxRecDepth 20000 in
theorem gX3_syn_X3_kindOf : GoodIn wsX3_syn (va_wsS RX3 93 yX3_kindOf wsX3_kindOf) := goodIn_app (goodIn_of _ (by decide +kernel)) ggX3_syn_X3_kindOf
set_option maxRecDepth 20000 in
theorem ggX3_syn_X3_answerNewSyn : GoodIn wsX3_syn wsX3_answerNewSyn := goodIn_r _ [47, 4, 48, 49, 50, 51, 52, 53, 54, 55, 7, 56, 57, 58, 59, 60, 61, 62, 63, 28, 29, 30, 31, 64, 65, 66, 1, 67, 68, 69, 70, 71, 72, 73, 74, 75, 76, 77, 78, 79, 80, 81, 82, 83, 84, 85, 86, 87, 88, 89, 90, 91, 92, 93, 94, 95, 96, 97, 24, 98, 26, 27, 36, 37, 38, 39, 99, 100, 101, 102, 103, 104, 105, 106, 107, 108, 109, 110, 111, 112, 113, 114, 115, 120, 121, 122, 123, 124, 125] (by decide +kernel) (by decide +kernel)
set_option maxRecDepth 20000 in
theorem gX3_syn_X3_answerNewSyn : GoodIn wsX3_syn (wsV RX3 97 RX3 yX3_answerNewSyn wsX3_answerNewSyn) := goodIn_app (goodIn_of _ (by decide +kernel)) ggX3_syn_X3_answerNewSyn
theorem dX3_syn_0 : decode cX3_syn 0 = .ok (.iload_n 2, 1) := by decide +kernel
theorem dX3_syn_1 : decode cX3_syn 1 = .ok (.iconst 0, 1) := by decide +kernel
theorem dX3_syn_2 : decode cX3_syn 2 = .ok (.ldc 67, 2) := by decide +kernel
theorem dX3_syn_4 : decode cX3_syn 4 = .ok (.invokestatic 55, 3) := by decide +kernel
theorem dX3_syn_7 : decode cX3_syn 7 = .ok (.iload 4, 2) := by decide +kernel
theorem dX3_syn_9 : decode cX3_syn 9 = .ok (.iconst 0, 1) := by decide +kernel
theorem dX3_syn_10 : decode cX3_syn 10 = .ok (.ldc 67, 2) := by decide +kernel
theorem dX3_syn_12 : decode cX3_syn 12 = .ok (.invokestatic 55, 3) := by decide +kernel
theorem dX3_syn_15 : decode cX3_syn 15 = .ok (.iload_n 1, 1) := by decide +kernel
theorem dX3_syn_16 : decode cX3_syn 16 = .ok (.iload_n 2, 1) := by decide +kernel
theorem dX3_syn_17 : decode cX3_syn 17 = .ok (.invokestatic 68, 3) := by decide +kernel
theorem dX3_syn_20 : decode cX3_syn 20 = .ok (.lstore 5, 2) := by decide +kernel
theorem dX3_syn_22 : decode cX3_syn 22 = .ok (.aload_n 0, 1) := by decide +kernel
theorem dX3_syn_23 : decode cX3_syn 23 = .ok (.getfield 26, 3) := by decide +kernel
theorem dX3_syn_26 : decode cX3_syn 26 = .ok (.lload 5, 2) := by decide +kernel
theorem dX3_syn_28 : decode cX3_syn 28 = .ok (.invokevirtual 72, 3) := by decide +kernel
theorem dX3_syn_31 : decode cX3_syn 31 = .ok (.iconst (-1), 1) := by decide +kernel
theorem dX3_syn_32 : decode cX3_syn 32 = .ok (.if_icmp .eq 7, 3) := by decide +kernel
theorem dX3_syn_35 : decode cX3_syn 35 = .ok (.ldc2_w 76, 3) := by decide +kernel
theorem dX3_syn_38 : decode cX3_syn 38 = .ok (.lreturn, 1) := by decide +kernel
theorem dX3_syn_39 : decode cX3_syn 39 = .ok (.aload_n 0, 1) := by decide +kernel
theorem dX3_syn_40 : decode cX3_syn 40 = .ok (.getfield 19, 3) := by decide +kernel
theorem dX3_syn_43 : decode cX3_syn 43 = .ok (.lload 5, 2) := by decide +kernel
theorem dX3_syn_45 : decode cX3_syn 45 = .ok (.invokevirtual 78, 3) := by decide +kernel
theorem dX3_syn_48 : decode cX3_syn 48 = .ok (.istore 7, 2) := by decide +kernel
theorem dX3_syn_50 : decode cX3_syn 50 = .ok (.iload 7, 2) := by decide +kernel
theorem dX3_syn_52 : decode cX3_syn 52 = .ok (.iconst (-1), 1) := by decide +kernel
theorem dX3_syn_53 : decode cX3_syn 53 = .ok (.if_icmp .eq 31, 3) := by decide +kernel
theorem dX3_syn_56 : decode cX3_syn 56 = .ok (.aload_n 0, 1) := by decide +kernel
theorem dX3_syn_57 : decode cX3_syn 57 = .ok (.getfield 19, 3) := by decide +kernel
theorem dX3_syn_60 : decode cX3_syn 60 = .ok (.getfield 79, 3) := by decide +kernel
theorem dX3_syn_63 : decode cX3_syn 63 = .ok (.iload 7, 2) := by decide +kernel
theorem dX3_syn_65 : decode cX3_syn 65 = .ok (.iaload, 1) := by decide +kernel
theorem dX3_syn_66 : decode cX3_syn 66 = .ok (.iload_n 3, 1) := by decide +kernel
theorem dX3_syn_67 : decode cX3_syn 67 = .ok (.if_icmp .ne 17, 3) := by decide +kernel
theorem dX3_syn_70 : decode cX3_syn 70 = .ok (.aload_n 0, 1) := by decide +kernel
theorem dX3_syn_71 : decode cX3_syn 71 = .ok (.getfield 19, 3) := by decide +kernel
theorem dX3_syn_74 : decode cX3_syn 74 = .ok (.getfield 83, 3) := by decide +kernel
theorem dX3_syn_77 : decode cX3_syn 77 = .ok (.iload 7, 2) := by decide +kernel
theorem dX3_syn_79 : decode cX3_syn 79 = .ok (.iaload, 1) := by decide +kernel
theorem dX3_syn_80 : decode cX3_syn 80 = .ok (.invokestatic 86, 3) := by decide +kernel
theorem dX3_syn_83 : decode cX3_syn 83 = .ok (.lreturn, 1) := by decide +kernel
theorem dX3_syn_84 : decode cX3_syn 84 = .ok (.iload 7, 2) := by decide +kernel
theorem dX3_syn_86 : decode cX3_syn 86 = .ok (.iconst (-1), 1) := by decide +kernel
theorem dX3_syn_87 : decode cX3_syn 87 = .ok (.if_icmp .eq 12, 3) := by decide +kernel
theorem dX3_syn_90 : decode cX3_syn 90 = .ok (.aload_n 0, 1) := by decide +kernel
theorem dX3_syn_91 : decode cX3_syn 91 = .ok (.getfield 19, 3) := by decide +kernel
theorem dX3_syn_94 : decode cX3_syn 94 = .ok (.iload 7, 2) := by decide +kernel
theorem dX3_syn_96 : decode cX3_syn 96 = .ok (.invokevirtual 90, 3) := by decide +kernel
theorem dX3_syn_99 : decode cX3_syn 99 = .ok (.aload_n 0, 1) := by decide +kernel
theorem dX3_syn_100 : decode cX3_syn 100 = .ok (.lload 5, 2) := by decide +kernel
theorem dX3_syn_102 : decode cX3_syn 102 = .ok (.iload_n 3, 1) := by decide +kernel
theorem dX3_syn_103 : decode cX3_syn 103 = .ok (.iload 4, 2) := by decide +kernel
theorem dX3_syn_105 : decode cX3_syn 105 = .ok (.invokestatic 93, 3) := by decide +kernel
theorem dX3_syn_108 : decode cX3_syn 108 = .ok (.invokevirtual 97, 3) := by decide +kernel
theorem dX3_syn_111 : decode cX3_syn 111 = .ok (.invokestatic 86, 3) := by decide +kernel
theorem dX3_syn_114 : decode cX3_syn 114 = .ok (.lreturn, 1) := by decide +kernel
set_option maxRecDepth 20000 in
theorem ggX3_ack_X3_requireWithin : GoodIn wsX3_ack wsX3_requireWithin := goodIn_ca (goodIn_r _ [8, 9, 10] (by decide +kernel) (by decide +kernel)) (goodIn_sub (fun _ h => List.mem_cons_of_mem _ (List.mem_append_right _ h)) (by decide +kernel))
set_option maxRecDepth 20000 in
theorem gX3_ack_X3_requireWithin : GoodIn wsX3_ack (va_wsS RX3 55 yX3_requireWithin wsX3_requireWithin) := goodIn_app (goodIn_of _ (by decide +kernel)) ggX3_ack_X3_requireWithin
set_option maxRecDepth 20000 in
theorem ggX3_ack_X3_callerOf : GoodIn wsX3_ack wsX3_callerOf := goodIn_r _ [13] (by decide +kernel) (by decide +kernel)
set_option maxRecDepth 20000 in
theorem gX3_ack_X3_callerOf : GoodIn wsX3_ack (va_wsS RX3 68 yX3_callerOf wsX3_callerOf) := goodIn_app (goodIn_of _ (by decide +kernel)) ggX3_ack_X3_callerOf
set_option maxRecDepth 20000 in
theorem ggX3_ack_X0_find : GoodIn wsX3_ack wsX0_find := goodIn_r _ [18, 19, 20, 129, 130, 131, 132] (by decide +kernel) (by decide +kernel)
set_option maxRecDepth 20000 in
theorem gX3_ack_X0_find : GoodIn wsX3_ack (wsV RX3 72 RX0 yX0_find wsX0_find) := goodIn_app (goodIn_of _ (by decide +kernel)) ggX3_ack_X0_find
set_option maxRecDepth 20000 in
theorem ggX3_ack_X1_find : GoodIn wsX3_ack wsX1_find := goodIn_r _ [25, 26, 27, 133, 134, 135, 136, 137, 138] (by decide +kernel) (by decide +kernel)
set_option maxRecDepth 20000 in
theorem gX3_ack_X1_find : GoodIn wsX3_ack (wsV RX3 78 RX1 yX1_find wsX1_find) := goodIn_app (goodIn_of _ (by decide +kernel)) ggX3_ack_X1_find
set_option maxRecDepth 20000 in
theorem ggX3_ack_X3_ackOfHalf : GoodIn wsX3_ack wsX3_ackOfHalf := goodIn_r _ [31, 3, 2, 32, 33, 34, 35, 36, 17, 37, 19, 38, 39, 40, 41, 42, 43, 44, 45, 46, 20, 47, 48, 49, 50, 24, 51, 26, 27, 52, 53, 54, 55, 118, 119, 120, 121, 122, 123, 124, 125, 126, 127, 128, 133, 134, 135, 136, 137, 138, 129, 130, 131, 132] (by decide +kernel) (by decide +kernel)
set_option maxRecDepth 20000 in
theorem gX3_ack_X3_ackOfHalf : GoodIn wsX3_ack (wsV RX3 101 RX3 yX3_ackOfHalf wsX3_ackOfHalf) := goodIn_app (goodIn_of _ (by decide +kernel)) ggX3_ack_X3_ackOfHalf
set_option maxRecDepth 20000 in
theorem ggX3_ack_X3_ackWithoutHalf : GoodIn wsX3_ack wsX3_ackWithoutHalf := goodIn_r _ [59, 2, 32, 60, 61, 62, 63, 7, 64, 65, 66, 67, 68, 69, 70, 71, 72, 73, 74, 75, 76, 77, 78, 79, 80, 81, 82, 83, 84, 85, 86, 87, 88, 89, 1, 90, 91, 92, 93, 94, 95, 96, 97, 98, 99, 100, 101, 102, 103, 104, 105, 106, 107, 108, 109, 110, 111, 112, 113, 114, 115, 116, 117, 34, 35, 36, 17, 37, 19, 38, 39, 40, 41, 42, 43, 44, 45, 46, 20, 47, 118, 119, 120, 121, 122, 123, 124, 125, 126, 127, 128, 139, 140, 141, 142, 143, 144, 129, 130, 131, 132] (by decide +kernel) (by decide +kernel)
set_option maxRecDepth 20000 in
theorem gX3_ack_X3_ackWithoutHalf : GoodIn wsX3_ack (wsV RX3 105 RX3 yX3_ackWithoutHalf wsX3_ackWithoutHalf) := goodIn_app (goodIn_of _ (by decide +kernel)) ggX3_ack_X3_ackWithoutHalf
theorem dX3_ack_0 : decode cX3_ack 0 = .ok (.iload_n 2, 1) := by decide +kernel
theorem dX3_ack_1 : decode cX3_ack 1 = .ok (.iconst 0, 1) := by decide +kernel
theorem dX3_ack_2 : decode cX3_ack 2 = .ok (.ldc 67, 2) := by decide +kernel
theorem dX3_ack_4 : decode cX3_ack 4 = .ok (.invokestatic 55, 3) := by decide +kernel
theorem dX3_ack_7 : decode cX3_ack 7 = .ok (.iload_n 1, 1) := by decide +kernel
theorem dX3_ack_8 : decode cX3_ack 8 = .ok (.iload_n 2, 1) := by decide +kernel
theorem dX3_ack_9 : decode cX3_ack 9 = .ok (.invokestatic 68, 3) := by decide +kernel
theorem dX3_ack_12 : decode cX3_ack 12 = .ok (.lstore 5, 2) := by decide +kernel
theorem dX3_ack_14 : decode cX3_ack 14 = .ok (.aload_n 0, 1) := by decide +kernel
theorem dX3_ack_15 : decode cX3_ack 15 = .ok (.getfield 26, 3) := by decide +kernel
theorem dX3_ack_18 : decode cX3_ack 18 = .ok (.lload 5, 2) := by decide +kernel
theorem dX3_ack_20 : decode cX3_ack 20 = .ok (.invokevirtual 72, 3) := by decide +kernel
theorem dX3_ack_23 : decode cX3_ack 23 = .ok (.iconst (-1), 1) := by decide +kernel
theorem dX3_ack_24 : decode cX3_ack 24 = .ok (.if_icmp .eq 5, 3) := by decide +kernel
theorem dX3_ack_27 : decode cX3_ack 27 = .ok (.iconst 1, 1) := by decide +kernel
theorem dX3_ack_28 : decode cX3_ack 28 = .ok (.ireturn, 1) := by decide +kernel
theorem dX3_ack_29 : decode cX3_ack 29 = .ok (.aload_n 0, 1) := by decide +kernel
theorem dX3_ack_30 : decode cX3_ack 30 = .ok (.getfield 19, 3) := by decide +kernel
theorem dX3_ack_33 : decode cX3_ack 33 = .ok (.lload 5, 2) := by decide +kernel
theorem dX3_ack_35 : decode cX3_ack 35 = .ok (.invokevirtual 78, 3) := by decide +kernel
theorem dX3_ack_38 : decode cX3_ack 38 = .ok (.istore 7, 2) := by decide +kernel
theorem dX3_ack_40 : decode cX3_ack 40 = .ok (.iload 7, 2) := by decide +kernel
theorem dX3_ack_42 : decode cX3_ack 42 = .ok (.iconst (-1), 1) := by decide +kernel
theorem dX3_ack_43 : decode cX3_ack 43 = .ok (.if_icmp .eq 17, 3) := by decide +kernel
theorem dX3_ack_46 : decode cX3_ack 46 = .ok (.aload_n 0, 1) := by decide +kernel
theorem dX3_ack_47 : decode cX3_ack 47 = .ok (.iload 7, 2) := by decide +kernel
theorem dX3_ack_49 : decode cX3_ack 49 = .ok (.iload_n 3, 1) := by decide +kernel
theorem dX3_ack_50 : decode cX3_ack 50 = .ok (.iconst 1, 1) := by decide +kernel
theorem dX3_ack_51 : decode cX3_ack 51 = .ok (.isub, 1) := by decide +kernel
theorem dX3_ack_52 : decode cX3_ack 52 = .ok (.iload 4, 2) := by decide +kernel
theorem dX3_ack_54 : decode cX3_ack 54 = .ok (.iconst 1, 1) := by decide +kernel
theorem dX3_ack_55 : decode cX3_ack 55 = .ok (.isub, 1) := by decide +kernel
theorem dX3_ack_56 : decode cX3_ack 56 = .ok (.invokevirtual 101, 3) := by decide +kernel
theorem dX3_ack_59 : decode cX3_ack 59 = .ok (.ireturn, 1) := by decide +kernel
theorem dX3_ack_60 : decode cX3_ack 60 = .ok (.aload_n 0, 1) := by decide +kernel
theorem dX3_ack_61 : decode cX3_ack 61 = .ok (.lload 5, 2) := by decide +kernel
theorem dX3_ack_63 : decode cX3_ack 63 = .ok (.iload_n 3, 1) := by decide +kernel
theorem dX3_ack_64 : decode cX3_ack 64 = .ok (.iconst 1, 1) := by decide +kernel
theorem dX3_ack_65 : decode cX3_ack 65 = .ok (.isub, 1) := by decide +kernel
theorem dX3_ack_66 : decode cX3_ack 66 = .ok (.iload 4, 2) := by decide +kernel
theorem dX3_ack_68 : decode cX3_ack 68 = .ok (.iconst 1, 1) := by decide +kernel
theorem dX3_ack_69 : decode cX3_ack 69 = .ok (.isub, 1) := by decide +kernel
theorem dX3_ack_70 : decode cX3_ack 70 = .ok (.invokevirtual 105, 3) := by decide +kernel
theorem dX3_ack_73 : decode cX3_ack 73 = .ok (.istore 8, 2) := by decide +kernel
theorem dX3_ack_75 : decode cX3_ack 75 = .ok (.iload 8, 2) := by decide +kernel
theorem dX3_ack_77 : decode cX3_ack 77 = .ok (.bipush 7, 2) := by decide +kernel
theorem dX3_ack_79 : decode cX3_ack 79 = .ok (.if_icmp .eq 10, 3) := by decide +kernel
theorem dX3_ack_82 : decode cX3_ack 82 = .ok (.iload 8, 2) := by decide +kernel
theorem dX3_ack_84 : decode cX3_ack 84 = .ok (.bipush 8, 2) := by decide +kernel
theorem dX3_ack_86 : decode cX3_ack 86 = .ok (.if_icmp .ne 13, 3) := by decide +kernel
theorem dX3_ack_89 : decode cX3_ack 89 = .ok (.aload_n 0, 1) := by decide +kernel
theorem dX3_ack_90 : decode cX3_ack 90 = .ok (.dup, 1) := by decide +kernel
theorem dX3_ack_91 : decode cX3_ack 91 = .ok (.getfield 52, 3) := by decide +kernel
theorem dX3_ack_94 : decode cX3_ack 94 = .ok (.iconst 1, 1) := by decide +kernel
theorem dX3_ack_95 : decode cX3_ack 95 = .ok (.iadd, 1) := by decide +kernel
theorem dX3_ack_96 : decode cX3_ack 96 = .ok (.putfield 52, 3) := by decide +kernel
theorem dX3_ack_99 : decode cX3_ack 99 = .ok (.iload 8, 2) := by decide +kernel
theorem dX3_ack_101 : decode cX3_ack 101 = .ok (.ireturn, 1) := by decide +kernel
set_option maxRecDepth 20000 in
theorem ggX3_take_X0_takeFirst : GoodIn wsX3_take wsX0_takeFirst := goodIn_r _ [6, 7, 8, 25, 26, 27, 28] (by decide +kernel) (by decide +kernel)
set_option maxRecDepth 20000 in
theorem gX3_take_X0_takeFirst : GoodIn wsX3_take (wsV RX3 108 RX0 yX0_takeFirst wsX0_takeFirst) := goodIn_app (goodIn_of _ (by decide +kernel)) ggX3_take_X0_takeFirst
set_option maxRecDepth 20000 in
theorem ggX3_take_X3_portOf : GoodIn wsX3_take wsX3_portOf := goodIn_r _ [12, 13] (by decide +kernel) (by decide +kernel)
set_option maxRecDepth 20000 in
theorem gX3_take_X3_portOf : GoodIn wsX3_take (va_wsS RX3 116 yX3_portOf wsX3_portOf) := goodIn_app (goodIn_of _ (by decide +kernel)) ggX3_take_X3_portOf
theorem dX3_take_0 : decode cX3_take 0 = .ok (.aload_n 0, 1) := by decide +kernel
theorem dX3_take_1 : decode cX3_take 1 = .ok (.getfield 26, 3) := by decide +kernel
theorem dX3_take_4 : decode cX3_take 4 = .ok (.invokevirtual 108, 3) := by decide +kernel
theorem dX3_take_7 : decode cX3_take 7 = .ok (.istore_n 1, 1) := by decide +kernel
theorem dX3_take_8 : decode cX3_take 8 = .ok (.iload_n 1, 1) := by decide +kernel
theorem dX3_take_9 : decode cX3_take 9 = .ok (.iconst (-1), 1) := by decide +kernel
theorem dX3_take_10 : decode cX3_take 10 = .ok (.if_icmp .ne 5, 3) := by decide +kernel
theorem dX3_take_13 : decode cX3_take 13 = .ok (.iconst (-1), 1) := by decide +kernel
theorem dX3_take_14 : decode cX3_take 14 = .ok (.ireturn, 1) := by decide +kernel
theorem dX3_take_15 : decode cX3_take 15 = .ok (.aload_n 0, 1) := by decide +kernel
theorem dX3_take_16 : decode cX3_take 16 = .ok (.getfield 26, 3) := by decide +kernel
theorem dX3_take_19 : decode cX3_take 19 = .ok (.getfield 112, 3) := by decide +kernel
theorem dX3_take_22 : decode cX3_take 22 = .ok (.iload_n 1, 1) := by decide +kernel
theorem dX3_take_23 : decode cX3_take 23 = .ok (.laload, 1) := by decide +kernel
theorem dX3_take_24 : decode cX3_take 24 = .ok (.invokestatic 116, 3) := by decide +kernel
theorem dX3_take_27 : decode cX3_take 27 = .ok (.aload_n 0, 1) := by decide +kernel
theorem dX3_take_28 : decode cX3_take 28 = .ok (.getfield 26, 3) := by decide +kernel
theorem dX3_take_31 : decode cX3_take 31 = .ok (.getfield 119, 3) := by decide +kernel
theorem dX3_take_34 : decode cX3_take 34 = .ok (.iload_n 1, 1) := by decide +kernel
theorem dX3_take_35 : decode cX3_take 35 = .ok (.iaload, 1) := by decide +kernel
theorem dX3_take_36 : decode cX3_take 36 = .ok (.bipush 16, 2) := by decide +kernel
theorem dX3_take_38 : decode cX3_take 38 = .ok (.ishl, 1) := by decide +kernel
theorem dX3_take_39 : decode cX3_take 39 = .ok (.iadd, 1) := by decide +kernel
theorem dX3_take_40 : decode cX3_take 40 = .ok (.ireturn, 1) := by decide +kernel
set_option maxRecDepth 20000 in
theorem ggX3_close_X3_requireWithin : GoodIn wsX3_close wsX3_requireWithin := goodIn_ca (goodIn_r _ [7, 8, 9] (by decide +kernel) (by decide +kernel)) (goodIn_sub (fun _ h => List.mem_cons_of_mem _ (List.mem_append_right _ h)) (by decide +kernel))
set_option maxRecDepth 20000 in
theorem gX3_close_X3_requireWithin : GoodIn wsX3_close (va_wsS RX3 55 yX3_requireWithin wsX3_requireWithin) := goodIn_app (goodIn_of _ (by decide +kernel)) ggX3_close_X3_requireWithin
set_option maxRecDepth 20000 in
theorem ggX3_close_X3_callerOf : GoodIn wsX3_close wsX3_callerOf := goodIn_r _ [12] (by decide +kernel) (by decide +kernel)
set_option maxRecDepth 20000 in
theorem gX3_close_X3_callerOf : GoodIn wsX3_close (va_wsS RX3 68 yX3_callerOf wsX3_callerOf) := goodIn_app (goodIn_of _ (by decide +kernel)) ggX3_close_X3_callerOf
set_option maxRecDepth 20000 in
theorem ggX3_close_X3_stateOf : GoodIn wsX3_close wsX3_stateOf := goodIn_r _ [16, 3, 2, 17, 18, 19, 20, 21, 22, 23, 24, 25, 26, 27, 28, 29, 30, 31, 32, 33, 34, 35, 50, 51, 52, 53, 54, 55, 56, 57, 58, 59, 60, 61, 62, 63, 64, 65, 66, 67, 68, 69, 70] (by decide +kernel) (by decide +kernel)
set_option maxRecDepth 20000 in
theorem gX3_close_X3_stateOf : GoodIn wsX3_close (wsV RX3 122 RX3 yX3_stateOf wsX3_stateOf) := goodIn_app (goodIn_of _ (by decide +kernel)) ggX3_close_X3_stateOf
set_option maxRecDepth 20000 in
theorem ggX3_close_X1_find : GoodIn wsX3_close wsX1_find := goodIn_r _ [33, 34, 35, 65, 66, 67, 68, 69, 70] (by decide +kernel) (by decide +kernel)
set_option maxRecDepth 20000 in
theorem gX3_close_X1_find : GoodIn wsX3_close (wsV RX3 78 RX1 yX1_find wsX1_find) := goodIn_app (goodIn_of _ (by decide +kernel)) ggX3_close_X1_find
set_option maxRecDepth 20000 in
theorem ggX3_close_X1_drop : GoodIn wsX3_close wsX1_drop := goodIn_r _ [39, 34, 35, 40, 41, 42, 43, 65, 66, 67, 68, 69, 70] (by decide +kernel) (by decide +kernel)
set_option maxRecDepth 20000 in
theorem gX3_close_X1_drop : GoodIn wsX3_close (wsV RX3 90 RX1 yX1_drop wsX1_drop) := goodIn_app (goodIn_of _ (by decide +kernel)) ggX3_close_X1_drop
set_option maxRecDepth 20000 in
theorem ggX3_close_X0_find : GoodIn wsX3_close wsX0_find := goodIn_r _ [21, 22, 23, 61, 62, 63, 64] (by decide +kernel) (by decide +kernel)
set_option maxRecDepth 20000 in
theorem gX3_close_X0_find : GoodIn wsX3_close (wsV RX3 72 RX0 yX0_find wsX0_find) := goodIn_app (goodIn_of _ (by decide +kernel)) ggX3_close_X0_find
set_option maxRecDepth 20000 in
theorem ggX3_close_X0_drop : GoodIn wsX3_close wsX0_drop := goodIn_r _ [47, 22, 28, 23, 48, 49, 25, 26, 20, 27, 61, 62, 63, 64] (by decide +kernel) (by decide +kernel)
set_option maxRecDepth 20000 in
theorem gX3_close_X0_drop : GoodIn wsX3_close (wsV RX3 125 RX0 yX0_drop wsX0_drop) := goodIn_app (goodIn_of _ (by decide +kernel)) ggX3_close_X0_drop
theorem dX3_close_0 : decode cX3_close 0 = .ok (.iload_n 2, 1) := by decide +kernel
theorem dX3_close_1 : decode cX3_close 1 = .ok (.iconst 0, 1) := by decide +kernel
theorem dX3_close_2 : decode cX3_close 2 = .ok (.ldc 67, 2) := by decide +kernel
theorem dX3_close_4 : decode cX3_close 4 = .ok (.invokestatic 55, 3) := by decide +kernel
theorem dX3_close_7 : decode cX3_close 7 = .ok (.iload_n 1, 1) := by decide +kernel
theorem dX3_close_8 : decode cX3_close 8 = .ok (.iload_n 2, 1) := by decide +kernel
theorem dX3_close_9 : decode cX3_close 9 = .ok (.invokestatic 68, 3) := by decide +kernel
theorem dX3_close_12 : decode cX3_close 12 = .ok (.lstore_n 3, 1) := by decide +kernel
theorem dX3_close_13 : decode cX3_close 13 = .ok (.aload_n 0, 1) := by decide +kernel
theorem dX3_close_14 : decode cX3_close 14 = .ok (.lload_n 3, 1) := by decide +kernel
theorem dX3_close_15 : decode cX3_close 15 = .ok (.invokevirtual 122, 3) := by decide +kernel
theorem dX3_close_18 : decode cX3_close 18 = .ok (.istore 5, 2) := by decide +kernel
theorem dX3_close_20 : decode cX3_close 20 = .ok (.iload 5, 2) := by decide +kernel
theorem dX3_close_22 : decode cX3_close 22 = .ok (.iconst 1, 1) := by decide +kernel
theorem dX3_close_23 : decode cX3_close 23 = .ok (.if_icmp .ne 21, 3) := by decide +kernel
theorem dX3_close_26 : decode cX3_close 26 = .ok (.aload_n 0, 1) := by decide +kernel
theorem dX3_close_27 : decode cX3_close 27 = .ok (.getfield 19, 3) := by decide +kernel
theorem dX3_close_30 : decode cX3_close 30 = .ok (.aload_n 0, 1) := by decide +kernel
theorem dX3_close_31 : decode cX3_close 31 = .ok (.getfield 19, 3) := by decide +kernel
theorem dX3_close_34 : decode cX3_close 34 = .ok (.lload_n 3, 1) := by decide +kernel
theorem dX3_close_35 : decode cX3_close 35 = .ok (.invokevirtual 78, 3) := by decide +kernel
theorem dX3_close_38 : decode cX3_close 38 = .ok (.invokevirtual 90, 3) := by decide +kernel
theorem dX3_close_41 : decode cX3_close 41 = .ok (.goto 23, 3) := by decide +kernel
theorem dX3_close_44 : decode cX3_close 44 = .ok (.iload 5, 2) := by decide +kernel
theorem dX3_close_46 : decode cX3_close 46 = .ok (.ifCond .eq 18, 3) := by decide +kernel
theorem dX3_close_49 : decode cX3_close 49 = .ok (.aload_n 0, 1) := by decide +kernel
theorem dX3_close_50 : decode cX3_close 50 = .ok (.getfield 26, 3) := by decide +kernel
theorem dX3_close_53 : decode cX3_close 53 = .ok (.aload_n 0, 1) := by decide +kernel
theorem dX3_close_54 : decode cX3_close 54 = .ok (.getfield 26, 3) := by decide +kernel
theorem dX3_close_57 : decode cX3_close 57 = .ok (.lload_n 3, 1) := by decide +kernel
theorem dX3_close_58 : decode cX3_close 58 = .ok (.invokevirtual 72, 3) := by decide +kernel
theorem dX3_close_61 : decode cX3_close 61 = .ok (.invokevirtual 125, 3) := by decide +kernel
theorem dX3_close_64 : decode cX3_close 64 = .ok (.iload 5, 2) := by decide +kernel
theorem dX3_close_66 : decode cX3_close 66 = .ok (.ireturn, 1) := by decide +kernel
set_option maxRecDepth 20000 in
theorem ggX3_state_X3_requireWithin : GoodIn wsX3_state wsX3_requireWithin := goodIn_ca (goodIn_r _ [5, 6, 7] (by decide +kernel) (by decide +kernel)) (goodIn_sub (fun _ h => List.mem_cons_of_mem _ (List.mem_append_right _ h)) (by decide +kernel))
set_option maxRecDepth 20000 in
theorem gX3_state_X3_requireWithin : GoodIn wsX3_state (va_wsS RX3 55 yX3_requireWithin wsX3_requireWithin) := goodIn_app (goodIn_of _ (by decide +kernel)) ggX3_state_X3_requireWithin
set_option maxRecDepth 20000 in
theorem ggX3_state_X3_callerOf : GoodIn wsX3_state wsX3_callerOf := goodIn_r _ [10] (by decide +kernel) (by decide +kernel)
set_option maxRecDepth 20000 in
theorem gX3_state_X3_callerOf : GoodIn wsX3_state (va_wsS RX3 68 yX3_callerOf wsX3_callerOf) := goodIn_app (goodIn_of _ (by decide +kernel)) ggX3_state_X3_callerOf
set_option maxRecDepth 20000 in
theorem ggX3_state_X3_stateOf : GoodIn wsX3_state wsX3_stateOf := goodIn_r _ [14, 15, 16, 17, 18, 19, 20, 21, 22, 23, 24, 25, 26, 27, 28, 29, 30, 31, 32, 33, 34, 35, 36, 37, 38, 39, 40, 41, 42, 43, 44, 45, 46, 47, 48, 49, 50, 51, 52, 53, 54, 55, 56] (by decide +kernel) (by decide +kernel)
set_option maxRecDepth 20000 in
theorem gX3_state_X3_stateOf : GoodIn wsX3_state (wsV RX3 122 RX3 yX3_stateOf wsX3_stateOf) := goodIn_app (goodIn_of _ (by decide +kernel)) ggX3_state_X3_stateOf
theorem dX3_state_0 : decode cX3_state 0 = .ok (.iload_n 2, 1) := by decide +kernel
theorem dX3_state_1 : decode cX3_state 1 = .ok (.iconst 0, 1) := by decide +kernel
theorem dX3_state_2 : decode cX3_state 2 = .ok (.ldc 67, 2) := by decide +kernel
theorem dX3_state_4 : decode cX3_state 4 = .ok (.invokestatic 55, 3) := by decide +kernel
theorem dX3_state_7 : decode cX3_state 7 = .ok (.aload_n 0, 1) := by decide +kernel
theorem dX3_state_8 : decode cX3_state 8 = .ok (.iload_n 1, 1) := by decide +kernel
theorem dX3_state_9 : decode cX3_state 9 = .ok (.iload_n 2, 1) := by decide +kernel
theorem dX3_state_10 : decode cX3_state 10 = .ok (.invokestatic 68, 3) := by decide +kernel
theorem dX3_state_13 : decode cX3_state 13 = .ok (.invokevirtual 122, 3) := by decide +kernel
theorem dX3_state_16 : decode cX3_state 16 = .ok (.ireturn, 1) := by decide +kernel
set_option maxRecDepth 20000 in
theorem ggX3_cookie_X3_requireWithin : GoodIn wsX3_cookie wsX3_requireWithin := goodIn_ca (goodIn_r _ [6, 7, 8] (by decide +kernel) (by decide +kernel)) (goodIn_sub (fun _ h => List.mem_cons_of_mem _ (List.mem_append_right _ h)) (by decide +kernel))
set_option maxRecDepth 20000 in
theorem gX3_cookie_X3_requireWithin : GoodIn wsX3_cookie (va_wsS RX3 55 yX3_requireWithin wsX3_requireWithin) := goodIn_app (goodIn_of _ (by decide +kernel)) ggX3_cookie_X3_requireWithin
set_option maxRecDepth 20000 in
theorem ggX3_cookie_X3_callerOf : GoodIn wsX3_cookie wsX3_callerOf := goodIn_r _ [11] (by decide +kernel) (by decide +kernel)
set_option maxRecDepth 20000 in
theorem gX3_cookie_X3_callerOf : GoodIn wsX3_cookie (va_wsS RX3 68 yX3_callerOf wsX3_callerOf) := goodIn_app (goodIn_of _ (by decide +kernel)) ggX3_cookie_X3_callerOf
set_option maxRecDepth 20000 in
theorem ggX3_cookie_X3_cookieOf : GoodIn wsX3_cookie wsX3_cookieOf := goodIn_r _ [15, 16, 17, 18, 19, 20, 5, 21, 22, 23, 24, 25, 1, 26, 27, 28, 29, 30, 31, 32, 33, 34, 35, 36, 37, 38, 39, 40, 41, 42, 43, 44, 45, 46, 47, 48, 49, 50, 51, 52, 53, 54, 55, 56, 57, 58, 59, 60, 61, 62, 63, 64, 65, 66, 67, 68, 69, 70] (by decide +kernel) (by decide +kernel)
set_option maxRecDepth 20000 in
theorem gX3_cookie_X3_cookieOf : GoodIn wsX3_cookie (wsV RX3 129 RX3 yX3_cookieOf wsX3_cookieOf) := goodIn_app (goodIn_of _ (by decide +kernel)) ggX3_cookie_X3_cookieOf
set_option maxRecDepth 20000 in
theorem ggX3_cookie_X3_withoutSign : GoodIn wsX3_cookie wsX3_withoutSign := goodIn_r _ [21, 22] (by decide +kernel) (by decide +kernel)
set_option maxRecDepth 20000 in
theorem gX3_cookie_X3_withoutSign : GoodIn wsX3_cookie (va_wsS RX3 86 yX3_withoutSign wsX3_withoutSign) := goodIn_app (goodIn_of _ (by decide +kernel)) ggX3_cookie_X3_withoutSign
theorem dX3_cookie_0 : decode cX3_cookie 0 = .ok (.iload_n 2, 1) := by decide +kernel
theorem dX3_cookie_1 : decode cX3_cookie 1 = .ok (.iconst 0, 1) := by decide +kernel
theorem dX3_cookie_2 : decode cX3_cookie 2 = .ok (.ldc 67, 2) := by decide +kernel
theorem dX3_cookie_4 : decode cX3_cookie 4 = .ok (.invokestatic 55, 3) := by decide +kernel
theorem dX3_cookie_7 : decode cX3_cookie 7 = .ok (.iload 4, 2) := by decide +kernel
theorem dX3_cookie_9 : decode cX3_cookie 9 = .ok (.iconst 0, 1) := by decide +kernel
theorem dX3_cookie_10 : decode cX3_cookie 10 = .ok (.bipush 7, 2) := by decide +kernel
theorem dX3_cookie_12 : decode cX3_cookie 12 = .ok (.invokestatic 55, 3) := by decide +kernel
theorem dX3_cookie_15 : decode cX3_cookie 15 = .ok (.iload 5, 2) := by decide +kernel
theorem dX3_cookie_17 : decode cX3_cookie 17 = .ok (.iconst 0, 1) := by decide +kernel
theorem dX3_cookie_18 : decode cX3_cookie 18 = .ok (.ldc 128, 2) := by decide +kernel
theorem dX3_cookie_20 : decode cX3_cookie 20 = .ok (.invokestatic 55, 3) := by decide +kernel
theorem dX3_cookie_23 : decode cX3_cookie 23 = .ok (.aload_n 0, 1) := by decide +kernel
theorem dX3_cookie_24 : decode cX3_cookie 24 = .ok (.iload_n 1, 1) := by decide +kernel
theorem dX3_cookie_25 : decode cX3_cookie 25 = .ok (.iload_n 2, 1) := by decide +kernel
theorem dX3_cookie_26 : decode cX3_cookie 26 = .ok (.invokestatic 68, 3) := by decide +kernel
theorem dX3_cookie_29 : decode cX3_cookie 29 = .ok (.iload_n 3, 1) := by decide +kernel
theorem dX3_cookie_30 : decode cX3_cookie 30 = .ok (.iload 4, 2) := by decide +kernel
theorem dX3_cookie_32 : decode cX3_cookie 32 = .ok (.iload 5, 2) := by decide +kernel
theorem dX3_cookie_34 : decode cX3_cookie 34 = .ok (.invokevirtual 129, 3) := by decide +kernel
theorem dX3_cookie_37 : decode cX3_cookie 37 = .ok (.invokestatic 86, 3) := by decide +kernel
theorem dX3_cookie_40 : decode cX3_cookie 40 = .ok (.lreturn, 1) := by decide +kernel
set_option maxRecDepth 20000 in
theorem ggX3_hash_X2_digest : GoodIn wsX3_hash wsX2_digest := goodIn_r _ [6, 7, 8, 9, 10, 11, 12, 13, 14, 15, 16, 17, 18, 19, 20, 21, 5, 22, 23, 24, 25, 26, 27, 28, 29, 41, 42, 43, 44, 45, 46] (by decide +kernel) (by decide +kernel)
set_option maxRecDepth 20000 in
theorem gX3_hash_X2_digest : GoodIn wsX3_hash (wsV RX3 133 RX2 yX2_digest wsX2_digest) := goodIn_app (goodIn_of _ (by decide +kernel)) ggX3_hash_X2_digest
theorem dX3_hash_0 : decode cX3_hash 0 = .ok (.aload_n 0, 1) := by decide +kernel
theorem dX3_hash_1 : decode cX3_hash 1 = .ok (.getfield 10, 3) := by decide +kernel
theorem dX3_hash_4 : decode cX3_hash 4 = .ok (.lload_n 1, 1) := by decide +kernel
theorem dX3_hash_5 : decode cX3_hash 5 = .ok (.lload_n 3, 1) := by decide +kernel
theorem dX3_hash_6 : decode cX3_hash 6 = .ok (.invokevirtual 133, 3) := by decide +kernel
theorem dX3_hash_9 : decode cX3_hash 9 = .ok (.lreturn, 1) := by decide +kernel
set_option maxRecDepth 20000 in
theorem ggX3_told_X0_waiting : GoodIn wsX3_told wsX0_waiting := goodIn_r _ [14, 15, 16, 34, 35, 36, 37] (by decide +kernel) (by decide +kernel)
set_option maxRecDepth 20000 in
theorem gX3_told_X0_waiting : GoodIn wsX3_told (wsV RX3 140 RX0 yX0_waiting wsX0_waiting) := goodIn_app (goodIn_of _ (by decide +kernel)) ggX3_told_X0_waiting
theorem dX3_told_0 : decode cX3_told 0 = .ok (.iload_n 1, 1) := by decide +kernel
theorem dX3_told_1 : decode cX3_told 1 = .ok (.tableswitch 96 0 7 #[47, 55, 63, 71, 76, 81, 86, 91], 47) := by decide +kernel
theorem dX3_told_48 : decode cX3_told 48 = .ok (.aload_n 0, 1) := by decide +kernel
theorem dX3_told_49 : decode cX3_told 49 = .ok (.getfield 19, 3) := by decide +kernel
theorem dX3_told_52 : decode cX3_told 52 = .ok (.getfield 137, 3) := by decide +kernel
theorem dX3_told_55 : decode cX3_told 55 = .ok (.ireturn, 1) := by decide +kernel
theorem dX3_told_56 : decode cX3_told 56 = .ok (.aload_n 0, 1) := by decide +kernel
theorem dX3_told_57 : decode cX3_told 57 = .ok (.getfield 26, 3) := by decide +kernel
theorem dX3_told_60 : decode cX3_told 60 = .ok (.invokevirtual 140, 3) := by decide +kernel
theorem dX3_told_63 : decode cX3_told 63 = .ok (.ireturn, 1) := by decide +kernel
theorem dX3_told_64 : decode cX3_told 64 = .ok (.aload_n 0, 1) := by decide +kernel
theorem dX3_told_65 : decode cX3_told 65 = .ok (.getfield 26, 3) := by decide +kernel
theorem dX3_told_68 : decode cX3_told 68 = .ok (.getfield 143, 3) := by decide +kernel
theorem dX3_told_71 : decode cX3_told 71 = .ok (.ireturn, 1) := by decide +kernel
theorem dX3_told_72 : decode cX3_told 72 = .ok (.aload_n 0, 1) := by decide +kernel
theorem dX3_told_73 : decode cX3_told 73 = .ok (.getfield 43, 3) := by decide +kernel
theorem dX3_told_76 : decode cX3_told 76 = .ok (.ireturn, 1) := by decide +kernel
theorem dX3_told_77 : decode cX3_told 77 = .ok (.aload_n 0, 1) := by decide +kernel
theorem dX3_told_78 : decode cX3_told 78 = .ok (.getfield 46, 3) := by decide +kernel
theorem dX3_told_81 : decode cX3_told 81 = .ok (.ireturn, 1) := by decide +kernel
theorem dX3_told_82 : decode cX3_told 82 = .ok (.aload_n 0, 1) := by decide +kernel
theorem dX3_told_83 : decode cX3_told 83 = .ok (.getfield 49, 3) := by decide +kernel
theorem dX3_told_86 : decode cX3_told 86 = .ok (.ireturn, 1) := by decide +kernel
theorem dX3_told_87 : decode cX3_told 87 = .ok (.aload_n 0, 1) := by decide +kernel
theorem dX3_told_88 : decode cX3_told 88 = .ok (.getfield 52, 3) := by decide +kernel
theorem dX3_told_91 : decode cX3_told 91 = .ok (.ireturn, 1) := by decide +kernel
theorem dX3_told_92 : decode cX3_told 92 = .ok (.aload_n 0, 1) := by decide +kernel
theorem dX3_told_93 : decode cX3_told 93 = .ok (.getfield 37, 3) := by decide +kernel
theorem dX3_told_96 : decode cX3_told 96 = .ok (.ireturn, 1) := by decide +kernel
theorem dX3_told_97 : decode cX3_told 97 = .ok (.new 144, 3) := by decide +kernel
theorem dX3_told_100 : decode cX3_told 100 = .ok (.dup, 1) := by decide +kernel
theorem dX3_told_101 : decode cX3_told 101 = .ok (.ldc 146, 2) := by decide +kernel
theorem dX3_told_103 : decode cX3_told 103 = .ok (.invokespecial 148, 3) := by decide +kernel
theorem dX3_told_106 : decode cX3_told 106 = .ok (.athrow, 1) := by decide +kernel
theorem dX3_requireWithin_0 : decode cX3_requireWithin 0 = .ok (.iload_n 0, 1) := by decide +kernel
theorem dX3_requireWithin_1 : decode cX3_requireWithin 1 = .ok (.iload_n 1, 1) := by decide +kernel
theorem dX3_requireWithin_2 : decode cX3_requireWithin 2 = .ok (.if_icmp .lt 8, 3) := by decide +kernel
theorem dX3_requireWithin_5 : decode cX3_requireWithin 5 = .ok (.iload_n 0, 1) := by decide +kernel
theorem dX3_requireWithin_6 : decode cX3_requireWithin 6 = .ok (.iload_n 2, 1) := by decide +kernel
theorem dX3_requireWithin_7 : decode cX3_requireWithin 7 = .ok (.if_icmp .le 13, 3) := by decide +kernel
theorem dX3_requireWithin_10 : decode cX3_requireWithin 10 = .ok (.new 144, 3) := by decide +kernel
theorem dX3_requireWithin_13 : decode cX3_requireWithin 13 = .ok (.dup, 1) := by decide +kernel
theorem dX3_requireWithin_14 : decode cX3_requireWithin 14 = .ok (.ldc 151, 2) := by decide +kernel
theorem dX3_requireWithin_16 : decode cX3_requireWithin 16 = .ok (.invokespecial 148, 3) := by decide +kernel
theorem dX3_requireWithin_19 : decode cX3_requireWithin 19 = .ok (.athrow, 1) := by decide +kernel
theorem dX3_requireWithin_20 : decode cX3_requireWithin 20 = .ok (.return_, 1) := by decide +kernel
theorem dX3_callerOf_0 : decode cX3_callerOf 0 = .ok (.iload_n 0, 1) := by decide +kernel
theorem dX3_callerOf_1 : decode cX3_callerOf 1 = .ok (.i2l, 1) := by decide +kernel
theorem dX3_callerOf_2 : decode cX3_callerOf 2 = .ok (.bipush 32, 2) := by decide +kernel
theorem dX3_callerOf_4 : decode cX3_callerOf 4 = .ok (.lshl, 1) := by decide +kernel
theorem dX3_callerOf_5 : decode cX3_callerOf 5 = .ok (.iload_n 1, 1) := by decide +kernel
theorem dX3_callerOf_6 : decode cX3_callerOf 6 = .ok (.i2l, 1) := by decide +kernel
theorem dX3_callerOf_7 : decode cX3_callerOf 7 = .ok (.lor, 1) := by decide +kernel
theorem dX3_callerOf_8 : decode cX3_callerOf 8 = .ok (.lreturn, 1) := by decide +kernel
theorem dX3_portOf_0 : decode cX3_portOf 0 = .ok (.lload_n 0, 1) := by decide +kernel
theorem dX3_portOf_1 : decode cX3_portOf 1 = .ok (.l2i, 1) := by decide +kernel
theorem dX3_portOf_2 : decode cX3_portOf 2 = .ok (.ldc 67, 2) := by decide +kernel
theorem dX3_portOf_4 : decode cX3_portOf 4 = .ok (.iand, 1) := by decide +kernel
theorem dX3_portOf_5 : decode cX3_portOf 5 = .ok (.ireturn, 1) := by decide +kernel
theorem dX3_withoutSign_0 : decode cX3_withoutSign 0 = .ok (.iload_n 0, 1) := by decide +kernel
theorem dX3_withoutSign_1 : decode cX3_withoutSign 1 = .ok (.i2l, 1) := by decide +kernel
theorem dX3_withoutSign_2 : decode cX3_withoutSign 2 = .ok (.ldc2_w 153, 3) := by decide +kernel
theorem dX3_withoutSign_5 : decode cX3_withoutSign 5 = .ok (.land, 1) := by decide +kernel
theorem dX3_withoutSign_6 : decode cX3_withoutSign 6 = .ok (.lreturn, 1) := by decide +kernel
theorem dX3_kindOf_0 : decode cX3_kindOf 0 = .ok (.iconst 0, 1) := by decide +kernel
theorem dX3_kindOf_1 : decode cX3_kindOf 1 = .ok (.istore_n 1, 1) := by decide +kernel
theorem dX3_kindOf_2 : decode cX3_kindOf 2 = .ok (.iconst 0, 1) := by decide +kernel
theorem dX3_kindOf_3 : decode cX3_kindOf 3 = .ok (.istore_n 2, 1) := by decide +kernel
theorem dX3_kindOf_4 : decode cX3_kindOf 4 = .ok (.iload_n 2, 1) := by decide +kernel
theorem dX3_kindOf_5 : decode cX3_kindOf 5 = .ok (.getstatic 155, 3) := by decide +kernel
theorem dX3_kindOf_8 : decode cX3_kindOf 8 = .ok (.arraylength, 1) := by decide +kernel
theorem dX3_kindOf_9 : decode cX3_kindOf 9 = .ok (.if_icmp .ge 20, 3) := by decide +kernel
theorem dX3_kindOf_12 : decode cX3_kindOf 12 = .ok (.getstatic 155, 3) := by decide +kernel
theorem dX3_kindOf_15 : decode cX3_kindOf 15 = .ok (.iload_n 2, 1) := by decide +kernel
theorem dX3_kindOf_16 : decode cX3_kindOf 16 = .ok (.iaload, 1) := by decide +kernel
theorem dX3_kindOf_17 : decode cX3_kindOf 17 = .ok (.iload_n 0, 1) := by decide +kernel
theorem dX3_kindOf_18 : decode cX3_kindOf 18 = .ok (.if_icmp .gt 5, 3) := by decide +kernel
theorem dX3_kindOf_21 : decode cX3_kindOf 21 = .ok (.iload_n 2, 1) := by decide +kernel
theorem dX3_kindOf_22 : decode cX3_kindOf 22 = .ok (.istore_n 1, 1) := by decide +kernel
theorem dX3_kindOf_23 : decode cX3_kindOf 23 = .ok (.iinc 2 1, 3) := by decide +kernel
theorem dX3_kindOf_26 : decode cX3_kindOf 26 = .ok (.goto (-22), 3) := by decide +kernel
theorem dX3_kindOf_29 : decode cX3_kindOf 29 = .ok (.iload_n 1, 1) := by decide +kernel
theorem dX3_kindOf_30 : decode cX3_kindOf 30 = .ok (.ireturn, 1) := by decide +kernel
theorem dX3_slotNow_0 : decode cX3_slotNow 0 = .ok (.aload_n 0, 1) := by decide +kernel
theorem dX3_slotNow_1 : decode cX3_slotNow 1 = .ok (.getfield 37, 3) := by decide +kernel
theorem dX3_slotNow_4 : decode cX3_slotNow 4 = .ok (.bipush 64, 2) := by decide +kernel
theorem dX3_slotNow_6 : decode cX3_slotNow 6 = .ok (.idiv, 1) := by decide +kernel
theorem dX3_slotNow_7 : decode cX3_slotNow 7 = .ok (.ireturn, 1) := by decide +kernel
set_option maxRecDepth 20000 in
theorem ggX3_cookieOf_X3_withoutSign : GoodIn wsX3_cookieOf wsX3_withoutSign := goodIn_r _ [7, 8] (by decide +kernel) (by decide +kernel)
set_option maxRecDepth 20000 in
theorem gX3_cookieOf_X3_withoutSign : GoodIn wsX3_cookieOf (va_wsS RX3 86 yX3_withoutSign wsX3_withoutSign) := goodIn_app (goodIn_of _ (by decide +kernel)) ggX3_cookieOf_X3_withoutSign
set_option maxRecDepth 20000 in
theorem ggX3_cookieOf_X3_portOf : GoodIn wsX3_cookieOf wsX3_portOf := goodIn_r _ [11, 12] (by decide +kernel) (by decide +kernel)
set_option maxRecDepth 20000 in
theorem gX3_cookieOf_X3_portOf : GoodIn wsX3_cookieOf (va_wsS RX3 116 yX3_portOf wsX3_portOf) := goodIn_app (goodIn_of _ (by decide +kernel)) ggX3_cookieOf_X3_portOf
set_option maxRecDepth 20000 in
theorem ggX3_cookieOf_X2_digest : GoodIn wsX3_cookieOf wsX2_digest := goodIn_r _ [17, 18, 19, 20, 21, 22, 23, 24, 25, 26, 27, 28, 29, 30, 31, 32, 16, 33, 34, 35, 36, 37, 38, 39, 40, 52, 53, 54, 55, 56, 57] (by decide +kernel) (by decide +kernel)
set_option maxRecDepth 20000 in
theorem gX3_cookieOf_X2_digest : GoodIn wsX3_cookieOf (wsV RX3 133 RX2 yX2_digest wsX2_digest) := goodIn_app (goodIn_of _ (by decide +kernel)) ggX3_cookieOf_X2_digest
theorem dX3_cookieOf_0 : decode cX3_cookieOf 0 = .ok (.lload_n 1, 1) := by decide +kernel
theorem dX3_cookieOf_1 : decode cX3_cookieOf 1 = .ok (.ldc2_w 158, 3) := by decide +kernel
theorem dX3_cookieOf_4 : decode cX3_cookieOf 4 = .ok (.land, 1) := by decide +kernel
theorem dX3_cookieOf_5 : decode cX3_cookieOf 5 = .ok (.iload_n 3, 1) := by decide +kernel
theorem dX3_cookieOf_6 : decode cX3_cookieOf 6 = .ok (.invokestatic 86, 3) := by decide +kernel
theorem dX3_cookieOf_9 : decode cX3_cookieOf 9 = .ok (.lor, 1) := by decide +kernel
theorem dX3_cookieOf_10 : decode cX3_cookieOf 10 = .ok (.lstore 6, 2) := by decide +kernel
theorem dX3_cookieOf_12 : decode cX3_cookieOf 12 = .ok (.lload_n 1, 1) := by decide +kernel
theorem dX3_cookieOf_13 : decode cX3_cookieOf 13 = .ok (.invokestatic 116, 3) := by decide +kernel
theorem dX3_cookieOf_16 : decode cX3_cookieOf 16 = .ok (.i2l, 1) := by decide +kernel
theorem dX3_cookieOf_17 : decode cX3_cookieOf 17 = .ok (.iload 4, 2) := by decide +kernel
theorem dX3_cookieOf_19 : decode cX3_cookieOf 19 = .ok (.i2l, 1) := by decide +kernel
theorem dX3_cookieOf_20 : decode cX3_cookieOf 20 = .ok (.bipush 16, 2) := by decide +kernel
theorem dX3_cookieOf_22 : decode cX3_cookieOf 22 = .ok (.lshl, 1) := by decide +kernel
theorem dX3_cookieOf_23 : decode cX3_cookieOf 23 = .ok (.ladd, 1) := by decide +kernel
theorem dX3_cookieOf_24 : decode cX3_cookieOf 24 = .ok (.iload 5, 2) := by decide +kernel
theorem dX3_cookieOf_26 : decode cX3_cookieOf 26 = .ok (.i2l, 1) := by decide +kernel
theorem dX3_cookieOf_27 : decode cX3_cookieOf 27 = .ok (.bipush 20, 2) := by decide +kernel
theorem dX3_cookieOf_29 : decode cX3_cookieOf 29 = .ok (.lshl, 1) := by decide +kernel
theorem dX3_cookieOf_30 : decode cX3_cookieOf 30 = .ok (.ladd, 1) := by decide +kernel
theorem dX3_cookieOf_31 : decode cX3_cookieOf 31 = .ok (.lstore 8, 2) := by decide +kernel
theorem dX3_cookieOf_33 : decode cX3_cookieOf 33 = .ok (.aload_n 0, 1) := by decide +kernel
theorem dX3_cookieOf_34 : decode cX3_cookieOf 34 = .ok (.getfield 10, 3) := by decide +kernel
theorem dX3_cookieOf_37 : decode cX3_cookieOf 37 = .ok (.lload 6, 2) := by decide +kernel
theorem dX3_cookieOf_39 : decode cX3_cookieOf 39 = .ok (.lload 8, 2) := by decide +kernel
theorem dX3_cookieOf_41 : decode cX3_cookieOf 41 = .ok (.invokevirtual 133, 3) := by decide +kernel
theorem dX3_cookieOf_44 : decode cX3_cookieOf 44 = .ok (.l2i, 1) := by decide +kernel
theorem dX3_cookieOf_45 : decode cX3_cookieOf 45 = .ok (.ldc 160, 2) := by decide +kernel
theorem dX3_cookieOf_47 : decode cX3_cookieOf 47 = .ok (.iand, 1) := by decide +kernel
theorem dX3_cookieOf_48 : decode cX3_cookieOf 48 = .ok (.istore 10, 2) := by decide +kernel
theorem dX3_cookieOf_50 : decode cX3_cookieOf 50 = .ok (.iload 5, 2) := by decide +kernel
theorem dX3_cookieOf_52 : decode cX3_cookieOf 52 = .ok (.bipush 31, 2) := by decide +kernel
theorem dX3_cookieOf_54 : decode cX3_cookieOf 54 = .ok (.iand, 1) := by decide +kernel
theorem dX3_cookieOf_55 : decode cX3_cookieOf 55 = .ok (.bipush 27, 2) := by decide +kernel
theorem dX3_cookieOf_57 : decode cX3_cookieOf 57 = .ok (.ishl, 1) := by decide +kernel
theorem dX3_cookieOf_58 : decode cX3_cookieOf 58 = .ok (.iload 4, 2) := by decide +kernel
theorem dX3_cookieOf_60 : decode cX3_cookieOf 60 = .ok (.bipush 24, 2) := by decide +kernel
theorem dX3_cookieOf_62 : decode cX3_cookieOf 62 = .ok (.ishl, 1) := by decide +kernel
theorem dX3_cookieOf_63 : decode cX3_cookieOf 63 = .ok (.ior, 1) := by decide +kernel
theorem dX3_cookieOf_64 : decode cX3_cookieOf 64 = .ok (.iload 10, 2) := by decide +kernel
theorem dX3_cookieOf_66 : decode cX3_cookieOf 66 = .ok (.ior, 1) := by decide +kernel
theorem dX3_cookieOf_67 : decode cX3_cookieOf 67 = .ok (.ireturn, 1) := by decide +kernel
set_option maxRecDepth 20000 in
theorem ggX3_answerNewSyn_X3_slotNow : GoodIn wsX3_answerNewSyn wsX3_slotNow := goodIn_r _ [11, 4, 66, 67, 68, 69, 70, 71, 72, 73, 74, 75, 76] (by decide +kernel) (by decide +kernel)
set_option maxRecDepth 20000 in
theorem gX3_answerNewSyn_X3_slotNow : GoodIn wsX3_answerNewSyn (wsV RX3 161 RX3 yX3_slotNow wsX3_slotNow) := goodIn_app (goodIn_of _ (by decide +kernel)) ggX3_answerNewSyn_X3_slotNow
set_option maxRecDepth 20000 in
theorem ggX3_answerNewSyn_X3_cookieOf : GoodIn wsX3_answerNewSyn wsX3_cookieOf := goodIn_r _ [15, 16, 17, 18, 19, 20, 10, 21, 22, 23, 24, 25, 26, 27, 28, 29, 30, 31, 32, 33, 34, 35, 36, 37, 38, 39, 40, 41, 42, 43, 44, 45, 46, 47, 48, 49, 50, 51, 52, 53, 54, 66, 67, 68, 69, 70, 71, 72, 73, 74, 75, 76, 83, 84, 85, 86, 87, 88] (by decide +kernel) (by decide +kernel)
set_option maxRecDepth 20000 in
theorem gX3_answerNewSyn_X3_cookieOf : GoodIn wsX3_answerNewSyn (wsV RX3 129 RX3 yX3_cookieOf wsX3_cookieOf) := goodIn_app (goodIn_of _ (by decide +kernel)) ggX3_answerNewSyn_X3_cookieOf
set_option maxRecDepth 20000 in
theorem ggX3_answerNewSyn_X1_add : GoodIn wsX3_answerNewSyn wsX1_add := goodIn_r _ [59, 60, 61, 62, 63, 64, 65, 77, 78, 79, 80, 81, 82] (by decide +kernel) (by decide +kernel)
set_option maxRecDepth 20000 in
theorem gX3_answerNewSyn_X1_add : GoodIn wsX3_answerNewSyn (wsV RX3 165 RX1 yX1_add wsX1_add) := goodIn_app (goodIn_of _ (by decide +kernel)) ggX3_answerNewSyn_X1_add
theorem dX3_answerNewSyn_0 : decode cX3_answerNewSyn 0 = .ok (.aload_n 0, 1) := by decide +kernel
theorem dX3_answerNewSyn_1 : decode cX3_answerNewSyn 1 = .ok (.lload_n 1, 1) := by decide +kernel
theorem dX3_answerNewSyn_2 : decode cX3_answerNewSyn 2 = .ok (.iload_n 3, 1) := by decide +kernel
theorem dX3_answerNewSyn_3 : decode cX3_answerNewSyn 3 = .ok (.iload 4, 2) := by decide +kernel
theorem dX3_answerNewSyn_5 : decode cX3_answerNewSyn 5 = .ok (.aload_n 0, 1) := by decide +kernel
theorem dX3_answerNewSyn_6 : decode cX3_answerNewSyn 6 = .ok (.invokevirtual 161, 3) := by decide +kernel
theorem dX3_answerNewSyn_9 : decode cX3_answerNewSyn 9 = .ok (.invokevirtual 129, 3) := by decide +kernel
theorem dX3_answerNewSyn_12 : decode cX3_answerNewSyn 12 = .ok (.istore 5, 2) := by decide +kernel
theorem dX3_answerNewSyn_14 : decode cX3_answerNewSyn 14 = .ok (.aload_n 0, 1) := by decide +kernel
theorem dX3_answerNewSyn_15 : decode cX3_answerNewSyn 15 = .ok (.getfield 19, 3) := by decide +kernel
theorem dX3_answerNewSyn_18 : decode cX3_answerNewSyn 18 = .ok (.getfield 137, 3) := by decide +kernel
theorem dX3_answerNewSyn_21 : decode cX3_answerNewSyn 21 = .ok (.aload_n 0, 1) := by decide +kernel
theorem dX3_answerNewSyn_22 : decode cX3_answerNewSyn 22 = .ok (.getfield 30, 3) := by decide +kernel
theorem dX3_answerNewSyn_25 : decode cX3_answerNewSyn 25 = .ok (.if_icmp .lt 24, 3) := by decide +kernel
theorem dX3_answerNewSyn_28 : decode cX3_answerNewSyn 28 = .ok (.aload_n 0, 1) := by decide +kernel
theorem dX3_answerNewSyn_29 : decode cX3_answerNewSyn 29 = .ok (.dup, 1) := by decide +kernel
theorem dX3_answerNewSyn_30 : decode cX3_answerNewSyn 30 = .ok (.getfield 43, 3) := by decide +kernel
theorem dX3_answerNewSyn_33 : decode cX3_answerNewSyn 33 = .ok (.iconst 1, 1) := by decide +kernel
theorem dX3_answerNewSyn_34 : decode cX3_answerNewSyn 34 = .ok (.iadd, 1) := by decide +kernel
theorem dX3_answerNewSyn_35 : decode cX3_answerNewSyn 35 = .ok (.putfield 43, 3) := by decide +kernel
theorem dX3_answerNewSyn_38 : decode cX3_answerNewSyn 38 = .ok (.aload_n 0, 1) := by decide +kernel
theorem dX3_answerNewSyn_39 : decode cX3_answerNewSyn 39 = .ok (.aload_n 0, 1) := by decide +kernel
theorem dX3_answerNewSyn_40 : decode cX3_answerNewSyn 40 = .ok (.getfield 37, 3) := by decide +kernel
theorem dX3_answerNewSyn_43 : decode cX3_answerNewSyn 43 = .ok (.putfield 40, 3) := by decide +kernel
theorem dX3_answerNewSyn_46 : decode cX3_answerNewSyn 46 = .ok (.iload 5, 2) := by decide +kernel
theorem dX3_answerNewSyn_48 : decode cX3_answerNewSyn 48 = .ok (.ireturn, 1) := by decide +kernel
theorem dX3_answerNewSyn_49 : decode cX3_answerNewSyn 49 = .ok (.iload 5, 2) := by decide +kernel
theorem dX3_answerNewSyn_51 : decode cX3_answerNewSyn 51 = .ok (.ldc 164, 2) := by decide +kernel
theorem dX3_answerNewSyn_53 : decode cX3_answerNewSyn 53 = .ok (.ixor, 1) := by decide +kernel
theorem dX3_answerNewSyn_54 : decode cX3_answerNewSyn 54 = .ok (.istore 6, 2) := by decide +kernel
theorem dX3_answerNewSyn_56 : decode cX3_answerNewSyn 56 = .ok (.aload_n 0, 1) := by decide +kernel
theorem dX3_answerNewSyn_57 : decode cX3_answerNewSyn 57 = .ok (.getfield 19, 3) := by decide +kernel
theorem dX3_answerNewSyn_60 : decode cX3_answerNewSyn 60 = .ok (.lload_n 1, 1) := by decide +kernel
theorem dX3_answerNewSyn_61 : decode cX3_answerNewSyn 61 = .ok (.iload_n 3, 1) := by decide +kernel
theorem dX3_answerNewSyn_62 : decode cX3_answerNewSyn 62 = .ok (.iload 6, 2) := by decide +kernel
theorem dX3_answerNewSyn_64 : decode cX3_answerNewSyn 64 = .ok (.iload 4, 2) := by decide +kernel
theorem dX3_answerNewSyn_66 : decode cX3_answerNewSyn 66 = .ok (.aload_n 0, 1) := by decide +kernel
theorem dX3_answerNewSyn_67 : decode cX3_answerNewSyn 67 = .ok (.getfield 37, 3) := by decide +kernel
theorem dX3_answerNewSyn_70 : decode cX3_answerNewSyn 70 = .ok (.invokevirtual 165, 3) := by decide +kernel
theorem dX3_answerNewSyn_73 : decode cX3_answerNewSyn 73 = .ok (.iload 6, 2) := by decide +kernel
theorem dX3_answerNewSyn_75 : decode cX3_answerNewSyn 75 = .ok (.ireturn, 1) := by decide +kernel
set_option maxRecDepth 20000 in
theorem ggX3_ackOfHalf_X0_hasRoom : GoodIn wsX3_ackOfHalf wsX0_hasRoom := goodIn_r _ [9, 10, 11, 12, 13, 8, 14, 15, 50, 51, 52, 53] (by decide +kernel) (by decide +kernel)
set_option maxRecDepth 20000 in
theorem gX3_ackOfHalf_X0_hasRoom : GoodIn wsX3_ackOfHalf (wsV RX3 169 RX0 yX0_hasRoom wsX0_hasRoom) := goodIn_app (goodIn_of _ (by decide +kernel)) ggX3_ackOfHalf_X0_hasRoom
set_option maxRecDepth 20000 in
theorem ggX3_ackOfHalf_X0_add : GoodIn wsX3_ackOfHalf wsX0_add := goodIn_r _ [19, 10, 20, 21, 50, 51, 52, 53] (by decide +kernel) (by decide +kernel)
set_option maxRecDepth 20000 in
theorem gX3_ackOfHalf_X0_add : GoodIn wsX3_ackOfHalf (wsV RX3 175 RX0 yX0_add wsX0_add) := goodIn_app (goodIn_of _ (by decide +kernel)) ggX3_ackOfHalf_X0_add
set_option maxRecDepth 20000 in
theorem ggX3_ackOfHalf_X1_drop : GoodIn wsX3_ackOfHalf wsX1_drop := goodIn_r _ [26, 27, 28, 29, 30, 31, 32, 44, 45, 46, 47, 48, 49] (by decide +kernel) (by decide +kernel)
set_option maxRecDepth 20000 in
theorem gX3_ackOfHalf_X1_drop : GoodIn wsX3_ackOfHalf (wsV RX3 90 RX1 yX1_drop wsX1_drop) := goodIn_app (goodIn_of _ (by decide +kernel)) ggX3_ackOfHalf_X1_drop
theorem dX3_ackOfHalf_0 : decode cX3_ackOfHalf 0 = .ok (.aload_n 0, 1) := by decide +kernel
theorem dX3_ackOfHalf_1 : decode cX3_ackOfHalf 1 = .ok (.getfield 19, 3) := by decide +kernel
theorem dX3_ackOfHalf_4 : decode cX3_ackOfHalf 4 = .ok (.getfield 79, 3) := by decide +kernel
theorem dX3_ackOfHalf_7 : decode cX3_ackOfHalf 7 = .ok (.iload_n 1, 1) := by decide +kernel
theorem dX3_ackOfHalf_8 : decode cX3_ackOfHalf 8 = .ok (.iaload, 1) := by decide +kernel
theorem dX3_ackOfHalf_9 : decode cX3_ackOfHalf 9 = .ok (.iload_n 2, 1) := by decide +kernel
theorem dX3_ackOfHalf_10 : decode cX3_ackOfHalf 10 = .ok (.if_icmp .ne 16, 3) := by decide +kernel
theorem dX3_ackOfHalf_13 : decode cX3_ackOfHalf 13 = .ok (.aload_n 0, 1) := by decide +kernel
theorem dX3_ackOfHalf_14 : decode cX3_ackOfHalf 14 = .ok (.getfield 19, 3) := by decide +kernel
theorem dX3_ackOfHalf_17 : decode cX3_ackOfHalf 17 = .ok (.getfield 83, 3) := by decide +kernel
theorem dX3_ackOfHalf_20 : decode cX3_ackOfHalf 20 = .ok (.iload_n 1, 1) := by decide +kernel
theorem dX3_ackOfHalf_21 : decode cX3_ackOfHalf 21 = .ok (.iaload, 1) := by decide +kernel
theorem dX3_ackOfHalf_22 : decode cX3_ackOfHalf 22 = .ok (.iload_n 3, 1) := by decide +kernel
theorem dX3_ackOfHalf_23 : decode cX3_ackOfHalf 23 = .ok (.if_icmp .eq 5, 3) := by decide +kernel
theorem dX3_ackOfHalf_26 : decode cX3_ackOfHalf 26 = .ok (.iconst 4, 1) := by decide +kernel
theorem dX3_ackOfHalf_27 : decode cX3_ackOfHalf 27 = .ok (.ireturn, 1) := by decide +kernel
theorem dX3_ackOfHalf_28 : decode cX3_ackOfHalf 28 = .ok (.aload_n 0, 1) := by decide +kernel
theorem dX3_ackOfHalf_29 : decode cX3_ackOfHalf 29 = .ok (.getfield 26, 3) := by decide +kernel
theorem dX3_ackOfHalf_32 : decode cX3_ackOfHalf 32 = .ok (.aload_n 0, 1) := by decide +kernel
theorem dX3_ackOfHalf_33 : decode cX3_ackOfHalf 33 = .ok (.getfield 34, 3) := by decide +kernel
theorem dX3_ackOfHalf_36 : decode cX3_ackOfHalf 36 = .ok (.invokevirtual 169, 3) := by decide +kernel
theorem dX3_ackOfHalf_39 : decode cX3_ackOfHalf 39 = .ok (.ifCond .ne 5, 3) := by decide +kernel
theorem dX3_ackOfHalf_42 : decode cX3_ackOfHalf 42 = .ok (.iconst 3, 1) := by decide +kernel
theorem dX3_ackOfHalf_43 : decode cX3_ackOfHalf 43 = .ok (.ireturn, 1) := by decide +kernel
theorem dX3_ackOfHalf_44 : decode cX3_ackOfHalf 44 = .ok (.aload_n 0, 1) := by decide +kernel
theorem dX3_ackOfHalf_45 : decode cX3_ackOfHalf 45 = .ok (.getfield 26, 3) := by decide +kernel
theorem dX3_ackOfHalf_48 : decode cX3_ackOfHalf 48 = .ok (.aload_n 0, 1) := by decide +kernel
theorem dX3_ackOfHalf_49 : decode cX3_ackOfHalf 49 = .ok (.getfield 19, 3) := by decide +kernel
theorem dX3_ackOfHalf_52 : decode cX3_ackOfHalf 52 = .ok (.getfield 173, 3) := by decide +kernel
theorem dX3_ackOfHalf_55 : decode cX3_ackOfHalf 55 = .ok (.iload_n 1, 1) := by decide +kernel
theorem dX3_ackOfHalf_56 : decode cX3_ackOfHalf 56 = .ok (.laload, 1) := by decide +kernel
theorem dX3_ackOfHalf_57 : decode cX3_ackOfHalf 57 = .ok (.aload_n 0, 1) := by decide +kernel
theorem dX3_ackOfHalf_58 : decode cX3_ackOfHalf 58 = .ok (.getfield 19, 3) := by decide +kernel
theorem dX3_ackOfHalf_61 : decode cX3_ackOfHalf 61 = .ok (.getfield 174, 3) := by decide +kernel
theorem dX3_ackOfHalf_64 : decode cX3_ackOfHalf 64 = .ok (.iload_n 1, 1) := by decide +kernel
theorem dX3_ackOfHalf_65 : decode cX3_ackOfHalf 65 = .ok (.iaload, 1) := by decide +kernel
theorem dX3_ackOfHalf_66 : decode cX3_ackOfHalf 66 = .ok (.invokevirtual 175, 3) := by decide +kernel
theorem dX3_ackOfHalf_69 : decode cX3_ackOfHalf 69 = .ok (.aload_n 0, 1) := by decide +kernel
theorem dX3_ackOfHalf_70 : decode cX3_ackOfHalf 70 = .ok (.getfield 19, 3) := by decide +kernel
theorem dX3_ackOfHalf_73 : decode cX3_ackOfHalf 73 = .ok (.iload_n 1, 1) := by decide +kernel
theorem dX3_ackOfHalf_74 : decode cX3_ackOfHalf 74 = .ok (.invokevirtual 90, 3) := by decide +kernel
theorem dX3_ackOfHalf_77 : decode cX3_ackOfHalf 77 = .ok (.aload_n 0, 1) := by decide +kernel
theorem dX3_ackOfHalf_78 : decode cX3_ackOfHalf 78 = .ok (.dup, 1) := by decide +kernel
theorem dX3_ackOfHalf_79 : decode cX3_ackOfHalf 79 = .ok (.getfield 46, 3) := by decide +kernel
theorem dX3_ackOfHalf_82 : decode cX3_ackOfHalf 82 = .ok (.iconst 1, 1) := by decide +kernel
theorem dX3_ackOfHalf_83 : decode cX3_ackOfHalf 83 = .ok (.iadd, 1) := by decide +kernel
theorem dX3_ackOfHalf_84 : decode cX3_ackOfHalf 84 = .ok (.putfield 46, 3) := by decide +kernel
theorem dX3_ackOfHalf_87 : decode cX3_ackOfHalf 87 = .ok (.iconst 2, 1) := by decide +kernel
theorem dX3_ackOfHalf_88 : decode cX3_ackOfHalf 88 = .ok (.ireturn, 1) := by decide +kernel
set_option maxRecDepth 20000 in
theorem ggX3_ackWithoutHalf_X3_cookiesGivenLately : GoodIn wsX3_ackWithoutHalf wsX3_cookiesGivenLately := goodIn_r _ [8, 9, 10, 11, 80, 81, 82, 83, 84, 85, 86, 87, 88, 89, 90] (by decide +kernel) (by decide +kernel)
set_option maxRecDepth 20000 in
theorem gX3_ackWithoutHalf_X3_cookiesGivenLately : GoodIn wsX3_ackWithoutHalf (wsV RX3 178 RX3 yX3_cookiesGivenLately wsX3_cookiesGivenLately) := goodIn_app (goodIn_of _ (by decide +kernel)) ggX3_ackWithoutHalf_X3_cookiesGivenLately
set_option maxRecDepth 20000 in
theorem ggX3_ackWithoutHalf_X3_isCookieOfLateSlot : GoodIn wsX3_ackWithoutHalf wsX3_isCookieOfLateSlot := goodIn_r _ [15, 16, 17, 18, 7, 19, 10, 20, 21, 22, 23, 24, 25, 26, 27, 28, 29, 30, 31, 32, 33, 34, 35, 36, 37, 38, 39, 40, 41, 42, 43, 44, 45, 46, 47, 48, 49, 50, 51, 52, 53, 54, 55, 56, 57, 58, 59, 60, 61, 62, 80, 81, 82, 83, 84, 85, 86, 87, 88, 89, 90, 91, 92, 93, 94, 95, 96] (by decide +kernel) (by decide +kernel)
set_option maxRecDepth 20000 in
theorem gX3_ackWithoutHalf_X3_isCookieOfLateSlot : GoodIn wsX3_ackWithoutHalf (wsV RX3 182 RX3 yX3_isCookieOfLateSlot wsX3_isCookieOfLateSlot) := goodIn_app (goodIn_of _ (by decide +kernel)) ggX3_ackWithoutHalf_X3_isCookieOfLateSlot
set_option maxRecDepth 20000 in
theorem ggX3_ackWithoutHalf_X0_hasRoom : GoodIn wsX3_ackWithoutHalf wsX0_hasRoom := goodIn_r _ [67, 68, 69, 70, 71, 66, 72, 73, 97, 98, 99, 100] (by decide +kernel) (by decide +kernel)
set_option maxRecDepth 20000 in
theorem gX3_ackWithoutHalf_X0_hasRoom : GoodIn wsX3_ackWithoutHalf (wsV RX3 169 RX0 yX0_hasRoom wsX0_hasRoom) := goodIn_app (goodIn_of _ (by decide +kernel)) ggX3_ackWithoutHalf_X0_hasRoom
set_option maxRecDepth 20000 in
theorem ggX3_ackWithoutHalf_X0_add : GoodIn wsX3_ackWithoutHalf wsX0_add := goodIn_r _ [77, 68, 78, 79, 97, 98, 99, 100] (by decide +kernel) (by decide +kernel)
set_option maxRecDepth 20000 in
theorem gX3_ackWithoutHalf_X0_add : GoodIn wsX3_ackWithoutHalf (wsV RX3 175 RX0 yX0_add wsX0_add) := goodIn_app (goodIn_of _ (by decide +kernel)) ggX3_ackWithoutHalf_X0_add
theorem dX3_ackWithoutHalf_0 : decode cX3_ackWithoutHalf 0 = .ok (.aload_n 0, 1) := by decide +kernel
theorem dX3_ackWithoutHalf_1 : decode cX3_ackWithoutHalf 1 = .ok (.invokevirtual 178, 3) := by decide +kernel
theorem dX3_ackWithoutHalf_4 : decode cX3_ackWithoutHalf 4 = .ok (.ifCond .ne 6, 3) := by decide +kernel
theorem dX3_ackWithoutHalf_7 : decode cX3_ackWithoutHalf 7 = .ok (.bipush 8, 2) := by decide +kernel
theorem dX3_ackWithoutHalf_9 : decode cX3_ackWithoutHalf 9 = .ok (.ireturn, 1) := by decide +kernel
theorem dX3_ackWithoutHalf_10 : decode cX3_ackWithoutHalf 10 = .ok (.iload 4, 2) := by decide +kernel
theorem dX3_ackWithoutHalf_12 : decode cX3_ackWithoutHalf 12 = .ok (.bipush 24, 2) := by decide +kernel
theorem dX3_ackWithoutHalf_14 : decode cX3_ackWithoutHalf 14 = .ok (.iushr, 1) := by decide +kernel
theorem dX3_ackWithoutHalf_15 : decode cX3_ackWithoutHalf 15 = .ok (.bipush 7, 2) := by decide +kernel
theorem dX3_ackWithoutHalf_17 : decode cX3_ackWithoutHalf 17 = .ok (.iand, 1) := by decide +kernel
theorem dX3_ackWithoutHalf_18 : decode cX3_ackWithoutHalf 18 = .ok (.istore 5, 2) := by decide +kernel
theorem dX3_ackWithoutHalf_20 : decode cX3_ackWithoutHalf 20 = .ok (.aload_n 0, 1) := by decide +kernel
theorem dX3_ackWithoutHalf_21 : decode cX3_ackWithoutHalf 21 = .ok (.iload 4, 2) := by decide +kernel
theorem dX3_ackWithoutHalf_23 : decode cX3_ackWithoutHalf 23 = .ok (.lload_n 1, 1) := by decide +kernel
theorem dX3_ackWithoutHalf_24 : decode cX3_ackWithoutHalf 24 = .ok (.iload_n 3, 1) := by decide +kernel
theorem dX3_ackWithoutHalf_25 : decode cX3_ackWithoutHalf 25 = .ok (.iload 5, 2) := by decide +kernel
theorem dX3_ackWithoutHalf_27 : decode cX3_ackWithoutHalf 27 = .ok (.invokevirtual 182, 3) := by decide +kernel
theorem dX3_ackWithoutHalf_30 : decode cX3_ackWithoutHalf 30 = .ok (.ifCond .ne 6, 3) := by decide +kernel
theorem dX3_ackWithoutHalf_33 : decode cX3_ackWithoutHalf 33 = .ok (.bipush 7, 2) := by decide +kernel
theorem dX3_ackWithoutHalf_35 : decode cX3_ackWithoutHalf 35 = .ok (.ireturn, 1) := by decide +kernel
theorem dX3_ackWithoutHalf_36 : decode cX3_ackWithoutHalf 36 = .ok (.aload_n 0, 1) := by decide +kernel
theorem dX3_ackWithoutHalf_37 : decode cX3_ackWithoutHalf 37 = .ok (.getfield 26, 3) := by decide +kernel
theorem dX3_ackWithoutHalf_40 : decode cX3_ackWithoutHalf 40 = .ok (.aload_n 0, 1) := by decide +kernel
theorem dX3_ackWithoutHalf_41 : decode cX3_ackWithoutHalf 41 = .ok (.getfield 34, 3) := by decide +kernel
theorem dX3_ackWithoutHalf_44 : decode cX3_ackWithoutHalf 44 = .ok (.invokevirtual 169, 3) := by decide +kernel
theorem dX3_ackWithoutHalf_47 : decode cX3_ackWithoutHalf 47 = .ok (.ifCond .ne 6, 3) := by decide +kernel
theorem dX3_ackWithoutHalf_50 : decode cX3_ackWithoutHalf 50 = .ok (.bipush 6, 2) := by decide +kernel
theorem dX3_ackWithoutHalf_52 : decode cX3_ackWithoutHalf 52 = .ok (.ireturn, 1) := by decide +kernel
theorem dX3_ackWithoutHalf_53 : decode cX3_ackWithoutHalf 53 = .ok (.aload_n 0, 1) := by decide +kernel
theorem dX3_ackWithoutHalf_54 : decode cX3_ackWithoutHalf 54 = .ok (.getfield 26, 3) := by decide +kernel
theorem dX3_ackWithoutHalf_57 : decode cX3_ackWithoutHalf 57 = .ok (.lload_n 1, 1) := by decide +kernel
theorem dX3_ackWithoutHalf_58 : decode cX3_ackWithoutHalf 58 = .ok (.iload 5, 2) := by decide +kernel
theorem dX3_ackWithoutHalf_60 : decode cX3_ackWithoutHalf 60 = .ok (.invokevirtual 175, 3) := by decide +kernel
theorem dX3_ackWithoutHalf_63 : decode cX3_ackWithoutHalf 63 = .ok (.aload_n 0, 1) := by decide +kernel
theorem dX3_ackWithoutHalf_64 : decode cX3_ackWithoutHalf 64 = .ok (.dup, 1) := by decide +kernel
theorem dX3_ackWithoutHalf_65 : decode cX3_ackWithoutHalf 65 = .ok (.getfield 49, 3) := by decide +kernel
theorem dX3_ackWithoutHalf_68 : decode cX3_ackWithoutHalf 68 = .ok (.iconst 1, 1) := by decide +kernel
theorem dX3_ackWithoutHalf_69 : decode cX3_ackWithoutHalf 69 = .ok (.iadd, 1) := by decide +kernel
theorem dX3_ackWithoutHalf_70 : decode cX3_ackWithoutHalf 70 = .ok (.putfield 49, 3) := by decide +kernel
theorem dX3_ackWithoutHalf_73 : decode cX3_ackWithoutHalf 73 = .ok (.iconst 5, 1) := by decide +kernel
theorem dX3_ackWithoutHalf_74 : decode cX3_ackWithoutHalf 74 = .ok (.ireturn, 1) := by decide +kernel
theorem dX3_cookiesGivenLately_0 : decode cX3_cookiesGivenLately 0 = .ok (.aload_n 0, 1) := by decide +kernel
theorem dX3_cookiesGivenLately_1 : decode cX3_cookiesGivenLately 1 = .ok (.getfield 43, 3) := by decide +kernel
theorem dX3_cookiesGivenLately_4 : decode cX3_cookiesGivenLately 4 = .ok (.ifCond .le 22, 3) := by decide +kernel
theorem dX3_cookiesGivenLately_7 : decode cX3_cookiesGivenLately 7 = .ok (.aload_n 0, 1) := by decide +kernel
theorem dX3_cookiesGivenLately_8 : decode cX3_cookiesGivenLately 8 = .ok (.getfield 37, 3) := by decide +kernel
theorem dX3_cookiesGivenLately_11 : decode cX3_cookiesGivenLately 11 = .ok (.aload_n 0, 1) := by decide +kernel
theorem dX3_cookiesGivenLately_12 : decode cX3_cookiesGivenLately 12 = .ok (.getfield 40, 3) := by decide +kernel
theorem dX3_cookiesGivenLately_15 : decode cX3_cookiesGivenLately 15 = .ok (.isub, 1) := by decide +kernel
theorem dX3_cookiesGivenLately_16 : decode cX3_cookiesGivenLately 16 = .ok (.sipush 128, 3) := by decide +kernel
theorem dX3_cookiesGivenLately_19 : decode cX3_cookiesGivenLately 19 = .ok (.if_icmp .gt 7, 3) := by decide +kernel
theorem dX3_cookiesGivenLately_22 : decode cX3_cookiesGivenLately 22 = .ok (.iconst 1, 1) := by decide +kernel
theorem dX3_cookiesGivenLately_23 : decode cX3_cookiesGivenLately 23 = .ok (.goto 4, 3) := by decide +kernel
theorem dX3_cookiesGivenLately_26 : decode cX3_cookiesGivenLately 26 = .ok (.iconst 0, 1) := by decide +kernel
theorem dX3_cookiesGivenLately_27 : decode cX3_cookiesGivenLately 27 = .ok (.ireturn, 1) := by decide +kernel
set_option maxRecDepth 20000 in
theorem ggX3_isCookieOfLateSlot_X3_slotNow : GoodIn wsX3_isCookieOfLateSlot wsX3_slotNow := goodIn_r _ [5, 6, 50, 51, 52, 53, 54, 55, 56, 57, 58, 59, 60] (by decide +kernel) (by decide +kernel)
set_option maxRecDepth 20000 in
theorem gX3_isCookieOfLateSlot_X3_slotNow : GoodIn wsX3_isCookieOfLateSlot (wsV RX3 161 RX3 yX3_slotNow wsX3_slotNow) := goodIn_app (goodIn_of _ (by decide +kernel)) ggX3_isCookieOfLateSlot_X3_slotNow
set_option maxRecDepth 20000 in
theorem ggX3_isCookieOfLateSlot_X3_cookieOf : GoodIn wsX3_isCookieOfLateSlot wsX3_cookieOf := goodIn_r _ [10, 11, 12, 13, 14, 15, 4, 16, 17, 18, 19, 20, 21, 22, 23, 24, 25, 26, 27, 28, 29, 30, 31, 32, 33, 34, 35, 36, 37, 38, 39, 40, 41, 42, 43, 44, 45, 46, 47, 48, 49, 50, 51, 52, 53, 54, 55, 56, 57, 58, 59, 60, 61, 62, 63, 64, 65, 66] (by decide +kernel) (by decide +kernel)
set_option maxRecDepth 20000 in
theorem gX3_isCookieOfLateSlot_X3_cookieOf : GoodIn wsX3_isCookieOfLateSlot (wsV RX3 129 RX3 yX3_cookieOf wsX3_cookieOf) := goodIn_app (goodIn_of _ (by decide +kernel)) ggX3_isCookieOfLateSlot_X3_cookieOf
theorem dX3_isCookieOfLateSlot_0 : decode cX3_isCookieOfLateSlot 0 = .ok (.aload_n 0, 1) := by decide +kernel
theorem dX3_isCookieOfLateSlot_1 : decode cX3_isCookieOfLateSlot 1 = .ok (.invokevirtual 161, 3) := by decide +kernel
theorem dX3_isCookieOfLateSlot_4 : decode cX3_isCookieOfLateSlot 4 = .ok (.istore 6, 2) := by decide +kernel
theorem dX3_isCookieOfLateSlot_6 : decode cX3_isCookieOfLateSlot 6 = .ok (.iload_n 1, 1) := by decide +kernel
theorem dX3_isCookieOfLateSlot_7 : decode cX3_isCookieOfLateSlot 7 = .ok (.aload_n 0, 1) := by decide +kernel
theorem dX3_isCookieOfLateSlot_8 : decode cX3_isCookieOfLateSlot 8 = .ok (.lload_n 2, 1) := by decide +kernel
theorem dX3_isCookieOfLateSlot_9 : decode cX3_isCookieOfLateSlot 9 = .ok (.iload 4, 2) := by decide +kernel
theorem dX3_isCookieOfLateSlot_11 : decode cX3_isCookieOfLateSlot 11 = .ok (.iload 5, 2) := by decide +kernel
theorem dX3_isCookieOfLateSlot_13 : decode cX3_isCookieOfLateSlot 13 = .ok (.iload 6, 2) := by decide +kernel
theorem dX3_isCookieOfLateSlot_15 : decode cX3_isCookieOfLateSlot 15 = .ok (.invokevirtual 129, 3) := by decide +kernel
theorem dX3_isCookieOfLateSlot_18 : decode cX3_isCookieOfLateSlot 18 = .ok (.if_icmp .ne 5, 3) := by decide +kernel
theorem dX3_isCookieOfLateSlot_21 : decode cX3_isCookieOfLateSlot 21 = .ok (.iconst 1, 1) := by decide +kernel
theorem dX3_isCookieOfLateSlot_22 : decode cX3_isCookieOfLateSlot 22 = .ok (.ireturn, 1) := by decide +kernel
theorem dX3_isCookieOfLateSlot_23 : decode cX3_isCookieOfLateSlot 23 = .ok (.iload 6, 2) := by decide +kernel
theorem dX3_isCookieOfLateSlot_25 : decode cX3_isCookieOfLateSlot 25 = .ok (.ifCond .le 24, 3) := by decide +kernel
theorem dX3_isCookieOfLateSlot_28 : decode cX3_isCookieOfLateSlot 28 = .ok (.iload_n 1, 1) := by decide +kernel
theorem dX3_isCookieOfLateSlot_29 : decode cX3_isCookieOfLateSlot 29 = .ok (.aload_n 0, 1) := by decide +kernel
theorem dX3_isCookieOfLateSlot_30 : decode cX3_isCookieOfLateSlot 30 = .ok (.lload_n 2, 1) := by decide +kernel
theorem dX3_isCookieOfLateSlot_31 : decode cX3_isCookieOfLateSlot 31 = .ok (.iload 4, 2) := by decide +kernel
theorem dX3_isCookieOfLateSlot_33 : decode cX3_isCookieOfLateSlot 33 = .ok (.iload 5, 2) := by decide +kernel
theorem dX3_isCookieOfLateSlot_35 : decode cX3_isCookieOfLateSlot 35 = .ok (.iload 6, 2) := by decide +kernel
theorem dX3_isCookieOfLateSlot_37 : decode cX3_isCookieOfLateSlot 37 = .ok (.iconst 1, 1) := by decide +kernel
theorem dX3_isCookieOfLateSlot_38 : decode cX3_isCookieOfLateSlot 38 = .ok (.isub, 1) := by decide +kernel
theorem dX3_isCookieOfLateSlot_39 : decode cX3_isCookieOfLateSlot 39 = .ok (.invokevirtual 129, 3) := by decide +kernel
theorem dX3_isCookieOfLateSlot_42 : decode cX3_isCookieOfLateSlot 42 = .ok (.if_icmp .ne 7, 3) := by decide +kernel
theorem dX3_isCookieOfLateSlot_45 : decode cX3_isCookieOfLateSlot 45 = .ok (.iconst 1, 1) := by decide +kernel
theorem dX3_isCookieOfLateSlot_46 : decode cX3_isCookieOfLateSlot 46 = .ok (.goto 4, 3) := by decide +kernel
theorem dX3_isCookieOfLateSlot_49 : decode cX3_isCookieOfLateSlot 49 = .ok (.iconst 0, 1) := by decide +kernel
theorem dX3_isCookieOfLateSlot_50 : decode cX3_isCookieOfLateSlot 50 = .ok (.ireturn, 1) := by decide +kernel
set_option maxRecDepth 20000 in
theorem ggX3_stateOf_X0_find : GoodIn wsX3_stateOf wsX0_find := goodIn_r _ [7, 8, 9, 33, 34, 35, 36] (by decide +kernel) (by decide +kernel)
set_option maxRecDepth 20000 in
theorem gX3_stateOf_X0_find : GoodIn wsX3_stateOf (wsV RX3 72 RX0 yX0_find wsX0_find) := goodIn_app (goodIn_of _ (by decide +kernel)) ggX3_stateOf_X0_find
set_option maxRecDepth 20000 in
theorem ggX3_stateOf_X0_isTaken : GoodIn wsX3_stateOf wsX0_isTaken := goodIn_r _ [13, 14, 33, 34, 35, 36] (by decide +kernel) (by decide +kernel)
set_option maxRecDepth 20000 in
theorem gX3_stateOf_X0_isTaken : GoodIn wsX3_stateOf (wsV RX3 186 RX0 yX0_isTaken wsX0_isTaken) := goodIn_app (goodIn_of _ (by decide +kernel)) ggX3_stateOf_X0_isTaken
set_option maxRecDepth 20000 in
theorem ggX3_stateOf_X1_find : GoodIn wsX3_stateOf wsX1_find := goodIn_r _ [19, 20, 21, 37, 38, 39, 40, 41, 42] (by decide +kernel) (by decide +kernel)
set_option maxRecDepth 20000 in
theorem gX3_stateOf_X1_find : GoodIn wsX3_stateOf (wsV RX3 78 RX1 yX1_find wsX1_find) := goodIn_app (goodIn_of _ (by decide +kernel)) ggX3_stateOf_X1_find
theorem dX3_stateOf_0 : decode cX3_stateOf 0 = .ok (.aload_n 0, 1) := by decide +kernel
theorem dX3_stateOf_1 : decode cX3_stateOf 1 = .ok (.getfield 26, 3) := by decide +kernel
theorem dX3_stateOf_4 : decode cX3_stateOf 4 = .ok (.lload_n 1, 1) := by decide +kernel
theorem dX3_stateOf_5 : decode cX3_stateOf 5 = .ok (.invokevirtual 72, 3) := by decide +kernel
theorem dX3_stateOf_8 : decode cX3_stateOf 8 = .ok (.istore_n 3, 1) := by decide +kernel
theorem dX3_stateOf_9 : decode cX3_stateOf 9 = .ok (.iload_n 3, 1) := by decide +kernel
theorem dX3_stateOf_10 : decode cX3_stateOf 10 = .ok (.iconst (-1), 1) := by decide +kernel
theorem dX3_stateOf_11 : decode cX3_stateOf 11 = .ok (.if_icmp .eq 20, 3) := by decide +kernel
theorem dX3_stateOf_14 : decode cX3_stateOf 14 = .ok (.aload_n 0, 1) := by decide +kernel
theorem dX3_stateOf_15 : decode cX3_stateOf 15 = .ok (.getfield 26, 3) := by decide +kernel
theorem dX3_stateOf_18 : decode cX3_stateOf 18 = .ok (.iload_n 3, 1) := by decide +kernel
theorem dX3_stateOf_19 : decode cX3_stateOf 19 = .ok (.invokevirtual 186, 3) := by decide +kernel
theorem dX3_stateOf_22 : decode cX3_stateOf 22 = .ok (.ifCond .eq 7, 3) := by decide +kernel
theorem dX3_stateOf_25 : decode cX3_stateOf 25 = .ok (.iconst 3, 1) := by decide +kernel
theorem dX3_stateOf_26 : decode cX3_stateOf 26 = .ok (.goto 4, 3) := by decide +kernel
theorem dX3_stateOf_29 : decode cX3_stateOf 29 = .ok (.iconst 2, 1) := by decide +kernel
theorem dX3_stateOf_30 : decode cX3_stateOf 30 = .ok (.ireturn, 1) := by decide +kernel
theorem dX3_stateOf_31 : decode cX3_stateOf 31 = .ok (.aload_n 0, 1) := by decide +kernel
theorem dX3_stateOf_32 : decode cX3_stateOf 32 = .ok (.getfield 19, 3) := by decide +kernel
theorem dX3_stateOf_35 : decode cX3_stateOf 35 = .ok (.lload_n 1, 1) := by decide +kernel
theorem dX3_stateOf_36 : decode cX3_stateOf 36 = .ok (.invokevirtual 78, 3) := by decide +kernel
theorem dX3_stateOf_39 : decode cX3_stateOf 39 = .ok (.iconst (-1), 1) := by decide +kernel
theorem dX3_stateOf_40 : decode cX3_stateOf 40 = .ok (.if_icmp .eq 7, 3) := by decide +kernel
theorem dX3_stateOf_43 : decode cX3_stateOf 43 = .ok (.iconst 1, 1) := by decide +kernel
theorem dX3_stateOf_44 : decode cX3_stateOf 44 = .ok (.goto 4, 3) := by decide +kernel
theorem dX3_stateOf_47 : decode cX3_stateOf 47 = .ok (.iconst 0, 1) := by decide +kernel
theorem dX3_stateOf_48 : decode cX3_stateOf 48 = .ok (.ireturn, 1) := by decide +kernel
end
section
theorem dX4_init_0 : decode cX4_init 0 = .ok (.aload_n 0, 1) := by decide +kernel
theorem dX4_init_1 : decode cX4_init 1 = .ok (.invokespecial 1, 3) := by decide +kernel
theorem dX4_init_4 : decode cX4_init 4 = .ok (.aload_n 0, 1) := by decide +kernel
theorem dX4_init_5 : decode cX4_init 5 = .ok (.iconst 4, 1) := by decide +kernel
theorem dX4_init_6 : decode cX4_init 6 = .ok (.putfield 7, 3) := by decide +kernel
theorem dX4_init_9 : decode cX4_init 9 = .ok (.aload_n 0, 1) := by decide +kernel
theorem dX4_init_10 : decode cX4_init 10 = .ok (.iconst 2, 1) := by decide +kernel
theorem dX4_init_11 : decode cX4_init 11 = .ok (.putfield 13, 3) := by decide +kernel
theorem dX4_init_14 : decode cX4_init 14 = .ok (.aload_n 0, 1) := by decide +kernel
theorem dX4_init_15 : decode cX4_init 15 = .ok (.iconst (-1), 1) := by decide +kernel
theorem dX4_init_16 : decode cX4_init 16 = .ok (.putfield 16, 3) := by decide +kernel
theorem dX4_init_19 : decode cX4_init 19 = .ok (.aload_n 0, 1) := by decide +kernel
theorem dX4_init_20 : decode cX4_init 20 = .ok (.bipush 32, 2) := by decide +kernel
theorem dX4_init_22 : decode cX4_init 22 = .ok (.newarray .int, 2) := by decide +kernel
theorem dX4_init_24 : decode cX4_init 24 = .ok (.putfield 19, 3) := by decide +kernel
theorem dX4_init_27 : decode cX4_init 27 = .ok (.aload_n 0, 1) := by decide +kernel
theorem dX4_init_28 : decode cX4_init 28 = .ok (.bipush 32, 2) := by decide +kernel
theorem dX4_init_30 : decode cX4_init 30 = .ok (.newarray .int, 2) := by decide +kernel
theorem dX4_init_32 : decode cX4_init 32 = .ok (.putfield 23, 3) := by decide +kernel
theorem dX4_init_35 : decode cX4_init 35 = .ok (.aload_n 0, 1) := by decide +kernel
theorem dX4_init_36 : decode cX4_init 36 = .ok (.bipush 32, 2) := by decide +kernel
theorem dX4_init_38 : decode cX4_init 38 = .ok (.newarray .int, 2) := by decide +kernel
theorem dX4_init_40 : decode cX4_init 40 = .ok (.putfield 26, 3) := by decide +kernel
theorem dX4_init_43 : decode cX4_init 43 = .ok (.aload_n 0, 1) := by decide +kernel
theorem dX4_init_44 : decode cX4_init 44 = .ok (.bipush 32, 2) := by decide +kernel
theorem dX4_init_46 : decode cX4_init 46 = .ok (.newarray .int, 2) := by decide +kernel
theorem dX4_init_48 : decode cX4_init 48 = .ok (.putfield 29, 3) := by decide +kernel
theorem dX4_init_51 : decode cX4_init 51 = .ok (.aload_n 0, 1) := by decide +kernel
theorem dX4_init_52 : decode cX4_init 52 = .ok (.bipush 32, 2) := by decide +kernel
theorem dX4_init_54 : decode cX4_init 54 = .ok (.newarray .int, 2) := by decide +kernel
theorem dX4_init_56 : decode cX4_init 56 = .ok (.putfield 32, 3) := by decide +kernel
theorem dX4_init_59 : decode cX4_init 59 = .ok (.aload_n 0, 1) := by decide +kernel
theorem dX4_init_60 : decode cX4_init 60 = .ok (.bipush 32, 2) := by decide +kernel
theorem dX4_init_62 : decode cX4_init 62 = .ok (.newarray .int, 2) := by decide +kernel
theorem dX4_init_64 : decode cX4_init 64 = .ok (.putfield 35, 3) := by decide +kernel
theorem dX4_init_67 : decode cX4_init 67 = .ok (.aload_n 0, 1) := by decide +kernel
theorem dX4_init_68 : decode cX4_init 68 = .ok (.bipush 64, 2) := by decide +kernel
theorem dX4_init_70 : decode cX4_init 70 = .ok (.newarray .int, 2) := by decide +kernel
theorem dX4_init_72 : decode cX4_init 72 = .ok (.putfield 38, 3) := by decide +kernel
theorem dX4_init_75 : decode cX4_init 75 = .ok (.aload_n 0, 1) := by decide +kernel
theorem dX4_init_76 : decode cX4_init 76 = .ok (.bipush 64, 2) := by decide +kernel
theorem dX4_init_78 : decode cX4_init 78 = .ok (.newarray .int, 2) := by decide +kernel
theorem dX4_init_80 : decode cX4_init 80 = .ok (.putfield 41, 3) := by decide +kernel
theorem dX4_init_83 : decode cX4_init 83 = .ok (.aload_n 0, 1) := by decide +kernel
theorem dX4_init_84 : decode cX4_init 84 = .ok (.bipush 64, 2) := by decide +kernel
theorem dX4_init_86 : decode cX4_init 86 = .ok (.newarray .int, 2) := by decide +kernel
theorem dX4_init_88 : decode cX4_init 88 = .ok (.putfield 44, 3) := by decide +kernel
theorem dX4_init_91 : decode cX4_init 91 = .ok (.aload_n 0, 1) := by decide +kernel
theorem dX4_init_92 : decode cX4_init 92 = .ok (.bipush 64, 2) := by decide +kernel
theorem dX4_init_94 : decode cX4_init 94 = .ok (.newarray .boolean, 2) := by decide +kernel
theorem dX4_init_96 : decode cX4_init 96 = .ok (.putfield 47, 3) := by decide +kernel
theorem dX4_init_99 : decode cX4_init 99 = .ok (.aload_n 0, 1) := by decide +kernel
theorem dX4_init_100 : decode cX4_init 100 = .ok (.iconst 4, 1) := by decide +kernel
theorem dX4_init_101 : decode cX4_init 101 = .ok (.newarray .int, 2) := by decide +kernel
theorem dX4_init_103 : decode cX4_init 103 = .ok (.putfield 51, 3) := by decide +kernel
theorem dX4_init_106 : decode cX4_init 106 = .ok (.return_, 1) := by decide +kernel
theorem dX4_thrown_0 : decode cX4_thrown 0 = .ok (.aload_n 0, 1) := by decide +kernel
theorem dX4_thrown_1 : decode cX4_thrown 1 = .ok (.getfield 54, 3) := by decide +kernel
theorem dX4_thrown_4 : decode cX4_thrown 4 = .ok (.ireturn, 1) := by decide +kernel
theorem dX4_rooms_0 : decode cX4_rooms 0 = .ok (.aload_n 0, 1) := by decide +kernel
theorem dX4_rooms_1 : decode cX4_rooms 1 = .ok (.iload_n 1, 1) := by decide +kernel
theorem dX4_rooms_2 : decode cX4_rooms 2 = .ok (.ifCond .lt 20, 3) := by decide +kernel
theorem dX4_rooms_5 : decode cX4_rooms 5 = .ok (.iload_n 1, 1) := by decide +kernel
theorem dX4_rooms_6 : decode cX4_rooms 6 = .ok (.bipush 32, 2) := by decide +kernel
theorem dX4_rooms_8 : decode cX4_rooms 8 = .ok (.if_icmp .gt 14, 3) := by decide +kernel
theorem dX4_rooms_11 : decode cX4_rooms 11 = .ok (.iload_n 2, 1) := by decide +kernel
theorem dX4_rooms_12 : decode cX4_rooms 12 = .ok (.iconst 1, 1) := by decide +kernel
theorem dX4_rooms_13 : decode cX4_rooms 13 = .ok (.if_icmp .lt 9, 3) := by decide +kernel
theorem dX4_rooms_16 : decode cX4_rooms 16 = .ok (.iload_n 2, 1) := by decide +kernel
theorem dX4_rooms_17 : decode cX4_rooms 17 = .ok (.bipush 16, 2) := by decide +kernel
theorem dX4_rooms_19 : decode cX4_rooms 19 = .ok (.if_icmp .le 7, 3) := by decide +kernel
theorem dX4_rooms_22 : decode cX4_rooms 22 = .ok (.iconst 1, 1) := by decide +kernel
theorem dX4_rooms_23 : decode cX4_rooms 23 = .ok (.goto 4, 3) := by decide +kernel
theorem dX4_rooms_26 : decode cX4_rooms 26 = .ok (.iconst 0, 1) := by decide +kernel
theorem dX4_rooms_27 : decode cX4_rooms 27 = .ok (.putfield 54, 3) := by decide +kernel
theorem dX4_rooms_30 : decode cX4_rooms 30 = .ok (.aload_n 0, 1) := by decide +kernel
theorem dX4_rooms_31 : decode cX4_rooms 31 = .ok (.getfield 54, 3) := by decide +kernel
theorem dX4_rooms_34 : decode cX4_rooms 34 = .ok (.ifCond .ne 13, 3) := by decide +kernel
theorem dX4_rooms_37 : decode cX4_rooms 37 = .ok (.aload_n 0, 1) := by decide +kernel
theorem dX4_rooms_38 : decode cX4_rooms 38 = .ok (.iload_n 1, 1) := by decide +kernel
theorem dX4_rooms_39 : decode cX4_rooms 39 = .ok (.putfield 7, 3) := by decide +kernel
theorem dX4_rooms_42 : decode cX4_rooms 42 = .ok (.aload_n 0, 1) := by decide +kernel
theorem dX4_rooms_43 : decode cX4_rooms 43 = .ok (.iload_n 2, 1) := by decide +kernel
theorem dX4_rooms_44 : decode cX4_rooms 44 = .ok (.putfield 13, 3) := by decide +kernel
theorem dX4_rooms_47 : decode cX4_rooms 47 = .ok (.return_, 1) := by decide +kernel
theorem dX4_key_0 : decode cX4_key 0 = .ok (.aload_n 0, 1) := by decide +kernel
theorem dX4_key_1 : decode cX4_key 1 = .ok (.iconst 0, 1) := by decide +kernel
theorem dX4_key_2 : decode cX4_key 2 = .ok (.putfield 54, 3) := by decide +kernel
theorem dX4_key_5 : decode cX4_key 5 = .ok (.aload_n 0, 1) := by decide +kernel
theorem dX4_key_6 : decode cX4_key 6 = .ok (.lload_n 1, 1) := by decide +kernel
theorem dX4_key_7 : decode cX4_key 7 = .ok (.putfield 57, 3) := by decide +kernel
theorem dX4_key_10 : decode cX4_key 10 = .ok (.aload_n 0, 1) := by decide +kernel
theorem dX4_key_11 : decode cX4_key 11 = .ok (.lload_n 3, 1) := by decide +kernel
theorem dX4_key_12 : decode cX4_key 12 = .ok (.putfield 61, 3) := by decide +kernel
theorem dX4_key_15 : decode cX4_key 15 = .ok (.return_, 1) := by decide +kernel
theorem dX4_turned_0 : decode cX4_turned 0 = .ok (.lload_n 0, 1) := by decide +kernel
theorem dX4_turned_1 : decode cX4_turned 1 = .ok (.iload_n 2, 1) := by decide +kernel
theorem dX4_turned_2 : decode cX4_turned 2 = .ok (.lshl, 1) := by decide +kernel
theorem dX4_turned_3 : decode cX4_turned 3 = .ok (.lload_n 0, 1) := by decide +kernel
theorem dX4_turned_4 : decode cX4_turned 4 = .ok (.bipush 64, 2) := by decide +kernel
theorem dX4_turned_6 : decode cX4_turned 6 = .ok (.iload_n 2, 1) := by decide +kernel
theorem dX4_turned_7 : decode cX4_turned 7 = .ok (.isub, 1) := by decide +kernel
theorem dX4_turned_8 : decode cX4_turned 8 = .ok (.lushr, 1) := by decide +kernel
theorem dX4_turned_9 : decode cX4_turned 9 = .ok (.lor, 1) := by decide +kernel
theorem dX4_turned_10 : decode cX4_turned 10 = .ok (.lreturn, 1) := by decide +kernel
set_option maxRecDepth 20000 in
theorem ggX4_round_X4_turned : GoodIn wsX4_round wsX4_turned := goodIn_r _ [8] (by decide +kernel) (by decide +kernel)
set_option maxRecDepth 20000 in
theorem gX4_round_X4_turned : GoodIn wsX4_round (va_wsS RX4 70 yX4_turned wsX4_turned) := goodIn_app (goodIn_of _ (by decide +kernel)) ggX4_round_X4_turned
theorem dX4_round_0 : decode cX4_round 0 = .ok (.aload_n 0, 1) := by decide +kernel
theorem dX4_round_1 : decode cX4_round 1 = .ok (.aload_n 0, 1) := by decide +kernel
theorem dX4_round_2 : decode cX4_round 2 = .ok (.getfield 64, 3) := by decide +kernel
theorem dX4_round_5 : decode cX4_round 5 = .ok (.aload_n 0, 1) := by decide +kernel
theorem dX4_round_6 : decode cX4_round 6 = .ok (.getfield 67, 3) := by decide +kernel
theorem dX4_round_9 : decode cX4_round 9 = .ok (.ladd, 1) := by decide +kernel
theorem dX4_round_10 : decode cX4_round 10 = .ok (.putfield 64, 3) := by decide +kernel
theorem dX4_round_13 : decode cX4_round 13 = .ok (.aload_n 0, 1) := by decide +kernel
theorem dX4_round_14 : decode cX4_round 14 = .ok (.aload_n 0, 1) := by decide +kernel
theorem dX4_round_15 : decode cX4_round 15 = .ok (.getfield 67, 3) := by decide +kernel
theorem dX4_round_18 : decode cX4_round 18 = .ok (.bipush 13, 2) := by decide +kernel
theorem dX4_round_20 : decode cX4_round 20 = .ok (.invokestatic 70, 3) := by decide +kernel
theorem dX4_round_23 : decode cX4_round 23 = .ok (.aload_n 0, 1) := by decide +kernel
theorem dX4_round_24 : decode cX4_round 24 = .ok (.getfield 64, 3) := by decide +kernel
theorem dX4_round_27 : decode cX4_round 27 = .ok (.lxor, 1) := by decide +kernel
theorem dX4_round_28 : decode cX4_round 28 = .ok (.putfield 67, 3) := by decide +kernel
theorem dX4_round_31 : decode cX4_round 31 = .ok (.aload_n 0, 1) := by decide +kernel
theorem dX4_round_32 : decode cX4_round 32 = .ok (.aload_n 0, 1) := by decide +kernel
theorem dX4_round_33 : decode cX4_round 33 = .ok (.getfield 64, 3) := by decide +kernel
theorem dX4_round_36 : decode cX4_round 36 = .ok (.bipush 32, 2) := by decide +kernel
theorem dX4_round_38 : decode cX4_round 38 = .ok (.invokestatic 70, 3) := by decide +kernel
theorem dX4_round_41 : decode cX4_round 41 = .ok (.putfield 64, 3) := by decide +kernel
theorem dX4_round_44 : decode cX4_round 44 = .ok (.aload_n 0, 1) := by decide +kernel
theorem dX4_round_45 : decode cX4_round 45 = .ok (.aload_n 0, 1) := by decide +kernel
theorem dX4_round_46 : decode cX4_round 46 = .ok (.getfield 74, 3) := by decide +kernel
theorem dX4_round_49 : decode cX4_round 49 = .ok (.aload_n 0, 1) := by decide +kernel
theorem dX4_round_50 : decode cX4_round 50 = .ok (.getfield 77, 3) := by decide +kernel
theorem dX4_round_53 : decode cX4_round 53 = .ok (.ladd, 1) := by decide +kernel
theorem dX4_round_54 : decode cX4_round 54 = .ok (.putfield 74, 3) := by decide +kernel
theorem dX4_round_57 : decode cX4_round 57 = .ok (.aload_n 0, 1) := by decide +kernel
theorem dX4_round_58 : decode cX4_round 58 = .ok (.aload_n 0, 1) := by decide +kernel
theorem dX4_round_59 : decode cX4_round 59 = .ok (.getfield 77, 3) := by decide +kernel
theorem dX4_round_62 : decode cX4_round 62 = .ok (.bipush 16, 2) := by decide +kernel
theorem dX4_round_64 : decode cX4_round 64 = .ok (.invokestatic 70, 3) := by decide +kernel
theorem dX4_round_67 : decode cX4_round 67 = .ok (.aload_n 0, 1) := by decide +kernel
theorem dX4_round_68 : decode cX4_round 68 = .ok (.getfield 74, 3) := by decide +kernel
theorem dX4_round_71 : decode cX4_round 71 = .ok (.lxor, 1) := by decide +kernel
theorem dX4_round_72 : decode cX4_round 72 = .ok (.putfield 77, 3) := by decide +kernel
theorem dX4_round_75 : decode cX4_round 75 = .ok (.aload_n 0, 1) := by decide +kernel
theorem dX4_round_76 : decode cX4_round 76 = .ok (.aload_n 0, 1) := by decide +kernel
theorem dX4_round_77 : decode cX4_round 77 = .ok (.getfield 64, 3) := by decide +kernel
theorem dX4_round_80 : decode cX4_round 80 = .ok (.aload_n 0, 1) := by decide +kernel
theorem dX4_round_81 : decode cX4_round 81 = .ok (.getfield 77, 3) := by decide +kernel
theorem dX4_round_84 : decode cX4_round 84 = .ok (.ladd, 1) := by decide +kernel
theorem dX4_round_85 : decode cX4_round 85 = .ok (.putfield 64, 3) := by decide +kernel
theorem dX4_round_88 : decode cX4_round 88 = .ok (.aload_n 0, 1) := by decide +kernel
theorem dX4_round_89 : decode cX4_round 89 = .ok (.aload_n 0, 1) := by decide +kernel
theorem dX4_round_90 : decode cX4_round 90 = .ok (.getfield 77, 3) := by decide +kernel
theorem dX4_round_93 : decode cX4_round 93 = .ok (.bipush 21, 2) := by decide +kernel
theorem dX4_round_95 : decode cX4_round 95 = .ok (.invokestatic 70, 3) := by decide +kernel
theorem dX4_round_98 : decode cX4_round 98 = .ok (.aload_n 0, 1) := by decide +kernel
theorem dX4_round_99 : decode cX4_round 99 = .ok (.getfield 64, 3) := by decide +kernel
theorem dX4_round_102 : decode cX4_round 102 = .ok (.lxor, 1) := by decide +kernel
theorem dX4_round_103 : decode cX4_round 103 = .ok (.putfield 77, 3) := by decide +kernel
theorem dX4_round_106 : decode cX4_round 106 = .ok (.aload_n 0, 1) := by decide +kernel
theorem dX4_round_107 : decode cX4_round 107 = .ok (.aload_n 0, 1) := by decide +kernel
theorem dX4_round_108 : decode cX4_round 108 = .ok (.getfield 74, 3) := by decide +kernel
theorem dX4_round_111 : decode cX4_round 111 = .ok (.aload_n 0, 1) := by decide +kernel
theorem dX4_round_112 : decode cX4_round 112 = .ok (.getfield 67, 3) := by decide +kernel
theorem dX4_round_115 : decode cX4_round 115 = .ok (.ladd, 1) := by decide +kernel
theorem dX4_round_116 : decode cX4_round 116 = .ok (.putfield 74, 3) := by decide +kernel
theorem dX4_round_119 : decode cX4_round 119 = .ok (.aload_n 0, 1) := by decide +kernel
theorem dX4_round_120 : decode cX4_round 120 = .ok (.aload_n 0, 1) := by decide +kernel
theorem dX4_round_121 : decode cX4_round 121 = .ok (.getfield 67, 3) := by decide +kernel
theorem dX4_round_124 : decode cX4_round 124 = .ok (.bipush 17, 2) := by decide +kernel
theorem dX4_round_126 : decode cX4_round 126 = .ok (.invokestatic 70, 3) := by decide +kernel
theorem dX4_round_129 : decode cX4_round 129 = .ok (.aload_n 0, 1) := by decide +kernel
theorem dX4_round_130 : decode cX4_round 130 = .ok (.getfield 74, 3) := by decide +kernel
theorem dX4_round_133 : decode cX4_round 133 = .ok (.lxor, 1) := by decide +kernel
theorem dX4_round_134 : decode cX4_round 134 = .ok (.putfield 67, 3) := by decide +kernel
theorem dX4_round_137 : decode cX4_round 137 = .ok (.aload_n 0, 1) := by decide +kernel
theorem dX4_round_138 : decode cX4_round 138 = .ok (.aload_n 0, 1) := by decide +kernel
theorem dX4_round_139 : decode cX4_round 139 = .ok (.getfield 74, 3) := by decide +kernel
theorem dX4_round_142 : decode cX4_round 142 = .ok (.bipush 32, 2) := by decide +kernel
theorem dX4_round_144 : decode cX4_round 144 = .ok (.invokestatic 70, 3) := by decide +kernel
theorem dX4_round_147 : decode cX4_round 147 = .ok (.putfield 74, 3) := by decide +kernel
theorem dX4_round_150 : decode cX4_round 150 = .ok (.return_, 1) := by decide +kernel
set_option maxRecDepth 20000 in
theorem ggX4_take_X4_round : GoodIn wsX4_take wsX4_round := goodIn_r _ [7, 2, 8, 9, 1, 10, 11, 6, 12, 13, 14, 15, 16, 17, 18, 19, 20, 21, 22, 23, 24, 25, 26, 27, 28, 29, 30, 31, 32, 33, 34, 35, 36] (by decide +kernel) (by decide +kernel)
set_option maxRecDepth 20000 in
theorem gX4_take_X4_round : GoodIn wsX4_take (wsV RX4 80 RX4 yX4_round wsX4_round) := goodIn_app (goodIn_of _ (by decide +kernel)) ggX4_take_X4_round
theorem dX4_take_0 : decode cX4_take 0 = .ok (.aload_n 0, 1) := by decide +kernel
theorem dX4_take_1 : decode cX4_take 1 = .ok (.aload_n 0, 1) := by decide +kernel
theorem dX4_take_2 : decode cX4_take 2 = .ok (.getfield 77, 3) := by decide +kernel
theorem dX4_take_5 : decode cX4_take 5 = .ok (.lload_n 1, 1) := by decide +kernel
theorem dX4_take_6 : decode cX4_take 6 = .ok (.lxor, 1) := by decide +kernel
theorem dX4_take_7 : decode cX4_take 7 = .ok (.putfield 77, 3) := by decide +kernel
theorem dX4_take_10 : decode cX4_take 10 = .ok (.aload_n 0, 1) := by decide +kernel
theorem dX4_take_11 : decode cX4_take 11 = .ok (.invokevirtual 80, 3) := by decide +kernel
theorem dX4_take_14 : decode cX4_take 14 = .ok (.aload_n 0, 1) := by decide +kernel
theorem dX4_take_15 : decode cX4_take 15 = .ok (.invokevirtual 80, 3) := by decide +kernel
theorem dX4_take_18 : decode cX4_take 18 = .ok (.aload_n 0, 1) := by decide +kernel
theorem dX4_take_19 : decode cX4_take 19 = .ok (.aload_n 0, 1) := by decide +kernel
theorem dX4_take_20 : decode cX4_take 20 = .ok (.getfield 64, 3) := by decide +kernel
theorem dX4_take_23 : decode cX4_take 23 = .ok (.lload_n 1, 1) := by decide +kernel
theorem dX4_take_24 : decode cX4_take 24 = .ok (.lxor, 1) := by decide +kernel
theorem dX4_take_25 : decode cX4_take 25 = .ok (.putfield 64, 3) := by decide +kernel
theorem dX4_take_28 : decode cX4_take 28 = .ok (.return_, 1) := by decide +kernel
set_option maxRecDepth 20000 in
theorem ggX4_hashOf_X4_take : GoodIn wsX4_hashOf wsX4_take := goodIn_r _ [17, 10, 3, 18, 19, 20, 16, 21, 6, 8, 22, 23, 24, 25, 26, 27, 28, 29, 30, 31, 32, 33, 34, 35, 36, 37, 38, 39, 40, 41, 42, 43, 44, 45, 46, 47, 48] (by decide +kernel) (by decide +kernel)
set_option maxRecDepth 20000 in
theorem gX4_hashOf_X4_take : GoodIn wsX4_hashOf (wsV RX4 91 RX4 yX4_take wsX4_take) := goodIn_app (goodIn_of _ (by decide +kernel)) ggX4_hashOf_X4_take
set_option maxRecDepth 20000 in
theorem ggX4_hashOf_X4_round : GoodIn wsX4_hashOf wsX4_round := goodIn_r _ [21, 3, 6, 8, 10, 22, 23, 16, 24, 25, 26, 27, 28, 29, 30, 31, 32, 33, 34, 35, 36, 37, 38, 39, 40, 41, 42, 43, 44, 45, 46, 47, 48] (by decide +kernel) (by decide +kernel)
set_option maxRecDepth 20000 in
theorem gX4_hashOf_X4_round : GoodIn wsX4_hashOf (wsV RX4 80 RX4 yX4_round wsX4_round) := goodIn_app (goodIn_of _ (by decide +kernel)) ggX4_hashOf_X4_round
theorem dX4_hashOf_0 : decode cX4_hashOf 0 = .ok (.aload_n 0, 1) := by decide +kernel
theorem dX4_hashOf_1 : decode cX4_hashOf 1 = .ok (.aload_n 0, 1) := by decide +kernel
theorem dX4_hashOf_2 : decode cX4_hashOf 2 = .ok (.getfield 57, 3) := by decide +kernel
theorem dX4_hashOf_5 : decode cX4_hashOf 5 = .ok (.ldc2_w 83, 3) := by decide +kernel
theorem dX4_hashOf_8 : decode cX4_hashOf 8 = .ok (.lxor, 1) := by decide +kernel
theorem dX4_hashOf_9 : decode cX4_hashOf 9 = .ok (.putfield 64, 3) := by decide +kernel
theorem dX4_hashOf_12 : decode cX4_hashOf 12 = .ok (.aload_n 0, 1) := by decide +kernel
theorem dX4_hashOf_13 : decode cX4_hashOf 13 = .ok (.aload_n 0, 1) := by decide +kernel
theorem dX4_hashOf_14 : decode cX4_hashOf 14 = .ok (.getfield 61, 3) := by decide +kernel
theorem dX4_hashOf_17 : decode cX4_hashOf 17 = .ok (.ldc2_w 85, 3) := by decide +kernel
theorem dX4_hashOf_20 : decode cX4_hashOf 20 = .ok (.lxor, 1) := by decide +kernel
theorem dX4_hashOf_21 : decode cX4_hashOf 21 = .ok (.putfield 67, 3) := by decide +kernel
theorem dX4_hashOf_24 : decode cX4_hashOf 24 = .ok (.aload_n 0, 1) := by decide +kernel
theorem dX4_hashOf_25 : decode cX4_hashOf 25 = .ok (.aload_n 0, 1) := by decide +kernel
theorem dX4_hashOf_26 : decode cX4_hashOf 26 = .ok (.getfield 57, 3) := by decide +kernel
theorem dX4_hashOf_29 : decode cX4_hashOf 29 = .ok (.ldc2_w 87, 3) := by decide +kernel
theorem dX4_hashOf_32 : decode cX4_hashOf 32 = .ok (.lxor, 1) := by decide +kernel
theorem dX4_hashOf_33 : decode cX4_hashOf 33 = .ok (.putfield 74, 3) := by decide +kernel
theorem dX4_hashOf_36 : decode cX4_hashOf 36 = .ok (.aload_n 0, 1) := by decide +kernel
theorem dX4_hashOf_37 : decode cX4_hashOf 37 = .ok (.aload_n 0, 1) := by decide +kernel
theorem dX4_hashOf_38 : decode cX4_hashOf 38 = .ok (.getfield 61, 3) := by decide +kernel
theorem dX4_hashOf_41 : decode cX4_hashOf 41 = .ok (.ldc2_w 89, 3) := by decide +kernel
theorem dX4_hashOf_44 : decode cX4_hashOf 44 = .ok (.lxor, 1) := by decide +kernel
theorem dX4_hashOf_45 : decode cX4_hashOf 45 = .ok (.putfield 77, 3) := by decide +kernel
theorem dX4_hashOf_48 : decode cX4_hashOf 48 = .ok (.aload_n 0, 1) := by decide +kernel
theorem dX4_hashOf_49 : decode cX4_hashOf 49 = .ok (.lload_n 1, 1) := by decide +kernel
theorem dX4_hashOf_50 : decode cX4_hashOf 50 = .ok (.invokevirtual 91, 3) := by decide +kernel
theorem dX4_hashOf_53 : decode cX4_hashOf 53 = .ok (.aload_n 0, 1) := by decide +kernel
theorem dX4_hashOf_54 : decode cX4_hashOf 54 = .ok (.lload_n 3, 1) := by decide +kernel
theorem dX4_hashOf_55 : decode cX4_hashOf 55 = .ok (.invokevirtual 91, 3) := by decide +kernel
theorem dX4_hashOf_58 : decode cX4_hashOf 58 = .ok (.aload_n 0, 1) := by decide +kernel
theorem dX4_hashOf_59 : decode cX4_hashOf 59 = .ok (.ldc2_w 95, 3) := by decide +kernel
theorem dX4_hashOf_62 : decode cX4_hashOf 62 = .ok (.invokevirtual 91, 3) := by decide +kernel
theorem dX4_hashOf_65 : decode cX4_hashOf 65 = .ok (.aload_n 0, 1) := by decide +kernel
theorem dX4_hashOf_66 : decode cX4_hashOf 66 = .ok (.aload_n 0, 1) := by decide +kernel
theorem dX4_hashOf_67 : decode cX4_hashOf 67 = .ok (.getfield 74, 3) := by decide +kernel
theorem dX4_hashOf_70 : decode cX4_hashOf 70 = .ok (.ldc2_w 97, 3) := by decide +kernel
theorem dX4_hashOf_73 : decode cX4_hashOf 73 = .ok (.lxor, 1) := by decide +kernel
theorem dX4_hashOf_74 : decode cX4_hashOf 74 = .ok (.putfield 74, 3) := by decide +kernel
theorem dX4_hashOf_77 : decode cX4_hashOf 77 = .ok (.iconst 0, 1) := by decide +kernel
theorem dX4_hashOf_78 : decode cX4_hashOf 78 = .ok (.istore 5, 2) := by decide +kernel
theorem dX4_hashOf_80 : decode cX4_hashOf 80 = .ok (.iload 5, 2) := by decide +kernel
theorem dX4_hashOf_82 : decode cX4_hashOf 82 = .ok (.iconst 4, 1) := by decide +kernel
theorem dX4_hashOf_83 : decode cX4_hashOf 83 = .ok (.if_icmp .ge 13, 3) := by decide +kernel
theorem dX4_hashOf_86 : decode cX4_hashOf 86 = .ok (.aload_n 0, 1) := by decide +kernel
theorem dX4_hashOf_87 : decode cX4_hashOf 87 = .ok (.invokevirtual 80, 3) := by decide +kernel
theorem dX4_hashOf_90 : decode cX4_hashOf 90 = .ok (.iinc 5 1, 3) := by decide +kernel
theorem dX4_hashOf_93 : decode cX4_hashOf 93 = .ok (.goto (-13), 3) := by decide +kernel
theorem dX4_hashOf_96 : decode cX4_hashOf 96 = .ok (.aload_n 0, 1) := by decide +kernel
theorem dX4_hashOf_97 : decode cX4_hashOf 97 = .ok (.getfield 64, 3) := by decide +kernel
theorem dX4_hashOf_100 : decode cX4_hashOf 100 = .ok (.aload_n 0, 1) := by decide +kernel
theorem dX4_hashOf_101 : decode cX4_hashOf 101 = .ok (.getfield 67, 3) := by decide +kernel
theorem dX4_hashOf_104 : decode cX4_hashOf 104 = .ok (.lxor, 1) := by decide +kernel
theorem dX4_hashOf_105 : decode cX4_hashOf 105 = .ok (.aload_n 0, 1) := by decide +kernel
theorem dX4_hashOf_106 : decode cX4_hashOf 106 = .ok (.getfield 74, 3) := by decide +kernel
theorem dX4_hashOf_109 : decode cX4_hashOf 109 = .ok (.lxor, 1) := by decide +kernel
theorem dX4_hashOf_110 : decode cX4_hashOf 110 = .ok (.aload_n 0, 1) := by decide +kernel
theorem dX4_hashOf_111 : decode cX4_hashOf 111 = .ok (.getfield 77, 3) := by decide +kernel
theorem dX4_hashOf_114 : decode cX4_hashOf 114 = .ok (.lxor, 1) := by decide +kernel
theorem dX4_hashOf_115 : decode cX4_hashOf 115 = .ok (.lreturn, 1) := by decide +kernel
set_option maxRecDepth 20000 in
theorem ggX4_hash_X4_hashOf : GoodIn wsX4_hash wsX4_hashOf := goodIn_r _ [6, 7, 8, 9, 10, 11, 12, 13, 14, 15, 16, 17, 18, 19, 20, 21, 5, 22, 23, 24, 25, 26, 27, 28, 29, 30, 31, 32, 33, 34, 35, 36, 37, 38, 39, 40, 41, 42, 43, 44, 45, 46, 47, 48, 49, 50, 51, 52, 53] (by decide +kernel) (by decide +kernel)
set_option maxRecDepth 20000 in
theorem gX4_hash_X4_hashOf : GoodIn wsX4_hash (wsV RX4 99 RX4 yX4_hashOf wsX4_hashOf) := goodIn_app (goodIn_of _ (by decide +kernel)) ggX4_hash_X4_hashOf
theorem dX4_hash_0 : decode cX4_hash 0 = .ok (.aload_n 0, 1) := by decide +kernel
theorem dX4_hash_1 : decode cX4_hash 1 = .ok (.iconst 0, 1) := by decide +kernel
theorem dX4_hash_2 : decode cX4_hash 2 = .ok (.putfield 54, 3) := by decide +kernel
theorem dX4_hash_5 : decode cX4_hash 5 = .ok (.aload_n 0, 1) := by decide +kernel
theorem dX4_hash_6 : decode cX4_hash 6 = .ok (.lload_n 1, 1) := by decide +kernel
theorem dX4_hash_7 : decode cX4_hash 7 = .ok (.lload_n 3, 1) := by decide +kernel
theorem dX4_hash_8 : decode cX4_hash 8 = .ok (.invokevirtual 99, 3) := by decide +kernel
theorem dX4_hash_11 : decode cX4_hash 11 = .ok (.lreturn, 1) := by decide +kernel
set_option maxRecDepth 20000 in
theorem ggX4_cookieOf_X4_hashOf : GoodIn wsX4_cookieOf wsX4_hashOf := goodIn_r _ [9, 10, 11, 12, 13, 14, 15, 16, 17, 18, 19, 20, 21, 22, 23, 24, 8, 25, 26, 27, 28, 29, 30, 31, 32, 33, 34, 35, 36, 37, 38, 39, 40, 41, 42, 43, 44, 45, 46, 47, 48, 49, 50, 51, 52, 53, 54, 55, 56] (by decide +kernel) (by decide +kernel)
set_option maxRecDepth 20000 in
theorem gX4_cookieOf_X4_hashOf : GoodIn wsX4_cookieOf (wsV RX4 99 RX4 yX4_hashOf wsX4_hashOf) := goodIn_app (goodIn_of _ (by decide +kernel)) ggX4_cookieOf_X4_hashOf
theorem dX4_cookieOf_0 : decode cX4_cookieOf 0 = .ok (.iload_n 1, 1) := by decide +kernel
theorem dX4_cookieOf_1 : decode cX4_cookieOf 1 = .ok (.i2l, 1) := by decide +kernel
theorem dX4_cookieOf_2 : decode cX4_cookieOf 2 = .ok (.bipush 32, 2) := by decide +kernel
theorem dX4_cookieOf_4 : decode cX4_cookieOf 4 = .ok (.lshl, 1) := by decide +kernel
theorem dX4_cookieOf_5 : decode cX4_cookieOf 5 = .ok (.iload_n 3, 1) := by decide +kernel
theorem dX4_cookieOf_6 : decode cX4_cookieOf 6 = .ok (.i2l, 1) := by decide +kernel
theorem dX4_cookieOf_7 : decode cX4_cookieOf 7 = .ok (.ldc2_w 103, 3) := by decide +kernel
theorem dX4_cookieOf_10 : decode cX4_cookieOf 10 = .ok (.land, 1) := by decide +kernel
theorem dX4_cookieOf_11 : decode cX4_cookieOf 11 = .ok (.lor, 1) := by decide +kernel
theorem dX4_cookieOf_12 : decode cX4_cookieOf 12 = .ok (.lstore 6, 2) := by decide +kernel
theorem dX4_cookieOf_14 : decode cX4_cookieOf 14 = .ok (.iload_n 2, 1) := by decide +kernel
theorem dX4_cookieOf_15 : decode cX4_cookieOf 15 = .ok (.i2l, 1) := by decide +kernel
theorem dX4_cookieOf_16 : decode cX4_cookieOf 16 = .ok (.ldc2_w 105, 3) := by decide +kernel
theorem dX4_cookieOf_19 : decode cX4_cookieOf 19 = .ok (.iload 4, 2) := by decide +kernel
theorem dX4_cookieOf_21 : decode cX4_cookieOf 21 = .ok (.i2l, 1) := by decide +kernel
theorem dX4_cookieOf_22 : decode cX4_cookieOf 22 = .ok (.lmul, 1) := by decide +kernel
theorem dX4_cookieOf_23 : decode cX4_cookieOf 23 = .ok (.ladd, 1) := by decide +kernel
theorem dX4_cookieOf_24 : decode cX4_cookieOf 24 = .ok (.ldc2_w 107, 3) := by decide +kernel
theorem dX4_cookieOf_27 : decode cX4_cookieOf 27 = .ok (.iload 5, 2) := by decide +kernel
theorem dX4_cookieOf_29 : decode cX4_cookieOf 29 = .ok (.i2l, 1) := by decide +kernel
theorem dX4_cookieOf_30 : decode cX4_cookieOf 30 = .ok (.lmul, 1) := by decide +kernel
theorem dX4_cookieOf_31 : decode cX4_cookieOf 31 = .ok (.ladd, 1) := by decide +kernel
theorem dX4_cookieOf_32 : decode cX4_cookieOf 32 = .ok (.lstore 8, 2) := by decide +kernel
theorem dX4_cookieOf_34 : decode cX4_cookieOf 34 = .ok (.aload_n 0, 1) := by decide +kernel
theorem dX4_cookieOf_35 : decode cX4_cookieOf 35 = .ok (.lload 6, 2) := by decide +kernel
theorem dX4_cookieOf_37 : decode cX4_cookieOf 37 = .ok (.lload 8, 2) := by decide +kernel
theorem dX4_cookieOf_39 : decode cX4_cookieOf 39 = .ok (.invokevirtual 99, 3) := by decide +kernel
theorem dX4_cookieOf_42 : decode cX4_cookieOf 42 = .ok (.ldc2_w 109, 3) := by decide +kernel
theorem dX4_cookieOf_45 : decode cX4_cookieOf 45 = .ok (.land, 1) := by decide +kernel
theorem dX4_cookieOf_46 : decode cX4_cookieOf 46 = .ok (.l2i, 1) := by decide +kernel
theorem dX4_cookieOf_47 : decode cX4_cookieOf 47 = .ok (.istore 10, 2) := by decide +kernel
theorem dX4_cookieOf_49 : decode cX4_cookieOf 49 = .ok (.iload 5, 2) := by decide +kernel
theorem dX4_cookieOf_51 : decode cX4_cookieOf 51 = .ok (.bipush 32, 2) := by decide +kernel
theorem dX4_cookieOf_53 : decode cX4_cookieOf 53 = .ok (.irem, 1) := by decide +kernel
theorem dX4_cookieOf_54 : decode cX4_cookieOf 54 = .ok (.bipush 27, 2) := by decide +kernel
theorem dX4_cookieOf_56 : decode cX4_cookieOf 56 = .ok (.ishl, 1) := by decide +kernel
theorem dX4_cookieOf_57 : decode cX4_cookieOf 57 = .ok (.iload 4, 2) := by decide +kernel
theorem dX4_cookieOf_59 : decode cX4_cookieOf 59 = .ok (.bipush 24, 2) := by decide +kernel
theorem dX4_cookieOf_61 : decode cX4_cookieOf 61 = .ok (.ishl, 1) := by decide +kernel
theorem dX4_cookieOf_62 : decode cX4_cookieOf 62 = .ok (.ior, 1) := by decide +kernel
theorem dX4_cookieOf_63 : decode cX4_cookieOf 63 = .ok (.iload 10, 2) := by decide +kernel
theorem dX4_cookieOf_65 : decode cX4_cookieOf 65 = .ok (.ior, 1) := by decide +kernel
theorem dX4_cookieOf_66 : decode cX4_cookieOf 66 = .ok (.ireturn, 1) := by decide +kernel
theorem dX4_noPort_0 : decode cX4_noPort 0 = .ok (.iload_n 0, 1) := by decide +kernel
theorem dX4_noPort_1 : decode cX4_noPort 1 = .ok (.ifCond .lt 9, 3) := by decide +kernel
theorem dX4_noPort_4 : decode cX4_noPort 4 = .ok (.iload_n 0, 1) := by decide +kernel
theorem dX4_noPort_5 : decode cX4_noPort 5 = .ok (.ldc 111, 2) := by decide +kernel
theorem dX4_noPort_7 : decode cX4_noPort 7 = .ok (.if_icmp .le 7, 3) := by decide +kernel
theorem dX4_noPort_10 : decode cX4_noPort 10 = .ok (.iconst 1, 1) := by decide +kernel
theorem dX4_noPort_11 : decode cX4_noPort 11 = .ok (.goto 4, 3) := by decide +kernel
theorem dX4_noPort_14 : decode cX4_noPort 14 = .ok (.iconst 0, 1) := by decide +kernel
theorem dX4_noPort_15 : decode cX4_noPort 15 = .ok (.ireturn, 1) := by decide +kernel
set_option maxRecDepth 20000 in
theorem ggX4_cookie_X4_noPort : GoodIn wsX4_cookie wsX4_noPort := goodIn_r _ [6, 7] (by decide +kernel) (by decide +kernel)
set_option maxRecDepth 20000 in
theorem gX4_cookie_X4_noPort : GoodIn wsX4_cookie (va_wsS RX4 112 yX4_noPort wsX4_noPort) := goodIn_app (goodIn_of _ (by decide +kernel)) ggX4_cookie_X4_noPort
set_option maxRecDepth 20000 in
theorem ggX4_cookie_X4_cookieOf : GoodIn wsX4_cookie wsX4_cookieOf := goodIn_r _ [11, 2, 12, 13, 14, 15, 16, 17, 5, 18, 19, 20, 21, 22, 23, 24, 25, 26, 27, 28, 29, 30, 31, 32, 33, 34, 35, 36, 37, 38, 39, 40, 41, 42, 43, 44, 45, 46, 47, 48, 49, 50, 51, 52, 53, 54, 55, 56, 57, 58, 59, 60, 61, 62, 63, 64, 65] (by decide +kernel) (by decide +kernel)
set_option maxRecDepth 20000 in
theorem gX4_cookie_X4_cookieOf : GoodIn wsX4_cookie (wsV RX4 116 RX4 yX4_cookieOf wsX4_cookieOf) := goodIn_app (goodIn_of _ (by decide +kernel)) ggX4_cookie_X4_cookieOf
theorem dX4_cookie_0 : decode cX4_cookie 0 = .ok (.aload_n 0, 1) := by decide +kernel
theorem dX4_cookie_1 : decode cX4_cookie 1 = .ok (.iload_n 2, 1) := by decide +kernel
theorem dX4_cookie_2 : decode cX4_cookie 2 = .ok (.invokestatic 112, 3) := by decide +kernel
theorem dX4_cookie_5 : decode cX4_cookie 5 = .ok (.ifCond .ne 20, 3) := by decide +kernel
theorem dX4_cookie_8 : decode cX4_cookie 8 = .ok (.iload 4, 2) := by decide +kernel
theorem dX4_cookie_10 : decode cX4_cookie 10 = .ok (.ifCond .lt 15, 3) := by decide +kernel
theorem dX4_cookie_13 : decode cX4_cookie 13 = .ok (.iload 4, 2) := by decide +kernel
theorem dX4_cookie_15 : decode cX4_cookie 15 = .ok (.bipush 7, 2) := by decide +kernel
theorem dX4_cookie_17 : decode cX4_cookie 17 = .ok (.if_icmp .gt 8, 3) := by decide +kernel
theorem dX4_cookie_20 : decode cX4_cookie 20 = .ok (.iload 5, 2) := by decide +kernel
theorem dX4_cookie_22 : decode cX4_cookie 22 = .ok (.ifCond .ge 7, 3) := by decide +kernel
theorem dX4_cookie_25 : decode cX4_cookie 25 = .ok (.iconst 1, 1) := by decide +kernel
theorem dX4_cookie_26 : decode cX4_cookie 26 = .ok (.goto 4, 3) := by decide +kernel
theorem dX4_cookie_29 : decode cX4_cookie 29 = .ok (.iconst 0, 1) := by decide +kernel
theorem dX4_cookie_30 : decode cX4_cookie 30 = .ok (.putfield 54, 3) := by decide +kernel
theorem dX4_cookie_33 : decode cX4_cookie 33 = .ok (.aload_n 0, 1) := by decide +kernel
theorem dX4_cookie_34 : decode cX4_cookie 34 = .ok (.getfield 54, 3) := by decide +kernel
theorem dX4_cookie_37 : decode cX4_cookie 37 = .ok (.ifCond .le 7, 3) := by decide +kernel
theorem dX4_cookie_40 : decode cX4_cookie 40 = .ok (.lconst 0, 1) := by decide +kernel
theorem dX4_cookie_41 : decode cX4_cookie 41 = .ok (.goto 19, 3) := by decide +kernel
theorem dX4_cookie_44 : decode cX4_cookie 44 = .ok (.aload_n 0, 1) := by decide +kernel
theorem dX4_cookie_45 : decode cX4_cookie 45 = .ok (.iload_n 1, 1) := by decide +kernel
theorem dX4_cookie_46 : decode cX4_cookie 46 = .ok (.iload_n 2, 1) := by decide +kernel
theorem dX4_cookie_47 : decode cX4_cookie 47 = .ok (.iload_n 3, 1) := by decide +kernel
theorem dX4_cookie_48 : decode cX4_cookie 48 = .ok (.iload 4, 2) := by decide +kernel
theorem dX4_cookie_50 : decode cX4_cookie 50 = .ok (.iload 5, 2) := by decide +kernel
theorem dX4_cookie_52 : decode cX4_cookie 52 = .ok (.invokevirtual 116, 3) := by decide +kernel
theorem dX4_cookie_55 : decode cX4_cookie 55 = .ok (.i2l, 1) := by decide +kernel
theorem dX4_cookie_56 : decode cX4_cookie 56 = .ok (.ldc2_w 103, 3) := by decide +kernel
theorem dX4_cookie_59 : decode cX4_cookie 59 = .ok (.land, 1) := by decide +kernel
theorem dX4_cookie_60 : decode cX4_cookie 60 = .ok (.lreturn, 1) := by decide +kernel
theorem dX4_half_0 : decode cX4_half 0 = .ok (.iconst 0, 1) := by decide +kernel
theorem dX4_half_1 : decode cX4_half 1 = .ok (.istore_n 3, 1) := by decide +kernel
theorem dX4_half_2 : decode cX4_half 2 = .ok (.iload_n 3, 1) := by decide +kernel
theorem dX4_half_3 : decode cX4_half 3 = .ok (.aload_n 0, 1) := by decide +kernel
theorem dX4_half_4 : decode cX4_half 4 = .ok (.getfield 120, 3) := by decide +kernel
theorem dX4_half_7 : decode cX4_half 7 = .ok (.if_icmp .ge 31, 3) := by decide +kernel
theorem dX4_half_10 : decode cX4_half 10 = .ok (.aload_n 0, 1) := by decide +kernel
theorem dX4_half_11 : decode cX4_half 11 = .ok (.getfield 19, 3) := by decide +kernel
theorem dX4_half_14 : decode cX4_half 14 = .ok (.iload_n 3, 1) := by decide +kernel
theorem dX4_half_15 : decode cX4_half 15 = .ok (.iaload, 1) := by decide +kernel
theorem dX4_half_16 : decode cX4_half 16 = .ok (.iload_n 1, 1) := by decide +kernel
theorem dX4_half_17 : decode cX4_half 17 = .ok (.if_icmp .ne 15, 3) := by decide +kernel
theorem dX4_half_20 : decode cX4_half 20 = .ok (.aload_n 0, 1) := by decide +kernel
theorem dX4_half_21 : decode cX4_half 21 = .ok (.getfield 23, 3) := by decide +kernel
theorem dX4_half_24 : decode cX4_half 24 = .ok (.iload_n 3, 1) := by decide +kernel
theorem dX4_half_25 : decode cX4_half 25 = .ok (.iaload, 1) := by decide +kernel
theorem dX4_half_26 : decode cX4_half 26 = .ok (.iload_n 2, 1) := by decide +kernel
theorem dX4_half_27 : decode cX4_half 27 = .ok (.if_icmp .ne 5, 3) := by decide +kernel
theorem dX4_half_30 : decode cX4_half 30 = .ok (.iload_n 3, 1) := by decide +kernel
theorem dX4_half_31 : decode cX4_half 31 = .ok (.ireturn, 1) := by decide +kernel
theorem dX4_half_32 : decode cX4_half 32 = .ok (.iinc 3 1, 3) := by decide +kernel
theorem dX4_half_35 : decode cX4_half 35 = .ok (.goto (-33), 3) := by decide +kernel
theorem dX4_half_38 : decode cX4_half 38 = .ok (.iconst (-1), 1) := by decide +kernel
theorem dX4_half_39 : decode cX4_half 39 = .ok (.ireturn, 1) := by decide +kernel
theorem dX4_opened_0 : decode cX4_opened 0 = .ok (.iconst 0, 1) := by decide +kernel
theorem dX4_opened_1 : decode cX4_opened 1 = .ok (.istore_n 3, 1) := by decide +kernel
theorem dX4_opened_2 : decode cX4_opened 2 = .ok (.iload_n 3, 1) := by decide +kernel
theorem dX4_opened_3 : decode cX4_opened 3 = .ok (.aload_n 0, 1) := by decide +kernel
theorem dX4_opened_4 : decode cX4_opened 4 = .ok (.getfield 123, 3) := by decide +kernel
theorem dX4_opened_7 : decode cX4_opened 7 = .ok (.if_icmp .ge 31, 3) := by decide +kernel
theorem dX4_opened_10 : decode cX4_opened 10 = .ok (.aload_n 0, 1) := by decide +kernel
theorem dX4_opened_11 : decode cX4_opened 11 = .ok (.getfield 38, 3) := by decide +kernel
theorem dX4_opened_14 : decode cX4_opened 14 = .ok (.iload_n 3, 1) := by decide +kernel
theorem dX4_opened_15 : decode cX4_opened 15 = .ok (.iaload, 1) := by decide +kernel
theorem dX4_opened_16 : decode cX4_opened 16 = .ok (.iload_n 1, 1) := by decide +kernel
theorem dX4_opened_17 : decode cX4_opened 17 = .ok (.if_icmp .ne 15, 3) := by decide +kernel
theorem dX4_opened_20 : decode cX4_opened 20 = .ok (.aload_n 0, 1) := by decide +kernel
theorem dX4_opened_21 : decode cX4_opened 21 = .ok (.getfield 41, 3) := by decide +kernel
theorem dX4_opened_24 : decode cX4_opened 24 = .ok (.iload_n 3, 1) := by decide +kernel
theorem dX4_opened_25 : decode cX4_opened 25 = .ok (.iaload, 1) := by decide +kernel
theorem dX4_opened_26 : decode cX4_opened 26 = .ok (.iload_n 2, 1) := by decide +kernel
theorem dX4_opened_27 : decode cX4_opened 27 = .ok (.if_icmp .ne 5, 3) := by decide +kernel
theorem dX4_opened_30 : decode cX4_opened 30 = .ok (.iload_n 3, 1) := by decide +kernel
theorem dX4_opened_31 : decode cX4_opened 31 = .ok (.ireturn, 1) := by decide +kernel
theorem dX4_opened_32 : decode cX4_opened 32 = .ok (.iinc 3 1, 3) := by decide +kernel
theorem dX4_opened_35 : decode cX4_opened 35 = .ok (.goto (-33), 3) := by decide +kernel
theorem dX4_opened_38 : decode cX4_opened 38 = .ok (.iconst (-1), 1) := by decide +kernel
theorem dX4_opened_39 : decode cX4_opened 39 = .ok (.ireturn, 1) := by decide +kernel
theorem dX4_dropHalf_0 : decode cX4_dropHalf 0 = .ok (.aload_n 0, 1) := by decide +kernel
theorem dX4_dropHalf_1 : decode cX4_dropHalf 1 = .ok (.dup, 1) := by decide +kernel
theorem dX4_dropHalf_2 : decode cX4_dropHalf 2 = .ok (.getfield 120, 3) := by decide +kernel
theorem dX4_dropHalf_5 : decode cX4_dropHalf 5 = .ok (.iconst 1, 1) := by decide +kernel
theorem dX4_dropHalf_6 : decode cX4_dropHalf 6 = .ok (.isub, 1) := by decide +kernel
theorem dX4_dropHalf_7 : decode cX4_dropHalf 7 = .ok (.putfield 120, 3) := by decide +kernel
theorem dX4_dropHalf_10 : decode cX4_dropHalf 10 = .ok (.iload_n 1, 1) := by decide +kernel
theorem dX4_dropHalf_11 : decode cX4_dropHalf 11 = .ok (.istore_n 2, 1) := by decide +kernel
theorem dX4_dropHalf_12 : decode cX4_dropHalf 12 = .ok (.iload_n 2, 1) := by decide +kernel
theorem dX4_dropHalf_13 : decode cX4_dropHalf 13 = .ok (.aload_n 0, 1) := by decide +kernel
theorem dX4_dropHalf_14 : decode cX4_dropHalf 14 = .ok (.getfield 120, 3) := by decide +kernel
theorem dX4_dropHalf_17 : decode cX4_dropHalf 17 = .ok (.if_icmp .ge 93, 3) := by decide +kernel
theorem dX4_dropHalf_20 : decode cX4_dropHalf 20 = .ok (.aload_n 0, 1) := by decide +kernel
theorem dX4_dropHalf_21 : decode cX4_dropHalf 21 = .ok (.getfield 19, 3) := by decide +kernel
theorem dX4_dropHalf_24 : decode cX4_dropHalf 24 = .ok (.iload_n 2, 1) := by decide +kernel
theorem dX4_dropHalf_25 : decode cX4_dropHalf 25 = .ok (.aload_n 0, 1) := by decide +kernel
theorem dX4_dropHalf_26 : decode cX4_dropHalf 26 = .ok (.getfield 19, 3) := by decide +kernel
theorem dX4_dropHalf_29 : decode cX4_dropHalf 29 = .ok (.iload_n 2, 1) := by decide +kernel
theorem dX4_dropHalf_30 : decode cX4_dropHalf 30 = .ok (.iconst 1, 1) := by decide +kernel
theorem dX4_dropHalf_31 : decode cX4_dropHalf 31 = .ok (.iadd, 1) := by decide +kernel
theorem dX4_dropHalf_32 : decode cX4_dropHalf 32 = .ok (.iaload, 1) := by decide +kernel
theorem dX4_dropHalf_33 : decode cX4_dropHalf 33 = .ok (.iastore, 1) := by decide +kernel
theorem dX4_dropHalf_34 : decode cX4_dropHalf 34 = .ok (.aload_n 0, 1) := by decide +kernel
theorem dX4_dropHalf_35 : decode cX4_dropHalf 35 = .ok (.getfield 23, 3) := by decide +kernel
theorem dX4_dropHalf_38 : decode cX4_dropHalf 38 = .ok (.iload_n 2, 1) := by decide +kernel
theorem dX4_dropHalf_39 : decode cX4_dropHalf 39 = .ok (.aload_n 0, 1) := by decide +kernel
theorem dX4_dropHalf_40 : decode cX4_dropHalf 40 = .ok (.getfield 23, 3) := by decide +kernel
theorem dX4_dropHalf_43 : decode cX4_dropHalf 43 = .ok (.iload_n 2, 1) := by decide +kernel
theorem dX4_dropHalf_44 : decode cX4_dropHalf 44 = .ok (.iconst 1, 1) := by decide +kernel
theorem dX4_dropHalf_45 : decode cX4_dropHalf 45 = .ok (.iadd, 1) := by decide +kernel
theorem dX4_dropHalf_46 : decode cX4_dropHalf 46 = .ok (.iaload, 1) := by decide +kernel
theorem dX4_dropHalf_47 : decode cX4_dropHalf 47 = .ok (.iastore, 1) := by decide +kernel
theorem dX4_dropHalf_48 : decode cX4_dropHalf 48 = .ok (.aload_n 0, 1) := by decide +kernel
theorem dX4_dropHalf_49 : decode cX4_dropHalf 49 = .ok (.getfield 26, 3) := by decide +kernel
theorem dX4_dropHalf_52 : decode cX4_dropHalf 52 = .ok (.iload_n 2, 1) := by decide +kernel
theorem dX4_dropHalf_53 : decode cX4_dropHalf 53 = .ok (.aload_n 0, 1) := by decide +kernel
theorem dX4_dropHalf_54 : decode cX4_dropHalf 54 = .ok (.getfield 26, 3) := by decide +kernel
theorem dX4_dropHalf_57 : decode cX4_dropHalf 57 = .ok (.iload_n 2, 1) := by decide +kernel
theorem dX4_dropHalf_58 : decode cX4_dropHalf 58 = .ok (.iconst 1, 1) := by decide +kernel
theorem dX4_dropHalf_59 : decode cX4_dropHalf 59 = .ok (.iadd, 1) := by decide +kernel
theorem dX4_dropHalf_60 : decode cX4_dropHalf 60 = .ok (.iaload, 1) := by decide +kernel
theorem dX4_dropHalf_61 : decode cX4_dropHalf 61 = .ok (.iastore, 1) := by decide +kernel
theorem dX4_dropHalf_62 : decode cX4_dropHalf 62 = .ok (.aload_n 0, 1) := by decide +kernel
theorem dX4_dropHalf_63 : decode cX4_dropHalf 63 = .ok (.getfield 29, 3) := by decide +kernel
theorem dX4_dropHalf_66 : decode cX4_dropHalf 66 = .ok (.iload_n 2, 1) := by decide +kernel
theorem dX4_dropHalf_67 : decode cX4_dropHalf 67 = .ok (.aload_n 0, 1) := by decide +kernel
theorem dX4_dropHalf_68 : decode cX4_dropHalf 68 = .ok (.getfield 29, 3) := by decide +kernel
theorem dX4_dropHalf_71 : decode cX4_dropHalf 71 = .ok (.iload_n 2, 1) := by decide +kernel
theorem dX4_dropHalf_72 : decode cX4_dropHalf 72 = .ok (.iconst 1, 1) := by decide +kernel
theorem dX4_dropHalf_73 : decode cX4_dropHalf 73 = .ok (.iadd, 1) := by decide +kernel
theorem dX4_dropHalf_74 : decode cX4_dropHalf 74 = .ok (.iaload, 1) := by decide +kernel
theorem dX4_dropHalf_75 : decode cX4_dropHalf 75 = .ok (.iastore, 1) := by decide +kernel
theorem dX4_dropHalf_76 : decode cX4_dropHalf 76 = .ok (.aload_n 0, 1) := by decide +kernel
theorem dX4_dropHalf_77 : decode cX4_dropHalf 77 = .ok (.getfield 32, 3) := by decide +kernel
theorem dX4_dropHalf_80 : decode cX4_dropHalf 80 = .ok (.iload_n 2, 1) := by decide +kernel
theorem dX4_dropHalf_81 : decode cX4_dropHalf 81 = .ok (.aload_n 0, 1) := by decide +kernel
theorem dX4_dropHalf_82 : decode cX4_dropHalf 82 = .ok (.getfield 32, 3) := by decide +kernel
theorem dX4_dropHalf_85 : decode cX4_dropHalf 85 = .ok (.iload_n 2, 1) := by decide +kernel
theorem dX4_dropHalf_86 : decode cX4_dropHalf 86 = .ok (.iconst 1, 1) := by decide +kernel
theorem dX4_dropHalf_87 : decode cX4_dropHalf 87 = .ok (.iadd, 1) := by decide +kernel
theorem dX4_dropHalf_88 : decode cX4_dropHalf 88 = .ok (.iaload, 1) := by decide +kernel
theorem dX4_dropHalf_89 : decode cX4_dropHalf 89 = .ok (.iastore, 1) := by decide +kernel
theorem dX4_dropHalf_90 : decode cX4_dropHalf 90 = .ok (.aload_n 0, 1) := by decide +kernel
theorem dX4_dropHalf_91 : decode cX4_dropHalf 91 = .ok (.getfield 35, 3) := by decide +kernel
theorem dX4_dropHalf_94 : decode cX4_dropHalf 94 = .ok (.iload_n 2, 1) := by decide +kernel
theorem dX4_dropHalf_95 : decode cX4_dropHalf 95 = .ok (.aload_n 0, 1) := by decide +kernel
theorem dX4_dropHalf_96 : decode cX4_dropHalf 96 = .ok (.getfield 35, 3) := by decide +kernel
theorem dX4_dropHalf_99 : decode cX4_dropHalf 99 = .ok (.iload_n 2, 1) := by decide +kernel
theorem dX4_dropHalf_100 : decode cX4_dropHalf 100 = .ok (.iconst 1, 1) := by decide +kernel
theorem dX4_dropHalf_101 : decode cX4_dropHalf 101 = .ok (.iadd, 1) := by decide +kernel
theorem dX4_dropHalf_102 : decode cX4_dropHalf 102 = .ok (.iaload, 1) := by decide +kernel
theorem dX4_dropHalf_103 : decode cX4_dropHalf 103 = .ok (.iastore, 1) := by decide +kernel
theorem dX4_dropHalf_104 : decode cX4_dropHalf 104 = .ok (.iinc 2 1, 3) := by decide +kernel
theorem dX4_dropHalf_107 : decode cX4_dropHalf 107 = .ok (.goto (-95), 3) := by decide +kernel
theorem dX4_dropHalf_110 : decode cX4_dropHalf 110 = .ok (.return_, 1) := by decide +kernel
theorem dX4_dropOpen_0 : decode cX4_dropOpen 0 = .ok (.aload_n 0, 1) := by decide +kernel
theorem dX4_dropOpen_1 : decode cX4_dropOpen 1 = .ok (.dup, 1) := by decide +kernel
theorem dX4_dropOpen_2 : decode cX4_dropOpen 2 = .ok (.getfield 123, 3) := by decide +kernel
theorem dX4_dropOpen_5 : decode cX4_dropOpen 5 = .ok (.iconst 1, 1) := by decide +kernel
theorem dX4_dropOpen_6 : decode cX4_dropOpen 6 = .ok (.isub, 1) := by decide +kernel
theorem dX4_dropOpen_7 : decode cX4_dropOpen 7 = .ok (.putfield 123, 3) := by decide +kernel
theorem dX4_dropOpen_10 : decode cX4_dropOpen 10 = .ok (.iload_n 1, 1) := by decide +kernel
theorem dX4_dropOpen_11 : decode cX4_dropOpen 11 = .ok (.istore_n 2, 1) := by decide +kernel
theorem dX4_dropOpen_12 : decode cX4_dropOpen 12 = .ok (.iload_n 2, 1) := by decide +kernel
theorem dX4_dropOpen_13 : decode cX4_dropOpen 13 = .ok (.aload_n 0, 1) := by decide +kernel
theorem dX4_dropOpen_14 : decode cX4_dropOpen 14 = .ok (.getfield 123, 3) := by decide +kernel
theorem dX4_dropOpen_17 : decode cX4_dropOpen 17 = .ok (.if_icmp .ge 65, 3) := by decide +kernel
theorem dX4_dropOpen_20 : decode cX4_dropOpen 20 = .ok (.aload_n 0, 1) := by decide +kernel
theorem dX4_dropOpen_21 : decode cX4_dropOpen 21 = .ok (.getfield 38, 3) := by decide +kernel
theorem dX4_dropOpen_24 : decode cX4_dropOpen 24 = .ok (.iload_n 2, 1) := by decide +kernel
theorem dX4_dropOpen_25 : decode cX4_dropOpen 25 = .ok (.aload_n 0, 1) := by decide +kernel
theorem dX4_dropOpen_26 : decode cX4_dropOpen 26 = .ok (.getfield 38, 3) := by decide +kernel
theorem dX4_dropOpen_29 : decode cX4_dropOpen 29 = .ok (.iload_n 2, 1) := by decide +kernel
theorem dX4_dropOpen_30 : decode cX4_dropOpen 30 = .ok (.iconst 1, 1) := by decide +kernel
theorem dX4_dropOpen_31 : decode cX4_dropOpen 31 = .ok (.iadd, 1) := by decide +kernel
theorem dX4_dropOpen_32 : decode cX4_dropOpen 32 = .ok (.iaload, 1) := by decide +kernel
theorem dX4_dropOpen_33 : decode cX4_dropOpen 33 = .ok (.iastore, 1) := by decide +kernel
theorem dX4_dropOpen_34 : decode cX4_dropOpen 34 = .ok (.aload_n 0, 1) := by decide +kernel
theorem dX4_dropOpen_35 : decode cX4_dropOpen 35 = .ok (.getfield 41, 3) := by decide +kernel
theorem dX4_dropOpen_38 : decode cX4_dropOpen 38 = .ok (.iload_n 2, 1) := by decide +kernel
theorem dX4_dropOpen_39 : decode cX4_dropOpen 39 = .ok (.aload_n 0, 1) := by decide +kernel
theorem dX4_dropOpen_40 : decode cX4_dropOpen 40 = .ok (.getfield 41, 3) := by decide +kernel
theorem dX4_dropOpen_43 : decode cX4_dropOpen 43 = .ok (.iload_n 2, 1) := by decide +kernel
theorem dX4_dropOpen_44 : decode cX4_dropOpen 44 = .ok (.iconst 1, 1) := by decide +kernel
theorem dX4_dropOpen_45 : decode cX4_dropOpen 45 = .ok (.iadd, 1) := by decide +kernel
theorem dX4_dropOpen_46 : decode cX4_dropOpen 46 = .ok (.iaload, 1) := by decide +kernel
theorem dX4_dropOpen_47 : decode cX4_dropOpen 47 = .ok (.iastore, 1) := by decide +kernel
theorem dX4_dropOpen_48 : decode cX4_dropOpen 48 = .ok (.aload_n 0, 1) := by decide +kernel
theorem dX4_dropOpen_49 : decode cX4_dropOpen 49 = .ok (.getfield 44, 3) := by decide +kernel
theorem dX4_dropOpen_52 : decode cX4_dropOpen 52 = .ok (.iload_n 2, 1) := by decide +kernel
theorem dX4_dropOpen_53 : decode cX4_dropOpen 53 = .ok (.aload_n 0, 1) := by decide +kernel
theorem dX4_dropOpen_54 : decode cX4_dropOpen 54 = .ok (.getfield 44, 3) := by decide +kernel
theorem dX4_dropOpen_57 : decode cX4_dropOpen 57 = .ok (.iload_n 2, 1) := by decide +kernel
theorem dX4_dropOpen_58 : decode cX4_dropOpen 58 = .ok (.iconst 1, 1) := by decide +kernel
theorem dX4_dropOpen_59 : decode cX4_dropOpen 59 = .ok (.iadd, 1) := by decide +kernel
theorem dX4_dropOpen_60 : decode cX4_dropOpen 60 = .ok (.iaload, 1) := by decide +kernel
theorem dX4_dropOpen_61 : decode cX4_dropOpen 61 = .ok (.iastore, 1) := by decide +kernel
theorem dX4_dropOpen_62 : decode cX4_dropOpen 62 = .ok (.aload_n 0, 1) := by decide +kernel
theorem dX4_dropOpen_63 : decode cX4_dropOpen 63 = .ok (.getfield 47, 3) := by decide +kernel
theorem dX4_dropOpen_66 : decode cX4_dropOpen 66 = .ok (.iload_n 2, 1) := by decide +kernel
theorem dX4_dropOpen_67 : decode cX4_dropOpen 67 = .ok (.aload_n 0, 1) := by decide +kernel
theorem dX4_dropOpen_68 : decode cX4_dropOpen 68 = .ok (.getfield 47, 3) := by decide +kernel
theorem dX4_dropOpen_71 : decode cX4_dropOpen 71 = .ok (.iload_n 2, 1) := by decide +kernel
theorem dX4_dropOpen_72 : decode cX4_dropOpen 72 = .ok (.iconst 1, 1) := by decide +kernel
theorem dX4_dropOpen_73 : decode cX4_dropOpen 73 = .ok (.iadd, 1) := by decide +kernel
theorem dX4_dropOpen_74 : decode cX4_dropOpen 74 = .ok (.baload, 1) := by decide +kernel
theorem dX4_dropOpen_75 : decode cX4_dropOpen 75 = .ok (.bastore, 1) := by decide +kernel
theorem dX4_dropOpen_76 : decode cX4_dropOpen 76 = .ok (.iinc 2 1, 3) := by decide +kernel
theorem dX4_dropOpen_79 : decode cX4_dropOpen 79 = .ok (.goto (-67), 3) := by decide +kernel
theorem dX4_dropOpen_82 : decode cX4_dropOpen 82 = .ok (.return_, 1) := by decide +kernel
theorem dX4_waiting_0 : decode cX4_waiting 0 = .ok (.iconst 0, 1) := by decide +kernel
theorem dX4_waiting_1 : decode cX4_waiting 1 = .ok (.istore_n 1, 1) := by decide +kernel
theorem dX4_waiting_2 : decode cX4_waiting 2 = .ok (.iconst 0, 1) := by decide +kernel
theorem dX4_waiting_3 : decode cX4_waiting 3 = .ok (.istore_n 2, 1) := by decide +kernel
theorem dX4_waiting_4 : decode cX4_waiting 4 = .ok (.iload_n 2, 1) := by decide +kernel
theorem dX4_waiting_5 : decode cX4_waiting 5 = .ok (.aload_n 0, 1) := by decide +kernel
theorem dX4_waiting_6 : decode cX4_waiting 6 = .ok (.getfield 123, 3) := by decide +kernel
theorem dX4_waiting_9 : decode cX4_waiting 9 = .ok (.if_icmp .ge 26, 3) := by decide +kernel
theorem dX4_waiting_12 : decode cX4_waiting 12 = .ok (.aload_n 0, 1) := by decide +kernel
theorem dX4_waiting_13 : decode cX4_waiting 13 = .ok (.getfield 47, 3) := by decide +kernel
theorem dX4_waiting_16 : decode cX4_waiting 16 = .ok (.iload_n 2, 1) := by decide +kernel
theorem dX4_waiting_17 : decode cX4_waiting 17 = .ok (.baload, 1) := by decide +kernel
theorem dX4_waiting_18 : decode cX4_waiting 18 = .ok (.ifCond .eq 7, 3) := by decide +kernel
theorem dX4_waiting_21 : decode cX4_waiting 21 = .ok (.iload_n 1, 1) := by decide +kernel
theorem dX4_waiting_22 : decode cX4_waiting 22 = .ok (.goto 6, 3) := by decide +kernel
theorem dX4_waiting_25 : decode cX4_waiting 25 = .ok (.iload_n 1, 1) := by decide +kernel
theorem dX4_waiting_26 : decode cX4_waiting 26 = .ok (.iconst 1, 1) := by decide +kernel
theorem dX4_waiting_27 : decode cX4_waiting 27 = .ok (.iadd, 1) := by decide +kernel
theorem dX4_waiting_28 : decode cX4_waiting 28 = .ok (.istore_n 1, 1) := by decide +kernel
theorem dX4_waiting_29 : decode cX4_waiting 29 = .ok (.iinc 2 1, 3) := by decide +kernel
theorem dX4_waiting_32 : decode cX4_waiting 32 = .ok (.goto (-28), 3) := by decide +kernel
theorem dX4_waiting_35 : decode cX4_waiting 35 = .ok (.iload_n 1, 1) := by decide +kernel
theorem dX4_waiting_36 : decode cX4_waiting 36 = .ok (.ireturn, 1) := by decide +kernel
set_option maxRecDepth 20000 in
theorem ggX4_hasRoom_X4_waiting : GoodIn wsX4_hasRoom wsX4_waiting := goodIn_r _ [7, 2, 8, 9, 10, 11, 12, 13, 14, 15, 16, 17, 18, 19, 20, 21, 22, 23, 24, 25, 26, 27, 28, 29, 30, 31, 32] (by decide +kernel) (by decide +kernel)
set_option maxRecDepth 20000 in
theorem gX4_hasRoom_X4_waiting : GoodIn wsX4_hasRoom (wsV RX4 126 RX4 yX4_waiting wsX4_waiting) := goodIn_app (goodIn_of _ (by decide +kernel)) ggX4_hasRoom_X4_waiting
theorem dX4_hasRoom_0 : decode cX4_hasRoom 0 = .ok (.aload_n 0, 1) := by decide +kernel
theorem dX4_hasRoom_1 : decode cX4_hasRoom 1 = .ok (.invokevirtual 126, 3) := by decide +kernel
theorem dX4_hasRoom_4 : decode cX4_hasRoom 4 = .ok (.aload_n 0, 1) := by decide +kernel
theorem dX4_hasRoom_5 : decode cX4_hasRoom 5 = .ok (.getfield 13, 3) := by decide +kernel
theorem dX4_hasRoom_8 : decode cX4_hasRoom 8 = .ok (.if_icmp .ge 16, 3) := by decide +kernel
theorem dX4_hasRoom_11 : decode cX4_hasRoom 11 = .ok (.aload_n 0, 1) := by decide +kernel
theorem dX4_hasRoom_12 : decode cX4_hasRoom 12 = .ok (.getfield 123, 3) := by decide +kernel
theorem dX4_hasRoom_15 : decode cX4_hasRoom 15 = .ok (.bipush 64, 2) := by decide +kernel
theorem dX4_hasRoom_17 : decode cX4_hasRoom 17 = .ok (.if_icmp .ge 7, 3) := by decide +kernel
theorem dX4_hasRoom_20 : decode cX4_hasRoom 20 = .ok (.iconst 1, 1) := by decide +kernel
theorem dX4_hasRoom_21 : decode cX4_hasRoom 21 = .ok (.goto 4, 3) := by decide +kernel
theorem dX4_hasRoom_24 : decode cX4_hasRoom 24 = .ok (.iconst 0, 1) := by decide +kernel
theorem dX4_hasRoom_25 : decode cX4_hasRoom 25 = .ok (.ireturn, 1) := by decide +kernel
theorem dX4_come_0 : decode cX4_come 0 = .ok (.aload_n 0, 1) := by decide +kernel
theorem dX4_come_1 : decode cX4_come 1 = .ok (.getfield 38, 3) := by decide +kernel
theorem dX4_come_4 : decode cX4_come 4 = .ok (.aload_n 0, 1) := by decide +kernel
theorem dX4_come_5 : decode cX4_come 5 = .ok (.getfield 123, 3) := by decide +kernel
theorem dX4_come_8 : decode cX4_come 8 = .ok (.iload_n 1, 1) := by decide +kernel
theorem dX4_come_9 : decode cX4_come 9 = .ok (.iastore, 1) := by decide +kernel
theorem dX4_come_10 : decode cX4_come 10 = .ok (.aload_n 0, 1) := by decide +kernel
theorem dX4_come_11 : decode cX4_come 11 = .ok (.getfield 41, 3) := by decide +kernel
theorem dX4_come_14 : decode cX4_come 14 = .ok (.aload_n 0, 1) := by decide +kernel
theorem dX4_come_15 : decode cX4_come 15 = .ok (.getfield 123, 3) := by decide +kernel
theorem dX4_come_18 : decode cX4_come 18 = .ok (.iload_n 2, 1) := by decide +kernel
theorem dX4_come_19 : decode cX4_come 19 = .ok (.iastore, 1) := by decide +kernel
theorem dX4_come_20 : decode cX4_come 20 = .ok (.aload_n 0, 1) := by decide +kernel
theorem dX4_come_21 : decode cX4_come 21 = .ok (.getfield 44, 3) := by decide +kernel
theorem dX4_come_24 : decode cX4_come 24 = .ok (.aload_n 0, 1) := by decide +kernel
theorem dX4_come_25 : decode cX4_come 25 = .ok (.getfield 123, 3) := by decide +kernel
theorem dX4_come_28 : decode cX4_come 28 = .ok (.iload_n 3, 1) := by decide +kernel
theorem dX4_come_29 : decode cX4_come 29 = .ok (.iastore, 1) := by decide +kernel
theorem dX4_come_30 : decode cX4_come 30 = .ok (.aload_n 0, 1) := by decide +kernel
theorem dX4_come_31 : decode cX4_come 31 = .ok (.getfield 47, 3) := by decide +kernel
theorem dX4_come_34 : decode cX4_come 34 = .ok (.aload_n 0, 1) := by decide +kernel
theorem dX4_come_35 : decode cX4_come 35 = .ok (.getfield 123, 3) := by decide +kernel
theorem dX4_come_38 : decode cX4_come 38 = .ok (.iconst 0, 1) := by decide +kernel
theorem dX4_come_39 : decode cX4_come 39 = .ok (.bastore, 1) := by decide +kernel
theorem dX4_come_40 : decode cX4_come 40 = .ok (.aload_n 0, 1) := by decide +kernel
theorem dX4_come_41 : decode cX4_come 41 = .ok (.dup, 1) := by decide +kernel
theorem dX4_come_42 : decode cX4_come 42 = .ok (.getfield 123, 3) := by decide +kernel
theorem dX4_come_45 : decode cX4_come 45 = .ok (.iconst 1, 1) := by decide +kernel
theorem dX4_come_46 : decode cX4_come 46 = .ok (.iadd, 1) := by decide +kernel
theorem dX4_come_47 : decode cX4_come 47 = .ok (.putfield 123, 3) := by decide +kernel
theorem dX4_come_50 : decode cX4_come 50 = .ok (.return_, 1) := by decide +kernel
set_option maxRecDepth 20000 in
theorem ggX4_pass_X4_dropHalf : GoodIn wsX4_pass wsX4_dropHalf := goodIn_r _ [9, 3, 10, 11, 12, 13, 14, 4, 15, 16, 17, 18, 19, 20, 21, 22, 23, 24, 25, 26, 27, 28, 29, 30, 31, 32, 33, 34, 35, 36, 37, 38] (by decide +kernel) (by decide +kernel)
set_option maxRecDepth 20000 in
theorem gX4_pass_X4_dropHalf : GoodIn wsX4_pass (wsV RX4 133 RX4 yX4_dropHalf wsX4_dropHalf) := goodIn_app (goodIn_of _ (by decide +kernel)) ggX4_pass_X4_dropHalf
theorem dX4_pass_0 : decode cX4_pass 0 = .ok (.aload_n 0, 1) := by decide +kernel
theorem dX4_pass_1 : decode cX4_pass 1 = .ok (.iload_n 1, 1) := by decide +kernel
theorem dX4_pass_2 : decode cX4_pass 2 = .ok (.ifCond .lt 10, 3) := by decide +kernel
theorem dX4_pass_5 : decode cX4_pass 5 = .ok (.iload_n 1, 1) := by decide +kernel
theorem dX4_pass_6 : decode cX4_pass 6 = .ok (.sipush 10000, 3) := by decide +kernel
theorem dX4_pass_9 : decode cX4_pass 9 = .ok (.if_icmp .le 7, 3) := by decide +kernel
theorem dX4_pass_12 : decode cX4_pass 12 = .ok (.iconst 1, 1) := by decide +kernel
theorem dX4_pass_13 : decode cX4_pass 13 = .ok (.goto 4, 3) := by decide +kernel
theorem dX4_pass_16 : decode cX4_pass 16 = .ok (.iconst 0, 1) := by decide +kernel
theorem dX4_pass_17 : decode cX4_pass 17 = .ok (.putfield 54, 3) := by decide +kernel
theorem dX4_pass_20 : decode cX4_pass 20 = .ok (.aload_n 0, 1) := by decide +kernel
theorem dX4_pass_21 : decode cX4_pass 21 = .ok (.getfield 54, 3) := by decide +kernel
theorem dX4_pass_24 : decode cX4_pass 24 = .ok (.ifCond .le 5, 3) := by decide +kernel
theorem dX4_pass_27 : decode cX4_pass 27 = .ok (.iconst 0, 1) := by decide +kernel
theorem dX4_pass_28 : decode cX4_pass 28 = .ok (.ireturn, 1) := by decide +kernel
theorem dX4_pass_29 : decode cX4_pass 29 = .ok (.aload_n 0, 1) := by decide +kernel
theorem dX4_pass_30 : decode cX4_pass 30 = .ok (.aload_n 0, 1) := by decide +kernel
theorem dX4_pass_31 : decode cX4_pass 31 = .ok (.getfield 130, 3) := by decide +kernel
theorem dX4_pass_34 : decode cX4_pass 34 = .ok (.iload_n 1, 1) := by decide +kernel
theorem dX4_pass_35 : decode cX4_pass 35 = .ok (.iadd, 1) := by decide +kernel
theorem dX4_pass_36 : decode cX4_pass 36 = .ok (.putfield 130, 3) := by decide +kernel
theorem dX4_pass_39 : decode cX4_pass 39 = .ok (.aload_n 0, 1) := by decide +kernel
theorem dX4_pass_40 : decode cX4_pass 40 = .ok (.getfield 120, 3) := by decide +kernel
theorem dX4_pass_43 : decode cX4_pass 43 = .ok (.iconst 1, 1) := by decide +kernel
theorem dX4_pass_44 : decode cX4_pass 44 = .ok (.isub, 1) := by decide +kernel
theorem dX4_pass_45 : decode cX4_pass 45 = .ok (.istore_n 2, 1) := by decide +kernel
theorem dX4_pass_46 : decode cX4_pass 46 = .ok (.iload_n 2, 1) := by decide +kernel
theorem dX4_pass_47 : decode cX4_pass 47 = .ok (.ifCond .lt 30, 3) := by decide +kernel
theorem dX4_pass_50 : decode cX4_pass 50 = .ok (.aload_n 0, 1) := by decide +kernel
theorem dX4_pass_51 : decode cX4_pass 51 = .ok (.getfield 130, 3) := by decide +kernel
theorem dX4_pass_54 : decode cX4_pass 54 = .ok (.aload_n 0, 1) := by decide +kernel
theorem dX4_pass_55 : decode cX4_pass 55 = .ok (.getfield 35, 3) := by decide +kernel
theorem dX4_pass_58 : decode cX4_pass 58 = .ok (.iload_n 2, 1) := by decide +kernel
theorem dX4_pass_59 : decode cX4_pass 59 = .ok (.iaload, 1) := by decide +kernel
theorem dX4_pass_60 : decode cX4_pass 60 = .ok (.isub, 1) := by decide +kernel
theorem dX4_pass_61 : decode cX4_pass 61 = .ok (.bipush 60, 2) := by decide +kernel
theorem dX4_pass_63 : decode cX4_pass 63 = .ok (.if_icmp .lt 8, 3) := by decide +kernel
theorem dX4_pass_66 : decode cX4_pass 66 = .ok (.aload_n 0, 1) := by decide +kernel
theorem dX4_pass_67 : decode cX4_pass 67 = .ok (.iload_n 2, 1) := by decide +kernel
theorem dX4_pass_68 : decode cX4_pass 68 = .ok (.invokevirtual 133, 3) := by decide +kernel
theorem dX4_pass_71 : decode cX4_pass 71 = .ok (.iinc 2 (-1), 3) := by decide +kernel
theorem dX4_pass_74 : decode cX4_pass 74 = .ok (.goto (-28), 3) := by decide +kernel
theorem dX4_pass_77 : decode cX4_pass 77 = .ok (.aload_n 0, 1) := by decide +kernel
theorem dX4_pass_78 : decode cX4_pass 78 = .ok (.getfield 130, 3) := by decide +kernel
theorem dX4_pass_81 : decode cX4_pass 81 = .ok (.ireturn, 1) := by decide +kernel
theorem dX4_kindOf_0 : decode cX4_kindOf 0 = .ok (.iload_n 0, 1) := by decide +kernel
theorem dX4_kindOf_1 : decode cX4_kindOf 1 = .ok (.sipush 4096, 3) := by decide +kernel
theorem dX4_kindOf_4 : decode cX4_kindOf 4 = .ok (.if_icmp .lt 8, 3) := by decide +kernel
theorem dX4_kindOf_7 : decode cX4_kindOf 7 = .ok (.bipush 7, 2) := by decide +kernel
theorem dX4_kindOf_9 : decode cX4_kindOf 9 = .ok (.goto 71, 3) := by decide +kernel
theorem dX4_kindOf_12 : decode cX4_kindOf 12 = .ok (.iload_n 0, 1) := by decide +kernel
theorem dX4_kindOf_13 : decode cX4_kindOf 13 = .ok (.sipush 1460, 3) := by decide +kernel
theorem dX4_kindOf_16 : decode cX4_kindOf 16 = .ok (.if_icmp .lt 8, 3) := by decide +kernel
theorem dX4_kindOf_19 : decode cX4_kindOf 19 = .ok (.bipush 6, 2) := by decide +kernel
theorem dX4_kindOf_21 : decode cX4_kindOf 21 = .ok (.goto 59, 3) := by decide +kernel
theorem dX4_kindOf_24 : decode cX4_kindOf 24 = .ok (.iload_n 0, 1) := by decide +kernel
theorem dX4_kindOf_25 : decode cX4_kindOf 25 = .ok (.sipush 1440, 3) := by decide +kernel
theorem dX4_kindOf_28 : decode cX4_kindOf 28 = .ok (.if_icmp .lt 7, 3) := by decide +kernel
theorem dX4_kindOf_31 : decode cX4_kindOf 31 = .ok (.iconst 5, 1) := by decide +kernel
theorem dX4_kindOf_32 : decode cX4_kindOf 32 = .ok (.goto 48, 3) := by decide +kernel
theorem dX4_kindOf_35 : decode cX4_kindOf 35 = .ok (.iload_n 0, 1) := by decide +kernel
theorem dX4_kindOf_36 : decode cX4_kindOf 36 = .ok (.sipush 1220, 3) := by decide +kernel
theorem dX4_kindOf_39 : decode cX4_kindOf 39 = .ok (.if_icmp .lt 7, 3) := by decide +kernel
theorem dX4_kindOf_42 : decode cX4_kindOf 42 = .ok (.iconst 4, 1) := by decide +kernel
theorem dX4_kindOf_43 : decode cX4_kindOf 43 = .ok (.goto 37, 3) := by decide +kernel
theorem dX4_kindOf_46 : decode cX4_kindOf 46 = .ok (.iload_n 0, 1) := by decide +kernel
theorem dX4_kindOf_47 : decode cX4_kindOf 47 = .ok (.sipush 1024, 3) := by decide +kernel
theorem dX4_kindOf_50 : decode cX4_kindOf 50 = .ok (.if_icmp .lt 7, 3) := by decide +kernel
theorem dX4_kindOf_53 : decode cX4_kindOf 53 = .ok (.iconst 3, 1) := by decide +kernel
theorem dX4_kindOf_54 : decode cX4_kindOf 54 = .ok (.goto 26, 3) := by decide +kernel
theorem dX4_kindOf_57 : decode cX4_kindOf 57 = .ok (.iload_n 0, 1) := by decide +kernel
theorem dX4_kindOf_58 : decode cX4_kindOf 58 = .ok (.sipush 536, 3) := by decide +kernel
theorem dX4_kindOf_61 : decode cX4_kindOf 61 = .ok (.if_icmp .lt 7, 3) := by decide +kernel
theorem dX4_kindOf_64 : decode cX4_kindOf 64 = .ok (.iconst 2, 1) := by decide +kernel
theorem dX4_kindOf_65 : decode cX4_kindOf 65 = .ok (.goto 15, 3) := by decide +kernel
theorem dX4_kindOf_68 : decode cX4_kindOf 68 = .ok (.iload_n 0, 1) := by decide +kernel
theorem dX4_kindOf_69 : decode cX4_kindOf 69 = .ok (.sipush 256, 3) := by decide +kernel
theorem dX4_kindOf_72 : decode cX4_kindOf 72 = .ok (.if_icmp .lt 7, 3) := by decide +kernel
theorem dX4_kindOf_75 : decode cX4_kindOf 75 = .ok (.iconst 1, 1) := by decide +kernel
theorem dX4_kindOf_76 : decode cX4_kindOf 76 = .ok (.goto 4, 3) := by decide +kernel
theorem dX4_kindOf_79 : decode cX4_kindOf 79 = .ok (.iconst 0, 1) := by decide +kernel
theorem dX4_kindOf_80 : decode cX4_kindOf 80 = .ok (.ireturn, 1) := by decide +kernel
set_option maxRecDepth 20000 in
theorem ggX4_syn_X4_noPort : GoodIn wsX4_syn wsX4_noPort := goodIn_r _ [19, 20] (by decide +kernel) (by decide +kernel)
set_option maxRecDepth 20000 in
theorem gX4_syn_X4_noPort : GoodIn wsX4_syn (va_wsS RX4 112 yX4_noPort wsX4_noPort) := goodIn_app (goodIn_of _ (by decide +kernel)) ggX4_syn_X4_noPort
set_option maxRecDepth 20000 in
theorem ggX4_syn_X4_opened : GoodIn wsX4_syn wsX4_opened := goodIn_r _ [24, 25, 26, 27, 73, 74, 75, 76, 77, 78, 79, 80, 81, 82, 83, 84, 85, 86, 87, 88, 89, 90, 91, 92, 93, 94, 95, 96] (by decide +kernel) (by decide +kernel)
set_option maxRecDepth 20000 in
theorem gX4_syn_X4_opened : GoodIn wsX4_syn (wsV RX4 137 RX4 yX4_opened wsX4_opened) := goodIn_app (goodIn_of _ (by decide +kernel)) ggX4_syn_X4_opened
set_option maxRecDepth 20000 in
theorem ggX4_syn_X4_half : GoodIn wsX4_syn wsX4_half := goodIn_r _ [31, 7, 12, 13, 73, 74, 75, 76, 77, 78, 79, 80, 81, 82, 83, 84, 85, 86, 87, 88, 89, 90, 91, 92, 93, 94, 95, 96] (by decide +kernel) (by decide +kernel)
set_option maxRecDepth 20000 in
theorem gX4_syn_X4_half : GoodIn wsX4_syn (wsV RX4 143 RX4 yX4_half wsX4_half) := goodIn_app (goodIn_of _ (by decide +kernel)) ggX4_syn_X4_half
set_option maxRecDepth 20000 in
theorem ggX4_syn_X4_dropHalf : GoodIn wsX4_syn wsX4_dropHalf := goodIn_r _ [35, 7, 12, 13, 3, 4, 14, 15, 73, 74, 75, 76, 77, 78, 79, 80, 81, 82, 83, 84, 85, 86, 87, 88, 89, 90, 91, 92, 93, 94, 95, 96] (by decide +kernel) (by decide +kernel)
set_option maxRecDepth 20000 in
theorem gX4_syn_X4_dropHalf : GoodIn wsX4_syn (wsV RX4 133 RX4 yX4_dropHalf wsX4_dropHalf) := goodIn_app (goodIn_of _ (by decide +kernel)) ggX4_syn_X4_dropHalf
set_option maxRecDepth 20000 in
theorem ggX4_syn_X4_kindOf : GoodIn wsX4_syn wsX4_kindOf := goodIn_r _ [38] (by decide +kernel) (by decide +kernel)
set_option maxRecDepth 20000 in
theorem gX4_syn_X4_kindOf : GoodIn wsX4_syn (va_wsS RX4 146 yX4_kindOf wsX4_kindOf) := goodIn_app (goodIn_of _ (by decide +kernel)) ggX4_syn_X4_kindOf
set_option maxRecDepth 20000 in
theorem ggX4_syn_X4_cookieOf : GoodIn wsX4_syn wsX4_cookieOf := goodIn_r _ [42, 5, 43, 44, 45, 46, 47, 48, 18, 49, 50, 51, 52, 53, 54, 55, 56, 57, 58, 59, 60, 61, 62, 63, 64, 65, 66, 67, 68, 69, 70, 71, 72, 73, 74, 75, 76, 77, 78, 79, 80, 81, 82, 83, 84, 85, 86, 87, 88, 89, 90, 91, 92, 93, 94, 95, 96] (by decide +kernel) (by decide +kernel)
set_option maxRecDepth 20000 in
theorem gX4_syn_X4_cookieOf : GoodIn wsX4_syn (wsV RX4 116 RX4 yX4_cookieOf wsX4_cookieOf) := goodIn_app (goodIn_of _ (by decide +kernel)) ggX4_syn_X4_cookieOf
theorem dX4_syn_0 : decode cX4_syn 0 = .ok (.aload_n 0, 1) := by decide +kernel
theorem dX4_syn_1 : decode cX4_syn 1 = .ok (.iload_n 2, 1) := by decide +kernel
theorem dX4_syn_2 : decode cX4_syn 2 = .ok (.invokestatic 112, 3) := by decide +kernel
theorem dX4_syn_5 : decode cX4_syn 5 = .ok (.ifCond .ne 11, 3) := by decide +kernel
theorem dX4_syn_8 : decode cX4_syn 8 = .ok (.iload 4, 2) := by decide +kernel
theorem dX4_syn_10 : decode cX4_syn 10 = .ok (.invokestatic 112, 3) := by decide +kernel
theorem dX4_syn_13 : decode cX4_syn 13 = .ok (.ifCond .eq 7, 3) := by decide +kernel
theorem dX4_syn_16 : decode cX4_syn 16 = .ok (.iconst 1, 1) := by decide +kernel
theorem dX4_syn_17 : decode cX4_syn 17 = .ok (.goto 4, 3) := by decide +kernel
theorem dX4_syn_20 : decode cX4_syn 20 = .ok (.iconst 0, 1) := by decide +kernel
theorem dX4_syn_21 : decode cX4_syn 21 = .ok (.putfield 54, 3) := by decide +kernel
theorem dX4_syn_24 : decode cX4_syn 24 = .ok (.aload_n 0, 1) := by decide +kernel
theorem dX4_syn_25 : decode cX4_syn 25 = .ok (.getfield 54, 3) := by decide +kernel
theorem dX4_syn_28 : decode cX4_syn 28 = .ok (.ifCond .le 5, 3) := by decide +kernel
theorem dX4_syn_31 : decode cX4_syn 31 = .ok (.lconst 0, 1) := by decide +kernel
theorem dX4_syn_32 : decode cX4_syn 32 = .ok (.lreturn, 1) := by decide +kernel
theorem dX4_syn_33 : decode cX4_syn 33 = .ok (.aload_n 0, 1) := by decide +kernel
theorem dX4_syn_34 : decode cX4_syn 34 = .ok (.iload_n 1, 1) := by decide +kernel
theorem dX4_syn_35 : decode cX4_syn 35 = .ok (.iload_n 2, 1) := by decide +kernel
theorem dX4_syn_36 : decode cX4_syn 36 = .ok (.invokevirtual 137, 3) := by decide +kernel
theorem dX4_syn_39 : decode cX4_syn 39 = .ok (.ifCond .lt 7, 3) := by decide +kernel
theorem dX4_syn_42 : decode cX4_syn 42 = .ok (.ldc2_w 141, 3) := by decide +kernel
theorem dX4_syn_45 : decode cX4_syn 45 = .ok (.lreturn, 1) := by decide +kernel
theorem dX4_syn_46 : decode cX4_syn 46 = .ok (.aload_n 0, 1) := by decide +kernel
theorem dX4_syn_47 : decode cX4_syn 47 = .ok (.iload_n 1, 1) := by decide +kernel
theorem dX4_syn_48 : decode cX4_syn 48 = .ok (.iload_n 2, 1) := by decide +kernel
theorem dX4_syn_49 : decode cX4_syn 49 = .ok (.invokevirtual 143, 3) := by decide +kernel
theorem dX4_syn_52 : decode cX4_syn 52 = .ok (.istore 5, 2) := by decide +kernel
theorem dX4_syn_54 : decode cX4_syn 54 = .ok (.iload 5, 2) := by decide +kernel
theorem dX4_syn_56 : decode cX4_syn 56 = .ok (.ifCond .lt 27, 3) := by decide +kernel
theorem dX4_syn_59 : decode cX4_syn 59 = .ok (.aload_n 0, 1) := by decide +kernel
theorem dX4_syn_60 : decode cX4_syn 60 = .ok (.getfield 26, 3) := by decide +kernel
theorem dX4_syn_63 : decode cX4_syn 63 = .ok (.iload 5, 2) := by decide +kernel
theorem dX4_syn_65 : decode cX4_syn 65 = .ok (.iaload, 1) := by decide +kernel
theorem dX4_syn_66 : decode cX4_syn 66 = .ok (.iload_n 3, 1) := by decide +kernel
theorem dX4_syn_67 : decode cX4_syn 67 = .ok (.if_icmp .ne 16, 3) := by decide +kernel
theorem dX4_syn_70 : decode cX4_syn 70 = .ok (.aload_n 0, 1) := by decide +kernel
theorem dX4_syn_71 : decode cX4_syn 71 = .ok (.getfield 29, 3) := by decide +kernel
theorem dX4_syn_74 : decode cX4_syn 74 = .ok (.iload 5, 2) := by decide +kernel
theorem dX4_syn_76 : decode cX4_syn 76 = .ok (.iaload, 1) := by decide +kernel
theorem dX4_syn_77 : decode cX4_syn 77 = .ok (.i2l, 1) := by decide +kernel
theorem dX4_syn_78 : decode cX4_syn 78 = .ok (.ldc2_w 103, 3) := by decide +kernel
theorem dX4_syn_81 : decode cX4_syn 81 = .ok (.land, 1) := by decide +kernel
theorem dX4_syn_82 : decode cX4_syn 82 = .ok (.lreturn, 1) := by decide +kernel
theorem dX4_syn_83 : decode cX4_syn 83 = .ok (.iload 5, 2) := by decide +kernel
theorem dX4_syn_85 : decode cX4_syn 85 = .ok (.ifCond .lt 9, 3) := by decide +kernel
theorem dX4_syn_88 : decode cX4_syn 88 = .ok (.aload_n 0, 1) := by decide +kernel
theorem dX4_syn_89 : decode cX4_syn 89 = .ok (.iload 5, 2) := by decide +kernel
theorem dX4_syn_91 : decode cX4_syn 91 = .ok (.invokevirtual 133, 3) := by decide +kernel
theorem dX4_syn_94 : decode cX4_syn 94 = .ok (.iload 4, 2) := by decide +kernel
theorem dX4_syn_96 : decode cX4_syn 96 = .ok (.invokestatic 146, 3) := by decide +kernel
theorem dX4_syn_99 : decode cX4_syn 99 = .ok (.istore 6, 2) := by decide +kernel
theorem dX4_syn_101 : decode cX4_syn 101 = .ok (.aload_n 0, 1) := by decide +kernel
theorem dX4_syn_102 : decode cX4_syn 102 = .ok (.iload_n 1, 1) := by decide +kernel
theorem dX4_syn_103 : decode cX4_syn 103 = .ok (.iload_n 2, 1) := by decide +kernel
theorem dX4_syn_104 : decode cX4_syn 104 = .ok (.iload_n 3, 1) := by decide +kernel
theorem dX4_syn_105 : decode cX4_syn 105 = .ok (.iload 6, 2) := by decide +kernel
theorem dX4_syn_107 : decode cX4_syn 107 = .ok (.aload_n 0, 1) := by decide +kernel
theorem dX4_syn_108 : decode cX4_syn 108 = .ok (.getfield 130, 3) := by decide +kernel
theorem dX4_syn_111 : decode cX4_syn 111 = .ok (.bipush 64, 2) := by decide +kernel
theorem dX4_syn_113 : decode cX4_syn 113 = .ok (.idiv, 1) := by decide +kernel
theorem dX4_syn_114 : decode cX4_syn 114 = .ok (.invokevirtual 116, 3) := by decide +kernel
theorem dX4_syn_117 : decode cX4_syn 117 = .ok (.istore 7, 2) := by decide +kernel
theorem dX4_syn_119 : decode cX4_syn 119 = .ok (.aload_n 0, 1) := by decide +kernel
theorem dX4_syn_120 : decode cX4_syn 120 = .ok (.getfield 120, 3) := by decide +kernel
theorem dX4_syn_123 : decode cX4_syn 123 = .ok (.aload_n 0, 1) := by decide +kernel
theorem dX4_syn_124 : decode cX4_syn 124 = .ok (.getfield 7, 3) := by decide +kernel
theorem dX4_syn_127 : decode cX4_syn 127 = .ok (.if_icmp .lt 29, 3) := by decide +kernel
theorem dX4_syn_130 : decode cX4_syn 130 = .ok (.aload_n 0, 1) := by decide +kernel
theorem dX4_syn_131 : decode cX4_syn 131 = .ok (.aload_n 0, 1) := by decide +kernel
theorem dX4_syn_132 : decode cX4_syn 132 = .ok (.getfield 130, 3) := by decide +kernel
theorem dX4_syn_135 : decode cX4_syn 135 = .ok (.putfield 16, 3) := by decide +kernel
theorem dX4_syn_138 : decode cX4_syn 138 = .ok (.aload_n 0, 1) := by decide +kernel
theorem dX4_syn_139 : decode cX4_syn 139 = .ok (.getfield 51, 3) := by decide +kernel
theorem dX4_syn_142 : decode cX4_syn 142 = .ok (.iconst 0, 1) := by decide +kernel
theorem dX4_syn_143 : decode cX4_syn 143 = .ok (.dup2, 1) := by decide +kernel
theorem dX4_syn_144 : decode cX4_syn 144 = .ok (.iaload, 1) := by decide +kernel
theorem dX4_syn_145 : decode cX4_syn 145 = .ok (.iconst 1, 1) := by decide +kernel
theorem dX4_syn_146 : decode cX4_syn 146 = .ok (.iadd, 1) := by decide +kernel
theorem dX4_syn_147 : decode cX4_syn 147 = .ok (.iastore, 1) := by decide +kernel
theorem dX4_syn_148 : decode cX4_syn 148 = .ok (.iload 7, 2) := by decide +kernel
theorem dX4_syn_150 : decode cX4_syn 150 = .ok (.i2l, 1) := by decide +kernel
theorem dX4_syn_151 : decode cX4_syn 151 = .ok (.ldc2_w 103, 3) := by decide +kernel
theorem dX4_syn_154 : decode cX4_syn 154 = .ok (.land, 1) := by decide +kernel
theorem dX4_syn_155 : decode cX4_syn 155 = .ok (.lreturn, 1) := by decide +kernel
theorem dX4_syn_156 : decode cX4_syn 156 = .ok (.iload 7, 2) := by decide +kernel
theorem dX4_syn_158 : decode cX4_syn 158 = .ok (.ldc 150, 2) := by decide +kernel
theorem dX4_syn_160 : decode cX4_syn 160 = .ok (.ixor, 1) := by decide +kernel
theorem dX4_syn_161 : decode cX4_syn 161 = .ok (.istore 7, 2) := by decide +kernel
theorem dX4_syn_163 : decode cX4_syn 163 = .ok (.aload_n 0, 1) := by decide +kernel
theorem dX4_syn_164 : decode cX4_syn 164 = .ok (.getfield 19, 3) := by decide +kernel
theorem dX4_syn_167 : decode cX4_syn 167 = .ok (.aload_n 0, 1) := by decide +kernel
theorem dX4_syn_168 : decode cX4_syn 168 = .ok (.getfield 120, 3) := by decide +kernel
theorem dX4_syn_171 : decode cX4_syn 171 = .ok (.iload_n 1, 1) := by decide +kernel
theorem dX4_syn_172 : decode cX4_syn 172 = .ok (.iastore, 1) := by decide +kernel
theorem dX4_syn_173 : decode cX4_syn 173 = .ok (.aload_n 0, 1) := by decide +kernel
theorem dX4_syn_174 : decode cX4_syn 174 = .ok (.getfield 23, 3) := by decide +kernel
theorem dX4_syn_177 : decode cX4_syn 177 = .ok (.aload_n 0, 1) := by decide +kernel
theorem dX4_syn_178 : decode cX4_syn 178 = .ok (.getfield 120, 3) := by decide +kernel
theorem dX4_syn_181 : decode cX4_syn 181 = .ok (.iload_n 2, 1) := by decide +kernel
theorem dX4_syn_182 : decode cX4_syn 182 = .ok (.iastore, 1) := by decide +kernel
theorem dX4_syn_183 : decode cX4_syn 183 = .ok (.aload_n 0, 1) := by decide +kernel
theorem dX4_syn_184 : decode cX4_syn 184 = .ok (.getfield 26, 3) := by decide +kernel
theorem dX4_syn_187 : decode cX4_syn 187 = .ok (.aload_n 0, 1) := by decide +kernel
theorem dX4_syn_188 : decode cX4_syn 188 = .ok (.getfield 120, 3) := by decide +kernel
theorem dX4_syn_191 : decode cX4_syn 191 = .ok (.iload_n 3, 1) := by decide +kernel
theorem dX4_syn_192 : decode cX4_syn 192 = .ok (.iastore, 1) := by decide +kernel
theorem dX4_syn_193 : decode cX4_syn 193 = .ok (.aload_n 0, 1) := by decide +kernel
theorem dX4_syn_194 : decode cX4_syn 194 = .ok (.getfield 29, 3) := by decide +kernel
theorem dX4_syn_197 : decode cX4_syn 197 = .ok (.aload_n 0, 1) := by decide +kernel
theorem dX4_syn_198 : decode cX4_syn 198 = .ok (.getfield 120, 3) := by decide +kernel
theorem dX4_syn_201 : decode cX4_syn 201 = .ok (.iload 7, 2) := by decide +kernel
theorem dX4_syn_203 : decode cX4_syn 203 = .ok (.iastore, 1) := by decide +kernel
theorem dX4_syn_204 : decode cX4_syn 204 = .ok (.aload_n 0, 1) := by decide +kernel
theorem dX4_syn_205 : decode cX4_syn 205 = .ok (.getfield 32, 3) := by decide +kernel
theorem dX4_syn_208 : decode cX4_syn 208 = .ok (.aload_n 0, 1) := by decide +kernel
theorem dX4_syn_209 : decode cX4_syn 209 = .ok (.getfield 120, 3) := by decide +kernel
theorem dX4_syn_212 : decode cX4_syn 212 = .ok (.iload 6, 2) := by decide +kernel
theorem dX4_syn_214 : decode cX4_syn 214 = .ok (.iastore, 1) := by decide +kernel
theorem dX4_syn_215 : decode cX4_syn 215 = .ok (.aload_n 0, 1) := by decide +kernel
theorem dX4_syn_216 : decode cX4_syn 216 = .ok (.getfield 35, 3) := by decide +kernel
theorem dX4_syn_219 : decode cX4_syn 219 = .ok (.aload_n 0, 1) := by decide +kernel
theorem dX4_syn_220 : decode cX4_syn 220 = .ok (.getfield 120, 3) := by decide +kernel
theorem dX4_syn_223 : decode cX4_syn 223 = .ok (.aload_n 0, 1) := by decide +kernel
theorem dX4_syn_224 : decode cX4_syn 224 = .ok (.getfield 130, 3) := by decide +kernel
theorem dX4_syn_227 : decode cX4_syn 227 = .ok (.iastore, 1) := by decide +kernel
theorem dX4_syn_228 : decode cX4_syn 228 = .ok (.aload_n 0, 1) := by decide +kernel
theorem dX4_syn_229 : decode cX4_syn 229 = .ok (.dup, 1) := by decide +kernel
theorem dX4_syn_230 : decode cX4_syn 230 = .ok (.getfield 120, 3) := by decide +kernel
theorem dX4_syn_233 : decode cX4_syn 233 = .ok (.iconst 1, 1) := by decide +kernel
theorem dX4_syn_234 : decode cX4_syn 234 = .ok (.iadd, 1) := by decide +kernel
theorem dX4_syn_235 : decode cX4_syn 235 = .ok (.putfield 120, 3) := by decide +kernel
theorem dX4_syn_238 : decode cX4_syn 238 = .ok (.iload 7, 2) := by decide +kernel
theorem dX4_syn_240 : decode cX4_syn 240 = .ok (.i2l, 1) := by decide +kernel
theorem dX4_syn_241 : decode cX4_syn 241 = .ok (.ldc2_w 103, 3) := by decide +kernel
theorem dX4_syn_244 : decode cX4_syn 244 = .ok (.land, 1) := by decide +kernel
theorem dX4_syn_245 : decode cX4_syn 245 = .ok (.lreturn, 1) := by decide +kernel
set_option maxRecDepth 20000 in
theorem ggX4_ack_X4_noPort : GoodIn wsX4_ack wsX4_noPort := goodIn_r _ [11, 12] (by decide +kernel) (by decide +kernel)
set_option maxRecDepth 20000 in
theorem gX4_ack_X4_noPort : GoodIn wsX4_ack (va_wsS RX4 112 yX4_noPort wsX4_noPort) := goodIn_app (goodIn_of _ (by decide +kernel)) ggX4_ack_X4_noPort
set_option maxRecDepth 20000 in
theorem ggX4_ack_X4_opened : GoodIn wsX4_ack wsX4_opened := goodIn_r _ [16, 17, 18, 19, 82, 83, 84, 85, 86, 87, 88, 89, 90, 91, 92, 93, 94, 95, 96, 97, 98, 99, 100, 101, 102, 103, 104, 105] (by decide +kernel) (by decide +kernel)
set_option maxRecDepth 20000 in
theorem gX4_ack_X4_opened : GoodIn wsX4_ack (wsV RX4 137 RX4 yX4_opened wsX4_opened) := goodIn_app (goodIn_of _ (by decide +kernel)) ggX4_ack_X4_opened
set_option maxRecDepth 20000 in
theorem ggX4_ack_X4_half : GoodIn wsX4_ack wsX4_half := goodIn_r _ [23, 24, 25, 26, 82, 83, 84, 85, 86, 87, 88, 89, 90, 91, 92, 93, 94, 95, 96, 97, 98, 99, 100, 101, 102, 103, 104, 105] (by decide +kernel) (by decide +kernel)
set_option maxRecDepth 20000 in
theorem gX4_ack_X4_half : GoodIn wsX4_ack (wsV RX4 143 RX4 yX4_half wsX4_half) := goodIn_app (goodIn_of _ (by decide +kernel)) ggX4_ack_X4_half
set_option maxRecDepth 20000 in
theorem ggX4_ack_X4_hasRoom : GoodIn wsX4_ack wsX4_hasRoom := goodIn_r _ [30, 31, 17, 32, 33, 34, 10, 35, 36, 82, 83, 84, 85, 86, 87, 88, 89, 90, 91, 92, 93, 94, 95, 96, 97, 98, 99, 100, 101, 102, 103, 104, 105] (by decide +kernel) (by decide +kernel)
set_option maxRecDepth 20000 in
theorem gX4_ack_X4_hasRoom : GoodIn wsX4_ack (wsV RX4 151 RX4 yX4_hasRoom wsX4_hasRoom) := goodIn_app (goodIn_of _ (by decide +kernel)) ggX4_ack_X4_hasRoom
set_option maxRecDepth 20000 in
theorem ggX4_ack_X4_come : GoodIn wsX4_ack wsX4_come := goodIn_r _ [40, 18, 17, 19, 41, 36, 82, 83, 84, 85, 86, 87, 88, 89, 90, 91, 92, 93, 94, 95, 96, 97, 98, 99, 100, 101, 102, 103, 104, 105] (by decide +kernel) (by decide +kernel)
set_option maxRecDepth 20000 in
theorem gX4_ack_X4_come : GoodIn wsX4_ack (wsV RX4 155 RX4 yX4_come wsX4_come) := goodIn_app (goodIn_of _ (by decide +kernel)) ggX4_ack_X4_come
set_option maxRecDepth 20000 in
theorem ggX4_ack_X4_dropHalf : GoodIn wsX4_ack wsX4_dropHalf := goodIn_r _ [45, 24, 25, 26, 2, 3, 4, 46, 82, 83, 84, 85, 86, 87, 88, 89, 90, 91, 92, 93, 94, 95, 96, 97, 98, 99, 100, 101, 102, 103, 104, 105] (by decide +kernel) (by decide +kernel)
set_option maxRecDepth 20000 in
theorem gX4_ack_X4_dropHalf : GoodIn wsX4_ack (wsV RX4 133 RX4 yX4_dropHalf wsX4_dropHalf) := goodIn_app (goodIn_of _ (by decide +kernel)) ggX4_ack_X4_dropHalf
set_option maxRecDepth 20000 in
theorem ggX4_ack_X4_cookieOf : GoodIn wsX4_ack wsX4_cookieOf := goodIn_r _ [50, 51, 52, 53, 54, 55, 56, 57, 10, 58, 59, 60, 61, 62, 63, 64, 65, 66, 67, 68, 69, 70, 71, 72, 73, 74, 75, 76, 77, 78, 79, 80, 81, 82, 83, 84, 85, 86, 87, 88, 89, 90, 91, 92, 93, 94, 95, 96, 97, 98, 99, 100, 101, 102, 103, 104, 105] (by decide +kernel) (by decide +kernel)
set_option maxRecDepth 20000 in
theorem gX4_ack_X4_cookieOf : GoodIn wsX4_ack (wsV RX4 116 RX4 yX4_cookieOf wsX4_cookieOf) := goodIn_app (goodIn_of _ (by decide +kernel)) ggX4_ack_X4_cookieOf
theorem dX4_ack_0 : decode cX4_ack 0 = .ok (.aload_n 0, 1) := by decide +kernel
theorem dX4_ack_1 : decode cX4_ack 1 = .ok (.iload_n 2, 1) := by decide +kernel
theorem dX4_ack_2 : decode cX4_ack 2 = .ok (.invokestatic 112, 3) := by decide +kernel
theorem dX4_ack_5 : decode cX4_ack 5 = .ok (.ifCond .eq 7, 3) := by decide +kernel
theorem dX4_ack_8 : decode cX4_ack 8 = .ok (.iconst 1, 1) := by decide +kernel
theorem dX4_ack_9 : decode cX4_ack 9 = .ok (.goto 4, 3) := by decide +kernel
theorem dX4_ack_12 : decode cX4_ack 12 = .ok (.iconst 0, 1) := by decide +kernel
theorem dX4_ack_13 : decode cX4_ack 13 = .ok (.putfield 54, 3) := by decide +kernel
theorem dX4_ack_16 : decode cX4_ack 16 = .ok (.aload_n 0, 1) := by decide +kernel
theorem dX4_ack_17 : decode cX4_ack 17 = .ok (.getfield 54, 3) := by decide +kernel
theorem dX4_ack_20 : decode cX4_ack 20 = .ok (.ifCond .le 5, 3) := by decide +kernel
theorem dX4_ack_23 : decode cX4_ack 23 = .ok (.iconst 0, 1) := by decide +kernel
theorem dX4_ack_24 : decode cX4_ack 24 = .ok (.ireturn, 1) := by decide +kernel
theorem dX4_ack_25 : decode cX4_ack 25 = .ok (.aload_n 0, 1) := by decide +kernel
theorem dX4_ack_26 : decode cX4_ack 26 = .ok (.iload_n 1, 1) := by decide +kernel
theorem dX4_ack_27 : decode cX4_ack 27 = .ok (.iload_n 2, 1) := by decide +kernel
theorem dX4_ack_28 : decode cX4_ack 28 = .ok (.invokevirtual 137, 3) := by decide +kernel
theorem dX4_ack_31 : decode cX4_ack 31 = .ok (.ifCond .lt 5, 3) := by decide +kernel
theorem dX4_ack_34 : decode cX4_ack 34 = .ok (.iconst 1, 1) := by decide +kernel
theorem dX4_ack_35 : decode cX4_ack 35 = .ok (.ireturn, 1) := by decide +kernel
theorem dX4_ack_36 : decode cX4_ack 36 = .ok (.aload_n 0, 1) := by decide +kernel
theorem dX4_ack_37 : decode cX4_ack 37 = .ok (.iload_n 1, 1) := by decide +kernel
theorem dX4_ack_38 : decode cX4_ack 38 = .ok (.iload_n 2, 1) := by decide +kernel
theorem dX4_ack_39 : decode cX4_ack 39 = .ok (.invokevirtual 143, 3) := by decide +kernel
theorem dX4_ack_42 : decode cX4_ack 42 = .ok (.istore 5, 2) := by decide +kernel
theorem dX4_ack_44 : decode cX4_ack 44 = .ok (.iload 5, 2) := by decide +kernel
theorem dX4_ack_46 : decode cX4_ack 46 = .ok (.ifCond .lt 70, 3) := by decide +kernel
theorem dX4_ack_49 : decode cX4_ack 49 = .ok (.aload_n 0, 1) := by decide +kernel
theorem dX4_ack_50 : decode cX4_ack 50 = .ok (.getfield 26, 3) := by decide +kernel
theorem dX4_ack_53 : decode cX4_ack 53 = .ok (.iload 5, 2) := by decide +kernel
theorem dX4_ack_55 : decode cX4_ack 55 = .ok (.iaload, 1) := by decide +kernel
theorem dX4_ack_56 : decode cX4_ack 56 = .ok (.iload_n 3, 1) := by decide +kernel
theorem dX4_ack_57 : decode cX4_ack 57 = .ok (.iconst 1, 1) := by decide +kernel
theorem dX4_ack_58 : decode cX4_ack 58 = .ok (.isub, 1) := by decide +kernel
theorem dX4_ack_59 : decode cX4_ack 59 = .ok (.if_icmp .ne 57, 3) := by decide +kernel
theorem dX4_ack_62 : decode cX4_ack 62 = .ok (.aload_n 0, 1) := by decide +kernel
theorem dX4_ack_63 : decode cX4_ack 63 = .ok (.getfield 29, 3) := by decide +kernel
theorem dX4_ack_66 : decode cX4_ack 66 = .ok (.iload 5, 2) := by decide +kernel
theorem dX4_ack_68 : decode cX4_ack 68 = .ok (.iaload, 1) := by decide +kernel
theorem dX4_ack_69 : decode cX4_ack 69 = .ok (.iload 4, 2) := by decide +kernel
theorem dX4_ack_71 : decode cX4_ack 71 = .ok (.iconst 1, 1) := by decide +kernel
theorem dX4_ack_72 : decode cX4_ack 72 = .ok (.isub, 1) := by decide +kernel
theorem dX4_ack_73 : decode cX4_ack 73 = .ok (.if_icmp .ne 43, 3) := by decide +kernel
theorem dX4_ack_76 : decode cX4_ack 76 = .ok (.aload_n 0, 1) := by decide +kernel
theorem dX4_ack_77 : decode cX4_ack 77 = .ok (.invokevirtual 151, 3) := by decide +kernel
theorem dX4_ack_80 : decode cX4_ack 80 = .ok (.ifCond .ne 5, 3) := by decide +kernel
theorem dX4_ack_83 : decode cX4_ack 83 = .ok (.iconst 3, 1) := by decide +kernel
theorem dX4_ack_84 : decode cX4_ack 84 = .ok (.ireturn, 1) := by decide +kernel
theorem dX4_ack_85 : decode cX4_ack 85 = .ok (.aload_n 0, 1) := by decide +kernel
theorem dX4_ack_86 : decode cX4_ack 86 = .ok (.iload_n 1, 1) := by decide +kernel
theorem dX4_ack_87 : decode cX4_ack 87 = .ok (.iload_n 2, 1) := by decide +kernel
theorem dX4_ack_88 : decode cX4_ack 88 = .ok (.aload_n 0, 1) := by decide +kernel
theorem dX4_ack_89 : decode cX4_ack 89 = .ok (.getfield 32, 3) := by decide +kernel
theorem dX4_ack_92 : decode cX4_ack 92 = .ok (.iload 5, 2) := by decide +kernel
theorem dX4_ack_94 : decode cX4_ack 94 = .ok (.iaload, 1) := by decide +kernel
theorem dX4_ack_95 : decode cX4_ack 95 = .ok (.invokevirtual 155, 3) := by decide +kernel
theorem dX4_ack_98 : decode cX4_ack 98 = .ok (.aload_n 0, 1) := by decide +kernel
theorem dX4_ack_99 : decode cX4_ack 99 = .ok (.iload 5, 2) := by decide +kernel
theorem dX4_ack_101 : decode cX4_ack 101 = .ok (.invokevirtual 133, 3) := by decide +kernel
theorem dX4_ack_104 : decode cX4_ack 104 = .ok (.aload_n 0, 1) := by decide +kernel
theorem dX4_ack_105 : decode cX4_ack 105 = .ok (.getfield 51, 3) := by decide +kernel
theorem dX4_ack_108 : decode cX4_ack 108 = .ok (.iconst 1, 1) := by decide +kernel
theorem dX4_ack_109 : decode cX4_ack 109 = .ok (.dup2, 1) := by decide +kernel
theorem dX4_ack_110 : decode cX4_ack 110 = .ok (.iaload, 1) := by decide +kernel
theorem dX4_ack_111 : decode cX4_ack 111 = .ok (.iconst 1, 1) := by decide +kernel
theorem dX4_ack_112 : decode cX4_ack 112 = .ok (.iadd, 1) := by decide +kernel
theorem dX4_ack_113 : decode cX4_ack 113 = .ok (.iastore, 1) := by decide +kernel
theorem dX4_ack_114 : decode cX4_ack 114 = .ok (.iconst 2, 1) := by decide +kernel
theorem dX4_ack_115 : decode cX4_ack 115 = .ok (.ireturn, 1) := by decide +kernel
theorem dX4_ack_116 : decode cX4_ack 116 = .ok (.iload 5, 2) := by decide +kernel
theorem dX4_ack_118 : decode cX4_ack 118 = .ok (.ifCond .lt 5, 3) := by decide +kernel
theorem dX4_ack_121 : decode cX4_ack 121 = .ok (.iconst 4, 1) := by decide +kernel
theorem dX4_ack_122 : decode cX4_ack 122 = .ok (.ireturn, 1) := by decide +kernel
theorem dX4_ack_123 : decode cX4_ack 123 = .ok (.aload_n 0, 1) := by decide +kernel
theorem dX4_ack_124 : decode cX4_ack 124 = .ok (.getfield 16, 3) := by decide +kernel
theorem dX4_ack_127 : decode cX4_ack 127 = .ok (.ifCond .lt 18, 3) := by decide +kernel
theorem dX4_ack_130 : decode cX4_ack 130 = .ok (.aload_n 0, 1) := by decide +kernel
theorem dX4_ack_131 : decode cX4_ack 131 = .ok (.getfield 130, 3) := by decide +kernel
theorem dX4_ack_134 : decode cX4_ack 134 = .ok (.aload_n 0, 1) := by decide +kernel
theorem dX4_ack_135 : decode cX4_ack 135 = .ok (.getfield 16, 3) := by decide +kernel
theorem dX4_ack_138 : decode cX4_ack 138 = .ok (.isub, 1) := by decide +kernel
theorem dX4_ack_139 : decode cX4_ack 139 = .ok (.sipush 128, 3) := by decide +kernel
theorem dX4_ack_142 : decode cX4_ack 142 = .ok (.if_icmp .le 16, 3) := by decide +kernel
theorem dX4_ack_145 : decode cX4_ack 145 = .ok (.aload_n 0, 1) := by decide +kernel
theorem dX4_ack_146 : decode cX4_ack 146 = .ok (.getfield 51, 3) := by decide +kernel
theorem dX4_ack_149 : decode cX4_ack 149 = .ok (.iconst 3, 1) := by decide +kernel
theorem dX4_ack_150 : decode cX4_ack 150 = .ok (.dup2, 1) := by decide +kernel
theorem dX4_ack_151 : decode cX4_ack 151 = .ok (.iaload, 1) := by decide +kernel
theorem dX4_ack_152 : decode cX4_ack 152 = .ok (.iconst 1, 1) := by decide +kernel
theorem dX4_ack_153 : decode cX4_ack 153 = .ok (.iadd, 1) := by decide +kernel
theorem dX4_ack_154 : decode cX4_ack 154 = .ok (.iastore, 1) := by decide +kernel
theorem dX4_ack_155 : decode cX4_ack 155 = .ok (.bipush 8, 2) := by decide +kernel
theorem dX4_ack_157 : decode cX4_ack 157 = .ok (.ireturn, 1) := by decide +kernel
theorem dX4_ack_158 : decode cX4_ack 158 = .ok (.iload 4, 2) := by decide +kernel
theorem dX4_ack_160 : decode cX4_ack 160 = .ok (.iconst 1, 1) := by decide +kernel
theorem dX4_ack_161 : decode cX4_ack 161 = .ok (.isub, 1) := by decide +kernel
theorem dX4_ack_162 : decode cX4_ack 162 = .ok (.istore 6, 2) := by decide +kernel
theorem dX4_ack_164 : decode cX4_ack 164 = .ok (.iload 6, 2) := by decide +kernel
theorem dX4_ack_166 : decode cX4_ack 166 = .ok (.bipush 24, 2) := by decide +kernel
theorem dX4_ack_168 : decode cX4_ack 168 = .ok (.iushr, 1) := by decide +kernel
theorem dX4_ack_169 : decode cX4_ack 169 = .ok (.bipush 7, 2) := by decide +kernel
theorem dX4_ack_171 : decode cX4_ack 171 = .ok (.iand, 1) := by decide +kernel
theorem dX4_ack_172 : decode cX4_ack 172 = .ok (.istore 7, 2) := by decide +kernel
theorem dX4_ack_174 : decode cX4_ack 174 = .ok (.aload_n 0, 1) := by decide +kernel
theorem dX4_ack_175 : decode cX4_ack 175 = .ok (.getfield 130, 3) := by decide +kernel
theorem dX4_ack_178 : decode cX4_ack 178 = .ok (.bipush 64, 2) := by decide +kernel
theorem dX4_ack_180 : decode cX4_ack 180 = .ok (.idiv, 1) := by decide +kernel
theorem dX4_ack_181 : decode cX4_ack 181 = .ok (.istore 8, 2) := by decide +kernel
theorem dX4_ack_183 : decode cX4_ack 183 = .ok (.iload 6, 2) := by decide +kernel
theorem dX4_ack_185 : decode cX4_ack 185 = .ok (.aload_n 0, 1) := by decide +kernel
theorem dX4_ack_186 : decode cX4_ack 186 = .ok (.iload_n 1, 1) := by decide +kernel
theorem dX4_ack_187 : decode cX4_ack 187 = .ok (.iload_n 2, 1) := by decide +kernel
theorem dX4_ack_188 : decode cX4_ack 188 = .ok (.iload_n 3, 1) := by decide +kernel
theorem dX4_ack_189 : decode cX4_ack 189 = .ok (.iconst 1, 1) := by decide +kernel
theorem dX4_ack_190 : decode cX4_ack 190 = .ok (.isub, 1) := by decide +kernel
theorem dX4_ack_191 : decode cX4_ack 191 = .ok (.iload 7, 2) := by decide +kernel
theorem dX4_ack_193 : decode cX4_ack 193 = .ok (.iload 8, 2) := by decide +kernel
theorem dX4_ack_195 : decode cX4_ack 195 = .ok (.invokevirtual 116, 3) := by decide +kernel
theorem dX4_ack_198 : decode cX4_ack 198 = .ok (.if_icmp .ne 7, 3) := by decide +kernel
theorem dX4_ack_201 : decode cX4_ack 201 = .ok (.iconst 1, 1) := by decide +kernel
theorem dX4_ack_202 : decode cX4_ack 202 = .ok (.goto 4, 3) := by decide +kernel
theorem dX4_ack_205 : decode cX4_ack 205 = .ok (.iconst 0, 1) := by decide +kernel
theorem dX4_ack_206 : decode cX4_ack 206 = .ok (.istore 9, 2) := by decide +kernel
theorem dX4_ack_208 : decode cX4_ack 208 = .ok (.iload 9, 2) := by decide +kernel
theorem dX4_ack_210 : decode cX4_ack 210 = .ok (.ifCond .ne 28, 3) := by decide +kernel
theorem dX4_ack_213 : decode cX4_ack 213 = .ok (.iload 8, 2) := by decide +kernel
theorem dX4_ack_215 : decode cX4_ack 215 = .ok (.ifCond .le 27, 3) := by decide +kernel
theorem dX4_ack_218 : decode cX4_ack 218 = .ok (.iload 6, 2) := by decide +kernel
theorem dX4_ack_220 : decode cX4_ack 220 = .ok (.aload_n 0, 1) := by decide +kernel
theorem dX4_ack_221 : decode cX4_ack 221 = .ok (.iload_n 1, 1) := by decide +kernel
theorem dX4_ack_222 : decode cX4_ack 222 = .ok (.iload_n 2, 1) := by decide +kernel
theorem dX4_ack_223 : decode cX4_ack 223 = .ok (.iload_n 3, 1) := by decide +kernel
theorem dX4_ack_224 : decode cX4_ack 224 = .ok (.iconst 1, 1) := by decide +kernel
theorem dX4_ack_225 : decode cX4_ack 225 = .ok (.isub, 1) := by decide +kernel
theorem dX4_ack_226 : decode cX4_ack 226 = .ok (.iload 7, 2) := by decide +kernel
theorem dX4_ack_228 : decode cX4_ack 228 = .ok (.iload 8, 2) := by decide +kernel
theorem dX4_ack_230 : decode cX4_ack 230 = .ok (.iconst 1, 1) := by decide +kernel
theorem dX4_ack_231 : decode cX4_ack 231 = .ok (.isub, 1) := by decide +kernel
theorem dX4_ack_232 : decode cX4_ack 232 = .ok (.invokevirtual 116, 3) := by decide +kernel
theorem dX4_ack_235 : decode cX4_ack 235 = .ok (.if_icmp .ne 7, 3) := by decide +kernel
theorem dX4_ack_238 : decode cX4_ack 238 = .ok (.iconst 1, 1) := by decide +kernel
theorem dX4_ack_239 : decode cX4_ack 239 = .ok (.goto 4, 3) := by decide +kernel
theorem dX4_ack_242 : decode cX4_ack 242 = .ok (.iconst 0, 1) := by decide +kernel
theorem dX4_ack_243 : decode cX4_ack 243 = .ok (.istore 9, 2) := by decide +kernel
theorem dX4_ack_245 : decode cX4_ack 245 = .ok (.iload 9, 2) := by decide +kernel
theorem dX4_ack_247 : decode cX4_ack 247 = .ok (.ifCond .ne 16, 3) := by decide +kernel
theorem dX4_ack_250 : decode cX4_ack 250 = .ok (.aload_n 0, 1) := by decide +kernel
theorem dX4_ack_251 : decode cX4_ack 251 = .ok (.getfield 51, 3) := by decide +kernel
theorem dX4_ack_254 : decode cX4_ack 254 = .ok (.iconst 3, 1) := by decide +kernel
theorem dX4_ack_255 : decode cX4_ack 255 = .ok (.dup2, 1) := by decide +kernel
theorem dX4_ack_256 : decode cX4_ack 256 = .ok (.iaload, 1) := by decide +kernel
theorem dX4_ack_257 : decode cX4_ack 257 = .ok (.iconst 1, 1) := by decide +kernel
theorem dX4_ack_258 : decode cX4_ack 258 = .ok (.iadd, 1) := by decide +kernel
theorem dX4_ack_259 : decode cX4_ack 259 = .ok (.iastore, 1) := by decide +kernel
theorem dX4_ack_260 : decode cX4_ack 260 = .ok (.bipush 7, 2) := by decide +kernel
theorem dX4_ack_262 : decode cX4_ack 262 = .ok (.ireturn, 1) := by decide +kernel
theorem dX4_ack_263 : decode cX4_ack 263 = .ok (.aload_n 0, 1) := by decide +kernel
theorem dX4_ack_264 : decode cX4_ack 264 = .ok (.invokevirtual 151, 3) := by decide +kernel
theorem dX4_ack_267 : decode cX4_ack 267 = .ok (.ifCond .ne 6, 3) := by decide +kernel
theorem dX4_ack_270 : decode cX4_ack 270 = .ok (.bipush 6, 2) := by decide +kernel
theorem dX4_ack_272 : decode cX4_ack 272 = .ok (.ireturn, 1) := by decide +kernel
theorem dX4_ack_273 : decode cX4_ack 273 = .ok (.aload_n 0, 1) := by decide +kernel
theorem dX4_ack_274 : decode cX4_ack 274 = .ok (.iload_n 1, 1) := by decide +kernel
theorem dX4_ack_275 : decode cX4_ack 275 = .ok (.iload_n 2, 1) := by decide +kernel
theorem dX4_ack_276 : decode cX4_ack 276 = .ok (.iload 7, 2) := by decide +kernel
theorem dX4_ack_278 : decode cX4_ack 278 = .ok (.invokevirtual 155, 3) := by decide +kernel
theorem dX4_ack_281 : decode cX4_ack 281 = .ok (.aload_n 0, 1) := by decide +kernel
theorem dX4_ack_282 : decode cX4_ack 282 = .ok (.getfield 51, 3) := by decide +kernel
theorem dX4_ack_285 : decode cX4_ack 285 = .ok (.iconst 2, 1) := by decide +kernel
theorem dX4_ack_286 : decode cX4_ack 286 = .ok (.dup2, 1) := by decide +kernel
theorem dX4_ack_287 : decode cX4_ack 287 = .ok (.iaload, 1) := by decide +kernel
theorem dX4_ack_288 : decode cX4_ack 288 = .ok (.iconst 1, 1) := by decide +kernel
theorem dX4_ack_289 : decode cX4_ack 289 = .ok (.iadd, 1) := by decide +kernel
theorem dX4_ack_290 : decode cX4_ack 290 = .ok (.iastore, 1) := by decide +kernel
theorem dX4_ack_291 : decode cX4_ack 291 = .ok (.iconst 5, 1) := by decide +kernel
theorem dX4_ack_292 : decode cX4_ack 292 = .ok (.ireturn, 1) := by decide +kernel
theorem dX4_take__0 : decode cX4_take_ 0 = .ok (.aload_n 0, 1) := by decide +kernel
theorem dX4_take__1 : decode cX4_take_ 1 = .ok (.iconst 0, 1) := by decide +kernel
theorem dX4_take__2 : decode cX4_take_ 2 = .ok (.putfield 54, 3) := by decide +kernel
theorem dX4_take__5 : decode cX4_take_ 5 = .ok (.iconst 0, 1) := by decide +kernel
theorem dX4_take__6 : decode cX4_take_ 6 = .ok (.istore_n 1, 1) := by decide +kernel
theorem dX4_take__7 : decode cX4_take_ 7 = .ok (.iload_n 1, 1) := by decide +kernel
theorem dX4_take__8 : decode cX4_take_ 8 = .ok (.aload_n 0, 1) := by decide +kernel
theorem dX4_take__9 : decode cX4_take_ 9 = .ok (.getfield 123, 3) := by decide +kernel
theorem dX4_take__12 : decode cX4_take_ 12 = .ok (.if_icmp .ge 42, 3) := by decide +kernel
theorem dX4_take__15 : decode cX4_take_ 15 = .ok (.aload_n 0, 1) := by decide +kernel
theorem dX4_take__16 : decode cX4_take_ 16 = .ok (.getfield 47, 3) := by decide +kernel
theorem dX4_take__19 : decode cX4_take_ 19 = .ok (.iload_n 1, 1) := by decide +kernel
theorem dX4_take__20 : decode cX4_take_ 20 = .ok (.baload, 1) := by decide +kernel
theorem dX4_take__21 : decode cX4_take_ 21 = .ok (.ifCond .ne 27, 3) := by decide +kernel
theorem dX4_take__24 : decode cX4_take_ 24 = .ok (.aload_n 0, 1) := by decide +kernel
theorem dX4_take__25 : decode cX4_take_ 25 = .ok (.getfield 47, 3) := by decide +kernel
theorem dX4_take__28 : decode cX4_take_ 28 = .ok (.iload_n 1, 1) := by decide +kernel
theorem dX4_take__29 : decode cX4_take_ 29 = .ok (.iconst 1, 1) := by decide +kernel
theorem dX4_take__30 : decode cX4_take_ 30 = .ok (.bastore, 1) := by decide +kernel
theorem dX4_take__31 : decode cX4_take_ 31 = .ok (.aload_n 0, 1) := by decide +kernel
theorem dX4_take__32 : decode cX4_take_ 32 = .ok (.getfield 41, 3) := by decide +kernel
theorem dX4_take__35 : decode cX4_take_ 35 = .ok (.iload_n 1, 1) := by decide +kernel
theorem dX4_take__36 : decode cX4_take_ 36 = .ok (.iaload, 1) := by decide +kernel
theorem dX4_take__37 : decode cX4_take_ 37 = .ok (.ldc 159, 2) := by decide +kernel
theorem dX4_take__39 : decode cX4_take_ 39 = .ok (.aload_n 0, 1) := by decide +kernel
theorem dX4_take__40 : decode cX4_take_ 40 = .ok (.getfield 44, 3) := by decide +kernel
theorem dX4_take__43 : decode cX4_take_ 43 = .ok (.iload_n 1, 1) := by decide +kernel
theorem dX4_take__44 : decode cX4_take_ 44 = .ok (.iaload, 1) := by decide +kernel
theorem dX4_take__45 : decode cX4_take_ 45 = .ok (.imul, 1) := by decide +kernel
theorem dX4_take__46 : decode cX4_take_ 46 = .ok (.iadd, 1) := by decide +kernel
theorem dX4_take__47 : decode cX4_take_ 47 = .ok (.ireturn, 1) := by decide +kernel
theorem dX4_take__48 : decode cX4_take_ 48 = .ok (.iinc 1 1, 3) := by decide +kernel
theorem dX4_take__51 : decode cX4_take_ 51 = .ok (.goto (-44), 3) := by decide +kernel
theorem dX4_take__54 : decode cX4_take_ 54 = .ok (.iconst (-1), 1) := by decide +kernel
theorem dX4_take__55 : decode cX4_take_ 55 = .ok (.ireturn, 1) := by decide +kernel
set_option maxRecDepth 20000 in
theorem ggX4_stateOf_X4_opened : GoodIn wsX4_stateOf wsX4_opened := goodIn_r _ [6, 7, 8, 9, 17, 18, 19, 20, 21, 22, 23, 24, 25, 26, 27, 28, 29, 30, 31, 32, 33, 34, 35, 36, 37, 38, 39, 40] (by decide +kernel) (by decide +kernel)
set_option maxRecDepth 20000 in
theorem gX4_stateOf_X4_opened : GoodIn wsX4_stateOf (wsV RX4 137 RX4 yX4_opened wsX4_opened) := goodIn_app (goodIn_of _ (by decide +kernel)) ggX4_stateOf_X4_opened
set_option maxRecDepth 20000 in
theorem ggX4_stateOf_X4_half : GoodIn wsX4_stateOf wsX4_half := goodIn_r _ [13, 14, 15, 16, 17, 18, 19, 20, 21, 22, 23, 24, 25, 26, 27, 28, 29, 30, 31, 32, 33, 34, 35, 36, 37, 38, 39, 40] (by decide +kernel) (by decide +kernel)
set_option maxRecDepth 20000 in
theorem gX4_stateOf_X4_half : GoodIn wsX4_stateOf (wsV RX4 143 RX4 yX4_half wsX4_half) := goodIn_app (goodIn_of _ (by decide +kernel)) ggX4_stateOf_X4_half
theorem dX4_stateOf_0 : decode cX4_stateOf 0 = .ok (.aload_n 0, 1) := by decide +kernel
theorem dX4_stateOf_1 : decode cX4_stateOf 1 = .ok (.iload_n 1, 1) := by decide +kernel
theorem dX4_stateOf_2 : decode cX4_stateOf 2 = .ok (.iload_n 2, 1) := by decide +kernel
theorem dX4_stateOf_3 : decode cX4_stateOf 3 = .ok (.invokevirtual 137, 3) := by decide +kernel
theorem dX4_stateOf_6 : decode cX4_stateOf 6 = .ok (.istore_n 3, 1) := by decide +kernel
theorem dX4_stateOf_7 : decode cX4_stateOf 7 = .ok (.iload_n 3, 1) := by decide +kernel
theorem dX4_stateOf_8 : decode cX4_stateOf 8 = .ok (.ifCond .lt 20, 3) := by decide +kernel
theorem dX4_stateOf_11 : decode cX4_stateOf 11 = .ok (.aload_n 0, 1) := by decide +kernel
theorem dX4_stateOf_12 : decode cX4_stateOf 12 = .ok (.getfield 47, 3) := by decide +kernel
theorem dX4_stateOf_15 : decode cX4_stateOf 15 = .ok (.iload_n 3, 1) := by decide +kernel
theorem dX4_stateOf_16 : decode cX4_stateOf 16 = .ok (.baload, 1) := by decide +kernel
theorem dX4_stateOf_17 : decode cX4_stateOf 17 = .ok (.ifCond .eq 7, 3) := by decide +kernel
theorem dX4_stateOf_20 : decode cX4_stateOf 20 = .ok (.iconst 3, 1) := by decide +kernel
theorem dX4_stateOf_21 : decode cX4_stateOf 21 = .ok (.goto 21, 3) := by decide +kernel
theorem dX4_stateOf_24 : decode cX4_stateOf 24 = .ok (.iconst 2, 1) := by decide +kernel
theorem dX4_stateOf_25 : decode cX4_stateOf 25 = .ok (.goto 17, 3) := by decide +kernel
theorem dX4_stateOf_28 : decode cX4_stateOf 28 = .ok (.aload_n 0, 1) := by decide +kernel
theorem dX4_stateOf_29 : decode cX4_stateOf 29 = .ok (.iload_n 1, 1) := by decide +kernel
theorem dX4_stateOf_30 : decode cX4_stateOf 30 = .ok (.iload_n 2, 1) := by decide +kernel
theorem dX4_stateOf_31 : decode cX4_stateOf 31 = .ok (.invokevirtual 143, 3) := by decide +kernel
theorem dX4_stateOf_34 : decode cX4_stateOf 34 = .ok (.ifCond .lt 7, 3) := by decide +kernel
theorem dX4_stateOf_37 : decode cX4_stateOf 37 = .ok (.iconst 1, 1) := by decide +kernel
theorem dX4_stateOf_38 : decode cX4_stateOf 38 = .ok (.goto 4, 3) := by decide +kernel
theorem dX4_stateOf_41 : decode cX4_stateOf 41 = .ok (.iconst 0, 1) := by decide +kernel
theorem dX4_stateOf_42 : decode cX4_stateOf 42 = .ok (.ireturn, 1) := by decide +kernel
set_option maxRecDepth 20000 in
theorem ggX4_close_X4_noPort : GoodIn wsX4_close wsX4_noPort := goodIn_r _ [5, 6] (by decide +kernel) (by decide +kernel)
set_option maxRecDepth 20000 in
theorem gX4_close_X4_noPort : GoodIn wsX4_close (va_wsS RX4 112 yX4_noPort wsX4_noPort) := goodIn_app (goodIn_of _ (by decide +kernel)) ggX4_close_X4_noPort
set_option maxRecDepth 20000 in
theorem ggX4_close_X4_stateOf : GoodIn wsX4_close wsX4_stateOf := goodIn_r _ [10, 11, 12, 13, 14, 4, 15, 16, 17, 18, 19, 20, 21, 22, 23, 24, 25, 39, 40, 41, 42, 43, 44, 45, 46, 47, 48, 49, 50, 51, 52, 53, 54, 55, 56, 57, 58, 59, 60, 61, 62] (by decide +kernel) (by decide +kernel)
set_option maxRecDepth 20000 in
theorem gX4_close_X4_stateOf : GoodIn wsX4_close (wsV RX4 160 RX4 yX4_stateOf wsX4_stateOf) := goodIn_app (goodIn_of _ (by decide +kernel)) ggX4_close_X4_stateOf
set_option maxRecDepth 20000 in
theorem ggX4_close_X4_half : GoodIn wsX4_close wsX4_half := goodIn_r _ [22, 23, 24, 25, 39, 40, 41, 42, 43, 44, 45, 46, 47, 48, 49, 50, 51, 52, 53, 54, 55, 56, 57, 58, 59, 60, 61, 62] (by decide +kernel) (by decide +kernel)
set_option maxRecDepth 20000 in
theorem gX4_close_X4_half : GoodIn wsX4_close (wsV RX4 143 RX4 yX4_half wsX4_half) := goodIn_app (goodIn_of _ (by decide +kernel)) ggX4_close_X4_half
set_option maxRecDepth 20000 in
theorem ggX4_close_X4_dropHalf : GoodIn wsX4_close wsX4_dropHalf := goodIn_r _ [29, 23, 24, 25, 30, 31, 32, 33, 39, 40, 41, 42, 43, 44, 45, 46, 47, 48, 49, 50, 51, 52, 53, 54, 55, 56, 57, 58, 59, 60, 61, 62] (by decide +kernel) (by decide +kernel)
set_option maxRecDepth 20000 in
theorem gX4_close_X4_dropHalf : GoodIn wsX4_close (wsV RX4 133 RX4 yX4_dropHalf wsX4_dropHalf) := goodIn_app (goodIn_of _ (by decide +kernel)) ggX4_close_X4_dropHalf
set_option maxRecDepth 20000 in
theorem ggX4_close_X4_opened : GoodIn wsX4_close wsX4_opened := goodIn_r _ [15, 16, 17, 18, 39, 40, 41, 42, 43, 44, 45, 46, 47, 48, 49, 50, 51, 52, 53, 54, 55, 56, 57, 58, 59, 60, 61, 62] (by decide +kernel) (by decide +kernel)
set_option maxRecDepth 20000 in
theorem gX4_close_X4_opened : GoodIn wsX4_close (wsV RX4 137 RX4 yX4_opened wsX4_opened) := goodIn_app (goodIn_of _ (by decide +kernel)) ggX4_close_X4_opened
set_option maxRecDepth 20000 in
theorem ggX4_close_X4_dropOpen : GoodIn wsX4_close wsX4_dropOpen := goodIn_r _ [37, 16, 17, 18, 38, 11, 39, 40, 41, 42, 43, 44, 45, 46, 47, 48, 49, 50, 51, 52, 53, 54, 55, 56, 57, 58, 59, 60, 61, 62] (by decide +kernel) (by decide +kernel)
set_option maxRecDepth 20000 in
theorem gX4_close_X4_dropOpen : GoodIn wsX4_close (wsV RX4 163 RX4 yX4_dropOpen wsX4_dropOpen) := goodIn_app (goodIn_of _ (by decide +kernel)) ggX4_close_X4_dropOpen
theorem dX4_close_0 : decode cX4_close 0 = .ok (.aload_n 0, 1) := by decide +kernel
theorem dX4_close_1 : decode cX4_close 1 = .ok (.iload_n 2, 1) := by decide +kernel
theorem dX4_close_2 : decode cX4_close 2 = .ok (.invokestatic 112, 3) := by decide +kernel
theorem dX4_close_5 : decode cX4_close 5 = .ok (.ifCond .eq 7, 3) := by decide +kernel
theorem dX4_close_8 : decode cX4_close 8 = .ok (.iconst 1, 1) := by decide +kernel
theorem dX4_close_9 : decode cX4_close 9 = .ok (.goto 4, 3) := by decide +kernel
theorem dX4_close_12 : decode cX4_close 12 = .ok (.iconst 0, 1) := by decide +kernel
theorem dX4_close_13 : decode cX4_close 13 = .ok (.putfield 54, 3) := by decide +kernel
theorem dX4_close_16 : decode cX4_close 16 = .ok (.aload_n 0, 1) := by decide +kernel
theorem dX4_close_17 : decode cX4_close 17 = .ok (.getfield 54, 3) := by decide +kernel
theorem dX4_close_20 : decode cX4_close 20 = .ok (.ifCond .le 5, 3) := by decide +kernel
theorem dX4_close_23 : decode cX4_close 23 = .ok (.iconst 0, 1) := by decide +kernel
theorem dX4_close_24 : decode cX4_close 24 = .ok (.ireturn, 1) := by decide +kernel
theorem dX4_close_25 : decode cX4_close 25 = .ok (.aload_n 0, 1) := by decide +kernel
theorem dX4_close_26 : decode cX4_close 26 = .ok (.iload_n 1, 1) := by decide +kernel
theorem dX4_close_27 : decode cX4_close 27 = .ok (.iload_n 2, 1) := by decide +kernel
theorem dX4_close_28 : decode cX4_close 28 = .ok (.invokevirtual 160, 3) := by decide +kernel
theorem dX4_close_31 : decode cX4_close 31 = .ok (.istore_n 3, 1) := by decide +kernel
theorem dX4_close_32 : decode cX4_close 32 = .ok (.iload_n 3, 1) := by decide +kernel
theorem dX4_close_33 : decode cX4_close 33 = .ok (.iconst 1, 1) := by decide +kernel
theorem dX4_close_34 : decode cX4_close 34 = .ok (.if_icmp .ne 16, 3) := by decide +kernel
theorem dX4_close_37 : decode cX4_close 37 = .ok (.aload_n 0, 1) := by decide +kernel
theorem dX4_close_38 : decode cX4_close 38 = .ok (.aload_n 0, 1) := by decide +kernel
theorem dX4_close_39 : decode cX4_close 39 = .ok (.iload_n 1, 1) := by decide +kernel
theorem dX4_close_40 : decode cX4_close 40 = .ok (.iload_n 2, 1) := by decide +kernel
theorem dX4_close_41 : decode cX4_close 41 = .ok (.invokevirtual 143, 3) := by decide +kernel
theorem dX4_close_44 : decode cX4_close 44 = .ok (.invokevirtual 133, 3) := by decide +kernel
theorem dX4_close_47 : decode cX4_close 47 = .ok (.goto 18, 3) := by decide +kernel
theorem dX4_close_50 : decode cX4_close 50 = .ok (.iload_n 3, 1) := by decide +kernel
theorem dX4_close_51 : decode cX4_close 51 = .ok (.iconst 1, 1) := by decide +kernel
theorem dX4_close_52 : decode cX4_close 52 = .ok (.if_icmp .le 13, 3) := by decide +kernel
theorem dX4_close_55 : decode cX4_close 55 = .ok (.aload_n 0, 1) := by decide +kernel
theorem dX4_close_56 : decode cX4_close 56 = .ok (.aload_n 0, 1) := by decide +kernel
theorem dX4_close_57 : decode cX4_close 57 = .ok (.iload_n 1, 1) := by decide +kernel
theorem dX4_close_58 : decode cX4_close 58 = .ok (.iload_n 2, 1) := by decide +kernel
theorem dX4_close_59 : decode cX4_close 59 = .ok (.invokevirtual 137, 3) := by decide +kernel
theorem dX4_close_62 : decode cX4_close 62 = .ok (.invokevirtual 163, 3) := by decide +kernel
theorem dX4_close_65 : decode cX4_close 65 = .ok (.iload_n 3, 1) := by decide +kernel
theorem dX4_close_66 : decode cX4_close 66 = .ok (.ireturn, 1) := by decide +kernel
set_option maxRecDepth 20000 in
theorem ggX4_state_X4_noPort : GoodIn wsX4_state wsX4_noPort := goodIn_r _ [5, 6] (by decide +kernel) (by decide +kernel)
set_option maxRecDepth 20000 in
theorem gX4_state_X4_noPort : GoodIn wsX4_state (va_wsS RX4 112 yX4_noPort wsX4_noPort) := goodIn_app (goodIn_of _ (by decide +kernel)) ggX4_state_X4_noPort
set_option maxRecDepth 20000 in
theorem ggX4_state_X4_stateOf : GoodIn wsX4_state wsX4_stateOf := goodIn_r _ [10, 11, 12, 13, 14, 4, 15, 16, 17, 18, 19, 20, 21, 22, 23, 24, 25, 26, 27, 28, 29, 30, 31, 32, 33, 34, 35, 36, 37, 38, 39, 40, 41, 42, 43, 44, 45, 46, 47, 48, 49] (by decide +kernel) (by decide +kernel)
set_option maxRecDepth 20000 in
theorem gX4_state_X4_stateOf : GoodIn wsX4_state (wsV RX4 160 RX4 yX4_stateOf wsX4_stateOf) := goodIn_app (goodIn_of _ (by decide +kernel)) ggX4_state_X4_stateOf
theorem dX4_state_0 : decode cX4_state 0 = .ok (.aload_n 0, 1) := by decide +kernel
theorem dX4_state_1 : decode cX4_state 1 = .ok (.iload_n 2, 1) := by decide +kernel
theorem dX4_state_2 : decode cX4_state 2 = .ok (.invokestatic 112, 3) := by decide +kernel
theorem dX4_state_5 : decode cX4_state 5 = .ok (.ifCond .eq 7, 3) := by decide +kernel
theorem dX4_state_8 : decode cX4_state 8 = .ok (.iconst 1, 1) := by decide +kernel
theorem dX4_state_9 : decode cX4_state 9 = .ok (.goto 4, 3) := by decide +kernel
theorem dX4_state_12 : decode cX4_state 12 = .ok (.iconst 0, 1) := by decide +kernel
theorem dX4_state_13 : decode cX4_state 13 = .ok (.putfield 54, 3) := by decide +kernel
theorem dX4_state_16 : decode cX4_state 16 = .ok (.aload_n 0, 1) := by decide +kernel
theorem dX4_state_17 : decode cX4_state 17 = .ok (.getfield 54, 3) := by decide +kernel
theorem dX4_state_20 : decode cX4_state 20 = .ok (.ifCond .le 7, 3) := by decide +kernel
theorem dX4_state_23 : decode cX4_state 23 = .ok (.iconst 0, 1) := by decide +kernel
theorem dX4_state_24 : decode cX4_state 24 = .ok (.goto 9, 3) := by decide +kernel
theorem dX4_state_27 : decode cX4_state 27 = .ok (.aload_n 0, 1) := by decide +kernel
theorem dX4_state_28 : decode cX4_state 28 = .ok (.iload_n 1, 1) := by decide +kernel
theorem dX4_state_29 : decode cX4_state 29 = .ok (.iload_n 2, 1) := by decide +kernel
theorem dX4_state_30 : decode cX4_state 30 = .ok (.invokevirtual 160, 3) := by decide +kernel
theorem dX4_state_33 : decode cX4_state 33 = .ok (.ireturn, 1) := by decide +kernel
set_option maxRecDepth 20000 in
theorem ggX4_told_X4_waiting : GoodIn wsX4_told wsX4_waiting := goodIn_r _ [10, 3, 11, 12, 13, 14, 15, 16, 17, 18, 19, 20, 21, 22, 23, 24, 25, 26, 27, 28, 29, 30, 31, 32, 33, 34, 35] (by decide +kernel) (by decide +kernel)
set_option maxRecDepth 20000 in
theorem gX4_told_X4_waiting : GoodIn wsX4_told (wsV RX4 126 RX4 yX4_waiting wsX4_waiting) := goodIn_app (goodIn_of _ (by decide +kernel)) ggX4_told_X4_waiting
theorem dX4_told_0 : decode cX4_told 0 = .ok (.aload_n 0, 1) := by decide +kernel
theorem dX4_told_1 : decode cX4_told 1 = .ok (.iload_n 1, 1) := by decide +kernel
theorem dX4_told_2 : decode cX4_told 2 = .ok (.ifCond .lt 9, 3) := by decide +kernel
theorem dX4_told_5 : decode cX4_told 5 = .ok (.iload_n 1, 1) := by decide +kernel
theorem dX4_told_6 : decode cX4_told 6 = .ok (.bipush 7, 2) := by decide +kernel
theorem dX4_told_8 : decode cX4_told 8 = .ok (.if_icmp .le 7, 3) := by decide +kernel
theorem dX4_told_11 : decode cX4_told 11 = .ok (.iconst 1, 1) := by decide +kernel
theorem dX4_told_12 : decode cX4_told 12 = .ok (.goto 4, 3) := by decide +kernel
theorem dX4_told_15 : decode cX4_told 15 = .ok (.iconst 0, 1) := by decide +kernel
theorem dX4_told_16 : decode cX4_told 16 = .ok (.putfield 54, 3) := by decide +kernel
theorem dX4_told_19 : decode cX4_told 19 = .ok (.aload_n 0, 1) := by decide +kernel
theorem dX4_told_20 : decode cX4_told 20 = .ok (.getfield 54, 3) := by decide +kernel
theorem dX4_told_23 : decode cX4_told 23 = .ok (.ifCond .le 5, 3) := by decide +kernel
theorem dX4_told_26 : decode cX4_told 26 = .ok (.iconst 0, 1) := by decide +kernel
theorem dX4_told_27 : decode cX4_told 27 = .ok (.ireturn, 1) := by decide +kernel
theorem dX4_told_28 : decode cX4_told 28 = .ok (.iload_n 1, 1) := by decide +kernel
theorem dX4_told_29 : decode cX4_told 29 = .ok (.ifCond .ne 10, 3) := by decide +kernel
theorem dX4_told_32 : decode cX4_told 32 = .ok (.aload_n 0, 1) := by decide +kernel
theorem dX4_told_33 : decode cX4_told 33 = .ok (.getfield 120, 3) := by decide +kernel
theorem dX4_told_36 : decode cX4_told 36 = .ok (.goto 48, 3) := by decide +kernel
theorem dX4_told_39 : decode cX4_told 39 = .ok (.iload_n 1, 1) := by decide +kernel
theorem dX4_told_40 : decode cX4_told 40 = .ok (.iconst 1, 1) := by decide +kernel
theorem dX4_told_41 : decode cX4_told 41 = .ok (.if_icmp .ne 10, 3) := by decide +kernel
theorem dX4_told_44 : decode cX4_told 44 = .ok (.aload_n 0, 1) := by decide +kernel
theorem dX4_told_45 : decode cX4_told 45 = .ok (.invokevirtual 126, 3) := by decide +kernel
theorem dX4_told_48 : decode cX4_told 48 = .ok (.goto 36, 3) := by decide +kernel
theorem dX4_told_51 : decode cX4_told 51 = .ok (.iload_n 1, 1) := by decide +kernel
theorem dX4_told_52 : decode cX4_told 52 = .ok (.iconst 2, 1) := by decide +kernel
theorem dX4_told_53 : decode cX4_told 53 = .ok (.if_icmp .ne 10, 3) := by decide +kernel
theorem dX4_told_56 : decode cX4_told 56 = .ok (.aload_n 0, 1) := by decide +kernel
theorem dX4_told_57 : decode cX4_told 57 = .ok (.getfield 123, 3) := by decide +kernel
theorem dX4_told_60 : decode cX4_told 60 = .ok (.goto 24, 3) := by decide +kernel
theorem dX4_told_63 : decode cX4_told 63 = .ok (.iload_n 1, 1) := by decide +kernel
theorem dX4_told_64 : decode cX4_told 64 = .ok (.bipush 7, 2) := by decide +kernel
theorem dX4_told_66 : decode cX4_told 66 = .ok (.if_icmp .ne 10, 3) := by decide +kernel
theorem dX4_told_69 : decode cX4_told 69 = .ok (.aload_n 0, 1) := by decide +kernel
theorem dX4_told_70 : decode cX4_told 70 = .ok (.getfield 130, 3) := by decide +kernel
theorem dX4_told_73 : decode cX4_told 73 = .ok (.goto 11, 3) := by decide +kernel
theorem dX4_told_76 : decode cX4_told 76 = .ok (.aload_n 0, 1) := by decide +kernel
theorem dX4_told_77 : decode cX4_told 77 = .ok (.getfield 51, 3) := by decide +kernel
theorem dX4_told_80 : decode cX4_told 80 = .ok (.iload_n 1, 1) := by decide +kernel
theorem dX4_told_81 : decode cX4_told 81 = .ok (.iconst 3, 1) := by decide +kernel
theorem dX4_told_82 : decode cX4_told 82 = .ok (.isub, 1) := by decide +kernel
theorem dX4_told_83 : decode cX4_told 83 = .ok (.iaload, 1) := by decide +kernel
theorem dX4_told_84 : decode cX4_told 84 = .ok (.ireturn, 1) := by decide +kernel
set_option maxRecDepth 20000 in
theorem ggL_rooms_X3_rooms : GoodIn wsL_rooms wsX3_rooms := goodIn_ca (goodIn_r _ [6, 7, 8, 9, 10, 5, 11, 12, 13, 14, 15, 16, 17, 18, 19, 20, 21, 22, 23, 24] (by decide +kernel) (by decide +kernel)) (goodIn_sub (fun _ h => List.mem_cons_of_mem _ (List.mem_append_right _ h)) (by decide +kernel))
set_option maxRecDepth 20000 in
theorem gL_rooms_X3_rooms : GoodIn wsL_rooms (wsV RL 7 RX3 yX3_rooms wsX3_rooms) := goodIn_app (goodIn_of _ (by decide +kernel)) ggL_rooms_X3_rooms
end
section
theorem dL_rooms_0 : decode cL_rooms 0 = .ok (.aload_n 0, 1) := by decide +kernel
theorem dL_rooms_1 : decode cL_rooms 1 = .ok (.iload_n 1, 1) := by decide +kernel
theorem dL_rooms_2 : decode cL_rooms 2 = .ok (.iload_n 2, 1) := by decide +kernel
theorem dL_rooms_3 : decode cL_rooms 3 = .ok (.invokevirtual 7, 3) := by decide +kernel
theorem dL_rooms_6 : decode cL_rooms 6 = .ok (.goto 6, 3) := by decide +kernel
theorem dL_rooms_9 : decode cL_rooms 9 = .ok (.astore_n 3, 1) := by decide +kernel
theorem dL_rooms_10 : decode cL_rooms 10 = .ok (.iconst 1, 1) := by decide +kernel
theorem dL_rooms_11 : decode cL_rooms 11 = .ok (.ireturn, 1) := by decide +kernel
theorem dL_rooms_12 : decode cL_rooms 12 = .ok (.iconst 0, 1) := by decide +kernel
theorem dL_rooms_13 : decode cL_rooms 13 = .ok (.ireturn, 1) := by decide +kernel
set_option maxRecDepth 20000 in
theorem ggL_pass_X3_pass : GoodIn wsL_pass wsX3_pass := goodIn_ca (goodIn_r _ [6, 7, 8, 9, 10, 5, 11, 12, 13, 14, 15, 16, 17, 18, 19, 20, 21, 22, 23, 24, 25, 26, 27, 28, 29, 30, 31, 32, 33, 34, 35, 36, 37, 38, 39, 40, 41, 42, 43, 44, 45] (by decide +kernel) (by decide +kernel)) (goodIn_sub (fun _ h => List.mem_cons_of_mem _ (List.mem_append_right _ h)) (by decide +kernel))
set_option maxRecDepth 20000 in
theorem gL_pass_X3_pass : GoodIn wsL_pass (wsV RL 15 RX3 yX3_pass wsX3_pass) := goodIn_app (goodIn_of _ (by decide +kernel)) ggL_pass_X3_pass
theorem dL_pass_0 : decode cL_pass 0 = .ok (.aload_n 2, 1) := by decide +kernel
theorem dL_pass_1 : decode cL_pass 1 = .ok (.iconst 0, 1) := by decide +kernel
theorem dL_pass_2 : decode cL_pass 2 = .ok (.aload_n 0, 1) := by decide +kernel
theorem dL_pass_3 : decode cL_pass 3 = .ok (.iload_n 1, 1) := by decide +kernel
theorem dL_pass_4 : decode cL_pass 4 = .ok (.invokevirtual 15, 3) := by decide +kernel
theorem dL_pass_7 : decode cL_pass 7 = .ok (.i2l, 1) := by decide +kernel
theorem dL_pass_8 : decode cL_pass 8 = .ok (.lastore, 1) := by decide +kernel
theorem dL_pass_9 : decode cL_pass 9 = .ok (.goto 6, 3) := by decide +kernel
theorem dL_pass_12 : decode cL_pass 12 = .ok (.astore_n 3, 1) := by decide +kernel
theorem dL_pass_13 : decode cL_pass 13 = .ok (.iconst 1, 1) := by decide +kernel
theorem dL_pass_14 : decode cL_pass 14 = .ok (.ireturn, 1) := by decide +kernel
theorem dL_pass_15 : decode cL_pass 15 = .ok (.iconst 0, 1) := by decide +kernel
theorem dL_pass_16 : decode cL_pass 16 = .ok (.ireturn, 1) := by decide +kernel
set_option maxRecDepth 20000 in
theorem ggL_syn_X3_syn : GoodIn wsL_syn wsX3_syn := goodIn_ca (goodIn_r _ [6, 7, 8, 9, 10, 11, 12, 5, 13, 14, 15, 16, 17, 18, 19, 20, 21, 22, 23, 24, 25, 26, 27, 28, 29, 30, 31, 32, 33, 34, 35, 36, 37, 38, 39, 40, 41, 42, 43, 44, 45, 46, 47, 48, 49, 50, 51, 52, 53, 54, 55, 56, 57, 58, 59, 60, 61, 62, 63, 64, 65, 66, 67, 68, 69, 70, 71, 72, 73, 74, 75, 76, 77, 78, 79, 80, 81, 82, 83, 84, 85, 86, 87, 88, 89, 90, 91, 92, 93, 94, 95, 96, 97, 98, 99, 100, 101, 102, 103, 104, 105, 106, 107, 108, 109, 110, 111, 112, 113, 114, 115, 116, 117, 118, 119, 120, 121, 122, 123, 124, 125, 126, 127, 128, 129, 130] (by decide +kernel) (by decide +kernel)) (goodIn_sub (fun _ h => List.mem_cons_of_mem _ (List.mem_append_right _ h)) (by decide +kernel))
set_option maxRecDepth 20000 in
theorem gL_syn_X3_syn : GoodIn wsL_syn (wsV RL 19 RX3 yX3_syn wsX3_syn) := goodIn_app (goodIn_of _ (by decide +kernel)) ggL_syn_X3_syn
theorem dL_syn_0 : decode cL_syn 0 = .ok (.aload 5, 2) := by decide +kernel
theorem dL_syn_2 : decode cL_syn 2 = .ok (.iconst 0, 1) := by decide +kernel
theorem dL_syn_3 : decode cL_syn 3 = .ok (.aload_n 0, 1) := by decide +kernel
theorem dL_syn_4 : decode cL_syn 4 = .ok (.iload_n 1, 1) := by decide +kernel
theorem dL_syn_5 : decode cL_syn 5 = .ok (.iload_n 2, 1) := by decide +kernel
theorem dL_syn_6 : decode cL_syn 6 = .ok (.iload_n 3, 1) := by decide +kernel
theorem dL_syn_7 : decode cL_syn 7 = .ok (.iload 4, 2) := by decide +kernel
theorem dL_syn_9 : decode cL_syn 9 = .ok (.invokevirtual 19, 3) := by decide +kernel
theorem dL_syn_12 : decode cL_syn 12 = .ok (.lastore, 1) := by decide +kernel
theorem dL_syn_13 : decode cL_syn 13 = .ok (.goto 7, 3) := by decide +kernel
theorem dL_syn_16 : decode cL_syn 16 = .ok (.astore 6, 2) := by decide +kernel
theorem dL_syn_18 : decode cL_syn 18 = .ok (.iconst 1, 1) := by decide +kernel
theorem dL_syn_19 : decode cL_syn 19 = .ok (.ireturn, 1) := by decide +kernel
theorem dL_syn_20 : decode cL_syn 20 = .ok (.iconst 0, 1) := by decide +kernel
theorem dL_syn_21 : decode cL_syn 21 = .ok (.ireturn, 1) := by decide +kernel
set_option maxRecDepth 20000 in
theorem ggL_ack_X3_ack : GoodIn wsL_ack wsX3_ack := goodIn_ca (goodIn_r _ [6, 7, 8, 9, 10, 11, 12, 5, 13, 14, 15, 16, 17, 18, 19, 20, 21, 22, 23, 24, 25, 26, 27, 28, 29, 30, 31, 32, 33, 34, 35, 36, 37, 38, 39, 40, 41, 42, 43, 44, 45, 46, 47, 48, 49, 50, 51, 52, 53, 54, 55, 56, 57, 58, 59, 60, 61, 62, 63, 64, 65, 66, 67, 68, 69, 70, 71, 72, 73, 74, 75, 76, 77, 78, 79, 80, 81, 82, 83, 84, 85, 86, 87, 88, 89, 90, 91, 92, 93, 94, 95, 96, 97, 98, 99, 100, 101, 102, 103, 104, 105, 106, 107, 108, 109, 110, 111, 112, 113, 114, 115, 116, 117, 118, 119, 120, 121, 122, 123, 124, 125, 126, 127, 128, 129, 130, 131, 132, 133, 134, 135, 136, 137, 138, 139, 140, 141, 142, 143, 144, 145, 146, 147, 148, 149] (by decide +kernel) (by decide +kernel)) (goodIn_sub (fun _ h => List.mem_cons_of_mem _ (List.mem_append_right _ h)) (by decide +kernel))
set_option maxRecDepth 20000 in
theorem gL_ack_X3_ack : GoodIn wsL_ack (wsV RL 23 RX3 yX3_ack wsX3_ack) := goodIn_app (goodIn_of _ (by decide +kernel)) ggL_ack_X3_ack
theorem dL_ack_0 : decode cL_ack 0 = .ok (.aload 5, 2) := by decide +kernel
theorem dL_ack_2 : decode cL_ack 2 = .ok (.iconst 0, 1) := by decide +kernel
theorem dL_ack_3 : decode cL_ack 3 = .ok (.aload_n 0, 1) := by decide +kernel
theorem dL_ack_4 : decode cL_ack 4 = .ok (.iload_n 1, 1) := by decide +kernel
theorem dL_ack_5 : decode cL_ack 5 = .ok (.iload_n 2, 1) := by decide +kernel
theorem dL_ack_6 : decode cL_ack 6 = .ok (.iload_n 3, 1) := by decide +kernel
theorem dL_ack_7 : decode cL_ack 7 = .ok (.iload 4, 2) := by decide +kernel
theorem dL_ack_9 : decode cL_ack 9 = .ok (.invokevirtual 23, 3) := by decide +kernel
theorem dL_ack_12 : decode cL_ack 12 = .ok (.i2l, 1) := by decide +kernel
theorem dL_ack_13 : decode cL_ack 13 = .ok (.lastore, 1) := by decide +kernel
theorem dL_ack_14 : decode cL_ack 14 = .ok (.goto 7, 3) := by decide +kernel
theorem dL_ack_17 : decode cL_ack 17 = .ok (.astore 6, 2) := by decide +kernel
theorem dL_ack_19 : decode cL_ack 19 = .ok (.iconst 1, 1) := by decide +kernel
theorem dL_ack_20 : decode cL_ack 20 = .ok (.ireturn, 1) := by decide +kernel
theorem dL_ack_21 : decode cL_ack 21 = .ok (.iconst 0, 1) := by decide +kernel
theorem dL_ack_22 : decode cL_ack 22 = .ok (.ireturn, 1) := by decide +kernel
set_option maxRecDepth 20000 in
theorem ggL_close_X3_close : GoodIn wsL_close wsX3_close := goodIn_ca (goodIn_r _ [6, 7, 8, 9, 10, 11, 5, 12, 13, 14, 15, 16, 17, 18, 19, 20, 21, 22, 23, 24, 25, 26, 27, 28, 29, 30, 31, 32, 33, 34, 35, 36, 37, 38, 39, 40, 41, 42, 43, 44, 45, 46, 47, 48, 49, 50, 51, 52, 53, 54, 55, 56, 57, 58, 59, 60, 61, 62, 63, 64, 65, 66, 67, 68, 69, 70, 71, 72, 73, 74, 75] (by decide +kernel) (by decide +kernel)) (goodIn_sub (fun _ h => List.mem_cons_of_mem _ (List.mem_append_right _ h)) (by decide +kernel))
set_option maxRecDepth 20000 in
theorem gL_close_X3_close : GoodIn wsL_close (wsV RL 27 RX3 yX3_close wsX3_close) := goodIn_app (goodIn_of _ (by decide +kernel)) ggL_close_X3_close
theorem dL_close_0 : decode cL_close 0 = .ok (.aload_n 3, 1) := by decide +kernel
theorem dL_close_1 : decode cL_close 1 = .ok (.iconst 0, 1) := by decide +kernel
theorem dL_close_2 : decode cL_close 2 = .ok (.aload_n 0, 1) := by decide +kernel
theorem dL_close_3 : decode cL_close 3 = .ok (.iload_n 1, 1) := by decide +kernel
theorem dL_close_4 : decode cL_close 4 = .ok (.iload_n 2, 1) := by decide +kernel
theorem dL_close_5 : decode cL_close 5 = .ok (.invokevirtual 27, 3) := by decide +kernel
theorem dL_close_8 : decode cL_close 8 = .ok (.i2l, 1) := by decide +kernel
theorem dL_close_9 : decode cL_close 9 = .ok (.lastore, 1) := by decide +kernel
theorem dL_close_10 : decode cL_close 10 = .ok (.goto 7, 3) := by decide +kernel
theorem dL_close_13 : decode cL_close 13 = .ok (.astore 4, 2) := by decide +kernel
theorem dL_close_15 : decode cL_close 15 = .ok (.iconst 1, 1) := by decide +kernel
theorem dL_close_16 : decode cL_close 16 = .ok (.ireturn, 1) := by decide +kernel
theorem dL_close_17 : decode cL_close 17 = .ok (.iconst 0, 1) := by decide +kernel
theorem dL_close_18 : decode cL_close 18 = .ok (.ireturn, 1) := by decide +kernel
set_option maxRecDepth 20000 in
theorem ggL_state_X3_state : GoodIn wsL_state wsX3_state := goodIn_ca (goodIn_r _ [6, 7, 8, 9, 5, 10, 11, 12, 13, 14, 15, 16, 17, 18, 19, 20, 21, 22, 23, 24, 25, 26, 27, 28, 29, 30, 31, 32, 33, 34, 35, 36, 37, 38, 39, 40, 41, 42, 43, 44, 45, 46, 47, 48, 49, 50, 51, 52, 53, 54, 55, 56, 57, 58, 59, 60, 61] (by decide +kernel) (by decide +kernel)) (goodIn_sub (fun _ h => List.mem_cons_of_mem _ (List.mem_append_right _ h)) (by decide +kernel))
set_option maxRecDepth 20000 in
theorem gL_state_X3_state : GoodIn wsL_state (wsV RL 31 RX3 yX3_state wsX3_state) := goodIn_app (goodIn_of _ (by decide +kernel)) ggL_state_X3_state
theorem dL_state_0 : decode cL_state 0 = .ok (.aload_n 3, 1) := by decide +kernel
theorem dL_state_1 : decode cL_state 1 = .ok (.iconst 0, 1) := by decide +kernel
theorem dL_state_2 : decode cL_state 2 = .ok (.aload_n 0, 1) := by decide +kernel
theorem dL_state_3 : decode cL_state 3 = .ok (.iload_n 1, 1) := by decide +kernel
theorem dL_state_4 : decode cL_state 4 = .ok (.iload_n 2, 1) := by decide +kernel
theorem dL_state_5 : decode cL_state 5 = .ok (.invokevirtual 31, 3) := by decide +kernel
theorem dL_state_8 : decode cL_state 8 = .ok (.i2l, 1) := by decide +kernel
theorem dL_state_9 : decode cL_state 9 = .ok (.lastore, 1) := by decide +kernel
theorem dL_state_10 : decode cL_state 10 = .ok (.goto 7, 3) := by decide +kernel
theorem dL_state_13 : decode cL_state 13 = .ok (.astore 4, 2) := by decide +kernel
theorem dL_state_15 : decode cL_state 15 = .ok (.iconst 1, 1) := by decide +kernel
theorem dL_state_16 : decode cL_state 16 = .ok (.ireturn, 1) := by decide +kernel
theorem dL_state_17 : decode cL_state 17 = .ok (.iconst 0, 1) := by decide +kernel
theorem dL_state_18 : decode cL_state 18 = .ok (.ireturn, 1) := by decide +kernel
set_option maxRecDepth 20000 in
theorem ggL_cookie_X3_cookie : GoodIn wsL_cookie wsX3_cookie := goodIn_ca (goodIn_r _ [6, 7, 8, 9, 10, 5, 11, 12, 13, 14, 15, 16, 17, 18, 19, 20, 21, 22, 23, 24, 25, 26, 27, 28, 29, 30, 31, 32, 33, 34, 35, 36, 37, 38, 39, 40, 41, 42, 43, 44, 45, 46, 47, 48, 49, 50, 51, 52, 53, 54, 55, 56, 57, 58, 59, 60, 61, 62, 63, 64, 65, 66, 67, 68, 69, 70, 71, 72, 73, 74, 75] (by decide +kernel) (by decide +kernel)) (goodIn_sub (fun _ h => List.mem_cons_of_mem _ (List.mem_append_right _ h)) (by decide +kernel))
set_option maxRecDepth 20000 in
theorem gL_cookie_X3_cookie : GoodIn wsL_cookie (wsV RL 34 RX3 yX3_cookie wsX3_cookie) := goodIn_app (goodIn_of _ (by decide +kernel)) ggL_cookie_X3_cookie
theorem dL_cookie_0 : decode cL_cookie 0 = .ok (.aload 6, 2) := by decide +kernel
theorem dL_cookie_2 : decode cL_cookie 2 = .ok (.iconst 0, 1) := by decide +kernel
theorem dL_cookie_3 : decode cL_cookie 3 = .ok (.aload_n 0, 1) := by decide +kernel
theorem dL_cookie_4 : decode cL_cookie 4 = .ok (.iload_n 1, 1) := by decide +kernel
theorem dL_cookie_5 : decode cL_cookie 5 = .ok (.iload_n 2, 1) := by decide +kernel
theorem dL_cookie_6 : decode cL_cookie 6 = .ok (.iload_n 3, 1) := by decide +kernel
theorem dL_cookie_7 : decode cL_cookie 7 = .ok (.iload 4, 2) := by decide +kernel
theorem dL_cookie_9 : decode cL_cookie 9 = .ok (.iload 5, 2) := by decide +kernel
theorem dL_cookie_11 : decode cL_cookie 11 = .ok (.invokevirtual 34, 3) := by decide +kernel
theorem dL_cookie_14 : decode cL_cookie 14 = .ok (.lastore, 1) := by decide +kernel
theorem dL_cookie_15 : decode cL_cookie 15 = .ok (.goto 7, 3) := by decide +kernel
theorem dL_cookie_18 : decode cL_cookie 18 = .ok (.astore 7, 2) := by decide +kernel
theorem dL_cookie_20 : decode cL_cookie 20 = .ok (.iconst 1, 1) := by decide +kernel
theorem dL_cookie_21 : decode cL_cookie 21 = .ok (.ireturn, 1) := by decide +kernel
theorem dL_cookie_22 : decode cL_cookie 22 = .ok (.iconst 0, 1) := by decide +kernel
theorem dL_cookie_23 : decode cL_cookie 23 = .ok (.ireturn, 1) := by decide +kernel
set_option maxRecDepth 20000 in
theorem ggL_told_X3_told : GoodIn wsL_told wsX3_told := goodIn_ca (goodIn_r _ [6, 7, 8, 9, 10, 11, 12, 13, 14, 15, 16, 17, 18, 19, 20, 21, 22, 23, 24, 25, 26, 27, 28, 29, 30, 31, 32, 33, 34, 35, 36, 37, 38, 39, 40, 41, 42, 43] (by decide +kernel) (by decide +kernel)) (goodIn_sub (fun _ h => List.mem_cons_of_mem _ (List.mem_append_right _ h)) (by decide +kernel))
set_option maxRecDepth 20000 in
theorem gL_told_X3_told : GoodIn wsL_told (wsV RL 38 RX3 yX3_told wsX3_told) := goodIn_app (goodIn_of _ (by decide +kernel)) ggL_told_X3_told
theorem dL_told_0 : decode cL_told 0 = .ok (.aload_n 2, 1) := by decide +kernel
theorem dL_told_1 : decode cL_told 1 = .ok (.iconst 0, 1) := by decide +kernel
theorem dL_told_2 : decode cL_told 2 = .ok (.aload_n 0, 1) := by decide +kernel
theorem dL_told_3 : decode cL_told 3 = .ok (.iload_n 1, 1) := by decide +kernel
theorem dL_told_4 : decode cL_told 4 = .ok (.invokevirtual 38, 3) := by decide +kernel
theorem dL_told_7 : decode cL_told 7 = .ok (.i2l, 1) := by decide +kernel
theorem dL_told_8 : decode cL_told 8 = .ok (.lastore, 1) := by decide +kernel
theorem dL_told_9 : decode cL_told 9 = .ok (.goto 6, 3) := by decide +kernel
theorem dL_told_12 : decode cL_told 12 = .ok (.astore_n 3, 1) := by decide +kernel
theorem dL_told_13 : decode cL_told 13 = .ok (.iconst 1, 1) := by decide +kernel
theorem dL_told_14 : decode cL_told 14 = .ok (.ireturn, 1) := by decide +kernel
theorem dL_told_15 : decode cL_told 15 = .ok (.iconst 0, 1) := by decide +kernel
theorem dL_told_16 : decode cL_told 16 = .ok (.ireturn, 1) := by decide +kernel
set_option maxRecDepth 20000 in
theorem ggL_law_X3_init : GoodIn wsL_law wsX3_init := goodIn_r _ [10, 11, 12, 13, 14, 15, 16, 17, 18, 19, 20, 21, 22, 23, 24, 25, 26, 27, 28, 29, 30, 31, 32, 33, 34, 35, 36, 37, 38, 39, 40, 41, 42, 43, 44, 45, 6, 46, 47, 48, 49, 50, 51, 52, 53, 54, 55, 56, 57, 58, 59, 442, 443, 444, 445, 446, 447, 407, 408, 409, 410, 411, 412, 413, 414, 415, 416, 417, 448, 449, 450, 451, 452, 453, 454, 455, 456, 457] (by decide +kernel) (by decide +kernel)
set_option maxRecDepth 20000 in
theorem gL_law_X3_init : GoodIn wsL_law (wsX3_init) := ggL_law_X3_init
set_option maxRecDepth 20000 in
theorem ggL_law_X4_init : GoodIn wsL_law wsX4_init := goodIn_r _ [62, 63, 12, 13, 64, 65, 66, 47, 67, 68, 69, 70, 71, 72, 73, 74, 75, 76, 77, 78, 418, 419, 420, 421, 422, 423, 424, 425, 426, 427, 428, 429, 430, 431, 432, 433, 434, 435, 436, 437, 438, 439, 440, 441] (by decide +kernel) (by decide +kernel)
set_option maxRecDepth 20000 in
theorem gL_law_X4_init : GoodIn wsL_law (wsX4_init) := ggL_law_X4_init
set_option maxRecDepth 20000 in
theorem ggL_law_L_rooms : GoodIn wsL_law wsL_rooms := goodIn_ca (goodIn_r _ [82, 83, 84, 85, 86, 2, 87, 26, 27, 88, 89, 90, 91, 92, 407, 408, 409, 410, 411, 412, 413, 414, 415, 416, 417] (by decide +kernel) (by decide +kernel)) (goodIn_sub (fun _ h => List.mem_append_right _ h) (by decide +kernel))
set_option maxRecDepth 20000 in
theorem gL_law_L_rooms : GoodIn wsL_law (va_wsS RL 45 yL_rooms wsL_rooms) := goodIn_app (goodIn_of _ (by decide +kernel)) ggL_law_L_rooms
set_option maxRecDepth 20000 in
theorem ggL_law_X4_rooms : GoodIn wsL_law wsX4_rooms := goodIn_r _ [96, 97, 64, 65, 418, 419, 420, 421, 422, 423, 424, 425, 426, 427, 428, 429, 430, 431, 432, 433, 434, 435, 436, 437, 438, 439, 440, 441] (by decide +kernel) (by decide +kernel)
set_option maxRecDepth 20000 in
theorem gL_law_X4_rooms : GoodIn wsL_law (wsV RL 50 RX4 yX4_rooms wsX4_rooms) := goodIn_app (goodIn_of _ (by decide +kernel)) ggL_law_X4_rooms
set_option maxRecDepth 20000 in
theorem ggL_law_X4_thrown : GoodIn wsL_law wsX4_thrown := goodIn_r _ [101, 97, 418, 419, 420, 421, 422, 423, 424, 425, 426, 427, 428, 429, 430, 431, 432, 433, 434, 435, 436, 437, 438, 439, 440, 441] (by decide +kernel) (by decide +kernel)
set_option maxRecDepth 20000 in
theorem gL_law_X4_thrown : GoodIn wsL_law (wsV RL 51 RX4 yX4_thrown wsX4_thrown) := goodIn_app (goodIn_of _ (by decide +kernel)) ggL_law_X4_thrown
set_option maxRecDepth 20000 in
theorem ggL_law_X3_key : GoodIn wsL_law wsX3_key := goodIn_r _ [105, 17, 106, 107, 108, 16, 109, 37, 38, 407, 408, 409, 410, 411, 412, 413, 414, 415, 416, 417, 442, 443, 444, 445, 446, 447] (by decide +kernel) (by decide +kernel)
set_option maxRecDepth 20000 in
theorem gL_law_X3_key : GoodIn wsL_law (wsV RL 57 RX3 yX3_key wsX3_key) := goodIn_app (goodIn_of _ (by decide +kernel)) ggL_law_X3_key
set_option maxRecDepth 20000 in
theorem ggL_law_X4_key : GoodIn wsL_law wsX4_key := goodIn_r _ [113, 97, 114, 115, 418, 419, 420, 421, 422, 423, 424, 425, 426, 427, 428, 429, 430, 431, 432, 433, 434, 435, 436, 437, 438, 439, 440, 441] (by decide +kernel) (by decide +kernel)
set_option maxRecDepth 20000 in
theorem gL_law_X4_key : GoodIn wsL_law (wsV RL 61 RX4 yX4_key wsX4_key) := goodIn_app (goodIn_of _ (by decide +kernel)) ggL_law_X4_key
set_option maxRecDepth 20000 in
theorem ggL_law_L_pass : GoodIn wsL_law wsL_pass := goodIn_ca (goodIn_r _ [118, 83, 119, 120, 121, 2, 122, 28, 21, 88, 89, 90, 91, 92, 123, 124, 125, 20, 126, 52, 51, 127, 128, 129, 130, 46, 48, 49, 50, 407, 408, 409, 410, 411, 412, 413, 414, 415, 416, 417, 448, 449, 450, 451, 452, 453] (by decide +kernel) (by decide +kernel)) (goodIn_sub (fun _ h => List.mem_append_right _ h) (by decide +kernel))
set_option maxRecDepth 20000 in
theorem gL_law_L_pass : GoodIn wsL_law (va_wsS RL 62 yL_pass wsL_pass) := goodIn_app (goodIn_of _ (by decide +kernel)) ggL_law_L_pass
set_option maxRecDepth 20000 in
theorem ggL_law_X4_pass : GoodIn wsL_law wsX4_pass := goodIn_r _ [134, 97, 135, 136, 72, 137, 138, 139, 5, 140, 67, 68, 69, 70, 71, 418, 419, 420, 421, 422, 423, 424, 425, 426, 427, 428, 429, 430, 431, 432, 433, 434, 435, 436, 437, 438, 439, 440, 441] (by decide +kernel) (by decide +kernel)
set_option maxRecDepth 20000 in
theorem gL_law_X4_pass : GoodIn wsL_law (wsV RL 65 RX4 yX4_pass wsX4_pass) := goodIn_app (goodIn_of _ (by decide +kernel)) ggL_law_X4_pass
set_option maxRecDepth 20000 in
theorem ggL_law_L_syn : GoodIn wsL_law wsL_syn := goodIn_ca (goodIn_r _ [143, 83, 144, 145, 146, 2, 147, 148, 25, 149, 21, 88, 89, 90, 91, 92, 150, 151, 152, 153, 154, 155, 24, 156, 58, 56, 157, 158, 159, 20, 160, 52, 46, 161, 162, 163, 164, 165, 128, 129, 130, 48, 49, 50, 51, 166, 167, 168, 169, 170, 171, 172, 173, 26, 30, 28, 29, 174, 175, 176, 177, 178, 179, 180, 181, 182, 183, 17, 184, 185, 186, 187, 188, 189, 190, 16, 191, 37, 192, 39, 38, 193, 40, 194, 41, 195, 42, 196, 197, 198, 199, 200, 201, 202, 203, 204, 205, 206, 207, 208, 209, 210, 211, 212, 407, 408, 409, 410, 411, 412, 413, 414, 415, 416, 417, 448, 449, 450, 451, 452, 453, 454, 455, 456, 457, 442, 443, 444, 445, 446, 447] (by decide +kernel) (by decide +kernel)) (goodIn_sub (fun _ h => List.mem_append_right _ h) (by decide +kernel))
set_option maxRecDepth 20000 in
theorem gL_law_L_syn : GoodIn wsL_law (va_wsS RL 66 yL_syn wsL_syn) := goodIn_app (goodIn_of _ (by decide +kernel)) ggL_law_L_syn
set_option maxRecDepth 20000 in
theorem ggL_law_X4_syn : GoodIn wsL_law wsX4_syn := goodIn_r _ [216, 97, 217, 69, 70, 218, 135, 136, 64, 66, 78, 219, 67, 68, 71, 72, 220, 221, 5, 222, 223, 224, 225, 226, 227, 228, 73, 74, 229, 230, 231, 232, 137, 138, 139, 140, 233, 234, 235, 236, 237, 238, 239, 240, 241, 242, 243, 244, 245, 246, 114, 247, 248, 115, 249, 250, 251, 252, 253, 254, 255, 256, 257, 258, 259, 260, 261, 262, 263, 264, 265, 266, 267, 418, 419, 420, 421, 422, 423, 424, 425, 426, 427, 428, 429, 430, 431, 432, 433, 434, 435, 436, 437, 438, 439, 440, 441] (by decide +kernel) (by decide +kernel)
set_option maxRecDepth 20000 in
theorem gL_law_X4_syn : GoodIn wsL_law (wsV RL 69 RX4 yX4_syn wsX4_syn) := goodIn_app (goodIn_of _ (by decide +kernel)) ggL_law_X4_syn
set_option maxRecDepth 20000 in
theorem ggL_law_L_ack : GoodIn wsL_law wsL_ack := goodIn_ca (goodIn_r _ [270, 83, 271, 272, 273, 2, 274, 148, 25, 21, 33, 88, 89, 90, 91, 92, 150, 151, 152, 153, 154, 155, 24, 156, 58, 56, 157, 158, 159, 20, 160, 52, 46, 275, 276, 277, 278, 27, 31, 279, 280, 281, 282, 283, 284, 285, 286, 59, 287, 288, 289, 290, 57, 165, 128, 129, 130, 48, 49, 50, 51, 291, 292, 293, 294, 32, 295, 296, 297, 298, 30, 28, 29, 299, 300, 301, 302, 175, 176, 177, 178, 179, 180, 181, 182, 183, 17, 184, 161, 162, 163, 164, 185, 186, 187, 188, 189, 190, 16, 191, 37, 192, 39, 38, 193, 40, 194, 41, 195, 42, 196, 197, 198, 199, 200, 201, 202, 203, 204, 205, 206, 207, 208, 407, 408, 409, 410, 411, 412, 413, 414, 415, 416, 417, 454, 455, 456, 457, 448, 449, 450, 451, 452, 453, 442, 443, 444, 445, 446, 447] (by decide +kernel) (by decide +kernel)) (goodIn_sub (fun _ h => List.mem_append_right _ h) (by decide +kernel))
set_option maxRecDepth 20000 in
theorem gL_law_L_ack : GoodIn wsL_law (va_wsS RL 70 yL_ack wsL_ack) := goodIn_app (goodIn_of _ (by decide +kernel)) ggL_law_L_ack
set_option maxRecDepth 20000 in
theorem ggL_law_X4_ack : GoodIn wsL_law wsX4_ack := goodIn_r _ [306, 97, 69, 70, 71, 78, 66, 135, 220, 221, 5, 222, 223, 224, 225, 226, 227, 228, 73, 74, 229, 230, 231, 232, 136, 67, 68, 307, 308, 309, 310, 65, 311, 312, 313, 314, 77, 315, 316, 317, 318, 75, 137, 138, 139, 140, 72, 236, 237, 238, 239, 218, 240, 241, 242, 243, 244, 245, 246, 114, 247, 248, 115, 249, 250, 251, 252, 253, 254, 255, 256, 257, 258, 259, 260, 261, 262, 263, 264, 265, 266, 267, 418, 419, 420, 421, 422, 423, 424, 425, 426, 427, 428, 429, 430, 431, 432, 433, 434, 435, 436, 437, 438, 439, 440, 441] (by decide +kernel) (by decide +kernel)
set_option maxRecDepth 20000 in
theorem gL_law_X4_ack : GoodIn wsL_law (wsV RL 72 RX4 yX4_ack wsX4_ack) := goodIn_app (goodIn_of _ (by decide +kernel)) ggL_law_X4_ack
set_option maxRecDepth 20000 in
theorem ggL_law_X3_take : GoodIn wsL_law wsX3_take := goodIn_r _ [322, 25, 323, 324, 325, 24, 326, 59, 58, 185, 186, 2, 187, 148, 407, 408, 409, 410, 411, 412, 413, 414, 415, 416, 417, 454, 455, 456, 457] (by decide +kernel) (by decide +kernel)
set_option maxRecDepth 20000 in
theorem gL_law_X3_take : GoodIn wsL_law (wsV RL 73 RX3 yX3_take wsX3_take) := goodIn_app (goodIn_of _ (by decide +kernel)) ggL_law_X3_take
set_option maxRecDepth 20000 in
theorem ggL_law_X4_take_ : GoodIn wsL_law wsX4_take_ := goodIn_r _ [330, 97, 228, 77, 74, 331, 75, 418, 419, 420, 421, 422, 423, 424, 425, 426, 427, 428, 429, 430, 431, 432, 433, 434, 435, 436, 437, 438, 439, 440, 441] (by decide +kernel) (by decide +kernel)
set_option maxRecDepth 20000 in
theorem gL_law_X4_take_ : GoodIn wsL_law (wsV RL 76 RX4 yX4_take_ wsX4_take_) := goodIn_app (goodIn_of _ (by decide +kernel)) ggL_law_X4_take_
set_option maxRecDepth 20000 in
theorem ggL_law_L_close : GoodIn wsL_law wsL_close := goodIn_ca (goodIn_r _ [334, 83, 335, 336, 337, 2, 338, 148, 21, 25, 88, 89, 90, 91, 92, 150, 151, 152, 339, 340, 341, 342, 153, 154, 155, 24, 156, 58, 56, 343, 344, 345, 346, 59, 157, 158, 159, 20, 160, 52, 46, 165, 128, 129, 130, 48, 49, 50, 51, 347, 348, 349, 350, 57, 351, 407, 408, 409, 410, 411, 412, 413, 414, 415, 416, 417, 454, 455, 456, 457, 448, 449, 450, 451, 452, 453] (by decide +kernel) (by decide +kernel)) (goodIn_sub (fun _ h => List.mem_append_right _ h) (by decide +kernel))
set_option maxRecDepth 20000 in
theorem gL_law_L_close : GoodIn wsL_law (va_wsS RL 77 yL_close wsL_close) := goodIn_app (goodIn_of _ (by decide +kernel)) ggL_law_L_close
set_option maxRecDepth 20000 in
theorem ggL_law_X4_close : GoodIn wsL_law wsX4_close := goodIn_r _ [355, 97, 220, 221, 5, 222, 223, 356, 357, 358, 359, 77, 224, 225, 226, 227, 228, 73, 74, 229, 230, 231, 232, 136, 67, 68, 137, 138, 139, 140, 69, 70, 71, 72, 360, 361, 362, 363, 75, 418, 419, 420, 421, 422, 423, 424, 425, 426, 427, 428, 429, 430, 431, 432, 433, 434, 435, 436, 437, 438, 439, 440, 441] (by decide +kernel) (by decide +kernel)
set_option maxRecDepth 20000 in
theorem gL_law_X4_close : GoodIn wsL_law (wsV RL 80 RX4 yX4_close wsX4_close) := goodIn_app (goodIn_of _ (by decide +kernel)) ggL_law_X4_close
set_option maxRecDepth 20000 in
theorem ggL_law_L_state : GoodIn wsL_law wsL_state := goodIn_ca (goodIn_r _ [366, 83, 367, 368, 369, 2, 370, 148, 88, 89, 90, 91, 92, 150, 151, 152, 339, 340, 341, 342, 25, 21, 153, 154, 155, 24, 156, 58, 56, 343, 344, 345, 346, 59, 157, 158, 159, 20, 160, 52, 46, 407, 408, 409, 410, 411, 412, 413, 414, 415, 416, 417, 454, 455, 456, 457, 448, 449, 450, 451, 452, 453] (by decide +kernel) (by decide +kernel)) (goodIn_sub (fun _ h => List.mem_append_right _ h) (by decide +kernel))
set_option maxRecDepth 20000 in
theorem gL_law_L_state : GoodIn wsL_law (va_wsS RL 81 yL_state wsL_state) := goodIn_app (goodIn_of _ (by decide +kernel)) ggL_law_L_state
set_option maxRecDepth 20000 in
theorem ggL_law_X4_state : GoodIn wsL_law wsX4_state := goodIn_r _ [374, 97, 220, 221, 5, 222, 223, 356, 357, 358, 359, 77, 224, 225, 226, 227, 228, 73, 74, 229, 230, 231, 232, 136, 67, 68, 418, 419, 420, 421, 422, 423, 424, 425, 426, 427, 428, 429, 430, 431, 432, 433, 434, 435, 436, 437, 438, 439, 440, 441] (by decide +kernel) (by decide +kernel)
set_option maxRecDepth 20000 in
theorem gL_law_X4_state : GoodIn wsL_law (wsV RL 83 RX4 yX4_state wsX4_state) := goodIn_app (goodIn_of _ (by decide +kernel)) ggL_law_X4_state
set_option maxRecDepth 20000 in
theorem ggL_law_L_cookie : GoodIn wsL_law wsL_cookie := goodIn_ca (goodIn_r _ [377, 83, 378, 379, 380, 2, 381, 148, 382, 88, 89, 90, 91, 92, 150, 151, 152, 179, 180, 181, 182, 183, 17, 184, 161, 162, 163, 164, 185, 186, 187, 188, 189, 190, 16, 191, 37, 192, 39, 38, 193, 40, 194, 41, 195, 42, 196, 197, 198, 199, 200, 201, 202, 203, 204, 205, 206, 207, 208, 407, 408, 409, 410, 411, 412, 413, 414, 415, 416, 417, 442, 443, 444, 445, 446, 447] (by decide +kernel) (by decide +kernel)) (goodIn_sub (fun _ h => List.mem_append_right _ h) (by decide +kernel))
set_option maxRecDepth 20000 in
theorem gL_law_L_cookie : GoodIn wsL_law (va_wsS RL 84 yL_cookie wsL_cookie) := goodIn_app (goodIn_of _ (by decide +kernel)) ggL_law_L_cookie
set_option maxRecDepth 20000 in
theorem ggL_law_X4_cookie : GoodIn wsL_law wsX4_cookie := goodIn_r _ [386, 97, 218, 220, 221, 5, 222, 223, 236, 237, 238, 239, 240, 241, 242, 243, 244, 245, 246, 114, 247, 248, 115, 249, 250, 251, 252, 253, 254, 255, 256, 257, 258, 259, 260, 261, 262, 263, 264, 265, 266, 267, 418, 419, 420, 421, 422, 423, 424, 425, 426, 427, 428, 429, 430, 431, 432, 433, 434, 435, 436, 437, 438, 439, 440, 441] (by decide +kernel) (by decide +kernel)
set_option maxRecDepth 20000 in
theorem gL_law_X4_cookie : GoodIn wsL_law (wsV RL 87 RX4 yX4_cookie wsX4_cookie) := goodIn_app (goodIn_of _ (by decide +kernel)) ggL_law_X4_cookie
set_option maxRecDepth 20000 in
theorem ggL_law_X3_hash : GoodIn wsL_law wsX3_hash := goodIn_r _ [390, 17, 188, 189, 190, 16, 191, 37, 192, 39, 38, 193, 40, 194, 41, 195, 42, 196, 197, 198, 199, 200, 201, 202, 203, 204, 205, 206, 207, 208, 407, 408, 409, 410, 411, 412, 413, 414, 415, 416, 417, 442, 443, 444, 445, 446, 447] (by decide +kernel) (by decide +kernel)
set_option maxRecDepth 20000 in
theorem gL_law_X3_hash : GoodIn wsL_law (wsV RL 88 RX3 yX3_hash wsX3_hash) := goodIn_app (goodIn_of _ (by decide +kernel)) ggL_law_X3_hash
set_option maxRecDepth 20000 in
theorem ggL_law_X4_hash : GoodIn wsL_law wsX4_hash := goodIn_r _ [394, 97, 243, 244, 245, 5, 246, 114, 247, 248, 115, 249, 250, 251, 252, 253, 254, 255, 256, 257, 258, 259, 260, 261, 262, 263, 264, 265, 266, 267, 418, 419, 420, 421, 422, 423, 424, 425, 426, 427, 428, 429, 430, 431, 432, 433, 434, 435, 436, 437, 438, 439, 440, 441] (by decide +kernel) (by decide +kernel)
set_option maxRecDepth 20000 in
theorem gL_law_X4_hash : GoodIn wsL_law (wsV RL 92 RX4 yX4_hash wsX4_hash) := goodIn_app (goodIn_of _ (by decide +kernel)) ggL_law_X4_hash
set_option maxRecDepth 20000 in
theorem ggL_law_L_told : GoodIn wsL_law wsL_told := goodIn_ca (goodIn_r _ [397, 83, 398, 399, 400, 2, 401, 91, 92, 21, 25, 30, 31, 32, 33, 28, 402, 284, 285, 24, 286, 58, 59, 407, 408, 409, 410, 411, 412, 413, 414, 415, 416, 417, 448, 449, 450, 451, 452, 453, 454, 455, 456, 457] (by decide +kernel) (by decide +kernel)) (goodIn_sub (fun _ h => List.mem_append_right _ h) (by decide +kernel))
set_option maxRecDepth 20000 in
theorem gL_law_L_told : GoodIn wsL_law (va_wsS RL 93 yL_told wsL_told) := goodIn_app (goodIn_of _ (by decide +kernel)) ggL_law_L_told
set_option maxRecDepth 20000 in
theorem ggL_law_X4_told : GoodIn wsL_law wsX4_told := goodIn_r _ [406, 97, 136, 228, 135, 78, 311, 312, 313, 5, 314, 77, 418, 419, 420, 421, 422, 423, 424, 425, 426, 427, 428, 429, 430, 431, 432, 433, 434, 435, 436, 437, 438, 439, 440, 441] (by decide +kernel) (by decide +kernel)
set_option maxRecDepth 20000 in
theorem gL_law_X4_told : GoodIn wsL_law (wsV RL 95 RX4 yX4_told wsX4_told) := goodIn_app (goodIn_of _ (by decide +kernel)) ggL_law_X4_told
end
section
theorem dL_law_0 : decode cL_law 0 = .ok (.new 8, 3) := by decide +kernel
theorem dL_law_3 : decode cL_law 3 = .ok (.dup, 1) := by decide +kernel
theorem dL_law_4 : decode cL_law 4 = .ok (.invokespecial 41, 3) := by decide +kernel
theorem dL_law_7 : decode cL_law 7 = .ok (.astore_n 1, 1) := by decide +kernel
theorem dL_law_8 : decode cL_law 8 = .ok (.new 42, 3) := by decide +kernel
theorem dL_law_11 : decode cL_law 11 = .ok (.dup, 1) := by decide +kernel
theorem dL_law_12 : decode cL_law 12 = .ok (.invokespecial 44, 3) := by decide +kernel
theorem dL_law_15 : decode cL_law 15 = .ok (.astore_n 2, 1) := by decide +kernel
theorem dL_law_16 : decode cL_law 16 = .ok (.iconst 1, 1) := by decide +kernel
theorem dL_law_17 : decode cL_law 17 = .ok (.newarray .long, 2) := by decide +kernel
theorem dL_law_19 : decode cL_law 19 = .ok (.astore_n 3, 1) := by decide +kernel
theorem dL_law_20 : decode cL_law 20 = .ok (.iconst 0, 1) := by decide +kernel
theorem dL_law_21 : decode cL_law 21 = .ok (.istore 4, 2) := by decide +kernel
theorem dL_law_23 : decode cL_law 23 = .ok (.iload 4, 2) := by decide +kernel
theorem dL_law_25 : decode cL_law 25 = .ok (.aload_n 0, 1) := by decide +kernel
theorem dL_law_26 : decode cL_law 26 = .ok (.arraylength, 1) := by decide +kernel
theorem dL_law_27 : decode cL_law 27 = .ok (.bipush 6, 2) := by decide +kernel
theorem dL_law_29 : decode cL_law 29 = .ok (.isub, 1) := by decide +kernel
theorem dL_law_30 : decode cL_law 30 = .ok (.if_icmp .gt 872, 3) := by decide +kernel
theorem dL_law_33 : decode cL_law 33 = .ok (.aload_n 0, 1) := by decide +kernel
theorem dL_law_34 : decode cL_law 34 = .ok (.iload 4, 2) := by decide +kernel
theorem dL_law_36 : decode cL_law 36 = .ok (.iaload, 1) := by decide +kernel
theorem dL_law_37 : decode cL_law 37 = .ok (.bipush 15, 2) := by decide +kernel
theorem dL_law_39 : decode cL_law 39 = .ok (.iand, 1) := by decide +kernel
theorem dL_law_40 : decode cL_law 40 = .ok (.tableswitch 856 0 10 #[60, 108, 207, 263, 354, 446, 459, 527, 595, 698, 800], 60) := by decide +kernel
theorem dL_law_100 : decode cL_law 100 = .ok (.aload_n 1, 1) := by decide +kernel
theorem dL_law_101 : decode cL_law 101 = .ok (.aload_n 0, 1) := by decide +kernel
theorem dL_law_102 : decode cL_law 102 = .ok (.iload 4, 2) := by decide +kernel
theorem dL_law_104 : decode cL_law 104 = .ok (.iconst 1, 1) := by decide +kernel
theorem dL_law_105 : decode cL_law 105 = .ok (.iadd, 1) := by decide +kernel
theorem dL_law_106 : decode cL_law 106 = .ok (.iaload, 1) := by decide +kernel
theorem dL_law_107 : decode cL_law 107 = .ok (.aload_n 0, 1) := by decide +kernel
theorem dL_law_108 : decode cL_law 108 = .ok (.iload 4, 2) := by decide +kernel
theorem dL_law_110 : decode cL_law 110 = .ok (.iconst 2, 1) := by decide +kernel
theorem dL_law_111 : decode cL_law 111 = .ok (.iadd, 1) := by decide +kernel
theorem dL_law_112 : decode cL_law 112 = .ok (.iaload, 1) := by decide +kernel
theorem dL_law_113 : decode cL_law 113 = .ok (.invokestatic 45, 3) := by decide +kernel
theorem dL_law_116 : decode cL_law 116 = .ok (.istore 5, 2) := by decide +kernel
theorem dL_law_118 : decode cL_law 118 = .ok (.aload_n 2, 1) := by decide +kernel
theorem dL_law_119 : decode cL_law 119 = .ok (.aload_n 0, 1) := by decide +kernel
theorem dL_law_120 : decode cL_law 120 = .ok (.iload 4, 2) := by decide +kernel
theorem dL_law_122 : decode cL_law 122 = .ok (.iconst 1, 1) := by decide +kernel
theorem dL_law_123 : decode cL_law 123 = .ok (.iadd, 1) := by decide +kernel
theorem dL_law_124 : decode cL_law 124 = .ok (.iaload, 1) := by decide +kernel
theorem dL_law_125 : decode cL_law 125 = .ok (.aload_n 0, 1) := by decide +kernel
theorem dL_law_126 : decode cL_law 126 = .ok (.iload 4, 2) := by decide +kernel
theorem dL_law_128 : decode cL_law 128 = .ok (.iconst 2, 1) := by decide +kernel
theorem dL_law_129 : decode cL_law 129 = .ok (.iadd, 1) := by decide +kernel
theorem dL_law_130 : decode cL_law 130 = .ok (.iaload, 1) := by decide +kernel
theorem dL_law_131 : decode cL_law 131 = .ok (.invokevirtual 50, 3) := by decide +kernel
theorem dL_law_134 : decode cL_law 134 = .ok (.aload_n 2, 1) := by decide +kernel
theorem dL_law_135 : decode cL_law 135 = .ok (.invokevirtual 51, 3) := by decide +kernel
theorem dL_law_138 : decode cL_law 138 = .ok (.iload 5, 2) := by decide +kernel
theorem dL_law_140 : decode cL_law 140 = .ok (.if_icmp .eq 5, 3) := by decide +kernel
theorem dL_law_143 : decode cL_law 143 = .ok (.iconst 0, 1) := by decide +kernel
theorem dL_law_144 : decode cL_law 144 = .ok (.ireturn, 1) := by decide +kernel
theorem dL_law_145 : decode cL_law 145 = .ok (.goto 751, 3) := by decide +kernel
theorem dL_law_148 : decode cL_law 148 = .ok (.aload_n 1, 1) := by decide +kernel
theorem dL_law_149 : decode cL_law 149 = .ok (.aload_n 0, 1) := by decide +kernel
theorem dL_law_150 : decode cL_law 150 = .ok (.iload 4, 2) := by decide +kernel
theorem dL_law_152 : decode cL_law 152 = .ok (.iconst 1, 1) := by decide +kernel
theorem dL_law_153 : decode cL_law 153 = .ok (.iadd, 1) := by decide +kernel
theorem dL_law_154 : decode cL_law 154 = .ok (.iaload, 1) := by decide +kernel
theorem dL_law_155 : decode cL_law 155 = .ok (.i2l, 1) := by decide +kernel
theorem dL_law_156 : decode cL_law 156 = .ok (.bipush 32, 2) := by decide +kernel
theorem dL_law_158 : decode cL_law 158 = .ok (.lshl, 1) := by decide +kernel
theorem dL_law_159 : decode cL_law 159 = .ok (.aload_n 0, 1) := by decide +kernel
theorem dL_law_160 : decode cL_law 160 = .ok (.iload 4, 2) := by decide +kernel
theorem dL_law_162 : decode cL_law 162 = .ok (.iconst 2, 1) := by decide +kernel
theorem dL_law_163 : decode cL_law 163 = .ok (.iadd, 1) := by decide +kernel
theorem dL_law_164 : decode cL_law 164 = .ok (.iaload, 1) := by decide +kernel
theorem dL_law_165 : decode cL_law 165 = .ok (.i2l, 1) := by decide +kernel
theorem dL_law_166 : decode cL_law 166 = .ok (.ldc2_w 55, 3) := by decide +kernel
theorem dL_law_169 : decode cL_law 169 = .ok (.land, 1) := by decide +kernel
theorem dL_law_170 : decode cL_law 170 = .ok (.lor, 1) := by decide +kernel
theorem dL_law_171 : decode cL_law 171 = .ok (.aload_n 0, 1) := by decide +kernel
theorem dL_law_172 : decode cL_law 172 = .ok (.iload 4, 2) := by decide +kernel
theorem dL_law_174 : decode cL_law 174 = .ok (.iconst 3, 1) := by decide +kernel
theorem dL_law_175 : decode cL_law 175 = .ok (.iadd, 1) := by decide +kernel
theorem dL_law_176 : decode cL_law 176 = .ok (.iaload, 1) := by decide +kernel
theorem dL_law_177 : decode cL_law 177 = .ok (.i2l, 1) := by decide +kernel
theorem dL_law_178 : decode cL_law 178 = .ok (.bipush 32, 2) := by decide +kernel
theorem dL_law_180 : decode cL_law 180 = .ok (.lshl, 1) := by decide +kernel
theorem dL_law_181 : decode cL_law 181 = .ok (.aload_n 0, 1) := by decide +kernel
theorem dL_law_182 : decode cL_law 182 = .ok (.iload 4, 2) := by decide +kernel
theorem dL_law_184 : decode cL_law 184 = .ok (.iconst 4, 1) := by decide +kernel
theorem dL_law_185 : decode cL_law 185 = .ok (.iadd, 1) := by decide +kernel
theorem dL_law_186 : decode cL_law 186 = .ok (.iaload, 1) := by decide +kernel
theorem dL_law_187 : decode cL_law 187 = .ok (.i2l, 1) := by decide +kernel
theorem dL_law_188 : decode cL_law 188 = .ok (.ldc2_w 55, 3) := by decide +kernel
theorem dL_law_191 : decode cL_law 191 = .ok (.land, 1) := by decide +kernel
theorem dL_law_192 : decode cL_law 192 = .ok (.lor, 1) := by decide +kernel
theorem dL_law_193 : decode cL_law 193 = .ok (.invokevirtual 57, 3) := by decide +kernel
theorem dL_law_196 : decode cL_law 196 = .ok (.aload_n 2, 1) := by decide +kernel
theorem dL_law_197 : decode cL_law 197 = .ok (.aload_n 0, 1) := by decide +kernel
theorem dL_law_198 : decode cL_law 198 = .ok (.iload 4, 2) := by decide +kernel
theorem dL_law_200 : decode cL_law 200 = .ok (.iconst 1, 1) := by decide +kernel
theorem dL_law_201 : decode cL_law 201 = .ok (.iadd, 1) := by decide +kernel
theorem dL_law_202 : decode cL_law 202 = .ok (.iaload, 1) := by decide +kernel
theorem dL_law_203 : decode cL_law 203 = .ok (.i2l, 1) := by decide +kernel
theorem dL_law_204 : decode cL_law 204 = .ok (.bipush 32, 2) := by decide +kernel
theorem dL_law_206 : decode cL_law 206 = .ok (.lshl, 1) := by decide +kernel
theorem dL_law_207 : decode cL_law 207 = .ok (.aload_n 0, 1) := by decide +kernel
theorem dL_law_208 : decode cL_law 208 = .ok (.iload 4, 2) := by decide +kernel
theorem dL_law_210 : decode cL_law 210 = .ok (.iconst 2, 1) := by decide +kernel
theorem dL_law_211 : decode cL_law 211 = .ok (.iadd, 1) := by decide +kernel
theorem dL_law_212 : decode cL_law 212 = .ok (.iaload, 1) := by decide +kernel
theorem dL_law_213 : decode cL_law 213 = .ok (.i2l, 1) := by decide +kernel
theorem dL_law_214 : decode cL_law 214 = .ok (.ldc2_w 55, 3) := by decide +kernel
theorem dL_law_217 : decode cL_law 217 = .ok (.land, 1) := by decide +kernel
theorem dL_law_218 : decode cL_law 218 = .ok (.lor, 1) := by decide +kernel
theorem dL_law_219 : decode cL_law 219 = .ok (.aload_n 0, 1) := by decide +kernel
theorem dL_law_220 : decode cL_law 220 = .ok (.iload 4, 2) := by decide +kernel
theorem dL_law_222 : decode cL_law 222 = .ok (.iconst 3, 1) := by decide +kernel
theorem dL_law_223 : decode cL_law 223 = .ok (.iadd, 1) := by decide +kernel
theorem dL_law_224 : decode cL_law 224 = .ok (.iaload, 1) := by decide +kernel
theorem dL_law_225 : decode cL_law 225 = .ok (.i2l, 1) := by decide +kernel
theorem dL_law_226 : decode cL_law 226 = .ok (.bipush 32, 2) := by decide +kernel
theorem dL_law_228 : decode cL_law 228 = .ok (.lshl, 1) := by decide +kernel
theorem dL_law_229 : decode cL_law 229 = .ok (.aload_n 0, 1) := by decide +kernel
theorem dL_law_230 : decode cL_law 230 = .ok (.iload 4, 2) := by decide +kernel
theorem dL_law_232 : decode cL_law 232 = .ok (.iconst 4, 1) := by decide +kernel
theorem dL_law_233 : decode cL_law 233 = .ok (.iadd, 1) := by decide +kernel
theorem dL_law_234 : decode cL_law 234 = .ok (.iaload, 1) := by decide +kernel
theorem dL_law_235 : decode cL_law 235 = .ok (.i2l, 1) := by decide +kernel
theorem dL_law_236 : decode cL_law 236 = .ok (.ldc2_w 55, 3) := by decide +kernel
theorem dL_law_239 : decode cL_law 239 = .ok (.land, 1) := by decide +kernel
theorem dL_law_240 : decode cL_law 240 = .ok (.lor, 1) := by decide +kernel
theorem dL_law_241 : decode cL_law 241 = .ok (.invokevirtual 61, 3) := by decide +kernel
theorem dL_law_244 : decode cL_law 244 = .ok (.goto 652, 3) := by decide +kernel
theorem dL_law_247 : decode cL_law 247 = .ok (.aload_n 1, 1) := by decide +kernel
theorem dL_law_248 : decode cL_law 248 = .ok (.aload_n 0, 1) := by decide +kernel
theorem dL_law_249 : decode cL_law 249 = .ok (.iload 4, 2) := by decide +kernel
theorem dL_law_251 : decode cL_law 251 = .ok (.iconst 1, 1) := by decide +kernel
theorem dL_law_252 : decode cL_law 252 = .ok (.iadd, 1) := by decide +kernel
theorem dL_law_253 : decode cL_law 253 = .ok (.iaload, 1) := by decide +kernel
theorem dL_law_254 : decode cL_law 254 = .ok (.aload_n 3, 1) := by decide +kernel
theorem dL_law_255 : decode cL_law 255 = .ok (.invokestatic 62, 3) := by decide +kernel
theorem dL_law_258 : decode cL_law 258 = .ok (.istore 5, 2) := by decide +kernel
theorem dL_law_260 : decode cL_law 260 = .ok (.aload_n 2, 1) := by decide +kernel
theorem dL_law_261 : decode cL_law 261 = .ok (.aload_n 0, 1) := by decide +kernel
theorem dL_law_262 : decode cL_law 262 = .ok (.iload 4, 2) := by decide +kernel
theorem dL_law_264 : decode cL_law 264 = .ok (.iconst 1, 1) := by decide +kernel
theorem dL_law_265 : decode cL_law 265 = .ok (.iadd, 1) := by decide +kernel
theorem dL_law_266 : decode cL_law 266 = .ok (.iaload, 1) := by decide +kernel
theorem dL_law_267 : decode cL_law 267 = .ok (.invokevirtual 65, 3) := by decide +kernel
theorem dL_law_270 : decode cL_law 270 = .ok (.istore 6, 2) := by decide +kernel
theorem dL_law_272 : decode cL_law 272 = .ok (.aload_n 2, 1) := by decide +kernel
theorem dL_law_273 : decode cL_law 273 = .ok (.invokevirtual 51, 3) := by decide +kernel
theorem dL_law_276 : decode cL_law 276 = .ok (.iload 5, 2) := by decide +kernel
theorem dL_law_278 : decode cL_law 278 = .ok (.if_icmp .eq 5, 3) := by decide +kernel
theorem dL_law_281 : decode cL_law 281 = .ok (.iconst 0, 1) := by decide +kernel
theorem dL_law_282 : decode cL_law 282 = .ok (.ireturn, 1) := by decide +kernel
theorem dL_law_283 : decode cL_law 283 = .ok (.iload 5, 2) := by decide +kernel
theorem dL_law_285 : decode cL_law 285 = .ok (.ifCond .ne 15, 3) := by decide +kernel
theorem dL_law_288 : decode cL_law 288 = .ok (.aload_n 3, 1) := by decide +kernel
theorem dL_law_289 : decode cL_law 289 = .ok (.iconst 0, 1) := by decide +kernel
theorem dL_law_290 : decode cL_law 290 = .ok (.laload, 1) := by decide +kernel
theorem dL_law_291 : decode cL_law 291 = .ok (.iload 6, 2) := by decide +kernel
theorem dL_law_293 : decode cL_law 293 = .ok (.i2l, 1) := by decide +kernel
theorem dL_law_294 : decode cL_law 294 = .ok (.lcmp, 1) := by decide +kernel
theorem dL_law_295 : decode cL_law 295 = .ok (.ifCond .eq 5, 3) := by decide +kernel
theorem dL_law_298 : decode cL_law 298 = .ok (.iconst 0, 1) := by decide +kernel
theorem dL_law_299 : decode cL_law 299 = .ok (.ireturn, 1) := by decide +kernel
theorem dL_law_300 : decode cL_law 300 = .ok (.goto 596, 3) := by decide +kernel
theorem dL_law_303 : decode cL_law 303 = .ok (.aload_n 1, 1) := by decide +kernel
theorem dL_law_304 : decode cL_law 304 = .ok (.aload_n 0, 1) := by decide +kernel
theorem dL_law_305 : decode cL_law 305 = .ok (.iload 4, 2) := by decide +kernel
theorem dL_law_307 : decode cL_law 307 = .ok (.iconst 1, 1) := by decide +kernel
theorem dL_law_308 : decode cL_law 308 = .ok (.iadd, 1) := by decide +kernel
theorem dL_law_309 : decode cL_law 309 = .ok (.iaload, 1) := by decide +kernel
theorem dL_law_310 : decode cL_law 310 = .ok (.aload_n 0, 1) := by decide +kernel
theorem dL_law_311 : decode cL_law 311 = .ok (.iload 4, 2) := by decide +kernel
theorem dL_law_313 : decode cL_law 313 = .ok (.iconst 2, 1) := by decide +kernel
theorem dL_law_314 : decode cL_law 314 = .ok (.iadd, 1) := by decide +kernel
theorem dL_law_315 : decode cL_law 315 = .ok (.iaload, 1) := by decide +kernel
theorem dL_law_316 : decode cL_law 316 = .ok (.aload_n 0, 1) := by decide +kernel
theorem dL_law_317 : decode cL_law 317 = .ok (.iload 4, 2) := by decide +kernel
theorem dL_law_319 : decode cL_law 319 = .ok (.iconst 3, 1) := by decide +kernel
theorem dL_law_320 : decode cL_law 320 = .ok (.iadd, 1) := by decide +kernel
theorem dL_law_321 : decode cL_law 321 = .ok (.iaload, 1) := by decide +kernel
theorem dL_law_322 : decode cL_law 322 = .ok (.aload_n 0, 1) := by decide +kernel
theorem dL_law_323 : decode cL_law 323 = .ok (.iload 4, 2) := by decide +kernel
theorem dL_law_325 : decode cL_law 325 = .ok (.iconst 4, 1) := by decide +kernel
theorem dL_law_326 : decode cL_law 326 = .ok (.iadd, 1) := by decide +kernel
theorem dL_law_327 : decode cL_law 327 = .ok (.iaload, 1) := by decide +kernel
theorem dL_law_328 : decode cL_law 328 = .ok (.aload_n 3, 1) := by decide +kernel
theorem dL_law_329 : decode cL_law 329 = .ok (.invokestatic 66, 3) := by decide +kernel
theorem dL_law_332 : decode cL_law 332 = .ok (.istore 5, 2) := by decide +kernel
theorem dL_law_334 : decode cL_law 334 = .ok (.aload_n 2, 1) := by decide +kernel
theorem dL_law_335 : decode cL_law 335 = .ok (.aload_n 0, 1) := by decide +kernel
theorem dL_law_336 : decode cL_law 336 = .ok (.iload 4, 2) := by decide +kernel
theorem dL_law_338 : decode cL_law 338 = .ok (.iconst 1, 1) := by decide +kernel
theorem dL_law_339 : decode cL_law 339 = .ok (.iadd, 1) := by decide +kernel
theorem dL_law_340 : decode cL_law 340 = .ok (.iaload, 1) := by decide +kernel
theorem dL_law_341 : decode cL_law 341 = .ok (.aload_n 0, 1) := by decide +kernel
theorem dL_law_342 : decode cL_law 342 = .ok (.iload 4, 2) := by decide +kernel
theorem dL_law_344 : decode cL_law 344 = .ok (.iconst 2, 1) := by decide +kernel
theorem dL_law_345 : decode cL_law 345 = .ok (.iadd, 1) := by decide +kernel
theorem dL_law_346 : decode cL_law 346 = .ok (.iaload, 1) := by decide +kernel
theorem dL_law_347 : decode cL_law 347 = .ok (.aload_n 0, 1) := by decide +kernel
theorem dL_law_348 : decode cL_law 348 = .ok (.iload 4, 2) := by decide +kernel
theorem dL_law_350 : decode cL_law 350 = .ok (.iconst 3, 1) := by decide +kernel
theorem dL_law_351 : decode cL_law 351 = .ok (.iadd, 1) := by decide +kernel
theorem dL_law_352 : decode cL_law 352 = .ok (.iaload, 1) := by decide +kernel
theorem dL_law_353 : decode cL_law 353 = .ok (.aload_n 0, 1) := by decide +kernel
theorem dL_law_354 : decode cL_law 354 = .ok (.iload 4, 2) := by decide +kernel
theorem dL_law_356 : decode cL_law 356 = .ok (.iconst 4, 1) := by decide +kernel
theorem dL_law_357 : decode cL_law 357 = .ok (.iadd, 1) := by decide +kernel
theorem dL_law_358 : decode cL_law 358 = .ok (.iaload, 1) := by decide +kernel
theorem dL_law_359 : decode cL_law 359 = .ok (.invokevirtual 69, 3) := by decide +kernel
theorem dL_law_362 : decode cL_law 362 = .ok (.lstore 6, 2) := by decide +kernel
theorem dL_law_364 : decode cL_law 364 = .ok (.aload_n 2, 1) := by decide +kernel
theorem dL_law_365 : decode cL_law 365 = .ok (.invokevirtual 51, 3) := by decide +kernel
theorem dL_law_368 : decode cL_law 368 = .ok (.iload 5, 2) := by decide +kernel
theorem dL_law_370 : decode cL_law 370 = .ok (.if_icmp .eq 5, 3) := by decide +kernel
theorem dL_law_373 : decode cL_law 373 = .ok (.iconst 0, 1) := by decide +kernel
theorem dL_law_374 : decode cL_law 374 = .ok (.ireturn, 1) := by decide +kernel
theorem dL_law_375 : decode cL_law 375 = .ok (.iload 5, 2) := by decide +kernel
theorem dL_law_377 : decode cL_law 377 = .ok (.ifCond .ne 14, 3) := by decide +kernel
theorem dL_law_380 : decode cL_law 380 = .ok (.aload_n 3, 1) := by decide +kernel
theorem dL_law_381 : decode cL_law 381 = .ok (.iconst 0, 1) := by decide +kernel
theorem dL_law_382 : decode cL_law 382 = .ok (.laload, 1) := by decide +kernel
theorem dL_law_383 : decode cL_law 383 = .ok (.lload 6, 2) := by decide +kernel
theorem dL_law_385 : decode cL_law 385 = .ok (.lcmp, 1) := by decide +kernel
theorem dL_law_386 : decode cL_law 386 = .ok (.ifCond .eq 5, 3) := by decide +kernel
theorem dL_law_389 : decode cL_law 389 = .ok (.iconst 0, 1) := by decide +kernel
theorem dL_law_390 : decode cL_law 390 = .ok (.ireturn, 1) := by decide +kernel
theorem dL_law_391 : decode cL_law 391 = .ok (.goto 505, 3) := by decide +kernel
theorem dL_law_394 : decode cL_law 394 = .ok (.aload_n 1, 1) := by decide +kernel
theorem dL_law_395 : decode cL_law 395 = .ok (.aload_n 0, 1) := by decide +kernel
theorem dL_law_396 : decode cL_law 396 = .ok (.iload 4, 2) := by decide +kernel
theorem dL_law_398 : decode cL_law 398 = .ok (.iconst 1, 1) := by decide +kernel
theorem dL_law_399 : decode cL_law 399 = .ok (.iadd, 1) := by decide +kernel
theorem dL_law_400 : decode cL_law 400 = .ok (.iaload, 1) := by decide +kernel
theorem dL_law_401 : decode cL_law 401 = .ok (.aload_n 0, 1) := by decide +kernel
theorem dL_law_402 : decode cL_law 402 = .ok (.iload 4, 2) := by decide +kernel
theorem dL_law_404 : decode cL_law 404 = .ok (.iconst 2, 1) := by decide +kernel
theorem dL_law_405 : decode cL_law 405 = .ok (.iadd, 1) := by decide +kernel
theorem dL_law_406 : decode cL_law 406 = .ok (.iaload, 1) := by decide +kernel
theorem dL_law_407 : decode cL_law 407 = .ok (.aload_n 0, 1) := by decide +kernel
theorem dL_law_408 : decode cL_law 408 = .ok (.iload 4, 2) := by decide +kernel
theorem dL_law_410 : decode cL_law 410 = .ok (.iconst 3, 1) := by decide +kernel
theorem dL_law_411 : decode cL_law 411 = .ok (.iadd, 1) := by decide +kernel
theorem dL_law_412 : decode cL_law 412 = .ok (.iaload, 1) := by decide +kernel
theorem dL_law_413 : decode cL_law 413 = .ok (.aload_n 0, 1) := by decide +kernel
theorem dL_law_414 : decode cL_law 414 = .ok (.iload 4, 2) := by decide +kernel
theorem dL_law_416 : decode cL_law 416 = .ok (.iconst 4, 1) := by decide +kernel
theorem dL_law_417 : decode cL_law 417 = .ok (.iadd, 1) := by decide +kernel
theorem dL_law_418 : decode cL_law 418 = .ok (.iaload, 1) := by decide +kernel
theorem dL_law_419 : decode cL_law 419 = .ok (.aload_n 3, 1) := by decide +kernel
theorem dL_law_420 : decode cL_law 420 = .ok (.invokestatic 70, 3) := by decide +kernel
theorem dL_law_423 : decode cL_law 423 = .ok (.istore 5, 2) := by decide +kernel
theorem dL_law_425 : decode cL_law 425 = .ok (.aload_n 2, 1) := by decide +kernel
theorem dL_law_426 : decode cL_law 426 = .ok (.aload_n 0, 1) := by decide +kernel
theorem dL_law_427 : decode cL_law 427 = .ok (.iload 4, 2) := by decide +kernel
theorem dL_law_429 : decode cL_law 429 = .ok (.iconst 1, 1) := by decide +kernel
theorem dL_law_430 : decode cL_law 430 = .ok (.iadd, 1) := by decide +kernel
theorem dL_law_431 : decode cL_law 431 = .ok (.iaload, 1) := by decide +kernel
theorem dL_law_432 : decode cL_law 432 = .ok (.aload_n 0, 1) := by decide +kernel
theorem dL_law_433 : decode cL_law 433 = .ok (.iload 4, 2) := by decide +kernel
theorem dL_law_435 : decode cL_law 435 = .ok (.iconst 2, 1) := by decide +kernel
theorem dL_law_436 : decode cL_law 436 = .ok (.iadd, 1) := by decide +kernel
theorem dL_law_437 : decode cL_law 437 = .ok (.iaload, 1) := by decide +kernel
theorem dL_law_438 : decode cL_law 438 = .ok (.aload_n 0, 1) := by decide +kernel
theorem dL_law_439 : decode cL_law 439 = .ok (.iload 4, 2) := by decide +kernel
theorem dL_law_441 : decode cL_law 441 = .ok (.iconst 3, 1) := by decide +kernel
theorem dL_law_442 : decode cL_law 442 = .ok (.iadd, 1) := by decide +kernel
theorem dL_law_443 : decode cL_law 443 = .ok (.iaload, 1) := by decide +kernel
theorem dL_law_444 : decode cL_law 444 = .ok (.aload_n 0, 1) := by decide +kernel
theorem dL_law_445 : decode cL_law 445 = .ok (.iload 4, 2) := by decide +kernel
theorem dL_law_447 : decode cL_law 447 = .ok (.iconst 4, 1) := by decide +kernel
theorem dL_law_448 : decode cL_law 448 = .ok (.iadd, 1) := by decide +kernel
theorem dL_law_449 : decode cL_law 449 = .ok (.iaload, 1) := by decide +kernel
theorem dL_law_450 : decode cL_law 450 = .ok (.invokevirtual 72, 3) := by decide +kernel
theorem dL_law_453 : decode cL_law 453 = .ok (.istore 6, 2) := by decide +kernel
theorem dL_law_455 : decode cL_law 455 = .ok (.aload_n 2, 1) := by decide +kernel
theorem dL_law_456 : decode cL_law 456 = .ok (.invokevirtual 51, 3) := by decide +kernel
theorem dL_law_459 : decode cL_law 459 = .ok (.iload 5, 2) := by decide +kernel
theorem dL_law_461 : decode cL_law 461 = .ok (.if_icmp .eq 5, 3) := by decide +kernel
theorem dL_law_464 : decode cL_law 464 = .ok (.iconst 0, 1) := by decide +kernel
theorem dL_law_465 : decode cL_law 465 = .ok (.ireturn, 1) := by decide +kernel
theorem dL_law_466 : decode cL_law 466 = .ok (.iload 5, 2) := by decide +kernel
theorem dL_law_468 : decode cL_law 468 = .ok (.ifCond .ne 15, 3) := by decide +kernel
theorem dL_law_471 : decode cL_law 471 = .ok (.aload_n 3, 1) := by decide +kernel
theorem dL_law_472 : decode cL_law 472 = .ok (.iconst 0, 1) := by decide +kernel
theorem dL_law_473 : decode cL_law 473 = .ok (.laload, 1) := by decide +kernel
theorem dL_law_474 : decode cL_law 474 = .ok (.iload 6, 2) := by decide +kernel
theorem dL_law_476 : decode cL_law 476 = .ok (.i2l, 1) := by decide +kernel
theorem dL_law_477 : decode cL_law 477 = .ok (.lcmp, 1) := by decide +kernel
theorem dL_law_478 : decode cL_law 478 = .ok (.ifCond .eq 5, 3) := by decide +kernel
theorem dL_law_481 : decode cL_law 481 = .ok (.iconst 0, 1) := by decide +kernel
theorem dL_law_482 : decode cL_law 482 = .ok (.ireturn, 1) := by decide +kernel
theorem dL_law_483 : decode cL_law 483 = .ok (.goto 413, 3) := by decide +kernel
theorem dL_law_486 : decode cL_law 486 = .ok (.aload_n 1, 1) := by decide +kernel
theorem dL_law_487 : decode cL_law 487 = .ok (.invokevirtual 73, 3) := by decide +kernel
theorem dL_law_490 : decode cL_law 490 = .ok (.aload_n 2, 1) := by decide +kernel
theorem dL_law_491 : decode cL_law 491 = .ok (.invokevirtual 76, 3) := by decide +kernel
theorem dL_law_494 : decode cL_law 494 = .ok (.if_icmp .eq 402, 3) := by decide +kernel
theorem dL_law_497 : decode cL_law 497 = .ok (.iconst 0, 1) := by decide +kernel
theorem dL_law_498 : decode cL_law 498 = .ok (.ireturn, 1) := by decide +kernel
theorem dL_law_499 : decode cL_law 499 = .ok (.aload_n 1, 1) := by decide +kernel
theorem dL_law_500 : decode cL_law 500 = .ok (.aload_n 0, 1) := by decide +kernel
theorem dL_law_501 : decode cL_law 501 = .ok (.iload 4, 2) := by decide +kernel
theorem dL_law_503 : decode cL_law 503 = .ok (.iconst 1, 1) := by decide +kernel
theorem dL_law_504 : decode cL_law 504 = .ok (.iadd, 1) := by decide +kernel
theorem dL_law_505 : decode cL_law 505 = .ok (.iaload, 1) := by decide +kernel
theorem dL_law_506 : decode cL_law 506 = .ok (.aload_n 0, 1) := by decide +kernel
theorem dL_law_507 : decode cL_law 507 = .ok (.iload 4, 2) := by decide +kernel
theorem dL_law_509 : decode cL_law 509 = .ok (.iconst 2, 1) := by decide +kernel
theorem dL_law_510 : decode cL_law 510 = .ok (.iadd, 1) := by decide +kernel
theorem dL_law_511 : decode cL_law 511 = .ok (.iaload, 1) := by decide +kernel
theorem dL_law_512 : decode cL_law 512 = .ok (.aload_n 3, 1) := by decide +kernel
theorem dL_law_513 : decode cL_law 513 = .ok (.invokestatic 77, 3) := by decide +kernel
theorem dL_law_516 : decode cL_law 516 = .ok (.istore 5, 2) := by decide +kernel
theorem dL_law_518 : decode cL_law 518 = .ok (.aload_n 2, 1) := by decide +kernel
theorem dL_law_519 : decode cL_law 519 = .ok (.aload_n 0, 1) := by decide +kernel
theorem dL_law_520 : decode cL_law 520 = .ok (.iload 4, 2) := by decide +kernel
theorem dL_law_522 : decode cL_law 522 = .ok (.iconst 1, 1) := by decide +kernel
theorem dL_law_523 : decode cL_law 523 = .ok (.iadd, 1) := by decide +kernel
theorem dL_law_524 : decode cL_law 524 = .ok (.iaload, 1) := by decide +kernel
theorem dL_law_525 : decode cL_law 525 = .ok (.aload_n 0, 1) := by decide +kernel
theorem dL_law_526 : decode cL_law 526 = .ok (.iload 4, 2) := by decide +kernel
theorem dL_law_528 : decode cL_law 528 = .ok (.iconst 2, 1) := by decide +kernel
theorem dL_law_529 : decode cL_law 529 = .ok (.iadd, 1) := by decide +kernel
theorem dL_law_530 : decode cL_law 530 = .ok (.iaload, 1) := by decide +kernel
theorem dL_law_531 : decode cL_law 531 = .ok (.invokevirtual 80, 3) := by decide +kernel
theorem dL_law_534 : decode cL_law 534 = .ok (.istore 6, 2) := by decide +kernel
theorem dL_law_536 : decode cL_law 536 = .ok (.aload_n 2, 1) := by decide +kernel
theorem dL_law_537 : decode cL_law 537 = .ok (.invokevirtual 51, 3) := by decide +kernel
theorem dL_law_540 : decode cL_law 540 = .ok (.iload 5, 2) := by decide +kernel
theorem dL_law_542 : decode cL_law 542 = .ok (.if_icmp .eq 5, 3) := by decide +kernel
theorem dL_law_545 : decode cL_law 545 = .ok (.iconst 0, 1) := by decide +kernel
theorem dL_law_546 : decode cL_law 546 = .ok (.ireturn, 1) := by decide +kernel
theorem dL_law_547 : decode cL_law 547 = .ok (.iload 5, 2) := by decide +kernel
theorem dL_law_549 : decode cL_law 549 = .ok (.ifCond .ne 15, 3) := by decide +kernel
theorem dL_law_552 : decode cL_law 552 = .ok (.aload_n 3, 1) := by decide +kernel
theorem dL_law_553 : decode cL_law 553 = .ok (.iconst 0, 1) := by decide +kernel
theorem dL_law_554 : decode cL_law 554 = .ok (.laload, 1) := by decide +kernel
theorem dL_law_555 : decode cL_law 555 = .ok (.iload 6, 2) := by decide +kernel
theorem dL_law_557 : decode cL_law 557 = .ok (.i2l, 1) := by decide +kernel
theorem dL_law_558 : decode cL_law 558 = .ok (.lcmp, 1) := by decide +kernel
theorem dL_law_559 : decode cL_law 559 = .ok (.ifCond .eq 5, 3) := by decide +kernel
theorem dL_law_562 : decode cL_law 562 = .ok (.iconst 0, 1) := by decide +kernel
theorem dL_law_563 : decode cL_law 563 = .ok (.ireturn, 1) := by decide +kernel
theorem dL_law_564 : decode cL_law 564 = .ok (.goto 332, 3) := by decide +kernel
theorem dL_law_567 : decode cL_law 567 = .ok (.aload_n 1, 1) := by decide +kernel
theorem dL_law_568 : decode cL_law 568 = .ok (.aload_n 0, 1) := by decide +kernel
theorem dL_law_569 : decode cL_law 569 = .ok (.iload 4, 2) := by decide +kernel
theorem dL_law_571 : decode cL_law 571 = .ok (.iconst 1, 1) := by decide +kernel
theorem dL_law_572 : decode cL_law 572 = .ok (.iadd, 1) := by decide +kernel
theorem dL_law_573 : decode cL_law 573 = .ok (.iaload, 1) := by decide +kernel
theorem dL_law_574 : decode cL_law 574 = .ok (.aload_n 0, 1) := by decide +kernel
theorem dL_law_575 : decode cL_law 575 = .ok (.iload 4, 2) := by decide +kernel
theorem dL_law_577 : decode cL_law 577 = .ok (.iconst 2, 1) := by decide +kernel
theorem dL_law_578 : decode cL_law 578 = .ok (.iadd, 1) := by decide +kernel
theorem dL_law_579 : decode cL_law 579 = .ok (.iaload, 1) := by decide +kernel
theorem dL_law_580 : decode cL_law 580 = .ok (.aload_n 3, 1) := by decide +kernel
theorem dL_law_581 : decode cL_law 581 = .ok (.invokestatic 81, 3) := by decide +kernel
theorem dL_law_584 : decode cL_law 584 = .ok (.istore 5, 2) := by decide +kernel
theorem dL_law_586 : decode cL_law 586 = .ok (.aload_n 2, 1) := by decide +kernel
theorem dL_law_587 : decode cL_law 587 = .ok (.aload_n 0, 1) := by decide +kernel
theorem dL_law_588 : decode cL_law 588 = .ok (.iload 4, 2) := by decide +kernel
theorem dL_law_590 : decode cL_law 590 = .ok (.iconst 1, 1) := by decide +kernel
theorem dL_law_591 : decode cL_law 591 = .ok (.iadd, 1) := by decide +kernel
theorem dL_law_592 : decode cL_law 592 = .ok (.iaload, 1) := by decide +kernel
theorem dL_law_593 : decode cL_law 593 = .ok (.aload_n 0, 1) := by decide +kernel
theorem dL_law_594 : decode cL_law 594 = .ok (.iload 4, 2) := by decide +kernel
theorem dL_law_596 : decode cL_law 596 = .ok (.iconst 2, 1) := by decide +kernel
theorem dL_law_597 : decode cL_law 597 = .ok (.iadd, 1) := by decide +kernel
theorem dL_law_598 : decode cL_law 598 = .ok (.iaload, 1) := by decide +kernel
theorem dL_law_599 : decode cL_law 599 = .ok (.invokevirtual 83, 3) := by decide +kernel
theorem dL_law_602 : decode cL_law 602 = .ok (.istore 6, 2) := by decide +kernel
theorem dL_law_604 : decode cL_law 604 = .ok (.aload_n 2, 1) := by decide +kernel
theorem dL_law_605 : decode cL_law 605 = .ok (.invokevirtual 51, 3) := by decide +kernel
theorem dL_law_608 : decode cL_law 608 = .ok (.iload 5, 2) := by decide +kernel
theorem dL_law_610 : decode cL_law 610 = .ok (.if_icmp .eq 5, 3) := by decide +kernel
theorem dL_law_613 : decode cL_law 613 = .ok (.iconst 0, 1) := by decide +kernel
theorem dL_law_614 : decode cL_law 614 = .ok (.ireturn, 1) := by decide +kernel
theorem dL_law_615 : decode cL_law 615 = .ok (.iload 5, 2) := by decide +kernel
theorem dL_law_617 : decode cL_law 617 = .ok (.ifCond .ne 15, 3) := by decide +kernel
theorem dL_law_620 : decode cL_law 620 = .ok (.aload_n 3, 1) := by decide +kernel
theorem dL_law_621 : decode cL_law 621 = .ok (.iconst 0, 1) := by decide +kernel
theorem dL_law_622 : decode cL_law 622 = .ok (.laload, 1) := by decide +kernel
theorem dL_law_623 : decode cL_law 623 = .ok (.iload 6, 2) := by decide +kernel
theorem dL_law_625 : decode cL_law 625 = .ok (.i2l, 1) := by decide +kernel
theorem dL_law_626 : decode cL_law 626 = .ok (.lcmp, 1) := by decide +kernel
theorem dL_law_627 : decode cL_law 627 = .ok (.ifCond .eq 5, 3) := by decide +kernel
theorem dL_law_630 : decode cL_law 630 = .ok (.iconst 0, 1) := by decide +kernel
theorem dL_law_631 : decode cL_law 631 = .ok (.ireturn, 1) := by decide +kernel
theorem dL_law_632 : decode cL_law 632 = .ok (.goto 264, 3) := by decide +kernel
theorem dL_law_635 : decode cL_law 635 = .ok (.aload_n 1, 1) := by decide +kernel
theorem dL_law_636 : decode cL_law 636 = .ok (.aload_n 0, 1) := by decide +kernel
theorem dL_law_637 : decode cL_law 637 = .ok (.iload 4, 2) := by decide +kernel
theorem dL_law_639 : decode cL_law 639 = .ok (.iconst 1, 1) := by decide +kernel
theorem dL_law_640 : decode cL_law 640 = .ok (.iadd, 1) := by decide +kernel
theorem dL_law_641 : decode cL_law 641 = .ok (.iaload, 1) := by decide +kernel
theorem dL_law_642 : decode cL_law 642 = .ok (.aload_n 0, 1) := by decide +kernel
theorem dL_law_643 : decode cL_law 643 = .ok (.iload 4, 2) := by decide +kernel
theorem dL_law_645 : decode cL_law 645 = .ok (.iconst 2, 1) := by decide +kernel
theorem dL_law_646 : decode cL_law 646 = .ok (.iadd, 1) := by decide +kernel
theorem dL_law_647 : decode cL_law 647 = .ok (.iaload, 1) := by decide +kernel
theorem dL_law_648 : decode cL_law 648 = .ok (.aload_n 0, 1) := by decide +kernel
theorem dL_law_649 : decode cL_law 649 = .ok (.iload 4, 2) := by decide +kernel
theorem dL_law_651 : decode cL_law 651 = .ok (.iconst 3, 1) := by decide +kernel
theorem dL_law_652 : decode cL_law 652 = .ok (.iadd, 1) := by decide +kernel
theorem dL_law_653 : decode cL_law 653 = .ok (.iaload, 1) := by decide +kernel
theorem dL_law_654 : decode cL_law 654 = .ok (.aload_n 0, 1) := by decide +kernel
theorem dL_law_655 : decode cL_law 655 = .ok (.iload 4, 2) := by decide +kernel
theorem dL_law_657 : decode cL_law 657 = .ok (.iconst 4, 1) := by decide +kernel
theorem dL_law_658 : decode cL_law 658 = .ok (.iadd, 1) := by decide +kernel
theorem dL_law_659 : decode cL_law 659 = .ok (.iaload, 1) := by decide +kernel
theorem dL_law_660 : decode cL_law 660 = .ok (.aload_n 0, 1) := by decide +kernel
theorem dL_law_661 : decode cL_law 661 = .ok (.iload 4, 2) := by decide +kernel
theorem dL_law_663 : decode cL_law 663 = .ok (.iconst 5, 1) := by decide +kernel
theorem dL_law_664 : decode cL_law 664 = .ok (.iadd, 1) := by decide +kernel
theorem dL_law_665 : decode cL_law 665 = .ok (.iaload, 1) := by decide +kernel
theorem dL_law_666 : decode cL_law 666 = .ok (.aload_n 3, 1) := by decide +kernel
theorem dL_law_667 : decode cL_law 667 = .ok (.invokestatic 84, 3) := by decide +kernel
theorem dL_law_670 : decode cL_law 670 = .ok (.istore 5, 2) := by decide +kernel
theorem dL_law_672 : decode cL_law 672 = .ok (.aload_n 2, 1) := by decide +kernel
theorem dL_law_673 : decode cL_law 673 = .ok (.aload_n 0, 1) := by decide +kernel
theorem dL_law_674 : decode cL_law 674 = .ok (.iload 4, 2) := by decide +kernel
theorem dL_law_676 : decode cL_law 676 = .ok (.iconst 1, 1) := by decide +kernel
theorem dL_law_677 : decode cL_law 677 = .ok (.iadd, 1) := by decide +kernel
theorem dL_law_678 : decode cL_law 678 = .ok (.iaload, 1) := by decide +kernel
theorem dL_law_679 : decode cL_law 679 = .ok (.aload_n 0, 1) := by decide +kernel
theorem dL_law_680 : decode cL_law 680 = .ok (.iload 4, 2) := by decide +kernel
theorem dL_law_682 : decode cL_law 682 = .ok (.iconst 2, 1) := by decide +kernel
theorem dL_law_683 : decode cL_law 683 = .ok (.iadd, 1) := by decide +kernel
theorem dL_law_684 : decode cL_law 684 = .ok (.iaload, 1) := by decide +kernel
theorem dL_law_685 : decode cL_law 685 = .ok (.aload_n 0, 1) := by decide +kernel
theorem dL_law_686 : decode cL_law 686 = .ok (.iload 4, 2) := by decide +kernel
theorem dL_law_688 : decode cL_law 688 = .ok (.iconst 3, 1) := by decide +kernel
theorem dL_law_689 : decode cL_law 689 = .ok (.iadd, 1) := by decide +kernel
theorem dL_law_690 : decode cL_law 690 = .ok (.iaload, 1) := by decide +kernel
theorem dL_law_691 : decode cL_law 691 = .ok (.aload_n 0, 1) := by decide +kernel
theorem dL_law_692 : decode cL_law 692 = .ok (.iload 4, 2) := by decide +kernel
theorem dL_law_694 : decode cL_law 694 = .ok (.iconst 4, 1) := by decide +kernel
theorem dL_law_695 : decode cL_law 695 = .ok (.iadd, 1) := by decide +kernel
theorem dL_law_696 : decode cL_law 696 = .ok (.iaload, 1) := by decide +kernel
theorem dL_law_697 : decode cL_law 697 = .ok (.aload_n 0, 1) := by decide +kernel
theorem dL_law_698 : decode cL_law 698 = .ok (.iload 4, 2) := by decide +kernel
theorem dL_law_700 : decode cL_law 700 = .ok (.iconst 5, 1) := by decide +kernel
theorem dL_law_701 : decode cL_law 701 = .ok (.iadd, 1) := by decide +kernel
theorem dL_law_702 : decode cL_law 702 = .ok (.iaload, 1) := by decide +kernel
theorem dL_law_703 : decode cL_law 703 = .ok (.invokevirtual 87, 3) := by decide +kernel
theorem dL_law_706 : decode cL_law 706 = .ok (.lstore 6, 2) := by decide +kernel
theorem dL_law_708 : decode cL_law 708 = .ok (.aload_n 2, 1) := by decide +kernel
theorem dL_law_709 : decode cL_law 709 = .ok (.invokevirtual 51, 3) := by decide +kernel
theorem dL_law_712 : decode cL_law 712 = .ok (.iload 5, 2) := by decide +kernel
theorem dL_law_714 : decode cL_law 714 = .ok (.if_icmp .eq 5, 3) := by decide +kernel
theorem dL_law_717 : decode cL_law 717 = .ok (.iconst 0, 1) := by decide +kernel
theorem dL_law_718 : decode cL_law 718 = .ok (.ireturn, 1) := by decide +kernel
theorem dL_law_719 : decode cL_law 719 = .ok (.iload 5, 2) := by decide +kernel
theorem dL_law_721 : decode cL_law 721 = .ok (.ifCond .ne 14, 3) := by decide +kernel
theorem dL_law_724 : decode cL_law 724 = .ok (.aload_n 3, 1) := by decide +kernel
theorem dL_law_725 : decode cL_law 725 = .ok (.iconst 0, 1) := by decide +kernel
theorem dL_law_726 : decode cL_law 726 = .ok (.laload, 1) := by decide +kernel
theorem dL_law_727 : decode cL_law 727 = .ok (.lload 6, 2) := by decide +kernel
theorem dL_law_729 : decode cL_law 729 = .ok (.lcmp, 1) := by decide +kernel
theorem dL_law_730 : decode cL_law 730 = .ok (.ifCond .eq 5, 3) := by decide +kernel
theorem dL_law_733 : decode cL_law 733 = .ok (.iconst 0, 1) := by decide +kernel
theorem dL_law_734 : decode cL_law 734 = .ok (.ireturn, 1) := by decide +kernel
theorem dL_law_735 : decode cL_law 735 = .ok (.goto 161, 3) := by decide +kernel
theorem dL_law_738 : decode cL_law 738 = .ok (.aload_n 1, 1) := by decide +kernel
theorem dL_law_739 : decode cL_law 739 = .ok (.aload_n 0, 1) := by decide +kernel
theorem dL_law_740 : decode cL_law 740 = .ok (.iload 4, 2) := by decide +kernel
theorem dL_law_742 : decode cL_law 742 = .ok (.iconst 1, 1) := by decide +kernel
theorem dL_law_743 : decode cL_law 743 = .ok (.iadd, 1) := by decide +kernel
theorem dL_law_744 : decode cL_law 744 = .ok (.iaload, 1) := by decide +kernel
theorem dL_law_745 : decode cL_law 745 = .ok (.i2l, 1) := by decide +kernel
theorem dL_law_746 : decode cL_law 746 = .ok (.bipush 32, 2) := by decide +kernel
theorem dL_law_748 : decode cL_law 748 = .ok (.lshl, 1) := by decide +kernel
theorem dL_law_749 : decode cL_law 749 = .ok (.aload_n 0, 1) := by decide +kernel
theorem dL_law_750 : decode cL_law 750 = .ok (.iload 4, 2) := by decide +kernel
theorem dL_law_752 : decode cL_law 752 = .ok (.iconst 2, 1) := by decide +kernel
theorem dL_law_753 : decode cL_law 753 = .ok (.iadd, 1) := by decide +kernel
theorem dL_law_754 : decode cL_law 754 = .ok (.iaload, 1) := by decide +kernel
theorem dL_law_755 : decode cL_law 755 = .ok (.i2l, 1) := by decide +kernel
theorem dL_law_756 : decode cL_law 756 = .ok (.ldc2_w 55, 3) := by decide +kernel
theorem dL_law_759 : decode cL_law 759 = .ok (.land, 1) := by decide +kernel
theorem dL_law_760 : decode cL_law 760 = .ok (.lor, 1) := by decide +kernel
theorem dL_law_761 : decode cL_law 761 = .ok (.aload_n 0, 1) := by decide +kernel
theorem dL_law_762 : decode cL_law 762 = .ok (.iload 4, 2) := by decide +kernel
theorem dL_law_764 : decode cL_law 764 = .ok (.iconst 3, 1) := by decide +kernel
theorem dL_law_765 : decode cL_law 765 = .ok (.iadd, 1) := by decide +kernel
theorem dL_law_766 : decode cL_law 766 = .ok (.iaload, 1) := by decide +kernel
theorem dL_law_767 : decode cL_law 767 = .ok (.i2l, 1) := by decide +kernel
theorem dL_law_768 : decode cL_law 768 = .ok (.bipush 32, 2) := by decide +kernel
theorem dL_law_770 : decode cL_law 770 = .ok (.lshl, 1) := by decide +kernel
theorem dL_law_771 : decode cL_law 771 = .ok (.aload_n 0, 1) := by decide +kernel
theorem dL_law_772 : decode cL_law 772 = .ok (.iload 4, 2) := by decide +kernel
theorem dL_law_774 : decode cL_law 774 = .ok (.iconst 4, 1) := by decide +kernel
theorem dL_law_775 : decode cL_law 775 = .ok (.iadd, 1) := by decide +kernel
theorem dL_law_776 : decode cL_law 776 = .ok (.iaload, 1) := by decide +kernel
theorem dL_law_777 : decode cL_law 777 = .ok (.i2l, 1) := by decide +kernel
theorem dL_law_778 : decode cL_law 778 = .ok (.ldc2_w 55, 3) := by decide +kernel
theorem dL_law_781 : decode cL_law 781 = .ok (.land, 1) := by decide +kernel
theorem dL_law_782 : decode cL_law 782 = .ok (.lor, 1) := by decide +kernel
theorem dL_law_783 : decode cL_law 783 = .ok (.invokevirtual 88, 3) := by decide +kernel
theorem dL_law_786 : decode cL_law 786 = .ok (.aload_n 2, 1) := by decide +kernel
theorem dL_law_787 : decode cL_law 787 = .ok (.aload_n 0, 1) := by decide +kernel
theorem dL_law_788 : decode cL_law 788 = .ok (.iload 4, 2) := by decide +kernel
theorem dL_law_790 : decode cL_law 790 = .ok (.iconst 1, 1) := by decide +kernel
theorem dL_law_791 : decode cL_law 791 = .ok (.iadd, 1) := by decide +kernel
theorem dL_law_792 : decode cL_law 792 = .ok (.iaload, 1) := by decide +kernel
theorem dL_law_793 : decode cL_law 793 = .ok (.i2l, 1) := by decide +kernel
theorem dL_law_794 : decode cL_law 794 = .ok (.bipush 32, 2) := by decide +kernel
theorem dL_law_796 : decode cL_law 796 = .ok (.lshl, 1) := by decide +kernel
theorem dL_law_797 : decode cL_law 797 = .ok (.aload_n 0, 1) := by decide +kernel
theorem dL_law_798 : decode cL_law 798 = .ok (.iload 4, 2) := by decide +kernel
theorem dL_law_800 : decode cL_law 800 = .ok (.iconst 2, 1) := by decide +kernel
theorem dL_law_801 : decode cL_law 801 = .ok (.iadd, 1) := by decide +kernel
theorem dL_law_802 : decode cL_law 802 = .ok (.iaload, 1) := by decide +kernel
theorem dL_law_803 : decode cL_law 803 = .ok (.i2l, 1) := by decide +kernel
theorem dL_law_804 : decode cL_law 804 = .ok (.ldc2_w 55, 3) := by decide +kernel
theorem dL_law_807 : decode cL_law 807 = .ok (.land, 1) := by decide +kernel
theorem dL_law_808 : decode cL_law 808 = .ok (.lor, 1) := by decide +kernel
theorem dL_law_809 : decode cL_law 809 = .ok (.aload_n 0, 1) := by decide +kernel
theorem dL_law_810 : decode cL_law 810 = .ok (.iload 4, 2) := by decide +kernel
theorem dL_law_812 : decode cL_law 812 = .ok (.iconst 3, 1) := by decide +kernel
theorem dL_law_813 : decode cL_law 813 = .ok (.iadd, 1) := by decide +kernel
theorem dL_law_814 : decode cL_law 814 = .ok (.iaload, 1) := by decide +kernel
theorem dL_law_815 : decode cL_law 815 = .ok (.i2l, 1) := by decide +kernel
theorem dL_law_816 : decode cL_law 816 = .ok (.bipush 32, 2) := by decide +kernel
theorem dL_law_818 : decode cL_law 818 = .ok (.lshl, 1) := by decide +kernel
theorem dL_law_819 : decode cL_law 819 = .ok (.aload_n 0, 1) := by decide +kernel
theorem dL_law_820 : decode cL_law 820 = .ok (.iload 4, 2) := by decide +kernel
theorem dL_law_822 : decode cL_law 822 = .ok (.iconst 4, 1) := by decide +kernel
theorem dL_law_823 : decode cL_law 823 = .ok (.iadd, 1) := by decide +kernel
theorem dL_law_824 : decode cL_law 824 = .ok (.iaload, 1) := by decide +kernel
theorem dL_law_825 : decode cL_law 825 = .ok (.i2l, 1) := by decide +kernel
theorem dL_law_826 : decode cL_law 826 = .ok (.ldc2_w 55, 3) := by decide +kernel
theorem dL_law_829 : decode cL_law 829 = .ok (.land, 1) := by decide +kernel
theorem dL_law_830 : decode cL_law 830 = .ok (.lor, 1) := by decide +kernel
theorem dL_law_831 : decode cL_law 831 = .ok (.invokevirtual 92, 3) := by decide +kernel
theorem dL_law_834 : decode cL_law 834 = .ok (.lcmp, 1) := by decide +kernel
theorem dL_law_835 : decode cL_law 835 = .ok (.ifCond .eq 61, 3) := by decide +kernel
theorem dL_law_838 : decode cL_law 838 = .ok (.iconst 0, 1) := by decide +kernel
theorem dL_law_839 : decode cL_law 839 = .ok (.ireturn, 1) := by decide +kernel
theorem dL_law_840 : decode cL_law 840 = .ok (.aload_n 1, 1) := by decide +kernel
theorem dL_law_841 : decode cL_law 841 = .ok (.aload_n 0, 1) := by decide +kernel
theorem dL_law_842 : decode cL_law 842 = .ok (.iload 4, 2) := by decide +kernel
theorem dL_law_844 : decode cL_law 844 = .ok (.iconst 1, 1) := by decide +kernel
theorem dL_law_845 : decode cL_law 845 = .ok (.iadd, 1) := by decide +kernel
theorem dL_law_846 : decode cL_law 846 = .ok (.iaload, 1) := by decide +kernel
theorem dL_law_847 : decode cL_law 847 = .ok (.aload_n 3, 1) := by decide +kernel
theorem dL_law_848 : decode cL_law 848 = .ok (.invokestatic 93, 3) := by decide +kernel
theorem dL_law_851 : decode cL_law 851 = .ok (.istore 5, 2) := by decide +kernel
theorem dL_law_853 : decode cL_law 853 = .ok (.aload_n 2, 1) := by decide +kernel
theorem dL_law_854 : decode cL_law 854 = .ok (.aload_n 0, 1) := by decide +kernel
theorem dL_law_855 : decode cL_law 855 = .ok (.iload 4, 2) := by decide +kernel
theorem dL_law_857 : decode cL_law 857 = .ok (.iconst 1, 1) := by decide +kernel
theorem dL_law_858 : decode cL_law 858 = .ok (.iadd, 1) := by decide +kernel
theorem dL_law_859 : decode cL_law 859 = .ok (.iaload, 1) := by decide +kernel
theorem dL_law_860 : decode cL_law 860 = .ok (.invokevirtual 95, 3) := by decide +kernel
theorem dL_law_863 : decode cL_law 863 = .ok (.istore 6, 2) := by decide +kernel
theorem dL_law_865 : decode cL_law 865 = .ok (.aload_n 2, 1) := by decide +kernel
theorem dL_law_866 : decode cL_law 866 = .ok (.invokevirtual 51, 3) := by decide +kernel
theorem dL_law_869 : decode cL_law 869 = .ok (.iload 5, 2) := by decide +kernel
theorem dL_law_871 : decode cL_law 871 = .ok (.if_icmp .eq 5, 3) := by decide +kernel
theorem dL_law_874 : decode cL_law 874 = .ok (.iconst 0, 1) := by decide +kernel
theorem dL_law_875 : decode cL_law 875 = .ok (.ireturn, 1) := by decide +kernel
theorem dL_law_876 : decode cL_law 876 = .ok (.iload 5, 2) := by decide +kernel
theorem dL_law_878 : decode cL_law 878 = .ok (.ifCond .ne 15, 3) := by decide +kernel
theorem dL_law_881 : decode cL_law 881 = .ok (.aload_n 3, 1) := by decide +kernel
theorem dL_law_882 : decode cL_law 882 = .ok (.iconst 0, 1) := by decide +kernel
theorem dL_law_883 : decode cL_law 883 = .ok (.laload, 1) := by decide +kernel
theorem dL_law_884 : decode cL_law 884 = .ok (.iload 6, 2) := by decide +kernel
theorem dL_law_886 : decode cL_law 886 = .ok (.i2l, 1) := by decide +kernel
theorem dL_law_887 : decode cL_law 887 = .ok (.lcmp, 1) := by decide +kernel
theorem dL_law_888 : decode cL_law 888 = .ok (.ifCond .eq 5, 3) := by decide +kernel
theorem dL_law_891 : decode cL_law 891 = .ok (.iconst 0, 1) := by decide +kernel
theorem dL_law_892 : decode cL_law 892 = .ok (.ireturn, 1) := by decide +kernel
theorem dL_law_893 : decode cL_law 893 = .ok (.goto 3, 3) := by decide +kernel
theorem dL_law_896 : decode cL_law 896 = .ok (.iinc 4 6, 3) := by decide +kernel
theorem dL_law_899 : decode cL_law 899 = .ok (.goto (-876), 3) := by decide +kernel
theorem dL_law_902 : decode cL_law 902 = .ok (.iconst 1, 1) := by decide +kernel
theorem dL_law_903 : decode cL_law 903 = .ok (.ireturn, 1) := by decide +kernel
end
section
/-! MY ROWS: what of the start every method may need: the nest's links, the string constants, three statics; it lies below lo -/
def ck_IAE : String := "java/lang/IllegalArgumentException"
def ck_sz : List Int32 := [64, 256, 536, 1024, 1220, 1440, 1460, 4096]
def ck_Low (lo : Nat) : Nat → Prop := fun q => lo ≤ q
/-- the links of nest mates -/
def ck_N (U : State) : Prop :=
  va_Nw (.fieldLinkNest "CookieListener" 112 "CookieListener$Connections" "callers" "[J" "CookieListener") U ∧
  va_Nw (.fieldLinkNest "CookieListener" 119 "CookieListener$Connections" "kinds" "[I" "CookieListener") U ∧
  va_Nw (.fieldLinkNest "CookieListener" 137 "CookieListener$Halves" "count" "I" "CookieListener") U ∧
  va_Nw (.fieldLinkNest "CookieListener" 143 "CookieListener$Connections" "count" "I" "CookieListener") U ∧
  va_Nw (.fieldLinkNest "CookieListener" 173 "CookieListener$Halves" "callers" "[J" "CookieListener") U ∧
  va_Nw (.fieldLinkNest "CookieListener" 174 "CookieListener$Halves" "kinds" "[I" "CookieListener") U ∧
  va_Nw (.fieldLinkNest "CookieListener" 79 "CookieListener$Halves" "numbers" "[I" "CookieListener") U ∧
  va_Nw (.fieldLinkNest "CookieListener" 83 "CookieListener$Halves" "answers" "[I" "CookieListener") U ∧
  va_Nw (.methodLinkNest "CookieListener" 18 yX1_init "CookieListener") U ∧
  va_Nw (.methodLinkNest "CookieListener" 25 yX0_init "CookieListener") U ∧
  va_Nw (.methodLinkNest "CookieListener" 9 yX2_init "CookieListener") U
def ck_E (lo : Nat) (U : State) : Prop :=
  lo ≤ U.heap.size ∧ ck_N U ∧ (va_Nw (.castable ck_IAE ck_IAE) U ∧ va_Nw (.declares (Bundle.initS "java/lang/RuntimeException")) U ∧ va_Nw (.declares (Bundle.initS "java/lang/Exception")) U ∧ va_Nw (.declares (Bundle.initS Bundle.tN)) U) ∧
  (∃ a, vk_R "CookieListener" 146 "what is not 0 to 7" a U) ∧ (∃ a, vk_R "CookieListener" 151 "an argument is outside of what is allowed" a U) ∧
  vx_Zq Bundle.tN "UNASSIGNED_STACK" Bundle.steD (ck_Low lo) U U.heap ∧ vx_Zq Bundle.tN "SUPPRESSED_SENTINEL" Bundle.listD (ck_Low lo) U U.heap ∧
  ∃ t, va_Z "CookieListener" "GREATEST_SIZES" "[I" (.ref t) (ck_Low lo) U U.heap ∧ va_T .int t 8 (fun j => .int (ck_sz.getD j 0)) (ck_Low lo) U U.heap
theorem ck_N.warm {s U : State} (hW : s.WarmedH U.vm) (h : ck_N s) : ck_N U := by
  obtain ⟨h1, h2, h3, h4, h5, h6, h7, h8, h9, h10, h11⟩ := h
  exact ⟨h1.warmF hW, h2.warmF hW, h3.warmF hW, h4.warmF hW, h5.warmF hW, h6.warmF hW, h7.warmF hW, h8.warmF hW, h9.warmM hW, h10.warmM hW, h11.warmM hW⟩
theorem ck_E.next {lo : Nat} {s U : State} {A : Nat → Prop} {H : Heap} {locs : List Loc} (hE : ck_E lo s) (hS : va_S A s.heap H locs) (hlo : ∀ q, A q → lo ≤ q) (hU : U.heap = H) (hW : s.WarmedH U.vm) : ck_E lo U := by
  obtain ⟨h0, h1, hc, ⟨a2, h2⟩, ⟨a3, h3⟩, h4, h5, t, h6, h7⟩ := hE
  have hk : ∀ a : Nat, a < s.heap.size → ¬ ck_Low lo a → U.heap[a]? = s.heap[a]? := fun a h1 h2 => by
    rw [hU]; exact hS.2.1 a h1 (fun z => h2 (hlo a z))
  exact ⟨by rw [hU]; exact Nat.le_trans h0 hS.1, h1.warm hW, ⟨hc.1.warmC hW, hc.2.1.warmD hW, hc.2.2.1.warmD hW, hc.2.2.2.warmD hW⟩, ⟨a2, h2.warm hW⟩, ⟨a3, h3.warm hW⟩, (h4.kept hk).moved hW.alike, (h5.kept hk).moved hW.alike, t, (h6.kept hk).moved hW.alike, (h7.kept hk).moved hW.alike⟩
theorem ck_E.same {lo : Nat} {s U : State} (hv : U.vm = s.vm) (hh : U.heap = s.heap) (hE : ck_E lo s) : ck_E lo U := by
  have hW : s.WarmedH U.vm := by rw [hv]; exact State.WarmedH.refl s
  exact hE.next (A := fun _ => False) (locs := []) va_S.rf (fun _ h => h.elim) hh hW
theorem ck_lo {lo sz : Nat} {w : va_W} (hD : va_D (fun q => lo ≤ q) w) (hs : lo ≤ sz) : ∀ q, va_A w sz q → lo ≤ q := by
  intro q h
  rcases h with ⟨k, e, h⟩ | h
  · exact hD.2 k _ h
  · exact Nat.le_trans hs h
/-! MY ROWS: what stays the same through a method, and a call in one row -/
def ck_P (D : va_G) (tys : List (ClassId × FieldType)) (lo sz : Nat) (w : va_W) (U : State) : Prop := U.heap.size = sz ∧ va_P D vwCl w U.heap ∧ va_K D vwCl tys U ∧ va_D (fun q => lo ≤ q) w ∧ ck_E lo U
def ck_G (D : va_G) (tys : List (ClassId × FieldType)) (lo : Nat) (A : Nat → Prop) (s : State) : Prop := va_K D vwCl tys s ∧ ck_E lo s ∧ (∀ q, s.heap.size ≤ q → A q) ∧ ∀ q, A q → lo ≤ q
theorem ck_blind {D : va_G} {tys : List (ClassId × FieldType)} {lo sz : Nat} {w : va_W} {av : List Value} : FrameBlind (va_Pc av (ck_P D tys lo sz w)) := by
  intro a U g mk q
  obtain ⟨q0, q1, qP, qK, qD, qE⟩ := q
  exact ⟨q0, q1, qP, va_K.moved (u := U) (U := U.calling g mk a) (Vm.Alike.refl U.vm) qK, qD, ck_E.same (U := U.calling g mk a) rfl rfl qE⟩
theorem ck_pre {D : va_G} {tys : List (ClassId × FieldType)} {lo : Nat} {A : Nat → Prop} {s : State} {H : Heap} {locs : List Loc} {ws wc : va_W} (hG : ck_G D tys lo A s) (hP : va_P D vwCl ws H) (hD : va_D A ws) (hS : va_S A s.heap H locs) (isC : List Nat) (hC : isC.map (fun i => ws[i]?) = wc.map some) (hn : va_nd isC = true) (av : List Value) :
    ∀ U : State, U.heap = H → s.WarmedH U.vm → va_Pc av (ck_P D tys lo H.size wc) av.toArray U := by
  obtain ⟨hK, hE, hA, hlo⟩ := hG
  intro U hU hW
  have hPc : va_P D vwCl wc H := by
    intro k q hk
    have h1 : (isC.map (fun i => ws[i]?))[k]? = some (some q) := by rw [hC, List.getElem?_map, hk]; rfl
    rw [List.getElem?_map] at h1
    cases hi : isC[k]? with
    | none => rw [hi] at h1; cases h1
    | some i => rw [hi] at h1; exact hP i q (Option.some.inj h1)
  exact ⟨rfl, by rw [hU], by rw [hU]; exact hPc, va_K.moved hW.alike hK, (hD.sub (ws' := wc) isC hn hC).weaken (fun _ _ _ h => hlo _ h), ck_E.next hE hS hlo hU hW⟩
/-! MY ROWS: worlds at a call in one row, ends in one row, arrays at a Nat index -/
def ck_B (D : va_G) (cl : List vw_C) (A : Nat → Prop) (w : va_W) (t : State) : Prop := va_P D cl w t.heap ∧ va_D A w
section CKA
variable {p : Program} {l : Launch} {e : Env} {R : Room} {s : State} {m : MethodId} {args : Array Value} {below : List Frame} {meth : Method} {c : Code} {H : Heap} {locs : List Loc} {cells slots : Nat} {Q : State → Prop}
variable {pc : Nat} {ls : Array Slot} {rest st0 : List Value} {a : Array Value} {A : Nat → Prop} {mc ms : Nat} {D : va_G} {cl : List vw_C} {tys : List (ClassId × FieldType)} {ws wc wr : va_W} {cc : ByteArray}
theorem ck_ci {S : Type} {post : Int32 → S → Prop} {W1 : S → va_W} (hr : va_Run p l e R s m args below meth c H locs cells slots mc ms (F0 m pc ls st0) rest (va_Qi post (fun u => ck_B D cl (va_A wc H.size) (W1 u)) (va_A wc H.size) a) (va_A wc H.size)) (hP : va_P D cl ws H) (hD : va_D A ws) (hS : va_S A s.heap H locs) (hA : ∀ q, s.heap.size ≤ q → A q) (isC isR : List Nat) (hC : isC.map (fun i => ws[i]?) = wc.map some) (hR : isR.map (fun i => ws[i]?) = wr.map some) (hn : va_nd isR = true) (hdis : ∀ i ∈ isR, i ∉ isC)
    (kk : ∀ (r : Int32) (u : S) (H1 : Heap) (locs1 : List Loc), post r u → va_P D cl (wr ++ W1 u) H1 → va_D A (wr ++ W1 u) → va_S A s.heap H1 locs1 → W p l e R s m args below meth c H1 locs1 (cells + mc) (slots + ms) Q (F0 m (pc + 3) ls (.int r :: rest))) : W p l e R s m args below meth c H locs cells slots Q (F0 m pc ls st0) := by
  have hF := va_free (wc := wc) hD hS hA isC hC
  refine va_calli hr hS (fun q _ h => hF q h) hF (fun r u t H1 locs1 ht hvm hw hB hz hk hS1 => ?_)
  obtain ⟨hP1, hD1⟩ := hB
  rw [ht] at hP1
  obtain ⟨hP2, hD2⟩ := va_join hP hD isC isR hC hR hn hdis hk hF hP1 hD1
  exact kk r u H1 locs1 hw hP2 hD2 hS1
theorem ck_cl {S : Type} {post : Int64 → S → Prop} {W1 : S → va_W} (hr : va_Run p l e R s m args below meth c H locs cells slots mc ms (F0 m pc ls st0) rest (va_Ql post (fun u => ck_B D cl (va_A wc H.size) (W1 u)) (va_A wc H.size) a) (va_A wc H.size)) (hP : va_P D cl ws H) (hD : va_D A ws) (hS : va_S A s.heap H locs) (hA : ∀ q, s.heap.size ≤ q → A q) (isC isR : List Nat) (hC : isC.map (fun i => ws[i]?) = wc.map some) (hR : isR.map (fun i => ws[i]?) = wr.map some) (hn : va_nd isR = true) (hdis : ∀ i ∈ isR, i ∉ isC)
    (kk : ∀ (r : Int64) (u : S) (H1 : Heap) (locs1 : List Loc), post r u → va_P D cl (wr ++ W1 u) H1 → va_D A (wr ++ W1 u) → va_S A s.heap H1 locs1 → W p l e R s m args below meth c H1 locs1 (cells + mc) (slots + ms) Q (F0 m (pc + 3) ls (.long r :: rest))) : W p l e R s m args below meth c H locs cells slots Q (F0 m pc ls st0) := by
  have hF := va_free (wc := wc) hD hS hA isC hC
  refine va_calll hr hS (fun q _ h => hF q h) hF (fun r u t H1 locs1 ht hvm hw hB hz hk hS1 => ?_)
  obtain ⟨hP1, hD1⟩ := hB
  rw [ht] at hP1
  obtain ⟨hP2, hD2⟩ := va_join hP hD isC isR hC hR hn hdis hk hF hP1 hD1
  exact kk r u H1 locs1 hw hP2 hD2 hS1
theorem ck_cv {S : Type} {post : S → Prop} {W1 : S → va_W} (hr : va_Run p l e R s m args below meth c H locs cells slots mc ms (F0 m pc ls st0) rest (va_Qv post (fun u => ck_B D cl (va_A wc H.size) (W1 u)) (va_A wc H.size) a) (va_A wc H.size)) (hP : va_P D cl ws H) (hD : va_D A ws) (hS : va_S A s.heap H locs) (hA : ∀ q, s.heap.size ≤ q → A q) (isC isR : List Nat) (hC : isC.map (fun i => ws[i]?) = wc.map some) (hR : isR.map (fun i => ws[i]?) = wr.map some) (hn : va_nd isR = true) (hdis : ∀ i ∈ isR, i ∉ isC)
    (kk : ∀ (u : S) (H1 : Heap) (locs1 : List Loc), post u → va_P D cl (wr ++ W1 u) H1 → va_D A (wr ++ W1 u) → va_S A s.heap H1 locs1 → W p l e R s m args below meth c H1 locs1 (cells + mc) (slots + ms) Q (F0 m (pc + 3) ls rest)) : W p l e R s m args below meth c H locs cells slots Q (F0 m pc ls st0) := by
  have hF := va_free (wc := wc) hD hS hA isC hC
  refine va_callv hr hS (fun q _ h => hF q h) hF (fun u t H1 locs1 ht hvm hw hB hz hk hS1 => ?_)
  obtain ⟨hP1, hD1⟩ := hB
  rw [ht] at hP1
  obtain ⟨hP2, hD2⟩ := va_join hP hD isC isR hC hR hn hdis hk hF hP1 hD1
  exact kk u H1 locs1 hw hP2 hD2 hS1
/-- ends -/
theorem ck_ir {S : Type} {post : Int32 → S → Prop} {W1 : S → va_W} {v : Int32} (hexec : p.tables.exec = Jvm.exec) (hb : c.code = cc) (hr : meth.sig.returnType = some .int) (hlocks : meth.locks = false) (hc : cells ≤ mc) (hs : slots ≤ ms) (hdg : decode cc pc = .ok (.ireturn, 1)) (u : S) (hP : va_P D cl (W1 u) H) (hD : va_D A (W1 u)) (hS : va_S A s.heap H locs) (hp : post v u) : W p l e R s m args below meth c H locs cells slots (MQ below (va_Qi post (fun u => ck_B D cl A (W1 u)) A) args s mc ms A) (F0 m pc ls [.int v]) := by
  refine W.widen (k := mc) (n := ms) hc hs ?_
  exact W.iret (v := v) hexec hb hr (fun t ht hW => ⟨⟨v, u, rfl, hp, by rw [ht]; exact hP, hD⟩, hS.F ht⟩) hS.2.2 hdg hlocks
theorem ck_zr {S : Type} {post : Int32 → S → Prop} {W1 : S → va_W} {v : Int32} (hexec : p.tables.exec = Jvm.exec) (hb : c.code = cc) (hr : meth.sig.returnType = some .boolean) (hlocks : meth.locks = false) (hv : v = 0 ∨ v = 1) (hc : cells ≤ mc) (hs : slots ≤ ms) (hdg : decode cc pc = .ok (.ireturn, 1)) (u : S) (hP : va_P D cl (W1 u) H) (hD : va_D A (W1 u)) (hS : va_S A s.heap H locs) (hp : post v u) : W p l e R s m args below meth c H locs cells slots (MQ below (va_Qi post (fun u => ck_B D cl A (W1 u)) A) args s mc ms A) (F0 m pc ls [.int v]) := by
  refine W.widen (k := mc) (n := ms) hc hs ?_
  exact W.zret (v := v) (ty := .boolean) hexec hb hr (by rcases hv with rfl | rfl <;> rfl) (fun t ht hW => ⟨⟨v, u, rfl, hp, by rw [ht]; exact hP, hD⟩, hS.F ht⟩) hS.2.2 hdg hlocks
theorem ck_lr {S : Type} {post : Int64 → S → Prop} {W1 : S → va_W} {v : Int64} (hexec : p.tables.exec = Jvm.exec) (hb : c.code = cc) (hr : meth.sig.returnType = some .long) (hlocks : meth.locks = false) (hc : cells ≤ mc) (hs : slots ≤ ms) (hdg : decode cc pc = .ok (.lreturn, 1)) (u : S) (hP : va_P D cl (W1 u) H) (hD : va_D A (W1 u)) (hS : va_S A s.heap H locs) (hp : post v u) : W p l e R s m args below meth c H locs cells slots (MQ below (va_Ql post (fun u => ck_B D cl A (W1 u)) A) args s mc ms A) (F0 m pc ls [.long v]) := by
  refine W.widen (k := mc) (n := ms) hc hs ?_
  exact W.lret (v := v) hexec hb hr (fun t ht hW => ⟨⟨v, u, rfl, hp, by rw [ht]; exact hP, hD⟩, hS.F ht⟩) hS.2.2 hdg hlocks
theorem ck_vr {S : Type} {post : S → Prop} {W1 : S → va_W} (hexec : p.tables.exec = Jvm.exec) (hb : c.code = cc) (hr : meth.sig.returnType = none) (hlocks : meth.locks = false) (hc : cells ≤ mc) (hs : slots ≤ ms) (hdg : decode cc pc = .ok (.return_, 1)) (u : S) (hP : va_P D cl (W1 u) H) (hD : va_D A (W1 u)) (hS : va_S A s.heap H locs) (hp : post u) : W p l e R s m args below meth c H locs cells slots (MQ below (va_Qv post (fun u => ck_B D cl A (W1 u)) A) args s mc ms A) (F0 m pc ls []) := by
  refine W.widen (k := mc) (n := ms) hc hs ?_
  exact W.vret hexec hb hr (fun t ht hW => ⟨⟨u, rfl, hp, by rw [ht]; exact hP, hD⟩, hS.F ht⟩) hS.2.2 hdg hlocks
/-- the top of the stack under another name -/
theorem ck_toi {x y : Int32} (h : x = y) (k : W p l e R s m args below meth c H locs cells slots Q (F0 m pc ls (.int y :: rest))) : W p l e R s m args below meth c H locs cells slots Q (F0 m pc ls (.int x :: rest)) := h ▸ k
theorem ck_tol {x y : Int64} (h : x = y) (k : W p l e R s m args below meth c H locs cells slots Q (F0 m pc ls (.long y :: rest))) : W p l e R s m args below meth c H locs cells slots Q (F0 m pc ls (.long x :: rest)) := h ▸ k
/-- arrays at a Nat index -/
theorem ck_zald (hexec : p.tables.exec = Jvm.exec) (hb : c.code = cc) (hK : va_K D cl tys s) (hP : va_P D cl ws H) (q0 t0 : Nat) {cA : ClassId} {n : Nat} {f : Nat → Int32} {b : Nat} (ha : ws[q0]? = some (b, .inl (cA, n, .inl f))) (ht : tys[t0]? = some (cA, .boolean)) {j : Nat} (hj : j < n) (hn : n < 2 ^ 31) (hdg : decode cc pc = .ok (.baload, 1)) (kk : W p l e R s m args below meth c H locs cells slots Q (F0 m (pc + 1) ls (.int (f j) :: rest))) : W p l e R s m args below meth c H locs cells slots Q (F0 m pc ls (.int (nI j) :: .ref b :: rest)) := by
  refine va_zald hexec hb hK hP q0 t0 ha ht (vp_in_nI hj hn) hdg ?_
  rw [nI_clamp (by omega)]
  exact kk
theorem ck_zast (hexec : p.tables.exec = Jvm.exec) (hb : c.code = cc) (hK : va_K D cl tys s) (hP : va_P D cl ws H) (hD : va_D A ws) (hS : va_S A s.heap H locs) (q0 t0 : Nat) {cA : ClassId} {n : Nat} {f : Nat → Int32} {b : Nat} (ha : ws[q0]? = some (b, .inl (cA, n, .inl f))) (ht : tys[t0]? = some (cA, .boolean)) {j : Nat} {x : Int32} (hx : vp_nar .boolean x = x) (hj : j < n) (hn : n < 2 ^ 31) (hdg : decode cc pc = .ok (.bastore, 1)) (kk : ∀ (H1 : Heap) (locs1 : List Loc), va_P D cl (ws.set q0 (b, .inl (cA, n, .inl (upd f j x)))) H1 → va_D A (ws.set q0 (b, .inl (cA, n, .inl (upd f j x)))) → va_S A s.heap H1 locs1 → W p l e R s m args below meth c H1 locs1 cells slots Q (F0 m (pc + 1) ls rest)) : W p l e R s m args below meth c H locs cells slots Q (F0 m pc ls (.int x :: .int (nI j) :: .ref b :: rest)) := by
  have e : (nI j).toNatClampNeg = j := nI_clamp (by omega)
  refine va_zast hexec hb hK hP hD hS q0 t0 ha ht (vp_in_nI hj hn) hdg ?_
  rw [e, hx]
  exact kk
theorem ck_iald (hexec : p.tables.exec = Jvm.exec) (hb : c.code = cc) (hK : va_K D cl tys s) (hP : va_P D cl ws H) (q0 t0 : Nat) {cA : ClassId} {n : Nat} {f : Nat → Int32} {b : Nat} (ha : ws[q0]? = some (b, .inl (cA, n, .inl f))) (ht : tys[t0]? = some (cA, .int)) {j : Nat} (hj : j < n) (hn : n < 2 ^ 31) (hdg : decode cc pc = .ok (.iaload, 1)) (kk : W p l e R s m args below meth c H locs cells slots Q (F0 m (pc + 1) ls (.int (f j) :: rest))) : W p l e R s m args below meth c H locs cells slots Q (F0 m pc ls (.int (nI j) :: .ref b :: rest)) := by
  refine va_iald hexec hb hK hP q0 t0 ha ht (vp_in_nI hj hn) hdg ?_
  rw [nI_clamp (by omega)]
  exact kk
theorem ck_lald (hexec : p.tables.exec = Jvm.exec) (hb : c.code = cc) (hK : va_K D cl tys s) (hP : va_P D cl ws H) (q0 t0 : Nat) {cA : ClassId} {n : Nat} {f : Nat → Int64} {b : Nat} (ha : ws[q0]? = some (b, .inl (cA, n, .inr (.inl f)))) (ht : tys[t0]? = some (cA, .long)) {j : Nat} (hj : j < n) (hn : n < 2 ^ 31) (hdg : decode cc pc = .ok (.laload, 1)) (kk : W p l e R s m args below meth c H locs cells slots Q (F0 m (pc + 1) ls (.long (f j) :: rest))) : W p l e R s m args below meth c H locs cells slots Q (F0 m pc ls (.int (nI j) :: .ref b :: rest)) := by
  refine va_lald hexec hb hK hP q0 t0 ha ht (vp_in_nI hj hn) hdg ?_
  rw [nI_clamp (by omega)]
  exact kk
theorem ck_iast (hexec : p.tables.exec = Jvm.exec) (hb : c.code = cc) (hK : va_K D cl tys s) (hP : va_P D cl ws H) (hD : va_D A ws) (hS : va_S A s.heap H locs) (q0 t0 : Nat) {cA : ClassId} {n : Nat} {f : Nat → Int32} {b : Nat} (ha : ws[q0]? = some (b, .inl (cA, n, .inl f))) (ht : tys[t0]? = some (cA, .int)) {j : Nat} {x : Int32} (hj : j < n) (hn : n < 2 ^ 31) (hdg : decode cc pc = .ok (.iastore, 1)) (kk : ∀ (H1 : Heap) (locs1 : List Loc), va_P D cl (ws.set q0 (b, .inl (cA, n, .inl (upd f j x)))) H1 → va_D A (ws.set q0 (b, .inl (cA, n, .inl (upd f j x)))) → va_S A s.heap H1 locs1 → W p l e R s m args below meth c H1 locs1 cells slots Q (F0 m (pc + 1) ls rest)) : W p l e R s m args below meth c H locs cells slots Q (F0 m pc ls (.int x :: .int (nI j) :: .ref b :: rest)) := by
  have e : (nI j).toNatClampNeg = j := nI_clamp (by omega)
  refine va_iast hexec hb hK hP hD hS q0 t0 ha ht (vp_in_nI hj hn) hdg ?_
  rw [e]
  exact kk
theorem ck_last (hexec : p.tables.exec = Jvm.exec) (hb : c.code = cc) (hK : va_K D cl tys s) (hP : va_P D cl ws H) (hD : va_D A ws) (hS : va_S A s.heap H locs) (q0 t0 : Nat) {cA : ClassId} {n : Nat} {f : Nat → Int64} {b : Nat} (ha : ws[q0]? = some (b, .inl (cA, n, .inr (.inl f)))) (ht : tys[t0]? = some (cA, .long)) {j : Nat} {x : Int64} (hj : j < n) (hn : n < 2 ^ 31) (hdg : decode cc pc = .ok (.lastore, 1)) (kk : ∀ (H1 : Heap) (locs1 : List Loc), va_P D cl (ws.set q0 (b, .inl (cA, n, .inr (.inl (vp_updL f j x))))) H1 → va_D A (ws.set q0 (b, .inl (cA, n, .inr (.inl (vp_updL f j x))))) → va_S A s.heap H1 locs1 → W p l e R s m args below meth c H1 locs1 cells slots Q (F0 m (pc + 1) ls rest)) : W p l e R s m args below meth c H locs cells slots Q (F0 m pc ls (.long x :: .int (nI j) :: .ref b :: rest)) := by
  have e : (nI j).toNatClampNeg = j := nI_clamp (by omega)
  refine va_last hexec hb hK hP hD hS q0 t0 ha ht (vp_in_nI hj hn) hdg ?_
  rw [e]
  exact kk
end CKA
/-! MY ROWS: methods that leave the heap as it is: their calls and ends -/
section CKR
variable {p : Program} {l : Launch} {e : Env} {R : Room} {s : State} {m : MethodId} {args : Array Value} {below : List Frame} {meth : Method} {c : Code} {H : Heap} {locs : List Loc} {cells slots : Nat} {Q : State → Prop}
variable {pc : Nat} {ls : Array Slot} {rest st0 : List Value} {a : Array Value} {cc : ByteArray}
theorem ck_nil {L : List Loc} (h : ∀ q ∈ L, (fun _ : Addr => False) q.base) : L = [] := by
  cases L with
  | nil => rfl
  | cons q _ => exact (h q List.mem_cons_self).elim
theorem ck_ri {post : Int32 → Prop} (hr : va_Run p l e R s m args below meth c H locs cells slots 0 0 (F0 m pc ls st0) rest (vp_Si post a) (fun _ => False)) (kk : ∀ r : Int32, post r → W p l e R s m args below meth c H locs cells slots Q (F0 m (pc + 3) ls (.int r :: rest))) : W p l e R s m args below meth c H locs cells slots Q (F0 m pc ls st0) := by
  intro T hT X
  obtain ⟨v, st₀, t, T', L, h0, X', hL, e1, e2, ⟨r, hv, hp, hh⟩, st⟩ := hr T hT X
  cases hv
  cases ck_nil hL
  rw [List.append_nil] at X'
  obtain ⟨t2, a1, b1⟩ := kk r hp T' (by rw [e1, hh, h0]) X'
  exact ⟨t2, st t2 a1, b1⟩
theorem ck_rl {post : Int64 → Prop} (hr : va_Run p l e R s m args below meth c H locs cells slots 0 0 (F0 m pc ls st0) rest (vp_Sl post a) (fun _ => False)) (kk : ∀ r : Int64, post r → W p l e R s m args below meth c H locs cells slots Q (F0 m (pc + 3) ls (.long r :: rest))) : W p l e R s m args below meth c H locs cells slots Q (F0 m pc ls st0) := by
  intro T hT X
  obtain ⟨v, st₀, t, T', L, h0, X', hL, e1, e2, ⟨r, hv, hp, hh⟩, st⟩ := hr T hT X
  cases hv
  cases ck_nil hL
  rw [List.append_nil] at X'
  obtain ⟨t2, a1, b1⟩ := kk r hp T' (by rw [e1, hh, h0]) X'
  exact ⟨t2, st t2 a1, b1⟩
theorem ck_rv {post : Unit → Prop} (hr : va_Run p l e R s m args below meth c H locs cells slots 0 0 (F0 m pc ls st0) rest (va_Sv post a) (fun _ => False)) (kk : post () → W p l e R s m args below meth c H locs cells slots Q (F0 m (pc + 3) ls rest)) : W p l e R s m args below meth c H locs cells slots Q (F0 m pc ls st0) := by
  intro T hT X
  obtain ⟨v, st₀, t, T', L, h0, X', hL, e1, e2, ⟨hv, hp, hh⟩, st⟩ := hr T hT X
  cases hv
  cases ck_nil hL
  rw [List.append_nil] at X'
  obtain ⟨t2, a1, b1⟩ := kk hp T' (by rw [e1, hh, h0]) X'
  exact ⟨t2, st t2 a1, b1⟩
theorem ck_iq {post : Int32 → Prop} {v : Int32} (hexec : p.tables.exec = Jvm.exec) (hb : c.code = cc) (hr : meth.sig.returnType = some .int) (hlocks : meth.locks = false) (hdg : decode cc pc = .ok (.ireturn, 1)) (hp : post v) : W p l e R s m args below meth c s.heap [] 0 0 (MQ below (vp_Si post) args s 0 0 (fun _ => False)) (F0 m pc ls [.int v]) :=
  W.iret (v := v) hexec hb hr (fun t ht hW => ⟨v, rfl, hp, ht⟩) (fun q h => by cases h) hdg hlocks
theorem ck_zq {post : Int32 → Prop} {v : Int32} (hexec : p.tables.exec = Jvm.exec) (hb : c.code = cc) (hr : meth.sig.returnType = some .boolean) (hlocks : meth.locks = false) (hv : v = 0 ∨ v = 1) (hdg : decode cc pc = .ok (.ireturn, 1)) (hp : post v) : W p l e R s m args below meth c s.heap [] 0 0 (MQ below (vp_Si post) args s 0 0 (fun _ => False)) (F0 m pc ls [.int v]) :=
  W.zret (v := v) (ty := .boolean) hexec hb hr (by rcases hv with rfl | rfl <;> rfl) (fun t ht hW => ⟨v, rfl, hp, ht⟩) (fun q h => by cases h) hdg hlocks
theorem ck_lq {post : Int64 → Prop} {v : Int64} (hexec : p.tables.exec = Jvm.exec) (hb : c.code = cc) (hr : meth.sig.returnType = some .long) (hlocks : meth.locks = false) (hdg : decode cc pc = .ok (.lreturn, 1)) (hp : post v) : W p l e R s m args below meth c s.heap [] 0 0 (MQ below (vp_Sl post) args s 0 0 (fun _ => False)) (F0 m pc ls [.long v]) :=
  W.lret (v := v) hexec hb hr (fun t ht hW => ⟨v, rfl, hp, ht⟩) (fun q h => by cases h) hdg hlocks
theorem ck_vq {post : Unit → Prop} (hexec : p.tables.exec = Jvm.exec) (hb : c.code = cc) (hr : meth.sig.returnType = none) (hlocks : meth.locks = false) (hdg : decode cc pc = .ok (.return_, 1)) (hp : post ()) : W p l e R s m args below meth c s.heap [] 0 0 (MQ below (va_Sv post) args s 0 0 (fun _ => False)) (F0 m pc ls []) :=
  W.vret hexec hb hr (fun t ht hW => ⟨rfl, hp, ht⟩) (fun q h => by cases h) hdg hlocks
end CKR
/-! MY ROWS: the throw of IllegalArgumentException: out of a method, to its caller, into a handler -/
def ck_XC : String → State → State → Prop := fun E st t => E = ck_IAE ∧ st.heap.size ≤ t.heap.size ∧ ∀ q : Nat, q < st.heap.size → t.heap[q]? = st.heap[q]?
def ck_QF : Array Value → State → Outcome → State → Prop := fun _ _ _ _ => False
theorem ck_bad : (vx_atS RX3 148 ck_IAE ["java/lang/RuntimeException", "java/lang/Exception"]).filter (fun w => !goodWord w) = [.declares (Bundle.initS "java/lang/RuntimeException"), .declares (Bundle.initS "java/lang/Exception"), .declares (Bundle.initS Bundle.tN), .castable ck_IAE ck_IAE] := by decide +kernel
theorem ck_ot : ∀ w ∈ Cond.classLink RX3 144 ck_IAE :: Cond.initialized ck_IAE :: vx_atS RX3 148 ck_IAE ["java/lang/RuntimeException", "java/lang/Exception"], vx_ot w = true := by decide +kernel
theorem ck_go {e : Env} {U : State} {f : JFrame} {a : Addr} {x : ExceptionTableEntry} {t : List ExceptionTableEntry} {c : ClassId} {cell : Cell} (hx : covers x f.pc = true) (h0 : x.catchType ≠ 0)
    (hl : U.vm.ClassLinks e.platform f.method.cls x.catchType c) (hcell : U.heap[a]? = some cell) (hobj : ∀ k, cell.vm ≠ .statics k) (hk : ∃ k, U.vm.classes[cell.cls]? = some k) (hc : ∃ k, U.vm.classes[c]? = some k) (hfit : U.vm.assignable cell.cls c = true)
    (Q : Handler → Pre) (E : CtlPost) (d : Bool) (acts : List Action) : wp (findHandler.go f a (x :: t)) Q E e d acts U ↔ Q (.found x.handlerPc) d acts (U.setVm (U.vm.noted f.method.cls x.catchType (.cls c))) := by
  simp only [covers] at hx
  have hal : U.vm.Alike (U.vm.noted f.method.cls x.catchType (.cls c)) := (Vm.Alike.refl U.vm).noted _ _ _
  obtain ⟨k1, hk1, -⟩ := hal.2.2 _ _ hk.choose_spec
  obtain ⟨k2, hk2, -⟩ := hal.2.2 _ _ hc.choose_spec
  have hf : (U.vm.noted f.method.cls x.catchType (.cls c)).assignable cell.cls c = true := by rw [hal.assignable]; exact hfit
  obtain ⟨ha, ht⟩ := (resolveClass_links e.toSetting hl).op (op := VmOp.resolveClass f.method.cls x.catchType) rfl
  simp [findHandler.go, hx, h0, ha, ht, hcell, hobj, hk1, hk2, hf, VmOp.dirties, VmOp.acts]
section CKT
variable {p : Program} {l : Launch} {e : Env} {R : Room} {s : State} {m : MethodId} {args : Array Value} {below : List Frame} {meth : Method} {c : Code} {H : Heap} {locs : List Loc} {cells slots : Nat} {Q : State → Prop}
variable {pc : Nat} {ls : Array Slot} {rest st0 : List Value} {a : Array Value} {cc : ByteArray}
theorem ck_tn {lo is sa : Nat} {text : String} (hl : l.stackTraces = false) (hexec : p.tables.exec = Jvm.exec) (hb : c.code = cc) (hown : s.vm.findClass RX3 = some m.cls) (hE : ck_E lo s) (hk : (Cond.classLink RX3 144 ck_IAE).before args s = true) (hini : (Cond.initialized ck_IAE).before args s = true) (hstr : vk_R RX3 is text sa s)
    (hat : ∀ w ∈ (vx_atS RX3 148 ck_IAE ["java/lang/RuntimeException", "java/lang/Exception"]).filter goodWord, w.before args s = true) (hne : ∀ x ∈ c.exceptionTable.toList, False) (hlocks : meth.locks = false) (hsize : ls.size = c.maxLocals)
    (d0 : decode cc pc = .ok (.new 144, 3)) (d3 : decode cc (pc + 3) = .ok (.dup, 1)) (d4 : decode cc (pc + 4) = .ok (.ldc is, 2)) (d6 : decode cc (pc + 6) = .ok (.invokespecial 148, 3)) (d9 : decode cc (pc + 9) = .ok (.athrow, 1))
    (hRf : 5 < R.frames) (hRl : 82 ≤ R.locals) (hRc : 1 ≤ R.cells) (hRs : 6 ≤ R.slots) : W p l e R s m args below meth c s.heap [] 0 0 (vx_MQ below ck_QF ck_XC args s 1 6 (fun _ => False)) (F0 m pc ls []) := by
  obtain ⟨h0, -, hc, -, -, h4, h5, -⟩ := hE
  have hlow : ∀ q, (fun _ : Nat => False) q → ck_Low lo q := fun _ h => h.elim
  refine vx_throwS (A := fun _ => False) (own := RX3) (cls := ck_IAE) (text := text) (names := ["java/lang/RuntimeException", "java/lang/Exception"]) (sa := sa) hexec hb hl hown (by decide +kernel) (by decide +kernel) hk hini hstr
    (vx_hat hat (B := [.declares (Bundle.initS "java/lang/RuntimeException"), .declares (Bundle.initS "java/lang/Exception"), .declares (Bundle.initS Bundle.tN), .castable ck_IAE ck_IAE]) (by rw [ck_bad]; exact fun _ h => h) (vx_c (hc.2.1.use rfl) (vx_c (hc.2.2.1.use rfl) (vx_c (hc.2.2.2.use rfl) (vx_c (hc.1.use rfl) vx_n))))) ck_ot (h4.narrow hlow) (h5.narrow hlow) va_S.rf hsize d0 d3 d4 d6 d9
    (fun x hx => (hne x hx).elim) hRf (by simpa using hRl) (by omega) (by omega) hlocks (fun t _ h1 h2 => ⟨rfl, h1, h2⟩) (fun z h => by cases h) (Nat.le_refl _) (Nat.le_refl _)
theorem ck_thr (hr : vx_Run p l e R s m args below meth c H locs cells slots 1 6 (F0 m pc ls st0) rest (ck_QF a) ck_XC (fun _ => False))
    (kx : ∀ (ce : Cell) (q9 : Addr) (H1 : Heap), H.size ≤ H1.size → (∀ q : Nat, q < H.size → H1[q]? = H[q]?) → H1[q9]? = some ce → ce.vm = .none → s.vm.findClass ck_IAE = some ce.cls → vx_W p l e R s m args below meth c H1 locs (cells + 1) (slots + 6) Q (F0 m pc ls rest) q9) : W p l e R s m args below meth c H locs cells slots Q (F0 m pc ls st0) := by
  intro T hT X
  rcases hr T hT X with ⟨v, st₀, t, T', L, h0, X', hL, e1, e2, hQ, st⟩ | ⟨q, st₀, t, T', L, E, ce, h0, X', hL, e1, e2, hXC, hce, hcv, hcl, st⟩
  · exact hQ.elim
  · cases ck_nil hL
    rw [List.append_nil] at X'
    obtain ⟨rfl, hz, hk⟩ := hXC
    rw [h0] at hz hk
    obtain ⟨t2, a1, b1⟩ := kx ce q T'.heap (by rw [e1]; exact hz) (fun z h => by rw [e1]; exact hk z h) (by rw [e1]; exact hce) hcv hcl T' rfl X'
    exact ⟨t2, st.trans a1, b1⟩
theorem ck_out {ce : Cell} {q9 : Addr} {H1 : Heap} (hne : ∀ x ∈ c.exceptionTable.toList, False) (hlocks : meth.locks = false) (hz : s.heap.size ≤ H1.size) (hk : ∀ q : Nat, q < s.heap.size → H1[q]? = s.heap[q]?) (hce : H1[q9]? = some ce) (hcv : ce.vm = .none) (hcl : s.vm.findClass ck_IAE = some ce.cls) :
    vx_W p l e R s m args below meth c H1 [] (0 + 1) (0 + 6) (vx_MQ below ck_QF ck_XC args s 1 6 (fun _ => False)) (F0 m pc ls rest) q9 :=
  vx_out (fun x hx => (hne x hx).elim) hlocks hce hcv hcl (fun t ht _ => ⟨rfl, by rw [ht]; exact hz, fun q hq => by rw [ht]; exact hk q hq⟩) (fun z h => by cases h) (Nat.le_refl _) (Nat.le_refl _)
/-- caught by this method's only row -/
theorem ck_catch {own name E : String} {ce : Cell} {q : Addr} (hown : s.vm.findClass own = some m.cls) (x : ExceptionTableEntry) (hsplit : c.exceptionTable.toList = [x]) (hx : covers x pc = true) (h0 : x.catchType ≠ 0)
    (hlink : (Cond.classLink own x.catchType name).before args s = true) (hcast : (Cond.castable E name).before args s = true) (hcell : H[q]? = some ce) (hv : ce.vm = .none) (hcl : s.vm.findClass E = some ce.cls)
    (kk : W p l e R s m args below meth c H locs cells slots Q (F0 m x.handlerPc ls [.ref q])) : vx_W p l e R s m args below meth c H locs cells slots Q (F0 m pc ls rest) q := by
  intro T hT X
  have hpl : e.platform.magicAccessors = ({} : Platform).magicAccessors := by rw [X.admits.platform]
  obtain ⟨c3, c4, hc3, hc4, hasg⟩ := Cond.castable_spec hcast
  cases Option.some.inj (hc3.symm.trans hcl)
  obtain ⟨c5, hc5, hcl5⟩ := Cond.classLink_spec hown hlink e.platform hpl
  cases Option.some.inj (hc4.symm.trans hc5)
  obtain ⟨dk, _, _, kt, hd, _, _, _, _, hkt, _, hopen⟩ := hcl5.here
  have hW' : s.WarmedH (T.vm.noted m.cls x.catchType (.cls c4)) := X.warmed.noted hd hopen (State.rightAt_cls hcl5)
  have hL := X.warmed.classLinks hcl5
  obtain ⟨t, a1, b1⟩ := kk (T.setVm (T.vm.noted m.cls x.catchType (.cls c4))) hT (X.noted hW')
  refine ⟨t, ?_, b1⟩
  have h : At T (F0 m pc ls rest).method c below := X.here
  have hal : T.vm.Alike (T.vm.noted m.cls x.catchType (.cls c4)) := (Vm.Alike.refl T.vm).noted _ _ _
  obtain ⟨k1, hk1, -⟩ := X.warmed.alike.2.2 _ _ (Vm.findClass_spec hcl).choose_spec.1
  obtain ⟨k1', hk1', -⟩ := hal.2.2 _ _ hk1
  obtain ⟨k2, hk2, -⟩ := X.warmed.alike.2.2 _ _ hkt
  obtain ⟨k2', hk2', -⟩ := hal.2.2 _ _ hk2
  have hasg' : (T.vm.noted m.cls x.catchType (.cls c4)).assignable ce.cls c4 = true := by rw [hal.assignable, X.warmed.alike.assignable]; exact hasg
  have hcell' : T.heap[q]? = some ce := by rw [hT]; exact hcell
  have hobj : ∀ k, ce.vm ≠ .statics k := fun k hk => by rw [hv] at hk; cases hk
  have hfind : ∀ (Q9 : Handler → Pre) (E9 : CtlPost) (d9 : Bool) (acts : List Action), wp (findHandler (F0 m pc ls rest) q) Q9 E9 e d9 acts ((T.setTop (F0 m pc ls rest)).pushFrame (.throwing q)) ↔ Q9 (.found x.handlerPc) d9 acts (((T.setTop (F0 m pc ls rest)).pushFrame (.throwing q)).setVm (T.vm.noted m.cls x.catchType (.cls c4))) := by
    intro Q9 E9 d9 acts
    rw [Jvm.W.findHandler_eq (meth := meth) (code := c) X.method' X.code, hsplit]
    exact ck_go (U := (T.setTop (F0 m pc ls rest)).pushFrame (.throwing q)) (t := []) (f := F0 m pc ls rest) hx h0 hL hcell' hobj ⟨k1, hk1⟩ ⟨k2, hk2⟩ (by show T.vm.assignable _ _ = true; rw [X.warmed.alike.assignable]; exact hasg) Q9 E9 d9 acts
  obtain ⟨hgo, hw⟩ := h.throwing q
  refine Steps.head hgo hw ?_
  rw [stepThread_throwing (frames_entered h.top _)]
  have hstep : (stepThrowing e ((T.setTop (F0 m pc ls rest)).pushFrame (.throwing q)) q (.java (F0 m pc ls rest) :: T.frames.tail)).Is ((((T.setTop (F0 m pc ls rest)).pushFrame (.throwing q)).setVm (T.vm.noted m.cls x.catchType (.cls c4))).setFrames (.java (F0 m x.handlerPc ls [.ref q]) :: T.frames.tail)) [] := by
    simp only [stepThrowing, searchFrame, vmDo]
    generalize hr : Sem.go _ e false [] ((T.setTop (F0 m pc ls rest)).pushFrame (.throwing q)) = res
    obtain ⟨as, rfl, ha⟩ := Sem.eq_ok_of hr (a := Handler.found x.handlerPc) (s' := ((T.setTop (F0 m pc ls rest)).pushFrame (.throwing q)).setVm (T.vm.noted m.cls x.catchType (.cls c4))) (acts' := []) (by simp [hfind _ _ _ _])
    exact ⟨rfl, ha⟩
  rw [hstep.1]
  obtain ⟨g₀, hg⟩ := Option.isSome_iff_exists.mp h.top
  obtain ⟨r, hr⟩ := State.topJava?_eq_some.mp hg
  have hr' : (T.setVm (T.vm.noted m.cls x.catchType (.cls c4))).frames = .java g₀ :: r := hr
  rw [State.setTop_of_frames _ hr'] at a1
  have e9 : (((T.setTop (F0 m pc ls rest)).pushFrame (.throwing q)).setVm (T.vm.noted m.cls x.catchType (.cls c4))).setFrames (.java (F0 m x.handlerPc ls [.ref q]) :: T.frames.tail) = (T.setVm (T.vm.noted m.cls x.catchType (.cls c4))).setFrames (.java (F0 m x.handlerPc ls [.ref q]) :: r) := by
    have h1 : ((T.setTop (F0 m pc ls rest)).pushFrame (.throwing q)).setFrames (.java (F0 m x.handlerPc ls [.ref q]) :: T.frames.tail) = T.setFrames (.java (F0 m x.handlerPc ls [.ref q]) :: r) := by
      rw [State.pushFrame, State.setFrames_setFrames, State.setTop_of_frames _ hr, State.setFrames_setFrames, hr]
      rfl
    exact congrArg (fun z : State => z.setVm (T.vm.noted m.cls x.catchType (.cls c4))) h1
  rw [e9]
  exact a1
end CKT
/-! MY ROWS: a new array, its class by the name that the world has -/
section CKN
variable {p : Program} {l : Launch} {e : Env} {R : Room} {s : State} {m : MethodId} {args : Array Value} {below : List Frame} {meth : Method} {c : Code} {H : Heap} {locs : List Loc} {cells slots : Nat} {Q : State → Prop}
variable {pc : Nat} {ls : Array Slot} {rest : List Value} {A : Nat → Prop} {D : va_G} {cl : List vw_C} {tys : List (ClassId × FieldType)} {ws : va_W} {cc : ByteArray}
theorem ck_newa (hexec : p.tables.exec = Jvm.exec) (hb : c.code = cc) {atype : ArrayType} (harr : (Cond.arrayClass (newarray.typeOf atype)).before args s = true) {ty : FieldType} (hty : newarray.typeOf atype = ty) (hnob : ∀ C, ty ≠ .object C) (hK : va_K D cl tys s) (hP : va_P D cl ws H) (hD : va_D A ws) (hS : va_S A s.heap H locs) (hA : ∀ q, s.heap.size ≤ q → A q) (t0 : Nat) {cA : ClassId} (ht : tys[t0]? = some (cA, ty)) {n : Int32} {N' : Nat} {a0 : vp_A} (ha : ∀ cA : ClassId, vp_cell cA a0 = arrV cA N' (fun _ => defaultValue ty)) (hn : ¬ n < 0) (hN : n.toNatClampNeg = N') (hbytes : N' * componentBytes ty ≤ 536870912) (hcells : cells + 1 ≤ R.cells) (hslots : slots + N' ≤ R.slots) (hdg : decode cc pc = .ok (.newarray atype, 2))
    (kk : ∀ (q : Nat) (H1 : Heap), va_P D cl (ws ++ [(q, .inl (cA, a0))]) H1 → va_D A (ws ++ [(q, .inl (cA, a0))]) → va_S A s.heap H1 locs → W p l e R s m args below meth c H1 locs (cells + 1) (slots + N') Q (F0 m (pc + 2) ls (.ref q :: rest))) : W p l e R s m args below meth c H locs cells slots Q (F0 m pc ls (.int n :: rest)) := by
  refine va_newa hexec hb harr hty hK hP hD hS hA ha hn hN hbytes hcells hslots hdg (fun q cB H1 hK1 hP1 hD1 hS1 => ?_)
  have h1 := (hK.2 t0 _ ht).2
  have h2 := (hK1.2 tys.length (cB, ty) (by simp)).2
  have e9 : cB = cA := by
    cases ty with
    | object C => exact absurd rfl (hnob C)
    | _ => exact Option.some.inj (h2.symm.trans h1)
  subst e9
  exact kk q H1 hP1 hD1 hS1
end CKN
end
section
/-! SipHash: the class's and the model's words -/
abbrev ck_V4 : Type := Int64 × Int64 × Int64 × Int64
def ck_rot (w : Int64) (b : Int32) : Int64 := (w <<< (b.toInt64 &&& 63)) ||| (w.toUInt64 >>> ((64 - b).toInt64.toUInt64 &&& Int64.toUInt64 63)).toInt64
def ck_round (v : ck_V4) : ck_V4 :=
  let a0 := v.1 + v.2.1
  let a1 := ck_rot v.2.1 13 ^^^ a0
  let b0 := ck_rot a0 32
  let a2 := v.2.2.1 + v.2.2.2
  let a3 := ck_rot v.2.2.2 16 ^^^ a2
  let c0 := b0 + a3
  let b3 := ck_rot a3 21 ^^^ c0
  let b2 := a2 + a1
  let b1 := ck_rot a1 17 ^^^ b2
  (c0, b1, ck_rot b2 32, b3)
def ck_mix : Nat → ck_V4 → ck_V4
  | 0, v => v
  | n + 1, v => ck_mix n (ck_round v)
def ck_absorb (v : ck_V4) (w : Int64) : ck_V4 :=
  ((ck_mix 2 (v.1, v.2.1, v.2.2.1, v.2.2.2 ^^^ w)).1 ^^^ w, (ck_mix 2 (v.1, v.2.1, v.2.2.1, v.2.2.2 ^^^ w)).2)
def ck_sip0 (k l : Int64) : ck_V4 := (k ^^^ 8317987319222330741, l ^^^ 7237128888997146477, k ^^^ 7816392313619706465, l ^^^ 8387220255154660723)
def ck_sipE (v : ck_V4) : Int64 := (ck_mix 4 (v.1, v.2.1, v.2.2.1 ^^^ 255, v.2.2.2)).1 ^^^ (ck_mix 4 (v.1, v.2.1, v.2.2.1 ^^^ 255, v.2.2.2)).2.1 ^^^ (ck_mix 4 (v.1, v.2.1, v.2.2.1 ^^^ 255, v.2.2.2)).2.2.1 ^^^ (ck_mix 4 (v.1, v.2.1, v.2.2.1 ^^^ 255, v.2.2.2)).2.2.2
def ck_sip (k l m n : Int64) : Int64 := ck_sipE (ck_absorb (ck_absorb (ck_absorb (ck_sip0 k l) m) n) 1152921504606846976)
theorem ck_mixS (n : Nat) (v : ck_V4) : ck_mix (n + 1) v = ck_mix n (ck_round v) := rfl
set_option maxHeartbeats 4000000 in
set_option maxRecDepth 100000 in
theorem c_X2_turnLeft (l : Launch) (dC : Nat → ClassId) (dI : Nat → Nat → Nat) (cI cJ cZ : ClassId) (lo sz : Nat) (w : Int64) (b : Int32) : Met l yX2_turnLeft wsX2_turnLeft ({ frames := 0, cells := 0, slots := 0, locals := 0 } : Room) (va_Pc [.long w, .int b] (ck_P (dC, dI) [(cI, .int), (cJ, .long), (cZ, .boolean)] lo sz [])) (vp_Sl (fun (r : Int64) => r = ck_rot w b)) 0 0 (fun _ => False) := by
  refine Met.ofW (cc := cX2_turnLeft) (maxL := 3) (ret := (some .long)) (by decide) rfl ?_
  intro p e s m args below meth c s₁ B hml hv
  obtain ⟨rfl, hsz, hP, hK, hD0, hE⟩ := hv
  have hx := B.exec
  have hb := B.bytes
  have hr := B.returns
  have hts := atoms_spec (ws := wsX2_turnLeft) B.pre
  have hown : s.vm.findClass RX2 = some m.cls := findClass_of_methodNamed B.named
  have hlocks := B.notSynchronized
  subst hsz
  have hD := hD0.self (sz := s.heap.size)
  have hlo := ck_lo (sz := s.heap.size) hD0 hE.1
  generalize hAe : va_A [] s.heap.size = A at hD hlo
  have hA : ∀ q : Nat, s.heap.size ≤ q → A q := fun q h => by rw [← hAe]; exact Or.inr h
  have hG : ck_G (dC, dI) [(cI, .int), (cJ, .long), (cZ, .boolean)] lo A s := ⟨hK, hE, hA, hlo⟩
  have hS : va_S A s.heap s.heap [] := va_S.rf
  have hP : va_P (dC, dI) vwCl [] s.heap := hP
  have hl := lv_entry ([.long w, .int b]) (n := 3) (Nat.le_of_ble_eq_true rfl)
  rw [lg_entry_eq]
  generalize (lg_sl ([.long w, .int b]) ++ List.replicate (3 - (lg_sl ([.long w, .int b])).length) Slot.unset).toArray = ls at hl ⊢
  have hl : lv_has ls 3 [(0, .long w), (2, .int b)] := hl
  refine lv_lload_n hx hb dX2_turnLeft_0 rfl (lv_at hl 0 rfl) ?_
  refine lv_iload_n hx hb dX2_turnLeft_1 rfl (lv_at hl 1 rfl) ?_
  refine lv_lshl hx hb dX2_turnLeft_2 rfl ?_
  refine lv_lload_n hx hb dX2_turnLeft_3 rfl (lv_at hl 0 rfl) ?_
  refine lv_bipush (v := 64) hx hb dX2_turnLeft_4 (by decide) ?_
  refine lv_iload_n hx hb dX2_turnLeft_6 rfl (lv_at hl 1 rfl) ?_
  refine lv_isub hx hb dX2_turnLeft_7 ?_
  refine lv_lushr hx hb dX2_turnLeft_8 rfl ?_
  refine lv_lor hx hb dX2_turnLeft_9 ?_
  refine ck_lq hx hb hr hlocks dX2_turnLeft_10 ?_
  exact rfl
set_option maxRecDepth 20000 in
theorem k_X2_init_l1 : (.methodLink RX2 1 objectInit : Cond) ∈ wsX2_init := by decide +kernel
set_option maxRecDepth 20000 in
theorem k_X2_init_mObj : (.instanceMethod objectInit : Cond) ∈ wsX2_init := by decide +kernel
set_option maxRecDepth 20000 in
theorem k_X2_init_cObj : (.code objectInit ⟨#[0xb1]⟩ 1 none : Cond) ∈ wsX2_init := by decide +kernel
set_option maxRecDepth 20000 in
theorem k_X2_init_f7 : (.fieldLink RX2 7 "CookieListener$SipHash" "k" "J" : Cond) ∈ wsX2_init := by decide +kernel
set_option maxRecDepth 20000 in
theorem k_X2_init_in2 : ∀ w ∈ u_ws RX2 TX2 6, w ∈ wsX2_init := by decide +kernel
set_option maxRecDepth 20000 in
theorem k_X2_init_f13 : (.fieldLink RX2 13 "CookieListener$SipHash" "l" "J" : Cond) ∈ wsX2_init := by decide +kernel
set_option maxRecDepth 20000 in
theorem k_X2_init_f16 : (.fieldLink RX2 16 "CookieListener$SipHash" "v0" "J" : Cond) ∈ wsX2_init := by decide +kernel
set_option maxRecDepth 20000 in
theorem k_X2_init_f19 : (.fieldLink RX2 19 "CookieListener$SipHash" "v1" "J" : Cond) ∈ wsX2_init := by decide +kernel
set_option maxRecDepth 20000 in
theorem k_X2_init_f22 : (.fieldLink RX2 22 "CookieListener$SipHash" "v2" "J" : Cond) ∈ wsX2_init := by decide +kernel
set_option maxRecDepth 20000 in
theorem k_X2_init_f25 : (.fieldLink RX2 25 "CookieListener$SipHash" "v3" "J" : Cond) ∈ wsX2_init := by decide +kernel
set_option maxHeartbeats 4000000 in
set_option maxRecDepth 100000 in
theorem c_X2_init (l : Launch) (dC : Nat → ClassId) (dI : Nat → Nat → Nat) (cI cJ cZ : ClassId) (lo sz : Nat) (h : Nat) : Met l yX2_init wsX2_init ({ frames := 1, cells := 0, slots := 0, locals := 12 } : Room) (va_Pc [.ref h] (ck_P (dC, dI) [(cI, .int), (cJ, .long), (cZ, .boolean)] lo sz [(h, .inr (2, [.long 0, .long 0, .long 0, .long 0, .long 0, .long 0]))])) (va_Qv (fun (u : Unit) => True) (fun u => ck_B (dC, dI) vwCl (va_A [(h, .inr (2, [.long 0, .long 0, .long 0, .long 0, .long 0, .long 0]))] sz) ((fun u : Unit => ([(h, .inr (2, [.long 0, .long 0, .long 0, .long 0, .long 0, .long 0]))] : va_W)) u)) (va_A [(h, .inr (2, [.long 0, .long 0, .long 0, .long 0, .long 0, .long 0]))] sz)) 0 0 (va_A [(h, .inr (2, [.long 0, .long 0, .long 0, .long 0, .long 0, .long 0]))] sz) := by
  refine Met.ofW (cc := cX2_init) (maxL := 1) (ret := none) (by decide) rfl ?_
  intro p e s m args below meth c s₁ B hml hv
  obtain ⟨rfl, hsz, hP, hK, hD0, hE⟩ := hv
  have hx := B.exec
  have hb := B.bytes
  have hr := B.returns
  have hts := atoms_spec (ws := wsX2_init) B.pre
  have hown : s.vm.findClass RX2 = some m.cls := findClass_of_methodNamed B.named
  have hlocks := B.notSynchronized
  have hin : meth.name = "<init>" := (name_of_methodNamed B.named B.method).1
  subst hsz
  have hD := hD0.self (sz := s.heap.size)
  have hlo := ck_lo (sz := s.heap.size) hD0 hE.1
  generalize hAe : va_A [(h, .inr (2, [.long 0, .long 0, .long 0, .long 0, .long 0, .long 0]))] s.heap.size = A at hD hlo ⊢
  have hA : ∀ q : Nat, s.heap.size ≤ q → A q := fun q h => by rw [← hAe]; exact Or.inr h
  have hG : ck_G (dC, dI) [(cI, .int), (cJ, .long), (cZ, .boolean)] lo A s := ⟨hK, hE, hA, hlo⟩
  have hS : va_S A s.heap s.heap [] := va_S.rf
  have hP : va_P (dC, dI) vwCl [(h, .inr (2, [.long 0, .long 0, .long 0, .long 0, .long 0, .long 0]))] s.heap := hP
  have hl := lv_entry ([.ref h]) (n := 1) (Nat.le_of_ble_eq_true rfl)
  rw [lg_entry_eq]
  generalize (lg_sl ([.ref h]) ++ List.replicate (1 - (lg_sl ([.ref h])).length) Slot.unset).toArray = ls at hl ⊢
  have hl : lv_has ls 1 [(0, .ref h)] := hl
  refine lv_aload_n hx hb dX2_init_0 rfl (lv_at hl 0 rfl) ?_
  refine W.objInit hx hb hown (hts _ k_X2_init_l1) (hts _ k_X2_init_mObj) (hts _ k_X2_init_cObj) rfl (by rw [hml]; exact hl.1) rfl dX2_init_1 (Nat.le_of_ble_eq_true rfl) (Nat.le_of_ble_eq_true rfl) ?_
  refine W.eq (g2 := F0 m 4 ls []) rfl ?_
  refine lv_aload_n hx hb dX2_init_4 rfl (lv_at hl 0 rfl) ?_
  refine lv_lconst (v := 0) hx hb dX2_init_5 (by decide) ?_
  refine va_put (D := (dC, dI)) (ci := 2) (v := .long 0) (ty := .long) (C := RX2) (T := TX2) (N := 6) hx hb hts (k_X2_init_in2) tyX2 tyX2_ok nmX2 hown hK hP hD hS 0 rfl rfl 0 (by decide) (hts _ k_X2_init_f7) (fun _ h9 => h9) rfl (by decide +kernel) rfl rfl (Nat.le_of_ble_eq_true rfl) dX2_init_6 (fun H locs hP hD hS => ?_)
  have hP : va_P (dC, dI) vwCl [(h, .inr (2, [.long 0, .long 0, .long 0, .long 0, .long 0, .long 0]))] H := hP
  have hD : va_D A [(h, .inr (2, [.long 0, .long 0, .long 0, .long 0, .long 0, .long 0]))] := hD
  refine lv_aload_n hx hb dX2_init_9 rfl (lv_at hl 0 rfl) ?_
  refine lv_lconst (v := 0) hx hb dX2_init_10 (by decide) ?_
  refine va_put (D := (dC, dI)) (ci := 2) (v := .long 0) (ty := .long) (C := RX2) (T := TX2) (N := 6) hx hb hts (k_X2_init_in2) tyX2 tyX2_ok nmX2 hown hK hP hD hS 0 rfl rfl 1 (by decide) (hts _ k_X2_init_f13) (fun _ h9 => h9) rfl (by decide +kernel) rfl rfl (Nat.le_of_ble_eq_true rfl) dX2_init_11 (fun H locs hP hD hS => ?_)
  have hP : va_P (dC, dI) vwCl [(h, .inr (2, [.long 0, .long 0, .long 0, .long 0, .long 0, .long 0]))] H := hP
  have hD : va_D A [(h, .inr (2, [.long 0, .long 0, .long 0, .long 0, .long 0, .long 0]))] := hD
  refine lv_aload_n hx hb dX2_init_14 rfl (lv_at hl 0 rfl) ?_
  refine lv_lconst (v := 0) hx hb dX2_init_15 (by decide) ?_
  refine va_put (D := (dC, dI)) (ci := 2) (v := .long 0) (ty := .long) (C := RX2) (T := TX2) (N := 6) hx hb hts (k_X2_init_in2) tyX2 tyX2_ok nmX2 hown hK hP hD hS 0 rfl rfl 2 (by decide) (hts _ k_X2_init_f16) (fun _ h9 => h9) rfl (by decide +kernel) rfl rfl (Nat.le_of_ble_eq_true rfl) dX2_init_16 (fun H locs hP hD hS => ?_)
  have hP : va_P (dC, dI) vwCl [(h, .inr (2, [.long 0, .long 0, .long 0, .long 0, .long 0, .long 0]))] H := hP
  have hD : va_D A [(h, .inr (2, [.long 0, .long 0, .long 0, .long 0, .long 0, .long 0]))] := hD
  refine lv_aload_n hx hb dX2_init_19 rfl (lv_at hl 0 rfl) ?_
  refine lv_lconst (v := 0) hx hb dX2_init_20 (by decide) ?_
  refine va_put (D := (dC, dI)) (ci := 2) (v := .long 0) (ty := .long) (C := RX2) (T := TX2) (N := 6) hx hb hts (k_X2_init_in2) tyX2 tyX2_ok nmX2 hown hK hP hD hS 0 rfl rfl 3 (by decide) (hts _ k_X2_init_f19) (fun _ h9 => h9) rfl (by decide +kernel) rfl rfl (Nat.le_of_ble_eq_true rfl) dX2_init_21 (fun H locs hP hD hS => ?_)
  have hP : va_P (dC, dI) vwCl [(h, .inr (2, [.long 0, .long 0, .long 0, .long 0, .long 0, .long 0]))] H := hP
  have hD : va_D A [(h, .inr (2, [.long 0, .long 0, .long 0, .long 0, .long 0, .long 0]))] := hD
  refine lv_aload_n hx hb dX2_init_24 rfl (lv_at hl 0 rfl) ?_
  refine lv_lconst (v := 0) hx hb dX2_init_25 (by decide) ?_
  refine va_put (D := (dC, dI)) (ci := 2) (v := .long 0) (ty := .long) (C := RX2) (T := TX2) (N := 6) hx hb hts (k_X2_init_in2) tyX2 tyX2_ok nmX2 hown hK hP hD hS 0 rfl rfl 4 (by decide) (hts _ k_X2_init_f22) (fun _ h9 => h9) rfl (by decide +kernel) rfl rfl (Nat.le_of_ble_eq_true rfl) dX2_init_26 (fun H locs hP hD hS => ?_)
  have hP : va_P (dC, dI) vwCl [(h, .inr (2, [.long 0, .long 0, .long 0, .long 0, .long 0, .long 0]))] H := hP
  have hD : va_D A [(h, .inr (2, [.long 0, .long 0, .long 0, .long 0, .long 0, .long 0]))] := hD
  refine lv_aload_n hx hb dX2_init_29 rfl (lv_at hl 0 rfl) ?_
  refine lv_lconst (v := 0) hx hb dX2_init_30 (by decide) ?_
  refine va_put (D := (dC, dI)) (ci := 2) (v := .long 0) (ty := .long) (C := RX2) (T := TX2) (N := 6) hx hb hts (k_X2_init_in2) tyX2 tyX2_ok nmX2 hown hK hP hD hS 0 rfl rfl 5 (by decide) (hts _ k_X2_init_f25) (fun _ h9 => h9) rfl (by decide +kernel) rfl rfl (Nat.le_of_ble_eq_true rfl) dX2_init_31 (fun H locs hP hD hS => ?_)
  have hP : va_P (dC, dI) vwCl [(h, .inr (2, [.long 0, .long 0, .long 0, .long 0, .long 0, .long 0]))] H := hP
  have hD : va_D A [(h, .inr (2, [.long 0, .long 0, .long 0, .long 0, .long 0, .long 0]))] := hD
  subst_vars
  refine ck_vr hx hb hr hlocks (Nat.le_of_ble_eq_true rfl) (Nat.le_of_ble_eq_true rfl) dX2_init_34 () hP hD hS ?_
  exact trivial
set_option maxRecDepth 20000 in
theorem k_X2_useKey_f7 : (.fieldLink RX2 7 "CookieListener$SipHash" "k" "J" : Cond) ∈ wsX2_useKey := by decide +kernel
set_option maxRecDepth 20000 in
theorem k_X2_useKey_in2 : ∀ w ∈ u_ws RX2 TX2 6, w ∈ wsX2_useKey := by decide +kernel
set_option maxRecDepth 20000 in
theorem k_X2_useKey_f13 : (.fieldLink RX2 13 "CookieListener$SipHash" "l" "J" : Cond) ∈ wsX2_useKey := by decide +kernel
set_option maxHeartbeats 4000000 in
set_option maxRecDepth 100000 in
theorem c_X2_useKey (l : Launch) (dC : Nat → ClassId) (dI : Nat → Nat → Nat) (cI cJ cZ : ClassId) (lo sz : Nat) (h : Nat) (k l0 v0 v1 v2 v3 k1 l1 : Int64) : Met l yX2_useKey wsX2_useKey ({ frames := 0, cells := 0, slots := 0, locals := 0 } : Room) (va_Pc [.ref h, .long k1, .long l1] (ck_P (dC, dI) [(cI, .int), (cJ, .long), (cZ, .boolean)] lo sz [(h, .inr (2, [.long k, .long l0, .long v0, .long v1, .long v2, .long v3]))])) (va_Qv (fun (u : Unit) => True) (fun u => ck_B (dC, dI) vwCl (va_A [(h, .inr (2, [.long k, .long l0, .long v0, .long v1, .long v2, .long v3]))] sz) ((fun u : Unit => ([(h, .inr (2, [.long k1, .long l1, .long v0, .long v1, .long v2, .long v3]))] : va_W)) u)) (va_A [(h, .inr (2, [.long k, .long l0, .long v0, .long v1, .long v2, .long v3]))] sz)) 0 0 (va_A [(h, .inr (2, [.long k, .long l0, .long v0, .long v1, .long v2, .long v3]))] sz) := by
  refine Met.ofW (cc := cX2_useKey) (maxL := 5) (ret := none) (by decide) rfl ?_
  intro p e s m args below meth c s₁ B hml hv
  obtain ⟨rfl, hsz, hP, hK, hD0, hE⟩ := hv
  have hx := B.exec
  have hb := B.bytes
  have hr := B.returns
  have hts := atoms_spec (ws := wsX2_useKey) B.pre
  have hown : s.vm.findClass RX2 = some m.cls := findClass_of_methodNamed B.named
  have hlocks := B.notSynchronized
  subst hsz
  have hD := hD0.self (sz := s.heap.size)
  have hlo := ck_lo (sz := s.heap.size) hD0 hE.1
  generalize hAe : va_A [(h, .inr (2, [.long k, .long l0, .long v0, .long v1, .long v2, .long v3]))] s.heap.size = A at hD hlo ⊢
  have hA : ∀ q : Nat, s.heap.size ≤ q → A q := fun q h => by rw [← hAe]; exact Or.inr h
  have hG : ck_G (dC, dI) [(cI, .int), (cJ, .long), (cZ, .boolean)] lo A s := ⟨hK, hE, hA, hlo⟩
  have hS : va_S A s.heap s.heap [] := va_S.rf
  have hP : va_P (dC, dI) vwCl [(h, .inr (2, [.long k, .long l0, .long v0, .long v1, .long v2, .long v3]))] s.heap := hP
  have hl := lv_entry ([.ref h, .long k1, .long l1]) (n := 5) (Nat.le_of_ble_eq_true rfl)
  rw [lg_entry_eq]
  generalize (lg_sl ([.ref h, .long k1, .long l1]) ++ List.replicate (5 - (lg_sl ([.ref h, .long k1, .long l1])).length) Slot.unset).toArray = ls at hl ⊢
  have hl : lv_has ls 5 [(0, .ref h), (1, .long k1), (3, .long l1)] := hl
  refine lv_aload_n hx hb dX2_useKey_0 rfl (lv_at hl 0 rfl) ?_
  refine lv_lload_n hx hb dX2_useKey_1 rfl (lv_at hl 1 rfl) ?_
  refine va_put (D := (dC, dI)) (ci := 2) (v := .long k1) (ty := .long) (C := RX2) (T := TX2) (N := 6) hx hb hts (k_X2_useKey_in2) tyX2 tyX2_ok nmX2 hown hK hP hD hS 0 rfl rfl 0 (by decide) (hts _ k_X2_useKey_f7) (fun _ h9 => h9) rfl (by decide +kernel) rfl rfl (Nat.le_of_ble_eq_true rfl) dX2_useKey_2 (fun H locs hP hD hS => ?_)
  have hP : va_P (dC, dI) vwCl [(h, .inr (2, [.long k1, .long l0, .long v0, .long v1, .long v2, .long v3]))] H := hP
  have hD : va_D A [(h, .inr (2, [.long k1, .long l0, .long v0, .long v1, .long v2, .long v3]))] := hD
  refine lv_aload_n hx hb dX2_useKey_5 rfl (lv_at hl 0 rfl) ?_
  refine lv_lload_n hx hb dX2_useKey_6 rfl (lv_at hl 2 rfl) ?_
  refine va_put (D := (dC, dI)) (ci := 2) (v := .long l1) (ty := .long) (C := RX2) (T := TX2) (N := 6) hx hb hts (k_X2_useKey_in2) tyX2 tyX2_ok nmX2 hown hK hP hD hS 0 rfl rfl 1 (by decide) (hts _ k_X2_useKey_f13) (fun _ h9 => h9) rfl (by decide +kernel) rfl rfl (Nat.le_of_ble_eq_true rfl) dX2_useKey_7 (fun H locs hP hD hS => ?_)
  have hP : va_P (dC, dI) vwCl [(h, .inr (2, [.long k1, .long l1, .long v0, .long v1, .long v2, .long v3]))] H := hP
  have hD : va_D A [(h, .inr (2, [.long k1, .long l1, .long v0, .long v1, .long v2, .long v3]))] := hD
  subst_vars
  refine ck_vr hx hb hr hlocks (Nat.le_of_ble_eq_true rfl) (Nat.le_of_ble_eq_true rfl) dX2_useKey_10 () hP hD hS ?_
  exact trivial
set_option maxRecDepth 20000 in
theorem k_X2_mix_f16 : (.fieldLink RX2 16 "CookieListener$SipHash" "v0" "J" : Cond) ∈ wsX2_mix := by decide +kernel
set_option maxRecDepth 20000 in
theorem k_X2_mix_in2 : ∀ w ∈ u_ws RX2 TX2 6, w ∈ wsX2_mix := by decide +kernel
set_option maxRecDepth 20000 in
theorem k_X2_mix_f19 : (.fieldLink RX2 19 "CookieListener$SipHash" "v1" "J" : Cond) ∈ wsX2_mix := by decide +kernel
set_option maxRecDepth 20000 in
theorem k_X2_mix_f22 : (.fieldLink RX2 22 "CookieListener$SipHash" "v2" "J" : Cond) ∈ wsX2_mix := by decide +kernel
set_option maxRecDepth 20000 in
theorem k_X2_mix_f25 : (.fieldLink RX2 25 "CookieListener$SipHash" "v3" "J" : Cond) ∈ wsX2_mix := by decide +kernel
set_option maxHeartbeats 4000000 in
set_option maxRecDepth 100000 in
/-- mix(j): j rounds -/
theorem c_X2_mix (l : Launch) (dC : Nat → ClassId) (dI : Nat → Nat → Nat) (cI cJ cZ : ClassId) (lo sz : Nat) (h : Nat) (k l0 v0 v1 v2 v3 : Int64) (j : Nat) (hj : j < 1000) : Met l yX2_mix wsX2_mix ({ frames := 1, cells := 0, slots := 0, locals := 22 } : Room) (va_Pc [.ref h, .int (nI j)] (ck_P (dC, dI) [(cI, .int), (cJ, .long), (cZ, .boolean)] lo sz [(h, .inr (2, [.long k, .long l0, .long v0, .long v1, .long v2, .long v3]))])) (va_Qv (fun (u : Int64 × Int64 × Int64 × Int64) => (u.1, u.2.1, u.2.2.1, u.2.2.2) = ck_mix j (v0, v1, v2, v3)) (fun u => ck_B (dC, dI) vwCl (va_A [(h, .inr (2, [.long k, .long l0, .long v0, .long v1, .long v2, .long v3]))] sz) ((fun u : Int64 × Int64 × Int64 × Int64 => ([(h, .inr (2, [.long k, .long l0, .long u.1, .long u.2.1, .long u.2.2.1, .long u.2.2.2]))] : va_W)) u)) (va_A [(h, .inr (2, [.long k, .long l0, .long v0, .long v1, .long v2, .long v3]))] sz)) 0 0 (va_A [(h, .inr (2, [.long k, .long l0, .long v0, .long v1, .long v2, .long v3]))] sz) := by
  refine Met.ofW (cc := cX2_mix) (maxL := 3) (ret := none) (by decide) rfl ?_
  intro p e s m args below meth c s₁ B hml hv
  obtain ⟨rfl, hsz, hP, hK, hD0, hE⟩ := hv
  have hx := B.exec
  have hb := B.bytes
  have hr := B.returns
  have hts := atoms_spec (ws := wsX2_mix) B.pre
  have hown : s.vm.findClass RX2 = some m.cls := findClass_of_methodNamed B.named
  have hlocks := B.notSynchronized
  subst hsz
  have hD := hD0.self (sz := s.heap.size)
  have hlo := ck_lo (sz := s.heap.size) hD0 hE.1
  generalize hAe : va_A [(h, .inr (2, [.long k, .long l0, .long v0, .long v1, .long v2, .long v3]))] s.heap.size = A at hD hlo ⊢
  have hA : ∀ q : Nat, s.heap.size ≤ q → A q := fun q h => by rw [← hAe]; exact Or.inr h
  have hG : ck_G (dC, dI) [(cI, .int), (cJ, .long), (cZ, .boolean)] lo A s := ⟨hK, hE, hA, hlo⟩
  have hS : va_S A s.heap s.heap [] := va_S.rf
  have hP : va_P (dC, dI) vwCl [(h, .inr (2, [.long k, .long l0, .long v0, .long v1, .long v2, .long v3]))] s.heap := hP
  have hl := lv_entry ([.ref h, .int (nI j)]) (n := 3) (Nat.le_of_ble_eq_true rfl)
  rw [lg_entry_eq]
  generalize (lg_sl ([.ref h, .int (nI j)]) ++ List.replicate (3 - (lg_sl ([.ref h, .int (nI j)])).length) Slot.unset).toArray = ls at hl ⊢
  have hl : lv_has ls 3 [(0, .ref h), (1, .int (nI j))] := hl
  refine lv_iconst (v := nI 0) hx hb dX2_mix_0 (by decide) ?_
  refine lv_istore_n (lv' := [(2, .int (nI 0)), (0, .ref h), (1, .int (nI j))]) hx hb dX2_mix_1 rfl hl (by decide) rfl (fun ls hl => ?_)
  have hloop : ∀ (fu : Nat) (i : Nat) (y0 : Int64) (y1 : Int64) (y2 : Int64) (y3 : Int64), (i ≤ j) → (j + 1 ≤ i + fu) → (ck_mix (j - i) (y0, y1, y2, y3) = ck_mix j (v0, v1, v2, v3)) → ∀ (H : Heap) (locs : List Loc) (ls : Array Slot), va_P (dC, dI) vwCl [(h, .inr (2, [.long k, .long l0, .long y0, .long y1, .long y2, .long y3]))] H → va_D A [(h, .inr (2, [.long k, .long l0, .long y0, .long y1, .long y2, .long y3]))] → va_S A s.heap H locs → lv_has ls 3 [(0, .ref h), (1, .int (nI j)), (2, .int (nI i))] → W p l e (headSpec wsX2_mix ({ frames := 1, cells := 0, slots := 0, locals := 22 } : Room)).room s m (([.ref h, .int (nI j)] : List Value).toArray) below meth c H locs 0 0 (MQ below (va_Qv (fun (u : Int64 × Int64 × Int64 × Int64) => (u.1, u.2.1, u.2.2.1, u.2.2.2) = ck_mix j (v0, v1, v2, v3)) (fun u => ck_B (dC, dI) vwCl A ((fun u : Int64 × Int64 × Int64 × Int64 => ([(h, .inr (2, [.long k, .long l0, .long u.1, .long u.2.1, .long u.2.2.1, .long u.2.2.2]))] : va_W)) u)) A) (([.ref h, .int (nI j)] : List Value).toArray) s 0 0 A) (F0 m 2 ls []) := by
    intro fu
    induction fu with
    | zero =>
      intro i y0 y1 y2 y3 hi hn hv
      exfalso
      omega
    | succ fu ih =>
      intro i y0 y1 y2 y3 hi hn hv H locs ls hP hD hS hl
      refine lv_iload_n hx hb dX2_mix_2 rfl (lv_at hl 2 rfl) ?_
      refine lv_iload_n hx hb dX2_mix_3 rfl (lv_at hl 1 rfl) ?_
      refine lv_icmp_ge (tgt := 163) hx hb dX2_mix_4 (by decide) (fun c_4 => ?_) (fun c_4 => ?_)
      · skip
        have c_4 : j ≤ i := (nI_leI (by omega) (by omega)).mp c_4
        refine ck_vr hx hb hr hlocks (Nat.le_of_ble_eq_true rfl) (Nat.le_of_ble_eq_true rfl) dX2_mix_163 (y0, y1, y2, y3) hP hD hS ?_
        have e9 : j - i = 0 := by omega
        rw [e9] at hv
        exact hv
      · skip
        have c_4 : ¬ (j ≤ i) := fun z => c_4 ((nI_leI (by omega) (by omega)).mpr z)
        refine lv_aload_n hx hb dX2_mix_7 rfl (lv_at hl 0 rfl) ?_
        refine lv_dup hx hb dX2_mix_8 rfl ?_
        refine va_get (D := (dC, dI)) (ci := 2) (v := .long y0) (C := RX2) (T := TX2) (N := 6) hx hb hts (k_X2_mix_in2) hown hK hP 0 rfl rfl 2 (by decide) (hts _ k_X2_mix_f16) (fun _ h9 => h9) rfl dX2_mix_9 ?_
        refine lv_aload_n hx hb dX2_mix_12 rfl (lv_at hl 0 rfl) ?_
        refine va_get (D := (dC, dI)) (ci := 2) (v := .long y1) (C := RX2) (T := TX2) (N := 6) hx hb hts (k_X2_mix_in2) hown hK hP 0 rfl rfl 3 (by decide) (hts _ k_X2_mix_f19) (fun _ h9 => h9) rfl dX2_mix_13 ?_
        refine lv_ladd hx hb dX2_mix_16 ?_
        refine lv_topl (fun x_1 ex_1 => ?_)
        refine va_put (D := (dC, dI)) (ci := 2) (v := .long x_1) (ty := .long) (C := RX2) (T := TX2) (N := 6) hx hb hts (k_X2_mix_in2) tyX2 tyX2_ok nmX2 hown hK hP hD hS 0 rfl rfl 2 (by decide) (hts _ k_X2_mix_f16) (fun _ h9 => h9) rfl (by decide +kernel) rfl rfl (Nat.le_of_ble_eq_true rfl) dX2_mix_17 (fun H locs hP hD hS => ?_)
        have hP : va_P (dC, dI) vwCl [(h, .inr (2, [.long k, .long l0, .long x_1, .long y1, .long y2, .long y3]))] H := hP
        have hD : va_D A [(h, .inr (2, [.long k, .long l0, .long x_1, .long y1, .long y2, .long y3]))] := hD
        refine lv_aload_n hx hb dX2_mix_20 rfl (lv_at hl 0 rfl) ?_
        refine lv_aload_n hx hb dX2_mix_21 rfl (lv_at hl 0 rfl) ?_
        refine va_get (D := (dC, dI)) (ci := 2) (v := .long y1) (C := RX2) (T := TX2) (N := 6) hx hb hts (k_X2_mix_in2) hown hK hP 0 rfl rfl 3 (by decide) (hts _ k_X2_mix_f19) (fun _ h9 => h9) rfl dX2_mix_22 ?_
        refine lv_bipush (v := 13) hx hb dX2_mix_25 (by decide) ?_
        refine ck_rl (va_runS (As := [.long y1, .int 13]) (rest := [.ref h]) ⟨hx, hb, hml, hown, hts⟩ (c_X2_turnLeft l dC dI cI cJ cZ lo _ y1 13) (va_cwS 2 hts gX2_mix_X2_turnLeft rfl rfl rfl (by decide +kernel) ⟨(Nat.le_of_ble_eq_true rfl), (Nat.le_of_ble_eq_true rfl)⟩) ⟨ck_blind, (ck_pre hG hP hD hS [] rfl (by decide) _)⟩ rfl rfl hl.1 rfl (lv_room (Nat.le_of_ble_eq_true rfl)) dX2_mix_27 ⟨(Nat.le_of_ble_eq_true rfl), (Nat.le_of_ble_eq_true rfl)⟩) (fun r_2 hw_2 => ?_)
        have hw_2 : r_2 = ck_rot y1 13 := hw_2
        subst hw_2
        refine lv_aload_n hx hb dX2_mix_30 rfl (lv_at hl 0 rfl) ?_
        refine va_get (D := (dC, dI)) (ci := 2) (v := .long x_1) (C := RX2) (T := TX2) (N := 6) hx hb hts (k_X2_mix_in2) hown hK hP 0 rfl rfl 2 (by decide) (hts _ k_X2_mix_f16) (fun _ h9 => h9) rfl dX2_mix_31 ?_
        refine lv_lxor hx hb dX2_mix_34 ?_
        refine lv_topl (fun x_3 ex_3 => ?_)
        refine va_put (D := (dC, dI)) (ci := 2) (v := .long x_3) (ty := .long) (C := RX2) (T := TX2) (N := 6) hx hb hts (k_X2_mix_in2) tyX2 tyX2_ok nmX2 hown hK hP hD hS 0 rfl rfl 3 (by decide) (hts _ k_X2_mix_f19) (fun _ h9 => h9) rfl (by decide +kernel) rfl rfl (Nat.le_of_ble_eq_true rfl) dX2_mix_35 (fun H locs hP hD hS => ?_)
        have hP : va_P (dC, dI) vwCl [(h, .inr (2, [.long k, .long l0, .long x_1, .long x_3, .long y2, .long y3]))] H := hP
        have hD : va_D A [(h, .inr (2, [.long k, .long l0, .long x_1, .long x_3, .long y2, .long y3]))] := hD
        refine lv_aload_n hx hb dX2_mix_38 rfl (lv_at hl 0 rfl) ?_
        refine lv_aload_n hx hb dX2_mix_39 rfl (lv_at hl 0 rfl) ?_
        refine va_get (D := (dC, dI)) (ci := 2) (v := .long x_1) (C := RX2) (T := TX2) (N := 6) hx hb hts (k_X2_mix_in2) hown hK hP 0 rfl rfl 2 (by decide) (hts _ k_X2_mix_f16) (fun _ h9 => h9) rfl dX2_mix_40 ?_
        refine lv_bipush (v := 32) hx hb dX2_mix_43 (by decide) ?_
        refine ck_rl (va_runS (As := [.long x_1, .int 32]) (rest := [.ref h]) ⟨hx, hb, hml, hown, hts⟩ (c_X2_turnLeft l dC dI cI cJ cZ lo _ x_1 32) (va_cwS 2 hts gX2_mix_X2_turnLeft rfl rfl rfl (by decide +kernel) ⟨(Nat.le_of_ble_eq_true rfl), (Nat.le_of_ble_eq_true rfl)⟩) ⟨ck_blind, (ck_pre hG hP hD hS [] rfl (by decide) _)⟩ rfl rfl hl.1 rfl (lv_room (Nat.le_of_ble_eq_true rfl)) dX2_mix_45 ⟨(Nat.le_of_ble_eq_true rfl), (Nat.le_of_ble_eq_true rfl)⟩) (fun r_4 hw_4 => ?_)
        have hw_4 : r_4 = ck_rot x_1 32 := hw_4
        subst hw_4
        refine lv_topl (fun x_5 ex_5 => ?_)
        refine va_put (D := (dC, dI)) (ci := 2) (v := .long x_5) (ty := .long) (C := RX2) (T := TX2) (N := 6) hx hb hts (k_X2_mix_in2) tyX2 tyX2_ok nmX2 hown hK hP hD hS 0 rfl rfl 2 (by decide) (hts _ k_X2_mix_f16) (fun _ h9 => h9) rfl (by decide +kernel) rfl rfl (Nat.le_of_ble_eq_true rfl) dX2_mix_48 (fun H locs hP hD hS => ?_)
        have hP : va_P (dC, dI) vwCl [(h, .inr (2, [.long k, .long l0, .long x_5, .long x_3, .long y2, .long y3]))] H := hP
        have hD : va_D A [(h, .inr (2, [.long k, .long l0, .long x_5, .long x_3, .long y2, .long y3]))] := hD
        refine lv_aload_n hx hb dX2_mix_51 rfl (lv_at hl 0 rfl) ?_
        refine lv_dup hx hb dX2_mix_52 rfl ?_
        refine va_get (D := (dC, dI)) (ci := 2) (v := .long y2) (C := RX2) (T := TX2) (N := 6) hx hb hts (k_X2_mix_in2) hown hK hP 0 rfl rfl 4 (by decide) (hts _ k_X2_mix_f22) (fun _ h9 => h9) rfl dX2_mix_53 ?_
        refine lv_aload_n hx hb dX2_mix_56 rfl (lv_at hl 0 rfl) ?_
        refine va_get (D := (dC, dI)) (ci := 2) (v := .long y3) (C := RX2) (T := TX2) (N := 6) hx hb hts (k_X2_mix_in2) hown hK hP 0 rfl rfl 5 (by decide) (hts _ k_X2_mix_f25) (fun _ h9 => h9) rfl dX2_mix_57 ?_
        refine lv_ladd hx hb dX2_mix_60 ?_
        refine lv_topl (fun x_6 ex_6 => ?_)
        refine va_put (D := (dC, dI)) (ci := 2) (v := .long x_6) (ty := .long) (C := RX2) (T := TX2) (N := 6) hx hb hts (k_X2_mix_in2) tyX2 tyX2_ok nmX2 hown hK hP hD hS 0 rfl rfl 4 (by decide) (hts _ k_X2_mix_f22) (fun _ h9 => h9) rfl (by decide +kernel) rfl rfl (Nat.le_of_ble_eq_true rfl) dX2_mix_61 (fun H locs hP hD hS => ?_)
        have hP : va_P (dC, dI) vwCl [(h, .inr (2, [.long k, .long l0, .long x_5, .long x_3, .long x_6, .long y3]))] H := hP
        have hD : va_D A [(h, .inr (2, [.long k, .long l0, .long x_5, .long x_3, .long x_6, .long y3]))] := hD
        refine lv_aload_n hx hb dX2_mix_64 rfl (lv_at hl 0 rfl) ?_
        refine lv_aload_n hx hb dX2_mix_65 rfl (lv_at hl 0 rfl) ?_
        refine va_get (D := (dC, dI)) (ci := 2) (v := .long y3) (C := RX2) (T := TX2) (N := 6) hx hb hts (k_X2_mix_in2) hown hK hP 0 rfl rfl 5 (by decide) (hts _ k_X2_mix_f25) (fun _ h9 => h9) rfl dX2_mix_66 ?_
        refine lv_bipush (v := 16) hx hb dX2_mix_69 (by decide) ?_
        refine ck_rl (va_runS (As := [.long y3, .int 16]) (rest := [.ref h]) ⟨hx, hb, hml, hown, hts⟩ (c_X2_turnLeft l dC dI cI cJ cZ lo _ y3 16) (va_cwS 2 hts gX2_mix_X2_turnLeft rfl rfl rfl (by decide +kernel) ⟨(Nat.le_of_ble_eq_true rfl), (Nat.le_of_ble_eq_true rfl)⟩) ⟨ck_blind, (ck_pre hG hP hD hS [] rfl (by decide) _)⟩ rfl rfl hl.1 rfl (lv_room (Nat.le_of_ble_eq_true rfl)) dX2_mix_71 ⟨(Nat.le_of_ble_eq_true rfl), (Nat.le_of_ble_eq_true rfl)⟩) (fun r_7 hw_7 => ?_)
        have hw_7 : r_7 = ck_rot y3 16 := hw_7
        subst hw_7
        refine lv_aload_n hx hb dX2_mix_74 rfl (lv_at hl 0 rfl) ?_
        refine va_get (D := (dC, dI)) (ci := 2) (v := .long x_6) (C := RX2) (T := TX2) (N := 6) hx hb hts (k_X2_mix_in2) hown hK hP 0 rfl rfl 4 (by decide) (hts _ k_X2_mix_f22) (fun _ h9 => h9) rfl dX2_mix_75 ?_
        refine lv_lxor hx hb dX2_mix_78 ?_
        refine lv_topl (fun x_8 ex_8 => ?_)
        refine va_put (D := (dC, dI)) (ci := 2) (v := .long x_8) (ty := .long) (C := RX2) (T := TX2) (N := 6) hx hb hts (k_X2_mix_in2) tyX2 tyX2_ok nmX2 hown hK hP hD hS 0 rfl rfl 5 (by decide) (hts _ k_X2_mix_f25) (fun _ h9 => h9) rfl (by decide +kernel) rfl rfl (Nat.le_of_ble_eq_true rfl) dX2_mix_79 (fun H locs hP hD hS => ?_)
        have hP : va_P (dC, dI) vwCl [(h, .inr (2, [.long k, .long l0, .long x_5, .long x_3, .long x_6, .long x_8]))] H := hP
        have hD : va_D A [(h, .inr (2, [.long k, .long l0, .long x_5, .long x_3, .long x_6, .long x_8]))] := hD
        refine lv_aload_n hx hb dX2_mix_82 rfl (lv_at hl 0 rfl) ?_
        refine lv_dup hx hb dX2_mix_83 rfl ?_
        refine va_get (D := (dC, dI)) (ci := 2) (v := .long x_5) (C := RX2) (T := TX2) (N := 6) hx hb hts (k_X2_mix_in2) hown hK hP 0 rfl rfl 2 (by decide) (hts _ k_X2_mix_f16) (fun _ h9 => h9) rfl dX2_mix_84 ?_
        refine lv_aload_n hx hb dX2_mix_87 rfl (lv_at hl 0 rfl) ?_
        refine va_get (D := (dC, dI)) (ci := 2) (v := .long x_8) (C := RX2) (T := TX2) (N := 6) hx hb hts (k_X2_mix_in2) hown hK hP 0 rfl rfl 5 (by decide) (hts _ k_X2_mix_f25) (fun _ h9 => h9) rfl dX2_mix_88 ?_
        refine lv_ladd hx hb dX2_mix_91 ?_
        refine lv_topl (fun x_9 ex_9 => ?_)
        refine va_put (D := (dC, dI)) (ci := 2) (v := .long x_9) (ty := .long) (C := RX2) (T := TX2) (N := 6) hx hb hts (k_X2_mix_in2) tyX2 tyX2_ok nmX2 hown hK hP hD hS 0 rfl rfl 2 (by decide) (hts _ k_X2_mix_f16) (fun _ h9 => h9) rfl (by decide +kernel) rfl rfl (Nat.le_of_ble_eq_true rfl) dX2_mix_92 (fun H locs hP hD hS => ?_)
        have hP : va_P (dC, dI) vwCl [(h, .inr (2, [.long k, .long l0, .long x_9, .long x_3, .long x_6, .long x_8]))] H := hP
        have hD : va_D A [(h, .inr (2, [.long k, .long l0, .long x_9, .long x_3, .long x_6, .long x_8]))] := hD
        refine lv_aload_n hx hb dX2_mix_95 rfl (lv_at hl 0 rfl) ?_
        refine lv_aload_n hx hb dX2_mix_96 rfl (lv_at hl 0 rfl) ?_
        refine va_get (D := (dC, dI)) (ci := 2) (v := .long x_8) (C := RX2) (T := TX2) (N := 6) hx hb hts (k_X2_mix_in2) hown hK hP 0 rfl rfl 5 (by decide) (hts _ k_X2_mix_f25) (fun _ h9 => h9) rfl dX2_mix_97 ?_
        refine lv_bipush (v := 21) hx hb dX2_mix_100 (by decide) ?_
        refine ck_rl (va_runS (As := [.long x_8, .int 21]) (rest := [.ref h]) ⟨hx, hb, hml, hown, hts⟩ (c_X2_turnLeft l dC dI cI cJ cZ lo _ x_8 21) (va_cwS 2 hts gX2_mix_X2_turnLeft rfl rfl rfl (by decide +kernel) ⟨(Nat.le_of_ble_eq_true rfl), (Nat.le_of_ble_eq_true rfl)⟩) ⟨ck_blind, (ck_pre hG hP hD hS [] rfl (by decide) _)⟩ rfl rfl hl.1 rfl (lv_room (Nat.le_of_ble_eq_true rfl)) dX2_mix_102 ⟨(Nat.le_of_ble_eq_true rfl), (Nat.le_of_ble_eq_true rfl)⟩) (fun r_10 hw_10 => ?_)
        have hw_10 : r_10 = ck_rot x_8 21 := hw_10
        subst hw_10
        refine lv_aload_n hx hb dX2_mix_105 rfl (lv_at hl 0 rfl) ?_
        refine va_get (D := (dC, dI)) (ci := 2) (v := .long x_9) (C := RX2) (T := TX2) (N := 6) hx hb hts (k_X2_mix_in2) hown hK hP 0 rfl rfl 2 (by decide) (hts _ k_X2_mix_f16) (fun _ h9 => h9) rfl dX2_mix_106 ?_
        refine lv_lxor hx hb dX2_mix_109 ?_
        refine lv_topl (fun x_11 ex_11 => ?_)
        refine va_put (D := (dC, dI)) (ci := 2) (v := .long x_11) (ty := .long) (C := RX2) (T := TX2) (N := 6) hx hb hts (k_X2_mix_in2) tyX2 tyX2_ok nmX2 hown hK hP hD hS 0 rfl rfl 5 (by decide) (hts _ k_X2_mix_f25) (fun _ h9 => h9) rfl (by decide +kernel) rfl rfl (Nat.le_of_ble_eq_true rfl) dX2_mix_110 (fun H locs hP hD hS => ?_)
        have hP : va_P (dC, dI) vwCl [(h, .inr (2, [.long k, .long l0, .long x_9, .long x_3, .long x_6, .long x_11]))] H := hP
        have hD : va_D A [(h, .inr (2, [.long k, .long l0, .long x_9, .long x_3, .long x_6, .long x_11]))] := hD
        refine lv_aload_n hx hb dX2_mix_113 rfl (lv_at hl 0 rfl) ?_
        refine lv_dup hx hb dX2_mix_114 rfl ?_
        refine va_get (D := (dC, dI)) (ci := 2) (v := .long x_6) (C := RX2) (T := TX2) (N := 6) hx hb hts (k_X2_mix_in2) hown hK hP 0 rfl rfl 4 (by decide) (hts _ k_X2_mix_f22) (fun _ h9 => h9) rfl dX2_mix_115 ?_
        refine lv_aload_n hx hb dX2_mix_118 rfl (lv_at hl 0 rfl) ?_
        refine va_get (D := (dC, dI)) (ci := 2) (v := .long x_3) (C := RX2) (T := TX2) (N := 6) hx hb hts (k_X2_mix_in2) hown hK hP 0 rfl rfl 3 (by decide) (hts _ k_X2_mix_f19) (fun _ h9 => h9) rfl dX2_mix_119 ?_
        refine lv_ladd hx hb dX2_mix_122 ?_
        refine lv_topl (fun x_12 ex_12 => ?_)
        refine va_put (D := (dC, dI)) (ci := 2) (v := .long x_12) (ty := .long) (C := RX2) (T := TX2) (N := 6) hx hb hts (k_X2_mix_in2) tyX2 tyX2_ok nmX2 hown hK hP hD hS 0 rfl rfl 4 (by decide) (hts _ k_X2_mix_f22) (fun _ h9 => h9) rfl (by decide +kernel) rfl rfl (Nat.le_of_ble_eq_true rfl) dX2_mix_123 (fun H locs hP hD hS => ?_)
        have hP : va_P (dC, dI) vwCl [(h, .inr (2, [.long k, .long l0, .long x_9, .long x_3, .long x_12, .long x_11]))] H := hP
        have hD : va_D A [(h, .inr (2, [.long k, .long l0, .long x_9, .long x_3, .long x_12, .long x_11]))] := hD
        refine lv_aload_n hx hb dX2_mix_126 rfl (lv_at hl 0 rfl) ?_
        refine lv_aload_n hx hb dX2_mix_127 rfl (lv_at hl 0 rfl) ?_
        refine va_get (D := (dC, dI)) (ci := 2) (v := .long x_3) (C := RX2) (T := TX2) (N := 6) hx hb hts (k_X2_mix_in2) hown hK hP 0 rfl rfl 3 (by decide) (hts _ k_X2_mix_f19) (fun _ h9 => h9) rfl dX2_mix_128 ?_
        refine lv_bipush (v := 17) hx hb dX2_mix_131 (by decide) ?_
        refine ck_rl (va_runS (As := [.long x_3, .int 17]) (rest := [.ref h]) ⟨hx, hb, hml, hown, hts⟩ (c_X2_turnLeft l dC dI cI cJ cZ lo _ x_3 17) (va_cwS 2 hts gX2_mix_X2_turnLeft rfl rfl rfl (by decide +kernel) ⟨(Nat.le_of_ble_eq_true rfl), (Nat.le_of_ble_eq_true rfl)⟩) ⟨ck_blind, (ck_pre hG hP hD hS [] rfl (by decide) _)⟩ rfl rfl hl.1 rfl (lv_room (Nat.le_of_ble_eq_true rfl)) dX2_mix_133 ⟨(Nat.le_of_ble_eq_true rfl), (Nat.le_of_ble_eq_true rfl)⟩) (fun r_13 hw_13 => ?_)
        have hw_13 : r_13 = ck_rot x_3 17 := hw_13
        subst hw_13
        refine lv_aload_n hx hb dX2_mix_136 rfl (lv_at hl 0 rfl) ?_
        refine va_get (D := (dC, dI)) (ci := 2) (v := .long x_12) (C := RX2) (T := TX2) (N := 6) hx hb hts (k_X2_mix_in2) hown hK hP 0 rfl rfl 4 (by decide) (hts _ k_X2_mix_f22) (fun _ h9 => h9) rfl dX2_mix_137 ?_
        refine lv_lxor hx hb dX2_mix_140 ?_
        refine lv_topl (fun x_14 ex_14 => ?_)
        refine va_put (D := (dC, dI)) (ci := 2) (v := .long x_14) (ty := .long) (C := RX2) (T := TX2) (N := 6) hx hb hts (k_X2_mix_in2) tyX2 tyX2_ok nmX2 hown hK hP hD hS 0 rfl rfl 3 (by decide) (hts _ k_X2_mix_f19) (fun _ h9 => h9) rfl (by decide +kernel) rfl rfl (Nat.le_of_ble_eq_true rfl) dX2_mix_141 (fun H locs hP hD hS => ?_)
        have hP : va_P (dC, dI) vwCl [(h, .inr (2, [.long k, .long l0, .long x_9, .long x_14, .long x_12, .long x_11]))] H := hP
        have hD : va_D A [(h, .inr (2, [.long k, .long l0, .long x_9, .long x_14, .long x_12, .long x_11]))] := hD
        refine lv_aload_n hx hb dX2_mix_144 rfl (lv_at hl 0 rfl) ?_
        refine lv_aload_n hx hb dX2_mix_145 rfl (lv_at hl 0 rfl) ?_
        refine va_get (D := (dC, dI)) (ci := 2) (v := .long x_12) (C := RX2) (T := TX2) (N := 6) hx hb hts (k_X2_mix_in2) hown hK hP 0 rfl rfl 4 (by decide) (hts _ k_X2_mix_f22) (fun _ h9 => h9) rfl dX2_mix_146 ?_
        refine lv_bipush (v := 32) hx hb dX2_mix_149 (by decide) ?_
        refine ck_rl (va_runS (As := [.long x_12, .int 32]) (rest := [.ref h]) ⟨hx, hb, hml, hown, hts⟩ (c_X2_turnLeft l dC dI cI cJ cZ lo _ x_12 32) (va_cwS 2 hts gX2_mix_X2_turnLeft rfl rfl rfl (by decide +kernel) ⟨(Nat.le_of_ble_eq_true rfl), (Nat.le_of_ble_eq_true rfl)⟩) ⟨ck_blind, (ck_pre hG hP hD hS [] rfl (by decide) _)⟩ rfl rfl hl.1 rfl (lv_room (Nat.le_of_ble_eq_true rfl)) dX2_mix_151 ⟨(Nat.le_of_ble_eq_true rfl), (Nat.le_of_ble_eq_true rfl)⟩) (fun r_15 hw_15 => ?_)
        have hw_15 : r_15 = ck_rot x_12 32 := hw_15
        subst hw_15
        refine lv_topl (fun x_16 ex_16 => ?_)
        refine va_put (D := (dC, dI)) (ci := 2) (v := .long x_16) (ty := .long) (C := RX2) (T := TX2) (N := 6) hx hb hts (k_X2_mix_in2) tyX2 tyX2_ok nmX2 hown hK hP hD hS 0 rfl rfl 4 (by decide) (hts _ k_X2_mix_f22) (fun _ h9 => h9) rfl (by decide +kernel) rfl rfl (Nat.le_of_ble_eq_true rfl) dX2_mix_154 (fun H locs hP hD hS => ?_)
        have hP : va_P (dC, dI) vwCl [(h, .inr (2, [.long k, .long l0, .long x_9, .long x_14, .long x_16, .long x_11]))] H := hP
        have hD : va_D A [(h, .inr (2, [.long k, .long l0, .long x_9, .long x_14, .long x_16, .long x_11]))] := hD
        refine lv_iinc (v := nI (i + 1)) (lv' := [(2, .int (nI (i + 1))), (0, .ref h), (1, .int (nI j))]) hx hb dX2_mix_157 hl (k := 2) rfl (nI_1 _) (by decide) rfl (fun ls hl => ?_)
        refine lv_goto (tgt := 2) hx hb dX2_mix_160 (by decide) ?_
        exact ih (i + 1) x_9 x_14 x_16 x_11 (by omega) (by omega) (by have e9 : j - i = (j - (i + 1)) + 1 := (by omega); rw [e9, ck_mixS] at hv; rw [← hv]; subst_vars; rfl) _ _ _ (hP.sub [0] rfl) (hD.sub [0] (by decide) rfl) hS (lv_sub hl [1, 2, 0] rfl)
  exact hloop (j + 1) 0 v0 v1 v2 v3 (by omega) (by omega) (rfl) _ _ _ (hP.sub [0] rfl) (hD.sub [0] (by decide) rfl) hS (lv_sub hl [1, 2, 0] rfl)
set_option maxRecDepth 20000 in
theorem k_X2_absorb_f25 : (.fieldLink RX2 25 "CookieListener$SipHash" "v3" "J" : Cond) ∈ wsX2_absorb := by decide +kernel
set_option maxRecDepth 20000 in
theorem k_X2_absorb_in2 : ∀ w ∈ u_ws RX2 TX2 6, w ∈ wsX2_absorb := by decide +kernel
set_option maxRecDepth 20000 in
theorem k_X2_absorb_f16 : (.fieldLink RX2 16 "CookieListener$SipHash" "v0" "J" : Cond) ∈ wsX2_absorb := by decide +kernel
set_option maxHeartbeats 4000000 in
set_option maxRecDepth 100000 in
theorem c_X2_absorb (l : Launch) (dC : Nat → ClassId) (dI : Nat → Nat → Nat) (cI cJ cZ : ClassId) (lo sz : Nat) (h : Nat) (k l0 v0 v1 v2 v3 w : Int64) : Met l yX2_absorb wsX2_absorb ({ frames := 2, cells := 0, slots := 0, locals := 44 } : Room) (va_Pc [.ref h, .long w] (ck_P (dC, dI) [(cI, .int), (cJ, .long), (cZ, .boolean)] lo sz [(h, .inr (2, [.long k, .long l0, .long v0, .long v1, .long v2, .long v3]))])) (va_Qv (fun (u : Int64 × Int64 × Int64 × Int64) => (u.1, u.2.1, u.2.2.1, u.2.2.2) = ck_absorb (v0, v1, v2, v3) w) (fun u => ck_B (dC, dI) vwCl (va_A [(h, .inr (2, [.long k, .long l0, .long v0, .long v1, .long v2, .long v3]))] sz) ((fun u : Int64 × Int64 × Int64 × Int64 => ([(h, .inr (2, [.long k, .long l0, .long u.1, .long u.2.1, .long u.2.2.1, .long u.2.2.2]))] : va_W)) u)) (va_A [(h, .inr (2, [.long k, .long l0, .long v0, .long v1, .long v2, .long v3]))] sz)) 0 0 (va_A [(h, .inr (2, [.long k, .long l0, .long v0, .long v1, .long v2, .long v3]))] sz) := by
  refine Met.ofW (cc := cX2_absorb) (maxL := 3) (ret := none) (by decide) rfl ?_
  intro p e s m args below meth c s₁ B hml hv
  obtain ⟨rfl, hsz, hP, hK, hD0, hE⟩ := hv
  have hx := B.exec
  have hb := B.bytes
  have hr := B.returns
  have hts := atoms_spec (ws := wsX2_absorb) B.pre
  have hown : s.vm.findClass RX2 = some m.cls := findClass_of_methodNamed B.named
  have hlocks := B.notSynchronized
  subst hsz
  have hD := hD0.self (sz := s.heap.size)
  have hlo := ck_lo (sz := s.heap.size) hD0 hE.1
  generalize hAe : va_A [(h, .inr (2, [.long k, .long l0, .long v0, .long v1, .long v2, .long v3]))] s.heap.size = A at hD hlo ⊢
  have hA : ∀ q : Nat, s.heap.size ≤ q → A q := fun q h => by rw [← hAe]; exact Or.inr h
  have hG : ck_G (dC, dI) [(cI, .int), (cJ, .long), (cZ, .boolean)] lo A s := ⟨hK, hE, hA, hlo⟩
  have hS : va_S A s.heap s.heap [] := va_S.rf
  have hP : va_P (dC, dI) vwCl [(h, .inr (2, [.long k, .long l0, .long v0, .long v1, .long v2, .long v3]))] s.heap := hP
  have hl := lv_entry ([.ref h, .long w]) (n := 3) (Nat.le_of_ble_eq_true rfl)
  rw [lg_entry_eq]
  generalize (lg_sl ([.ref h, .long w]) ++ List.replicate (3 - (lg_sl ([.ref h, .long w])).length) Slot.unset).toArray = ls at hl ⊢
  have hl : lv_has ls 3 [(0, .ref h), (1, .long w)] := hl
  refine lv_aload_n hx hb dX2_absorb_0 rfl (lv_at hl 0 rfl) ?_
  refine lv_dup hx hb dX2_absorb_1 rfl ?_
  refine va_get (D := (dC, dI)) (ci := 2) (v := .long v3) (C := RX2) (T := TX2) (N := 6) hx hb hts (k_X2_absorb_in2) hown hK hP 0 rfl rfl 5 (by decide) (hts _ k_X2_absorb_f25) (fun _ h9 => h9) rfl dX2_absorb_2 ?_
  refine lv_lload_n hx hb dX2_absorb_5 rfl (lv_at hl 1 rfl) ?_
  refine lv_lxor hx hb dX2_absorb_6 ?_
  refine lv_topl (fun x_1 ex_1 => ?_)
  refine va_put (D := (dC, dI)) (ci := 2) (v := .long x_1) (ty := .long) (C := RX2) (T := TX2) (N := 6) hx hb hts (k_X2_absorb_in2) tyX2 tyX2_ok nmX2 hown hK hP hD hS 0 rfl rfl 5 (by decide) (hts _ k_X2_absorb_f25) (fun _ h9 => h9) rfl (by decide +kernel) rfl rfl (Nat.le_of_ble_eq_true rfl) dX2_absorb_7 (fun H locs hP hD hS => ?_)
  have hP : va_P (dC, dI) vwCl [(h, .inr (2, [.long k, .long l0, .long v0, .long v1, .long v2, .long x_1]))] H := hP
  have hD : va_D A [(h, .inr (2, [.long k, .long l0, .long v0, .long v1, .long v2, .long x_1]))] := hD
  refine lv_aload_n hx hb dX2_absorb_10 rfl (lv_at hl 0 rfl) ?_
  refine lv_iconst (v := nI 2) hx hb dX2_absorb_11 (by decide) ?_
  refine ck_cv (wr := []) (va_runV (As := [.int (nI 2)]) (rest := []) ⟨hx, hb, hml, hown, hts⟩ (c_X2_mix l dC dI cI cJ cZ lo _ h k l0 v0 v1 v2 x_1 2 (by first | assumption | omega)) (cwV 1 hts gX2_absorb_X2_mix rfl rfl rfl (by decide +kernel) ⟨(Nat.le_of_ble_eq_true rfl), (Nat.le_of_ble_eq_true rfl)⟩) ⟨ck_blind, va_recv hK hP (ci := 2) (q0 := 0) rfl rfl, (ck_pre hG hP hD hS [0] rfl (by decide) _)⟩ rfl rfl hl.1 rfl (lv_room (Nat.le_of_ble_eq_true rfl)) dX2_absorb_12 ⟨(Nat.le_of_ble_eq_true rfl), (Nat.le_of_ble_eq_true rfl)⟩) hP hD hS hA [0] [] rfl rfl (by decide) (by decide) (fun u H locs hw_2 hP hD hS => ?_)
  obtain ⟨u0_2, u1_2, u2_2, u3_2⟩ := u
  have hw_2 : (u0_2, u1_2, u2_2, u3_2) = ck_mix 2 (v0, v1, v2, x_1) := hw_2
  have hP : va_P (dC, dI) vwCl [(h, .inr (2, [.long k, .long l0, .long u0_2, .long u1_2, .long u2_2, .long u3_2]))] H := hP
  have hD : va_D A [(h, .inr (2, [.long k, .long l0, .long u0_2, .long u1_2, .long u2_2, .long u3_2]))] := hD
  refine lv_aload_n hx hb dX2_absorb_15 rfl (lv_at hl 0 rfl) ?_
  refine lv_dup hx hb dX2_absorb_16 rfl ?_
  refine va_get (D := (dC, dI)) (ci := 2) (v := .long u0_2) (C := RX2) (T := TX2) (N := 6) hx hb hts (k_X2_absorb_in2) hown hK hP 0 rfl rfl 2 (by decide) (hts _ k_X2_absorb_f16) (fun _ h9 => h9) rfl dX2_absorb_17 ?_
  refine lv_lload_n hx hb dX2_absorb_20 rfl (lv_at hl 1 rfl) ?_
  refine lv_lxor hx hb dX2_absorb_21 ?_
  refine lv_topl (fun x_3 ex_3 => ?_)
  refine va_put (D := (dC, dI)) (ci := 2) (v := .long x_3) (ty := .long) (C := RX2) (T := TX2) (N := 6) hx hb hts (k_X2_absorb_in2) tyX2 tyX2_ok nmX2 hown hK hP hD hS 0 rfl rfl 2 (by decide) (hts _ k_X2_absorb_f16) (fun _ h9 => h9) rfl (by decide +kernel) rfl rfl (Nat.le_of_ble_eq_true rfl) dX2_absorb_22 (fun H locs hP hD hS => ?_)
  have hP : va_P (dC, dI) vwCl [(h, .inr (2, [.long k, .long l0, .long x_3, .long u1_2, .long u2_2, .long u3_2]))] H := hP
  have hD : va_D A [(h, .inr (2, [.long k, .long l0, .long x_3, .long u1_2, .long u2_2, .long u3_2]))] := hD
  refine ck_vr hx hb hr hlocks (Nat.le_of_ble_eq_true rfl) (Nat.le_of_ble_eq_true rfl) dX2_absorb_25 (x_3, u1_2, u2_2, u3_2) hP hD hS ?_
  subst_vars
  unfold ck_absorb
  dsimp only
  rw [← hw_2]
set_option maxRecDepth 20000 in
theorem k_X2_digest_f7 : (.fieldLink RX2 7 "CookieListener$SipHash" "k" "J" : Cond) ∈ wsX2_digest := by decide +kernel
set_option maxRecDepth 20000 in
theorem k_X2_digest_in2 : ∀ w ∈ u_ws RX2 TX2 6, w ∈ wsX2_digest := by decide +kernel
set_option maxRecDepth 20000 in
theorem k_X2_digest_c28 : (.constantLong RX2 28 (8317987319222330741) : Cond) ∈ wsX2_digest := by decide +kernel
set_option maxRecDepth 20000 in
theorem k_X2_digest_f16 : (.fieldLink RX2 16 "CookieListener$SipHash" "v0" "J" : Cond) ∈ wsX2_digest := by decide +kernel
set_option maxRecDepth 20000 in
theorem k_X2_digest_f13 : (.fieldLink RX2 13 "CookieListener$SipHash" "l" "J" : Cond) ∈ wsX2_digest := by decide +kernel
set_option maxRecDepth 20000 in
theorem k_X2_digest_c30 : (.constantLong RX2 30 (7237128888997146477) : Cond) ∈ wsX2_digest := by decide +kernel
set_option maxRecDepth 20000 in
theorem k_X2_digest_f19 : (.fieldLink RX2 19 "CookieListener$SipHash" "v1" "J" : Cond) ∈ wsX2_digest := by decide +kernel
set_option maxRecDepth 20000 in
theorem k_X2_digest_c32 : (.constantLong RX2 32 (7816392313619706465) : Cond) ∈ wsX2_digest := by decide +kernel
set_option maxRecDepth 20000 in
theorem k_X2_digest_f22 : (.fieldLink RX2 22 "CookieListener$SipHash" "v2" "J" : Cond) ∈ wsX2_digest := by decide +kernel
set_option maxRecDepth 20000 in
theorem k_X2_digest_c34 : (.constantLong RX2 34 (8387220255154660723) : Cond) ∈ wsX2_digest := by decide +kernel
set_option maxRecDepth 20000 in
theorem k_X2_digest_f25 : (.fieldLink RX2 25 "CookieListener$SipHash" "v3" "J" : Cond) ∈ wsX2_digest := by decide +kernel
set_option maxRecDepth 20000 in
theorem k_X2_digest_c40 : (.constantLong RX2 40 (1152921504606846976) : Cond) ∈ wsX2_digest := by decide +kernel
set_option maxRecDepth 20000 in
theorem k_X2_digest_c42 : (.constantLong RX2 42 (255) : Cond) ∈ wsX2_digest := by decide +kernel
set_option maxHeartbeats 4000000 in
set_option maxRecDepth 100000 in
theorem c_X2_digest (l : Launch) (dC : Nat → ClassId) (dI : Nat → Nat → Nat) (cI cJ cZ : ClassId) (lo sz : Nat) (h : Nat) (k l0 v0 v1 v2 v3 w1 w2 : Int64) : Met l yX2_digest wsX2_digest ({ frames := 3, cells := 0, slots := 0, locals := 66 } : Room) (va_Pc [.ref h, .long w1, .long w2] (ck_P (dC, dI) [(cI, .int), (cJ, .long), (cZ, .boolean)] lo sz [(h, .inr (2, [.long k, .long l0, .long v0, .long v1, .long v2, .long v3]))])) (va_Ql (fun (r : Int64) (u : Int64 × Int64 × Int64 × Int64) => r = ck_sip k l0 w1 w2) (fun u => ck_B (dC, dI) vwCl (va_A [(h, .inr (2, [.long k, .long l0, .long v0, .long v1, .long v2, .long v3]))] sz) ((fun u : Int64 × Int64 × Int64 × Int64 => ([(h, .inr (2, [.long k, .long l0, .long u.1, .long u.2.1, .long u.2.2.1, .long u.2.2.2]))] : va_W)) u)) (va_A [(h, .inr (2, [.long k, .long l0, .long v0, .long v1, .long v2, .long v3]))] sz)) 0 0 (va_A [(h, .inr (2, [.long k, .long l0, .long v0, .long v1, .long v2, .long v3]))] sz) := by
  refine Met.ofW (cc := cX2_digest) (maxL := 5) (ret := (some .long)) (by decide) rfl ?_
  intro p e s m args below meth c s₁ B hml hv
  obtain ⟨rfl, hsz, hP, hK, hD0, hE⟩ := hv
  have hx := B.exec
  have hb := B.bytes
  have hr := B.returns
  have hts := atoms_spec (ws := wsX2_digest) B.pre
  have hown : s.vm.findClass RX2 = some m.cls := findClass_of_methodNamed B.named
  have hlocks := B.notSynchronized
  subst hsz
  have hD := hD0.self (sz := s.heap.size)
  have hlo := ck_lo (sz := s.heap.size) hD0 hE.1
  generalize hAe : va_A [(h, .inr (2, [.long k, .long l0, .long v0, .long v1, .long v2, .long v3]))] s.heap.size = A at hD hlo ⊢
  have hA : ∀ q : Nat, s.heap.size ≤ q → A q := fun q h => by rw [← hAe]; exact Or.inr h
  have hG : ck_G (dC, dI) [(cI, .int), (cJ, .long), (cZ, .boolean)] lo A s := ⟨hK, hE, hA, hlo⟩
  have hS : va_S A s.heap s.heap [] := va_S.rf
  have hP : va_P (dC, dI) vwCl [(h, .inr (2, [.long k, .long l0, .long v0, .long v1, .long v2, .long v3]))] s.heap := hP
  have hl := lv_entry ([.ref h, .long w1, .long w2]) (n := 5) (Nat.le_of_ble_eq_true rfl)
  rw [lg_entry_eq]
  generalize (lg_sl ([.ref h, .long w1, .long w2]) ++ List.replicate (5 - (lg_sl ([.ref h, .long w1, .long w2])).length) Slot.unset).toArray = ls at hl ⊢
  have hl : lv_has ls 5 [(0, .ref h), (1, .long w1), (3, .long w2)] := hl
  refine lv_aload_n hx hb dX2_digest_0 rfl (lv_at hl 0 rfl) ?_
  refine lv_aload_n hx hb dX2_digest_1 rfl (lv_at hl 0 rfl) ?_
  refine va_get (D := (dC, dI)) (ci := 2) (v := .long k) (C := RX2) (T := TX2) (N := 6) hx hb hts (k_X2_digest_in2) hown hK hP 0 rfl rfl 0 (by decide) (hts _ k_X2_digest_f7) (fun _ h9 => h9) rfl dX2_digest_2 ?_
  refine lv_ldc2 hx hb hown (hts _ k_X2_digest_c28) dX2_digest_5 ?_
  refine lv_lxor hx hb dX2_digest_8 ?_
  refine lv_topl (fun x_1 ex_1 => ?_)
  refine va_put (D := (dC, dI)) (ci := 2) (v := .long x_1) (ty := .long) (C := RX2) (T := TX2) (N := 6) hx hb hts (k_X2_digest_in2) tyX2 tyX2_ok nmX2 hown hK hP hD hS 0 rfl rfl 2 (by decide) (hts _ k_X2_digest_f16) (fun _ h9 => h9) rfl (by decide +kernel) rfl rfl (Nat.le_of_ble_eq_true rfl) dX2_digest_9 (fun H locs hP hD hS => ?_)
  have hP : va_P (dC, dI) vwCl [(h, .inr (2, [.long k, .long l0, .long x_1, .long v1, .long v2, .long v3]))] H := hP
  have hD : va_D A [(h, .inr (2, [.long k, .long l0, .long x_1, .long v1, .long v2, .long v3]))] := hD
  refine lv_aload_n hx hb dX2_digest_12 rfl (lv_at hl 0 rfl) ?_
  refine lv_aload_n hx hb dX2_digest_13 rfl (lv_at hl 0 rfl) ?_
  refine va_get (D := (dC, dI)) (ci := 2) (v := .long l0) (C := RX2) (T := TX2) (N := 6) hx hb hts (k_X2_digest_in2) hown hK hP 0 rfl rfl 1 (by decide) (hts _ k_X2_digest_f13) (fun _ h9 => h9) rfl dX2_digest_14 ?_
  refine lv_ldc2 hx hb hown (hts _ k_X2_digest_c30) dX2_digest_17 ?_
  refine lv_lxor hx hb dX2_digest_20 ?_
  refine lv_topl (fun x_2 ex_2 => ?_)
  refine va_put (D := (dC, dI)) (ci := 2) (v := .long x_2) (ty := .long) (C := RX2) (T := TX2) (N := 6) hx hb hts (k_X2_digest_in2) tyX2 tyX2_ok nmX2 hown hK hP hD hS 0 rfl rfl 3 (by decide) (hts _ k_X2_digest_f19) (fun _ h9 => h9) rfl (by decide +kernel) rfl rfl (Nat.le_of_ble_eq_true rfl) dX2_digest_21 (fun H locs hP hD hS => ?_)
  have hP : va_P (dC, dI) vwCl [(h, .inr (2, [.long k, .long l0, .long x_1, .long x_2, .long v2, .long v3]))] H := hP
  have hD : va_D A [(h, .inr (2, [.long k, .long l0, .long x_1, .long x_2, .long v2, .long v3]))] := hD
  refine lv_aload_n hx hb dX2_digest_24 rfl (lv_at hl 0 rfl) ?_
  refine lv_aload_n hx hb dX2_digest_25 rfl (lv_at hl 0 rfl) ?_
  refine va_get (D := (dC, dI)) (ci := 2) (v := .long k) (C := RX2) (T := TX2) (N := 6) hx hb hts (k_X2_digest_in2) hown hK hP 0 rfl rfl 0 (by decide) (hts _ k_X2_digest_f7) (fun _ h9 => h9) rfl dX2_digest_26 ?_
  refine lv_ldc2 hx hb hown (hts _ k_X2_digest_c32) dX2_digest_29 ?_
  refine lv_lxor hx hb dX2_digest_32 ?_
  refine lv_topl (fun x_3 ex_3 => ?_)
  refine va_put (D := (dC, dI)) (ci := 2) (v := .long x_3) (ty := .long) (C := RX2) (T := TX2) (N := 6) hx hb hts (k_X2_digest_in2) tyX2 tyX2_ok nmX2 hown hK hP hD hS 0 rfl rfl 4 (by decide) (hts _ k_X2_digest_f22) (fun _ h9 => h9) rfl (by decide +kernel) rfl rfl (Nat.le_of_ble_eq_true rfl) dX2_digest_33 (fun H locs hP hD hS => ?_)
  have hP : va_P (dC, dI) vwCl [(h, .inr (2, [.long k, .long l0, .long x_1, .long x_2, .long x_3, .long v3]))] H := hP
  have hD : va_D A [(h, .inr (2, [.long k, .long l0, .long x_1, .long x_2, .long x_3, .long v3]))] := hD
  refine lv_aload_n hx hb dX2_digest_36 rfl (lv_at hl 0 rfl) ?_
  refine lv_aload_n hx hb dX2_digest_37 rfl (lv_at hl 0 rfl) ?_
  refine va_get (D := (dC, dI)) (ci := 2) (v := .long l0) (C := RX2) (T := TX2) (N := 6) hx hb hts (k_X2_digest_in2) hown hK hP 0 rfl rfl 1 (by decide) (hts _ k_X2_digest_f13) (fun _ h9 => h9) rfl dX2_digest_38 ?_
  refine lv_ldc2 hx hb hown (hts _ k_X2_digest_c34) dX2_digest_41 ?_
  refine lv_lxor hx hb dX2_digest_44 ?_
  refine lv_topl (fun x_4 ex_4 => ?_)
  refine va_put (D := (dC, dI)) (ci := 2) (v := .long x_4) (ty := .long) (C := RX2) (T := TX2) (N := 6) hx hb hts (k_X2_digest_in2) tyX2 tyX2_ok nmX2 hown hK hP hD hS 0 rfl rfl 5 (by decide) (hts _ k_X2_digest_f25) (fun _ h9 => h9) rfl (by decide +kernel) rfl rfl (Nat.le_of_ble_eq_true rfl) dX2_digest_45 (fun H locs hP hD hS => ?_)
  have hP : va_P (dC, dI) vwCl [(h, .inr (2, [.long k, .long l0, .long x_1, .long x_2, .long x_3, .long x_4]))] H := hP
  have hD : va_D A [(h, .inr (2, [.long k, .long l0, .long x_1, .long x_2, .long x_3, .long x_4]))] := hD
  refine lv_aload_n hx hb dX2_digest_48 rfl (lv_at hl 0 rfl) ?_
  refine lv_lload_n hx hb dX2_digest_49 rfl (lv_at hl 1 rfl) ?_
  refine ck_cv (wr := []) (va_runV (As := [.long w1]) (rest := []) ⟨hx, hb, hml, hown, hts⟩ (c_X2_absorb l dC dI cI cJ cZ lo _ h k l0 x_1 x_2 x_3 x_4 w1) (cwV 1 hts gX2_digest_X2_absorb rfl rfl rfl (by decide +kernel) ⟨(Nat.le_of_ble_eq_true rfl), (Nat.le_of_ble_eq_true rfl)⟩) ⟨ck_blind, va_recv hK hP (ci := 2) (q0 := 0) rfl rfl, (ck_pre hG hP hD hS [0] rfl (by decide) _)⟩ rfl rfl hl.1 rfl (lv_room (Nat.le_of_ble_eq_true rfl)) dX2_digest_50 ⟨(Nat.le_of_ble_eq_true rfl), (Nat.le_of_ble_eq_true rfl)⟩) hP hD hS hA [0] [] rfl rfl (by decide) (by decide) (fun u H locs hw_5 hP hD hS => ?_)
  obtain ⟨u0_5, u1_5, u2_5, u3_5⟩ := u
  have hw_5 : (u0_5, u1_5, u2_5, u3_5) = ck_absorb (x_1, x_2, x_3, x_4) w1 := hw_5
  have hP : va_P (dC, dI) vwCl [(h, .inr (2, [.long k, .long l0, .long u0_5, .long u1_5, .long u2_5, .long u3_5]))] H := hP
  have hD : va_D A [(h, .inr (2, [.long k, .long l0, .long u0_5, .long u1_5, .long u2_5, .long u3_5]))] := hD
  refine lv_aload_n hx hb dX2_digest_53 rfl (lv_at hl 0 rfl) ?_
  refine lv_lload_n hx hb dX2_digest_54 rfl (lv_at hl 2 rfl) ?_
  refine ck_cv (wr := []) (va_runV (As := [.long w2]) (rest := []) ⟨hx, hb, hml, hown, hts⟩ (c_X2_absorb l dC dI cI cJ cZ lo _ h k l0 u0_5 u1_5 u2_5 u3_5 w2) (cwV 1 hts gX2_digest_X2_absorb rfl rfl rfl (by decide +kernel) ⟨(Nat.le_of_ble_eq_true rfl), (Nat.le_of_ble_eq_true rfl)⟩) ⟨ck_blind, va_recv hK hP (ci := 2) (q0 := 0) rfl rfl, (ck_pre hG hP hD hS [0] rfl (by decide) _)⟩ rfl rfl hl.1 rfl (lv_room (Nat.le_of_ble_eq_true rfl)) dX2_digest_55 ⟨(Nat.le_of_ble_eq_true rfl), (Nat.le_of_ble_eq_true rfl)⟩) hP hD hS hA [0] [] rfl rfl (by decide) (by decide) (fun u H locs hw_6 hP hD hS => ?_)
  obtain ⟨u0_6, u1_6, u2_6, u3_6⟩ := u
  have hw_6 : (u0_6, u1_6, u2_6, u3_6) = ck_absorb (u0_5, u1_5, u2_5, u3_5) w2 := hw_6
  have hP : va_P (dC, dI) vwCl [(h, .inr (2, [.long k, .long l0, .long u0_6, .long u1_6, .long u2_6, .long u3_6]))] H := hP
  have hD : va_D A [(h, .inr (2, [.long k, .long l0, .long u0_6, .long u1_6, .long u2_6, .long u3_6]))] := hD
  refine lv_aload_n hx hb dX2_digest_58 rfl (lv_at hl 0 rfl) ?_
  refine lv_ldc2 hx hb hown (hts _ k_X2_digest_c40) dX2_digest_59 ?_
  refine ck_cv (wr := []) (va_runV (As := [.long 1152921504606846976]) (rest := []) ⟨hx, hb, hml, hown, hts⟩ (c_X2_absorb l dC dI cI cJ cZ lo _ h k l0 u0_6 u1_6 u2_6 u3_6 1152921504606846976) (cwV 1 hts gX2_digest_X2_absorb rfl rfl rfl (by decide +kernel) ⟨(Nat.le_of_ble_eq_true rfl), (Nat.le_of_ble_eq_true rfl)⟩) ⟨ck_blind, va_recv hK hP (ci := 2) (q0 := 0) rfl rfl, (ck_pre hG hP hD hS [0] rfl (by decide) _)⟩ rfl rfl hl.1 rfl (lv_room (Nat.le_of_ble_eq_true rfl)) dX2_digest_62 ⟨(Nat.le_of_ble_eq_true rfl), (Nat.le_of_ble_eq_true rfl)⟩) hP hD hS hA [0] [] rfl rfl (by decide) (by decide) (fun u H locs hw_7 hP hD hS => ?_)
  obtain ⟨u0_7, u1_7, u2_7, u3_7⟩ := u
  have hw_7 : (u0_7, u1_7, u2_7, u3_7) = ck_absorb (u0_6, u1_6, u2_6, u3_6) 1152921504606846976 := hw_7
  have hP : va_P (dC, dI) vwCl [(h, .inr (2, [.long k, .long l0, .long u0_7, .long u1_7, .long u2_7, .long u3_7]))] H := hP
  have hD : va_D A [(h, .inr (2, [.long k, .long l0, .long u0_7, .long u1_7, .long u2_7, .long u3_7]))] := hD
  refine lv_aload_n hx hb dX2_digest_65 rfl (lv_at hl 0 rfl) ?_
  refine lv_dup hx hb dX2_digest_66 rfl ?_
  refine va_get (D := (dC, dI)) (ci := 2) (v := .long u2_7) (C := RX2) (T := TX2) (N := 6) hx hb hts (k_X2_digest_in2) hown hK hP 0 rfl rfl 4 (by decide) (hts _ k_X2_digest_f22) (fun _ h9 => h9) rfl dX2_digest_67 ?_
  refine lv_ldc2 hx hb hown (hts _ k_X2_digest_c42) dX2_digest_70 ?_
  refine lv_lxor hx hb dX2_digest_73 ?_
  refine lv_topl (fun x_8 ex_8 => ?_)
  refine va_put (D := (dC, dI)) (ci := 2) (v := .long x_8) (ty := .long) (C := RX2) (T := TX2) (N := 6) hx hb hts (k_X2_digest_in2) tyX2 tyX2_ok nmX2 hown hK hP hD hS 0 rfl rfl 4 (by decide) (hts _ k_X2_digest_f22) (fun _ h9 => h9) rfl (by decide +kernel) rfl rfl (Nat.le_of_ble_eq_true rfl) dX2_digest_74 (fun H locs hP hD hS => ?_)
  have hP : va_P (dC, dI) vwCl [(h, .inr (2, [.long k, .long l0, .long u0_7, .long u1_7, .long x_8, .long u3_7]))] H := hP
  have hD : va_D A [(h, .inr (2, [.long k, .long l0, .long u0_7, .long u1_7, .long x_8, .long u3_7]))] := hD
  refine lv_aload_n hx hb dX2_digest_77 rfl (lv_at hl 0 rfl) ?_
  refine lv_iconst (v := nI 4) hx hb dX2_digest_78 (by decide) ?_
  refine ck_cv (wr := []) (va_runV (As := [.int (nI 4)]) (rest := []) ⟨hx, hb, hml, hown, hts⟩ (c_X2_mix l dC dI cI cJ cZ lo _ h k l0 u0_7 u1_7 x_8 u3_7 4 (by first | assumption | omega)) (cwV 1 hts gX2_digest_X2_mix rfl rfl rfl (by decide +kernel) ⟨(Nat.le_of_ble_eq_true rfl), (Nat.le_of_ble_eq_true rfl)⟩) ⟨ck_blind, va_recv hK hP (ci := 2) (q0 := 0) rfl rfl, (ck_pre hG hP hD hS [0] rfl (by decide) _)⟩ rfl rfl hl.1 rfl (lv_room (Nat.le_of_ble_eq_true rfl)) dX2_digest_79 ⟨(Nat.le_of_ble_eq_true rfl), (Nat.le_of_ble_eq_true rfl)⟩) hP hD hS hA [0] [] rfl rfl (by decide) (by decide) (fun u H locs hw_9 hP hD hS => ?_)
  obtain ⟨u0_9, u1_9, u2_9, u3_9⟩ := u
  have hw_9 : (u0_9, u1_9, u2_9, u3_9) = ck_mix 4 (u0_7, u1_7, x_8, u3_7) := hw_9
  have hP : va_P (dC, dI) vwCl [(h, .inr (2, [.long k, .long l0, .long u0_9, .long u1_9, .long u2_9, .long u3_9]))] H := hP
  have hD : va_D A [(h, .inr (2, [.long k, .long l0, .long u0_9, .long u1_9, .long u2_9, .long u3_9]))] := hD
  refine lv_aload_n hx hb dX2_digest_82 rfl (lv_at hl 0 rfl) ?_
  refine va_get (D := (dC, dI)) (ci := 2) (v := .long u0_9) (C := RX2) (T := TX2) (N := 6) hx hb hts (k_X2_digest_in2) hown hK hP 0 rfl rfl 2 (by decide) (hts _ k_X2_digest_f16) (fun _ h9 => h9) rfl dX2_digest_83 ?_
  refine lv_aload_n hx hb dX2_digest_86 rfl (lv_at hl 0 rfl) ?_
  refine va_get (D := (dC, dI)) (ci := 2) (v := .long u1_9) (C := RX2) (T := TX2) (N := 6) hx hb hts (k_X2_digest_in2) hown hK hP 0 rfl rfl 3 (by decide) (hts _ k_X2_digest_f19) (fun _ h9 => h9) rfl dX2_digest_87 ?_
  refine lv_lxor hx hb dX2_digest_90 ?_
  refine lv_aload_n hx hb dX2_digest_91 rfl (lv_at hl 0 rfl) ?_
  refine va_get (D := (dC, dI)) (ci := 2) (v := .long u2_9) (C := RX2) (T := TX2) (N := 6) hx hb hts (k_X2_digest_in2) hown hK hP 0 rfl rfl 4 (by decide) (hts _ k_X2_digest_f22) (fun _ h9 => h9) rfl dX2_digest_92 ?_
  refine lv_lxor hx hb dX2_digest_95 ?_
  refine lv_aload_n hx hb dX2_digest_96 rfl (lv_at hl 0 rfl) ?_
  refine va_get (D := (dC, dI)) (ci := 2) (v := .long u3_9) (C := RX2) (T := TX2) (N := 6) hx hb hts (k_X2_digest_in2) hown hK hP 0 rfl rfl 5 (by decide) (hts _ k_X2_digest_f25) (fun _ h9 => h9) rfl dX2_digest_97 ?_
  refine lv_lxor hx hb dX2_digest_100 ?_
  refine ck_lr hx hb hr hlocks (Nat.le_of_ble_eq_true rfl) (Nat.le_of_ble_eq_true rfl) dX2_digest_101 (u0_9, u1_9, u2_9, u3_9) hP hD hS ?_
  subst_vars
  unfold ck_sip ck_sip0
  rw [← hw_5, ← hw_6, ← hw_7]
  unfold ck_sipE
  dsimp only
  rw [← hw_9]
end
section
/-! halves and open ones: the words that the class's and the model's contracts share -/
def ck_fnd (n : Nat) (f : Nat → Int64) (x : Int64) (r : Int32) : Prop := (r = -1 ∧ ∀ i, i < n → f i ≠ x) ∨ ∃ j, j < n ∧ r = nI j ∧ f j = x
/-- g with the place j left out, as far as i -/
def ck_shf {α : Type} (g y : Nat → α) (j i : Nat) : Prop := ∀ q, y q = if j ≤ q ∧ q < i then g (q + 1) else g q
theorem ck_shf0 {α : Type} {g : Nat → α} {j : Nat} : ck_shf g g j j := fun q => by rw [if_neg (by omega)]
theorem ck_shfS {α : Type} {g y : Nat → α} {j i : Nat} (h : ck_shf g y j i) (hi : j ≤ i) : ck_shf g (fun q => if q = i then y (i + 1) else y q) j (i + 1) := by
  intro q
  show (if q = i then y (i + 1) else y q) = _
  by_cases e : q = i
  · rw [if_pos e, if_pos (by omega), h (i + 1), if_neg (by omega), e]
  · rw [if_neg e, h q]
    by_cases z : j ≤ q ∧ q < i
    · rw [if_pos z, if_pos (by omega)]
    · rw [if_neg z, if_neg (by omega)]
theorem ck_shfI {g y : Nat → Int32} {j i : Nat} (h : ck_shf g y j i) (hi : j ≤ i) : ck_shf g (upd y i (y (i + 1))) j (i + 1) := ck_shfS h hi
theorem ck_shfL {g y : Nat → Int64} {j i : Nat} (h : ck_shf g y j i) (hi : j ≤ i) : ck_shf g (vp_updL y i (y (i + 1))) j (i + 1) := ck_shfS h hi
abbrev ck_R5 : Type := Int64 × Int32 × Int32 × Int32 × Int32
def ck_R (f1 : Nat → Int64) (f2 f3 f4 f5 : Nat → Int32) : Nat → ck_R5 := fun q => (f1 q, f2 q, f3 q, f4 q, f5 q)
def ck_L {α : Type} (n : Nat) (F : Nat → α) : List α := (List.range n).map F
def ck_yng (now : Int32) (r : ck_R5) : Bool := decide (now - r.2.2.2.2 < 60)
/-- one is out, those below its place stay -/
def ck_gone {α : Type} (n : Nat) (F F' : Nat → α) (j : Nat) : Prop := (∀ q, q < j → F' q = F q) ∧ (ck_L (n + 1) F).Perm (F j :: ck_L n F')
theorem ck_L_S {α : Type} (n : Nat) (F : Nat → α) : ck_L (n + 1) F = ck_L n F ++ [F n] := by simp [ck_L, List.range_succ]
theorem ck_L_congr {α : Type} {n : Nat} {F G : Nat → α} (h : ∀ q, q < n → F q = G q) : ck_L n F = ck_L n G := List.map_congr_left fun q hq => h q (List.mem_range.mp hq)
theorem ck_gone_swap {α : Type} {n j : Nat} {F F' : Nat → α} (hj : j < n + 1) (h : ∀ q, F' q = if q = j then F n else F q) : ck_gone n F F' j := by
  refine ⟨fun q hq => by rw [h q, if_neg (by omega)], ?_⟩
  rw [ck_L_S]
  by_cases e : j = n
  · subst e
    have h1 : ck_L j F' = ck_L j F := ck_L_congr fun q hq => by rw [h q, if_neg (by omega)]
    rw [h1]
    exact List.perm_append_singleton _ _
  · have hr : (List.range n).Perm (j :: (List.range n).erase j) := List.perm_cons_erase (List.mem_range.mpr (by omega))
    have h1 : ((List.range n).erase j).map F' = ((List.range n).erase j).map F := List.map_congr_left fun q hq => by
      have hne : q ≠ j := (List.nodup_range.mem_erase_iff.mp hq).1
      rw [h q, if_neg hne]
    have p1 : (ck_L n F).Perm (F j :: ((List.range n).erase j).map F) := by
      have := hr.map F
      simpa [ck_L] using this
    have p2 : (ck_L n F').Perm (F n :: ((List.range n).erase j).map F) := by
      have := hr.map F'
      rw [List.map_cons, h1, h j, if_pos rfl] at this
      simpa [ck_L] using this
    refine (List.perm_append_singleton _ _).trans ?_
    refine (p1.cons (F n)).trans ?_
    refine (List.Perm.swap _ _ _).trans ?_
    exact (p2.symm).cons (F j)
theorem ck_gone_shf {α : Type} {n j : Nat} {F F' : Nat → α} (hj : j < n + 1) (h : ck_shf F F' j n) : ck_gone n F F' j := by
  refine ⟨fun q hq => by rw [h q, if_neg (by omega)], ?_⟩
  have hlen : (ck_L (n + 1) F).length = n + 1 := by simp [ck_L]
  have e : ck_L n F' = (ck_L (n + 1) F).eraseIdx j := by
    apply List.ext_getElem
    · simp [ck_L, List.length_eraseIdx, hj]
    · intro i h1 h2
      have hi : i < n := by simpa [ck_L] using h1
      rw [List.getElem_eraseIdx]
      simp only [ck_L, List.getElem_map, List.getElem_range, h i]
      by_cases z : i < j
      · simp [z, Nat.not_le.mpr z]
      · simp [z, Nat.not_lt.mp z, hi]
  rw [e]
  have h9 : F j = (ck_L (n + 1) F)[j]'(by omega) := by simp [ck_L]
  rw [h9]
  have hl9 : j < (ck_L (n + 1) F).length := by omega
  rw [List.eraseIdx_eq_take_drop_succ]
  have h8 : ck_L (n + 1) F = (ck_L (n + 1) F).take j ++ (ck_L (n + 1) F)[j] :: (ck_L (n + 1) F).drop (j + 1) := by rw [← List.drop_eq_getElem_cons hl9, List.take_append_drop]
  exact (List.Perm.of_eq h8).trans List.perm_middle
/-- the walk down: what is left when k are still to be looked at -/
def ck_old {α : Type} (p : α → Bool) (n : Nat) (F : Nat → α) (k n2 : Nat) (Y : Nat → α) : Prop := k ≤ n2 ∧ n2 ≤ n ∧ (∀ q, q < k → Y q = F q) ∧ (ck_L n2 Y).Perm (ck_L k F ++ (((ck_L n F).drop k).filter p))
theorem ck_old0 {α : Type} {p : α → Bool} {n : Nat} {F : Nat → α} : ck_old p n F n n F := by
  refine ⟨Nat.le_refl _, Nat.le_refl _, fun _ _ => rfl, ?_⟩
  have : (ck_L n F).drop n = [] := List.drop_eq_nil_of_le (by simp [ck_L])
  rw [this]
  simp
theorem ck_drop_S {α : Type} {n k : Nat} {F : Nat → α} (h : k < n) : (ck_L n F).drop k = F k :: (ck_L n F).drop (k + 1) := by
  have hl : k < (ck_L n F).length := by simpa [ck_L] using h
  rw [List.drop_eq_getElem_cons hl]
  simp [ck_L]
theorem ck_old_keep {α : Type} {p : α → Bool} {n k n2 : Nat} {F Y : Nat → α} (h : ck_old p n F (k + 1) n2 Y) (hp : p (Y k) = true) : ck_old p n F k n2 Y := by
  obtain ⟨h1, h2, h3, h4⟩ := h
  refine ⟨by omega, h2, fun q hq => h3 q (by omega), h4.trans ?_⟩
  rw [h3 k (by omega)] at hp
  rw [ck_drop_S (by omega : k < n), List.filter_cons, if_pos hp, ck_L_S, List.append_assoc]
  exact List.Perm.refl _
theorem ck_old_drop {α : Type} {p : α → Bool} {n k n2 : Nat} {F Y Y' : Nat → α} (h : ck_old p n F (k + 1) (n2 + 1) Y) (hp : ¬ p (Y k) = true) (hg : ck_gone n2 Y Y' k) : ck_old p n F k n2 Y' := by
  obtain ⟨h1, h2, h3, h4⟩ := h
  refine ⟨by omega, by omega, fun q hq => by rw [hg.1 q hq]; exact h3 q (by omega), ?_⟩
  have h5 := hg.2.symm.trans h4
  rw [h3 k (by omega)] at h5 hp
  rw [ck_drop_S (by omega : k < n), List.filter_cons, if_neg hp]
  rw [ck_L_S, List.append_assoc, List.singleton_append] at h5
  exact (List.perm_cons _).mp (h5.trans List.perm_middle)
theorem ck_old_end {α : Type} {p : α → Bool} {n n2 : Nat} {F Y : Nat → α} (h : ck_old p n F 0 n2 Y) : n2 ≤ n ∧ (ck_L n2 Y).Perm ((ck_L n F).filter p) := by
  obtain ⟨-, h2, -, h4⟩ := h
  refine ⟨h2, ?_⟩
  simpa [ck_L] using h4
set_option maxRecDepth 20000 in
theorem k_X1_init_l3 : (.methodLink RX1 3 objectInit : Cond) ∈ wsX1_init := by decide +kernel
set_option maxRecDepth 20000 in
theorem k_X1_init_mObj : (.instanceMethod objectInit : Cond) ∈ wsX1_init := by decide +kernel
set_option maxRecDepth 20000 in
theorem k_X1_init_cObj : (.code objectInit ⟨#[0xb1]⟩ 1 none : Cond) ∈ wsX1_init := by decide +kernel
set_option maxRecDepth 20000 in
theorem k_X1_init_along : (.arrayClass .long : Cond) ∈ wsX1_init := by decide +kernel
set_option maxRecDepth 20000 in
theorem k_X1_init_f9 : (.fieldLink RX1 9 "CookieListener$Halves" "callers" "[J" : Cond) ∈ wsX1_init := by decide +kernel
set_option maxRecDepth 20000 in
theorem k_X1_init_in1 : ∀ w ∈ u_ws RX1 TX1 6, w ∈ wsX1_init := by decide +kernel
set_option maxRecDepth 20000 in
theorem k_X1_init_aint : (.arrayClass .int : Cond) ∈ wsX1_init := by decide +kernel
set_option maxRecDepth 20000 in
theorem k_X1_init_f15 : (.fieldLink RX1 15 "CookieListener$Halves" "numbers" "[I" : Cond) ∈ wsX1_init := by decide +kernel
set_option maxRecDepth 20000 in
theorem k_X1_init_f19 : (.fieldLink RX1 19 "CookieListener$Halves" "answers" "[I" : Cond) ∈ wsX1_init := by decide +kernel
set_option maxRecDepth 20000 in
theorem k_X1_init_f22 : (.fieldLink RX1 22 "CookieListener$Halves" "kinds" "[I" : Cond) ∈ wsX1_init := by decide +kernel
set_option maxRecDepth 20000 in
theorem k_X1_init_f25 : (.fieldLink RX1 25 "CookieListener$Halves" "asked" "[I" : Cond) ∈ wsX1_init := by decide +kernel
set_option maxRecDepth 20000 in
theorem k_X1_init_f28 : (.fieldLink RX1 28 "CookieListener$Halves" "count" "I" : Cond) ∈ wsX1_init := by decide +kernel
set_option maxHeartbeats 4000000 in
set_option maxRecDepth 100000 in
theorem c_X1_init (l : Launch) (dC : Nat → ClassId) (dI : Nat → Nat → Nat) (cI cJ cZ : ClassId) (lo sz : Nat) (h : Nat) : Met l yX1_init wsX1_init ({ frames := 1, cells := 5, slots := 160, locals := 12 } : Room) (va_Pc [.ref h] (ck_P (dC, dI) [(cI, .int), (cJ, .long), (cZ, .boolean)] lo sz [(h, .inr (1, [.null, .null, .null, .null, .null, .int 0]))])) (va_Qv (fun (u : Nat × Nat × Nat × Nat × Nat) => True) (fun u => ck_B (dC, dI) vwCl (va_A [(h, .inr (1, [.null, .null, .null, .null, .null, .int 0]))] sz) ((fun u : Nat × Nat × Nat × Nat × Nat => ([(h, .inr (1, [.ref u.1, .ref u.2.1, .ref u.2.2.1, .ref u.2.2.2.1, .ref u.2.2.2.2, .int (nI 0)])), (u.1, .inl (cJ, 32, .inr (.inl (fun _ => 0)))), (u.2.1, .inl (cI, 32, .inl (fun _ => 0))), (u.2.2.1, .inl (cI, 32, .inl (fun _ => 0))), (u.2.2.2.1, .inl (cI, 32, .inl (fun _ => 0))), (u.2.2.2.2, .inl (cI, 32, .inl (fun _ => 0)))] : va_W)) u)) (va_A [(h, .inr (1, [.null, .null, .null, .null, .null, .int 0]))] sz)) 5 160 (va_A [(h, .inr (1, [.null, .null, .null, .null, .null, .int 0]))] sz) := by
  refine Met.ofW (cc := cX1_init) (maxL := 1) (ret := none) (by decide) rfl ?_
  intro p e s m args below meth c s₁ B hml hv
  obtain ⟨rfl, hsz, hP, hK, hD0, hE⟩ := hv
  have hx := B.exec
  have hb := B.bytes
  have hr := B.returns
  have hts := atoms_spec (ws := wsX1_init) B.pre
  have hown : s.vm.findClass RX1 = some m.cls := findClass_of_methodNamed B.named
  have hlocks := B.notSynchronized
  have hin : meth.name = "<init>" := (name_of_methodNamed B.named B.method).1
  subst hsz
  have hD := hD0.self (sz := s.heap.size)
  have hlo := ck_lo (sz := s.heap.size) hD0 hE.1
  generalize hAe : va_A [(h, .inr (1, [.null, .null, .null, .null, .null, .int 0]))] s.heap.size = A at hD hlo ⊢
  have hA : ∀ q : Nat, s.heap.size ≤ q → A q := fun q h => by rw [← hAe]; exact Or.inr h
  have hG : ck_G (dC, dI) [(cI, .int), (cJ, .long), (cZ, .boolean)] lo A s := ⟨hK, hE, hA, hlo⟩
  have hS : va_S A s.heap s.heap [] := va_S.rf
  have hP : va_P (dC, dI) vwCl [(h, .inr (1, [.null, .null, .null, .null, .null, .int 0]))] s.heap := hP
  have hl := lv_entry ([.ref h]) (n := 1) (Nat.le_of_ble_eq_true rfl)
  rw [lg_entry_eq]
  generalize (lg_sl ([.ref h]) ++ List.replicate (1 - (lg_sl ([.ref h])).length) Slot.unset).toArray = ls at hl ⊢
  have hl : lv_has ls 1 [(0, .ref h)] := hl
  refine lv_aload_n hx hb dX1_init_0 rfl (lv_at hl 0 rfl) ?_
  refine W.objInit hx hb hown (hts _ k_X1_init_l3) (hts _ k_X1_init_mObj) (hts _ k_X1_init_cObj) rfl (by rw [hml]; exact hl.1) rfl dX1_init_1 (Nat.le_of_ble_eq_true rfl) (Nat.le_of_ble_eq_true rfl) ?_
  refine W.eq (g2 := F0 m 4 ls []) rfl ?_
  refine lv_aload_n hx hb dX1_init_4 rfl (lv_at hl 0 rfl) ?_
  refine lv_bipush (v := 32) hx hb dX1_init_5 (by decide) ?_
  refine ck_newa (atype := .long) (ty := .long) (a0 := (32, .inr (.inl (fun _ => 0)))) (N' := 32) hx hb (hts _ k_X1_init_along) rfl (by intro C h; cases h) hK hP hD hS hA 1 rfl (fun _ => rfl) (by decide) (by decide) (by decide) (Nat.le_of_ble_eq_true rfl) (Nat.le_of_ble_eq_true rfl) dX1_init_7 (fun q_1 H hP hD hS => ?_)
  refine W.widen (k := 1) (n := 32) (by omega) (by omega) ?_
  have hP : va_P (dC, dI) vwCl [(h, .inr (1, [.null, .null, .null, .null, .null, .int 0])), (q_1, .inl (cJ, 32, .inr (.inl (fun _ => 0))))] H := hP
  have hD : va_D A [(h, .inr (1, [.null, .null, .null, .null, .null, .int 0])), (q_1, .inl (cJ, 32, .inr (.inl (fun _ => 0))))] := hD
  refine va_putF (D := (dC, dI)) (ci := 1) (v := .ref q_1) (ty := .array .long) (C := RX1) (T := TX1) (N := 6) hx hb hts (k_X1_init_in1) tyX1 tyX1_ok nmX1 hown hK hP hD hS 0 rfl rfl 0 (by decide) (hts _ k_X1_init_f9) (fun _ h9 => h9) rfl hin rfl (by decide +kernel) rfl rfl (Nat.le_of_ble_eq_true rfl) dX1_init_9 (fun H locs hP hD hS => ?_)
  have hP : va_P (dC, dI) vwCl [(h, .inr (1, [.ref q_1, .null, .null, .null, .null, .int 0])), (q_1, .inl (cJ, 32, .inr (.inl (fun _ => 0))))] H := hP
  have hD : va_D A [(h, .inr (1, [.ref q_1, .null, .null, .null, .null, .int 0])), (q_1, .inl (cJ, 32, .inr (.inl (fun _ => 0))))] := hD
  refine lv_aload_n hx hb dX1_init_12 rfl (lv_at hl 0 rfl) ?_
  refine lv_bipush (v := 32) hx hb dX1_init_13 (by decide) ?_
  refine ck_newa (atype := .int) (ty := .int) (a0 := (32, .inl (fun _ => 0))) (N' := 32) hx hb (hts _ k_X1_init_aint) rfl (by intro C h; cases h) hK hP hD hS hA 0 rfl (fun _ => rfl) (by decide) (by decide) (by decide) (Nat.le_of_ble_eq_true rfl) (Nat.le_of_ble_eq_true rfl) dX1_init_15 (fun q_2 H hP hD hS => ?_)
  refine W.widen (k := 2) (n := 64) (by omega) (by omega) ?_
  have hP : va_P (dC, dI) vwCl [(h, .inr (1, [.ref q_1, .null, .null, .null, .null, .int 0])), (q_1, .inl (cJ, 32, .inr (.inl (fun _ => 0)))), (q_2, .inl (cI, 32, .inl (fun _ => 0)))] H := hP
  have hD : va_D A [(h, .inr (1, [.ref q_1, .null, .null, .null, .null, .int 0])), (q_1, .inl (cJ, 32, .inr (.inl (fun _ => 0)))), (q_2, .inl (cI, 32, .inl (fun _ => 0)))] := hD
  refine va_putF (D := (dC, dI)) (ci := 1) (v := .ref q_2) (ty := .array .int) (C := RX1) (T := TX1) (N := 6) hx hb hts (k_X1_init_in1) tyX1 tyX1_ok nmX1 hown hK hP hD hS 0 rfl rfl 1 (by decide) (hts _ k_X1_init_f15) (fun _ h9 => h9) rfl hin rfl (by decide +kernel) rfl rfl (Nat.le_of_ble_eq_true rfl) dX1_init_17 (fun H locs hP hD hS => ?_)
  have hP : va_P (dC, dI) vwCl [(h, .inr (1, [.ref q_1, .ref q_2, .null, .null, .null, .int 0])), (q_1, .inl (cJ, 32, .inr (.inl (fun _ => 0)))), (q_2, .inl (cI, 32, .inl (fun _ => 0)))] H := hP
  have hD : va_D A [(h, .inr (1, [.ref q_1, .ref q_2, .null, .null, .null, .int 0])), (q_1, .inl (cJ, 32, .inr (.inl (fun _ => 0)))), (q_2, .inl (cI, 32, .inl (fun _ => 0)))] := hD
  refine lv_aload_n hx hb dX1_init_20 rfl (lv_at hl 0 rfl) ?_
  refine lv_bipush (v := 32) hx hb dX1_init_21 (by decide) ?_
  refine ck_newa (atype := .int) (ty := .int) (a0 := (32, .inl (fun _ => 0))) (N' := 32) hx hb (hts _ k_X1_init_aint) rfl (by intro C h; cases h) hK hP hD hS hA 0 rfl (fun _ => rfl) (by decide) (by decide) (by decide) (Nat.le_of_ble_eq_true rfl) (Nat.le_of_ble_eq_true rfl) dX1_init_23 (fun q_3 H hP hD hS => ?_)
  refine W.widen (k := 3) (n := 96) (by omega) (by omega) ?_
  have hP : va_P (dC, dI) vwCl [(h, .inr (1, [.ref q_1, .ref q_2, .null, .null, .null, .int 0])), (q_1, .inl (cJ, 32, .inr (.inl (fun _ => 0)))), (q_2, .inl (cI, 32, .inl (fun _ => 0))), (q_3, .inl (cI, 32, .inl (fun _ => 0)))] H := hP
  have hD : va_D A [(h, .inr (1, [.ref q_1, .ref q_2, .null, .null, .null, .int 0])), (q_1, .inl (cJ, 32, .inr (.inl (fun _ => 0)))), (q_2, .inl (cI, 32, .inl (fun _ => 0))), (q_3, .inl (cI, 32, .inl (fun _ => 0)))] := hD
  refine va_putF (D := (dC, dI)) (ci := 1) (v := .ref q_3) (ty := .array .int) (C := RX1) (T := TX1) (N := 6) hx hb hts (k_X1_init_in1) tyX1 tyX1_ok nmX1 hown hK hP hD hS 0 rfl rfl 2 (by decide) (hts _ k_X1_init_f19) (fun _ h9 => h9) rfl hin rfl (by decide +kernel) rfl rfl (Nat.le_of_ble_eq_true rfl) dX1_init_25 (fun H locs hP hD hS => ?_)
  have hP : va_P (dC, dI) vwCl [(h, .inr (1, [.ref q_1, .ref q_2, .ref q_3, .null, .null, .int 0])), (q_1, .inl (cJ, 32, .inr (.inl (fun _ => 0)))), (q_2, .inl (cI, 32, .inl (fun _ => 0))), (q_3, .inl (cI, 32, .inl (fun _ => 0)))] H := hP
  have hD : va_D A [(h, .inr (1, [.ref q_1, .ref q_2, .ref q_3, .null, .null, .int 0])), (q_1, .inl (cJ, 32, .inr (.inl (fun _ => 0)))), (q_2, .inl (cI, 32, .inl (fun _ => 0))), (q_3, .inl (cI, 32, .inl (fun _ => 0)))] := hD
  refine lv_aload_n hx hb dX1_init_28 rfl (lv_at hl 0 rfl) ?_
  refine lv_bipush (v := 32) hx hb dX1_init_29 (by decide) ?_
  refine ck_newa (atype := .int) (ty := .int) (a0 := (32, .inl (fun _ => 0))) (N' := 32) hx hb (hts _ k_X1_init_aint) rfl (by intro C h; cases h) hK hP hD hS hA 0 rfl (fun _ => rfl) (by decide) (by decide) (by decide) (Nat.le_of_ble_eq_true rfl) (Nat.le_of_ble_eq_true rfl) dX1_init_31 (fun q_4 H hP hD hS => ?_)
  refine W.widen (k := 4) (n := 128) (by omega) (by omega) ?_
  have hP : va_P (dC, dI) vwCl [(h, .inr (1, [.ref q_1, .ref q_2, .ref q_3, .null, .null, .int 0])), (q_1, .inl (cJ, 32, .inr (.inl (fun _ => 0)))), (q_2, .inl (cI, 32, .inl (fun _ => 0))), (q_3, .inl (cI, 32, .inl (fun _ => 0))), (q_4, .inl (cI, 32, .inl (fun _ => 0)))] H := hP
  have hD : va_D A [(h, .inr (1, [.ref q_1, .ref q_2, .ref q_3, .null, .null, .int 0])), (q_1, .inl (cJ, 32, .inr (.inl (fun _ => 0)))), (q_2, .inl (cI, 32, .inl (fun _ => 0))), (q_3, .inl (cI, 32, .inl (fun _ => 0))), (q_4, .inl (cI, 32, .inl (fun _ => 0)))] := hD
  refine va_putF (D := (dC, dI)) (ci := 1) (v := .ref q_4) (ty := .array .int) (C := RX1) (T := TX1) (N := 6) hx hb hts (k_X1_init_in1) tyX1 tyX1_ok nmX1 hown hK hP hD hS 0 rfl rfl 3 (by decide) (hts _ k_X1_init_f22) (fun _ h9 => h9) rfl hin rfl (by decide +kernel) rfl rfl (Nat.le_of_ble_eq_true rfl) dX1_init_33 (fun H locs hP hD hS => ?_)
  have hP : va_P (dC, dI) vwCl [(h, .inr (1, [.ref q_1, .ref q_2, .ref q_3, .ref q_4, .null, .int 0])), (q_1, .inl (cJ, 32, .inr (.inl (fun _ => 0)))), (q_2, .inl (cI, 32, .inl (fun _ => 0))), (q_3, .inl (cI, 32, .inl (fun _ => 0))), (q_4, .inl (cI, 32, .inl (fun _ => 0)))] H := hP
  have hD : va_D A [(h, .inr (1, [.ref q_1, .ref q_2, .ref q_3, .ref q_4, .null, .int 0])), (q_1, .inl (cJ, 32, .inr (.inl (fun _ => 0)))), (q_2, .inl (cI, 32, .inl (fun _ => 0))), (q_3, .inl (cI, 32, .inl (fun _ => 0))), (q_4, .inl (cI, 32, .inl (fun _ => 0)))] := hD
  refine lv_aload_n hx hb dX1_init_36 rfl (lv_at hl 0 rfl) ?_
  refine lv_bipush (v := 32) hx hb dX1_init_37 (by decide) ?_
  refine ck_newa (atype := .int) (ty := .int) (a0 := (32, .inl (fun _ => 0))) (N' := 32) hx hb (hts _ k_X1_init_aint) rfl (by intro C h; cases h) hK hP hD hS hA 0 rfl (fun _ => rfl) (by decide) (by decide) (by decide) (Nat.le_of_ble_eq_true rfl) (Nat.le_of_ble_eq_true rfl) dX1_init_39 (fun q_5 H hP hD hS => ?_)
  refine W.widen (k := 5) (n := 160) (by omega) (by omega) ?_
  have hP : va_P (dC, dI) vwCl [(h, .inr (1, [.ref q_1, .ref q_2, .ref q_3, .ref q_4, .null, .int 0])), (q_1, .inl (cJ, 32, .inr (.inl (fun _ => 0)))), (q_2, .inl (cI, 32, .inl (fun _ => 0))), (q_3, .inl (cI, 32, .inl (fun _ => 0))), (q_4, .inl (cI, 32, .inl (fun _ => 0))), (q_5, .inl (cI, 32, .inl (fun _ => 0)))] H := hP
  have hD : va_D A [(h, .inr (1, [.ref q_1, .ref q_2, .ref q_3, .ref q_4, .null, .int 0])), (q_1, .inl (cJ, 32, .inr (.inl (fun _ => 0)))), (q_2, .inl (cI, 32, .inl (fun _ => 0))), (q_3, .inl (cI, 32, .inl (fun _ => 0))), (q_4, .inl (cI, 32, .inl (fun _ => 0))), (q_5, .inl (cI, 32, .inl (fun _ => 0)))] := hD
  refine va_putF (D := (dC, dI)) (ci := 1) (v := .ref q_5) (ty := .array .int) (C := RX1) (T := TX1) (N := 6) hx hb hts (k_X1_init_in1) tyX1 tyX1_ok nmX1 hown hK hP hD hS 0 rfl rfl 4 (by decide) (hts _ k_X1_init_f25) (fun _ h9 => h9) rfl hin rfl (by decide +kernel) rfl rfl (Nat.le_of_ble_eq_true rfl) dX1_init_41 (fun H locs hP hD hS => ?_)
  have hP : va_P (dC, dI) vwCl [(h, .inr (1, [.ref q_1, .ref q_2, .ref q_3, .ref q_4, .ref q_5, .int 0])), (q_1, .inl (cJ, 32, .inr (.inl (fun _ => 0)))), (q_2, .inl (cI, 32, .inl (fun _ => 0))), (q_3, .inl (cI, 32, .inl (fun _ => 0))), (q_4, .inl (cI, 32, .inl (fun _ => 0))), (q_5, .inl (cI, 32, .inl (fun _ => 0)))] H := hP
  have hD : va_D A [(h, .inr (1, [.ref q_1, .ref q_2, .ref q_3, .ref q_4, .ref q_5, .int 0])), (q_1, .inl (cJ, 32, .inr (.inl (fun _ => 0)))), (q_2, .inl (cI, 32, .inl (fun _ => 0))), (q_3, .inl (cI, 32, .inl (fun _ => 0))), (q_4, .inl (cI, 32, .inl (fun _ => 0))), (q_5, .inl (cI, 32, .inl (fun _ => 0)))] := hD
  refine lv_aload_n hx hb dX1_init_44 rfl (lv_at hl 0 rfl) ?_
  refine lv_iconst (v := nI 0) hx hb dX1_init_45 (by decide) ?_
  refine va_put (D := (dC, dI)) (ci := 1) (v := .int (nI 0)) (ty := .int) (C := RX1) (T := TX1) (N := 6) hx hb hts (k_X1_init_in1) tyX1 tyX1_ok nmX1 hown hK hP hD hS 0 rfl rfl 5 (by decide) (hts _ k_X1_init_f28) (fun _ h9 => h9) rfl (by decide +kernel) rfl rfl (Nat.le_of_ble_eq_true rfl) dX1_init_46 (fun H locs hP hD hS => ?_)
  have hP : va_P (dC, dI) vwCl [(h, .inr (1, [.ref q_1, .ref q_2, .ref q_3, .ref q_4, .ref q_5, .int (nI 0)])), (q_1, .inl (cJ, 32, .inr (.inl (fun _ => 0)))), (q_2, .inl (cI, 32, .inl (fun _ => 0))), (q_3, .inl (cI, 32, .inl (fun _ => 0))), (q_4, .inl (cI, 32, .inl (fun _ => 0))), (q_5, .inl (cI, 32, .inl (fun _ => 0)))] H := hP
  have hD : va_D A [(h, .inr (1, [.ref q_1, .ref q_2, .ref q_3, .ref q_4, .ref q_5, .int (nI 0)])), (q_1, .inl (cJ, 32, .inr (.inl (fun _ => 0)))), (q_2, .inl (cI, 32, .inl (fun _ => 0))), (q_3, .inl (cI, 32, .inl (fun _ => 0))), (q_4, .inl (cI, 32, .inl (fun _ => 0))), (q_5, .inl (cI, 32, .inl (fun _ => 0)))] := hD
  refine ck_vr hx hb hr hlocks (Nat.le_of_ble_eq_true rfl) (Nat.le_of_ble_eq_true rfl) dX1_init_49 (q_1, q_2, q_3, q_4, q_5) hP hD hS ?_
  exact trivial
set_option maxRecDepth 20000 in
theorem k_X1_find_f28 : (.fieldLink RX1 28 "CookieListener$Halves" "count" "I" : Cond) ∈ wsX1_find := by decide +kernel
set_option maxRecDepth 20000 in
theorem k_X1_find_in1 : ∀ w ∈ u_ws RX1 TX1 6, w ∈ wsX1_find := by decide +kernel
set_option maxRecDepth 20000 in
theorem k_X1_find_f9 : (.fieldLink RX1 9 "CookieListener$Halves" "callers" "[J" : Cond) ∈ wsX1_find := by decide +kernel
set_option maxHeartbeats 4000000 in
set_option maxRecDepth 100000 in
theorem c_X1_find (l : Launch) (dC : Nat → ClassId) (dI : Nat → Nat → Nat) (cI cJ cZ : ClassId) (lo sz : Nat) (h a1 a2 a3 a4 a5 : Nat) (n : Nat) (f1 : Nat → Int64) (f2 f3 f4 f5 : Nat → Int32) (x : Int64) (hn : n ≤ 32) : Met l yX1_find wsX1_find ({ frames := 0, cells := 0, slots := 0, locals := 0 } : Room) (va_Pc [.ref h, .long x] (ck_P (dC, dI) [(cI, .int), (cJ, .long), (cZ, .boolean)] lo sz [(h, .inr (1, [.ref a1, .ref a2, .ref a3, .ref a4, .ref a5, .int (nI n)])), (a1, .inl (cJ, 32, .inr (.inl f1))), (a2, .inl (cI, 32, .inl f2)), (a3, .inl (cI, 32, .inl f3)), (a4, .inl (cI, 32, .inl f4)), (a5, .inl (cI, 32, .inl f5))])) (vp_Si (fun (r : Int32) => ck_fnd n f1 x r)) 0 0 (fun _ => False) := by
  refine Met.ofW (cc := cX1_find) (maxL := 4) (ret := (some .int)) (by decide) rfl ?_
  intro p e s m args below meth c s₁ B hml hv
  obtain ⟨rfl, hsz, hP, hK, hD0, hE⟩ := hv
  have hx := B.exec
  have hb := B.bytes
  have hr := B.returns
  have hts := atoms_spec (ws := wsX1_find) B.pre
  have hown : s.vm.findClass RX1 = some m.cls := findClass_of_methodNamed B.named
  have hlocks := B.notSynchronized
  subst hsz
  have hD := hD0.self (sz := s.heap.size)
  have hlo := ck_lo (sz := s.heap.size) hD0 hE.1
  generalize hAe : va_A [(h, .inr (1, [.ref a1, .ref a2, .ref a3, .ref a4, .ref a5, .int (nI n)])), (a1, .inl (cJ, 32, .inr (.inl f1))), (a2, .inl (cI, 32, .inl f2)), (a3, .inl (cI, 32, .inl f3)), (a4, .inl (cI, 32, .inl f4)), (a5, .inl (cI, 32, .inl f5))] s.heap.size = A at hD hlo
  have hA : ∀ q : Nat, s.heap.size ≤ q → A q := fun q h => by rw [← hAe]; exact Or.inr h
  have hG : ck_G (dC, dI) [(cI, .int), (cJ, .long), (cZ, .boolean)] lo A s := ⟨hK, hE, hA, hlo⟩
  have hS : va_S A s.heap s.heap [] := va_S.rf
  have hP : va_P (dC, dI) vwCl [(h, .inr (1, [.ref a1, .ref a2, .ref a3, .ref a4, .ref a5, .int (nI n)])), (a1, .inl (cJ, 32, .inr (.inl f1))), (a2, .inl (cI, 32, .inl f2)), (a3, .inl (cI, 32, .inl f3)), (a4, .inl (cI, 32, .inl f4)), (a5, .inl (cI, 32, .inl f5))] s.heap := hP
  have hl := lv_entry ([.ref h, .long x]) (n := 4) (Nat.le_of_ble_eq_true rfl)
  rw [lg_entry_eq]
  generalize (lg_sl ([.ref h, .long x]) ++ List.replicate (4 - (lg_sl ([.ref h, .long x])).length) Slot.unset).toArray = ls at hl ⊢
  have hl : lv_has ls 4 [(0, .ref h), (1, .long x)] := hl
  refine lv_iconst (v := nI 0) hx hb dX1_find_0 (by decide) ?_
  refine lv_istore_n (lv' := [(3, .int (nI 0)), (0, .ref h), (1, .long x)]) hx hb dX1_find_1 rfl hl (by decide) rfl (fun ls hl => ?_)
  have hloop : ∀ (fu : Nat) (i : Nat), (i ≤ n) → (n + 1 ≤ i + fu) → (∀ q, q < i → f1 q ≠ x) → ∀ (H : Heap) (locs : List Loc) (ls : Array Slot), H = s.heap → locs = [] → va_P (dC, dI) vwCl [(h, .inr (1, [.ref a1, .ref a2, .ref a3, .ref a4, .ref a5, .int (nI n)])), (a1, .inl (cJ, 32, .inr (.inl f1))), (a2, .inl (cI, 32, .inl f2)), (a3, .inl (cI, 32, .inl f3)), (a4, .inl (cI, 32, .inl f4)), (a5, .inl (cI, 32, .inl f5))] H → va_D A [(h, .inr (1, [.ref a1, .ref a2, .ref a3, .ref a4, .ref a5, .int (nI n)])), (a1, .inl (cJ, 32, .inr (.inl f1))), (a2, .inl (cI, 32, .inl f2)), (a3, .inl (cI, 32, .inl f3)), (a4, .inl (cI, 32, .inl f4)), (a5, .inl (cI, 32, .inl f5))] → va_S A s.heap H locs → lv_has ls 4 [(0, .ref h), (1, .long x), (3, .int (nI i))] → W p l e (headSpec wsX1_find ({ frames := 0, cells := 0, slots := 0, locals := 0 } : Room)).room s m (([.ref h, .long x] : List Value).toArray) below meth c H locs 0 0 (MQ below (vp_Si (fun (r : Int32) => ck_fnd n f1 x r)) (([.ref h, .long x] : List Value).toArray) s 0 0 (fun _ => False)) (F0 m 2 ls []) := by
    intro fu
    induction fu with
    | zero =>
      intro i hi hf hv
      exfalso
      omega
    | succ fu ih =>
      intro i hi hf hv H locs ls eH eL hP hD hS hl
      subst eH; subst eL
      refine lv_iload_n hx hb dX1_find_2 rfl (lv_at hl 2 rfl) ?_
      refine lv_aload_n hx hb dX1_find_3 rfl (lv_at hl 0 rfl) ?_
      refine va_get (D := (dC, dI)) (ci := 1) (v := .int (nI n)) (C := RX1) (T := TX1) (N := 6) hx hb hts (k_X1_find_in1) hown hK hP 0 rfl rfl 5 (by decide) (hts _ k_X1_find_f28) (fun _ h9 => h9) rfl dX1_find_4 ?_
      refine lv_icmp_ge (tgt := 29) hx hb dX1_find_7 (by decide) (fun c_7 => ?_) (fun c_7 => ?_)
      · skip
        have c_7 : n ≤ i := (nI_leI (by omega) (by omega)).mp c_7
        refine lv_iconst (v := (-1)) hx hb dX1_find_29 (by decide) ?_
        refine ck_iq hx hb hr hlocks dX1_find_30 ?_
        exact Or.inl ⟨rfl, fun q hq => hv q (by omega)⟩
      · skip
        have c_7 : ¬ (n ≤ i) := fun z => c_7 ((nI_leI (by omega) (by omega)).mpr z)
        refine lv_aload_n hx hb dX1_find_10 rfl (lv_at hl 0 rfl) ?_
        refine va_get (D := (dC, dI)) (ci := 1) (v := .ref a1) (C := RX1) (T := TX1) (N := 6) hx hb hts (k_X1_find_in1) hown hK hP 0 rfl rfl 0 (by decide) (hts _ k_X1_find_f9) (fun _ h9 => h9) rfl dX1_find_11 ?_
        refine lv_iload_n hx hb dX1_find_14 rfl (lv_at hl 2 rfl) ?_
        refine ck_lald hx hb hK hP 1 1 rfl rfl (by omega) (by decide) dX1_find_15 ?_
        refine lv_lload_n hx hb dX1_find_16 rfl (lv_at hl 1 rfl) ?_
        refine W.lcmp hx hb dX1_find_17 ?_
        refine lv_if_ne (tgt := 23) hx hb dX1_find_18 (by decide) (fun c_18 => ?_) (fun c_18 => ?_)
        · skip
          refine lv_iinc (v := nI (i + 1)) (lv' := [(3, .int (nI (i + 1))), (0, .ref h), (1, .long x)]) hx hb dX1_find_23 hl (k := 2) rfl (nI_1 _) (by decide) rfl (fun ls hl => ?_)
          refine lv_goto (tgt := 2) hx hb dX1_find_26 (by decide) ?_
          exact ih (i + 1) (by omega) (by omega) (lt_s hv (fun e => c_18 ((lg_cmp_eq _ _).mpr e))) _ _ _ rfl rfl (hP.sub [0, 1, 2, 3, 4, 5] rfl) (hD.sub [0, 1, 2, 3, 4, 5] (by decide) rfl) hS (lv_sub hl [1, 2, 0] rfl)
        · skip
          refine lv_iload_n hx hb dX1_find_21 rfl (lv_at hl 2 rfl) ?_
          refine ck_iq hx hb hr hlocks dX1_find_22 ?_
          exact Or.inr ⟨i, by omega, rfl, (lg_cmp_eq _ _).mp c_18⟩
  exact hloop (n + 1) 0 (by omega) (by omega) (fun q hq => absurd hq (Nat.not_lt_zero q)) _ _ _ rfl rfl (hP.sub [0, 1, 2, 3, 4, 5] rfl) (hD.sub [0, 1, 2, 3, 4, 5] (by decide) rfl) hS (lv_sub hl [1, 2, 0] rfl)
set_option maxRecDepth 20000 in
theorem k_X1_add_f28 : (.fieldLink RX1 28 "CookieListener$Halves" "count" "I" : Cond) ∈ wsX1_add := by decide +kernel
set_option maxRecDepth 20000 in
theorem k_X1_add_in1 : ∀ w ∈ u_ws RX1 TX1 6, w ∈ wsX1_add := by decide +kernel
set_option maxRecDepth 20000 in
theorem k_X1_add_f9 : (.fieldLink RX1 9 "CookieListener$Halves" "callers" "[J" : Cond) ∈ wsX1_add := by decide +kernel
set_option maxRecDepth 20000 in
theorem k_X1_add_f15 : (.fieldLink RX1 15 "CookieListener$Halves" "numbers" "[I" : Cond) ∈ wsX1_add := by decide +kernel
set_option maxRecDepth 20000 in
theorem k_X1_add_f19 : (.fieldLink RX1 19 "CookieListener$Halves" "answers" "[I" : Cond) ∈ wsX1_add := by decide +kernel
set_option maxRecDepth 20000 in
theorem k_X1_add_f22 : (.fieldLink RX1 22 "CookieListener$Halves" "kinds" "[I" : Cond) ∈ wsX1_add := by decide +kernel
set_option maxRecDepth 20000 in
theorem k_X1_add_f25 : (.fieldLink RX1 25 "CookieListener$Halves" "asked" "[I" : Cond) ∈ wsX1_add := by decide +kernel
set_option maxHeartbeats 4000000 in
set_option maxRecDepth 100000 in
theorem c_X1_add (l : Launch) (dC : Nat → ClassId) (dI : Nat → Nat → Nat) (cI cJ cZ : ClassId) (lo sz : Nat) (h a1 a2 a3 a4 a5 : Nat) (n : Nat) (f1 : Nat → Int64) (f2 f3 f4 f5 : Nat → Int32) (x : Int64) (num ans kd now : Int32) (hn : n < 32) : Met l yX1_add wsX1_add ({ frames := 0, cells := 0, slots := 0, locals := 0 } : Room) (va_Pc [.ref h, .long x, .int num, .int ans, .int kd, .int now] (ck_P (dC, dI) [(cI, .int), (cJ, .long), (cZ, .boolean)] lo sz [(h, .inr (1, [.ref a1, .ref a2, .ref a3, .ref a4, .ref a5, .int (nI n)])), (a1, .inl (cJ, 32, .inr (.inl f1))), (a2, .inl (cI, 32, .inl f2)), (a3, .inl (cI, 32, .inl f3)), (a4, .inl (cI, 32, .inl f4)), (a5, .inl (cI, 32, .inl f5))])) (va_Qv (fun (u : Unit) => True) (fun u => ck_B (dC, dI) vwCl (va_A [(h, .inr (1, [.ref a1, .ref a2, .ref a3, .ref a4, .ref a5, .int (nI n)])), (a1, .inl (cJ, 32, .inr (.inl f1))), (a2, .inl (cI, 32, .inl f2)), (a3, .inl (cI, 32, .inl f3)), (a4, .inl (cI, 32, .inl f4)), (a5, .inl (cI, 32, .inl f5))] sz) ((fun u : Unit => ([(h, .inr (1, [.ref a1, .ref a2, .ref a3, .ref a4, .ref a5, .int (nI (n + 1))])), (a1, .inl (cJ, 32, .inr (.inl (vp_updL f1 n x)))), (a2, .inl (cI, 32, .inl (upd f2 n num))), (a3, .inl (cI, 32, .inl (upd f3 n ans))), (a4, .inl (cI, 32, .inl (upd f4 n kd))), (a5, .inl (cI, 32, .inl (upd f5 n now)))] : va_W)) u)) (va_A [(h, .inr (1, [.ref a1, .ref a2, .ref a3, .ref a4, .ref a5, .int (nI n)])), (a1, .inl (cJ, 32, .inr (.inl f1))), (a2, .inl (cI, 32, .inl f2)), (a3, .inl (cI, 32, .inl f3)), (a4, .inl (cI, 32, .inl f4)), (a5, .inl (cI, 32, .inl f5))] sz)) 0 0 (va_A [(h, .inr (1, [.ref a1, .ref a2, .ref a3, .ref a4, .ref a5, .int (nI n)])), (a1, .inl (cJ, 32, .inr (.inl f1))), (a2, .inl (cI, 32, .inl f2)), (a3, .inl (cI, 32, .inl f3)), (a4, .inl (cI, 32, .inl f4)), (a5, .inl (cI, 32, .inl f5))] sz) := by
  refine Met.ofW (cc := cX1_add) (maxL := 7) (ret := none) (by decide) rfl ?_
  intro p e s m args below meth c s₁ B hml hv
  obtain ⟨rfl, hsz, hP, hK, hD0, hE⟩ := hv
  have hx := B.exec
  have hb := B.bytes
  have hr := B.returns
  have hts := atoms_spec (ws := wsX1_add) B.pre
  have hown : s.vm.findClass RX1 = some m.cls := findClass_of_methodNamed B.named
  have hlocks := B.notSynchronized
  subst hsz
  have hD := hD0.self (sz := s.heap.size)
  have hlo := ck_lo (sz := s.heap.size) hD0 hE.1
  generalize hAe : va_A [(h, .inr (1, [.ref a1, .ref a2, .ref a3, .ref a4, .ref a5, .int (nI n)])), (a1, .inl (cJ, 32, .inr (.inl f1))), (a2, .inl (cI, 32, .inl f2)), (a3, .inl (cI, 32, .inl f3)), (a4, .inl (cI, 32, .inl f4)), (a5, .inl (cI, 32, .inl f5))] s.heap.size = A at hD hlo ⊢
  have hA : ∀ q : Nat, s.heap.size ≤ q → A q := fun q h => by rw [← hAe]; exact Or.inr h
  have hG : ck_G (dC, dI) [(cI, .int), (cJ, .long), (cZ, .boolean)] lo A s := ⟨hK, hE, hA, hlo⟩
  have hS : va_S A s.heap s.heap [] := va_S.rf
  have hP : va_P (dC, dI) vwCl [(h, .inr (1, [.ref a1, .ref a2, .ref a3, .ref a4, .ref a5, .int (nI n)])), (a1, .inl (cJ, 32, .inr (.inl f1))), (a2, .inl (cI, 32, .inl f2)), (a3, .inl (cI, 32, .inl f3)), (a4, .inl (cI, 32, .inl f4)), (a5, .inl (cI, 32, .inl f5))] s.heap := hP
  have hl := lv_entry ([.ref h, .long x, .int num, .int ans, .int kd, .int now]) (n := 7) (Nat.le_of_ble_eq_true rfl)
  rw [lg_entry_eq]
  generalize (lg_sl ([.ref h, .long x, .int num, .int ans, .int kd, .int now]) ++ List.replicate (7 - (lg_sl ([.ref h, .long x, .int num, .int ans, .int kd, .int now])).length) Slot.unset).toArray = ls at hl ⊢
  have hl : lv_has ls 7 [(0, .ref h), (1, .long x), (3, .int num), (4, .int ans), (5, .int kd), (6, .int now)] := hl
  refine lv_aload_n hx hb dX1_add_0 rfl (lv_at hl 0 rfl) ?_
  refine va_get (D := (dC, dI)) (ci := 1) (v := .int (nI n)) (C := RX1) (T := TX1) (N := 6) hx hb hts (k_X1_add_in1) hown hK hP 0 rfl rfl 5 (by decide) (hts _ k_X1_add_f28) (fun _ h9 => h9) rfl dX1_add_1 ?_
  refine lv_bipush (v := nI 32) hx hb dX1_add_4 (by decide) ?_
  refine lv_icmp_lt (tgt := 10) hx hb dX1_add_6 (by decide) (fun c_6 => ?_) (fun c_6 => ?_)
  · skip
    have c_6 : n < 32 := (nI_ltI (by omega) (by omega)).mp c_6
    refine lv_aload_n hx hb dX1_add_10 rfl (lv_at hl 0 rfl) ?_
    refine va_get (D := (dC, dI)) (ci := 1) (v := .ref a1) (C := RX1) (T := TX1) (N := 6) hx hb hts (k_X1_add_in1) hown hK hP 0 rfl rfl 0 (by decide) (hts _ k_X1_add_f9) (fun _ h9 => h9) rfl dX1_add_11 ?_
    refine lv_aload_n hx hb dX1_add_14 rfl (lv_at hl 0 rfl) ?_
    refine va_get (D := (dC, dI)) (ci := 1) (v := .int (nI n)) (C := RX1) (T := TX1) (N := 6) hx hb hts (k_X1_add_in1) hown hK hP 0 rfl rfl 5 (by decide) (hts _ k_X1_add_f28) (fun _ h9 => h9) rfl dX1_add_15 ?_
    refine lv_lload_n hx hb dX1_add_18 rfl (lv_at hl 1 rfl) ?_
    refine ck_last hx hb hK hP hD hS 1 1 rfl rfl (by omega) (by decide) dX1_add_19 (fun H locs hP hD hS => ?_)
    have hP : va_P (dC, dI) vwCl [(h, .inr (1, [.ref a1, .ref a2, .ref a3, .ref a4, .ref a5, .int (nI n)])), (a1, .inl (cJ, 32, .inr (.inl (vp_updL f1 n x)))), (a2, .inl (cI, 32, .inl f2)), (a3, .inl (cI, 32, .inl f3)), (a4, .inl (cI, 32, .inl f4)), (a5, .inl (cI, 32, .inl f5))] H := hP
    have hD : va_D A [(h, .inr (1, [.ref a1, .ref a2, .ref a3, .ref a4, .ref a5, .int (nI n)])), (a1, .inl (cJ, 32, .inr (.inl (vp_updL f1 n x)))), (a2, .inl (cI, 32, .inl f2)), (a3, .inl (cI, 32, .inl f3)), (a4, .inl (cI, 32, .inl f4)), (a5, .inl (cI, 32, .inl f5))] := hD
    refine lv_aload_n hx hb dX1_add_20 rfl (lv_at hl 0 rfl) ?_
    refine va_get (D := (dC, dI)) (ci := 1) (v := .ref a2) (C := RX1) (T := TX1) (N := 6) hx hb hts (k_X1_add_in1) hown hK hP 0 rfl rfl 1 (by decide) (hts _ k_X1_add_f15) (fun _ h9 => h9) rfl dX1_add_21 ?_
    refine lv_aload_n hx hb dX1_add_24 rfl (lv_at hl 0 rfl) ?_
    refine va_get (D := (dC, dI)) (ci := 1) (v := .int (nI n)) (C := RX1) (T := TX1) (N := 6) hx hb hts (k_X1_add_in1) hown hK hP 0 rfl rfl 5 (by decide) (hts _ k_X1_add_f28) (fun _ h9 => h9) rfl dX1_add_25 ?_
    refine lv_iload_n hx hb dX1_add_28 rfl (lv_at hl 2 rfl) ?_
    refine ck_iast hx hb hK hP hD hS 2 0 rfl rfl (by omega) (by decide) dX1_add_29 (fun H locs hP hD hS => ?_)
    have hP : va_P (dC, dI) vwCl [(h, .inr (1, [.ref a1, .ref a2, .ref a3, .ref a4, .ref a5, .int (nI n)])), (a1, .inl (cJ, 32, .inr (.inl (vp_updL f1 n x)))), (a2, .inl (cI, 32, .inl (upd f2 n num))), (a3, .inl (cI, 32, .inl f3)), (a4, .inl (cI, 32, .inl f4)), (a5, .inl (cI, 32, .inl f5))] H := hP
    have hD : va_D A [(h, .inr (1, [.ref a1, .ref a2, .ref a3, .ref a4, .ref a5, .int (nI n)])), (a1, .inl (cJ, 32, .inr (.inl (vp_updL f1 n x)))), (a2, .inl (cI, 32, .inl (upd f2 n num))), (a3, .inl (cI, 32, .inl f3)), (a4, .inl (cI, 32, .inl f4)), (a5, .inl (cI, 32, .inl f5))] := hD
    refine lv_aload_n hx hb dX1_add_30 rfl (lv_at hl 0 rfl) ?_
    refine va_get (D := (dC, dI)) (ci := 1) (v := .ref a3) (C := RX1) (T := TX1) (N := 6) hx hb hts (k_X1_add_in1) hown hK hP 0 rfl rfl 2 (by decide) (hts _ k_X1_add_f19) (fun _ h9 => h9) rfl dX1_add_31 ?_
    refine lv_aload_n hx hb dX1_add_34 rfl (lv_at hl 0 rfl) ?_
    refine va_get (D := (dC, dI)) (ci := 1) (v := .int (nI n)) (C := RX1) (T := TX1) (N := 6) hx hb hts (k_X1_add_in1) hown hK hP 0 rfl rfl 5 (by decide) (hts _ k_X1_add_f28) (fun _ h9 => h9) rfl dX1_add_35 ?_
    refine lv_iload hx hb dX1_add_38 (lv_at hl 3 rfl) ?_
    refine ck_iast hx hb hK hP hD hS 3 0 rfl rfl (by omega) (by decide) dX1_add_40 (fun H locs hP hD hS => ?_)
    have hP : va_P (dC, dI) vwCl [(h, .inr (1, [.ref a1, .ref a2, .ref a3, .ref a4, .ref a5, .int (nI n)])), (a1, .inl (cJ, 32, .inr (.inl (vp_updL f1 n x)))), (a2, .inl (cI, 32, .inl (upd f2 n num))), (a3, .inl (cI, 32, .inl (upd f3 n ans))), (a4, .inl (cI, 32, .inl f4)), (a5, .inl (cI, 32, .inl f5))] H := hP
    have hD : va_D A [(h, .inr (1, [.ref a1, .ref a2, .ref a3, .ref a4, .ref a5, .int (nI n)])), (a1, .inl (cJ, 32, .inr (.inl (vp_updL f1 n x)))), (a2, .inl (cI, 32, .inl (upd f2 n num))), (a3, .inl (cI, 32, .inl (upd f3 n ans))), (a4, .inl (cI, 32, .inl f4)), (a5, .inl (cI, 32, .inl f5))] := hD
    refine lv_aload_n hx hb dX1_add_41 rfl (lv_at hl 0 rfl) ?_
    refine va_get (D := (dC, dI)) (ci := 1) (v := .ref a4) (C := RX1) (T := TX1) (N := 6) hx hb hts (k_X1_add_in1) hown hK hP 0 rfl rfl 3 (by decide) (hts _ k_X1_add_f22) (fun _ h9 => h9) rfl dX1_add_42 ?_
    refine lv_aload_n hx hb dX1_add_45 rfl (lv_at hl 0 rfl) ?_
    refine va_get (D := (dC, dI)) (ci := 1) (v := .int (nI n)) (C := RX1) (T := TX1) (N := 6) hx hb hts (k_X1_add_in1) hown hK hP 0 rfl rfl 5 (by decide) (hts _ k_X1_add_f28) (fun _ h9 => h9) rfl dX1_add_46 ?_
    refine lv_iload hx hb dX1_add_49 (lv_at hl 4 rfl) ?_
    refine ck_iast hx hb hK hP hD hS 4 0 rfl rfl (by omega) (by decide) dX1_add_51 (fun H locs hP hD hS => ?_)
    have hP : va_P (dC, dI) vwCl [(h, .inr (1, [.ref a1, .ref a2, .ref a3, .ref a4, .ref a5, .int (nI n)])), (a1, .inl (cJ, 32, .inr (.inl (vp_updL f1 n x)))), (a2, .inl (cI, 32, .inl (upd f2 n num))), (a3, .inl (cI, 32, .inl (upd f3 n ans))), (a4, .inl (cI, 32, .inl (upd f4 n kd))), (a5, .inl (cI, 32, .inl f5))] H := hP
    have hD : va_D A [(h, .inr (1, [.ref a1, .ref a2, .ref a3, .ref a4, .ref a5, .int (nI n)])), (a1, .inl (cJ, 32, .inr (.inl (vp_updL f1 n x)))), (a2, .inl (cI, 32, .inl (upd f2 n num))), (a3, .inl (cI, 32, .inl (upd f3 n ans))), (a4, .inl (cI, 32, .inl (upd f4 n kd))), (a5, .inl (cI, 32, .inl f5))] := hD
    refine lv_aload_n hx hb dX1_add_52 rfl (lv_at hl 0 rfl) ?_
    refine va_get (D := (dC, dI)) (ci := 1) (v := .ref a5) (C := RX1) (T := TX1) (N := 6) hx hb hts (k_X1_add_in1) hown hK hP 0 rfl rfl 4 (by decide) (hts _ k_X1_add_f25) (fun _ h9 => h9) rfl dX1_add_53 ?_
    refine lv_aload_n hx hb dX1_add_56 rfl (lv_at hl 0 rfl) ?_
    refine va_get (D := (dC, dI)) (ci := 1) (v := .int (nI n)) (C := RX1) (T := TX1) (N := 6) hx hb hts (k_X1_add_in1) hown hK hP 0 rfl rfl 5 (by decide) (hts _ k_X1_add_f28) (fun _ h9 => h9) rfl dX1_add_57 ?_
    refine lv_iload hx hb dX1_add_60 (lv_at hl 5 rfl) ?_
    refine ck_iast hx hb hK hP hD hS 5 0 rfl rfl (by omega) (by decide) dX1_add_62 (fun H locs hP hD hS => ?_)
    have hP : va_P (dC, dI) vwCl [(h, .inr (1, [.ref a1, .ref a2, .ref a3, .ref a4, .ref a5, .int (nI n)])), (a1, .inl (cJ, 32, .inr (.inl (vp_updL f1 n x)))), (a2, .inl (cI, 32, .inl (upd f2 n num))), (a3, .inl (cI, 32, .inl (upd f3 n ans))), (a4, .inl (cI, 32, .inl (upd f4 n kd))), (a5, .inl (cI, 32, .inl (upd f5 n now)))] H := hP
    have hD : va_D A [(h, .inr (1, [.ref a1, .ref a2, .ref a3, .ref a4, .ref a5, .int (nI n)])), (a1, .inl (cJ, 32, .inr (.inl (vp_updL f1 n x)))), (a2, .inl (cI, 32, .inl (upd f2 n num))), (a3, .inl (cI, 32, .inl (upd f3 n ans))), (a4, .inl (cI, 32, .inl (upd f4 n kd))), (a5, .inl (cI, 32, .inl (upd f5 n now)))] := hD
    refine lv_aload_n hx hb dX1_add_63 rfl (lv_at hl 0 rfl) ?_
    refine lv_dup hx hb dX1_add_64 rfl ?_
    refine va_get (D := (dC, dI)) (ci := 1) (v := .int (nI n)) (C := RX1) (T := TX1) (N := 6) hx hb hts (k_X1_add_in1) hown hK hP 0 rfl rfl 5 (by decide) (hts _ k_X1_add_f28) (fun _ h9 => h9) rfl dX1_add_65 ?_
    refine lv_iconst (v := 1) hx hb dX1_add_68 (by decide) ?_
    refine lv_iadd hx hb dX1_add_69 ?_
    refine ck_toi (y := nI (n + 1)) (nI_1 _) ?_
    refine va_put (D := (dC, dI)) (ci := 1) (v := .int (nI (n + 1))) (ty := .int) (C := RX1) (T := TX1) (N := 6) hx hb hts (k_X1_add_in1) tyX1 tyX1_ok nmX1 hown hK hP hD hS 0 rfl rfl 5 (by decide) (hts _ k_X1_add_f28) (fun _ h9 => h9) rfl (by decide +kernel) rfl rfl (Nat.le_of_ble_eq_true rfl) dX1_add_70 (fun H locs hP hD hS => ?_)
    have hP : va_P (dC, dI) vwCl [(h, .inr (1, [.ref a1, .ref a2, .ref a3, .ref a4, .ref a5, .int (nI (n + 1))])), (a1, .inl (cJ, 32, .inr (.inl (vp_updL f1 n x)))), (a2, .inl (cI, 32, .inl (upd f2 n num))), (a3, .inl (cI, 32, .inl (upd f3 n ans))), (a4, .inl (cI, 32, .inl (upd f4 n kd))), (a5, .inl (cI, 32, .inl (upd f5 n now)))] H := hP
    have hD : va_D A [(h, .inr (1, [.ref a1, .ref a2, .ref a3, .ref a4, .ref a5, .int (nI (n + 1))])), (a1, .inl (cJ, 32, .inr (.inl (vp_updL f1 n x)))), (a2, .inl (cI, 32, .inl (upd f2 n num))), (a3, .inl (cI, 32, .inl (upd f3 n ans))), (a4, .inl (cI, 32, .inl (upd f4 n kd))), (a5, .inl (cI, 32, .inl (upd f5 n now)))] := hD
    subst_vars
    refine ck_vr hx hb hr hlocks (Nat.le_of_ble_eq_true rfl) (Nat.le_of_ble_eq_true rfl) dX1_add_73 () hP hD hS ?_
    exact trivial
  · skip
    have c_6 : ¬ (n < 32) := fun z => c_6 ((nI_ltI (by omega) (by omega)).mpr z)
    omega
set_option maxRecDepth 20000 in
theorem k_X1_drop_f28 : (.fieldLink RX1 28 "CookieListener$Halves" "count" "I" : Cond) ∈ wsX1_drop := by decide +kernel
set_option maxRecDepth 20000 in
theorem k_X1_drop_in1 : ∀ w ∈ u_ws RX1 TX1 6, w ∈ wsX1_drop := by decide +kernel
set_option maxRecDepth 20000 in
theorem k_X1_drop_f9 : (.fieldLink RX1 9 "CookieListener$Halves" "callers" "[J" : Cond) ∈ wsX1_drop := by decide +kernel
set_option maxRecDepth 20000 in
theorem k_X1_drop_f15 : (.fieldLink RX1 15 "CookieListener$Halves" "numbers" "[I" : Cond) ∈ wsX1_drop := by decide +kernel
set_option maxRecDepth 20000 in
theorem k_X1_drop_f19 : (.fieldLink RX1 19 "CookieListener$Halves" "answers" "[I" : Cond) ∈ wsX1_drop := by decide +kernel
set_option maxRecDepth 20000 in
theorem k_X1_drop_f22 : (.fieldLink RX1 22 "CookieListener$Halves" "kinds" "[I" : Cond) ∈ wsX1_drop := by decide +kernel
set_option maxRecDepth 20000 in
theorem k_X1_drop_f25 : (.fieldLink RX1 25 "CookieListener$Halves" "asked" "[I" : Cond) ∈ wsX1_drop := by decide +kernel
set_option maxHeartbeats 4000000 in
set_option maxRecDepth 100000 in
theorem c_X1_drop (l : Launch) (dC : Nat → ClassId) (dI : Nat → Nat → Nat) (cI cJ cZ : ClassId) (lo sz : Nat) (h a1 a2 a3 a4 a5 : Nat) (n : Nat) (f1 : Nat → Int64) (f2 f3 f4 f5 : Nat → Int32) (j : Nat) (hn : n < 32) (hj : j < n + 1) : Met l yX1_drop wsX1_drop ({ frames := 0, cells := 0, slots := 0, locals := 0 } : Room) (va_Pc [.ref h, .int (nI j)] (ck_P (dC, dI) [(cI, .int), (cJ, .long), (cZ, .boolean)] lo sz [(h, .inr (1, [.ref a1, .ref a2, .ref a3, .ref a4, .ref a5, .int (nI (n + 1))])), (a1, .inl (cJ, 32, .inr (.inl f1))), (a2, .inl (cI, 32, .inl f2)), (a3, .inl (cI, 32, .inl f3)), (a4, .inl (cI, 32, .inl f4)), (a5, .inl (cI, 32, .inl f5))])) (va_Qv (fun (u : Unit) => True) (fun u => ck_B (dC, dI) vwCl (va_A [(h, .inr (1, [.ref a1, .ref a2, .ref a3, .ref a4, .ref a5, .int (nI (n + 1))])), (a1, .inl (cJ, 32, .inr (.inl f1))), (a2, .inl (cI, 32, .inl f2)), (a3, .inl (cI, 32, .inl f3)), (a4, .inl (cI, 32, .inl f4)), (a5, .inl (cI, 32, .inl f5))] sz) ((fun u : Unit => ([(h, .inr (1, [.ref a1, .ref a2, .ref a3, .ref a4, .ref a5, .int (nI n)])), (a1, .inl (cJ, 32, .inr (.inl (vp_updL f1 j (f1 n))))), (a2, .inl (cI, 32, .inl (upd f2 j (f2 n)))), (a3, .inl (cI, 32, .inl (upd f3 j (f3 n)))), (a4, .inl (cI, 32, .inl (upd f4 j (f4 n)))), (a5, .inl (cI, 32, .inl (upd f5 j (f5 n))))] : va_W)) u)) (va_A [(h, .inr (1, [.ref a1, .ref a2, .ref a3, .ref a4, .ref a5, .int (nI (n + 1))])), (a1, .inl (cJ, 32, .inr (.inl f1))), (a2, .inl (cI, 32, .inl f2)), (a3, .inl (cI, 32, .inl f3)), (a4, .inl (cI, 32, .inl f4)), (a5, .inl (cI, 32, .inl f5))] sz)) 0 0 (va_A [(h, .inr (1, [.ref a1, .ref a2, .ref a3, .ref a4, .ref a5, .int (nI (n + 1))])), (a1, .inl (cJ, 32, .inr (.inl f1))), (a2, .inl (cI, 32, .inl f2)), (a3, .inl (cI, 32, .inl f3)), (a4, .inl (cI, 32, .inl f4)), (a5, .inl (cI, 32, .inl f5))] sz) := by
  refine Met.ofW (cc := cX1_drop) (maxL := 2) (ret := none) (by decide) rfl ?_
  intro p e s m args below meth c s₁ B hml hv
  obtain ⟨rfl, hsz, hP, hK, hD0, hE⟩ := hv
  have hx := B.exec
  have hb := B.bytes
  have hr := B.returns
  have hts := atoms_spec (ws := wsX1_drop) B.pre
  have hown : s.vm.findClass RX1 = some m.cls := findClass_of_methodNamed B.named
  have hlocks := B.notSynchronized
  subst hsz
  have hD := hD0.self (sz := s.heap.size)
  have hlo := ck_lo (sz := s.heap.size) hD0 hE.1
  generalize hAe : va_A [(h, .inr (1, [.ref a1, .ref a2, .ref a3, .ref a4, .ref a5, .int (nI (n + 1))])), (a1, .inl (cJ, 32, .inr (.inl f1))), (a2, .inl (cI, 32, .inl f2)), (a3, .inl (cI, 32, .inl f3)), (a4, .inl (cI, 32, .inl f4)), (a5, .inl (cI, 32, .inl f5))] s.heap.size = A at hD hlo ⊢
  have hA : ∀ q : Nat, s.heap.size ≤ q → A q := fun q h => by rw [← hAe]; exact Or.inr h
  have hG : ck_G (dC, dI) [(cI, .int), (cJ, .long), (cZ, .boolean)] lo A s := ⟨hK, hE, hA, hlo⟩
  have hS : va_S A s.heap s.heap [] := va_S.rf
  have hP : va_P (dC, dI) vwCl [(h, .inr (1, [.ref a1, .ref a2, .ref a3, .ref a4, .ref a5, .int (nI (n + 1))])), (a1, .inl (cJ, 32, .inr (.inl f1))), (a2, .inl (cI, 32, .inl f2)), (a3, .inl (cI, 32, .inl f3)), (a4, .inl (cI, 32, .inl f4)), (a5, .inl (cI, 32, .inl f5))] s.heap := hP
  have hl := lv_entry ([.ref h, .int (nI j)]) (n := 2) (Nat.le_of_ble_eq_true rfl)
  rw [lg_entry_eq]
  generalize (lg_sl ([.ref h, .int (nI j)]) ++ List.replicate (2 - (lg_sl ([.ref h, .int (nI j)])).length) Slot.unset).toArray = ls at hl ⊢
  have hl : lv_has ls 2 [(0, .ref h), (1, .int (nI j))] := hl
  refine lv_iload_n hx hb dX1_drop_0 rfl (lv_at hl 1 rfl) ?_
  refine lv_if_lt (tgt := 12) hx hb dX1_drop_1 (by decide) (fun c_1 => ?_) (fun c_1 => ?_)
  · skip
    exact absurd c_1 (nI_pos (by omega))
  · skip
    refine lv_iload_n hx hb dX1_drop_4 rfl (lv_at hl 1 rfl) ?_
    refine lv_aload_n hx hb dX1_drop_5 rfl (lv_at hl 0 rfl) ?_
    refine va_get (D := (dC, dI)) (ci := 1) (v := .int (nI (n + 1))) (C := RX1) (T := TX1) (N := 6) hx hb hts (k_X1_drop_in1) hown hK hP 0 rfl rfl 5 (by decide) (hts _ k_X1_drop_f28) (fun _ h9 => h9) rfl dX1_drop_6 ?_
    refine lv_icmp_lt (tgt := 13) hx hb dX1_drop_9 (by decide) (fun c_9 => ?_) (fun c_9 => ?_)
    · skip
      have c_9 : j < (n + 1) := (nI_ltI (by omega) (by omega)).mp c_9
      refine lv_aload_n hx hb dX1_drop_13 rfl (lv_at hl 0 rfl) ?_
      refine lv_dup hx hb dX1_drop_14 rfl ?_
      refine va_get (D := (dC, dI)) (ci := 1) (v := .int (nI (n + 1))) (C := RX1) (T := TX1) (N := 6) hx hb hts (k_X1_drop_in1) hown hK hP 0 rfl rfl 5 (by decide) (hts _ k_X1_drop_f28) (fun _ h9 => h9) rfl dX1_drop_15 ?_
      refine lv_iconst (v := 1) hx hb dX1_drop_18 (by decide) ?_
      refine lv_isub hx hb dX1_drop_19 ?_
      refine ck_toi (y := nI n) (nI_pred _) ?_
      refine va_put (D := (dC, dI)) (ci := 1) (v := .int (nI n)) (ty := .int) (C := RX1) (T := TX1) (N := 6) hx hb hts (k_X1_drop_in1) tyX1 tyX1_ok nmX1 hown hK hP hD hS 0 rfl rfl 5 (by decide) (hts _ k_X1_drop_f28) (fun _ h9 => h9) rfl (by decide +kernel) rfl rfl (Nat.le_of_ble_eq_true rfl) dX1_drop_20 (fun H locs hP hD hS => ?_)
      have hP : va_P (dC, dI) vwCl [(h, .inr (1, [.ref a1, .ref a2, .ref a3, .ref a4, .ref a5, .int (nI n)])), (a1, .inl (cJ, 32, .inr (.inl f1))), (a2, .inl (cI, 32, .inl f2)), (a3, .inl (cI, 32, .inl f3)), (a4, .inl (cI, 32, .inl f4)), (a5, .inl (cI, 32, .inl f5))] H := hP
      have hD : va_D A [(h, .inr (1, [.ref a1, .ref a2, .ref a3, .ref a4, .ref a5, .int (nI n)])), (a1, .inl (cJ, 32, .inr (.inl f1))), (a2, .inl (cI, 32, .inl f2)), (a3, .inl (cI, 32, .inl f3)), (a4, .inl (cI, 32, .inl f4)), (a5, .inl (cI, 32, .inl f5))] := hD
      refine lv_aload_n hx hb dX1_drop_23 rfl (lv_at hl 0 rfl) ?_
      refine va_get (D := (dC, dI)) (ci := 1) (v := .ref a1) (C := RX1) (T := TX1) (N := 6) hx hb hts (k_X1_drop_in1) hown hK hP 0 rfl rfl 0 (by decide) (hts _ k_X1_drop_f9) (fun _ h9 => h9) rfl dX1_drop_24 ?_
      refine lv_iload_n hx hb dX1_drop_27 rfl (lv_at hl 1 rfl) ?_
      refine lv_aload_n hx hb dX1_drop_28 rfl (lv_at hl 0 rfl) ?_
      refine va_get (D := (dC, dI)) (ci := 1) (v := .ref a1) (C := RX1) (T := TX1) (N := 6) hx hb hts (k_X1_drop_in1) hown hK hP 0 rfl rfl 0 (by decide) (hts _ k_X1_drop_f9) (fun _ h9 => h9) rfl dX1_drop_29 ?_
      refine lv_aload_n hx hb dX1_drop_32 rfl (lv_at hl 0 rfl) ?_
      refine va_get (D := (dC, dI)) (ci := 1) (v := .int (nI n)) (C := RX1) (T := TX1) (N := 6) hx hb hts (k_X1_drop_in1) hown hK hP 0 rfl rfl 5 (by decide) (hts _ k_X1_drop_f28) (fun _ h9 => h9) rfl dX1_drop_33 ?_
      refine ck_lald hx hb hK hP 1 1 rfl rfl (by omega) (by decide) dX1_drop_36 ?_
      refine ck_last hx hb hK hP hD hS 1 1 rfl rfl (by omega) (by decide) dX1_drop_37 (fun H locs hP hD hS => ?_)
      have hP : va_P (dC, dI) vwCl [(h, .inr (1, [.ref a1, .ref a2, .ref a3, .ref a4, .ref a5, .int (nI n)])), (a1, .inl (cJ, 32, .inr (.inl (vp_updL f1 j (f1 n))))), (a2, .inl (cI, 32, .inl f2)), (a3, .inl (cI, 32, .inl f3)), (a4, .inl (cI, 32, .inl f4)), (a5, .inl (cI, 32, .inl f5))] H := hP
      have hD : va_D A [(h, .inr (1, [.ref a1, .ref a2, .ref a3, .ref a4, .ref a5, .int (nI n)])), (a1, .inl (cJ, 32, .inr (.inl (vp_updL f1 j (f1 n))))), (a2, .inl (cI, 32, .inl f2)), (a3, .inl (cI, 32, .inl f3)), (a4, .inl (cI, 32, .inl f4)), (a5, .inl (cI, 32, .inl f5))] := hD
      refine lv_aload_n hx hb dX1_drop_38 rfl (lv_at hl 0 rfl) ?_
      refine va_get (D := (dC, dI)) (ci := 1) (v := .ref a2) (C := RX1) (T := TX1) (N := 6) hx hb hts (k_X1_drop_in1) hown hK hP 0 rfl rfl 1 (by decide) (hts _ k_X1_drop_f15) (fun _ h9 => h9) rfl dX1_drop_39 ?_
      refine lv_iload_n hx hb dX1_drop_42 rfl (lv_at hl 1 rfl) ?_
      refine lv_aload_n hx hb dX1_drop_43 rfl (lv_at hl 0 rfl) ?_
      refine va_get (D := (dC, dI)) (ci := 1) (v := .ref a2) (C := RX1) (T := TX1) (N := 6) hx hb hts (k_X1_drop_in1) hown hK hP 0 rfl rfl 1 (by decide) (hts _ k_X1_drop_f15) (fun _ h9 => h9) rfl dX1_drop_44 ?_
      refine lv_aload_n hx hb dX1_drop_47 rfl (lv_at hl 0 rfl) ?_
      refine va_get (D := (dC, dI)) (ci := 1) (v := .int (nI n)) (C := RX1) (T := TX1) (N := 6) hx hb hts (k_X1_drop_in1) hown hK hP 0 rfl rfl 5 (by decide) (hts _ k_X1_drop_f28) (fun _ h9 => h9) rfl dX1_drop_48 ?_
      refine ck_iald hx hb hK hP 2 0 rfl rfl (by omega) (by decide) dX1_drop_51 ?_
      refine ck_iast hx hb hK hP hD hS 2 0 rfl rfl (by omega) (by decide) dX1_drop_52 (fun H locs hP hD hS => ?_)
      have hP : va_P (dC, dI) vwCl [(h, .inr (1, [.ref a1, .ref a2, .ref a3, .ref a4, .ref a5, .int (nI n)])), (a1, .inl (cJ, 32, .inr (.inl (vp_updL f1 j (f1 n))))), (a2, .inl (cI, 32, .inl (upd f2 j (f2 n)))), (a3, .inl (cI, 32, .inl f3)), (a4, .inl (cI, 32, .inl f4)), (a5, .inl (cI, 32, .inl f5))] H := hP
      have hD : va_D A [(h, .inr (1, [.ref a1, .ref a2, .ref a3, .ref a4, .ref a5, .int (nI n)])), (a1, .inl (cJ, 32, .inr (.inl (vp_updL f1 j (f1 n))))), (a2, .inl (cI, 32, .inl (upd f2 j (f2 n)))), (a3, .inl (cI, 32, .inl f3)), (a4, .inl (cI, 32, .inl f4)), (a5, .inl (cI, 32, .inl f5))] := hD
      refine lv_aload_n hx hb dX1_drop_53 rfl (lv_at hl 0 rfl) ?_
      refine va_get (D := (dC, dI)) (ci := 1) (v := .ref a3) (C := RX1) (T := TX1) (N := 6) hx hb hts (k_X1_drop_in1) hown hK hP 0 rfl rfl 2 (by decide) (hts _ k_X1_drop_f19) (fun _ h9 => h9) rfl dX1_drop_54 ?_
      refine lv_iload_n hx hb dX1_drop_57 rfl (lv_at hl 1 rfl) ?_
      refine lv_aload_n hx hb dX1_drop_58 rfl (lv_at hl 0 rfl) ?_
      refine va_get (D := (dC, dI)) (ci := 1) (v := .ref a3) (C := RX1) (T := TX1) (N := 6) hx hb hts (k_X1_drop_in1) hown hK hP 0 rfl rfl 2 (by decide) (hts _ k_X1_drop_f19) (fun _ h9 => h9) rfl dX1_drop_59 ?_
      refine lv_aload_n hx hb dX1_drop_62 rfl (lv_at hl 0 rfl) ?_
      refine va_get (D := (dC, dI)) (ci := 1) (v := .int (nI n)) (C := RX1) (T := TX1) (N := 6) hx hb hts (k_X1_drop_in1) hown hK hP 0 rfl rfl 5 (by decide) (hts _ k_X1_drop_f28) (fun _ h9 => h9) rfl dX1_drop_63 ?_
      refine ck_iald hx hb hK hP 3 0 rfl rfl (by omega) (by decide) dX1_drop_66 ?_
      refine ck_iast hx hb hK hP hD hS 3 0 rfl rfl (by omega) (by decide) dX1_drop_67 (fun H locs hP hD hS => ?_)
      have hP : va_P (dC, dI) vwCl [(h, .inr (1, [.ref a1, .ref a2, .ref a3, .ref a4, .ref a5, .int (nI n)])), (a1, .inl (cJ, 32, .inr (.inl (vp_updL f1 j (f1 n))))), (a2, .inl (cI, 32, .inl (upd f2 j (f2 n)))), (a3, .inl (cI, 32, .inl (upd f3 j (f3 n)))), (a4, .inl (cI, 32, .inl f4)), (a5, .inl (cI, 32, .inl f5))] H := hP
      have hD : va_D A [(h, .inr (1, [.ref a1, .ref a2, .ref a3, .ref a4, .ref a5, .int (nI n)])), (a1, .inl (cJ, 32, .inr (.inl (vp_updL f1 j (f1 n))))), (a2, .inl (cI, 32, .inl (upd f2 j (f2 n)))), (a3, .inl (cI, 32, .inl (upd f3 j (f3 n)))), (a4, .inl (cI, 32, .inl f4)), (a5, .inl (cI, 32, .inl f5))] := hD
      refine lv_aload_n hx hb dX1_drop_68 rfl (lv_at hl 0 rfl) ?_
      refine va_get (D := (dC, dI)) (ci := 1) (v := .ref a4) (C := RX1) (T := TX1) (N := 6) hx hb hts (k_X1_drop_in1) hown hK hP 0 rfl rfl 3 (by decide) (hts _ k_X1_drop_f22) (fun _ h9 => h9) rfl dX1_drop_69 ?_
      refine lv_iload_n hx hb dX1_drop_72 rfl (lv_at hl 1 rfl) ?_
      refine lv_aload_n hx hb dX1_drop_73 rfl (lv_at hl 0 rfl) ?_
      refine va_get (D := (dC, dI)) (ci := 1) (v := .ref a4) (C := RX1) (T := TX1) (N := 6) hx hb hts (k_X1_drop_in1) hown hK hP 0 rfl rfl 3 (by decide) (hts _ k_X1_drop_f22) (fun _ h9 => h9) rfl dX1_drop_74 ?_
      refine lv_aload_n hx hb dX1_drop_77 rfl (lv_at hl 0 rfl) ?_
      refine va_get (D := (dC, dI)) (ci := 1) (v := .int (nI n)) (C := RX1) (T := TX1) (N := 6) hx hb hts (k_X1_drop_in1) hown hK hP 0 rfl rfl 5 (by decide) (hts _ k_X1_drop_f28) (fun _ h9 => h9) rfl dX1_drop_78 ?_
      refine ck_iald hx hb hK hP 4 0 rfl rfl (by omega) (by decide) dX1_drop_81 ?_
      refine ck_iast hx hb hK hP hD hS 4 0 rfl rfl (by omega) (by decide) dX1_drop_82 (fun H locs hP hD hS => ?_)
      have hP : va_P (dC, dI) vwCl [(h, .inr (1, [.ref a1, .ref a2, .ref a3, .ref a4, .ref a5, .int (nI n)])), (a1, .inl (cJ, 32, .inr (.inl (vp_updL f1 j (f1 n))))), (a2, .inl (cI, 32, .inl (upd f2 j (f2 n)))), (a3, .inl (cI, 32, .inl (upd f3 j (f3 n)))), (a4, .inl (cI, 32, .inl (upd f4 j (f4 n)))), (a5, .inl (cI, 32, .inl f5))] H := hP
      have hD : va_D A [(h, .inr (1, [.ref a1, .ref a2, .ref a3, .ref a4, .ref a5, .int (nI n)])), (a1, .inl (cJ, 32, .inr (.inl (vp_updL f1 j (f1 n))))), (a2, .inl (cI, 32, .inl (upd f2 j (f2 n)))), (a3, .inl (cI, 32, .inl (upd f3 j (f3 n)))), (a4, .inl (cI, 32, .inl (upd f4 j (f4 n)))), (a5, .inl (cI, 32, .inl f5))] := hD
      refine lv_aload_n hx hb dX1_drop_83 rfl (lv_at hl 0 rfl) ?_
      refine va_get (D := (dC, dI)) (ci := 1) (v := .ref a5) (C := RX1) (T := TX1) (N := 6) hx hb hts (k_X1_drop_in1) hown hK hP 0 rfl rfl 4 (by decide) (hts _ k_X1_drop_f25) (fun _ h9 => h9) rfl dX1_drop_84 ?_
      refine lv_iload_n hx hb dX1_drop_87 rfl (lv_at hl 1 rfl) ?_
      refine lv_aload_n hx hb dX1_drop_88 rfl (lv_at hl 0 rfl) ?_
      refine va_get (D := (dC, dI)) (ci := 1) (v := .ref a5) (C := RX1) (T := TX1) (N := 6) hx hb hts (k_X1_drop_in1) hown hK hP 0 rfl rfl 4 (by decide) (hts _ k_X1_drop_f25) (fun _ h9 => h9) rfl dX1_drop_89 ?_
      refine lv_aload_n hx hb dX1_drop_92 rfl (lv_at hl 0 rfl) ?_
      refine va_get (D := (dC, dI)) (ci := 1) (v := .int (nI n)) (C := RX1) (T := TX1) (N := 6) hx hb hts (k_X1_drop_in1) hown hK hP 0 rfl rfl 5 (by decide) (hts _ k_X1_drop_f28) (fun _ h9 => h9) rfl dX1_drop_93 ?_
      refine ck_iald hx hb hK hP 5 0 rfl rfl (by omega) (by decide) dX1_drop_96 ?_
      refine ck_iast hx hb hK hP hD hS 5 0 rfl rfl (by omega) (by decide) dX1_drop_97 (fun H locs hP hD hS => ?_)
      have hP : va_P (dC, dI) vwCl [(h, .inr (1, [.ref a1, .ref a2, .ref a3, .ref a4, .ref a5, .int (nI n)])), (a1, .inl (cJ, 32, .inr (.inl (vp_updL f1 j (f1 n))))), (a2, .inl (cI, 32, .inl (upd f2 j (f2 n)))), (a3, .inl (cI, 32, .inl (upd f3 j (f3 n)))), (a4, .inl (cI, 32, .inl (upd f4 j (f4 n)))), (a5, .inl (cI, 32, .inl (upd f5 j (f5 n))))] H := hP
      have hD : va_D A [(h, .inr (1, [.ref a1, .ref a2, .ref a3, .ref a4, .ref a5, .int (nI n)])), (a1, .inl (cJ, 32, .inr (.inl (vp_updL f1 j (f1 n))))), (a2, .inl (cI, 32, .inl (upd f2 j (f2 n)))), (a3, .inl (cI, 32, .inl (upd f3 j (f3 n)))), (a4, .inl (cI, 32, .inl (upd f4 j (f4 n)))), (a5, .inl (cI, 32, .inl (upd f5 j (f5 n))))] := hD
      subst_vars
      refine ck_vr hx hb hr hlocks (Nat.le_of_ble_eq_true rfl) (Nat.le_of_ble_eq_true rfl) dX1_drop_98 () hP hD hS ?_
      exact trivial
    · skip
      have c_9 : ¬ (j < (n + 1)) := fun z => c_9 ((nI_ltI (by omega) (by omega)).mpr z)
      omega
theorem ck_m1lt {i : Nat} (h : i < 2 ^ 30) : nI i - 1 < 0 ↔ i = 0 := by
  have e : (1 : Int32) = nI 1 := rfl
  rw [Int32.lt_iff_toInt_lt, e, pk_sub_toInt h (by decide), Int32.toInt_zero]
  omega
theorem ck_swapR (f1 : Nat → Int64) (f2 f3 f4 f5 : Nat → Int32) (n j : Nat) : ∀ q, ck_R (vp_updL f1 j (f1 n)) (upd f2 j (f2 n)) (upd f3 j (f3 n)) (upd f4 j (f4 n)) (upd f5 j (f5 n)) q = if q = j then ck_R f1 f2 f3 f4 f5 n else ck_R f1 f2 f3 f4 f5 q := by
  intro q
  unfold ck_R vp_updL upd
  by_cases h : q = j <;> simp [h]
set_option maxRecDepth 20000 in
theorem k_X1_dropOld_f28 : (.fieldLink RX1 28 "CookieListener$Halves" "count" "I" : Cond) ∈ wsX1_dropOld := by decide +kernel
set_option maxRecDepth 20000 in
theorem k_X1_dropOld_in1 : ∀ w ∈ u_ws RX1 TX1 6, w ∈ wsX1_dropOld := by decide +kernel
set_option maxRecDepth 20000 in
theorem k_X1_dropOld_f25 : (.fieldLink RX1 25 "CookieListener$Halves" "asked" "[I" : Cond) ∈ wsX1_dropOld := by decide +kernel
set_option maxHeartbeats 4000000 in
set_option maxRecDepth 100000 in
theorem c_X1_dropOld (l : Launch) (dC : Nat → ClassId) (dI : Nat → Nat → Nat) (cI cJ cZ : ClassId) (lo sz : Nat) (h a1 a2 a3 a4 a5 : Nat) (n : Nat) (f1 : Nat → Int64) (f2 f3 f4 f5 : Nat → Int32) (now : Int32) (hn : n ≤ 32) : Met l yX1_dropOld wsX1_dropOld ({ frames := 1, cells := 0, slots := 0, locals := 21 } : Room) (va_Pc [.ref h, .int now] (ck_P (dC, dI) [(cI, .int), (cJ, .long), (cZ, .boolean)] lo sz [(h, .inr (1, [.ref a1, .ref a2, .ref a3, .ref a4, .ref a5, .int (nI n)])), (a1, .inl (cJ, 32, .inr (.inl f1))), (a2, .inl (cI, 32, .inl f2)), (a3, .inl (cI, 32, .inl f3)), (a4, .inl (cI, 32, .inl f4)), (a5, .inl (cI, 32, .inl f5))])) (va_Qv (fun (u : Nat × (Nat → Int64) × (Nat → Int32) × (Nat → Int32) × (Nat → Int32) × (Nat → Int32)) => u.1 ≤ n ∧ (ck_L u.1 (ck_R u.2.1 u.2.2.1 u.2.2.2.1 u.2.2.2.2.1 u.2.2.2.2.2)).Perm ((ck_L n (ck_R f1 f2 f3 f4 f5)).filter (ck_yng now))) (fun u => ck_B (dC, dI) vwCl (va_A [(h, .inr (1, [.ref a1, .ref a2, .ref a3, .ref a4, .ref a5, .int (nI n)])), (a1, .inl (cJ, 32, .inr (.inl f1))), (a2, .inl (cI, 32, .inl f2)), (a3, .inl (cI, 32, .inl f3)), (a4, .inl (cI, 32, .inl f4)), (a5, .inl (cI, 32, .inl f5))] sz) ((fun u : Nat × (Nat → Int64) × (Nat → Int32) × (Nat → Int32) × (Nat → Int32) × (Nat → Int32) => ([(h, .inr (1, [.ref a1, .ref a2, .ref a3, .ref a4, .ref a5, .int (nI u.1)])), (a1, .inl (cJ, 32, .inr (.inl u.2.1))), (a2, .inl (cI, 32, .inl u.2.2.1)), (a3, .inl (cI, 32, .inl u.2.2.2.1)), (a4, .inl (cI, 32, .inl u.2.2.2.2.1)), (a5, .inl (cI, 32, .inl u.2.2.2.2.2))] : va_W)) u)) (va_A [(h, .inr (1, [.ref a1, .ref a2, .ref a3, .ref a4, .ref a5, .int (nI n)])), (a1, .inl (cJ, 32, .inr (.inl f1))), (a2, .inl (cI, 32, .inl f2)), (a3, .inl (cI, 32, .inl f3)), (a4, .inl (cI, 32, .inl f4)), (a5, .inl (cI, 32, .inl f5))] sz)) 0 0 (va_A [(h, .inr (1, [.ref a1, .ref a2, .ref a3, .ref a4, .ref a5, .int (nI n)])), (a1, .inl (cJ, 32, .inr (.inl f1))), (a2, .inl (cI, 32, .inl f2)), (a3, .inl (cI, 32, .inl f3)), (a4, .inl (cI, 32, .inl f4)), (a5, .inl (cI, 32, .inl f5))] sz) := by
  refine Met.ofW (cc := cX1_dropOld) (maxL := 3) (ret := none) (by decide) rfl ?_
  intro p e s m args below meth c s₁ B hml hv
  obtain ⟨rfl, hsz, hP, hK, hD0, hE⟩ := hv
  have hx := B.exec
  have hb := B.bytes
  have hr := B.returns
  have hts := atoms_spec (ws := wsX1_dropOld) B.pre
  have hown : s.vm.findClass RX1 = some m.cls := findClass_of_methodNamed B.named
  have hlocks := B.notSynchronized
  subst hsz
  have hD := hD0.self (sz := s.heap.size)
  have hlo := ck_lo (sz := s.heap.size) hD0 hE.1
  generalize hAe : va_A [(h, .inr (1, [.ref a1, .ref a2, .ref a3, .ref a4, .ref a5, .int (nI n)])), (a1, .inl (cJ, 32, .inr (.inl f1))), (a2, .inl (cI, 32, .inl f2)), (a3, .inl (cI, 32, .inl f3)), (a4, .inl (cI, 32, .inl f4)), (a5, .inl (cI, 32, .inl f5))] s.heap.size = A at hD hlo ⊢
  have hA : ∀ q : Nat, s.heap.size ≤ q → A q := fun q h => by rw [← hAe]; exact Or.inr h
  have hG : ck_G (dC, dI) [(cI, .int), (cJ, .long), (cZ, .boolean)] lo A s := ⟨hK, hE, hA, hlo⟩
  have hS : va_S A s.heap s.heap [] := va_S.rf
  have hP : va_P (dC, dI) vwCl [(h, .inr (1, [.ref a1, .ref a2, .ref a3, .ref a4, .ref a5, .int (nI n)])), (a1, .inl (cJ, 32, .inr (.inl f1))), (a2, .inl (cI, 32, .inl f2)), (a3, .inl (cI, 32, .inl f3)), (a4, .inl (cI, 32, .inl f4)), (a5, .inl (cI, 32, .inl f5))] s.heap := hP
  have hl := lv_entry ([.ref h, .int now]) (n := 3) (Nat.le_of_ble_eq_true rfl)
  rw [lg_entry_eq]
  generalize (lg_sl ([.ref h, .int now]) ++ List.replicate (3 - (lg_sl ([.ref h, .int now])).length) Slot.unset).toArray = ls at hl ⊢
  have hl : lv_has ls 3 [(0, .ref h), (1, .int now)] := hl
  refine lv_aload_n hx hb dX1_dropOld_0 rfl (lv_at hl 0 rfl) ?_
  refine va_get (D := (dC, dI)) (ci := 1) (v := .int (nI n)) (C := RX1) (T := TX1) (N := 6) hx hb hts (k_X1_dropOld_in1) hown hK hP 0 rfl rfl 5 (by decide) (hts _ k_X1_dropOld_f28) (fun _ h9 => h9) rfl dX1_dropOld_1 ?_
  refine lv_iconst (v := 1) hx hb dX1_dropOld_4 (by decide) ?_
  refine lv_isub hx hb dX1_dropOld_5 ?_
  refine lv_istore_n (lv' := [(2, .int ((nI n) - 1)), (0, .ref h), (1, .int now)]) hx hb dX1_dropOld_6 rfl hl (by decide) rfl (fun ls hl => ?_)
  have hloop : ∀ (fu : Nat) (i : Nat) (n3 : Nat) (y1 : Nat → Int64) (y2 : Nat → Int32) (y3 : Nat → Int32) (y4 : Nat → Int32) (y5 : Nat → Int32), (i < fu) → (ck_old (ck_yng now) n (ck_R f1 f2 f3 f4 f5) i n3 (ck_R y1 y2 y3 y4 y5)) → ∀ (H : Heap) (locs : List Loc) (ls : Array Slot), va_P (dC, dI) vwCl [(h, .inr (1, [.ref a1, .ref a2, .ref a3, .ref a4, .ref a5, .int (nI n3)])), (a1, .inl (cJ, 32, .inr (.inl y1))), (a2, .inl (cI, 32, .inl y2)), (a3, .inl (cI, 32, .inl y3)), (a4, .inl (cI, 32, .inl y4)), (a5, .inl (cI, 32, .inl y5))] H → va_D A [(h, .inr (1, [.ref a1, .ref a2, .ref a3, .ref a4, .ref a5, .int (nI n3)])), (a1, .inl (cJ, 32, .inr (.inl y1))), (a2, .inl (cI, 32, .inl y2)), (a3, .inl (cI, 32, .inl y3)), (a4, .inl (cI, 32, .inl y4)), (a5, .inl (cI, 32, .inl y5))] → va_S A s.heap H locs → lv_has ls 3 [(0, .ref h), (1, .int now), (2, .int (nI i - 1))] → W p l e (headSpec wsX1_dropOld ({ frames := 1, cells := 0, slots := 0, locals := 21 } : Room)).room s m (([.ref h, .int now] : List Value).toArray) below meth c H locs 0 0 (MQ below (va_Qv (fun (u : Nat × (Nat → Int64) × (Nat → Int32) × (Nat → Int32) × (Nat → Int32) × (Nat → Int32)) => u.1 ≤ n ∧ (ck_L u.1 (ck_R u.2.1 u.2.2.1 u.2.2.2.1 u.2.2.2.2.1 u.2.2.2.2.2)).Perm ((ck_L n (ck_R f1 f2 f3 f4 f5)).filter (ck_yng now))) (fun u => ck_B (dC, dI) vwCl A ((fun u : Nat × (Nat → Int64) × (Nat → Int32) × (Nat → Int32) × (Nat → Int32) × (Nat → Int32) => ([(h, .inr (1, [.ref a1, .ref a2, .ref a3, .ref a4, .ref a5, .int (nI u.1)])), (a1, .inl (cJ, 32, .inr (.inl u.2.1))), (a2, .inl (cI, 32, .inl u.2.2.1)), (a3, .inl (cI, 32, .inl u.2.2.2.1)), (a4, .inl (cI, 32, .inl u.2.2.2.2.1)), (a5, .inl (cI, 32, .inl u.2.2.2.2.2))] : va_W)) u)) A) (([.ref h, .int now] : List Value).toArray) s 0 0 A) (F0 m 7 ls []) := by
    intro fu
    induction fu with
    | zero =>
      intro i n3 y1 y2 y3 y4 y5 hf ho
      exfalso
      omega
    | succ fu ih =>
      intro i n3 y1 y2 y3 y4 y5 hf ho H locs ls hP hD hS hl
      have ho1 := ho.1
      have ho2 := ho.2.1
      refine lv_iload_n hx hb dX1_dropOld_7 rfl (lv_at hl 2 rfl) ?_
      refine lv_if_lt (tgt := 35) hx hb dX1_dropOld_8 (by decide) (fun c_8 => ?_) (fun c_8 => ?_)
      · skip
        refine ck_vr hx hb hr hlocks (Nat.le_of_ble_eq_true rfl) (Nat.le_of_ble_eq_true rfl) dX1_dropOld_35 (n3, y1, y2, y3, y4, y5) hP hD hS ?_
        have e9 : i = 0 := (ck_m1lt (by omega)).mp c_8
        rw [e9] at ho
        exact ck_old_end ho
      · skip
        obtain ⟨i0, rfl⟩ : ∃ i0, i = i0 + 1 := ⟨i - 1, by have h9 : i ≠ 0 := fun z => c_8 ((ck_m1lt (by omega)).mpr z); omega⟩
        rw [nI_pred] at hl
        refine lv_iload_n hx hb dX1_dropOld_11 rfl (lv_at hl 1 rfl) ?_
        refine lv_aload_n hx hb dX1_dropOld_12 rfl (lv_at hl 0 rfl) ?_
        refine va_get (D := (dC, dI)) (ci := 1) (v := .ref a5) (C := RX1) (T := TX1) (N := 6) hx hb hts (k_X1_dropOld_in1) hown hK hP 0 rfl rfl 4 (by decide) (hts _ k_X1_dropOld_f25) (fun _ h9 => h9) rfl dX1_dropOld_13 ?_
        refine lv_iload_n hx hb dX1_dropOld_16 rfl (lv_at hl 2 rfl) ?_
        refine ck_iald hx hb hK hP 5 0 rfl rfl (by omega) (by decide) dX1_dropOld_17 ?_
        refine lv_isub hx hb dX1_dropOld_18 ?_
        refine lv_bipush (v := 60) hx hb dX1_dropOld_19 (by decide) ?_
        refine lv_icmp_lt (tgt := 29) hx hb dX1_dropOld_21 (by decide) (fun c_21 => ?_) (fun c_21 => ?_)
        · skip
          refine lv_iinc (v := nI i0 - 1) (lv' := [(2, .int (nI i0 - 1)), (0, .ref h), (1, .int now)]) hx hb dX1_dropOld_29 hl (k := 2) rfl ((Int32.sub_eq_add_neg _ 1).symm) (by decide) rfl (fun ls hl => ?_)
          refine lv_goto (tgt := 7) hx hb dX1_dropOld_32 (by decide) ?_
          exact ih i0 n3 y1 y2 y3 y4 y5 (by omega) (ck_old_keep ho (decide_eq_true c_21)) _ _ _ (hP.sub [0, 1, 2, 3, 4, 5] rfl) (hD.sub [0, 1, 2, 3, 4, 5] (by decide) rfl) hS (lv_sub hl [1, 2, 0] rfl)
        · skip
          obtain ⟨n4, rfl⟩ : ∃ n4, n3 = n4 + 1 := ⟨n3 - 1, by omega⟩
          refine lv_aload_n hx hb dX1_dropOld_24 rfl (lv_at hl 0 rfl) ?_
          refine lv_iload_n hx hb dX1_dropOld_25 rfl (lv_at hl 2 rfl) ?_
          refine ck_cv (wr := []) (va_runV (As := [.int (nI i0)]) (rest := []) ⟨hx, hb, hml, hown, hts⟩ (c_X1_drop l dC dI cI cJ cZ lo _ h a1 a2 a3 a4 a5 n4 y1 y2 y3 y4 y5 i0 (by first | assumption | omega) (by first | assumption | omega)) (cwV 1 hts gX1_dropOld_X1_drop rfl rfl rfl (by decide +kernel) ⟨(Nat.le_of_ble_eq_true rfl), (Nat.le_of_ble_eq_true rfl)⟩) ⟨ck_blind, va_recv hK hP (ci := 1) (q0 := 0) rfl rfl, (ck_pre hG hP hD hS [0, 1, 2, 3, 4, 5] rfl (by decide) _)⟩ rfl rfl hl.1 rfl (lv_room (Nat.le_of_ble_eq_true rfl)) dX1_dropOld_26 ⟨(Nat.le_of_ble_eq_true rfl), (Nat.le_of_ble_eq_true rfl)⟩) hP hD hS hA [0, 1, 2, 3, 4, 5] [] rfl rfl (by decide) (by decide) (fun u H locs hw_1 hP hD hS => ?_)
          have hP : va_P (dC, dI) vwCl [(h, .inr (1, [.ref a1, .ref a2, .ref a3, .ref a4, .ref a5, .int (nI n4)])), (a1, .inl (cJ, 32, .inr (.inl (vp_updL y1 i0 (y1 n4))))), (a2, .inl (cI, 32, .inl (upd y2 i0 (y2 n4)))), (a3, .inl (cI, 32, .inl (upd y3 i0 (y3 n4)))), (a4, .inl (cI, 32, .inl (upd y4 i0 (y4 n4)))), (a5, .inl (cI, 32, .inl (upd y5 i0 (y5 n4))))] H := hP
          have hD : va_D A [(h, .inr (1, [.ref a1, .ref a2, .ref a3, .ref a4, .ref a5, .int (nI n4)])), (a1, .inl (cJ, 32, .inr (.inl (vp_updL y1 i0 (y1 n4))))), (a2, .inl (cI, 32, .inl (upd y2 i0 (y2 n4)))), (a3, .inl (cI, 32, .inl (upd y3 i0 (y3 n4)))), (a4, .inl (cI, 32, .inl (upd y4 i0 (y4 n4)))), (a5, .inl (cI, 32, .inl (upd y5 i0 (y5 n4))))] := hD
          refine lv_iinc (v := nI i0 - 1) (lv' := [(2, .int (nI i0 - 1)), (0, .ref h), (1, .int now)]) hx hb dX1_dropOld_29 hl (k := 2) rfl ((Int32.sub_eq_add_neg _ 1).symm) (by decide) rfl (fun ls hl => ?_)
          refine lv_goto (tgt := 7) hx hb dX1_dropOld_32 (by decide) ?_
          exact ih i0 n4 (vp_updL y1 i0 (y1 n4)) (upd y2 i0 (y2 n4)) (upd y3 i0 (y3 n4)) (upd y4 i0 (y4 n4)) (upd y5 i0 (y5 n4)) (by omega) (ck_old_drop ho (fun h => c_21 (of_decide_eq_true h)) (ck_gone_swap (by omega) (ck_swapR _ _ _ _ _ _ _))) _ _ _ (hP.sub [0, 1, 2, 3, 4, 5] rfl) (hD.sub [0, 1, 2, 3, 4, 5] (by decide) rfl) hS (lv_sub hl [1, 2, 0] rfl)
  exact hloop (n + 1) n n f1 f2 f3 f4 f5 (by omega) (ck_old0) _ _ _ (hP.sub [0, 1, 2, 3, 4, 5] rfl) (hD.sub [0, 1, 2, 3, 4, 5] (by decide) rfl) hS (lv_sub hl [1, 2, 0] rfl)
set_option maxRecDepth 20000 in
theorem k_X0_init_l3 : (.methodLink RX0 3 objectInit : Cond) ∈ wsX0_init := by decide +kernel
set_option maxRecDepth 20000 in
theorem k_X0_init_mObj : (.instanceMethod objectInit : Cond) ∈ wsX0_init := by decide +kernel
set_option maxRecDepth 20000 in
theorem k_X0_init_cObj : (.code objectInit ⟨#[0xb1]⟩ 1 none : Cond) ∈ wsX0_init := by decide +kernel
set_option maxRecDepth 20000 in
theorem k_X0_init_along : (.arrayClass .long : Cond) ∈ wsX0_init := by decide +kernel
set_option maxRecDepth 20000 in
theorem k_X0_init_f9 : (.fieldLink RX0 9 "CookieListener$Connections" "callers" "[J" : Cond) ∈ wsX0_init := by decide +kernel
set_option maxRecDepth 20000 in
theorem k_X0_init_in0 : ∀ w ∈ u_ws RX0 TX0 4, w ∈ wsX0_init := by decide +kernel
set_option maxRecDepth 20000 in
theorem k_X0_init_aint : (.arrayClass .int : Cond) ∈ wsX0_init := by decide +kernel
set_option maxRecDepth 20000 in
theorem k_X0_init_f15 : (.fieldLink RX0 15 "CookieListener$Connections" "kinds" "[I" : Cond) ∈ wsX0_init := by decide +kernel
set_option maxRecDepth 20000 in
theorem k_X0_init_f19 : (.fieldLink RX0 19 "CookieListener$Connections" "count" "I" : Cond) ∈ wsX0_init := by decide +kernel
set_option maxRecDepth 20000 in
theorem k_X0_init_f23 : (.fieldLink RX0 23 "CookieListener$Connections" "taken" "I" : Cond) ∈ wsX0_init := by decide +kernel
set_option maxHeartbeats 4000000 in
set_option maxRecDepth 100000 in
theorem c_X0_init (l : Launch) (dC : Nat → ClassId) (dI : Nat → Nat → Nat) (cI cJ cZ : ClassId) (lo sz : Nat) (cn : Nat) : Met l yX0_init wsX0_init ({ frames := 1, cells := 2, slots := 128, locals := 12 } : Room) (va_Pc [.ref cn] (ck_P (dC, dI) [(cI, .int), (cJ, .long), (cZ, .boolean)] lo sz [(cn, .inr (0, [.null, .null, .int 0, .int 0]))])) (va_Qv (fun (u : Nat × Nat) => True) (fun u => ck_B (dC, dI) vwCl (va_A [(cn, .inr (0, [.null, .null, .int 0, .int 0]))] sz) ((fun u : Nat × Nat => ([(cn, .inr (0, [.ref u.1, .ref u.2, .int (nI 0), .int (nI 0)])), (u.1, .inl (cJ, 64, .inr (.inl (fun _ => 0)))), (u.2, .inl (cI, 64, .inl (fun _ => 0)))] : va_W)) u)) (va_A [(cn, .inr (0, [.null, .null, .int 0, .int 0]))] sz)) 2 128 (va_A [(cn, .inr (0, [.null, .null, .int 0, .int 0]))] sz) := by
  refine Met.ofW (cc := cX0_init) (maxL := 1) (ret := none) (by decide) rfl ?_
  intro p e s m args below meth c s₁ B hml hv
  obtain ⟨rfl, hsz, hP, hK, hD0, hE⟩ := hv
  have hx := B.exec
  have hb := B.bytes
  have hr := B.returns
  have hts := atoms_spec (ws := wsX0_init) B.pre
  have hown : s.vm.findClass RX0 = some m.cls := findClass_of_methodNamed B.named
  have hlocks := B.notSynchronized
  have hin : meth.name = "<init>" := (name_of_methodNamed B.named B.method).1
  subst hsz
  have hD := hD0.self (sz := s.heap.size)
  have hlo := ck_lo (sz := s.heap.size) hD0 hE.1
  generalize hAe : va_A [(cn, .inr (0, [.null, .null, .int 0, .int 0]))] s.heap.size = A at hD hlo ⊢
  have hA : ∀ q : Nat, s.heap.size ≤ q → A q := fun q h => by rw [← hAe]; exact Or.inr h
  have hG : ck_G (dC, dI) [(cI, .int), (cJ, .long), (cZ, .boolean)] lo A s := ⟨hK, hE, hA, hlo⟩
  have hS : va_S A s.heap s.heap [] := va_S.rf
  have hP : va_P (dC, dI) vwCl [(cn, .inr (0, [.null, .null, .int 0, .int 0]))] s.heap := hP
  have hl := lv_entry ([.ref cn]) (n := 1) (Nat.le_of_ble_eq_true rfl)
  rw [lg_entry_eq]
  generalize (lg_sl ([.ref cn]) ++ List.replicate (1 - (lg_sl ([.ref cn])).length) Slot.unset).toArray = ls at hl ⊢
  have hl : lv_has ls 1 [(0, .ref cn)] := hl
  refine lv_aload_n hx hb dX0_init_0 rfl (lv_at hl 0 rfl) ?_
  refine W.objInit hx hb hown (hts _ k_X0_init_l3) (hts _ k_X0_init_mObj) (hts _ k_X0_init_cObj) rfl (by rw [hml]; exact hl.1) rfl dX0_init_1 (Nat.le_of_ble_eq_true rfl) (Nat.le_of_ble_eq_true rfl) ?_
  refine W.eq (g2 := F0 m 4 ls []) rfl ?_
  refine lv_aload_n hx hb dX0_init_4 rfl (lv_at hl 0 rfl) ?_
  refine lv_bipush (v := 64) hx hb dX0_init_5 (by decide) ?_
  refine ck_newa (atype := .long) (ty := .long) (a0 := (64, .inr (.inl (fun _ => 0)))) (N' := 64) hx hb (hts _ k_X0_init_along) rfl (by intro C h; cases h) hK hP hD hS hA 1 rfl (fun _ => rfl) (by decide) (by decide) (by decide) (Nat.le_of_ble_eq_true rfl) (Nat.le_of_ble_eq_true rfl) dX0_init_7 (fun q_1 H hP hD hS => ?_)
  refine W.widen (k := 1) (n := 64) (by omega) (by omega) ?_
  have hP : va_P (dC, dI) vwCl [(cn, .inr (0, [.null, .null, .int 0, .int 0])), (q_1, .inl (cJ, 64, .inr (.inl (fun _ => 0))))] H := hP
  have hD : va_D A [(cn, .inr (0, [.null, .null, .int 0, .int 0])), (q_1, .inl (cJ, 64, .inr (.inl (fun _ => 0))))] := hD
  refine va_putF (D := (dC, dI)) (ci := 0) (v := .ref q_1) (ty := .array .long) (C := RX0) (T := TX0) (N := 4) hx hb hts (k_X0_init_in0) tyX0 tyX0_ok nmX0 hown hK hP hD hS 0 rfl rfl 0 (by decide) (hts _ k_X0_init_f9) (fun _ h9 => h9) rfl hin rfl (by decide +kernel) rfl rfl (Nat.le_of_ble_eq_true rfl) dX0_init_9 (fun H locs hP hD hS => ?_)
  have hP : va_P (dC, dI) vwCl [(cn, .inr (0, [.ref q_1, .null, .int 0, .int 0])), (q_1, .inl (cJ, 64, .inr (.inl (fun _ => 0))))] H := hP
  have hD : va_D A [(cn, .inr (0, [.ref q_1, .null, .int 0, .int 0])), (q_1, .inl (cJ, 64, .inr (.inl (fun _ => 0))))] := hD
  refine lv_aload_n hx hb dX0_init_12 rfl (lv_at hl 0 rfl) ?_
  refine lv_bipush (v := 64) hx hb dX0_init_13 (by decide) ?_
  refine ck_newa (atype := .int) (ty := .int) (a0 := (64, .inl (fun _ => 0))) (N' := 64) hx hb (hts _ k_X0_init_aint) rfl (by intro C h; cases h) hK hP hD hS hA 0 rfl (fun _ => rfl) (by decide) (by decide) (by decide) (Nat.le_of_ble_eq_true rfl) (Nat.le_of_ble_eq_true rfl) dX0_init_15 (fun q_2 H hP hD hS => ?_)
  refine W.widen (k := 2) (n := 128) (by omega) (by omega) ?_
  have hP : va_P (dC, dI) vwCl [(cn, .inr (0, [.ref q_1, .null, .int 0, .int 0])), (q_1, .inl (cJ, 64, .inr (.inl (fun _ => 0)))), (q_2, .inl (cI, 64, .inl (fun _ => 0)))] H := hP
  have hD : va_D A [(cn, .inr (0, [.ref q_1, .null, .int 0, .int 0])), (q_1, .inl (cJ, 64, .inr (.inl (fun _ => 0)))), (q_2, .inl (cI, 64, .inl (fun _ => 0)))] := hD
  refine va_putF (D := (dC, dI)) (ci := 0) (v := .ref q_2) (ty := .array .int) (C := RX0) (T := TX0) (N := 4) hx hb hts (k_X0_init_in0) tyX0 tyX0_ok nmX0 hown hK hP hD hS 0 rfl rfl 1 (by decide) (hts _ k_X0_init_f15) (fun _ h9 => h9) rfl hin rfl (by decide +kernel) rfl rfl (Nat.le_of_ble_eq_true rfl) dX0_init_17 (fun H locs hP hD hS => ?_)
  have hP : va_P (dC, dI) vwCl [(cn, .inr (0, [.ref q_1, .ref q_2, .int 0, .int 0])), (q_1, .inl (cJ, 64, .inr (.inl (fun _ => 0)))), (q_2, .inl (cI, 64, .inl (fun _ => 0)))] H := hP
  have hD : va_D A [(cn, .inr (0, [.ref q_1, .ref q_2, .int 0, .int 0])), (q_1, .inl (cJ, 64, .inr (.inl (fun _ => 0)))), (q_2, .inl (cI, 64, .inl (fun _ => 0)))] := hD
  refine lv_aload_n hx hb dX0_init_20 rfl (lv_at hl 0 rfl) ?_
  refine lv_iconst (v := nI 0) hx hb dX0_init_21 (by decide) ?_
  refine va_put (D := (dC, dI)) (ci := 0) (v := .int (nI 0)) (ty := .int) (C := RX0) (T := TX0) (N := 4) hx hb hts (k_X0_init_in0) tyX0 tyX0_ok nmX0 hown hK hP hD hS 0 rfl rfl 2 (by decide) (hts _ k_X0_init_f19) (fun _ h9 => h9) rfl (by decide +kernel) rfl rfl (Nat.le_of_ble_eq_true rfl) dX0_init_22 (fun H locs hP hD hS => ?_)
  have hP : va_P (dC, dI) vwCl [(cn, .inr (0, [.ref q_1, .ref q_2, .int (nI 0), .int 0])), (q_1, .inl (cJ, 64, .inr (.inl (fun _ => 0)))), (q_2, .inl (cI, 64, .inl (fun _ => 0)))] H := hP
  have hD : va_D A [(cn, .inr (0, [.ref q_1, .ref q_2, .int (nI 0), .int 0])), (q_1, .inl (cJ, 64, .inr (.inl (fun _ => 0)))), (q_2, .inl (cI, 64, .inl (fun _ => 0)))] := hD
  refine lv_aload_n hx hb dX0_init_25 rfl (lv_at hl 0 rfl) ?_
  refine lv_iconst (v := nI 0) hx hb dX0_init_26 (by decide) ?_
  refine va_put (D := (dC, dI)) (ci := 0) (v := .int (nI 0)) (ty := .int) (C := RX0) (T := TX0) (N := 4) hx hb hts (k_X0_init_in0) tyX0 tyX0_ok nmX0 hown hK hP hD hS 0 rfl rfl 3 (by decide) (hts _ k_X0_init_f23) (fun _ h9 => h9) rfl (by decide +kernel) rfl rfl (Nat.le_of_ble_eq_true rfl) dX0_init_27 (fun H locs hP hD hS => ?_)
  have hP : va_P (dC, dI) vwCl [(cn, .inr (0, [.ref q_1, .ref q_2, .int (nI 0), .int (nI 0)])), (q_1, .inl (cJ, 64, .inr (.inl (fun _ => 0)))), (q_2, .inl (cI, 64, .inl (fun _ => 0)))] H := hP
  have hD : va_D A [(cn, .inr (0, [.ref q_1, .ref q_2, .int (nI 0), .int (nI 0)])), (q_1, .inl (cJ, 64, .inr (.inl (fun _ => 0)))), (q_2, .inl (cI, 64, .inl (fun _ => 0)))] := hD
  refine ck_vr hx hb hr hlocks (Nat.le_of_ble_eq_true rfl) (Nat.le_of_ble_eq_true rfl) dX0_init_30 (q_1, q_2) hP hD hS ?_
  exact trivial
set_option maxRecDepth 20000 in
theorem k_X0_waiting_f19 : (.fieldLink RX0 19 "CookieListener$Connections" "count" "I" : Cond) ∈ wsX0_waiting := by decide +kernel
set_option maxRecDepth 20000 in
theorem k_X0_waiting_in0 : ∀ w ∈ u_ws RX0 TX0 4, w ∈ wsX0_waiting := by decide +kernel
set_option maxRecDepth 20000 in
theorem k_X0_waiting_f23 : (.fieldLink RX0 23 "CookieListener$Connections" "taken" "I" : Cond) ∈ wsX0_waiting := by decide +kernel
set_option maxHeartbeats 4000000 in
set_option maxRecDepth 100000 in
theorem c_X0_waiting (l : Launch) (dC : Nat → ClassId) (dI : Nat → Nat → Nat) (cI cJ cZ : ClassId) (lo sz : Nat) (cn b1 b2 : Nat) (k t : Nat) (g1 : Nat → Int64) (g2 : Nat → Int32) (ht : t ≤ k) (hk : k ≤ 64) : Met l yX0_waiting wsX0_waiting ({ frames := 0, cells := 0, slots := 0, locals := 0 } : Room) (va_Pc [.ref cn] (ck_P (dC, dI) [(cI, .int), (cJ, .long), (cZ, .boolean)] lo sz [(cn, .inr (0, [.ref b1, .ref b2, .int (nI k), .int (nI t)])), (b1, .inl (cJ, 64, .inr (.inl g1))), (b2, .inl (cI, 64, .inl g2))])) (vp_Si (fun (r : Int32) => r = nI (k - t))) 0 0 (fun _ => False) := by
  refine Met.ofW (cc := cX0_waiting) (maxL := 1) (ret := (some .int)) (by decide) rfl ?_
  intro p e s m args below meth c s₁ B hml hv
  obtain ⟨rfl, hsz, hP, hK, hD0, hE⟩ := hv
  have hx := B.exec
  have hb := B.bytes
  have hr := B.returns
  have hts := atoms_spec (ws := wsX0_waiting) B.pre
  have hown : s.vm.findClass RX0 = some m.cls := findClass_of_methodNamed B.named
  have hlocks := B.notSynchronized
  subst hsz
  have hD := hD0.self (sz := s.heap.size)
  have hlo := ck_lo (sz := s.heap.size) hD0 hE.1
  generalize hAe : va_A [(cn, .inr (0, [.ref b1, .ref b2, .int (nI k), .int (nI t)])), (b1, .inl (cJ, 64, .inr (.inl g1))), (b2, .inl (cI, 64, .inl g2))] s.heap.size = A at hD hlo
  have hA : ∀ q : Nat, s.heap.size ≤ q → A q := fun q h => by rw [← hAe]; exact Or.inr h
  have hG : ck_G (dC, dI) [(cI, .int), (cJ, .long), (cZ, .boolean)] lo A s := ⟨hK, hE, hA, hlo⟩
  have hS : va_S A s.heap s.heap [] := va_S.rf
  have hP : va_P (dC, dI) vwCl [(cn, .inr (0, [.ref b1, .ref b2, .int (nI k), .int (nI t)])), (b1, .inl (cJ, 64, .inr (.inl g1))), (b2, .inl (cI, 64, .inl g2))] s.heap := hP
  have hl := lv_entry ([.ref cn]) (n := 1) (Nat.le_of_ble_eq_true rfl)
  rw [lg_entry_eq]
  generalize (lg_sl ([.ref cn]) ++ List.replicate (1 - (lg_sl ([.ref cn])).length) Slot.unset).toArray = ls at hl ⊢
  have hl : lv_has ls 1 [(0, .ref cn)] := hl
  refine lv_aload_n hx hb dX0_waiting_0 rfl (lv_at hl 0 rfl) ?_
  refine va_get (D := (dC, dI)) (ci := 0) (v := .int (nI k)) (C := RX0) (T := TX0) (N := 4) hx hb hts (k_X0_waiting_in0) hown hK hP 0 rfl rfl 2 (by decide) (hts _ k_X0_waiting_f19) (fun _ h9 => h9) rfl dX0_waiting_1 ?_
  refine lv_aload_n hx hb dX0_waiting_4 rfl (lv_at hl 0 rfl) ?_
  refine va_get (D := (dC, dI)) (ci := 0) (v := .int (nI t)) (C := RX0) (T := TX0) (N := 4) hx hb hts (k_X0_waiting_in0) hown hK hP 0 rfl rfl 3 (by decide) (hts _ k_X0_waiting_f23) (fun _ h9 => h9) rfl dX0_waiting_5 ?_
  refine lv_isub hx hb dX0_waiting_8 ?_
  refine ck_iq hx hb hr hlocks dX0_waiting_9 ?_
  exact pk_sub ht
set_option maxRecDepth 20000 in
theorem k_X0_isTaken_f23 : (.fieldLink RX0 23 "CookieListener$Connections" "taken" "I" : Cond) ∈ wsX0_isTaken := by decide +kernel
set_option maxRecDepth 20000 in
theorem k_X0_isTaken_in0 : ∀ w ∈ u_ws RX0 TX0 4, w ∈ wsX0_isTaken := by decide +kernel
set_option maxHeartbeats 4000000 in
set_option maxRecDepth 100000 in
theorem c_X0_isTaken (l : Launch) (dC : Nat → ClassId) (dI : Nat → Nat → Nat) (cI cJ cZ : ClassId) (lo sz : Nat) (cn b1 b2 : Nat) (k t : Nat) (g1 : Nat → Int64) (g2 : Nat → Int32) (j : Nat) (hj : j < 64) (hk : k ≤ 64) (ht : t ≤ k) : Met l yX0_isTaken wsX0_isTaken ({ frames := 0, cells := 0, slots := 0, locals := 0 } : Room) (va_Pc [.ref cn, .int (nI j)] (ck_P (dC, dI) [(cI, .int), (cJ, .long), (cZ, .boolean)] lo sz [(cn, .inr (0, [.ref b1, .ref b2, .int (nI k), .int (nI t)])), (b1, .inl (cJ, 64, .inr (.inl g1))), (b2, .inl (cI, 64, .inl g2))])) (vp_Si (fun (r : Int32) => (r = 1 ∧ j < t) ∨ (r = 0 ∧ t ≤ j))) 0 0 (fun _ => False) := by
  refine Met.ofW (cc := cX0_isTaken) (maxL := 2) (ret := (some .boolean)) (by decide) rfl ?_
  intro p e s m args below meth c s₁ B hml hv
  obtain ⟨rfl, hsz, hP, hK, hD0, hE⟩ := hv
  have hx := B.exec
  have hb := B.bytes
  have hr := B.returns
  have hts := atoms_spec (ws := wsX0_isTaken) B.pre
  have hown : s.vm.findClass RX0 = some m.cls := findClass_of_methodNamed B.named
  have hlocks := B.notSynchronized
  subst hsz
  have hD := hD0.self (sz := s.heap.size)
  have hlo := ck_lo (sz := s.heap.size) hD0 hE.1
  generalize hAe : va_A [(cn, .inr (0, [.ref b1, .ref b2, .int (nI k), .int (nI t)])), (b1, .inl (cJ, 64, .inr (.inl g1))), (b2, .inl (cI, 64, .inl g2))] s.heap.size = A at hD hlo
  have hA : ∀ q : Nat, s.heap.size ≤ q → A q := fun q h => by rw [← hAe]; exact Or.inr h
  have hG : ck_G (dC, dI) [(cI, .int), (cJ, .long), (cZ, .boolean)] lo A s := ⟨hK, hE, hA, hlo⟩
  have hS : va_S A s.heap s.heap [] := va_S.rf
  have hP : va_P (dC, dI) vwCl [(cn, .inr (0, [.ref b1, .ref b2, .int (nI k), .int (nI t)])), (b1, .inl (cJ, 64, .inr (.inl g1))), (b2, .inl (cI, 64, .inl g2))] s.heap := hP
  have hl := lv_entry ([.ref cn, .int (nI j)]) (n := 2) (Nat.le_of_ble_eq_true rfl)
  rw [lg_entry_eq]
  generalize (lg_sl ([.ref cn, .int (nI j)]) ++ List.replicate (2 - (lg_sl ([.ref cn, .int (nI j)])).length) Slot.unset).toArray = ls at hl ⊢
  have hl : lv_has ls 2 [(0, .ref cn), (1, .int (nI j))] := hl
  refine lv_iload_n hx hb dX0_isTaken_0 rfl (lv_at hl 1 rfl) ?_
  refine lv_aload_n hx hb dX0_isTaken_1 rfl (lv_at hl 0 rfl) ?_
  refine va_get (D := (dC, dI)) (ci := 0) (v := .int (nI t)) (C := RX0) (T := TX0) (N := 4) hx hb hts (k_X0_isTaken_in0) hown hK hP 0 rfl rfl 3 (by decide) (hts _ k_X0_isTaken_f23) (fun _ h9 => h9) rfl dX0_isTaken_2 ?_
  refine lv_icmp_ge (tgt := 12) hx hb dX0_isTaken_5 (by decide) (fun c_5 => ?_) (fun c_5 => ?_)
  · skip
    have c_5 : t ≤ j := (nI_leI (by omega) (by omega)).mp c_5
    refine lv_iconst (v := 0) hx hb dX0_isTaken_12 (by decide) ?_
    refine ck_zq hx hb hr hlocks (by first | exact Or.inl rfl | exact Or.inr rfl) dX0_isTaken_13 ?_
    exact Or.inr ⟨rfl, c_5⟩
  · skip
    have c_5 : ¬ (t ≤ j) := fun z => c_5 ((nI_leI (by omega) (by omega)).mpr z)
    refine lv_iconst (v := 1) hx hb dX0_isTaken_8 (by decide) ?_
    refine lv_goto (tgt := 13) hx hb dX0_isTaken_9 (by decide) ?_
    refine ck_zq hx hb hr hlocks (by first | exact Or.inl rfl | exact Or.inr rfl) dX0_isTaken_13 ?_
    exact Or.inl ⟨rfl, by omega⟩
set_option maxRecDepth 20000 in
theorem k_X0_hasRoom_f19 : (.fieldLink RX0 19 "CookieListener$Connections" "count" "I" : Cond) ∈ wsX0_hasRoom := by decide +kernel
set_option maxRecDepth 20000 in
theorem k_X0_hasRoom_in0 : ∀ w ∈ u_ws RX0 TX0 4, w ∈ wsX0_hasRoom := by decide +kernel
set_option maxHeartbeats 4000000 in
set_option maxRecDepth 100000 in
theorem c_X0_hasRoom (l : Launch) (dC : Nat → ClassId) (dI : Nat → Nat → Nat) (cI cJ cZ : ClassId) (lo sz : Nat) (cn b1 b2 : Nat) (k t : Nat) (g1 : Nat → Int64) (g2 : Nat → Int32) (room : Int32) (ht : t ≤ k) (hk : k ≤ 64) : Met l yX0_hasRoom wsX0_hasRoom ({ frames := 1, cells := 0, slots := 0, locals := 20 } : Room) (va_Pc [.ref cn, .int room] (ck_P (dC, dI) [(cI, .int), (cJ, .long), (cZ, .boolean)] lo sz [(cn, .inr (0, [.ref b1, .ref b2, .int (nI k), .int (nI t)])), (b1, .inl (cJ, 64, .inr (.inl g1))), (b2, .inl (cI, 64, .inl g2))])) (vp_Si (fun (r : Int32) => (r = 1 ∧ nI (k - t) < room ∧ k < 64) ∨ (r = 0 ∧ ¬ (nI (k - t) < room ∧ k < 64)))) 0 0 (fun _ => False) := by
  refine Met.ofW (cc := cX0_hasRoom) (maxL := 2) (ret := (some .boolean)) (by decide) rfl ?_
  intro p e s m args below meth c s₁ B hml hv
  obtain ⟨rfl, hsz, hP, hK, hD0, hE⟩ := hv
  have hx := B.exec
  have hb := B.bytes
  have hr := B.returns
  have hts := atoms_spec (ws := wsX0_hasRoom) B.pre
  have hown : s.vm.findClass RX0 = some m.cls := findClass_of_methodNamed B.named
  have hlocks := B.notSynchronized
  subst hsz
  have hD := hD0.self (sz := s.heap.size)
  have hlo := ck_lo (sz := s.heap.size) hD0 hE.1
  generalize hAe : va_A [(cn, .inr (0, [.ref b1, .ref b2, .int (nI k), .int (nI t)])), (b1, .inl (cJ, 64, .inr (.inl g1))), (b2, .inl (cI, 64, .inl g2))] s.heap.size = A at hD hlo
  have hA : ∀ q : Nat, s.heap.size ≤ q → A q := fun q h => by rw [← hAe]; exact Or.inr h
  have hG : ck_G (dC, dI) [(cI, .int), (cJ, .long), (cZ, .boolean)] lo A s := ⟨hK, hE, hA, hlo⟩
  have hS : va_S A s.heap s.heap [] := va_S.rf
  have hP : va_P (dC, dI) vwCl [(cn, .inr (0, [.ref b1, .ref b2, .int (nI k), .int (nI t)])), (b1, .inl (cJ, 64, .inr (.inl g1))), (b2, .inl (cI, 64, .inl g2))] s.heap := hP
  have hl := lv_entry ([.ref cn, .int room]) (n := 2) (Nat.le_of_ble_eq_true rfl)
  rw [lg_entry_eq]
  generalize (lg_sl ([.ref cn, .int room]) ++ List.replicate (2 - (lg_sl ([.ref cn, .int room])).length) Slot.unset).toArray = ls at hl ⊢
  have hl : lv_has ls 2 [(0, .ref cn), (1, .int room)] := hl
  refine lv_aload_n hx hb dX0_hasRoom_0 rfl (lv_at hl 0 rfl) ?_
  refine ck_ri (va_runV (As := []) (rest := []) ⟨hx, hb, hml, hown, hts⟩ (c_X0_waiting l dC dI cI cJ cZ lo _ cn b1 b2 k t g1 g2 (by first | assumption | omega) (by first | assumption | omega)) (cwV 0 hts gX0_hasRoom_X0_waiting rfl rfl rfl (by decide +kernel) ⟨(Nat.le_of_ble_eq_true rfl), (Nat.le_of_ble_eq_true rfl)⟩) ⟨ck_blind, va_recv hK hP (ci := 0) (q0 := 0) rfl rfl, (ck_pre hG hP hD hS [0, 1, 2] rfl (by decide) _)⟩ rfl rfl hl.1 rfl (lv_room (Nat.le_of_ble_eq_true rfl)) dX0_hasRoom_1 ⟨(Nat.le_of_ble_eq_true rfl), (Nat.le_of_ble_eq_true rfl)⟩) (fun r_1 hw_1 => ?_)
  have hw_1 : r_1 = nI (k - t) := hw_1
  subst hw_1
  refine lv_iload_n hx hb dX0_hasRoom_4 rfl (lv_at hl 1 rfl) ?_
  refine lv_icmp_ge (tgt := 21) hx hb dX0_hasRoom_5 (by decide) (fun c_5 => ?_) (fun c_5 => ?_)
  · skip
    refine lv_iconst (v := 0) hx hb dX0_hasRoom_21 (by decide) ?_
    refine ck_zq hx hb hr hlocks (by first | exact Or.inl rfl | exact Or.inr rfl) dX0_hasRoom_22 ?_
    exact Or.inr ⟨rfl, fun z => absurd z.1 (Int32.not_lt.mpr c_5)⟩
  · skip
    refine lv_aload_n hx hb dX0_hasRoom_8 rfl (lv_at hl 0 rfl) ?_
    refine va_get (D := (dC, dI)) (ci := 0) (v := .int (nI k)) (C := RX0) (T := TX0) (N := 4) hx hb hts (k_X0_hasRoom_in0) hown hK hP 0 rfl rfl 2 (by decide) (hts _ k_X0_hasRoom_f19) (fun _ h9 => h9) rfl dX0_hasRoom_9 ?_
    refine lv_bipush (v := nI 64) hx hb dX0_hasRoom_12 (by decide) ?_
    refine lv_icmp_ge (tgt := 21) hx hb dX0_hasRoom_14 (by decide) (fun c_14 => ?_) (fun c_14 => ?_)
    · skip
      have c_14 : 64 ≤ k := (nI_leI (by omega) (by omega)).mp c_14
      refine lv_iconst (v := 0) hx hb dX0_hasRoom_21 (by decide) ?_
      refine ck_zq hx hb hr hlocks (by first | exact Or.inl rfl | exact Or.inr rfl) dX0_hasRoom_22 ?_
      exact Or.inr ⟨rfl, fun z => by omega⟩
    · skip
      have c_14 : ¬ (64 ≤ k) := fun z => c_14 ((nI_leI (by omega) (by omega)).mpr z)
      refine lv_iconst (v := 1) hx hb dX0_hasRoom_17 (by decide) ?_
      refine lv_goto (tgt := 22) hx hb dX0_hasRoom_18 (by decide) ?_
      refine ck_zq hx hb hr hlocks (by first | exact Or.inl rfl | exact Or.inr rfl) dX0_hasRoom_22 ?_
      exact Or.inl ⟨rfl, Int32.not_le.mp c_5, by omega⟩
set_option maxRecDepth 20000 in
theorem k_X0_find_f19 : (.fieldLink RX0 19 "CookieListener$Connections" "count" "I" : Cond) ∈ wsX0_find := by decide +kernel
set_option maxRecDepth 20000 in
theorem k_X0_find_in0 : ∀ w ∈ u_ws RX0 TX0 4, w ∈ wsX0_find := by decide +kernel
set_option maxRecDepth 20000 in
theorem k_X0_find_f9 : (.fieldLink RX0 9 "CookieListener$Connections" "callers" "[J" : Cond) ∈ wsX0_find := by decide +kernel
set_option maxHeartbeats 4000000 in
set_option maxRecDepth 100000 in
theorem c_X0_find (l : Launch) (dC : Nat → ClassId) (dI : Nat → Nat → Nat) (cI cJ cZ : ClassId) (lo sz : Nat) (cn b1 b2 : Nat) (k t : Nat) (g1 : Nat → Int64) (g2 : Nat → Int32) (x : Int64) (hk : k ≤ 64) : Met l yX0_find wsX0_find ({ frames := 0, cells := 0, slots := 0, locals := 0 } : Room) (va_Pc [.ref cn, .long x] (ck_P (dC, dI) [(cI, .int), (cJ, .long), (cZ, .boolean)] lo sz [(cn, .inr (0, [.ref b1, .ref b2, .int (nI k), .int (nI t)])), (b1, .inl (cJ, 64, .inr (.inl g1))), (b2, .inl (cI, 64, .inl g2))])) (vp_Si (fun (r : Int32) => ck_fnd k g1 x r)) 0 0 (fun _ => False) := by
  refine Met.ofW (cc := cX0_find) (maxL := 4) (ret := (some .int)) (by decide) rfl ?_
  intro p e s m args below meth c s₁ B hml hv
  obtain ⟨rfl, hsz, hP, hK, hD0, hE⟩ := hv
  have hx := B.exec
  have hb := B.bytes
  have hr := B.returns
  have hts := atoms_spec (ws := wsX0_find) B.pre
  have hown : s.vm.findClass RX0 = some m.cls := findClass_of_methodNamed B.named
  have hlocks := B.notSynchronized
  subst hsz
  have hD := hD0.self (sz := s.heap.size)
  have hlo := ck_lo (sz := s.heap.size) hD0 hE.1
  generalize hAe : va_A [(cn, .inr (0, [.ref b1, .ref b2, .int (nI k), .int (nI t)])), (b1, .inl (cJ, 64, .inr (.inl g1))), (b2, .inl (cI, 64, .inl g2))] s.heap.size = A at hD hlo
  have hA : ∀ q : Nat, s.heap.size ≤ q → A q := fun q h => by rw [← hAe]; exact Or.inr h
  have hG : ck_G (dC, dI) [(cI, .int), (cJ, .long), (cZ, .boolean)] lo A s := ⟨hK, hE, hA, hlo⟩
  have hS : va_S A s.heap s.heap [] := va_S.rf
  have hP : va_P (dC, dI) vwCl [(cn, .inr (0, [.ref b1, .ref b2, .int (nI k), .int (nI t)])), (b1, .inl (cJ, 64, .inr (.inl g1))), (b2, .inl (cI, 64, .inl g2))] s.heap := hP
  have hl := lv_entry ([.ref cn, .long x]) (n := 4) (Nat.le_of_ble_eq_true rfl)
  rw [lg_entry_eq]
  generalize (lg_sl ([.ref cn, .long x]) ++ List.replicate (4 - (lg_sl ([.ref cn, .long x])).length) Slot.unset).toArray = ls at hl ⊢
  have hl : lv_has ls 4 [(0, .ref cn), (1, .long x)] := hl
  refine lv_iconst (v := nI 0) hx hb dX0_find_0 (by decide) ?_
  refine lv_istore_n (lv' := [(3, .int (nI 0)), (0, .ref cn), (1, .long x)]) hx hb dX0_find_1 rfl hl (by decide) rfl (fun ls hl => ?_)
  have hloop : ∀ (fu : Nat) (i : Nat), (i ≤ k) → (k + 1 ≤ i + fu) → (∀ q, q < i → g1 q ≠ x) → ∀ (H : Heap) (locs : List Loc) (ls : Array Slot), H = s.heap → locs = [] → va_P (dC, dI) vwCl [(cn, .inr (0, [.ref b1, .ref b2, .int (nI k), .int (nI t)])), (b1, .inl (cJ, 64, .inr (.inl g1))), (b2, .inl (cI, 64, .inl g2))] H → va_D A [(cn, .inr (0, [.ref b1, .ref b2, .int (nI k), .int (nI t)])), (b1, .inl (cJ, 64, .inr (.inl g1))), (b2, .inl (cI, 64, .inl g2))] → va_S A s.heap H locs → lv_has ls 4 [(0, .ref cn), (1, .long x), (3, .int (nI i))] → W p l e (headSpec wsX0_find ({ frames := 0, cells := 0, slots := 0, locals := 0 } : Room)).room s m (([.ref cn, .long x] : List Value).toArray) below meth c H locs 0 0 (MQ below (vp_Si (fun (r : Int32) => ck_fnd k g1 x r)) (([.ref cn, .long x] : List Value).toArray) s 0 0 (fun _ => False)) (F0 m 2 ls []) := by
    intro fu
    induction fu with
    | zero =>
      intro i hi hf hv
      exfalso
      omega
    | succ fu ih =>
      intro i hi hf hv H locs ls eH eL hP hD hS hl
      subst eH; subst eL
      refine lv_iload_n hx hb dX0_find_2 rfl (lv_at hl 2 rfl) ?_
      refine lv_aload_n hx hb dX0_find_3 rfl (lv_at hl 0 rfl) ?_
      refine va_get (D := (dC, dI)) (ci := 0) (v := .int (nI k)) (C := RX0) (T := TX0) (N := 4) hx hb hts (k_X0_find_in0) hown hK hP 0 rfl rfl 2 (by decide) (hts _ k_X0_find_f19) (fun _ h9 => h9) rfl dX0_find_4 ?_
      refine lv_icmp_ge (tgt := 29) hx hb dX0_find_7 (by decide) (fun c_7 => ?_) (fun c_7 => ?_)
      · skip
        have c_7 : k ≤ i := (nI_leI (by omega) (by omega)).mp c_7
        refine lv_iconst (v := (-1)) hx hb dX0_find_29 (by decide) ?_
        refine ck_iq hx hb hr hlocks dX0_find_30 ?_
        exact Or.inl ⟨rfl, fun q hq => hv q (by omega)⟩
      · skip
        have c_7 : ¬ (k ≤ i) := fun z => c_7 ((nI_leI (by omega) (by omega)).mpr z)
        refine lv_aload_n hx hb dX0_find_10 rfl (lv_at hl 0 rfl) ?_
        refine va_get (D := (dC, dI)) (ci := 0) (v := .ref b1) (C := RX0) (T := TX0) (N := 4) hx hb hts (k_X0_find_in0) hown hK hP 0 rfl rfl 0 (by decide) (hts _ k_X0_find_f9) (fun _ h9 => h9) rfl dX0_find_11 ?_
        refine lv_iload_n hx hb dX0_find_14 rfl (lv_at hl 2 rfl) ?_
        refine ck_lald hx hb hK hP 1 1 rfl rfl (by omega) (by decide) dX0_find_15 ?_
        refine lv_lload_n hx hb dX0_find_16 rfl (lv_at hl 1 rfl) ?_
        refine W.lcmp hx hb dX0_find_17 ?_
        refine lv_if_ne (tgt := 23) hx hb dX0_find_18 (by decide) (fun c_18 => ?_) (fun c_18 => ?_)
        · skip
          refine lv_iinc (v := nI (i + 1)) (lv' := [(3, .int (nI (i + 1))), (0, .ref cn), (1, .long x)]) hx hb dX0_find_23 hl (k := 2) rfl (nI_1 _) (by decide) rfl (fun ls hl => ?_)
          refine lv_goto (tgt := 2) hx hb dX0_find_26 (by decide) ?_
          exact ih (i + 1) (by omega) (by omega) (lt_s hv (fun e => c_18 ((lg_cmp_eq _ _).mpr e))) _ _ _ rfl rfl (hP.sub [0, 1, 2] rfl) (hD.sub [0, 1, 2] (by decide) rfl) hS (lv_sub hl [1, 2, 0] rfl)
        · skip
          refine lv_iload_n hx hb dX0_find_21 rfl (lv_at hl 2 rfl) ?_
          refine ck_iq hx hb hr hlocks dX0_find_22 ?_
          exact Or.inr ⟨i, by omega, rfl, (lg_cmp_eq _ _).mp c_18⟩
  exact hloop (k + 1) 0 (by omega) (by omega) (fun q hq => absurd hq (Nat.not_lt_zero q)) _ _ _ rfl rfl (hP.sub [0, 1, 2] rfl) (hD.sub [0, 1, 2] (by decide) rfl) hS (lv_sub hl [1, 2, 0] rfl)
set_option maxRecDepth 20000 in
theorem k_X0_add_f19 : (.fieldLink RX0 19 "CookieListener$Connections" "count" "I" : Cond) ∈ wsX0_add := by decide +kernel
set_option maxRecDepth 20000 in
theorem k_X0_add_in0 : ∀ w ∈ u_ws RX0 TX0 4, w ∈ wsX0_add := by decide +kernel
set_option maxRecDepth 20000 in
theorem k_X0_add_f9 : (.fieldLink RX0 9 "CookieListener$Connections" "callers" "[J" : Cond) ∈ wsX0_add := by decide +kernel
set_option maxRecDepth 20000 in
theorem k_X0_add_f15 : (.fieldLink RX0 15 "CookieListener$Connections" "kinds" "[I" : Cond) ∈ wsX0_add := by decide +kernel
set_option maxHeartbeats 4000000 in
set_option maxRecDepth 100000 in
theorem c_X0_add (l : Launch) (dC : Nat → ClassId) (dI : Nat → Nat → Nat) (cI cJ cZ : ClassId) (lo sz : Nat) (cn b1 b2 : Nat) (k t : Nat) (g1 : Nat → Int64) (g2 : Nat → Int32) (x : Int64) (kd : Int32) (hk : k < 64) (ht : t ≤ k) : Met l yX0_add wsX0_add ({ frames := 0, cells := 0, slots := 0, locals := 0 } : Room) (va_Pc [.ref cn, .long x, .int kd] (ck_P (dC, dI) [(cI, .int), (cJ, .long), (cZ, .boolean)] lo sz [(cn, .inr (0, [.ref b1, .ref b2, .int (nI k), .int (nI t)])), (b1, .inl (cJ, 64, .inr (.inl g1))), (b2, .inl (cI, 64, .inl g2))])) (va_Qv (fun (u : Unit) => True) (fun u => ck_B (dC, dI) vwCl (va_A [(cn, .inr (0, [.ref b1, .ref b2, .int (nI k), .int (nI t)])), (b1, .inl (cJ, 64, .inr (.inl g1))), (b2, .inl (cI, 64, .inl g2))] sz) ((fun u : Unit => ([(cn, .inr (0, [.ref b1, .ref b2, .int (nI (k + 1)), .int (nI t)])), (b1, .inl (cJ, 64, .inr (.inl (vp_updL g1 k x)))), (b2, .inl (cI, 64, .inl (upd g2 k kd)))] : va_W)) u)) (va_A [(cn, .inr (0, [.ref b1, .ref b2, .int (nI k), .int (nI t)])), (b1, .inl (cJ, 64, .inr (.inl g1))), (b2, .inl (cI, 64, .inl g2))] sz)) 0 0 (va_A [(cn, .inr (0, [.ref b1, .ref b2, .int (nI k), .int (nI t)])), (b1, .inl (cJ, 64, .inr (.inl g1))), (b2, .inl (cI, 64, .inl g2))] sz) := by
  refine Met.ofW (cc := cX0_add) (maxL := 4) (ret := none) (by decide) rfl ?_
  intro p e s m args below meth c s₁ B hml hv
  obtain ⟨rfl, hsz, hP, hK, hD0, hE⟩ := hv
  have hx := B.exec
  have hb := B.bytes
  have hr := B.returns
  have hts := atoms_spec (ws := wsX0_add) B.pre
  have hown : s.vm.findClass RX0 = some m.cls := findClass_of_methodNamed B.named
  have hlocks := B.notSynchronized
  subst hsz
  have hD := hD0.self (sz := s.heap.size)
  have hlo := ck_lo (sz := s.heap.size) hD0 hE.1
  generalize hAe : va_A [(cn, .inr (0, [.ref b1, .ref b2, .int (nI k), .int (nI t)])), (b1, .inl (cJ, 64, .inr (.inl g1))), (b2, .inl (cI, 64, .inl g2))] s.heap.size = A at hD hlo ⊢
  have hA : ∀ q : Nat, s.heap.size ≤ q → A q := fun q h => by rw [← hAe]; exact Or.inr h
  have hG : ck_G (dC, dI) [(cI, .int), (cJ, .long), (cZ, .boolean)] lo A s := ⟨hK, hE, hA, hlo⟩
  have hS : va_S A s.heap s.heap [] := va_S.rf
  have hP : va_P (dC, dI) vwCl [(cn, .inr (0, [.ref b1, .ref b2, .int (nI k), .int (nI t)])), (b1, .inl (cJ, 64, .inr (.inl g1))), (b2, .inl (cI, 64, .inl g2))] s.heap := hP
  have hl := lv_entry ([.ref cn, .long x, .int kd]) (n := 4) (Nat.le_of_ble_eq_true rfl)
  rw [lg_entry_eq]
  generalize (lg_sl ([.ref cn, .long x, .int kd]) ++ List.replicate (4 - (lg_sl ([.ref cn, .long x, .int kd])).length) Slot.unset).toArray = ls at hl ⊢
  have hl : lv_has ls 4 [(0, .ref cn), (1, .long x), (3, .int kd)] := hl
  refine lv_aload_n hx hb dX0_add_0 rfl (lv_at hl 0 rfl) ?_
  refine va_get (D := (dC, dI)) (ci := 0) (v := .int (nI k)) (C := RX0) (T := TX0) (N := 4) hx hb hts (k_X0_add_in0) hown hK hP 0 rfl rfl 2 (by decide) (hts _ k_X0_add_f19) (fun _ h9 => h9) rfl dX0_add_1 ?_
  refine lv_bipush (v := nI 64) hx hb dX0_add_4 (by decide) ?_
  refine lv_icmp_lt (tgt := 10) hx hb dX0_add_6 (by decide) (fun c_6 => ?_) (fun c_6 => ?_)
  · skip
    have c_6 : k < 64 := (nI_ltI (by omega) (by omega)).mp c_6
    refine lv_aload_n hx hb dX0_add_10 rfl (lv_at hl 0 rfl) ?_
    refine va_get (D := (dC, dI)) (ci := 0) (v := .ref b1) (C := RX0) (T := TX0) (N := 4) hx hb hts (k_X0_add_in0) hown hK hP 0 rfl rfl 0 (by decide) (hts _ k_X0_add_f9) (fun _ h9 => h9) rfl dX0_add_11 ?_
    refine lv_aload_n hx hb dX0_add_14 rfl (lv_at hl 0 rfl) ?_
    refine va_get (D := (dC, dI)) (ci := 0) (v := .int (nI k)) (C := RX0) (T := TX0) (N := 4) hx hb hts (k_X0_add_in0) hown hK hP 0 rfl rfl 2 (by decide) (hts _ k_X0_add_f19) (fun _ h9 => h9) rfl dX0_add_15 ?_
    refine lv_lload_n hx hb dX0_add_18 rfl (lv_at hl 1 rfl) ?_
    refine ck_last hx hb hK hP hD hS 1 1 rfl rfl (by omega) (by decide) dX0_add_19 (fun H locs hP hD hS => ?_)
    have hP : va_P (dC, dI) vwCl [(cn, .inr (0, [.ref b1, .ref b2, .int (nI k), .int (nI t)])), (b1, .inl (cJ, 64, .inr (.inl (vp_updL g1 k x)))), (b2, .inl (cI, 64, .inl g2))] H := hP
    have hD : va_D A [(cn, .inr (0, [.ref b1, .ref b2, .int (nI k), .int (nI t)])), (b1, .inl (cJ, 64, .inr (.inl (vp_updL g1 k x)))), (b2, .inl (cI, 64, .inl g2))] := hD
    refine lv_aload_n hx hb dX0_add_20 rfl (lv_at hl 0 rfl) ?_
    refine va_get (D := (dC, dI)) (ci := 0) (v := .ref b2) (C := RX0) (T := TX0) (N := 4) hx hb hts (k_X0_add_in0) hown hK hP 0 rfl rfl 1 (by decide) (hts _ k_X0_add_f15) (fun _ h9 => h9) rfl dX0_add_21 ?_
    refine lv_aload_n hx hb dX0_add_24 rfl (lv_at hl 0 rfl) ?_
    refine va_get (D := (dC, dI)) (ci := 0) (v := .int (nI k)) (C := RX0) (T := TX0) (N := 4) hx hb hts (k_X0_add_in0) hown hK hP 0 rfl rfl 2 (by decide) (hts _ k_X0_add_f19) (fun _ h9 => h9) rfl dX0_add_25 ?_
    refine lv_iload_n hx hb dX0_add_28 rfl (lv_at hl 2 rfl) ?_
    refine ck_iast hx hb hK hP hD hS 2 0 rfl rfl (by omega) (by decide) dX0_add_29 (fun H locs hP hD hS => ?_)
    have hP : va_P (dC, dI) vwCl [(cn, .inr (0, [.ref b1, .ref b2, .int (nI k), .int (nI t)])), (b1, .inl (cJ, 64, .inr (.inl (vp_updL g1 k x)))), (b2, .inl (cI, 64, .inl (upd g2 k kd)))] H := hP
    have hD : va_D A [(cn, .inr (0, [.ref b1, .ref b2, .int (nI k), .int (nI t)])), (b1, .inl (cJ, 64, .inr (.inl (vp_updL g1 k x)))), (b2, .inl (cI, 64, .inl (upd g2 k kd)))] := hD
    refine lv_aload_n hx hb dX0_add_30 rfl (lv_at hl 0 rfl) ?_
    refine lv_dup hx hb dX0_add_31 rfl ?_
    refine va_get (D := (dC, dI)) (ci := 0) (v := .int (nI k)) (C := RX0) (T := TX0) (N := 4) hx hb hts (k_X0_add_in0) hown hK hP 0 rfl rfl 2 (by decide) (hts _ k_X0_add_f19) (fun _ h9 => h9) rfl dX0_add_32 ?_
    refine lv_iconst (v := 1) hx hb dX0_add_35 (by decide) ?_
    refine lv_iadd hx hb dX0_add_36 ?_
    refine ck_toi (y := nI (k + 1)) (nI_1 _) ?_
    refine va_put (D := (dC, dI)) (ci := 0) (v := .int (nI (k + 1))) (ty := .int) (C := RX0) (T := TX0) (N := 4) hx hb hts (k_X0_add_in0) tyX0 tyX0_ok nmX0 hown hK hP hD hS 0 rfl rfl 2 (by decide) (hts _ k_X0_add_f19) (fun _ h9 => h9) rfl (by decide +kernel) rfl rfl (Nat.le_of_ble_eq_true rfl) dX0_add_37 (fun H locs hP hD hS => ?_)
    have hP : va_P (dC, dI) vwCl [(cn, .inr (0, [.ref b1, .ref b2, .int (nI (k + 1)), .int (nI t)])), (b1, .inl (cJ, 64, .inr (.inl (vp_updL g1 k x)))), (b2, .inl (cI, 64, .inl (upd g2 k kd)))] H := hP
    have hD : va_D A [(cn, .inr (0, [.ref b1, .ref b2, .int (nI (k + 1)), .int (nI t)])), (b1, .inl (cJ, 64, .inr (.inl (vp_updL g1 k x)))), (b2, .inl (cI, 64, .inl (upd g2 k kd)))] := hD
    subst_vars
    refine ck_vr hx hb hr hlocks (Nat.le_of_ble_eq_true rfl) (Nat.le_of_ble_eq_true rfl) dX0_add_40 () hP hD hS ?_
    exact trivial
  · skip
    have c_6 : ¬ (k < 64) := fun z => c_6 ((nI_ltI (by omega) (by omega)).mpr z)
    omega
set_option maxRecDepth 20000 in
theorem k_X0_takeFirst_f23 : (.fieldLink RX0 23 "CookieListener$Connections" "taken" "I" : Cond) ∈ wsX0_takeFirst := by decide +kernel
set_option maxRecDepth 20000 in
theorem k_X0_takeFirst_in0 : ∀ w ∈ u_ws RX0 TX0 4, w ∈ wsX0_takeFirst := by decide +kernel
set_option maxRecDepth 20000 in
theorem k_X0_takeFirst_f19 : (.fieldLink RX0 19 "CookieListener$Connections" "count" "I" : Cond) ∈ wsX0_takeFirst := by decide +kernel
set_option maxHeartbeats 4000000 in
set_option maxRecDepth 100000 in
theorem c_X0_takeFirst (l : Launch) (dC : Nat → ClassId) (dI : Nat → Nat → Nat) (cI cJ cZ : ClassId) (lo sz : Nat) (cn b1 b2 : Nat) (k t : Nat) (g1 : Nat → Int64) (g2 : Nat → Int32) (ht : t ≤ k) (hk : k ≤ 64) : Met l yX0_takeFirst wsX0_takeFirst ({ frames := 0, cells := 0, slots := 0, locals := 0 } : Room) (va_Pc [.ref cn] (ck_P (dC, dI) [(cI, .int), (cJ, .long), (cZ, .boolean)] lo sz [(cn, .inr (0, [.ref b1, .ref b2, .int (nI k), .int (nI t)])), (b1, .inl (cJ, 64, .inr (.inl g1))), (b2, .inl (cI, 64, .inl g2))])) (va_Qi (fun (r : Int32) (u : Nat) => (t < k ∧ r = nI t ∧ u = t + 1) ∨ (k ≤ t ∧ r = -1 ∧ u = t)) (fun u => ck_B (dC, dI) vwCl (va_A [(cn, .inr (0, [.ref b1, .ref b2, .int (nI k), .int (nI t)])), (b1, .inl (cJ, 64, .inr (.inl g1))), (b2, .inl (cI, 64, .inl g2))] sz) ((fun u : Nat => ([(cn, .inr (0, [.ref b1, .ref b2, .int (nI k), .int (nI u)])), (b1, .inl (cJ, 64, .inr (.inl g1))), (b2, .inl (cI, 64, .inl g2))] : va_W)) u)) (va_A [(cn, .inr (0, [.ref b1, .ref b2, .int (nI k), .int (nI t)])), (b1, .inl (cJ, 64, .inr (.inl g1))), (b2, .inl (cI, 64, .inl g2))] sz)) 0 0 (va_A [(cn, .inr (0, [.ref b1, .ref b2, .int (nI k), .int (nI t)])), (b1, .inl (cJ, 64, .inr (.inl g1))), (b2, .inl (cI, 64, .inl g2))] sz) := by
  refine Met.ofW (cc := cX0_takeFirst) (maxL := 1) (ret := (some .int)) (by decide) rfl ?_
  intro p e s m args below meth c s₁ B hml hv
  obtain ⟨rfl, hsz, hP, hK, hD0, hE⟩ := hv
  have hx := B.exec
  have hb := B.bytes
  have hr := B.returns
  have hts := atoms_spec (ws := wsX0_takeFirst) B.pre
  have hown : s.vm.findClass RX0 = some m.cls := findClass_of_methodNamed B.named
  have hlocks := B.notSynchronized
  subst hsz
  have hD := hD0.self (sz := s.heap.size)
  have hlo := ck_lo (sz := s.heap.size) hD0 hE.1
  generalize hAe : va_A [(cn, .inr (0, [.ref b1, .ref b2, .int (nI k), .int (nI t)])), (b1, .inl (cJ, 64, .inr (.inl g1))), (b2, .inl (cI, 64, .inl g2))] s.heap.size = A at hD hlo ⊢
  have hA : ∀ q : Nat, s.heap.size ≤ q → A q := fun q h => by rw [← hAe]; exact Or.inr h
  have hG : ck_G (dC, dI) [(cI, .int), (cJ, .long), (cZ, .boolean)] lo A s := ⟨hK, hE, hA, hlo⟩
  have hS : va_S A s.heap s.heap [] := va_S.rf
  have hP : va_P (dC, dI) vwCl [(cn, .inr (0, [.ref b1, .ref b2, .int (nI k), .int (nI t)])), (b1, .inl (cJ, 64, .inr (.inl g1))), (b2, .inl (cI, 64, .inl g2))] s.heap := hP
  have hl := lv_entry ([.ref cn]) (n := 1) (Nat.le_of_ble_eq_true rfl)
  rw [lg_entry_eq]
  generalize (lg_sl ([.ref cn]) ++ List.replicate (1 - (lg_sl ([.ref cn])).length) Slot.unset).toArray = ls at hl ⊢
  have hl : lv_has ls 1 [(0, .ref cn)] := hl
  refine lv_aload_n hx hb dX0_takeFirst_0 rfl (lv_at hl 0 rfl) ?_
  refine va_get (D := (dC, dI)) (ci := 0) (v := .int (nI t)) (C := RX0) (T := TX0) (N := 4) hx hb hts (k_X0_takeFirst_in0) hown hK hP 0 rfl rfl 3 (by decide) (hts _ k_X0_takeFirst_f23) (fun _ h9 => h9) rfl dX0_takeFirst_1 ?_
  refine lv_aload_n hx hb dX0_takeFirst_4 rfl (lv_at hl 0 rfl) ?_
  refine va_get (D := (dC, dI)) (ci := 0) (v := .int (nI k)) (C := RX0) (T := TX0) (N := 4) hx hb hts (k_X0_takeFirst_in0) hown hK hP 0 rfl rfl 2 (by decide) (hts _ k_X0_takeFirst_f19) (fun _ h9 => h9) rfl dX0_takeFirst_5 ?_
  refine lv_icmp_lt (tgt := 13) hx hb dX0_takeFirst_8 (by decide) (fun c_8 => ?_) (fun c_8 => ?_)
  · skip
    have c_8 : t < k := (nI_ltI (by omega) (by omega)).mp c_8
    refine lv_aload_n hx hb dX0_takeFirst_13 rfl (lv_at hl 0 rfl) ?_
    refine lv_dup hx hb dX0_takeFirst_14 rfl ?_
    refine va_get (D := (dC, dI)) (ci := 0) (v := .int (nI t)) (C := RX0) (T := TX0) (N := 4) hx hb hts (k_X0_takeFirst_in0) hown hK hP 0 rfl rfl 3 (by decide) (hts _ k_X0_takeFirst_f23) (fun _ h9 => h9) rfl dX0_takeFirst_15 ?_
    refine lv_iconst (v := 1) hx hb dX0_takeFirst_18 (by decide) ?_
    refine lv_iadd hx hb dX0_takeFirst_19 ?_
    refine ck_toi (y := nI (t + 1)) (nI_1 _) ?_
    refine va_put (D := (dC, dI)) (ci := 0) (v := .int (nI (t + 1))) (ty := .int) (C := RX0) (T := TX0) (N := 4) hx hb hts (k_X0_takeFirst_in0) tyX0 tyX0_ok nmX0 hown hK hP hD hS 0 rfl rfl 3 (by decide) (hts _ k_X0_takeFirst_f23) (fun _ h9 => h9) rfl (by decide +kernel) rfl rfl (Nat.le_of_ble_eq_true rfl) dX0_takeFirst_20 (fun H locs hP hD hS => ?_)
    have hP : va_P (dC, dI) vwCl [(cn, .inr (0, [.ref b1, .ref b2, .int (nI k), .int (nI (t + 1))])), (b1, .inl (cJ, 64, .inr (.inl g1))), (b2, .inl (cI, 64, .inl g2))] H := hP
    have hD : va_D A [(cn, .inr (0, [.ref b1, .ref b2, .int (nI k), .int (nI (t + 1))])), (b1, .inl (cJ, 64, .inr (.inl g1))), (b2, .inl (cI, 64, .inl g2))] := hD
    refine lv_aload_n hx hb dX0_takeFirst_23 rfl (lv_at hl 0 rfl) ?_
    refine va_get (D := (dC, dI)) (ci := 0) (v := .int (nI (t + 1))) (C := RX0) (T := TX0) (N := 4) hx hb hts (k_X0_takeFirst_in0) hown hK hP 0 rfl rfl 3 (by decide) (hts _ k_X0_takeFirst_f23) (fun _ h9 => h9) rfl dX0_takeFirst_24 ?_
    refine lv_iconst (v := 1) hx hb dX0_takeFirst_27 (by decide) ?_
    refine lv_isub hx hb dX0_takeFirst_28 ?_
    refine ck_toi (y := nI t) (nI_pred _) ?_
    refine ck_ir hx hb hr hlocks (Nat.le_of_ble_eq_true rfl) (Nat.le_of_ble_eq_true rfl) dX0_takeFirst_29 (t + 1) hP hD hS ?_
    exact Or.inl ⟨by omega, rfl, rfl⟩
  · skip
    have c_8 : ¬ (t < k) := fun z => c_8 ((nI_ltI (by omega) (by omega)).mpr z)
    refine lv_iconst (v := (-1)) hx hb dX0_takeFirst_11 (by decide) ?_
    refine ck_ir hx hb hr hlocks (Nat.le_of_ble_eq_true rfl) (Nat.le_of_ble_eq_true rfl) dX0_takeFirst_12 (t) hP hD hS ?_
    exact Or.inr ⟨by omega, rfl, rfl⟩
set_option maxRecDepth 20000 in
theorem k_X0_drop_f19 : (.fieldLink RX0 19 "CookieListener$Connections" "count" "I" : Cond) ∈ wsX0_drop := by decide +kernel
set_option maxRecDepth 20000 in
theorem k_X0_drop_in0 : ∀ w ∈ u_ws RX0 TX0 4, w ∈ wsX0_drop := by decide +kernel
set_option maxRecDepth 20000 in
theorem k_X0_drop_f9 : (.fieldLink RX0 9 "CookieListener$Connections" "callers" "[J" : Cond) ∈ wsX0_drop := by decide +kernel
set_option maxRecDepth 20000 in
theorem k_X0_drop_f15 : (.fieldLink RX0 15 "CookieListener$Connections" "kinds" "[I" : Cond) ∈ wsX0_drop := by decide +kernel
set_option maxRecDepth 20000 in
theorem k_X0_drop_f23 : (.fieldLink RX0 23 "CookieListener$Connections" "taken" "I" : Cond) ∈ wsX0_drop := by decide +kernel
set_option maxHeartbeats 4000000 in
set_option maxRecDepth 100000 in
theorem c_X0_drop (l : Launch) (dC : Nat → ClassId) (dI : Nat → Nat → Nat) (cI cJ cZ : ClassId) (lo sz : Nat) (cn b1 b2 : Nat) (k t : Nat) (g1 : Nat → Int64) (g2 : Nat → Int32) (j : Nat) (hk : k < 64) (ht : t ≤ k + 1) (hj : j < k + 1) : Met l yX0_drop wsX0_drop ({ frames := 1, cells := 0, slots := 0, locals := 21 } : Room) (va_Pc [.ref cn, .int (nI j)] (ck_P (dC, dI) [(cI, .int), (cJ, .long), (cZ, .boolean)] lo sz [(cn, .inr (0, [.ref b1, .ref b2, .int (nI (k + 1)), .int (nI t)])), (b1, .inl (cJ, 64, .inr (.inl g1))), (b2, .inl (cI, 64, .inl g2))])) (va_Qv (fun (u : Nat × (Nat → Int64) × (Nat → Int32)) => u.1 = (if j < t then t - 1 else t) ∧ ck_shf g1 u.2.1 j k ∧ ck_shf g2 u.2.2 j k) (fun u => ck_B (dC, dI) vwCl (va_A [(cn, .inr (0, [.ref b1, .ref b2, .int (nI (k + 1)), .int (nI t)])), (b1, .inl (cJ, 64, .inr (.inl g1))), (b2, .inl (cI, 64, .inl g2))] sz) ((fun u : Nat × (Nat → Int64) × (Nat → Int32) => ([(cn, .inr (0, [.ref b1, .ref b2, .int (nI k), .int (nI u.1)])), (b1, .inl (cJ, 64, .inr (.inl u.2.1))), (b2, .inl (cI, 64, .inl u.2.2))] : va_W)) u)) (va_A [(cn, .inr (0, [.ref b1, .ref b2, .int (nI (k + 1)), .int (nI t)])), (b1, .inl (cJ, 64, .inr (.inl g1))), (b2, .inl (cI, 64, .inl g2))] sz)) 0 0 (va_A [(cn, .inr (0, [.ref b1, .ref b2, .int (nI (k + 1)), .int (nI t)])), (b1, .inl (cJ, 64, .inr (.inl g1))), (b2, .inl (cI, 64, .inl g2))] sz) := by
  refine Met.ofW (cc := cX0_drop) (maxL := 3) (ret := none) (by decide) rfl ?_
  intro p e s m args below meth c s₁ B hml hv
  obtain ⟨rfl, hsz, hP, hK, hD0, hE⟩ := hv
  have hx := B.exec
  have hb := B.bytes
  have hr := B.returns
  have hts := atoms_spec (ws := wsX0_drop) B.pre
  have hown : s.vm.findClass RX0 = some m.cls := findClass_of_methodNamed B.named
  have hlocks := B.notSynchronized
  subst hsz
  have hD := hD0.self (sz := s.heap.size)
  have hlo := ck_lo (sz := s.heap.size) hD0 hE.1
  generalize hAe : va_A [(cn, .inr (0, [.ref b1, .ref b2, .int (nI (k + 1)), .int (nI t)])), (b1, .inl (cJ, 64, .inr (.inl g1))), (b2, .inl (cI, 64, .inl g2))] s.heap.size = A at hD hlo ⊢
  have hA : ∀ q : Nat, s.heap.size ≤ q → A q := fun q h => by rw [← hAe]; exact Or.inr h
  have hG : ck_G (dC, dI) [(cI, .int), (cJ, .long), (cZ, .boolean)] lo A s := ⟨hK, hE, hA, hlo⟩
  have hS : va_S A s.heap s.heap [] := va_S.rf
  have hP : va_P (dC, dI) vwCl [(cn, .inr (0, [.ref b1, .ref b2, .int (nI (k + 1)), .int (nI t)])), (b1, .inl (cJ, 64, .inr (.inl g1))), (b2, .inl (cI, 64, .inl g2))] s.heap := hP
  have hl := lv_entry ([.ref cn, .int (nI j)]) (n := 3) (Nat.le_of_ble_eq_true rfl)
  rw [lg_entry_eq]
  generalize (lg_sl ([.ref cn, .int (nI j)]) ++ List.replicate (3 - (lg_sl ([.ref cn, .int (nI j)])).length) Slot.unset).toArray = ls at hl ⊢
  have hl : lv_has ls 3 [(0, .ref cn), (1, .int (nI j))] := hl
  refine lv_iload_n hx hb dX0_drop_0 rfl (lv_at hl 1 rfl) ?_
  refine lv_if_lt (tgt := 12) hx hb dX0_drop_1 (by decide) (fun c_1 => ?_) (fun c_1 => ?_)
  · skip
    exact absurd c_1 (nI_pos (by omega))
  · skip
    refine lv_iload_n hx hb dX0_drop_4 rfl (lv_at hl 1 rfl) ?_
    refine lv_aload_n hx hb dX0_drop_5 rfl (lv_at hl 0 rfl) ?_
    refine va_get (D := (dC, dI)) (ci := 0) (v := .int (nI (k + 1))) (C := RX0) (T := TX0) (N := 4) hx hb hts (k_X0_drop_in0) hown hK hP 0 rfl rfl 2 (by decide) (hts _ k_X0_drop_f19) (fun _ h9 => h9) rfl dX0_drop_6 ?_
    refine lv_icmp_lt (tgt := 13) hx hb dX0_drop_9 (by decide) (fun c_9 => ?_) (fun c_9 => ?_)
    · skip
      have c_9 : j < (k + 1) := (nI_ltI (by omega) (by omega)).mp c_9
      refine lv_aload_n hx hb dX0_drop_13 rfl (lv_at hl 0 rfl) ?_
      refine lv_iload_n hx hb dX0_drop_14 rfl (lv_at hl 1 rfl) ?_
      refine ck_ri (va_runV (As := [.int (nI j)]) (rest := []) ⟨hx, hb, hml, hown, hts⟩ (c_X0_isTaken l dC dI cI cJ cZ lo _ cn b1 b2 (k + 1) t g1 g2 j (by first | assumption | omega) (by first | assumption | omega) (by first | assumption | omega)) (cwV 1 hts gX0_drop_X0_isTaken rfl rfl rfl (by decide +kernel) ⟨(Nat.le_of_ble_eq_true rfl), (Nat.le_of_ble_eq_true rfl)⟩) ⟨ck_blind, va_recv hK hP (ci := 0) (q0 := 0) rfl rfl, (ck_pre hG hP hD hS [0, 1, 2] rfl (by decide) _)⟩ rfl rfl hl.1 rfl (lv_room (Nat.le_of_ble_eq_true rfl)) dX0_drop_15 ⟨(Nat.le_of_ble_eq_true rfl), (Nat.le_of_ble_eq_true rfl)⟩) (fun r_1 hw_1 => ?_)
      have hw_1 : (r_1 = 1 ∧ j < t) ∨ (r_1 = 0 ∧ t ≤ j) := hw_1
      refine lv_if_eq (tgt := 31) hx hb dX0_drop_18 (by decide) (fun c_18 => ?_) (fun c_18 => ?_)
      · skip
        have c_18 : t ≤ j := by
          rcases hw_1 with h | h
          · rw [h.1] at c_18; exact absurd c_18 (by decide)
          · exact h.2
        refine lv_aload_n hx hb dX0_drop_31 rfl (lv_at hl 0 rfl) ?_
        refine lv_dup hx hb dX0_drop_32 rfl ?_
        refine va_get (D := (dC, dI)) (ci := 0) (v := .int (nI (k + 1))) (C := RX0) (T := TX0) (N := 4) hx hb hts (k_X0_drop_in0) hown hK hP 0 rfl rfl 2 (by decide) (hts _ k_X0_drop_f19) (fun _ h9 => h9) rfl dX0_drop_33 ?_
        refine lv_iconst (v := 1) hx hb dX0_drop_36 (by decide) ?_
        refine lv_isub hx hb dX0_drop_37 ?_
        refine ck_toi (y := nI k) (nI_pred _) ?_
        refine va_put (D := (dC, dI)) (ci := 0) (v := .int (nI k)) (ty := .int) (C := RX0) (T := TX0) (N := 4) hx hb hts (k_X0_drop_in0) tyX0 tyX0_ok nmX0 hown hK hP hD hS 0 rfl rfl 2 (by decide) (hts _ k_X0_drop_f19) (fun _ h9 => h9) rfl (by decide +kernel) rfl rfl (Nat.le_of_ble_eq_true rfl) dX0_drop_38 (fun H locs hP hD hS => ?_)
        have hP : va_P (dC, dI) vwCl [(cn, .inr (0, [.ref b1, .ref b2, .int (nI k), .int (nI t)])), (b1, .inl (cJ, 64, .inr (.inl g1))), (b2, .inl (cI, 64, .inl g2))] H := hP
        have hD : va_D A [(cn, .inr (0, [.ref b1, .ref b2, .int (nI k), .int (nI t)])), (b1, .inl (cJ, 64, .inr (.inl g1))), (b2, .inl (cI, 64, .inl g2))] := hD
        refine lv_iload_n hx hb dX0_drop_41 rfl (lv_at hl 1 rfl) ?_
        refine lv_istore_n (lv' := [(2, .int (nI j)), (0, .ref cn), (1, .int (nI j))]) hx hb dX0_drop_42 rfl hl (by decide) rfl (fun ls hl => ?_)
        have hloop : ∀ (fu : Nat) (i : Nat) (y1 : Nat → Int64) (y2 : Nat → Int32), (j ≤ i ∧ i ≤ k) → (k + 1 ≤ i + fu) → (ck_shf g1 y1 j i) → (ck_shf g2 y2 j i) → ∀ (H : Heap) (locs : List Loc) (ls : Array Slot), va_P (dC, dI) vwCl [(cn, .inr (0, [.ref b1, .ref b2, .int (nI k), .int (nI t)])), (b1, .inl (cJ, 64, .inr (.inl y1))), (b2, .inl (cI, 64, .inl y2))] H → va_D A [(cn, .inr (0, [.ref b1, .ref b2, .int (nI k), .int (nI t)])), (b1, .inl (cJ, 64, .inr (.inl y1))), (b2, .inl (cI, 64, .inl y2))] → va_S A s.heap H locs → lv_has ls 3 [(0, .ref cn), (1, .int (nI j)), (2, .int (nI i))] → W p l e (headSpec wsX0_drop ({ frames := 1, cells := 0, slots := 0, locals := 21 } : Room)).room s m (([.ref cn, .int (nI j)] : List Value).toArray) below meth c H locs 0 0 (MQ below (va_Qv (fun (u : Nat × (Nat → Int64) × (Nat → Int32)) => u.1 = (if j < t then t - 1 else t) ∧ ck_shf g1 u.2.1 j k ∧ ck_shf g2 u.2.2 j k) (fun u => ck_B (dC, dI) vwCl A ((fun u : Nat × (Nat → Int64) × (Nat → Int32) => ([(cn, .inr (0, [.ref b1, .ref b2, .int (nI k), .int (nI u.1)])), (b1, .inl (cJ, 64, .inr (.inl u.2.1))), (b2, .inl (cI, 64, .inl u.2.2))] : va_W)) u)) A) (([.ref cn, .int (nI j)] : List Value).toArray) s 0 0 A) (F0 m 43 ls []) := by
          intro fu
          induction fu with
          | zero =>
            intro i y1 y2 hi hf h1 h2
            exfalso
            omega
          | succ fu ih =>
            intro i y1 y2 hi hf h1 h2 H locs ls hP hD hS hl
            refine lv_iload_n hx hb dX0_drop_43 rfl (lv_at hl 2 rfl) ?_
            refine lv_aload_n hx hb dX0_drop_44 rfl (lv_at hl 0 rfl) ?_
            refine va_get (D := (dC, dI)) (ci := 0) (v := .int (nI k)) (C := RX0) (T := TX0) (N := 4) hx hb hts (k_X0_drop_in0) hown hK hP 0 rfl rfl 2 (by decide) (hts _ k_X0_drop_f19) (fun _ h9 => h9) rfl dX0_drop_45 ?_
            refine lv_icmp_ge (tgt := 85) hx hb dX0_drop_48 (by decide) (fun c_48 => ?_) (fun c_48 => ?_)
            · skip
              have c_48 : k ≤ i := (nI_leI (by omega) (by omega)).mp c_48
              refine ck_vr hx hb hr hlocks (Nat.le_of_ble_eq_true rfl) (Nat.le_of_ble_eq_true rfl) dX0_drop_85 (t, y1, y2) hP hD hS ?_
              have e9 : i = k := by omega
              rw [e9] at h1 h2
              exact ⟨by rw [if_neg (by omega)], h1, h2⟩
            · skip
              have c_48 : ¬ (k ≤ i) := fun z => c_48 ((nI_leI (by omega) (by omega)).mpr z)
              refine lv_aload_n hx hb dX0_drop_51 rfl (lv_at hl 0 rfl) ?_
              refine va_get (D := (dC, dI)) (ci := 0) (v := .ref b1) (C := RX0) (T := TX0) (N := 4) hx hb hts (k_X0_drop_in0) hown hK hP 0 rfl rfl 0 (by decide) (hts _ k_X0_drop_f9) (fun _ h9 => h9) rfl dX0_drop_52 ?_
              refine lv_iload_n hx hb dX0_drop_55 rfl (lv_at hl 2 rfl) ?_
              refine lv_aload_n hx hb dX0_drop_56 rfl (lv_at hl 0 rfl) ?_
              refine va_get (D := (dC, dI)) (ci := 0) (v := .ref b1) (C := RX0) (T := TX0) (N := 4) hx hb hts (k_X0_drop_in0) hown hK hP 0 rfl rfl 0 (by decide) (hts _ k_X0_drop_f9) (fun _ h9 => h9) rfl dX0_drop_57 ?_
              refine lv_iload_n hx hb dX0_drop_60 rfl (lv_at hl 2 rfl) ?_
              refine lv_iconst (v := 1) hx hb dX0_drop_61 (by decide) ?_
              refine lv_iadd hx hb dX0_drop_62 ?_
              refine ck_toi (y := nI (i + 1)) (nI_1 _) ?_
              refine ck_lald hx hb hK hP 1 1 rfl rfl (by omega) (by decide) dX0_drop_63 ?_
              refine ck_last hx hb hK hP hD hS 1 1 rfl rfl (by omega) (by decide) dX0_drop_64 (fun H locs hP hD hS => ?_)
              have hP : va_P (dC, dI) vwCl [(cn, .inr (0, [.ref b1, .ref b2, .int (nI k), .int (nI t)])), (b1, .inl (cJ, 64, .inr (.inl (vp_updL y1 i (y1 (i + 1)))))), (b2, .inl (cI, 64, .inl y2))] H := hP
              have hD : va_D A [(cn, .inr (0, [.ref b1, .ref b2, .int (nI k), .int (nI t)])), (b1, .inl (cJ, 64, .inr (.inl (vp_updL y1 i (y1 (i + 1)))))), (b2, .inl (cI, 64, .inl y2))] := hD
              refine lv_aload_n hx hb dX0_drop_65 rfl (lv_at hl 0 rfl) ?_
              refine va_get (D := (dC, dI)) (ci := 0) (v := .ref b2) (C := RX0) (T := TX0) (N := 4) hx hb hts (k_X0_drop_in0) hown hK hP 0 rfl rfl 1 (by decide) (hts _ k_X0_drop_f15) (fun _ h9 => h9) rfl dX0_drop_66 ?_
              refine lv_iload_n hx hb dX0_drop_69 rfl (lv_at hl 2 rfl) ?_
              refine lv_aload_n hx hb dX0_drop_70 rfl (lv_at hl 0 rfl) ?_
              refine va_get (D := (dC, dI)) (ci := 0) (v := .ref b2) (C := RX0) (T := TX0) (N := 4) hx hb hts (k_X0_drop_in0) hown hK hP 0 rfl rfl 1 (by decide) (hts _ k_X0_drop_f15) (fun _ h9 => h9) rfl dX0_drop_71 ?_
              refine lv_iload_n hx hb dX0_drop_74 rfl (lv_at hl 2 rfl) ?_
              refine lv_iconst (v := 1) hx hb dX0_drop_75 (by decide) ?_
              refine lv_iadd hx hb dX0_drop_76 ?_
              refine ck_toi (y := nI (i + 1)) (nI_1 _) ?_
              refine ck_iald hx hb hK hP 2 0 rfl rfl (by omega) (by decide) dX0_drop_77 ?_
              refine ck_iast hx hb hK hP hD hS 2 0 rfl rfl (by omega) (by decide) dX0_drop_78 (fun H locs hP hD hS => ?_)
              have hP : va_P (dC, dI) vwCl [(cn, .inr (0, [.ref b1, .ref b2, .int (nI k), .int (nI t)])), (b1, .inl (cJ, 64, .inr (.inl (vp_updL y1 i (y1 (i + 1)))))), (b2, .inl (cI, 64, .inl (upd y2 i (y2 (i + 1)))))] H := hP
              have hD : va_D A [(cn, .inr (0, [.ref b1, .ref b2, .int (nI k), .int (nI t)])), (b1, .inl (cJ, 64, .inr (.inl (vp_updL y1 i (y1 (i + 1)))))), (b2, .inl (cI, 64, .inl (upd y2 i (y2 (i + 1)))))] := hD
              refine lv_iinc (v := nI (i + 1)) (lv' := [(2, .int (nI (i + 1))), (0, .ref cn), (1, .int (nI j))]) hx hb dX0_drop_79 hl (k := 2) rfl (nI_1 _) (by decide) rfl (fun ls hl => ?_)
              refine lv_goto (tgt := 43) hx hb dX0_drop_82 (by decide) ?_
              exact ih (i + 1) (vp_updL y1 i (y1 (i + 1))) (upd y2 i (y2 (i + 1))) (⟨by omega, by omega⟩) (by omega) (ck_shfL h1 (by omega)) (ck_shfI h2 (by omega)) _ _ _ (hP.sub [0, 1, 2] rfl) (hD.sub [0, 1, 2] (by decide) rfl) hS (lv_sub hl [1, 2, 0] rfl)
        exact hloop (k + 1) j g1 g2 (⟨by omega, by omega⟩) (by omega) (ck_shf0) (ck_shf0) _ _ _ (hP.sub [0, 1, 2] rfl) (hD.sub [0, 1, 2] (by decide) rfl) hS (lv_sub hl [1, 2, 0] rfl)
      · skip
        have c_18 : j < t := by
          rcases hw_1 with h | h
          · exact h.2
          · exact absurd h.1 c_18
        obtain ⟨t0, rfl⟩ : ∃ t0, t = t0 + 1 := ⟨t - 1, by have := c_18; omega⟩
        refine lv_aload_n hx hb dX0_drop_21 rfl (lv_at hl 0 rfl) ?_
        refine lv_dup hx hb dX0_drop_22 rfl ?_
        refine va_get (D := (dC, dI)) (ci := 0) (v := .int (nI (t0 + 1))) (C := RX0) (T := TX0) (N := 4) hx hb hts (k_X0_drop_in0) hown hK hP 0 rfl rfl 3 (by decide) (hts _ k_X0_drop_f23) (fun _ h9 => h9) rfl dX0_drop_23 ?_
        refine lv_iconst (v := 1) hx hb dX0_drop_26 (by decide) ?_
        refine lv_isub hx hb dX0_drop_27 ?_
        refine ck_toi (y := nI t0) (nI_pred _) ?_
        refine va_put (D := (dC, dI)) (ci := 0) (v := .int (nI t0)) (ty := .int) (C := RX0) (T := TX0) (N := 4) hx hb hts (k_X0_drop_in0) tyX0 tyX0_ok nmX0 hown hK hP hD hS 0 rfl rfl 3 (by decide) (hts _ k_X0_drop_f23) (fun _ h9 => h9) rfl (by decide +kernel) rfl rfl (Nat.le_of_ble_eq_true rfl) dX0_drop_28 (fun H locs hP hD hS => ?_)
        have hP : va_P (dC, dI) vwCl [(cn, .inr (0, [.ref b1, .ref b2, .int (nI (k + 1)), .int (nI t0)])), (b1, .inl (cJ, 64, .inr (.inl g1))), (b2, .inl (cI, 64, .inl g2))] H := hP
        have hD : va_D A [(cn, .inr (0, [.ref b1, .ref b2, .int (nI (k + 1)), .int (nI t0)])), (b1, .inl (cJ, 64, .inr (.inl g1))), (b2, .inl (cI, 64, .inl g2))] := hD
        refine lv_aload_n hx hb dX0_drop_31 rfl (lv_at hl 0 rfl) ?_
        refine lv_dup hx hb dX0_drop_32 rfl ?_
        refine va_get (D := (dC, dI)) (ci := 0) (v := .int (nI (k + 1))) (C := RX0) (T := TX0) (N := 4) hx hb hts (k_X0_drop_in0) hown hK hP 0 rfl rfl 2 (by decide) (hts _ k_X0_drop_f19) (fun _ h9 => h9) rfl dX0_drop_33 ?_
        refine lv_iconst (v := 1) hx hb dX0_drop_36 (by decide) ?_
        refine lv_isub hx hb dX0_drop_37 ?_
        refine ck_toi (y := nI k) (nI_pred _) ?_
        refine va_put (D := (dC, dI)) (ci := 0) (v := .int (nI k)) (ty := .int) (C := RX0) (T := TX0) (N := 4) hx hb hts (k_X0_drop_in0) tyX0 tyX0_ok nmX0 hown hK hP hD hS 0 rfl rfl 2 (by decide) (hts _ k_X0_drop_f19) (fun _ h9 => h9) rfl (by decide +kernel) rfl rfl (Nat.le_of_ble_eq_true rfl) dX0_drop_38 (fun H locs hP hD hS => ?_)
        have hP : va_P (dC, dI) vwCl [(cn, .inr (0, [.ref b1, .ref b2, .int (nI k), .int (nI t0)])), (b1, .inl (cJ, 64, .inr (.inl g1))), (b2, .inl (cI, 64, .inl g2))] H := hP
        have hD : va_D A [(cn, .inr (0, [.ref b1, .ref b2, .int (nI k), .int (nI t0)])), (b1, .inl (cJ, 64, .inr (.inl g1))), (b2, .inl (cI, 64, .inl g2))] := hD
        refine lv_iload_n hx hb dX0_drop_41 rfl (lv_at hl 1 rfl) ?_
        refine lv_istore_n (lv' := [(2, .int (nI j)), (0, .ref cn), (1, .int (nI j))]) hx hb dX0_drop_42 rfl hl (by decide) rfl (fun ls hl => ?_)
        have hloop : ∀ (fu : Nat) (i : Nat) (y1 : Nat → Int64) (y2 : Nat → Int32), (j ≤ i ∧ i ≤ k) → (k + 1 ≤ i + fu) → (ck_shf g1 y1 j i) → (ck_shf g2 y2 j i) → ∀ (H : Heap) (locs : List Loc) (ls : Array Slot), va_P (dC, dI) vwCl [(cn, .inr (0, [.ref b1, .ref b2, .int (nI k), .int (nI t0)])), (b1, .inl (cJ, 64, .inr (.inl y1))), (b2, .inl (cI, 64, .inl y2))] H → va_D A [(cn, .inr (0, [.ref b1, .ref b2, .int (nI k), .int (nI t0)])), (b1, .inl (cJ, 64, .inr (.inl y1))), (b2, .inl (cI, 64, .inl y2))] → va_S A s.heap H locs → lv_has ls 3 [(0, .ref cn), (1, .int (nI j)), (2, .int (nI i))] → W p l e (headSpec wsX0_drop ({ frames := 1, cells := 0, slots := 0, locals := 21 } : Room)).room s m (([.ref cn, .int (nI j)] : List Value).toArray) below meth c H locs 0 0 (MQ below (va_Qv (fun (u : Nat × (Nat → Int64) × (Nat → Int32)) => u.1 = (if j < (t0 + 1) then (t0 + 1) - 1 else (t0 + 1)) ∧ ck_shf g1 u.2.1 j k ∧ ck_shf g2 u.2.2 j k) (fun u => ck_B (dC, dI) vwCl A ((fun u : Nat × (Nat → Int64) × (Nat → Int32) => ([(cn, .inr (0, [.ref b1, .ref b2, .int (nI k), .int (nI u.1)])), (b1, .inl (cJ, 64, .inr (.inl u.2.1))), (b2, .inl (cI, 64, .inl u.2.2))] : va_W)) u)) A) (([.ref cn, .int (nI j)] : List Value).toArray) s 0 0 A) (F0 m 43 ls []) := by
          intro fu
          induction fu with
          | zero =>
            intro i y1 y2 hi hf h1 h2
            exfalso
            omega
          | succ fu ih =>
            intro i y1 y2 hi hf h1 h2 H locs ls hP hD hS hl
            refine lv_iload_n hx hb dX0_drop_43 rfl (lv_at hl 2 rfl) ?_
            refine lv_aload_n hx hb dX0_drop_44 rfl (lv_at hl 0 rfl) ?_
            refine va_get (D := (dC, dI)) (ci := 0) (v := .int (nI k)) (C := RX0) (T := TX0) (N := 4) hx hb hts (k_X0_drop_in0) hown hK hP 0 rfl rfl 2 (by decide) (hts _ k_X0_drop_f19) (fun _ h9 => h9) rfl dX0_drop_45 ?_
            refine lv_icmp_ge (tgt := 85) hx hb dX0_drop_48 (by decide) (fun c_48 => ?_) (fun c_48 => ?_)
            · skip
              have c_48 : k ≤ i := (nI_leI (by omega) (by omega)).mp c_48
              refine ck_vr hx hb hr hlocks (Nat.le_of_ble_eq_true rfl) (Nat.le_of_ble_eq_true rfl) dX0_drop_85 (t0, y1, y2) hP hD hS ?_
              have e9 : i = k := by omega
              rw [e9] at h1 h2
              exact ⟨by rw [if_pos (by omega)]; rfl, h1, h2⟩
            · skip
              have c_48 : ¬ (k ≤ i) := fun z => c_48 ((nI_leI (by omega) (by omega)).mpr z)
              refine lv_aload_n hx hb dX0_drop_51 rfl (lv_at hl 0 rfl) ?_
              refine va_get (D := (dC, dI)) (ci := 0) (v := .ref b1) (C := RX0) (T := TX0) (N := 4) hx hb hts (k_X0_drop_in0) hown hK hP 0 rfl rfl 0 (by decide) (hts _ k_X0_drop_f9) (fun _ h9 => h9) rfl dX0_drop_52 ?_
              refine lv_iload_n hx hb dX0_drop_55 rfl (lv_at hl 2 rfl) ?_
              refine lv_aload_n hx hb dX0_drop_56 rfl (lv_at hl 0 rfl) ?_
              refine va_get (D := (dC, dI)) (ci := 0) (v := .ref b1) (C := RX0) (T := TX0) (N := 4) hx hb hts (k_X0_drop_in0) hown hK hP 0 rfl rfl 0 (by decide) (hts _ k_X0_drop_f9) (fun _ h9 => h9) rfl dX0_drop_57 ?_
              refine lv_iload_n hx hb dX0_drop_60 rfl (lv_at hl 2 rfl) ?_
              refine lv_iconst (v := 1) hx hb dX0_drop_61 (by decide) ?_
              refine lv_iadd hx hb dX0_drop_62 ?_
              refine ck_toi (y := nI (i + 1)) (nI_1 _) ?_
              refine ck_lald hx hb hK hP 1 1 rfl rfl (by omega) (by decide) dX0_drop_63 ?_
              refine ck_last hx hb hK hP hD hS 1 1 rfl rfl (by omega) (by decide) dX0_drop_64 (fun H locs hP hD hS => ?_)
              have hP : va_P (dC, dI) vwCl [(cn, .inr (0, [.ref b1, .ref b2, .int (nI k), .int (nI t0)])), (b1, .inl (cJ, 64, .inr (.inl (vp_updL y1 i (y1 (i + 1)))))), (b2, .inl (cI, 64, .inl y2))] H := hP
              have hD : va_D A [(cn, .inr (0, [.ref b1, .ref b2, .int (nI k), .int (nI t0)])), (b1, .inl (cJ, 64, .inr (.inl (vp_updL y1 i (y1 (i + 1)))))), (b2, .inl (cI, 64, .inl y2))] := hD
              refine lv_aload_n hx hb dX0_drop_65 rfl (lv_at hl 0 rfl) ?_
              refine va_get (D := (dC, dI)) (ci := 0) (v := .ref b2) (C := RX0) (T := TX0) (N := 4) hx hb hts (k_X0_drop_in0) hown hK hP 0 rfl rfl 1 (by decide) (hts _ k_X0_drop_f15) (fun _ h9 => h9) rfl dX0_drop_66 ?_
              refine lv_iload_n hx hb dX0_drop_69 rfl (lv_at hl 2 rfl) ?_
              refine lv_aload_n hx hb dX0_drop_70 rfl (lv_at hl 0 rfl) ?_
              refine va_get (D := (dC, dI)) (ci := 0) (v := .ref b2) (C := RX0) (T := TX0) (N := 4) hx hb hts (k_X0_drop_in0) hown hK hP 0 rfl rfl 1 (by decide) (hts _ k_X0_drop_f15) (fun _ h9 => h9) rfl dX0_drop_71 ?_
              refine lv_iload_n hx hb dX0_drop_74 rfl (lv_at hl 2 rfl) ?_
              refine lv_iconst (v := 1) hx hb dX0_drop_75 (by decide) ?_
              refine lv_iadd hx hb dX0_drop_76 ?_
              refine ck_toi (y := nI (i + 1)) (nI_1 _) ?_
              refine ck_iald hx hb hK hP 2 0 rfl rfl (by omega) (by decide) dX0_drop_77 ?_
              refine ck_iast hx hb hK hP hD hS 2 0 rfl rfl (by omega) (by decide) dX0_drop_78 (fun H locs hP hD hS => ?_)
              have hP : va_P (dC, dI) vwCl [(cn, .inr (0, [.ref b1, .ref b2, .int (nI k), .int (nI t0)])), (b1, .inl (cJ, 64, .inr (.inl (vp_updL y1 i (y1 (i + 1)))))), (b2, .inl (cI, 64, .inl (upd y2 i (y2 (i + 1)))))] H := hP
              have hD : va_D A [(cn, .inr (0, [.ref b1, .ref b2, .int (nI k), .int (nI t0)])), (b1, .inl (cJ, 64, .inr (.inl (vp_updL y1 i (y1 (i + 1)))))), (b2, .inl (cI, 64, .inl (upd y2 i (y2 (i + 1)))))] := hD
              refine lv_iinc (v := nI (i + 1)) (lv' := [(2, .int (nI (i + 1))), (0, .ref cn), (1, .int (nI j))]) hx hb dX0_drop_79 hl (k := 2) rfl (nI_1 _) (by decide) rfl (fun ls hl => ?_)
              refine lv_goto (tgt := 43) hx hb dX0_drop_82 (by decide) ?_
              exact ih (i + 1) (vp_updL y1 i (y1 (i + 1))) (upd y2 i (y2 (i + 1))) (⟨by omega, by omega⟩) (by omega) (ck_shfL h1 (by omega)) (ck_shfI h2 (by omega)) _ _ _ (hP.sub [0, 1, 2] rfl) (hD.sub [0, 1, 2] (by decide) rfl) hS (lv_sub hl [1, 2, 0] rfl)
        exact hloop (k + 1) j g1 g2 (⟨by omega, by omega⟩) (by omega) (ck_shf0) (ck_shf0) _ _ _ (hP.sub [0, 1, 2] rfl) (hD.sub [0, 1, 2] (by decide) rfl) hS (lv_sub hl [1, 2, 0] rfl)
    · skip
      have c_9 : ¬ (j < (k + 1)) := fun z => c_9 ((nI_ltI (by omega) (by omega)).mpr z)
      omega
end
section
/-! the class CookieListener: its numbers -/
def ck_clr (a b : Int32) : Int64 := (a.toInt64 <<< ((32 : Int32).toInt64 &&& 63)) ||| b.toInt64
def ck_prt (x : Int64) : Int32 := x.toInt32 &&& 65535
def ck_wos (x : Int32) : Int64 := x.toInt64 &&& 4294967295
def ck_kdi : Nat → Int32 → Int32
  | 0, _ => 0
  | i + 1, z => if ck_sz.getD i 0 ≤ z then nI i else ck_kdi i z
theorem ck_kdS (i : Nat) (z : Int32) : ck_kdi (i + 1) z = if ck_sz.getD i 0 ≤ z then nI i else ck_kdi i z := rfl
def ck_ckk (k l x : Int64) (num kd sl : Int32) : Int32 :=
  (((sl &&& 31) <<< ((27 : Int32) &&& 31)) ||| (kd <<< ((24 : Int32) &&& 31))) ||| ((ck_sip k l ((x &&& (-4294967296)) ||| ck_wos num) (((ck_prt x).toInt64 + (kd.toInt64 <<< ((16 : Int32).toInt64 &&& 63))) + (sl.toInt64 <<< ((20 : Int32).toInt64 &&& 63)))).toInt32 &&& 16777215)
def ck_late (k l x : Int64) (num kd ti ca : Int32) : Prop := ca = ck_ckk k l x num kd (ti / 64) ∨ (0 < ti / 64 ∧ ca = ck_ckk k l x num kd (ti / 64 - 1))
def ck_lately (gv ti ct : Int32) : Prop := 0 < gv ∧ ti - ct ≤ 128
def ck_stt (n : Nat) (f1 : Nat → Int64) (kc t : Nat) (g1 : Nat → Int64) (x : Int64) (r : Int32) : Prop :=
  (∃ j, j < kc ∧ g1 j = x ∧ ((j < t ∧ r = 3) ∨ (t ≤ j ∧ r = 2))) ∨ ((∀ i, i < kc → g1 i ≠ x) ∧ (((∃ j, j < n ∧ f1 j = x) ∧ r = 1) ∨ ((∀ i, i < n → f1 i ≠ x) ∧ r = 0)))
theorem ck_ltz {n : Nat} {z : Int32} (h : nI n < z) (hz : z ≤ 32) (hn : n ≤ 32) : n < 32 := by
  have h1 : nI n < 32 := Int32.lt_of_lt_of_le h hz
  have e : (32 : Int32) = nI 32 := rfl
  rw [e] at h1
  exact (nI_ltI (by omega) (by decide)).mp h1
theorem ck_njm1 {j : Nat} (h : j < 2 ^ 31) : ¬ nI j = -1 := by
  intro e
  have h1 := nI_toInt h
  rw [e] at h1
  have h2 : ((-1 : Int32)).toInt = -1 := by decide
  omega
set_option maxHeartbeats 4000000 in
set_option maxRecDepth 100000 in
theorem c_X3_callerOf (l : Launch) (dC : Nat → ClassId) (dI : Nat → Nat → Nat) (cI cJ cZ : ClassId) (lo sz : Nat) (aa bb : Int32) : Met l yX3_callerOf wsX3_callerOf ({ frames := 0, cells := 0, slots := 0, locals := 0 } : Room) (va_Pc [.int aa, .int bb] (ck_P (dC, dI) [(cI, .int), (cJ, .long), (cZ, .boolean)] lo sz [])) (vp_Sl (fun (r : Int64) => r = ck_clr aa bb)) 0 0 (fun _ => False) := by
  refine Met.ofW (cc := cX3_callerOf) (maxL := 2) (ret := (some .long)) (by decide) rfl ?_
  intro p e s m args below meth c s₁ B hml hv
  obtain ⟨rfl, hsz, hP, hK, hD0, hE⟩ := hv
  have hx := B.exec
  have hb := B.bytes
  have hr := B.returns
  have hts := atoms_spec (ws := wsX3_callerOf) B.pre
  have hown : s.vm.findClass RX3 = some m.cls := findClass_of_methodNamed B.named
  have hlocks := B.notSynchronized
  subst hsz
  have hD := hD0.self (sz := s.heap.size)
  have hlo := ck_lo (sz := s.heap.size) hD0 hE.1
  generalize hAe : va_A [] s.heap.size = A at hD hlo
  have hA : ∀ q : Nat, s.heap.size ≤ q → A q := fun q h => by rw [← hAe]; exact Or.inr h
  have hG : ck_G (dC, dI) [(cI, .int), (cJ, .long), (cZ, .boolean)] lo A s := ⟨hK, hE, hA, hlo⟩
  have hS : va_S A s.heap s.heap [] := va_S.rf
  have hP : va_P (dC, dI) vwCl [] s.heap := hP
  have hl := lv_entry ([.int aa, .int bb]) (n := 2) (Nat.le_of_ble_eq_true rfl)
  rw [lg_entry_eq]
  generalize (lg_sl ([.int aa, .int bb]) ++ List.replicate (2 - (lg_sl ([.int aa, .int bb])).length) Slot.unset).toArray = ls at hl ⊢
  have hl : lv_has ls 2 [(0, .int aa), (1, .int bb)] := hl
  refine lv_iload_n hx hb dX3_callerOf_0 rfl (lv_at hl 0 rfl) ?_
  refine lv_i2l hx hb dX3_callerOf_1 rfl ?_
  refine lv_bipush (v := 32) hx hb dX3_callerOf_2 (by decide) ?_
  refine lv_lshl hx hb dX3_callerOf_4 rfl ?_
  refine lv_iload_n hx hb dX3_callerOf_5 rfl (lv_at hl 1 rfl) ?_
  refine lv_i2l hx hb dX3_callerOf_6 rfl ?_
  refine lv_lor hx hb dX3_callerOf_7 ?_
  refine ck_lq hx hb hr hlocks dX3_callerOf_8 ?_
  exact rfl
set_option maxRecDepth 20000 in
theorem k_X3_portOf_c67 : (.constant RX3 67 (65535) : Cond) ∈ wsX3_portOf := by decide +kernel
set_option maxHeartbeats 4000000 in
set_option maxRecDepth 100000 in
theorem c_X3_portOf (l : Launch) (dC : Nat → ClassId) (dI : Nat → Nat → Nat) (cI cJ cZ : ClassId) (lo sz : Nat) (x : Int64) : Met l yX3_portOf wsX3_portOf ({ frames := 0, cells := 0, slots := 0, locals := 0 } : Room) (va_Pc [.long x] (ck_P (dC, dI) [(cI, .int), (cJ, .long), (cZ, .boolean)] lo sz [])) (vp_Si (fun (r : Int32) => r = ck_prt x)) 0 0 (fun _ => False) := by
  refine Met.ofW (cc := cX3_portOf) (maxL := 2) (ret := (some .int)) (by decide) rfl ?_
  intro p e s m args below meth c s₁ B hml hv
  obtain ⟨rfl, hsz, hP, hK, hD0, hE⟩ := hv
  have hx := B.exec
  have hb := B.bytes
  have hr := B.returns
  have hts := atoms_spec (ws := wsX3_portOf) B.pre
  have hown : s.vm.findClass RX3 = some m.cls := findClass_of_methodNamed B.named
  have hlocks := B.notSynchronized
  subst hsz
  have hD := hD0.self (sz := s.heap.size)
  have hlo := ck_lo (sz := s.heap.size) hD0 hE.1
  generalize hAe : va_A [] s.heap.size = A at hD hlo
  have hA : ∀ q : Nat, s.heap.size ≤ q → A q := fun q h => by rw [← hAe]; exact Or.inr h
  have hG : ck_G (dC, dI) [(cI, .int), (cJ, .long), (cZ, .boolean)] lo A s := ⟨hK, hE, hA, hlo⟩
  have hS : va_S A s.heap s.heap [] := va_S.rf
  have hP : va_P (dC, dI) vwCl [] s.heap := hP
  have hl := lv_entry ([.long x]) (n := 2) (Nat.le_of_ble_eq_true rfl)
  rw [lg_entry_eq]
  generalize (lg_sl ([.long x]) ++ List.replicate (2 - (lg_sl ([.long x])).length) Slot.unset).toArray = ls at hl ⊢
  have hl : lv_has ls 2 [(0, .long x)] := hl
  refine lv_lload_n hx hb dX3_portOf_0 rfl (lv_at hl 0 rfl) ?_
  refine lv_l2i hx hb dX3_portOf_1 rfl ?_
  refine lv_ldc hx hb hown (hts _ k_X3_portOf_c67) dX3_portOf_2 ?_
  refine lv_iand hx hb dX3_portOf_4 ?_
  refine ck_iq hx hb hr hlocks dX3_portOf_5 ?_
  exact rfl
set_option maxRecDepth 20000 in
theorem k_X3_withoutSign_c153 : (.constantLong RX3 153 (4294967295) : Cond) ∈ wsX3_withoutSign := by decide +kernel
set_option maxHeartbeats 4000000 in
set_option maxRecDepth 100000 in
theorem c_X3_withoutSign (l : Launch) (dC : Nat → ClassId) (dI : Nat → Nat → Nat) (cI cJ cZ : ClassId) (lo sz : Nat) (w : Int32) : Met l yX3_withoutSign wsX3_withoutSign ({ frames := 0, cells := 0, slots := 0, locals := 0 } : Room) (va_Pc [.int w] (ck_P (dC, dI) [(cI, .int), (cJ, .long), (cZ, .boolean)] lo sz [])) (vp_Sl (fun (r : Int64) => r = ck_wos w)) 0 0 (fun _ => False) := by
  refine Met.ofW (cc := cX3_withoutSign) (maxL := 1) (ret := (some .long)) (by decide) rfl ?_
  intro p e s m args below meth c s₁ B hml hv
  obtain ⟨rfl, hsz, hP, hK, hD0, hE⟩ := hv
  have hx := B.exec
  have hb := B.bytes
  have hr := B.returns
  have hts := atoms_spec (ws := wsX3_withoutSign) B.pre
  have hown : s.vm.findClass RX3 = some m.cls := findClass_of_methodNamed B.named
  have hlocks := B.notSynchronized
  subst hsz
  have hD := hD0.self (sz := s.heap.size)
  have hlo := ck_lo (sz := s.heap.size) hD0 hE.1
  generalize hAe : va_A [] s.heap.size = A at hD hlo
  have hA : ∀ q : Nat, s.heap.size ≤ q → A q := fun q h => by rw [← hAe]; exact Or.inr h
  have hG : ck_G (dC, dI) [(cI, .int), (cJ, .long), (cZ, .boolean)] lo A s := ⟨hK, hE, hA, hlo⟩
  have hS : va_S A s.heap s.heap [] := va_S.rf
  have hP : va_P (dC, dI) vwCl [] s.heap := hP
  have hl := lv_entry ([.int w]) (n := 1) (Nat.le_of_ble_eq_true rfl)
  rw [lg_entry_eq]
  generalize (lg_sl ([.int w]) ++ List.replicate (1 - (lg_sl ([.int w])).length) Slot.unset).toArray = ls at hl ⊢
  have hl : lv_has ls 1 [(0, .int w)] := hl
  refine lv_iload_n hx hb dX3_withoutSign_0 rfl (lv_at hl 0 rfl) ?_
  refine lv_i2l hx hb dX3_withoutSign_1 rfl ?_
  refine lv_ldc2 hx hb hown (hts _ k_X3_withoutSign_c153) dX3_withoutSign_2 ?_
  refine lv_land hx hb dX3_withoutSign_5 ?_
  refine ck_lq hx hb hr hlocks dX3_withoutSign_6 ?_
  exact rfl
set_option maxRecDepth 20000 in
theorem k_X3_kindOf_f155 : (.fieldLink RX3 155 "CookieListener" "GREATEST_SIZES" "[I" : Cond) ∈ wsX3_kindOf := by decide +kernel
set_option maxHeartbeats 4000000 in
set_option maxRecDepth 100000 in
theorem c_X3_kindOf (l : Launch) (dC : Nat → ClassId) (dI : Nat → Nat → Nat) (cI cJ cZ : ClassId) (lo sz : Nat) (z : Int32) : Met l yX3_kindOf wsX3_kindOf ({ frames := 0, cells := 0, slots := 0, locals := 0 } : Room) (va_Pc [.int z] (ck_P (dC, dI) [(cI, .int), (cJ, .long), (cZ, .boolean)] lo sz [])) (vp_Si (fun (r : Int32) => r = ck_kdi 8 z)) 0 0 (fun _ => False) := by
  refine Met.ofW (cc := cX3_kindOf) (maxL := 3) (ret := (some .int)) (by decide) rfl ?_
  intro p e s m args below meth c s₁ B hml hv
  obtain ⟨rfl, hsz, hP, hK, hD0, hE⟩ := hv
  have hx := B.exec
  have hb := B.bytes
  have hr := B.returns
  have hts := atoms_spec (ws := wsX3_kindOf) B.pre
  have hown : s.vm.findClass RX3 = some m.cls := findClass_of_methodNamed B.named
  have hlocks := B.notSynchronized
  subst hsz
  have hD := hD0.self (sz := s.heap.size)
  have hlo := ck_lo (sz := s.heap.size) hD0 hE.1
  generalize hAe : va_A [] s.heap.size = A at hD hlo
  have hA : ∀ q : Nat, s.heap.size ≤ q → A q := fun q h => by rw [← hAe]; exact Or.inr h
  have hG : ck_G (dC, dI) [(cI, .int), (cJ, .long), (cZ, .boolean)] lo A s := ⟨hK, hE, hA, hlo⟩
  have hS : va_S A s.heap s.heap [] := va_S.rf
  have hP : va_P (dC, dI) vwCl [] s.heap := hP
  have hl := lv_entry ([.int z]) (n := 3) (Nat.le_of_ble_eq_true rfl)
  rw [lg_entry_eq]
  generalize (lg_sl ([.int z]) ++ List.replicate (3 - (lg_sl ([.int z])).length) Slot.unset).toArray = ls at hl ⊢
  have hl : lv_has ls 3 [(0, .int z)] := hl
  obtain ⟨tt, hZ0, hT0⟩ := hE.2.2.2.2.2.2.2
  have hZ := hZ0.narrow (B := A) (fun q hq => hlo q hq)
  have hT := hT0.narrow (B := A) (fun q hq => hlo q hq)
  refine lv_iconst (v := 0) hx hb dX3_kindOf_0 (by decide) ?_
  refine lv_istore_n (lv' := [(1, .int 0), (0, .int z)]) hx hb dX3_kindOf_1 rfl hl (by decide) rfl (fun ls hl => ?_)
  refine lv_iconst (v := nI 0) hx hb dX3_kindOf_2 (by decide) ?_
  refine lv_istore_n (lv' := [(2, .int (nI 0)), (1, .int 0), (0, .int z)]) hx hb dX3_kindOf_3 rfl hl (by decide) rfl (fun ls hl => ?_)
  have hloop : ∀ (fu : Nat) (i : Nat) (kd : Int32), (i ≤ 8) → (9 ≤ i + fu) → (kd = ck_kdi i z) → ∀ (H : Heap) (locs : List Loc) (ls : Array Slot), H = s.heap → locs = [] → va_P (dC, dI) vwCl [] H → va_D A [] → va_S A s.heap H locs → lv_has ls 3 [(0, .int z), (1, .int kd), (2, .int (nI i))] → W p l e (headSpec wsX3_kindOf ({ frames := 0, cells := 0, slots := 0, locals := 0 } : Room)).room s m (([.int z] : List Value).toArray) below meth c H locs 0 0 (MQ below (vp_Si (fun (r : Int32) => r = ck_kdi 8 z)) (([.int z] : List Value).toArray) s 0 0 (fun _ => False)) (F0 m 4 ls []) := by
    intro fu
    induction fu with
    | zero =>
      intro i kd hi hf hk
      exfalso
      omega
    | succ fu ih =>
      intro i kd hi hf hk H locs ls eH eL hP hD hS hl
      subst eH; subst eL
      refine lv_iload_n hx hb dX3_kindOf_4 rfl (lv_at hl 2 rfl) ?_
      refine va_gets hx hb hZ hS hown (hts _ k_X3_kindOf_f155) (fun _ h9 => h9) dX3_kindOf_5 ?_
      refine va_tlen hx hb hT hS (v := nI 8) rfl dX3_kindOf_8 ?_
      refine lv_icmp_ge (tgt := 29) hx hb dX3_kindOf_9 (by decide) (fun c_9 => ?_) (fun c_9 => ?_)
      · skip
        have c_9 : 8 ≤ i := (nI_leI (by omega) (by omega)).mp c_9
        refine lv_iload_n hx hb dX3_kindOf_29 rfl (lv_at hl 1 rfl) ?_
        refine ck_iq hx hb hr hlocks dX3_kindOf_30 ?_
        have e9 : i = 8 := by omega
        rw [e9] at hk
        exact hk
      · skip
        have c_9 : ¬ (8 ≤ i) := fun z => c_9 ((nI_leI (by omega) (by omega)).mpr z)
        refine va_gets hx hb hZ hS hown (hts _ k_X3_kindOf_f155) (fun _ h9 => h9) dX3_kindOf_12 ?_
        refine lv_iload_n hx hb dX3_kindOf_15 rfl (lv_at hl 2 rfl) ?_
        refine va_ti hx hb hT hS (vp_in_nI (by omega) (by decide)) (v := .int (ck_sz.getD i 0)) (by rw [nI_clamp (by omega)]) dX3_kindOf_16 ?_
        refine lv_iload_n hx hb dX3_kindOf_17 rfl (lv_at hl 0 rfl) ?_
        refine lv_icmp_gt (tgt := 23) hx hb dX3_kindOf_18 (by decide) (fun c_18 => ?_) (fun c_18 => ?_)
        · skip
          refine lv_iinc (v := nI (i + 1)) (lv' := [(2, .int (nI (i + 1))), (0, .int z), (1, .int kd)]) hx hb dX3_kindOf_23 hl (k := 2) rfl (nI_1 _) (by decide) rfl (fun ls hl => ?_)
          refine lv_goto (tgt := 4) hx hb dX3_kindOf_26 (by decide) ?_
          exact ih (i + 1) kd (by omega) (by omega) (by rw [ck_kdS, if_neg (Int32.not_le.mpr c_18)]; exact hk) _ _ _ rfl rfl (hP.sub [] rfl) (hD.sub [] (by decide) rfl) hS (lv_sub hl [1, 2, 0] rfl)
        · skip
          refine lv_iload_n hx hb dX3_kindOf_21 rfl (lv_at hl 2 rfl) ?_
          refine lv_istore_n (lv' := [(1, .int (nI i)), (0, .int z), (2, .int (nI i))]) hx hb dX3_kindOf_22 rfl hl (by decide) rfl (fun ls hl => ?_)
          refine lv_iinc (v := nI (i + 1)) (lv' := [(2, .int (nI (i + 1))), (1, .int (nI i)), (0, .int z)]) hx hb dX3_kindOf_23 hl (k := 2) rfl (nI_1 _) (by decide) rfl (fun ls hl => ?_)
          refine lv_goto (tgt := 4) hx hb dX3_kindOf_26 (by decide) ?_
          exact ih (i + 1) (nI i) (by omega) (by omega) (by rw [ck_kdS, if_pos (Int32.not_lt.mp c_18)]) _ _ _ rfl rfl (hP.sub [] rfl) (hD.sub [] (by decide) rfl) hS (lv_sub hl [2, 1, 0] rfl)
  exact hloop (9) 0 0 (by omega) (by omega) (rfl) _ _ _ rfl rfl (hP.sub [] rfl) (hD.sub [] (by decide) rfl) hS (lv_sub hl [2, 1, 0] rfl)
set_option maxRecDepth 20000 in
theorem k_X3_slotNow_f37 : (.fieldLink RX3 37 "CookieListener" "time" "I" : Cond) ∈ wsX3_slotNow := by decide +kernel
set_option maxRecDepth 20000 in
theorem k_X3_slotNow_in3 : ∀ w ∈ u_ws RX3 TX3 11, w ∈ wsX3_slotNow := by decide +kernel
set_option maxHeartbeats 4000000 in
set_option maxRecDepth 100000 in
theorem c_X3_slotNow (l : Launch) (dC : Nat → ClassId) (dI : Nat → Nat → Nat) (cI cJ cZ : ClassId) (lo sz : Nat) (o sp h cn : Nat) (zs rq ti ct gv bh bc un : Int32) : Met l yX3_slotNow wsX3_slotNow ({ frames := 0, cells := 0, slots := 0, locals := 0 } : Room) (va_Pc [.ref o] (ck_P (dC, dI) [(cI, .int), (cJ, .long), (cZ, .boolean)] lo sz [(o, .inr (3, [.ref sp, .ref h, .ref cn, .int zs, .int rq, .int ti, .int ct, .int gv, .int bh, .int bc, .int un]))])) (vp_Si (fun (r : Int32) => r = ti / 64)) 0 0 (fun _ => False) := by
  refine Met.ofW (cc := cX3_slotNow) (maxL := 1) (ret := (some .int)) (by decide) rfl ?_
  intro p e s m args below meth c s₁ B hml hv
  obtain ⟨rfl, hsz, hP, hK, hD0, hE⟩ := hv
  have hx := B.exec
  have hb := B.bytes
  have hr := B.returns
  have hts := atoms_spec (ws := wsX3_slotNow) B.pre
  have hown : s.vm.findClass RX3 = some m.cls := findClass_of_methodNamed B.named
  have hlocks := B.notSynchronized
  subst hsz
  have hD := hD0.self (sz := s.heap.size)
  have hlo := ck_lo (sz := s.heap.size) hD0 hE.1
  generalize hAe : va_A [(o, .inr (3, [.ref sp, .ref h, .ref cn, .int zs, .int rq, .int ti, .int ct, .int gv, .int bh, .int bc, .int un]))] s.heap.size = A at hD hlo
  have hA : ∀ q : Nat, s.heap.size ≤ q → A q := fun q h => by rw [← hAe]; exact Or.inr h
  have hG : ck_G (dC, dI) [(cI, .int), (cJ, .long), (cZ, .boolean)] lo A s := ⟨hK, hE, hA, hlo⟩
  have hS : va_S A s.heap s.heap [] := va_S.rf
  have hP : va_P (dC, dI) vwCl [(o, .inr (3, [.ref sp, .ref h, .ref cn, .int zs, .int rq, .int ti, .int ct, .int gv, .int bh, .int bc, .int un]))] s.heap := hP
  have hl := lv_entry ([.ref o]) (n := 1) (Nat.le_of_ble_eq_true rfl)
  rw [lg_entry_eq]
  generalize (lg_sl ([.ref o]) ++ List.replicate (1 - (lg_sl ([.ref o])).length) Slot.unset).toArray = ls at hl ⊢
  have hl : lv_has ls 1 [(0, .ref o)] := hl
  refine lv_aload_n hx hb dX3_slotNow_0 rfl (lv_at hl 0 rfl) ?_
  refine va_get (D := (dC, dI)) (ci := 3) (v := .int ti) (C := RX3) (T := TX3) (N := 11) hx hb hts (k_X3_slotNow_in3) hown hK hP 0 rfl rfl 5 (by decide) (hts _ k_X3_slotNow_f37) (fun _ h9 => h9) rfl dX3_slotNow_1 ?_
  refine lv_bipush (v := 64) hx hb dX3_slotNow_4 (by decide) ?_
  refine lv_idiv hx hb dX3_slotNow_6 (by decide) ?_
  refine ck_iq hx hb hr hlocks dX3_slotNow_7 ?_
  exact rfl
set_option maxRecDepth 20000 in
theorem k_X3_cookiesGivenLately_f43 : (.fieldLink RX3 43 "CookieListener" "cookiesGiven" "I" : Cond) ∈ wsX3_cookiesGivenLately := by decide +kernel
set_option maxRecDepth 20000 in
theorem k_X3_cookiesGivenLately_in3 : ∀ w ∈ u_ws RX3 TX3 11, w ∈ wsX3_cookiesGivenLately := by decide +kernel
set_option maxRecDepth 20000 in
theorem k_X3_cookiesGivenLately_f37 : (.fieldLink RX3 37 "CookieListener" "time" "I" : Cond) ∈ wsX3_cookiesGivenLately := by decide +kernel
set_option maxRecDepth 20000 in
theorem k_X3_cookiesGivenLately_f40 : (.fieldLink RX3 40 "CookieListener" "cookiesTime" "I" : Cond) ∈ wsX3_cookiesGivenLately := by decide +kernel
set_option maxHeartbeats 4000000 in
set_option maxRecDepth 100000 in
theorem c_X3_lately (l : Launch) (dC : Nat → ClassId) (dI : Nat → Nat → Nat) (cI cJ cZ : ClassId) (lo sz : Nat) (o sp h cn : Nat) (zs rq ti ct gv bh bc un : Int32) : Met l yX3_cookiesGivenLately wsX3_cookiesGivenLately ({ frames := 0, cells := 0, slots := 0, locals := 0 } : Room) (va_Pc [.ref o] (ck_P (dC, dI) [(cI, .int), (cJ, .long), (cZ, .boolean)] lo sz [(o, .inr (3, [.ref sp, .ref h, .ref cn, .int zs, .int rq, .int ti, .int ct, .int gv, .int bh, .int bc, .int un]))])) (vp_Si (fun (r : Int32) => (r = 1 ∧ ck_lately gv ti ct) ∨ (r = 0 ∧ ¬ ck_lately gv ti ct))) 0 0 (fun _ => False) := by
  refine Met.ofW (cc := cX3_cookiesGivenLately) (maxL := 1) (ret := (some .boolean)) (by decide) rfl ?_
  intro p e s m args below meth c s₁ B hml hv
  obtain ⟨rfl, hsz, hP, hK, hD0, hE⟩ := hv
  have hx := B.exec
  have hb := B.bytes
  have hr := B.returns
  have hts := atoms_spec (ws := wsX3_cookiesGivenLately) B.pre
  have hown : s.vm.findClass RX3 = some m.cls := findClass_of_methodNamed B.named
  have hlocks := B.notSynchronized
  subst hsz
  have hD := hD0.self (sz := s.heap.size)
  have hlo := ck_lo (sz := s.heap.size) hD0 hE.1
  generalize hAe : va_A [(o, .inr (3, [.ref sp, .ref h, .ref cn, .int zs, .int rq, .int ti, .int ct, .int gv, .int bh, .int bc, .int un]))] s.heap.size = A at hD hlo
  have hA : ∀ q : Nat, s.heap.size ≤ q → A q := fun q h => by rw [← hAe]; exact Or.inr h
  have hG : ck_G (dC, dI) [(cI, .int), (cJ, .long), (cZ, .boolean)] lo A s := ⟨hK, hE, hA, hlo⟩
  have hS : va_S A s.heap s.heap [] := va_S.rf
  have hP : va_P (dC, dI) vwCl [(o, .inr (3, [.ref sp, .ref h, .ref cn, .int zs, .int rq, .int ti, .int ct, .int gv, .int bh, .int bc, .int un]))] s.heap := hP
  have hl := lv_entry ([.ref o]) (n := 1) (Nat.le_of_ble_eq_true rfl)
  rw [lg_entry_eq]
  generalize (lg_sl ([.ref o]) ++ List.replicate (1 - (lg_sl ([.ref o])).length) Slot.unset).toArray = ls at hl ⊢
  have hl : lv_has ls 1 [(0, .ref o)] := hl
  refine lv_aload_n hx hb dX3_cookiesGivenLately_0 rfl (lv_at hl 0 rfl) ?_
  refine va_get (D := (dC, dI)) (ci := 3) (v := .int gv) (C := RX3) (T := TX3) (N := 11) hx hb hts (k_X3_cookiesGivenLately_in3) hown hK hP 0 rfl rfl 7 (by decide) (hts _ k_X3_cookiesGivenLately_f43) (fun _ h9 => h9) rfl dX3_cookiesGivenLately_1 ?_
  refine lv_if_le (tgt := 26) hx hb dX3_cookiesGivenLately_4 (by decide) (fun c_4 => ?_) (fun c_4 => ?_)
  · skip
    refine lv_iconst (v := 0) hx hb dX3_cookiesGivenLately_26 (by decide) ?_
    refine ck_zq hx hb hr hlocks (by first | exact Or.inl rfl | exact Or.inr rfl) dX3_cookiesGivenLately_27 ?_
    exact Or.inr ⟨rfl, fun z => absurd z.1 (Int32.not_lt.mpr c_4)⟩
  · skip
    refine lv_aload_n hx hb dX3_cookiesGivenLately_7 rfl (lv_at hl 0 rfl) ?_
    refine va_get (D := (dC, dI)) (ci := 3) (v := .int ti) (C := RX3) (T := TX3) (N := 11) hx hb hts (k_X3_cookiesGivenLately_in3) hown hK hP 0 rfl rfl 5 (by decide) (hts _ k_X3_cookiesGivenLately_f37) (fun _ h9 => h9) rfl dX3_cookiesGivenLately_8 ?_
    refine lv_aload_n hx hb dX3_cookiesGivenLately_11 rfl (lv_at hl 0 rfl) ?_
    refine va_get (D := (dC, dI)) (ci := 3) (v := .int ct) (C := RX3) (T := TX3) (N := 11) hx hb hts (k_X3_cookiesGivenLately_in3) hown hK hP 0 rfl rfl 6 (by decide) (hts _ k_X3_cookiesGivenLately_f40) (fun _ h9 => h9) rfl dX3_cookiesGivenLately_12 ?_
    refine lv_isub hx hb dX3_cookiesGivenLately_15 ?_
    refine lv_sipush (v := 128) hx hb dX3_cookiesGivenLately_16 (by decide) ?_
    refine lv_icmp_gt (tgt := 26) hx hb dX3_cookiesGivenLately_19 (by decide) (fun c_19 => ?_) (fun c_19 => ?_)
    · skip
      refine lv_iconst (v := 0) hx hb dX3_cookiesGivenLately_26 (by decide) ?_
      refine ck_zq hx hb hr hlocks (by first | exact Or.inl rfl | exact Or.inr rfl) dX3_cookiesGivenLately_27 ?_
      exact Or.inr ⟨rfl, fun z => absurd z.2 (Int32.not_le.mpr c_19)⟩
    · skip
      refine lv_iconst (v := 1) hx hb dX3_cookiesGivenLately_22 (by decide) ?_
      refine lv_goto (tgt := 27) hx hb dX3_cookiesGivenLately_23 (by decide) ?_
      refine ck_zq hx hb hr hlocks (by first | exact Or.inl rfl | exact Or.inr rfl) dX3_cookiesGivenLately_27 ?_
      exact Or.inl ⟨rfl, Int32.not_le.mp c_4, Int32.not_lt.mp c_19⟩
set_option maxRecDepth 20000 in
theorem k_X3_cookieOf_c158 : (.constantLong RX3 158 (-4294967296) : Cond) ∈ wsX3_cookieOf := by decide +kernel
set_option maxRecDepth 20000 in
theorem k_X3_cookieOf_f10 : (.fieldLink RX3 10 "CookieListener" "sip" "LCookieListener$SipHash;" : Cond) ∈ wsX3_cookieOf := by decide +kernel
set_option maxRecDepth 20000 in
theorem k_X3_cookieOf_in3 : ∀ w ∈ u_ws RX3 TX3 11, w ∈ wsX3_cookieOf := by decide +kernel
set_option maxRecDepth 20000 in
theorem k_X3_cookieOf_c160 : (.constant RX3 160 (16777215) : Cond) ∈ wsX3_cookieOf := by decide +kernel
set_option maxHeartbeats 4000000 in
set_option maxRecDepth 100000 in
theorem c_X3_cookieOf (l : Launch) (dC : Nat → ClassId) (dI : Nat → Nat → Nat) (cI cJ cZ : ClassId) (lo sz : Nat) (o sp h cn : Nat) (zs rq ti ct gv bh bc un : Int32) (k l0 v0 v1 v2 v3 : Int64) (x : Int64) (num kd sl : Int32) : Met l yX3_cookieOf wsX3_cookieOf ({ frames := 4, cells := 0, slots := 0, locals := 90 } : Room) (va_Pc [.ref o, .long x, .int num, .int kd, .int sl] (ck_P (dC, dI) [(cI, .int), (cJ, .long), (cZ, .boolean)] lo sz [(o, .inr (3, [.ref sp, .ref h, .ref cn, .int zs, .int rq, .int ti, .int ct, .int gv, .int bh, .int bc, .int un])), (sp, .inr (2, [.long k, .long l0, .long v0, .long v1, .long v2, .long v3]))])) (va_Qi (fun (r : Int32) (u : Int64 × Int64 × Int64 × Int64) => r = ck_ckk k l0 x num kd sl) (fun u => ck_B (dC, dI) vwCl (va_A [(o, .inr (3, [.ref sp, .ref h, .ref cn, .int zs, .int rq, .int ti, .int ct, .int gv, .int bh, .int bc, .int un])), (sp, .inr (2, [.long k, .long l0, .long v0, .long v1, .long v2, .long v3]))] sz) ((fun u : Int64 × Int64 × Int64 × Int64 => ([(o, .inr (3, [.ref sp, .ref h, .ref cn, .int zs, .int rq, .int ti, .int ct, .int gv, .int bh, .int bc, .int un])), (sp, .inr (2, [.long k, .long l0, .long u.1, .long u.2.1, .long u.2.2.1, .long u.2.2.2]))] : va_W)) u)) (va_A [(o, .inr (3, [.ref sp, .ref h, .ref cn, .int zs, .int rq, .int ti, .int ct, .int gv, .int bh, .int bc, .int un])), (sp, .inr (2, [.long k, .long l0, .long v0, .long v1, .long v2, .long v3]))] sz)) 0 0 (va_A [(o, .inr (3, [.ref sp, .ref h, .ref cn, .int zs, .int rq, .int ti, .int ct, .int gv, .int bh, .int bc, .int un])), (sp, .inr (2, [.long k, .long l0, .long v0, .long v1, .long v2, .long v3]))] sz) := by
  refine Met.ofW (cc := cX3_cookieOf) (maxL := 11) (ret := (some .int)) (by decide) rfl ?_
  intro p e s m args below meth c s₁ B hml hv
  obtain ⟨rfl, hsz, hP, hK, hD0, hE⟩ := hv
  have hx := B.exec
  have hb := B.bytes
  have hr := B.returns
  have hts := atoms_spec (ws := wsX3_cookieOf) B.pre
  have hown : s.vm.findClass RX3 = some m.cls := findClass_of_methodNamed B.named
  have hlocks := B.notSynchronized
  subst hsz
  have hD := hD0.self (sz := s.heap.size)
  have hlo := ck_lo (sz := s.heap.size) hD0 hE.1
  generalize hAe : va_A [(o, .inr (3, [.ref sp, .ref h, .ref cn, .int zs, .int rq, .int ti, .int ct, .int gv, .int bh, .int bc, .int un])), (sp, .inr (2, [.long k, .long l0, .long v0, .long v1, .long v2, .long v3]))] s.heap.size = A at hD hlo ⊢
  have hA : ∀ q : Nat, s.heap.size ≤ q → A q := fun q h => by rw [← hAe]; exact Or.inr h
  have hG : ck_G (dC, dI) [(cI, .int), (cJ, .long), (cZ, .boolean)] lo A s := ⟨hK, hE, hA, hlo⟩
  have hS : va_S A s.heap s.heap [] := va_S.rf
  have hP : va_P (dC, dI) vwCl [(o, .inr (3, [.ref sp, .ref h, .ref cn, .int zs, .int rq, .int ti, .int ct, .int gv, .int bh, .int bc, .int un])), (sp, .inr (2, [.long k, .long l0, .long v0, .long v1, .long v2, .long v3]))] s.heap := hP
  have hl := lv_entry ([.ref o, .long x, .int num, .int kd, .int sl]) (n := 11) (Nat.le_of_ble_eq_true rfl)
  rw [lg_entry_eq]
  generalize (lg_sl ([.ref o, .long x, .int num, .int kd, .int sl]) ++ List.replicate (11 - (lg_sl ([.ref o, .long x, .int num, .int kd, .int sl])).length) Slot.unset).toArray = ls at hl ⊢
  have hl : lv_has ls 11 [(0, .ref o), (1, .long x), (3, .int num), (4, .int kd), (5, .int sl)] := hl
  refine lv_lload_n hx hb dX3_cookieOf_0 rfl (lv_at hl 1 rfl) ?_
  refine lv_ldc2 hx hb hown (hts _ k_X3_cookieOf_c158) dX3_cookieOf_1 ?_
  refine lv_land hx hb dX3_cookieOf_4 ?_
  refine lv_iload_n hx hb dX3_cookieOf_5 rfl (lv_at hl 2 rfl) ?_
  refine ck_rl (va_runS (As := [.int num]) (rest := [.long (x &&& (-4294967296))]) ⟨hx, hb, hml, hown, hts⟩ (c_X3_withoutSign l dC dI cI cJ cZ lo _ num) (va_cwS 1 hts gX3_cookieOf_X3_withoutSign rfl rfl rfl (by decide +kernel) ⟨(Nat.le_of_ble_eq_true rfl), (Nat.le_of_ble_eq_true rfl)⟩) ⟨ck_blind, (ck_pre hG hP hD hS [] rfl (by decide) _)⟩ rfl rfl hl.1 rfl (lv_room (Nat.le_of_ble_eq_true rfl)) dX3_cookieOf_6 ⟨(Nat.le_of_ble_eq_true rfl), (Nat.le_of_ble_eq_true rfl)⟩) (fun r_1 hw_1 => ?_)
  have hw_1 : r_1 = ck_wos num := hw_1
  subst hw_1
  refine lv_lor hx hb dX3_cookieOf_9 ?_
  refine lv_topl (fun x_2 ex_2 => ?_)
  refine lv_lstore (lv' := [(6, .long x_2), (0, .ref o), (1, .long x), (3, .int num), (4, .int kd), (5, .int sl)]) hx hb dX3_cookieOf_10 hl (by decide) rfl (fun ls hl => ?_)
  refine lv_lload_n hx hb dX3_cookieOf_12 rfl (lv_at hl 2 rfl) ?_
  refine ck_ri (va_runS (As := [.long x]) (rest := []) ⟨hx, hb, hml, hown, hts⟩ (c_X3_portOf l dC dI cI cJ cZ lo _ x) (va_cwS 1 hts gX3_cookieOf_X3_portOf rfl rfl rfl (by decide +kernel) ⟨(Nat.le_of_ble_eq_true rfl), (Nat.le_of_ble_eq_true rfl)⟩) ⟨ck_blind, (ck_pre hG hP hD hS [] rfl (by decide) _)⟩ rfl rfl hl.1 rfl (lv_room (Nat.le_of_ble_eq_true rfl)) dX3_cookieOf_13 ⟨(Nat.le_of_ble_eq_true rfl), (Nat.le_of_ble_eq_true rfl)⟩) (fun r_3 hw_3 => ?_)
  have hw_3 : r_3 = ck_prt x := hw_3
  subst hw_3
  refine lv_i2l hx hb dX3_cookieOf_16 rfl ?_
  refine lv_iload hx hb dX3_cookieOf_17 (lv_at hl 4 rfl) ?_
  refine lv_i2l hx hb dX3_cookieOf_19 rfl ?_
  refine lv_bipush (v := 16) hx hb dX3_cookieOf_20 (by decide) ?_
  refine lv_lshl hx hb dX3_cookieOf_22 rfl ?_
  refine lv_ladd hx hb dX3_cookieOf_23 ?_
  refine lv_iload hx hb dX3_cookieOf_24 (lv_at hl 5 rfl) ?_
  refine lv_i2l hx hb dX3_cookieOf_26 rfl ?_
  refine lv_bipush (v := 20) hx hb dX3_cookieOf_27 (by decide) ?_
  refine lv_lshl hx hb dX3_cookieOf_29 rfl ?_
  refine lv_ladd hx hb dX3_cookieOf_30 ?_
  refine lv_topl (fun x_4 ex_4 => ?_)
  refine lv_lstore (lv' := [(8, .long x_4), (6, .long x_2), (0, .ref o), (1, .long x), (3, .int num), (4, .int kd), (5, .int sl)]) hx hb dX3_cookieOf_31 hl (by decide) rfl (fun ls hl => ?_)
  refine lv_aload_n hx hb dX3_cookieOf_33 rfl (lv_at hl 2 rfl) ?_
  refine va_get (D := (dC, dI)) (ci := 3) (v := .ref sp) (C := RX3) (T := TX3) (N := 11) hx hb hts (k_X3_cookieOf_in3) hown hK hP 0 rfl rfl 0 (by decide) (hts _ k_X3_cookieOf_f10) (fun _ h9 => h9) rfl dX3_cookieOf_34 ?_
  refine lv_lload hx hb dX3_cookieOf_37 (lv_at hl 1 rfl) ?_
  refine lv_lload hx hb dX3_cookieOf_39 (lv_at hl 0 rfl) ?_
  refine ck_cl (wr := [(o, .inr (3, [.ref sp, .ref h, .ref cn, .int zs, .int rq, .int ti, .int ct, .int gv, .int bh, .int bc, .int un]))]) (va_runV (As := [.long x_2, .long x_4]) (rest := []) ⟨hx, hb, hml, hown, hts⟩ (c_X2_digest l dC dI cI cJ cZ lo _ sp k l0 v0 v1 v2 v3 x_2 x_4) (cwV 2 hts gX3_cookieOf_X2_digest rfl rfl rfl (by decide +kernel) ⟨(Nat.le_of_ble_eq_true rfl), (Nat.le_of_ble_eq_true rfl)⟩) ⟨ck_blind, va_recv hK hP (ci := 2) (q0 := 1) rfl rfl, (ck_pre hG hP hD hS [1] rfl (by decide) _)⟩ rfl rfl hl.1 rfl (lv_room (Nat.le_of_ble_eq_true rfl)) dX3_cookieOf_41 ⟨(Nat.le_of_ble_eq_true rfl), (Nat.le_of_ble_eq_true rfl)⟩) hP hD hS hA [1] [0] rfl rfl (by decide) (by decide) (fun r_5 u H locs hw_5 hP hD hS => ?_)
  obtain ⟨u0_5, u1_5, u2_5, u3_5⟩ := u
  have hw_5 : r_5 = ck_sip k l0 x_2 x_4 := hw_5
  have hP : va_P (dC, dI) vwCl [(o, .inr (3, [.ref sp, .ref h, .ref cn, .int zs, .int rq, .int ti, .int ct, .int gv, .int bh, .int bc, .int un])), (sp, .inr (2, [.long k, .long l0, .long u0_5, .long u1_5, .long u2_5, .long u3_5]))] H := hP
  have hD : va_D A [(o, .inr (3, [.ref sp, .ref h, .ref cn, .int zs, .int rq, .int ti, .int ct, .int gv, .int bh, .int bc, .int un])), (sp, .inr (2, [.long k, .long l0, .long u0_5, .long u1_5, .long u2_5, .long u3_5]))] := hD
  refine lv_l2i hx hb dX3_cookieOf_44 rfl ?_
  refine lv_ldc hx hb hown (hts _ k_X3_cookieOf_c160) dX3_cookieOf_45 ?_
  refine lv_iand hx hb dX3_cookieOf_47 ?_
  refine lv_topi (fun x_6 ex_6 => ?_)
  refine lv_istore (lv' := [(10, .int x_6), (8, .long x_4), (6, .long x_2), (0, .ref o), (1, .long x), (3, .int num), (4, .int kd), (5, .int sl)]) hx hb dX3_cookieOf_48 hl (by decide) rfl (fun ls hl => ?_)
  refine lv_iload hx hb dX3_cookieOf_50 (lv_at hl 7 rfl) ?_
  refine lv_bipush (v := 31) hx hb dX3_cookieOf_52 (by decide) ?_
  refine lv_iand hx hb dX3_cookieOf_54 ?_
  refine lv_bipush (v := 27) hx hb dX3_cookieOf_55 (by decide) ?_
  refine lv_ishl hx hb dX3_cookieOf_57 ?_
  refine lv_iload hx hb dX3_cookieOf_58 (lv_at hl 6 rfl) ?_
  refine lv_bipush (v := 24) hx hb dX3_cookieOf_60 (by decide) ?_
  refine lv_ishl hx hb dX3_cookieOf_62 ?_
  refine lv_ior hx hb dX3_cookieOf_63 ?_
  refine lv_iload hx hb dX3_cookieOf_64 (lv_at hl 0 rfl) ?_
  refine lv_ior hx hb dX3_cookieOf_66 ?_
  refine ck_ir hx hb hr hlocks (Nat.le_of_ble_eq_true rfl) (Nat.le_of_ble_eq_true rfl) dX3_cookieOf_67 (u0_5, u1_5, u2_5, u3_5) hP hD hS ?_
  subst_vars
  rfl
set_option maxHeartbeats 4000000 in
set_option maxRecDepth 100000 in
theorem c_X3_isLate (l : Launch) (dC : Nat → ClassId) (dI : Nat → Nat → Nat) (cI cJ cZ : ClassId) (lo sz : Nat) (o sp h cn : Nat) (zs rq ti ct gv bh bc un : Int32) (k l0 v0 v1 v2 v3 : Int64) (x : Int64) (num kd ca : Int32) : Met l yX3_isCookieOfLateSlot wsX3_isCookieOfLateSlot ({ frames := 5, cells := 0, slots := 0, locals := 120 } : Room) (va_Pc [.ref o, .int ca, .long x, .int num, .int kd] (ck_P (dC, dI) [(cI, .int), (cJ, .long), (cZ, .boolean)] lo sz [(o, .inr (3, [.ref sp, .ref h, .ref cn, .int zs, .int rq, .int ti, .int ct, .int gv, .int bh, .int bc, .int un])), (sp, .inr (2, [.long k, .long l0, .long v0, .long v1, .long v2, .long v3]))])) (va_Qi (fun (r : Int32) (u : Int64 × Int64 × Int64 × Int64) => (r = 1 ∧ ck_late k l0 x num kd ti ca) ∨ (r = 0 ∧ ¬ ck_late k l0 x num kd ti ca)) (fun u => ck_B (dC, dI) vwCl (va_A [(o, .inr (3, [.ref sp, .ref h, .ref cn, .int zs, .int rq, .int ti, .int ct, .int gv, .int bh, .int bc, .int un])), (sp, .inr (2, [.long k, .long l0, .long v0, .long v1, .long v2, .long v3]))] sz) ((fun u : Int64 × Int64 × Int64 × Int64 => ([(o, .inr (3, [.ref sp, .ref h, .ref cn, .int zs, .int rq, .int ti, .int ct, .int gv, .int bh, .int bc, .int un])), (sp, .inr (2, [.long k, .long l0, .long u.1, .long u.2.1, .long u.2.2.1, .long u.2.2.2]))] : va_W)) u)) (va_A [(o, .inr (3, [.ref sp, .ref h, .ref cn, .int zs, .int rq, .int ti, .int ct, .int gv, .int bh, .int bc, .int un])), (sp, .inr (2, [.long k, .long l0, .long v0, .long v1, .long v2, .long v3]))] sz)) 0 0 (va_A [(o, .inr (3, [.ref sp, .ref h, .ref cn, .int zs, .int rq, .int ti, .int ct, .int gv, .int bh, .int bc, .int un])), (sp, .inr (2, [.long k, .long l0, .long v0, .long v1, .long v2, .long v3]))] sz) := by
  refine Met.ofW (cc := cX3_isCookieOfLateSlot) (maxL := 7) (ret := (some .boolean)) (by decide) rfl ?_
  intro p e s m args below meth c s₁ B hml hv
  obtain ⟨rfl, hsz, hP, hK, hD0, hE⟩ := hv
  have hx := B.exec
  have hb := B.bytes
  have hr := B.returns
  have hts := atoms_spec (ws := wsX3_isCookieOfLateSlot) B.pre
  have hown : s.vm.findClass RX3 = some m.cls := findClass_of_methodNamed B.named
  have hlocks := B.notSynchronized
  subst hsz
  have hD := hD0.self (sz := s.heap.size)
  have hlo := ck_lo (sz := s.heap.size) hD0 hE.1
  generalize hAe : va_A [(o, .inr (3, [.ref sp, .ref h, .ref cn, .int zs, .int rq, .int ti, .int ct, .int gv, .int bh, .int bc, .int un])), (sp, .inr (2, [.long k, .long l0, .long v0, .long v1, .long v2, .long v3]))] s.heap.size = A at hD hlo ⊢
  have hA : ∀ q : Nat, s.heap.size ≤ q → A q := fun q h => by rw [← hAe]; exact Or.inr h
  have hG : ck_G (dC, dI) [(cI, .int), (cJ, .long), (cZ, .boolean)] lo A s := ⟨hK, hE, hA, hlo⟩
  have hS : va_S A s.heap s.heap [] := va_S.rf
  have hP : va_P (dC, dI) vwCl [(o, .inr (3, [.ref sp, .ref h, .ref cn, .int zs, .int rq, .int ti, .int ct, .int gv, .int bh, .int bc, .int un])), (sp, .inr (2, [.long k, .long l0, .long v0, .long v1, .long v2, .long v3]))] s.heap := hP
  have hl := lv_entry ([.ref o, .int ca, .long x, .int num, .int kd]) (n := 7) (Nat.le_of_ble_eq_true rfl)
  rw [lg_entry_eq]
  generalize (lg_sl ([.ref o, .int ca, .long x, .int num, .int kd]) ++ List.replicate (7 - (lg_sl ([.ref o, .int ca, .long x, .int num, .int kd])).length) Slot.unset).toArray = ls at hl ⊢
  have hl : lv_has ls 7 [(0, .ref o), (1, .int ca), (2, .long x), (4, .int num), (5, .int kd)] := hl
  refine lv_aload_n hx hb dX3_isCookieOfLateSlot_0 rfl (lv_at hl 0 rfl) ?_
  refine ck_ri (va_runV (As := []) (rest := []) ⟨hx, hb, hml, hown, hts⟩ (c_X3_slotNow l dC dI cI cJ cZ lo _ o sp h cn zs rq ti ct gv bh bc un) (cwV 0 hts gX3_isCookieOfLateSlot_X3_slotNow rfl rfl rfl (by decide +kernel) ⟨(Nat.le_of_ble_eq_true rfl), (Nat.le_of_ble_eq_true rfl)⟩) ⟨ck_blind, va_recv hK hP (ci := 3) (q0 := 0) rfl rfl, (ck_pre hG hP hD hS [0] rfl (by decide) _)⟩ rfl rfl hl.1 rfl (lv_room (Nat.le_of_ble_eq_true rfl)) dX3_isCookieOfLateSlot_1 ⟨(Nat.le_of_ble_eq_true rfl), (Nat.le_of_ble_eq_true rfl)⟩) (fun r_1 hw_1 => ?_)
  have hw_1 : r_1 = ti / 64 := hw_1
  subst hw_1
  refine lv_istore (lv' := [(6, .int (ti / 64)), (0, .ref o), (1, .int ca), (2, .long x), (4, .int num), (5, .int kd)]) hx hb dX3_isCookieOfLateSlot_4 hl (by decide) rfl (fun ls hl => ?_)
  refine lv_iload_n hx hb dX3_isCookieOfLateSlot_6 rfl (lv_at hl 2 rfl) ?_
  refine lv_aload_n hx hb dX3_isCookieOfLateSlot_7 rfl (lv_at hl 1 rfl) ?_
  refine lv_lload_n hx hb dX3_isCookieOfLateSlot_8 rfl (lv_at hl 3 rfl) ?_
  refine lv_iload hx hb dX3_isCookieOfLateSlot_9 (lv_at hl 4 rfl) ?_
  refine lv_iload hx hb dX3_isCookieOfLateSlot_11 (lv_at hl 5 rfl) ?_
  refine lv_iload hx hb dX3_isCookieOfLateSlot_13 (lv_at hl 0 rfl) ?_
  refine ck_ci (wr := []) (va_runV (As := [.long x, .int num, .int kd, .int (ti / 64)]) (rest := [.int ca]) ⟨hx, hb, hml, hown, hts⟩ (c_X3_cookieOf l dC dI cI cJ cZ lo _ o sp h cn zs rq ti ct gv bh bc un k l0 v0 v1 v2 v3 x num kd (ti / 64)) (cwV 4 hts gX3_isCookieOfLateSlot_X3_cookieOf rfl rfl rfl (by decide +kernel) ⟨(Nat.le_of_ble_eq_true rfl), (Nat.le_of_ble_eq_true rfl)⟩) ⟨ck_blind, va_recv hK hP (ci := 3) (q0 := 0) rfl rfl, (ck_pre hG hP hD hS [0, 1] rfl (by decide) _)⟩ rfl rfl hl.1 rfl (lv_room (Nat.le_of_ble_eq_true rfl)) dX3_isCookieOfLateSlot_15 ⟨(Nat.le_of_ble_eq_true rfl), (Nat.le_of_ble_eq_true rfl)⟩) hP hD hS hA [0, 1] [] rfl rfl (by decide) (by decide) (fun r_2 u H locs hw_2 hP hD hS => ?_)
  obtain ⟨u0_2, u1_2, u2_2, u3_2⟩ := u
  have hw_2 : r_2 = ck_ckk k l0 x num kd (ti / 64) := hw_2
  have hP : va_P (dC, dI) vwCl [(o, .inr (3, [.ref sp, .ref h, .ref cn, .int zs, .int rq, .int ti, .int ct, .int gv, .int bh, .int bc, .int un])), (sp, .inr (2, [.long k, .long l0, .long u0_2, .long u1_2, .long u2_2, .long u3_2]))] H := hP
  have hD : va_D A [(o, .inr (3, [.ref sp, .ref h, .ref cn, .int zs, .int rq, .int ti, .int ct, .int gv, .int bh, .int bc, .int un])), (sp, .inr (2, [.long k, .long l0, .long u0_2, .long u1_2, .long u2_2, .long u3_2]))] := hD
  subst hw_2
  refine lv_icmp_ne (tgt := 23) hx hb dX3_isCookieOfLateSlot_18 (by decide) (fun c_18 => ?_) (fun c_18 => ?_)
  · skip
    refine lv_iload hx hb dX3_isCookieOfLateSlot_23 (lv_at hl 0 rfl) ?_
    refine lv_if_le (tgt := 49) hx hb dX3_isCookieOfLateSlot_25 (by decide) (fun c_25 => ?_) (fun c_25 => ?_)
    · skip
      refine lv_iconst (v := 0) hx hb dX3_isCookieOfLateSlot_49 (by decide) ?_
      refine ck_zr hx hb hr hlocks (by first | exact Or.inl rfl | exact Or.inr rfl) (Nat.le_of_ble_eq_true rfl) (Nat.le_of_ble_eq_true rfl) dX3_isCookieOfLateSlot_50 (u0_2, u1_2, u2_2, u3_2) hP hD hS ?_
      exact Or.inr ⟨rfl, fun z => z.elim c_18 (fun z => absurd z.1 (Int32.not_lt.mpr c_25))⟩
    · skip
      refine lv_iload_n hx hb dX3_isCookieOfLateSlot_28 rfl (lv_at hl 2 rfl) ?_
      refine lv_aload_n hx hb dX3_isCookieOfLateSlot_29 rfl (lv_at hl 1 rfl) ?_
      refine lv_lload_n hx hb dX3_isCookieOfLateSlot_30 rfl (lv_at hl 3 rfl) ?_
      refine lv_iload hx hb dX3_isCookieOfLateSlot_31 (lv_at hl 4 rfl) ?_
      refine lv_iload hx hb dX3_isCookieOfLateSlot_33 (lv_at hl 5 rfl) ?_
      refine lv_iload hx hb dX3_isCookieOfLateSlot_35 (lv_at hl 0 rfl) ?_
      refine lv_iconst (v := 1) hx hb dX3_isCookieOfLateSlot_37 (by decide) ?_
      refine lv_isub hx hb dX3_isCookieOfLateSlot_38 ?_
      refine ck_ci (wr := []) (va_runV (As := [.long x, .int num, .int kd, .int ((ti / 64) - 1)]) (rest := [.int ca]) ⟨hx, hb, hml, hown, hts⟩ (c_X3_cookieOf l dC dI cI cJ cZ lo _ o sp h cn zs rq ti ct gv bh bc un k l0 u0_2 u1_2 u2_2 u3_2 x num kd ((ti / 64) - 1)) (cwV 4 hts gX3_isCookieOfLateSlot_X3_cookieOf rfl rfl rfl (by decide +kernel) ⟨(Nat.le_of_ble_eq_true rfl), (Nat.le_of_ble_eq_true rfl)⟩) ⟨ck_blind, va_recv hK hP (ci := 3) (q0 := 0) rfl rfl, (ck_pre hG hP hD hS [0, 1] rfl (by decide) _)⟩ rfl rfl hl.1 rfl (lv_room (Nat.le_of_ble_eq_true rfl)) dX3_isCookieOfLateSlot_39 ⟨(Nat.le_of_ble_eq_true rfl), (Nat.le_of_ble_eq_true rfl)⟩) hP hD hS hA [0, 1] [] rfl rfl (by decide) (by decide) (fun r_3 u H locs hw_3 hP hD hS => ?_)
      obtain ⟨u0_3, u1_3, u2_3, u3_3⟩ := u
      have hw_3 : r_3 = ck_ckk k l0 x num kd ((ti / 64) - 1) := hw_3
      have hP : va_P (dC, dI) vwCl [(o, .inr (3, [.ref sp, .ref h, .ref cn, .int zs, .int rq, .int ti, .int ct, .int gv, .int bh, .int bc, .int un])), (sp, .inr (2, [.long k, .long l0, .long u0_3, .long u1_3, .long u2_3, .long u3_3]))] H := hP
      have hD : va_D A [(o, .inr (3, [.ref sp, .ref h, .ref cn, .int zs, .int rq, .int ti, .int ct, .int gv, .int bh, .int bc, .int un])), (sp, .inr (2, [.long k, .long l0, .long u0_3, .long u1_3, .long u2_3, .long u3_3]))] := hD
      subst hw_3
      refine lv_icmp_ne (tgt := 49) hx hb dX3_isCookieOfLateSlot_42 (by decide) (fun c_42 => ?_) (fun c_42 => ?_)
      · skip
        refine lv_iconst (v := 0) hx hb dX3_isCookieOfLateSlot_49 (by decide) ?_
        refine ck_zr hx hb hr hlocks (by first | exact Or.inl rfl | exact Or.inr rfl) (Nat.le_of_ble_eq_true rfl) (Nat.le_of_ble_eq_true rfl) dX3_isCookieOfLateSlot_50 (u0_3, u1_3, u2_3, u3_3) hP hD hS ?_
        exact Or.inr ⟨rfl, fun z => z.elim c_18 (fun z => c_42 z.2)⟩
      · skip
        refine lv_iconst (v := 1) hx hb dX3_isCookieOfLateSlot_45 (by decide) ?_
        refine lv_goto (tgt := 50) hx hb dX3_isCookieOfLateSlot_46 (by decide) ?_
        refine ck_zr hx hb hr hlocks (by first | exact Or.inl rfl | exact Or.inr rfl) (Nat.le_of_ble_eq_true rfl) (Nat.le_of_ble_eq_true rfl) dX3_isCookieOfLateSlot_50 (u0_3, u1_3, u2_3, u3_3) hP hD hS ?_
        exact Or.inl ⟨rfl, Or.inr ⟨Int32.not_le.mp c_25, c_42⟩⟩
  · skip
    refine lv_iconst (v := 1) hx hb dX3_isCookieOfLateSlot_21 (by decide) ?_
    refine ck_zr hx hb hr hlocks (by first | exact Or.inl rfl | exact Or.inr rfl) (Nat.le_of_ble_eq_true rfl) (Nat.le_of_ble_eq_true rfl) dX3_isCookieOfLateSlot_22 (u0_2, u1_2, u2_2, u3_2) hP hD hS ?_
    exact Or.inl ⟨rfl, Or.inl c_18⟩
end
section
set_option maxRecDepth 20000 in
theorem k_X3_answerNewSyn_f19 : (.fieldLink RX3 19 "CookieListener" "halves" "LCookieListener$Halves;" : Cond) ∈ wsX3_answerNewSyn := by decide +kernel
set_option maxRecDepth 20000 in
theorem k_X3_answerNewSyn_in3 : ∀ w ∈ u_ws RX3 TX3 11, w ∈ wsX3_answerNewSyn := by decide +kernel
set_option maxRecDepth 20000 in
theorem k_X3_answerNewSyn_in1 : ∀ w ∈ u_ws RX1 TX1 6, w ∈ wsX3_answerNewSyn := by decide +kernel
set_option maxRecDepth 20000 in
theorem k_X3_answerNewSyn_f30 : (.fieldLink RX3 30 "CookieListener" "sizeOfHalves" "I" : Cond) ∈ wsX3_answerNewSyn := by decide +kernel
set_option maxRecDepth 20000 in
theorem k_X3_answerNewSyn_c164 : (.constant RX3 164 (-16777216) : Cond) ∈ wsX3_answerNewSyn := by decide +kernel
set_option maxRecDepth 20000 in
theorem k_X3_answerNewSyn_f37 : (.fieldLink RX3 37 "CookieListener" "time" "I" : Cond) ∈ wsX3_answerNewSyn := by decide +kernel
set_option maxRecDepth 20000 in
theorem k_X3_answerNewSyn_f43 : (.fieldLink RX3 43 "CookieListener" "cookiesGiven" "I" : Cond) ∈ wsX3_answerNewSyn := by decide +kernel
set_option maxRecDepth 20000 in
theorem k_X3_answerNewSyn_f40 : (.fieldLink RX3 40 "CookieListener" "cookiesTime" "I" : Cond) ∈ wsX3_answerNewSyn := by decide +kernel
set_option maxHeartbeats 4000000 in
set_option maxRecDepth 100000 in
theorem c_X3_answerNewSyn (l : Launch) (dC : Nat → ClassId) (dI : Nat → Nat → Nat) (cI cJ cZ : ClassId) (lo sz : Nat) (o sp h cn : Nat) (zs rq ti ct gv bh bc un : Int32) (k l0 v0 v1 v2 v3 : Int64) (a1 a2 a3 a4 a5 : Nat) (n : Nat) (f1 : Nat → Int64) (f2 f3 f4 f5 : Nat → Int32) (x : Int64) (num kd : Int32) (hn : n ≤ 32) (hz : zs ≤ 32) : Met l yX3_answerNewSyn wsX3_answerNewSyn ({ frames := 5, cells := 0, slots := 0, locals := 120 } : Room) (va_Pc [.ref o, .long x, .int num, .int kd] (ck_P (dC, dI) [(cI, .int), (cJ, .long), (cZ, .boolean)] lo sz [(o, .inr (3, [.ref sp, .ref h, .ref cn, .int zs, .int rq, .int ti, .int ct, .int gv, .int bh, .int bc, .int un])), (sp, .inr (2, [.long k, .long l0, .long v0, .long v1, .long v2, .long v3])), (h, .inr (1, [.ref a1, .ref a2, .ref a3, .ref a4, .ref a5, .int (nI n)])), (a1, .inl (cJ, 32, .inr (.inl f1))), (a2, .inl (cI, 32, .inl f2)), (a3, .inl (cI, 32, .inl f3)), (a4, .inl (cI, 32, .inl f4)), (a5, .inl (cI, 32, .inl f5))])) (va_Qi (fun (r : Int32) (u : Int32 × Int32 × Nat × (Nat → Int64) × (Nat → Int32) × (Nat → Int32) × (Nat → Int32) × (Nat → Int32) × Int64 × Int64 × Int64 × Int64) => (¬ nI n < zs ∧ r = ck_ckk k l0 x num kd (ti / 64) ∧ u.2.1 = gv + 1 ∧ u.1 = ti ∧ u.2.2.1 = n ∧ u.2.2.2.1 = f1 ∧ u.2.2.2.2.1 = f2 ∧ u.2.2.2.2.2.1 = f3 ∧ u.2.2.2.2.2.2.1 = f4 ∧ u.2.2.2.2.2.2.2.1 = f5) ∨ (nI n < zs ∧ r = ck_ckk k l0 x num kd (ti / 64) ^^^ (-16777216) ∧ u.2.1 = gv ∧ u.1 = ct ∧ u.2.2.1 = n + 1 ∧ u.2.2.2.1 = vp_updL f1 n x ∧ u.2.2.2.2.1 = upd f2 n num ∧ u.2.2.2.2.2.1 = upd f3 n (ck_ckk k l0 x num kd (ti / 64) ^^^ (-16777216)) ∧ u.2.2.2.2.2.2.1 = upd f4 n kd ∧ u.2.2.2.2.2.2.2.1 = upd f5 n ti)) (fun u => ck_B (dC, dI) vwCl (va_A [(o, .inr (3, [.ref sp, .ref h, .ref cn, .int zs, .int rq, .int ti, .int ct, .int gv, .int bh, .int bc, .int un])), (sp, .inr (2, [.long k, .long l0, .long v0, .long v1, .long v2, .long v3])), (h, .inr (1, [.ref a1, .ref a2, .ref a3, .ref a4, .ref a5, .int (nI n)])), (a1, .inl (cJ, 32, .inr (.inl f1))), (a2, .inl (cI, 32, .inl f2)), (a3, .inl (cI, 32, .inl f3)), (a4, .inl (cI, 32, .inl f4)), (a5, .inl (cI, 32, .inl f5))] sz) ((fun u : Int32 × Int32 × Nat × (Nat → Int64) × (Nat → Int32) × (Nat → Int32) × (Nat → Int32) × (Nat → Int32) × Int64 × Int64 × Int64 × Int64 => ([(o, .inr (3, [.ref sp, .ref h, .ref cn, .int zs, .int rq, .int ti, .int u.1, .int u.2.1, .int bh, .int bc, .int un])), (sp, .inr (2, [.long k, .long l0, .long u.2.2.2.2.2.2.2.2.1, .long u.2.2.2.2.2.2.2.2.2.1, .long u.2.2.2.2.2.2.2.2.2.2.1, .long u.2.2.2.2.2.2.2.2.2.2.2])), (h, .inr (1, [.ref a1, .ref a2, .ref a3, .ref a4, .ref a5, .int (nI u.2.2.1)])), (a1, .inl (cJ, 32, .inr (.inl u.2.2.2.1))), (a2, .inl (cI, 32, .inl u.2.2.2.2.1)), (a3, .inl (cI, 32, .inl u.2.2.2.2.2.1)), (a4, .inl (cI, 32, .inl u.2.2.2.2.2.2.1)), (a5, .inl (cI, 32, .inl u.2.2.2.2.2.2.2.1))] : va_W)) u)) (va_A [(o, .inr (3, [.ref sp, .ref h, .ref cn, .int zs, .int rq, .int ti, .int ct, .int gv, .int bh, .int bc, .int un])), (sp, .inr (2, [.long k, .long l0, .long v0, .long v1, .long v2, .long v3])), (h, .inr (1, [.ref a1, .ref a2, .ref a3, .ref a4, .ref a5, .int (nI n)])), (a1, .inl (cJ, 32, .inr (.inl f1))), (a2, .inl (cI, 32, .inl f2)), (a3, .inl (cI, 32, .inl f3)), (a4, .inl (cI, 32, .inl f4)), (a5, .inl (cI, 32, .inl f5))] sz)) 0 0 (va_A [(o, .inr (3, [.ref sp, .ref h, .ref cn, .int zs, .int rq, .int ti, .int ct, .int gv, .int bh, .int bc, .int un])), (sp, .inr (2, [.long k, .long l0, .long v0, .long v1, .long v2, .long v3])), (h, .inr (1, [.ref a1, .ref a2, .ref a3, .ref a4, .ref a5, .int (nI n)])), (a1, .inl (cJ, 32, .inr (.inl f1))), (a2, .inl (cI, 32, .inl f2)), (a3, .inl (cI, 32, .inl f3)), (a4, .inl (cI, 32, .inl f4)), (a5, .inl (cI, 32, .inl f5))] sz) := by
  refine Met.ofW (cc := cX3_answerNewSyn) (maxL := 7) (ret := (some .int)) (by decide) rfl ?_
  intro p e s m args below meth c s₁ B hml hv
  obtain ⟨rfl, hsz, hP, hK, hD0, hE⟩ := hv
  have hx := B.exec
  have hb := B.bytes
  have hr := B.returns
  have hts := atoms_spec (ws := wsX3_answerNewSyn) B.pre
  have hown : s.vm.findClass RX3 = some m.cls := findClass_of_methodNamed B.named
  have hlocks := B.notSynchronized
  subst hsz
  have hD := hD0.self (sz := s.heap.size)
  have hlo := ck_lo (sz := s.heap.size) hD0 hE.1
  generalize hAe : va_A [(o, .inr (3, [.ref sp, .ref h, .ref cn, .int zs, .int rq, .int ti, .int ct, .int gv, .int bh, .int bc, .int un])), (sp, .inr (2, [.long k, .long l0, .long v0, .long v1, .long v2, .long v3])), (h, .inr (1, [.ref a1, .ref a2, .ref a3, .ref a4, .ref a5, .int (nI n)])), (a1, .inl (cJ, 32, .inr (.inl f1))), (a2, .inl (cI, 32, .inl f2)), (a3, .inl (cI, 32, .inl f3)), (a4, .inl (cI, 32, .inl f4)), (a5, .inl (cI, 32, .inl f5))] s.heap.size = A at hD hlo ⊢
  have hA : ∀ q : Nat, s.heap.size ≤ q → A q := fun q h => by rw [← hAe]; exact Or.inr h
  have hG : ck_G (dC, dI) [(cI, .int), (cJ, .long), (cZ, .boolean)] lo A s := ⟨hK, hE, hA, hlo⟩
  have hS : va_S A s.heap s.heap [] := va_S.rf
  have hP : va_P (dC, dI) vwCl [(o, .inr (3, [.ref sp, .ref h, .ref cn, .int zs, .int rq, .int ti, .int ct, .int gv, .int bh, .int bc, .int un])), (sp, .inr (2, [.long k, .long l0, .long v0, .long v1, .long v2, .long v3])), (h, .inr (1, [.ref a1, .ref a2, .ref a3, .ref a4, .ref a5, .int (nI n)])), (a1, .inl (cJ, 32, .inr (.inl f1))), (a2, .inl (cI, 32, .inl f2)), (a3, .inl (cI, 32, .inl f3)), (a4, .inl (cI, 32, .inl f4)), (a5, .inl (cI, 32, .inl f5))] s.heap := hP
  have hl := lv_entry ([.ref o, .long x, .int num, .int kd]) (n := 7) (Nat.le_of_ble_eq_true rfl)
  rw [lg_entry_eq]
  generalize (lg_sl ([.ref o, .long x, .int num, .int kd]) ++ List.replicate (7 - (lg_sl ([.ref o, .long x, .int num, .int kd])).length) Slot.unset).toArray = ls at hl ⊢
  have hl : lv_has ls 7 [(0, .ref o), (1, .long x), (3, .int num), (4, .int kd)] := hl
  refine lv_aload_n hx hb dX3_answerNewSyn_0 rfl (lv_at hl 0 rfl) ?_
  refine lv_lload_n hx hb dX3_answerNewSyn_1 rfl (lv_at hl 1 rfl) ?_
  refine lv_iload_n hx hb dX3_answerNewSyn_2 rfl (lv_at hl 2 rfl) ?_
  refine lv_iload hx hb dX3_answerNewSyn_3 (lv_at hl 3 rfl) ?_
  refine lv_aload_n hx hb dX3_answerNewSyn_5 rfl (lv_at hl 0 rfl) ?_
  refine ck_ri (va_runV (As := []) (rest := [.int kd, .int num, .long x, .ref o]) ⟨hx, hb, hml, hown, hts⟩ (c_X3_slotNow l dC dI cI cJ cZ lo _ o sp h cn zs rq ti ct gv bh bc un) (cwV 0 hts gX3_answerNewSyn_X3_slotNow rfl rfl rfl (by decide +kernel) ⟨(Nat.le_of_ble_eq_true rfl), (Nat.le_of_ble_eq_true rfl)⟩) ⟨ck_blind, va_recv hK hP (ci := 3) (q0 := 0) rfl rfl, (ck_pre hG hP hD hS [0] rfl (by decide) _)⟩ rfl rfl hl.1 rfl (lv_room (Nat.le_of_ble_eq_true rfl)) dX3_answerNewSyn_6 ⟨(Nat.le_of_ble_eq_true rfl), (Nat.le_of_ble_eq_true rfl)⟩) (fun r_1 hw_1 => ?_)
  have hw_1 : r_1 = ti / 64 := hw_1
  subst hw_1
  refine ck_ci (wr := [(h, .inr (1, [.ref a1, .ref a2, .ref a3, .ref a4, .ref a5, .int (nI n)])), (a1, .inl (cJ, 32, .inr (.inl f1))), (a2, .inl (cI, 32, .inl f2)), (a3, .inl (cI, 32, .inl f3)), (a4, .inl (cI, 32, .inl f4)), (a5, .inl (cI, 32, .inl f5))]) (va_runV (As := [.long x, .int num, .int kd, .int (ti / 64)]) (rest := []) ⟨hx, hb, hml, hown, hts⟩ (c_X3_cookieOf l dC dI cI cJ cZ lo _ o sp h cn zs rq ti ct gv bh bc un k l0 v0 v1 v2 v3 x num kd (ti / 64)) (cwV 4 hts gX3_answerNewSyn_X3_cookieOf rfl rfl rfl (by decide +kernel) ⟨(Nat.le_of_ble_eq_true rfl), (Nat.le_of_ble_eq_true rfl)⟩) ⟨ck_blind, va_recv hK hP (ci := 3) (q0 := 0) rfl rfl, (ck_pre hG hP hD hS [0, 1] rfl (by decide) _)⟩ rfl rfl hl.1 rfl (lv_room (Nat.le_of_ble_eq_true rfl)) dX3_answerNewSyn_9 ⟨(Nat.le_of_ble_eq_true rfl), (Nat.le_of_ble_eq_true rfl)⟩) hP hD hS hA [0, 1] [2, 3, 4, 5, 6, 7] rfl rfl (by decide) (by decide) (fun r_2 u H locs hw_2 hP hD hS => ?_)
  obtain ⟨u0_2, u1_2, u2_2, u3_2⟩ := u
  have hw_2 : r_2 = ck_ckk k l0 x num kd (ti / 64) := hw_2
  have hP : va_P (dC, dI) vwCl [(h, .inr (1, [.ref a1, .ref a2, .ref a3, .ref a4, .ref a5, .int (nI n)])), (a1, .inl (cJ, 32, .inr (.inl f1))), (a2, .inl (cI, 32, .inl f2)), (a3, .inl (cI, 32, .inl f3)), (a4, .inl (cI, 32, .inl f4)), (a5, .inl (cI, 32, .inl f5)), (o, .inr (3, [.ref sp, .ref h, .ref cn, .int zs, .int rq, .int ti, .int ct, .int gv, .int bh, .int bc, .int un])), (sp, .inr (2, [.long k, .long l0, .long u0_2, .long u1_2, .long u2_2, .long u3_2]))] H := hP
  have hD : va_D A [(h, .inr (1, [.ref a1, .ref a2, .ref a3, .ref a4, .ref a5, .int (nI n)])), (a1, .inl (cJ, 32, .inr (.inl f1))), (a2, .inl (cI, 32, .inl f2)), (a3, .inl (cI, 32, .inl f3)), (a4, .inl (cI, 32, .inl f4)), (a5, .inl (cI, 32, .inl f5)), (o, .inr (3, [.ref sp, .ref h, .ref cn, .int zs, .int rq, .int ti, .int ct, .int gv, .int bh, .int bc, .int un])), (sp, .inr (2, [.long k, .long l0, .long u0_2, .long u1_2, .long u2_2, .long u3_2]))] := hD
  subst hw_2
  refine lv_topi (fun x_3 ex_3 => ?_)
  refine lv_istore (lv' := [(5, .int x_3), (0, .ref o), (1, .long x), (3, .int num), (4, .int kd)]) hx hb dX3_answerNewSyn_12 hl (by decide) rfl (fun ls hl => ?_)
  refine lv_aload_n hx hb dX3_answerNewSyn_14 rfl (lv_at hl 1 rfl) ?_
  refine va_get (D := (dC, dI)) (ci := 3) (v := .ref h) (C := RX3) (T := TX3) (N := 11) hx hb hts (k_X3_answerNewSyn_in3) hown hK hP 6 rfl rfl 1 (by decide) (hts _ k_X3_answerNewSyn_f19) (fun _ h9 => h9) rfl dX3_answerNewSyn_15 ?_
  refine va_getN (D := (dC, dI)) (ci := 1) (v := .int (nI n)) (C := RX1) (T := TX1) (N := 6) hx hb hts (k_X3_answerNewSyn_in1) hown hK hP 0 rfl rfl 5 (by decide) (va_Nw.use rfl (hE.2.1.2.2.1)) (fun _ h9 => h9) rfl dX3_answerNewSyn_18 ?_
  refine lv_aload_n hx hb dX3_answerNewSyn_21 rfl (lv_at hl 1 rfl) ?_
  refine va_get (D := (dC, dI)) (ci := 3) (v := .int zs) (C := RX3) (T := TX3) (N := 11) hx hb hts (k_X3_answerNewSyn_in3) hown hK hP 6 rfl rfl 3 (by decide) (hts _ k_X3_answerNewSyn_f30) (fun _ h9 => h9) rfl dX3_answerNewSyn_22 ?_
  refine lv_icmp_lt (tgt := 49) hx hb dX3_answerNewSyn_25 (by decide) (fun c_25 => ?_) (fun c_25 => ?_)
  · skip
    have hn3 := ck_ltz c_25 hz hn
    refine lv_iload hx hb dX3_answerNewSyn_49 (lv_at hl 0 rfl) ?_
    refine lv_ldc hx hb hown (hts _ k_X3_answerNewSyn_c164) dX3_answerNewSyn_51 ?_
    refine lv_ixor hx hb dX3_answerNewSyn_53 ?_
    refine lv_topi (fun x_4 ex_4 => ?_)
    refine lv_istore (lv' := [(6, .int x_4), (5, .int x_3), (0, .ref o), (1, .long x), (3, .int num), (4, .int kd)]) hx hb dX3_answerNewSyn_54 hl (by decide) rfl (fun ls hl => ?_)
    refine lv_aload_n hx hb dX3_answerNewSyn_56 rfl (lv_at hl 2 rfl) ?_
    refine va_get (D := (dC, dI)) (ci := 3) (v := .ref h) (C := RX3) (T := TX3) (N := 11) hx hb hts (k_X3_answerNewSyn_in3) hown hK hP 6 rfl rfl 1 (by decide) (hts _ k_X3_answerNewSyn_f19) (fun _ h9 => h9) rfl dX3_answerNewSyn_57 ?_
    refine lv_lload_n hx hb dX3_answerNewSyn_60 rfl (lv_at hl 3 rfl) ?_
    refine lv_iload_n hx hb dX3_answerNewSyn_61 rfl (lv_at hl 4 rfl) ?_
    refine lv_iload hx hb dX3_answerNewSyn_62 (lv_at hl 0 rfl) ?_
    refine lv_iload hx hb dX3_answerNewSyn_64 (lv_at hl 5 rfl) ?_
    refine lv_aload_n hx hb dX3_answerNewSyn_66 rfl (lv_at hl 2 rfl) ?_
    refine va_get (D := (dC, dI)) (ci := 3) (v := .int ti) (C := RX3) (T := TX3) (N := 11) hx hb hts (k_X3_answerNewSyn_in3) hown hK hP 6 rfl rfl 5 (by decide) (hts _ k_X3_answerNewSyn_f37) (fun _ h9 => h9) rfl dX3_answerNewSyn_67 ?_
    refine ck_cv (wr := [(o, .inr (3, [.ref sp, .ref h, .ref cn, .int zs, .int rq, .int ti, .int ct, .int gv, .int bh, .int bc, .int un])), (sp, .inr (2, [.long k, .long l0, .long u0_2, .long u1_2, .long u2_2, .long u3_2]))]) (va_runV (As := [.long x, .int num, .int x_4, .int kd, .int ti]) (rest := []) ⟨hx, hb, hml, hown, hts⟩ (c_X1_add l dC dI cI cJ cZ lo _ h a1 a2 a3 a4 a5 n f1 f2 f3 f4 f5 x num x_4 kd ti (by first | assumption | omega)) (cwV 5 hts gX3_answerNewSyn_X1_add rfl rfl rfl (by decide +kernel) ⟨(Nat.le_of_ble_eq_true rfl), (Nat.le_of_ble_eq_true rfl)⟩) ⟨ck_blind, va_recv hK hP (ci := 1) (q0 := 0) rfl rfl, (ck_pre hG hP hD hS [0, 1, 2, 3, 4, 5] rfl (by decide) _)⟩ rfl rfl hl.1 rfl (lv_room (Nat.le_of_ble_eq_true rfl)) dX3_answerNewSyn_70 ⟨(Nat.le_of_ble_eq_true rfl), (Nat.le_of_ble_eq_true rfl)⟩) hP hD hS hA [0, 1, 2, 3, 4, 5] [6, 7] rfl rfl (by decide) (by decide) (fun u H locs hw_5 hP hD hS => ?_)
    have hP : va_P (dC, dI) vwCl [(o, .inr (3, [.ref sp, .ref h, .ref cn, .int zs, .int rq, .int ti, .int ct, .int gv, .int bh, .int bc, .int un])), (sp, .inr (2, [.long k, .long l0, .long u0_2, .long u1_2, .long u2_2, .long u3_2])), (h, .inr (1, [.ref a1, .ref a2, .ref a3, .ref a4, .ref a5, .int (nI (n + 1))])), (a1, .inl (cJ, 32, .inr (.inl (vp_updL f1 n x)))), (a2, .inl (cI, 32, .inl (upd f2 n num))), (a3, .inl (cI, 32, .inl (upd f3 n x_4))), (a4, .inl (cI, 32, .inl (upd f4 n kd))), (a5, .inl (cI, 32, .inl (upd f5 n ti)))] H := hP
    have hD : va_D A [(o, .inr (3, [.ref sp, .ref h, .ref cn, .int zs, .int rq, .int ti, .int ct, .int gv, .int bh, .int bc, .int un])), (sp, .inr (2, [.long k, .long l0, .long u0_2, .long u1_2, .long u2_2, .long u3_2])), (h, .inr (1, [.ref a1, .ref a2, .ref a3, .ref a4, .ref a5, .int (nI (n + 1))])), (a1, .inl (cJ, 32, .inr (.inl (vp_updL f1 n x)))), (a2, .inl (cI, 32, .inl (upd f2 n num))), (a3, .inl (cI, 32, .inl (upd f3 n x_4))), (a4, .inl (cI, 32, .inl (upd f4 n kd))), (a5, .inl (cI, 32, .inl (upd f5 n ti)))] := hD
    refine lv_iload hx hb dX3_answerNewSyn_73 (lv_at hl 0 rfl) ?_
    refine ck_ir hx hb hr hlocks (Nat.le_of_ble_eq_true rfl) (Nat.le_of_ble_eq_true rfl) dX3_answerNewSyn_75 (ct, gv, n + 1, vp_updL f1 n x, upd f2 n num, upd f3 n x_4, upd f4 n kd, upd f5 n ti, u0_2, u1_2, u2_2, u3_2) hP hD hS ?_
    subst_vars
    exact Or.inr ⟨c_25, rfl, rfl, rfl, rfl, rfl, rfl, rfl, rfl, rfl⟩
  · skip
    refine lv_aload_n hx hb dX3_answerNewSyn_28 rfl (lv_at hl 1 rfl) ?_
    refine lv_dup hx hb dX3_answerNewSyn_29 rfl ?_
    refine va_get (D := (dC, dI)) (ci := 3) (v := .int gv) (C := RX3) (T := TX3) (N := 11) hx hb hts (k_X3_answerNewSyn_in3) hown hK hP 6 rfl rfl 7 (by decide) (hts _ k_X3_answerNewSyn_f43) (fun _ h9 => h9) rfl dX3_answerNewSyn_30 ?_
    refine lv_iconst (v := 1) hx hb dX3_answerNewSyn_33 (by decide) ?_
    refine lv_iadd hx hb dX3_answerNewSyn_34 ?_
    refine lv_topi (fun x_6 ex_6 => ?_)
    refine va_put (D := (dC, dI)) (ci := 3) (v := .int x_6) (ty := .int) (C := RX3) (T := TX3) (N := 11) hx hb hts (k_X3_answerNewSyn_in3) tyX3 tyX3_ok nmX3 hown hK hP hD hS 6 rfl rfl 7 (by decide) (hts _ k_X3_answerNewSyn_f43) (fun _ h9 => h9) rfl (by decide +kernel) rfl rfl (Nat.le_of_ble_eq_true rfl) dX3_answerNewSyn_35 (fun H locs hP hD hS => ?_)
    have hP : va_P (dC, dI) vwCl [(h, .inr (1, [.ref a1, .ref a2, .ref a3, .ref a4, .ref a5, .int (nI n)])), (a1, .inl (cJ, 32, .inr (.inl f1))), (a2, .inl (cI, 32, .inl f2)), (a3, .inl (cI, 32, .inl f3)), (a4, .inl (cI, 32, .inl f4)), (a5, .inl (cI, 32, .inl f5)), (o, .inr (3, [.ref sp, .ref h, .ref cn, .int zs, .int rq, .int ti, .int ct, .int x_6, .int bh, .int bc, .int un])), (sp, .inr (2, [.long k, .long l0, .long u0_2, .long u1_2, .long u2_2, .long u3_2]))] H := hP
    have hD : va_D A [(h, .inr (1, [.ref a1, .ref a2, .ref a3, .ref a4, .ref a5, .int (nI n)])), (a1, .inl (cJ, 32, .inr (.inl f1))), (a2, .inl (cI, 32, .inl f2)), (a3, .inl (cI, 32, .inl f3)), (a4, .inl (cI, 32, .inl f4)), (a5, .inl (cI, 32, .inl f5)), (o, .inr (3, [.ref sp, .ref h, .ref cn, .int zs, .int rq, .int ti, .int ct, .int x_6, .int bh, .int bc, .int un])), (sp, .inr (2, [.long k, .long l0, .long u0_2, .long u1_2, .long u2_2, .long u3_2]))] := hD
    refine lv_aload_n hx hb dX3_answerNewSyn_38 rfl (lv_at hl 1 rfl) ?_
    refine lv_aload_n hx hb dX3_answerNewSyn_39 rfl (lv_at hl 1 rfl) ?_
    refine va_get (D := (dC, dI)) (ci := 3) (v := .int ti) (C := RX3) (T := TX3) (N := 11) hx hb hts (k_X3_answerNewSyn_in3) hown hK hP 6 rfl rfl 5 (by decide) (hts _ k_X3_answerNewSyn_f37) (fun _ h9 => h9) rfl dX3_answerNewSyn_40 ?_
    refine va_put (D := (dC, dI)) (ci := 3) (v := .int ti) (ty := .int) (C := RX3) (T := TX3) (N := 11) hx hb hts (k_X3_answerNewSyn_in3) tyX3 tyX3_ok nmX3 hown hK hP hD hS 6 rfl rfl 6 (by decide) (hts _ k_X3_answerNewSyn_f40) (fun _ h9 => h9) rfl (by decide +kernel) rfl rfl (Nat.le_of_ble_eq_true rfl) dX3_answerNewSyn_43 (fun H locs hP hD hS => ?_)
    have hP : va_P (dC, dI) vwCl [(h, .inr (1, [.ref a1, .ref a2, .ref a3, .ref a4, .ref a5, .int (nI n)])), (a1, .inl (cJ, 32, .inr (.inl f1))), (a2, .inl (cI, 32, .inl f2)), (a3, .inl (cI, 32, .inl f3)), (a4, .inl (cI, 32, .inl f4)), (a5, .inl (cI, 32, .inl f5)), (o, .inr (3, [.ref sp, .ref h, .ref cn, .int zs, .int rq, .int ti, .int ti, .int x_6, .int bh, .int bc, .int un])), (sp, .inr (2, [.long k, .long l0, .long u0_2, .long u1_2, .long u2_2, .long u3_2]))] H := hP
    have hD : va_D A [(h, .inr (1, [.ref a1, .ref a2, .ref a3, .ref a4, .ref a5, .int (nI n)])), (a1, .inl (cJ, 32, .inr (.inl f1))), (a2, .inl (cI, 32, .inl f2)), (a3, .inl (cI, 32, .inl f3)), (a4, .inl (cI, 32, .inl f4)), (a5, .inl (cI, 32, .inl f5)), (o, .inr (3, [.ref sp, .ref h, .ref cn, .int zs, .int rq, .int ti, .int ti, .int x_6, .int bh, .int bc, .int un])), (sp, .inr (2, [.long k, .long l0, .long u0_2, .long u1_2, .long u2_2, .long u3_2]))] := hD
    refine lv_iload hx hb dX3_answerNewSyn_46 (lv_at hl 0 rfl) ?_
    refine ck_ir hx hb hr hlocks (Nat.le_of_ble_eq_true rfl) (Nat.le_of_ble_eq_true rfl) dX3_answerNewSyn_48 (ti, x_6, n, f1, f2, f3, f4, f5, u0_2, u1_2, u2_2, u3_2) (hP.sub [6, 7, 0, 1, 2, 3, 4, 5] rfl) (hD.sub [6, 7, 0, 1, 2, 3, 4, 5] (by decide) rfl) hS ?_
    subst_vars
    exact Or.inl ⟨c_25, rfl, rfl, rfl, rfl, rfl, rfl, rfl, rfl, rfl⟩
set_option maxRecDepth 20000 in
theorem k_X3_stateOf_f26 : (.fieldLink RX3 26 "CookieListener" "connections" "LCookieListener$Connections;" : Cond) ∈ wsX3_stateOf := by decide +kernel
set_option maxRecDepth 20000 in
theorem k_X3_stateOf_in3 : ∀ w ∈ u_ws RX3 TX3 11, w ∈ wsX3_stateOf := by decide +kernel
set_option maxRecDepth 20000 in
theorem k_X3_stateOf_f19 : (.fieldLink RX3 19 "CookieListener" "halves" "LCookieListener$Halves;" : Cond) ∈ wsX3_stateOf := by decide +kernel
set_option maxHeartbeats 4000000 in
set_option maxRecDepth 100000 in
theorem c_X3_stateOf (l : Launch) (dC : Nat → ClassId) (dI : Nat → Nat → Nat) (cI cJ cZ : ClassId) (lo sz : Nat) (o sp h cn : Nat) (zs rq ti ct gv bh bc un : Int32) (a1 a2 a3 a4 a5 : Nat) (n : Nat) (f1 : Nat → Int64) (f2 f3 f4 f5 : Nat → Int32) (b1 b2 : Nat) (kc t : Nat) (g1 : Nat → Int64) (g2 : Nat → Int32) (x : Int64) (hn : n ≤ 32) (hk : kc ≤ 64) (ht : t ≤ kc) : Met l yX3_stateOf wsX3_stateOf ({ frames := 1, cells := 0, slots := 0, locals := 23 } : Room) (va_Pc [.ref o, .long x] (ck_P (dC, dI) [(cI, .int), (cJ, .long), (cZ, .boolean)] lo sz [(o, .inr (3, [.ref sp, .ref h, .ref cn, .int zs, .int rq, .int ti, .int ct, .int gv, .int bh, .int bc, .int un])), (h, .inr (1, [.ref a1, .ref a2, .ref a3, .ref a4, .ref a5, .int (nI n)])), (a1, .inl (cJ, 32, .inr (.inl f1))), (a2, .inl (cI, 32, .inl f2)), (a3, .inl (cI, 32, .inl f3)), (a4, .inl (cI, 32, .inl f4)), (a5, .inl (cI, 32, .inl f5)), (cn, .inr (0, [.ref b1, .ref b2, .int (nI kc), .int (nI t)])), (b1, .inl (cJ, 64, .inr (.inl g1))), (b2, .inl (cI, 64, .inl g2))])) (vp_Si (fun (r : Int32) => ck_stt n f1 kc t g1 x r)) 0 0 (fun _ => False) := by
  refine Met.ofW (cc := cX3_stateOf) (maxL := 4) (ret := (some .int)) (by decide) rfl ?_
  intro p e s m args below meth c s₁ B hml hv
  obtain ⟨rfl, hsz, hP, hK, hD0, hE⟩ := hv
  have hx := B.exec
  have hb := B.bytes
  have hr := B.returns
  have hts := atoms_spec (ws := wsX3_stateOf) B.pre
  have hown : s.vm.findClass RX3 = some m.cls := findClass_of_methodNamed B.named
  have hlocks := B.notSynchronized
  subst hsz
  have hD := hD0.self (sz := s.heap.size)
  have hlo := ck_lo (sz := s.heap.size) hD0 hE.1
  generalize hAe : va_A [(o, .inr (3, [.ref sp, .ref h, .ref cn, .int zs, .int rq, .int ti, .int ct, .int gv, .int bh, .int bc, .int un])), (h, .inr (1, [.ref a1, .ref a2, .ref a3, .ref a4, .ref a5, .int (nI n)])), (a1, .inl (cJ, 32, .inr (.inl f1))), (a2, .inl (cI, 32, .inl f2)), (a3, .inl (cI, 32, .inl f3)), (a4, .inl (cI, 32, .inl f4)), (a5, .inl (cI, 32, .inl f5)), (cn, .inr (0, [.ref b1, .ref b2, .int (nI kc), .int (nI t)])), (b1, .inl (cJ, 64, .inr (.inl g1))), (b2, .inl (cI, 64, .inl g2))] s.heap.size = A at hD hlo
  have hA : ∀ q : Nat, s.heap.size ≤ q → A q := fun q h => by rw [← hAe]; exact Or.inr h
  have hG : ck_G (dC, dI) [(cI, .int), (cJ, .long), (cZ, .boolean)] lo A s := ⟨hK, hE, hA, hlo⟩
  have hS : va_S A s.heap s.heap [] := va_S.rf
  have hP : va_P (dC, dI) vwCl [(o, .inr (3, [.ref sp, .ref h, .ref cn, .int zs, .int rq, .int ti, .int ct, .int gv, .int bh, .int bc, .int un])), (h, .inr (1, [.ref a1, .ref a2, .ref a3, .ref a4, .ref a5, .int (nI n)])), (a1, .inl (cJ, 32, .inr (.inl f1))), (a2, .inl (cI, 32, .inl f2)), (a3, .inl (cI, 32, .inl f3)), (a4, .inl (cI, 32, .inl f4)), (a5, .inl (cI, 32, .inl f5)), (cn, .inr (0, [.ref b1, .ref b2, .int (nI kc), .int (nI t)])), (b1, .inl (cJ, 64, .inr (.inl g1))), (b2, .inl (cI, 64, .inl g2))] s.heap := hP
  have hl := lv_entry ([.ref o, .long x]) (n := 4) (Nat.le_of_ble_eq_true rfl)
  rw [lg_entry_eq]
  generalize (lg_sl ([.ref o, .long x]) ++ List.replicate (4 - (lg_sl ([.ref o, .long x])).length) Slot.unset).toArray = ls at hl ⊢
  have hl : lv_has ls 4 [(0, .ref o), (1, .long x)] := hl
  refine lv_aload_n hx hb dX3_stateOf_0 rfl (lv_at hl 0 rfl) ?_
  refine va_get (D := (dC, dI)) (ci := 3) (v := .ref cn) (C := RX3) (T := TX3) (N := 11) hx hb hts (k_X3_stateOf_in3) hown hK hP 0 rfl rfl 2 (by decide) (hts _ k_X3_stateOf_f26) (fun _ h9 => h9) rfl dX3_stateOf_1 ?_
  refine lv_lload_n hx hb dX3_stateOf_4 rfl (lv_at hl 1 rfl) ?_
  refine ck_ri (va_runV (As := [.long x]) (rest := []) ⟨hx, hb, hml, hown, hts⟩ (c_X0_find l dC dI cI cJ cZ lo _ cn b1 b2 kc t g1 g2 x (by first | assumption | omega)) (cwV 1 hts gX3_stateOf_X0_find rfl rfl rfl (by decide +kernel) ⟨(Nat.le_of_ble_eq_true rfl), (Nat.le_of_ble_eq_true rfl)⟩) ⟨ck_blind, va_recv hK hP (ci := 0) (q0 := 7) rfl rfl, (ck_pre hG hP hD hS [7, 8, 9] rfl (by decide) _)⟩ rfl rfl hl.1 rfl (lv_room (Nat.le_of_ble_eq_true rfl)) dX3_stateOf_5 ⟨(Nat.le_of_ble_eq_true rfl), (Nat.le_of_ble_eq_true rfl)⟩) (fun r_1 hw_1 => ?_)
  have hw_1 : ck_fnd kc g1 x r_1 := hw_1
  refine lv_istore_n (lv' := [(3, .int r_1), (0, .ref o), (1, .long x)]) hx hb dX3_stateOf_8 rfl hl (by decide) rfl (fun ls hl => ?_)
  refine lv_iload_n hx hb dX3_stateOf_9 rfl (lv_at hl 0 rfl) ?_
  refine lv_iconst (v := (-1)) hx hb dX3_stateOf_10 (by decide) ?_
  refine lv_icmp_eq (tgt := 31) hx hb dX3_stateOf_11 (by decide) (fun c_11 => ?_) (fun c_11 => ?_)
  · skip
    have hn_1 : ∀ i, i < kc → g1 i ≠ x := by
      rcases hw_1 with z | ⟨j9, hj9, ej9, -⟩
      · exact z.2
      · exact absurd (ej9.symm.trans c_11) (ck_njm1 (by omega))
    refine lv_aload_n hx hb dX3_stateOf_31 rfl (lv_at hl 1 rfl) ?_
    refine va_get (D := (dC, dI)) (ci := 3) (v := .ref h) (C := RX3) (T := TX3) (N := 11) hx hb hts (k_X3_stateOf_in3) hown hK hP 0 rfl rfl 1 (by decide) (hts _ k_X3_stateOf_f19) (fun _ h9 => h9) rfl dX3_stateOf_32 ?_
    refine lv_lload_n hx hb dX3_stateOf_35 rfl (lv_at hl 2 rfl) ?_
    refine ck_ri (va_runV (As := [.long x]) (rest := []) ⟨hx, hb, hml, hown, hts⟩ (c_X1_find l dC dI cI cJ cZ lo _ h a1 a2 a3 a4 a5 n f1 f2 f3 f4 f5 x (by first | assumption | omega)) (cwV 1 hts gX3_stateOf_X1_find rfl rfl rfl (by decide +kernel) ⟨(Nat.le_of_ble_eq_true rfl), (Nat.le_of_ble_eq_true rfl)⟩) ⟨ck_blind, va_recv hK hP (ci := 1) (q0 := 1) rfl rfl, (ck_pre hG hP hD hS [1, 2, 3, 4, 5, 6] rfl (by decide) _)⟩ rfl rfl hl.1 rfl (lv_room (Nat.le_of_ble_eq_true rfl)) dX3_stateOf_36 ⟨(Nat.le_of_ble_eq_true rfl), (Nat.le_of_ble_eq_true rfl)⟩) (fun r_2 hw_2 => ?_)
    have hw_2 : ck_fnd n f1 x r_2 := hw_2
    refine lv_iconst (v := (-1)) hx hb dX3_stateOf_39 (by decide) ?_
    refine lv_icmp_eq (tgt := 47) hx hb dX3_stateOf_40 (by decide) (fun c_40 => ?_) (fun c_40 => ?_)
    · skip
      have hn_2 : ∀ i, i < n → f1 i ≠ x := by
        rcases hw_2 with z | ⟨j9, hj9, ej9, -⟩
        · exact z.2
        · exact absurd (ej9.symm.trans c_40) (ck_njm1 (by omega))
      refine lv_iconst (v := 0) hx hb dX3_stateOf_47 (by decide) ?_
      refine ck_iq hx hb hr hlocks dX3_stateOf_48 ?_
      exact Or.inr ⟨hn_1, Or.inr ⟨hn_2, rfl⟩⟩
    · skip
      obtain ⟨j_2, hj_2, ej_2, hf_2⟩ := hw_2.resolve_left (fun z => c_40 z.1)
      subst ej_2
      refine lv_iconst (v := 1) hx hb dX3_stateOf_43 (by decide) ?_
      refine lv_goto (tgt := 48) hx hb dX3_stateOf_44 (by decide) ?_
      refine ck_iq hx hb hr hlocks dX3_stateOf_48 ?_
      exact Or.inr ⟨hn_1, Or.inl ⟨⟨_, hj_2, hf_2⟩, rfl⟩⟩
  · skip
    obtain ⟨j_1, hj_1, ej_1, hf_1⟩ := hw_1.resolve_left (fun z => c_11 z.1)
    subst ej_1
    refine lv_aload_n hx hb dX3_stateOf_14 rfl (lv_at hl 1 rfl) ?_
    refine va_get (D := (dC, dI)) (ci := 3) (v := .ref cn) (C := RX3) (T := TX3) (N := 11) hx hb hts (k_X3_stateOf_in3) hown hK hP 0 rfl rfl 2 (by decide) (hts _ k_X3_stateOf_f26) (fun _ h9 => h9) rfl dX3_stateOf_15 ?_
    refine lv_iload_n hx hb dX3_stateOf_18 rfl (lv_at hl 0 rfl) ?_
    refine ck_ri (va_runV (As := [.int (nI j_1)]) (rest := []) ⟨hx, hb, hml, hown, hts⟩ (c_X0_isTaken l dC dI cI cJ cZ lo _ cn b1 b2 kc t g1 g2 j_1 (by first | assumption | omega) (by first | assumption | omega) (by first | assumption | omega)) (cwV 1 hts gX3_stateOf_X0_isTaken rfl rfl rfl (by decide +kernel) ⟨(Nat.le_of_ble_eq_true rfl), (Nat.le_of_ble_eq_true rfl)⟩) ⟨ck_blind, va_recv hK hP (ci := 0) (q0 := 7) rfl rfl, (ck_pre hG hP hD hS [7, 8, 9] rfl (by decide) _)⟩ rfl rfl hl.1 rfl (lv_room (Nat.le_of_ble_eq_true rfl)) dX3_stateOf_19 ⟨(Nat.le_of_ble_eq_true rfl), (Nat.le_of_ble_eq_true rfl)⟩) (fun r_3 hw_3 => ?_)
    have hw_3 : (r_3 = 1 ∧ j_1 < t) ∨ (r_3 = 0 ∧ t ≤ j_1) := hw_3
    refine lv_if_eq (tgt := 29) hx hb dX3_stateOf_22 (by decide) (fun c_22 => ?_) (fun c_22 => ?_)
    · skip
      have b_22 := (hw_3.resolve_left (fun z => absurd (z.1.symm.trans c_22) (by decide))).2
      refine lv_iconst (v := 2) hx hb dX3_stateOf_29 (by decide) ?_
      refine ck_iq hx hb hr hlocks dX3_stateOf_30 ?_
      exact Or.inl ⟨_, hj_1, hf_1, Or.inr ⟨b_22, rfl⟩⟩
    · skip
      have b_22 := (hw_3.resolve_right (fun z => c_22 z.1)).2
      refine lv_iconst (v := 3) hx hb dX3_stateOf_25 (by decide) ?_
      refine lv_goto (tgt := 30) hx hb dX3_stateOf_26 (by decide) ?_
      refine ck_iq hx hb hr hlocks dX3_stateOf_30 ?_
      exact Or.inl ⟨_, hj_1, hf_1, Or.inl ⟨b_22, rfl⟩⟩
set_option maxRecDepth 20000 in
theorem k_X3_ackOfHalf_f19 : (.fieldLink RX3 19 "CookieListener" "halves" "LCookieListener$Halves;" : Cond) ∈ wsX3_ackOfHalf := by decide +kernel
set_option maxRecDepth 20000 in
theorem k_X3_ackOfHalf_in3 : ∀ w ∈ u_ws RX3 TX3 11, w ∈ wsX3_ackOfHalf := by decide +kernel
set_option maxRecDepth 20000 in
theorem k_X3_ackOfHalf_in1 : ∀ w ∈ u_ws RX1 TX1 6, w ∈ wsX3_ackOfHalf := by decide +kernel
set_option maxRecDepth 20000 in
theorem k_X3_ackOfHalf_f26 : (.fieldLink RX3 26 "CookieListener" "connections" "LCookieListener$Connections;" : Cond) ∈ wsX3_ackOfHalf := by decide +kernel
set_option maxRecDepth 20000 in
theorem k_X3_ackOfHalf_f34 : (.fieldLink RX3 34 "CookieListener" "roomOfQueue" "I" : Cond) ∈ wsX3_ackOfHalf := by decide +kernel
set_option maxRecDepth 20000 in
theorem k_X3_ackOfHalf_f46 : (.fieldLink RX3 46 "CookieListener" "openedByHalves" "I" : Cond) ∈ wsX3_ackOfHalf := by decide +kernel
set_option maxHeartbeats 4000000 in
set_option maxRecDepth 100000 in
theorem c_X3_ackOfHalf (l : Launch) (dC : Nat → ClassId) (dI : Nat → Nat → Nat) (cI cJ cZ : ClassId) (lo sz : Nat) (o sp h cn : Nat) (zs rq ti ct gv bh bc un : Int32) (a1 a2 a3 a4 a5 : Nat) (n : Nat) (f1 : Nat → Int64) (f2 f3 f4 f5 : Nat → Int32) (b1 b2 : Nat) (kc t : Nat) (g1 : Nat → Int64) (g2 : Nat → Int32) (j : Nat) (num ans : Int32) (hn : n < 32) (hj : j < n + 1) (hk : kc ≤ 64) (ht : t ≤ kc) : Met l yX3_ackOfHalf wsX3_ackOfHalf ({ frames := 2, cells := 0, slots := 0, locals := 45 } : Room) (va_Pc [.ref o, .int (nI j), .int num, .int ans] (ck_P (dC, dI) [(cI, .int), (cJ, .long), (cZ, .boolean)] lo sz [(o, .inr (3, [.ref sp, .ref h, .ref cn, .int zs, .int rq, .int ti, .int ct, .int gv, .int bh, .int bc, .int un])), (h, .inr (1, [.ref a1, .ref a2, .ref a3, .ref a4, .ref a5, .int (nI (n + 1))])), (a1, .inl (cJ, 32, .inr (.inl f1))), (a2, .inl (cI, 32, .inl f2)), (a3, .inl (cI, 32, .inl f3)), (a4, .inl (cI, 32, .inl f4)), (a5, .inl (cI, 32, .inl f5)), (cn, .inr (0, [.ref b1, .ref b2, .int (nI kc), .int (nI t)])), (b1, .inl (cJ, 64, .inr (.inl g1))), (b2, .inl (cI, 64, .inl g2))])) (va_Qi (fun (r : Int32) (u : Int32 × Nat × (Nat → Int64) × (Nat → Int32) × (Nat → Int32) × (Nat → Int32) × (Nat → Int32) × Nat × (Nat → Int64) × (Nat → Int32)) => (¬ (f2 j = num ∧ f3 j = ans) ∧ r = 4 ∧ u.2.1 = n + 1 ∧ u.2.2.1 = f1 ∧ u.2.2.2.1 = f2 ∧ u.2.2.2.2.1 = f3 ∧ u.2.2.2.2.2.1 = f4 ∧ u.2.2.2.2.2.2.1 = f5 ∧ u.2.2.2.2.2.2.2.1 = kc ∧ u.2.2.2.2.2.2.2.2.1 = g1 ∧ u.2.2.2.2.2.2.2.2.2 = g2 ∧ u.1 = bh) ∨ ((f2 j = num ∧ f3 j = ans) ∧ ¬ (nI (kc - t) < rq ∧ kc < 64) ∧ r = 3 ∧ u.2.1 = n + 1 ∧ u.2.2.1 = f1 ∧ u.2.2.2.1 = f2 ∧ u.2.2.2.2.1 = f3 ∧ u.2.2.2.2.2.1 = f4 ∧ u.2.2.2.2.2.2.1 = f5 ∧ u.2.2.2.2.2.2.2.1 = kc ∧ u.2.2.2.2.2.2.2.2.1 = g1 ∧ u.2.2.2.2.2.2.2.2.2 = g2 ∧ u.1 = bh) ∨ ((f2 j = num ∧ f3 j = ans) ∧ (nI (kc - t) < rq ∧ kc < 64) ∧ r = 2 ∧ u.2.1 = n ∧ u.2.2.1 = vp_updL f1 j (f1 n) ∧ u.2.2.2.1 = upd f2 j (f2 n) ∧ u.2.2.2.2.1 = upd f3 j (f3 n) ∧ u.2.2.2.2.2.1 = upd f4 j (f4 n) ∧ u.2.2.2.2.2.2.1 = upd f5 j (f5 n) ∧ u.2.2.2.2.2.2.2.1 = kc + 1 ∧ u.2.2.2.2.2.2.2.2.1 = vp_updL g1 kc (f1 j) ∧ u.2.2.2.2.2.2.2.2.2 = upd g2 kc (f4 j) ∧ u.1 = bh + 1)) (fun u => ck_B (dC, dI) vwCl (va_A [(o, .inr (3, [.ref sp, .ref h, .ref cn, .int zs, .int rq, .int ti, .int ct, .int gv, .int bh, .int bc, .int un])), (h, .inr (1, [.ref a1, .ref a2, .ref a3, .ref a4, .ref a5, .int (nI (n + 1))])), (a1, .inl (cJ, 32, .inr (.inl f1))), (a2, .inl (cI, 32, .inl f2)), (a3, .inl (cI, 32, .inl f3)), (a4, .inl (cI, 32, .inl f4)), (a5, .inl (cI, 32, .inl f5)), (cn, .inr (0, [.ref b1, .ref b2, .int (nI kc), .int (nI t)])), (b1, .inl (cJ, 64, .inr (.inl g1))), (b2, .inl (cI, 64, .inl g2))] sz) ((fun u : Int32 × Nat × (Nat → Int64) × (Nat → Int32) × (Nat → Int32) × (Nat → Int32) × (Nat → Int32) × Nat × (Nat → Int64) × (Nat → Int32) => ([(o, .inr (3, [.ref sp, .ref h, .ref cn, .int zs, .int rq, .int ti, .int ct, .int gv, .int u.1, .int bc, .int un])), (h, .inr (1, [.ref a1, .ref a2, .ref a3, .ref a4, .ref a5, .int (nI u.2.1)])), (a1, .inl (cJ, 32, .inr (.inl u.2.2.1))), (a2, .inl (cI, 32, .inl u.2.2.2.1)), (a3, .inl (cI, 32, .inl u.2.2.2.2.1)), (a4, .inl (cI, 32, .inl u.2.2.2.2.2.1)), (a5, .inl (cI, 32, .inl u.2.2.2.2.2.2.1)), (cn, .inr (0, [.ref b1, .ref b2, .int (nI u.2.2.2.2.2.2.2.1), .int (nI t)])), (b1, .inl (cJ, 64, .inr (.inl u.2.2.2.2.2.2.2.2.1))), (b2, .inl (cI, 64, .inl u.2.2.2.2.2.2.2.2.2))] : va_W)) u)) (va_A [(o, .inr (3, [.ref sp, .ref h, .ref cn, .int zs, .int rq, .int ti, .int ct, .int gv, .int bh, .int bc, .int un])), (h, .inr (1, [.ref a1, .ref a2, .ref a3, .ref a4, .ref a5, .int (nI (n + 1))])), (a1, .inl (cJ, 32, .inr (.inl f1))), (a2, .inl (cI, 32, .inl f2)), (a3, .inl (cI, 32, .inl f3)), (a4, .inl (cI, 32, .inl f4)), (a5, .inl (cI, 32, .inl f5)), (cn, .inr (0, [.ref b1, .ref b2, .int (nI kc), .int (nI t)])), (b1, .inl (cJ, 64, .inr (.inl g1))), (b2, .inl (cI, 64, .inl g2))] sz)) 0 0 (va_A [(o, .inr (3, [.ref sp, .ref h, .ref cn, .int zs, .int rq, .int ti, .int ct, .int gv, .int bh, .int bc, .int un])), (h, .inr (1, [.ref a1, .ref a2, .ref a3, .ref a4, .ref a5, .int (nI (n + 1))])), (a1, .inl (cJ, 32, .inr (.inl f1))), (a2, .inl (cI, 32, .inl f2)), (a3, .inl (cI, 32, .inl f3)), (a4, .inl (cI, 32, .inl f4)), (a5, .inl (cI, 32, .inl f5)), (cn, .inr (0, [.ref b1, .ref b2, .int (nI kc), .int (nI t)])), (b1, .inl (cJ, 64, .inr (.inl g1))), (b2, .inl (cI, 64, .inl g2))] sz) := by
  refine Met.ofW (cc := cX3_ackOfHalf) (maxL := 4) (ret := (some .int)) (by decide) rfl ?_
  intro p e s m args below meth c s₁ B hml hv
  obtain ⟨rfl, hsz, hP, hK, hD0, hE⟩ := hv
  have hx := B.exec
  have hb := B.bytes
  have hr := B.returns
  have hts := atoms_spec (ws := wsX3_ackOfHalf) B.pre
  have hown : s.vm.findClass RX3 = some m.cls := findClass_of_methodNamed B.named
  have hlocks := B.notSynchronized
  subst hsz
  have hD := hD0.self (sz := s.heap.size)
  have hlo := ck_lo (sz := s.heap.size) hD0 hE.1
  generalize hAe : va_A [(o, .inr (3, [.ref sp, .ref h, .ref cn, .int zs, .int rq, .int ti, .int ct, .int gv, .int bh, .int bc, .int un])), (h, .inr (1, [.ref a1, .ref a2, .ref a3, .ref a4, .ref a5, .int (nI (n + 1))])), (a1, .inl (cJ, 32, .inr (.inl f1))), (a2, .inl (cI, 32, .inl f2)), (a3, .inl (cI, 32, .inl f3)), (a4, .inl (cI, 32, .inl f4)), (a5, .inl (cI, 32, .inl f5)), (cn, .inr (0, [.ref b1, .ref b2, .int (nI kc), .int (nI t)])), (b1, .inl (cJ, 64, .inr (.inl g1))), (b2, .inl (cI, 64, .inl g2))] s.heap.size = A at hD hlo ⊢
  have hA : ∀ q : Nat, s.heap.size ≤ q → A q := fun q h => by rw [← hAe]; exact Or.inr h
  have hG : ck_G (dC, dI) [(cI, .int), (cJ, .long), (cZ, .boolean)] lo A s := ⟨hK, hE, hA, hlo⟩
  have hS : va_S A s.heap s.heap [] := va_S.rf
  have hP : va_P (dC, dI) vwCl [(o, .inr (3, [.ref sp, .ref h, .ref cn, .int zs, .int rq, .int ti, .int ct, .int gv, .int bh, .int bc, .int un])), (h, .inr (1, [.ref a1, .ref a2, .ref a3, .ref a4, .ref a5, .int (nI (n + 1))])), (a1, .inl (cJ, 32, .inr (.inl f1))), (a2, .inl (cI, 32, .inl f2)), (a3, .inl (cI, 32, .inl f3)), (a4, .inl (cI, 32, .inl f4)), (a5, .inl (cI, 32, .inl f5)), (cn, .inr (0, [.ref b1, .ref b2, .int (nI kc), .int (nI t)])), (b1, .inl (cJ, 64, .inr (.inl g1))), (b2, .inl (cI, 64, .inl g2))] s.heap := hP
  have hl := lv_entry ([.ref o, .int (nI j), .int num, .int ans]) (n := 4) (Nat.le_of_ble_eq_true rfl)
  rw [lg_entry_eq]
  generalize (lg_sl ([.ref o, .int (nI j), .int num, .int ans]) ++ List.replicate (4 - (lg_sl ([.ref o, .int (nI j), .int num, .int ans])).length) Slot.unset).toArray = ls at hl ⊢
  have hl : lv_has ls 4 [(0, .ref o), (1, .int (nI j)), (2, .int num), (3, .int ans)] := hl
  refine lv_aload_n hx hb dX3_ackOfHalf_0 rfl (lv_at hl 0 rfl) ?_
  refine va_get (D := (dC, dI)) (ci := 3) (v := .ref h) (C := RX3) (T := TX3) (N := 11) hx hb hts (k_X3_ackOfHalf_in3) hown hK hP 0 rfl rfl 1 (by decide) (hts _ k_X3_ackOfHalf_f19) (fun _ h9 => h9) rfl dX3_ackOfHalf_1 ?_
  refine va_getN (D := (dC, dI)) (ci := 1) (v := .ref a2) (C := RX1) (T := TX1) (N := 6) hx hb hts (k_X3_ackOfHalf_in1) hown hK hP 1 rfl rfl 1 (by decide) (va_Nw.use rfl (hE.2.1.2.2.2.2.2.2.1)) (fun _ h9 => h9) rfl dX3_ackOfHalf_4 ?_
  refine lv_iload_n hx hb dX3_ackOfHalf_7 rfl (lv_at hl 1 rfl) ?_
  refine ck_iald hx hb hK hP 3 0 rfl rfl (by omega) (by decide) dX3_ackOfHalf_8 ?_
  refine lv_iload_n hx hb dX3_ackOfHalf_9 rfl (lv_at hl 2 rfl) ?_
  refine lv_icmp_ne (tgt := 26) hx hb dX3_ackOfHalf_10 (by decide) (fun c_10 => ?_) (fun c_10 => ?_)
  · skip
    refine lv_iconst (v := 4) hx hb dX3_ackOfHalf_26 (by decide) ?_
    refine ck_ir hx hb hr hlocks (Nat.le_of_ble_eq_true rfl) (Nat.le_of_ble_eq_true rfl) dX3_ackOfHalf_27 (bh, n + 1, f1, f2, f3, f4, f5, kc, g1, g2) hP hD hS ?_
    exact Or.inl ⟨fun z => c_10 z.1, rfl, rfl, rfl, rfl, rfl, rfl, rfl, rfl, rfl, rfl, rfl⟩
  · skip
    refine lv_aload_n hx hb dX3_ackOfHalf_13 rfl (lv_at hl 0 rfl) ?_
    refine va_get (D := (dC, dI)) (ci := 3) (v := .ref h) (C := RX3) (T := TX3) (N := 11) hx hb hts (k_X3_ackOfHalf_in3) hown hK hP 0 rfl rfl 1 (by decide) (hts _ k_X3_ackOfHalf_f19) (fun _ h9 => h9) rfl dX3_ackOfHalf_14 ?_
    refine va_getN (D := (dC, dI)) (ci := 1) (v := .ref a3) (C := RX1) (T := TX1) (N := 6) hx hb hts (k_X3_ackOfHalf_in1) hown hK hP 1 rfl rfl 2 (by decide) (va_Nw.use rfl (hE.2.1.2.2.2.2.2.2.2.1)) (fun _ h9 => h9) rfl dX3_ackOfHalf_17 ?_
    refine lv_iload_n hx hb dX3_ackOfHalf_20 rfl (lv_at hl 1 rfl) ?_
    refine ck_iald hx hb hK hP 4 0 rfl rfl (by omega) (by decide) dX3_ackOfHalf_21 ?_
    refine lv_iload_n hx hb dX3_ackOfHalf_22 rfl (lv_at hl 3 rfl) ?_
    refine lv_icmp_eq (tgt := 28) hx hb dX3_ackOfHalf_23 (by decide) (fun c_23 => ?_) (fun c_23 => ?_)
    · skip
      refine lv_aload_n hx hb dX3_ackOfHalf_28 rfl (lv_at hl 0 rfl) ?_
      refine va_get (D := (dC, dI)) (ci := 3) (v := .ref cn) (C := RX3) (T := TX3) (N := 11) hx hb hts (k_X3_ackOfHalf_in3) hown hK hP 0 rfl rfl 2 (by decide) (hts _ k_X3_ackOfHalf_f26) (fun _ h9 => h9) rfl dX3_ackOfHalf_29 ?_
      refine lv_aload_n hx hb dX3_ackOfHalf_32 rfl (lv_at hl 0 rfl) ?_
      refine va_get (D := (dC, dI)) (ci := 3) (v := .int rq) (C := RX3) (T := TX3) (N := 11) hx hb hts (k_X3_ackOfHalf_in3) hown hK hP 0 rfl rfl 4 (by decide) (hts _ k_X3_ackOfHalf_f34) (fun _ h9 => h9) rfl dX3_ackOfHalf_33 ?_
      refine ck_ri (va_runV (As := [.int rq]) (rest := []) ⟨hx, hb, hml, hown, hts⟩ (c_X0_hasRoom l dC dI cI cJ cZ lo _ cn b1 b2 kc t g1 g2 rq (by first | assumption | omega) (by first | assumption | omega)) (cwV 1 hts gX3_ackOfHalf_X0_hasRoom rfl rfl rfl (by decide +kernel) ⟨(Nat.le_of_ble_eq_true rfl), (Nat.le_of_ble_eq_true rfl)⟩) ⟨ck_blind, va_recv hK hP (ci := 0) (q0 := 7) rfl rfl, (ck_pre hG hP hD hS [7, 8, 9] rfl (by decide) _)⟩ rfl rfl hl.1 rfl (lv_room (Nat.le_of_ble_eq_true rfl)) dX3_ackOfHalf_36 ⟨(Nat.le_of_ble_eq_true rfl), (Nat.le_of_ble_eq_true rfl)⟩) (fun r_1 hw_1 => ?_)
      have hw_1 : (r_1 = 1 ∧ nI (kc - t) < rq ∧ kc < 64) ∨ (r_1 = 0 ∧ ¬ (nI (kc - t) < rq ∧ kc < 64)) := hw_1
      refine lv_if_ne (tgt := 44) hx hb dX3_ackOfHalf_39 (by decide) (fun c_39 => ?_) (fun c_39 => ?_)
      · skip
        have b_39 := (hw_1.resolve_right (fun z => c_39 z.1)).2
        refine lv_aload_n hx hb dX3_ackOfHalf_44 rfl (lv_at hl 0 rfl) ?_
        refine va_get (D := (dC, dI)) (ci := 3) (v := .ref cn) (C := RX3) (T := TX3) (N := 11) hx hb hts (k_X3_ackOfHalf_in3) hown hK hP 0 rfl rfl 2 (by decide) (hts _ k_X3_ackOfHalf_f26) (fun _ h9 => h9) rfl dX3_ackOfHalf_45 ?_
        refine lv_aload_n hx hb dX3_ackOfHalf_48 rfl (lv_at hl 0 rfl) ?_
        refine va_get (D := (dC, dI)) (ci := 3) (v := .ref h) (C := RX3) (T := TX3) (N := 11) hx hb hts (k_X3_ackOfHalf_in3) hown hK hP 0 rfl rfl 1 (by decide) (hts _ k_X3_ackOfHalf_f19) (fun _ h9 => h9) rfl dX3_ackOfHalf_49 ?_
        refine va_getN (D := (dC, dI)) (ci := 1) (v := .ref a1) (C := RX1) (T := TX1) (N := 6) hx hb hts (k_X3_ackOfHalf_in1) hown hK hP 1 rfl rfl 0 (by decide) (va_Nw.use rfl (hE.2.1.2.2.2.2.1)) (fun _ h9 => h9) rfl dX3_ackOfHalf_52 ?_
        refine lv_iload_n hx hb dX3_ackOfHalf_55 rfl (lv_at hl 1 rfl) ?_
        refine ck_lald hx hb hK hP 2 1 rfl rfl (by omega) (by decide) dX3_ackOfHalf_56 ?_
        refine lv_aload_n hx hb dX3_ackOfHalf_57 rfl (lv_at hl 0 rfl) ?_
        refine va_get (D := (dC, dI)) (ci := 3) (v := .ref h) (C := RX3) (T := TX3) (N := 11) hx hb hts (k_X3_ackOfHalf_in3) hown hK hP 0 rfl rfl 1 (by decide) (hts _ k_X3_ackOfHalf_f19) (fun _ h9 => h9) rfl dX3_ackOfHalf_58 ?_
        refine va_getN (D := (dC, dI)) (ci := 1) (v := .ref a4) (C := RX1) (T := TX1) (N := 6) hx hb hts (k_X3_ackOfHalf_in1) hown hK hP 1 rfl rfl 3 (by decide) (va_Nw.use rfl (hE.2.1.2.2.2.2.2.1)) (fun _ h9 => h9) rfl dX3_ackOfHalf_61 ?_
        refine lv_iload_n hx hb dX3_ackOfHalf_64 rfl (lv_at hl 1 rfl) ?_
        refine ck_iald hx hb hK hP 5 0 rfl rfl (by omega) (by decide) dX3_ackOfHalf_65 ?_
        refine ck_cv (wr := [(o, .inr (3, [.ref sp, .ref h, .ref cn, .int zs, .int rq, .int ti, .int ct, .int gv, .int bh, .int bc, .int un])), (h, .inr (1, [.ref a1, .ref a2, .ref a3, .ref a4, .ref a5, .int (nI (n + 1))])), (a1, .inl (cJ, 32, .inr (.inl f1))), (a2, .inl (cI, 32, .inl f2)), (a3, .inl (cI, 32, .inl f3)), (a4, .inl (cI, 32, .inl f4)), (a5, .inl (cI, 32, .inl f5))]) (va_runV (As := [.long (f1 j), .int (f4 j)]) (rest := []) ⟨hx, hb, hml, hown, hts⟩ (c_X0_add l dC dI cI cJ cZ lo _ cn b1 b2 kc t g1 g2 (f1 j) (f4 j) (b_39.2) (by first | assumption | omega)) (cwV 2 hts gX3_ackOfHalf_X0_add rfl rfl rfl (by decide +kernel) ⟨(Nat.le_of_ble_eq_true rfl), (Nat.le_of_ble_eq_true rfl)⟩) ⟨ck_blind, va_recv hK hP (ci := 0) (q0 := 7) rfl rfl, (ck_pre hG hP hD hS [7, 8, 9] rfl (by decide) _)⟩ rfl rfl hl.1 rfl (lv_room (Nat.le_of_ble_eq_true rfl)) dX3_ackOfHalf_66 ⟨(Nat.le_of_ble_eq_true rfl), (Nat.le_of_ble_eq_true rfl)⟩) hP hD hS hA [7, 8, 9] [0, 1, 2, 3, 4, 5, 6] rfl rfl (by decide) (by decide) (fun u H locs hw_2 hP hD hS => ?_)
        have hP : va_P (dC, dI) vwCl [(o, .inr (3, [.ref sp, .ref h, .ref cn, .int zs, .int rq, .int ti, .int ct, .int gv, .int bh, .int bc, .int un])), (h, .inr (1, [.ref a1, .ref a2, .ref a3, .ref a4, .ref a5, .int (nI (n + 1))])), (a1, .inl (cJ, 32, .inr (.inl f1))), (a2, .inl (cI, 32, .inl f2)), (a3, .inl (cI, 32, .inl f3)), (a4, .inl (cI, 32, .inl f4)), (a5, .inl (cI, 32, .inl f5)), (cn, .inr (0, [.ref b1, .ref b2, .int (nI (kc + 1)), .int (nI t)])), (b1, .inl (cJ, 64, .inr (.inl (vp_updL g1 kc (f1 j))))), (b2, .inl (cI, 64, .inl (upd g2 kc (f4 j))))] H := hP
        have hD : va_D A [(o, .inr (3, [.ref sp, .ref h, .ref cn, .int zs, .int rq, .int ti, .int ct, .int gv, .int bh, .int bc, .int un])), (h, .inr (1, [.ref a1, .ref a2, .ref a3, .ref a4, .ref a5, .int (nI (n + 1))])), (a1, .inl (cJ, 32, .inr (.inl f1))), (a2, .inl (cI, 32, .inl f2)), (a3, .inl (cI, 32, .inl f3)), (a4, .inl (cI, 32, .inl f4)), (a5, .inl (cI, 32, .inl f5)), (cn, .inr (0, [.ref b1, .ref b2, .int (nI (kc + 1)), .int (nI t)])), (b1, .inl (cJ, 64, .inr (.inl (vp_updL g1 kc (f1 j))))), (b2, .inl (cI, 64, .inl (upd g2 kc (f4 j))))] := hD
        refine lv_aload_n hx hb dX3_ackOfHalf_69 rfl (lv_at hl 0 rfl) ?_
        refine va_get (D := (dC, dI)) (ci := 3) (v := .ref h) (C := RX3) (T := TX3) (N := 11) hx hb hts (k_X3_ackOfHalf_in3) hown hK hP 0 rfl rfl 1 (by decide) (hts _ k_X3_ackOfHalf_f19) (fun _ h9 => h9) rfl dX3_ackOfHalf_70 ?_
        refine lv_iload_n hx hb dX3_ackOfHalf_73 rfl (lv_at hl 1 rfl) ?_
        refine ck_cv (wr := [(o, .inr (3, [.ref sp, .ref h, .ref cn, .int zs, .int rq, .int ti, .int ct, .int gv, .int bh, .int bc, .int un])), (cn, .inr (0, [.ref b1, .ref b2, .int (nI (kc + 1)), .int (nI t)])), (b1, .inl (cJ, 64, .inr (.inl (vp_updL g1 kc (f1 j))))), (b2, .inl (cI, 64, .inl (upd g2 kc (f4 j))))]) (va_runV (As := [.int (nI j)]) (rest := []) ⟨hx, hb, hml, hown, hts⟩ (c_X1_drop l dC dI cI cJ cZ lo _ h a1 a2 a3 a4 a5 n f1 f2 f3 f4 f5 j (by first | assumption | omega) (by first | assumption | omega)) (cwV 1 hts gX3_ackOfHalf_X1_drop rfl rfl rfl (by decide +kernel) ⟨(Nat.le_of_ble_eq_true rfl), (Nat.le_of_ble_eq_true rfl)⟩) ⟨ck_blind, va_recv hK hP (ci := 1) (q0 := 1) rfl rfl, (ck_pre hG hP hD hS [1, 2, 3, 4, 5, 6] rfl (by decide) _)⟩ rfl rfl hl.1 rfl (lv_room (Nat.le_of_ble_eq_true rfl)) dX3_ackOfHalf_74 ⟨(Nat.le_of_ble_eq_true rfl), (Nat.le_of_ble_eq_true rfl)⟩) hP hD hS hA [1, 2, 3, 4, 5, 6] [0, 7, 8, 9] rfl rfl (by decide) (by decide) (fun u H locs hw_3 hP hD hS => ?_)
        have hP : va_P (dC, dI) vwCl [(o, .inr (3, [.ref sp, .ref h, .ref cn, .int zs, .int rq, .int ti, .int ct, .int gv, .int bh, .int bc, .int un])), (cn, .inr (0, [.ref b1, .ref b2, .int (nI (kc + 1)), .int (nI t)])), (b1, .inl (cJ, 64, .inr (.inl (vp_updL g1 kc (f1 j))))), (b2, .inl (cI, 64, .inl (upd g2 kc (f4 j)))), (h, .inr (1, [.ref a1, .ref a2, .ref a3, .ref a4, .ref a5, .int (nI n)])), (a1, .inl (cJ, 32, .inr (.inl (vp_updL f1 j (f1 n))))), (a2, .inl (cI, 32, .inl (upd f2 j (f2 n)))), (a3, .inl (cI, 32, .inl (upd f3 j (f3 n)))), (a4, .inl (cI, 32, .inl (upd f4 j (f4 n)))), (a5, .inl (cI, 32, .inl (upd f5 j (f5 n))))] H := hP
        have hD : va_D A [(o, .inr (3, [.ref sp, .ref h, .ref cn, .int zs, .int rq, .int ti, .int ct, .int gv, .int bh, .int bc, .int un])), (cn, .inr (0, [.ref b1, .ref b2, .int (nI (kc + 1)), .int (nI t)])), (b1, .inl (cJ, 64, .inr (.inl (vp_updL g1 kc (f1 j))))), (b2, .inl (cI, 64, .inl (upd g2 kc (f4 j)))), (h, .inr (1, [.ref a1, .ref a2, .ref a3, .ref a4, .ref a5, .int (nI n)])), (a1, .inl (cJ, 32, .inr (.inl (vp_updL f1 j (f1 n))))), (a2, .inl (cI, 32, .inl (upd f2 j (f2 n)))), (a3, .inl (cI, 32, .inl (upd f3 j (f3 n)))), (a4, .inl (cI, 32, .inl (upd f4 j (f4 n)))), (a5, .inl (cI, 32, .inl (upd f5 j (f5 n))))] := hD
        refine lv_aload_n hx hb dX3_ackOfHalf_77 rfl (lv_at hl 0 rfl) ?_
        refine lv_dup hx hb dX3_ackOfHalf_78 rfl ?_
        refine va_get (D := (dC, dI)) (ci := 3) (v := .int bh) (C := RX3) (T := TX3) (N := 11) hx hb hts (k_X3_ackOfHalf_in3) hown hK hP 0 rfl rfl 8 (by decide) (hts _ k_X3_ackOfHalf_f46) (fun _ h9 => h9) rfl dX3_ackOfHalf_79 ?_
        refine lv_iconst (v := 1) hx hb dX3_ackOfHalf_82 (by decide) ?_
        refine lv_iadd hx hb dX3_ackOfHalf_83 ?_
        refine lv_topi (fun x_4 ex_4 => ?_)
        refine va_put (D := (dC, dI)) (ci := 3) (v := .int x_4) (ty := .int) (C := RX3) (T := TX3) (N := 11) hx hb hts (k_X3_ackOfHalf_in3) tyX3 tyX3_ok nmX3 hown hK hP hD hS 0 rfl rfl 8 (by decide) (hts _ k_X3_ackOfHalf_f46) (fun _ h9 => h9) rfl (by decide +kernel) rfl rfl (Nat.le_of_ble_eq_true rfl) dX3_ackOfHalf_84 (fun H locs hP hD hS => ?_)
        have hP : va_P (dC, dI) vwCl [(o, .inr (3, [.ref sp, .ref h, .ref cn, .int zs, .int rq, .int ti, .int ct, .int gv, .int x_4, .int bc, .int un])), (cn, .inr (0, [.ref b1, .ref b2, .int (nI (kc + 1)), .int (nI t)])), (b1, .inl (cJ, 64, .inr (.inl (vp_updL g1 kc (f1 j))))), (b2, .inl (cI, 64, .inl (upd g2 kc (f4 j)))), (h, .inr (1, [.ref a1, .ref a2, .ref a3, .ref a4, .ref a5, .int (nI n)])), (a1, .inl (cJ, 32, .inr (.inl (vp_updL f1 j (f1 n))))), (a2, .inl (cI, 32, .inl (upd f2 j (f2 n)))), (a3, .inl (cI, 32, .inl (upd f3 j (f3 n)))), (a4, .inl (cI, 32, .inl (upd f4 j (f4 n)))), (a5, .inl (cI, 32, .inl (upd f5 j (f5 n))))] H := hP
        have hD : va_D A [(o, .inr (3, [.ref sp, .ref h, .ref cn, .int zs, .int rq, .int ti, .int ct, .int gv, .int x_4, .int bc, .int un])), (cn, .inr (0, [.ref b1, .ref b2, .int (nI (kc + 1)), .int (nI t)])), (b1, .inl (cJ, 64, .inr (.inl (vp_updL g1 kc (f1 j))))), (b2, .inl (cI, 64, .inl (upd g2 kc (f4 j)))), (h, .inr (1, [.ref a1, .ref a2, .ref a3, .ref a4, .ref a5, .int (nI n)])), (a1, .inl (cJ, 32, .inr (.inl (vp_updL f1 j (f1 n))))), (a2, .inl (cI, 32, .inl (upd f2 j (f2 n)))), (a3, .inl (cI, 32, .inl (upd f3 j (f3 n)))), (a4, .inl (cI, 32, .inl (upd f4 j (f4 n)))), (a5, .inl (cI, 32, .inl (upd f5 j (f5 n))))] := hD
        refine lv_iconst (v := 2) hx hb dX3_ackOfHalf_87 (by decide) ?_
        refine ck_ir hx hb hr hlocks (Nat.le_of_ble_eq_true rfl) (Nat.le_of_ble_eq_true rfl) dX3_ackOfHalf_88 (x_4, n, vp_updL f1 j (f1 n), upd f2 j (f2 n), upd f3 j (f3 n), upd f4 j (f4 n), upd f5 j (f5 n), kc + 1, vp_updL g1 kc (f1 j), upd g2 kc (f4 j)) (hP.sub [0, 4, 5, 6, 7, 8, 9, 1, 2, 3] rfl) (hD.sub [0, 4, 5, 6, 7, 8, 9, 1, 2, 3] (by decide) rfl) hS ?_
        subst_vars
        exact Or.inr (Or.inr ⟨⟨rfl, rfl⟩, b_39, rfl, rfl, rfl, rfl, rfl, rfl, rfl, rfl, rfl, rfl, rfl⟩)
      · skip
        have b_39 := (hw_1.resolve_left (fun z => absurd (z.1.symm.trans c_39) (by decide))).2
        refine lv_iconst (v := 3) hx hb dX3_ackOfHalf_42 (by decide) ?_
        refine ck_ir hx hb hr hlocks (Nat.le_of_ble_eq_true rfl) (Nat.le_of_ble_eq_true rfl) dX3_ackOfHalf_43 (bh, n + 1, f1, f2, f3, f4, f5, kc, g1, g2) hP hD hS ?_
        exact Or.inr (Or.inl ⟨⟨c_10, c_23⟩, b_39, rfl, rfl, rfl, rfl, rfl, rfl, rfl, rfl, rfl, rfl, rfl⟩)
    · skip
      refine lv_iconst (v := 4) hx hb dX3_ackOfHalf_26 (by decide) ?_
      refine ck_ir hx hb hr hlocks (Nat.le_of_ble_eq_true rfl) (Nat.le_of_ble_eq_true rfl) dX3_ackOfHalf_27 (bh, n + 1, f1, f2, f3, f4, f5, kc, g1, g2) hP hD hS ?_
      exact Or.inl ⟨fun z => c_23 z.2, rfl, rfl, rfl, rfl, rfl, rfl, rfl, rfl, rfl, rfl, rfl⟩
set_option maxRecDepth 20000 in
theorem k_X3_ackWithoutHalf_f26 : (.fieldLink RX3 26 "CookieListener" "connections" "LCookieListener$Connections;" : Cond) ∈ wsX3_ackWithoutHalf := by decide +kernel
set_option maxRecDepth 20000 in
theorem k_X3_ackWithoutHalf_in3 : ∀ w ∈ u_ws RX3 TX3 11, w ∈ wsX3_ackWithoutHalf := by decide +kernel
set_option maxRecDepth 20000 in
theorem k_X3_ackWithoutHalf_f34 : (.fieldLink RX3 34 "CookieListener" "roomOfQueue" "I" : Cond) ∈ wsX3_ackWithoutHalf := by decide +kernel
set_option maxRecDepth 20000 in
theorem k_X3_ackWithoutHalf_f49 : (.fieldLink RX3 49 "CookieListener" "openedByCookies" "I" : Cond) ∈ wsX3_ackWithoutHalf := by decide +kernel
set_option maxHeartbeats 4000000 in
set_option maxRecDepth 100000 in
theorem c_X3_ackWithoutHalf (l : Launch) (dC : Nat → ClassId) (dI : Nat → Nat → Nat) (cI cJ cZ : ClassId) (lo sz : Nat) (o sp h cn : Nat) (zs rq ti ct gv bh bc un : Int32) (k l0 v0 v1 v2 v3 : Int64) (b1 b2 : Nat) (kc t : Nat) (g1 : Nat → Int64) (g2 : Nat → Int32) (x : Int64) (num ca : Int32) (hk : kc ≤ 64) (ht : t ≤ kc) : Met l yX3_ackWithoutHalf wsX3_ackWithoutHalf ({ frames := 6, cells := 0, slots := 0, locals := 150 } : Room) (va_Pc [.ref o, .long x, .int num, .int ca] (ck_P (dC, dI) [(cI, .int), (cJ, .long), (cZ, .boolean)] lo sz [(o, .inr (3, [.ref sp, .ref h, .ref cn, .int zs, .int rq, .int ti, .int ct, .int gv, .int bh, .int bc, .int un])), (sp, .inr (2, [.long k, .long l0, .long v0, .long v1, .long v2, .long v3])), (cn, .inr (0, [.ref b1, .ref b2, .int (nI kc), .int (nI t)])), (b1, .inl (cJ, 64, .inr (.inl g1))), (b2, .inl (cI, 64, .inl g2))])) (va_Qi (fun (r : Int32) (u : Int32 × Nat × (Nat → Int64) × (Nat → Int32) × Int64 × Int64 × Int64 × Int64) => (¬ ck_lately gv ti ct ∧ r = 8 ∧ u.2.1 = kc ∧ u.2.2.1 = g1 ∧ u.2.2.2.1 = g2 ∧ u.1 = bc) ∨ (ck_lately gv ti ct ∧ ¬ ck_late k l0 x num (((ca.toUInt32 >>> ((24 : Int32).toUInt32 &&& Int32.toUInt32 31)).toInt32) &&& 7) ti ca ∧ r = 7 ∧ u.2.1 = kc ∧ u.2.2.1 = g1 ∧ u.2.2.2.1 = g2 ∧ u.1 = bc) ∨ (ck_lately gv ti ct ∧ ck_late k l0 x num (((ca.toUInt32 >>> ((24 : Int32).toUInt32 &&& Int32.toUInt32 31)).toInt32) &&& 7) ti ca ∧ ¬ (nI (kc - t) < rq ∧ kc < 64) ∧ r = 6 ∧ u.2.1 = kc ∧ u.2.2.1 = g1 ∧ u.2.2.2.1 = g2 ∧ u.1 = bc) ∨ (ck_lately gv ti ct ∧ ck_late k l0 x num (((ca.toUInt32 >>> ((24 : Int32).toUInt32 &&& Int32.toUInt32 31)).toInt32) &&& 7) ti ca ∧ (nI (kc - t) < rq ∧ kc < 64) ∧ r = 5 ∧ u.2.1 = kc + 1 ∧ u.2.2.1 = vp_updL g1 kc x ∧ u.2.2.2.1 = upd g2 kc (((ca.toUInt32 >>> ((24 : Int32).toUInt32 &&& Int32.toUInt32 31)).toInt32) &&& 7) ∧ u.1 = bc + 1)) (fun u => ck_B (dC, dI) vwCl (va_A [(o, .inr (3, [.ref sp, .ref h, .ref cn, .int zs, .int rq, .int ti, .int ct, .int gv, .int bh, .int bc, .int un])), (sp, .inr (2, [.long k, .long l0, .long v0, .long v1, .long v2, .long v3])), (cn, .inr (0, [.ref b1, .ref b2, .int (nI kc), .int (nI t)])), (b1, .inl (cJ, 64, .inr (.inl g1))), (b2, .inl (cI, 64, .inl g2))] sz) ((fun u : Int32 × Nat × (Nat → Int64) × (Nat → Int32) × Int64 × Int64 × Int64 × Int64 => ([(o, .inr (3, [.ref sp, .ref h, .ref cn, .int zs, .int rq, .int ti, .int ct, .int gv, .int bh, .int u.1, .int un])), (sp, .inr (2, [.long k, .long l0, .long u.2.2.2.2.1, .long u.2.2.2.2.2.1, .long u.2.2.2.2.2.2.1, .long u.2.2.2.2.2.2.2])), (cn, .inr (0, [.ref b1, .ref b2, .int (nI u.2.1), .int (nI t)])), (b1, .inl (cJ, 64, .inr (.inl u.2.2.1))), (b2, .inl (cI, 64, .inl u.2.2.2.1))] : va_W)) u)) (va_A [(o, .inr (3, [.ref sp, .ref h, .ref cn, .int zs, .int rq, .int ti, .int ct, .int gv, .int bh, .int bc, .int un])), (sp, .inr (2, [.long k, .long l0, .long v0, .long v1, .long v2, .long v3])), (cn, .inr (0, [.ref b1, .ref b2, .int (nI kc), .int (nI t)])), (b1, .inl (cJ, 64, .inr (.inl g1))), (b2, .inl (cI, 64, .inl g2))] sz)) 0 0 (va_A [(o, .inr (3, [.ref sp, .ref h, .ref cn, .int zs, .int rq, .int ti, .int ct, .int gv, .int bh, .int bc, .int un])), (sp, .inr (2, [.long k, .long l0, .long v0, .long v1, .long v2, .long v3])), (cn, .inr (0, [.ref b1, .ref b2, .int (nI kc), .int (nI t)])), (b1, .inl (cJ, 64, .inr (.inl g1))), (b2, .inl (cI, 64, .inl g2))] sz) := by
  refine Met.ofW (cc := cX3_ackWithoutHalf) (maxL := 6) (ret := (some .int)) (by decide) rfl ?_
  intro p e s m args below meth c s₁ B hml hv
  obtain ⟨rfl, hsz, hP, hK, hD0, hE⟩ := hv
  have hx := B.exec
  have hb := B.bytes
  have hr := B.returns
  have hts := atoms_spec (ws := wsX3_ackWithoutHalf) B.pre
  have hown : s.vm.findClass RX3 = some m.cls := findClass_of_methodNamed B.named
  have hlocks := B.notSynchronized
  subst hsz
  have hD := hD0.self (sz := s.heap.size)
  have hlo := ck_lo (sz := s.heap.size) hD0 hE.1
  generalize hAe : va_A [(o, .inr (3, [.ref sp, .ref h, .ref cn, .int zs, .int rq, .int ti, .int ct, .int gv, .int bh, .int bc, .int un])), (sp, .inr (2, [.long k, .long l0, .long v0, .long v1, .long v2, .long v3])), (cn, .inr (0, [.ref b1, .ref b2, .int (nI kc), .int (nI t)])), (b1, .inl (cJ, 64, .inr (.inl g1))), (b2, .inl (cI, 64, .inl g2))] s.heap.size = A at hD hlo ⊢
  have hA : ∀ q : Nat, s.heap.size ≤ q → A q := fun q h => by rw [← hAe]; exact Or.inr h
  have hG : ck_G (dC, dI) [(cI, .int), (cJ, .long), (cZ, .boolean)] lo A s := ⟨hK, hE, hA, hlo⟩
  have hS : va_S A s.heap s.heap [] := va_S.rf
  have hP : va_P (dC, dI) vwCl [(o, .inr (3, [.ref sp, .ref h, .ref cn, .int zs, .int rq, .int ti, .int ct, .int gv, .int bh, .int bc, .int un])), (sp, .inr (2, [.long k, .long l0, .long v0, .long v1, .long v2, .long v3])), (cn, .inr (0, [.ref b1, .ref b2, .int (nI kc), .int (nI t)])), (b1, .inl (cJ, 64, .inr (.inl g1))), (b2, .inl (cI, 64, .inl g2))] s.heap := hP
  have hl := lv_entry ([.ref o, .long x, .int num, .int ca]) (n := 6) (Nat.le_of_ble_eq_true rfl)
  rw [lg_entry_eq]
  generalize (lg_sl ([.ref o, .long x, .int num, .int ca]) ++ List.replicate (6 - (lg_sl ([.ref o, .long x, .int num, .int ca])).length) Slot.unset).toArray = ls at hl ⊢
  have hl : lv_has ls 6 [(0, .ref o), (1, .long x), (3, .int num), (4, .int ca)] := hl
  refine lv_aload_n hx hb dX3_ackWithoutHalf_0 rfl (lv_at hl 0 rfl) ?_
  refine ck_ri (va_runV (As := []) (rest := []) ⟨hx, hb, hml, hown, hts⟩ (c_X3_lately l dC dI cI cJ cZ lo _ o sp h cn zs rq ti ct gv bh bc un) (cwV 0 hts gX3_ackWithoutHalf_X3_cookiesGivenLately rfl rfl rfl (by decide +kernel) ⟨(Nat.le_of_ble_eq_true rfl), (Nat.le_of_ble_eq_true rfl)⟩) ⟨ck_blind, va_recv hK hP (ci := 3) (q0 := 0) rfl rfl, (ck_pre hG hP hD hS [0] rfl (by decide) _)⟩ rfl rfl hl.1 rfl (lv_room (Nat.le_of_ble_eq_true rfl)) dX3_ackWithoutHalf_1 ⟨(Nat.le_of_ble_eq_true rfl), (Nat.le_of_ble_eq_true rfl)⟩) (fun r_1 hw_1 => ?_)
  have hw_1 : (r_1 = 1 ∧ ck_lately gv ti ct) ∨ (r_1 = 0 ∧ ¬ ck_lately gv ti ct) := hw_1
  refine lv_if_ne (tgt := 10) hx hb dX3_ackWithoutHalf_4 (by decide) (fun c_4 => ?_) (fun c_4 => ?_)
  · skip
    have b_4 := (hw_1.resolve_right (fun z => c_4 z.1)).2
    refine lv_iload hx hb dX3_ackWithoutHalf_10 (lv_at hl 3 rfl) ?_
    refine lv_bipush (v := 24) hx hb dX3_ackWithoutHalf_12 (by decide) ?_
    refine lv_iushr hx hb dX3_ackWithoutHalf_14 rfl ?_
    refine lv_bipush (v := 7) hx hb dX3_ackWithoutHalf_15 (by decide) ?_
    refine lv_iand hx hb dX3_ackWithoutHalf_17 ?_
    refine lv_topi (fun x_2 ex_2 => ?_)
    refine lv_istore (lv' := [(5, .int x_2), (0, .ref o), (1, .long x), (3, .int num), (4, .int ca)]) hx hb dX3_ackWithoutHalf_18 hl (by decide) rfl (fun ls hl => ?_)
    refine lv_aload_n hx hb dX3_ackWithoutHalf_20 rfl (lv_at hl 1 rfl) ?_
    refine lv_iload hx hb dX3_ackWithoutHalf_21 (lv_at hl 4 rfl) ?_
    refine lv_lload_n hx hb dX3_ackWithoutHalf_23 rfl (lv_at hl 2 rfl) ?_
    refine lv_iload_n hx hb dX3_ackWithoutHalf_24 rfl (lv_at hl 3 rfl) ?_
    refine lv_iload hx hb dX3_ackWithoutHalf_25 (lv_at hl 0 rfl) ?_
    refine ck_ci (wr := [(cn, .inr (0, [.ref b1, .ref b2, .int (nI kc), .int (nI t)])), (b1, .inl (cJ, 64, .inr (.inl g1))), (b2, .inl (cI, 64, .inl g2))]) (va_runV (As := [.int ca, .long x, .int num, .int x_2]) (rest := []) ⟨hx, hb, hml, hown, hts⟩ (c_X3_isLate l dC dI cI cJ cZ lo _ o sp h cn zs rq ti ct gv bh bc un k l0 v0 v1 v2 v3 x num x_2 ca) (cwV 4 hts gX3_ackWithoutHalf_X3_isCookieOfLateSlot rfl rfl rfl (by decide +kernel) ⟨(Nat.le_of_ble_eq_true rfl), (Nat.le_of_ble_eq_true rfl)⟩) ⟨ck_blind, va_recv hK hP (ci := 3) (q0 := 0) rfl rfl, (ck_pre hG hP hD hS [0, 1] rfl (by decide) _)⟩ rfl rfl hl.1 rfl (lv_room (Nat.le_of_ble_eq_true rfl)) dX3_ackWithoutHalf_27 ⟨(Nat.le_of_ble_eq_true rfl), (Nat.le_of_ble_eq_true rfl)⟩) hP hD hS hA [0, 1] [2, 3, 4] rfl rfl (by decide) (by decide) (fun r_3 u H locs hw_3 hP hD hS => ?_)
    obtain ⟨u0_3, u1_3, u2_3, u3_3⟩ := u
    have hw_3 : (r_3 = 1 ∧ ck_late k l0 x num x_2 ti ca) ∨ (r_3 = 0 ∧ ¬ ck_late k l0 x num x_2 ti ca) := hw_3
    have hP : va_P (dC, dI) vwCl [(cn, .inr (0, [.ref b1, .ref b2, .int (nI kc), .int (nI t)])), (b1, .inl (cJ, 64, .inr (.inl g1))), (b2, .inl (cI, 64, .inl g2)), (o, .inr (3, [.ref sp, .ref h, .ref cn, .int zs, .int rq, .int ti, .int ct, .int gv, .int bh, .int bc, .int un])), (sp, .inr (2, [.long k, .long l0, .long u0_3, .long u1_3, .long u2_3, .long u3_3]))] H := hP
    have hD : va_D A [(cn, .inr (0, [.ref b1, .ref b2, .int (nI kc), .int (nI t)])), (b1, .inl (cJ, 64, .inr (.inl g1))), (b2, .inl (cI, 64, .inl g2)), (o, .inr (3, [.ref sp, .ref h, .ref cn, .int zs, .int rq, .int ti, .int ct, .int gv, .int bh, .int bc, .int un])), (sp, .inr (2, [.long k, .long l0, .long u0_3, .long u1_3, .long u2_3, .long u3_3]))] := hD
    refine lv_if_ne (tgt := 36) hx hb dX3_ackWithoutHalf_30 (by decide) (fun c_30 => ?_) (fun c_30 => ?_)
    · skip
      have b_30 := (hw_3.resolve_right (fun z => c_30 z.1)).2
      refine lv_aload_n hx hb dX3_ackWithoutHalf_36 rfl (lv_at hl 1 rfl) ?_
      refine va_get (D := (dC, dI)) (ci := 3) (v := .ref cn) (C := RX3) (T := TX3) (N := 11) hx hb hts (k_X3_ackWithoutHalf_in3) hown hK hP 3 rfl rfl 2 (by decide) (hts _ k_X3_ackWithoutHalf_f26) (fun _ h9 => h9) rfl dX3_ackWithoutHalf_37 ?_
      refine lv_aload_n hx hb dX3_ackWithoutHalf_40 rfl (lv_at hl 1 rfl) ?_
      refine va_get (D := (dC, dI)) (ci := 3) (v := .int rq) (C := RX3) (T := TX3) (N := 11) hx hb hts (k_X3_ackWithoutHalf_in3) hown hK hP 3 rfl rfl 4 (by decide) (hts _ k_X3_ackWithoutHalf_f34) (fun _ h9 => h9) rfl dX3_ackWithoutHalf_41 ?_
      refine ck_ri (va_runV (As := [.int rq]) (rest := []) ⟨hx, hb, hml, hown, hts⟩ (c_X0_hasRoom l dC dI cI cJ cZ lo _ cn b1 b2 kc t g1 g2 rq (by first | assumption | omega) (by first | assumption | omega)) (cwV 1 hts gX3_ackWithoutHalf_X0_hasRoom rfl rfl rfl (by decide +kernel) ⟨(Nat.le_of_ble_eq_true rfl), (Nat.le_of_ble_eq_true rfl)⟩) ⟨ck_blind, va_recv hK hP (ci := 0) (q0 := 0) rfl rfl, (ck_pre hG hP hD hS [0, 1, 2] rfl (by decide) _)⟩ rfl rfl hl.1 rfl (lv_room (Nat.le_of_ble_eq_true rfl)) dX3_ackWithoutHalf_44 ⟨(Nat.le_of_ble_eq_true rfl), (Nat.le_of_ble_eq_true rfl)⟩) (fun r_4 hw_4 => ?_)
      have hw_4 : (r_4 = 1 ∧ nI (kc - t) < rq ∧ kc < 64) ∨ (r_4 = 0 ∧ ¬ (nI (kc - t) < rq ∧ kc < 64)) := hw_4
      refine lv_if_ne (tgt := 53) hx hb dX3_ackWithoutHalf_47 (by decide) (fun c_47 => ?_) (fun c_47 => ?_)
      · skip
        have b_47 := (hw_4.resolve_right (fun z => c_47 z.1)).2
        refine lv_aload_n hx hb dX3_ackWithoutHalf_53 rfl (lv_at hl 1 rfl) ?_
        refine va_get (D := (dC, dI)) (ci := 3) (v := .ref cn) (C := RX3) (T := TX3) (N := 11) hx hb hts (k_X3_ackWithoutHalf_in3) hown hK hP 3 rfl rfl 2 (by decide) (hts _ k_X3_ackWithoutHalf_f26) (fun _ h9 => h9) rfl dX3_ackWithoutHalf_54 ?_
        refine lv_lload_n hx hb dX3_ackWithoutHalf_57 rfl (lv_at hl 2 rfl) ?_
        refine lv_iload hx hb dX3_ackWithoutHalf_58 (lv_at hl 0 rfl) ?_
        refine ck_cv (wr := [(o, .inr (3, [.ref sp, .ref h, .ref cn, .int zs, .int rq, .int ti, .int ct, .int gv, .int bh, .int bc, .int un])), (sp, .inr (2, [.long k, .long l0, .long u0_3, .long u1_3, .long u2_3, .long u3_3]))]) (va_runV (As := [.long x, .int x_2]) (rest := []) ⟨hx, hb, hml, hown, hts⟩ (c_X0_add l dC dI cI cJ cZ lo _ cn b1 b2 kc t g1 g2 x x_2 (b_47.2) (by first | assumption | omega)) (cwV 2 hts gX3_ackWithoutHalf_X0_add rfl rfl rfl (by decide +kernel) ⟨(Nat.le_of_ble_eq_true rfl), (Nat.le_of_ble_eq_true rfl)⟩) ⟨ck_blind, va_recv hK hP (ci := 0) (q0 := 0) rfl rfl, (ck_pre hG hP hD hS [0, 1, 2] rfl (by decide) _)⟩ rfl rfl hl.1 rfl (lv_room (Nat.le_of_ble_eq_true rfl)) dX3_ackWithoutHalf_60 ⟨(Nat.le_of_ble_eq_true rfl), (Nat.le_of_ble_eq_true rfl)⟩) hP hD hS hA [0, 1, 2] [3, 4] rfl rfl (by decide) (by decide) (fun u H locs hw_5 hP hD hS => ?_)
        have hP : va_P (dC, dI) vwCl [(o, .inr (3, [.ref sp, .ref h, .ref cn, .int zs, .int rq, .int ti, .int ct, .int gv, .int bh, .int bc, .int un])), (sp, .inr (2, [.long k, .long l0, .long u0_3, .long u1_3, .long u2_3, .long u3_3])), (cn, .inr (0, [.ref b1, .ref b2, .int (nI (kc + 1)), .int (nI t)])), (b1, .inl (cJ, 64, .inr (.inl (vp_updL g1 kc x)))), (b2, .inl (cI, 64, .inl (upd g2 kc x_2)))] H := hP
        have hD : va_D A [(o, .inr (3, [.ref sp, .ref h, .ref cn, .int zs, .int rq, .int ti, .int ct, .int gv, .int bh, .int bc, .int un])), (sp, .inr (2, [.long k, .long l0, .long u0_3, .long u1_3, .long u2_3, .long u3_3])), (cn, .inr (0, [.ref b1, .ref b2, .int (nI (kc + 1)), .int (nI t)])), (b1, .inl (cJ, 64, .inr (.inl (vp_updL g1 kc x)))), (b2, .inl (cI, 64, .inl (upd g2 kc x_2)))] := hD
        refine lv_aload_n hx hb dX3_ackWithoutHalf_63 rfl (lv_at hl 1 rfl) ?_
        refine lv_dup hx hb dX3_ackWithoutHalf_64 rfl ?_
        refine va_get (D := (dC, dI)) (ci := 3) (v := .int bc) (C := RX3) (T := TX3) (N := 11) hx hb hts (k_X3_ackWithoutHalf_in3) hown hK hP 0 rfl rfl 9 (by decide) (hts _ k_X3_ackWithoutHalf_f49) (fun _ h9 => h9) rfl dX3_ackWithoutHalf_65 ?_
        refine lv_iconst (v := 1) hx hb dX3_ackWithoutHalf_68 (by decide) ?_
        refine lv_iadd hx hb dX3_ackWithoutHalf_69 ?_
        refine lv_topi (fun x_6 ex_6 => ?_)
        refine va_put (D := (dC, dI)) (ci := 3) (v := .int x_6) (ty := .int) (C := RX3) (T := TX3) (N := 11) hx hb hts (k_X3_ackWithoutHalf_in3) tyX3 tyX3_ok nmX3 hown hK hP hD hS 0 rfl rfl 9 (by decide) (hts _ k_X3_ackWithoutHalf_f49) (fun _ h9 => h9) rfl (by decide +kernel) rfl rfl (Nat.le_of_ble_eq_true rfl) dX3_ackWithoutHalf_70 (fun H locs hP hD hS => ?_)
        have hP : va_P (dC, dI) vwCl [(o, .inr (3, [.ref sp, .ref h, .ref cn, .int zs, .int rq, .int ti, .int ct, .int gv, .int bh, .int x_6, .int un])), (sp, .inr (2, [.long k, .long l0, .long u0_3, .long u1_3, .long u2_3, .long u3_3])), (cn, .inr (0, [.ref b1, .ref b2, .int (nI (kc + 1)), .int (nI t)])), (b1, .inl (cJ, 64, .inr (.inl (vp_updL g1 kc x)))), (b2, .inl (cI, 64, .inl (upd g2 kc x_2)))] H := hP
        have hD : va_D A [(o, .inr (3, [.ref sp, .ref h, .ref cn, .int zs, .int rq, .int ti, .int ct, .int gv, .int bh, .int x_6, .int un])), (sp, .inr (2, [.long k, .long l0, .long u0_3, .long u1_3, .long u2_3, .long u3_3])), (cn, .inr (0, [.ref b1, .ref b2, .int (nI (kc + 1)), .int (nI t)])), (b1, .inl (cJ, 64, .inr (.inl (vp_updL g1 kc x)))), (b2, .inl (cI, 64, .inl (upd g2 kc x_2)))] := hD
        refine lv_iconst (v := 5) hx hb dX3_ackWithoutHalf_73 (by decide) ?_
        refine ck_ir hx hb hr hlocks (Nat.le_of_ble_eq_true rfl) (Nat.le_of_ble_eq_true rfl) dX3_ackWithoutHalf_74 (x_6, kc + 1, vp_updL g1 kc x, upd g2 kc x_2, u0_3, u1_3, u2_3, u3_3) hP hD hS ?_
        subst_vars
        exact Or.inr (Or.inr (Or.inr ⟨b_4, b_30, b_47, rfl, rfl, rfl, rfl, rfl⟩))
      · skip
        have b_47 := (hw_4.resolve_left (fun z => absurd (z.1.symm.trans c_47) (by decide))).2
        refine lv_bipush (v := 6) hx hb dX3_ackWithoutHalf_50 (by decide) ?_
        refine ck_ir hx hb hr hlocks (Nat.le_of_ble_eq_true rfl) (Nat.le_of_ble_eq_true rfl) dX3_ackWithoutHalf_52 (bc, kc, g1, g2, u0_3, u1_3, u2_3, u3_3) (hP.sub [3, 4, 0, 1, 2] rfl) (hD.sub [3, 4, 0, 1, 2] (by decide) rfl) hS ?_
        subst_vars
        exact Or.inr (Or.inr (Or.inl ⟨b_4, b_30, b_47, rfl, rfl, rfl, rfl, rfl⟩))
    · skip
      have b_30 := (hw_3.resolve_left (fun z => absurd (z.1.symm.trans c_30) (by decide))).2
      refine lv_bipush (v := 7) hx hb dX3_ackWithoutHalf_33 (by decide) ?_
      refine ck_ir hx hb hr hlocks (Nat.le_of_ble_eq_true rfl) (Nat.le_of_ble_eq_true rfl) dX3_ackWithoutHalf_35 (bc, kc, g1, g2, u0_3, u1_3, u2_3, u3_3) (hP.sub [3, 4, 0, 1, 2] rfl) (hD.sub [3, 4, 0, 1, 2] (by decide) rfl) hS ?_
      subst_vars
      exact Or.inr (Or.inl ⟨b_4, b_30, rfl, rfl, rfl, rfl, rfl⟩)
  · skip
    have b_4 := (hw_1.resolve_left (fun z => absurd (z.1.symm.trans c_4) (by decide))).2
    refine lv_bipush (v := 8) hx hb dX3_ackWithoutHalf_7 (by decide) ?_
    refine ck_ir hx hb hr hlocks (Nat.le_of_ble_eq_true rfl) (Nat.le_of_ble_eq_true rfl) dX3_ackWithoutHalf_9 (bc, kc, g1, g2, v0, v1, v2, v3) hP hD hS ?_
    exact Or.inl ⟨b_4, rfl, rfl, rfl, rfl, rfl⟩
end
section
def ck_lft (n : Nat) (F : Nat → ck_R5) (x : Int64) (num : Int32) (n1 : Nat) (F1 : Nat → ck_R5) : Prop :=
  ((∀ i, i < n → (F i).1 ≠ x) ∧ n1 = n ∧ F1 = F) ∨ ∃ j, j < n ∧ (F j).1 = x ∧ (F j).2.1 ≠ num ∧ n = n1 + 1 ∧ ck_gone n1 F F1 j
theorem ck_addR (f1 : Nat → Int64) (f2 f3 f4 f5 : Nat → Int32) (n : Nat) (x : Int64) (a b d g : Int32) : ck_L (n + 1) (ck_R (vp_updL f1 n x) (upd f2 n a) (upd f3 n b) (upd f4 n d) (upd f5 n g)) = ck_L n (ck_R f1 f2 f3 f4 f5) ++ [(x, a, b, d, g)] := by
  rw [ck_L_S]
  congr 1
  · exact ck_L_congr fun q hq => by simp [ck_R, vp_updL, upd, Nat.ne_of_lt hq]
  · simp [ck_R, vp_updL, upd]
def ck_tld (w n wt kc : Nat) (gv bh bc un ti : Int32) : Int32 := match w with
  | 0 => nI n
  | 1 => nI wt
  | 2 => nI kc
  | 3 => gv
  | 4 => bh
  | 5 => bc
  | 6 => un
  | _ => ti
set_option maxHeartbeats 4000000 in
set_option maxRecDepth 100000 in
theorem c_X3_requireWithin (l : Launch) (dC : Nat → ClassId) (dI : Nat → Nat → Nat) (cI cJ cZ : ClassId) (lo sz : Nat) (vv le mo : Int32) (h1 : le ≤ vv) (h2 : vv ≤ mo) : Met l yX3_requireWithin wsX3_requireWithin ({ frames := 0, cells := 0, slots := 0, locals := 0 } : Room) (va_Pc [.int vv, .int le, .int mo] (ck_P (dC, dI) [(cI, .int), (cJ, .long), (cZ, .boolean)] lo sz [])) (va_Sv (fun (_ : Unit) => True)) 0 0 (fun _ => False) := by
  refine Met.ofW (cc := cX3_requireWithin) (maxL := 3) (ret := none) (by decide) rfl ?_
  intro p e s m args below meth c s₁ B hml hv
  obtain ⟨rfl, hsz, hP, hK, hD0, hE⟩ := hv
  have hx := B.exec
  have hb := B.bytes
  have hr := B.returns
  have hts := atoms_spec (ws := wsX3_requireWithin) B.pre
  have hown : s.vm.findClass RX3 = some m.cls := findClass_of_methodNamed B.named
  have hlocks := B.notSynchronized
  subst hsz
  have hD := hD0.self (sz := s.heap.size)
  have hlo := ck_lo (sz := s.heap.size) hD0 hE.1
  generalize hAe : va_A [] s.heap.size = A at hD hlo
  have hA : ∀ q : Nat, s.heap.size ≤ q → A q := fun q h => by rw [← hAe]; exact Or.inr h
  have hG : ck_G (dC, dI) [(cI, .int), (cJ, .long), (cZ, .boolean)] lo A s := ⟨hK, hE, hA, hlo⟩
  have hS : va_S A s.heap s.heap [] := va_S.rf
  have hP : va_P (dC, dI) vwCl [] s.heap := hP
  have hl := lv_entry ([.int vv, .int le, .int mo]) (n := 3) (Nat.le_of_ble_eq_true rfl)
  rw [lg_entry_eq]
  generalize (lg_sl ([.int vv, .int le, .int mo]) ++ List.replicate (3 - (lg_sl ([.int vv, .int le, .int mo])).length) Slot.unset).toArray = ls at hl ⊢
  have hl : lv_has ls 3 [(0, .int vv), (1, .int le), (2, .int mo)] := hl
  refine lv_iload_n hx hb dX3_requireWithin_0 rfl (lv_at hl 0 rfl) ?_
  refine lv_iload_n hx hb dX3_requireWithin_1 rfl (lv_at hl 1 rfl) ?_
  refine lv_icmp_lt (tgt := 10) hx hb dX3_requireWithin_2 (by decide) (fun c_2 => ?_) (fun c_2 => ?_)
  · skip
    exact absurd c_2 (Int32.not_lt.mpr h1)
  · skip
    refine lv_iload_n hx hb dX3_requireWithin_5 rfl (lv_at hl 0 rfl) ?_
    refine lv_iload_n hx hb dX3_requireWithin_6 rfl (lv_at hl 2 rfl) ?_
    refine lv_icmp_le (tgt := 20) hx hb dX3_requireWithin_7 (by decide) (fun c_7 => ?_) (fun c_7 => ?_)
    · skip
      refine ck_vq hx hb hr hlocks dX3_requireWithin_20 ?_
      exact trivial
    · skip
      exact absurd h2 c_7
set_option maxRecDepth 20000 in
theorem k_X3_requireWithin_kIAE : (.classLink RX3 144 ck_IAE : Cond) ∈ wsX3_requireWithin := by decide +kernel
set_option maxRecDepth 20000 in
theorem k_X3_requireWithin_iIAE : (.initialized ck_IAE : Cond) ∈ wsX3_requireWithin := by decide +kernel
set_option maxHeartbeats 4000000 in
set_option maxRecDepth 100000 in
theorem t_X3_requireWithin (l : Launch) (dC : Nat → ClassId) (dI : Nat → Nat → Nat) (cI cJ cZ : ClassId) (lo sz : Nat) (vv le mo : Int32) (hst : l.stackTraces = false) (hbad : ¬ (le ≤ vv ∧ vv ≤ mo)) : vx_Met l yX3_requireWithin wsX3_requireWithin ({ frames := 6, cells := 1, slots := 6, locals := 90 } : Room) (va_Pc [.int vv, .int le, .int mo] (ck_P (dC, dI) [(cI, .int), (cJ, .long), (cZ, .boolean)] lo sz [])) ck_QF ck_XC 1 6 (fun _ => False) := by
  refine vx_ofW (cc := cX3_requireWithin) (maxL := 3) (ret := none) (by decide) rfl ?_
  intro p e s m args below meth c s₁ B hml hne hv
  obtain ⟨rfl, hsz, hP, hK, hD0, hE⟩ := hv
  have hx := B.exec
  have hb := B.bytes
  have hr := B.returns
  have hts := atoms_spec (ws := wsX3_requireWithin) B.pre
  have hown : s.vm.findClass RX3 = some m.cls := findClass_of_methodNamed B.named
  have hlocks := B.notSynchronized
  subst hsz
  have hD := hD0.self (sz := s.heap.size)
  have hlo := ck_lo (sz := s.heap.size) hD0 hE.1
  generalize hAe : va_A [] s.heap.size = A at hD hlo
  have hA : ∀ q : Nat, s.heap.size ≤ q → A q := fun q h => by rw [← hAe]; exact Or.inr h
  have hG : ck_G (dC, dI) [(cI, .int), (cJ, .long), (cZ, .boolean)] lo A s := ⟨hK, hE, hA, hlo⟩
  have hS : va_S A s.heap s.heap [] := va_S.rf
  have hP : va_P (dC, dI) vwCl [] s.heap := hP
  have hl := lv_entry ([.int vv, .int le, .int mo]) (n := 3) (Nat.le_of_ble_eq_true rfl)
  rw [lg_entry_eq]
  generalize (lg_sl ([.int vv, .int le, .int mo]) ++ List.replicate (3 - (lg_sl ([.int vv, .int le, .int mo])).length) Slot.unset).toArray = ls at hl ⊢
  have hl : lv_has ls 3 [(0, .int vv), (1, .int le), (2, .int mo)] := hl
  refine lv_iload_n hx hb dX3_requireWithin_0 rfl (lv_at hl 0 rfl) ?_
  refine lv_iload_n hx hb dX3_requireWithin_1 rfl (lv_at hl 1 rfl) ?_
  refine lv_icmp_lt (tgt := 10) hx hb dX3_requireWithin_2 (by decide) (fun c_2 => ?_) (fun c_2 => ?_)
  · skip
    obtain ⟨sa, hstr⟩ := hE.2.2.2.2.1
    exact ck_tn hst hx hb hown hE (hts _ k_X3_requireWithin_kIAE) (hts _ k_X3_requireWithin_iIAE) hstr (fun w9 h9 => hts w9 (List.mem_cons_of_mem _ (List.mem_append_right _ h9))) hne hlocks (by rw [hml]; exact hl.1) dX3_requireWithin_10 dX3_requireWithin_13 dX3_requireWithin_14 dX3_requireWithin_16 dX3_requireWithin_19 (Nat.le_of_ble_eq_true rfl) (Nat.le_of_ble_eq_true rfl) (Nat.le_of_ble_eq_true rfl) (Nat.le_of_ble_eq_true rfl)
  · skip
    refine lv_iload_n hx hb dX3_requireWithin_5 rfl (lv_at hl 0 rfl) ?_
    refine lv_iload_n hx hb dX3_requireWithin_6 rfl (lv_at hl 2 rfl) ?_
    refine lv_icmp_le (tgt := 20) hx hb dX3_requireWithin_7 (by decide) (fun c_7 => ?_) (fun c_7 => ?_)
    · skip
      exact absurd ⟨Int32.not_lt.mp c_2, c_7⟩ hbad
    · skip
      obtain ⟨sa, hstr⟩ := hE.2.2.2.2.1
      exact ck_tn hst hx hb hown hE (hts _ k_X3_requireWithin_kIAE) (hts _ k_X3_requireWithin_iIAE) hstr (fun w9 h9 => hts w9 (List.mem_cons_of_mem _ (List.mem_append_right _ h9))) hne hlocks (by rw [hml]; exact hl.1) dX3_requireWithin_10 dX3_requireWithin_13 dX3_requireWithin_14 dX3_requireWithin_16 dX3_requireWithin_19 (Nat.le_of_ble_eq_true rfl) (Nat.le_of_ble_eq_true rfl) (Nat.le_of_ble_eq_true rfl) (Nat.le_of_ble_eq_true rfl)
set_option maxRecDepth 20000 in
theorem k_X3_init_l1 : (.methodLink RX3 1 objectInit : Cond) ∈ wsX3_init := by decide +kernel
set_option maxRecDepth 20000 in
theorem k_X3_init_mObj : (.instanceMethod objectInit : Cond) ∈ wsX3_init := by decide +kernel
set_option maxRecDepth 20000 in
theorem k_X3_init_cObj : (.code objectInit ⟨#[0xb1]⟩ 1 none : Cond) ∈ wsX3_init := by decide +kernel
set_option maxRecDepth 20000 in
theorem k_X3_init_in2 : ∀ w ∈ u_ws RX2 TX2 6, w ∈ wsX3_init := by decide +kernel
set_option maxRecDepth 20000 in
theorem k_X3_init_k7 : (.classLink RX3 7 RX2 : Cond) ∈ wsX3_init := by decide +kernel
set_option maxRecDepth 20000 in
theorem k_X3_init_n2 : (.instantiable RX2 6 : Cond) ∈ wsX3_init := by decide +kernel
set_option maxRecDepth 20000 in
theorem k_X3_init_i2 : (.initialized RX2 : Cond) ∈ wsX3_init := by decide +kernel
set_option maxRecDepth 20000 in
theorem k_X3_init_iyX2_init : (.initialized RX2 : Cond) ∈ wsX3_init := by decide +kernel
set_option maxRecDepth 20000 in
theorem k_X3_init_myX2_init : (.instanceMethod yX2_init : Cond) ∈ wsX3_init := by decide +kernel
set_option maxRecDepth 20000 in
theorem k_X3_init_f10 : (.fieldLink RX3 10 "CookieListener" "sip" "LCookieListener$SipHash;" : Cond) ∈ wsX3_init := by decide +kernel
set_option maxRecDepth 20000 in
theorem k_X3_init_in3 : ∀ w ∈ u_ws RX3 TX3 11, w ∈ wsX3_init := by decide +kernel
set_option maxRecDepth 20000 in
theorem k_X3_init_in1 : ∀ w ∈ u_ws RX1 TX1 6, w ∈ wsX3_init := by decide +kernel
set_option maxRecDepth 20000 in
theorem k_X3_init_k16 : (.classLink RX3 16 RX1 : Cond) ∈ wsX3_init := by decide +kernel
set_option maxRecDepth 20000 in
theorem k_X3_init_n1 : (.instantiable RX1 6 : Cond) ∈ wsX3_init := by decide +kernel
set_option maxRecDepth 20000 in
theorem k_X3_init_i1 : (.initialized RX1 : Cond) ∈ wsX3_init := by decide +kernel
set_option maxRecDepth 20000 in
theorem k_X3_init_iyX1_init : (.initialized RX1 : Cond) ∈ wsX3_init := by decide +kernel
set_option maxRecDepth 20000 in
theorem k_X3_init_myX1_init : (.instanceMethod yX1_init : Cond) ∈ wsX3_init := by decide +kernel
set_option maxRecDepth 20000 in
theorem k_X3_init_f19 : (.fieldLink RX3 19 "CookieListener" "halves" "LCookieListener$Halves;" : Cond) ∈ wsX3_init := by decide +kernel
set_option maxRecDepth 20000 in
theorem k_X3_init_in0 : ∀ w ∈ u_ws RX0 TX0 4, w ∈ wsX3_init := by decide +kernel
set_option maxRecDepth 20000 in
theorem k_X3_init_k23 : (.classLink RX3 23 RX0 : Cond) ∈ wsX3_init := by decide +kernel
set_option maxRecDepth 20000 in
theorem k_X3_init_n0 : (.instantiable RX0 4 : Cond) ∈ wsX3_init := by decide +kernel
set_option maxRecDepth 20000 in
theorem k_X3_init_i0 : (.initialized RX0 : Cond) ∈ wsX3_init := by decide +kernel
set_option maxRecDepth 20000 in
theorem k_X3_init_iyX0_init : (.initialized RX0 : Cond) ∈ wsX3_init := by decide +kernel
set_option maxRecDepth 20000 in
theorem k_X3_init_myX0_init : (.instanceMethod yX0_init : Cond) ∈ wsX3_init := by decide +kernel
set_option maxRecDepth 20000 in
theorem k_X3_init_f26 : (.fieldLink RX3 26 "CookieListener" "connections" "LCookieListener$Connections;" : Cond) ∈ wsX3_init := by decide +kernel
set_option maxRecDepth 20000 in
theorem k_X3_init_f30 : (.fieldLink RX3 30 "CookieListener" "sizeOfHalves" "I" : Cond) ∈ wsX3_init := by decide +kernel
set_option maxRecDepth 20000 in
theorem k_X3_init_f34 : (.fieldLink RX3 34 "CookieListener" "roomOfQueue" "I" : Cond) ∈ wsX3_init := by decide +kernel
set_option maxRecDepth 20000 in
theorem k_X3_init_f37 : (.fieldLink RX3 37 "CookieListener" "time" "I" : Cond) ∈ wsX3_init := by decide +kernel
set_option maxRecDepth 20000 in
theorem k_X3_init_f40 : (.fieldLink RX3 40 "CookieListener" "cookiesTime" "I" : Cond) ∈ wsX3_init := by decide +kernel
set_option maxRecDepth 20000 in
theorem k_X3_init_f43 : (.fieldLink RX3 43 "CookieListener" "cookiesGiven" "I" : Cond) ∈ wsX3_init := by decide +kernel
set_option maxRecDepth 20000 in
theorem k_X3_init_f46 : (.fieldLink RX3 46 "CookieListener" "openedByHalves" "I" : Cond) ∈ wsX3_init := by decide +kernel
set_option maxRecDepth 20000 in
theorem k_X3_init_f49 : (.fieldLink RX3 49 "CookieListener" "openedByCookies" "I" : Cond) ∈ wsX3_init := by decide +kernel
set_option maxRecDepth 20000 in
theorem k_X3_init_f52 : (.fieldLink RX3 52 "CookieListener" "unproven" "I" : Cond) ∈ wsX3_init := by decide +kernel
set_option maxHeartbeats 4000000 in
set_option maxRecDepth 100000 in
theorem c_X3_init (l : Launch) (dC : Nat → ClassId) (dI : Nat → Nat → Nat) (cI cJ cZ : ClassId) (lo sz : Nat) (o : Nat) : Met l yX3_init wsX3_init ({ frames := 2, cells := 10, slots := 304, locals := 40 } : Room) (va_Pc [.ref o] (ck_P (dC, dI) [(cI, .int), (cJ, .long), (cZ, .boolean)] lo sz [(o, .inr (3, [.null, .null, .null, .int 0, .int 0, .int 0, .int 0, .int 0, .int 0, .int 0, .int 0]))])) (va_Qv (fun (u : Nat × Nat × Nat × Nat × Nat × Nat × Nat × Nat × Nat × Nat) => True) (fun u => ck_B (dC, dI) vwCl (va_A [(o, .inr (3, [.null, .null, .null, .int 0, .int 0, .int 0, .int 0, .int 0, .int 0, .int 0, .int 0]))] sz) ((fun u : Nat × Nat × Nat × Nat × Nat × Nat × Nat × Nat × Nat × Nat => ([(o, .inr (3, [.ref u.1, .ref u.2.1, .ref u.2.2.2.2.2.2.2.1, .int 4, .int 2, .int 0, .int 0, .int 0, .int 0, .int 0, .int 0])), (u.1, .inr (2, [.long 0, .long 0, .long 0, .long 0, .long 0, .long 0])), (u.2.1, .inr (1, [.ref u.2.2.1, .ref u.2.2.2.1, .ref u.2.2.2.2.1, .ref u.2.2.2.2.2.1, .ref u.2.2.2.2.2.2.1, .int (nI 0)])), (u.2.2.1, .inl (cJ, 32, .inr (.inl (fun _ => 0)))), (u.2.2.2.1, .inl (cI, 32, .inl (fun _ => 0))), (u.2.2.2.2.1, .inl (cI, 32, .inl (fun _ => 0))), (u.2.2.2.2.2.1, .inl (cI, 32, .inl (fun _ => 0))), (u.2.2.2.2.2.2.1, .inl (cI, 32, .inl (fun _ => 0))), (u.2.2.2.2.2.2.2.1, .inr (0, [.ref u.2.2.2.2.2.2.2.2.1, .ref u.2.2.2.2.2.2.2.2.2, .int (nI 0), .int (nI 0)])), (u.2.2.2.2.2.2.2.2.1, .inl (cJ, 64, .inr (.inl (fun _ => 0)))), (u.2.2.2.2.2.2.2.2.2, .inl (cI, 64, .inl (fun _ => 0)))] : va_W)) u)) (va_A [(o, .inr (3, [.null, .null, .null, .int 0, .int 0, .int 0, .int 0, .int 0, .int 0, .int 0, .int 0]))] sz)) 10 304 (va_A [(o, .inr (3, [.null, .null, .null, .int 0, .int 0, .int 0, .int 0, .int 0, .int 0, .int 0, .int 0]))] sz) := by
  refine Met.ofW (cc := cX3_init) (maxL := 1) (ret := none) (by decide) rfl ?_
  intro p e s m args below meth c s₁ B hml hv
  obtain ⟨rfl, hsz, hP, hK, hD0, hE⟩ := hv
  have hx := B.exec
  have hb := B.bytes
  have hr := B.returns
  have hts := atoms_spec (ws := wsX3_init) B.pre
  have hown : s.vm.findClass RX3 = some m.cls := findClass_of_methodNamed B.named
  have hlocks := B.notSynchronized
  have hin : meth.name = "<init>" := (name_of_methodNamed B.named B.method).1
  subst hsz
  have hD := hD0.self (sz := s.heap.size)
  have hlo := ck_lo (sz := s.heap.size) hD0 hE.1
  generalize hAe : va_A [(o, .inr (3, [.null, .null, .null, .int 0, .int 0, .int 0, .int 0, .int 0, .int 0, .int 0, .int 0]))] s.heap.size = A at hD hlo ⊢
  have hA : ∀ q : Nat, s.heap.size ≤ q → A q := fun q h => by rw [← hAe]; exact Or.inr h
  have hG : ck_G (dC, dI) [(cI, .int), (cJ, .long), (cZ, .boolean)] lo A s := ⟨hK, hE, hA, hlo⟩
  have hS : va_S A s.heap s.heap [] := va_S.rf
  have hP : va_P (dC, dI) vwCl [(o, .inr (3, [.null, .null, .null, .int 0, .int 0, .int 0, .int 0, .int 0, .int 0, .int 0, .int 0]))] s.heap := hP
  have hl := lv_entry ([.ref o]) (n := 1) (Nat.le_of_ble_eq_true rfl)
  rw [lg_entry_eq]
  generalize (lg_sl ([.ref o]) ++ List.replicate (1 - (lg_sl ([.ref o])).length) Slot.unset).toArray = ls at hl ⊢
  have hl : lv_has ls 1 [(0, .ref o)] := hl
  refine lv_aload_n hx hb dX3_init_0 rfl (lv_at hl 0 rfl) ?_
  refine W.objInit hx hb hown (hts _ k_X3_init_l1) (hts _ k_X3_init_mObj) (hts _ k_X3_init_cObj) rfl (by rw [hml]; exact hl.1) rfl dX3_init_1 (Nat.le_of_ble_eq_true rfl) (Nat.le_of_ble_eq_true rfl) ?_
  refine W.eq (g2 := F0 m 4 ls []) rfl ?_
  refine lv_aload_n hx hb dX3_init_4 rfl (lv_at hl 0 rfl) ?_
  refine va_new (ci := 2) (fs := [.long 0, .long 0, .long 0, .long 0, .long 0, .long 0]) (C := RX2) (T := TX2) (N := 6) hx hb hts (k_X3_init_in2) tyX2 tyX2_ok hown (hts _ k_X3_init_k7) (hts _ k_X3_init_n2) (hts _ k_X3_init_i2) hK hP hD hS hA rfl (by decide +kernel) (Nat.le_of_ble_eq_true rfl) (Nat.le_of_ble_eq_true rfl) dX3_init_5 (fun q_1 H hP hD hS => ?_)
  refine W.widen (k := 1) (n := 6) (by omega) (by omega) ?_
  have hP : va_P (dC, dI) vwCl [(o, .inr (3, [.null, .null, .null, .int 0, .int 0, .int 0, .int 0, .int 0, .int 0, .int 0, .int 0])), (q_1, .inr (2, [.long 0, .long 0, .long 0, .long 0, .long 0, .long 0]))] H := hP
  have hD : va_D A [(o, .inr (3, [.null, .null, .null, .int 0, .int 0, .int 0, .int 0, .int 0, .int 0, .int 0, .int 0])), (q_1, .inr (2, [.long 0, .long 0, .long 0, .long 0, .long 0, .long 0]))] := hD
  refine lv_dup hx hb dX3_init_8 rfl ?_
  refine ck_cv (wr := [(o, .inr (3, [.null, .null, .null, .int 0, .int 0, .int 0, .int 0, .int 0, .int 0, .int 0, .int 0]))]) (va_runIN (As := []) (rest := [.ref q_1, .ref o]) ⟨hx, hb, hml, hown, hts⟩ (c_X2_init l dC dI cI cJ cZ lo _ q_1) (⟨va_cnB 0 hts gX3_init_X2_init_n9 rfl rfl rfl (hE.2.1.2.2.2.2.2.2.2.2.2.2) (hts _ k_X3_init_iyX2_init) (by decide +kernel) ⟨(Nat.le_of_ble_eq_true rfl), (Nat.le_of_ble_eq_true rfl)⟩, rfl, hts _ k_X3_init_myX2_init⟩) ⟨ck_blind, (ck_pre hG hP hD hS [1] rfl (by decide) _)⟩ rfl rfl hl.1 rfl (lv_room (Nat.le_of_ble_eq_true rfl)) dX3_init_9 ⟨(Nat.le_of_ble_eq_true rfl), (Nat.le_of_ble_eq_true rfl)⟩) hP hD hS hA [1] [0] rfl rfl (by decide) (by decide) (fun u H locs hw_2 hP hD hS => ?_)
  have hP : va_P (dC, dI) vwCl [(o, .inr (3, [.null, .null, .null, .int 0, .int 0, .int 0, .int 0, .int 0, .int 0, .int 0, .int 0])), (q_1, .inr (2, [.long 0, .long 0, .long 0, .long 0, .long 0, .long 0]))] H := hP
  have hD : va_D A [(o, .inr (3, [.null, .null, .null, .int 0, .int 0, .int 0, .int 0, .int 0, .int 0, .int 0, .int 0])), (q_1, .inr (2, [.long 0, .long 0, .long 0, .long 0, .long 0, .long 0]))] := hD
  refine va_putF (D := (dC, dI)) (ci := 3) (v := .ref q_1) (ty := .object "CookieListener$SipHash") (C := RX3) (T := TX3) (N := 11) hx hb hts (k_X3_init_in3) tyX3 tyX3_ok nmX3 hown hK hP hD hS 0 rfl rfl 0 (by decide) (hts _ k_X3_init_f10) (fun _ h9 => h9) rfl hin rfl (by decide +kernel) rfl rfl (Nat.le_of_ble_eq_true rfl) dX3_init_12 (fun H locs hP hD hS => ?_)
  have hP : va_P (dC, dI) vwCl [(o, .inr (3, [.ref q_1, .null, .null, .int 0, .int 0, .int 0, .int 0, .int 0, .int 0, .int 0, .int 0])), (q_1, .inr (2, [.long 0, .long 0, .long 0, .long 0, .long 0, .long 0]))] H := hP
  have hD : va_D A [(o, .inr (3, [.ref q_1, .null, .null, .int 0, .int 0, .int 0, .int 0, .int 0, .int 0, .int 0, .int 0])), (q_1, .inr (2, [.long 0, .long 0, .long 0, .long 0, .long 0, .long 0]))] := hD
  refine lv_aload_n hx hb dX3_init_15 rfl (lv_at hl 0 rfl) ?_
  refine va_new (ci := 1) (fs := [.null, .null, .null, .null, .null, .int 0]) (C := RX1) (T := TX1) (N := 6) hx hb hts (k_X3_init_in1) tyX1 tyX1_ok hown (hts _ k_X3_init_k16) (hts _ k_X3_init_n1) (hts _ k_X3_init_i1) hK hP hD hS hA rfl (by decide +kernel) (Nat.le_of_ble_eq_true rfl) (Nat.le_of_ble_eq_true rfl) dX3_init_16 (fun q_3 H hP hD hS => ?_)
  refine W.widen (k := 2) (n := 12) (by omega) (by omega) ?_
  have hP : va_P (dC, dI) vwCl [(o, .inr (3, [.ref q_1, .null, .null, .int 0, .int 0, .int 0, .int 0, .int 0, .int 0, .int 0, .int 0])), (q_1, .inr (2, [.long 0, .long 0, .long 0, .long 0, .long 0, .long 0])), (q_3, .inr (1, [.null, .null, .null, .null, .null, .int 0]))] H := hP
  have hD : va_D A [(o, .inr (3, [.ref q_1, .null, .null, .int 0, .int 0, .int 0, .int 0, .int 0, .int 0, .int 0, .int 0])), (q_1, .inr (2, [.long 0, .long 0, .long 0, .long 0, .long 0, .long 0])), (q_3, .inr (1, [.null, .null, .null, .null, .null, .int 0]))] := hD
  refine lv_dup hx hb dX3_init_19 rfl ?_
  refine ck_cv (wr := [(o, .inr (3, [.ref q_1, .null, .null, .int 0, .int 0, .int 0, .int 0, .int 0, .int 0, .int 0, .int 0])), (q_1, .inr (2, [.long 0, .long 0, .long 0, .long 0, .long 0, .long 0]))]) (va_runIN (As := []) (rest := [.ref q_3, .ref o]) ⟨hx, hb, hml, hown, hts⟩ (c_X1_init l dC dI cI cJ cZ lo _ q_3) (⟨va_cnB 0 hts gX3_init_X1_init_n18 rfl rfl rfl (hE.2.1.2.2.2.2.2.2.2.2.1) (hts _ k_X3_init_iyX1_init) (by decide +kernel) ⟨(Nat.le_of_ble_eq_true rfl), (Nat.le_of_ble_eq_true rfl)⟩, rfl, hts _ k_X3_init_myX1_init⟩) ⟨ck_blind, (ck_pre hG hP hD hS [2] rfl (by decide) _)⟩ rfl rfl hl.1 rfl (lv_room (Nat.le_of_ble_eq_true rfl)) dX3_init_20 ⟨(Nat.le_of_ble_eq_true rfl), (Nat.le_of_ble_eq_true rfl)⟩) hP hD hS hA [2] [0, 1] rfl rfl (by decide) (by decide) (fun u H locs hw_4 hP hD hS => ?_)
  obtain ⟨a1_4, a2_4, a3_4, a4_4, a5_4⟩ := u
  refine W.widen (k := 7) (n := 172) (by omega) (by omega) ?_
  have hP : va_P (dC, dI) vwCl [(o, .inr (3, [.ref q_1, .null, .null, .int 0, .int 0, .int 0, .int 0, .int 0, .int 0, .int 0, .int 0])), (q_1, .inr (2, [.long 0, .long 0, .long 0, .long 0, .long 0, .long 0])), (q_3, .inr (1, [.ref a1_4, .ref a2_4, .ref a3_4, .ref a4_4, .ref a5_4, .int (nI 0)])), (a1_4, .inl (cJ, 32, .inr (.inl (fun _ => 0)))), (a2_4, .inl (cI, 32, .inl (fun _ => 0))), (a3_4, .inl (cI, 32, .inl (fun _ => 0))), (a4_4, .inl (cI, 32, .inl (fun _ => 0))), (a5_4, .inl (cI, 32, .inl (fun _ => 0)))] H := hP
  have hD : va_D A [(o, .inr (3, [.ref q_1, .null, .null, .int 0, .int 0, .int 0, .int 0, .int 0, .int 0, .int 0, .int 0])), (q_1, .inr (2, [.long 0, .long 0, .long 0, .long 0, .long 0, .long 0])), (q_3, .inr (1, [.ref a1_4, .ref a2_4, .ref a3_4, .ref a4_4, .ref a5_4, .int (nI 0)])), (a1_4, .inl (cJ, 32, .inr (.inl (fun _ => 0)))), (a2_4, .inl (cI, 32, .inl (fun _ => 0))), (a3_4, .inl (cI, 32, .inl (fun _ => 0))), (a4_4, .inl (cI, 32, .inl (fun _ => 0))), (a5_4, .inl (cI, 32, .inl (fun _ => 0)))] := hD
  refine va_putF (D := (dC, dI)) (ci := 3) (v := .ref q_3) (ty := .object "CookieListener$Halves") (C := RX3) (T := TX3) (N := 11) hx hb hts (k_X3_init_in3) tyX3 tyX3_ok nmX3 hown hK hP hD hS 0 rfl rfl 1 (by decide) (hts _ k_X3_init_f19) (fun _ h9 => h9) rfl hin rfl (by decide +kernel) rfl rfl (Nat.le_of_ble_eq_true rfl) dX3_init_23 (fun H locs hP hD hS => ?_)
  have hP : va_P (dC, dI) vwCl [(o, .inr (3, [.ref q_1, .ref q_3, .null, .int 0, .int 0, .int 0, .int 0, .int 0, .int 0, .int 0, .int 0])), (q_1, .inr (2, [.long 0, .long 0, .long 0, .long 0, .long 0, .long 0])), (q_3, .inr (1, [.ref a1_4, .ref a2_4, .ref a3_4, .ref a4_4, .ref a5_4, .int (nI 0)])), (a1_4, .inl (cJ, 32, .inr (.inl (fun _ => 0)))), (a2_4, .inl (cI, 32, .inl (fun _ => 0))), (a3_4, .inl (cI, 32, .inl (fun _ => 0))), (a4_4, .inl (cI, 32, .inl (fun _ => 0))), (a5_4, .inl (cI, 32, .inl (fun _ => 0)))] H := hP
  have hD : va_D A [(o, .inr (3, [.ref q_1, .ref q_3, .null, .int 0, .int 0, .int 0, .int 0, .int 0, .int 0, .int 0, .int 0])), (q_1, .inr (2, [.long 0, .long 0, .long 0, .long 0, .long 0, .long 0])), (q_3, .inr (1, [.ref a1_4, .ref a2_4, .ref a3_4, .ref a4_4, .ref a5_4, .int (nI 0)])), (a1_4, .inl (cJ, 32, .inr (.inl (fun _ => 0)))), (a2_4, .inl (cI, 32, .inl (fun _ => 0))), (a3_4, .inl (cI, 32, .inl (fun _ => 0))), (a4_4, .inl (cI, 32, .inl (fun _ => 0))), (a5_4, .inl (cI, 32, .inl (fun _ => 0)))] := hD
  refine lv_aload_n hx hb dX3_init_26 rfl (lv_at hl 0 rfl) ?_
  refine va_new (ci := 0) (fs := [.null, .null, .int 0, .int 0]) (C := RX0) (T := TX0) (N := 4) hx hb hts (k_X3_init_in0) tyX0 tyX0_ok hown (hts _ k_X3_init_k23) (hts _ k_X3_init_n0) (hts _ k_X3_init_i0) hK hP hD hS hA rfl (by decide +kernel) (Nat.le_of_ble_eq_true rfl) (Nat.le_of_ble_eq_true rfl) dX3_init_27 (fun q_5 H hP hD hS => ?_)
  refine W.widen (k := 8) (n := 176) (by omega) (by omega) ?_
  have hP : va_P (dC, dI) vwCl [(o, .inr (3, [.ref q_1, .ref q_3, .null, .int 0, .int 0, .int 0, .int 0, .int 0, .int 0, .int 0, .int 0])), (q_1, .inr (2, [.long 0, .long 0, .long 0, .long 0, .long 0, .long 0])), (q_3, .inr (1, [.ref a1_4, .ref a2_4, .ref a3_4, .ref a4_4, .ref a5_4, .int (nI 0)])), (a1_4, .inl (cJ, 32, .inr (.inl (fun _ => 0)))), (a2_4, .inl (cI, 32, .inl (fun _ => 0))), (a3_4, .inl (cI, 32, .inl (fun _ => 0))), (a4_4, .inl (cI, 32, .inl (fun _ => 0))), (a5_4, .inl (cI, 32, .inl (fun _ => 0))), (q_5, .inr (0, [.null, .null, .int 0, .int 0]))] H := hP
  have hD : va_D A [(o, .inr (3, [.ref q_1, .ref q_3, .null, .int 0, .int 0, .int 0, .int 0, .int 0, .int 0, .int 0, .int 0])), (q_1, .inr (2, [.long 0, .long 0, .long 0, .long 0, .long 0, .long 0])), (q_3, .inr (1, [.ref a1_4, .ref a2_4, .ref a3_4, .ref a4_4, .ref a5_4, .int (nI 0)])), (a1_4, .inl (cJ, 32, .inr (.inl (fun _ => 0)))), (a2_4, .inl (cI, 32, .inl (fun _ => 0))), (a3_4, .inl (cI, 32, .inl (fun _ => 0))), (a4_4, .inl (cI, 32, .inl (fun _ => 0))), (a5_4, .inl (cI, 32, .inl (fun _ => 0))), (q_5, .inr (0, [.null, .null, .int 0, .int 0]))] := hD
  refine lv_dup hx hb dX3_init_30 rfl ?_
  refine ck_cv (wr := [(o, .inr (3, [.ref q_1, .ref q_3, .null, .int 0, .int 0, .int 0, .int 0, .int 0, .int 0, .int 0, .int 0])), (q_1, .inr (2, [.long 0, .long 0, .long 0, .long 0, .long 0, .long 0])), (q_3, .inr (1, [.ref a1_4, .ref a2_4, .ref a3_4, .ref a4_4, .ref a5_4, .int (nI 0)])), (a1_4, .inl (cJ, 32, .inr (.inl (fun _ => 0)))), (a2_4, .inl (cI, 32, .inl (fun _ => 0))), (a3_4, .inl (cI, 32, .inl (fun _ => 0))), (a4_4, .inl (cI, 32, .inl (fun _ => 0))), (a5_4, .inl (cI, 32, .inl (fun _ => 0)))]) (va_runIN (As := []) (rest := [.ref q_5, .ref o]) ⟨hx, hb, hml, hown, hts⟩ (c_X0_init l dC dI cI cJ cZ lo _ q_5) (⟨va_cnB 0 hts gX3_init_X0_init_n25 rfl rfl rfl (hE.2.1.2.2.2.2.2.2.2.2.2.1) (hts _ k_X3_init_iyX0_init) (by decide +kernel) ⟨(Nat.le_of_ble_eq_true rfl), (Nat.le_of_ble_eq_true rfl)⟩, rfl, hts _ k_X3_init_myX0_init⟩) ⟨ck_blind, (ck_pre hG hP hD hS [8] rfl (by decide) _)⟩ rfl rfl hl.1 rfl (lv_room (Nat.le_of_ble_eq_true rfl)) dX3_init_31 ⟨(Nat.le_of_ble_eq_true rfl), (Nat.le_of_ble_eq_true rfl)⟩) hP hD hS hA [8] [0, 1, 2, 3, 4, 5, 6, 7] rfl rfl (by decide) (by decide) (fun u H locs hw_6 hP hD hS => ?_)
  obtain ⟨b1_6, b2_6⟩ := u
  refine W.widen (k := 10) (n := 304) (by omega) (by omega) ?_
  have hP : va_P (dC, dI) vwCl [(o, .inr (3, [.ref q_1, .ref q_3, .null, .int 0, .int 0, .int 0, .int 0, .int 0, .int 0, .int 0, .int 0])), (q_1, .inr (2, [.long 0, .long 0, .long 0, .long 0, .long 0, .long 0])), (q_3, .inr (1, [.ref a1_4, .ref a2_4, .ref a3_4, .ref a4_4, .ref a5_4, .int (nI 0)])), (a1_4, .inl (cJ, 32, .inr (.inl (fun _ => 0)))), (a2_4, .inl (cI, 32, .inl (fun _ => 0))), (a3_4, .inl (cI, 32, .inl (fun _ => 0))), (a4_4, .inl (cI, 32, .inl (fun _ => 0))), (a5_4, .inl (cI, 32, .inl (fun _ => 0))), (q_5, .inr (0, [.ref b1_6, .ref b2_6, .int (nI 0), .int (nI 0)])), (b1_6, .inl (cJ, 64, .inr (.inl (fun _ => 0)))), (b2_6, .inl (cI, 64, .inl (fun _ => 0)))] H := hP
  have hD : va_D A [(o, .inr (3, [.ref q_1, .ref q_3, .null, .int 0, .int 0, .int 0, .int 0, .int 0, .int 0, .int 0, .int 0])), (q_1, .inr (2, [.long 0, .long 0, .long 0, .long 0, .long 0, .long 0])), (q_3, .inr (1, [.ref a1_4, .ref a2_4, .ref a3_4, .ref a4_4, .ref a5_4, .int (nI 0)])), (a1_4, .inl (cJ, 32, .inr (.inl (fun _ => 0)))), (a2_4, .inl (cI, 32, .inl (fun _ => 0))), (a3_4, .inl (cI, 32, .inl (fun _ => 0))), (a4_4, .inl (cI, 32, .inl (fun _ => 0))), (a5_4, .inl (cI, 32, .inl (fun _ => 0))), (q_5, .inr (0, [.ref b1_6, .ref b2_6, .int (nI 0), .int (nI 0)])), (b1_6, .inl (cJ, 64, .inr (.inl (fun _ => 0)))), (b2_6, .inl (cI, 64, .inl (fun _ => 0)))] := hD
  refine va_putF (D := (dC, dI)) (ci := 3) (v := .ref q_5) (ty := .object "CookieListener$Connections") (C := RX3) (T := TX3) (N := 11) hx hb hts (k_X3_init_in3) tyX3 tyX3_ok nmX3 hown hK hP hD hS 0 rfl rfl 2 (by decide) (hts _ k_X3_init_f26) (fun _ h9 => h9) rfl hin rfl (by decide +kernel) rfl rfl (Nat.le_of_ble_eq_true rfl) dX3_init_34 (fun H locs hP hD hS => ?_)
  have hP : va_P (dC, dI) vwCl [(o, .inr (3, [.ref q_1, .ref q_3, .ref q_5, .int 0, .int 0, .int 0, .int 0, .int 0, .int 0, .int 0, .int 0])), (q_1, .inr (2, [.long 0, .long 0, .long 0, .long 0, .long 0, .long 0])), (q_3, .inr (1, [.ref a1_4, .ref a2_4, .ref a3_4, .ref a4_4, .ref a5_4, .int (nI 0)])), (a1_4, .inl (cJ, 32, .inr (.inl (fun _ => 0)))), (a2_4, .inl (cI, 32, .inl (fun _ => 0))), (a3_4, .inl (cI, 32, .inl (fun _ => 0))), (a4_4, .inl (cI, 32, .inl (fun _ => 0))), (a5_4, .inl (cI, 32, .inl (fun _ => 0))), (q_5, .inr (0, [.ref b1_6, .ref b2_6, .int (nI 0), .int (nI 0)])), (b1_6, .inl (cJ, 64, .inr (.inl (fun _ => 0)))), (b2_6, .inl (cI, 64, .inl (fun _ => 0)))] H := hP
  have hD : va_D A [(o, .inr (3, [.ref q_1, .ref q_3, .ref q_5, .int 0, .int 0, .int 0, .int 0, .int 0, .int 0, .int 0, .int 0])), (q_1, .inr (2, [.long 0, .long 0, .long 0, .long 0, .long 0, .long 0])), (q_3, .inr (1, [.ref a1_4, .ref a2_4, .ref a3_4, .ref a4_4, .ref a5_4, .int (nI 0)])), (a1_4, .inl (cJ, 32, .inr (.inl (fun _ => 0)))), (a2_4, .inl (cI, 32, .inl (fun _ => 0))), (a3_4, .inl (cI, 32, .inl (fun _ => 0))), (a4_4, .inl (cI, 32, .inl (fun _ => 0))), (a5_4, .inl (cI, 32, .inl (fun _ => 0))), (q_5, .inr (0, [.ref b1_6, .ref b2_6, .int (nI 0), .int (nI 0)])), (b1_6, .inl (cJ, 64, .inr (.inl (fun _ => 0)))), (b2_6, .inl (cI, 64, .inl (fun _ => 0)))] := hD
  refine lv_aload_n hx hb dX3_init_37 rfl (lv_at hl 0 rfl) ?_
  refine lv_iconst (v := 4) hx hb dX3_init_38 (by decide) ?_
  refine va_put (D := (dC, dI)) (ci := 3) (v := .int 4) (ty := .int) (C := RX3) (T := TX3) (N := 11) hx hb hts (k_X3_init_in3) tyX3 tyX3_ok nmX3 hown hK hP hD hS 0 rfl rfl 3 (by decide) (hts _ k_X3_init_f30) (fun _ h9 => h9) rfl (by decide +kernel) rfl rfl (Nat.le_of_ble_eq_true rfl) dX3_init_39 (fun H locs hP hD hS => ?_)
  have hP : va_P (dC, dI) vwCl [(o, .inr (3, [.ref q_1, .ref q_3, .ref q_5, .int 4, .int 0, .int 0, .int 0, .int 0, .int 0, .int 0, .int 0])), (q_1, .inr (2, [.long 0, .long 0, .long 0, .long 0, .long 0, .long 0])), (q_3, .inr (1, [.ref a1_4, .ref a2_4, .ref a3_4, .ref a4_4, .ref a5_4, .int (nI 0)])), (a1_4, .inl (cJ, 32, .inr (.inl (fun _ => 0)))), (a2_4, .inl (cI, 32, .inl (fun _ => 0))), (a3_4, .inl (cI, 32, .inl (fun _ => 0))), (a4_4, .inl (cI, 32, .inl (fun _ => 0))), (a5_4, .inl (cI, 32, .inl (fun _ => 0))), (q_5, .inr (0, [.ref b1_6, .ref b2_6, .int (nI 0), .int (nI 0)])), (b1_6, .inl (cJ, 64, .inr (.inl (fun _ => 0)))), (b2_6, .inl (cI, 64, .inl (fun _ => 0)))] H := hP
  have hD : va_D A [(o, .inr (3, [.ref q_1, .ref q_3, .ref q_5, .int 4, .int 0, .int 0, .int 0, .int 0, .int 0, .int 0, .int 0])), (q_1, .inr (2, [.long 0, .long 0, .long 0, .long 0, .long 0, .long 0])), (q_3, .inr (1, [.ref a1_4, .ref a2_4, .ref a3_4, .ref a4_4, .ref a5_4, .int (nI 0)])), (a1_4, .inl (cJ, 32, .inr (.inl (fun _ => 0)))), (a2_4, .inl (cI, 32, .inl (fun _ => 0))), (a3_4, .inl (cI, 32, .inl (fun _ => 0))), (a4_4, .inl (cI, 32, .inl (fun _ => 0))), (a5_4, .inl (cI, 32, .inl (fun _ => 0))), (q_5, .inr (0, [.ref b1_6, .ref b2_6, .int (nI 0), .int (nI 0)])), (b1_6, .inl (cJ, 64, .inr (.inl (fun _ => 0)))), (b2_6, .inl (cI, 64, .inl (fun _ => 0)))] := hD
  refine lv_aload_n hx hb dX3_init_42 rfl (lv_at hl 0 rfl) ?_
  refine lv_iconst (v := 2) hx hb dX3_init_43 (by decide) ?_
  refine va_put (D := (dC, dI)) (ci := 3) (v := .int 2) (ty := .int) (C := RX3) (T := TX3) (N := 11) hx hb hts (k_X3_init_in3) tyX3 tyX3_ok nmX3 hown hK hP hD hS 0 rfl rfl 4 (by decide) (hts _ k_X3_init_f34) (fun _ h9 => h9) rfl (by decide +kernel) rfl rfl (Nat.le_of_ble_eq_true rfl) dX3_init_44 (fun H locs hP hD hS => ?_)
  have hP : va_P (dC, dI) vwCl [(o, .inr (3, [.ref q_1, .ref q_3, .ref q_5, .int 4, .int 2, .int 0, .int 0, .int 0, .int 0, .int 0, .int 0])), (q_1, .inr (2, [.long 0, .long 0, .long 0, .long 0, .long 0, .long 0])), (q_3, .inr (1, [.ref a1_4, .ref a2_4, .ref a3_4, .ref a4_4, .ref a5_4, .int (nI 0)])), (a1_4, .inl (cJ, 32, .inr (.inl (fun _ => 0)))), (a2_4, .inl (cI, 32, .inl (fun _ => 0))), (a3_4, .inl (cI, 32, .inl (fun _ => 0))), (a4_4, .inl (cI, 32, .inl (fun _ => 0))), (a5_4, .inl (cI, 32, .inl (fun _ => 0))), (q_5, .inr (0, [.ref b1_6, .ref b2_6, .int (nI 0), .int (nI 0)])), (b1_6, .inl (cJ, 64, .inr (.inl (fun _ => 0)))), (b2_6, .inl (cI, 64, .inl (fun _ => 0)))] H := hP
  have hD : va_D A [(o, .inr (3, [.ref q_1, .ref q_3, .ref q_5, .int 4, .int 2, .int 0, .int 0, .int 0, .int 0, .int 0, .int 0])), (q_1, .inr (2, [.long 0, .long 0, .long 0, .long 0, .long 0, .long 0])), (q_3, .inr (1, [.ref a1_4, .ref a2_4, .ref a3_4, .ref a4_4, .ref a5_4, .int (nI 0)])), (a1_4, .inl (cJ, 32, .inr (.inl (fun _ => 0)))), (a2_4, .inl (cI, 32, .inl (fun _ => 0))), (a3_4, .inl (cI, 32, .inl (fun _ => 0))), (a4_4, .inl (cI, 32, .inl (fun _ => 0))), (a5_4, .inl (cI, 32, .inl (fun _ => 0))), (q_5, .inr (0, [.ref b1_6, .ref b2_6, .int (nI 0), .int (nI 0)])), (b1_6, .inl (cJ, 64, .inr (.inl (fun _ => 0)))), (b2_6, .inl (cI, 64, .inl (fun _ => 0)))] := hD
  refine lv_aload_n hx hb dX3_init_47 rfl (lv_at hl 0 rfl) ?_
  refine lv_iconst (v := 0) hx hb dX3_init_48 (by decide) ?_
  refine va_put (D := (dC, dI)) (ci := 3) (v := .int 0) (ty := .int) (C := RX3) (T := TX3) (N := 11) hx hb hts (k_X3_init_in3) tyX3 tyX3_ok nmX3 hown hK hP hD hS 0 rfl rfl 5 (by decide) (hts _ k_X3_init_f37) (fun _ h9 => h9) rfl (by decide +kernel) rfl rfl (Nat.le_of_ble_eq_true rfl) dX3_init_49 (fun H locs hP hD hS => ?_)
  have hP : va_P (dC, dI) vwCl [(o, .inr (3, [.ref q_1, .ref q_3, .ref q_5, .int 4, .int 2, .int 0, .int 0, .int 0, .int 0, .int 0, .int 0])), (q_1, .inr (2, [.long 0, .long 0, .long 0, .long 0, .long 0, .long 0])), (q_3, .inr (1, [.ref a1_4, .ref a2_4, .ref a3_4, .ref a4_4, .ref a5_4, .int (nI 0)])), (a1_4, .inl (cJ, 32, .inr (.inl (fun _ => 0)))), (a2_4, .inl (cI, 32, .inl (fun _ => 0))), (a3_4, .inl (cI, 32, .inl (fun _ => 0))), (a4_4, .inl (cI, 32, .inl (fun _ => 0))), (a5_4, .inl (cI, 32, .inl (fun _ => 0))), (q_5, .inr (0, [.ref b1_6, .ref b2_6, .int (nI 0), .int (nI 0)])), (b1_6, .inl (cJ, 64, .inr (.inl (fun _ => 0)))), (b2_6, .inl (cI, 64, .inl (fun _ => 0)))] H := hP
  have hD : va_D A [(o, .inr (3, [.ref q_1, .ref q_3, .ref q_5, .int 4, .int 2, .int 0, .int 0, .int 0, .int 0, .int 0, .int 0])), (q_1, .inr (2, [.long 0, .long 0, .long 0, .long 0, .long 0, .long 0])), (q_3, .inr (1, [.ref a1_4, .ref a2_4, .ref a3_4, .ref a4_4, .ref a5_4, .int (nI 0)])), (a1_4, .inl (cJ, 32, .inr (.inl (fun _ => 0)))), (a2_4, .inl (cI, 32, .inl (fun _ => 0))), (a3_4, .inl (cI, 32, .inl (fun _ => 0))), (a4_4, .inl (cI, 32, .inl (fun _ => 0))), (a5_4, .inl (cI, 32, .inl (fun _ => 0))), (q_5, .inr (0, [.ref b1_6, .ref b2_6, .int (nI 0), .int (nI 0)])), (b1_6, .inl (cJ, 64, .inr (.inl (fun _ => 0)))), (b2_6, .inl (cI, 64, .inl (fun _ => 0)))] := hD
  refine lv_aload_n hx hb dX3_init_52 rfl (lv_at hl 0 rfl) ?_
  refine lv_iconst (v := 0) hx hb dX3_init_53 (by decide) ?_
  refine va_put (D := (dC, dI)) (ci := 3) (v := .int 0) (ty := .int) (C := RX3) (T := TX3) (N := 11) hx hb hts (k_X3_init_in3) tyX3 tyX3_ok nmX3 hown hK hP hD hS 0 rfl rfl 6 (by decide) (hts _ k_X3_init_f40) (fun _ h9 => h9) rfl (by decide +kernel) rfl rfl (Nat.le_of_ble_eq_true rfl) dX3_init_54 (fun H locs hP hD hS => ?_)
  have hP : va_P (dC, dI) vwCl [(o, .inr (3, [.ref q_1, .ref q_3, .ref q_5, .int 4, .int 2, .int 0, .int 0, .int 0, .int 0, .int 0, .int 0])), (q_1, .inr (2, [.long 0, .long 0, .long 0, .long 0, .long 0, .long 0])), (q_3, .inr (1, [.ref a1_4, .ref a2_4, .ref a3_4, .ref a4_4, .ref a5_4, .int (nI 0)])), (a1_4, .inl (cJ, 32, .inr (.inl (fun _ => 0)))), (a2_4, .inl (cI, 32, .inl (fun _ => 0))), (a3_4, .inl (cI, 32, .inl (fun _ => 0))), (a4_4, .inl (cI, 32, .inl (fun _ => 0))), (a5_4, .inl (cI, 32, .inl (fun _ => 0))), (q_5, .inr (0, [.ref b1_6, .ref b2_6, .int (nI 0), .int (nI 0)])), (b1_6, .inl (cJ, 64, .inr (.inl (fun _ => 0)))), (b2_6, .inl (cI, 64, .inl (fun _ => 0)))] H := hP
  have hD : va_D A [(o, .inr (3, [.ref q_1, .ref q_3, .ref q_5, .int 4, .int 2, .int 0, .int 0, .int 0, .int 0, .int 0, .int 0])), (q_1, .inr (2, [.long 0, .long 0, .long 0, .long 0, .long 0, .long 0])), (q_3, .inr (1, [.ref a1_4, .ref a2_4, .ref a3_4, .ref a4_4, .ref a5_4, .int (nI 0)])), (a1_4, .inl (cJ, 32, .inr (.inl (fun _ => 0)))), (a2_4, .inl (cI, 32, .inl (fun _ => 0))), (a3_4, .inl (cI, 32, .inl (fun _ => 0))), (a4_4, .inl (cI, 32, .inl (fun _ => 0))), (a5_4, .inl (cI, 32, .inl (fun _ => 0))), (q_5, .inr (0, [.ref b1_6, .ref b2_6, .int (nI 0), .int (nI 0)])), (b1_6, .inl (cJ, 64, .inr (.inl (fun _ => 0)))), (b2_6, .inl (cI, 64, .inl (fun _ => 0)))] := hD
  refine lv_aload_n hx hb dX3_init_57 rfl (lv_at hl 0 rfl) ?_
  refine lv_iconst (v := 0) hx hb dX3_init_58 (by decide) ?_
  refine va_put (D := (dC, dI)) (ci := 3) (v := .int 0) (ty := .int) (C := RX3) (T := TX3) (N := 11) hx hb hts (k_X3_init_in3) tyX3 tyX3_ok nmX3 hown hK hP hD hS 0 rfl rfl 7 (by decide) (hts _ k_X3_init_f43) (fun _ h9 => h9) rfl (by decide +kernel) rfl rfl (Nat.le_of_ble_eq_true rfl) dX3_init_59 (fun H locs hP hD hS => ?_)
  have hP : va_P (dC, dI) vwCl [(o, .inr (3, [.ref q_1, .ref q_3, .ref q_5, .int 4, .int 2, .int 0, .int 0, .int 0, .int 0, .int 0, .int 0])), (q_1, .inr (2, [.long 0, .long 0, .long 0, .long 0, .long 0, .long 0])), (q_3, .inr (1, [.ref a1_4, .ref a2_4, .ref a3_4, .ref a4_4, .ref a5_4, .int (nI 0)])), (a1_4, .inl (cJ, 32, .inr (.inl (fun _ => 0)))), (a2_4, .inl (cI, 32, .inl (fun _ => 0))), (a3_4, .inl (cI, 32, .inl (fun _ => 0))), (a4_4, .inl (cI, 32, .inl (fun _ => 0))), (a5_4, .inl (cI, 32, .inl (fun _ => 0))), (q_5, .inr (0, [.ref b1_6, .ref b2_6, .int (nI 0), .int (nI 0)])), (b1_6, .inl (cJ, 64, .inr (.inl (fun _ => 0)))), (b2_6, .inl (cI, 64, .inl (fun _ => 0)))] H := hP
  have hD : va_D A [(o, .inr (3, [.ref q_1, .ref q_3, .ref q_5, .int 4, .int 2, .int 0, .int 0, .int 0, .int 0, .int 0, .int 0])), (q_1, .inr (2, [.long 0, .long 0, .long 0, .long 0, .long 0, .long 0])), (q_3, .inr (1, [.ref a1_4, .ref a2_4, .ref a3_4, .ref a4_4, .ref a5_4, .int (nI 0)])), (a1_4, .inl (cJ, 32, .inr (.inl (fun _ => 0)))), (a2_4, .inl (cI, 32, .inl (fun _ => 0))), (a3_4, .inl (cI, 32, .inl (fun _ => 0))), (a4_4, .inl (cI, 32, .inl (fun _ => 0))), (a5_4, .inl (cI, 32, .inl (fun _ => 0))), (q_5, .inr (0, [.ref b1_6, .ref b2_6, .int (nI 0), .int (nI 0)])), (b1_6, .inl (cJ, 64, .inr (.inl (fun _ => 0)))), (b2_6, .inl (cI, 64, .inl (fun _ => 0)))] := hD
  refine lv_aload_n hx hb dX3_init_62 rfl (lv_at hl 0 rfl) ?_
  refine lv_iconst (v := 0) hx hb dX3_init_63 (by decide) ?_
  refine va_put (D := (dC, dI)) (ci := 3) (v := .int 0) (ty := .int) (C := RX3) (T := TX3) (N := 11) hx hb hts (k_X3_init_in3) tyX3 tyX3_ok nmX3 hown hK hP hD hS 0 rfl rfl 8 (by decide) (hts _ k_X3_init_f46) (fun _ h9 => h9) rfl (by decide +kernel) rfl rfl (Nat.le_of_ble_eq_true rfl) dX3_init_64 (fun H locs hP hD hS => ?_)
  have hP : va_P (dC, dI) vwCl [(o, .inr (3, [.ref q_1, .ref q_3, .ref q_5, .int 4, .int 2, .int 0, .int 0, .int 0, .int 0, .int 0, .int 0])), (q_1, .inr (2, [.long 0, .long 0, .long 0, .long 0, .long 0, .long 0])), (q_3, .inr (1, [.ref a1_4, .ref a2_4, .ref a3_4, .ref a4_4, .ref a5_4, .int (nI 0)])), (a1_4, .inl (cJ, 32, .inr (.inl (fun _ => 0)))), (a2_4, .inl (cI, 32, .inl (fun _ => 0))), (a3_4, .inl (cI, 32, .inl (fun _ => 0))), (a4_4, .inl (cI, 32, .inl (fun _ => 0))), (a5_4, .inl (cI, 32, .inl (fun _ => 0))), (q_5, .inr (0, [.ref b1_6, .ref b2_6, .int (nI 0), .int (nI 0)])), (b1_6, .inl (cJ, 64, .inr (.inl (fun _ => 0)))), (b2_6, .inl (cI, 64, .inl (fun _ => 0)))] H := hP
  have hD : va_D A [(o, .inr (3, [.ref q_1, .ref q_3, .ref q_5, .int 4, .int 2, .int 0, .int 0, .int 0, .int 0, .int 0, .int 0])), (q_1, .inr (2, [.long 0, .long 0, .long 0, .long 0, .long 0, .long 0])), (q_3, .inr (1, [.ref a1_4, .ref a2_4, .ref a3_4, .ref a4_4, .ref a5_4, .int (nI 0)])), (a1_4, .inl (cJ, 32, .inr (.inl (fun _ => 0)))), (a2_4, .inl (cI, 32, .inl (fun _ => 0))), (a3_4, .inl (cI, 32, .inl (fun _ => 0))), (a4_4, .inl (cI, 32, .inl (fun _ => 0))), (a5_4, .inl (cI, 32, .inl (fun _ => 0))), (q_5, .inr (0, [.ref b1_6, .ref b2_6, .int (nI 0), .int (nI 0)])), (b1_6, .inl (cJ, 64, .inr (.inl (fun _ => 0)))), (b2_6, .inl (cI, 64, .inl (fun _ => 0)))] := hD
  refine lv_aload_n hx hb dX3_init_67 rfl (lv_at hl 0 rfl) ?_
  refine lv_iconst (v := 0) hx hb dX3_init_68 (by decide) ?_
  refine va_put (D := (dC, dI)) (ci := 3) (v := .int 0) (ty := .int) (C := RX3) (T := TX3) (N := 11) hx hb hts (k_X3_init_in3) tyX3 tyX3_ok nmX3 hown hK hP hD hS 0 rfl rfl 9 (by decide) (hts _ k_X3_init_f49) (fun _ h9 => h9) rfl (by decide +kernel) rfl rfl (Nat.le_of_ble_eq_true rfl) dX3_init_69 (fun H locs hP hD hS => ?_)
  have hP : va_P (dC, dI) vwCl [(o, .inr (3, [.ref q_1, .ref q_3, .ref q_5, .int 4, .int 2, .int 0, .int 0, .int 0, .int 0, .int 0, .int 0])), (q_1, .inr (2, [.long 0, .long 0, .long 0, .long 0, .long 0, .long 0])), (q_3, .inr (1, [.ref a1_4, .ref a2_4, .ref a3_4, .ref a4_4, .ref a5_4, .int (nI 0)])), (a1_4, .inl (cJ, 32, .inr (.inl (fun _ => 0)))), (a2_4, .inl (cI, 32, .inl (fun _ => 0))), (a3_4, .inl (cI, 32, .inl (fun _ => 0))), (a4_4, .inl (cI, 32, .inl (fun _ => 0))), (a5_4, .inl (cI, 32, .inl (fun _ => 0))), (q_5, .inr (0, [.ref b1_6, .ref b2_6, .int (nI 0), .int (nI 0)])), (b1_6, .inl (cJ, 64, .inr (.inl (fun _ => 0)))), (b2_6, .inl (cI, 64, .inl (fun _ => 0)))] H := hP
  have hD : va_D A [(o, .inr (3, [.ref q_1, .ref q_3, .ref q_5, .int 4, .int 2, .int 0, .int 0, .int 0, .int 0, .int 0, .int 0])), (q_1, .inr (2, [.long 0, .long 0, .long 0, .long 0, .long 0, .long 0])), (q_3, .inr (1, [.ref a1_4, .ref a2_4, .ref a3_4, .ref a4_4, .ref a5_4, .int (nI 0)])), (a1_4, .inl (cJ, 32, .inr (.inl (fun _ => 0)))), (a2_4, .inl (cI, 32, .inl (fun _ => 0))), (a3_4, .inl (cI, 32, .inl (fun _ => 0))), (a4_4, .inl (cI, 32, .inl (fun _ => 0))), (a5_4, .inl (cI, 32, .inl (fun _ => 0))), (q_5, .inr (0, [.ref b1_6, .ref b2_6, .int (nI 0), .int (nI 0)])), (b1_6, .inl (cJ, 64, .inr (.inl (fun _ => 0)))), (b2_6, .inl (cI, 64, .inl (fun _ => 0)))] := hD
  refine lv_aload_n hx hb dX3_init_72 rfl (lv_at hl 0 rfl) ?_
  refine lv_iconst (v := 0) hx hb dX3_init_73 (by decide) ?_
  refine va_put (D := (dC, dI)) (ci := 3) (v := .int 0) (ty := .int) (C := RX3) (T := TX3) (N := 11) hx hb hts (k_X3_init_in3) tyX3 tyX3_ok nmX3 hown hK hP hD hS 0 rfl rfl 10 (by decide) (hts _ k_X3_init_f52) (fun _ h9 => h9) rfl (by decide +kernel) rfl rfl (Nat.le_of_ble_eq_true rfl) dX3_init_74 (fun H locs hP hD hS => ?_)
  have hP : va_P (dC, dI) vwCl [(o, .inr (3, [.ref q_1, .ref q_3, .ref q_5, .int 4, .int 2, .int 0, .int 0, .int 0, .int 0, .int 0, .int 0])), (q_1, .inr (2, [.long 0, .long 0, .long 0, .long 0, .long 0, .long 0])), (q_3, .inr (1, [.ref a1_4, .ref a2_4, .ref a3_4, .ref a4_4, .ref a5_4, .int (nI 0)])), (a1_4, .inl (cJ, 32, .inr (.inl (fun _ => 0)))), (a2_4, .inl (cI, 32, .inl (fun _ => 0))), (a3_4, .inl (cI, 32, .inl (fun _ => 0))), (a4_4, .inl (cI, 32, .inl (fun _ => 0))), (a5_4, .inl (cI, 32, .inl (fun _ => 0))), (q_5, .inr (0, [.ref b1_6, .ref b2_6, .int (nI 0), .int (nI 0)])), (b1_6, .inl (cJ, 64, .inr (.inl (fun _ => 0)))), (b2_6, .inl (cI, 64, .inl (fun _ => 0)))] H := hP
  have hD : va_D A [(o, .inr (3, [.ref q_1, .ref q_3, .ref q_5, .int 4, .int 2, .int 0, .int 0, .int 0, .int 0, .int 0, .int 0])), (q_1, .inr (2, [.long 0, .long 0, .long 0, .long 0, .long 0, .long 0])), (q_3, .inr (1, [.ref a1_4, .ref a2_4, .ref a3_4, .ref a4_4, .ref a5_4, .int (nI 0)])), (a1_4, .inl (cJ, 32, .inr (.inl (fun _ => 0)))), (a2_4, .inl (cI, 32, .inl (fun _ => 0))), (a3_4, .inl (cI, 32, .inl (fun _ => 0))), (a4_4, .inl (cI, 32, .inl (fun _ => 0))), (a5_4, .inl (cI, 32, .inl (fun _ => 0))), (q_5, .inr (0, [.ref b1_6, .ref b2_6, .int (nI 0), .int (nI 0)])), (b1_6, .inl (cJ, 64, .inr (.inl (fun _ => 0)))), (b2_6, .inl (cI, 64, .inl (fun _ => 0)))] := hD
  refine ck_vr hx hb hr hlocks (Nat.le_of_ble_eq_true rfl) (Nat.le_of_ble_eq_true rfl) dX3_init_77 (q_1, q_3, a1_4, a2_4, a3_4, a4_4, a5_4, q_5, b1_6, b2_6) hP hD hS ?_
  exact trivial
set_option maxRecDepth 20000 in
theorem k_X3_rooms_f30 : (.fieldLink RX3 30 "CookieListener" "sizeOfHalves" "I" : Cond) ∈ wsX3_rooms := by decide +kernel
set_option maxRecDepth 20000 in
theorem k_X3_rooms_in3 : ∀ w ∈ u_ws RX3 TX3 11, w ∈ wsX3_rooms := by decide +kernel
set_option maxRecDepth 20000 in
theorem k_X3_rooms_f34 : (.fieldLink RX3 34 "CookieListener" "roomOfQueue" "I" : Cond) ∈ wsX3_rooms := by decide +kernel
set_option maxHeartbeats 4000000 in
set_option maxRecDepth 100000 in
theorem c_X3_rooms (l : Launch) (dC : Nat → ClassId) (dI : Nat → Nat → Nat) (cI cJ cZ : ClassId) (lo sz : Nat) (o sp h cn : Nat) (zs rq ti ct gv bh bc un : Int32) (zs1 rq1 : Int32) (hs1 : 0 ≤ zs1) (hs2 : zs1 ≤ 32) (hr1 : 1 ≤ rq1) (hr2 : rq1 ≤ 16) : Met l yX3_rooms wsX3_rooms ({ frames := 1, cells := 0, slots := 0, locals := 22 } : Room) (va_Pc [.ref o, .int zs1, .int rq1] (ck_P (dC, dI) [(cI, .int), (cJ, .long), (cZ, .boolean)] lo sz [(o, .inr (3, [.ref sp, .ref h, .ref cn, .int zs, .int rq, .int ti, .int ct, .int gv, .int bh, .int bc, .int un]))])) (va_Qv (fun (u : Unit) => True) (fun u => ck_B (dC, dI) vwCl (va_A [(o, .inr (3, [.ref sp, .ref h, .ref cn, .int zs, .int rq, .int ti, .int ct, .int gv, .int bh, .int bc, .int un]))] sz) ((fun u : Unit => ([(o, .inr (3, [.ref sp, .ref h, .ref cn, .int zs1, .int rq1, .int ti, .int ct, .int gv, .int bh, .int bc, .int un]))] : va_W)) u)) (va_A [(o, .inr (3, [.ref sp, .ref h, .ref cn, .int zs, .int rq, .int ti, .int ct, .int gv, .int bh, .int bc, .int un]))] sz)) 0 0 (va_A [(o, .inr (3, [.ref sp, .ref h, .ref cn, .int zs, .int rq, .int ti, .int ct, .int gv, .int bh, .int bc, .int un]))] sz) := by
  refine Met.ofW (cc := cX3_rooms) (maxL := 3) (ret := none) (by decide) rfl ?_
  intro p e s m args below meth c s₁ B hml hv
  obtain ⟨rfl, hsz, hP, hK, hD0, hE⟩ := hv
  have hx := B.exec
  have hb := B.bytes
  have hr := B.returns
  have hts := atoms_spec (ws := wsX3_rooms) B.pre
  have hown : s.vm.findClass RX3 = some m.cls := findClass_of_methodNamed B.named
  have hlocks := B.notSynchronized
  subst hsz
  have hD := hD0.self (sz := s.heap.size)
  have hlo := ck_lo (sz := s.heap.size) hD0 hE.1
  generalize hAe : va_A [(o, .inr (3, [.ref sp, .ref h, .ref cn, .int zs, .int rq, .int ti, .int ct, .int gv, .int bh, .int bc, .int un]))] s.heap.size = A at hD hlo ⊢
  have hA : ∀ q : Nat, s.heap.size ≤ q → A q := fun q h => by rw [← hAe]; exact Or.inr h
  have hG : ck_G (dC, dI) [(cI, .int), (cJ, .long), (cZ, .boolean)] lo A s := ⟨hK, hE, hA, hlo⟩
  have hS : va_S A s.heap s.heap [] := va_S.rf
  have hP : va_P (dC, dI) vwCl [(o, .inr (3, [.ref sp, .ref h, .ref cn, .int zs, .int rq, .int ti, .int ct, .int gv, .int bh, .int bc, .int un]))] s.heap := hP
  have hl := lv_entry ([.ref o, .int zs1, .int rq1]) (n := 3) (Nat.le_of_ble_eq_true rfl)
  rw [lg_entry_eq]
  generalize (lg_sl ([.ref o, .int zs1, .int rq1]) ++ List.replicate (3 - (lg_sl ([.ref o, .int zs1, .int rq1])).length) Slot.unset).toArray = ls at hl ⊢
  have hl : lv_has ls 3 [(0, .ref o), (1, .int zs1), (2, .int rq1)] := hl
  refine lv_iload_n hx hb dX3_rooms_0 rfl (lv_at hl 1 rfl) ?_
  refine lv_iconst (v := 0) hx hb dX3_rooms_1 (by decide) ?_
  refine lv_bipush (v := 32) hx hb dX3_rooms_2 (by decide) ?_
  refine ck_rv (va_runS (As := [.int zs1, .int 0, .int 32]) (rest := []) ⟨hx, hb, hml, hown, hts⟩ (c_X3_requireWithin l dC dI cI cJ cZ lo _ zs1 0 32 (by first | assumption | omega) (by first | assumption | omega)) (va_cwS 3 hts gX3_rooms_X3_requireWithin rfl rfl rfl (by decide +kernel) ⟨(Nat.le_of_ble_eq_true rfl), (Nat.le_of_ble_eq_true rfl)⟩) ⟨ck_blind, (ck_pre hG hP hD hS [] rfl (by decide) _)⟩ rfl rfl hl.1 rfl (lv_room (Nat.le_of_ble_eq_true rfl)) dX3_rooms_4 ⟨(Nat.le_of_ble_eq_true rfl), (Nat.le_of_ble_eq_true rfl)⟩) (fun hw_1 => ?_)
  refine lv_iload_n hx hb dX3_rooms_7 rfl (lv_at hl 2 rfl) ?_
  refine lv_iconst (v := 1) hx hb dX3_rooms_8 (by decide) ?_
  refine lv_bipush (v := 16) hx hb dX3_rooms_9 (by decide) ?_
  refine ck_rv (va_runS (As := [.int rq1, .int 1, .int 16]) (rest := []) ⟨hx, hb, hml, hown, hts⟩ (c_X3_requireWithin l dC dI cI cJ cZ lo _ rq1 1 16 (by first | assumption | omega) (by first | assumption | omega)) (va_cwS 3 hts gX3_rooms_X3_requireWithin rfl rfl rfl (by decide +kernel) ⟨(Nat.le_of_ble_eq_true rfl), (Nat.le_of_ble_eq_true rfl)⟩) ⟨ck_blind, (ck_pre hG hP hD hS [] rfl (by decide) _)⟩ rfl rfl hl.1 rfl (lv_room (Nat.le_of_ble_eq_true rfl)) dX3_rooms_11 ⟨(Nat.le_of_ble_eq_true rfl), (Nat.le_of_ble_eq_true rfl)⟩) (fun hw_2 => ?_)
  refine lv_aload_n hx hb dX3_rooms_14 rfl (lv_at hl 0 rfl) ?_
  refine lv_iload_n hx hb dX3_rooms_15 rfl (lv_at hl 1 rfl) ?_
  refine va_put (D := (dC, dI)) (ci := 3) (v := .int zs1) (ty := .int) (C := RX3) (T := TX3) (N := 11) hx hb hts (k_X3_rooms_in3) tyX3 tyX3_ok nmX3 hown hK hP hD hS 0 rfl rfl 3 (by decide) (hts _ k_X3_rooms_f30) (fun _ h9 => h9) rfl (by decide +kernel) rfl rfl (Nat.le_of_ble_eq_true rfl) dX3_rooms_16 (fun H locs hP hD hS => ?_)
  have hP : va_P (dC, dI) vwCl [(o, .inr (3, [.ref sp, .ref h, .ref cn, .int zs1, .int rq, .int ti, .int ct, .int gv, .int bh, .int bc, .int un]))] H := hP
  have hD : va_D A [(o, .inr (3, [.ref sp, .ref h, .ref cn, .int zs1, .int rq, .int ti, .int ct, .int gv, .int bh, .int bc, .int un]))] := hD
  refine lv_aload_n hx hb dX3_rooms_19 rfl (lv_at hl 0 rfl) ?_
  refine lv_iload_n hx hb dX3_rooms_20 rfl (lv_at hl 2 rfl) ?_
  refine va_put (D := (dC, dI)) (ci := 3) (v := .int rq1) (ty := .int) (C := RX3) (T := TX3) (N := 11) hx hb hts (k_X3_rooms_in3) tyX3 tyX3_ok nmX3 hown hK hP hD hS 0 rfl rfl 4 (by decide) (hts _ k_X3_rooms_f34) (fun _ h9 => h9) rfl (by decide +kernel) rfl rfl (Nat.le_of_ble_eq_true rfl) dX3_rooms_21 (fun H locs hP hD hS => ?_)
  have hP : va_P (dC, dI) vwCl [(o, .inr (3, [.ref sp, .ref h, .ref cn, .int zs1, .int rq1, .int ti, .int ct, .int gv, .int bh, .int bc, .int un]))] H := hP
  have hD : va_D A [(o, .inr (3, [.ref sp, .ref h, .ref cn, .int zs1, .int rq1, .int ti, .int ct, .int gv, .int bh, .int bc, .int un]))] := hD
  subst_vars
  refine ck_vr hx hb hr hlocks (Nat.le_of_ble_eq_true rfl) (Nat.le_of_ble_eq_true rfl) dX3_rooms_24 () hP hD hS ?_
  exact trivial
set_option maxRecDepth 20000 in
theorem k_X3_key_f10 : (.fieldLink RX3 10 "CookieListener" "sip" "LCookieListener$SipHash;" : Cond) ∈ wsX3_key := by decide +kernel
set_option maxRecDepth 20000 in
theorem k_X3_key_in3 : ∀ w ∈ u_ws RX3 TX3 11, w ∈ wsX3_key := by decide +kernel
set_option maxHeartbeats 4000000 in
set_option maxRecDepth 100000 in
theorem c_X3_key (l : Launch) (dC : Nat → ClassId) (dI : Nat → Nat → Nat) (cI cJ cZ : ClassId) (lo sz : Nat) (o sp h cn : Nat) (zs rq ti ct gv bh bc un : Int32) (k l0 v0 v1 v2 v3 : Int64) (k1 l1 : Int64) : Met l yX3_key wsX3_key ({ frames := 1, cells := 0, slots := 0, locals := 24 } : Room) (va_Pc [.ref o, .long k1, .long l1] (ck_P (dC, dI) [(cI, .int), (cJ, .long), (cZ, .boolean)] lo sz [(o, .inr (3, [.ref sp, .ref h, .ref cn, .int zs, .int rq, .int ti, .int ct, .int gv, .int bh, .int bc, .int un])), (sp, .inr (2, [.long k, .long l0, .long v0, .long v1, .long v2, .long v3]))])) (va_Qv (fun (u : Unit) => True) (fun u => ck_B (dC, dI) vwCl (va_A [(o, .inr (3, [.ref sp, .ref h, .ref cn, .int zs, .int rq, .int ti, .int ct, .int gv, .int bh, .int bc, .int un])), (sp, .inr (2, [.long k, .long l0, .long v0, .long v1, .long v2, .long v3]))] sz) ((fun u : Unit => ([(o, .inr (3, [.ref sp, .ref h, .ref cn, .int zs, .int rq, .int ti, .int ct, .int gv, .int bh, .int bc, .int un])), (sp, .inr (2, [.long k1, .long l1, .long v0, .long v1, .long v2, .long v3]))] : va_W)) u)) (va_A [(o, .inr (3, [.ref sp, .ref h, .ref cn, .int zs, .int rq, .int ti, .int ct, .int gv, .int bh, .int bc, .int un])), (sp, .inr (2, [.long k, .long l0, .long v0, .long v1, .long v2, .long v3]))] sz)) 0 0 (va_A [(o, .inr (3, [.ref sp, .ref h, .ref cn, .int zs, .int rq, .int ti, .int ct, .int gv, .int bh, .int bc, .int un])), (sp, .inr (2, [.long k, .long l0, .long v0, .long v1, .long v2, .long v3]))] sz) := by
  refine Met.ofW (cc := cX3_key) (maxL := 5) (ret := none) (by decide) rfl ?_
  intro p e s m args below meth c s₁ B hml hv
  obtain ⟨rfl, hsz, hP, hK, hD0, hE⟩ := hv
  have hx := B.exec
  have hb := B.bytes
  have hr := B.returns
  have hts := atoms_spec (ws := wsX3_key) B.pre
  have hown : s.vm.findClass RX3 = some m.cls := findClass_of_methodNamed B.named
  have hlocks := B.notSynchronized
  subst hsz
  have hD := hD0.self (sz := s.heap.size)
  have hlo := ck_lo (sz := s.heap.size) hD0 hE.1
  generalize hAe : va_A [(o, .inr (3, [.ref sp, .ref h, .ref cn, .int zs, .int rq, .int ti, .int ct, .int gv, .int bh, .int bc, .int un])), (sp, .inr (2, [.long k, .long l0, .long v0, .long v1, .long v2, .long v3]))] s.heap.size = A at hD hlo ⊢
  have hA : ∀ q : Nat, s.heap.size ≤ q → A q := fun q h => by rw [← hAe]; exact Or.inr h
  have hG : ck_G (dC, dI) [(cI, .int), (cJ, .long), (cZ, .boolean)] lo A s := ⟨hK, hE, hA, hlo⟩
  have hS : va_S A s.heap s.heap [] := va_S.rf
  have hP : va_P (dC, dI) vwCl [(o, .inr (3, [.ref sp, .ref h, .ref cn, .int zs, .int rq, .int ti, .int ct, .int gv, .int bh, .int bc, .int un])), (sp, .inr (2, [.long k, .long l0, .long v0, .long v1, .long v2, .long v3]))] s.heap := hP
  have hl := lv_entry ([.ref o, .long k1, .long l1]) (n := 5) (Nat.le_of_ble_eq_true rfl)
  rw [lg_entry_eq]
  generalize (lg_sl ([.ref o, .long k1, .long l1]) ++ List.replicate (5 - (lg_sl ([.ref o, .long k1, .long l1])).length) Slot.unset).toArray = ls at hl ⊢
  have hl : lv_has ls 5 [(0, .ref o), (1, .long k1), (3, .long l1)] := hl
  refine lv_aload_n hx hb dX3_key_0 rfl (lv_at hl 0 rfl) ?_
  refine va_get (D := (dC, dI)) (ci := 3) (v := .ref sp) (C := RX3) (T := TX3) (N := 11) hx hb hts (k_X3_key_in3) hown hK hP 0 rfl rfl 0 (by decide) (hts _ k_X3_key_f10) (fun _ h9 => h9) rfl dX3_key_1 ?_
  refine lv_lload_n hx hb dX3_key_4 rfl (lv_at hl 1 rfl) ?_
  refine lv_lload_n hx hb dX3_key_5 rfl (lv_at hl 2 rfl) ?_
  refine ck_cv (wr := [(o, .inr (3, [.ref sp, .ref h, .ref cn, .int zs, .int rq, .int ti, .int ct, .int gv, .int bh, .int bc, .int un]))]) (va_runV (As := [.long k1, .long l1]) (rest := []) ⟨hx, hb, hml, hown, hts⟩ (c_X2_useKey l dC dI cI cJ cZ lo _ sp k l0 v0 v1 v2 v3 k1 l1) (cwV 2 hts gX3_key_X2_useKey rfl rfl rfl (by decide +kernel) ⟨(Nat.le_of_ble_eq_true rfl), (Nat.le_of_ble_eq_true rfl)⟩) ⟨ck_blind, va_recv hK hP (ci := 2) (q0 := 1) rfl rfl, (ck_pre hG hP hD hS [1] rfl (by decide) _)⟩ rfl rfl hl.1 rfl (lv_room (Nat.le_of_ble_eq_true rfl)) dX3_key_6 ⟨(Nat.le_of_ble_eq_true rfl), (Nat.le_of_ble_eq_true rfl)⟩) hP hD hS hA [1] [0] rfl rfl (by decide) (by decide) (fun u H locs hw_1 hP hD hS => ?_)
  have hP : va_P (dC, dI) vwCl [(o, .inr (3, [.ref sp, .ref h, .ref cn, .int zs, .int rq, .int ti, .int ct, .int gv, .int bh, .int bc, .int un])), (sp, .inr (2, [.long k1, .long l1, .long v0, .long v1, .long v2, .long v3]))] H := hP
  have hD : va_D A [(o, .inr (3, [.ref sp, .ref h, .ref cn, .int zs, .int rq, .int ti, .int ct, .int gv, .int bh, .int bc, .int un])), (sp, .inr (2, [.long k1, .long l1, .long v0, .long v1, .long v2, .long v3]))] := hD
  subst_vars
  refine ck_vr hx hb hr hlocks (Nat.le_of_ble_eq_true rfl) (Nat.le_of_ble_eq_true rfl) dX3_key_9 () hP hD hS ?_
  exact trivial
set_option maxRecDepth 20000 in
theorem k_X3_hash_f10 : (.fieldLink RX3 10 "CookieListener" "sip" "LCookieListener$SipHash;" : Cond) ∈ wsX3_hash := by decide +kernel
set_option maxRecDepth 20000 in
theorem k_X3_hash_in3 : ∀ w ∈ u_ws RX3 TX3 11, w ∈ wsX3_hash := by decide +kernel
set_option maxHeartbeats 4000000 in
set_option maxRecDepth 100000 in
theorem c_X3_hash (l : Launch) (dC : Nat → ClassId) (dI : Nat → Nat → Nat) (cI cJ cZ : ClassId) (lo sz : Nat) (o sp h cn : Nat) (zs rq ti ct gv bh bc un : Int32) (k l0 v0 v1 v2 v3 : Int64) (w1 w2 : Int64) : Met l yX3_hash wsX3_hash ({ frames := 4, cells := 0, slots := 0, locals := 90 } : Room) (va_Pc [.ref o, .long w1, .long w2] (ck_P (dC, dI) [(cI, .int), (cJ, .long), (cZ, .boolean)] lo sz [(o, .inr (3, [.ref sp, .ref h, .ref cn, .int zs, .int rq, .int ti, .int ct, .int gv, .int bh, .int bc, .int un])), (sp, .inr (2, [.long k, .long l0, .long v0, .long v1, .long v2, .long v3]))])) (va_Ql (fun (r : Int64) (u : Int64 × Int64 × Int64 × Int64) => r = ck_sip k l0 w1 w2) (fun u => ck_B (dC, dI) vwCl (va_A [(o, .inr (3, [.ref sp, .ref h, .ref cn, .int zs, .int rq, .int ti, .int ct, .int gv, .int bh, .int bc, .int un])), (sp, .inr (2, [.long k, .long l0, .long v0, .long v1, .long v2, .long v3]))] sz) ((fun u : Int64 × Int64 × Int64 × Int64 => ([(o, .inr (3, [.ref sp, .ref h, .ref cn, .int zs, .int rq, .int ti, .int ct, .int gv, .int bh, .int bc, .int un])), (sp, .inr (2, [.long k, .long l0, .long u.1, .long u.2.1, .long u.2.2.1, .long u.2.2.2]))] : va_W)) u)) (va_A [(o, .inr (3, [.ref sp, .ref h, .ref cn, .int zs, .int rq, .int ti, .int ct, .int gv, .int bh, .int bc, .int un])), (sp, .inr (2, [.long k, .long l0, .long v0, .long v1, .long v2, .long v3]))] sz)) 0 0 (va_A [(o, .inr (3, [.ref sp, .ref h, .ref cn, .int zs, .int rq, .int ti, .int ct, .int gv, .int bh, .int bc, .int un])), (sp, .inr (2, [.long k, .long l0, .long v0, .long v1, .long v2, .long v3]))] sz) := by
  refine Met.ofW (cc := cX3_hash) (maxL := 5) (ret := (some .long)) (by decide) rfl ?_
  intro p e s m args below meth c s₁ B hml hv
  obtain ⟨rfl, hsz, hP, hK, hD0, hE⟩ := hv
  have hx := B.exec
  have hb := B.bytes
  have hr := B.returns
  have hts := atoms_spec (ws := wsX3_hash) B.pre
  have hown : s.vm.findClass RX3 = some m.cls := findClass_of_methodNamed B.named
  have hlocks := B.notSynchronized
  subst hsz
  have hD := hD0.self (sz := s.heap.size)
  have hlo := ck_lo (sz := s.heap.size) hD0 hE.1
  generalize hAe : va_A [(o, .inr (3, [.ref sp, .ref h, .ref cn, .int zs, .int rq, .int ti, .int ct, .int gv, .int bh, .int bc, .int un])), (sp, .inr (2, [.long k, .long l0, .long v0, .long v1, .long v2, .long v3]))] s.heap.size = A at hD hlo ⊢
  have hA : ∀ q : Nat, s.heap.size ≤ q → A q := fun q h => by rw [← hAe]; exact Or.inr h
  have hG : ck_G (dC, dI) [(cI, .int), (cJ, .long), (cZ, .boolean)] lo A s := ⟨hK, hE, hA, hlo⟩
  have hS : va_S A s.heap s.heap [] := va_S.rf
  have hP : va_P (dC, dI) vwCl [(o, .inr (3, [.ref sp, .ref h, .ref cn, .int zs, .int rq, .int ti, .int ct, .int gv, .int bh, .int bc, .int un])), (sp, .inr (2, [.long k, .long l0, .long v0, .long v1, .long v2, .long v3]))] s.heap := hP
  have hl := lv_entry ([.ref o, .long w1, .long w2]) (n := 5) (Nat.le_of_ble_eq_true rfl)
  rw [lg_entry_eq]
  generalize (lg_sl ([.ref o, .long w1, .long w2]) ++ List.replicate (5 - (lg_sl ([.ref o, .long w1, .long w2])).length) Slot.unset).toArray = ls at hl ⊢
  have hl : lv_has ls 5 [(0, .ref o), (1, .long w1), (3, .long w2)] := hl
  refine lv_aload_n hx hb dX3_hash_0 rfl (lv_at hl 0 rfl) ?_
  refine va_get (D := (dC, dI)) (ci := 3) (v := .ref sp) (C := RX3) (T := TX3) (N := 11) hx hb hts (k_X3_hash_in3) hown hK hP 0 rfl rfl 0 (by decide) (hts _ k_X3_hash_f10) (fun _ h9 => h9) rfl dX3_hash_1 ?_
  refine lv_lload_n hx hb dX3_hash_4 rfl (lv_at hl 1 rfl) ?_
  refine lv_lload_n hx hb dX3_hash_5 rfl (lv_at hl 2 rfl) ?_
  refine ck_cl (wr := [(o, .inr (3, [.ref sp, .ref h, .ref cn, .int zs, .int rq, .int ti, .int ct, .int gv, .int bh, .int bc, .int un]))]) (va_runV (As := [.long w1, .long w2]) (rest := []) ⟨hx, hb, hml, hown, hts⟩ (c_X2_digest l dC dI cI cJ cZ lo _ sp k l0 v0 v1 v2 v3 w1 w2) (cwV 2 hts gX3_hash_X2_digest rfl rfl rfl (by decide +kernel) ⟨(Nat.le_of_ble_eq_true rfl), (Nat.le_of_ble_eq_true rfl)⟩) ⟨ck_blind, va_recv hK hP (ci := 2) (q0 := 1) rfl rfl, (ck_pre hG hP hD hS [1] rfl (by decide) _)⟩ rfl rfl hl.1 rfl (lv_room (Nat.le_of_ble_eq_true rfl)) dX3_hash_6 ⟨(Nat.le_of_ble_eq_true rfl), (Nat.le_of_ble_eq_true rfl)⟩) hP hD hS hA [1] [0] rfl rfl (by decide) (by decide) (fun r_1 u H locs hw_1 hP hD hS => ?_)
  obtain ⟨u0_1, u1_1, u2_1, u3_1⟩ := u
  have hw_1 : r_1 = ck_sip k l0 w1 w2 := hw_1
  have hP : va_P (dC, dI) vwCl [(o, .inr (3, [.ref sp, .ref h, .ref cn, .int zs, .int rq, .int ti, .int ct, .int gv, .int bh, .int bc, .int un])), (sp, .inr (2, [.long k, .long l0, .long u0_1, .long u1_1, .long u2_1, .long u3_1]))] H := hP
  have hD : va_D A [(o, .inr (3, [.ref sp, .ref h, .ref cn, .int zs, .int rq, .int ti, .int ct, .int gv, .int bh, .int bc, .int un])), (sp, .inr (2, [.long k, .long l0, .long u0_1, .long u1_1, .long u2_1, .long u3_1]))] := hD
  refine ck_lr hx hb hr hlocks (Nat.le_of_ble_eq_true rfl) (Nat.le_of_ble_eq_true rfl) dX3_hash_9 (u0_1, u1_1, u2_1, u3_1) hP hD hS ?_
  exact hw_1
set_option maxRecDepth 20000 in
theorem k_X3_pass_f37 : (.fieldLink RX3 37 "CookieListener" "time" "I" : Cond) ∈ wsX3_pass := by decide +kernel
set_option maxRecDepth 20000 in
theorem k_X3_pass_in3 : ∀ w ∈ u_ws RX3 TX3 11, w ∈ wsX3_pass := by decide +kernel
set_option maxRecDepth 20000 in
theorem k_X3_pass_f19 : (.fieldLink RX3 19 "CookieListener" "halves" "LCookieListener$Halves;" : Cond) ∈ wsX3_pass := by decide +kernel
set_option maxHeartbeats 4000000 in
set_option maxRecDepth 100000 in
theorem c_X3_pass (l : Launch) (dC : Nat → ClassId) (dI : Nat → Nat → Nat) (cI cJ cZ : ClassId) (lo sz : Nat) (o sp h cn : Nat) (zs rq ti ct gv bh bc un : Int32) (a1 a2 a3 a4 a5 : Nat) (n : Nat) (f1 : Nat → Int64) (f2 f3 f4 f5 : Nat → Int32) (se : Int32) (hs1 : 0 ≤ se) (hs2 : se ≤ 10000) (hn : n ≤ 32) : Met l yX3_pass wsX3_pass ({ frames := 2, cells := 0, slots := 0, locals := 43 } : Room) (va_Pc [.ref o, .int se] (ck_P (dC, dI) [(cI, .int), (cJ, .long), (cZ, .boolean)] lo sz [(o, .inr (3, [.ref sp, .ref h, .ref cn, .int zs, .int rq, .int ti, .int ct, .int gv, .int bh, .int bc, .int un])), (h, .inr (1, [.ref a1, .ref a2, .ref a3, .ref a4, .ref a5, .int (nI n)])), (a1, .inl (cJ, 32, .inr (.inl f1))), (a2, .inl (cI, 32, .inl f2)), (a3, .inl (cI, 32, .inl f3)), (a4, .inl (cI, 32, .inl f4)), (a5, .inl (cI, 32, .inl f5))])) (va_Qi (fun (r : Int32) (u : Int32 × Nat × (Nat → Int64) × (Nat → Int32) × (Nat → Int32) × (Nat → Int32) × (Nat → Int32)) => u.1 = ti + se ∧ r = ti + se ∧ u.2.1 ≤ n ∧ (ck_L u.2.1 (ck_R u.2.2.1 u.2.2.2.1 u.2.2.2.2.1 u.2.2.2.2.2.1 u.2.2.2.2.2.2)).Perm ((ck_L n (ck_R f1 f2 f3 f4 f5)).filter (ck_yng (ti + se)))) (fun u => ck_B (dC, dI) vwCl (va_A [(o, .inr (3, [.ref sp, .ref h, .ref cn, .int zs, .int rq, .int ti, .int ct, .int gv, .int bh, .int bc, .int un])), (h, .inr (1, [.ref a1, .ref a2, .ref a3, .ref a4, .ref a5, .int (nI n)])), (a1, .inl (cJ, 32, .inr (.inl f1))), (a2, .inl (cI, 32, .inl f2)), (a3, .inl (cI, 32, .inl f3)), (a4, .inl (cI, 32, .inl f4)), (a5, .inl (cI, 32, .inl f5))] sz) ((fun u : Int32 × Nat × (Nat → Int64) × (Nat → Int32) × (Nat → Int32) × (Nat → Int32) × (Nat → Int32) => ([(o, .inr (3, [.ref sp, .ref h, .ref cn, .int zs, .int rq, .int u.1, .int ct, .int gv, .int bh, .int bc, .int un])), (h, .inr (1, [.ref a1, .ref a2, .ref a3, .ref a4, .ref a5, .int (nI u.2.1)])), (a1, .inl (cJ, 32, .inr (.inl u.2.2.1))), (a2, .inl (cI, 32, .inl u.2.2.2.1)), (a3, .inl (cI, 32, .inl u.2.2.2.2.1)), (a4, .inl (cI, 32, .inl u.2.2.2.2.2.1)), (a5, .inl (cI, 32, .inl u.2.2.2.2.2.2))] : va_W)) u)) (va_A [(o, .inr (3, [.ref sp, .ref h, .ref cn, .int zs, .int rq, .int ti, .int ct, .int gv, .int bh, .int bc, .int un])), (h, .inr (1, [.ref a1, .ref a2, .ref a3, .ref a4, .ref a5, .int (nI n)])), (a1, .inl (cJ, 32, .inr (.inl f1))), (a2, .inl (cI, 32, .inl f2)), (a3, .inl (cI, 32, .inl f3)), (a4, .inl (cI, 32, .inl f4)), (a5, .inl (cI, 32, .inl f5))] sz)) 0 0 (va_A [(o, .inr (3, [.ref sp, .ref h, .ref cn, .int zs, .int rq, .int ti, .int ct, .int gv, .int bh, .int bc, .int un])), (h, .inr (1, [.ref a1, .ref a2, .ref a3, .ref a4, .ref a5, .int (nI n)])), (a1, .inl (cJ, 32, .inr (.inl f1))), (a2, .inl (cI, 32, .inl f2)), (a3, .inl (cI, 32, .inl f3)), (a4, .inl (cI, 32, .inl f4)), (a5, .inl (cI, 32, .inl f5))] sz) := by
  refine Met.ofW (cc := cX3_pass) (maxL := 2) (ret := (some .int)) (by decide) rfl ?_
  intro p e s m args below meth c s₁ B hml hv
  obtain ⟨rfl, hsz, hP, hK, hD0, hE⟩ := hv
  have hx := B.exec
  have hb := B.bytes
  have hr := B.returns
  have hts := atoms_spec (ws := wsX3_pass) B.pre
  have hown : s.vm.findClass RX3 = some m.cls := findClass_of_methodNamed B.named
  have hlocks := B.notSynchronized
  subst hsz
  have hD := hD0.self (sz := s.heap.size)
  have hlo := ck_lo (sz := s.heap.size) hD0 hE.1
  generalize hAe : va_A [(o, .inr (3, [.ref sp, .ref h, .ref cn, .int zs, .int rq, .int ti, .int ct, .int gv, .int bh, .int bc, .int un])), (h, .inr (1, [.ref a1, .ref a2, .ref a3, .ref a4, .ref a5, .int (nI n)])), (a1, .inl (cJ, 32, .inr (.inl f1))), (a2, .inl (cI, 32, .inl f2)), (a3, .inl (cI, 32, .inl f3)), (a4, .inl (cI, 32, .inl f4)), (a5, .inl (cI, 32, .inl f5))] s.heap.size = A at hD hlo ⊢
  have hA : ∀ q : Nat, s.heap.size ≤ q → A q := fun q h => by rw [← hAe]; exact Or.inr h
  have hG : ck_G (dC, dI) [(cI, .int), (cJ, .long), (cZ, .boolean)] lo A s := ⟨hK, hE, hA, hlo⟩
  have hS : va_S A s.heap s.heap [] := va_S.rf
  have hP : va_P (dC, dI) vwCl [(o, .inr (3, [.ref sp, .ref h, .ref cn, .int zs, .int rq, .int ti, .int ct, .int gv, .int bh, .int bc, .int un])), (h, .inr (1, [.ref a1, .ref a2, .ref a3, .ref a4, .ref a5, .int (nI n)])), (a1, .inl (cJ, 32, .inr (.inl f1))), (a2, .inl (cI, 32, .inl f2)), (a3, .inl (cI, 32, .inl f3)), (a4, .inl (cI, 32, .inl f4)), (a5, .inl (cI, 32, .inl f5))] s.heap := hP
  have hl := lv_entry ([.ref o, .int se]) (n := 2) (Nat.le_of_ble_eq_true rfl)
  rw [lg_entry_eq]
  generalize (lg_sl ([.ref o, .int se]) ++ List.replicate (2 - (lg_sl ([.ref o, .int se])).length) Slot.unset).toArray = ls at hl ⊢
  have hl : lv_has ls 2 [(0, .ref o), (1, .int se)] := hl
  refine lv_iload_n hx hb dX3_pass_0 rfl (lv_at hl 1 rfl) ?_
  refine lv_iconst (v := 0) hx hb dX3_pass_1 (by decide) ?_
  refine lv_sipush (v := 10000) hx hb dX3_pass_2 (by decide) ?_
  refine ck_rv (va_runS (As := [.int se, .int 0, .int 10000]) (rest := []) ⟨hx, hb, hml, hown, hts⟩ (c_X3_requireWithin l dC dI cI cJ cZ lo _ se 0 10000 (by first | assumption | omega) (by first | assumption | omega)) (va_cwS 3 hts gX3_pass_X3_requireWithin rfl rfl rfl (by decide +kernel) ⟨(Nat.le_of_ble_eq_true rfl), (Nat.le_of_ble_eq_true rfl)⟩) ⟨ck_blind, (ck_pre hG hP hD hS [] rfl (by decide) _)⟩ rfl rfl hl.1 rfl (lv_room (Nat.le_of_ble_eq_true rfl)) dX3_pass_5 ⟨(Nat.le_of_ble_eq_true rfl), (Nat.le_of_ble_eq_true rfl)⟩) (fun hw_1 => ?_)
  refine lv_aload_n hx hb dX3_pass_8 rfl (lv_at hl 0 rfl) ?_
  refine lv_dup hx hb dX3_pass_9 rfl ?_
  refine va_get (D := (dC, dI)) (ci := 3) (v := .int ti) (C := RX3) (T := TX3) (N := 11) hx hb hts (k_X3_pass_in3) hown hK hP 0 rfl rfl 5 (by decide) (hts _ k_X3_pass_f37) (fun _ h9 => h9) rfl dX3_pass_10 ?_
  refine lv_iload_n hx hb dX3_pass_13 rfl (lv_at hl 1 rfl) ?_
  refine lv_iadd hx hb dX3_pass_14 ?_
  refine lv_topi (fun x_2 ex_2 => ?_)
  refine va_put (D := (dC, dI)) (ci := 3) (v := .int x_2) (ty := .int) (C := RX3) (T := TX3) (N := 11) hx hb hts (k_X3_pass_in3) tyX3 tyX3_ok nmX3 hown hK hP hD hS 0 rfl rfl 5 (by decide) (hts _ k_X3_pass_f37) (fun _ h9 => h9) rfl (by decide +kernel) rfl rfl (Nat.le_of_ble_eq_true rfl) dX3_pass_15 (fun H locs hP hD hS => ?_)
  have hP : va_P (dC, dI) vwCl [(o, .inr (3, [.ref sp, .ref h, .ref cn, .int zs, .int rq, .int x_2, .int ct, .int gv, .int bh, .int bc, .int un])), (h, .inr (1, [.ref a1, .ref a2, .ref a3, .ref a4, .ref a5, .int (nI n)])), (a1, .inl (cJ, 32, .inr (.inl f1))), (a2, .inl (cI, 32, .inl f2)), (a3, .inl (cI, 32, .inl f3)), (a4, .inl (cI, 32, .inl f4)), (a5, .inl (cI, 32, .inl f5))] H := hP
  have hD : va_D A [(o, .inr (3, [.ref sp, .ref h, .ref cn, .int zs, .int rq, .int x_2, .int ct, .int gv, .int bh, .int bc, .int un])), (h, .inr (1, [.ref a1, .ref a2, .ref a3, .ref a4, .ref a5, .int (nI n)])), (a1, .inl (cJ, 32, .inr (.inl f1))), (a2, .inl (cI, 32, .inl f2)), (a3, .inl (cI, 32, .inl f3)), (a4, .inl (cI, 32, .inl f4)), (a5, .inl (cI, 32, .inl f5))] := hD
  refine lv_aload_n hx hb dX3_pass_18 rfl (lv_at hl 0 rfl) ?_
  refine va_get (D := (dC, dI)) (ci := 3) (v := .ref h) (C := RX3) (T := TX3) (N := 11) hx hb hts (k_X3_pass_in3) hown hK hP 0 rfl rfl 1 (by decide) (hts _ k_X3_pass_f19) (fun _ h9 => h9) rfl dX3_pass_19 ?_
  refine lv_aload_n hx hb dX3_pass_22 rfl (lv_at hl 0 rfl) ?_
  refine va_get (D := (dC, dI)) (ci := 3) (v := .int x_2) (C := RX3) (T := TX3) (N := 11) hx hb hts (k_X3_pass_in3) hown hK hP 0 rfl rfl 5 (by decide) (hts _ k_X3_pass_f37) (fun _ h9 => h9) rfl dX3_pass_23 ?_
  refine ck_cv (wr := [(o, .inr (3, [.ref sp, .ref h, .ref cn, .int zs, .int rq, .int x_2, .int ct, .int gv, .int bh, .int bc, .int un]))]) (va_runV (As := [.int x_2]) (rest := []) ⟨hx, hb, hml, hown, hts⟩ (c_X1_dropOld l dC dI cI cJ cZ lo _ h a1 a2 a3 a4 a5 n f1 f2 f3 f4 f5 x_2 (by first | assumption | omega)) (cwV 1 hts gX3_pass_X1_dropOld rfl rfl rfl (by decide +kernel) ⟨(Nat.le_of_ble_eq_true rfl), (Nat.le_of_ble_eq_true rfl)⟩) ⟨ck_blind, va_recv hK hP (ci := 1) (q0 := 1) rfl rfl, (ck_pre hG hP hD hS [1, 2, 3, 4, 5, 6] rfl (by decide) _)⟩ rfl rfl hl.1 rfl (lv_room (Nat.le_of_ble_eq_true rfl)) dX3_pass_26 ⟨(Nat.le_of_ble_eq_true rfl), (Nat.le_of_ble_eq_true rfl)⟩) hP hD hS hA [1, 2, 3, 4, 5, 6] [0] rfl rfl (by decide) (by decide) (fun u H locs hw_3 hP hD hS => ?_)
  obtain ⟨n2_3, u1_3, u2_3, u3_3, u4_3, u5_3⟩ := u
  have hw_3 : n2_3 ≤ n ∧ (ck_L n2_3 (ck_R u1_3 u2_3 u3_3 u4_3 u5_3)).Perm ((ck_L n (ck_R f1 f2 f3 f4 f5)).filter (ck_yng x_2)) := hw_3
  have hP : va_P (dC, dI) vwCl [(o, .inr (3, [.ref sp, .ref h, .ref cn, .int zs, .int rq, .int x_2, .int ct, .int gv, .int bh, .int bc, .int un])), (h, .inr (1, [.ref a1, .ref a2, .ref a3, .ref a4, .ref a5, .int (nI n2_3)])), (a1, .inl (cJ, 32, .inr (.inl u1_3))), (a2, .inl (cI, 32, .inl u2_3)), (a3, .inl (cI, 32, .inl u3_3)), (a4, .inl (cI, 32, .inl u4_3)), (a5, .inl (cI, 32, .inl u5_3))] H := hP
  have hD : va_D A [(o, .inr (3, [.ref sp, .ref h, .ref cn, .int zs, .int rq, .int x_2, .int ct, .int gv, .int bh, .int bc, .int un])), (h, .inr (1, [.ref a1, .ref a2, .ref a3, .ref a4, .ref a5, .int (nI n2_3)])), (a1, .inl (cJ, 32, .inr (.inl u1_3))), (a2, .inl (cI, 32, .inl u2_3)), (a3, .inl (cI, 32, .inl u3_3)), (a4, .inl (cI, 32, .inl u4_3)), (a5, .inl (cI, 32, .inl u5_3))] := hD
  refine lv_aload_n hx hb dX3_pass_29 rfl (lv_at hl 0 rfl) ?_
  refine va_get (D := (dC, dI)) (ci := 3) (v := .int x_2) (C := RX3) (T := TX3) (N := 11) hx hb hts (k_X3_pass_in3) hown hK hP 0 rfl rfl 5 (by decide) (hts _ k_X3_pass_f37) (fun _ h9 => h9) rfl dX3_pass_30 ?_
  refine ck_ir hx hb hr hlocks (Nat.le_of_ble_eq_true rfl) (Nat.le_of_ble_eq_true rfl) dX3_pass_33 (x_2, n2_3, u1_3, u2_3, u3_3, u4_3, u5_3) hP hD hS ?_
  subst_vars
  exact ⟨rfl, rfl, hw_3⟩
set_option maxRecDepth 20000 in
theorem k_X3_syn_c67 : (.constant RX3 67 (65535) : Cond) ∈ wsX3_syn := by decide +kernel
set_option maxRecDepth 20000 in
theorem k_X3_syn_f26 : (.fieldLink RX3 26 "CookieListener" "connections" "LCookieListener$Connections;" : Cond) ∈ wsX3_syn := by decide +kernel
set_option maxRecDepth 20000 in
theorem k_X3_syn_in3 : ∀ w ∈ u_ws RX3 TX3 11, w ∈ wsX3_syn := by decide +kernel
set_option maxRecDepth 20000 in
theorem k_X3_syn_f19 : (.fieldLink RX3 19 "CookieListener" "halves" "LCookieListener$Halves;" : Cond) ∈ wsX3_syn := by decide +kernel
set_option maxRecDepth 20000 in
theorem k_X3_syn_in1 : ∀ w ∈ u_ws RX1 TX1 6, w ∈ wsX3_syn := by decide +kernel
set_option maxRecDepth 20000 in
theorem k_X3_syn_c76 : (.constantLong RX3 76 (-1) : Cond) ∈ wsX3_syn := by decide +kernel
set_option maxHeartbeats 4000000 in
set_option maxRecDepth 100000 in
theorem c_X3_syn (l : Launch) (dC : Nat → ClassId) (dI : Nat → Nat → Nat) (cI cJ cZ : ClassId) (lo sz : Nat) (o sp h cn : Nat) (zs rq ti ct gv bh bc un : Int32) (k l0 v0 v1 v2 v3 : Int64) (a1 a2 a3 a4 a5 : Nat) (n : Nat) (f1 : Nat → Int64) (f2 f3 f4 f5 : Nat → Int32) (b1 b2 : Nat) (kc t : Nat) (g1 : Nat → Int64) (g2 : Nat → Int32) (aa bb num z : Int32) (hb1 : 0 ≤ bb) (hb2 : bb ≤ 65535) (hz1 : 0 ≤ z) (hz2 : z ≤ 65535) (hn : n ≤ 32) (hk : kc ≤ 64) (ht : t ≤ kc) (hz : zs ≤ 32) : Met l yX3_syn wsX3_syn ({ frames := 6, cells := 0, slots := 0, locals := 150 } : Room) (va_Pc [.ref o, .int aa, .int bb, .int num, .int z] (ck_P (dC, dI) [(cI, .int), (cJ, .long), (cZ, .boolean)] lo sz [(o, .inr (3, [.ref sp, .ref h, .ref cn, .int zs, .int rq, .int ti, .int ct, .int gv, .int bh, .int bc, .int un])), (sp, .inr (2, [.long k, .long l0, .long v0, .long v1, .long v2, .long v3])), (h, .inr (1, [.ref a1, .ref a2, .ref a3, .ref a4, .ref a5, .int (nI n)])), (a1, .inl (cJ, 32, .inr (.inl f1))), (a2, .inl (cI, 32, .inl f2)), (a3, .inl (cI, 32, .inl f3)), (a4, .inl (cI, 32, .inl f4)), (a5, .inl (cI, 32, .inl f5)), (cn, .inr (0, [.ref b1, .ref b2, .int (nI kc), .int (nI t)])), (b1, .inl (cJ, 64, .inr (.inl g1))), (b2, .inl (cI, 64, .inl g2))])) (va_Ql (fun (r : Int64) (u : Int32 × Int32 × Nat × (Nat → Int64) × (Nat → Int32) × (Nat → Int32) × (Nat → Int32) × (Nat → Int32) × Int64 × Int64 × Int64 × Int64) => ((∃ j, j < kc ∧ g1 j = ck_clr aa bb) ∧ r = -1 ∧ u.2.1 = gv ∧ u.1 = ct ∧ u.2.2.1 = n ∧ u.2.2.2.1 = f1 ∧ u.2.2.2.2.1 = f2 ∧ u.2.2.2.2.2.1 = f3 ∧ u.2.2.2.2.2.2.1 = f4 ∧ u.2.2.2.2.2.2.2.1 = f5) ∨ ((∀ i, i < kc → g1 i ≠ ck_clr aa bb) ∧ (∃ j, j < n ∧ f1 j = ck_clr aa bb ∧ f2 j = num ∧ r = ck_wos (f3 j)) ∧ u.2.1 = gv ∧ u.1 = ct ∧ u.2.2.1 = n ∧ u.2.2.2.1 = f1 ∧ u.2.2.2.2.1 = f2 ∧ u.2.2.2.2.2.1 = f3 ∧ u.2.2.2.2.2.2.1 = f4 ∧ u.2.2.2.2.2.2.2.1 = f5) ∨ ((∀ i, i < kc → g1 i ≠ ck_clr aa bb) ∧ ∃ n1 F1, ck_lft n (ck_R f1 f2 f3 f4 f5) (ck_clr aa bb) num n1 F1 ∧ ((¬ nI n1 < zs ∧ r = ck_wos (ck_ckk k l0 (ck_clr aa bb) num (ck_kdi 8 z) (ti / 64)) ∧ u.2.1 = gv + 1 ∧ u.1 = ti ∧ u.2.2.1 = n1 ∧ ck_L u.2.2.1 (ck_R u.2.2.2.1 u.2.2.2.2.1 u.2.2.2.2.2.1 u.2.2.2.2.2.2.1 u.2.2.2.2.2.2.2.1) = ck_L n1 F1) ∨ (nI n1 < zs ∧ r = ck_wos (ck_ckk k l0 (ck_clr aa bb) num (ck_kdi 8 z) (ti / 64) ^^^ (-16777216)) ∧ u.2.1 = gv ∧ u.1 = ct ∧ u.2.2.1 = n1 + 1 ∧ ck_L u.2.2.1 (ck_R u.2.2.2.1 u.2.2.2.2.1 u.2.2.2.2.2.1 u.2.2.2.2.2.2.1 u.2.2.2.2.2.2.2.1) = ck_L n1 F1 ++ [(ck_clr aa bb, num, ck_ckk k l0 (ck_clr aa bb) num (ck_kdi 8 z) (ti / 64) ^^^ (-16777216), ck_kdi 8 z, ti)])))) (fun u => ck_B (dC, dI) vwCl (va_A [(o, .inr (3, [.ref sp, .ref h, .ref cn, .int zs, .int rq, .int ti, .int ct, .int gv, .int bh, .int bc, .int un])), (sp, .inr (2, [.long k, .long l0, .long v0, .long v1, .long v2, .long v3])), (h, .inr (1, [.ref a1, .ref a2, .ref a3, .ref a4, .ref a5, .int (nI n)])), (a1, .inl (cJ, 32, .inr (.inl f1))), (a2, .inl (cI, 32, .inl f2)), (a3, .inl (cI, 32, .inl f3)), (a4, .inl (cI, 32, .inl f4)), (a5, .inl (cI, 32, .inl f5)), (cn, .inr (0, [.ref b1, .ref b2, .int (nI kc), .int (nI t)])), (b1, .inl (cJ, 64, .inr (.inl g1))), (b2, .inl (cI, 64, .inl g2))] sz) ((fun u : Int32 × Int32 × Nat × (Nat → Int64) × (Nat → Int32) × (Nat → Int32) × (Nat → Int32) × (Nat → Int32) × Int64 × Int64 × Int64 × Int64 => ([(o, .inr (3, [.ref sp, .ref h, .ref cn, .int zs, .int rq, .int ti, .int u.1, .int u.2.1, .int bh, .int bc, .int un])), (sp, .inr (2, [.long k, .long l0, .long u.2.2.2.2.2.2.2.2.1, .long u.2.2.2.2.2.2.2.2.2.1, .long u.2.2.2.2.2.2.2.2.2.2.1, .long u.2.2.2.2.2.2.2.2.2.2.2])), (h, .inr (1, [.ref a1, .ref a2, .ref a3, .ref a4, .ref a5, .int (nI u.2.2.1)])), (a1, .inl (cJ, 32, .inr (.inl u.2.2.2.1))), (a2, .inl (cI, 32, .inl u.2.2.2.2.1)), (a3, .inl (cI, 32, .inl u.2.2.2.2.2.1)), (a4, .inl (cI, 32, .inl u.2.2.2.2.2.2.1)), (a5, .inl (cI, 32, .inl u.2.2.2.2.2.2.2.1)), (cn, .inr (0, [.ref b1, .ref b2, .int (nI kc), .int (nI t)])), (b1, .inl (cJ, 64, .inr (.inl g1))), (b2, .inl (cI, 64, .inl g2))] : va_W)) u)) (va_A [(o, .inr (3, [.ref sp, .ref h, .ref cn, .int zs, .int rq, .int ti, .int ct, .int gv, .int bh, .int bc, .int un])), (sp, .inr (2, [.long k, .long l0, .long v0, .long v1, .long v2, .long v3])), (h, .inr (1, [.ref a1, .ref a2, .ref a3, .ref a4, .ref a5, .int (nI n)])), (a1, .inl (cJ, 32, .inr (.inl f1))), (a2, .inl (cI, 32, .inl f2)), (a3, .inl (cI, 32, .inl f3)), (a4, .inl (cI, 32, .inl f4)), (a5, .inl (cI, 32, .inl f5)), (cn, .inr (0, [.ref b1, .ref b2, .int (nI kc), .int (nI t)])), (b1, .inl (cJ, 64, .inr (.inl g1))), (b2, .inl (cI, 64, .inl g2))] sz)) 0 0 (va_A [(o, .inr (3, [.ref sp, .ref h, .ref cn, .int zs, .int rq, .int ti, .int ct, .int gv, .int bh, .int bc, .int un])), (sp, .inr (2, [.long k, .long l0, .long v0, .long v1, .long v2, .long v3])), (h, .inr (1, [.ref a1, .ref a2, .ref a3, .ref a4, .ref a5, .int (nI n)])), (a1, .inl (cJ, 32, .inr (.inl f1))), (a2, .inl (cI, 32, .inl f2)), (a3, .inl (cI, 32, .inl f3)), (a4, .inl (cI, 32, .inl f4)), (a5, .inl (cI, 32, .inl f5)), (cn, .inr (0, [.ref b1, .ref b2, .int (nI kc), .int (nI t)])), (b1, .inl (cJ, 64, .inr (.inl g1))), (b2, .inl (cI, 64, .inl g2))] sz) := by
  refine Met.ofW (cc := cX3_syn) (maxL := 8) (ret := (some .long)) (by decide) rfl ?_
  intro p e s m args below meth c s₁ B hml hv
  obtain ⟨rfl, hsz, hP, hK, hD0, hE⟩ := hv
  have hx := B.exec
  have hb := B.bytes
  have hr := B.returns
  have hts := atoms_spec (ws := wsX3_syn) B.pre
  have hown : s.vm.findClass RX3 = some m.cls := findClass_of_methodNamed B.named
  have hlocks := B.notSynchronized
  subst hsz
  have hD := hD0.self (sz := s.heap.size)
  have hlo := ck_lo (sz := s.heap.size) hD0 hE.1
  generalize hAe : va_A [(o, .inr (3, [.ref sp, .ref h, .ref cn, .int zs, .int rq, .int ti, .int ct, .int gv, .int bh, .int bc, .int un])), (sp, .inr (2, [.long k, .long l0, .long v0, .long v1, .long v2, .long v3])), (h, .inr (1, [.ref a1, .ref a2, .ref a3, .ref a4, .ref a5, .int (nI n)])), (a1, .inl (cJ, 32, .inr (.inl f1))), (a2, .inl (cI, 32, .inl f2)), (a3, .inl (cI, 32, .inl f3)), (a4, .inl (cI, 32, .inl f4)), (a5, .inl (cI, 32, .inl f5)), (cn, .inr (0, [.ref b1, .ref b2, .int (nI kc), .int (nI t)])), (b1, .inl (cJ, 64, .inr (.inl g1))), (b2, .inl (cI, 64, .inl g2))] s.heap.size = A at hD hlo ⊢
  have hA : ∀ q : Nat, s.heap.size ≤ q → A q := fun q h => by rw [← hAe]; exact Or.inr h
  have hG : ck_G (dC, dI) [(cI, .int), (cJ, .long), (cZ, .boolean)] lo A s := ⟨hK, hE, hA, hlo⟩
  have hS : va_S A s.heap s.heap [] := va_S.rf
  have hP : va_P (dC, dI) vwCl [(o, .inr (3, [.ref sp, .ref h, .ref cn, .int zs, .int rq, .int ti, .int ct, .int gv, .int bh, .int bc, .int un])), (sp, .inr (2, [.long k, .long l0, .long v0, .long v1, .long v2, .long v3])), (h, .inr (1, [.ref a1, .ref a2, .ref a3, .ref a4, .ref a5, .int (nI n)])), (a1, .inl (cJ, 32, .inr (.inl f1))), (a2, .inl (cI, 32, .inl f2)), (a3, .inl (cI, 32, .inl f3)), (a4, .inl (cI, 32, .inl f4)), (a5, .inl (cI, 32, .inl f5)), (cn, .inr (0, [.ref b1, .ref b2, .int (nI kc), .int (nI t)])), (b1, .inl (cJ, 64, .inr (.inl g1))), (b2, .inl (cI, 64, .inl g2))] s.heap := hP
  have hl := lv_entry ([.ref o, .int aa, .int bb, .int num, .int z]) (n := 8) (Nat.le_of_ble_eq_true rfl)
  rw [lg_entry_eq]
  generalize (lg_sl ([.ref o, .int aa, .int bb, .int num, .int z]) ++ List.replicate (8 - (lg_sl ([.ref o, .int aa, .int bb, .int num, .int z])).length) Slot.unset).toArray = ls at hl ⊢
  have hl : lv_has ls 8 [(0, .ref o), (1, .int aa), (2, .int bb), (3, .int num), (4, .int z)] := hl
  refine lv_iload_n hx hb dX3_syn_0 rfl (lv_at hl 2 rfl) ?_
  refine lv_iconst (v := 0) hx hb dX3_syn_1 (by decide) ?_
  refine lv_ldc hx hb hown (hts _ k_X3_syn_c67) dX3_syn_2 ?_
  refine ck_rv (va_runS (As := [.int bb, .int 0, .int 65535]) (rest := []) ⟨hx, hb, hml, hown, hts⟩ (c_X3_requireWithin l dC dI cI cJ cZ lo _ bb 0 65535 (by first | assumption | omega) (by first | assumption | omega)) (va_cwS 3 hts gX3_syn_X3_requireWithin rfl rfl rfl (by decide +kernel) ⟨(Nat.le_of_ble_eq_true rfl), (Nat.le_of_ble_eq_true rfl)⟩) ⟨ck_blind, (ck_pre hG hP hD hS [] rfl (by decide) _)⟩ rfl rfl hl.1 rfl (lv_room (Nat.le_of_ble_eq_true rfl)) dX3_syn_4 ⟨(Nat.le_of_ble_eq_true rfl), (Nat.le_of_ble_eq_true rfl)⟩) (fun hw_1 => ?_)
  refine lv_iload hx hb dX3_syn_7 (lv_at hl 4 rfl) ?_
  refine lv_iconst (v := 0) hx hb dX3_syn_9 (by decide) ?_
  refine lv_ldc hx hb hown (hts _ k_X3_syn_c67) dX3_syn_10 ?_
  refine ck_rv (va_runS (As := [.int z, .int 0, .int 65535]) (rest := []) ⟨hx, hb, hml, hown, hts⟩ (c_X3_requireWithin l dC dI cI cJ cZ lo _ z 0 65535 (by first | assumption | omega) (by first | assumption | omega)) (va_cwS 3 hts gX3_syn_X3_requireWithin rfl rfl rfl (by decide +kernel) ⟨(Nat.le_of_ble_eq_true rfl), (Nat.le_of_ble_eq_true rfl)⟩) ⟨ck_blind, (ck_pre hG hP hD hS [] rfl (by decide) _)⟩ rfl rfl hl.1 rfl (lv_room (Nat.le_of_ble_eq_true rfl)) dX3_syn_12 ⟨(Nat.le_of_ble_eq_true rfl), (Nat.le_of_ble_eq_true rfl)⟩) (fun hw_2 => ?_)
  refine lv_iload_n hx hb dX3_syn_15 rfl (lv_at hl 1 rfl) ?_
  refine lv_iload_n hx hb dX3_syn_16 rfl (lv_at hl 2 rfl) ?_
  refine ck_rl (va_runS (As := [.int aa, .int bb]) (rest := []) ⟨hx, hb, hml, hown, hts⟩ (c_X3_callerOf l dC dI cI cJ cZ lo _ aa bb) (va_cwS 2 hts gX3_syn_X3_callerOf rfl rfl rfl (by decide +kernel) ⟨(Nat.le_of_ble_eq_true rfl), (Nat.le_of_ble_eq_true rfl)⟩) ⟨ck_blind, (ck_pre hG hP hD hS [] rfl (by decide) _)⟩ rfl rfl hl.1 rfl (lv_room (Nat.le_of_ble_eq_true rfl)) dX3_syn_17 ⟨(Nat.le_of_ble_eq_true rfl), (Nat.le_of_ble_eq_true rfl)⟩) (fun r_3 hw_3 => ?_)
  have hw_3 : r_3 = ck_clr aa bb := hw_3
  subst hw_3
  refine lv_lstore (lv' := [(5, .long (ck_clr aa bb)), (0, .ref o), (1, .int aa), (2, .int bb), (3, .int num), (4, .int z)]) hx hb dX3_syn_20 hl (by decide) rfl (fun ls hl => ?_)
  refine lv_aload_n hx hb dX3_syn_22 rfl (lv_at hl 1 rfl) ?_
  refine va_get (D := (dC, dI)) (ci := 3) (v := .ref cn) (C := RX3) (T := TX3) (N := 11) hx hb hts (k_X3_syn_in3) hown hK hP 0 rfl rfl 2 (by decide) (hts _ k_X3_syn_f26) (fun _ h9 => h9) rfl dX3_syn_23 ?_
  refine lv_lload hx hb dX3_syn_26 (lv_at hl 0 rfl) ?_
  refine ck_ri (va_runV (As := [.long (ck_clr aa bb)]) (rest := []) ⟨hx, hb, hml, hown, hts⟩ (c_X0_find l dC dI cI cJ cZ lo _ cn b1 b2 kc t g1 g2 (ck_clr aa bb) (by first | assumption | omega)) (cwV 1 hts gX3_syn_X0_find rfl rfl rfl (by decide +kernel) ⟨(Nat.le_of_ble_eq_true rfl), (Nat.le_of_ble_eq_true rfl)⟩) ⟨ck_blind, va_recv hK hP (ci := 0) (q0 := 8) rfl rfl, (ck_pre hG hP hD hS [8, 9, 10] rfl (by decide) _)⟩ rfl rfl hl.1 rfl (lv_room (Nat.le_of_ble_eq_true rfl)) dX3_syn_28 ⟨(Nat.le_of_ble_eq_true rfl), (Nat.le_of_ble_eq_true rfl)⟩) (fun r_4 hw_4 => ?_)
  have hw_4 : ck_fnd kc g1 (ck_clr aa bb) r_4 := hw_4
  refine lv_iconst (v := (-1)) hx hb dX3_syn_31 (by decide) ?_
  refine lv_icmp_eq (tgt := 39) hx hb dX3_syn_32 (by decide) (fun c_32 => ?_) (fun c_32 => ?_)
  · skip
    have hn_4 : ∀ i, i < kc → g1 i ≠ (ck_clr aa bb) := by
      rcases hw_4 with z | ⟨j9, hj9, ej9, -⟩
      · exact z.2
      · exact absurd (ej9.symm.trans c_32) (ck_njm1 (by omega))
    refine lv_aload_n hx hb dX3_syn_39 rfl (lv_at hl 1 rfl) ?_
    refine va_get (D := (dC, dI)) (ci := 3) (v := .ref h) (C := RX3) (T := TX3) (N := 11) hx hb hts (k_X3_syn_in3) hown hK hP 0 rfl rfl 1 (by decide) (hts _ k_X3_syn_f19) (fun _ h9 => h9) rfl dX3_syn_40 ?_
    refine lv_lload hx hb dX3_syn_43 (lv_at hl 0 rfl) ?_
    refine ck_ri (va_runV (As := [.long (ck_clr aa bb)]) (rest := []) ⟨hx, hb, hml, hown, hts⟩ (c_X1_find l dC dI cI cJ cZ lo _ h a1 a2 a3 a4 a5 n f1 f2 f3 f4 f5 (ck_clr aa bb) (by first | assumption | omega)) (cwV 1 hts gX3_syn_X1_find rfl rfl rfl (by decide +kernel) ⟨(Nat.le_of_ble_eq_true rfl), (Nat.le_of_ble_eq_true rfl)⟩) ⟨ck_blind, va_recv hK hP (ci := 1) (q0 := 2) rfl rfl, (ck_pre hG hP hD hS [2, 3, 4, 5, 6, 7] rfl (by decide) _)⟩ rfl rfl hl.1 rfl (lv_room (Nat.le_of_ble_eq_true rfl)) dX3_syn_45 ⟨(Nat.le_of_ble_eq_true rfl), (Nat.le_of_ble_eq_true rfl)⟩) (fun r_5 hw_5 => ?_)
    have hw_5 : ck_fnd n f1 (ck_clr aa bb) r_5 := hw_5
    refine lv_istore (lv' := [(7, .int r_5), (5, .long (ck_clr aa bb)), (0, .ref o), (1, .int aa), (2, .int bb), (3, .int num), (4, .int z)]) hx hb dX3_syn_48 hl (by decide) rfl (fun ls hl => ?_)
    refine lv_iload hx hb dX3_syn_50 (lv_at hl 0 rfl) ?_
    refine lv_iconst (v := (-1)) hx hb dX3_syn_52 (by decide) ?_
    refine lv_icmp_eq (tgt := 84) hx hb dX3_syn_53 (by decide) (fun c_53 => ?_) (fun c_53 => ?_)
    · skip
      have hn_5 : ∀ i, i < n → f1 i ≠ (ck_clr aa bb) := by
        rcases hw_5 with z | ⟨j9, hj9, ej9, -⟩
        · exact z.2
        · exact absurd (ej9.symm.trans c_53) (ck_njm1 (by omega))
      refine lv_iload hx hb dX3_syn_84 (lv_at hl 0 rfl) ?_
      refine lv_iconst (v := (-1)) hx hb dX3_syn_86 (by decide) ?_
      refine lv_icmp_eq (tgt := 99) hx hb dX3_syn_87 (by decide) (fun c_87 => ?_) (fun c_87 => ?_)
      · skip
        refine lv_aload_n hx hb dX3_syn_99 rfl (lv_at hl 2 rfl) ?_
        refine lv_lload hx hb dX3_syn_100 (lv_at hl 1 rfl) ?_
        refine lv_iload_n hx hb dX3_syn_102 rfl (lv_at hl 5 rfl) ?_
        refine lv_iload hx hb dX3_syn_103 (lv_at hl 6 rfl) ?_
        refine ck_ri (va_runS (As := [.int z]) (rest := [.int num, .long (ck_clr aa bb), .ref o]) ⟨hx, hb, hml, hown, hts⟩ (c_X3_kindOf l dC dI cI cJ cZ lo _ z) (va_cwS 1 hts gX3_syn_X3_kindOf rfl rfl rfl (by decide +kernel) ⟨(Nat.le_of_ble_eq_true rfl), (Nat.le_of_ble_eq_true rfl)⟩) ⟨ck_blind, (ck_pre hG hP hD hS [] rfl (by decide) _)⟩ rfl rfl hl.1 rfl (lv_room (Nat.le_of_ble_eq_true rfl)) dX3_syn_105 ⟨(Nat.le_of_ble_eq_true rfl), (Nat.le_of_ble_eq_true rfl)⟩) (fun r_6 hw_6 => ?_)
        have hw_6 : r_6 = ck_kdi 8 z := hw_6
        subst hw_6
        refine ck_ci (wr := [(cn, .inr (0, [.ref b1, .ref b2, .int (nI kc), .int (nI t)])), (b1, .inl (cJ, 64, .inr (.inl g1))), (b2, .inl (cI, 64, .inl g2))]) (va_runV (As := [.long (ck_clr aa bb), .int num, .int (ck_kdi 8 z)]) (rest := []) ⟨hx, hb, hml, hown, hts⟩ (c_X3_answerNewSyn l dC dI cI cJ cZ lo _ o sp h cn zs rq ti ct gv bh bc un k l0 v0 v1 v2 v3 a1 a2 a3 a4 a5 n f1 f2 f3 f4 f5 (ck_clr aa bb) num (ck_kdi 8 z) (by first | assumption | omega) (by first | assumption | omega)) (cwV 3 hts gX3_syn_X3_answerNewSyn rfl rfl rfl (by decide +kernel) ⟨(Nat.le_of_ble_eq_true rfl), (Nat.le_of_ble_eq_true rfl)⟩) ⟨ck_blind, va_recv hK hP (ci := 3) (q0 := 0) rfl rfl, (ck_pre hG hP hD hS [0, 1, 2, 3, 4, 5, 6, 7] rfl (by decide) _)⟩ rfl rfl hl.1 rfl (lv_room (Nat.le_of_ble_eq_true rfl)) dX3_syn_108 ⟨(Nat.le_of_ble_eq_true rfl), (Nat.le_of_ble_eq_true rfl)⟩) hP hD hS hA [0, 1, 2, 3, 4, 5, 6, 7] [8, 9, 10] rfl rfl (by decide) (by decide) (fun r_7 u H locs hw_7 hP hD hS => ?_)
        obtain ⟨ct2_7, gv2_7, n2_7, w1_7, w2_7, w3_7, w4_7, w5_7, u0_7, u1_7, u2_7, u3_7⟩ := u
        have hw_7 : (¬ nI n < zs ∧ r_7 = ck_ckk k l0 (ck_clr aa bb) num (ck_kdi 8 z) (ti / 64) ∧ gv2_7 = gv + 1 ∧ ct2_7 = ti ∧ n2_7 = n ∧ w1_7 = f1 ∧ w2_7 = f2 ∧ w3_7 = f3 ∧ w4_7 = f4 ∧ w5_7 = f5) ∨ (nI n < zs ∧ r_7 = ck_ckk k l0 (ck_clr aa bb) num (ck_kdi 8 z) (ti / 64) ^^^ (-16777216) ∧ gv2_7 = gv ∧ ct2_7 = ct ∧ n2_7 = n + 1 ∧ w1_7 = vp_updL f1 n (ck_clr aa bb) ∧ w2_7 = upd f2 n num ∧ w3_7 = upd f3 n (ck_ckk k l0 (ck_clr aa bb) num (ck_kdi 8 z) (ti / 64) ^^^ (-16777216)) ∧ w4_7 = upd f4 n (ck_kdi 8 z) ∧ w5_7 = upd f5 n ti) := hw_7
        have hP : va_P (dC, dI) vwCl [(cn, .inr (0, [.ref b1, .ref b2, .int (nI kc), .int (nI t)])), (b1, .inl (cJ, 64, .inr (.inl g1))), (b2, .inl (cI, 64, .inl g2)), (o, .inr (3, [.ref sp, .ref h, .ref cn, .int zs, .int rq, .int ti, .int ct2_7, .int gv2_7, .int bh, .int bc, .int un])), (sp, .inr (2, [.long k, .long l0, .long u0_7, .long u1_7, .long u2_7, .long u3_7])), (h, .inr (1, [.ref a1, .ref a2, .ref a3, .ref a4, .ref a5, .int (nI n2_7)])), (a1, .inl (cJ, 32, .inr (.inl w1_7))), (a2, .inl (cI, 32, .inl w2_7)), (a3, .inl (cI, 32, .inl w3_7)), (a4, .inl (cI, 32, .inl w4_7)), (a5, .inl (cI, 32, .inl w5_7))] H := hP
        have hD : va_D A [(cn, .inr (0, [.ref b1, .ref b2, .int (nI kc), .int (nI t)])), (b1, .inl (cJ, 64, .inr (.inl g1))), (b2, .inl (cI, 64, .inl g2)), (o, .inr (3, [.ref sp, .ref h, .ref cn, .int zs, .int rq, .int ti, .int ct2_7, .int gv2_7, .int bh, .int bc, .int un])), (sp, .inr (2, [.long k, .long l0, .long u0_7, .long u1_7, .long u2_7, .long u3_7])), (h, .inr (1, [.ref a1, .ref a2, .ref a3, .ref a4, .ref a5, .int (nI n2_7)])), (a1, .inl (cJ, 32, .inr (.inl w1_7))), (a2, .inl (cI, 32, .inl w2_7)), (a3, .inl (cI, 32, .inl w3_7)), (a4, .inl (cI, 32, .inl w4_7)), (a5, .inl (cI, 32, .inl w5_7))] := hD
        refine ck_rl (va_runS (As := [.int r_7]) (rest := []) ⟨hx, hb, hml, hown, hts⟩ (c_X3_withoutSign l dC dI cI cJ cZ lo _ r_7) (va_cwS 1 hts gX3_syn_X3_withoutSign rfl rfl rfl (by decide +kernel) ⟨(Nat.le_of_ble_eq_true rfl), (Nat.le_of_ble_eq_true rfl)⟩) ⟨ck_blind, (ck_pre hG hP hD hS [] rfl (by decide) _)⟩ rfl rfl hl.1 rfl (lv_room (Nat.le_of_ble_eq_true rfl)) dX3_syn_111 ⟨(Nat.le_of_ble_eq_true rfl), (Nat.le_of_ble_eq_true rfl)⟩) (fun r_8 hw_8 => ?_)
        have hw_8 : r_8 = ck_wos r_7 := hw_8
        subst hw_8
        refine ck_lr hx hb hr hlocks (Nat.le_of_ble_eq_true rfl) (Nat.le_of_ble_eq_true rfl) dX3_syn_114 (ct2_7, gv2_7, n2_7, w1_7, w2_7, w3_7, w4_7, w5_7, u0_7, u1_7, u2_7, u3_7) (hP.sub [3, 4, 5, 6, 7, 8, 9, 10, 0, 1, 2] rfl) (hD.sub [3, 4, 5, 6, 7, 8, 9, 10, 0, 1, 2] (by decide) rfl) hS ?_
        refine Or.inr (Or.inr ⟨hn_4, _, _, Or.inl ⟨hn_5, rfl, rfl⟩, ?_⟩)
        rcases hw_7 with ⟨z1, z2, z3, z4, z5, z6, z7, z8, z9, z10⟩ | ⟨z1, z2, z3, z4, z5, z6, z7, z8, z9, z10⟩
        · subst_vars
          exact Or.inl ⟨z1, rfl, rfl, rfl, rfl, rfl⟩
        · subst_vars
          exact Or.inr ⟨z1, rfl, rfl, rfl, rfl, ck_addR _ _ _ _ _ _ _ _ _ _ _⟩
      · skip
        exact absurd c_53 c_87
    · skip
      obtain ⟨j_5, hj_5, ej_5, hf_5⟩ := hw_5.resolve_left (fun z => c_53 z.1)
      subst ej_5
      refine lv_aload_n hx hb dX3_syn_56 rfl (lv_at hl 2 rfl) ?_
      refine va_get (D := (dC, dI)) (ci := 3) (v := .ref h) (C := RX3) (T := TX3) (N := 11) hx hb hts (k_X3_syn_in3) hown hK hP 0 rfl rfl 1 (by decide) (hts _ k_X3_syn_f19) (fun _ h9 => h9) rfl dX3_syn_57 ?_
      refine va_getN (D := (dC, dI)) (ci := 1) (v := .ref a2) (C := RX1) (T := TX1) (N := 6) hx hb hts (k_X3_syn_in1) hown hK hP 2 rfl rfl 1 (by decide) (va_Nw.use rfl (hE.2.1.2.2.2.2.2.2.1)) (fun _ h9 => h9) rfl dX3_syn_60 ?_
      refine lv_iload hx hb dX3_syn_63 (lv_at hl 0 rfl) ?_
      refine ck_iald hx hb hK hP 4 0 rfl rfl (by omega) (by decide) dX3_syn_65 ?_
      refine lv_iload_n hx hb dX3_syn_66 rfl (lv_at hl 5 rfl) ?_
      refine lv_icmp_ne (tgt := 84) hx hb dX3_syn_67 (by decide) (fun c_67 => ?_) (fun c_67 => ?_)
      · skip
        refine lv_iload hx hb dX3_syn_84 (lv_at hl 0 rfl) ?_
        refine lv_iconst (v := (-1)) hx hb dX3_syn_86 (by decide) ?_
        refine lv_icmp_eq (tgt := 99) hx hb dX3_syn_87 (by decide) (fun c_87 => ?_) (fun c_87 => ?_)
        · skip
          exact absurd c_87 (ck_njm1 (by omega))
        · skip
          obtain ⟨n0, rfl⟩ : ∃ n0, n = n0 + 1 := ⟨n - 1, by omega⟩
          refine lv_aload_n hx hb dX3_syn_90 rfl (lv_at hl 2 rfl) ?_
          refine va_get (D := (dC, dI)) (ci := 3) (v := .ref h) (C := RX3) (T := TX3) (N := 11) hx hb hts (k_X3_syn_in3) hown hK hP 0 rfl rfl 1 (by decide) (hts _ k_X3_syn_f19) (fun _ h9 => h9) rfl dX3_syn_91 ?_
          refine lv_iload hx hb dX3_syn_94 (lv_at hl 0 rfl) ?_
          refine ck_cv (wr := [(o, .inr (3, [.ref sp, .ref h, .ref cn, .int zs, .int rq, .int ti, .int ct, .int gv, .int bh, .int bc, .int un])), (sp, .inr (2, [.long k, .long l0, .long v0, .long v1, .long v2, .long v3])), (cn, .inr (0, [.ref b1, .ref b2, .int (nI kc), .int (nI t)])), (b1, .inl (cJ, 64, .inr (.inl g1))), (b2, .inl (cI, 64, .inl g2))]) (va_runV (As := [.int (nI j_5)]) (rest := []) ⟨hx, hb, hml, hown, hts⟩ (c_X1_drop l dC dI cI cJ cZ lo _ h a1 a2 a3 a4 a5 n0 f1 f2 f3 f4 f5 j_5 (by first | assumption | omega) (by first | assumption | omega)) (cwV 1 hts gX3_syn_X1_drop rfl rfl rfl (by decide +kernel) ⟨(Nat.le_of_ble_eq_true rfl), (Nat.le_of_ble_eq_true rfl)⟩) ⟨ck_blind, va_recv hK hP (ci := 1) (q0 := 2) rfl rfl, (ck_pre hG hP hD hS [2, 3, 4, 5, 6, 7] rfl (by decide) _)⟩ rfl rfl hl.1 rfl (lv_room (Nat.le_of_ble_eq_true rfl)) dX3_syn_96 ⟨(Nat.le_of_ble_eq_true rfl), (Nat.le_of_ble_eq_true rfl)⟩) hP hD hS hA [2, 3, 4, 5, 6, 7] [0, 1, 8, 9, 10] rfl rfl (by decide) (by decide) (fun u H locs hw_9 hP hD hS => ?_)
          have hP : va_P (dC, dI) vwCl [(o, .inr (3, [.ref sp, .ref h, .ref cn, .int zs, .int rq, .int ti, .int ct, .int gv, .int bh, .int bc, .int un])), (sp, .inr (2, [.long k, .long l0, .long v0, .long v1, .long v2, .long v3])), (cn, .inr (0, [.ref b1, .ref b2, .int (nI kc), .int (nI t)])), (b1, .inl (cJ, 64, .inr (.inl g1))), (b2, .inl (cI, 64, .inl g2)), (h, .inr (1, [.ref a1, .ref a2, .ref a3, .ref a4, .ref a5, .int (nI n0)])), (a1, .inl (cJ, 32, .inr (.inl (vp_updL f1 j_5 (f1 n0))))), (a2, .inl (cI, 32, .inl (upd f2 j_5 (f2 n0)))), (a3, .inl (cI, 32, .inl (upd f3 j_5 (f3 n0)))), (a4, .inl (cI, 32, .inl (upd f4 j_5 (f4 n0)))), (a5, .inl (cI, 32, .inl (upd f5 j_5 (f5 n0))))] H := hP
          have hD : va_D A [(o, .inr (3, [.ref sp, .ref h, .ref cn, .int zs, .int rq, .int ti, .int ct, .int gv, .int bh, .int bc, .int un])), (sp, .inr (2, [.long k, .long l0, .long v0, .long v1, .long v2, .long v3])), (cn, .inr (0, [.ref b1, .ref b2, .int (nI kc), .int (nI t)])), (b1, .inl (cJ, 64, .inr (.inl g1))), (b2, .inl (cI, 64, .inl g2)), (h, .inr (1, [.ref a1, .ref a2, .ref a3, .ref a4, .ref a5, .int (nI n0)])), (a1, .inl (cJ, 32, .inr (.inl (vp_updL f1 j_5 (f1 n0))))), (a2, .inl (cI, 32, .inl (upd f2 j_5 (f2 n0)))), (a3, .inl (cI, 32, .inl (upd f3 j_5 (f3 n0)))), (a4, .inl (cI, 32, .inl (upd f4 j_5 (f4 n0)))), (a5, .inl (cI, 32, .inl (upd f5 j_5 (f5 n0))))] := hD
          refine lv_aload_n hx hb dX3_syn_99 rfl (lv_at hl 2 rfl) ?_
          refine lv_lload hx hb dX3_syn_100 (lv_at hl 1 rfl) ?_
          refine lv_iload_n hx hb dX3_syn_102 rfl (lv_at hl 5 rfl) ?_
          refine lv_iload hx hb dX3_syn_103 (lv_at hl 6 rfl) ?_
          refine ck_ri (va_runS (As := [.int z]) (rest := [.int num, .long (ck_clr aa bb), .ref o]) ⟨hx, hb, hml, hown, hts⟩ (c_X3_kindOf l dC dI cI cJ cZ lo _ z) (va_cwS 1 hts gX3_syn_X3_kindOf rfl rfl rfl (by decide +kernel) ⟨(Nat.le_of_ble_eq_true rfl), (Nat.le_of_ble_eq_true rfl)⟩) ⟨ck_blind, (ck_pre hG hP hD hS [] rfl (by decide) _)⟩ rfl rfl hl.1 rfl (lv_room (Nat.le_of_ble_eq_true rfl)) dX3_syn_105 ⟨(Nat.le_of_ble_eq_true rfl), (Nat.le_of_ble_eq_true rfl)⟩) (fun r_10 hw_10 => ?_)
          have hw_10 : r_10 = ck_kdi 8 z := hw_10
          subst hw_10
          refine ck_ci (wr := [(cn, .inr (0, [.ref b1, .ref b2, .int (nI kc), .int (nI t)])), (b1, .inl (cJ, 64, .inr (.inl g1))), (b2, .inl (cI, 64, .inl g2))]) (va_runV (As := [.long (ck_clr aa bb), .int num, .int (ck_kdi 8 z)]) (rest := []) ⟨hx, hb, hml, hown, hts⟩ (c_X3_answerNewSyn l dC dI cI cJ cZ lo _ o sp h cn zs rq ti ct gv bh bc un k l0 v0 v1 v2 v3 a1 a2 a3 a4 a5 n0 (vp_updL f1 j_5 (f1 n0)) (upd f2 j_5 (f2 n0)) (upd f3 j_5 (f3 n0)) (upd f4 j_5 (f4 n0)) (upd f5 j_5 (f5 n0)) (ck_clr aa bb) num (ck_kdi 8 z) (by first | assumption | omega) (by first | assumption | omega)) (cwV 3 hts gX3_syn_X3_answerNewSyn rfl rfl rfl (by decide +kernel) ⟨(Nat.le_of_ble_eq_true rfl), (Nat.le_of_ble_eq_true rfl)⟩) ⟨ck_blind, va_recv hK hP (ci := 3) (q0 := 0) rfl rfl, (ck_pre hG hP hD hS [0, 1, 5, 6, 7, 8, 9, 10] rfl (by decide) _)⟩ rfl rfl hl.1 rfl (lv_room (Nat.le_of_ble_eq_true rfl)) dX3_syn_108 ⟨(Nat.le_of_ble_eq_true rfl), (Nat.le_of_ble_eq_true rfl)⟩) hP hD hS hA [0, 1, 5, 6, 7, 8, 9, 10] [2, 3, 4] rfl rfl (by decide) (by decide) (fun r_11 u H locs hw_11 hP hD hS => ?_)
          obtain ⟨ct2_11, gv2_11, n2_11, w1_11, w2_11, w3_11, w4_11, w5_11, u0_11, u1_11, u2_11, u3_11⟩ := u
          have hw_11 : (¬ nI n0 < zs ∧ r_11 = ck_ckk k l0 (ck_clr aa bb) num (ck_kdi 8 z) (ti / 64) ∧ gv2_11 = gv + 1 ∧ ct2_11 = ti ∧ n2_11 = n0 ∧ w1_11 = (vp_updL f1 j_5 (f1 n0)) ∧ w2_11 = (upd f2 j_5 (f2 n0)) ∧ w3_11 = (upd f3 j_5 (f3 n0)) ∧ w4_11 = (upd f4 j_5 (f4 n0)) ∧ w5_11 = (upd f5 j_5 (f5 n0))) ∨ (nI n0 < zs ∧ r_11 = ck_ckk k l0 (ck_clr aa bb) num (ck_kdi 8 z) (ti / 64) ^^^ (-16777216) ∧ gv2_11 = gv ∧ ct2_11 = ct ∧ n2_11 = n0 + 1 ∧ w1_11 = vp_updL (vp_updL f1 j_5 (f1 n0)) n0 (ck_clr aa bb) ∧ w2_11 = upd (upd f2 j_5 (f2 n0)) n0 num ∧ w3_11 = upd (upd f3 j_5 (f3 n0)) n0 (ck_ckk k l0 (ck_clr aa bb) num (ck_kdi 8 z) (ti / 64) ^^^ (-16777216)) ∧ w4_11 = upd (upd f4 j_5 (f4 n0)) n0 (ck_kdi 8 z) ∧ w5_11 = upd (upd f5 j_5 (f5 n0)) n0 ti) := hw_11
          have hP : va_P (dC, dI) vwCl [(cn, .inr (0, [.ref b1, .ref b2, .int (nI kc), .int (nI t)])), (b1, .inl (cJ, 64, .inr (.inl g1))), (b2, .inl (cI, 64, .inl g2)), (o, .inr (3, [.ref sp, .ref h, .ref cn, .int zs, .int rq, .int ti, .int ct2_11, .int gv2_11, .int bh, .int bc, .int un])), (sp, .inr (2, [.long k, .long l0, .long u0_11, .long u1_11, .long u2_11, .long u3_11])), (h, .inr (1, [.ref a1, .ref a2, .ref a3, .ref a4, .ref a5, .int (nI n2_11)])), (a1, .inl (cJ, 32, .inr (.inl w1_11))), (a2, .inl (cI, 32, .inl w2_11)), (a3, .inl (cI, 32, .inl w3_11)), (a4, .inl (cI, 32, .inl w4_11)), (a5, .inl (cI, 32, .inl w5_11))] H := hP
          have hD : va_D A [(cn, .inr (0, [.ref b1, .ref b2, .int (nI kc), .int (nI t)])), (b1, .inl (cJ, 64, .inr (.inl g1))), (b2, .inl (cI, 64, .inl g2)), (o, .inr (3, [.ref sp, .ref h, .ref cn, .int zs, .int rq, .int ti, .int ct2_11, .int gv2_11, .int bh, .int bc, .int un])), (sp, .inr (2, [.long k, .long l0, .long u0_11, .long u1_11, .long u2_11, .long u3_11])), (h, .inr (1, [.ref a1, .ref a2, .ref a3, .ref a4, .ref a5, .int (nI n2_11)])), (a1, .inl (cJ, 32, .inr (.inl w1_11))), (a2, .inl (cI, 32, .inl w2_11)), (a3, .inl (cI, 32, .inl w3_11)), (a4, .inl (cI, 32, .inl w4_11)), (a5, .inl (cI, 32, .inl w5_11))] := hD
          refine ck_rl (va_runS (As := [.int r_11]) (rest := []) ⟨hx, hb, hml, hown, hts⟩ (c_X3_withoutSign l dC dI cI cJ cZ lo _ r_11) (va_cwS 1 hts gX3_syn_X3_withoutSign rfl rfl rfl (by decide +kernel) ⟨(Nat.le_of_ble_eq_true rfl), (Nat.le_of_ble_eq_true rfl)⟩) ⟨ck_blind, (ck_pre hG hP hD hS [] rfl (by decide) _)⟩ rfl rfl hl.1 rfl (lv_room (Nat.le_of_ble_eq_true rfl)) dX3_syn_111 ⟨(Nat.le_of_ble_eq_true rfl), (Nat.le_of_ble_eq_true rfl)⟩) (fun r_12 hw_12 => ?_)
          have hw_12 : r_12 = ck_wos r_11 := hw_12
          subst hw_12
          refine ck_lr hx hb hr hlocks (Nat.le_of_ble_eq_true rfl) (Nat.le_of_ble_eq_true rfl) dX3_syn_114 (ct2_11, gv2_11, n2_11, w1_11, w2_11, w3_11, w4_11, w5_11, u0_11, u1_11, u2_11, u3_11) (hP.sub [3, 4, 5, 6, 7, 8, 9, 10, 0, 1, 2] rfl) (hD.sub [3, 4, 5, 6, 7, 8, 9, 10, 0, 1, 2] (by decide) rfl) hS ?_
          refine Or.inr (Or.inr ⟨hn_4, _, _, Or.inr ⟨_, hj_5, hf_5, fun e9 => c_67 e9, rfl, ck_gone_swap (by omega) (ck_swapR _ _ _ _ _ _ _)⟩, ?_⟩)
          rcases hw_11 with ⟨z1, z2, z3, z4, z5, z6, z7, z8, z9, z10⟩ | ⟨z1, z2, z3, z4, z5, z6, z7, z8, z9, z10⟩
          · subst_vars
            exact Or.inl ⟨z1, rfl, rfl, rfl, rfl, rfl⟩
          · subst_vars
            exact Or.inr ⟨z1, rfl, rfl, rfl, rfl, ck_addR _ _ _ _ _ _ _ _ _ _ _⟩
      · skip
        refine lv_aload_n hx hb dX3_syn_70 rfl (lv_at hl 2 rfl) ?_
        refine va_get (D := (dC, dI)) (ci := 3) (v := .ref h) (C := RX3) (T := TX3) (N := 11) hx hb hts (k_X3_syn_in3) hown hK hP 0 rfl rfl 1 (by decide) (hts _ k_X3_syn_f19) (fun _ h9 => h9) rfl dX3_syn_71 ?_
        refine va_getN (D := (dC, dI)) (ci := 1) (v := .ref a3) (C := RX1) (T := TX1) (N := 6) hx hb hts (k_X3_syn_in1) hown hK hP 2 rfl rfl 2 (by decide) (va_Nw.use rfl (hE.2.1.2.2.2.2.2.2.2.1)) (fun _ h9 => h9) rfl dX3_syn_74 ?_
        refine lv_iload hx hb dX3_syn_77 (lv_at hl 0 rfl) ?_
        refine ck_iald hx hb hK hP 5 0 rfl rfl (by omega) (by decide) dX3_syn_79 ?_
        refine ck_rl (va_runS (As := [.int (f3 j_5)]) (rest := []) ⟨hx, hb, hml, hown, hts⟩ (c_X3_withoutSign l dC dI cI cJ cZ lo _ (f3 j_5)) (va_cwS 1 hts gX3_syn_X3_withoutSign rfl rfl rfl (by decide +kernel) ⟨(Nat.le_of_ble_eq_true rfl), (Nat.le_of_ble_eq_true rfl)⟩) ⟨ck_blind, (ck_pre hG hP hD hS [] rfl (by decide) _)⟩ rfl rfl hl.1 rfl (lv_room (Nat.le_of_ble_eq_true rfl)) dX3_syn_80 ⟨(Nat.le_of_ble_eq_true rfl), (Nat.le_of_ble_eq_true rfl)⟩) (fun r_13 hw_13 => ?_)
        have hw_13 : r_13 = ck_wos (f3 j_5) := hw_13
        subst hw_13
        refine ck_lr hx hb hr hlocks (Nat.le_of_ble_eq_true rfl) (Nat.le_of_ble_eq_true rfl) dX3_syn_83 (ct, gv, n, f1, f2, f3, f4, f5, v0, v1, v2, v3) hP hD hS ?_
        exact Or.inr (Or.inl ⟨hn_4, ⟨_, hj_5, hf_5, c_67, rfl⟩, rfl, rfl, rfl, rfl, rfl, rfl, rfl, rfl⟩)
  · skip
    obtain ⟨j_4, hj_4, ej_4, hf_4⟩ := hw_4.resolve_left (fun z => c_32 z.1)
    subst ej_4
    refine lv_ldc2 hx hb hown (hts _ k_X3_syn_c76) dX3_syn_35 ?_
    refine ck_lr hx hb hr hlocks (Nat.le_of_ble_eq_true rfl) (Nat.le_of_ble_eq_true rfl) dX3_syn_38 (ct, gv, n, f1, f2, f3, f4, f5, v0, v1, v2, v3) hP hD hS ?_
    exact Or.inl ⟨⟨_, hj_4, hf_4⟩, rfl, rfl, rfl, rfl, rfl, rfl, rfl, rfl, rfl⟩
end
