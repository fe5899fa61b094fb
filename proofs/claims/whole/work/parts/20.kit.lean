/-! MY ROWS: what of the start every method may need: the nest's links, the string constants, three statics; it lies below lo -/
def ck_IAE : String := "java/lang/IllegalArgumentException"
def ck_sz : List Int32 := [64, 256, 536, 1024, 1220, 1440, 1460, 4096]
def ck_Low (lo : Nat) : Nat → Prop := fun q => lo ≤ q
/-- the links of nest mates -/
def ck_N (U : State) : Prop :=
  va_Nw (.fieldLinkNest "CookieListener" 112 "CookieListener$Connections" "callers" "[J" "CookieListener") U ∧
  va_Nw (.fieldLinkNest "CookieListener" 119 "CookieListener$Connections" "kinds" "[I" "CookieListener") U ∧
  va_Nw (.fieldLinkNest "CookieListener" 137 "CookieListener$Halves" "count" "I" "CookieListener") U ∧
  va_Nw (.fieldLinkNest "CookieListener" 143 "CookieListener$Connections" "count" "I" "CookieListener") U ∧
  va_Nw (.fieldLinkNest "CookieListener" 173 "CookieListener$Halves" "callers" "[J" "CookieListener") U ∧
  va_Nw (.fieldLinkNest "CookieListener" 174 "CookieListener$Halves" "kinds" "[I" "CookieListener") U ∧
  va_Nw (.fieldLinkNest "CookieListener" 79 "CookieListener$Halves" "numbers" "[I" "CookieListener") U ∧
  va_Nw (.fieldLinkNest "CookieListener" 83 "CookieListener$Halves" "answers" "[I" "CookieListener") U ∧
  va_Nw (.methodLinkNest "CookieListener" 18 yX1_init "CookieListener") U ∧
  va_Nw (.methodLinkNest "CookieListener" 25 yX0_init "CookieListener") U ∧
  va_Nw (.methodLinkNest "CookieListener" 9 yX2_init "CookieListener") U
def ck_E (lo : Nat) (U : State) : Prop :=
  lo ≤ U.heap.size ∧ ck_N U ∧ (va_Nw (.castable ck_IAE ck_IAE) U ∧ va_Nw (.declares (Bundle.initS "java/lang/RuntimeException")) U ∧ va_Nw (.declares (Bundle.initS "java/lang/Exception")) U ∧ va_Nw (.declares (Bundle.initS Bundle.tN)) U) ∧
  (∃ a, vk_R "CookieListener" 146 "what is not 0 to 7" a U) ∧ (∃ a, vk_R "CookieListener" 151 "an argument is outside of what is allowed" a U) ∧
  vx_Zq Bundle.tN "UNASSIGNED_STACK" Bundle.steD (ck_Low lo) U U.heap ∧ vx_Zq Bundle.tN "SUPPRESSED_SENTINEL" Bundle.listD (ck_Low lo) U U.heap ∧
  ∃ t, va_Z "CookieListener" "GREATEST_SIZES" "[I" (.ref t) (ck_Low lo) U U.heap ∧ va_T .int t 8 (fun j => .int (ck_sz.getD j 0)) (ck_Low lo) U U.heap
theorem ck_N.warm {s U : State} (hW : s.WarmedH U.vm) (h : ck_N s) : ck_N U := by
  obtain ⟨h1, h2, h3, h4, h5, h6, h7, h8, h9, h10, h11⟩ := h
  exact ⟨h1.warmF hW, h2.warmF hW, h3.warmF hW, h4.warmF hW, h5.warmF hW, h6.warmF hW, h7.warmF hW, h8.warmF hW, h9.warmM hW, h10.warmM hW, h11.warmM hW⟩
theorem ck_E.next {lo : Nat} {s U : State} {A : Nat → Prop} {H : Heap} {locs : List Loc} (hE : ck_E lo s) (hS : va_S A s.heap H locs) (hlo : ∀ q, A q → lo ≤ q) (hU : U.heap = H) (hW : s.WarmedH U.vm) : ck_E lo U := by
  obtain ⟨h0, h1, hc, ⟨a2, h2⟩, ⟨a3, h3⟩, h4, h5, t, h6, h7⟩ := hE
  have hk : ∀ a : Nat, a < s.heap.size → ¬ ck_Low lo a → U.heap[a]? = s.heap[a]? := fun a h1 h2 => by
    rw [hU]; exact hS.2.1 a h1 (fun z => h2 (hlo a z))
  exact ⟨by rw [hU]; exact Nat.le_trans h0 hS.1, h1.warm hW, ⟨hc.1.warmC hW, hc.2.1.warmD hW, hc.2.2.1.warmD hW, hc.2.2.2.warmD hW⟩, ⟨a2, h2.warm hW⟩, ⟨a3, h3.warm hW⟩, (h4.kept hk).moved hW.alike, (h5.kept hk).moved hW.alike, t, (h6.kept hk).moved hW.alike, (h7.kept hk).moved hW.alike⟩
theorem ck_E.same {lo : Nat} {s U : State} (hv : U.vm = s.vm) (hh : U.heap = s.heap) (hE : ck_E lo s) : ck_E lo U := by
  have hW : s.WarmedH U.vm := by rw [hv]; exact State.WarmedH.refl s
  exact hE.next (A := fun _ => False) (locs := []) va_S.rf (fun _ h => h.elim) hh hW
theorem ck_lo {lo sz : Nat} {w : va_W} (hD : va_D (fun q => lo ≤ q) w) (hs : lo ≤ sz) : ∀ q, va_A w sz q → lo ≤ q := by
  intro q h
  rcases h with ⟨k, e, h⟩ | h
  · exact hD.2 k _ h
  · exact Nat.le_trans hs h
/-! MY ROWS: what stays the same through a method, and a call in one row -/
def ck_P (D : va_G) (tys : List (ClassId × FieldType)) (lo sz : Nat) (w : va_W) (U : State) : Prop := U.heap.size = sz ∧ va_P D vwCl w U.heap ∧ va_K D vwCl tys U ∧ va_D (fun q => lo ≤ q) w ∧ ck_E lo U
def ck_G (D : va_G) (tys : List (ClassId × FieldType)) (lo : Nat) (A : Nat → Prop) (s : State) : Prop := va_K D vwCl tys s ∧ ck_E lo s ∧ (∀ q, s.heap.size ≤ q → A q) ∧ ∀ q, A q → lo ≤ q
theorem ck_blind {D : va_G} {tys : List (ClassId × FieldType)} {lo sz : Nat} {w : va_W} {av : List Value} : FrameBlind (va_Pc av (ck_P D tys lo sz w)) := by
  intro a U g mk q
  obtain ⟨q0, q1, qP, qK, qD, qE⟩ := q
  exact ⟨q0, q1, qP, va_K.moved (u := U) (U := U.calling g mk a) (Vm.Alike.refl U.vm) qK, qD, ck_E.same (U := U.calling g mk a) rfl rfl qE⟩
theorem ck_pre {D : va_G} {tys : List (ClassId × FieldType)} {lo : Nat} {A : Nat → Prop} {s : State} {H : Heap} {locs : List Loc} {ws wc : va_W} (hG : ck_G D tys lo A s) (hP : va_P D vwCl ws H) (hD : va_D A ws) (hS : va_S A s.heap H locs) (isC : List Nat) (hC : isC.map (fun i => ws[i]?) = wc.map some) (hn : va_nd isC = true) (av : List Value) :
    ∀ U : State, U.heap = H → s.WarmedH U.vm → va_Pc av (ck_P D tys lo H.size wc) av.toArray U := by
  obtain ⟨hK, hE, hA, hlo⟩ := hG
  intro U hU hW
  have hPc : va_P D vwCl wc H := by
    intro k q hk
    have h1 : (isC.map (fun i => ws[i]?))[k]? = some (some q) := by rw [hC, List.getElem?_map, hk]; rfl
    rw [List.getElem?_map] at h1
    cases hi : isC[k]? with
    | none => rw [hi] at h1; cases h1
    | some i => rw [hi] at h1; exact hP i q (Option.some.inj h1)
  exact ⟨rfl, by rw [hU], by rw [hU]; exact hPc, va_K.moved hW.alike hK, (hD.sub (ws' := wc) isC hn hC).weaken (fun _ _ _ h => hlo _ h), ck_E.next hE hS hlo hU hW⟩
/-! MY ROWS: worlds at a call in one row, ends in one row, arrays at a Nat index -/
def ck_B (D : va_G) (cl : List vw_C) (A : Nat → Prop) (w : va_W) (t : State) : Prop := va_P D cl w t.heap ∧ va_D A w
section CKA
variable {p : Program} {l : Launch} {e : Env} {R : Room} {s : State} {m : MethodId} {args : Array Value} {below : List Frame} {meth : Method} {c : Code} {H : Heap} {locs : List Loc} {cells slots : Nat} {Q : State → Prop}
variable {pc : Nat} {ls : Array Slot} {rest st0 : List Value} {a : Array Value} {A : Nat → Prop} {mc ms : Nat} {D : va_G} {cl : List vw_C} {tys : List (ClassId × FieldType)} {ws wc wr : va_W} {cc : ByteArray}
theorem ck_ci {S : Type} {post : Int32 → S → Prop} {W1 : S → va_W} (hr : va_Run p l e R s m args below meth c H locs cells slots mc ms (F0 m pc ls st0) rest (va_Qi post (fun u => ck_B D cl (va_A wc H.size) (W1 u)) (va_A wc H.size) a) (va_A wc H.size)) (hP : va_P D cl ws H) (hD : va_D A ws) (hS : va_S A s.heap H locs) (hA : ∀ q, s.heap.size ≤ q → A q) (isC isR : List Nat) (hC : isC.map (fun i => ws[i]?) = wc.map some) (hR : isR.map (fun i => ws[i]?) = wr.map some) (hn : va_nd isR = true) (hdis : ∀ i ∈ isR, i ∉ isC)
    (kk : ∀ (r : Int32) (u : S) (H1 : Heap) (locs1 : List Loc), post r u → va_P D cl (wr ++ W1 u) H1 → va_D A (wr ++ W1 u) → va_S A s.heap H1 locs1 → W p l e R s m args below meth c H1 locs1 (cells + mc) (slots + ms) Q (F0 m (pc + 3) ls (.int r :: rest))) : W p l e R s m args below meth c H locs cells slots Q (F0 m pc ls st0) := by
  have hF := va_free (wc := wc) hD hS hA isC hC
  refine va_calli hr hS (fun q _ h => hF q h) hF (fun r u t H1 locs1 ht hvm hw hB hz hk hS1 => ?_)
  obtain ⟨hP1, hD1⟩ := hB
  rw [ht] at hP1
  obtain ⟨hP2, hD2⟩ := va_join hP hD isC isR hC hR hn hdis hk hF hP1 hD1
  exact kk r u H1 locs1 hw hP2 hD2 hS1
theorem ck_cl {S : Type} {post : Int64 → S → Prop} {W1 : S → va_W} (hr : va_Run p l e R s m args below meth c H locs cells slots mc ms (F0 m pc ls st0) rest (va_Ql post (fun u => ck_B D cl (va_A wc H.size) (W1 u)) (va_A wc H.size) a) (va_A wc H.size)) (hP : va_P D cl ws H) (hD : va_D A ws) (hS : va_S A s.heap H locs) (hA : ∀ q, s.heap.size ≤ q → A q) (isC isR : List Nat) (hC : isC.map (fun i => ws[i]?) = wc.map some) (hR : isR.map (fun i => ws[i]?) = wr.map some) (hn : va_nd isR = true) (hdis : ∀ i ∈ isR, i ∉ isC)
    (kk : ∀ (r : Int64) (u : S) (H1 : Heap) (locs1 : List Loc), post r u → va_P D cl (wr ++ W1 u) H1 → va_D A (wr ++ W1 u) → va_S A s.heap H1 locs1 → W p l e R s m args below meth c H1 locs1 (cells + mc) (slots + ms) Q (F0 m (pc + 3) ls (.long r :: rest))) : W p l e R s m args below meth c H locs cells slots Q (F0 m pc ls st0) := by
  have hF := va_free (wc := wc) hD hS hA isC hC
  refine va_calll hr hS (fun q _ h => hF q h) hF (fun r u t H1 locs1 ht hvm hw hB hz hk hS1 => ?_)
  obtain ⟨hP1, hD1⟩ := hB
  rw [ht] at hP1
  obtain ⟨hP2, hD2⟩ := va_join hP hD isC isR hC hR hn hdis hk hF hP1 hD1
  exact kk r u H1 locs1 hw hP2 hD2 hS1
theorem ck_cv {S : Type} {post : S → Prop} {W1 : S → va_W} (hr : va_Run p l e R s m args below meth c H locs cells slots mc ms (F0 m pc ls st0) rest (va_Qv post (fun u => ck_B D cl (va_A wc H.size) (W1 u)) (va_A wc H.size) a) (va_A wc H.size)) (hP : va_P D cl ws H) (hD : va_D A ws) (hS : va_S A s.heap H locs) (hA : ∀ q, s.heap.size ≤ q → A q) (isC isR : List Nat) (hC : isC.map (fun i => ws[i]?) = wc.map some) (hR : isR.map (fun i => ws[i]?) = wr.map some) (hn : va_nd isR = true) (hdis : ∀ i ∈ isR, i ∉ isC)
    (kk : ∀ (u : S) (H1 : Heap) (locs1 : List Loc), post u → va_P D cl (wr ++ W1 u) H1 → va_D A (wr ++ W1 u) → va_S A s.heap H1 locs1 → W p l e R s m args below meth c H1 locs1 (cells + mc) (slots + ms) Q (F0 m (pc + 3) ls rest)) : W p l e R s m args below meth c H locs cells slots Q (F0 m pc ls st0) := by
  have hF := va_free (wc := wc) hD hS hA isC hC
  refine va_callv hr hS (fun q _ h => hF q h) hF (fun u t H1 locs1 ht hvm hw hB hz hk hS1 => ?_)
  obtain ⟨hP1, hD1⟩ := hB
  rw [ht] at hP1
  obtain ⟨hP2, hD2⟩ := va_join hP hD isC isR hC hR hn hdis hk hF hP1 hD1
  exact kk u H1 locs1 hw hP2 hD2 hS1
/-- ends -/
theorem ck_ir {S : Type} {post : Int32 → S → Prop} {W1 : S → va_W} {v : Int32} (hexec : p.tables.exec = Jvm.exec) (hb : c.code = cc) (hr : meth.sig.returnType = some .int) (hlocks : meth.locks = false) (hc : cells ≤ mc) (hs : slots ≤ ms) (hdg : decode cc pc = .ok (.ireturn, 1)) (u : S) (hP : va_P D cl (W1 u) H) (hD : va_D A (W1 u)) (hS : va_S A s.heap H locs) (hp : post v u) : W p l e R s m args below meth c H locs cells slots (MQ below (va_Qi post (fun u => ck_B D cl A (W1 u)) A) args s mc ms A) (F0 m pc ls [.int v]) := by
  refine W.widen (k := mc) (n := ms) hc hs ?_
  exact W.iret (v := v) hexec hb hr (fun t ht hW => ⟨⟨v, u, rfl, hp, by rw [ht]; exact hP, hD⟩, hS.F ht⟩) hS.2.2 hdg hlocks
theorem ck_zr {S : Type} {post : Int32 → S → Prop} {W1 : S → va_W} {v : Int32} (hexec : p.tables.exec = Jvm.exec) (hb : c.code = cc) (hr : meth.sig.returnType = some .boolean) (hlocks : meth.locks = false) (hv : v = 0 ∨ v = 1) (hc : cells ≤ mc) (hs : slots ≤ ms) (hdg : decode cc pc = .ok (.ireturn, 1)) (u : S) (hP : va_P D cl (W1 u) H) (hD : va_D A (W1 u)) (hS : va_S A s.heap H locs) (hp : post v u) : W p l e R s m args below meth c H locs cells slots (MQ below (va_Qi post (fun u => ck_B D cl A (W1 u)) A) args s mc ms A) (F0 m pc ls [.int v]) := by
  refine W.widen (k := mc) (n := ms) hc hs ?_
  exact W.zret (v := v) (ty := .boolean) hexec hb hr (by rcases hv with rfl | rfl <;> rfl) (fun t ht hW => ⟨⟨v, u, rfl, hp, by rw [ht]; exact hP, hD⟩, hS.F ht⟩) hS.2.2 hdg hlocks
theorem ck_lr {S : Type} {post : Int64 → S → Prop} {W1 : S → va_W} {v : Int64} (hexec : p.tables.exec = Jvm.exec) (hb : c.code = cc) (hr : meth.sig.returnType = some .long) (hlocks : meth.locks = false) (hc : cells ≤ mc) (hs : slots ≤ ms) (hdg : decode cc pc = .ok (.lreturn, 1)) (u : S) (hP : va_P D cl (W1 u) H) (hD : va_D A (W1 u)) (hS : va_S A s.heap H locs) (hp : post v u) : W p l e R s m args below meth c H locs cells slots (MQ below (va_Ql post (fun u => ck_B D cl A (W1 u)) A) args s mc ms A) (F0 m pc ls [.long v]) := by
  refine W.widen (k := mc) (n := ms) hc hs ?_
  exact W.lret (v := v) hexec hb hr (fun t ht hW => ⟨⟨v, u, rfl, hp, by rw [ht]; exact hP, hD⟩, hS.F ht⟩) hS.2.2 hdg hlocks
theorem ck_vr {S : Type} {post : S → Prop} {W1 : S → va_W} (hexec : p.tables.exec = Jvm.exec) (hb : c.code = cc) (hr : meth.sig.returnType = none) (hlocks : meth.locks = false) (hc : cells ≤ mc) (hs : slots ≤ ms) (hdg : decode cc pc = .ok (.return_, 1)) (u : S) (hP : va_P D cl (W1 u) H) (hD : va_D A (W1 u)) (hS : va_S A s.heap H locs) (hp : post u) : W p l e R s m args below meth c H locs cells slots (MQ below (va_Qv post (fun u => ck_B D cl A (W1 u)) A) args s mc ms A) (F0 m pc ls []) := by
  refine W.widen (k := mc) (n := ms) hc hs ?_
  exact W.vret hexec hb hr (fun t ht hW => ⟨⟨u, rfl, hp, by rw [ht]; exact hP, hD⟩, hS.F ht⟩) hS.2.2 hdg hlocks
/-- the top of the stack under another name -/
theorem ck_toi {x y : Int32} (h : x = y) (k : W p l e R s m args below meth c H locs cells slots Q (F0 m pc ls (.int y :: rest))) : W p l e R s m args below meth c H locs cells slots Q (F0 m pc ls (.int x :: rest)) := h ▸ k
theorem ck_tol {x y : Int64} (h : x = y) (k : W p l e R s m args below meth c H locs cells slots Q (F0 m pc ls (.long y :: rest))) : W p l e R s m args below meth c H locs cells slots Q (F0 m pc ls (.long x :: rest)) := h ▸ k
/-- arrays at a Nat index -/
theorem ck_zald (hexec : p.tables.exec = Jvm.exec) (hb : c.code = cc) (hK : va_K D cl tys s) (hP : va_P D cl ws H) (q0 t0 : Nat) {cA : ClassId} {n : Nat} {f : Nat → Int32} {b : Nat} (ha : ws[q0]? = some (b, .inl (cA, n, .inl f))) (ht : tys[t0]? = some (cA, .boolean)) {j : Nat} (hj : j < n) (hn : n < 2 ^ 31) (hdg : decode cc pc = .ok (.baload, 1)) (kk : W p l e R s m args below meth c H locs cells slots Q (F0 m (pc + 1) ls (.int (f j) :: rest))) : W p l e R s m args below meth c H locs cells slots Q (F0 m pc ls (.int (nI j) :: .ref b :: rest)) := by
  refine va_zald hexec hb hK hP q0 t0 ha ht (vp_in_nI hj hn) hdg ?_
  rw [nI_clamp (by omega)]
  exact kk
theorem ck_zast (hexec : p.tables.exec = Jvm.exec) (hb : c.code = cc) (hK : va_K D cl tys s) (hP : va_P D cl ws H) (hD : va_D A ws) (hS : va_S A s.heap H locs) (q0 t0 : Nat) {cA : ClassId} {n : Nat} {f : Nat → Int32} {b : Nat} (ha : ws[q0]? = some (b, .inl (cA, n, .inl f))) (ht : tys[t0]? = some (cA, .boolean)) {j : Nat} {x : Int32} (hx : vp_nar .boolean x = x) (hj : j < n) (hn : n < 2 ^ 31) (hdg : decode cc pc = .ok (.bastore, 1)) (kk : ∀ (H1 : Heap) (locs1 : List Loc), va_P D cl (ws.set q0 (b, .inl (cA, n, .inl (upd f j x)))) H1 → va_D A (ws.set q0 (b, .inl (cA, n, .inl (upd f j x)))) → va_S A s.heap H1 locs1 → W p l e R s m args below meth c H1 locs1 cells slots Q (F0 m (pc + 1) ls rest)) : W p l e R s m args below meth c H locs cells slots Q (F0 m pc ls (.int x :: .int (nI j) :: .ref b :: rest)) := by
  have e : (nI j).toNatClampNeg = j := nI_clamp (by omega)
  refine va_zast hexec hb hK hP hD hS q0 t0 ha ht (vp_in_nI hj hn) hdg ?_
  rw [e, hx]
  exact kk
theorem ck_iald (hexec : p.tables.exec = Jvm.exec) (hb : c.code = cc) (hK : va_K D cl tys s) (hP : va_P D cl ws H) (q0 t0 : Nat) {cA : ClassId} {n : Nat} {f : Nat → Int32} {b : Nat} (ha : ws[q0]? = some (b, .inl (cA, n, .inl f))) (ht : tys[t0]? = some (cA, .int)) {j : Nat} (hj : j < n) (hn : n < 2 ^ 31) (hdg : decode cc pc = .ok (.iaload, 1)) (kk : W p l e R s m args below meth c H locs cells slots Q (F0 m (pc + 1) ls (.int (f j) :: rest))) : W p l e R s m args below meth c H locs cells slots Q (F0 m pc ls (.int (nI j) :: .ref b :: rest)) := by
  refine va_iald hexec hb hK hP q0 t0 ha ht (vp_in_nI hj hn) hdg ?_
  rw [nI_clamp (by omega)]
  exact kk
theorem ck_lald (hexec : p.tables.exec = Jvm.exec) (hb : c.code = cc) (hK : va_K D cl tys s) (hP : va_P D cl ws H) (q0 t0 : Nat) {cA : ClassId} {n : Nat} {f : Nat → Int64} {b : Nat} (ha : ws[q0]? = some (b, .inl (cA, n, .inr (.inl f)))) (ht : tys[t0]? = some (cA, .long)) {j : Nat} (hj : j < n) (hn : n < 2 ^ 31) (hdg : decode cc pc = .ok (.laload, 1)) (kk : W p l e R s m args below meth c H locs cells slots Q (F0 m (pc + 1) ls (.long (f j) :: rest))) : W p l e R s m args below meth c H locs cells slots Q (F0 m pc ls (.int (nI j) :: .ref b :: rest)) := by
  refine va_lald hexec hb hK hP q0 t0 ha ht (vp_in_nI hj hn) hdg ?_
  rw [nI_clamp (by omega)]
  exact kk
theorem ck_iast (hexec : p.tables.exec = Jvm.exec) (hb : c.code = cc) (hK : va_K D cl tys s) (hP : va_P D cl ws H) (hD : va_D A ws) (hS : va_S A s.heap H locs) (q0 t0 : Nat) {cA : ClassId} {n : Nat} {f : Nat → Int32} {b : Nat} (ha : ws[q0]? = some (b, .inl (cA, n, .inl f))) (ht : tys[t0]? = some (cA, .int)) {j : Nat} {x : Int32} (hj : j < n) (hn : n < 2 ^ 31) (hdg : decode cc pc = .ok (.iastore, 1)) (kk : ∀ (H1 : Heap) (locs1 : List Loc), va_P D cl (ws.set q0 (b, .inl (cA, n, .inl (upd f j x)))) H1 → va_D A (ws.set q0 (b, .inl (cA, n, .inl (upd f j x)))) → va_S A s.heap H1 locs1 → W p l e R s m args below meth c H1 locs1 cells slots Q (F0 m (pc + 1) ls rest)) : W p l e R s m args below meth c H locs cells slots Q (F0 m pc ls (.int x :: .int (nI j) :: .ref b :: rest)) := by
  have e : (nI j).toNatClampNeg = j := nI_clamp (by omega)
  refine va_iast hexec hb hK hP hD hS q0 t0 ha ht (vp_in_nI hj hn) hdg ?_
  rw [e]
  exact kk
theorem ck_last (hexec : p.tables.exec = Jvm.exec) (hb : c.code = cc) (hK : va_K D cl tys s) (hP : va_P D cl ws H) (hD : va_D A ws) (hS : va_S A s.heap H locs) (q0 t0 : Nat) {cA : ClassId} {n : Nat} {f : Nat → Int64} {b : Nat} (ha : ws[q0]? = some (b, .inl (cA, n, .inr (.inl f)))) (ht : tys[t0]? = some (cA, .long)) {j : Nat} {x : Int64} (hj : j < n) (hn : n < 2 ^ 31) (hdg : decode cc pc = .ok (.lastore, 1)) (kk : ∀ (H1 : Heap) (locs1 : List Loc), va_P D cl (ws.set q0 (b, .inl (cA, n, .inr (.inl (vp_updL f j x))))) H1 → va_D A (ws.set q0 (b, .inl (cA, n, .inr (.inl (vp_updL f j x))))) → va_S A s.heap H1 locs1 → W p l e R s m args below meth c H1 locs1 cells slots Q (F0 m (pc + 1) ls rest)) : W p l e R s m args below meth c H locs cells slots Q (F0 m pc ls (.long x :: .int (nI j) :: .ref b :: rest)) := by
  have e : (nI j).toNatClampNeg = j := nI_clamp (by omega)
  refine va_last hexec hb hK hP hD hS q0 t0 ha ht (vp_in_nI hj hn) hdg ?_
  rw [e]
  exact kk
end CKA
/-! MY ROWS: methods that leave the heap as it is: their calls and ends -/
section CKR
variable {p : Program} {l : Launch} {e : Env} {R : Room} {s : State} {m : MethodId} {args : Array Value} {below : List Frame} {meth : Method} {c : Code} {H : Heap} {locs : List Loc} {cells slots : Nat} {Q : State → Prop}
variable {pc : Nat} {ls : Array Slot} {rest st0 : List Value} {a : Array Value} {cc : ByteArray}
theorem ck_nil {L : List Loc} (h : ∀ q ∈ L, (fun _ : Addr => False) q.base) : L = [] := by
  cases L with
  | nil => rfl
  | cons q _ => exact (h q List.mem_cons_self).elim
theorem ck_ri {post : Int32 → Prop} (hr : va_Run p l e R s m args below meth c H locs cells slots 0 0 (F0 m pc ls st0) rest (vp_Si post a) (fun _ => False)) (kk : ∀ r : Int32, post r → W p l e R s m args below meth c H locs cells slots Q (F0 m (pc + 3) ls (.int r :: rest))) : W p l e R s m args below meth c H locs cells slots Q (F0 m pc ls st0) := by
  intro T hT X
  obtain ⟨v, st₀, t, T', L, h0, X', hL, e1, e2, ⟨r, hv, hp, hh⟩, st⟩ := hr T hT X
  cases hv
  cases ck_nil hL
  rw [List.append_nil] at X'
  obtain ⟨t2, a1, b1⟩ := kk r hp T' (by rw [e1, hh, h0]) X'
  exact ⟨t2, st t2 a1, b1⟩
theorem ck_rl {post : Int64 → Prop} (hr : va_Run p l e R s m args below meth c H locs cells slots 0 0 (F0 m pc ls st0) rest (vp_Sl post a) (fun _ => False)) (kk : ∀ r : Int64, post r → W p l e R s m args below meth c H locs cells slots Q (F0 m (pc + 3) ls (.long r :: rest))) : W p l e R s m args below meth c H locs cells slots Q (F0 m pc ls st0) := by
  intro T hT X
  obtain ⟨v, st₀, t, T', L, h0, X', hL, e1, e2, ⟨r, hv, hp, hh⟩, st⟩ := hr T hT X
  cases hv
  cases ck_nil hL
  rw [List.append_nil] at X'
  obtain ⟨t2, a1, b1⟩ := kk r hp T' (by rw [e1, hh, h0]) X'
  exact ⟨t2, st t2 a1, b1⟩
theorem ck_rv {post : Unit → Prop} (hr : va_Run p l e R s m args below meth c H locs cells slots 0 0 (F0 m pc ls st0) rest (va_Sv post a) (fun _ => False)) (kk : post () → W p l e R s m args below meth c H locs cells slots Q (F0 m (pc + 3) ls rest)) : W p l e R s m args below meth c H locs cells slots Q (F0 m pc ls st0) := by
  intro T hT X
  obtain ⟨v, st₀, t, T', L, h0, X', hL, e1, e2, ⟨hv, hp, hh⟩, st⟩ := hr T hT X
  cases hv
  cases ck_nil hL
  rw [List.append_nil] at X'
  obtain ⟨t2, a1, b1⟩ := kk hp T' (by rw [e1, hh, h0]) X'
  exact ⟨t2, st t2 a1, b1⟩
theorem ck_iq {post : Int32 → Prop} {v : Int32} (hexec : p.tables.exec = Jvm.exec) (hb : c.code = cc) (hr : meth.sig.returnType = some .int) (hlocks : meth.locks = false) (hdg : decode cc pc = .ok (.ireturn, 1)) (hp : post v) : W p l e R s m args below meth c s.heap [] 0 0 (MQ below (vp_Si post) args s 0 0 (fun _ => False)) (F0 m pc ls [.int v]) :=
  W.iret (v := v) hexec hb hr (fun t ht hW => ⟨v, rfl, hp, ht⟩) (fun q h => by cases h) hdg hlocks
theorem ck_zq {post : Int32 → Prop} {v : Int32} (hexec : p.tables.exec = Jvm.exec) (hb : c.code = cc) (hr : meth.sig.returnType = some .boolean) (hlocks : meth.locks = false) (hv : v = 0 ∨ v = 1) (hdg : decode cc pc = .ok (.ireturn, 1)) (hp : post v) : W p l e R s m args below meth c s.heap [] 0 0 (MQ below (vp_Si post) args s 0 0 (fun _ => False)) (F0 m pc ls [.int v]) :=
  W.zret (v := v) (ty := .boolean) hexec hb hr (by rcases hv with rfl | rfl <;> rfl) (fun t ht hW => ⟨v, rfl, hp, ht⟩) (fun q h => by cases h) hdg hlocks
theorem ck_lq {post : Int64 → Prop} {v : Int64} (hexec : p.tables.exec = Jvm.exec) (hb : c.code = cc) (hr : meth.sig.returnType = some .long) (hlocks : meth.locks = false) (hdg : decode cc pc = .ok (.lreturn, 1)) (hp : post v) : W p l e R s m args below meth c s.heap [] 0 0 (MQ below (vp_Sl post) args s 0 0 (fun _ => False)) (F0 m pc ls [.long v]) :=
  W.lret (v := v) hexec hb hr (fun t ht hW => ⟨v, rfl, hp, ht⟩) (fun q h => by cases h) hdg hlocks
theorem ck_vq {post : Unit → Prop} (hexec : p.tables.exec = Jvm.exec) (hb : c.code = cc) (hr : meth.sig.returnType = none) (hlocks : meth.locks = false) (hdg : decode cc pc = .ok (.return_, 1)) (hp : post ()) : W p l e R s m args below meth c s.heap [] 0 0 (MQ below (va_Sv post) args s 0 0 (fun _ => False)) (F0 m pc ls []) :=
  W.vret hexec hb hr (fun t ht hW => ⟨rfl, hp, ht⟩) (fun q h => by cases h) hdg hlocks
end CKR
/-! MY ROWS: the throw of IllegalArgumentException: out of a method, to its caller, into a handler -/
def ck_XC : String → State → State → Prop := fun E st t => E = ck_IAE ∧ st.heap.size ≤ t.heap.size ∧ ∀ q : Nat, q < st.heap.size → t.heap[q]? = st.heap[q]?
def ck_QF : Array Value → State → Outcome → State → Prop := fun _ _ _ _ => False
theorem ck_bad : (vx_atS RX3 148 ck_IAE ["java/lang/RuntimeException", "java/lang/Exception"]).filter (fun w => !goodWord w) = [.declares (Bundle.initS "java/lang/RuntimeException"), .declares (Bundle.initS "java/lang/Exception"), .declares (Bundle.initS Bundle.tN), .castable ck_IAE ck_IAE] := by decide +kernel
theorem ck_ot : ∀ w ∈ Cond.classLink RX3 144 ck_IAE :: Cond.initialized ck_IAE :: vx_atS RX3 148 ck_IAE ["java/lang/RuntimeException", "java/lang/Exception"], vx_ot w = true := by decide +kernel
theorem ck_go {e : Env} {U : State} {f : JFrame} {a : Addr} {x : ExceptionTableEntry} {t : List ExceptionTableEntry} {c : ClassId} {cell : Cell} (hx : covers x f.pc = true) (h0 : x.catchType ≠ 0)
    (hl : U.vm.ClassLinks e.platform f.method.cls x.catchType c) (hcell : U.heap[a]? = some cell) (hobj : ∀ k, cell.vm ≠ .statics k) (hk : ∃ k, U.vm.classes[cell.cls]? = some k) (hc : ∃ k, U.vm.classes[c]? = some k) (hfit : U.vm.assignable cell.cls c = true)
    (Q : Handler → Pre) (E : CtlPost) (d : Bool) (acts : List Action) : wp (findHandler.go f a (x :: t)) Q E e d acts U ↔ Q (.found x.handlerPc) d acts (U.setVm (U.vm.noted f.method.cls x.catchType (.cls c))) := by
  simp only [covers] at hx
  have hal : U.vm.Alike (U.vm.noted f.method.cls x.catchType (.cls c)) := (Vm.Alike.refl U.vm).noted _ _ _
  obtain ⟨k1, hk1, -⟩ := hal.2.2 _ _ hk.choose_spec
  obtain ⟨k2, hk2, -⟩ := hal.2.2 _ _ hc.choose_spec
  have hf : (U.vm.noted f.method.cls x.catchType (.cls c)).assignable cell.cls c = true := by rw [hal.assignable]; exact hfit
  obtain ⟨ha, ht⟩ := (resolveClass_links e.toSetting hl).op (op := VmOp.resolveClass f.method.cls x.catchType) rfl
  simp [findHandler.go, hx, h0, ha, ht, hcell, hobj, hk1, hk2, hf, VmOp.dirties, VmOp.acts]
section CKT
variable {p : Program} {l : Launch} {e : Env} {R : Room} {s : State} {m : MethodId} {args : Array Value} {below : List Frame} {meth : Method} {c : Code} {H : Heap} {locs : List Loc} {cells slots : Nat} {Q : State → Prop}
variable {pc : Nat} {ls : Array Slot} {rest st0 : List Value} {a : Array Value} {cc : ByteArray}
theorem ck_tn {lo is sa : Nat} {text : String} (hl : l.stackTraces = false) (hexec : p.tables.exec = Jvm.exec) (hb : c.code = cc) (hown : s.vm.findClass RX3 = some m.cls) (hE : ck_E lo s) (hk : (Cond.classLink RX3 144 ck_IAE).before args s = true) (hini : (Cond.initialized ck_IAE).before args s = true) (hstr : vk_R RX3 is text sa s)
    (hat : ∀ w ∈ (vx_atS RX3 148 ck_IAE ["java/lang/RuntimeException", "java/lang/Exception"]).filter goodWord, w.before args s = true) (hne : ∀ x ∈ c.exceptionTable.toList, False) (hlocks : meth.locks = false) (hsize : ls.size = c.maxLocals)
    (d0 : decode cc pc = .ok (.new 144, 3)) (d3 : decode cc (pc + 3) = .ok (.dup, 1)) (d4 : decode cc (pc + 4) = .ok (.ldc is, 2)) (d6 : decode cc (pc + 6) = .ok (.invokespecial 148, 3)) (d9 : decode cc (pc + 9) = .ok (.athrow, 1))
    (hRf : 5 < R.frames) (hRl : 82 ≤ R.locals) (hRc : 1 ≤ R.cells) (hRs : 6 ≤ R.slots) : W p l e R s m args below meth c s.heap [] 0 0 (vx_MQ below ck_QF ck_XC args s 1 6 (fun _ => False)) (F0 m pc ls []) := by
  obtain ⟨h0, -, hc, -, -, h4, h5, -⟩ := hE
  have hlow : ∀ q, (fun _ : Nat => False) q → ck_Low lo q := fun _ h => h.elim
  refine vx_throwS (A := fun _ => False) (own := RX3) (cls := ck_IAE) (text := text) (names := ["java/lang/RuntimeException", "java/lang/Exception"]) (sa := sa) hexec hb hl hown (by decide +kernel) (by decide +kernel) hk hini hstr
    (vx_hat hat (B := [.declares (Bundle.initS "java/lang/RuntimeException"), .declares (Bundle.initS "java/lang/Exception"), .declares (Bundle.initS Bundle.tN), .castable ck_IAE ck_IAE]) (by rw [ck_bad]; exact fun _ h => h) (vx_c (hc.2.1.use rfl) (vx_c (hc.2.2.1.use rfl) (vx_c (hc.2.2.2.use rfl) (vx_c (hc.1.use rfl) vx_n))))) ck_ot (h4.narrow hlow) (h5.narrow hlow) va_S.rf hsize d0 d3 d4 d6 d9
    (fun x hx => (hne x hx).elim) hRf (by simpa using hRl) (by omega) (by omega) hlocks (fun t _ h1 h2 => ⟨rfl, h1, h2⟩) (fun z h => by cases h) (Nat.le_refl _) (Nat.le_refl _)
theorem ck_thr (hr : vx_Run p l e R s m args below meth c H locs cells slots 1 6 (F0 m pc ls st0) rest (ck_QF a) ck_XC (fun _ => False))
    (kx : ∀ (ce : Cell) (q9 : Addr) (H1 : Heap), H.size ≤ H1.size → (∀ q : Nat, q < H.size → H1[q]? = H[q]?) → H1[q9]? = some ce → ce.vm = .none → s.vm.findClass ck_IAE = some ce.cls → vx_W p l e R s m args below meth c H1 locs (cells + 1) (slots + 6) Q (F0 m pc ls rest) q9) : W p l e R s m args below meth c H locs cells slots Q (F0 m pc ls st0) := by
  intro T hT X
  rcases hr T hT X with ⟨v, st₀, t, T', L, h0, X', hL, e1, e2, hQ, st⟩ | ⟨q, st₀, t, T', L, E, ce, h0, X', hL, e1, e2, hXC, hce, hcv, hcl, st⟩
  · exact hQ.elim
  · cases ck_nil hL
    rw [List.append_nil] at X'
    obtain ⟨rfl, hz, hk⟩ := hXC
    rw [h0] at hz hk
    obtain ⟨t2, a1, b1⟩ := kx ce q T'.heap (by rw [e1]; exact hz) (fun z h => by rw [e1]; exact hk z h) (by rw [e1]; exact hce) hcv hcl T' rfl X'
    exact ⟨t2, st.trans a1, b1⟩
theorem ck_out {ce : Cell} {q9 : Addr} {H1 : Heap} (hne : ∀ x ∈ c.exceptionTable.toList, False) (hlocks : meth.locks = false) (hz : s.heap.size ≤ H1.size) (hk : ∀ q : Nat, q < s.heap.size → H1[q]? = s.heap[q]?) (hce : H1[q9]? = some ce) (hcv : ce.vm = .none) (hcl : s.vm.findClass ck_IAE = some ce.cls) :
    vx_W p l e R s m args below meth c H1 [] (0 + 1) (0 + 6) (vx_MQ below ck_QF ck_XC args s 1 6 (fun _ => False)) (F0 m pc ls rest) q9 :=
  vx_out (fun x hx => (hne x hx).elim) hlocks hce hcv hcl (fun t ht _ => ⟨rfl, by rw [ht]; exact hz, fun q hq => by rw [ht]; exact hk q hq⟩) (fun z h => by cases h) (Nat.le_refl _) (Nat.le_refl _)
/-- caught by this method's only row -/
theorem ck_catch {own name E : String} {ce : Cell} {q : Addr} (hown : s.vm.findClass own = some m.cls) (x : ExceptionTableEntry) (hsplit : c.exceptionTable.toList = [x]) (hx : covers x pc = true) (h0 : x.catchType ≠ 0)
    (hlink : (Cond.classLink own x.catchType name).before args s = true) (hcast : (Cond.castable E name).before args s = true) (hcell : H[q]? = some ce) (hv : ce.vm = .none) (hcl : s.vm.findClass E = some ce.cls)
    (kk : W p l e R s m args below meth c H locs cells slots Q (F0 m x.handlerPc ls [.ref q])) : vx_W p l e R s m args below meth c H locs cells slots Q (F0 m pc ls rest) q := by
  intro T hT X
  have hpl : e.platform.magicAccessors = ({} : Platform).magicAccessors := by rw [X.admits.platform]
  obtain ⟨c3, c4, hc3, hc4, hasg⟩ := Cond.castable_spec hcast
  cases Option.some.inj (hc3.symm.trans hcl)
  obtain ⟨c5, hc5, hcl5⟩ := Cond.classLink_spec hown hlink e.platform hpl
  cases Option.some.inj (hc4.symm.trans hc5)
  obtain ⟨dk, _, _, kt, hd, _, _, _, _, hkt, _, hopen⟩ := hcl5.here
  have hW' : s.WarmedH (T.vm.noted m.cls x.catchType (.cls c4)) := X.warmed.noted hd hopen (State.rightAt_cls hcl5)
  have hL := X.warmed.classLinks hcl5
  obtain ⟨t, a1, b1⟩ := kk (T.setVm (T.vm.noted m.cls x.catchType (.cls c4))) hT (X.noted hW')
  refine ⟨t, ?_, b1⟩
  have h : At T (F0 m pc ls rest).method c below := X.here
  have hal : T.vm.Alike (T.vm.noted m.cls x.catchType (.cls c4)) := (Vm.Alike.refl T.vm).noted _ _ _
  obtain ⟨k1, hk1, -⟩ := X.warmed.alike.2.2 _ _ (Vm.findClass_spec hcl).choose_spec.1
  obtain ⟨k1', hk1', -⟩ := hal.2.2 _ _ hk1
  obtain ⟨k2, hk2, -⟩ := X.warmed.alike.2.2 _ _ hkt
  obtain ⟨k2', hk2', -⟩ := hal.2.2 _ _ hk2
  have hasg' : (T.vm.noted m.cls x.catchType (.cls c4)).assignable ce.cls c4 = true := by rw [hal.assignable, X.warmed.alike.assignable]; exact hasg
  have hcell' : T.heap[q]? = some ce := by rw [hT]; exact hcell
  have hobj : ∀ k, ce.vm ≠ .statics k := fun k hk => by rw [hv] at hk; cases hk
  have hfind : ∀ (Q9 : Handler → Pre) (E9 : CtlPost) (d9 : Bool) (acts : List Action), wp (findHandler (F0 m pc ls rest) q) Q9 E9 e d9 acts ((T.setTop (F0 m pc ls rest)).pushFrame (.throwing q)) ↔ Q9 (.found x.handlerPc) d9 acts (((T.setTop (F0 m pc ls rest)).pushFrame (.throwing q)).setVm (T.vm.noted m.cls x.catchType (.cls c4))) := by
    intro Q9 E9 d9 acts
    rw [Jvm.W.findHandler_eq (meth := meth) (code := c) X.method' X.code, hsplit]
    exact ck_go (U := (T.setTop (F0 m pc ls rest)).pushFrame (.throwing q)) (t := []) (f := F0 m pc ls rest) hx h0 hL hcell' hobj ⟨k1, hk1⟩ ⟨k2, hk2⟩ (by show T.vm.assignable _ _ = true; rw [X.warmed.alike.assignable]; exact hasg) Q9 E9 d9 acts
  obtain ⟨hgo, hw⟩ := h.throwing q
  refine Steps.head hgo hw ?_
  rw [stepThread_throwing (frames_entered h.top _)]
  have hstep : (stepThrowing e ((T.setTop (F0 m pc ls rest)).pushFrame (.throwing q)) q (.java (F0 m pc ls rest) :: T.frames.tail)).Is ((((T.setTop (F0 m pc ls rest)).pushFrame (.throwing q)).setVm (T.vm.noted m.cls x.catchType (.cls c4))).setFrames (.java (F0 m x.handlerPc ls [.ref q]) :: T.frames.tail)) [] := by
    simp only [stepThrowing, searchFrame, vmDo]
    generalize hr : Sem.go _ e false [] ((T.setTop (F0 m pc ls rest)).pushFrame (.throwing q)) = res
    obtain ⟨as, rfl, ha⟩ := Sem.eq_ok_of hr (a := Handler.found x.handlerPc) (s' := ((T.setTop (F0 m pc ls rest)).pushFrame (.throwing q)).setVm (T.vm.noted m.cls x.catchType (.cls c4))) (acts' := []) (by simp [hfind _ _ _ _])
    exact ⟨rfl, ha⟩
  rw [hstep.1]
  obtain ⟨g₀, hg⟩ := Option.isSome_iff_exists.mp h.top
  obtain ⟨r, hr⟩ := State.topJava?_eq_some.mp hg
  have hr' : (T.setVm (T.vm.noted m.cls x.catchType (.cls c4))).frames = .java g₀ :: r := hr
  rw [State.setTop_of_frames _ hr'] at a1
  have e9 : (((T.setTop (F0 m pc ls rest)).pushFrame (.throwing q)).setVm (T.vm.noted m.cls x.catchType (.cls c4))).setFrames (.java (F0 m x.handlerPc ls [.ref q]) :: T.frames.tail) = (T.setVm (T.vm.noted m.cls x.catchType (.cls c4))).setFrames (.java (F0 m x.handlerPc ls [.ref q]) :: r) := by
    have h1 : ((T.setTop (F0 m pc ls rest)).pushFrame (.throwing q)).setFrames (.java (F0 m x.handlerPc ls [.ref q]) :: T.frames.tail) = T.setFrames (.java (F0 m x.handlerPc ls [.ref q]) :: r) := by
      rw [State.pushFrame, State.setFrames_setFrames, State.setTop_of_frames _ hr, State.setFrames_setFrames, hr]
      rfl
    exact congrArg (fun z : State => z.setVm (T.vm.noted m.cls x.catchType (.cls c4))) h1
  rw [e9]
  exact a1
end CKT
/-! MY ROWS: a new array, its class by the name that the world has -/
section CKN
variable {p : Program} {l : Launch} {e : Env} {R : Room} {s : State} {m : MethodId} {args : Array Value} {below : List Frame} {meth : Method} {c : Code} {H : Heap} {locs : List Loc} {cells slots : Nat} {Q : State → Prop}
variable {pc : Nat} {ls : Array Slot} {rest : List Value} {A : Nat → Prop} {D : va_G} {cl : List vw_C} {tys : List (ClassId × FieldType)} {ws : va_W} {cc : ByteArray}
theorem ck_newa (hexec : p.tables.exec = Jvm.exec) (hb : c.code = cc) {atype : ArrayType} (harr : (Cond.arrayClass (newarray.typeOf atype)).before args s = true) {ty : FieldType} (hty : newarray.typeOf atype = ty) (hnob : ∀ C, ty ≠ .object C) (hK : va_K D cl tys s) (hP : va_P D cl ws H) (hD : va_D A ws) (hS : va_S A s.heap H locs) (hA : ∀ q, s.heap.size ≤ q → A q) (t0 : Nat) {cA : ClassId} (ht : tys[t0]? = some (cA, ty)) {n : Int32} {N' : Nat} {a0 : vp_A} (ha : ∀ cA : ClassId, vp_cell cA a0 = arrV cA N' (fun _ => defaultValue ty)) (hn : ¬ n < 0) (hN : n.toNatClampNeg = N') (hbytes : N' * componentBytes ty ≤ 536870912) (hcells : cells + 1 ≤ R.cells) (hslots : slots + N' ≤ R.slots) (hdg : decode cc pc = .ok (.newarray atype, 2))
    (kk : ∀ (q : Nat) (H1 : Heap), va_P D cl (ws ++ [(q, .inl (cA, a0))]) H1 → va_D A (ws ++ [(q, .inl (cA, a0))]) → va_S A s.heap H1 locs → W p l e R s m args below meth c H1 locs (cells + 1) (slots + N') Q (F0 m (pc + 2) ls (.ref q :: rest))) : W p l e R s m args below meth c H locs cells slots Q (F0 m pc ls (.int n :: rest)) := by
  refine va_newa hexec hb harr hty hK hP hD hS hA ha hn hN hbytes hcells hslots hdg (fun q cB H1 hK1 hP1 hD1 hS1 => ?_)
  have h1 := (hK.2 t0 _ ht).2
  have h2 := (hK1.2 tys.length (cB, ty) (by simp)).2
  have e9 : cB = cA := by
    cases ty with
    | object C => exact absurd rfl (hnob C)
    | _ => exact Option.some.inj (h2.symm.trans h1)
  subst e9
  exact kk q H1 hP1 hD1 hS1
end CKN
