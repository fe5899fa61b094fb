def ck_lft (n : Nat) (F : Nat → ck_R5) (x : Int64) (num : Int32) (n1 : Nat) (F1 : Nat → ck_R5) : Prop :=
  ((∀ i, i < n → (F i).1 ≠ x) ∧ n1 = n ∧ F1 = F) ∨ ∃ j, j < n ∧ (F j).1 = x ∧ (F j).2.1 ≠ num ∧ n = n1 + 1 ∧ ck_gone n1 F F1 j
theorem ck_addR (f1 : Nat → Int64) (f2 f3 f4 f5 : Nat → Int32) (n : Nat) (x : Int64) (a b d g : Int32) : ck_L (n + 1) (ck_R (vp_updL f1 n x) (upd f2 n a) (upd f3 n b) (upd f4 n d) (upd f5 n g)) = ck_L n (ck_R f1 f2 f3 f4 f5) ++ [(x, a, b, d, g)] := by
  rw [ck_L_S]
  congr 1
  · exact ck_L_congr fun q hq => by simp [ck_R, vp_updL, upd, Nat.ne_of_lt hq]
  · simp [ck_R, vp_updL, upd]
def ck_tld (w n wt kc : Nat) (gv bh bc un ti : Int32) : Int32 := match w with
  | 0 => nI n
  | 1 => nI wt
  | 2 => nI kc
  | 3 => gv
  | 4 => bh
  | 5 => bc
  | 6 => un
  | _ => ti
set_option maxHeartbeats 4000000 in
set_option maxRecDepth 100000 in
theorem c_X3_requireWithin (l : Launch) (dC : Nat → ClassId) (dI : Nat → Nat → Nat) (cI cJ cZ : ClassId) (lo sz : Nat) (vv le mo : Int32) (h1 : le ≤ vv) (h2 : vv ≤ mo) : Met l yX3_requireWithin wsX3_requireWithin ({ frames := 0, cells := 0, slots := 0, locals := 0 } : Room) (va_Pc [.int vv, .int le, .int mo] (ck_P (dC, dI) [(cI, .int), (cJ, .long), (cZ, .boolean)] lo sz [])) (va_Sv (fun (_ : Unit) => True)) 0 0 (fun _ => False) := by
  refine Met.ofW (cc := cX3_requireWithin) (maxL := 3) (ret := none) (by decide) rfl ?_
  intro p e s m args below meth c s₁ B hml hv
  obtain ⟨rfl, hsz, hP, hK, hD0, hE⟩ := hv
  have hx := B.exec
  have hb := B.bytes
  have hr := B.returns
  have hts := atoms_spec (ws := wsX3_requireWithin) B.pre
  have hown : s.vm.findClass RX3 = some m.cls := findClass_of_methodNamed B.named
  have hlocks := B.notSynchronized
  subst hsz
  have hD := hD0.self (sz := s.heap.size)
  have hlo := ck_lo (sz := s.heap.size) hD0 hE.1
  generalize hAe : va_A [] s.heap.size = A at hD hlo
  have hA : ∀ q : Nat, s.heap.size ≤ q → A q := fun q h => by rw [← hAe]; exact Or.inr h
  have hG : ck_G (dC, dI) [(cI, .int), (cJ, .long), (cZ, .boolean)] lo A s := ⟨hK, hE, hA, hlo⟩
  have hS : va_S A s.heap s.heap [] := va_S.rf
  have hP : va_P (dC, dI) vwCl [] s.heap := hP
  have hl := lv_entry ([.int vv, .int le, .int mo]) (n := 3) (Nat.le_of_ble_eq_true rfl)
  rw [lg_entry_eq]
  generalize (lg_sl ([.int vv, .int le, .int mo]) ++ List.replicate (3 - (lg_sl ([.int vv, .int le, .int mo])).length) Slot.unset).toArray = ls at hl ⊢
  have hl : lv_has ls 3 [(0, .int vv), (1, .int le), (2, .int mo)] := hl
  refine lv_iload_n hx hb dX3_requireWithin_0 rfl (lv_at hl 0 rfl) ?_
  refine lv_iload_n hx hb dX3_requireWithin_1 rfl (lv_at hl 1 rfl) ?_
  refine lv_icmp_lt (tgt := 10) hx hb dX3_requireWithin_2 (by decide) (fun c_2 => ?_) (fun c_2 => ?_)
  · skip
    exact absurd c_2 (Int32.not_lt.mpr h1)
  · skip
    refine lv_iload_n hx hb dX3_requireWithin_5 rfl (lv_at hl 0 rfl) ?_
    refine lv_iload_n hx hb dX3_requireWithin_6 rfl (lv_at hl 2 rfl) ?_
    refine lv_icmp_le (tgt := 20) hx hb dX3_requireWithin_7 (by decide) (fun c_7 => ?_) (fun c_7 => ?_)
    · skip
      refine ck_vq hx hb hr hlocks dX3_requireWithin_20 ?_
      exact trivial
    · skip
      exact absurd h2 c_7
set_option maxRecDepth 20000 in
theorem k_X3_requireWithin_kIAE : (.classLink RX3 144 ck_IAE : Cond) ∈ wsX3_requireWithin := by decide +kernel
set_option maxRecDepth 20000 in
theorem k_X3_requireWithin_iIAE : (.initialized ck_IAE : Cond) ∈ wsX3_requireWithin := by decide +kernel
set_option maxHeartbeats 4000000 in
set_option maxRecDepth 100000 in
theorem t_X3_requireWithin (l : Launch) (dC : Nat → ClassId) (dI : Nat → Nat → Nat) (cI cJ cZ : ClassId) (lo sz : Nat) (vv le mo : Int32) (hst : l.stackTraces = false) (hbad : ¬ (le ≤ vv ∧ vv ≤ mo)) : vx_Met l yX3_requireWithin wsX3_requireWithin ({ frames := 6, cells := 1, slots := 6, locals := 90 } : Room) (va_Pc [.int vv, .int le, .int mo] (ck_P (dC, dI) [(cI, .int), (cJ, .long), (cZ, .boolean)] lo sz [])) ck_QF ck_XC 1 6 (fun _ => False) := by
  refine vx_ofW (cc := cX3_requireWithin) (maxL := 3) (ret := none) (by decide) rfl ?_
  intro p e s m args below meth c s₁ B hml hne hv
  obtain ⟨rfl, hsz, hP, hK, hD0, hE⟩ := hv
  have hx := B.exec
  have hb := B.bytes
  have hr := B.returns
  have hts := atoms_spec (ws := wsX3_requireWithin) B.pre
  have hown : s.vm.findClass RX3 = some m.cls := findClass_of_methodNamed B.named
  have hlocks := B.notSynchronized
  subst hsz
  have hD := hD0.self (sz := s.heap.size)
  have hlo := ck_lo (sz := s.heap.size) hD0 hE.1
  generalize hAe : va_A [] s.heap.size = A at hD hlo
  have hA : ∀ q : Nat, s.heap.size ≤ q → A q := fun q h => by rw [← hAe]; exact Or.inr h
  have hG : ck_G (dC, dI) [(cI, .int), (cJ, .long), (cZ, .boolean)] lo A s := ⟨hK, hE, hA, hlo⟩
  have hS : va_S A s.heap s.heap [] := va_S.rf
  have hP : va_P (dC, dI) vwCl [] s.heap := hP
  have hl := lv_entry ([.int vv, .int le, .int mo]) (n := 3) (Nat.le_of_ble_eq_true rfl)
  rw [lg_entry_eq]
  generalize (lg_sl ([.int vv, .int le, .int mo]) ++ List.replicate (3 - (lg_sl ([.int vv, .int le, .int mo])).length) Slot.unset).toArray = ls at hl ⊢
  have hl : lv_has ls 3 [(0, .int vv), (1, .int le), (2, .int mo)] := hl
  refine lv_iload_n hx hb dX3_requireWithin_0 rfl (lv_at hl 0 rfl) ?_
  refine lv_iload_n hx hb dX3_requireWithin_1 rfl (lv_at hl 1 rfl) ?_
  refine lv_icmp_lt (tgt := 10) hx hb dX3_requireWithin_2 (by decide) (fun c_2 => ?_) (fun c_2 => ?_)
  · skip
    obtain ⟨sa, hstr⟩ := hE.2.2.2.2.1
    exact ck_tn hst hx hb hown hE (hts _ k_X3_requireWithin_kIAE) (hts _ k_X3_requireWithin_iIAE) hstr (fun w9 h9 => hts w9 (List.mem_cons_of_mem _ (List.mem_append_right _ h9))) hne hlocks (by rw [hml]; exact hl.1) dX3_requireWithin_10 dX3_requireWithin_13 dX3_requireWithin_14 dX3_requireWithin_16 dX3_requireWithin_19 (Nat.le_of_ble_eq_true rfl) (Nat.le_of_ble_eq_true rfl) (Nat.le_of_ble_eq_true rfl) (Nat.le_of_ble_eq_true rfl)
  · skip
    refine lv_iload_n hx hb dX3_requireWithin_5 rfl (lv_at hl 0 rfl) ?_
    refine lv_iload_n hx hb dX3_requireWithin_6 rfl (lv_at hl 2 rfl) ?_
    refine lv_icmp_le (tgt := 20) hx hb dX3_requireWithin_7 (by decide) (fun c_7 => ?_) (fun c_7 => ?_)
    · skip
      exact absurd ⟨Int32.not_lt.mp c_2, c_7⟩ hbad
    · skip
      obtain ⟨sa, hstr⟩ := hE.2.2.2.2.1
      exact ck_tn hst hx hb hown hE (hts _ k_X3_requireWithin_kIAE) (hts _ k_X3_requireWithin_iIAE) hstr (fun w9 h9 => hts w9 (List.mem_cons_of_mem _ (List.mem_append_right _ h9))) hne hlocks (by rw [hml]; exact hl.1) dX3_requireWithin_10 dX3_requireWithin_13 dX3_requireWithin_14 dX3_requireWithin_16 dX3_requireWithin_19 (Nat.le_of_ble_eq_true rfl) (Nat.le_of_ble_eq_true rfl) (Nat.le_of_ble_eq_true rfl) (Nat.le_of_ble_eq_true rfl)
set_option maxRecDepth 20000 in
theorem k_X3_init_l1 : (.methodLink RX3 1 objectInit : Cond) ∈ wsX3_init := by decide +kernel
set_option maxRecDepth 20000 in
theorem k_X3_init_mObj : (.instanceMethod objectInit : Cond) ∈ wsX3_init := by decide +kernel
set_option maxRecDepth 20000 in
theorem k_X3_init_cObj : (.code objectInit ⟨#[0xb1]⟩ 1 none : Cond) ∈ wsX3_init := by decide +kernel
set_option maxRecDepth 20000 in
theorem k_X3_init_in2 : ∀ w ∈ u_ws RX2 TX2 6, w ∈ wsX3_init := by decide +kernel
set_option maxRecDepth 20000 in
theorem k_X3_init_k7 : (.classLink RX3 7 RX2 : Cond) ∈ wsX3_init := by decide +kernel
set_option maxRecDepth 20000 in
theorem k_X3_init_n2 : (.instantiable RX2 6 : Cond) ∈ wsX3_init := by decide +kernel
set_option maxRecDepth 20000 in
theorem k_X3_init_i2 : (.initialized RX2 : Cond) ∈ wsX3_init := by decide +kernel
set_option maxRecDepth 20000 in
theorem k_X3_init_iyX2_init : (.initialized RX2 : Cond) ∈ wsX3_init := by decide +kernel
set_option maxRecDepth 20000 in
theorem k_X3_init_myX2_init : (.instanceMethod yX2_init : Cond) ∈ wsX3_init := by decide +kernel
set_option maxRecDepth 20000 in
theorem k_X3_init_f10 : (.fieldLink RX3 10 "CookieListener" "sip" "LCookieListener$SipHash;" : Cond) ∈ wsX3_init := by decide +kernel
set_option maxRecDepth 20000 in
theorem k_X3_init_in3 : ∀ w ∈ u_ws RX3 TX3 11, w ∈ wsX3_init := by decide +kernel
set_option maxRecDepth 20000 in
theorem k_X3_init_in1 : ∀ w ∈ u_ws RX1 TX1 6, w ∈ wsX3_init := by decide +kernel
set_option maxRecDepth 20000 in
theorem k_X3_init_k16 : (.classLink RX3 16 RX1 : Cond) ∈ wsX3_init := by decide +kernel
set_option maxRecDepth 20000 in
theorem k_X3_init_n1 : (.instantiable RX1 6 : Cond) ∈ wsX3_init := by decide +kernel
set_option maxRecDepth 20000 in
theorem k_X3_init_i1 : (.initialized RX1 : Cond) ∈ wsX3_init := by decide +kernel
set_option maxRecDepth 20000 in
theorem k_X3_init_iyX1_init : (.initialized RX1 : Cond) ∈ wsX3_init := by decide +kernel
set_option maxRecDepth 20000 in
theorem k_X3_init_myX1_init : (.instanceMethod yX1_init : Cond) ∈ wsX3_init := by decide +kernel
set_option maxRecDepth 20000 in
theorem k_X3_init_f19 : (.fieldLink RX3 19 "CookieListener" "halves" "LCookieListener$Halves;" : Cond) ∈ wsX3_init := by decide +kernel
set_option maxRecDepth 20000 in
theorem k_X3_init_in0 : ∀ w ∈ u_ws RX0 TX0 4, w ∈ wsX3_init := by decide +kernel
set_option maxRecDepth 20000 in
theorem k_X3_init_k23 : (.classLink RX3 23 RX0 : Cond) ∈ wsX3_init := by decide +kernel
set_option maxRecDepth 20000 in
theorem k_X3_init_n0 : (.instantiable RX0 4 : Cond) ∈ wsX3_init := by decide +kernel
set_option maxRecDepth 20000 in
theorem k_X3_init_i0 : (.initialized RX0 : Cond) ∈ wsX3_init := by decide +kernel
set_option maxRecDepth 20000 in
theorem k_X3_init_iyX0_init : (.initialized RX0 : Cond) ∈ wsX3_init := by decide +kernel
set_option maxRecDepth 20000 in
theorem k_X3_init_myX0_init : (.instanceMethod yX0_init : Cond) ∈ wsX3_init := by decide +kernel
set_option maxRecDepth 20000 in
theorem k_X3_init_f26 : (.fieldLink RX3 26 "CookieListener" "connections" "LCookieListener$Connections;" : Cond) ∈ wsX3_init := by decide +kernel
set_option maxRecDepth 20000 in
theorem k_X3_init_f30 : (.fieldLink RX3 30 "CookieListener" "sizeOfHalves" "I" : Cond) ∈ wsX3_init := by decide +kernel
set_option maxRecDepth 20000 in
theorem k_X3_init_f34 : (.fieldLink RX3 34 "CookieListener" "roomOfQueue" "I" : Cond) ∈ wsX3_init := by decide +kernel
set_option maxRecDepth 20000 in
theorem k_X3_init_f37 : (.fieldLink RX3 37 "CookieListener" "time" "I" : Cond) ∈ wsX3_init := by decide +kernel
set_option maxRecDepth 20000 in
theorem k_X3_init_f40 : (.fieldLink RX3 40 "CookieListener" "cookiesTime" "I" : Cond) ∈ wsX3_init := by decide +kernel
set_option maxRecDepth 20000 in
theorem k_X3_init_f43 : (.fieldLink RX3 43 "CookieListener" "cookiesGiven" "I" : Cond) ∈ wsX3_init := by decide +kernel
set_option maxRecDepth 20000 in
theorem k_X3_init_f46 : (.fieldLink RX3 46 "CookieListener" "openedByHalves" "I" : Cond) ∈ wsX3_init := by decide +kernel
set_option maxRecDepth 20000 in
theorem k_X3_init_f49 : (.fieldLink RX3 49 "CookieListener" "openedByCookies" "I" : Cond) ∈ wsX3_init := by decide +kernel
set_option maxRecDepth 20000 in
theorem k_X3_init_f52 : (.fieldLink RX3 52 "CookieListener" "unproven" "I" : Cond) ∈ wsX3_init := by decide +kernel
set_option maxHeartbeats 4000000 in
set_option maxRecDepth 100000 in
theorem c_X3_init (l : Launch) (dC : Nat → ClassId) (dI : Nat → Nat → Nat) (cI cJ cZ : ClassId) (lo sz : Nat) (o : Nat) : Met l yX3_init wsX3_init ({ frames := 2, cells := 10, slots := 304, locals := 40 } : Room) (va_Pc [.ref o] (ck_P (dC, dI) [(cI, .int), (cJ, .long), (cZ, .boolean)] lo sz [(o, .inr (3, [.null, .null, .null, .int 0, .int 0, .int 0, .int 0, .int 0, .int 0, .int 0, .int 0]))])) (va_Qv (fun (u : Nat × Nat × Nat × Nat × Nat × Nat × Nat × Nat × Nat × Nat) => True) (fun u => ck_B (dC, dI) vwCl (va_A [(o, .inr (3, [.null, .null, .null, .int 0, .int 0, .int 0, .int 0, .int 0, .int 0, .int 0, .int 0]))] sz) ((fun u : Nat × Nat × Nat × Nat × Nat × Nat × Nat × Nat × Nat × Nat => ([(o, .inr (3, [.ref u.1, .ref u.2.1, .ref u.2.2.2.2.2.2.2.1, .int 4, .int 2, .int 0, .int 0, .int 0, .int 0, .int 0, .int 0])), (u.1, .inr (2, [.long 0, .long 0, .long 0, .long 0, .long 0, .long 0])), (u.2.1, .inr (1, [.ref u.2.2.1, .ref u.2.2.2.1, .ref u.2.2.2.2.1, .ref u.2.2.2.2.2.1, .ref u.2.2.2.2.2.2.1, .int (nI 0)])), (u.2.2.1, .inl (cJ, 32, .inr (.inl (fun _ => 0)))), (u.2.2.2.1, .inl (cI, 32, .inl (fun _ => 0))), (u.2.2.2.2.1, .inl (cI, 32, .inl (fun _ => 0))), (u.2.2.2.2.2.1, .inl (cI, 32, .inl (fun _ => 0))), (u.2.2.2.2.2.2.1, .inl (cI, 32, .inl (fun _ => 0))), (u.2.2.2.2.2.2.2.1, .inr (0, [.ref u.2.2.2.2.2.2.2.2.1, .ref u.2.2.2.2.2.2.2.2.2, .int (nI 0), .int (nI 0)])), (u.2.2.2.2.2.2.2.2.1, .inl (cJ, 64, .inr (.inl (fun _ => 0)))), (u.2.2.2.2.2.2.2.2.2, .inl (cI, 64, .inl (fun _ => 0)))] : va_W)) u)) (va_A [(o, .inr (3, [.null, .null, .null, .int 0, .int 0, .int 0, .int 0, .int 0, .int 0, .int 0, .int 0]))] sz)) 10 304 (va_A [(o, .inr (3, [.null, .null, .null, .int 0, .int 0, .int 0, .int 0, .int 0, .int 0, .int 0, .int 0]))] sz) := by
  refine Met.ofW (cc := cX3_init) (maxL := 1) (ret := none) (by decide) rfl ?_
  intro p e s m args below meth c s₁ B hml hv
  obtain ⟨rfl, hsz, hP, hK, hD0, hE⟩ := hv
  have hx := B.exec
  have hb := B.bytes
  have hr := B.returns
  have hts := atoms_spec (ws := wsX3_init) B.pre
  have hown : s.vm.findClass RX3 = some m.cls := findClass_of_methodNamed B.named
  have hlocks := B.notSynchronized
  have hin : meth.name = "<init>" := (name_of_methodNamed B.named B.method).1
  subst hsz
  have hD := hD0.self (sz := s.heap.size)
  have hlo := ck_lo (sz := s.heap.size) hD0 hE.1
  generalize hAe : va_A [(o, .inr (3, [.null, .null, .null, .int 0, .int 0, .int 0, .int 0, .int 0, .int 0, .int 0, .int 0]))] s.heap.size = A at hD hlo ⊢
  have hA : ∀ q : Nat, s.heap.size ≤ q → A q := fun q h => by rw [← hAe]; exact Or.inr h
  have hG : ck_G (dC, dI) [(cI, .int), (cJ, .long), (cZ, .boolean)] lo A s := ⟨hK, hE, hA, hlo⟩
  have hS : va_S A s.heap s.heap [] := va_S.rf
  have hP : va_P (dC, dI) vwCl [(o, .inr (3, [.null, .null, .null, .int 0, .int 0, .int 0, .int 0, .int 0, .int 0, .int 0, .int 0]))] s.heap := hP
  have hl := lv_entry ([.ref o]) (n := 1) (Nat.le_of_ble_eq_true rfl)
  rw [lg_entry_eq]
  generalize (lg_sl ([.ref o]) ++ List.replicate (1 - (lg_sl ([.ref o])).length) Slot.unset).toArray = ls at hl ⊢
  have hl : lv_has ls 1 [(0, .ref o)] := hl
  refine lv_aload_n hx hb dX3_init_0 rfl (lv_at hl 0 rfl) ?_
  refine W.objInit hx hb hown (hts _ k_X3_init_l1) (hts _ k_X3_init_mObj) (hts _ k_X3_init_cObj) rfl (by rw [hml]; exact hl.1) rfl dX3_init_1 (Nat.le_of_ble_eq_true rfl) (Nat.le_of_ble_eq_true rfl) ?_
  refine W.eq (g2 := F0 m 4 ls []) rfl ?_
  refine lv_aload_n hx hb dX3_init_4 rfl (lv_at hl 0 rfl) ?_
  refine va_new (ci := 2) (fs := [.long 0, .long 0, .long 0, .long 0, .long 0, .long 0]) (C := RX2) (T := TX2) (N := 6) hx hb hts (k_X3_init_in2) tyX2 tyX2_ok hown (hts _ k_X3_init_k7) (hts _ k_X3_init_n2) (hts _ k_X3_init_i2) hK hP hD hS hA rfl (by decide +kernel) (Nat.le_of_ble_eq_true rfl) (Nat.le_of_ble_eq_true rfl) dX3_init_5 (fun q_1 H hP hD hS => ?_)
  refine W.widen (k := 1) (n := 6) (by omega) (by omega) ?_
  have hP : va_P (dC, dI) vwCl [(o, .inr (3, [.null, .null, .null, .int 0, .int 0, .int 0, .int 0, .int 0, .int 0, .int 0, .int 0])), (q_1, .inr (2, [.long 0, .long 0, .long 0, .long 0, .long 0, .long 0]))] H := hP
  have hD : va_D A [(o, .inr (3, [.null, .null, .null, .int 0, .int 0, .int 0, .int 0, .int 0, .int 0, .int 0, .int 0])), (q_1, .inr (2, [.long 0, .long 0, .long 0, .long 0, .long 0, .long 0]))] := hD
  refine lv_dup hx hb dX3_init_8 rfl ?_
  refine ck_cv (wr := [(o, .inr (3, [.null, .null, .null, .int 0, .int 0, .int 0, .int 0, .int 0, .int 0, .int 0, .int 0]))]) (va_runIN (As := []) (rest := [.ref q_1, .ref o]) ⟨hx, hb, hml, hown, hts⟩ (c_X2_init l dC dI cI cJ cZ lo _ q_1) (⟨va_cnB 0 hts gX3_init_X2_init_n9 rfl rfl rfl (hE.2.1.2.2.2.2.2.2.2.2.2.2) (hts _ k_X3_init_iyX2_init) (by decide +kernel) ⟨(Nat.le_of_ble_eq_true rfl), (Nat.le_of_ble_eq_true rfl)⟩, rfl, hts _ k_X3_init_myX2_init⟩) ⟨ck_blind, (ck_pre hG hP hD hS [1] rfl (by decide) _)⟩ rfl rfl hl.1 rfl (lv_room (Nat.le_of_ble_eq_true rfl)) dX3_init_9 ⟨(Nat.le_of_ble_eq_true rfl), (Nat.le_of_ble_eq_true rfl)⟩) hP hD hS hA [1] [0] rfl rfl (by decide) (by decide) (fun u H locs hw_2 hP hD hS => ?_)
  have hP : va_P (dC, dI) vwCl [(o, .inr (3, [.null, .null, .null, .int 0, .int 0, .int 0, .int 0, .int 0, .int 0, .int 0, .int 0])), (q_1, .inr (2, [.long 0, .long 0, .long 0, .long 0, .long 0, .long 0]))] H := hP
  have hD : va_D A [(o, .inr (3, [.null, .null, .null, .int 0, .int 0, .int 0, .int 0, .int 0, .int 0, .int 0, .int 0])), (q_1, .inr (2, [.long 0, .long 0, .long 0, .long 0, .long 0, .long 0]))] := hD
  refine va_putF (D := (dC, dI)) (ci := 3) (v := .ref q_1) (ty := .object "CookieListener$SipHash") (C := RX3) (T := TX3) (N := 11) hx hb hts (k_X3_init_in3) tyX3 tyX3_ok nmX3 hown hK hP hD hS 0 rfl rfl 0 (by decide) (hts _ k_X3_init_f10) (fun _ h9 => h9) rfl hin rfl (by decide +kernel) rfl rfl (Nat.le_of_ble_eq_true rfl) dX3_init_12 (fun H locs hP hD hS => ?_)
  have hP : va_P (dC, dI) vwCl [(o, .inr (3, [.ref q_1, .null, .null, .int 0, .int 0, .int 0, .int 0, .int 0, .int 0, .int 0, .int 0])), (q_1, .inr (2, [.long 0, .long 0, .long 0, .long 0, .long 0, .long 0]))] H := hP
  have hD : va_D A [(o, .inr (3, [.ref q_1, .null, .null, .int 0, .int 0, .int 0, .int 0, .int 0, .int 0, .int 0, .int 0])), (q_1, .inr (2, [.long 0, .long 0, .long 0, .long 0, .long 0, .long 0]))] := hD
  refine lv_aload_n hx hb dX3_init_15 rfl (lv_at hl 0 rfl) ?_
  refine va_new (ci := 1) (fs := [.null, .null, .null, .null, .null, .int 0]) (C := RX1) (T := TX1) (N := 6) hx hb hts (k_X3_init_in1) tyX1 tyX1_ok hown (hts _ k_X3_init_k16) (hts _ k_X3_init_n1) (hts _ k_X3_init_i1) hK hP hD hS hA rfl (by decide +kernel) (Nat.le_of_ble_eq_true rfl) (Nat.le_of_ble_eq_true rfl) dX3_init_16 (fun q_3 H hP hD hS => ?_)
  refine W.widen (k := 2) (n := 12) (by omega) (by omega) ?_
  have hP : va_P (dC, dI) vwCl [(o, .inr (3, [.ref q_1, .null, .null, .int 0, .int 0, .int 0, .int 0, .int 0, .int 0, .int 0, .int 0])), (q_1, .inr (2, [.long 0, .long 0, .long 0, .long 0, .long 0, .long 0])), (q_3, .inr (1, [.null, .null, .null, .null, .null, .int 0]))] H := hP
  have hD : va_D A [(o, .inr (3, [.ref q_1, .null, .null, .int 0, .int 0, .int 0, .int 0, .int 0, .int 0, .int 0, .int 0])), (q_1, .inr (2, [.long 0, .long 0, .long 0, .long 0, .long 0, .long 0])), (q_3, .inr (1, [.null, .null, .null, .null, .null, .int 0]))] := hD
  refine lv_dup hx hb dX3_init_19 rfl ?_
  refine ck_cv (wr := [(o, .inr (3, [.ref q_1, .null, .null, .int 0, .int 0, .int 0, .int 0, .int 0, .int 0, .int 0, .int 0])), (q_1, .inr (2, [.long 0, .long 0, .long 0, .long 0, .long 0, .long 0]))]) (va_runIN (As := []) (rest := [.ref q_3, .ref o]) ⟨hx, hb, hml, hown, hts⟩ (c_X1_init l dC dI cI cJ cZ lo _ q_3) (⟨va_cnB 0 hts gX3_init_X1_init_n18 rfl rfl rfl (hE.2.1.2.2.2.2.2.2.2.2.1) (hts _ k_X3_init_iyX1_init) (by decide +kernel) ⟨(Nat.le_of_ble_eq_true rfl), (Nat.le_of_ble_eq_true rfl)⟩, rfl, hts _ k_X3_init_myX1_init⟩) ⟨ck_blind, (ck_pre hG hP hD hS [2] rfl (by decide) _)⟩ rfl rfl hl.1 rfl (lv_room (Nat.le_of_ble_eq_true rfl)) dX3_init_20 ⟨(Nat.le_of_ble_eq_true rfl), (Nat.le_of_ble_eq_true rfl)⟩) hP hD hS hA [2] [0, 1] rfl rfl (by decide) (by decide) (fun u H locs hw_4 hP hD hS => ?_)
  obtain ⟨a1_4, a2_4, a3_4, a4_4, a5_4⟩ := u
  refine W.widen (k := 7) (n := 172) (by omega) (by omega) ?_
  have hP : va_P (dC, dI) vwCl [(o, .inr (3, [.ref q_1, .null, .null, .int 0, .int 0, .int 0, .int 0, .int 0, .int 0, .int 0, .int 0])), (q_1, .inr (2, [.long 0, .long 0, .long 0, .long 0, .long 0, .long 0])), (q_3, .inr (1, [.ref a1_4, .ref a2_4, .ref a3_4, .ref a4_4, .ref a5_4, .int (nI 0)])), (a1_4, .inl (cJ, 32, .inr (.inl (fun _ => 0)))), (a2_4, .inl (cI, 32, .inl (fun _ => 0))), (a3_4, .inl (cI, 32, .inl (fun _ => 0))), (a4_4, .inl (cI, 32, .inl (fun _ => 0))), (a5_4, .inl (cI, 32, .inl (fun _ => 0)))] H := hP
  have hD : va_D A [(o, .inr (3, [.ref q_1, .null, .null, .int 0, .int 0, .int 0, .int 0, .int 0, .int 0, .int 0, .int 0])), (q_1, .inr (2, [.long 0, .long 0, .long 0, .long 0, .long 0, .long 0])), (q_3, .inr (1, [.ref a1_4, .ref a2_4, .ref a3_4, .ref a4_4, .ref a5_4, .int (nI 0)])), (a1_4, .inl (cJ, 32, .inr (.inl (fun _ => 0)))), (a2_4, .inl (cI, 32, .inl (fun _ => 0))), (a3_4, .inl (cI, 32, .inl (fun _ => 0))), (a4_4, .inl (cI, 32, .inl (fun _ => 0))), (a5_4, .inl (cI, 32, .inl (fun _ => 0)))] := hD
  refine va_putF (D := (dC, dI)) (ci := 3) (v := .ref q_3) (ty := .object "CookieListener$Halves") (C := RX3) (T := TX3) (N := 11) hx hb hts (k_X3_init_in3) tyX3 tyX3_ok nmX3 hown hK hP hD hS 0 rfl rfl 1 (by decide) (hts _ k_X3_init_f19) (fun _ h9 => h9) rfl hin rfl (by decide +kernel) rfl rfl (Nat.le_of_ble_eq_true rfl) dX3_init_23 (fun H locs hP hD hS => ?_)
  have hP : va_P (dC, dI) vwCl [(o, .inr (3, [.ref q_1, .ref q_3, .null, .int 0, .int 0, .int 0, .int 0, .int 0, .int 0, .int 0, .int 0])), (q_1, .inr (2, [.long 0, .long 0, .long 0, .long 0, .long 0, .long 0])), (q_3, .inr (1, [.ref a1_4, .ref a2_4, .ref a3_4, .ref a4_4, .ref a5_4, .int (nI 0)])), (a1_4, .inl (cJ, 32, .inr (.inl (fun _ => 0)))), (a2_4, .inl (cI, 32, .inl (fun _ => 0))), (a3_4, .inl (cI, 32, .inl (fun _ => 0))), (a4_4, .inl (cI, 32, .inl (fun _ => 0))), (a5_4, .inl (cI, 32, .inl (fun _ => 0)))] H := hP
  have hD : va_D A [(o, .inr (3, [.ref q_1, .ref q_3, .null, .int 0, .int 0, .int 0, .int 0, .int 0, .int 0, .int 0, .int 0])), (q_1, .inr (2, [.long 0, .long 0, .long 0, .long 0, .long 0, .long 0])), (q_3, .inr (1, [.ref a1_4, .ref a2_4, .ref a3_4, .ref a4_4, .ref a5_4, .int (nI 0)])), (a1_4, .inl (cJ, 32, .inr (.inl (fun _ => 0)))), (a2_4, .inl (cI, 32, .inl (fun _ => 0))), (a3_4, .inl (cI, 32, .inl (fun _ => 0))), (a4_4, .inl (cI, 32, .inl (fun _ => 0))), (a5_4, .inl (cI, 32, .inl (fun _ => 0)))] := hD
  refine lv_aload_n hx hb dX3_init_26 rfl (lv_at hl 0 rfl) ?_
  refine va_new (ci := 0) (fs := [.null, .null, .int 0, .int 0]) (C := RX0) (T := TX0) (N := 4) hx hb hts (k_X3_init_in0) tyX0 tyX0_ok hown (hts _ k_X3_init_k23) (hts _ k_X3_init_n0) (hts _ k_X3_init_i0) hK hP hD hS hA rfl (by decide +kernel) (Nat.le_of_ble_eq_true rfl) (Nat.le_of_ble_eq_true rfl) dX3_init_27 (fun q_5 H hP hD hS => ?_)
  refine W.widen (k := 8) (n := 176) (by omega) (by omega) ?_
  have hP : va_P (dC, dI) vwCl [(o, .inr (3, [.ref q_1, .ref q_3, .null, .int 0, .int 0, .int 0, .int 0, .int 0, .int 0, .int 0, .int 0])), (q_1, .inr (2, [.long 0, .long 0, .long 0, .long 0, .long 0, .long 0])), (q_3, .inr (1, [.ref a1_4, .ref a2_4, .ref a3_4, .ref a4_4, .ref a5_4, .int (nI 0)])), (a1_4, .inl (cJ, 32, .inr (.inl (fun _ => 0)))), (a2_4, .inl (cI, 32, .inl (fun _ => 0))), (a3_4, .inl (cI, 32, .inl (fun _ => 0))), (a4_4, .inl (cI, 32, .inl (fun _ => 0))), (a5_4, .inl (cI, 32, .inl (fun _ => 0))), (q_5, .inr (0, [.null, .null, .int 0, .int 0]))] H := hP
  have hD : va_D A [(o, .inr (3, [.ref q_1, .ref q_3, .null, .int 0, .int 0, .int 0, .int 0, .int 0, .int 0, .int 0, .int 0])), (q_1, .inr (2, [.long 0, .long 0, .long 0, .long 0, .long 0, .long 0])), (q_3, .inr (1, [.ref a1_4, .ref a2_4, .ref a3_4, .ref a4_4, .ref a5_4, .int (nI 0)])), (a1_4, .inl (cJ, 32, .inr (.inl (fun _ => 0)))), (a2_4, .inl (cI, 32, .inl (fun _ => 0))), (a3_4, .inl (cI, 32, .inl (fun _ => 0))), (a4_4, .inl (cI, 32, .inl (fun _ => 0))), (a5_4, .inl (cI, 32, .inl (fun _ => 0))), (q_5, .inr (0, [.null, .null, .int 0, .int 0]))] := hD
  refine lv_dup hx hb dX3_init_30 rfl ?_
  refine ck_cv (wr := [(o, .inr (3, [.ref q_1, .ref q_3, .null, .int 0, .int 0, .int 0, .int 0, .int 0, .int 0, .int 0, .int 0])), (q_1, .inr (2, [.long 0, .long 0, .long 0, .long 0, .long 0, .long 0])), (q_3, .inr (1, [.ref a1_4, .ref a2_4, .ref a3_4, .ref a4_4, .ref a5_4, .int (nI 0)])), (a1_4, .inl (cJ, 32, .inr (.inl (fun _ => 0)))), (a2_4, .inl (cI, 32, .inl (fun _ => 0))), (a3_4, .inl (cI, 32, .inl (fun _ => 0))), (a4_4, .inl (cI, 32, .inl (fun _ => 0))), (a5_4, .inl (cI, 32, .inl (fun _ => 0)))]) (va_runIN (As := []) (rest := [.ref q_5, .ref o]) ⟨hx, hb, hml, hown, hts⟩ (c_X0_init l dC dI cI cJ cZ lo _ q_5) (⟨va_cnB 0 hts gX3_init_X0_init_n25 rfl rfl rfl (hE.2.1.2.2.2.2.2.2.2.2.2.1) (hts _ k_X3_init_iyX0_init) (by decide +kernel) ⟨(Nat.le_of_ble_eq_true rfl), (Nat.le_of_ble_eq_true rfl)⟩, rfl, hts _ k_X3_init_myX0_init⟩) ⟨ck_blind, (ck_pre hG hP hD hS [8] rfl (by decide) _)⟩ rfl rfl hl.1 rfl (lv_room (Nat.le_of_ble_eq_true rfl)) dX3_init_31 ⟨(Nat.le_of_ble_eq_true rfl), (Nat.le_of_ble_eq_true rfl)⟩) hP hD hS hA [8] [0, 1, 2, 3, 4, 5, 6, 7] rfl rfl (by decide) (by decide) (fun u H locs hw_6 hP hD hS => ?_)
  obtain ⟨b1_6, b2_6⟩ := u
  refine W.widen (k := 10) (n := 304) (by omega) (by omega) ?_
  have hP : va_P (dC, dI) vwCl [(o, .inr (3, [.ref q_1, .ref q_3, .null, .int 0, .int 0, .int 0, .int 0, .int 0, .int 0, .int 0, .int 0])), (q_1, .inr (2, [.long 0, .long 0, .long 0, .long 0, .long 0, .long 0])), (q_3, .inr (1, [.ref a1_4, .ref a2_4, .ref a3_4, .ref a4_4, .ref a5_4, .int (nI 0)])), (a1_4, .inl (cJ, 32, .inr (.inl (fun _ => 0)))), (a2_4, .inl (cI, 32, .inl (fun _ => 0))), (a3_4, .inl (cI, 32, .inl (fun _ => 0))), (a4_4, .inl (cI, 32, .inl (fun _ => 0))), (a5_4, .inl (cI, 32, .inl (fun _ => 0))), (q_5, .inr (0, [.ref b1_6, .ref b2_6, .int (nI 0), .int (nI 0)])), (b1_6, .inl (cJ, 64, .inr (.inl (fun _ => 0)))), (b2_6, .inl (cI, 64, .inl (fun _ => 0)))] H := hP
  have hD : va_D A [(o, .inr (3, [.ref q_1, .ref q_3, .null, .int 0, .int 0, .int 0, .int 0, .int 0, .int 0, .int 0, .int 0])), (q_1, .inr (2, [.long 0, .long 0, .long 0, .long 0, .long 0, .long 0])), (q_3, .inr (1, [.ref a1_4, .ref a2_4, .ref a3_4, .ref a4_4, .ref a5_4, .int (nI 0)])), (a1_4, .inl (cJ, 32, .inr (.inl (fun _ => 0)))), (a2_4, .inl (cI, 32, .inl (fun _ => 0))), (a3_4, .inl (cI, 32, .inl (fun _ => 0))), (a4_4, .inl (cI, 32, .inl (fun _ => 0))), (a5_4, .inl (cI, 32, .inl (fun _ => 0))), (q_5, .inr (0, [.ref b1_6, .ref b2_6, .int (nI 0), .int (nI 0)])), (b1_6, .inl (cJ, 64, .inr (.inl (fun _ => 0)))), (b2_6, .inl (cI, 64, .inl (fun _ => 0)))] := hD
  refine va_putF (D := (dC, dI)) (ci := 3) (v := .ref q_5) (ty := .object "CookieListener$Connections") (C := RX3) (T := TX3) (N := 11) hx hb hts (k_X3_init_in3) tyX3 tyX3_ok nmX3 hown hK hP hD hS 0 rfl rfl 2 (by decide) (hts _ k_X3_init_f26) (fun _ h9 => h9) rfl hin rfl (by decide +kernel) rfl rfl (Nat.le_of_ble_eq_true rfl) dX3_init_34 (fun H locs hP hD hS => ?_)
  have hP : va_P (dC, dI) vwCl [(o, .inr (3, [.ref q_1, .ref q_3, .ref q_5, .int 0, .int 0, .int 0, .int 0, .int 0, .int 0, .int 0, .int 0])), (q_1, .inr (2, [.long 0, .long 0, .long 0, .long 0, .long 0, .long 0])), (q_3, .inr (1, [.ref a1_4, .ref a2_4, .ref a3_4, .ref a4_4, .ref a5_4, .int (nI 0)])), (a1_4, .inl (cJ, 32, .inr (.inl (fun _ => 0)))), (a2_4, .inl (cI, 32, .inl (fun _ => 0))), (a3_4, .inl (cI, 32, .inl (fun _ => 0))), (a4_4, .inl (cI, 32, .inl (fun _ => 0))), (a5_4, .inl (cI, 32, .inl (fun _ => 0))), (q_5, .inr (0, [.ref b1_6, .ref b2_6, .int (nI 0), .int (nI 0)])), (b1_6, .inl (cJ, 64, .inr (.inl (fun _ => 0)))), (b2_6, .inl (cI, 64, .inl (fun _ => 0)))] H := hP
  have hD : va_D A [(o, .inr (3, [.ref q_1, .ref q_3, .ref q_5, .int 0, .int 0, .int 0, .int 0, .int 0, .int 0, .int 0, .int 0])), (q_1, .inr (2, [.long 0, .long 0, .long 0, .long 0, .long 0, .long 0])), (q_3, .inr (1, [.ref a1_4, .ref a2_4, .ref a3_4, .ref a4_4, .ref a5_4, .int (nI 0)])), (a1_4, .inl (cJ, 32, .inr (.inl (fun _ => 0)))), (a2_4, .inl (cI, 32, .inl (fun _ => 0))), (a3_4, .inl (cI, 32, .inl (fun _ => 0))), (a4_4, .inl (cI, 32, .inl (fun _ => 0))), (a5_4, .inl (cI, 32, .inl (fun _ => 0))), (q_5, .inr (0, [.ref b1_6, .ref b2_6, .int (nI 0), .int (nI 0)])), (b1_6, .inl (cJ, 64, .inr (.inl (fun _ => 0)))), (b2_6, .inl (cI, 64, .inl (fun _ => 0)))] := hD
  refine lv_aload_n hx hb dX3_init_37 rfl (lv_at hl 0 rfl) ?_
  refine lv_iconst (v := 4) hx hb dX3_init_38 (by decide) ?_
  refine va_put (D := (dC, dI)) (ci := 3) (v := .int 4) (ty := .int) (C := RX3) (T := TX3) (N := 11) hx hb hts (k_X3_init_in3) tyX3 tyX3_ok nmX3 hown hK hP hD hS 0 rfl rfl 3 (by decide) (hts _ k_X3_init_f30) (fun _ h9 => h9) rfl (by decide +kernel) rfl rfl (Nat.le_of_ble_eq_true rfl) dX3_init_39 (fun H locs hP hD hS => ?_)
  have hP : va_P (dC, dI) vwCl [(o, .inr (3, [.ref q_1, .ref q_3, .ref q_5, .int 4, .int 0, .int 0, .int 0, .int 0, .int 0, .int 0, .int 0])), (q_1, .inr (2, [.long 0, .long 0, .long 0, .long 0, .long 0, .long 0])), (q_3, .inr (1, [.ref a1_4, .ref a2_4, .ref a3_4, .ref a4_4, .ref a5_4, .int (nI 0)])), (a1_4, .inl (cJ, 32, .inr (.inl (fun _ => 0)))), (a2_4, .inl (cI, 32, .inl (fun _ => 0))), (a3_4, .inl (cI, 32, .inl (fun _ => 0))), (a4_4, .inl (cI, 32, .inl (fun _ => 0))), (a5_4, .inl (cI, 32, .inl (fun _ => 0))), (q_5, .inr (0, [.ref b1_6, .ref b2_6, .int (nI 0), .int (nI 0)])), (b1_6, .inl (cJ, 64, .inr (.inl (fun _ => 0)))), (b2_6, .inl (cI, 64, .inl (fun _ => 0)))] H := hP
  have hD : va_D A [(o, .inr (3, [.ref q_1, .ref q_3, .ref q_5, .int 4, .int 0, .int 0, .int 0, .int 0, .int 0, .int 0, .int 0])), (q_1, .inr (2, [.long 0, .long 0, .long 0, .long 0, .long 0, .long 0])), (q_3, .inr (1, [.ref a1_4, .ref a2_4, .ref a3_4, .ref a4_4, .ref a5_4, .int (nI 0)])), (a1_4, .inl (cJ, 32, .inr (.inl (fun _ => 0)))), (a2_4, .inl (cI, 32, .inl (fun _ => 0))), (a3_4, .inl (cI, 32, .inl (fun _ => 0))), (a4_4, .inl (cI, 32, .inl (fun _ => 0))), (a5_4, .inl (cI, 32, .inl (fun _ => 0))), (q_5, .inr (0, [.ref b1_6, .ref b2_6, .int (nI 0), .int (nI 0)])), (b1_6, .inl (cJ, 64, .inr (.inl (fun _ => 0)))), (b2_6, .inl (cI, 64, .inl (fun _ => 0)))] := hD
  refine lv_aload_n hx hb dX3_init_42 rfl (lv_at hl 0 rfl) ?_
  refine lv_iconst (v := 2) hx hb dX3_init_43 (by decide) ?_
  refine va_put (D := (dC, dI)) (ci := 3) (v := .int 2) (ty := .int) (C := RX3) (T := TX3) (N := 11) hx hb hts (k_X3_init_in3) tyX3 tyX3_ok nmX3 hown hK hP hD hS 0 rfl rfl 4 (by decide) (hts _ k_X3_init_f34) (fun _ h9 => h9) rfl (by decide +kernel) rfl rfl (Nat.le_of_ble_eq_true rfl) dX3_init_44 (fun H locs hP hD hS => ?_)
  have hP : va_P (dC, dI) vwCl [(o, .inr (3, [.ref q_1, .ref q_3, .ref q_5, .int 4, .int 2, .int 0, .int 0, .int 0, .int 0, .int 0, .int 0])), (q_1, .inr (2, [.long 0, .long 0, .long 0, .long 0, .long 0, .long 0])), (q_3, .inr (1, [.ref a1_4, .ref a2_4, .ref a3_4, .ref a4_4, .ref a5_4, .int (nI 0)])), (a1_4, .inl (cJ, 32, .inr (.inl (fun _ => 0)))), (a2_4, .inl (cI, 32, .inl (fun _ => 0))), (a3_4, .inl (cI, 32, .inl (fun _ => 0))), (a4_4, .inl (cI, 32, .inl (fun _ => 0))), (a5_4, .inl (cI, 32, .inl (fun _ => 0))), (q_5, .inr (0, [.ref b1_6, .ref b2_6, .int (nI 0), .int (nI 0)])), (b1_6, .inl (cJ, 64, .inr (.inl (fun _ => 0)))), (b2_6, .inl (cI, 64, .inl (fun _ => 0)))] H := hP
  have hD : va_D A [(o, .inr (3, [.ref q_1, .ref q_3, .ref q_5, .int 4, .int 2, .int 0, .int 0, .int 0, .int 0, .int 0, .int 0])), (q_1, .inr (2, [.long 0, .long 0, .long 0, .long 0, .long 0, .long 0])), (q_3, .inr (1, [.ref a1_4, .ref a2_4, .ref a3_4, .ref a4_4, .ref a5_4, .int (nI 0)])), (a1_4, .inl (cJ, 32, .inr (.inl (fun _ => 0)))), (a2_4, .inl (cI, 32, .inl (fun _ => 0))), (a3_4, .inl (cI, 32, .inl (fun _ => 0))), (a4_4, .inl (cI, 32, .inl (fun _ => 0))), (a5_4, .inl (cI, 32, .inl (fun _ => 0))), (q_5, .inr (0, [.ref b1_6, .ref b2_6, .int (nI 0), .int (nI 0)])), (b1_6, .inl (cJ, 64, .inr (.inl (fun _ => 0)))), (b2_6, .inl (cI, 64, .inl (fun _ => 0)))] := hD
  refine lv_aload_n hx hb dX3_init_47 rfl (lv_at hl 0 rfl) ?_
  refine lv_iconst (v := 0) hx hb dX3_init_48 (by decide) ?_
  refine va_put (D := (dC, dI)) (ci := 3) (v := .int 0) (ty := .int) (C := RX3) (T := TX3) (N := 11) hx hb hts (k_X3_init_in3) tyX3 tyX3_ok nmX3 hown hK hP hD hS 0 rfl rfl 5 (by decide) (hts _ k_X3_init_f37) (fun _ h9 => h9) rfl (by decide +kernel) rfl rfl (Nat.le_of_ble_eq_true rfl) dX3_init_49 (fun H locs hP hD hS => ?_)
  have hP : va_P (dC, dI) vwCl [(o, .inr (3, [.ref q_1, .ref q_3, .ref q_5, .int 4, .int 2, .int 0, .int 0, .int 0, .int 0, .int 0, .int 0])), (q_1, .inr (2, [.long 0, .long 0, .long 0, .long 0, .long 0, .long 0])), (q_3, .inr (1, [.ref a1_4, .ref a2_4, .ref a3_4, .ref a4_4, .ref a5_4, .int (nI 0)])), (a1_4, .inl (cJ, 32, .inr (.inl (fun _ => 0)))), (a2_4, .inl (cI, 32, .inl (fun _ => 0))), (a3_4, .inl (cI, 32, .inl (fun _ => 0))), (a4_4, .inl (cI, 32, .inl (fun _ => 0))), (a5_4, .inl (cI, 32, .inl (fun _ => 0))), (q_5, .inr (0, [.ref b1_6, .ref b2_6, .int (nI 0), .int (nI 0)])), (b1_6, .inl (cJ, 64, .inr (.inl (fun _ => 0)))), (b2_6, .inl (cI, 64, .inl (fun _ => 0)))] H := hP
  have hD : va_D A [(o, .inr (3, [.ref q_1, .ref q_3, .ref q_5, .int 4, .int 2, .int 0, .int 0, .int 0, .int 0, .int 0, .int 0])), (q_1, .inr (2, [.long 0, .long 0, .long 0, .long 0, .long 0, .long 0])), (q_3, .inr (1, [.ref a1_4, .ref a2_4, .ref a3_4, .ref a4_4, .ref a5_4, .int (nI 0)])), (a1_4, .inl (cJ, 32, .inr (.inl (fun _ => 0)))), (a2_4, .inl (cI, 32, .inl (fun _ => 0))), (a3_4, .inl (cI, 32, .inl (fun _ => 0))), (a4_4, .inl (cI, 32, .inl (fun _ => 0))), (a5_4, .inl (cI, 32, .inl (fun _ => 0))), (q_5, .inr (0, [.ref b1_6, .ref b2_6, .int (nI 0), .int (nI 0)])), (b1_6, .inl (cJ, 64, .inr (.inl (fun _ => 0)))), (b2_6, .inl (cI, 64, .inl (fun _ => 0)))] := hD
  refine lv_aload_n hx hb dX3_init_52 rfl (lv_at hl 0 rfl) ?_
  refine lv_iconst (v := 0) hx hb dX3_init_53 (by decide) ?_
  refine va_put (D := (dC, dI)) (ci := 3) (v := .int 0) (ty := .int) (C := RX3) (T := TX3) (N := 11) hx hb hts (k_X3_init_in3) tyX3 tyX3_ok nmX3 hown hK hP hD hS 0 rfl rfl 6 (by decide) (hts _ k_X3_init_f40) (fun _ h9 => h9) rfl (by decide +kernel) rfl rfl (Nat.le_of_ble_eq_true rfl) dX3_init_54 (fun H locs hP hD hS => ?_)
  have hP : va_P (dC, dI) vwCl [(o, .inr (3, [.ref q_1, .ref q_3, .ref q_5, .int 4, .int 2, .int 0, .int 0, .int 0, .int 0, .int 0, .int 0])), (q_1, .inr (2, [.long 0, .long 0, .long 0, .long 0, .long 0, .long 0])), (q_3, .inr (1, [.ref a1_4, .ref a2_4, .ref a3_4, .ref a4_4, .ref a5_4, .int (nI 0)])), (a1_4, .inl (cJ, 32, .inr (.inl (fun _ => 0)))), (a2_4, .inl (cI, 32, .inl (fun _ => 0))), (a3_4, .inl (cI, 32, .inl (fun _ => 0))), (a4_4, .inl (cI, 32, .inl (fun _ => 0))), (a5_4, .inl (cI, 32, .inl (fun _ => 0))), (q_5, .inr (0, [.ref b1_6, .ref b2_6, .int (nI 0), .int (nI 0)])), (b1_6, .inl (cJ, 64, .inr (.inl (fun _ => 0)))), (b2_6, .inl (cI, 64, .inl (fun _ => 0)))] H := hP
  have hD : va_D A [(o, .inr (3, [.ref q_1, .ref q_3, .ref q_5, .int 4, .int 2, .int 0, .int 0, .int 0, .int 0, .int 0, .int 0])), (q_1, .inr (2, [.long 0, .long 0, .long 0, .long 0, .long 0, .long 0])), (q_3, .inr (1, [.ref a1_4, .ref a2_4, .ref a3_4, .ref a4_4, .ref a5_4, .int (nI 0)])), (a1_4, .inl (cJ, 32, .inr (.inl (fun _ => 0)))), (a2_4, .inl (cI, 32, .inl (fun _ => 0))), (a3_4, .inl (cI, 32, .inl (fun _ => 0))), (a4_4, .inl (cI, 32, .inl (fun _ => 0))), (a5_4, .inl (cI, 32, .inl (fun _ => 0))), (q_5, .inr (0, [.ref b1_6, .ref b2_6, .int (nI 0), .int (nI 0)])), (b1_6, .inl (cJ, 64, .inr (.inl (fun _ => 0)))), (b2_6, .inl (cI, 64, .inl (fun _ => 0)))] := hD
  refine lv_aload_n hx hb dX3_init_57 rfl (lv_at hl 0 rfl) ?_
  refine lv_iconst (v := 0) hx hb dX3_init_58 (by decide) ?_
  refine va_put (D := (dC, dI)) (ci := 3) (v := .int 0) (ty := .int) (C := RX3) (T := TX3) (N := 11) hx hb hts (k_X3_init_in3) tyX3 tyX3_ok nmX3 hown hK hP hD hS 0 rfl rfl 7 (by decide) (hts _ k_X3_init_f43) (fun _ h9 => h9) rfl (by decide +kernel) rfl rfl (Nat.le_of_ble_eq_true rfl) dX3_init_59 (fun H locs hP hD hS => ?_)
  have hP : va_P (dC, dI) vwCl [(o, .inr (3, [.ref q_1, .ref q_3, .ref q_5, .int 4, .int 2, .int 0, .int 0, .int 0, .int 0, .int 0, .int 0])), (q_1, .inr (2, [.long 0, .long 0, .long 0, .long 0, .long 0, .long 0])), (q_3, .inr (1, [.ref a1_4, .ref a2_4, .ref a3_4, .ref a4_4, .ref a5_4, .int (nI 0)])), (a1_4, .inl (cJ, 32, .inr (.inl (fun _ => 0)))), (a2_4, .inl (cI, 32, .inl (fun _ => 0))), (a3_4, .inl (cI, 32, .inl (fun _ => 0))), (a4_4, .inl (cI, 32, .inl (fun _ => 0))), (a5_4, .inl (cI, 32, .inl (fun _ => 0))), (q_5, .inr (0, [.ref b1_6, .ref b2_6, .int (nI 0), .int (nI 0)])), (b1_6, .inl (cJ, 64, .inr (.inl (fun _ => 0)))), (b2_6, .inl (cI, 64, .inl (fun _ => 0)))] H := hP
  have hD : va_D A [(o, .inr (3, [.ref q_1, .ref q_3, .ref q_5, .int 4, .int 2, .int 0, .int 0, .int 0, .int 0, .int 0, .int 0])), (q_1, .inr (2, [.long 0, .long 0, .long 0, .long 0, .long 0, .long 0])), (q_3, .inr (1, [.ref a1_4, .ref a2_4, .ref a3_4, .ref a4_4, .ref a5_4, .int (nI 0)])), (a1_4, .inl (cJ, 32, .inr (.inl (fun _ => 0)))), (a2_4, .inl (cI, 32, .inl (fun _ => 0))), (a3_4, .inl (cI, 32, .inl (fun _ => 0))), (a4_4, .inl (cI, 32, .inl (fun _ => 0))), (a5_4, .inl (cI, 32, .inl (fun _ => 0))), (q_5, .inr (0, [.ref b1_6, .ref b2_6, .int (nI 0), .int (nI 0)])), (b1_6, .inl (cJ, 64, .inr (.inl (fun _ => 0)))), (b2_6, .inl (cI, 64, .inl (fun _ => 0)))] := hD
  refine lv_aload_n hx hb dX3_init_62 rfl (lv_at hl 0 rfl) ?_
  refine lv_iconst (v := 0) hx hb dX3_init_63 (by decide) ?_
  refine va_put (D := (dC, dI)) (ci := 3) (v := .int 0) (ty := .int) (C := RX3) (T := TX3) (N := 11) hx hb hts (k_X3_init_in3) tyX3 tyX3_ok nmX3 hown hK hP hD hS 0 rfl rfl 8 (by decide) (hts _ k_X3_init_f46) (fun _ h9 => h9) rfl (by decide +kernel) rfl rfl (Nat.le_of_ble_eq_true rfl) dX3_init_64 (fun H locs hP hD hS => ?_)
  have hP : va_P (dC, dI) vwCl [(o, .inr (3, [.ref q_1, .ref q_3, .ref q_5, .int 4, .int 2, .int 0, .int 0, .int 0, .int 0, .int 0, .int 0])), (q_1, .inr (2, [.long 0, .long 0, .long 0, .long 0, .long 0, .long 0])), (q_3, .inr (1, [.ref a1_4, .ref a2_4, .ref a3_4, .ref a4_4, .ref a5_4, .int (nI 0)])), (a1_4, .inl (cJ, 32, .inr (.inl (fun _ => 0)))), (a2_4, .inl (cI, 32, .inl (fun _ => 0))), (a3_4, .inl (cI, 32, .inl (fun _ => 0))), (a4_4, .inl (cI, 32, .inl (fun _ => 0))), (a5_4, .inl (cI, 32, .inl (fun _ => 0))), (q_5, .inr (0, [.ref b1_6, .ref b2_6, .int (nI 0), .int (nI 0)])), (b1_6, .inl (cJ, 64, .inr (.inl (fun _ => 0)))), (b2_6, .inl (cI, 64, .inl (fun _ => 0)))] H := hP
  have hD : va_D A [(o, .inr (3, [.ref q_1, .ref q_3, .ref q_5, .int 4, .int 2, .int 0, .int 0, .int 0, .int 0, .int 0, .int 0])), (q_1, .inr (2, [.long 0, .long 0, .long 0, .long 0, .long 0, .long 0])), (q_3, .inr (1, [.ref a1_4, .ref a2_4, .ref a3_4, .ref a4_4, .ref a5_4, .int (nI 0)])), (a1_4, .inl (cJ, 32, .inr (.inl (fun _ => 0)))), (a2_4, .inl (cI, 32, .inl (fun _ => 0))), (a3_4, .inl (cI, 32, .inl (fun _ => 0))), (a4_4, .inl (cI, 32, .inl (fun _ => 0))), (a5_4, .inl (cI, 32, .inl (fun _ => 0))), (q_5, .inr (0, [.ref b1_6, .ref b2_6, .int (nI 0), .int (nI 0)])), (b1_6, .inl (cJ, 64, .inr (.inl (fun _ => 0)))), (b2_6, .inl (cI, 64, .inl (fun _ => 0)))] := hD
  refine lv_aload_n hx hb dX3_init_67 rfl (lv_at hl 0 rfl) ?_
  refine lv_iconst (v := 0) hx hb dX3_init_68 (by decide) ?_
  refine va_put (D := (dC, dI)) (ci := 3) (v := .int 0) (ty := .int) (C := RX3) (T := TX3) (N := 11) hx hb hts (k_X3_init_in3) tyX3 tyX3_ok nmX3 hown hK hP hD hS 0 rfl rfl 9 (by decide) (hts _ k_X3_init_f49) (fun _ h9 => h9) rfl (by decide +kernel) rfl rfl (Nat.le_of_ble_eq_true rfl) dX3_init_69 (fun H locs hP hD hS => ?_)
  have hP : va_P (dC, dI) vwCl [(o, .inr (3, [.ref q_1, .ref q_3, .ref q_5, .int 4, .int 2, .int 0, .int 0, .int 0, .int 0, .int 0, .int 0])), (q_1, .inr (2, [.long 0, .long 0, .long 0, .long 0, .long 0, .long 0])), (q_3, .inr (1, [.ref a1_4, .ref a2_4, .ref a3_4, .ref a4_4, .ref a5_4, .int (nI 0)])), (a1_4, .inl (cJ, 32, .inr (.inl (fun _ => 0)))), (a2_4, .inl (cI, 32, .inl (fun _ => 0))), (a3_4, .inl (cI, 32, .inl (fun _ => 0))), (a4_4, .inl (cI, 32, .inl (fun _ => 0))), (a5_4, .inl (cI, 32, .inl (fun _ => 0))), (q_5, .inr (0, [.ref b1_6, .ref b2_6, .int (nI 0), .int (nI 0)])), (b1_6, .inl (cJ, 64, .inr (.inl (fun _ => 0)))), (b2_6, .inl (cI, 64, .inl (fun _ => 0)))] H := hP
  have hD : va_D A [(o, .inr (3, [.ref q_1, .ref q_3, .ref q_5, .int 4, .int 2, .int 0, .int 0, .int 0, .int 0, .int 0, .int 0])), (q_1, .inr (2, [.long 0, .long 0, .long 0, .long 0, .long 0, .long 0])), (q_3, .inr (1, [.ref a1_4, .ref a2_4, .ref a3_4, .ref a4_4, .ref a5_4, .int (nI 0)])), (a1_4, .inl (cJ, 32, .inr (.inl (fun _ => 0)))), (a2_4, .inl (cI, 32, .inl (fun _ => 0))), (a3_4, .inl (cI, 32, .inl (fun _ => 0))), (a4_4, .inl (cI, 32, .inl (fun _ => 0))), (a5_4, .inl (cI, 32, .inl (fun _ => 0))), (q_5, .inr (0, [.ref b1_6, .ref b2_6, .int (nI 0), .int (nI 0)])), (b1_6, .inl (cJ, 64, .inr (.inl (fun _ => 0)))), (b2_6, .inl (cI, 64, .inl (fun _ => 0)))] := hD
  refine lv_aload_n hx hb dX3_init_72 rfl (lv_at hl 0 rfl) ?_
  refine lv_iconst (v := 0) hx hb dX3_init_73 (by decide) ?_
  refine va_put (D := (dC, dI)) (ci := 3) (v := .int 0) (ty := .int) (C := RX3) (T := TX3) (N := 11) hx hb hts (k_X3_init_in3) tyX3 tyX3_ok nmX3 hown hK hP hD hS 0 rfl rfl 10 (by decide) (hts _ k_X3_init_f52) (fun _ h9 => h9) rfl (by decide +kernel) rfl rfl (Nat.le_of_ble_eq_true rfl) dX3_init_74 (fun H locs hP hD hS => ?_)
  have hP : va_P (dC, dI) vwCl [(o, .inr (3, [.ref q_1, .ref q_3, .ref q_5, .int 4, .int 2, .int 0, .int 0, .int 0, .int 0, .int 0, .int 0])), (q_1, .inr (2, [.long 0, .long 0, .long 0, .long 0, .long 0, .long 0])), (q_3, .inr (1, [.ref a1_4, .ref a2_4, .ref a3_4, .ref a4_4, .ref a5_4, .int (nI 0)])), (a1_4, .inl (cJ, 32, .inr (.inl (fun _ => 0)))), (a2_4, .inl (cI, 32, .inl (fun _ => 0))), (a3_4, .inl (cI, 32, .inl (fun _ => 0))), (a4_4, .inl (cI, 32, .inl (fun _ => 0))), (a5_4, .inl (cI, 32, .inl (fun _ => 0))), (q_5, .inr (0, [.ref b1_6, .ref b2_6, .int (nI 0), .int (nI 0)])), (b1_6, .inl (cJ, 64, .inr (.inl (fun _ => 0)))), (b2_6, .inl (cI, 64, .inl (fun _ => 0)))] H := hP
  have hD : va_D A [(o, .inr (3, [.ref q_1, .ref q_3, .ref q_5, .int 4, .int 2, .int 0, .int 0, .int 0, .int 0, .int 0, .int 0])), (q_1, .inr (2, [.long 0, .long 0, .long 0, .long 0, .long 0, .long 0])), (q_3, .inr (1, [.ref a1_4, .ref a2_4, .ref a3_4, .ref a4_4, .ref a5_4, .int (nI 0)])), (a1_4, .inl (cJ, 32, .inr (.inl (fun _ => 0)))), (a2_4, .inl (cI, 32, .inl (fun _ => 0))), (a3_4, .inl (cI, 32, .inl (fun _ => 0))), (a4_4, .inl (cI, 32, .inl (fun _ => 0))), (a5_4, .inl (cI, 32, .inl (fun _ => 0))), (q_5, .inr (0, [.ref b1_6, .ref b2_6, .int (nI 0), .int (nI 0)])), (b1_6, .inl (cJ, 64, .inr (.inl (fun _ => 0)))), (b2_6, .inl (cI, 64, .inl (fun _ => 0)))] := hD
  refine ck_vr hx hb hr hlocks (Nat.le_of_ble_eq_true rfl) (Nat.le_of_ble_eq_true rfl) dX3_init_77 (q_1, q_3, a1_4, a2_4, a3_4, a4_4, a5_4, q_5, b1_6, b2_6) hP hD hS ?_
  exact trivial
set_option maxRecDepth 20000 in
theorem k_X3_rooms_f30 : (.fieldLink RX3 30 "CookieListener" "sizeOfHalves" "I" : Cond) ∈ wsX3_rooms := by decide +kernel
set_option maxRecDepth 20000 in
theorem k_X3_rooms_in3 : ∀ w ∈ u_ws RX3 TX3 11, w ∈ wsX3_rooms := by decide +kernel
set_option maxRecDepth 20000 in
theorem k_X3_rooms_f34 : (.fieldLink RX3 34 "CookieListener" "roomOfQueue" "I" : Cond) ∈ wsX3_rooms := by decide +kernel
set_option maxHeartbeats 4000000 in
set_option maxRecDepth 100000 in
theorem c_X3_rooms (l : Launch) (dC : Nat → ClassId) (dI : Nat → Nat → Nat) (cI cJ cZ : ClassId) (lo sz : Nat) (o sp h cn : Nat) (zs rq ti ct gv bh bc un : Int32) (zs1 rq1 : Int32) (hs1 : 0 ≤ zs1) (hs2 : zs1 ≤ 32) (hr1 : 1 ≤ rq1) (hr2 : rq1 ≤ 16) : Met l yX3_rooms wsX3_rooms ({ frames := 1, cells := 0, slots := 0, locals := 22 } : Room) (va_Pc [.ref o, .int zs1, .int rq1] (ck_P (dC, dI) [(cI, .int), (cJ, .long), (cZ, .boolean)] lo sz [(o, .inr (3, [.ref sp, .ref h, .ref cn, .int zs, .int rq, .int ti, .int ct, .int gv, .int bh, .int bc, .int un]))])) (va_Qv (fun (u : Unit) => True) (fun u => ck_B (dC, dI) vwCl (va_A [(o, .inr (3, [.ref sp, .ref h, .ref cn, .int zs, .int rq, .int ti, .int ct, .int gv, .int bh, .int bc, .int un]))] sz) ((fun u : Unit => ([(o, .inr (3, [.ref sp, .ref h, .ref cn, .int zs1, .int rq1, .int ti, .int ct, .int gv, .int bh, .int bc, .int un]))] : va_W)) u)) (va_A [(o, .inr (3, [.ref sp, .ref h, .ref cn, .int zs, .int rq, .int ti, .int ct, .int gv, .int bh, .int bc, .int un]))] sz)) 0 0 (va_A [(o, .inr (3, [.ref sp, .ref h, .ref cn, .int zs, .int rq, .int ti, .int ct, .int gv, .int bh, .int bc, .int un]))] sz) := by
  refine Met.ofW (cc := cX3_rooms) (maxL := 3) (ret := none) (by decide) rfl ?_
  intro p e s m args below meth c s₁ B hml hv
  obtain ⟨rfl, hsz, hP, hK, hD0, hE⟩ := hv
  have hx := B.exec
  have hb := B.bytes
  have hr := B.returns
  have hts := atoms_spec (ws := wsX3_rooms) B.pre
  have hown : s.vm.findClass RX3 = some m.cls := findClass_of_methodNamed B.named
  have hlocks := B.notSynchronized
  subst hsz
  have hD := hD0.self (sz := s.heap.size)
  have hlo := ck_lo (sz := s.heap.size) hD0 hE.1
  generalize hAe : va_A [(o, .inr (3, [.ref sp, .ref h, .ref cn, .int zs, .int rq, .int ti, .int ct, .int gv, .int bh, .int bc, .int un]))] s.heap.size = A at hD hlo ⊢
  have hA : ∀ q : Nat, s.heap.size ≤ q → A q := fun q h => by rw [← hAe]; exact Or.inr h
  have hG : ck_G (dC, dI) [(cI, .int), (cJ, .long), (cZ, .boolean)] lo A s := ⟨hK, hE, hA, hlo⟩
  have hS : va_S A s.heap s.heap [] := va_S.rf
  have hP : va_P (dC, dI) vwCl [(o, .inr (3, [.ref sp, .ref h, .ref cn, .int zs, .int rq, .int ti, .int ct, .int gv, .int bh, .int bc, .int un]))] s.heap := hP
  have hl := lv_entry ([.ref o, .int zs1, .int rq1]) (n := 3) (Nat.le_of_ble_eq_true rfl)
  rw [lg_entry_eq]
  generalize (lg_sl ([.ref o, .int zs1, .int rq1]) ++ List.replicate (3 - (lg_sl ([.ref o, .int zs1, .int rq1])).length) Slot.unset).toArray = ls at hl ⊢
  have hl : lv_has ls 3 [(0, .ref o), (1, .int zs1), (2, .int rq1)] := hl
  refine lv_iload_n hx hb dX3_rooms_0 rfl (lv_at hl 1 rfl) ?_
  refine lv_iconst (v := 0) hx hb dX3_rooms_1 (by decide) ?_
  refine lv_bipush (v := 32) hx hb dX3_rooms_2 (by decide) ?_
  refine ck_rv (va_runS (As := [.int zs1, .int 0, .int 32]) (rest := []) ⟨hx, hb, hml, hown, hts⟩ (c_X3_requireWithin l dC dI cI cJ cZ lo _ zs1 0 32 (by first | assumption | omega) (by first | assumption | omega)) (va_cwS 3 hts gX3_rooms_X3_requireWithin rfl rfl rfl (by decide +kernel) ⟨(Nat.le_of_ble_eq_true rfl), (Nat.le_of_ble_eq_true rfl)⟩) ⟨ck_blind, (ck_pre hG hP hD hS [] rfl (by decide) _)⟩ rfl rfl hl.1 rfl (lv_room (Nat.le_of_ble_eq_true rfl)) dX3_rooms_4 ⟨(Nat.le_of_ble_eq_true rfl), (Nat.le_of_ble_eq_true rfl)⟩) (fun hw_1 => ?_)
  refine lv_iload_n hx hb dX3_rooms_7 rfl (lv_at hl 2 rfl) ?_
  refine lv_iconst (v := 1) hx hb dX3_rooms_8 (by decide) ?_
  refine lv_bipush (v := 16) hx hb dX3_rooms_9 (by decide) ?_
  refine ck_rv (va_runS (As := [.int rq1, .int 1, .int 16]) (rest := []) ⟨hx, hb, hml, hown, hts⟩ (c_X3_requireWithin l dC dI cI cJ cZ lo _ rq1 1 16 (by first | assumption | omega) (by first | assumption | omega)) (va_cwS 3 hts gX3_rooms_X3_requireWithin rfl rfl rfl (by decide +kernel) ⟨(Nat.le_of_ble_eq_true rfl), (Nat.le_of_ble_eq_true rfl)⟩) ⟨ck_blind, (ck_pre hG hP hD hS [] rfl (by decide) _)⟩ rfl rfl hl.1 rfl (lv_room (Nat.le_of_ble_eq_true rfl)) dX3_rooms_11 ⟨(Nat.le_of_ble_eq_true rfl), (Nat.le_of_ble_eq_true rfl)⟩) (fun hw_2 => ?_)
  refine lv_aload_n hx hb dX3_rooms_14 rfl (lv_at hl 0 rfl) ?_
  refine lv_iload_n hx hb dX3_rooms_15 rfl (lv_at hl 1 rfl) ?_
  refine va_put (D := (dC, dI)) (ci := 3) (v := .int zs1) (ty := .int) (C := RX3) (T := TX3) (N := 11) hx hb hts (k_X3_rooms_in3) tyX3 tyX3_ok nmX3 hown hK hP hD hS 0 rfl rfl 3 (by decide) (hts _ k_X3_rooms_f30) (fun _ h9 => h9) rfl (by decide +kernel) rfl rfl (Nat.le_of_ble_eq_true rfl) dX3_rooms_16 (fun H locs hP hD hS => ?_)
  have hP : va_P (dC, dI) vwCl [(o, .inr (3, [.ref sp, .ref h, .ref cn, .int zs1, .int rq, .int ti, .int ct, .int gv, .int bh, .int bc, .int un]))] H := hP
  have hD : va_D A [(o, .inr (3, [.ref sp, .ref h, .ref cn, .int zs1, .int rq, .int ti, .int ct, .int gv, .int bh, .int bc, .int un]))] := hD
  refine lv_aload_n hx hb dX3_rooms_19 rfl (lv_at hl 0 rfl) ?_
  refine lv_iload_n hx hb dX3_rooms_20 rfl (lv_at hl 2 rfl) ?_
  refine va_put (D := (dC, dI)) (ci := 3) (v := .int rq1) (ty := .int) (C := RX3) (T := TX3) (N := 11) hx hb hts (k_X3_rooms_in3) tyX3 tyX3_ok nmX3 hown hK hP hD hS 0 rfl rfl 4 (by decide) (hts _ k_X3_rooms_f34) (fun _ h9 => h9) rfl (by decide +kernel) rfl rfl (Nat.le_of_ble_eq_true rfl) dX3_rooms_21 (fun H locs hP hD hS => ?_)
  have hP : va_P (dC, dI) vwCl [(o, .inr (3, [.ref sp, .ref h, .ref cn, .int zs1, .int rq1, .int ti, .int ct, .int gv, .int bh, .int bc, .int un]))] H := hP
  have hD : va_D A [(o, .inr (3, [.ref sp, .ref h, .ref cn, .int zs1, .int rq1, .int ti, .int ct, .int gv, .int bh, .int bc, .int un]))] := hD
  subst_vars
  refine ck_vr hx hb hr hlocks (Nat.le_of_ble_eq_true rfl) (Nat.le_of_ble_eq_true rfl) dX3_rooms_24 () hP hD hS ?_
  exact trivial
set_option maxRecDepth 20000 in
theorem k_X3_key_f10 : (.fieldLink RX3 10 "CookieListener" "sip" "LCookieListener$SipHash;" : Cond) ∈ wsX3_key := by decide +kernel
set_option maxRecDepth 20000 in
theorem k_X3_key_in3 : ∀ w ∈ u_ws RX3 TX3 11, w ∈ wsX3_key := by decide +kernel
set_option maxHeartbeats 4000000 in
set_option maxRecDepth 100000 in
theorem c_X3_key (l : Launch) (dC : Nat → ClassId) (dI : Nat → Nat → Nat) (cI cJ cZ : ClassId) (lo sz : Nat) (o sp h cn : Nat) (zs rq ti ct gv bh bc un : Int32) (k l0 v0 v1 v2 v3 : Int64) (k1 l1 : Int64) : Met l yX3_key wsX3_key ({ frames := 1, cells := 0, slots := 0, locals := 24 } : Room) (va_Pc [.ref o, .long k1, .long l1] (ck_P (dC, dI) [(cI, .int), (cJ, .long), (cZ, .boolean)] lo sz [(o, .inr (3, [.ref sp, .ref h, .ref cn, .int zs, .int rq, .int ti, .int ct, .int gv, .int bh, .int bc, .int un])), (sp, .inr (2, [.long k, .long l0, .long v0, .long v1, .long v2, .long v3]))])) (va_Qv (fun (u : Unit) => True) (fun u => ck_B (dC, dI) vwCl (va_A [(o, .inr (3, [.ref sp, .ref h, .ref cn, .int zs, .int rq, .int ti, .int ct, .int gv, .int bh, .int bc, .int un])), (sp, .inr (2, [.long k, .long l0, .long v0, .long v1, .long v2, .long v3]))] sz) ((fun u : Unit => ([(o, .inr (3, [.ref sp, .ref h, .ref cn, .int zs, .int rq, .int ti, .int ct, .int gv, .int bh, .int bc, .int un])), (sp, .inr (2, [.long k1, .long l1, .long v0, .long v1, .long v2, .long v3]))] : va_W)) u)) (va_A [(o, .inr (3, [.ref sp, .ref h, .ref cn, .int zs, .int rq, .int ti, .int ct, .int gv, .int bh, .int bc, .int un])), (sp, .inr (2, [.long k, .long l0, .long v0, .long v1, .long v2, .long v3]))] sz)) 0 0 (va_A [(o, .inr (3, [.ref sp, .ref h, .ref cn, .int zs, .int rq, .int ti, .int ct, .int gv, .int bh, .int bc, .int un])), (sp, .inr (2, [.long k, .long l0, .long v0, .long v1, .long v2, .long v3]))] sz) := by
  refine Met.ofW (cc := cX3_key) (maxL := 5) (ret := none) (by decide) rfl ?_
  intro p e s m args below meth c s₁ B hml hv
  obtain ⟨rfl, hsz, hP, hK, hD0, hE⟩ := hv
  have hx := B.exec
  have hb := B.bytes
  have hr := B.returns
  have hts := atoms_spec (ws := wsX3_key) B.pre
  have hown : s.vm.findClass RX3 = some m.cls := findClass_of_methodNamed B.named
  have hlocks := B.notSynchronized
  subst hsz
  have hD := hD0.self (sz := s.heap.size)
  have hlo := ck_lo (sz := s.heap.size) hD0 hE.1
  generalize hAe : va_A [(o, .inr (3, [.ref sp, .ref h, .ref cn, .int zs, .int rq, .int ti, .int ct, .int gv, .int bh, .int bc, .int un])), (sp, .inr (2, [.long k, .long l0, .long v0, .long v1, .long v2, .long v3]))] s.heap.size = A at hD hlo ⊢
  have hA : ∀ q : Nat, s.heap.size ≤ q → A q := fun q h => by rw [← hAe]; exact Or.inr h
  have hG : ck_G (dC, dI) [(cI, .int), (cJ, .long), (cZ, .boolean)] lo A s := ⟨hK, hE, hA, hlo⟩
  have hS : va_S A s.heap s.heap [] := va_S.rf
  have hP : va_P (dC, dI) vwCl [(o, .inr (3, [.ref sp, .ref h, .ref cn, .int zs, .int rq, .int ti, .int ct, .int gv, .int bh, .int bc, .int un])), (sp, .inr (2, [.long k, .long l0, .long v0, .long v1, .long v2, .long v3]))] s.heap := hP
  have hl := lv_entry ([.ref o, .long k1, .long l1]) (n := 5) (Nat.le_of_ble_eq_true rfl)
  rw [lg_entry_eq]
  generalize (lg_sl ([.ref o, .long k1, .long l1]) ++ List.replicate (5 - (lg_sl ([.ref o, .long k1, .long l1])).length) Slot.unset).toArray = ls at hl ⊢
  have hl : lv_has ls 5 [(0, .ref o), (1, .long k1), (3, .long l1)] := hl
  refine lv_aload_n hx hb dX3_key_0 rfl (lv_at hl 0 rfl) ?_
  refine va_get (D := (dC, dI)) (ci := 3) (v := .ref sp) (C := RX3) (T := TX3) (N := 11) hx hb hts (k_X3_key_in3) hown hK hP 0 rfl rfl 0 (by decide) (hts _ k_X3_key_f10) (fun _ h9 => h9) rfl dX3_key_1 ?_
  refine lv_lload_n hx hb dX3_key_4 rfl (lv_at hl 1 rfl) ?_
  refine lv_lload_n hx hb dX3_key_5 rfl (lv_at hl 2 rfl) ?_
  refine ck_cv (wr := [(o, .inr (3, [.ref sp, .ref h, .ref cn, .int zs, .int rq, .int ti, .int ct, .int gv, .int bh, .int bc, .int un]))]) (va_runV (As := [.long k1, .long l1]) (rest := []) ⟨hx, hb, hml, hown, hts⟩ (c_X2_useKey l dC dI cI cJ cZ lo _ sp k l0 v0 v1 v2 v3 k1 l1) (cwV 2 hts gX3_key_X2_useKey rfl rfl rfl (by decide +kernel) ⟨(Nat.le_of_ble_eq_true rfl), (Nat.le_of_ble_eq_true rfl)⟩) ⟨ck_blind, va_recv hK hP (ci := 2) (q0 := 1) rfl rfl, (ck_pre hG hP hD hS [1] rfl (by decide) _)⟩ rfl rfl hl.1 rfl (lv_room (Nat.le_of_ble_eq_true rfl)) dX3_key_6 ⟨(Nat.le_of_ble_eq_true rfl), (Nat.le_of_ble_eq_true rfl)⟩) hP hD hS hA [1] [0] rfl rfl (by decide) (by decide) (fun u H locs hw_1 hP hD hS => ?_)
  have hP : va_P (dC, dI) vwCl [(o, .inr (3, [.ref sp, .ref h, .ref cn, .int zs, .int rq, .int ti, .int ct, .int gv, .int bh, .int bc, .int un])), (sp, .inr (2, [.long k1, .long l1, .long v0, .long v1, .long v2, .long v3]))] H := hP
  have hD : va_D A [(o, .inr (3, [.ref sp, .ref h, .ref cn, .int zs, .int rq, .int ti, .int ct, .int gv, .int bh, .int bc, .int un])), (sp, .inr (2, [.long k1, .long l1, .long v0, .long v1, .long v2, .long v3]))] := hD
  subst_vars
  refine ck_vr hx hb hr hlocks (Nat.le_of_ble_eq_true rfl) (Nat.le_of_ble_eq_true rfl) dX3_key_9 () hP hD hS ?_
  exact trivial
set_option maxRecDepth 20000 in
theorem k_X3_hash_f10 : (.fieldLink RX3 10 "CookieListener" "sip" "LCookieListener$SipHash;" : Cond) ∈ wsX3_hash := by decide +kernel
set_option maxRecDepth 20000 in
theorem k_X3_hash_in3 : ∀ w ∈ u_ws RX3 TX3 11, w ∈ wsX3_hash := by decide +kernel
set_option maxHeartbeats 4000000 in
set_option maxRecDepth 100000 in
theorem c_X3_hash (l : Launch) (dC : Nat → ClassId) (dI : Nat → Nat → Nat) (cI cJ cZ : ClassId) (lo sz : Nat) (o sp h cn : Nat) (zs rq ti ct gv bh bc un : Int32) (k l0 v0 v1 v2 v3 : Int64) (w1 w2 : Int64) : Met l yX3_hash wsX3_hash ({ frames := 4, cells := 0, slots := 0, locals := 90 } : Room) (va_Pc [.ref o, .long w1, .long w2] (ck_P (dC, dI) [(cI, .int), (cJ, .long), (cZ, .boolean)] lo sz [(o, .inr (3, [.ref sp, .ref h, .ref cn, .int zs, .int rq, .int ti, .int ct, .int gv, .int bh, .int bc, .int un])), (sp, .inr (2, [.long k, .long l0, .long v0, .long v1, .long v2, .long v3]))])) (va_Ql (fun (r : Int64) (u : Int64 × Int64 × Int64 × Int64) => r = ck_sip k l0 w1 w2) (fun u => ck_B (dC, dI) vwCl (va_A [(o, .inr (3, [.ref sp, .ref h, .ref cn, .int zs, .int rq, .int ti, .int ct, .int gv, .int bh, .int bc, .int un])), (sp, .inr (2, [.long k, .long l0, .long v0, .long v1, .long v2, .long v3]))] sz) ((fun u : Int64 × Int64 × Int64 × Int64 => ([(o, .inr (3, [.ref sp, .ref h, .ref cn, .int zs, .int rq, .int ti, .int ct, .int gv, .int bh, .int bc, .int un])), (sp, .inr (2, [.long k, .long l0, .long u.1, .long u.2.1, .long u.2.2.1, .long u.2.2.2]))] : va_W)) u)) (va_A [(o, .inr (3, [.ref sp, .ref h, .ref cn, .int zs, .int rq, .int ti, .int ct, .int gv, .int bh, .int bc, .int un])), (sp, .inr (2, [.long k, .long l0, .long v0, .long v1, .long v2, .long v3]))] sz)) 0 0 (va_A [(o, .inr (3, [.ref sp, .ref h, .ref cn, .int zs, .int rq, .int ti, .int ct, .int gv, .int bh, .int bc, .int un])), (sp, .inr (2, [.long k, .long l0, .long v0, .long v1, .long v2, .long v3]))] sz) := by
  refine Met.ofW (cc := cX3_hash) (maxL := 5) (ret := (some .long)) (by decide) rfl ?_
  intro p e s m args below meth c s₁ B hml hv
  obtain ⟨rfl, hsz, hP, hK, hD0, hE⟩ := hv
  have hx := B.exec
  have hb := B.bytes
  have hr := B.returns
  have hts := atoms_spec (ws := wsX3_hash) B.pre
  have hown : s.vm.findClass RX3 = some m.cls := findClass_of_methodNamed B.named
  have hlocks := B.notSynchronized
  subst hsz
  have hD := hD0.self (sz := s.heap.size)
  have hlo := ck_lo (sz := s.heap.size) hD0 hE.1
  generalize hAe : va_A [(o, .inr (3, [.ref sp, .ref h, .ref cn, .int zs, .int rq, .int ti, .int ct, .int gv, .int bh, .int bc, .int un])), (sp, .inr (2, [.long k, .long l0, .long v0, .long v1, .long v2, .long v3]))] s.heap.size = A at hD hlo ⊢
  have hA : ∀ q : Nat, s.heap.size ≤ q → A q := fun q h => by rw [← hAe]; exact Or.inr h
  have hG : ck_G (dC, dI) [(cI, .int), (cJ, .long), (cZ, .boolean)] lo A s := ⟨hK, hE, hA, hlo⟩
  have hS : va_S A s.heap s.heap [] := va_S.rf
  have hP : va_P (dC, dI) vwCl [(o, .inr (3, [.ref sp, .ref h, .ref cn, .int zs, .int rq, .int ti, .int ct, .int gv, .int bh, .int bc, .int un])), (sp, .inr (2, [.long k, .long l0, .long v0, .long v1, .long v2, .long v3]))] s.heap := hP
  have hl := lv_entry ([.ref o, .long w1, .long w2]) (n := 5) (Nat.le_of_ble_eq_true rfl)
  rw [lg_entry_eq]
  generalize (lg_sl ([.ref o, .long w1, .long w2]) ++ List.replicate (5 - (lg_sl ([.ref o, .long w1, .long w2])).length) Slot.unset).toArray = ls at hl ⊢
  have hl : lv_has ls 5 [(0, .ref o), (1, .long w1), (3, .long w2)] := hl
  refine lv_aload_n hx hb dX3_hash_0 rfl (lv_at hl 0 rfl) ?_
  refine va_get (D := (dC, dI)) (ci := 3) (v := .ref sp) (C := RX3) (T := TX3) (N := 11) hx hb hts (k_X3_hash_in3) hown hK hP 0 rfl rfl 0 (by decide) (hts _ k_X3_hash_f10) (fun _ h9 => h9) rfl dX3_hash_1 ?_
  refine lv_lload_n hx hb dX3_hash_4 rfl (lv_at hl 1 rfl) ?_
  refine lv_lload_n hx hb dX3_hash_5 rfl (lv_at hl 2 rfl) ?_
  refine ck_cl (wr := [(o, .inr (3, [.ref sp, .ref h, .ref cn, .int zs, .int rq, .int ti, .int ct, .int gv, .int bh, .int bc, .int un]))]) (va_runV (As := [.long w1, .long w2]) (rest := []) ⟨hx, hb, hml, hown, hts⟩ (c_X2_digest l dC dI cI cJ cZ lo _ sp k l0 v0 v1 v2 v3 w1 w2) (cwV 2 hts gX3_hash_X2_digest rfl rfl rfl (by decide +kernel) ⟨(Nat.le_of_ble_eq_true rfl), (Nat.le_of_ble_eq_true rfl)⟩) ⟨ck_blind, va_recv hK hP (ci := 2) (q0 := 1) rfl rfl, (ck_pre hG hP hD hS [1] rfl (by decide) _)⟩ rfl rfl hl.1 rfl (lv_room (Nat.le_of_ble_eq_true rfl)) dX3_hash_6 ⟨(Nat.le_of_ble_eq_true rfl), (Nat.le_of_ble_eq_true rfl)⟩) hP hD hS hA [1] [0] rfl rfl (by decide) (by decide) (fun r_1 u H locs hw_1 hP hD hS => ?_)
  obtain ⟨u0_1, u1_1, u2_1, u3_1⟩ := u
  have hw_1 : r_1 = ck_sip k l0 w1 w2 := hw_1
  have hP : va_P (dC, dI) vwCl [(o, .inr (3, [.ref sp, .ref h, .ref cn, .int zs, .int rq, .int ti, .int ct, .int gv, .int bh, .int bc, .int un])), (sp, .inr (2, [.long k, .long l0, .long u0_1, .long u1_1, .long u2_1, .long u3_1]))] H := hP
  have hD : va_D A [(o, .inr (3, [.ref sp, .ref h, .ref cn, .int zs, .int rq, .int ti, .int ct, .int gv, .int bh, .int bc, .int un])), (sp, .inr (2, [.long k, .long l0, .long u0_1, .long u1_1, .long u2_1, .long u3_1]))] := hD
  refine ck_lr hx hb hr hlocks (Nat.le_of_ble_eq_true rfl) (Nat.le_of_ble_eq_true rfl) dX3_hash_9 (u0_1, u1_1, u2_1, u3_1) hP hD hS ?_
  exact hw_1
set_option maxRecDepth 20000 in
theorem k_X3_pass_f37 : (.fieldLink RX3 37 "CookieListener" "time" "I" : Cond) ∈ wsX3_pass := by decide +kernel
set_option maxRecDepth 20000 in
theorem k_X3_pass_in3 : ∀ w ∈ u_ws RX3 TX3 11, w ∈ wsX3_pass := by decide +kernel
set_option maxRecDepth 20000 in
theorem k_X3_pass_f19 : (.fieldLink RX3 19 "CookieListener" "halves" "LCookieListener$Halves;" : Cond) ∈ wsX3_pass := by decide +kernel
set_option maxHeartbeats 4000000 in
set_option maxRecDepth 100000 in
theorem c_X3_pass (l : Launch) (dC : Nat → ClassId) (dI : Nat → Nat → Nat) (cI cJ cZ : ClassId) (lo sz : Nat) (o sp h cn : Nat) (zs rq ti ct gv bh bc un : Int32) (a1 a2 a3 a4 a5 : Nat) (n : Nat) (f1 : Nat → Int64) (f2 f3 f4 f5 : Nat → Int32) (se : Int32) (hs1 : 0 ≤ se) (hs2 : se ≤ 10000) (hn : n ≤ 32) : Met l yX3_pass wsX3_pass ({ frames := 2, cells := 0, slots := 0, locals := 43 } : Room) (va_Pc [.ref o, .int se] (ck_P (dC, dI) [(cI, .int), (cJ, .long), (cZ, .boolean)] lo sz [(o, .inr (3, [.ref sp, .ref h, .ref cn, .int zs, .int rq, .int ti, .int ct, .int gv, .int bh, .int bc, .int un])), (h, .inr (1, [.ref a1, .ref a2, .ref a3, .ref a4, .ref a5, .int (nI n)])), (a1, .inl (cJ, 32, .inr (.inl f1))), (a2, .inl (cI, 32, .inl f2)), (a3, .inl (cI, 32, .inl f3)), (a4, .inl (cI, 32, .inl f4)), (a5, .inl (cI, 32, .inl f5))])) (va_Qi (fun (r : Int32) (u : Int32 × Nat × (Nat → Int64) × (Nat → Int32) × (Nat → Int32) × (Nat → Int32) × (Nat → Int32)) => u.1 = ti + se ∧ r = ti + se ∧ u.2.1 ≤ n ∧ (ck_L u.2.1 (ck_R u.2.2.1 u.2.2.2.1 u.2.2.2.2.1 u.2.2.2.2.2.1 u.2.2.2.2.2.2)).Perm ((ck_L n (ck_R f1 f2 f3 f4 f5)).filter (ck_yng (ti + se)))) (fun u => ck_B (dC, dI) vwCl (va_A [(o, .inr (3, [.ref sp, .ref h, .ref cn, .int zs, .int rq, .int ti, .int ct, .int gv, .int bh, .int bc, .int un])), (h, .inr (1, [.ref a1, .ref a2, .ref a3, .ref a4, .ref a5, .int (nI n)])), (a1, .inl (cJ, 32, .inr (.inl f1))), (a2, .inl (cI, 32, .inl f2)), (a3, .inl (cI, 32, .inl f3)), (a4, .inl (cI, 32, .inl f4)), (a5, .inl (cI, 32, .inl f5))] sz) ((fun u : Int32 × Nat × (Nat → Int64) × (Nat → Int32) × (Nat → Int32) × (Nat → Int32) × (Nat → Int32) => ([(o, .inr (3, [.ref sp, .ref h, .ref cn, .int zs, .int rq, .int u.1, .int ct, .int gv, .int bh, .int bc, .int un])), (h, .inr (1, [.ref a1, .ref a2, .ref a3, .ref a4, .ref a5, .int (nI u.2.1)])), (a1, .inl (cJ, 32, .inr (.inl u.2.2.1))), (a2, .inl (cI, 32, .inl u.2.2.2.1)), (a3, .inl (cI, 32, .inl u.2.2.2.2.1)), (a4, .inl (cI, 32, .inl u.2.2.2.2.2.1)), (a5, .inl (cI, 32, .inl u.2.2.2.2.2.2))] : va_W)) u)) (va_A [(o, .inr (3, [.ref sp, .ref h, .ref cn, .int zs, .int rq, .int ti, .int ct, .int gv, .int bh, .int bc, .int un])), (h, .inr (1, [.ref a1, .ref a2, .ref a3, .ref a4, .ref a5, .int (nI n)])), (a1, .inl (cJ, 32, .inr (.inl f1))), (a2, .inl (cI, 32, .inl f2)), (a3, .inl (cI, 32, .inl f3)), (a4, .inl (cI, 32, .inl f4)), (a5, .inl (cI, 32, .inl f5))] sz)) 0 0 (va_A [(o, .inr (3, [.ref sp, .ref h, .ref cn, .int zs, .int rq, .int ti, .int ct, .int gv, .int bh, .int bc, .int un])), (h, .inr (1, [.ref a1, .ref a2, .ref a3, .ref a4, .ref a5, .int (nI n)])), (a1, .inl (cJ, 32, .inr (.inl f1))), (a2, .inl (cI, 32, .inl f2)), (a3, .inl (cI, 32, .inl f3)), (a4, .inl (cI, 32, .inl f4)), (a5, .inl (cI, 32, .inl f5))] sz) := by
  refine Met.ofW (cc := cX3_pass) (maxL := 2) (ret := (some .int)) (by decide) rfl ?_
  intro p e s m args below meth c s₁ B hml hv
  obtain ⟨rfl, hsz, hP, hK, hD0, hE⟩ := hv
  have hx := B.exec
  have hb := B.bytes
  have hr := B.returns
  have hts := atoms_spec (ws := wsX3_pass) B.pre
  have hown : s.vm.findClass RX3 = some m.cls := findClass_of_methodNamed B.named
  have hlocks := B.notSynchronized
  subst hsz
  have hD := hD0.self (sz := s.heap.size)
  have hlo := ck_lo (sz := s.heap.size) hD0 hE.1
  generalize hAe : va_A [(o, .inr (3, [.ref sp, .ref h, .ref cn, .int zs, .int rq, .int ti, .int ct, .int gv, .int bh, .int bc, .int un])), (h, .inr (1, [.ref a1, .ref a2, .ref a3, .ref a4, .ref a5, .int (nI n)])), (a1, .inl (cJ, 32, .inr (.inl f1))), (a2, .inl (cI, 32, .inl f2)), (a3, .inl (cI, 32, .inl f3)), (a4, .inl (cI, 32, .inl f4)), (a5, .inl (cI, 32, .inl f5))] s.heap.size = A at hD hlo ⊢
  have hA : ∀ q : Nat, s.heap.size ≤ q → A q := fun q h => by rw [← hAe]; exact Or.inr h
  have hG : ck_G (dC, dI) [(cI, .int), (cJ, .long), (cZ, .boolean)] lo A s := ⟨hK, hE, hA, hlo⟩
  have hS : va_S A s.heap s.heap [] := va_S.rf
  have hP : va_P (dC, dI) vwCl [(o, .inr (3, [.ref sp, .ref h, .ref cn, .int zs, .int rq, .int ti, .int ct, .int gv, .int bh, .int bc, .int un])), (h, .inr (1, [.ref a1, .ref a2, .ref a3, .ref a4, .ref a5, .int (nI n)])), (a1, .inl (cJ, 32, .inr (.inl f1))), (a2, .inl (cI, 32, .inl f2)), (a3, .inl (cI, 32, .inl f3)), (a4, .inl (cI, 32, .inl f4)), (a5, .inl (cI, 32, .inl f5))] s.heap := hP
  have hl := lv_entry ([.ref o, .int se]) (n := 2) (Nat.le_of_ble_eq_true rfl)
  rw [lg_entry_eq]
  generalize (lg_sl ([.ref o, .int se]) ++ List.replicate (2 - (lg_sl ([.ref o, .int se])).length) Slot.unset).toArray = ls at hl ⊢
  have hl : lv_has ls 2 [(0, .ref o), (1, .int se)] := hl
  refine lv_iload_n hx hb dX3_pass_0 rfl (lv_at hl 1 rfl) ?_
  refine lv_iconst (v := 0) hx hb dX3_pass_1 (by decide) ?_
  refine lv_sipush (v := 10000) hx hb dX3_pass_2 (by decide) ?_
  refine ck_rv (va_runS (As := [.int se, .int 0, .int 10000]) (rest := []) ⟨hx, hb, hml, hown, hts⟩ (c_X3_requireWithin l dC dI cI cJ cZ lo _ se 0 10000 (by first | assumption | omega) (by first | assumption | omega)) (va_cwS 3 hts gX3_pass_X3_requireWithin rfl rfl rfl (by decide +kernel) ⟨(Nat.le_of_ble_eq_true rfl), (Nat.le_of_ble_eq_true rfl)⟩) ⟨ck_blind, (ck_pre hG hP hD hS [] rfl (by decide) _)⟩ rfl rfl hl.1 rfl (lv_room (Nat.le_of_ble_eq_true rfl)) dX3_pass_5 ⟨(Nat.le_of_ble_eq_true rfl), (Nat.le_of_ble_eq_true rfl)⟩) (fun hw_1 => ?_)
  refine lv_aload_n hx hb dX3_pass_8 rfl (lv_at hl 0 rfl) ?_
  refine lv_dup hx hb dX3_pass_9 rfl ?_
  refine va_get (D := (dC, dI)) (ci := 3) (v := .int ti) (C := RX3) (T := TX3) (N := 11) hx hb hts (k_X3_pass_in3) hown hK hP 0 rfl rfl 5 (by decide) (hts _ k_X3_pass_f37) (fun _ h9 => h9) rfl dX3_pass_10 ?_
  refine lv_iload_n hx hb dX3_pass_13 rfl (lv_at hl 1 rfl) ?_
  refine lv_iadd hx hb dX3_pass_14 ?_
  refine lv_topi (fun x_2 ex_2 => ?_)
  refine va_put (D := (dC, dI)) (ci := 3) (v := .int x_2) (ty := .int) (C := RX3) (T := TX3) (N := 11) hx hb hts (k_X3_pass_in3) tyX3 tyX3_ok nmX3 hown hK hP hD hS 0 rfl rfl 5 (by decide) (hts _ k_X3_pass_f37) (fun _ h9 => h9) rfl (by decide +kernel) rfl rfl (Nat.le_of_ble_eq_true rfl) dX3_pass_15 (fun H locs hP hD hS => ?_)
  have hP : va_P (dC, dI) vwCl [(o, .inr (3, [.ref sp, .ref h, .ref cn, .int zs, .int rq, .int x_2, .int ct, .int gv, .int bh, .int bc, .int un])), (h, .inr (1, [.ref a1, .ref a2, .ref a3, .ref a4, .ref a5, .int (nI n)])), (a1, .inl (cJ, 32, .inr (.inl f1))), (a2, .inl (cI, 32, .inl f2)), (a3, .inl (cI, 32, .inl f3)), (a4, .inl (cI, 32, .inl f4)), (a5, .inl (cI, 32, .inl f5))] H := hP
  have hD : va_D A [(o, .inr (3, [.ref sp, .ref h, .ref cn, .int zs, .int rq, .int x_2, .int ct, .int gv, .int bh, .int bc, .int un])), (h, .inr (1, [.ref a1, .ref a2, .ref a3, .ref a4, .ref a5, .int (nI n)])), (a1, .inl (cJ, 32, .inr (.inl f1))), (a2, .inl (cI, 32, .inl f2)), (a3, .inl (cI, 32, .inl f3)), (a4, .inl (cI, 32, .inl f4)), (a5, .inl (cI, 32, .inl f5))] := hD
  refine lv_aload_n hx hb dX3_pass_18 rfl (lv_at hl 0 rfl) ?_
  refine va_get (D := (dC, dI)) (ci := 3) (v := .ref h) (C := RX3) (T := TX3) (N := 11) hx hb hts (k_X3_pass_in3) hown hK hP 0 rfl rfl 1 (by decide) (hts _ k_X3_pass_f19) (fun _ h9 => h9) rfl dX3_pass_19 ?_
  refine lv_aload_n hx hb dX3_pass_22 rfl (lv_at hl 0 rfl) ?_
  refine va_get (D := (dC, dI)) (ci := 3) (v := .int x_2) (C := RX3) (T := TX3) (N := 11) hx hb hts (k_X3_pass_in3) hown hK hP 0 rfl rfl 5 (by decide) (hts _ k_X3_pass_f37) (fun _ h9 => h9) rfl dX3_pass_23 ?_
  refine ck_cv (wr := [(o, .inr (3, [.ref sp, .ref h, .ref cn, .int zs, .int rq, .int x_2, .int ct, .int gv, .int bh, .int bc, .int un]))]) (va_runV (As := [.int x_2]) (rest := []) ⟨hx, hb, hml, hown, hts⟩ (c_X1_dropOld l dC dI cI cJ cZ lo _ h a1 a2 a3 a4 a5 n f1 f2 f3 f4 f5 x_2 (by first | assumption | omega)) (cwV 1 hts gX3_pass_X1_dropOld rfl rfl rfl (by decide +kernel) ⟨(Nat.le_of_ble_eq_true rfl), (Nat.le_of_ble_eq_true rfl)⟩) ⟨ck_blind, va_recv hK hP (ci := 1) (q0 := 1) rfl rfl, (ck_pre hG hP hD hS [1, 2, 3, 4, 5, 6] rfl (by decide) _)⟩ rfl rfl hl.1 rfl (lv_room (Nat.le_of_ble_eq_true rfl)) dX3_pass_26 ⟨(Nat.le_of_ble_eq_true rfl), (Nat.le_of_ble_eq_true rfl)⟩) hP hD hS hA [1, 2, 3, 4, 5, 6] [0] rfl rfl (by decide) (by decide) (fun u H locs hw_3 hP hD hS => ?_)
  obtain ⟨n2_3, u1_3, u2_3, u3_3, u4_3, u5_3⟩ := u
  have hw_3 : n2_3 ≤ n ∧ (ck_L n2_3 (ck_R u1_3 u2_3 u3_3 u4_3 u5_3)).Perm ((ck_L n (ck_R f1 f2 f3 f4 f5)).filter (ck_yng x_2)) := hw_3
  have hP : va_P (dC, dI) vwCl [(o, .inr (3, [.ref sp, .ref h, .ref cn, .int zs, .int rq, .int x_2, .int ct, .int gv, .int bh, .int bc, .int un])), (h, .inr (1, [.ref a1, .ref a2, .ref a3, .ref a4, .ref a5, .int (nI n2_3)])), (a1, .inl (cJ, 32, .inr (.inl u1_3))), (a2, .inl (cI, 32, .inl u2_3)), (a3, .inl (cI, 32, .inl u3_3)), (a4, .inl (cI, 32, .inl u4_3)), (a5, .inl (cI, 32, .inl u5_3))] H := hP
  have hD : va_D A [(o, .inr (3, [.ref sp, .ref h, .ref cn, .int zs, .int rq, .int x_2, .int ct, .int gv, .int bh, .int bc, .int un])), (h, .inr (1, [.ref a1, .ref a2, .ref a3, .ref a4, .ref a5, .int (nI n2_3)])), (a1, .inl (cJ, 32, .inr (.inl u1_3))), (a2, .inl (cI, 32, .inl u2_3)), (a3, .inl (cI, 32, .inl u3_3)), (a4, .inl (cI, 32, .inl u4_3)), (a5, .inl (cI, 32, .inl u5_3))] := hD
  refine lv_aload_n hx hb dX3_pass_29 rfl (lv_at hl 0 rfl) ?_
  refine va_get (D := (dC, dI)) (ci := 3) (v := .int x_2) (C := RX3) (T := TX3) (N := 11) hx hb hts (k_X3_pass_in3) hown hK hP 0 rfl rfl 5 (by decide) (hts _ k_X3_pass_f37) (fun _ h9 => h9) rfl dX3_pass_30 ?_
  refine ck_ir hx hb hr hlocks (Nat.le_of_ble_eq_true rfl) (Nat.le_of_ble_eq_true rfl) dX3_pass_33 (x_2, n2_3, u1_3, u2_3, u3_3, u4_3, u5_3) hP hD hS ?_
  subst_vars
  exact ⟨rfl, rfl, hw_3⟩
set_option maxRecDepth 20000 in
theorem k_X3_syn_c67 : (.constant RX3 67 (65535) : Cond) ∈ wsX3_syn := by decide +kernel
set_option maxRecDepth 20000 in
theorem k_X3_syn_f26 : (.fieldLink RX3 26 "CookieListener" "connections" "LCookieListener$Connections;" : Cond) ∈ wsX3_syn := by decide +kernel
set_option maxRecDepth 20000 in
theorem k_X3_syn_in3 : ∀ w ∈ u_ws RX3 TX3 11, w ∈ wsX3_syn := by decide +kernel
set_option maxRecDepth 20000 in
theorem k_X3_syn_f19 : (.fieldLink RX3 19 "CookieListener" "halves" "LCookieListener$Halves;" : Cond) ∈ wsX3_syn := by decide +kernel
set_option maxRecDepth 20000 in
theorem k_X3_syn_in1 : ∀ w ∈ u_ws RX1 TX1 6, w ∈ wsX3_syn := by decide +kernel
set_option maxRecDepth 20000 in
theorem k_X3_syn_c76 : (.constantLong RX3 76 (-1) : Cond) ∈ wsX3_syn := by decide +kernel
set_option maxHeartbeats 4000000 in
set_option maxRecDepth 100000 in
theorem c_X3_syn (l : Launch) (dC : Nat → ClassId) (dI : Nat → Nat → Nat) (cI cJ cZ : ClassId) (lo sz : Nat) (o sp h cn : Nat) (zs rq ti ct gv bh bc un : Int32) (k l0 v0 v1 v2 v3 : Int64) (a1 a2 a3 a4 a5 : Nat) (n : Nat) (f1 : Nat → Int64) (f2 f3 f4 f5 : Nat → Int32) (b1 b2 : Nat) (kc t : Nat) (g1 : Nat → Int64) (g2 : Nat → Int32) (aa bb num z : Int32) (hb1 : 0 ≤ bb) (hb2 : bb ≤ 65535) (hz1 : 0 ≤ z) (hz2 : z ≤ 65535) (hn : n ≤ 32) (hk : kc ≤ 64) (ht : t ≤ kc) (hz : zs ≤ 32) : Met l yX3_syn wsX3_syn ({ frames := 6, cells := 0, slots := 0, locals := 150 } : Room) (va_Pc [.ref o, .int aa, .int bb, .int num, .int z] (ck_P (dC, dI) [(cI, .int), (cJ, .long), (cZ, .boolean)] lo sz [(o, .inr (3, [.ref sp, .ref h, .ref cn, .int zs, .int rq, .int ti, .int ct, .int gv, .int bh, .int bc, .int un])), (sp, .inr (2, [.long k, .long l0, .long v0, .long v1, .long v2, .long v3])), (h, .inr (1, [.ref a1, .ref a2, .ref a3, .ref a4, .ref a5, .int (nI n)])), (a1, .inl (cJ, 32, .inr (.inl f1))), (a2, .inl (cI, 32, .inl f2)), (a3, .inl (cI, 32, .inl f3)), (a4, .inl (cI, 32, .inl f4)), (a5, .inl (cI, 32, .inl f5)), (cn, .inr (0, [.ref b1, .ref b2, .int (nI kc), .int (nI t)])), (b1, .inl (cJ, 64, .inr (.inl g1))), (b2, .inl (cI, 64, .inl g2))])) (va_Ql (fun (r : Int64) (u : Int32 × Int32 × Nat × (Nat → Int64) × (Nat → Int32) × (Nat → Int32) × (Nat → Int32) × (Nat → Int32) × Int64 × Int64 × Int64 × Int64) => ((∃ j, j < kc ∧ g1 j = ck_clr aa bb) ∧ r = -1 ∧ u.2.1 = gv ∧ u.1 = ct ∧ u.2.2.1 = n ∧ u.2.2.2.1 = f1 ∧ u.2.2.2.2.1 = f2 ∧ u.2.2.2.2.2.1 = f3 ∧ u.2.2.2.2.2.2.1 = f4 ∧ u.2.2.2.2.2.2.2.1 = f5) ∨ ((∀ i, i < kc → g1 i ≠ ck_clr aa bb) ∧ (∃ j, j < n ∧ f1 j = ck_clr aa bb ∧ f2 j = num ∧ r = ck_wos (f3 j)) ∧ u.2.1 = gv ∧ u.1 = ct ∧ u.2.2.1 = n ∧ u.2.2.2.1 = f1 ∧ u.2.2.2.2.1 = f2 ∧ u.2.2.2.2.2.1 = f3 ∧ u.2.2.2.2.2.2.1 = f4 ∧ u.2.2.2.2.2.2.2.1 = f5) ∨ ((∀ i, i < kc → g1 i ≠ ck_clr aa bb) ∧ ∃ n1 F1, ck_lft n (ck_R f1 f2 f3 f4 f5) (ck_clr aa bb) num n1 F1 ∧ ((¬ nI n1 < zs ∧ r = ck_wos (ck_ckk k l0 (ck_clr aa bb) num (ck_kdi 8 z) (ti / 64)) ∧ u.2.1 = gv + 1 ∧ u.1 = ti ∧ u.2.2.1 = n1 ∧ ck_L u.2.2.1 (ck_R u.2.2.2.1 u.2.2.2.2.1 u.2.2.2.2.2.1 u.2.2.2.2.2.2.1 u.2.2.2.2.2.2.2.1) = ck_L n1 F1) ∨ (nI n1 < zs ∧ r = ck_wos (ck_ckk k l0 (ck_clr aa bb) num (ck_kdi 8 z) (ti / 64) ^^^ (-16777216)) ∧ u.2.1 = gv ∧ u.1 = ct ∧ u.2.2.1 = n1 + 1 ∧ ck_L u.2.2.1 (ck_R u.2.2.2.1 u.2.2.2.2.1 u.2.2.2.2.2.1 u.2.2.2.2.2.2.1 u.2.2.2.2.2.2.2.1) = ck_L n1 F1 ++ [(ck_clr aa bb, num, ck_ckk k l0 (ck_clr aa bb) num (ck_kdi 8 z) (ti / 64) ^^^ (-16777216), ck_kdi 8 z, ti)])))) (fun u => ck_B (dC, dI) vwCl (va_A [(o, .inr (3, [.ref sp, .ref h, .ref cn, .int zs, .int rq, .int ti, .int ct, .int gv, .int bh, .int bc, .int un])), (sp, .inr (2, [.long k, .long l0, .long v0, .long v1, .long v2, .long v3])), (h, .inr (1, [.ref a1, .ref a2, .ref a3, .ref a4, .ref a5, .int (nI n)])), (a1, .inl (cJ, 32, .inr (.inl f1))), (a2, .inl (cI, 32, .inl f2)), (a3, .inl (cI, 32, .inl f3)), (a4, .inl (cI, 32, .inl f4)), (a5, .inl (cI, 32, .inl f5)), (cn, .inr (0, [.ref b1, .ref b2, .int (nI kc), .int (nI t)])), (b1, .inl (cJ, 64, .inr (.inl g1))), (b2, .inl (cI, 64, .inl g2))] sz) ((fun u : Int32 × Int32 × Nat × (Nat → Int64) × (Nat → Int32) × (Nat → Int32) × (Nat → Int32) × (Nat → Int32) × Int64 × Int64 × Int64 × Int64 => ([(o, .inr (3, [.ref sp, .ref h, .ref cn, .int zs, .int rq, .int ti, .int u.1, .int u.2.1, .int bh, .int bc, .int un])), (sp, .inr (2, [.long k, .long l0, .long u.2.2.2.2.2.2.2.2.1, .long u.2.2.2.2.2.2.2.2.2.1, .long u.2.2.2.2.2.2.2.2.2.2.1, .long u.2.2.2.2.2.2.2.2.2.2.2])), (h, .inr (1, [.ref a1, .ref a2, .ref a3, .ref a4, .ref a5, .int (nI u.2.2.1)])), (a1, .inl (cJ, 32, .inr (.inl u.2.2.2.1))), (a2, .inl (cI, 32, .inl u.2.2.2.2.1)), (a3, .inl (cI, 32, .inl u.2.2.2.2.2.1)), (a4, .inl (cI, 32, .inl u.2.2.2.2.2.2.1)), (a5, .inl (cI, 32, .inl u.2.2.2.2.2.2.2.1)), (cn, .inr (0, [.ref b1, .ref b2, .int (nI kc), .int (nI t)])), (b1, .inl (cJ, 64, .inr (.inl g1))), (b2, .inl (cI, 64, .inl g2))] : va_W)) u)) (va_A [(o, .inr (3, [.ref sp, .ref h, .ref cn, .int zs, .int rq, .int ti, .int ct, .int gv, .int bh, .int bc, .int un])), (sp, .inr (2, [.long k, .long l0, .long v0, .long v1, .long v2, .long v3])), (h, .inr (1, [.ref a1, .ref a2, .ref a3, .ref a4, .ref a5, .int (nI n)])), (a1, .inl (cJ, 32, .inr (.inl f1))), (a2, .inl (cI, 32, .inl f2)), (a3, .inl (cI, 32, .inl f3)), (a4, .inl (cI, 32, .inl f4)), (a5, .inl (cI, 32, .inl f5)), (cn, .inr (0, [.ref b1, .ref b2, .int (nI kc), .int (nI t)])), (b1, .inl (cJ, 64, .inr (.inl g1))), (b2, .inl (cI, 64, .inl g2))] sz)) 0 0 (va_A [(o, .inr (3, [.ref sp, .ref h, .ref cn, .int zs, .int rq, .int ti, .int ct, .int gv, .int bh, .int bc, .int un])), (sp, .inr (2, [.long k, .long l0, .long v0, .long v1, .long v2, .long v3])), (h, .inr (1, [.ref a1, .ref a2, .ref a3, .ref a4, .ref a5, .int (nI n)])), (a1, .inl (cJ, 32, .inr (.inl f1))), (a2, .inl (cI, 32, .inl f2)), (a3, .inl (cI, 32, .inl f3)), (a4, .inl (cI, 32, .inl f4)), (a5, .inl (cI, 32, .inl f5)), (cn, .inr (0, [.ref b1, .ref b2, .int (nI kc), .int (nI t)])), (b1, .inl (cJ, 64, .inr (.inl g1))), (b2, .inl (cI, 64, .inl g2))] sz) := by
  refine Met.ofW (cc := cX3_syn) (maxL := 8) (ret := (some .long)) (by decide) rfl ?_
  intro p e s m args below meth c s₁ B hml hv
  obtain ⟨rfl, hsz, hP, hK, hD0, hE⟩ := hv
  have hx := B.exec
  have hb := B.bytes
  have hr := B.returns
  have hts := atoms_spec (ws := wsX3_syn) B.pre
  have hown : s.vm.findClass RX3 = some m.cls := findClass_of_methodNamed B.named
  have hlocks := B.notSynchronized
  subst hsz
  have hD := hD0.self (sz := s.heap.size)
  have hlo := ck_lo (sz := s.heap.size) hD0 hE.1
  generalize hAe : va_A [(o, .inr (3, [.ref sp, .ref h, .ref cn, .int zs, .int rq, .int ti, .int ct, .int gv, .int bh, .int bc, .int un])), (sp, .inr (2, [.long k, .long l0, .long v0, .long v1, .long v2, .long v3])), (h, .inr (1, [.ref a1, .ref a2, .ref a3, .ref a4, .ref a5, .int (nI n)])), (a1, .inl (cJ, 32, .inr (.inl f1))), (a2, .inl (cI, 32, .inl f2)), (a3, .inl (cI, 32, .inl f3)), (a4, .inl (cI, 32, .inl f4)), (a5, .inl (cI, 32, .inl f5)), (cn, .inr (0, [.ref b1, .ref b2, .int (nI kc), .int (nI t)])), (b1, .inl (cJ, 64, .inr (.inl g1))), (b2, .inl (cI, 64, .inl g2))] s.heap.size = A at hD hlo ⊢
  have hA : ∀ q : Nat, s.heap.size ≤ q → A q := fun q h => by rw [← hAe]; exact Or.inr h
  have hG : ck_G (dC, dI) [(cI, .int), (cJ, .long), (cZ, .boolean)] lo A s := ⟨hK, hE, hA, hlo⟩
  have hS : va_S A s.heap s.heap [] := va_S.rf
  have hP : va_P (dC, dI) vwCl [(o, .inr (3, [.ref sp, .ref h, .ref cn, .int zs, .int rq, .int ti, .int ct, .int gv, .int bh, .int bc, .int un])), (sp, .inr (2, [.long k, .long l0, .long v0, .long v1, .long v2, .long v3])), (h, .inr (1, [.ref a1, .ref a2, .ref a3, .ref a4, .ref a5, .int (nI n)])), (a1, .inl (cJ, 32, .inr (.inl f1))), (a2, .inl (cI, 32, .inl f2)), (a3, .inl (cI, 32, .inl f3)), (a4, .inl (cI, 32, .inl f4)), (a5, .inl (cI, 32, .inl f5)), (cn, .inr (0, [.ref b1, .ref b2, .int (nI kc), .int (nI t)])), (b1, .inl (cJ, 64, .inr (.inl g1))), (b2, .inl (cI, 64, .inl g2))] s.heap := hP
  have hl := lv_entry ([.ref o, .int aa, .int bb, .int num, .int z]) (n := 8) (Nat.le_of_ble_eq_true rfl)
  rw [lg_entry_eq]
  generalize (lg_sl ([.ref o, .int aa, .int bb, .int num, .int z]) ++ List.replicate (8 - (lg_sl ([.ref o, .int aa, .int bb, .int num, .int z])).length) Slot.unset).toArray = ls at hl ⊢
  have hl : lv_has ls 8 [(0, .ref o), (1, .int aa), (2, .int bb), (3, .int num), (4, .int z)] := hl
  refine lv_iload_n hx hb dX3_syn_0 rfl (lv_at hl 2 rfl) ?_
  refine lv_iconst (v := 0) hx hb dX3_syn_1 (by decide) ?_
  refine lv_ldc hx hb hown (hts _ k_X3_syn_c67) dX3_syn_2 ?_
  refine ck_rv (va_runS (As := [.int bb, .int 0, .int 65535]) (rest := []) ⟨hx, hb, hml, hown, hts⟩ (c_X3_requireWithin l dC dI cI cJ cZ lo _ bb 0 65535 (by first | assumption | omega) (by first | assumption | omega)) (va_cwS 3 hts gX3_syn_X3_requireWithin rfl rfl rfl (by decide +kernel) ⟨(Nat.le_of_ble_eq_true rfl), (Nat.le_of_ble_eq_true rfl)⟩) ⟨ck_blind, (ck_pre hG hP hD hS [] rfl (by decide) _)⟩ rfl rfl hl.1 rfl (lv_room (Nat.le_of_ble_eq_true rfl)) dX3_syn_4 ⟨(Nat.le_of_ble_eq_true rfl), (Nat.le_of_ble_eq_true rfl)⟩) (fun hw_1 => ?_)
  refine lv_iload hx hb dX3_syn_7 (lv_at hl 4 rfl) ?_
  refine lv_iconst (v := 0) hx hb dX3_syn_9 (by decide) ?_
  refine lv_ldc hx hb hown (hts _ k_X3_syn_c67) dX3_syn_10 ?_
  refine ck_rv (va_runS (As := [.int z, .int 0, .int 65535]) (rest := []) ⟨hx, hb, hml, hown, hts⟩ (c_X3_requireWithin l dC dI cI cJ cZ lo _ z 0 65535 (by first | assumption | omega) (by first | assumption | omega)) (va_cwS 3 hts gX3_syn_X3_requireWithin rfl rfl rfl (by decide +kernel) ⟨(Nat.le_of_ble_eq_true rfl), (Nat.le_of_ble_eq_true rfl)⟩) ⟨ck_blind, (ck_pre hG hP hD hS [] rfl (by decide) _)⟩ rfl rfl hl.1 rfl (lv_room (Nat.le_of_ble_eq_true rfl)) dX3_syn_12 ⟨(Nat.le_of_ble_eq_true rfl), (Nat.le_of_ble_eq_true rfl)⟩) (fun hw_2 => ?_)
  refine lv_iload_n hx hb dX3_syn_15 rfl (lv_at hl 1 rfl) ?_
  refine lv_iload_n hx hb dX3_syn_16 rfl (lv_at hl 2 rfl) ?_
  refine ck_rl (va_runS (As := [.int aa, .int bb]) (rest := []) ⟨hx, hb, hml, hown, hts⟩ (c_X3_callerOf l dC dI cI cJ cZ lo _ aa bb) (va_cwS 2 hts gX3_syn_X3_callerOf rfl rfl rfl (by decide +kernel) ⟨(Nat.le_of_ble_eq_true rfl), (Nat.le_of_ble_eq_true rfl)⟩) ⟨ck_blind, (ck_pre hG hP hD hS [] rfl (by decide) _)⟩ rfl rfl hl.1 rfl (lv_room (Nat.le_of_ble_eq_true rfl)) dX3_syn_17 ⟨(Nat.le_of_ble_eq_true rfl), (Nat.le_of_ble_eq_true rfl)⟩) (fun r_3 hw_3 => ?_)
  have hw_3 : r_3 = ck_clr aa bb := hw_3
  subst hw_3
  refine lv_lstore (lv' := [(5, .long (ck_clr aa bb)), (0, .ref o), (1, .int aa), (2, .int bb), (3, .int num), (4, .int z)]) hx hb dX3_syn_20 hl (by decide) rfl (fun ls hl => ?_)
  refine lv_aload_n hx hb dX3_syn_22 rfl (lv_at hl 1 rfl) ?_
  refine va_get (D := (dC, dI)) (ci := 3) (v := .ref cn) (C := RX3) (T := TX3) (N := 11) hx hb hts (k_X3_syn_in3) hown hK hP 0 rfl rfl 2 (by decide) (hts _ k_X3_syn_f26) (fun _ h9 => h9) rfl dX3_syn_23 ?_
  refine lv_lload hx hb dX3_syn_26 (lv_at hl 0 rfl) ?_
  refine ck_ri (va_runV (As := [.long (ck_clr aa bb)]) (rest := []) ⟨hx, hb, hml, hown, hts⟩ (c_X0_find l dC dI cI cJ cZ lo _ cn b1 b2 kc t g1 g2 (ck_clr aa bb) (by first | assumption | omega)) (cwV 1 hts gX3_syn_X0_find rfl rfl rfl (by decide +kernel) ⟨(Nat.le_of_ble_eq_true rfl), (Nat.le_of_ble_eq_true rfl)⟩) ⟨ck_blind, va_recv hK hP (ci := 0) (q0 := 8) rfl rfl, (ck_pre hG hP hD hS [8, 9, 10] rfl (by decide) _)⟩ rfl rfl hl.1 rfl (lv_room (Nat.le_of_ble_eq_true rfl)) dX3_syn_28 ⟨(Nat.le_of_ble_eq_true rfl), (Nat.le_of_ble_eq_true rfl)⟩) (fun r_4 hw_4 => ?_)
  have hw_4 : ck_fnd kc g1 (ck_clr aa bb) r_4 := hw_4
  refine lv_iconst (v := (-1)) hx hb dX3_syn_31 (by decide) ?_
  refine lv_icmp_eq (tgt := 39) hx hb dX3_syn_32 (by decide) (fun c_32 => ?_) (fun c_32 => ?_)
  · skip
    have hn_4 : ∀ i, i < kc → g1 i ≠ (ck_clr aa bb) := by
      rcases hw_4 with z | ⟨j9, hj9, ej9, -⟩
      · exact z.2
      · exact absurd (ej9.symm.trans c_32) (ck_njm1 (by omega))
    refine lv_aload_n hx hb dX3_syn_39 rfl (lv_at hl 1 rfl) ?_
    refine va_get (D := (dC, dI)) (ci := 3) (v := .ref h) (C := RX3) (T := TX3) (N := 11) hx hb hts (k_X3_syn_in3) hown hK hP 0 rfl rfl 1 (by decide) (hts _ k_X3_syn_f19) (fun _ h9 => h9) rfl dX3_syn_40 ?_
    refine lv_lload hx hb dX3_syn_43 (lv_at hl 0 rfl) ?_
    refine ck_ri (va_runV (As := [.long (ck_clr aa bb)]) (rest := []) ⟨hx, hb, hml, hown, hts⟩ (c_X1_find l dC dI cI cJ cZ lo _ h a1 a2 a3 a4 a5 n f1 f2 f3 f4 f5 (ck_clr aa bb) (by first | assumption | omega)) (cwV 1 hts gX3_syn_X1_find rfl rfl rfl (by decide +kernel) ⟨(Nat.le_of_ble_eq_true rfl), (Nat.le_of_ble_eq_true rfl)⟩) ⟨ck_blind, va_recv hK hP (ci := 1) (q0 := 2) rfl rfl, (ck_pre hG hP hD hS [2, 3, 4, 5, 6, 7] rfl (by decide) _)⟩ rfl rfl hl.1 rfl (lv_room (Nat.le_of_ble_eq_true rfl)) dX3_syn_45 ⟨(Nat.le_of_ble_eq_true rfl), (Nat.le_of_ble_eq_true rfl)⟩) (fun r_5 hw_5 => ?_)
    have hw_5 : ck_fnd n f1 (ck_clr aa bb) r_5 := hw_5
    refine lv_istore (lv' := [(7, .int r_5), (5, .long (ck_clr aa bb)), (0, .ref o), (1, .int aa), (2, .int bb), (3, .int num), (4, .int z)]) hx hb dX3_syn_48 hl (by decide) rfl (fun ls hl => ?_)
    refine lv_iload hx hb dX3_syn_50 (lv_at hl 0 rfl) ?_
    refine lv_iconst (v := (-1)) hx hb dX3_syn_52 (by decide) ?_
    refine lv_icmp_eq (tgt := 84) hx hb dX3_syn_53 (by decide) (fun c_53 => ?_) (fun c_53 => ?_)
    · skip
      have hn_5 : ∀ i, i < n → f1 i ≠ (ck_clr aa bb) := by
        rcases hw_5 with z | ⟨j9, hj9, ej9, -⟩
        · exact z.2
        · exact absurd (ej9.symm.trans c_53) (ck_njm1 (by omega))
      refine lv_iload hx hb dX3_syn_84 (lv_at hl 0 rfl) ?_
      refine lv_iconst (v := (-1)) hx hb dX3_syn_86 (by decide) ?_
      refine lv_icmp_eq (tgt := 99) hx hb dX3_syn_87 (by decide) (fun c_87 => ?_) (fun c_87 => ?_)
      · skip
        refine lv_aload_n hx hb dX3_syn_99 rfl (lv_at hl 2 rfl) ?_
        refine lv_lload hx hb dX3_syn_100 (lv_at hl 1 rfl) ?_
        refine lv_iload_n hx hb dX3_syn_102 rfl (lv_at hl 5 rfl) ?_
        refine lv_iload hx hb dX3_syn_103 (lv_at hl 6 rfl) ?_
        refine ck_ri (va_runS (As := [.int z]) (rest := [.int num, .long (ck_clr aa bb), .ref o]) ⟨hx, hb, hml, hown, hts⟩ (c_X3_kindOf l dC dI cI cJ cZ lo _ z) (va_cwS 1 hts gX3_syn_X3_kindOf rfl rfl rfl (by decide +kernel) ⟨(Nat.le_of_ble_eq_true rfl), (Nat.le_of_ble_eq_true rfl)⟩) ⟨ck_blind, (ck_pre hG hP hD hS [] rfl (by decide) _)⟩ rfl rfl hl.1 rfl (lv_room (Nat.le_of_ble_eq_true rfl)) dX3_syn_105 ⟨(Nat.le_of_ble_eq_true rfl), (Nat.le_of_ble_eq_true rfl)⟩) (fun r_6 hw_6 => ?_)
        have hw_6 : r_6 = ck_kdi 8 z := hw_6
        subst hw_6
        refine ck_ci (wr := [(cn, .inr (0, [.ref b1, .ref b2, .int (nI kc), .int (nI t)])), (b1, .inl (cJ, 64, .inr (.inl g1))), (b2, .inl (cI, 64, .inl g2))]) (va_runV (As := [.long (ck_clr aa bb), .int num, .int (ck_kdi 8 z)]) (rest := []) ⟨hx, hb, hml, hown, hts⟩ (c_X3_answerNewSyn l dC dI cI cJ cZ lo _ o sp h cn zs rq ti ct gv bh bc un k l0 v0 v1 v2 v3 a1 a2 a3 a4 a5 n f1 f2 f3 f4 f5 (ck_clr aa bb) num (ck_kdi 8 z) (by first | assumption | omega) (by first | assumption | omega)) (cwV 3 hts gX3_syn_X3_answerNewSyn rfl rfl rfl (by decide +kernel) ⟨(Nat.le_of_ble_eq_true rfl), (Nat.le_of_ble_eq_true rfl)⟩) ⟨ck_blind, va_recv hK hP (ci := 3) (q0 := 0) rfl rfl, (ck_pre hG hP hD hS [0, 1, 2, 3, 4, 5, 6, 7] rfl (by decide) _)⟩ rfl rfl hl.1 rfl (lv_room (Nat.le_of_ble_eq_true rfl)) dX3_syn_108 ⟨(Nat.le_of_ble_eq_true rfl), (Nat.le_of_ble_eq_true rfl)⟩) hP hD hS hA [0, 1, 2, 3, 4, 5, 6, 7] [8, 9, 10] rfl rfl (by decide) (by decide) (fun r_7 u H locs hw_7 hP hD hS => ?_)
        obtain ⟨ct2_7, gv2_7, n2_7, w1_7, w2_7, w3_7, w4_7, w5_7, u0_7, u1_7, u2_7, u3_7⟩ := u
        have hw_7 : (¬ nI n < zs ∧ r_7 = ck_ckk k l0 (ck_clr aa bb) num (ck_kdi 8 z) (ti / 64) ∧ gv2_7 = gv + 1 ∧ ct2_7 = ti ∧ n2_7 = n ∧ w1_7 = f1 ∧ w2_7 = f2 ∧ w3_7 = f3 ∧ w4_7 = f4 ∧ w5_7 = f5) ∨ (nI n < zs ∧ r_7 = ck_ckk k l0 (ck_clr aa bb) num (ck_kdi 8 z) (ti / 64) ^^^ (-16777216) ∧ gv2_7 = gv ∧ ct2_7 = ct ∧ n2_7 = n + 1 ∧ w1_7 = vp_updL f1 n (ck_clr aa bb) ∧ w2_7 = upd f2 n num ∧ w3_7 = upd f3 n (ck_ckk k l0 (ck_clr aa bb) num (ck_kdi 8 z) (ti / 64) ^^^ (-16777216)) ∧ w4_7 = upd f4 n (ck_kdi 8 z) ∧ w5_7 = upd f5 n ti) := hw_7
        have hP : va_P (dC, dI) vwCl [(cn, .inr (0, [.ref b1, .ref b2, .int (nI kc), .int (nI t)])), (b1, .inl (cJ, 64, .inr (.inl g1))), (b2, .inl (cI, 64, .inl g2)), (o, .inr (3, [.ref sp, .ref h, .ref cn, .int zs, .int rq, .int ti, .int ct2_7, .int gv2_7, .int bh, .int bc, .int un])), (sp, .inr (2, [.long k, .long l0, .long u0_7, .long u1_7, .long u2_7, .long u3_7])), (h, .inr (1, [.ref a1, .ref a2, .ref a3, .ref a4, .ref a5, .int (nI n2_7)])), (a1, .inl (cJ, 32, .inr (.inl w1_7))), (a2, .inl (cI, 32, .inl w2_7)), (a3, .inl (cI, 32, .inl w3_7)), (a4, .inl (cI, 32, .inl w4_7)), (a5, .inl (cI, 32, .inl w5_7))] H := hP
        have hD : va_D A [(cn, .inr (0, [.ref b1, .ref b2, .int (nI kc), .int (nI t)])), (b1, .inl (cJ, 64, .inr (.inl g1))), (b2, .inl (cI, 64, .inl g2)), (o, .inr (3, [.ref sp, .ref h, .ref cn, .int zs, .int rq, .int ti, .int ct2_7, .int gv2_7, .int bh, .int bc, .int un])), (sp, .inr (2, [.long k, .long l0, .long u0_7, .long u1_7, .long u2_7, .long u3_7])), (h, .inr (1, [.ref a1, .ref a2, .ref a3, .ref a4, .ref a5, .int (nI n2_7)])), (a1, .inl (cJ, 32, .inr (.inl w1_7))), (a2, .inl (cI, 32, .inl w2_7)), (a3, .inl (cI, 32, .inl w3_7)), (a4, .inl (cI, 32, .inl w4_7)), (a5, .inl (cI, 32, .inl w5_7))] := hD
        refine ck_rl (va_runS (As := [.int r_7]) (rest := []) ⟨hx, hb, hml, hown, hts⟩ (c_X3_withoutSign l dC dI cI cJ cZ lo _ r_7) (va_cwS 1 hts gX3_syn_X3_withoutSign rfl rfl rfl (by decide +kernel) ⟨(Nat.le_of_ble_eq_true rfl), (Nat.le_of_ble_eq_true rfl)⟩) ⟨ck_blind, (ck_pre hG hP hD hS [] rfl (by decide) _)⟩ rfl rfl hl.1 rfl (lv_room (Nat.le_of_ble_eq_true rfl)) dX3_syn_111 ⟨(Nat.le_of_ble_eq_true rfl), (Nat.le_of_ble_eq_true rfl)⟩) (fun r_8 hw_8 => ?_)
        have hw_8 : r_8 = ck_wos r_7 := hw_8
        subst hw_8
        refine ck_lr hx hb hr hlocks (Nat.le_of_ble_eq_true rfl) (Nat.le_of_ble_eq_true rfl) dX3_syn_114 (ct2_7, gv2_7, n2_7, w1_7, w2_7, w3_7, w4_7, w5_7, u0_7, u1_7, u2_7, u3_7) (hP.sub [3, 4, 5, 6, 7, 8, 9, 10, 0, 1, 2] rfl) (hD.sub [3, 4, 5, 6, 7, 8, 9, 10, 0, 1, 2] (by decide) rfl) hS ?_
        refine Or.inr (Or.inr ⟨hn_4, _, _, Or.inl ⟨hn_5, rfl, rfl⟩, ?_⟩)
        rcases hw_7 with ⟨z1, z2, z3, z4, z5, z6, z7, z8, z9, z10⟩ | ⟨z1, z2, z3, z4, z5, z6, z7, z8, z9, z10⟩
        · subst_vars
          exact Or.inl ⟨z1, rfl, rfl, rfl, rfl, rfl⟩
        · subst_vars
          exact Or.inr ⟨z1, rfl, rfl, rfl, rfl, ck_addR _ _ _ _ _ _ _ _ _ _ _⟩
      · skip
        exact absurd c_53 c_87
    · skip
      obtain ⟨j_5, hj_5, ej_5, hf_5⟩ := hw_5.resolve_left (fun z => c_53 z.1)
      subst ej_5
      refine lv_aload_n hx hb dX3_syn_56 rfl (lv_at hl 2 rfl) ?_
      refine va_get (D := (dC, dI)) (ci := 3) (v := .ref h) (C := RX3) (T := TX3) (N := 11) hx hb hts (k_X3_syn_in3) hown hK hP 0 rfl rfl 1 (by decide) (hts _ k_X3_syn_f19) (fun _ h9 => h9) rfl dX3_syn_57 ?_
      refine va_getN (D := (dC, dI)) (ci := 1) (v := .ref a2) (C := RX1) (T := TX1) (N := 6) hx hb hts (k_X3_syn_in1) hown hK hP 2 rfl rfl 1 (by decide) (va_Nw.use rfl (hE.2.1.2.2.2.2.2.2.1)) (fun _ h9 => h9) rfl dX3_syn_60 ?_
      refine lv_iload hx hb dX3_syn_63 (lv_at hl 0 rfl) ?_
      refine ck_iald hx hb hK hP 4 0 rfl rfl (by omega) (by decide) dX3_syn_65 ?_
      refine lv_iload_n hx hb dX3_syn_66 rfl (lv_at hl 5 rfl) ?_
      refine lv_icmp_ne (tgt := 84) hx hb dX3_syn_67 (by decide) (fun c_67 => ?_) (fun c_67 => ?_)
      · skip
        refine lv_iload hx hb dX3_syn_84 (lv_at hl 0 rfl) ?_
        refine lv_iconst (v := (-1)) hx hb dX3_syn_86 (by decide) ?_
        refine lv_icmp_eq (tgt := 99) hx hb dX3_syn_87 (by decide) (fun c_87 => ?_) (fun c_87 => ?_)
        · skip
          exact absurd c_87 (ck_njm1 (by omega))
        · skip
          obtain ⟨n0, rfl⟩ : ∃ n0, n = n0 + 1 := ⟨n - 1, by omega⟩
          refine lv_aload_n hx hb dX3_syn_90 rfl (lv_at hl 2 rfl) ?_
          refine va_get (D := (dC, dI)) (ci := 3) (v := .ref h) (C := RX3) (T := TX3) (N := 11) hx hb hts (k_X3_syn_in3) hown hK hP 0 rfl rfl 1 (by decide) (hts _ k_X3_syn_f19) (fun _ h9 => h9) rfl dX3_syn_91 ?_
          refine lv_iload hx hb dX3_syn_94 (lv_at hl 0 rfl) ?_
          refine ck_cv (wr := [(o, .inr (3, [.ref sp, .ref h, .ref cn, .int zs, .int rq, .int ti, .int ct, .int gv, .int bh, .int bc, .int un])), (sp, .inr (2, [.long k, .long l0, .long v0, .long v1, .long v2, .long v3])), (cn, .inr (0, [.ref b1, .ref b2, .int (nI kc), .int (nI t)])), (b1, .inl (cJ, 64, .inr (.inl g1))), (b2, .inl (cI, 64, .inl g2))]) (va_runV (As := [.int (nI j_5)]) (rest := []) ⟨hx, hb, hml, hown, hts⟩ (c_X1_drop l dC dI cI cJ cZ lo _ h a1 a2 a3 a4 a5 n0 f1 f2 f3 f4 f5 j_5 (by first | assumption | omega) (by first | assumption | omega)) (cwV 1 hts gX3_syn_X1_drop rfl rfl rfl (by decide +kernel) ⟨(Nat.le_of_ble_eq_true rfl), (Nat.le_of_ble_eq_true rfl)⟩) ⟨ck_blind, va_recv hK hP (ci := 1) (q0 := 2) rfl rfl, (ck_pre hG hP hD hS [2, 3, 4, 5, 6, 7] rfl (by decide) _)⟩ rfl rfl hl.1 rfl (lv_room (Nat.le_of_ble_eq_true rfl)) dX3_syn_96 ⟨(Nat.le_of_ble_eq_true rfl), (Nat.le_of_ble_eq_true rfl)⟩) hP hD hS hA [2, 3, 4, 5, 6, 7] [0, 1, 8, 9, 10] rfl rfl (by decide) (by decide) (fun u H locs hw_9 hP hD hS => ?_)
          have hP : va_P (dC, dI) vwCl [(o, .inr (3, [.ref sp, .ref h, .ref cn, .int zs, .int rq, .int ti, .int ct, .int gv, .int bh, .int bc, .int un])), (sp, .inr (2, [.long k, .long l0, .long v0, .long v1, .long v2, .long v3])), (cn, .inr (0, [.ref b1, .ref b2, .int (nI kc), .int (nI t)])), (b1, .inl (cJ, 64, .inr (.inl g1))), (b2, .inl (cI, 64, .inl g2)), (h, .inr (1, [.ref a1, .ref a2, .ref a3, .ref a4, .ref a5, .int (nI n0)])), (a1, .inl (cJ, 32, .inr (.inl (vp_updL f1 j_5 (f1 n0))))), (a2, .inl (cI, 32, .inl (upd f2 j_5 (f2 n0)))), (a3, .inl (cI, 32, .inl (upd f3 j_5 (f3 n0)))), (a4, .inl (cI, 32, .inl (upd f4 j_5 (f4 n0)))), (a5, .inl (cI, 32, .inl (upd f5 j_5 (f5 n0))))] H := hP
          have hD : va_D A [(o, .inr (3, [.ref sp, .ref h, .ref cn, .int zs, .int rq, .int ti, .int ct, .int gv, .int bh, .int bc, .int un])), (sp, .inr (2, [.long k, .long l0, .long v0, .long v1, .long v2, .long v3])), (cn, .inr (0, [.ref b1, .ref b2, .int (nI kc), .int (nI t)])), (b1, .inl (cJ, 64, .inr (.inl g1))), (b2, .inl (cI, 64, .inl g2)), (h, .inr (1, [.ref a1, .ref a2, .ref a3, .ref a4, .ref a5, .int (nI n0)])), (a1, .inl (cJ, 32, .inr (.inl (vp_updL f1 j_5 (f1 n0))))), (a2, .inl (cI, 32, .inl (upd f2 j_5 (f2 n0)))), (a3, .inl (cI, 32, .inl (upd f3 j_5 (f3 n0)))), (a4, .inl (cI, 32, .inl (upd f4 j_5 (f4 n0)))), (a5, .inl (cI, 32, .inl (upd f5 j_5 (f5 n0))))] := hD
          refine lv_aload_n hx hb dX3_syn_99 rfl (lv_at hl 2 rfl) ?_
          refine lv_lload hx hb dX3_syn_100 (lv_at hl 1 rfl) ?_
          refine lv_iload_n hx hb dX3_syn_102 rfl (lv_at hl 5 rfl) ?_
          refine lv_iload hx hb dX3_syn_103 (lv_at hl 6 rfl) ?_
          refine ck_ri (va_runS (As := [.int z]) (rest := [.int num, .long (ck_clr aa bb), .ref o]) ⟨hx, hb, hml, hown, hts⟩ (c_X3_kindOf l dC dI cI cJ cZ lo _ z) (va_cwS 1 hts gX3_syn_X3_kindOf rfl rfl rfl (by decide +kernel) ⟨(Nat.le_of_ble_eq_true rfl), (Nat.le_of_ble_eq_true rfl)⟩) ⟨ck_blind, (ck_pre hG hP hD hS [] rfl (by decide) _)⟩ rfl rfl hl.1 rfl (lv_room (Nat.le_of_ble_eq_true rfl)) dX3_syn_105 ⟨(Nat.le_of_ble_eq_true rfl), (Nat.le_of_ble_eq_true rfl)⟩) (fun r_10 hw_10 => ?_)
          have hw_10 : r_10 = ck_kdi 8 z := hw_10
          subst hw_10
          refine ck_ci (wr := [(cn, .inr (0, [.ref b1, .ref b2, .int (nI kc), .int (nI t)])), (b1, .inl (cJ, 64, .inr (.inl g1))), (b2, .inl (cI, 64, .inl g2))]) (va_runV (As := [.long (ck_clr aa bb), .int num, .int (ck_kdi 8 z)]) (rest := []) ⟨hx, hb, hml, hown, hts⟩ (c_X3_answerNewSyn l dC dI cI cJ cZ lo _ o sp h cn zs rq ti ct gv bh bc un k l0 v0 v1 v2 v3 a1 a2 a3 a4 a5 n0 (vp_updL f1 j_5 (f1 n0)) (upd f2 j_5 (f2 n0)) (upd f3 j_5 (f3 n0)) (upd f4 j_5 (f4 n0)) (upd f5 j_5 (f5 n0)) (ck_clr aa bb) num (ck_kdi 8 z) (by first | assumption | omega) (by first | assumption | omega)) (cwV 3 hts gX3_syn_X3_answerNewSyn rfl rfl rfl (by decide +kernel) ⟨(Nat.le_of_ble_eq_true rfl), (Nat.le_of_ble_eq_true rfl)⟩) ⟨ck_blind, va_recv hK hP (ci := 3) (q0 := 0) rfl rfl, (ck_pre hG hP hD hS [0, 1, 5, 6, 7, 8, 9, 10] rfl (by decide) _)⟩ rfl rfl hl.1 rfl (lv_room (Nat.le_of_ble_eq_true rfl)) dX3_syn_108 ⟨(Nat.le_of_ble_eq_true rfl), (Nat.le_of_ble_eq_true rfl)⟩) hP hD hS hA [0, 1, 5, 6, 7, 8, 9, 10] [2, 3, 4] rfl rfl (by decide) (by decide) (fun r_11 u H locs hw_11 hP hD hS => ?_)
          obtain ⟨ct2_11, gv2_11, n2_11, w1_11, w2_11, w3_11, w4_11, w5_11, u0_11, u1_11, u2_11, u3_11⟩ := u
          have hw_11 : (¬ nI n0 < zs ∧ r_11 = ck_ckk k l0 (ck_clr aa bb) num (ck_kdi 8 z) (ti / 64) ∧ gv2_11 = gv + 1 ∧ ct2_11 = ti ∧ n2_11 = n0 ∧ w1_11 = (vp_updL f1 j_5 (f1 n0)) ∧ w2_11 = (upd f2 j_5 (f2 n0)) ∧ w3_11 = (upd f3 j_5 (f3 n0)) ∧ w4_11 = (upd f4 j_5 (f4 n0)) ∧ w5_11 = (upd f5 j_5 (f5 n0))) ∨ (nI n0 < zs ∧ r_11 = ck_ckk k l0 (ck_clr aa bb) num (ck_kdi 8 z) (ti / 64) ^^^ (-16777216) ∧ gv2_11 = gv ∧ ct2_11 = ct ∧ n2_11 = n0 + 1 ∧ w1_11 = vp_updL (vp_updL f1 j_5 (f1 n0)) n0 (ck_clr aa bb) ∧ w2_11 = upd (upd f2 j_5 (f2 n0)) n0 num ∧ w3_11 = upd (upd f3 j_5 (f3 n0)) n0 (ck_ckk k l0 (ck_clr aa bb) num (ck_kdi 8 z) (ti / 64) ^^^ (-16777216)) ∧ w4_11 = upd (upd f4 j_5 (f4 n0)) n0 (ck_kdi 8 z) ∧ w5_11 = upd (upd f5 j_5 (f5 n0)) n0 ti) := hw_11
          have hP : va_P (dC, dI) vwCl [(cn, .inr (0, [.ref b1, .ref b2, .int (nI kc), .int (nI t)])), (b1, .inl (cJ, 64, .inr (.inl g1))), (b2, .inl (cI, 64, .inl g2)), (o, .inr (3, [.ref sp, .ref h, .ref cn, .int zs, .int rq, .int ti, .int ct2_11, .int gv2_11, .int bh, .int bc, .int un])), (sp, .inr (2, [.long k, .long l0, .long u0_11, .long u1_11, .long u2_11, .long u3_11])), (h, .inr (1, [.ref a1, .ref a2, .ref a3, .ref a4, .ref a5, .int (nI n2_11)])), (a1, .inl (cJ, 32, .inr (.inl w1_11))), (a2, .inl (cI, 32, .inl w2_11)), (a3, .inl (cI, 32, .inl w3_11)), (a4, .inl (cI, 32, .inl w4_11)), (a5, .inl (cI, 32, .inl w5_11))] H := hP
          have hD : va_D A [(cn, .inr (0, [.ref b1, .ref b2, .int (nI kc), .int (nI t)])), (b1, .inl (cJ, 64, .inr (.inl g1))), (b2, .inl (cI, 64, .inl g2)), (o, .inr (3, [.ref sp, .ref h, .ref cn, .int zs, .int rq, .int ti, .int ct2_11, .int gv2_11, .int bh, .int bc, .int un])), (sp, .inr (2, [.long k, .long l0, .long u0_11, .long u1_11, .long u2_11, .long u3_11])), (h, .inr (1, [.ref a1, .ref a2, .ref a3, .ref a4, .ref a5, .int (nI n2_11)])), (a1, .inl (cJ, 32, .inr (.inl w1_11))), (a2, .inl (cI, 32, .inl w2_11)), (a3, .inl (cI, 32, .inl w3_11)), (a4, .inl (cI, 32, .inl w4_11)), (a5, .inl (cI, 32, .inl w5_11))] := hD
          refine ck_rl (va_runS (As := [.int r_11]) (rest := []) ⟨hx, hb, hml, hown, hts⟩ (c_X3_withoutSign l dC dI cI cJ cZ lo _ r_11) (va_cwS 1 hts gX3_syn_X3_withoutSign rfl rfl rfl (by decide +kernel) ⟨(Nat.le_of_ble_eq_true rfl), (Nat.le_of_ble_eq_true rfl)⟩) ⟨ck_blind, (ck_pre hG hP hD hS [] rfl (by decide) _)⟩ rfl rfl hl.1 rfl (lv_room (Nat.le_of_ble_eq_true rfl)) dX3_syn_111 ⟨(Nat.le_of_ble_eq_true rfl), (Nat.le_of_ble_eq_true rfl)⟩) (fun r_12 hw_12 => ?_)
          have hw_12 : r_12 = ck_wos r_11 := hw_12
          subst hw_12
          refine ck_lr hx hb hr hlocks (Nat.le_of_ble_eq_true rfl) (Nat.le_of_ble_eq_true rfl) dX3_syn_114 (ct2_11, gv2_11, n2_11, w1_11, w2_11, w3_11, w4_11, w5_11, u0_11, u1_11, u2_11, u3_11) (hP.sub [3, 4, 5, 6, 7, 8, 9, 10, 0, 1, 2] rfl) (hD.sub [3, 4, 5, 6, 7, 8, 9, 10, 0, 1, 2] (by decide) rfl) hS ?_
          refine Or.inr (Or.inr ⟨hn_4, _, _, Or.inr ⟨_, hj_5, hf_5, fun e9 => c_67 e9, rfl, ck_gone_swap (by omega) (ck_swapR _ _ _ _ _ _ _)⟩, ?_⟩)
          rcases hw_11 with ⟨z1, z2, z3, z4, z5, z6, z7, z8, z9, z10⟩ | ⟨z1, z2, z3, z4, z5, z6, z7, z8, z9, z10⟩
          · subst_vars
            exact Or.inl ⟨z1, rfl, rfl, rfl, rfl, rfl⟩
          · subst_vars
            exact Or.inr ⟨z1, rfl, rfl, rfl, rfl, ck_addR _ _ _ _ _ _ _ _ _ _ _⟩
      · skip
        refine lv_aload_n hx hb dX3_syn_70 rfl (lv_at hl 2 rfl) ?_
        refine va_get (D := (dC, dI)) (ci := 3) (v := .ref h) (C := RX3) (T := TX3) (N := 11) hx hb hts (k_X3_syn_in3) hown hK hP 0 rfl rfl 1 (by decide) (hts _ k_X3_syn_f19) (fun _ h9 => h9) rfl dX3_syn_71 ?_
        refine va_getN (D := (dC, dI)) (ci := 1) (v := .ref a3) (C := RX1) (T := TX1) (N := 6) hx hb hts (k_X3_syn_in1) hown hK hP 2 rfl rfl 2 (by decide) (va_Nw.use rfl (hE.2.1.2.2.2.2.2.2.2.1)) (fun _ h9 => h9) rfl dX3_syn_74 ?_
        refine lv_iload hx hb dX3_syn_77 (lv_at hl 0 rfl) ?_
        refine ck_iald hx hb hK hP 5 0 rfl rfl (by omega) (by decide) dX3_syn_79 ?_
        refine ck_rl (va_runS (As := [.int (f3 j_5)]) (rest := []) ⟨hx, hb, hml, hown, hts⟩ (c_X3_withoutSign l dC dI cI cJ cZ lo _ (f3 j_5)) (va_cwS 1 hts gX3_syn_X3_withoutSign rfl rfl rfl (by decide +kernel) ⟨(Nat.le_of_ble_eq_true rfl), (Nat.le_of_ble_eq_true rfl)⟩) ⟨ck_blind, (ck_pre hG hP hD hS [] rfl (by decide) _)⟩ rfl rfl hl.1 rfl (lv_room (Nat.le_of_ble_eq_true rfl)) dX3_syn_80 ⟨(Nat.le_of_ble_eq_true rfl), (Nat.le_of_ble_eq_true rfl)⟩) (fun r_13 hw_13 => ?_)
        have hw_13 : r_13 = ck_wos (f3 j_5) := hw_13
        subst hw_13
        refine ck_lr hx hb hr hlocks (Nat.le_of_ble_eq_true rfl) (Nat.le_of_ble_eq_true rfl) dX3_syn_83 (ct, gv, n, f1, f2, f3, f4, f5, v0, v1, v2, v3) hP hD hS ?_
        exact Or.inr (Or.inl ⟨hn_4, ⟨_, hj_5, hf_5, c_67, rfl⟩, rfl, rfl, rfl, rfl, rfl, rfl, rfl, rfl⟩)
  · skip
    obtain ⟨j_4, hj_4, ej_4, hf_4⟩ := hw_4.resolve_left (fun z => c_32 z.1)
    subst ej_4
    refine lv_ldc2 hx hb hown (hts _ k_X3_syn_c76) dX3_syn_35 ?_
    refine ck_lr hx hb hr hlocks (Nat.le_of_ble_eq_true rfl) (Nat.le_of_ble_eq_true rfl) dX3_syn_38 (ct, gv, n, f1, f2, f3, f4, f5, v0, v1, v2, v3) hP hD hS ?_
    exact Or.inl ⟨⟨_, hj_4, hf_4⟩, rfl, rfl, rfl, rfl, rfl, rfl, rfl, rfl, rfl⟩
