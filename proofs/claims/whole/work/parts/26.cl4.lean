set_option maxRecDepth 20000 in
theorem k_X3_ack_c67 : (.constant RX3 67 (65535) : Cond) ∈ wsX3_ack := by decide +kernel
set_option maxRecDepth 20000 in
theorem k_X3_ack_f26 : (.fieldLink RX3 26 "CookieListener" "connections" "LCookieListener$Connections;" : Cond) ∈ wsX3_ack := by decide +kernel
set_option maxRecDepth 20000 in
theorem k_X3_ack_in3 : ∀ w ∈ u_ws RX3 TX3 11, w ∈ wsX3_ack := by decide +kernel
set_option maxRecDepth 20000 in
theorem k_X3_ack_f19 : (.fieldLink RX3 19 "CookieListener" "halves" "LCookieListener$Halves;" : Cond) ∈ wsX3_ack := by decide +kernel
set_option maxRecDepth 20000 in
theorem k_X3_ack_f52 : (.fieldLink RX3 52 "CookieListener" "unproven" "I" : Cond) ∈ wsX3_ack := by decide +kernel
set_option maxHeartbeats 4000000 in
set_option maxRecDepth 100000 in
theorem c_X3_ack (l : Launch) (dC : Nat → ClassId) (dI : Nat → Nat → Nat) (cI cJ cZ : ClassId) (lo sz : Nat) (o sp h cn : Nat) (zs rq ti ct gv bh bc un : Int32) (k l0 v0 v1 v2 v3 : Int64) (a1 a2 a3 a4 a5 : Nat) (n : Nat) (f1 : Nat → Int64) (f2 f3 f4 f5 : Nat → Int32) (b1 b2 : Nat) (kc t : Nat) (g1 : Nat → Int64) (g2 : Nat → Int32) (aa bb na nb : Int32) (hb1 : 0 ≤ bb) (hb2 : bb ≤ 65535) (hn : n ≤ 32) (hk : kc ≤ 64) (ht : t ≤ kc) : Met l yX3_ack wsX3_ack ({ frames := 7, cells := 0, slots := 0, locals := 180 } : Room) (va_Pc [.ref o, .int aa, .int bb, .int na, .int nb] (ck_P (dC, dI) [(cI, .int), (cJ, .long), (cZ, .boolean)] lo sz [(o, .inr (3, [.ref sp, .ref h, .ref cn, .int zs, .int rq, .int ti, .int ct, .int gv, .int bh, .int bc, .int un])), (sp, .inr (2, [.long k, .long l0, .long v0, .long v1, .long v2, .long v3])), (h, .inr (1, [.ref a1, .ref a2, .ref a3, .ref a4, .ref a5, .int (nI n)])), (a1, .inl (cJ, 32, .inr (.inl f1))), (a2, .inl (cI, 32, .inl f2)), (a3, .inl (cI, 32, .inl f3)), (a4, .inl (cI, 32, .inl f4)), (a5, .inl (cI, 32, .inl f5)), (cn, .inr (0, [.ref b1, .ref b2, .int (nI kc), .int (nI t)])), (b1, .inl (cJ, 64, .inr (.inl g1))), (b2, .inl (cI, 64, .inl g2))])) (va_Qi (fun (r : Int32) (u : Int32 × Int32 × Int32 × Nat × (Nat → Int64) × (Nat → Int32) × (Nat → Int32) × (Nat → Int32) × (Nat → Int32) × Nat × (Nat → Int64) × (Nat → Int32) × Int64 × Int64 × Int64 × Int64) => ((∃ j, j < kc ∧ g1 j = ck_clr aa bb) ∧ r = 1 ∧ u.2.2.1 = un ∧ u.1 = bh ∧ u.2.1 = bc ∧ u.2.2.2.1 = n ∧ u.2.2.2.2.1 = f1 ∧ u.2.2.2.2.2.1 = f2 ∧ u.2.2.2.2.2.2.1 = f3 ∧ u.2.2.2.2.2.2.2.1 = f4 ∧ u.2.2.2.2.2.2.2.2.1 = f5 ∧ u.2.2.2.2.2.2.2.2.2.1 = kc ∧ u.2.2.2.2.2.2.2.2.2.2.1 = g1 ∧ u.2.2.2.2.2.2.2.2.2.2.2.1 = g2) ∨ ((∀ i, i < kc → g1 i ≠ ck_clr aa bb) ∧ ∃ j, j < n ∧ f1 j = ck_clr aa bb ∧ ((¬ (f2 j = na - 1 ∧ f3 j = nb - 1) ∧ r = 4 ∧ u.2.2.1 = un ∧ u.1 = bh ∧ u.2.1 = bc ∧ u.2.2.2.1 = n ∧ u.2.2.2.2.1 = f1 ∧ u.2.2.2.2.2.1 = f2 ∧ u.2.2.2.2.2.2.1 = f3 ∧ u.2.2.2.2.2.2.2.1 = f4 ∧ u.2.2.2.2.2.2.2.2.1 = f5 ∧ u.2.2.2.2.2.2.2.2.2.1 = kc ∧ u.2.2.2.2.2.2.2.2.2.2.1 = g1 ∧ u.2.2.2.2.2.2.2.2.2.2.2.1 = g2) ∨ ((f2 j = na - 1 ∧ f3 j = nb - 1) ∧ ¬ (nI (kc - t) < rq ∧ kc < 64) ∧ r = 3 ∧ u.2.2.1 = un ∧ u.1 = bh ∧ u.2.1 = bc ∧ u.2.2.2.1 = n ∧ u.2.2.2.2.1 = f1 ∧ u.2.2.2.2.2.1 = f2 ∧ u.2.2.2.2.2.2.1 = f3 ∧ u.2.2.2.2.2.2.2.1 = f4 ∧ u.2.2.2.2.2.2.2.2.1 = f5 ∧ u.2.2.2.2.2.2.2.2.2.1 = kc ∧ u.2.2.2.2.2.2.2.2.2.2.1 = g1 ∧ u.2.2.2.2.2.2.2.2.2.2.2.1 = g2) ∨ ((f2 j = na - 1 ∧ f3 j = nb - 1) ∧ (nI (kc - t) < rq ∧ kc < 64) ∧ r = 2 ∧ u.2.2.1 = un ∧ u.1 = bh + 1 ∧ u.2.1 = bc ∧ n = u.2.2.2.1 + 1 ∧ ck_gone u.2.2.2.1 (ck_R f1 f2 f3 f4 f5) (ck_R u.2.2.2.2.1 u.2.2.2.2.2.1 u.2.2.2.2.2.2.1 u.2.2.2.2.2.2.2.1 u.2.2.2.2.2.2.2.2.1) j ∧ u.2.2.2.2.2.2.2.2.2.1 = kc + 1 ∧ u.2.2.2.2.2.2.2.2.2.2.1 = vp_updL g1 kc (ck_clr aa bb) ∧ u.2.2.2.2.2.2.2.2.2.2.2.1 = upd g2 kc (f4 j)))) ∨ ((∀ i, i < kc → g1 i ≠ ck_clr aa bb) ∧ (∀ i, i < n → f1 i ≠ ck_clr aa bb) ∧ u.2.2.2.1 = n ∧ u.2.2.2.2.1 = f1 ∧ u.2.2.2.2.2.1 = f2 ∧ u.2.2.2.2.2.2.1 = f3 ∧ u.2.2.2.2.2.2.2.1 = f4 ∧ u.2.2.2.2.2.2.2.2.1 = f5 ∧ u.1 = bh ∧ ((¬ ck_lately gv ti ct ∧ r = 8 ∧ u.2.2.1 = un + 1 ∧ u.2.1 = bc ∧ u.2.2.2.2.2.2.2.2.2.1 = kc ∧ u.2.2.2.2.2.2.2.2.2.2.1 = g1 ∧ u.2.2.2.2.2.2.2.2.2.2.2.1 = g2) ∨ (ck_lately gv ti ct ∧ ¬ ck_late k l0 (ck_clr aa bb) (na - 1) ((((nb - 1).toUInt32 >>> ((24 : Int32).toUInt32 &&& Int32.toUInt32 31)).toInt32) &&& 7) ti (nb - 1) ∧ r = 7 ∧ u.2.2.1 = un + 1 ∧ u.2.1 = bc ∧ u.2.2.2.2.2.2.2.2.2.1 = kc ∧ u.2.2.2.2.2.2.2.2.2.2.1 = g1 ∧ u.2.2.2.2.2.2.2.2.2.2.2.1 = g2) ∨ (ck_lately gv ti ct ∧ ck_late k l0 (ck_clr aa bb) (na - 1) ((((nb - 1).toUInt32 >>> ((24 : Int32).toUInt32 &&& Int32.toUInt32 31)).toInt32) &&& 7) ti (nb - 1) ∧ ¬ (nI (kc - t) < rq ∧ kc < 64) ∧ r = 6 ∧ u.2.2.1 = un ∧ u.2.1 = bc ∧ u.2.2.2.2.2.2.2.2.2.1 = kc ∧ u.2.2.2.2.2.2.2.2.2.2.1 = g1 ∧ u.2.2.2.2.2.2.2.2.2.2.2.1 = g2) ∨ (ck_lately gv ti ct ∧ ck_late k l0 (ck_clr aa bb) (na - 1) ((((nb - 1).toUInt32 >>> ((24 : Int32).toUInt32 &&& Int32.toUInt32 31)).toInt32) &&& 7) ti (nb - 1) ∧ (nI (kc - t) < rq ∧ kc < 64) ∧ r = 5 ∧ u.2.2.1 = un ∧ u.2.1 = bc + 1 ∧ u.2.2.2.2.2.2.2.2.2.1 = kc + 1 ∧ u.2.2.2.2.2.2.2.2.2.2.1 = vp_updL g1 kc (ck_clr aa bb) ∧ u.2.2.2.2.2.2.2.2.2.2.2.1 = upd g2 kc ((((nb - 1).toUInt32 >>> ((24 : Int32).toUInt32 &&& Int32.toUInt32 31)).toInt32) &&& 7))))) (fun u => ck_B (dC, dI) vwCl (va_A [(o, .inr (3, [.ref sp, .ref h, .ref cn, .int zs, .int rq, .int ti, .int ct, .int gv, .int bh, .int bc, .int un])), (sp, .inr (2, [.long k, .long l0, .long v0, .long v1, .long v2, .long v3])), (h, .inr (1, [.ref a1, .ref a2, .ref a3, .ref a4, .ref a5, .int (nI n)])), (a1, .inl (cJ, 32, .inr (.inl f1))), (a2, .inl (cI, 32, .inl f2)), (a3, .inl (cI, 32, .inl f3)), (a4, .inl (cI, 32, .inl f4)), (a5, .inl (cI, 32, .inl f5)), (cn, .inr (0, [.ref b1, .ref b2, .int (nI kc), .int (nI t)])), (b1, .inl (cJ, 64, .inr (.inl g1))), (b2, .inl (cI, 64, .inl g2))] sz) ((fun u : Int32 × Int32 × Int32 × Nat × (Nat → Int64) × (Nat → Int32) × (Nat → Int32) × (Nat → Int32) × (Nat → Int32) × Nat × (Nat → Int64) × (Nat → Int32) × Int64 × Int64 × Int64 × Int64 => ([(o, .inr (3, [.ref sp, .ref h, .ref cn, .int zs, .int rq, .int ti, .int ct, .int gv, .int u.1, .int u.2.1, .int u.2.2.1])), (sp, .inr (2, [.long k, .long l0, .long u.2.2.2.2.2.2.2.2.2.2.2.2.1, .long u.2.2.2.2.2.2.2.2.2.2.2.2.2.1, .long u.2.2.2.2.2.2.2.2.2.2.2.2.2.2.1, .long u.2.2.2.2.2.2.2.2.2.2.2.2.2.2.2])), (h, .inr (1, [.ref a1, .ref a2, .ref a3, .ref a4, .ref a5, .int (nI u.2.2.2.1)])), (a1, .inl (cJ, 32, .inr (.inl u.2.2.2.2.1))), (a2, .inl (cI, 32, .inl u.2.2.2.2.2.1)), (a3, .inl (cI, 32, .inl u.2.2.2.2.2.2.1)), (a4, .inl (cI, 32, .inl u.2.2.2.2.2.2.2.1)), (a5, .inl (cI, 32, .inl u.2.2.2.2.2.2.2.2.1)), (cn, .inr (0, [.ref b1, .ref b2, .int (nI u.2.2.2.2.2.2.2.2.2.1), .int (nI t)])), (b1, .inl (cJ, 64, .inr (.inl u.2.2.2.2.2.2.2.2.2.2.1))), (b2, .inl (cI, 64, .inl u.2.2.2.2.2.2.2.2.2.2.2.1))] : va_W)) u)) (va_A [(o, .inr (3, [.ref sp, .ref h, .ref cn, .int zs, .int rq, .int ti, .int ct, .int gv, .int bh, .int bc, .int un])), (sp, .inr (2, [.long k, .long l0, .long v0, .long v1, .long v2, .long v3])), (h, .inr (1, [.ref a1, .ref a2, .ref a3, .ref a4, .ref a5, .int (nI n)])), (a1, .inl (cJ, 32, .inr (.inl f1))), (a2, .inl (cI, 32, .inl f2)), (a3, .inl (cI, 32, .inl f3)), (a4, .inl (cI, 32, .inl f4)), (a5, .inl (cI, 32, .inl f5)), (cn, .inr (0, [.ref b1, .ref b2, .int (nI kc), .int (nI t)])), (b1, .inl (cJ, 64, .inr (.inl g1))), (b2, .inl (cI, 64, .inl g2))] sz)) 0 0 (va_A [(o, .inr (3, [.ref sp, .ref h, .ref cn, .int zs, .int rq, .int ti, .int ct, .int gv, .int bh, .int bc, .int un])), (sp, .inr (2, [.long k, .long l0, .long v0, .long v1, .long v2, .long v3])), (h, .inr (1, [.ref a1, .ref a2, .ref a3, .ref a4, .ref a5, .int (nI n)])), (a1, .inl (cJ, 32, .inr (.inl f1))), (a2, .inl (cI, 32, .inl f2)), (a3, .inl (cI, 32, .inl f3)), (a4, .inl (cI, 32, .inl f4)), (a5, .inl (cI, 32, .inl f5)), (cn, .inr (0, [.ref b1, .ref b2, .int (nI kc), .int (nI t)])), (b1, .inl (cJ, 64, .inr (.inl g1))), (b2, .inl (cI, 64, .inl g2))] sz) := by
  refine Met.ofW (cc := cX3_ack) (maxL := 9) (ret := (some .int)) (by decide) rfl ?_
  intro p e s m args below meth c s₁ B hml hv
  obtain ⟨rfl, hsz, hP, hK, hD0, hE⟩ := hv
  have hx := B.exec
  have hb := B.bytes
  have hr := B.returns
  have hts := atoms_spec (ws := wsX3_ack) B.pre
  have hown : s.vm.findClass RX3 = some m.cls := findClass_of_methodNamed B.named
  have hlocks := B.notSynchronized
  subst hsz
  have hD := hD0.self (sz := s.heap.size)
  have hlo := ck_lo (sz := s.heap.size) hD0 hE.1
  generalize hAe : va_A [(o, .inr (3, [.ref sp, .ref h, .ref cn, .int zs, .int rq, .int ti, .int ct, .int gv, .int bh, .int bc, .int un])), (sp, .inr (2, [.long k, .long l0, .long v0, .long v1, .long v2, .long v3])), (h, .inr (1, [.ref a1, .ref a2, .ref a3, .ref a4, .ref a5, .int (nI n)])), (a1, .inl (cJ, 32, .inr (.inl f1))), (a2, .inl (cI, 32, .inl f2)), (a3, .inl (cI, 32, .inl f3)), (a4, .inl (cI, 32, .inl f4)), (a5, .inl (cI, 32, .inl f5)), (cn, .inr (0, [.ref b1, .ref b2, .int (nI kc), .int (nI t)])), (b1, .inl (cJ, 64, .inr (.inl g1))), (b2, .inl (cI, 64, .inl g2))] s.heap.size = A at hD hlo ⊢
  have hA : ∀ q : Nat, s.heap.size ≤ q → A q := fun q h => by rw [← hAe]; exact Or.inr h
  have hG : ck_G (dC, dI) [(cI, .int), (cJ, .long), (cZ, .boolean)] lo A s := ⟨hK, hE, hA, hlo⟩
  have hS : va_S A s.heap s.heap [] := va_S.rf
  have hP : va_P (dC, dI) vwCl [(o, .inr (3, [.ref sp, .ref h, .ref cn, .int zs, .int rq, .int ti, .int ct, .int gv, .int bh, .int bc, .int un])), (sp, .inr (2, [.long k, .long l0, .long v0, .long v1, .long v2, .long v3])), (h, .inr (1, [.ref a1, .ref a2, .ref a3, .ref a4, .ref a5, .int (nI n)])), (a1, .inl (cJ, 32, .inr (.inl f1))), (a2, .inl (cI, 32, .inl f2)), (a3, .inl (cI, 32, .inl f3)), (a4, .inl (cI, 32, .inl f4)), (a5, .inl (cI, 32, .inl f5)), (cn, .inr (0, [.ref b1, .ref b2, .int (nI kc), .int (nI t)])), (b1, .inl (cJ, 64, .inr (.inl g1))), (b2, .inl (cI, 64, .inl g2))] s.heap := hP
  have hl := lv_entry ([.ref o, .int aa, .int bb, .int na, .int nb]) (n := 9) (Nat.le_of_ble_eq_true rfl)
  rw [lg_entry_eq]
  generalize (lg_sl ([.ref o, .int aa, .int bb, .int na, .int nb]) ++ List.replicate (9 - (lg_sl ([.ref o, .int aa, .int bb, .int na, .int nb])).length) Slot.unset).toArray = ls at hl ⊢
  have hl : lv_has ls 9 [(0, .ref o), (1, .int aa), (2, .int bb), (3, .int na), (4, .int nb)] := hl
  refine lv_iload_n hx hb dX3_ack_0 rfl (lv_at hl 2 rfl) ?_
  refine lv_iconst (v := 0) hx hb dX3_ack_1 (by decide) ?_
  refine lv_ldc hx hb hown (hts _ k_X3_ack_c67) dX3_ack_2 ?_
  refine ck_rv (va_runS (As := [.int bb, .int 0, .int 65535]) (rest := []) ⟨hx, hb, hml, hown, hts⟩ (c_X3_requireWithin l dC dI cI cJ cZ lo _ bb 0 65535 (by first | assumption | omega) (by first | assumption | omega)) (va_cwS 3 hts gX3_ack_X3_requireWithin rfl rfl rfl (by decide +kernel) ⟨(Nat.le_of_ble_eq_true rfl), (Nat.le_of_ble_eq_true rfl)⟩) ⟨ck_blind, (ck_pre hG hP hD hS [] rfl (by decide) _)⟩ rfl rfl hl.1 rfl (lv_room (Nat.le_of_ble_eq_true rfl)) dX3_ack_4 ⟨(Nat.le_of_ble_eq_true rfl), (Nat.le_of_ble_eq_true rfl)⟩) (fun hw_1 => ?_)
  refine lv_iload_n hx hb dX3_ack_7 rfl (lv_at hl 1 rfl) ?_
  refine lv_iload_n hx hb dX3_ack_8 rfl (lv_at hl 2 rfl) ?_
  refine ck_rl (va_runS (As := [.int aa, .int bb]) (rest := []) ⟨hx, hb, hml, hown, hts⟩ (c_X3_callerOf l dC dI cI cJ cZ lo _ aa bb) (va_cwS 2 hts gX3_ack_X3_callerOf rfl rfl rfl (by decide +kernel) ⟨(Nat.le_of_ble_eq_true rfl), (Nat.le_of_ble_eq_true rfl)⟩) ⟨ck_blind, (ck_pre hG hP hD hS [] rfl (by decide) _)⟩ rfl rfl hl.1 rfl (lv_room (Nat.le_of_ble_eq_true rfl)) dX3_ack_9 ⟨(Nat.le_of_ble_eq_true rfl), (Nat.le_of_ble_eq_true rfl)⟩) (fun r_2 hw_2 => ?_)
  have hw_2 : r_2 = ck_clr aa bb := hw_2
  subst hw_2
  refine lv_lstore (lv' := [(5, .long (ck_clr aa bb)), (0, .ref o), (1, .int aa), (2, .int bb), (3, .int na), (4, .int nb)]) hx hb dX3_ack_12 hl (by decide) rfl (fun ls hl => ?_)
  refine lv_aload_n hx hb dX3_ack_14 rfl (lv_at hl 1 rfl) ?_
  refine va_get (D := (dC, dI)) (ci := 3) (v := .ref cn) (C := RX3) (T := TX3) (N := 11) hx hb hts (k_X3_ack_in3) hown hK hP 0 rfl rfl 2 (by decide) (hts _ k_X3_ack_f26) (fun _ h9 => h9) rfl dX3_ack_15 ?_
  refine lv_lload hx hb dX3_ack_18 (lv_at hl 0 rfl) ?_
  refine ck_ri (va_runV (As := [.long (ck_clr aa bb)]) (rest := []) ⟨hx, hb, hml, hown, hts⟩ (c_X0_find l dC dI cI cJ cZ lo _ cn b1 b2 kc t g1 g2 (ck_clr aa bb) (by first | assumption | omega)) (cwV 1 hts gX3_ack_X0_find rfl rfl rfl (by decide +kernel) ⟨(Nat.le_of_ble_eq_true rfl), (Nat.le_of_ble_eq_true rfl)⟩) ⟨ck_blind, va_recv hK hP (ci := 0) (q0 := 8) rfl rfl, (ck_pre hG hP hD hS [8, 9, 10] rfl (by decide) _)⟩ rfl rfl hl.1 rfl (lv_room (Nat.le_of_ble_eq_true rfl)) dX3_ack_20 ⟨(Nat.le_of_ble_eq_true rfl), (Nat.le_of_ble_eq_true rfl)⟩) (fun r_3 hw_3 => ?_)
  have hw_3 : ck_fnd kc g1 (ck_clr aa bb) r_3 := hw_3
  refine lv_iconst (v := (-1)) hx hb dX3_ack_23 (by decide) ?_
  refine lv_icmp_eq (tgt := 29) hx hb dX3_ack_24 (by decide) (fun c_24 => ?_) (fun c_24 => ?_)
  · skip
    have hn_3 : ∀ i, i < kc → g1 i ≠ (ck_clr aa bb) := by
      rcases hw_3 with z | ⟨j9, hj9, ej9, -⟩
      · exact z.2
      · exact absurd (ej9.symm.trans c_24) (ck_njm1 (by omega))
    refine lv_aload_n hx hb dX3_ack_29 rfl (lv_at hl 1 rfl) ?_
    refine va_get (D := (dC, dI)) (ci := 3) (v := .ref h) (C := RX3) (T := TX3) (N := 11) hx hb hts (k_X3_ack_in3) hown hK hP 0 rfl rfl 1 (by decide) (hts _ k_X3_ack_f19) (fun _ h9 => h9) rfl dX3_ack_30 ?_
    refine lv_lload hx hb dX3_ack_33 (lv_at hl 0 rfl) ?_
    refine ck_ri (va_runV (As := [.long (ck_clr aa bb)]) (rest := []) ⟨hx, hb, hml, hown, hts⟩ (c_X1_find l dC dI cI cJ cZ lo _ h a1 a2 a3 a4 a5 n f1 f2 f3 f4 f5 (ck_clr aa bb) (by first | assumption | omega)) (cwV 1 hts gX3_ack_X1_find rfl rfl rfl (by decide +kernel) ⟨(Nat.le_of_ble_eq_true rfl), (Nat.le_of_ble_eq_true rfl)⟩) ⟨ck_blind, va_recv hK hP (ci := 1) (q0 := 2) rfl rfl, (ck_pre hG hP hD hS [2, 3, 4, 5, 6, 7] rfl (by decide) _)⟩ rfl rfl hl.1 rfl (lv_room (Nat.le_of_ble_eq_true rfl)) dX3_ack_35 ⟨(Nat.le_of_ble_eq_true rfl), (Nat.le_of_ble_eq_true rfl)⟩) (fun r_4 hw_4 => ?_)
    have hw_4 : ck_fnd n f1 (ck_clr aa bb) r_4 := hw_4
    refine lv_istore (lv' := [(7, .int r_4), (5, .long (ck_clr aa bb)), (0, .ref o), (1, .int aa), (2, .int bb), (3, .int na), (4, .int nb)]) hx hb dX3_ack_38 hl (by decide) rfl (fun ls hl => ?_)
    refine lv_iload hx hb dX3_ack_40 (lv_at hl 0 rfl) ?_
    refine lv_iconst (v := (-1)) hx hb dX3_ack_42 (by decide) ?_
    refine lv_icmp_eq (tgt := 60) hx hb dX3_ack_43 (by decide) (fun c_43 => ?_) (fun c_43 => ?_)
    · skip
      have hn_4 : ∀ i, i < n → f1 i ≠ (ck_clr aa bb) := by
        rcases hw_4 with z | ⟨j9, hj9, ej9, -⟩
        · exact z.2
        · exact absurd (ej9.symm.trans c_43) (ck_njm1 (by omega))
      refine lv_aload_n hx hb dX3_ack_60 rfl (lv_at hl 2 rfl) ?_
      refine lv_lload hx hb dX3_ack_61 (lv_at hl 1 rfl) ?_
      refine lv_iload_n hx hb dX3_ack_63 rfl (lv_at hl 5 rfl) ?_
      refine lv_iconst (v := 1) hx hb dX3_ack_64 (by decide) ?_
      refine lv_isub hx hb dX3_ack_65 ?_
      refine lv_iload hx hb dX3_ack_66 (lv_at hl 6 rfl) ?_
      refine lv_iconst (v := 1) hx hb dX3_ack_68 (by decide) ?_
      refine lv_isub hx hb dX3_ack_69 ?_
      refine ck_ci (wr := [(h, .inr (1, [.ref a1, .ref a2, .ref a3, .ref a4, .ref a5, .int (nI n)])), (a1, .inl (cJ, 32, .inr (.inl f1))), (a2, .inl (cI, 32, .inl f2)), (a3, .inl (cI, 32, .inl f3)), (a4, .inl (cI, 32, .inl f4)), (a5, .inl (cI, 32, .inl f5))]) (va_runV (As := [.long (ck_clr aa bb), .int (na - 1), .int (nb - 1)]) (rest := []) ⟨hx, hb, hml, hown, hts⟩ (c_X3_ackWithoutHalf l dC dI cI cJ cZ lo _ o sp h cn zs rq ti ct gv bh bc un k l0 v0 v1 v2 v3 b1 b2 kc t g1 g2 (ck_clr aa bb) (na - 1) (nb - 1) (by first | assumption | omega) (by first | assumption | omega)) (cwV 3 hts gX3_ack_X3_ackWithoutHalf rfl rfl rfl (by decide +kernel) ⟨(Nat.le_of_ble_eq_true rfl), (Nat.le_of_ble_eq_true rfl)⟩) ⟨ck_blind, va_recv hK hP (ci := 3) (q0 := 0) rfl rfl, (ck_pre hG hP hD hS [0, 1, 8, 9, 10] rfl (by decide) _)⟩ rfl rfl hl.1 rfl (lv_room (Nat.le_of_ble_eq_true rfl)) dX3_ack_70 ⟨(Nat.le_of_ble_eq_true rfl), (Nat.le_of_ble_eq_true rfl)⟩) hP hD hS hA [0, 1, 8, 9, 10] [2, 3, 4, 5, 6, 7] rfl rfl (by decide) (by decide) (fun r_5 u H locs hw_5 hP hD hS => ?_)
      obtain ⟨bc2_5, k2_5, q1_5, q2_5, u0_5, u1_5, u2_5, u3_5⟩ := u
      have hw_5 : (¬ ck_lately gv ti ct ∧ r_5 = 8 ∧ k2_5 = kc ∧ q1_5 = g1 ∧ q2_5 = g2 ∧ bc2_5 = bc) ∨ (ck_lately gv ti ct ∧ ¬ ck_late k l0 (ck_clr aa bb) (na - 1) ((((nb - 1).toUInt32 >>> ((24 : Int32).toUInt32 &&& Int32.toUInt32 31)).toInt32) &&& 7) ti (nb - 1) ∧ r_5 = 7 ∧ k2_5 = kc ∧ q1_5 = g1 ∧ q2_5 = g2 ∧ bc2_5 = bc) ∨ (ck_lately gv ti ct ∧ ck_late k l0 (ck_clr aa bb) (na - 1) ((((nb - 1).toUInt32 >>> ((24 : Int32).toUInt32 &&& Int32.toUInt32 31)).toInt32) &&& 7) ti (nb - 1) ∧ ¬ (nI (kc - t) < rq ∧ kc < 64) ∧ r_5 = 6 ∧ k2_5 = kc ∧ q1_5 = g1 ∧ q2_5 = g2 ∧ bc2_5 = bc) ∨ (ck_lately gv ti ct ∧ ck_late k l0 (ck_clr aa bb) (na - 1) ((((nb - 1).toUInt32 >>> ((24 : Int32).toUInt32 &&& Int32.toUInt32 31)).toInt32) &&& 7) ti (nb - 1) ∧ (nI (kc - t) < rq ∧ kc < 64) ∧ r_5 = 5 ∧ k2_5 = kc + 1 ∧ q1_5 = vp_updL g1 kc (ck_clr aa bb) ∧ q2_5 = upd g2 kc ((((nb - 1).toUInt32 >>> ((24 : Int32).toUInt32 &&& Int32.toUInt32 31)).toInt32) &&& 7) ∧ bc2_5 = bc + 1) := hw_5
      have hP : va_P (dC, dI) vwCl [(h, .inr (1, [.ref a1, .ref a2, .ref a3, .ref a4, .ref a5, .int (nI n)])), (a1, .inl (cJ, 32, .inr (.inl f1))), (a2, .inl (cI, 32, .inl f2)), (a3, .inl (cI, 32, .inl f3)), (a4, .inl (cI, 32, .inl f4)), (a5, .inl (cI, 32, .inl f5)), (o, .inr (3, [.ref sp, .ref h, .ref cn, .int zs, .int rq, .int ti, .int ct, .int gv, .int bh, .int bc2_5, .int un])), (sp, .inr (2, [.long k, .long l0, .long u0_5, .long u1_5, .long u2_5, .long u3_5])), (cn, .inr (0, [.ref b1, .ref b2, .int (nI k2_5), .int (nI t)])), (b1, .inl (cJ, 64, .inr (.inl q1_5))), (b2, .inl (cI, 64, .inl q2_5))] H := hP
      have hD : va_D A [(h, .inr (1, [.ref a1, .ref a2, .ref a3, .ref a4, .ref a5, .int (nI n)])), (a1, .inl (cJ, 32, .inr (.inl f1))), (a2, .inl (cI, 32, .inl f2)), (a3, .inl (cI, 32, .inl f3)), (a4, .inl (cI, 32, .inl f4)), (a5, .inl (cI, 32, .inl f5)), (o, .inr (3, [.ref sp, .ref h, .ref cn, .int zs, .int rq, .int ti, .int ct, .int gv, .int bh, .int bc2_5, .int un])), (sp, .inr (2, [.long k, .long l0, .long u0_5, .long u1_5, .long u2_5, .long u3_5])), (cn, .inr (0, [.ref b1, .ref b2, .int (nI k2_5), .int (nI t)])), (b1, .inl (cJ, 64, .inr (.inl q1_5))), (b2, .inl (cI, 64, .inl q2_5))] := hD
      refine lv_istore (lv' := [(8, .int r_5), (7, .int r_4), (5, .long (ck_clr aa bb)), (0, .ref o), (1, .int aa), (2, .int bb), (3, .int na), (4, .int nb)]) hx hb dX3_ack_73 hl (by decide) rfl (fun ls hl => ?_)
      refine lv_iload hx hb dX3_ack_75 (lv_at hl 0 rfl) ?_
      refine lv_bipush (v := 7) hx hb dX3_ack_77 (by decide) ?_
      refine lv_icmp_eq (tgt := 89) hx hb dX3_ack_79 (by decide) (fun c_79 => ?_) (fun c_79 => ?_)
      · skip
        refine lv_aload_n hx hb dX3_ack_89 rfl (lv_at hl 3 rfl) ?_
        refine lv_dup hx hb dX3_ack_90 rfl ?_
        refine va_get (D := (dC, dI)) (ci := 3) (v := .int un) (C := RX3) (T := TX3) (N := 11) hx hb hts (k_X3_ack_in3) hown hK hP 6 rfl rfl 10 (by decide) (hts _ k_X3_ack_f52) (fun _ h9 => h9) rfl dX3_ack_91 ?_
        refine lv_iconst (v := 1) hx hb dX3_ack_94 (by decide) ?_
        refine lv_iadd hx hb dX3_ack_95 ?_
        refine lv_topi (fun x_6 ex_6 => ?_)
        refine va_put (D := (dC, dI)) (ci := 3) (v := .int x_6) (ty := .int) (C := RX3) (T := TX3) (N := 11) hx hb hts (k_X3_ack_in3) tyX3 tyX3_ok nmX3 hown hK hP hD hS 6 rfl rfl 10 (by decide) (hts _ k_X3_ack_f52) (fun _ h9 => h9) rfl (by decide +kernel) rfl rfl (Nat.le_of_ble_eq_true rfl) dX3_ack_96 (fun H locs hP hD hS => ?_)
        have hP : va_P (dC, dI) vwCl [(h, .inr (1, [.ref a1, .ref a2, .ref a3, .ref a4, .ref a5, .int (nI n)])), (a1, .inl (cJ, 32, .inr (.inl f1))), (a2, .inl (cI, 32, .inl f2)), (a3, .inl (cI, 32, .inl f3)), (a4, .inl (cI, 32, .inl f4)), (a5, .inl (cI, 32, .inl f5)), (o, .inr (3, [.ref sp, .ref h, .ref cn, .int zs, .int rq, .int ti, .int ct, .int gv, .int bh, .int bc2_5, .int x_6])), (sp, .inr (2, [.long k, .long l0, .long u0_5, .long u1_5, .long u2_5, .long u3_5])), (cn, .inr (0, [.ref b1, .ref b2, .int (nI k2_5), .int (nI t)])), (b1, .inl (cJ, 64, .inr (.inl q1_5))), (b2, .inl (cI, 64, .inl q2_5))] H := hP
        have hD : va_D A [(h, .inr (1, [.ref a1, .ref a2, .ref a3, .ref a4, .ref a5, .int (nI n)])), (a1, .inl (cJ, 32, .inr (.inl f1))), (a2, .inl (cI, 32, .inl f2)), (a3, .inl (cI, 32, .inl f3)), (a4, .inl (cI, 32, .inl f4)), (a5, .inl (cI, 32, .inl f5)), (o, .inr (3, [.ref sp, .ref h, .ref cn, .int zs, .int rq, .int ti, .int ct, .int gv, .int bh, .int bc2_5, .int x_6])), (sp, .inr (2, [.long k, .long l0, .long u0_5, .long u1_5, .long u2_5, .long u3_5])), (cn, .inr (0, [.ref b1, .ref b2, .int (nI k2_5), .int (nI t)])), (b1, .inl (cJ, 64, .inr (.inl q1_5))), (b2, .inl (cI, 64, .inl q2_5))] := hD
        refine lv_iload hx hb dX3_ack_99 (lv_at hl 0 rfl) ?_
        refine ck_ir hx hb hr hlocks (Nat.le_of_ble_eq_true rfl) (Nat.le_of_ble_eq_true rfl) dX3_ack_101 (bh, bc2_5, x_6, n, f1, f2, f3, f4, f5, k2_5, q1_5, q2_5, u0_5, u1_5, u2_5, u3_5) (hP.sub [6, 7, 0, 1, 2, 3, 4, 5, 8, 9, 10] rfl) (hD.sub [6, 7, 0, 1, 2, 3, 4, 5, 8, 9, 10] (by decide) rfl) hS ?_
        refine Or.inr (Or.inr ⟨hn_3, hn_4, rfl, rfl, rfl, rfl, rfl, rfl, rfl, ?_⟩)
        rcases hw_5 with ⟨y1, z1, z2, z3, z4, z5⟩ | ⟨y1, y2, z1, z2, z3, z4, z5⟩ | ⟨y1, y2, y3, z1, z2, z3, z4, z5⟩ | ⟨y1, y2, y3, z1, z2, z3, z4, z5⟩
        · rw [z1] at c_79; exact absurd c_79 (by decide)
        · subst_vars; exact Or.inr (Or.inl ⟨y1, y2, rfl, rfl, rfl, rfl, rfl, rfl⟩)
        · rw [z1] at c_79; exact absurd c_79 (by decide)
        · rw [z1] at c_79; exact absurd c_79 (by decide)
      · skip
        refine lv_iload hx hb dX3_ack_82 (lv_at hl 0 rfl) ?_
        refine lv_bipush (v := 8) hx hb dX3_ack_84 (by decide) ?_
        refine lv_icmp_ne (tgt := 99) hx hb dX3_ack_86 (by decide) (fun c_86 => ?_) (fun c_86 => ?_)
        · skip
          refine lv_iload hx hb dX3_ack_99 (lv_at hl 0 rfl) ?_
          refine ck_ir hx hb hr hlocks (Nat.le_of_ble_eq_true rfl) (Nat.le_of_ble_eq_true rfl) dX3_ack_101 (bh, bc2_5, un, n, f1, f2, f3, f4, f5, k2_5, q1_5, q2_5, u0_5, u1_5, u2_5, u3_5) (hP.sub [6, 7, 0, 1, 2, 3, 4, 5, 8, 9, 10] rfl) (hD.sub [6, 7, 0, 1, 2, 3, 4, 5, 8, 9, 10] (by decide) rfl) hS ?_
          refine Or.inr (Or.inr ⟨hn_3, hn_4, rfl, rfl, rfl, rfl, rfl, rfl, rfl, ?_⟩)
          rcases hw_5 with ⟨y1, z1, z2, z3, z4, z5⟩ | ⟨y1, y2, z1, z2, z3, z4, z5⟩ | ⟨y1, y2, y3, z1, z2, z3, z4, z5⟩ | ⟨y1, y2, y3, z1, z2, z3, z4, z5⟩
          · rw [z1] at c_86; exact absurd rfl c_86
          · rw [z1] at c_79; exact absurd rfl c_79
          · subst_vars; exact Or.inr (Or.inr (Or.inl ⟨y1, y2, y3, rfl, rfl, rfl, rfl, rfl, rfl⟩))
          · subst_vars; exact Or.inr (Or.inr (Or.inr ⟨y1, y2, y3, rfl, rfl, rfl, rfl, rfl, rfl⟩))
        · skip
          refine lv_aload_n hx hb dX3_ack_89 rfl (lv_at hl 3 rfl) ?_
          refine lv_dup hx hb dX3_ack_90 rfl ?_
          refine va_get (D := (dC, dI)) (ci := 3) (v := .int un) (C := RX3) (T := TX3) (N := 11) hx hb hts (k_X3_ack_in3) hown hK hP 6 rfl rfl 10 (by decide) (hts _ k_X3_ack_f52) (fun _ h9 => h9) rfl dX3_ack_91 ?_
          refine lv_iconst (v := 1) hx hb dX3_ack_94 (by decide) ?_
          refine lv_iadd hx hb dX3_ack_95 ?_
          refine lv_topi (fun x_7 ex_7 => ?_)
          refine va_put (D := (dC, dI)) (ci := 3) (v := .int x_7) (ty := .int) (C := RX3) (T := TX3) (N := 11) hx hb hts (k_X3_ack_in3) tyX3 tyX3_ok nmX3 hown hK hP hD hS 6 rfl rfl 10 (by decide) (hts _ k_X3_ack_f52) (fun _ h9 => h9) rfl (by decide +kernel) rfl rfl (Nat.le_of_ble_eq_true rfl) dX3_ack_96 (fun H locs hP hD hS => ?_)
          have hP : va_P (dC, dI) vwCl [(h, .inr (1, [.ref a1, .ref a2, .ref a3, .ref a4, .ref a5, .int (nI n)])), (a1, .inl (cJ, 32, .inr (.inl f1))), (a2, .inl (cI, 32, .inl f2)), (a3, .inl (cI, 32, .inl f3)), (a4, .inl (cI, 32, .inl f4)), (a5, .inl (cI, 32, .inl f5)), (o, .inr (3, [.ref sp, .ref h, .ref cn, .int zs, .int rq, .int ti, .int ct, .int gv, .int bh, .int bc2_5, .int x_7])), (sp, .inr (2, [.long k, .long l0, .long u0_5, .long u1_5, .long u2_5, .long u3_5])), (cn, .inr (0, [.ref b1, .ref b2, .int (nI k2_5), .int (nI t)])), (b1, .inl (cJ, 64, .inr (.inl q1_5))), (b2, .inl (cI, 64, .inl q2_5))] H := hP
          have hD : va_D A [(h, .inr (1, [.ref a1, .ref a2, .ref a3, .ref a4, .ref a5, .int (nI n)])), (a1, .inl (cJ, 32, .inr (.inl f1))), (a2, .inl (cI, 32, .inl f2)), (a3, .inl (cI, 32, .inl f3)), (a4, .inl (cI, 32, .inl f4)), (a5, .inl (cI, 32, .inl f5)), (o, .inr (3, [.ref sp, .ref h, .ref cn, .int zs, .int rq, .int ti, .int ct, .int gv, .int bh, .int bc2_5, .int x_7])), (sp, .inr (2, [.long k, .long l0, .long u0_5, .long u1_5, .long u2_5, .long u3_5])), (cn, .inr (0, [.ref b1, .ref b2, .int (nI k2_5), .int (nI t)])), (b1, .inl (cJ, 64, .inr (.inl q1_5))), (b2, .inl (cI, 64, .inl q2_5))] := hD
          refine lv_iload hx hb dX3_ack_99 (lv_at hl 0 rfl) ?_
          refine ck_ir hx hb hr hlocks (Nat.le_of_ble_eq_true rfl) (Nat.le_of_ble_eq_true rfl) dX3_ack_101 (bh, bc2_5, x_7, n, f1, f2, f3, f4, f5, k2_5, q1_5, q2_5, u0_5, u1_5, u2_5, u3_5) (hP.sub [6, 7, 0, 1, 2, 3, 4, 5, 8, 9, 10] rfl) (hD.sub [6, 7, 0, 1, 2, 3, 4, 5, 8, 9, 10] (by decide) rfl) hS ?_
          refine Or.inr (Or.inr ⟨hn_3, hn_4, rfl, rfl, rfl, rfl, rfl, rfl, rfl, ?_⟩)
          rcases hw_5 with ⟨y1, z1, z2, z3, z4, z5⟩ | ⟨y1, y2, z1, z2, z3, z4, z5⟩ | ⟨y1, y2, y3, z1, z2, z3, z4, z5⟩ | ⟨y1, y2, y3, z1, z2, z3, z4, z5⟩
          · subst_vars; exact Or.inl ⟨y1, rfl, rfl, rfl, rfl, rfl, rfl⟩
          · rw [z1] at c_86; exact absurd c_86 (by decide)
          · rw [z1] at c_86; exact absurd c_86 (by decide)
          · rw [z1] at c_86; exact absurd c_86 (by decide)
    · skip
      obtain ⟨j_4, hj_4, ej_4, hf_4⟩ := hw_4.resolve_left (fun z => c_43 z.1)
      subst ej_4
      obtain ⟨n0, rfl⟩ : ∃ n0, n = n0 + 1 := ⟨n - 1, by omega⟩
      refine lv_aload_n hx hb dX3_ack_46 rfl (lv_at hl 2 rfl) ?_
      refine lv_iload hx hb dX3_ack_47 (lv_at hl 0 rfl) ?_
      refine lv_iload_n hx hb dX3_ack_49 rfl (lv_at hl 5 rfl) ?_
      refine lv_iconst (v := 1) hx hb dX3_ack_50 (by decide) ?_
      refine lv_isub hx hb dX3_ack_51 ?_
      refine lv_iload hx hb dX3_ack_52 (lv_at hl 6 rfl) ?_
      refine lv_iconst (v := 1) hx hb dX3_ack_54 (by decide) ?_
      refine lv_isub hx hb dX3_ack_55 ?_
      refine ck_ci (wr := [(sp, .inr (2, [.long k, .long l0, .long v0, .long v1, .long v2, .long v3]))]) (va_runV (As := [.int (nI j_4), .int (na - 1), .int (nb - 1)]) (rest := []) ⟨hx, hb, hml, hown, hts⟩ (c_X3_ackOfHalf l dC dI cI cJ cZ lo _ o sp h cn zs rq ti ct gv bh bc un a1 a2 a3 a4 a5 n0 f1 f2 f3 f4 f5 b1 b2 kc t g1 g2 j_4 (na - 1) (nb - 1) (by first | assumption | omega) (by first | assumption | omega) (by first | assumption | omega) (by first | assumption | omega)) (cwV 3 hts gX3_ack_X3_ackOfHalf rfl rfl rfl (by decide +kernel) ⟨(Nat.le_of_ble_eq_true rfl), (Nat.le_of_ble_eq_true rfl)⟩) ⟨ck_blind, va_recv hK hP (ci := 3) (q0 := 0) rfl rfl, (ck_pre hG hP hD hS [0, 2, 3, 4, 5, 6, 7, 8, 9, 10] rfl (by decide) _)⟩ rfl rfl hl.1 rfl (lv_room (Nat.le_of_ble_eq_true rfl)) dX3_ack_56 ⟨(Nat.le_of_ble_eq_true rfl), (Nat.le_of_ble_eq_true rfl)⟩) hP hD hS hA [0, 2, 3, 4, 5, 6, 7, 8, 9, 10] [1] rfl rfl (by decide) (by decide) (fun r_8 u H locs hw_8 hP hD hS => ?_)
      obtain ⟨bh2_8, n2_8, w1_8, w2_8, w3_8, w4_8, w5_8, k2_8, q1_8, q2_8⟩ := u
      have hw_8 : (¬ (f2 j_4 = (na - 1) ∧ f3 j_4 = (nb - 1)) ∧ r_8 = 4 ∧ n2_8 = n0 + 1 ∧ w1_8 = f1 ∧ w2_8 = f2 ∧ w3_8 = f3 ∧ w4_8 = f4 ∧ w5_8 = f5 ∧ k2_8 = kc ∧ q1_8 = g1 ∧ q2_8 = g2 ∧ bh2_8 = bh) ∨ ((f2 j_4 = (na - 1) ∧ f3 j_4 = (nb - 1)) ∧ ¬ (nI (kc - t) < rq ∧ kc < 64) ∧ r_8 = 3 ∧ n2_8 = n0 + 1 ∧ w1_8 = f1 ∧ w2_8 = f2 ∧ w3_8 = f3 ∧ w4_8 = f4 ∧ w5_8 = f5 ∧ k2_8 = kc ∧ q1_8 = g1 ∧ q2_8 = g2 ∧ bh2_8 = bh) ∨ ((f2 j_4 = (na - 1) ∧ f3 j_4 = (nb - 1)) ∧ (nI (kc - t) < rq ∧ kc < 64) ∧ r_8 = 2 ∧ n2_8 = n0 ∧ w1_8 = vp_updL f1 j_4 (f1 n0) ∧ w2_8 = upd f2 j_4 (f2 n0) ∧ w3_8 = upd f3 j_4 (f3 n0) ∧ w4_8 = upd f4 j_4 (f4 n0) ∧ w5_8 = upd f5 j_4 (f5 n0) ∧ k2_8 = kc + 1 ∧ q1_8 = vp_updL g1 kc (f1 j_4) ∧ q2_8 = upd g2 kc (f4 j_4) ∧ bh2_8 = bh + 1) := hw_8
      have hP : va_P (dC, dI) vwCl [(sp, .inr (2, [.long k, .long l0, .long v0, .long v1, .long v2, .long v3])), (o, .inr (3, [.ref sp, .ref h, .ref cn, .int zs, .int rq, .int ti, .int ct, .int gv, .int bh2_8, .int bc, .int un])), (h, .inr (1, [.ref a1, .ref a2, .ref a3, .ref a4, .ref a5, .int (nI n2_8)])), (a1, .inl (cJ, 32, .inr (.inl w1_8))), (a2, .inl (cI, 32, .inl w2_8)), (a3, .inl (cI, 32, .inl w3_8)), (a4, .inl (cI, 32, .inl w4_8)), (a5, .inl (cI, 32, .inl w5_8)), (cn, .inr (0, [.ref b1, .ref b2, .int (nI k2_8), .int (nI t)])), (b1, .inl (cJ, 64, .inr (.inl q1_8))), (b2, .inl (cI, 64, .inl q2_8))] H := hP
      have hD : va_D A [(sp, .inr (2, [.long k, .long l0, .long v0, .long v1, .long v2, .long v3])), (o, .inr (3, [.ref sp, .ref h, .ref cn, .int zs, .int rq, .int ti, .int ct, .int gv, .int bh2_8, .int bc, .int un])), (h, .inr (1, [.ref a1, .ref a2, .ref a3, .ref a4, .ref a5, .int (nI n2_8)])), (a1, .inl (cJ, 32, .inr (.inl w1_8))), (a2, .inl (cI, 32, .inl w2_8)), (a3, .inl (cI, 32, .inl w3_8)), (a4, .inl (cI, 32, .inl w4_8)), (a5, .inl (cI, 32, .inl w5_8)), (cn, .inr (0, [.ref b1, .ref b2, .int (nI k2_8), .int (nI t)])), (b1, .inl (cJ, 64, .inr (.inl q1_8))), (b2, .inl (cI, 64, .inl q2_8))] := hD
      refine ck_ir hx hb hr hlocks (Nat.le_of_ble_eq_true rfl) (Nat.le_of_ble_eq_true rfl) dX3_ack_59 (bh2_8, bc, un, n2_8, w1_8, w2_8, w3_8, w4_8, w5_8, k2_8, q1_8, q2_8, v0, v1, v2, v3) (hP.sub [1, 0, 2, 3, 4, 5, 6, 7, 8, 9, 10] rfl) (hD.sub [1, 0, 2, 3, 4, 5, 6, 7, 8, 9, 10] (by decide) rfl) hS ?_
      refine Or.inr (Or.inl ⟨hn_3, _, hj_4, hf_4, ?_⟩)
      rcases hw_8 with ⟨z0, z1, z2, z3, z4, z5, z6, z7, z8, z9, z10, z11⟩ | ⟨z0, y0, z1, z2, z3, z4, z5, z6, z7, z8, z9, z10, z11⟩ | ⟨z0, y0, z1, z2, z3, z4, z5, z6, z7, z8, z9, z10, z11⟩
      · subst_vars
        exact Or.inl ⟨z0, rfl, rfl, rfl, rfl, rfl, rfl, rfl, rfl, rfl, rfl, rfl, rfl, rfl⟩
      · subst_vars
        exact Or.inr (Or.inl ⟨z0, y0, rfl, rfl, rfl, rfl, rfl, rfl, rfl, rfl, rfl, rfl, rfl, rfl, rfl⟩)
      · subst z1 z2 z3 z4 z5 z6 z7 z8 z9 z10 z11
        exact Or.inr (Or.inr ⟨z0, y0, rfl, rfl, rfl, rfl, rfl, ck_gone_swap (by omega) (ck_swapR _ _ _ _ _ _ _), rfl, by rw [hf_4], rfl⟩)
  · skip
    obtain ⟨j_3, hj_3, ej_3, hf_3⟩ := hw_3.resolve_left (fun z => c_24 z.1)
    subst ej_3
    refine lv_iconst (v := 1) hx hb dX3_ack_27 (by decide) ?_
    refine ck_ir hx hb hr hlocks (Nat.le_of_ble_eq_true rfl) (Nat.le_of_ble_eq_true rfl) dX3_ack_28 (bh, bc, un, n, f1, f2, f3, f4, f5, kc, g1, g2, v0, v1, v2, v3) hP hD hS ?_
    exact Or.inl ⟨⟨_, hj_3, hf_3⟩, rfl, rfl, rfl, rfl, rfl, rfl, rfl, rfl, rfl, rfl, rfl, rfl, rfl⟩
set_option maxRecDepth 20000 in
theorem k_X3_take_f26 : (.fieldLink RX3 26 "CookieListener" "connections" "LCookieListener$Connections;" : Cond) ∈ wsX3_take := by decide +kernel
set_option maxRecDepth 20000 in
theorem k_X3_take_in3 : ∀ w ∈ u_ws RX3 TX3 11, w ∈ wsX3_take := by decide +kernel
set_option maxRecDepth 20000 in
theorem k_X3_take_in0 : ∀ w ∈ u_ws RX0 TX0 4, w ∈ wsX3_take := by decide +kernel
set_option maxHeartbeats 4000000 in
set_option maxRecDepth 100000 in
theorem c_X3_take (l : Launch) (dC : Nat → ClassId) (dI : Nat → Nat → Nat) (cI cJ cZ : ClassId) (lo sz : Nat) (o sp h cn : Nat) (zs rq ti ct gv bh bc un : Int32) (b1 b2 : Nat) (kc t : Nat) (g1 : Nat → Int64) (g2 : Nat → Int32) (hk : kc ≤ 64) (ht : t ≤ kc) : Met l yX3_take wsX3_take ({ frames := 1, cells := 0, slots := 0, locals := 21 } : Room) (va_Pc [.ref o] (ck_P (dC, dI) [(cI, .int), (cJ, .long), (cZ, .boolean)] lo sz [(o, .inr (3, [.ref sp, .ref h, .ref cn, .int zs, .int rq, .int ti, .int ct, .int gv, .int bh, .int bc, .int un])), (cn, .inr (0, [.ref b1, .ref b2, .int (nI kc), .int (nI t)])), (b1, .inl (cJ, 64, .inr (.inl g1))), (b2, .inl (cI, 64, .inl g2))])) (va_Qi (fun (r : Int32) (u : Nat) => (t < kc ∧ u = t + 1 ∧ r = ck_prt (g1 t) + (g2 t <<< ((16 : Int32) &&& 31))) ∨ (kc ≤ t ∧ u = t ∧ r = -1)) (fun u => ck_B (dC, dI) vwCl (va_A [(o, .inr (3, [.ref sp, .ref h, .ref cn, .int zs, .int rq, .int ti, .int ct, .int gv, .int bh, .int bc, .int un])), (cn, .inr (0, [.ref b1, .ref b2, .int (nI kc), .int (nI t)])), (b1, .inl (cJ, 64, .inr (.inl g1))), (b2, .inl (cI, 64, .inl g2))] sz) ((fun u : Nat => ([(o, .inr (3, [.ref sp, .ref h, .ref cn, .int zs, .int rq, .int ti, .int ct, .int gv, .int bh, .int bc, .int un])), (cn, .inr (0, [.ref b1, .ref b2, .int (nI kc), .int (nI u)])), (b1, .inl (cJ, 64, .inr (.inl g1))), (b2, .inl (cI, 64, .inl g2))] : va_W)) u)) (va_A [(o, .inr (3, [.ref sp, .ref h, .ref cn, .int zs, .int rq, .int ti, .int ct, .int gv, .int bh, .int bc, .int un])), (cn, .inr (0, [.ref b1, .ref b2, .int (nI kc), .int (nI t)])), (b1, .inl (cJ, 64, .inr (.inl g1))), (b2, .inl (cI, 64, .inl g2))] sz)) 0 0 (va_A [(o, .inr (3, [.ref sp, .ref h, .ref cn, .int zs, .int rq, .int ti, .int ct, .int gv, .int bh, .int bc, .int un])), (cn, .inr (0, [.ref b1, .ref b2, .int (nI kc), .int (nI t)])), (b1, .inl (cJ, 64, .inr (.inl g1))), (b2, .inl (cI, 64, .inl g2))] sz) := by
  refine Met.ofW (cc := cX3_take) (maxL := 2) (ret := (some .int)) (by decide) rfl ?_
  intro p e s m args below meth c s₁ B hml hv
  obtain ⟨rfl, hsz, hP, hK, hD0, hE⟩ := hv
  have hx := B.exec
  have hb := B.bytes
  have hr := B.returns
  have hts := atoms_spec (ws := wsX3_take) B.pre
  have hown : s.vm.findClass RX3 = some m.cls := findClass_of_methodNamed B.named
  have hlocks := B.notSynchronized
  subst hsz
  have hD := hD0.self (sz := s.heap.size)
  have hlo := ck_lo (sz := s.heap.size) hD0 hE.1
  generalize hAe : va_A [(o, .inr (3, [.ref sp, .ref h, .ref cn, .int zs, .int rq, .int ti, .int ct, .int gv, .int bh, .int bc, .int un])), (cn, .inr (0, [.ref b1, .ref b2, .int (nI kc), .int (nI t)])), (b1, .inl (cJ, 64, .inr (.inl g1))), (b2, .inl (cI, 64, .inl g2))] s.heap.size = A at hD hlo ⊢
  have hA : ∀ q : Nat, s.heap.size ≤ q → A q := fun q h => by rw [← hAe]; exact Or.inr h
  have hG : ck_G (dC, dI) [(cI, .int), (cJ, .long), (cZ, .boolean)] lo A s := ⟨hK, hE, hA, hlo⟩
  have hS : va_S A s.heap s.heap [] := va_S.rf
  have hP : va_P (dC, dI) vwCl [(o, .inr (3, [.ref sp, .ref h, .ref cn, .int zs, .int rq, .int ti, .int ct, .int gv, .int bh, .int bc, .int un])), (cn, .inr (0, [.ref b1, .ref b2, .int (nI kc), .int (nI t)])), (b1, .inl (cJ, 64, .inr (.inl g1))), (b2, .inl (cI, 64, .inl g2))] s.heap := hP
  have hl := lv_entry ([.ref o]) (n := 2) (Nat.le_of_ble_eq_true rfl)
  rw [lg_entry_eq]
  generalize (lg_sl ([.ref o]) ++ List.replicate (2 - (lg_sl ([.ref o])).length) Slot.unset).toArray = ls at hl ⊢
  have hl : lv_has ls 2 [(0, .ref o)] := hl
  refine lv_aload_n hx hb dX3_take_0 rfl (lv_at hl 0 rfl) ?_
  refine va_get (D := (dC, dI)) (ci := 3) (v := .ref cn) (C := RX3) (T := TX3) (N := 11) hx hb hts (k_X3_take_in3) hown hK hP 0 rfl rfl 2 (by decide) (hts _ k_X3_take_f26) (fun _ h9 => h9) rfl dX3_take_1 ?_
  refine ck_ci (wr := [(o, .inr (3, [.ref sp, .ref h, .ref cn, .int zs, .int rq, .int ti, .int ct, .int gv, .int bh, .int bc, .int un]))]) (va_runV (As := []) (rest := []) ⟨hx, hb, hml, hown, hts⟩ (c_X0_takeFirst l dC dI cI cJ cZ lo _ cn b1 b2 kc t g1 g2 (by first | assumption | omega) (by first | assumption | omega)) (cwV 0 hts gX3_take_X0_takeFirst rfl rfl rfl (by decide +kernel) ⟨(Nat.le_of_ble_eq_true rfl), (Nat.le_of_ble_eq_true rfl)⟩) ⟨ck_blind, va_recv hK hP (ci := 0) (q0 := 1) rfl rfl, (ck_pre hG hP hD hS [1, 2, 3] rfl (by decide) _)⟩ rfl rfl hl.1 rfl (lv_room (Nat.le_of_ble_eq_true rfl)) dX3_take_4 ⟨(Nat.le_of_ble_eq_true rfl), (Nat.le_of_ble_eq_true rfl)⟩) hP hD hS hA [1, 2, 3] [0] rfl rfl (by decide) (by decide) (fun r_1 u H locs hw_1 hP hD hS => ?_)
  obtain ⟨t2_1, rfl⟩ : ∃ z, z = u := ⟨_, rfl⟩
  have hw_1 : (t < kc ∧ r_1 = nI t ∧ t2_1 = t + 1) ∨ (kc ≤ t ∧ r_1 = -1 ∧ t2_1 = t) := hw_1
  have hP : va_P (dC, dI) vwCl [(o, .inr (3, [.ref sp, .ref h, .ref cn, .int zs, .int rq, .int ti, .int ct, .int gv, .int bh, .int bc, .int un])), (cn, .inr (0, [.ref b1, .ref b2, .int (nI kc), .int (nI t2_1)])), (b1, .inl (cJ, 64, .inr (.inl g1))), (b2, .inl (cI, 64, .inl g2))] H := hP
  have hD : va_D A [(o, .inr (3, [.ref sp, .ref h, .ref cn, .int zs, .int rq, .int ti, .int ct, .int gv, .int bh, .int bc, .int un])), (cn, .inr (0, [.ref b1, .ref b2, .int (nI kc), .int (nI t2_1)])), (b1, .inl (cJ, 64, .inr (.inl g1))), (b2, .inl (cI, 64, .inl g2))] := hD
  refine lv_istore_n (lv' := [(1, .int r_1), (0, .ref o)]) hx hb dX3_take_7 rfl hl (by decide) rfl (fun ls hl => ?_)
  refine lv_iload_n hx hb dX3_take_8 rfl (lv_at hl 0 rfl) ?_
  refine lv_iconst (v := (-1)) hx hb dX3_take_9 (by decide) ?_
  refine lv_icmp_ne (tgt := 15) hx hb dX3_take_10 (by decide) (fun c_10 => ?_) (fun c_10 => ?_)
  · skip
    obtain ⟨ht9, ej9, et9⟩ := hw_1.resolve_right (fun z => c_10 z.2.1)
    subst ej9
    refine lv_aload_n hx hb dX3_take_15 rfl (lv_at hl 1 rfl) ?_
    refine va_get (D := (dC, dI)) (ci := 3) (v := .ref cn) (C := RX3) (T := TX3) (N := 11) hx hb hts (k_X3_take_in3) hown hK hP 0 rfl rfl 2 (by decide) (hts _ k_X3_take_f26) (fun _ h9 => h9) rfl dX3_take_16 ?_
    refine va_getN (D := (dC, dI)) (ci := 0) (v := .ref b1) (C := RX0) (T := TX0) (N := 4) hx hb hts (k_X3_take_in0) hown hK hP 1 rfl rfl 0 (by decide) (va_Nw.use rfl (hE.2.1.1)) (fun _ h9 => h9) rfl dX3_take_19 ?_
    refine lv_iload_n hx hb dX3_take_22 rfl (lv_at hl 0 rfl) ?_
    refine ck_lald hx hb hK hP 2 1 rfl rfl (by omega) (by decide) dX3_take_23 ?_
    refine ck_ri (va_runS (As := [.long (g1 t)]) (rest := []) ⟨hx, hb, hml, hown, hts⟩ (c_X3_portOf l dC dI cI cJ cZ lo _ (g1 t)) (va_cwS 1 hts gX3_take_X3_portOf rfl rfl rfl (by decide +kernel) ⟨(Nat.le_of_ble_eq_true rfl), (Nat.le_of_ble_eq_true rfl)⟩) ⟨ck_blind, (ck_pre hG hP hD hS [] rfl (by decide) _)⟩ rfl rfl hl.1 rfl (lv_room (Nat.le_of_ble_eq_true rfl)) dX3_take_24 ⟨(Nat.le_of_ble_eq_true rfl), (Nat.le_of_ble_eq_true rfl)⟩) (fun r_2 hw_2 => ?_)
    have hw_2 : r_2 = ck_prt (g1 t) := hw_2
    subst hw_2
    refine lv_aload_n hx hb dX3_take_27 rfl (lv_at hl 1 rfl) ?_
    refine va_get (D := (dC, dI)) (ci := 3) (v := .ref cn) (C := RX3) (T := TX3) (N := 11) hx hb hts (k_X3_take_in3) hown hK hP 0 rfl rfl 2 (by decide) (hts _ k_X3_take_f26) (fun _ h9 => h9) rfl dX3_take_28 ?_
    refine va_getN (D := (dC, dI)) (ci := 0) (v := .ref b2) (C := RX0) (T := TX0) (N := 4) hx hb hts (k_X3_take_in0) hown hK hP 1 rfl rfl 1 (by decide) (va_Nw.use rfl (hE.2.1.2.1)) (fun _ h9 => h9) rfl dX3_take_31 ?_
    refine lv_iload_n hx hb dX3_take_34 rfl (lv_at hl 0 rfl) ?_
    refine ck_iald hx hb hK hP 3 0 rfl rfl (by omega) (by decide) dX3_take_35 ?_
    refine lv_bipush (v := 16) hx hb dX3_take_36 (by decide) ?_
    refine lv_ishl hx hb dX3_take_38 ?_
    refine lv_iadd hx hb dX3_take_39 ?_
    refine ck_ir hx hb hr hlocks (Nat.le_of_ble_eq_true rfl) (Nat.le_of_ble_eq_true rfl) dX3_take_40 (t2_1) hP hD hS ?_
    exact Or.inl ⟨ht9, et9, rfl⟩
  · skip
    refine lv_iconst (v := (-1)) hx hb dX3_take_13 (by decide) ?_
    refine ck_ir hx hb hr hlocks (Nat.le_of_ble_eq_true rfl) (Nat.le_of_ble_eq_true rfl) dX3_take_14 (t2_1) hP hD hS ?_
    rcases hw_1 with ⟨y1, y2, y3⟩ | ⟨y1, y2, y3⟩
    · exact absurd (y2.symm.trans c_10) (ck_njm1 (by omega))
    · exact Or.inr ⟨y1, y3, rfl⟩
set_option maxRecDepth 20000 in
theorem k_X3_close_c67 : (.constant RX3 67 (65535) : Cond) ∈ wsX3_close := by decide +kernel
set_option maxRecDepth 20000 in
theorem k_X3_close_f26 : (.fieldLink RX3 26 "CookieListener" "connections" "LCookieListener$Connections;" : Cond) ∈ wsX3_close := by decide +kernel
set_option maxRecDepth 20000 in
theorem k_X3_close_in3 : ∀ w ∈ u_ws RX3 TX3 11, w ∈ wsX3_close := by decide +kernel
set_option maxRecDepth 20000 in
theorem k_X3_close_f19 : (.fieldLink RX3 19 "CookieListener" "halves" "LCookieListener$Halves;" : Cond) ∈ wsX3_close := by decide +kernel
set_option maxHeartbeats 4000000 in
set_option maxRecDepth 100000 in
theorem c_X3_close (l : Launch) (dC : Nat → ClassId) (dI : Nat → Nat → Nat) (cI cJ cZ : ClassId) (lo sz : Nat) (o sp h cn : Nat) (zs rq ti ct gv bh bc un : Int32) (a1 a2 a3 a4 a5 : Nat) (n : Nat) (f1 : Nat → Int64) (f2 f3 f4 f5 : Nat → Int32) (b1 b2 : Nat) (kc t : Nat) (g1 : Nat → Int64) (g2 : Nat → Int32) (aa bb : Int32) (hb1 : 0 ≤ bb) (hb2 : bb ≤ 65535) (hn : n ≤ 32) (hk : kc ≤ 64) (ht : t ≤ kc) : Met l yX3_close wsX3_close ({ frames := 2, cells := 0, slots := 0, locals := 46 } : Room) (va_Pc [.ref o, .int aa, .int bb] (ck_P (dC, dI) [(cI, .int), (cJ, .long), (cZ, .boolean)] lo sz [(o, .inr (3, [.ref sp, .ref h, .ref cn, .int zs, .int rq, .int ti, .int ct, .int gv, .int bh, .int bc, .int un])), (h, .inr (1, [.ref a1, .ref a2, .ref a3, .ref a4, .ref a5, .int (nI n)])), (a1, .inl (cJ, 32, .inr (.inl f1))), (a2, .inl (cI, 32, .inl f2)), (a3, .inl (cI, 32, .inl f3)), (a4, .inl (cI, 32, .inl f4)), (a5, .inl (cI, 32, .inl f5)), (cn, .inr (0, [.ref b1, .ref b2, .int (nI kc), .int (nI t)])), (b1, .inl (cJ, 64, .inr (.inl g1))), (b2, .inl (cI, 64, .inl g2))])) (va_Qi (fun (r : Int32) (u : Nat × (Nat → Int64) × (Nat → Int32) × (Nat → Int32) × (Nat → Int32) × (Nat → Int32) × Nat × Nat × (Nat → Int64) × (Nat → Int32)) => ck_stt n f1 kc t g1 (ck_clr aa bb) r ∧ ((r = 0 ∧ u.1 = n ∧ u.2.1 = f1 ∧ u.2.2.1 = f2 ∧ u.2.2.2.1 = f3 ∧ u.2.2.2.2.1 = f4 ∧ u.2.2.2.2.2.1 = f5 ∧ u.2.2.2.2.2.2.1 = kc ∧ u.2.2.2.2.2.2.2.2.1 = g1 ∧ u.2.2.2.2.2.2.2.2.2 = g2 ∧ u.2.2.2.2.2.2.2.1 = t) ∨ (r = 1 ∧ (∃ j, j < n ∧ f1 j = ck_clr aa bb ∧ n = u.1 + 1 ∧ ck_gone u.1 (ck_R f1 f2 f3 f4 f5) (ck_R u.2.1 u.2.2.1 u.2.2.2.1 u.2.2.2.2.1 u.2.2.2.2.2.1) j) ∧ u.2.2.2.2.2.2.1 = kc ∧ u.2.2.2.2.2.2.2.2.1 = g1 ∧ u.2.2.2.2.2.2.2.2.2 = g2 ∧ u.2.2.2.2.2.2.2.1 = t) ∨ ((r = 2 ∨ r = 3) ∧ u.1 = n ∧ u.2.1 = f1 ∧ u.2.2.1 = f2 ∧ u.2.2.2.1 = f3 ∧ u.2.2.2.2.1 = f4 ∧ u.2.2.2.2.2.1 = f5 ∧ ∃ j, j < kc ∧ g1 j = ck_clr aa bb ∧ kc = u.2.2.2.2.2.2.1 + 1 ∧ u.2.2.2.2.2.2.2.1 = (if j < t then t - 1 else t) ∧ ck_shf g1 u.2.2.2.2.2.2.2.2.1 j u.2.2.2.2.2.2.1 ∧ ck_shf g2 u.2.2.2.2.2.2.2.2.2 j u.2.2.2.2.2.2.1))) (fun u => ck_B (dC, dI) vwCl (va_A [(o, .inr (3, [.ref sp, .ref h, .ref cn, .int zs, .int rq, .int ti, .int ct, .int gv, .int bh, .int bc, .int un])), (h, .inr (1, [.ref a1, .ref a2, .ref a3, .ref a4, .ref a5, .int (nI n)])), (a1, .inl (cJ, 32, .inr (.inl f1))), (a2, .inl (cI, 32, .inl f2)), (a3, .inl (cI, 32, .inl f3)), (a4, .inl (cI, 32, .inl f4)), (a5, .inl (cI, 32, .inl f5)), (cn, .inr (0, [.ref b1, .ref b2, .int (nI kc), .int (nI t)])), (b1, .inl (cJ, 64, .inr (.inl g1))), (b2, .inl (cI, 64, .inl g2))] sz) ((fun u : Nat × (Nat → Int64) × (Nat → Int32) × (Nat → Int32) × (Nat → Int32) × (Nat → Int32) × Nat × Nat × (Nat → Int64) × (Nat → Int32) => ([(o, .inr (3, [.ref sp, .ref h, .ref cn, .int zs, .int rq, .int ti, .int ct, .int gv, .int bh, .int bc, .int un])), (h, .inr (1, [.ref a1, .ref a2, .ref a3, .ref a4, .ref a5, .int (nI u.1)])), (a1, .inl (cJ, 32, .inr (.inl u.2.1))), (a2, .inl (cI, 32, .inl u.2.2.1)), (a3, .inl (cI, 32, .inl u.2.2.2.1)), (a4, .inl (cI, 32, .inl u.2.2.2.2.1)), (a5, .inl (cI, 32, .inl u.2.2.2.2.2.1)), (cn, .inr (0, [.ref b1, .ref b2, .int (nI u.2.2.2.2.2.2.1), .int (nI u.2.2.2.2.2.2.2.1)])), (b1, .inl (cJ, 64, .inr (.inl u.2.2.2.2.2.2.2.2.1))), (b2, .inl (cI, 64, .inl u.2.2.2.2.2.2.2.2.2))] : va_W)) u)) (va_A [(o, .inr (3, [.ref sp, .ref h, .ref cn, .int zs, .int rq, .int ti, .int ct, .int gv, .int bh, .int bc, .int un])), (h, .inr (1, [.ref a1, .ref a2, .ref a3, .ref a4, .ref a5, .int (nI n)])), (a1, .inl (cJ, 32, .inr (.inl f1))), (a2, .inl (cI, 32, .inl f2)), (a3, .inl (cI, 32, .inl f3)), (a4, .inl (cI, 32, .inl f4)), (a5, .inl (cI, 32, .inl f5)), (cn, .inr (0, [.ref b1, .ref b2, .int (nI kc), .int (nI t)])), (b1, .inl (cJ, 64, .inr (.inl g1))), (b2, .inl (cI, 64, .inl g2))] sz)) 0 0 (va_A [(o, .inr (3, [.ref sp, .ref h, .ref cn, .int zs, .int rq, .int ti, .int ct, .int gv, .int bh, .int bc, .int un])), (h, .inr (1, [.ref a1, .ref a2, .ref a3, .ref a4, .ref a5, .int (nI n)])), (a1, .inl (cJ, 32, .inr (.inl f1))), (a2, .inl (cI, 32, .inl f2)), (a3, .inl (cI, 32, .inl f3)), (a4, .inl (cI, 32, .inl f4)), (a5, .inl (cI, 32, .inl f5)), (cn, .inr (0, [.ref b1, .ref b2, .int (nI kc), .int (nI t)])), (b1, .inl (cJ, 64, .inr (.inl g1))), (b2, .inl (cI, 64, .inl g2))] sz) := by
  refine Met.ofW (cc := cX3_close) (maxL := 6) (ret := (some .int)) (by decide) rfl ?_
  intro p e s m args below meth c s₁ B hml hv
  obtain ⟨rfl, hsz, hP, hK, hD0, hE⟩ := hv
  have hx := B.exec
  have hb := B.bytes
  have hr := B.returns
  have hts := atoms_spec (ws := wsX3_close) B.pre
  have hown : s.vm.findClass RX3 = some m.cls := findClass_of_methodNamed B.named
  have hlocks := B.notSynchronized
  subst hsz
  have hD := hD0.self (sz := s.heap.size)
  have hlo := ck_lo (sz := s.heap.size) hD0 hE.1
  generalize hAe : va_A [(o, .inr (3, [.ref sp, .ref h, .ref cn, .int zs, .int rq, .int ti, .int ct, .int gv, .int bh, .int bc, .int un])), (h, .inr (1, [.ref a1, .ref a2, .ref a3, .ref a4, .ref a5, .int (nI n)])), (a1, .inl (cJ, 32, .inr (.inl f1))), (a2, .inl (cI, 32, .inl f2)), (a3, .inl (cI, 32, .inl f3)), (a4, .inl (cI, 32, .inl f4)), (a5, .inl (cI, 32, .inl f5)), (cn, .inr (0, [.ref b1, .ref b2, .int (nI kc), .int (nI t)])), (b1, .inl (cJ, 64, .inr (.inl g1))), (b2, .inl (cI, 64, .inl g2))] s.heap.size = A at hD hlo ⊢
  have hA : ∀ q : Nat, s.heap.size ≤ q → A q := fun q h => by rw [← hAe]; exact Or.inr h
  have hG : ck_G (dC, dI) [(cI, .int), (cJ, .long), (cZ, .boolean)] lo A s := ⟨hK, hE, hA, hlo⟩
  have hS : va_S A s.heap s.heap [] := va_S.rf
  have hP : va_P (dC, dI) vwCl [(o, .inr (3, [.ref sp, .ref h, .ref cn, .int zs, .int rq, .int ti, .int ct, .int gv, .int bh, .int bc, .int un])), (h, .inr (1, [.ref a1, .ref a2, .ref a3, .ref a4, .ref a5, .int (nI n)])), (a1, .inl (cJ, 32, .inr (.inl f1))), (a2, .inl (cI, 32, .inl f2)), (a3, .inl (cI, 32, .inl f3)), (a4, .inl (cI, 32, .inl f4)), (a5, .inl (cI, 32, .inl f5)), (cn, .inr (0, [.ref b1, .ref b2, .int (nI kc), .int (nI t)])), (b1, .inl (cJ, 64, .inr (.inl g1))), (b2, .inl (cI, 64, .inl g2))] s.heap := hP
  have hl := lv_entry ([.ref o, .int aa, .int bb]) (n := 6) (Nat.le_of_ble_eq_true rfl)
  rw [lg_entry_eq]
  generalize (lg_sl ([.ref o, .int aa, .int bb]) ++ List.replicate (6 - (lg_sl ([.ref o, .int aa, .int bb])).length) Slot.unset).toArray = ls at hl ⊢
  have hl : lv_has ls 6 [(0, .ref o), (1, .int aa), (2, .int bb)] := hl
  refine lv_iload_n hx hb dX3_close_0 rfl (lv_at hl 2 rfl) ?_
  refine lv_iconst (v := 0) hx hb dX3_close_1 (by decide) ?_
  refine lv_ldc hx hb hown (hts _ k_X3_close_c67) dX3_close_2 ?_
  refine ck_rv (va_runS (As := [.int bb, .int 0, .int 65535]) (rest := []) ⟨hx, hb, hml, hown, hts⟩ (c_X3_requireWithin l dC dI cI cJ cZ lo _ bb 0 65535 (by first | assumption | omega) (by first | assumption | omega)) (va_cwS 3 hts gX3_close_X3_requireWithin rfl rfl rfl (by decide +kernel) ⟨(Nat.le_of_ble_eq_true rfl), (Nat.le_of_ble_eq_true rfl)⟩) ⟨ck_blind, (ck_pre hG hP hD hS [] rfl (by decide) _)⟩ rfl rfl hl.1 rfl (lv_room (Nat.le_of_ble_eq_true rfl)) dX3_close_4 ⟨(Nat.le_of_ble_eq_true rfl), (Nat.le_of_ble_eq_true rfl)⟩) (fun hw_1 => ?_)
  refine lv_iload_n hx hb dX3_close_7 rfl (lv_at hl 1 rfl) ?_
  refine lv_iload_n hx hb dX3_close_8 rfl (lv_at hl 2 rfl) ?_
  refine ck_rl (va_runS (As := [.int aa, .int bb]) (rest := []) ⟨hx, hb, hml, hown, hts⟩ (c_X3_callerOf l dC dI cI cJ cZ lo _ aa bb) (va_cwS 2 hts gX3_close_X3_callerOf rfl rfl rfl (by decide +kernel) ⟨(Nat.le_of_ble_eq_true rfl), (Nat.le_of_ble_eq_true rfl)⟩) ⟨ck_blind, (ck_pre hG hP hD hS [] rfl (by decide) _)⟩ rfl rfl hl.1 rfl (lv_room (Nat.le_of_ble_eq_true rfl)) dX3_close_9 ⟨(Nat.le_of_ble_eq_true rfl), (Nat.le_of_ble_eq_true rfl)⟩) (fun r_2 hw_2 => ?_)
  have hw_2 : r_2 = ck_clr aa bb := hw_2
  subst hw_2
  refine lv_lstore_n (lv' := [(3, .long (ck_clr aa bb)), (0, .ref o), (1, .int aa), (2, .int bb)]) hx hb dX3_close_12 rfl hl (by decide) rfl (fun ls hl => ?_)
  refine lv_aload_n hx hb dX3_close_13 rfl (lv_at hl 1 rfl) ?_
  refine lv_lload_n hx hb dX3_close_14 rfl (lv_at hl 0 rfl) ?_
  refine ck_ri (va_runV (As := [.long (ck_clr aa bb)]) (rest := []) ⟨hx, hb, hml, hown, hts⟩ (c_X3_stateOf l dC dI cI cJ cZ lo _ o sp h cn zs rq ti ct gv bh bc un a1 a2 a3 a4 a5 n f1 f2 f3 f4 f5 b1 b2 kc t g1 g2 (ck_clr aa bb) (by first | assumption | omega) (by first | assumption | omega) (by first | assumption | omega)) (cwV 1 hts gX3_close_X3_stateOf rfl rfl rfl (by decide +kernel) ⟨(Nat.le_of_ble_eq_true rfl), (Nat.le_of_ble_eq_true rfl)⟩) ⟨ck_blind, va_recv hK hP (ci := 3) (q0 := 0) rfl rfl, (ck_pre hG hP hD hS [0, 1, 2, 3, 4, 5, 6, 7, 8, 9] rfl (by decide) _)⟩ rfl rfl hl.1 rfl (lv_room (Nat.le_of_ble_eq_true rfl)) dX3_close_15 ⟨(Nat.le_of_ble_eq_true rfl), (Nat.le_of_ble_eq_true rfl)⟩) (fun r_3 hw_3 => ?_)
  have hw_3 : ck_stt n f1 kc t g1 (ck_clr aa bb) r_3 := hw_3
  refine lv_istore (lv' := [(5, .int r_3), (3, .long (ck_clr aa bb)), (0, .ref o), (1, .int aa), (2, .int bb)]) hx hb dX3_close_18 hl (by decide) rfl (fun ls hl => ?_)
  refine lv_iload hx hb dX3_close_20 (lv_at hl 0 rfl) ?_
  refine lv_iconst (v := 1) hx hb dX3_close_22 (by decide) ?_
  refine lv_icmp_ne (tgt := 44) hx hb dX3_close_23 (by decide) (fun c_23 => ?_) (fun c_23 => ?_)
  · skip
    refine lv_iload hx hb dX3_close_44 (lv_at hl 0 rfl) ?_
    refine lv_if_eq (tgt := 64) hx hb dX3_close_46 (by decide) (fun c_46 => ?_) (fun c_46 => ?_)
    · skip
      refine lv_iload hx hb dX3_close_64 (lv_at hl 0 rfl) ?_
      refine ck_ir hx hb hr hlocks (Nat.le_of_ble_eq_true rfl) (Nat.le_of_ble_eq_true rfl) dX3_close_66 (n, f1, f2, f3, f4, f5, kc, t, g1, g2) hP hD hS ?_
      exact ⟨hw_3, Or.inl ⟨c_46, rfl, rfl, rfl, rfl, rfl, rfl, rfl, rfl, rfl, rfl⟩⟩
    · skip
      refine lv_aload_n hx hb dX3_close_49 rfl (lv_at hl 2 rfl) ?_
      refine va_get (D := (dC, dI)) (ci := 3) (v := .ref cn) (C := RX3) (T := TX3) (N := 11) hx hb hts (k_X3_close_in3) hown hK hP 0 rfl rfl 2 (by decide) (hts _ k_X3_close_f26) (fun _ h9 => h9) rfl dX3_close_50 ?_
      refine lv_aload_n hx hb dX3_close_53 rfl (lv_at hl 2 rfl) ?_
      refine va_get (D := (dC, dI)) (ci := 3) (v := .ref cn) (C := RX3) (T := TX3) (N := 11) hx hb hts (k_X3_close_in3) hown hK hP 0 rfl rfl 2 (by decide) (hts _ k_X3_close_f26) (fun _ h9 => h9) rfl dX3_close_54 ?_
      refine lv_lload_n hx hb dX3_close_57 rfl (lv_at hl 1 rfl) ?_
      refine ck_ri (va_runV (As := [.long (ck_clr aa bb)]) (rest := [.ref cn]) ⟨hx, hb, hml, hown, hts⟩ (c_X0_find l dC dI cI cJ cZ lo _ cn b1 b2 kc t g1 g2 (ck_clr aa bb) (by first | assumption | omega)) (cwV 1 hts gX3_close_X0_find rfl rfl rfl (by decide +kernel) ⟨(Nat.le_of_ble_eq_true rfl), (Nat.le_of_ble_eq_true rfl)⟩) ⟨ck_blind, va_recv hK hP (ci := 0) (q0 := 7) rfl rfl, (ck_pre hG hP hD hS [7, 8, 9] rfl (by decide) _)⟩ rfl rfl hl.1 rfl (lv_room (Nat.le_of_ble_eq_true rfl)) dX3_close_58 ⟨(Nat.le_of_ble_eq_true rfl), (Nat.le_of_ble_eq_true rfl)⟩) (fun r_4 hw_4 => ?_)
      have hw_4 : ck_fnd kc g1 (ck_clr aa bb) r_4 := hw_4
      obtain ⟨j_4, hj_4, ej_4, hf_4⟩ : ∃ j, j < kc ∧ r_4 = nI j ∧ g1 j = ck_clr aa bb := by
        refine hw_4.resolve_left (fun z => ?_)
        rcases hw_3 with ⟨j9, h9, e9, _⟩ | ⟨_, ⟨_, y⟩ | ⟨_, y⟩⟩
        · exact z.2 j9 h9 e9
        · exact absurd y c_23
        · exact absurd y c_46
      subst ej_4
      obtain ⟨k0, rfl⟩ : ∃ k0, kc = k0 + 1 := ⟨kc - 1, by omega⟩
      refine ck_cv (wr := [(o, .inr (3, [.ref sp, .ref h, .ref cn, .int zs, .int rq, .int ti, .int ct, .int gv, .int bh, .int bc, .int un])), (h, .inr (1, [.ref a1, .ref a2, .ref a3, .ref a4, .ref a5, .int (nI n)])), (a1, .inl (cJ, 32, .inr (.inl f1))), (a2, .inl (cI, 32, .inl f2)), (a3, .inl (cI, 32, .inl f3)), (a4, .inl (cI, 32, .inl f4)), (a5, .inl (cI, 32, .inl f5))]) (va_runV (As := [.int (nI j_4)]) (rest := []) ⟨hx, hb, hml, hown, hts⟩ (c_X0_drop l dC dI cI cJ cZ lo _ cn b1 b2 k0 t g1 g2 j_4 (by first | assumption | omega) (by first | assumption | omega) (by first | assumption | omega)) (cwV 1 hts gX3_close_X0_drop rfl rfl rfl (by decide +kernel) ⟨(Nat.le_of_ble_eq_true rfl), (Nat.le_of_ble_eq_true rfl)⟩) ⟨ck_blind, va_recv hK hP (ci := 0) (q0 := 7) rfl rfl, (ck_pre hG hP hD hS [7, 8, 9] rfl (by decide) _)⟩ rfl rfl hl.1 rfl (lv_room (Nat.le_of_ble_eq_true rfl)) dX3_close_61 ⟨(Nat.le_of_ble_eq_true rfl), (Nat.le_of_ble_eq_true rfl)⟩) hP hD hS hA [7, 8, 9] [0, 1, 2, 3, 4, 5, 6] rfl rfl (by decide) (by decide) (fun u H locs hw_5 hP hD hS => ?_)
      obtain ⟨t2_5, u1_5, u2_5⟩ := u
      have hw_5 : t2_5 = (if j_4 < t then t - 1 else t) ∧ ck_shf g1 u1_5 j_4 k0 ∧ ck_shf g2 u2_5 j_4 k0 := hw_5
      have hP : va_P (dC, dI) vwCl [(o, .inr (3, [.ref sp, .ref h, .ref cn, .int zs, .int rq, .int ti, .int ct, .int gv, .int bh, .int bc, .int un])), (h, .inr (1, [.ref a1, .ref a2, .ref a3, .ref a4, .ref a5, .int (nI n)])), (a1, .inl (cJ, 32, .inr (.inl f1))), (a2, .inl (cI, 32, .inl f2)), (a3, .inl (cI, 32, .inl f3)), (a4, .inl (cI, 32, .inl f4)), (a5, .inl (cI, 32, .inl f5)), (cn, .inr (0, [.ref b1, .ref b2, .int (nI k0), .int (nI t2_5)])), (b1, .inl (cJ, 64, .inr (.inl u1_5))), (b2, .inl (cI, 64, .inl u2_5))] H := hP
      have hD : va_D A [(o, .inr (3, [.ref sp, .ref h, .ref cn, .int zs, .int rq, .int ti, .int ct, .int gv, .int bh, .int bc, .int un])), (h, .inr (1, [.ref a1, .ref a2, .ref a3, .ref a4, .ref a5, .int (nI n)])), (a1, .inl (cJ, 32, .inr (.inl f1))), (a2, .inl (cI, 32, .inl f2)), (a3, .inl (cI, 32, .inl f3)), (a4, .inl (cI, 32, .inl f4)), (a5, .inl (cI, 32, .inl f5)), (cn, .inr (0, [.ref b1, .ref b2, .int (nI k0), .int (nI t2_5)])), (b1, .inl (cJ, 64, .inr (.inl u1_5))), (b2, .inl (cI, 64, .inl u2_5))] := hD
      refine lv_iload hx hb dX3_close_64 (lv_at hl 0 rfl) ?_
      refine ck_ir hx hb hr hlocks (Nat.le_of_ble_eq_true rfl) (Nat.le_of_ble_eq_true rfl) dX3_close_66 (n, f1, f2, f3, f4, f5, k0, t2_5, u1_5, u2_5) hP hD hS ?_
      refine ⟨hw_3, Or.inr (Or.inr ⟨?_, rfl, rfl, rfl, rfl, rfl, rfl, _, hj_4, hf_4, rfl, hw_5⟩)⟩
      rcases hw_3 with ⟨_, _, _, ⟨_, y⟩ | ⟨_, y⟩⟩ | ⟨_, ⟨_, y⟩ | ⟨_, y⟩⟩
      · exact Or.inr y
      · exact Or.inl y
      · exact absurd y c_23
      · exact absurd y c_46
  · skip
    refine lv_aload_n hx hb dX3_close_26 rfl (lv_at hl 2 rfl) ?_
    refine va_get (D := (dC, dI)) (ci := 3) (v := .ref h) (C := RX3) (T := TX3) (N := 11) hx hb hts (k_X3_close_in3) hown hK hP 0 rfl rfl 1 (by decide) (hts _ k_X3_close_f19) (fun _ h9 => h9) rfl dX3_close_27 ?_
    refine lv_aload_n hx hb dX3_close_30 rfl (lv_at hl 2 rfl) ?_
    refine va_get (D := (dC, dI)) (ci := 3) (v := .ref h) (C := RX3) (T := TX3) (N := 11) hx hb hts (k_X3_close_in3) hown hK hP 0 rfl rfl 1 (by decide) (hts _ k_X3_close_f19) (fun _ h9 => h9) rfl dX3_close_31 ?_
    refine lv_lload_n hx hb dX3_close_34 rfl (lv_at hl 1 rfl) ?_
    refine ck_ri (va_runV (As := [.long (ck_clr aa bb)]) (rest := [.ref h]) ⟨hx, hb, hml, hown, hts⟩ (c_X1_find l dC dI cI cJ cZ lo _ h a1 a2 a3 a4 a5 n f1 f2 f3 f4 f5 (ck_clr aa bb) (by first | assumption | omega)) (cwV 1 hts gX3_close_X1_find rfl rfl rfl (by decide +kernel) ⟨(Nat.le_of_ble_eq_true rfl), (Nat.le_of_ble_eq_true rfl)⟩) ⟨ck_blind, va_recv hK hP (ci := 1) (q0 := 1) rfl rfl, (ck_pre hG hP hD hS [1, 2, 3, 4, 5, 6] rfl (by decide) _)⟩ rfl rfl hl.1 rfl (lv_room (Nat.le_of_ble_eq_true rfl)) dX3_close_35 ⟨(Nat.le_of_ble_eq_true rfl), (Nat.le_of_ble_eq_true rfl)⟩) (fun r_6 hw_6 => ?_)
    have hw_6 : ck_fnd n f1 (ck_clr aa bb) r_6 := hw_6
    obtain ⟨j_6, hj_6, ej_6, hf_6⟩ : ∃ j, j < n ∧ r_6 = nI j ∧ f1 j = ck_clr aa bb := by
      refine hw_6.resolve_left (fun z => ?_)
      rcases hw_3 with ⟨_, _, _, ⟨_, y⟩ | ⟨_, y⟩⟩ | ⟨_, ⟨⟨j9, h9, e9⟩, _⟩ | ⟨_, y⟩⟩
      · rw [y] at c_23; exact absurd c_23 (by decide)
      · rw [y] at c_23; exact absurd c_23 (by decide)
      · exact z.2 j9 h9 e9
      · rw [y] at c_23; exact absurd c_23 (by decide)
    subst ej_6
    obtain ⟨n0, rfl⟩ : ∃ n0, n = n0 + 1 := ⟨n - 1, by omega⟩
    refine ck_cv (wr := [(o, .inr (3, [.ref sp, .ref h, .ref cn, .int zs, .int rq, .int ti, .int ct, .int gv, .int bh, .int bc, .int un])), (cn, .inr (0, [.ref b1, .ref b2, .int (nI kc), .int (nI t)])), (b1, .inl (cJ, 64, .inr (.inl g1))), (b2, .inl (cI, 64, .inl g2))]) (va_runV (As := [.int (nI j_6)]) (rest := []) ⟨hx, hb, hml, hown, hts⟩ (c_X1_drop l dC dI cI cJ cZ lo _ h a1 a2 a3 a4 a5 n0 f1 f2 f3 f4 f5 j_6 (by first | assumption | omega) (by first | assumption | omega)) (cwV 1 hts gX3_close_X1_drop rfl rfl rfl (by decide +kernel) ⟨(Nat.le_of_ble_eq_true rfl), (Nat.le_of_ble_eq_true rfl)⟩) ⟨ck_blind, va_recv hK hP (ci := 1) (q0 := 1) rfl rfl, (ck_pre hG hP hD hS [1, 2, 3, 4, 5, 6] rfl (by decide) _)⟩ rfl rfl hl.1 rfl (lv_room (Nat.le_of_ble_eq_true rfl)) dX3_close_38 ⟨(Nat.le_of_ble_eq_true rfl), (Nat.le_of_ble_eq_true rfl)⟩) hP hD hS hA [1, 2, 3, 4, 5, 6] [0, 7, 8, 9] rfl rfl (by decide) (by decide) (fun u H locs hw_7 hP hD hS => ?_)
    have hP : va_P (dC, dI) vwCl [(o, .inr (3, [.ref sp, .ref h, .ref cn, .int zs, .int rq, .int ti, .int ct, .int gv, .int bh, .int bc, .int un])), (cn, .inr (0, [.ref b1, .ref b2, .int (nI kc), .int (nI t)])), (b1, .inl (cJ, 64, .inr (.inl g1))), (b2, .inl (cI, 64, .inl g2)), (h, .inr (1, [.ref a1, .ref a2, .ref a3, .ref a4, .ref a5, .int (nI n0)])), (a1, .inl (cJ, 32, .inr (.inl (vp_updL f1 j_6 (f1 n0))))), (a2, .inl (cI, 32, .inl (upd f2 j_6 (f2 n0)))), (a3, .inl (cI, 32, .inl (upd f3 j_6 (f3 n0)))), (a4, .inl (cI, 32, .inl (upd f4 j_6 (f4 n0)))), (a5, .inl (cI, 32, .inl (upd f5 j_6 (f5 n0))))] H := hP
    have hD : va_D A [(o, .inr (3, [.ref sp, .ref h, .ref cn, .int zs, .int rq, .int ti, .int ct, .int gv, .int bh, .int bc, .int un])), (cn, .inr (0, [.ref b1, .ref b2, .int (nI kc), .int (nI t)])), (b1, .inl (cJ, 64, .inr (.inl g1))), (b2, .inl (cI, 64, .inl g2)), (h, .inr (1, [.ref a1, .ref a2, .ref a3, .ref a4, .ref a5, .int (nI n0)])), (a1, .inl (cJ, 32, .inr (.inl (vp_updL f1 j_6 (f1 n0))))), (a2, .inl (cI, 32, .inl (upd f2 j_6 (f2 n0)))), (a3, .inl (cI, 32, .inl (upd f3 j_6 (f3 n0)))), (a4, .inl (cI, 32, .inl (upd f4 j_6 (f4 n0)))), (a5, .inl (cI, 32, .inl (upd f5 j_6 (f5 n0))))] := hD
    refine lv_goto (tgt := 64) hx hb dX3_close_41 (by decide) ?_
    refine lv_iload hx hb dX3_close_64 (lv_at hl 0 rfl) ?_
    refine ck_ir hx hb hr hlocks (Nat.le_of_ble_eq_true rfl) (Nat.le_of_ble_eq_true rfl) dX3_close_66 (n0, vp_updL f1 j_6 (f1 n0), upd f2 j_6 (f2 n0), upd f3 j_6 (f3 n0), upd f4 j_6 (f4 n0), upd f5 j_6 (f5 n0), kc, t, g1, g2) (hP.sub [0, 4, 5, 6, 7, 8, 9, 1, 2, 3] rfl) (hD.sub [0, 4, 5, 6, 7, 8, 9, 1, 2, 3] (by decide) rfl) hS ?_
    subst_vars
    exact ⟨hw_3, Or.inr (Or.inl ⟨rfl, ⟨_, hj_6, hf_6, rfl, ck_gone_swap (by omega) (ck_swapR _ _ _ _ _ _ _)⟩, rfl, rfl, rfl, rfl⟩)⟩
set_option maxRecDepth 20000 in
theorem k_X3_state_c67 : (.constant RX3 67 (65535) : Cond) ∈ wsX3_state := by decide +kernel
set_option maxHeartbeats 4000000 in
set_option maxRecDepth 100000 in
theorem c_X3_state (l : Launch) (dC : Nat → ClassId) (dI : Nat → Nat → Nat) (cI cJ cZ : ClassId) (lo sz : Nat) (o sp h cn : Nat) (zs rq ti ct gv bh bc un : Int32) (a1 a2 a3 a4 a5 : Nat) (n : Nat) (f1 : Nat → Int64) (f2 f3 f4 f5 : Nat → Int32) (b1 b2 : Nat) (kc t : Nat) (g1 : Nat → Int64) (g2 : Nat → Int32) (aa bb : Int32) (hb1 : 0 ≤ bb) (hb2 : bb ≤ 65535) (hn : n ≤ 32) (hk : kc ≤ 64) (ht : t ≤ kc) : Met l yX3_state wsX3_state ({ frames := 2, cells := 0, slots := 0, locals := 46 } : Room) (va_Pc [.ref o, .int aa, .int bb] (ck_P (dC, dI) [(cI, .int), (cJ, .long), (cZ, .boolean)] lo sz [(o, .inr (3, [.ref sp, .ref h, .ref cn, .int zs, .int rq, .int ti, .int ct, .int gv, .int bh, .int bc, .int un])), (h, .inr (1, [.ref a1, .ref a2, .ref a3, .ref a4, .ref a5, .int (nI n)])), (a1, .inl (cJ, 32, .inr (.inl f1))), (a2, .inl (cI, 32, .inl f2)), (a3, .inl (cI, 32, .inl f3)), (a4, .inl (cI, 32, .inl f4)), (a5, .inl (cI, 32, .inl f5)), (cn, .inr (0, [.ref b1, .ref b2, .int (nI kc), .int (nI t)])), (b1, .inl (cJ, 64, .inr (.inl g1))), (b2, .inl (cI, 64, .inl g2))])) (vp_Si (fun (r : Int32) => ck_stt n f1 kc t g1 (ck_clr aa bb) r)) 0 0 (fun _ => False) := by
  refine Met.ofW (cc := cX3_state) (maxL := 3) (ret := (some .int)) (by decide) rfl ?_
  intro p e s m args below meth c s₁ B hml hv
  obtain ⟨rfl, hsz, hP, hK, hD0, hE⟩ := hv
  have hx := B.exec
  have hb := B.bytes
  have hr := B.returns
  have hts := atoms_spec (ws := wsX3_state) B.pre
  have hown : s.vm.findClass RX3 = some m.cls := findClass_of_methodNamed B.named
  have hlocks := B.notSynchronized
  subst hsz
  have hD := hD0.self (sz := s.heap.size)
  have hlo := ck_lo (sz := s.heap.size) hD0 hE.1
  generalize hAe : va_A [(o, .inr (3, [.ref sp, .ref h, .ref cn, .int zs, .int rq, .int ti, .int ct, .int gv, .int bh, .int bc, .int un])), (h, .inr (1, [.ref a1, .ref a2, .ref a3, .ref a4, .ref a5, .int (nI n)])), (a1, .inl (cJ, 32, .inr (.inl f1))), (a2, .inl (cI, 32, .inl f2)), (a3, .inl (cI, 32, .inl f3)), (a4, .inl (cI, 32, .inl f4)), (a5, .inl (cI, 32, .inl f5)), (cn, .inr (0, [.ref b1, .ref b2, .int (nI kc), .int (nI t)])), (b1, .inl (cJ, 64, .inr (.inl g1))), (b2, .inl (cI, 64, .inl g2))] s.heap.size = A at hD hlo
  have hA : ∀ q : Nat, s.heap.size ≤ q → A q := fun q h => by rw [← hAe]; exact Or.inr h
  have hG : ck_G (dC, dI) [(cI, .int), (cJ, .long), (cZ, .boolean)] lo A s := ⟨hK, hE, hA, hlo⟩
  have hS : va_S A s.heap s.heap [] := va_S.rf
  have hP : va_P (dC, dI) vwCl [(o, .inr (3, [.ref sp, .ref h, .ref cn, .int zs, .int rq, .int ti, .int ct, .int gv, .int bh, .int bc, .int un])), (h, .inr (1, [.ref a1, .ref a2, .ref a3, .ref a4, .ref a5, .int (nI n)])), (a1, .inl (cJ, 32, .inr (.inl f1))), (a2, .inl (cI, 32, .inl f2)), (a3, .inl (cI, 32, .inl f3)), (a4, .inl (cI, 32, .inl f4)), (a5, .inl (cI, 32, .inl f5)), (cn, .inr (0, [.ref b1, .ref b2, .int (nI kc), .int (nI t)])), (b1, .inl (cJ, 64, .inr (.inl g1))), (b2, .inl (cI, 64, .inl g2))] s.heap := hP
  have hl := lv_entry ([.ref o, .int aa, .int bb]) (n := 3) (Nat.le_of_ble_eq_true rfl)
  rw [lg_entry_eq]
  generalize (lg_sl ([.ref o, .int aa, .int bb]) ++ List.replicate (3 - (lg_sl ([.ref o, .int aa, .int bb])).length) Slot.unset).toArray = ls at hl ⊢
  have hl : lv_has ls 3 [(0, .ref o), (1, .int aa), (2, .int bb)] := hl
  refine lv_iload_n hx hb dX3_state_0 rfl (lv_at hl 2 rfl) ?_
  refine lv_iconst (v := 0) hx hb dX3_state_1 (by decide) ?_
  refine lv_ldc hx hb hown (hts _ k_X3_state_c67) dX3_state_2 ?_
  refine ck_rv (va_runS (As := [.int bb, .int 0, .int 65535]) (rest := []) ⟨hx, hb, hml, hown, hts⟩ (c_X3_requireWithin l dC dI cI cJ cZ lo _ bb 0 65535 (by first | assumption | omega) (by first | assumption | omega)) (va_cwS 3 hts gX3_state_X3_requireWithin rfl rfl rfl (by decide +kernel) ⟨(Nat.le_of_ble_eq_true rfl), (Nat.le_of_ble_eq_true rfl)⟩) ⟨ck_blind, (ck_pre hG hP hD hS [] rfl (by decide) _)⟩ rfl rfl hl.1 rfl (lv_room (Nat.le_of_ble_eq_true rfl)) dX3_state_4 ⟨(Nat.le_of_ble_eq_true rfl), (Nat.le_of_ble_eq_true rfl)⟩) (fun hw_1 => ?_)
  refine lv_aload_n hx hb dX3_state_7 rfl (lv_at hl 0 rfl) ?_
  refine lv_iload_n hx hb dX3_state_8 rfl (lv_at hl 1 rfl) ?_
  refine lv_iload_n hx hb dX3_state_9 rfl (lv_at hl 2 rfl) ?_
  refine ck_rl (va_runS (As := [.int aa, .int bb]) (rest := [.ref o]) ⟨hx, hb, hml, hown, hts⟩ (c_X3_callerOf l dC dI cI cJ cZ lo _ aa bb) (va_cwS 2 hts gX3_state_X3_callerOf rfl rfl rfl (by decide +kernel) ⟨(Nat.le_of_ble_eq_true rfl), (Nat.le_of_ble_eq_true rfl)⟩) ⟨ck_blind, (ck_pre hG hP hD hS [] rfl (by decide) _)⟩ rfl rfl hl.1 rfl (lv_room (Nat.le_of_ble_eq_true rfl)) dX3_state_10 ⟨(Nat.le_of_ble_eq_true rfl), (Nat.le_of_ble_eq_true rfl)⟩) (fun r_2 hw_2 => ?_)
  have hw_2 : r_2 = ck_clr aa bb := hw_2
  subst hw_2
  refine ck_ri (va_runV (As := [.long (ck_clr aa bb)]) (rest := []) ⟨hx, hb, hml, hown, hts⟩ (c_X3_stateOf l dC dI cI cJ cZ lo _ o sp h cn zs rq ti ct gv bh bc un a1 a2 a3 a4 a5 n f1 f2 f3 f4 f5 b1 b2 kc t g1 g2 (ck_clr aa bb) (by first | assumption | omega) (by first | assumption | omega) (by first | assumption | omega)) (cwV 1 hts gX3_state_X3_stateOf rfl rfl rfl (by decide +kernel) ⟨(Nat.le_of_ble_eq_true rfl), (Nat.le_of_ble_eq_true rfl)⟩) ⟨ck_blind, va_recv hK hP (ci := 3) (q0 := 0) rfl rfl, (ck_pre hG hP hD hS [0, 1, 2, 3, 4, 5, 6, 7, 8, 9] rfl (by decide) _)⟩ rfl rfl hl.1 rfl (lv_room (Nat.le_of_ble_eq_true rfl)) dX3_state_13 ⟨(Nat.le_of_ble_eq_true rfl), (Nat.le_of_ble_eq_true rfl)⟩) (fun r_3 hw_3 => ?_)
  have hw_3 : ck_stt n f1 kc t g1 (ck_clr aa bb) r_3 := hw_3
  refine ck_iq hx hb hr hlocks dX3_state_16 ?_
  exact hw_3
set_option maxRecDepth 20000 in
theorem k_X3_cookie_c67 : (.constant RX3 67 (65535) : Cond) ∈ wsX3_cookie := by decide +kernel
set_option maxRecDepth 20000 in
theorem k_X3_cookie_c128 : (.constant RX3 128 (2147483647) : Cond) ∈ wsX3_cookie := by decide +kernel
set_option maxHeartbeats 4000000 in
set_option maxRecDepth 100000 in
theorem c_X3_cookie (l : Launch) (dC : Nat → ClassId) (dI : Nat → Nat → Nat) (cI cJ cZ : ClassId) (lo sz : Nat) (o sp h cn : Nat) (zs rq ti ct gv bh bc un : Int32) (k l0 v0 v1 v2 v3 : Int64) (aa bb num kd sl : Int32) (hb1 : 0 ≤ bb) (hb2 : bb ≤ 65535) (hd1 : 0 ≤ kd) (hd2 : kd ≤ 7) (hs1 : 0 ≤ sl) (hs2 : sl ≤ 2147483647) : Met l yX3_cookie wsX3_cookie ({ frames := 5, cells := 0, slots := 0, locals := 120 } : Room) (va_Pc [.ref o, .int aa, .int bb, .int num, .int kd, .int sl] (ck_P (dC, dI) [(cI, .int), (cJ, .long), (cZ, .boolean)] lo sz [(o, .inr (3, [.ref sp, .ref h, .ref cn, .int zs, .int rq, .int ti, .int ct, .int gv, .int bh, .int bc, .int un])), (sp, .inr (2, [.long k, .long l0, .long v0, .long v1, .long v2, .long v3]))])) (va_Ql (fun (r : Int64) (u : Int64 × Int64 × Int64 × Int64) => r = ck_wos (ck_ckk k l0 (ck_clr aa bb) num kd sl)) (fun u => ck_B (dC, dI) vwCl (va_A [(o, .inr (3, [.ref sp, .ref h, .ref cn, .int zs, .int rq, .int ti, .int ct, .int gv, .int bh, .int bc, .int un])), (sp, .inr (2, [.long k, .long l0, .long v0, .long v1, .long v2, .long v3]))] sz) ((fun u : Int64 × Int64 × Int64 × Int64 => ([(o, .inr (3, [.ref sp, .ref h, .ref cn, .int zs, .int rq, .int ti, .int ct, .int gv, .int bh, .int bc, .int un])), (sp, .inr (2, [.long k, .long l0, .long u.1, .long u.2.1, .long u.2.2.1, .long u.2.2.2]))] : va_W)) u)) (va_A [(o, .inr (3, [.ref sp, .ref h, .ref cn, .int zs, .int rq, .int ti, .int ct, .int gv, .int bh, .int bc, .int un])), (sp, .inr (2, [.long k, .long l0, .long v0, .long v1, .long v2, .long v3]))] sz)) 0 0 (va_A [(o, .inr (3, [.ref sp, .ref h, .ref cn, .int zs, .int rq, .int ti, .int ct, .int gv, .int bh, .int bc, .int un])), (sp, .inr (2, [.long k, .long l0, .long v0, .long v1, .long v2, .long v3]))] sz) := by
  refine Met.ofW (cc := cX3_cookie) (maxL := 6) (ret := (some .long)) (by decide) rfl ?_
  intro p e s m args below meth c s₁ B hml hv
  obtain ⟨rfl, hsz, hP, hK, hD0, hE⟩ := hv
  have hx := B.exec
  have hb := B.bytes
  have hr := B.returns
  have hts := atoms_spec (ws := wsX3_cookie) B.pre
  have hown : s.vm.findClass RX3 = some m.cls := findClass_of_methodNamed B.named
  have hlocks := B.notSynchronized
  subst hsz
  have hD := hD0.self (sz := s.heap.size)
  have hlo := ck_lo (sz := s.heap.size) hD0 hE.1
  generalize hAe : va_A [(o, .inr (3, [.ref sp, .ref h, .ref cn, .int zs, .int rq, .int ti, .int ct, .int gv, .int bh, .int bc, .int un])), (sp, .inr (2, [.long k, .long l0, .long v0, .long v1, .long v2, .long v3]))] s.heap.size = A at hD hlo ⊢
  have hA : ∀ q : Nat, s.heap.size ≤ q → A q := fun q h => by rw [← hAe]; exact Or.inr h
  have hG : ck_G (dC, dI) [(cI, .int), (cJ, .long), (cZ, .boolean)] lo A s := ⟨hK, hE, hA, hlo⟩
  have hS : va_S A s.heap s.heap [] := va_S.rf
  have hP : va_P (dC, dI) vwCl [(o, .inr (3, [.ref sp, .ref h, .ref cn, .int zs, .int rq, .int ti, .int ct, .int gv, .int bh, .int bc, .int un])), (sp, .inr (2, [.long k, .long l0, .long v0, .long v1, .long v2, .long v3]))] s.heap := hP
  have hl := lv_entry ([.ref o, .int aa, .int bb, .int num, .int kd, .int sl]) (n := 6) (Nat.le_of_ble_eq_true rfl)
  rw [lg_entry_eq]
  generalize (lg_sl ([.ref o, .int aa, .int bb, .int num, .int kd, .int sl]) ++ List.replicate (6 - (lg_sl ([.ref o, .int aa, .int bb, .int num, .int kd, .int sl])).length) Slot.unset).toArray = ls at hl ⊢
  have hl : lv_has ls 6 [(0, .ref o), (1, .int aa), (2, .int bb), (3, .int num), (4, .int kd), (5, .int sl)] := hl
  refine lv_iload_n hx hb dX3_cookie_0 rfl (lv_at hl 2 rfl) ?_
  refine lv_iconst (v := 0) hx hb dX3_cookie_1 (by decide) ?_
  refine lv_ldc hx hb hown (hts _ k_X3_cookie_c67) dX3_cookie_2 ?_
  refine ck_rv (va_runS (As := [.int bb, .int 0, .int 65535]) (rest := []) ⟨hx, hb, hml, hown, hts⟩ (c_X3_requireWithin l dC dI cI cJ cZ lo _ bb 0 65535 (by first | assumption | omega) (by first | assumption | omega)) (va_cwS 3 hts gX3_cookie_X3_requireWithin rfl rfl rfl (by decide +kernel) ⟨(Nat.le_of_ble_eq_true rfl), (Nat.le_of_ble_eq_true rfl)⟩) ⟨ck_blind, (ck_pre hG hP hD hS [] rfl (by decide) _)⟩ rfl rfl hl.1 rfl (lv_room (Nat.le_of_ble_eq_true rfl)) dX3_cookie_4 ⟨(Nat.le_of_ble_eq_true rfl), (Nat.le_of_ble_eq_true rfl)⟩) (fun hw_1 => ?_)
  refine lv_iload hx hb dX3_cookie_7 (lv_at hl 4 rfl) ?_
  refine lv_iconst (v := 0) hx hb dX3_cookie_9 (by decide) ?_
  refine lv_bipush (v := 7) hx hb dX3_cookie_10 (by decide) ?_
  refine ck_rv (va_runS (As := [.int kd, .int 0, .int 7]) (rest := []) ⟨hx, hb, hml, hown, hts⟩ (c_X3_requireWithin l dC dI cI cJ cZ lo _ kd 0 7 (by first | assumption | omega) (by first | assumption | omega)) (va_cwS 3 hts gX3_cookie_X3_requireWithin rfl rfl rfl (by decide +kernel) ⟨(Nat.le_of_ble_eq_true rfl), (Nat.le_of_ble_eq_true rfl)⟩) ⟨ck_blind, (ck_pre hG hP hD hS [] rfl (by decide) _)⟩ rfl rfl hl.1 rfl (lv_room (Nat.le_of_ble_eq_true rfl)) dX3_cookie_12 ⟨(Nat.le_of_ble_eq_true rfl), (Nat.le_of_ble_eq_true rfl)⟩) (fun hw_2 => ?_)
  refine lv_iload hx hb dX3_cookie_15 (lv_at hl 5 rfl) ?_
  refine lv_iconst (v := 0) hx hb dX3_cookie_17 (by decide) ?_
  refine lv_ldc hx hb hown (hts _ k_X3_cookie_c128) dX3_cookie_18 ?_
  refine ck_rv (va_runS (As := [.int sl, .int 0, .int 2147483647]) (rest := []) ⟨hx, hb, hml, hown, hts⟩ (c_X3_requireWithin l dC dI cI cJ cZ lo _ sl 0 2147483647 (by first | assumption | omega) (by first | assumption | omega)) (va_cwS 3 hts gX3_cookie_X3_requireWithin rfl rfl rfl (by decide +kernel) ⟨(Nat.le_of_ble_eq_true rfl), (Nat.le_of_ble_eq_true rfl)⟩) ⟨ck_blind, (ck_pre hG hP hD hS [] rfl (by decide) _)⟩ rfl rfl hl.1 rfl (lv_room (Nat.le_of_ble_eq_true rfl)) dX3_cookie_20 ⟨(Nat.le_of_ble_eq_true rfl), (Nat.le_of_ble_eq_true rfl)⟩) (fun hw_3 => ?_)
  refine lv_aload_n hx hb dX3_cookie_23 rfl (lv_at hl 0 rfl) ?_
  refine lv_iload_n hx hb dX3_cookie_24 rfl (lv_at hl 1 rfl) ?_
  refine lv_iload_n hx hb dX3_cookie_25 rfl (lv_at hl 2 rfl) ?_
  refine ck_rl (va_runS (As := [.int aa, .int bb]) (rest := [.ref o]) ⟨hx, hb, hml, hown, hts⟩ (c_X3_callerOf l dC dI cI cJ cZ lo _ aa bb) (va_cwS 2 hts gX3_cookie_X3_callerOf rfl rfl rfl (by decide +kernel) ⟨(Nat.le_of_ble_eq_true rfl), (Nat.le_of_ble_eq_true rfl)⟩) ⟨ck_blind, (ck_pre hG hP hD hS [] rfl (by decide) _)⟩ rfl rfl hl.1 rfl (lv_room (Nat.le_of_ble_eq_true rfl)) dX3_cookie_26 ⟨(Nat.le_of_ble_eq_true rfl), (Nat.le_of_ble_eq_true rfl)⟩) (fun r_4 hw_4 => ?_)
  have hw_4 : r_4 = ck_clr aa bb := hw_4
  subst hw_4
  refine lv_iload_n hx hb dX3_cookie_29 rfl (lv_at hl 3 rfl) ?_
  refine lv_iload hx hb dX3_cookie_30 (lv_at hl 4 rfl) ?_
  refine lv_iload hx hb dX3_cookie_32 (lv_at hl 5 rfl) ?_
  refine ck_ci (wr := []) (va_runV (As := [.long (ck_clr aa bb), .int num, .int kd, .int sl]) (rest := []) ⟨hx, hb, hml, hown, hts⟩ (c_X3_cookieOf l dC dI cI cJ cZ lo _ o sp h cn zs rq ti ct gv bh bc un k l0 v0 v1 v2 v3 (ck_clr aa bb) num kd sl) (cwV 4 hts gX3_cookie_X3_cookieOf rfl rfl rfl (by decide +kernel) ⟨(Nat.le_of_ble_eq_true rfl), (Nat.le_of_ble_eq_true rfl)⟩) ⟨ck_blind, va_recv hK hP (ci := 3) (q0 := 0) rfl rfl, (ck_pre hG hP hD hS [0, 1] rfl (by decide) _)⟩ rfl rfl hl.1 rfl (lv_room (Nat.le_of_ble_eq_true rfl)) dX3_cookie_34 ⟨(Nat.le_of_ble_eq_true rfl), (Nat.le_of_ble_eq_true rfl)⟩) hP hD hS hA [0, 1] [] rfl rfl (by decide) (by decide) (fun r_5 u H locs hw_5 hP hD hS => ?_)
  obtain ⟨u0_5, u1_5, u2_5, u3_5⟩ := u
  have hw_5 : r_5 = ck_ckk k l0 (ck_clr aa bb) num kd sl := hw_5
  have hP : va_P (dC, dI) vwCl [(o, .inr (3, [.ref sp, .ref h, .ref cn, .int zs, .int rq, .int ti, .int ct, .int gv, .int bh, .int bc, .int un])), (sp, .inr (2, [.long k, .long l0, .long u0_5, .long u1_5, .long u2_5, .long u3_5]))] H := hP
  have hD : va_D A [(o, .inr (3, [.ref sp, .ref h, .ref cn, .int zs, .int rq, .int ti, .int ct, .int gv, .int bh, .int bc, .int un])), (sp, .inr (2, [.long k, .long l0, .long u0_5, .long u1_5, .long u2_5, .long u3_5]))] := hD
  subst hw_5
  refine ck_rl (va_runS (As := [.int (ck_ckk k l0 (ck_clr aa bb) num kd sl)]) (rest := []) ⟨hx, hb, hml, hown, hts⟩ (c_X3_withoutSign l dC dI cI cJ cZ lo _ (ck_ckk k l0 (ck_clr aa bb) num kd sl)) (va_cwS 1 hts gX3_cookie_X3_withoutSign rfl rfl rfl (by decide +kernel) ⟨(Nat.le_of_ble_eq_true rfl), (Nat.le_of_ble_eq_true rfl)⟩) ⟨ck_blind, (ck_pre hG hP hD hS [] rfl (by decide) _)⟩ rfl rfl hl.1 rfl (lv_room (Nat.le_of_ble_eq_true rfl)) dX3_cookie_37 ⟨(Nat.le_of_ble_eq_true rfl), (Nat.le_of_ble_eq_true rfl)⟩) (fun r_6 hw_6 => ?_)
  have hw_6 : r_6 = ck_wos (ck_ckk k l0 (ck_clr aa bb) num kd sl) := hw_6
  subst hw_6
  refine ck_lr hx hb hr hlocks (Nat.le_of_ble_eq_true rfl) (Nat.le_of_ble_eq_true rfl) dX3_cookie_40 (u0_5, u1_5, u2_5, u3_5) hP hD hS ?_
  exact rfl
set_option maxRecDepth 20000 in
theorem k_X3_told_f19 : (.fieldLink RX3 19 "CookieListener" "halves" "LCookieListener$Halves;" : Cond) ∈ wsX3_told := by decide +kernel
set_option maxRecDepth 20000 in
theorem k_X3_told_in3 : ∀ w ∈ u_ws RX3 TX3 11, w ∈ wsX3_told := by decide +kernel
set_option maxRecDepth 20000 in
theorem k_X3_told_in1 : ∀ w ∈ u_ws RX1 TX1 6, w ∈ wsX3_told := by decide +kernel
set_option maxRecDepth 20000 in
theorem k_X3_told_f26 : (.fieldLink RX3 26 "CookieListener" "connections" "LCookieListener$Connections;" : Cond) ∈ wsX3_told := by decide +kernel
set_option maxRecDepth 20000 in
theorem k_X3_told_in0 : ∀ w ∈ u_ws RX0 TX0 4, w ∈ wsX3_told := by decide +kernel
set_option maxRecDepth 20000 in
theorem k_X3_told_f43 : (.fieldLink RX3 43 "CookieListener" "cookiesGiven" "I" : Cond) ∈ wsX3_told := by decide +kernel
set_option maxRecDepth 20000 in
theorem k_X3_told_f46 : (.fieldLink RX3 46 "CookieListener" "openedByHalves" "I" : Cond) ∈ wsX3_told := by decide +kernel
set_option maxRecDepth 20000 in
theorem k_X3_told_f49 : (.fieldLink RX3 49 "CookieListener" "openedByCookies" "I" : Cond) ∈ wsX3_told := by decide +kernel
set_option maxRecDepth 20000 in
theorem k_X3_told_f52 : (.fieldLink RX3 52 "CookieListener" "unproven" "I" : Cond) ∈ wsX3_told := by decide +kernel
set_option maxRecDepth 20000 in
theorem k_X3_told_f37 : (.fieldLink RX3 37 "CookieListener" "time" "I" : Cond) ∈ wsX3_told := by decide +kernel
set_option maxHeartbeats 4000000 in
set_option maxRecDepth 100000 in
theorem c_X3_told (l : Launch) (dC : Nat → ClassId) (dI : Nat → Nat → Nat) (cI cJ cZ : ClassId) (lo sz : Nat) (o sp h cn : Nat) (zs rq ti ct gv bh bc un : Int32) (a1 a2 a3 a4 a5 : Nat) (n : Nat) (f1 : Nat → Int64) (f2 f3 f4 f5 : Nat → Int32) (b1 b2 : Nat) (kc t : Nat) (g1 : Nat → Int64) (g2 : Nat → Int32) (w : Nat) (hw8 : w < 8) (hn : n ≤ 32) (hk : kc ≤ 64) (ht : t ≤ kc) : Met l yX3_told wsX3_told ({ frames := 1, cells := 0, slots := 0, locals := 20 } : Room) (va_Pc [.ref o, .int (nI w)] (ck_P (dC, dI) [(cI, .int), (cJ, .long), (cZ, .boolean)] lo sz [(o, .inr (3, [.ref sp, .ref h, .ref cn, .int zs, .int rq, .int ti, .int ct, .int gv, .int bh, .int bc, .int un])), (h, .inr (1, [.ref a1, .ref a2, .ref a3, .ref a4, .ref a5, .int (nI n)])), (a1, .inl (cJ, 32, .inr (.inl f1))), (a2, .inl (cI, 32, .inl f2)), (a3, .inl (cI, 32, .inl f3)), (a4, .inl (cI, 32, .inl f4)), (a5, .inl (cI, 32, .inl f5)), (cn, .inr (0, [.ref b1, .ref b2, .int (nI kc), .int (nI t)])), (b1, .inl (cJ, 64, .inr (.inl g1))), (b2, .inl (cI, 64, .inl g2))])) (vp_Si (fun (r : Int32) => r = ck_tld w n (kc - t) kc gv bh bc un ti)) 0 0 (fun _ => False) := by
  refine Met.ofW (cc := cX3_told) (maxL := 2) (ret := (some .int)) (by decide) rfl ?_
  intro p e s m args below meth c s₁ B hml hv
  obtain ⟨rfl, hsz, hP, hK, hD0, hE⟩ := hv
  have hx := B.exec
  have hb := B.bytes
  have hr := B.returns
  have hts := atoms_spec (ws := wsX3_told) B.pre
  have hown : s.vm.findClass RX3 = some m.cls := findClass_of_methodNamed B.named
  have hlocks := B.notSynchronized
  subst hsz
  have hD := hD0.self (sz := s.heap.size)
  have hlo := ck_lo (sz := s.heap.size) hD0 hE.1
  generalize hAe : va_A [(o, .inr (3, [.ref sp, .ref h, .ref cn, .int zs, .int rq, .int ti, .int ct, .int gv, .int bh, .int bc, .int un])), (h, .inr (1, [.ref a1, .ref a2, .ref a3, .ref a4, .ref a5, .int (nI n)])), (a1, .inl (cJ, 32, .inr (.inl f1))), (a2, .inl (cI, 32, .inl f2)), (a3, .inl (cI, 32, .inl f3)), (a4, .inl (cI, 32, .inl f4)), (a5, .inl (cI, 32, .inl f5)), (cn, .inr (0, [.ref b1, .ref b2, .int (nI kc), .int (nI t)])), (b1, .inl (cJ, 64, .inr (.inl g1))), (b2, .inl (cI, 64, .inl g2))] s.heap.size = A at hD hlo
  have hA : ∀ q : Nat, s.heap.size ≤ q → A q := fun q h => by rw [← hAe]; exact Or.inr h
  have hG : ck_G (dC, dI) [(cI, .int), (cJ, .long), (cZ, .boolean)] lo A s := ⟨hK, hE, hA, hlo⟩
  have hS : va_S A s.heap s.heap [] := va_S.rf
  have hP : va_P (dC, dI) vwCl [(o, .inr (3, [.ref sp, .ref h, .ref cn, .int zs, .int rq, .int ti, .int ct, .int gv, .int bh, .int bc, .int un])), (h, .inr (1, [.ref a1, .ref a2, .ref a3, .ref a4, .ref a5, .int (nI n)])), (a1, .inl (cJ, 32, .inr (.inl f1))), (a2, .inl (cI, 32, .inl f2)), (a3, .inl (cI, 32, .inl f3)), (a4, .inl (cI, 32, .inl f4)), (a5, .inl (cI, 32, .inl f5)), (cn, .inr (0, [.ref b1, .ref b2, .int (nI kc), .int (nI t)])), (b1, .inl (cJ, 64, .inr (.inl g1))), (b2, .inl (cI, 64, .inl g2))] s.heap := hP
  have hl := lv_entry ([.ref o, .int (nI w)]) (n := 2) (Nat.le_of_ble_eq_true rfl)
  rw [lg_entry_eq]
  generalize (lg_sl ([.ref o, .int (nI w)]) ++ List.replicate (2 - (lg_sl ([.ref o, .int (nI w)])).length) Slot.unset).toArray = ls at hl ⊢
  have hl : lv_has ls 2 [(0, .ref o), (1, .int (nI w))] := hl
  refine lv_iload_n hx hb dX3_told_0 rfl (lv_at hl 1 rfl) ?_
  rcases (show w = 0 ∨ w = 1 ∨ w = 2 ∨ w = 3 ∨ w = 4 ∨ w = 5 ∨ w = 6 ∨ w = 7 by omega) with rfl | rfl | rfl | rfl | rfl | rfl | rfl | rfl
  · skip
    refine lv_tableIn (off := 47) (tgt := 48) hx hb dX3_told_1 (by decide) (by decide) rfl (by decide) ?_
    refine lv_aload_n hx hb dX3_told_48 rfl (lv_at hl 0 rfl) ?_
    refine va_get (D := (dC, dI)) (ci := 3) (v := .ref h) (C := RX3) (T := TX3) (N := 11) hx hb hts (k_X3_told_in3) hown hK hP 0 rfl rfl 1 (by decide) (hts _ k_X3_told_f19) (fun _ h9 => h9) rfl dX3_told_49 ?_
    refine va_getN (D := (dC, dI)) (ci := 1) (v := .int (nI n)) (C := RX1) (T := TX1) (N := 6) hx hb hts (k_X3_told_in1) hown hK hP 1 rfl rfl 5 (by decide) (va_Nw.use rfl (hE.2.1.2.2.1)) (fun _ h9 => h9) rfl dX3_told_52 ?_
    refine ck_iq hx hb hr hlocks dX3_told_55 ?_
    exact rfl
  · skip
    refine lv_tableIn (off := 55) (tgt := 56) hx hb dX3_told_1 (by decide) (by decide) rfl (by decide) ?_
    refine lv_aload_n hx hb dX3_told_56 rfl (lv_at hl 0 rfl) ?_
    refine va_get (D := (dC, dI)) (ci := 3) (v := .ref cn) (C := RX3) (T := TX3) (N := 11) hx hb hts (k_X3_told_in3) hown hK hP 0 rfl rfl 2 (by decide) (hts _ k_X3_told_f26) (fun _ h9 => h9) rfl dX3_told_57 ?_
    refine ck_ri (va_runV (As := []) (rest := []) ⟨hx, hb, hml, hown, hts⟩ (c_X0_waiting l dC dI cI cJ cZ lo _ cn b1 b2 kc t g1 g2 (by first | assumption | omega) (by first | assumption | omega)) (cwV 0 hts gX3_told_X0_waiting rfl rfl rfl (by decide +kernel) ⟨(Nat.le_of_ble_eq_true rfl), (Nat.le_of_ble_eq_true rfl)⟩) ⟨ck_blind, va_recv hK hP (ci := 0) (q0 := 7) rfl rfl, (ck_pre hG hP hD hS [7, 8, 9] rfl (by decide) _)⟩ rfl rfl hl.1 rfl (lv_room (Nat.le_of_ble_eq_true rfl)) dX3_told_60 ⟨(Nat.le_of_ble_eq_true rfl), (Nat.le_of_ble_eq_true rfl)⟩) (fun r_1 hw_1 => ?_)
    have hw_1 : r_1 = nI (kc - t) := hw_1
    subst hw_1
    refine ck_iq hx hb hr hlocks dX3_told_63 ?_
    exact rfl
  · skip
    refine lv_tableIn (off := 63) (tgt := 64) hx hb dX3_told_1 (by decide) (by decide) rfl (by decide) ?_
    refine lv_aload_n hx hb dX3_told_64 rfl (lv_at hl 0 rfl) ?_
    refine va_get (D := (dC, dI)) (ci := 3) (v := .ref cn) (C := RX3) (T := TX3) (N := 11) hx hb hts (k_X3_told_in3) hown hK hP 0 rfl rfl 2 (by decide) (hts _ k_X3_told_f26) (fun _ h9 => h9) rfl dX3_told_65 ?_
    refine va_getN (D := (dC, dI)) (ci := 0) (v := .int (nI kc)) (C := RX0) (T := TX0) (N := 4) hx hb hts (k_X3_told_in0) hown hK hP 7 rfl rfl 2 (by decide) (va_Nw.use rfl (hE.2.1.2.2.2.1)) (fun _ h9 => h9) rfl dX3_told_68 ?_
    refine ck_iq hx hb hr hlocks dX3_told_71 ?_
    exact rfl
  · skip
    refine lv_tableIn (off := 71) (tgt := 72) hx hb dX3_told_1 (by decide) (by decide) rfl (by decide) ?_
    refine lv_aload_n hx hb dX3_told_72 rfl (lv_at hl 0 rfl) ?_
    refine va_get (D := (dC, dI)) (ci := 3) (v := .int gv) (C := RX3) (T := TX3) (N := 11) hx hb hts (k_X3_told_in3) hown hK hP 0 rfl rfl 7 (by decide) (hts _ k_X3_told_f43) (fun _ h9 => h9) rfl dX3_told_73 ?_
    refine ck_iq hx hb hr hlocks dX3_told_76 ?_
    exact rfl
  · skip
    refine lv_tableIn (off := 76) (tgt := 77) hx hb dX3_told_1 (by decide) (by decide) rfl (by decide) ?_
    refine lv_aload_n hx hb dX3_told_77 rfl (lv_at hl 0 rfl) ?_
    refine va_get (D := (dC, dI)) (ci := 3) (v := .int bh) (C := RX3) (T := TX3) (N := 11) hx hb hts (k_X3_told_in3) hown hK hP 0 rfl rfl 8 (by decide) (hts _ k_X3_told_f46) (fun _ h9 => h9) rfl dX3_told_78 ?_
    refine ck_iq hx hb hr hlocks dX3_told_81 ?_
    exact rfl
  · skip
    refine lv_tableIn (off := 81) (tgt := 82) hx hb dX3_told_1 (by decide) (by decide) rfl (by decide) ?_
    refine lv_aload_n hx hb dX3_told_82 rfl (lv_at hl 0 rfl) ?_
    refine va_get (D := (dC, dI)) (ci := 3) (v := .int bc) (C := RX3) (T := TX3) (N := 11) hx hb hts (k_X3_told_in3) hown hK hP 0 rfl rfl 9 (by decide) (hts _ k_X3_told_f49) (fun _ h9 => h9) rfl dX3_told_83 ?_
    refine ck_iq hx hb hr hlocks dX3_told_86 ?_
    exact rfl
  · skip
    refine lv_tableIn (off := 86) (tgt := 87) hx hb dX3_told_1 (by decide) (by decide) rfl (by decide) ?_
    refine lv_aload_n hx hb dX3_told_87 rfl (lv_at hl 0 rfl) ?_
    refine va_get (D := (dC, dI)) (ci := 3) (v := .int un) (C := RX3) (T := TX3) (N := 11) hx hb hts (k_X3_told_in3) hown hK hP 0 rfl rfl 10 (by decide) (hts _ k_X3_told_f52) (fun _ h9 => h9) rfl dX3_told_88 ?_
    refine ck_iq hx hb hr hlocks dX3_told_91 ?_
    exact rfl
  · skip
    refine lv_tableIn (off := 91) (tgt := 92) hx hb dX3_told_1 (by decide) (by decide) rfl (by decide) ?_
    refine lv_aload_n hx hb dX3_told_92 rfl (lv_at hl 0 rfl) ?_
    refine va_get (D := (dC, dI)) (ci := 3) (v := .int ti) (C := RX3) (T := TX3) (N := 11) hx hb hts (k_X3_told_in3) hown hK hP 0 rfl rfl 5 (by decide) (hts _ k_X3_told_f37) (fun _ h9 => h9) rfl dX3_told_93 ?_
    refine ck_iq hx hb hr hlocks dX3_told_96 ?_
    exact rfl
set_option maxHeartbeats 4000000 in
set_option maxRecDepth 100000 in
theorem t_X3_rooms (l : Launch) (dC : Nat → ClassId) (dI : Nat → Nat → Nat) (cI cJ cZ : ClassId) (lo sz : Nat) (o sp h cn : Nat) (zs rq ti ct gv bh bc un : Int32) (zs1 rq1 : Int32) (hst : l.stackTraces = false) (hbad : ¬ ((0 ≤ zs1 ∧ zs1 ≤ 32) ∧ (1 ≤ rq1 ∧ rq1 ≤ 16))) : vx_Met l yX3_rooms wsX3_rooms ({ frames := 7, cells := 1, slots := 6, locals := 120 } : Room) (va_Pc [.ref o, .int zs1, .int rq1] (ck_P (dC, dI) [(cI, .int), (cJ, .long), (cZ, .boolean)] lo sz [(o, .inr (3, [.ref sp, .ref h, .ref cn, .int zs, .int rq, .int ti, .int ct, .int gv, .int bh, .int bc, .int un]))])) ck_QF ck_XC 1 6 (fun _ => False) := by
  refine vx_ofW (cc := cX3_rooms) (maxL := 3) (ret := none) (by decide) rfl ?_
  intro p e s m args below meth c s₁ B hml hne hv
  obtain ⟨rfl, hsz, hP, hK, hD0, hE⟩ := hv
  have hx := B.exec
  have hb := B.bytes
  have hr := B.returns
  have hts := atoms_spec (ws := wsX3_rooms) B.pre
  have hown : s.vm.findClass RX3 = some m.cls := findClass_of_methodNamed B.named
  have hlocks := B.notSynchronized
  subst hsz
  have hD := hD0.self (sz := s.heap.size)
  have hlo := ck_lo (sz := s.heap.size) hD0 hE.1
  generalize hAe : va_A [(o, .inr (3, [.ref sp, .ref h, .ref cn, .int zs, .int rq, .int ti, .int ct, .int gv, .int bh, .int bc, .int un]))] s.heap.size = A at hD hlo
  have hA : ∀ q : Nat, s.heap.size ≤ q → A q := fun q h => by rw [← hAe]; exact Or.inr h
  have hG : ck_G (dC, dI) [(cI, .int), (cJ, .long), (cZ, .boolean)] lo A s := ⟨hK, hE, hA, hlo⟩
  have hS : va_S A s.heap s.heap [] := va_S.rf
  have hP : va_P (dC, dI) vwCl [(o, .inr (3, [.ref sp, .ref h, .ref cn, .int zs, .int rq, .int ti, .int ct, .int gv, .int bh, .int bc, .int un]))] s.heap := hP
  have hl := lv_entry ([.ref o, .int zs1, .int rq1]) (n := 3) (Nat.le_of_ble_eq_true rfl)
  rw [lg_entry_eq]
  generalize (lg_sl ([.ref o, .int zs1, .int rq1]) ++ List.replicate (3 - (lg_sl ([.ref o, .int zs1, .int rq1])).length) Slot.unset).toArray = ls at hl ⊢
  have hl : lv_has ls 3 [(0, .ref o), (1, .int zs1), (2, .int rq1)] := hl
  refine lv_iload_n hx hb dX3_rooms_0 rfl (lv_at hl 1 rfl) ?_
  refine lv_iconst (v := 0) hx hb dX3_rooms_1 (by decide) ?_
  refine lv_bipush (v := 32) hx hb dX3_rooms_2 (by decide) ?_
  by_cases hq_4 : 0 ≤ zs1 ∧ zs1 ≤ 32
  · skip
    refine ck_rv (va_runS (As := [.int zs1, .int 0, .int 32]) (rest := []) ⟨hx, hb, hml, hown, hts⟩ (c_X3_requireWithin l dC dI cI cJ cZ lo _ zs1 0 32 (hq_4.1) (hq_4.2)) (va_cwS 3 hts gX3_rooms_X3_requireWithin rfl rfl rfl (by decide +kernel) ⟨(Nat.le_of_ble_eq_true rfl), (Nat.le_of_ble_eq_true rfl)⟩) ⟨ck_blind, (ck_pre hG hP hD hS [] rfl (by decide) _)⟩ rfl rfl hl.1 rfl (lv_room (Nat.le_of_ble_eq_true rfl)) dX3_rooms_4 ⟨(Nat.le_of_ble_eq_true rfl), (Nat.le_of_ble_eq_true rfl)⟩) (fun hw_1 => ?_)
    refine lv_iload_n hx hb dX3_rooms_7 rfl (lv_at hl 2 rfl) ?_
    refine lv_iconst (v := 1) hx hb dX3_rooms_8 (by decide) ?_
    refine lv_bipush (v := 16) hx hb dX3_rooms_9 (by decide) ?_
    by_cases hq_11 : 1 ≤ rq1 ∧ rq1 ≤ 16
    · skip
      exact absurd ⟨hq_4, hq_11⟩ hbad
    · skip
      refine ck_thr (vx_runS (As := [.int rq1, .int 1, .int 16]) (rest := []) ⟨hx, hb, hml, hown, hts⟩ (t_X3_requireWithin l dC dI cI cJ cZ lo _ rq1 1 16 hst hq_11) (va_cwS 3 hts gX3_rooms_X3_requireWithin rfl rfl rfl (by decide +kernel) ⟨(Nat.le_of_ble_eq_true rfl), (Nat.le_of_ble_eq_true rfl)⟩) ⟨ck_blind, (ck_pre hG hP hD hS [] rfl (by decide) _)⟩ rfl rfl hl.1 rfl (lv_room (Nat.le_of_ble_eq_true rfl)) dX3_rooms_11 ⟨(Nat.le_of_ble_eq_true rfl), (Nat.le_of_ble_eq_true rfl)⟩) (fun ce q9 H1 hz hk hce hcv hcl => ?_)
      exact ck_out hne hlocks hz hk hce hcv hcl
  · skip
    refine ck_thr (vx_runS (As := [.int zs1, .int 0, .int 32]) (rest := []) ⟨hx, hb, hml, hown, hts⟩ (t_X3_requireWithin l dC dI cI cJ cZ lo _ zs1 0 32 hst hq_4) (va_cwS 3 hts gX3_rooms_X3_requireWithin rfl rfl rfl (by decide +kernel) ⟨(Nat.le_of_ble_eq_true rfl), (Nat.le_of_ble_eq_true rfl)⟩) ⟨ck_blind, (ck_pre hG hP hD hS [] rfl (by decide) _)⟩ rfl rfl hl.1 rfl (lv_room (Nat.le_of_ble_eq_true rfl)) dX3_rooms_4 ⟨(Nat.le_of_ble_eq_true rfl), (Nat.le_of_ble_eq_true rfl)⟩) (fun ce q9 H1 hz hk hce hcv hcl => ?_)
    exact ck_out hne hlocks hz hk hce hcv hcl
set_option maxHeartbeats 4000000 in
set_option maxRecDepth 100000 in
theorem t_X3_pass (l : Launch) (dC : Nat → ClassId) (dI : Nat → Nat → Nat) (cI cJ cZ : ClassId) (lo sz : Nat) (o sp h cn : Nat) (zs rq ti ct gv bh bc un : Int32) (se : Int32) (hst : l.stackTraces = false) (hbad : ¬ (0 ≤ se ∧ se ≤ 10000)) : vx_Met l yX3_pass wsX3_pass ({ frames := 7, cells := 1, slots := 6, locals := 120 } : Room) (va_Pc [.ref o, .int se] (ck_P (dC, dI) [(cI, .int), (cJ, .long), (cZ, .boolean)] lo sz [(o, .inr (3, [.ref sp, .ref h, .ref cn, .int zs, .int rq, .int ti, .int ct, .int gv, .int bh, .int bc, .int un]))])) ck_QF ck_XC 1 6 (fun _ => False) := by
  refine vx_ofW (cc := cX3_pass) (maxL := 2) (ret := (some .int)) (by decide) rfl ?_
  intro p e s m args below meth c s₁ B hml hne hv
  obtain ⟨rfl, hsz, hP, hK, hD0, hE⟩ := hv
  have hx := B.exec
  have hb := B.bytes
  have hr := B.returns
  have hts := atoms_spec (ws := wsX3_pass) B.pre
  have hown : s.vm.findClass RX3 = some m.cls := findClass_of_methodNamed B.named
  have hlocks := B.notSynchronized
  subst hsz
  have hD := hD0.self (sz := s.heap.size)
  have hlo := ck_lo (sz := s.heap.size) hD0 hE.1
  generalize hAe : va_A [(o, .inr (3, [.ref sp, .ref h, .ref cn, .int zs, .int rq, .int ti, .int ct, .int gv, .int bh, .int bc, .int un]))] s.heap.size = A at hD hlo
  have hA : ∀ q : Nat, s.heap.size ≤ q → A q := fun q h => by rw [← hAe]; exact Or.inr h
  have hG : ck_G (dC, dI) [(cI, .int), (cJ, .long), (cZ, .boolean)] lo A s := ⟨hK, hE, hA, hlo⟩
  have hS : va_S A s.heap s.heap [] := va_S.rf
  have hP : va_P (dC, dI) vwCl [(o, .inr (3, [.ref sp, .ref h, .ref cn, .int zs, .int rq, .int ti, .int ct, .int gv, .int bh, .int bc, .int un]))] s.heap := hP
  have hl := lv_entry ([.ref o, .int se]) (n := 2) (Nat.le_of_ble_eq_true rfl)
  rw [lg_entry_eq]
  generalize (lg_sl ([.ref o, .int se]) ++ List.replicate (2 - (lg_sl ([.ref o, .int se])).length) Slot.unset).toArray = ls at hl ⊢
  have hl : lv_has ls 2 [(0, .ref o), (1, .int se)] := hl
  refine lv_iload_n hx hb dX3_pass_0 rfl (lv_at hl 1 rfl) ?_
  refine lv_iconst (v := 0) hx hb dX3_pass_1 (by decide) ?_
  refine lv_sipush (v := 10000) hx hb dX3_pass_2 (by decide) ?_
  by_cases hq_5 : 0 ≤ se ∧ se ≤ 10000
  · skip
    exact absurd hq_5 hbad
  · skip
    refine ck_thr (vx_runS (As := [.int se, .int 0, .int 10000]) (rest := []) ⟨hx, hb, hml, hown, hts⟩ (t_X3_requireWithin l dC dI cI cJ cZ lo _ se 0 10000 hst hq_5) (va_cwS 3 hts gX3_pass_X3_requireWithin rfl rfl rfl (by decide +kernel) ⟨(Nat.le_of_ble_eq_true rfl), (Nat.le_of_ble_eq_true rfl)⟩) ⟨ck_blind, (ck_pre hG hP hD hS [] rfl (by decide) _)⟩ rfl rfl hl.1 rfl (lv_room (Nat.le_of_ble_eq_true rfl)) dX3_pass_5 ⟨(Nat.le_of_ble_eq_true rfl), (Nat.le_of_ble_eq_true rfl)⟩) (fun ce q9 H1 hz hk hce hcv hcl => ?_)
    exact ck_out hne hlocks hz hk hce hcv hcl
set_option maxHeartbeats 4000000 in
set_option maxRecDepth 100000 in
theorem t_X3_syn (l : Launch) (dC : Nat → ClassId) (dI : Nat → Nat → Nat) (cI cJ cZ : ClassId) (lo sz : Nat) (o sp h cn : Nat) (zs rq ti ct gv bh bc un : Int32) (aa bb num z : Int32) (hst : l.stackTraces = false) (hbad : ¬ ((0 ≤ bb ∧ bb ≤ 65535) ∧ (0 ≤ z ∧ z ≤ 65535))) : vx_Met l yX3_syn wsX3_syn ({ frames := 7, cells := 1, slots := 6, locals := 120 } : Room) (va_Pc [.ref o, .int aa, .int bb, .int num, .int z] (ck_P (dC, dI) [(cI, .int), (cJ, .long), (cZ, .boolean)] lo sz [(o, .inr (3, [.ref sp, .ref h, .ref cn, .int zs, .int rq, .int ti, .int ct, .int gv, .int bh, .int bc, .int un]))])) ck_QF ck_XC 1 6 (fun _ => False) := by
  refine vx_ofW (cc := cX3_syn) (maxL := 8) (ret := (some .long)) (by decide) rfl ?_
  intro p e s m args below meth c s₁ B hml hne hv
  obtain ⟨rfl, hsz, hP, hK, hD0, hE⟩ := hv
  have hx := B.exec
  have hb := B.bytes
  have hr := B.returns
  have hts := atoms_spec (ws := wsX3_syn) B.pre
  have hown : s.vm.findClass RX3 = some m.cls := findClass_of_methodNamed B.named
  have hlocks := B.notSynchronized
  subst hsz
  have hD := hD0.self (sz := s.heap.size)
  have hlo := ck_lo (sz := s.heap.size) hD0 hE.1
  generalize hAe : va_A [(o, .inr (3, [.ref sp, .ref h, .ref cn, .int zs, .int rq, .int ti, .int ct, .int gv, .int bh, .int bc, .int un]))] s.heap.size = A at hD hlo
  have hA : ∀ q : Nat, s.heap.size ≤ q → A q := fun q h => by rw [← hAe]; exact Or.inr h
  have hG : ck_G (dC, dI) [(cI, .int), (cJ, .long), (cZ, .boolean)] lo A s := ⟨hK, hE, hA, hlo⟩
  have hS : va_S A s.heap s.heap [] := va_S.rf
  have hP : va_P (dC, dI) vwCl [(o, .inr (3, [.ref sp, .ref h, .ref cn, .int zs, .int rq, .int ti, .int ct, .int gv, .int bh, .int bc, .int un]))] s.heap := hP
  have hl := lv_entry ([.ref o, .int aa, .int bb, .int num, .int z]) (n := 8) (Nat.le_of_ble_eq_true rfl)
  rw [lg_entry_eq]
  generalize (lg_sl ([.ref o, .int aa, .int bb, .int num, .int z]) ++ List.replicate (8 - (lg_sl ([.ref o, .int aa, .int bb, .int num, .int z])).length) Slot.unset).toArray = ls at hl ⊢
  have hl : lv_has ls 8 [(0, .ref o), (1, .int aa), (2, .int bb), (3, .int num), (4, .int z)] := hl
  refine lv_iload_n hx hb dX3_syn_0 rfl (lv_at hl 2 rfl) ?_
  refine lv_iconst (v := 0) hx hb dX3_syn_1 (by decide) ?_
  refine lv_ldc hx hb hown (hts _ k_X3_syn_c67) dX3_syn_2 ?_
  by_cases hq_4 : 0 ≤ bb ∧ bb ≤ 65535
  · skip
    refine ck_rv (va_runS (As := [.int bb, .int 0, .int 65535]) (rest := []) ⟨hx, hb, hml, hown, hts⟩ (c_X3_requireWithin l dC dI cI cJ cZ lo _ bb 0 65535 (hq_4.1) (hq_4.2)) (va_cwS 3 hts gX3_syn_X3_requireWithin rfl rfl rfl (by decide +kernel) ⟨(Nat.le_of_ble_eq_true rfl), (Nat.le_of_ble_eq_true rfl)⟩) ⟨ck_blind, (ck_pre hG hP hD hS [] rfl (by decide) _)⟩ rfl rfl hl.1 rfl (lv_room (Nat.le_of_ble_eq_true rfl)) dX3_syn_4 ⟨(Nat.le_of_ble_eq_true rfl), (Nat.le_of_ble_eq_true rfl)⟩) (fun hw_1 => ?_)
    refine lv_iload hx hb dX3_syn_7 (lv_at hl 4 rfl) ?_
    refine lv_iconst (v := 0) hx hb dX3_syn_9 (by decide) ?_
    refine lv_ldc hx hb hown (hts _ k_X3_syn_c67) dX3_syn_10 ?_
    by_cases hq_12 : 0 ≤ z ∧ z ≤ 65535
    · skip
      exact absurd ⟨hq_4, hq_12⟩ hbad
    · skip
      refine ck_thr (vx_runS (As := [.int z, .int 0, .int 65535]) (rest := []) ⟨hx, hb, hml, hown, hts⟩ (t_X3_requireWithin l dC dI cI cJ cZ lo _ z 0 65535 hst hq_12) (va_cwS 3 hts gX3_syn_X3_requireWithin rfl rfl rfl (by decide +kernel) ⟨(Nat.le_of_ble_eq_true rfl), (Nat.le_of_ble_eq_true rfl)⟩) ⟨ck_blind, (ck_pre hG hP hD hS [] rfl (by decide) _)⟩ rfl rfl hl.1 rfl (lv_room (Nat.le_of_ble_eq_true rfl)) dX3_syn_12 ⟨(Nat.le_of_ble_eq_true rfl), (Nat.le_of_ble_eq_true rfl)⟩) (fun ce q9 H1 hz hk hce hcv hcl => ?_)
      exact ck_out hne hlocks hz hk hce hcv hcl
  · skip
    refine ck_thr (vx_runS (As := [.int bb, .int 0, .int 65535]) (rest := []) ⟨hx, hb, hml, hown, hts⟩ (t_X3_requireWithin l dC dI cI cJ cZ lo _ bb 0 65535 hst hq_4) (va_cwS 3 hts gX3_syn_X3_requireWithin rfl rfl rfl (by decide +kernel) ⟨(Nat.le_of_ble_eq_true rfl), (Nat.le_of_ble_eq_true rfl)⟩) ⟨ck_blind, (ck_pre hG hP hD hS [] rfl (by decide) _)⟩ rfl rfl hl.1 rfl (lv_room (Nat.le_of_ble_eq_true rfl)) dX3_syn_4 ⟨(Nat.le_of_ble_eq_true rfl), (Nat.le_of_ble_eq_true rfl)⟩) (fun ce q9 H1 hz hk hce hcv hcl => ?_)
    exact ck_out hne hlocks hz hk hce hcv hcl
set_option maxHeartbeats 4000000 in
set_option maxRecDepth 100000 in
theorem t_X3_ack (l : Launch) (dC : Nat → ClassId) (dI : Nat → Nat → Nat) (cI cJ cZ : ClassId) (lo sz : Nat) (o sp h cn : Nat) (zs rq ti ct gv bh bc un : Int32) (aa bb na nb : Int32) (hst : l.stackTraces = false) (hbad : ¬ (0 ≤ bb ∧ bb ≤ 65535)) : vx_Met l yX3_ack wsX3_ack ({ frames := 7, cells := 1, slots := 6, locals := 120 } : Room) (va_Pc [.ref o, .int aa, .int bb, .int na, .int nb] (ck_P (dC, dI) [(cI, .int), (cJ, .long), (cZ, .boolean)] lo sz [(o, .inr (3, [.ref sp, .ref h, .ref cn, .int zs, .int rq, .int ti, .int ct, .int gv, .int bh, .int bc, .int un]))])) ck_QF ck_XC 1 6 (fun _ => False) := by
  refine vx_ofW (cc := cX3_ack) (maxL := 9) (ret := (some .int)) (by decide) rfl ?_
  intro p e s m args below meth c s₁ B hml hne hv
  obtain ⟨rfl, hsz, hP, hK, hD0, hE⟩ := hv
  have hx := B.exec
  have hb := B.bytes
  have hr := B.returns
  have hts := atoms_spec (ws := wsX3_ack) B.pre
  have hown : s.vm.findClass RX3 = some m.cls := findClass_of_methodNamed B.named
  have hlocks := B.notSynchronized
  subst hsz
  have hD := hD0.self (sz := s.heap.size)
  have hlo := ck_lo (sz := s.heap.size) hD0 hE.1
  generalize hAe : va_A [(o, .inr (3, [.ref sp, .ref h, .ref cn, .int zs, .int rq, .int ti, .int ct, .int gv, .int bh, .int bc, .int un]))] s.heap.size = A at hD hlo
  have hA : ∀ q : Nat, s.heap.size ≤ q → A q := fun q h => by rw [← hAe]; exact Or.inr h
  have hG : ck_G (dC, dI) [(cI, .int), (cJ, .long), (cZ, .boolean)] lo A s := ⟨hK, hE, hA, hlo⟩
  have hS : va_S A s.heap s.heap [] := va_S.rf
  have hP : va_P (dC, dI) vwCl [(o, .inr (3, [.ref sp, .ref h, .ref cn, .int zs, .int rq, .int ti, .int ct, .int gv, .int bh, .int bc, .int un]))] s.heap := hP
  have hl := lv_entry ([.ref o, .int aa, .int bb, .int na, .int nb]) (n := 9) (Nat.le_of_ble_eq_true rfl)
  rw [lg_entry_eq]
  generalize (lg_sl ([.ref o, .int aa, .int bb, .int na, .int nb]) ++ List.replicate (9 - (lg_sl ([.ref o, .int aa, .int bb, .int na, .int nb])).length) Slot.unset).toArray = ls at hl ⊢
  have hl : lv_has ls 9 [(0, .ref o), (1, .int aa), (2, .int bb), (3, .int na), (4, .int nb)] := hl
  refine lv_iload_n hx hb dX3_ack_0 rfl (lv_at hl 2 rfl) ?_
  refine lv_iconst (v := 0) hx hb dX3_ack_1 (by decide) ?_
  refine lv_ldc hx hb hown (hts _ k_X3_ack_c67) dX3_ack_2 ?_
  by_cases hq_4 : 0 ≤ bb ∧ bb ≤ 65535
  · skip
    exact absurd hq_4 hbad
  · skip
    refine ck_thr (vx_runS (As := [.int bb, .int 0, .int 65535]) (rest := []) ⟨hx, hb, hml, hown, hts⟩ (t_X3_requireWithin l dC dI cI cJ cZ lo _ bb 0 65535 hst hq_4) (va_cwS 3 hts gX3_ack_X3_requireWithin rfl rfl rfl (by decide +kernel) ⟨(Nat.le_of_ble_eq_true rfl), (Nat.le_of_ble_eq_true rfl)⟩) ⟨ck_blind, (ck_pre hG hP hD hS [] rfl (by decide) _)⟩ rfl rfl hl.1 rfl (lv_room (Nat.le_of_ble_eq_true rfl)) dX3_ack_4 ⟨(Nat.le_of_ble_eq_true rfl), (Nat.le_of_ble_eq_true rfl)⟩) (fun ce q9 H1 hz hk hce hcv hcl => ?_)
    exact ck_out hne hlocks hz hk hce hcv hcl
set_option maxHeartbeats 4000000 in
set_option maxRecDepth 100000 in
theorem t_X3_close (l : Launch) (dC : Nat → ClassId) (dI : Nat → Nat → Nat) (cI cJ cZ : ClassId) (lo sz : Nat) (o sp h cn : Nat) (zs rq ti ct gv bh bc un : Int32) (aa bb : Int32) (hst : l.stackTraces = false) (hbad : ¬ (0 ≤ bb ∧ bb ≤ 65535)) : vx_Met l yX3_close wsX3_close ({ frames := 7, cells := 1, slots := 6, locals := 120 } : Room) (va_Pc [.ref o, .int aa, .int bb] (ck_P (dC, dI) [(cI, .int), (cJ, .long), (cZ, .boolean)] lo sz [(o, .inr (3, [.ref sp, .ref h, .ref cn, .int zs, .int rq, .int ti, .int ct, .int gv, .int bh, .int bc, .int un]))])) ck_QF ck_XC 1 6 (fun _ => False) := by
  refine vx_ofW (cc := cX3_close) (maxL := 6) (ret := (some .int)) (by decide) rfl ?_
  intro p e s m args below meth c s₁ B hml hne hv
  obtain ⟨rfl, hsz, hP, hK, hD0, hE⟩ := hv
  have hx := B.exec
  have hb := B.bytes
  have hr := B.returns
  have hts := atoms_spec (ws := wsX3_close) B.pre
  have hown : s.vm.findClass RX3 = some m.cls := findClass_of_methodNamed B.named
  have hlocks := B.notSynchronized
  subst hsz
  have hD := hD0.self (sz := s.heap.size)
  have hlo := ck_lo (sz := s.heap.size) hD0 hE.1
  generalize hAe : va_A [(o, .inr (3, [.ref sp, .ref h, .ref cn, .int zs, .int rq, .int ti, .int ct, .int gv, .int bh, .int bc, .int un]))] s.heap.size = A at hD hlo
  have hA : ∀ q : Nat, s.heap.size ≤ q → A q := fun q h => by rw [← hAe]; exact Or.inr h
  have hG : ck_G (dC, dI) [(cI, .int), (cJ, .long), (cZ, .boolean)] lo A s := ⟨hK, hE, hA, hlo⟩
  have hS : va_S A s.heap s.heap [] := va_S.rf
  have hP : va_P (dC, dI) vwCl [(o, .inr (3, [.ref sp, .ref h, .ref cn, .int zs, .int rq, .int ti, .int ct, .int gv, .int bh, .int bc, .int un]))] s.heap := hP
  have hl := lv_entry ([.ref o, .int aa, .int bb]) (n := 6) (Nat.le_of_ble_eq_true rfl)
  rw [lg_entry_eq]
  generalize (lg_sl ([.ref o, .int aa, .int bb]) ++ List.replicate (6 - (lg_sl ([.ref o, .int aa, .int bb])).length) Slot.unset).toArray = ls at hl ⊢
  have hl : lv_has ls 6 [(0, .ref o), (1, .int aa), (2, .int bb)] := hl
  refine lv_iload_n hx hb dX3_close_0 rfl (lv_at hl 2 rfl) ?_
  refine lv_iconst (v := 0) hx hb dX3_close_1 (by decide) ?_
  refine lv_ldc hx hb hown (hts _ k_X3_close_c67) dX3_close_2 ?_
  by_cases hq_4 : 0 ≤ bb ∧ bb ≤ 65535
  · skip
    exact absurd hq_4 hbad
  · skip
    refine ck_thr (vx_runS (As := [.int bb, .int 0, .int 65535]) (rest := []) ⟨hx, hb, hml, hown, hts⟩ (t_X3_requireWithin l dC dI cI cJ cZ lo _ bb 0 65535 hst hq_4) (va_cwS 3 hts gX3_close_X3_requireWithin rfl rfl rfl (by decide +kernel) ⟨(Nat.le_of_ble_eq_true rfl), (Nat.le_of_ble_eq_true rfl)⟩) ⟨ck_blind, (ck_pre hG hP hD hS [] rfl (by decide) _)⟩ rfl rfl hl.1 rfl (lv_room (Nat.le_of_ble_eq_true rfl)) dX3_close_4 ⟨(Nat.le_of_ble_eq_true rfl), (Nat.le_of_ble_eq_true rfl)⟩) (fun ce q9 H1 hz hk hce hcv hcl => ?_)
    exact ck_out hne hlocks hz hk hce hcv hcl
set_option maxHeartbeats 4000000 in
set_option maxRecDepth 100000 in
theorem t_X3_state (l : Launch) (dC : Nat → ClassId) (dI : Nat → Nat → Nat) (cI cJ cZ : ClassId) (lo sz : Nat) (o sp h cn : Nat) (zs rq ti ct gv bh bc un : Int32) (aa bb : Int32) (hst : l.stackTraces = false) (hbad : ¬ (0 ≤ bb ∧ bb ≤ 65535)) : vx_Met l yX3_state wsX3_state ({ frames := 7, cells := 1, slots := 6, locals := 120 } : Room) (va_Pc [.ref o, .int aa, .int bb] (ck_P (dC, dI) [(cI, .int), (cJ, .long), (cZ, .boolean)] lo sz [(o, .inr (3, [.ref sp, .ref h, .ref cn, .int zs, .int rq, .int ti, .int ct, .int gv, .int bh, .int bc, .int un]))])) ck_QF ck_XC 1 6 (fun _ => False) := by
  refine vx_ofW (cc := cX3_state) (maxL := 3) (ret := (some .int)) (by decide) rfl ?_
  intro p e s m args below meth c s₁ B hml hne hv
  obtain ⟨rfl, hsz, hP, hK, hD0, hE⟩ := hv
  have hx := B.exec
  have hb := B.bytes
  have hr := B.returns
  have hts := atoms_spec (ws := wsX3_state) B.pre
  have hown : s.vm.findClass RX3 = some m.cls := findClass_of_methodNamed B.named
  have hlocks := B.notSynchronized
  subst hsz
  have hD := hD0.self (sz := s.heap.size)
  have hlo := ck_lo (sz := s.heap.size) hD0 hE.1
  generalize hAe : va_A [(o, .inr (3, [.ref sp, .ref h, .ref cn, .int zs, .int rq, .int ti, .int ct, .int gv, .int bh, .int bc, .int un]))] s.heap.size = A at hD hlo
  have hA : ∀ q : Nat, s.heap.size ≤ q → A q := fun q h => by rw [← hAe]; exact Or.inr h
  have hG : ck_G (dC, dI) [(cI, .int), (cJ, .long), (cZ, .boolean)] lo A s := ⟨hK, hE, hA, hlo⟩
  have hS : va_S A s.heap s.heap [] := va_S.rf
  have hP : va_P (dC, dI) vwCl [(o, .inr (3, [.ref sp, .ref h, .ref cn, .int zs, .int rq, .int ti, .int ct, .int gv, .int bh, .int bc, .int un]))] s.heap := hP
  have hl := lv_entry ([.ref o, .int aa, .int bb]) (n := 3) (Nat.le_of_ble_eq_true rfl)
  rw [lg_entry_eq]
  generalize (lg_sl ([.ref o, .int aa, .int bb]) ++ List.replicate (3 - (lg_sl ([.ref o, .int aa, .int bb])).length) Slot.unset).toArray = ls at hl ⊢
  have hl : lv_has ls 3 [(0, .ref o), (1, .int aa), (2, .int bb)] := hl
  refine lv_iload_n hx hb dX3_state_0 rfl (lv_at hl 2 rfl) ?_
  refine lv_iconst (v := 0) hx hb dX3_state_1 (by decide) ?_
  refine lv_ldc hx hb hown (hts _ k_X3_state_c67) dX3_state_2 ?_
  by_cases hq_4 : 0 ≤ bb ∧ bb ≤ 65535
  · skip
    exact absurd hq_4 hbad
  · skip
    refine ck_thr (vx_runS (As := [.int bb, .int 0, .int 65535]) (rest := []) ⟨hx, hb, hml, hown, hts⟩ (t_X3_requireWithin l dC dI cI cJ cZ lo _ bb 0 65535 hst hq_4) (va_cwS 3 hts gX3_state_X3_requireWithin rfl rfl rfl (by decide +kernel) ⟨(Nat.le_of_ble_eq_true rfl), (Nat.le_of_ble_eq_true rfl)⟩) ⟨ck_blind, (ck_pre hG hP hD hS [] rfl (by decide) _)⟩ rfl rfl hl.1 rfl (lv_room (Nat.le_of_ble_eq_true rfl)) dX3_state_4 ⟨(Nat.le_of_ble_eq_true rfl), (Nat.le_of_ble_eq_true rfl)⟩) (fun ce q9 H1 hz hk hce hcv hcl => ?_)
    exact ck_out hne hlocks hz hk hce hcv hcl
set_option maxHeartbeats 4000000 in
set_option maxRecDepth 100000 in
theorem t_X3_cookie (l : Launch) (dC : Nat → ClassId) (dI : Nat → Nat → Nat) (cI cJ cZ : ClassId) (lo sz : Nat) (o sp h cn : Nat) (zs rq ti ct gv bh bc un : Int32) (aa bb num kd sl : Int32) (hst : l.stackTraces = false) (hbad : ¬ ((0 ≤ bb ∧ bb ≤ 65535) ∧ (0 ≤ kd ∧ kd ≤ 7) ∧ (0 ≤ sl ∧ sl ≤ 2147483647))) : vx_Met l yX3_cookie wsX3_cookie ({ frames := 7, cells := 1, slots := 6, locals := 120 } : Room) (va_Pc [.ref o, .int aa, .int bb, .int num, .int kd, .int sl] (ck_P (dC, dI) [(cI, .int), (cJ, .long), (cZ, .boolean)] lo sz [(o, .inr (3, [.ref sp, .ref h, .ref cn, .int zs, .int rq, .int ti, .int ct, .int gv, .int bh, .int bc, .int un]))])) ck_QF ck_XC 1 6 (fun _ => False) := by
  refine vx_ofW (cc := cX3_cookie) (maxL := 6) (ret := (some .long)) (by decide) rfl ?_
  intro p e s m args below meth c s₁ B hml hne hv
  obtain ⟨rfl, hsz, hP, hK, hD0, hE⟩ := hv
  have hx := B.exec
  have hb := B.bytes
  have hr := B.returns
  have hts := atoms_spec (ws := wsX3_cookie) B.pre
  have hown : s.vm.findClass RX3 = some m.cls := findClass_of_methodNamed B.named
  have hlocks := B.notSynchronized
  subst hsz
  have hD := hD0.self (sz := s.heap.size)
  have hlo := ck_lo (sz := s.heap.size) hD0 hE.1
  generalize hAe : va_A [(o, .inr (3, [.ref sp, .ref h, .ref cn, .int zs, .int rq, .int ti, .int ct, .int gv, .int bh, .int bc, .int un]))] s.heap.size = A at hD hlo
  have hA : ∀ q : Nat, s.heap.size ≤ q → A q := fun q h => by rw [← hAe]; exact Or.inr h
  have hG : ck_G (dC, dI) [(cI, .int), (cJ, .long), (cZ, .boolean)] lo A s := ⟨hK, hE, hA, hlo⟩
  have hS : va_S A s.heap s.heap [] := va_S.rf
  have hP : va_P (dC, dI) vwCl [(o, .inr (3, [.ref sp, .ref h, .ref cn, .int zs, .int rq, .int ti, .int ct, .int gv, .int bh, .int bc, .int un]))] s.heap := hP
  have hl := lv_entry ([.ref o, .int aa, .int bb, .int num, .int kd, .int sl]) (n := 6) (Nat.le_of_ble_eq_true rfl)
  rw [lg_entry_eq]
  generalize (lg_sl ([.ref o, .int aa, .int bb, .int num, .int kd, .int sl]) ++ List.replicate (6 - (lg_sl ([.ref o, .int aa, .int bb, .int num, .int kd, .int sl])).length) Slot.unset).toArray = ls at hl ⊢
  have hl : lv_has ls 6 [(0, .ref o), (1, .int aa), (2, .int bb), (3, .int num), (4, .int kd), (5, .int sl)] := hl
  refine lv_iload_n hx hb dX3_cookie_0 rfl (lv_at hl 2 rfl) ?_
  refine lv_iconst (v := 0) hx hb dX3_cookie_1 (by decide) ?_
  refine lv_ldc hx hb hown (hts _ k_X3_cookie_c67) dX3_cookie_2 ?_
  by_cases hq_4 : 0 ≤ bb ∧ bb ≤ 65535
  · skip
    refine ck_rv (va_runS (As := [.int bb, .int 0, .int 65535]) (rest := []) ⟨hx, hb, hml, hown, hts⟩ (c_X3_requireWithin l dC dI cI cJ cZ lo _ bb 0 65535 (hq_4.1) (hq_4.2)) (va_cwS 3 hts gX3_cookie_X3_requireWithin rfl rfl rfl (by decide +kernel) ⟨(Nat.le_of_ble_eq_true rfl), (Nat.le_of_ble_eq_true rfl)⟩) ⟨ck_blind, (ck_pre hG hP hD hS [] rfl (by decide) _)⟩ rfl rfl hl.1 rfl (lv_room (Nat.le_of_ble_eq_true rfl)) dX3_cookie_4 ⟨(Nat.le_of_ble_eq_true rfl), (Nat.le_of_ble_eq_true rfl)⟩) (fun hw_1 => ?_)
    refine lv_iload hx hb dX3_cookie_7 (lv_at hl 4 rfl) ?_
    refine lv_iconst (v := 0) hx hb dX3_cookie_9 (by decide) ?_
    refine lv_bipush (v := 7) hx hb dX3_cookie_10 (by decide) ?_
    by_cases hq_12 : 0 ≤ kd ∧ kd ≤ 7
    · skip
      refine ck_rv (va_runS (As := [.int kd, .int 0, .int 7]) (rest := []) ⟨hx, hb, hml, hown, hts⟩ (c_X3_requireWithin l dC dI cI cJ cZ lo _ kd 0 7 (hq_12.1) (hq_12.2)) (va_cwS 3 hts gX3_cookie_X3_requireWithin rfl rfl rfl (by decide +kernel) ⟨(Nat.le_of_ble_eq_true rfl), (Nat.le_of_ble_eq_true rfl)⟩) ⟨ck_blind, (ck_pre hG hP hD hS [] rfl (by decide) _)⟩ rfl rfl hl.1 rfl (lv_room (Nat.le_of_ble_eq_true rfl)) dX3_cookie_12 ⟨(Nat.le_of_ble_eq_true rfl), (Nat.le_of_ble_eq_true rfl)⟩) (fun hw_2 => ?_)
      refine lv_iload hx hb dX3_cookie_15 (lv_at hl 5 rfl) ?_
      refine lv_iconst (v := 0) hx hb dX3_cookie_17 (by decide) ?_
      refine lv_ldc hx hb hown (hts _ k_X3_cookie_c128) dX3_cookie_18 ?_
      by_cases hq_20 : 0 ≤ sl ∧ sl ≤ 2147483647
      · skip
        exact absurd ⟨hq_4, hq_12, hq_20⟩ hbad
      · skip
        refine ck_thr (vx_runS (As := [.int sl, .int 0, .int 2147483647]) (rest := []) ⟨hx, hb, hml, hown, hts⟩ (t_X3_requireWithin l dC dI cI cJ cZ lo _ sl 0 2147483647 hst hq_20) (va_cwS 3 hts gX3_cookie_X3_requireWithin rfl rfl rfl (by decide +kernel) ⟨(Nat.le_of_ble_eq_true rfl), (Nat.le_of_ble_eq_true rfl)⟩) ⟨ck_blind, (ck_pre hG hP hD hS [] rfl (by decide) _)⟩ rfl rfl hl.1 rfl (lv_room (Nat.le_of_ble_eq_true rfl)) dX3_cookie_20 ⟨(Nat.le_of_ble_eq_true rfl), (Nat.le_of_ble_eq_true rfl)⟩) (fun ce q9 H1 hz hk hce hcv hcl => ?_)
        exact ck_out hne hlocks hz hk hce hcv hcl
    · skip
      refine ck_thr (vx_runS (As := [.int kd, .int 0, .int 7]) (rest := []) ⟨hx, hb, hml, hown, hts⟩ (t_X3_requireWithin l dC dI cI cJ cZ lo _ kd 0 7 hst hq_12) (va_cwS 3 hts gX3_cookie_X3_requireWithin rfl rfl rfl (by decide +kernel) ⟨(Nat.le_of_ble_eq_true rfl), (Nat.le_of_ble_eq_true rfl)⟩) ⟨ck_blind, (ck_pre hG hP hD hS [] rfl (by decide) _)⟩ rfl rfl hl.1 rfl (lv_room (Nat.le_of_ble_eq_true rfl)) dX3_cookie_12 ⟨(Nat.le_of_ble_eq_true rfl), (Nat.le_of_ble_eq_true rfl)⟩) (fun ce q9 H1 hz hk hce hcv hcl => ?_)
      exact ck_out hne hlocks hz hk hce hcv hcl
  · skip
    refine ck_thr (vx_runS (As := [.int bb, .int 0, .int 65535]) (rest := []) ⟨hx, hb, hml, hown, hts⟩ (t_X3_requireWithin l dC dI cI cJ cZ lo _ bb 0 65535 hst hq_4) (va_cwS 3 hts gX3_cookie_X3_requireWithin rfl rfl rfl (by decide +kernel) ⟨(Nat.le_of_ble_eq_true rfl), (Nat.le_of_ble_eq_true rfl)⟩) ⟨ck_blind, (ck_pre hG hP hD hS [] rfl (by decide) _)⟩ rfl rfl hl.1 rfl (lv_room (Nat.le_of_ble_eq_true rfl)) dX3_cookie_4 ⟨(Nat.le_of_ble_eq_true rfl), (Nat.le_of_ble_eq_true rfl)⟩) (fun ce q9 H1 hz hk hce hcv hcl => ?_)
    exact ck_out hne hlocks hz hk hce hcv hcl
set_option maxRecDepth 20000 in
theorem k_X3_told_kIAE : (.classLink RX3 144 ck_IAE : Cond) ∈ wsX3_told := by decide +kernel
set_option maxRecDepth 20000 in
theorem k_X3_told_iIAE : (.initialized ck_IAE : Cond) ∈ wsX3_told := by decide +kernel
set_option maxHeartbeats 4000000 in
set_option maxRecDepth 100000 in
theorem t_X3_told (l : Launch) (dC : Nat → ClassId) (dI : Nat → Nat → Nat) (cI cJ cZ : ClassId) (lo sz : Nat) (o sp h cn : Nat) (zs rq ti ct gv bh bc un : Int32) (wh : Int32) (hst : l.stackTraces = false) (hbad : ¬ (0 ≤ wh ∧ wh ≤ 7)) : vx_Met l yX3_told wsX3_told ({ frames := 6, cells := 1, slots := 6, locals := 90 } : Room) (va_Pc [.ref o, .int wh] (ck_P (dC, dI) [(cI, .int), (cJ, .long), (cZ, .boolean)] lo sz [(o, .inr (3, [.ref sp, .ref h, .ref cn, .int zs, .int rq, .int ti, .int ct, .int gv, .int bh, .int bc, .int un]))])) ck_QF ck_XC 1 6 (fun _ => False) := by
  refine vx_ofW (cc := cX3_told) (maxL := 2) (ret := (some .int)) (by decide) rfl ?_
  intro p e s m args below meth c s₁ B hml hne hv
  obtain ⟨rfl, hsz, hP, hK, hD0, hE⟩ := hv
  have hx := B.exec
  have hb := B.bytes
  have hr := B.returns
  have hts := atoms_spec (ws := wsX3_told) B.pre
  have hown : s.vm.findClass RX3 = some m.cls := findClass_of_methodNamed B.named
  have hlocks := B.notSynchronized
  subst hsz
  have hD := hD0.self (sz := s.heap.size)
  have hlo := ck_lo (sz := s.heap.size) hD0 hE.1
  generalize hAe : va_A [(o, .inr (3, [.ref sp, .ref h, .ref cn, .int zs, .int rq, .int ti, .int ct, .int gv, .int bh, .int bc, .int un]))] s.heap.size = A at hD hlo
  have hA : ∀ q : Nat, s.heap.size ≤ q → A q := fun q h => by rw [← hAe]; exact Or.inr h
  have hG : ck_G (dC, dI) [(cI, .int), (cJ, .long), (cZ, .boolean)] lo A s := ⟨hK, hE, hA, hlo⟩
  have hS : va_S A s.heap s.heap [] := va_S.rf
  have hP : va_P (dC, dI) vwCl [(o, .inr (3, [.ref sp, .ref h, .ref cn, .int zs, .int rq, .int ti, .int ct, .int gv, .int bh, .int bc, .int un]))] s.heap := hP
  have hl := lv_entry ([.ref o, .int wh]) (n := 2) (Nat.le_of_ble_eq_true rfl)
  rw [lg_entry_eq]
  generalize (lg_sl ([.ref o, .int wh]) ++ List.replicate (2 - (lg_sl ([.ref o, .int wh])).length) Slot.unset).toArray = ls at hl ⊢
  have hl : lv_has ls 2 [(0, .ref o), (1, .int wh)] := hl
  refine lv_iload_n hx hb dX3_told_0 rfl (lv_at hl 1 rfl) ?_
  refine lv_tableOut (tgt := 97) hx hb dX3_told_1 ?_ (by decide) ?_
  · rw [Int32.le_iff_toInt_le, Int32.le_iff_toInt_le] at hbad
    have h0 : (0 : Int32).toInt = 0 := rfl
    have h7 : (7 : Int32).toInt = 7 := rfl
    omega
  obtain ⟨sa, hstr⟩ := hE.2.2.2.1
  exact ck_tn hst hx hb hown hE (hts _ k_X3_told_kIAE) (hts _ k_X3_told_iIAE) hstr (fun w9 h9 => hts w9 (List.mem_cons_of_mem _ (List.mem_append_right _ h9))) hne hlocks (by rw [hml]; exact hl.1) dX3_told_97 dX3_told_100 dX3_told_101 dX3_told_103 dX3_told_106 (Nat.le_of_ble_eq_true rfl) (Nat.le_of_ble_eq_true rfl) (Nat.le_of_ble_eq_true rfl) (Nat.le_of_ble_eq_true rfl)
