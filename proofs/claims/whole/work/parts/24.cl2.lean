set_option maxRecDepth 20000 in
theorem k_X3_answerNewSyn_f19 : (.fieldLink RX3 19 "CookieListener" "halves" "LCookieListener$Halves;" : Cond) ∈ wsX3_answerNewSyn := by decide +kernel
set_option maxRecDepth 20000 in
theorem k_X3_answerNewSyn_in3 : ∀ w ∈ u_ws RX3 TX3 11, w ∈ wsX3_answerNewSyn := by decide +kernel
set_option maxRecDepth 20000 in
theorem k_X3_answerNewSyn_in1 : ∀ w ∈ u_ws RX1 TX1 6, w ∈ wsX3_answerNewSyn := by decide +kernel
set_option maxRecDepth 20000 in
theorem k_X3_answerNewSyn_f30 : (.fieldLink RX3 30 "CookieListener" "sizeOfHalves" "I" : Cond) ∈ wsX3_answerNewSyn := by decide +kernel
set_option maxRecDepth 20000 in
theorem k_X3_answerNewSyn_c164 : (.constant RX3 164 (-16777216) : Cond) ∈ wsX3_answerNewSyn := by decide +kernel
set_option maxRecDepth 20000 in
theorem k_X3_answerNewSyn_f37 : (.fieldLink RX3 37 "CookieListener" "time" "I" : Cond) ∈ wsX3_answerNewSyn := by decide +kernel
set_option maxRecDepth 20000 in
theorem k_X3_answerNewSyn_f43 : (.fieldLink RX3 43 "CookieListener" "cookiesGiven" "I" : Cond) ∈ wsX3_answerNewSyn := by decide +kernel
set_option maxRecDepth 20000 in
theorem k_X3_answerNewSyn_f40 : (.fieldLink RX3 40 "CookieListener" "cookiesTime" "I" : Cond) ∈ wsX3_answerNewSyn := by decide +kernel
set_option maxHeartbeats 4000000 in
set_option maxRecDepth 100000 in
theorem c_X3_answerNewSyn (l : Launch) (dC : Nat → ClassId) (dI : Nat → Nat → Nat) (cI cJ cZ : ClassId) (lo sz : Nat) (o sp h cn : Nat) (zs rq ti ct gv bh bc un : Int32) (k l0 v0 v1 v2 v3 : Int64) (a1 a2 a3 a4 a5 : Nat) (n : Nat) (f1 : Nat → Int64) (f2 f3 f4 f5 : Nat → Int32) (x : Int64) (num kd : Int32) (hn : n ≤ 32) (hz : zs ≤ 32) : Met l yX3_answerNewSyn wsX3_answerNewSyn ({ frames := 5, cells := 0, slots := 0, locals := 120 } : Room) (va_Pc [.ref o, .long x, .int num, .int kd] (ck_P (dC, dI) [(cI, .int), (cJ, .long), (cZ, .boolean)] lo sz [(o, .inr (3, [.ref sp, .ref h, .ref cn, .int zs, .int rq, .int ti, .int ct, .int gv, .int bh, .int bc, .int un])), (sp, .inr (2, [.long k, .long l0, .long v0, .long v1, .long v2, .long v3])), (h, .inr (1, [.ref a1, .ref a2, .ref a3, .ref a4, .ref a5, .int (nI n)])), (a1, .inl (cJ, 32, .inr (.inl f1))), (a2, .inl (cI, 32, .inl f2)), (a3, .inl (cI, 32, .inl f3)), (a4, .inl (cI, 32, .inl f4)), (a5, .inl (cI, 32, .inl f5))])) (va_Qi (fun (r : Int32) (u : Int32 × Int32 × Nat × (Nat → Int64) × (Nat → Int32) × (Nat → Int32) × (Nat → Int32) × (Nat → Int32) × Int64 × Int64 × Int64 × Int64) => (¬ nI n < zs ∧ r = ck_ckk k l0 x num kd (ti / 64) ∧ u.2.1 = gv + 1 ∧ u.1 = ti ∧ u.2.2.1 = n ∧ u.2.2.2.1 = f1 ∧ u.2.2.2.2.1 = f2 ∧ u.2.2.2.2.2.1 = f3 ∧ u.2.2.2.2.2.2.1 = f4 ∧ u.2.2.2.2.2.2.2.1 = f5) ∨ (nI n < zs ∧ r = ck_ckk k l0 x num kd (ti / 64) ^^^ (-16777216) ∧ u.2.1 = gv ∧ u.1 = ct ∧ u.2.2.1 = n + 1 ∧ u.2.2.2.1 = vp_updL f1 n x ∧ u.2.2.2.2.1 = upd f2 n num ∧ u.2.2.2.2.2.1 = upd f3 n (ck_ckk k l0 x num kd (ti / 64) ^^^ (-16777216)) ∧ u.2.2.2.2.2.2.1 = upd f4 n kd ∧ u.2.2.2.2.2.2.2.1 = upd f5 n ti)) (fun u => ck_B (dC, dI) vwCl (va_A [(o, .inr (3, [.ref sp, .ref h, .ref cn, .int zs, .int rq, .int ti, .int ct, .int gv, .int bh, .int bc, .int un])), (sp, .inr (2, [.long k, .long l0, .long v0, .long v1, .long v2, .long v3])), (h, .inr (1, [.ref a1, .ref a2, .ref a3, .ref a4, .ref a5, .int (nI n)])), (a1, .inl (cJ, 32, .inr (.inl f1))), (a2, .inl (cI, 32, .inl f2)), (a3, .inl (cI, 32, .inl f3)), (a4, .inl (cI, 32, .inl f4)), (a5, .inl (cI, 32, .inl f5))] sz) ((fun u : Int32 × Int32 × Nat × (Nat → Int64) × (Nat → Int32) × (Nat → Int32) × (Nat → Int32) × (Nat → Int32) × Int64 × Int64 × Int64 × Int64 => ([(o, .inr (3, [.ref sp, .ref h, .ref cn, .int zs, .int rq, .int ti, .int u.1, .int u.2.1, .int bh, .int bc, .int un])), (sp, .inr (2, [.long k, .long l0, .long u.2.2.2.2.2.2.2.2.1, .long u.2.2.2.2.2.2.2.2.2.1, .long u.2.2.2.2.2.2.2.2.2.2.1, .long u.2.2.2.2.2.2.2.2.2.2.2])), (h, .inr (1, [.ref a1, .ref a2, .ref a3, .ref a4, .ref a5, .int (nI u.2.2.1)])), (a1, .inl (cJ, 32, .inr (.inl u.2.2.2.1))), (a2, .inl (cI, 32, .inl u.2.2.2.2.1)), (a3, .inl (cI, 32, .inl u.2.2.2.2.2.1)), (a4, .inl (cI, 32, .inl u.2.2.2.2.2.2.1)), (a5, .inl (cI, 32, .inl u.2.2.2.2.2.2.2.1))] : va_W)) u)) (va_A [(o, .inr (3, [.ref sp, .ref h, .ref cn, .int zs, .int rq, .int ti, .int ct, .int gv, .int bh, .int bc, .int un])), (sp, .inr (2, [.long k, .long l0, .long v0, .long v1, .long v2, .long v3])), (h, .inr (1, [.ref a1, .ref a2, .ref a3, .ref a4, .ref a5, .int (nI n)])), (a1, .inl (cJ, 32, .inr (.inl f1))), (a2, .inl (cI, 32, .inl f2)), (a3, .inl (cI, 32, .inl f3)), (a4, .inl (cI, 32, .inl f4)), (a5, .inl (cI, 32, .inl f5))] sz)) 0 0 (va_A [(o, .inr (3, [.ref sp, .ref h, .ref cn, .int zs, .int rq, .int ti, .int ct, .int gv, .int bh, .int bc, .int un])), (sp, .inr (2, [.long k, .long l0, .long v0, .long v1, .long v2, .long v3])), (h, .inr (1, [.ref a1, .ref a2, .ref a3, .ref a4, .ref a5, .int (nI n)])), (a1, .inl (cJ, 32, .inr (.inl f1))), (a2, .inl (cI, 32, .inl f2)), (a3, .inl (cI, 32, .inl f3)), (a4, .inl (cI, 32, .inl f4)), (a5, .inl (cI, 32, .inl f5))] sz) := by
  refine Met.ofW (cc := cX3_answerNewSyn) (maxL := 7) (ret := (some .int)) (by decide) rfl ?_
  intro p e s m args below meth c s₁ B hml hv
  obtain ⟨rfl, hsz, hP, hK, hD0, hE⟩ := hv
  have hx := B.exec
  have hb := B.bytes
  have hr := B.returns
  have hts := atoms_spec (ws := wsX3_answerNewSyn) B.pre
  have hown : s.vm.findClass RX3 = some m.cls := findClass_of_methodNamed B.named
  have hlocks := B.notSynchronized
  subst hsz
  have hD := hD0.self (sz := s.heap.size)
  have hlo := ck_lo (sz := s.heap.size) hD0 hE.1
  generalize hAe : va_A [(o, .inr (3, [.ref sp, .ref h, .ref cn, .int zs, .int rq, .int ti, .int ct, .int gv, .int bh, .int bc, .int un])), (sp, .inr (2, [.long k, .long l0, .long v0, .long v1, .long v2, .long v3])), (h, .inr (1, [.ref a1, .ref a2, .ref a3, .ref a4, .ref a5, .int (nI n)])), (a1, .inl (cJ, 32, .inr (.inl f1))), (a2, .inl (cI, 32, .inl f2)), (a3, .inl (cI, 32, .inl f3)), (a4, .inl (cI, 32, .inl f4)), (a5, .inl (cI, 32, .inl f5))] s.heap.size = A at hD hlo ⊢
  have hA : ∀ q : Nat, s.heap.size ≤ q → A q := fun q h => by rw [← hAe]; exact Or.inr h
  have hG : ck_G (dC, dI) [(cI, .int), (cJ, .long), (cZ, .boolean)] lo A s := ⟨hK, hE, hA, hlo⟩
  have hS : va_S A s.heap s.heap [] := va_S.rf
  have hP : va_P (dC, dI) vwCl [(o, .inr (3, [.ref sp, .ref h, .ref cn, .int zs, .int rq, .int ti, .int ct, .int gv, .int bh, .int bc, .int un])), (sp, .inr (2, [.long k, .long l0, .long v0, .long v1, .long v2, .long v3])), (h, .inr (1, [.ref a1, .ref a2, .ref a3, .ref a4, .ref a5, .int (nI n)])), (a1, .inl (cJ, 32, .inr (.inl f1))), (a2, .inl (cI, 32, .inl f2)), (a3, .inl (cI, 32, .inl f3)), (a4, .inl (cI, 32, .inl f4)), (a5, .inl (cI, 32, .inl f5))] s.heap := hP
  have hl := lv_entry ([.ref o, .long x, .int num, .int kd]) (n := 7) (Nat.le_of_ble_eq_true rfl)
  rw [lg_entry_eq]
  generalize (lg_sl ([.ref o, .long x, .int num, .int kd]) ++ List.replicate (7 - (lg_sl ([.ref o, .long x, .int num, .int kd])).length) Slot.unset).toArray = ls at hl ⊢
  have hl : lv_has ls 7 [(0, .ref o), (1, .long x), (3, .int num), (4, .int kd)] := hl
  refine lv_aload_n hx hb dX3_answerNewSyn_0 rfl (lv_at hl 0 rfl) ?_
  refine lv_lload_n hx hb dX3_answerNewSyn_1 rfl (lv_at hl 1 rfl) ?_
  refine lv_iload_n hx hb dX3_answerNewSyn_2 rfl (lv_at hl 2 rfl) ?_
  refine lv_iload hx hb dX3_answerNewSyn_3 (lv_at hl 3 rfl) ?_
  refine lv_aload_n hx hb dX3_answerNewSyn_5 rfl (lv_at hl 0 rfl) ?_
  refine ck_ri (va_runV (As := []) (rest := [.int kd, .int num, .long x, .ref o]) ⟨hx, hb, hml, hown, hts⟩ (c_X3_slotNow l dC dI cI cJ cZ lo _ o sp h cn zs rq ti ct gv bh bc un) (cwV 0 hts gX3_answerNewSyn_X3_slotNow rfl rfl rfl (by decide +kernel) ⟨(Nat.le_of_ble_eq_true rfl), (Nat.le_of_ble_eq_true rfl)⟩) ⟨ck_blind, va_recv hK hP (ci := 3) (q0 := 0) rfl rfl, (ck_pre hG hP hD hS [0] rfl (by decide) _)⟩ rfl rfl hl.1 rfl (lv_room (Nat.le_of_ble_eq_true rfl)) dX3_answerNewSyn_6 ⟨(Nat.le_of_ble_eq_true rfl), (Nat.le_of_ble_eq_true rfl)⟩) (fun r_1 hw_1 => ?_)
  have hw_1 : r_1 = ti / 64 := hw_1
  subst hw_1
  refine ck_ci (wr := [(h, .inr (1, [.ref a1, .ref a2, .ref a3, .ref a4, .ref a5, .int (nI n)])), (a1, .inl (cJ, 32, .inr (.inl f1))), (a2, .inl (cI, 32, .inl f2)), (a3, .inl (cI, 32, .inl f3)), (a4, .inl (cI, 32, .inl f4)), (a5, .inl (cI, 32, .inl f5))]) (va_runV (As := [.long x, .int num, .int kd, .int (ti / 64)]) (rest := []) ⟨hx, hb, hml, hown, hts⟩ (c_X3_cookieOf l dC dI cI cJ cZ lo _ o sp h cn zs rq ti ct gv bh bc un k l0 v0 v1 v2 v3 x num kd (ti / 64)) (cwV 4 hts gX3_answerNewSyn_X3_cookieOf rfl rfl rfl (by decide +kernel) ⟨(Nat.le_of_ble_eq_true rfl), (Nat.le_of_ble_eq_true rfl)⟩) ⟨ck_blind, va_recv hK hP (ci := 3) (q0 := 0) rfl rfl, (ck_pre hG hP hD hS [0, 1] rfl (by decide) _)⟩ rfl rfl hl.1 rfl (lv_room (Nat.le_of_ble_eq_true rfl)) dX3_answerNewSyn_9 ⟨(Nat.le_of_ble_eq_true rfl), (Nat.le_of_ble_eq_true rfl)⟩) hP hD hS hA [0, 1] [2, 3, 4, 5, 6, 7] rfl rfl (by decide) (by decide) (fun r_2 u H locs hw_2 hP hD hS => ?_)
  obtain ⟨u0_2, u1_2, u2_2, u3_2⟩ := u
  have hw_2 : r_2 = ck_ckk k l0 x num kd (ti / 64) := hw_2
  have hP : va_P (dC, dI) vwCl [(h, .inr (1, [.ref a1, .ref a2, .ref a3, .ref a4, .ref a5, .int (nI n)])), (a1, .inl (cJ, 32, .inr (.inl f1))), (a2, .inl (cI, 32, .inl f2)), (a3, .inl (cI, 32, .inl f3)), (a4, .inl (cI, 32, .inl f4)), (a5, .inl (cI, 32, .inl f5)), (o, .inr (3, [.ref sp, .ref h, .ref cn, .int zs, .int rq, .int ti, .int ct, .int gv, .int bh, .int bc, .int un])), (sp, .inr (2, [.long k, .long l0, .long u0_2, .long u1_2, .long u2_2, .long u3_2]))] H := hP
  have hD : va_D A [(h, .inr (1, [.ref a1, .ref a2, .ref a3, .ref a4, .ref a5, .int (nI n)])), (a1, .inl (cJ, 32, .inr (.inl f1))), (a2, .inl (cI, 32, .inl f2)), (a3, .inl (cI, 32, .inl f3)), (a4, .inl (cI, 32, .inl f4)), (a5, .inl (cI, 32, .inl f5)), (o, .inr (3, [.ref sp, .ref h, .ref cn, .int zs, .int rq, .int ti, .int ct, .int gv, .int bh, .int bc, .int un])), (sp, .inr (2, [.long k, .long l0, .long u0_2, .long u1_2, .long u2_2, .long u3_2]))] := hD
  subst hw_2
  refine lv_topi (fun x_3 ex_3 => ?_)
  refine lv_istore (lv' := [(5, .int x_3), (0, .ref o), (1, .long x), (3, .int num), (4, .int kd)]) hx hb dX3_answerNewSyn_12 hl (by decide) rfl (fun ls hl => ?_)
  refine lv_aload_n hx hb dX3_answerNewSyn_14 rfl (lv_at hl 1 rfl) ?_
  refine va_get (D := (dC, dI)) (ci := 3) (v := .ref h) (C := RX3) (T := TX3) (N := 11) hx hb hts (k_X3_answerNewSyn_in3) hown hK hP 6 rfl rfl 1 (by decide) (hts _ k_X3_answerNewSyn_f19) (fun _ h9 => h9) rfl dX3_answerNewSyn_15 ?_
  refine va_getN (D := (dC, dI)) (ci := 1) (v := .int (nI n)) (C := RX1) (T := TX1) (N := 6) hx hb hts (k_X3_answerNewSyn_in1) hown hK hP 0 rfl rfl 5 (by decide) (va_Nw.use rfl (hE.2.1.2.2.1)) (fun _ h9 => h9) rfl dX3_answerNewSyn_18 ?_
  refine lv_aload_n hx hb dX3_answerNewSyn_21 rfl (lv_at hl 1 rfl) ?_
  refine va_get (D := (dC, dI)) (ci := 3) (v := .int zs) (C := RX3) (T := TX3) (N := 11) hx hb hts (k_X3_answerNewSyn_in3) hown hK hP 6 rfl rfl 3 (by decide) (hts _ k_X3_answerNewSyn_f30) (fun _ h9 => h9) rfl dX3_answerNewSyn_22 ?_
  refine lv_icmp_lt (tgt := 49) hx hb dX3_answerNewSyn_25 (by decide) (fun c_25 => ?_) (fun c_25 => ?_)
  · skip
    have hn3 := ck_ltz c_25 hz hn
    refine lv_iload hx hb dX3_answerNewSyn_49 (lv_at hl 0 rfl) ?_
    refine lv_ldc hx hb hown (hts _ k_X3_answerNewSyn_c164) dX3_answerNewSyn_51 ?_
    refine lv_ixor hx hb dX3_answerNewSyn_53 ?_
    refine lv_topi (fun x_4 ex_4 => ?_)
    refine lv_istore (lv' := [(6, .int x_4), (5, .int x_3), (0, .ref o), (1, .long x), (3, .int num), (4, .int kd)]) hx hb dX3_answerNewSyn_54 hl (by decide) rfl (fun ls hl => ?_)
    refine lv_aload_n hx hb dX3_answerNewSyn_56 rfl (lv_at hl 2 rfl) ?_
    refine va_get (D := (dC, dI)) (ci := 3) (v := .ref h) (C := RX3) (T := TX3) (N := 11) hx hb hts (k_X3_answerNewSyn_in3) hown hK hP 6 rfl rfl 1 (by decide) (hts _ k_X3_answerNewSyn_f19) (fun _ h9 => h9) rfl dX3_answerNewSyn_57 ?_
    refine lv_lload_n hx hb dX3_answerNewSyn_60 rfl (lv_at hl 3 rfl) ?_
    refine lv_iload_n hx hb dX3_answerNewSyn_61 rfl (lv_at hl 4 rfl) ?_
    refine lv_iload hx hb dX3_answerNewSyn_62 (lv_at hl 0 rfl) ?_
    refine lv_iload hx hb dX3_answerNewSyn_64 (lv_at hl 5 rfl) ?_
    refine lv_aload_n hx hb dX3_answerNewSyn_66 rfl (lv_at hl 2 rfl) ?_
    refine va_get (D := (dC, dI)) (ci := 3) (v := .int ti) (C := RX3) (T := TX3) (N := 11) hx hb hts (k_X3_answerNewSyn_in3) hown hK hP 6 rfl rfl 5 (by decide) (hts _ k_X3_answerNewSyn_f37) (fun _ h9 => h9) rfl dX3_answerNewSyn_67 ?_
    refine ck_cv (wr := [(o, .inr (3, [.ref sp, .ref h, .ref cn, .int zs, .int rq, .int ti, .int ct, .int gv, .int bh, .int bc, .int un])), (sp, .inr (2, [.long k, .long l0, .long u0_2, .long u1_2, .long u2_2, .long u3_2]))]) (va_runV (As := [.long x, .int num, .int x_4, .int kd, .int ti]) (rest := []) ⟨hx, hb, hml, hown, hts⟩ (c_X1_add l dC dI cI cJ cZ lo _ h a1 a2 a3 a4 a5 n f1 f2 f3 f4 f5 x num x_4 kd ti (by first | assumption | omega)) (cwV 5 hts gX3_answerNewSyn_X1_add rfl rfl rfl (by decide +kernel) ⟨(Nat.le_of_ble_eq_true rfl), (Nat.le_of_ble_eq_true rfl)⟩) ⟨ck_blind, va_recv hK hP (ci := 1) (q0 := 0) rfl rfl, (ck_pre hG hP hD hS [0, 1, 2, 3, 4, 5] rfl (by decide) _)⟩ rfl rfl hl.1 rfl (lv_room (Nat.le_of_ble_eq_true rfl)) dX3_answerNewSyn_70 ⟨(Nat.le_of_ble_eq_true rfl), (Nat.le_of_ble_eq_true rfl)⟩) hP hD hS hA [0, 1, 2, 3, 4, 5] [6, 7] rfl rfl (by decide) (by decide) (fun u H locs hw_5 hP hD hS => ?_)
    have hP : va_P (dC, dI) vwCl [(o, .inr (3, [.ref sp, .ref h, .ref cn, .int zs, .int rq, .int ti, .int ct, .int gv, .int bh, .int bc, .int un])), (sp, .inr (2, [.long k, .long l0, .long u0_2, .long u1_2, .long u2_2, .long u3_2])), (h, .inr (1, [.ref a1, .ref a2, .ref a3, .ref a4, .ref a5, .int (nI (n + 1))])), (a1, .inl (cJ, 32, .inr (.inl (vp_updL f1 n x)))), (a2, .inl (cI, 32, .inl (upd f2 n num))), (a3, .inl (cI, 32, .inl (upd f3 n x_4))), (a4, .inl (cI, 32, .inl (upd f4 n kd))), (a5, .inl (cI, 32, .inl (upd f5 n ti)))] H := hP
    have hD : va_D A [(o, .inr (3, [.ref sp, .ref h, .ref cn, .int zs, .int rq, .int ti, .int ct, .int gv, .int bh, .int bc, .int un])), (sp, .inr (2, [.long k, .long l0, .long u0_2, .long u1_2, .long u2_2, .long u3_2])), (h, .inr (1, [.ref a1, .ref a2, .ref a3, .ref a4, .ref a5, .int (nI (n + 1))])), (a1, .inl (cJ, 32, .inr (.inl (vp_updL f1 n x)))), (a2, .inl (cI, 32, .inl (upd f2 n num))), (a3, .inl (cI, 32, .inl (upd f3 n x_4))), (a4, .inl (cI, 32, .inl (upd f4 n kd))), (a5, .inl (cI, 32, .inl (upd f5 n ti)))] := hD
    refine lv_iload hx hb dX3_answerNewSyn_73 (lv_at hl 0 rfl) ?_
    refine ck_ir hx hb hr hlocks (Nat.le_of_ble_eq_true rfl) (Nat.le_of_ble_eq_true rfl) dX3_answerNewSyn_75 (ct, gv, n + 1, vp_updL f1 n x, upd f2 n num, upd f3 n x_4, upd f4 n kd, upd f5 n ti, u0_2, u1_2, u2_2, u3_2) hP hD hS ?_
    subst_vars
    exact Or.inr ⟨c_25, rfl, rfl, rfl, rfl, rfl, rfl, rfl, rfl, rfl⟩
  · skip
    refine lv_aload_n hx hb dX3_answerNewSyn_28 rfl (lv_at hl 1 rfl) ?_
    refine lv_dup hx hb dX3_answerNewSyn_29 rfl ?_
    refine va_get (D := (dC, dI)) (ci := 3) (v := .int gv) (C := RX3) (T := TX3) (N := 11) hx hb hts (k_X3_answerNewSyn_in3) hown hK hP 6 rfl rfl 7 (by decide) (hts _ k_X3_answerNewSyn_f43) (fun _ h9 => h9) rfl dX3_answerNewSyn_30 ?_
    refine lv_iconst (v := 1) hx hb dX3_answerNewSyn_33 (by decide) ?_
    refine lv_iadd hx hb dX3_answerNewSyn_34 ?_
    refine lv_topi (fun x_6 ex_6 => ?_)
    refine va_put (D := (dC, dI)) (ci := 3) (v := .int x_6) (ty := .int) (C := RX3) (T := TX3) (N := 11) hx hb hts (k_X3_answerNewSyn_in3) tyX3 tyX3_ok nmX3 hown hK hP hD hS 6 rfl rfl 7 (by decide) (hts _ k_X3_answerNewSyn_f43) (fun _ h9 => h9) rfl (by decide +kernel) rfl rfl (Nat.le_of_ble_eq_true rfl) dX3_answerNewSyn_35 (fun H locs hP hD hS => ?_)
    have hP : va_P (dC, dI) vwCl [(h, .inr (1, [.ref a1, .ref a2, .ref a3, .ref a4, .ref a5, .int (nI n)])), (a1, .inl (cJ, 32, .inr (.inl f1))), (a2, .inl (cI, 32, .inl f2)), (a3, .inl (cI, 32, .inl f3)), (a4, .inl (cI, 32, .inl f4)), (a5, .inl (cI, 32, .inl f5)), (o, .inr (3, [.ref sp, .ref h, .ref cn, .int zs, .int rq, .int ti, .int ct, .int x_6, .int bh, .int bc, .int un])), (sp, .inr (2, [.long k, .long l0, .long u0_2, .long u1_2, .long u2_2, .long u3_2]))] H := hP
    have hD : va_D A [(h, .inr (1, [.ref a1, .ref a2, .ref a3, .ref a4, .ref a5, .int (nI n)])), (a1, .inl (cJ, 32, .inr (.inl f1))), (a2, .inl (cI, 32, .inl f2)), (a3, .inl (cI, 32, .inl f3)), (a4, .inl (cI, 32, .inl f4)), (a5, .inl (cI, 32, .inl f5)), (o, .inr (3, [.ref sp, .ref h, .ref cn, .int zs, .int rq, .int ti, .int ct, .int x_6, .int bh, .int bc, .int un])), (sp, .inr (2, [.long k, .long l0, .long u0_2, .long u1_2, .long u2_2, .long u3_2]))] := hD
    refine lv_aload_n hx hb dX3_answerNewSyn_38 rfl (lv_at hl 1 rfl) ?_
    refine lv_aload_n hx hb dX3_answerNewSyn_39 rfl (lv_at hl 1 rfl) ?_
    refine va_get (D := (dC, dI)) (ci := 3) (v := .int ti) (C := RX3) (T := TX3) (N := 11) hx hb hts (k_X3_answerNewSyn_in3) hown hK hP 6 rfl rfl 5 (by decide) (hts _ k_X3_answerNewSyn_f37) (fun _ h9 => h9) rfl dX3_answerNewSyn_40 ?_
    refine va_put (D := (dC, dI)) (ci := 3) (v := .int ti) (ty := .int) (C := RX3) (T := TX3) (N := 11) hx hb hts (k_X3_answerNewSyn_in3) tyX3 tyX3_ok nmX3 hown hK hP hD hS 6 rfl rfl 6 (by decide) (hts _ k_X3_answerNewSyn_f40) (fun _ h9 => h9) rfl (by decide +kernel) rfl rfl (Nat.le_of_ble_eq_true rfl) dX3_answerNewSyn_43 (fun H locs hP hD hS => ?_)
    have hP : va_P (dC, dI) vwCl [(h, .inr (1, [.ref a1, .ref a2, .ref a3, .ref a4, .ref a5, .int (nI n)])), (a1, .inl (cJ, 32, .inr (.inl f1))), (a2, .inl (cI, 32, .inl f2)), (a3, .inl (cI, 32, .inl f3)), (a4, .inl (cI, 32, .inl f4)), (a5, .inl (cI, 32, .inl f5)), (o, .inr (3, [.ref sp, .ref h, .ref cn, .int zs, .int rq, .int ti, .int ti, .int x_6, .int bh, .int bc, .int un])), (sp, .inr (2, [.long k, .long l0, .long u0_2, .long u1_2, .long u2_2, .long u3_2]))] H := hP
    have hD : va_D A [(h, .inr (1, [.ref a1, .ref a2, .ref a3, .ref a4, .ref a5, .int (nI n)])), (a1, .inl (cJ, 32, .inr (.inl f1))), (a2, .inl (cI, 32, .inl f2)), (a3, .inl (cI, 32, .inl f3)), (a4, .inl (cI, 32, .inl f4)), (a5, .inl (cI, 32, .inl f5)), (o, .inr (3, [.ref sp, .ref h, .ref cn, .int zs, .int rq, .int ti, .int ti, .int x_6, .int bh, .int bc, .int un])), (sp, .inr (2, [.long k, .long l0, .long u0_2, .long u1_2, .long u2_2, .long u3_2]))] := hD
    refine lv_iload hx hb dX3_answerNewSyn_46 (lv_at hl 0 rfl) ?_
    refine ck_ir hx hb hr hlocks (Nat.le_of_ble_eq_true rfl) (Nat.le_of_ble_eq_true rfl) dX3_answerNewSyn_48 (ti, x_6, n, f1, f2, f3, f4, f5, u0_2, u1_2, u2_2, u3_2) (hP.sub [6, 7, 0, 1, 2, 3, 4, 5] rfl) (hD.sub [6, 7, 0, 1, 2, 3, 4, 5] (by decide) rfl) hS ?_
    subst_vars
    exact Or.inl ⟨c_25, rfl, rfl, rfl, rfl, rfl, rfl, rfl, rfl, rfl⟩
set_option maxRecDepth 20000 in
theorem k_X3_stateOf_f26 : (.fieldLink RX3 26 "CookieListener" "connections" "LCookieListener$Connections;" : Cond) ∈ wsX3_stateOf := by decide +kernel
set_option maxRecDepth 20000 in
theorem k_X3_stateOf_in3 : ∀ w ∈ u_ws RX3 TX3 11, w ∈ wsX3_stateOf := by decide +kernel
set_option maxRecDepth 20000 in
theorem k_X3_stateOf_f19 : (.fieldLink RX3 19 "CookieListener" "halves" "LCookieListener$Halves;" : Cond) ∈ wsX3_stateOf := by decide +kernel
set_option maxHeartbeats 4000000 in
set_option maxRecDepth 100000 in
theorem c_X3_stateOf (l : Launch) (dC : Nat → ClassId) (dI : Nat → Nat → Nat) (cI cJ cZ : ClassId) (lo sz : Nat) (o sp h cn : Nat) (zs rq ti ct gv bh bc un : Int32) (a1 a2 a3 a4 a5 : Nat) (n : Nat) (f1 : Nat → Int64) (f2 f3 f4 f5 : Nat → Int32) (b1 b2 : Nat) (kc t : Nat) (g1 : Nat → Int64) (g2 : Nat → Int32) (x : Int64) (hn : n ≤ 32) (hk : kc ≤ 64) (ht : t ≤ kc) : Met l yX3_stateOf wsX3_stateOf ({ frames := 1, cells := 0, slots := 0, locals := 23 } : Room) (va_Pc [.ref o, .long x] (ck_P (dC, dI) [(cI, .int), (cJ, .long), (cZ, .boolean)] lo sz [(o, .inr (3, [.ref sp, .ref h, .ref cn, .int zs, .int rq, .int ti, .int ct, .int gv, .int bh, .int bc, .int un])), (h, .inr (1, [.ref a1, .ref a2, .ref a3, .ref a4, .ref a5, .int (nI n)])), (a1, .inl (cJ, 32, .inr (.inl f1))), (a2, .inl (cI, 32, .inl f2)), (a3, .inl (cI, 32, .inl f3)), (a4, .inl (cI, 32, .inl f4)), (a5, .inl (cI, 32, .inl f5)), (cn, .inr (0, [.ref b1, .ref b2, .int (nI kc), .int (nI t)])), (b1, .inl (cJ, 64, .inr (.inl g1))), (b2, .inl (cI, 64, .inl g2))])) (vp_Si (fun (r : Int32) => ck_stt n f1 kc t g1 x r)) 0 0 (fun _ => False) := by
  refine Met.ofW (cc := cX3_stateOf) (maxL := 4) (ret := (some .int)) (by decide) rfl ?_
  intro p e s m args below meth c s₁ B hml hv
  obtain ⟨rfl, hsz, hP, hK, hD0, hE⟩ := hv
  have hx := B.exec
  have hb := B.bytes
  have hr := B.returns
  have hts := atoms_spec (ws := wsX3_stateOf) B.pre
  have hown : s.vm.findClass RX3 = some m.cls := findClass_of_methodNamed B.named
  have hlocks := B.notSynchronized
  subst hsz
  have hD := hD0.self (sz := s.heap.size)
  have hlo := ck_lo (sz := s.heap.size) hD0 hE.1
  generalize hAe : va_A [(o, .inr (3, [.ref sp, .ref h, .ref cn, .int zs, .int rq, .int ti, .int ct, .int gv, .int bh, .int bc, .int un])), (h, .inr (1, [.ref a1, .ref a2, .ref a3, .ref a4, .ref a5, .int (nI n)])), (a1, .inl (cJ, 32, .inr (.inl f1))), (a2, .inl (cI, 32, .inl f2)), (a3, .inl (cI, 32, .inl f3)), (a4, .inl (cI, 32, .inl f4)), (a5, .inl (cI, 32, .inl f5)), (cn, .inr (0, [.ref b1, .ref b2, .int (nI kc), .int (nI t)])), (b1, .inl (cJ, 64, .inr (.inl g1))), (b2, .inl (cI, 64, .inl g2))] s.heap.size = A at hD hlo
  have hA : ∀ q : Nat, s.heap.size ≤ q → A q := fun q h => by rw [← hAe]; exact Or.inr h
  have hG : ck_G (dC, dI) [(cI, .int), (cJ, .long), (cZ, .boolean)] lo A s := ⟨hK, hE, hA, hlo⟩
  have hS : va_S A s.heap s.heap [] := va_S.rf
  have hP : va_P (dC, dI) vwCl [(o, .inr (3, [.ref sp, .ref h, .ref cn, .int zs, .int rq, .int ti, .int ct, .int gv, .int bh, .int bc, .int un])), (h, .inr (1, [.ref a1, .ref a2, .ref a3, .ref a4, .ref a5, .int (nI n)])), (a1, .inl (cJ, 32, .inr (.inl f1))), (a2, .inl (cI, 32, .inl f2)), (a3, .inl (cI, 32, .inl f3)), (a4, .inl (cI, 32, .inl f4)), (a5, .inl (cI, 32, .inl f5)), (cn, .inr (0, [.ref b1, .ref b2, .int (nI kc), .int (nI t)])), (b1, .inl (cJ, 64, .inr (.inl g1))), (b2, .inl (cI, 64, .inl g2))] s.heap := hP
  have hl := lv_entry ([.ref o, .long x]) (n := 4) (Nat.le_of_ble_eq_true rfl)
  rw [lg_entry_eq]
  generalize (lg_sl ([.ref o, .long x]) ++ List.replicate (4 - (lg_sl ([.ref o, .long x])).length) Slot.unset).toArray = ls at hl ⊢
  have hl : lv_has ls 4 [(0, .ref o), (1, .long x)] := hl
  refine lv_aload_n hx hb dX3_stateOf_0 rfl (lv_at hl 0 rfl) ?_
  refine va_get (D := (dC, dI)) (ci := 3) (v := .ref cn) (C := RX3) (T := TX3) (N := 11) hx hb hts (k_X3_stateOf_in3) hown hK hP 0 rfl rfl 2 (by decide) (hts _ k_X3_stateOf_f26) (fun _ h9 => h9) rfl dX3_stateOf_1 ?_
  refine lv_lload_n hx hb dX3_stateOf_4 rfl (lv_at hl 1 rfl) ?_
  refine ck_ri (va_runV (As := [.long x]) (rest := []) ⟨hx, hb, hml, hown, hts⟩ (c_X0_find l dC dI cI cJ cZ lo _ cn b1 b2 kc t g1 g2 x (by first | assumption | omega)) (cwV 1 hts gX3_stateOf_X0_find rfl rfl rfl (by decide +kernel) ⟨(Nat.le_of_ble_eq_true rfl), (Nat.le_of_ble_eq_true rfl)⟩) ⟨ck_blind, va_recv hK hP (ci := 0) (q0 := 7) rfl rfl, (ck_pre hG hP hD hS [7, 8, 9] rfl (by decide) _)⟩ rfl rfl hl.1 rfl (lv_room (Nat.le_of_ble_eq_true rfl)) dX3_stateOf_5 ⟨(Nat.le_of_ble_eq_true rfl), (Nat.le_of_ble_eq_true rfl)⟩) (fun r_1 hw_1 => ?_)
  have hw_1 : ck_fnd kc g1 x r_1 := hw_1
  refine lv_istore_n (lv' := [(3, .int r_1), (0, .ref o), (1, .long x)]) hx hb dX3_stateOf_8 rfl hl (by decide) rfl (fun ls hl => ?_)
  refine lv_iload_n hx hb dX3_stateOf_9 rfl (lv_at hl 0 rfl) ?_
  refine lv_iconst (v := (-1)) hx hb dX3_stateOf_10 (by decide) ?_
  refine lv_icmp_eq (tgt := 31) hx hb dX3_stateOf_11 (by decide) (fun c_11 => ?_) (fun c_11 => ?_)
  · skip
    have hn_1 : ∀ i, i < kc → g1 i ≠ x := by
      rcases hw_1 with z | ⟨j9, hj9, ej9, -⟩
      · exact z.2
      · exact absurd (ej9.symm.trans c_11) (ck_njm1 (by omega))
    refine lv_aload_n hx hb dX3_stateOf_31 rfl (lv_at hl 1 rfl) ?_
    refine va_get (D := (dC, dI)) (ci := 3) (v := .ref h) (C := RX3) (T := TX3) (N := 11) hx hb hts (k_X3_stateOf_in3) hown hK hP 0 rfl rfl 1 (by decide) (hts _ k_X3_stateOf_f19) (fun _ h9 => h9) rfl dX3_stateOf_32 ?_
    refine lv_lload_n hx hb dX3_stateOf_35 rfl (lv_at hl 2 rfl) ?_
    refine ck_ri (va_runV (As := [.long x]) (rest := []) ⟨hx, hb, hml, hown, hts⟩ (c_X1_find l dC dI cI cJ cZ lo _ h a1 a2 a3 a4 a5 n f1 f2 f3 f4 f5 x (by first | assumption | omega)) (cwV 1 hts gX3_stateOf_X1_find rfl rfl rfl (by decide +kernel) ⟨(Nat.le_of_ble_eq_true rfl), (Nat.le_of_ble_eq_true rfl)⟩) ⟨ck_blind, va_recv hK hP (ci := 1) (q0 := 1) rfl rfl, (ck_pre hG hP hD hS [1, 2, 3, 4, 5, 6] rfl (by decide) _)⟩ rfl rfl hl.1 rfl (lv_room (Nat.le_of_ble_eq_true rfl)) dX3_stateOf_36 ⟨(Nat.le_of_ble_eq_true rfl), (Nat.le_of_ble_eq_true rfl)⟩) (fun r_2 hw_2 => ?_)
    have hw_2 : ck_fnd n f1 x r_2 := hw_2
    refine lv_iconst (v := (-1)) hx hb dX3_stateOf_39 (by decide) ?_
    refine lv_icmp_eq (tgt := 47) hx hb dX3_stateOf_40 (by decide) (fun c_40 => ?_) (fun c_40 => ?_)
    · skip
      have hn_2 : ∀ i, i < n → f1 i ≠ x := by
        rcases hw_2 with z | ⟨j9, hj9, ej9, -⟩
        · exact z.2
        · exact absurd (ej9.symm.trans c_40) (ck_njm1 (by omega))
      refine lv_iconst (v := 0) hx hb dX3_stateOf_47 (by decide) ?_
      refine ck_iq hx hb hr hlocks dX3_stateOf_48 ?_
      exact Or.inr ⟨hn_1, Or.inr ⟨hn_2, rfl⟩⟩
    · skip
      obtain ⟨j_2, hj_2, ej_2, hf_2⟩ := hw_2.resolve_left (fun z => c_40 z.1)
      subst ej_2
      refine lv_iconst (v := 1) hx hb dX3_stateOf_43 (by decide) ?_
      refine lv_goto (tgt := 48) hx hb dX3_stateOf_44 (by decide) ?_
      refine ck_iq hx hb hr hlocks dX3_stateOf_48 ?_
      exact Or.inr ⟨hn_1, Or.inl ⟨⟨_, hj_2, hf_2⟩, rfl⟩⟩
  · skip
    obtain ⟨j_1, hj_1, ej_1, hf_1⟩ := hw_1.resolve_left (fun z => c_11 z.1)
    subst ej_1
    refine lv_aload_n hx hb dX3_stateOf_14 rfl (lv_at hl 1 rfl) ?_
    refine va_get (D := (dC, dI)) (ci := 3) (v := .ref cn) (C := RX3) (T := TX3) (N := 11) hx hb hts (k_X3_stateOf_in3) hown hK hP 0 rfl rfl 2 (by decide) (hts _ k_X3_stateOf_f26) (fun _ h9 => h9) rfl dX3_stateOf_15 ?_
    refine lv_iload_n hx hb dX3_stateOf_18 rfl (lv_at hl 0 rfl) ?_
    refine ck_ri (va_runV (As := [.int (nI j_1)]) (rest := []) ⟨hx, hb, hml, hown, hts⟩ (c_X0_isTaken l dC dI cI cJ cZ lo _ cn b1 b2 kc t g1 g2 j_1 (by first | assumption | omega) (by first | assumption | omega) (by first | assumption | omega)) (cwV 1 hts gX3_stateOf_X0_isTaken rfl rfl rfl (by decide +kernel) ⟨(Nat.le_of_ble_eq_true rfl), (Nat.le_of_ble_eq_true rfl)⟩) ⟨ck_blind, va_recv hK hP (ci := 0) (q0 := 7) rfl rfl, (ck_pre hG hP hD hS [7, 8, 9] rfl (by decide) _)⟩ rfl rfl hl.1 rfl (lv_room (Nat.le_of_ble_eq_true rfl)) dX3_stateOf_19 ⟨(Nat.le_of_ble_eq_true rfl), (Nat.le_of_ble_eq_true rfl)⟩) (fun r_3 hw_3 => ?_)
    have hw_3 : (r_3 = 1 ∧ j_1 < t) ∨ (r_3 = 0 ∧ t ≤ j_1) := hw_3
    refine lv_if_eq (tgt := 29) hx hb dX3_stateOf_22 (by decide) (fun c_22 => ?_) (fun c_22 => ?_)
    · skip
      have b_22 := (hw_3.resolve_left (fun z => absurd (z.1.symm.trans c_22) (by decide))).2
      refine lv_iconst (v := 2) hx hb dX3_stateOf_29 (by decide) ?_
      refine ck_iq hx hb hr hlocks dX3_stateOf_30 ?_
      exact Or.inl ⟨_, hj_1, hf_1, Or.inr ⟨b_22, rfl⟩⟩
    · skip
      have b_22 := (hw_3.resolve_right (fun z => c_22 z.1)).2
      refine lv_iconst (v := 3) hx hb dX3_stateOf_25 (by decide) ?_
      refine lv_goto (tgt := 30) hx hb dX3_stateOf_26 (by decide) ?_
      refine ck_iq hx hb hr hlocks dX3_stateOf_30 ?_
      exact Or.inl ⟨_, hj_1, hf_1, Or.inl ⟨b_22, rfl⟩⟩
set_option maxRecDepth 20000 in
theorem k_X3_ackOfHalf_f19 : (.fieldLink RX3 19 "CookieListener" "halves" "LCookieListener$Halves;" : Cond) ∈ wsX3_ackOfHalf := by decide +kernel
set_option maxRecDepth 20000 in
theorem k_X3_ackOfHalf_in3 : ∀ w ∈ u_ws RX3 TX3 11, w ∈ wsX3_ackOfHalf := by decide +kernel
set_option maxRecDepth 20000 in
theorem k_X3_ackOfHalf_in1 : ∀ w ∈ u_ws RX1 TX1 6, w ∈ wsX3_ackOfHalf := by decide +kernel
set_option maxRecDepth 20000 in
theorem k_X3_ackOfHalf_f26 : (.fieldLink RX3 26 "CookieListener" "connections" "LCookieListener$Connections;" : Cond) ∈ wsX3_ackOfHalf := by decide +kernel
set_option maxRecDepth 20000 in
theorem k_X3_ackOfHalf_f34 : (.fieldLink RX3 34 "CookieListener" "roomOfQueue" "I" : Cond) ∈ wsX3_ackOfHalf := by decide +kernel
set_option maxRecDepth 20000 in
theorem k_X3_ackOfHalf_f46 : (.fieldLink RX3 46 "CookieListener" "openedByHalves" "I" : Cond) ∈ wsX3_ackOfHalf := by decide +kernel
set_option maxHeartbeats 4000000 in
set_option maxRecDepth 100000 in
theorem c_X3_ackOfHalf (l : Launch) (dC : Nat → ClassId) (dI : Nat → Nat → Nat) (cI cJ cZ : ClassId) (lo sz : Nat) (o sp h cn : Nat) (zs rq ti ct gv bh bc un : Int32) (a1 a2 a3 a4 a5 : Nat) (n : Nat) (f1 : Nat → Int64) (f2 f3 f4 f5 : Nat → Int32) (b1 b2 : Nat) (kc t : Nat) (g1 : Nat → Int64) (g2 : Nat → Int32) (j : Nat) (num ans : Int32) (hn : n < 32) (hj : j < n + 1) (hk : kc ≤ 64) (ht : t ≤ kc) : Met l yX3_ackOfHalf wsX3_ackOfHalf ({ frames := 2, cells := 0, slots := 0, locals := 45 } : Room) (va_Pc [.ref o, .int (nI j), .int num, .int ans] (ck_P (dC, dI) [(cI, .int), (cJ, .long), (cZ, .boolean)] lo sz [(o, .inr (3, [.ref sp, .ref h, .ref cn, .int zs, .int rq, .int ti, .int ct, .int gv, .int bh, .int bc, .int un])), (h, .inr (1, [.ref a1, .ref a2, .ref a3, .ref a4, .ref a5, .int (nI (n + 1))])), (a1, .inl (cJ, 32, .inr (.inl f1))), (a2, .inl (cI, 32, .inl f2)), (a3, .inl (cI, 32, .inl f3)), (a4, .inl (cI, 32, .inl f4)), (a5, .inl (cI, 32, .inl f5)), (cn, .inr (0, [.ref b1, .ref b2, .int (nI kc), .int (nI t)])), (b1, .inl (cJ, 64, .inr (.inl g1))), (b2, .inl (cI, 64, .inl g2))])) (va_Qi (fun (r : Int32) (u : Int32 × Nat × (Nat → Int64) × (Nat → Int32) × (Nat → Int32) × (Nat → Int32) × (Nat → Int32) × Nat × (Nat → Int64) × (Nat → Int32)) => (¬ (f2 j = num ∧ f3 j = ans) ∧ r = 4 ∧ u.2.1 = n + 1 ∧ u.2.2.1 = f1 ∧ u.2.2.2.1 = f2 ∧ u.2.2.2.2.1 = f3 ∧ u.2.2.2.2.2.1 = f4 ∧ u.2.2.2.2.2.2.1 = f5 ∧ u.2.2.2.2.2.2.2.1 = kc ∧ u.2.2.2.2.2.2.2.2.1 = g1 ∧ u.2.2.2.2.2.2.2.2.2 = g2 ∧ u.1 = bh) ∨ ((f2 j = num ∧ f3 j = ans) ∧ ¬ (nI (kc - t) < rq ∧ kc < 64) ∧ r = 3 ∧ u.2.1 = n + 1 ∧ u.2.2.1 = f1 ∧ u.2.2.2.1 = f2 ∧ u.2.2.2.2.1 = f3 ∧ u.2.2.2.2.2.1 = f4 ∧ u.2.2.2.2.2.2.1 = f5 ∧ u.2.2.2.2.2.2.2.1 = kc ∧ u.2.2.2.2.2.2.2.2.1 = g1 ∧ u.2.2.2.2.2.2.2.2.2 = g2 ∧ u.1 = bh) ∨ ((f2 j = num ∧ f3 j = ans) ∧ (nI (kc - t) < rq ∧ kc < 64) ∧ r = 2 ∧ u.2.1 = n ∧ u.2.2.1 = vp_updL f1 j (f1 n) ∧ u.2.2.2.1 = upd f2 j (f2 n) ∧ u.2.2.2.2.1 = upd f3 j (f3 n) ∧ u.2.2.2.2.2.1 = upd f4 j (f4 n) ∧ u.2.2.2.2.2.2.1 = upd f5 j (f5 n) ∧ u.2.2.2.2.2.2.2.1 = kc + 1 ∧ u.2.2.2.2.2.2.2.2.1 = vp_updL g1 kc (f1 j) ∧ u.2.2.2.2.2.2.2.2.2 = upd g2 kc (f4 j) ∧ u.1 = bh + 1)) (fun u => ck_B (dC, dI) vwCl (va_A [(o, .inr (3, [.ref sp, .ref h, .ref cn, .int zs, .int rq, .int ti, .int ct, .int gv, .int bh, .int bc, .int un])), (h, .inr (1, [.ref a1, .ref a2, .ref a3, .ref a4, .ref a5, .int (nI (n + 1))])), (a1, .inl (cJ, 32, .inr (.inl f1))), (a2, .inl (cI, 32, .inl f2)), (a3, .inl (cI, 32, .inl f3)), (a4, .inl (cI, 32, .inl f4)), (a5, .inl (cI, 32, .inl f5)), (cn, .inr (0, [.ref b1, .ref b2, .int (nI kc), .int (nI t)])), (b1, .inl (cJ, 64, .inr (.inl g1))), (b2, .inl (cI, 64, .inl g2))] sz) ((fun u : Int32 × Nat × (Nat → Int64) × (Nat → Int32) × (Nat → Int32) × (Nat → Int32) × (Nat → Int32) × Nat × (Nat → Int64) × (Nat → Int32) => ([(o, .inr (3, [.ref sp, .ref h, .ref cn, .int zs, .int rq, .int ti, .int ct, .int gv, .int u.1, .int bc, .int un])), (h, .inr (1, [.ref a1, .ref a2, .ref a3, .ref a4, .ref a5, .int (nI u.2.1)])), (a1, .inl (cJ, 32, .inr (.inl u.2.2.1))), (a2, .inl (cI, 32, .inl u.2.2.2.1)), (a3, .inl (cI, 32, .inl u.2.2.2.2.1)), (a4, .inl (cI, 32, .inl u.2.2.2.2.2.1)), (a5, .inl (cI, 32, .inl u.2.2.2.2.2.2.1)), (cn, .inr (0, [.ref b1, .ref b2, .int (nI u.2.2.2.2.2.2.2.1), .int (nI t)])), (b1, .inl (cJ, 64, .inr (.inl u.2.2.2.2.2.2.2.2.1))), (b2, .inl (cI, 64, .inl u.2.2.2.2.2.2.2.2.2))] : va_W)) u)) (va_A [(o, .inr (3, [.ref sp, .ref h, .ref cn, .int zs, .int rq, .int ti, .int ct, .int gv, .int bh, .int bc, .int un])), (h, .inr (1, [.ref a1, .ref a2, .ref a3, .ref a4, .ref a5, .int (nI (n + 1))])), (a1, .inl (cJ, 32, .inr (.inl f1))), (a2, .inl (cI, 32, .inl f2)), (a3, .inl (cI, 32, .inl f3)), (a4, .inl (cI, 32, .inl f4)), (a5, .inl (cI, 32, .inl f5)), (cn, .inr (0, [.ref b1, .ref b2, .int (nI kc), .int (nI t)])), (b1, .inl (cJ, 64, .inr (.inl g1))), (b2, .inl (cI, 64, .inl g2))] sz)) 0 0 (va_A [(o, .inr (3, [.ref sp, .ref h, .ref cn, .int zs, .int rq, .int ti, .int ct, .int gv, .int bh, .int bc, .int un])), (h, .inr (1, [.ref a1, .ref a2, .ref a3, .ref a4, .ref a5, .int (nI (n + 1))])), (a1, .inl (cJ, 32, .inr (.inl f1))), (a2, .inl (cI, 32, .inl f2)), (a3, .inl (cI, 32, .inl f3)), (a4, .inl (cI, 32, .inl f4)), (a5, .inl (cI, 32, .inl f5)), (cn, .inr (0, [.ref b1, .ref b2, .int (nI kc), .int (nI t)])), (b1, .inl (cJ, 64, .inr (.inl g1))), (b2, .inl (cI, 64, .inl g2))] sz) := by
  refine Met.ofW (cc := cX3_ackOfHalf) (maxL := 4) (ret := (some .int)) (by decide) rfl ?_
  intro p e s m args below meth c s₁ B hml hv
  obtain ⟨rfl, hsz, hP, hK, hD0, hE⟩ := hv
  have hx := B.exec
  have hb := B.bytes
  have hr := B.returns
  have hts := atoms_spec (ws := wsX3_ackOfHalf) B.pre
  have hown : s.vm.findClass RX3 = some m.cls := findClass_of_methodNamed B.named
  have hlocks := B.notSynchronized
  subst hsz
  have hD := hD0.self (sz := s.heap.size)
  have hlo := ck_lo (sz := s.heap.size) hD0 hE.1
  generalize hAe : va_A [(o, .inr (3, [.ref sp, .ref h, .ref cn, .int zs, .int rq, .int ti, .int ct, .int gv, .int bh, .int bc, .int un])), (h, .inr (1, [.ref a1, .ref a2, .ref a3, .ref a4, .ref a5, .int (nI (n + 1))])), (a1, .inl (cJ, 32, .inr (.inl f1))), (a2, .inl (cI, 32, .inl f2)), (a3, .inl (cI, 32, .inl f3)), (a4, .inl (cI, 32, .inl f4)), (a5, .inl (cI, 32, .inl f5)), (cn, .inr (0, [.ref b1, .ref b2, .int (nI kc), .int (nI t)])), (b1, .inl (cJ, 64, .inr (.inl g1))), (b2, .inl (cI, 64, .inl g2))] s.heap.size = A at hD hlo ⊢
  have hA : ∀ q : Nat, s.heap.size ≤ q → A q := fun q h => by rw [← hAe]; exact Or.inr h
  have hG : ck_G (dC, dI) [(cI, .int), (cJ, .long), (cZ, .boolean)] lo A s := ⟨hK, hE, hA, hlo⟩
  have hS : va_S A s.heap s.heap [] := va_S.rf
  have hP : va_P (dC, dI) vwCl [(o, .inr (3, [.ref sp, .ref h, .ref cn, .int zs, .int rq, .int ti, .int ct, .int gv, .int bh, .int bc, .int un])), (h, .inr (1, [.ref a1, .ref a2, .ref a3, .ref a4, .ref a5, .int (nI (n + 1))])), (a1, .inl (cJ, 32, .inr (.inl f1))), (a2, .inl (cI, 32, .inl f2)), (a3, .inl (cI, 32, .inl f3)), (a4, .inl (cI, 32, .inl f4)), (a5, .inl (cI, 32, .inl f5)), (cn, .inr (0, [.ref b1, .ref b2, .int (nI kc), .int (nI t)])), (b1, .inl (cJ, 64, .inr (.inl g1))), (b2, .inl (cI, 64, .inl g2))] s.heap := hP
  have hl := lv_entry ([.ref o, .int (nI j), .int num, .int ans]) (n := 4) (Nat.le_of_ble_eq_true rfl)
  rw [lg_entry_eq]
  generalize (lg_sl ([.ref o, .int (nI j), .int num, .int ans]) ++ List.replicate (4 - (lg_sl ([.ref o, .int (nI j), .int num, .int ans])).length) Slot.unset).toArray = ls at hl ⊢
  have hl : lv_has ls 4 [(0, .ref o), (1, .int (nI j)), (2, .int num), (3, .int ans)] := hl
  refine lv_aload_n hx hb dX3_ackOfHalf_0 rfl (lv_at hl 0 rfl) ?_
  refine va_get (D := (dC, dI)) (ci := 3) (v := .ref h) (C := RX3) (T := TX3) (N := 11) hx hb hts (k_X3_ackOfHalf_in3) hown hK hP 0 rfl rfl 1 (by decide) (hts _ k_X3_ackOfHalf_f19) (fun _ h9 => h9) rfl dX3_ackOfHalf_1 ?_
  refine va_getN (D := (dC, dI)) (ci := 1) (v := .ref a2) (C := RX1) (T := TX1) (N := 6) hx hb hts (k_X3_ackOfHalf_in1) hown hK hP 1 rfl rfl 1 (by decide) (va_Nw.use rfl (hE.2.1.2.2.2.2.2.2.1)) (fun _ h9 => h9) rfl dX3_ackOfHalf_4 ?_
  refine lv_iload_n hx hb dX3_ackOfHalf_7 rfl (lv_at hl 1 rfl) ?_
  refine ck_iald hx hb hK hP 3 0 rfl rfl (by omega) (by decide) dX3_ackOfHalf_8 ?_
  refine lv_iload_n hx hb dX3_ackOfHalf_9 rfl (lv_at hl 2 rfl) ?_
  refine lv_icmp_ne (tgt := 26) hx hb dX3_ackOfHalf_10 (by decide) (fun c_10 => ?_) (fun c_10 => ?_)
  · skip
    refine lv_iconst (v := 4) hx hb dX3_ackOfHalf_26 (by decide) ?_
    refine ck_ir hx hb hr hlocks (Nat.le_of_ble_eq_true rfl) (Nat.le_of_ble_eq_true rfl) dX3_ackOfHalf_27 (bh, n + 1, f1, f2, f3, f4, f5, kc, g1, g2) hP hD hS ?_
    exact Or.inl ⟨fun z => c_10 z.1, rfl, rfl, rfl, rfl, rfl, rfl, rfl, rfl, rfl, rfl, rfl⟩
  · skip
    refine lv_aload_n hx hb dX3_ackOfHalf_13 rfl (lv_at hl 0 rfl) ?_
    refine va_get (D := (dC, dI)) (ci := 3) (v := .ref h) (C := RX3) (T := TX3) (N := 11) hx hb hts (k_X3_ackOfHalf_in3) hown hK hP 0 rfl rfl 1 (by decide) (hts _ k_X3_ackOfHalf_f19) (fun _ h9 => h9) rfl dX3_ackOfHalf_14 ?_
    refine va_getN (D := (dC, dI)) (ci := 1) (v := .ref a3) (C := RX1) (T := TX1) (N := 6) hx hb hts (k_X3_ackOfHalf_in1) hown hK hP 1 rfl rfl 2 (by decide) (va_Nw.use rfl (hE.2.1.2.2.2.2.2.2.2.1)) (fun _ h9 => h9) rfl dX3_ackOfHalf_17 ?_
    refine lv_iload_n hx hb dX3_ackOfHalf_20 rfl (lv_at hl 1 rfl) ?_
    refine ck_iald hx hb hK hP 4 0 rfl rfl (by omega) (by decide) dX3_ackOfHalf_21 ?_
    refine lv_iload_n hx hb dX3_ackOfHalf_22 rfl (lv_at hl 3 rfl) ?_
    refine lv_icmp_eq (tgt := 28) hx hb dX3_ackOfHalf_23 (by decide) (fun c_23 => ?_) (fun c_23 => ?_)
    · skip
      refine lv_aload_n hx hb dX3_ackOfHalf_28 rfl (lv_at hl 0 rfl) ?_
      refine va_get (D := (dC, dI)) (ci := 3) (v := .ref cn) (C := RX3) (T := TX3) (N := 11) hx hb hts (k_X3_ackOfHalf_in3) hown hK hP 0 rfl rfl 2 (by decide) (hts _ k_X3_ackOfHalf_f26) (fun _ h9 => h9) rfl dX3_ackOfHalf_29 ?_
      refine lv_aload_n hx hb dX3_ackOfHalf_32 rfl (lv_at hl 0 rfl) ?_
      refine va_get (D := (dC, dI)) (ci := 3) (v := .int rq) (C := RX3) (T := TX3) (N := 11) hx hb hts (k_X3_ackOfHalf_in3) hown hK hP 0 rfl rfl 4 (by decide) (hts _ k_X3_ackOfHalf_f34) (fun _ h9 => h9) rfl dX3_ackOfHalf_33 ?_
      refine ck_ri (va_runV (As := [.int rq]) (rest := []) ⟨hx, hb, hml, hown, hts⟩ (c_X0_hasRoom l dC dI cI cJ cZ lo _ cn b1 b2 kc t g1 g2 rq (by first | assumption | omega) (by first | assumption | omega)) (cwV 1 hts gX3_ackOfHalf_X0_hasRoom rfl rfl rfl (by decide +kernel) ⟨(Nat.le_of_ble_eq_true rfl), (Nat.le_of_ble_eq_true rfl)⟩) ⟨ck_blind, va_recv hK hP (ci := 0) (q0 := 7) rfl rfl, (ck_pre hG hP hD hS [7, 8, 9] rfl (by decide) _)⟩ rfl rfl hl.1 rfl (lv_room (Nat.le_of_ble_eq_true rfl)) dX3_ackOfHalf_36 ⟨(Nat.le_of_ble_eq_true rfl), (Nat.le_of_ble_eq_true rfl)⟩) (fun r_1 hw_1 => ?_)
      have hw_1 : (r_1 = 1 ∧ nI (kc - t) < rq ∧ kc < 64) ∨ (r_1 = 0 ∧ ¬ (nI (kc - t) < rq ∧ kc < 64)) := hw_1
      refine lv_if_ne (tgt := 44) hx hb dX3_ackOfHalf_39 (by decide) (fun c_39 => ?_) (fun c_39 => ?_)
      · skip
        have b_39 := (hw_1.resolve_right (fun z => c_39 z.1)).2
        refine lv_aload_n hx hb dX3_ackOfHalf_44 rfl (lv_at hl 0 rfl) ?_
        refine va_get (D := (dC, dI)) (ci := 3) (v := .ref cn) (C := RX3) (T := TX3) (N := 11) hx hb hts (k_X3_ackOfHalf_in3) hown hK hP 0 rfl rfl 2 (by decide) (hts _ k_X3_ackOfHalf_f26) (fun _ h9 => h9) rfl dX3_ackOfHalf_45 ?_
        refine lv_aload_n hx hb dX3_ackOfHalf_48 rfl (lv_at hl 0 rfl) ?_
        refine va_get (D := (dC, dI)) (ci := 3) (v := .ref h) (C := RX3) (T := TX3) (N := 11) hx hb hts (k_X3_ackOfHalf_in3) hown hK hP 0 rfl rfl 1 (by decide) (hts _ k_X3_ackOfHalf_f19) (fun _ h9 => h9) rfl dX3_ackOfHalf_49 ?_
        refine va_getN (D := (dC, dI)) (ci := 1) (v := .ref a1) (C := RX1) (T := TX1) (N := 6) hx hb hts (k_X3_ackOfHalf_in1) hown hK hP 1 rfl rfl 0 (by decide) (va_Nw.use rfl (hE.2.1.2.2.2.2.1)) (fun _ h9 => h9) rfl dX3_ackOfHalf_52 ?_
        refine lv_iload_n hx hb dX3_ackOfHalf_55 rfl (lv_at hl 1 rfl) ?_
        refine ck_lald hx hb hK hP 2 1 rfl rfl (by omega) (by decide) dX3_ackOfHalf_56 ?_
        refine lv_aload_n hx hb dX3_ackOfHalf_57 rfl (lv_at hl 0 rfl) ?_
        refine va_get (D := (dC, dI)) (ci := 3) (v := .ref h) (C := RX3) (T := TX3) (N := 11) hx hb hts (k_X3_ackOfHalf_in3) hown hK hP 0 rfl rfl 1 (by decide) (hts _ k_X3_ackOfHalf_f19) (fun _ h9 => h9) rfl dX3_ackOfHalf_58 ?_
        refine va_getN (D := (dC, dI)) (ci := 1) (v := .ref a4) (C := RX1) (T := TX1) (N := 6) hx hb hts (k_X3_ackOfHalf_in1) hown hK hP 1 rfl rfl 3 (by decide) (va_Nw.use rfl (hE.2.1.2.2.2.2.2.1)) (fun _ h9 => h9) rfl dX3_ackOfHalf_61 ?_
        refine lv_iload_n hx hb dX3_ackOfHalf_64 rfl (lv_at hl 1 rfl) ?_
        refine ck_iald hx hb hK hP 5 0 rfl rfl (by omega) (by decide) dX3_ackOfHalf_65 ?_
        refine ck_cv (wr := [(o, .inr (3, [.ref sp, .ref h, .ref cn, .int zs, .int rq, .int ti, .int ct, .int gv, .int bh, .int bc, .int un])), (h, .inr (1, [.ref a1, .ref a2, .ref a3, .ref a4, .ref a5, .int (nI (n + 1))])), (a1, .inl (cJ, 32, .inr (.inl f1))), (a2, .inl (cI, 32, .inl f2)), (a3, .inl (cI, 32, .inl f3)), (a4, .inl (cI, 32, .inl f4)), (a5, .inl (cI, 32, .inl f5))]) (va_runV (As := [.long (f1 j), .int (f4 j)]) (rest := []) ⟨hx, hb, hml, hown, hts⟩ (c_X0_add l dC dI cI cJ cZ lo _ cn b1 b2 kc t g1 g2 (f1 j) (f4 j) (b_39.2) (by first | assumption | omega)) (cwV 2 hts gX3_ackOfHalf_X0_add rfl rfl rfl (by decide +kernel) ⟨(Nat.le_of_ble_eq_true rfl), (Nat.le_of_ble_eq_true rfl)⟩) ⟨ck_blind, va_recv hK hP (ci := 0) (q0 := 7) rfl rfl, (ck_pre hG hP hD hS [7, 8, 9] rfl (by decide) _)⟩ rfl rfl hl.1 rfl (lv_room (Nat.le_of_ble_eq_true rfl)) dX3_ackOfHalf_66 ⟨(Nat.le_of_ble_eq_true rfl), (Nat.le_of_ble_eq_true rfl)⟩) hP hD hS hA [7, 8, 9] [0, 1, 2, 3, 4, 5, 6] rfl rfl (by decide) (by decide) (fun u H locs hw_2 hP hD hS => ?_)
        have hP : va_P (dC, dI) vwCl [(o, .inr (3, [.ref sp, .ref h, .ref cn, .int zs, .int rq, .int ti, .int ct, .int gv, .int bh, .int bc, .int un])), (h, .inr (1, [.ref a1, .ref a2, .ref a3, .ref a4, .ref a5, .int (nI (n + 1))])), (a1, .inl (cJ, 32, .inr (.inl f1))), (a2, .inl (cI, 32, .inl f2)), (a3, .inl (cI, 32, .inl f3)), (a4, .inl (cI, 32, .inl f4)), (a5, .inl (cI, 32, .inl f5)), (cn, .inr (0, [.ref b1, .ref b2, .int (nI (kc + 1)), .int (nI t)])), (b1, .inl (cJ, 64, .inr (.inl (vp_updL g1 kc (f1 j))))), (b2, .inl (cI, 64, .inl (upd g2 kc (f4 j))))] H := hP
        have hD : va_D A [(o, .inr (3, [.ref sp, .ref h, .ref cn, .int zs, .int rq, .int ti, .int ct, .int gv, .int bh, .int bc, .int un])), (h, .inr (1, [.ref a1, .ref a2, .ref a3, .ref a4, .ref a5, .int (nI (n + 1))])), (a1, .inl (cJ, 32, .inr (.inl f1))), (a2, .inl (cI, 32, .inl f2)), (a3, .inl (cI, 32, .inl f3)), (a4, .inl (cI, 32, .inl f4)), (a5, .inl (cI, 32, .inl f5)), (cn, .inr (0, [.ref b1, .ref b2, .int (nI (kc + 1)), .int (nI t)])), (b1, .inl (cJ, 64, .inr (.inl (vp_updL g1 kc (f1 j))))), (b2, .inl (cI, 64, .inl (upd g2 kc (f4 j))))] := hD
        refine lv_aload_n hx hb dX3_ackOfHalf_69 rfl (lv_at hl 0 rfl) ?_
        refine va_get (D := (dC, dI)) (ci := 3) (v := .ref h) (C := RX3) (T := TX3) (N := 11) hx hb hts (k_X3_ackOfHalf_in3) hown hK hP 0 rfl rfl 1 (by decide) (hts _ k_X3_ackOfHalf_f19) (fun _ h9 => h9) rfl dX3_ackOfHalf_70 ?_
        refine lv_iload_n hx hb dX3_ackOfHalf_73 rfl (lv_at hl 1 rfl) ?_
        refine ck_cv (wr := [(o, .inr (3, [.ref sp, .ref h, .ref cn, .int zs, .int rq, .int ti, .int ct, .int gv, .int bh, .int bc, .int un])), (cn, .inr (0, [.ref b1, .ref b2, .int (nI (kc + 1)), .int (nI t)])), (b1, .inl (cJ, 64, .inr (.inl (vp_updL g1 kc (f1 j))))), (b2, .inl (cI, 64, .inl (upd g2 kc (f4 j))))]) (va_runV (As := [.int (nI j)]) (rest := []) ⟨hx, hb, hml, hown, hts⟩ (c_X1_drop l dC dI cI cJ cZ lo _ h a1 a2 a3 a4 a5 n f1 f2 f3 f4 f5 j (by first | assumption | omega) (by first | assumption | omega)) (cwV 1 hts gX3_ackOfHalf_X1_drop rfl rfl rfl (by decide +kernel) ⟨(Nat.le_of_ble_eq_true rfl), (Nat.le_of_ble_eq_true rfl)⟩) ⟨ck_blind, va_recv hK hP (ci := 1) (q0 := 1) rfl rfl, (ck_pre hG hP hD hS [1, 2, 3, 4, 5, 6] rfl (by decide) _)⟩ rfl rfl hl.1 rfl (lv_room (Nat.le_of_ble_eq_true rfl)) dX3_ackOfHalf_74 ⟨(Nat.le_of_ble_eq_true rfl), (Nat.le_of_ble_eq_true rfl)⟩) hP hD hS hA [1, 2, 3, 4, 5, 6] [0, 7, 8, 9] rfl rfl (by decide) (by decide) (fun u H locs hw_3 hP hD hS => ?_)
        have hP : va_P (dC, dI) vwCl [(o, .inr (3, [.ref sp, .ref h, .ref cn, .int zs, .int rq, .int ti, .int ct, .int gv, .int bh, .int bc, .int un])), (cn, .inr (0, [.ref b1, .ref b2, .int (nI (kc + 1)), .int (nI t)])), (b1, .inl (cJ, 64, .inr (.inl (vp_updL g1 kc (f1 j))))), (b2, .inl (cI, 64, .inl (upd g2 kc (f4 j)))), (h, .inr (1, [.ref a1, .ref a2, .ref a3, .ref a4, .ref a5, .int (nI n)])), (a1, .inl (cJ, 32, .inr (.inl (vp_updL f1 j (f1 n))))), (a2, .inl (cI, 32, .inl (upd f2 j (f2 n)))), (a3, .inl (cI, 32, .inl (upd f3 j (f3 n)))), (a4, .inl (cI, 32, .inl (upd f4 j (f4 n)))), (a5, .inl (cI, 32, .inl (upd f5 j (f5 n))))] H := hP
        have hD : va_D A [(o, .inr (3, [.ref sp, .ref h, .ref cn, .int zs, .int rq, .int ti, .int ct, .int gv, .int bh, .int bc, .int un])), (cn, .inr (0, [.ref b1, .ref b2, .int (nI (kc + 1)), .int (nI t)])), (b1, .inl (cJ, 64, .inr (.inl (vp_updL g1 kc (f1 j))))), (b2, .inl (cI, 64, .inl (upd g2 kc (f4 j)))), (h, .inr (1, [.ref a1, .ref a2, .ref a3, .ref a4, .ref a5, .int (nI n)])), (a1, .inl (cJ, 32, .inr (.inl (vp_updL f1 j (f1 n))))), (a2, .inl (cI, 32, .inl (upd f2 j (f2 n)))), (a3, .inl (cI, 32, .inl (upd f3 j (f3 n)))), (a4, .inl (cI, 32, .inl (upd f4 j (f4 n)))), (a5, .inl (cI, 32, .inl (upd f5 j (f5 n))))] := hD
        refine lv_aload_n hx hb dX3_ackOfHalf_77 rfl (lv_at hl 0 rfl) ?_
        refine lv_dup hx hb dX3_ackOfHalf_78 rfl ?_
        refine va_get (D := (dC, dI)) (ci := 3) (v := .int bh) (C := RX3) (T := TX3) (N := 11) hx hb hts (k_X3_ackOfHalf_in3) hown hK hP 0 rfl rfl 8 (by decide) (hts _ k_X3_ackOfHalf_f46) (fun _ h9 => h9) rfl dX3_ackOfHalf_79 ?_
        refine lv_iconst (v := 1) hx hb dX3_ackOfHalf_82 (by decide) ?_
        refine lv_iadd hx hb dX3_ackOfHalf_83 ?_
        refine lv_topi (fun x_4 ex_4 => ?_)
        refine va_put (D := (dC, dI)) (ci := 3) (v := .int x_4) (ty := .int) (C := RX3) (T := TX3) (N := 11) hx hb hts (k_X3_ackOfHalf_in3) tyX3 tyX3_ok nmX3 hown hK hP hD hS 0 rfl rfl 8 (by decide) (hts _ k_X3_ackOfHalf_f46) (fun _ h9 => h9) rfl (by decide +kernel) rfl rfl (Nat.le_of_ble_eq_true rfl) dX3_ackOfHalf_84 (fun H locs hP hD hS => ?_)
        have hP : va_P (dC, dI) vwCl [(o, .inr (3, [.ref sp, .ref h, .ref cn, .int zs, .int rq, .int ti, .int ct, .int gv, .int x_4, .int bc, .int un])), (cn, .inr (0, [.ref b1, .ref b2, .int (nI (kc + 1)), .int (nI t)])), (b1, .inl (cJ, 64, .inr (.inl (vp_updL g1 kc (f1 j))))), (b2, .inl (cI, 64, .inl (upd g2 kc (f4 j)))), (h, .inr (1, [.ref a1, .ref a2, .ref a3, .ref a4, .ref a5, .int (nI n)])), (a1, .inl (cJ, 32, .inr (.inl (vp_updL f1 j (f1 n))))), (a2, .inl (cI, 32, .inl (upd f2 j (f2 n)))), (a3, .inl (cI, 32, .inl (upd f3 j (f3 n)))), (a4, .inl (cI, 32, .inl (upd f4 j (f4 n)))), (a5, .inl (cI, 32, .inl (upd f5 j (f5 n))))] H := hP
        have hD : va_D A [(o, .inr (3, [.ref sp, .ref h, .ref cn, .int zs, .int rq, .int ti, .int ct, .int gv, .int x_4, .int bc, .int un])), (cn, .inr (0, [.ref b1, .ref b2, .int (nI (kc + 1)), .int (nI t)])), (b1, .inl (cJ, 64, .inr (.inl (vp_updL g1 kc (f1 j))))), (b2, .inl (cI, 64, .inl (upd g2 kc (f4 j)))), (h, .inr (1, [.ref a1, .ref a2, .ref a3, .ref a4, .ref a5, .int (nI n)])), (a1, .inl (cJ, 32, .inr (.inl (vp_updL f1 j (f1 n))))), (a2, .inl (cI, 32, .inl (upd f2 j (f2 n)))), (a3, .inl (cI, 32, .inl (upd f3 j (f3 n)))), (a4, .inl (cI, 32, .inl (upd f4 j (f4 n)))), (a5, .inl (cI, 32, .inl (upd f5 j (f5 n))))] := hD
        refine lv_iconst (v := 2) hx hb dX3_ackOfHalf_87 (by decide) ?_
        refine ck_ir hx hb hr hlocks (Nat.le_of_ble_eq_true rfl) (Nat.le_of_ble_eq_true rfl) dX3_ackOfHalf_88 (x_4, n, vp_updL f1 j (f1 n), upd f2 j (f2 n), upd f3 j (f3 n), upd f4 j (f4 n), upd f5 j (f5 n), kc + 1, vp_updL g1 kc (f1 j), upd g2 kc (f4 j)) (hP.sub [0, 4, 5, 6, 7, 8, 9, 1, 2, 3] rfl) (hD.sub [0, 4, 5, 6, 7, 8, 9, 1, 2, 3] (by decide) rfl) hS ?_
        subst_vars
        exact Or.inr (Or.inr ⟨⟨rfl, rfl⟩, b_39, rfl, rfl, rfl, rfl, rfl, rfl, rfl, rfl, rfl, rfl, rfl⟩)
      · skip
        have b_39 := (hw_1.resolve_left (fun z => absurd (z.1.symm.trans c_39) (by decide))).2
        refine lv_iconst (v := 3) hx hb dX3_ackOfHalf_42 (by decide) ?_
        refine ck_ir hx hb hr hlocks (Nat.le_of_ble_eq_true rfl) (Nat.le_of_ble_eq_true rfl) dX3_ackOfHalf_43 (bh, n + 1, f1, f2, f3, f4, f5, kc, g1, g2) hP hD hS ?_
        exact Or.inr (Or.inl ⟨⟨c_10, c_23⟩, b_39, rfl, rfl, rfl, rfl, rfl, rfl, rfl, rfl, rfl, rfl, rfl⟩)
    · skip
      refine lv_iconst (v := 4) hx hb dX3_ackOfHalf_26 (by decide) ?_
      refine ck_ir hx hb hr hlocks (Nat.le_of_ble_eq_true rfl) (Nat.le_of_ble_eq_true rfl) dX3_ackOfHalf_27 (bh, n + 1, f1, f2, f3, f4, f5, kc, g1, g2) hP hD hS ?_
      exact Or.inl ⟨fun z => c_23 z.2, rfl, rfl, rfl, rfl, rfl, rfl, rfl, rfl, rfl, rfl, rfl⟩
set_option maxRecDepth 20000 in
theorem k_X3_ackWithoutHalf_f26 : (.fieldLink RX3 26 "CookieListener" "connections" "LCookieListener$Connections;" : Cond) ∈ wsX3_ackWithoutHalf := by decide +kernel
set_option maxRecDepth 20000 in
theorem k_X3_ackWithoutHalf_in3 : ∀ w ∈ u_ws RX3 TX3 11, w ∈ wsX3_ackWithoutHalf := by decide +kernel
set_option maxRecDepth 20000 in
theorem k_X3_ackWithoutHalf_f34 : (.fieldLink RX3 34 "CookieListener" "roomOfQueue" "I" : Cond) ∈ wsX3_ackWithoutHalf := by decide +kernel
set_option maxRecDepth 20000 in
theorem k_X3_ackWithoutHalf_f49 : (.fieldLink RX3 49 "CookieListener" "openedByCookies" "I" : Cond) ∈ wsX3_ackWithoutHalf := by decide +kernel
set_option maxHeartbeats 4000000 in
set_option maxRecDepth 100000 in
theorem c_X3_ackWithoutHalf (l : Launch) (dC : Nat → ClassId) (dI : Nat → Nat → Nat) (cI cJ cZ : ClassId) (lo sz : Nat) (o sp h cn : Nat) (zs rq ti ct gv bh bc un : Int32) (k l0 v0 v1 v2 v3 : Int64) (b1 b2 : Nat) (kc t : Nat) (g1 : Nat → Int64) (g2 : Nat → Int32) (x : Int64) (num ca : Int32) (hk : kc ≤ 64) (ht : t ≤ kc) : Met l yX3_ackWithoutHalf wsX3_ackWithoutHalf ({ frames := 6, cells := 0, slots := 0, locals := 150 } : Room) (va_Pc [.ref o, .long x, .int num, .int ca] (ck_P (dC, dI) [(cI, .int), (cJ, .long), (cZ, .boolean)] lo sz [(o, .inr (3, [.ref sp, .ref h, .ref cn, .int zs, .int rq, .int ti, .int ct, .int gv, .int bh, .int bc, .int un])), (sp, .inr (2, [.long k, .long l0, .long v0, .long v1, .long v2, .long v3])), (cn, .inr (0, [.ref b1, .ref b2, .int (nI kc), .int (nI t)])), (b1, .inl (cJ, 64, .inr (.inl g1))), (b2, .inl (cI, 64, .inl g2))])) (va_Qi (fun (r : Int32) (u : Int32 × Nat × (Nat → Int64) × (Nat → Int32) × Int64 × Int64 × Int64 × Int64) => (¬ ck_lately gv ti ct ∧ r = 8 ∧ u.2.1 = kc ∧ u.2.2.1 = g1 ∧ u.2.2.2.1 = g2 ∧ u.1 = bc) ∨ (ck_lately gv ti ct ∧ ¬ ck_late k l0 x num (((ca.toUInt32 >>> ((24 : Int32).toUInt32 &&& Int32.toUInt32 31)).toInt32) &&& 7) ti ca ∧ r = 7 ∧ u.2.1 = kc ∧ u.2.2.1 = g1 ∧ u.2.2.2.1 = g2 ∧ u.1 = bc) ∨ (ck_lately gv ti ct ∧ ck_late k l0 x num (((ca.toUInt32 >>> ((24 : Int32).toUInt32 &&& Int32.toUInt32 31)).toInt32) &&& 7) ti ca ∧ ¬ (nI (kc - t) < rq ∧ kc < 64) ∧ r = 6 ∧ u.2.1 = kc ∧ u.2.2.1 = g1 ∧ u.2.2.2.1 = g2 ∧ u.1 = bc) ∨ (ck_lately gv ti ct ∧ ck_late k l0 x num (((ca.toUInt32 >>> ((24 : Int32).toUInt32 &&& Int32.toUInt32 31)).toInt32) &&& 7) ti ca ∧ (nI (kc - t) < rq ∧ kc < 64) ∧ r = 5 ∧ u.2.1 = kc + 1 ∧ u.2.2.1 = vp_updL g1 kc x ∧ u.2.2.2.1 = upd g2 kc (((ca.toUInt32 >>> ((24 : Int32).toUInt32 &&& Int32.toUInt32 31)).toInt32) &&& 7) ∧ u.1 = bc + 1)) (fun u => ck_B (dC, dI) vwCl (va_A [(o, .inr (3, [.ref sp, .ref h, .ref cn, .int zs, .int rq, .int ti, .int ct, .int gv, .int bh, .int bc, .int un])), (sp, .inr (2, [.long k, .long l0, .long v0, .long v1, .long v2, .long v3])), (cn, .inr (0, [.ref b1, .ref b2, .int (nI kc), .int (nI t)])), (b1, .inl (cJ, 64, .inr (.inl g1))), (b2, .inl (cI, 64, .inl g2))] sz) ((fun u : Int32 × Nat × (Nat → Int64) × (Nat → Int32) × Int64 × Int64 × Int64 × Int64 => ([(o, .inr (3, [.ref sp, .ref h, .ref cn, .int zs, .int rq, .int ti, .int ct, .int gv, .int bh, .int u.1, .int un])), (sp, .inr (2, [.long k, .long l0, .long u.2.2.2.2.1, .long u.2.2.2.2.2.1, .long u.2.2.2.2.2.2.1, .long u.2.2.2.2.2.2.2])), (cn, .inr (0, [.ref b1, .ref b2, .int (nI u.2.1), .int (nI t)])), (b1, .inl (cJ, 64, .inr (.inl u.2.2.1))), (b2, .inl (cI, 64, .inl u.2.2.2.1))] : va_W)) u)) (va_A [(o, .inr (3, [.ref sp, .ref h, .ref cn, .int zs, .int rq, .int ti, .int ct, .int gv, .int bh, .int bc, .int un])), (sp, .inr (2, [.long k, .long l0, .long v0, .long v1, .long v2, .long v3])), (cn, .inr (0, [.ref b1, .ref b2, .int (nI kc), .int (nI t)])), (b1, .inl (cJ, 64, .inr (.inl g1))), (b2, .inl (cI, 64, .inl g2))] sz)) 0 0 (va_A [(o, .inr (3, [.ref sp, .ref h, .ref cn, .int zs, .int rq, .int ti, .int ct, .int gv, .int bh, .int bc, .int un])), (sp, .inr (2, [.long k, .long l0, .long v0, .long v1, .long v2, .long v3])), (cn, .inr (0, [.ref b1, .ref b2, .int (nI kc), .int (nI t)])), (b1, .inl (cJ, 64, .inr (.inl g1))), (b2, .inl (cI, 64, .inl g2))] sz) := by
  refine Met.ofW (cc := cX3_ackWithoutHalf) (maxL := 6) (ret := (some .int)) (by decide) rfl ?_
  intro p e s m args below meth c s₁ B hml hv
  obtain ⟨rfl, hsz, hP, hK, hD0, hE⟩ := hv
  have hx := B.exec
  have hb := B.bytes
  have hr := B.returns
  have hts := atoms_spec (ws := wsX3_ackWithoutHalf) B.pre
  have hown : s.vm.findClass RX3 = some m.cls := findClass_of_methodNamed B.named
  have hlocks := B.notSynchronized
  subst hsz
  have hD := hD0.self (sz := s.heap.size)
  have hlo := ck_lo (sz := s.heap.size) hD0 hE.1
  generalize hAe : va_A [(o, .inr (3, [.ref sp, .ref h, .ref cn, .int zs, .int rq, .int ti, .int ct, .int gv, .int bh, .int bc, .int un])), (sp, .inr (2, [.long k, .long l0, .long v0, .long v1, .long v2, .long v3])), (cn, .inr (0, [.ref b1, .ref b2, .int (nI kc), .int (nI t)])), (b1, .inl (cJ, 64, .inr (.inl g1))), (b2, .inl (cI, 64, .inl g2))] s.heap.size = A at hD hlo ⊢
  have hA : ∀ q : Nat, s.heap.size ≤ q → A q := fun q h => by rw [← hAe]; exact Or.inr h
  have hG : ck_G (dC, dI) [(cI, .int), (cJ, .long), (cZ, .boolean)] lo A s := ⟨hK, hE, hA, hlo⟩
  have hS : va_S A s.heap s.heap [] := va_S.rf
  have hP : va_P (dC, dI) vwCl [(o, .inr (3, [.ref sp, .ref h, .ref cn, .int zs, .int rq, .int ti, .int ct, .int gv, .int bh, .int bc, .int un])), (sp, .inr (2, [.long k, .long l0, .long v0, .long v1, .long v2, .long v3])), (cn, .inr (0, [.ref b1, .ref b2, .int (nI kc), .int (nI t)])), (b1, .inl (cJ, 64, .inr (.inl g1))), (b2, .inl (cI, 64, .inl g2))] s.heap := hP
  have hl := lv_entry ([.ref o, .long x, .int num, .int ca]) (n := 6) (Nat.le_of_ble_eq_true rfl)
  rw [lg_entry_eq]
  generalize (lg_sl ([.ref o, .long x, .int num, .int ca]) ++ List.replicate (6 - (lg_sl ([.ref o, .long x, .int num, .int ca])).length) Slot.unset).toArray = ls at hl ⊢
  have hl : lv_has ls 6 [(0, .ref o), (1, .long x), (3, .int num), (4, .int ca)] := hl
  refine lv_aload_n hx hb dX3_ackWithoutHalf_0 rfl (lv_at hl 0 rfl) ?_
  refine ck_ri (va_runV (As := []) (rest := []) ⟨hx, hb, hml, hown, hts⟩ (c_X3_lately l dC dI cI cJ cZ lo _ o sp h cn zs rq ti ct gv bh bc un) (cwV 0 hts gX3_ackWithoutHalf_X3_cookiesGivenLately rfl rfl rfl (by decide +kernel) ⟨(Nat.le_of_ble_eq_true rfl), (Nat.le_of_ble_eq_true rfl)⟩) ⟨ck_blind, va_recv hK hP (ci := 3) (q0 := 0) rfl rfl, (ck_pre hG hP hD hS [0] rfl (by decide) _)⟩ rfl rfl hl.1 rfl (lv_room (Nat.le_of_ble_eq_true rfl)) dX3_ackWithoutHalf_1 ⟨(Nat.le_of_ble_eq_true rfl), (Nat.le_of_ble_eq_true rfl)⟩) (fun r_1 hw_1 => ?_)
  have hw_1 : (r_1 = 1 ∧ ck_lately gv ti ct) ∨ (r_1 = 0 ∧ ¬ ck_lately gv ti ct) := hw_1
  refine lv_if_ne (tgt := 10) hx hb dX3_ackWithoutHalf_4 (by decide) (fun c_4 => ?_) (fun c_4 => ?_)
  · skip
    have b_4 := (hw_1.resolve_right (fun z => c_4 z.1)).2
    refine lv_iload hx hb dX3_ackWithoutHalf_10 (lv_at hl 3 rfl) ?_
    refine lv_bipush (v := 24) hx hb dX3_ackWithoutHalf_12 (by decide) ?_
    refine lv_iushr hx hb dX3_ackWithoutHalf_14 rfl ?_
    refine lv_bipush (v := 7) hx hb dX3_ackWithoutHalf_15 (by decide) ?_
    refine lv_iand hx hb dX3_ackWithoutHalf_17 ?_
    refine lv_topi (fun x_2 ex_2 => ?_)
    refine lv_istore (lv' := [(5, .int x_2), (0, .ref o), (1, .long x), (3, .int num), (4, .int ca)]) hx hb dX3_ackWithoutHalf_18 hl (by decide) rfl (fun ls hl => ?_)
    refine lv_aload_n hx hb dX3_ackWithoutHalf_20 rfl (lv_at hl 1 rfl) ?_
    refine lv_iload hx hb dX3_ackWithoutHalf_21 (lv_at hl 4 rfl) ?_
    refine lv_lload_n hx hb dX3_ackWithoutHalf_23 rfl (lv_at hl 2 rfl) ?_
    refine lv_iload_n hx hb dX3_ackWithoutHalf_24 rfl (lv_at hl 3 rfl) ?_
    refine lv_iload hx hb dX3_ackWithoutHalf_25 (lv_at hl 0 rfl) ?_
    refine ck_ci (wr := [(cn, .inr (0, [.ref b1, .ref b2, .int (nI kc), .int (nI t)])), (b1, .inl (cJ, 64, .inr (.inl g1))), (b2, .inl (cI, 64, .inl g2))]) (va_runV (As := [.int ca, .long x, .int num, .int x_2]) (rest := []) ⟨hx, hb, hml, hown, hts⟩ (c_X3_isLate l dC dI cI cJ cZ lo _ o sp h cn zs rq ti ct gv bh bc un k l0 v0 v1 v2 v3 x num x_2 ca) (cwV 4 hts gX3_ackWithoutHalf_X3_isCookieOfLateSlot rfl rfl rfl (by decide +kernel) ⟨(Nat.le_of_ble_eq_true rfl), (Nat.le_of_ble_eq_true rfl)⟩) ⟨ck_blind, va_recv hK hP (ci := 3) (q0 := 0) rfl rfl, (ck_pre hG hP hD hS [0, 1] rfl (by decide) _)⟩ rfl rfl hl.1 rfl (lv_room (Nat.le_of_ble_eq_true rfl)) dX3_ackWithoutHalf_27 ⟨(Nat.le_of_ble_eq_true rfl), (Nat.le_of_ble_eq_true rfl)⟩) hP hD hS hA [0, 1] [2, 3, 4] rfl rfl (by decide) (by decide) (fun r_3 u H locs hw_3 hP hD hS => ?_)
    obtain ⟨u0_3, u1_3, u2_3, u3_3⟩ := u
    have hw_3 : (r_3 = 1 ∧ ck_late k l0 x num x_2 ti ca) ∨ (r_3 = 0 ∧ ¬ ck_late k l0 x num x_2 ti ca) := hw_3
    have hP : va_P (dC, dI) vwCl [(cn, .inr (0, [.ref b1, .ref b2, .int (nI kc), .int (nI t)])), (b1, .inl (cJ, 64, .inr (.inl g1))), (b2, .inl (cI, 64, .inl g2)), (o, .inr (3, [.ref sp, .ref h, .ref cn, .int zs, .int rq, .int ti, .int ct, .int gv, .int bh, .int bc, .int un])), (sp, .inr (2, [.long k, .long l0, .long u0_3, .long u1_3, .long u2_3, .long u3_3]))] H := hP
    have hD : va_D A [(cn, .inr (0, [.ref b1, .ref b2, .int (nI kc), .int (nI t)])), (b1, .inl (cJ, 64, .inr (.inl g1))), (b2, .inl (cI, 64, .inl g2)), (o, .inr (3, [.ref sp, .ref h, .ref cn, .int zs, .int rq, .int ti, .int ct, .int gv, .int bh, .int bc, .int un])), (sp, .inr (2, [.long k, .long l0, .long u0_3, .long u1_3, .long u2_3, .long u3_3]))] := hD
    refine lv_if_ne (tgt := 36) hx hb dX3_ackWithoutHalf_30 (by decide) (fun c_30 => ?_) (fun c_30 => ?_)
    · skip
      have b_30 := (hw_3.resolve_right (fun z => c_30 z.1)).2
      refine lv_aload_n hx hb dX3_ackWithoutHalf_36 rfl (lv_at hl 1 rfl) ?_
      refine va_get (D := (dC, dI)) (ci := 3) (v := .ref cn) (C := RX3) (T := TX3) (N := 11) hx hb hts (k_X3_ackWithoutHalf_in3) hown hK hP 3 rfl rfl 2 (by decide) (hts _ k_X3_ackWithoutHalf_f26) (fun _ h9 => h9) rfl dX3_ackWithoutHalf_37 ?_
      refine lv_aload_n hx hb dX3_ackWithoutHalf_40 rfl (lv_at hl 1 rfl) ?_
      refine va_get (D := (dC, dI)) (ci := 3) (v := .int rq) (C := RX3) (T := TX3) (N := 11) hx hb hts (k_X3_ackWithoutHalf_in3) hown hK hP 3 rfl rfl 4 (by decide) (hts _ k_X3_ackWithoutHalf_f34) (fun _ h9 => h9) rfl dX3_ackWithoutHalf_41 ?_
      refine ck_ri (va_runV (As := [.int rq]) (rest := []) ⟨hx, hb, hml, hown, hts⟩ (c_X0_hasRoom l dC dI cI cJ cZ lo _ cn b1 b2 kc t g1 g2 rq (by first | assumption | omega) (by first | assumption | omega)) (cwV 1 hts gX3_ackWithoutHalf_X0_hasRoom rfl rfl rfl (by decide +kernel) ⟨(Nat.le_of_ble_eq_true rfl), (Nat.le_of_ble_eq_true rfl)⟩) ⟨ck_blind, va_recv hK hP (ci := 0) (q0 := 0) rfl rfl, (ck_pre hG hP hD hS [0, 1, 2] rfl (by decide) _)⟩ rfl rfl hl.1 rfl (lv_room (Nat.le_of_ble_eq_true rfl)) dX3_ackWithoutHalf_44 ⟨(Nat.le_of_ble_eq_true rfl), (Nat.le_of_ble_eq_true rfl)⟩) (fun r_4 hw_4 => ?_)
      have hw_4 : (r_4 = 1 ∧ nI (kc - t) < rq ∧ kc < 64) ∨ (r_4 = 0 ∧ ¬ (nI (kc - t) < rq ∧ kc < 64)) := hw_4
      refine lv_if_ne (tgt := 53) hx hb dX3_ackWithoutHalf_47 (by decide) (fun c_47 => ?_) (fun c_47 => ?_)
      · skip
        have b_47 := (hw_4.resolve_right (fun z => c_47 z.1)).2
        refine lv_aload_n hx hb dX3_ackWithoutHalf_53 rfl (lv_at hl 1 rfl) ?_
        refine va_get (D := (dC, dI)) (ci := 3) (v := .ref cn) (C := RX3) (T := TX3) (N := 11) hx hb hts (k_X3_ackWithoutHalf_in3) hown hK hP 3 rfl rfl 2 (by decide) (hts _ k_X3_ackWithoutHalf_f26) (fun _ h9 => h9) rfl dX3_ackWithoutHalf_54 ?_
        refine lv_lload_n hx hb dX3_ackWithoutHalf_57 rfl (lv_at hl 2 rfl) ?_
        refine lv_iload hx hb dX3_ackWithoutHalf_58 (lv_at hl 0 rfl) ?_
        refine ck_cv (wr := [(o, .inr (3, [.ref sp, .ref h, .ref cn, .int zs, .int rq, .int ti, .int ct, .int gv, .int bh, .int bc, .int un])), (sp, .inr (2, [.long k, .long l0, .long u0_3, .long u1_3, .long u2_3, .long u3_3]))]) (va_runV (As := [.long x, .int x_2]) (rest := []) ⟨hx, hb, hml, hown, hts⟩ (c_X0_add l dC dI cI cJ cZ lo _ cn b1 b2 kc t g1 g2 x x_2 (b_47.2) (by first | assumption | omega)) (cwV 2 hts gX3_ackWithoutHalf_X0_add rfl rfl rfl (by decide +kernel) ⟨(Nat.le_of_ble_eq_true rfl), (Nat.le_of_ble_eq_true rfl)⟩) ⟨ck_blind, va_recv hK hP (ci := 0) (q0 := 0) rfl rfl, (ck_pre hG hP hD hS [0, 1, 2] rfl (by decide) _)⟩ rfl rfl hl.1 rfl (lv_room (Nat.le_of_ble_eq_true rfl)) dX3_ackWithoutHalf_60 ⟨(Nat.le_of_ble_eq_true rfl), (Nat.le_of_ble_eq_true rfl)⟩) hP hD hS hA [0, 1, 2] [3, 4] rfl rfl (by decide) (by decide) (fun u H locs hw_5 hP hD hS => ?_)
        have hP : va_P (dC, dI) vwCl [(o, .inr (3, [.ref sp, .ref h, .ref cn, .int zs, .int rq, .int ti, .int ct, .int gv, .int bh, .int bc, .int un])), (sp, .inr (2, [.long k, .long l0, .long u0_3, .long u1_3, .long u2_3, .long u3_3])), (cn, .inr (0, [.ref b1, .ref b2, .int (nI (kc + 1)), .int (nI t)])), (b1, .inl (cJ, 64, .inr (.inl (vp_updL g1 kc x)))), (b2, .inl (cI, 64, .inl (upd g2 kc x_2)))] H := hP
        have hD : va_D A [(o, .inr (3, [.ref sp, .ref h, .ref cn, .int zs, .int rq, .int ti, .int ct, .int gv, .int bh, .int bc, .int un])), (sp, .inr (2, [.long k, .long l0, .long u0_3, .long u1_3, .long u2_3, .long u3_3])), (cn, .inr (0, [.ref b1, .ref b2, .int (nI (kc + 1)), .int (nI t)])), (b1, .inl (cJ, 64, .inr (.inl (vp_updL g1 kc x)))), (b2, .inl (cI, 64, .inl (upd g2 kc x_2)))] := hD
        refine lv_aload_n hx hb dX3_ackWithoutHalf_63 rfl (lv_at hl 1 rfl) ?_
        refine lv_dup hx hb dX3_ackWithoutHalf_64 rfl ?_
        refine va_get (D := (dC, dI)) (ci := 3) (v := .int bc) (C := RX3) (T := TX3) (N := 11) hx hb hts (k_X3_ackWithoutHalf_in3) hown hK hP 0 rfl rfl 9 (by decide) (hts _ k_X3_ackWithoutHalf_f49) (fun _ h9 => h9) rfl dX3_ackWithoutHalf_65 ?_
        refine lv_iconst (v := 1) hx hb dX3_ackWithoutHalf_68 (by decide) ?_
        refine lv_iadd hx hb dX3_ackWithoutHalf_69 ?_
        refine lv_topi (fun x_6 ex_6 => ?_)
        refine va_put (D := (dC, dI)) (ci := 3) (v := .int x_6) (ty := .int) (C := RX3) (T := TX3) (N := 11) hx hb hts (k_X3_ackWithoutHalf_in3) tyX3 tyX3_ok nmX3 hown hK hP hD hS 0 rfl rfl 9 (by decide) (hts _ k_X3_ackWithoutHalf_f49) (fun _ h9 => h9) rfl (by decide +kernel) rfl rfl (Nat.le_of_ble_eq_true rfl) dX3_ackWithoutHalf_70 (fun H locs hP hD hS => ?_)
        have hP : va_P (dC, dI) vwCl [(o, .inr (3, [.ref sp, .ref h, .ref cn, .int zs, .int rq, .int ti, .int ct, .int gv, .int bh, .int x_6, .int un])), (sp, .inr (2, [.long k, .long l0, .long u0_3, .long u1_3, .long u2_3, .long u3_3])), (cn, .inr (0, [.ref b1, .ref b2, .int (nI (kc + 1)), .int (nI t)])), (b1, .inl (cJ, 64, .inr (.inl (vp_updL g1 kc x)))), (b2, .inl (cI, 64, .inl (upd g2 kc x_2)))] H := hP
        have hD : va_D A [(o, .inr (3, [.ref sp, .ref h, .ref cn, .int zs, .int rq, .int ti, .int ct, .int gv, .int bh, .int x_6, .int un])), (sp, .inr (2, [.long k, .long l0, .long u0_3, .long u1_3, .long u2_3, .long u3_3])), (cn, .inr (0, [.ref b1, .ref b2, .int (nI (kc + 1)), .int (nI t)])), (b1, .inl (cJ, 64, .inr (.inl (vp_updL g1 kc x)))), (b2, .inl (cI, 64, .inl (upd g2 kc x_2)))] := hD
        refine lv_iconst (v := 5) hx hb dX3_ackWithoutHalf_73 (by decide) ?_
        refine ck_ir hx hb hr hlocks (Nat.le_of_ble_eq_true rfl) (Nat.le_of_ble_eq_true rfl) dX3_ackWithoutHalf_74 (x_6, kc + 1, vp_updL g1 kc x, upd g2 kc x_2, u0_3, u1_3, u2_3, u3_3) hP hD hS ?_
        subst_vars
        exact Or.inr (Or.inr (Or.inr ⟨b_4, b_30, b_47, rfl, rfl, rfl, rfl, rfl⟩))
      · skip
        have b_47 := (hw_4.resolve_left (fun z => absurd (z.1.symm.trans c_47) (by decide))).2
        refine lv_bipush (v := 6) hx hb dX3_ackWithoutHalf_50 (by decide) ?_
        refine ck_ir hx hb hr hlocks (Nat.le_of_ble_eq_true rfl) (Nat.le_of_ble_eq_true rfl) dX3_ackWithoutHalf_52 (bc, kc, g1, g2, u0_3, u1_3, u2_3, u3_3) (hP.sub [3, 4, 0, 1, 2] rfl) (hD.sub [3, 4, 0, 1, 2] (by decide) rfl) hS ?_
        subst_vars
        exact Or.inr (Or.inr (Or.inl ⟨b_4, b_30, b_47, rfl, rfl, rfl, rfl, rfl⟩))
    · skip
      have b_30 := (hw_3.resolve_left (fun z => absurd (z.1.symm.trans c_30) (by decide))).2
      refine lv_bipush (v := 7) hx hb dX3_ackWithoutHalf_33 (by decide) ?_
      refine ck_ir hx hb hr hlocks (Nat.le_of_ble_eq_true rfl) (Nat.le_of_ble_eq_true rfl) dX3_ackWithoutHalf_35 (bc, kc, g1, g2, u0_3, u1_3, u2_3, u3_3) (hP.sub [3, 4, 0, 1, 2] rfl) (hD.sub [3, 4, 0, 1, 2] (by decide) rfl) hS ?_
      subst_vars
      exact Or.inr (Or.inl ⟨b_4, b_30, rfl, rfl, rfl, rfl, rfl⟩)
  · skip
    have b_4 := (hw_1.resolve_left (fun z => absurd (z.1.symm.trans c_4) (by decide))).2
    refine lv_bipush (v := 8) hx hb dX3_ackWithoutHalf_7 (by decide) ?_
    refine ck_ir hx hb hr hlocks (Nat.le_of_ble_eq_true rfl) (Nat.le_of_ble_eq_true rfl) dX3_ackWithoutHalf_9 (bc, kc, g1, g2, v0, v1, v2, v3) hP hD hS ?_
    exact Or.inl ⟨b_4, rfl, rfl, rfl, rfl, rfl⟩
