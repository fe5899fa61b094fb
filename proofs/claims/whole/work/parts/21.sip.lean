/-! SipHash: the class's and the model's words -/
abbrev ck_V4 : Type := Int64 × Int64 × Int64 × Int64
def ck_rot (w : Int64) (b : Int32) : Int64 := (w <<< (b.toInt64 &&& 63)) ||| (w.toUInt64 >>> ((64 - b).toInt64.toUInt64 &&& Int64.toUInt64 63)).toInt64
def ck_round (v : ck_V4) : ck_V4 :=
  let a0 := v.1 + v.2.1
  let a1 := ck_rot v.2.1 13 ^^^ a0
  let b0 := ck_rot a0 32
  let a2 := v.2.2.1 + v.2.2.2
  let a3 := ck_rot v.2.2.2 16 ^^^ a2
  let c0 := b0 + a3
  let b3 := ck_rot a3 21 ^^^ c0
  let b2 := a2 + a1
  let b1 := ck_rot a1 17 ^^^ b2
  (c0, b1, ck_rot b2 32, b3)
def ck_mix : Nat → ck_V4 → ck_V4
  | 0, v => v
  | n + 1, v => ck_mix n (ck_round v)
def ck_absorb (v : ck_V4) (w : Int64) : ck_V4 :=
  ((ck_mix 2 (v.1, v.2.1, v.2.2.1, v.2.2.2 ^^^ w)).1 ^^^ w, (ck_mix 2 (v.1, v.2.1, v.2.2.1, v.2.2.2 ^^^ w)).2)
def ck_sip0 (k l : Int64) : ck_V4 := (k ^^^ 8317987319222330741, l ^^^ 7237128888997146477, k ^^^ 7816392313619706465, l ^^^ 8387220255154660723)
def ck_sipE (v : ck_V4) : Int64 := (ck_mix 4 (v.1, v.2.1, v.2.2.1 ^^^ 255, v.2.2.2)).1 ^^^ (ck_mix 4 (v.1, v.2.1, v.2.2.1 ^^^ 255, v.2.2.2)).2.1 ^^^ (ck_mix 4 (v.1, v.2.1, v.2.2.1 ^^^ 255, v.2.2.2)).2.2.1 ^^^ (ck_mix 4 (v.1, v.2.1, v.2.2.1 ^^^ 255, v.2.2.2)).2.2.2
def ck_sip (k l m n : Int64) : Int64 := ck_sipE (ck_absorb (ck_absorb (ck_absorb (ck_sip0 k l) m) n) 1152921504606846976)
theorem ck_mixS (n : Nat) (v : ck_V4) : ck_mix (n + 1) v = ck_mix n (ck_round v) := rfl
set_option maxHeartbeats 4000000 in
set_option maxRecDepth 100000 in
theorem c_X2_turnLeft (l : Launch) (dC : Nat → ClassId) (dI : Nat → Nat → Nat) (cI cJ cZ : ClassId) (lo sz : Nat) (w : Int64) (b : Int32) : Met l yX2_turnLeft wsX2_turnLeft ({ frames := 0, cells := 0, slots := 0, locals := 0 } : Room) (va_Pc [.long w, .int b] (ck_P (dC, dI) [(cI, .int), (cJ, .long), (cZ, .boolean)] lo sz [])) (vp_Sl (fun (r : Int64) => r = ck_rot w b)) 0 0 (fun _ => False) := by
  refine Met.ofW (cc := cX2_turnLeft) (maxL := 3) (ret := (some .long)) (by decide) rfl ?_
  intro p e s m args below meth c s₁ B hml hv
  obtain ⟨rfl, hsz, hP, hK, hD0, hE⟩ := hv
  have hx := B.exec
  have hb := B.bytes
  have hr := B.returns
  have hts := atoms_spec (ws := wsX2_turnLeft) B.pre
  have hown : s.vm.findClass RX2 = some m.cls := findClass_of_methodNamed B.named
  have hlocks := B.notSynchronized
  subst hsz
  have hD := hD0.self (sz := s.heap.size)
  have hlo := ck_lo (sz := s.heap.size) hD0 hE.1
  generalize hAe : va_A [] s.heap.size = A at hD hlo
  have hA : ∀ q : Nat, s.heap.size ≤ q → A q := fun q h => by rw [← hAe]; exact Or.inr h
  have hG : ck_G (dC, dI) [(cI, .int), (cJ, .long), (cZ, .boolean)] lo A s := ⟨hK, hE, hA, hlo⟩
  have hS : va_S A s.heap s.heap [] := va_S.rf
  have hP : va_P (dC, dI) vwCl [] s.heap := hP
  have hl := lv_entry ([.long w, .int b]) (n := 3) (Nat.le_of_ble_eq_true rfl)
  rw [lg_entry_eq]
  generalize (lg_sl ([.long w, .int b]) ++ List.replicate (3 - (lg_sl ([.long w, .int b])).length) Slot.unset).toArray = ls at hl ⊢
  have hl : lv_has ls 3 [(0, .long w), (2, .int b)] := hl
  refine lv_lload_n hx hb dX2_turnLeft_0 rfl (lv_at hl 0 rfl) ?_
  refine lv_iload_n hx hb dX2_turnLeft_1 rfl (lv_at hl 1 rfl) ?_
  refine lv_lshl hx hb dX2_turnLeft_2 rfl ?_
  refine lv_lload_n hx hb dX2_turnLeft_3 rfl (lv_at hl 0 rfl) ?_
  refine lv_bipush (v := 64) hx hb dX2_turnLeft_4 (by decide) ?_
  refine lv_iload_n hx hb dX2_turnLeft_6 rfl (lv_at hl 1 rfl) ?_
  refine lv_isub hx hb dX2_turnLeft_7 ?_
  refine lv_lushr hx hb dX2_turnLeft_8 rfl ?_
  refine lv_lor hx hb dX2_turnLeft_9 ?_
  refine ck_lq hx hb hr hlocks dX2_turnLeft_10 ?_
  exact rfl
set_option maxRecDepth 20000 in
theorem k_X2_init_l1 : (.methodLink RX2 1 objectInit : Cond) ∈ wsX2_init := by decide +kernel
set_option maxRecDepth 20000 in
theorem k_X2_init_mObj : (.instanceMethod objectInit : Cond) ∈ wsX2_init := by decide +kernel
set_option maxRecDepth 20000 in
theorem k_X2_init_cObj : (.code objectInit ⟨#[0xb1]⟩ 1 none : Cond) ∈ wsX2_init := by decide +kernel
set_option maxRecDepth 20000 in
theorem k_X2_init_f7 : (.fieldLink RX2 7 "CookieListener$SipHash" "k" "J" : Cond) ∈ wsX2_init := by decide +kernel
set_option maxRecDepth 20000 in
theorem k_X2_init_in2 : ∀ w ∈ u_ws RX2 TX2 6, w ∈ wsX2_init := by decide +kernel
set_option maxRecDepth 20000 in
theorem k_X2_init_f13 : (.fieldLink RX2 13 "CookieListener$SipHash" "l" "J" : Cond) ∈ wsX2_init := by decide +kernel
set_option maxRecDepth 20000 in
theorem k_X2_init_f16 : (.fieldLink RX2 16 "CookieListener$SipHash" "v0" "J" : Cond) ∈ wsX2_init := by decide +kernel
set_option maxRecDepth 20000 in
theorem k_X2_init_f19 : (.fieldLink RX2 19 "CookieListener$SipHash" "v1" "J" : Cond) ∈ wsX2_init := by decide +kernel
set_option maxRecDepth 20000 in
theorem k_X2_init_f22 : (.fieldLink RX2 22 "CookieListener$SipHash" "v2" "J" : Cond) ∈ wsX2_init := by decide +kernel
set_option maxRecDepth 20000 in
theorem k_X2_init_f25 : (.fieldLink RX2 25 "CookieListener$SipHash" "v3" "J" : Cond) ∈ wsX2_init := by decide +kernel
set_option maxHeartbeats 4000000 in
set_option maxRecDepth 100000 in
theorem c_X2_init (l : Launch) (dC : Nat → ClassId) (dI : Nat → Nat → Nat) (cI cJ cZ : ClassId) (lo sz : Nat) (h : Nat) : Met l yX2_init wsX2_init ({ frames := 1, cells := 0, slots := 0, locals := 12 } : Room) (va_Pc [.ref h] (ck_P (dC, dI) [(cI, .int), (cJ, .long), (cZ, .boolean)] lo sz [(h, .inr (2, [.long 0, .long 0, .long 0, .long 0, .long 0, .long 0]))])) (va_Qv (fun (u : Unit) => True) (fun u => ck_B (dC, dI) vwCl (va_A [(h, .inr (2, [.long 0, .long 0, .long 0, .long 0, .long 0, .long 0]))] sz) ((fun u : Unit => ([(h, .inr (2, [.long 0, .long 0, .long 0, .long 0, .long 0, .long 0]))] : va_W)) u)) (va_A [(h, .inr (2, [.long 0, .long 0, .long 0, .long 0, .long 0, .long 0]))] sz)) 0 0 (va_A [(h, .inr (2, [.long 0, .long 0, .long 0, .long 0, .long 0, .long 0]))] sz) := by
  refine Met.ofW (cc := cX2_init) (maxL := 1) (ret := none) (by decide) rfl ?_
  intro p e s m args below meth c s₁ B hml hv
  obtain ⟨rfl, hsz, hP, hK, hD0, hE⟩ := hv
  have hx := B.exec
  have hb := B.bytes
  have hr := B.returns
  have hts := atoms_spec (ws := wsX2_init) B.pre
  have hown : s.vm.findClass RX2 = some m.cls := findClass_of_methodNamed B.named
  have hlocks := B.notSynchronized
  have hin : meth.name = "<init>" := (name_of_methodNamed B.named B.method).1
  subst hsz
  have hD := hD0.self (sz := s.heap.size)
  have hlo := ck_lo (sz := s.heap.size) hD0 hE.1
  generalize hAe : va_A [(h, .inr (2, [.long 0, .long 0, .long 0, .long 0, .long 0, .long 0]))] s.heap.size = A at hD hlo ⊢
  have hA : ∀ q : Nat, s.heap.size ≤ q → A q := fun q h => by rw [← hAe]; exact Or.inr h
  have hG : ck_G (dC, dI) [(cI, .int), (cJ, .long), (cZ, .boolean)] lo A s := ⟨hK, hE, hA, hlo⟩
  have hS : va_S A s.heap s.heap [] := va_S.rf
  have hP : va_P (dC, dI) vwCl [(h, .inr (2, [.long 0, .long 0, .long 0, .long 0, .long 0, .long 0]))] s.heap := hP
  have hl := lv_entry ([.ref h]) (n := 1) (Nat.le_of_ble_eq_true rfl)
  rw [lg_entry_eq]
  generalize (lg_sl ([.ref h]) ++ List.replicate (1 - (lg_sl ([.ref h])).length) Slot.unset).toArray = ls at hl ⊢
  have hl : lv_has ls 1 [(0, .ref h)] := hl
  refine lv_aload_n hx hb dX2_init_0 rfl (lv_at hl 0 rfl) ?_
  refine W.objInit hx hb hown (hts _ k_X2_init_l1) (hts _ k_X2_init_mObj) (hts _ k_X2_init_cObj) rfl (by rw [hml]; exact hl.1) rfl dX2_init_1 (Nat.le_of_ble_eq_true rfl) (Nat.le_of_ble_eq_true rfl) ?_
  refine W.eq (g2 := F0 m 4 ls []) rfl ?_
  refine lv_aload_n hx hb dX2_init_4 rfl (lv_at hl 0 rfl) ?_
  refine lv_lconst (v := 0) hx hb dX2_init_5 (by decide) ?_
  refine va_put (D := (dC, dI)) (ci := 2) (v := .long 0) (ty := .long) (C := RX2) (T := TX2) (N := 6) hx hb hts (k_X2_init_in2) tyX2 tyX2_ok nmX2 hown hK hP hD hS 0 rfl rfl 0 (by decide) (hts _ k_X2_init_f7) (fun _ h9 => h9) rfl (by decide +kernel) rfl rfl (Nat.le_of_ble_eq_true rfl) dX2_init_6 (fun H locs hP hD hS => ?_)
  have hP : va_P (dC, dI) vwCl [(h, .inr (2, [.long 0, .long 0, .long 0, .long 0, .long 0, .long 0]))] H := hP
  have hD : va_D A [(h, .inr (2, [.long 0, .long 0, .long 0, .long 0, .long 0, .long 0]))] := hD
  refine lv_aload_n hx hb dX2_init_9 rfl (lv_at hl 0 rfl) ?_
  refine lv_lconst (v := 0) hx hb dX2_init_10 (by decide) ?_
  refine va_put (D := (dC, dI)) (ci := 2) (v := .long 0) (ty := .long) (C := RX2) (T := TX2) (N := 6) hx hb hts (k_X2_init_in2) tyX2 tyX2_ok nmX2 hown hK hP hD hS 0 rfl rfl 1 (by decide) (hts _ k_X2_init_f13) (fun _ h9 => h9) rfl (by decide +kernel) rfl rfl (Nat.le_of_ble_eq_true rfl) dX2_init_11 (fun H locs hP hD hS => ?_)
  have hP : va_P (dC, dI) vwCl [(h, .inr (2, [.long 0, .long 0, .long 0, .long 0, .long 0, .long 0]))] H := hP
  have hD : va_D A [(h, .inr (2, [.long 0, .long 0, .long 0, .long 0, .long 0, .long 0]))] := hD
  refine lv_aload_n hx hb dX2_init_14 rfl (lv_at hl 0 rfl) ?_
  refine lv_lconst (v := 0) hx hb dX2_init_15 (by decide) ?_
  refine va_put (D := (dC, dI)) (ci := 2) (v := .long 0) (ty := .long) (C := RX2) (T := TX2) (N := 6) hx hb hts (k_X2_init_in2) tyX2 tyX2_ok nmX2 hown hK hP hD hS 0 rfl rfl 2 (by decide) (hts _ k_X2_init_f16) (fun _ h9 => h9) rfl (by decide +kernel) rfl rfl (Nat.le_of_ble_eq_true rfl) dX2_init_16 (fun H locs hP hD hS => ?_)
  have hP : va_P (dC, dI) vwCl [(h, .inr (2, [.long 0, .long 0, .long 0, .long 0, .long 0, .long 0]))] H := hP
  have hD : va_D A [(h, .inr (2, [.long 0, .long 0, .long 0, .long 0, .long 0, .long 0]))] := hD
  refine lv_aload_n hx hb dX2_init_19 rfl (lv_at hl 0 rfl) ?_
  refine lv_lconst (v := 0) hx hb dX2_init_20 (by decide) ?_
  refine va_put (D := (dC, dI)) (ci := 2) (v := .long 0) (ty := .long) (C := RX2) (T := TX2) (N := 6) hx hb hts (k_X2_init_in2) tyX2 tyX2_ok nmX2 hown hK hP hD hS 0 rfl rfl 3 (by decide) (hts _ k_X2_init_f19) (fun _ h9 => h9) rfl (by decide +kernel) rfl rfl (Nat.le_of_ble_eq_true rfl) dX2_init_21 (fun H locs hP hD hS => ?_)
  have hP : va_P (dC, dI) vwCl [(h, .inr (2, [.long 0, .long 0, .long 0, .long 0, .long 0, .long 0]))] H := hP
  have hD : va_D A [(h, .inr (2, [.long 0, .long 0, .long 0, .long 0, .long 0, .long 0]))] := hD
  refine lv_aload_n hx hb dX2_init_24 rfl (lv_at hl 0 rfl) ?_
  refine lv_lconst (v := 0) hx hb dX2_init_25 (by decide) ?_
  refine va_put (D := (dC, dI)) (ci := 2) (v := .long 0) (ty := .long) (C := RX2) (T := TX2) (N := 6) hx hb hts (k_X2_init_in2) tyX2 tyX2_ok nmX2 hown hK hP hD hS 0 rfl rfl 4 (by decide) (hts _ k_X2_init_f22) (fun _ h9 => h9) rfl (by decide +kernel) rfl rfl (Nat.le_of_ble_eq_true rfl) dX2_init_26 (fun H locs hP hD hS => ?_)
  have hP : va_P (dC, dI) vwCl [(h, .inr (2, [.long 0, .long 0, .long 0, .long 0, .long 0, .long 0]))] H := hP
  have hD : va_D A [(h, .inr (2, [.long 0, .long 0, .long 0, .long 0, .long 0, .long 0]))] := hD
  refine lv_aload_n hx hb dX2_init_29 rfl (lv_at hl 0 rfl) ?_
  refine lv_lconst (v := 0) hx hb dX2_init_30 (by decide) ?_
  refine va_put (D := (dC, dI)) (ci := 2) (v := .long 0) (ty := .long) (C := RX2) (T := TX2) (N := 6) hx hb hts (k_X2_init_in2) tyX2 tyX2_ok nmX2 hown hK hP hD hS 0 rfl rfl 5 (by decide) (hts _ k_X2_init_f25) (fun _ h9 => h9) rfl (by decide +kernel) rfl rfl (Nat.le_of_ble_eq_true rfl) dX2_init_31 (fun H locs hP hD hS => ?_)
  have hP : va_P (dC, dI) vwCl [(h, .inr (2, [.long 0, .long 0, .long 0, .long 0, .long 0, .long 0]))] H := hP
  have hD : va_D A [(h, .inr (2, [.long 0, .long 0, .long 0, .long 0, .long 0, .long 0]))] := hD
  subst_vars
  refine ck_vr hx hb hr hlocks (Nat.le_of_ble_eq_true rfl) (Nat.le_of_ble_eq_true rfl) dX2_init_34 () hP hD hS ?_
  exact trivial
set_option maxRecDepth 20000 in
theorem k_X2_useKey_f7 : (.fieldLink RX2 7 "CookieListener$SipHash" "k" "J" : Cond) ∈ wsX2_useKey := by decide +kernel
set_option maxRecDepth 20000 in
theorem k_X2_useKey_in2 : ∀ w ∈ u_ws RX2 TX2 6, w ∈ wsX2_useKey := by decide +kernel
set_option maxRecDepth 20000 in
theorem k_X2_useKey_f13 : (.fieldLink RX2 13 "CookieListener$SipHash" "l" "J" : Cond) ∈ wsX2_useKey := by decide +kernel
set_option maxHeartbeats 4000000 in
set_option maxRecDepth 100000 in
theorem c_X2_useKey (l : Launch) (dC : Nat → ClassId) (dI : Nat → Nat → Nat) (cI cJ cZ : ClassId) (lo sz : Nat) (h : Nat) (k l0 v0 v1 v2 v3 k1 l1 : Int64) : Met l yX2_useKey wsX2_useKey ({ frames := 0, cells := 0, slots := 0, locals := 0 } : Room) (va_Pc [.ref h, .long k1, .long l1] (ck_P (dC, dI) [(cI, .int), (cJ, .long), (cZ, .boolean)] lo sz [(h, .inr (2, [.long k, .long l0, .long v0, .long v1, .long v2, .long v3]))])) (va_Qv (fun (u : Unit) => True) (fun u => ck_B (dC, dI) vwCl (va_A [(h, .inr (2, [.long k, .long l0, .long v0, .long v1, .long v2, .long v3]))] sz) ((fun u : Unit => ([(h, .inr (2, [.long k1, .long l1, .long v0, .long v1, .long v2, .long v3]))] : va_W)) u)) (va_A [(h, .inr (2, [.long k, .long l0, .long v0, .long v1, .long v2, .long v3]))] sz)) 0 0 (va_A [(h, .inr (2, [.long k, .long l0, .long v0, .long v1, .long v2, .long v3]))] sz) := by
  refine Met.ofW (cc := cX2_useKey) (maxL := 5) (ret := none) (by decide) rfl ?_
  intro p e s m args below meth c s₁ B hml hv
  obtain ⟨rfl, hsz, hP, hK, hD0, hE⟩ := hv
  have hx := B.exec
  have hb := B.bytes
  have hr := B.returns
  have hts := atoms_spec (ws := wsX2_useKey) B.pre
  have hown : s.vm.findClass RX2 = some m.cls := findClass_of_methodNamed B.named
  have hlocks := B.notSynchronized
  subst hsz
  have hD := hD0.self (sz := s.heap.size)
  have hlo := ck_lo (sz := s.heap.size) hD0 hE.1
  generalize hAe : va_A [(h, .inr (2, [.long k, .long l0, .long v0, .long v1, .long v2, .long v3]))] s.heap.size = A at hD hlo ⊢
  have hA : ∀ q : Nat, s.heap.size ≤ q → A q := fun q h => by rw [← hAe]; exact Or.inr h
  have hG : ck_G (dC, dI) [(cI, .int), (cJ, .long), (cZ, .boolean)] lo A s := ⟨hK, hE, hA, hlo⟩
  have hS : va_S A s.heap s.heap [] := va_S.rf
  have hP : va_P (dC, dI) vwCl [(h, .inr (2, [.long k, .long l0, .long v0, .long v1, .long v2, .long v3]))] s.heap := hP
  have hl := lv_entry ([.ref h, .long k1, .long l1]) (n := 5) (Nat.le_of_ble_eq_true rfl)
  rw [lg_entry_eq]
  generalize (lg_sl ([.ref h, .long k1, .long l1]) ++ List.replicate (5 - (lg_sl ([.ref h, .long k1, .long l1])).length) Slot.unset).toArray = ls at hl ⊢
  have hl : lv_has ls 5 [(0, .ref h), (1, .long k1), (3, .long l1)] := hl
  refine lv_aload_n hx hb dX2_useKey_0 rfl (lv_at hl 0 rfl) ?_
  refine lv_lload_n hx hb dX2_useKey_1 rfl (lv_at hl 1 rfl) ?_
  refine va_put (D := (dC, dI)) (ci := 2) (v := .long k1) (ty := .long) (C := RX2) (T := TX2) (N := 6) hx hb hts (k_X2_useKey_in2) tyX2 tyX2_ok nmX2 hown hK hP hD hS 0 rfl rfl 0 (by decide) (hts _ k_X2_useKey_f7) (fun _ h9 => h9) rfl (by decide +kernel) rfl rfl (Nat.le_of_ble_eq_true rfl) dX2_useKey_2 (fun H locs hP hD hS => ?_)
  have hP : va_P (dC, dI) vwCl [(h, .inr (2, [.long k1, .long l0, .long v0, .long v1, .long v2, .long v3]))] H := hP
  have hD : va_D A [(h, .inr (2, [.long k1, .long l0, .long v0, .long v1, .long v2, .long v3]))] := hD
  refine lv_aload_n hx hb dX2_useKey_5 rfl (lv_at hl 0 rfl) ?_
  refine lv_lload_n hx hb dX2_useKey_6 rfl (lv_at hl 2 rfl) ?_
  refine va_put (D := (dC, dI)) (ci := 2) (v := .long l1) (ty := .long) (C := RX2) (T := TX2) (N := 6) hx hb hts (k_X2_useKey_in2) tyX2 tyX2_ok nmX2 hown hK hP hD hS 0 rfl rfl 1 (by decide) (hts _ k_X2_useKey_f13) (fun _ h9 => h9) rfl (by decide +kernel) rfl rfl (Nat.le_of_ble_eq_true rfl) dX2_useKey_7 (fun H locs hP hD hS => ?_)
  have hP : va_P (dC, dI) vwCl [(h, .inr (2, [.long k1, .long l1, .long v0, .long v1, .long v2, .long v3]))] H := hP
  have hD : va_D A [(h, .inr (2, [.long k1, .long l1, .long v0, .long v1, .long v2, .long v3]))] := hD
  subst_vars
  refine ck_vr hx hb hr hlocks (Nat.le_of_ble_eq_true rfl) (Nat.le_of_ble_eq_true rfl) dX2_useKey_10 () hP hD hS ?_
  exact trivial
set_option maxRecDepth 20000 in
theorem k_X2_mix_f16 : (.fieldLink RX2 16 "CookieListener$SipHash" "v0" "J" : Cond) ∈ wsX2_mix := by decide +kernel
set_option maxRecDepth 20000 in
theorem k_X2_mix_in2 : ∀ w ∈ u_ws RX2 TX2 6, w ∈ wsX2_mix := by decide +kernel
set_option maxRecDepth 20000 in
theorem k_X2_mix_f19 : (.fieldLink RX2 19 "CookieListener$SipHash" "v1" "J" : Cond) ∈ wsX2_mix := by decide +kernel
set_option maxRecDepth 20000 in
theorem k_X2_mix_f22 : (.fieldLink RX2 22 "CookieListener$SipHash" "v2" "J" : Cond) ∈ wsX2_mix := by decide +kernel
set_option maxRecDepth 20000 in
theorem k_X2_mix_f25 : (.fieldLink RX2 25 "CookieListener$SipHash" "v3" "J" : Cond) ∈ wsX2_mix := by decide +kernel
set_option maxHeartbeats 4000000 in
set_option maxRecDepth 100000 in
/-- mix(j): j rounds -/
theorem c_X2_mix (l : Launch) (dC : Nat → ClassId) (dI : Nat → Nat → Nat) (cI cJ cZ : ClassId) (lo sz : Nat) (h : Nat) (k l0 v0 v1 v2 v3 : Int64) (j : Nat) (hj : j < 1000) : Met l yX2_mix wsX2_mix ({ frames := 1, cells := 0, slots := 0, locals := 22 } : Room) (va_Pc [.ref h, .int (nI j)] (ck_P (dC, dI) [(cI, .int), (cJ, .long), (cZ, .boolean)] lo sz [(h, .inr (2, [.long k, .long l0, .long v0, .long v1, .long v2, .long v3]))])) (va_Qv (fun (u : Int64 × Int64 × Int64 × Int64) => (u.1, u.2.1, u.2.2.1, u.2.2.2) = ck_mix j (v0, v1, v2, v3)) (fun u => ck_B (dC, dI) vwCl (va_A [(h, .inr (2, [.long k, .long l0, .long v0, .long v1, .long v2, .long v3]))] sz) ((fun u : Int64 × Int64 × Int64 × Int64 => ([(h, .inr (2, [.long k, .long l0, .long u.1, .long u.2.1, .long u.2.2.1, .long u.2.2.2]))] : va_W)) u)) (va_A [(h, .inr (2, [.long k, .long l0, .long v0, .long v1, .long v2, .long v3]))] sz)) 0 0 (va_A [(h, .inr (2, [.long k, .long l0, .long v0, .long v1, .long v2, .long v3]))] sz) := by
  refine Met.ofW (cc := cX2_mix) (maxL := 3) (ret := none) (by decide) rfl ?_
  intro p e s m args below meth c s₁ B hml hv
  obtain ⟨rfl, hsz, hP, hK, hD0, hE⟩ := hv
  have hx := B.exec
  have hb := B.bytes
  have hr := B.returns
  have hts := atoms_spec (ws := wsX2_mix) B.pre
  have hown : s.vm.findClass RX2 = some m.cls := findClass_of_methodNamed B.named
  have hlocks := B.notSynchronized
  subst hsz
  have hD := hD0.self (sz := s.heap.size)
  have hlo := ck_lo (sz := s.heap.size) hD0 hE.1
  generalize hAe : va_A [(h, .inr (2, [.long k, .long l0, .long v0, .long v1, .long v2, .long v3]))] s.heap.size = A at hD hlo ⊢
  have hA : ∀ q : Nat, s.heap.size ≤ q → A q := fun q h => by rw [← hAe]; exact Or.inr h
  have hG : ck_G (dC, dI) [(cI, .int), (cJ, .long), (cZ, .boolean)] lo A s := ⟨hK, hE, hA, hlo⟩
  have hS : va_S A s.heap s.heap [] := va_S.rf
  have hP : va_P (dC, dI) vwCl [(h, .inr (2, [.long k, .long l0, .long v0, .long v1, .long v2, .long v3]))] s.heap := hP
  have hl := lv_entry ([.ref h, .int (nI j)]) (n := 3) (Nat.le_of_ble_eq_true rfl)
  rw [lg_entry_eq]
  generalize (lg_sl ([.ref h, .int (nI j)]) ++ List.replicate (3 - (lg_sl ([.ref h, .int (nI j)])).length) Slot.unset).toArray = ls at hl ⊢
  have hl : lv_has ls 3 [(0, .ref h), (1, .int (nI j))] := hl
  refine lv_iconst (v := nI 0) hx hb dX2_mix_0 (by decide) ?_
  refine lv_istore_n (lv' := [(2, .int (nI 0)), (0, .ref h), (1, .int (nI j))]) hx hb dX2_mix_1 rfl hl (by decide) rfl (fun ls hl => ?_)
  have hloop : ∀ (fu : Nat) (i : Nat) (y0 : Int64) (y1 : Int64) (y2 : Int64) (y3 : Int64), (i ≤ j) → (j + 1 ≤ i + fu) → (ck_mix (j - i) (y0, y1, y2, y3) = ck_mix j (v0, v1, v2, v3)) → ∀ (H : Heap) (locs : List Loc) (ls : Array Slot), va_P (dC, dI) vwCl [(h, .inr (2, [.long k, .long l0, .long y0, .long y1, .long y2, .long y3]))] H → va_D A [(h, .inr (2, [.long k, .long l0, .long y0, .long y1, .long y2, .long y3]))] → va_S A s.heap H locs → lv_has ls 3 [(0, .ref h), (1, .int (nI j)), (2, .int (nI i))] → W p l e (headSpec wsX2_mix ({ frames := 1, cells := 0, slots := 0, locals := 22 } : Room)).room s m (([.ref h, .int (nI j)] : List Value).toArray) below meth c H locs 0 0 (MQ below (va_Qv (fun (u : Int64 × Int64 × Int64 × Int64) => (u.1, u.2.1, u.2.2.1, u.2.2.2) = ck_mix j (v0, v1, v2, v3)) (fun u => ck_B (dC, dI) vwCl A ((fun u : Int64 × Int64 × Int64 × Int64 => ([(h, .inr (2, [.long k, .long l0, .long u.1, .long u.2.1, .long u.2.2.1, .long u.2.2.2]))] : va_W)) u)) A) (([.ref h, .int (nI j)] : List Value).toArray) s 0 0 A) (F0 m 2 ls []) := by
    intro fu
    induction fu with
    | zero =>
      intro i y0 y1 y2 y3 hi hn hv
      exfalso
      omega
    | succ fu ih =>
      intro i y0 y1 y2 y3 hi hn hv H locs ls hP hD hS hl
      refine lv_iload_n hx hb dX2_mix_2 rfl (lv_at hl 2 rfl) ?_
      refine lv_iload_n hx hb dX2_mix_3 rfl (lv_at hl 1 rfl) ?_
      refine lv_icmp_ge (tgt := 163) hx hb dX2_mix_4 (by decide) (fun c_4 => ?_) (fun c_4 => ?_)
      · skip
        have c_4 : j ≤ i := (nI_leI (by omega) (by omega)).mp c_4
        refine ck_vr hx hb hr hlocks (Nat.le_of_ble_eq_true rfl) (Nat.le_of_ble_eq_true rfl) dX2_mix_163 (y0, y1, y2, y3) hP hD hS ?_
        have e9 : j - i = 0 := by omega
        rw [e9] at hv
        exact hv
      · skip
        have c_4 : ¬ (j ≤ i) := fun z => c_4 ((nI_leI (by omega) (by omega)).mpr z)
        refine lv_aload_n hx hb dX2_mix_7 rfl (lv_at hl 0 rfl) ?_
        refine lv_dup hx hb dX2_mix_8 rfl ?_
        refine va_get (D := (dC, dI)) (ci := 2) (v := .long y0) (C := RX2) (T := TX2) (N := 6) hx hb hts (k_X2_mix_in2) hown hK hP 0 rfl rfl 2 (by decide) (hts _ k_X2_mix_f16) (fun _ h9 => h9) rfl dX2_mix_9 ?_
        refine lv_aload_n hx hb dX2_mix_12 rfl (lv_at hl 0 rfl) ?_
        refine va_get (D := (dC, dI)) (ci := 2) (v := .long y1) (C := RX2) (T := TX2) (N := 6) hx hb hts (k_X2_mix_in2) hown hK hP 0 rfl rfl 3 (by decide) (hts _ k_X2_mix_f19) (fun _ h9 => h9) rfl dX2_mix_13 ?_
        refine lv_ladd hx hb dX2_mix_16 ?_
        refine lv_topl (fun x_1 ex_1 => ?_)
        refine va_put (D := (dC, dI)) (ci := 2) (v := .long x_1) (ty := .long) (C := RX2) (T := TX2) (N := 6) hx hb hts (k_X2_mix_in2) tyX2 tyX2_ok nmX2 hown hK hP hD hS 0 rfl rfl 2 (by decide) (hts _ k_X2_mix_f16) (fun _ h9 => h9) rfl (by decide +kernel) rfl rfl (Nat.le_of_ble_eq_true rfl) dX2_mix_17 (fun H locs hP hD hS => ?_)
        have hP : va_P (dC, dI) vwCl [(h, .inr (2, [.long k, .long l0, .long x_1, .long y1, .long y2, .long y3]))] H := hP
        have hD : va_D A [(h, .inr (2, [.long k, .long l0, .long x_1, .long y1, .long y2, .long y3]))] := hD
        refine lv_aload_n hx hb dX2_mix_20 rfl (lv_at hl 0 rfl) ?_
        refine lv_aload_n hx hb dX2_mix_21 rfl (lv_at hl 0 rfl) ?_
        refine va_get (D := (dC, dI)) (ci := 2) (v := .long y1) (C := RX2) (T := TX2) (N := 6) hx hb hts (k_X2_mix_in2) hown hK hP 0 rfl rfl 3 (by decide) (hts _ k_X2_mix_f19) (fun _ h9 => h9) rfl dX2_mix_22 ?_
        refine lv_bipush (v := 13) hx hb dX2_mix_25 (by decide) ?_
        refine ck_rl (va_runS (As := [.long y1, .int 13]) (rest := [.ref h]) ⟨hx, hb, hml, hown, hts⟩ (c_X2_turnLeft l dC dI cI cJ cZ lo _ y1 13) (va_cwS 2 hts gX2_mix_X2_turnLeft rfl rfl rfl (by decide +kernel) ⟨(Nat.le_of_ble_eq_true rfl), (Nat.le_of_ble_eq_true rfl)⟩) ⟨ck_blind, (ck_pre hG hP hD hS [] rfl (by decide) _)⟩ rfl rfl hl.1 rfl (lv_room (Nat.le_of_ble_eq_true rfl)) dX2_mix_27 ⟨(Nat.le_of_ble_eq_true rfl), (Nat.le_of_ble_eq_true rfl)⟩) (fun r_2 hw_2 => ?_)
        have hw_2 : r_2 = ck_rot y1 13 := hw_2
        subst hw_2
        refine lv_aload_n hx hb dX2_mix_30 rfl (lv_at hl 0 rfl) ?_
        refine va_get (D := (dC, dI)) (ci := 2) (v := .long x_1) (C := RX2) (T := TX2) (N := 6) hx hb hts (k_X2_mix_in2) hown hK hP 0 rfl rfl 2 (by decide) (hts _ k_X2_mix_f16) (fun _ h9 => h9) rfl dX2_mix_31 ?_
        refine lv_lxor hx hb dX2_mix_34 ?_
        refine lv_topl (fun x_3 ex_3 => ?_)
        refine va_put (D := (dC, dI)) (ci := 2) (v := .long x_3) (ty := .long) (C := RX2) (T := TX2) (N := 6) hx hb hts (k_X2_mix_in2) tyX2 tyX2_ok nmX2 hown hK hP hD hS 0 rfl rfl 3 (by decide) (hts _ k_X2_mix_f19) (fun _ h9 => h9) rfl (by decide +kernel) rfl rfl (Nat.le_of_ble_eq_true rfl) dX2_mix_35 (fun H locs hP hD hS => ?_)
        have hP : va_P (dC, dI) vwCl [(h, .inr (2, [.long k, .long l0, .long x_1, .long x_3, .long y2, .long y3]))] H := hP
        have hD : va_D A [(h, .inr (2, [.long k, .long l0, .long x_1, .long x_3, .long y2, .long y3]))] := hD
        refine lv_aload_n hx hb dX2_mix_38 rfl (lv_at hl 0 rfl) ?_
        refine lv_aload_n hx hb dX2_mix_39 rfl (lv_at hl 0 rfl) ?_
        refine va_get (D := (dC, dI)) (ci := 2) (v := .long x_1) (C := RX2) (T := TX2) (N := 6) hx hb hts (k_X2_mix_in2) hown hK hP 0 rfl rfl 2 (by decide) (hts _ k_X2_mix_f16) (fun _ h9 => h9) rfl dX2_mix_40 ?_
        refine lv_bipush (v := 32) hx hb dX2_mix_43 (by decide) ?_
        refine ck_rl (va_runS (As := [.long x_1, .int 32]) (rest := [.ref h]) ⟨hx, hb, hml, hown, hts⟩ (c_X2_turnLeft l dC dI cI cJ cZ lo _ x_1 32) (va_cwS 2 hts gX2_mix_X2_turnLeft rfl rfl rfl (by decide +kernel) ⟨(Nat.le_of_ble_eq_true rfl), (Nat.le_of_ble_eq_true rfl)⟩) ⟨ck_blind, (ck_pre hG hP hD hS [] rfl (by decide) _)⟩ rfl rfl hl.1 rfl (lv_room (Nat.le_of_ble_eq_true rfl)) dX2_mix_45 ⟨(Nat.le_of_ble_eq_true rfl), (Nat.le_of_ble_eq_true rfl)⟩) (fun r_4 hw_4 => ?_)
        have hw_4 : r_4 = ck_rot x_1 32 := hw_4
        subst hw_4
        refine lv_topl (fun x_5 ex_5 => ?_)
        refine va_put (D := (dC, dI)) (ci := 2) (v := .long x_5) (ty := .long) (C := RX2) (T := TX2) (N := 6) hx hb hts (k_X2_mix_in2) tyX2 tyX2_ok nmX2 hown hK hP hD hS 0 rfl rfl 2 (by decide) (hts _ k_X2_mix_f16) (fun _ h9 => h9) rfl (by decide +kernel) rfl rfl (Nat.le_of_ble_eq_true rfl) dX2_mix_48 (fun H locs hP hD hS => ?_)
        have hP : va_P (dC, dI) vwCl [(h, .inr (2, [.long k, .long l0, .long x_5, .long x_3, .long y2, .long y3]))] H := hP
        have hD : va_D A [(h, .inr (2, [.long k, .long l0, .long x_5, .long x_3, .long y2, .long y3]))] := hD
        refine lv_aload_n hx hb dX2_mix_51 rfl (lv_at hl 0 rfl) ?_
        refine lv_dup hx hb dX2_mix_52 rfl ?_
        refine va_get (D := (dC, dI)) (ci := 2) (v := .long y2) (C := RX2) (T := TX2) (N := 6) hx hb hts (k_X2_mix_in2) hown hK hP 0 rfl rfl 4 (by decide) (hts _ k_X2_mix_f22) (fun _ h9 => h9) rfl dX2_mix_53 ?_
        refine lv_aload_n hx hb dX2_mix_56 rfl (lv_at hl 0 rfl) ?_
        refine va_get (D := (dC, dI)) (ci := 2) (v := .long y3) (C := RX2) (T := TX2) (N := 6) hx hb hts (k_X2_mix_in2) hown hK hP 0 rfl rfl 5 (by decide) (hts _ k_X2_mix_f25) (fun _ h9 => h9) rfl dX2_mix_57 ?_
        refine lv_ladd hx hb dX2_mix_60 ?_
        refine lv_topl (fun x_6 ex_6 => ?_)
        refine va_put (D := (dC, dI)) (ci := 2) (v := .long x_6) (ty := .long) (C := RX2) (T := TX2) (N := 6) hx hb hts (k_X2_mix_in2) tyX2 tyX2_ok nmX2 hown hK hP hD hS 0 rfl rfl 4 (by decide) (hts _ k_X2_mix_f22) (fun _ h9 => h9) rfl (by decide +kernel) rfl rfl (Nat.le_of_ble_eq_true rfl) dX2_mix_61 (fun H locs hP hD hS => ?_)
        have hP : va_P (dC, dI) vwCl [(h, .inr (2, [.long k, .long l0, .long x_5, .long x_3, .long x_6, .long y3]))] H := hP
        have hD : va_D A [(h, .inr (2, [.long k, .long l0, .long x_5, .long x_3, .long x_6, .long y3]))] := hD
        refine lv_aload_n hx hb dX2_mix_64 rfl (lv_at hl 0 rfl) ?_
        refine lv_aload_n hx hb dX2_mix_65 rfl (lv_at hl 0 rfl) ?_
        refine va_get (D := (dC, dI)) (ci := 2) (v := .long y3) (C := RX2) (T := TX2) (N := 6) hx hb hts (k_X2_mix_in2) hown hK hP 0 rfl rfl 5 (by decide) (hts _ k_X2_mix_f25) (fun _ h9 => h9) rfl dX2_mix_66 ?_
        refine lv_bipush (v := 16) hx hb dX2_mix_69 (by decide) ?_
        refine ck_rl (va_runS (As := [.long y3, .int 16]) (rest := [.ref h]) ⟨hx, hb, hml, hown, hts⟩ (c_X2_turnLeft l dC dI cI cJ cZ lo _ y3 16) (va_cwS 2 hts gX2_mix_X2_turnLeft rfl rfl rfl (by decide +kernel) ⟨(Nat.le_of_ble_eq_true rfl), (Nat.le_of_ble_eq_true rfl)⟩) ⟨ck_blind, (ck_pre hG hP hD hS [] rfl (by decide) _)⟩ rfl rfl hl.1 rfl (lv_room (Nat.le_of_ble_eq_true rfl)) dX2_mix_71 ⟨(Nat.le_of_ble_eq_true rfl), (Nat.le_of_ble_eq_true rfl)⟩) (fun r_7 hw_7 => ?_)
        have hw_7 : r_7 = ck_rot y3 16 := hw_7
        subst hw_7
        refine lv_aload_n hx hb dX2_mix_74 rfl (lv_at hl 0 rfl) ?_
        refine va_get (D := (dC, dI)) (ci := 2) (v := .long x_6) (C := RX2) (T := TX2) (N := 6) hx hb hts (k_X2_mix_in2) hown hK hP 0 rfl rfl 4 (by decide) (hts _ k_X2_mix_f22) (fun _ h9 => h9) rfl dX2_mix_75 ?_
        refine lv_lxor hx hb dX2_mix_78 ?_
        refine lv_topl (fun x_8 ex_8 => ?_)
        refine va_put (D := (dC, dI)) (ci := 2) (v := .long x_8) (ty := .long) (C := RX2) (T := TX2) (N := 6) hx hb hts (k_X2_mix_in2) tyX2 tyX2_ok nmX2 hown hK hP hD hS 0 rfl rfl 5 (by decide) (hts _ k_X2_mix_f25) (fun _ h9 => h9) rfl (by decide +kernel) rfl rfl (Nat.le_of_ble_eq_true rfl) dX2_mix_79 (fun H locs hP hD hS => ?_)
        have hP : va_P (dC, dI) vwCl [(h, .inr (2, [.long k, .long l0, .long x_5, .long x_3, .long x_6, .long x_8]))] H := hP
        have hD : va_D A [(h, .inr (2, [.long k, .long l0, .long x_5, .long x_3, .long x_6, .long x_8]))] := hD
        refine lv_aload_n hx hb dX2_mix_82 rfl (lv_at hl 0 rfl) ?_
        refine lv_dup hx hb dX2_mix_83 rfl ?_
        refine va_get (D := (dC, dI)) (ci := 2) (v := .long x_5) (C := RX2) (T := TX2) (N := 6) hx hb hts (k_X2_mix_in2) hown hK hP 0 rfl rfl 2 (by decide) (hts _ k_X2_mix_f16) (fun _ h9 => h9) rfl dX2_mix_84 ?_
        refine lv_aload_n hx hb dX2_mix_87 rfl (lv_at hl 0 rfl) ?_
        refine va_get (D := (dC, dI)) (ci := 2) (v := .long x_8) (C := RX2) (T := TX2) (N := 6) hx hb hts (k_X2_mix_in2) hown hK hP 0 rfl rfl 5 (by decide) (hts _ k_X2_mix_f25) (fun _ h9 => h9) rfl dX2_mix_88 ?_
        refine lv_ladd hx hb dX2_mix_91 ?_
        refine lv_topl (fun x_9 ex_9 => ?_)
        refine va_put (D := (dC, dI)) (ci := 2) (v := .long x_9) (ty := .long) (C := RX2) (T := TX2) (N := 6) hx hb hts (k_X2_mix_in2) tyX2 tyX2_ok nmX2 hown hK hP hD hS 0 rfl rfl 2 (by decide) (hts _ k_X2_mix_f16) (fun _ h9 => h9) rfl (by decide +kernel) rfl rfl (Nat.le_of_ble_eq_true rfl) dX2_mix_92 (fun H locs hP hD hS => ?_)
        have hP : va_P (dC, dI) vwCl [(h, .inr (2, [.long k, .long l0, .long x_9, .long x_3, .long x_6, .long x_8]))] H := hP
        have hD : va_D A [(h, .inr (2, [.long k, .long l0, .long x_9, .long x_3, .long x_6, .long x_8]))] := hD
        refine lv_aload_n hx hb dX2_mix_95 rfl (lv_at hl 0 rfl) ?_
        refine lv_aload_n hx hb dX2_mix_96 rfl (lv_at hl 0 rfl) ?_
        refine va_get (D := (dC, dI)) (ci := 2) (v := .long x_8) (C := RX2) (T := TX2) (N := 6) hx hb hts (k_X2_mix_in2) hown hK hP 0 rfl rfl 5 (by decide) (hts _ k_X2_mix_f25) (fun _ h9 => h9) rfl dX2_mix_97 ?_
        refine lv_bipush (v := 21) hx hb dX2_mix_100 (by decide) ?_
        refine ck_rl (va_runS (As := [.long x_8, .int 21]) (rest := [.ref h]) ⟨hx, hb, hml, hown, hts⟩ (c_X2_turnLeft l dC dI cI cJ cZ lo _ x_8 21) (va_cwS 2 hts gX2_mix_X2_turnLeft rfl rfl rfl (by decide +kernel) ⟨(Nat.le_of_ble_eq_true rfl), (Nat.le_of_ble_eq_true rfl)⟩) ⟨ck_blind, (ck_pre hG hP hD hS [] rfl (by decide) _)⟩ rfl rfl hl.1 rfl (lv_room (Nat.le_of_ble_eq_true rfl)) dX2_mix_102 ⟨(Nat.le_of_ble_eq_true rfl), (Nat.le_of_ble_eq_true rfl)⟩) (fun r_10 hw_10 => ?_)
        have hw_10 : r_10 = ck_rot x_8 21 := hw_10
        subst hw_10
        refine lv_aload_n hx hb dX2_mix_105 rfl (lv_at hl 0 rfl) ?_
        refine va_get (D := (dC, dI)) (ci := 2) (v := .long x_9) (C := RX2) (T := TX2) (N := 6) hx hb hts (k_X2_mix_in2) hown hK hP 0 rfl rfl 2 (by decide) (hts _ k_X2_mix_f16) (fun _ h9 => h9) rfl dX2_mix_106 ?_
        refine lv_lxor hx hb dX2_mix_109 ?_
        refine lv_topl (fun x_11 ex_11 => ?_)
        refine va_put (D := (dC, dI)) (ci := 2) (v := .long x_11) (ty := .long) (C := RX2) (T := TX2) (N := 6) hx hb hts (k_X2_mix_in2) tyX2 tyX2_ok nmX2 hown hK hP hD hS 0 rfl rfl 5 (by decide) (hts _ k_X2_mix_f25) (fun _ h9 => h9) rfl (by decide +kernel) rfl rfl (Nat.le_of_ble_eq_true rfl) dX2_mix_110 (fun H locs hP hD hS => ?_)
        have hP : va_P (dC, dI) vwCl [(h, .inr (2, [.long k, .long l0, .long x_9, .long x_3, .long x_6, .long x_11]))] H := hP
        have hD : va_D A [(h, .inr (2, [.long k, .long l0, .long x_9, .long x_3, .long x_6, .long x_11]))] := hD
        refine lv_aload_n hx hb dX2_mix_113 rfl (lv_at hl 0 rfl) ?_
        refine lv_dup hx hb dX2_mix_114 rfl ?_
        refine va_get (D := (dC, dI)) (ci := 2) (v := .long x_6) (C := RX2) (T := TX2) (N := 6) hx hb hts (k_X2_mix_in2) hown hK hP 0 rfl rfl 4 (by decide) (hts _ k_X2_mix_f22) (fun _ h9 => h9) rfl dX2_mix_115 ?_
        refine lv_aload_n hx hb dX2_mix_118 rfl (lv_at hl 0 rfl) ?_
        refine va_get (D := (dC, dI)) (ci := 2) (v := .long x_3) (C := RX2) (T := TX2) (N := 6) hx hb hts (k_X2_mix_in2) hown hK hP 0 rfl rfl 3 (by decide) (hts _ k_X2_mix_f19) (fun _ h9 => h9) rfl dX2_mix_119 ?_
        refine lv_ladd hx hb dX2_mix_122 ?_
        refine lv_topl (fun x_12 ex_12 => ?_)
        refine va_put (D := (dC, dI)) (ci := 2) (v := .long x_12) (ty := .long) (C := RX2) (T := TX2) (N := 6) hx hb hts (k_X2_mix_in2) tyX2 tyX2_ok nmX2 hown hK hP hD hS 0 rfl rfl 4 (by decide) (hts _ k_X2_mix_f22) (fun _ h9 => h9) rfl (by decide +kernel) rfl rfl (Nat.le_of_ble_eq_true rfl) dX2_mix_123 (fun H locs hP hD hS => ?_)
        have hP : va_P (dC, dI) vwCl [(h, .inr (2, [.long k, .long l0, .long x_9, .long x_3, .long x_12, .long x_11]))] H := hP
        have hD : va_D A [(h, .inr (2, [.long k, .long l0, .long x_9, .long x_3, .long x_12, .long x_11]))] := hD
        refine lv_aload_n hx hb dX2_mix_126 rfl (lv_at hl 0 rfl) ?_
        refine lv_aload_n hx hb dX2_mix_127 rfl (lv_at hl 0 rfl) ?_
        refine va_get (D := (dC, dI)) (ci := 2) (v := .long x_3) (C := RX2) (T := TX2) (N := 6) hx hb hts (k_X2_mix_in2) hown hK hP 0 rfl rfl 3 (by decide) (hts _ k_X2_mix_f19) (fun _ h9 => h9) rfl dX2_mix_128 ?_
        refine lv_bipush (v := 17) hx hb dX2_mix_131 (by decide) ?_
        refine ck_rl (va_runS (As := [.long x_3, .int 17]) (rest := [.ref h]) ⟨hx, hb, hml, hown, hts⟩ (c_X2_turnLeft l dC dI cI cJ cZ lo _ x_3 17) (va_cwS 2 hts gX2_mix_X2_turnLeft rfl rfl rfl (by decide +kernel) ⟨(Nat.le_of_ble_eq_true rfl), (Nat.le_of_ble_eq_true rfl)⟩) ⟨ck_blind, (ck_pre hG hP hD hS [] rfl (by decide) _)⟩ rfl rfl hl.1 rfl (lv_room (Nat.le_of_ble_eq_true rfl)) dX2_mix_133 ⟨(Nat.le_of_ble_eq_true rfl), (Nat.le_of_ble_eq_true rfl)⟩) (fun r_13 hw_13 => ?_)
        have hw_13 : r_13 = ck_rot x_3 17 := hw_13
        subst hw_13
        refine lv_aload_n hx hb dX2_mix_136 rfl (lv_at hl 0 rfl) ?_
        refine va_get (D := (dC, dI)) (ci := 2) (v := .long x_12) (C := RX2) (T := TX2) (N := 6) hx hb hts (k_X2_mix_in2) hown hK hP 0 rfl rfl 4 (by decide) (hts _ k_X2_mix_f22) (fun _ h9 => h9) rfl dX2_mix_137 ?_
        refine lv_lxor hx hb dX2_mix_140 ?_
        refine lv_topl (fun x_14 ex_14 => ?_)
        refine va_put (D := (dC, dI)) (ci := 2) (v := .long x_14) (ty := .long) (C := RX2) (T := TX2) (N := 6) hx hb hts (k_X2_mix_in2) tyX2 tyX2_ok nmX2 hown hK hP hD hS 0 rfl rfl 3 (by decide) (hts _ k_X2_mix_f19) (fun _ h9 => h9) rfl (by decide +kernel) rfl rfl (Nat.le_of_ble_eq_true rfl) dX2_mix_141 (fun H locs hP hD hS => ?_)
        have hP : va_P (dC, dI) vwCl [(h, .inr (2, [.long k, .long l0, .long x_9, .long x_14, .long x_12, .long x_11]))] H := hP
        have hD : va_D A [(h, .inr (2, [.long k, .long l0, .long x_9, .long x_14, .long x_12, .long x_11]))] := hD
        refine lv_aload_n hx hb dX2_mix_144 rfl (lv_at hl 0 rfl) ?_
        refine lv_aload_n hx hb dX2_mix_145 rfl (lv_at hl 0 rfl) ?_
        refine va_get (D := (dC, dI)) (ci := 2) (v := .long x_12) (C := RX2) (T := TX2) (N := 6) hx hb hts (k_X2_mix_in2) hown hK hP 0 rfl rfl 4 (by decide) (hts _ k_X2_mix_f22) (fun _ h9 => h9) rfl dX2_mix_146 ?_
        refine lv_bipush (v := 32) hx hb dX2_mix_149 (by decide) ?_
        refine ck_rl (va_runS (As := [.long x_12, .int 32]) (rest := [.ref h]) ⟨hx, hb, hml, hown, hts⟩ (c_X2_turnLeft l dC dI cI cJ cZ lo _ x_12 32) (va_cwS 2 hts gX2_mix_X2_turnLeft rfl rfl rfl (by decide +kernel) ⟨(Nat.le_of_ble_eq_true rfl), (Nat.le_of_ble_eq_true rfl)⟩) ⟨ck_blind, (ck_pre hG hP hD hS [] rfl (by decide) _)⟩ rfl rfl hl.1 rfl (lv_room (Nat.le_of_ble_eq_true rfl)) dX2_mix_151 ⟨(Nat.le_of_ble_eq_true rfl), (Nat.le_of_ble_eq_true rfl)⟩) (fun r_15 hw_15 => ?_)
        have hw_15 : r_15 = ck_rot x_12 32 := hw_15
        subst hw_15
        refine lv_topl (fun x_16 ex_16 => ?_)
        refine va_put (D := (dC, dI)) (ci := 2) (v := .long x_16) (ty := .long) (C := RX2) (T := TX2) (N := 6) hx hb hts (k_X2_mix_in2) tyX2 tyX2_ok nmX2 hown hK hP hD hS 0 rfl rfl 4 (by decide) (hts _ k_X2_mix_f22) (fun _ h9 => h9) rfl (by decide +kernel) rfl rfl (Nat.le_of_ble_eq_true rfl) dX2_mix_154 (fun H locs hP hD hS => ?_)
        have hP : va_P (dC, dI) vwCl [(h, .inr (2, [.long k, .long l0, .long x_9, .long x_14, .long x_16, .long x_11]))] H := hP
        have hD : va_D A [(h, .inr (2, [.long k, .long l0, .long x_9, .long x_14, .long x_16, .long x_11]))] := hD
        refine lv_iinc (v := nI (i + 1)) (lv' := [(2, .int (nI (i + 1))), (0, .ref h), (1, .int (nI j))]) hx hb dX2_mix_157 hl (k := 2) rfl (nI_1 _) (by decide) rfl (fun ls hl => ?_)
        refine lv_goto (tgt := 2) hx hb dX2_mix_160 (by decide) ?_
        exact ih (i + 1) x_9 x_14 x_16 x_11 (by omega) (by omega) (by have e9 : j - i = (j - (i + 1)) + 1 := (by omega); rw [e9, ck_mixS] at hv; rw [← hv]; subst_vars; rfl) _ _ _ (hP.sub [0] rfl) (hD.sub [0] (by decide) rfl) hS (lv_sub hl [1, 2, 0] rfl)
  exact hloop (j + 1) 0 v0 v1 v2 v3 (by omega) (by omega) (rfl) _ _ _ (hP.sub [0] rfl) (hD.sub [0] (by decide) rfl) hS (lv_sub hl [1, 2, 0] rfl)
set_option maxRecDepth 20000 in
theorem k_X2_absorb_f25 : (.fieldLink RX2 25 "CookieListener$SipHash" "v3" "J" : Cond) ∈ wsX2_absorb := by decide +kernel
set_option maxRecDepth 20000 in
theorem k_X2_absorb_in2 : ∀ w ∈ u_ws RX2 TX2 6, w ∈ wsX2_absorb := by decide +kernel
set_option maxRecDepth 20000 in
theorem k_X2_absorb_f16 : (.fieldLink RX2 16 "CookieListener$SipHash" "v0" "J" : Cond) ∈ wsX2_absorb := by decide +kernel
set_option maxHeartbeats 4000000 in
set_option maxRecDepth 100000 in
theorem c_X2_absorb (l : Launch) (dC : Nat → ClassId) (dI : Nat → Nat → Nat) (cI cJ cZ : ClassId) (lo sz : Nat) (h : Nat) (k l0 v0 v1 v2 v3 w : Int64) : Met l yX2_absorb wsX2_absorb ({ frames := 2, cells := 0, slots := 0, locals := 44 } : Room) (va_Pc [.ref h, .long w] (ck_P (dC, dI) [(cI, .int), (cJ, .long), (cZ, .boolean)] lo sz [(h, .inr (2, [.long k, .long l0, .long v0, .long v1, .long v2, .long v3]))])) (va_Qv (fun (u : Int64 × Int64 × Int64 × Int64) => (u.1, u.2.1, u.2.2.1, u.2.2.2) = ck_absorb (v0, v1, v2, v3) w) (fun u => ck_B (dC, dI) vwCl (va_A [(h, .inr (2, [.long k, .long l0, .long v0, .long v1, .long v2, .long v3]))] sz) ((fun u : Int64 × Int64 × Int64 × Int64 => ([(h, .inr (2, [.long k, .long l0, .long u.1, .long u.2.1, .long u.2.2.1, .long u.2.2.2]))] : va_W)) u)) (va_A [(h, .inr (2, [.long k, .long l0, .long v0, .long v1, .long v2, .long v3]))] sz)) 0 0 (va_A [(h, .inr (2, [.long k, .long l0, .long v0, .long v1, .long v2, .long v3]))] sz) := by
  refine Met.ofW (cc := cX2_absorb) (maxL := 3) (ret := none) (by decide) rfl ?_
  intro p e s m args below meth c s₁ B hml hv
  obtain ⟨rfl, hsz, hP, hK, hD0, hE⟩ := hv
  have hx := B.exec
  have hb := B.bytes
  have hr := B.returns
  have hts := atoms_spec (ws := wsX2_absorb) B.pre
  have hown : s.vm.findClass RX2 = some m.cls := findClass_of_methodNamed B.named
  have hlocks := B.notSynchronized
  subst hsz
  have hD := hD0.self (sz := s.heap.size)
  have hlo := ck_lo (sz := s.heap.size) hD0 hE.1
  generalize hAe : va_A [(h, .inr (2, [.long k, .long l0, .long v0, .long v1, .long v2, .long v3]))] s.heap.size = A at hD hlo ⊢
  have hA : ∀ q : Nat, s.heap.size ≤ q → A q := fun q h => by rw [← hAe]; exact Or.inr h
  have hG : ck_G (dC, dI) [(cI, .int), (cJ, .long), (cZ, .boolean)] lo A s := ⟨hK, hE, hA, hlo⟩
  have hS : va_S A s.heap s.heap [] := va_S.rf
  have hP : va_P (dC, dI) vwCl [(h, .inr (2, [.long k, .long l0, .long v0, .long v1, .long v2, .long v3]))] s.heap := hP
  have hl := lv_entry ([.ref h, .long w]) (n := 3) (Nat.le_of_ble_eq_true rfl)
  rw [lg_entry_eq]
  generalize (lg_sl ([.ref h, .long w]) ++ List.replicate (3 - (lg_sl ([.ref h, .long w])).length) Slot.unset).toArray = ls at hl ⊢
  have hl : lv_has ls 3 [(0, .ref h), (1, .long w)] := hl
  refine lv_aload_n hx hb dX2_absorb_0 rfl (lv_at hl 0 rfl) ?_
  refine lv_dup hx hb dX2_absorb_1 rfl ?_
  refine va_get (D := (dC, dI)) (ci := 2) (v := .long v3) (C := RX2) (T := TX2) (N := 6) hx hb hts (k_X2_absorb_in2) hown hK hP 0 rfl rfl 5 (by decide) (hts _ k_X2_absorb_f25) (fun _ h9 => h9) rfl dX2_absorb_2 ?_
  refine lv_lload_n hx hb dX2_absorb_5 rfl (lv_at hl 1 rfl) ?_
  refine lv_lxor hx hb dX2_absorb_6 ?_
  refine lv_topl (fun x_1 ex_1 => ?_)
  refine va_put (D := (dC, dI)) (ci := 2) (v := .long x_1) (ty := .long) (C := RX2) (T := TX2) (N := 6) hx hb hts (k_X2_absorb_in2) tyX2 tyX2_ok nmX2 hown hK hP hD hS 0 rfl rfl 5 (by decide) (hts _ k_X2_absorb_f25) (fun _ h9 => h9) rfl (by decide +kernel) rfl rfl (Nat.le_of_ble_eq_true rfl) dX2_absorb_7 (fun H locs hP hD hS => ?_)
  have hP : va_P (dC, dI) vwCl [(h, .inr (2, [.long k, .long l0, .long v0, .long v1, .long v2, .long x_1]))] H := hP
  have hD : va_D A [(h, .inr (2, [.long k, .long l0, .long v0, .long v1, .long v2, .long x_1]))] := hD
  refine lv_aload_n hx hb dX2_absorb_10 rfl (lv_at hl 0 rfl) ?_
  refine lv_iconst (v := nI 2) hx hb dX2_absorb_11 (by decide) ?_
  refine ck_cv (wr := []) (va_runV (As := [.int (nI 2)]) (rest := []) ⟨hx, hb, hml, hown, hts⟩ (c_X2_mix l dC dI cI cJ cZ lo _ h k l0 v0 v1 v2 x_1 2 (by first | assumption | omega)) (cwV 1 hts gX2_absorb_X2_mix rfl rfl rfl (by decide +kernel) ⟨(Nat.le_of_ble_eq_true rfl), (Nat.le_of_ble_eq_true rfl)⟩) ⟨ck_blind, va_recv hK hP (ci := 2) (q0 := 0) rfl rfl, (ck_pre hG hP hD hS [0] rfl (by decide) _)⟩ rfl rfl hl.1 rfl (lv_room (Nat.le_of_ble_eq_true rfl)) dX2_absorb_12 ⟨(Nat.le_of_ble_eq_true rfl), (Nat.le_of_ble_eq_true rfl)⟩) hP hD hS hA [0] [] rfl rfl (by decide) (by decide) (fun u H locs hw_2 hP hD hS => ?_)
  obtain ⟨u0_2, u1_2, u2_2, u3_2⟩ := u
  have hw_2 : (u0_2, u1_2, u2_2, u3_2) = ck_mix 2 (v0, v1, v2, x_1) := hw_2
  have hP : va_P (dC, dI) vwCl [(h, .inr (2, [.long k, .long l0, .long u0_2, .long u1_2, .long u2_2, .long u3_2]))] H := hP
  have hD : va_D A [(h, .inr (2, [.long k, .long l0, .long u0_2, .long u1_2, .long u2_2, .long u3_2]))] := hD
  refine lv_aload_n hx hb dX2_absorb_15 rfl (lv_at hl 0 rfl) ?_
  refine lv_dup hx hb dX2_absorb_16 rfl ?_
  refine va_get (D := (dC, dI)) (ci := 2) (v := .long u0_2) (C := RX2) (T := TX2) (N := 6) hx hb hts (k_X2_absorb_in2) hown hK hP 0 rfl rfl 2 (by decide) (hts _ k_X2_absorb_f16) (fun _ h9 => h9) rfl dX2_absorb_17 ?_
  refine lv_lload_n hx hb dX2_absorb_20 rfl (lv_at hl 1 rfl) ?_
  refine lv_lxor hx hb dX2_absorb_21 ?_
  refine lv_topl (fun x_3 ex_3 => ?_)
  refine va_put (D := (dC, dI)) (ci := 2) (v := .long x_3) (ty := .long) (C := RX2) (T := TX2) (N := 6) hx hb hts (k_X2_absorb_in2) tyX2 tyX2_ok nmX2 hown hK hP hD hS 0 rfl rfl 2 (by decide) (hts _ k_X2_absorb_f16) (fun _ h9 => h9) rfl (by decide +kernel) rfl rfl (Nat.le_of_ble_eq_true rfl) dX2_absorb_22 (fun H locs hP hD hS => ?_)
  have hP : va_P (dC, dI) vwCl [(h, .inr (2, [.long k, .long l0, .long x_3, .long u1_2, .long u2_2, .long u3_2]))] H := hP
  have hD : va_D A [(h, .inr (2, [.long k, .long l0, .long x_3, .long u1_2, .long u2_2, .long u3_2]))] := hD
  refine ck_vr hx hb hr hlocks (Nat.le_of_ble_eq_true rfl) (Nat.le_of_ble_eq_true rfl) dX2_absorb_25 (x_3, u1_2, u2_2, u3_2) hP hD hS ?_
  subst_vars
  unfold ck_absorb
  dsimp only
  rw [← hw_2]
set_option maxRecDepth 20000 in
theorem k_X2_digest_f7 : (.fieldLink RX2 7 "CookieListener$SipHash" "k" "J" : Cond) ∈ wsX2_digest := by decide +kernel
set_option maxRecDepth 20000 in
theorem k_X2_digest_in2 : ∀ w ∈ u_ws RX2 TX2 6, w ∈ wsX2_digest := by decide +kernel
set_option maxRecDepth 20000 in
theorem k_X2_digest_c28 : (.constantLong RX2 28 (8317987319222330741) : Cond) ∈ wsX2_digest := by decide +kernel
set_option maxRecDepth 20000 in
theorem k_X2_digest_f16 : (.fieldLink RX2 16 "CookieListener$SipHash" "v0" "J" : Cond) ∈ wsX2_digest := by decide +kernel
set_option maxRecDepth 20000 in
theorem k_X2_digest_f13 : (.fieldLink RX2 13 "CookieListener$SipHash" "l" "J" : Cond) ∈ wsX2_digest := by decide +kernel
set_option maxRecDepth 20000 in
theorem k_X2_digest_c30 : (.constantLong RX2 30 (7237128888997146477) : Cond) ∈ wsX2_digest := by decide +kernel
set_option maxRecDepth 20000 in
theorem k_X2_digest_f19 : (.fieldLink RX2 19 "CookieListener$SipHash" "v1" "J" : Cond) ∈ wsX2_digest := by decide +kernel
set_option maxRecDepth 20000 in
theorem k_X2_digest_c32 : (.constantLong RX2 32 (7816392313619706465) : Cond) ∈ wsX2_digest := by decide +kernel
set_option maxRecDepth 20000 in
theorem k_X2_digest_f22 : (.fieldLink RX2 22 "CookieListener$SipHash" "v2" "J" : Cond) ∈ wsX2_digest := by decide +kernel
set_option maxRecDepth 20000 in
theorem k_X2_digest_c34 : (.constantLong RX2 34 (8387220255154660723) : Cond) ∈ wsX2_digest := by decide +kernel
set_option maxRecDepth 20000 in
theorem k_X2_digest_f25 : (.fieldLink RX2 25 "CookieListener$SipHash" "v3" "J" : Cond) ∈ wsX2_digest := by decide +kernel
set_option maxRecDepth 20000 in
theorem k_X2_digest_c40 : (.constantLong RX2 40 (1152921504606846976) : Cond) ∈ wsX2_digest := by decide +kernel
set_option maxRecDepth 20000 in
theorem k_X2_digest_c42 : (.constantLong RX2 42 (255) : Cond) ∈ wsX2_digest := by decide +kernel
set_option maxHeartbeats 4000000 in
set_option maxRecDepth 100000 in
theorem c_X2_digest (l : Launch) (dC : Nat → ClassId) (dI : Nat → Nat → Nat) (cI cJ cZ : ClassId) (lo sz : Nat) (h : Nat) (k l0 v0 v1 v2 v3 w1 w2 : Int64) : Met l yX2_digest wsX2_digest ({ frames := 3, cells := 0, slots := 0, locals := 66 } : Room) (va_Pc [.ref h, .long w1, .long w2] (ck_P (dC, dI) [(cI, .int), (cJ, .long), (cZ, .boolean)] lo sz [(h, .inr (2, [.long k, .long l0, .long v0, .long v1, .long v2, .long v3]))])) (va_Ql (fun (r : Int64) (u : Int64 × Int64 × Int64 × Int64) => r = ck_sip k l0 w1 w2) (fun u => ck_B (dC, dI) vwCl (va_A [(h, .inr (2, [.long k, .long l0, .long v0, .long v1, .long v2, .long v3]))] sz) ((fun u : Int64 × Int64 × Int64 × Int64 => ([(h, .inr (2, [.long k, .long l0, .long u.1, .long u.2.1, .long u.2.2.1, .long u.2.2.2]))] : va_W)) u)) (va_A [(h, .inr (2, [.long k, .long l0, .long v0, .long v1, .long v2, .long v3]))] sz)) 0 0 (va_A [(h, .inr (2, [.long k, .long l0, .long v0, .long v1, .long v2, .long v3]))] sz) := by
  refine Met.ofW (cc := cX2_digest) (maxL := 5) (ret := (some .long)) (by decide) rfl ?_
  intro p e s m args below meth c s₁ B hml hv
  obtain ⟨rfl, hsz, hP, hK, hD0, hE⟩ := hv
  have hx := B.exec
  have hb := B.bytes
  have hr := B.returns
  have hts := atoms_spec (ws := wsX2_digest) B.pre
  have hown : s.vm.findClass RX2 = some m.cls := findClass_of_methodNamed B.named
  have hlocks := B.notSynchronized
  subst hsz
  have hD := hD0.self (sz := s.heap.size)
  have hlo := ck_lo (sz := s.heap.size) hD0 hE.1
  generalize hAe : va_A [(h, .inr (2, [.long k, .long l0, .long v0, .long v1, .long v2, .long v3]))] s.heap.size = A at hD hlo ⊢
  have hA : ∀ q : Nat, s.heap.size ≤ q → A q := fun q h => by rw [← hAe]; exact Or.inr h
  have hG : ck_G (dC, dI) [(cI, .int), (cJ, .long), (cZ, .boolean)] lo A s := ⟨hK, hE, hA, hlo⟩
  have hS : va_S A s.heap s.heap [] := va_S.rf
  have hP : va_P (dC, dI) vwCl [(h, .inr (2, [.long k, .long l0, .long v0, .long v1, .long v2, .long v3]))] s.heap := hP
  have hl := lv_entry ([.ref h, .long w1, .long w2]) (n := 5) (Nat.le_of_ble_eq_true rfl)
  rw [lg_entry_eq]
  generalize (lg_sl ([.ref h, .long w1, .long w2]) ++ List.replicate (5 - (lg_sl ([.ref h, .long w1, .long w2])).length) Slot.unset).toArray = ls at hl ⊢
  have hl : lv_has ls 5 [(0, .ref h), (1, .long w1), (3, .long w2)] := hl
  refine lv_aload_n hx hb dX2_digest_0 rfl (lv_at hl 0 rfl) ?_
  refine lv_aload_n hx hb dX2_digest_1 rfl (lv_at hl 0 rfl) ?_
  refine va_get (D := (dC, dI)) (ci := 2) (v := .long k) (C := RX2) (T := TX2) (N := 6) hx hb hts (k_X2_digest_in2) hown hK hP 0 rfl rfl 0 (by decide) (hts _ k_X2_digest_f7) (fun _ h9 => h9) rfl dX2_digest_2 ?_
  refine lv_ldc2 hx hb hown (hts _ k_X2_digest_c28) dX2_digest_5 ?_
  refine lv_lxor hx hb dX2_digest_8 ?_
  refine lv_topl (fun x_1 ex_1 => ?_)
  refine va_put (D := (dC, dI)) (ci := 2) (v := .long x_1) (ty := .long) (C := RX2) (T := TX2) (N := 6) hx hb hts (k_X2_digest_in2) tyX2 tyX2_ok nmX2 hown hK hP hD hS 0 rfl rfl 2 (by decide) (hts _ k_X2_digest_f16) (fun _ h9 => h9) rfl (by decide +kernel) rfl rfl (Nat.le_of_ble_eq_true rfl) dX2_digest_9 (fun H locs hP hD hS => ?_)
  have hP : va_P (dC, dI) vwCl [(h, .inr (2, [.long k, .long l0, .long x_1, .long v1, .long v2, .long v3]))] H := hP
  have hD : va_D A [(h, .inr (2, [.long k, .long l0, .long x_1, .long v1, .long v2, .long v3]))] := hD
  refine lv_aload_n hx hb dX2_digest_12 rfl (lv_at hl 0 rfl) ?_
  refine lv_aload_n hx hb dX2_digest_13 rfl (lv_at hl 0 rfl) ?_
  refine va_get (D := (dC, dI)) (ci := 2) (v := .long l0) (C := RX2) (T := TX2) (N := 6) hx hb hts (k_X2_digest_in2) hown hK hP 0 rfl rfl 1 (by decide) (hts _ k_X2_digest_f13) (fun _ h9 => h9) rfl dX2_digest_14 ?_
  refine lv_ldc2 hx hb hown (hts _ k_X2_digest_c30) dX2_digest_17 ?_
  refine lv_lxor hx hb dX2_digest_20 ?_
  refine lv_topl (fun x_2 ex_2 => ?_)
  refine va_put (D := (dC, dI)) (ci := 2) (v := .long x_2) (ty := .long) (C := RX2) (T := TX2) (N := 6) hx hb hts (k_X2_digest_in2) tyX2 tyX2_ok nmX2 hown hK hP hD hS 0 rfl rfl 3 (by decide) (hts _ k_X2_digest_f19) (fun _ h9 => h9) rfl (by decide +kernel) rfl rfl (Nat.le_of_ble_eq_true rfl) dX2_digest_21 (fun H locs hP hD hS => ?_)
  have hP : va_P (dC, dI) vwCl [(h, .inr (2, [.long k, .long l0, .long x_1, .long x_2, .long v2, .long v3]))] H := hP
  have hD : va_D A [(h, .inr (2, [.long k, .long l0, .long x_1, .long x_2, .long v2, .long v3]))] := hD
  refine lv_aload_n hx hb dX2_digest_24 rfl (lv_at hl 0 rfl) ?_
  refine lv_aload_n hx hb dX2_digest_25 rfl (lv_at hl 0 rfl) ?_
  refine va_get (D := (dC, dI)) (ci := 2) (v := .long k) (C := RX2) (T := TX2) (N := 6) hx hb hts (k_X2_digest_in2) hown hK hP 0 rfl rfl 0 (by decide) (hts _ k_X2_digest_f7) (fun _ h9 => h9) rfl dX2_digest_26 ?_
  refine lv_ldc2 hx hb hown (hts _ k_X2_digest_c32) dX2_digest_29 ?_
  refine lv_lxor hx hb dX2_digest_32 ?_
  refine lv_topl (fun x_3 ex_3 => ?_)
  refine va_put (D := (dC, dI)) (ci := 2) (v := .long x_3) (ty := .long) (C := RX2) (T := TX2) (N := 6) hx hb hts (k_X2_digest_in2) tyX2 tyX2_ok nmX2 hown hK hP hD hS 0 rfl rfl 4 (by decide) (hts _ k_X2_digest_f22) (fun _ h9 => h9) rfl (by decide +kernel) rfl rfl (Nat.le_of_ble_eq_true rfl) dX2_digest_33 (fun H locs hP hD hS => ?_)
  have hP : va_P (dC, dI) vwCl [(h, .inr (2, [.long k, .long l0, .long x_1, .long x_2, .long x_3, .long v3]))] H := hP
  have hD : va_D A [(h, .inr (2, [.long k, .long l0, .long x_1, .long x_2, .long x_3, .long v3]))] := hD
  refine lv_aload_n hx hb dX2_digest_36 rfl (lv_at hl 0 rfl) ?_
  refine lv_aload_n hx hb dX2_digest_37 rfl (lv_at hl 0 rfl) ?_
  refine va_get (D := (dC, dI)) (ci := 2) (v := .long l0) (C := RX2) (T := TX2) (N := 6) hx hb hts (k_X2_digest_in2) hown hK hP 0 rfl rfl 1 (by decide) (hts _ k_X2_digest_f13) (fun _ h9 => h9) rfl dX2_digest_38 ?_
  refine lv_ldc2 hx hb hown (hts _ k_X2_digest_c34) dX2_digest_41 ?_
  refine lv_lxor hx hb dX2_digest_44 ?_
  refine lv_topl (fun x_4 ex_4 => ?_)
  refine va_put (D := (dC, dI)) (ci := 2) (v := .long x_4) (ty := .long) (C := RX2) (T := TX2) (N := 6) hx hb hts (k_X2_digest_in2) tyX2 tyX2_ok nmX2 hown hK hP hD hS 0 rfl rfl 5 (by decide) (hts _ k_X2_digest_f25) (fun _ h9 => h9) rfl (by decide +kernel) rfl rfl (Nat.le_of_ble_eq_true rfl) dX2_digest_45 (fun H locs hP hD hS => ?_)
  have hP : va_P (dC, dI) vwCl [(h, .inr (2, [.long k, .long l0, .long x_1, .long x_2, .long x_3, .long x_4]))] H := hP
  have hD : va_D A [(h, .inr (2, [.long k, .long l0, .long x_1, .long x_2, .long x_3, .long x_4]))] := hD
  refine lv_aload_n hx hb dX2_digest_48 rfl (lv_at hl 0 rfl) ?_
  refine lv_lload_n hx hb dX2_digest_49 rfl (lv_at hl 1 rfl) ?_
  refine ck_cv (wr := []) (va_runV (As := [.long w1]) (rest := []) ⟨hx, hb, hml, hown, hts⟩ (c_X2_absorb l dC dI cI cJ cZ lo _ h k l0 x_1 x_2 x_3 x_4 w1) (cwV 1 hts gX2_digest_X2_absorb rfl rfl rfl (by decide +kernel) ⟨(Nat.le_of_ble_eq_true rfl), (Nat.le_of_ble_eq_true rfl)⟩) ⟨ck_blind, va_recv hK hP (ci := 2) (q0 := 0) rfl rfl, (ck_pre hG hP hD hS [0] rfl (by decide) _)⟩ rfl rfl hl.1 rfl (lv_room (Nat.le_of_ble_eq_true rfl)) dX2_digest_50 ⟨(Nat.le_of_ble_eq_true rfl), (Nat.le_of_ble_eq_true rfl)⟩) hP hD hS hA [0] [] rfl rfl (by decide) (by decide) (fun u H locs hw_5 hP hD hS => ?_)
  obtain ⟨u0_5, u1_5, u2_5, u3_5⟩ := u
  have hw_5 : (u0_5, u1_5, u2_5, u3_5) = ck_absorb (x_1, x_2, x_3, x_4) w1 := hw_5
  have hP : va_P (dC, dI) vwCl [(h, .inr (2, [.long k, .long l0, .long u0_5, .long u1_5, .long u2_5, .long u3_5]))] H := hP
  have hD : va_D A [(h, .inr (2, [.long k, .long l0, .long u0_5, .long u1_5, .long u2_5, .long u3_5]))] := hD
  refine lv_aload_n hx hb dX2_digest_53 rfl (lv_at hl 0 rfl) ?_
  refine lv_lload_n hx hb dX2_digest_54 rfl (lv_at hl 2 rfl) ?_
  refine ck_cv (wr := []) (va_runV (As := [.long w2]) (rest := []) ⟨hx, hb, hml, hown, hts⟩ (c_X2_absorb l dC dI cI cJ cZ lo _ h k l0 u0_5 u1_5 u2_5 u3_5 w2) (cwV 1 hts gX2_digest_X2_absorb rfl rfl rfl (by decide +kernel) ⟨(Nat.le_of_ble_eq_true rfl), (Nat.le_of_ble_eq_true rfl)⟩) ⟨ck_blind, va_recv hK hP (ci := 2) (q0 := 0) rfl rfl, (ck_pre hG hP hD hS [0] rfl (by decide) _)⟩ rfl rfl hl.1 rfl (lv_room (Nat.le_of_ble_eq_true rfl)) dX2_digest_55 ⟨(Nat.le_of_ble_eq_true rfl), (Nat.le_of_ble_eq_true rfl)⟩) hP hD hS hA [0] [] rfl rfl (by decide) (by decide) (fun u H locs hw_6 hP hD hS => ?_)
  obtain ⟨u0_6, u1_6, u2_6, u3_6⟩ := u
  have hw_6 : (u0_6, u1_6, u2_6, u3_6) = ck_absorb (u0_5, u1_5, u2_5, u3_5) w2 := hw_6
  have hP : va_P (dC, dI) vwCl [(h, .inr (2, [.long k, .long l0, .long u0_6, .long u1_6, .long u2_6, .long u3_6]))] H := hP
  have hD : va_D A [(h, .inr (2, [.long k, .long l0, .long u0_6, .long u1_6, .long u2_6, .long u3_6]))] := hD
  refine lv_aload_n hx hb dX2_digest_58 rfl (lv_at hl 0 rfl) ?_
  refine lv_ldc2 hx hb hown (hts _ k_X2_digest_c40) dX2_digest_59 ?_
  refine ck_cv (wr := []) (va_runV (As := [.long 1152921504606846976]) (rest := []) ⟨hx, hb, hml, hown, hts⟩ (c_X2_absorb l dC dI cI cJ cZ lo _ h k l0 u0_6 u1_6 u2_6 u3_6 1152921504606846976) (cwV 1 hts gX2_digest_X2_absorb rfl rfl rfl (by decide +kernel) ⟨(Nat.le_of_ble_eq_true rfl), (Nat.le_of_ble_eq_true rfl)⟩) ⟨ck_blind, va_recv hK hP (ci := 2) (q0 := 0) rfl rfl, (ck_pre hG hP hD hS [0] rfl (by decide) _)⟩ rfl rfl hl.1 rfl (lv_room (Nat.le_of_ble_eq_true rfl)) dX2_digest_62 ⟨(Nat.le_of_ble_eq_true rfl), (Nat.le_of_ble_eq_true rfl)⟩) hP hD hS hA [0] [] rfl rfl (by decide) (by decide) (fun u H locs hw_7 hP hD hS => ?_)
  obtain ⟨u0_7, u1_7, u2_7, u3_7⟩ := u
  have hw_7 : (u0_7, u1_7, u2_7, u3_7) = ck_absorb (u0_6, u1_6, u2_6, u3_6) 1152921504606846976 := hw_7
  have hP : va_P (dC, dI) vwCl [(h, .inr (2, [.long k, .long l0, .long u0_7, .long u1_7, .long u2_7, .long u3_7]))] H := hP
  have hD : va_D A [(h, .inr (2, [.long k, .long l0, .long u0_7, .long u1_7, .long u2_7, .long u3_7]))] := hD
  refine lv_aload_n hx hb dX2_digest_65 rfl (lv_at hl 0 rfl) ?_
  refine lv_dup hx hb dX2_digest_66 rfl ?_
  refine va_get (D := (dC, dI)) (ci := 2) (v := .long u2_7) (C := RX2) (T := TX2) (N := 6) hx hb hts (k_X2_digest_in2) hown hK hP 0 rfl rfl 4 (by decide) (hts _ k_X2_digest_f22) (fun _ h9 => h9) rfl dX2_digest_67 ?_
  refine lv_ldc2 hx hb hown (hts _ k_X2_digest_c42) dX2_digest_70 ?_
  refine lv_lxor hx hb dX2_digest_73 ?_
  refine lv_topl (fun x_8 ex_8 => ?_)
  refine va_put (D := (dC, dI)) (ci := 2) (v := .long x_8) (ty := .long) (C := RX2) (T := TX2) (N := 6) hx hb hts (k_X2_digest_in2) tyX2 tyX2_ok nmX2 hown hK hP hD hS 0 rfl rfl 4 (by decide) (hts _ k_X2_digest_f22) (fun _ h9 => h9) rfl (by decide +kernel) rfl rfl (Nat.le_of_ble_eq_true rfl) dX2_digest_74 (fun H locs hP hD hS => ?_)
  have hP : va_P (dC, dI) vwCl [(h, .inr (2, [.long k, .long l0, .long u0_7, .long u1_7, .long x_8, .long u3_7]))] H := hP
  have hD : va_D A [(h, .inr (2, [.long k, .long l0, .long u0_7, .long u1_7, .long x_8, .long u3_7]))] := hD
  refine lv_aload_n hx hb dX2_digest_77 rfl (lv_at hl 0 rfl) ?_
  refine lv_iconst (v := nI 4) hx hb dX2_digest_78 (by decide) ?_
  refine ck_cv (wr := []) (va_runV (As := [.int (nI 4)]) (rest := []) ⟨hx, hb, hml, hown, hts⟩ (c_X2_mix l dC dI cI cJ cZ lo _ h k l0 u0_7 u1_7 x_8 u3_7 4 (by first | assumption | omega)) (cwV 1 hts gX2_digest_X2_mix rfl rfl rfl (by decide +kernel) ⟨(Nat.le_of_ble_eq_true rfl), (Nat.le_of_ble_eq_true rfl)⟩) ⟨ck_blind, va_recv hK hP (ci := 2) (q0 := 0) rfl rfl, (ck_pre hG hP hD hS [0] rfl (by decide) _)⟩ rfl rfl hl.1 rfl (lv_room (Nat.le_of_ble_eq_true rfl)) dX2_digest_79 ⟨(Nat.le_of_ble_eq_true rfl), (Nat.le_of_ble_eq_true rfl)⟩) hP hD hS hA [0] [] rfl rfl (by decide) (by decide) (fun u H locs hw_9 hP hD hS => ?_)
  obtain ⟨u0_9, u1_9, u2_9, u3_9⟩ := u
  have hw_9 : (u0_9, u1_9, u2_9, u3_9) = ck_mix 4 (u0_7, u1_7, x_8, u3_7) := hw_9
  have hP : va_P (dC, dI) vwCl [(h, .inr (2, [.long k, .long l0, .long u0_9, .long u1_9, .long u2_9, .long u3_9]))] H := hP
  have hD : va_D A [(h, .inr (2, [.long k, .long l0, .long u0_9, .long u1_9, .long u2_9, .long u3_9]))] := hD
  refine lv_aload_n hx hb dX2_digest_82 rfl (lv_at hl 0 rfl) ?_
  refine va_get (D := (dC, dI)) (ci := 2) (v := .long u0_9) (C := RX2) (T := TX2) (N := 6) hx hb hts (k_X2_digest_in2) hown hK hP 0 rfl rfl 2 (by decide) (hts _ k_X2_digest_f16) (fun _ h9 => h9) rfl dX2_digest_83 ?_
  refine lv_aload_n hx hb dX2_digest_86 rfl (lv_at hl 0 rfl) ?_
  refine va_get (D := (dC, dI)) (ci := 2) (v := .long u1_9) (C := RX2) (T := TX2) (N := 6) hx hb hts (k_X2_digest_in2) hown hK hP 0 rfl rfl 3 (by decide) (hts _ k_X2_digest_f19) (fun _ h9 => h9) rfl dX2_digest_87 ?_
  refine lv_lxor hx hb dX2_digest_90 ?_
  refine lv_aload_n hx hb dX2_digest_91 rfl (lv_at hl 0 rfl) ?_
  refine va_get (D := (dC, dI)) (ci := 2) (v := .long u2_9) (C := RX2) (T := TX2) (N := 6) hx hb hts (k_X2_digest_in2) hown hK hP 0 rfl rfl 4 (by decide) (hts _ k_X2_digest_f22) (fun _ h9 => h9) rfl dX2_digest_92 ?_
  refine lv_lxor hx hb dX2_digest_95 ?_
  refine lv_aload_n hx hb dX2_digest_96 rfl (lv_at hl 0 rfl) ?_
  refine va_get (D := (dC, dI)) (ci := 2) (v := .long u3_9) (C := RX2) (T := TX2) (N := 6) hx hb hts (k_X2_digest_in2) hown hK hP 0 rfl rfl 5 (by decide) (hts _ k_X2_digest_f25) (fun _ h9 => h9) rfl dX2_digest_97 ?_
  refine lv_lxor hx hb dX2_digest_100 ?_
  refine ck_lr hx hb hr hlocks (Nat.le_of_ble_eq_true rfl) (Nat.le_of_ble_eq_true rfl) dX2_digest_101 (u0_9, u1_9, u2_9, u3_9) hP hD hS ?_
  subst_vars
  unfold ck_sip ck_sip0
  rw [← hw_5, ← hw_6, ← hw_7]
  unfold ck_sipE
  dsimp only
  rw [← hw_9]
