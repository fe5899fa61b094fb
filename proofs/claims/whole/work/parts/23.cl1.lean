/-! the class CookieListener: its numbers -/
def ck_clr (a b : Int32) : Int64 := (a.toInt64 <<< ((32 : Int32).toInt64 &&& 63)) ||| b.toInt64
def ck_prt (x : Int64) : Int32 := x.toInt32 &&& 65535
def ck_wos (x : Int32) : Int64 := x.toInt64 &&& 4294967295
def ck_kdi : Nat → Int32 → Int32
  | 0, _ => 0
  | i + 1, z => if ck_sz.getD i 0 ≤ z then nI i else ck_kdi i z
theorem ck_kdS (i : Nat) (z : Int32) : ck_kdi (i + 1) z = if ck_sz.getD i 0 ≤ z then nI i else ck_kdi i z := rfl
def ck_ckk (k l x : Int64) (num kd sl : Int32) : Int32 :=
  (((sl &&& 31) <<< ((27 : Int32) &&& 31)) ||| (kd <<< ((24 : Int32) &&& 31))) ||| ((ck_sip k l ((x &&& (-4294967296)) ||| ck_wos num) (((ck_prt x).toInt64 + (kd.toInt64 <<< ((16 : Int32).toInt64 &&& 63))) + (sl.toInt64 <<< ((20 : Int32).toInt64 &&& 63)))).toInt32 &&& 16777215)
def ck_late (k l x : Int64) (num kd ti ca : Int32) : Prop := ca = ck_ckk k l x num kd (ti / 64) ∨ (0 < ti / 64 ∧ ca = ck_ckk k l x num kd (ti / 64 - 1))
def ck_lately (gv ti ct : Int32) : Prop := 0 < gv ∧ ti - ct ≤ 128
def ck_stt (n : Nat) (f1 : Nat → Int64) (kc t : Nat) (g1 : Nat → Int64) (x : Int64) (r : Int32) : Prop :=
  (∃ j, j < kc ∧ g1 j = x ∧ ((j < t ∧ r = 3) ∨ (t ≤ j ∧ r = 2))) ∨ ((∀ i, i < kc → g1 i ≠ x) ∧ (((∃ j, j < n ∧ f1 j = x) ∧ r = 1) ∨ ((∀ i, i < n → f1 i ≠ x) ∧ r = 0)))
theorem ck_ltz {n : Nat} {z : Int32} (h : nI n < z) (hz : z ≤ 32) (hn : n ≤ 32) : n < 32 := by
  have h1 : nI n < 32 := Int32.lt_of_lt_of_le h hz
  have e : (32 : Int32) = nI 32 := rfl
  rw [e] at h1
  exact (nI_ltI (by omega) (by decide)).mp h1
theorem ck_njm1 {j : Nat} (h : j < 2 ^ 31) : ¬ nI j = -1 := by
  intro e
  have h1 := nI_toInt h
  rw [e] at h1
  have h2 : ((-1 : Int32)).toInt = -1 := by decide
  omega
set_option maxHeartbeats 4000000 in
set_option maxRecDepth 100000 in
theorem c_X3_callerOf (l : Launch) (dC : Nat → ClassId) (dI : Nat → Nat → Nat) (cI cJ cZ : ClassId) (lo sz : Nat) (aa bb : Int32) : Met l yX3_callerOf wsX3_callerOf ({ frames := 0, cells := 0, slots := 0, locals := 0 } : Room) (va_Pc [.int aa, .int bb] (ck_P (dC, dI) [(cI, .int), (cJ, .long), (cZ, .boolean)] lo sz [])) (vp_Sl (fun (r : Int64) => r = ck_clr aa bb)) 0 0 (fun _ => False) := by
  refine Met.ofW (cc := cX3_callerOf) (maxL := 2) (ret := (some .long)) (by decide) rfl ?_
  intro p e s m args below meth c s₁ B hml hv
  obtain ⟨rfl, hsz, hP, hK, hD0, hE⟩ := hv
  have hx := B.exec
  have hb := B.bytes
  have hr := B.returns
  have hts := atoms_spec (ws := wsX3_callerOf) B.pre
  have hown : s.vm.findClass RX3 = some m.cls := findClass_of_methodNamed B.named
  have hlocks := B.notSynchronized
  subst hsz
  have hD := hD0.self (sz := s.heap.size)
  have hlo := ck_lo (sz := s.heap.size) hD0 hE.1
  generalize hAe : va_A [] s.heap.size = A at hD hlo
  have hA : ∀ q : Nat, s.heap.size ≤ q → A q := fun q h => by rw [← hAe]; exact Or.inr h
  have hG : ck_G (dC, dI) [(cI, .int), (cJ, .long), (cZ, .boolean)] lo A s := ⟨hK, hE, hA, hlo⟩
  have hS : va_S A s.heap s.heap [] := va_S.rf
  have hP : va_P (dC, dI) vwCl [] s.heap := hP
  have hl := lv_entry ([.int aa, .int bb]) (n := 2) (Nat.le_of_ble_eq_true rfl)
  rw [lg_entry_eq]
  generalize (lg_sl ([.int aa, .int bb]) ++ List.replicate (2 - (lg_sl ([.int aa, .int bb])).length) Slot.unset).toArray = ls at hl ⊢
  have hl : lv_has ls 2 [(0, .int aa), (1, .int bb)] := hl
  refine lv_iload_n hx hb dX3_callerOf_0 rfl (lv_at hl 0 rfl) ?_
  refine lv_i2l hx hb dX3_callerOf_1 rfl ?_
  refine lv_bipush (v := 32) hx hb dX3_callerOf_2 (by decide) ?_
  refine lv_lshl hx hb dX3_callerOf_4 rfl ?_
  refine lv_iload_n hx hb dX3_callerOf_5 rfl (lv_at hl 1 rfl) ?_
  refine lv_i2l hx hb dX3_callerOf_6 rfl ?_
  refine lv_lor hx hb dX3_callerOf_7 ?_
  refine ck_lq hx hb hr hlocks dX3_callerOf_8 ?_
  exact rfl
set_option maxRecDepth 20000 in
theorem k_X3_portOf_c67 : (.constant RX3 67 (65535) : Cond) ∈ wsX3_portOf := by decide +kernel
set_option maxHeartbeats 4000000 in
set_option maxRecDepth 100000 in
theorem c_X3_portOf (l : Launch) (dC : Nat → ClassId) (dI : Nat → Nat → Nat) (cI cJ cZ : ClassId) (lo sz : Nat) (x : Int64) : Met l yX3_portOf wsX3_portOf ({ frames := 0, cells := 0, slots := 0, locals := 0 } : Room) (va_Pc [.long x] (ck_P (dC, dI) [(cI, .int), (cJ, .long), (cZ, .boolean)] lo sz [])) (vp_Si (fun (r : Int32) => r = ck_prt x)) 0 0 (fun _ => False) := by
  refine Met.ofW (cc := cX3_portOf) (maxL := 2) (ret := (some .int)) (by decide) rfl ?_
  intro p e s m args below meth c s₁ B hml hv
  obtain ⟨rfl, hsz, hP, hK, hD0, hE⟩ := hv
  have hx := B.exec
  have hb := B.bytes
  have hr := B.returns
  have hts := atoms_spec (ws := wsX3_portOf) B.pre
  have hown : s.vm.findClass RX3 = some m.cls := findClass_of_methodNamed B.named
  have hlocks := B.notSynchronized
  subst hsz
  have hD := hD0.self (sz := s.heap.size)
  have hlo := ck_lo (sz := s.heap.size) hD0 hE.1
  generalize hAe : va_A [] s.heap.size = A at hD hlo
  have hA : ∀ q : Nat, s.heap.size ≤ q → A q := fun q h => by rw [← hAe]; exact Or.inr h
  have hG : ck_G (dC, dI) [(cI, .int), (cJ, .long), (cZ, .boolean)] lo A s := ⟨hK, hE, hA, hlo⟩
  have hS : va_S A s.heap s.heap [] := va_S.rf
  have hP : va_P (dC, dI) vwCl [] s.heap := hP
  have hl := lv_entry ([.long x]) (n := 2) (Nat.le_of_ble_eq_true rfl)
  rw [lg_entry_eq]
  generalize (lg_sl ([.long x]) ++ List.replicate (2 - (lg_sl ([.long x])).length) Slot.unset).toArray = ls at hl ⊢
  have hl : lv_has ls 2 [(0, .long x)] := hl
  refine lv_lload_n hx hb dX3_portOf_0 rfl (lv_at hl 0 rfl) ?_
  refine lv_l2i hx hb dX3_portOf_1 rfl ?_
  refine lv_ldc hx hb hown (hts _ k_X3_portOf_c67) dX3_portOf_2 ?_
  refine lv_iand hx hb dX3_portOf_4 ?_
  refine ck_iq hx hb hr hlocks dX3_portOf_5 ?_
  exact rfl
set_option maxRecDepth 20000 in
theorem k_X3_withoutSign_c153 : (.constantLong RX3 153 (4294967295) : Cond) ∈ wsX3_withoutSign := by decide +kernel
set_option maxHeartbeats 4000000 in
set_option maxRecDepth 100000 in
theorem c_X3_withoutSign (l : Launch) (dC : Nat → ClassId) (dI : Nat → Nat → Nat) (cI cJ cZ : ClassId) (lo sz : Nat) (w : Int32) : Met l yX3_withoutSign wsX3_withoutSign ({ frames := 0, cells := 0, slots := 0, locals := 0 } : Room) (va_Pc [.int w] (ck_P (dC, dI) [(cI, .int), (cJ, .long), (cZ, .boolean)] lo sz [])) (vp_Sl (fun (r : Int64) => r = ck_wos w)) 0 0 (fun _ => False) := by
  refine Met.ofW (cc := cX3_withoutSign) (maxL := 1) (ret := (some .long)) (by decide) rfl ?_
  intro p e s m args below meth c s₁ B hml hv
  obtain ⟨rfl, hsz, hP, hK, hD0, hE⟩ := hv
  have hx := B.exec
  have hb := B.bytes
  have hr := B.returns
  have hts := atoms_spec (ws := wsX3_withoutSign) B.pre
  have hown : s.vm.findClass RX3 = some m.cls := findClass_of_methodNamed B.named
  have hlocks := B.notSynchronized
  subst hsz
  have hD := hD0.self (sz := s.heap.size)
  have hlo := ck_lo (sz := s.heap.size) hD0 hE.1
  generalize hAe : va_A [] s.heap.size = A at hD hlo
  have hA : ∀ q : Nat, s.heap.size ≤ q → A q := fun q h => by rw [← hAe]; exact Or.inr h
  have hG : ck_G (dC, dI) [(cI, .int), (cJ, .long), (cZ, .boolean)] lo A s := ⟨hK, hE, hA, hlo⟩
  have hS : va_S A s.heap s.heap [] := va_S.rf
  have hP : va_P (dC, dI) vwCl [] s.heap := hP
  have hl := lv_entry ([.int w]) (n := 1) (Nat.le_of_ble_eq_true rfl)
  rw [lg_entry_eq]
  generalize (lg_sl ([.int w]) ++ List.replicate (1 - (lg_sl ([.int w])).length) Slot.unset).toArray = ls at hl ⊢
  have hl : lv_has ls 1 [(0, .int w)] := hl
  refine lv_iload_n hx hb dX3_withoutSign_0 rfl (lv_at hl 0 rfl) ?_
  refine lv_i2l hx hb dX3_withoutSign_1 rfl ?_
  refine lv_ldc2 hx hb hown (hts _ k_X3_withoutSign_c153) dX3_withoutSign_2 ?_
  refine lv_land hx hb dX3_withoutSign_5 ?_
  refine ck_lq hx hb hr hlocks dX3_withoutSign_6 ?_
  exact rfl
set_option maxRecDepth 20000 in
theorem k_X3_kindOf_f155 : (.fieldLink RX3 155 "CookieListener" "GREATEST_SIZES" "[I" : Cond) ∈ wsX3_kindOf := by decide +kernel
set_option maxHeartbeats 4000000 in
set_option maxRecDepth 100000 in
theorem c_X3_kindOf (l : Launch) (dC : Nat → ClassId) (dI : Nat → Nat → Nat) (cI cJ cZ : ClassId) (lo sz : Nat) (z : Int32) : Met l yX3_kindOf wsX3_kindOf ({ frames := 0, cells := 0, slots := 0, locals := 0 } : Room) (va_Pc [.int z] (ck_P (dC, dI) [(cI, .int), (cJ, .long), (cZ, .boolean)] lo sz [])) (vp_Si (fun (r : Int32) => r = ck_kdi 8 z)) 0 0 (fun _ => False) := by
  refine Met.ofW (cc := cX3_kindOf) (maxL := 3) (ret := (some .int)) (by decide) rfl ?_
  intro p e s m args below meth c s₁ B hml hv
  obtain ⟨rfl, hsz, hP, hK, hD0, hE⟩ := hv
  have hx := B.exec
  have hb := B.bytes
  have hr := B.returns
  have hts := atoms_spec (ws := wsX3_kindOf) B.pre
  have hown : s.vm.findClass RX3 = some m.cls := findClass_of_methodNamed B.named
  have hlocks := B.notSynchronized
  subst hsz
  have hD := hD0.self (sz := s.heap.size)
  have hlo := ck_lo (sz := s.heap.size) hD0 hE.1
  generalize hAe : va_A [] s.heap.size = A at hD hlo
  have hA : ∀ q : Nat, s.heap.size ≤ q → A q := fun q h => by rw [← hAe]; exact Or.inr h
  have hG : ck_G (dC, dI) [(cI, .int), (cJ, .long), (cZ, .boolean)] lo A s := ⟨hK, hE, hA, hlo⟩
  have hS : va_S A s.heap s.heap [] := va_S.rf
  have hP : va_P (dC, dI) vwCl [] s.heap := hP
  have hl := lv_entry ([.int z]) (n := 3) (Nat.le_of_ble_eq_true rfl)
  rw [lg_entry_eq]
  generalize (lg_sl ([.int z]) ++ List.replicate (3 - (lg_sl ([.int z])).length) Slot.unset).toArray = ls at hl ⊢
  have hl : lv_has ls 3 [(0, .int z)] := hl
  obtain ⟨tt, hZ0, hT0⟩ := hE.2.2.2.2.2.2.2
  have hZ := hZ0.narrow (B := A) (fun q hq => hlo q hq)
  have hT := hT0.narrow (B := A) (fun q hq => hlo q hq)
  refine lv_iconst (v := 0) hx hb dX3_kindOf_0 (by decide) ?_
  refine lv_istore_n (lv' := [(1, .int 0), (0, .int z)]) hx hb dX3_kindOf_1 rfl hl (by decide) rfl (fun ls hl => ?_)
  refine lv_iconst (v := nI 0) hx hb dX3_kindOf_2 (by decide) ?_
  refine lv_istore_n (lv' := [(2, .int (nI 0)), (1, .int 0), (0, .int z)]) hx hb dX3_kindOf_3 rfl hl (by decide) rfl (fun ls hl => ?_)
  have hloop : ∀ (fu : Nat) (i : Nat) (kd : Int32), (i ≤ 8) → (9 ≤ i + fu) → (kd = ck_kdi i z) → ∀ (H : Heap) (locs : List Loc) (ls : Array Slot), H = s.heap → locs = [] → va_P (dC, dI) vwCl [] H → va_D A [] → va_S A s.heap H locs → lv_has ls 3 [(0, .int z), (1, .int kd), (2, .int (nI i))] → W p l e (headSpec wsX3_kindOf ({ frames := 0, cells := 0, slots := 0, locals := 0 } : Room)).room s m (([.int z] : List Value).toArray) below meth c H locs 0 0 (MQ below (vp_Si (fun (r : Int32) => r = ck_kdi 8 z)) (([.int z] : List Value).toArray) s 0 0 (fun _ => False)) (F0 m 4 ls []) := by
    intro fu
    induction fu with
    | zero =>
      intro i kd hi hf hk
      exfalso
      omega
    | succ fu ih =>
      intro i kd hi hf hk H locs ls eH eL hP hD hS hl
      subst eH; subst eL
      refine lv_iload_n hx hb dX3_kindOf_4 rfl (lv_at hl 2 rfl) ?_
      refine va_gets hx hb hZ hS hown (hts _ k_X3_kindOf_f155) (fun _ h9 => h9) dX3_kindOf_5 ?_
      refine va_tlen hx hb hT hS (v := nI 8) rfl dX3_kindOf_8 ?_
      refine lv_icmp_ge (tgt := 29) hx hb dX3_kindOf_9 (by decide) (fun c_9 => ?_) (fun c_9 => ?_)
      · skip
        have c_9 : 8 ≤ i := (nI_leI (by omega) (by omega)).mp c_9
        refine lv_iload_n hx hb dX3_kindOf_29 rfl (lv_at hl 1 rfl) ?_
        refine ck_iq hx hb hr hlocks dX3_kindOf_30 ?_
        have e9 : i = 8 := by omega
        rw [e9] at hk
        exact hk
      · skip
        have c_9 : ¬ (8 ≤ i) := fun z => c_9 ((nI_leI (by omega) (by omega)).mpr z)
        refine va_gets hx hb hZ hS hown (hts _ k_X3_kindOf_f155) (fun _ h9 => h9) dX3_kindOf_12 ?_
        refine lv_iload_n hx hb dX3_kindOf_15 rfl (lv_at hl 2 rfl) ?_
        refine va_ti hx hb hT hS (vp_in_nI (by omega) (by decide)) (v := .int (ck_sz.getD i 0)) (by rw [nI_clamp (by omega)]) dX3_kindOf_16 ?_
        refine lv_iload_n hx hb dX3_kindOf_17 rfl (lv_at hl 0 rfl) ?_
        refine lv_icmp_gt (tgt := 23) hx hb dX3_kindOf_18 (by decide) (fun c_18 => ?_) (fun c_18 => ?_)
        · skip
          refine lv_iinc (v := nI (i + 1)) (lv' := [(2, .int (nI (i + 1))), (0, .int z), (1, .int kd)]) hx hb dX3_kindOf_23 hl (k := 2) rfl (nI_1 _) (by decide) rfl (fun ls hl => ?_)
          refine lv_goto (tgt := 4) hx hb dX3_kindOf_26 (by decide) ?_
          exact ih (i + 1) kd (by omega) (by omega) (by rw [ck_kdS, if_neg (Int32.not_le.mpr c_18)]; exact hk) _ _ _ rfl rfl (hP.sub [] rfl) (hD.sub [] (by decide) rfl) hS (lv_sub hl [1, 2, 0] rfl)
        · skip
          refine lv_iload_n hx hb dX3_kindOf_21 rfl (lv_at hl 2 rfl) ?_
          refine lv_istore_n (lv' := [(1, .int (nI i)), (0, .int z), (2, .int (nI i))]) hx hb dX3_kindOf_22 rfl hl (by decide) rfl (fun ls hl => ?_)
          refine lv_iinc (v := nI (i + 1)) (lv' := [(2, .int (nI (i + 1))), (1, .int (nI i)), (0, .int z)]) hx hb dX3_kindOf_23 hl (k := 2) rfl (nI_1 _) (by decide) rfl (fun ls hl => ?_)
          refine lv_goto (tgt := 4) hx hb dX3_kindOf_26 (by decide) ?_
          exact ih (i + 1) (nI i) (by omega) (by omega) (by rw [ck_kdS, if_pos (Int32.not_lt.mp c_18)]) _ _ _ rfl rfl (hP.sub [] rfl) (hD.sub [] (by decide) rfl) hS (lv_sub hl [2, 1, 0] rfl)
  exact hloop (9) 0 0 (by omega) (by omega) (rfl) _ _ _ rfl rfl (hP.sub [] rfl) (hD.sub [] (by decide) rfl) hS (lv_sub hl [2, 1, 0] rfl)
set_option maxRecDepth 20000 in
theorem k_X3_slotNow_f37 : (.fieldLink RX3 37 "CookieListener" "time" "I" : Cond) ∈ wsX3_slotNow := by decide +kernel
set_option maxRecDepth 20000 in
theorem k_X3_slotNow_in3 : ∀ w ∈ u_ws RX3 TX3 11, w ∈ wsX3_slotNow := by decide +kernel
set_option maxHeartbeats 4000000 in
set_option maxRecDepth 100000 in
theorem c_X3_slotNow (l : Launch) (dC : Nat → ClassId) (dI : Nat → Nat → Nat) (cI cJ cZ : ClassId) (lo sz : Nat) (o sp h cn : Nat) (zs rq ti ct gv bh bc un : Int32) : Met l yX3_slotNow wsX3_slotNow ({ frames := 0, cells := 0, slots := 0, locals := 0 } : Room) (va_Pc [.ref o] (ck_P (dC, dI) [(cI, .int), (cJ, .long), (cZ, .boolean)] lo sz [(o, .inr (3, [.ref sp, .ref h, .ref cn, .int zs, .int rq, .int ti, .int ct, .int gv, .int bh, .int bc, .int un]))])) (vp_Si (fun (r : Int32) => r = ti / 64)) 0 0 (fun _ => False) := by
  refine Met.ofW (cc := cX3_slotNow) (maxL := 1) (ret := (some .int)) (by decide) rfl ?_
  intro p e s m args below meth c s₁ B hml hv
  obtain ⟨rfl, hsz, hP, hK, hD0, hE⟩ := hv
  have hx := B.exec
  have hb := B.bytes
  have hr := B.returns
  have hts := atoms_spec (ws := wsX3_slotNow) B.pre
  have hown : s.vm.findClass RX3 = some m.cls := findClass_of_methodNamed B.named
  have hlocks := B.notSynchronized
  subst hsz
  have hD := hD0.self (sz := s.heap.size)
  have hlo := ck_lo (sz := s.heap.size) hD0 hE.1
  generalize hAe : va_A [(o, .inr (3, [.ref sp, .ref h, .ref cn, .int zs, .int rq, .int ti, .int ct, .int gv, .int bh, .int bc, .int un]))] s.heap.size = A at hD hlo
  have hA : ∀ q : Nat, s.heap.size ≤ q → A q := fun q h => by rw [← hAe]; exact Or.inr h
  have hG : ck_G (dC, dI) [(cI, .int), (cJ, .long), (cZ, .boolean)] lo A s := ⟨hK, hE, hA, hlo⟩
  have hS : va_S A s.heap s.heap [] := va_S.rf
  have hP : va_P (dC, dI) vwCl [(o, .inr (3, [.ref sp, .ref h, .ref cn, .int zs, .int rq, .int ti, .int ct, .int gv, .int bh, .int bc, .int un]))] s.heap := hP
  have hl := lv_entry ([.ref o]) (n := 1) (Nat.le_of_ble_eq_true rfl)
  rw [lg_entry_eq]
  generalize (lg_sl ([.ref o]) ++ List.replicate (1 - (lg_sl ([.ref o])).length) Slot.unset).toArray = ls at hl ⊢
  have hl : lv_has ls 1 [(0, .ref o)] := hl
  refine lv_aload_n hx hb dX3_slotNow_0 rfl (lv_at hl 0 rfl) ?_
  refine va_get (D := (dC, dI)) (ci := 3) (v := .int ti) (C := RX3) (T := TX3) (N := 11) hx hb hts (k_X3_slotNow_in3) hown hK hP 0 rfl rfl 5 (by decide) (hts _ k_X3_slotNow_f37) (fun _ h9 => h9) rfl dX3_slotNow_1 ?_
  refine lv_bipush (v := 64) hx hb dX3_slotNow_4 (by decide) ?_
  refine lv_idiv hx hb dX3_slotNow_6 (by decide) ?_
  refine ck_iq hx hb hr hlocks dX3_slotNow_7 ?_
  exact rfl
set_option maxRecDepth 20000 in
theorem k_X3_cookiesGivenLately_f43 : (.fieldLink RX3 43 "CookieListener" "cookiesGiven" "I" : Cond) ∈ wsX3_cookiesGivenLately := by decide +kernel
set_option maxRecDepth 20000 in
theorem k_X3_cookiesGivenLately_in3 : ∀ w ∈ u_ws RX3 TX3 11, w ∈ wsX3_cookiesGivenLately := by decide +kernel
set_option maxRecDepth 20000 in
theorem k_X3_cookiesGivenLately_f37 : (.fieldLink RX3 37 "CookieListener" "time" "I" : Cond) ∈ wsX3_cookiesGivenLately := by decide +kernel
set_option maxRecDepth 20000 in
theorem k_X3_cookiesGivenLately_f40 : (.fieldLink RX3 40 "CookieListener" "cookiesTime" "I" : Cond) ∈ wsX3_cookiesGivenLately := by decide +kernel
set_option maxHeartbeats 4000000 in
set_option maxRecDepth 100000 in
theorem c_X3_lately (l : Launch) (dC : Nat → ClassId) (dI : Nat → Nat → Nat) (cI cJ cZ : ClassId) (lo sz : Nat) (o sp h cn : Nat) (zs rq ti ct gv bh bc un : Int32) : Met l yX3_cookiesGivenLately wsX3_cookiesGivenLately ({ frames := 0, cells := 0, slots := 0, locals := 0 } : Room) (va_Pc [.ref o] (ck_P (dC, dI) [(cI, .int), (cJ, .long), (cZ, .boolean)] lo sz [(o, .inr (3, [.ref sp, .ref h, .ref cn, .int zs, .int rq, .int ti, .int ct, .int gv, .int bh, .int bc, .int un]))])) (vp_Si (fun (r : Int32) => (r = 1 ∧ ck_lately gv ti ct) ∨ (r = 0 ∧ ¬ ck_lately gv ti ct))) 0 0 (fun _ => False) := by
  refine Met.ofW (cc := cX3_cookiesGivenLately) (maxL := 1) (ret := (some .boolean)) (by decide) rfl ?_
  intro p e s m args below meth c s₁ B hml hv
  obtain ⟨rfl, hsz, hP, hK, hD0, hE⟩ := hv
  have hx := B.exec
  have hb := B.bytes
  have hr := B.returns
  have hts := atoms_spec (ws := wsX3_cookiesGivenLately) B.pre
  have hown : s.vm.findClass RX3 = some m.cls := findClass_of_methodNamed B.named
  have hlocks := B.notSynchronized
  subst hsz
  have hD := hD0.self (sz := s.heap.size)
  have hlo := ck_lo (sz := s.heap.size) hD0 hE.1
  generalize hAe : va_A [(o, .inr (3, [.ref sp, .ref h, .ref cn, .int zs, .int rq, .int ti, .int ct, .int gv, .int bh, .int bc, .int un]))] s.heap.size = A at hD hlo
  have hA : ∀ q : Nat, s.heap.size ≤ q → A q := fun q h => by rw [← hAe]; exact Or.inr h
  have hG : ck_G (dC, dI) [(cI, .int), (cJ, .long), (cZ, .boolean)] lo A s := ⟨hK, hE, hA, hlo⟩
  have hS : va_S A s.heap s.heap [] := va_S.rf
  have hP : va_P (dC, dI) vwCl [(o, .inr (3, [.ref sp, .ref h, .ref cn, .int zs, .int rq, .int ti, .int ct, .int gv, .int bh, .int bc, .int un]))] s.heap := hP
  have hl := lv_entry ([.ref o]) (n := 1) (Nat.le_of_ble_eq_true rfl)
  rw [lg_entry_eq]
  generalize (lg_sl ([.ref o]) ++ List.replicate (1 - (lg_sl ([.ref o])).length) Slot.unset).toArray = ls at hl ⊢
  have hl : lv_has ls 1 [(0, .ref o)] := hl
  refine lv_aload_n hx hb dX3_cookiesGivenLately_0 rfl (lv_at hl 0 rfl) ?_
  refine va_get (D := (dC, dI)) (ci := 3) (v := .int gv) (C := RX3) (T := TX3) (N := 11) hx hb hts (k_X3_cookiesGivenLately_in3) hown hK hP 0 rfl rfl 7 (by decide) (hts _ k_X3_cookiesGivenLately_f43) (fun _ h9 => h9) rfl dX3_cookiesGivenLately_1 ?_
  refine lv_if_le (tgt := 26) hx hb dX3_cookiesGivenLately_4 (by decide) (fun c_4 => ?_) (fun c_4 => ?_)
  · skip
    refine lv_iconst (v := 0) hx hb dX3_cookiesGivenLately_26 (by decide) ?_
    refine ck_zq hx hb hr hlocks (by first | exact Or.inl rfl | exact Or.inr rfl) dX3_cookiesGivenLately_27 ?_
    exact Or.inr ⟨rfl, fun z => absurd z.1 (Int32.not_lt.mpr c_4)⟩
  · skip
    refine lv_aload_n hx hb dX3_cookiesGivenLately_7 rfl (lv_at hl 0 rfl) ?_
    refine va_get (D := (dC, dI)) (ci := 3) (v := .int ti) (C := RX3) (T := TX3) (N := 11) hx hb hts (k_X3_cookiesGivenLately_in3) hown hK hP 0 rfl rfl 5 (by decide) (hts _ k_X3_cookiesGivenLately_f37) (fun _ h9 => h9) rfl dX3_cookiesGivenLately_8 ?_
    refine lv_aload_n hx hb dX3_cookiesGivenLately_11 rfl (lv_at hl 0 rfl) ?_
    refine va_get (D := (dC, dI)) (ci := 3) (v := .int ct) (C := RX3) (T := TX3) (N := 11) hx hb hts (k_X3_cookiesGivenLately_in3) hown hK hP 0 rfl rfl 6 (by decide) (hts _ k_X3_cookiesGivenLately_f40) (fun _ h9 => h9) rfl dX3_cookiesGivenLately_12 ?_
    refine lv_isub hx hb dX3_cookiesGivenLately_15 ?_
    refine lv_sipush (v := 128) hx hb dX3_cookiesGivenLately_16 (by decide) ?_
    refine lv_icmp_gt (tgt := 26) hx hb dX3_cookiesGivenLately_19 (by decide) (fun c_19 => ?_) (fun c_19 => ?_)
    · skip
      refine lv_iconst (v := 0) hx hb dX3_cookiesGivenLately_26 (by decide) ?_
      refine ck_zq hx hb hr hlocks (by first | exact Or.inl rfl | exact Or.inr rfl) dX3_cookiesGivenLately_27 ?_
      exact Or.inr ⟨rfl, fun z => absurd z.2 (Int32.not_le.mpr c_19)⟩
    · skip
      refine lv_iconst (v := 1) hx hb dX3_cookiesGivenLately_22 (by decide) ?_
      refine lv_goto (tgt := 27) hx hb dX3_cookiesGivenLately_23 (by decide) ?_
      refine ck_zq hx hb hr hlocks (by first | exact Or.inl rfl | exact Or.inr rfl) dX3_cookiesGivenLately_27 ?_
      exact Or.inl ⟨rfl, Int32.not_le.mp c_4, Int32.not_lt.mp c_19⟩
set_option maxRecDepth 20000 in
theorem k_X3_cookieOf_c158 : (.constantLong RX3 158 (-4294967296) : Cond) ∈ wsX3_cookieOf := by decide +kernel
set_option maxRecDepth 20000 in
theorem k_X3_cookieOf_f10 : (.fieldLink RX3 10 "CookieListener" "sip" "LCookieListener$SipHash;" : Cond) ∈ wsX3_cookieOf := by decide +kernel
set_option maxRecDepth 20000 in
theorem k_X3_cookieOf_in3 : ∀ w ∈ u_ws RX3 TX3 11, w ∈ wsX3_cookieOf := by decide +kernel
set_option maxRecDepth 20000 in
theorem k_X3_cookieOf_c160 : (.constant RX3 160 (16777215) : Cond) ∈ wsX3_cookieOf := by decide +kernel
set_option maxHeartbeats 4000000 in
set_option maxRecDepth 100000 in
theorem c_X3_cookieOf (l : Launch) (dC : Nat → ClassId) (dI : Nat → Nat → Nat) (cI cJ cZ : ClassId) (lo sz : Nat) (o sp h cn : Nat) (zs rq ti ct gv bh bc un : Int32) (k l0 v0 v1 v2 v3 : Int64) (x : Int64) (num kd sl : Int32) : Met l yX3_cookieOf wsX3_cookieOf ({ frames := 4, cells := 0, slots := 0, locals := 90 } : Room) (va_Pc [.ref o, .long x, .int num, .int kd, .int sl] (ck_P (dC, dI) [(cI, .int), (cJ, .long), (cZ, .boolean)] lo sz [(o, .inr (3, [.ref sp, .ref h, .ref cn, .int zs, .int rq, .int ti, .int ct, .int gv, .int bh, .int bc, .int un])), (sp, .inr (2, [.long k, .long l0, .long v0, .long v1, .long v2, .long v3]))])) (va_Qi (fun (r : Int32) (u : Int64 × Int64 × Int64 × Int64) => r = ck_ckk k l0 x num kd sl) (fun u => ck_B (dC, dI) vwCl (va_A [(o, .inr (3, [.ref sp, .ref h, .ref cn, .int zs, .int rq, .int ti, .int ct, .int gv, .int bh, .int bc, .int un])), (sp, .inr (2, [.long k, .long l0, .long v0, .long v1, .long v2, .long v3]))] sz) ((fun u : Int64 × Int64 × Int64 × Int64 => ([(o, .inr (3, [.ref sp, .ref h, .ref cn, .int zs, .int rq, .int ti, .int ct, .int gv, .int bh, .int bc, .int un])), (sp, .inr (2, [.long k, .long l0, .long u.1, .long u.2.1, .long u.2.2.1, .long u.2.2.2]))] : va_W)) u)) (va_A [(o, .inr (3, [.ref sp, .ref h, .ref cn, .int zs, .int rq, .int ti, .int ct, .int gv, .int bh, .int bc, .int un])), (sp, .inr (2, [.long k, .long l0, .long v0, .long v1, .long v2, .long v3]))] sz)) 0 0 (va_A [(o, .inr (3, [.ref sp, .ref h, .ref cn, .int zs, .int rq, .int ti, .int ct, .int gv, .int bh, .int bc, .int un])), (sp, .inr (2, [.long k, .long l0, .long v0, .long v1, .long v2, .long v3]))] sz) := by
  refine Met.ofW (cc := cX3_cookieOf) (maxL := 11) (ret := (some .int)) (by decide) rfl ?_
  intro p e s m args below meth c s₁ B hml hv
  obtain ⟨rfl, hsz, hP, hK, hD0, hE⟩ := hv
  have hx := B.exec
  have hb := B.bytes
  have hr := B.returns
  have hts := atoms_spec (ws := wsX3_cookieOf) B.pre
  have hown : s.vm.findClass RX3 = some m.cls := findClass_of_methodNamed B.named
  have hlocks := B.notSynchronized
  subst hsz
  have hD := hD0.self (sz := s.heap.size)
  have hlo := ck_lo (sz := s.heap.size) hD0 hE.1
  generalize hAe : va_A [(o, .inr (3, [.ref sp, .ref h, .ref cn, .int zs, .int rq, .int ti, .int ct, .int gv, .int bh, .int bc, .int un])), (sp, .inr (2, [.long k, .long l0, .long v0, .long v1, .long v2, .long v3]))] s.heap.size = A at hD hlo ⊢
  have hA : ∀ q : Nat, s.heap.size ≤ q → A q := fun q h => by rw [← hAe]; exact Or.inr h
  have hG : ck_G (dC, dI) [(cI, .int), (cJ, .long), (cZ, .boolean)] lo A s := ⟨hK, hE, hA, hlo⟩
  have hS : va_S A s.heap s.heap [] := va_S.rf
  have hP : va_P (dC, dI) vwCl [(o, .inr (3, [.ref sp, .ref h, .ref cn, .int zs, .int rq, .int ti, .int ct, .int gv, .int bh, .int bc, .int un])), (sp, .inr (2, [.long k, .long l0, .long v0, .long v1, .long v2, .long v3]))] s.heap := hP
  have hl := lv_entry ([.ref o, .long x, .int num, .int kd, .int sl]) (n := 11) (Nat.le_of_ble_eq_true rfl)
  rw [lg_entry_eq]
  generalize (lg_sl ([.ref o, .long x, .int num, .int kd, .int sl]) ++ List.replicate (11 - (lg_sl ([.ref o, .long x, .int num, .int kd, .int sl])).length) Slot.unset).toArray = ls at hl ⊢
  have hl : lv_has ls 11 [(0, .ref o), (1, .long x), (3, .int num), (4, .int kd), (5, .int sl)] := hl
  refine lv_lload_n hx hb dX3_cookieOf_0 rfl (lv_at hl 1 rfl) ?_
  refine lv_ldc2 hx hb hown (hts _ k_X3_cookieOf_c158) dX3_cookieOf_1 ?_
  refine lv_land hx hb dX3_cookieOf_4 ?_
  refine lv_iload_n hx hb dX3_cookieOf_5 rfl (lv_at hl 2 rfl) ?_
  refine ck_rl (va_runS (As := [.int num]) (rest := [.long (x &&& (-4294967296))]) ⟨hx, hb, hml, hown, hts⟩ (c_X3_withoutSign l dC dI cI cJ cZ lo _ num) (va_cwS 1 hts gX3_cookieOf_X3_withoutSign rfl rfl rfl (by decide +kernel) ⟨(Nat.le_of_ble_eq_true rfl), (Nat.le_of_ble_eq_true rfl)⟩) ⟨ck_blind, (ck_pre hG hP hD hS [] rfl (by decide) _)⟩ rfl rfl hl.1 rfl (lv_room (Nat.le_of_ble_eq_true rfl)) dX3_cookieOf_6 ⟨(Nat.le_of_ble_eq_true rfl), (Nat.le_of_ble_eq_true rfl)⟩) (fun r_1 hw_1 => ?_)
  have hw_1 : r_1 = ck_wos num := hw_1
  subst hw_1
  refine lv_lor hx hb dX3_cookieOf_9 ?_
  refine lv_topl (fun x_2 ex_2 => ?_)
  refine lv_lstore (lv' := [(6, .long x_2), (0, .ref o), (1, .long x), (3, .int num), (4, .int kd), (5, .int sl)]) hx hb dX3_cookieOf_10 hl (by decide) rfl (fun ls hl => ?_)
  refine lv_lload_n hx hb dX3_cookieOf_12 rfl (lv_at hl 2 rfl) ?_
  refine ck_ri (va_runS (As := [.long x]) (rest := []) ⟨hx, hb, hml, hown, hts⟩ (c_X3_portOf l dC dI cI cJ cZ lo _ x) (va_cwS 1 hts gX3_cookieOf_X3_portOf rfl rfl rfl (by decide +kernel) ⟨(Nat.le_of_ble_eq_true rfl), (Nat.le_of_ble_eq_true rfl)⟩) ⟨ck_blind, (ck_pre hG hP hD hS [] rfl (by decide) _)⟩ rfl rfl hl.1 rfl (lv_room (Nat.le_of_ble_eq_true rfl)) dX3_cookieOf_13 ⟨(Nat.le_of_ble_eq_true rfl), (Nat.le_of_ble_eq_true rfl)⟩) (fun r_3 hw_3 => ?_)
  have hw_3 : r_3 = ck_prt x := hw_3
  subst hw_3
  refine lv_i2l hx hb dX3_cookieOf_16 rfl ?_
  refine lv_iload hx hb dX3_cookieOf_17 (lv_at hl 4 rfl) ?_
  refine lv_i2l hx hb dX3_cookieOf_19 rfl ?_
  refine lv_bipush (v := 16) hx hb dX3_cookieOf_20 (by decide) ?_
  refine lv_lshl hx hb dX3_cookieOf_22 rfl ?_
  refine lv_ladd hx hb dX3_cookieOf_23 ?_
  refine lv_iload hx hb dX3_cookieOf_24 (lv_at hl 5 rfl) ?_
  refine lv_i2l hx hb dX3_cookieOf_26 rfl ?_
  refine lv_bipush (v := 20) hx hb dX3_cookieOf_27 (by decide) ?_
  refine lv_lshl hx hb dX3_cookieOf_29 rfl ?_
  refine lv_ladd hx hb dX3_cookieOf_30 ?_
  refine lv_topl (fun x_4 ex_4 => ?_)
  refine lv_lstore (lv' := [(8, .long x_4), (6, .long x_2), (0, .ref o), (1, .long x), (3, .int num), (4, .int kd), (5, .int sl)]) hx hb dX3_cookieOf_31 hl (by decide) rfl (fun ls hl => ?_)
  refine lv_aload_n hx hb dX3_cookieOf_33 rfl (lv_at hl 2 rfl) ?_
  refine va_get (D := (dC, dI)) (ci := 3) (v := .ref sp) (C := RX3) (T := TX3) (N := 11) hx hb hts (k_X3_cookieOf_in3) hown hK hP 0 rfl rfl 0 (by decide) (hts _ k_X3_cookieOf_f10) (fun _ h9 => h9) rfl dX3_cookieOf_34 ?_
  refine lv_lload hx hb dX3_cookieOf_37 (lv_at hl 1 rfl) ?_
  refine lv_lload hx hb dX3_cookieOf_39 (lv_at hl 0 rfl) ?_
  refine ck_cl (wr := [(o, .inr (3, [.ref sp, .ref h, .ref cn, .int zs, .int rq, .int ti, .int ct, .int gv, .int bh, .int bc, .int un]))]) (va_runV (As := [.long x_2, .long x_4]) (rest := []) ⟨hx, hb, hml, hown, hts⟩ (c_X2_digest l dC dI cI cJ cZ lo _ sp k l0 v0 v1 v2 v3 x_2 x_4) (cwV 2 hts gX3_cookieOf_X2_digest rfl rfl rfl (by decide +kernel) ⟨(Nat.le_of_ble_eq_true rfl), (Nat.le_of_ble_eq_true rfl)⟩) ⟨ck_blind, va_recv hK hP (ci := 2) (q0 := 1) rfl rfl, (ck_pre hG hP hD hS [1] rfl (by decide) _)⟩ rfl rfl hl.1 rfl (lv_room (Nat.le_of_ble_eq_true rfl)) dX3_cookieOf_41 ⟨(Nat.le_of_ble_eq_true rfl), (Nat.le_of_ble_eq_true rfl)⟩) hP hD hS hA [1] [0] rfl rfl (by decide) (by decide) (fun r_5 u H locs hw_5 hP hD hS => ?_)
  obtain ⟨u0_5, u1_5, u2_5, u3_5⟩ := u
  have hw_5 : r_5 = ck_sip k l0 x_2 x_4 := hw_5
  have hP : va_P (dC, dI) vwCl [(o, .inr (3, [.ref sp, .ref h, .ref cn, .int zs, .int rq, .int ti, .int ct, .int gv, .int bh, .int bc, .int un])), (sp, .inr (2, [.long k, .long l0, .long u0_5, .long u1_5, .long u2_5, .long u3_5]))] H := hP
  have hD : va_D A [(o, .inr (3, [.ref sp, .ref h, .ref cn, .int zs, .int rq, .int ti, .int ct, .int gv, .int bh, .int bc, .int un])), (sp, .inr (2, [.long k, .long l0, .long u0_5, .long u1_5, .long u2_5, .long u3_5]))] := hD
  refine lv_l2i hx hb dX3_cookieOf_44 rfl ?_
  refine lv_ldc hx hb hown (hts _ k_X3_cookieOf_c160) dX3_cookieOf_45 ?_
  refine lv_iand hx hb dX3_cookieOf_47 ?_
  refine lv_topi (fun x_6 ex_6 => ?_)
  refine lv_istore (lv' := [(10, .int x_6), (8, .long x_4), (6, .long x_2), (0, .ref o), (1, .long x), (3, .int num), (4, .int kd), (5, .int sl)]) hx hb dX3_cookieOf_48 hl (by decide) rfl (fun ls hl => ?_)
  refine lv_iload hx hb dX3_cookieOf_50 (lv_at hl 7 rfl) ?_
  refine lv_bipush (v := 31) hx hb dX3_cookieOf_52 (by decide) ?_
  refine lv_iand hx hb dX3_cookieOf_54 ?_
  refine lv_bipush (v := 27) hx hb dX3_cookieOf_55 (by decide) ?_
  refine lv_ishl hx hb dX3_cookieOf_57 ?_
  refine lv_iload hx hb dX3_cookieOf_58 (lv_at hl 6 rfl) ?_
  refine lv_bipush (v := 24) hx hb dX3_cookieOf_60 (by decide) ?_
  refine lv_ishl hx hb dX3_cookieOf_62 ?_
  refine lv_ior hx hb dX3_cookieOf_63 ?_
  refine lv_iload hx hb dX3_cookieOf_64 (lv_at hl 0 rfl) ?_
  refine lv_ior hx hb dX3_cookieOf_66 ?_
  refine ck_ir hx hb hr hlocks (Nat.le_of_ble_eq_true rfl) (Nat.le_of_ble_eq_true rfl) dX3_cookieOf_67 (u0_5, u1_5, u2_5, u3_5) hP hD hS ?_
  subst_vars
  rfl
set_option maxHeartbeats 4000000 in
set_option maxRecDepth 100000 in
theorem c_X3_isLate (l : Launch) (dC : Nat → ClassId) (dI : Nat → Nat → Nat) (cI cJ cZ : ClassId) (lo sz : Nat) (o sp h cn : Nat) (zs rq ti ct gv bh bc un : Int32) (k l0 v0 v1 v2 v3 : Int64) (x : Int64) (num kd ca : Int32) : Met l yX3_isCookieOfLateSlot wsX3_isCookieOfLateSlot ({ frames := 5, cells := 0, slots := 0, locals := 120 } : Room) (va_Pc [.ref o, .int ca, .long x, .int num, .int kd] (ck_P (dC, dI) [(cI, .int), (cJ, .long), (cZ, .boolean)] lo sz [(o, .inr (3, [.ref sp, .ref h, .ref cn, .int zs, .int rq, .int ti, .int ct, .int gv, .int bh, .int bc, .int un])), (sp, .inr (2, [.long k, .long l0, .long v0, .long v1, .long v2, .long v3]))])) (va_Qi (fun (r : Int32) (u : Int64 × Int64 × Int64 × Int64) => (r = 1 ∧ ck_late k l0 x num kd ti ca) ∨ (r = 0 ∧ ¬ ck_late k l0 x num kd ti ca)) (fun u => ck_B (dC, dI) vwCl (va_A [(o, .inr (3, [.ref sp, .ref h, .ref cn, .int zs, .int rq, .int ti, .int ct, .int gv, .int bh, .int bc, .int un])), (sp, .inr (2, [.long k, .long l0, .long v0, .long v1, .long v2, .long v3]))] sz) ((fun u : Int64 × Int64 × Int64 × Int64 => ([(o, .inr (3, [.ref sp, .ref h, .ref cn, .int zs, .int rq, .int ti, .int ct, .int gv, .int bh, .int bc, .int un])), (sp, .inr (2, [.long k, .long l0, .long u.1, .long u.2.1, .long u.2.2.1, .long u.2.2.2]))] : va_W)) u)) (va_A [(o, .inr (3, [.ref sp, .ref h, .ref cn, .int zs, .int rq, .int ti, .int ct, .int gv, .int bh, .int bc, .int un])), (sp, .inr (2, [.long k, .long l0, .long v0, .long v1, .long v2, .long v3]))] sz)) 0 0 (va_A [(o, .inr (3, [.ref sp, .ref h, .ref cn, .int zs, .int rq, .int ti, .int ct, .int gv, .int bh, .int bc, .int un])), (sp, .inr (2, [.long k, .long l0, .long v0, .long v1, .long v2, .long v3]))] sz) := by
  refine Met.ofW (cc := cX3_isCookieOfLateSlot) (maxL := 7) (ret := (some .boolean)) (by decide) rfl ?_
  intro p e s m args below meth c s₁ B hml hv
  obtain ⟨rfl, hsz, hP, hK, hD0, hE⟩ := hv
  have hx := B.exec
  have hb := B.bytes
  have hr := B.returns
  have hts := atoms_spec (ws := wsX3_isCookieOfLateSlot) B.pre
  have hown : s.vm.findClass RX3 = some m.cls := findClass_of_methodNamed B.named
  have hlocks := B.notSynchronized
  subst hsz
  have hD := hD0.self (sz := s.heap.size)
  have hlo := ck_lo (sz := s.heap.size) hD0 hE.1
  generalize hAe : va_A [(o, .inr (3, [.ref sp, .ref h, .ref cn, .int zs, .int rq, .int ti, .int ct, .int gv, .int bh, .int bc, .int un])), (sp, .inr (2, [.long k, .long l0, .long v0, .long v1, .long v2, .long v3]))] s.heap.size = A at hD hlo ⊢
  have hA : ∀ q : Nat, s.heap.size ≤ q → A q := fun q h => by rw [← hAe]; exact Or.inr h
  have hG : ck_G (dC, dI) [(cI, .int), (cJ, .long), (cZ, .boolean)] lo A s := ⟨hK, hE, hA, hlo⟩
  have hS : va_S A s.heap s.heap [] := va_S.rf
  have hP : va_P (dC, dI) vwCl [(o, .inr (3, [.ref sp, .ref h, .ref cn, .int zs, .int rq, .int ti, .int ct, .int gv, .int bh, .int bc, .int un])), (sp, .inr (2, [.long k, .long l0, .long v0, .long v1, .long v2, .long v3]))] s.heap := hP
  have hl := lv_entry ([.ref o, .int ca, .long x, .int num, .int kd]) (n := 7) (Nat.le_of_ble_eq_true rfl)
  rw [lg_entry_eq]
  generalize (lg_sl ([.ref o, .int ca, .long x, .int num, .int kd]) ++ List.replicate (7 - (lg_sl ([.ref o, .int ca, .long x, .int num, .int kd])).length) Slot.unset).toArray = ls at hl ⊢
  have hl : lv_has ls 7 [(0, .ref o), (1, .int ca), (2, .long x), (4, .int num), (5, .int kd)] := hl
  refine lv_aload_n hx hb dX3_isCookieOfLateSlot_0 rfl (lv_at hl 0 rfl) ?_
  refine ck_ri (va_runV (As := []) (rest := []) ⟨hx, hb, hml, hown, hts⟩ (c_X3_slotNow l dC dI cI cJ cZ lo _ o sp h cn zs rq ti ct gv bh bc un) (cwV 0 hts gX3_isCookieOfLateSlot_X3_slotNow rfl rfl rfl (by decide +kernel) ⟨(Nat.le_of_ble_eq_true rfl), (Nat.le_of_ble_eq_true rfl)⟩) ⟨ck_blind, va_recv hK hP (ci := 3) (q0 := 0) rfl rfl, (ck_pre hG hP hD hS [0] rfl (by decide) _)⟩ rfl rfl hl.1 rfl (lv_room (Nat.le_of_ble_eq_true rfl)) dX3_isCookieOfLateSlot_1 ⟨(Nat.le_of_ble_eq_true rfl), (Nat.le_of_ble_eq_true rfl)⟩) (fun r_1 hw_1 => ?_)
  have hw_1 : r_1 = ti / 64 := hw_1
  subst hw_1
  refine lv_istore (lv' := [(6, .int (ti / 64)), (0, .ref o), (1, .int ca), (2, .long x), (4, .int num), (5, .int kd)]) hx hb dX3_isCookieOfLateSlot_4 hl (by decide) rfl (fun ls hl => ?_)
  refine lv_iload_n hx hb dX3_isCookieOfLateSlot_6 rfl (lv_at hl 2 rfl) ?_
  refine lv_aload_n hx hb dX3_isCookieOfLateSlot_7 rfl (lv_at hl 1 rfl) ?_
  refine lv_lload_n hx hb dX3_isCookieOfLateSlot_8 rfl (lv_at hl 3 rfl) ?_
  refine lv_iload hx hb dX3_isCookieOfLateSlot_9 (lv_at hl 4 rfl) ?_
  refine lv_iload hx hb dX3_isCookieOfLateSlot_11 (lv_at hl 5 rfl) ?_
  refine lv_iload hx hb dX3_isCookieOfLateSlot_13 (lv_at hl 0 rfl) ?_
  refine ck_ci (wr := []) (va_runV (As := [.long x, .int num, .int kd, .int (ti / 64)]) (rest := [.int ca]) ⟨hx, hb, hml, hown, hts⟩ (c_X3_cookieOf l dC dI cI cJ cZ lo _ o sp h cn zs rq ti ct gv bh bc un k l0 v0 v1 v2 v3 x num kd (ti / 64)) (cwV 4 hts gX3_isCookieOfLateSlot_X3_cookieOf rfl rfl rfl (by decide +kernel) ⟨(Nat.le_of_ble_eq_true rfl), (Nat.le_of_ble_eq_true rfl)⟩) ⟨ck_blind, va_recv hK hP (ci := 3) (q0 := 0) rfl rfl, (ck_pre hG hP hD hS [0, 1] rfl (by decide) _)⟩ rfl rfl hl.1 rfl (lv_room (Nat.le_of_ble_eq_true rfl)) dX3_isCookieOfLateSlot_15 ⟨(Nat.le_of_ble_eq_true rfl), (Nat.le_of_ble_eq_true rfl)⟩) hP hD hS hA [0, 1] [] rfl rfl (by decide) (by decide) (fun r_2 u H locs hw_2 hP hD hS => ?_)
  obtain ⟨u0_2, u1_2, u2_2, u3_2⟩ := u
  have hw_2 : r_2 = ck_ckk k l0 x num kd (ti / 64) := hw_2
  have hP : va_P (dC, dI) vwCl [(o, .inr (3, [.ref sp, .ref h, .ref cn, .int zs, .int rq, .int ti, .int ct, .int gv, .int bh, .int bc, .int un])), (sp, .inr (2, [.long k, .long l0, .long u0_2, .long u1_2, .long u2_2, .long u3_2]))] H := hP
  have hD : va_D A [(o, .inr (3, [.ref sp, .ref h, .ref cn, .int zs, .int rq, .int ti, .int ct, .int gv, .int bh, .int bc, .int un])), (sp, .inr (2, [.long k, .long l0, .long u0_2, .long u1_2, .long u2_2, .long u3_2]))] := hD
  subst hw_2
  refine lv_icmp_ne (tgt := 23) hx hb dX3_isCookieOfLateSlot_18 (by decide) (fun c_18 => ?_) (fun c_18 => ?_)
  · skip
    refine lv_iload hx hb dX3_isCookieOfLateSlot_23 (lv_at hl 0 rfl) ?_
    refine lv_if_le (tgt := 49) hx hb dX3_isCookieOfLateSlot_25 (by decide) (fun c_25 => ?_) (fun c_25 => ?_)
    · skip
      refine lv_iconst (v := 0) hx hb dX3_isCookieOfLateSlot_49 (by decide) ?_
      refine ck_zr hx hb hr hlocks (by first | exact Or.inl rfl | exact Or.inr rfl) (Nat.le_of_ble_eq_true rfl) (Nat.le_of_ble_eq_true rfl) dX3_isCookieOfLateSlot_50 (u0_2, u1_2, u2_2, u3_2) hP hD hS ?_
      exact Or.inr ⟨rfl, fun z => z.elim c_18 (fun z => absurd z.1 (Int32.not_lt.mpr c_25))⟩
    · skip
      refine lv_iload_n hx hb dX3_isCookieOfLateSlot_28 rfl (lv_at hl 2 rfl) ?_
      refine lv_aload_n hx hb dX3_isCookieOfLateSlot_29 rfl (lv_at hl 1 rfl) ?_
      refine lv_lload_n hx hb dX3_isCookieOfLateSlot_30 rfl (lv_at hl 3 rfl) ?_
      refine lv_iload hx hb dX3_isCookieOfLateSlot_31 (lv_at hl 4 rfl) ?_
      refine lv_iload hx hb dX3_isCookieOfLateSlot_33 (lv_at hl 5 rfl) ?_
      refine lv_iload hx hb dX3_isCookieOfLateSlot_35 (lv_at hl 0 rfl) ?_
      refine lv_iconst (v := 1) hx hb dX3_isCookieOfLateSlot_37 (by decide) ?_
      refine lv_isub hx hb dX3_isCookieOfLateSlot_38 ?_
      refine ck_ci (wr := []) (va_runV (As := [.long x, .int num, .int kd, .int ((ti / 64) - 1)]) (rest := [.int ca]) ⟨hx, hb, hml, hown, hts⟩ (c_X3_cookieOf l dC dI cI cJ cZ lo _ o sp h cn zs rq ti ct gv bh bc un k l0 u0_2 u1_2 u2_2 u3_2 x num kd ((ti / 64) - 1)) (cwV 4 hts gX3_isCookieOfLateSlot_X3_cookieOf rfl rfl rfl (by decide +kernel) ⟨(Nat.le_of_ble_eq_true rfl), (Nat.le_of_ble_eq_true rfl)⟩) ⟨ck_blind, va_recv hK hP (ci := 3) (q0 := 0) rfl rfl, (ck_pre hG hP hD hS [0, 1] rfl (by decide) _)⟩ rfl rfl hl.1 rfl (lv_room (Nat.le_of_ble_eq_true rfl)) dX3_isCookieOfLateSlot_39 ⟨(Nat.le_of_ble_eq_true rfl), (Nat.le_of_ble_eq_true rfl)⟩) hP hD hS hA [0, 1] [] rfl rfl (by decide) (by decide) (fun r_3 u H locs hw_3 hP hD hS => ?_)
      obtain ⟨u0_3, u1_3, u2_3, u3_3⟩ := u
      have hw_3 : r_3 = ck_ckk k l0 x num kd ((ti / 64) - 1) := hw_3
      have hP : va_P (dC, dI) vwCl [(o, .inr (3, [.ref sp, .ref h, .ref cn, .int zs, .int rq, .int ti, .int ct, .int gv, .int bh, .int bc, .int un])), (sp, .inr (2, [.long k, .long l0, .long u0_3, .long u1_3, .long u2_3, .long u3_3]))] H := hP
      have hD : va_D A [(o, .inr (3, [.ref sp, .ref h, .ref cn, .int zs, .int rq, .int ti, .int ct, .int gv, .int bh, .int bc, .int un])), (sp, .inr (2, [.long k, .long l0, .long u0_3, .long u1_3, .long u2_3, .long u3_3]))] := hD
      subst hw_3
      refine lv_icmp_ne (tgt := 49) hx hb dX3_isCookieOfLateSlot_42 (by decide) (fun c_42 => ?_) (fun c_42 => ?_)
      · skip
        refine lv_iconst (v := 0) hx hb dX3_isCookieOfLateSlot_49 (by decide) ?_
        refine ck_zr hx hb hr hlocks (by first | exact Or.inl rfl | exact Or.inr rfl) (Nat.le_of_ble_eq_true rfl) (Nat.le_of_ble_eq_true rfl) dX3_isCookieOfLateSlot_50 (u0_3, u1_3, u2_3, u3_3) hP hD hS ?_
        exact Or.inr ⟨rfl, fun z => z.elim c_18 (fun z => c_42 z.2)⟩
      · skip
        refine lv_iconst (v := 1) hx hb dX3_isCookieOfLateSlot_45 (by decide) ?_
        refine lv_goto (tgt := 50) hx hb dX3_isCookieOfLateSlot_46 (by decide) ?_
        refine ck_zr hx hb hr hlocks (by first | exact Or.inl rfl | exact Or.inr rfl) (Nat.le_of_ble_eq_true rfl) (Nat.le_of_ble_eq_true rfl) dX3_isCookieOfLateSlot_50 (u0_3, u1_3, u2_3, u3_3) hP hD hS ?_
        exact Or.inl ⟨rfl, Or.inr ⟨Int32.not_le.mp c_25, c_42⟩⟩
  · skip
    refine lv_iconst (v := 1) hx hb dX3_isCookieOfLateSlot_21 (by decide) ?_
    refine ck_zr hx hb hr hlocks (by first | exact Or.inl rfl | exact Or.inr rfl) (Nat.le_of_ble_eq_true rfl) (Nat.le_of_ble_eq_true rfl) dX3_isCookieOfLateSlot_22 (u0_2, u1_2, u2_2, u3_2) hP hD hS ?_
    exact Or.inl ⟨rfl, Or.inl c_18⟩
