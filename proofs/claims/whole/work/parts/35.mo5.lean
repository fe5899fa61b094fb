set_option maxRecDepth 20000 in
theorem k_X4_take__f54 : (.fieldLink RX4 54 "CookieListenerModel" "thrown" "I" : Cond) ∈ wsX4_take_ := by decide +kernel
set_option maxRecDepth 20000 in
theorem k_X4_take__in4 : ∀ w ∈ u_ws RX4 TX4 24, w ∈ wsX4_take_ := by decide +kernel
set_option maxRecDepth 20000 in
theorem k_X4_take__f123 : (.fieldLink RX4 123 "CookieListenerModel" "open" "I" : Cond) ∈ wsX4_take_ := by decide +kernel
set_option maxRecDepth 20000 in
theorem k_X4_take__f47 : (.fieldLink RX4 47 "CookieListenerModel" "taken" "[Z" : Cond) ∈ wsX4_take_ := by decide +kernel
set_option maxRecDepth 20000 in
theorem k_X4_take__f41 : (.fieldLink RX4 41 "CookieListenerModel" "openPort" "[I" : Cond) ∈ wsX4_take_ := by decide +kernel
set_option maxRecDepth 20000 in
theorem k_X4_take__c159 : (.constant RX4 159 (65536) : Cond) ∈ wsX4_take_ := by decide +kernel
set_option maxRecDepth 20000 in
theorem k_X4_take__f44 : (.fieldLink RX4 44 "CookieListenerModel" "openKind" "[I" : Cond) ∈ wsX4_take_ := by decide +kernel
set_option maxHeartbeats 4000000 in
set_option maxRecDepth 100000 in
theorem c_X4_take_ (l : Launch) (dC : Nat → ClassId) (dI : Nat → Nat → Nat) (cI cJ cZ : ClassId) (lo sz : Nat) (mo : Nat) (th zs rq : Int32) (k l0 : Int64) (ti ct : Int32) (n : Nat) (d1 d2 d3 d4 d5 d6 : Nat) (kc : Nat) (e1 e2 e3 e4 e5 : Nat) (v0 v1 v2 v3 : Int64) (t2 t3 t4 : Nat → Int32) (hk : kc ≤ 64) : Met l yX4_take_ wsX4_take_ ({ frames := 0, cells := 0, slots := 0, locals := 0 } : Room) (va_Pc [.ref mo] (ck_P (dC, dI) [(cI, .int), (cJ, .long), (cZ, .boolean)] lo sz [(mo, .inr (4, [.int th, .int zs, .int rq, .long k, .long l0, .int ti, .int ct, .int (nI n), .ref d1, .ref d2, .ref d3, .ref d4, .ref d5, .ref d6, .int (nI kc), .ref e1, .ref e2, .ref e3, .ref e4, .ref e5, .long v0, .long v1, .long v2, .long v3])), (e2, .inl (cI, 64, .inl t2)), (e3, .inl (cI, 64, .inl t3)), (e4, .inl (cZ, 64, .inl t4))])) (va_Qi (fun (r : Int32) (u : (Nat → Int32)) => (∃ j, j < kc ∧ (∀ i, i < j → ¬ t4 i = 0) ∧ t4 j = 0 ∧ u = upd t4 j 1 ∧ r = t2 j + 65536 * t3 j) ∨ ((∀ i, i < kc → ¬ t4 i = 0) ∧ u = t4 ∧ r = -1)) (fun u => ck_B (dC, dI) vwCl (va_A [(mo, .inr (4, [.int th, .int zs, .int rq, .long k, .long l0, .int ti, .int ct, .int (nI n), .ref d1, .ref d2, .ref d3, .ref d4, .ref d5, .ref d6, .int (nI kc), .ref e1, .ref e2, .ref e3, .ref e4, .ref e5, .long v0, .long v1, .long v2, .long v3])), (e2, .inl (cI, 64, .inl t2)), (e3, .inl (cI, 64, .inl t3)), (e4, .inl (cZ, 64, .inl t4))] sz) ((fun u : (Nat → Int32) => ([(mo, .inr (4, [.int 0, .int zs, .int rq, .long k, .long l0, .int ti, .int ct, .int (nI n), .ref d1, .ref d2, .ref d3, .ref d4, .ref d5, .ref d6, .int (nI kc), .ref e1, .ref e2, .ref e3, .ref e4, .ref e5, .long v0, .long v1, .long v2, .long v3])), (e2, .inl (cI, 64, .inl t2)), (e3, .inl (cI, 64, .inl t3)), (e4, .inl (cZ, 64, .inl u))] : va_W)) u)) (va_A [(mo, .inr (4, [.int th, .int zs, .int rq, .long k, .long l0, .int ti, .int ct, .int (nI n), .ref d1, .ref d2, .ref d3, .ref d4, .ref d5, .ref d6, .int (nI kc), .ref e1, .ref e2, .ref e3, .ref e4, .ref e5, .long v0, .long v1, .long v2, .long v3])), (e2, .inl (cI, 64, .inl t2)), (e3, .inl (cI, 64, .inl t3)), (e4, .inl (cZ, 64, .inl t4))] sz)) 0 0 (va_A [(mo, .inr (4, [.int th, .int zs, .int rq, .long k, .long l0, .int ti, .int ct, .int (nI n), .ref d1, .ref d2, .ref d3, .ref d4, .ref d5, .ref d6, .int (nI kc), .ref e1, .ref e2, .ref e3, .ref e4, .ref e5, .long v0, .long v1, .long v2, .long v3])), (e2, .inl (cI, 64, .inl t2)), (e3, .inl (cI, 64, .inl t3)), (e4, .inl (cZ, 64, .inl t4))] sz) := by
  refine Met.ofW (cc := cX4_take_) (maxL := 2) (ret := (some .int)) (by decide) rfl ?_
  intro p e s m args below meth c s₁ B hml hv
  obtain ⟨rfl, hsz, hP, hK, hD0, hE⟩ := hv
  have hx := B.exec
  have hb := B.bytes
  have hr := B.returns
  have hts := atoms_spec (ws := wsX4_take_) B.pre
  have hown : s.vm.findClass RX4 = some m.cls := findClass_of_methodNamed B.named
  have hlocks := B.notSynchronized
  subst hsz
  have hD := hD0.self (sz := s.heap.size)
  have hlo := ck_lo (sz := s.heap.size) hD0 hE.1
  generalize hAe : va_A [(mo, .inr (4, [.int th, .int zs, .int rq, .long k, .long l0, .int ti, .int ct, .int (nI n), .ref d1, .ref d2, .ref d3, .ref d4, .ref d5, .ref d6, .int (nI kc), .ref e1, .ref e2, .ref e3, .ref e4, .ref e5, .long v0, .long v1, .long v2, .long v3])), (e2, .inl (cI, 64, .inl t2)), (e3, .inl (cI, 64, .inl t3)), (e4, .inl (cZ, 64, .inl t4))] s.heap.size = A at hD hlo ⊢
  have hA : ∀ q : Nat, s.heap.size ≤ q → A q := fun q h => by rw [← hAe]; exact Or.inr h
  have hG : ck_G (dC, dI) [(cI, .int), (cJ, .long), (cZ, .boolean)] lo A s := ⟨hK, hE, hA, hlo⟩
  have hS : va_S A s.heap s.heap [] := va_S.rf
  have hP : va_P (dC, dI) vwCl [(mo, .inr (4, [.int th, .int zs, .int rq, .long k, .long l0, .int ti, .int ct, .int (nI n), .ref d1, .ref d2, .ref d3, .ref d4, .ref d5, .ref d6, .int (nI kc), .ref e1, .ref e2, .ref e3, .ref e4, .ref e5, .long v0, .long v1, .long v2, .long v3])), (e2, .inl (cI, 64, .inl t2)), (e3, .inl (cI, 64, .inl t3)), (e4, .inl (cZ, 64, .inl t4))] s.heap := hP
  have hl := lv_entry ([.ref mo]) (n := 2) (Nat.le_of_ble_eq_true rfl)
  rw [lg_entry_eq]
  generalize (lg_sl ([.ref mo]) ++ List.replicate (2 - (lg_sl ([.ref mo])).length) Slot.unset).toArray = ls at hl ⊢
  have hl : lv_has ls 2 [(0, .ref mo)] := hl
  refine lv_aload_n hx hb dX4_take__0 rfl (lv_at hl 0 rfl) ?_
  refine lv_iconst (v := 0) hx hb dX4_take__1 (by decide) ?_
  refine va_put (D := (dC, dI)) (ci := 4) (v := .int 0) (ty := .int) (C := RX4) (T := TX4) (N := 24) hx hb hts (k_X4_take__in4) tyX4 tyX4_ok nmX4 hown hK hP hD hS 0 rfl rfl 0 (by decide) (hts _ k_X4_take__f54) (fun _ h9 => h9) rfl (by decide +kernel) rfl rfl (Nat.le_of_ble_eq_true rfl) dX4_take__2 (fun H locs hP hD hS => ?_)
  have hP : va_P (dC, dI) vwCl [(mo, .inr (4, [.int 0, .int zs, .int rq, .long k, .long l0, .int ti, .int ct, .int (nI n), .ref d1, .ref d2, .ref d3, .ref d4, .ref d5, .ref d6, .int (nI kc), .ref e1, .ref e2, .ref e3, .ref e4, .ref e5, .long v0, .long v1, .long v2, .long v3])), (e2, .inl (cI, 64, .inl t2)), (e3, .inl (cI, 64, .inl t3)), (e4, .inl (cZ, 64, .inl t4))] H := hP
  have hD : va_D A [(mo, .inr (4, [.int 0, .int zs, .int rq, .long k, .long l0, .int ti, .int ct, .int (nI n), .ref d1, .ref d2, .ref d3, .ref d4, .ref d5, .ref d6, .int (nI kc), .ref e1, .ref e2, .ref e3, .ref e4, .ref e5, .long v0, .long v1, .long v2, .long v3])), (e2, .inl (cI, 64, .inl t2)), (e3, .inl (cI, 64, .inl t3)), (e4, .inl (cZ, 64, .inl t4))] := hD
  refine lv_iconst (v := nI 0) hx hb dX4_take__5 (by decide) ?_
  refine lv_istore_n (lv' := [(1, .int (nI 0)), (0, .ref mo)]) hx hb dX4_take__6 rfl hl (by decide) rfl (fun ls hl => ?_)
  have hloop : ∀ (fu : Nat) (i : Nat), (i ≤ kc) → (kc + 1 ≤ i + fu) → (∀ q, q < i → ¬ t4 q = 0) → ∀ (H : Heap) (locs : List Loc) (ls : Array Slot), va_P (dC, dI) vwCl [(mo, .inr (4, [.int 0, .int zs, .int rq, .long k, .long l0, .int ti, .int ct, .int (nI n), .ref d1, .ref d2, .ref d3, .ref d4, .ref d5, .ref d6, .int (nI kc), .ref e1, .ref e2, .ref e3, .ref e4, .ref e5, .long v0, .long v1, .long v2, .long v3])), (e2, .inl (cI, 64, .inl t2)), (e3, .inl (cI, 64, .inl t3)), (e4, .inl (cZ, 64, .inl t4))] H → va_D A [(mo, .inr (4, [.int 0, .int zs, .int rq, .long k, .long l0, .int ti, .int ct, .int (nI n), .ref d1, .ref d2, .ref d3, .ref d4, .ref d5, .ref d6, .int (nI kc), .ref e1, .ref e2, .ref e3, .ref e4, .ref e5, .long v0, .long v1, .long v2, .long v3])), (e2, .inl (cI, 64, .inl t2)), (e3, .inl (cI, 64, .inl t3)), (e4, .inl (cZ, 64, .inl t4))] → va_S A s.heap H locs → lv_has ls 2 [(0, .ref mo), (1, .int (nI i))] → W p l e (headSpec wsX4_take_ ({ frames := 0, cells := 0, slots := 0, locals := 0 } : Room)).room s m (([.ref mo] : List Value).toArray) below meth c H locs 0 0 (MQ below (va_Qi (fun (r : Int32) (u : (Nat → Int32)) => (∃ j, j < kc ∧ (∀ i, i < j → ¬ t4 i = 0) ∧ t4 j = 0 ∧ u = upd t4 j 1 ∧ r = t2 j + 65536 * t3 j) ∨ ((∀ i, i < kc → ¬ t4 i = 0) ∧ u = t4 ∧ r = -1)) (fun u => ck_B (dC, dI) vwCl A ((fun u : (Nat → Int32) => ([(mo, .inr (4, [.int 0, .int zs, .int rq, .long k, .long l0, .int ti, .int ct, .int (nI n), .ref d1, .ref d2, .ref d3, .ref d4, .ref d5, .ref d6, .int (nI kc), .ref e1, .ref e2, .ref e3, .ref e4, .ref e5, .long v0, .long v1, .long v2, .long v3])), (e2, .inl (cI, 64, .inl t2)), (e3, .inl (cI, 64, .inl t3)), (e4, .inl (cZ, 64, .inl u))] : va_W)) u)) A) (([.ref mo] : List Value).toArray) s 0 0 A) (F0 m 7 ls []) := by
    intro fu
    induction fu with
    | zero =>
      intro i hi hf hv
      exfalso
      omega
    | succ fu ih =>
      intro i hi hf hv H locs ls hP hD hS hl
      refine lv_iload_n hx hb dX4_take__7 rfl (lv_at hl 1 rfl) ?_
      refine lv_aload_n hx hb dX4_take__8 rfl (lv_at hl 0 rfl) ?_
      refine va_get (D := (dC, dI)) (ci := 4) (v := .int (nI kc)) (C := RX4) (T := TX4) (N := 24) hx hb hts (k_X4_take__in4) hown hK hP 0 rfl rfl 14 (by decide) (hts _ k_X4_take__f123) (fun _ h9 => h9) rfl dX4_take__9 ?_
      refine lv_icmp_ge (tgt := 54) hx hb dX4_take__12 (by decide) (fun c_12 => ?_) (fun c_12 => ?_)
      · skip
        have c_12 : kc ≤ i := (nI_leI (by omega) (by omega)).mp c_12
        refine lv_iconst (v := (-1)) hx hb dX4_take__54 (by decide) ?_
        refine ck_ir hx hb hr hlocks (Nat.le_of_ble_eq_true rfl) (Nat.le_of_ble_eq_true rfl) dX4_take__55 (t4) hP hD hS ?_
        exact Or.inr ⟨fun q hq => hv q (by omega), rfl, rfl⟩
      · skip
        have c_12 : ¬ (kc ≤ i) := fun z => c_12 ((nI_leI (by omega) (by omega)).mpr z)
        refine lv_aload_n hx hb dX4_take__15 rfl (lv_at hl 0 rfl) ?_
        refine va_get (D := (dC, dI)) (ci := 4) (v := .ref e4) (C := RX4) (T := TX4) (N := 24) hx hb hts (k_X4_take__in4) hown hK hP 0 rfl rfl 18 (by decide) (hts _ k_X4_take__f47) (fun _ h9 => h9) rfl dX4_take__16 ?_
        refine lv_iload_n hx hb dX4_take__19 rfl (lv_at hl 1 rfl) ?_
        refine ck_zald hx hb hK hP 3 2 rfl rfl (by omega) (by decide) dX4_take__20 ?_
        refine lv_if_ne (tgt := 48) hx hb dX4_take__21 (by decide) (fun c_21 => ?_) (fun c_21 => ?_)
        · skip
          refine lv_iinc (v := nI (i + 1)) (lv' := [(1, .int (nI (i + 1))), (0, .ref mo)]) hx hb dX4_take__48 hl (k := 1) rfl (nI_1 _) (by decide) rfl (fun ls hl => ?_)
          refine lv_goto (tgt := 7) hx hb dX4_take__51 (by decide) ?_
          exact ih (i + 1) (by omega) (by omega) (lt_s hv c_21) _ _ _ (hP.sub [0, 1, 2, 3] rfl) (hD.sub [0, 1, 2, 3] (by decide) rfl) hS (lv_sub hl [1, 0] rfl)
        · skip
          refine lv_aload_n hx hb dX4_take__24 rfl (lv_at hl 0 rfl) ?_
          refine va_get (D := (dC, dI)) (ci := 4) (v := .ref e4) (C := RX4) (T := TX4) (N := 24) hx hb hts (k_X4_take__in4) hown hK hP 0 rfl rfl 18 (by decide) (hts _ k_X4_take__f47) (fun _ h9 => h9) rfl dX4_take__25 ?_
          refine lv_iload_n hx hb dX4_take__28 rfl (lv_at hl 1 rfl) ?_
          refine lv_iconst (v := 1) hx hb dX4_take__29 (by decide) ?_
          refine ck_zast hx hb hK hP hD hS 3 2 rfl rfl (rfl) (by omega) (by decide) dX4_take__30 (fun H locs hP hD hS => ?_)
          have hP : va_P (dC, dI) vwCl [(mo, .inr (4, [.int 0, .int zs, .int rq, .long k, .long l0, .int ti, .int ct, .int (nI n), .ref d1, .ref d2, .ref d3, .ref d4, .ref d5, .ref d6, .int (nI kc), .ref e1, .ref e2, .ref e3, .ref e4, .ref e5, .long v0, .long v1, .long v2, .long v3])), (e2, .inl (cI, 64, .inl t2)), (e3, .inl (cI, 64, .inl t3)), (e4, .inl (cZ, 64, .inl (upd t4 i 1)))] H := hP
          have hD : va_D A [(mo, .inr (4, [.int 0, .int zs, .int rq, .long k, .long l0, .int ti, .int ct, .int (nI n), .ref d1, .ref d2, .ref d3, .ref d4, .ref d5, .ref d6, .int (nI kc), .ref e1, .ref e2, .ref e3, .ref e4, .ref e5, .long v0, .long v1, .long v2, .long v3])), (e2, .inl (cI, 64, .inl t2)), (e3, .inl (cI, 64, .inl t3)), (e4, .inl (cZ, 64, .inl (upd t4 i 1)))] := hD
          refine lv_aload_n hx hb dX4_take__31 rfl (lv_at hl 0 rfl) ?_
          refine va_get (D := (dC, dI)) (ci := 4) (v := .ref e2) (C := RX4) (T := TX4) (N := 24) hx hb hts (k_X4_take__in4) hown hK hP 0 rfl rfl 16 (by decide) (hts _ k_X4_take__f41) (fun _ h9 => h9) rfl dX4_take__32 ?_
          refine lv_iload_n hx hb dX4_take__35 rfl (lv_at hl 1 rfl) ?_
          refine ck_iald hx hb hK hP 1 0 rfl rfl (by omega) (by decide) dX4_take__36 ?_
          refine lv_ldc hx hb hown (hts _ k_X4_take__c159) dX4_take__37 ?_
          refine lv_aload_n hx hb dX4_take__39 rfl (lv_at hl 0 rfl) ?_
          refine va_get (D := (dC, dI)) (ci := 4) (v := .ref e3) (C := RX4) (T := TX4) (N := 24) hx hb hts (k_X4_take__in4) hown hK hP 0 rfl rfl 17 (by decide) (hts _ k_X4_take__f44) (fun _ h9 => h9) rfl dX4_take__40 ?_
          refine lv_iload_n hx hb dX4_take__43 rfl (lv_at hl 1 rfl) ?_
          refine ck_iald hx hb hK hP 2 0 rfl rfl (by omega) (by decide) dX4_take__44 ?_
          refine lv_imul hx hb dX4_take__45 ?_
          refine lv_iadd hx hb dX4_take__46 ?_
          refine ck_ir hx hb hr hlocks (Nat.le_of_ble_eq_true rfl) (Nat.le_of_ble_eq_true rfl) dX4_take__47 (upd t4 i 1) hP hD hS ?_
          exact Or.inl ⟨i, by omega, hv, c_21, rfl, rfl⟩
  exact hloop (kc + 1) 0 (by omega) (by omega) (fun q hq => absurd hq (Nat.not_lt_zero q)) _ _ _ (hP.sub [0, 1, 2, 3] rfl) (hD.sub [0, 1, 2, 3] (by decide) rfl) hS (lv_sub hl [1, 0] rfl)
set_option maxRecDepth 20000 in
theorem k_X4_stateOf_f47 : (.fieldLink RX4 47 "CookieListenerModel" "taken" "[Z" : Cond) ∈ wsX4_stateOf := by decide +kernel
set_option maxRecDepth 20000 in
theorem k_X4_stateOf_in4 : ∀ w ∈ u_ws RX4 TX4 24, w ∈ wsX4_stateOf := by decide +kernel
set_option maxHeartbeats 4000000 in
set_option maxRecDepth 100000 in
theorem c_X4_stateOf (l : Launch) (dC : Nat → ClassId) (dI : Nat → Nat → Nat) (cI cJ cZ : ClassId) (lo sz : Nat) (mo : Nat) (th zs rq : Int32) (k l0 : Int64) (ti ct : Int32) (n : Nat) (d1 d2 d3 d4 d5 d6 : Nat) (kc : Nat) (e1 e2 e3 e4 e5 : Nat) (v0 v1 v2 v3 : Int64) (p1 p2 t1 t2 t4 : Nat → Int32) (aa bb : Int32) (hn : n ≤ 32) (hk : kc ≤ 64) : Met l yX4_stateOf wsX4_stateOf ({ frames := 1, cells := 0, slots := 0, locals := 23 } : Room) (va_Pc [.ref mo, .int aa, .int bb] (ck_P (dC, dI) [(cI, .int), (cJ, .long), (cZ, .boolean)] lo sz [(mo, .inr (4, [.int th, .int zs, .int rq, .long k, .long l0, .int ti, .int ct, .int (nI n), .ref d1, .ref d2, .ref d3, .ref d4, .ref d5, .ref d6, .int (nI kc), .ref e1, .ref e2, .ref e3, .ref e4, .ref e5, .long v0, .long v1, .long v2, .long v3])), (d1, .inl (cI, 32, .inl p1)), (d2, .inl (cI, 32, .inl p2)), (e1, .inl (cI, 64, .inl t1)), (e2, .inl (cI, 64, .inl t2)), (e4, .inl (cZ, 64, .inl t4))])) (vp_Si (fun (r : Int32) => ck_mst n p1 p2 kc t1 t2 t4 aa bb r)) 0 0 (fun _ => False) := by
  refine Met.ofW (cc := cX4_stateOf) (maxL := 4) (ret := (some .int)) (by decide) rfl ?_
  intro p e s m args below meth c s₁ B hml hv
  obtain ⟨rfl, hsz, hP, hK, hD0, hE⟩ := hv
  have hx := B.exec
  have hb := B.bytes
  have hr := B.returns
  have hts := atoms_spec (ws := wsX4_stateOf) B.pre
  have hown : s.vm.findClass RX4 = some m.cls := findClass_of_methodNamed B.named
  have hlocks := B.notSynchronized
  subst hsz
  have hD := hD0.self (sz := s.heap.size)
  have hlo := ck_lo (sz := s.heap.size) hD0 hE.1
  generalize hAe : va_A [(mo, .inr (4, [.int th, .int zs, .int rq, .long k, .long l0, .int ti, .int ct, .int (nI n), .ref d1, .ref d2, .ref d3, .ref d4, .ref d5, .ref d6, .int (nI kc), .ref e1, .ref e2, .ref e3, .ref e4, .ref e5, .long v0, .long v1, .long v2, .long v3])), (d1, .inl (cI, 32, .inl p1)), (d2, .inl (cI, 32, .inl p2)), (e1, .inl (cI, 64, .inl t1)), (e2, .inl (cI, 64, .inl t2)), (e4, .inl (cZ, 64, .inl t4))] s.heap.size = A at hD hlo
  have hA : ∀ q : Nat, s.heap.size ≤ q → A q := fun q h => by rw [← hAe]; exact Or.inr h
  have hG : ck_G (dC, dI) [(cI, .int), (cJ, .long), (cZ, .boolean)] lo A s := ⟨hK, hE, hA, hlo⟩
  have hS : va_S A s.heap s.heap [] := va_S.rf
  have hP : va_P (dC, dI) vwCl [(mo, .inr (4, [.int th, .int zs, .int rq, .long k, .long l0, .int ti, .int ct, .int (nI n), .ref d1, .ref d2, .ref d3, .ref d4, .ref d5, .ref d6, .int (nI kc), .ref e1, .ref e2, .ref e3, .ref e4, .ref e5, .long v0, .long v1, .long v2, .long v3])), (d1, .inl (cI, 32, .inl p1)), (d2, .inl (cI, 32, .inl p2)), (e1, .inl (cI, 64, .inl t1)), (e2, .inl (cI, 64, .inl t2)), (e4, .inl (cZ, 64, .inl t4))] s.heap := hP
  have hl := lv_entry ([.ref mo, .int aa, .int bb]) (n := 4) (Nat.le_of_ble_eq_true rfl)
  rw [lg_entry_eq]
  generalize (lg_sl ([.ref mo, .int aa, .int bb]) ++ List.replicate (4 - (lg_sl ([.ref mo, .int aa, .int bb])).length) Slot.unset).toArray = ls at hl ⊢
  have hl : lv_has ls 4 [(0, .ref mo), (1, .int aa), (2, .int bb)] := hl
  refine lv_aload_n hx hb dX4_stateOf_0 rfl (lv_at hl 0 rfl) ?_
  refine lv_iload_n hx hb dX4_stateOf_1 rfl (lv_at hl 1 rfl) ?_
  refine lv_iload_n hx hb dX4_stateOf_2 rfl (lv_at hl 2 rfl) ?_
  refine ck_ri (va_runV (As := [.int aa, .int bb]) (rest := []) ⟨hx, hb, hml, hown, hts⟩ (c_X4_opened l dC dI cI cJ cZ lo _ mo th zs rq k l0 ti ct n d1 d2 d3 d4 d5 d6 kc e1 e2 e3 e4 e5 v0 v1 v2 v3 t1 t2 aa bb (by first | assumption | omega)) (cwV 2 hts gX4_stateOf_X4_opened rfl rfl rfl (by decide +kernel) ⟨(Nat.le_of_ble_eq_true rfl), (Nat.le_of_ble_eq_true rfl)⟩) ⟨ck_blind, va_recv hK hP (ci := 4) (q0 := 0) rfl rfl, (ck_pre hG hP hD hS [0, 3, 4] rfl (by decide) _)⟩ rfl rfl hl.1 rfl (lv_room (Nat.le_of_ble_eq_true rfl)) dX4_stateOf_3 ⟨(Nat.le_of_ble_eq_true rfl), (Nat.le_of_ble_eq_true rfl)⟩) (fun r_1 hw_1 => ?_)
  have hw_1 : ck_mfd kc t1 t2 aa bb r_1 := hw_1
  refine lv_istore_n (lv' := [(3, .int r_1), (0, .ref mo), (1, .int aa), (2, .int bb)]) hx hb dX4_stateOf_6 rfl hl (by decide) rfl (fun ls hl => ?_)
  refine lv_iload_n hx hb dX4_stateOf_7 rfl (lv_at hl 0 rfl) ?_
  refine lv_if_lt (tgt := 28) hx hb dX4_stateOf_8 (by decide) (fun c_8 => ?_) (fun c_8 => ?_)
  · skip
    have hn_1 : ∀ i, i < kc → ¬ (t1 i = aa ∧ t2 i = bb) := by
      rcases hw_1 with z | ⟨j9, hj9, ej9, -⟩
      · exact z.2
      · exact absurd (by rw [← ej9]; exact c_8) (nI_pos (n := j9) (by omega))
    refine lv_aload_n hx hb dX4_stateOf_28 rfl (lv_at hl 1 rfl) ?_
    refine lv_iload_n hx hb dX4_stateOf_29 rfl (lv_at hl 2 rfl) ?_
    refine lv_iload_n hx hb dX4_stateOf_30 rfl (lv_at hl 3 rfl) ?_
    refine ck_ri (va_runV (As := [.int aa, .int bb]) (rest := []) ⟨hx, hb, hml, hown, hts⟩ (c_X4_half l dC dI cI cJ cZ lo _ mo th zs rq k l0 ti ct n d1 d2 d3 d4 d5 d6 kc e1 e2 e3 e4 e5 v0 v1 v2 v3 p1 p2 aa bb (by first | assumption | omega)) (cwV 2 hts gX4_stateOf_X4_half rfl rfl rfl (by decide +kernel) ⟨(Nat.le_of_ble_eq_true rfl), (Nat.le_of_ble_eq_true rfl)⟩) ⟨ck_blind, va_recv hK hP (ci := 4) (q0 := 0) rfl rfl, (ck_pre hG hP hD hS [0, 1, 2] rfl (by decide) _)⟩ rfl rfl hl.1 rfl (lv_room (Nat.le_of_ble_eq_true rfl)) dX4_stateOf_31 ⟨(Nat.le_of_ble_eq_true rfl), (Nat.le_of_ble_eq_true rfl)⟩) (fun r_2 hw_2 => ?_)
    have hw_2 : ck_mfd n p1 p2 aa bb r_2 := hw_2
    refine lv_if_lt (tgt := 41) hx hb dX4_stateOf_34 (by decide) (fun c_34 => ?_) (fun c_34 => ?_)
    · skip
      have hn_2 : ∀ i, i < n → ¬ (p1 i = aa ∧ p2 i = bb) := by
        rcases hw_2 with z | ⟨j9, hj9, ej9, -⟩
        · exact z.2
        · exact absurd (by rw [← ej9]; exact c_34) (nI_pos (n := j9) (by omega))
      refine lv_iconst (v := 0) hx hb dX4_stateOf_41 (by decide) ?_
      refine ck_iq hx hb hr hlocks dX4_stateOf_42 ?_
      exact Or.inr ⟨hn_1, Or.inr ⟨hn_2, rfl⟩⟩
    · skip
      obtain ⟨j_2, hj_2, ej_2, hf_2, hg_2⟩ := hw_2.resolve_left (fun z => c_34 (by rw [z.1]; decide))
      subst ej_2
      refine lv_iconst (v := 1) hx hb dX4_stateOf_37 (by decide) ?_
      refine lv_goto (tgt := 42) hx hb dX4_stateOf_38 (by decide) ?_
      refine ck_iq hx hb hr hlocks dX4_stateOf_42 ?_
      exact Or.inr ⟨hn_1, Or.inl ⟨⟨_, hj_2, hf_2, hg_2⟩, rfl⟩⟩
  · skip
    obtain ⟨j_1, hj_1, ej_1, hf_1, hg_1⟩ := hw_1.resolve_left (fun z => c_8 (by rw [z.1]; decide))
    subst ej_1
    refine lv_aload_n hx hb dX4_stateOf_11 rfl (lv_at hl 1 rfl) ?_
    refine va_get (D := (dC, dI)) (ci := 4) (v := .ref e4) (C := RX4) (T := TX4) (N := 24) hx hb hts (k_X4_stateOf_in4) hown hK hP 0 rfl rfl 18 (by decide) (hts _ k_X4_stateOf_f47) (fun _ h9 => h9) rfl dX4_stateOf_12 ?_
    refine lv_iload_n hx hb dX4_stateOf_15 rfl (lv_at hl 0 rfl) ?_
    refine ck_zald hx hb hK hP 5 2 rfl rfl (by omega) (by decide) dX4_stateOf_16 ?_
    refine lv_if_eq (tgt := 24) hx hb dX4_stateOf_17 (by decide) (fun c_17 => ?_) (fun c_17 => ?_)
    · skip
      refine lv_iconst (v := 2) hx hb dX4_stateOf_24 (by decide) ?_
      refine lv_goto (tgt := 42) hx hb dX4_stateOf_25 (by decide) ?_
      refine ck_iq hx hb hr hlocks dX4_stateOf_42 ?_
      exact Or.inl ⟨_, hj_1, hf_1, hg_1, Or.inr ⟨c_17, rfl⟩⟩
    · skip
      refine lv_iconst (v := 3) hx hb dX4_stateOf_20 (by decide) ?_
      refine lv_goto (tgt := 42) hx hb dX4_stateOf_21 (by decide) ?_
      refine ck_iq hx hb hr hlocks dX4_stateOf_42 ?_
      exact Or.inl ⟨_, hj_1, hf_1, hg_1, Or.inl ⟨c_17, rfl⟩⟩
set_option maxRecDepth 20000 in
theorem k_X4_state_f54 : (.fieldLink RX4 54 "CookieListenerModel" "thrown" "I" : Cond) ∈ wsX4_state := by decide +kernel
set_option maxRecDepth 20000 in
theorem k_X4_state_in4 : ∀ w ∈ u_ws RX4 TX4 24, w ∈ wsX4_state := by decide +kernel
set_option maxHeartbeats 4000000 in
set_option maxRecDepth 100000 in
theorem c_X4_state (l : Launch) (dC : Nat → ClassId) (dI : Nat → Nat → Nat) (cI cJ cZ : ClassId) (lo sz : Nat) (mo : Nat) (th zs rq : Int32) (k l0 : Int64) (ti ct : Int32) (n : Nat) (d1 d2 d3 d4 d5 d6 : Nat) (kc : Nat) (e1 e2 e3 e4 e5 : Nat) (v0 v1 v2 v3 : Int64) (p1 p2 t1 t2 t4 : Nat → Int32) (aa bb : Int32) (hb1 : 0 ≤ bb) (hb2 : bb ≤ 65535) (hn : n ≤ 32) (hk : kc ≤ 64) : Met l yX4_state wsX4_state ({ frames := 2, cells := 0, slots := 0, locals := 46 } : Room) (va_Pc [.ref mo, .int aa, .int bb] (ck_P (dC, dI) [(cI, .int), (cJ, .long), (cZ, .boolean)] lo sz [(mo, .inr (4, [.int th, .int zs, .int rq, .long k, .long l0, .int ti, .int ct, .int (nI n), .ref d1, .ref d2, .ref d3, .ref d4, .ref d5, .ref d6, .int (nI kc), .ref e1, .ref e2, .ref e3, .ref e4, .ref e5, .long v0, .long v1, .long v2, .long v3])), (d1, .inl (cI, 32, .inl p1)), (d2, .inl (cI, 32, .inl p2)), (e1, .inl (cI, 64, .inl t1)), (e2, .inl (cI, 64, .inl t2)), (e4, .inl (cZ, 64, .inl t4))])) (va_Qi (fun (r : Int32) (u : Unit) => ck_mst n p1 p2 kc t1 t2 t4 aa bb r) (fun u => ck_B (dC, dI) vwCl (va_A [(mo, .inr (4, [.int th, .int zs, .int rq, .long k, .long l0, .int ti, .int ct, .int (nI n), .ref d1, .ref d2, .ref d3, .ref d4, .ref d5, .ref d6, .int (nI kc), .ref e1, .ref e2, .ref e3, .ref e4, .ref e5, .long v0, .long v1, .long v2, .long v3])), (d1, .inl (cI, 32, .inl p1)), (d2, .inl (cI, 32, .inl p2)), (e1, .inl (cI, 64, .inl t1)), (e2, .inl (cI, 64, .inl t2)), (e4, .inl (cZ, 64, .inl t4))] sz) ((fun u : Unit => ([(mo, .inr (4, [.int 0, .int zs, .int rq, .long k, .long l0, .int ti, .int ct, .int (nI n), .ref d1, .ref d2, .ref d3, .ref d4, .ref d5, .ref d6, .int (nI kc), .ref e1, .ref e2, .ref e3, .ref e4, .ref e5, .long v0, .long v1, .long v2, .long v3])), (d1, .inl (cI, 32, .inl p1)), (d2, .inl (cI, 32, .inl p2)), (e1, .inl (cI, 64, .inl t1)), (e2, .inl (cI, 64, .inl t2)), (e4, .inl (cZ, 64, .inl t4))] : va_W)) u)) (va_A [(mo, .inr (4, [.int th, .int zs, .int rq, .long k, .long l0, .int ti, .int ct, .int (nI n), .ref d1, .ref d2, .ref d3, .ref d4, .ref d5, .ref d6, .int (nI kc), .ref e1, .ref e2, .ref e3, .ref e4, .ref e5, .long v0, .long v1, .long v2, .long v3])), (d1, .inl (cI, 32, .inl p1)), (d2, .inl (cI, 32, .inl p2)), (e1, .inl (cI, 64, .inl t1)), (e2, .inl (cI, 64, .inl t2)), (e4, .inl (cZ, 64, .inl t4))] sz)) 0 0 (va_A [(mo, .inr (4, [.int th, .int zs, .int rq, .long k, .long l0, .int ti, .int ct, .int (nI n), .ref d1, .ref d2, .ref d3, .ref d4, .ref d5, .ref d6, .int (nI kc), .ref e1, .ref e2, .ref e3, .ref e4, .ref e5, .long v0, .long v1, .long v2, .long v3])), (d1, .inl (cI, 32, .inl p1)), (d2, .inl (cI, 32, .inl p2)), (e1, .inl (cI, 64, .inl t1)), (e2, .inl (cI, 64, .inl t2)), (e4, .inl (cZ, 64, .inl t4))] sz) := by
  refine Met.ofW (cc := cX4_state) (maxL := 3) (ret := (some .int)) (by decide) rfl ?_
  intro p e s m args below meth c s₁ B hml hv
  obtain ⟨rfl, hsz, hP, hK, hD0, hE⟩ := hv
  have hx := B.exec
  have hb := B.bytes
  have hr := B.returns
  have hts := atoms_spec (ws := wsX4_state) B.pre
  have hown : s.vm.findClass RX4 = some m.cls := findClass_of_methodNamed B.named
  have hlocks := B.notSynchronized
  subst hsz
  have hD := hD0.self (sz := s.heap.size)
  have hlo := ck_lo (sz := s.heap.size) hD0 hE.1
  generalize hAe : va_A [(mo, .inr (4, [.int th, .int zs, .int rq, .long k, .long l0, .int ti, .int ct, .int (nI n), .ref d1, .ref d2, .ref d3, .ref d4, .ref d5, .ref d6, .int (nI kc), .ref e1, .ref e2, .ref e3, .ref e4, .ref e5, .long v0, .long v1, .long v2, .long v3])), (d1, .inl (cI, 32, .inl p1)), (d2, .inl (cI, 32, .inl p2)), (e1, .inl (cI, 64, .inl t1)), (e2, .inl (cI, 64, .inl t2)), (e4, .inl (cZ, 64, .inl t4))] s.heap.size = A at hD hlo ⊢
  have hA : ∀ q : Nat, s.heap.size ≤ q → A q := fun q h => by rw [← hAe]; exact Or.inr h
  have hG : ck_G (dC, dI) [(cI, .int), (cJ, .long), (cZ, .boolean)] lo A s := ⟨hK, hE, hA, hlo⟩
  have hS : va_S A s.heap s.heap [] := va_S.rf
  have hP : va_P (dC, dI) vwCl [(mo, .inr (4, [.int th, .int zs, .int rq, .long k, .long l0, .int ti, .int ct, .int (nI n), .ref d1, .ref d2, .ref d3, .ref d4, .ref d5, .ref d6, .int (nI kc), .ref e1, .ref e2, .ref e3, .ref e4, .ref e5, .long v0, .long v1, .long v2, .long v3])), (d1, .inl (cI, 32, .inl p1)), (d2, .inl (cI, 32, .inl p2)), (e1, .inl (cI, 64, .inl t1)), (e2, .inl (cI, 64, .inl t2)), (e4, .inl (cZ, 64, .inl t4))] s.heap := hP
  have hl := lv_entry ([.ref mo, .int aa, .int bb]) (n := 3) (Nat.le_of_ble_eq_true rfl)
  rw [lg_entry_eq]
  generalize (lg_sl ([.ref mo, .int aa, .int bb]) ++ List.replicate (3 - (lg_sl ([.ref mo, .int aa, .int bb])).length) Slot.unset).toArray = ls at hl ⊢
  have hl : lv_has ls 3 [(0, .ref mo), (1, .int aa), (2, .int bb)] := hl
  refine lv_aload_n hx hb dX4_state_0 rfl (lv_at hl 0 rfl) ?_
  refine lv_iload_n hx hb dX4_state_1 rfl (lv_at hl 2 rfl) ?_
  refine ck_ri (va_runS (As := [.int bb]) (rest := [.ref mo]) ⟨hx, hb, hml, hown, hts⟩ (c_X4_noPort l dC dI cI cJ cZ lo _ bb) (va_cwS 1 hts gX4_state_X4_noPort rfl rfl rfl (by decide +kernel) ⟨(Nat.le_of_ble_eq_true rfl), (Nat.le_of_ble_eq_true rfl)⟩) ⟨ck_blind, (ck_pre hG hP hD hS [] rfl (by decide) _)⟩ rfl rfl hl.1 rfl (lv_room (Nat.le_of_ble_eq_true rfl)) dX4_state_2 ⟨(Nat.le_of_ble_eq_true rfl), (Nat.le_of_ble_eq_true rfl)⟩) (fun r_1 hw_1 => ?_)
  have hw_1 : (r_1 = 1 ∧ ¬ (0 ≤ bb ∧ bb ≤ 65535)) ∨ (r_1 = 0 ∧ (0 ≤ bb ∧ bb ≤ 65535)) := hw_1
  refine lv_if_eq (tgt := 12) hx hb dX4_state_5 (by decide) (fun c_5 => ?_) (fun c_5 => ?_)
  · skip
    refine lv_iconst (v := 0) hx hb dX4_state_12 (by decide) ?_
    refine va_put (D := (dC, dI)) (ci := 4) (v := .int 0) (ty := .int) (C := RX4) (T := TX4) (N := 24) hx hb hts (k_X4_state_in4) tyX4 tyX4_ok nmX4 hown hK hP hD hS 0 rfl rfl 0 (by decide) (hts _ k_X4_state_f54) (fun _ h9 => h9) rfl (by decide +kernel) rfl rfl (Nat.le_of_ble_eq_true rfl) dX4_state_13 (fun H locs hP hD hS => ?_)
    have hP : va_P (dC, dI) vwCl [(mo, .inr (4, [.int 0, .int zs, .int rq, .long k, .long l0, .int ti, .int ct, .int (nI n), .ref d1, .ref d2, .ref d3, .ref d4, .ref d5, .ref d6, .int (nI kc), .ref e1, .ref e2, .ref e3, .ref e4, .ref e5, .long v0, .long v1, .long v2, .long v3])), (d1, .inl (cI, 32, .inl p1)), (d2, .inl (cI, 32, .inl p2)), (e1, .inl (cI, 64, .inl t1)), (e2, .inl (cI, 64, .inl t2)), (e4, .inl (cZ, 64, .inl t4))] H := hP
    have hD : va_D A [(mo, .inr (4, [.int 0, .int zs, .int rq, .long k, .long l0, .int ti, .int ct, .int (nI n), .ref d1, .ref d2, .ref d3, .ref d4, .ref d5, .ref d6, .int (nI kc), .ref e1, .ref e2, .ref e3, .ref e4, .ref e5, .long v0, .long v1, .long v2, .long v3])), (d1, .inl (cI, 32, .inl p1)), (d2, .inl (cI, 32, .inl p2)), (e1, .inl (cI, 64, .inl t1)), (e2, .inl (cI, 64, .inl t2)), (e4, .inl (cZ, 64, .inl t4))] := hD
    refine lv_aload_n hx hb dX4_state_16 rfl (lv_at hl 0 rfl) ?_
    refine va_get (D := (dC, dI)) (ci := 4) (v := .int 0) (C := RX4) (T := TX4) (N := 24) hx hb hts (k_X4_state_in4) hown hK hP 0 rfl rfl 0 (by decide) (hts _ k_X4_state_f54) (fun _ h9 => h9) rfl dX4_state_17 ?_
    refine lv_if_le (tgt := 27) hx hb dX4_state_20 (by decide) (fun c_20 => ?_) (fun c_20 => ?_)
    · skip
      refine lv_aload_n hx hb dX4_state_27 rfl (lv_at hl 0 rfl) ?_
      refine lv_iload_n hx hb dX4_state_28 rfl (lv_at hl 1 rfl) ?_
      refine lv_iload_n hx hb dX4_state_29 rfl (lv_at hl 2 rfl) ?_
      refine ck_ri (va_runV (As := [.int aa, .int bb]) (rest := []) ⟨hx, hb, hml, hown, hts⟩ (c_X4_stateOf l dC dI cI cJ cZ lo _ mo 0 zs rq k l0 ti ct n d1 d2 d3 d4 d5 d6 kc e1 e2 e3 e4 e5 v0 v1 v2 v3 p1 p2 t1 t2 t4 aa bb (by first | assumption | omega) (by first | assumption | omega)) (cwV 2 hts gX4_state_X4_stateOf rfl rfl rfl (by decide +kernel) ⟨(Nat.le_of_ble_eq_true rfl), (Nat.le_of_ble_eq_true rfl)⟩) ⟨ck_blind, va_recv hK hP (ci := 4) (q0 := 0) rfl rfl, (ck_pre hG hP hD hS [0, 1, 2, 3, 4, 5] rfl (by decide) _)⟩ rfl rfl hl.1 rfl (lv_room (Nat.le_of_ble_eq_true rfl)) dX4_state_30 ⟨(Nat.le_of_ble_eq_true rfl), (Nat.le_of_ble_eq_true rfl)⟩) (fun r_2 hw_2 => ?_)
      have hw_2 : ck_mst n p1 p2 kc t1 t2 t4 aa bb r_2 := hw_2
      subst_vars
      refine ck_ir hx hb hr hlocks (Nat.le_of_ble_eq_true rfl) (Nat.le_of_ble_eq_true rfl) dX4_state_33 () hP hD hS ?_
      exact hw_2
    · skip
      exact absurd c_20 (by decide)
  · skip
    exact absurd ⟨hb1, hb2⟩ ((hw_1.resolve_right (fun z => c_5 z.1)).2)
set_option maxHeartbeats 4000000 in
set_option maxRecDepth 100000 in
theorem b_X4_state (l : Launch) (dC : Nat → ClassId) (dI : Nat → Nat → Nat) (cI cJ cZ : ClassId) (lo sz : Nat) (mo : Nat) (th zs rq : Int32) (k l0 : Int64) (ti ct : Int32) (n : Nat) (d1 d2 d3 d4 d5 d6 : Nat) (kc : Nat) (e1 e2 e3 e4 e5 : Nat) (v0 v1 v2 v3 : Int64) (aa bb : Int32) (hbad : ¬ (0 ≤ bb ∧ bb ≤ 65535)) : Met l yX4_state wsX4_state ({ frames := 1, cells := 0, slots := 0, locals := 20 } : Room) (va_Pc [.ref mo, .int aa, .int bb] (ck_P (dC, dI) [(cI, .int), (cJ, .long), (cZ, .boolean)] lo sz [(mo, .inr (4, [.int th, .int zs, .int rq, .long k, .long l0, .int ti, .int ct, .int (nI n), .ref d1, .ref d2, .ref d3, .ref d4, .ref d5, .ref d6, .int (nI kc), .ref e1, .ref e2, .ref e3, .ref e4, .ref e5, .long v0, .long v1, .long v2, .long v3]))])) (va_Qi (fun (r : Int32) (u : Unit) => True) (fun u => ck_B (dC, dI) vwCl (va_A [(mo, .inr (4, [.int th, .int zs, .int rq, .long k, .long l0, .int ti, .int ct, .int (nI n), .ref d1, .ref d2, .ref d3, .ref d4, .ref d5, .ref d6, .int (nI kc), .ref e1, .ref e2, .ref e3, .ref e4, .ref e5, .long v0, .long v1, .long v2, .long v3]))] sz) ((fun u : Unit => ([(mo, .inr (4, [.int 1, .int zs, .int rq, .long k, .long l0, .int ti, .int ct, .int (nI n), .ref d1, .ref d2, .ref d3, .ref d4, .ref d5, .ref d6, .int (nI kc), .ref e1, .ref e2, .ref e3, .ref e4, .ref e5, .long v0, .long v1, .long v2, .long v3]))] : va_W)) u)) (va_A [(mo, .inr (4, [.int th, .int zs, .int rq, .long k, .long l0, .int ti, .int ct, .int (nI n), .ref d1, .ref d2, .ref d3, .ref d4, .ref d5, .ref d6, .int (nI kc), .ref e1, .ref e2, .ref e3, .ref e4, .ref e5, .long v0, .long v1, .long v2, .long v3]))] sz)) 0 0 (va_A [(mo, .inr (4, [.int th, .int zs, .int rq, .long k, .long l0, .int ti, .int ct, .int (nI n), .ref d1, .ref d2, .ref d3, .ref d4, .ref d5, .ref d6, .int (nI kc), .ref e1, .ref e2, .ref e3, .ref e4, .ref e5, .long v0, .long v1, .long v2, .long v3]))] sz) := by
  refine Met.ofW (cc := cX4_state) (maxL := 3) (ret := (some .int)) (by decide) rfl ?_
  intro p e s m args below meth c s₁ B hml hv
  obtain ⟨rfl, hsz, hP, hK, hD0, hE⟩ := hv
  have hx := B.exec
  have hb := B.bytes
  have hr := B.returns
  have hts := atoms_spec (ws := wsX4_state) B.pre
  have hown : s.vm.findClass RX4 = some m.cls := findClass_of_methodNamed B.named
  have hlocks := B.notSynchronized
  subst hsz
  have hD := hD0.self (sz := s.heap.size)
  have hlo := ck_lo (sz := s.heap.size) hD0 hE.1
  generalize hAe : va_A [(mo, .inr (4, [.int th, .int zs, .int rq, .long k, .long l0, .int ti, .int ct, .int (nI n), .ref d1, .ref d2, .ref d3, .ref d4, .ref d5, .ref d6, .int (nI kc), .ref e1, .ref e2, .ref e3, .ref e4, .ref e5, .long v0, .long v1, .long v2, .long v3]))] s.heap.size = A at hD hlo ⊢
  have hA : ∀ q : Nat, s.heap.size ≤ q → A q := fun q h => by rw [← hAe]; exact Or.inr h
  have hG : ck_G (dC, dI) [(cI, .int), (cJ, .long), (cZ, .boolean)] lo A s := ⟨hK, hE, hA, hlo⟩
  have hS : va_S A s.heap s.heap [] := va_S.rf
  have hP : va_P (dC, dI) vwCl [(mo, .inr (4, [.int th, .int zs, .int rq, .long k, .long l0, .int ti, .int ct, .int (nI n), .ref d1, .ref d2, .ref d3, .ref d4, .ref d5, .ref d6, .int (nI kc), .ref e1, .ref e2, .ref e3, .ref e4, .ref e5, .long v0, .long v1, .long v2, .long v3]))] s.heap := hP
  have hl := lv_entry ([.ref mo, .int aa, .int bb]) (n := 3) (Nat.le_of_ble_eq_true rfl)
  rw [lg_entry_eq]
  generalize (lg_sl ([.ref mo, .int aa, .int bb]) ++ List.replicate (3 - (lg_sl ([.ref mo, .int aa, .int bb])).length) Slot.unset).toArray = ls at hl ⊢
  have hl : lv_has ls 3 [(0, .ref mo), (1, .int aa), (2, .int bb)] := hl
  refine lv_aload_n hx hb dX4_state_0 rfl (lv_at hl 0 rfl) ?_
  refine lv_iload_n hx hb dX4_state_1 rfl (lv_at hl 2 rfl) ?_
  refine ck_ri (va_runS (As := [.int bb]) (rest := [.ref mo]) ⟨hx, hb, hml, hown, hts⟩ (c_X4_noPort l dC dI cI cJ cZ lo _ bb) (va_cwS 1 hts gX4_state_X4_noPort rfl rfl rfl (by decide +kernel) ⟨(Nat.le_of_ble_eq_true rfl), (Nat.le_of_ble_eq_true rfl)⟩) ⟨ck_blind, (ck_pre hG hP hD hS [] rfl (by decide) _)⟩ rfl rfl hl.1 rfl (lv_room (Nat.le_of_ble_eq_true rfl)) dX4_state_2 ⟨(Nat.le_of_ble_eq_true rfl), (Nat.le_of_ble_eq_true rfl)⟩) (fun r_1 hw_1 => ?_)
  have hw_1 : (r_1 = 1 ∧ ¬ (0 ≤ bb ∧ bb ≤ 65535)) ∨ (r_1 = 0 ∧ (0 ≤ bb ∧ bb ≤ 65535)) := hw_1
  refine lv_if_eq (tgt := 12) hx hb dX4_state_5 (by decide) (fun c_5 => ?_) (fun c_5 => ?_)
  · skip
    exact absurd ((hw_1.resolve_left (fun z => absurd (z.1.symm.trans c_5) (by decide))).2) hbad
  · skip
    refine lv_iconst (v := 1) hx hb dX4_state_8 (by decide) ?_
    refine lv_goto (tgt := 13) hx hb dX4_state_9 (by decide) ?_
    refine va_put (D := (dC, dI)) (ci := 4) (v := .int 1) (ty := .int) (C := RX4) (T := TX4) (N := 24) hx hb hts (k_X4_state_in4) tyX4 tyX4_ok nmX4 hown hK hP hD hS 0 rfl rfl 0 (by decide) (hts _ k_X4_state_f54) (fun _ h9 => h9) rfl (by decide +kernel) rfl rfl (Nat.le_of_ble_eq_true rfl) dX4_state_13 (fun H locs hP hD hS => ?_)
    have hP : va_P (dC, dI) vwCl [(mo, .inr (4, [.int 1, .int zs, .int rq, .long k, .long l0, .int ti, .int ct, .int (nI n), .ref d1, .ref d2, .ref d3, .ref d4, .ref d5, .ref d6, .int (nI kc), .ref e1, .ref e2, .ref e3, .ref e4, .ref e5, .long v0, .long v1, .long v2, .long v3]))] H := hP
    have hD : va_D A [(mo, .inr (4, [.int 1, .int zs, .int rq, .long k, .long l0, .int ti, .int ct, .int (nI n), .ref d1, .ref d2, .ref d3, .ref d4, .ref d5, .ref d6, .int (nI kc), .ref e1, .ref e2, .ref e3, .ref e4, .ref e5, .long v0, .long v1, .long v2, .long v3]))] := hD
    refine lv_aload_n hx hb dX4_state_16 rfl (lv_at hl 0 rfl) ?_
    refine va_get (D := (dC, dI)) (ci := 4) (v := .int 1) (C := RX4) (T := TX4) (N := 24) hx hb hts (k_X4_state_in4) hown hK hP 0 rfl rfl 0 (by decide) (hts _ k_X4_state_f54) (fun _ h9 => h9) rfl dX4_state_17 ?_
    refine lv_if_le (tgt := 27) hx hb dX4_state_20 (by decide) (fun c_20 => ?_) (fun c_20 => ?_)
    · skip
      exact absurd c_20 (by decide)
    · skip
      refine lv_iconst (v := 0) hx hb dX4_state_23 (by decide) ?_
      refine lv_goto (tgt := 33) hx hb dX4_state_24 (by decide) ?_
      subst_vars
      refine ck_ir hx hb hr hlocks (Nat.le_of_ble_eq_true rfl) (Nat.le_of_ble_eq_true rfl) dX4_state_33 () hP hD hS ?_
      exact trivial
set_option maxRecDepth 20000 in
theorem k_X4_close_f54 : (.fieldLink RX4 54 "CookieListenerModel" "thrown" "I" : Cond) ∈ wsX4_close := by decide +kernel
set_option maxRecDepth 20000 in
theorem k_X4_close_in4 : ∀ w ∈ u_ws RX4 TX4 24, w ∈ wsX4_close := by decide +kernel
set_option maxHeartbeats 4000000 in
set_option maxRecDepth 100000 in
theorem c_X4_close (l : Launch) (dC : Nat → ClassId) (dI : Nat → Nat → Nat) (cI cJ cZ : ClassId) (lo sz : Nat) (mo : Nat) (th zs rq : Int32) (k l0 : Int64) (ti ct : Int32) (n : Nat) (d1 d2 d3 d4 d5 d6 : Nat) (kc : Nat) (e1 e2 e3 e4 e5 : Nat) (v0 v1 v2 v3 : Int64) (p1 p2 p3 p4 p5 p6 : Nat → Int32) (t1 t2 t3 t4 : Nat → Int32) (aa bb : Int32) (hb1 : 0 ≤ bb) (hb2 : bb ≤ 65535) (hn : n ≤ 32) (hk : kc ≤ 64) (hpo : ∀ i, i < n → ck_pok (p2 i)) (h01 : ∀ i, i < kc → t4 i = 0 ∨ t4 i = 1) : Met l yX4_close wsX4_close ({ frames := 2, cells := 0, slots := 0, locals := 46 } : Room) (va_Pc [.ref mo, .int aa, .int bb] (ck_P (dC, dI) [(cI, .int), (cJ, .long), (cZ, .boolean)] lo sz [(mo, .inr (4, [.int th, .int zs, .int rq, .long k, .long l0, .int ti, .int ct, .int (nI n), .ref d1, .ref d2, .ref d3, .ref d4, .ref d5, .ref d6, .int (nI kc), .ref e1, .ref e2, .ref e3, .ref e4, .ref e5, .long v0, .long v1, .long v2, .long v3])), (d1, .inl (cI, 32, .inl p1)), (d2, .inl (cI, 32, .inl p2)), (d3, .inl (cI, 32, .inl p3)), (d4, .inl (cI, 32, .inl p4)), (d5, .inl (cI, 32, .inl p5)), (d6, .inl (cI, 32, .inl p6)), (e1, .inl (cI, 64, .inl t1)), (e2, .inl (cI, 64, .inl t2)), (e3, .inl (cI, 64, .inl t3)), (e4, .inl (cZ, 64, .inl t4))])) (va_Qi (fun (r : Int32) (u : Nat × Nat × (Nat → Int32) × (Nat → Int32) × (Nat → Int32) × (Nat → Int32) × (Nat → Int32) × (Nat → Int32) × (Nat → Int32) × (Nat → Int32) × (Nat → Int32) × (Nat → Int32)) => ck_mst n p1 p2 kc t1 t2 t4 aa bb r ∧ ((r = 0 ∧ u.1 = n ∧ u.2.2.1 = p1 ∧ u.2.2.2.1 = p2 ∧ u.2.2.2.2.1 = p3 ∧ u.2.2.2.2.2.1 = p4 ∧ u.2.2.2.2.2.2.1 = p5 ∧ u.2.2.2.2.2.2.2.1 = p6 ∧ u.2.1 = kc ∧ u.2.2.2.2.2.2.2.2.1 = t1 ∧ u.2.2.2.2.2.2.2.2.2.1 = t2 ∧ u.2.2.2.2.2.2.2.2.2.2.1 = t3 ∧ u.2.2.2.2.2.2.2.2.2.2.2 = t4) ∨ (r = 1 ∧ (∃ j, j < n ∧ p1 j = aa ∧ p2 j = bb ∧ n = u.1 + 1 ∧ ck_gone u.1 (ck_M p1 p2 p3 p4 p5 p6) (ck_M u.2.2.1 u.2.2.2.1 u.2.2.2.2.1 u.2.2.2.2.2.1 u.2.2.2.2.2.2.1 u.2.2.2.2.2.2.2.1) j ∧ ∀ i, i < u.1 → ck_pok (u.2.2.2.1 i)) ∧ u.2.1 = kc ∧ u.2.2.2.2.2.2.2.2.1 = t1 ∧ u.2.2.2.2.2.2.2.2.2.1 = t2 ∧ u.2.2.2.2.2.2.2.2.2.2.1 = t3 ∧ u.2.2.2.2.2.2.2.2.2.2.2 = t4) ∨ ((r = 2 ∨ r = 3) ∧ u.1 = n ∧ u.2.2.1 = p1 ∧ u.2.2.2.1 = p2 ∧ u.2.2.2.2.1 = p3 ∧ u.2.2.2.2.2.1 = p4 ∧ u.2.2.2.2.2.2.1 = p5 ∧ u.2.2.2.2.2.2.2.1 = p6 ∧ ∃ j, j < kc ∧ t1 j = aa ∧ t2 j = bb ∧ kc = u.2.1 + 1 ∧ ck_shf t1 u.2.2.2.2.2.2.2.2.1 j u.2.1 ∧ ck_shf t2 u.2.2.2.2.2.2.2.2.2.1 j u.2.1 ∧ ck_shf t3 u.2.2.2.2.2.2.2.2.2.2.1 j u.2.1 ∧ ck_shf t4 u.2.2.2.2.2.2.2.2.2.2.2 j u.2.1))) (fun u => ck_B (dC, dI) vwCl (va_A [(mo, .inr (4, [.int th, .int zs, .int rq, .long k, .long l0, .int ti, .int ct, .int (nI n), .ref d1, .ref d2, .ref d3, .ref d4, .ref d5, .ref d6, .int (nI kc), .ref e1, .ref e2, .ref e3, .ref e4, .ref e5, .long v0, .long v1, .long v2, .long v3])), (d1, .inl (cI, 32, .inl p1)), (d2, .inl (cI, 32, .inl p2)), (d3, .inl (cI, 32, .inl p3)), (d4, .inl (cI, 32, .inl p4)), (d5, .inl (cI, 32, .inl p5)), (d6, .inl (cI, 32, .inl p6)), (e1, .inl (cI, 64, .inl t1)), (e2, .inl (cI, 64, .inl t2)), (e3, .inl (cI, 64, .inl t3)), (e4, .inl (cZ, 64, .inl t4))] sz) ((fun u : Nat × Nat × (Nat → Int32) × (Nat → Int32) × (Nat → Int32) × (Nat → Int32) × (Nat → Int32) × (Nat → Int32) × (Nat → Int32) × (Nat → Int32) × (Nat → Int32) × (Nat → Int32) => ([(mo, .inr (4, [.int 0, .int zs, .int rq, .long k, .long l0, .int ti, .int ct, .int (nI u.1), .ref d1, .ref d2, .ref d3, .ref d4, .ref d5, .ref d6, .int (nI u.2.1), .ref e1, .ref e2, .ref e3, .ref e4, .ref e5, .long v0, .long v1, .long v2, .long v3])), (d1, .inl (cI, 32, .inl u.2.2.1)), (d2, .inl (cI, 32, .inl u.2.2.2.1)), (d3, .inl (cI, 32, .inl u.2.2.2.2.1)), (d4, .inl (cI, 32, .inl u.2.2.2.2.2.1)), (d5, .inl (cI, 32, .inl u.2.2.2.2.2.2.1)), (d6, .inl (cI, 32, .inl u.2.2.2.2.2.2.2.1)), (e1, .inl (cI, 64, .inl u.2.2.2.2.2.2.2.2.1)), (e2, .inl (cI, 64, .inl u.2.2.2.2.2.2.2.2.2.1)), (e3, .inl (cI, 64, .inl u.2.2.2.2.2.2.2.2.2.2.1)), (e4, .inl (cZ, 64, .inl u.2.2.2.2.2.2.2.2.2.2.2))] : va_W)) u)) (va_A [(mo, .inr (4, [.int th, .int zs, .int rq, .long k, .long l0, .int ti, .int ct, .int (nI n), .ref d1, .ref d2, .ref d3, .ref d4, .ref d5, .ref d6, .int (nI kc), .ref e1, .ref e2, .ref e3, .ref e4, .ref e5, .long v0, .long v1, .long v2, .long v3])), (d1, .inl (cI, 32, .inl p1)), (d2, .inl (cI, 32, .inl p2)), (d3, .inl (cI, 32, .inl p3)), (d4, .inl (cI, 32, .inl p4)), (d5, .inl (cI, 32, .inl p5)), (d6, .inl (cI, 32, .inl p6)), (e1, .inl (cI, 64, .inl t1)), (e2, .inl (cI, 64, .inl t2)), (e3, .inl (cI, 64, .inl t3)), (e4, .inl (cZ, 64, .inl t4))] sz)) 0 0 (va_A [(mo, .inr (4, [.int th, .int zs, .int rq, .long k, .long l0, .int ti, .int ct, .int (nI n), .ref d1, .ref d2, .ref d3, .ref d4, .ref d5, .ref d6, .int (nI kc), .ref e1, .ref e2, .ref e3, .ref e4, .ref e5, .long v0, .long v1, .long v2, .long v3])), (d1, .inl (cI, 32, .inl p1)), (d2, .inl (cI, 32, .inl p2)), (d3, .inl (cI, 32, .inl p3)), (d4, .inl (cI, 32, .inl p4)), (d5, .inl (cI, 32, .inl p5)), (d6, .inl (cI, 32, .inl p6)), (e1, .inl (cI, 64, .inl t1)), (e2, .inl (cI, 64, .inl t2)), (e3, .inl (cI, 64, .inl t3)), (e4, .inl (cZ, 64, .inl t4))] sz) := by
  refine Met.ofW (cc := cX4_close) (maxL := 4) (ret := (some .int)) (by decide) rfl ?_
  intro p e s m args below meth c s₁ B hml hv
  obtain ⟨rfl, hsz, hP, hK, hD0, hE⟩ := hv
  have hx := B.exec
  have hb := B.bytes
  have hr := B.returns
  have hts := atoms_spec (ws := wsX4_close) B.pre
  have hown : s.vm.findClass RX4 = some m.cls := findClass_of_methodNamed B.named
  have hlocks := B.notSynchronized
  subst hsz
  have hD := hD0.self (sz := s.heap.size)
  have hlo := ck_lo (sz := s.heap.size) hD0 hE.1
  generalize hAe : va_A [(mo, .inr (4, [.int th, .int zs, .int rq, .long k, .long l0, .int ti, .int ct, .int (nI n), .ref d1, .ref d2, .ref d3, .ref d4, .ref d5, .ref d6, .int (nI kc), .ref e1, .ref e2, .ref e3, .ref e4, .ref e5, .long v0, .long v1, .long v2, .long v3])), (d1, .inl (cI, 32, .inl p1)), (d2, .inl (cI, 32, .inl p2)), (d3, .inl (cI, 32, .inl p3)), (d4, .inl (cI, 32, .inl p4)), (d5, .inl (cI, 32, .inl p5)), (d6, .inl (cI, 32, .inl p6)), (e1, .inl (cI, 64, .inl t1)), (e2, .inl (cI, 64, .inl t2)), (e3, .inl (cI, 64, .inl t3)), (e4, .inl (cZ, 64, .inl t4))] s.heap.size = A at hD hlo ⊢
  have hA : ∀ q : Nat, s.heap.size ≤ q → A q := fun q h => by rw [← hAe]; exact Or.inr h
  have hG : ck_G (dC, dI) [(cI, .int), (cJ, .long), (cZ, .boolean)] lo A s := ⟨hK, hE, hA, hlo⟩
  have hS : va_S A s.heap s.heap [] := va_S.rf
  have hP : va_P (dC, dI) vwCl [(mo, .inr (4, [.int th, .int zs, .int rq, .long k, .long l0, .int ti, .int ct, .int (nI n), .ref d1, .ref d2, .ref d3, .ref d4, .ref d5, .ref d6, .int (nI kc), .ref e1, .ref e2, .ref e3, .ref e4, .ref e5, .long v0, .long v1, .long v2, .long v3])), (d1, .inl (cI, 32, .inl p1)), (d2, .inl (cI, 32, .inl p2)), (d3, .inl (cI, 32, .inl p3)), (d4, .inl (cI, 32, .inl p4)), (d5, .inl (cI, 32, .inl p5)), (d6, .inl (cI, 32, .inl p6)), (e1, .inl (cI, 64, .inl t1)), (e2, .inl (cI, 64, .inl t2)), (e3, .inl (cI, 64, .inl t3)), (e4, .inl (cZ, 64, .inl t4))] s.heap := hP
  have hl := lv_entry ([.ref mo, .int aa, .int bb]) (n := 4) (Nat.le_of_ble_eq_true rfl)
  rw [lg_entry_eq]
  generalize (lg_sl ([.ref mo, .int aa, .int bb]) ++ List.replicate (4 - (lg_sl ([.ref mo, .int aa, .int bb])).length) Slot.unset).toArray = ls at hl ⊢
  have hl : lv_has ls 4 [(0, .ref mo), (1, .int aa), (2, .int bb)] := hl
  refine lv_aload_n hx hb dX4_close_0 rfl (lv_at hl 0 rfl) ?_
  refine lv_iload_n hx hb dX4_close_1 rfl (lv_at hl 2 rfl) ?_
  refine ck_ri (va_runS (As := [.int bb]) (rest := [.ref mo]) ⟨hx, hb, hml, hown, hts⟩ (c_X4_noPort l dC dI cI cJ cZ lo _ bb) (va_cwS 1 hts gX4_close_X4_noPort rfl rfl rfl (by decide +kernel) ⟨(Nat.le_of_ble_eq_true rfl), (Nat.le_of_ble_eq_true rfl)⟩) ⟨ck_blind, (ck_pre hG hP hD hS [] rfl (by decide) _)⟩ rfl rfl hl.1 rfl (lv_room (Nat.le_of_ble_eq_true rfl)) dX4_close_2 ⟨(Nat.le_of_ble_eq_true rfl), (Nat.le_of_ble_eq_true rfl)⟩) (fun r_1 hw_1 => ?_)
  have hw_1 : (r_1 = 1 ∧ ¬ (0 ≤ bb ∧ bb ≤ 65535)) ∨ (r_1 = 0 ∧ (0 ≤ bb ∧ bb ≤ 65535)) := hw_1
  refine lv_if_eq (tgt := 12) hx hb dX4_close_5 (by decide) (fun c_5 => ?_) (fun c_5 => ?_)
  · skip
    refine lv_iconst (v := 0) hx hb dX4_close_12 (by decide) ?_
    refine va_put (D := (dC, dI)) (ci := 4) (v := .int 0) (ty := .int) (C := RX4) (T := TX4) (N := 24) hx hb hts (k_X4_close_in4) tyX4 tyX4_ok nmX4 hown hK hP hD hS 0 rfl rfl 0 (by decide) (hts _ k_X4_close_f54) (fun _ h9 => h9) rfl (by decide +kernel) rfl rfl (Nat.le_of_ble_eq_true rfl) dX4_close_13 (fun H locs hP hD hS => ?_)
    have hP : va_P (dC, dI) vwCl [(mo, .inr (4, [.int 0, .int zs, .int rq, .long k, .long l0, .int ti, .int ct, .int (nI n), .ref d1, .ref d2, .ref d3, .ref d4, .ref d5, .ref d6, .int (nI kc), .ref e1, .ref e2, .ref e3, .ref e4, .ref e5, .long v0, .long v1, .long v2, .long v3])), (d1, .inl (cI, 32, .inl p1)), (d2, .inl (cI, 32, .inl p2)), (d3, .inl (cI, 32, .inl p3)), (d4, .inl (cI, 32, .inl p4)), (d5, .inl (cI, 32, .inl p5)), (d6, .inl (cI, 32, .inl p6)), (e1, .inl (cI, 64, .inl t1)), (e2, .inl (cI, 64, .inl t2)), (e3, .inl (cI, 64, .inl t3)), (e4, .inl (cZ, 64, .inl t4))] H := hP
    have hD : va_D A [(mo, .inr (4, [.int 0, .int zs, .int rq, .long k, .long l0, .int ti, .int ct, .int (nI n), .ref d1, .ref d2, .ref d3, .ref d4, .ref d5, .ref d6, .int (nI kc), .ref e1, .ref e2, .ref e3, .ref e4, .ref e5, .long v0, .long v1, .long v2, .long v3])), (d1, .inl (cI, 32, .inl p1)), (d2, .inl (cI, 32, .inl p2)), (d3, .inl (cI, 32, .inl p3)), (d4, .inl (cI, 32, .inl p4)), (d5, .inl (cI, 32, .inl p5)), (d6, .inl (cI, 32, .inl p6)), (e1, .inl (cI, 64, .inl t1)), (e2, .inl (cI, 64, .inl t2)), (e3, .inl (cI, 64, .inl t3)), (e4, .inl (cZ, 64, .inl t4))] := hD
    refine lv_aload_n hx hb dX4_close_16 rfl (lv_at hl 0 rfl) ?_
    refine va_get (D := (dC, dI)) (ci := 4) (v := .int 0) (C := RX4) (T := TX4) (N := 24) hx hb hts (k_X4_close_in4) hown hK hP 0 rfl rfl 0 (by decide) (hts _ k_X4_close_f54) (fun _ h9 => h9) rfl dX4_close_17 ?_
    refine lv_if_le (tgt := 25) hx hb dX4_close_20 (by decide) (fun c_20 => ?_) (fun c_20 => ?_)
    · skip
      refine lv_aload_n hx hb dX4_close_25 rfl (lv_at hl 0 rfl) ?_
      refine lv_iload_n hx hb dX4_close_26 rfl (lv_at hl 1 rfl) ?_
      refine lv_iload_n hx hb dX4_close_27 rfl (lv_at hl 2 rfl) ?_
      refine ck_ri (va_runV (As := [.int aa, .int bb]) (rest := []) ⟨hx, hb, hml, hown, hts⟩ (c_X4_stateOf l dC dI cI cJ cZ lo _ mo 0 zs rq k l0 ti ct n d1 d2 d3 d4 d5 d6 kc e1 e2 e3 e4 e5 v0 v1 v2 v3 p1 p2 t1 t2 t4 aa bb (by first | assumption | omega) (by first | assumption | omega)) (cwV 2 hts gX4_close_X4_stateOf rfl rfl rfl (by decide +kernel) ⟨(Nat.le_of_ble_eq_true rfl), (Nat.le_of_ble_eq_true rfl)⟩) ⟨ck_blind, va_recv hK hP (ci := 4) (q0 := 0) rfl rfl, (ck_pre hG hP hD hS [0, 1, 2, 7, 8, 10] rfl (by decide) _)⟩ rfl rfl hl.1 rfl (lv_room (Nat.le_of_ble_eq_true rfl)) dX4_close_28 ⟨(Nat.le_of_ble_eq_true rfl), (Nat.le_of_ble_eq_true rfl)⟩) (fun r_2 hw_2 => ?_)
      have hw_2 : ck_mst n p1 p2 kc t1 t2 t4 aa bb r_2 := hw_2
      refine lv_istore_n (lv' := [(3, .int r_2), (0, .ref mo), (1, .int aa), (2, .int bb)]) hx hb dX4_close_31 rfl hl (by decide) rfl (fun ls hl => ?_)
      refine lv_iload_n hx hb dX4_close_32 rfl (lv_at hl 0 rfl) ?_
      refine lv_iconst (v := 1) hx hb dX4_close_33 (by decide) ?_
      refine lv_icmp_ne (tgt := 50) hx hb dX4_close_34 (by decide) (fun c_34 => ?_) (fun c_34 => ?_)
      · skip
        refine lv_iload_n hx hb dX4_close_50 rfl (lv_at hl 0 rfl) ?_
        refine lv_iconst (v := 1) hx hb dX4_close_51 (by decide) ?_
        refine lv_icmp_le (tgt := 65) hx hb dX4_close_52 (by decide) (fun c_52 => ?_) (fun c_52 => ?_)
        · skip
          refine lv_iload_n hx hb dX4_close_65 rfl (lv_at hl 0 rfl) ?_
          refine ck_ir hx hb hr hlocks (Nat.le_of_ble_eq_true rfl) (Nat.le_of_ble_eq_true rfl) dX4_close_66 (n, kc, p1, p2, p3, p4, p5, p6, t1, t2, t3, t4) hP hD hS ?_
          refine ⟨hw_2, Or.inl ⟨?_, rfl, rfl, rfl, rfl, rfl, rfl, rfl, rfl, rfl, rfl, rfl, rfl⟩⟩
          rcases hw_2 with ⟨_, _, _, _, ⟨_, y⟩ | ⟨_, y⟩⟩ | ⟨_, ⟨_, y⟩ | ⟨_, y⟩⟩
          · rw [y] at c_52; exact absurd c_52 (by decide)
          · rw [y] at c_52; exact absurd c_52 (by decide)
          · exact absurd y c_34
          · exact y
        · skip
          refine lv_aload_n hx hb dX4_close_55 rfl (lv_at hl 1 rfl) ?_
          refine lv_aload_n hx hb dX4_close_56 rfl (lv_at hl 1 rfl) ?_
          refine lv_iload_n hx hb dX4_close_57 rfl (lv_at hl 2 rfl) ?_
          refine lv_iload_n hx hb dX4_close_58 rfl (lv_at hl 3 rfl) ?_
          refine ck_ri (va_runV (As := [.int aa, .int bb]) (rest := [.ref mo]) ⟨hx, hb, hml, hown, hts⟩ (c_X4_opened l dC dI cI cJ cZ lo _ mo 0 zs rq k l0 ti ct n d1 d2 d3 d4 d5 d6 kc e1 e2 e3 e4 e5 v0 v1 v2 v3 t1 t2 aa bb (by first | assumption | omega)) (cwV 2 hts gX4_close_X4_opened rfl rfl rfl (by decide +kernel) ⟨(Nat.le_of_ble_eq_true rfl), (Nat.le_of_ble_eq_true rfl)⟩) ⟨ck_blind, va_recv hK hP (ci := 4) (q0 := 0) rfl rfl, (ck_pre hG hP hD hS [0, 7, 8] rfl (by decide) _)⟩ rfl rfl hl.1 rfl (lv_room (Nat.le_of_ble_eq_true rfl)) dX4_close_59 ⟨(Nat.le_of_ble_eq_true rfl), (Nat.le_of_ble_eq_true rfl)⟩) (fun r_3 hw_3 => ?_)
          have hw_3 : ck_mfd kc t1 t2 aa bb r_3 := hw_3
          obtain ⟨j_3, hj_3, ej_3, hf_3, hg_3⟩ : ∃ j, j < kc ∧ r_3 = nI j ∧ t1 j = aa ∧ t2 j = bb := by
            refine hw_3.resolve_left (fun z => ?_)
            rcases hw_2 with ⟨j9, h9, e9, f9, _⟩ | ⟨_, ⟨_, y⟩ | ⟨_, y⟩⟩
            · exact z.2 j9 h9 ⟨e9, f9⟩
            · exact absurd y c_34
            · rw [y] at c_52; exact absurd (by decide) c_52
          subst ej_3
          obtain ⟨k0, rfl⟩ : ∃ k0, kc = k0 + 1 := ⟨kc - 1, by omega⟩
          refine ck_cv (wr := [(d1, .inl (cI, 32, .inl p1)), (d2, .inl (cI, 32, .inl p2)), (d3, .inl (cI, 32, .inl p3)), (d4, .inl (cI, 32, .inl p4)), (d5, .inl (cI, 32, .inl p5)), (d6, .inl (cI, 32, .inl p6))]) (va_runV (As := [.int (nI j_3)]) (rest := []) ⟨hx, hb, hml, hown, hts⟩ (c_X4_dropOpen l dC dI cI cJ cZ lo _ mo 0 zs rq k l0 ti ct n d1 d2 d3 d4 d5 d6 k0 e1 e2 e3 e4 e5 v0 v1 v2 v3 t1 t2 t3 t4 j_3 (by first | assumption | omega) (by first | assumption | omega) (by first | assumption | omega)) (cwV 1 hts gX4_close_X4_dropOpen rfl rfl rfl (by decide +kernel) ⟨(Nat.le_of_ble_eq_true rfl), (Nat.le_of_ble_eq_true rfl)⟩) ⟨ck_blind, va_recv hK hP (ci := 4) (q0 := 0) rfl rfl, (ck_pre hG hP hD hS [0, 7, 8, 9, 10] rfl (by decide) _)⟩ rfl rfl hl.1 rfl (lv_room (Nat.le_of_ble_eq_true rfl)) dX4_close_62 ⟨(Nat.le_of_ble_eq_true rfl), (Nat.le_of_ble_eq_true rfl)⟩) hP hD hS hA [0, 7, 8, 9, 10] [1, 2, 3, 4, 5, 6] rfl rfl (by decide) (by decide) (fun u H locs hw_4 hP hD hS => ?_)
          obtain ⟨o1_4, o2_4, o3_4, o4_4⟩ := u
          have hw_4 : ck_shf t1 o1_4 j_3 k0 ∧ ck_shf t2 o2_4 j_3 k0 ∧ ck_shf t3 o3_4 j_3 k0 ∧ ck_shf t4 o4_4 j_3 k0 := hw_4
          have hP : va_P (dC, dI) vwCl [(d1, .inl (cI, 32, .inl p1)), (d2, .inl (cI, 32, .inl p2)), (d3, .inl (cI, 32, .inl p3)), (d4, .inl (cI, 32, .inl p4)), (d5, .inl (cI, 32, .inl p5)), (d6, .inl (cI, 32, .inl p6)), (mo, .inr (4, [.int 0, .int zs, .int rq, .long k, .long l0, .int ti, .int ct, .int (nI n), .ref d1, .ref d2, .ref d3, .ref d4, .ref d5, .ref d6, .int (nI k0), .ref e1, .ref e2, .ref e3, .ref e4, .ref e5, .long v0, .long v1, .long v2, .long v3])), (e1, .inl (cI, 64, .inl o1_4)), (e2, .inl (cI, 64, .inl o2_4)), (e3, .inl (cI, 64, .inl o3_4)), (e4, .inl (cZ, 64, .inl o4_4))] H := hP
          have hD : va_D A [(d1, .inl (cI, 32, .inl p1)), (d2, .inl (cI, 32, .inl p2)), (d3, .inl (cI, 32, .inl p3)), (d4, .inl (cI, 32, .inl p4)), (d5, .inl (cI, 32, .inl p5)), (d6, .inl (cI, 32, .inl p6)), (mo, .inr (4, [.int 0, .int zs, .int rq, .long k, .long l0, .int ti, .int ct, .int (nI n), .ref d1, .ref d2, .ref d3, .ref d4, .ref d5, .ref d6, .int (nI k0), .ref e1, .ref e2, .ref e3, .ref e4, .ref e5, .long v0, .long v1, .long v2, .long v3])), (e1, .inl (cI, 64, .inl o1_4)), (e2, .inl (cI, 64, .inl o2_4)), (e3, .inl (cI, 64, .inl o3_4)), (e4, .inl (cZ, 64, .inl o4_4))] := hD
          refine lv_iload_n hx hb dX4_close_65 rfl (lv_at hl 0 rfl) ?_
          refine ck_ir hx hb hr hlocks (Nat.le_of_ble_eq_true rfl) (Nat.le_of_ble_eq_true rfl) dX4_close_66 (n, k0, p1, p2, p3, p4, p5, p6, o1_4, o2_4, o3_4, o4_4) (hP.sub [6, 0, 1, 2, 3, 4, 5, 7, 8, 9, 10] rfl) (hD.sub [6, 0, 1, 2, 3, 4, 5, 7, 8, 9, 10] (by decide) rfl) hS ?_
          refine ⟨hw_2, Or.inr (Or.inr ⟨?_, rfl, rfl, rfl, rfl, rfl, rfl, rfl, _, hj_3, hf_3, hg_3, rfl, hw_4⟩)⟩
          rcases hw_2 with ⟨_, _, _, _, ⟨_, y⟩ | ⟨_, y⟩⟩ | ⟨_, ⟨_, y⟩ | ⟨_, y⟩⟩
          · exact Or.inr y
          · exact Or.inl y
          · exact absurd y c_34
          · rw [y] at c_52; exact absurd (by decide) c_52
      · skip
        refine lv_aload_n hx hb dX4_close_37 rfl (lv_at hl 1 rfl) ?_
        refine lv_aload_n hx hb dX4_close_38 rfl (lv_at hl 1 rfl) ?_
        refine lv_iload_n hx hb dX4_close_39 rfl (lv_at hl 2 rfl) ?_
        refine lv_iload_n hx hb dX4_close_40 rfl (lv_at hl 3 rfl) ?_
        refine ck_ri (va_runV (As := [.int aa, .int bb]) (rest := [.ref mo]) ⟨hx, hb, hml, hown, hts⟩ (c_X4_half l dC dI cI cJ cZ lo _ mo 0 zs rq k l0 ti ct n d1 d2 d3 d4 d5 d6 kc e1 e2 e3 e4 e5 v0 v1 v2 v3 p1 p2 aa bb (by first | assumption | omega)) (cwV 2 hts gX4_close_X4_half rfl rfl rfl (by decide +kernel) ⟨(Nat.le_of_ble_eq_true rfl), (Nat.le_of_ble_eq_true rfl)⟩) ⟨ck_blind, va_recv hK hP (ci := 4) (q0 := 0) rfl rfl, (ck_pre hG hP hD hS [0, 1, 2] rfl (by decide) _)⟩ rfl rfl hl.1 rfl (lv_room (Nat.le_of_ble_eq_true rfl)) dX4_close_41 ⟨(Nat.le_of_ble_eq_true rfl), (Nat.le_of_ble_eq_true rfl)⟩) (fun r_5 hw_5 => ?_)
        have hw_5 : ck_mfd n p1 p2 aa bb r_5 := hw_5
        obtain ⟨j_5, hj_5, ej_5, hf_5, hg_5⟩ : ∃ j, j < n ∧ r_5 = nI j ∧ p1 j = aa ∧ p2 j = bb := by
          refine hw_5.resolve_left (fun z => ?_)
          rcases hw_2 with ⟨_, _, _, _, ⟨_, y⟩ | ⟨_, y⟩⟩ | ⟨_, ⟨⟨j9, h9, e9⟩, _⟩ | ⟨_, y⟩⟩
          · rw [y] at c_34; exact absurd c_34 (by decide)
          · rw [y] at c_34; exact absurd c_34 (by decide)
          · exact z.2 j9 h9 e9
          · rw [y] at c_34; exact absurd c_34 (by decide)
        subst ej_5
        obtain ⟨n0, rfl⟩ : ∃ n0, n = n0 + 1 := ⟨n - 1, by omega⟩
        refine ck_cv (wr := [(e1, .inl (cI, 64, .inl t1)), (e2, .inl (cI, 64, .inl t2)), (e3, .inl (cI, 64, .inl t3)), (e4, .inl (cZ, 64, .inl t4))]) (va_runV (As := [.int (nI j_5)]) (rest := []) ⟨hx, hb, hml, hown, hts⟩ (c_X4_dropHalf l dC dI cI cJ cZ lo _ mo 0 zs rq k l0 ti ct n0 d1 d2 d3 d4 d5 d6 kc e1 e2 e3 e4 e5 v0 v1 v2 v3 p1 p2 p3 p4 p5 p6 j_5 (by first | assumption | omega) (by first | assumption | omega)) (cwV 1 hts gX4_close_X4_dropHalf rfl rfl rfl (by decide +kernel) ⟨(Nat.le_of_ble_eq_true rfl), (Nat.le_of_ble_eq_true rfl)⟩) ⟨ck_blind, va_recv hK hP (ci := 4) (q0 := 0) rfl rfl, (ck_pre hG hP hD hS [0, 1, 2, 3, 4, 5, 6] rfl (by decide) _)⟩ rfl rfl hl.1 rfl (lv_room (Nat.le_of_ble_eq_true rfl)) dX4_close_44 ⟨(Nat.le_of_ble_eq_true rfl), (Nat.le_of_ble_eq_true rfl)⟩) hP hD hS hA [0, 1, 2, 3, 4, 5, 6] [7, 8, 9, 10] rfl rfl (by decide) (by decide) (fun u H locs hw_6 hP hD hS => ?_)
        obtain ⟨z1_6, z2_6, z3_6, z4_6, z5_6, z6_6⟩ := u
        have hw_6 : ck_shf p1 z1_6 j_5 n0 ∧ ck_shf p2 z2_6 j_5 n0 ∧ ck_shf p3 z3_6 j_5 n0 ∧ ck_shf p4 z4_6 j_5 n0 ∧ ck_shf p5 z5_6 j_5 n0 ∧ ck_shf p6 z6_6 j_5 n0 := hw_6
        have hP : va_P (dC, dI) vwCl [(e1, .inl (cI, 64, .inl t1)), (e2, .inl (cI, 64, .inl t2)), (e3, .inl (cI, 64, .inl t3)), (e4, .inl (cZ, 64, .inl t4)), (mo, .inr (4, [.int 0, .int zs, .int rq, .long k, .long l0, .int ti, .int ct, .int (nI n0), .ref d1, .ref d2, .ref d3, .ref d4, .ref d5, .ref d6, .int (nI kc), .ref e1, .ref e2, .ref e3, .ref e4, .ref e5, .long v0, .long v1, .long v2, .long v3])), (d1, .inl (cI, 32, .inl z1_6)), (d2, .inl (cI, 32, .inl z2_6)), (d3, .inl (cI, 32, .inl z3_6)), (d4, .inl (cI, 32, .inl z4_6)), (d5, .inl (cI, 32, .inl z5_6)), (d6, .inl (cI, 32, .inl z6_6))] H := hP
        have hD : va_D A [(e1, .inl (cI, 64, .inl t1)), (e2, .inl (cI, 64, .inl t2)), (e3, .inl (cI, 64, .inl t3)), (e4, .inl (cZ, 64, .inl t4)), (mo, .inr (4, [.int 0, .int zs, .int rq, .long k, .long l0, .int ti, .int ct, .int (nI n0), .ref d1, .ref d2, .ref d3, .ref d4, .ref d5, .ref d6, .int (nI kc), .ref e1, .ref e2, .ref e3, .ref e4, .ref e5, .long v0, .long v1, .long v2, .long v3])), (d1, .inl (cI, 32, .inl z1_6)), (d2, .inl (cI, 32, .inl z2_6)), (d3, .inl (cI, 32, .inl z3_6)), (d4, .inl (cI, 32, .inl z4_6)), (d5, .inl (cI, 32, .inl z5_6)), (d6, .inl (cI, 32, .inl z6_6))] := hD
        refine lv_goto (tgt := 65) hx hb dX4_close_47 (by decide) ?_
        refine lv_iload_n hx hb dX4_close_65 rfl (lv_at hl 0 rfl) ?_
        refine ck_ir hx hb hr hlocks (Nat.le_of_ble_eq_true rfl) (Nat.le_of_ble_eq_true rfl) dX4_close_66 (n0, kc, z1_6, z2_6, z3_6, z4_6, z5_6, z6_6, t1, t2, t3, t4) (hP.sub [4, 5, 6, 7, 8, 9, 10, 0, 1, 2, 3] rfl) (hD.sub [4, 5, 6, 7, 8, 9, 10, 0, 1, 2, 3] (by decide) rfl) hS ?_
        exact ⟨hw_2, Or.inr (Or.inl ⟨c_34, ⟨_, hj_5, hf_5, hg_5, rfl, ck_gone_shf (by omega) (ck_shfM hw_6.1 hw_6.2.1 hw_6.2.2.1 hw_6.2.2.2.1 hw_6.2.2.2.2.1 hw_6.2.2.2.2.2), ck_pok_shf hw_6.2.1 hpo⟩, rfl, rfl, rfl, rfl, rfl⟩)⟩
    · skip
      exact absurd c_20 (by decide)
  · skip
    exact absurd ⟨hb1, hb2⟩ ((hw_1.resolve_right (fun z => c_5 z.1)).2)
set_option maxHeartbeats 4000000 in
set_option maxRecDepth 100000 in
theorem b_X4_close (l : Launch) (dC : Nat → ClassId) (dI : Nat → Nat → Nat) (cI cJ cZ : ClassId) (lo sz : Nat) (mo : Nat) (th zs rq : Int32) (k l0 : Int64) (ti ct : Int32) (n : Nat) (d1 d2 d3 d4 d5 d6 : Nat) (kc : Nat) (e1 e2 e3 e4 e5 : Nat) (v0 v1 v2 v3 : Int64) (aa bb : Int32) (hbad : ¬ (0 ≤ bb ∧ bb ≤ 65535)) : Met l yX4_close wsX4_close ({ frames := 1, cells := 0, slots := 0, locals := 20 } : Room) (va_Pc [.ref mo, .int aa, .int bb] (ck_P (dC, dI) [(cI, .int), (cJ, .long), (cZ, .boolean)] lo sz [(mo, .inr (4, [.int th, .int zs, .int rq, .long k, .long l0, .int ti, .int ct, .int (nI n), .ref d1, .ref d2, .ref d3, .ref d4, .ref d5, .ref d6, .int (nI kc), .ref e1, .ref e2, .ref e3, .ref e4, .ref e5, .long v0, .long v1, .long v2, .long v3]))])) (va_Qi (fun (r : Int32) (u : Unit) => True) (fun u => ck_B (dC, dI) vwCl (va_A [(mo, .inr (4, [.int th, .int zs, .int rq, .long k, .long l0, .int ti, .int ct, .int (nI n), .ref d1, .ref d2, .ref d3, .ref d4, .ref d5, .ref d6, .int (nI kc), .ref e1, .ref e2, .ref e3, .ref e4, .ref e5, .long v0, .long v1, .long v2, .long v3]))] sz) ((fun u : Unit => ([(mo, .inr (4, [.int 1, .int zs, .int rq, .long k, .long l0, .int ti, .int ct, .int (nI n), .ref d1, .ref d2, .ref d3, .ref d4, .ref d5, .ref d6, .int (nI kc), .ref e1, .ref e2, .ref e3, .ref e4, .ref e5, .long v0, .long v1, .long v2, .long v3]))] : va_W)) u)) (va_A [(mo, .inr (4, [.int th, .int zs, .int rq, .long k, .long l0, .int ti, .int ct, .int (nI n), .ref d1, .ref d2, .ref d3, .ref d4, .ref d5, .ref d6, .int (nI kc), .ref e1, .ref e2, .ref e3, .ref e4, .ref e5, .long v0, .long v1, .long v2, .long v3]))] sz)) 0 0 (va_A [(mo, .inr (4, [.int th, .int zs, .int rq, .long k, .long l0, .int ti, .int ct, .int (nI n), .ref d1, .ref d2, .ref d3, .ref d4, .ref d5, .ref d6, .int (nI kc), .ref e1, .ref e2, .ref e3, .ref e4, .ref e5, .long v0, .long v1, .long v2, .long v3]))] sz) := by
  refine Met.ofW (cc := cX4_close) (maxL := 4) (ret := (some .int)) (by decide) rfl ?_
  intro p e s m args below meth c s₁ B hml hv
  obtain ⟨rfl, hsz, hP, hK, hD0, hE⟩ := hv
  have hx := B.exec
  have hb := B.bytes
  have hr := B.returns
  have hts := atoms_spec (ws := wsX4_close) B.pre
  have hown : s.vm.findClass RX4 = some m.cls := findClass_of_methodNamed B.named
  have hlocks := B.notSynchronized
  subst hsz
  have hD := hD0.self (sz := s.heap.size)
  have hlo := ck_lo (sz := s.heap.size) hD0 hE.1
  generalize hAe : va_A [(mo, .inr (4, [.int th, .int zs, .int rq, .long k, .long l0, .int ti, .int ct, .int (nI n), .ref d1, .ref d2, .ref d3, .ref d4, .ref d5, .ref d6, .int (nI kc), .ref e1, .ref e2, .ref e3, .ref e4, .ref e5, .long v0, .long v1, .long v2, .long v3]))] s.heap.size = A at hD hlo ⊢
  have hA : ∀ q : Nat, s.heap.size ≤ q → A q := fun q h => by rw [← hAe]; exact Or.inr h
  have hG : ck_G (dC, dI) [(cI, .int), (cJ, .long), (cZ, .boolean)] lo A s := ⟨hK, hE, hA, hlo⟩
  have hS : va_S A s.heap s.heap [] := va_S.rf
  have hP : va_P (dC, dI) vwCl [(mo, .inr (4, [.int th, .int zs, .int rq, .long k, .long l0, .int ti, .int ct, .int (nI n), .ref d1, .ref d2, .ref d3, .ref d4, .ref d5, .ref d6, .int (nI kc), .ref e1, .ref e2, .ref e3, .ref e4, .ref e5, .long v0, .long v1, .long v2, .long v3]))] s.heap := hP
  have hl := lv_entry ([.ref mo, .int aa, .int bb]) (n := 4) (Nat.le_of_ble_eq_true rfl)
  rw [lg_entry_eq]
  generalize (lg_sl ([.ref mo, .int aa, .int bb]) ++ List.replicate (4 - (lg_sl ([.ref mo, .int aa, .int bb])).length) Slot.unset).toArray = ls at hl ⊢
  have hl : lv_has ls 4 [(0, .ref mo), (1, .int aa), (2, .int bb)] := hl
  refine lv_aload_n hx hb dX4_close_0 rfl (lv_at hl 0 rfl) ?_
  refine lv_iload_n hx hb dX4_close_1 rfl (lv_at hl 2 rfl) ?_
  refine ck_ri (va_runS (As := [.int bb]) (rest := [.ref mo]) ⟨hx, hb, hml, hown, hts⟩ (c_X4_noPort l dC dI cI cJ cZ lo _ bb) (va_cwS 1 hts gX4_close_X4_noPort rfl rfl rfl (by decide +kernel) ⟨(Nat.le_of_ble_eq_true rfl), (Nat.le_of_ble_eq_true rfl)⟩) ⟨ck_blind, (ck_pre hG hP hD hS [] rfl (by decide) _)⟩ rfl rfl hl.1 rfl (lv_room (Nat.le_of_ble_eq_true rfl)) dX4_close_2 ⟨(Nat.le_of_ble_eq_true rfl), (Nat.le_of_ble_eq_true rfl)⟩) (fun r_1 hw_1 => ?_)
  have hw_1 : (r_1 = 1 ∧ ¬ (0 ≤ bb ∧ bb ≤ 65535)) ∨ (r_1 = 0 ∧ (0 ≤ bb ∧ bb ≤ 65535)) := hw_1
  refine lv_if_eq (tgt := 12) hx hb dX4_close_5 (by decide) (fun c_5 => ?_) (fun c_5 => ?_)
  · skip
    exact absurd ((hw_1.resolve_left (fun z => absurd (z.1.symm.trans c_5) (by decide))).2) hbad
  · skip
    refine lv_iconst (v := 1) hx hb dX4_close_8 (by decide) ?_
    refine lv_goto (tgt := 13) hx hb dX4_close_9 (by decide) ?_
    refine va_put (D := (dC, dI)) (ci := 4) (v := .int 1) (ty := .int) (C := RX4) (T := TX4) (N := 24) hx hb hts (k_X4_close_in4) tyX4 tyX4_ok nmX4 hown hK hP hD hS 0 rfl rfl 0 (by decide) (hts _ k_X4_close_f54) (fun _ h9 => h9) rfl (by decide +kernel) rfl rfl (Nat.le_of_ble_eq_true rfl) dX4_close_13 (fun H locs hP hD hS => ?_)
    have hP : va_P (dC, dI) vwCl [(mo, .inr (4, [.int 1, .int zs, .int rq, .long k, .long l0, .int ti, .int ct, .int (nI n), .ref d1, .ref d2, .ref d3, .ref d4, .ref d5, .ref d6, .int (nI kc), .ref e1, .ref e2, .ref e3, .ref e4, .ref e5, .long v0, .long v1, .long v2, .long v3]))] H := hP
    have hD : va_D A [(mo, .inr (4, [.int 1, .int zs, .int rq, .long k, .long l0, .int ti, .int ct, .int (nI n), .ref d1, .ref d2, .ref d3, .ref d4, .ref d5, .ref d6, .int (nI kc), .ref e1, .ref e2, .ref e3, .ref e4, .ref e5, .long v0, .long v1, .long v2, .long v3]))] := hD
    refine lv_aload_n hx hb dX4_close_16 rfl (lv_at hl 0 rfl) ?_
    refine va_get (D := (dC, dI)) (ci := 4) (v := .int 1) (C := RX4) (T := TX4) (N := 24) hx hb hts (k_X4_close_in4) hown hK hP 0 rfl rfl 0 (by decide) (hts _ k_X4_close_f54) (fun _ h9 => h9) rfl dX4_close_17 ?_
    refine lv_if_le (tgt := 25) hx hb dX4_close_20 (by decide) (fun c_20 => ?_) (fun c_20 => ?_)
    · skip
      exact absurd c_20 (by decide)
    · skip
      refine lv_iconst (v := 0) hx hb dX4_close_23 (by decide) ?_
      subst_vars
      refine ck_ir hx hb hr hlocks (Nat.le_of_ble_eq_true rfl) (Nat.le_of_ble_eq_true rfl) dX4_close_24 () hP hD hS ?_
      exact trivial
set_option maxRecDepth 20000 in
theorem k_X4_cookie_f54 : (.fieldLink RX4 54 "CookieListenerModel" "thrown" "I" : Cond) ∈ wsX4_cookie := by decide +kernel
set_option maxRecDepth 20000 in
theorem k_X4_cookie_in4 : ∀ w ∈ u_ws RX4 TX4 24, w ∈ wsX4_cookie := by decide +kernel
set_option maxRecDepth 20000 in
theorem k_X4_cookie_c103 : (.constantLong RX4 103 (4294967295) : Cond) ∈ wsX4_cookie := by decide +kernel
set_option maxHeartbeats 4000000 in
set_option maxRecDepth 100000 in
theorem c_X4_cookie (l : Launch) (dC : Nat → ClassId) (dI : Nat → Nat → Nat) (cI cJ cZ : ClassId) (lo sz : Nat) (mo : Nat) (th zs rq : Int32) (k l0 : Int64) (ti ct : Int32) (n : Nat) (d1 d2 d3 d4 d5 d6 : Nat) (kc : Nat) (e1 e2 e3 e4 e5 : Nat) (v0 v1 v2 v3 : Int64) (aa bb num kd sl : Int32) (hb1 : 0 ≤ bb) (hb2 : bb ≤ 65535) (hd1 : 0 ≤ kd) (hd2 : kd ≤ 7) (hs1 : 0 ≤ sl) : Met l yX4_cookie wsX4_cookie ({ frames := 5, cells := 0, slots := 0, locals := 120 } : Room) (va_Pc [.ref mo, .int aa, .int bb, .int num, .int kd, .int sl] (ck_P (dC, dI) [(cI, .int), (cJ, .long), (cZ, .boolean)] lo sz [(mo, .inr (4, [.int th, .int zs, .int rq, .long k, .long l0, .int ti, .int ct, .int (nI n), .ref d1, .ref d2, .ref d3, .ref d4, .ref d5, .ref d6, .int (nI kc), .ref e1, .ref e2, .ref e3, .ref e4, .ref e5, .long v0, .long v1, .long v2, .long v3]))])) (va_Ql (fun (r : Int64) (u : Int64 × Int64 × Int64 × Int64) => r = ck_wos (ck_mck k l0 aa bb num kd sl)) (fun u => ck_B (dC, dI) vwCl (va_A [(mo, .inr (4, [.int th, .int zs, .int rq, .long k, .long l0, .int ti, .int ct, .int (nI n), .ref d1, .ref d2, .ref d3, .ref d4, .ref d5, .ref d6, .int (nI kc), .ref e1, .ref e2, .ref e3, .ref e4, .ref e5, .long v0, .long v1, .long v2, .long v3]))] sz) ((fun u : Int64 × Int64 × Int64 × Int64 => ([(mo, .inr (4, [.int 0, .int zs, .int rq, .long k, .long l0, .int ti, .int ct, .int (nI n), .ref d1, .ref d2, .ref d3, .ref d4, .ref d5, .ref d6, .int (nI kc), .ref e1, .ref e2, .ref e3, .ref e4, .ref e5, .long u.1, .long u.2.1, .long u.2.2.1, .long u.2.2.2]))] : va_W)) u)) (va_A [(mo, .inr (4, [.int th, .int zs, .int rq, .long k, .long l0, .int ti, .int ct, .int (nI n), .ref d1, .ref d2, .ref d3, .ref d4, .ref d5, .ref d6, .int (nI kc), .ref e1, .ref e2, .ref e3, .ref e4, .ref e5, .long v0, .long v1, .long v2, .long v3]))] sz)) 0 0 (va_A [(mo, .inr (4, [.int th, .int zs, .int rq, .long k, .long l0, .int ti, .int ct, .int (nI n), .ref d1, .ref d2, .ref d3, .ref d4, .ref d5, .ref d6, .int (nI kc), .ref e1, .ref e2, .ref e3, .ref e4, .ref e5, .long v0, .long v1, .long v2, .long v3]))] sz) := by
  refine Met.ofW (cc := cX4_cookie) (maxL := 6) (ret := (some .long)) (by decide) rfl ?_
  intro p e s m args below meth c s₁ B hml hv
  obtain ⟨rfl, hsz, hP, hK, hD0, hE⟩ := hv
  have hx := B.exec
  have hb := B.bytes
  have hr := B.returns
  have hts := atoms_spec (ws := wsX4_cookie) B.pre
  have hown : s.vm.findClass RX4 = some m.cls := findClass_of_methodNamed B.named
  have hlocks := B.notSynchronized
  subst hsz
  have hD := hD0.self (sz := s.heap.size)
  have hlo := ck_lo (sz := s.heap.size) hD0 hE.1
  generalize hAe : va_A [(mo, .inr (4, [.int th, .int zs, .int rq, .long k, .long l0, .int ti, .int ct, .int (nI n), .ref d1, .ref d2, .ref d3, .ref d4, .ref d5, .ref d6, .int (nI kc), .ref e1, .ref e2, .ref e3, .ref e4, .ref e5, .long v0, .long v1, .long v2, .long v3]))] s.heap.size = A at hD hlo ⊢
  have hA : ∀ q : Nat, s.heap.size ≤ q → A q := fun q h => by rw [← hAe]; exact Or.inr h
  have hG : ck_G (dC, dI) [(cI, .int), (cJ, .long), (cZ, .boolean)] lo A s := ⟨hK, hE, hA, hlo⟩
  have hS : va_S A s.heap s.heap [] := va_S.rf
  have hP : va_P (dC, dI) vwCl [(mo, .inr (4, [.int th, .int zs, .int rq, .long k, .long l0, .int ti, .int ct, .int (nI n), .ref d1, .ref d2, .ref d3, .ref d4, .ref d5, .ref d6, .int (nI kc), .ref e1, .ref e2, .ref e3, .ref e4, .ref e5, .long v0, .long v1, .long v2, .long v3]))] s.heap := hP
  have hl := lv_entry ([.ref mo, .int aa, .int bb, .int num, .int kd, .int sl]) (n := 6) (Nat.le_of_ble_eq_true rfl)
  rw [lg_entry_eq]
  generalize (lg_sl ([.ref mo, .int aa, .int bb, .int num, .int kd, .int sl]) ++ List.replicate (6 - (lg_sl ([.ref mo, .int aa, .int bb, .int num, .int kd, .int sl])).length) Slot.unset).toArray = ls at hl ⊢
  have hl : lv_has ls 6 [(0, .ref mo), (1, .int aa), (2, .int bb), (3, .int num), (4, .int kd), (5, .int sl)] := hl
  refine lv_aload_n hx hb dX4_cookie_0 rfl (lv_at hl 0 rfl) ?_
  refine lv_iload_n hx hb dX4_cookie_1 rfl (lv_at hl 2 rfl) ?_
  refine ck_ri (va_runS (As := [.int bb]) (rest := [.ref mo]) ⟨hx, hb, hml, hown, hts⟩ (c_X4_noPort l dC dI cI cJ cZ lo _ bb) (va_cwS 1 hts gX4_cookie_X4_noPort rfl rfl rfl (by decide +kernel) ⟨(Nat.le_of_ble_eq_true rfl), (Nat.le_of_ble_eq_true rfl)⟩) ⟨ck_blind, (ck_pre hG hP hD hS [] rfl (by decide) _)⟩ rfl rfl hl.1 rfl (lv_room (Nat.le_of_ble_eq_true rfl)) dX4_cookie_2 ⟨(Nat.le_of_ble_eq_true rfl), (Nat.le_of_ble_eq_true rfl)⟩) (fun r_1 hw_1 => ?_)
  have hw_1 : (r_1 = 1 ∧ ¬ (0 ≤ bb ∧ bb ≤ 65535)) ∨ (r_1 = 0 ∧ (0 ≤ bb ∧ bb ≤ 65535)) := hw_1
  refine lv_if_ne (tgt := 25) hx hb dX4_cookie_5 (by decide) (fun c_5 => ?_) (fun c_5 => ?_)
  · skip
    exact absurd ⟨hb1, hb2⟩ ((hw_1.resolve_right (fun z => c_5 z.1)).2)
  · skip
    refine lv_iload hx hb dX4_cookie_8 (lv_at hl 4 rfl) ?_
    refine lv_if_lt (tgt := 25) hx hb dX4_cookie_10 (by decide) (fun c_10 => ?_) (fun c_10 => ?_)
    · skip
      exact absurd c_10 (Int32.not_lt.mpr hd1)
    · skip
      refine lv_iload hx hb dX4_cookie_13 (lv_at hl 4 rfl) ?_
      refine lv_bipush (v := 7) hx hb dX4_cookie_15 (by decide) ?_
      refine lv_icmp_gt (tgt := 25) hx hb dX4_cookie_17 (by decide) (fun c_17 => ?_) (fun c_17 => ?_)
      · skip
        exact absurd c_17 (Int32.not_lt.mpr hd2)
      · skip
        refine lv_iload hx hb dX4_cookie_20 (lv_at hl 5 rfl) ?_
        refine lv_if_ge (tgt := 29) hx hb dX4_cookie_22 (by decide) (fun c_22 => ?_) (fun c_22 => ?_)
        · skip
          refine lv_iconst (v := 0) hx hb dX4_cookie_29 (by decide) ?_
          refine va_put (D := (dC, dI)) (ci := 4) (v := .int 0) (ty := .int) (C := RX4) (T := TX4) (N := 24) hx hb hts (k_X4_cookie_in4) tyX4 tyX4_ok nmX4 hown hK hP hD hS 0 rfl rfl 0 (by decide) (hts _ k_X4_cookie_f54) (fun _ h9 => h9) rfl (by decide +kernel) rfl rfl (Nat.le_of_ble_eq_true rfl) dX4_cookie_30 (fun H locs hP hD hS => ?_)
          have hP : va_P (dC, dI) vwCl [(mo, .inr (4, [.int 0, .int zs, .int rq, .long k, .long l0, .int ti, .int ct, .int (nI n), .ref d1, .ref d2, .ref d3, .ref d4, .ref d5, .ref d6, .int (nI kc), .ref e1, .ref e2, .ref e3, .ref e4, .ref e5, .long v0, .long v1, .long v2, .long v3]))] H := hP
          have hD : va_D A [(mo, .inr (4, [.int 0, .int zs, .int rq, .long k, .long l0, .int ti, .int ct, .int (nI n), .ref d1, .ref d2, .ref d3, .ref d4, .ref d5, .ref d6, .int (nI kc), .ref e1, .ref e2, .ref e3, .ref e4, .ref e5, .long v0, .long v1, .long v2, .long v3]))] := hD
          refine lv_aload_n hx hb dX4_cookie_33 rfl (lv_at hl 0 rfl) ?_
          refine va_get (D := (dC, dI)) (ci := 4) (v := .int 0) (C := RX4) (T := TX4) (N := 24) hx hb hts (k_X4_cookie_in4) hown hK hP 0 rfl rfl 0 (by decide) (hts _ k_X4_cookie_f54) (fun _ h9 => h9) rfl dX4_cookie_34 ?_
          refine lv_if_le (tgt := 44) hx hb dX4_cookie_37 (by decide) (fun c_37 => ?_) (fun c_37 => ?_)
          · skip
            refine lv_aload_n hx hb dX4_cookie_44 rfl (lv_at hl 0 rfl) ?_
            refine lv_iload_n hx hb dX4_cookie_45 rfl (lv_at hl 1 rfl) ?_
            refine lv_iload_n hx hb dX4_cookie_46 rfl (lv_at hl 2 rfl) ?_
            refine lv_iload_n hx hb dX4_cookie_47 rfl (lv_at hl 3 rfl) ?_
            refine lv_iload hx hb dX4_cookie_48 (lv_at hl 4 rfl) ?_
            refine lv_iload hx hb dX4_cookie_50 (lv_at hl 5 rfl) ?_
            refine ck_ci (wr := []) (va_runV (As := [.int aa, .int bb, .int num, .int kd, .int sl]) (rest := []) ⟨hx, hb, hml, hown, hts⟩ (c_X4_cookieOf l dC dI cI cJ cZ lo _ mo 0 zs rq k l0 ti ct n d1 d2 d3 d4 d5 d6 kc e1 e2 e3 e4 e5 v0 v1 v2 v3 aa bb num kd sl) (cwV 5 hts gX4_cookie_X4_cookieOf rfl rfl rfl (by decide +kernel) ⟨(Nat.le_of_ble_eq_true rfl), (Nat.le_of_ble_eq_true rfl)⟩) ⟨ck_blind, va_recv hK hP (ci := 4) (q0 := 0) rfl rfl, (ck_pre hG hP hD hS [0] rfl (by decide) _)⟩ rfl rfl hl.1 rfl (lv_room (Nat.le_of_ble_eq_true rfl)) dX4_cookie_52 ⟨(Nat.le_of_ble_eq_true rfl), (Nat.le_of_ble_eq_true rfl)⟩) hP hD hS hA [0] [] rfl rfl (by decide) (by decide) (fun r_2 u H locs hw_2 hP hD hS => ?_)
            obtain ⟨u0_2, u1_2, u2_2, u3_2⟩ := u
            have hw_2 : r_2 = ck_mck k l0 aa bb num kd sl := hw_2
            have hP : va_P (dC, dI) vwCl [(mo, .inr (4, [.int 0, .int zs, .int rq, .long k, .long l0, .int ti, .int ct, .int (nI n), .ref d1, .ref d2, .ref d3, .ref d4, .ref d5, .ref d6, .int (nI kc), .ref e1, .ref e2, .ref e3, .ref e4, .ref e5, .long u0_2, .long u1_2, .long u2_2, .long u3_2]))] H := hP
            have hD : va_D A [(mo, .inr (4, [.int 0, .int zs, .int rq, .long k, .long l0, .int ti, .int ct, .int (nI n), .ref d1, .ref d2, .ref d3, .ref d4, .ref d5, .ref d6, .int (nI kc), .ref e1, .ref e2, .ref e3, .ref e4, .ref e5, .long u0_2, .long u1_2, .long u2_2, .long u3_2]))] := hD
            subst hw_2
            refine lv_i2l hx hb dX4_cookie_55 rfl ?_
            refine lv_ldc2 hx hb hown (hts _ k_X4_cookie_c103) dX4_cookie_56 ?_
            refine lv_land hx hb dX4_cookie_59 ?_
            refine ck_lr hx hb hr hlocks (Nat.le_of_ble_eq_true rfl) (Nat.le_of_ble_eq_true rfl) dX4_cookie_60 (u0_2, u1_2, u2_2, u3_2) hP hD hS ?_
            exact rfl
          · skip
            exact absurd c_37 (by decide)
        · skip
          exact absurd hs1 c_22
set_option maxHeartbeats 4000000 in
set_option maxRecDepth 100000 in
theorem b_X4_cookie (l : Launch) (dC : Nat → ClassId) (dI : Nat → Nat → Nat) (cI cJ cZ : ClassId) (lo sz : Nat) (mo : Nat) (th zs rq : Int32) (k l0 : Int64) (ti ct : Int32) (n : Nat) (d1 d2 d3 d4 d5 d6 : Nat) (kc : Nat) (e1 e2 e3 e4 e5 : Nat) (v0 v1 v2 v3 : Int64) (aa bb num kd sl : Int32) (hbad : ¬ ((0 ≤ bb ∧ bb ≤ 65535) ∧ (0 ≤ kd ∧ kd ≤ 7) ∧ 0 ≤ sl)) : Met l yX4_cookie wsX4_cookie ({ frames := 1, cells := 0, slots := 0, locals := 20 } : Room) (va_Pc [.ref mo, .int aa, .int bb, .int num, .int kd, .int sl] (ck_P (dC, dI) [(cI, .int), (cJ, .long), (cZ, .boolean)] lo sz [(mo, .inr (4, [.int th, .int zs, .int rq, .long k, .long l0, .int ti, .int ct, .int (nI n), .ref d1, .ref d2, .ref d3, .ref d4, .ref d5, .ref d6, .int (nI kc), .ref e1, .ref e2, .ref e3, .ref e4, .ref e5, .long v0, .long v1, .long v2, .long v3]))])) (va_Ql (fun (r : Int64) (u : Unit) => True) (fun u => ck_B (dC, dI) vwCl (va_A [(mo, .inr (4, [.int th, .int zs, .int rq, .long k, .long l0, .int ti, .int ct, .int (nI n), .ref d1, .ref d2, .ref d3, .ref d4, .ref d5, .ref d6, .int (nI kc), .ref e1, .ref e2, .ref e3, .ref e4, .ref e5, .long v0, .long v1, .long v2, .long v3]))] sz) ((fun u : Unit => ([(mo, .inr (4, [.int 1, .int zs, .int rq, .long k, .long l0, .int ti, .int ct, .int (nI n), .ref d1, .ref d2, .ref d3, .ref d4, .ref d5, .ref d6, .int (nI kc), .ref e1, .ref e2, .ref e3, .ref e4, .ref e5, .long v0, .long v1, .long v2, .long v3]))] : va_W)) u)) (va_A [(mo, .inr (4, [.int th, .int zs, .int rq, .long k, .long l0, .int ti, .int ct, .int (nI n), .ref d1, .ref d2, .ref d3, .ref d4, .ref d5, .ref d6, .int (nI kc), .ref e1, .ref e2, .ref e3, .ref e4, .ref e5, .long v0, .long v1, .long v2, .long v3]))] sz)) 0 0 (va_A [(mo, .inr (4, [.int th, .int zs, .int rq, .long k, .long l0, .int ti, .int ct, .int (nI n), .ref d1, .ref d2, .ref d3, .ref d4, .ref d5, .ref d6, .int (nI kc), .ref e1, .ref e2, .ref e3, .ref e4, .ref e5, .long v0, .long v1, .long v2, .long v3]))] sz) := by
  refine Met.ofW (cc := cX4_cookie) (maxL := 6) (ret := (some .long)) (by decide) rfl ?_
  intro p e s m args below meth c s₁ B hml hv
  obtain ⟨rfl, hsz, hP, hK, hD0, hE⟩ := hv
  have hx := B.exec
  have hb := B.bytes
  have hr := B.returns
  have hts := atoms_spec (ws := wsX4_cookie) B.pre
  have hown : s.vm.findClass RX4 = some m.cls := findClass_of_methodNamed B.named
  have hlocks := B.notSynchronized
  subst hsz
  have hD := hD0.self (sz := s.heap.size)
  have hlo := ck_lo (sz := s.heap.size) hD0 hE.1
  generalize hAe : va_A [(mo, .inr (4, [.int th, .int zs, .int rq, .long k, .long l0, .int ti, .int ct, .int (nI n), .ref d1, .ref d2, .ref d3, .ref d4, .ref d5, .ref d6, .int (nI kc), .ref e1, .ref e2, .ref e3, .ref e4, .ref e5, .long v0, .long v1, .long v2, .long v3]))] s.heap.size = A at hD hlo ⊢
  have hA : ∀ q : Nat, s.heap.size ≤ q → A q := fun q h => by rw [← hAe]; exact Or.inr h
  have hG : ck_G (dC, dI) [(cI, .int), (cJ, .long), (cZ, .boolean)] lo A s := ⟨hK, hE, hA, hlo⟩
  have hS : va_S A s.heap s.heap [] := va_S.rf
  have hP : va_P (dC, dI) vwCl [(mo, .inr (4, [.int th, .int zs, .int rq, .long k, .long l0, .int ti, .int ct, .int (nI n), .ref d1, .ref d2, .ref d3, .ref d4, .ref d5, .ref d6, .int (nI kc), .ref e1, .ref e2, .ref e3, .ref e4, .ref e5, .long v0, .long v1, .long v2, .long v3]))] s.heap := hP
  have hl := lv_entry ([.ref mo, .int aa, .int bb, .int num, .int kd, .int sl]) (n := 6) (Nat.le_of_ble_eq_true rfl)
  rw [lg_entry_eq]
  generalize (lg_sl ([.ref mo, .int aa, .int bb, .int num, .int kd, .int sl]) ++ List.replicate (6 - (lg_sl ([.ref mo, .int aa, .int bb, .int num, .int kd, .int sl])).length) Slot.unset).toArray = ls at hl ⊢
  have hl : lv_has ls 6 [(0, .ref mo), (1, .int aa), (2, .int bb), (3, .int num), (4, .int kd), (5, .int sl)] := hl
  refine lv_aload_n hx hb dX4_cookie_0 rfl (lv_at hl 0 rfl) ?_
  refine lv_iload_n hx hb dX4_cookie_1 rfl (lv_at hl 2 rfl) ?_
  refine ck_ri (va_runS (As := [.int bb]) (rest := [.ref mo]) ⟨hx, hb, hml, hown, hts⟩ (c_X4_noPort l dC dI cI cJ cZ lo _ bb) (va_cwS 1 hts gX4_cookie_X4_noPort rfl rfl rfl (by decide +kernel) ⟨(Nat.le_of_ble_eq_true rfl), (Nat.le_of_ble_eq_true rfl)⟩) ⟨ck_blind, (ck_pre hG hP hD hS [] rfl (by decide) _)⟩ rfl rfl hl.1 rfl (lv_room (Nat.le_of_ble_eq_true rfl)) dX4_cookie_2 ⟨(Nat.le_of_ble_eq_true rfl), (Nat.le_of_ble_eq_true rfl)⟩) (fun r_1 hw_1 => ?_)
  have hw_1 : (r_1 = 1 ∧ ¬ (0 ≤ bb ∧ bb ≤ 65535)) ∨ (r_1 = 0 ∧ (0 ≤ bb ∧ bb ≤ 65535)) := hw_1
  refine lv_if_ne (tgt := 25) hx hb dX4_cookie_5 (by decide) (fun c_5 => ?_) (fun c_5 => ?_)
  · skip
    refine lv_iconst (v := 1) hx hb dX4_cookie_25 (by decide) ?_
    refine lv_goto (tgt := 30) hx hb dX4_cookie_26 (by decide) ?_
    refine va_put (D := (dC, dI)) (ci := 4) (v := .int 1) (ty := .int) (C := RX4) (T := TX4) (N := 24) hx hb hts (k_X4_cookie_in4) tyX4 tyX4_ok nmX4 hown hK hP hD hS 0 rfl rfl 0 (by decide) (hts _ k_X4_cookie_f54) (fun _ h9 => h9) rfl (by decide +kernel) rfl rfl (Nat.le_of_ble_eq_true rfl) dX4_cookie_30 (fun H locs hP hD hS => ?_)
    have hP : va_P (dC, dI) vwCl [(mo, .inr (4, [.int 1, .int zs, .int rq, .long k, .long l0, .int ti, .int ct, .int (nI n), .ref d1, .ref d2, .ref d3, .ref d4, .ref d5, .ref d6, .int (nI kc), .ref e1, .ref e2, .ref e3, .ref e4, .ref e5, .long v0, .long v1, .long v2, .long v3]))] H := hP
    have hD : va_D A [(mo, .inr (4, [.int 1, .int zs, .int rq, .long k, .long l0, .int ti, .int ct, .int (nI n), .ref d1, .ref d2, .ref d3, .ref d4, .ref d5, .ref d6, .int (nI kc), .ref e1, .ref e2, .ref e3, .ref e4, .ref e5, .long v0, .long v1, .long v2, .long v3]))] := hD
    refine lv_aload_n hx hb dX4_cookie_33 rfl (lv_at hl 0 rfl) ?_
    refine va_get (D := (dC, dI)) (ci := 4) (v := .int 1) (C := RX4) (T := TX4) (N := 24) hx hb hts (k_X4_cookie_in4) hown hK hP 0 rfl rfl 0 (by decide) (hts _ k_X4_cookie_f54) (fun _ h9 => h9) rfl dX4_cookie_34 ?_
    refine lv_if_le (tgt := 44) hx hb dX4_cookie_37 (by decide) (fun c_37 => ?_) (fun c_37 => ?_)
    · skip
      exact absurd c_37 (by decide)
    · skip
      refine lv_lconst (v := 0) hx hb dX4_cookie_40 (by decide) ?_
      refine lv_goto (tgt := 60) hx hb dX4_cookie_41 (by decide) ?_
      subst_vars
      refine ck_lr hx hb hr hlocks (Nat.le_of_ble_eq_true rfl) (Nat.le_of_ble_eq_true rfl) dX4_cookie_60 () hP hD hS ?_
      exact trivial
  · skip
    refine lv_iload hx hb dX4_cookie_8 (lv_at hl 4 rfl) ?_
    refine lv_if_lt (tgt := 25) hx hb dX4_cookie_10 (by decide) (fun c_10 => ?_) (fun c_10 => ?_)
    · skip
      refine lv_iconst (v := 1) hx hb dX4_cookie_25 (by decide) ?_
      refine lv_goto (tgt := 30) hx hb dX4_cookie_26 (by decide) ?_
      refine va_put (D := (dC, dI)) (ci := 4) (v := .int 1) (ty := .int) (C := RX4) (T := TX4) (N := 24) hx hb hts (k_X4_cookie_in4) tyX4 tyX4_ok nmX4 hown hK hP hD hS 0 rfl rfl 0 (by decide) (hts _ k_X4_cookie_f54) (fun _ h9 => h9) rfl (by decide +kernel) rfl rfl (Nat.le_of_ble_eq_true rfl) dX4_cookie_30 (fun H locs hP hD hS => ?_)
      have hP : va_P (dC, dI) vwCl [(mo, .inr (4, [.int 1, .int zs, .int rq, .long k, .long l0, .int ti, .int ct, .int (nI n), .ref d1, .ref d2, .ref d3, .ref d4, .ref d5, .ref d6, .int (nI kc), .ref e1, .ref e2, .ref e3, .ref e4, .ref e5, .long v0, .long v1, .long v2, .long v3]))] H := hP
      have hD : va_D A [(mo, .inr (4, [.int 1, .int zs, .int rq, .long k, .long l0, .int ti, .int ct, .int (nI n), .ref d1, .ref d2, .ref d3, .ref d4, .ref d5, .ref d6, .int (nI kc), .ref e1, .ref e2, .ref e3, .ref e4, .ref e5, .long v0, .long v1, .long v2, .long v3]))] := hD
      refine lv_aload_n hx hb dX4_cookie_33 rfl (lv_at hl 0 rfl) ?_
      refine va_get (D := (dC, dI)) (ci := 4) (v := .int 1) (C := RX4) (T := TX4) (N := 24) hx hb hts (k_X4_cookie_in4) hown hK hP 0 rfl rfl 0 (by decide) (hts _ k_X4_cookie_f54) (fun _ h9 => h9) rfl dX4_cookie_34 ?_
      refine lv_if_le (tgt := 44) hx hb dX4_cookie_37 (by decide) (fun c_37 => ?_) (fun c_37 => ?_)
      · skip
        exact absurd c_37 (by decide)
      · skip
        refine lv_lconst (v := 0) hx hb dX4_cookie_40 (by decide) ?_
        refine lv_goto (tgt := 60) hx hb dX4_cookie_41 (by decide) ?_
        subst_vars
        refine ck_lr hx hb hr hlocks (Nat.le_of_ble_eq_true rfl) (Nat.le_of_ble_eq_true rfl) dX4_cookie_60 () hP hD hS ?_
        exact trivial
    · skip
      refine lv_iload hx hb dX4_cookie_13 (lv_at hl 4 rfl) ?_
      refine lv_bipush (v := 7) hx hb dX4_cookie_15 (by decide) ?_
      refine lv_icmp_gt (tgt := 25) hx hb dX4_cookie_17 (by decide) (fun c_17 => ?_) (fun c_17 => ?_)
      · skip
        refine lv_iconst (v := 1) hx hb dX4_cookie_25 (by decide) ?_
        refine lv_goto (tgt := 30) hx hb dX4_cookie_26 (by decide) ?_
        refine va_put (D := (dC, dI)) (ci := 4) (v := .int 1) (ty := .int) (C := RX4) (T := TX4) (N := 24) hx hb hts (k_X4_cookie_in4) tyX4 tyX4_ok nmX4 hown hK hP hD hS 0 rfl rfl 0 (by decide) (hts _ k_X4_cookie_f54) (fun _ h9 => h9) rfl (by decide +kernel) rfl rfl (Nat.le_of_ble_eq_true rfl) dX4_cookie_30 (fun H locs hP hD hS => ?_)
        have hP : va_P (dC, dI) vwCl [(mo, .inr (4, [.int 1, .int zs, .int rq, .long k, .long l0, .int ti, .int ct, .int (nI n), .ref d1, .ref d2, .ref d3, .ref d4, .ref d5, .ref d6, .int (nI kc), .ref e1, .ref e2, .ref e3, .ref e4, .ref e5, .long v0, .long v1, .long v2, .long v3]))] H := hP
        have hD : va_D A [(mo, .inr (4, [.int 1, .int zs, .int rq, .long k, .long l0, .int ti, .int ct, .int (nI n), .ref d1, .ref d2, .ref d3, .ref d4, .ref d5, .ref d6, .int (nI kc), .ref e1, .ref e2, .ref e3, .ref e4, .ref e5, .long v0, .long v1, .long v2, .long v3]))] := hD
        refine lv_aload_n hx hb dX4_cookie_33 rfl (lv_at hl 0 rfl) ?_
        refine va_get (D := (dC, dI)) (ci := 4) (v := .int 1) (C := RX4) (T := TX4) (N := 24) hx hb hts (k_X4_cookie_in4) hown hK hP 0 rfl rfl 0 (by decide) (hts _ k_X4_cookie_f54) (fun _ h9 => h9) rfl dX4_cookie_34 ?_
        refine lv_if_le (tgt := 44) hx hb dX4_cookie_37 (by decide) (fun c_37 => ?_) (fun c_37 => ?_)
        · skip
          exact absurd c_37 (by decide)
        · skip
          refine lv_lconst (v := 0) hx hb dX4_cookie_40 (by decide) ?_
          refine lv_goto (tgt := 60) hx hb dX4_cookie_41 (by decide) ?_
          subst_vars
          refine ck_lr hx hb hr hlocks (Nat.le_of_ble_eq_true rfl) (Nat.le_of_ble_eq_true rfl) dX4_cookie_60 () hP hD hS ?_
          exact trivial
      · skip
        refine lv_iload hx hb dX4_cookie_20 (lv_at hl 5 rfl) ?_
        refine lv_if_ge (tgt := 29) hx hb dX4_cookie_22 (by decide) (fun c_22 => ?_) (fun c_22 => ?_)
        · skip
          exact absurd ⟨(hw_1.resolve_left (fun z => absurd (z.1.symm.trans c_5) (by decide))).2, ⟨Int32.not_lt.mp c_10, Int32.not_lt.mp c_17⟩, c_22⟩ hbad
        · skip
          refine lv_iconst (v := 1) hx hb dX4_cookie_25 (by decide) ?_
          refine lv_goto (tgt := 30) hx hb dX4_cookie_26 (by decide) ?_
          refine va_put (D := (dC, dI)) (ci := 4) (v := .int 1) (ty := .int) (C := RX4) (T := TX4) (N := 24) hx hb hts (k_X4_cookie_in4) tyX4 tyX4_ok nmX4 hown hK hP hD hS 0 rfl rfl 0 (by decide) (hts _ k_X4_cookie_f54) (fun _ h9 => h9) rfl (by decide +kernel) rfl rfl (Nat.le_of_ble_eq_true rfl) dX4_cookie_30 (fun H locs hP hD hS => ?_)
          have hP : va_P (dC, dI) vwCl [(mo, .inr (4, [.int 1, .int zs, .int rq, .long k, .long l0, .int ti, .int ct, .int (nI n), .ref d1, .ref d2, .ref d3, .ref d4, .ref d5, .ref d6, .int (nI kc), .ref e1, .ref e2, .ref e3, .ref e4, .ref e5, .long v0, .long v1, .long v2, .long v3]))] H := hP
          have hD : va_D A [(mo, .inr (4, [.int 1, .int zs, .int rq, .long k, .long l0, .int ti, .int ct, .int (nI n), .ref d1, .ref d2, .ref d3, .ref d4, .ref d5, .ref d6, .int (nI kc), .ref e1, .ref e2, .ref e3, .ref e4, .ref e5, .long v0, .long v1, .long v2, .long v3]))] := hD
          refine lv_aload_n hx hb dX4_cookie_33 rfl (lv_at hl 0 rfl) ?_
          refine va_get (D := (dC, dI)) (ci := 4) (v := .int 1) (C := RX4) (T := TX4) (N := 24) hx hb hts (k_X4_cookie_in4) hown hK hP 0 rfl rfl 0 (by decide) (hts _ k_X4_cookie_f54) (fun _ h9 => h9) rfl dX4_cookie_34 ?_
          refine lv_if_le (tgt := 44) hx hb dX4_cookie_37 (by decide) (fun c_37 => ?_) (fun c_37 => ?_)
          · skip
            exact absurd c_37 (by decide)
          · skip
            refine lv_lconst (v := 0) hx hb dX4_cookie_40 (by decide) ?_
            refine lv_goto (tgt := 60) hx hb dX4_cookie_41 (by decide) ?_
            subst_vars
            refine ck_lr hx hb hr hlocks (Nat.le_of_ble_eq_true rfl) (Nat.le_of_ble_eq_true rfl) dX4_cookie_60 () hP hD hS ?_
            exact trivial
set_option maxRecDepth 20000 in
theorem k_X4_told_f54 : (.fieldLink RX4 54 "CookieListenerModel" "thrown" "I" : Cond) ∈ wsX4_told := by decide +kernel
set_option maxRecDepth 20000 in
theorem k_X4_told_in4 : ∀ w ∈ u_ws RX4 TX4 24, w ∈ wsX4_told := by decide +kernel
set_option maxRecDepth 20000 in
theorem k_X4_told_f120 : (.fieldLink RX4 120 "CookieListenerModel" "halves" "I" : Cond) ∈ wsX4_told := by decide +kernel
set_option maxRecDepth 20000 in
theorem k_X4_told_f123 : (.fieldLink RX4 123 "CookieListenerModel" "open" "I" : Cond) ∈ wsX4_told := by decide +kernel
set_option maxRecDepth 20000 in
theorem k_X4_told_f51 : (.fieldLink RX4 51 "CookieListenerModel" "counts" "[I" : Cond) ∈ wsX4_told := by decide +kernel
set_option maxRecDepth 20000 in
theorem k_X4_told_f130 : (.fieldLink RX4 130 "CookieListenerModel" "time" "I" : Cond) ∈ wsX4_told := by decide +kernel
set_option maxHeartbeats 4000000 in
set_option maxRecDepth 100000 in
theorem c_X4_told (l : Launch) (dC : Nat → ClassId) (dI : Nat → Nat → Nat) (cI cJ cZ : ClassId) (lo sz : Nat) (mo : Nat) (th zs rq : Int32) (k l0 : Int64) (ti ct : Int32) (n : Nat) (d1 d2 d3 d4 d5 d6 : Nat) (kc : Nat) (e1 e2 e3 e4 e5 : Nat) (v0 v1 v2 v3 : Int64) (t4 cs : Nat → Int32) (w : Nat) (hw8 : w < 8) (hn : n ≤ 32) (hk : kc ≤ 64) : Met l yX4_told wsX4_told ({ frames := 1, cells := 0, slots := 0, locals := 24 } : Room) (va_Pc [.ref mo, .int (nI w)] (ck_P (dC, dI) [(cI, .int), (cJ, .long), (cZ, .boolean)] lo sz [(mo, .inr (4, [.int th, .int zs, .int rq, .long k, .long l0, .int ti, .int ct, .int (nI n), .ref d1, .ref d2, .ref d3, .ref d4, .ref d5, .ref d6, .int (nI kc), .ref e1, .ref e2, .ref e3, .ref e4, .ref e5, .long v0, .long v1, .long v2, .long v3])), (e4, .inl (cZ, 64, .inl t4)), (e5, .inl (cI, 4, .inl cs))])) (va_Qi (fun (r : Int32) (u : Unit) => r = ck_tld w n (ck_cnt kc t4) kc (cs 0) (cs 1) (cs 2) (cs 3) ti) (fun u => ck_B (dC, dI) vwCl (va_A [(mo, .inr (4, [.int th, .int zs, .int rq, .long k, .long l0, .int ti, .int ct, .int (nI n), .ref d1, .ref d2, .ref d3, .ref d4, .ref d5, .ref d6, .int (nI kc), .ref e1, .ref e2, .ref e3, .ref e4, .ref e5, .long v0, .long v1, .long v2, .long v3])), (e4, .inl (cZ, 64, .inl t4)), (e5, .inl (cI, 4, .inl cs))] sz) ((fun u : Unit => ([(mo, .inr (4, [.int 0, .int zs, .int rq, .long k, .long l0, .int ti, .int ct, .int (nI n), .ref d1, .ref d2, .ref d3, .ref d4, .ref d5, .ref d6, .int (nI kc), .ref e1, .ref e2, .ref e3, .ref e4, .ref e5, .long v0, .long v1, .long v2, .long v3])), (e4, .inl (cZ, 64, .inl t4)), (e5, .inl (cI, 4, .inl cs))] : va_W)) u)) (va_A [(mo, .inr (4, [.int th, .int zs, .int rq, .long k, .long l0, .int ti, .int ct, .int (nI n), .ref d1, .ref d2, .ref d3, .ref d4, .ref d5, .ref d6, .int (nI kc), .ref e1, .ref e2, .ref e3, .ref e4, .ref e5, .long v0, .long v1, .long v2, .long v3])), (e4, .inl (cZ, 64, .inl t4)), (e5, .inl (cI, 4, .inl cs))] sz)) 0 0 (va_A [(mo, .inr (4, [.int th, .int zs, .int rq, .long k, .long l0, .int ti, .int ct, .int (nI n), .ref d1, .ref d2, .ref d3, .ref d4, .ref d5, .ref d6, .int (nI kc), .ref e1, .ref e2, .ref e3, .ref e4, .ref e5, .long v0, .long v1, .long v2, .long v3])), (e4, .inl (cZ, 64, .inl t4)), (e5, .inl (cI, 4, .inl cs))] sz) := by
  refine Met.ofW (cc := cX4_told) (maxL := 2) (ret := (some .int)) (by decide) rfl ?_
  intro p e s m args below meth c s₁ B hml hv
  obtain ⟨rfl, hsz, hP, hK, hD0, hE⟩ := hv
  have hx := B.exec
  have hb := B.bytes
  have hr := B.returns
  have hts := atoms_spec (ws := wsX4_told) B.pre
  have hown : s.vm.findClass RX4 = some m.cls := findClass_of_methodNamed B.named
  have hlocks := B.notSynchronized
  subst hsz
  have hD := hD0.self (sz := s.heap.size)
  have hlo := ck_lo (sz := s.heap.size) hD0 hE.1
  generalize hAe : va_A [(mo, .inr (4, [.int th, .int zs, .int rq, .long k, .long l0, .int ti, .int ct, .int (nI n), .ref d1, .ref d2, .ref d3, .ref d4, .ref d5, .ref d6, .int (nI kc), .ref e1, .ref e2, .ref e3, .ref e4, .ref e5, .long v0, .long v1, .long v2, .long v3])), (e4, .inl (cZ, 64, .inl t4)), (e5, .inl (cI, 4, .inl cs))] s.heap.size = A at hD hlo ⊢
  have hA : ∀ q : Nat, s.heap.size ≤ q → A q := fun q h => by rw [← hAe]; exact Or.inr h
  have hG : ck_G (dC, dI) [(cI, .int), (cJ, .long), (cZ, .boolean)] lo A s := ⟨hK, hE, hA, hlo⟩
  have hS : va_S A s.heap s.heap [] := va_S.rf
  have hP : va_P (dC, dI) vwCl [(mo, .inr (4, [.int th, .int zs, .int rq, .long k, .long l0, .int ti, .int ct, .int (nI n), .ref d1, .ref d2, .ref d3, .ref d4, .ref d5, .ref d6, .int (nI kc), .ref e1, .ref e2, .ref e3, .ref e4, .ref e5, .long v0, .long v1, .long v2, .long v3])), (e4, .inl (cZ, 64, .inl t4)), (e5, .inl (cI, 4, .inl cs))] s.heap := hP
  have hl := lv_entry ([.ref mo, .int (nI w)]) (n := 2) (Nat.le_of_ble_eq_true rfl)
  rw [lg_entry_eq]
  generalize (lg_sl ([.ref mo, .int (nI w)]) ++ List.replicate (2 - (lg_sl ([.ref mo, .int (nI w)])).length) Slot.unset).toArray = ls at hl ⊢
  have hl : lv_has ls 2 [(0, .ref mo), (1, .int (nI w))] := hl
  refine lv_aload_n hx hb dX4_told_0 rfl (lv_at hl 0 rfl) ?_
  refine lv_iload_n hx hb dX4_told_1 rfl (lv_at hl 1 rfl) ?_
  refine lv_if_lt (tgt := 11) hx hb dX4_told_2 (by decide) (fun c_2 => ?_) (fun c_2 => ?_)
  · skip
    exact absurd c_2 (nI_pos (by omega))
  · skip
    refine lv_iload_n hx hb dX4_told_5 rfl (lv_at hl 1 rfl) ?_
    refine lv_bipush (v := nI 7) hx hb dX4_told_6 (by decide) ?_
    refine lv_icmp_le (tgt := 15) hx hb dX4_told_8 (by decide) (fun c_8 => ?_) (fun c_8 => ?_)
    · skip
      have c_8 : w ≤ 7 := (nI_leI (by omega) (by omega)).mp c_8
      refine lv_iconst (v := 0) hx hb dX4_told_15 (by decide) ?_
      refine va_put (D := (dC, dI)) (ci := 4) (v := .int 0) (ty := .int) (C := RX4) (T := TX4) (N := 24) hx hb hts (k_X4_told_in4) tyX4 tyX4_ok nmX4 hown hK hP hD hS 0 rfl rfl 0 (by decide) (hts _ k_X4_told_f54) (fun _ h9 => h9) rfl (by decide +kernel) rfl rfl (Nat.le_of_ble_eq_true rfl) dX4_told_16 (fun H locs hP hD hS => ?_)
      have hP : va_P (dC, dI) vwCl [(mo, .inr (4, [.int 0, .int zs, .int rq, .long k, .long l0, .int ti, .int ct, .int (nI n), .ref d1, .ref d2, .ref d3, .ref d4, .ref d5, .ref d6, .int (nI kc), .ref e1, .ref e2, .ref e3, .ref e4, .ref e5, .long v0, .long v1, .long v2, .long v3])), (e4, .inl (cZ, 64, .inl t4)), (e5, .inl (cI, 4, .inl cs))] H := hP
      have hD : va_D A [(mo, .inr (4, [.int 0, .int zs, .int rq, .long k, .long l0, .int ti, .int ct, .int (nI n), .ref d1, .ref d2, .ref d3, .ref d4, .ref d5, .ref d6, .int (nI kc), .ref e1, .ref e2, .ref e3, .ref e4, .ref e5, .long v0, .long v1, .long v2, .long v3])), (e4, .inl (cZ, 64, .inl t4)), (e5, .inl (cI, 4, .inl cs))] := hD
      refine lv_aload_n hx hb dX4_told_19 rfl (lv_at hl 0 rfl) ?_
      refine va_get (D := (dC, dI)) (ci := 4) (v := .int 0) (C := RX4) (T := TX4) (N := 24) hx hb hts (k_X4_told_in4) hown hK hP 0 rfl rfl 0 (by decide) (hts _ k_X4_told_f54) (fun _ h9 => h9) rfl dX4_told_20 ?_
      refine lv_if_le (tgt := 28) hx hb dX4_told_23 (by decide) (fun c_23 => ?_) (fun c_23 => ?_)
      · skip
        rcases (show w = 0 ∨ w = 1 ∨ w = 2 ∨ w = 3 ∨ w = 4 ∨ w = 5 ∨ w = 6 ∨ w = 7 by omega) with rfl | rfl | rfl | rfl | rfl | rfl | rfl | rfl
        · skip
          refine lv_iload_n hx hb dX4_told_28 rfl (lv_at hl 1 rfl) ?_
          refine lv_if_ne (tgt := 39) hx hb dX4_told_29 (by decide) (fun c_29 => ?_) (fun c_29 => ?_)
          · skip
            exact absurd c_29 (by decide)
          · skip
            refine lv_aload_n hx hb dX4_told_32 rfl (lv_at hl 0 rfl) ?_
            refine va_get (D := (dC, dI)) (ci := 4) (v := .int (nI n)) (C := RX4) (T := TX4) (N := 24) hx hb hts (k_X4_told_in4) hown hK hP 0 rfl rfl 7 (by decide) (hts _ k_X4_told_f120) (fun _ h9 => h9) rfl dX4_told_33 ?_
            refine lv_goto (tgt := 84) hx hb dX4_told_36 (by decide) ?_
            subst_vars
            refine ck_ir hx hb hr hlocks (Nat.le_of_ble_eq_true rfl) (Nat.le_of_ble_eq_true rfl) dX4_told_84 () hP hD hS ?_
            first | rfl | (subst_vars; rfl)
        · skip
          refine lv_iload_n hx hb dX4_told_28 rfl (lv_at hl 1 rfl) ?_
          refine lv_if_ne (tgt := 39) hx hb dX4_told_29 (by decide) (fun c_29 => ?_) (fun c_29 => ?_)
          · skip
            refine lv_iload_n hx hb dX4_told_39 rfl (lv_at hl 1 rfl) ?_
            refine lv_iconst (v := nI 1) hx hb dX4_told_40 (by decide) ?_
            refine lv_icmp_ne (tgt := 51) hx hb dX4_told_41 (by decide) (fun c_41 => ?_) (fun c_41 => ?_)
            · skip
              have c_41 : ¬ (1 = 1) := fun z => c_41 ((nI_eq (by omega) (by omega)).mpr z)
              omega
            · skip
              have c_41 : 1 = 1 := (nI_eq (by omega) (by omega)).mp c_41
              refine lv_aload_n hx hb dX4_told_44 rfl (lv_at hl 0 rfl) ?_
              refine ck_ri (va_runV (As := []) (rest := []) ⟨hx, hb, hml, hown, hts⟩ (c_X4_waiting l dC dI cI cJ cZ lo _ mo 0 zs rq k l0 ti ct n d1 d2 d3 d4 d5 d6 kc e1 e2 e3 e4 e5 v0 v1 v2 v3 t4 (by first | assumption | omega)) (cwV 0 hts gX4_told_X4_waiting rfl rfl rfl (by decide +kernel) ⟨(Nat.le_of_ble_eq_true rfl), (Nat.le_of_ble_eq_true rfl)⟩) ⟨ck_blind, va_recv hK hP (ci := 4) (q0 := 0) rfl rfl, (ck_pre hG hP hD hS [0, 1] rfl (by decide) _)⟩ rfl rfl hl.1 rfl (lv_room (Nat.le_of_ble_eq_true rfl)) dX4_told_45 ⟨(Nat.le_of_ble_eq_true rfl), (Nat.le_of_ble_eq_true rfl)⟩) (fun r_1 hw_1 => ?_)
              have hw_1 : r_1 = nI (ck_cnt kc t4) := hw_1
              subst hw_1
              refine lv_goto (tgt := 84) hx hb dX4_told_48 (by decide) ?_
              subst_vars
              refine ck_ir hx hb hr hlocks (Nat.le_of_ble_eq_true rfl) (Nat.le_of_ble_eq_true rfl) dX4_told_84 () hP hD hS ?_
              first | rfl | (subst_vars; rfl)
          · skip
            exact absurd c_29 (by decide)
        · skip
          refine lv_iload_n hx hb dX4_told_28 rfl (lv_at hl 1 rfl) ?_
          refine lv_if_ne (tgt := 39) hx hb dX4_told_29 (by decide) (fun c_29 => ?_) (fun c_29 => ?_)
          · skip
            refine lv_iload_n hx hb dX4_told_39 rfl (lv_at hl 1 rfl) ?_
            refine lv_iconst (v := nI 1) hx hb dX4_told_40 (by decide) ?_
            refine lv_icmp_ne (tgt := 51) hx hb dX4_told_41 (by decide) (fun c_41 => ?_) (fun c_41 => ?_)
            · skip
              have c_41 : ¬ (2 = 1) := fun z => c_41 ((nI_eq (by omega) (by omega)).mpr z)
              refine lv_iload_n hx hb dX4_told_51 rfl (lv_at hl 1 rfl) ?_
              refine lv_iconst (v := nI 2) hx hb dX4_told_52 (by decide) ?_
              refine lv_icmp_ne (tgt := 63) hx hb dX4_told_53 (by decide) (fun c_53 => ?_) (fun c_53 => ?_)
              · skip
                have c_53 : ¬ (2 = 2) := fun z => c_53 ((nI_eq (by omega) (by omega)).mpr z)
                omega
              · skip
                have c_53 : 2 = 2 := (nI_eq (by omega) (by omega)).mp c_53
                refine lv_aload_n hx hb dX4_told_56 rfl (lv_at hl 0 rfl) ?_
                refine va_get (D := (dC, dI)) (ci := 4) (v := .int (nI kc)) (C := RX4) (T := TX4) (N := 24) hx hb hts (k_X4_told_in4) hown hK hP 0 rfl rfl 14 (by decide) (hts _ k_X4_told_f123) (fun _ h9 => h9) rfl dX4_told_57 ?_
                refine lv_goto (tgt := 84) hx hb dX4_told_60 (by decide) ?_
                subst_vars
                refine ck_ir hx hb hr hlocks (Nat.le_of_ble_eq_true rfl) (Nat.le_of_ble_eq_true rfl) dX4_told_84 () hP hD hS ?_
                first | rfl | (subst_vars; rfl)
            · skip
              have c_41 : 2 = 1 := (nI_eq (by omega) (by omega)).mp c_41
              omega
          · skip
            exact absurd c_29 (by decide)
        · skip
          refine lv_iload_n hx hb dX4_told_28 rfl (lv_at hl 1 rfl) ?_
          refine lv_if_ne (tgt := 39) hx hb dX4_told_29 (by decide) (fun c_29 => ?_) (fun c_29 => ?_)
          · skip
            refine lv_iload_n hx hb dX4_told_39 rfl (lv_at hl 1 rfl) ?_
            refine lv_iconst (v := nI 1) hx hb dX4_told_40 (by decide) ?_
            refine lv_icmp_ne (tgt := 51) hx hb dX4_told_41 (by decide) (fun c_41 => ?_) (fun c_41 => ?_)
            · skip
              have c_41 : ¬ (3 = 1) := fun z => c_41 ((nI_eq (by omega) (by omega)).mpr z)
              refine lv_iload_n hx hb dX4_told_51 rfl (lv_at hl 1 rfl) ?_
              refine lv_iconst (v := nI 2) hx hb dX4_told_52 (by decide) ?_
              refine lv_icmp_ne (tgt := 63) hx hb dX4_told_53 (by decide) (fun c_53 => ?_) (fun c_53 => ?_)
              · skip
                have c_53 : ¬ (3 = 2) := fun z => c_53 ((nI_eq (by omega) (by omega)).mpr z)
                refine lv_iload_n hx hb dX4_told_63 rfl (lv_at hl 1 rfl) ?_
                refine lv_bipush (v := nI 7) hx hb dX4_told_64 (by decide) ?_
                refine lv_icmp_ne (tgt := 76) hx hb dX4_told_66 (by decide) (fun c_66 => ?_) (fun c_66 => ?_)
                · skip
                  have c_66 : ¬ (3 = 7) := fun z => c_66 ((nI_eq (by omega) (by omega)).mpr z)
                  refine lv_aload_n hx hb dX4_told_76 rfl (lv_at hl 0 rfl) ?_
                  refine va_get (D := (dC, dI)) (ci := 4) (v := .ref e5) (C := RX4) (T := TX4) (N := 24) hx hb hts (k_X4_told_in4) hown hK hP 0 rfl rfl 19 (by decide) (hts _ k_X4_told_f51) (fun _ h9 => h9) rfl dX4_told_77 ?_
                  refine lv_iload_n hx hb dX4_told_80 rfl (lv_at hl 1 rfl) ?_
                  refine lv_iconst (v := nI 3) hx hb dX4_told_81 (by decide) ?_
                  refine lv_isub hx hb dX4_told_82 ?_
                  refine ck_toi (y := nI 0) (by decide) ?_
                  refine ck_iald hx hb hK hP 2 0 rfl rfl (by omega) (by decide) dX4_told_83 ?_
                  subst_vars
                  refine ck_ir hx hb hr hlocks (Nat.le_of_ble_eq_true rfl) (Nat.le_of_ble_eq_true rfl) dX4_told_84 () hP hD hS ?_
                  first | rfl | (subst_vars; rfl)
                · skip
                  have c_66 : 3 = 7 := (nI_eq (by omega) (by omega)).mp c_66
                  omega
              · skip
                have c_53 : 3 = 2 := (nI_eq (by omega) (by omega)).mp c_53
                omega
            · skip
              have c_41 : 3 = 1 := (nI_eq (by omega) (by omega)).mp c_41
              omega
          · skip
            exact absurd c_29 (by decide)
        · skip
          refine lv_iload_n hx hb dX4_told_28 rfl (lv_at hl 1 rfl) ?_
          refine lv_if_ne (tgt := 39) hx hb dX4_told_29 (by decide) (fun c_29 => ?_) (fun c_29 => ?_)
          · skip
            refine lv_iload_n hx hb dX4_told_39 rfl (lv_at hl 1 rfl) ?_
            refine lv_iconst (v := nI 1) hx hb dX4_told_40 (by decide) ?_
            refine lv_icmp_ne (tgt := 51) hx hb dX4_told_41 (by decide) (fun c_41 => ?_) (fun c_41 => ?_)
            · skip
              have c_41 : ¬ (4 = 1) := fun z => c_41 ((nI_eq (by omega) (by omega)).mpr z)
              refine lv_iload_n hx hb dX4_told_51 rfl (lv_at hl 1 rfl) ?_
              refine lv_iconst (v := nI 2) hx hb dX4_told_52 (by decide) ?_
              refine lv_icmp_ne (tgt := 63) hx hb dX4_told_53 (by decide) (fun c_53 => ?_) (fun c_53 => ?_)
              · skip
                have c_53 : ¬ (4 = 2) := fun z => c_53 ((nI_eq (by omega) (by omega)).mpr z)
                refine lv_iload_n hx hb dX4_told_63 rfl (lv_at hl 1 rfl) ?_
                refine lv_bipush (v := nI 7) hx hb dX4_told_64 (by decide) ?_
                refine lv_icmp_ne (tgt := 76) hx hb dX4_told_66 (by decide) (fun c_66 => ?_) (fun c_66 => ?_)
                · skip
                  have c_66 : ¬ (4 = 7) := fun z => c_66 ((nI_eq (by omega) (by omega)).mpr z)
                  refine lv_aload_n hx hb dX4_told_76 rfl (lv_at hl 0 rfl) ?_
                  refine va_get (D := (dC, dI)) (ci := 4) (v := .ref e5) (C := RX4) (T := TX4) (N := 24) hx hb hts (k_X4_told_in4) hown hK hP 0 rfl rfl 19 (by decide) (hts _ k_X4_told_f51) (fun _ h9 => h9) rfl dX4_told_77 ?_
                  refine lv_iload_n hx hb dX4_told_80 rfl (lv_at hl 1 rfl) ?_
                  refine lv_iconst (v := nI 3) hx hb dX4_told_81 (by decide) ?_
                  refine lv_isub hx hb dX4_told_82 ?_
                  refine ck_toi (y := nI 1) (by decide) ?_
                  refine ck_iald hx hb hK hP 2 0 rfl rfl (by omega) (by decide) dX4_told_83 ?_
                  subst_vars
                  refine ck_ir hx hb hr hlocks (Nat.le_of_ble_eq_true rfl) (Nat.le_of_ble_eq_true rfl) dX4_told_84 () hP hD hS ?_
                  first | rfl | (subst_vars; rfl)
                · skip
                  have c_66 : 4 = 7 := (nI_eq (by omega) (by omega)).mp c_66
                  omega
              · skip
                have c_53 : 4 = 2 := (nI_eq (by omega) (by omega)).mp c_53
                omega
            · skip
              have c_41 : 4 = 1 := (nI_eq (by omega) (by omega)).mp c_41
              omega
          · skip
            exact absurd c_29 (by decide)
        · skip
          refine lv_iload_n hx hb dX4_told_28 rfl (lv_at hl 1 rfl) ?_
          refine lv_if_ne (tgt := 39) hx hb dX4_told_29 (by decide) (fun c_29 => ?_) (fun c_29 => ?_)
          · skip
            refine lv_iload_n hx hb dX4_told_39 rfl (lv_at hl 1 rfl) ?_
            refine lv_iconst (v := nI 1) hx hb dX4_told_40 (by decide) ?_
            refine lv_icmp_ne (tgt := 51) hx hb dX4_told_41 (by decide) (fun c_41 => ?_) (fun c_41 => ?_)
            · skip
              have c_41 : ¬ (5 = 1) := fun z => c_41 ((nI_eq (by omega) (by omega)).mpr z)
              refine lv_iload_n hx hb dX4_told_51 rfl (lv_at hl 1 rfl) ?_
              refine lv_iconst (v := nI 2) hx hb dX4_told_52 (by decide) ?_
              refine lv_icmp_ne (tgt := 63) hx hb dX4_told_53 (by decide) (fun c_53 => ?_) (fun c_53 => ?_)
              · skip
                have c_53 : ¬ (5 = 2) := fun z => c_53 ((nI_eq (by omega) (by omega)).mpr z)
                refine lv_iload_n hx hb dX4_told_63 rfl (lv_at hl 1 rfl) ?_
                refine lv_bipush (v := nI 7) hx hb dX4_told_64 (by decide) ?_
                refine lv_icmp_ne (tgt := 76) hx hb dX4_told_66 (by decide) (fun c_66 => ?_) (fun c_66 => ?_)
                · skip
                  have c_66 : ¬ (5 = 7) := fun z => c_66 ((nI_eq (by omega) (by omega)).mpr z)
                  refine lv_aload_n hx hb dX4_told_76 rfl (lv_at hl 0 rfl) ?_
                  refine va_get (D := (dC, dI)) (ci := 4) (v := .ref e5) (C := RX4) (T := TX4) (N := 24) hx hb hts (k_X4_told_in4) hown hK hP 0 rfl rfl 19 (by decide) (hts _ k_X4_told_f51) (fun _ h9 => h9) rfl dX4_told_77 ?_
                  refine lv_iload_n hx hb dX4_told_80 rfl (lv_at hl 1 rfl) ?_
                  refine lv_iconst (v := nI 3) hx hb dX4_told_81 (by decide) ?_
                  refine lv_isub hx hb dX4_told_82 ?_
                  refine ck_toi (y := nI 2) (by decide) ?_
                  refine ck_iald hx hb hK hP 2 0 rfl rfl (by omega) (by decide) dX4_told_83 ?_
                  subst_vars
                  refine ck_ir hx hb hr hlocks (Nat.le_of_ble_eq_true rfl) (Nat.le_of_ble_eq_true rfl) dX4_told_84 () hP hD hS ?_
                  first | rfl | (subst_vars; rfl)
                · skip
                  have c_66 : 5 = 7 := (nI_eq (by omega) (by omega)).mp c_66
                  omega
              · skip
                have c_53 : 5 = 2 := (nI_eq (by omega) (by omega)).mp c_53
                omega
            · skip
              have c_41 : 5 = 1 := (nI_eq (by omega) (by omega)).mp c_41
              omega
          · skip
            exact absurd c_29 (by decide)
        · skip
          refine lv_iload_n hx hb dX4_told_28 rfl (lv_at hl 1 rfl) ?_
          refine lv_if_ne (tgt := 39) hx hb dX4_told_29 (by decide) (fun c_29 => ?_) (fun c_29 => ?_)
          · skip
            refine lv_iload_n hx hb dX4_told_39 rfl (lv_at hl 1 rfl) ?_
            refine lv_iconst (v := nI 1) hx hb dX4_told_40 (by decide) ?_
            refine lv_icmp_ne (tgt := 51) hx hb dX4_told_41 (by decide) (fun c_41 => ?_) (fun c_41 => ?_)
            · skip
              have c_41 : ¬ (6 = 1) := fun z => c_41 ((nI_eq (by omega) (by omega)).mpr z)
              refine lv_iload_n hx hb dX4_told_51 rfl (lv_at hl 1 rfl) ?_
              refine lv_iconst (v := nI 2) hx hb dX4_told_52 (by decide) ?_
              refine lv_icmp_ne (tgt := 63) hx hb dX4_told_53 (by decide) (fun c_53 => ?_) (fun c_53 => ?_)
              · skip
                have c_53 : ¬ (6 = 2) := fun z => c_53 ((nI_eq (by omega) (by omega)).mpr z)
                refine lv_iload_n hx hb dX4_told_63 rfl (lv_at hl 1 rfl) ?_
                refine lv_bipush (v := nI 7) hx hb dX4_told_64 (by decide) ?_
                refine lv_icmp_ne (tgt := 76) hx hb dX4_told_66 (by decide) (fun c_66 => ?_) (fun c_66 => ?_)
                · skip
                  have c_66 : ¬ (6 = 7) := fun z => c_66 ((nI_eq (by omega) (by omega)).mpr z)
                  refine lv_aload_n hx hb dX4_told_76 rfl (lv_at hl 0 rfl) ?_
                  refine va_get (D := (dC, dI)) (ci := 4) (v := .ref e5) (C := RX4) (T := TX4) (N := 24) hx hb hts (k_X4_told_in4) hown hK hP 0 rfl rfl 19 (by decide) (hts _ k_X4_told_f51) (fun _ h9 => h9) rfl dX4_told_77 ?_
                  refine lv_iload_n hx hb dX4_told_80 rfl (lv_at hl 1 rfl) ?_
                  refine lv_iconst (v := nI 3) hx hb dX4_told_81 (by decide) ?_
                  refine lv_isub hx hb dX4_told_82 ?_
                  refine ck_toi (y := nI 3) (by decide) ?_
                  refine ck_iald hx hb hK hP 2 0 rfl rfl (by omega) (by decide) dX4_told_83 ?_
                  subst_vars
                  refine ck_ir hx hb hr hlocks (Nat.le_of_ble_eq_true rfl) (Nat.le_of_ble_eq_true rfl) dX4_told_84 () hP hD hS ?_
                  first | rfl | (subst_vars; rfl)
                · skip
                  have c_66 : 6 = 7 := (nI_eq (by omega) (by omega)).mp c_66
                  omega
              · skip
                have c_53 : 6 = 2 := (nI_eq (by omega) (by omega)).mp c_53
                omega
            · skip
              have c_41 : 6 = 1 := (nI_eq (by omega) (by omega)).mp c_41
              omega
          · skip
            exact absurd c_29 (by decide)
        · skip
          refine lv_iload_n hx hb dX4_told_28 rfl (lv_at hl 1 rfl) ?_
          refine lv_if_ne (tgt := 39) hx hb dX4_told_29 (by decide) (fun c_29 => ?_) (fun c_29 => ?_)
          · skip
            refine lv_iload_n hx hb dX4_told_39 rfl (lv_at hl 1 rfl) ?_
            refine lv_iconst (v := nI 1) hx hb dX4_told_40 (by decide) ?_
            refine lv_icmp_ne (tgt := 51) hx hb dX4_told_41 (by decide) (fun c_41 => ?_) (fun c_41 => ?_)
            · skip
              have c_41 : ¬ (7 = 1) := fun z => c_41 ((nI_eq (by omega) (by omega)).mpr z)
              refine lv_iload_n hx hb dX4_told_51 rfl (lv_at hl 1 rfl) ?_
              refine lv_iconst (v := nI 2) hx hb dX4_told_52 (by decide) ?_
              refine lv_icmp_ne (tgt := 63) hx hb dX4_told_53 (by decide) (fun c_53 => ?_) (fun c_53 => ?_)
              · skip
                have c_53 : ¬ (7 = 2) := fun z => c_53 ((nI_eq (by omega) (by omega)).mpr z)
                refine lv_iload_n hx hb dX4_told_63 rfl (lv_at hl 1 rfl) ?_
                refine lv_bipush (v := nI 7) hx hb dX4_told_64 (by decide) ?_
                refine lv_icmp_ne (tgt := 76) hx hb dX4_told_66 (by decide) (fun c_66 => ?_) (fun c_66 => ?_)
                · skip
                  have c_66 : ¬ (7 = 7) := fun z => c_66 ((nI_eq (by omega) (by omega)).mpr z)
                  omega
                · skip
                  have c_66 : 7 = 7 := (nI_eq (by omega) (by omega)).mp c_66
                  refine lv_aload_n hx hb dX4_told_69 rfl (lv_at hl 0 rfl) ?_
                  refine va_get (D := (dC, dI)) (ci := 4) (v := .int ti) (C := RX4) (T := TX4) (N := 24) hx hb hts (k_X4_told_in4) hown hK hP 0 rfl rfl 5 (by decide) (hts _ k_X4_told_f130) (fun _ h9 => h9) rfl dX4_told_70 ?_
                  refine lv_goto (tgt := 84) hx hb dX4_told_73 (by decide) ?_
                  subst_vars
                  refine ck_ir hx hb hr hlocks (Nat.le_of_ble_eq_true rfl) (Nat.le_of_ble_eq_true rfl) dX4_told_84 () hP hD hS ?_
                  first | rfl | (subst_vars; rfl)
              · skip
                have c_53 : 7 = 2 := (nI_eq (by omega) (by omega)).mp c_53
                omega
            · skip
              have c_41 : 7 = 1 := (nI_eq (by omega) (by omega)).mp c_41
              omega
          · skip
            exact absurd c_29 (by decide)
      · skip
        exact absurd c_23 (by decide)
    · skip
      have c_8 : ¬ (w ≤ 7) := fun z => c_8 ((nI_leI (by omega) (by omega)).mpr z)
      omega
set_option maxHeartbeats 4000000 in
set_option maxRecDepth 100000 in
theorem b_X4_told (l : Launch) (dC : Nat → ClassId) (dI : Nat → Nat → Nat) (cI cJ cZ : ClassId) (lo sz : Nat) (mo : Nat) (th zs rq : Int32) (k l0 : Int64) (ti ct : Int32) (n : Nat) (d1 d2 d3 d4 d5 d6 : Nat) (kc : Nat) (e1 e2 e3 e4 e5 : Nat) (v0 v1 v2 v3 : Int64) (wh : Int32) (hbad : ¬ (0 ≤ wh ∧ wh ≤ 7)) : Met l yX4_told wsX4_told ({ frames := 0, cells := 0, slots := 0, locals := 0 } : Room) (va_Pc [.ref mo, .int wh] (ck_P (dC, dI) [(cI, .int), (cJ, .long), (cZ, .boolean)] lo sz [(mo, .inr (4, [.int th, .int zs, .int rq, .long k, .long l0, .int ti, .int ct, .int (nI n), .ref d1, .ref d2, .ref d3, .ref d4, .ref d5, .ref d6, .int (nI kc), .ref e1, .ref e2, .ref e3, .ref e4, .ref e5, .long v0, .long v1, .long v2, .long v3]))])) (va_Qi (fun (r : Int32) (u : Unit) => True) (fun u => ck_B (dC, dI) vwCl (va_A [(mo, .inr (4, [.int th, .int zs, .int rq, .long k, .long l0, .int ti, .int ct, .int (nI n), .ref d1, .ref d2, .ref d3, .ref d4, .ref d5, .ref d6, .int (nI kc), .ref e1, .ref e2, .ref e3, .ref e4, .ref e5, .long v0, .long v1, .long v2, .long v3]))] sz) ((fun u : Unit => ([(mo, .inr (4, [.int 1, .int zs, .int rq, .long k, .long l0, .int ti, .int ct, .int (nI n), .ref d1, .ref d2, .ref d3, .ref d4, .ref d5, .ref d6, .int (nI kc), .ref e1, .ref e2, .ref e3, .ref e4, .ref e5, .long v0, .long v1, .long v2, .long v3]))] : va_W)) u)) (va_A [(mo, .inr (4, [.int th, .int zs, .int rq, .long k, .long l0, .int ti, .int ct, .int (nI n), .ref d1, .ref d2, .ref d3, .ref d4, .ref d5, .ref d6, .int (nI kc), .ref e1, .ref e2, .ref e3, .ref e4, .ref e5, .long v0, .long v1, .long v2, .long v3]))] sz)) 0 0 (va_A [(mo, .inr (4, [.int th, .int zs, .int rq, .long k, .long l0, .int ti, .int ct, .int (nI n), .ref d1, .ref d2, .ref d3, .ref d4, .ref d5, .ref d6, .int (nI kc), .ref e1, .ref e2, .ref e3, .ref e4, .ref e5, .long v0, .long v1, .long v2, .long v3]))] sz) := by
  refine Met.ofW (cc := cX4_told) (maxL := 2) (ret := (some .int)) (by decide) rfl ?_
  intro p e s m args below meth c s₁ B hml hv
  obtain ⟨rfl, hsz, hP, hK, hD0, hE⟩ := hv
  have hx := B.exec
  have hb := B.bytes
  have hr := B.returns
  have hts := atoms_spec (ws := wsX4_told) B.pre
  have hown : s.vm.findClass RX4 = some m.cls := findClass_of_methodNamed B.named
  have hlocks := B.notSynchronized
  subst hsz
  have hD := hD0.self (sz := s.heap.size)
  have hlo := ck_lo (sz := s.heap.size) hD0 hE.1
  generalize hAe : va_A [(mo, .inr (4, [.int th, .int zs, .int rq, .long k, .long l0, .int ti, .int ct, .int (nI n), .ref d1, .ref d2, .ref d3, .ref d4, .ref d5, .ref d6, .int (nI kc), .ref e1, .ref e2, .ref e3, .ref e4, .ref e5, .long v0, .long v1, .long v2, .long v3]))] s.heap.size = A at hD hlo ⊢
  have hA : ∀ q : Nat, s.heap.size ≤ q → A q := fun q h => by rw [← hAe]; exact Or.inr h
  have hG : ck_G (dC, dI) [(cI, .int), (cJ, .long), (cZ, .boolean)] lo A s := ⟨hK, hE, hA, hlo⟩
  have hS : va_S A s.heap s.heap [] := va_S.rf
  have hP : va_P (dC, dI) vwCl [(mo, .inr (4, [.int th, .int zs, .int rq, .long k, .long l0, .int ti, .int ct, .int (nI n), .ref d1, .ref d2, .ref d3, .ref d4, .ref d5, .ref d6, .int (nI kc), .ref e1, .ref e2, .ref e3, .ref e4, .ref e5, .long v0, .long v1, .long v2, .long v3]))] s.heap := hP
  have hl := lv_entry ([.ref mo, .int wh]) (n := 2) (Nat.le_of_ble_eq_true rfl)
  rw [lg_entry_eq]
  generalize (lg_sl ([.ref mo, .int wh]) ++ List.replicate (2 - (lg_sl ([.ref mo, .int wh])).length) Slot.unset).toArray = ls at hl ⊢
  have hl : lv_has ls 2 [(0, .ref mo), (1, .int wh)] := hl
  refine lv_aload_n hx hb dX4_told_0 rfl (lv_at hl 0 rfl) ?_
  refine lv_iload_n hx hb dX4_told_1 rfl (lv_at hl 1 rfl) ?_
  refine lv_if_lt (tgt := 11) hx hb dX4_told_2 (by decide) (fun c_2 => ?_) (fun c_2 => ?_)
  · skip
    refine lv_iconst (v := 1) hx hb dX4_told_11 (by decide) ?_
    refine lv_goto (tgt := 16) hx hb dX4_told_12 (by decide) ?_
    refine va_put (D := (dC, dI)) (ci := 4) (v := .int 1) (ty := .int) (C := RX4) (T := TX4) (N := 24) hx hb hts (k_X4_told_in4) tyX4 tyX4_ok nmX4 hown hK hP hD hS 0 rfl rfl 0 (by decide) (hts _ k_X4_told_f54) (fun _ h9 => h9) rfl (by decide +kernel) rfl rfl (Nat.le_of_ble_eq_true rfl) dX4_told_16 (fun H locs hP hD hS => ?_)
    have hP : va_P (dC, dI) vwCl [(mo, .inr (4, [.int 1, .int zs, .int rq, .long k, .long l0, .int ti, .int ct, .int (nI n), .ref d1, .ref d2, .ref d3, .ref d4, .ref d5, .ref d6, .int (nI kc), .ref e1, .ref e2, .ref e3, .ref e4, .ref e5, .long v0, .long v1, .long v2, .long v3]))] H := hP
    have hD : va_D A [(mo, .inr (4, [.int 1, .int zs, .int rq, .long k, .long l0, .int ti, .int ct, .int (nI n), .ref d1, .ref d2, .ref d3, .ref d4, .ref d5, .ref d6, .int (nI kc), .ref e1, .ref e2, .ref e3, .ref e4, .ref e5, .long v0, .long v1, .long v2, .long v3]))] := hD
    refine lv_aload_n hx hb dX4_told_19 rfl (lv_at hl 0 rfl) ?_
    refine va_get (D := (dC, dI)) (ci := 4) (v := .int 1) (C := RX4) (T := TX4) (N := 24) hx hb hts (k_X4_told_in4) hown hK hP 0 rfl rfl 0 (by decide) (hts _ k_X4_told_f54) (fun _ h9 => h9) rfl dX4_told_20 ?_
    refine lv_if_le (tgt := 28) hx hb dX4_told_23 (by decide) (fun c_23 => ?_) (fun c_23 => ?_)
    · skip
      exact absurd c_23 (by decide)
    · skip
      refine lv_iconst (v := 0) hx hb dX4_told_26 (by decide) ?_
      subst_vars
      refine ck_ir hx hb hr hlocks (Nat.le_of_ble_eq_true rfl) (Nat.le_of_ble_eq_true rfl) dX4_told_27 () hP hD hS ?_
      exact trivial
  · skip
    refine lv_iload_n hx hb dX4_told_5 rfl (lv_at hl 1 rfl) ?_
    refine lv_bipush (v := 7) hx hb dX4_told_6 (by decide) ?_
    refine lv_icmp_le (tgt := 15) hx hb dX4_told_8 (by decide) (fun c_8 => ?_) (fun c_8 => ?_)
    · skip
      exact absurd ⟨Int32.not_lt.mp c_2, c_8⟩ hbad
    · skip
      refine lv_iconst (v := 1) hx hb dX4_told_11 (by decide) ?_
      refine lv_goto (tgt := 16) hx hb dX4_told_12 (by decide) ?_
      refine va_put (D := (dC, dI)) (ci := 4) (v := .int 1) (ty := .int) (C := RX4) (T := TX4) (N := 24) hx hb hts (k_X4_told_in4) tyX4 tyX4_ok nmX4 hown hK hP hD hS 0 rfl rfl 0 (by decide) (hts _ k_X4_told_f54) (fun _ h9 => h9) rfl (by decide +kernel) rfl rfl (Nat.le_of_ble_eq_true rfl) dX4_told_16 (fun H locs hP hD hS => ?_)
      have hP : va_P (dC, dI) vwCl [(mo, .inr (4, [.int 1, .int zs, .int rq, .long k, .long l0, .int ti, .int ct, .int (nI n), .ref d1, .ref d2, .ref d3, .ref d4, .ref d5, .ref d6, .int (nI kc), .ref e1, .ref e2, .ref e3, .ref e4, .ref e5, .long v0, .long v1, .long v2, .long v3]))] H := hP
      have hD : va_D A [(mo, .inr (4, [.int 1, .int zs, .int rq, .long k, .long l0, .int ti, .int ct, .int (nI n), .ref d1, .ref d2, .ref d3, .ref d4, .ref d5, .ref d6, .int (nI kc), .ref e1, .ref e2, .ref e3, .ref e4, .ref e5, .long v0, .long v1, .long v2, .long v3]))] := hD
      refine lv_aload_n hx hb dX4_told_19 rfl (lv_at hl 0 rfl) ?_
      refine va_get (D := (dC, dI)) (ci := 4) (v := .int 1) (C := RX4) (T := TX4) (N := 24) hx hb hts (k_X4_told_in4) hown hK hP 0 rfl rfl 0 (by decide) (hts _ k_X4_told_f54) (fun _ h9 => h9) rfl dX4_told_20 ?_
      refine lv_if_le (tgt := 28) hx hb dX4_told_23 (by decide) (fun c_23 => ?_) (fun c_23 => ?_)
      · skip
        exact absurd c_23 (by decide)
      · skip
        refine lv_iconst (v := 0) hx hb dX4_told_26 (by decide) ?_
        subst_vars
        refine ck_ir hx hb hr hlocks (Nat.le_of_ble_eq_true rfl) (Nat.le_of_ble_eq_true rfl) dX4_told_27 () hP hD hS ?_
        exact trivial
