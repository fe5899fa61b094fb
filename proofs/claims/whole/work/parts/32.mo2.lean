set_option maxRecDepth 20000 in
theorem k_X4_dropOpen_f123 : (.fieldLink RX4 123 "CookieListenerModel" "open" "I" : Cond) ∈ wsX4_dropOpen := by decide +kernel
set_option maxRecDepth 20000 in
theorem k_X4_dropOpen_in4 : ∀ w ∈ u_ws RX4 TX4 24, w ∈ wsX4_dropOpen := by decide +kernel
set_option maxRecDepth 20000 in
theorem k_X4_dropOpen_f38 : (.fieldLink RX4 38 "CookieListenerModel" "openAddress" "[I" : Cond) ∈ wsX4_dropOpen := by decide +kernel
set_option maxRecDepth 20000 in
theorem k_X4_dropOpen_f41 : (.fieldLink RX4 41 "CookieListenerModel" "openPort" "[I" : Cond) ∈ wsX4_dropOpen := by decide +kernel
set_option maxRecDepth 20000 in
theorem k_X4_dropOpen_f44 : (.fieldLink RX4 44 "CookieListenerModel" "openKind" "[I" : Cond) ∈ wsX4_dropOpen := by decide +kernel
set_option maxRecDepth 20000 in
theorem k_X4_dropOpen_f47 : (.fieldLink RX4 47 "CookieListenerModel" "taken" "[Z" : Cond) ∈ wsX4_dropOpen := by decide +kernel
set_option maxHeartbeats 4000000 in
set_option maxRecDepth 100000 in
theorem c_X4_dropOpen (l : Launch) (dC : Nat → ClassId) (dI : Nat → Nat → Nat) (cI cJ cZ : ClassId) (lo sz : Nat) (mo : Nat) (th zs rq : Int32) (k l0 : Int64) (ti ct : Int32) (n : Nat) (d1 d2 d3 d4 d5 d6 : Nat) (kc : Nat) (e1 e2 e3 e4 e5 : Nat) (v0 v1 v2 v3 : Int64) (t1 t2 t3 t4 : Nat → Int32) (j : Nat) (hn : kc < 64) (hj : j < kc + 1) (h01 : ∀ i, i < kc + 1 → t4 i = 0 ∨ t4 i = 1) : Met l yX4_dropOpen wsX4_dropOpen ({ frames := 0, cells := 0, slots := 0, locals := 0 } : Room) (va_Pc [.ref mo, .int (nI j)] (ck_P (dC, dI) [(cI, .int), (cJ, .long), (cZ, .boolean)] lo sz [(mo, .inr (4, [.int th, .int zs, .int rq, .long k, .long l0, .int ti, .int ct, .int (nI n), .ref d1, .ref d2, .ref d3, .ref d4, .ref d5, .ref d6, .int (nI (kc + 1)), .ref e1, .ref e2, .ref e3, .ref e4, .ref e5, .long v0, .long v1, .long v2, .long v3])), (e1, .inl (cI, 64, .inl t1)), (e2, .inl (cI, 64, .inl t2)), (e3, .inl (cI, 64, .inl t3)), (e4, .inl (cZ, 64, .inl t4))])) (va_Qv (fun (u : (Nat → Int32) × (Nat → Int32) × (Nat → Int32) × (Nat → Int32)) => ck_shf t1 u.1 j kc ∧ ck_shf t2 u.2.1 j kc ∧ ck_shf t3 u.2.2.1 j kc ∧ ck_shf t4 u.2.2.2 j kc) (fun u => ck_B (dC, dI) vwCl (va_A [(mo, .inr (4, [.int th, .int zs, .int rq, .long k, .long l0, .int ti, .int ct, .int (nI n), .ref d1, .ref d2, .ref d3, .ref d4, .ref d5, .ref d6, .int (nI (kc + 1)), .ref e1, .ref e2, .ref e3, .ref e4, .ref e5, .long v0, .long v1, .long v2, .long v3])), (e1, .inl (cI, 64, .inl t1)), (e2, .inl (cI, 64, .inl t2)), (e3, .inl (cI, 64, .inl t3)), (e4, .inl (cZ, 64, .inl t4))] sz) ((fun u : (Nat → Int32) × (Nat → Int32) × (Nat → Int32) × (Nat → Int32) => ([(mo, .inr (4, [.int th, .int zs, .int rq, .long k, .long l0, .int ti, .int ct, .int (nI n), .ref d1, .ref d2, .ref d3, .ref d4, .ref d5, .ref d6, .int (nI kc), .ref e1, .ref e2, .ref e3, .ref e4, .ref e5, .long v0, .long v1, .long v2, .long v3])), (e1, .inl (cI, 64, .inl u.1)), (e2, .inl (cI, 64, .inl u.2.1)), (e3, .inl (cI, 64, .inl u.2.2.1)), (e4, .inl (cZ, 64, .inl u.2.2.2))] : va_W)) u)) (va_A [(mo, .inr (4, [.int th, .int zs, .int rq, .long k, .long l0, .int ti, .int ct, .int (nI n), .ref d1, .ref d2, .ref d3, .ref d4, .ref d5, .ref d6, .int (nI (kc + 1)), .ref e1, .ref e2, .ref e3, .ref e4, .ref e5, .long v0, .long v1, .long v2, .long v3])), (e1, .inl (cI, 64, .inl t1)), (e2, .inl (cI, 64, .inl t2)), (e3, .inl (cI, 64, .inl t3)), (e4, .inl (cZ, 64, .inl t4))] sz)) 0 0 (va_A [(mo, .inr (4, [.int th, .int zs, .int rq, .long k, .long l0, .int ti, .int ct, .int (nI n), .ref d1, .ref d2, .ref d3, .ref d4, .ref d5, .ref d6, .int (nI (kc + 1)), .ref e1, .ref e2, .ref e3, .ref e4, .ref e5, .long v0, .long v1, .long v2, .long v3])), (e1, .inl (cI, 64, .inl t1)), (e2, .inl (cI, 64, .inl t2)), (e3, .inl (cI, 64, .inl t3)), (e4, .inl (cZ, 64, .inl t4))] sz) := by
  refine Met.ofW (cc := cX4_dropOpen) (maxL := 3) (ret := none) (by decide) rfl ?_
  intro p e s m args below meth c s₁ B hml hv
  obtain ⟨rfl, hsz, hP, hK, hD0, hE⟩ := hv
  have hx := B.exec
  have hb := B.bytes
  have hr := B.returns
  have hts := atoms_spec (ws := wsX4_dropOpen) B.pre
  have hown : s.vm.findClass RX4 = some m.cls := findClass_of_methodNamed B.named
  have hlocks := B.notSynchronized
  subst hsz
  have hD := hD0.self (sz := s.heap.size)
  have hlo := ck_lo (sz := s.heap.size) hD0 hE.1
  generalize hAe : va_A [(mo, .inr (4, [.int th, .int zs, .int rq, .long k, .long l0, .int ti, .int ct, .int (nI n), .ref d1, .ref d2, .ref d3, .ref d4, .ref d5, .ref d6, .int (nI (kc + 1)), .ref e1, .ref e2, .ref e3, .ref e4, .ref e5, .long v0, .long v1, .long v2, .long v3])), (e1, .inl (cI, 64, .inl t1)), (e2, .inl (cI, 64, .inl t2)), (e3, .inl (cI, 64, .inl t3)), (e4, .inl (cZ, 64, .inl t4))] s.heap.size = A at hD hlo ⊢
  have hA : ∀ q : Nat, s.heap.size ≤ q → A q := fun q h => by rw [← hAe]; exact Or.inr h
  have hG : ck_G (dC, dI) [(cI, .int), (cJ, .long), (cZ, .boolean)] lo A s := ⟨hK, hE, hA, hlo⟩
  have hS : va_S A s.heap s.heap [] := va_S.rf
  have hP : va_P (dC, dI) vwCl [(mo, .inr (4, [.int th, .int zs, .int rq, .long k, .long l0, .int ti, .int ct, .int (nI n), .ref d1, .ref d2, .ref d3, .ref d4, .ref d5, .ref d6, .int (nI (kc + 1)), .ref e1, .ref e2, .ref e3, .ref e4, .ref e5, .long v0, .long v1, .long v2, .long v3])), (e1, .inl (cI, 64, .inl t1)), (e2, .inl (cI, 64, .inl t2)), (e3, .inl (cI, 64, .inl t3)), (e4, .inl (cZ, 64, .inl t4))] s.heap := hP
  have hl := lv_entry ([.ref mo, .int (nI j)]) (n := 3) (Nat.le_of_ble_eq_true rfl)
  rw [lg_entry_eq]
  generalize (lg_sl ([.ref mo, .int (nI j)]) ++ List.replicate (3 - (lg_sl ([.ref mo, .int (nI j)])).length) Slot.unset).toArray = ls at hl ⊢
  have hl : lv_has ls 3 [(0, .ref mo), (1, .int (nI j))] := hl
  refine lv_aload_n hx hb dX4_dropOpen_0 rfl (lv_at hl 0 rfl) ?_
  refine lv_dup hx hb dX4_dropOpen_1 rfl ?_
  refine va_get (D := (dC, dI)) (ci := 4) (v := .int (nI (kc + 1))) (C := RX4) (T := TX4) (N := 24) hx hb hts (k_X4_dropOpen_in4) hown hK hP 0 rfl rfl 14 (by decide) (hts _ k_X4_dropOpen_f123) (fun _ h9 => h9) rfl dX4_dropOpen_2 ?_
  refine lv_iconst (v := 1) hx hb dX4_dropOpen_5 (by decide) ?_
  refine lv_isub hx hb dX4_dropOpen_6 ?_
  refine ck_toi (y := nI kc) (nI_pred _) ?_
  refine va_put (D := (dC, dI)) (ci := 4) (v := .int (nI kc)) (ty := .int) (C := RX4) (T := TX4) (N := 24) hx hb hts (k_X4_dropOpen_in4) tyX4 tyX4_ok nmX4 hown hK hP hD hS 0 rfl rfl 14 (by decide) (hts _ k_X4_dropOpen_f123) (fun _ h9 => h9) rfl (by decide +kernel) rfl rfl (Nat.le_of_ble_eq_true rfl) dX4_dropOpen_7 (fun H locs hP hD hS => ?_)
  have hP : va_P (dC, dI) vwCl [(mo, .inr (4, [.int th, .int zs, .int rq, .long k, .long l0, .int ti, .int ct, .int (nI n), .ref d1, .ref d2, .ref d3, .ref d4, .ref d5, .ref d6, .int (nI kc), .ref e1, .ref e2, .ref e3, .ref e4, .ref e5, .long v0, .long v1, .long v2, .long v3])), (e1, .inl (cI, 64, .inl t1)), (e2, .inl (cI, 64, .inl t2)), (e3, .inl (cI, 64, .inl t3)), (e4, .inl (cZ, 64, .inl t4))] H := hP
  have hD : va_D A [(mo, .inr (4, [.int th, .int zs, .int rq, .long k, .long l0, .int ti, .int ct, .int (nI n), .ref d1, .ref d2, .ref d3, .ref d4, .ref d5, .ref d6, .int (nI kc), .ref e1, .ref e2, .ref e3, .ref e4, .ref e5, .long v0, .long v1, .long v2, .long v3])), (e1, .inl (cI, 64, .inl t1)), (e2, .inl (cI, 64, .inl t2)), (e3, .inl (cI, 64, .inl t3)), (e4, .inl (cZ, 64, .inl t4))] := hD
  refine lv_iload_n hx hb dX4_dropOpen_10 rfl (lv_at hl 1 rfl) ?_
  refine lv_istore_n (lv' := [(2, .int (nI j)), (0, .ref mo), (1, .int (nI j))]) hx hb dX4_dropOpen_11 rfl hl (by decide) rfl (fun ls hl => ?_)
  have hloop : ∀ (fu : Nat) (i : Nat) (y1 : Nat → Int32) (y2 : Nat → Int32) (y3 : Nat → Int32) (y4 : Nat → Int32), (j ≤ i ∧ i ≤ kc) → (kc + 1 ≤ i + fu) → (ck_shf t1 y1 j i) → (ck_shf t2 y2 j i) → (ck_shf t3 y3 j i) → (ck_shf t4 y4 j i) → ∀ (H : Heap) (locs : List Loc) (ls : Array Slot), va_P (dC, dI) vwCl [(mo, .inr (4, [.int th, .int zs, .int rq, .long k, .long l0, .int ti, .int ct, .int (nI n), .ref d1, .ref d2, .ref d3, .ref d4, .ref d5, .ref d6, .int (nI kc), .ref e1, .ref e2, .ref e3, .ref e4, .ref e5, .long v0, .long v1, .long v2, .long v3])), (e1, .inl (cI, 64, .inl y1)), (e2, .inl (cI, 64, .inl y2)), (e3, .inl (cI, 64, .inl y3)), (e4, .inl (cZ, 64, .inl y4))] H → va_D A [(mo, .inr (4, [.int th, .int zs, .int rq, .long k, .long l0, .int ti, .int ct, .int (nI n), .ref d1, .ref d2, .ref d3, .ref d4, .ref d5, .ref d6, .int (nI kc), .ref e1, .ref e2, .ref e3, .ref e4, .ref e5, .long v0, .long v1, .long v2, .long v3])), (e1, .inl (cI, 64, .inl y1)), (e2, .inl (cI, 64, .inl y2)), (e3, .inl (cI, 64, .inl y3)), (e4, .inl (cZ, 64, .inl y4))] → va_S A s.heap H locs → lv_has ls 3 [(0, .ref mo), (1, .int (nI j)), (2, .int (nI i))] → W p l e (headSpec wsX4_dropOpen ({ frames := 0, cells := 0, slots := 0, locals := 0 } : Room)).room s m (([.ref mo, .int (nI j)] : List Value).toArray) below meth c H locs 0 0 (MQ below (va_Qv (fun (u : (Nat → Int32) × (Nat → Int32) × (Nat → Int32) × (Nat → Int32)) => ck_shf t1 u.1 j kc ∧ ck_shf t2 u.2.1 j kc ∧ ck_shf t3 u.2.2.1 j kc ∧ ck_shf t4 u.2.2.2 j kc) (fun u => ck_B (dC, dI) vwCl A ((fun u : (Nat → Int32) × (Nat → Int32) × (Nat → Int32) × (Nat → Int32) => ([(mo, .inr (4, [.int th, .int zs, .int rq, .long k, .long l0, .int ti, .int ct, .int (nI n), .ref d1, .ref d2, .ref d3, .ref d4, .ref d5, .ref d6, .int (nI kc), .ref e1, .ref e2, .ref e3, .ref e4, .ref e5, .long v0, .long v1, .long v2, .long v3])), (e1, .inl (cI, 64, .inl u.1)), (e2, .inl (cI, 64, .inl u.2.1)), (e3, .inl (cI, 64, .inl u.2.2.1)), (e4, .inl (cZ, 64, .inl u.2.2.2))] : va_W)) u)) A) (([.ref mo, .int (nI j)] : List Value).toArray) s 0 0 A) (F0 m 12 ls []) := by
    intro fu
    induction fu with
    | zero =>
      intro i y1 y2 y3 y4 hi hf h1 h2 h3 h4
      exfalso
      omega
    | succ fu ih =>
      intro i y1 y2 y3 y4 hi hf h1 h2 h3 h4 H locs ls hP hD hS hl
      refine lv_iload_n hx hb dX4_dropOpen_12 rfl (lv_at hl 2 rfl) ?_
      refine lv_aload_n hx hb dX4_dropOpen_13 rfl (lv_at hl 0 rfl) ?_
      refine va_get (D := (dC, dI)) (ci := 4) (v := .int (nI kc)) (C := RX4) (T := TX4) (N := 24) hx hb hts (k_X4_dropOpen_in4) hown hK hP 0 rfl rfl 14 (by decide) (hts _ k_X4_dropOpen_f123) (fun _ h9 => h9) rfl dX4_dropOpen_14 ?_
      refine lv_icmp_ge (tgt := 82) hx hb dX4_dropOpen_17 (by decide) (fun c_17 => ?_) (fun c_17 => ?_)
      · skip
        have c_17 : kc ≤ i := (nI_leI (by omega) (by omega)).mp c_17
        refine ck_vr hx hb hr hlocks (Nat.le_of_ble_eq_true rfl) (Nat.le_of_ble_eq_true rfl) dX4_dropOpen_82 (y1, y2, y3, y4) hP hD hS ?_
        have e9 : i = kc := by omega
        rw [e9] at h1 h2 h3 h4
        exact ⟨h1, h2, h3, h4⟩
      · skip
        have c_17 : ¬ (kc ≤ i) := fun z => c_17 ((nI_leI (by omega) (by omega)).mpr z)
        refine lv_aload_n hx hb dX4_dropOpen_20 rfl (lv_at hl 0 rfl) ?_
        refine va_get (D := (dC, dI)) (ci := 4) (v := .ref e1) (C := RX4) (T := TX4) (N := 24) hx hb hts (k_X4_dropOpen_in4) hown hK hP 0 rfl rfl 15 (by decide) (hts _ k_X4_dropOpen_f38) (fun _ h9 => h9) rfl dX4_dropOpen_21 ?_
        refine lv_iload_n hx hb dX4_dropOpen_24 rfl (lv_at hl 2 rfl) ?_
        refine lv_aload_n hx hb dX4_dropOpen_25 rfl (lv_at hl 0 rfl) ?_
        refine va_get (D := (dC, dI)) (ci := 4) (v := .ref e1) (C := RX4) (T := TX4) (N := 24) hx hb hts (k_X4_dropOpen_in4) hown hK hP 0 rfl rfl 15 (by decide) (hts _ k_X4_dropOpen_f38) (fun _ h9 => h9) rfl dX4_dropOpen_26 ?_
        refine lv_iload_n hx hb dX4_dropOpen_29 rfl (lv_at hl 2 rfl) ?_
        refine lv_iconst (v := 1) hx hb dX4_dropOpen_30 (by decide) ?_
        refine lv_iadd hx hb dX4_dropOpen_31 ?_
        refine ck_toi (y := nI (i + 1)) (nI_1 _) ?_
        refine ck_iald hx hb hK hP 1 0 rfl rfl (by omega) (by decide) dX4_dropOpen_32 ?_
        refine ck_iast hx hb hK hP hD hS 1 0 rfl rfl (by omega) (by decide) dX4_dropOpen_33 (fun H locs hP hD hS => ?_)
        have hP : va_P (dC, dI) vwCl [(mo, .inr (4, [.int th, .int zs, .int rq, .long k, .long l0, .int ti, .int ct, .int (nI n), .ref d1, .ref d2, .ref d3, .ref d4, .ref d5, .ref d6, .int (nI kc), .ref e1, .ref e2, .ref e3, .ref e4, .ref e5, .long v0, .long v1, .long v2, .long v3])), (e1, .inl (cI, 64, .inl (upd y1 i (y1 (i + 1))))), (e2, .inl (cI, 64, .inl y2)), (e3, .inl (cI, 64, .inl y3)), (e4, .inl (cZ, 64, .inl y4))] H := hP
        have hD : va_D A [(mo, .inr (4, [.int th, .int zs, .int rq, .long k, .long l0, .int ti, .int ct, .int (nI n), .ref d1, .ref d2, .ref d3, .ref d4, .ref d5, .ref d6, .int (nI kc), .ref e1, .ref e2, .ref e3, .ref e4, .ref e5, .long v0, .long v1, .long v2, .long v3])), (e1, .inl (cI, 64, .inl (upd y1 i (y1 (i + 1))))), (e2, .inl (cI, 64, .inl y2)), (e3, .inl (cI, 64, .inl y3)), (e4, .inl (cZ, 64, .inl y4))] := hD
        refine lv_aload_n hx hb dX4_dropOpen_34 rfl (lv_at hl 0 rfl) ?_
        refine va_get (D := (dC, dI)) (ci := 4) (v := .ref e2) (C := RX4) (T := TX4) (N := 24) hx hb hts (k_X4_dropOpen_in4) hown hK hP 0 rfl rfl 16 (by decide) (hts _ k_X4_dropOpen_f41) (fun _ h9 => h9) rfl dX4_dropOpen_35 ?_
        refine lv_iload_n hx hb dX4_dropOpen_38 rfl (lv_at hl 2 rfl) ?_
        refine lv_aload_n hx hb dX4_dropOpen_39 rfl (lv_at hl 0 rfl) ?_
        refine va_get (D := (dC, dI)) (ci := 4) (v := .ref e2) (C := RX4) (T := TX4) (N := 24) hx hb hts (k_X4_dropOpen_in4) hown hK hP 0 rfl rfl 16 (by decide) (hts _ k_X4_dropOpen_f41) (fun _ h9 => h9) rfl dX4_dropOpen_40 ?_
        refine lv_iload_n hx hb dX4_dropOpen_43 rfl (lv_at hl 2 rfl) ?_
        refine lv_iconst (v := 1) hx hb dX4_dropOpen_44 (by decide) ?_
        refine lv_iadd hx hb dX4_dropOpen_45 ?_
        refine ck_toi (y := nI (i + 1)) (nI_1 _) ?_
        refine ck_iald hx hb hK hP 2 0 rfl rfl (by omega) (by decide) dX4_dropOpen_46 ?_
        refine ck_iast hx hb hK hP hD hS 2 0 rfl rfl (by omega) (by decide) dX4_dropOpen_47 (fun H locs hP hD hS => ?_)
        have hP : va_P (dC, dI) vwCl [(mo, .inr (4, [.int th, .int zs, .int rq, .long k, .long l0, .int ti, .int ct, .int (nI n), .ref d1, .ref d2, .ref d3, .ref d4, .ref d5, .ref d6, .int (nI kc), .ref e1, .ref e2, .ref e3, .ref e4, .ref e5, .long v0, .long v1, .long v2, .long v3])), (e1, .inl (cI, 64, .inl (upd y1 i (y1 (i + 1))))), (e2, .inl (cI, 64, .inl (upd y2 i (y2 (i + 1))))), (e3, .inl (cI, 64, .inl y3)), (e4, .inl (cZ, 64, .inl y4))] H := hP
        have hD : va_D A [(mo, .inr (4, [.int th, .int zs, .int rq, .long k, .long l0, .int ti, .int ct, .int (nI n), .ref d1, .ref d2, .ref d3, .ref d4, .ref d5, .ref d6, .int (nI kc), .ref e1, .ref e2, .ref e3, .ref e4, .ref e5, .long v0, .long v1, .long v2, .long v3])), (e1, .inl (cI, 64, .inl (upd y1 i (y1 (i + 1))))), (e2, .inl (cI, 64, .inl (upd y2 i (y2 (i + 1))))), (e3, .inl (cI, 64, .inl y3)), (e4, .inl (cZ, 64, .inl y4))] := hD
        refine lv_aload_n hx hb dX4_dropOpen_48 rfl (lv_at hl 0 rfl) ?_
        refine va_get (D := (dC, dI)) (ci := 4) (v := .ref e3) (C := RX4) (T := TX4) (N := 24) hx hb hts (k_X4_dropOpen_in4) hown hK hP 0 rfl rfl 17 (by decide) (hts _ k_X4_dropOpen_f44) (fun _ h9 => h9) rfl dX4_dropOpen_49 ?_
        refine lv_iload_n hx hb dX4_dropOpen_52 rfl (lv_at hl 2 rfl) ?_
        refine lv_aload_n hx hb dX4_dropOpen_53 rfl (lv_at hl 0 rfl) ?_
        refine va_get (D := (dC, dI)) (ci := 4) (v := .ref e3) (C := RX4) (T := TX4) (N := 24) hx hb hts (k_X4_dropOpen_in4) hown hK hP 0 rfl rfl 17 (by decide) (hts _ k_X4_dropOpen_f44) (fun _ h9 => h9) rfl dX4_dropOpen_54 ?_
        refine lv_iload_n hx hb dX4_dropOpen_57 rfl (lv_at hl 2 rfl) ?_
        refine lv_iconst (v := 1) hx hb dX4_dropOpen_58 (by decide) ?_
        refine lv_iadd hx hb dX4_dropOpen_59 ?_
        refine ck_toi (y := nI (i + 1)) (nI_1 _) ?_
        refine ck_iald hx hb hK hP 3 0 rfl rfl (by omega) (by decide) dX4_dropOpen_60 ?_
        refine ck_iast hx hb hK hP hD hS 3 0 rfl rfl (by omega) (by decide) dX4_dropOpen_61 (fun H locs hP hD hS => ?_)
        have hP : va_P (dC, dI) vwCl [(mo, .inr (4, [.int th, .int zs, .int rq, .long k, .long l0, .int ti, .int ct, .int (nI n), .ref d1, .ref d2, .ref d3, .ref d4, .ref d5, .ref d6, .int (nI kc), .ref e1, .ref e2, .ref e3, .ref e4, .ref e5, .long v0, .long v1, .long v2, .long v3])), (e1, .inl (cI, 64, .inl (upd y1 i (y1 (i + 1))))), (e2, .inl (cI, 64, .inl (upd y2 i (y2 (i + 1))))), (e3, .inl (cI, 64, .inl (upd y3 i (y3 (i + 1))))), (e4, .inl (cZ, 64, .inl y4))] H := hP
        have hD : va_D A [(mo, .inr (4, [.int th, .int zs, .int rq, .long k, .long l0, .int ti, .int ct, .int (nI n), .ref d1, .ref d2, .ref d3, .ref d4, .ref d5, .ref d6, .int (nI kc), .ref e1, .ref e2, .ref e3, .ref e4, .ref e5, .long v0, .long v1, .long v2, .long v3])), (e1, .inl (cI, 64, .inl (upd y1 i (y1 (i + 1))))), (e2, .inl (cI, 64, .inl (upd y2 i (y2 (i + 1))))), (e3, .inl (cI, 64, .inl (upd y3 i (y3 (i + 1))))), (e4, .inl (cZ, 64, .inl y4))] := hD
        refine lv_aload_n hx hb dX4_dropOpen_62 rfl (lv_at hl 0 rfl) ?_
        refine va_get (D := (dC, dI)) (ci := 4) (v := .ref e4) (C := RX4) (T := TX4) (N := 24) hx hb hts (k_X4_dropOpen_in4) hown hK hP 0 rfl rfl 18 (by decide) (hts _ k_X4_dropOpen_f47) (fun _ h9 => h9) rfl dX4_dropOpen_63 ?_
        refine lv_iload_n hx hb dX4_dropOpen_66 rfl (lv_at hl 2 rfl) ?_
        refine lv_aload_n hx hb dX4_dropOpen_67 rfl (lv_at hl 0 rfl) ?_
        refine va_get (D := (dC, dI)) (ci := 4) (v := .ref e4) (C := RX4) (T := TX4) (N := 24) hx hb hts (k_X4_dropOpen_in4) hown hK hP 0 rfl rfl 18 (by decide) (hts _ k_X4_dropOpen_f47) (fun _ h9 => h9) rfl dX4_dropOpen_68 ?_
        refine lv_iload_n hx hb dX4_dropOpen_71 rfl (lv_at hl 2 rfl) ?_
        refine lv_iconst (v := 1) hx hb dX4_dropOpen_72 (by decide) ?_
        refine lv_iadd hx hb dX4_dropOpen_73 ?_
        refine ck_toi (y := nI (i + 1)) (nI_1 _) ?_
        refine ck_zald hx hb hK hP 4 2 rfl rfl (by omega) (by decide) dX4_dropOpen_74 ?_
        have h9 : y4 (i + 1) = 0 ∨ y4 (i + 1) = 1 := by rw [h4 (i + 1), if_neg (by omega)]; exact h01 _ (by omega)
        refine ck_zast hx hb hK hP hD hS 4 2 rfl rfl (by rcases h9 with h | h <;> rw [h] <;> rfl) (by omega) (by decide) dX4_dropOpen_75 (fun H locs hP hD hS => ?_)
        have hP : va_P (dC, dI) vwCl [(mo, .inr (4, [.int th, .int zs, .int rq, .long k, .long l0, .int ti, .int ct, .int (nI n), .ref d1, .ref d2, .ref d3, .ref d4, .ref d5, .ref d6, .int (nI kc), .ref e1, .ref e2, .ref e3, .ref e4, .ref e5, .long v0, .long v1, .long v2, .long v3])), (e1, .inl (cI, 64, .inl (upd y1 i (y1 (i + 1))))), (e2, .inl (cI, 64, .inl (upd y2 i (y2 (i + 1))))), (e3, .inl (cI, 64, .inl (upd y3 i (y3 (i + 1))))), (e4, .inl (cZ, 64, .inl (upd y4 i (y4 (i + 1)))))] H := hP
        have hD : va_D A [(mo, .inr (4, [.int th, .int zs, .int rq, .long k, .long l0, .int ti, .int ct, .int (nI n), .ref d1, .ref d2, .ref d3, .ref d4, .ref d5, .ref d6, .int (nI kc), .ref e1, .ref e2, .ref e3, .ref e4, .ref e5, .long v0, .long v1, .long v2, .long v3])), (e1, .inl (cI, 64, .inl (upd y1 i (y1 (i + 1))))), (e2, .inl (cI, 64, .inl (upd y2 i (y2 (i + 1))))), (e3, .inl (cI, 64, .inl (upd y3 i (y3 (i + 1))))), (e4, .inl (cZ, 64, .inl (upd y4 i (y4 (i + 1)))))] := hD
        refine lv_iinc (v := nI (i + 1)) (lv' := [(2, .int (nI (i + 1))), (0, .ref mo), (1, .int (nI j))]) hx hb dX4_dropOpen_76 hl (k := 2) rfl (nI_1 _) (by decide) rfl (fun ls hl => ?_)
        refine lv_goto (tgt := 12) hx hb dX4_dropOpen_79 (by decide) ?_
        exact ih (i + 1) (upd y1 i (y1 (i + 1))) (upd y2 i (y2 (i + 1))) (upd y3 i (y3 (i + 1))) (upd y4 i (y4 (i + 1))) (⟨by omega, by omega⟩) (by omega) (ck_shfI h1 (by omega)) (ck_shfI h2 (by omega)) (ck_shfI h3 (by omega)) (ck_shfI h4 (by omega)) _ _ _ (hP.sub [0, 1, 2, 3, 4] rfl) (hD.sub [0, 1, 2, 3, 4] (by decide) rfl) hS (lv_sub hl [1, 2, 0] rfl)
  exact hloop (kc + 1) j t1 t2 t3 t4 (⟨by omega, by omega⟩) (by omega) (ck_shf0) (ck_shf0) (ck_shf0) (ck_shf0) _ _ _ (hP.sub [0, 1, 2, 3, 4] rfl) (hD.sub [0, 1, 2, 3, 4] (by decide) rfl) hS (lv_sub hl [1, 2, 0] rfl)
set_option maxRecDepth 20000 in
theorem k_X4_waiting_f123 : (.fieldLink RX4 123 "CookieListenerModel" "open" "I" : Cond) ∈ wsX4_waiting := by decide +kernel
set_option maxRecDepth 20000 in
theorem k_X4_waiting_in4 : ∀ w ∈ u_ws RX4 TX4 24, w ∈ wsX4_waiting := by decide +kernel
set_option maxRecDepth 20000 in
theorem k_X4_waiting_f47 : (.fieldLink RX4 47 "CookieListenerModel" "taken" "[Z" : Cond) ∈ wsX4_waiting := by decide +kernel
set_option maxHeartbeats 4000000 in
set_option maxRecDepth 100000 in
theorem c_X4_waiting (l : Launch) (dC : Nat → ClassId) (dI : Nat → Nat → Nat) (cI cJ cZ : ClassId) (lo sz : Nat) (mo : Nat) (th zs rq : Int32) (k l0 : Int64) (ti ct : Int32) (n : Nat) (d1 d2 d3 d4 d5 d6 : Nat) (kc : Nat) (e1 e2 e3 e4 e5 : Nat) (v0 v1 v2 v3 : Int64) (t4 : Nat → Int32) (hk : kc ≤ 64) : Met l yX4_waiting wsX4_waiting ({ frames := 0, cells := 0, slots := 0, locals := 0 } : Room) (va_Pc [.ref mo] (ck_P (dC, dI) [(cI, .int), (cJ, .long), (cZ, .boolean)] lo sz [(mo, .inr (4, [.int th, .int zs, .int rq, .long k, .long l0, .int ti, .int ct, .int (nI n), .ref d1, .ref d2, .ref d3, .ref d4, .ref d5, .ref d6, .int (nI kc), .ref e1, .ref e2, .ref e3, .ref e4, .ref e5, .long v0, .long v1, .long v2, .long v3])), (e4, .inl (cZ, 64, .inl t4))])) (vp_Si (fun (r : Int32) => r = nI (ck_cnt kc t4))) 0 0 (fun _ => False) := by
  refine Met.ofW (cc := cX4_waiting) (maxL := 3) (ret := (some .int)) (by decide) rfl ?_
  intro p e s m args below meth c s₁ B hml hv
  obtain ⟨rfl, hsz, hP, hK, hD0, hE⟩ := hv
  have hx := B.exec
  have hb := B.bytes
  have hr := B.returns
  have hts := atoms_spec (ws := wsX4_waiting) B.pre
  have hown : s.vm.findClass RX4 = some m.cls := findClass_of_methodNamed B.named
  have hlocks := B.notSynchronized
  subst hsz
  have hD := hD0.self (sz := s.heap.size)
  have hlo := ck_lo (sz := s.heap.size) hD0 hE.1
  generalize hAe : va_A [(mo, .inr (4, [.int th, .int zs, .int rq, .long k, .long l0, .int ti, .int ct, .int (nI n), .ref d1, .ref d2, .ref d3, .ref d4, .ref d5, .ref d6, .int (nI kc), .ref e1, .ref e2, .ref e3, .ref e4, .ref e5, .long v0, .long v1, .long v2, .long v3])), (e4, .inl (cZ, 64, .inl t4))] s.heap.size = A at hD hlo
  have hA : ∀ q : Nat, s.heap.size ≤ q → A q := fun q h => by rw [← hAe]; exact Or.inr h
  have hG : ck_G (dC, dI) [(cI, .int), (cJ, .long), (cZ, .boolean)] lo A s := ⟨hK, hE, hA, hlo⟩
  have hS : va_S A s.heap s.heap [] := va_S.rf
  have hP : va_P (dC, dI) vwCl [(mo, .inr (4, [.int th, .int zs, .int rq, .long k, .long l0, .int ti, .int ct, .int (nI n), .ref d1, .ref d2, .ref d3, .ref d4, .ref d5, .ref d6, .int (nI kc), .ref e1, .ref e2, .ref e3, .ref e4, .ref e5, .long v0, .long v1, .long v2, .long v3])), (e4, .inl (cZ, 64, .inl t4))] s.heap := hP
  have hl := lv_entry ([.ref mo]) (n := 3) (Nat.le_of_ble_eq_true rfl)
  rw [lg_entry_eq]
  generalize (lg_sl ([.ref mo]) ++ List.replicate (3 - (lg_sl ([.ref mo])).length) Slot.unset).toArray = ls at hl ⊢
  have hl : lv_has ls 3 [(0, .ref mo)] := hl
  refine lv_iconst (v := nI 0) hx hb dX4_waiting_0 (by decide) ?_
  refine lv_istore_n (lv' := [(1, .int (nI 0)), (0, .ref mo)]) hx hb dX4_waiting_1 rfl hl (by decide) rfl (fun ls hl => ?_)
  refine lv_iconst (v := nI 0) hx hb dX4_waiting_2 (by decide) ?_
  refine lv_istore_n (lv' := [(2, .int (nI 0)), (1, .int (nI 0)), (0, .ref mo)]) hx hb dX4_waiting_3 rfl hl (by decide) rfl (fun ls hl => ?_)
  have hloop : ∀ (fu : Nat) (i : Nat) (w : Nat), (i ≤ kc) → (kc + 1 ≤ i + fu) → (w = ck_cnt i t4) → ∀ (H : Heap) (locs : List Loc) (ls : Array Slot), H = s.heap → locs = [] → va_P (dC, dI) vwCl [(mo, .inr (4, [.int th, .int zs, .int rq, .long k, .long l0, .int ti, .int ct, .int (nI n), .ref d1, .ref d2, .ref d3, .ref d4, .ref d5, .ref d6, .int (nI kc), .ref e1, .ref e2, .ref e3, .ref e4, .ref e5, .long v0, .long v1, .long v2, .long v3])), (e4, .inl (cZ, 64, .inl t4))] H → va_D A [(mo, .inr (4, [.int th, .int zs, .int rq, .long k, .long l0, .int ti, .int ct, .int (nI n), .ref d1, .ref d2, .ref d3, .ref d4, .ref d5, .ref d6, .int (nI kc), .ref e1, .ref e2, .ref e3, .ref e4, .ref e5, .long v0, .long v1, .long v2, .long v3])), (e4, .inl (cZ, 64, .inl t4))] → va_S A s.heap H locs → lv_has ls 3 [(0, .ref mo), (1, .int (nI w)), (2, .int (nI i))] → W p l e (headSpec wsX4_waiting ({ frames := 0, cells := 0, slots := 0, locals := 0 } : Room)).room s m (([.ref mo] : List Value).toArray) below meth c H locs 0 0 (MQ below (vp_Si (fun (r : Int32) => r = nI (ck_cnt kc t4))) (([.ref mo] : List Value).toArray) s 0 0 (fun _ => False)) (F0 m 4 ls []) := by
    intro fu
    induction fu with
    | zero =>
      intro i w hi hf hw
      exfalso
      omega
    | succ fu ih =>
      intro i w hi hf hw H locs ls eH eL hP hD hS hl
      subst eH; subst eL
      refine lv_iload_n hx hb dX4_waiting_4 rfl (lv_at hl 2 rfl) ?_
      refine lv_aload_n hx hb dX4_waiting_5 rfl (lv_at hl 0 rfl) ?_
      refine va_get (D := (dC, dI)) (ci := 4) (v := .int (nI kc)) (C := RX4) (T := TX4) (N := 24) hx hb hts (k_X4_waiting_in4) hown hK hP 0 rfl rfl 14 (by decide) (hts _ k_X4_waiting_f123) (fun _ h9 => h9) rfl dX4_waiting_6 ?_
      refine lv_icmp_ge (tgt := 35) hx hb dX4_waiting_9 (by decide) (fun c_9 => ?_) (fun c_9 => ?_)
      · skip
        have c_9 : kc ≤ i := (nI_leI (by omega) (by omega)).mp c_9
        refine lv_iload_n hx hb dX4_waiting_35 rfl (lv_at hl 1 rfl) ?_
        refine ck_iq hx hb hr hlocks dX4_waiting_36 ?_
        have e9 : i = kc := by omega
        rw [e9] at hw
        rw [hw]
      · skip
        have c_9 : ¬ (kc ≤ i) := fun z => c_9 ((nI_leI (by omega) (by omega)).mpr z)
        refine lv_aload_n hx hb dX4_waiting_12 rfl (lv_at hl 0 rfl) ?_
        refine va_get (D := (dC, dI)) (ci := 4) (v := .ref e4) (C := RX4) (T := TX4) (N := 24) hx hb hts (k_X4_waiting_in4) hown hK hP 0 rfl rfl 18 (by decide) (hts _ k_X4_waiting_f47) (fun _ h9 => h9) rfl dX4_waiting_13 ?_
        refine lv_iload_n hx hb dX4_waiting_16 rfl (lv_at hl 2 rfl) ?_
        refine ck_zald hx hb hK hP 1 2 rfl rfl (by omega) (by decide) dX4_waiting_17 ?_
        refine lv_if_eq (tgt := 25) hx hb dX4_waiting_18 (by decide) (fun c_18 => ?_) (fun c_18 => ?_)
        · skip
          refine lv_iload_n hx hb dX4_waiting_25 rfl (lv_at hl 1 rfl) ?_
          refine lv_iconst (v := 1) hx hb dX4_waiting_26 (by decide) ?_
          refine lv_iadd hx hb dX4_waiting_27 ?_
          refine ck_toi (y := nI (w + 1)) (nI_1 _) ?_
          refine lv_istore_n (lv' := [(1, .int (nI (w + 1))), (0, .ref mo), (2, .int (nI i))]) hx hb dX4_waiting_28 rfl hl (by decide) rfl (fun ls hl => ?_)
          refine lv_iinc (v := nI (i + 1)) (lv' := [(2, .int (nI (i + 1))), (1, .int (nI (w + 1))), (0, .ref mo)]) hx hb dX4_waiting_29 hl (k := 2) rfl (nI_1 _) (by decide) rfl (fun ls hl => ?_)
          refine lv_goto (tgt := 4) hx hb dX4_waiting_32 (by decide) ?_
          exact ih (i + 1) (w + 1) (by omega) (by omega) (by rw [ck_cntS, if_pos c_18, hw]) _ _ _ rfl rfl (hP.sub [0, 1] rfl) (hD.sub [0, 1] (by decide) rfl) hS (lv_sub hl [2, 1, 0] rfl)
        · skip
          refine lv_iload_n hx hb dX4_waiting_21 rfl (lv_at hl 1 rfl) ?_
          refine lv_goto (tgt := 28) hx hb dX4_waiting_22 (by decide) ?_
          refine lv_istore_n (lv' := [(1, .int (nI w)), (0, .ref mo), (2, .int (nI i))]) hx hb dX4_waiting_28 rfl hl (by decide) rfl (fun ls hl => ?_)
          refine lv_iinc (v := nI (i + 1)) (lv' := [(2, .int (nI (i + 1))), (1, .int (nI w)), (0, .ref mo)]) hx hb dX4_waiting_29 hl (k := 2) rfl (nI_1 _) (by decide) rfl (fun ls hl => ?_)
          refine lv_goto (tgt := 4) hx hb dX4_waiting_32 (by decide) ?_
          exact ih (i + 1) w (by omega) (by omega) (by rw [ck_cntS, if_neg c_18, hw]) _ _ _ rfl rfl (hP.sub [0, 1] rfl) (hD.sub [0, 1] (by decide) rfl) hS (lv_sub hl [2, 1, 0] rfl)
  exact hloop (kc + 1) 0 0 (by omega) (by omega) (rfl) _ _ _ rfl rfl (hP.sub [0, 1] rfl) (hD.sub [0, 1] (by decide) rfl) hS (lv_sub hl [2, 1, 0] rfl)
set_option maxRecDepth 20000 in
theorem k_X4_hasRoom_f13 : (.fieldLink RX4 13 "CookieListenerModel" "room" "I" : Cond) ∈ wsX4_hasRoom := by decide +kernel
set_option maxRecDepth 20000 in
theorem k_X4_hasRoom_in4 : ∀ w ∈ u_ws RX4 TX4 24, w ∈ wsX4_hasRoom := by decide +kernel
set_option maxRecDepth 20000 in
theorem k_X4_hasRoom_f123 : (.fieldLink RX4 123 "CookieListenerModel" "open" "I" : Cond) ∈ wsX4_hasRoom := by decide +kernel
set_option maxHeartbeats 4000000 in
set_option maxRecDepth 100000 in
theorem c_X4_hasRoom (l : Launch) (dC : Nat → ClassId) (dI : Nat → Nat → Nat) (cI cJ cZ : ClassId) (lo sz : Nat) (mo : Nat) (th zs rq : Int32) (k l0 : Int64) (ti ct : Int32) (n : Nat) (d1 d2 d3 d4 d5 d6 : Nat) (kc : Nat) (e1 e2 e3 e4 e5 : Nat) (v0 v1 v2 v3 : Int64) (t4 : Nat → Int32) (hk : kc ≤ 64) : Met l yX4_hasRoom wsX4_hasRoom ({ frames := 1, cells := 0, slots := 0, locals := 22 } : Room) (va_Pc [.ref mo] (ck_P (dC, dI) [(cI, .int), (cJ, .long), (cZ, .boolean)] lo sz [(mo, .inr (4, [.int th, .int zs, .int rq, .long k, .long l0, .int ti, .int ct, .int (nI n), .ref d1, .ref d2, .ref d3, .ref d4, .ref d5, .ref d6, .int (nI kc), .ref e1, .ref e2, .ref e3, .ref e4, .ref e5, .long v0, .long v1, .long v2, .long v3])), (e4, .inl (cZ, 64, .inl t4))])) (vp_Si (fun (r : Int32) => (r = 1 ∧ nI (ck_cnt kc t4) < rq ∧ kc < 64) ∨ (r = 0 ∧ ¬ (nI (ck_cnt kc t4) < rq ∧ kc < 64)))) 0 0 (fun _ => False) := by
  refine Met.ofW (cc := cX4_hasRoom) (maxL := 1) (ret := (some .boolean)) (by decide) rfl ?_
  intro p e s m args below meth c s₁ B hml hv
  obtain ⟨rfl, hsz, hP, hK, hD0, hE⟩ := hv
  have hx := B.exec
  have hb := B.bytes
  have hr := B.returns
  have hts := atoms_spec (ws := wsX4_hasRoom) B.pre
  have hown : s.vm.findClass RX4 = some m.cls := findClass_of_methodNamed B.named
  have hlocks := B.notSynchronized
  subst hsz
  have hD := hD0.self (sz := s.heap.size)
  have hlo := ck_lo (sz := s.heap.size) hD0 hE.1
  generalize hAe : va_A [(mo, .inr (4, [.int th, .int zs, .int rq, .long k, .long l0, .int ti, .int ct, .int (nI n), .ref d1, .ref d2, .ref d3, .ref d4, .ref d5, .ref d6, .int (nI kc), .ref e1, .ref e2, .ref e3, .ref e4, .ref e5, .long v0, .long v1, .long v2, .long v3])), (e4, .inl (cZ, 64, .inl t4))] s.heap.size = A at hD hlo
  have hA : ∀ q : Nat, s.heap.size ≤ q → A q := fun q h => by rw [← hAe]; exact Or.inr h
  have hG : ck_G (dC, dI) [(cI, .int), (cJ, .long), (cZ, .boolean)] lo A s := ⟨hK, hE, hA, hlo⟩
  have hS : va_S A s.heap s.heap [] := va_S.rf
  have hP : va_P (dC, dI) vwCl [(mo, .inr (4, [.int th, .int zs, .int rq, .long k, .long l0, .int ti, .int ct, .int (nI n), .ref d1, .ref d2, .ref d3, .ref d4, .ref d5, .ref d6, .int (nI kc), .ref e1, .ref e2, .ref e3, .ref e4, .ref e5, .long v0, .long v1, .long v2, .long v3])), (e4, .inl (cZ, 64, .inl t4))] s.heap := hP
  have hl := lv_entry ([.ref mo]) (n := 1) (Nat.le_of_ble_eq_true rfl)
  rw [lg_entry_eq]
  generalize (lg_sl ([.ref mo]) ++ List.replicate (1 - (lg_sl ([.ref mo])).length) Slot.unset).toArray = ls at hl ⊢
  have hl : lv_has ls 1 [(0, .ref mo)] := hl
  refine lv_aload_n hx hb dX4_hasRoom_0 rfl (lv_at hl 0 rfl) ?_
  refine ck_ri (va_runV (As := []) (rest := []) ⟨hx, hb, hml, hown, hts⟩ (c_X4_waiting l dC dI cI cJ cZ lo _ mo th zs rq k l0 ti ct n d1 d2 d3 d4 d5 d6 kc e1 e2 e3 e4 e5 v0 v1 v2 v3 t4 (by first | assumption | omega)) (cwV 0 hts gX4_hasRoom_X4_waiting rfl rfl rfl (by decide +kernel) ⟨(Nat.le_of_ble_eq_true rfl), (Nat.le_of_ble_eq_true rfl)⟩) ⟨ck_blind, va_recv hK hP (ci := 4) (q0 := 0) rfl rfl, (ck_pre hG hP hD hS [0, 1] rfl (by decide) _)⟩ rfl rfl hl.1 rfl (lv_room (Nat.le_of_ble_eq_true rfl)) dX4_hasRoom_1 ⟨(Nat.le_of_ble_eq_true rfl), (Nat.le_of_ble_eq_true rfl)⟩) (fun r_1 hw_1 => ?_)
  have hw_1 : r_1 = nI (ck_cnt kc t4) := hw_1
  subst hw_1
  refine lv_aload_n hx hb dX4_hasRoom_4 rfl (lv_at hl 0 rfl) ?_
  refine va_get (D := (dC, dI)) (ci := 4) (v := .int rq) (C := RX4) (T := TX4) (N := 24) hx hb hts (k_X4_hasRoom_in4) hown hK hP 0 rfl rfl 2 (by decide) (hts _ k_X4_hasRoom_f13) (fun _ h9 => h9) rfl dX4_hasRoom_5 ?_
  refine lv_icmp_ge (tgt := 24) hx hb dX4_hasRoom_8 (by decide) (fun c_8 => ?_) (fun c_8 => ?_)
  · skip
    refine lv_iconst (v := 0) hx hb dX4_hasRoom_24 (by decide) ?_
    refine ck_zq hx hb hr hlocks (by first | exact Or.inl rfl | exact Or.inr rfl) dX4_hasRoom_25 ?_
    exact Or.inr ⟨rfl, fun z => absurd z.1 (Int32.not_lt.mpr c_8)⟩
  · skip
    refine lv_aload_n hx hb dX4_hasRoom_11 rfl (lv_at hl 0 rfl) ?_
    refine va_get (D := (dC, dI)) (ci := 4) (v := .int (nI kc)) (C := RX4) (T := TX4) (N := 24) hx hb hts (k_X4_hasRoom_in4) hown hK hP 0 rfl rfl 14 (by decide) (hts _ k_X4_hasRoom_f123) (fun _ h9 => h9) rfl dX4_hasRoom_12 ?_
    refine lv_bipush (v := nI 64) hx hb dX4_hasRoom_15 (by decide) ?_
    refine lv_icmp_ge (tgt := 24) hx hb dX4_hasRoom_17 (by decide) (fun c_17 => ?_) (fun c_17 => ?_)
    · skip
      have c_17 : 64 ≤ kc := (nI_leI (by omega) (by omega)).mp c_17
      refine lv_iconst (v := 0) hx hb dX4_hasRoom_24 (by decide) ?_
      refine ck_zq hx hb hr hlocks (by first | exact Or.inl rfl | exact Or.inr rfl) dX4_hasRoom_25 ?_
      exact Or.inr ⟨rfl, fun z => by omega⟩
    · skip
      have c_17 : ¬ (64 ≤ kc) := fun z => c_17 ((nI_leI (by omega) (by omega)).mpr z)
      refine lv_iconst (v := 1) hx hb dX4_hasRoom_20 (by decide) ?_
      refine lv_goto (tgt := 25) hx hb dX4_hasRoom_21 (by decide) ?_
      refine ck_zq hx hb hr hlocks (by first | exact Or.inl rfl | exact Or.inr rfl) dX4_hasRoom_25 ?_
      exact Or.inl ⟨rfl, Int32.not_le.mp c_8, by omega⟩
set_option maxRecDepth 20000 in
theorem k_X4_come_f38 : (.fieldLink RX4 38 "CookieListenerModel" "openAddress" "[I" : Cond) ∈ wsX4_come := by decide +kernel
set_option maxRecDepth 20000 in
theorem k_X4_come_in4 : ∀ w ∈ u_ws RX4 TX4 24, w ∈ wsX4_come := by decide +kernel
set_option maxRecDepth 20000 in
theorem k_X4_come_f123 : (.fieldLink RX4 123 "CookieListenerModel" "open" "I" : Cond) ∈ wsX4_come := by decide +kernel
set_option maxRecDepth 20000 in
theorem k_X4_come_f41 : (.fieldLink RX4 41 "CookieListenerModel" "openPort" "[I" : Cond) ∈ wsX4_come := by decide +kernel
set_option maxRecDepth 20000 in
theorem k_X4_come_f44 : (.fieldLink RX4 44 "CookieListenerModel" "openKind" "[I" : Cond) ∈ wsX4_come := by decide +kernel
set_option maxRecDepth 20000 in
theorem k_X4_come_f47 : (.fieldLink RX4 47 "CookieListenerModel" "taken" "[Z" : Cond) ∈ wsX4_come := by decide +kernel
set_option maxHeartbeats 4000000 in
set_option maxRecDepth 100000 in
theorem c_X4_come (l : Launch) (dC : Nat → ClassId) (dI : Nat → Nat → Nat) (cI cJ cZ : ClassId) (lo sz : Nat) (mo : Nat) (th zs rq : Int32) (k l0 : Int64) (ti ct : Int32) (n : Nat) (d1 d2 d3 d4 d5 d6 : Nat) (kc : Nat) (e1 e2 e3 e4 e5 : Nat) (v0 v1 v2 v3 : Int64) (t1 t2 t3 t4 : Nat → Int32) (aa bb kd : Int32) (hk : kc < 64) : Met l yX4_come wsX4_come ({ frames := 0, cells := 0, slots := 0, locals := 0 } : Room) (va_Pc [.ref mo, .int aa, .int bb, .int kd] (ck_P (dC, dI) [(cI, .int), (cJ, .long), (cZ, .boolean)] lo sz [(mo, .inr (4, [.int th, .int zs, .int rq, .long k, .long l0, .int ti, .int ct, .int (nI n), .ref d1, .ref d2, .ref d3, .ref d4, .ref d5, .ref d6, .int (nI kc), .ref e1, .ref e2, .ref e3, .ref e4, .ref e5, .long v0, .long v1, .long v2, .long v3])), (e1, .inl (cI, 64, .inl t1)), (e2, .inl (cI, 64, .inl t2)), (e3, .inl (cI, 64, .inl t3)), (e4, .inl (cZ, 64, .inl t4))])) (va_Qv (fun (u : Unit) => True) (fun u => ck_B (dC, dI) vwCl (va_A [(mo, .inr (4, [.int th, .int zs, .int rq, .long k, .long l0, .int ti, .int ct, .int (nI n), .ref d1, .ref d2, .ref d3, .ref d4, .ref d5, .ref d6, .int (nI kc), .ref e1, .ref e2, .ref e3, .ref e4, .ref e5, .long v0, .long v1, .long v2, .long v3])), (e1, .inl (cI, 64, .inl t1)), (e2, .inl (cI, 64, .inl t2)), (e3, .inl (cI, 64, .inl t3)), (e4, .inl (cZ, 64, .inl t4))] sz) ((fun u : Unit => ([(mo, .inr (4, [.int th, .int zs, .int rq, .long k, .long l0, .int ti, .int ct, .int (nI n), .ref d1, .ref d2, .ref d3, .ref d4, .ref d5, .ref d6, .int (nI (kc + 1)), .ref e1, .ref e2, .ref e3, .ref e4, .ref e5, .long v0, .long v1, .long v2, .long v3])), (e1, .inl (cI, 64, .inl (upd t1 kc aa))), (e2, .inl (cI, 64, .inl (upd t2 kc bb))), (e3, .inl (cI, 64, .inl (upd t3 kc kd))), (e4, .inl (cZ, 64, .inl (upd t4 kc 0)))] : va_W)) u)) (va_A [(mo, .inr (4, [.int th, .int zs, .int rq, .long k, .long l0, .int ti, .int ct, .int (nI n), .ref d1, .ref d2, .ref d3, .ref d4, .ref d5, .ref d6, .int (nI kc), .ref e1, .ref e2, .ref e3, .ref e4, .ref e5, .long v0, .long v1, .long v2, .long v3])), (e1, .inl (cI, 64, .inl t1)), (e2, .inl (cI, 64, .inl t2)), (e3, .inl (cI, 64, .inl t3)), (e4, .inl (cZ, 64, .inl t4))] sz)) 0 0 (va_A [(mo, .inr (4, [.int th, .int zs, .int rq, .long k, .long l0, .int ti, .int ct, .int (nI n), .ref d1, .ref d2, .ref d3, .ref d4, .ref d5, .ref d6, .int (nI kc), .ref e1, .ref e2, .ref e3, .ref e4, .ref e5, .long v0, .long v1, .long v2, .long v3])), (e1, .inl (cI, 64, .inl t1)), (e2, .inl (cI, 64, .inl t2)), (e3, .inl (cI, 64, .inl t3)), (e4, .inl (cZ, 64, .inl t4))] sz) := by
  refine Met.ofW (cc := cX4_come) (maxL := 4) (ret := none) (by decide) rfl ?_
  intro p e s m args below meth c s₁ B hml hv
  obtain ⟨rfl, hsz, hP, hK, hD0, hE⟩ := hv
  have hx := B.exec
  have hb := B.bytes
  have hr := B.returns
  have hts := atoms_spec (ws := wsX4_come) B.pre
  have hown : s.vm.findClass RX4 = some m.cls := findClass_of_methodNamed B.named
  have hlocks := B.notSynchronized
  subst hsz
  have hD := hD0.self (sz := s.heap.size)
  have hlo := ck_lo (sz := s.heap.size) hD0 hE.1
  generalize hAe : va_A [(mo, .inr (4, [.int th, .int zs, .int rq, .long k, .long l0, .int ti, .int ct, .int (nI n), .ref d1, .ref d2, .ref d3, .ref d4, .ref d5, .ref d6, .int (nI kc), .ref e1, .ref e2, .ref e3, .ref e4, .ref e5, .long v0, .long v1, .long v2, .long v3])), (e1, .inl (cI, 64, .inl t1)), (e2, .inl (cI, 64, .inl t2)), (e3, .inl (cI, 64, .inl t3)), (e4, .inl (cZ, 64, .inl t4))] s.heap.size = A at hD hlo ⊢
  have hA : ∀ q : Nat, s.heap.size ≤ q → A q := fun q h => by rw [← hAe]; exact Or.inr h
  have hG : ck_G (dC, dI) [(cI, .int), (cJ, .long), (cZ, .boolean)] lo A s := ⟨hK, hE, hA, hlo⟩
  have hS : va_S A s.heap s.heap [] := va_S.rf
  have hP : va_P (dC, dI) vwCl [(mo, .inr (4, [.int th, .int zs, .int rq, .long k, .long l0, .int ti, .int ct, .int (nI n), .ref d1, .ref d2, .ref d3, .ref d4, .ref d5, .ref d6, .int (nI kc), .ref e1, .ref e2, .ref e3, .ref e4, .ref e5, .long v0, .long v1, .long v2, .long v3])), (e1, .inl (cI, 64, .inl t1)), (e2, .inl (cI, 64, .inl t2)), (e3, .inl (cI, 64, .inl t3)), (e4, .inl (cZ, 64, .inl t4))] s.heap := hP
  have hl := lv_entry ([.ref mo, .int aa, .int bb, .int kd]) (n := 4) (Nat.le_of_ble_eq_true rfl)
  rw [lg_entry_eq]
  generalize (lg_sl ([.ref mo, .int aa, .int bb, .int kd]) ++ List.replicate (4 - (lg_sl ([.ref mo, .int aa, .int bb, .int kd])).length) Slot.unset).toArray = ls at hl ⊢
  have hl : lv_has ls 4 [(0, .ref mo), (1, .int aa), (2, .int bb), (3, .int kd)] := hl
  refine lv_aload_n hx hb dX4_come_0 rfl (lv_at hl 0 rfl) ?_
  refine va_get (D := (dC, dI)) (ci := 4) (v := .ref e1) (C := RX4) (T := TX4) (N := 24) hx hb hts (k_X4_come_in4) hown hK hP 0 rfl rfl 15 (by decide) (hts _ k_X4_come_f38) (fun _ h9 => h9) rfl dX4_come_1 ?_
  refine lv_aload_n hx hb dX4_come_4 rfl (lv_at hl 0 rfl) ?_
  refine va_get (D := (dC, dI)) (ci := 4) (v := .int (nI kc)) (C := RX4) (T := TX4) (N := 24) hx hb hts (k_X4_come_in4) hown hK hP 0 rfl rfl 14 (by decide) (hts _ k_X4_come_f123) (fun _ h9 => h9) rfl dX4_come_5 ?_
  refine lv_iload_n hx hb dX4_come_8 rfl (lv_at hl 1 rfl) ?_
  refine ck_iast hx hb hK hP hD hS 1 0 rfl rfl (by omega) (by decide) dX4_come_9 (fun H locs hP hD hS => ?_)
  have hP : va_P (dC, dI) vwCl [(mo, .inr (4, [.int th, .int zs, .int rq, .long k, .long l0, .int ti, .int ct, .int (nI n), .ref d1, .ref d2, .ref d3, .ref d4, .ref d5, .ref d6, .int (nI kc), .ref e1, .ref e2, .ref e3, .ref e4, .ref e5, .long v0, .long v1, .long v2, .long v3])), (e1, .inl (cI, 64, .inl (upd t1 kc aa))), (e2, .inl (cI, 64, .inl t2)), (e3, .inl (cI, 64, .inl t3)), (e4, .inl (cZ, 64, .inl t4))] H := hP
  have hD : va_D A [(mo, .inr (4, [.int th, .int zs, .int rq, .long k, .long l0, .int ti, .int ct, .int (nI n), .ref d1, .ref d2, .ref d3, .ref d4, .ref d5, .ref d6, .int (nI kc), .ref e1, .ref e2, .ref e3, .ref e4, .ref e5, .long v0, .long v1, .long v2, .long v3])), (e1, .inl (cI, 64, .inl (upd t1 kc aa))), (e2, .inl (cI, 64, .inl t2)), (e3, .inl (cI, 64, .inl t3)), (e4, .inl (cZ, 64, .inl t4))] := hD
  refine lv_aload_n hx hb dX4_come_10 rfl (lv_at hl 0 rfl) ?_
  refine va_get (D := (dC, dI)) (ci := 4) (v := .ref e2) (C := RX4) (T := TX4) (N := 24) hx hb hts (k_X4_come_in4) hown hK hP 0 rfl rfl 16 (by decide) (hts _ k_X4_come_f41) (fun _ h9 => h9) rfl dX4_come_11 ?_
  refine lv_aload_n hx hb dX4_come_14 rfl (lv_at hl 0 rfl) ?_
  refine va_get (D := (dC, dI)) (ci := 4) (v := .int (nI kc)) (C := RX4) (T := TX4) (N := 24) hx hb hts (k_X4_come_in4) hown hK hP 0 rfl rfl 14 (by decide) (hts _ k_X4_come_f123) (fun _ h9 => h9) rfl dX4_come_15 ?_
  refine lv_iload_n hx hb dX4_come_18 rfl (lv_at hl 2 rfl) ?_
  refine ck_iast hx hb hK hP hD hS 2 0 rfl rfl (by omega) (by decide) dX4_come_19 (fun H locs hP hD hS => ?_)
  have hP : va_P (dC, dI) vwCl [(mo, .inr (4, [.int th, .int zs, .int rq, .long k, .long l0, .int ti, .int ct, .int (nI n), .ref d1, .ref d2, .ref d3, .ref d4, .ref d5, .ref d6, .int (nI kc), .ref e1, .ref e2, .ref e3, .ref e4, .ref e5, .long v0, .long v1, .long v2, .long v3])), (e1, .inl (cI, 64, .inl (upd t1 kc aa))), (e2, .inl (cI, 64, .inl (upd t2 kc bb))), (e3, .inl (cI, 64, .inl t3)), (e4, .inl (cZ, 64, .inl t4))] H := hP
  have hD : va_D A [(mo, .inr (4, [.int th, .int zs, .int rq, .long k, .long l0, .int ti, .int ct, .int (nI n), .ref d1, .ref d2, .ref d3, .ref d4, .ref d5, .ref d6, .int (nI kc), .ref e1, .ref e2, .ref e3, .ref e4, .ref e5, .long v0, .long v1, .long v2, .long v3])), (e1, .inl (cI, 64, .inl (upd t1 kc aa))), (e2, .inl (cI, 64, .inl (upd t2 kc bb))), (e3, .inl (cI, 64, .inl t3)), (e4, .inl (cZ, 64, .inl t4))] := hD
  refine lv_aload_n hx hb dX4_come_20 rfl (lv_at hl 0 rfl) ?_
  refine va_get (D := (dC, dI)) (ci := 4) (v := .ref e3) (C := RX4) (T := TX4) (N := 24) hx hb hts (k_X4_come_in4) hown hK hP 0 rfl rfl 17 (by decide) (hts _ k_X4_come_f44) (fun _ h9 => h9) rfl dX4_come_21 ?_
  refine lv_aload_n hx hb dX4_come_24 rfl (lv_at hl 0 rfl) ?_
  refine va_get (D := (dC, dI)) (ci := 4) (v := .int (nI kc)) (C := RX4) (T := TX4) (N := 24) hx hb hts (k_X4_come_in4) hown hK hP 0 rfl rfl 14 (by decide) (hts _ k_X4_come_f123) (fun _ h9 => h9) rfl dX4_come_25 ?_
  refine lv_iload_n hx hb dX4_come_28 rfl (lv_at hl 3 rfl) ?_
  refine ck_iast hx hb hK hP hD hS 3 0 rfl rfl (by omega) (by decide) dX4_come_29 (fun H locs hP hD hS => ?_)
  have hP : va_P (dC, dI) vwCl [(mo, .inr (4, [.int th, .int zs, .int rq, .long k, .long l0, .int ti, .int ct, .int (nI n), .ref d1, .ref d2, .ref d3, .ref d4, .ref d5, .ref d6, .int (nI kc), .ref e1, .ref e2, .ref e3, .ref e4, .ref e5, .long v0, .long v1, .long v2, .long v3])), (e1, .inl (cI, 64, .inl (upd t1 kc aa))), (e2, .inl (cI, 64, .inl (upd t2 kc bb))), (e3, .inl (cI, 64, .inl (upd t3 kc kd))), (e4, .inl (cZ, 64, .inl t4))] H := hP
  have hD : va_D A [(mo, .inr (4, [.int th, .int zs, .int rq, .long k, .long l0, .int ti, .int ct, .int (nI n), .ref d1, .ref d2, .ref d3, .ref d4, .ref d5, .ref d6, .int (nI kc), .ref e1, .ref e2, .ref e3, .ref e4, .ref e5, .long v0, .long v1, .long v2, .long v3])), (e1, .inl (cI, 64, .inl (upd t1 kc aa))), (e2, .inl (cI, 64, .inl (upd t2 kc bb))), (e3, .inl (cI, 64, .inl (upd t3 kc kd))), (e4, .inl (cZ, 64, .inl t4))] := hD
  refine lv_aload_n hx hb dX4_come_30 rfl (lv_at hl 0 rfl) ?_
  refine va_get (D := (dC, dI)) (ci := 4) (v := .ref e4) (C := RX4) (T := TX4) (N := 24) hx hb hts (k_X4_come_in4) hown hK hP 0 rfl rfl 18 (by decide) (hts _ k_X4_come_f47) (fun _ h9 => h9) rfl dX4_come_31 ?_
  refine lv_aload_n hx hb dX4_come_34 rfl (lv_at hl 0 rfl) ?_
  refine va_get (D := (dC, dI)) (ci := 4) (v := .int (nI kc)) (C := RX4) (T := TX4) (N := 24) hx hb hts (k_X4_come_in4) hown hK hP 0 rfl rfl 14 (by decide) (hts _ k_X4_come_f123) (fun _ h9 => h9) rfl dX4_come_35 ?_
  refine lv_iconst (v := 0) hx hb dX4_come_38 (by decide) ?_
  refine ck_zast hx hb hK hP hD hS 4 2 rfl rfl (rfl) (by omega) (by decide) dX4_come_39 (fun H locs hP hD hS => ?_)
  have hP : va_P (dC, dI) vwCl [(mo, .inr (4, [.int th, .int zs, .int rq, .long k, .long l0, .int ti, .int ct, .int (nI n), .ref d1, .ref d2, .ref d3, .ref d4, .ref d5, .ref d6, .int (nI kc), .ref e1, .ref e2, .ref e3, .ref e4, .ref e5, .long v0, .long v1, .long v2, .long v3])), (e1, .inl (cI, 64, .inl (upd t1 kc aa))), (e2, .inl (cI, 64, .inl (upd t2 kc bb))), (e3, .inl (cI, 64, .inl (upd t3 kc kd))), (e4, .inl (cZ, 64, .inl (upd t4 kc 0)))] H := hP
  have hD : va_D A [(mo, .inr (4, [.int th, .int zs, .int rq, .long k, .long l0, .int ti, .int ct, .int (nI n), .ref d1, .ref d2, .ref d3, .ref d4, .ref d5, .ref d6, .int (nI kc), .ref e1, .ref e2, .ref e3, .ref e4, .ref e5, .long v0, .long v1, .long v2, .long v3])), (e1, .inl (cI, 64, .inl (upd t1 kc aa))), (e2, .inl (cI, 64, .inl (upd t2 kc bb))), (e3, .inl (cI, 64, .inl (upd t3 kc kd))), (e4, .inl (cZ, 64, .inl (upd t4 kc 0)))] := hD
  refine lv_aload_n hx hb dX4_come_40 rfl (lv_at hl 0 rfl) ?_
  refine lv_dup hx hb dX4_come_41 rfl ?_
  refine va_get (D := (dC, dI)) (ci := 4) (v := .int (nI kc)) (C := RX4) (T := TX4) (N := 24) hx hb hts (k_X4_come_in4) hown hK hP 0 rfl rfl 14 (by decide) (hts _ k_X4_come_f123) (fun _ h9 => h9) rfl dX4_come_42 ?_
  refine lv_iconst (v := 1) hx hb dX4_come_45 (by decide) ?_
  refine lv_iadd hx hb dX4_come_46 ?_
  refine ck_toi (y := nI (kc + 1)) (nI_1 _) ?_
  refine va_put (D := (dC, dI)) (ci := 4) (v := .int (nI (kc + 1))) (ty := .int) (C := RX4) (T := TX4) (N := 24) hx hb hts (k_X4_come_in4) tyX4 tyX4_ok nmX4 hown hK hP hD hS 0 rfl rfl 14 (by decide) (hts _ k_X4_come_f123) (fun _ h9 => h9) rfl (by decide +kernel) rfl rfl (Nat.le_of_ble_eq_true rfl) dX4_come_47 (fun H locs hP hD hS => ?_)
  have hP : va_P (dC, dI) vwCl [(mo, .inr (4, [.int th, .int zs, .int rq, .long k, .long l0, .int ti, .int ct, .int (nI n), .ref d1, .ref d2, .ref d3, .ref d4, .ref d5, .ref d6, .int (nI (kc + 1)), .ref e1, .ref e2, .ref e3, .ref e4, .ref e5, .long v0, .long v1, .long v2, .long v3])), (e1, .inl (cI, 64, .inl (upd t1 kc aa))), (e2, .inl (cI, 64, .inl (upd t2 kc bb))), (e3, .inl (cI, 64, .inl (upd t3 kc kd))), (e4, .inl (cZ, 64, .inl (upd t4 kc 0)))] H := hP
  have hD : va_D A [(mo, .inr (4, [.int th, .int zs, .int rq, .long k, .long l0, .int ti, .int ct, .int (nI n), .ref d1, .ref d2, .ref d3, .ref d4, .ref d5, .ref d6, .int (nI (kc + 1)), .ref e1, .ref e2, .ref e3, .ref e4, .ref e5, .long v0, .long v1, .long v2, .long v3])), (e1, .inl (cI, 64, .inl (upd t1 kc aa))), (e2, .inl (cI, 64, .inl (upd t2 kc bb))), (e3, .inl (cI, 64, .inl (upd t3 kc kd))), (e4, .inl (cZ, 64, .inl (upd t4 kc 0)))] := hD
  subst_vars
  refine ck_vr hx hb hr hlocks (Nat.le_of_ble_eq_true rfl) (Nat.le_of_ble_eq_true rfl) dX4_come_50 () hP hD hS ?_
  exact trivial
set_option maxHeartbeats 4000000 in
set_option maxRecDepth 100000 in
theorem c_X4_kindOf (l : Launch) (dC : Nat → ClassId) (dI : Nat → Nat → Nat) (cI cJ cZ : ClassId) (lo sz : Nat) (z : Int32) : Met l yX4_kindOf wsX4_kindOf ({ frames := 0, cells := 0, slots := 0, locals := 0 } : Room) (va_Pc [.int z] (ck_P (dC, dI) [(cI, .int), (cJ, .long), (cZ, .boolean)] lo sz [])) (vp_Si (fun (r : Int32) => r = ck_kdi 8 z)) 0 0 (fun _ => False) := by
  refine Met.ofW (cc := cX4_kindOf) (maxL := 1) (ret := (some .int)) (by decide) rfl ?_
  intro p e s m args below meth c s₁ B hml hv
  obtain ⟨rfl, hsz, hP, hK, hD0, hE⟩ := hv
  have hx := B.exec
  have hb := B.bytes
  have hr := B.returns
  have hts := atoms_spec (ws := wsX4_kindOf) B.pre
  have hown : s.vm.findClass RX4 = some m.cls := findClass_of_methodNamed B.named
  have hlocks := B.notSynchronized
  subst hsz
  have hD := hD0.self (sz := s.heap.size)
  have hlo := ck_lo (sz := s.heap.size) hD0 hE.1
  generalize hAe : va_A [] s.heap.size = A at hD hlo
  have hA : ∀ q : Nat, s.heap.size ≤ q → A q := fun q h => by rw [← hAe]; exact Or.inr h
  have hG : ck_G (dC, dI) [(cI, .int), (cJ, .long), (cZ, .boolean)] lo A s := ⟨hK, hE, hA, hlo⟩
  have hS : va_S A s.heap s.heap [] := va_S.rf
  have hP : va_P (dC, dI) vwCl [] s.heap := hP
  have hl := lv_entry ([.int z]) (n := 1) (Nat.le_of_ble_eq_true rfl)
  rw [lg_entry_eq]
  generalize (lg_sl ([.int z]) ++ List.replicate (1 - (lg_sl ([.int z])).length) Slot.unset).toArray = ls at hl ⊢
  have hl : lv_has ls 1 [(0, .int z)] := hl
  refine lv_iload_n hx hb dX4_kindOf_0 rfl (lv_at hl 0 rfl) ?_
  refine lv_sipush (v := 4096) hx hb dX4_kindOf_1 (by decide) ?_
  refine lv_icmp_lt (tgt := 12) hx hb dX4_kindOf_4 (by decide) (fun c_4 => ?_) (fun c_4 => ?_)
  · skip
    refine lv_iload_n hx hb dX4_kindOf_12 rfl (lv_at hl 0 rfl) ?_
    refine lv_sipush (v := 1460) hx hb dX4_kindOf_13 (by decide) ?_
    refine lv_icmp_lt (tgt := 24) hx hb dX4_kindOf_16 (by decide) (fun c_16 => ?_) (fun c_16 => ?_)
    · skip
      refine lv_iload_n hx hb dX4_kindOf_24 rfl (lv_at hl 0 rfl) ?_
      refine lv_sipush (v := 1440) hx hb dX4_kindOf_25 (by decide) ?_
      refine lv_icmp_lt (tgt := 35) hx hb dX4_kindOf_28 (by decide) (fun c_28 => ?_) (fun c_28 => ?_)
      · skip
        refine lv_iload_n hx hb dX4_kindOf_35 rfl (lv_at hl 0 rfl) ?_
        refine lv_sipush (v := 1220) hx hb dX4_kindOf_36 (by decide) ?_
        refine lv_icmp_lt (tgt := 46) hx hb dX4_kindOf_39 (by decide) (fun c_39 => ?_) (fun c_39 => ?_)
        · skip
          refine lv_iload_n hx hb dX4_kindOf_46 rfl (lv_at hl 0 rfl) ?_
          refine lv_sipush (v := 1024) hx hb dX4_kindOf_47 (by decide) ?_
          refine lv_icmp_lt (tgt := 57) hx hb dX4_kindOf_50 (by decide) (fun c_50 => ?_) (fun c_50 => ?_)
          · skip
            refine lv_iload_n hx hb dX4_kindOf_57 rfl (lv_at hl 0 rfl) ?_
            refine lv_sipush (v := 536) hx hb dX4_kindOf_58 (by decide) ?_
            refine lv_icmp_lt (tgt := 68) hx hb dX4_kindOf_61 (by decide) (fun c_61 => ?_) (fun c_61 => ?_)
            · skip
              refine lv_iload_n hx hb dX4_kindOf_68 rfl (lv_at hl 0 rfl) ?_
              refine lv_sipush (v := 256) hx hb dX4_kindOf_69 (by decide) ?_
              refine lv_icmp_lt (tgt := 79) hx hb dX4_kindOf_72 (by decide) (fun c_72 => ?_) (fun c_72 => ?_)
              · skip
                refine lv_iconst (v := 0) hx hb dX4_kindOf_79 (by decide) ?_
                refine ck_iq hx hb hr hlocks dX4_kindOf_80 ?_
                rw [ck_kdS 7 z, if_neg (show ¬ ck_sz.getD 7 0 ≤ z from Int32.not_le.mpr c_4)]
                rw [ck_kdS 6 z, if_neg (show ¬ ck_sz.getD 6 0 ≤ z from Int32.not_le.mpr c_16)]
                rw [ck_kdS 5 z, if_neg (show ¬ ck_sz.getD 5 0 ≤ z from Int32.not_le.mpr c_28)]
                rw [ck_kdS 4 z, if_neg (show ¬ ck_sz.getD 4 0 ≤ z from Int32.not_le.mpr c_39)]
                rw [ck_kdS 3 z, if_neg (show ¬ ck_sz.getD 3 0 ≤ z from Int32.not_le.mpr c_50)]
                rw [ck_kdS 2 z, if_neg (show ¬ ck_sz.getD 2 0 ≤ z from Int32.not_le.mpr c_61)]
                rw [ck_kdS 1 z, if_neg (show ¬ ck_sz.getD 1 0 ≤ z from Int32.not_le.mpr c_72)]
                rw [ck_kdS 0 z]
                split <;> rfl
              · skip
                refine lv_iconst (v := 1) hx hb dX4_kindOf_75 (by decide) ?_
                refine lv_goto (tgt := 80) hx hb dX4_kindOf_76 (by decide) ?_
                refine ck_iq hx hb hr hlocks dX4_kindOf_80 ?_
                rw [ck_kdS 7 z, if_neg (show ¬ ck_sz.getD 7 0 ≤ z from Int32.not_le.mpr c_4)]
                rw [ck_kdS 6 z, if_neg (show ¬ ck_sz.getD 6 0 ≤ z from Int32.not_le.mpr c_16)]
                rw [ck_kdS 5 z, if_neg (show ¬ ck_sz.getD 5 0 ≤ z from Int32.not_le.mpr c_28)]
                rw [ck_kdS 4 z, if_neg (show ¬ ck_sz.getD 4 0 ≤ z from Int32.not_le.mpr c_39)]
                rw [ck_kdS 3 z, if_neg (show ¬ ck_sz.getD 3 0 ≤ z from Int32.not_le.mpr c_50)]
                rw [ck_kdS 2 z, if_neg (show ¬ ck_sz.getD 2 0 ≤ z from Int32.not_le.mpr c_61)]
                rw [ck_kdS 1 z, if_pos (show ck_sz.getD 1 0 ≤ z from Int32.not_lt.mp c_72)]
                rfl
            · skip
              refine lv_iconst (v := 2) hx hb dX4_kindOf_64 (by decide) ?_
              refine lv_goto (tgt := 80) hx hb dX4_kindOf_65 (by decide) ?_
              refine ck_iq hx hb hr hlocks dX4_kindOf_80 ?_
              rw [ck_kdS 7 z, if_neg (show ¬ ck_sz.getD 7 0 ≤ z from Int32.not_le.mpr c_4)]
              rw [ck_kdS 6 z, if_neg (show ¬ ck_sz.getD 6 0 ≤ z from Int32.not_le.mpr c_16)]
              rw [ck_kdS 5 z, if_neg (show ¬ ck_sz.getD 5 0 ≤ z from Int32.not_le.mpr c_28)]
              rw [ck_kdS 4 z, if_neg (show ¬ ck_sz.getD 4 0 ≤ z from Int32.not_le.mpr c_39)]
              rw [ck_kdS 3 z, if_neg (show ¬ ck_sz.getD 3 0 ≤ z from Int32.not_le.mpr c_50)]
              rw [ck_kdS 2 z, if_pos (show ck_sz.getD 2 0 ≤ z from Int32.not_lt.mp c_61)]
              rfl
          · skip
            refine lv_iconst (v := 3) hx hb dX4_kindOf_53 (by decide) ?_
            refine lv_goto (tgt := 80) hx hb dX4_kindOf_54 (by decide) ?_
            refine ck_iq hx hb hr hlocks dX4_kindOf_80 ?_
            rw [ck_kdS 7 z, if_neg (show ¬ ck_sz.getD 7 0 ≤ z from Int32.not_le.mpr c_4)]
            rw [ck_kdS 6 z, if_neg (show ¬ ck_sz.getD 6 0 ≤ z from Int32.not_le.mpr c_16)]
            rw [ck_kdS 5 z, if_neg (show ¬ ck_sz.getD 5 0 ≤ z from Int32.not_le.mpr c_28)]
            rw [ck_kdS 4 z, if_neg (show ¬ ck_sz.getD 4 0 ≤ z from Int32.not_le.mpr c_39)]
            rw [ck_kdS 3 z, if_pos (show ck_sz.getD 3 0 ≤ z from Int32.not_lt.mp c_50)]
            rfl
        · skip
          refine lv_iconst (v := 4) hx hb dX4_kindOf_42 (by decide) ?_
          refine lv_goto (tgt := 80) hx hb dX4_kindOf_43 (by decide) ?_
          refine ck_iq hx hb hr hlocks dX4_kindOf_80 ?_
          rw [ck_kdS 7 z, if_neg (show ¬ ck_sz.getD 7 0 ≤ z from Int32.not_le.mpr c_4)]
          rw [ck_kdS 6 z, if_neg (show ¬ ck_sz.getD 6 0 ≤ z from Int32.not_le.mpr c_16)]
          rw [ck_kdS 5 z, if_neg (show ¬ ck_sz.getD 5 0 ≤ z from Int32.not_le.mpr c_28)]
          rw [ck_kdS 4 z, if_pos (show ck_sz.getD 4 0 ≤ z from Int32.not_lt.mp c_39)]
          rfl
      · skip
        refine lv_iconst (v := 5) hx hb dX4_kindOf_31 (by decide) ?_
        refine lv_goto (tgt := 80) hx hb dX4_kindOf_32 (by decide) ?_
        refine ck_iq hx hb hr hlocks dX4_kindOf_80 ?_
        rw [ck_kdS 7 z, if_neg (show ¬ ck_sz.getD 7 0 ≤ z from Int32.not_le.mpr c_4)]
        rw [ck_kdS 6 z, if_neg (show ¬ ck_sz.getD 6 0 ≤ z from Int32.not_le.mpr c_16)]
        rw [ck_kdS 5 z, if_pos (show ck_sz.getD 5 0 ≤ z from Int32.not_lt.mp c_28)]
        rfl
    · skip
      refine lv_bipush (v := 6) hx hb dX4_kindOf_19 (by decide) ?_
      refine lv_goto (tgt := 80) hx hb dX4_kindOf_21 (by decide) ?_
      refine ck_iq hx hb hr hlocks dX4_kindOf_80 ?_
      rw [ck_kdS 7 z, if_neg (show ¬ ck_sz.getD 7 0 ≤ z from Int32.not_le.mpr c_4)]
      rw [ck_kdS 6 z, if_pos (show ck_sz.getD 6 0 ≤ z from Int32.not_lt.mp c_16)]
      rfl
  · skip
    refine lv_bipush (v := 7) hx hb dX4_kindOf_7 (by decide) ?_
    refine lv_goto (tgt := 80) hx hb dX4_kindOf_9 (by decide) ?_
    refine ck_iq hx hb hr hlocks dX4_kindOf_80 ?_
    rw [ck_kdS 7 z, if_pos (show ck_sz.getD 7 0 ≤ z from Int32.not_lt.mp c_4)]
    rfl
