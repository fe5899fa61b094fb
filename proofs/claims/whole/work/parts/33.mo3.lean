def ck_mly (ct ti : Int32) : Prop := ¬ ct < 0 ∧ ti - ct ≤ 128
def ck_mlate (k l : Int64) (a b num kd ti ca : Int32) : Prop := ca = ck_mck k l a b num kd (ti / 64) ∨ (0 < ti / 64 ∧ ca = ck_mck k l a b num kd (ti / 64 - 1))
set_option maxRecDepth 20000 in
theorem k_X4_pass_f54 : (.fieldLink RX4 54 "CookieListenerModel" "thrown" "I" : Cond) ∈ wsX4_pass := by decide +kernel
set_option maxRecDepth 20000 in
theorem k_X4_pass_in4 : ∀ w ∈ u_ws RX4 TX4 24, w ∈ wsX4_pass := by decide +kernel
set_option maxRecDepth 20000 in
theorem k_X4_pass_f130 : (.fieldLink RX4 130 "CookieListenerModel" "time" "I" : Cond) ∈ wsX4_pass := by decide +kernel
set_option maxRecDepth 20000 in
theorem k_X4_pass_f120 : (.fieldLink RX4 120 "CookieListenerModel" "halves" "I" : Cond) ∈ wsX4_pass := by decide +kernel
set_option maxRecDepth 20000 in
theorem k_X4_pass_f35 : (.fieldLink RX4 35 "CookieListenerModel" "halfTime" "[I" : Cond) ∈ wsX4_pass := by decide +kernel
set_option maxHeartbeats 4000000 in
set_option maxRecDepth 100000 in
theorem c_X4_pass (l : Launch) (dC : Nat → ClassId) (dI : Nat → Nat → Nat) (cI cJ cZ : ClassId) (lo sz : Nat) (mo : Nat) (th zs rq : Int32) (k l0 : Int64) (ti ct : Int32) (n : Nat) (d1 d2 d3 d4 d5 d6 : Nat) (kc : Nat) (e1 e2 e3 e4 e5 : Nat) (v0 v1 v2 v3 : Int64) (p1 p2 p3 p4 p5 p6 : Nat → Int32) (se : Int32) (hs1 : 0 ≤ se) (hs2 : se ≤ 10000) (hn : n ≤ 32) (hpo : ∀ i, i < n → ck_pok (p2 i)) : Met l yX4_pass wsX4_pass ({ frames := 1, cells := 0, slots := 0, locals := 22 } : Room) (va_Pc [.ref mo, .int se] (ck_P (dC, dI) [(cI, .int), (cJ, .long), (cZ, .boolean)] lo sz [(mo, .inr (4, [.int th, .int zs, .int rq, .long k, .long l0, .int ti, .int ct, .int (nI n), .ref d1, .ref d2, .ref d3, .ref d4, .ref d5, .ref d6, .int (nI kc), .ref e1, .ref e2, .ref e3, .ref e4, .ref e5, .long v0, .long v1, .long v2, .long v3])), (d1, .inl (cI, 32, .inl p1)), (d2, .inl (cI, 32, .inl p2)), (d3, .inl (cI, 32, .inl p3)), (d4, .inl (cI, 32, .inl p4)), (d5, .inl (cI, 32, .inl p5)), (d6, .inl (cI, 32, .inl p6))])) (va_Qi (fun (r : Int32) (u : Int32 × Nat × (Nat → Int32) × (Nat → Int32) × (Nat → Int32) × (Nat → Int32) × (Nat → Int32) × (Nat → Int32)) => u.1 = ti + se ∧ r = ti + se ∧ u.2.1 ≤ n ∧ (ck_L u.2.1 (ck_M u.2.2.1 u.2.2.2.1 u.2.2.2.2.1 u.2.2.2.2.2.1 u.2.2.2.2.2.2.1 u.2.2.2.2.2.2.2)).Perm ((ck_L n (ck_M p1 p2 p3 p4 p5 p6)).filter (ck_yng (ti + se))) ∧ ∀ i, i < u.2.1 → ck_pok (u.2.2.2.1 i)) (fun u => ck_B (dC, dI) vwCl (va_A [(mo, .inr (4, [.int th, .int zs, .int rq, .long k, .long l0, .int ti, .int ct, .int (nI n), .ref d1, .ref d2, .ref d3, .ref d4, .ref d5, .ref d6, .int (nI kc), .ref e1, .ref e2, .ref e3, .ref e4, .ref e5, .long v0, .long v1, .long v2, .long v3])), (d1, .inl (cI, 32, .inl p1)), (d2, .inl (cI, 32, .inl p2)), (d3, .inl (cI, 32, .inl p3)), (d4, .inl (cI, 32, .inl p4)), (d5, .inl (cI, 32, .inl p5)), (d6, .inl (cI, 32, .inl p6))] sz) ((fun u : Int32 × Nat × (Nat → Int32) × (Nat → Int32) × (Nat → Int32) × (Nat → Int32) × (Nat → Int32) × (Nat → Int32) => ([(mo, .inr (4, [.int 0, .int zs, .int rq, .long k, .long l0, .int u.1, .int ct, .int (nI u.2.1), .ref d1, .ref d2, .ref d3, .ref d4, .ref d5, .ref d6, .int (nI kc), .ref e1, .ref e2, .ref e3, .ref e4, .ref e5, .long v0, .long v1, .long v2, .long v3])), (d1, .inl (cI, 32, .inl u.2.2.1)), (d2, .inl (cI, 32, .inl u.2.2.2.1)), (d3, .inl (cI, 32, .inl u.2.2.2.2.1)), (d4, .inl (cI, 32, .inl u.2.2.2.2.2.1)), (d5, .inl (cI, 32, .inl u.2.2.2.2.2.2.1)), (d6, .inl (cI, 32, .inl u.2.2.2.2.2.2.2))] : va_W)) u)) (va_A [(mo, .inr (4, [.int th, .int zs, .int rq, .long k, .long l0, .int ti, .int ct, .int (nI n), .ref d1, .ref d2, .ref d3, .ref d4, .ref d5, .ref d6, .int (nI kc), .ref e1, .ref e2, .ref e3, .ref e4, .ref e5, .long v0, .long v1, .long v2, .long v3])), (d1, .inl (cI, 32, .inl p1)), (d2, .inl (cI, 32, .inl p2)), (d3, .inl (cI, 32, .inl p3)), (d4, .inl (cI, 32, .inl p4)), (d5, .inl (cI, 32, .inl p5)), (d6, .inl (cI, 32, .inl p6))] sz)) 0 0 (va_A [(mo, .inr (4, [.int th, .int zs, .int rq, .long k, .long l0, .int ti, .int ct, .int (nI n), .ref d1, .ref d2, .ref d3, .ref d4, .ref d5, .ref d6, .int (nI kc), .ref e1, .ref e2, .ref e3, .ref e4, .ref e5, .long v0, .long v1, .long v2, .long v3])), (d1, .inl (cI, 32, .inl p1)), (d2, .inl (cI, 32, .inl p2)), (d3, .inl (cI, 32, .inl p3)), (d4, .inl (cI, 32, .inl p4)), (d5, .inl (cI, 32, .inl p5)), (d6, .inl (cI, 32, .inl p6))] sz) := by
  refine Met.ofW (cc := cX4_pass) (maxL := 3) (ret := (some .int)) (by decide) rfl ?_
  intro p e s m args below meth c s₁ B hml hv
  obtain ⟨rfl, hsz, hP, hK, hD0, hE⟩ := hv
  have hx := B.exec
  have hb := B.bytes
  have hr := B.returns
  have hts := atoms_spec (ws := wsX4_pass) B.pre
  have hown : s.vm.findClass RX4 = some m.cls := findClass_of_methodNamed B.named
  have hlocks := B.notSynchronized
  subst hsz
  have hD := hD0.self (sz := s.heap.size)
  have hlo := ck_lo (sz := s.heap.size) hD0 hE.1
  generalize hAe : va_A [(mo, .inr (4, [.int th, .int zs, .int rq, .long k, .long l0, .int ti, .int ct, .int (nI n), .ref d1, .ref d2, .ref d3, .ref d4, .ref d5, .ref d6, .int (nI kc), .ref e1, .ref e2, .ref e3, .ref e4, .ref e5, .long v0, .long v1, .long v2, .long v3])), (d1, .inl (cI, 32, .inl p1)), (d2, .inl (cI, 32, .inl p2)), (d3, .inl (cI, 32, .inl p3)), (d4, .inl (cI, 32, .inl p4)), (d5, .inl (cI, 32, .inl p5)), (d6, .inl (cI, 32, .inl p6))] s.heap.size = A at hD hlo ⊢
  have hA : ∀ q : Nat, s.heap.size ≤ q → A q := fun q h => by rw [← hAe]; exact Or.inr h
  have hG : ck_G (dC, dI) [(cI, .int), (cJ, .long), (cZ, .boolean)] lo A s := ⟨hK, hE, hA, hlo⟩
  have hS : va_S A s.heap s.heap [] := va_S.rf
  have hP : va_P (dC, dI) vwCl [(mo, .inr (4, [.int th, .int zs, .int rq, .long k, .long l0, .int ti, .int ct, .int (nI n), .ref d1, .ref d2, .ref d3, .ref d4, .ref d5, .ref d6, .int (nI kc), .ref e1, .ref e2, .ref e3, .ref e4, .ref e5, .long v0, .long v1, .long v2, .long v3])), (d1, .inl (cI, 32, .inl p1)), (d2, .inl (cI, 32, .inl p2)), (d3, .inl (cI, 32, .inl p3)), (d4, .inl (cI, 32, .inl p4)), (d5, .inl (cI, 32, .inl p5)), (d6, .inl (cI, 32, .inl p6))] s.heap := hP
  have hl := lv_entry ([.ref mo, .int se]) (n := 3) (Nat.le_of_ble_eq_true rfl)
  rw [lg_entry_eq]
  generalize (lg_sl ([.ref mo, .int se]) ++ List.replicate (3 - (lg_sl ([.ref mo, .int se])).length) Slot.unset).toArray = ls at hl ⊢
  have hl : lv_has ls 3 [(0, .ref mo), (1, .int se)] := hl
  refine lv_aload_n hx hb dX4_pass_0 rfl (lv_at hl 0 rfl) ?_
  refine lv_iload_n hx hb dX4_pass_1 rfl (lv_at hl 1 rfl) ?_
  refine lv_if_lt (tgt := 12) hx hb dX4_pass_2 (by decide) (fun c_2 => ?_) (fun c_2 => ?_)
  · skip
    exact absurd c_2 (Int32.not_lt.mpr hs1)
  · skip
    refine lv_iload_n hx hb dX4_pass_5 rfl (lv_at hl 1 rfl) ?_
    refine lv_sipush (v := 10000) hx hb dX4_pass_6 (by decide) ?_
    refine lv_icmp_le (tgt := 16) hx hb dX4_pass_9 (by decide) (fun c_9 => ?_) (fun c_9 => ?_)
    · skip
      refine lv_iconst (v := 0) hx hb dX4_pass_16 (by decide) ?_
      refine va_put (D := (dC, dI)) (ci := 4) (v := .int 0) (ty := .int) (C := RX4) (T := TX4) (N := 24) hx hb hts (k_X4_pass_in4) tyX4 tyX4_ok nmX4 hown hK hP hD hS 0 rfl rfl 0 (by decide) (hts _ k_X4_pass_f54) (fun _ h9 => h9) rfl (by decide +kernel) rfl rfl (Nat.le_of_ble_eq_true rfl) dX4_pass_17 (fun H locs hP hD hS => ?_)
      have hP : va_P (dC, dI) vwCl [(mo, .inr (4, [.int 0, .int zs, .int rq, .long k, .long l0, .int ti, .int ct, .int (nI n), .ref d1, .ref d2, .ref d3, .ref d4, .ref d5, .ref d6, .int (nI kc), .ref e1, .ref e2, .ref e3, .ref e4, .ref e5, .long v0, .long v1, .long v2, .long v3])), (d1, .inl (cI, 32, .inl p1)), (d2, .inl (cI, 32, .inl p2)), (d3, .inl (cI, 32, .inl p3)), (d4, .inl (cI, 32, .inl p4)), (d5, .inl (cI, 32, .inl p5)), (d6, .inl (cI, 32, .inl p6))] H := hP
      have hD : va_D A [(mo, .inr (4, [.int 0, .int zs, .int rq, .long k, .long l0, .int ti, .int ct, .int (nI n), .ref d1, .ref d2, .ref d3, .ref d4, .ref d5, .ref d6, .int (nI kc), .ref e1, .ref e2, .ref e3, .ref e4, .ref e5, .long v0, .long v1, .long v2, .long v3])), (d1, .inl (cI, 32, .inl p1)), (d2, .inl (cI, 32, .inl p2)), (d3, .inl (cI, 32, .inl p3)), (d4, .inl (cI, 32, .inl p4)), (d5, .inl (cI, 32, .inl p5)), (d6, .inl (cI, 32, .inl p6))] := hD
      refine lv_aload_n hx hb dX4_pass_20 rfl (lv_at hl 0 rfl) ?_
      refine va_get (D := (dC, dI)) (ci := 4) (v := .int 0) (C := RX4) (T := TX4) (N := 24) hx hb hts (k_X4_pass_in4) hown hK hP 0 rfl rfl 0 (by decide) (hts _ k_X4_pass_f54) (fun _ h9 => h9) rfl dX4_pass_21 ?_
      refine lv_if_le (tgt := 29) hx hb dX4_pass_24 (by decide) (fun c_24 => ?_) (fun c_24 => ?_)
      · skip
        refine lv_aload_n hx hb dX4_pass_29 rfl (lv_at hl 0 rfl) ?_
        refine lv_aload_n hx hb dX4_pass_30 rfl (lv_at hl 0 rfl) ?_
        refine va_get (D := (dC, dI)) (ci := 4) (v := .int ti) (C := RX4) (T := TX4) (N := 24) hx hb hts (k_X4_pass_in4) hown hK hP 0 rfl rfl 5 (by decide) (hts _ k_X4_pass_f130) (fun _ h9 => h9) rfl dX4_pass_31 ?_
        refine lv_iload_n hx hb dX4_pass_34 rfl (lv_at hl 1 rfl) ?_
        refine lv_iadd hx hb dX4_pass_35 ?_
        refine lv_topi (fun tm etm => ?_)
        refine va_put (D := (dC, dI)) (ci := 4) (v := .int tm) (ty := .int) (C := RX4) (T := TX4) (N := 24) hx hb hts (k_X4_pass_in4) tyX4 tyX4_ok nmX4 hown hK hP hD hS 0 rfl rfl 5 (by decide) (hts _ k_X4_pass_f130) (fun _ h9 => h9) rfl (by decide +kernel) rfl rfl (Nat.le_of_ble_eq_true rfl) dX4_pass_36 (fun H locs hP hD hS => ?_)
        have hP : va_P (dC, dI) vwCl [(mo, .inr (4, [.int 0, .int zs, .int rq, .long k, .long l0, .int tm, .int ct, .int (nI n), .ref d1, .ref d2, .ref d3, .ref d4, .ref d5, .ref d6, .int (nI kc), .ref e1, .ref e2, .ref e3, .ref e4, .ref e5, .long v0, .long v1, .long v2, .long v3])), (d1, .inl (cI, 32, .inl p1)), (d2, .inl (cI, 32, .inl p2)), (d3, .inl (cI, 32, .inl p3)), (d4, .inl (cI, 32, .inl p4)), (d5, .inl (cI, 32, .inl p5)), (d6, .inl (cI, 32, .inl p6))] H := hP
        have hD : va_D A [(mo, .inr (4, [.int 0, .int zs, .int rq, .long k, .long l0, .int tm, .int ct, .int (nI n), .ref d1, .ref d2, .ref d3, .ref d4, .ref d5, .ref d6, .int (nI kc), .ref e1, .ref e2, .ref e3, .ref e4, .ref e5, .long v0, .long v1, .long v2, .long v3])), (d1, .inl (cI, 32, .inl p1)), (d2, .inl (cI, 32, .inl p2)), (d3, .inl (cI, 32, .inl p3)), (d4, .inl (cI, 32, .inl p4)), (d5, .inl (cI, 32, .inl p5)), (d6, .inl (cI, 32, .inl p6))] := hD
        refine lv_aload_n hx hb dX4_pass_39 rfl (lv_at hl 0 rfl) ?_
        refine va_get (D := (dC, dI)) (ci := 4) (v := .int (nI n)) (C := RX4) (T := TX4) (N := 24) hx hb hts (k_X4_pass_in4) hown hK hP 0 rfl rfl 7 (by decide) (hts _ k_X4_pass_f120) (fun _ h9 => h9) rfl dX4_pass_40 ?_
        refine lv_iconst (v := 1) hx hb dX4_pass_43 (by decide) ?_
        refine lv_isub hx hb dX4_pass_44 ?_
        refine lv_istore_n (lv' := [(2, .int ((nI n) - 1)), (0, .ref mo), (1, .int se)]) hx hb dX4_pass_45 rfl hl (by decide) rfl (fun ls hl => ?_)
        have hloop : ∀ (fu : Nat) (i : Nat) (n3 : Nat) (y1 : Nat → Int32) (y2 : Nat → Int32) (y3 : Nat → Int32) (y4 : Nat → Int32) (y5 : Nat → Int32) (y6 : Nat → Int32), (i < fu) → (ck_old (ck_yng tm) n (ck_M p1 p2 p3 p4 p5 p6) i n3 (ck_M y1 y2 y3 y4 y5 y6)) → (∀ q, q < n3 → ck_pok (y2 q)) → ∀ (H : Heap) (locs : List Loc) (ls : Array Slot), va_P (dC, dI) vwCl [(mo, .inr (4, [.int 0, .int zs, .int rq, .long k, .long l0, .int tm, .int ct, .int (nI n3), .ref d1, .ref d2, .ref d3, .ref d4, .ref d5, .ref d6, .int (nI kc), .ref e1, .ref e2, .ref e3, .ref e4, .ref e5, .long v0, .long v1, .long v2, .long v3])), (d1, .inl (cI, 32, .inl y1)), (d2, .inl (cI, 32, .inl y2)), (d3, .inl (cI, 32, .inl y3)), (d4, .inl (cI, 32, .inl y4)), (d5, .inl (cI, 32, .inl y5)), (d6, .inl (cI, 32, .inl y6))] H → va_D A [(mo, .inr (4, [.int 0, .int zs, .int rq, .long k, .long l0, .int tm, .int ct, .int (nI n3), .ref d1, .ref d2, .ref d3, .ref d4, .ref d5, .ref d6, .int (nI kc), .ref e1, .ref e2, .ref e3, .ref e4, .ref e5, .long v0, .long v1, .long v2, .long v3])), (d1, .inl (cI, 32, .inl y1)), (d2, .inl (cI, 32, .inl y2)), (d3, .inl (cI, 32, .inl y3)), (d4, .inl (cI, 32, .inl y4)), (d5, .inl (cI, 32, .inl y5)), (d6, .inl (cI, 32, .inl y6))] → va_S A s.heap H locs → lv_has ls 3 [(0, .ref mo), (1, .int se), (2, .int (nI i - 1))] → W p l e (headSpec wsX4_pass ({ frames := 1, cells := 0, slots := 0, locals := 22 } : Room)).room s m (([.ref mo, .int se] : List Value).toArray) below meth c H locs 0 0 (MQ below (va_Qi (fun (r : Int32) (u : Int32 × Nat × (Nat → Int32) × (Nat → Int32) × (Nat → Int32) × (Nat → Int32) × (Nat → Int32) × (Nat → Int32)) => u.1 = ti + se ∧ r = ti + se ∧ u.2.1 ≤ n ∧ (ck_L u.2.1 (ck_M u.2.2.1 u.2.2.2.1 u.2.2.2.2.1 u.2.2.2.2.2.1 u.2.2.2.2.2.2.1 u.2.2.2.2.2.2.2)).Perm ((ck_L n (ck_M p1 p2 p3 p4 p5 p6)).filter (ck_yng (ti + se))) ∧ ∀ i, i < u.2.1 → ck_pok (u.2.2.2.1 i)) (fun u => ck_B (dC, dI) vwCl A ((fun u : Int32 × Nat × (Nat → Int32) × (Nat → Int32) × (Nat → Int32) × (Nat → Int32) × (Nat → Int32) × (Nat → Int32) => ([(mo, .inr (4, [.int 0, .int zs, .int rq, .long k, .long l0, .int u.1, .int ct, .int (nI u.2.1), .ref d1, .ref d2, .ref d3, .ref d4, .ref d5, .ref d6, .int (nI kc), .ref e1, .ref e2, .ref e3, .ref e4, .ref e5, .long v0, .long v1, .long v2, .long v3])), (d1, .inl (cI, 32, .inl u.2.2.1)), (d2, .inl (cI, 32, .inl u.2.2.2.1)), (d3, .inl (cI, 32, .inl u.2.2.2.2.1)), (d4, .inl (cI, 32, .inl u.2.2.2.2.2.1)), (d5, .inl (cI, 32, .inl u.2.2.2.2.2.2.1)), (d6, .inl (cI, 32, .inl u.2.2.2.2.2.2.2))] : va_W)) u)) A) (([.ref mo, .int se] : List Value).toArray) s 0 0 A) (F0 m 46 ls []) := by
          intro fu
          induction fu with
          | zero =>
            intro i n3 y1 y2 y3 y4 y5 y6 hf ho hpk
            exfalso
            omega
          | succ fu ih =>
            intro i n3 y1 y2 y3 y4 y5 y6 hf ho hpk H locs ls hP hD hS hl
            have ho1 := ho.1
            have ho2 := ho.2.1
            refine lv_iload_n hx hb dX4_pass_46 rfl (lv_at hl 2 rfl) ?_
            refine lv_if_lt (tgt := 77) hx hb dX4_pass_47 (by decide) (fun c_47 => ?_) (fun c_47 => ?_)
            · skip
              refine lv_aload_n hx hb dX4_pass_77 rfl (lv_at hl 0 rfl) ?_
              refine va_get (D := (dC, dI)) (ci := 4) (v := .int tm) (C := RX4) (T := TX4) (N := 24) hx hb hts (k_X4_pass_in4) hown hK hP 0 rfl rfl 5 (by decide) (hts _ k_X4_pass_f130) (fun _ h9 => h9) rfl dX4_pass_78 ?_
              refine ck_ir hx hb hr hlocks (Nat.le_of_ble_eq_true rfl) (Nat.le_of_ble_eq_true rfl) dX4_pass_81 (tm, n3, y1, y2, y3, y4, y5, y6) hP hD hS ?_
              have e9 : i = 0 := (ck_m1lt (by omega)).mp c_47
              rw [e9] at ho
              subst etm
              exact ⟨rfl, rfl, (ck_old_end ho).1, (ck_old_end ho).2, hpk⟩
            · skip
              obtain ⟨i0, rfl⟩ : ∃ i0, i = i0 + 1 := ⟨i - 1, by have h9 : i ≠ 0 := fun z => c_47 ((ck_m1lt (by omega)).mpr z); omega⟩
              rw [nI_pred] at hl
              refine lv_aload_n hx hb dX4_pass_50 rfl (lv_at hl 0 rfl) ?_
              refine va_get (D := (dC, dI)) (ci := 4) (v := .int tm) (C := RX4) (T := TX4) (N := 24) hx hb hts (k_X4_pass_in4) hown hK hP 0 rfl rfl 5 (by decide) (hts _ k_X4_pass_f130) (fun _ h9 => h9) rfl dX4_pass_51 ?_
              refine lv_aload_n hx hb dX4_pass_54 rfl (lv_at hl 0 rfl) ?_
              refine va_get (D := (dC, dI)) (ci := 4) (v := .ref d6) (C := RX4) (T := TX4) (N := 24) hx hb hts (k_X4_pass_in4) hown hK hP 0 rfl rfl 13 (by decide) (hts _ k_X4_pass_f35) (fun _ h9 => h9) rfl dX4_pass_55 ?_
              refine lv_iload_n hx hb dX4_pass_58 rfl (lv_at hl 2 rfl) ?_
              refine ck_iald hx hb hK hP 6 0 rfl rfl (by omega) (by decide) dX4_pass_59 ?_
              refine lv_isub hx hb dX4_pass_60 ?_
              refine lv_bipush (v := 60) hx hb dX4_pass_61 (by decide) ?_
              refine lv_icmp_lt (tgt := 71) hx hb dX4_pass_63 (by decide) (fun c_63 => ?_) (fun c_63 => ?_)
              · skip
                refine lv_iinc (v := nI i0 - 1) (lv' := [(2, .int (nI i0 - 1)), (0, .ref mo), (1, .int se)]) hx hb dX4_pass_71 hl (k := 2) rfl ((Int32.sub_eq_add_neg _ 1).symm) (by decide) rfl (fun ls hl => ?_)
                refine lv_goto (tgt := 46) hx hb dX4_pass_74 (by decide) ?_
                exact ih i0 n3 y1 y2 y3 y4 y5 y6 (by omega) (ck_old_keep ho (decide_eq_true c_63)) (hpk) _ _ _ (hP.sub [0, 1, 2, 3, 4, 5, 6] rfl) (hD.sub [0, 1, 2, 3, 4, 5, 6] (by decide) rfl) hS (lv_sub hl [1, 2, 0] rfl)
              · skip
                obtain ⟨n4, rfl⟩ : ∃ n4, n3 = n4 + 1 := ⟨n3 - 1, by omega⟩
                refine lv_aload_n hx hb dX4_pass_66 rfl (lv_at hl 0 rfl) ?_
                refine lv_iload_n hx hb dX4_pass_67 rfl (lv_at hl 2 rfl) ?_
                refine ck_cv (wr := []) (va_runV (As := [.int (nI i0)]) (rest := []) ⟨hx, hb, hml, hown, hts⟩ (c_X4_dropHalf l dC dI cI cJ cZ lo _ mo 0 zs rq k l0 tm ct n4 d1 d2 d3 d4 d5 d6 kc e1 e2 e3 e4 e5 v0 v1 v2 v3 y1 y2 y3 y4 y5 y6 i0 (by first | assumption | omega) (by first | assumption | omega)) (cwV 1 hts gX4_pass_X4_dropHalf rfl rfl rfl (by decide +kernel) ⟨(Nat.le_of_ble_eq_true rfl), (Nat.le_of_ble_eq_true rfl)⟩) ⟨ck_blind, va_recv hK hP (ci := 4) (q0 := 0) rfl rfl, (ck_pre hG hP hD hS [0, 1, 2, 3, 4, 5, 6] rfl (by decide) _)⟩ rfl rfl hl.1 rfl (lv_room (Nat.le_of_ble_eq_true rfl)) dX4_pass_68 ⟨(Nat.le_of_ble_eq_true rfl), (Nat.le_of_ble_eq_true rfl)⟩) hP hD hS hA [0, 1, 2, 3, 4, 5, 6] [] rfl rfl (by decide) (by decide) (fun u H locs hw_1 hP hD hS => ?_)
                obtain ⟨z1_1, z2_1, z3_1, z4_1, z5_1, z6_1⟩ := u
                have hw_1 : ck_shf y1 z1_1 i0 n4 ∧ ck_shf y2 z2_1 i0 n4 ∧ ck_shf y3 z3_1 i0 n4 ∧ ck_shf y4 z4_1 i0 n4 ∧ ck_shf y5 z5_1 i0 n4 ∧ ck_shf y6 z6_1 i0 n4 := hw_1
                have hP : va_P (dC, dI) vwCl [(mo, .inr (4, [.int 0, .int zs, .int rq, .long k, .long l0, .int tm, .int ct, .int (nI n4), .ref d1, .ref d2, .ref d3, .ref d4, .ref d5, .ref d6, .int (nI kc), .ref e1, .ref e2, .ref e3, .ref e4, .ref e5, .long v0, .long v1, .long v2, .long v3])), (d1, .inl (cI, 32, .inl z1_1)), (d2, .inl (cI, 32, .inl z2_1)), (d3, .inl (cI, 32, .inl z3_1)), (d4, .inl (cI, 32, .inl z4_1)), (d5, .inl (cI, 32, .inl z5_1)), (d6, .inl (cI, 32, .inl z6_1))] H := hP
                have hD : va_D A [(mo, .inr (4, [.int 0, .int zs, .int rq, .long k, .long l0, .int tm, .int ct, .int (nI n4), .ref d1, .ref d2, .ref d3, .ref d4, .ref d5, .ref d6, .int (nI kc), .ref e1, .ref e2, .ref e3, .ref e4, .ref e5, .long v0, .long v1, .long v2, .long v3])), (d1, .inl (cI, 32, .inl z1_1)), (d2, .inl (cI, 32, .inl z2_1)), (d3, .inl (cI, 32, .inl z3_1)), (d4, .inl (cI, 32, .inl z4_1)), (d5, .inl (cI, 32, .inl z5_1)), (d6, .inl (cI, 32, .inl z6_1))] := hD
                refine lv_iinc (v := nI i0 - 1) (lv' := [(2, .int (nI i0 - 1)), (0, .ref mo), (1, .int se)]) hx hb dX4_pass_71 hl (k := 2) rfl ((Int32.sub_eq_add_neg _ 1).symm) (by decide) rfl (fun ls hl => ?_)
                refine lv_goto (tgt := 46) hx hb dX4_pass_74 (by decide) ?_
                exact ih i0 n4 z1_1 z2_1 z3_1 z4_1 z5_1 z6_1 (by omega) (ck_old_drop ho (fun h => c_63 (of_decide_eq_true h)) (ck_gone_shf (by omega) (ck_shfM hw_1.1 hw_1.2.1 hw_1.2.2.1 hw_1.2.2.2.1 hw_1.2.2.2.2.1 hw_1.2.2.2.2.2))) (ck_pok_shf hw_1.2.1 hpk) _ _ _ (hP.sub [0, 1, 2, 3, 4, 5, 6] rfl) (hD.sub [0, 1, 2, 3, 4, 5, 6] (by decide) rfl) hS (lv_sub hl [1, 2, 0] rfl)
        exact hloop (n + 1) n n p1 p2 p3 p4 p5 p6 (by omega) (ck_old0) (hpo) _ _ _ (hP.sub [0, 1, 2, 3, 4, 5, 6] rfl) (hD.sub [0, 1, 2, 3, 4, 5, 6] (by decide) rfl) hS (lv_sub hl [1, 2, 0] rfl)
      · skip
        exact absurd c_24 (by decide)
    · skip
      exact absurd hs2 c_9
set_option maxHeartbeats 4000000 in
set_option maxRecDepth 100000 in
theorem b_X4_pass (l : Launch) (dC : Nat → ClassId) (dI : Nat → Nat → Nat) (cI cJ cZ : ClassId) (lo sz : Nat) (mo : Nat) (th zs rq : Int32) (k l0 : Int64) (ti ct : Int32) (n : Nat) (d1 d2 d3 d4 d5 d6 : Nat) (kc : Nat) (e1 e2 e3 e4 e5 : Nat) (v0 v1 v2 v3 : Int64) (se : Int32) (hbad : ¬ (0 ≤ se ∧ se ≤ 10000)) : Met l yX4_pass wsX4_pass ({ frames := 0, cells := 0, slots := 0, locals := 0 } : Room) (va_Pc [.ref mo, .int se] (ck_P (dC, dI) [(cI, .int), (cJ, .long), (cZ, .boolean)] lo sz [(mo, .inr (4, [.int th, .int zs, .int rq, .long k, .long l0, .int ti, .int ct, .int (nI n), .ref d1, .ref d2, .ref d3, .ref d4, .ref d5, .ref d6, .int (nI kc), .ref e1, .ref e2, .ref e3, .ref e4, .ref e5, .long v0, .long v1, .long v2, .long v3]))])) (va_Qi (fun (r : Int32) (u : Unit) => True) (fun u => ck_B (dC, dI) vwCl (va_A [(mo, .inr (4, [.int th, .int zs, .int rq, .long k, .long l0, .int ti, .int ct, .int (nI n), .ref d1, .ref d2, .ref d3, .ref d4, .ref d5, .ref d6, .int (nI kc), .ref e1, .ref e2, .ref e3, .ref e4, .ref e5, .long v0, .long v1, .long v2, .long v3]))] sz) ((fun u : Unit => ([(mo, .inr (4, [.int 1, .int zs, .int rq, .long k, .long l0, .int ti, .int ct, .int (nI n), .ref d1, .ref d2, .ref d3, .ref d4, .ref d5, .ref d6, .int (nI kc), .ref e1, .ref e2, .ref e3, .ref e4, .ref e5, .long v0, .long v1, .long v2, .long v3]))] : va_W)) u)) (va_A [(mo, .inr (4, [.int th, .int zs, .int rq, .long k, .long l0, .int ti, .int ct, .int (nI n), .ref d1, .ref d2, .ref d3, .ref d4, .ref d5, .ref d6, .int (nI kc), .ref e1, .ref e2, .ref e3, .ref e4, .ref e5, .long v0, .long v1, .long v2, .long v3]))] sz)) 0 0 (va_A [(mo, .inr (4, [.int th, .int zs, .int rq, .long k, .long l0, .int ti, .int ct, .int (nI n), .ref d1, .ref d2, .ref d3, .ref d4, .ref d5, .ref d6, .int (nI kc), .ref e1, .ref e2, .ref e3, .ref e4, .ref e5, .long v0, .long v1, .long v2, .long v3]))] sz) := by
  refine Met.ofW (cc := cX4_pass) (maxL := 3) (ret := (some .int)) (by decide) rfl ?_
  intro p e s m args below meth c s₁ B hml hv
  obtain ⟨rfl, hsz, hP, hK, hD0, hE⟩ := hv
  have hx := B.exec
  have hb := B.bytes
  have hr := B.returns
  have hts := atoms_spec (ws := wsX4_pass) B.pre
  have hown : s.vm.findClass RX4 = some m.cls := findClass_of_methodNamed B.named
  have hlocks := B.notSynchronized
  subst hsz
  have hD := hD0.self (sz := s.heap.size)
  have hlo := ck_lo (sz := s.heap.size) hD0 hE.1
  generalize hAe : va_A [(mo, .inr (4, [.int th, .int zs, .int rq, .long k, .long l0, .int ti, .int ct, .int (nI n), .ref d1, .ref d2, .ref d3, .ref d4, .ref d5, .ref d6, .int (nI kc), .ref e1, .ref e2, .ref e3, .ref e4, .ref e5, .long v0, .long v1, .long v2, .long v3]))] s.heap.size = A at hD hlo ⊢
  have hA : ∀ q : Nat, s.heap.size ≤ q → A q := fun q h => by rw [← hAe]; exact Or.inr h
  have hG : ck_G (dC, dI) [(cI, .int), (cJ, .long), (cZ, .boolean)] lo A s := ⟨hK, hE, hA, hlo⟩
  have hS : va_S A s.heap s.heap [] := va_S.rf
  have hP : va_P (dC, dI) vwCl [(mo, .inr (4, [.int th, .int zs, .int rq, .long k, .long l0, .int ti, .int ct, .int (nI n), .ref d1, .ref d2, .ref d3, .ref d4, .ref d5, .ref d6, .int (nI kc), .ref e1, .ref e2, .ref e3, .ref e4, .ref e5, .long v0, .long v1, .long v2, .long v3]))] s.heap := hP
  have hl := lv_entry ([.ref mo, .int se]) (n := 3) (Nat.le_of_ble_eq_true rfl)
  rw [lg_entry_eq]
  generalize (lg_sl ([.ref mo, .int se]) ++ List.replicate (3 - (lg_sl ([.ref mo, .int se])).length) Slot.unset).toArray = ls at hl ⊢
  have hl : lv_has ls 3 [(0, .ref mo), (1, .int se)] := hl
  refine lv_aload_n hx hb dX4_pass_0 rfl (lv_at hl 0 rfl) ?_
  refine lv_iload_n hx hb dX4_pass_1 rfl (lv_at hl 1 rfl) ?_
  refine lv_if_lt (tgt := 12) hx hb dX4_pass_2 (by decide) (fun c_2 => ?_) (fun c_2 => ?_)
  · skip
    refine lv_iconst (v := 1) hx hb dX4_pass_12 (by decide) ?_
    refine lv_goto (tgt := 17) hx hb dX4_pass_13 (by decide) ?_
    refine va_put (D := (dC, dI)) (ci := 4) (v := .int 1) (ty := .int) (C := RX4) (T := TX4) (N := 24) hx hb hts (k_X4_pass_in4) tyX4 tyX4_ok nmX4 hown hK hP hD hS 0 rfl rfl 0 (by decide) (hts _ k_X4_pass_f54) (fun _ h9 => h9) rfl (by decide +kernel) rfl rfl (Nat.le_of_ble_eq_true rfl) dX4_pass_17 (fun H locs hP hD hS => ?_)
    have hP : va_P (dC, dI) vwCl [(mo, .inr (4, [.int 1, .int zs, .int rq, .long k, .long l0, .int ti, .int ct, .int (nI n), .ref d1, .ref d2, .ref d3, .ref d4, .ref d5, .ref d6, .int (nI kc), .ref e1, .ref e2, .ref e3, .ref e4, .ref e5, .long v0, .long v1, .long v2, .long v3]))] H := hP
    have hD : va_D A [(mo, .inr (4, [.int 1, .int zs, .int rq, .long k, .long l0, .int ti, .int ct, .int (nI n), .ref d1, .ref d2, .ref d3, .ref d4, .ref d5, .ref d6, .int (nI kc), .ref e1, .ref e2, .ref e3, .ref e4, .ref e5, .long v0, .long v1, .long v2, .long v3]))] := hD
    refine lv_aload_n hx hb dX4_pass_20 rfl (lv_at hl 0 rfl) ?_
    refine va_get (D := (dC, dI)) (ci := 4) (v := .int 1) (C := RX4) (T := TX4) (N := 24) hx hb hts (k_X4_pass_in4) hown hK hP 0 rfl rfl 0 (by decide) (hts _ k_X4_pass_f54) (fun _ h9 => h9) rfl dX4_pass_21 ?_
    refine lv_if_le (tgt := 29) hx hb dX4_pass_24 (by decide) (fun c_24 => ?_) (fun c_24 => ?_)
    · skip
      exact absurd c_24 (by decide)
    · skip
      refine lv_iconst (v := 0) hx hb dX4_pass_27 (by decide) ?_
      subst_vars
      refine ck_ir hx hb hr hlocks (Nat.le_of_ble_eq_true rfl) (Nat.le_of_ble_eq_true rfl) dX4_pass_28 () hP hD hS ?_
      exact trivial
  · skip
    refine lv_iload_n hx hb dX4_pass_5 rfl (lv_at hl 1 rfl) ?_
    refine lv_sipush (v := 10000) hx hb dX4_pass_6 (by decide) ?_
    refine lv_icmp_le (tgt := 16) hx hb dX4_pass_9 (by decide) (fun c_9 => ?_) (fun c_9 => ?_)
    · skip
      exact absurd ⟨Int32.not_lt.mp c_2, c_9⟩ hbad
    · skip
      refine lv_iconst (v := 1) hx hb dX4_pass_12 (by decide) ?_
      refine lv_goto (tgt := 17) hx hb dX4_pass_13 (by decide) ?_
      refine va_put (D := (dC, dI)) (ci := 4) (v := .int 1) (ty := .int) (C := RX4) (T := TX4) (N := 24) hx hb hts (k_X4_pass_in4) tyX4 tyX4_ok nmX4 hown hK hP hD hS 0 rfl rfl 0 (by decide) (hts _ k_X4_pass_f54) (fun _ h9 => h9) rfl (by decide +kernel) rfl rfl (Nat.le_of_ble_eq_true rfl) dX4_pass_17 (fun H locs hP hD hS => ?_)
      have hP : va_P (dC, dI) vwCl [(mo, .inr (4, [.int 1, .int zs, .int rq, .long k, .long l0, .int ti, .int ct, .int (nI n), .ref d1, .ref d2, .ref d3, .ref d4, .ref d5, .ref d6, .int (nI kc), .ref e1, .ref e2, .ref e3, .ref e4, .ref e5, .long v0, .long v1, .long v2, .long v3]))] H := hP
      have hD : va_D A [(mo, .inr (4, [.int 1, .int zs, .int rq, .long k, .long l0, .int ti, .int ct, .int (nI n), .ref d1, .ref d2, .ref d3, .ref d4, .ref d5, .ref d6, .int (nI kc), .ref e1, .ref e2, .ref e3, .ref e4, .ref e5, .long v0, .long v1, .long v2, .long v3]))] := hD
      refine lv_aload_n hx hb dX4_pass_20 rfl (lv_at hl 0 rfl) ?_
      refine va_get (D := (dC, dI)) (ci := 4) (v := .int 1) (C := RX4) (T := TX4) (N := 24) hx hb hts (k_X4_pass_in4) hown hK hP 0 rfl rfl 0 (by decide) (hts _ k_X4_pass_f54) (fun _ h9 => h9) rfl dX4_pass_21 ?_
      refine lv_if_le (tgt := 29) hx hb dX4_pass_24 (by decide) (fun c_24 => ?_) (fun c_24 => ?_)
      · skip
        exact absurd c_24 (by decide)
      · skip
        refine lv_iconst (v := 0) hx hb dX4_pass_27 (by decide) ?_
        subst_vars
        refine ck_ir hx hb hr hlocks (Nat.le_of_ble_eq_true rfl) (Nat.le_of_ble_eq_true rfl) dX4_pass_28 () hP hD hS ?_
        exact trivial
set_option maxRecDepth 20000 in
theorem k_X4_syn_f54 : (.fieldLink RX4 54 "CookieListenerModel" "thrown" "I" : Cond) ∈ wsX4_syn := by decide +kernel
set_option maxRecDepth 20000 in
theorem k_X4_syn_in4 : ∀ w ∈ u_ws RX4 TX4 24, w ∈ wsX4_syn := by decide +kernel
set_option maxRecDepth 20000 in
theorem k_X4_syn_f130 : (.fieldLink RX4 130 "CookieListenerModel" "time" "I" : Cond) ∈ wsX4_syn := by decide +kernel
set_option maxRecDepth 20000 in
theorem k_X4_syn_f120 : (.fieldLink RX4 120 "CookieListenerModel" "halves" "I" : Cond) ∈ wsX4_syn := by decide +kernel
set_option maxRecDepth 20000 in
theorem k_X4_syn_f7 : (.fieldLink RX4 7 "CookieListenerModel" "size" "I" : Cond) ∈ wsX4_syn := by decide +kernel
set_option maxRecDepth 20000 in
theorem k_X4_syn_c150 : (.constant RX4 150 (-16777216) : Cond) ∈ wsX4_syn := by decide +kernel
set_option maxRecDepth 20000 in
theorem k_X4_syn_f19 : (.fieldLink RX4 19 "CookieListenerModel" "halfAddress" "[I" : Cond) ∈ wsX4_syn := by decide +kernel
set_option maxRecDepth 20000 in
theorem k_X4_syn_f23 : (.fieldLink RX4 23 "CookieListenerModel" "halfPort" "[I" : Cond) ∈ wsX4_syn := by decide +kernel
set_option maxRecDepth 20000 in
theorem k_X4_syn_f26 : (.fieldLink RX4 26 "CookieListenerModel" "halfNumber" "[I" : Cond) ∈ wsX4_syn := by decide +kernel
set_option maxRecDepth 20000 in
theorem k_X4_syn_f29 : (.fieldLink RX4 29 "CookieListenerModel" "halfOwn" "[I" : Cond) ∈ wsX4_syn := by decide +kernel
set_option maxRecDepth 20000 in
theorem k_X4_syn_f32 : (.fieldLink RX4 32 "CookieListenerModel" "halfKind" "[I" : Cond) ∈ wsX4_syn := by decide +kernel
set_option maxRecDepth 20000 in
theorem k_X4_syn_f35 : (.fieldLink RX4 35 "CookieListenerModel" "halfTime" "[I" : Cond) ∈ wsX4_syn := by decide +kernel
set_option maxRecDepth 20000 in
theorem k_X4_syn_c103 : (.constantLong RX4 103 (4294967295) : Cond) ∈ wsX4_syn := by decide +kernel
set_option maxRecDepth 20000 in
theorem k_X4_syn_f16 : (.fieldLink RX4 16 "CookieListenerModel" "cookiesTime" "I" : Cond) ∈ wsX4_syn := by decide +kernel
set_option maxRecDepth 20000 in
theorem k_X4_syn_f51 : (.fieldLink RX4 51 "CookieListenerModel" "counts" "[I" : Cond) ∈ wsX4_syn := by decide +kernel
set_option maxRecDepth 20000 in
theorem k_X4_syn_c141 : (.constantLong RX4 141 (-1) : Cond) ∈ wsX4_syn := by decide +kernel
set_option maxHeartbeats 4000000 in
set_option maxRecDepth 100000 in
theorem c_X4_syn (l : Launch) (dC : Nat → ClassId) (dI : Nat → Nat → Nat) (cI cJ cZ : ClassId) (lo sz : Nat) (mo : Nat) (th zs rq : Int32) (k l0 : Int64) (ti ct : Int32) (n : Nat) (d1 d2 d3 d4 d5 d6 : Nat) (kc : Nat) (e1 e2 e3 e4 e5 : Nat) (v0 v1 v2 v3 : Int64) (p1 p2 p3 p4 p5 p6 : Nat → Int32) (t1 t2 : Nat → Int32) (cs : Nat → Int32) (aa bb num z : Int32) (hb1 : 0 ≤ bb) (hb2 : bb ≤ 65535) (hz1 : 0 ≤ z) (hz2 : z ≤ 65535) (hn : n ≤ 32) (hk : kc ≤ 64) (hz : zs ≤ 32) (hpo : ∀ i, i < n → ck_pok (p2 i)) : Met l yX4_syn wsX4_syn ({ frames := 5, cells := 0, slots := 0, locals := 120 } : Room) (va_Pc [.ref mo, .int aa, .int bb, .int num, .int z] (ck_P (dC, dI) [(cI, .int), (cJ, .long), (cZ, .boolean)] lo sz [(mo, .inr (4, [.int th, .int zs, .int rq, .long k, .long l0, .int ti, .int ct, .int (nI n), .ref d1, .ref d2, .ref d3, .ref d4, .ref d5, .ref d6, .int (nI kc), .ref e1, .ref e2, .ref e3, .ref e4, .ref e5, .long v0, .long v1, .long v2, .long v3])), (d1, .inl (cI, 32, .inl p1)), (d2, .inl (cI, 32, .inl p2)), (d3, .inl (cI, 32, .inl p3)), (d4, .inl (cI, 32, .inl p4)), (d5, .inl (cI, 32, .inl p5)), (d6, .inl (cI, 32, .inl p6)), (e1, .inl (cI, 64, .inl t1)), (e2, .inl (cI, 64, .inl t2)), (e5, .inl (cI, 4, .inl cs))])) (va_Ql (fun (r : Int64) (u : Int32 × Nat × (Nat → Int32) × (Nat → Int32) × (Nat → Int32) × (Nat → Int32) × (Nat → Int32) × (Nat → Int32) × (Nat → Int32) × Int64 × Int64 × Int64 × Int64) => ((∃ j, j < kc ∧ t1 j = aa ∧ t2 j = bb) ∧ r = -1 ∧ u.1 = ct ∧ u.2.1 = n ∧ u.2.2.1 = p1 ∧ u.2.2.2.1 = p2 ∧ u.2.2.2.2.1 = p3 ∧ u.2.2.2.2.2.1 = p4 ∧ u.2.2.2.2.2.2.1 = p5 ∧ u.2.2.2.2.2.2.2.1 = p6 ∧ u.2.2.2.2.2.2.2.2.1 = cs) ∨ ((∀ i, i < kc → ¬ (t1 i = aa ∧ t2 i = bb)) ∧ (∃ j, j < n ∧ p1 j = aa ∧ p2 j = bb ∧ p3 j = num ∧ r = ck_wos (p4 j)) ∧ u.1 = ct ∧ u.2.1 = n ∧ u.2.2.1 = p1 ∧ u.2.2.2.1 = p2 ∧ u.2.2.2.2.1 = p3 ∧ u.2.2.2.2.2.1 = p4 ∧ u.2.2.2.2.2.2.1 = p5 ∧ u.2.2.2.2.2.2.2.1 = p6 ∧ u.2.2.2.2.2.2.2.2.1 = cs) ∨ ((∀ i, i < kc → ¬ (t1 i = aa ∧ t2 i = bb)) ∧ (∀ i, i < u.2.1 → ck_pok (u.2.2.2.1 i)) ∧ ∃ n1 G1, ck_mlf n (ck_M p1 p2 p3 p4 p5 p6) p1 p2 aa bb num n1 G1 ∧ ((¬ nI n1 < zs ∧ r = ck_wos (ck_mck k l0 aa bb num (ck_kdi 8 z) (ti / 64)) ∧ u.1 = ti ∧ u.2.2.2.2.2.2.2.2.1 = upd cs 0 (cs 0 + 1) ∧ u.2.1 = n1 ∧ ck_L u.2.1 (ck_M u.2.2.1 u.2.2.2.1 u.2.2.2.2.1 u.2.2.2.2.2.1 u.2.2.2.2.2.2.1 u.2.2.2.2.2.2.2.1) = ck_L n1 G1) ∨ (nI n1 < zs ∧ r = ck_wos (ck_mck k l0 aa bb num (ck_kdi 8 z) (ti / 64) ^^^ (-16777216)) ∧ u.1 = ct ∧ u.2.2.2.2.2.2.2.2.1 = cs ∧ u.2.1 = n1 + 1 ∧ ck_L u.2.1 (ck_M u.2.2.1 u.2.2.2.1 u.2.2.2.2.1 u.2.2.2.2.2.1 u.2.2.2.2.2.2.1 u.2.2.2.2.2.2.2.1) = ck_L n1 G1 ++ [(ck_clr aa bb, num, ck_mck k l0 aa bb num (ck_kdi 8 z) (ti / 64) ^^^ (-16777216), ck_kdi 8 z, ti)])))) (fun u => ck_B (dC, dI) vwCl (va_A [(mo, .inr (4, [.int th, .int zs, .int rq, .long k, .long l0, .int ti, .int ct, .int (nI n), .ref d1, .ref d2, .ref d3, .ref d4, .ref d5, .ref d6, .int (nI kc), .ref e1, .ref e2, .ref e3, .ref e4, .ref e5, .long v0, .long v1, .long v2, .long v3])), (d1, .inl (cI, 32, .inl p1)), (d2, .inl (cI, 32, .inl p2)), (d3, .inl (cI, 32, .inl p3)), (d4, .inl (cI, 32, .inl p4)), (d5, .inl (cI, 32, .inl p5)), (d6, .inl (cI, 32, .inl p6)), (e1, .inl (cI, 64, .inl t1)), (e2, .inl (cI, 64, .inl t2)), (e5, .inl (cI, 4, .inl cs))] sz) ((fun u : Int32 × Nat × (Nat → Int32) × (Nat → Int32) × (Nat → Int32) × (Nat → Int32) × (Nat → Int32) × (Nat → Int32) × (Nat → Int32) × Int64 × Int64 × Int64 × Int64 => ([(mo, .inr (4, [.int 0, .int zs, .int rq, .long k, .long l0, .int ti, .int u.1, .int (nI u.2.1), .ref d1, .ref d2, .ref d3, .ref d4, .ref d5, .ref d6, .int (nI kc), .ref e1, .ref e2, .ref e3, .ref e4, .ref e5, .long u.2.2.2.2.2.2.2.2.2.1, .long u.2.2.2.2.2.2.2.2.2.2.1, .long u.2.2.2.2.2.2.2.2.2.2.2.1, .long u.2.2.2.2.2.2.2.2.2.2.2.2])), (d1, .inl (cI, 32, .inl u.2.2.1)), (d2, .inl (cI, 32, .inl u.2.2.2.1)), (d3, .inl (cI, 32, .inl u.2.2.2.2.1)), (d4, .inl (cI, 32, .inl u.2.2.2.2.2.1)), (d5, .inl (cI, 32, .inl u.2.2.2.2.2.2.1)), (d6, .inl (cI, 32, .inl u.2.2.2.2.2.2.2.1)), (e1, .inl (cI, 64, .inl t1)), (e2, .inl (cI, 64, .inl t2)), (e5, .inl (cI, 4, .inl u.2.2.2.2.2.2.2.2.1))] : va_W)) u)) (va_A [(mo, .inr (4, [.int th, .int zs, .int rq, .long k, .long l0, .int ti, .int ct, .int (nI n), .ref d1, .ref d2, .ref d3, .ref d4, .ref d5, .ref d6, .int (nI kc), .ref e1, .ref e2, .ref e3, .ref e4, .ref e5, .long v0, .long v1, .long v2, .long v3])), (d1, .inl (cI, 32, .inl p1)), (d2, .inl (cI, 32, .inl p2)), (d3, .inl (cI, 32, .inl p3)), (d4, .inl (cI, 32, .inl p4)), (d5, .inl (cI, 32, .inl p5)), (d6, .inl (cI, 32, .inl p6)), (e1, .inl (cI, 64, .inl t1)), (e2, .inl (cI, 64, .inl t2)), (e5, .inl (cI, 4, .inl cs))] sz)) 0 0 (va_A [(mo, .inr (4, [.int th, .int zs, .int rq, .long k, .long l0, .int ti, .int ct, .int (nI n), .ref d1, .ref d2, .ref d3, .ref d4, .ref d5, .ref d6, .int (nI kc), .ref e1, .ref e2, .ref e3, .ref e4, .ref e5, .long v0, .long v1, .long v2, .long v3])), (d1, .inl (cI, 32, .inl p1)), (d2, .inl (cI, 32, .inl p2)), (d3, .inl (cI, 32, .inl p3)), (d4, .inl (cI, 32, .inl p4)), (d5, .inl (cI, 32, .inl p5)), (d6, .inl (cI, 32, .inl p6)), (e1, .inl (cI, 64, .inl t1)), (e2, .inl (cI, 64, .inl t2)), (e5, .inl (cI, 4, .inl cs))] sz) := by
  refine Met.ofW (cc := cX4_syn) (maxL := 8) (ret := (some .long)) (by decide) rfl ?_
  intro p e s m args below meth c s₁ B hml hv
  obtain ⟨rfl, hsz, hP, hK, hD0, hE⟩ := hv
  have hx := B.exec
  have hb := B.bytes
  have hr := B.returns
  have hts := atoms_spec (ws := wsX4_syn) B.pre
  have hown : s.vm.findClass RX4 = some m.cls := findClass_of_methodNamed B.named
  have hlocks := B.notSynchronized
  subst hsz
  have hD := hD0.self (sz := s.heap.size)
  have hlo := ck_lo (sz := s.heap.size) hD0 hE.1
  generalize hAe : va_A [(mo, .inr (4, [.int th, .int zs, .int rq, .long k, .long l0, .int ti, .int ct, .int (nI n), .ref d1, .ref d2, .ref d3, .ref d4, .ref d5, .ref d6, .int (nI kc), .ref e1, .ref e2, .ref e3, .ref e4, .ref e5, .long v0, .long v1, .long v2, .long v3])), (d1, .inl (cI, 32, .inl p1)), (d2, .inl (cI, 32, .inl p2)), (d3, .inl (cI, 32, .inl p3)), (d4, .inl (cI, 32, .inl p4)), (d5, .inl (cI, 32, .inl p5)), (d6, .inl (cI, 32, .inl p6)), (e1, .inl (cI, 64, .inl t1)), (e2, .inl (cI, 64, .inl t2)), (e5, .inl (cI, 4, .inl cs))] s.heap.size = A at hD hlo ⊢
  have hA : ∀ q : Nat, s.heap.size ≤ q → A q := fun q h => by rw [← hAe]; exact Or.inr h
  have hG : ck_G (dC, dI) [(cI, .int), (cJ, .long), (cZ, .boolean)] lo A s := ⟨hK, hE, hA, hlo⟩
  have hS : va_S A s.heap s.heap [] := va_S.rf
  have hP : va_P (dC, dI) vwCl [(mo, .inr (4, [.int th, .int zs, .int rq, .long k, .long l0, .int ti, .int ct, .int (nI n), .ref d1, .ref d2, .ref d3, .ref d4, .ref d5, .ref d6, .int (nI kc), .ref e1, .ref e2, .ref e3, .ref e4, .ref e5, .long v0, .long v1, .long v2, .long v3])), (d1, .inl (cI, 32, .inl p1)), (d2, .inl (cI, 32, .inl p2)), (d3, .inl (cI, 32, .inl p3)), (d4, .inl (cI, 32, .inl p4)), (d5, .inl (cI, 32, .inl p5)), (d6, .inl (cI, 32, .inl p6)), (e1, .inl (cI, 64, .inl t1)), (e2, .inl (cI, 64, .inl t2)), (e5, .inl (cI, 4, .inl cs))] s.heap := hP
  have hl := lv_entry ([.ref mo, .int aa, .int bb, .int num, .int z]) (n := 8) (Nat.le_of_ble_eq_true rfl)
  rw [lg_entry_eq]
  generalize (lg_sl ([.ref mo, .int aa, .int bb, .int num, .int z]) ++ List.replicate (8 - (lg_sl ([.ref mo, .int aa, .int bb, .int num, .int z])).length) Slot.unset).toArray = ls at hl ⊢
  have hl : lv_has ls 8 [(0, .ref mo), (1, .int aa), (2, .int bb), (3, .int num), (4, .int z)] := hl
  refine lv_aload_n hx hb dX4_syn_0 rfl (lv_at hl 0 rfl) ?_
  refine lv_iload_n hx hb dX4_syn_1 rfl (lv_at hl 2 rfl) ?_
  refine ck_ri (va_runS (As := [.int bb]) (rest := [.ref mo]) ⟨hx, hb, hml, hown, hts⟩ (c_X4_noPort l dC dI cI cJ cZ lo _ bb) (va_cwS 1 hts gX4_syn_X4_noPort rfl rfl rfl (by decide +kernel) ⟨(Nat.le_of_ble_eq_true rfl), (Nat.le_of_ble_eq_true rfl)⟩) ⟨ck_blind, (ck_pre hG hP hD hS [] rfl (by decide) _)⟩ rfl rfl hl.1 rfl (lv_room (Nat.le_of_ble_eq_true rfl)) dX4_syn_2 ⟨(Nat.le_of_ble_eq_true rfl), (Nat.le_of_ble_eq_true rfl)⟩) (fun r_1 hw_1 => ?_)
  have hw_1 : (r_1 = 1 ∧ ¬ (0 ≤ bb ∧ bb ≤ 65535)) ∨ (r_1 = 0 ∧ (0 ≤ bb ∧ bb ≤ 65535)) := hw_1
  refine lv_if_ne (tgt := 16) hx hb dX4_syn_5 (by decide) (fun c_5 => ?_) (fun c_5 => ?_)
  · skip
    exact absurd ⟨hb1, hb2⟩ ((hw_1.resolve_right (fun z => c_5 z.1)).2)
  · skip
    refine lv_iload hx hb dX4_syn_8 (lv_at hl 4 rfl) ?_
    refine ck_ri (va_runS (As := [.int z]) (rest := [.ref mo]) ⟨hx, hb, hml, hown, hts⟩ (c_X4_noPort l dC dI cI cJ cZ lo _ z) (va_cwS 1 hts gX4_syn_X4_noPort rfl rfl rfl (by decide +kernel) ⟨(Nat.le_of_ble_eq_true rfl), (Nat.le_of_ble_eq_true rfl)⟩) ⟨ck_blind, (ck_pre hG hP hD hS [] rfl (by decide) _)⟩ rfl rfl hl.1 rfl (lv_room (Nat.le_of_ble_eq_true rfl)) dX4_syn_10 ⟨(Nat.le_of_ble_eq_true rfl), (Nat.le_of_ble_eq_true rfl)⟩) (fun r_2 hw_2 => ?_)
    have hw_2 : (r_2 = 1 ∧ ¬ (0 ≤ z ∧ z ≤ 65535)) ∨ (r_2 = 0 ∧ (0 ≤ z ∧ z ≤ 65535)) := hw_2
    refine lv_if_eq (tgt := 20) hx hb dX4_syn_13 (by decide) (fun c_13 => ?_) (fun c_13 => ?_)
    · skip
      refine lv_iconst (v := 0) hx hb dX4_syn_20 (by decide) ?_
      refine va_put (D := (dC, dI)) (ci := 4) (v := .int 0) (ty := .int) (C := RX4) (T := TX4) (N := 24) hx hb hts (k_X4_syn_in4) tyX4 tyX4_ok nmX4 hown hK hP hD hS 0 rfl rfl 0 (by decide) (hts _ k_X4_syn_f54) (fun _ h9 => h9) rfl (by decide +kernel) rfl rfl (Nat.le_of_ble_eq_true rfl) dX4_syn_21 (fun H locs hP hD hS => ?_)
      have hP : va_P (dC, dI) vwCl [(mo, .inr (4, [.int 0, .int zs, .int rq, .long k, .long l0, .int ti, .int ct, .int (nI n), .ref d1, .ref d2, .ref d3, .ref d4, .ref d5, .ref d6, .int (nI kc), .ref e1, .ref e2, .ref e3, .ref e4, .ref e5, .long v0, .long v1, .long v2, .long v3])), (d1, .inl (cI, 32, .inl p1)), (d2, .inl (cI, 32, .inl p2)), (d3, .inl (cI, 32, .inl p3)), (d4, .inl (cI, 32, .inl p4)), (d5, .inl (cI, 32, .inl p5)), (d6, .inl (cI, 32, .inl p6)), (e1, .inl (cI, 64, .inl t1)), (e2, .inl (cI, 64, .inl t2)), (e5, .inl (cI, 4, .inl cs))] H := hP
      have hD : va_D A [(mo, .inr (4, [.int 0, .int zs, .int rq, .long k, .long l0, .int ti, .int ct, .int (nI n), .ref d1, .ref d2, .ref d3, .ref d4, .ref d5, .ref d6, .int (nI kc), .ref e1, .ref e2, .ref e3, .ref e4, .ref e5, .long v0, .long v1, .long v2, .long v3])), (d1, .inl (cI, 32, .inl p1)), (d2, .inl (cI, 32, .inl p2)), (d3, .inl (cI, 32, .inl p3)), (d4, .inl (cI, 32, .inl p4)), (d5, .inl (cI, 32, .inl p5)), (d6, .inl (cI, 32, .inl p6)), (e1, .inl (cI, 64, .inl t1)), (e2, .inl (cI, 64, .inl t2)), (e5, .inl (cI, 4, .inl cs))] := hD
      refine lv_aload_n hx hb dX4_syn_24 rfl (lv_at hl 0 rfl) ?_
      refine va_get (D := (dC, dI)) (ci := 4) (v := .int 0) (C := RX4) (T := TX4) (N := 24) hx hb hts (k_X4_syn_in4) hown hK hP 0 rfl rfl 0 (by decide) (hts _ k_X4_syn_f54) (fun _ h9 => h9) rfl dX4_syn_25 ?_
      refine lv_if_le (tgt := 33) hx hb dX4_syn_28 (by decide) (fun c_28 => ?_) (fun c_28 => ?_)
      · skip
        refine lv_aload_n hx hb dX4_syn_33 rfl (lv_at hl 0 rfl) ?_
        refine lv_iload_n hx hb dX4_syn_34 rfl (lv_at hl 1 rfl) ?_
        refine lv_iload_n hx hb dX4_syn_35 rfl (lv_at hl 2 rfl) ?_
        refine ck_ri (va_runV (As := [.int aa, .int bb]) (rest := []) ⟨hx, hb, hml, hown, hts⟩ (c_X4_opened l dC dI cI cJ cZ lo _ mo 0 zs rq k l0 ti ct n d1 d2 d3 d4 d5 d6 kc e1 e2 e3 e4 e5 v0 v1 v2 v3 t1 t2 aa bb (by first | assumption | omega)) (cwV 2 hts gX4_syn_X4_opened rfl rfl rfl (by decide +kernel) ⟨(Nat.le_of_ble_eq_true rfl), (Nat.le_of_ble_eq_true rfl)⟩) ⟨ck_blind, va_recv hK hP (ci := 4) (q0 := 0) rfl rfl, (ck_pre hG hP hD hS [0, 7, 8] rfl (by decide) _)⟩ rfl rfl hl.1 rfl (lv_room (Nat.le_of_ble_eq_true rfl)) dX4_syn_36 ⟨(Nat.le_of_ble_eq_true rfl), (Nat.le_of_ble_eq_true rfl)⟩) (fun r_3 hw_3 => ?_)
        have hw_3 : ck_mfd kc t1 t2 aa bb r_3 := hw_3
        refine lv_if_lt (tgt := 46) hx hb dX4_syn_39 (by decide) (fun c_39 => ?_) (fun c_39 => ?_)
        · skip
          have hn_3 : ∀ i, i < kc → ¬ (t1 i = aa ∧ t2 i = bb) := by
            rcases hw_3 with z | ⟨j9, hj9, ej9, -⟩
            · exact z.2
            · exact absurd (by rw [← ej9]; exact c_39) (nI_pos (n := j9) (by omega))
          refine lv_aload_n hx hb dX4_syn_46 rfl (lv_at hl 0 rfl) ?_
          refine lv_iload_n hx hb dX4_syn_47 rfl (lv_at hl 1 rfl) ?_
          refine lv_iload_n hx hb dX4_syn_48 rfl (lv_at hl 2 rfl) ?_
          refine ck_ri (va_runV (As := [.int aa, .int bb]) (rest := []) ⟨hx, hb, hml, hown, hts⟩ (c_X4_half l dC dI cI cJ cZ lo _ mo 0 zs rq k l0 ti ct n d1 d2 d3 d4 d5 d6 kc e1 e2 e3 e4 e5 v0 v1 v2 v3 p1 p2 aa bb (by first | assumption | omega)) (cwV 2 hts gX4_syn_X4_half rfl rfl rfl (by decide +kernel) ⟨(Nat.le_of_ble_eq_true rfl), (Nat.le_of_ble_eq_true rfl)⟩) ⟨ck_blind, va_recv hK hP (ci := 4) (q0 := 0) rfl rfl, (ck_pre hG hP hD hS [0, 1, 2] rfl (by decide) _)⟩ rfl rfl hl.1 rfl (lv_room (Nat.le_of_ble_eq_true rfl)) dX4_syn_49 ⟨(Nat.le_of_ble_eq_true rfl), (Nat.le_of_ble_eq_true rfl)⟩) (fun r_4 hw_4 => ?_)
          have hw_4 : ck_mfd n p1 p2 aa bb r_4 := hw_4
          refine lv_istore (lv' := [(5, .int r_4), (0, .ref mo), (1, .int aa), (2, .int bb), (3, .int num), (4, .int z)]) hx hb dX4_syn_52 hl (by decide) rfl (fun ls hl => ?_)
          refine lv_iload hx hb dX4_syn_54 (lv_at hl 0 rfl) ?_
          refine lv_if_lt (tgt := 83) hx hb dX4_syn_56 (by decide) (fun c_56 => ?_) (fun c_56 => ?_)
          · skip
            have hn_4 : ∀ i, i < n → ¬ (p1 i = aa ∧ p2 i = bb) := by
              rcases hw_4 with z | ⟨j9, hj9, ej9, -⟩
              · exact z.2
              · exact absurd (by rw [← ej9]; exact c_56) (nI_pos (n := j9) (by omega))
            refine lv_iload hx hb dX4_syn_83 (lv_at hl 0 rfl) ?_
            refine lv_if_lt (tgt := 94) hx hb dX4_syn_85 (by decide) (fun c_85 => ?_) (fun c_85 => ?_)
            · skip
              refine lv_iload hx hb dX4_syn_94 (lv_at hl 5 rfl) ?_
              refine ck_ri (va_runS (As := [.int z]) (rest := []) ⟨hx, hb, hml, hown, hts⟩ (c_X4_kindOf l dC dI cI cJ cZ lo _ z) (va_cwS 1 hts gX4_syn_X4_kindOf rfl rfl rfl (by decide +kernel) ⟨(Nat.le_of_ble_eq_true rfl), (Nat.le_of_ble_eq_true rfl)⟩) ⟨ck_blind, (ck_pre hG hP hD hS [] rfl (by decide) _)⟩ rfl rfl hl.1 rfl (lv_room (Nat.le_of_ble_eq_true rfl)) dX4_syn_96 ⟨(Nat.le_of_ble_eq_true rfl), (Nat.le_of_ble_eq_true rfl)⟩) (fun r_5 hw_5 => ?_)
              have hw_5 : r_5 = ck_kdi 8 z := hw_5
              subst hw_5
              refine lv_istore (lv' := [(6, .int (ck_kdi 8 z)), (5, .int r_4), (0, .ref mo), (1, .int aa), (2, .int bb), (3, .int num), (4, .int z)]) hx hb dX4_syn_99 hl (by decide) rfl (fun ls hl => ?_)
              refine lv_aload_n hx hb dX4_syn_101 rfl (lv_at hl 2 rfl) ?_
              refine lv_iload_n hx hb dX4_syn_102 rfl (lv_at hl 3 rfl) ?_
              refine lv_iload_n hx hb dX4_syn_103 rfl (lv_at hl 4 rfl) ?_
              refine lv_iload_n hx hb dX4_syn_104 rfl (lv_at hl 5 rfl) ?_
              refine lv_iload hx hb dX4_syn_105 (lv_at hl 0 rfl) ?_
              refine lv_aload_n hx hb dX4_syn_107 rfl (lv_at hl 2 rfl) ?_
              refine va_get (D := (dC, dI)) (ci := 4) (v := .int ti) (C := RX4) (T := TX4) (N := 24) hx hb hts (k_X4_syn_in4) hown hK hP 0 rfl rfl 5 (by decide) (hts _ k_X4_syn_f130) (fun _ h9 => h9) rfl dX4_syn_108 ?_
              refine lv_bipush (v := 64) hx hb dX4_syn_111 (by decide) ?_
              refine lv_idiv hx hb dX4_syn_113 (by decide) ?_
              refine ck_ci (wr := [(d1, .inl (cI, 32, .inl p1)), (d2, .inl (cI, 32, .inl p2)), (d3, .inl (cI, 32, .inl p3)), (d4, .inl (cI, 32, .inl p4)), (d5, .inl (cI, 32, .inl p5)), (d6, .inl (cI, 32, .inl p6)), (e1, .inl (cI, 64, .inl t1)), (e2, .inl (cI, 64, .inl t2)), (e5, .inl (cI, 4, .inl cs))]) (va_runV (As := [.int aa, .int bb, .int num, .int (ck_kdi 8 z), .int (ti / 64)]) (rest := []) ⟨hx, hb, hml, hown, hts⟩ (c_X4_cookieOf l dC dI cI cJ cZ lo _ mo 0 zs rq k l0 ti ct n d1 d2 d3 d4 d5 d6 kc e1 e2 e3 e4 e5 v0 v1 v2 v3 aa bb num (ck_kdi 8 z) (ti / 64)) (cwV 5 hts gX4_syn_X4_cookieOf rfl rfl rfl (by decide +kernel) ⟨(Nat.le_of_ble_eq_true rfl), (Nat.le_of_ble_eq_true rfl)⟩) ⟨ck_blind, va_recv hK hP (ci := 4) (q0 := 0) rfl rfl, (ck_pre hG hP hD hS [0] rfl (by decide) _)⟩ rfl rfl hl.1 rfl (lv_room (Nat.le_of_ble_eq_true rfl)) dX4_syn_114 ⟨(Nat.le_of_ble_eq_true rfl), (Nat.le_of_ble_eq_true rfl)⟩) hP hD hS hA [0] [1, 2, 3, 4, 5, 6, 7, 8, 9] rfl rfl (by decide) (by decide) (fun r_6 u H locs hw_6 hP hD hS => ?_)
              obtain ⟨u0_6, u1_6, u2_6, u3_6⟩ := u
              have hw_6 : r_6 = ck_mck k l0 aa bb num (ck_kdi 8 z) (ti / 64) := hw_6
              have hP : va_P (dC, dI) vwCl [(d1, .inl (cI, 32, .inl p1)), (d2, .inl (cI, 32, .inl p2)), (d3, .inl (cI, 32, .inl p3)), (d4, .inl (cI, 32, .inl p4)), (d5, .inl (cI, 32, .inl p5)), (d6, .inl (cI, 32, .inl p6)), (e1, .inl (cI, 64, .inl t1)), (e2, .inl (cI, 64, .inl t2)), (e5, .inl (cI, 4, .inl cs)), (mo, .inr (4, [.int 0, .int zs, .int rq, .long k, .long l0, .int ti, .int ct, .int (nI n), .ref d1, .ref d2, .ref d3, .ref d4, .ref d5, .ref d6, .int (nI kc), .ref e1, .ref e2, .ref e3, .ref e4, .ref e5, .long u0_6, .long u1_6, .long u2_6, .long u3_6]))] H := hP
              have hD : va_D A [(d1, .inl (cI, 32, .inl p1)), (d2, .inl (cI, 32, .inl p2)), (d3, .inl (cI, 32, .inl p3)), (d4, .inl (cI, 32, .inl p4)), (d5, .inl (cI, 32, .inl p5)), (d6, .inl (cI, 32, .inl p6)), (e1, .inl (cI, 64, .inl t1)), (e2, .inl (cI, 64, .inl t2)), (e5, .inl (cI, 4, .inl cs)), (mo, .inr (4, [.int 0, .int zs, .int rq, .long k, .long l0, .int ti, .int ct, .int (nI n), .ref d1, .ref d2, .ref d3, .ref d4, .ref d5, .ref d6, .int (nI kc), .ref e1, .ref e2, .ref e3, .ref e4, .ref e5, .long u0_6, .long u1_6, .long u2_6, .long u3_6]))] := hD
              subst hw_6
              refine lv_topi (fun x_7 ex_7 => ?_)
              refine lv_istore (lv' := [(7, .int x_7), (6, .int (ck_kdi 8 z)), (5, .int r_4), (0, .ref mo), (1, .int aa), (2, .int bb), (3, .int num), (4, .int z)]) hx hb dX4_syn_117 hl (by decide) rfl (fun ls hl => ?_)
              refine lv_aload_n hx hb dX4_syn_119 rfl (lv_at hl 3 rfl) ?_
              refine va_get (D := (dC, dI)) (ci := 4) (v := .int (nI n)) (C := RX4) (T := TX4) (N := 24) hx hb hts (k_X4_syn_in4) hown hK hP 9 rfl rfl 7 (by decide) (hts _ k_X4_syn_f120) (fun _ h9 => h9) rfl dX4_syn_120 ?_
              refine lv_aload_n hx hb dX4_syn_123 rfl (lv_at hl 3 rfl) ?_
              refine va_get (D := (dC, dI)) (ci := 4) (v := .int zs) (C := RX4) (T := TX4) (N := 24) hx hb hts (k_X4_syn_in4) hown hK hP 9 rfl rfl 1 (by decide) (hts _ k_X4_syn_f7) (fun _ h9 => h9) rfl dX4_syn_124 ?_
              refine lv_icmp_lt (tgt := 156) hx hb dX4_syn_127 (by decide) (fun c_127 => ?_) (fun c_127 => ?_)
              · skip
                have hn3 := ck_ltz c_127 hz (by omega)
                refine lv_iload hx hb dX4_syn_156 (lv_at hl 0 rfl) ?_
                refine lv_ldc hx hb hown (hts _ k_X4_syn_c150) dX4_syn_158 ?_
                refine lv_ixor hx hb dX4_syn_160 ?_
                refine lv_topi (fun x_8 ex_8 => ?_)
                refine lv_istore (lv' := [(7, .int x_8), (6, .int (ck_kdi 8 z)), (5, .int r_4), (0, .ref mo), (1, .int aa), (2, .int bb), (3, .int num), (4, .int z)]) hx hb dX4_syn_161 hl (by decide) rfl (fun ls hl => ?_)
                refine lv_aload_n hx hb dX4_syn_163 rfl (lv_at hl 3 rfl) ?_
                refine va_get (D := (dC, dI)) (ci := 4) (v := .ref d1) (C := RX4) (T := TX4) (N := 24) hx hb hts (k_X4_syn_in4) hown hK hP 9 rfl rfl 8 (by decide) (hts _ k_X4_syn_f19) (fun _ h9 => h9) rfl dX4_syn_164 ?_
                refine lv_aload_n hx hb dX4_syn_167 rfl (lv_at hl 3 rfl) ?_
                refine va_get (D := (dC, dI)) (ci := 4) (v := .int (nI n)) (C := RX4) (T := TX4) (N := 24) hx hb hts (k_X4_syn_in4) hown hK hP 9 rfl rfl 7 (by decide) (hts _ k_X4_syn_f120) (fun _ h9 => h9) rfl dX4_syn_168 ?_
                refine lv_iload_n hx hb dX4_syn_171 rfl (lv_at hl 4 rfl) ?_
                refine ck_iast hx hb hK hP hD hS 0 0 rfl rfl (by omega) (by decide) dX4_syn_172 (fun H locs hP hD hS => ?_)
                have hP : va_P (dC, dI) vwCl [(d1, .inl (cI, 32, .inl (upd p1 n aa))), (d2, .inl (cI, 32, .inl p2)), (d3, .inl (cI, 32, .inl p3)), (d4, .inl (cI, 32, .inl p4)), (d5, .inl (cI, 32, .inl p5)), (d6, .inl (cI, 32, .inl p6)), (e1, .inl (cI, 64, .inl t1)), (e2, .inl (cI, 64, .inl t2)), (e5, .inl (cI, 4, .inl cs)), (mo, .inr (4, [.int 0, .int zs, .int rq, .long k, .long l0, .int ti, .int ct, .int (nI n), .ref d1, .ref d2, .ref d3, .ref d4, .ref d5, .ref d6, .int (nI kc), .ref e1, .ref e2, .ref e3, .ref e4, .ref e5, .long u0_6, .long u1_6, .long u2_6, .long u3_6]))] H := hP
                have hD : va_D A [(d1, .inl (cI, 32, .inl (upd p1 n aa))), (d2, .inl (cI, 32, .inl p2)), (d3, .inl (cI, 32, .inl p3)), (d4, .inl (cI, 32, .inl p4)), (d5, .inl (cI, 32, .inl p5)), (d6, .inl (cI, 32, .inl p6)), (e1, .inl (cI, 64, .inl t1)), (e2, .inl (cI, 64, .inl t2)), (e5, .inl (cI, 4, .inl cs)), (mo, .inr (4, [.int 0, .int zs, .int rq, .long k, .long l0, .int ti, .int ct, .int (nI n), .ref d1, .ref d2, .ref d3, .ref d4, .ref d5, .ref d6, .int (nI kc), .ref e1, .ref e2, .ref e3, .ref e4, .ref e5, .long u0_6, .long u1_6, .long u2_6, .long u3_6]))] := hD
                refine lv_aload_n hx hb dX4_syn_173 rfl (lv_at hl 3 rfl) ?_
                refine va_get (D := (dC, dI)) (ci := 4) (v := .ref d2) (C := RX4) (T := TX4) (N := 24) hx hb hts (k_X4_syn_in4) hown hK hP 9 rfl rfl 9 (by decide) (hts _ k_X4_syn_f23) (fun _ h9 => h9) rfl dX4_syn_174 ?_
                refine lv_aload_n hx hb dX4_syn_177 rfl (lv_at hl 3 rfl) ?_
                refine va_get (D := (dC, dI)) (ci := 4) (v := .int (nI n)) (C := RX4) (T := TX4) (N := 24) hx hb hts (k_X4_syn_in4) hown hK hP 9 rfl rfl 7 (by decide) (hts _ k_X4_syn_f120) (fun _ h9 => h9) rfl dX4_syn_178 ?_
                refine lv_iload_n hx hb dX4_syn_181 rfl (lv_at hl 5 rfl) ?_
                refine ck_iast hx hb hK hP hD hS 1 0 rfl rfl (by omega) (by decide) dX4_syn_182 (fun H locs hP hD hS => ?_)
                have hP : va_P (dC, dI) vwCl [(d1, .inl (cI, 32, .inl (upd p1 n aa))), (d2, .inl (cI, 32, .inl (upd p2 n bb))), (d3, .inl (cI, 32, .inl p3)), (d4, .inl (cI, 32, .inl p4)), (d5, .inl (cI, 32, .inl p5)), (d6, .inl (cI, 32, .inl p6)), (e1, .inl (cI, 64, .inl t1)), (e2, .inl (cI, 64, .inl t2)), (e5, .inl (cI, 4, .inl cs)), (mo, .inr (4, [.int 0, .int zs, .int rq, .long k, .long l0, .int ti, .int ct, .int (nI n), .ref d1, .ref d2, .ref d3, .ref d4, .ref d5, .ref d6, .int (nI kc), .ref e1, .ref e2, .ref e3, .ref e4, .ref e5, .long u0_6, .long u1_6, .long u2_6, .long u3_6]))] H := hP
                have hD : va_D A [(d1, .inl (cI, 32, .inl (upd p1 n aa))), (d2, .inl (cI, 32, .inl (upd p2 n bb))), (d3, .inl (cI, 32, .inl p3)), (d4, .inl (cI, 32, .inl p4)), (d5, .inl (cI, 32, .inl p5)), (d6, .inl (cI, 32, .inl p6)), (e1, .inl (cI, 64, .inl t1)), (e2, .inl (cI, 64, .inl t2)), (e5, .inl (cI, 4, .inl cs)), (mo, .inr (4, [.int 0, .int zs, .int rq, .long k, .long l0, .int ti, .int ct, .int (nI n), .ref d1, .ref d2, .ref d3, .ref d4, .ref d5, .ref d6, .int (nI kc), .ref e1, .ref e2, .ref e3, .ref e4, .ref e5, .long u0_6, .long u1_6, .long u2_6, .long u3_6]))] := hD
                refine lv_aload_n hx hb dX4_syn_183 rfl (lv_at hl 3 rfl) ?_
                refine va_get (D := (dC, dI)) (ci := 4) (v := .ref d3) (C := RX4) (T := TX4) (N := 24) hx hb hts (k_X4_syn_in4) hown hK hP 9 rfl rfl 10 (by decide) (hts _ k_X4_syn_f26) (fun _ h9 => h9) rfl dX4_syn_184 ?_
                refine lv_aload_n hx hb dX4_syn_187 rfl (lv_at hl 3 rfl) ?_
                refine va_get (D := (dC, dI)) (ci := 4) (v := .int (nI n)) (C := RX4) (T := TX4) (N := 24) hx hb hts (k_X4_syn_in4) hown hK hP 9 rfl rfl 7 (by decide) (hts _ k_X4_syn_f120) (fun _ h9 => h9) rfl dX4_syn_188 ?_
                refine lv_iload_n hx hb dX4_syn_191 rfl (lv_at hl 6 rfl) ?_
                refine ck_iast hx hb hK hP hD hS 2 0 rfl rfl (by omega) (by decide) dX4_syn_192 (fun H locs hP hD hS => ?_)
                have hP : va_P (dC, dI) vwCl [(d1, .inl (cI, 32, .inl (upd p1 n aa))), (d2, .inl (cI, 32, .inl (upd p2 n bb))), (d3, .inl (cI, 32, .inl (upd p3 n num))), (d4, .inl (cI, 32, .inl p4)), (d5, .inl (cI, 32, .inl p5)), (d6, .inl (cI, 32, .inl p6)), (e1, .inl (cI, 64, .inl t1)), (e2, .inl (cI, 64, .inl t2)), (e5, .inl (cI, 4, .inl cs)), (mo, .inr (4, [.int 0, .int zs, .int rq, .long k, .long l0, .int ti, .int ct, .int (nI n), .ref d1, .ref d2, .ref d3, .ref d4, .ref d5, .ref d6, .int (nI kc), .ref e1, .ref e2, .ref e3, .ref e4, .ref e5, .long u0_6, .long u1_6, .long u2_6, .long u3_6]))] H := hP
                have hD : va_D A [(d1, .inl (cI, 32, .inl (upd p1 n aa))), (d2, .inl (cI, 32, .inl (upd p2 n bb))), (d3, .inl (cI, 32, .inl (upd p3 n num))), (d4, .inl (cI, 32, .inl p4)), (d5, .inl (cI, 32, .inl p5)), (d6, .inl (cI, 32, .inl p6)), (e1, .inl (cI, 64, .inl t1)), (e2, .inl (cI, 64, .inl t2)), (e5, .inl (cI, 4, .inl cs)), (mo, .inr (4, [.int 0, .int zs, .int rq, .long k, .long l0, .int ti, .int ct, .int (nI n), .ref d1, .ref d2, .ref d3, .ref d4, .ref d5, .ref d6, .int (nI kc), .ref e1, .ref e2, .ref e3, .ref e4, .ref e5, .long u0_6, .long u1_6, .long u2_6, .long u3_6]))] := hD
                refine lv_aload_n hx hb dX4_syn_193 rfl (lv_at hl 3 rfl) ?_
                refine va_get (D := (dC, dI)) (ci := 4) (v := .ref d4) (C := RX4) (T := TX4) (N := 24) hx hb hts (k_X4_syn_in4) hown hK hP 9 rfl rfl 11 (by decide) (hts _ k_X4_syn_f29) (fun _ h9 => h9) rfl dX4_syn_194 ?_
                refine lv_aload_n hx hb dX4_syn_197 rfl (lv_at hl 3 rfl) ?_
                refine va_get (D := (dC, dI)) (ci := 4) (v := .int (nI n)) (C := RX4) (T := TX4) (N := 24) hx hb hts (k_X4_syn_in4) hown hK hP 9 rfl rfl 7 (by decide) (hts _ k_X4_syn_f120) (fun _ h9 => h9) rfl dX4_syn_198 ?_
                refine lv_iload hx hb dX4_syn_201 (lv_at hl 0 rfl) ?_
                refine ck_iast hx hb hK hP hD hS 3 0 rfl rfl (by omega) (by decide) dX4_syn_203 (fun H locs hP hD hS => ?_)
                have hP : va_P (dC, dI) vwCl [(d1, .inl (cI, 32, .inl (upd p1 n aa))), (d2, .inl (cI, 32, .inl (upd p2 n bb))), (d3, .inl (cI, 32, .inl (upd p3 n num))), (d4, .inl (cI, 32, .inl (upd p4 n x_8))), (d5, .inl (cI, 32, .inl p5)), (d6, .inl (cI, 32, .inl p6)), (e1, .inl (cI, 64, .inl t1)), (e2, .inl (cI, 64, .inl t2)), (e5, .inl (cI, 4, .inl cs)), (mo, .inr (4, [.int 0, .int zs, .int rq, .long k, .long l0, .int ti, .int ct, .int (nI n), .ref d1, .ref d2, .ref d3, .ref d4, .ref d5, .ref d6, .int (nI kc), .ref e1, .ref e2, .ref e3, .ref e4, .ref e5, .long u0_6, .long u1_6, .long u2_6, .long u3_6]))] H := hP
                have hD : va_D A [(d1, .inl (cI, 32, .inl (upd p1 n aa))), (d2, .inl (cI, 32, .inl (upd p2 n bb))), (d3, .inl (cI, 32, .inl (upd p3 n num))), (d4, .inl (cI, 32, .inl (upd p4 n x_8))), (d5, .inl (cI, 32, .inl p5)), (d6, .inl (cI, 32, .inl p6)), (e1, .inl (cI, 64, .inl t1)), (e2, .inl (cI, 64, .inl t2)), (e5, .inl (cI, 4, .inl cs)), (mo, .inr (4, [.int 0, .int zs, .int rq, .long k, .long l0, .int ti, .int ct, .int (nI n), .ref d1, .ref d2, .ref d3, .ref d4, .ref d5, .ref d6, .int (nI kc), .ref e1, .ref e2, .ref e3, .ref e4, .ref e5, .long u0_6, .long u1_6, .long u2_6, .long u3_6]))] := hD
                refine lv_aload_n hx hb dX4_syn_204 rfl (lv_at hl 3 rfl) ?_
                refine va_get (D := (dC, dI)) (ci := 4) (v := .ref d5) (C := RX4) (T := TX4) (N := 24) hx hb hts (k_X4_syn_in4) hown hK hP 9 rfl rfl 12 (by decide) (hts _ k_X4_syn_f32) (fun _ h9 => h9) rfl dX4_syn_205 ?_
                refine lv_aload_n hx hb dX4_syn_208 rfl (lv_at hl 3 rfl) ?_
                refine va_get (D := (dC, dI)) (ci := 4) (v := .int (nI n)) (C := RX4) (T := TX4) (N := 24) hx hb hts (k_X4_syn_in4) hown hK hP 9 rfl rfl 7 (by decide) (hts _ k_X4_syn_f120) (fun _ h9 => h9) rfl dX4_syn_209 ?_
                refine lv_iload hx hb dX4_syn_212 (lv_at hl 1 rfl) ?_
                refine lv_topi (fun x_9 ex_9 => ?_)
                refine ck_iast hx hb hK hP hD hS 4 0 rfl rfl (by omega) (by decide) dX4_syn_214 (fun H locs hP hD hS => ?_)
                have hP : va_P (dC, dI) vwCl [(d1, .inl (cI, 32, .inl (upd p1 n aa))), (d2, .inl (cI, 32, .inl (upd p2 n bb))), (d3, .inl (cI, 32, .inl (upd p3 n num))), (d4, .inl (cI, 32, .inl (upd p4 n x_8))), (d5, .inl (cI, 32, .inl (upd p5 n x_9))), (d6, .inl (cI, 32, .inl p6)), (e1, .inl (cI, 64, .inl t1)), (e2, .inl (cI, 64, .inl t2)), (e5, .inl (cI, 4, .inl cs)), (mo, .inr (4, [.int 0, .int zs, .int rq, .long k, .long l0, .int ti, .int ct, .int (nI n), .ref d1, .ref d2, .ref d3, .ref d4, .ref d5, .ref d6, .int (nI kc), .ref e1, .ref e2, .ref e3, .ref e4, .ref e5, .long u0_6, .long u1_6, .long u2_6, .long u3_6]))] H := hP
                have hD : va_D A [(d1, .inl (cI, 32, .inl (upd p1 n aa))), (d2, .inl (cI, 32, .inl (upd p2 n bb))), (d3, .inl (cI, 32, .inl (upd p3 n num))), (d4, .inl (cI, 32, .inl (upd p4 n x_8))), (d5, .inl (cI, 32, .inl (upd p5 n x_9))), (d6, .inl (cI, 32, .inl p6)), (e1, .inl (cI, 64, .inl t1)), (e2, .inl (cI, 64, .inl t2)), (e5, .inl (cI, 4, .inl cs)), (mo, .inr (4, [.int 0, .int zs, .int rq, .long k, .long l0, .int ti, .int ct, .int (nI n), .ref d1, .ref d2, .ref d3, .ref d4, .ref d5, .ref d6, .int (nI kc), .ref e1, .ref e2, .ref e3, .ref e4, .ref e5, .long u0_6, .long u1_6, .long u2_6, .long u3_6]))] := hD
                refine lv_aload_n hx hb dX4_syn_215 rfl (lv_at hl 3 rfl) ?_
                refine va_get (D := (dC, dI)) (ci := 4) (v := .ref d6) (C := RX4) (T := TX4) (N := 24) hx hb hts (k_X4_syn_in4) hown hK hP 9 rfl rfl 13 (by decide) (hts _ k_X4_syn_f35) (fun _ h9 => h9) rfl dX4_syn_216 ?_
                refine lv_aload_n hx hb dX4_syn_219 rfl (lv_at hl 3 rfl) ?_
                refine va_get (D := (dC, dI)) (ci := 4) (v := .int (nI n)) (C := RX4) (T := TX4) (N := 24) hx hb hts (k_X4_syn_in4) hown hK hP 9 rfl rfl 7 (by decide) (hts _ k_X4_syn_f120) (fun _ h9 => h9) rfl dX4_syn_220 ?_
                refine lv_aload_n hx hb dX4_syn_223 rfl (lv_at hl 3 rfl) ?_
                refine va_get (D := (dC, dI)) (ci := 4) (v := .int ti) (C := RX4) (T := TX4) (N := 24) hx hb hts (k_X4_syn_in4) hown hK hP 9 rfl rfl 5 (by decide) (hts _ k_X4_syn_f130) (fun _ h9 => h9) rfl dX4_syn_224 ?_
                refine ck_iast hx hb hK hP hD hS 5 0 rfl rfl (by omega) (by decide) dX4_syn_227 (fun H locs hP hD hS => ?_)
                have hP : va_P (dC, dI) vwCl [(d1, .inl (cI, 32, .inl (upd p1 n aa))), (d2, .inl (cI, 32, .inl (upd p2 n bb))), (d3, .inl (cI, 32, .inl (upd p3 n num))), (d4, .inl (cI, 32, .inl (upd p4 n x_8))), (d5, .inl (cI, 32, .inl (upd p5 n x_9))), (d6, .inl (cI, 32, .inl (upd p6 n ti))), (e1, .inl (cI, 64, .inl t1)), (e2, .inl (cI, 64, .inl t2)), (e5, .inl (cI, 4, .inl cs)), (mo, .inr (4, [.int 0, .int zs, .int rq, .long k, .long l0, .int ti, .int ct, .int (nI n), .ref d1, .ref d2, .ref d3, .ref d4, .ref d5, .ref d6, .int (nI kc), .ref e1, .ref e2, .ref e3, .ref e4, .ref e5, .long u0_6, .long u1_6, .long u2_6, .long u3_6]))] H := hP
                have hD : va_D A [(d1, .inl (cI, 32, .inl (upd p1 n aa))), (d2, .inl (cI, 32, .inl (upd p2 n bb))), (d3, .inl (cI, 32, .inl (upd p3 n num))), (d4, .inl (cI, 32, .inl (upd p4 n x_8))), (d5, .inl (cI, 32, .inl (upd p5 n x_9))), (d6, .inl (cI, 32, .inl (upd p6 n ti))), (e1, .inl (cI, 64, .inl t1)), (e2, .inl (cI, 64, .inl t2)), (e5, .inl (cI, 4, .inl cs)), (mo, .inr (4, [.int 0, .int zs, .int rq, .long k, .long l0, .int ti, .int ct, .int (nI n), .ref d1, .ref d2, .ref d3, .ref d4, .ref d5, .ref d6, .int (nI kc), .ref e1, .ref e2, .ref e3, .ref e4, .ref e5, .long u0_6, .long u1_6, .long u2_6, .long u3_6]))] := hD
                refine lv_aload_n hx hb dX4_syn_228 rfl (lv_at hl 3 rfl) ?_
                refine lv_dup hx hb dX4_syn_229 rfl ?_
                refine va_get (D := (dC, dI)) (ci := 4) (v := .int (nI n)) (C := RX4) (T := TX4) (N := 24) hx hb hts (k_X4_syn_in4) hown hK hP 9 rfl rfl 7 (by decide) (hts _ k_X4_syn_f120) (fun _ h9 => h9) rfl dX4_syn_230 ?_
                refine lv_iconst (v := 1) hx hb dX4_syn_233 (by decide) ?_
                refine lv_iadd hx hb dX4_syn_234 ?_
                refine ck_toi (y := nI (n + 1)) (nI_1 _) ?_
                refine va_put (D := (dC, dI)) (ci := 4) (v := .int (nI (n + 1))) (ty := .int) (C := RX4) (T := TX4) (N := 24) hx hb hts (k_X4_syn_in4) tyX4 tyX4_ok nmX4 hown hK hP hD hS 9 rfl rfl 7 (by decide) (hts _ k_X4_syn_f120) (fun _ h9 => h9) rfl (by decide +kernel) rfl rfl (Nat.le_of_ble_eq_true rfl) dX4_syn_235 (fun H locs hP hD hS => ?_)
                have hP : va_P (dC, dI) vwCl [(d1, .inl (cI, 32, .inl (upd p1 n aa))), (d2, .inl (cI, 32, .inl (upd p2 n bb))), (d3, .inl (cI, 32, .inl (upd p3 n num))), (d4, .inl (cI, 32, .inl (upd p4 n x_8))), (d5, .inl (cI, 32, .inl (upd p5 n x_9))), (d6, .inl (cI, 32, .inl (upd p6 n ti))), (e1, .inl (cI, 64, .inl t1)), (e2, .inl (cI, 64, .inl t2)), (e5, .inl (cI, 4, .inl cs)), (mo, .inr (4, [.int 0, .int zs, .int rq, .long k, .long l0, .int ti, .int ct, .int (nI (n + 1)), .ref d1, .ref d2, .ref d3, .ref d4, .ref d5, .ref d6, .int (nI kc), .ref e1, .ref e2, .ref e3, .ref e4, .ref e5, .long u0_6, .long u1_6, .long u2_6, .long u3_6]))] H := hP
                have hD : va_D A [(d1, .inl (cI, 32, .inl (upd p1 n aa))), (d2, .inl (cI, 32, .inl (upd p2 n bb))), (d3, .inl (cI, 32, .inl (upd p3 n num))), (d4, .inl (cI, 32, .inl (upd p4 n x_8))), (d5, .inl (cI, 32, .inl (upd p5 n x_9))), (d6, .inl (cI, 32, .inl (upd p6 n ti))), (e1, .inl (cI, 64, .inl t1)), (e2, .inl (cI, 64, .inl t2)), (e5, .inl (cI, 4, .inl cs)), (mo, .inr (4, [.int 0, .int zs, .int rq, .long k, .long l0, .int ti, .int ct, .int (nI (n + 1)), .ref d1, .ref d2, .ref d3, .ref d4, .ref d5, .ref d6, .int (nI kc), .ref e1, .ref e2, .ref e3, .ref e4, .ref e5, .long u0_6, .long u1_6, .long u2_6, .long u3_6]))] := hD
                refine lv_iload hx hb dX4_syn_238 (lv_at hl 0 rfl) ?_
                refine lv_i2l hx hb dX4_syn_240 rfl ?_
                refine lv_ldc2 hx hb hown (hts _ k_X4_syn_c103) dX4_syn_241 ?_
                refine lv_land hx hb dX4_syn_244 ?_
                refine ck_lr hx hb hr hlocks (Nat.le_of_ble_eq_true rfl) (Nat.le_of_ble_eq_true rfl) dX4_syn_245 (ct, n + 1, upd p1 n aa, upd p2 n bb, upd p3 n num, upd p4 n x_8, upd p5 n x_9, upd p6 n ti, cs, u0_6, u1_6, u2_6, u3_6) (hP.sub [9, 0, 1, 2, 3, 4, 5, 6, 7, 8] rfl) (hD.sub [9, 0, 1, 2, 3, 4, 5, 6, 7, 8] (by decide) rfl) hS ?_
                subst_vars
                exact Or.inr (Or.inr ⟨hn_3, ck_pok_add (hpo) ⟨hb1, hb2⟩, _, _, Or.inl ⟨hn_4, rfl, rfl⟩, Or.inr ⟨c_127, rfl, rfl, rfl, rfl, ck_addM _ _ _ _ _ _ _ _ _ _ _ _ _⟩⟩)
              · skip
                refine lv_aload_n hx hb dX4_syn_130 rfl (lv_at hl 3 rfl) ?_
                refine lv_aload_n hx hb dX4_syn_131 rfl (lv_at hl 3 rfl) ?_
                refine va_get (D := (dC, dI)) (ci := 4) (v := .int ti) (C := RX4) (T := TX4) (N := 24) hx hb hts (k_X4_syn_in4) hown hK hP 9 rfl rfl 5 (by decide) (hts _ k_X4_syn_f130) (fun _ h9 => h9) rfl dX4_syn_132 ?_
                refine va_put (D := (dC, dI)) (ci := 4) (v := .int ti) (ty := .int) (C := RX4) (T := TX4) (N := 24) hx hb hts (k_X4_syn_in4) tyX4 tyX4_ok nmX4 hown hK hP hD hS 9 rfl rfl 6 (by decide) (hts _ k_X4_syn_f16) (fun _ h9 => h9) rfl (by decide +kernel) rfl rfl (Nat.le_of_ble_eq_true rfl) dX4_syn_135 (fun H locs hP hD hS => ?_)
                have hP : va_P (dC, dI) vwCl [(d1, .inl (cI, 32, .inl p1)), (d2, .inl (cI, 32, .inl p2)), (d3, .inl (cI, 32, .inl p3)), (d4, .inl (cI, 32, .inl p4)), (d5, .inl (cI, 32, .inl p5)), (d6, .inl (cI, 32, .inl p6)), (e1, .inl (cI, 64, .inl t1)), (e2, .inl (cI, 64, .inl t2)), (e5, .inl (cI, 4, .inl cs)), (mo, .inr (4, [.int 0, .int zs, .int rq, .long k, .long l0, .int ti, .int ti, .int (nI n), .ref d1, .ref d2, .ref d3, .ref d4, .ref d5, .ref d6, .int (nI kc), .ref e1, .ref e2, .ref e3, .ref e4, .ref e5, .long u0_6, .long u1_6, .long u2_6, .long u3_6]))] H := hP
                have hD : va_D A [(d1, .inl (cI, 32, .inl p1)), (d2, .inl (cI, 32, .inl p2)), (d3, .inl (cI, 32, .inl p3)), (d4, .inl (cI, 32, .inl p4)), (d5, .inl (cI, 32, .inl p5)), (d6, .inl (cI, 32, .inl p6)), (e1, .inl (cI, 64, .inl t1)), (e2, .inl (cI, 64, .inl t2)), (e5, .inl (cI, 4, .inl cs)), (mo, .inr (4, [.int 0, .int zs, .int rq, .long k, .long l0, .int ti, .int ti, .int (nI n), .ref d1, .ref d2, .ref d3, .ref d4, .ref d5, .ref d6, .int (nI kc), .ref e1, .ref e2, .ref e3, .ref e4, .ref e5, .long u0_6, .long u1_6, .long u2_6, .long u3_6]))] := hD
                refine lv_aload_n hx hb dX4_syn_138 rfl (lv_at hl 3 rfl) ?_
                refine va_get (D := (dC, dI)) (ci := 4) (v := .ref e5) (C := RX4) (T := TX4) (N := 24) hx hb hts (k_X4_syn_in4) hown hK hP 9 rfl rfl 19 (by decide) (hts _ k_X4_syn_f51) (fun _ h9 => h9) rfl dX4_syn_139 ?_
                refine lv_iconst (v := nI 0) hx hb dX4_syn_142 (by decide) ?_
                refine lv_dup2_11 hx hb dX4_syn_143 rfl rfl ?_
                refine ck_iald hx hb hK hP 8 0 rfl rfl (by omega) (by decide) dX4_syn_144 ?_
                refine lv_iconst (v := 1) hx hb dX4_syn_145 (by decide) ?_
                refine lv_iadd hx hb dX4_syn_146 ?_
                refine lv_topi (fun x_10 ex_10 => ?_)
                refine ck_iast hx hb hK hP hD hS 8 0 rfl rfl (by omega) (by decide) dX4_syn_147 (fun H locs hP hD hS => ?_)
                have hP : va_P (dC, dI) vwCl [(d1, .inl (cI, 32, .inl p1)), (d2, .inl (cI, 32, .inl p2)), (d3, .inl (cI, 32, .inl p3)), (d4, .inl (cI, 32, .inl p4)), (d5, .inl (cI, 32, .inl p5)), (d6, .inl (cI, 32, .inl p6)), (e1, .inl (cI, 64, .inl t1)), (e2, .inl (cI, 64, .inl t2)), (e5, .inl (cI, 4, .inl (upd cs 0 x_10))), (mo, .inr (4, [.int 0, .int zs, .int rq, .long k, .long l0, .int ti, .int ti, .int (nI n), .ref d1, .ref d2, .ref d3, .ref d4, .ref d5, .ref d6, .int (nI kc), .ref e1, .ref e2, .ref e3, .ref e4, .ref e5, .long u0_6, .long u1_6, .long u2_6, .long u3_6]))] H := hP
                have hD : va_D A [(d1, .inl (cI, 32, .inl p1)), (d2, .inl (cI, 32, .inl p2)), (d3, .inl (cI, 32, .inl p3)), (d4, .inl (cI, 32, .inl p4)), (d5, .inl (cI, 32, .inl p5)), (d6, .inl (cI, 32, .inl p6)), (e1, .inl (cI, 64, .inl t1)), (e2, .inl (cI, 64, .inl t2)), (e5, .inl (cI, 4, .inl (upd cs 0 x_10))), (mo, .inr (4, [.int 0, .int zs, .int rq, .long k, .long l0, .int ti, .int ti, .int (nI n), .ref d1, .ref d2, .ref d3, .ref d4, .ref d5, .ref d6, .int (nI kc), .ref e1, .ref e2, .ref e3, .ref e4, .ref e5, .long u0_6, .long u1_6, .long u2_6, .long u3_6]))] := hD
                refine lv_iload hx hb dX4_syn_148 (lv_at hl 0 rfl) ?_
                refine lv_i2l hx hb dX4_syn_150 rfl ?_
                refine lv_ldc2 hx hb hown (hts _ k_X4_syn_c103) dX4_syn_151 ?_
                refine lv_land hx hb dX4_syn_154 ?_
                refine ck_lr hx hb hr hlocks (Nat.le_of_ble_eq_true rfl) (Nat.le_of_ble_eq_true rfl) dX4_syn_155 (ti, n, p1, p2, p3, p4, p5, p6, upd cs 0 x_10, u0_6, u1_6, u2_6, u3_6) (hP.sub [9, 0, 1, 2, 3, 4, 5, 6, 7, 8] rfl) (hD.sub [9, 0, 1, 2, 3, 4, 5, 6, 7, 8] (by decide) rfl) hS ?_
                subst_vars
                exact Or.inr (Or.inr ⟨hn_3, hpo, _, _, Or.inl ⟨hn_4, rfl, rfl⟩, Or.inl ⟨c_127, rfl, rfl, rfl, rfl, rfl⟩⟩)
            · skip
              exact absurd c_56 c_85
          · skip
            obtain ⟨j_4, hj_4, ej_4, hf_4, hg_4⟩ := hw_4.resolve_left (fun z => c_56 (by rw [z.1]; decide))
            subst ej_4
            refine lv_aload_n hx hb dX4_syn_59 rfl (lv_at hl 1 rfl) ?_
            refine va_get (D := (dC, dI)) (ci := 4) (v := .ref d3) (C := RX4) (T := TX4) (N := 24) hx hb hts (k_X4_syn_in4) hown hK hP 0 rfl rfl 10 (by decide) (hts _ k_X4_syn_f26) (fun _ h9 => h9) rfl dX4_syn_60 ?_
            refine lv_iload hx hb dX4_syn_63 (lv_at hl 0 rfl) ?_
            refine ck_iald hx hb hK hP 3 0 rfl rfl (by omega) (by decide) dX4_syn_65 ?_
            refine lv_iload_n hx hb dX4_syn_66 rfl (lv_at hl 4 rfl) ?_
            refine lv_icmp_ne (tgt := 83) hx hb dX4_syn_67 (by decide) (fun c_67 => ?_) (fun c_67 => ?_)
            · skip
              refine lv_iload hx hb dX4_syn_83 (lv_at hl 0 rfl) ?_
              refine lv_if_lt (tgt := 94) hx hb dX4_syn_85 (by decide) (fun c_85 => ?_) (fun c_85 => ?_)
              · skip
                exact absurd c_85 (nI_pos (by omega))
              · skip
                obtain ⟨n0, rfl⟩ : ∃ n0, n = n0 + 1 := ⟨n - 1, by omega⟩
                refine lv_aload_n hx hb dX4_syn_88 rfl (lv_at hl 1 rfl) ?_
                refine lv_iload hx hb dX4_syn_89 (lv_at hl 0 rfl) ?_
                refine ck_cv (wr := [(e1, .inl (cI, 64, .inl t1)), (e2, .inl (cI, 64, .inl t2)), (e5, .inl (cI, 4, .inl cs))]) (va_runV (As := [.int (nI j_4)]) (rest := []) ⟨hx, hb, hml, hown, hts⟩ (c_X4_dropHalf l dC dI cI cJ cZ lo _ mo 0 zs rq k l0 ti ct n0 d1 d2 d3 d4 d5 d6 kc e1 e2 e3 e4 e5 v0 v1 v2 v3 p1 p2 p3 p4 p5 p6 j_4 (by first | assumption | omega) (by first | assumption | omega)) (cwV 1 hts gX4_syn_X4_dropHalf rfl rfl rfl (by decide +kernel) ⟨(Nat.le_of_ble_eq_true rfl), (Nat.le_of_ble_eq_true rfl)⟩) ⟨ck_blind, va_recv hK hP (ci := 4) (q0 := 0) rfl rfl, (ck_pre hG hP hD hS [0, 1, 2, 3, 4, 5, 6] rfl (by decide) _)⟩ rfl rfl hl.1 rfl (lv_room (Nat.le_of_ble_eq_true rfl)) dX4_syn_91 ⟨(Nat.le_of_ble_eq_true rfl), (Nat.le_of_ble_eq_true rfl)⟩) hP hD hS hA [0, 1, 2, 3, 4, 5, 6] [7, 8, 9] rfl rfl (by decide) (by decide) (fun u H locs hw_11 hP hD hS => ?_)
                obtain ⟨z1_11, z2_11, z3_11, z4_11, z5_11, z6_11⟩ := u
                have hw_11 : ck_shf p1 z1_11 j_4 n0 ∧ ck_shf p2 z2_11 j_4 n0 ∧ ck_shf p3 z3_11 j_4 n0 ∧ ck_shf p4 z4_11 j_4 n0 ∧ ck_shf p5 z5_11 j_4 n0 ∧ ck_shf p6 z6_11 j_4 n0 := hw_11
                have hP : va_P (dC, dI) vwCl [(e1, .inl (cI, 64, .inl t1)), (e2, .inl (cI, 64, .inl t2)), (e5, .inl (cI, 4, .inl cs)), (mo, .inr (4, [.int 0, .int zs, .int rq, .long k, .long l0, .int ti, .int ct, .int (nI n0), .ref d1, .ref d2, .ref d3, .ref d4, .ref d5, .ref d6, .int (nI kc), .ref e1, .ref e2, .ref e3, .ref e4, .ref e5, .long v0, .long v1, .long v2, .long v3])), (d1, .inl (cI, 32, .inl z1_11)), (d2, .inl (cI, 32, .inl z2_11)), (d3, .inl (cI, 32, .inl z3_11)), (d4, .inl (cI, 32, .inl z4_11)), (d5, .inl (cI, 32, .inl z5_11)), (d6, .inl (cI, 32, .inl z6_11))] H := hP
                have hD : va_D A [(e1, .inl (cI, 64, .inl t1)), (e2, .inl (cI, 64, .inl t2)), (e5, .inl (cI, 4, .inl cs)), (mo, .inr (4, [.int 0, .int zs, .int rq, .long k, .long l0, .int ti, .int ct, .int (nI n0), .ref d1, .ref d2, .ref d3, .ref d4, .ref d5, .ref d6, .int (nI kc), .ref e1, .ref e2, .ref e3, .ref e4, .ref e5, .long v0, .long v1, .long v2, .long v3])), (d1, .inl (cI, 32, .inl z1_11)), (d2, .inl (cI, 32, .inl z2_11)), (d3, .inl (cI, 32, .inl z3_11)), (d4, .inl (cI, 32, .inl z4_11)), (d5, .inl (cI, 32, .inl z5_11)), (d6, .inl (cI, 32, .inl z6_11))] := hD
                refine lv_iload hx hb dX4_syn_94 (lv_at hl 5 rfl) ?_
                refine ck_ri (va_runS (As := [.int z]) (rest := []) ⟨hx, hb, hml, hown, hts⟩ (c_X4_kindOf l dC dI cI cJ cZ lo _ z) (va_cwS 1 hts gX4_syn_X4_kindOf rfl rfl rfl (by decide +kernel) ⟨(Nat.le_of_ble_eq_true rfl), (Nat.le_of_ble_eq_true rfl)⟩) ⟨ck_blind, (ck_pre hG hP hD hS [] rfl (by decide) _)⟩ rfl rfl hl.1 rfl (lv_room (Nat.le_of_ble_eq_true rfl)) dX4_syn_96 ⟨(Nat.le_of_ble_eq_true rfl), (Nat.le_of_ble_eq_true rfl)⟩) (fun r_12 hw_12 => ?_)
                have hw_12 : r_12 = ck_kdi 8 z := hw_12
                subst hw_12
                refine lv_istore (lv' := [(6, .int (ck_kdi 8 z)), (5, .int (nI j_4)), (0, .ref mo), (1, .int aa), (2, .int bb), (3, .int num), (4, .int z)]) hx hb dX4_syn_99 hl (by decide) rfl (fun ls hl => ?_)
                refine lv_aload_n hx hb dX4_syn_101 rfl (lv_at hl 2 rfl) ?_
                refine lv_iload_n hx hb dX4_syn_102 rfl (lv_at hl 3 rfl) ?_
                refine lv_iload_n hx hb dX4_syn_103 rfl (lv_at hl 4 rfl) ?_
                refine lv_iload_n hx hb dX4_syn_104 rfl (lv_at hl 5 rfl) ?_
                refine lv_iload hx hb dX4_syn_105 (lv_at hl 0 rfl) ?_
                refine lv_aload_n hx hb dX4_syn_107 rfl (lv_at hl 2 rfl) ?_
                refine va_get (D := (dC, dI)) (ci := 4) (v := .int ti) (C := RX4) (T := TX4) (N := 24) hx hb hts (k_X4_syn_in4) hown hK hP 3 rfl rfl 5 (by decide) (hts _ k_X4_syn_f130) (fun _ h9 => h9) rfl dX4_syn_108 ?_
                refine lv_bipush (v := 64) hx hb dX4_syn_111 (by decide) ?_
                refine lv_idiv hx hb dX4_syn_113 (by decide) ?_
                refine ck_ci (wr := [(e1, .inl (cI, 64, .inl t1)), (e2, .inl (cI, 64, .inl t2)), (e5, .inl (cI, 4, .inl cs)), (d1, .inl (cI, 32, .inl z1_11)), (d2, .inl (cI, 32, .inl z2_11)), (d3, .inl (cI, 32, .inl z3_11)), (d4, .inl (cI, 32, .inl z4_11)), (d5, .inl (cI, 32, .inl z5_11)), (d6, .inl (cI, 32, .inl z6_11))]) (va_runV (As := [.int aa, .int bb, .int num, .int (ck_kdi 8 z), .int (ti / 64)]) (rest := []) ⟨hx, hb, hml, hown, hts⟩ (c_X4_cookieOf l dC dI cI cJ cZ lo _ mo 0 zs rq k l0 ti ct n0 d1 d2 d3 d4 d5 d6 kc e1 e2 e3 e4 e5 v0 v1 v2 v3 aa bb num (ck_kdi 8 z) (ti / 64)) (cwV 5 hts gX4_syn_X4_cookieOf rfl rfl rfl (by decide +kernel) ⟨(Nat.le_of_ble_eq_true rfl), (Nat.le_of_ble_eq_true rfl)⟩) ⟨ck_blind, va_recv hK hP (ci := 4) (q0 := 3) rfl rfl, (ck_pre hG hP hD hS [3] rfl (by decide) _)⟩ rfl rfl hl.1 rfl (lv_room (Nat.le_of_ble_eq_true rfl)) dX4_syn_114 ⟨(Nat.le_of_ble_eq_true rfl), (Nat.le_of_ble_eq_true rfl)⟩) hP hD hS hA [3] [0, 1, 2, 4, 5, 6, 7, 8, 9] rfl rfl (by decide) (by decide) (fun r_13 u H locs hw_13 hP hD hS => ?_)
                obtain ⟨u0_13, u1_13, u2_13, u3_13⟩ := u
                have hw_13 : r_13 = ck_mck k l0 aa bb num (ck_kdi 8 z) (ti / 64) := hw_13
                have hP : va_P (dC, dI) vwCl [(e1, .inl (cI, 64, .inl t1)), (e2, .inl (cI, 64, .inl t2)), (e5, .inl (cI, 4, .inl cs)), (d1, .inl (cI, 32, .inl z1_11)), (d2, .inl (cI, 32, .inl z2_11)), (d3, .inl (cI, 32, .inl z3_11)), (d4, .inl (cI, 32, .inl z4_11)), (d5, .inl (cI, 32, .inl z5_11)), (d6, .inl (cI, 32, .inl z6_11)), (mo, .inr (4, [.int 0, .int zs, .int rq, .long k, .long l0, .int ti, .int ct, .int (nI n0), .ref d1, .ref d2, .ref d3, .ref d4, .ref d5, .ref d6, .int (nI kc), .ref e1, .ref e2, .ref e3, .ref e4, .ref e5, .long u0_13, .long u1_13, .long u2_13, .long u3_13]))] H := hP
                have hD : va_D A [(e1, .inl (cI, 64, .inl t1)), (e2, .inl (cI, 64, .inl t2)), (e5, .inl (cI, 4, .inl cs)), (d1, .inl (cI, 32, .inl z1_11)), (d2, .inl (cI, 32, .inl z2_11)), (d3, .inl (cI, 32, .inl z3_11)), (d4, .inl (cI, 32, .inl z4_11)), (d5, .inl (cI, 32, .inl z5_11)), (d6, .inl (cI, 32, .inl z6_11)), (mo, .inr (4, [.int 0, .int zs, .int rq, .long k, .long l0, .int ti, .int ct, .int (nI n0), .ref d1, .ref d2, .ref d3, .ref d4, .ref d5, .ref d6, .int (nI kc), .ref e1, .ref e2, .ref e3, .ref e4, .ref e5, .long u0_13, .long u1_13, .long u2_13, .long u3_13]))] := hD
                subst hw_13
                refine lv_topi (fun x_14 ex_14 => ?_)
                refine lv_istore (lv' := [(7, .int x_14), (6, .int (ck_kdi 8 z)), (5, .int (nI j_4)), (0, .ref mo), (1, .int aa), (2, .int bb), (3, .int num), (4, .int z)]) hx hb dX4_syn_117 hl (by decide) rfl (fun ls hl => ?_)
                refine lv_aload_n hx hb dX4_syn_119 rfl (lv_at hl 3 rfl) ?_
                refine va_get (D := (dC, dI)) (ci := 4) (v := .int (nI n0)) (C := RX4) (T := TX4) (N := 24) hx hb hts (k_X4_syn_in4) hown hK hP 9 rfl rfl 7 (by decide) (hts _ k_X4_syn_f120) (fun _ h9 => h9) rfl dX4_syn_120 ?_
                refine lv_aload_n hx hb dX4_syn_123 rfl (lv_at hl 3 rfl) ?_
                refine va_get (D := (dC, dI)) (ci := 4) (v := .int zs) (C := RX4) (T := TX4) (N := 24) hx hb hts (k_X4_syn_in4) hown hK hP 9 rfl rfl 1 (by decide) (hts _ k_X4_syn_f7) (fun _ h9 => h9) rfl dX4_syn_124 ?_
                refine lv_icmp_lt (tgt := 156) hx hb dX4_syn_127 (by decide) (fun c_127 => ?_) (fun c_127 => ?_)
                · skip
                  have hn3 := ck_ltz c_127 hz (by omega)
                  refine lv_iload hx hb dX4_syn_156 (lv_at hl 0 rfl) ?_
                  refine lv_ldc hx hb hown (hts _ k_X4_syn_c150) dX4_syn_158 ?_
                  refine lv_ixor hx hb dX4_syn_160 ?_
                  refine lv_topi (fun x_15 ex_15 => ?_)
                  refine lv_istore (lv' := [(7, .int x_15), (6, .int (ck_kdi 8 z)), (5, .int (nI j_4)), (0, .ref mo), (1, .int aa), (2, .int bb), (3, .int num), (4, .int z)]) hx hb dX4_syn_161 hl (by decide) rfl (fun ls hl => ?_)
                  refine lv_aload_n hx hb dX4_syn_163 rfl (lv_at hl 3 rfl) ?_
                  refine va_get (D := (dC, dI)) (ci := 4) (v := .ref d1) (C := RX4) (T := TX4) (N := 24) hx hb hts (k_X4_syn_in4) hown hK hP 9 rfl rfl 8 (by decide) (hts _ k_X4_syn_f19) (fun _ h9 => h9) rfl dX4_syn_164 ?_
                  refine lv_aload_n hx hb dX4_syn_167 rfl (lv_at hl 3 rfl) ?_
                  refine va_get (D := (dC, dI)) (ci := 4) (v := .int (nI n0)) (C := RX4) (T := TX4) (N := 24) hx hb hts (k_X4_syn_in4) hown hK hP 9 rfl rfl 7 (by decide) (hts _ k_X4_syn_f120) (fun _ h9 => h9) rfl dX4_syn_168 ?_
                  refine lv_iload_n hx hb dX4_syn_171 rfl (lv_at hl 4 rfl) ?_
                  refine ck_iast hx hb hK hP hD hS 3 0 rfl rfl (by omega) (by decide) dX4_syn_172 (fun H locs hP hD hS => ?_)
                  have hP : va_P (dC, dI) vwCl [(e1, .inl (cI, 64, .inl t1)), (e2, .inl (cI, 64, .inl t2)), (e5, .inl (cI, 4, .inl cs)), (d1, .inl (cI, 32, .inl (upd z1_11 n0 aa))), (d2, .inl (cI, 32, .inl z2_11)), (d3, .inl (cI, 32, .inl z3_11)), (d4, .inl (cI, 32, .inl z4_11)), (d5, .inl (cI, 32, .inl z5_11)), (d6, .inl (cI, 32, .inl z6_11)), (mo, .inr (4, [.int 0, .int zs, .int rq, .long k, .long l0, .int ti, .int ct, .int (nI n0), .ref d1, .ref d2, .ref d3, .ref d4, .ref d5, .ref d6, .int (nI kc), .ref e1, .ref e2, .ref e3, .ref e4, .ref e5, .long u0_13, .long u1_13, .long u2_13, .long u3_13]))] H := hP
                  have hD : va_D A [(e1, .inl (cI, 64, .inl t1)), (e2, .inl (cI, 64, .inl t2)), (e5, .inl (cI, 4, .inl cs)), (d1, .inl (cI, 32, .inl (upd z1_11 n0 aa))), (d2, .inl (cI, 32, .inl z2_11)), (d3, .inl (cI, 32, .inl z3_11)), (d4, .inl (cI, 32, .inl z4_11)), (d5, .inl (cI, 32, .inl z5_11)), (d6, .inl (cI, 32, .inl z6_11)), (mo, .inr (4, [.int 0, .int zs, .int rq, .long k, .long l0, .int ti, .int ct, .int (nI n0), .ref d1, .ref d2, .ref d3, .ref d4, .ref d5, .ref d6, .int (nI kc), .ref e1, .ref e2, .ref e3, .ref e4, .ref e5, .long u0_13, .long u1_13, .long u2_13, .long u3_13]))] := hD
                  refine lv_aload_n hx hb dX4_syn_173 rfl (lv_at hl 3 rfl) ?_
                  refine va_get (D := (dC, dI)) (ci := 4) (v := .ref d2) (C := RX4) (T := TX4) (N := 24) hx hb hts (k_X4_syn_in4) hown hK hP 9 rfl rfl 9 (by decide) (hts _ k_X4_syn_f23) (fun _ h9 => h9) rfl dX4_syn_174 ?_
                  refine lv_aload_n hx hb dX4_syn_177 rfl (lv_at hl 3 rfl) ?_
                  refine va_get (D := (dC, dI)) (ci := 4) (v := .int (nI n0)) (C := RX4) (T := TX4) (N := 24) hx hb hts (k_X4_syn_in4) hown hK hP 9 rfl rfl 7 (by decide) (hts _ k_X4_syn_f120) (fun _ h9 => h9) rfl dX4_syn_178 ?_
                  refine lv_iload_n hx hb dX4_syn_181 rfl (lv_at hl 5 rfl) ?_
                  refine ck_iast hx hb hK hP hD hS 4 0 rfl rfl (by omega) (by decide) dX4_syn_182 (fun H locs hP hD hS => ?_)
                  have hP : va_P (dC, dI) vwCl [(e1, .inl (cI, 64, .inl t1)), (e2, .inl (cI, 64, .inl t2)), (e5, .inl (cI, 4, .inl cs)), (d1, .inl (cI, 32, .inl (upd z1_11 n0 aa))), (d2, .inl (cI, 32, .inl (upd z2_11 n0 bb))), (d3, .inl (cI, 32, .inl z3_11)), (d4, .inl (cI, 32, .inl z4_11)), (d5, .inl (cI, 32, .inl z5_11)), (d6, .inl (cI, 32, .inl z6_11)), (mo, .inr (4, [.int 0, .int zs, .int rq, .long k, .long l0, .int ti, .int ct, .int (nI n0), .ref d1, .ref d2, .ref d3, .ref d4, .ref d5, .ref d6, .int (nI kc), .ref e1, .ref e2, .ref e3, .ref e4, .ref e5, .long u0_13, .long u1_13, .long u2_13, .long u3_13]))] H := hP
                  have hD : va_D A [(e1, .inl (cI, 64, .inl t1)), (e2, .inl (cI, 64, .inl t2)), (e5, .inl (cI, 4, .inl cs)), (d1, .inl (cI, 32, .inl (upd z1_11 n0 aa))), (d2, .inl (cI, 32, .inl (upd z2_11 n0 bb))), (d3, .inl (cI, 32, .inl z3_11)), (d4, .inl (cI, 32, .inl z4_11)), (d5, .inl (cI, 32, .inl z5_11)), (d6, .inl (cI, 32, .inl z6_11)), (mo, .inr (4, [.int 0, .int zs, .int rq, .long k, .long l0, .int ti, .int ct, .int (nI n0), .ref d1, .ref d2, .ref d3, .ref d4, .ref d5, .ref d6, .int (nI kc), .ref e1, .ref e2, .ref e3, .ref e4, .ref e5, .long u0_13, .long u1_13, .long u2_13, .long u3_13]))] := hD
                  refine lv_aload_n hx hb dX4_syn_183 rfl (lv_at hl 3 rfl) ?_
                  refine va_get (D := (dC, dI)) (ci := 4) (v := .ref d3) (C := RX4) (T := TX4) (N := 24) hx hb hts (k_X4_syn_in4) hown hK hP 9 rfl rfl 10 (by decide) (hts _ k_X4_syn_f26) (fun _ h9 => h9) rfl dX4_syn_184 ?_
                  refine lv_aload_n hx hb dX4_syn_187 rfl (lv_at hl 3 rfl) ?_
                  refine va_get (D := (dC, dI)) (ci := 4) (v := .int (nI n0)) (C := RX4) (T := TX4) (N := 24) hx hb hts (k_X4_syn_in4) hown hK hP 9 rfl rfl 7 (by decide) (hts _ k_X4_syn_f120) (fun _ h9 => h9) rfl dX4_syn_188 ?_
                  refine lv_iload_n hx hb dX4_syn_191 rfl (lv_at hl 6 rfl) ?_
                  refine ck_iast hx hb hK hP hD hS 5 0 rfl rfl (by omega) (by decide) dX4_syn_192 (fun H locs hP hD hS => ?_)
                  have hP : va_P (dC, dI) vwCl [(e1, .inl (cI, 64, .inl t1)), (e2, .inl (cI, 64, .inl t2)), (e5, .inl (cI, 4, .inl cs)), (d1, .inl (cI, 32, .inl (upd z1_11 n0 aa))), (d2, .inl (cI, 32, .inl (upd z2_11 n0 bb))), (d3, .inl (cI, 32, .inl (upd z3_11 n0 num))), (d4, .inl (cI, 32, .inl z4_11)), (d5, .inl (cI, 32, .inl z5_11)), (d6, .inl (cI, 32, .inl z6_11)), (mo, .inr (4, [.int 0, .int zs, .int rq, .long k, .long l0, .int ti, .int ct, .int (nI n0), .ref d1, .ref d2, .ref d3, .ref d4, .ref d5, .ref d6, .int (nI kc), .ref e1, .ref e2, .ref e3, .ref e4, .ref e5, .long u0_13, .long u1_13, .long u2_13, .long u3_13]))] H := hP
                  have hD : va_D A [(e1, .inl (cI, 64, .inl t1)), (e2, .inl (cI, 64, .inl t2)), (e5, .inl (cI, 4, .inl cs)), (d1, .inl (cI, 32, .inl (upd z1_11 n0 aa))), (d2, .inl (cI, 32, .inl (upd z2_11 n0 bb))), (d3, .inl (cI, 32, .inl (upd z3_11 n0 num))), (d4, .inl (cI, 32, .inl z4_11)), (d5, .inl (cI, 32, .inl z5_11)), (d6, .inl (cI, 32, .inl z6_11)), (mo, .inr (4, [.int 0, .int zs, .int rq, .long k, .long l0, .int ti, .int ct, .int (nI n0), .ref d1, .ref d2, .ref d3, .ref d4, .ref d5, .ref d6, .int (nI kc), .ref e1, .ref e2, .ref e3, .ref e4, .ref e5, .long u0_13, .long u1_13, .long u2_13, .long u3_13]))] := hD
                  refine lv_aload_n hx hb dX4_syn_193 rfl (lv_at hl 3 rfl) ?_
                  refine va_get (D := (dC, dI)) (ci := 4) (v := .ref d4) (C := RX4) (T := TX4) (N := 24) hx hb hts (k_X4_syn_in4) hown hK hP 9 rfl rfl 11 (by decide) (hts _ k_X4_syn_f29) (fun _ h9 => h9) rfl dX4_syn_194 ?_
                  refine lv_aload_n hx hb dX4_syn_197 rfl (lv_at hl 3 rfl) ?_
                  refine va_get (D := (dC, dI)) (ci := 4) (v := .int (nI n0)) (C := RX4) (T := TX4) (N := 24) hx hb hts (k_X4_syn_in4) hown hK hP 9 rfl rfl 7 (by decide) (hts _ k_X4_syn_f120) (fun _ h9 => h9) rfl dX4_syn_198 ?_
                  refine lv_iload hx hb dX4_syn_201 (lv_at hl 0 rfl) ?_
                  refine ck_iast hx hb hK hP hD hS 6 0 rfl rfl (by omega) (by decide) dX4_syn_203 (fun H locs hP hD hS => ?_)
                  have hP : va_P (dC, dI) vwCl [(e1, .inl (cI, 64, .inl t1)), (e2, .inl (cI, 64, .inl t2)), (e5, .inl (cI, 4, .inl cs)), (d1, .inl (cI, 32, .inl (upd z1_11 n0 aa))), (d2, .inl (cI, 32, .inl (upd z2_11 n0 bb))), (d3, .inl (cI, 32, .inl (upd z3_11 n0 num))), (d4, .inl (cI, 32, .inl (upd z4_11 n0 x_15))), (d5, .inl (cI, 32, .inl z5_11)), (d6, .inl (cI, 32, .inl z6_11)), (mo, .inr (4, [.int 0, .int zs, .int rq, .long k, .long l0, .int ti, .int ct, .int (nI n0), .ref d1, .ref d2, .ref d3, .ref d4, .ref d5, .ref d6, .int (nI kc), .ref e1, .ref e2, .ref e3, .ref e4, .ref e5, .long u0_13, .long u1_13, .long u2_13, .long u3_13]))] H := hP
                  have hD : va_D A [(e1, .inl (cI, 64, .inl t1)), (e2, .inl (cI, 64, .inl t2)), (e5, .inl (cI, 4, .inl cs)), (d1, .inl (cI, 32, .inl (upd z1_11 n0 aa))), (d2, .inl (cI, 32, .inl (upd z2_11 n0 bb))), (d3, .inl (cI, 32, .inl (upd z3_11 n0 num))), (d4, .inl (cI, 32, .inl (upd z4_11 n0 x_15))), (d5, .inl (cI, 32, .inl z5_11)), (d6, .inl (cI, 32, .inl z6_11)), (mo, .inr (4, [.int 0, .int zs, .int rq, .long k, .long l0, .int ti, .int ct, .int (nI n0), .ref d1, .ref d2, .ref d3, .ref d4, .ref d5, .ref d6, .int (nI kc), .ref e1, .ref e2, .ref e3, .ref e4, .ref e5, .long u0_13, .long u1_13, .long u2_13, .long u3_13]))] := hD
                  refine lv_aload_n hx hb dX4_syn_204 rfl (lv_at hl 3 rfl) ?_
                  refine va_get (D := (dC, dI)) (ci := 4) (v := .ref d5) (C := RX4) (T := TX4) (N := 24) hx hb hts (k_X4_syn_in4) hown hK hP 9 rfl rfl 12 (by decide) (hts _ k_X4_syn_f32) (fun _ h9 => h9) rfl dX4_syn_205 ?_
                  refine lv_aload_n hx hb dX4_syn_208 rfl (lv_at hl 3 rfl) ?_
                  refine va_get (D := (dC, dI)) (ci := 4) (v := .int (nI n0)) (C := RX4) (T := TX4) (N := 24) hx hb hts (k_X4_syn_in4) hown hK hP 9 rfl rfl 7 (by decide) (hts _ k_X4_syn_f120) (fun _ h9 => h9) rfl dX4_syn_209 ?_
                  refine lv_iload hx hb dX4_syn_212 (lv_at hl 1 rfl) ?_
                  refine lv_topi (fun x_16 ex_16 => ?_)
                  refine ck_iast hx hb hK hP hD hS 7 0 rfl rfl (by omega) (by decide) dX4_syn_214 (fun H locs hP hD hS => ?_)
                  have hP : va_P (dC, dI) vwCl [(e1, .inl (cI, 64, .inl t1)), (e2, .inl (cI, 64, .inl t2)), (e5, .inl (cI, 4, .inl cs)), (d1, .inl (cI, 32, .inl (upd z1_11 n0 aa))), (d2, .inl (cI, 32, .inl (upd z2_11 n0 bb))), (d3, .inl (cI, 32, .inl (upd z3_11 n0 num))), (d4, .inl (cI, 32, .inl (upd z4_11 n0 x_15))), (d5, .inl (cI, 32, .inl (upd z5_11 n0 x_16))), (d6, .inl (cI, 32, .inl z6_11)), (mo, .inr (4, [.int 0, .int zs, .int rq, .long k, .long l0, .int ti, .int ct, .int (nI n0), .ref d1, .ref d2, .ref d3, .ref d4, .ref d5, .ref d6, .int (nI kc), .ref e1, .ref e2, .ref e3, .ref e4, .ref e5, .long u0_13, .long u1_13, .long u2_13, .long u3_13]))] H := hP
                  have hD : va_D A [(e1, .inl (cI, 64, .inl t1)), (e2, .inl (cI, 64, .inl t2)), (e5, .inl (cI, 4, .inl cs)), (d1, .inl (cI, 32, .inl (upd z1_11 n0 aa))), (d2, .inl (cI, 32, .inl (upd z2_11 n0 bb))), (d3, .inl (cI, 32, .inl (upd z3_11 n0 num))), (d4, .inl (cI, 32, .inl (upd z4_11 n0 x_15))), (d5, .inl (cI, 32, .inl (upd z5_11 n0 x_16))), (d6, .inl (cI, 32, .inl z6_11)), (mo, .inr (4, [.int 0, .int zs, .int rq, .long k, .long l0, .int ti, .int ct, .int (nI n0), .ref d1, .ref d2, .ref d3, .ref d4, .ref d5, .ref d6, .int (nI kc), .ref e1, .ref e2, .ref e3, .ref e4, .ref e5, .long u0_13, .long u1_13, .long u2_13, .long u3_13]))] := hD
                  refine lv_aload_n hx hb dX4_syn_215 rfl (lv_at hl 3 rfl) ?_
                  refine va_get (D := (dC, dI)) (ci := 4) (v := .ref d6) (C := RX4) (T := TX4) (N := 24) hx hb hts (k_X4_syn_in4) hown hK hP 9 rfl rfl 13 (by decide) (hts _ k_X4_syn_f35) (fun _ h9 => h9) rfl dX4_syn_216 ?_
                  refine lv_aload_n hx hb dX4_syn_219 rfl (lv_at hl 3 rfl) ?_
                  refine va_get (D := (dC, dI)) (ci := 4) (v := .int (nI n0)) (C := RX4) (T := TX4) (N := 24) hx hb hts (k_X4_syn_in4) hown hK hP 9 rfl rfl 7 (by decide) (hts _ k_X4_syn_f120) (fun _ h9 => h9) rfl dX4_syn_220 ?_
                  refine lv_aload_n hx hb dX4_syn_223 rfl (lv_at hl 3 rfl) ?_
                  refine va_get (D := (dC, dI)) (ci := 4) (v := .int ti) (C := RX4) (T := TX4) (N := 24) hx hb hts (k_X4_syn_in4) hown hK hP 9 rfl rfl 5 (by decide) (hts _ k_X4_syn_f130) (fun _ h9 => h9) rfl dX4_syn_224 ?_
                  refine ck_iast hx hb hK hP hD hS 8 0 rfl rfl (by omega) (by decide) dX4_syn_227 (fun H locs hP hD hS => ?_)
                  have hP : va_P (dC, dI) vwCl [(e1, .inl (cI, 64, .inl t1)), (e2, .inl (cI, 64, .inl t2)), (e5, .inl (cI, 4, .inl cs)), (d1, .inl (cI, 32, .inl (upd z1_11 n0 aa))), (d2, .inl (cI, 32, .inl (upd z2_11 n0 bb))), (d3, .inl (cI, 32, .inl (upd z3_11 n0 num))), (d4, .inl (cI, 32, .inl (upd z4_11 n0 x_15))), (d5, .inl (cI, 32, .inl (upd z5_11 n0 x_16))), (d6, .inl (cI, 32, .inl (upd z6_11 n0 ti))), (mo, .inr (4, [.int 0, .int zs, .int rq, .long k, .long l0, .int ti, .int ct, .int (nI n0), .ref d1, .ref d2, .ref d3, .ref d4, .ref d5, .ref d6, .int (nI kc), .ref e1, .ref e2, .ref e3, .ref e4, .ref e5, .long u0_13, .long u1_13, .long u2_13, .long u3_13]))] H := hP
                  have hD : va_D A [(e1, .inl (cI, 64, .inl t1)), (e2, .inl (cI, 64, .inl t2)), (e5, .inl (cI, 4, .inl cs)), (d1, .inl (cI, 32, .inl (upd z1_11 n0 aa))), (d2, .inl (cI, 32, .inl (upd z2_11 n0 bb))), (d3, .inl (cI, 32, .inl (upd z3_11 n0 num))), (d4, .inl (cI, 32, .inl (upd z4_11 n0 x_15))), (d5, .inl (cI, 32, .inl (upd z5_11 n0 x_16))), (d6, .inl (cI, 32, .inl (upd z6_11 n0 ti))), (mo, .inr (4, [.int 0, .int zs, .int rq, .long k, .long l0, .int ti, .int ct, .int (nI n0), .ref d1, .ref d2, .ref d3, .ref d4, .ref d5, .ref d6, .int (nI kc), .ref e1, .ref e2, .ref e3, .ref e4, .ref e5, .long u0_13, .long u1_13, .long u2_13, .long u3_13]))] := hD
                  refine lv_aload_n hx hb dX4_syn_228 rfl (lv_at hl 3 rfl) ?_
                  refine lv_dup hx hb dX4_syn_229 rfl ?_
                  refine va_get (D := (dC, dI)) (ci := 4) (v := .int (nI n0)) (C := RX4) (T := TX4) (N := 24) hx hb hts (k_X4_syn_in4) hown hK hP 9 rfl rfl 7 (by decide) (hts _ k_X4_syn_f120) (fun _ h9 => h9) rfl dX4_syn_230 ?_
                  refine lv_iconst (v := 1) hx hb dX4_syn_233 (by decide) ?_
                  refine lv_iadd hx hb dX4_syn_234 ?_
                  refine ck_toi (y := nI (n0 + 1)) (nI_1 _) ?_
                  refine va_put (D := (dC, dI)) (ci := 4) (v := .int (nI (n0 + 1))) (ty := .int) (C := RX4) (T := TX4) (N := 24) hx hb hts (k_X4_syn_in4) tyX4 tyX4_ok nmX4 hown hK hP hD hS 9 rfl rfl 7 (by decide) (hts _ k_X4_syn_f120) (fun _ h9 => h9) rfl (by decide +kernel) rfl rfl (Nat.le_of_ble_eq_true rfl) dX4_syn_235 (fun H locs hP hD hS => ?_)
                  have hP : va_P (dC, dI) vwCl [(e1, .inl (cI, 64, .inl t1)), (e2, .inl (cI, 64, .inl t2)), (e5, .inl (cI, 4, .inl cs)), (d1, .inl (cI, 32, .inl (upd z1_11 n0 aa))), (d2, .inl (cI, 32, .inl (upd z2_11 n0 bb))), (d3, .inl (cI, 32, .inl (upd z3_11 n0 num))), (d4, .inl (cI, 32, .inl (upd z4_11 n0 x_15))), (d5, .inl (cI, 32, .inl (upd z5_11 n0 x_16))), (d6, .inl (cI, 32, .inl (upd z6_11 n0 ti))), (mo, .inr (4, [.int 0, .int zs, .int rq, .long k, .long l0, .int ti, .int ct, .int (nI (n0 + 1)), .ref d1, .ref d2, .ref d3, .ref d4, .ref d5, .ref d6, .int (nI kc), .ref e1, .ref e2, .ref e3, .ref e4, .ref e5, .long u0_13, .long u1_13, .long u2_13, .long u3_13]))] H := hP
                  have hD : va_D A [(e1, .inl (cI, 64, .inl t1)), (e2, .inl (cI, 64, .inl t2)), (e5, .inl (cI, 4, .inl cs)), (d1, .inl (cI, 32, .inl (upd z1_11 n0 aa))), (d2, .inl (cI, 32, .inl (upd z2_11 n0 bb))), (d3, .inl (cI, 32, .inl (upd z3_11 n0 num))), (d4, .inl (cI, 32, .inl (upd z4_11 n0 x_15))), (d5, .inl (cI, 32, .inl (upd z5_11 n0 x_16))), (d6, .inl (cI, 32, .inl (upd z6_11 n0 ti))), (mo, .inr (4, [.int 0, .int zs, .int rq, .long k, .long l0, .int ti, .int ct, .int (nI (n0 + 1)), .ref d1, .ref d2, .ref d3, .ref d4, .ref d5, .ref d6, .int (nI kc), .ref e1, .ref e2, .ref e3, .ref e4, .ref e5, .long u0_13, .long u1_13, .long u2_13, .long u3_13]))] := hD
                  refine lv_iload hx hb dX4_syn_238 (lv_at hl 0 rfl) ?_
                  refine lv_i2l hx hb dX4_syn_240 rfl ?_
                  refine lv_ldc2 hx hb hown (hts _ k_X4_syn_c103) dX4_syn_241 ?_
                  refine lv_land hx hb dX4_syn_244 ?_
                  refine ck_lr hx hb hr hlocks (Nat.le_of_ble_eq_true rfl) (Nat.le_of_ble_eq_true rfl) dX4_syn_245 (ct, n0 + 1, upd z1_11 n0 aa, upd z2_11 n0 bb, upd z3_11 n0 num, upd z4_11 n0 x_15, upd z5_11 n0 x_16, upd z6_11 n0 ti, cs, u0_13, u1_13, u2_13, u3_13) (hP.sub [9, 3, 4, 5, 6, 7, 8, 0, 1, 2] rfl) (hD.sub [9, 3, 4, 5, 6, 7, 8, 0, 1, 2] (by decide) rfl) hS ?_
                  subst_vars
                  exact Or.inr (Or.inr ⟨hn_3, ck_pok_add (ck_pok_shf hw_11.2.1 hpo) ⟨hb1, hb2⟩, _, _, Or.inr ⟨_, hj_4, rfl, rfl, fun e9 => c_67 e9, rfl, ck_gone_shf (by omega) (ck_shfM hw_11.1 hw_11.2.1 hw_11.2.2.1 hw_11.2.2.2.1 hw_11.2.2.2.2.1 hw_11.2.2.2.2.2)⟩, Or.inr ⟨c_127, rfl, rfl, rfl, rfl, ck_addM _ _ _ _ _ _ _ _ _ _ _ _ _⟩⟩)
                · skip
                  refine lv_aload_n hx hb dX4_syn_130 rfl (lv_at hl 3 rfl) ?_
                  refine lv_aload_n hx hb dX4_syn_131 rfl (lv_at hl 3 rfl) ?_
                  refine va_get (D := (dC, dI)) (ci := 4) (v := .int ti) (C := RX4) (T := TX4) (N := 24) hx hb hts (k_X4_syn_in4) hown hK hP 9 rfl rfl 5 (by decide) (hts _ k_X4_syn_f130) (fun _ h9 => h9) rfl dX4_syn_132 ?_
                  refine va_put (D := (dC, dI)) (ci := 4) (v := .int ti) (ty := .int) (C := RX4) (T := TX4) (N := 24) hx hb hts (k_X4_syn_in4) tyX4 tyX4_ok nmX4 hown hK hP hD hS 9 rfl rfl 6 (by decide) (hts _ k_X4_syn_f16) (fun _ h9 => h9) rfl (by decide +kernel) rfl rfl (Nat.le_of_ble_eq_true rfl) dX4_syn_135 (fun H locs hP hD hS => ?_)
                  have hP : va_P (dC, dI) vwCl [(e1, .inl (cI, 64, .inl t1)), (e2, .inl (cI, 64, .inl t2)), (e5, .inl (cI, 4, .inl cs)), (d1, .inl (cI, 32, .inl z1_11)), (d2, .inl (cI, 32, .inl z2_11)), (d3, .inl (cI, 32, .inl z3_11)), (d4, .inl (cI, 32, .inl z4_11)), (d5, .inl (cI, 32, .inl z5_11)), (d6, .inl (cI, 32, .inl z6_11)), (mo, .inr (4, [.int 0, .int zs, .int rq, .long k, .long l0, .int ti, .int ti, .int (nI n0), .ref d1, .ref d2, .ref d3, .ref d4, .ref d5, .ref d6, .int (nI kc), .ref e1, .ref e2, .ref e3, .ref e4, .ref e5, .long u0_13, .long u1_13, .long u2_13, .long u3_13]))] H := hP
                  have hD : va_D A [(e1, .inl (cI, 64, .inl t1)), (e2, .inl (cI, 64, .inl t2)), (e5, .inl (cI, 4, .inl cs)), (d1, .inl (cI, 32, .inl z1_11)), (d2, .inl (cI, 32, .inl z2_11)), (d3, .inl (cI, 32, .inl z3_11)), (d4, .inl (cI, 32, .inl z4_11)), (d5, .inl (cI, 32, .inl z5_11)), (d6, .inl (cI, 32, .inl z6_11)), (mo, .inr (4, [.int 0, .int zs, .int rq, .long k, .long l0, .int ti, .int ti, .int (nI n0), .ref d1, .ref d2, .ref d3, .ref d4, .ref d5, .ref d6, .int (nI kc), .ref e1, .ref e2, .ref e3, .ref e4, .ref e5, .long u0_13, .long u1_13, .long u2_13, .long u3_13]))] := hD
                  refine lv_aload_n hx hb dX4_syn_138 rfl (lv_at hl 3 rfl) ?_
                  refine va_get (D := (dC, dI)) (ci := 4) (v := .ref e5) (C := RX4) (T := TX4) (N := 24) hx hb hts (k_X4_syn_in4) hown hK hP 9 rfl rfl 19 (by decide) (hts _ k_X4_syn_f51) (fun _ h9 => h9) rfl dX4_syn_139 ?_
                  refine lv_iconst (v := nI 0) hx hb dX4_syn_142 (by decide) ?_
                  refine lv_dup2_11 hx hb dX4_syn_143 rfl rfl ?_
                  refine ck_iald hx hb hK hP 2 0 rfl rfl (by omega) (by decide) dX4_syn_144 ?_
                  refine lv_iconst (v := 1) hx hb dX4_syn_145 (by decide) ?_
                  refine lv_iadd hx hb dX4_syn_146 ?_
                  refine lv_topi (fun x_17 ex_17 => ?_)
                  refine ck_iast hx hb hK hP hD hS 2 0 rfl rfl (by omega) (by decide) dX4_syn_147 (fun H locs hP hD hS => ?_)
                  have hP : va_P (dC, dI) vwCl [(e1, .inl (cI, 64, .inl t1)), (e2, .inl (cI, 64, .inl t2)), (e5, .inl (cI, 4, .inl (upd cs 0 x_17))), (d1, .inl (cI, 32, .inl z1_11)), (d2, .inl (cI, 32, .inl z2_11)), (d3, .inl (cI, 32, .inl z3_11)), (d4, .inl (cI, 32, .inl z4_11)), (d5, .inl (cI, 32, .inl z5_11)), (d6, .inl (cI, 32, .inl z6_11)), (mo, .inr (4, [.int 0, .int zs, .int rq, .long k, .long l0, .int ti, .int ti, .int (nI n0), .ref d1, .ref d2, .ref d3, .ref d4, .ref d5, .ref d6, .int (nI kc), .ref e1, .ref e2, .ref e3, .ref e4, .ref e5, .long u0_13, .long u1_13, .long u2_13, .long u3_13]))] H := hP
                  have hD : va_D A [(e1, .inl (cI, 64, .inl t1)), (e2, .inl (cI, 64, .inl t2)), (e5, .inl (cI, 4, .inl (upd cs 0 x_17))), (d1, .inl (cI, 32, .inl z1_11)), (d2, .inl (cI, 32, .inl z2_11)), (d3, .inl (cI, 32, .inl z3_11)), (d4, .inl (cI, 32, .inl z4_11)), (d5, .inl (cI, 32, .inl z5_11)), (d6, .inl (cI, 32, .inl z6_11)), (mo, .inr (4, [.int 0, .int zs, .int rq, .long k, .long l0, .int ti, .int ti, .int (nI n0), .ref d1, .ref d2, .ref d3, .ref d4, .ref d5, .ref d6, .int (nI kc), .ref e1, .ref e2, .ref e3, .ref e4, .ref e5, .long u0_13, .long u1_13, .long u2_13, .long u3_13]))] := hD
                  refine lv_iload hx hb dX4_syn_148 (lv_at hl 0 rfl) ?_
                  refine lv_i2l hx hb dX4_syn_150 rfl ?_
                  refine lv_ldc2 hx hb hown (hts _ k_X4_syn_c103) dX4_syn_151 ?_
                  refine lv_land hx hb dX4_syn_154 ?_
                  refine ck_lr hx hb hr hlocks (Nat.le_of_ble_eq_true rfl) (Nat.le_of_ble_eq_true rfl) dX4_syn_155 (ti, n0, z1_11, z2_11, z3_11, z4_11, z5_11, z6_11, upd cs 0 x_17, u0_13, u1_13, u2_13, u3_13) (hP.sub [9, 3, 4, 5, 6, 7, 8, 0, 1, 2] rfl) (hD.sub [9, 3, 4, 5, 6, 7, 8, 0, 1, 2] (by decide) rfl) hS ?_
                  subst_vars
                  exact Or.inr (Or.inr ⟨hn_3, ck_pok_shf hw_11.2.1 hpo, _, _, Or.inr ⟨_, hj_4, rfl, rfl, fun e9 => c_67 e9, rfl, ck_gone_shf (by omega) (ck_shfM hw_11.1 hw_11.2.1 hw_11.2.2.1 hw_11.2.2.2.1 hw_11.2.2.2.2.1 hw_11.2.2.2.2.2)⟩, Or.inl ⟨c_127, rfl, rfl, rfl, rfl, rfl⟩⟩)
            · skip
              refine lv_aload_n hx hb dX4_syn_70 rfl (lv_at hl 1 rfl) ?_
              refine va_get (D := (dC, dI)) (ci := 4) (v := .ref d4) (C := RX4) (T := TX4) (N := 24) hx hb hts (k_X4_syn_in4) hown hK hP 0 rfl rfl 11 (by decide) (hts _ k_X4_syn_f29) (fun _ h9 => h9) rfl dX4_syn_71 ?_
              refine lv_iload hx hb dX4_syn_74 (lv_at hl 0 rfl) ?_
              refine ck_iald hx hb hK hP 4 0 rfl rfl (by omega) (by decide) dX4_syn_76 ?_
              refine lv_i2l hx hb dX4_syn_77 rfl ?_
              refine lv_ldc2 hx hb hown (hts _ k_X4_syn_c103) dX4_syn_78 ?_
              refine lv_land hx hb dX4_syn_81 ?_
              refine ck_lr hx hb hr hlocks (Nat.le_of_ble_eq_true rfl) (Nat.le_of_ble_eq_true rfl) dX4_syn_82 (ct, n, p1, p2, p3, p4, p5, p6, cs, v0, v1, v2, v3) hP hD hS ?_
              exact Or.inr (Or.inl ⟨hn_3, ⟨_, hj_4, hf_4, hg_4, c_67, rfl⟩, rfl, rfl, rfl, rfl, rfl, rfl, rfl, rfl, rfl⟩)
        · skip
          obtain ⟨j_3, hj_3, ej_3, hf_3, hg_3⟩ := hw_3.resolve_left (fun z => c_39 (by rw [z.1]; decide))
          subst ej_3
          refine lv_ldc2 hx hb hown (hts _ k_X4_syn_c141) dX4_syn_42 ?_
          refine ck_lr hx hb hr hlocks (Nat.le_of_ble_eq_true rfl) (Nat.le_of_ble_eq_true rfl) dX4_syn_45 (ct, n, p1, p2, p3, p4, p5, p6, cs, v0, v1, v2, v3) hP hD hS ?_
          exact Or.inl ⟨⟨_, hj_3, hf_3, hg_3⟩, rfl, rfl, rfl, rfl, rfl, rfl, rfl, rfl, rfl, rfl⟩
      · skip
        exact absurd c_28 (by decide)
    · skip
      exact absurd ⟨hz1, hz2⟩ ((hw_2.resolve_right (fun z => c_13 z.1)).2)
set_option maxHeartbeats 4000000 in
set_option maxRecDepth 100000 in
theorem b_X4_syn (l : Launch) (dC : Nat → ClassId) (dI : Nat → Nat → Nat) (cI cJ cZ : ClassId) (lo sz : Nat) (mo : Nat) (th zs rq : Int32) (k l0 : Int64) (ti ct : Int32) (n : Nat) (d1 d2 d3 d4 d5 d6 : Nat) (kc : Nat) (e1 e2 e3 e4 e5 : Nat) (v0 v1 v2 v3 : Int64) (aa bb num z : Int32) (hbad : ¬ ((0 ≤ bb ∧ bb ≤ 65535) ∧ (0 ≤ z ∧ z ≤ 65535))) : Met l yX4_syn wsX4_syn ({ frames := 1, cells := 0, slots := 0, locals := 20 } : Room) (va_Pc [.ref mo, .int aa, .int bb, .int num, .int z] (ck_P (dC, dI) [(cI, .int), (cJ, .long), (cZ, .boolean)] lo sz [(mo, .inr (4, [.int th, .int zs, .int rq, .long k, .long l0, .int ti, .int ct, .int (nI n), .ref d1, .ref d2, .ref d3, .ref d4, .ref d5, .ref d6, .int (nI kc), .ref e1, .ref e2, .ref e3, .ref e4, .ref e5, .long v0, .long v1, .long v2, .long v3]))])) (va_Ql (fun (r : Int64) (u : Unit) => True) (fun u => ck_B (dC, dI) vwCl (va_A [(mo, .inr (4, [.int th, .int zs, .int rq, .long k, .long l0, .int ti, .int ct, .int (nI n), .ref d1, .ref d2, .ref d3, .ref d4, .ref d5, .ref d6, .int (nI kc), .ref e1, .ref e2, .ref e3, .ref e4, .ref e5, .long v0, .long v1, .long v2, .long v3]))] sz) ((fun u : Unit => ([(mo, .inr (4, [.int 1, .int zs, .int rq, .long k, .long l0, .int ti, .int ct, .int (nI n), .ref d1, .ref d2, .ref d3, .ref d4, .ref d5, .ref d6, .int (nI kc), .ref e1, .ref e2, .ref e3, .ref e4, .ref e5, .long v0, .long v1, .long v2, .long v3]))] : va_W)) u)) (va_A [(mo, .inr (4, [.int th, .int zs, .int rq, .long k, .long l0, .int ti, .int ct, .int (nI n), .ref d1, .ref d2, .ref d3, .ref d4, .ref d5, .ref d6, .int (nI kc), .ref e1, .ref e2, .ref e3, .ref e4, .ref e5, .long v0, .long v1, .long v2, .long v3]))] sz)) 0 0 (va_A [(mo, .inr (4, [.int th, .int zs, .int rq, .long k, .long l0, .int ti, .int ct, .int (nI n), .ref d1, .ref d2, .ref d3, .ref d4, .ref d5, .ref d6, .int (nI kc), .ref e1, .ref e2, .ref e3, .ref e4, .ref e5, .long v0, .long v1, .long v2, .long v3]))] sz) := by
  refine Met.ofW (cc := cX4_syn) (maxL := 8) (ret := (some .long)) (by decide) rfl ?_
  intro p e s m args below meth c s₁ B hml hv
  obtain ⟨rfl, hsz, hP, hK, hD0, hE⟩ := hv
  have hx := B.exec
  have hb := B.bytes
  have hr := B.returns
  have hts := atoms_spec (ws := wsX4_syn) B.pre
  have hown : s.vm.findClass RX4 = some m.cls := findClass_of_methodNamed B.named
  have hlocks := B.notSynchronized
  subst hsz
  have hD := hD0.self (sz := s.heap.size)
  have hlo := ck_lo (sz := s.heap.size) hD0 hE.1
  generalize hAe : va_A [(mo, .inr (4, [.int th, .int zs, .int rq, .long k, .long l0, .int ti, .int ct, .int (nI n), .ref d1, .ref d2, .ref d3, .ref d4, .ref d5, .ref d6, .int (nI kc), .ref e1, .ref e2, .ref e3, .ref e4, .ref e5, .long v0, .long v1, .long v2, .long v3]))] s.heap.size = A at hD hlo ⊢
  have hA : ∀ q : Nat, s.heap.size ≤ q → A q := fun q h => by rw [← hAe]; exact Or.inr h
  have hG : ck_G (dC, dI) [(cI, .int), (cJ, .long), (cZ, .boolean)] lo A s := ⟨hK, hE, hA, hlo⟩
  have hS : va_S A s.heap s.heap [] := va_S.rf
  have hP : va_P (dC, dI) vwCl [(mo, .inr (4, [.int th, .int zs, .int rq, .long k, .long l0, .int ti, .int ct, .int (nI n), .ref d1, .ref d2, .ref d3, .ref d4, .ref d5, .ref d6, .int (nI kc), .ref e1, .ref e2, .ref e3, .ref e4, .ref e5, .long v0, .long v1, .long v2, .long v3]))] s.heap := hP
  have hl := lv_entry ([.ref mo, .int aa, .int bb, .int num, .int z]) (n := 8) (Nat.le_of_ble_eq_true rfl)
  rw [lg_entry_eq]
  generalize (lg_sl ([.ref mo, .int aa, .int bb, .int num, .int z]) ++ List.replicate (8 - (lg_sl ([.ref mo, .int aa, .int bb, .int num, .int z])).length) Slot.unset).toArray = ls at hl ⊢
  have hl : lv_has ls 8 [(0, .ref mo), (1, .int aa), (2, .int bb), (3, .int num), (4, .int z)] := hl
  refine lv_aload_n hx hb dX4_syn_0 rfl (lv_at hl 0 rfl) ?_
  refine lv_iload_n hx hb dX4_syn_1 rfl (lv_at hl 2 rfl) ?_
  refine ck_ri (va_runS (As := [.int bb]) (rest := [.ref mo]) ⟨hx, hb, hml, hown, hts⟩ (c_X4_noPort l dC dI cI cJ cZ lo _ bb) (va_cwS 1 hts gX4_syn_X4_noPort rfl rfl rfl (by decide +kernel) ⟨(Nat.le_of_ble_eq_true rfl), (Nat.le_of_ble_eq_true rfl)⟩) ⟨ck_blind, (ck_pre hG hP hD hS [] rfl (by decide) _)⟩ rfl rfl hl.1 rfl (lv_room (Nat.le_of_ble_eq_true rfl)) dX4_syn_2 ⟨(Nat.le_of_ble_eq_true rfl), (Nat.le_of_ble_eq_true rfl)⟩) (fun r_1 hw_1 => ?_)
  have hw_1 : (r_1 = 1 ∧ ¬ (0 ≤ bb ∧ bb ≤ 65535)) ∨ (r_1 = 0 ∧ (0 ≤ bb ∧ bb ≤ 65535)) := hw_1
  refine lv_if_ne (tgt := 16) hx hb dX4_syn_5 (by decide) (fun c_5 => ?_) (fun c_5 => ?_)
  · skip
    refine lv_iconst (v := 1) hx hb dX4_syn_16 (by decide) ?_
    refine lv_goto (tgt := 21) hx hb dX4_syn_17 (by decide) ?_
    refine va_put (D := (dC, dI)) (ci := 4) (v := .int 1) (ty := .int) (C := RX4) (T := TX4) (N := 24) hx hb hts (k_X4_syn_in4) tyX4 tyX4_ok nmX4 hown hK hP hD hS 0 rfl rfl 0 (by decide) (hts _ k_X4_syn_f54) (fun _ h9 => h9) rfl (by decide +kernel) rfl rfl (Nat.le_of_ble_eq_true rfl) dX4_syn_21 (fun H locs hP hD hS => ?_)
    have hP : va_P (dC, dI) vwCl [(mo, .inr (4, [.int 1, .int zs, .int rq, .long k, .long l0, .int ti, .int ct, .int (nI n), .ref d1, .ref d2, .ref d3, .ref d4, .ref d5, .ref d6, .int (nI kc), .ref e1, .ref e2, .ref e3, .ref e4, .ref e5, .long v0, .long v1, .long v2, .long v3]))] H := hP
    have hD : va_D A [(mo, .inr (4, [.int 1, .int zs, .int rq, .long k, .long l0, .int ti, .int ct, .int (nI n), .ref d1, .ref d2, .ref d3, .ref d4, .ref d5, .ref d6, .int (nI kc), .ref e1, .ref e2, .ref e3, .ref e4, .ref e5, .long v0, .long v1, .long v2, .long v3]))] := hD
    refine lv_aload_n hx hb dX4_syn_24 rfl (lv_at hl 0 rfl) ?_
    refine va_get (D := (dC, dI)) (ci := 4) (v := .int 1) (C := RX4) (T := TX4) (N := 24) hx hb hts (k_X4_syn_in4) hown hK hP 0 rfl rfl 0 (by decide) (hts _ k_X4_syn_f54) (fun _ h9 => h9) rfl dX4_syn_25 ?_
    refine lv_if_le (tgt := 33) hx hb dX4_syn_28 (by decide) (fun c_28 => ?_) (fun c_28 => ?_)
    · skip
      exact absurd c_28 (by decide)
    · skip
      refine lv_lconst (v := 0) hx hb dX4_syn_31 (by decide) ?_
      subst_vars
      refine ck_lr hx hb hr hlocks (Nat.le_of_ble_eq_true rfl) (Nat.le_of_ble_eq_true rfl) dX4_syn_32 () hP hD hS ?_
      exact trivial
  · skip
    refine lv_iload hx hb dX4_syn_8 (lv_at hl 4 rfl) ?_
    refine ck_ri (va_runS (As := [.int z]) (rest := [.ref mo]) ⟨hx, hb, hml, hown, hts⟩ (c_X4_noPort l dC dI cI cJ cZ lo _ z) (va_cwS 1 hts gX4_syn_X4_noPort rfl rfl rfl (by decide +kernel) ⟨(Nat.le_of_ble_eq_true rfl), (Nat.le_of_ble_eq_true rfl)⟩) ⟨ck_blind, (ck_pre hG hP hD hS [] rfl (by decide) _)⟩ rfl rfl hl.1 rfl (lv_room (Nat.le_of_ble_eq_true rfl)) dX4_syn_10 ⟨(Nat.le_of_ble_eq_true rfl), (Nat.le_of_ble_eq_true rfl)⟩) (fun r_2 hw_2 => ?_)
    have hw_2 : (r_2 = 1 ∧ ¬ (0 ≤ z ∧ z ≤ 65535)) ∨ (r_2 = 0 ∧ (0 ≤ z ∧ z ≤ 65535)) := hw_2
    refine lv_if_eq (tgt := 20) hx hb dX4_syn_13 (by decide) (fun c_13 => ?_) (fun c_13 => ?_)
    · skip
      exact absurd ⟨(hw_1.resolve_left (fun z => absurd (z.1.symm.trans c_5) (by decide))).2, (hw_2.resolve_left (fun z => absurd (z.1.symm.trans c_13) (by decide))).2⟩ hbad
    · skip
      refine lv_iconst (v := 1) hx hb dX4_syn_16 (by decide) ?_
      refine lv_goto (tgt := 21) hx hb dX4_syn_17 (by decide) ?_
      refine va_put (D := (dC, dI)) (ci := 4) (v := .int 1) (ty := .int) (C := RX4) (T := TX4) (N := 24) hx hb hts (k_X4_syn_in4) tyX4 tyX4_ok nmX4 hown hK hP hD hS 0 rfl rfl 0 (by decide) (hts _ k_X4_syn_f54) (fun _ h9 => h9) rfl (by decide +kernel) rfl rfl (Nat.le_of_ble_eq_true rfl) dX4_syn_21 (fun H locs hP hD hS => ?_)
      have hP : va_P (dC, dI) vwCl [(mo, .inr (4, [.int 1, .int zs, .int rq, .long k, .long l0, .int ti, .int ct, .int (nI n), .ref d1, .ref d2, .ref d3, .ref d4, .ref d5, .ref d6, .int (nI kc), .ref e1, .ref e2, .ref e3, .ref e4, .ref e5, .long v0, .long v1, .long v2, .long v3]))] H := hP
      have hD : va_D A [(mo, .inr (4, [.int 1, .int zs, .int rq, .long k, .long l0, .int ti, .int ct, .int (nI n), .ref d1, .ref d2, .ref d3, .ref d4, .ref d5, .ref d6, .int (nI kc), .ref e1, .ref e2, .ref e3, .ref e4, .ref e5, .long v0, .long v1, .long v2, .long v3]))] := hD
      refine lv_aload_n hx hb dX4_syn_24 rfl (lv_at hl 0 rfl) ?_
      refine va_get (D := (dC, dI)) (ci := 4) (v := .int 1) (C := RX4) (T := TX4) (N := 24) hx hb hts (k_X4_syn_in4) hown hK hP 0 rfl rfl 0 (by decide) (hts _ k_X4_syn_f54) (fun _ h9 => h9) rfl dX4_syn_25 ?_
      refine lv_if_le (tgt := 33) hx hb dX4_syn_28 (by decide) (fun c_28 => ?_) (fun c_28 => ?_)
      · skip
        exact absurd c_28 (by decide)
      · skip
        refine lv_lconst (v := 0) hx hb dX4_syn_31 (by decide) ?_
        subst_vars
        refine ck_lr hx hb hr hlocks (Nat.le_of_ble_eq_true rfl) (Nat.le_of_ble_eq_true rfl) dX4_syn_32 () hP hD hS ?_
        exact trivial
