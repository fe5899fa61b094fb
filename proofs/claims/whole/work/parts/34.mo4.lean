set_option maxRecDepth 20000 in
theorem k_X4_ack_f54 : (.fieldLink RX4 54 "CookieListenerModel" "thrown" "I" : Cond) ∈ wsX4_ack := by decide +kernel
set_option maxRecDepth 20000 in
theorem k_X4_ack_in4 : ∀ w ∈ u_ws RX4 TX4 24, w ∈ wsX4_ack := by decide +kernel
set_option maxRecDepth 20000 in
theorem k_X4_ack_f16 : (.fieldLink RX4 16 "CookieListenerModel" "cookiesTime" "I" : Cond) ∈ wsX4_ack := by decide +kernel
set_option maxRecDepth 20000 in
theorem k_X4_ack_f51 : (.fieldLink RX4 51 "CookieListenerModel" "counts" "[I" : Cond) ∈ wsX4_ack := by decide +kernel
set_option maxRecDepth 20000 in
theorem k_X4_ack_f130 : (.fieldLink RX4 130 "CookieListenerModel" "time" "I" : Cond) ∈ wsX4_ack := by decide +kernel
set_option maxRecDepth 20000 in
theorem k_X4_ack_f26 : (.fieldLink RX4 26 "CookieListenerModel" "halfNumber" "[I" : Cond) ∈ wsX4_ack := by decide +kernel
set_option maxRecDepth 20000 in
theorem k_X4_ack_f29 : (.fieldLink RX4 29 "CookieListenerModel" "halfOwn" "[I" : Cond) ∈ wsX4_ack := by decide +kernel
set_option maxRecDepth 20000 in
theorem k_X4_ack_f32 : (.fieldLink RX4 32 "CookieListenerModel" "halfKind" "[I" : Cond) ∈ wsX4_ack := by decide +kernel
set_option maxHeartbeats 4000000 in
set_option maxRecDepth 100000 in
theorem c_X4_ack (l : Launch) (dC : Nat → ClassId) (dI : Nat → Nat → Nat) (cI cJ cZ : ClassId) (lo sz : Nat) (mo : Nat) (th zs rq : Int32) (k l0 : Int64) (ti ct : Int32) (n : Nat) (d1 d2 d3 d4 d5 d6 : Nat) (kc : Nat) (e1 e2 e3 e4 e5 : Nat) (v0 v1 v2 v3 : Int64) (p1 p2 p3 p4 p5 p6 : Nat → Int32) (t1 t2 t3 t4 : Nat → Int32) (cs : Nat → Int32) (aa bb na nb : Int32) (hb1 : 0 ≤ bb) (hb2 : bb ≤ 65535) (hn : n ≤ 32) (hk : kc ≤ 64) (hpo : ∀ i, i < n → ck_pok (p2 i)) : Met l yX4_ack wsX4_ack ({ frames := 5, cells := 0, slots := 0, locals := 120 } : Room) (va_Pc [.ref mo, .int aa, .int bb, .int na, .int nb] (ck_P (dC, dI) [(cI, .int), (cJ, .long), (cZ, .boolean)] lo sz [(mo, .inr (4, [.int th, .int zs, .int rq, .long k, .long l0, .int ti, .int ct, .int (nI n), .ref d1, .ref d2, .ref d3, .ref d4, .ref d5, .ref d6, .int (nI kc), .ref e1, .ref e2, .ref e3, .ref e4, .ref e5, .long v0, .long v1, .long v2, .long v3])), (d1, .inl (cI, 32, .inl p1)), (d2, .inl (cI, 32, .inl p2)), (d3, .inl (cI, 32, .inl p3)), (d4, .inl (cI, 32, .inl p4)), (d5, .inl (cI, 32, .inl p5)), (d6, .inl (cI, 32, .inl p6)), (e1, .inl (cI, 64, .inl t1)), (e2, .inl (cI, 64, .inl t2)), (e3, .inl (cI, 64, .inl t3)), (e4, .inl (cZ, 64, .inl t4)), (e5, .inl (cI, 4, .inl cs))])) (va_Qi (fun (r : Int32) (u : Nat × Nat × (Nat → Int32) × (Nat → Int32) × (Nat → Int32) × (Nat → Int32) × (Nat → Int32) × (Nat → Int32) × (Nat → Int32) × (Nat → Int32) × (Nat → Int32) × (Nat → Int32) × (Nat → Int32) × Int64 × Int64 × Int64 × Int64) => ((∃ j, j < kc ∧ t1 j = aa ∧ t2 j = bb) ∧ r = 1 ∧ u.2.2.2.2.2.2.2.2.2.2.2.2.1 = cs ∧ u.1 = n ∧ u.2.2.1 = p1 ∧ u.2.2.2.1 = p2 ∧ u.2.2.2.2.1 = p3 ∧ u.2.2.2.2.2.1 = p4 ∧ u.2.2.2.2.2.2.1 = p5 ∧ u.2.2.2.2.2.2.2.1 = p6 ∧ u.2.1 = kc ∧ u.2.2.2.2.2.2.2.2.1 = t1 ∧ u.2.2.2.2.2.2.2.2.2.1 = t2 ∧ u.2.2.2.2.2.2.2.2.2.2.1 = t3 ∧ u.2.2.2.2.2.2.2.2.2.2.2.1 = t4) ∨ ((∀ i, i < kc → ¬ (t1 i = aa ∧ t2 i = bb)) ∧ ∃ j, j < n ∧ p1 j = aa ∧ p2 j = bb ∧ ((¬ (p3 j = na - 1 ∧ p4 j = nb - 1) ∧ r = 4 ∧ u.2.2.2.2.2.2.2.2.2.2.2.2.1 = cs ∧ u.1 = n ∧ u.2.2.1 = p1 ∧ u.2.2.2.1 = p2 ∧ u.2.2.2.2.1 = p3 ∧ u.2.2.2.2.2.1 = p4 ∧ u.2.2.2.2.2.2.1 = p5 ∧ u.2.2.2.2.2.2.2.1 = p6 ∧ u.2.1 = kc ∧ u.2.2.2.2.2.2.2.2.1 = t1 ∧ u.2.2.2.2.2.2.2.2.2.1 = t2 ∧ u.2.2.2.2.2.2.2.2.2.2.1 = t3 ∧ u.2.2.2.2.2.2.2.2.2.2.2.1 = t4) ∨ ((p3 j = na - 1 ∧ p4 j = nb - 1) ∧ ¬ (nI (ck_cnt kc t4) < rq ∧ kc < 64) ∧ r = 3 ∧ u.2.2.2.2.2.2.2.2.2.2.2.2.1 = cs ∧ u.1 = n ∧ u.2.2.1 = p1 ∧ u.2.2.2.1 = p2 ∧ u.2.2.2.2.1 = p3 ∧ u.2.2.2.2.2.1 = p4 ∧ u.2.2.2.2.2.2.1 = p5 ∧ u.2.2.2.2.2.2.2.1 = p6 ∧ u.2.1 = kc ∧ u.2.2.2.2.2.2.2.2.1 = t1 ∧ u.2.2.2.2.2.2.2.2.2.1 = t2 ∧ u.2.2.2.2.2.2.2.2.2.2.1 = t3 ∧ u.2.2.2.2.2.2.2.2.2.2.2.1 = t4) ∨ ((p3 j = na - 1 ∧ p4 j = nb - 1) ∧ (nI (ck_cnt kc t4) < rq ∧ kc < 64) ∧ r = 2 ∧ u.2.2.2.2.2.2.2.2.2.2.2.2.1 = upd cs 1 (cs 1 + 1) ∧ n = u.1 + 1 ∧ ck_gone u.1 (ck_M p1 p2 p3 p4 p5 p6) (ck_M u.2.2.1 u.2.2.2.1 u.2.2.2.2.1 u.2.2.2.2.2.1 u.2.2.2.2.2.2.1 u.2.2.2.2.2.2.2.1) j ∧ (∀ i, i < u.1 → ck_pok (u.2.2.2.1 i)) ∧ u.2.1 = kc + 1 ∧ u.2.2.2.2.2.2.2.2.1 = upd t1 kc aa ∧ u.2.2.2.2.2.2.2.2.2.1 = upd t2 kc bb ∧ u.2.2.2.2.2.2.2.2.2.2.1 = upd t3 kc (p5 j) ∧ u.2.2.2.2.2.2.2.2.2.2.2.1 = upd t4 kc 0))) ∨ ((∀ i, i < kc → ¬ (t1 i = aa ∧ t2 i = bb)) ∧ (∀ i, i < n → ¬ (p1 i = aa ∧ p2 i = bb)) ∧ u.1 = n ∧ u.2.2.1 = p1 ∧ u.2.2.2.1 = p2 ∧ u.2.2.2.2.1 = p3 ∧ u.2.2.2.2.2.1 = p4 ∧ u.2.2.2.2.2.2.1 = p5 ∧ u.2.2.2.2.2.2.2.1 = p6 ∧ ((¬ ck_mly ct ti ∧ r = 8 ∧ u.2.2.2.2.2.2.2.2.2.2.2.2.1 = upd cs 3 (cs 3 + 1) ∧ u.2.1 = kc ∧ u.2.2.2.2.2.2.2.2.1 = t1 ∧ u.2.2.2.2.2.2.2.2.2.1 = t2 ∧ u.2.2.2.2.2.2.2.2.2.2.1 = t3 ∧ u.2.2.2.2.2.2.2.2.2.2.2.1 = t4) ∨ (ck_mly ct ti ∧ ¬ ck_mlate k l0 aa bb (na - 1) ((((nb - 1).toUInt32 >>> ((24 : Int32).toUInt32 &&& Int32.toUInt32 31)).toInt32) &&& 7) ti (nb - 1) ∧ r = 7 ∧ u.2.2.2.2.2.2.2.2.2.2.2.2.1 = upd cs 3 (cs 3 + 1) ∧ u.2.1 = kc ∧ u.2.2.2.2.2.2.2.2.1 = t1 ∧ u.2.2.2.2.2.2.2.2.2.1 = t2 ∧ u.2.2.2.2.2.2.2.2.2.2.1 = t3 ∧ u.2.2.2.2.2.2.2.2.2.2.2.1 = t4) ∨ (ck_mly ct ti ∧ ck_mlate k l0 aa bb (na - 1) ((((nb - 1).toUInt32 >>> ((24 : Int32).toUInt32 &&& Int32.toUInt32 31)).toInt32) &&& 7) ti (nb - 1) ∧ ¬ (nI (ck_cnt kc t4) < rq ∧ kc < 64) ∧ r = 6 ∧ u.2.2.2.2.2.2.2.2.2.2.2.2.1 = cs ∧ u.2.1 = kc ∧ u.2.2.2.2.2.2.2.2.1 = t1 ∧ u.2.2.2.2.2.2.2.2.2.1 = t2 ∧ u.2.2.2.2.2.2.2.2.2.2.1 = t3 ∧ u.2.2.2.2.2.2.2.2.2.2.2.1 = t4) ∨ (ck_mly ct ti ∧ ck_mlate k l0 aa bb (na - 1) ((((nb - 1).toUInt32 >>> ((24 : Int32).toUInt32 &&& Int32.toUInt32 31)).toInt32) &&& 7) ti (nb - 1) ∧ (nI (ck_cnt kc t4) < rq ∧ kc < 64) ∧ r = 5 ∧ u.2.2.2.2.2.2.2.2.2.2.2.2.1 = upd cs 2 (cs 2 + 1) ∧ u.2.1 = kc + 1 ∧ u.2.2.2.2.2.2.2.2.1 = upd t1 kc aa ∧ u.2.2.2.2.2.2.2.2.2.1 = upd t2 kc bb ∧ u.2.2.2.2.2.2.2.2.2.2.1 = upd t3 kc ((((nb - 1).toUInt32 >>> ((24 : Int32).toUInt32 &&& Int32.toUInt32 31)).toInt32) &&& 7) ∧ u.2.2.2.2.2.2.2.2.2.2.2.1 = upd t4 kc 0)))) (fun u => ck_B (dC, dI) vwCl (va_A [(mo, .inr (4, [.int th, .int zs, .int rq, .long k, .long l0, .int ti, .int ct, .int (nI n), .ref d1, .ref d2, .ref d3, .ref d4, .ref d5, .ref d6, .int (nI kc), .ref e1, .ref e2, .ref e3, .ref e4, .ref e5, .long v0, .long v1, .long v2, .long v3])), (d1, .inl (cI, 32, .inl p1)), (d2, .inl (cI, 32, .inl p2)), (d3, .inl (cI, 32, .inl p3)), (d4, .inl (cI, 32, .inl p4)), (d5, .inl (cI, 32, .inl p5)), (d6, .inl (cI, 32, .inl p6)), (e1, .inl (cI, 64, .inl t1)), (e2, .inl (cI, 64, .inl t2)), (e3, .inl (cI, 64, .inl t3)), (e4, .inl (cZ, 64, .inl t4)), (e5, .inl (cI, 4, .inl cs))] sz) ((fun u : Nat × Nat × (Nat → Int32) × (Nat → Int32) × (Nat → Int32) × (Nat → Int32) × (Nat → Int32) × (Nat → Int32) × (Nat → Int32) × (Nat → Int32) × (Nat → Int32) × (Nat → Int32) × (Nat → Int32) × Int64 × Int64 × Int64 × Int64 => ([(mo, .inr (4, [.int 0, .int zs, .int rq, .long k, .long l0, .int ti, .int ct, .int (nI u.1), .ref d1, .ref d2, .ref d3, .ref d4, .ref d5, .ref d6, .int (nI u.2.1), .ref e1, .ref e2, .ref e3, .ref e4, .ref e5, .long u.2.2.2.2.2.2.2.2.2.2.2.2.2.1, .long u.2.2.2.2.2.2.2.2.2.2.2.2.2.2.1, .long u.2.2.2.2.2.2.2.2.2.2.2.2.2.2.2.1, .long u.2.2.2.2.2.2.2.2.2.2.2.2.2.2.2.2])), (d1, .inl (cI, 32, .inl u.2.2.1)), (d2, .inl (cI, 32, .inl u.2.2.2.1)), (d3, .inl (cI, 32, .inl u.2.2.2.2.1)), (d4, .inl (cI, 32, .inl u.2.2.2.2.2.1)), (d5, .inl (cI, 32, .inl u.2.2.2.2.2.2.1)), (d6, .inl (cI, 32, .inl u.2.2.2.2.2.2.2.1)), (e1, .inl (cI, 64, .inl u.2.2.2.2.2.2.2.2.1)), (e2, .inl (cI, 64, .inl u.2.2.2.2.2.2.2.2.2.1)), (e3, .inl (cI, 64, .inl u.2.2.2.2.2.2.2.2.2.2.1)), (e4, .inl (cZ, 64, .inl u.2.2.2.2.2.2.2.2.2.2.2.1)), (e5, .inl (cI, 4, .inl u.2.2.2.2.2.2.2.2.2.2.2.2.1))] : va_W)) u)) (va_A [(mo, .inr (4, [.int th, .int zs, .int rq, .long k, .long l0, .int ti, .int ct, .int (nI n), .ref d1, .ref d2, .ref d3, .ref d4, .ref d5, .ref d6, .int (nI kc), .ref e1, .ref e2, .ref e3, .ref e4, .ref e5, .long v0, .long v1, .long v2, .long v3])), (d1, .inl (cI, 32, .inl p1)), (d2, .inl (cI, 32, .inl p2)), (d3, .inl (cI, 32, .inl p3)), (d4, .inl (cI, 32, .inl p4)), (d5, .inl (cI, 32, .inl p5)), (d6, .inl (cI, 32, .inl p6)), (e1, .inl (cI, 64, .inl t1)), (e2, .inl (cI, 64, .inl t2)), (e3, .inl (cI, 64, .inl t3)), (e4, .inl (cZ, 64, .inl t4)), (e5, .inl (cI, 4, .inl cs))] sz)) 0 0 (va_A [(mo, .inr (4, [.int th, .int zs, .int rq, .long k, .long l0, .int ti, .int ct, .int (nI n), .ref d1, .ref d2, .ref d3, .ref d4, .ref d5, .ref d6, .int (nI kc), .ref e1, .ref e2, .ref e3, .ref e4, .ref e5, .long v0, .long v1, .long v2, .long v3])), (d1, .inl (cI, 32, .inl p1)), (d2, .inl (cI, 32, .inl p2)), (d3, .inl (cI, 32, .inl p3)), (d4, .inl (cI, 32, .inl p4)), (d5, .inl (cI, 32, .inl p5)), (d6, .inl (cI, 32, .inl p6)), (e1, .inl (cI, 64, .inl t1)), (e2, .inl (cI, 64, .inl t2)), (e3, .inl (cI, 64, .inl t3)), (e4, .inl (cZ, 64, .inl t4)), (e5, .inl (cI, 4, .inl cs))] sz) := by
  refine Met.ofW (cc := cX4_ack) (maxL := 10) (ret := (some .int)) (by decide) rfl ?_
  intro p e s m args below meth c s₁ B hml hv
  obtain ⟨rfl, hsz, hP, hK, hD0, hE⟩ := hv
  have hx := B.exec
  have hb := B.bytes
  have hr := B.returns
  have hts := atoms_spec (ws := wsX4_ack) B.pre
  have hown : s.vm.findClass RX4 = some m.cls := findClass_of_methodNamed B.named
  have hlocks := B.notSynchronized
  subst hsz
  have hD := hD0.self (sz := s.heap.size)
  have hlo := ck_lo (sz := s.heap.size) hD0 hE.1
  generalize hAe : va_A [(mo, .inr (4, [.int th, .int zs, .int rq, .long k, .long l0, .int ti, .int ct, .int (nI n), .ref d1, .ref d2, .ref d3, .ref d4, .ref d5, .ref d6, .int (nI kc), .ref e1, .ref e2, .ref e3, .ref e4, .ref e5, .long v0, .long v1, .long v2, .long v3])), (d1, .inl (cI, 32, .inl p1)), (d2, .inl (cI, 32, .inl p2)), (d3, .inl (cI, 32, .inl p3)), (d4, .inl (cI, 32, .inl p4)), (d5, .inl (cI, 32, .inl p5)), (d6, .inl (cI, 32, .inl p6)), (e1, .inl (cI, 64, .inl t1)), (e2, .inl (cI, 64, .inl t2)), (e3, .inl (cI, 64, .inl t3)), (e4, .inl (cZ, 64, .inl t4)), (e5, .inl (cI, 4, .inl cs))] s.heap.size = A at hD hlo ⊢
  have hA : ∀ q : Nat, s.heap.size ≤ q → A q := fun q h => by rw [← hAe]; exact Or.inr h
  have hG : ck_G (dC, dI) [(cI, .int), (cJ, .long), (cZ, .boolean)] lo A s := ⟨hK, hE, hA, hlo⟩
  have hS : va_S A s.heap s.heap [] := va_S.rf
  have hP : va_P (dC, dI) vwCl [(mo, .inr (4, [.int th, .int zs, .int rq, .long k, .long l0, .int ti, .int ct, .int (nI n), .ref d1, .ref d2, .ref d3, .ref d4, .ref d5, .ref d6, .int (nI kc), .ref e1, .ref e2, .ref e3, .ref e4, .ref e5, .long v0, .long v1, .long v2, .long v3])), (d1, .inl (cI, 32, .inl p1)), (d2, .inl (cI, 32, .inl p2)), (d3, .inl (cI, 32, .inl p3)), (d4, .inl (cI, 32, .inl p4)), (d5, .inl (cI, 32, .inl p5)), (d6, .inl (cI, 32, .inl p6)), (e1, .inl (cI, 64, .inl t1)), (e2, .inl (cI, 64, .inl t2)), (e3, .inl (cI, 64, .inl t3)), (e4, .inl (cZ, 64, .inl t4)), (e5, .inl (cI, 4, .inl cs))] s.heap := hP
  have hl := lv_entry ([.ref mo, .int aa, .int bb, .int na, .int nb]) (n := 10) (Nat.le_of_ble_eq_true rfl)
  rw [lg_entry_eq]
  generalize (lg_sl ([.ref mo, .int aa, .int bb, .int na, .int nb]) ++ List.replicate (10 - (lg_sl ([.ref mo, .int aa, .int bb, .int na, .int nb])).length) Slot.unset).toArray = ls at hl ⊢
  have hl : lv_has ls 10 [(0, .ref mo), (1, .int aa), (2, .int bb), (3, .int na), (4, .int nb)] := hl
  refine lv_aload_n hx hb dX4_ack_0 rfl (lv_at hl 0 rfl) ?_
  refine lv_iload_n hx hb dX4_ack_1 rfl (lv_at hl 2 rfl) ?_
  refine ck_ri (va_runS (As := [.int bb]) (rest := [.ref mo]) ⟨hx, hb, hml, hown, hts⟩ (c_X4_noPort l dC dI cI cJ cZ lo _ bb) (va_cwS 1 hts gX4_ack_X4_noPort rfl rfl rfl (by decide +kernel) ⟨(Nat.le_of_ble_eq_true rfl), (Nat.le_of_ble_eq_true rfl)⟩) ⟨ck_blind, (ck_pre hG hP hD hS [] rfl (by decide) _)⟩ rfl rfl hl.1 rfl (lv_room (Nat.le_of_ble_eq_true rfl)) dX4_ack_2 ⟨(Nat.le_of_ble_eq_true rfl), (Nat.le_of_ble_eq_true rfl)⟩) (fun r_1 hw_1 => ?_)
  have hw_1 : (r_1 = 1 ∧ ¬ (0 ≤ bb ∧ bb ≤ 65535)) ∨ (r_1 = 0 ∧ (0 ≤ bb ∧ bb ≤ 65535)) := hw_1
  refine lv_if_eq (tgt := 12) hx hb dX4_ack_5 (by decide) (fun c_5 => ?_) (fun c_5 => ?_)
  · skip
    refine lv_iconst (v := 0) hx hb dX4_ack_12 (by decide) ?_
    refine va_put (D := (dC, dI)) (ci := 4) (v := .int 0) (ty := .int) (C := RX4) (T := TX4) (N := 24) hx hb hts (k_X4_ack_in4) tyX4 tyX4_ok nmX4 hown hK hP hD hS 0 rfl rfl 0 (by decide) (hts _ k_X4_ack_f54) (fun _ h9 => h9) rfl (by decide +kernel) rfl rfl (Nat.le_of_ble_eq_true rfl) dX4_ack_13 (fun H locs hP hD hS => ?_)
    have hP : va_P (dC, dI) vwCl [(mo, .inr (4, [.int 0, .int zs, .int rq, .long k, .long l0, .int ti, .int ct, .int (nI n), .ref d1, .ref d2, .ref d3, .ref d4, .ref d5, .ref d6, .int (nI kc), .ref e1, .ref e2, .ref e3, .ref e4, .ref e5, .long v0, .long v1, .long v2, .long v3])), (d1, .inl (cI, 32, .inl p1)), (d2, .inl (cI, 32, .inl p2)), (d3, .inl (cI, 32, .inl p3)), (d4, .inl (cI, 32, .inl p4)), (d5, .inl (cI, 32, .inl p5)), (d6, .inl (cI, 32, .inl p6)), (e1, .inl (cI, 64, .inl t1)), (e2, .inl (cI, 64, .inl t2)), (e3, .inl (cI, 64, .inl t3)), (e4, .inl (cZ, 64, .inl t4)), (e5, .inl (cI, 4, .inl cs))] H := hP
    have hD : va_D A [(mo, .inr (4, [.int 0, .int zs, .int rq, .long k, .long l0, .int ti, .int ct, .int (nI n), .ref d1, .ref d2, .ref d3, .ref d4, .ref d5, .ref d6, .int (nI kc), .ref e1, .ref e2, .ref e3, .ref e4, .ref e5, .long v0, .long v1, .long v2, .long v3])), (d1, .inl (cI, 32, .inl p1)), (d2, .inl (cI, 32, .inl p2)), (d3, .inl (cI, 32, .inl p3)), (d4, .inl (cI, 32, .inl p4)), (d5, .inl (cI, 32, .inl p5)), (d6, .inl (cI, 32, .inl p6)), (e1, .inl (cI, 64, .inl t1)), (e2, .inl (cI, 64, .inl t2)), (e3, .inl (cI, 64, .inl t3)), (e4, .inl (cZ, 64, .inl t4)), (e5, .inl (cI, 4, .inl cs))] := hD
    refine lv_aload_n hx hb dX4_ack_16 rfl (lv_at hl 0 rfl) ?_
    refine va_get (D := (dC, dI)) (ci := 4) (v := .int 0) (C := RX4) (T := TX4) (N := 24) hx hb hts (k_X4_ack_in4) hown hK hP 0 rfl rfl 0 (by decide) (hts _ k_X4_ack_f54) (fun _ h9 => h9) rfl dX4_ack_17 ?_
    refine lv_if_le (tgt := 25) hx hb dX4_ack_20 (by decide) (fun c_20 => ?_) (fun c_20 => ?_)
    · skip
      refine lv_aload_n hx hb dX4_ack_25 rfl (lv_at hl 0 rfl) ?_
      refine lv_iload_n hx hb dX4_ack_26 rfl (lv_at hl 1 rfl) ?_
      refine lv_iload_n hx hb dX4_ack_27 rfl (lv_at hl 2 rfl) ?_
      refine ck_ri (va_runV (As := [.int aa, .int bb]) (rest := []) ⟨hx, hb, hml, hown, hts⟩ (c_X4_opened l dC dI cI cJ cZ lo _ mo 0 zs rq k l0 ti ct n d1 d2 d3 d4 d5 d6 kc e1 e2 e3 e4 e5 v0 v1 v2 v3 t1 t2 aa bb (by first | assumption | omega)) (cwV 2 hts gX4_ack_X4_opened rfl rfl rfl (by decide +kernel) ⟨(Nat.le_of_ble_eq_true rfl), (Nat.le_of_ble_eq_true rfl)⟩) ⟨ck_blind, va_recv hK hP (ci := 4) (q0 := 0) rfl rfl, (ck_pre hG hP hD hS [0, 7, 8] rfl (by decide) _)⟩ rfl rfl hl.1 rfl (lv_room (Nat.le_of_ble_eq_true rfl)) dX4_ack_28 ⟨(Nat.le_of_ble_eq_true rfl), (Nat.le_of_ble_eq_true rfl)⟩) (fun r_2 hw_2 => ?_)
      have hw_2 : ck_mfd kc t1 t2 aa bb r_2 := hw_2
      refine lv_if_lt (tgt := 36) hx hb dX4_ack_31 (by decide) (fun c_31 => ?_) (fun c_31 => ?_)
      · skip
        have hn_2 : ∀ i, i < kc → ¬ (t1 i = aa ∧ t2 i = bb) := by
          rcases hw_2 with z | ⟨j9, hj9, ej9, -⟩
          · exact z.2
          · exact absurd (by rw [← ej9]; exact c_31) (nI_pos (n := j9) (by omega))
        refine lv_aload_n hx hb dX4_ack_36 rfl (lv_at hl 0 rfl) ?_
        refine lv_iload_n hx hb dX4_ack_37 rfl (lv_at hl 1 rfl) ?_
        refine lv_iload_n hx hb dX4_ack_38 rfl (lv_at hl 2 rfl) ?_
        refine ck_ri (va_runV (As := [.int aa, .int bb]) (rest := []) ⟨hx, hb, hml, hown, hts⟩ (c_X4_half l dC dI cI cJ cZ lo _ mo 0 zs rq k l0 ti ct n d1 d2 d3 d4 d5 d6 kc e1 e2 e3 e4 e5 v0 v1 v2 v3 p1 p2 aa bb (by first | assumption | omega)) (cwV 2 hts gX4_ack_X4_half rfl rfl rfl (by decide +kernel) ⟨(Nat.le_of_ble_eq_true rfl), (Nat.le_of_ble_eq_true rfl)⟩) ⟨ck_blind, va_recv hK hP (ci := 4) (q0 := 0) rfl rfl, (ck_pre hG hP hD hS [0, 1, 2] rfl (by decide) _)⟩ rfl rfl hl.1 rfl (lv_room (Nat.le_of_ble_eq_true rfl)) dX4_ack_39 ⟨(Nat.le_of_ble_eq_true rfl), (Nat.le_of_ble_eq_true rfl)⟩) (fun r_3 hw_3 => ?_)
        have hw_3 : ck_mfd n p1 p2 aa bb r_3 := hw_3
        refine lv_istore (lv' := [(5, .int r_3), (0, .ref mo), (1, .int aa), (2, .int bb), (3, .int na), (4, .int nb)]) hx hb dX4_ack_42 hl (by decide) rfl (fun ls hl => ?_)
        refine lv_iload hx hb dX4_ack_44 (lv_at hl 0 rfl) ?_
        refine lv_if_lt (tgt := 116) hx hb dX4_ack_46 (by decide) (fun c_46 => ?_) (fun c_46 => ?_)
        · skip
          have hn_3 : ∀ i, i < n → ¬ (p1 i = aa ∧ p2 i = bb) := by
            rcases hw_3 with z | ⟨j9, hj9, ej9, -⟩
            · exact z.2
            · exact absurd (by rw [← ej9]; exact c_46) (nI_pos (n := j9) (by omega))
          refine lv_iload hx hb dX4_ack_116 (lv_at hl 0 rfl) ?_
          refine lv_if_lt (tgt := 123) hx hb dX4_ack_118 (by decide) (fun c_118 => ?_) (fun c_118 => ?_)
          · skip
            refine lv_aload_n hx hb dX4_ack_123 rfl (lv_at hl 1 rfl) ?_
            refine va_get (D := (dC, dI)) (ci := 4) (v := .int ct) (C := RX4) (T := TX4) (N := 24) hx hb hts (k_X4_ack_in4) hown hK hP 0 rfl rfl 6 (by decide) (hts _ k_X4_ack_f16) (fun _ h9 => h9) rfl dX4_ack_124 ?_
            refine lv_if_lt (tgt := 145) hx hb dX4_ack_127 (by decide) (fun c_127 => ?_) (fun c_127 => ?_)
            · skip
              refine lv_aload_n hx hb dX4_ack_145 rfl (lv_at hl 1 rfl) ?_
              refine va_get (D := (dC, dI)) (ci := 4) (v := .ref e5) (C := RX4) (T := TX4) (N := 24) hx hb hts (k_X4_ack_in4) hown hK hP 0 rfl rfl 19 (by decide) (hts _ k_X4_ack_f51) (fun _ h9 => h9) rfl dX4_ack_146 ?_
              refine lv_iconst (v := nI 3) hx hb dX4_ack_149 (by decide) ?_
              refine lv_dup2_11 hx hb dX4_ack_150 rfl rfl ?_
              refine ck_iald hx hb hK hP 11 0 rfl rfl (by omega) (by decide) dX4_ack_151 ?_
              refine lv_iconst (v := 1) hx hb dX4_ack_152 (by decide) ?_
              refine lv_iadd hx hb dX4_ack_153 ?_
              refine lv_topi (fun x_4 ex_4 => ?_)
              refine ck_iast hx hb hK hP hD hS 11 0 rfl rfl (by omega) (by decide) dX4_ack_154 (fun H locs hP hD hS => ?_)
              have hP : va_P (dC, dI) vwCl [(mo, .inr (4, [.int 0, .int zs, .int rq, .long k, .long l0, .int ti, .int ct, .int (nI n), .ref d1, .ref d2, .ref d3, .ref d4, .ref d5, .ref d6, .int (nI kc), .ref e1, .ref e2, .ref e3, .ref e4, .ref e5, .long v0, .long v1, .long v2, .long v3])), (d1, .inl (cI, 32, .inl p1)), (d2, .inl (cI, 32, .inl p2)), (d3, .inl (cI, 32, .inl p3)), (d4, .inl (cI, 32, .inl p4)), (d5, .inl (cI, 32, .inl p5)), (d6, .inl (cI, 32, .inl p6)), (e1, .inl (cI, 64, .inl t1)), (e2, .inl (cI, 64, .inl t2)), (e3, .inl (cI, 64, .inl t3)), (e4, .inl (cZ, 64, .inl t4)), (e5, .inl (cI, 4, .inl (upd cs 3 x_4)))] H := hP
              have hD : va_D A [(mo, .inr (4, [.int 0, .int zs, .int rq, .long k, .long l0, .int ti, .int ct, .int (nI n), .ref d1, .ref d2, .ref d3, .ref d4, .ref d5, .ref d6, .int (nI kc), .ref e1, .ref e2, .ref e3, .ref e4, .ref e5, .long v0, .long v1, .long v2, .long v3])), (d1, .inl (cI, 32, .inl p1)), (d2, .inl (cI, 32, .inl p2)), (d3, .inl (cI, 32, .inl p3)), (d4, .inl (cI, 32, .inl p4)), (d5, .inl (cI, 32, .inl p5)), (d6, .inl (cI, 32, .inl p6)), (e1, .inl (cI, 64, .inl t1)), (e2, .inl (cI, 64, .inl t2)), (e3, .inl (cI, 64, .inl t3)), (e4, .inl (cZ, 64, .inl t4)), (e5, .inl (cI, 4, .inl (upd cs 3 x_4)))] := hD
              refine lv_bipush (v := 8) hx hb dX4_ack_155 (by decide) ?_
              refine ck_ir hx hb hr hlocks (Nat.le_of_ble_eq_true rfl) (Nat.le_of_ble_eq_true rfl) dX4_ack_157 (n, kc, p1, p2, p3, p4, p5, p6, t1, t2, t3, t4, upd cs 3 x_4, v0, v1, v2, v3) hP hD hS ?_
              subst_vars
              exact Or.inr (Or.inr ⟨hn_2, hn_3, rfl, rfl, rfl, rfl, rfl, rfl, rfl, Or.inl ⟨fun z => z.1 c_127, rfl, rfl, rfl, rfl, rfl, rfl, rfl⟩⟩)
            · skip
              refine lv_aload_n hx hb dX4_ack_130 rfl (lv_at hl 1 rfl) ?_
              refine va_get (D := (dC, dI)) (ci := 4) (v := .int ti) (C := RX4) (T := TX4) (N := 24) hx hb hts (k_X4_ack_in4) hown hK hP 0 rfl rfl 5 (by decide) (hts _ k_X4_ack_f130) (fun _ h9 => h9) rfl dX4_ack_131 ?_
              refine lv_aload_n hx hb dX4_ack_134 rfl (lv_at hl 1 rfl) ?_
              refine va_get (D := (dC, dI)) (ci := 4) (v := .int ct) (C := RX4) (T := TX4) (N := 24) hx hb hts (k_X4_ack_in4) hown hK hP 0 rfl rfl 6 (by decide) (hts _ k_X4_ack_f16) (fun _ h9 => h9) rfl dX4_ack_135 ?_
              refine lv_isub hx hb dX4_ack_138 ?_
              refine lv_sipush (v := 128) hx hb dX4_ack_139 (by decide) ?_
              refine lv_icmp_le (tgt := 158) hx hb dX4_ack_142 (by decide) (fun c_142 => ?_) (fun c_142 => ?_)
              · skip
                refine lv_iload hx hb dX4_ack_158 (lv_at hl 5 rfl) ?_
                refine lv_iconst (v := 1) hx hb dX4_ack_160 (by decide) ?_
                refine lv_isub hx hb dX4_ack_161 ?_
                refine lv_topi (fun x_c ex_c => ?_)
                refine lv_istore (lv' := [(6, .int x_c), (5, .int r_3), (0, .ref mo), (1, .int aa), (2, .int bb), (3, .int na), (4, .int nb)]) hx hb dX4_ack_162 hl (by decide) rfl (fun ls hl => ?_)
                refine lv_iload hx hb dX4_ack_164 (lv_at hl 0 rfl) ?_
                refine lv_bipush (v := 24) hx hb dX4_ack_166 (by decide) ?_
                refine lv_iushr hx hb dX4_ack_168 rfl ?_
                refine lv_bipush (v := 7) hx hb dX4_ack_169 (by decide) ?_
                refine lv_iand hx hb dX4_ack_171 ?_
                refine lv_topi (fun x_k ex_k => ?_)
                refine lv_istore (lv' := [(7, .int x_k), (6, .int x_c), (5, .int r_3), (0, .ref mo), (1, .int aa), (2, .int bb), (3, .int na), (4, .int nb)]) hx hb dX4_ack_172 hl (by decide) rfl (fun ls hl => ?_)
                refine lv_aload_n hx hb dX4_ack_174 rfl (lv_at hl 3 rfl) ?_
                refine va_get (D := (dC, dI)) (ci := 4) (v := .int ti) (C := RX4) (T := TX4) (N := 24) hx hb hts (k_X4_ack_in4) hown hK hP 0 rfl rfl 5 (by decide) (hts _ k_X4_ack_f130) (fun _ h9 => h9) rfl dX4_ack_175 ?_
                refine lv_bipush (v := 64) hx hb dX4_ack_178 (by decide) ?_
                refine lv_idiv hx hb dX4_ack_180 (by decide) ?_
                refine lv_topi (fun x_s ex_s => ?_)
                refine lv_istore (lv' := [(8, .int x_s), (7, .int x_k), (6, .int x_c), (5, .int r_3), (0, .ref mo), (1, .int aa), (2, .int bb), (3, .int na), (4, .int nb)]) hx hb dX4_ack_181 hl (by decide) rfl (fun ls hl => ?_)
                refine lv_iload hx hb dX4_ack_183 (lv_at hl 2 rfl) ?_
                refine lv_aload_n hx hb dX4_ack_185 rfl (lv_at hl 4 rfl) ?_
                refine lv_iload_n hx hb dX4_ack_186 rfl (lv_at hl 5 rfl) ?_
                refine lv_iload_n hx hb dX4_ack_187 rfl (lv_at hl 6 rfl) ?_
                refine lv_iload_n hx hb dX4_ack_188 rfl (lv_at hl 7 rfl) ?_
                refine lv_iconst (v := 1) hx hb dX4_ack_189 (by decide) ?_
                refine lv_isub hx hb dX4_ack_190 ?_
                refine lv_iload hx hb dX4_ack_191 (lv_at hl 1 rfl) ?_
                refine lv_iload hx hb dX4_ack_193 (lv_at hl 0 rfl) ?_
                refine ck_ci (wr := [(d1, .inl (cI, 32, .inl p1)), (d2, .inl (cI, 32, .inl p2)), (d3, .inl (cI, 32, .inl p3)), (d4, .inl (cI, 32, .inl p4)), (d5, .inl (cI, 32, .inl p5)), (d6, .inl (cI, 32, .inl p6)), (e1, .inl (cI, 64, .inl t1)), (e2, .inl (cI, 64, .inl t2)), (e3, .inl (cI, 64, .inl t3)), (e4, .inl (cZ, 64, .inl t4)), (e5, .inl (cI, 4, .inl cs))]) (va_runV (As := [.int aa, .int bb, .int (na - 1), .int x_k, .int x_s]) (rest := [.int x_c]) ⟨hx, hb, hml, hown, hts⟩ (c_X4_cookieOf l dC dI cI cJ cZ lo _ mo 0 zs rq k l0 ti ct n d1 d2 d3 d4 d5 d6 kc e1 e2 e3 e4 e5 v0 v1 v2 v3 aa bb (na - 1) x_k x_s) (cwV 5 hts gX4_ack_X4_cookieOf rfl rfl rfl (by decide +kernel) ⟨(Nat.le_of_ble_eq_true rfl), (Nat.le_of_ble_eq_true rfl)⟩) ⟨ck_blind, va_recv hK hP (ci := 4) (q0 := 0) rfl rfl, (ck_pre hG hP hD hS [0] rfl (by decide) _)⟩ rfl rfl hl.1 rfl (lv_room (Nat.le_of_ble_eq_true rfl)) dX4_ack_195 ⟨(Nat.le_of_ble_eq_true rfl), (Nat.le_of_ble_eq_true rfl)⟩) hP hD hS hA [0] [1, 2, 3, 4, 5, 6, 7, 8, 9, 10, 11] rfl rfl (by decide) (by decide) (fun r_5 u H locs hw_5 hP hD hS => ?_)
                obtain ⟨u0_5, u1_5, u2_5, u3_5⟩ := u
                have hw_5 : r_5 = ck_mck k l0 aa bb (na - 1) x_k x_s := hw_5
                have hP : va_P (dC, dI) vwCl [(d1, .inl (cI, 32, .inl p1)), (d2, .inl (cI, 32, .inl p2)), (d3, .inl (cI, 32, .inl p3)), (d4, .inl (cI, 32, .inl p4)), (d5, .inl (cI, 32, .inl p5)), (d6, .inl (cI, 32, .inl p6)), (e1, .inl (cI, 64, .inl t1)), (e2, .inl (cI, 64, .inl t2)), (e3, .inl (cI, 64, .inl t3)), (e4, .inl (cZ, 64, .inl t4)), (e5, .inl (cI, 4, .inl cs)), (mo, .inr (4, [.int 0, .int zs, .int rq, .long k, .long l0, .int ti, .int ct, .int (nI n), .ref d1, .ref d2, .ref d3, .ref d4, .ref d5, .ref d6, .int (nI kc), .ref e1, .ref e2, .ref e3, .ref e4, .ref e5, .long u0_5, .long u1_5, .long u2_5, .long u3_5]))] H := hP
                have hD : va_D A [(d1, .inl (cI, 32, .inl p1)), (d2, .inl (cI, 32, .inl p2)), (d3, .inl (cI, 32, .inl p3)), (d4, .inl (cI, 32, .inl p4)), (d5, .inl (cI, 32, .inl p5)), (d6, .inl (cI, 32, .inl p6)), (e1, .inl (cI, 64, .inl t1)), (e2, .inl (cI, 64, .inl t2)), (e3, .inl (cI, 64, .inl t3)), (e4, .inl (cZ, 64, .inl t4)), (e5, .inl (cI, 4, .inl cs)), (mo, .inr (4, [.int 0, .int zs, .int rq, .long k, .long l0, .int ti, .int ct, .int (nI n), .ref d1, .ref d2, .ref d3, .ref d4, .ref d5, .ref d6, .int (nI kc), .ref e1, .ref e2, .ref e3, .ref e4, .ref e5, .long u0_5, .long u1_5, .long u2_5, .long u3_5]))] := hD
                subst hw_5
                refine lv_icmp_ne (tgt := 205) hx hb dX4_ack_198 (by decide) (fun c_198 => ?_) (fun c_198 => ?_)
                · skip
                  refine lv_iconst (v := 0) hx hb dX4_ack_205 (by decide) ?_
                  refine lv_istore (lv' := [(9, .int 0), (8, .int x_s), (7, .int x_k), (6, .int x_c), (5, .int r_3), (0, .ref mo), (1, .int aa), (2, .int bb), (3, .int na), (4, .int nb)]) hx hb dX4_ack_206 hl (by decide) rfl (fun ls hl => ?_)
                  refine lv_iload hx hb dX4_ack_208 (lv_at hl 0 rfl) ?_
                  refine lv_if_ne (tgt := 238) hx hb dX4_ack_210 (by decide) (fun c_210 => ?_) (fun c_210 => ?_)
                  · skip
                    exact absurd c_210 (by decide)
                  · skip
                    refine lv_iload hx hb dX4_ack_213 (lv_at hl 1 rfl) ?_
                    refine lv_if_le (tgt := 242) hx hb dX4_ack_215 (by decide) (fun c_215 => ?_) (fun c_215 => ?_)
                    · skip
                      refine lv_iconst (v := 0) hx hb dX4_ack_242 (by decide) ?_
                      refine lv_istore (lv' := [(9, .int 0), (8, .int x_s), (7, .int x_k), (6, .int x_c), (5, .int r_3), (0, .ref mo), (1, .int aa), (2, .int bb), (3, .int na), (4, .int nb)]) hx hb dX4_ack_243 hl (by decide) rfl (fun ls hl => ?_)
                      refine lv_iload hx hb dX4_ack_245 (lv_at hl 0 rfl) ?_
                      refine lv_if_ne (tgt := 263) hx hb dX4_ack_247 (by decide) (fun c_247 => ?_) (fun c_247 => ?_)
                      · skip
                        exact absurd c_247 (by decide)
                      · skip
                        refine lv_aload_n hx hb dX4_ack_250 rfl (lv_at hl 5 rfl) ?_
                        refine va_get (D := (dC, dI)) (ci := 4) (v := .ref e5) (C := RX4) (T := TX4) (N := 24) hx hb hts (k_X4_ack_in4) hown hK hP 11 rfl rfl 19 (by decide) (hts _ k_X4_ack_f51) (fun _ h9 => h9) rfl dX4_ack_251 ?_
                        refine lv_iconst (v := nI 3) hx hb dX4_ack_254 (by decide) ?_
                        refine lv_dup2_11 hx hb dX4_ack_255 rfl rfl ?_
                        refine ck_iald hx hb hK hP 10 0 rfl rfl (by omega) (by decide) dX4_ack_256 ?_
                        refine lv_iconst (v := 1) hx hb dX4_ack_257 (by decide) ?_
                        refine lv_iadd hx hb dX4_ack_258 ?_
                        refine lv_topi (fun x_6 ex_6 => ?_)
                        refine ck_iast hx hb hK hP hD hS 10 0 rfl rfl (by omega) (by decide) dX4_ack_259 (fun H locs hP hD hS => ?_)
                        have hP : va_P (dC, dI) vwCl [(d1, .inl (cI, 32, .inl p1)), (d2, .inl (cI, 32, .inl p2)), (d3, .inl (cI, 32, .inl p3)), (d4, .inl (cI, 32, .inl p4)), (d5, .inl (cI, 32, .inl p5)), (d6, .inl (cI, 32, .inl p6)), (e1, .inl (cI, 64, .inl t1)), (e2, .inl (cI, 64, .inl t2)), (e3, .inl (cI, 64, .inl t3)), (e4, .inl (cZ, 64, .inl t4)), (e5, .inl (cI, 4, .inl (upd cs 3 x_6))), (mo, .inr (4, [.int 0, .int zs, .int rq, .long k, .long l0, .int ti, .int ct, .int (nI n), .ref d1, .ref d2, .ref d3, .ref d4, .ref d5, .ref d6, .int (nI kc), .ref e1, .ref e2, .ref e3, .ref e4, .ref e5, .long u0_5, .long u1_5, .long u2_5, .long u3_5]))] H := hP
                        have hD : va_D A [(d1, .inl (cI, 32, .inl p1)), (d2, .inl (cI, 32, .inl p2)), (d3, .inl (cI, 32, .inl p3)), (d4, .inl (cI, 32, .inl p4)), (d5, .inl (cI, 32, .inl p5)), (d6, .inl (cI, 32, .inl p6)), (e1, .inl (cI, 64, .inl t1)), (e2, .inl (cI, 64, .inl t2)), (e3, .inl (cI, 64, .inl t3)), (e4, .inl (cZ, 64, .inl t4)), (e5, .inl (cI, 4, .inl (upd cs 3 x_6))), (mo, .inr (4, [.int 0, .int zs, .int rq, .long k, .long l0, .int ti, .int ct, .int (nI n), .ref d1, .ref d2, .ref d3, .ref d4, .ref d5, .ref d6, .int (nI kc), .ref e1, .ref e2, .ref e3, .ref e4, .ref e5, .long u0_5, .long u1_5, .long u2_5, .long u3_5]))] := hD
                        refine lv_bipush (v := 7) hx hb dX4_ack_260 (by decide) ?_
                        refine ck_ir hx hb hr hlocks (Nat.le_of_ble_eq_true rfl) (Nat.le_of_ble_eq_true rfl) dX4_ack_262 (n, kc, p1, p2, p3, p4, p5, p6, t1, t2, t3, t4, upd cs 3 x_6, u0_5, u1_5, u2_5, u3_5) (hP.sub [11, 0, 1, 2, 3, 4, 5, 6, 7, 8, 9, 10] rfl) (hD.sub [11, 0, 1, 2, 3, 4, 5, 6, 7, 8, 9, 10] (by decide) rfl) hS ?_
                        subst ex_c ex_k ex_s
                        subst_vars
                        exact Or.inr (Or.inr ⟨hn_2, hn_3, rfl, rfl, rfl, rfl, rfl, rfl, rfl, Or.inr (Or.inl ⟨⟨c_127, c_142⟩, fun z => z.elim c_198 (fun z => absurd z.1 (Int32.not_lt.mpr c_215)), rfl, rfl, rfl, rfl, rfl, rfl, rfl⟩)⟩)
                    · skip
                      refine lv_iload hx hb dX4_ack_218 (lv_at hl 3 rfl) ?_
                      refine lv_aload_n hx hb dX4_ack_220 rfl (lv_at hl 5 rfl) ?_
                      refine lv_iload_n hx hb dX4_ack_221 rfl (lv_at hl 6 rfl) ?_
                      refine lv_iload_n hx hb dX4_ack_222 rfl (lv_at hl 7 rfl) ?_
                      refine lv_iload_n hx hb dX4_ack_223 rfl (lv_at hl 8 rfl) ?_
                      refine lv_iconst (v := 1) hx hb dX4_ack_224 (by decide) ?_
                      refine lv_isub hx hb dX4_ack_225 ?_
                      refine lv_iload hx hb dX4_ack_226 (lv_at hl 2 rfl) ?_
                      refine lv_iload hx hb dX4_ack_228 (lv_at hl 1 rfl) ?_
                      refine lv_iconst (v := 1) hx hb dX4_ack_230 (by decide) ?_
                      refine lv_isub hx hb dX4_ack_231 ?_
                      refine ck_ci (wr := [(d1, .inl (cI, 32, .inl p1)), (d2, .inl (cI, 32, .inl p2)), (d3, .inl (cI, 32, .inl p3)), (d4, .inl (cI, 32, .inl p4)), (d5, .inl (cI, 32, .inl p5)), (d6, .inl (cI, 32, .inl p6)), (e1, .inl (cI, 64, .inl t1)), (e2, .inl (cI, 64, .inl t2)), (e3, .inl (cI, 64, .inl t3)), (e4, .inl (cZ, 64, .inl t4)), (e5, .inl (cI, 4, .inl cs))]) (va_runV (As := [.int aa, .int bb, .int (na - 1), .int x_k, .int (x_s - 1)]) (rest := [.int x_c]) ⟨hx, hb, hml, hown, hts⟩ (c_X4_cookieOf l dC dI cI cJ cZ lo _ mo 0 zs rq k l0 ti ct n d1 d2 d3 d4 d5 d6 kc e1 e2 e3 e4 e5 u0_5 u1_5 u2_5 u3_5 aa bb (na - 1) x_k (x_s - 1)) (cwV 5 hts gX4_ack_X4_cookieOf rfl rfl rfl (by decide +kernel) ⟨(Nat.le_of_ble_eq_true rfl), (Nat.le_of_ble_eq_true rfl)⟩) ⟨ck_blind, va_recv hK hP (ci := 4) (q0 := 11) rfl rfl, (ck_pre hG hP hD hS [11] rfl (by decide) _)⟩ rfl rfl hl.1 rfl (lv_room (Nat.le_of_ble_eq_true rfl)) dX4_ack_232 ⟨(Nat.le_of_ble_eq_true rfl), (Nat.le_of_ble_eq_true rfl)⟩) hP hD hS hA [11] [0, 1, 2, 3, 4, 5, 6, 7, 8, 9, 10] rfl rfl (by decide) (by decide) (fun r_7 u H locs hw_7 hP hD hS => ?_)
                      obtain ⟨u0_7, u1_7, u2_7, u3_7⟩ := u
                      have hw_7 : r_7 = ck_mck k l0 aa bb (na - 1) x_k (x_s - 1) := hw_7
                      have hP : va_P (dC, dI) vwCl [(d1, .inl (cI, 32, .inl p1)), (d2, .inl (cI, 32, .inl p2)), (d3, .inl (cI, 32, .inl p3)), (d4, .inl (cI, 32, .inl p4)), (d5, .inl (cI, 32, .inl p5)), (d6, .inl (cI, 32, .inl p6)), (e1, .inl (cI, 64, .inl t1)), (e2, .inl (cI, 64, .inl t2)), (e3, .inl (cI, 64, .inl t3)), (e4, .inl (cZ, 64, .inl t4)), (e5, .inl (cI, 4, .inl cs)), (mo, .inr (4, [.int 0, .int zs, .int rq, .long k, .long l0, .int ti, .int ct, .int (nI n), .ref d1, .ref d2, .ref d3, .ref d4, .ref d5, .ref d6, .int (nI kc), .ref e1, .ref e2, .ref e3, .ref e4, .ref e5, .long u0_7, .long u1_7, .long u2_7, .long u3_7]))] H := hP
                      have hD : va_D A [(d1, .inl (cI, 32, .inl p1)), (d2, .inl (cI, 32, .inl p2)), (d3, .inl (cI, 32, .inl p3)), (d4, .inl (cI, 32, .inl p4)), (d5, .inl (cI, 32, .inl p5)), (d6, .inl (cI, 32, .inl p6)), (e1, .inl (cI, 64, .inl t1)), (e2, .inl (cI, 64, .inl t2)), (e3, .inl (cI, 64, .inl t3)), (e4, .inl (cZ, 64, .inl t4)), (e5, .inl (cI, 4, .inl cs)), (mo, .inr (4, [.int 0, .int zs, .int rq, .long k, .long l0, .int ti, .int ct, .int (nI n), .ref d1, .ref d2, .ref d3, .ref d4, .ref d5, .ref d6, .int (nI kc), .ref e1, .ref e2, .ref e3, .ref e4, .ref e5, .long u0_7, .long u1_7, .long u2_7, .long u3_7]))] := hD
                      subst hw_7
                      refine lv_icmp_ne (tgt := 242) hx hb dX4_ack_235 (by decide) (fun c_235 => ?_) (fun c_235 => ?_)
                      · skip
                        refine lv_iconst (v := 0) hx hb dX4_ack_242 (by decide) ?_
                        refine lv_istore (lv' := [(9, .int 0), (8, .int x_s), (7, .int x_k), (6, .int x_c), (5, .int r_3), (0, .ref mo), (1, .int aa), (2, .int bb), (3, .int na), (4, .int nb)]) hx hb dX4_ack_243 hl (by decide) rfl (fun ls hl => ?_)
                        refine lv_iload hx hb dX4_ack_245 (lv_at hl 0 rfl) ?_
                        refine lv_if_ne (tgt := 263) hx hb dX4_ack_247 (by decide) (fun c_247 => ?_) (fun c_247 => ?_)
                        · skip
                          exact absurd c_247 (by decide)
                        · skip
                          refine lv_aload_n hx hb dX4_ack_250 rfl (lv_at hl 5 rfl) ?_
                          refine va_get (D := (dC, dI)) (ci := 4) (v := .ref e5) (C := RX4) (T := TX4) (N := 24) hx hb hts (k_X4_ack_in4) hown hK hP 11 rfl rfl 19 (by decide) (hts _ k_X4_ack_f51) (fun _ h9 => h9) rfl dX4_ack_251 ?_
                          refine lv_iconst (v := nI 3) hx hb dX4_ack_254 (by decide) ?_
                          refine lv_dup2_11 hx hb dX4_ack_255 rfl rfl ?_
                          refine ck_iald hx hb hK hP 10 0 rfl rfl (by omega) (by decide) dX4_ack_256 ?_
                          refine lv_iconst (v := 1) hx hb dX4_ack_257 (by decide) ?_
                          refine lv_iadd hx hb dX4_ack_258 ?_
                          refine lv_topi (fun x_8 ex_8 => ?_)
                          refine ck_iast hx hb hK hP hD hS 10 0 rfl rfl (by omega) (by decide) dX4_ack_259 (fun H locs hP hD hS => ?_)
                          have hP : va_P (dC, dI) vwCl [(d1, .inl (cI, 32, .inl p1)), (d2, .inl (cI, 32, .inl p2)), (d3, .inl (cI, 32, .inl p3)), (d4, .inl (cI, 32, .inl p4)), (d5, .inl (cI, 32, .inl p5)), (d6, .inl (cI, 32, .inl p6)), (e1, .inl (cI, 64, .inl t1)), (e2, .inl (cI, 64, .inl t2)), (e3, .inl (cI, 64, .inl t3)), (e4, .inl (cZ, 64, .inl t4)), (e5, .inl (cI, 4, .inl (upd cs 3 x_8))), (mo, .inr (4, [.int 0, .int zs, .int rq, .long k, .long l0, .int ti, .int ct, .int (nI n), .ref d1, .ref d2, .ref d3, .ref d4, .ref d5, .ref d6, .int (nI kc), .ref e1, .ref e2, .ref e3, .ref e4, .ref e5, .long u0_7, .long u1_7, .long u2_7, .long u3_7]))] H := hP
                          have hD : va_D A [(d1, .inl (cI, 32, .inl p1)), (d2, .inl (cI, 32, .inl p2)), (d3, .inl (cI, 32, .inl p3)), (d4, .inl (cI, 32, .inl p4)), (d5, .inl (cI, 32, .inl p5)), (d6, .inl (cI, 32, .inl p6)), (e1, .inl (cI, 64, .inl t1)), (e2, .inl (cI, 64, .inl t2)), (e3, .inl (cI, 64, .inl t3)), (e4, .inl (cZ, 64, .inl t4)), (e5, .inl (cI, 4, .inl (upd cs 3 x_8))), (mo, .inr (4, [.int 0, .int zs, .int rq, .long k, .long l0, .int ti, .int ct, .int (nI n), .ref d1, .ref d2, .ref d3, .ref d4, .ref d5, .ref d6, .int (nI kc), .ref e1, .ref e2, .ref e3, .ref e4, .ref e5, .long u0_7, .long u1_7, .long u2_7, .long u3_7]))] := hD
                          refine lv_bipush (v := 7) hx hb dX4_ack_260 (by decide) ?_
                          refine ck_ir hx hb hr hlocks (Nat.le_of_ble_eq_true rfl) (Nat.le_of_ble_eq_true rfl) dX4_ack_262 (n, kc, p1, p2, p3, p4, p5, p6, t1, t2, t3, t4, upd cs 3 x_8, u0_7, u1_7, u2_7, u3_7) (hP.sub [11, 0, 1, 2, 3, 4, 5, 6, 7, 8, 9, 10] rfl) (hD.sub [11, 0, 1, 2, 3, 4, 5, 6, 7, 8, 9, 10] (by decide) rfl) hS ?_
                          subst ex_c ex_k ex_s
                          subst_vars
                          exact Or.inr (Or.inr ⟨hn_2, hn_3, rfl, rfl, rfl, rfl, rfl, rfl, rfl, Or.inr (Or.inl ⟨⟨c_127, c_142⟩, fun z => z.elim c_198 (fun z => c_235 z.2), rfl, rfl, rfl, rfl, rfl, rfl, rfl⟩)⟩)
                      · skip
                        refine lv_iconst (v := 1) hx hb dX4_ack_238 (by decide) ?_
                        refine lv_goto (tgt := 243) hx hb dX4_ack_239 (by decide) ?_
                        refine lv_istore (lv' := [(9, .int 1), (8, .int x_s), (7, .int x_k), (6, .int x_c), (5, .int r_3), (0, .ref mo), (1, .int aa), (2, .int bb), (3, .int na), (4, .int nb)]) hx hb dX4_ack_243 hl (by decide) rfl (fun ls hl => ?_)
                        refine lv_iload hx hb dX4_ack_245 (lv_at hl 0 rfl) ?_
                        refine lv_if_ne (tgt := 263) hx hb dX4_ack_247 (by decide) (fun c_247 => ?_) (fun c_247 => ?_)
                        · skip
                          refine lv_aload_n hx hb dX4_ack_263 rfl (lv_at hl 5 rfl) ?_
                          refine ck_ri (va_runV (As := []) (rest := []) ⟨hx, hb, hml, hown, hts⟩ (c_X4_hasRoom l dC dI cI cJ cZ lo _ mo 0 zs rq k l0 ti ct n d1 d2 d3 d4 d5 d6 kc e1 e2 e3 e4 e5 u0_7 u1_7 u2_7 u3_7 t4 (by first | assumption | omega)) (cwV 0 hts gX4_ack_X4_hasRoom rfl rfl rfl (by decide +kernel) ⟨(Nat.le_of_ble_eq_true rfl), (Nat.le_of_ble_eq_true rfl)⟩) ⟨ck_blind, va_recv hK hP (ci := 4) (q0 := 11) rfl rfl, (ck_pre hG hP hD hS [11, 9] rfl (by decide) _)⟩ rfl rfl hl.1 rfl (lv_room (Nat.le_of_ble_eq_true rfl)) dX4_ack_264 ⟨(Nat.le_of_ble_eq_true rfl), (Nat.le_of_ble_eq_true rfl)⟩) (fun r_9 hw_9 => ?_)
                          have hw_9 : (r_9 = 1 ∧ nI (ck_cnt kc t4) < rq ∧ kc < 64) ∨ (r_9 = 0 ∧ ¬ (nI (ck_cnt kc t4) < rq ∧ kc < 64)) := hw_9
                          refine lv_if_ne (tgt := 273) hx hb dX4_ack_267 (by decide) (fun c_267 => ?_) (fun c_267 => ?_)
                          · skip
                            have b_267 := (hw_9.resolve_right (fun z => c_267 z.1)).2
                            refine lv_aload_n hx hb dX4_ack_273 rfl (lv_at hl 5 rfl) ?_
                            refine lv_iload_n hx hb dX4_ack_274 rfl (lv_at hl 6 rfl) ?_
                            refine lv_iload_n hx hb dX4_ack_275 rfl (lv_at hl 7 rfl) ?_
                            refine lv_iload hx hb dX4_ack_276 (lv_at hl 2 rfl) ?_
                            refine ck_cv (wr := [(d1, .inl (cI, 32, .inl p1)), (d2, .inl (cI, 32, .inl p2)), (d3, .inl (cI, 32, .inl p3)), (d4, .inl (cI, 32, .inl p4)), (d5, .inl (cI, 32, .inl p5)), (d6, .inl (cI, 32, .inl p6)), (e5, .inl (cI, 4, .inl cs))]) (va_runV (As := [.int aa, .int bb, .int x_k]) (rest := []) ⟨hx, hb, hml, hown, hts⟩ (c_X4_come l dC dI cI cJ cZ lo _ mo 0 zs rq k l0 ti ct n d1 d2 d3 d4 d5 d6 kc e1 e2 e3 e4 e5 u0_7 u1_7 u2_7 u3_7 t1 t2 t3 t4 aa bb x_k (b_267.2)) (cwV 3 hts gX4_ack_X4_come rfl rfl rfl (by decide +kernel) ⟨(Nat.le_of_ble_eq_true rfl), (Nat.le_of_ble_eq_true rfl)⟩) ⟨ck_blind, va_recv hK hP (ci := 4) (q0 := 11) rfl rfl, (ck_pre hG hP hD hS [11, 6, 7, 8, 9] rfl (by decide) _)⟩ rfl rfl hl.1 rfl (lv_room (Nat.le_of_ble_eq_true rfl)) dX4_ack_278 ⟨(Nat.le_of_ble_eq_true rfl), (Nat.le_of_ble_eq_true rfl)⟩) hP hD hS hA [11, 6, 7, 8, 9] [0, 1, 2, 3, 4, 5, 10] rfl rfl (by decide) (by decide) (fun u H locs hw_10 hP hD hS => ?_)
                            have hP : va_P (dC, dI) vwCl [(d1, .inl (cI, 32, .inl p1)), (d2, .inl (cI, 32, .inl p2)), (d3, .inl (cI, 32, .inl p3)), (d4, .inl (cI, 32, .inl p4)), (d5, .inl (cI, 32, .inl p5)), (d6, .inl (cI, 32, .inl p6)), (e5, .inl (cI, 4, .inl cs)), (mo, .inr (4, [.int 0, .int zs, .int rq, .long k, .long l0, .int ti, .int ct, .int (nI n), .ref d1, .ref d2, .ref d3, .ref d4, .ref d5, .ref d6, .int (nI (kc + 1)), .ref e1, .ref e2, .ref e3, .ref e4, .ref e5, .long u0_7, .long u1_7, .long u2_7, .long u3_7])), (e1, .inl (cI, 64, .inl (upd t1 kc aa))), (e2, .inl (cI, 64, .inl (upd t2 kc bb))), (e3, .inl (cI, 64, .inl (upd t3 kc x_k))), (e4, .inl (cZ, 64, .inl (upd t4 kc 0)))] H := hP
                            have hD : va_D A [(d1, .inl (cI, 32, .inl p1)), (d2, .inl (cI, 32, .inl p2)), (d3, .inl (cI, 32, .inl p3)), (d4, .inl (cI, 32, .inl p4)), (d5, .inl (cI, 32, .inl p5)), (d6, .inl (cI, 32, .inl p6)), (e5, .inl (cI, 4, .inl cs)), (mo, .inr (4, [.int 0, .int zs, .int rq, .long k, .long l0, .int ti, .int ct, .int (nI n), .ref d1, .ref d2, .ref d3, .ref d4, .ref d5, .ref d6, .int (nI (kc + 1)), .ref e1, .ref e2, .ref e3, .ref e4, .ref e5, .long u0_7, .long u1_7, .long u2_7, .long u3_7])), (e1, .inl (cI, 64, .inl (upd t1 kc aa))), (e2, .inl (cI, 64, .inl (upd t2 kc bb))), (e3, .inl (cI, 64, .inl (upd t3 kc x_k))), (e4, .inl (cZ, 64, .inl (upd t4 kc 0)))] := hD
                            refine lv_aload_n hx hb dX4_ack_281 rfl (lv_at hl 5 rfl) ?_
                            refine va_get (D := (dC, dI)) (ci := 4) (v := .ref e5) (C := RX4) (T := TX4) (N := 24) hx hb hts (k_X4_ack_in4) hown hK hP 7 rfl rfl 19 (by decide) (hts _ k_X4_ack_f51) (fun _ h9 => h9) rfl dX4_ack_282 ?_
                            refine lv_iconst (v := nI 2) hx hb dX4_ack_285 (by decide) ?_
                            refine lv_dup2_11 hx hb dX4_ack_286 rfl rfl ?_
                            refine ck_iald hx hb hK hP 6 0 rfl rfl (by omega) (by decide) dX4_ack_287 ?_
                            refine lv_iconst (v := 1) hx hb dX4_ack_288 (by decide) ?_
                            refine lv_iadd hx hb dX4_ack_289 ?_
                            refine lv_topi (fun x_11 ex_11 => ?_)
                            refine ck_iast hx hb hK hP hD hS 6 0 rfl rfl (by omega) (by decide) dX4_ack_290 (fun H locs hP hD hS => ?_)
                            have hP : va_P (dC, dI) vwCl [(d1, .inl (cI, 32, .inl p1)), (d2, .inl (cI, 32, .inl p2)), (d3, .inl (cI, 32, .inl p3)), (d4, .inl (cI, 32, .inl p4)), (d5, .inl (cI, 32, .inl p5)), (d6, .inl (cI, 32, .inl p6)), (e5, .inl (cI, 4, .inl (upd cs 2 x_11))), (mo, .inr (4, [.int 0, .int zs, .int rq, .long k, .long l0, .int ti, .int ct, .int (nI n), .ref d1, .ref d2, .ref d3, .ref d4, .ref d5, .ref d6, .int (nI (kc + 1)), .ref e1, .ref e2, .ref e3, .ref e4, .ref e5, .long u0_7, .long u1_7, .long u2_7, .long u3_7])), (e1, .inl (cI, 64, .inl (upd t1 kc aa))), (e2, .inl (cI, 64, .inl (upd t2 kc bb))), (e3, .inl (cI, 64, .inl (upd t3 kc x_k))), (e4, .inl (cZ, 64, .inl (upd t4 kc 0)))] H := hP
                            have hD : va_D A [(d1, .inl (cI, 32, .inl p1)), (d2, .inl (cI, 32, .inl p2)), (d3, .inl (cI, 32, .inl p3)), (d4, .inl (cI, 32, .inl p4)), (d5, .inl (cI, 32, .inl p5)), (d6, .inl (cI, 32, .inl p6)), (e5, .inl (cI, 4, .inl (upd cs 2 x_11))), (mo, .inr (4, [.int 0, .int zs, .int rq, .long k, .long l0, .int ti, .int ct, .int (nI n), .ref d1, .ref d2, .ref d3, .ref d4, .ref d5, .ref d6, .int (nI (kc + 1)), .ref e1, .ref e2, .ref e3, .ref e4, .ref e5, .long u0_7, .long u1_7, .long u2_7, .long u3_7])), (e1, .inl (cI, 64, .inl (upd t1 kc aa))), (e2, .inl (cI, 64, .inl (upd t2 kc bb))), (e3, .inl (cI, 64, .inl (upd t3 kc x_k))), (e4, .inl (cZ, 64, .inl (upd t4 kc 0)))] := hD
                            refine lv_iconst (v := 5) hx hb dX4_ack_291 (by decide) ?_
                            refine ck_ir hx hb hr hlocks (Nat.le_of_ble_eq_true rfl) (Nat.le_of_ble_eq_true rfl) dX4_ack_292 (n, kc + 1, p1, p2, p3, p4, p5, p6, upd t1 kc aa, upd t2 kc bb, upd t3 kc x_k, upd t4 kc 0, upd cs 2 x_11, u0_7, u1_7, u2_7, u3_7) (hP.sub [7, 0, 1, 2, 3, 4, 5, 8, 9, 10, 11, 6] rfl) (hD.sub [7, 0, 1, 2, 3, 4, 5, 8, 9, 10, 11, 6] (by decide) rfl) hS ?_
                            subst ex_c ex_k ex_s
                            subst_vars
                            exact Or.inr (Or.inr ⟨hn_2, hn_3, rfl, rfl, rfl, rfl, rfl, rfl, rfl, Or.inr (Or.inr (Or.inr ⟨⟨c_127, c_142⟩, Or.inr ⟨Int32.not_le.mp c_215, c_235⟩, b_267, rfl, rfl, rfl, rfl, rfl, rfl, rfl⟩))⟩)
                          · skip
                            have b_267 := (hw_9.resolve_left (fun z => absurd (z.1.symm.trans c_267) (by decide))).2
                            refine lv_bipush (v := 6) hx hb dX4_ack_270 (by decide) ?_
                            refine ck_ir hx hb hr hlocks (Nat.le_of_ble_eq_true rfl) (Nat.le_of_ble_eq_true rfl) dX4_ack_272 (n, kc, p1, p2, p3, p4, p5, p6, t1, t2, t3, t4, cs, u0_7, u1_7, u2_7, u3_7) (hP.sub [11, 0, 1, 2, 3, 4, 5, 6, 7, 8, 9, 10] rfl) (hD.sub [11, 0, 1, 2, 3, 4, 5, 6, 7, 8, 9, 10] (by decide) rfl) hS ?_
                            subst ex_c ex_k ex_s
                            exact Or.inr (Or.inr ⟨hn_2, hn_3, rfl, rfl, rfl, rfl, rfl, rfl, rfl, Or.inr (Or.inr (Or.inl ⟨⟨c_127, c_142⟩, Or.inr ⟨Int32.not_le.mp c_215, c_235⟩, b_267, rfl, rfl, rfl, rfl, rfl, rfl, rfl⟩))⟩)
                        · skip
                          exact absurd c_247 (by decide)
                · skip
                  refine lv_iconst (v := 1) hx hb dX4_ack_201 (by decide) ?_
                  refine lv_goto (tgt := 206) hx hb dX4_ack_202 (by decide) ?_
                  refine lv_istore (lv' := [(9, .int 1), (8, .int x_s), (7, .int x_k), (6, .int x_c), (5, .int r_3), (0, .ref mo), (1, .int aa), (2, .int bb), (3, .int na), (4, .int nb)]) hx hb dX4_ack_206 hl (by decide) rfl (fun ls hl => ?_)
                  refine lv_iload hx hb dX4_ack_208 (lv_at hl 0 rfl) ?_
                  refine lv_if_ne (tgt := 238) hx hb dX4_ack_210 (by decide) (fun c_210 => ?_) (fun c_210 => ?_)
                  · skip
                    refine lv_iconst (v := 1) hx hb dX4_ack_238 (by decide) ?_
                    refine lv_goto (tgt := 243) hx hb dX4_ack_239 (by decide) ?_
                    refine lv_istore (lv' := [(9, .int 1), (8, .int x_s), (7, .int x_k), (6, .int x_c), (5, .int r_3), (0, .ref mo), (1, .int aa), (2, .int bb), (3, .int na), (4, .int nb)]) hx hb dX4_ack_243 hl (by decide) rfl (fun ls hl => ?_)
                    refine lv_iload hx hb dX4_ack_245 (lv_at hl 0 rfl) ?_
                    refine lv_if_ne (tgt := 263) hx hb dX4_ack_247 (by decide) (fun c_247 => ?_) (fun c_247 => ?_)
                    · skip
                      refine lv_aload_n hx hb dX4_ack_263 rfl (lv_at hl 5 rfl) ?_
                      refine ck_ri (va_runV (As := []) (rest := []) ⟨hx, hb, hml, hown, hts⟩ (c_X4_hasRoom l dC dI cI cJ cZ lo _ mo 0 zs rq k l0 ti ct n d1 d2 d3 d4 d5 d6 kc e1 e2 e3 e4 e5 u0_5 u1_5 u2_5 u3_5 t4 (by first | assumption | omega)) (cwV 0 hts gX4_ack_X4_hasRoom rfl rfl rfl (by decide +kernel) ⟨(Nat.le_of_ble_eq_true rfl), (Nat.le_of_ble_eq_true rfl)⟩) ⟨ck_blind, va_recv hK hP (ci := 4) (q0 := 11) rfl rfl, (ck_pre hG hP hD hS [11, 9] rfl (by decide) _)⟩ rfl rfl hl.1 rfl (lv_room (Nat.le_of_ble_eq_true rfl)) dX4_ack_264 ⟨(Nat.le_of_ble_eq_true rfl), (Nat.le_of_ble_eq_true rfl)⟩) (fun r_12 hw_12 => ?_)
                      have hw_12 : (r_12 = 1 ∧ nI (ck_cnt kc t4) < rq ∧ kc < 64) ∨ (r_12 = 0 ∧ ¬ (nI (ck_cnt kc t4) < rq ∧ kc < 64)) := hw_12
                      refine lv_if_ne (tgt := 273) hx hb dX4_ack_267 (by decide) (fun c_267 => ?_) (fun c_267 => ?_)
                      · skip
                        have b_267 := (hw_12.resolve_right (fun z => c_267 z.1)).2
                        refine lv_aload_n hx hb dX4_ack_273 rfl (lv_at hl 5 rfl) ?_
                        refine lv_iload_n hx hb dX4_ack_274 rfl (lv_at hl 6 rfl) ?_
                        refine lv_iload_n hx hb dX4_ack_275 rfl (lv_at hl 7 rfl) ?_
                        refine lv_iload hx hb dX4_ack_276 (lv_at hl 2 rfl) ?_
                        refine ck_cv (wr := [(d1, .inl (cI, 32, .inl p1)), (d2, .inl (cI, 32, .inl p2)), (d3, .inl (cI, 32, .inl p3)), (d4, .inl (cI, 32, .inl p4)), (d5, .inl (cI, 32, .inl p5)), (d6, .inl (cI, 32, .inl p6)), (e5, .inl (cI, 4, .inl cs))]) (va_runV (As := [.int aa, .int bb, .int x_k]) (rest := []) ⟨hx, hb, hml, hown, hts⟩ (c_X4_come l dC dI cI cJ cZ lo _ mo 0 zs rq k l0 ti ct n d1 d2 d3 d4 d5 d6 kc e1 e2 e3 e4 e5 u0_5 u1_5 u2_5 u3_5 t1 t2 t3 t4 aa bb x_k (b_267.2)) (cwV 3 hts gX4_ack_X4_come rfl rfl rfl (by decide +kernel) ⟨(Nat.le_of_ble_eq_true rfl), (Nat.le_of_ble_eq_true rfl)⟩) ⟨ck_blind, va_recv hK hP (ci := 4) (q0 := 11) rfl rfl, (ck_pre hG hP hD hS [11, 6, 7, 8, 9] rfl (by decide) _)⟩ rfl rfl hl.1 rfl (lv_room (Nat.le_of_ble_eq_true rfl)) dX4_ack_278 ⟨(Nat.le_of_ble_eq_true rfl), (Nat.le_of_ble_eq_true rfl)⟩) hP hD hS hA [11, 6, 7, 8, 9] [0, 1, 2, 3, 4, 5, 10] rfl rfl (by decide) (by decide) (fun u H locs hw_13 hP hD hS => ?_)
                        have hP : va_P (dC, dI) vwCl [(d1, .inl (cI, 32, .inl p1)), (d2, .inl (cI, 32, .inl p2)), (d3, .inl (cI, 32, .inl p3)), (d4, .inl (cI, 32, .inl p4)), (d5, .inl (cI, 32, .inl p5)), (d6, .inl (cI, 32, .inl p6)), (e5, .inl (cI, 4, .inl cs)), (mo, .inr (4, [.int 0, .int zs, .int rq, .long k, .long l0, .int ti, .int ct, .int (nI n), .ref d1, .ref d2, .ref d3, .ref d4, .ref d5, .ref d6, .int (nI (kc + 1)), .ref e1, .ref e2, .ref e3, .ref e4, .ref e5, .long u0_5, .long u1_5, .long u2_5, .long u3_5])), (e1, .inl (cI, 64, .inl (upd t1 kc aa))), (e2, .inl (cI, 64, .inl (upd t2 kc bb))), (e3, .inl (cI, 64, .inl (upd t3 kc x_k))), (e4, .inl (cZ, 64, .inl (upd t4 kc 0)))] H := hP
                        have hD : va_D A [(d1, .inl (cI, 32, .inl p1)), (d2, .inl (cI, 32, .inl p2)), (d3, .inl (cI, 32, .inl p3)), (d4, .inl (cI, 32, .inl p4)), (d5, .inl (cI, 32, .inl p5)), (d6, .inl (cI, 32, .inl p6)), (e5, .inl (cI, 4, .inl cs)), (mo, .inr (4, [.int 0, .int zs, .int rq, .long k, .long l0, .int ti, .int ct, .int (nI n), .ref d1, .ref d2, .ref d3, .ref d4, .ref d5, .ref d6, .int (nI (kc + 1)), .ref e1, .ref e2, .ref e3, .ref e4, .ref e5, .long u0_5, .long u1_5, .long u2_5, .long u3_5])), (e1, .inl (cI, 64, .inl (upd t1 kc aa))), (e2, .inl (cI, 64, .inl (upd t2 kc bb))), (e3, .inl (cI, 64, .inl (upd t3 kc x_k))), (e4, .inl (cZ, 64, .inl (upd t4 kc 0)))] := hD
                        refine lv_aload_n hx hb dX4_ack_281 rfl (lv_at hl 5 rfl) ?_
                        refine va_get (D := (dC, dI)) (ci := 4) (v := .ref e5) (C := RX4) (T := TX4) (N := 24) hx hb hts (k_X4_ack_in4) hown hK hP 7 rfl rfl 19 (by decide) (hts _ k_X4_ack_f51) (fun _ h9 => h9) rfl dX4_ack_282 ?_
                        refine lv_iconst (v := nI 2) hx hb dX4_ack_285 (by decide) ?_
                        refine lv_dup2_11 hx hb dX4_ack_286 rfl rfl ?_
                        refine ck_iald hx hb hK hP 6 0 rfl rfl (by omega) (by decide) dX4_ack_287 ?_
                        refine lv_iconst (v := 1) hx hb dX4_ack_288 (by decide) ?_
                        refine lv_iadd hx hb dX4_ack_289 ?_
                        refine lv_topi (fun x_14 ex_14 => ?_)
                        refine ck_iast hx hb hK hP hD hS 6 0 rfl rfl (by omega) (by decide) dX4_ack_290 (fun H locs hP hD hS => ?_)
                        have hP : va_P (dC, dI) vwCl [(d1, .inl (cI, 32, .inl p1)), (d2, .inl (cI, 32, .inl p2)), (d3, .inl (cI, 32, .inl p3)), (d4, .inl (cI, 32, .inl p4)), (d5, .inl (cI, 32, .inl p5)), (d6, .inl (cI, 32, .inl p6)), (e5, .inl (cI, 4, .inl (upd cs 2 x_14))), (mo, .inr (4, [.int 0, .int zs, .int rq, .long k, .long l0, .int ti, .int ct, .int (nI n), .ref d1, .ref d2, .ref d3, .ref d4, .ref d5, .ref d6, .int (nI (kc + 1)), .ref e1, .ref e2, .ref e3, .ref e4, .ref e5, .long u0_5, .long u1_5, .long u2_5, .long u3_5])), (e1, .inl (cI, 64, .inl (upd t1 kc aa))), (e2, .inl (cI, 64, .inl (upd t2 kc bb))), (e3, .inl (cI, 64, .inl (upd t3 kc x_k))), (e4, .inl (cZ, 64, .inl (upd t4 kc 0)))] H := hP
                        have hD : va_D A [(d1, .inl (cI, 32, .inl p1)), (d2, .inl (cI, 32, .inl p2)), (d3, .inl (cI, 32, .inl p3)), (d4, .inl (cI, 32, .inl p4)), (d5, .inl (cI, 32, .inl p5)), (d6, .inl (cI, 32, .inl p6)), (e5, .inl (cI, 4, .inl (upd cs 2 x_14))), (mo, .inr (4, [.int 0, .int zs, .int rq, .long k, .long l0, .int ti, .int ct, .int (nI n), .ref d1, .ref d2, .ref d3, .ref d4, .ref d5, .ref d6, .int (nI (kc + 1)), .ref e1, .ref e2, .ref e3, .ref e4, .ref e5, .long u0_5, .long u1_5, .long u2_5, .long u3_5])), (e1, .inl (cI, 64, .inl (upd t1 kc aa))), (e2, .inl (cI, 64, .inl (upd t2 kc bb))), (e3, .inl (cI, 64, .inl (upd t3 kc x_k))), (e4, .inl (cZ, 64, .inl (upd t4 kc 0)))] := hD
                        refine lv_iconst (v := 5) hx hb dX4_ack_291 (by decide) ?_
                        refine ck_ir hx hb hr hlocks (Nat.le_of_ble_eq_true rfl) (Nat.le_of_ble_eq_true rfl) dX4_ack_292 (n, kc + 1, p1, p2, p3, p4, p5, p6, upd t1 kc aa, upd t2 kc bb, upd t3 kc x_k, upd t4 kc 0, upd cs 2 x_14, u0_5, u1_5, u2_5, u3_5) (hP.sub [7, 0, 1, 2, 3, 4, 5, 8, 9, 10, 11, 6] rfl) (hD.sub [7, 0, 1, 2, 3, 4, 5, 8, 9, 10, 11, 6] (by decide) rfl) hS ?_
                        subst ex_c ex_k ex_s
                        subst_vars
                        exact Or.inr (Or.inr ⟨hn_2, hn_3, rfl, rfl, rfl, rfl, rfl, rfl, rfl, Or.inr (Or.inr (Or.inr ⟨⟨c_127, c_142⟩, Or.inl c_198, b_267, rfl, rfl, rfl, rfl, rfl, rfl, rfl⟩))⟩)
                      · skip
                        have b_267 := (hw_12.resolve_left (fun z => absurd (z.1.symm.trans c_267) (by decide))).2
                        refine lv_bipush (v := 6) hx hb dX4_ack_270 (by decide) ?_
                        refine ck_ir hx hb hr hlocks (Nat.le_of_ble_eq_true rfl) (Nat.le_of_ble_eq_true rfl) dX4_ack_272 (n, kc, p1, p2, p3, p4, p5, p6, t1, t2, t3, t4, cs, u0_5, u1_5, u2_5, u3_5) (hP.sub [11, 0, 1, 2, 3, 4, 5, 6, 7, 8, 9, 10] rfl) (hD.sub [11, 0, 1, 2, 3, 4, 5, 6, 7, 8, 9, 10] (by decide) rfl) hS ?_
                        subst ex_c ex_k ex_s
                        exact Or.inr (Or.inr ⟨hn_2, hn_3, rfl, rfl, rfl, rfl, rfl, rfl, rfl, Or.inr (Or.inr (Or.inl ⟨⟨c_127, c_142⟩, Or.inl c_198, b_267, rfl, rfl, rfl, rfl, rfl, rfl, rfl⟩))⟩)
                    · skip
                      exact absurd c_247 (by decide)
                  · skip
                    exact absurd c_210 (by decide)
              · skip
                refine lv_aload_n hx hb dX4_ack_145 rfl (lv_at hl 1 rfl) ?_
                refine va_get (D := (dC, dI)) (ci := 4) (v := .ref e5) (C := RX4) (T := TX4) (N := 24) hx hb hts (k_X4_ack_in4) hown hK hP 0 rfl rfl 19 (by decide) (hts _ k_X4_ack_f51) (fun _ h9 => h9) rfl dX4_ack_146 ?_
                refine lv_iconst (v := nI 3) hx hb dX4_ack_149 (by decide) ?_
                refine lv_dup2_11 hx hb dX4_ack_150 rfl rfl ?_
                refine ck_iald hx hb hK hP 11 0 rfl rfl (by omega) (by decide) dX4_ack_151 ?_
                refine lv_iconst (v := 1) hx hb dX4_ack_152 (by decide) ?_
                refine lv_iadd hx hb dX4_ack_153 ?_
                refine lv_topi (fun x_15 ex_15 => ?_)
                refine ck_iast hx hb hK hP hD hS 11 0 rfl rfl (by omega) (by decide) dX4_ack_154 (fun H locs hP hD hS => ?_)
                have hP : va_P (dC, dI) vwCl [(mo, .inr (4, [.int 0, .int zs, .int rq, .long k, .long l0, .int ti, .int ct, .int (nI n), .ref d1, .ref d2, .ref d3, .ref d4, .ref d5, .ref d6, .int (nI kc), .ref e1, .ref e2, .ref e3, .ref e4, .ref e5, .long v0, .long v1, .long v2, .long v3])), (d1, .inl (cI, 32, .inl p1)), (d2, .inl (cI, 32, .inl p2)), (d3, .inl (cI, 32, .inl p3)), (d4, .inl (cI, 32, .inl p4)), (d5, .inl (cI, 32, .inl p5)), (d6, .inl (cI, 32, .inl p6)), (e1, .inl (cI, 64, .inl t1)), (e2, .inl (cI, 64, .inl t2)), (e3, .inl (cI, 64, .inl t3)), (e4, .inl (cZ, 64, .inl t4)), (e5, .inl (cI, 4, .inl (upd cs 3 x_15)))] H := hP
                have hD : va_D A [(mo, .inr (4, [.int 0, .int zs, .int rq, .long k, .long l0, .int ti, .int ct, .int (nI n), .ref d1, .ref d2, .ref d3, .ref d4, .ref d5, .ref d6, .int (nI kc), .ref e1, .ref e2, .ref e3, .ref e4, .ref e5, .long v0, .long v1, .long v2, .long v3])), (d1, .inl (cI, 32, .inl p1)), (d2, .inl (cI, 32, .inl p2)), (d3, .inl (cI, 32, .inl p3)), (d4, .inl (cI, 32, .inl p4)), (d5, .inl (cI, 32, .inl p5)), (d6, .inl (cI, 32, .inl p6)), (e1, .inl (cI, 64, .inl t1)), (e2, .inl (cI, 64, .inl t2)), (e3, .inl (cI, 64, .inl t3)), (e4, .inl (cZ, 64, .inl t4)), (e5, .inl (cI, 4, .inl (upd cs 3 x_15)))] := hD
                refine lv_bipush (v := 8) hx hb dX4_ack_155 (by decide) ?_
                refine ck_ir hx hb hr hlocks (Nat.le_of_ble_eq_true rfl) (Nat.le_of_ble_eq_true rfl) dX4_ack_157 (n, kc, p1, p2, p3, p4, p5, p6, t1, t2, t3, t4, upd cs 3 x_15, v0, v1, v2, v3) hP hD hS ?_
                subst_vars
                exact Or.inr (Or.inr ⟨hn_2, hn_3, rfl, rfl, rfl, rfl, rfl, rfl, rfl, Or.inl ⟨fun z => c_142 z.2, rfl, rfl, rfl, rfl, rfl, rfl, rfl⟩⟩)
          · skip
            exact absurd c_46 c_118
        · skip
          obtain ⟨j_3, hj_3, ej_3, hf_3, hg_3⟩ := hw_3.resolve_left (fun z => c_46 (by rw [z.1]; decide))
          subst ej_3
          refine lv_aload_n hx hb dX4_ack_49 rfl (lv_at hl 1 rfl) ?_
          refine va_get (D := (dC, dI)) (ci := 4) (v := .ref d3) (C := RX4) (T := TX4) (N := 24) hx hb hts (k_X4_ack_in4) hown hK hP 0 rfl rfl 10 (by decide) (hts _ k_X4_ack_f26) (fun _ h9 => h9) rfl dX4_ack_50 ?_
          refine lv_iload hx hb dX4_ack_53 (lv_at hl 0 rfl) ?_
          refine ck_iald hx hb hK hP 3 0 rfl rfl (by omega) (by decide) dX4_ack_55 ?_
          refine lv_iload_n hx hb dX4_ack_56 rfl (lv_at hl 4 rfl) ?_
          refine lv_iconst (v := 1) hx hb dX4_ack_57 (by decide) ?_
          refine lv_isub hx hb dX4_ack_58 ?_
          refine lv_icmp_ne (tgt := 116) hx hb dX4_ack_59 (by decide) (fun c_59 => ?_) (fun c_59 => ?_)
          · skip
            refine lv_iload hx hb dX4_ack_116 (lv_at hl 0 rfl) ?_
            refine lv_if_lt (tgt := 123) hx hb dX4_ack_118 (by decide) (fun c_118 => ?_) (fun c_118 => ?_)
            · skip
              exact absurd c_118 (nI_pos (by omega))
            · skip
              refine lv_iconst (v := 4) hx hb dX4_ack_121 (by decide) ?_
              refine ck_ir hx hb hr hlocks (Nat.le_of_ble_eq_true rfl) (Nat.le_of_ble_eq_true rfl) dX4_ack_122 (n, kc, p1, p2, p3, p4, p5, p6, t1, t2, t3, t4, cs, v0, v1, v2, v3) hP hD hS ?_
              exact Or.inr (Or.inl ⟨hn_2, _, hj_3, hf_3, hg_3, Or.inl ⟨fun z => c_59 z.1, rfl, rfl, rfl, rfl, rfl, rfl, rfl, rfl, rfl, rfl, rfl, rfl, rfl, rfl⟩⟩)
          · skip
            refine lv_aload_n hx hb dX4_ack_62 rfl (lv_at hl 1 rfl) ?_
            refine va_get (D := (dC, dI)) (ci := 4) (v := .ref d4) (C := RX4) (T := TX4) (N := 24) hx hb hts (k_X4_ack_in4) hown hK hP 0 rfl rfl 11 (by decide) (hts _ k_X4_ack_f29) (fun _ h9 => h9) rfl dX4_ack_63 ?_
            refine lv_iload hx hb dX4_ack_66 (lv_at hl 0 rfl) ?_
            refine ck_iald hx hb hK hP 4 0 rfl rfl (by omega) (by decide) dX4_ack_68 ?_
            refine lv_iload hx hb dX4_ack_69 (lv_at hl 5 rfl) ?_
            refine lv_iconst (v := 1) hx hb dX4_ack_71 (by decide) ?_
            refine lv_isub hx hb dX4_ack_72 ?_
            refine lv_icmp_ne (tgt := 116) hx hb dX4_ack_73 (by decide) (fun c_73 => ?_) (fun c_73 => ?_)
            · skip
              refine lv_iload hx hb dX4_ack_116 (lv_at hl 0 rfl) ?_
              refine lv_if_lt (tgt := 123) hx hb dX4_ack_118 (by decide) (fun c_118 => ?_) (fun c_118 => ?_)
              · skip
                exact absurd c_118 (nI_pos (by omega))
              · skip
                refine lv_iconst (v := 4) hx hb dX4_ack_121 (by decide) ?_
                refine ck_ir hx hb hr hlocks (Nat.le_of_ble_eq_true rfl) (Nat.le_of_ble_eq_true rfl) dX4_ack_122 (n, kc, p1, p2, p3, p4, p5, p6, t1, t2, t3, t4, cs, v0, v1, v2, v3) hP hD hS ?_
                exact Or.inr (Or.inl ⟨hn_2, _, hj_3, hf_3, hg_3, Or.inl ⟨fun z => c_73 z.2, rfl, rfl, rfl, rfl, rfl, rfl, rfl, rfl, rfl, rfl, rfl, rfl, rfl, rfl⟩⟩)
            · skip
              refine lv_aload_n hx hb dX4_ack_76 rfl (lv_at hl 1 rfl) ?_
              refine ck_ri (va_runV (As := []) (rest := []) ⟨hx, hb, hml, hown, hts⟩ (c_X4_hasRoom l dC dI cI cJ cZ lo _ mo 0 zs rq k l0 ti ct n d1 d2 d3 d4 d5 d6 kc e1 e2 e3 e4 e5 v0 v1 v2 v3 t4 (by first | assumption | omega)) (cwV 0 hts gX4_ack_X4_hasRoom rfl rfl rfl (by decide +kernel) ⟨(Nat.le_of_ble_eq_true rfl), (Nat.le_of_ble_eq_true rfl)⟩) ⟨ck_blind, va_recv hK hP (ci := 4) (q0 := 0) rfl rfl, (ck_pre hG hP hD hS [0, 10] rfl (by decide) _)⟩ rfl rfl hl.1 rfl (lv_room (Nat.le_of_ble_eq_true rfl)) dX4_ack_77 ⟨(Nat.le_of_ble_eq_true rfl), (Nat.le_of_ble_eq_true rfl)⟩) (fun r_16 hw_16 => ?_)
              have hw_16 : (r_16 = 1 ∧ nI (ck_cnt kc t4) < rq ∧ kc < 64) ∨ (r_16 = 0 ∧ ¬ (nI (ck_cnt kc t4) < rq ∧ kc < 64)) := hw_16
              refine lv_if_ne (tgt := 85) hx hb dX4_ack_80 (by decide) (fun c_80 => ?_) (fun c_80 => ?_)
              · skip
                have b_80 := (hw_16.resolve_right (fun z => c_80 z.1)).2
                obtain ⟨n0, rfl⟩ : ∃ n0, n = n0 + 1 := ⟨n - 1, by omega⟩
                refine lv_aload_n hx hb dX4_ack_85 rfl (lv_at hl 1 rfl) ?_
                refine lv_iload_n hx hb dX4_ack_86 rfl (lv_at hl 2 rfl) ?_
                refine lv_iload_n hx hb dX4_ack_87 rfl (lv_at hl 3 rfl) ?_
                refine lv_aload_n hx hb dX4_ack_88 rfl (lv_at hl 1 rfl) ?_
                refine va_get (D := (dC, dI)) (ci := 4) (v := .ref d5) (C := RX4) (T := TX4) (N := 24) hx hb hts (k_X4_ack_in4) hown hK hP 0 rfl rfl 12 (by decide) (hts _ k_X4_ack_f32) (fun _ h9 => h9) rfl dX4_ack_89 ?_
                refine lv_iload hx hb dX4_ack_92 (lv_at hl 0 rfl) ?_
                refine ck_iald hx hb hK hP 5 0 rfl rfl (by omega) (by decide) dX4_ack_94 ?_
                refine ck_cv (wr := [(d1, .inl (cI, 32, .inl p1)), (d2, .inl (cI, 32, .inl p2)), (d3, .inl (cI, 32, .inl p3)), (d4, .inl (cI, 32, .inl p4)), (d5, .inl (cI, 32, .inl p5)), (d6, .inl (cI, 32, .inl p6)), (e5, .inl (cI, 4, .inl cs))]) (va_runV (As := [.int aa, .int bb, .int (p5 j_3)]) (rest := []) ⟨hx, hb, hml, hown, hts⟩ (c_X4_come l dC dI cI cJ cZ lo _ mo 0 zs rq k l0 ti ct (n0 + 1) d1 d2 d3 d4 d5 d6 kc e1 e2 e3 e4 e5 v0 v1 v2 v3 t1 t2 t3 t4 aa bb (p5 j_3) (b_80.2)) (cwV 3 hts gX4_ack_X4_come rfl rfl rfl (by decide +kernel) ⟨(Nat.le_of_ble_eq_true rfl), (Nat.le_of_ble_eq_true rfl)⟩) ⟨ck_blind, va_recv hK hP (ci := 4) (q0 := 0) rfl rfl, (ck_pre hG hP hD hS [0, 7, 8, 9, 10] rfl (by decide) _)⟩ rfl rfl hl.1 rfl (lv_room (Nat.le_of_ble_eq_true rfl)) dX4_ack_95 ⟨(Nat.le_of_ble_eq_true rfl), (Nat.le_of_ble_eq_true rfl)⟩) hP hD hS hA [0, 7, 8, 9, 10] [1, 2, 3, 4, 5, 6, 11] rfl rfl (by decide) (by decide) (fun u H locs hw_17 hP hD hS => ?_)
                have hP : va_P (dC, dI) vwCl [(d1, .inl (cI, 32, .inl p1)), (d2, .inl (cI, 32, .inl p2)), (d3, .inl (cI, 32, .inl p3)), (d4, .inl (cI, 32, .inl p4)), (d5, .inl (cI, 32, .inl p5)), (d6, .inl (cI, 32, .inl p6)), (e5, .inl (cI, 4, .inl cs)), (mo, .inr (4, [.int 0, .int zs, .int rq, .long k, .long l0, .int ti, .int ct, .int (nI (n0 + 1)), .ref d1, .ref d2, .ref d3, .ref d4, .ref d5, .ref d6, .int (nI (kc + 1)), .ref e1, .ref e2, .ref e3, .ref e4, .ref e5, .long v0, .long v1, .long v2, .long v3])), (e1, .inl (cI, 64, .inl (upd t1 kc aa))), (e2, .inl (cI, 64, .inl (upd t2 kc bb))), (e3, .inl (cI, 64, .inl (upd t3 kc (p5 j_3)))), (e4, .inl (cZ, 64, .inl (upd t4 kc 0)))] H := hP
                have hD : va_D A [(d1, .inl (cI, 32, .inl p1)), (d2, .inl (cI, 32, .inl p2)), (d3, .inl (cI, 32, .inl p3)), (d4, .inl (cI, 32, .inl p4)), (d5, .inl (cI, 32, .inl p5)), (d6, .inl (cI, 32, .inl p6)), (e5, .inl (cI, 4, .inl cs)), (mo, .inr (4, [.int 0, .int zs, .int rq, .long k, .long l0, .int ti, .int ct, .int (nI (n0 + 1)), .ref d1, .ref d2, .ref d3, .ref d4, .ref d5, .ref d6, .int (nI (kc + 1)), .ref e1, .ref e2, .ref e3, .ref e4, .ref e5, .long v0, .long v1, .long v2, .long v3])), (e1, .inl (cI, 64, .inl (upd t1 kc aa))), (e2, .inl (cI, 64, .inl (upd t2 kc bb))), (e3, .inl (cI, 64, .inl (upd t3 kc (p5 j_3)))), (e4, .inl (cZ, 64, .inl (upd t4 kc 0)))] := hD
                refine lv_aload_n hx hb dX4_ack_98 rfl (lv_at hl 1 rfl) ?_
                refine lv_iload hx hb dX4_ack_99 (lv_at hl 0 rfl) ?_
                refine ck_cv (wr := [(e5, .inl (cI, 4, .inl cs)), (e1, .inl (cI, 64, .inl (upd t1 kc aa))), (e2, .inl (cI, 64, .inl (upd t2 kc bb))), (e3, .inl (cI, 64, .inl (upd t3 kc (p5 j_3)))), (e4, .inl (cZ, 64, .inl (upd t4 kc 0)))]) (va_runV (As := [.int (nI j_3)]) (rest := []) ⟨hx, hb, hml, hown, hts⟩ (c_X4_dropHalf l dC dI cI cJ cZ lo _ mo 0 zs rq k l0 ti ct n0 d1 d2 d3 d4 d5 d6 (kc + 1) e1 e2 e3 e4 e5 v0 v1 v2 v3 p1 p2 p3 p4 p5 p6 j_3 (by first | assumption | omega) (by first | assumption | omega)) (cwV 1 hts gX4_ack_X4_dropHalf rfl rfl rfl (by decide +kernel) ⟨(Nat.le_of_ble_eq_true rfl), (Nat.le_of_ble_eq_true rfl)⟩) ⟨ck_blind, va_recv hK hP (ci := 4) (q0 := 7) rfl rfl, (ck_pre hG hP hD hS [7, 0, 1, 2, 3, 4, 5] rfl (by decide) _)⟩ rfl rfl hl.1 rfl (lv_room (Nat.le_of_ble_eq_true rfl)) dX4_ack_101 ⟨(Nat.le_of_ble_eq_true rfl), (Nat.le_of_ble_eq_true rfl)⟩) hP hD hS hA [7, 0, 1, 2, 3, 4, 5] [6, 8, 9, 10, 11] rfl rfl (by decide) (by decide) (fun u H locs hw_18 hP hD hS => ?_)
                obtain ⟨z1_18, z2_18, z3_18, z4_18, z5_18, z6_18⟩ := u
                have hw_18 : ck_shf p1 z1_18 j_3 n0 ∧ ck_shf p2 z2_18 j_3 n0 ∧ ck_shf p3 z3_18 j_3 n0 ∧ ck_shf p4 z4_18 j_3 n0 ∧ ck_shf p5 z5_18 j_3 n0 ∧ ck_shf p6 z6_18 j_3 n0 := hw_18
                have hP : va_P (dC, dI) vwCl [(e5, .inl (cI, 4, .inl cs)), (e1, .inl (cI, 64, .inl (upd t1 kc aa))), (e2, .inl (cI, 64, .inl (upd t2 kc bb))), (e3, .inl (cI, 64, .inl (upd t3 kc (p5 j_3)))), (e4, .inl (cZ, 64, .inl (upd t4 kc 0))), (mo, .inr (4, [.int 0, .int zs, .int rq, .long k, .long l0, .int ti, .int ct, .int (nI n0), .ref d1, .ref d2, .ref d3, .ref d4, .ref d5, .ref d6, .int (nI (kc + 1)), .ref e1, .ref e2, .ref e3, .ref e4, .ref e5, .long v0, .long v1, .long v2, .long v3])), (d1, .inl (cI, 32, .inl z1_18)), (d2, .inl (cI, 32, .inl z2_18)), (d3, .inl (cI, 32, .inl z3_18)), (d4, .inl (cI, 32, .inl z4_18)), (d5, .inl (cI, 32, .inl z5_18)), (d6, .inl (cI, 32, .inl z6_18))] H := hP
                have hD : va_D A [(e5, .inl (cI, 4, .inl cs)), (e1, .inl (cI, 64, .inl (upd t1 kc aa))), (e2, .inl (cI, 64, .inl (upd t2 kc bb))), (e3, .inl (cI, 64, .inl (upd t3 kc (p5 j_3)))), (e4, .inl (cZ, 64, .inl (upd t4 kc 0))), (mo, .inr (4, [.int 0, .int zs, .int rq, .long k, .long l0, .int ti, .int ct, .int (nI n0), .ref d1, .ref d2, .ref d3, .ref d4, .ref d5, .ref d6, .int (nI (kc + 1)), .ref e1, .ref e2, .ref e3, .ref e4, .ref e5, .long v0, .long v1, .long v2, .long v3])), (d1, .inl (cI, 32, .inl z1_18)), (d2, .inl (cI, 32, .inl z2_18)), (d3, .inl (cI, 32, .inl z3_18)), (d4, .inl (cI, 32, .inl z4_18)), (d5, .inl (cI, 32, .inl z5_18)), (d6, .inl (cI, 32, .inl z6_18))] := hD
                refine lv_aload_n hx hb dX4_ack_104 rfl (lv_at hl 1 rfl) ?_
                refine va_get (D := (dC, dI)) (ci := 4) (v := .ref e5) (C := RX4) (T := TX4) (N := 24) hx hb hts (k_X4_ack_in4) hown hK hP 5 rfl rfl 19 (by decide) (hts _ k_X4_ack_f51) (fun _ h9 => h9) rfl dX4_ack_105 ?_
                refine lv_iconst (v := nI 1) hx hb dX4_ack_108 (by decide) ?_
                refine lv_dup2_11 hx hb dX4_ack_109 rfl rfl ?_
                refine ck_iald hx hb hK hP 0 0 rfl rfl (by omega) (by decide) dX4_ack_110 ?_
                refine lv_iconst (v := 1) hx hb dX4_ack_111 (by decide) ?_
                refine lv_iadd hx hb dX4_ack_112 ?_
                refine lv_topi (fun x_19 ex_19 => ?_)
                refine ck_iast hx hb hK hP hD hS 0 0 rfl rfl (by omega) (by decide) dX4_ack_113 (fun H locs hP hD hS => ?_)
                have hP : va_P (dC, dI) vwCl [(e5, .inl (cI, 4, .inl (upd cs 1 x_19))), (e1, .inl (cI, 64, .inl (upd t1 kc aa))), (e2, .inl (cI, 64, .inl (upd t2 kc bb))), (e3, .inl (cI, 64, .inl (upd t3 kc (p5 j_3)))), (e4, .inl (cZ, 64, .inl (upd t4 kc 0))), (mo, .inr (4, [.int 0, .int zs, .int rq, .long k, .long l0, .int ti, .int ct, .int (nI n0), .ref d1, .ref d2, .ref d3, .ref d4, .ref d5, .ref d6, .int (nI (kc + 1)), .ref e1, .ref e2, .ref e3, .ref e4, .ref e5, .long v0, .long v1, .long v2, .long v3])), (d1, .inl (cI, 32, .inl z1_18)), (d2, .inl (cI, 32, .inl z2_18)), (d3, .inl (cI, 32, .inl z3_18)), (d4, .inl (cI, 32, .inl z4_18)), (d5, .inl (cI, 32, .inl z5_18)), (d6, .inl (cI, 32, .inl z6_18))] H := hP
                have hD : va_D A [(e5, .inl (cI, 4, .inl (upd cs 1 x_19))), (e1, .inl (cI, 64, .inl (upd t1 kc aa))), (e2, .inl (cI, 64, .inl (upd t2 kc bb))), (e3, .inl (cI, 64, .inl (upd t3 kc (p5 j_3)))), (e4, .inl (cZ, 64, .inl (upd t4 kc 0))), (mo, .inr (4, [.int 0, .int zs, .int rq, .long k, .long l0, .int ti, .int ct, .int (nI n0), .ref d1, .ref d2, .ref d3, .ref d4, .ref d5, .ref d6, .int (nI (kc + 1)), .ref e1, .ref e2, .ref e3, .ref e4, .ref e5, .long v0, .long v1, .long v2, .long v3])), (d1, .inl (cI, 32, .inl z1_18)), (d2, .inl (cI, 32, .inl z2_18)), (d3, .inl (cI, 32, .inl z3_18)), (d4, .inl (cI, 32, .inl z4_18)), (d5, .inl (cI, 32, .inl z5_18)), (d6, .inl (cI, 32, .inl z6_18))] := hD
                refine lv_iconst (v := 2) hx hb dX4_ack_114 (by decide) ?_
                refine ck_ir hx hb hr hlocks (Nat.le_of_ble_eq_true rfl) (Nat.le_of_ble_eq_true rfl) dX4_ack_115 (n0, kc + 1, z1_18, z2_18, z3_18, z4_18, z5_18, z6_18, upd t1 kc aa, upd t2 kc bb, upd t3 kc (p5 j_3), upd t4 kc 0, upd cs 1 x_19, v0, v1, v2, v3) (hP.sub [5, 6, 7, 8, 9, 10, 11, 1, 2, 3, 4, 0] rfl) (hD.sub [5, 6, 7, 8, 9, 10, 11, 1, 2, 3, 4, 0] (by decide) rfl) hS ?_
                subst_vars
                exact Or.inr (Or.inl ⟨hn_2, _, hj_3, rfl, rfl, Or.inr (Or.inr ⟨⟨c_59, c_73⟩, b_80, rfl, rfl, rfl, ck_gone_shf (by omega) (ck_shfM hw_18.1 hw_18.2.1 hw_18.2.2.1 hw_18.2.2.2.1 hw_18.2.2.2.2.1 hw_18.2.2.2.2.2), ck_pok_shf hw_18.2.1 hpo, rfl, rfl, rfl, rfl, rfl⟩)⟩)
              · skip
                have b_80 := (hw_16.resolve_left (fun z => absurd (z.1.symm.trans c_80) (by decide))).2
                refine lv_iconst (v := 3) hx hb dX4_ack_83 (by decide) ?_
                refine ck_ir hx hb hr hlocks (Nat.le_of_ble_eq_true rfl) (Nat.le_of_ble_eq_true rfl) dX4_ack_84 (n, kc, p1, p2, p3, p4, p5, p6, t1, t2, t3, t4, cs, v0, v1, v2, v3) hP hD hS ?_
                exact Or.inr (Or.inl ⟨hn_2, _, hj_3, hf_3, hg_3, Or.inr (Or.inl ⟨⟨c_59, c_73⟩, b_80, rfl, rfl, rfl, rfl, rfl, rfl, rfl, rfl, rfl, rfl, rfl, rfl, rfl, rfl⟩)⟩)
      · skip
        obtain ⟨j_2, hj_2, ej_2, hf_2, hg_2⟩ := hw_2.resolve_left (fun z => c_31 (by rw [z.1]; decide))
        subst ej_2
        refine lv_iconst (v := 1) hx hb dX4_ack_34 (by decide) ?_
        refine ck_ir hx hb hr hlocks (Nat.le_of_ble_eq_true rfl) (Nat.le_of_ble_eq_true rfl) dX4_ack_35 (n, kc, p1, p2, p3, p4, p5, p6, t1, t2, t3, t4, cs, v0, v1, v2, v3) hP hD hS ?_
        exact Or.inl ⟨⟨_, hj_2, hf_2, hg_2⟩, rfl, rfl, rfl, rfl, rfl, rfl, rfl, rfl, rfl, rfl, rfl, rfl, rfl, rfl⟩
    · skip
      exact absurd c_20 (by decide)
  · skip
    exact absurd ⟨hb1, hb2⟩ ((hw_1.resolve_right (fun z => c_5 z.1)).2)
set_option maxHeartbeats 4000000 in
set_option maxRecDepth 100000 in
theorem b_X4_ack (l : Launch) (dC : Nat → ClassId) (dI : Nat → Nat → Nat) (cI cJ cZ : ClassId) (lo sz : Nat) (mo : Nat) (th zs rq : Int32) (k l0 : Int64) (ti ct : Int32) (n : Nat) (d1 d2 d3 d4 d5 d6 : Nat) (kc : Nat) (e1 e2 e3 e4 e5 : Nat) (v0 v1 v2 v3 : Int64) (aa bb na nb : Int32) (hbad : ¬ (0 ≤ bb ∧ bb ≤ 65535)) : Met l yX4_ack wsX4_ack ({ frames := 1, cells := 0, slots := 0, locals := 20 } : Room) (va_Pc [.ref mo, .int aa, .int bb, .int na, .int nb] (ck_P (dC, dI) [(cI, .int), (cJ, .long), (cZ, .boolean)] lo sz [(mo, .inr (4, [.int th, .int zs, .int rq, .long k, .long l0, .int ti, .int ct, .int (nI n), .ref d1, .ref d2, .ref d3, .ref d4, .ref d5, .ref d6, .int (nI kc), .ref e1, .ref e2, .ref e3, .ref e4, .ref e5, .long v0, .long v1, .long v2, .long v3]))])) (va_Qi (fun (r : Int32) (u : Unit) => True) (fun u => ck_B (dC, dI) vwCl (va_A [(mo, .inr (4, [.int th, .int zs, .int rq, .long k, .long l0, .int ti, .int ct, .int (nI n), .ref d1, .ref d2, .ref d3, .ref d4, .ref d5, .ref d6, .int (nI kc), .ref e1, .ref e2, .ref e3, .ref e4, .ref e5, .long v0, .long v1, .long v2, .long v3]))] sz) ((fun u : Unit => ([(mo, .inr (4, [.int 1, .int zs, .int rq, .long k, .long l0, .int ti, .int ct, .int (nI n), .ref d1, .ref d2, .ref d3, .ref d4, .ref d5, .ref d6, .int (nI kc), .ref e1, .ref e2, .ref e3, .ref e4, .ref e5, .long v0, .long v1, .long v2, .long v3]))] : va_W)) u)) (va_A [(mo, .inr (4, [.int th, .int zs, .int rq, .long k, .long l0, .int ti, .int ct, .int (nI n), .ref d1, .ref d2, .ref d3, .ref d4, .ref d5, .ref d6, .int (nI kc), .ref e1, .ref e2, .ref e3, .ref e4, .ref e5, .long v0, .long v1, .long v2, .long v3]))] sz)) 0 0 (va_A [(mo, .inr (4, [.int th, .int zs, .int rq, .long k, .long l0, .int ti, .int ct, .int (nI n), .ref d1, .ref d2, .ref d3, .ref d4, .ref d5, .ref d6, .int (nI kc), .ref e1, .ref e2, .ref e3, .ref e4, .ref e5, .long v0, .long v1, .long v2, .long v3]))] sz) := by
  refine Met.ofW (cc := cX4_ack) (maxL := 10) (ret := (some .int)) (by decide) rfl ?_
  intro p e s m args below meth c s₁ B hml hv
  obtain ⟨rfl, hsz, hP, hK, hD0, hE⟩ := hv
  have hx := B.exec
  have hb := B.bytes
  have hr := B.returns
  have hts := atoms_spec (ws := wsX4_ack) B.pre
  have hown : s.vm.findClass RX4 = some m.cls := findClass_of_methodNamed B.named
  have hlocks := B.notSynchronized
  subst hsz
  have hD := hD0.self (sz := s.heap.size)
  have hlo := ck_lo (sz := s.heap.size) hD0 hE.1
  generalize hAe : va_A [(mo, .inr (4, [.int th, .int zs, .int rq, .long k, .long l0, .int ti, .int ct, .int (nI n), .ref d1, .ref d2, .ref d3, .ref d4, .ref d5, .ref d6, .int (nI kc), .ref e1, .ref e2, .ref e3, .ref e4, .ref e5, .long v0, .long v1, .long v2, .long v3]))] s.heap.size = A at hD hlo ⊢
  have hA : ∀ q : Nat, s.heap.size ≤ q → A q := fun q h => by rw [← hAe]; exact Or.inr h
  have hG : ck_G (dC, dI) [(cI, .int), (cJ, .long), (cZ, .boolean)] lo A s := ⟨hK, hE, hA, hlo⟩
  have hS : va_S A s.heap s.heap [] := va_S.rf
  have hP : va_P (dC, dI) vwCl [(mo, .inr (4, [.int th, .int zs, .int rq, .long k, .long l0, .int ti, .int ct, .int (nI n), .ref d1, .ref d2, .ref d3, .ref d4, .ref d5, .ref d6, .int (nI kc), .ref e1, .ref e2, .ref e3, .ref e4, .ref e5, .long v0, .long v1, .long v2, .long v3]))] s.heap := hP
  have hl := lv_entry ([.ref mo, .int aa, .int bb, .int na, .int nb]) (n := 10) (Nat.le_of_ble_eq_true rfl)
  rw [lg_entry_eq]
  generalize (lg_sl ([.ref mo, .int aa, .int bb, .int na, .int nb]) ++ List.replicate (10 - (lg_sl ([.ref mo, .int aa, .int bb, .int na, .int nb])).length) Slot.unset).toArray = ls at hl ⊢
  have hl : lv_has ls 10 [(0, .ref mo), (1, .int aa), (2, .int bb), (3, .int na), (4, .int nb)] := hl
  refine lv_aload_n hx hb dX4_ack_0 rfl (lv_at hl 0 rfl) ?_
  refine lv_iload_n hx hb dX4_ack_1 rfl (lv_at hl 2 rfl) ?_
  refine ck_ri (va_runS (As := [.int bb]) (rest := [.ref mo]) ⟨hx, hb, hml, hown, hts⟩ (c_X4_noPort l dC dI cI cJ cZ lo _ bb) (va_cwS 1 hts gX4_ack_X4_noPort rfl rfl rfl (by decide +kernel) ⟨(Nat.le_of_ble_eq_true rfl), (Nat.le_of_ble_eq_true rfl)⟩) ⟨ck_blind, (ck_pre hG hP hD hS [] rfl (by decide) _)⟩ rfl rfl hl.1 rfl (lv_room (Nat.le_of_ble_eq_true rfl)) dX4_ack_2 ⟨(Nat.le_of_ble_eq_true rfl), (Nat.le_of_ble_eq_true rfl)⟩) (fun r_1 hw_1 => ?_)
  have hw_1 : (r_1 = 1 ∧ ¬ (0 ≤ bb ∧ bb ≤ 65535)) ∨ (r_1 = 0 ∧ (0 ≤ bb ∧ bb ≤ 65535)) := hw_1
  refine lv_if_eq (tgt := 12) hx hb dX4_ack_5 (by decide) (fun c_5 => ?_) (fun c_5 => ?_)
  · skip
    exact absurd ((hw_1.resolve_left (fun z => absurd (z.1.symm.trans c_5) (by decide))).2) hbad
  · skip
    refine lv_iconst (v := 1) hx hb dX4_ack_8 (by decide) ?_
    refine lv_goto (tgt := 13) hx hb dX4_ack_9 (by decide) ?_
    refine va_put (D := (dC, dI)) (ci := 4) (v := .int 1) (ty := .int) (C := RX4) (T := TX4) (N := 24) hx hb hts (k_X4_ack_in4) tyX4 tyX4_ok nmX4 hown hK hP hD hS 0 rfl rfl 0 (by decide) (hts _ k_X4_ack_f54) (fun _ h9 => h9) rfl (by decide +kernel) rfl rfl (Nat.le_of_ble_eq_true rfl) dX4_ack_13 (fun H locs hP hD hS => ?_)
    have hP : va_P (dC, dI) vwCl [(mo, .inr (4, [.int 1, .int zs, .int rq, .long k, .long l0, .int ti, .int ct, .int (nI n), .ref d1, .ref d2, .ref d3, .ref d4, .ref d5, .ref d6, .int (nI kc), .ref e1, .ref e2, .ref e3, .ref e4, .ref e5, .long v0, .long v1, .long v2, .long v3]))] H := hP
    have hD : va_D A [(mo, .inr (4, [.int 1, .int zs, .int rq, .long k, .long l0, .int ti, .int ct, .int (nI n), .ref d1, .ref d2, .ref d3, .ref d4, .ref d5, .ref d6, .int (nI kc), .ref e1, .ref e2, .ref e3, .ref e4, .ref e5, .long v0, .long v1, .long v2, .long v3]))] := hD
    refine lv_aload_n hx hb dX4_ack_16 rfl (lv_at hl 0 rfl) ?_
    refine va_get (D := (dC, dI)) (ci := 4) (v := .int 1) (C := RX4) (T := TX4) (N := 24) hx hb hts (k_X4_ack_in4) hown hK hP 0 rfl rfl 0 (by decide) (hts _ k_X4_ack_f54) (fun _ h9 => h9) rfl dX4_ack_17 ?_
    refine lv_if_le (tgt := 25) hx hb dX4_ack_20 (by decide) (fun c_20 => ?_) (fun c_20 => ?_)
    · skip
      exact absurd c_20 (by decide)
    · skip
      refine lv_iconst (v := 0) hx hb dX4_ack_23 (by decide) ?_
      subst_vars
      refine ck_ir hx hb hr hlocks (Nat.le_of_ble_eq_true rfl) (Nat.le_of_ble_eq_true rfl) dX4_ack_24 () hP hD hS ?_
      exact trivial
