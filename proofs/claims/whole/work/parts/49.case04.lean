set_option maxHeartbeats 8000000 in
set_option maxRecDepth 100000 in
theorem ck_case4 (p : Program) (l : Launch) (e : Env) (s : State) (m : MethodId) (below : List Frame) (meth : Method) (c : Code) (b L : Nat) (xs : Nat → Int32) (A : Nat → Prop) (dC : Nat → ClassId) (dI : Nat → Nat → Nat) (cI cJ cZ : ClassId) (lo : Nat) (o sp h cn a1 a2 a3 a4 a5 b1 b2 mo d1 d2 d3 d4 d5 d6 e1 e2 e3 e4 e5 ou : Nat) (ix J cells slots : Nat) (C0 : ck_C p l s m meth c b L xs A dC dI cI cJ cZ lo) (hi : ix + 6 ≤ L) (hJ : J < 512) (hcl : cells + 1 ≤ 1050) (hsl : slots + 6 ≤ 8996) (hc : ck_At p l e s m below meth c b A dC dI cI cJ cZ o sp h cn a1 a2 a3 a4 a5 b1 b2 mo d1 d2 d3 d4 d5 d6 e1 e2 e3 e4 e5 ou 896 ix (J + 1) (cells + 1) (slots + 6)) : ck_At p l e s m below meth c b A dC dI cI cJ cZ o sp h cn a1 a2 a3 a4 a5 b1 b2 mo d1 d2 d3 d4 d5 d6 e1 e2 e3 e4 e5 ou 394 ix J cells slots := by
  obtain ⟨⟨hx, hb, hr, hml, hown, hts, hX, hbl, hlocks, hgv⟩, hG, hAf, hst, hL⟩ := C0
  have hown : s.vm.findClass RL = some m.cls := hown
  have hts : ∀ w ∈ wsL_law, w.before #[Value.ref b] s = true := fun w h => hts w (wsL_law_in w h)
  have hK := hG.1
  have hE := hG.2.1
  have hA := hG.2.2.1
  have hbA : ¬ A b := fun z => absurd (hAf b z) (Nat.not_le.mpr hbl)
  intro zs rq ti ct gv bh bc un k l0 v0 v1 v2 v3 n f1 f2 f3 f4 f5 kc t g1 g2 th mct x0 x1 x2 x3 p1 p2 p3 p4 p5 p6 t1 t2 t3 t4 cs ov hI H locs ls hP hD hS hl
  have hz := hI.1
  have hn := hI.2.2.1.1
  have hpo := hI.2.2.1.2.2.2
  have hk := hI.2.2.2.1.1
  have ht := hI.2.2.2.1.2.1
  have h01 : ∀ i, i < kc → t4 i = 0 ∨ t4 i = 1 := fun i hi => by
    rw [(hI.2.2.2.1.2.2.1 i hi).2.2.1]
    split
    · exact Or.inr rfl
    · exact Or.inl rfl
  by_cases hq : 0 ≤ xs (ix + 2) ∧ xs (ix + 2) ≤ 65535
  · skip
    obtain ⟨hb1, hb2⟩ := id hq
    refine lv_aload_n hx hb dL_law_394 rfl (lv_at hl 1 rfl) ?_
    refine lv_aload_n hx hb dL_law_395 rfl (lv_at hl 0 rfl) ?_
    refine lv_iload hx hb dL_law_396 (lv_at hl 4 rfl) ?_
    refine lv_iconst (v := nI 1) hx hb dL_law_398 (by decide) ?_
    refine lv_iadd hx hb dL_law_399 ?_
    refine ck_toi (y := nI (ix + 1)) (nI_add _ _) ?_
    refine va_sld hx hb hX hbl hbA hS (vp_in_nI (show ix + 1 < L by omega) (by omega)) dL_law_400 ?_
    refine ck_toi (y := xs (ix + 1)) (by rw [nI_clamp (by omega)]) ?_
    refine lv_aload_n hx hb dL_law_401 rfl (lv_at hl 0 rfl) ?_
    refine lv_iload hx hb dL_law_402 (lv_at hl 4 rfl) ?_
    refine lv_iconst (v := nI 2) hx hb dL_law_404 (by decide) ?_
    refine lv_iadd hx hb dL_law_405 ?_
    refine ck_toi (y := nI (ix + 2)) (nI_add _ _) ?_
    refine va_sld hx hb hX hbl hbA hS (vp_in_nI (show ix + 2 < L by omega) (by omega)) dL_law_406 ?_
    refine ck_toi (y := xs (ix + 2)) (by rw [nI_clamp (by omega)]) ?_
    refine lv_aload_n hx hb dL_law_407 rfl (lv_at hl 0 rfl) ?_
    refine lv_iload hx hb dL_law_408 (lv_at hl 4 rfl) ?_
    refine lv_iconst (v := nI 3) hx hb dL_law_410 (by decide) ?_
    refine lv_iadd hx hb dL_law_411 ?_
    refine ck_toi (y := nI (ix + 3)) (nI_add _ _) ?_
    refine va_sld hx hb hX hbl hbA hS (vp_in_nI (show ix + 3 < L by omega) (by omega)) dL_law_412 ?_
    refine ck_toi (y := xs (ix + 3)) (by rw [nI_clamp (by omega)]) ?_
    refine lv_aload_n hx hb dL_law_413 rfl (lv_at hl 0 rfl) ?_
    refine lv_iload hx hb dL_law_414 (lv_at hl 4 rfl) ?_
    refine lv_iconst (v := nI 4) hx hb dL_law_416 (by decide) ?_
    refine lv_iadd hx hb dL_law_417 ?_
    refine ck_toi (y := nI (ix + 4)) (nI_add _ _) ?_
    refine va_sld hx hb hX hbl hbA hS (vp_in_nI (show ix + 4 < L by omega) (by omega)) dL_law_418 ?_
    refine ck_toi (y := xs (ix + 4)) (by rw [nI_clamp (by omega)]) ?_
    refine lv_aload_n hx hb dL_law_419 rfl (lv_at hl 3 rfl) ?_
    refine ck_ci (wr := [(mo, .inr (4, [.int th, .int zs, .int rq, .long k, .long l0, .int ti, .int mct, .int (nI n), .ref d1, .ref d2, .ref d3, .ref d4, .ref d5, .ref d6, .int (nI kc), .ref e1, .ref e2, .ref e3, .ref e4, .ref e5, .long x0, .long x1, .long x2, .long x3])), (d1, .inl (cI, 32, .inl p1)), (d2, .inl (cI, 32, .inl p2)), (d3, .inl (cI, 32, .inl p3)), (d4, .inl (cI, 32, .inl p4)), (d5, .inl (cI, 32, .inl p5)), (d6, .inl (cI, 32, .inl p6)), (e1, .inl (cI, 64, .inl t1)), (e2, .inl (cI, 64, .inl t2)), (e3, .inl (cI, 64, .inl t3)), (e4, .inl (cZ, 64, .inl t4)), (e5, .inl (cI, 4, .inl cs))]) (vx_runSW (As := [.ref o, .int (xs (ix + 1)), .int (xs (ix + 2)), .int (xs (ix + 3)), .int (xs (ix + 4)), .ref ou]) (rest := []) ⟨hx, hb, hml, hown, hts⟩ (c_L_ack l dC dI cI cJ cZ lo _ o sp h cn zs rq ti ct gv bh bc un k l0 v0 v1 v2 v3 a1 a2 a3 a4 a5 n f1 f2 f3 f4 f5 b1 b2 kc t g1 g2 (xs (ix + 1)) (xs (ix + 2)) (xs (ix + 3)) (xs (ix + 4)) ou ov (by first | assumption | omega) (by first | assumption | omega) (by first | assumption | omega) (by first | assumption | omega) (by first | assumption | omega)) (vx_cwSW 6 hts gL_law_L_ack rfl rfl rfl (by decide +kernel) ⟨(Nat.le_of_ble_eq_true rfl), (Nat.le_of_ble_eq_true rfl)⟩) ⟨ck_blind, (ck_pre hG hP hD hS [0, 1, 2, 3, 4, 5, 6, 7, 8, 9, 10, 23] rfl (by decide) _)⟩ rfl rfl hl.1 rfl (lv_room (Nat.le_of_ble_eq_true rfl)) dL_law_420 ⟨ck_le1 (by omega), ck_le2 (by omega)⟩) hP hD hS hA [0, 1, 2, 3, 4, 5, 6, 7, 8, 9, 10, 23] [11, 12, 13, 14, 15, 16, 17, 18, 19, 20, 21, 22] rfl rfl (by decide) (by decide) (fun r_1 u H locs hw_1 hP hD hS => ?_)
    obtain ⟨bh2_1, bc2_1, un2_1, n2_1, w1_1, w2_1, w3_1, w4_1, w5_1, k2_1, q1_1, q2_1, u0_1, u1_1, u2_1, u3_1, oz_1⟩ := u
    have hw_1 : r_1 = 0 ∧ ∃ rv : Int32, (((∃ j, j < kc ∧ g1 j = ck_clr (xs (ix + 1)) (xs (ix + 2))) ∧ rv = 1 ∧ un2_1 = un ∧ bh2_1 = bh ∧ bc2_1 = bc ∧ n2_1 = n ∧ w1_1 = f1 ∧ w2_1 = f2 ∧ w3_1 = f3 ∧ w4_1 = f4 ∧ w5_1 = f5 ∧ k2_1 = kc ∧ q1_1 = g1 ∧ q2_1 = g2) ∨ ((∀ i, i < kc → g1 i ≠ ck_clr (xs (ix + 1)) (xs (ix + 2))) ∧ ∃ j, j < n ∧ f1 j = ck_clr (xs (ix + 1)) (xs (ix + 2)) ∧ ((¬ (f2 j = (xs (ix + 3)) - 1 ∧ f3 j = (xs (ix + 4)) - 1) ∧ rv = 4 ∧ un2_1 = un ∧ bh2_1 = bh ∧ bc2_1 = bc ∧ n2_1 = n ∧ w1_1 = f1 ∧ w2_1 = f2 ∧ w3_1 = f3 ∧ w4_1 = f4 ∧ w5_1 = f5 ∧ k2_1 = kc ∧ q1_1 = g1 ∧ q2_1 = g2) ∨ ((f2 j = (xs (ix + 3)) - 1 ∧ f3 j = (xs (ix + 4)) - 1) ∧ ¬ (nI (kc - t) < rq ∧ kc < 64) ∧ rv = 3 ∧ un2_1 = un ∧ bh2_1 = bh ∧ bc2_1 = bc ∧ n2_1 = n ∧ w1_1 = f1 ∧ w2_1 = f2 ∧ w3_1 = f3 ∧ w4_1 = f4 ∧ w5_1 = f5 ∧ k2_1 = kc ∧ q1_1 = g1 ∧ q2_1 = g2) ∨ ((f2 j = (xs (ix + 3)) - 1 ∧ f3 j = (xs (ix + 4)) - 1) ∧ (nI (kc - t) < rq ∧ kc < 64) ∧ rv = 2 ∧ un2_1 = un ∧ bh2_1 = bh + 1 ∧ bc2_1 = bc ∧ n = n2_1 + 1 ∧ ck_gone n2_1 (ck_R f1 f2 f3 f4 f5) (ck_R w1_1 w2_1 w3_1 w4_1 w5_1) j ∧ k2_1 = kc + 1 ∧ q1_1 = vp_updL g1 kc (ck_clr (xs (ix + 1)) (xs (ix + 2))) ∧ q2_1 = upd g2 kc (f4 j)))) ∨ ((∀ i, i < kc → g1 i ≠ ck_clr (xs (ix + 1)) (xs (ix + 2))) ∧ (∀ i, i < n → f1 i ≠ ck_clr (xs (ix + 1)) (xs (ix + 2))) ∧ n2_1 = n ∧ w1_1 = f1 ∧ w2_1 = f2 ∧ w3_1 = f3 ∧ w4_1 = f4 ∧ w5_1 = f5 ∧ bh2_1 = bh ∧ ((¬ ck_lately gv ti ct ∧ rv = 8 ∧ un2_1 = un + 1 ∧ bc2_1 = bc ∧ k2_1 = kc ∧ q1_1 = g1 ∧ q2_1 = g2) ∨ (ck_lately gv ti ct ∧ ¬ ck_late k l0 (ck_clr (xs (ix + 1)) (xs (ix + 2))) ((xs (ix + 3)) - 1) (((((xs (ix + 4)) - 1).toUInt32 >>> ((24 : Int32).toUInt32 &&& Int32.toUInt32 31)).toInt32) &&& 7) ti ((xs (ix + 4)) - 1) ∧ rv = 7 ∧ un2_1 = un + 1 ∧ bc2_1 = bc ∧ k2_1 = kc ∧ q1_1 = g1 ∧ q2_1 = g2) ∨ (ck_lately gv ti ct ∧ ck_late k l0 (ck_clr (xs (ix + 1)) (xs (ix + 2))) ((xs (ix + 3)) - 1) (((((xs (ix + 4)) - 1).toUInt32 >>> ((24 : Int32).toUInt32 &&& Int32.toUInt32 31)).toInt32) &&& 7) ti ((xs (ix + 4)) - 1) ∧ ¬ (nI (kc - t) < rq ∧ kc < 64) ∧ rv = 6 ∧ un2_1 = un ∧ bc2_1 = bc ∧ k2_1 = kc ∧ q1_1 = g1 ∧ q2_1 = g2) ∨ (ck_lately gv ti ct ∧ ck_late k l0 (ck_clr (xs (ix + 1)) (xs (ix + 2))) ((xs (ix + 3)) - 1) (((((xs (ix + 4)) - 1).toUInt32 >>> ((24 : Int32).toUInt32 &&& Int32.toUInt32 31)).toInt32) &&& 7) ti ((xs (ix + 4)) - 1) ∧ (nI (kc - t) < rq ∧ kc < 64) ∧ rv = 5 ∧ un2_1 = un ∧ bc2_1 = bc + 1 ∧ k2_1 = kc + 1 ∧ q1_1 = vp_updL g1 kc (ck_clr (xs (ix + 1)) (xs (ix + 2))) ∧ q2_1 = upd g2 kc (((((xs (ix + 4)) - 1).toUInt32 >>> ((24 : Int32).toUInt32 &&& Int32.toUInt32 31)).toInt32) &&& 7))))) ∧ oz_1 0 = rv.toInt64 := hw_1
    have hP : va_P (dC, dI) vwCl [(mo, .inr (4, [.int th, .int zs, .int rq, .long k, .long l0, .int ti, .int mct, .int (nI n), .ref d1, .ref d2, .ref d3, .ref d4, .ref d5, .ref d6, .int (nI kc), .ref e1, .ref e2, .ref e3, .ref e4, .ref e5, .long x0, .long x1, .long x2, .long x3])), (d1, .inl (cI, 32, .inl p1)), (d2, .inl (cI, 32, .inl p2)), (d3, .inl (cI, 32, .inl p3)), (d4, .inl (cI, 32, .inl p4)), (d5, .inl (cI, 32, .inl p5)), (d6, .inl (cI, 32, .inl p6)), (e1, .inl (cI, 64, .inl t1)), (e2, .inl (cI, 64, .inl t2)), (e3, .inl (cI, 64, .inl t3)), (e4, .inl (cZ, 64, .inl t4)), (e5, .inl (cI, 4, .inl cs)), (o, .inr (3, [.ref sp, .ref h, .ref cn, .int zs, .int rq, .int ti, .int ct, .int gv, .int bh2_1, .int bc2_1, .int un2_1])), (sp, .inr (2, [.long k, .long l0, .long u0_1, .long u1_1, .long u2_1, .long u3_1])), (h, .inr (1, [.ref a1, .ref a2, .ref a3, .ref a4, .ref a5, .int (nI n2_1)])), (a1, .inl (cJ, 32, .inr (.inl w1_1))), (a2, .inl (cI, 32, .inl w2_1)), (a3, .inl (cI, 32, .inl w3_1)), (a4, .inl (cI, 32, .inl w4_1)), (a5, .inl (cI, 32, .inl w5_1)), (cn, .inr (0, [.ref b1, .ref b2, .int (nI k2_1), .int (nI t)])), (b1, .inl (cJ, 64, .inr (.inl q1_1))), (b2, .inl (cI, 64, .inl q2_1)), (ou, .inl (cJ, 1, .inr (.inl oz_1)))] H := hP
    have hD : va_D A [(mo, .inr (4, [.int th, .int zs, .int rq, .long k, .long l0, .int ti, .int mct, .int (nI n), .ref d1, .ref d2, .ref d3, .ref d4, .ref d5, .ref d6, .int (nI kc), .ref e1, .ref e2, .ref e3, .ref e4, .ref e5, .long x0, .long x1, .long x2, .long x3])), (d1, .inl (cI, 32, .inl p1)), (d2, .inl (cI, 32, .inl p2)), (d3, .inl (cI, 32, .inl p3)), (d4, .inl (cI, 32, .inl p4)), (d5, .inl (cI, 32, .inl p5)), (d6, .inl (cI, 32, .inl p6)), (e1, .inl (cI, 64, .inl t1)), (e2, .inl (cI, 64, .inl t2)), (e3, .inl (cI, 64, .inl t3)), (e4, .inl (cZ, 64, .inl t4)), (e5, .inl (cI, 4, .inl cs)), (o, .inr (3, [.ref sp, .ref h, .ref cn, .int zs, .int rq, .int ti, .int ct, .int gv, .int bh2_1, .int bc2_1, .int un2_1])), (sp, .inr (2, [.long k, .long l0, .long u0_1, .long u1_1, .long u2_1, .long u3_1])), (h, .inr (1, [.ref a1, .ref a2, .ref a3, .ref a4, .ref a5, .int (nI n2_1)])), (a1, .inl (cJ, 32, .inr (.inl w1_1))), (a2, .inl (cI, 32, .inl w2_1)), (a3, .inl (cI, 32, .inl w3_1)), (a4, .inl (cI, 32, .inl w4_1)), (a5, .inl (cI, 32, .inl w5_1)), (cn, .inr (0, [.ref b1, .ref b2, .int (nI k2_1), .int (nI t)])), (b1, .inl (cJ, 64, .inr (.inl q1_1))), (b2, .inl (cI, 64, .inl q2_1)), (ou, .inl (cJ, 1, .inr (.inl oz_1)))] := hD
    obtain ⟨er, rv, hp, ho⟩ := hw_1
    subst er
    refine lv_istore (lv' := [(5, .int 0), (0, .ref b), (1, .ref o), (2, .ref mo), (3, .ref ou), (4, .int (nI ix))]) hx hb dL_law_423 hl (by decide) rfl (fun ls hl => ?_)
    refine lv_aload_n hx hb dL_law_425 rfl (lv_at hl 3 rfl) ?_
    refine lv_aload_n hx hb dL_law_426 rfl (lv_at hl 1 rfl) ?_
    refine lv_iload hx hb dL_law_427 (lv_at hl 5 rfl) ?_
    refine lv_iconst (v := nI 1) hx hb dL_law_429 (by decide) ?_
    refine lv_iadd hx hb dL_law_430 ?_
    refine ck_toi (y := nI (ix + 1)) (nI_add _ _) ?_
    refine va_sld hx hb hX hbl hbA hS (vp_in_nI (show ix + 1 < L by omega) (by omega)) dL_law_431 ?_
    refine ck_toi (y := xs (ix + 1)) (by rw [nI_clamp (by omega)]) ?_
    refine lv_aload_n hx hb dL_law_432 rfl (lv_at hl 1 rfl) ?_
    refine lv_iload hx hb dL_law_433 (lv_at hl 5 rfl) ?_
    refine lv_iconst (v := nI 2) hx hb dL_law_435 (by decide) ?_
    refine lv_iadd hx hb dL_law_436 ?_
    refine ck_toi (y := nI (ix + 2)) (nI_add _ _) ?_
    refine va_sld hx hb hX hbl hbA hS (vp_in_nI (show ix + 2 < L by omega) (by omega)) dL_law_437 ?_
    refine ck_toi (y := xs (ix + 2)) (by rw [nI_clamp (by omega)]) ?_
    refine lv_aload_n hx hb dL_law_438 rfl (lv_at hl 1 rfl) ?_
    refine lv_iload hx hb dL_law_439 (lv_at hl 5 rfl) ?_
    refine lv_iconst (v := nI 3) hx hb dL_law_441 (by decide) ?_
    refine lv_iadd hx hb dL_law_442 ?_
    refine ck_toi (y := nI (ix + 3)) (nI_add _ _) ?_
    refine va_sld hx hb hX hbl hbA hS (vp_in_nI (show ix + 3 < L by omega) (by omega)) dL_law_443 ?_
    refine ck_toi (y := xs (ix + 3)) (by rw [nI_clamp (by omega)]) ?_
    refine lv_aload_n hx hb dL_law_444 rfl (lv_at hl 1 rfl) ?_
    refine lv_iload hx hb dL_law_445 (lv_at hl 5 rfl) ?_
    refine lv_iconst (v := nI 4) hx hb dL_law_447 (by decide) ?_
    refine lv_iadd hx hb dL_law_448 ?_
    refine ck_toi (y := nI (ix + 4)) (nI_add _ _) ?_
    refine va_sld hx hb hX hbl hbA hS (vp_in_nI (show ix + 4 < L by omega) (by omega)) dL_law_449 ?_
    refine ck_toi (y := xs (ix + 4)) (by rw [nI_clamp (by omega)]) ?_
    refine ck_ci (wr := [(o, .inr (3, [.ref sp, .ref h, .ref cn, .int zs, .int rq, .int ti, .int ct, .int gv, .int bh2_1, .int bc2_1, .int un2_1])), (sp, .inr (2, [.long k, .long l0, .long u0_1, .long u1_1, .long u2_1, .long u3_1])), (h, .inr (1, [.ref a1, .ref a2, .ref a3, .ref a4, .ref a5, .int (nI n2_1)])), (a1, .inl (cJ, 32, .inr (.inl w1_1))), (a2, .inl (cI, 32, .inl w2_1)), (a3, .inl (cI, 32, .inl w3_1)), (a4, .inl (cI, 32, .inl w4_1)), (a5, .inl (cI, 32, .inl w5_1)), (cn, .inr (0, [.ref b1, .ref b2, .int (nI k2_1), .int (nI t)])), (b1, .inl (cJ, 64, .inr (.inl q1_1))), (b2, .inl (cI, 64, .inl q2_1)), (ou, .inl (cJ, 1, .inr (.inl oz_1)))]) (va_runV (As := [.int (xs (ix + 1)), .int (xs (ix + 2)), .int (xs (ix + 3)), .int (xs (ix + 4))]) (rest := []) ⟨hx, hb, hml, hown, hts⟩ (c_X4_ack l dC dI cI cJ cZ lo _ mo th zs rq k l0 ti mct n d1 d2 d3 d4 d5 d6 kc e1 e2 e3 e4 e5 x0 x1 x2 x3 p1 p2 p3 p4 p5 p6 t1 t2 t3 t4 cs (xs (ix + 1)) (xs (ix + 2)) (xs (ix + 3)) (xs (ix + 4)) (by first | assumption | omega) (by first | assumption | omega) (by first | assumption | omega) (by first | assumption | omega) (by first | assumption | omega)) (cwV 4 hts gL_law_X4_ack rfl rfl rfl (by decide +kernel) ⟨(Nat.le_of_ble_eq_true rfl), (Nat.le_of_ble_eq_true rfl)⟩) ⟨ck_blind, va_recv hK hP (ci := 4) (q0 := 0) rfl rfl, (ck_pre hG hP hD hS [0, 1, 2, 3, 4, 5, 6, 7, 8, 9, 10, 11] rfl (by decide) _)⟩ rfl rfl hl.1 rfl (lv_room (Nat.le_of_ble_eq_true rfl)) dL_law_450 ⟨ck_le1 (by omega), ck_le2 (by omega)⟩) hP hD hS hA [0, 1, 2, 3, 4, 5, 6, 7, 8, 9, 10, 11] [12, 13, 14, 15, 16, 17, 18, 19, 20, 21, 22, 23] rfl rfl (by decide) (by decide) (fun r_2 u H locs hw_2 hP hD hS => ?_)
    obtain ⟨n2_2, k2_2, z1_2, z2_2, z3_2, z4_2, z5_2, z6_2, o1_2, o2_2, o3_2, o4_2, c2_2, u0_2, u1_2, u2_2, u3_2⟩ := u
    have hw_2 : ((∃ j, j < kc ∧ t1 j = (xs (ix + 1)) ∧ t2 j = (xs (ix + 2))) ∧ r_2 = 1 ∧ c2_2 = cs ∧ n2_2 = n ∧ z1_2 = p1 ∧ z2_2 = p2 ∧ z3_2 = p3 ∧ z4_2 = p4 ∧ z5_2 = p5 ∧ z6_2 = p6 ∧ k2_2 = kc ∧ o1_2 = t1 ∧ o2_2 = t2 ∧ o3_2 = t3 ∧ o4_2 = t4) ∨ ((∀ i, i < kc → ¬ (t1 i = (xs (ix + 1)) ∧ t2 i = (xs (ix + 2)))) ∧ ∃ j, j < n ∧ p1 j = (xs (ix + 1)) ∧ p2 j = (xs (ix + 2)) ∧ ((¬ (p3 j = (xs (ix + 3)) - 1 ∧ p4 j = (xs (ix + 4)) - 1) ∧ r_2 = 4 ∧ c2_2 = cs ∧ n2_2 = n ∧ z1_2 = p1 ∧ z2_2 = p2 ∧ z3_2 = p3 ∧ z4_2 = p4 ∧ z5_2 = p5 ∧ z6_2 = p6 ∧ k2_2 = kc ∧ o1_2 = t1 ∧ o2_2 = t2 ∧ o3_2 = t3 ∧ o4_2 = t4) ∨ ((p3 j = (xs (ix + 3)) - 1 ∧ p4 j = (xs (ix + 4)) - 1) ∧ ¬ (nI (ck_cnt kc t4) < rq ∧ kc < 64) ∧ r_2 = 3 ∧ c2_2 = cs ∧ n2_2 = n ∧ z1_2 = p1 ∧ z2_2 = p2 ∧ z3_2 = p3 ∧ z4_2 = p4 ∧ z5_2 = p5 ∧ z6_2 = p6 ∧ k2_2 = kc ∧ o1_2 = t1 ∧ o2_2 = t2 ∧ o3_2 = t3 ∧ o4_2 = t4) ∨ ((p3 j = (xs (ix + 3)) - 1 ∧ p4 j = (xs (ix + 4)) - 1) ∧ (nI (ck_cnt kc t4) < rq ∧ kc < 64) ∧ r_2 = 2 ∧ c2_2 = upd cs 1 (cs 1 + 1) ∧ n = n2_2 + 1 ∧ ck_gone n2_2 (ck_M p1 p2 p3 p4 p5 p6) (ck_M z1_2 z2_2 z3_2 z4_2 z5_2 z6_2) j ∧ (∀ i, i < n2_2 → ck_pok (z2_2 i)) ∧ k2_2 = kc + 1 ∧ o1_2 = upd t1 kc (xs (ix + 1)) ∧ o2_2 = upd t2 kc (xs (ix + 2)) ∧ o3_2 = upd t3 kc (p5 j) ∧ o4_2 = upd t4 kc 0))) ∨ ((∀ i, i < kc → ¬ (t1 i = (xs (ix + 1)) ∧ t2 i = (xs (ix + 2)))) ∧ (∀ i, i < n → ¬ (p1 i = (xs (ix + 1)) ∧ p2 i = (xs (ix + 2)))) ∧ n2_2 = n ∧ z1_2 = p1 ∧ z2_2 = p2 ∧ z3_2 = p3 ∧ z4_2 = p4 ∧ z5_2 = p5 ∧ z6_2 = p6 ∧ ((¬ ck_mly mct ti ∧ r_2 = 8 ∧ c2_2 = upd cs 3 (cs 3 + 1) ∧ k2_2 = kc ∧ o1_2 = t1 ∧ o2_2 = t2 ∧ o3_2 = t3 ∧ o4_2 = t4) ∨ (ck_mly mct ti ∧ ¬ ck_mlate k l0 (xs (ix + 1)) (xs (ix + 2)) ((xs (ix + 3)) - 1) (((((xs (ix + 4)) - 1).toUInt32 >>> ((24 : Int32).toUInt32 &&& Int32.toUInt32 31)).toInt32) &&& 7) ti ((xs (ix + 4)) - 1) ∧ r_2 = 7 ∧ c2_2 = upd cs 3 (cs 3 + 1) ∧ k2_2 = kc ∧ o1_2 = t1 ∧ o2_2 = t2 ∧ o3_2 = t3 ∧ o4_2 = t4) ∨ (ck_mly mct ti ∧ ck_mlate k l0 (xs (ix + 1)) (xs (ix + 2)) ((xs (ix + 3)) - 1) (((((xs (ix + 4)) - 1).toUInt32 >>> ((24 : Int32).toUInt32 &&& Int32.toUInt32 31)).toInt32) &&& 7) ti ((xs (ix + 4)) - 1) ∧ ¬ (nI (ck_cnt kc t4) < rq ∧ kc < 64) ∧ r_2 = 6 ∧ c2_2 = cs ∧ k2_2 = kc ∧ o1_2 = t1 ∧ o2_2 = t2 ∧ o3_2 = t3 ∧ o4_2 = t4) ∨ (ck_mly mct ti ∧ ck_mlate k l0 (xs (ix + 1)) (xs (ix + 2)) ((xs (ix + 3)) - 1) (((((xs (ix + 4)) - 1).toUInt32 >>> ((24 : Int32).toUInt32 &&& Int32.toUInt32 31)).toInt32) &&& 7) ti ((xs (ix + 4)) - 1) ∧ (nI (ck_cnt kc t4) < rq ∧ kc < 64) ∧ r_2 = 5 ∧ c2_2 = upd cs 2 (cs 2 + 1) ∧ k2_2 = kc + 1 ∧ o1_2 = upd t1 kc (xs (ix + 1)) ∧ o2_2 = upd t2 kc (xs (ix + 2)) ∧ o3_2 = upd t3 kc (((((xs (ix + 4)) - 1).toUInt32 >>> ((24 : Int32).toUInt32 &&& Int32.toUInt32 31)).toInt32) &&& 7) ∧ o4_2 = upd t4 kc 0))) := hw_2
    have hP : va_P (dC, dI) vwCl [(o, .inr (3, [.ref sp, .ref h, .ref cn, .int zs, .int rq, .int ti, .int ct, .int gv, .int bh2_1, .int bc2_1, .int un2_1])), (sp, .inr (2, [.long k, .long l0, .long u0_1, .long u1_1, .long u2_1, .long u3_1])), (h, .inr (1, [.ref a1, .ref a2, .ref a3, .ref a4, .ref a5, .int (nI n2_1)])), (a1, .inl (cJ, 32, .inr (.inl w1_1))), (a2, .inl (cI, 32, .inl w2_1)), (a3, .inl (cI, 32, .inl w3_1)), (a4, .inl (cI, 32, .inl w4_1)), (a5, .inl (cI, 32, .inl w5_1)), (cn, .inr (0, [.ref b1, .ref b2, .int (nI k2_1), .int (nI t)])), (b1, .inl (cJ, 64, .inr (.inl q1_1))), (b2, .inl (cI, 64, .inl q2_1)), (ou, .inl (cJ, 1, .inr (.inl oz_1))), (mo, .inr (4, [.int 0, .int zs, .int rq, .long k, .long l0, .int ti, .int mct, .int (nI n2_2), .ref d1, .ref d2, .ref d3, .ref d4, .ref d5, .ref d6, .int (nI k2_2), .ref e1, .ref e2, .ref e3, .ref e4, .ref e5, .long u0_2, .long u1_2, .long u2_2, .long u3_2])), (d1, .inl (cI, 32, .inl z1_2)), (d2, .inl (cI, 32, .inl z2_2)), (d3, .inl (cI, 32, .inl z3_2)), (d4, .inl (cI, 32, .inl z4_2)), (d5, .inl (cI, 32, .inl z5_2)), (d6, .inl (cI, 32, .inl z6_2)), (e1, .inl (cI, 64, .inl o1_2)), (e2, .inl (cI, 64, .inl o2_2)), (e3, .inl (cI, 64, .inl o3_2)), (e4, .inl (cZ, 64, .inl o4_2)), (e5, .inl (cI, 4, .inl c2_2))] H := hP
    have hD : va_D A [(o, .inr (3, [.ref sp, .ref h, .ref cn, .int zs, .int rq, .int ti, .int ct, .int gv, .int bh2_1, .int bc2_1, .int un2_1])), (sp, .inr (2, [.long k, .long l0, .long u0_1, .long u1_1, .long u2_1, .long u3_1])), (h, .inr (1, [.ref a1, .ref a2, .ref a3, .ref a4, .ref a5, .int (nI n2_1)])), (a1, .inl (cJ, 32, .inr (.inl w1_1))), (a2, .inl (cI, 32, .inl w2_1)), (a3, .inl (cI, 32, .inl w3_1)), (a4, .inl (cI, 32, .inl w4_1)), (a5, .inl (cI, 32, .inl w5_1)), (cn, .inr (0, [.ref b1, .ref b2, .int (nI k2_1), .int (nI t)])), (b1, .inl (cJ, 64, .inr (.inl q1_1))), (b2, .inl (cI, 64, .inl q2_1)), (ou, .inl (cJ, 1, .inr (.inl oz_1))), (mo, .inr (4, [.int 0, .int zs, .int rq, .long k, .long l0, .int ti, .int mct, .int (nI n2_2), .ref d1, .ref d2, .ref d3, .ref d4, .ref d5, .ref d6, .int (nI k2_2), .ref e1, .ref e2, .ref e3, .ref e4, .ref e5, .long u0_2, .long u1_2, .long u2_2, .long u3_2])), (d1, .inl (cI, 32, .inl z1_2)), (d2, .inl (cI, 32, .inl z2_2)), (d3, .inl (cI, 32, .inl z3_2)), (d4, .inl (cI, 32, .inl z4_2)), (d5, .inl (cI, 32, .inl z5_2)), (d6, .inl (cI, 32, .inl z6_2)), (e1, .inl (cI, 64, .inl o1_2)), (e2, .inl (cI, 64, .inl o2_2)), (e3, .inl (cI, 64, .inl o3_2)), (e4, .inl (cZ, 64, .inl o4_2)), (e5, .inl (cI, 4, .inl c2_2))] := hD
    obtain ⟨es, en, ek, hI2⟩ := ck_s_ack hI hJ hb1 hb2 hp hw_2
    subst en
    subst ek
    refine lv_istore (lv' := [(6, .int r_2), (5, .int 0), (0, .ref b), (1, .ref o), (2, .ref mo), (3, .ref ou), (4, .int (nI ix))]) hx hb dL_law_453 hl (by decide) rfl (fun ls hl => ?_)
    refine lv_aload_n hx hb dL_law_455 rfl (lv_at hl 4 rfl) ?_
    refine ck_ri (va_runV (As := []) (rest := []) ⟨hx, hb, hml, hown, hts⟩ (c_X4_thrown l dC dI cI cJ cZ lo _ mo 0 zs rq k l0 ti mct n2_1 d1 d2 d3 d4 d5 d6 k2_1 e1 e2 e3 e4 e5 u0_2 u1_2 u2_2 u3_2) (cwV 0 hts gL_law_X4_thrown rfl rfl rfl (by decide +kernel) ⟨(Nat.le_of_ble_eq_true rfl), (Nat.le_of_ble_eq_true rfl)⟩) ⟨ck_blind, va_recv hK hP (ci := 4) (q0 := 12) rfl rfl, (ck_pre hG hP hD hS [12] rfl (by decide) _)⟩ rfl rfl hl.1 rfl (lv_room (Nat.le_of_ble_eq_true rfl)) dL_law_456 ⟨ck_le1 (by omega), ck_le2 (by omega)⟩) (fun r_3 hw_3 => ?_)
    have hw_3 : r_3 = 0 := hw_3
    subst hw_3
    refine lv_iload hx hb dL_law_459 (lv_at hl 1 rfl) ?_
    refine lv_icmp_eq (tgt := 466) hx hb dL_law_461 (by decide) (fun c_461 => ?_) (fun c_461 => ?_)
    · skip
      refine lv_iload hx hb dL_law_466 (lv_at hl 1 rfl) ?_
      refine lv_if_ne (tgt := 483) hx hb dL_law_468 (by decide) (fun c_468 => ?_) (fun c_468 => ?_)
      · skip
        exact absurd c_468 (by decide)
      · skip
        refine lv_aload_n hx hb dL_law_471 rfl (lv_at hl 5 rfl) ?_
        refine lv_iconst (v := nI 0) hx hb dL_law_472 (by decide) ?_
        refine ck_lald hx hb hK hP 11 1 rfl rfl (by omega) (by decide) dL_law_473 ?_
        refine lv_iload hx hb dL_law_474 (lv_at hl 0 rfl) ?_
        refine lv_i2l hx hb dL_law_476 rfl ?_
        refine W.lcmp hx hb dL_law_477 ?_
        refine lv_if_eq (tgt := 483) hx hb dL_law_478 (by decide) (fun c_478 => ?_) (fun c_478 => ?_)
        · skip
          refine lv_goto (tgt := 896) hx hb dL_law_483 (by decide) ?_
          refine W.widen (k := cells + 1) (n := slots + 6) (by omega) (by omega) ?_
          exact hc zs rq ti ct gv bh2_1 bc2_1 un2_1 k l0 u0_1 u1_1 u2_1 u3_1 n2_1 w1_1 w2_1 w3_1 w4_1 w5_1 k2_1 t q1_1 q2_1 0 mct u0_2 u1_2 u2_2 u3_2 z1_2 z2_2 z3_2 z4_2 z5_2 z6_2 o1_2 o2_2 o3_2 o4_2 c2_2 oz_1 (hI2) _ _ _ (hP.sub [0, 1, 2, 3, 4, 5, 6, 7, 8, 9, 10, 12, 13, 14, 15, 16, 17, 18, 19, 20, 21, 22, 23, 11] rfl) (hD.sub [0, 1, 2, 3, 4, 5, 6, 7, 8, 9, 10, 12, 13, 14, 15, 16, 17, 18, 19, 20, 21, 22, 23, 11] (by decide) rfl) hS (lv_sub hl [2, 3, 4, 5, 6] rfl)
        · skip
          exact absurd (by rw [ho, es]; exact ck_cmp0 _) c_478
    · skip
      exact absurd rfl c_461
  · skip
    refine lv_aload_n hx hb dL_law_394 rfl (lv_at hl 1 rfl) ?_
    refine lv_aload_n hx hb dL_law_395 rfl (lv_at hl 0 rfl) ?_
    refine lv_iload hx hb dL_law_396 (lv_at hl 4 rfl) ?_
    refine lv_iconst (v := nI 1) hx hb dL_law_398 (by decide) ?_
    refine lv_iadd hx hb dL_law_399 ?_
    refine ck_toi (y := nI (ix + 1)) (nI_add _ _) ?_
    refine va_sld hx hb hX hbl hbA hS (vp_in_nI (show ix + 1 < L by omega) (by omega)) dL_law_400 ?_
    refine ck_toi (y := xs (ix + 1)) (by rw [nI_clamp (by omega)]) ?_
    refine lv_aload_n hx hb dL_law_401 rfl (lv_at hl 0 rfl) ?_
    refine lv_iload hx hb dL_law_402 (lv_at hl 4 rfl) ?_
    refine lv_iconst (v := nI 2) hx hb dL_law_404 (by decide) ?_
    refine lv_iadd hx hb dL_law_405 ?_
    refine ck_toi (y := nI (ix + 2)) (nI_add _ _) ?_
    refine va_sld hx hb hX hbl hbA hS (vp_in_nI (show ix + 2 < L by omega) (by omega)) dL_law_406 ?_
    refine ck_toi (y := xs (ix + 2)) (by rw [nI_clamp (by omega)]) ?_
    refine lv_aload_n hx hb dL_law_407 rfl (lv_at hl 0 rfl) ?_
    refine lv_iload hx hb dL_law_408 (lv_at hl 4 rfl) ?_
    refine lv_iconst (v := nI 3) hx hb dL_law_410 (by decide) ?_
    refine lv_iadd hx hb dL_law_411 ?_
    refine ck_toi (y := nI (ix + 3)) (nI_add _ _) ?_
    refine va_sld hx hb hX hbl hbA hS (vp_in_nI (show ix + 3 < L by omega) (by omega)) dL_law_412 ?_
    refine ck_toi (y := xs (ix + 3)) (by rw [nI_clamp (by omega)]) ?_
    refine lv_aload_n hx hb dL_law_413 rfl (lv_at hl 0 rfl) ?_
    refine lv_iload hx hb dL_law_414 (lv_at hl 4 rfl) ?_
    refine lv_iconst (v := nI 4) hx hb dL_law_416 (by decide) ?_
    refine lv_iadd hx hb dL_law_417 ?_
    refine ck_toi (y := nI (ix + 4)) (nI_add _ _) ?_
    refine va_sld hx hb hX hbl hbA hS (vp_in_nI (show ix + 4 < L by omega) (by omega)) dL_law_418 ?_
    refine ck_toi (y := xs (ix + 4)) (by rw [nI_clamp (by omega)]) ?_
    refine lv_aload_n hx hb dL_law_419 rfl (lv_at hl 3 rfl) ?_
    refine ck_ci (wr := [(sp, .inr (2, [.long k, .long l0, .long v0, .long v1, .long v2, .long v3])), (h, .inr (1, [.ref a1, .ref a2, .ref a3, .ref a4, .ref a5, .int (nI n)])), (a1, .inl (cJ, 32, .inr (.inl f1))), (a2, .inl (cI, 32, .inl f2)), (a3, .inl (cI, 32, .inl f3)), (a4, .inl (cI, 32, .inl f4)), (a5, .inl (cI, 32, .inl f5)), (cn, .inr (0, [.ref b1, .ref b2, .int (nI kc), .int (nI t)])), (b1, .inl (cJ, 64, .inr (.inl g1))), (b2, .inl (cI, 64, .inl g2)), (mo, .inr (4, [.int th, .int zs, .int rq, .long k, .long l0, .int ti, .int mct, .int (nI n), .ref d1, .ref d2, .ref d3, .ref d4, .ref d5, .ref d6, .int (nI kc), .ref e1, .ref e2, .ref e3, .ref e4, .ref e5, .long x0, .long x1, .long x2, .long x3])), (d1, .inl (cI, 32, .inl p1)), (d2, .inl (cI, 32, .inl p2)), (d3, .inl (cI, 32, .inl p3)), (d4, .inl (cI, 32, .inl p4)), (d5, .inl (cI, 32, .inl p5)), (d6, .inl (cI, 32, .inl p6)), (e1, .inl (cI, 64, .inl t1)), (e2, .inl (cI, 64, .inl t2)), (e3, .inl (cI, 64, .inl t3)), (e4, .inl (cZ, 64, .inl t4)), (e5, .inl (cI, 4, .inl cs)), (ou, .inl (cJ, 1, .inr (.inl ov)))]) (vx_runSW (As := [.ref o, .int (xs (ix + 1)), .int (xs (ix + 2)), .int (xs (ix + 3)), .int (xs (ix + 4)), .ref ou]) (rest := []) ⟨hx, hb, hml, hown, hts⟩ (b_L_ack l dC dI cI cJ cZ lo _ o sp h cn zs rq ti ct gv bh bc un (xs (ix + 1)) (xs (ix + 2)) (xs (ix + 3)) (xs (ix + 4)) ou (by first | assumption | omega) (by first | assumption | omega)) (vx_cwSW 6 hts gL_law_L_ack rfl rfl rfl (by decide +kernel) ⟨(Nat.le_of_ble_eq_true rfl), (Nat.le_of_ble_eq_true rfl)⟩) ⟨ck_blind, (ck_pre hG hP hD hS [0] rfl (by decide) _)⟩ rfl rfl hl.1 rfl (lv_room (Nat.le_of_ble_eq_true rfl)) dL_law_420 ⟨ck_le1 (by omega), ck_le2 (by omega)⟩) hP hD hS hA [0] [1, 2, 3, 4, 5, 6, 7, 8, 9, 10, 11, 12, 13, 14, 15, 16, 17, 18, 19, 20, 21, 22, 23] rfl rfl (by decide) (by decide) (fun r_4 u H locs hw_4 hP hD hS => ?_)
    have hw_4 : r_4 = 1 := hw_4
    have hP : va_P (dC, dI) vwCl [(sp, .inr (2, [.long k, .long l0, .long v0, .long v1, .long v2, .long v3])), (h, .inr (1, [.ref a1, .ref a2, .ref a3, .ref a4, .ref a5, .int (nI n)])), (a1, .inl (cJ, 32, .inr (.inl f1))), (a2, .inl (cI, 32, .inl f2)), (a3, .inl (cI, 32, .inl f3)), (a4, .inl (cI, 32, .inl f4)), (a5, .inl (cI, 32, .inl f5)), (cn, .inr (0, [.ref b1, .ref b2, .int (nI kc), .int (nI t)])), (b1, .inl (cJ, 64, .inr (.inl g1))), (b2, .inl (cI, 64, .inl g2)), (mo, .inr (4, [.int th, .int zs, .int rq, .long k, .long l0, .int ti, .int mct, .int (nI n), .ref d1, .ref d2, .ref d3, .ref d4, .ref d5, .ref d6, .int (nI kc), .ref e1, .ref e2, .ref e3, .ref e4, .ref e5, .long x0, .long x1, .long x2, .long x3])), (d1, .inl (cI, 32, .inl p1)), (d2, .inl (cI, 32, .inl p2)), (d3, .inl (cI, 32, .inl p3)), (d4, .inl (cI, 32, .inl p4)), (d5, .inl (cI, 32, .inl p5)), (d6, .inl (cI, 32, .inl p6)), (e1, .inl (cI, 64, .inl t1)), (e2, .inl (cI, 64, .inl t2)), (e3, .inl (cI, 64, .inl t3)), (e4, .inl (cZ, 64, .inl t4)), (e5, .inl (cI, 4, .inl cs)), (ou, .inl (cJ, 1, .inr (.inl ov))), (o, .inr (3, [.ref sp, .ref h, .ref cn, .int zs, .int rq, .int ti, .int ct, .int gv, .int bh, .int bc, .int un]))] H := hP
    have hD : va_D A [(sp, .inr (2, [.long k, .long l0, .long v0, .long v1, .long v2, .long v3])), (h, .inr (1, [.ref a1, .ref a2, .ref a3, .ref a4, .ref a5, .int (nI n)])), (a1, .inl (cJ, 32, .inr (.inl f1))), (a2, .inl (cI, 32, .inl f2)), (a3, .inl (cI, 32, .inl f3)), (a4, .inl (cI, 32, .inl f4)), (a5, .inl (cI, 32, .inl f5)), (cn, .inr (0, [.ref b1, .ref b2, .int (nI kc), .int (nI t)])), (b1, .inl (cJ, 64, .inr (.inl g1))), (b2, .inl (cI, 64, .inl g2)), (mo, .inr (4, [.int th, .int zs, .int rq, .long k, .long l0, .int ti, .int mct, .int (nI n), .ref d1, .ref d2, .ref d3, .ref d4, .ref d5, .ref d6, .int (nI kc), .ref e1, .ref e2, .ref e3, .ref e4, .ref e5, .long x0, .long x1, .long x2, .long x3])), (d1, .inl (cI, 32, .inl p1)), (d2, .inl (cI, 32, .inl p2)), (d3, .inl (cI, 32, .inl p3)), (d4, .inl (cI, 32, .inl p4)), (d5, .inl (cI, 32, .inl p5)), (d6, .inl (cI, 32, .inl p6)), (e1, .inl (cI, 64, .inl t1)), (e2, .inl (cI, 64, .inl t2)), (e3, .inl (cI, 64, .inl t3)), (e4, .inl (cZ, 64, .inl t4)), (e5, .inl (cI, 4, .inl cs)), (ou, .inl (cJ, 1, .inr (.inl ov))), (o, .inr (3, [.ref sp, .ref h, .ref cn, .int zs, .int rq, .int ti, .int ct, .int gv, .int bh, .int bc, .int un]))] := hD
    subst hw_4
    refine lv_istore (lv' := [(5, .int 1), (0, .ref b), (1, .ref o), (2, .ref mo), (3, .ref ou), (4, .int (nI ix))]) hx hb dL_law_423 hl (by decide) rfl (fun ls hl => ?_)
    refine lv_aload_n hx hb dL_law_425 rfl (lv_at hl 3 rfl) ?_
    refine lv_aload_n hx hb dL_law_426 rfl (lv_at hl 1 rfl) ?_
    refine lv_iload hx hb dL_law_427 (lv_at hl 5 rfl) ?_
    refine lv_iconst (v := nI 1) hx hb dL_law_429 (by decide) ?_
    refine lv_iadd hx hb dL_law_430 ?_
    refine ck_toi (y := nI (ix + 1)) (nI_add _ _) ?_
    refine va_sld hx hb hX hbl hbA hS (vp_in_nI (show ix + 1 < L by omega) (by omega)) dL_law_431 ?_
    refine ck_toi (y := xs (ix + 1)) (by rw [nI_clamp (by omega)]) ?_
    refine lv_aload_n hx hb dL_law_432 rfl (lv_at hl 1 rfl) ?_
    refine lv_iload hx hb dL_law_433 (lv_at hl 5 rfl) ?_
    refine lv_iconst (v := nI 2) hx hb dL_law_435 (by decide) ?_
    refine lv_iadd hx hb dL_law_436 ?_
    refine ck_toi (y := nI (ix + 2)) (nI_add _ _) ?_
    refine va_sld hx hb hX hbl hbA hS (vp_in_nI (show ix + 2 < L by omega) (by omega)) dL_law_437 ?_
    refine ck_toi (y := xs (ix + 2)) (by rw [nI_clamp (by omega)]) ?_
    refine lv_aload_n hx hb dL_law_438 rfl (lv_at hl 1 rfl) ?_
    refine lv_iload hx hb dL_law_439 (lv_at hl 5 rfl) ?_
    refine lv_iconst (v := nI 3) hx hb dL_law_441 (by decide) ?_
    refine lv_iadd hx hb dL_law_442 ?_
    refine ck_toi (y := nI (ix + 3)) (nI_add _ _) ?_
    refine va_sld hx hb hX hbl hbA hS (vp_in_nI (show ix + 3 < L by omega) (by omega)) dL_law_443 ?_
    refine ck_toi (y := xs (ix + 3)) (by rw [nI_clamp (by omega)]) ?_
    refine lv_aload_n hx hb dL_law_444 rfl (lv_at hl 1 rfl) ?_
    refine lv_iload hx hb dL_law_445 (lv_at hl 5 rfl) ?_
    refine lv_iconst (v := nI 4) hx hb dL_law_447 (by decide) ?_
    refine lv_iadd hx hb dL_law_448 ?_
    refine ck_toi (y := nI (ix + 4)) (nI_add _ _) ?_
    refine va_sld hx hb hX hbl hbA hS (vp_in_nI (show ix + 4 < L by omega) (by omega)) dL_law_449 ?_
    refine ck_toi (y := xs (ix + 4)) (by rw [nI_clamp (by omega)]) ?_
    refine ck_ci (wr := [(sp, .inr (2, [.long k, .long l0, .long v0, .long v1, .long v2, .long v3])), (h, .inr (1, [.ref a1, .ref a2, .ref a3, .ref a4, .ref a5, .int (nI n)])), (a1, .inl (cJ, 32, .inr (.inl f1))), (a2, .inl (cI, 32, .inl f2)), (a3, .inl (cI, 32, .inl f3)), (a4, .inl (cI, 32, .inl f4)), (a5, .inl (cI, 32, .inl f5)), (cn, .inr (0, [.ref b1, .ref b2, .int (nI kc), .int (nI t)])), (b1, .inl (cJ, 64, .inr (.inl g1))), (b2, .inl (cI, 64, .inl g2)), (d1, .inl (cI, 32, .inl p1)), (d2, .inl (cI, 32, .inl p2)), (d3, .inl (cI, 32, .inl p3)), (d4, .inl (cI, 32, .inl p4)), (d5, .inl (cI, 32, .inl p5)), (d6, .inl (cI, 32, .inl p6)), (e1, .inl (cI, 64, .inl t1)), (e2, .inl (cI, 64, .inl t2)), (e3, .inl (cI, 64, .inl t3)), (e4, .inl (cZ, 64, .inl t4)), (e5, .inl (cI, 4, .inl cs)), (ou, .inl (cJ, 1, .inr (.inl ov))), (o, .inr (3, [.ref sp, .ref h, .ref cn, .int zs, .int rq, .int ti, .int ct, .int gv, .int bh, .int bc, .int un]))]) (va_runV (As := [.int (xs (ix + 1)), .int (xs (ix + 2)), .int (xs (ix + 3)), .int (xs (ix + 4))]) (rest := []) ⟨hx, hb, hml, hown, hts⟩ (b_X4_ack l dC dI cI cJ cZ lo _ mo th zs rq k l0 ti mct n d1 d2 d3 d4 d5 d6 kc e1 e2 e3 e4 e5 x0 x1 x2 x3 (xs (ix + 1)) (xs (ix + 2)) (xs (ix + 3)) (xs (ix + 4)) (by first | assumption | omega)) (cwV 4 hts gL_law_X4_ack rfl rfl rfl (by decide +kernel) ⟨(Nat.le_of_ble_eq_true rfl), (Nat.le_of_ble_eq_true rfl)⟩) ⟨ck_blind, va_recv hK hP (ci := 4) (q0 := 10) rfl rfl, (ck_pre hG hP hD hS [10] rfl (by decide) _)⟩ rfl rfl hl.1 rfl (lv_room (Nat.le_of_ble_eq_true rfl)) dL_law_450 ⟨ck_le1 (by omega), ck_le2 (by omega)⟩) hP hD hS hA [10] [0, 1, 2, 3, 4, 5, 6, 7, 8, 9, 11, 12, 13, 14, 15, 16, 17, 18, 19, 20, 21, 22, 23] rfl rfl (by decide) (by decide) (fun r_5 u H locs hw_5 hP hD hS => ?_)
    have hP : va_P (dC, dI) vwCl [(sp, .inr (2, [.long k, .long l0, .long v0, .long v1, .long v2, .long v3])), (h, .inr (1, [.ref a1, .ref a2, .ref a3, .ref a4, .ref a5, .int (nI n)])), (a1, .inl (cJ, 32, .inr (.inl f1))), (a2, .inl (cI, 32, .inl f2)), (a3, .inl (cI, 32, .inl f3)), (a4, .inl (cI, 32, .inl f4)), (a5, .inl (cI, 32, .inl f5)), (cn, .inr (0, [.ref b1, .ref b2, .int (nI kc), .int (nI t)])), (b1, .inl (cJ, 64, .inr (.inl g1))), (b2, .inl (cI, 64, .inl g2)), (d1, .inl (cI, 32, .inl p1)), (d2, .inl (cI, 32, .inl p2)), (d3, .inl (cI, 32, .inl p3)), (d4, .inl (cI, 32, .inl p4)), (d5, .inl (cI, 32, .inl p5)), (d6, .inl (cI, 32, .inl p6)), (e1, .inl (cI, 64, .inl t1)), (e2, .inl (cI, 64, .inl t2)), (e3, .inl (cI, 64, .inl t3)), (e4, .inl (cZ, 64, .inl t4)), (e5, .inl (cI, 4, .inl cs)), (ou, .inl (cJ, 1, .inr (.inl ov))), (o, .inr (3, [.ref sp, .ref h, .ref cn, .int zs, .int rq, .int ti, .int ct, .int gv, .int bh, .int bc, .int un])), (mo, .inr (4, [.int 1, .int zs, .int rq, .long k, .long l0, .int ti, .int mct, .int (nI n), .ref d1, .ref d2, .ref d3, .ref d4, .ref d5, .ref d6, .int (nI kc), .ref e1, .ref e2, .ref e3, .ref e4, .ref e5, .long x0, .long x1, .long x2, .long x3]))] H := hP
    have hD : va_D A [(sp, .inr (2, [.long k, .long l0, .long v0, .long v1, .long v2, .long v3])), (h, .inr (1, [.ref a1, .ref a2, .ref a3, .ref a4, .ref a5, .int (nI n)])), (a1, .inl (cJ, 32, .inr (.inl f1))), (a2, .inl (cI, 32, .inl f2)), (a3, .inl (cI, 32, .inl f3)), (a4, .inl (cI, 32, .inl f4)), (a5, .inl (cI, 32, .inl f5)), (cn, .inr (0, [.ref b1, .ref b2, .int (nI kc), .int (nI t)])), (b1, .inl (cJ, 64, .inr (.inl g1))), (b2, .inl (cI, 64, .inl g2)), (d1, .inl (cI, 32, .inl p1)), (d2, .inl (cI, 32, .inl p2)), (d3, .inl (cI, 32, .inl p3)), (d4, .inl (cI, 32, .inl p4)), (d5, .inl (cI, 32, .inl p5)), (d6, .inl (cI, 32, .inl p6)), (e1, .inl (cI, 64, .inl t1)), (e2, .inl (cI, 64, .inl t2)), (e3, .inl (cI, 64, .inl t3)), (e4, .inl (cZ, 64, .inl t4)), (e5, .inl (cI, 4, .inl cs)), (ou, .inl (cJ, 1, .inr (.inl ov))), (o, .inr (3, [.ref sp, .ref h, .ref cn, .int zs, .int rq, .int ti, .int ct, .int gv, .int bh, .int bc, .int un])), (mo, .inr (4, [.int 1, .int zs, .int rq, .long k, .long l0, .int ti, .int mct, .int (nI n), .ref d1, .ref d2, .ref d3, .ref d4, .ref d5, .ref d6, .int (nI kc), .ref e1, .ref e2, .ref e3, .ref e4, .ref e5, .long x0, .long x1, .long x2, .long x3]))] := hD
    refine lv_istore (lv' := [(6, .int r_5), (5, .int 1), (0, .ref b), (1, .ref o), (2, .ref mo), (3, .ref ou), (4, .int (nI ix))]) hx hb dL_law_453 hl (by decide) rfl (fun ls hl => ?_)
    refine lv_aload_n hx hb dL_law_455 rfl (lv_at hl 4 rfl) ?_
    refine ck_ri (va_runV (As := []) (rest := []) ⟨hx, hb, hml, hown, hts⟩ (c_X4_thrown l dC dI cI cJ cZ lo _ mo 1 zs rq k l0 ti mct n d1 d2 d3 d4 d5 d6 kc e1 e2 e3 e4 e5 x0 x1 x2 x3) (cwV 0 hts gL_law_X4_thrown rfl rfl rfl (by decide +kernel) ⟨(Nat.le_of_ble_eq_true rfl), (Nat.le_of_ble_eq_true rfl)⟩) ⟨ck_blind, va_recv hK hP (ci := 4) (q0 := 23) rfl rfl, (ck_pre hG hP hD hS [23] rfl (by decide) _)⟩ rfl rfl hl.1 rfl (lv_room (Nat.le_of_ble_eq_true rfl)) dL_law_456 ⟨ck_le1 (by omega), ck_le2 (by omega)⟩) (fun r_6 hw_6 => ?_)
    have hw_6 : r_6 = 1 := hw_6
    subst hw_6
    refine lv_iload hx hb dL_law_459 (lv_at hl 1 rfl) ?_
    refine lv_icmp_eq (tgt := 466) hx hb dL_law_461 (by decide) (fun c_461 => ?_) (fun c_461 => ?_)
    · skip
      refine lv_iload hx hb dL_law_466 (lv_at hl 1 rfl) ?_
      refine lv_if_ne (tgt := 483) hx hb dL_law_468 (by decide) (fun c_468 => ?_) (fun c_468 => ?_)
      · skip
        refine lv_goto (tgt := 896) hx hb dL_law_483 (by decide) ?_
        refine W.widen (k := cells + 1) (n := slots + 6) (by omega) (by omega) ?_
        exact hc zs rq ti ct gv bh bc un k l0 v0 v1 v2 v3 n f1 f2 f3 f4 f5 kc t g1 g2 1 mct x0 x1 x2 x3 p1 p2 p3 p4 p5 p6 t1 t2 t3 t4 cs ov (hI.up) _ _ _ (hP.sub [22, 0, 1, 2, 3, 4, 5, 6, 7, 8, 9, 23, 10, 11, 12, 13, 14, 15, 16, 17, 18, 19, 20, 21] rfl) (hD.sub [22, 0, 1, 2, 3, 4, 5, 6, 7, 8, 9, 23, 10, 11, 12, 13, 14, 15, 16, 17, 18, 19, 20, 21] (by decide) rfl) hS (lv_sub hl [2, 3, 4, 5, 6] rfl)
      · skip
        exact absurd c_468 (by decide)
    · skip
      exact absurd rfl c_461
