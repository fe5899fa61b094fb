set_option maxHeartbeats 8000000 in
set_option maxRecDepth 100000 in
theorem ck_case8 (p : Program) (l : Launch) (e : Env) (s : State) (m : MethodId) (below : List Frame) (meth : Method) (c : Code) (b L : Nat) (xs : Nat → Int32) (A : Nat → Prop) (dC : Nat → ClassId) (dI : Nat → Nat → Nat) (cI cJ cZ : ClassId) (lo : Nat) (o sp h cn a1 a2 a3 a4 a5 b1 b2 mo d1 d2 d3 d4 d5 d6 e1 e2 e3 e4 e5 ou : Nat) (ix J cells slots : Nat) (C0 : ck_C p l s m meth c b L xs A dC dI cI cJ cZ lo) (hi : ix + 6 ≤ L) (hJ : J < 512) (hcl : cells + 1 ≤ 1050) (hsl : slots + 6 ≤ 8996) (hc : ck_At p l e s m below meth c b A dC dI cI cJ cZ o sp h cn a1 a2 a3 a4 a5 b1 b2 mo d1 d2 d3 d4 d5 d6 e1 e2 e3 e4 e5 ou 896 ix (J + 1) (cells + 1) (slots + 6)) : ck_At p l e s m below meth c b A dC dI cI cJ cZ o sp h cn a1 a2 a3 a4 a5 b1 b2 mo d1 d2 d3 d4 d5 d6 e1 e2 e3 e4 e5 ou 635 ix J cells slots := by
  obtain ⟨⟨hx, hb, hr, hml, hown, hts, hX, hbl, hlocks, hgv⟩, hG, hAf, hst, hL⟩ := C0
  have hown : s.vm.findClass RL = some m.cls := hown
  have hts : ∀ w ∈ wsL_law, w.before #[Value.ref b] s = true := fun w h => hts w (wsL_law_in w h)
  have hK := hG.1
  have hE := hG.2.1
  have hA := hG.2.2.1
  have hbA : ¬ A b := fun z => absurd (hAf b z) (Nat.not_le.mpr hbl)
  intro zs rq ti ct gv bh bc un k l0 v0 v1 v2 v3 n f1 f2 f3 f4 f5 kc t g1 g2 th mct x0 x1 x2 x3 p1 p2 p3 p4 p5 p6 t1 t2 t3 t4 cs ov hI H locs ls hP hD hS hl
  have hz := hI.1
  have hn := hI.2.2.1.1
  have hpo := hI.2.2.1.2.2.2
  have hk := hI.2.2.2.1.1
  have ht := hI.2.2.2.1.2.1
  have h01 : ∀ i, i < kc → t4 i = 0 ∨ t4 i = 1 := fun i hi => by
    rw [(hI.2.2.2.1.2.2.1 i hi).2.2.1]
    split
    · exact Or.inr rfl
    · exact Or.inl rfl
  by_cases hq : (0 ≤ xs (ix + 2) ∧ xs (ix + 2) ≤ 65535) ∧ (0 ≤ xs (ix + 4) ∧ xs (ix + 4) ≤ 7) ∧ 0 ≤ xs (ix + 5)
  · skip
    obtain ⟨⟨hb1, hb2⟩, ⟨hd1, hd2⟩, hs1⟩ := id hq
    have hs2 := ck_max (xs (ix + 5))
    refine lv_aload_n hx hb dL_law_635 rfl (lv_at hl 1 rfl) ?_
    refine lv_aload_n hx hb dL_law_636 rfl (lv_at hl 0 rfl) ?_
    refine lv_iload hx hb dL_law_637 (lv_at hl 4 rfl) ?_
    refine lv_iconst (v := nI 1) hx hb dL_law_639 (by decide) ?_
    refine lv_iadd hx hb dL_law_640 ?_
    refine ck_toi (y := nI (ix + 1)) (nI_add _ _) ?_
    refine va_sld hx hb hX hbl hbA hS (vp_in_nI (show ix + 1 < L by omega) (by omega)) dL_law_641 ?_
    refine ck_toi (y := xs (ix + 1)) (by rw [nI_clamp (by omega)]) ?_
    refine lv_aload_n hx hb dL_law_642 rfl (lv_at hl 0 rfl) ?_
    refine lv_iload hx hb dL_law_643 (lv_at hl 4 rfl) ?_
    refine lv_iconst (v := nI 2) hx hb dL_law_645 (by decide) ?_
    refine lv_iadd hx hb dL_law_646 ?_
    refine ck_toi (y := nI (ix + 2)) (nI_add _ _) ?_
    refine va_sld hx hb hX hbl hbA hS (vp_in_nI (show ix + 2 < L by omega) (by omega)) dL_law_647 ?_
    refine ck_toi (y := xs (ix + 2)) (by rw [nI_clamp (by omega)]) ?_
    refine lv_aload_n hx hb dL_law_648 rfl (lv_at hl 0 rfl) ?_
    refine lv_iload hx hb dL_law_649 (lv_at hl 4 rfl) ?_
    refine lv_iconst (v := nI 3) hx hb dL_law_651 (by decide) ?_
    refine lv_iadd hx hb dL_law_652 ?_
    refine ck_toi (y := nI (ix + 3)) (nI_add _ _) ?_
    refine va_sld hx hb hX hbl hbA hS (vp_in_nI (show ix + 3 < L by omega) (by omega)) dL_law_653 ?_
    refine ck_toi (y := xs (ix + 3)) (by rw [nI_clamp (by omega)]) ?_
    refine lv_aload_n hx hb dL_law_654 rfl (lv_at hl 0 rfl) ?_
    refine lv_iload hx hb dL_law_655 (lv_at hl 4 rfl) ?_
    refine lv_iconst (v := nI 4) hx hb dL_law_657 (by decide) ?_
    refine lv_iadd hx hb dL_law_658 ?_
    refine ck_toi (y := nI (ix + 4)) (nI_add _ _) ?_
    refine va_sld hx hb hX hbl hbA hS (vp_in_nI (show ix + 4 < L by omega) (by omega)) dL_law_659 ?_
    refine ck_toi (y := xs (ix + 4)) (by rw [nI_clamp (by omega)]) ?_
    refine lv_aload_n hx hb dL_law_660 rfl (lv_at hl 0 rfl) ?_
    refine lv_iload hx hb dL_law_661 (lv_at hl 4 rfl) ?_
    refine lv_iconst (v := nI 5) hx hb dL_law_663 (by decide) ?_
    refine lv_iadd hx hb dL_law_664 ?_
    refine ck_toi (y := nI (ix + 5)) (nI_add _ _) ?_
    refine va_sld hx hb hX hbl hbA hS (vp_in_nI (show ix + 5 < L by omega) (by omega)) dL_law_665 ?_
    refine ck_toi (y := xs (ix + 5)) (by rw [nI_clamp (by omega)]) ?_
    refine lv_aload_n hx hb dL_law_666 rfl (lv_at hl 3 rfl) ?_
    refine ck_ci (wr := [(h, .inr (1, [.ref a1, .ref a2, .ref a3, .ref a4, .ref a5, .int (nI n)])), (a1, .inl (cJ, 32, .inr (.inl f1))), (a2, .inl (cI, 32, .inl f2)), (a3, .inl (cI, 32, .inl f3)), (a4, .inl (cI, 32, .inl f4)), (a5, .inl (cI, 32, .inl f5)), (cn, .inr (0, [.ref b1, .ref b2, .int (nI kc), .int (nI t)])), (b1, .inl (cJ, 64, .inr (.inl g1))), (b2, .inl (cI, 64, .inl g2)), (mo, .inr (4, [.int th, .int zs, .int rq, .long k, .long l0, .int ti, .int mct, .int (nI n), .ref d1, .ref d2, .ref d3, .ref d4, .ref d5, .ref d6, .int (nI kc), .ref e1, .ref e2, .ref e3, .ref e4, .ref e5, .long x0, .long x1, .long x2, .long x3])), (d1, .inl (cI, 32, .inl p1)), (d2, .inl (cI, 32, .inl p2)), (d3, .inl (cI, 32, .inl p3)), (d4, .inl (cI, 32, .inl p4)), (d5, .inl (cI, 32, .inl p5)), (d6, .inl (cI, 32, .inl p6)), (e1, .inl (cI, 64, .inl t1)), (e2, .inl (cI, 64, .inl t2)), (e3, .inl (cI, 64, .inl t3)), (e4, .inl (cZ, 64, .inl t4)), (e5, .inl (cI, 4, .inl cs))]) (vx_runSW (As := [.ref o, .int (xs (ix + 1)), .int (xs (ix + 2)), .int (xs (ix + 3)), .int (xs (ix + 4)), .int (xs (ix + 5)), .ref ou]) (rest := []) ⟨hx, hb, hml, hown, hts⟩ (c_L_cookie l dC dI cI cJ cZ lo _ o sp h cn zs rq ti ct gv bh bc un k l0 v0 v1 v2 v3 (xs (ix + 1)) (xs (ix + 2)) (xs (ix + 3)) (xs (ix + 4)) (xs (ix + 5)) ou ov (by first | assumption | omega) (by first | assumption | omega) (by first | assumption | omega) (by first | assumption | omega) (by first | assumption | omega) (by first | assumption | omega)) (vx_cwSW 7 hts gL_law_L_cookie rfl rfl rfl (by decide +kernel) ⟨(Nat.le_of_ble_eq_true rfl), (Nat.le_of_ble_eq_true rfl)⟩) ⟨ck_blind, (ck_pre hG hP hD hS [0, 1, 23] rfl (by decide) _)⟩ rfl rfl hl.1 rfl (lv_room (Nat.le_of_ble_eq_true rfl)) dL_law_667 ⟨ck_le1 (by omega), ck_le2 (by omega)⟩) hP hD hS hA [0, 1, 23] [2, 3, 4, 5, 6, 7, 8, 9, 10, 11, 12, 13, 14, 15, 16, 17, 18, 19, 20, 21, 22] rfl rfl (by decide) (by decide) (fun r_1 u H locs hw_1 hP hD hS => ?_)
    obtain ⟨u0_1, u1_1, u2_1, u3_1, oz_1⟩ := u
    have hw_1 : r_1 = 0 ∧ ∃ rv : Int64, (rv = ck_wos (ck_ckk k l0 (ck_clr (xs (ix + 1)) (xs (ix + 2))) (xs (ix + 3)) (xs (ix + 4)) (xs (ix + 5)))) ∧ oz_1 0 = rv := hw_1
    have hP : va_P (dC, dI) vwCl [(h, .inr (1, [.ref a1, .ref a2, .ref a3, .ref a4, .ref a5, .int (nI n)])), (a1, .inl (cJ, 32, .inr (.inl f1))), (a2, .inl (cI, 32, .inl f2)), (a3, .inl (cI, 32, .inl f3)), (a4, .inl (cI, 32, .inl f4)), (a5, .inl (cI, 32, .inl f5)), (cn, .inr (0, [.ref b1, .ref b2, .int (nI kc), .int (nI t)])), (b1, .inl (cJ, 64, .inr (.inl g1))), (b2, .inl (cI, 64, .inl g2)), (mo, .inr (4, [.int th, .int zs, .int rq, .long k, .long l0, .int ti, .int mct, .int (nI n), .ref d1, .ref d2, .ref d3, .ref d4, .ref d5, .ref d6, .int (nI kc), .ref e1, .ref e2, .ref e3, .ref e4, .ref e5, .long x0, .long x1, .long x2, .long x3])), (d1, .inl (cI, 32, .inl p1)), (d2, .inl (cI, 32, .inl p2)), (d3, .inl (cI, 32, .inl p3)), (d4, .inl (cI, 32, .inl p4)), (d5, .inl (cI, 32, .inl p5)), (d6, .inl (cI, 32, .inl p6)), (e1, .inl (cI, 64, .inl t1)), (e2, .inl (cI, 64, .inl t2)), (e3, .inl (cI, 64, .inl t3)), (e4, .inl (cZ, 64, .inl t4)), (e5, .inl (cI, 4, .inl cs)), (o, .inr (3, [.ref sp, .ref h, .ref cn, .int zs, .int rq, .int ti, .int ct, .int gv, .int bh, .int bc, .int un])), (sp, .inr (2, [.long k, .long l0, .long u0_1, .long u1_1, .long u2_1, .long u3_1])), (ou, .inl (cJ, 1, .inr (.inl oz_1)))] H := hP
    have hD : va_D A [(h, .inr (1, [.ref a1, .ref a2, .ref a3, .ref a4, .ref a5, .int (nI n)])), (a1, .inl (cJ, 32, .inr (.inl f1))), (a2, .inl (cI, 32, .inl f2)), (a3, .inl (cI, 32, .inl f3)), (a4, .inl (cI, 32, .inl f4)), (a5, .inl (cI, 32, .inl f5)), (cn, .inr (0, [.ref b1, .ref b2, .int (nI kc), .int (nI t)])), (b1, .inl (cJ, 64, .inr (.inl g1))), (b2, .inl (cI, 64, .inl g2)), (mo, .inr (4, [.int th, .int zs, .int rq, .long k, .long l0, .int ti, .int mct, .int (nI n), .ref d1, .ref d2, .ref d3, .ref d4, .ref d5, .ref d6, .int (nI kc), .ref e1, .ref e2, .ref e3, .ref e4, .ref e5, .long x0, .long x1, .long x2, .long x3])), (d1, .inl (cI, 32, .inl p1)), (d2, .inl (cI, 32, .inl p2)), (d3, .inl (cI, 32, .inl p3)), (d4, .inl (cI, 32, .inl p4)), (d5, .inl (cI, 32, .inl p5)), (d6, .inl (cI, 32, .inl p6)), (e1, .inl (cI, 64, .inl t1)), (e2, .inl (cI, 64, .inl t2)), (e3, .inl (cI, 64, .inl t3)), (e4, .inl (cZ, 64, .inl t4)), (e5, .inl (cI, 4, .inl cs)), (o, .inr (3, [.ref sp, .ref h, .ref cn, .int zs, .int rq, .int ti, .int ct, .int gv, .int bh, .int bc, .int un])), (sp, .inr (2, [.long k, .long l0, .long u0_1, .long u1_1, .long u2_1, .long u3_1])), (ou, .inl (cJ, 1, .inr (.inl oz_1)))] := hD
    obtain ⟨er, rv, hp, ho⟩ := hw_1
    subst er
    refine lv_istore (lv' := [(5, .int 0), (0, .ref b), (1, .ref o), (2, .ref mo), (3, .ref ou), (4, .int (nI ix))]) hx hb dL_law_670 hl (by decide) rfl (fun ls hl => ?_)
    refine lv_aload_n hx hb dL_law_672 rfl (lv_at hl 3 rfl) ?_
    refine lv_aload_n hx hb dL_law_673 rfl (lv_at hl 1 rfl) ?_
    refine lv_iload hx hb dL_law_674 (lv_at hl 5 rfl) ?_
    refine lv_iconst (v := nI 1) hx hb dL_law_676 (by decide) ?_
    refine lv_iadd hx hb dL_law_677 ?_
    refine ck_toi (y := nI (ix + 1)) (nI_add _ _) ?_
    refine va_sld hx hb hX hbl hbA hS (vp_in_nI (show ix + 1 < L by omega) (by omega)) dL_law_678 ?_
    refine ck_toi (y := xs (ix + 1)) (by rw [nI_clamp (by omega)]) ?_
    refine lv_aload_n hx hb dL_law_679 rfl (lv_at hl 1 rfl) ?_
    refine lv_iload hx hb dL_law_680 (lv_at hl 5 rfl) ?_
    refine lv_iconst (v := nI 2) hx hb dL_law_682 (by decide) ?_
    refine lv_iadd hx hb dL_law_683 ?_
    refine ck_toi (y := nI (ix + 2)) (nI_add _ _) ?_
    refine va_sld hx hb hX hbl hbA hS (vp_in_nI (show ix + 2 < L by omega) (by omega)) dL_law_684 ?_
    refine ck_toi (y := xs (ix + 2)) (by rw [nI_clamp (by omega)]) ?_
    refine lv_aload_n hx hb dL_law_685 rfl (lv_at hl 1 rfl) ?_
    refine lv_iload hx hb dL_law_686 (lv_at hl 5 rfl) ?_
    refine lv_iconst (v := nI 3) hx hb dL_law_688 (by decide) ?_
    refine lv_iadd hx hb dL_law_689 ?_
    refine ck_toi (y := nI (ix + 3)) (nI_add _ _) ?_
    refine va_sld hx hb hX hbl hbA hS (vp_in_nI (show ix + 3 < L by omega) (by omega)) dL_law_690 ?_
    refine ck_toi (y := xs (ix + 3)) (by rw [nI_clamp (by omega)]) ?_
    refine lv_aload_n hx hb dL_law_691 rfl (lv_at hl 1 rfl) ?_
    refine lv_iload hx hb dL_law_692 (lv_at hl 5 rfl) ?_
    refine lv_iconst (v := nI 4) hx hb dL_law_694 (by decide) ?_
    refine lv_iadd hx hb dL_law_695 ?_
    refine ck_toi (y := nI (ix + 4)) (nI_add _ _) ?_
    refine va_sld hx hb hX hbl hbA hS (vp_in_nI (show ix + 4 < L by omega) (by omega)) dL_law_696 ?_
    refine ck_toi (y := xs (ix + 4)) (by rw [nI_clamp (by omega)]) ?_
    refine lv_aload_n hx hb dL_law_697 rfl (lv_at hl 1 rfl) ?_
    refine lv_iload hx hb dL_law_698 (lv_at hl 5 rfl) ?_
    refine lv_iconst (v := nI 5) hx hb dL_law_700 (by decide) ?_
    refine lv_iadd hx hb dL_law_701 ?_
    refine ck_toi (y := nI (ix + 5)) (nI_add _ _) ?_
    refine va_sld hx hb hX hbl hbA hS (vp_in_nI (show ix + 5 < L by omega) (by omega)) dL_law_702 ?_
    refine ck_toi (y := xs (ix + 5)) (by rw [nI_clamp (by omega)]) ?_
    refine ck_cl (wr := [(h, .inr (1, [.ref a1, .ref a2, .ref a3, .ref a4, .ref a5, .int (nI n)])), (a1, .inl (cJ, 32, .inr (.inl f1))), (a2, .inl (cI, 32, .inl f2)), (a3, .inl (cI, 32, .inl f3)), (a4, .inl (cI, 32, .inl f4)), (a5, .inl (cI, 32, .inl f5)), (cn, .inr (0, [.ref b1, .ref b2, .int (nI kc), .int (nI t)])), (b1, .inl (cJ, 64, .inr (.inl g1))), (b2, .inl (cI, 64, .inl g2)), (d1, .inl (cI, 32, .inl p1)), (d2, .inl (cI, 32, .inl p2)), (d3, .inl (cI, 32, .inl p3)), (d4, .inl (cI, 32, .inl p4)), (d5, .inl (cI, 32, .inl p5)), (d6, .inl (cI, 32, .inl p6)), (e1, .inl (cI, 64, .inl t1)), (e2, .inl (cI, 64, .inl t2)), (e3, .inl (cI, 64, .inl t3)), (e4, .inl (cZ, 64, .inl t4)), (e5, .inl (cI, 4, .inl cs)), (o, .inr (3, [.ref sp, .ref h, .ref cn, .int zs, .int rq, .int ti, .int ct, .int gv, .int bh, .int bc, .int un])), (sp, .inr (2, [.long k, .long l0, .long u0_1, .long u1_1, .long u2_1, .long u3_1])), (ou, .inl (cJ, 1, .inr (.inl oz_1)))]) (va_runV (As := [.int (xs (ix + 1)), .int (xs (ix + 2)), .int (xs (ix + 3)), .int (xs (ix + 4)), .int (xs (ix + 5))]) (rest := []) ⟨hx, hb, hml, hown, hts⟩ (c_X4_cookie l dC dI cI cJ cZ lo _ mo th zs rq k l0 ti mct n d1 d2 d3 d4 d5 d6 kc e1 e2 e3 e4 e5 x0 x1 x2 x3 (xs (ix + 1)) (xs (ix + 2)) (xs (ix + 3)) (xs (ix + 4)) (xs (ix + 5)) (by first | assumption | omega) (by first | assumption | omega) (by first | assumption | omega) (by first | assumption | omega) (by first | assumption | omega)) (cwV 5 hts gL_law_X4_cookie rfl rfl rfl (by decide +kernel) ⟨(Nat.le_of_ble_eq_true rfl), (Nat.le_of_ble_eq_true rfl)⟩) ⟨ck_blind, va_recv hK hP (ci := 4) (q0 := 9) rfl rfl, (ck_pre hG hP hD hS [9] rfl (by decide) _)⟩ rfl rfl hl.1 rfl (lv_room (Nat.le_of_ble_eq_true rfl)) dL_law_703 ⟨ck_le1 (by omega), ck_le2 (by omega)⟩) hP hD hS hA [9] [0, 1, 2, 3, 4, 5, 6, 7, 8, 10, 11, 12, 13, 14, 15, 16, 17, 18, 19, 20, 21, 22, 23] rfl rfl (by decide) (by decide) (fun r_2 u H locs hw_2 hP hD hS => ?_)
    obtain ⟨u0_2, u1_2, u2_2, u3_2⟩ := u
    have hw_2 : r_2 = ck_wos (ck_mck k l0 (xs (ix + 1)) (xs (ix + 2)) (xs (ix + 3)) (xs (ix + 4)) (xs (ix + 5))) := hw_2
    have hP : va_P (dC, dI) vwCl [(h, .inr (1, [.ref a1, .ref a2, .ref a3, .ref a4, .ref a5, .int (nI n)])), (a1, .inl (cJ, 32, .inr (.inl f1))), (a2, .inl (cI, 32, .inl f2)), (a3, .inl (cI, 32, .inl f3)), (a4, .inl (cI, 32, .inl f4)), (a5, .inl (cI, 32, .inl f5)), (cn, .inr (0, [.ref b1, .ref b2, .int (nI kc), .int (nI t)])), (b1, .inl (cJ, 64, .inr (.inl g1))), (b2, .inl (cI, 64, .inl g2)), (d1, .inl (cI, 32, .inl p1)), (d2, .inl (cI, 32, .inl p2)), (d3, .inl (cI, 32, .inl p3)), (d4, .inl (cI, 32, .inl p4)), (d5, .inl (cI, 32, .inl p5)), (d6, .inl (cI, 32, .inl p6)), (e1, .inl (cI, 64, .inl t1)), (e2, .inl (cI, 64, .inl t2)), (e3, .inl (cI, 64, .inl t3)), (e4, .inl (cZ, 64, .inl t4)), (e5, .inl (cI, 4, .inl cs)), (o, .inr (3, [.ref sp, .ref h, .ref cn, .int zs, .int rq, .int ti, .int ct, .int gv, .int bh, .int bc, .int un])), (sp, .inr (2, [.long k, .long l0, .long u0_1, .long u1_1, .long u2_1, .long u3_1])), (ou, .inl (cJ, 1, .inr (.inl oz_1))), (mo, .inr (4, [.int 0, .int zs, .int rq, .long k, .long l0, .int ti, .int mct, .int (nI n), .ref d1, .ref d2, .ref d3, .ref d4, .ref d5, .ref d6, .int (nI kc), .ref e1, .ref e2, .ref e3, .ref e4, .ref e5, .long u0_2, .long u1_2, .long u2_2, .long u3_2]))] H := hP
    have hD : va_D A [(h, .inr (1, [.ref a1, .ref a2, .ref a3, .ref a4, .ref a5, .int (nI n)])), (a1, .inl (cJ, 32, .inr (.inl f1))), (a2, .inl (cI, 32, .inl f2)), (a3, .inl (cI, 32, .inl f3)), (a4, .inl (cI, 32, .inl f4)), (a5, .inl (cI, 32, .inl f5)), (cn, .inr (0, [.ref b1, .ref b2, .int (nI kc), .int (nI t)])), (b1, .inl (cJ, 64, .inr (.inl g1))), (b2, .inl (cI, 64, .inl g2)), (d1, .inl (cI, 32, .inl p1)), (d2, .inl (cI, 32, .inl p2)), (d3, .inl (cI, 32, .inl p3)), (d4, .inl (cI, 32, .inl p4)), (d5, .inl (cI, 32, .inl p5)), (d6, .inl (cI, 32, .inl p6)), (e1, .inl (cI, 64, .inl t1)), (e2, .inl (cI, 64, .inl t2)), (e3, .inl (cI, 64, .inl t3)), (e4, .inl (cZ, 64, .inl t4)), (e5, .inl (cI, 4, .inl cs)), (o, .inr (3, [.ref sp, .ref h, .ref cn, .int zs, .int rq, .int ti, .int ct, .int gv, .int bh, .int bc, .int un])), (sp, .inr (2, [.long k, .long l0, .long u0_1, .long u1_1, .long u2_1, .long u3_1])), (ou, .inl (cJ, 1, .inr (.inl oz_1))), (mo, .inr (4, [.int 0, .int zs, .int rq, .long k, .long l0, .int ti, .int mct, .int (nI n), .ref d1, .ref d2, .ref d3, .ref d4, .ref d5, .ref d6, .int (nI kc), .ref e1, .ref e2, .ref e3, .ref e4, .ref e5, .long u0_2, .long u1_2, .long u2_2, .long u3_2]))] := hD
    have es := ck_s_cookie hb1 hb2 hs1 hp hw_2
    refine lv_lstore (lv' := [(6, .long r_2), (5, .int 0), (0, .ref b), (1, .ref o), (2, .ref mo), (3, .ref ou), (4, .int (nI ix))]) hx hb dL_law_706 hl (by decide) rfl (fun ls hl => ?_)
    refine lv_aload_n hx hb dL_law_708 rfl (lv_at hl 4 rfl) ?_
    refine ck_ri (va_runV (As := []) (rest := []) ⟨hx, hb, hml, hown, hts⟩ (c_X4_thrown l dC dI cI cJ cZ lo _ mo 0 zs rq k l0 ti mct n d1 d2 d3 d4 d5 d6 kc e1 e2 e3 e4 e5 u0_2 u1_2 u2_2 u3_2) (cwV 0 hts gL_law_X4_thrown rfl rfl rfl (by decide +kernel) ⟨(Nat.le_of_ble_eq_true rfl), (Nat.le_of_ble_eq_true rfl)⟩) ⟨ck_blind, va_recv hK hP (ci := 4) (q0 := 23) rfl rfl, (ck_pre hG hP hD hS [23] rfl (by decide) _)⟩ rfl rfl hl.1 rfl (lv_room (Nat.le_of_ble_eq_true rfl)) dL_law_709 ⟨ck_le1 (by omega), ck_le2 (by omega)⟩) (fun r_3 hw_3 => ?_)
    have hw_3 : r_3 = 0 := hw_3
    subst hw_3
    refine lv_iload hx hb dL_law_712 (lv_at hl 1 rfl) ?_
    refine lv_icmp_eq (tgt := 719) hx hb dL_law_714 (by decide) (fun c_714 => ?_) (fun c_714 => ?_)
    · skip
      refine lv_iload hx hb dL_law_719 (lv_at hl 1 rfl) ?_
      refine lv_if_ne (tgt := 735) hx hb dL_law_721 (by decide) (fun c_721 => ?_) (fun c_721 => ?_)
      · skip
        exact absurd c_721 (by decide)
      · skip
        refine lv_aload_n hx hb dL_law_724 rfl (lv_at hl 5 rfl) ?_
        refine lv_iconst (v := nI 0) hx hb dL_law_725 (by decide) ?_
        refine ck_lald hx hb hK hP 22 1 rfl rfl (by omega) (by decide) dL_law_726 ?_
        refine lv_lload hx hb dL_law_727 (lv_at hl 0 rfl) ?_
        refine W.lcmp hx hb dL_law_729 ?_
        refine lv_if_eq (tgt := 735) hx hb dL_law_730 (by decide) (fun c_730 => ?_) (fun c_730 => ?_)
        · skip
          refine lv_goto (tgt := 896) hx hb dL_law_735 (by decide) ?_
          refine W.widen (k := cells + 1) (n := slots + 6) (by omega) (by omega) ?_
          exact hc zs rq ti ct gv bh bc un k l0 u0_1 u1_1 u2_1 u3_1 n f1 f2 f3 f4 f5 kc t g1 g2 0 mct u0_2 u1_2 u2_2 u3_2 p1 p2 p3 p4 p5 p6 t1 t2 t3 t4 cs oz_1 (hI.up) _ _ _ (hP.sub [20, 21, 0, 1, 2, 3, 4, 5, 6, 7, 8, 23, 9, 10, 11, 12, 13, 14, 15, 16, 17, 18, 19, 22] rfl) (hD.sub [20, 21, 0, 1, 2, 3, 4, 5, 6, 7, 8, 23, 9, 10, 11, 12, 13, 14, 15, 16, 17, 18, 19, 22] (by decide) rfl) hS (lv_sub hl [2, 3, 4, 5, 6] rfl)
        · skip
          exact absurd (by rw [ho, es]; exact ck_cmp0 _) c_730
    · skip
      exact absurd rfl c_714
  · skip
    have hq2 : ¬ ((0 ≤ xs (ix + 2) ∧ xs (ix + 2) ≤ 65535) ∧ (0 ≤ xs (ix + 4) ∧ xs (ix + 4) ≤ 7) ∧ (0 ≤ xs (ix + 5) ∧ xs (ix + 5) ≤ 2147483647)) := fun z => hq ⟨z.1, z.2.1, z.2.2.1⟩
    refine lv_aload_n hx hb dL_law_635 rfl (lv_at hl 1 rfl) ?_
    refine lv_aload_n hx hb dL_law_636 rfl (lv_at hl 0 rfl) ?_
    refine lv_iload hx hb dL_law_637 (lv_at hl 4 rfl) ?_
    refine lv_iconst (v := nI 1) hx hb dL_law_639 (by decide) ?_
    refine lv_iadd hx hb dL_law_640 ?_
    refine ck_toi (y := nI (ix + 1)) (nI_add _ _) ?_
    refine va_sld hx hb hX hbl hbA hS (vp_in_nI (show ix + 1 < L by omega) (by omega)) dL_law_641 ?_
    refine ck_toi (y := xs (ix + 1)) (by rw [nI_clamp (by omega)]) ?_
    refine lv_aload_n hx hb dL_law_642 rfl (lv_at hl 0 rfl) ?_
    refine lv_iload hx hb dL_law_643 (lv_at hl 4 rfl) ?_
    refine lv_iconst (v := nI 2) hx hb dL_law_645 (by decide) ?_
    refine lv_iadd hx hb dL_law_646 ?_
    refine ck_toi (y := nI (ix + 2)) (nI_add _ _) ?_
    refine va_sld hx hb hX hbl hbA hS (vp_in_nI (show ix + 2 < L by omega) (by omega)) dL_law_647 ?_
    refine ck_toi (y := xs (ix + 2)) (by rw [nI_clamp (by omega)]) ?_
    refine lv_aload_n hx hb dL_law_648 rfl (lv_at hl 0 rfl) ?_
    refine lv_iload hx hb dL_law_649 (lv_at hl 4 rfl) ?_
    refine lv_iconst (v := nI 3) hx hb dL_law_651 (by decide) ?_
    refine lv_iadd hx hb dL_law_652 ?_
    refine ck_toi (y := nI (ix + 3)) (nI_add _ _) ?_
    refine va_sld hx hb hX hbl hbA hS (vp_in_nI (show ix + 3 < L by omega) (by omega)) dL_law_653 ?_
    refine ck_toi (y := xs (ix + 3)) (by rw [nI_clamp (by omega)]) ?_
    refine lv_aload_n hx hb dL_law_654 rfl (lv_at hl 0 rfl) ?_
    refine lv_iload hx hb dL_law_655 (lv_at hl 4 rfl) ?_
    refine lv_iconst (v := nI 4) hx hb dL_law_657 (by decide) ?_
    refine lv_iadd hx hb dL_law_658 ?_
    refine ck_toi (y := nI (ix + 4)) (nI_add _ _) ?_
    refine va_sld hx hb hX hbl hbA hS (vp_in_nI (show ix + 4 < L by omega) (by omega)) dL_law_659 ?_
    refine ck_toi (y := xs (ix + 4)) (by rw [nI_clamp (by omega)]) ?_
    refine lv_aload_n hx hb dL_law_660 rfl (lv_at hl 0 rfl) ?_
    refine lv_iload hx hb dL_law_661 (lv_at hl 4 rfl) ?_
    refine lv_iconst (v := nI 5) hx hb dL_law_663 (by decide) ?_
    refine lv_iadd hx hb dL_law_664 ?_
    refine ck_toi (y := nI (ix + 5)) (nI_add _ _) ?_
    refine va_sld hx hb hX hbl hbA hS (vp_in_nI (show ix + 5 < L by omega) (by omega)) dL_law_665 ?_
    refine ck_toi (y := xs (ix + 5)) (by rw [nI_clamp (by omega)]) ?_
    refine lv_aload_n hx hb dL_law_666 rfl (lv_at hl 3 rfl) ?_
    refine ck_ci (wr := [(sp, .inr (2, [.long k, .long l0, .long v0, .long v1, .long v2, .long v3])), (h, .inr (1, [.ref a1, .ref a2, .ref a3, .ref a4, .ref a5, .int (nI n)])), (a1, .inl (cJ, 32, .inr (.inl f1))), (a2, .inl (cI, 32, .inl f2)), (a3, .inl (cI, 32, .inl f3)), (a4, .inl (cI, 32, .inl f4)), (a5, .inl (cI, 32, .inl f5)), (cn, .inr (0, [.ref b1, .ref b2, .int (nI kc), .int (nI t)])), (b1, .inl (cJ, 64, .inr (.inl g1))), (b2, .inl (cI, 64, .inl g2)), (mo, .inr (4, [.int th, .int zs, .int rq, .long k, .long l0, .int ti, .int mct, .int (nI n), .ref d1, .ref d2, .ref d3, .ref d4, .ref d5, .ref d6, .int (nI kc), .ref e1, .ref e2, .ref e3, .ref e4, .ref e5, .long x0, .long x1, .long x2, .long x3])), (d1, .inl (cI, 32, .inl p1)), (d2, .inl (cI, 32, .inl p2)), (d3, .inl (cI, 32, .inl p3)), (d4, .inl (cI, 32, .inl p4)), (d5, .inl (cI, 32, .inl p5)), (d6, .inl (cI, 32, .inl p6)), (e1, .inl (cI, 64, .inl t1)), (e2, .inl (cI, 64, .inl t2)), (e3, .inl (cI, 64, .inl t3)), (e4, .inl (cZ, 64, .inl t4)), (e5, .inl (cI, 4, .inl cs)), (ou, .inl (cJ, 1, .inr (.inl ov)))]) (vx_runSW (As := [.ref o, .int (xs (ix + 1)), .int (xs (ix + 2)), .int (xs (ix + 3)), .int (xs (ix + 4)), .int (xs (ix + 5)), .ref ou]) (rest := []) ⟨hx, hb, hml, hown, hts⟩ (b_L_cookie l dC dI cI cJ cZ lo _ o sp h cn zs rq ti ct gv bh bc un (xs (ix + 1)) (xs (ix + 2)) (xs (ix + 3)) (xs (ix + 4)) (xs (ix + 5)) ou (by first | assumption | omega) (by first | assumption | omega)) (vx_cwSW 7 hts gL_law_L_cookie rfl rfl rfl (by decide +kernel) ⟨(Nat.le_of_ble_eq_true rfl), (Nat.le_of_ble_eq_true rfl)⟩) ⟨ck_blind, (ck_pre hG hP hD hS [0] rfl (by decide) _)⟩ rfl rfl hl.1 rfl (lv_room (Nat.le_of_ble_eq_true rfl)) dL_law_667 ⟨ck_le1 (by omega), ck_le2 (by omega)⟩) hP hD hS hA [0] [1, 2, 3, 4, 5, 6, 7, 8, 9, 10, 11, 12, 13, 14, 15, 16, 17, 18, 19, 20, 21, 22, 23] rfl rfl (by decide) (by decide) (fun r_4 u H locs hw_4 hP hD hS => ?_)
    have hw_4 : r_4 = 1 := hw_4
    have hP : va_P (dC, dI) vwCl [(sp, .inr (2, [.long k, .long l0, .long v0, .long v1, .long v2, .long v3])), (h, .inr (1, [.ref a1, .ref a2, .ref a3, .ref a4, .ref a5, .int (nI n)])), (a1, .inl (cJ, 32, .inr (.inl f1))), (a2, .inl (cI, 32, .inl f2)), (a3, .inl (cI, 32, .inl f3)), (a4, .inl (cI, 32, .inl f4)), (a5, .inl (cI, 32, .inl f5)), (cn, .inr (0, [.ref b1, .ref b2, .int (nI kc), .int (nI t)])), (b1, .inl (cJ, 64, .inr (.inl g1))), (b2, .inl (cI, 64, .inl g2)), (mo, .inr (4, [.int th, .int zs, .int rq, .long k, .long l0, .int ti, .int mct, .int (nI n), .ref d1, .ref d2, .ref d3, .ref d4, .ref d5, .ref d6, .int (nI kc), .ref e1, .ref e2, .ref e3, .ref e4, .ref e5, .long x0, .long x1, .long x2, .long x3])), (d1, .inl (cI, 32, .inl p1)), (d2, .inl (cI, 32, .inl p2)), (d3, .inl (cI, 32, .inl p3)), (d4, .inl (cI, 32, .inl p4)), (d5, .inl (cI, 32, .inl p5)), (d6, .inl (cI, 32, .inl p6)), (e1, .inl (cI, 64, .inl t1)), (e2, .inl (cI, 64, .inl t2)), (e3, .inl (cI, 64, .inl t3)), (e4, .inl (cZ, 64, .inl t4)), (e5, .inl (cI, 4, .inl cs)), (ou, .inl (cJ, 1, .inr (.inl ov))), (o, .inr (3, [.ref sp, .ref h, .ref cn, .int zs, .int rq, .int ti, .int ct, .int gv, .int bh, .int bc, .int un]))] H := hP
    have hD : va_D A [(sp, .inr (2, [.long k, .long l0, .long v0, .long v1, .long v2, .long v3])), (h, .inr (1, [.ref a1, .ref a2, .ref a3, .ref a4, .ref a5, .int (nI n)])), (a1, .inl (cJ, 32, .inr (.inl f1))), (a2, .inl (cI, 32, .inl f2)), (a3, .inl (cI, 32, .inl f3)), (a4, .inl (cI, 32, .inl f4)), (a5, .inl (cI, 32, .inl f5)), (cn, .inr (0, [.ref b1, .ref b2, .int (nI kc), .int (nI t)])), (b1, .inl (cJ, 64, .inr (.inl g1))), (b2, .inl (cI, 64, .inl g2)), (mo, .inr (4, [.int th, .int zs, .int rq, .long k, .long l0, .int ti, .int mct, .int (nI n), .ref d1, .ref d2, .ref d3, .ref d4, .ref d5, .ref d6, .int (nI kc), .ref e1, .ref e2, .ref e3, .ref e4, .ref e5, .long x0, .long x1, .long x2, .long x3])), (d1, .inl (cI, 32, .inl p1)), (d2, .inl (cI, 32, .inl p2)), (d3, .inl (cI, 32, .inl p3)), (d4, .inl (cI, 32, .inl p4)), (d5, .inl (cI, 32, .inl p5)), (d6, .inl (cI, 32, .inl p6)), (e1, .inl (cI, 64, .inl t1)), (e2, .inl (cI, 64, .inl t2)), (e3, .inl (cI, 64, .inl t3)), (e4, .inl (cZ, 64, .inl t4)), (e5, .inl (cI, 4, .inl cs)), (ou, .inl (cJ, 1, .inr (.inl ov))), (o, .inr (3, [.ref sp, .ref h, .ref cn, .int zs, .int rq, .int ti, .int ct, .int gv, .int bh, .int bc, .int un]))] := hD
    subst hw_4
    refine lv_istore (lv' := [(5, .int 1), (0, .ref b), (1, .ref o), (2, .ref mo), (3, .ref ou), (4, .int (nI ix))]) hx hb dL_law_670 hl (by decide) rfl (fun ls hl => ?_)
    refine lv_aload_n hx hb dL_law_672 rfl (lv_at hl 3 rfl) ?_
    refine lv_aload_n hx hb dL_law_673 rfl (lv_at hl 1 rfl) ?_
    refine lv_iload hx hb dL_law_674 (lv_at hl 5 rfl) ?_
    refine lv_iconst (v := nI 1) hx hb dL_law_676 (by decide) ?_
    refine lv_iadd hx hb dL_law_677 ?_
    refine ck_toi (y := nI (ix + 1)) (nI_add _ _) ?_
    refine va_sld hx hb hX hbl hbA hS (vp_in_nI (show ix + 1 < L by omega) (by omega)) dL_law_678 ?_
    refine ck_toi (y := xs (ix + 1)) (by rw [nI_clamp (by omega)]) ?_
    refine lv_aload_n hx hb dL_law_679 rfl (lv_at hl 1 rfl) ?_
    refine lv_iload hx hb dL_law_680 (lv_at hl 5 rfl) ?_
    refine lv_iconst (v := nI 2) hx hb dL_law_682 (by decide) ?_
    refine lv_iadd hx hb dL_law_683 ?_
    refine ck_toi (y := nI (ix + 2)) (nI_add _ _) ?_
    refine va_sld hx hb hX hbl hbA hS (vp_in_nI (show ix + 2 < L by omega) (by omega)) dL_law_684 ?_
    refine ck_toi (y := xs (ix + 2)) (by rw [nI_clamp (by omega)]) ?_
    refine lv_aload_n hx hb dL_law_685 rfl (lv_at hl 1 rfl) ?_
    refine lv_iload hx hb dL_law_686 (lv_at hl 5 rfl) ?_
    refine lv_iconst (v := nI 3) hx hb dL_law_688 (by decide) ?_
    refine lv_iadd hx hb dL_law_689 ?_
    refine ck_toi (y := nI (ix + 3)) (nI_add _ _) ?_
    refine va_sld hx hb hX hbl hbA hS (vp_in_nI (show ix + 3 < L by omega) (by omega)) dL_law_690 ?_
    refine ck_toi (y := xs (ix + 3)) (by rw [nI_clamp (by omega)]) ?_
    refine lv_aload_n hx hb dL_law_691 rfl (lv_at hl 1 rfl) ?_
    refine lv_iload hx hb dL_law_692 (lv_at hl 5 rfl) ?_
    refine lv_iconst (v := nI 4) hx hb dL_law_694 (by decide) ?_
    refine lv_iadd hx hb dL_law_695 ?_
    refine ck_toi (y := nI (ix + 4)) (nI_add _ _) ?_
    refine va_sld hx hb hX hbl hbA hS (vp_in_nI (show ix + 4 < L by omega) (by omega)) dL_law_696 ?_
    refine ck_toi (y := xs (ix + 4)) (by rw [nI_clamp (by omega)]) ?_
    refine lv_aload_n hx hb dL_law_697 rfl (lv_at hl 1 rfl) ?_
    refine lv_iload hx hb dL_law_698 (lv_at hl 5 rfl) ?_
    refine lv_iconst (v := nI 5) hx hb dL_law_700 (by decide) ?_
    refine lv_iadd hx hb dL_law_701 ?_
    refine ck_toi (y := nI (ix + 5)) (nI_add _ _) ?_
    refine va_sld hx hb hX hbl hbA hS (vp_in_nI (show ix + 5 < L by omega) (by omega)) dL_law_702 ?_
    refine ck_toi (y := xs (ix + 5)) (by rw [nI_clamp (by omega)]) ?_
    refine ck_cl (wr := [(sp, .inr (2, [.long k, .long l0, .long v0, .long v1, .long v2, .long v3])), (h, .inr (1, [.ref a1, .ref a2, .ref a3, .ref a4, .ref a5, .int (nI n)])), (a1, .inl (cJ, 32, .inr (.inl f1))), (a2, .inl (cI, 32, .inl f2)), (a3, .inl (cI, 32, .inl f3)), (a4, .inl (cI, 32, .inl f4)), (a5, .inl (cI, 32, .inl f5)), (cn, .inr (0, [.ref b1, .ref b2, .int (nI kc), .int (nI t)])), (b1, .inl (cJ, 64, .inr (.inl g1))), (b2, .inl (cI, 64, .inl g2)), (d1, .inl (cI, 32, .inl p1)), (d2, .inl (cI, 32, .inl p2)), (d3, .inl (cI, 32, .inl p3)), (d4, .inl (cI, 32, .inl p4)), (d5, .inl (cI, 32, .inl p5)), (d6, .inl (cI, 32, .inl p6)), (e1, .inl (cI, 64, .inl t1)), (e2, .inl (cI, 64, .inl t2)), (e3, .inl (cI, 64, .inl t3)), (e4, .inl (cZ, 64, .inl t4)), (e5, .inl (cI, 4, .inl cs)), (ou, .inl (cJ, 1, .inr (.inl ov))), (o, .inr (3, [.ref sp, .ref h, .ref cn, .int zs, .int rq, .int ti, .int ct, .int gv, .int bh, .int bc, .int un]))]) (va_runV (As := [.int (xs (ix + 1)), .int (xs (ix + 2)), .int (xs (ix + 3)), .int (xs (ix + 4)), .int (xs (ix + 5))]) (rest := []) ⟨hx, hb, hml, hown, hts⟩ (b_X4_cookie l dC dI cI cJ cZ lo _ mo th zs rq k l0 ti mct n d1 d2 d3 d4 d5 d6 kc e1 e2 e3 e4 e5 x0 x1 x2 x3 (xs (ix + 1)) (xs (ix + 2)) (xs (ix + 3)) (xs (ix + 4)) (xs (ix + 5)) (by first | assumption | omega)) (cwV 5 hts gL_law_X4_cookie rfl rfl rfl (by decide +kernel) ⟨(Nat.le_of_ble_eq_true rfl), (Nat.le_of_ble_eq_true rfl)⟩) ⟨ck_blind, va_recv hK hP (ci := 4) (q0 := 10) rfl rfl, (ck_pre hG hP hD hS [10] rfl (by decide) _)⟩ rfl rfl hl.1 rfl (lv_room (Nat.le_of_ble_eq_true rfl)) dL_law_703 ⟨ck_le1 (by omega), ck_le2 (by omega)⟩) hP hD hS hA [10] [0, 1, 2, 3, 4, 5, 6, 7, 8, 9, 11, 12, 13, 14, 15, 16, 17, 18, 19, 20, 21, 22, 23] rfl rfl (by decide) (by decide) (fun r_5 u H locs hw_5 hP hD hS => ?_)
    have hP : va_P (dC, dI) vwCl [(sp, .inr (2, [.long k, .long l0, .long v0, .long v1, .long v2, .long v3])), (h, .inr (1, [.ref a1, .ref a2, .ref a3, .ref a4, .ref a5, .int (nI n)])), (a1, .inl (cJ, 32, .inr (.inl f1))), (a2, .inl (cI, 32, .inl f2)), (a3, .inl (cI, 32, .inl f3)), (a4, .inl (cI, 32, .inl f4)), (a5, .inl (cI, 32, .inl f5)), (cn, .inr (0, [.ref b1, .ref b2, .int (nI kc), .int (nI t)])), (b1, .inl (cJ, 64, .inr (.inl g1))), (b2, .inl (cI, 64, .inl g2)), (d1, .inl (cI, 32, .inl p1)), (d2, .inl (cI, 32, .inl p2)), (d3, .inl (cI, 32, .inl p3)), (d4, .inl (cI, 32, .inl p4)), (d5, .inl (cI, 32, .inl p5)), (d6, .inl (cI, 32, .inl p6)), (e1, .inl (cI, 64, .inl t1)), (e2, .inl (cI, 64, .inl t2)), (e3, .inl (cI, 64, .inl t3)), (e4, .inl (cZ, 64, .inl t4)), (e5, .inl (cI, 4, .inl cs)), (ou, .inl (cJ, 1, .inr (.inl ov))), (o, .inr (3, [.ref sp, .ref h, .ref cn, .int zs, .int rq, .int ti, .int ct, .int gv, .int bh, .int bc, .int un])), (mo, .inr (4, [.int 1, .int zs, .int rq, .long k, .long l0, .int ti, .int mct, .int (nI n), .ref d1, .ref d2, .ref d3, .ref d4, .ref d5, .ref d6, .int (nI kc), .ref e1, .ref e2, .ref e3, .ref e4, .ref e5, .long x0, .long x1, .long x2, .long x3]))] H := hP
    have hD : va_D A [(sp, .inr (2, [.long k, .long l0, .long v0, .long v1, .long v2, .long v3])), (h, .inr (1, [.ref a1, .ref a2, .ref a3, .ref a4, .ref a5, .int (nI n)])), (a1, .inl (cJ, 32, .inr (.inl f1))), (a2, .inl (cI, 32, .inl f2)), (a3, .inl (cI, 32, .inl f3)), (a4, .inl (cI, 32, .inl f4)), (a5, .inl (cI, 32, .inl f5)), (cn, .inr (0, [.ref b1, .ref b2, .int (nI kc), .int (nI t)])), (b1, .inl (cJ, 64, .inr (.inl g1))), (b2, .inl (cI, 64, .inl g2)), (d1, .inl (cI, 32, .inl p1)), (d2, .inl (cI, 32, .inl p2)), (d3, .inl (cI, 32, .inl p3)), (d4, .inl (cI, 32, .inl p4)), (d5, .inl (cI, 32, .inl p5)), (d6, .inl (cI, 32, .inl p6)), (e1, .inl (cI, 64, .inl t1)), (e2, .inl (cI, 64, .inl t2)), (e3, .inl (cI, 64, .inl t3)), (e4, .inl (cZ, 64, .inl t4)), (e5, .inl (cI, 4, .inl cs)), (ou, .inl (cJ, 1, .inr (.inl ov))), (o, .inr (3, [.ref sp, .ref h, .ref cn, .int zs, .int rq, .int ti, .int ct, .int gv, .int bh, .int bc, .int un])), (mo, .inr (4, [.int 1, .int zs, .int rq, .long k, .long l0, .int ti, .int mct, .int (nI n), .ref d1, .ref d2, .ref d3, .ref d4, .ref d5, .ref d6, .int (nI kc), .ref e1, .ref e2, .ref e3, .ref e4, .ref e5, .long x0, .long x1, .long x2, .long x3]))] := hD
    refine lv_lstore (lv' := [(6, .long r_5), (5, .int 1), (0, .ref b), (1, .ref o), (2, .ref mo), (3, .ref ou), (4, .int (nI ix))]) hx hb dL_law_706 hl (by decide) rfl (fun ls hl => ?_)
    refine lv_aload_n hx hb dL_law_708 rfl (lv_at hl 4 rfl) ?_
    refine ck_ri (va_runV (As := []) (rest := []) ⟨hx, hb, hml, hown, hts⟩ (c_X4_thrown l dC dI cI cJ cZ lo _ mo 1 zs rq k l0 ti mct n d1 d2 d3 d4 d5 d6 kc e1 e2 e3 e4 e5 x0 x1 x2 x3) (cwV 0 hts gL_law_X4_thrown rfl rfl rfl (by decide +kernel) ⟨(Nat.le_of_ble_eq_true rfl), (Nat.le_of_ble_eq_true rfl)⟩) ⟨ck_blind, va_recv hK hP (ci := 4) (q0 := 23) rfl rfl, (ck_pre hG hP hD hS [23] rfl (by decide) _)⟩ rfl rfl hl.1 rfl (lv_room (Nat.le_of_ble_eq_true rfl)) dL_law_709 ⟨ck_le1 (by omega), ck_le2 (by omega)⟩) (fun r_6 hw_6 => ?_)
    have hw_6 : r_6 = 1 := hw_6
    subst hw_6
    refine lv_iload hx hb dL_law_712 (lv_at hl 1 rfl) ?_
    refine lv_icmp_eq (tgt := 719) hx hb dL_law_714 (by decide) (fun c_714 => ?_) (fun c_714 => ?_)
    · skip
      refine lv_iload hx hb dL_law_719 (lv_at hl 1 rfl) ?_
      refine lv_if_ne (tgt := 735) hx hb dL_law_721 (by decide) (fun c_721 => ?_) (fun c_721 => ?_)
      · skip
        refine lv_goto (tgt := 896) hx hb dL_law_735 (by decide) ?_
        refine W.widen (k := cells + 1) (n := slots + 6) (by omega) (by omega) ?_
        exact hc zs rq ti ct gv bh bc un k l0 v0 v1 v2 v3 n f1 f2 f3 f4 f5 kc t g1 g2 1 mct x0 x1 x2 x3 p1 p2 p3 p4 p5 p6 t1 t2 t3 t4 cs ov (hI.up) _ _ _ (hP.sub [22, 0, 1, 2, 3, 4, 5, 6, 7, 8, 9, 23, 10, 11, 12, 13, 14, 15, 16, 17, 18, 19, 20, 21] rfl) (hD.sub [22, 0, 1, 2, 3, 4, 5, 6, 7, 8, 9, 23, 10, 11, 12, 13, 14, 15, 16, 17, 18, 19, 20, 21] (by decide) rfl) hS (lv_sub hl [2, 3, 4, 5, 6] rfl)
      · skip
        exact absurd c_721 (by decide)
    · skip
      exact absurd rfl c_714
