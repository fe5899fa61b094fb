set_option maxHeartbeats 8000000 in
set_option maxRecDepth 100000 in
theorem ck_case9 (p : Program) (l : Launch) (e : Env) (s : State) (m : MethodId) (below : List Frame) (meth : Method) (c : Code) (b L : Nat) (xs : Nat → Int32) (A : Nat → Prop) (dC : Nat → ClassId) (dI : Nat → Nat → Nat) (cI cJ cZ : ClassId) (lo : Nat) (o sp h cn a1 a2 a3 a4 a5 b1 b2 mo d1 d2 d3 d4 d5 d6 e1 e2 e3 e4 e5 ou : Nat) (ix J cells slots : Nat) (C0 : ck_C p l s m meth c b L xs A dC dI cI cJ cZ lo) (hi : ix + 6 ≤ L) (hJ : J < 512) (hcl : cells + 1 ≤ 1050) (hsl : slots + 6 ≤ 8996) (hc : ck_At p l e s m below meth c b A dC dI cI cJ cZ o sp h cn a1 a2 a3 a4 a5 b1 b2 mo d1 d2 d3 d4 d5 d6 e1 e2 e3 e4 e5 ou 896 ix (J + 1) (cells + 1) (slots + 6)) : ck_At p l e s m below meth c b A dC dI cI cJ cZ o sp h cn a1 a2 a3 a4 a5 b1 b2 mo d1 d2 d3 d4 d5 d6 e1 e2 e3 e4 e5 ou 738 ix J cells slots := by
  obtain ⟨⟨hx, hb, hr, hml, hown, hts, hX, hbl, hlocks, hgv⟩, hG, hAf, hst, hL⟩ := C0
  have hown : s.vm.findClass RL = some m.cls := hown
  have hts : ∀ w ∈ wsL_law, w.before #[Value.ref b] s = true := fun w h => hts w (wsL_law_in w h)
  have hK := hG.1
  have hE := hG.2.1
  have hA := hG.2.2.1
  have hbA : ¬ A b := fun z => absurd (hAf b z) (Nat.not_le.mpr hbl)
  intro zs rq ti ct gv bh bc un k l0 v0 v1 v2 v3 n f1 f2 f3 f4 f5 kc t g1 g2 th mct x0 x1 x2 x3 p1 p2 p3 p4 p5 p6 t1 t2 t3 t4 cs ov hI H locs ls hP hD hS hl
  have hz := hI.1
  have hn := hI.2.2.1.1
  have hpo := hI.2.2.1.2.2.2
  have hk := hI.2.2.2.1.1
  have ht := hI.2.2.2.1.2.1
  have h01 : ∀ i, i < kc → t4 i = 0 ∨ t4 i = 1 := fun i hi => by
    rw [(hI.2.2.2.1.2.2.1 i hi).2.2.1]
    split
    · exact Or.inr rfl
    · exact Or.inl rfl
  refine lv_aload_n hx hb dL_law_738 rfl (lv_at hl 1 rfl) ?_
  refine lv_aload_n hx hb dL_law_739 rfl (lv_at hl 0 rfl) ?_
  refine lv_iload hx hb dL_law_740 (lv_at hl 4 rfl) ?_
  refine lv_iconst (v := nI 1) hx hb dL_law_742 (by decide) ?_
  refine lv_iadd hx hb dL_law_743 ?_
  refine ck_toi (y := nI (ix + 1)) (nI_add _ _) ?_
  refine va_sld hx hb hX hbl hbA hS (vp_in_nI (show ix + 1 < L by omega) (by omega)) dL_law_744 ?_
  refine ck_toi (y := xs (ix + 1)) (by rw [nI_clamp (by omega)]) ?_
  refine lv_i2l hx hb dL_law_745 rfl ?_
  refine lv_bipush (v := 32) hx hb dL_law_746 (by decide) ?_
  refine lv_lshl hx hb dL_law_748 rfl ?_
  refine lv_aload_n hx hb dL_law_749 rfl (lv_at hl 0 rfl) ?_
  refine lv_iload hx hb dL_law_750 (lv_at hl 4 rfl) ?_
  refine lv_iconst (v := nI 2) hx hb dL_law_752 (by decide) ?_
  refine lv_iadd hx hb dL_law_753 ?_
  refine ck_toi (y := nI (ix + 2)) (nI_add _ _) ?_
  refine va_sld hx hb hX hbl hbA hS (vp_in_nI (show ix + 2 < L by omega) (by omega)) dL_law_754 ?_
  refine ck_toi (y := xs (ix + 2)) (by rw [nI_clamp (by omega)]) ?_
  refine lv_i2l hx hb dL_law_755 rfl ?_
  refine lv_ldc2 hx hb hown (hts _ k_L_law_c55) dL_law_756 ?_
  refine lv_land hx hb dL_law_759 ?_
  refine lv_lor hx hb dL_law_760 ?_
  refine lv_aload_n hx hb dL_law_761 rfl (lv_at hl 0 rfl) ?_
  refine lv_iload hx hb dL_law_762 (lv_at hl 4 rfl) ?_
  refine lv_iconst (v := nI 3) hx hb dL_law_764 (by decide) ?_
  refine lv_iadd hx hb dL_law_765 ?_
  refine ck_toi (y := nI (ix + 3)) (nI_add _ _) ?_
  refine va_sld hx hb hX hbl hbA hS (vp_in_nI (show ix + 3 < L by omega) (by omega)) dL_law_766 ?_
  refine ck_toi (y := xs (ix + 3)) (by rw [nI_clamp (by omega)]) ?_
  refine lv_i2l hx hb dL_law_767 rfl ?_
  refine lv_bipush (v := 32) hx hb dL_law_768 (by decide) ?_
  refine lv_lshl hx hb dL_law_770 rfl ?_
  refine lv_aload_n hx hb dL_law_771 rfl (lv_at hl 0 rfl) ?_
  refine lv_iload hx hb dL_law_772 (lv_at hl 4 rfl) ?_
  refine lv_iconst (v := nI 4) hx hb dL_law_774 (by decide) ?_
  refine lv_iadd hx hb dL_law_775 ?_
  refine ck_toi (y := nI (ix + 4)) (nI_add _ _) ?_
  refine va_sld hx hb hX hbl hbA hS (vp_in_nI (show ix + 4 < L by omega) (by omega)) dL_law_776 ?_
  refine ck_toi (y := xs (ix + 4)) (by rw [nI_clamp (by omega)]) ?_
  refine lv_i2l hx hb dL_law_777 rfl ?_
  refine lv_ldc2 hx hb hown (hts _ k_L_law_c55) dL_law_778 ?_
  refine lv_land hx hb dL_law_781 ?_
  refine lv_lor hx hb dL_law_782 ?_
  refine ck_cl (wr := [(h, .inr (1, [.ref a1, .ref a2, .ref a3, .ref a4, .ref a5, .int (nI n)])), (a1, .inl (cJ, 32, .inr (.inl f1))), (a2, .inl (cI, 32, .inl f2)), (a3, .inl (cI, 32, .inl f3)), (a4, .inl (cI, 32, .inl f4)), (a5, .inl (cI, 32, .inl f5)), (cn, .inr (0, [.ref b1, .ref b2, .int (nI kc), .int (nI t)])), (b1, .inl (cJ, 64, .inr (.inl g1))), (b2, .inl (cI, 64, .inl g2)), (mo, .inr (4, [.int th, .int zs, .int rq, .long k, .long l0, .int ti, .int mct, .int (nI n), .ref d1, .ref d2, .ref d3, .ref d4, .ref d5, .ref d6, .int (nI kc), .ref e1, .ref e2, .ref e3, .ref e4, .ref e5, .long x0, .long x1, .long x2, .long x3])), (d1, .inl (cI, 32, .inl p1)), (d2, .inl (cI, 32, .inl p2)), (d3, .inl (cI, 32, .inl p3)), (d4, .inl (cI, 32, .inl p4)), (d5, .inl (cI, 32, .inl p5)), (d6, .inl (cI, 32, .inl p6)), (e1, .inl (cI, 64, .inl t1)), (e2, .inl (cI, 64, .inl t2)), (e3, .inl (cI, 64, .inl t3)), (e4, .inl (cZ, 64, .inl t4)), (e5, .inl (cI, 4, .inl cs)), (ou, .inl (cJ, 1, .inr (.inl ov)))]) (va_runV (As := [.long ((((xs (ix + 1)).toInt64) <<< ((32 : Int32).toInt64 &&& 63)) ||| (((xs (ix + 2)).toInt64) &&& 4294967295)), .long ((((xs (ix + 3)).toInt64) <<< ((32 : Int32).toInt64 &&& 63)) ||| (((xs (ix + 4)).toInt64) &&& 4294967295))]) (rest := []) ⟨hx, hb, hml, hown, hts⟩ (c_X3_hash l dC dI cI cJ cZ lo _ o sp h cn zs rq ti ct gv bh bc un k l0 v0 v1 v2 v3 ((((xs (ix + 1)).toInt64) <<< ((32 : Int32).toInt64 &&& 63)) ||| (((xs (ix + 2)).toInt64) &&& 4294967295)) ((((xs (ix + 3)).toInt64) <<< ((32 : Int32).toInt64 &&& 63)) ||| (((xs (ix + 4)).toInt64) &&& 4294967295))) (cwV 2 hts gL_law_X3_hash rfl rfl rfl (by decide +kernel) ⟨(Nat.le_of_ble_eq_true rfl), (Nat.le_of_ble_eq_true rfl)⟩) ⟨ck_blind, va_recv hK hP (ci := 3) (q0 := 0) rfl rfl, (ck_pre hG hP hD hS [0, 1] rfl (by decide) _)⟩ rfl rfl hl.1 rfl (lv_room (Nat.le_of_ble_eq_true rfl)) dL_law_783 ⟨ck_le1 (by omega), ck_le2 (by omega)⟩) hP hD hS hA [0, 1] [2, 3, 4, 5, 6, 7, 8, 9, 10, 11, 12, 13, 14, 15, 16, 17, 18, 19, 20, 21, 22, 23] rfl rfl (by decide) (by decide) (fun r_1 u H locs hw_1 hP hD hS => ?_)
  obtain ⟨u0_1, u1_1, u2_1, u3_1⟩ := u
  have hw_1 : r_1 = ck_sip k l0 ((((xs (ix + 1)).toInt64) <<< ((32 : Int32).toInt64 &&& 63)) ||| (((xs (ix + 2)).toInt64) &&& 4294967295)) ((((xs (ix + 3)).toInt64) <<< ((32 : Int32).toInt64 &&& 63)) ||| (((xs (ix + 4)).toInt64) &&& 4294967295)) := hw_1
  have hP : va_P (dC, dI) vwCl [(h, .inr (1, [.ref a1, .ref a2, .ref a3, .ref a4, .ref a5, .int (nI n)])), (a1, .inl (cJ, 32, .inr (.inl f1))), (a2, .inl (cI, 32, .inl f2)), (a3, .inl (cI, 32, .inl f3)), (a4, .inl (cI, 32, .inl f4)), (a5, .inl (cI, 32, .inl f5)), (cn, .inr (0, [.ref b1, .ref b2, .int (nI kc), .int (nI t)])), (b1, .inl (cJ, 64, .inr (.inl g1))), (b2, .inl (cI, 64, .inl g2)), (mo, .inr (4, [.int th, .int zs, .int rq, .long k, .long l0, .int ti, .int mct, .int (nI n), .ref d1, .ref d2, .ref d3, .ref d4, .ref d5, .ref d6, .int (nI kc), .ref e1, .ref e2, .ref e3, .ref e4, .ref e5, .long x0, .long x1, .long x2, .long x3])), (d1, .inl (cI, 32, .inl p1)), (d2, .inl (cI, 32, .inl p2)), (d3, .inl (cI, 32, .inl p3)), (d4, .inl (cI, 32, .inl p4)), (d5, .inl (cI, 32, .inl p5)), (d6, .inl (cI, 32, .inl p6)), (e1, .inl (cI, 64, .inl t1)), (e2, .inl (cI, 64, .inl t2)), (e3, .inl (cI, 64, .inl t3)), (e4, .inl (cZ, 64, .inl t4)), (e5, .inl (cI, 4, .inl cs)), (ou, .inl (cJ, 1, .inr (.inl ov))), (o, .inr (3, [.ref sp, .ref h, .ref cn, .int zs, .int rq, .int ti, .int ct, .int gv, .int bh, .int bc, .int un])), (sp, .inr (2, [.long k, .long l0, .long u0_1, .long u1_1, .long u2_1, .long u3_1]))] H := hP
  have hD : va_D A [(h, .inr (1, [.ref a1, .ref a2, .ref a3, .ref a4, .ref a5, .int (nI n)])), (a1, .inl (cJ, 32, .inr (.inl f1))), (a2, .inl (cI, 32, .inl f2)), (a3, .inl (cI, 32, .inl f3)), (a4, .inl (cI, 32, .inl f4)), (a5, .inl (cI, 32, .inl f5)), (cn, .inr (0, [.ref b1, .ref b2, .int (nI kc), .int (nI t)])), (b1, .inl (cJ, 64, .inr (.inl g1))), (b2, .inl (cI, 64, .inl g2)), (mo, .inr (4, [.int th, .int zs, .int rq, .long k, .long l0, .int ti, .int mct, .int (nI n), .ref d1, .ref d2, .ref d3, .ref d4, .ref d5, .ref d6, .int (nI kc), .ref e1, .ref e2, .ref e3, .ref e4, .ref e5, .long x0, .long x1, .long x2, .long x3])), (d1, .inl (cI, 32, .inl p1)), (d2, .inl (cI, 32, .inl p2)), (d3, .inl (cI, 32, .inl p3)), (d4, .inl (cI, 32, .inl p4)), (d5, .inl (cI, 32, .inl p5)), (d6, .inl (cI, 32, .inl p6)), (e1, .inl (cI, 64, .inl t1)), (e2, .inl (cI, 64, .inl t2)), (e3, .inl (cI, 64, .inl t3)), (e4, .inl (cZ, 64, .inl t4)), (e5, .inl (cI, 4, .inl cs)), (ou, .inl (cJ, 1, .inr (.inl ov))), (o, .inr (3, [.ref sp, .ref h, .ref cn, .int zs, .int rq, .int ti, .int ct, .int gv, .int bh, .int bc, .int un])), (sp, .inr (2, [.long k, .long l0, .long u0_1, .long u1_1, .long u2_1, .long u3_1]))] := hD
  refine lv_aload_n hx hb dL_law_786 rfl (lv_at hl 2 rfl) ?_
  refine lv_aload_n hx hb dL_law_787 rfl (lv_at hl 0 rfl) ?_
  refine lv_iload hx hb dL_law_788 (lv_at hl 4 rfl) ?_
  refine lv_iconst (v := nI 1) hx hb dL_law_790 (by decide) ?_
  refine lv_iadd hx hb dL_law_791 ?_
  refine ck_toi (y := nI (ix + 1)) (nI_add _ _) ?_
  refine va_sld hx hb hX hbl hbA hS (vp_in_nI (show ix + 1 < L by omega) (by omega)) dL_law_792 ?_
  refine ck_toi (y := xs (ix + 1)) (by rw [nI_clamp (by omega)]) ?_
  refine lv_i2l hx hb dL_law_793 rfl ?_
  refine lv_bipush (v := 32) hx hb dL_law_794 (by decide) ?_
  refine lv_lshl hx hb dL_law_796 rfl ?_
  refine lv_aload_n hx hb dL_law_797 rfl (lv_at hl 0 rfl) ?_
  refine lv_iload hx hb dL_law_798 (lv_at hl 4 rfl) ?_
  refine lv_iconst (v := nI 2) hx hb dL_law_800 (by decide) ?_
  refine lv_iadd hx hb dL_law_801 ?_
  refine ck_toi (y := nI (ix + 2)) (nI_add _ _) ?_
  refine va_sld hx hb hX hbl hbA hS (vp_in_nI (show ix + 2 < L by omega) (by omega)) dL_law_802 ?_
  refine ck_toi (y := xs (ix + 2)) (by rw [nI_clamp (by omega)]) ?_
  refine lv_i2l hx hb dL_law_803 rfl ?_
  refine lv_ldc2 hx hb hown (hts _ k_L_law_c55) dL_law_804 ?_
  refine lv_land hx hb dL_law_807 ?_
  refine lv_lor hx hb dL_law_808 ?_
  refine lv_aload_n hx hb dL_law_809 rfl (lv_at hl 0 rfl) ?_
  refine lv_iload hx hb dL_law_810 (lv_at hl 4 rfl) ?_
  refine lv_iconst (v := nI 3) hx hb dL_law_812 (by decide) ?_
  refine lv_iadd hx hb dL_law_813 ?_
  refine ck_toi (y := nI (ix + 3)) (nI_add _ _) ?_
  refine va_sld hx hb hX hbl hbA hS (vp_in_nI (show ix + 3 < L by omega) (by omega)) dL_law_814 ?_
  refine ck_toi (y := xs (ix + 3)) (by rw [nI_clamp (by omega)]) ?_
  refine lv_i2l hx hb dL_law_815 rfl ?_
  refine lv_bipush (v := 32) hx hb dL_law_816 (by decide) ?_
  refine lv_lshl hx hb dL_law_818 rfl ?_
  refine lv_aload_n hx hb dL_law_819 rfl (lv_at hl 0 rfl) ?_
  refine lv_iload hx hb dL_law_820 (lv_at hl 4 rfl) ?_
  refine lv_iconst (v := nI 4) hx hb dL_law_822 (by decide) ?_
  refine lv_iadd hx hb dL_law_823 ?_
  refine ck_toi (y := nI (ix + 4)) (nI_add _ _) ?_
  refine va_sld hx hb hX hbl hbA hS (vp_in_nI (show ix + 4 < L by omega) (by omega)) dL_law_824 ?_
  refine ck_toi (y := xs (ix + 4)) (by rw [nI_clamp (by omega)]) ?_
  refine lv_i2l hx hb dL_law_825 rfl ?_
  refine lv_ldc2 hx hb hown (hts _ k_L_law_c55) dL_law_826 ?_
  refine lv_land hx hb dL_law_829 ?_
  refine lv_lor hx hb dL_law_830 ?_
  refine ck_cl (wr := [(h, .inr (1, [.ref a1, .ref a2, .ref a3, .ref a4, .ref a5, .int (nI n)])), (a1, .inl (cJ, 32, .inr (.inl f1))), (a2, .inl (cI, 32, .inl f2)), (a3, .inl (cI, 32, .inl f3)), (a4, .inl (cI, 32, .inl f4)), (a5, .inl (cI, 32, .inl f5)), (cn, .inr (0, [.ref b1, .ref b2, .int (nI kc), .int (nI t)])), (b1, .inl (cJ, 64, .inr (.inl g1))), (b2, .inl (cI, 64, .inl g2)), (d1, .inl (cI, 32, .inl p1)), (d2, .inl (cI, 32, .inl p2)), (d3, .inl (cI, 32, .inl p3)), (d4, .inl (cI, 32, .inl p4)), (d5, .inl (cI, 32, .inl p5)), (d6, .inl (cI, 32, .inl p6)), (e1, .inl (cI, 64, .inl t1)), (e2, .inl (cI, 64, .inl t2)), (e3, .inl (cI, 64, .inl t3)), (e4, .inl (cZ, 64, .inl t4)), (e5, .inl (cI, 4, .inl cs)), (ou, .inl (cJ, 1, .inr (.inl ov))), (o, .inr (3, [.ref sp, .ref h, .ref cn, .int zs, .int rq, .int ti, .int ct, .int gv, .int bh, .int bc, .int un])), (sp, .inr (2, [.long k, .long l0, .long u0_1, .long u1_1, .long u2_1, .long u3_1]))]) (va_runV (As := [.long ((((xs (ix + 1)).toInt64) <<< ((32 : Int32).toInt64 &&& 63)) ||| (((xs (ix + 2)).toInt64) &&& 4294967295)), .long ((((xs (ix + 3)).toInt64) <<< ((32 : Int32).toInt64 &&& 63)) ||| (((xs (ix + 4)).toInt64) &&& 4294967295))]) (rest := [.long r_1]) ⟨hx, hb, hml, hown, hts⟩ (c_X4_hash l dC dI cI cJ cZ lo _ mo th zs rq k l0 ti mct n d1 d2 d3 d4 d5 d6 kc e1 e2 e3 e4 e5 x0 x1 x2 x3 ((((xs (ix + 1)).toInt64) <<< ((32 : Int32).toInt64 &&& 63)) ||| (((xs (ix + 2)).toInt64) &&& 4294967295)) ((((xs (ix + 3)).toInt64) <<< ((32 : Int32).toInt64 &&& 63)) ||| (((xs (ix + 4)).toInt64) &&& 4294967295))) (cwV 2 hts gL_law_X4_hash rfl rfl rfl (by decide +kernel) ⟨(Nat.le_of_ble_eq_true rfl), (Nat.le_of_ble_eq_true rfl)⟩) ⟨ck_blind, va_recv hK hP (ci := 4) (q0 := 9) rfl rfl, (ck_pre hG hP hD hS [9] rfl (by decide) _)⟩ rfl rfl hl.1 rfl (lv_room (Nat.le_of_ble_eq_true rfl)) dL_law_831 ⟨ck_le1 (by omega), ck_le2 (by omega)⟩) hP hD hS hA [9] [0, 1, 2, 3, 4, 5, 6, 7, 8, 10, 11, 12, 13, 14, 15, 16, 17, 18, 19, 20, 21, 22, 23] rfl rfl (by decide) (by decide) (fun r_2 u H locs hw_2 hP hD hS => ?_)
  obtain ⟨u0_2, u1_2, u2_2, u3_2⟩ := u
  have hw_2 : r_2 = ck_sip k l0 ((((xs (ix + 1)).toInt64) <<< ((32 : Int32).toInt64 &&& 63)) ||| (((xs (ix + 2)).toInt64) &&& 4294967295)) ((((xs (ix + 3)).toInt64) <<< ((32 : Int32).toInt64 &&& 63)) ||| (((xs (ix + 4)).toInt64) &&& 4294967295)) := hw_2
  have hP : va_P (dC, dI) vwCl [(h, .inr (1, [.ref a1, .ref a2, .ref a3, .ref a4, .ref a5, .int (nI n)])), (a1, .inl (cJ, 32, .inr (.inl f1))), (a2, .inl (cI, 32, .inl f2)), (a3, .inl (cI, 32, .inl f3)), (a4, .inl (cI, 32, .inl f4)), (a5, .inl (cI, 32, .inl f5)), (cn, .inr (0, [.ref b1, .ref b2, .int (nI kc), .int (nI t)])), (b1, .inl (cJ, 64, .inr (.inl g1))), (b2, .inl (cI, 64, .inl g2)), (d1, .inl (cI, 32, .inl p1)), (d2, .inl (cI, 32, .inl p2)), (d3, .inl (cI, 32, .inl p3)), (d4, .inl (cI, 32, .inl p4)), (d5, .inl (cI, 32, .inl p5)), (d6, .inl (cI, 32, .inl p6)), (e1, .inl (cI, 64, .inl t1)), (e2, .inl (cI, 64, .inl t2)), (e3, .inl (cI, 64, .inl t3)), (e4, .inl (cZ, 64, .inl t4)), (e5, .inl (cI, 4, .inl cs)), (ou, .inl (cJ, 1, .inr (.inl ov))), (o, .inr (3, [.ref sp, .ref h, .ref cn, .int zs, .int rq, .int ti, .int ct, .int gv, .int bh, .int bc, .int un])), (sp, .inr (2, [.long k, .long l0, .long u0_1, .long u1_1, .long u2_1, .long u3_1])), (mo, .inr (4, [.int 0, .int zs, .int rq, .long k, .long l0, .int ti, .int mct, .int (nI n), .ref d1, .ref d2, .ref d3, .ref d4, .ref d5, .ref d6, .int (nI kc), .ref e1, .ref e2, .ref e3, .ref e4, .ref e5, .long u0_2, .long u1_2, .long u2_2, .long u3_2]))] H := hP
  have hD : va_D A [(h, .inr (1, [.ref a1, .ref a2, .ref a3, .ref a4, .ref a5, .int (nI n)])), (a1, .inl (cJ, 32, .inr (.inl f1))), (a2, .inl (cI, 32, .inl f2)), (a3, .inl (cI, 32, .inl f3)), (a4, .inl (cI, 32, .inl f4)), (a5, .inl (cI, 32, .inl f5)), (cn, .inr (0, [.ref b1, .ref b2, .int (nI kc), .int (nI t)])), (b1, .inl (cJ, 64, .inr (.inl g1))), (b2, .inl (cI, 64, .inl g2)), (d1, .inl (cI, 32, .inl p1)), (d2, .inl (cI, 32, .inl p2)), (d3, .inl (cI, 32, .inl p3)), (d4, .inl (cI, 32, .inl p4)), (d5, .inl (cI, 32, .inl p5)), (d6, .inl (cI, 32, .inl p6)), (e1, .inl (cI, 64, .inl t1)), (e2, .inl (cI, 64, .inl t2)), (e3, .inl (cI, 64, .inl t3)), (e4, .inl (cZ, 64, .inl t4)), (e5, .inl (cI, 4, .inl cs)), (ou, .inl (cJ, 1, .inr (.inl ov))), (o, .inr (3, [.ref sp, .ref h, .ref cn, .int zs, .int rq, .int ti, .int ct, .int gv, .int bh, .int bc, .int un])), (sp, .inr (2, [.long k, .long l0, .long u0_1, .long u1_1, .long u2_1, .long u3_1])), (mo, .inr (4, [.int 0, .int zs, .int rq, .long k, .long l0, .int ti, .int mct, .int (nI n), .ref d1, .ref d2, .ref d3, .ref d4, .ref d5, .ref d6, .int (nI kc), .ref e1, .ref e2, .ref e3, .ref e4, .ref e5, .long u0_2, .long u1_2, .long u2_2, .long u3_2]))] := hD
  refine W.lcmp hx hb dL_law_834 ?_
  refine lv_if_eq (tgt := 896) hx hb dL_law_835 (by decide) (fun c_835 => ?_) (fun c_835 => ?_)
  · skip
    refine W.widen (k := cells + 1) (n := slots + 6) (by omega) (by omega) ?_
    exact hc zs rq ti ct gv bh bc un k l0 u0_1 u1_1 u2_1 u3_1 n f1 f2 f3 f4 f5 kc t g1 g2 0 mct u0_2 u1_2 u2_2 u3_2 p1 p2 p3 p4 p5 p6 t1 t2 t3 t4 cs ov (hI.up) _ _ _ (hP.sub [21, 22, 0, 1, 2, 3, 4, 5, 6, 7, 8, 23, 9, 10, 11, 12, 13, 14, 15, 16, 17, 18, 19, 20] rfl) (hD.sub [21, 22, 0, 1, 2, 3, 4, 5, 6, 7, 8, 23, 9, 10, 11, 12, 13, 14, 15, 16, 17, 18, 19, 20] (by decide) rfl) hS (lv_sub hl [0, 1, 2, 3, 4] rfl)
  · skip
    exact absurd (by rw [hw_1, hw_2]; exact ck_cmp0 _) c_835
