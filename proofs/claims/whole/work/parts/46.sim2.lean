theorem ck_I.up {J : Nat} {zs ti ct gv bh bc un : Int32} {n : Nat} {f1 : Nat → Int64} {f2 f3 f4 f5 : Nat → Int32} {kc t : Nat} {g1 : Nat → Int64} {g2 : Nat → Int32} {mct : Int32} {p1 p2 p3 p4 p5 p6 t1 t2 t3 t4 cs : Nat → Int32} (I : ck_I J zs ti ct gv bh bc un n f1 f2 f3 f4 f5 kc t g1 g2 mct p1 p2 p3 p4 p5 p6 t1 t2 t3 t4 cs) : ck_I (J + 1) zs ti ct gv bh bc un n f1 f2 f3 f4 f5 kc t g1 g2 mct p1 p2 p3 p4 p5 p6 t1 t2 t3 t4 cs := ⟨I.1, I.2.1.up, I.2.2⟩
theorem ck_I.rooms {zs2 : Int32} {J : Nat} {zs ti ct gv bh bc un : Int32} {n : Nat} {f1 : Nat → Int64} {f2 f3 f4 f5 : Nat → Int32} {kc t : Nat} {g1 : Nat → Int64} {g2 : Nat → Int32} {mct : Int32} {p1 p2 p3 p4 p5 p6 t1 t2 t3 t4 cs : Nat → Int32} (I : ck_I J zs ti ct gv bh bc un n f1 f2 f3 f4 f5 kc t g1 g2 mct p1 p2 p3 p4 p5 p6 t1 t2 t3 t4 cs) (h : zs2 ≤ 32) : ck_I (J + 1) zs2 ti ct gv bh bc un n f1 f2 f3 f4 f5 kc t g1 g2 mct p1 p2 p3 p4 p5 p6 t1 t2 t3 t4 cs := ⟨h, I.2.1.up, I.2.2⟩
theorem ck_s_pass {J : Nat} {zs ti ct gv bh bc un : Int32} {n : Nat} {f1 : Nat → Int64} {f2 f3 f4 f5 : Nat → Int32} {kc t : Nat} {g1 : Nat → Int64} {g2 : Nat → Int32} {mct : Int32} {p1 p2 p3 p4 p5 p6 t1 t2 t3 t4 cs : Nat → Int32} {se rv r ti2 mti2 : Int32} {n2 m2 : Nat} {w1 : Nat → Int64} {w2 w3 w4 w5 : Nat → Int32} {z1 z2 z3 z4 z5 z6 : Nat → Int32} (I : ck_I J zs ti ct gv bh bc un n f1 f2 f3 f4 f5 kc t g1 g2 mct p1 p2 p3 p4 p5 p6 t1 t2 t3 t4 cs) (h1 : 0 ≤ se) (h2 : se ≤ 10000) (h : ti2 = ti + se ∧ rv = ti + se ∧ n2 ≤ n ∧ (ck_L n2 (ck_R w1 w2 w3 w4 w5)).Perm ((ck_L n (ck_R f1 f2 f3 f4 f5)).filter (ck_yng (ti + se)))) (h' : mti2 = ti + se ∧ r = ti + se ∧ m2 ≤ n ∧ (ck_L m2 (ck_M z1 z2 z3 z4 z5 z6)).Perm ((ck_L n (ck_M p1 p2 p3 p4 p5 p6)).filter (ck_yng (ti + se))) ∧ ∀ i, i < m2 → ck_pok (z2 i)) : rv = r ∧ ti2 = mti2 ∧ n2 = m2 ∧ ck_I (J + 1) zs ti2 ct gv bh bc un n2 w1 w2 w3 w4 w5 kc t g1 g2 mct z1 z2 z3 z4 z5 z6 t1 t2 t3 t4 cs := by
  obtain ⟨e1, e2, e3, e4⟩ := h
  obtain ⟨y1, y2, y3, y4, y5⟩ := h'
  obtain ⟨i1, i2, ⟨i3, i4, i5, i6⟩, i7⟩ := I
  have hp := (e4.trans (i4.filter _)).trans y4.symm
  have hn : n2 = m2 := by
    have := hp.length_eq
    rwa [ck_L_len, ck_L_len] at this
  subst hn
  subst e1 e2 y1 y2
  exact ⟨rfl, rfl, rfl, i1, i2.pass h1 h2, ⟨by omega, hp, (ck_ks_perm y4).mpr (ck_ks_sub List.filter_sublist i5), y5⟩, i7⟩
theorem ck_s_syn {k l0 : Int64} {J : Nat} {zs ti ct gv bh bc un : Int32} {n : Nat} {f1 : Nat → Int64} {f2 f3 f4 f5 : Nat → Int32} {kc t : Nat} {g1 : Nat → Int64} {g2 : Nat → Int32} {mct : Int32} {p1 p2 p3 p4 p5 p6 t1 t2 t3 t4 cs : Nat → Int32} {aa bb num z : Int32} {rv r : Int64} {ct2 gv2 mct2 : Int32} {n2 m2 : Nat} {w1 : Nat → Int64} {w2 w3 w4 w5 : Nat → Int32} {z1 z2 z3 z4 z5 z6 : Nat → Int32} {c2 : Nat → Int32} (I : ck_I J zs ti ct gv bh bc un n f1 f2 f3 f4 f5 kc t g1 g2 mct p1 p2 p3 p4 p5 p6 t1 t2 t3 t4 cs) (hJ : J < 512) (hb1 : 0 ≤ bb) (hb2 : bb ≤ 65535) (h : ((∃ j, j < kc ∧ g1 j = ck_clr aa bb) ∧ rv = -1 ∧ gv2 = gv ∧ ct2 = ct ∧ n2 = n ∧ w1 = f1 ∧ w2 = f2 ∧ w3 = f3 ∧ w4 = f4 ∧ w5 = f5) ∨ ((∀ i, i < kc → g1 i ≠ ck_clr aa bb) ∧ (∃ j, j < n ∧ f1 j = ck_clr aa bb ∧ f2 j = num ∧ rv = ck_wos (f3 j)) ∧ gv2 = gv ∧ ct2 = ct ∧ n2 = n ∧ w1 = f1 ∧ w2 = f2 ∧ w3 = f3 ∧ w4 = f4 ∧ w5 = f5) ∨ ((∀ i, i < kc → g1 i ≠ ck_clr aa bb) ∧ ∃ n1 F1, ck_lft n (ck_R f1 f2 f3 f4 f5) (ck_clr aa bb) num n1 F1 ∧ ((¬ nI n1 < zs ∧ rv = ck_wos (ck_ckk k l0 (ck_clr aa bb) num (ck_kdi 8 z) (ti / 64)) ∧ gv2 = gv + 1 ∧ ct2 = ti ∧ n2 = n1 ∧ ck_L n2 (ck_R w1 w2 w3 w4 w5) = ck_L n1 F1) ∨ (nI n1 < zs ∧ rv = ck_wos (ck_ckk k l0 (ck_clr aa bb) num (ck_kdi 8 z) (ti / 64) ^^^ (-16777216)) ∧ gv2 = gv ∧ ct2 = ct ∧ n2 = n1 + 1 ∧ ck_L n2 (ck_R w1 w2 w3 w4 w5) = ck_L n1 F1 ++ [(ck_clr aa bb, num, ck_ckk k l0 (ck_clr aa bb) num (ck_kdi 8 z) (ti / 64) ^^^ (-16777216), ck_kdi 8 z, ti)])))) (h' : ((∃ j, j < kc ∧ t1 j = aa ∧ t2 j = bb) ∧ r = -1 ∧ mct2 = mct ∧ m2 = n ∧ z1 = p1 ∧ z2 = p2 ∧ z3 = p3 ∧ z4 = p4 ∧ z5 = p5 ∧ z6 = p6 ∧ c2 = cs) ∨ ((∀ i, i < kc → ¬ (t1 i = aa ∧ t2 i = bb)) ∧ (∃ j, j < n ∧ p1 j = aa ∧ p2 j = bb ∧ p3 j = num ∧ r = ck_wos (p4 j)) ∧ mct2 = mct ∧ m2 = n ∧ z1 = p1 ∧ z2 = p2 ∧ z3 = p3 ∧ z4 = p4 ∧ z5 = p5 ∧ z6 = p6 ∧ c2 = cs) ∨ ((∀ i, i < kc → ¬ (t1 i = aa ∧ t2 i = bb)) ∧ (∀ i, i < m2 → ck_pok (z2 i)) ∧ ∃ n1 G1, ck_mlf n (ck_M p1 p2 p3 p4 p5 p6) p1 p2 aa bb num n1 G1 ∧ ((¬ nI n1 < zs ∧ r = ck_wos (ck_mck k l0 aa bb num (ck_kdi 8 z) (ti / 64)) ∧ mct2 = ti ∧ c2 = upd cs 0 (cs 0 + 1) ∧ m2 = n1 ∧ ck_L m2 (ck_M z1 z2 z3 z4 z5 z6) = ck_L n1 G1) ∨ (nI n1 < zs ∧ r = ck_wos (ck_mck k l0 aa bb num (ck_kdi 8 z) (ti / 64) ^^^ (-16777216)) ∧ mct2 = mct ∧ c2 = cs ∧ m2 = n1 + 1 ∧ ck_L m2 (ck_M z1 z2 z3 z4 z5 z6) = ck_L n1 G1 ++ [(ck_clr aa bb, num, ck_mck k l0 aa bb num (ck_kdi 8 z) (ti / 64) ^^^ (-16777216), ck_kdi 8 z, ti)])))) : rv = r ∧ n2 = m2 ∧ ck_I (J + 1) zs ti ct2 gv2 bh bc un n2 w1 w2 w3 w4 w5 kc t g1 g2 mct2 z1 z2 z3 z4 z5 z6 t1 t2 t3 t4 c2 := by
  have hb : ck_pok bb := ⟨hb1, hb2⟩
  obtain ⟨i1, i2, i3, i4, i5, i6, i7, i8⟩ := I
  have hs := (i2.sl hJ).1
  rcases h with ⟨ho, er, a1, a2, a3, a4, a5, a6, a7, a8⟩ | ⟨hno, ⟨j, hj, ej, en, er⟩, a1, a2, a3, a4, a5, a6, a7, a8⟩ | ⟨hno, n1, F1, hl, hz⟩
  · rcases h' with ⟨-, er', b1, b2, b3, b4, b5, b6, b7, b8, b9⟩ | ⟨hno', -⟩ | ⟨hno', -⟩
    · subst a1 a2 a3 a4 a5 a6 a7 a8 b1 b3 b4 b5 b6 b7 b8 b9
      exact ⟨er.trans er'.symm, b2.symm, i1, i2.up, i3, i4, i5, i6, i7, i8⟩
    · obtain ⟨j, hj, ej⟩ := (ck_oe i4 hb).mp ho; exact absurd ej (hno' j hj)
    · obtain ⟨j, hj, ej⟩ := (ck_oe i4 hb).mp ho; exact absurd ej (hno' j hj)
  · rcases h' with ⟨ho', -⟩ | ⟨-, ⟨j', hj', x1, x2, x3, er'⟩, b1, b2, b3, b4, b5, b6, b7, b8, b9⟩ | ⟨-, -, m1, G1, hm, -⟩
    · obtain ⟨j, hj, ej⟩ := (ck_oe i4 hb).mpr ho'; exact absurd ej (hno j hj)
    · obtain ⟨-, q2, -⟩ := ck_eqs (ck_two i3 hj hj' ej (ck_Mkey x1 x2))
      subst a1 a2 a3 a4 a5 a6 a7 a8 b1 b3 b4 b5 b6 b7 b8 b9
      exact ⟨by rw [er, er', q2], b2.symm, i1, i2.up, i3, i4, i5, i6, i7, i8⟩
    · exfalso
      rcases hm with ⟨y1, -⟩ | ⟨j', hj', x1, x2, x3, -⟩
      · obtain ⟨i, hi, ei⟩ := (ck_hn i3 hb).mp ⟨j, hj, ej⟩; exact y1 i hi ei
      · obtain ⟨q1, -, -⟩ := ck_eqs (ck_two i3 hj hj' ej (ck_Mkey x1 x2))
        exact x3 (q1.symm.trans en)
  · rcases h' with ⟨ho', -⟩ | ⟨-, ⟨j', hj', x1, x2, x3, er'⟩, -⟩ | ⟨-, hpk, m1, G1, hm, hy⟩
    · obtain ⟨j, hj, ej⟩ := (ck_oe i4 hb).mpr ho'; exact absurd ej (hno j hj)
    · exfalso
      rcases hl with ⟨y1, -⟩ | ⟨j, hj, ej, en, -⟩
      · obtain ⟨i, hi, ei⟩ := (ck_hn i3 hb).mpr ⟨j', hj', x1, x2⟩; exact y1 i hi ei
      · obtain ⟨q1, -, -⟩ := ck_eqs (ck_two i3 hj hj' ej (ck_Mkey x1 x2))
        exact en (q1.trans x3)
    · obtain ⟨e1, e0, e2, e3, e4⟩ := ck_lft_sim i3 hb hl hm
      subst e1
      rw [← ck_same hb hs] at hy
      rcases hz with ⟨c1, er, a1, a2, a3, a4⟩ | ⟨c1, er, a1, a2, a3, a4⟩
      · rcases hy with ⟨d1, er', b1, b2, b3, b4⟩ | ⟨d1, -⟩
        · subst a1 a2 a3 b1 b2 b3
          refine ⟨er.trans er'.symm, rfl, i1, i2.given hJ, ⟨Nat.le_trans e0 i3.1, ?_, ?_, hpk⟩, i4, ?_, i6, i7, i8⟩
          · rw [a4, b4]; exact e2
          · rw [b4]; exact e3
          · show upd cs 0 (cs 0 + 1) 0 = _
            rw [i5]; rfl
        · exact absurd d1 c1
      · rcases hy with ⟨d1, -⟩ | ⟨d1, er', b1, b2, b3, b4⟩
        · exact absurd c1 d1
        · subst a1 a2 a3 b1 b2 b3
          have hn32 := ck_ltz c1 i1 (Nat.le_trans e0 i3.1)
          refine ⟨er.trans er'.symm, rfl, i1, i2.up, ⟨by omega, ?_, ?_, hpk⟩, i4, i5, i6, i7, i8⟩
          · rw [a4, b4]; exact e2.append (List.Perm.refl _)
          · rw [b4]; exact ck_addnd e3 e4
theorem ck_s_ack {k l0 : Int64} {J : Nat} {zs rq ti ct gv bh bc un : Int32} {n : Nat} {f1 : Nat → Int64} {f2 f3 f4 f5 : Nat → Int32} {kc t : Nat} {g1 : Nat → Int64} {g2 : Nat → Int32} {mct : Int32} {p1 p2 p3 p4 p5 p6 t1 t2 t3 t4 cs : Nat → Int32} {aa bb na nb : Int32} {rv r : Int32} {bh2 bc2 un2 : Int32} {n2 m2 k2 mk2 : Nat} {w1 : Nat → Int64} {w2 w3 w4 w5 : Nat → Int32} {q1 : Nat → Int64} {q2 : Nat → Int32} {z1 z2 z3 z4 z5 z6 : Nat → Int32} {o1 o2 o3 o4 c2 : Nat → Int32} (I : ck_I J zs ti ct gv bh bc un n f1 f2 f3 f4 f5 kc t g1 g2 mct p1 p2 p3 p4 p5 p6 t1 t2 t3 t4 cs) (hJ : J < 512) (hb1 : 0 ≤ bb) (hb2 : bb ≤ 65535) (h : ((∃ j, j < kc ∧ g1 j = ck_clr aa bb) ∧ rv = 1 ∧ un2 = un ∧ bh2 = bh ∧ bc2 = bc ∧ n2 = n ∧ w1 = f1 ∧ w2 = f2 ∧ w3 = f3 ∧ w4 = f4 ∧ w5 = f5 ∧ k2 = kc ∧ q1 = g1 ∧ q2 = g2) ∨ ((∀ i, i < kc → g1 i ≠ ck_clr aa bb) ∧ ∃ j, j < n ∧ f1 j = ck_clr aa bb ∧ ((¬ (f2 j = na - 1 ∧ f3 j = nb - 1) ∧ rv = 4 ∧ un2 = un ∧ bh2 = bh ∧ bc2 = bc ∧ n2 = n ∧ w1 = f1 ∧ w2 = f2 ∧ w3 = f3 ∧ w4 = f4 ∧ w5 = f5 ∧ k2 = kc ∧ q1 = g1 ∧ q2 = g2) ∨ ((f2 j = na - 1 ∧ f3 j = nb - 1) ∧ ¬ (nI (kc - t) < rq ∧ kc < 64) ∧ rv = 3 ∧ un2 = un ∧ bh2 = bh ∧ bc2 = bc ∧ n2 = n ∧ w1 = f1 ∧ w2 = f2 ∧ w3 = f3 ∧ w4 = f4 ∧ w5 = f5 ∧ k2 = kc ∧ q1 = g1 ∧ q2 = g2) ∨ ((f2 j = na - 1 ∧ f3 j = nb - 1) ∧ (nI (kc - t) < rq ∧ kc < 64) ∧ rv = 2 ∧ un2 = un ∧ bh2 = bh + 1 ∧ bc2 = bc ∧ n = n2 + 1 ∧ ck_gone n2 (ck_R f1 f2 f3 f4 f5) (ck_R w1 w2 w3 w4 w5) j ∧ k2 = kc + 1 ∧ q1 = vp_updL g1 kc (ck_clr aa bb) ∧ q2 = upd g2 kc (f4 j)))) ∨ ((∀ i, i < kc → g1 i ≠ ck_clr aa bb) ∧ (∀ i, i < n → f1 i ≠ ck_clr aa bb) ∧ n2 = n ∧ w1 = f1 ∧ w2 = f2 ∧ w3 = f3 ∧ w4 = f4 ∧ w5 = f5 ∧ bh2 = bh ∧ ((¬ ck_lately gv ti ct ∧ rv = 8 ∧ un2 = un + 1 ∧ bc2 = bc ∧ k2 = kc ∧ q1 = g1 ∧ q2 = g2) ∨ (ck_lately gv ti ct ∧ ¬ ck_late k l0 (ck_clr aa bb) (na - 1) ((((nb - 1).toUInt32 >>> ((24 : Int32).toUInt32 &&& Int32.toUInt32 31)).toInt32) &&& 7) ti (nb - 1) ∧ rv = 7 ∧ un2 = un + 1 ∧ bc2 = bc ∧ k2 = kc ∧ q1 = g1 ∧ q2 = g2) ∨ (ck_lately gv ti ct ∧ ck_late k l0 (ck_clr aa bb) (na - 1) ((((nb - 1).toUInt32 >>> ((24 : Int32).toUInt32 &&& Int32.toUInt32 31)).toInt32) &&& 7) ti (nb - 1) ∧ ¬ (nI (kc - t) < rq ∧ kc < 64) ∧ rv = 6 ∧ un2 = un ∧ bc2 = bc ∧ k2 = kc ∧ q1 = g1 ∧ q2 = g2) ∨ (ck_lately gv ti ct ∧ ck_late k l0 (ck_clr aa bb) (na - 1) ((((nb - 1).toUInt32 >>> ((24 : Int32).toUInt32 &&& Int32.toUInt32 31)).toInt32) &&& 7) ti (nb - 1) ∧ (nI (kc - t) < rq ∧ kc < 64) ∧ rv = 5 ∧ un2 = un ∧ bc2 = bc + 1 ∧ k2 = kc + 1 ∧ q1 = vp_updL g1 kc (ck_clr aa bb) ∧ q2 = upd g2 kc ((((nb - 1).toUInt32 >>> ((24 : Int32).toUInt32 &&& Int32.toUInt32 31)).toInt32) &&& 7))))) (h' : ((∃ j, j < kc ∧ t1 j = aa ∧ t2 j = bb) ∧ r = 1 ∧ c2 = cs ∧ m2 = n ∧ z1 = p1 ∧ z2 = p2 ∧ z3 = p3 ∧ z4 = p4 ∧ z5 = p5 ∧ z6 = p6 ∧ mk2 = kc ∧ o1 = t1 ∧ o2 = t2 ∧ o3 = t3 ∧ o4 = t4) ∨ ((∀ i, i < kc → ¬ (t1 i = aa ∧ t2 i = bb)) ∧ ∃ j, j < n ∧ p1 j = aa ∧ p2 j = bb ∧ ((¬ (p3 j = na - 1 ∧ p4 j = nb - 1) ∧ r = 4 ∧ c2 = cs ∧ m2 = n ∧ z1 = p1 ∧ z2 = p2 ∧ z3 = p3 ∧ z4 = p4 ∧ z5 = p5 ∧ z6 = p6 ∧ mk2 = kc ∧ o1 = t1 ∧ o2 = t2 ∧ o3 = t3 ∧ o4 = t4) ∨ ((p3 j = na - 1 ∧ p4 j = nb - 1) ∧ ¬ (nI (ck_cnt kc t4) < rq ∧ kc < 64) ∧ r = 3 ∧ c2 = cs ∧ m2 = n ∧ z1 = p1 ∧ z2 = p2 ∧ z3 = p3 ∧ z4 = p4 ∧ z5 = p5 ∧ z6 = p6 ∧ mk2 = kc ∧ o1 = t1 ∧ o2 = t2 ∧ o3 = t3 ∧ o4 = t4) ∨ ((p3 j = na - 1 ∧ p4 j = nb - 1) ∧ (nI (ck_cnt kc t4) < rq ∧ kc < 64) ∧ r = 2 ∧ c2 = upd cs 1 (cs 1 + 1) ∧ n = m2 + 1 ∧ ck_gone m2 (ck_M p1 p2 p3 p4 p5 p6) (ck_M z1 z2 z3 z4 z5 z6) j ∧ (∀ i, i < m2 → ck_pok (z2 i)) ∧ mk2 = kc + 1 ∧ o1 = upd t1 kc aa ∧ o2 = upd t2 kc bb ∧ o3 = upd t3 kc (p5 j) ∧ o4 = upd t4 kc 0))) ∨ ((∀ i, i < kc → ¬ (t1 i = aa ∧ t2 i = bb)) ∧ (∀ i, i < n → ¬ (p1 i = aa ∧ p2 i = bb)) ∧ m2 = n ∧ z1 = p1 ∧ z2 = p2 ∧ z3 = p3 ∧ z4 = p4 ∧ z5 = p5 ∧ z6 = p6 ∧ ((¬ ck_mly mct ti ∧ r = 8 ∧ c2 = upd cs 3 (cs 3 + 1) ∧ mk2 = kc ∧ o1 = t1 ∧ o2 = t2 ∧ o3 = t3 ∧ o4 = t4) ∨ (ck_mly mct ti ∧ ¬ ck_mlate k l0 aa bb (na - 1) ((((nb - 1).toUInt32 >>> ((24 : Int32).toUInt32 &&& Int32.toUInt32 31)).toInt32) &&& 7) ti (nb - 1) ∧ r = 7 ∧ c2 = upd cs 3 (cs 3 + 1) ∧ mk2 = kc ∧ o1 = t1 ∧ o2 = t2 ∧ o3 = t3 ∧ o4 = t4) ∨ (ck_mly mct ti ∧ ck_mlate k l0 aa bb (na - 1) ((((nb - 1).toUInt32 >>> ((24 : Int32).toUInt32 &&& Int32.toUInt32 31)).toInt32) &&& 7) ti (nb - 1) ∧ ¬ (nI (ck_cnt kc t4) < rq ∧ kc < 64) ∧ r = 6 ∧ c2 = cs ∧ mk2 = kc ∧ o1 = t1 ∧ o2 = t2 ∧ o3 = t3 ∧ o4 = t4) ∨ (ck_mly mct ti ∧ ck_mlate k l0 aa bb (na - 1) ((((nb - 1).toUInt32 >>> ((24 : Int32).toUInt32 &&& Int32.toUInt32 31)).toInt32) &&& 7) ti (nb - 1) ∧ (nI (ck_cnt kc t4) < rq ∧ kc < 64) ∧ r = 5 ∧ c2 = upd cs 2 (cs 2 + 1) ∧ mk2 = kc + 1 ∧ o1 = upd t1 kc aa ∧ o2 = upd t2 kc bb ∧ o3 = upd t3 kc ((((nb - 1).toUInt32 >>> ((24 : Int32).toUInt32 &&& Int32.toUInt32 31)).toInt32) &&& 7) ∧ o4 = upd t4 kc 0)))) : rv = r ∧ n2 = m2 ∧ k2 = mk2 ∧ ck_I (J + 1) zs ti ct gv bh2 bc2 un2 n2 w1 w2 w3 w4 w5 k2 t q1 q2 mct z1 z2 z3 z4 z5 z6 o1 o2 o3 o4 c2 := by
  have hb : ck_pok bb := ⟨hb1, hb2⟩
  obtain ⟨i1, i2, i3, i4, i5, i6, i7, i8⟩ := I
  have hLY := i2.ly
  have hLT := i2.late hJ (k := k) (l := l0) (a := aa) (num := na - 1) (kd := ((((nb - 1).toUInt32 >>> ((24 : Int32).toUInt32 &&& Int32.toUInt32 31)).toInt32) &&& 7)) (ca := nb - 1) hb
  rw [ck_wt i4, ← hLY, ← hLT] at h'
  rcases h with ⟨ho, er, a1, a2, a3, a4, a5, a6, a7, a8, a9, a10, a11, a12⟩ | ⟨hno, j, hj, ej, hz⟩ | ⟨hno, hnh, a4, a5, a6, a7, a8, a9, a2, hz⟩
  · rcases h' with ⟨-, er', b0, b1, b2, b3, b4, b5, b6, b7, b8, b9, b10, b11, b12⟩ | ⟨hno', -⟩ | ⟨hno', -⟩
    · subst a1 a2 a3 a4 a5 a6 a7 a8 a9 a10 a11 a12 b0 b2 b3 b4 b5 b6 b7 b9 b10 b11 b12
      exact ⟨er.trans er'.symm, b1.symm, b8.symm, i1, i2.up, i3, i4, i5, i6, i7, i8⟩
    · obtain ⟨j, hj, ej⟩ := (ck_oe i4 hb).mp ho; exact absurd ej (hno' j hj)
    · obtain ⟨j, hj, ej⟩ := (ck_oe i4 hb).mp ho; exact absurd ej (hno' j hj)
  · rcases h' with ⟨ho', -⟩ | ⟨-, j', hj', x1, x2, hy⟩ | ⟨-, hnh', -⟩
    · obtain ⟨j, hj, ej⟩ := (ck_oe i4 hb).mpr ho'; exact absurd ej (hno j hj)
    · obtain ⟨u1, u2, u3⟩ := ck_eqs (ck_two i3 hj hj' ej (ck_Mkey x1 x2))
      rw [u1, u2] at hz
      rcases hz with ⟨c1, er, a1, a2, a3, a4, a5, a6, a7, a8, a9, a10, a11, a12⟩ | ⟨c1, c2, er, a1, a2, a3, a4, a5, a6, a7, a8, a9, a10, a11, a12⟩ | ⟨c1, c2, er, a1, a2, a3, a4, a5, a6, a7, a8⟩
      · rcases hy with ⟨d1, er', b0, b1, b2, b3, b4, b5, b6, b7, b8, b9, b10, b11, b12⟩ | ⟨d1, -⟩ | ⟨d1, -⟩
        · subst a1 a2 a3 a4 a5 a6 a7 a8 a9 a10 a11 a12 b0 b2 b3 b4 b5 b6 b7 b9 b10 b11 b12
          exact ⟨er.trans er'.symm, b1.symm, b8.symm, i1, i2.up, i3, i4, i5, i6, i7, i8⟩
        · exact absurd d1 c1
        · exact absurd d1 c1
      · rcases hy with ⟨d1, -⟩ | ⟨d1, d2, er', b0, b1, b2, b3, b4, b5, b6, b7, b8, b9, b10, b11, b12⟩ | ⟨d1, d2, -⟩
        · exact absurd c1 d1
        · subst a1 a2 a3 a4 a5 a6 a7 a8 a9 a10 a11 a12 b0 b2 b3 b4 b5 b6 b7 b9 b10 b11 b12
          exact ⟨er.trans er'.symm, b1.symm, b8.symm, i1, i2.up, i3, i4, i5, i6, i7, i8⟩
        · exact absurd d2 c2
      · rcases hy with ⟨d1, -⟩ | ⟨d1, d2, -⟩ | ⟨d1, d2, er', b0, b1, b2, b3, b4, b5, b6, b7, b8⟩
        · exact absurd c1 d1
        · exact absurd c2 d2
        · have e9 : m2 = n2 := by omega
          subst e9
          subst a4
          obtain ⟨g3, g4, g5⟩ := ck_gone2 i3 hj hj' ej (ck_Mkey x1 x2) a5 b2
          have hk := i3.1
          subst a1 a2 a3 a6 a7 a8 b0 b4 b5 b6 b7 b8
          refine ⟨er.trans er'.symm, rfl, rfl, i1, i2.up, ⟨by omega, g3, g4, b3⟩, ?_, ?_, ?_, ?_, ?_⟩
          · rw [u3]; exact ck_IC_add i4 c2.2 hb hno
          · exact i5
          · show cs 1 + 1 = _
            rw [i6]
          · exact i7
          · exact i8
    · obtain ⟨i, hi, ei⟩ := (ck_hn i3 hb).mp ⟨j, hj, ej⟩; exact absurd ei (hnh' i hi)
  · rcases h' with ⟨ho', -⟩ | ⟨-, j', hj', x1, x2, -⟩ | ⟨-, -, b1, b2, b3, b4, b5, b6, b7, hy⟩
    · obtain ⟨j, hj, ej⟩ := (ck_oe i4 hb).mpr ho'; exact absurd ej (hno j hj)
    · obtain ⟨i, hi, ei⟩ := (ck_hn i3 hb).mpr ⟨j', hj', x1, x2⟩; exact absurd ei (hnh i hi)
    · subst a4 a5 a6 a7 a8 a9 a2 b2 b3 b4 b5 b6 b7
      rcases hz with ⟨c1, er, a1, a3, a10, a11, a12⟩ | ⟨c1, c2, er, a1, a3, a10, a11, a12⟩ | ⟨c1, c2, c3, er, a1, a3, a10, a11, a12⟩ | ⟨c1, c2, c3, er, a1, a3, a10, a11, a12⟩
      · rcases hy with ⟨d1, er', b0, b8, b9, b10, b11, b12⟩ | ⟨d1, d2, er', b0, b8, b9, b10, b11, b12⟩ | ⟨d1, -⟩ | ⟨d1, -⟩
        · subst a1 a3 a10 a11 a12 b0 b9 b10 b11 b12
          exact ⟨er.trans er'.symm, b1.symm, b8.symm, i1, i2.up, i3, i4, i5, i6, i7, by show cs 3 + 1 = _; rw [i8]⟩
        · exact absurd d1 c1
        · exact absurd d1 c1
        · exact absurd d1 c1
      · rcases hy with ⟨d1, -⟩ | ⟨d1, d2, er', b0, b8, b9, b10, b11, b12⟩ | ⟨d1, d2, -⟩ | ⟨d1, d2, -⟩
        · exact absurd c1 d1
        · subst a1 a3 a10 a11 a12 b0 b9 b10 b11 b12
          exact ⟨er.trans er'.symm, b1.symm, b8.symm, i1, i2.up, i3, i4, i5, i6, i7, by show cs 3 + 1 = _; rw [i8]⟩
        · exact absurd d2 c2
        · exact absurd d2 c2
      · rcases hy with ⟨d1, -⟩ | ⟨d1, d2, -⟩ | ⟨d1, d2, d3, er', b0, b8, b9, b10, b11, b12⟩ | ⟨d1, d2, d3, -⟩
        · exact absurd c1 d1
        · exact absurd c2 d2
        · subst a1 a3 a10 a11 a12 b0 b9 b10 b11 b12
          exact ⟨er.trans er'.symm, b1.symm, b8.symm, i1, i2.up, i3, i4, i5, i6, i7, i8⟩
        · exact absurd d3 c3
      · rcases hy with ⟨d1, -⟩ | ⟨d1, d2, -⟩ | ⟨d1, d2, d3, -⟩ | ⟨d1, d2, d3, er', b0, b8, b9, b10, b11, b12⟩
        · exact absurd c1 d1
        · exact absurd c2 d2
        · exact absurd c3 d3
        · subst a1 a3 a10 a11 a12 b0 b8 b9 b10 b11 b12
          exact ⟨er.trans er'.symm, b1.symm, rfl, i1, i2.up, i3, ck_IC_add i4 c3.2 hb hno, i5, i6, by show cs 2 + 1 = _; rw [i7], i8⟩
theorem ck_s_take {J : Nat} {zs ti ct gv bh bc un : Int32} {n : Nat} {f1 : Nat → Int64} {f2 f3 f4 f5 : Nat → Int32} {kc t : Nat} {g1 : Nat → Int64} {g2 : Nat → Int32} {mct : Int32} {p1 p2 p3 p4 p5 p6 t1 t2 t3 t4 cs : Nat → Int32} {rv r : Int32} {tt2 : Nat} {o4 : Nat → Int32} (I : ck_I J zs ti ct gv bh bc un n f1 f2 f3 f4 f5 kc t g1 g2 mct p1 p2 p3 p4 p5 p6 t1 t2 t3 t4 cs) (h : (t < kc ∧ tt2 = t + 1 ∧ rv = ck_prt (g1 t) + (g2 t <<< ((16 : Int32) &&& 31))) ∨ (kc ≤ t ∧ tt2 = t ∧ rv = -1)) (h' : (∃ j, j < kc ∧ (∀ i, i < j → ¬ t4 i = 0) ∧ t4 j = 0 ∧ o4 = upd t4 j 1 ∧ r = t2 j + 65536 * t3 j) ∨ ((∀ i, i < kc → ¬ t4 i = 0) ∧ o4 = t4 ∧ r = -1)) : rv = r ∧ ck_I (J + 1) zs ti ct gv bh bc un n f1 f2 f3 f4 f5 kc tt2 g1 g2 mct p1 p2 p3 p4 p5 p6 t1 t2 t3 o4 cs := by
  obtain ⟨i1, i2, i3, ⟨j1, j2, j3, j4⟩, i5⟩ := I
  rcases h with ⟨c1, c2, er⟩ | ⟨c1, c2, er⟩
  · rcases h' with ⟨j, hj, d1, d2, d3, er'⟩ | ⟨d1, -⟩
    · have hjt : j = t := by
        have h1 : ¬ j < t := fun z => by
          have := (j3 j hj).2.2.1
          rw [if_pos z, d2] at this
          exact absurd this (by decide)
        have h2 : ¬ t < j := fun z => d1 t z (by rw [(j3 t c1).2.2.1, if_neg (Nat.lt_irrefl t)])
        omega
      subst hjt
      subst c2 d3
      obtain ⟨x1, x2, x3, x4⟩ := j3 j hj
      refine ⟨?_, i1, i2.up, i3, ⟨j1, by omega, ?_, j4⟩, i5⟩
      · rw [er, er', x1, ck_prt_clr x4, ck_shl16, x2]
      · intro i hi
        obtain ⟨y1, y2, y3, y4⟩ := j3 i hi
        refine ⟨y1, y2, ?_, y4⟩
        by_cases z : i = j
        · subst z
          rw [if_pos (by omega)]
          simp only [upd, if_true]
        · simp only [upd, if_neg z]
          rw [y3]
          by_cases z2 : i < j
          · rw [if_pos z2, if_pos (by omega)]
          · rw [if_neg z2, if_neg (by omega)]
    · exact absurd (by rw [(j3 t c1).2.2.1, if_neg (Nat.lt_irrefl t)]) (d1 t c1)
  · rcases h' with ⟨j, hj, d1, d2, -⟩ | ⟨d1, d2, er'⟩
    · exfalso
      have := (j3 j hj).2.2.1
      rw [if_pos (by omega), d2] at this
      exact absurd this (by decide)
    · subst c2 d2
      exact ⟨er.trans er'.symm, i1, i2.up, i3, ⟨j1, j2, j3, j4⟩, i5⟩
theorem ck_s_state {J : Nat} {zs ti ct gv bh bc un : Int32} {n : Nat} {f1 : Nat → Int64} {f2 f3 f4 f5 : Nat → Int32} {kc t : Nat} {g1 : Nat → Int64} {g2 : Nat → Int32} {mct : Int32} {p1 p2 p3 p4 p5 p6 t1 t2 t3 t4 cs : Nat → Int32} {aa bb rv r : Int32} (I : ck_I J zs ti ct gv bh bc un n f1 f2 f3 f4 f5 kc t g1 g2 mct p1 p2 p3 p4 p5 p6 t1 t2 t3 t4 cs) (hb1 : 0 ≤ bb) (hb2 : bb ≤ 65535) (h : ck_stt n f1 kc t g1 (ck_clr aa bb) rv) (h' : ck_mst n p1 p2 kc t1 t2 t4 aa bb r) : rv = r := by
  have hb : ck_pok bb := ⟨hb1, hb2⟩
  obtain ⟨i1, i2, i3, i4, i5⟩ := I
  rcases h with ⟨j, hj, ej, hz⟩ | ⟨hno, hz⟩
  · rcases h' with ⟨j', hj', x1, x2, hy⟩ | ⟨hno', -⟩
    · have e9 : j = j' := i4.2.2.2 j j' hj hj' (ej.trans ((ck_on i4 hb hj').mpr ⟨x1, x2⟩).symm)
      subst e9
      have h4 := (i4.2.2.1 j hj).2.2.1
      rcases hz with ⟨c1, er⟩ | ⟨c1, er⟩
      · rw [if_pos c1] at h4
        rcases hy with ⟨d1, er'⟩ | ⟨d1, er'⟩
        · exact er.trans er'.symm
        · rw [d1] at h4; exact absurd h4 (by decide)
      · rw [if_neg (by omega)] at h4
        rcases hy with ⟨d1, er'⟩ | ⟨d1, er'⟩
        · exact absurd h4 d1
        · exact er.trans er'.symm
    · exact absurd ((ck_on i4 hb hj).mp ej) (hno' j hj)
  · rcases h' with ⟨j', hj', x1, x2, -⟩ | ⟨-, hy⟩
    · exact absurd ((ck_on i4 hb hj').mpr ⟨x1, x2⟩) (hno j' hj')
    · rcases hz with ⟨c1, er⟩ | ⟨c1, er⟩
      · rcases hy with ⟨d1, er'⟩ | ⟨d1, er'⟩
        · exact er.trans er'.symm
        · obtain ⟨i, hi, ei⟩ := (ck_hn i3 hb).mp c1; exact absurd ei (d1 i hi)
      · rcases hy with ⟨d1, er'⟩ | ⟨d1, er'⟩
        · obtain ⟨i, hi, ei⟩ := (ck_hn i3 hb).mpr d1; exact absurd ei (c1 i hi)
        · exact er.trans er'.symm
theorem ck_s_close {J : Nat} {zs ti ct gv bh bc un : Int32} {n : Nat} {f1 : Nat → Int64} {f2 f3 f4 f5 : Nat → Int32} {kc t : Nat} {g1 : Nat → Int64} {g2 : Nat → Int32} {mct : Int32} {p1 p2 p3 p4 p5 p6 t1 t2 t3 t4 cs : Nat → Int32} {aa bb rv r : Int32} {n2 m2 k2 mk2 tt2 : Nat} {w1 : Nat → Int64} {w2 w3 w4 w5 : Nat → Int32} {q1 : Nat → Int64} {q2 : Nat → Int32} {z1 z2 z3 z4 z5 z6 : Nat → Int32} {o1 o2 o3 o4 : Nat → Int32} (I : ck_I J zs ti ct gv bh bc un n f1 f2 f3 f4 f5 kc t g1 g2 mct p1 p2 p3 p4 p5 p6 t1 t2 t3 t4 cs) (hb1 : 0 ≤ bb) (hb2 : bb ≤ 65535) (h : ck_stt n f1 kc t g1 (ck_clr aa bb) rv ∧ ((rv = 0 ∧ n2 = n ∧ w1 = f1 ∧ w2 = f2 ∧ w3 = f3 ∧ w4 = f4 ∧ w5 = f5 ∧ k2 = kc ∧ q1 = g1 ∧ q2 = g2 ∧ tt2 = t) ∨ (rv = 1 ∧ (∃ j, j < n ∧ f1 j = ck_clr aa bb ∧ n = n2 + 1 ∧ ck_gone n2 (ck_R f1 f2 f3 f4 f5) (ck_R w1 w2 w3 w4 w5) j) ∧ k2 = kc ∧ q1 = g1 ∧ q2 = g2 ∧ tt2 = t) ∨ ((rv = 2 ∨ rv = 3) ∧ n2 = n ∧ w1 = f1 ∧ w2 = f2 ∧ w3 = f3 ∧ w4 = f4 ∧ w5 = f5 ∧ ∃ j, j < kc ∧ g1 j = ck_clr aa bb ∧ kc = k2 + 1 ∧ tt2 = (if j < t then t - 1 else t) ∧ ck_shf g1 q1 j k2 ∧ ck_shf g2 q2 j k2))) (h' : ck_mst n p1 p2 kc t1 t2 t4 aa bb r ∧ ((r = 0 ∧ m2 = n ∧ z1 = p1 ∧ z2 = p2 ∧ z3 = p3 ∧ z4 = p4 ∧ z5 = p5 ∧ z6 = p6 ∧ mk2 = kc ∧ o1 = t1 ∧ o2 = t2 ∧ o3 = t3 ∧ o4 = t4) ∨ (r = 1 ∧ (∃ j, j < n ∧ p1 j = aa ∧ p2 j = bb ∧ n = m2 + 1 ∧ ck_gone m2 (ck_M p1 p2 p3 p4 p5 p6) (ck_M z1 z2 z3 z4 z5 z6) j ∧ ∀ i, i < m2 → ck_pok (z2 i)) ∧ mk2 = kc ∧ o1 = t1 ∧ o2 = t2 ∧ o3 = t3 ∧ o4 = t4) ∨ ((r = 2 ∨ r = 3) ∧ m2 = n ∧ z1 = p1 ∧ z2 = p2 ∧ z3 = p3 ∧ z4 = p4 ∧ z5 = p5 ∧ z6 = p6 ∧ ∃ j, j < kc ∧ t1 j = aa ∧ t2 j = bb ∧ kc = mk2 + 1 ∧ ck_shf t1 o1 j mk2 ∧ ck_shf t2 o2 j mk2 ∧ ck_shf t3 o3 j mk2 ∧ ck_shf t4 o4 j mk2))) : rv = r ∧ n2 = m2 ∧ k2 = mk2 ∧ ck_I (J + 1) zs ti ct gv bh bc un n2 w1 w2 w3 w4 w5 k2 tt2 q1 q2 mct z1 z2 z3 z4 z5 z6 o1 o2 o3 o4 cs := by
  have hb : ck_pok bb := ⟨hb1, hb2⟩
  obtain ⟨hs, hz⟩ := h
  obtain ⟨hs', hy⟩ := h'
  have er := ck_s_state I hb1 hb2 hs hs'
  subst er
  obtain ⟨i1, i2, i3, i4, i5⟩ := I
  refine ⟨rfl, ?_⟩
  rcases hz with ⟨c1, a1, a2, a3, a4, a5, a6, a7, a8, a9, a10⟩ | ⟨c1, ⟨j, hj, ej, e1, hg⟩, a7, a8, a9, a10⟩ | ⟨c1, a1, a2, a3, a4, a5, a6, j, hj, ej, e1, e2, s1, s2⟩
  · rcases hy with ⟨d1, b1, b2, b3, b4, b5, b6, b7, b8, b9, b10, b11, b12⟩ | ⟨d1, -⟩ | ⟨d1, -⟩
    · subst a1 a2 a3 a4 a5 a6 a7 a8 a9 a10 b2 b3 b4 b5 b6 b7 b9 b10 b11 b12
      exact ⟨b1.symm, b8.symm, i1, i2.up, i3, i4, i5⟩
    · rw [c1] at d1; exact absurd d1 (by decide)
    · rw [c1] at d1; exact absurd d1 (by decide)
  · rcases hy with ⟨d1, -⟩ | ⟨d1, ⟨j', hj', x1, x2, f9, hg', hpk⟩, b8, b9, b10, b11, b12⟩ | ⟨d1, -⟩
    · rw [c1] at d1; exact absurd d1 (by decide)
    · have e9 : m2 = n2 := by omega
      subst e9
      subst e1
      obtain ⟨g3, g4, g5⟩ := ck_gone2 i3 hj hj' ej (ck_Mkey x1 x2) hg hg'
      have hk := i3.1
      subst a7 a8 a9 a10 b9 b10 b11 b12
      exact ⟨rfl, b8.symm, i1, i2.up, ⟨by omega, g3, g4, hpk⟩, i4, i5⟩
    · rw [c1] at d1; exact absurd d1 (by decide)
  · rcases hy with ⟨d1, -⟩ | ⟨d1, -⟩ | ⟨d1, b1, b2, b3, b4, b5, b6, b7, j', hj', x1, x2, f9, v1, v2, v3, v4⟩
    · rw [d1] at c1; exact absurd c1 (by decide)
    · rw [d1] at c1; exact absurd c1 (by decide)
    · have e9 : j = j' := i4.2.2.2 j j' hj hj' (ej.trans ((ck_on i4 hb hj').mpr ⟨x1, x2⟩).symm)
      subst e9
      have e8 : mk2 = k2 := by omega
      subst e8
      subst e1
      subst a1 a2 a3 a4 a5 a6 b2 b3 b4 b5 b6 b7 e2
      exact ⟨b1.symm, rfl, i1, i2.up, i3, ck_IC_drop i4 hj s1 s2 v1 v2 v3 v4, i5⟩
theorem ck_s_cookie {k l0 rv r : Int64} {aa bb num kd sl : Int32} (hb1 : 0 ≤ bb) (hb2 : bb ≤ 65535) (hs1 : 0 ≤ sl) (h : rv = ck_wos (ck_ckk k l0 (ck_clr aa bb) num kd sl)) (h' : r = ck_wos (ck_mck k l0 aa bb num kd sl)) : rv = r := by
  rw [h, h', ck_same ⟨hb1, hb2⟩ hs1]
theorem ck_s_told {J : Nat} {zs ti ct gv bh bc un : Int32} {n : Nat} {f1 : Nat → Int64} {f2 f3 f4 f5 : Nat → Int32} {kc t : Nat} {g1 : Nat → Int64} {g2 : Nat → Int32} {mct : Int32} {p1 p2 p3 p4 p5 p6 t1 t2 t3 t4 cs : Nat → Int32} {w : Nat} {rv r : Int32} (I : ck_I J zs ti ct gv bh bc un n f1 f2 f3 f4 f5 kc t g1 g2 mct p1 p2 p3 p4 p5 p6 t1 t2 t3 t4 cs) (h : rv = ck_tld w n (kc - t) kc gv bh bc un ti) (h' : r = ck_tld w n (ck_cnt kc t4) kc (cs 0) (cs 1) (cs 2) (cs 3) ti) : rv = r := by
  obtain ⟨i1, i2, i3, i4, i5, i6, i7, i8⟩ := I
  rw [h, h', ck_wt i4, i5, i6, i7, i8]
