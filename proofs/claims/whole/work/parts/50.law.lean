set_option maxHeartbeats 4000000 in
set_option maxRecDepth 100000 in
theorem ck_step (p : Program) (l : Launch) (e : Env) (s : State) (m : MethodId) (below : List Frame) (meth : Method) (c : Code) (b L : Nat) (xs : Nat → Int32) (A : Nat → Prop) (dC : Nat → ClassId) (dI : Nat → Nat → Nat) (cI cJ cZ : ClassId) (lo : Nat) (o sp h cn a1 a2 a3 a4 a5 b1 b2 mo d1 d2 d3 d4 d5 d6 e1 e2 e3 e4 e5 ou : Nat) (ix J cells slots : Nat) (C0 : ck_C p l s m meth c b L xs A dC dI cI cJ cZ lo) (hc : ck_At p l e s m below meth c b A dC dI cI cJ cZ o sp h cn a1 a2 a3 a4 a5 b1 b2 mo d1 d2 d3 d4 d5 d6 e1 e2 e3 e4 e5 ou 23 (ix + 6) J cells slots) : ck_At p l e s m below meth c b A dC dI cI cJ cZ o sp h cn a1 a2 a3 a4 a5 b1 b2 mo d1 d2 d3 d4 d5 d6 e1 e2 e3 e4 e5 ou 896 ix J cells slots := by
  obtain ⟨⟨hx, hb, hr, hml, hown, hts, hX, hbl, hlocks, hgv⟩, hG, hAf, hst, hL⟩ := C0
  have hown : s.vm.findClass RL = some m.cls := hown
  have hts : ∀ w ∈ wsL_law, w.before #[Value.ref b] s = true := fun w h => hts w (wsL_law_in w h)
  have hK := hG.1
  have hE := hG.2.1
  have hA := hG.2.2.1
  have hbA : ¬ A b := fun z => absurd (hAf b z) (Nat.not_le.mpr hbl)
  intro zs rq ti ct gv bh bc un k l0 v0 v1 v2 v3 n f1 f2 f3 f4 f5 kc t g1 g2 th mct x0 x1 x2 x3 p1 p2 p3 p4 p5 p6 t1 t2 t3 t4 cs ov hI H locs ls hP hD hS hl
  refine lv_iinc (v := nI (ix + 6)) (lv' := [(4, .int (nI (ix + 6))), (0, .ref b), (1, .ref o), (2, .ref mo), (3, .ref ou)]) hx hb dL_law_896 hl (k := 4) rfl (nI_add _ 6) (by decide) rfl (fun ls hl => ?_)
  refine lv_goto (tgt := 23) hx hb dL_law_899 (by decide) ?_
  exact hc zs rq ti ct gv bh bc un k l0 v0 v1 v2 v3 n f1 f2 f3 f4 f5 kc t g1 g2 th mct x0 x1 x2 x3 p1 p2 p3 p4 p5 p6 t1 t2 t3 t4 cs ov hI _ _ _ hP hD hS (lv_sub hl [1, 2, 3, 4, 0] rfl)
set_option maxHeartbeats 4000000 in
set_option maxRecDepth 100000 in
theorem ck_head1 (p : Program) (l : Launch) (e : Env) (s : State) (m : MethodId) (below : List Frame) (meth : Method) (c : Code) (b L : Nat) (xs : Nat → Int32) (A : Nat → Prop) (dC : Nat → ClassId) (dI : Nat → Nat → Nat) (cI cJ cZ : ClassId) (lo : Nat) (o sp h cn a1 a2 a3 a4 a5 b1 b2 mo d1 d2 d3 d4 d5 d6 e1 e2 e3 e4 e5 ou : Nat) (ix J cells slots : Nat) (C0 : ck_C p l s m meth c b L xs A dC dI cI cJ cZ lo) (hix : ix ≤ 3078) (hJ : ix + 6 ≤ L → J < 512) (hcl : cells + 1 ≤ 1050) (hsl : slots + 6 ≤ 8996) (hc : ix + 6 ≤ L → ck_At p l e s m below meth c b A dC dI cI cJ cZ o sp h cn a1 a2 a3 a4 a5 b1 b2 mo d1 d2 d3 d4 d5 d6 e1 e2 e3 e4 e5 ou 896 ix (J + 1) (cells + 1) (slots + 6)) : ck_At p l e s m below meth c b A dC dI cI cJ cZ o sp h cn a1 a2 a3 a4 a5 b1 b2 mo d1 d2 d3 d4 d5 d6 e1 e2 e3 e4 e5 ou 23 ix J cells slots := by
  have C1 := C0
  obtain ⟨⟨hx, hb, hr, hml, hown, hts, hX, hbl, hlocks, hgv⟩, hG, hAf, hst, hL⟩ := C0
  have hown : s.vm.findClass RL = some m.cls := hown
  have hts : ∀ w ∈ wsL_law, w.before #[Value.ref b] s = true := fun w h => hts w (wsL_law_in w h)
  have hK := hG.1
  have hE := hG.2.1
  have hA := hG.2.2.1
  have hbA : ¬ A b := fun z => absurd (hAf b z) (Nat.not_le.mpr hbl)
  intro zs rq ti ct gv bh bc un k l0 v0 v1 v2 v3 n f1 f2 f3 f4 f5 kc t g1 g2 th mct x0 x1 x2 x3 p1 p2 p3 p4 p5 p6 t1 t2 t3 t4 cs ov hI H locs ls hP hD hS hl
  refine lv_iload hx hb dL_law_23 (lv_at hl 4 rfl) ?_
  refine lv_aload_n hx hb dL_law_25 rfl (lv_at hl 0 rfl) ?_
  refine va_slen hx hb hX hbl hbA hS dL_law_26 ?_
  refine ck_toi (y := nI L) rfl ?_
  refine lv_bipush (v := 6) hx hb dL_law_27 (by decide) ?_
  refine lv_isub hx hb dL_law_29 ?_
  refine lv_icmp_gt (tgt := 902) hx hb dL_law_30 (by decide) (fun c_30 => ?_) (fun c_30 => ?_)
  · skip
    refine lv_iconst (v := 1) hx hb dL_law_902 (by decide) ?_
    refine va_forget (fun q hq => hAf _ (hS.2.2 q hq)) ?_
    refine W.widen (k := 1050) (n := 8996) (by omega) (by omega) ?_
    exact lw_ret hx hb hr hlocks dL_law_903
  · skip
    have hi := ck_head hix hL c_30
    refine lv_aload_n hx hb dL_law_33 rfl (lv_at hl 0 rfl) ?_
    refine lv_iload hx hb dL_law_34 (lv_at hl 4 rfl) ?_
    refine va_sld hx hb hX hbl hbA hS (vp_in_nI (show ix < L by omega) (by omega)) dL_law_36 ?_
    refine ck_toi (y := xs (ix)) (by rw [nI_clamp (by omega)]) ?_
    refine lv_bipush (v := 15) hx hb dL_law_37 (by decide) ?_
    refine lv_iand hx hb dL_law_39 ?_
    obtain ⟨jq, hjq, ejq⟩ := pk_andE (xs ix) (m := 15) 4 (by decide)
    refine ck_toi (y := nI jq) ejq ?_
    rcases (show jq = 0 ∨ jq = 1 ∨ jq = 2 ∨ jq = 3 ∨ jq = 4 ∨ jq = 5 ∨ jq = 6 ∨ jq = 7 ∨ jq = 8 ∨ jq = 9 ∨ jq = 10 ∨ 11 ≤ jq by omega) with rfl | rfl | rfl | rfl | rfl | rfl | rfl | rfl | rfl | rfl | rfl | h11
    · refine lv_tableIn (off := 60) (tgt := 100) hx hb dL_law_40 (by decide) (by decide) rfl (by decide) ?_
      exact ck_case0 p l e s m below meth c b L xs A dC dI cI cJ cZ lo o sp h cn a1 a2 a3 a4 a5 b1 b2 mo d1 d2 d3 d4 d5 d6 e1 e2 e3 e4 e5 ou ix J cells slots C1 hi (hJ hi) hcl hsl (hc hi) zs rq ti ct gv bh bc un k l0 v0 v1 v2 v3 n f1 f2 f3 f4 f5 kc t g1 g2 th mct x0 x1 x2 x3 p1 p2 p3 p4 p5 p6 t1 t2 t3 t4 cs ov hI _ _ _ hP hD hS (lv_sub hl [0, 1, 2, 3, 4] rfl)
    · refine lv_tableIn (off := 108) (tgt := 148) hx hb dL_law_40 (by decide) (by decide) rfl (by decide) ?_
      exact ck_case1 p l e s m below meth c b L xs A dC dI cI cJ cZ lo o sp h cn a1 a2 a3 a4 a5 b1 b2 mo d1 d2 d3 d4 d5 d6 e1 e2 e3 e4 e5 ou ix J cells slots C1 hi (hJ hi) hcl hsl (hc hi) zs rq ti ct gv bh bc un k l0 v0 v1 v2 v3 n f1 f2 f3 f4 f5 kc t g1 g2 th mct x0 x1 x2 x3 p1 p2 p3 p4 p5 p6 t1 t2 t3 t4 cs ov hI _ _ _ hP hD hS (lv_sub hl [0, 1, 2, 3, 4] rfl)
    · refine lv_tableIn (off := 207) (tgt := 247) hx hb dL_law_40 (by decide) (by decide) rfl (by decide) ?_
      exact ck_case2 p l e s m below meth c b L xs A dC dI cI cJ cZ lo o sp h cn a1 a2 a3 a4 a5 b1 b2 mo d1 d2 d3 d4 d5 d6 e1 e2 e3 e4 e5 ou ix J cells slots C1 hi (hJ hi) hcl hsl (hc hi) zs rq ti ct gv bh bc un k l0 v0 v1 v2 v3 n f1 f2 f3 f4 f5 kc t g1 g2 th mct x0 x1 x2 x3 p1 p2 p3 p4 p5 p6 t1 t2 t3 t4 cs ov hI _ _ _ hP hD hS (lv_sub hl [0, 1, 2, 3, 4] rfl)
    · refine lv_tableIn (off := 263) (tgt := 303) hx hb dL_law_40 (by decide) (by decide) rfl (by decide) ?_
      exact ck_case3 p l e s m below meth c b L xs A dC dI cI cJ cZ lo o sp h cn a1 a2 a3 a4 a5 b1 b2 mo d1 d2 d3 d4 d5 d6 e1 e2 e3 e4 e5 ou ix J cells slots C1 hi (hJ hi) hcl hsl (hc hi) zs rq ti ct gv bh bc un k l0 v0 v1 v2 v3 n f1 f2 f3 f4 f5 kc t g1 g2 th mct x0 x1 x2 x3 p1 p2 p3 p4 p5 p6 t1 t2 t3 t4 cs ov hI _ _ _ hP hD hS (lv_sub hl [0, 1, 2, 3, 4] rfl)
    · refine lv_tableIn (off := 354) (tgt := 394) hx hb dL_law_40 (by decide) (by decide) rfl (by decide) ?_
      exact ck_case4 p l e s m below meth c b L xs A dC dI cI cJ cZ lo o sp h cn a1 a2 a3 a4 a5 b1 b2 mo d1 d2 d3 d4 d5 d6 e1 e2 e3 e4 e5 ou ix J cells slots C1 hi (hJ hi) hcl hsl (hc hi) zs rq ti ct gv bh bc un k l0 v0 v1 v2 v3 n f1 f2 f3 f4 f5 kc t g1 g2 th mct x0 x1 x2 x3 p1 p2 p3 p4 p5 p6 t1 t2 t3 t4 cs ov hI _ _ _ hP hD hS (lv_sub hl [0, 1, 2, 3, 4] rfl)
    · refine lv_tableIn (off := 446) (tgt := 486) hx hb dL_law_40 (by decide) (by decide) rfl (by decide) ?_
      exact ck_case5 p l e s m below meth c b L xs A dC dI cI cJ cZ lo o sp h cn a1 a2 a3 a4 a5 b1 b2 mo d1 d2 d3 d4 d5 d6 e1 e2 e3 e4 e5 ou ix J cells slots C1 hi (hJ hi) hcl hsl (hc hi) zs rq ti ct gv bh bc un k l0 v0 v1 v2 v3 n f1 f2 f3 f4 f5 kc t g1 g2 th mct x0 x1 x2 x3 p1 p2 p3 p4 p5 p6 t1 t2 t3 t4 cs ov hI _ _ _ hP hD hS (lv_sub hl [0, 1, 2, 3, 4] rfl)
    · refine lv_tableIn (off := 459) (tgt := 499) hx hb dL_law_40 (by decide) (by decide) rfl (by decide) ?_
      exact ck_case6 p l e s m below meth c b L xs A dC dI cI cJ cZ lo o sp h cn a1 a2 a3 a4 a5 b1 b2 mo d1 d2 d3 d4 d5 d6 e1 e2 e3 e4 e5 ou ix J cells slots C1 hi (hJ hi) hcl hsl (hc hi) zs rq ti ct gv bh bc un k l0 v0 v1 v2 v3 n f1 f2 f3 f4 f5 kc t g1 g2 th mct x0 x1 x2 x3 p1 p2 p3 p4 p5 p6 t1 t2 t3 t4 cs ov hI _ _ _ hP hD hS (lv_sub hl [0, 1, 2, 3, 4] rfl)
    · refine lv_tableIn (off := 527) (tgt := 567) hx hb dL_law_40 (by decide) (by decide) rfl (by decide) ?_
      exact ck_case7 p l e s m below meth c b L xs A dC dI cI cJ cZ lo o sp h cn a1 a2 a3 a4 a5 b1 b2 mo d1 d2 d3 d4 d5 d6 e1 e2 e3 e4 e5 ou ix J cells slots C1 hi (hJ hi) hcl hsl (hc hi) zs rq ti ct gv bh bc un k l0 v0 v1 v2 v3 n f1 f2 f3 f4 f5 kc t g1 g2 th mct x0 x1 x2 x3 p1 p2 p3 p4 p5 p6 t1 t2 t3 t4 cs ov hI _ _ _ hP hD hS (lv_sub hl [0, 1, 2, 3, 4] rfl)
    · refine lv_tableIn (off := 595) (tgt := 635) hx hb dL_law_40 (by decide) (by decide) rfl (by decide) ?_
      exact ck_case8 p l e s m below meth c b L xs A dC dI cI cJ cZ lo o sp h cn a1 a2 a3 a4 a5 b1 b2 mo d1 d2 d3 d4 d5 d6 e1 e2 e3 e4 e5 ou ix J cells slots C1 hi (hJ hi) hcl hsl (hc hi) zs rq ti ct gv bh bc un k l0 v0 v1 v2 v3 n f1 f2 f3 f4 f5 kc t g1 g2 th mct x0 x1 x2 x3 p1 p2 p3 p4 p5 p6 t1 t2 t3 t4 cs ov hI _ _ _ hP hD hS (lv_sub hl [0, 1, 2, 3, 4] rfl)
    · refine lv_tableIn (off := 698) (tgt := 738) hx hb dL_law_40 (by decide) (by decide) rfl (by decide) ?_
      exact ck_case9 p l e s m below meth c b L xs A dC dI cI cJ cZ lo o sp h cn a1 a2 a3 a4 a5 b1 b2 mo d1 d2 d3 d4 d5 d6 e1 e2 e3 e4 e5 ou ix J cells slots C1 hi (hJ hi) hcl hsl (hc hi) zs rq ti ct gv bh bc un k l0 v0 v1 v2 v3 n f1 f2 f3 f4 f5 kc t g1 g2 th mct x0 x1 x2 x3 p1 p2 p3 p4 p5 p6 t1 t2 t3 t4 cs ov hI _ _ _ hP hD hS (lv_sub hl [0, 1, 2, 3, 4] rfl)
    · refine lv_tableIn (off := 800) (tgt := 840) hx hb dL_law_40 (by decide) (by decide) rfl (by decide) ?_
      exact ck_case10 p l e s m below meth c b L xs A dC dI cI cJ cZ lo o sp h cn a1 a2 a3 a4 a5 b1 b2 mo d1 d2 d3 d4 d5 d6 e1 e2 e3 e4 e5 ou ix J cells slots C1 hi (hJ hi) hcl hsl (hc hi) zs rq ti ct gv bh bc un k l0 v0 v1 v2 v3 n f1 f2 f3 f4 f5 kc t g1 g2 th mct x0 x1 x2 x3 p1 p2 p3 p4 p5 p6 t1 t2 t3 t4 cs ov hI _ _ _ hP hD hS (lv_sub hl [0, 1, 2, 3, 4] rfl)
    · refine lv_tableOut (tgt := 896) hx hb dL_law_40 (by rw [nI_toInt (by omega)]; omega) (by decide) ?_
      refine W.widen (k := cells + 1) (n := slots + 6) (by omega) (by omega) ?_
      exact hc hi zs rq ti ct gv bh bc un k l0 v0 v1 v2 v3 n f1 f2 f3 f4 f5 kc t g1 g2 th mct x0 x1 x2 x3 p1 p2 p3 p4 p5 p6 t1 t2 t3 t4 cs ov hI.up _ _ _ hP hD hS (lv_sub hl [0, 1, 2, 3, 4] rfl)
theorem ck_loop (p : Program) (l : Launch) (e : Env) (s : State) (m : MethodId) (below : List Frame) (meth : Method) (c : Code) (b L : Nat) (xs : Nat → Int32) (A : Nat → Prop) (dC : Nat → ClassId) (dI : Nat → Nat → Nat) (cI cJ cZ : ClassId) (lo : Nat) (o sp h cn a1 a2 a3 a4 a5 b1 b2 mo d1 d2 d3 d4 d5 d6 e1 e2 e3 e4 e5 ou : Nat) (C0 : ck_C p l s m meth c b L xs A dC dI cI cJ cZ lo) : ∀ (fu J : Nat), J ≤ 512 → 513 ≤ J + fu → ck_At p l e s m below meth c b A dC dI cI cJ cZ o sp h cn a1 a2 a3 a4 a5 b1 b2 mo d1 d2 d3 d4 d5 d6 e1 e2 e3 e4 e5 ou 23 (6 * J) J (24 + J) (792 + 6 * J) := by
  have hL := C0.2.2.2.2
  intro fu
  induction fu with
  | zero => intro J h1 h2; omega
  | succ fu ih =>
    intro J h1 h2
    refine ck_head1 p l e s m below meth c b L xs A dC dI cI cJ cZ lo o sp h cn a1 a2 a3 a4 a5 b1 b2 mo d1 d2 d3 d4 d5 d6 e1 e2 e3 e4 e5 ou (6 * J) J (24 + J) (792 + 6 * J) C0 (by omega) (by omega) (by omega) (by omega) (fun hi => ?_)
    refine ck_step p l e s m below meth c b L xs A dC dI cI cJ cZ lo o sp h cn a1 a2 a3 a4 a5 b1 b2 mo d1 d2 d3 d4 d5 d6 e1 e2 e3 e4 e5 ou (6 * J) (J + 1) (24 + J + 1) (792 + 6 * J + 6) C0 ?_
    have h := ih (J + 1) (by omega) (by omega)
    have e1 : 6 * (J + 1) = 6 * J + 6 := by omega
    have e2 : 24 + (J + 1) = 24 + J + 1 := by omega
    have e3 : 792 + (6 * J + 6) = 792 + 6 * J + 6 := by omega
    rw [e1, e2, e3] at h
    exact h
