set_option maxRecDepth 20000 in
theorem kt_f112 : (.fieldLinkNest "CookieListener" 112 "CookieListener$Connections" "callers" "[J" "CookieListener" : Cond) ∈ lw_tbl := by decide +kernel
set_option maxRecDepth 20000 in
theorem kt_f119 : (.fieldLinkNest "CookieListener" 119 "CookieListener$Connections" "kinds" "[I" "CookieListener" : Cond) ∈ lw_tbl := by decide +kernel
set_option maxRecDepth 20000 in
theorem kt_f137 : (.fieldLinkNest "CookieListener" 137 "CookieListener$Halves" "count" "I" "CookieListener" : Cond) ∈ lw_tbl := by decide +kernel
set_option maxRecDepth 20000 in
theorem kt_f143 : (.fieldLinkNest "CookieListener" 143 "CookieListener$Connections" "count" "I" "CookieListener" : Cond) ∈ lw_tbl := by decide +kernel
set_option maxRecDepth 20000 in
theorem kt_f173 : (.fieldLinkNest "CookieListener" 173 "CookieListener$Halves" "callers" "[J" "CookieListener" : Cond) ∈ lw_tbl := by decide +kernel
set_option maxRecDepth 20000 in
theorem kt_f174 : (.fieldLinkNest "CookieListener" 174 "CookieListener$Halves" "kinds" "[I" "CookieListener" : Cond) ∈ lw_tbl := by decide +kernel
set_option maxRecDepth 20000 in
theorem kt_f79 : (.fieldLinkNest "CookieListener" 79 "CookieListener$Halves" "numbers" "[I" "CookieListener" : Cond) ∈ lw_tbl := by decide +kernel
set_option maxRecDepth 20000 in
theorem kt_f83 : (.fieldLinkNest "CookieListener" 83 "CookieListener$Halves" "answers" "[I" "CookieListener" : Cond) ∈ lw_tbl := by decide +kernel
set_option maxRecDepth 20000 in
theorem kt_m18 : (.methodLinkNest "CookieListener" 18 yX1_init "CookieListener" : Cond) ∈ lw_tbl := by decide +kernel
set_option maxRecDepth 20000 in
theorem kt_m25 : (.methodLinkNest "CookieListener" 25 yX0_init "CookieListener" : Cond) ∈ lw_tbl := by decide +kernel
set_option maxRecDepth 20000 in
theorem kt_m9 : (.methodLinkNest "CookieListener" 9 yX2_init "CookieListener" : Cond) ∈ lw_tbl := by decide +kernel
set_option maxRecDepth 20000 in
theorem kt_cast : (.castable ck_IAE ck_IAE : Cond) ∈ lw_tbl := by decide +kernel
set_option maxRecDepth 20000 in
theorem kt_dR : (.declares (Bundle.initS "java/lang/RuntimeException") : Cond) ∈ lw_tbl := by decide +kernel
set_option maxRecDepth 20000 in
theorem kt_dE : (.declares (Bundle.initS "java/lang/Exception") : Cond) ∈ lw_tbl := by decide +kernel
set_option maxRecDepth 20000 in
theorem kt_dT : (.declares (Bundle.initS Bundle.tN) : Cond) ∈ lw_tbl := by decide +kernel
set_option maxRecDepth 20000 in
theorem kt_s146 : (.stringRef "CookieListener" 146 "what is not 0 to 7" : Cond) ∈ lw_tbl := by decide +kernel
set_option maxRecDepth 20000 in
theorem kt_s151 : (.stringRef "CookieListener" 151 "an argument is outside of what is allowed" : Cond) ∈ lw_tbl := by decide +kernel
set_option maxRecDepth 20000 in
theorem kt_lU : (.laysStatic Bundle.tN "UNASSIGNED_STACK" Bundle.steD : Cond) ∈ lw_tbl := by decide +kernel
set_option maxRecDepth 20000 in
theorem kt_lS : (.laysStatic Bundle.tN "SUPPRESSED_SENTINEL" Bundle.listD : Cond) ∈ lw_tbl := by decide +kernel
set_option maxRecDepth 20000 in
theorem kt_lG : (.laysStatic "CookieListener" "GREATEST_SIZES" "[I" : Cond) ∈ lw_tbl := by decide +kernel
set_option maxRecDepth 20000 in
theorem kt_iT : (.initialized Bundle.tN : Cond) ∈ lw_tbl := by decide +kernel
set_option maxRecDepth 20000 in
theorem kt_iC : (.initialized "CookieListener" : Cond) ∈ lw_tbl := by decide +kernel
set_option maxRecDepth 20000 in
theorem kt_aI : (.arrayClass .int : Cond) ∈ lw_tbl := by decide +kernel
set_option maxRecDepth 20000 in
theorem kt_aJ : (.arrayClass .long : Cond) ∈ lw_tbl := by decide +kernel
set_option maxRecDepth 20000 in
theorem kt_aZ : (.arrayClass .boolean : Cond) ∈ lw_tbl := by decide +kernel
set_option maxRecDepth 20000 in
theorem kt_n0 : (.instantiable RX0 4 : Cond) ∈ lw_tbl := by decide +kernel
set_option maxRecDepth 20000 in
theorem kt_n1 : (.instantiable RX1 6 : Cond) ∈ lw_tbl := by decide +kernel
set_option maxRecDepth 20000 in
theorem kt_n2 : (.instantiable RX2 6 : Cond) ∈ lw_tbl := by decide +kernel
set_option maxRecDepth 20000 in
theorem kt_n3 : (.instantiable RX3 11 : Cond) ∈ lw_tbl := by decide +kernel
set_option maxRecDepth 20000 in
theorem kt_n4 : (.instantiable RX4 24 : Cond) ∈ lw_tbl := by decide +kernel
set_option maxRecDepth 20000 in
theorem kg_rU : (.isRef (.static Bundle.tN "UNASSIGNED_STACK" Bundle.steD) : Cond) ∈ flatC (Jvm.Cond.and given_1 narrow_1) := by decide +kernel
set_option maxRecDepth 20000 in
theorem kg_rS : (.isRef (.static Bundle.tN "SUPPRESSED_SENTINEL" Bundle.listD) : Cond) ∈ flatC (Jvm.Cond.and given_1 narrow_1) := by decide +kernel
set_option maxRecDepth 20000 in
theorem kg_gA : (.arrayOf (.static "CookieListener" "GREATEST_SIZES" "[I") .int : Cond) ∈ flatC (Jvm.Cond.and given_1 narrow_1) := by decide +kernel
set_option maxRecDepth 20000 in
theorem kg_gL : (.eq (.length (.static "CookieListener" "GREATEST_SIZES" "[I")) (.int 8) : Cond) ∈ flatC (Jvm.Cond.and given_1 narrow_1) := by decide +kernel
set_option maxRecDepth 20000 in
theorem kg_g0 : (.eq (.elem (.static "CookieListener" "GREATEST_SIZES" "[I") (.int 0)) (.int 64) : Cond) ∈ flatC (Jvm.Cond.and given_1 narrow_1) := by decide +kernel
set_option maxRecDepth 20000 in
theorem kg_g1 : (.eq (.elem (.static "CookieListener" "GREATEST_SIZES" "[I") (.int 1)) (.int 256) : Cond) ∈ flatC (Jvm.Cond.and given_1 narrow_1) := by decide +kernel
set_option maxRecDepth 20000 in
theorem kg_g2 : (.eq (.elem (.static "CookieListener" "GREATEST_SIZES" "[I") (.int 2)) (.int 536) : Cond) ∈ flatC (Jvm.Cond.and given_1 narrow_1) := by decide +kernel
set_option maxRecDepth 20000 in
theorem kg_g3 : (.eq (.elem (.static "CookieListener" "GREATEST_SIZES" "[I") (.int 3)) (.int 1024) : Cond) ∈ flatC (Jvm.Cond.and given_1 narrow_1) := by decide +kernel
set_option maxRecDepth 20000 in
theorem kg_g4 : (.eq (.elem (.static "CookieListener" "GREATEST_SIZES" "[I") (.int 4)) (.int 1220) : Cond) ∈ flatC (Jvm.Cond.and given_1 narrow_1) := by decide +kernel
set_option maxRecDepth 20000 in
theorem kg_g5 : (.eq (.elem (.static "CookieListener" "GREATEST_SIZES" "[I") (.int 5)) (.int 1440) : Cond) ∈ flatC (Jvm.Cond.and given_1 narrow_1) := by decide +kernel
set_option maxRecDepth 20000 in
theorem kg_g6 : (.eq (.elem (.static "CookieListener" "GREATEST_SIZES" "[I") (.int 6)) (.int 1460) : Cond) ∈ flatC (Jvm.Cond.and given_1 narrow_1) := by decide +kernel
set_option maxRecDepth 20000 in
theorem kg_g7 : (.eq (.elem (.static "CookieListener" "GREATEST_SIZES" "[I") (.int 7)) (.int 4096) : Cond) ∈ flatC (Jvm.Cond.and given_1 narrow_1) := by decide +kernel
set_option maxRecDepth 20000 in
theorem kg_x146 : (.exactly (.string "CookieListener" 146) "java/lang/String" : Cond) ∈ flatC (Jvm.Cond.and given_1 narrow_1) := by decide +kernel
set_option maxRecDepth 20000 in
theorem kg_x151 : (.exactly (.string "CookieListener" 151) "java/lang/String" : Cond) ∈ flatC (Jvm.Cond.and given_1 narrow_1) := by decide +kernel
set_option maxRecDepth 20000 in
theorem ck_startE {p : Program} {s : State} {m : MethodId} {meth : Method} {c : Code} {b L : Nat} {xs : Nat → Int32} (C0 : lw_At p s m meth c b L xs) : ck_E s.heap.size s := by
  obtain ⟨hx, hb, hr, hml, hown, hts, hX, hbl, hlocks, hgv⟩ := C0
  have hq := flat_of_before _ hgv
  have hA : ∀ a : Nat, a < s.heap.size → ¬ ck_Low s.heap.size a := fun a h z => Nat.not_le.mpr h z
  obtain ⟨t, ht, hT⟩ := va_Tof (ty := .int) (N := 8) (f := fun j => .int (ck_sz.getD j 0)) (A := ck_Low s.heap.size) (by decide) (hq _ kg_gA) (va_eqt (hq _ kg_gL)) (fun j hj => by
    rcases (show j = 0 ∨ j = 1 ∨ j = 2 ∨ j = 3 ∨ j = 4 ∨ j = 5 ∨ j = 6 ∨ j = 7 by omega) with rfl | rfl | rfl | rfl | rfl | rfl | rfl | rfl
    · exact va_eqt (hq _ kg_g0)
    · exact va_eqt (hq _ kg_g1)
    · exact va_eqt (hq _ kg_g2)
    · exact va_eqt (hq _ kg_g3)
    · exact va_eqt (hq _ kg_g4)
    · exact va_eqt (hq _ kg_g5)
    · exact va_eqt (hq _ kg_g6)
    · exact va_eqt (hq _ kg_g7)) hA
  obtain ⟨a1, c1, cA1, kA1, q1, -⟩ := Cond.exactly_spec (args := #[Value.ref b]) (first := s) (o := none) (s := s) (idx := []) (hq _ kg_x146)
  obtain ⟨a2, c2, cA2, kA2, q2, -⟩ := Cond.exactly_spec (args := #[Value.ref b]) (first := s) (o := none) (s := s) (idx := []) (hq _ kg_x151)
  refine ⟨Nat.le_refl _, ⟨va_Nw.of rfl (hts _ kt_f112), va_Nw.of rfl (hts _ kt_f119), va_Nw.of rfl (hts _ kt_f137), va_Nw.of rfl (hts _ kt_f143), va_Nw.of rfl (hts _ kt_f173), va_Nw.of rfl (hts _ kt_f174), va_Nw.of rfl (hts _ kt_f79), va_Nw.of rfl (hts _ kt_f83), va_Nw.of rfl (hts _ kt_m18), va_Nw.of rfl (hts _ kt_m25), va_Nw.of rfl (hts _ kt_m9)⟩, ⟨va_Nw.of rfl (hts _ kt_cast), va_Nw.of rfl (hts _ kt_dR), va_Nw.of rfl (hts _ kt_dE), va_Nw.of rfl (hts _ kt_dT)⟩, ⟨a1, vk_R.of (hts _ kt_s146) q1⟩, ⟨a2, vk_R.of (hts _ kt_s151) q2⟩, vx_Zqof (hts _ kt_lU) (hts _ kt_iT) (hq _ kg_rU) hA, vx_Zqof (hts _ kt_lS) (hts _ kt_iT) (hq _ kg_rS) hA, t, va_Zref (hts _ kt_lG) (hts _ kt_iC) ht hA, hT⟩
theorem ck_startT {s : State} {args : Array Value} {ty : FieldType} (hn : ∀ C, ty ≠ .object C) (h : (Cond.arrayClass ty).before args s = true) : ∃ cA : ClassId, ArrOfT s cA ty ∧ va_RA s cA ty := by
  obtain ⟨cA, kA, comp, h1, h2, h3⟩ := Cond.arrayClass_spec h
  refine ⟨cA, fun n z => ⟨fun k h => (by cases h), kA, h2, comp, h3⟩, ?_⟩
  cases ty with
  | object C => exact absurd rfl (hn C)
  | _ => exact h1
set_option maxRecDepth 20000 in
theorem ck_startK {p : Program} {s : State} {m : MethodId} {meth : Method} {c : Code} {b L : Nat} {xs : Nat → Int32} (C0 : lw_At p s m meth c b L xs) : ∃ (dC : Nat → ClassId) (dI : Nat → Nat → Nat) (cI cJ cZ : ClassId), va_K (dC, dI) vwCl [(cI, .int), (cJ, .long), (cZ, .boolean)] s := by
  obtain ⟨hx, hb, hr, hml, hown, hts, hX, hbl, hlocks, hgv⟩ := C0
  obtain ⟨cI, hI⟩ := ck_startT (ty := .int) (by intro C h; cases h) (hts _ kt_aI)
  obtain ⟨cJ, hJ⟩ := ck_startT (ty := .long) (by intro C h; cases h) (hts _ kt_aJ)
  obtain ⟨cZ, hZ⟩ := ck_startT (ty := .boolean) (by intro C h; cases h) (hts _ kt_aZ)
  obtain ⟨c0, i0, h0⟩ := u_known (C := RX0) (T := TX0) (N := 4) (n := 4) hts inX0 (hts _ kt_n0)
  obtain ⟨c1, i1, h1⟩ := u_known (C := RX1) (T := TX1) (N := 6) (n := 6) hts inX1 (hts _ kt_n1)
  obtain ⟨c2, i2, h2⟩ := u_known (C := RX2) (T := TX2) (N := 6) (n := 6) hts inX2 (hts _ kt_n2)
  obtain ⟨c3, i3, h3⟩ := u_known (C := RX3) (T := TX3) (N := 11) (n := 11) hts inX3 (hts _ kt_n3)
  obtain ⟨c4, i4, h4⟩ := u_known (C := RX4) (T := TX4) (N := 24) (n := 24) hts inX4 (hts _ kt_n4)
  refine ⟨fun k => match k with | 0 => c0 | 1 => c1 | 2 => c2 | 3 => c3 | _ => c4, fun k => match k with | 0 => i0 | 1 => i1 | 2 => i2 | 3 => i3 | _ => i4, cI, cJ, cZ, ?_, ?_⟩
  · intro k q hq
    match k, hq with
    | 0, hq => cases hq; exact h0
    | 1, hq => cases hq; exact h1
    | 2, hq => cases hq; exact h2
    | 3, hq => cases hq; exact h3
    | 4, hq => cases hq; exact h4
    | k + 5, hq => simp [vwCl] at hq
  · intro k q hq
    match k, hq with
    | 0, hq => cases hq; exact hI
    | 1, hq => cases hq; exact hJ
    | 2, hq => cases hq; exact hZ
    | k + 3, hq => simp at hq
set_option maxRecDepth 20000 in
theorem k_L_law_k8 : (.classLink RL 8 RX3 : Cond) ∈ wsL_law := by decide +kernel
set_option maxRecDepth 20000 in
theorem k_L_law_n3 : (.instantiable RX3 11 : Cond) ∈ wsL_law := by decide +kernel
set_option maxRecDepth 20000 in
theorem k_L_law_i3 : (.initialized RX3 : Cond) ∈ wsL_law := by decide +kernel
set_option maxRecDepth 20000 in
theorem k_L_law_iyX3_init : (.initialized RX3 : Cond) ∈ wsL_law := by decide +kernel
set_option maxRecDepth 20000 in
theorem k_L_law_myX3_init : (.instanceMethod yX3_init : Cond) ∈ wsL_law := by decide +kernel
set_option maxRecDepth 20000 in
theorem k_L_law_l41 : (.methodLink RL 41 yX3_init : Cond) ∈ wsL_law := by decide +kernel
set_option maxRecDepth 20000 in
theorem k_L_law_k42 : (.classLink RL 42 RX4 : Cond) ∈ wsL_law := by decide +kernel
set_option maxRecDepth 20000 in
theorem k_L_law_n4 : (.instantiable RX4 24 : Cond) ∈ wsL_law := by decide +kernel
set_option maxRecDepth 20000 in
theorem k_L_law_i4 : (.initialized RX4 : Cond) ∈ wsL_law := by decide +kernel
set_option maxRecDepth 20000 in
theorem k_L_law_iyX4_init : (.initialized RX4 : Cond) ∈ wsL_law := by decide +kernel
set_option maxRecDepth 20000 in
theorem k_L_law_myX4_init : (.instanceMethod yX4_init : Cond) ∈ wsL_law := by decide +kernel
set_option maxRecDepth 20000 in
theorem k_L_law_l44 : (.methodLink RL 44 yX4_init : Cond) ∈ wsL_law := by decide +kernel
set_option maxRecDepth 20000 in
theorem k_L_law_along : (.arrayClass .long : Cond) ∈ wsL_law := by decide +kernel
set_option maxHeartbeats 4000000 in
set_option maxRecDepth 100000 in
theorem whole_start {p : Program} {e : Env} {s : State} {m : MethodId} {below : List Frame} {meth : Method} {c : Code} (l : Launch) (hst : l.stackTraces = false) {b L : Nat} {xs : Nat → Int32} (hL : L ≤ 3072) (C0 : lw_At p s m meth c b L xs) : W p l e room_1 s m #[Value.ref b] below meth c s.heap [] 0 0 (lw_Z below #[Value.ref b] s) (entryFrame m ([Value.ref b] : List Value).toArray 8) := by
  have hE := ck_startE C0
  obtain ⟨dC, dI, cI, cJ, cZ, hK⟩ := ck_startK C0
  have C1 := C0
  obtain ⟨hx, hb, hr, hml, hown, hts, hX, hbl, hlocks, hgv⟩ := C0
  have hown : s.vm.findClass RL = some m.cls := hown
  have hts : ∀ w ∈ wsL_law, w.before #[Value.ref b] s = true := fun w h => hts w (wsL_law_in w h)
  obtain ⟨A, eA⟩ : ∃ A : Nat → Prop, A = fun q => s.heap.size ≤ q := ⟨_, rfl⟩
  obtain ⟨lo, elo⟩ : ∃ lo : Nat, lo = s.heap.size := ⟨_, rfl⟩
  have hA : ∀ q, s.heap.size ≤ q → A q := fun q h => by rw [eA]; exact h
  have hAf : ∀ q, A q → s.heap.size ≤ q := fun q h => by rw [eA] at h; exact h
  have hG : ck_G (dC, dI) [(cI, .int), (cJ, .long), (cZ, .boolean)] lo A s := ⟨hK, by rw [elo]; exact hE, hA, fun q h => by rw [elo]; exact hAf q h⟩
  have hS : va_S A s.heap s.heap [] := va_S.rf
  have hP : va_P (dC, dI) vwCl [] s.heap := fun k q h => by simp at h
  have hD : va_D A [] := ⟨fun i j p q h => by simp at h, fun k q h => by simp at h⟩
  have hl := lv_entry ([.ref b]) (n := 8) (Nat.le_of_ble_eq_true rfl)
  rw [lg_entry_eq]
  generalize (lg_sl ([.ref b]) ++ List.replicate (8 - (lg_sl ([.ref b])).length) Slot.unset).toArray = ls at hl ⊢
  have hl : lv_has ls 8 [(0, .ref b)] := hl
  refine va_new (ci := 3) (fs := [.null, .null, .null, .int 0, .int 0, .int 0, .int 0, .int 0, .int 0, .int 0, .int 0]) (C := RX3) (T := TX3) (N := 11) hx hb hts (inlX3) tyX3 tyX3_ok hown (hts _ k_L_law_k8) (hts _ k_L_law_n3) (hts _ k_L_law_i3) hK hP hD hS hA rfl (by decide +kernel) (Nat.le_of_ble_eq_true rfl) (Nat.le_of_ble_eq_true rfl) dL_law_0 (fun q_1 H hP hD hS => ?_)
  refine W.widen (k := 1) (n := 11) (by omega) (by omega) ?_
  have hP : va_P (dC, dI) vwCl [(q_1, .inr (3, [.null, .null, .null, .int 0, .int 0, .int 0, .int 0, .int 0, .int 0, .int 0, .int 0]))] H := hP
  have hD : va_D A [(q_1, .inr (3, [.null, .null, .null, .int 0, .int 0, .int 0, .int 0, .int 0, .int 0, .int 0, .int 0]))] := hD
  refine lv_dup hx hb dL_law_3 rfl ?_
  refine ck_cv (wr := []) (va_runI (As := []) (rest := [.ref q_1]) ⟨hx, hb, hml, hown, hts⟩ (c_X3_init l dC dI cI cJ cZ lo _ q_1) (cwI 0 hts gL_law_X3_init rfl rfl rfl (hts _ k_L_law_iyX3_init) (hts _ k_L_law_l41) (hts _ k_L_law_myX3_init) rfl (by decide +kernel) ⟨(Nat.le_of_ble_eq_true rfl), (Nat.le_of_ble_eq_true rfl)⟩) ⟨ck_blind, (ck_pre hG hP hD hS [0] rfl (by decide) _)⟩ rfl rfl hl.1 rfl (lv_room (Nat.le_of_ble_eq_true rfl)) dL_law_4 ⟨(Nat.le_of_ble_eq_true rfl), (Nat.le_of_ble_eq_true rfl)⟩) hP hD hS hA [0] [] rfl rfl (by decide) (by decide) (fun u H locs hw_2 hP hD hS => ?_)
  obtain ⟨sp_2, h_2, a1_2, a2_2, a3_2, a4_2, a5_2, cn_2, b1_2, b2_2⟩ := u
  refine W.widen (k := 11) (n := 315) (by omega) (by omega) ?_
  have hP : va_P (dC, dI) vwCl [(q_1, .inr (3, [.ref sp_2, .ref h_2, .ref cn_2, .int 4, .int 2, .int 0, .int 0, .int 0, .int 0, .int 0, .int 0])), (sp_2, .inr (2, [.long 0, .long 0, .long 0, .long 0, .long 0, .long 0])), (h_2, .inr (1, [.ref a1_2, .ref a2_2, .ref a3_2, .ref a4_2, .ref a5_2, .int (nI 0)])), (a1_2, .inl (cJ, 32, .inr (.inl (fun _ => 0)))), (a2_2, .inl (cI, 32, .inl (fun _ => 0))), (a3_2, .inl (cI, 32, .inl (fun _ => 0))), (a4_2, .inl (cI, 32, .inl (fun _ => 0))), (a5_2, .inl (cI, 32, .inl (fun _ => 0))), (cn_2, .inr (0, [.ref b1_2, .ref b2_2, .int (nI 0), .int (nI 0)])), (b1_2, .inl (cJ, 64, .inr (.inl (fun _ => 0)))), (b2_2, .inl (cI, 64, .inl (fun _ => 0)))] H := hP
  have hD : va_D A [(q_1, .inr (3, [.ref sp_2, .ref h_2, .ref cn_2, .int 4, .int 2, .int 0, .int 0, .int 0, .int 0, .int 0, .int 0])), (sp_2, .inr (2, [.long 0, .long 0, .long 0, .long 0, .long 0, .long 0])), (h_2, .inr (1, [.ref a1_2, .ref a2_2, .ref a3_2, .ref a4_2, .ref a5_2, .int (nI 0)])), (a1_2, .inl (cJ, 32, .inr (.inl (fun _ => 0)))), (a2_2, .inl (cI, 32, .inl (fun _ => 0))), (a3_2, .inl (cI, 32, .inl (fun _ => 0))), (a4_2, .inl (cI, 32, .inl (fun _ => 0))), (a5_2, .inl (cI, 32, .inl (fun _ => 0))), (cn_2, .inr (0, [.ref b1_2, .ref b2_2, .int (nI 0), .int (nI 0)])), (b1_2, .inl (cJ, 64, .inr (.inl (fun _ => 0)))), (b2_2, .inl (cI, 64, .inl (fun _ => 0)))] := hD
  refine lv_astore_n (lv' := [(1, .ref q_1), (0, .ref b)]) hx hb dL_law_7 rfl hl (by decide) rfl (fun ls hl => ?_)
  refine va_new (ci := 4) (fs := [.int 0, .int 0, .int 0, .long 0, .long 0, .int 0, .int 0, .int (nI 0), .null, .null, .null, .null, .null, .null, .int (nI 0), .null, .null, .null, .null, .null, .long 0, .long 0, .long 0, .long 0]) (C := RX4) (T := TX4) (N := 24) hx hb hts (inlX4) tyX4 tyX4_ok hown (hts _ k_L_law_k42) (hts _ k_L_law_n4) (hts _ k_L_law_i4) hK hP hD hS hA rfl (by decide +kernel) (Nat.le_of_ble_eq_true rfl) (Nat.le_of_ble_eq_true rfl) dL_law_8 (fun q_3 H hP hD hS => ?_)
  refine W.widen (k := 12) (n := 339) (by omega) (by omega) ?_
  have hP : va_P (dC, dI) vwCl [(q_1, .inr (3, [.ref sp_2, .ref h_2, .ref cn_2, .int 4, .int 2, .int 0, .int 0, .int 0, .int 0, .int 0, .int 0])), (sp_2, .inr (2, [.long 0, .long 0, .long 0, .long 0, .long 0, .long 0])), (h_2, .inr (1, [.ref a1_2, .ref a2_2, .ref a3_2, .ref a4_2, .ref a5_2, .int (nI 0)])), (a1_2, .inl (cJ, 32, .inr (.inl (fun _ => 0)))), (a2_2, .inl (cI, 32, .inl (fun _ => 0))), (a3_2, .inl (cI, 32, .inl (fun _ => 0))), (a4_2, .inl (cI, 32, .inl (fun _ => 0))), (a5_2, .inl (cI, 32, .inl (fun _ => 0))), (cn_2, .inr (0, [.ref b1_2, .ref b2_2, .int (nI 0), .int (nI 0)])), (b1_2, .inl (cJ, 64, .inr (.inl (fun _ => 0)))), (b2_2, .inl (cI, 64, .inl (fun _ => 0))), (q_3, .inr (4, [.int 0, .int 0, .int 0, .long 0, .long 0, .int 0, .int 0, .int (nI 0), .null, .null, .null, .null, .null, .null, .int (nI 0), .null, .null, .null, .null, .null, .long 0, .long 0, .long 0, .long 0]))] H := hP
  have hD : va_D A [(q_1, .inr (3, [.ref sp_2, .ref h_2, .ref cn_2, .int 4, .int 2, .int 0, .int 0, .int 0, .int 0, .int 0, .int 0])), (sp_2, .inr (2, [.long 0, .long 0, .long 0, .long 0, .long 0, .long 0])), (h_2, .inr (1, [.ref a1_2, .ref a2_2, .ref a3_2, .ref a4_2, .ref a5_2, .int (nI 0)])), (a1_2, .inl (cJ, 32, .inr (.inl (fun _ => 0)))), (a2_2, .inl (cI, 32, .inl (fun _ => 0))), (a3_2, .inl (cI, 32, .inl (fun _ => 0))), (a4_2, .inl (cI, 32, .inl (fun _ => 0))), (a5_2, .inl (cI, 32, .inl (fun _ => 0))), (cn_2, .inr (0, [.ref b1_2, .ref b2_2, .int (nI 0), .int (nI 0)])), (b1_2, .inl (cJ, 64, .inr (.inl (fun _ => 0)))), (b2_2, .inl (cI, 64, .inl (fun _ => 0))), (q_3, .inr (4, [.int 0, .int 0, .int 0, .long 0, .long 0, .int 0, .int 0, .int (nI 0), .null, .null, .null, .null, .null, .null, .int (nI 0), .null, .null, .null, .null, .null, .long 0, .long 0, .long 0, .long 0]))] := hD
  refine lv_dup hx hb dL_law_11 rfl ?_
  refine ck_cv (wr := [(q_1, .inr (3, [.ref sp_2, .ref h_2, .ref cn_2, .int 4, .int 2, .int 0, .int 0, .int 0, .int 0, .int 0, .int 0])), (sp_2, .inr (2, [.long 0, .long 0, .long 0, .long 0, .long 0, .long 0])), (h_2, .inr (1, [.ref a1_2, .ref a2_2, .ref a3_2, .ref a4_2, .ref a5_2, .int (nI 0)])), (a1_2, .inl (cJ, 32, .inr (.inl (fun _ => 0)))), (a2_2, .inl (cI, 32, .inl (fun _ => 0))), (a3_2, .inl (cI, 32, .inl (fun _ => 0))), (a4_2, .inl (cI, 32, .inl (fun _ => 0))), (a5_2, .inl (cI, 32, .inl (fun _ => 0))), (cn_2, .inr (0, [.ref b1_2, .ref b2_2, .int (nI 0), .int (nI 0)])), (b1_2, .inl (cJ, 64, .inr (.inl (fun _ => 0)))), (b2_2, .inl (cI, 64, .inl (fun _ => 0)))]) (va_runI (As := []) (rest := [.ref q_3]) ⟨hx, hb, hml, hown, hts⟩ (c_X4_init l dC dI cI cJ cZ lo _ q_3) (cwI 0 hts gL_law_X4_init rfl rfl rfl (hts _ k_L_law_iyX4_init) (hts _ k_L_law_l44) (hts _ k_L_law_myX4_init) rfl (by decide +kernel) ⟨(Nat.le_of_ble_eq_true rfl), (Nat.le_of_ble_eq_true rfl)⟩) ⟨ck_blind, (ck_pre hG hP hD hS [11] rfl (by decide) _)⟩ rfl rfl hl.1 rfl (lv_room (Nat.le_of_ble_eq_true rfl)) dL_law_12 ⟨(Nat.le_of_ble_eq_true rfl), (Nat.le_of_ble_eq_true rfl)⟩) hP hD hS hA [11] [0, 1, 2, 3, 4, 5, 6, 7, 8, 9, 10] rfl rfl (by decide) (by decide) (fun u H locs hw_4 hP hD hS => ?_)
  obtain ⟨d1_4, d2_4, d3_4, d4_4, d5_4, d6_4, e1_4, e2_4, e3_4, e4_4, e5_4⟩ := u
  refine W.widen (k := 23) (n := 791) (by omega) (by omega) ?_
  have hP : va_P (dC, dI) vwCl [(q_1, .inr (3, [.ref sp_2, .ref h_2, .ref cn_2, .int 4, .int 2, .int 0, .int 0, .int 0, .int 0, .int 0, .int 0])), (sp_2, .inr (2, [.long 0, .long 0, .long 0, .long 0, .long 0, .long 0])), (h_2, .inr (1, [.ref a1_2, .ref a2_2, .ref a3_2, .ref a4_2, .ref a5_2, .int (nI 0)])), (a1_2, .inl (cJ, 32, .inr (.inl (fun _ => 0)))), (a2_2, .inl (cI, 32, .inl (fun _ => 0))), (a3_2, .inl (cI, 32, .inl (fun _ => 0))), (a4_2, .inl (cI, 32, .inl (fun _ => 0))), (a5_2, .inl (cI, 32, .inl (fun _ => 0))), (cn_2, .inr (0, [.ref b1_2, .ref b2_2, .int (nI 0), .int (nI 0)])), (b1_2, .inl (cJ, 64, .inr (.inl (fun _ => 0)))), (b2_2, .inl (cI, 64, .inl (fun _ => 0))), (q_3, .inr (4, [.int 0, .int 4, .int 2, .long 0, .long 0, .int 0, .int (-1), .int (nI 0), .ref d1_4, .ref d2_4, .ref d3_4, .ref d4_4, .ref d5_4, .ref d6_4, .int (nI 0), .ref e1_4, .ref e2_4, .ref e3_4, .ref e4_4, .ref e5_4, .long 0, .long 0, .long 0, .long 0])), (d1_4, .inl (cI, 32, .inl (fun _ => 0))), (d2_4, .inl (cI, 32, .inl (fun _ => 0))), (d3_4, .inl (cI, 32, .inl (fun _ => 0))), (d4_4, .inl (cI, 32, .inl (fun _ => 0))), (d5_4, .inl (cI, 32, .inl (fun _ => 0))), (d6_4, .inl (cI, 32, .inl (fun _ => 0))), (e1_4, .inl (cI, 64, .inl (fun _ => 0))), (e2_4, .inl (cI, 64, .inl (fun _ => 0))), (e3_4, .inl (cI, 64, .inl (fun _ => 0))), (e4_4, .inl (cZ, 64, .inl (fun _ => 0))), (e5_4, .inl (cI, 4, .inl (fun _ => 0)))] H := hP
  have hD : va_D A [(q_1, .inr (3, [.ref sp_2, .ref h_2, .ref cn_2, .int 4, .int 2, .int 0, .int 0, .int 0, .int 0, .int 0, .int 0])), (sp_2, .inr (2, [.long 0, .long 0, .long 0, .long 0, .long 0, .long 0])), (h_2, .inr (1, [.ref a1_2, .ref a2_2, .ref a3_2, .ref a4_2, .ref a5_2, .int (nI 0)])), (a1_2, .inl (cJ, 32, .inr (.inl (fun _ => 0)))), (a2_2, .inl (cI, 32, .inl (fun _ => 0))), (a3_2, .inl (cI, 32, .inl (fun _ => 0))), (a4_2, .inl (cI, 32, .inl (fun _ => 0))), (a5_2, .inl (cI, 32, .inl (fun _ => 0))), (cn_2, .inr (0, [.ref b1_2, .ref b2_2, .int (nI 0), .int (nI 0)])), (b1_2, .inl (cJ, 64, .inr (.inl (fun _ => 0)))), (b2_2, .inl (cI, 64, .inl (fun _ => 0))), (q_3, .inr (4, [.int 0, .int 4, .int 2, .long 0, .long 0, .int 0, .int (-1), .int (nI 0), .ref d1_4, .ref d2_4, .ref d3_4, .ref d4_4, .ref d5_4, .ref d6_4, .int (nI 0), .ref e1_4, .ref e2_4, .ref e3_4, .ref e4_4, .ref e5_4, .long 0, .long 0, .long 0, .long 0])), (d1_4, .inl (cI, 32, .inl (fun _ => 0))), (d2_4, .inl (cI, 32, .inl (fun _ => 0))), (d3_4, .inl (cI, 32, .inl (fun _ => 0))), (d4_4, .inl (cI, 32, .inl (fun _ => 0))), (d5_4, .inl (cI, 32, .inl (fun _ => 0))), (d6_4, .inl (cI, 32, .inl (fun _ => 0))), (e1_4, .inl (cI, 64, .inl (fun _ => 0))), (e2_4, .inl (cI, 64, .inl (fun _ => 0))), (e3_4, .inl (cI, 64, .inl (fun _ => 0))), (e4_4, .inl (cZ, 64, .inl (fun _ => 0))), (e5_4, .inl (cI, 4, .inl (fun _ => 0)))] := hD
  refine lv_astore_n (lv' := [(2, .ref q_3), (1, .ref q_1), (0, .ref b)]) hx hb dL_law_15 rfl hl (by decide) rfl (fun ls hl => ?_)
  refine lv_iconst (v := 1) hx hb dL_law_16 (by decide) ?_
  refine ck_newa (atype := .long) (ty := .long) (a0 := (1, .inr (.inl (fun _ => 0)))) (N' := 1) hx hb (hts _ k_L_law_along) rfl (by intro C h; cases h) hK hP hD hS hA 1 rfl (fun _ => rfl) (by decide) (by decide) (by decide) (Nat.le_of_ble_eq_true rfl) (Nat.le_of_ble_eq_true rfl) dL_law_17 (fun q_5 H hP hD hS => ?_)
  refine W.widen (k := 24) (n := 792) (by omega) (by omega) ?_
  have hP : va_P (dC, dI) vwCl [(q_1, .inr (3, [.ref sp_2, .ref h_2, .ref cn_2, .int 4, .int 2, .int 0, .int 0, .int 0, .int 0, .int 0, .int 0])), (sp_2, .inr (2, [.long 0, .long 0, .long 0, .long 0, .long 0, .long 0])), (h_2, .inr (1, [.ref a1_2, .ref a2_2, .ref a3_2, .ref a4_2, .ref a5_2, .int (nI 0)])), (a1_2, .inl (cJ, 32, .inr (.inl (fun _ => 0)))), (a2_2, .inl (cI, 32, .inl (fun _ => 0))), (a3_2, .inl (cI, 32, .inl (fun _ => 0))), (a4_2, .inl (cI, 32, .inl (fun _ => 0))), (a5_2, .inl (cI, 32, .inl (fun _ => 0))), (cn_2, .inr (0, [.ref b1_2, .ref b2_2, .int (nI 0), .int (nI 0)])), (b1_2, .inl (cJ, 64, .inr (.inl (fun _ => 0)))), (b2_2, .inl (cI, 64, .inl (fun _ => 0))), (q_3, .inr (4, [.int 0, .int 4, .int 2, .long 0, .long 0, .int 0, .int (-1), .int (nI 0), .ref d1_4, .ref d2_4, .ref d3_4, .ref d4_4, .ref d5_4, .ref d6_4, .int (nI 0), .ref e1_4, .ref e2_4, .ref e3_4, .ref e4_4, .ref e5_4, .long 0, .long 0, .long 0, .long 0])), (d1_4, .inl (cI, 32, .inl (fun _ => 0))), (d2_4, .inl (cI, 32, .inl (fun _ => 0))), (d3_4, .inl (cI, 32, .inl (fun _ => 0))), (d4_4, .inl (cI, 32, .inl (fun _ => 0))), (d5_4, .inl (cI, 32, .inl (fun _ => 0))), (d6_4, .inl (cI, 32, .inl (fun _ => 0))), (e1_4, .inl (cI, 64, .inl (fun _ => 0))), (e2_4, .inl (cI, 64, .inl (fun _ => 0))), (e3_4, .inl (cI, 64, .inl (fun _ => 0))), (e4_4, .inl (cZ, 64, .inl (fun _ => 0))), (e5_4, .inl (cI, 4, .inl (fun _ => 0))), (q_5, .inl (cJ, 1, .inr (.inl (fun _ => 0))))] H := hP
  have hD : va_D A [(q_1, .inr (3, [.ref sp_2, .ref h_2, .ref cn_2, .int 4, .int 2, .int 0, .int 0, .int 0, .int 0, .int 0, .int 0])), (sp_2, .inr (2, [.long 0, .long 0, .long 0, .long 0, .long 0, .long 0])), (h_2, .inr (1, [.ref a1_2, .ref a2_2, .ref a3_2, .ref a4_2, .ref a5_2, .int (nI 0)])), (a1_2, .inl (cJ, 32, .inr (.inl (fun _ => 0)))), (a2_2, .inl (cI, 32, .inl (fun _ => 0))), (a3_2, .inl (cI, 32, .inl (fun _ => 0))), (a4_2, .inl (cI, 32, .inl (fun _ => 0))), (a5_2, .inl (cI, 32, .inl (fun _ => 0))), (cn_2, .inr (0, [.ref b1_2, .ref b2_2, .int (nI 0), .int (nI 0)])), (b1_2, .inl (cJ, 64, .inr (.inl (fun _ => 0)))), (b2_2, .inl (cI, 64, .inl (fun _ => 0))), (q_3, .inr (4, [.int 0, .int 4, .int 2, .long 0, .long 0, .int 0, .int (-1), .int (nI 0), .ref d1_4, .ref d2_4, .ref d3_4, .ref d4_4, .ref d5_4, .ref d6_4, .int (nI 0), .ref e1_4, .ref e2_4, .ref e3_4, .ref e4_4, .ref e5_4, .long 0, .long 0, .long 0, .long 0])), (d1_4, .inl (cI, 32, .inl (fun _ => 0))), (d2_4, .inl (cI, 32, .inl (fun _ => 0))), (d3_4, .inl (cI, 32, .inl (fun _ => 0))), (d4_4, .inl (cI, 32, .inl (fun _ => 0))), (d5_4, .inl (cI, 32, .inl (fun _ => 0))), (d6_4, .inl (cI, 32, .inl (fun _ => 0))), (e1_4, .inl (cI, 64, .inl (fun _ => 0))), (e2_4, .inl (cI, 64, .inl (fun _ => 0))), (e3_4, .inl (cI, 64, .inl (fun _ => 0))), (e4_4, .inl (cZ, 64, .inl (fun _ => 0))), (e5_4, .inl (cI, 4, .inl (fun _ => 0))), (q_5, .inl (cJ, 1, .inr (.inl (fun _ => 0))))] := hD
  refine lv_astore_n (lv' := [(3, .ref q_5), (2, .ref q_3), (1, .ref q_1), (0, .ref b)]) hx hb dL_law_19 rfl hl (by decide) rfl (fun ls hl => ?_)
  refine lv_iconst (v := nI 0) hx hb dL_law_20 (by decide) ?_
  refine lv_istore (lv' := [(4, .int (nI 0)), (3, .ref q_5), (2, .ref q_3), (1, .ref q_1), (0, .ref b)]) hx hb dL_law_21 hl (by decide) rfl (fun ls hl => ?_)
  exact ck_loop p l e s m below meth c b L xs A dC dI cI cJ cZ lo q_1 sp_2 h_2 cn_2 a1_2 a2_2 a3_2 a4_2 a5_2 b1_2 b2_2 q_3 d1_4 d2_4 d3_4 d4_4 d5_4 d6_4 e1_4 e2_4 e3_4 e4_4 e5_4 q_5 ⟨C1, hG, hAf, hst, hL⟩ 513 0 (by omega) (by omega) 4 2 0 0 0 0 0 0 0 0 0 0 0 0 0 (fun _ => 0) (fun _ => 0) (fun _ => 0) (fun _ => 0) (fun _ => 0) 0 0 (fun _ => 0) (fun _ => 0) 0 (-1) 0 0 0 0 (fun _ => 0) (fun _ => 0) (fun _ => 0) (fun _ => 0) (fun _ => 0) (fun _ => 0) (fun _ => 0) (fun _ => 0) (fun _ => 0) (fun _ => 0) (fun _ => 0) (fun _ => 0) ck_I0 _ _ _ (hP.sub [0, 1, 2, 3, 4, 5, 6, 7, 8, 9, 10, 11, 12, 13, 14, 15, 16, 17, 18, 19, 20, 21, 22, 23] rfl) (hD.sub [0, 1, 2, 3, 4, 5, 6, 7, 8, 9, 10, 11, 12, 13, 14, 15, 16, 17, 18, 19, 20, 21, 22, 23] (by decide) rfl) hS (lv_sub hl [4, 3, 2, 1, 0] rfl)
