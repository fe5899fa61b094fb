theorem ck_keptP {D : va_G} {cl : List vw_C} {ws : va_W} {H H1 : Heap} (h : va_P D cl ws H) (hk : ∀ q : Nat, q < H.size → H1[q]? = H[q]?) : va_P D cl ws H1 := h.kept fun _ q hq => hk q.1 (vx_lt h hq)
theorem ck_keptS {A : Nat → Prop} {H0 H H1 : Heap} {locs : List Loc} (h : va_S A H0 H locs) (hz : H.size ≤ H1.size) (hk : ∀ q : Nat, q < H.size → H1[q]? = H[q]?) : va_S A H0 H1 locs := ⟨Nat.le_trans h.1 hz, fun q h1 h2 => by rw [hk q (Nat.lt_of_lt_of_le h1 h.1)]; exact h.2.1 q h1 h2, h.2.2⟩
set_option maxHeartbeats 4000000 in
set_option maxRecDepth 100000 in
theorem c_L_rooms (l : Launch) (dC : Nat → ClassId) (dI : Nat → Nat → Nat) (cI cJ cZ : ClassId) (lo sz : Nat) (o sp h cn : Nat) (zs rq ti ct gv bh bc un : Int32) (zs1 rq1 : Int32) (hs1 : 0 ≤ zs1) (hs2 : zs1 ≤ 32) (hr1 : 1 ≤ rq1) (hr2 : rq1 ≤ 16) : Met l yL_rooms wsL_rooms ({ frames := 2, cells := 0, slots := 0, locals := 44 } : Room) (va_Pc [.ref o, .int zs1, .int rq1] (ck_P (dC, dI) [(cI, .int), (cJ, .long), (cZ, .boolean)] lo sz [(o, .inr (3, [.ref sp, .ref h, .ref cn, .int zs, .int rq, .int ti, .int ct, .int gv, .int bh, .int bc, .int un]))])) (va_Qi (fun (r : Int32) (u : Unit) => r = 0) (fun u => ck_B (dC, dI) vwCl (va_A [(o, .inr (3, [.ref sp, .ref h, .ref cn, .int zs, .int rq, .int ti, .int ct, .int gv, .int bh, .int bc, .int un]))] sz) ((fun u : Unit => ([(o, .inr (3, [.ref sp, .ref h, .ref cn, .int zs1, .int rq1, .int ti, .int ct, .int gv, .int bh, .int bc, .int un]))] : va_W)) u)) (va_A [(o, .inr (3, [.ref sp, .ref h, .ref cn, .int zs, .int rq, .int ti, .int ct, .int gv, .int bh, .int bc, .int un]))] sz)) 0 0 (va_A [(o, .inr (3, [.ref sp, .ref h, .ref cn, .int zs, .int rq, .int ti, .int ct, .int gv, .int bh, .int bc, .int un]))] sz) := by
  refine va_MetW (cc := cL_rooms) (maxL := 4) (ret := (some .int)) (hh := [(0, 6, 9, 13)]) (by decide) rfl ?_
  intro p e s m args below meth c s₁ B hml hv
  obtain ⟨rfl, hsz, hP, hK, hD0, hE⟩ := hv
  have hx := B.exec
  have hb := B.bytes
  have hr := B.returns
  have hts := atoms_spec (ws := wsL_rooms) B.pre
  have hown : s.vm.findClass RL = some m.cls := findClass_of_methodNamed B.named
  have hlocks := B.notSynchronized
  subst hsz
  have hD := hD0.self (sz := s.heap.size)
  have hlo := ck_lo (sz := s.heap.size) hD0 hE.1
  generalize hAe : va_A [(o, .inr (3, [.ref sp, .ref h, .ref cn, .int zs, .int rq, .int ti, .int ct, .int gv, .int bh, .int bc, .int un]))] s.heap.size = A at hD hlo ⊢
  have hA : ∀ q : Nat, s.heap.size ≤ q → A q := fun q h => by rw [← hAe]; exact Or.inr h
  have hG : ck_G (dC, dI) [(cI, .int), (cJ, .long), (cZ, .boolean)] lo A s := ⟨hK, hE, hA, hlo⟩
  have hS : va_S A s.heap s.heap [] := va_S.rf
  have hP : va_P (dC, dI) vwCl [(o, .inr (3, [.ref sp, .ref h, .ref cn, .int zs, .int rq, .int ti, .int ct, .int gv, .int bh, .int bc, .int un]))] s.heap := hP
  have hl := lv_entry ([.ref o, .int zs1, .int rq1]) (n := 4) (Nat.le_of_ble_eq_true rfl)
  rw [lg_entry_eq]
  generalize (lg_sl ([.ref o, .int zs1, .int rq1]) ++ List.replicate (4 - (lg_sl ([.ref o, .int zs1, .int rq1])).length) Slot.unset).toArray = ls at hl ⊢
  have hl : lv_has ls 4 [(0, .ref o), (1, .int zs1), (2, .int rq1)] := hl
  refine lv_aload_n hx hb dL_rooms_0 rfl (lv_at hl 0 rfl) ?_
  refine lv_iload_n hx hb dL_rooms_1 rfl (lv_at hl 1 rfl) ?_
  refine lv_iload_n hx hb dL_rooms_2 rfl (lv_at hl 2 rfl) ?_
  refine ck_cv (wr := []) (va_runV (As := [.int zs1, .int rq1]) (rest := []) ⟨hx, hb, hml, hown, hts⟩ (c_X3_rooms l dC dI cI cJ cZ lo _ o sp h cn zs rq ti ct gv bh bc un zs1 rq1 (by first | assumption | omega) (by first | assumption | omega) (by first | assumption | omega) (by first | assumption | omega)) (cwV 2 hts gL_rooms_X3_rooms rfl rfl rfl (by decide +kernel) ⟨(Nat.le_of_ble_eq_true rfl), (Nat.le_of_ble_eq_true rfl)⟩) ⟨ck_blind, va_recv hK hP (ci := 3) (q0 := 0) rfl rfl, (ck_pre hG hP hD hS [0] rfl (by decide) _)⟩ rfl rfl hl.1 rfl (lv_room (Nat.le_of_ble_eq_true rfl)) dL_rooms_3 ⟨(Nat.le_of_ble_eq_true rfl), (Nat.le_of_ble_eq_true rfl)⟩) hP hD hS hA [0] [] rfl rfl (by decide) (by decide) (fun u H locs hw_1 hP hD hS => ?_)
  have hP : va_P (dC, dI) vwCl [(o, .inr (3, [.ref sp, .ref h, .ref cn, .int zs1, .int rq1, .int ti, .int ct, .int gv, .int bh, .int bc, .int un]))] H := hP
  have hD : va_D A [(o, .inr (3, [.ref sp, .ref h, .ref cn, .int zs1, .int rq1, .int ti, .int ct, .int gv, .int bh, .int bc, .int un]))] := hD
  refine lv_goto (tgt := 12) hx hb dL_rooms_6 (by decide) ?_
  refine lv_iconst (v := 0) hx hb dL_rooms_12 (by decide) ?_
  subst_vars
  refine ck_ir hx hb hr hlocks (Nat.le_of_ble_eq_true rfl) (Nat.le_of_ble_eq_true rfl) dL_rooms_13 () hP hD hS ?_
  exact rfl
set_option maxRecDepth 20000 in
theorem k_L_rooms_kIAE : (.classLink RL 13 ck_IAE : Cond) ∈ wsL_rooms := by decide +kernel
set_option maxHeartbeats 4000000 in
set_option maxRecDepth 100000 in
theorem b_L_rooms (l : Launch) (dC : Nat → ClassId) (dI : Nat → Nat → Nat) (cI cJ cZ : ClassId) (lo sz : Nat) (o sp h cn : Nat) (zs rq ti ct gv bh bc un : Int32) (zs1 rq1 : Int32) (hst : l.stackTraces = false) (hbad : ¬ ((0 ≤ zs1 ∧ zs1 ≤ 32) ∧ (1 ≤ rq1 ∧ rq1 ≤ 16))) : Met l yL_rooms wsL_rooms ({ frames := 8, cells := 1, slots := 6, locals := 142 } : Room) (va_Pc [.ref o, .int zs1, .int rq1] (ck_P (dC, dI) [(cI, .int), (cJ, .long), (cZ, .boolean)] lo sz [(o, .inr (3, [.ref sp, .ref h, .ref cn, .int zs, .int rq, .int ti, .int ct, .int gv, .int bh, .int bc, .int un]))])) (va_Qi (fun (r : Int32) (u : Unit) => r = 1) (fun u => ck_B (dC, dI) vwCl (va_A [(o, .inr (3, [.ref sp, .ref h, .ref cn, .int zs, .int rq, .int ti, .int ct, .int gv, .int bh, .int bc, .int un]))] sz) ((fun u : Unit => ([(o, .inr (3, [.ref sp, .ref h, .ref cn, .int zs, .int rq, .int ti, .int ct, .int gv, .int bh, .int bc, .int un]))] : va_W)) u)) (va_A [(o, .inr (3, [.ref sp, .ref h, .ref cn, .int zs, .int rq, .int ti, .int ct, .int gv, .int bh, .int bc, .int un]))] sz)) 1 6 (va_A [(o, .inr (3, [.ref sp, .ref h, .ref cn, .int zs, .int rq, .int ti, .int ct, .int gv, .int bh, .int bc, .int un]))] sz) := by
  refine va_MetW (cc := cL_rooms) (maxL := 4) (ret := (some .int)) (hh := [(0, 6, 9, 13)]) (by decide) rfl ?_
  intro p e s m args below meth c s₁ B hml hv
  obtain ⟨rfl, hsz, hP, hK, hD0, hE⟩ := hv
  have hx := B.exec
  have hb := B.bytes
  have hr := B.returns
  have hts := atoms_spec (ws := wsL_rooms) B.pre
  have hown : s.vm.findClass RL = some m.cls := findClass_of_methodNamed B.named
  have hlocks := B.notSynchronized
  subst hsz
  have hD := hD0.self (sz := s.heap.size)
  have hlo := ck_lo (sz := s.heap.size) hD0 hE.1
  generalize hAe : va_A [(o, .inr (3, [.ref sp, .ref h, .ref cn, .int zs, .int rq, .int ti, .int ct, .int gv, .int bh, .int bc, .int un]))] s.heap.size = A at hD hlo ⊢
  have hA : ∀ q : Nat, s.heap.size ≤ q → A q := fun q h => by rw [← hAe]; exact Or.inr h
  have hG : ck_G (dC, dI) [(cI, .int), (cJ, .long), (cZ, .boolean)] lo A s := ⟨hK, hE, hA, hlo⟩
  have hS : va_S A s.heap s.heap [] := va_S.rf
  have hP : va_P (dC, dI) vwCl [(o, .inr (3, [.ref sp, .ref h, .ref cn, .int zs, .int rq, .int ti, .int ct, .int gv, .int bh, .int bc, .int un]))] s.heap := hP
  have hl := lv_entry ([.ref o, .int zs1, .int rq1]) (n := 4) (Nat.le_of_ble_eq_true rfl)
  rw [lg_entry_eq]
  generalize (lg_sl ([.ref o, .int zs1, .int rq1]) ++ List.replicate (4 - (lg_sl ([.ref o, .int zs1, .int rq1])).length) Slot.unset).toArray = ls at hl ⊢
  have hl : lv_has ls 4 [(0, .ref o), (1, .int zs1), (2, .int rq1)] := hl
  have htab := vx_table (x := objectInit) B (hts _ List.mem_cons_self)
  refine lv_aload_n hx hb dL_rooms_0 rfl (lv_at hl 0 rfl) ?_
  refine lv_iload_n hx hb dL_rooms_1 rfl (lv_at hl 1 rfl) ?_
  refine lv_iload_n hx hb dL_rooms_2 rfl (lv_at hl 2 rfl) ?_
  refine ck_thr (vx_runV (As := [.int zs1, .int rq1]) (rest := []) ⟨hx, hb, hml, hown, hts⟩ (t_X3_rooms l dC dI cI cJ cZ lo _ o sp h cn zs rq ti ct gv bh bc un zs1 rq1 hst hbad) (cwV 2 hts gL_rooms_X3_rooms rfl rfl rfl (by decide +kernel) ⟨(Nat.le_of_ble_eq_true rfl), (Nat.le_of_ble_eq_true rfl)⟩) ⟨ck_blind, va_recv hK hP (ci := 3) (q0 := 0) rfl rfl, (ck_pre hG hP hD hS [0] rfl (by decide) _)⟩ rfl rfl hl.1 rfl (lv_room (Nat.le_of_ble_eq_true rfl)) dL_rooms_3 ⟨(Nat.le_of_ble_eq_true rfl), (Nat.le_of_ble_eq_true rfl)⟩) (fun ce q9 H1 hz hk hce hcv hcl => ?_)
  have hP := ck_keptP hP hk
  have hS := ck_keptS hS hz hk
  refine ck_catch (own := RL) (name := ck_IAE) (E := ck_IAE) hown ⟨0, 6, 9, 13⟩ htab (by decide) (by decide) (hts _ k_L_rooms_kIAE) (hE.2.2.1.1.use rfl) hce hcv hcl ?_
  refine W.widen (k := 1) (n := 6) (by decide) (by decide) ?_
  refine lv_astore_n (lv' := [(3, .ref q9), (0, .ref o), (1, .int zs1), (2, .int rq1)]) hx hb dL_rooms_9 rfl hl (by decide) rfl (fun ls hl => ?_)
  refine lv_iconst (v := 1) hx hb dL_rooms_10 (by decide) ?_
  subst_vars
  refine ck_ir hx hb hr hlocks (Nat.le_of_ble_eq_true rfl) (Nat.le_of_ble_eq_true rfl) dL_rooms_11 () hP hD hS ?_
  exact rfl
set_option maxHeartbeats 4000000 in
set_option maxRecDepth 100000 in
theorem c_L_pass (l : Launch) (dC : Nat → ClassId) (dI : Nat → Nat → Nat) (cI cJ cZ : ClassId) (lo sz : Nat) (o sp h cn : Nat) (zs rq ti ct gv bh bc un : Int32) (a1 a2 a3 a4 a5 : Nat) (n : Nat) (f1 : Nat → Int64) (f2 f3 f4 f5 : Nat → Int32) (se : Int32) (ou : Nat) (ov : Nat → Int64) (hs1 : 0 ≤ se) (hs2 : se ≤ 10000) (hn : n ≤ 32) : Met l yL_pass wsL_pass ({ frames := 3, cells := 0, slots := 0, locals := 64 } : Room) (va_Pc [.ref o, .int se, .ref ou] (ck_P (dC, dI) [(cI, .int), (cJ, .long), (cZ, .boolean)] lo sz [(o, .inr (3, [.ref sp, .ref h, .ref cn, .int zs, .int rq, .int ti, .int ct, .int gv, .int bh, .int bc, .int un])), (h, .inr (1, [.ref a1, .ref a2, .ref a3, .ref a4, .ref a5, .int (nI n)])), (a1, .inl (cJ, 32, .inr (.inl f1))), (a2, .inl (cI, 32, .inl f2)), (a3, .inl (cI, 32, .inl f3)), (a4, .inl (cI, 32, .inl f4)), (a5, .inl (cI, 32, .inl f5)), (ou, .inl (cJ, 1, .inr (.inl ov)))])) (va_Qi (fun (r : Int32) (u : Int32 × Nat × (Nat → Int64) × (Nat → Int32) × (Nat → Int32) × (Nat → Int32) × (Nat → Int32) × (Nat → Int64)) => r = 0 ∧ ∃ rv : Int32, (u.1 = ti + se ∧ rv = ti + se ∧ u.2.1 ≤ n ∧ (ck_L u.2.1 (ck_R u.2.2.1 u.2.2.2.1 u.2.2.2.2.1 u.2.2.2.2.2.1 u.2.2.2.2.2.2.1)).Perm ((ck_L n (ck_R f1 f2 f3 f4 f5)).filter (ck_yng (ti + se)))) ∧ u.2.2.2.2.2.2.2 0 = rv.toInt64) (fun u => ck_B (dC, dI) vwCl (va_A [(o, .inr (3, [.ref sp, .ref h, .ref cn, .int zs, .int rq, .int ti, .int ct, .int gv, .int bh, .int bc, .int un])), (h, .inr (1, [.ref a1, .ref a2, .ref a3, .ref a4, .ref a5, .int (nI n)])), (a1, .inl (cJ, 32, .inr (.inl f1))), (a2, .inl (cI, 32, .inl f2)), (a3, .inl (cI, 32, .inl f3)), (a4, .inl (cI, 32, .inl f4)), (a5, .inl (cI, 32, .inl f5)), (ou, .inl (cJ, 1, .inr (.inl ov)))] sz) ((fun u : Int32 × Nat × (Nat → Int64) × (Nat → Int32) × (Nat → Int32) × (Nat → Int32) × (Nat → Int32) × (Nat → Int64) => ([(o, .inr (3, [.ref sp, .ref h, .ref cn, .int zs, .int rq, .int u.1, .int ct, .int gv, .int bh, .int bc, .int un])), (h, .inr (1, [.ref a1, .ref a2, .ref a3, .ref a4, .ref a5, .int (nI u.2.1)])), (a1, .inl (cJ, 32, .inr (.inl u.2.2.1))), (a2, .inl (cI, 32, .inl u.2.2.2.1)), (a3, .inl (cI, 32, .inl u.2.2.2.2.1)), (a4, .inl (cI, 32, .inl u.2.2.2.2.2.1)), (a5, .inl (cI, 32, .inl u.2.2.2.2.2.2.1)), (ou, .inl (cJ, 1, .inr (.inl u.2.2.2.2.2.2.2)))] : va_W)) u)) (va_A [(o, .inr (3, [.ref sp, .ref h, .ref cn, .int zs, .int rq, .int ti, .int ct, .int gv, .int bh, .int bc, .int un])), (h, .inr (1, [.ref a1, .ref a2, .ref a3, .ref a4, .ref a5, .int (nI n)])), (a1, .inl (cJ, 32, .inr (.inl f1))), (a2, .inl (cI, 32, .inl f2)), (a3, .inl (cI, 32, .inl f3)), (a4, .inl (cI, 32, .inl f4)), (a5, .inl (cI, 32, .inl f5)), (ou, .inl (cJ, 1, .inr (.inl ov)))] sz)) 0 0 (va_A [(o, .inr (3, [.ref sp, .ref h, .ref cn, .int zs, .int rq, .int ti, .int ct, .int gv, .int bh, .int bc, .int un])), (h, .inr (1, [.ref a1, .ref a2, .ref a3, .ref a4, .ref a5, .int (nI n)])), (a1, .inl (cJ, 32, .inr (.inl f1))), (a2, .inl (cI, 32, .inl f2)), (a3, .inl (cI, 32, .inl f3)), (a4, .inl (cI, 32, .inl f4)), (a5, .inl (cI, 32, .inl f5)), (ou, .inl (cJ, 1, .inr (.inl ov)))] sz) := by
  refine va_MetW (cc := cL_pass) (maxL := 4) (ret := (some .int)) (hh := [(0, 9, 12, 13)]) (by decide) rfl ?_
  intro p e s m args below meth c s₁ B hml hv
  obtain ⟨rfl, hsz, hP, hK, hD0, hE⟩ := hv
  have hx := B.exec
  have hb := B.bytes
  have hr := B.returns
  have hts := atoms_spec (ws := wsL_pass) B.pre
  have hown : s.vm.findClass RL = some m.cls := findClass_of_methodNamed B.named
  have hlocks := B.notSynchronized
  subst hsz
  have hD := hD0.self (sz := s.heap.size)
  have hlo := ck_lo (sz := s.heap.size) hD0 hE.1
  generalize hAe : va_A [(o, .inr (3, [.ref sp, .ref h, .ref cn, .int zs, .int rq, .int ti, .int ct, .int gv, .int bh, .int bc, .int un])), (h, .inr (1, [.ref a1, .ref a2, .ref a3, .ref a4, .ref a5, .int (nI n)])), (a1, .inl (cJ, 32, .inr (.inl f1))), (a2, .inl (cI, 32, .inl f2)), (a3, .inl (cI, 32, .inl f3)), (a4, .inl (cI, 32, .inl f4)), (a5, .inl (cI, 32, .inl f5)), (ou, .inl (cJ, 1, .inr (.inl ov)))] s.heap.size = A at hD hlo ⊢
  have hA : ∀ q : Nat, s.heap.size ≤ q → A q := fun q h => by rw [← hAe]; exact Or.inr h
  have hG : ck_G (dC, dI) [(cI, .int), (cJ, .long), (cZ, .boolean)] lo A s := ⟨hK, hE, hA, hlo⟩
  have hS : va_S A s.heap s.heap [] := va_S.rf
  have hP : va_P (dC, dI) vwCl [(o, .inr (3, [.ref sp, .ref h, .ref cn, .int zs, .int rq, .int ti, .int ct, .int gv, .int bh, .int bc, .int un])), (h, .inr (1, [.ref a1, .ref a2, .ref a3, .ref a4, .ref a5, .int (nI n)])), (a1, .inl (cJ, 32, .inr (.inl f1))), (a2, .inl (cI, 32, .inl f2)), (a3, .inl (cI, 32, .inl f3)), (a4, .inl (cI, 32, .inl f4)), (a5, .inl (cI, 32, .inl f5)), (ou, .inl (cJ, 1, .inr (.inl ov)))] s.heap := hP
  have hl := lv_entry ([.ref o, .int se, .ref ou]) (n := 4) (Nat.le_of_ble_eq_true rfl)
  rw [lg_entry_eq]
  generalize (lg_sl ([.ref o, .int se, .ref ou]) ++ List.replicate (4 - (lg_sl ([.ref o, .int se, .ref ou])).length) Slot.unset).toArray = ls at hl ⊢
  have hl : lv_has ls 4 [(0, .ref o), (1, .int se), (2, .ref ou)] := hl
  refine lv_aload_n hx hb dL_pass_0 rfl (lv_at hl 2 rfl) ?_
  refine lv_iconst (v := nI 0) hx hb dL_pass_1 (by decide) ?_
  refine lv_aload_n hx hb dL_pass_2 rfl (lv_at hl 0 rfl) ?_
  refine lv_iload_n hx hb dL_pass_3 rfl (lv_at hl 1 rfl) ?_
  refine ck_ci (wr := [(ou, .inl (cJ, 1, .inr (.inl ov)))]) (va_runV (As := [.int se]) (rest := [.int (nI 0), .ref ou]) ⟨hx, hb, hml, hown, hts⟩ (c_X3_pass l dC dI cI cJ cZ lo _ o sp h cn zs rq ti ct gv bh bc un a1 a2 a3 a4 a5 n f1 f2 f3 f4 f5 se (by first | assumption | omega) (by first | assumption | omega) (by first | assumption | omega)) (cwV 1 hts gL_pass_X3_pass rfl rfl rfl (by decide +kernel) ⟨(Nat.le_of_ble_eq_true rfl), (Nat.le_of_ble_eq_true rfl)⟩) ⟨ck_blind, va_recv hK hP (ci := 3) (q0 := 0) rfl rfl, (ck_pre hG hP hD hS [0, 1, 2, 3, 4, 5, 6] rfl (by decide) _)⟩ rfl rfl hl.1 rfl (lv_room (Nat.le_of_ble_eq_true rfl)) dL_pass_4 ⟨(Nat.le_of_ble_eq_true rfl), (Nat.le_of_ble_eq_true rfl)⟩) hP hD hS hA [0, 1, 2, 3, 4, 5, 6] [7] rfl rfl (by decide) (by decide) (fun r_1 u H locs hw_1 hP hD hS => ?_)
  obtain ⟨ti2_1, n2_1, w1_1, w2_1, w3_1, w4_1, w5_1⟩ := u
  have hw_1 : ti2_1 = ti + se ∧ r_1 = ti + se ∧ n2_1 ≤ n ∧ (ck_L n2_1 (ck_R w1_1 w2_1 w3_1 w4_1 w5_1)).Perm ((ck_L n (ck_R f1 f2 f3 f4 f5)).filter (ck_yng (ti + se))) := hw_1
  have hP : va_P (dC, dI) vwCl [(ou, .inl (cJ, 1, .inr (.inl ov))), (o, .inr (3, [.ref sp, .ref h, .ref cn, .int zs, .int rq, .int ti2_1, .int ct, .int gv, .int bh, .int bc, .int un])), (h, .inr (1, [.ref a1, .ref a2, .ref a3, .ref a4, .ref a5, .int (nI n2_1)])), (a1, .inl (cJ, 32, .inr (.inl w1_1))), (a2, .inl (cI, 32, .inl w2_1)), (a3, .inl (cI, 32, .inl w3_1)), (a4, .inl (cI, 32, .inl w4_1)), (a5, .inl (cI, 32, .inl w5_1))] H := hP
  have hD : va_D A [(ou, .inl (cJ, 1, .inr (.inl ov))), (o, .inr (3, [.ref sp, .ref h, .ref cn, .int zs, .int rq, .int ti2_1, .int ct, .int gv, .int bh, .int bc, .int un])), (h, .inr (1, [.ref a1, .ref a2, .ref a3, .ref a4, .ref a5, .int (nI n2_1)])), (a1, .inl (cJ, 32, .inr (.inl w1_1))), (a2, .inl (cI, 32, .inl w2_1)), (a3, .inl (cI, 32, .inl w3_1)), (a4, .inl (cI, 32, .inl w4_1)), (a5, .inl (cI, 32, .inl w5_1))] := hD
  refine lv_i2l hx hb dL_pass_7 rfl ?_
  refine ck_last hx hb hK hP hD hS 0 1 rfl rfl (by omega) (by decide) dL_pass_8 (fun H locs hP hD hS => ?_)
  have hP : va_P (dC, dI) vwCl [(ou, .inl (cJ, 1, .inr (.inl (vp_updL ov 0 r_1.toInt64)))), (o, .inr (3, [.ref sp, .ref h, .ref cn, .int zs, .int rq, .int ti2_1, .int ct, .int gv, .int bh, .int bc, .int un])), (h, .inr (1, [.ref a1, .ref a2, .ref a3, .ref a4, .ref a5, .int (nI n2_1)])), (a1, .inl (cJ, 32, .inr (.inl w1_1))), (a2, .inl (cI, 32, .inl w2_1)), (a3, .inl (cI, 32, .inl w3_1)), (a4, .inl (cI, 32, .inl w4_1)), (a5, .inl (cI, 32, .inl w5_1))] H := hP
  have hD : va_D A [(ou, .inl (cJ, 1, .inr (.inl (vp_updL ov 0 r_1.toInt64)))), (o, .inr (3, [.ref sp, .ref h, .ref cn, .int zs, .int rq, .int ti2_1, .int ct, .int gv, .int bh, .int bc, .int un])), (h, .inr (1, [.ref a1, .ref a2, .ref a3, .ref a4, .ref a5, .int (nI n2_1)])), (a1, .inl (cJ, 32, .inr (.inl w1_1))), (a2, .inl (cI, 32, .inl w2_1)), (a3, .inl (cI, 32, .inl w3_1)), (a4, .inl (cI, 32, .inl w4_1)), (a5, .inl (cI, 32, .inl w5_1))] := hD
  refine lv_goto (tgt := 15) hx hb dL_pass_9 (by decide) ?_
  refine lv_iconst (v := 0) hx hb dL_pass_15 (by decide) ?_
  refine ck_ir hx hb hr hlocks (Nat.le_of_ble_eq_true rfl) (Nat.le_of_ble_eq_true rfl) dL_pass_16 (ti2_1, n2_1, w1_1, w2_1, w3_1, w4_1, w5_1, vp_updL ov 0 r_1.toInt64) (hP.sub [1, 2, 3, 4, 5, 6, 7, 0] rfl) (hD.sub [1, 2, 3, 4, 5, 6, 7, 0] (by decide) rfl) hS ?_
  exact ⟨rfl, _, hw_1, rfl⟩
set_option maxRecDepth 20000 in
theorem k_L_pass_kIAE : (.classLink RL 13 ck_IAE : Cond) ∈ wsL_pass := by decide +kernel
set_option maxHeartbeats 4000000 in
set_option maxRecDepth 100000 in
theorem b_L_pass (l : Launch) (dC : Nat → ClassId) (dI : Nat → Nat → Nat) (cI cJ cZ : ClassId) (lo sz : Nat) (o sp h cn : Nat) (zs rq ti ct gv bh bc un : Int32) (se : Int32) (ou : Nat) (hst : l.stackTraces = false) (hbad : ¬ (0 ≤ se ∧ se ≤ 10000)) : Met l yL_pass wsL_pass ({ frames := 8, cells := 1, slots := 6, locals := 141 } : Room) (va_Pc [.ref o, .int se, .ref ou] (ck_P (dC, dI) [(cI, .int), (cJ, .long), (cZ, .boolean)] lo sz [(o, .inr (3, [.ref sp, .ref h, .ref cn, .int zs, .int rq, .int ti, .int ct, .int gv, .int bh, .int bc, .int un]))])) (va_Qi (fun (r : Int32) (u : Unit) => r = 1) (fun u => ck_B (dC, dI) vwCl (va_A [(o, .inr (3, [.ref sp, .ref h, .ref cn, .int zs, .int rq, .int ti, .int ct, .int gv, .int bh, .int bc, .int un]))] sz) ((fun u : Unit => ([(o, .inr (3, [.ref sp, .ref h, .ref cn, .int zs, .int rq, .int ti, .int ct, .int gv, .int bh, .int bc, .int un]))] : va_W)) u)) (va_A [(o, .inr (3, [.ref sp, .ref h, .ref cn, .int zs, .int rq, .int ti, .int ct, .int gv, .int bh, .int bc, .int un]))] sz)) 1 6 (va_A [(o, .inr (3, [.ref sp, .ref h, .ref cn, .int zs, .int rq, .int ti, .int ct, .int gv, .int bh, .int bc, .int un]))] sz) := by
  refine va_MetW (cc := cL_pass) (maxL := 4) (ret := (some .int)) (hh := [(0, 9, 12, 13)]) (by decide) rfl ?_
  intro p e s m args below meth c s₁ B hml hv
  obtain ⟨rfl, hsz, hP, hK, hD0, hE⟩ := hv
  have hx := B.exec
  have hb := B.bytes
  have hr := B.returns
  have hts := atoms_spec (ws := wsL_pass) B.pre
  have hown : s.vm.findClass RL = some m.cls := findClass_of_methodNamed B.named
  have hlocks := B.notSynchronized
  subst hsz
  have hD := hD0.self (sz := s.heap.size)
  have hlo := ck_lo (sz := s.heap.size) hD0 hE.1
  generalize hAe : va_A [(o, .inr (3, [.ref sp, .ref h, .ref cn, .int zs, .int rq, .int ti, .int ct, .int gv, .int bh, .int bc, .int un]))] s.heap.size = A at hD hlo ⊢
  have hA : ∀ q : Nat, s.heap.size ≤ q → A q := fun q h => by rw [← hAe]; exact Or.inr h
  have hG : ck_G (dC, dI) [(cI, .int), (cJ, .long), (cZ, .boolean)] lo A s := ⟨hK, hE, hA, hlo⟩
  have hS : va_S A s.heap s.heap [] := va_S.rf
  have hP : va_P (dC, dI) vwCl [(o, .inr (3, [.ref sp, .ref h, .ref cn, .int zs, .int rq, .int ti, .int ct, .int gv, .int bh, .int bc, .int un]))] s.heap := hP
  have hl := lv_entry ([.ref o, .int se, .ref ou]) (n := 4) (Nat.le_of_ble_eq_true rfl)
  rw [lg_entry_eq]
  generalize (lg_sl ([.ref o, .int se, .ref ou]) ++ List.replicate (4 - (lg_sl ([.ref o, .int se, .ref ou])).length) Slot.unset).toArray = ls at hl ⊢
  have hl : lv_has ls 4 [(0, .ref o), (1, .int se), (2, .ref ou)] := hl
  have htab := vx_table (x := objectInit) B (hts _ List.mem_cons_self)
  refine lv_aload_n hx hb dL_pass_0 rfl (lv_at hl 2 rfl) ?_
  refine lv_iconst (v := 0) hx hb dL_pass_1 (by decide) ?_
  refine lv_aload_n hx hb dL_pass_2 rfl (lv_at hl 0 rfl) ?_
  refine lv_iload_n hx hb dL_pass_3 rfl (lv_at hl 1 rfl) ?_
  refine ck_thr (vx_runV (As := [.int se]) (rest := [.int 0, .ref ou]) ⟨hx, hb, hml, hown, hts⟩ (t_X3_pass l dC dI cI cJ cZ lo _ o sp h cn zs rq ti ct gv bh bc un se hst hbad) (cwV 1 hts gL_pass_X3_pass rfl rfl rfl (by decide +kernel) ⟨(Nat.le_of_ble_eq_true rfl), (Nat.le_of_ble_eq_true rfl)⟩) ⟨ck_blind, va_recv hK hP (ci := 3) (q0 := 0) rfl rfl, (ck_pre hG hP hD hS [0] rfl (by decide) _)⟩ rfl rfl hl.1 rfl (lv_room (Nat.le_of_ble_eq_true rfl)) dL_pass_4 ⟨(Nat.le_of_ble_eq_true rfl), (Nat.le_of_ble_eq_true rfl)⟩) (fun ce q9 H1 hz hk hce hcv hcl => ?_)
  have hP := ck_keptP hP hk
  have hS := ck_keptS hS hz hk
  refine ck_catch (own := RL) (name := ck_IAE) (E := ck_IAE) hown ⟨0, 9, 12, 13⟩ htab (by decide) (by decide) (hts _ k_L_pass_kIAE) (hE.2.2.1.1.use rfl) hce hcv hcl ?_
  refine W.widen (k := 1) (n := 6) (by decide) (by decide) ?_
  refine lv_astore_n (lv' := [(3, .ref q9), (0, .ref o), (1, .int se), (2, .ref ou)]) hx hb dL_pass_12 rfl hl (by decide) rfl (fun ls hl => ?_)
  refine lv_iconst (v := 1) hx hb dL_pass_13 (by decide) ?_
  subst_vars
  refine ck_ir hx hb hr hlocks (Nat.le_of_ble_eq_true rfl) (Nat.le_of_ble_eq_true rfl) dL_pass_14 () hP hD hS ?_
  exact rfl
set_option maxHeartbeats 4000000 in
set_option maxRecDepth 100000 in
theorem c_L_syn (l : Launch) (dC : Nat → ClassId) (dI : Nat → Nat → Nat) (cI cJ cZ : ClassId) (lo sz : Nat) (o sp h cn : Nat) (zs rq ti ct gv bh bc un : Int32) (k l0 v0 v1 v2 v3 : Int64) (a1 a2 a3 a4 a5 : Nat) (n : Nat) (f1 : Nat → Int64) (f2 f3 f4 f5 : Nat → Int32) (b1 b2 : Nat) (kc t : Nat) (g1 : Nat → Int64) (g2 : Nat → Int32) (aa bb num z : Int32) (ou : Nat) (ov : Nat → Int64) (hb1 : 0 ≤ bb) (hb2 : bb ≤ 65535) (hz1 : 0 ≤ z) (hz2 : z ≤ 65535) (hn : n ≤ 32) (hk : kc ≤ 64) (ht : t ≤ kc) (hz : zs ≤ 32) : Met l yL_syn wsL_syn ({ frames := 7, cells := 0, slots := 0, locals := 177 } : Room) (va_Pc [.ref o, .int aa, .int bb, .int num, .int z, .ref ou] (ck_P (dC, dI) [(cI, .int), (cJ, .long), (cZ, .boolean)] lo sz [(o, .inr (3, [.ref sp, .ref h, .ref cn, .int zs, .int rq, .int ti, .int ct, .int gv, .int bh, .int bc, .int un])), (sp, .inr (2, [.long k, .long l0, .long v0, .long v1, .long v2, .long v3])), (h, .inr (1, [.ref a1, .ref a2, .ref a3, .ref a4, .ref a5, .int (nI n)])), (a1, .inl (cJ, 32, .inr (.inl f1))), (a2, .inl (cI, 32, .inl f2)), (a3, .inl (cI, 32, .inl f3)), (a4, .inl (cI, 32, .inl f4)), (a5, .inl (cI, 32, .inl f5)), (cn, .inr (0, [.ref b1, .ref b2, .int (nI kc), .int (nI t)])), (b1, .inl (cJ, 64, .inr (.inl g1))), (b2, .inl (cI, 64, .inl g2)), (ou, .inl (cJ, 1, .inr (.inl ov)))])) (va_Qi (fun (r : Int32) (u : Int32 × Int32 × Nat × (Nat → Int64) × (Nat → Int32) × (Nat → Int32) × (Nat → Int32) × (Nat → Int32) × Int64 × Int64 × Int64 × Int64 × (Nat → Int64)) => r = 0 ∧ ∃ rv : Int64, (((∃ j, j < kc ∧ g1 j = ck_clr aa bb) ∧ rv = -1 ∧ u.2.1 = gv ∧ u.1 = ct ∧ u.2.2.1 = n ∧ u.2.2.2.1 = f1 ∧ u.2.2.2.2.1 = f2 ∧ u.2.2.2.2.2.1 = f3 ∧ u.2.2.2.2.2.2.1 = f4 ∧ u.2.2.2.2.2.2.2.1 = f5) ∨ ((∀ i, i < kc → g1 i ≠ ck_clr aa bb) ∧ (∃ j, j < n ∧ f1 j = ck_clr aa bb ∧ f2 j = num ∧ rv = ck_wos (f3 j)) ∧ u.2.1 = gv ∧ u.1 = ct ∧ u.2.2.1 = n ∧ u.2.2.2.1 = f1 ∧ u.2.2.2.2.1 = f2 ∧ u.2.2.2.2.2.1 = f3 ∧ u.2.2.2.2.2.2.1 = f4 ∧ u.2.2.2.2.2.2.2.1 = f5) ∨ ((∀ i, i < kc → g1 i ≠ ck_clr aa bb) ∧ ∃ n1 F1, ck_lft n (ck_R f1 f2 f3 f4 f5) (ck_clr aa bb) num n1 F1 ∧ ((¬ nI n1 < zs ∧ rv = ck_wos (ck_ckk k l0 (ck_clr aa bb) num (ck_kdi 8 z) (ti / 64)) ∧ u.2.1 = gv + 1 ∧ u.1 = ti ∧ u.2.2.1 = n1 ∧ ck_L u.2.2.1 (ck_R u.2.2.2.1 u.2.2.2.2.1 u.2.2.2.2.2.1 u.2.2.2.2.2.2.1 u.2.2.2.2.2.2.2.1) = ck_L n1 F1) ∨ (nI n1 < zs ∧ rv = ck_wos (ck_ckk k l0 (ck_clr aa bb) num (ck_kdi 8 z) (ti / 64) ^^^ (-16777216)) ∧ u.2.1 = gv ∧ u.1 = ct ∧ u.2.2.1 = n1 + 1 ∧ ck_L u.2.2.1 (ck_R u.2.2.2.1 u.2.2.2.2.1 u.2.2.2.2.2.1 u.2.2.2.2.2.2.1 u.2.2.2.2.2.2.2.1) = ck_L n1 F1 ++ [(ck_clr aa bb, num, ck_ckk k l0 (ck_clr aa bb) num (ck_kdi 8 z) (ti / 64) ^^^ (-16777216), ck_kdi 8 z, ti)])))) ∧ u.2.2.2.2.2.2.2.2.2.2.2.2 0 = rv) (fun u => ck_B (dC, dI) vwCl (va_A [(o, .inr (3, [.ref sp, .ref h, .ref cn, .int zs, .int rq, .int ti, .int ct, .int gv, .int bh, .int bc, .int un])), (sp, .inr (2, [.long k, .long l0, .long v0, .long v1, .long v2, .long v3])), (h, .inr (1, [.ref a1, .ref a2, .ref a3, .ref a4, .ref a5, .int (nI n)])), (a1, .inl (cJ, 32, .inr (.inl f1))), (a2, .inl (cI, 32, .inl f2)), (a3, .inl (cI, 32, .inl f3)), (a4, .inl (cI, 32, .inl f4)), (a5, .inl (cI, 32, .inl f5)), (cn, .inr (0, [.ref b1, .ref b2, .int (nI kc), .int (nI t)])), (b1, .inl (cJ, 64, .inr (.inl g1))), (b2, .inl (cI, 64, .inl g2)), (ou, .inl (cJ, 1, .inr (.inl ov)))] sz) ((fun u : Int32 × Int32 × Nat × (Nat → Int64) × (Nat → Int32) × (Nat → Int32) × (Nat → Int32) × (Nat → Int32) × Int64 × Int64 × Int64 × Int64 × (Nat → Int64) => ([(o, .inr (3, [.ref sp, .ref h, .ref cn, .int zs, .int rq, .int ti, .int u.1, .int u.2.1, .int bh, .int bc, .int un])), (sp, .inr (2, [.long k, .long l0, .long u.2.2.2.2.2.2.2.2.1, .long u.2.2.2.2.2.2.2.2.2.1, .long u.2.2.2.2.2.2.2.2.2.2.1, .long u.2.2.2.2.2.2.2.2.2.2.2.1])), (h, .inr (1, [.ref a1, .ref a2, .ref a3, .ref a4, .ref a5, .int (nI u.2.2.1)])), (a1, .inl (cJ, 32, .inr (.inl u.2.2.2.1))), (a2, .inl (cI, 32, .inl u.2.2.2.2.1)), (a3, .inl (cI, 32, .inl u.2.2.2.2.2.1)), (a4, .inl (cI, 32, .inl u.2.2.2.2.2.2.1)), (a5, .inl (cI, 32, .inl u.2.2.2.2.2.2.2.1)), (cn, .inr (0, [.ref b1, .ref b2, .int (nI kc), .int (nI t)])), (b1, .inl (cJ, 64, .inr (.inl g1))), (b2, .inl (cI, 64, .inl g2)), (ou, .inl (cJ, 1, .inr (.inl u.2.2.2.2.2.2.2.2.2.2.2.2)))] : va_W)) u)) (va_A [(o, .inr (3, [.ref sp, .ref h, .ref cn, .int zs, .int rq, .int ti, .int ct, .int gv, .int bh, .int bc, .int un])), (sp, .inr (2, [.long k, .long l0, .long v0, .long v1, .long v2, .long v3])), (h, .inr (1, [.ref a1, .ref a2, .ref a3, .ref a4, .ref a5, .int (nI n)])), (a1, .inl (cJ, 32, .inr (.inl f1))), (a2, .inl (cI, 32, .inl f2)), (a3, .inl (cI, 32, .inl f3)), (a4, .inl (cI, 32, .inl f4)), (a5, .inl (cI, 32, .inl f5)), (cn, .inr (0, [.ref b1, .ref b2, .int (nI kc), .int (nI t)])), (b1, .inl (cJ, 64, .inr (.inl g1))), (b2, .inl (cI, 64, .inl g2)), (ou, .inl (cJ, 1, .inr (.inl ov)))] sz)) 0 0 (va_A [(o, .inr (3, [.ref sp, .ref h, .ref cn, .int zs, .int rq, .int ti, .int ct, .int gv, .int bh, .int bc, .int un])), (sp, .inr (2, [.long k, .long l0, .long v0, .long v1, .long v2, .long v3])), (h, .inr (1, [.ref a1, .ref a2, .ref a3, .ref a4, .ref a5, .int (nI n)])), (a1, .inl (cJ, 32, .inr (.inl f1))), (a2, .inl (cI, 32, .inl f2)), (a3, .inl (cI, 32, .inl f3)), (a4, .inl (cI, 32, .inl f4)), (a5, .inl (cI, 32, .inl f5)), (cn, .inr (0, [.ref b1, .ref b2, .int (nI kc), .int (nI t)])), (b1, .inl (cJ, 64, .inr (.inl g1))), (b2, .inl (cI, 64, .inl g2)), (ou, .inl (cJ, 1, .inr (.inl ov)))] sz) := by
  refine va_MetW (cc := cL_syn) (maxL := 7) (ret := (some .int)) (hh := [(0, 13, 16, 13)]) (by decide) rfl ?_
  intro p e s m args below meth c s₁ B hml hv
  obtain ⟨rfl, hsz, hP, hK, hD0, hE⟩ := hv
  have hx := B.exec
  have hb := B.bytes
  have hr := B.returns
  have hts := atoms_spec (ws := wsL_syn) B.pre
  have hown : s.vm.findClass RL = some m.cls := findClass_of_methodNamed B.named
  have hlocks := B.notSynchronized
  subst hsz
  have hD := hD0.self (sz := s.heap.size)
  have hlo := ck_lo (sz := s.heap.size) hD0 hE.1
  generalize hAe : va_A [(o, .inr (3, [.ref sp, .ref h, .ref cn, .int zs, .int rq, .int ti, .int ct, .int gv, .int bh, .int bc, .int un])), (sp, .inr (2, [.long k, .long l0, .long v0, .long v1, .long v2, .long v3])), (h, .inr (1, [.ref a1, .ref a2, .ref a3, .ref a4, .ref a5, .int (nI n)])), (a1, .inl (cJ, 32, .inr (.inl f1))), (a2, .inl (cI, 32, .inl f2)), (a3, .inl (cI, 32, .inl f3)), (a4, .inl (cI, 32, .inl f4)), (a5, .inl (cI, 32, .inl f5)), (cn, .inr (0, [.ref b1, .ref b2, .int (nI kc), .int (nI t)])), (b1, .inl (cJ, 64, .inr (.inl g1))), (b2, .inl (cI, 64, .inl g2)), (ou, .inl (cJ, 1, .inr (.inl ov)))] s.heap.size = A at hD hlo ⊢
  have hA : ∀ q : Nat, s.heap.size ≤ q → A q := fun q h => by rw [← hAe]; exact Or.inr h
  have hG : ck_G (dC, dI) [(cI, .int), (cJ, .long), (cZ, .boolean)] lo A s := ⟨hK, hE, hA, hlo⟩
  have hS : va_S A s.heap s.heap [] := va_S.rf
  have hP : va_P (dC, dI) vwCl [(o, .inr (3, [.ref sp, .ref h, .ref cn, .int zs, .int rq, .int ti, .int ct, .int gv, .int bh, .int bc, .int un])), (sp, .inr (2, [.long k, .long l0, .long v0, .long v1, .long v2, .long v3])), (h, .inr (1, [.ref a1, .ref a2, .ref a3, .ref a4, .ref a5, .int (nI n)])), (a1, .inl (cJ, 32, .inr (.inl f1))), (a2, .inl (cI, 32, .inl f2)), (a3, .inl (cI, 32, .inl f3)), (a4, .inl (cI, 32, .inl f4)), (a5, .inl (cI, 32, .inl f5)), (cn, .inr (0, [.ref b1, .ref b2, .int (nI kc), .int (nI t)])), (b1, .inl (cJ, 64, .inr (.inl g1))), (b2, .inl (cI, 64, .inl g2)), (ou, .inl (cJ, 1, .inr (.inl ov)))] s.heap := hP
  have hl := lv_entry ([.ref o, .int aa, .int bb, .int num, .int z, .ref ou]) (n := 7) (Nat.le_of_ble_eq_true rfl)
  rw [lg_entry_eq]
  generalize (lg_sl ([.ref o, .int aa, .int bb, .int num, .int z, .ref ou]) ++ List.replicate (7 - (lg_sl ([.ref o, .int aa, .int bb, .int num, .int z, .ref ou])).length) Slot.unset).toArray = ls at hl ⊢
  have hl : lv_has ls 7 [(0, .ref o), (1, .int aa), (2, .int bb), (3, .int num), (4, .int z), (5, .ref ou)] := hl
  refine lv_aload hx hb dL_syn_0 (lv_at hl 5 rfl) ?_
  refine lv_iconst (v := nI 0) hx hb dL_syn_2 (by decide) ?_
  refine lv_aload_n hx hb dL_syn_3 rfl (lv_at hl 0 rfl) ?_
  refine lv_iload_n hx hb dL_syn_4 rfl (lv_at hl 1 rfl) ?_
  refine lv_iload_n hx hb dL_syn_5 rfl (lv_at hl 2 rfl) ?_
  refine lv_iload_n hx hb dL_syn_6 rfl (lv_at hl 3 rfl) ?_
  refine lv_iload hx hb dL_syn_7 (lv_at hl 4 rfl) ?_
  refine ck_cl (wr := [(ou, .inl (cJ, 1, .inr (.inl ov)))]) (va_runV (As := [.int aa, .int bb, .int num, .int z]) (rest := [.int (nI 0), .ref ou]) ⟨hx, hb, hml, hown, hts⟩ (c_X3_syn l dC dI cI cJ cZ lo _ o sp h cn zs rq ti ct gv bh bc un k l0 v0 v1 v2 v3 a1 a2 a3 a4 a5 n f1 f2 f3 f4 f5 b1 b2 kc t g1 g2 aa bb num z (by first | assumption | omega) (by first | assumption | omega) (by first | assumption | omega) (by first | assumption | omega) (by first | assumption | omega) (by first | assumption | omega) (by first | assumption | omega) (by first | assumption | omega)) (cwV 4 hts gL_syn_X3_syn rfl rfl rfl (by decide +kernel) ⟨(Nat.le_of_ble_eq_true rfl), (Nat.le_of_ble_eq_true rfl)⟩) ⟨ck_blind, va_recv hK hP (ci := 3) (q0 := 0) rfl rfl, (ck_pre hG hP hD hS [0, 1, 2, 3, 4, 5, 6, 7, 8, 9, 10] rfl (by decide) _)⟩ rfl rfl hl.1 rfl (lv_room (Nat.le_of_ble_eq_true rfl)) dL_syn_9 ⟨(Nat.le_of_ble_eq_true rfl), (Nat.le_of_ble_eq_true rfl)⟩) hP hD hS hA [0, 1, 2, 3, 4, 5, 6, 7, 8, 9, 10] [11] rfl rfl (by decide) (by decide) (fun r_1 u H locs hw_1 hP hD hS => ?_)
  obtain ⟨ct2_1, gv2_1, n2_1, w1_1, w2_1, w3_1, w4_1, w5_1, u0_1, u1_1, u2_1, u3_1⟩ := u
  have hw_1 : ((∃ j, j < kc ∧ g1 j = ck_clr aa bb) ∧ r_1 = -1 ∧ gv2_1 = gv ∧ ct2_1 = ct ∧ n2_1 = n ∧ w1_1 = f1 ∧ w2_1 = f2 ∧ w3_1 = f3 ∧ w4_1 = f4 ∧ w5_1 = f5) ∨ ((∀ i, i < kc → g1 i ≠ ck_clr aa bb) ∧ (∃ j, j < n ∧ f1 j = ck_clr aa bb ∧ f2 j = num ∧ r_1 = ck_wos (f3 j)) ∧ gv2_1 = gv ∧ ct2_1 = ct ∧ n2_1 = n ∧ w1_1 = f1 ∧ w2_1 = f2 ∧ w3_1 = f3 ∧ w4_1 = f4 ∧ w5_1 = f5) ∨ ((∀ i, i < kc → g1 i ≠ ck_clr aa bb) ∧ ∃ n1 F1, ck_lft n (ck_R f1 f2 f3 f4 f5) (ck_clr aa bb) num n1 F1 ∧ ((¬ nI n1 < zs ∧ r_1 = ck_wos (ck_ckk k l0 (ck_clr aa bb) num (ck_kdi 8 z) (ti / 64)) ∧ gv2_1 = gv + 1 ∧ ct2_1 = ti ∧ n2_1 = n1 ∧ ck_L n2_1 (ck_R w1_1 w2_1 w3_1 w4_1 w5_1) = ck_L n1 F1) ∨ (nI n1 < zs ∧ r_1 = ck_wos (ck_ckk k l0 (ck_clr aa bb) num (ck_kdi 8 z) (ti / 64) ^^^ (-16777216)) ∧ gv2_1 = gv ∧ ct2_1 = ct ∧ n2_1 = n1 + 1 ∧ ck_L n2_1 (ck_R w1_1 w2_1 w3_1 w4_1 w5_1) = ck_L n1 F1 ++ [(ck_clr aa bb, num, ck_ckk k l0 (ck_clr aa bb) num (ck_kdi 8 z) (ti / 64) ^^^ (-16777216), ck_kdi 8 z, ti)]))) := hw_1
  have hP : va_P (dC, dI) vwCl [(ou, .inl (cJ, 1, .inr (.inl ov))), (o, .inr (3, [.ref sp, .ref h, .ref cn, .int zs, .int rq, .int ti, .int ct2_1, .int gv2_1, .int bh, .int bc, .int un])), (sp, .inr (2, [.long k, .long l0, .long u0_1, .long u1_1, .long u2_1, .long u3_1])), (h, .inr (1, [.ref a1, .ref a2, .ref a3, .ref a4, .ref a5, .int (nI n2_1)])), (a1, .inl (cJ, 32, .inr (.inl w1_1))), (a2, .inl (cI, 32, .inl w2_1)), (a3, .inl (cI, 32, .inl w3_1)), (a4, .inl (cI, 32, .inl w4_1)), (a5, .inl (cI, 32, .inl w5_1)), (cn, .inr (0, [.ref b1, .ref b2, .int (nI kc), .int (nI t)])), (b1, .inl (cJ, 64, .inr (.inl g1))), (b2, .inl (cI, 64, .inl g2))] H := hP
  have hD : va_D A [(ou, .inl (cJ, 1, .inr (.inl ov))), (o, .inr (3, [.ref sp, .ref h, .ref cn, .int zs, .int rq, .int ti, .int ct2_1, .int gv2_1, .int bh, .int bc, .int un])), (sp, .inr (2, [.long k, .long l0, .long u0_1, .long u1_1, .long u2_1, .long u3_1])), (h, .inr (1, [.ref a1, .ref a2, .ref a3, .ref a4, .ref a5, .int (nI n2_1)])), (a1, .inl (cJ, 32, .inr (.inl w1_1))), (a2, .inl (cI, 32, .inl w2_1)), (a3, .inl (cI, 32, .inl w3_1)), (a4, .inl (cI, 32, .inl w4_1)), (a5, .inl (cI, 32, .inl w5_1)), (cn, .inr (0, [.ref b1, .ref b2, .int (nI kc), .int (nI t)])), (b1, .inl (cJ, 64, .inr (.inl g1))), (b2, .inl (cI, 64, .inl g2))] := hD
  refine ck_last hx hb hK hP hD hS 0 1 rfl rfl (by omega) (by decide) dL_syn_12 (fun H locs hP hD hS => ?_)
  have hP : va_P (dC, dI) vwCl [(ou, .inl (cJ, 1, .inr (.inl (vp_updL ov 0 r_1)))), (o, .inr (3, [.ref sp, .ref h, .ref cn, .int zs, .int rq, .int ti, .int ct2_1, .int gv2_1, .int bh, .int bc, .int un])), (sp, .inr (2, [.long k, .long l0, .long u0_1, .long u1_1, .long u2_1, .long u3_1])), (h, .inr (1, [.ref a1, .ref a2, .ref a3, .ref a4, .ref a5, .int (nI n2_1)])), (a1, .inl (cJ, 32, .inr (.inl w1_1))), (a2, .inl (cI, 32, .inl w2_1)), (a3, .inl (cI, 32, .inl w3_1)), (a4, .inl (cI, 32, .inl w4_1)), (a5, .inl (cI, 32, .inl w5_1)), (cn, .inr (0, [.ref b1, .ref b2, .int (nI kc), .int (nI t)])), (b1, .inl (cJ, 64, .inr (.inl g1))), (b2, .inl (cI, 64, .inl g2))] H := hP
  have hD : va_D A [(ou, .inl (cJ, 1, .inr (.inl (vp_updL ov 0 r_1)))), (o, .inr (3, [.ref sp, .ref h, .ref cn, .int zs, .int rq, .int ti, .int ct2_1, .int gv2_1, .int bh, .int bc, .int un])), (sp, .inr (2, [.long k, .long l0, .long u0_1, .long u1_1, .long u2_1, .long u3_1])), (h, .inr (1, [.ref a1, .ref a2, .ref a3, .ref a4, .ref a5, .int (nI n2_1)])), (a1, .inl (cJ, 32, .inr (.inl w1_1))), (a2, .inl (cI, 32, .inl w2_1)), (a3, .inl (cI, 32, .inl w3_1)), (a4, .inl (cI, 32, .inl w4_1)), (a5, .inl (cI, 32, .inl w5_1)), (cn, .inr (0, [.ref b1, .ref b2, .int (nI kc), .int (nI t)])), (b1, .inl (cJ, 64, .inr (.inl g1))), (b2, .inl (cI, 64, .inl g2))] := hD
  refine lv_goto (tgt := 20) hx hb dL_syn_13 (by decide) ?_
  refine lv_iconst (v := 0) hx hb dL_syn_20 (by decide) ?_
  refine ck_ir hx hb hr hlocks (Nat.le_of_ble_eq_true rfl) (Nat.le_of_ble_eq_true rfl) dL_syn_21 (ct2_1, gv2_1, n2_1, w1_1, w2_1, w3_1, w4_1, w5_1, u0_1, u1_1, u2_1, u3_1, vp_updL ov 0 r_1) (hP.sub [1, 2, 3, 4, 5, 6, 7, 8, 9, 10, 11, 0] rfl) (hD.sub [1, 2, 3, 4, 5, 6, 7, 8, 9, 10, 11, 0] (by decide) rfl) hS ?_
  exact ⟨rfl, _, hw_1, rfl⟩
set_option maxRecDepth 20000 in
theorem k_L_syn_kIAE : (.classLink RL 13 ck_IAE : Cond) ∈ wsL_syn := by decide +kernel
set_option maxHeartbeats 4000000 in
set_option maxRecDepth 100000 in
theorem b_L_syn (l : Launch) (dC : Nat → ClassId) (dI : Nat → Nat → Nat) (cI cJ cZ : ClassId) (lo sz : Nat) (o sp h cn : Nat) (zs rq ti ct gv bh bc un : Int32) (aa bb num z : Int32) (ou : Nat) (hst : l.stackTraces = false) (hbad : ¬ ((0 ≤ bb ∧ bb ≤ 65535) ∧ (0 ≤ z ∧ z ≤ 65535))) : Met l yL_syn wsL_syn ({ frames := 8, cells := 1, slots := 6, locals := 147 } : Room) (va_Pc [.ref o, .int aa, .int bb, .int num, .int z, .ref ou] (ck_P (dC, dI) [(cI, .int), (cJ, .long), (cZ, .boolean)] lo sz [(o, .inr (3, [.ref sp, .ref h, .ref cn, .int zs, .int rq, .int ti, .int ct, .int gv, .int bh, .int bc, .int un]))])) (va_Qi (fun (r : Int32) (u : Unit) => r = 1) (fun u => ck_B (dC, dI) vwCl (va_A [(o, .inr (3, [.ref sp, .ref h, .ref cn, .int zs, .int rq, .int ti, .int ct, .int gv, .int bh, .int bc, .int un]))] sz) ((fun u : Unit => ([(o, .inr (3, [.ref sp, .ref h, .ref cn, .int zs, .int rq, .int ti, .int ct, .int gv, .int bh, .int bc, .int un]))] : va_W)) u)) (va_A [(o, .inr (3, [.ref sp, .ref h, .ref cn, .int zs, .int rq, .int ti, .int ct, .int gv, .int bh, .int bc, .int un]))] sz)) 1 6 (va_A [(o, .inr (3, [.ref sp, .ref h, .ref cn, .int zs, .int rq, .int ti, .int ct, .int gv, .int bh, .int bc, .int un]))] sz) := by
  refine va_MetW (cc := cL_syn) (maxL := 7) (ret := (some .int)) (hh := [(0, 13, 16, 13)]) (by decide) rfl ?_
  intro p e s m args below meth c s₁ B hml hv
  obtain ⟨rfl, hsz, hP, hK, hD0, hE⟩ := hv
  have hx := B.exec
  have hb := B.bytes
  have hr := B.returns
  have hts := atoms_spec (ws := wsL_syn) B.pre
  have hown : s.vm.findClass RL = some m.cls := findClass_of_methodNamed B.named
  have hlocks := B.notSynchronized
  subst hsz
  have hD := hD0.self (sz := s.heap.size)
  have hlo := ck_lo (sz := s.heap.size) hD0 hE.1
  generalize hAe : va_A [(o, .inr (3, [.ref sp, .ref h, .ref cn, .int zs, .int rq, .int ti, .int ct, .int gv, .int bh, .int bc, .int un]))] s.heap.size = A at hD hlo ⊢
  have hA : ∀ q : Nat, s.heap.size ≤ q → A q := fun q h => by rw [← hAe]; exact Or.inr h
  have hG : ck_G (dC, dI) [(cI, .int), (cJ, .long), (cZ, .boolean)] lo A s := ⟨hK, hE, hA, hlo⟩
  have hS : va_S A s.heap s.heap [] := va_S.rf
  have hP : va_P (dC, dI) vwCl [(o, .inr (3, [.ref sp, .ref h, .ref cn, .int zs, .int rq, .int ti, .int ct, .int gv, .int bh, .int bc, .int un]))] s.heap := hP
  have hl := lv_entry ([.ref o, .int aa, .int bb, .int num, .int z, .ref ou]) (n := 7) (Nat.le_of_ble_eq_true rfl)
  rw [lg_entry_eq]
  generalize (lg_sl ([.ref o, .int aa, .int bb, .int num, .int z, .ref ou]) ++ List.replicate (7 - (lg_sl ([.ref o, .int aa, .int bb, .int num, .int z, .ref ou])).length) Slot.unset).toArray = ls at hl ⊢
  have hl : lv_has ls 7 [(0, .ref o), (1, .int aa), (2, .int bb), (3, .int num), (4, .int z), (5, .ref ou)] := hl
  have htab := vx_table (x := objectInit) B (hts _ List.mem_cons_self)
  refine lv_aload hx hb dL_syn_0 (lv_at hl 5 rfl) ?_
  refine lv_iconst (v := 0) hx hb dL_syn_2 (by decide) ?_
  refine lv_aload_n hx hb dL_syn_3 rfl (lv_at hl 0 rfl) ?_
  refine lv_iload_n hx hb dL_syn_4 rfl (lv_at hl 1 rfl) ?_
  refine lv_iload_n hx hb dL_syn_5 rfl (lv_at hl 2 rfl) ?_
  refine lv_iload_n hx hb dL_syn_6 rfl (lv_at hl 3 rfl) ?_
  refine lv_iload hx hb dL_syn_7 (lv_at hl 4 rfl) ?_
  refine ck_thr (vx_runV (As := [.int aa, .int bb, .int num, .int z]) (rest := [.int 0, .ref ou]) ⟨hx, hb, hml, hown, hts⟩ (t_X3_syn l dC dI cI cJ cZ lo _ o sp h cn zs rq ti ct gv bh bc un aa bb num z hst hbad) (cwV 4 hts gL_syn_X3_syn rfl rfl rfl (by decide +kernel) ⟨(Nat.le_of_ble_eq_true rfl), (Nat.le_of_ble_eq_true rfl)⟩) ⟨ck_blind, va_recv hK hP (ci := 3) (q0 := 0) rfl rfl, (ck_pre hG hP hD hS [0] rfl (by decide) _)⟩ rfl rfl hl.1 rfl (lv_room (Nat.le_of_ble_eq_true rfl)) dL_syn_9 ⟨(Nat.le_of_ble_eq_true rfl), (Nat.le_of_ble_eq_true rfl)⟩) (fun ce q9 H1 hz hk hce hcv hcl => ?_)
  have hP := ck_keptP hP hk
  have hS := ck_keptS hS hz hk
  refine ck_catch (own := RL) (name := ck_IAE) (E := ck_IAE) hown ⟨0, 13, 16, 13⟩ htab (by decide) (by decide) (hts _ k_L_syn_kIAE) (hE.2.2.1.1.use rfl) hce hcv hcl ?_
  refine W.widen (k := 1) (n := 6) (by decide) (by decide) ?_
  refine lv_astore (lv' := [(6, .ref q9), (0, .ref o), (1, .int aa), (2, .int bb), (3, .int num), (4, .int z), (5, .ref ou)]) hx hb dL_syn_16 hl (by decide) rfl (fun ls hl => ?_)
  refine lv_iconst (v := 1) hx hb dL_syn_18 (by decide) ?_
  subst_vars
  refine ck_ir hx hb hr hlocks (Nat.le_of_ble_eq_true rfl) (Nat.le_of_ble_eq_true rfl) dL_syn_19 () hP hD hS ?_
  exact rfl
set_option maxHeartbeats 4000000 in
set_option maxRecDepth 100000 in
theorem c_L_ack (l : Launch) (dC : Nat → ClassId) (dI : Nat → Nat → Nat) (cI cJ cZ : ClassId) (lo sz : Nat) (o sp h cn : Nat) (zs rq ti ct gv bh bc un : Int32) (k l0 v0 v1 v2 v3 : Int64) (a1 a2 a3 a4 a5 : Nat) (n : Nat) (f1 : Nat → Int64) (f2 f3 f4 f5 : Nat → Int32) (b1 b2 : Nat) (kc t : Nat) (g1 : Nat → Int64) (g2 : Nat → Int32) (aa bb na nb : Int32) (ou : Nat) (ov : Nat → Int64) (hb1 : 0 ≤ bb) (hb2 : bb ≤ 65535) (hn : n ≤ 32) (hk : kc ≤ 64) (ht : t ≤ kc) : Met l yL_ack wsL_ack ({ frames := 8, cells := 0, slots := 0, locals := 208 } : Room) (va_Pc [.ref o, .int aa, .int bb, .int na, .int nb, .ref ou] (ck_P (dC, dI) [(cI, .int), (cJ, .long), (cZ, .boolean)] lo sz [(o, .inr (3, [.ref sp, .ref h, .ref cn, .int zs, .int rq, .int ti, .int ct, .int gv, .int bh, .int bc, .int un])), (sp, .inr (2, [.long k, .long l0, .long v0, .long v1, .long v2, .long v3])), (h, .inr (1, [.ref a1, .ref a2, .ref a3, .ref a4, .ref a5, .int (nI n)])), (a1, .inl (cJ, 32, .inr (.inl f1))), (a2, .inl (cI, 32, .inl f2)), (a3, .inl (cI, 32, .inl f3)), (a4, .inl (cI, 32, .inl f4)), (a5, .inl (cI, 32, .inl f5)), (cn, .inr (0, [.ref b1, .ref b2, .int (nI kc), .int (nI t)])), (b1, .inl (cJ, 64, .inr (.inl g1))), (b2, .inl (cI, 64, .inl g2)), (ou, .inl (cJ, 1, .inr (.inl ov)))])) (va_Qi (fun (r : Int32) (u : Int32 × Int32 × Int32 × Nat × (Nat → Int64) × (Nat → Int32) × (Nat → Int32) × (Nat → Int32) × (Nat → Int32) × Nat × (Nat → Int64) × (Nat → Int32) × Int64 × Int64 × Int64 × Int64 × (Nat → Int64)) => r = 0 ∧ ∃ rv : Int32, (((∃ j, j < kc ∧ g1 j = ck_clr aa bb) ∧ rv = 1 ∧ u.2.2.1 = un ∧ u.1 = bh ∧ u.2.1 = bc ∧ u.2.2.2.1 = n ∧ u.2.2.2.2.1 = f1 ∧ u.2.2.2.2.2.1 = f2 ∧ u.2.2.2.2.2.2.1 = f3 ∧ u.2.2.2.2.2.2.2.1 = f4 ∧ u.2.2.2.2.2.2.2.2.1 = f5 ∧ u.2.2.2.2.2.2.2.2.2.1 = kc ∧ u.2.2.2.2.2.2.2.2.2.2.1 = g1 ∧ u.2.2.2.2.2.2.2.2.2.2.2.1 = g2) ∨ ((∀ i, i < kc → g1 i ≠ ck_clr aa bb) ∧ ∃ j, j < n ∧ f1 j = ck_clr aa bb ∧ ((¬ (f2 j = na - 1 ∧ f3 j = nb - 1) ∧ rv = 4 ∧ u.2.2.1 = un ∧ u.1 = bh ∧ u.2.1 = bc ∧ u.2.2.2.1 = n ∧ u.2.2.2.2.1 = f1 ∧ u.2.2.2.2.2.1 = f2 ∧ u.2.2.2.2.2.2.1 = f3 ∧ u.2.2.2.2.2.2.2.1 = f4 ∧ u.2.2.2.2.2.2.2.2.1 = f5 ∧ u.2.2.2.2.2.2.2.2.2.1 = kc ∧ u.2.2.2.2.2.2.2.2.2.2.1 = g1 ∧ u.2.2.2.2.2.2.2.2.2.2.2.1 = g2) ∨ ((f2 j = na - 1 ∧ f3 j = nb - 1) ∧ ¬ (nI (kc - t) < rq ∧ kc < 64) ∧ rv = 3 ∧ u.2.2.1 = un ∧ u.1 = bh ∧ u.2.1 = bc ∧ u.2.2.2.1 = n ∧ u.2.2.2.2.1 = f1 ∧ u.2.2.2.2.2.1 = f2 ∧ u.2.2.2.2.2.2.1 = f3 ∧ u.2.2.2.2.2.2.2.1 = f4 ∧ u.2.2.2.2.2.2.2.2.1 = f5 ∧ u.2.2.2.2.2.2.2.2.2.1 = kc ∧ u.2.2.2.2.2.2.2.2.2.2.1 = g1 ∧ u.2.2.2.2.2.2.2.2.2.2.2.1 = g2) ∨ ((f2 j = na - 1 ∧ f3 j = nb - 1) ∧ (nI (kc - t) < rq ∧ kc < 64) ∧ rv = 2 ∧ u.2.2.1 = un ∧ u.1 = bh + 1 ∧ u.2.1 = bc ∧ n = u.2.2.2.1 + 1 ∧ ck_gone u.2.2.2.1 (ck_R f1 f2 f3 f4 f5) (ck_R u.2.2.2.2.1 u.2.2.2.2.2.1 u.2.2.2.2.2.2.1 u.2.2.2.2.2.2.2.1 u.2.2.2.2.2.2.2.2.1) j ∧ u.2.2.2.2.2.2.2.2.2.1 = kc + 1 ∧ u.2.2.2.2.2.2.2.2.2.2.1 = vp_updL g1 kc (ck_clr aa bb) ∧ u.2.2.2.2.2.2.2.2.2.2.2.1 = upd g2 kc (f4 j)))) ∨ ((∀ i, i < kc → g1 i ≠ ck_clr aa bb) ∧ (∀ i, i < n → f1 i ≠ ck_clr aa bb) ∧ u.2.2.2.1 = n ∧ u.2.2.2.2.1 = f1 ∧ u.2.2.2.2.2.1 = f2 ∧ u.2.2.2.2.2.2.1 = f3 ∧ u.2.2.2.2.2.2.2.1 = f4 ∧ u.2.2.2.2.2.2.2.2.1 = f5 ∧ u.1 = bh ∧ ((¬ ck_lately gv ti ct ∧ rv = 8 ∧ u.2.2.1 = un + 1 ∧ u.2.1 = bc ∧ u.2.2.2.2.2.2.2.2.2.1 = kc ∧ u.2.2.2.2.2.2.2.2.2.2.1 = g1 ∧ u.2.2.2.2.2.2.2.2.2.2.2.1 = g2) ∨ (ck_lately gv ti ct ∧ ¬ ck_late k l0 (ck_clr aa bb) (na - 1) ((((nb - 1).toUInt32 >>> ((24 : Int32).toUInt32 &&& Int32.toUInt32 31)).toInt32) &&& 7) ti (nb - 1) ∧ rv = 7 ∧ u.2.2.1 = un + 1 ∧ u.2.1 = bc ∧ u.2.2.2.2.2.2.2.2.2.1 = kc ∧ u.2.2.2.2.2.2.2.2.2.2.1 = g1 ∧ u.2.2.2.2.2.2.2.2.2.2.2.1 = g2) ∨ (ck_lately gv ti ct ∧ ck_late k l0 (ck_clr aa bb) (na - 1) ((((nb - 1).toUInt32 >>> ((24 : Int32).toUInt32 &&& Int32.toUInt32 31)).toInt32) &&& 7) ti (nb - 1) ∧ ¬ (nI (kc - t) < rq ∧ kc < 64) ∧ rv = 6 ∧ u.2.2.1 = un ∧ u.2.1 = bc ∧ u.2.2.2.2.2.2.2.2.2.1 = kc ∧ u.2.2.2.2.2.2.2.2.2.2.1 = g1 ∧ u.2.2.2.2.2.2.2.2.2.2.2.1 = g2) ∨ (ck_lately gv ti ct ∧ ck_late k l0 (ck_clr aa bb) (na - 1) ((((nb - 1).toUInt32 >>> ((24 : Int32).toUInt32 &&& Int32.toUInt32 31)).toInt32) &&& 7) ti (nb - 1) ∧ (nI (kc - t) < rq ∧ kc < 64) ∧ rv = 5 ∧ u.2.2.1 = un ∧ u.2.1 = bc + 1 ∧ u.2.2.2.2.2.2.2.2.2.1 = kc + 1 ∧ u.2.2.2.2.2.2.2.2.2.2.1 = vp_updL g1 kc (ck_clr aa bb) ∧ u.2.2.2.2.2.2.2.2.2.2.2.1 = upd g2 kc ((((nb - 1).toUInt32 >>> ((24 : Int32).toUInt32 &&& Int32.toUInt32 31)).toInt32) &&& 7))))) ∧ u.2.2.2.2.2.2.2.2.2.2.2.2.2.2.2.2 0 = rv.toInt64) (fun u => ck_B (dC, dI) vwCl (va_A [(o, .inr (3, [.ref sp, .ref h, .ref cn, .int zs, .int rq, .int ti, .int ct, .int gv, .int bh, .int bc, .int un])), (sp, .inr (2, [.long k, .long l0, .long v0, .long v1, .long v2, .long v3])), (h, .inr (1, [.ref a1, .ref a2, .ref a3, .ref a4, .ref a5, .int (nI n)])), (a1, .inl (cJ, 32, .inr (.inl f1))), (a2, .inl (cI, 32, .inl f2)), (a3, .inl (cI, 32, .inl f3)), (a4, .inl (cI, 32, .inl f4)), (a5, .inl (cI, 32, .inl f5)), (cn, .inr (0, [.ref b1, .ref b2, .int (nI kc), .int (nI t)])), (b1, .inl (cJ, 64, .inr (.inl g1))), (b2, .inl (cI, 64, .inl g2)), (ou, .inl (cJ, 1, .inr (.inl ov)))] sz) ((fun u : Int32 × Int32 × Int32 × Nat × (Nat → Int64) × (Nat → Int32) × (Nat → Int32) × (Nat → Int32) × (Nat → Int32) × Nat × (Nat → Int64) × (Nat → Int32) × Int64 × Int64 × Int64 × Int64 × (Nat → Int64) => ([(o, .inr (3, [.ref sp, .ref h, .ref cn, .int zs, .int rq, .int ti, .int ct, .int gv, .int u.1, .int u.2.1, .int u.2.2.1])), (sp, .inr (2, [.long k, .long l0, .long u.2.2.2.2.2.2.2.2.2.2.2.2.1, .long u.2.2.2.2.2.2.2.2.2.2.2.2.2.1, .long u.2.2.2.2.2.2.2.2.2.2.2.2.2.2.1, .long u.2.2.2.2.2.2.2.2.2.2.2.2.2.2.2.1])), (h, .inr (1, [.ref a1, .ref a2, .ref a3, .ref a4, .ref a5, .int (nI u.2.2.2.1)])), (a1, .inl (cJ, 32, .inr (.inl u.2.2.2.2.1))), (a2, .inl (cI, 32, .inl u.2.2.2.2.2.1)), (a3, .inl (cI, 32, .inl u.2.2.2.2.2.2.1)), (a4, .inl (cI, 32, .inl u.2.2.2.2.2.2.2.1)), (a5, .inl (cI, 32, .inl u.2.2.2.2.2.2.2.2.1)), (cn, .inr (0, [.ref b1, .ref b2, .int (nI u.2.2.2.2.2.2.2.2.2.1), .int (nI t)])), (b1, .inl (cJ, 64, .inr (.inl u.2.2.2.2.2.2.2.2.2.2.1))), (b2, .inl (cI, 64, .inl u.2.2.2.2.2.2.2.2.2.2.2.1)), (ou, .inl (cJ, 1, .inr (.inl u.2.2.2.2.2.2.2.2.2.2.2.2.2.2.2.2)))] : va_W)) u)) (va_A [(o, .inr (3, [.ref sp, .ref h, .ref cn, .int zs, .int rq, .int ti, .int ct, .int gv, .int bh, .int bc, .int un])), (sp, .inr (2, [.long k, .long l0, .long v0, .long v1, .long v2, .long v3])), (h, .inr (1, [.ref a1, .ref a2, .ref a3, .ref a4, .ref a5, .int (nI n)])), (a1, .inl (cJ, 32, .inr (.inl f1))), (a2, .inl (cI, 32, .inl f2)), (a3, .inl (cI, 32, .inl f3)), (a4, .inl (cI, 32, .inl f4)), (a5, .inl (cI, 32, .inl f5)), (cn, .inr (0, [.ref b1, .ref b2, .int (nI kc), .int (nI t)])), (b1, .inl (cJ, 64, .inr (.inl g1))), (b2, .inl (cI, 64, .inl g2)), (ou, .inl (cJ, 1, .inr (.inl ov)))] sz)) 0 0 (va_A [(o, .inr (3, [.ref sp, .ref h, .ref cn, .int zs, .int rq, .int ti, .int ct, .int gv, .int bh, .int bc, .int un])), (sp, .inr (2, [.long k, .long l0, .long v0, .long v1, .long v2, .long v3])), (h, .inr (1, [.ref a1, .ref a2, .ref a3, .ref a4, .ref a5, .int (nI n)])), (a1, .inl (cJ, 32, .inr (.inl f1))), (a2, .inl (cI, 32, .inl f2)), (a3, .inl (cI, 32, .inl f3)), (a4, .inl (cI, 32, .inl f4)), (a5, .inl (cI, 32, .inl f5)), (cn, .inr (0, [.ref b1, .ref b2, .int (nI kc), .int (nI t)])), (b1, .inl (cJ, 64, .inr (.inl g1))), (b2, .inl (cI, 64, .inl g2)), (ou, .inl (cJ, 1, .inr (.inl ov)))] sz) := by
  refine va_MetW (cc := cL_ack) (maxL := 7) (ret := (some .int)) (hh := [(0, 14, 17, 13)]) (by decide) rfl ?_
  intro p e s m args below meth c s₁ B hml hv
  obtain ⟨rfl, hsz, hP, hK, hD0, hE⟩ := hv
  have hx := B.exec
  have hb := B.bytes
  have hr := B.returns
  have hts := atoms_spec (ws := wsL_ack) B.pre
  have hown : s.vm.findClass RL = some m.cls := findClass_of_methodNamed B.named
  have hlocks := B.notSynchronized
  subst hsz
  have hD := hD0.self (sz := s.heap.size)
  have hlo := ck_lo (sz := s.heap.size) hD0 hE.1
  generalize hAe : va_A [(o, .inr (3, [.ref sp, .ref h, .ref cn, .int zs, .int rq, .int ti, .int ct, .int gv, .int bh, .int bc, .int un])), (sp, .inr (2, [.long k, .long l0, .long v0, .long v1, .long v2, .long v3])), (h, .inr (1, [.ref a1, .ref a2, .ref a3, .ref a4, .ref a5, .int (nI n)])), (a1, .inl (cJ, 32, .inr (.inl f1))), (a2, .inl (cI, 32, .inl f2)), (a3, .inl (cI, 32, .inl f3)), (a4, .inl (cI, 32, .inl f4)), (a5, .inl (cI, 32, .inl f5)), (cn, .inr (0, [.ref b1, .ref b2, .int (nI kc), .int (nI t)])), (b1, .inl (cJ, 64, .inr (.inl g1))), (b2, .inl (cI, 64, .inl g2)), (ou, .inl (cJ, 1, .inr (.inl ov)))] s.heap.size = A at hD hlo ⊢
  have hA : ∀ q : Nat, s.heap.size ≤ q → A q := fun q h => by rw [← hAe]; exact Or.inr h
  have hG : ck_G (dC, dI) [(cI, .int), (cJ, .long), (cZ, .boolean)] lo A s := ⟨hK, hE, hA, hlo⟩
  have hS : va_S A s.heap s.heap [] := va_S.rf
  have hP : va_P (dC, dI) vwCl [(o, .inr (3, [.ref sp, .ref h, .ref cn, .int zs, .int rq, .int ti, .int ct, .int gv, .int bh, .int bc, .int un])), (sp, .inr (2, [.long k, .long l0, .long v0, .long v1, .long v2, .long v3])), (h, .inr (1, [.ref a1, .ref a2, .ref a3, .ref a4, .ref a5, .int (nI n)])), (a1, .inl (cJ, 32, .inr (.inl f1))), (a2, .inl (cI, 32, .inl f2)), (a3, .inl (cI, 32, .inl f3)), (a4, .inl (cI, 32, .inl f4)), (a5, .inl (cI, 32, .inl f5)), (cn, .inr (0, [.ref b1, .ref b2, .int (nI kc), .int (nI t)])), (b1, .inl (cJ, 64, .inr (.inl g1))), (b2, .inl (cI, 64, .inl g2)), (ou, .inl (cJ, 1, .inr (.inl ov)))] s.heap := hP
  have hl := lv_entry ([.ref o, .int aa, .int bb, .int na, .int nb, .ref ou]) (n := 7) (Nat.le_of_ble_eq_true rfl)
  rw [lg_entry_eq]
  generalize (lg_sl ([.ref o, .int aa, .int bb, .int na, .int nb, .ref ou]) ++ List.replicate (7 - (lg_sl ([.ref o, .int aa, .int bb, .int na, .int nb, .ref ou])).length) Slot.unset).toArray = ls at hl ⊢
  have hl : lv_has ls 7 [(0, .ref o), (1, .int aa), (2, .int bb), (3, .int na), (4, .int nb), (5, .ref ou)] := hl
  refine lv_aload hx hb dL_ack_0 (lv_at hl 5 rfl) ?_
  refine lv_iconst (v := nI 0) hx hb dL_ack_2 (by decide) ?_
  refine lv_aload_n hx hb dL_ack_3 rfl (lv_at hl 0 rfl) ?_
  refine lv_iload_n hx hb dL_ack_4 rfl (lv_at hl 1 rfl) ?_
  refine lv_iload_n hx hb dL_ack_5 rfl (lv_at hl 2 rfl) ?_
  refine lv_iload_n hx hb dL_ack_6 rfl (lv_at hl 3 rfl) ?_
  refine lv_iload hx hb dL_ack_7 (lv_at hl 4 rfl) ?_
  refine ck_ci (wr := [(ou, .inl (cJ, 1, .inr (.inl ov)))]) (va_runV (As := [.int aa, .int bb, .int na, .int nb]) (rest := [.int (nI 0), .ref ou]) ⟨hx, hb, hml, hown, hts⟩ (c_X3_ack l dC dI cI cJ cZ lo _ o sp h cn zs rq ti ct gv bh bc un k l0 v0 v1 v2 v3 a1 a2 a3 a4 a5 n f1 f2 f3 f4 f5 b1 b2 kc t g1 g2 aa bb na nb (by first | assumption | omega) (by first | assumption | omega) (by first | assumption | omega) (by first | assumption | omega) (by first | assumption | omega)) (cwV 4 hts gL_ack_X3_ack rfl rfl rfl (by decide +kernel) ⟨(Nat.le_of_ble_eq_true rfl), (Nat.le_of_ble_eq_true rfl)⟩) ⟨ck_blind, va_recv hK hP (ci := 3) (q0 := 0) rfl rfl, (ck_pre hG hP hD hS [0, 1, 2, 3, 4, 5, 6, 7, 8, 9, 10] rfl (by decide) _)⟩ rfl rfl hl.1 rfl (lv_room (Nat.le_of_ble_eq_true rfl)) dL_ack_9 ⟨(Nat.le_of_ble_eq_true rfl), (Nat.le_of_ble_eq_true rfl)⟩) hP hD hS hA [0, 1, 2, 3, 4, 5, 6, 7, 8, 9, 10] [11] rfl rfl (by decide) (by decide) (fun r_1 u H locs hw_1 hP hD hS => ?_)
  obtain ⟨bh2_1, bc2_1, un2_1, n2_1, w1_1, w2_1, w3_1, w4_1, w5_1, k2_1, q1_1, q2_1, u0_1, u1_1, u2_1, u3_1⟩ := u
  have hw_1 : ((∃ j, j < kc ∧ g1 j = ck_clr aa bb) ∧ r_1 = 1 ∧ un2_1 = un ∧ bh2_1 = bh ∧ bc2_1 = bc ∧ n2_1 = n ∧ w1_1 = f1 ∧ w2_1 = f2 ∧ w3_1 = f3 ∧ w4_1 = f4 ∧ w5_1 = f5 ∧ k2_1 = kc ∧ q1_1 = g1 ∧ q2_1 = g2) ∨ ((∀ i, i < kc → g1 i ≠ ck_clr aa bb) ∧ ∃ j, j < n ∧ f1 j = ck_clr aa bb ∧ ((¬ (f2 j = na - 1 ∧ f3 j = nb - 1) ∧ r_1 = 4 ∧ un2_1 = un ∧ bh2_1 = bh ∧ bc2_1 = bc ∧ n2_1 = n ∧ w1_1 = f1 ∧ w2_1 = f2 ∧ w3_1 = f3 ∧ w4_1 = f4 ∧ w5_1 = f5 ∧ k2_1 = kc ∧ q1_1 = g1 ∧ q2_1 = g2) ∨ ((f2 j = na - 1 ∧ f3 j = nb - 1) ∧ ¬ (nI (kc - t) < rq ∧ kc < 64) ∧ r_1 = 3 ∧ un2_1 = un ∧ bh2_1 = bh ∧ bc2_1 = bc ∧ n2_1 = n ∧ w1_1 = f1 ∧ w2_1 = f2 ∧ w3_1 = f3 ∧ w4_1 = f4 ∧ w5_1 = f5 ∧ k2_1 = kc ∧ q1_1 = g1 ∧ q2_1 = g2) ∨ ((f2 j = na - 1 ∧ f3 j = nb - 1) ∧ (nI (kc - t) < rq ∧ kc < 64) ∧ r_1 = 2 ∧ un2_1 = un ∧ bh2_1 = bh + 1 ∧ bc2_1 = bc ∧ n = n2_1 + 1 ∧ ck_gone n2_1 (ck_R f1 f2 f3 f4 f5) (ck_R w1_1 w2_1 w3_1 w4_1 w5_1) j ∧ k2_1 = kc + 1 ∧ q1_1 = vp_updL g1 kc (ck_clr aa bb) ∧ q2_1 = upd g2 kc (f4 j)))) ∨ ((∀ i, i < kc → g1 i ≠ ck_clr aa bb) ∧ (∀ i, i < n → f1 i ≠ ck_clr aa bb) ∧ n2_1 = n ∧ w1_1 = f1 ∧ w2_1 = f2 ∧ w3_1 = f3 ∧ w4_1 = f4 ∧ w5_1 = f5 ∧ bh2_1 = bh ∧ ((¬ ck_lately gv ti ct ∧ r_1 = 8 ∧ un2_1 = un + 1 ∧ bc2_1 = bc ∧ k2_1 = kc ∧ q1_1 = g1 ∧ q2_1 = g2) ∨ (ck_lately gv ti ct ∧ ¬ ck_late k l0 (ck_clr aa bb) (na - 1) ((((nb - 1).toUInt32 >>> ((24 : Int32).toUInt32 &&& Int32.toUInt32 31)).toInt32) &&& 7) ti (nb - 1) ∧ r_1 = 7 ∧ un2_1 = un + 1 ∧ bc2_1 = bc ∧ k2_1 = kc ∧ q1_1 = g1 ∧ q2_1 = g2) ∨ (ck_lately gv ti ct ∧ ck_late k l0 (ck_clr aa bb) (na - 1) ((((nb - 1).toUInt32 >>> ((24 : Int32).toUInt32 &&& Int32.toUInt32 31)).toInt32) &&& 7) ti (nb - 1) ∧ ¬ (nI (kc - t) < rq ∧ kc < 64) ∧ r_1 = 6 ∧ un2_1 = un ∧ bc2_1 = bc ∧ k2_1 = kc ∧ q1_1 = g1 ∧ q2_1 = g2) ∨ (ck_lately gv ti ct ∧ ck_late k l0 (ck_clr aa bb) (na - 1) ((((nb - 1).toUInt32 >>> ((24 : Int32).toUInt32 &&& Int32.toUInt32 31)).toInt32) &&& 7) ti (nb - 1) ∧ (nI (kc - t) < rq ∧ kc < 64) ∧ r_1 = 5 ∧ un2_1 = un ∧ bc2_1 = bc + 1 ∧ k2_1 = kc + 1 ∧ q1_1 = vp_updL g1 kc (ck_clr aa bb) ∧ q2_1 = upd g2 kc ((((nb - 1).toUInt32 >>> ((24 : Int32).toUInt32 &&& Int32.toUInt32 31)).toInt32) &&& 7)))) := hw_1
  have hP : va_P (dC, dI) vwCl [(ou, .inl (cJ, 1, .inr (.inl ov))), (o, .inr (3, [.ref sp, .ref h, .ref cn, .int zs, .int rq, .int ti, .int ct, .int gv, .int bh2_1, .int bc2_1, .int un2_1])), (sp, .inr (2, [.long k, .long l0, .long u0_1, .long u1_1, .long u2_1, .long u3_1])), (h, .inr (1, [.ref a1, .ref a2, .ref a3, .ref a4, .ref a5, .int (nI n2_1)])), (a1, .inl (cJ, 32, .inr (.inl w1_1))), (a2, .inl (cI, 32, .inl w2_1)), (a3, .inl (cI, 32, .inl w3_1)), (a4, .inl (cI, 32, .inl w4_1)), (a5, .inl (cI, 32, .inl w5_1)), (cn, .inr (0, [.ref b1, .ref b2, .int (nI k2_1), .int (nI t)])), (b1, .inl (cJ, 64, .inr (.inl q1_1))), (b2, .inl (cI, 64, .inl q2_1))] H := hP
  have hD : va_D A [(ou, .inl (cJ, 1, .inr (.inl ov))), (o, .inr (3, [.ref sp, .ref h, .ref cn, .int zs, .int rq, .int ti, .int ct, .int gv, .int bh2_1, .int bc2_1, .int un2_1])), (sp, .inr (2, [.long k, .long l0, .long u0_1, .long u1_1, .long u2_1, .long u3_1])), (h, .inr (1, [.ref a1, .ref a2, .ref a3, .ref a4, .ref a5, .int (nI n2_1)])), (a1, .inl (cJ, 32, .inr (.inl w1_1))), (a2, .inl (cI, 32, .inl w2_1)), (a3, .inl (cI, 32, .inl w3_1)), (a4, .inl (cI, 32, .inl w4_1)), (a5, .inl (cI, 32, .inl w5_1)), (cn, .inr (0, [.ref b1, .ref b2, .int (nI k2_1), .int (nI t)])), (b1, .inl (cJ, 64, .inr (.inl q1_1))), (b2, .inl (cI, 64, .inl q2_1))] := hD
  refine lv_i2l hx hb dL_ack_12 rfl ?_
  refine ck_last hx hb hK hP hD hS 0 1 rfl rfl (by omega) (by decide) dL_ack_13 (fun H locs hP hD hS => ?_)
  have hP : va_P (dC, dI) vwCl [(ou, .inl (cJ, 1, .inr (.inl (vp_updL ov 0 r_1.toInt64)))), (o, .inr (3, [.ref sp, .ref h, .ref cn, .int zs, .int rq, .int ti, .int ct, .int gv, .int bh2_1, .int bc2_1, .int un2_1])), (sp, .inr (2, [.long k, .long l0, .long u0_1, .long u1_1, .long u2_1, .long u3_1])), (h, .inr (1, [.ref a1, .ref a2, .ref a3, .ref a4, .ref a5, .int (nI n2_1)])), (a1, .inl (cJ, 32, .inr (.inl w1_1))), (a2, .inl (cI, 32, .inl w2_1)), (a3, .inl (cI, 32, .inl w3_1)), (a4, .inl (cI, 32, .inl w4_1)), (a5, .inl (cI, 32, .inl w5_1)), (cn, .inr (0, [.ref b1, .ref b2, .int (nI k2_1), .int (nI t)])), (b1, .inl (cJ, 64, .inr (.inl q1_1))), (b2, .inl (cI, 64, .inl q2_1))] H := hP
  have hD : va_D A [(ou, .inl (cJ, 1, .inr (.inl (vp_updL ov 0 r_1.toInt64)))), (o, .inr (3, [.ref sp, .ref h, .ref cn, .int zs, .int rq, .int ti, .int ct, .int gv, .int bh2_1, .int bc2_1, .int un2_1])), (sp, .inr (2, [.long k, .long l0, .long u0_1, .long u1_1, .long u2_1, .long u3_1])), (h, .inr (1, [.ref a1, .ref a2, .ref a3, .ref a4, .ref a5, .int (nI n2_1)])), (a1, .inl (cJ, 32, .inr (.inl w1_1))), (a2, .inl (cI, 32, .inl w2_1)), (a3, .inl (cI, 32, .inl w3_1)), (a4, .inl (cI, 32, .inl w4_1)), (a5, .inl (cI, 32, .inl w5_1)), (cn, .inr (0, [.ref b1, .ref b2, .int (nI k2_1), .int (nI t)])), (b1, .inl (cJ, 64, .inr (.inl q1_1))), (b2, .inl (cI, 64, .inl q2_1))] := hD
  refine lv_goto (tgt := 21) hx hb dL_ack_14 (by decide) ?_
  refine lv_iconst (v := 0) hx hb dL_ack_21 (by decide) ?_
  refine ck_ir hx hb hr hlocks (Nat.le_of_ble_eq_true rfl) (Nat.le_of_ble_eq_true rfl) dL_ack_22 (bh2_1, bc2_1, un2_1, n2_1, w1_1, w2_1, w3_1, w4_1, w5_1, k2_1, q1_1, q2_1, u0_1, u1_1, u2_1, u3_1, vp_updL ov 0 r_1.toInt64) (hP.sub [1, 2, 3, 4, 5, 6, 7, 8, 9, 10, 11, 0] rfl) (hD.sub [1, 2, 3, 4, 5, 6, 7, 8, 9, 10, 11, 0] (by decide) rfl) hS ?_
  exact ⟨rfl, _, hw_1, rfl⟩
set_option maxRecDepth 20000 in
theorem k_L_ack_kIAE : (.classLink RL 13 ck_IAE : Cond) ∈ wsL_ack := by decide +kernel
set_option maxHeartbeats 4000000 in
set_option maxRecDepth 100000 in
theorem b_L_ack (l : Launch) (dC : Nat → ClassId) (dI : Nat → Nat → Nat) (cI cJ cZ : ClassId) (lo sz : Nat) (o sp h cn : Nat) (zs rq ti ct gv bh bc un : Int32) (aa bb na nb : Int32) (ou : Nat) (hst : l.stackTraces = false) (hbad : ¬ (0 ≤ bb ∧ bb ≤ 65535)) : Met l yL_ack wsL_ack ({ frames := 8, cells := 1, slots := 6, locals := 148 } : Room) (va_Pc [.ref o, .int aa, .int bb, .int na, .int nb, .ref ou] (ck_P (dC, dI) [(cI, .int), (cJ, .long), (cZ, .boolean)] lo sz [(o, .inr (3, [.ref sp, .ref h, .ref cn, .int zs, .int rq, .int ti, .int ct, .int gv, .int bh, .int bc, .int un]))])) (va_Qi (fun (r : Int32) (u : Unit) => r = 1) (fun u => ck_B (dC, dI) vwCl (va_A [(o, .inr (3, [.ref sp, .ref h, .ref cn, .int zs, .int rq, .int ti, .int ct, .int gv, .int bh, .int bc, .int un]))] sz) ((fun u : Unit => ([(o, .inr (3, [.ref sp, .ref h, .ref cn, .int zs, .int rq, .int ti, .int ct, .int gv, .int bh, .int bc, .int un]))] : va_W)) u)) (va_A [(o, .inr (3, [.ref sp, .ref h, .ref cn, .int zs, .int rq, .int ti, .int ct, .int gv, .int bh, .int bc, .int un]))] sz)) 1 6 (va_A [(o, .inr (3, [.ref sp, .ref h, .ref cn, .int zs, .int rq, .int ti, .int ct, .int gv, .int bh, .int bc, .int un]))] sz) := by
  refine va_MetW (cc := cL_ack) (maxL := 7) (ret := (some .int)) (hh := [(0, 14, 17, 13)]) (by decide) rfl ?_
  intro p e s m args below meth c s₁ B hml hv
  obtain ⟨rfl, hsz, hP, hK, hD0, hE⟩ := hv
  have hx := B.exec
  have hb := B.bytes
  have hr := B.returns
  have hts := atoms_spec (ws := wsL_ack) B.pre
  have hown : s.vm.findClass RL = some m.cls := findClass_of_methodNamed B.named
  have hlocks := B.notSynchronized
  subst hsz
  have hD := hD0.self (sz := s.heap.size)
  have hlo := ck_lo (sz := s.heap.size) hD0 hE.1
  generalize hAe : va_A [(o, .inr (3, [.ref sp, .ref h, .ref cn, .int zs, .int rq, .int ti, .int ct, .int gv, .int bh, .int bc, .int un]))] s.heap.size = A at hD hlo ⊢
  have hA : ∀ q : Nat, s.heap.size ≤ q → A q := fun q h => by rw [← hAe]; exact Or.inr h
  have hG : ck_G (dC, dI) [(cI, .int), (cJ, .long), (cZ, .boolean)] lo A s := ⟨hK, hE, hA, hlo⟩
  have hS : va_S A s.heap s.heap [] := va_S.rf
  have hP : va_P (dC, dI) vwCl [(o, .inr (3, [.ref sp, .ref h, .ref cn, .int zs, .int rq, .int ti, .int ct, .int gv, .int bh, .int bc, .int un]))] s.heap := hP
  have hl := lv_entry ([.ref o, .int aa, .int bb, .int na, .int nb, .ref ou]) (n := 7) (Nat.le_of_ble_eq_true rfl)
  rw [lg_entry_eq]
  generalize (lg_sl ([.ref o, .int aa, .int bb, .int na, .int nb, .ref ou]) ++ List.replicate (7 - (lg_sl ([.ref o, .int aa, .int bb, .int na, .int nb, .ref ou])).length) Slot.unset).toArray = ls at hl ⊢
  have hl : lv_has ls 7 [(0, .ref o), (1, .int aa), (2, .int bb), (3, .int na), (4, .int nb), (5, .ref ou)] := hl
  have htab := vx_table (x := objectInit) B (hts _ List.mem_cons_self)
  refine lv_aload hx hb dL_ack_0 (lv_at hl 5 rfl) ?_
  refine lv_iconst (v := 0) hx hb dL_ack_2 (by decide) ?_
  refine lv_aload_n hx hb dL_ack_3 rfl (lv_at hl 0 rfl) ?_
  refine lv_iload_n hx hb dL_ack_4 rfl (lv_at hl 1 rfl) ?_
  refine lv_iload_n hx hb dL_ack_5 rfl (lv_at hl 2 rfl) ?_
  refine lv_iload_n hx hb dL_ack_6 rfl (lv_at hl 3 rfl) ?_
  refine lv_iload hx hb dL_ack_7 (lv_at hl 4 rfl) ?_
  refine ck_thr (vx_runV (As := [.int aa, .int bb, .int na, .int nb]) (rest := [.int 0, .ref ou]) ⟨hx, hb, hml, hown, hts⟩ (t_X3_ack l dC dI cI cJ cZ lo _ o sp h cn zs rq ti ct gv bh bc un aa bb na nb hst hbad) (cwV 4 hts gL_ack_X3_ack rfl rfl rfl (by decide +kernel) ⟨(Nat.le_of_ble_eq_true rfl), (Nat.le_of_ble_eq_true rfl)⟩) ⟨ck_blind, va_recv hK hP (ci := 3) (q0 := 0) rfl rfl, (ck_pre hG hP hD hS [0] rfl (by decide) _)⟩ rfl rfl hl.1 rfl (lv_room (Nat.le_of_ble_eq_true rfl)) dL_ack_9 ⟨(Nat.le_of_ble_eq_true rfl), (Nat.le_of_ble_eq_true rfl)⟩) (fun ce q9 H1 hz hk hce hcv hcl => ?_)
  have hP := ck_keptP hP hk
  have hS := ck_keptS hS hz hk
  refine ck_catch (own := RL) (name := ck_IAE) (E := ck_IAE) hown ⟨0, 14, 17, 13⟩ htab (by decide) (by decide) (hts _ k_L_ack_kIAE) (hE.2.2.1.1.use rfl) hce hcv hcl ?_
  refine W.widen (k := 1) (n := 6) (by decide) (by decide) ?_
  refine lv_astore (lv' := [(6, .ref q9), (0, .ref o), (1, .int aa), (2, .int bb), (3, .int na), (4, .int nb), (5, .ref ou)]) hx hb dL_ack_17 hl (by decide) rfl (fun ls hl => ?_)
  refine lv_iconst (v := 1) hx hb dL_ack_19 (by decide) ?_
  subst_vars
  refine ck_ir hx hb hr hlocks (Nat.le_of_ble_eq_true rfl) (Nat.le_of_ble_eq_true rfl) dL_ack_20 () hP hD hS ?_
  exact rfl
set_option maxHeartbeats 4000000 in
set_option maxRecDepth 100000 in
theorem c_L_close (l : Launch) (dC : Nat → ClassId) (dI : Nat → Nat → Nat) (cI cJ cZ : ClassId) (lo sz : Nat) (o sp h cn : Nat) (zs rq ti ct gv bh bc un : Int32) (a1 a2 a3 a4 a5 : Nat) (n : Nat) (f1 : Nat → Int64) (f2 f3 f4 f5 : Nat → Int32) (b1 b2 : Nat) (kc t : Nat) (g1 : Nat → Int64) (g2 : Nat → Int32) (aa bb : Int32) (ou : Nat) (ov : Nat → Int64) (hb1 : 0 ≤ bb) (hb2 : bb ≤ 65535) (hn : n ≤ 32) (hk : kc ≤ 64) (ht : t ≤ kc) : Met l yL_close wsL_close ({ frames := 3, cells := 0, slots := 0, locals := 71 } : Room) (va_Pc [.ref o, .int aa, .int bb, .ref ou] (ck_P (dC, dI) [(cI, .int), (cJ, .long), (cZ, .boolean)] lo sz [(o, .inr (3, [.ref sp, .ref h, .ref cn, .int zs, .int rq, .int ti, .int ct, .int gv, .int bh, .int bc, .int un])), (h, .inr (1, [.ref a1, .ref a2, .ref a3, .ref a4, .ref a5, .int (nI n)])), (a1, .inl (cJ, 32, .inr (.inl f1))), (a2, .inl (cI, 32, .inl f2)), (a3, .inl (cI, 32, .inl f3)), (a4, .inl (cI, 32, .inl f4)), (a5, .inl (cI, 32, .inl f5)), (cn, .inr (0, [.ref b1, .ref b2, .int (nI kc), .int (nI t)])), (b1, .inl (cJ, 64, .inr (.inl g1))), (b2, .inl (cI, 64, .inl g2)), (ou, .inl (cJ, 1, .inr (.inl ov)))])) (va_Qi (fun (r : Int32) (u : Nat × (Nat → Int64) × (Nat → Int32) × (Nat → Int32) × (Nat → Int32) × (Nat → Int32) × Nat × Nat × (Nat → Int64) × (Nat → Int32) × (Nat → Int64)) => r = 0 ∧ ∃ rv : Int32, (ck_stt n f1 kc t g1 (ck_clr aa bb) rv ∧ ((rv = 0 ∧ u.1 = n ∧ u.2.1 = f1 ∧ u.2.2.1 = f2 ∧ u.2.2.2.1 = f3 ∧ u.2.2.2.2.1 = f4 ∧ u.2.2.2.2.2.1 = f5 ∧ u.2.2.2.2.2.2.1 = kc ∧ u.2.2.2.2.2.2.2.2.1 = g1 ∧ u.2.2.2.2.2.2.2.2.2.1 = g2 ∧ u.2.2.2.2.2.2.2.1 = t) ∨ (rv = 1 ∧ (∃ j, j < n ∧ f1 j = ck_clr aa bb ∧ n = u.1 + 1 ∧ ck_gone u.1 (ck_R f1 f2 f3 f4 f5) (ck_R u.2.1 u.2.2.1 u.2.2.2.1 u.2.2.2.2.1 u.2.2.2.2.2.1) j) ∧ u.2.2.2.2.2.2.1 = kc ∧ u.2.2.2.2.2.2.2.2.1 = g1 ∧ u.2.2.2.2.2.2.2.2.2.1 = g2 ∧ u.2.2.2.2.2.2.2.1 = t) ∨ ((rv = 2 ∨ rv = 3) ∧ u.1 = n ∧ u.2.1 = f1 ∧ u.2.2.1 = f2 ∧ u.2.2.2.1 = f3 ∧ u.2.2.2.2.1 = f4 ∧ u.2.2.2.2.2.1 = f5 ∧ ∃ j, j < kc ∧ g1 j = ck_clr aa bb ∧ kc = u.2.2.2.2.2.2.1 + 1 ∧ u.2.2.2.2.2.2.2.1 = (if j < t then t - 1 else t) ∧ ck_shf g1 u.2.2.2.2.2.2.2.2.1 j u.2.2.2.2.2.2.1 ∧ ck_shf g2 u.2.2.2.2.2.2.2.2.2.1 j u.2.2.2.2.2.2.1))) ∧ u.2.2.2.2.2.2.2.2.2.2 0 = rv.toInt64) (fun u => ck_B (dC, dI) vwCl (va_A [(o, .inr (3, [.ref sp, .ref h, .ref cn, .int zs, .int rq, .int ti, .int ct, .int gv, .int bh, .int bc, .int un])), (h, .inr (1, [.ref a1, .ref a2, .ref a3, .ref a4, .ref a5, .int (nI n)])), (a1, .inl (cJ, 32, .inr (.inl f1))), (a2, .inl (cI, 32, .inl f2)), (a3, .inl (cI, 32, .inl f3)), (a4, .inl (cI, 32, .inl f4)), (a5, .inl (cI, 32, .inl f5)), (cn, .inr (0, [.ref b1, .ref b2, .int (nI kc), .int (nI t)])), (b1, .inl (cJ, 64, .inr (.inl g1))), (b2, .inl (cI, 64, .inl g2)), (ou, .inl (cJ, 1, .inr (.inl ov)))] sz) ((fun u : Nat × (Nat → Int64) × (Nat → Int32) × (Nat → Int32) × (Nat → Int32) × (Nat → Int32) × Nat × Nat × (Nat → Int64) × (Nat → Int32) × (Nat → Int64) => ([(o, .inr (3, [.ref sp, .ref h, .ref cn, .int zs, .int rq, .int ti, .int ct, .int gv, .int bh, .int bc, .int un])), (h, .inr (1, [.ref a1, .ref a2, .ref a3, .ref a4, .ref a5, .int (nI u.1)])), (a1, .inl (cJ, 32, .inr (.inl u.2.1))), (a2, .inl (cI, 32, .inl u.2.2.1)), (a3, .inl (cI, 32, .inl u.2.2.2.1)), (a4, .inl (cI, 32, .inl u.2.2.2.2.1)), (a5, .inl (cI, 32, .inl u.2.2.2.2.2.1)), (cn, .inr (0, [.ref b1, .ref b2, .int (nI u.2.2.2.2.2.2.1), .int (nI u.2.2.2.2.2.2.2.1)])), (b1, .inl (cJ, 64, .inr (.inl u.2.2.2.2.2.2.2.2.1))), (b2, .inl (cI, 64, .inl u.2.2.2.2.2.2.2.2.2.1)), (ou, .inl (cJ, 1, .inr (.inl u.2.2.2.2.2.2.2.2.2.2)))] : va_W)) u)) (va_A [(o, .inr (3, [.ref sp, .ref h, .ref cn, .int zs, .int rq, .int ti, .int ct, .int gv, .int bh, .int bc, .int un])), (h, .inr (1, [.ref a1, .ref a2, .ref a3, .ref a4, .ref a5, .int (nI n)])), (a1, .inl (cJ, 32, .inr (.inl f1))), (a2, .inl (cI, 32, .inl f2)), (a3, .inl (cI, 32, .inl f3)), (a4, .inl (cI, 32, .inl f4)), (a5, .inl (cI, 32, .inl f5)), (cn, .inr (0, [.ref b1, .ref b2, .int (nI kc), .int (nI t)])), (b1, .inl (cJ, 64, .inr (.inl g1))), (b2, .inl (cI, 64, .inl g2)), (ou, .inl (cJ, 1, .inr (.inl ov)))] sz)) 0 0 (va_A [(o, .inr (3, [.ref sp, .ref h, .ref cn, .int zs, .int rq, .int ti, .int ct, .int gv, .int bh, .int bc, .int un])), (h, .inr (1, [.ref a1, .ref a2, .ref a3, .ref a4, .ref a5, .int (nI n)])), (a1, .inl (cJ, 32, .inr (.inl f1))), (a2, .inl (cI, 32, .inl f2)), (a3, .inl (cI, 32, .inl f3)), (a4, .inl (cI, 32, .inl f4)), (a5, .inl (cI, 32, .inl f5)), (cn, .inr (0, [.ref b1, .ref b2, .int (nI kc), .int (nI t)])), (b1, .inl (cJ, 64, .inr (.inl g1))), (b2, .inl (cI, 64, .inl g2)), (ou, .inl (cJ, 1, .inr (.inl ov)))] sz) := by
  refine va_MetW (cc := cL_close) (maxL := 5) (ret := (some .int)) (hh := [(0, 10, 13, 13)]) (by decide) rfl ?_
  intro p e s m args below meth c s₁ B hml hv
  obtain ⟨rfl, hsz, hP, hK, hD0, hE⟩ := hv
  have hx := B.exec
  have hb := B.bytes
  have hr := B.returns
  have hts := atoms_spec (ws := wsL_close) B.pre
  have hown : s.vm.findClass RL = some m.cls := findClass_of_methodNamed B.named
  have hlocks := B.notSynchronized
  subst hsz
  have hD := hD0.self (sz := s.heap.size)
  have hlo := ck_lo (sz := s.heap.size) hD0 hE.1
  generalize hAe : va_A [(o, .inr (3, [.ref sp, .ref h, .ref cn, .int zs, .int rq, .int ti, .int ct, .int gv, .int bh, .int bc, .int un])), (h, .inr (1, [.ref a1, .ref a2, .ref a3, .ref a4, .ref a5, .int (nI n)])), (a1, .inl (cJ, 32, .inr (.inl f1))), (a2, .inl (cI, 32, .inl f2)), (a3, .inl (cI, 32, .inl f3)), (a4, .inl (cI, 32, .inl f4)), (a5, .inl (cI, 32, .inl f5)), (cn, .inr (0, [.ref b1, .ref b2, .int (nI kc), .int (nI t)])), (b1, .inl (cJ, 64, .inr (.inl g1))), (b2, .inl (cI, 64, .inl g2)), (ou, .inl (cJ, 1, .inr (.inl ov)))] s.heap.size = A at hD hlo ⊢
  have hA : ∀ q : Nat, s.heap.size ≤ q → A q := fun q h => by rw [← hAe]; exact Or.inr h
  have hG : ck_G (dC, dI) [(cI, .int), (cJ, .long), (cZ, .boolean)] lo A s := ⟨hK, hE, hA, hlo⟩
  have hS : va_S A s.heap s.heap [] := va_S.rf
  have hP : va_P (dC, dI) vwCl [(o, .inr (3, [.ref sp, .ref h, .ref cn, .int zs, .int rq, .int ti, .int ct, .int gv, .int bh, .int bc, .int un])), (h, .inr (1, [.ref a1, .ref a2, .ref a3, .ref a4, .ref a5, .int (nI n)])), (a1, .inl (cJ, 32, .inr (.inl f1))), (a2, .inl (cI, 32, .inl f2)), (a3, .inl (cI, 32, .inl f3)), (a4, .inl (cI, 32, .inl f4)), (a5, .inl (cI, 32, .inl f5)), (cn, .inr (0, [.ref b1, .ref b2, .int (nI kc), .int (nI t)])), (b1, .inl (cJ, 64, .inr (.inl g1))), (b2, .inl (cI, 64, .inl g2)), (ou, .inl (cJ, 1, .inr (.inl ov)))] s.heap := hP
  have hl := lv_entry ([.ref o, .int aa, .int bb, .ref ou]) (n := 5) (Nat.le_of_ble_eq_true rfl)
  rw [lg_entry_eq]
  generalize (lg_sl ([.ref o, .int aa, .int bb, .ref ou]) ++ List.replicate (5 - (lg_sl ([.ref o, .int aa, .int bb, .ref ou])).length) Slot.unset).toArray = ls at hl ⊢
  have hl : lv_has ls 5 [(0, .ref o), (1, .int aa), (2, .int bb), (3, .ref ou)] := hl
  refine lv_aload_n hx hb dL_close_0 rfl (lv_at hl 3 rfl) ?_
  refine lv_iconst (v := nI 0) hx hb dL_close_1 (by decide) ?_
  refine lv_aload_n hx hb dL_close_2 rfl (lv_at hl 0 rfl) ?_
  refine lv_iload_n hx hb dL_close_3 rfl (lv_at hl 1 rfl) ?_
  refine lv_iload_n hx hb dL_close_4 rfl (lv_at hl 2 rfl) ?_
  refine ck_ci (wr := [(ou, .inl (cJ, 1, .inr (.inl ov)))]) (va_runV (As := [.int aa, .int bb]) (rest := [.int (nI 0), .ref ou]) ⟨hx, hb, hml, hown, hts⟩ (c_X3_close l dC dI cI cJ cZ lo _ o sp h cn zs rq ti ct gv bh bc un a1 a2 a3 a4 a5 n f1 f2 f3 f4 f5 b1 b2 kc t g1 g2 aa bb (by first | assumption | omega) (by first | assumption | omega) (by first | assumption | omega) (by first | assumption | omega) (by first | assumption | omega)) (cwV 2 hts gL_close_X3_close rfl rfl rfl (by decide +kernel) ⟨(Nat.le_of_ble_eq_true rfl), (Nat.le_of_ble_eq_true rfl)⟩) ⟨ck_blind, va_recv hK hP (ci := 3) (q0 := 0) rfl rfl, (ck_pre hG hP hD hS [0, 1, 2, 3, 4, 5, 6, 7, 8, 9] rfl (by decide) _)⟩ rfl rfl hl.1 rfl (lv_room (Nat.le_of_ble_eq_true rfl)) dL_close_5 ⟨(Nat.le_of_ble_eq_true rfl), (Nat.le_of_ble_eq_true rfl)⟩) hP hD hS hA [0, 1, 2, 3, 4, 5, 6, 7, 8, 9] [10] rfl rfl (by decide) (by decide) (fun r_1 u H locs hw_1 hP hD hS => ?_)
  obtain ⟨n2_1, w1_1, w2_1, w3_1, w4_1, w5_1, k2_1, t2_1, q1_1, q2_1⟩ := u
  have hw_1 : ck_stt n f1 kc t g1 (ck_clr aa bb) r_1 ∧ ((r_1 = 0 ∧ n2_1 = n ∧ w1_1 = f1 ∧ w2_1 = f2 ∧ w3_1 = f3 ∧ w4_1 = f4 ∧ w5_1 = f5 ∧ k2_1 = kc ∧ q1_1 = g1 ∧ q2_1 = g2 ∧ t2_1 = t) ∨ (r_1 = 1 ∧ (∃ j, j < n ∧ f1 j = ck_clr aa bb ∧ n = n2_1 + 1 ∧ ck_gone n2_1 (ck_R f1 f2 f3 f4 f5) (ck_R w1_1 w2_1 w3_1 w4_1 w5_1) j) ∧ k2_1 = kc ∧ q1_1 = g1 ∧ q2_1 = g2 ∧ t2_1 = t) ∨ ((r_1 = 2 ∨ r_1 = 3) ∧ n2_1 = n ∧ w1_1 = f1 ∧ w2_1 = f2 ∧ w3_1 = f3 ∧ w4_1 = f4 ∧ w5_1 = f5 ∧ ∃ j, j < kc ∧ g1 j = ck_clr aa bb ∧ kc = k2_1 + 1 ∧ t2_1 = (if j < t then t - 1 else t) ∧ ck_shf g1 q1_1 j k2_1 ∧ ck_shf g2 q2_1 j k2_1)) := hw_1
  have hP : va_P (dC, dI) vwCl [(ou, .inl (cJ, 1, .inr (.inl ov))), (o, .inr (3, [.ref sp, .ref h, .ref cn, .int zs, .int rq, .int ti, .int ct, .int gv, .int bh, .int bc, .int un])), (h, .inr (1, [.ref a1, .ref a2, .ref a3, .ref a4, .ref a5, .int (nI n2_1)])), (a1, .inl (cJ, 32, .inr (.inl w1_1))), (a2, .inl (cI, 32, .inl w2_1)), (a3, .inl (cI, 32, .inl w3_1)), (a4, .inl (cI, 32, .inl w4_1)), (a5, .inl (cI, 32, .inl w5_1)), (cn, .inr (0, [.ref b1, .ref b2, .int (nI k2_1), .int (nI t2_1)])), (b1, .inl (cJ, 64, .inr (.inl q1_1))), (b2, .inl (cI, 64, .inl q2_1))] H := hP
  have hD : va_D A [(ou, .inl (cJ, 1, .inr (.inl ov))), (o, .inr (3, [.ref sp, .ref h, .ref cn, .int zs, .int rq, .int ti, .int ct, .int gv, .int bh, .int bc, .int un])), (h, .inr (1, [.ref a1, .ref a2, .ref a3, .ref a4, .ref a5, .int (nI n2_1)])), (a1, .inl (cJ, 32, .inr (.inl w1_1))), (a2, .inl (cI, 32, .inl w2_1)), (a3, .inl (cI, 32, .inl w3_1)), (a4, .inl (cI, 32, .inl w4_1)), (a5, .inl (cI, 32, .inl w5_1)), (cn, .inr (0, [.ref b1, .ref b2, .int (nI k2_1), .int (nI t2_1)])), (b1, .inl (cJ, 64, .inr (.inl q1_1))), (b2, .inl (cI, 64, .inl q2_1))] := hD
  refine lv_i2l hx hb dL_close_8 rfl ?_
  refine ck_last hx hb hK hP hD hS 0 1 rfl rfl (by omega) (by decide) dL_close_9 (fun H locs hP hD hS => ?_)
  have hP : va_P (dC, dI) vwCl [(ou, .inl (cJ, 1, .inr (.inl (vp_updL ov 0 r_1.toInt64)))), (o, .inr (3, [.ref sp, .ref h, .ref cn, .int zs, .int rq, .int ti, .int ct, .int gv, .int bh, .int bc, .int un])), (h, .inr (1, [.ref a1, .ref a2, .ref a3, .ref a4, .ref a5, .int (nI n2_1)])), (a1, .inl (cJ, 32, .inr (.inl w1_1))), (a2, .inl (cI, 32, .inl w2_1)), (a3, .inl (cI, 32, .inl w3_1)), (a4, .inl (cI, 32, .inl w4_1)), (a5, .inl (cI, 32, .inl w5_1)), (cn, .inr (0, [.ref b1, .ref b2, .int (nI k2_1), .int (nI t2_1)])), (b1, .inl (cJ, 64, .inr (.inl q1_1))), (b2, .inl (cI, 64, .inl q2_1))] H := hP
  have hD : va_D A [(ou, .inl (cJ, 1, .inr (.inl (vp_updL ov 0 r_1.toInt64)))), (o, .inr (3, [.ref sp, .ref h, .ref cn, .int zs, .int rq, .int ti, .int ct, .int gv, .int bh, .int bc, .int un])), (h, .inr (1, [.ref a1, .ref a2, .ref a3, .ref a4, .ref a5, .int (nI n2_1)])), (a1, .inl (cJ, 32, .inr (.inl w1_1))), (a2, .inl (cI, 32, .inl w2_1)), (a3, .inl (cI, 32, .inl w3_1)), (a4, .inl (cI, 32, .inl w4_1)), (a5, .inl (cI, 32, .inl w5_1)), (cn, .inr (0, [.ref b1, .ref b2, .int (nI k2_1), .int (nI t2_1)])), (b1, .inl (cJ, 64, .inr (.inl q1_1))), (b2, .inl (cI, 64, .inl q2_1))] := hD
  refine lv_goto (tgt := 17) hx hb dL_close_10 (by decide) ?_
  refine lv_iconst (v := 0) hx hb dL_close_17 (by decide) ?_
  refine ck_ir hx hb hr hlocks (Nat.le_of_ble_eq_true rfl) (Nat.le_of_ble_eq_true rfl) dL_close_18 (n2_1, w1_1, w2_1, w3_1, w4_1, w5_1, k2_1, t2_1, q1_1, q2_1, vp_updL ov 0 r_1.toInt64) (hP.sub [1, 2, 3, 4, 5, 6, 7, 8, 9, 10, 0] rfl) (hD.sub [1, 2, 3, 4, 5, 6, 7, 8, 9, 10, 0] (by decide) rfl) hS ?_
  exact ⟨rfl, _, hw_1, rfl⟩
set_option maxRecDepth 20000 in
theorem k_L_close_kIAE : (.classLink RL 13 ck_IAE : Cond) ∈ wsL_close := by decide +kernel
set_option maxHeartbeats 4000000 in
set_option maxRecDepth 100000 in
theorem b_L_close (l : Launch) (dC : Nat → ClassId) (dI : Nat → Nat → Nat) (cI cJ cZ : ClassId) (lo sz : Nat) (o sp h cn : Nat) (zs rq ti ct gv bh bc un : Int32) (aa bb : Int32) (ou : Nat) (hst : l.stackTraces = false) (hbad : ¬ (0 ≤ bb ∧ bb ≤ 65535)) : Met l yL_close wsL_close ({ frames := 8, cells := 1, slots := 6, locals := 145 } : Room) (va_Pc [.ref o, .int aa, .int bb, .ref ou] (ck_P (dC, dI) [(cI, .int), (cJ, .long), (cZ, .boolean)] lo sz [(o, .inr (3, [.ref sp, .ref h, .ref cn, .int zs, .int rq, .int ti, .int ct, .int gv, .int bh, .int bc, .int un]))])) (va_Qi (fun (r : Int32) (u : Unit) => r = 1) (fun u => ck_B (dC, dI) vwCl (va_A [(o, .inr (3, [.ref sp, .ref h, .ref cn, .int zs, .int rq, .int ti, .int ct, .int gv, .int bh, .int bc, .int un]))] sz) ((fun u : Unit => ([(o, .inr (3, [.ref sp, .ref h, .ref cn, .int zs, .int rq, .int ti, .int ct, .int gv, .int bh, .int bc, .int un]))] : va_W)) u)) (va_A [(o, .inr (3, [.ref sp, .ref h, .ref cn, .int zs, .int rq, .int ti, .int ct, .int gv, .int bh, .int bc, .int un]))] sz)) 1 6 (va_A [(o, .inr (3, [.ref sp, .ref h, .ref cn, .int zs, .int rq, .int ti, .int ct, .int gv, .int bh, .int bc, .int un]))] sz) := by
  refine va_MetW (cc := cL_close) (maxL := 5) (ret := (some .int)) (hh := [(0, 10, 13, 13)]) (by decide) rfl ?_
  intro p e s m args below meth c s₁ B hml hv
  obtain ⟨rfl, hsz, hP, hK, hD0, hE⟩ := hv
  have hx := B.exec
  have hb := B.bytes
  have hr := B.returns
  have hts := atoms_spec (ws := wsL_close) B.pre
  have hown : s.vm.findClass RL = some m.cls := findClass_of_methodNamed B.named
  have hlocks := B.notSynchronized
  subst hsz
  have hD := hD0.self (sz := s.heap.size)
  have hlo := ck_lo (sz := s.heap.size) hD0 hE.1
  generalize hAe : va_A [(o, .inr (3, [.ref sp, .ref h, .ref cn, .int zs, .int rq, .int ti, .int ct, .int gv, .int bh, .int bc, .int un]))] s.heap.size = A at hD hlo ⊢
  have hA : ∀ q : Nat, s.heap.size ≤ q → A q := fun q h => by rw [← hAe]; exact Or.inr h
  have hG : ck_G (dC, dI) [(cI, .int), (cJ, .long), (cZ, .boolean)] lo A s := ⟨hK, hE, hA, hlo⟩
  have hS : va_S A s.heap s.heap [] := va_S.rf
  have hP : va_P (dC, dI) vwCl [(o, .inr (3, [.ref sp, .ref h, .ref cn, .int zs, .int rq, .int ti, .int ct, .int gv, .int bh, .int bc, .int un]))] s.heap := hP
  have hl := lv_entry ([.ref o, .int aa, .int bb, .ref ou]) (n := 5) (Nat.le_of_ble_eq_true rfl)
  rw [lg_entry_eq]
  generalize (lg_sl ([.ref o, .int aa, .int bb, .ref ou]) ++ List.replicate (5 - (lg_sl ([.ref o, .int aa, .int bb, .ref ou])).length) Slot.unset).toArray = ls at hl ⊢
  have hl : lv_has ls 5 [(0, .ref o), (1, .int aa), (2, .int bb), (3, .ref ou)] := hl
  have htab := vx_table (x := objectInit) B (hts _ List.mem_cons_self)
  refine lv_aload_n hx hb dL_close_0 rfl (lv_at hl 3 rfl) ?_
  refine lv_iconst (v := 0) hx hb dL_close_1 (by decide) ?_
  refine lv_aload_n hx hb dL_close_2 rfl (lv_at hl 0 rfl) ?_
  refine lv_iload_n hx hb dL_close_3 rfl (lv_at hl 1 rfl) ?_
  refine lv_iload_n hx hb dL_close_4 rfl (lv_at hl 2 rfl) ?_
  refine ck_thr (vx_runV (As := [.int aa, .int bb]) (rest := [.int 0, .ref ou]) ⟨hx, hb, hml, hown, hts⟩ (t_X3_close l dC dI cI cJ cZ lo _ o sp h cn zs rq ti ct gv bh bc un aa bb hst hbad) (cwV 2 hts gL_close_X3_close rfl rfl rfl (by decide +kernel) ⟨(Nat.le_of_ble_eq_true rfl), (Nat.le_of_ble_eq_true rfl)⟩) ⟨ck_blind, va_recv hK hP (ci := 3) (q0 := 0) rfl rfl, (ck_pre hG hP hD hS [0] rfl (by decide) _)⟩ rfl rfl hl.1 rfl (lv_room (Nat.le_of_ble_eq_true rfl)) dL_close_5 ⟨(Nat.le_of_ble_eq_true rfl), (Nat.le_of_ble_eq_true rfl)⟩) (fun ce q9 H1 hz hk hce hcv hcl => ?_)
  have hP := ck_keptP hP hk
  have hS := ck_keptS hS hz hk
  refine ck_catch (own := RL) (name := ck_IAE) (E := ck_IAE) hown ⟨0, 10, 13, 13⟩ htab (by decide) (by decide) (hts _ k_L_close_kIAE) (hE.2.2.1.1.use rfl) hce hcv hcl ?_
  refine W.widen (k := 1) (n := 6) (by decide) (by decide) ?_
  refine lv_astore (lv' := [(4, .ref q9), (0, .ref o), (1, .int aa), (2, .int bb), (3, .ref ou)]) hx hb dL_close_13 hl (by decide) rfl (fun ls hl => ?_)
  refine lv_iconst (v := 1) hx hb dL_close_15 (by decide) ?_
  subst_vars
  refine ck_ir hx hb hr hlocks (Nat.le_of_ble_eq_true rfl) (Nat.le_of_ble_eq_true rfl) dL_close_16 () hP hD hS ?_
  exact rfl
set_option maxHeartbeats 4000000 in
set_option maxRecDepth 100000 in
theorem c_L_state (l : Launch) (dC : Nat → ClassId) (dI : Nat → Nat → Nat) (cI cJ cZ : ClassId) (lo sz : Nat) (o sp h cn : Nat) (zs rq ti ct gv bh bc un : Int32) (a1 a2 a3 a4 a5 : Nat) (n : Nat) (f1 : Nat → Int64) (f2 f3 f4 f5 : Nat → Int32) (b1 b2 : Nat) (kc t : Nat) (g1 : Nat → Int64) (g2 : Nat → Int32) (aa bb : Int32) (ou : Nat) (ov : Nat → Int64) (hb1 : 0 ≤ bb) (hb2 : bb ≤ 65535) (hn : n ≤ 32) (hk : kc ≤ 64) (ht : t ≤ kc) : Met l yL_state wsL_state ({ frames := 3, cells := 0, slots := 0, locals := 68 } : Room) (va_Pc [.ref o, .int aa, .int bb, .ref ou] (ck_P (dC, dI) [(cI, .int), (cJ, .long), (cZ, .boolean)] lo sz [(o, .inr (3, [.ref sp, .ref h, .ref cn, .int zs, .int rq, .int ti, .int ct, .int gv, .int bh, .int bc, .int un])), (h, .inr (1, [.ref a1, .ref a2, .ref a3, .ref a4, .ref a5, .int (nI n)])), (a1, .inl (cJ, 32, .inr (.inl f1))), (a2, .inl (cI, 32, .inl f2)), (a3, .inl (cI, 32, .inl f3)), (a4, .inl (cI, 32, .inl f4)), (a5, .inl (cI, 32, .inl f5)), (cn, .inr (0, [.ref b1, .ref b2, .int (nI kc), .int (nI t)])), (b1, .inl (cJ, 64, .inr (.inl g1))), (b2, .inl (cI, 64, .inl g2)), (ou, .inl (cJ, 1, .inr (.inl ov)))])) (va_Qi (fun (r : Int32) (u : (Nat → Int64)) => r = 0 ∧ ∃ rv : Int32, (ck_stt n f1 kc t g1 (ck_clr aa bb) rv) ∧ u 0 = rv.toInt64) (fun u => ck_B (dC, dI) vwCl (va_A [(o, .inr (3, [.ref sp, .ref h, .ref cn, .int zs, .int rq, .int ti, .int ct, .int gv, .int bh, .int bc, .int un])), (h, .inr (1, [.ref a1, .ref a2, .ref a3, .ref a4, .ref a5, .int (nI n)])), (a1, .inl (cJ, 32, .inr (.inl f1))), (a2, .inl (cI, 32, .inl f2)), (a3, .inl (cI, 32, .inl f3)), (a4, .inl (cI, 32, .inl f4)), (a5, .inl (cI, 32, .inl f5)), (cn, .inr (0, [.ref b1, .ref b2, .int (nI kc), .int (nI t)])), (b1, .inl (cJ, 64, .inr (.inl g1))), (b2, .inl (cI, 64, .inl g2)), (ou, .inl (cJ, 1, .inr (.inl ov)))] sz) ((fun u : (Nat → Int64) => ([(o, .inr (3, [.ref sp, .ref h, .ref cn, .int zs, .int rq, .int ti, .int ct, .int gv, .int bh, .int bc, .int un])), (h, .inr (1, [.ref a1, .ref a2, .ref a3, .ref a4, .ref a5, .int (nI n)])), (a1, .inl (cJ, 32, .inr (.inl f1))), (a2, .inl (cI, 32, .inl f2)), (a3, .inl (cI, 32, .inl f3)), (a4, .inl (cI, 32, .inl f4)), (a5, .inl (cI, 32, .inl f5)), (cn, .inr (0, [.ref b1, .ref b2, .int (nI kc), .int (nI t)])), (b1, .inl (cJ, 64, .inr (.inl g1))), (b2, .inl (cI, 64, .inl g2)), (ou, .inl (cJ, 1, .inr (.inl u)))] : va_W)) u)) (va_A [(o, .inr (3, [.ref sp, .ref h, .ref cn, .int zs, .int rq, .int ti, .int ct, .int gv, .int bh, .int bc, .int un])), (h, .inr (1, [.ref a1, .ref a2, .ref a3, .ref a4, .ref a5, .int (nI n)])), (a1, .inl (cJ, 32, .inr (.inl f1))), (a2, .inl (cI, 32, .inl f2)), (a3, .inl (cI, 32, .inl f3)), (a4, .inl (cI, 32, .inl f4)), (a5, .inl (cI, 32, .inl f5)), (cn, .inr (0, [.ref b1, .ref b2, .int (nI kc), .int (nI t)])), (b1, .inl (cJ, 64, .inr (.inl g1))), (b2, .inl (cI, 64, .inl g2)), (ou, .inl (cJ, 1, .inr (.inl ov)))] sz)) 0 0 (va_A [(o, .inr (3, [.ref sp, .ref h, .ref cn, .int zs, .int rq, .int ti, .int ct, .int gv, .int bh, .int bc, .int un])), (h, .inr (1, [.ref a1, .ref a2, .ref a3, .ref a4, .ref a5, .int (nI n)])), (a1, .inl (cJ, 32, .inr (.inl f1))), (a2, .inl (cI, 32, .inl f2)), (a3, .inl (cI, 32, .inl f3)), (a4, .inl (cI, 32, .inl f4)), (a5, .inl (cI, 32, .inl f5)), (cn, .inr (0, [.ref b1, .ref b2, .int (nI kc), .int (nI t)])), (b1, .inl (cJ, 64, .inr (.inl g1))), (b2, .inl (cI, 64, .inl g2)), (ou, .inl (cJ, 1, .inr (.inl ov)))] sz) := by
  refine va_MetW (cc := cL_state) (maxL := 5) (ret := (some .int)) (hh := [(0, 10, 13, 13)]) (by decide) rfl ?_
  intro p e s m args below meth c s₁ B hml hv
  obtain ⟨rfl, hsz, hP, hK, hD0, hE⟩ := hv
  have hx := B.exec
  have hb := B.bytes
  have hr := B.returns
  have hts := atoms_spec (ws := wsL_state) B.pre
  have hown : s.vm.findClass RL = some m.cls := findClass_of_methodNamed B.named
  have hlocks := B.notSynchronized
  subst hsz
  have hD := hD0.self (sz := s.heap.size)
  have hlo := ck_lo (sz := s.heap.size) hD0 hE.1
  generalize hAe : va_A [(o, .inr (3, [.ref sp, .ref h, .ref cn, .int zs, .int rq, .int ti, .int ct, .int gv, .int bh, .int bc, .int un])), (h, .inr (1, [.ref a1, .ref a2, .ref a3, .ref a4, .ref a5, .int (nI n)])), (a1, .inl (cJ, 32, .inr (.inl f1))), (a2, .inl (cI, 32, .inl f2)), (a3, .inl (cI, 32, .inl f3)), (a4, .inl (cI, 32, .inl f4)), (a5, .inl (cI, 32, .inl f5)), (cn, .inr (0, [.ref b1, .ref b2, .int (nI kc), .int (nI t)])), (b1, .inl (cJ, 64, .inr (.inl g1))), (b2, .inl (cI, 64, .inl g2)), (ou, .inl (cJ, 1, .inr (.inl ov)))] s.heap.size = A at hD hlo ⊢
  have hA : ∀ q : Nat, s.heap.size ≤ q → A q := fun q h => by rw [← hAe]; exact Or.inr h
  have hG : ck_G (dC, dI) [(cI, .int), (cJ, .long), (cZ, .boolean)] lo A s := ⟨hK, hE, hA, hlo⟩
  have hS : va_S A s.heap s.heap [] := va_S.rf
  have hP : va_P (dC, dI) vwCl [(o, .inr (3, [.ref sp, .ref h, .ref cn, .int zs, .int rq, .int ti, .int ct, .int gv, .int bh, .int bc, .int un])), (h, .inr (1, [.ref a1, .ref a2, .ref a3, .ref a4, .ref a5, .int (nI n)])), (a1, .inl (cJ, 32, .inr (.inl f1))), (a2, .inl (cI, 32, .inl f2)), (a3, .inl (cI, 32, .inl f3)), (a4, .inl (cI, 32, .inl f4)), (a5, .inl (cI, 32, .inl f5)), (cn, .inr (0, [.ref b1, .ref b2, .int (nI kc), .int (nI t)])), (b1, .inl (cJ, 64, .inr (.inl g1))), (b2, .inl (cI, 64, .inl g2)), (ou, .inl (cJ, 1, .inr (.inl ov)))] s.heap := hP
  have hl := lv_entry ([.ref o, .int aa, .int bb, .ref ou]) (n := 5) (Nat.le_of_ble_eq_true rfl)
  rw [lg_entry_eq]
  generalize (lg_sl ([.ref o, .int aa, .int bb, .ref ou]) ++ List.replicate (5 - (lg_sl ([.ref o, .int aa, .int bb, .ref ou])).length) Slot.unset).toArray = ls at hl ⊢
  have hl : lv_has ls 5 [(0, .ref o), (1, .int aa), (2, .int bb), (3, .ref ou)] := hl
  refine lv_aload_n hx hb dL_state_0 rfl (lv_at hl 3 rfl) ?_
  refine lv_iconst (v := nI 0) hx hb dL_state_1 (by decide) ?_
  refine lv_aload_n hx hb dL_state_2 rfl (lv_at hl 0 rfl) ?_
  refine lv_iload_n hx hb dL_state_3 rfl (lv_at hl 1 rfl) ?_
  refine lv_iload_n hx hb dL_state_4 rfl (lv_at hl 2 rfl) ?_
  refine ck_ri (va_runV (As := [.int aa, .int bb]) (rest := [.int (nI 0), .ref ou]) ⟨hx, hb, hml, hown, hts⟩ (c_X3_state l dC dI cI cJ cZ lo _ o sp h cn zs rq ti ct gv bh bc un a1 a2 a3 a4 a5 n f1 f2 f3 f4 f5 b1 b2 kc t g1 g2 aa bb (by first | assumption | omega) (by first | assumption | omega) (by first | assumption | omega) (by first | assumption | omega) (by first | assumption | omega)) (cwV 2 hts gL_state_X3_state rfl rfl rfl (by decide +kernel) ⟨(Nat.le_of_ble_eq_true rfl), (Nat.le_of_ble_eq_true rfl)⟩) ⟨ck_blind, va_recv hK hP (ci := 3) (q0 := 0) rfl rfl, (ck_pre hG hP hD hS [0, 1, 2, 3, 4, 5, 6, 7, 8, 9] rfl (by decide) _)⟩ rfl rfl hl.1 rfl (lv_room (Nat.le_of_ble_eq_true rfl)) dL_state_5 ⟨(Nat.le_of_ble_eq_true rfl), (Nat.le_of_ble_eq_true rfl)⟩) (fun r_1 hw_1 => ?_)
  have hw_1 : ck_stt n f1 kc t g1 (ck_clr aa bb) r_1 := hw_1
  refine lv_i2l hx hb dL_state_8 rfl ?_
  refine ck_last hx hb hK hP hD hS 10 1 rfl rfl (by omega) (by decide) dL_state_9 (fun H locs hP hD hS => ?_)
  have hP : va_P (dC, dI) vwCl [(o, .inr (3, [.ref sp, .ref h, .ref cn, .int zs, .int rq, .int ti, .int ct, .int gv, .int bh, .int bc, .int un])), (h, .inr (1, [.ref a1, .ref a2, .ref a3, .ref a4, .ref a5, .int (nI n)])), (a1, .inl (cJ, 32, .inr (.inl f1))), (a2, .inl (cI, 32, .inl f2)), (a3, .inl (cI, 32, .inl f3)), (a4, .inl (cI, 32, .inl f4)), (a5, .inl (cI, 32, .inl f5)), (cn, .inr (0, [.ref b1, .ref b2, .int (nI kc), .int (nI t)])), (b1, .inl (cJ, 64, .inr (.inl g1))), (b2, .inl (cI, 64, .inl g2)), (ou, .inl (cJ, 1, .inr (.inl (vp_updL ov 0 r_1.toInt64))))] H := hP
  have hD : va_D A [(o, .inr (3, [.ref sp, .ref h, .ref cn, .int zs, .int rq, .int ti, .int ct, .int gv, .int bh, .int bc, .int un])), (h, .inr (1, [.ref a1, .ref a2, .ref a3, .ref a4, .ref a5, .int (nI n)])), (a1, .inl (cJ, 32, .inr (.inl f1))), (a2, .inl (cI, 32, .inl f2)), (a3, .inl (cI, 32, .inl f3)), (a4, .inl (cI, 32, .inl f4)), (a5, .inl (cI, 32, .inl f5)), (cn, .inr (0, [.ref b1, .ref b2, .int (nI kc), .int (nI t)])), (b1, .inl (cJ, 64, .inr (.inl g1))), (b2, .inl (cI, 64, .inl g2)), (ou, .inl (cJ, 1, .inr (.inl (vp_updL ov 0 r_1.toInt64))))] := hD
  refine lv_goto (tgt := 17) hx hb dL_state_10 (by decide) ?_
  refine lv_iconst (v := 0) hx hb dL_state_17 (by decide) ?_
  refine ck_ir hx hb hr hlocks (Nat.le_of_ble_eq_true rfl) (Nat.le_of_ble_eq_true rfl) dL_state_18 (vp_updL ov 0 r_1.toInt64) hP hD hS ?_
  exact ⟨rfl, _, hw_1, rfl⟩
set_option maxRecDepth 20000 in
theorem k_L_state_kIAE : (.classLink RL 13 ck_IAE : Cond) ∈ wsL_state := by decide +kernel
set_option maxHeartbeats 4000000 in
set_option maxRecDepth 100000 in
theorem b_L_state (l : Launch) (dC : Nat → ClassId) (dI : Nat → Nat → Nat) (cI cJ cZ : ClassId) (lo sz : Nat) (o sp h cn : Nat) (zs rq ti ct gv bh bc un : Int32) (aa bb : Int32) (ou : Nat) (hst : l.stackTraces = false) (hbad : ¬ (0 ≤ bb ∧ bb ≤ 65535)) : Met l yL_state wsL_state ({ frames := 8, cells := 1, slots := 6, locals := 142 } : Room) (va_Pc [.ref o, .int aa, .int bb, .ref ou] (ck_P (dC, dI) [(cI, .int), (cJ, .long), (cZ, .boolean)] lo sz [(o, .inr (3, [.ref sp, .ref h, .ref cn, .int zs, .int rq, .int ti, .int ct, .int gv, .int bh, .int bc, .int un]))])) (va_Qi (fun (r : Int32) (u : Unit) => r = 1) (fun u => ck_B (dC, dI) vwCl (va_A [(o, .inr (3, [.ref sp, .ref h, .ref cn, .int zs, .int rq, .int ti, .int ct, .int gv, .int bh, .int bc, .int un]))] sz) ((fun u : Unit => ([(o, .inr (3, [.ref sp, .ref h, .ref cn, .int zs, .int rq, .int ti, .int ct, .int gv, .int bh, .int bc, .int un]))] : va_W)) u)) (va_A [(o, .inr (3, [.ref sp, .ref h, .ref cn, .int zs, .int rq, .int ti, .int ct, .int gv, .int bh, .int bc, .int un]))] sz)) 1 6 (va_A [(o, .inr (3, [.ref sp, .ref h, .ref cn, .int zs, .int rq, .int ti, .int ct, .int gv, .int bh, .int bc, .int un]))] sz) := by
  refine va_MetW (cc := cL_state) (maxL := 5) (ret := (some .int)) (hh := [(0, 10, 13, 13)]) (by decide) rfl ?_
  intro p e s m args below meth c s₁ B hml hv
  obtain ⟨rfl, hsz, hP, hK, hD0, hE⟩ := hv
  have hx := B.exec
  have hb := B.bytes
  have hr := B.returns
  have hts := atoms_spec (ws := wsL_state) B.pre
  have hown : s.vm.findClass RL = some m.cls := findClass_of_methodNamed B.named
  have hlocks := B.notSynchronized
  subst hsz
  have hD := hD0.self (sz := s.heap.size)
  have hlo := ck_lo (sz := s.heap.size) hD0 hE.1
  generalize hAe : va_A [(o, .inr (3, [.ref sp, .ref h, .ref cn, .int zs, .int rq, .int ti, .int ct, .int gv, .int bh, .int bc, .int un]))] s.heap.size = A at hD hlo ⊢
  have hA : ∀ q : Nat, s.heap.size ≤ q → A q := fun q h => by rw [← hAe]; exact Or.inr h
  have hG : ck_G (dC, dI) [(cI, .int), (cJ, .long), (cZ, .boolean)] lo A s := ⟨hK, hE, hA, hlo⟩
  have hS : va_S A s.heap s.heap [] := va_S.rf
  have hP : va_P (dC, dI) vwCl [(o, .inr (3, [.ref sp, .ref h, .ref cn, .int zs, .int rq, .int ti, .int ct, .int gv, .int bh, .int bc, .int un]))] s.heap := hP
  have hl := lv_entry ([.ref o, .int aa, .int bb, .ref ou]) (n := 5) (Nat.le_of_ble_eq_true rfl)
  rw [lg_entry_eq]
  generalize (lg_sl ([.ref o, .int aa, .int bb, .ref ou]) ++ List.replicate (5 - (lg_sl ([.ref o, .int aa, .int bb, .ref ou])).length) Slot.unset).toArray = ls at hl ⊢
  have hl : lv_has ls 5 [(0, .ref o), (1, .int aa), (2, .int bb), (3, .ref ou)] := hl
  have htab := vx_table (x := objectInit) B (hts _ List.mem_cons_self)
  refine lv_aload_n hx hb dL_state_0 rfl (lv_at hl 3 rfl) ?_
  refine lv_iconst (v := 0) hx hb dL_state_1 (by decide) ?_
  refine lv_aload_n hx hb dL_state_2 rfl (lv_at hl 0 rfl) ?_
  refine lv_iload_n hx hb dL_state_3 rfl (lv_at hl 1 rfl) ?_
  refine lv_iload_n hx hb dL_state_4 rfl (lv_at hl 2 rfl) ?_
  refine ck_thr (vx_runV (As := [.int aa, .int bb]) (rest := [.int 0, .ref ou]) ⟨hx, hb, hml, hown, hts⟩ (t_X3_state l dC dI cI cJ cZ lo _ o sp h cn zs rq ti ct gv bh bc un aa bb hst hbad) (cwV 2 hts gL_state_X3_state rfl rfl rfl (by decide +kernel) ⟨(Nat.le_of_ble_eq_true rfl), (Nat.le_of_ble_eq_true rfl)⟩) ⟨ck_blind, va_recv hK hP (ci := 3) (q0 := 0) rfl rfl, (ck_pre hG hP hD hS [0] rfl (by decide) _)⟩ rfl rfl hl.1 rfl (lv_room (Nat.le_of_ble_eq_true rfl)) dL_state_5 ⟨(Nat.le_of_ble_eq_true rfl), (Nat.le_of_ble_eq_true rfl)⟩) (fun ce q9 H1 hz hk hce hcv hcl => ?_)
  have hP := ck_keptP hP hk
  have hS := ck_keptS hS hz hk
  refine ck_catch (own := RL) (name := ck_IAE) (E := ck_IAE) hown ⟨0, 10, 13, 13⟩ htab (by decide) (by decide) (hts _ k_L_state_kIAE) (hE.2.2.1.1.use rfl) hce hcv hcl ?_
  refine W.widen (k := 1) (n := 6) (by decide) (by decide) ?_
  refine lv_astore (lv' := [(4, .ref q9), (0, .ref o), (1, .int aa), (2, .int bb), (3, .ref ou)]) hx hb dL_state_13 hl (by decide) rfl (fun ls hl => ?_)
  refine lv_iconst (v := 1) hx hb dL_state_15 (by decide) ?_
  subst_vars
  refine ck_ir hx hb hr hlocks (Nat.le_of_ble_eq_true rfl) (Nat.le_of_ble_eq_true rfl) dL_state_16 () hP hD hS ?_
  exact rfl
set_option maxHeartbeats 4000000 in
set_option maxRecDepth 100000 in
theorem c_L_cookie (l : Launch) (dC : Nat → ClassId) (dI : Nat → Nat → Nat) (cI cJ cZ : ClassId) (lo sz : Nat) (o sp h cn : Nat) (zs rq ti ct gv bh bc un : Int32) (k l0 v0 v1 v2 v3 : Int64) (aa bb num kd sl : Int32) (ou : Nat) (ov : Nat → Int64) (hb1 : 0 ≤ bb) (hb2 : bb ≤ 65535) (hd1 : 0 ≤ kd) (hd2 : kd ≤ 7) (hs1 : 0 ≤ sl) (hs2 : sl ≤ 2147483647) : Met l yL_cookie wsL_cookie ({ frames := 6, cells := 0, slots := 0, locals := 145 } : Room) (va_Pc [.ref o, .int aa, .int bb, .int num, .int kd, .int sl, .ref ou] (ck_P (dC, dI) [(cI, .int), (cJ, .long), (cZ, .boolean)] lo sz [(o, .inr (3, [.ref sp, .ref h, .ref cn, .int zs, .int rq, .int ti, .int ct, .int gv, .int bh, .int bc, .int un])), (sp, .inr (2, [.long k, .long l0, .long v0, .long v1, .long v2, .long v3])), (ou, .inl (cJ, 1, .inr (.inl ov)))])) (va_Qi (fun (r : Int32) (u : Int64 × Int64 × Int64 × Int64 × (Nat → Int64)) => r = 0 ∧ ∃ rv : Int64, (rv = ck_wos (ck_ckk k l0 (ck_clr aa bb) num kd sl)) ∧ u.2.2.2.2 0 = rv) (fun u => ck_B (dC, dI) vwCl (va_A [(o, .inr (3, [.ref sp, .ref h, .ref cn, .int zs, .int rq, .int ti, .int ct, .int gv, .int bh, .int bc, .int un])), (sp, .inr (2, [.long k, .long l0, .long v0, .long v1, .long v2, .long v3])), (ou, .inl (cJ, 1, .inr (.inl ov)))] sz) ((fun u : Int64 × Int64 × Int64 × Int64 × (Nat → Int64) => ([(o, .inr (3, [.ref sp, .ref h, .ref cn, .int zs, .int rq, .int ti, .int ct, .int gv, .int bh, .int bc, .int un])), (sp, .inr (2, [.long k, .long l0, .long u.1, .long u.2.1, .long u.2.2.1, .long u.2.2.2.1])), (ou, .inl (cJ, 1, .inr (.inl u.2.2.2.2)))] : va_W)) u)) (va_A [(o, .inr (3, [.ref sp, .ref h, .ref cn, .int zs, .int rq, .int ti, .int ct, .int gv, .int bh, .int bc, .int un])), (sp, .inr (2, [.long k, .long l0, .long v0, .long v1, .long v2, .long v3])), (ou, .inl (cJ, 1, .inr (.inl ov)))] sz)) 0 0 (va_A [(o, .inr (3, [.ref sp, .ref h, .ref cn, .int zs, .int rq, .int ti, .int ct, .int gv, .int bh, .int bc, .int un])), (sp, .inr (2, [.long k, .long l0, .long v0, .long v1, .long v2, .long v3])), (ou, .inl (cJ, 1, .inr (.inl ov)))] sz) := by
  refine va_MetW (cc := cL_cookie) (maxL := 8) (ret := (some .int)) (hh := [(0, 15, 18, 13)]) (by decide) rfl ?_
  intro p e s m args below meth c s₁ B hml hv
  obtain ⟨rfl, hsz, hP, hK, hD0, hE⟩ := hv
  have hx := B.exec
  have hb := B.bytes
  have hr := B.returns
  have hts := atoms_spec (ws := wsL_cookie) B.pre
  have hown : s.vm.findClass RL = some m.cls := findClass_of_methodNamed B.named
  have hlocks := B.notSynchronized
  subst hsz
  have hD := hD0.self (sz := s.heap.size)
  have hlo := ck_lo (sz := s.heap.size) hD0 hE.1
  generalize hAe : va_A [(o, .inr (3, [.ref sp, .ref h, .ref cn, .int zs, .int rq, .int ti, .int ct, .int gv, .int bh, .int bc, .int un])), (sp, .inr (2, [.long k, .long l0, .long v0, .long v1, .long v2, .long v3])), (ou, .inl (cJ, 1, .inr (.inl ov)))] s.heap.size = A at hD hlo ⊢
  have hA : ∀ q : Nat, s.heap.size ≤ q → A q := fun q h => by rw [← hAe]; exact Or.inr h
  have hG : ck_G (dC, dI) [(cI, .int), (cJ, .long), (cZ, .boolean)] lo A s := ⟨hK, hE, hA, hlo⟩
  have hS : va_S A s.heap s.heap [] := va_S.rf
  have hP : va_P (dC, dI) vwCl [(o, .inr (3, [.ref sp, .ref h, .ref cn, .int zs, .int rq, .int ti, .int ct, .int gv, .int bh, .int bc, .int un])), (sp, .inr (2, [.long k, .long l0, .long v0, .long v1, .long v2, .long v3])), (ou, .inl (cJ, 1, .inr (.inl ov)))] s.heap := hP
  have hl := lv_entry ([.ref o, .int aa, .int bb, .int num, .int kd, .int sl, .ref ou]) (n := 8) (Nat.le_of_ble_eq_true rfl)
  rw [lg_entry_eq]
  generalize (lg_sl ([.ref o, .int aa, .int bb, .int num, .int kd, .int sl, .ref ou]) ++ List.replicate (8 - (lg_sl ([.ref o, .int aa, .int bb, .int num, .int kd, .int sl, .ref ou])).length) Slot.unset).toArray = ls at hl ⊢
  have hl : lv_has ls 8 [(0, .ref o), (1, .int aa), (2, .int bb), (3, .int num), (4, .int kd), (5, .int sl), (6, .ref ou)] := hl
  refine lv_aload hx hb dL_cookie_0 (lv_at hl 6 rfl) ?_
  refine lv_iconst (v := nI 0) hx hb dL_cookie_2 (by decide) ?_
  refine lv_aload_n hx hb dL_cookie_3 rfl (lv_at hl 0 rfl) ?_
  refine lv_iload_n hx hb dL_cookie_4 rfl (lv_at hl 1 rfl) ?_
  refine lv_iload_n hx hb dL_cookie_5 rfl (lv_at hl 2 rfl) ?_
  refine lv_iload_n hx hb dL_cookie_6 rfl (lv_at hl 3 rfl) ?_
  refine lv_iload hx hb dL_cookie_7 (lv_at hl 4 rfl) ?_
  refine lv_iload hx hb dL_cookie_9 (lv_at hl 5 rfl) ?_
  refine ck_cl (wr := [(ou, .inl (cJ, 1, .inr (.inl ov)))]) (va_runV (As := [.int aa, .int bb, .int num, .int kd, .int sl]) (rest := [.int (nI 0), .ref ou]) ⟨hx, hb, hml, hown, hts⟩ (c_X3_cookie l dC dI cI cJ cZ lo _ o sp h cn zs rq ti ct gv bh bc un k l0 v0 v1 v2 v3 aa bb num kd sl (by first | assumption | omega) (by first | assumption | omega) (by first | assumption | omega) (by first | assumption | omega) (by first | assumption | omega) (by first | assumption | omega)) (cwV 5 hts gL_cookie_X3_cookie rfl rfl rfl (by decide +kernel) ⟨(Nat.le_of_ble_eq_true rfl), (Nat.le_of_ble_eq_true rfl)⟩) ⟨ck_blind, va_recv hK hP (ci := 3) (q0 := 0) rfl rfl, (ck_pre hG hP hD hS [0, 1] rfl (by decide) _)⟩ rfl rfl hl.1 rfl (lv_room (Nat.le_of_ble_eq_true rfl)) dL_cookie_11 ⟨(Nat.le_of_ble_eq_true rfl), (Nat.le_of_ble_eq_true rfl)⟩) hP hD hS hA [0, 1] [2] rfl rfl (by decide) (by decide) (fun r_1 u H locs hw_1 hP hD hS => ?_)
  obtain ⟨u0_1, u1_1, u2_1, u3_1⟩ := u
  have hw_1 : r_1 = ck_wos (ck_ckk k l0 (ck_clr aa bb) num kd sl) := hw_1
  have hP : va_P (dC, dI) vwCl [(ou, .inl (cJ, 1, .inr (.inl ov))), (o, .inr (3, [.ref sp, .ref h, .ref cn, .int zs, .int rq, .int ti, .int ct, .int gv, .int bh, .int bc, .int un])), (sp, .inr (2, [.long k, .long l0, .long u0_1, .long u1_1, .long u2_1, .long u3_1]))] H := hP
  have hD : va_D A [(ou, .inl (cJ, 1, .inr (.inl ov))), (o, .inr (3, [.ref sp, .ref h, .ref cn, .int zs, .int rq, .int ti, .int ct, .int gv, .int bh, .int bc, .int un])), (sp, .inr (2, [.long k, .long l0, .long u0_1, .long u1_1, .long u2_1, .long u3_1]))] := hD
  refine ck_last hx hb hK hP hD hS 0 1 rfl rfl (by omega) (by decide) dL_cookie_14 (fun H locs hP hD hS => ?_)
  have hP : va_P (dC, dI) vwCl [(ou, .inl (cJ, 1, .inr (.inl (vp_updL ov 0 r_1)))), (o, .inr (3, [.ref sp, .ref h, .ref cn, .int zs, .int rq, .int ti, .int ct, .int gv, .int bh, .int bc, .int un])), (sp, .inr (2, [.long k, .long l0, .long u0_1, .long u1_1, .long u2_1, .long u3_1]))] H := hP
  have hD : va_D A [(ou, .inl (cJ, 1, .inr (.inl (vp_updL ov 0 r_1)))), (o, .inr (3, [.ref sp, .ref h, .ref cn, .int zs, .int rq, .int ti, .int ct, .int gv, .int bh, .int bc, .int un])), (sp, .inr (2, [.long k, .long l0, .long u0_1, .long u1_1, .long u2_1, .long u3_1]))] := hD
  refine lv_goto (tgt := 22) hx hb dL_cookie_15 (by decide) ?_
  refine lv_iconst (v := 0) hx hb dL_cookie_22 (by decide) ?_
  refine ck_ir hx hb hr hlocks (Nat.le_of_ble_eq_true rfl) (Nat.le_of_ble_eq_true rfl) dL_cookie_23 (u0_1, u1_1, u2_1, u3_1, vp_updL ov 0 r_1) (hP.sub [1, 2, 0] rfl) (hD.sub [1, 2, 0] (by decide) rfl) hS ?_
  exact ⟨rfl, _, hw_1, rfl⟩
set_option maxRecDepth 20000 in
theorem k_L_cookie_kIAE : (.classLink RL 13 ck_IAE : Cond) ∈ wsL_cookie := by decide +kernel
set_option maxHeartbeats 4000000 in
set_option maxRecDepth 100000 in
theorem b_L_cookie (l : Launch) (dC : Nat → ClassId) (dI : Nat → Nat → Nat) (cI cJ cZ : ClassId) (lo sz : Nat) (o sp h cn : Nat) (zs rq ti ct gv bh bc un : Int32) (aa bb num kd sl : Int32) (ou : Nat) (hst : l.stackTraces = false) (hbad : ¬ ((0 ≤ bb ∧ bb ≤ 65535) ∧ (0 ≤ kd ∧ kd ≤ 7) ∧ (0 ≤ sl ∧ sl ≤ 2147483647))) : Met l yL_cookie wsL_cookie ({ frames := 8, cells := 1, slots := 6, locals := 145 } : Room) (va_Pc [.ref o, .int aa, .int bb, .int num, .int kd, .int sl, .ref ou] (ck_P (dC, dI) [(cI, .int), (cJ, .long), (cZ, .boolean)] lo sz [(o, .inr (3, [.ref sp, .ref h, .ref cn, .int zs, .int rq, .int ti, .int ct, .int gv, .int bh, .int bc, .int un]))])) (va_Qi (fun (r : Int32) (u : Unit) => r = 1) (fun u => ck_B (dC, dI) vwCl (va_A [(o, .inr (3, [.ref sp, .ref h, .ref cn, .int zs, .int rq, .int ti, .int ct, .int gv, .int bh, .int bc, .int un]))] sz) ((fun u : Unit => ([(o, .inr (3, [.ref sp, .ref h, .ref cn, .int zs, .int rq, .int ti, .int ct, .int gv, .int bh, .int bc, .int un]))] : va_W)) u)) (va_A [(o, .inr (3, [.ref sp, .ref h, .ref cn, .int zs, .int rq, .int ti, .int ct, .int gv, .int bh, .int bc, .int un]))] sz)) 1 6 (va_A [(o, .inr (3, [.ref sp, .ref h, .ref cn, .int zs, .int rq, .int ti, .int ct, .int gv, .int bh, .int bc, .int un]))] sz) := by
  refine va_MetW (cc := cL_cookie) (maxL := 8) (ret := (some .int)) (hh := [(0, 15, 18, 13)]) (by decide) rfl ?_
  intro p e s m args below meth c s₁ B hml hv
  obtain ⟨rfl, hsz, hP, hK, hD0, hE⟩ := hv
  have hx := B.exec
  have hb := B.bytes
  have hr := B.returns
  have hts := atoms_spec (ws := wsL_cookie) B.pre
  have hown : s.vm.findClass RL = some m.cls := findClass_of_methodNamed B.named
  have hlocks := B.notSynchronized
  subst hsz
  have hD := hD0.self (sz := s.heap.size)
  have hlo := ck_lo (sz := s.heap.size) hD0 hE.1
  generalize hAe : va_A [(o, .inr (3, [.ref sp, .ref h, .ref cn, .int zs, .int rq, .int ti, .int ct, .int gv, .int bh, .int bc, .int un]))] s.heap.size = A at hD hlo ⊢
  have hA : ∀ q : Nat, s.heap.size ≤ q → A q := fun q h => by rw [← hAe]; exact Or.inr h
  have hG : ck_G (dC, dI) [(cI, .int), (cJ, .long), (cZ, .boolean)] lo A s := ⟨hK, hE, hA, hlo⟩
  have hS : va_S A s.heap s.heap [] := va_S.rf
  have hP : va_P (dC, dI) vwCl [(o, .inr (3, [.ref sp, .ref h, .ref cn, .int zs, .int rq, .int ti, .int ct, .int gv, .int bh, .int bc, .int un]))] s.heap := hP
  have hl := lv_entry ([.ref o, .int aa, .int bb, .int num, .int kd, .int sl, .ref ou]) (n := 8) (Nat.le_of_ble_eq_true rfl)
  rw [lg_entry_eq]
  generalize (lg_sl ([.ref o, .int aa, .int bb, .int num, .int kd, .int sl, .ref ou]) ++ List.replicate (8 - (lg_sl ([.ref o, .int aa, .int bb, .int num, .int kd, .int sl, .ref ou])).length) Slot.unset).toArray = ls at hl ⊢
  have hl : lv_has ls 8 [(0, .ref o), (1, .int aa), (2, .int bb), (3, .int num), (4, .int kd), (5, .int sl), (6, .ref ou)] := hl
  have htab := vx_table (x := objectInit) B (hts _ List.mem_cons_self)
  refine lv_aload hx hb dL_cookie_0 (lv_at hl 6 rfl) ?_
  refine lv_iconst (v := 0) hx hb dL_cookie_2 (by decide) ?_
  refine lv_aload_n hx hb dL_cookie_3 rfl (lv_at hl 0 rfl) ?_
  refine lv_iload_n hx hb dL_cookie_4 rfl (lv_at hl 1 rfl) ?_
  refine lv_iload_n hx hb dL_cookie_5 rfl (lv_at hl 2 rfl) ?_
  refine lv_iload_n hx hb dL_cookie_6 rfl (lv_at hl 3 rfl) ?_
  refine lv_iload hx hb dL_cookie_7 (lv_at hl 4 rfl) ?_
  refine lv_iload hx hb dL_cookie_9 (lv_at hl 5 rfl) ?_
  refine ck_thr (vx_runV (As := [.int aa, .int bb, .int num, .int kd, .int sl]) (rest := [.int 0, .ref ou]) ⟨hx, hb, hml, hown, hts⟩ (t_X3_cookie l dC dI cI cJ cZ lo _ o sp h cn zs rq ti ct gv bh bc un aa bb num kd sl hst hbad) (cwV 5 hts gL_cookie_X3_cookie rfl rfl rfl (by decide +kernel) ⟨(Nat.le_of_ble_eq_true rfl), (Nat.le_of_ble_eq_true rfl)⟩) ⟨ck_blind, va_recv hK hP (ci := 3) (q0 := 0) rfl rfl, (ck_pre hG hP hD hS [0] rfl (by decide) _)⟩ rfl rfl hl.1 rfl (lv_room (Nat.le_of_ble_eq_true rfl)) dL_cookie_11 ⟨(Nat.le_of_ble_eq_true rfl), (Nat.le_of_ble_eq_true rfl)⟩) (fun ce q9 H1 hz hk hce hcv hcl => ?_)
  have hP := ck_keptP hP hk
  have hS := ck_keptS hS hz hk
  refine ck_catch (own := RL) (name := ck_IAE) (E := ck_IAE) hown ⟨0, 15, 18, 13⟩ htab (by decide) (by decide) (hts _ k_L_cookie_kIAE) (hE.2.2.1.1.use rfl) hce hcv hcl ?_
  refine W.widen (k := 1) (n := 6) (by decide) (by decide) ?_
  refine lv_astore (lv' := [(7, .ref q9), (0, .ref o), (1, .int aa), (2, .int bb), (3, .int num), (4, .int kd), (5, .int sl), (6, .ref ou)]) hx hb dL_cookie_18 hl (by decide) rfl (fun ls hl => ?_)
  refine lv_iconst (v := 1) hx hb dL_cookie_20 (by decide) ?_
  subst_vars
  refine ck_ir hx hb hr hlocks (Nat.le_of_ble_eq_true rfl) (Nat.le_of_ble_eq_true rfl) dL_cookie_21 () hP hD hS ?_
  exact rfl
set_option maxHeartbeats 4000000 in
set_option maxRecDepth 100000 in
theorem c_L_told (l : Launch) (dC : Nat → ClassId) (dI : Nat → Nat → Nat) (cI cJ cZ : ClassId) (lo sz : Nat) (o sp h cn : Nat) (zs rq ti ct gv bh bc un : Int32) (a1 a2 a3 a4 a5 : Nat) (n : Nat) (f1 : Nat → Int64) (f2 f3 f4 f5 : Nat → Int32) (b1 b2 : Nat) (kc t : Nat) (g1 : Nat → Int64) (g2 : Nat → Int32) (w : Nat) (ou : Nat) (ov : Nat → Int64) (hw8 : w < 8) (hn : n ≤ 32) (hk : kc ≤ 64) (ht : t ≤ kc) : Met l yL_told wsL_told ({ frames := 2, cells := 0, slots := 0, locals := 41 } : Room) (va_Pc [.ref o, .int (nI w), .ref ou] (ck_P (dC, dI) [(cI, .int), (cJ, .long), (cZ, .boolean)] lo sz [(o, .inr (3, [.ref sp, .ref h, .ref cn, .int zs, .int rq, .int ti, .int ct, .int gv, .int bh, .int bc, .int un])), (h, .inr (1, [.ref a1, .ref a2, .ref a3, .ref a4, .ref a5, .int (nI n)])), (a1, .inl (cJ, 32, .inr (.inl f1))), (a2, .inl (cI, 32, .inl f2)), (a3, .inl (cI, 32, .inl f3)), (a4, .inl (cI, 32, .inl f4)), (a5, .inl (cI, 32, .inl f5)), (cn, .inr (0, [.ref b1, .ref b2, .int (nI kc), .int (nI t)])), (b1, .inl (cJ, 64, .inr (.inl g1))), (b2, .inl (cI, 64, .inl g2)), (ou, .inl (cJ, 1, .inr (.inl ov)))])) (va_Qi (fun (r : Int32) (u : (Nat → Int64)) => r = 0 ∧ ∃ rv : Int32, (rv = ck_tld w n (kc - t) kc gv bh bc un ti) ∧ u 0 = rv.toInt64) (fun u => ck_B (dC, dI) vwCl (va_A [(o, .inr (3, [.ref sp, .ref h, .ref cn, .int zs, .int rq, .int ti, .int ct, .int gv, .int bh, .int bc, .int un])), (h, .inr (1, [.ref a1, .ref a2, .ref a3, .ref a4, .ref a5, .int (nI n)])), (a1, .inl (cJ, 32, .inr (.inl f1))), (a2, .inl (cI, 32, .inl f2)), (a3, .inl (cI, 32, .inl f3)), (a4, .inl (cI, 32, .inl f4)), (a5, .inl (cI, 32, .inl f5)), (cn, .inr (0, [.ref b1, .ref b2, .int (nI kc), .int (nI t)])), (b1, .inl (cJ, 64, .inr (.inl g1))), (b2, .inl (cI, 64, .inl g2)), (ou, .inl (cJ, 1, .inr (.inl ov)))] sz) ((fun u : (Nat → Int64) => ([(o, .inr (3, [.ref sp, .ref h, .ref cn, .int zs, .int rq, .int ti, .int ct, .int gv, .int bh, .int bc, .int un])), (h, .inr (1, [.ref a1, .ref a2, .ref a3, .ref a4, .ref a5, .int (nI n)])), (a1, .inl (cJ, 32, .inr (.inl f1))), (a2, .inl (cI, 32, .inl f2)), (a3, .inl (cI, 32, .inl f3)), (a4, .inl (cI, 32, .inl f4)), (a5, .inl (cI, 32, .inl f5)), (cn, .inr (0, [.ref b1, .ref b2, .int (nI kc), .int (nI t)])), (b1, .inl (cJ, 64, .inr (.inl g1))), (b2, .inl (cI, 64, .inl g2)), (ou, .inl (cJ, 1, .inr (.inl u)))] : va_W)) u)) (va_A [(o, .inr (3, [.ref sp, .ref h, .ref cn, .int zs, .int rq, .int ti, .int ct, .int gv, .int bh, .int bc, .int un])), (h, .inr (1, [.ref a1, .ref a2, .ref a3, .ref a4, .ref a5, .int (nI n)])), (a1, .inl (cJ, 32, .inr (.inl f1))), (a2, .inl (cI, 32, .inl f2)), (a3, .inl (cI, 32, .inl f3)), (a4, .inl (cI, 32, .inl f4)), (a5, .inl (cI, 32, .inl f5)), (cn, .inr (0, [.ref b1, .ref b2, .int (nI kc), .int (nI t)])), (b1, .inl (cJ, 64, .inr (.inl g1))), (b2, .inl (cI, 64, .inl g2)), (ou, .inl (cJ, 1, .inr (.inl ov)))] sz)) 0 0 (va_A [(o, .inr (3, [.ref sp, .ref h, .ref cn, .int zs, .int rq, .int ti, .int ct, .int gv, .int bh, .int bc, .int un])), (h, .inr (1, [.ref a1, .ref a2, .ref a3, .ref a4, .ref a5, .int (nI n)])), (a1, .inl (cJ, 32, .inr (.inl f1))), (a2, .inl (cI, 32, .inl f2)), (a3, .inl (cI, 32, .inl f3)), (a4, .inl (cI, 32, .inl f4)), (a5, .inl (cI, 32, .inl f5)), (cn, .inr (0, [.ref b1, .ref b2, .int (nI kc), .int (nI t)])), (b1, .inl (cJ, 64, .inr (.inl g1))), (b2, .inl (cI, 64, .inl g2)), (ou, .inl (cJ, 1, .inr (.inl ov)))] sz) := by
  refine va_MetW (cc := cL_told) (maxL := 4) (ret := (some .int)) (hh := [(0, 9, 12, 13)]) (by decide) rfl ?_
  intro p e s m args below meth c s₁ B hml hv
  obtain ⟨rfl, hsz, hP, hK, hD0, hE⟩ := hv
  have hx := B.exec
  have hb := B.bytes
  have hr := B.returns
  have hts := atoms_spec (ws := wsL_told) B.pre
  have hown : s.vm.findClass RL = some m.cls := findClass_of_methodNamed B.named
  have hlocks := B.notSynchronized
  subst hsz
  have hD := hD0.self (sz := s.heap.size)
  have hlo := ck_lo (sz := s.heap.size) hD0 hE.1
  generalize hAe : va_A [(o, .inr (3, [.ref sp, .ref h, .ref cn, .int zs, .int rq, .int ti, .int ct, .int gv, .int bh, .int bc, .int un])), (h, .inr (1, [.ref a1, .ref a2, .ref a3, .ref a4, .ref a5, .int (nI n)])), (a1, .inl (cJ, 32, .inr (.inl f1))), (a2, .inl (cI, 32, .inl f2)), (a3, .inl (cI, 32, .inl f3)), (a4, .inl (cI, 32, .inl f4)), (a5, .inl (cI, 32, .inl f5)), (cn, .inr (0, [.ref b1, .ref b2, .int (nI kc), .int (nI t)])), (b1, .inl (cJ, 64, .inr (.inl g1))), (b2, .inl (cI, 64, .inl g2)), (ou, .inl (cJ, 1, .inr (.inl ov)))] s.heap.size = A at hD hlo ⊢
  have hA : ∀ q : Nat, s.heap.size ≤ q → A q := fun q h => by rw [← hAe]; exact Or.inr h
  have hG : ck_G (dC, dI) [(cI, .int), (cJ, .long), (cZ, .boolean)] lo A s := ⟨hK, hE, hA, hlo⟩
  have hS : va_S A s.heap s.heap [] := va_S.rf
  have hP : va_P (dC, dI) vwCl [(o, .inr (3, [.ref sp, .ref h, .ref cn, .int zs, .int rq, .int ti, .int ct, .int gv, .int bh, .int bc, .int un])), (h, .inr (1, [.ref a1, .ref a2, .ref a3, .ref a4, .ref a5, .int (nI n)])), (a1, .inl (cJ, 32, .inr (.inl f1))), (a2, .inl (cI, 32, .inl f2)), (a3, .inl (cI, 32, .inl f3)), (a4, .inl (cI, 32, .inl f4)), (a5, .inl (cI, 32, .inl f5)), (cn, .inr (0, [.ref b1, .ref b2, .int (nI kc), .int (nI t)])), (b1, .inl (cJ, 64, .inr (.inl g1))), (b2, .inl (cI, 64, .inl g2)), (ou, .inl (cJ, 1, .inr (.inl ov)))] s.heap := hP
  have hl := lv_entry ([.ref o, .int (nI w), .ref ou]) (n := 4) (Nat.le_of_ble_eq_true rfl)
  rw [lg_entry_eq]
  generalize (lg_sl ([.ref o, .int (nI w), .ref ou]) ++ List.replicate (4 - (lg_sl ([.ref o, .int (nI w), .ref ou])).length) Slot.unset).toArray = ls at hl ⊢
  have hl : lv_has ls 4 [(0, .ref o), (1, .int (nI w)), (2, .ref ou)] := hl
  refine lv_aload_n hx hb dL_told_0 rfl (lv_at hl 2 rfl) ?_
  refine lv_iconst (v := nI 0) hx hb dL_told_1 (by decide) ?_
  refine lv_aload_n hx hb dL_told_2 rfl (lv_at hl 0 rfl) ?_
  refine lv_iload_n hx hb dL_told_3 rfl (lv_at hl 1 rfl) ?_
  refine ck_ri (va_runV (As := [.int (nI w)]) (rest := [.int (nI 0), .ref ou]) ⟨hx, hb, hml, hown, hts⟩ (c_X3_told l dC dI cI cJ cZ lo _ o sp h cn zs rq ti ct gv bh bc un a1 a2 a3 a4 a5 n f1 f2 f3 f4 f5 b1 b2 kc t g1 g2 w (by first | assumption | omega) (by first | assumption | omega) (by first | assumption | omega) (by first | assumption | omega)) (cwV 1 hts gL_told_X3_told rfl rfl rfl (by decide +kernel) ⟨(Nat.le_of_ble_eq_true rfl), (Nat.le_of_ble_eq_true rfl)⟩) ⟨ck_blind, va_recv hK hP (ci := 3) (q0 := 0) rfl rfl, (ck_pre hG hP hD hS [0, 1, 2, 3, 4, 5, 6, 7, 8, 9] rfl (by decide) _)⟩ rfl rfl hl.1 rfl (lv_room (Nat.le_of_ble_eq_true rfl)) dL_told_4 ⟨(Nat.le_of_ble_eq_true rfl), (Nat.le_of_ble_eq_true rfl)⟩) (fun r_1 hw_1 => ?_)
  have hw_1 : r_1 = ck_tld w n (kc - t) kc gv bh bc un ti := hw_1
  refine lv_i2l hx hb dL_told_7 rfl ?_
  refine ck_last hx hb hK hP hD hS 10 1 rfl rfl (by omega) (by decide) dL_told_8 (fun H locs hP hD hS => ?_)
  have hP : va_P (dC, dI) vwCl [(o, .inr (3, [.ref sp, .ref h, .ref cn, .int zs, .int rq, .int ti, .int ct, .int gv, .int bh, .int bc, .int un])), (h, .inr (1, [.ref a1, .ref a2, .ref a3, .ref a4, .ref a5, .int (nI n)])), (a1, .inl (cJ, 32, .inr (.inl f1))), (a2, .inl (cI, 32, .inl f2)), (a3, .inl (cI, 32, .inl f3)), (a4, .inl (cI, 32, .inl f4)), (a5, .inl (cI, 32, .inl f5)), (cn, .inr (0, [.ref b1, .ref b2, .int (nI kc), .int (nI t)])), (b1, .inl (cJ, 64, .inr (.inl g1))), (b2, .inl (cI, 64, .inl g2)), (ou, .inl (cJ, 1, .inr (.inl (vp_updL ov 0 r_1.toInt64))))] H := hP
  have hD : va_D A [(o, .inr (3, [.ref sp, .ref h, .ref cn, .int zs, .int rq, .int ti, .int ct, .int gv, .int bh, .int bc, .int un])), (h, .inr (1, [.ref a1, .ref a2, .ref a3, .ref a4, .ref a5, .int (nI n)])), (a1, .inl (cJ, 32, .inr (.inl f1))), (a2, .inl (cI, 32, .inl f2)), (a3, .inl (cI, 32, .inl f3)), (a4, .inl (cI, 32, .inl f4)), (a5, .inl (cI, 32, .inl f5)), (cn, .inr (0, [.ref b1, .ref b2, .int (nI kc), .int (nI t)])), (b1, .inl (cJ, 64, .inr (.inl g1))), (b2, .inl (cI, 64, .inl g2)), (ou, .inl (cJ, 1, .inr (.inl (vp_updL ov 0 r_1.toInt64))))] := hD
  refine lv_goto (tgt := 15) hx hb dL_told_9 (by decide) ?_
  refine lv_iconst (v := 0) hx hb dL_told_15 (by decide) ?_
  refine ck_ir hx hb hr hlocks (Nat.le_of_ble_eq_true rfl) (Nat.le_of_ble_eq_true rfl) dL_told_16 (vp_updL ov 0 r_1.toInt64) hP hD hS ?_
  exact ⟨rfl, _, hw_1, rfl⟩
set_option maxRecDepth 20000 in
theorem k_L_told_kIAE : (.classLink RL 13 ck_IAE : Cond) ∈ wsL_told := by decide +kernel
set_option maxHeartbeats 4000000 in
set_option maxRecDepth 100000 in
theorem b_L_told (l : Launch) (dC : Nat → ClassId) (dI : Nat → Nat → Nat) (cI cJ cZ : ClassId) (lo sz : Nat) (o sp h cn : Nat) (zs rq ti ct gv bh bc un : Int32) (wh : Int32) (ou : Nat) (hst : l.stackTraces = false) (hbad : ¬ (0 ≤ wh ∧ wh ≤ 7)) : Met l yL_told wsL_told ({ frames := 7, cells := 1, slots := 6, locals := 111 } : Room) (va_Pc [.ref o, .int wh, .ref ou] (ck_P (dC, dI) [(cI, .int), (cJ, .long), (cZ, .boolean)] lo sz [(o, .inr (3, [.ref sp, .ref h, .ref cn, .int zs, .int rq, .int ti, .int ct, .int gv, .int bh, .int bc, .int un]))])) (va_Qi (fun (r : Int32) (u : Unit) => r = 1) (fun u => ck_B (dC, dI) vwCl (va_A [(o, .inr (3, [.ref sp, .ref h, .ref cn, .int zs, .int rq, .int ti, .int ct, .int gv, .int bh, .int bc, .int un]))] sz) ((fun u : Unit => ([(o, .inr (3, [.ref sp, .ref h, .ref cn, .int zs, .int rq, .int ti, .int ct, .int gv, .int bh, .int bc, .int un]))] : va_W)) u)) (va_A [(o, .inr (3, [.ref sp, .ref h, .ref cn, .int zs, .int rq, .int ti, .int ct, .int gv, .int bh, .int bc, .int un]))] sz)) 1 6 (va_A [(o, .inr (3, [.ref sp, .ref h, .ref cn, .int zs, .int rq, .int ti, .int ct, .int gv, .int bh, .int bc, .int un]))] sz) := by
  refine va_MetW (cc := cL_told) (maxL := 4) (ret := (some .int)) (hh := [(0, 9, 12, 13)]) (by decide) rfl ?_
  intro p e s m args below meth c s₁ B hml hv
  obtain ⟨rfl, hsz, hP, hK, hD0, hE⟩ := hv
  have hx := B.exec
  have hb := B.bytes
  have hr := B.returns
  have hts := atoms_spec (ws := wsL_told) B.pre
  have hown : s.vm.findClass RL = some m.cls := findClass_of_methodNamed B.named
  have hlocks := B.notSynchronized
  subst hsz
  have hD := hD0.self (sz := s.heap.size)
  have hlo := ck_lo (sz := s.heap.size) hD0 hE.1
  generalize hAe : va_A [(o, .inr (3, [.ref sp, .ref h, .ref cn, .int zs, .int rq, .int ti, .int ct, .int gv, .int bh, .int bc, .int un]))] s.heap.size = A at hD hlo ⊢
  have hA : ∀ q : Nat, s.heap.size ≤ q → A q := fun q h => by rw [← hAe]; exact Or.inr h
  have hG : ck_G (dC, dI) [(cI, .int), (cJ, .long), (cZ, .boolean)] lo A s := ⟨hK, hE, hA, hlo⟩
  have hS : va_S A s.heap s.heap [] := va_S.rf
  have hP : va_P (dC, dI) vwCl [(o, .inr (3, [.ref sp, .ref h, .ref cn, .int zs, .int rq, .int ti, .int ct, .int gv, .int bh, .int bc, .int un]))] s.heap := hP
  have hl := lv_entry ([.ref o, .int wh, .ref ou]) (n := 4) (Nat.le_of_ble_eq_true rfl)
  rw [lg_entry_eq]
  generalize (lg_sl ([.ref o, .int wh, .ref ou]) ++ List.replicate (4 - (lg_sl ([.ref o, .int wh, .ref ou])).length) Slot.unset).toArray = ls at hl ⊢
  have hl : lv_has ls 4 [(0, .ref o), (1, .int wh), (2, .ref ou)] := hl
  have htab := vx_table (x := objectInit) B (hts _ List.mem_cons_self)
  refine lv_aload_n hx hb dL_told_0 rfl (lv_at hl 2 rfl) ?_
  refine lv_iconst (v := 0) hx hb dL_told_1 (by decide) ?_
  refine lv_aload_n hx hb dL_told_2 rfl (lv_at hl 0 rfl) ?_
  refine lv_iload_n hx hb dL_told_3 rfl (lv_at hl 1 rfl) ?_
  refine ck_thr (vx_runV (As := [.int wh]) (rest := [.int 0, .ref ou]) ⟨hx, hb, hml, hown, hts⟩ (t_X3_told l dC dI cI cJ cZ lo _ o sp h cn zs rq ti ct gv bh bc un wh hst hbad) (cwV 1 hts gL_told_X3_told rfl rfl rfl (by decide +kernel) ⟨(Nat.le_of_ble_eq_true rfl), (Nat.le_of_ble_eq_true rfl)⟩) ⟨ck_blind, va_recv hK hP (ci := 3) (q0 := 0) rfl rfl, (ck_pre hG hP hD hS [0] rfl (by decide) _)⟩ rfl rfl hl.1 rfl (lv_room (Nat.le_of_ble_eq_true rfl)) dL_told_4 ⟨(Nat.le_of_ble_eq_true rfl), (Nat.le_of_ble_eq_true rfl)⟩) (fun ce q9 H1 hz hk hce hcv hcl => ?_)
  have hP := ck_keptP hP hk
  have hS := ck_keptS hS hz hk
  refine ck_catch (own := RL) (name := ck_IAE) (E := ck_IAE) hown ⟨0, 9, 12, 13⟩ htab (by decide) (by decide) (hts _ k_L_told_kIAE) (hE.2.2.1.1.use rfl) hce hcv hcl ?_
  refine W.widen (k := 1) (n := 6) (by decide) (by decide) ?_
  refine lv_astore_n (lv' := [(3, .ref q9), (0, .ref o), (1, .int wh), (2, .ref ou)]) hx hb dL_told_12 rfl hl (by decide) rfl (fun ls hl => ?_)
  refine lv_iconst (v := 1) hx hb dL_told_13 (by decide) ?_
  subst_vars
  refine ck_ir hx hb hr hlocks (Nat.le_of_ble_eq_true rfl) (Nat.le_of_ble_eq_true rfl) dL_told_14 () hP hD hS ?_
  exact rfl
