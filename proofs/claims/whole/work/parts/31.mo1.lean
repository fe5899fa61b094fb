/-! the model -/
def ck_mfd (n : Nat) (p1 p2 : Nat → Int32) (a b r : Int32) : Prop := (r = -1 ∧ ∀ i, i < n → ¬ (p1 i = a ∧ p2 i = b)) ∨ ∃ j, j < n ∧ r = nI j ∧ p1 j = a ∧ p2 j = b
def ck_mck (k l : Int64) (a b num kd sl : Int32) : Int32 :=
  (((sl - sl / 32 * 32) <<< ((27 : Int32) &&& 31)) ||| (kd <<< ((24 : Int32) &&& 31))) ||| ((ck_sip k l ((a.toInt64 <<< ((32 : Int32).toInt64 &&& 63)) ||| (num.toInt64 &&& 4294967295)) ((b.toInt64 + 65536 * kd.toInt64) + 1048576 * sl.toInt64)) &&& 16777215).toInt32
def ck_cnt : Nat → (Nat → Int32) → Nat
  | 0, _ => 0
  | n + 1, f => if f n = 0 then ck_cnt n f + 1 else ck_cnt n f
theorem ck_cntS (n : Nat) (f : Nat → Int32) : ck_cnt (n + 1) f = if f n = 0 then ck_cnt n f + 1 else ck_cnt n f := rfl
theorem ck_cnt_le (n : Nat) (f : Nat → Int32) : ck_cnt n f ≤ n := by
  induction n with
  | zero => exact Nat.le_refl _
  | succ n ih => rw [ck_cntS]; split <;> omega
def ck_pok (b : Int32) : Prop := 0 ≤ b ∧ b ≤ 65535
def ck_M (p1 p2 p3 p4 p5 p6 : Nat → Int32) : Nat → ck_R5 := fun q => (ck_clr (p1 q) (p2 q), p3 q, p4 q, p5 q, p6 q)
theorem ck_shfM {p1 p2 p3 p4 p5 p6 z1 z2 z3 z4 z5 z6 : Nat → Int32} {j i : Nat} (h1 : ck_shf p1 z1 j i) (h2 : ck_shf p2 z2 j i) (h3 : ck_shf p3 z3 j i) (h4 : ck_shf p4 z4 j i) (h5 : ck_shf p5 z5 j i) (h6 : ck_shf p6 z6 j i) : ck_shf (ck_M p1 p2 p3 p4 p5 p6) (ck_M z1 z2 z3 z4 z5 z6) j i := by
  intro q
  simp only [ck_M, h1 q, h2 q, h3 q, h4 q, h5 q, h6 q]
  split <;> rfl
theorem ck_addM (p1 p2 p3 p4 p5 p6 : Nat → Int32) (n : Nat) (a b d e f g : Int32) : ck_L (n + 1) (ck_M (upd p1 n a) (upd p2 n b) (upd p3 n d) (upd p4 n e) (upd p5 n f) (upd p6 n g)) = ck_L n (ck_M p1 p2 p3 p4 p5 p6) ++ [(ck_clr a b, d, e, f, g)] := by
  have h1 : ck_L n (ck_M (upd p1 n a) (upd p2 n b) (upd p3 n d) (upd p4 n e) (upd p5 n f) (upd p6 n g)) = ck_L n (ck_M p1 p2 p3 p4 p5 p6) := ck_L_congr fun q hq => by
    have hne : ¬ q = n := by omega
    simp only [ck_M, upd, if_neg hne]
  have h2 : ck_M (upd p1 n a) (upd p2 n b) (upd p3 n d) (upd p4 n e) (upd p5 n f) (upd p6 n g) n = (ck_clr a b, d, e, f, g) := by simp only [ck_M, upd, if_true]
  rw [ck_L_S, h1, h2]
theorem ck_pok_shf {p z : Nat → Int32} {n j : Nat} (h : ck_shf p z j n) (hp : ∀ i, i < n + 1 → ck_pok (p i)) : ∀ i, i < n → ck_pok (z i) := by
  intro i hi
  rw [h i]
  split
  · exact hp _ (by omega)
  · exact hp _ (by omega)
theorem ck_pok_add {p : Nat → Int32} {n : Nat} {b : Int32} (hp : ∀ i, i < n → ck_pok (p i)) (hb : ck_pok b) : ∀ i, i < n + 1 → ck_pok (upd p n b i) := by
  intro i hi
  unfold upd
  split
  · exact hb
  · exact hp _ (by omega)
def ck_mlf (n : Nat) (G : Nat → ck_R5) (p1 p2 : Nat → Int32) (a b num : Int32) (n1 : Nat) (G1 : Nat → ck_R5) : Prop :=
  ((∀ i, i < n → ¬ (p1 i = a ∧ p2 i = b)) ∧ n1 = n ∧ G1 = G) ∨ ∃ j, j < n ∧ p1 j = a ∧ p2 j = b ∧ (G j).2.1 ≠ num ∧ n = n1 + 1 ∧ ck_gone n1 G G1 j
def ck_mst (n : Nat) (p1 p2 : Nat → Int32) (kc : Nat) (t1 t2 t4 : Nat → Int32) (a b r : Int32) : Prop :=
  (∃ j, j < kc ∧ t1 j = a ∧ t2 j = b ∧ ((¬ t4 j = 0 ∧ r = 3) ∨ (t4 j = 0 ∧ r = 2))) ∨ ((∀ i, i < kc → ¬ (t1 i = a ∧ t2 i = b)) ∧ (((∃ j, j < n ∧ p1 j = a ∧ p2 j = b) ∧ r = 1) ∨ ((∀ i, i < n → ¬ (p1 i = a ∧ p2 i = b)) ∧ r = 0)))
set_option maxHeartbeats 4000000 in
set_option maxRecDepth 100000 in
theorem c_X4_turned (l : Launch) (dC : Nat → ClassId) (dI : Nat → Nat → Nat) (cI cJ cZ : ClassId) (lo sz : Nat) (w : Int64) (b : Int32) : Met l yX4_turned wsX4_turned ({ frames := 0, cells := 0, slots := 0, locals := 0 } : Room) (va_Pc [.long w, .int b] (ck_P (dC, dI) [(cI, .int), (cJ, .long), (cZ, .boolean)] lo sz [])) (vp_Sl (fun (r : Int64) => r = ck_rot w b)) 0 0 (fun _ => False) := by
  refine Met.ofW (cc := cX4_turned) (maxL := 3) (ret := (some .long)) (by decide) rfl ?_
  intro p e s m args below meth c s₁ B hml hv
  obtain ⟨rfl, hsz, hP, hK, hD0, hE⟩ := hv
  have hx := B.exec
  have hb := B.bytes
  have hr := B.returns
  have hts := atoms_spec (ws := wsX4_turned) B.pre
  have hown : s.vm.findClass RX4 = some m.cls := findClass_of_methodNamed B.named
  have hlocks := B.notSynchronized
  subst hsz
  have hD := hD0.self (sz := s.heap.size)
  have hlo := ck_lo (sz := s.heap.size) hD0 hE.1
  generalize hAe : va_A [] s.heap.size = A at hD hlo
  have hA : ∀ q : Nat, s.heap.size ≤ q → A q := fun q h => by rw [← hAe]; exact Or.inr h
  have hG : ck_G (dC, dI) [(cI, .int), (cJ, .long), (cZ, .boolean)] lo A s := ⟨hK, hE, hA, hlo⟩
  have hS : va_S A s.heap s.heap [] := va_S.rf
  have hP : va_P (dC, dI) vwCl [] s.heap := hP
  have hl := lv_entry ([.long w, .int b]) (n := 3) (Nat.le_of_ble_eq_true rfl)
  rw [lg_entry_eq]
  generalize (lg_sl ([.long w, .int b]) ++ List.replicate (3 - (lg_sl ([.long w, .int b])).length) Slot.unset).toArray = ls at hl ⊢
  have hl : lv_has ls 3 [(0, .long w), (2, .int b)] := hl
  refine lv_lload_n hx hb dX4_turned_0 rfl (lv_at hl 0 rfl) ?_
  refine lv_iload_n hx hb dX4_turned_1 rfl (lv_at hl 1 rfl) ?_
  refine lv_lshl hx hb dX4_turned_2 rfl ?_
  refine lv_lload_n hx hb dX4_turned_3 rfl (lv_at hl 0 rfl) ?_
  refine lv_bipush (v := 64) hx hb dX4_turned_4 (by decide) ?_
  refine lv_iload_n hx hb dX4_turned_6 rfl (lv_at hl 1 rfl) ?_
  refine lv_isub hx hb dX4_turned_7 ?_
  refine lv_lushr hx hb dX4_turned_8 rfl ?_
  refine lv_lor hx hb dX4_turned_9 ?_
  refine ck_lq hx hb hr hlocks dX4_turned_10 ?_
  exact rfl
set_option maxRecDepth 20000 in
theorem k_X4_thrown_f54 : (.fieldLink RX4 54 "CookieListenerModel" "thrown" "I" : Cond) ∈ wsX4_thrown := by decide +kernel
set_option maxRecDepth 20000 in
theorem k_X4_thrown_in4 : ∀ w ∈ u_ws RX4 TX4 24, w ∈ wsX4_thrown := by decide +kernel
set_option maxHeartbeats 4000000 in
set_option maxRecDepth 100000 in
theorem c_X4_thrown (l : Launch) (dC : Nat → ClassId) (dI : Nat → Nat → Nat) (cI cJ cZ : ClassId) (lo sz : Nat) (mo : Nat) (th zs rq : Int32) (k l0 : Int64) (ti ct : Int32) (n : Nat) (d1 d2 d3 d4 d5 d6 : Nat) (kc : Nat) (e1 e2 e3 e4 e5 : Nat) (v0 v1 v2 v3 : Int64) : Met l yX4_thrown wsX4_thrown ({ frames := 0, cells := 0, slots := 0, locals := 0 } : Room) (va_Pc [.ref mo] (ck_P (dC, dI) [(cI, .int), (cJ, .long), (cZ, .boolean)] lo sz [(mo, .inr (4, [.int th, .int zs, .int rq, .long k, .long l0, .int ti, .int ct, .int (nI n), .ref d1, .ref d2, .ref d3, .ref d4, .ref d5, .ref d6, .int (nI kc), .ref e1, .ref e2, .ref e3, .ref e4, .ref e5, .long v0, .long v1, .long v2, .long v3]))])) (vp_Si (fun (r : Int32) => r = th)) 0 0 (fun _ => False) := by
  refine Met.ofW (cc := cX4_thrown) (maxL := 1) (ret := (some .int)) (by decide) rfl ?_
  intro p e s m args below meth c s₁ B hml hv
  obtain ⟨rfl, hsz, hP, hK, hD0, hE⟩ := hv
  have hx := B.exec
  have hb := B.bytes
  have hr := B.returns
  have hts := atoms_spec (ws := wsX4_thrown) B.pre
  have hown : s.vm.findClass RX4 = some m.cls := findClass_of_methodNamed B.named
  have hlocks := B.notSynchronized
  subst hsz
  have hD := hD0.self (sz := s.heap.size)
  have hlo := ck_lo (sz := s.heap.size) hD0 hE.1
  generalize hAe : va_A [(mo, .inr (4, [.int th, .int zs, .int rq, .long k, .long l0, .int ti, .int ct, .int (nI n), .ref d1, .ref d2, .ref d3, .ref d4, .ref d5, .ref d6, .int (nI kc), .ref e1, .ref e2, .ref e3, .ref e4, .ref e5, .long v0, .long v1, .long v2, .long v3]))] s.heap.size = A at hD hlo
  have hA : ∀ q : Nat, s.heap.size ≤ q → A q := fun q h => by rw [← hAe]; exact Or.inr h
  have hG : ck_G (dC, dI) [(cI, .int), (cJ, .long), (cZ, .boolean)] lo A s := ⟨hK, hE, hA, hlo⟩
  have hS : va_S A s.heap s.heap [] := va_S.rf
  have hP : va_P (dC, dI) vwCl [(mo, .inr (4, [.int th, .int zs, .int rq, .long k, .long l0, .int ti, .int ct, .int (nI n), .ref d1, .ref d2, .ref d3, .ref d4, .ref d5, .ref d6, .int (nI kc), .ref e1, .ref e2, .ref e3, .ref e4, .ref e5, .long v0, .long v1, .long v2, .long v3]))] s.heap := hP
  have hl := lv_entry ([.ref mo]) (n := 1) (Nat.le_of_ble_eq_true rfl)
  rw [lg_entry_eq]
  generalize (lg_sl ([.ref mo]) ++ List.replicate (1 - (lg_sl ([.ref mo])).length) Slot.unset).toArray = ls at hl ⊢
  have hl : lv_has ls 1 [(0, .ref mo)] := hl
  refine lv_aload_n hx hb dX4_thrown_0 rfl (lv_at hl 0 rfl) ?_
  refine va_get (D := (dC, dI)) (ci := 4) (v := .int th) (C := RX4) (T := TX4) (N := 24) hx hb hts (k_X4_thrown_in4) hown hK hP 0 rfl rfl 0 (by decide) (hts _ k_X4_thrown_f54) (fun _ h9 => h9) rfl dX4_thrown_1 ?_
  refine ck_iq hx hb hr hlocks dX4_thrown_4 ?_
  exact rfl
set_option maxRecDepth 20000 in
theorem k_X4_init_l1 : (.methodLink RX4 1 objectInit : Cond) ∈ wsX4_init := by decide +kernel
set_option maxRecDepth 20000 in
theorem k_X4_init_mObj : (.instanceMethod objectInit : Cond) ∈ wsX4_init := by decide +kernel
set_option maxRecDepth 20000 in
theorem k_X4_init_cObj : (.code objectInit ⟨#[0xb1]⟩ 1 none : Cond) ∈ wsX4_init := by decide +kernel
set_option maxRecDepth 20000 in
theorem k_X4_init_f7 : (.fieldLink RX4 7 "CookieListenerModel" "size" "I" : Cond) ∈ wsX4_init := by decide +kernel
set_option maxRecDepth 20000 in
theorem k_X4_init_in4 : ∀ w ∈ u_ws RX4 TX4 24, w ∈ wsX4_init := by decide +kernel
set_option maxRecDepth 20000 in
theorem k_X4_init_f13 : (.fieldLink RX4 13 "CookieListenerModel" "room" "I" : Cond) ∈ wsX4_init := by decide +kernel
set_option maxRecDepth 20000 in
theorem k_X4_init_f16 : (.fieldLink RX4 16 "CookieListenerModel" "cookiesTime" "I" : Cond) ∈ wsX4_init := by decide +kernel
set_option maxRecDepth 20000 in
theorem k_X4_init_aint : (.arrayClass .int : Cond) ∈ wsX4_init := by decide +kernel
set_option maxRecDepth 20000 in
theorem k_X4_init_f19 : (.fieldLink RX4 19 "CookieListenerModel" "halfAddress" "[I" : Cond) ∈ wsX4_init := by decide +kernel
set_option maxRecDepth 20000 in
theorem k_X4_init_f23 : (.fieldLink RX4 23 "CookieListenerModel" "halfPort" "[I" : Cond) ∈ wsX4_init := by decide +kernel
set_option maxRecDepth 20000 in
theorem k_X4_init_f26 : (.fieldLink RX4 26 "CookieListenerModel" "halfNumber" "[I" : Cond) ∈ wsX4_init := by decide +kernel
set_option maxRecDepth 20000 in
theorem k_X4_init_f29 : (.fieldLink RX4 29 "CookieListenerModel" "halfOwn" "[I" : Cond) ∈ wsX4_init := by decide +kernel
set_option maxRecDepth 20000 in
theorem k_X4_init_f32 : (.fieldLink RX4 32 "CookieListenerModel" "halfKind" "[I" : Cond) ∈ wsX4_init := by decide +kernel
set_option maxRecDepth 20000 in
theorem k_X4_init_f35 : (.fieldLink RX4 35 "CookieListenerModel" "halfTime" "[I" : Cond) ∈ wsX4_init := by decide +kernel
set_option maxRecDepth 20000 in
theorem k_X4_init_f38 : (.fieldLink RX4 38 "CookieListenerModel" "openAddress" "[I" : Cond) ∈ wsX4_init := by decide +kernel
set_option maxRecDepth 20000 in
theorem k_X4_init_f41 : (.fieldLink RX4 41 "CookieListenerModel" "openPort" "[I" : Cond) ∈ wsX4_init := by decide +kernel
set_option maxRecDepth 20000 in
theorem k_X4_init_f44 : (.fieldLink RX4 44 "CookieListenerModel" "openKind" "[I" : Cond) ∈ wsX4_init := by decide +kernel
set_option maxRecDepth 20000 in
theorem k_X4_init_aboolean : (.arrayClass .boolean : Cond) ∈ wsX4_init := by decide +kernel
set_option maxRecDepth 20000 in
theorem k_X4_init_f47 : (.fieldLink RX4 47 "CookieListenerModel" "taken" "[Z" : Cond) ∈ wsX4_init := by decide +kernel
set_option maxRecDepth 20000 in
theorem k_X4_init_f51 : (.fieldLink RX4 51 "CookieListenerModel" "counts" "[I" : Cond) ∈ wsX4_init := by decide +kernel
set_option maxHeartbeats 4000000 in
set_option maxRecDepth 100000 in
theorem c_X4_init (l : Launch) (dC : Nat → ClassId) (dI : Nat → Nat → Nat) (cI cJ cZ : ClassId) (lo sz : Nat) (mo : Nat) : Met l yX4_init wsX4_init ({ frames := 1, cells := 11, slots := 452, locals := 12 } : Room) (va_Pc [.ref mo] (ck_P (dC, dI) [(cI, .int), (cJ, .long), (cZ, .boolean)] lo sz [(mo, .inr (4, [.int 0, .int 0, .int 0, .long 0, .long 0, .int 0, .int 0, .int (nI 0), .null, .null, .null, .null, .null, .null, .int (nI 0), .null, .null, .null, .null, .null, .long 0, .long 0, .long 0, .long 0]))])) (va_Qv (fun (u : Nat × Nat × Nat × Nat × Nat × Nat × Nat × Nat × Nat × Nat × Nat) => True) (fun u => ck_B (dC, dI) vwCl (va_A [(mo, .inr (4, [.int 0, .int 0, .int 0, .long 0, .long 0, .int 0, .int 0, .int (nI 0), .null, .null, .null, .null, .null, .null, .int (nI 0), .null, .null, .null, .null, .null, .long 0, .long 0, .long 0, .long 0]))] sz) ((fun u : Nat × Nat × Nat × Nat × Nat × Nat × Nat × Nat × Nat × Nat × Nat => ([(mo, .inr (4, [.int 0, .int 4, .int 2, .long 0, .long 0, .int 0, .int (-1), .int (nI 0), .ref u.1, .ref u.2.1, .ref u.2.2.1, .ref u.2.2.2.1, .ref u.2.2.2.2.1, .ref u.2.2.2.2.2.1, .int (nI 0), .ref u.2.2.2.2.2.2.1, .ref u.2.2.2.2.2.2.2.1, .ref u.2.2.2.2.2.2.2.2.1, .ref u.2.2.2.2.2.2.2.2.2.1, .ref u.2.2.2.2.2.2.2.2.2.2, .long 0, .long 0, .long 0, .long 0])), (u.1, .inl (cI, 32, .inl (fun _ => 0))), (u.2.1, .inl (cI, 32, .inl (fun _ => 0))), (u.2.2.1, .inl (cI, 32, .inl (fun _ => 0))), (u.2.2.2.1, .inl (cI, 32, .inl (fun _ => 0))), (u.2.2.2.2.1, .inl (cI, 32, .inl (fun _ => 0))), (u.2.2.2.2.2.1, .inl (cI, 32, .inl (fun _ => 0))), (u.2.2.2.2.2.2.1, .inl (cI, 64, .inl (fun _ => 0))), (u.2.2.2.2.2.2.2.1, .inl (cI, 64, .inl (fun _ => 0))), (u.2.2.2.2.2.2.2.2.1, .inl (cI, 64, .inl (fun _ => 0))), (u.2.2.2.2.2.2.2.2.2.1, .inl (cZ, 64, .inl (fun _ => 0))), (u.2.2.2.2.2.2.2.2.2.2, .inl (cI, 4, .inl (fun _ => 0)))] : va_W)) u)) (va_A [(mo, .inr (4, [.int 0, .int 0, .int 0, .long 0, .long 0, .int 0, .int 0, .int (nI 0), .null, .null, .null, .null, .null, .null, .int (nI 0), .null, .null, .null, .null, .null, .long 0, .long 0, .long 0, .long 0]))] sz)) 11 452 (va_A [(mo, .inr (4, [.int 0, .int 0, .int 0, .long 0, .long 0, .int 0, .int 0, .int (nI 0), .null, .null, .null, .null, .null, .null, .int (nI 0), .null, .null, .null, .null, .null, .long 0, .long 0, .long 0, .long 0]))] sz) := by
  refine Met.ofW (cc := cX4_init) (maxL := 1) (ret := none) (by decide) rfl ?_
  intro p e s m args below meth c s₁ B hml hv
  obtain ⟨rfl, hsz, hP, hK, hD0, hE⟩ := hv
  have hx := B.exec
  have hb := B.bytes
  have hr := B.returns
  have hts := atoms_spec (ws := wsX4_init) B.pre
  have hown : s.vm.findClass RX4 = some m.cls := findClass_of_methodNamed B.named
  have hlocks := B.notSynchronized
  have hin : meth.name = "<init>" := (name_of_methodNamed B.named B.method).1
  subst hsz
  have hD := hD0.self (sz := s.heap.size)
  have hlo := ck_lo (sz := s.heap.size) hD0 hE.1
  generalize hAe : va_A [(mo, .inr (4, [.int 0, .int 0, .int 0, .long 0, .long 0, .int 0, .int 0, .int (nI 0), .null, .null, .null, .null, .null, .null, .int (nI 0), .null, .null, .null, .null, .null, .long 0, .long 0, .long 0, .long 0]))] s.heap.size = A at hD hlo ⊢
  have hA : ∀ q : Nat, s.heap.size ≤ q → A q := fun q h => by rw [← hAe]; exact Or.inr h
  have hG : ck_G (dC, dI) [(cI, .int), (cJ, .long), (cZ, .boolean)] lo A s := ⟨hK, hE, hA, hlo⟩
  have hS : va_S A s.heap s.heap [] := va_S.rf
  have hP : va_P (dC, dI) vwCl [(mo, .inr (4, [.int 0, .int 0, .int 0, .long 0, .long 0, .int 0, .int 0, .int (nI 0), .null, .null, .null, .null, .null, .null, .int (nI 0), .null, .null, .null, .null, .null, .long 0, .long 0, .long 0, .long 0]))] s.heap := hP
  have hl := lv_entry ([.ref mo]) (n := 1) (Nat.le_of_ble_eq_true rfl)
  rw [lg_entry_eq]
  generalize (lg_sl ([.ref mo]) ++ List.replicate (1 - (lg_sl ([.ref mo])).length) Slot.unset).toArray = ls at hl ⊢
  have hl : lv_has ls 1 [(0, .ref mo)] := hl
  refine lv_aload_n hx hb dX4_init_0 rfl (lv_at hl 0 rfl) ?_
  refine W.objInit hx hb hown (hts _ k_X4_init_l1) (hts _ k_X4_init_mObj) (hts _ k_X4_init_cObj) rfl (by rw [hml]; exact hl.1) rfl dX4_init_1 (Nat.le_of_ble_eq_true rfl) (Nat.le_of_ble_eq_true rfl) ?_
  refine W.eq (g2 := F0 m 4 ls []) rfl ?_
  refine lv_aload_n hx hb dX4_init_4 rfl (lv_at hl 0 rfl) ?_
  refine lv_iconst (v := 4) hx hb dX4_init_5 (by decide) ?_
  refine va_put (D := (dC, dI)) (ci := 4) (v := .int 4) (ty := .int) (C := RX4) (T := TX4) (N := 24) hx hb hts (k_X4_init_in4) tyX4 tyX4_ok nmX4 hown hK hP hD hS 0 rfl rfl 1 (by decide) (hts _ k_X4_init_f7) (fun _ h9 => h9) rfl (by decide +kernel) rfl rfl (Nat.le_of_ble_eq_true rfl) dX4_init_6 (fun H locs hP hD hS => ?_)
  have hP : va_P (dC, dI) vwCl [(mo, .inr (4, [.int 0, .int 4, .int 0, .long 0, .long 0, .int 0, .int 0, .int (nI 0), .null, .null, .null, .null, .null, .null, .int (nI 0), .null, .null, .null, .null, .null, .long 0, .long 0, .long 0, .long 0]))] H := hP
  have hD : va_D A [(mo, .inr (4, [.int 0, .int 4, .int 0, .long 0, .long 0, .int 0, .int 0, .int (nI 0), .null, .null, .null, .null, .null, .null, .int (nI 0), .null, .null, .null, .null, .null, .long 0, .long 0, .long 0, .long 0]))] := hD
  refine lv_aload_n hx hb dX4_init_9 rfl (lv_at hl 0 rfl) ?_
  refine lv_iconst (v := 2) hx hb dX4_init_10 (by decide) ?_
  refine va_put (D := (dC, dI)) (ci := 4) (v := .int 2) (ty := .int) (C := RX4) (T := TX4) (N := 24) hx hb hts (k_X4_init_in4) tyX4 tyX4_ok nmX4 hown hK hP hD hS 0 rfl rfl 2 (by decide) (hts _ k_X4_init_f13) (fun _ h9 => h9) rfl (by decide +kernel) rfl rfl (Nat.le_of_ble_eq_true rfl) dX4_init_11 (fun H locs hP hD hS => ?_)
  have hP : va_P (dC, dI) vwCl [(mo, .inr (4, [.int 0, .int 4, .int 2, .long 0, .long 0, .int 0, .int 0, .int (nI 0), .null, .null, .null, .null, .null, .null, .int (nI 0), .null, .null, .null, .null, .null, .long 0, .long 0, .long 0, .long 0]))] H := hP
  have hD : va_D A [(mo, .inr (4, [.int 0, .int 4, .int 2, .long 0, .long 0, .int 0, .int 0, .int (nI 0), .null, .null, .null, .null, .null, .null, .int (nI 0), .null, .null, .null, .null, .null, .long 0, .long 0, .long 0, .long 0]))] := hD
  refine lv_aload_n hx hb dX4_init_14 rfl (lv_at hl 0 rfl) ?_
  refine lv_iconst (v := (-1)) hx hb dX4_init_15 (by decide) ?_
  refine va_put (D := (dC, dI)) (ci := 4) (v := .int (-1)) (ty := .int) (C := RX4) (T := TX4) (N := 24) hx hb hts (k_X4_init_in4) tyX4 tyX4_ok nmX4 hown hK hP hD hS 0 rfl rfl 6 (by decide) (hts _ k_X4_init_f16) (fun _ h9 => h9) rfl (by decide +kernel) rfl rfl (Nat.le_of_ble_eq_true rfl) dX4_init_16 (fun H locs hP hD hS => ?_)
  have hP : va_P (dC, dI) vwCl [(mo, .inr (4, [.int 0, .int 4, .int 2, .long 0, .long 0, .int 0, .int (-1), .int (nI 0), .null, .null, .null, .null, .null, .null, .int (nI 0), .null, .null, .null, .null, .null, .long 0, .long 0, .long 0, .long 0]))] H := hP
  have hD : va_D A [(mo, .inr (4, [.int 0, .int 4, .int 2, .long 0, .long 0, .int 0, .int (-1), .int (nI 0), .null, .null, .null, .null, .null, .null, .int (nI 0), .null, .null, .null, .null, .null, .long 0, .long 0, .long 0, .long 0]))] := hD
  refine lv_aload_n hx hb dX4_init_19 rfl (lv_at hl 0 rfl) ?_
  refine lv_bipush (v := 32) hx hb dX4_init_20 (by decide) ?_
  refine ck_newa (atype := .int) (ty := .int) (a0 := (32, .inl (fun _ => 0))) (N' := 32) hx hb (hts _ k_X4_init_aint) rfl (by intro C h; cases h) hK hP hD hS hA 0 rfl (fun _ => rfl) (by decide) (by decide) (by decide) (Nat.le_of_ble_eq_true rfl) (Nat.le_of_ble_eq_true rfl) dX4_init_22 (fun q_1 H hP hD hS => ?_)
  refine W.widen (k := 1) (n := 32) (by omega) (by omega) ?_
  have hP : va_P (dC, dI) vwCl [(mo, .inr (4, [.int 0, .int 4, .int 2, .long 0, .long 0, .int 0, .int (-1), .int (nI 0), .null, .null, .null, .null, .null, .null, .int (nI 0), .null, .null, .null, .null, .null, .long 0, .long 0, .long 0, .long 0])), (q_1, .inl (cI, 32, .inl (fun _ => 0)))] H := hP
  have hD : va_D A [(mo, .inr (4, [.int 0, .int 4, .int 2, .long 0, .long 0, .int 0, .int (-1), .int (nI 0), .null, .null, .null, .null, .null, .null, .int (nI 0), .null, .null, .null, .null, .null, .long 0, .long 0, .long 0, .long 0])), (q_1, .inl (cI, 32, .inl (fun _ => 0)))] := hD
  refine va_putF (D := (dC, dI)) (ci := 4) (v := .ref q_1) (ty := .array .int) (C := RX4) (T := TX4) (N := 24) hx hb hts (k_X4_init_in4) tyX4 tyX4_ok nmX4 hown hK hP hD hS 0 rfl rfl 8 (by decide) (hts _ k_X4_init_f19) (fun _ h9 => h9) rfl hin rfl (by decide +kernel) rfl rfl (Nat.le_of_ble_eq_true rfl) dX4_init_24 (fun H locs hP hD hS => ?_)
  have hP : va_P (dC, dI) vwCl [(mo, .inr (4, [.int 0, .int 4, .int 2, .long 0, .long 0, .int 0, .int (-1), .int (nI 0), .ref q_1, .null, .null, .null, .null, .null, .int (nI 0), .null, .null, .null, .null, .null, .long 0, .long 0, .long 0, .long 0])), (q_1, .inl (cI, 32, .inl (fun _ => 0)))] H := hP
  have hD : va_D A [(mo, .inr (4, [.int 0, .int 4, .int 2, .long 0, .long 0, .int 0, .int (-1), .int (nI 0), .ref q_1, .null, .null, .null, .null, .null, .int (nI 0), .null, .null, .null, .null, .null, .long 0, .long 0, .long 0, .long 0])), (q_1, .inl (cI, 32, .inl (fun _ => 0)))] := hD
  refine lv_aload_n hx hb dX4_init_27 rfl (lv_at hl 0 rfl) ?_
  refine lv_bipush (v := 32) hx hb dX4_init_28 (by decide) ?_
  refine ck_newa (atype := .int) (ty := .int) (a0 := (32, .inl (fun _ => 0))) (N' := 32) hx hb (hts _ k_X4_init_aint) rfl (by intro C h; cases h) hK hP hD hS hA 0 rfl (fun _ => rfl) (by decide) (by decide) (by decide) (Nat.le_of_ble_eq_true rfl) (Nat.le_of_ble_eq_true rfl) dX4_init_30 (fun q_2 H hP hD hS => ?_)
  refine W.widen (k := 2) (n := 64) (by omega) (by omega) ?_
  have hP : va_P (dC, dI) vwCl [(mo, .inr (4, [.int 0, .int 4, .int 2, .long 0, .long 0, .int 0, .int (-1), .int (nI 0), .ref q_1, .null, .null, .null, .null, .null, .int (nI 0), .null, .null, .null, .null, .null, .long 0, .long 0, .long 0, .long 0])), (q_1, .inl (cI, 32, .inl (fun _ => 0))), (q_2, .inl (cI, 32, .inl (fun _ => 0)))] H := hP
  have hD : va_D A [(mo, .inr (4, [.int 0, .int 4, .int 2, .long 0, .long 0, .int 0, .int (-1), .int (nI 0), .ref q_1, .null, .null, .null, .null, .null, .int (nI 0), .null, .null, .null, .null, .null, .long 0, .long 0, .long 0, .long 0])), (q_1, .inl (cI, 32, .inl (fun _ => 0))), (q_2, .inl (cI, 32, .inl (fun _ => 0)))] := hD
  refine va_putF (D := (dC, dI)) (ci := 4) (v := .ref q_2) (ty := .array .int) (C := RX4) (T := TX4) (N := 24) hx hb hts (k_X4_init_in4) tyX4 tyX4_ok nmX4 hown hK hP hD hS 0 rfl rfl 9 (by decide) (hts _ k_X4_init_f23) (fun _ h9 => h9) rfl hin rfl (by decide +kernel) rfl rfl (Nat.le_of_ble_eq_true rfl) dX4_init_32 (fun H locs hP hD hS => ?_)
  have hP : va_P (dC, dI) vwCl [(mo, .inr (4, [.int 0, .int 4, .int 2, .long 0, .long 0, .int 0, .int (-1), .int (nI 0), .ref q_1, .ref q_2, .null, .null, .null, .null, .int (nI 0), .null, .null, .null, .null, .null, .long 0, .long 0, .long 0, .long 0])), (q_1, .inl (cI, 32, .inl (fun _ => 0))), (q_2, .inl (cI, 32, .inl (fun _ => 0)))] H := hP
  have hD : va_D A [(mo, .inr (4, [.int 0, .int 4, .int 2, .long 0, .long 0, .int 0, .int (-1), .int (nI 0), .ref q_1, .ref q_2, .null, .null, .null, .null, .int (nI 0), .null, .null, .null, .null, .null, .long 0, .long 0, .long 0, .long 0])), (q_1, .inl (cI, 32, .inl (fun _ => 0))), (q_2, .inl (cI, 32, .inl (fun _ => 0)))] := hD
  refine lv_aload_n hx hb dX4_init_35 rfl (lv_at hl 0 rfl) ?_
  refine lv_bipush (v := 32) hx hb dX4_init_36 (by decide) ?_
  refine ck_newa (atype := .int) (ty := .int) (a0 := (32, .inl (fun _ => 0))) (N' := 32) hx hb (hts _ k_X4_init_aint) rfl (by intro C h; cases h) hK hP hD hS hA 0 rfl (fun _ => rfl) (by decide) (by decide) (by decide) (Nat.le_of_ble_eq_true rfl) (Nat.le_of_ble_eq_true rfl) dX4_init_38 (fun q_3 H hP hD hS => ?_)
  refine W.widen (k := 3) (n := 96) (by omega) (by omega) ?_
  have hP : va_P (dC, dI) vwCl [(mo, .inr (4, [.int 0, .int 4, .int 2, .long 0, .long 0, .int 0, .int (-1), .int (nI 0), .ref q_1, .ref q_2, .null, .null, .null, .null, .int (nI 0), .null, .null, .null, .null, .null, .long 0, .long 0, .long 0, .long 0])), (q_1, .inl (cI, 32, .inl (fun _ => 0))), (q_2, .inl (cI, 32, .inl (fun _ => 0))), (q_3, .inl (cI, 32, .inl (fun _ => 0)))] H := hP
  have hD : va_D A [(mo, .inr (4, [.int 0, .int 4, .int 2, .long 0, .long 0, .int 0, .int (-1), .int (nI 0), .ref q_1, .ref q_2, .null, .null, .null, .null, .int (nI 0), .null, .null, .null, .null, .null, .long 0, .long 0, .long 0, .long 0])), (q_1, .inl (cI, 32, .inl (fun _ => 0))), (q_2, .inl (cI, 32, .inl (fun _ => 0))), (q_3, .inl (cI, 32, .inl (fun _ => 0)))] := hD
  refine va_putF (D := (dC, dI)) (ci := 4) (v := .ref q_3) (ty := .array .int) (C := RX4) (T := TX4) (N := 24) hx hb hts (k_X4_init_in4) tyX4 tyX4_ok nmX4 hown hK hP hD hS 0 rfl rfl 10 (by decide) (hts _ k_X4_init_f26) (fun _ h9 => h9) rfl hin rfl (by decide +kernel) rfl rfl (Nat.le_of_ble_eq_true rfl) dX4_init_40 (fun H locs hP hD hS => ?_)
  have hP : va_P (dC, dI) vwCl [(mo, .inr (4, [.int 0, .int 4, .int 2, .long 0, .long 0, .int 0, .int (-1), .int (nI 0), .ref q_1, .ref q_2, .ref q_3, .null, .null, .null, .int (nI 0), .null, .null, .null, .null, .null, .long 0, .long 0, .long 0, .long 0])), (q_1, .inl (cI, 32, .inl (fun _ => 0))), (q_2, .inl (cI, 32, .inl (fun _ => 0))), (q_3, .inl (cI, 32, .inl (fun _ => 0)))] H := hP
  have hD : va_D A [(mo, .inr (4, [.int 0, .int 4, .int 2, .long 0, .long 0, .int 0, .int (-1), .int (nI 0), .ref q_1, .ref q_2, .ref q_3, .null, .null, .null, .int (nI 0), .null, .null, .null, .null, .null, .long 0, .long 0, .long 0, .long 0])), (q_1, .inl (cI, 32, .inl (fun _ => 0))), (q_2, .inl (cI, 32, .inl (fun _ => 0))), (q_3, .inl (cI, 32, .inl (fun _ => 0)))] := hD
  refine lv_aload_n hx hb dX4_init_43 rfl (lv_at hl 0 rfl) ?_
  refine lv_bipush (v := 32) hx hb dX4_init_44 (by decide) ?_
  refine ck_newa (atype := .int) (ty := .int) (a0 := (32, .inl (fun _ => 0))) (N' := 32) hx hb (hts _ k_X4_init_aint) rfl (by intro C h; cases h) hK hP hD hS hA 0 rfl (fun _ => rfl) (by decide) (by decide) (by decide) (Nat.le_of_ble_eq_true rfl) (Nat.le_of_ble_eq_true rfl) dX4_init_46 (fun q_4 H hP hD hS => ?_)
  refine W.widen (k := 4) (n := 128) (by omega) (by omega) ?_
  have hP : va_P (dC, dI) vwCl [(mo, .inr (4, [.int 0, .int 4, .int 2, .long 0, .long 0, .int 0, .int (-1), .int (nI 0), .ref q_1, .ref q_2, .ref q_3, .null, .null, .null, .int (nI 0), .null, .null, .null, .null, .null, .long 0, .long 0, .long 0, .long 0])), (q_1, .inl (cI, 32, .inl (fun _ => 0))), (q_2, .inl (cI, 32, .inl (fun _ => 0))), (q_3, .inl (cI, 32, .inl (fun _ => 0))), (q_4, .inl (cI, 32, .inl (fun _ => 0)))] H := hP
  have hD : va_D A [(mo, .inr (4, [.int 0, .int 4, .int 2, .long 0, .long 0, .int 0, .int (-1), .int (nI 0), .ref q_1, .ref q_2, .ref q_3, .null, .null, .null, .int (nI 0), .null, .null, .null, .null, .null, .long 0, .long 0, .long 0, .long 0])), (q_1, .inl (cI, 32, .inl (fun _ => 0))), (q_2, .inl (cI, 32, .inl (fun _ => 0))), (q_3, .inl (cI, 32, .inl (fun _ => 0))), (q_4, .inl (cI, 32, .inl (fun _ => 0)))] := hD
  refine va_putF (D := (dC, dI)) (ci := 4) (v := .ref q_4) (ty := .array .int) (C := RX4) (T := TX4) (N := 24) hx hb hts (k_X4_init_in4) tyX4 tyX4_ok nmX4 hown hK hP hD hS 0 rfl rfl 11 (by decide) (hts _ k_X4_init_f29) (fun _ h9 => h9) rfl hin rfl (by decide +kernel) rfl rfl (Nat.le_of_ble_eq_true rfl) dX4_init_48 (fun H locs hP hD hS => ?_)
  have hP : va_P (dC, dI) vwCl [(mo, .inr (4, [.int 0, .int 4, .int 2, .long 0, .long 0, .int 0, .int (-1), .int (nI 0), .ref q_1, .ref q_2, .ref q_3, .ref q_4, .null, .null, .int (nI 0), .null, .null, .null, .null, .null, .long 0, .long 0, .long 0, .long 0])), (q_1, .inl (cI, 32, .inl (fun _ => 0))), (q_2, .inl (cI, 32, .inl (fun _ => 0))), (q_3, .inl (cI, 32, .inl (fun _ => 0))), (q_4, .inl (cI, 32, .inl (fun _ => 0)))] H := hP
  have hD : va_D A [(mo, .inr (4, [.int 0, .int 4, .int 2, .long 0, .long 0, .int 0, .int (-1), .int (nI 0), .ref q_1, .ref q_2, .ref q_3, .ref q_4, .null, .null, .int (nI 0), .null, .null, .null, .null, .null, .long 0, .long 0, .long 0, .long 0])), (q_1, .inl (cI, 32, .inl (fun _ => 0))), (q_2, .inl (cI, 32, .inl (fun _ => 0))), (q_3, .inl (cI, 32, .inl (fun _ => 0))), (q_4, .inl (cI, 32, .inl (fun _ => 0)))] := hD
  refine lv_aload_n hx hb dX4_init_51 rfl (lv_at hl 0 rfl) ?_
  refine lv_bipush (v := 32) hx hb dX4_init_52 (by decide) ?_
  refine ck_newa (atype := .int) (ty := .int) (a0 := (32, .inl (fun _ => 0))) (N' := 32) hx hb (hts _ k_X4_init_aint) rfl (by intro C h; cases h) hK hP hD hS hA 0 rfl (fun _ => rfl) (by decide) (by decide) (by decide) (Nat.le_of_ble_eq_true rfl) (Nat.le_of_ble_eq_true rfl) dX4_init_54 (fun q_5 H hP hD hS => ?_)
  refine W.widen (k := 5) (n := 160) (by omega) (by omega) ?_
  have hP : va_P (dC, dI) vwCl [(mo, .inr (4, [.int 0, .int 4, .int 2, .long 0, .long 0, .int 0, .int (-1), .int (nI 0), .ref q_1, .ref q_2, .ref q_3, .ref q_4, .null, .null, .int (nI 0), .null, .null, .null, .null, .null, .long 0, .long 0, .long 0, .long 0])), (q_1, .inl (cI, 32, .inl (fun _ => 0))), (q_2, .inl (cI, 32, .inl (fun _ => 0))), (q_3, .inl (cI, 32, .inl (fun _ => 0))), (q_4, .inl (cI, 32, .inl (fun _ => 0))), (q_5, .inl (cI, 32, .inl (fun _ => 0)))] H := hP
  have hD : va_D A [(mo, .inr (4, [.int 0, .int 4, .int 2, .long 0, .long 0, .int 0, .int (-1), .int (nI 0), .ref q_1, .ref q_2, .ref q_3, .ref q_4, .null, .null, .int (nI 0), .null, .null, .null, .null, .null, .long 0, .long 0, .long 0, .long 0])), (q_1, .inl (cI, 32, .inl (fun _ => 0))), (q_2, .inl (cI, 32, .inl (fun _ => 0))), (q_3, .inl (cI, 32, .inl (fun _ => 0))), (q_4, .inl (cI, 32, .inl (fun _ => 0))), (q_5, .inl (cI, 32, .inl (fun _ => 0)))] := hD
  refine va_putF (D := (dC, dI)) (ci := 4) (v := .ref q_5) (ty := .array .int) (C := RX4) (T := TX4) (N := 24) hx hb hts (k_X4_init_in4) tyX4 tyX4_ok nmX4 hown hK hP hD hS 0 rfl rfl 12 (by decide) (hts _ k_X4_init_f32) (fun _ h9 => h9) rfl hin rfl (by decide +kernel) rfl rfl (Nat.le_of_ble_eq_true rfl) dX4_init_56 (fun H locs hP hD hS => ?_)
  have hP : va_P (dC, dI) vwCl [(mo, .inr (4, [.int 0, .int 4, .int 2, .long 0, .long 0, .int 0, .int (-1), .int (nI 0), .ref q_1, .ref q_2, .ref q_3, .ref q_4, .ref q_5, .null, .int (nI 0), .null, .null, .null, .null, .null, .long 0, .long 0, .long 0, .long 0])), (q_1, .inl (cI, 32, .inl (fun _ => 0))), (q_2, .inl (cI, 32, .inl (fun _ => 0))), (q_3, .inl (cI, 32, .inl (fun _ => 0))), (q_4, .inl (cI, 32, .inl (fun _ => 0))), (q_5, .inl (cI, 32, .inl (fun _ => 0)))] H := hP
  have hD : va_D A [(mo, .inr (4, [.int 0, .int 4, .int 2, .long 0, .long 0, .int 0, .int (-1), .int (nI 0), .ref q_1, .ref q_2, .ref q_3, .ref q_4, .ref q_5, .null, .int (nI 0), .null, .null, .null, .null, .null, .long 0, .long 0, .long 0, .long 0])), (q_1, .inl (cI, 32, .inl (fun _ => 0))), (q_2, .inl (cI, 32, .inl (fun _ => 0))), (q_3, .inl (cI, 32, .inl (fun _ => 0))), (q_4, .inl (cI, 32, .inl (fun _ => 0))), (q_5, .inl (cI, 32, .inl (fun _ => 0)))] := hD
  refine lv_aload_n hx hb dX4_init_59 rfl (lv_at hl 0 rfl) ?_
  refine lv_bipush (v := 32) hx hb dX4_init_60 (by decide) ?_
  refine ck_newa (atype := .int) (ty := .int) (a0 := (32, .inl (fun _ => 0))) (N' := 32) hx hb (hts _ k_X4_init_aint) rfl (by intro C h; cases h) hK hP hD hS hA 0 rfl (fun _ => rfl) (by decide) (by decide) (by decide) (Nat.le_of_ble_eq_true rfl) (Nat.le_of_ble_eq_true rfl) dX4_init_62 (fun q_6 H hP hD hS => ?_)
  refine W.widen (k := 6) (n := 192) (by omega) (by omega) ?_
  have hP : va_P (dC, dI) vwCl [(mo, .inr (4, [.int 0, .int 4, .int 2, .long 0, .long 0, .int 0, .int (-1), .int (nI 0), .ref q_1, .ref q_2, .ref q_3, .ref q_4, .ref q_5, .null, .int (nI 0), .null, .null, .null, .null, .null, .long 0, .long 0, .long 0, .long 0])), (q_1, .inl (cI, 32, .inl (fun _ => 0))), (q_2, .inl (cI, 32, .inl (fun _ => 0))), (q_3, .inl (cI, 32, .inl (fun _ => 0))), (q_4, .inl (cI, 32, .inl (fun _ => 0))), (q_5, .inl (cI, 32, .inl (fun _ => 0))), (q_6, .inl (cI, 32, .inl (fun _ => 0)))] H := hP
  have hD : va_D A [(mo, .inr (4, [.int 0, .int 4, .int 2, .long 0, .long 0, .int 0, .int (-1), .int (nI 0), .ref q_1, .ref q_2, .ref q_3, .ref q_4, .ref q_5, .null, .int (nI 0), .null, .null, .null, .null, .null, .long 0, .long 0, .long 0, .long 0])), (q_1, .inl (cI, 32, .inl (fun _ => 0))), (q_2, .inl (cI, 32, .inl (fun _ => 0))), (q_3, .inl (cI, 32, .inl (fun _ => 0))), (q_4, .inl (cI, 32, .inl (fun _ => 0))), (q_5, .inl (cI, 32, .inl (fun _ => 0))), (q_6, .inl (cI, 32, .inl (fun _ => 0)))] := hD
  refine va_putF (D := (dC, dI)) (ci := 4) (v := .ref q_6) (ty := .array .int) (C := RX4) (T := TX4) (N := 24) hx hb hts (k_X4_init_in4) tyX4 tyX4_ok nmX4 hown hK hP hD hS 0 rfl rfl 13 (by decide) (hts _ k_X4_init_f35) (fun _ h9 => h9) rfl hin rfl (by decide +kernel) rfl rfl (Nat.le_of_ble_eq_true rfl) dX4_init_64 (fun H locs hP hD hS => ?_)
  have hP : va_P (dC, dI) vwCl [(mo, .inr (4, [.int 0, .int 4, .int 2, .long 0, .long 0, .int 0, .int (-1), .int (nI 0), .ref q_1, .ref q_2, .ref q_3, .ref q_4, .ref q_5, .ref q_6, .int (nI 0), .null, .null, .null, .null, .null, .long 0, .long 0, .long 0, .long 0])), (q_1, .inl (cI, 32, .inl (fun _ => 0))), (q_2, .inl (cI, 32, .inl (fun _ => 0))), (q_3, .inl (cI, 32, .inl (fun _ => 0))), (q_4, .inl (cI, 32, .inl (fun _ => 0))), (q_5, .inl (cI, 32, .inl (fun _ => 0))), (q_6, .inl (cI, 32, .inl (fun _ => 0)))] H := hP
  have hD : va_D A [(mo, .inr (4, [.int 0, .int 4, .int 2, .long 0, .long 0, .int 0, .int (-1), .int (nI 0), .ref q_1, .ref q_2, .ref q_3, .ref q_4, .ref q_5, .ref q_6, .int (nI 0), .null, .null, .null, .null, .null, .long 0, .long 0, .long 0, .long 0])), (q_1, .inl (cI, 32, .inl (fun _ => 0))), (q_2, .inl (cI, 32, .inl (fun _ => 0))), (q_3, .inl (cI, 32, .inl (fun _ => 0))), (q_4, .inl (cI, 32, .inl (fun _ => 0))), (q_5, .inl (cI, 32, .inl (fun _ => 0))), (q_6, .inl (cI, 32, .inl (fun _ => 0)))] := hD
  refine lv_aload_n hx hb dX4_init_67 rfl (lv_at hl 0 rfl) ?_
  refine lv_bipush (v := 64) hx hb dX4_init_68 (by decide) ?_
  refine ck_newa (atype := .int) (ty := .int) (a0 := (64, .inl (fun _ => 0))) (N' := 64) hx hb (hts _ k_X4_init_aint) rfl (by intro C h; cases h) hK hP hD hS hA 0 rfl (fun _ => rfl) (by decide) (by decide) (by decide) (Nat.le_of_ble_eq_true rfl) (Nat.le_of_ble_eq_true rfl) dX4_init_70 (fun q_7 H hP hD hS => ?_)
  refine W.widen (k := 7) (n := 256) (by omega) (by omega) ?_
  have hP : va_P (dC, dI) vwCl [(mo, .inr (4, [.int 0, .int 4, .int 2, .long 0, .long 0, .int 0, .int (-1), .int (nI 0), .ref q_1, .ref q_2, .ref q_3, .ref q_4, .ref q_5, .ref q_6, .int (nI 0), .null, .null, .null, .null, .null, .long 0, .long 0, .long 0, .long 0])), (q_1, .inl (cI, 32, .inl (fun _ => 0))), (q_2, .inl (cI, 32, .inl (fun _ => 0))), (q_3, .inl (cI, 32, .inl (fun _ => 0))), (q_4, .inl (cI, 32, .inl (fun _ => 0))), (q_5, .inl (cI, 32, .inl (fun _ => 0))), (q_6, .inl (cI, 32, .inl (fun _ => 0))), (q_7, .inl (cI, 64, .inl (fun _ => 0)))] H := hP
  have hD : va_D A [(mo, .inr (4, [.int 0, .int 4, .int 2, .long 0, .long 0, .int 0, .int (-1), .int (nI 0), .ref q_1, .ref q_2, .ref q_3, .ref q_4, .ref q_5, .ref q_6, .int (nI 0), .null, .null, .null, .null, .null, .long 0, .long 0, .long 0, .long 0])), (q_1, .inl (cI, 32, .inl (fun _ => 0))), (q_2, .inl (cI, 32, .inl (fun _ => 0))), (q_3, .inl (cI, 32, .inl (fun _ => 0))), (q_4, .inl (cI, 32, .inl (fun _ => 0))), (q_5, .inl (cI, 32, .inl (fun _ => 0))), (q_6, .inl (cI, 32, .inl (fun _ => 0))), (q_7, .inl (cI, 64, .inl (fun _ => 0)))] := hD
  refine va_putF (D := (dC, dI)) (ci := 4) (v := .ref q_7) (ty := .array .int) (C := RX4) (T := TX4) (N := 24) hx hb hts (k_X4_init_in4) tyX4 tyX4_ok nmX4 hown hK hP hD hS 0 rfl rfl 15 (by decide) (hts _ k_X4_init_f38) (fun _ h9 => h9) rfl hin rfl (by decide +kernel) rfl rfl (Nat.le_of_ble_eq_true rfl) dX4_init_72 (fun H locs hP hD hS => ?_)
  have hP : va_P (dC, dI) vwCl [(mo, .inr (4, [.int 0, .int 4, .int 2, .long 0, .long 0, .int 0, .int (-1), .int (nI 0), .ref q_1, .ref q_2, .ref q_3, .ref q_4, .ref q_5, .ref q_6, .int (nI 0), .ref q_7, .null, .null, .null, .null, .long 0, .long 0, .long 0, .long 0])), (q_1, .inl (cI, 32, .inl (fun _ => 0))), (q_2, .inl (cI, 32, .inl (fun _ => 0))), (q_3, .inl (cI, 32, .inl (fun _ => 0))), (q_4, .inl (cI, 32, .inl (fun _ => 0))), (q_5, .inl (cI, 32, .inl (fun _ => 0))), (q_6, .inl (cI, 32, .inl (fun _ => 0))), (q_7, .inl (cI, 64, .inl (fun _ => 0)))] H := hP
  have hD : va_D A [(mo, .inr (4, [.int 0, .int 4, .int 2, .long 0, .long 0, .int 0, .int (-1), .int (nI 0), .ref q_1, .ref q_2, .ref q_3, .ref q_4, .ref q_5, .ref q_6, .int (nI 0), .ref q_7, .null, .null, .null, .null, .long 0, .long 0, .long 0, .long 0])), (q_1, .inl (cI, 32, .inl (fun _ => 0))), (q_2, .inl (cI, 32, .inl (fun _ => 0))), (q_3, .inl (cI, 32, .inl (fun _ => 0))), (q_4, .inl (cI, 32, .inl (fun _ => 0))), (q_5, .inl (cI, 32, .inl (fun _ => 0))), (q_6, .inl (cI, 32, .inl (fun _ => 0))), (q_7, .inl (cI, 64, .inl (fun _ => 0)))] := hD
  refine lv_aload_n hx hb dX4_init_75 rfl (lv_at hl 0 rfl) ?_
  refine lv_bipush (v := 64) hx hb dX4_init_76 (by decide) ?_
  refine ck_newa (atype := .int) (ty := .int) (a0 := (64, .inl (fun _ => 0))) (N' := 64) hx hb (hts _ k_X4_init_aint) rfl (by intro C h; cases h) hK hP hD hS hA 0 rfl (fun _ => rfl) (by decide) (by decide) (by decide) (Nat.le_of_ble_eq_true rfl) (Nat.le_of_ble_eq_true rfl) dX4_init_78 (fun q_8 H hP hD hS => ?_)
  refine W.widen (k := 8) (n := 320) (by omega) (by omega) ?_
  have hP : va_P (dC, dI) vwCl [(mo, .inr (4, [.int 0, .int 4, .int 2, .long 0, .long 0, .int 0, .int (-1), .int (nI 0), .ref q_1, .ref q_2, .ref q_3, .ref q_4, .ref q_5, .ref q_6, .int (nI 0), .ref q_7, .null, .null, .null, .null, .long 0, .long 0, .long 0, .long 0])), (q_1, .inl (cI, 32, .inl (fun _ => 0))), (q_2, .inl (cI, 32, .inl (fun _ => 0))), (q_3, .inl (cI, 32, .inl (fun _ => 0))), (q_4, .inl (cI, 32, .inl (fun _ => 0))), (q_5, .inl (cI, 32, .inl (fun _ => 0))), (q_6, .inl (cI, 32, .inl (fun _ => 0))), (q_7, .inl (cI, 64, .inl (fun _ => 0))), (q_8, .inl (cI, 64, .inl (fun _ => 0)))] H := hP
  have hD : va_D A [(mo, .inr (4, [.int 0, .int 4, .int 2, .long 0, .long 0, .int 0, .int (-1), .int (nI 0), .ref q_1, .ref q_2, .ref q_3, .ref q_4, .ref q_5, .ref q_6, .int (nI 0), .ref q_7, .null, .null, .null, .null, .long 0, .long 0, .long 0, .long 0])), (q_1, .inl (cI, 32, .inl (fun _ => 0))), (q_2, .inl (cI, 32, .inl (fun _ => 0))), (q_3, .inl (cI, 32, .inl (fun _ => 0))), (q_4, .inl (cI, 32, .inl (fun _ => 0))), (q_5, .inl (cI, 32, .inl (fun _ => 0))), (q_6, .inl (cI, 32, .inl (fun _ => 0))), (q_7, .inl (cI, 64, .inl (fun _ => 0))), (q_8, .inl (cI, 64, .inl (fun _ => 0)))] := hD
  refine va_putF (D := (dC, dI)) (ci := 4) (v := .ref q_8) (ty := .array .int) (C := RX4) (T := TX4) (N := 24) hx hb hts (k_X4_init_in4) tyX4 tyX4_ok nmX4 hown hK hP hD hS 0 rfl rfl 16 (by decide) (hts _ k_X4_init_f41) (fun _ h9 => h9) rfl hin rfl (by decide +kernel) rfl rfl (Nat.le_of_ble_eq_true rfl) dX4_init_80 (fun H locs hP hD hS => ?_)
  have hP : va_P (dC, dI) vwCl [(mo, .inr (4, [.int 0, .int 4, .int 2, .long 0, .long 0, .int 0, .int (-1), .int (nI 0), .ref q_1, .ref q_2, .ref q_3, .ref q_4, .ref q_5, .ref q_6, .int (nI 0), .ref q_7, .ref q_8, .null, .null, .null, .long 0, .long 0, .long 0, .long 0])), (q_1, .inl (cI, 32, .inl (fun _ => 0))), (q_2, .inl (cI, 32, .inl (fun _ => 0))), (q_3, .inl (cI, 32, .inl (fun _ => 0))), (q_4, .inl (cI, 32, .inl (fun _ => 0))), (q_5, .inl (cI, 32, .inl (fun _ => 0))), (q_6, .inl (cI, 32, .inl (fun _ => 0))), (q_7, .inl (cI, 64, .inl (fun _ => 0))), (q_8, .inl (cI, 64, .inl (fun _ => 0)))] H := hP
  have hD : va_D A [(mo, .inr (4, [.int 0, .int 4, .int 2, .long 0, .long 0, .int 0, .int (-1), .int (nI 0), .ref q_1, .ref q_2, .ref q_3, .ref q_4, .ref q_5, .ref q_6, .int (nI 0), .ref q_7, .ref q_8, .null, .null, .null, .long 0, .long 0, .long 0, .long 0])), (q_1, .inl (cI, 32, .inl (fun _ => 0))), (q_2, .inl (cI, 32, .inl (fun _ => 0))), (q_3, .inl (cI, 32, .inl (fun _ => 0))), (q_4, .inl (cI, 32, .inl (fun _ => 0))), (q_5, .inl (cI, 32, .inl (fun _ => 0))), (q_6, .inl (cI, 32, .inl (fun _ => 0))), (q_7, .inl (cI, 64, .inl (fun _ => 0))), (q_8, .inl (cI, 64, .inl (fun _ => 0)))] := hD
  refine lv_aload_n hx hb dX4_init_83 rfl (lv_at hl 0 rfl) ?_
  refine lv_bipush (v := 64) hx hb dX4_init_84 (by decide) ?_
  refine ck_newa (atype := .int) (ty := .int) (a0 := (64, .inl (fun _ => 0))) (N' := 64) hx hb (hts _ k_X4_init_aint) rfl (by intro C h; cases h) hK hP hD hS hA 0 rfl (fun _ => rfl) (by decide) (by decide) (by decide) (Nat.le_of_ble_eq_true rfl) (Nat.le_of_ble_eq_true rfl) dX4_init_86 (fun q_9 H hP hD hS => ?_)
  refine W.widen (k := 9) (n := 384) (by omega) (by omega) ?_
  have hP : va_P (dC, dI) vwCl [(mo, .inr (4, [.int 0, .int 4, .int 2, .long 0, .long 0, .int 0, .int (-1), .int (nI 0), .ref q_1, .ref q_2, .ref q_3, .ref q_4, .ref q_5, .ref q_6, .int (nI 0), .ref q_7, .ref q_8, .null, .null, .null, .long 0, .long 0, .long 0, .long 0])), (q_1, .inl (cI, 32, .inl (fun _ => 0))), (q_2, .inl (cI, 32, .inl (fun _ => 0))), (q_3, .inl (cI, 32, .inl (fun _ => 0))), (q_4, .inl (cI, 32, .inl (fun _ => 0))), (q_5, .inl (cI, 32, .inl (fun _ => 0))), (q_6, .inl (cI, 32, .inl (fun _ => 0))), (q_7, .inl (cI, 64, .inl (fun _ => 0))), (q_8, .inl (cI, 64, .inl (fun _ => 0))), (q_9, .inl (cI, 64, .inl (fun _ => 0)))] H := hP
  have hD : va_D A [(mo, .inr (4, [.int 0, .int 4, .int 2, .long 0, .long 0, .int 0, .int (-1), .int (nI 0), .ref q_1, .ref q_2, .ref q_3, .ref q_4, .ref q_5, .ref q_6, .int (nI 0), .ref q_7, .ref q_8, .null, .null, .null, .long 0, .long 0, .long 0, .long 0])), (q_1, .inl (cI, 32, .inl (fun _ => 0))), (q_2, .inl (cI, 32, .inl (fun _ => 0))), (q_3, .inl (cI, 32, .inl (fun _ => 0))), (q_4, .inl (cI, 32, .inl (fun _ => 0))), (q_5, .inl (cI, 32, .inl (fun _ => 0))), (q_6, .inl (cI, 32, .inl (fun _ => 0))), (q_7, .inl (cI, 64, .inl (fun _ => 0))), (q_8, .inl (cI, 64, .inl (fun _ => 0))), (q_9, .inl (cI, 64, .inl (fun _ => 0)))] := hD
  refine va_putF (D := (dC, dI)) (ci := 4) (v := .ref q_9) (ty := .array .int) (C := RX4) (T := TX4) (N := 24) hx hb hts (k_X4_init_in4) tyX4 tyX4_ok nmX4 hown hK hP hD hS 0 rfl rfl 17 (by decide) (hts _ k_X4_init_f44) (fun _ h9 => h9) rfl hin rfl (by decide +kernel) rfl rfl (Nat.le_of_ble_eq_true rfl) dX4_init_88 (fun H locs hP hD hS => ?_)
  have hP : va_P (dC, dI) vwCl [(mo, .inr (4, [.int 0, .int 4, .int 2, .long 0, .long 0, .int 0, .int (-1), .int (nI 0), .ref q_1, .ref q_2, .ref q_3, .ref q_4, .ref q_5, .ref q_6, .int (nI 0), .ref q_7, .ref q_8, .ref q_9, .null, .null, .long 0, .long 0, .long 0, .long 0])), (q_1, .inl (cI, 32, .inl (fun _ => 0))), (q_2, .inl (cI, 32, .inl (fun _ => 0))), (q_3, .inl (cI, 32, .inl (fun _ => 0))), (q_4, .inl (cI, 32, .inl (fun _ => 0))), (q_5, .inl (cI, 32, .inl (fun _ => 0))), (q_6, .inl (cI, 32, .inl (fun _ => 0))), (q_7, .inl (cI, 64, .inl (fun _ => 0))), (q_8, .inl (cI, 64, .inl (fun _ => 0))), (q_9, .inl (cI, 64, .inl (fun _ => 0)))] H := hP
  have hD : va_D A [(mo, .inr (4, [.int 0, .int 4, .int 2, .long 0, .long 0, .int 0, .int (-1), .int (nI 0), .ref q_1, .ref q_2, .ref q_3, .ref q_4, .ref q_5, .ref q_6, .int (nI 0), .ref q_7, .ref q_8, .ref q_9, .null, .null, .long 0, .long 0, .long 0, .long 0])), (q_1, .inl (cI, 32, .inl (fun _ => 0))), (q_2, .inl (cI, 32, .inl (fun _ => 0))), (q_3, .inl (cI, 32, .inl (fun _ => 0))), (q_4, .inl (cI, 32, .inl (fun _ => 0))), (q_5, .inl (cI, 32, .inl (fun _ => 0))), (q_6, .inl (cI, 32, .inl (fun _ => 0))), (q_7, .inl (cI, 64, .inl (fun _ => 0))), (q_8, .inl (cI, 64, .inl (fun _ => 0))), (q_9, .inl (cI, 64, .inl (fun _ => 0)))] := hD
  refine lv_aload_n hx hb dX4_init_91 rfl (lv_at hl 0 rfl) ?_
  refine lv_bipush (v := 64) hx hb dX4_init_92 (by decide) ?_
  refine ck_newa (atype := .boolean) (ty := .boolean) (a0 := (64, .inl (fun _ => 0))) (N' := 64) hx hb (hts _ k_X4_init_aboolean) rfl (by intro C h; cases h) hK hP hD hS hA 2 rfl (fun _ => rfl) (by decide) (by decide) (by decide) (Nat.le_of_ble_eq_true rfl) (Nat.le_of_ble_eq_true rfl) dX4_init_94 (fun q_10 H hP hD hS => ?_)
  refine W.widen (k := 10) (n := 448) (by omega) (by omega) ?_
  have hP : va_P (dC, dI) vwCl [(mo, .inr (4, [.int 0, .int 4, .int 2, .long 0, .long 0, .int 0, .int (-1), .int (nI 0), .ref q_1, .ref q_2, .ref q_3, .ref q_4, .ref q_5, .ref q_6, .int (nI 0), .ref q_7, .ref q_8, .ref q_9, .null, .null, .long 0, .long 0, .long 0, .long 0])), (q_1, .inl (cI, 32, .inl (fun _ => 0))), (q_2, .inl (cI, 32, .inl (fun _ => 0))), (q_3, .inl (cI, 32, .inl (fun _ => 0))), (q_4, .inl (cI, 32, .inl (fun _ => 0))), (q_5, .inl (cI, 32, .inl (fun _ => 0))), (q_6, .inl (cI, 32, .inl (fun _ => 0))), (q_7, .inl (cI, 64, .inl (fun _ => 0))), (q_8, .inl (cI, 64, .inl (fun _ => 0))), (q_9, .inl (cI, 64, .inl (fun _ => 0))), (q_10, .inl (cZ, 64, .inl (fun _ => 0)))] H := hP
  have hD : va_D A [(mo, .inr (4, [.int 0, .int 4, .int 2, .long 0, .long 0, .int 0, .int (-1), .int (nI 0), .ref q_1, .ref q_2, .ref q_3, .ref q_4, .ref q_5, .ref q_6, .int (nI 0), .ref q_7, .ref q_8, .ref q_9, .null, .null, .long 0, .long 0, .long 0, .long 0])), (q_1, .inl (cI, 32, .inl (fun _ => 0))), (q_2, .inl (cI, 32, .inl (fun _ => 0))), (q_3, .inl (cI, 32, .inl (fun _ => 0))), (q_4, .inl (cI, 32, .inl (fun _ => 0))), (q_5, .inl (cI, 32, .inl (fun _ => 0))), (q_6, .inl (cI, 32, .inl (fun _ => 0))), (q_7, .inl (cI, 64, .inl (fun _ => 0))), (q_8, .inl (cI, 64, .inl (fun _ => 0))), (q_9, .inl (cI, 64, .inl (fun _ => 0))), (q_10, .inl (cZ, 64, .inl (fun _ => 0)))] := hD
  refine va_putF (D := (dC, dI)) (ci := 4) (v := .ref q_10) (ty := .array .boolean) (C := RX4) (T := TX4) (N := 24) hx hb hts (k_X4_init_in4) tyX4 tyX4_ok nmX4 hown hK hP hD hS 0 rfl rfl 18 (by decide) (hts _ k_X4_init_f47) (fun _ h9 => h9) rfl hin rfl (by decide +kernel) rfl rfl (Nat.le_of_ble_eq_true rfl) dX4_init_96 (fun H locs hP hD hS => ?_)
  have hP : va_P (dC, dI) vwCl [(mo, .inr (4, [.int 0, .int 4, .int 2, .long 0, .long 0, .int 0, .int (-1), .int (nI 0), .ref q_1, .ref q_2, .ref q_3, .ref q_4, .ref q_5, .ref q_6, .int (nI 0), .ref q_7, .ref q_8, .ref q_9, .ref q_10, .null, .long 0, .long 0, .long 0, .long 0])), (q_1, .inl (cI, 32, .inl (fun _ => 0))), (q_2, .inl (cI, 32, .inl (fun _ => 0))), (q_3, .inl (cI, 32, .inl (fun _ => 0))), (q_4, .inl (cI, 32, .inl (fun _ => 0))), (q_5, .inl (cI, 32, .inl (fun _ => 0))), (q_6, .inl (cI, 32, .inl (fun _ => 0))), (q_7, .inl (cI, 64, .inl (fun _ => 0))), (q_8, .inl (cI, 64, .inl (fun _ => 0))), (q_9, .inl (cI, 64, .inl (fun _ => 0))), (q_10, .inl (cZ, 64, .inl (fun _ => 0)))] H := hP
  have hD : va_D A [(mo, .inr (4, [.int 0, .int 4, .int 2, .long 0, .long 0, .int 0, .int (-1), .int (nI 0), .ref q_1, .ref q_2, .ref q_3, .ref q_4, .ref q_5, .ref q_6, .int (nI 0), .ref q_7, .ref q_8, .ref q_9, .ref q_10, .null, .long 0, .long 0, .long 0, .long 0])), (q_1, .inl (cI, 32, .inl (fun _ => 0))), (q_2, .inl (cI, 32, .inl (fun _ => 0))), (q_3, .inl (cI, 32, .inl (fun _ => 0))), (q_4, .inl (cI, 32, .inl (fun _ => 0))), (q_5, .inl (cI, 32, .inl (fun _ => 0))), (q_6, .inl (cI, 32, .inl (fun _ => 0))), (q_7, .inl (cI, 64, .inl (fun _ => 0))), (q_8, .inl (cI, 64, .inl (fun _ => 0))), (q_9, .inl (cI, 64, .inl (fun _ => 0))), (q_10, .inl (cZ, 64, .inl (fun _ => 0)))] := hD
  refine lv_aload_n hx hb dX4_init_99 rfl (lv_at hl 0 rfl) ?_
  refine lv_iconst (v := 4) hx hb dX4_init_100 (by decide) ?_
  refine ck_newa (atype := .int) (ty := .int) (a0 := (4, .inl (fun _ => 0))) (N' := 4) hx hb (hts _ k_X4_init_aint) rfl (by intro C h; cases h) hK hP hD hS hA 0 rfl (fun _ => rfl) (by decide) (by decide) (by decide) (Nat.le_of_ble_eq_true rfl) (Nat.le_of_ble_eq_true rfl) dX4_init_101 (fun q_11 H hP hD hS => ?_)
  refine W.widen (k := 11) (n := 452) (by omega) (by omega) ?_
  have hP : va_P (dC, dI) vwCl [(mo, .inr (4, [.int 0, .int 4, .int 2, .long 0, .long 0, .int 0, .int (-1), .int (nI 0), .ref q_1, .ref q_2, .ref q_3, .ref q_4, .ref q_5, .ref q_6, .int (nI 0), .ref q_7, .ref q_8, .ref q_9, .ref q_10, .null, .long 0, .long 0, .long 0, .long 0])), (q_1, .inl (cI, 32, .inl (fun _ => 0))), (q_2, .inl (cI, 32, .inl (fun _ => 0))), (q_3, .inl (cI, 32, .inl (fun _ => 0))), (q_4, .inl (cI, 32, .inl (fun _ => 0))), (q_5, .inl (cI, 32, .inl (fun _ => 0))), (q_6, .inl (cI, 32, .inl (fun _ => 0))), (q_7, .inl (cI, 64, .inl (fun _ => 0))), (q_8, .inl (cI, 64, .inl (fun _ => 0))), (q_9, .inl (cI, 64, .inl (fun _ => 0))), (q_10, .inl (cZ, 64, .inl (fun _ => 0))), (q_11, .inl (cI, 4, .inl (fun _ => 0)))] H := hP
  have hD : va_D A [(mo, .inr (4, [.int 0, .int 4, .int 2, .long 0, .long 0, .int 0, .int (-1), .int (nI 0), .ref q_1, .ref q_2, .ref q_3, .ref q_4, .ref q_5, .ref q_6, .int (nI 0), .ref q_7, .ref q_8, .ref q_9, .ref q_10, .null, .long 0, .long 0, .long 0, .long 0])), (q_1, .inl (cI, 32, .inl (fun _ => 0))), (q_2, .inl (cI, 32, .inl (fun _ => 0))), (q_3, .inl (cI, 32, .inl (fun _ => 0))), (q_4, .inl (cI, 32, .inl (fun _ => 0))), (q_5, .inl (cI, 32, .inl (fun _ => 0))), (q_6, .inl (cI, 32, .inl (fun _ => 0))), (q_7, .inl (cI, 64, .inl (fun _ => 0))), (q_8, .inl (cI, 64, .inl (fun _ => 0))), (q_9, .inl (cI, 64, .inl (fun _ => 0))), (q_10, .inl (cZ, 64, .inl (fun _ => 0))), (q_11, .inl (cI, 4, .inl (fun _ => 0)))] := hD
  refine va_putF (D := (dC, dI)) (ci := 4) (v := .ref q_11) (ty := .array .int) (C := RX4) (T := TX4) (N := 24) hx hb hts (k_X4_init_in4) tyX4 tyX4_ok nmX4 hown hK hP hD hS 0 rfl rfl 19 (by decide) (hts _ k_X4_init_f51) (fun _ h9 => h9) rfl hin rfl (by decide +kernel) rfl rfl (Nat.le_of_ble_eq_true rfl) dX4_init_103 (fun H locs hP hD hS => ?_)
  have hP : va_P (dC, dI) vwCl [(mo, .inr (4, [.int 0, .int 4, .int 2, .long 0, .long 0, .int 0, .int (-1), .int (nI 0), .ref q_1, .ref q_2, .ref q_3, .ref q_4, .ref q_5, .ref q_6, .int (nI 0), .ref q_7, .ref q_8, .ref q_9, .ref q_10, .ref q_11, .long 0, .long 0, .long 0, .long 0])), (q_1, .inl (cI, 32, .inl (fun _ => 0))), (q_2, .inl (cI, 32, .inl (fun _ => 0))), (q_3, .inl (cI, 32, .inl (fun _ => 0))), (q_4, .inl (cI, 32, .inl (fun _ => 0))), (q_5, .inl (cI, 32, .inl (fun _ => 0))), (q_6, .inl (cI, 32, .inl (fun _ => 0))), (q_7, .inl (cI, 64, .inl (fun _ => 0))), (q_8, .inl (cI, 64, .inl (fun _ => 0))), (q_9, .inl (cI, 64, .inl (fun _ => 0))), (q_10, .inl (cZ, 64, .inl (fun _ => 0))), (q_11, .inl (cI, 4, .inl (fun _ => 0)))] H := hP
  have hD : va_D A [(mo, .inr (4, [.int 0, .int 4, .int 2, .long 0, .long 0, .int 0, .int (-1), .int (nI 0), .ref q_1, .ref q_2, .ref q_3, .ref q_4, .ref q_5, .ref q_6, .int (nI 0), .ref q_7, .ref q_8, .ref q_9, .ref q_10, .ref q_11, .long 0, .long 0, .long 0, .long 0])), (q_1, .inl (cI, 32, .inl (fun _ => 0))), (q_2, .inl (cI, 32, .inl (fun _ => 0))), (q_3, .inl (cI, 32, .inl (fun _ => 0))), (q_4, .inl (cI, 32, .inl (fun _ => 0))), (q_5, .inl (cI, 32, .inl (fun _ => 0))), (q_6, .inl (cI, 32, .inl (fun _ => 0))), (q_7, .inl (cI, 64, .inl (fun _ => 0))), (q_8, .inl (cI, 64, .inl (fun _ => 0))), (q_9, .inl (cI, 64, .inl (fun _ => 0))), (q_10, .inl (cZ, 64, .inl (fun _ => 0))), (q_11, .inl (cI, 4, .inl (fun _ => 0)))] := hD
  refine ck_vr hx hb hr hlocks (Nat.le_of_ble_eq_true rfl) (Nat.le_of_ble_eq_true rfl) dX4_init_106 (q_1, q_2, q_3, q_4, q_5, q_6, q_7, q_8, q_9, q_10, q_11) hP hD hS ?_
  exact trivial
set_option maxRecDepth 20000 in
theorem k_X4_round_f64 : (.fieldLink RX4 64 "CookieListenerModel" "v0" "J" : Cond) ∈ wsX4_round := by decide +kernel
set_option maxRecDepth 20000 in
theorem k_X4_round_in4 : ∀ w ∈ u_ws RX4 TX4 24, w ∈ wsX4_round := by decide +kernel
set_option maxRecDepth 20000 in
theorem k_X4_round_f67 : (.fieldLink RX4 67 "CookieListenerModel" "v1" "J" : Cond) ∈ wsX4_round := by decide +kernel
set_option maxRecDepth 20000 in
theorem k_X4_round_f74 : (.fieldLink RX4 74 "CookieListenerModel" "v2" "J" : Cond) ∈ wsX4_round := by decide +kernel
set_option maxRecDepth 20000 in
theorem k_X4_round_f77 : (.fieldLink RX4 77 "CookieListenerModel" "v3" "J" : Cond) ∈ wsX4_round := by decide +kernel
set_option maxHeartbeats 4000000 in
set_option maxRecDepth 100000 in
theorem c_X4_round (l : Launch) (dC : Nat → ClassId) (dI : Nat → Nat → Nat) (cI cJ cZ : ClassId) (lo sz : Nat) (mo : Nat) (th zs rq : Int32) (k l0 : Int64) (ti ct : Int32) (n : Nat) (d1 d2 d3 d4 d5 d6 : Nat) (kc : Nat) (e1 e2 e3 e4 e5 : Nat) (v0 v1 v2 v3 : Int64) : Met l yX4_round wsX4_round ({ frames := 1, cells := 0, slots := 0, locals := 22 } : Room) (va_Pc [.ref mo] (ck_P (dC, dI) [(cI, .int), (cJ, .long), (cZ, .boolean)] lo sz [(mo, .inr (4, [.int th, .int zs, .int rq, .long k, .long l0, .int ti, .int ct, .int (nI n), .ref d1, .ref d2, .ref d3, .ref d4, .ref d5, .ref d6, .int (nI kc), .ref e1, .ref e2, .ref e3, .ref e4, .ref e5, .long v0, .long v1, .long v2, .long v3]))])) (va_Qv (fun (u : Int64 × Int64 × Int64 × Int64) => (u.1, u.2.1, u.2.2.1, u.2.2.2) = ck_round (v0, v1, v2, v3)) (fun u => ck_B (dC, dI) vwCl (va_A [(mo, .inr (4, [.int th, .int zs, .int rq, .long k, .long l0, .int ti, .int ct, .int (nI n), .ref d1, .ref d2, .ref d3, .ref d4, .ref d5, .ref d6, .int (nI kc), .ref e1, .ref e2, .ref e3, .ref e4, .ref e5, .long v0, .long v1, .long v2, .long v3]))] sz) ((fun u : Int64 × Int64 × Int64 × Int64 => ([(mo, .inr (4, [.int th, .int zs, .int rq, .long k, .long l0, .int ti, .int ct, .int (nI n), .ref d1, .ref d2, .ref d3, .ref d4, .ref d5, .ref d6, .int (nI kc), .ref e1, .ref e2, .ref e3, .ref e4, .ref e5, .long u.1, .long u.2.1, .long u.2.2.1, .long u.2.2.2]))] : va_W)) u)) (va_A [(mo, .inr (4, [.int th, .int zs, .int rq, .long k, .long l0, .int ti, .int ct, .int (nI n), .ref d1, .ref d2, .ref d3, .ref d4, .ref d5, .ref d6, .int (nI kc), .ref e1, .ref e2, .ref e3, .ref e4, .ref e5, .long v0, .long v1, .long v2, .long v3]))] sz)) 0 0 (va_A [(mo, .inr (4, [.int th, .int zs, .int rq, .long k, .long l0, .int ti, .int ct, .int (nI n), .ref d1, .ref d2, .ref d3, .ref d4, .ref d5, .ref d6, .int (nI kc), .ref e1, .ref e2, .ref e3, .ref e4, .ref e5, .long v0, .long v1, .long v2, .long v3]))] sz) := by
  refine Met.ofW (cc := cX4_round) (maxL := 1) (ret := none) (by decide) rfl ?_
  intro p e s m args below meth c s₁ B hml hv
  obtain ⟨rfl, hsz, hP, hK, hD0, hE⟩ := hv
  have hx := B.exec
  have hb := B.bytes
  have hr := B.returns
  have hts := atoms_spec (ws := wsX4_round) B.pre
  have hown : s.vm.findClass RX4 = some m.cls := findClass_of_methodNamed B.named
  have hlocks := B.notSynchronized
  subst hsz
  have hD := hD0.self (sz := s.heap.size)
  have hlo := ck_lo (sz := s.heap.size) hD0 hE.1
  generalize hAe : va_A [(mo, .inr (4, [.int th, .int zs, .int rq, .long k, .long l0, .int ti, .int ct, .int (nI n), .ref d1, .ref d2, .ref d3, .ref d4, .ref d5, .ref d6, .int (nI kc), .ref e1, .ref e2, .ref e3, .ref e4, .ref e5, .long v0, .long v1, .long v2, .long v3]))] s.heap.size = A at hD hlo ⊢
  have hA : ∀ q : Nat, s.heap.size ≤ q → A q := fun q h => by rw [← hAe]; exact Or.inr h
  have hG : ck_G (dC, dI) [(cI, .int), (cJ, .long), (cZ, .boolean)] lo A s := ⟨hK, hE, hA, hlo⟩
  have hS : va_S A s.heap s.heap [] := va_S.rf
  have hP : va_P (dC, dI) vwCl [(mo, .inr (4, [.int th, .int zs, .int rq, .long k, .long l0, .int ti, .int ct, .int (nI n), .ref d1, .ref d2, .ref d3, .ref d4, .ref d5, .ref d6, .int (nI kc), .ref e1, .ref e2, .ref e3, .ref e4, .ref e5, .long v0, .long v1, .long v2, .long v3]))] s.heap := hP
  have hl := lv_entry ([.ref mo]) (n := 1) (Nat.le_of_ble_eq_true rfl)
  rw [lg_entry_eq]
  generalize (lg_sl ([.ref mo]) ++ List.replicate (1 - (lg_sl ([.ref mo])).length) Slot.unset).toArray = ls at hl ⊢
  have hl : lv_has ls 1 [(0, .ref mo)] := hl
  refine lv_aload_n hx hb dX4_round_0 rfl (lv_at hl 0 rfl) ?_
  refine lv_aload_n hx hb dX4_round_1 rfl (lv_at hl 0 rfl) ?_
  refine va_get (D := (dC, dI)) (ci := 4) (v := .long v0) (C := RX4) (T := TX4) (N := 24) hx hb hts (k_X4_round_in4) hown hK hP 0 rfl rfl 20 (by decide) (hts _ k_X4_round_f64) (fun _ h9 => h9) rfl dX4_round_2 ?_
  refine lv_aload_n hx hb dX4_round_5 rfl (lv_at hl 0 rfl) ?_
  refine va_get (D := (dC, dI)) (ci := 4) (v := .long v1) (C := RX4) (T := TX4) (N := 24) hx hb hts (k_X4_round_in4) hown hK hP 0 rfl rfl 21 (by decide) (hts _ k_X4_round_f67) (fun _ h9 => h9) rfl dX4_round_6 ?_
  refine lv_ladd hx hb dX4_round_9 ?_
  refine lv_topl (fun x_1 ex_1 => ?_)
  refine va_put (D := (dC, dI)) (ci := 4) (v := .long x_1) (ty := .long) (C := RX4) (T := TX4) (N := 24) hx hb hts (k_X4_round_in4) tyX4 tyX4_ok nmX4 hown hK hP hD hS 0 rfl rfl 20 (by decide) (hts _ k_X4_round_f64) (fun _ h9 => h9) rfl (by decide +kernel) rfl rfl (Nat.le_of_ble_eq_true rfl) dX4_round_10 (fun H locs hP hD hS => ?_)
  have hP : va_P (dC, dI) vwCl [(mo, .inr (4, [.int th, .int zs, .int rq, .long k, .long l0, .int ti, .int ct, .int (nI n), .ref d1, .ref d2, .ref d3, .ref d4, .ref d5, .ref d6, .int (nI kc), .ref e1, .ref e2, .ref e3, .ref e4, .ref e5, .long x_1, .long v1, .long v2, .long v3]))] H := hP
  have hD : va_D A [(mo, .inr (4, [.int th, .int zs, .int rq, .long k, .long l0, .int ti, .int ct, .int (nI n), .ref d1, .ref d2, .ref d3, .ref d4, .ref d5, .ref d6, .int (nI kc), .ref e1, .ref e2, .ref e3, .ref e4, .ref e5, .long x_1, .long v1, .long v2, .long v3]))] := hD
  refine lv_aload_n hx hb dX4_round_13 rfl (lv_at hl 0 rfl) ?_
  refine lv_aload_n hx hb dX4_round_14 rfl (lv_at hl 0 rfl) ?_
  refine va_get (D := (dC, dI)) (ci := 4) (v := .long v1) (C := RX4) (T := TX4) (N := 24) hx hb hts (k_X4_round_in4) hown hK hP 0 rfl rfl 21 (by decide) (hts _ k_X4_round_f67) (fun _ h9 => h9) rfl dX4_round_15 ?_
  refine lv_bipush (v := 13) hx hb dX4_round_18 (by decide) ?_
  refine ck_rl (va_runS (As := [.long v1, .int 13]) (rest := [.ref mo]) ⟨hx, hb, hml, hown, hts⟩ (c_X4_turned l dC dI cI cJ cZ lo _ v1 13) (va_cwS 2 hts gX4_round_X4_turned rfl rfl rfl (by decide +kernel) ⟨(Nat.le_of_ble_eq_true rfl), (Nat.le_of_ble_eq_true rfl)⟩) ⟨ck_blind, (ck_pre hG hP hD hS [] rfl (by decide) _)⟩ rfl rfl hl.1 rfl (lv_room (Nat.le_of_ble_eq_true rfl)) dX4_round_20 ⟨(Nat.le_of_ble_eq_true rfl), (Nat.le_of_ble_eq_true rfl)⟩) (fun r_2 hw_2 => ?_)
  have hw_2 : r_2 = ck_rot v1 13 := hw_2
  subst hw_2
  refine lv_aload_n hx hb dX4_round_23 rfl (lv_at hl 0 rfl) ?_
  refine va_get (D := (dC, dI)) (ci := 4) (v := .long x_1) (C := RX4) (T := TX4) (N := 24) hx hb hts (k_X4_round_in4) hown hK hP 0 rfl rfl 20 (by decide) (hts _ k_X4_round_f64) (fun _ h9 => h9) rfl dX4_round_24 ?_
  refine lv_lxor hx hb dX4_round_27 ?_
  refine lv_topl (fun x_3 ex_3 => ?_)
  refine va_put (D := (dC, dI)) (ci := 4) (v := .long x_3) (ty := .long) (C := RX4) (T := TX4) (N := 24) hx hb hts (k_X4_round_in4) tyX4 tyX4_ok nmX4 hown hK hP hD hS 0 rfl rfl 21 (by decide) (hts _ k_X4_round_f67) (fun _ h9 => h9) rfl (by decide +kernel) rfl rfl (Nat.le_of_ble_eq_true rfl) dX4_round_28 (fun H locs hP hD hS => ?_)
  have hP : va_P (dC, dI) vwCl [(mo, .inr (4, [.int th, .int zs, .int rq, .long k, .long l0, .int ti, .int ct, .int (nI n), .ref d1, .ref d2, .ref d3, .ref d4, .ref d5, .ref d6, .int (nI kc), .ref e1, .ref e2, .ref e3, .ref e4, .ref e5, .long x_1, .long x_3, .long v2, .long v3]))] H := hP
  have hD : va_D A [(mo, .inr (4, [.int th, .int zs, .int rq, .long k, .long l0, .int ti, .int ct, .int (nI n), .ref d1, .ref d2, .ref d3, .ref d4, .ref d5, .ref d6, .int (nI kc), .ref e1, .ref e2, .ref e3, .ref e4, .ref e5, .long x_1, .long x_3, .long v2, .long v3]))] := hD
  refine lv_aload_n hx hb dX4_round_31 rfl (lv_at hl 0 rfl) ?_
  refine lv_aload_n hx hb dX4_round_32 rfl (lv_at hl 0 rfl) ?_
  refine va_get (D := (dC, dI)) (ci := 4) (v := .long x_1) (C := RX4) (T := TX4) (N := 24) hx hb hts (k_X4_round_in4) hown hK hP 0 rfl rfl 20 (by decide) (hts _ k_X4_round_f64) (fun _ h9 => h9) rfl dX4_round_33 ?_
  refine lv_bipush (v := 32) hx hb dX4_round_36 (by decide) ?_
  refine ck_rl (va_runS (As := [.long x_1, .int 32]) (rest := [.ref mo]) ⟨hx, hb, hml, hown, hts⟩ (c_X4_turned l dC dI cI cJ cZ lo _ x_1 32) (va_cwS 2 hts gX4_round_X4_turned rfl rfl rfl (by decide +kernel) ⟨(Nat.le_of_ble_eq_true rfl), (Nat.le_of_ble_eq_true rfl)⟩) ⟨ck_blind, (ck_pre hG hP hD hS [] rfl (by decide) _)⟩ rfl rfl hl.1 rfl (lv_room (Nat.le_of_ble_eq_true rfl)) dX4_round_38 ⟨(Nat.le_of_ble_eq_true rfl), (Nat.le_of_ble_eq_true rfl)⟩) (fun r_4 hw_4 => ?_)
  have hw_4 : r_4 = ck_rot x_1 32 := hw_4
  subst hw_4
  refine lv_topl (fun x_5 ex_5 => ?_)
  refine va_put (D := (dC, dI)) (ci := 4) (v := .long x_5) (ty := .long) (C := RX4) (T := TX4) (N := 24) hx hb hts (k_X4_round_in4) tyX4 tyX4_ok nmX4 hown hK hP hD hS 0 rfl rfl 20 (by decide) (hts _ k_X4_round_f64) (fun _ h9 => h9) rfl (by decide +kernel) rfl rfl (Nat.le_of_ble_eq_true rfl) dX4_round_41 (fun H locs hP hD hS => ?_)
  have hP : va_P (dC, dI) vwCl [(mo, .inr (4, [.int th, .int zs, .int rq, .long k, .long l0, .int ti, .int ct, .int (nI n), .ref d1, .ref d2, .ref d3, .ref d4, .ref d5, .ref d6, .int (nI kc), .ref e1, .ref e2, .ref e3, .ref e4, .ref e5, .long x_5, .long x_3, .long v2, .long v3]))] H := hP
  have hD : va_D A [(mo, .inr (4, [.int th, .int zs, .int rq, .long k, .long l0, .int ti, .int ct, .int (nI n), .ref d1, .ref d2, .ref d3, .ref d4, .ref d5, .ref d6, .int (nI kc), .ref e1, .ref e2, .ref e3, .ref e4, .ref e5, .long x_5, .long x_3, .long v2, .long v3]))] := hD
  refine lv_aload_n hx hb dX4_round_44 rfl (lv_at hl 0 rfl) ?_
  refine lv_aload_n hx hb dX4_round_45 rfl (lv_at hl 0 rfl) ?_
  refine va_get (D := (dC, dI)) (ci := 4) (v := .long v2) (C := RX4) (T := TX4) (N := 24) hx hb hts (k_X4_round_in4) hown hK hP 0 rfl rfl 22 (by decide) (hts _ k_X4_round_f74) (fun _ h9 => h9) rfl dX4_round_46 ?_
  refine lv_aload_n hx hb dX4_round_49 rfl (lv_at hl 0 rfl) ?_
  refine va_get (D := (dC, dI)) (ci := 4) (v := .long v3) (C := RX4) (T := TX4) (N := 24) hx hb hts (k_X4_round_in4) hown hK hP 0 rfl rfl 23 (by decide) (hts _ k_X4_round_f77) (fun _ h9 => h9) rfl dX4_round_50 ?_
  refine lv_ladd hx hb dX4_round_53 ?_
  refine lv_topl (fun x_6 ex_6 => ?_)
  refine va_put (D := (dC, dI)) (ci := 4) (v := .long x_6) (ty := .long) (C := RX4) (T := TX4) (N := 24) hx hb hts (k_X4_round_in4) tyX4 tyX4_ok nmX4 hown hK hP hD hS 0 rfl rfl 22 (by decide) (hts _ k_X4_round_f74) (fun _ h9 => h9) rfl (by decide +kernel) rfl rfl (Nat.le_of_ble_eq_true rfl) dX4_round_54 (fun H locs hP hD hS => ?_)
  have hP : va_P (dC, dI) vwCl [(mo, .inr (4, [.int th, .int zs, .int rq, .long k, .long l0, .int ti, .int ct, .int (nI n), .ref d1, .ref d2, .ref d3, .ref d4, .ref d5, .ref d6, .int (nI kc), .ref e1, .ref e2, .ref e3, .ref e4, .ref e5, .long x_5, .long x_3, .long x_6, .long v3]))] H := hP
  have hD : va_D A [(mo, .inr (4, [.int th, .int zs, .int rq, .long k, .long l0, .int ti, .int ct, .int (nI n), .ref d1, .ref d2, .ref d3, .ref d4, .ref d5, .ref d6, .int (nI kc), .ref e1, .ref e2, .ref e3, .ref e4, .ref e5, .long x_5, .long x_3, .long x_6, .long v3]))] := hD
  refine lv_aload_n hx hb dX4_round_57 rfl (lv_at hl 0 rfl) ?_
  refine lv_aload_n hx hb dX4_round_58 rfl (lv_at hl 0 rfl) ?_
  refine va_get (D := (dC, dI)) (ci := 4) (v := .long v3) (C := RX4) (T := TX4) (N := 24) hx hb hts (k_X4_round_in4) hown hK hP 0 rfl rfl 23 (by decide) (hts _ k_X4_round_f77) (fun _ h9 => h9) rfl dX4_round_59 ?_
  refine lv_bipush (v := 16) hx hb dX4_round_62 (by decide) ?_
  refine ck_rl (va_runS (As := [.long v3, .int 16]) (rest := [.ref mo]) ⟨hx, hb, hml, hown, hts⟩ (c_X4_turned l dC dI cI cJ cZ lo _ v3 16) (va_cwS 2 hts gX4_round_X4_turned rfl rfl rfl (by decide +kernel) ⟨(Nat.le_of_ble_eq_true rfl), (Nat.le_of_ble_eq_true rfl)⟩) ⟨ck_blind, (ck_pre hG hP hD hS [] rfl (by decide) _)⟩ rfl rfl hl.1 rfl (lv_room (Nat.le_of_ble_eq_true rfl)) dX4_round_64 ⟨(Nat.le_of_ble_eq_true rfl), (Nat.le_of_ble_eq_true rfl)⟩) (fun r_7 hw_7 => ?_)
  have hw_7 : r_7 = ck_rot v3 16 := hw_7
  subst hw_7
  refine lv_aload_n hx hb dX4_round_67 rfl (lv_at hl 0 rfl) ?_
  refine va_get (D := (dC, dI)) (ci := 4) (v := .long x_6) (C := RX4) (T := TX4) (N := 24) hx hb hts (k_X4_round_in4) hown hK hP 0 rfl rfl 22 (by decide) (hts _ k_X4_round_f74) (fun _ h9 => h9) rfl dX4_round_68 ?_
  refine lv_lxor hx hb dX4_round_71 ?_
  refine lv_topl (fun x_8 ex_8 => ?_)
  refine va_put (D := (dC, dI)) (ci := 4) (v := .long x_8) (ty := .long) (C := RX4) (T := TX4) (N := 24) hx hb hts (k_X4_round_in4) tyX4 tyX4_ok nmX4 hown hK hP hD hS 0 rfl rfl 23 (by decide) (hts _ k_X4_round_f77) (fun _ h9 => h9) rfl (by decide +kernel) rfl rfl (Nat.le_of_ble_eq_true rfl) dX4_round_72 (fun H locs hP hD hS => ?_)
  have hP : va_P (dC, dI) vwCl [(mo, .inr (4, [.int th, .int zs, .int rq, .long k, .long l0, .int ti, .int ct, .int (nI n), .ref d1, .ref d2, .ref d3, .ref d4, .ref d5, .ref d6, .int (nI kc), .ref e1, .ref e2, .ref e3, .ref e4, .ref e5, .long x_5, .long x_3, .long x_6, .long x_8]))] H := hP
  have hD : va_D A [(mo, .inr (4, [.int th, .int zs, .int rq, .long k, .long l0, .int ti, .int ct, .int (nI n), .ref d1, .ref d2, .ref d3, .ref d4, .ref d5, .ref d6, .int (nI kc), .ref e1, .ref e2, .ref e3, .ref e4, .ref e5, .long x_5, .long x_3, .long x_6, .long x_8]))] := hD
  refine lv_aload_n hx hb dX4_round_75 rfl (lv_at hl 0 rfl) ?_
  refine lv_aload_n hx hb dX4_round_76 rfl (lv_at hl 0 rfl) ?_
  refine va_get (D := (dC, dI)) (ci := 4) (v := .long x_5) (C := RX4) (T := TX4) (N := 24) hx hb hts (k_X4_round_in4) hown hK hP 0 rfl rfl 20 (by decide) (hts _ k_X4_round_f64) (fun _ h9 => h9) rfl dX4_round_77 ?_
  refine lv_aload_n hx hb dX4_round_80 rfl (lv_at hl 0 rfl) ?_
  refine va_get (D := (dC, dI)) (ci := 4) (v := .long x_8) (C := RX4) (T := TX4) (N := 24) hx hb hts (k_X4_round_in4) hown hK hP 0 rfl rfl 23 (by decide) (hts _ k_X4_round_f77) (fun _ h9 => h9) rfl dX4_round_81 ?_
  refine lv_ladd hx hb dX4_round_84 ?_
  refine lv_topl (fun x_9 ex_9 => ?_)
  refine va_put (D := (dC, dI)) (ci := 4) (v := .long x_9) (ty := .long) (C := RX4) (T := TX4) (N := 24) hx hb hts (k_X4_round_in4) tyX4 tyX4_ok nmX4 hown hK hP hD hS 0 rfl rfl 20 (by decide) (hts _ k_X4_round_f64) (fun _ h9 => h9) rfl (by decide +kernel) rfl rfl (Nat.le_of_ble_eq_true rfl) dX4_round_85 (fun H locs hP hD hS => ?_)
  have hP : va_P (dC, dI) vwCl [(mo, .inr (4, [.int th, .int zs, .int rq, .long k, .long l0, .int ti, .int ct, .int (nI n), .ref d1, .ref d2, .ref d3, .ref d4, .ref d5, .ref d6, .int (nI kc), .ref e1, .ref e2, .ref e3, .ref e4, .ref e5, .long x_9, .long x_3, .long x_6, .long x_8]))] H := hP
  have hD : va_D A [(mo, .inr (4, [.int th, .int zs, .int rq, .long k, .long l0, .int ti, .int ct, .int (nI n), .ref d1, .ref d2, .ref d3, .ref d4, .ref d5, .ref d6, .int (nI kc), .ref e1, .ref e2, .ref e3, .ref e4, .ref e5, .long x_9, .long x_3, .long x_6, .long x_8]))] := hD
  refine lv_aload_n hx hb dX4_round_88 rfl (lv_at hl 0 rfl) ?_
  refine lv_aload_n hx hb dX4_round_89 rfl (lv_at hl 0 rfl) ?_
  refine va_get (D := (dC, dI)) (ci := 4) (v := .long x_8) (C := RX4) (T := TX4) (N := 24) hx hb hts (k_X4_round_in4) hown hK hP 0 rfl rfl 23 (by decide) (hts _ k_X4_round_f77) (fun _ h9 => h9) rfl dX4_round_90 ?_
  refine lv_bipush (v := 21) hx hb dX4_round_93 (by decide) ?_
  refine ck_rl (va_runS (As := [.long x_8, .int 21]) (rest := [.ref mo]) ⟨hx, hb, hml, hown, hts⟩ (c_X4_turned l dC dI cI cJ cZ lo _ x_8 21) (va_cwS 2 hts gX4_round_X4_turned rfl rfl rfl (by decide +kernel) ⟨(Nat.le_of_ble_eq_true rfl), (Nat.le_of_ble_eq_true rfl)⟩) ⟨ck_blind, (ck_pre hG hP hD hS [] rfl (by decide) _)⟩ rfl rfl hl.1 rfl (lv_room (Nat.le_of_ble_eq_true rfl)) dX4_round_95 ⟨(Nat.le_of_ble_eq_true rfl), (Nat.le_of_ble_eq_true rfl)⟩) (fun r_10 hw_10 => ?_)
  have hw_10 : r_10 = ck_rot x_8 21 := hw_10
  subst hw_10
  refine lv_aload_n hx hb dX4_round_98 rfl (lv_at hl 0 rfl) ?_
  refine va_get (D := (dC, dI)) (ci := 4) (v := .long x_9) (C := RX4) (T := TX4) (N := 24) hx hb hts (k_X4_round_in4) hown hK hP 0 rfl rfl 20 (by decide) (hts _ k_X4_round_f64) (fun _ h9 => h9) rfl dX4_round_99 ?_
  refine lv_lxor hx hb dX4_round_102 ?_
  refine lv_topl (fun x_11 ex_11 => ?_)
  refine va_put (D := (dC, dI)) (ci := 4) (v := .long x_11) (ty := .long) (C := RX4) (T := TX4) (N := 24) hx hb hts (k_X4_round_in4) tyX4 tyX4_ok nmX4 hown hK hP hD hS 0 rfl rfl 23 (by decide) (hts _ k_X4_round_f77) (fun _ h9 => h9) rfl (by decide +kernel) rfl rfl (Nat.le_of_ble_eq_true rfl) dX4_round_103 (fun H locs hP hD hS => ?_)
  have hP : va_P (dC, dI) vwCl [(mo, .inr (4, [.int th, .int zs, .int rq, .long k, .long l0, .int ti, .int ct, .int (nI n), .ref d1, .ref d2, .ref d3, .ref d4, .ref d5, .ref d6, .int (nI kc), .ref e1, .ref e2, .ref e3, .ref e4, .ref e5, .long x_9, .long x_3, .long x_6, .long x_11]))] H := hP
  have hD : va_D A [(mo, .inr (4, [.int th, .int zs, .int rq, .long k, .long l0, .int ti, .int ct, .int (nI n), .ref d1, .ref d2, .ref d3, .ref d4, .ref d5, .ref d6, .int (nI kc), .ref e1, .ref e2, .ref e3, .ref e4, .ref e5, .long x_9, .long x_3, .long x_6, .long x_11]))] := hD
  refine lv_aload_n hx hb dX4_round_106 rfl (lv_at hl 0 rfl) ?_
  refine lv_aload_n hx hb dX4_round_107 rfl (lv_at hl 0 rfl) ?_
  refine va_get (D := (dC, dI)) (ci := 4) (v := .long x_6) (C := RX4) (T := TX4) (N := 24) hx hb hts (k_X4_round_in4) hown hK hP 0 rfl rfl 22 (by decide) (hts _ k_X4_round_f74) (fun _ h9 => h9) rfl dX4_round_108 ?_
  refine lv_aload_n hx hb dX4_round_111 rfl (lv_at hl 0 rfl) ?_
  refine va_get (D := (dC, dI)) (ci := 4) (v := .long x_3) (C := RX4) (T := TX4) (N := 24) hx hb hts (k_X4_round_in4) hown hK hP 0 rfl rfl 21 (by decide) (hts _ k_X4_round_f67) (fun _ h9 => h9) rfl dX4_round_112 ?_
  refine lv_ladd hx hb dX4_round_115 ?_
  refine lv_topl (fun x_12 ex_12 => ?_)
  refine va_put (D := (dC, dI)) (ci := 4) (v := .long x_12) (ty := .long) (C := RX4) (T := TX4) (N := 24) hx hb hts (k_X4_round_in4) tyX4 tyX4_ok nmX4 hown hK hP hD hS 0 rfl rfl 22 (by decide) (hts _ k_X4_round_f74) (fun _ h9 => h9) rfl (by decide +kernel) rfl rfl (Nat.le_of_ble_eq_true rfl) dX4_round_116 (fun H locs hP hD hS => ?_)
  have hP : va_P (dC, dI) vwCl [(mo, .inr (4, [.int th, .int zs, .int rq, .long k, .long l0, .int ti, .int ct, .int (nI n), .ref d1, .ref d2, .ref d3, .ref d4, .ref d5, .ref d6, .int (nI kc), .ref e1, .ref e2, .ref e3, .ref e4, .ref e5, .long x_9, .long x_3, .long x_12, .long x_11]))] H := hP
  have hD : va_D A [(mo, .inr (4, [.int th, .int zs, .int rq, .long k, .long l0, .int ti, .int ct, .int (nI n), .ref d1, .ref d2, .ref d3, .ref d4, .ref d5, .ref d6, .int (nI kc), .ref e1, .ref e2, .ref e3, .ref e4, .ref e5, .long x_9, .long x_3, .long x_12, .long x_11]))] := hD
  refine lv_aload_n hx hb dX4_round_119 rfl (lv_at hl 0 rfl) ?_
  refine lv_aload_n hx hb dX4_round_120 rfl (lv_at hl 0 rfl) ?_
  refine va_get (D := (dC, dI)) (ci := 4) (v := .long x_3) (C := RX4) (T := TX4) (N := 24) hx hb hts (k_X4_round_in4) hown hK hP 0 rfl rfl 21 (by decide) (hts _ k_X4_round_f67) (fun _ h9 => h9) rfl dX4_round_121 ?_
  refine lv_bipush (v := 17) hx hb dX4_round_124 (by decide) ?_
  refine ck_rl (va_runS (As := [.long x_3, .int 17]) (rest := [.ref mo]) ⟨hx, hb, hml, hown, hts⟩ (c_X4_turned l dC dI cI cJ cZ lo _ x_3 17) (va_cwS 2 hts gX4_round_X4_turned rfl rfl rfl (by decide +kernel) ⟨(Nat.le_of_ble_eq_true rfl), (Nat.le_of_ble_eq_true rfl)⟩) ⟨ck_blind, (ck_pre hG hP hD hS [] rfl (by decide) _)⟩ rfl rfl hl.1 rfl (lv_room (Nat.le_of_ble_eq_true rfl)) dX4_round_126 ⟨(Nat.le_of_ble_eq_true rfl), (Nat.le_of_ble_eq_true rfl)⟩) (fun r_13 hw_13 => ?_)
  have hw_13 : r_13 = ck_rot x_3 17 := hw_13
  subst hw_13
  refine lv_aload_n hx hb dX4_round_129 rfl (lv_at hl 0 rfl) ?_
  refine va_get (D := (dC, dI)) (ci := 4) (v := .long x_12) (C := RX4) (T := TX4) (N := 24) hx hb hts (k_X4_round_in4) hown hK hP 0 rfl rfl 22 (by decide) (hts _ k_X4_round_f74) (fun _ h9 => h9) rfl dX4_round_130 ?_
  refine lv_lxor hx hb dX4_round_133 ?_
  refine lv_topl (fun x_14 ex_14 => ?_)
  refine va_put (D := (dC, dI)) (ci := 4) (v := .long x_14) (ty := .long) (C := RX4) (T := TX4) (N := 24) hx hb hts (k_X4_round_in4) tyX4 tyX4_ok nmX4 hown hK hP hD hS 0 rfl rfl 21 (by decide) (hts _ k_X4_round_f67) (fun _ h9 => h9) rfl (by decide +kernel) rfl rfl (Nat.le_of_ble_eq_true rfl) dX4_round_134 (fun H locs hP hD hS => ?_)
  have hP : va_P (dC, dI) vwCl [(mo, .inr (4, [.int th, .int zs, .int rq, .long k, .long l0, .int ti, .int ct, .int (nI n), .ref d1, .ref d2, .ref d3, .ref d4, .ref d5, .ref d6, .int (nI kc), .ref e1, .ref e2, .ref e3, .ref e4, .ref e5, .long x_9, .long x_14, .long x_12, .long x_11]))] H := hP
  have hD : va_D A [(mo, .inr (4, [.int th, .int zs, .int rq, .long k, .long l0, .int ti, .int ct, .int (nI n), .ref d1, .ref d2, .ref d3, .ref d4, .ref d5, .ref d6, .int (nI kc), .ref e1, .ref e2, .ref e3, .ref e4, .ref e5, .long x_9, .long x_14, .long x_12, .long x_11]))] := hD
  refine lv_aload_n hx hb dX4_round_137 rfl (lv_at hl 0 rfl) ?_
  refine lv_aload_n hx hb dX4_round_138 rfl (lv_at hl 0 rfl) ?_
  refine va_get (D := (dC, dI)) (ci := 4) (v := .long x_12) (C := RX4) (T := TX4) (N := 24) hx hb hts (k_X4_round_in4) hown hK hP 0 rfl rfl 22 (by decide) (hts _ k_X4_round_f74) (fun _ h9 => h9) rfl dX4_round_139 ?_
  refine lv_bipush (v := 32) hx hb dX4_round_142 (by decide) ?_
  refine ck_rl (va_runS (As := [.long x_12, .int 32]) (rest := [.ref mo]) ⟨hx, hb, hml, hown, hts⟩ (c_X4_turned l dC dI cI cJ cZ lo _ x_12 32) (va_cwS 2 hts gX4_round_X4_turned rfl rfl rfl (by decide +kernel) ⟨(Nat.le_of_ble_eq_true rfl), (Nat.le_of_ble_eq_true rfl)⟩) ⟨ck_blind, (ck_pre hG hP hD hS [] rfl (by decide) _)⟩ rfl rfl hl.1 rfl (lv_room (Nat.le_of_ble_eq_true rfl)) dX4_round_144 ⟨(Nat.le_of_ble_eq_true rfl), (Nat.le_of_ble_eq_true rfl)⟩) (fun r_15 hw_15 => ?_)
  have hw_15 : r_15 = ck_rot x_12 32 := hw_15
  subst hw_15
  refine lv_topl (fun x_16 ex_16 => ?_)
  refine va_put (D := (dC, dI)) (ci := 4) (v := .long x_16) (ty := .long) (C := RX4) (T := TX4) (N := 24) hx hb hts (k_X4_round_in4) tyX4 tyX4_ok nmX4 hown hK hP hD hS 0 rfl rfl 22 (by decide) (hts _ k_X4_round_f74) (fun _ h9 => h9) rfl (by decide +kernel) rfl rfl (Nat.le_of_ble_eq_true rfl) dX4_round_147 (fun H locs hP hD hS => ?_)
  have hP : va_P (dC, dI) vwCl [(mo, .inr (4, [.int th, .int zs, .int rq, .long k, .long l0, .int ti, .int ct, .int (nI n), .ref d1, .ref d2, .ref d3, .ref d4, .ref d5, .ref d6, .int (nI kc), .ref e1, .ref e2, .ref e3, .ref e4, .ref e5, .long x_9, .long x_14, .long x_16, .long x_11]))] H := hP
  have hD : va_D A [(mo, .inr (4, [.int th, .int zs, .int rq, .long k, .long l0, .int ti, .int ct, .int (nI n), .ref d1, .ref d2, .ref d3, .ref d4, .ref d5, .ref d6, .int (nI kc), .ref e1, .ref e2, .ref e3, .ref e4, .ref e5, .long x_9, .long x_14, .long x_16, .long x_11]))] := hD
  refine ck_vr hx hb hr hlocks (Nat.le_of_ble_eq_true rfl) (Nat.le_of_ble_eq_true rfl) dX4_round_150 (x_9, x_14, x_16, x_11) hP hD hS ?_
  subst_vars
  rfl
set_option maxRecDepth 20000 in
theorem k_X4_take_f77 : (.fieldLink RX4 77 "CookieListenerModel" "v3" "J" : Cond) ∈ wsX4_take := by decide +kernel
set_option maxRecDepth 20000 in
theorem k_X4_take_in4 : ∀ w ∈ u_ws RX4 TX4 24, w ∈ wsX4_take := by decide +kernel
set_option maxRecDepth 20000 in
theorem k_X4_take_f64 : (.fieldLink RX4 64 "CookieListenerModel" "v0" "J" : Cond) ∈ wsX4_take := by decide +kernel
set_option maxHeartbeats 4000000 in
set_option maxRecDepth 100000 in
theorem c_X4_take (l : Launch) (dC : Nat → ClassId) (dI : Nat → Nat → Nat) (cI cJ cZ : ClassId) (lo sz : Nat) (mo : Nat) (th zs rq : Int32) (k l0 : Int64) (ti ct : Int32) (n : Nat) (d1 d2 d3 d4 d5 d6 : Nat) (kc : Nat) (e1 e2 e3 e4 e5 : Nat) (v0 v1 v2 v3 : Int64) (w : Int64) : Met l yX4_take wsX4_take ({ frames := 2, cells := 0, slots := 0, locals := 42 } : Room) (va_Pc [.ref mo, .long w] (ck_P (dC, dI) [(cI, .int), (cJ, .long), (cZ, .boolean)] lo sz [(mo, .inr (4, [.int th, .int zs, .int rq, .long k, .long l0, .int ti, .int ct, .int (nI n), .ref d1, .ref d2, .ref d3, .ref d4, .ref d5, .ref d6, .int (nI kc), .ref e1, .ref e2, .ref e3, .ref e4, .ref e5, .long v0, .long v1, .long v2, .long v3]))])) (va_Qv (fun (u : Int64 × Int64 × Int64 × Int64) => (u.1, u.2.1, u.2.2.1, u.2.2.2) = ck_absorb (v0, v1, v2, v3) w) (fun u => ck_B (dC, dI) vwCl (va_A [(mo, .inr (4, [.int th, .int zs, .int rq, .long k, .long l0, .int ti, .int ct, .int (nI n), .ref d1, .ref d2, .ref d3, .ref d4, .ref d5, .ref d6, .int (nI kc), .ref e1, .ref e2, .ref e3, .ref e4, .ref e5, .long v0, .long v1, .long v2, .long v3]))] sz) ((fun u : Int64 × Int64 × Int64 × Int64 => ([(mo, .inr (4, [.int th, .int zs, .int rq, .long k, .long l0, .int ti, .int ct, .int (nI n), .ref d1, .ref d2, .ref d3, .ref d4, .ref d5, .ref d6, .int (nI kc), .ref e1, .ref e2, .ref e3, .ref e4, .ref e5, .long u.1, .long u.2.1, .long u.2.2.1, .long u.2.2.2]))] : va_W)) u)) (va_A [(mo, .inr (4, [.int th, .int zs, .int rq, .long k, .long l0, .int ti, .int ct, .int (nI n), .ref d1, .ref d2, .ref d3, .ref d4, .ref d5, .ref d6, .int (nI kc), .ref e1, .ref e2, .ref e3, .ref e4, .ref e5, .long v0, .long v1, .long v2, .long v3]))] sz)) 0 0 (va_A [(mo, .inr (4, [.int th, .int zs, .int rq, .long k, .long l0, .int ti, .int ct, .int (nI n), .ref d1, .ref d2, .ref d3, .ref d4, .ref d5, .ref d6, .int (nI kc), .ref e1, .ref e2, .ref e3, .ref e4, .ref e5, .long v0, .long v1, .long v2, .long v3]))] sz) := by
  refine Met.ofW (cc := cX4_take) (maxL := 3) (ret := none) (by decide) rfl ?_
  intro p e s m args below meth c s₁ B hml hv
  obtain ⟨rfl, hsz, hP, hK, hD0, hE⟩ := hv
  have hx := B.exec
  have hb := B.bytes
  have hr := B.returns
  have hts := atoms_spec (ws := wsX4_take) B.pre
  have hown : s.vm.findClass RX4 = some m.cls := findClass_of_methodNamed B.named
  have hlocks := B.notSynchronized
  subst hsz
  have hD := hD0.self (sz := s.heap.size)
  have hlo := ck_lo (sz := s.heap.size) hD0 hE.1
  generalize hAe : va_A [(mo, .inr (4, [.int th, .int zs, .int rq, .long k, .long l0, .int ti, .int ct, .int (nI n), .ref d1, .ref d2, .ref d3, .ref d4, .ref d5, .ref d6, .int (nI kc), .ref e1, .ref e2, .ref e3, .ref e4, .ref e5, .long v0, .long v1, .long v2, .long v3]))] s.heap.size = A at hD hlo ⊢
  have hA : ∀ q : Nat, s.heap.size ≤ q → A q := fun q h => by rw [← hAe]; exact Or.inr h
  have hG : ck_G (dC, dI) [(cI, .int), (cJ, .long), (cZ, .boolean)] lo A s := ⟨hK, hE, hA, hlo⟩
  have hS : va_S A s.heap s.heap [] := va_S.rf
  have hP : va_P (dC, dI) vwCl [(mo, .inr (4, [.int th, .int zs, .int rq, .long k, .long l0, .int ti, .int ct, .int (nI n), .ref d1, .ref d2, .ref d3, .ref d4, .ref d5, .ref d6, .int (nI kc), .ref e1, .ref e2, .ref e3, .ref e4, .ref e5, .long v0, .long v1, .long v2, .long v3]))] s.heap := hP
  have hl := lv_entry ([.ref mo, .long w]) (n := 3) (Nat.le_of_ble_eq_true rfl)
  rw [lg_entry_eq]
  generalize (lg_sl ([.ref mo, .long w]) ++ List.replicate (3 - (lg_sl ([.ref mo, .long w])).length) Slot.unset).toArray = ls at hl ⊢
  have hl : lv_has ls 3 [(0, .ref mo), (1, .long w)] := hl
  refine lv_aload_n hx hb dX4_take_0 rfl (lv_at hl 0 rfl) ?_
  refine lv_aload_n hx hb dX4_take_1 rfl (lv_at hl 0 rfl) ?_
  refine va_get (D := (dC, dI)) (ci := 4) (v := .long v3) (C := RX4) (T := TX4) (N := 24) hx hb hts (k_X4_take_in4) hown hK hP 0 rfl rfl 23 (by decide) (hts _ k_X4_take_f77) (fun _ h9 => h9) rfl dX4_take_2 ?_
  refine lv_lload_n hx hb dX4_take_5 rfl (lv_at hl 1 rfl) ?_
  refine lv_lxor hx hb dX4_take_6 ?_
  refine lv_topl (fun x_1 ex_1 => ?_)
  refine va_put (D := (dC, dI)) (ci := 4) (v := .long x_1) (ty := .long) (C := RX4) (T := TX4) (N := 24) hx hb hts (k_X4_take_in4) tyX4 tyX4_ok nmX4 hown hK hP hD hS 0 rfl rfl 23 (by decide) (hts _ k_X4_take_f77) (fun _ h9 => h9) rfl (by decide +kernel) rfl rfl (Nat.le_of_ble_eq_true rfl) dX4_take_7 (fun H locs hP hD hS => ?_)
  have hP : va_P (dC, dI) vwCl [(mo, .inr (4, [.int th, .int zs, .int rq, .long k, .long l0, .int ti, .int ct, .int (nI n), .ref d1, .ref d2, .ref d3, .ref d4, .ref d5, .ref d6, .int (nI kc), .ref e1, .ref e2, .ref e3, .ref e4, .ref e5, .long v0, .long v1, .long v2, .long x_1]))] H := hP
  have hD : va_D A [(mo, .inr (4, [.int th, .int zs, .int rq, .long k, .long l0, .int ti, .int ct, .int (nI n), .ref d1, .ref d2, .ref d3, .ref d4, .ref d5, .ref d6, .int (nI kc), .ref e1, .ref e2, .ref e3, .ref e4, .ref e5, .long v0, .long v1, .long v2, .long x_1]))] := hD
  refine lv_aload_n hx hb dX4_take_10 rfl (lv_at hl 0 rfl) ?_
  refine ck_cv (wr := []) (va_runV (As := []) (rest := []) ⟨hx, hb, hml, hown, hts⟩ (c_X4_round l dC dI cI cJ cZ lo _ mo th zs rq k l0 ti ct n d1 d2 d3 d4 d5 d6 kc e1 e2 e3 e4 e5 v0 v1 v2 x_1) (cwV 0 hts gX4_take_X4_round rfl rfl rfl (by decide +kernel) ⟨(Nat.le_of_ble_eq_true rfl), (Nat.le_of_ble_eq_true rfl)⟩) ⟨ck_blind, va_recv hK hP (ci := 4) (q0 := 0) rfl rfl, (ck_pre hG hP hD hS [0] rfl (by decide) _)⟩ rfl rfl hl.1 rfl (lv_room (Nat.le_of_ble_eq_true rfl)) dX4_take_11 ⟨(Nat.le_of_ble_eq_true rfl), (Nat.le_of_ble_eq_true rfl)⟩) hP hD hS hA [0] [] rfl rfl (by decide) (by decide) (fun u H locs hw_2 hP hD hS => ?_)
  obtain ⟨u0_2, u1_2, u2_2, u3_2⟩ := u
  have hw_2 : (u0_2, u1_2, u2_2, u3_2) = ck_round (v0, v1, v2, x_1) := hw_2
  have hP : va_P (dC, dI) vwCl [(mo, .inr (4, [.int th, .int zs, .int rq, .long k, .long l0, .int ti, .int ct, .int (nI n), .ref d1, .ref d2, .ref d3, .ref d4, .ref d5, .ref d6, .int (nI kc), .ref e1, .ref e2, .ref e3, .ref e4, .ref e5, .long u0_2, .long u1_2, .long u2_2, .long u3_2]))] H := hP
  have hD : va_D A [(mo, .inr (4, [.int th, .int zs, .int rq, .long k, .long l0, .int ti, .int ct, .int (nI n), .ref d1, .ref d2, .ref d3, .ref d4, .ref d5, .ref d6, .int (nI kc), .ref e1, .ref e2, .ref e3, .ref e4, .ref e5, .long u0_2, .long u1_2, .long u2_2, .long u3_2]))] := hD
  refine lv_aload_n hx hb dX4_take_14 rfl (lv_at hl 0 rfl) ?_
  refine ck_cv (wr := []) (va_runV (As := []) (rest := []) ⟨hx, hb, hml, hown, hts⟩ (c_X4_round l dC dI cI cJ cZ lo _ mo th zs rq k l0 ti ct n d1 d2 d3 d4 d5 d6 kc e1 e2 e3 e4 e5 u0_2 u1_2 u2_2 u3_2) (cwV 0 hts gX4_take_X4_round rfl rfl rfl (by decide +kernel) ⟨(Nat.le_of_ble_eq_true rfl), (Nat.le_of_ble_eq_true rfl)⟩) ⟨ck_blind, va_recv hK hP (ci := 4) (q0 := 0) rfl rfl, (ck_pre hG hP hD hS [0] rfl (by decide) _)⟩ rfl rfl hl.1 rfl (lv_room (Nat.le_of_ble_eq_true rfl)) dX4_take_15 ⟨(Nat.le_of_ble_eq_true rfl), (Nat.le_of_ble_eq_true rfl)⟩) hP hD hS hA [0] [] rfl rfl (by decide) (by decide) (fun u H locs hw_3 hP hD hS => ?_)
  obtain ⟨u0_3, u1_3, u2_3, u3_3⟩ := u
  have hw_3 : (u0_3, u1_3, u2_3, u3_3) = ck_round (u0_2, u1_2, u2_2, u3_2) := hw_3
  have hP : va_P (dC, dI) vwCl [(mo, .inr (4, [.int th, .int zs, .int rq, .long k, .long l0, .int ti, .int ct, .int (nI n), .ref d1, .ref d2, .ref d3, .ref d4, .ref d5, .ref d6, .int (nI kc), .ref e1, .ref e2, .ref e3, .ref e4, .ref e5, .long u0_3, .long u1_3, .long u2_3, .long u3_3]))] H := hP
  have hD : va_D A [(mo, .inr (4, [.int th, .int zs, .int rq, .long k, .long l0, .int ti, .int ct, .int (nI n), .ref d1, .ref d2, .ref d3, .ref d4, .ref d5, .ref d6, .int (nI kc), .ref e1, .ref e2, .ref e3, .ref e4, .ref e5, .long u0_3, .long u1_3, .long u2_3, .long u3_3]))] := hD
  refine lv_aload_n hx hb dX4_take_18 rfl (lv_at hl 0 rfl) ?_
  refine lv_aload_n hx hb dX4_take_19 rfl (lv_at hl 0 rfl) ?_
  refine va_get (D := (dC, dI)) (ci := 4) (v := .long u0_3) (C := RX4) (T := TX4) (N := 24) hx hb hts (k_X4_take_in4) hown hK hP 0 rfl rfl 20 (by decide) (hts _ k_X4_take_f64) (fun _ h9 => h9) rfl dX4_take_20 ?_
  refine lv_lload_n hx hb dX4_take_23 rfl (lv_at hl 1 rfl) ?_
  refine lv_lxor hx hb dX4_take_24 ?_
  refine lv_topl (fun x_4 ex_4 => ?_)
  refine va_put (D := (dC, dI)) (ci := 4) (v := .long x_4) (ty := .long) (C := RX4) (T := TX4) (N := 24) hx hb hts (k_X4_take_in4) tyX4 tyX4_ok nmX4 hown hK hP hD hS 0 rfl rfl 20 (by decide) (hts _ k_X4_take_f64) (fun _ h9 => h9) rfl (by decide +kernel) rfl rfl (Nat.le_of_ble_eq_true rfl) dX4_take_25 (fun H locs hP hD hS => ?_)
  have hP : va_P (dC, dI) vwCl [(mo, .inr (4, [.int th, .int zs, .int rq, .long k, .long l0, .int ti, .int ct, .int (nI n), .ref d1, .ref d2, .ref d3, .ref d4, .ref d5, .ref d6, .int (nI kc), .ref e1, .ref e2, .ref e3, .ref e4, .ref e5, .long x_4, .long u1_3, .long u2_3, .long u3_3]))] H := hP
  have hD : va_D A [(mo, .inr (4, [.int th, .int zs, .int rq, .long k, .long l0, .int ti, .int ct, .int (nI n), .ref d1, .ref d2, .ref d3, .ref d4, .ref d5, .ref d6, .int (nI kc), .ref e1, .ref e2, .ref e3, .ref e4, .ref e5, .long x_4, .long u1_3, .long u2_3, .long u3_3]))] := hD
  refine ck_vr hx hb hr hlocks (Nat.le_of_ble_eq_true rfl) (Nat.le_of_ble_eq_true rfl) dX4_take_28 (x_4, u1_3, u2_3, u3_3) hP hD hS ?_
  subst_vars
  have e9 : ck_mix 2 (v0, v1, v2, v3 ^^^ w) = ck_round (ck_round (v0, v1, v2, v3 ^^^ w)) := rfl
  unfold ck_absorb
  dsimp only
  rw [e9, ← hw_2, ← hw_3]
set_option maxRecDepth 20000 in
theorem k_X4_hashOf_f57 : (.fieldLink RX4 57 "CookieListenerModel" "k" "J" : Cond) ∈ wsX4_hashOf := by decide +kernel
set_option maxRecDepth 20000 in
theorem k_X4_hashOf_in4 : ∀ w ∈ u_ws RX4 TX4 24, w ∈ wsX4_hashOf := by decide +kernel
set_option maxRecDepth 20000 in
theorem k_X4_hashOf_c83 : (.constantLong RX4 83 (8317987319222330741) : Cond) ∈ wsX4_hashOf := by decide +kernel
set_option maxRecDepth 20000 in
theorem k_X4_hashOf_f64 : (.fieldLink RX4 64 "CookieListenerModel" "v0" "J" : Cond) ∈ wsX4_hashOf := by decide +kernel
set_option maxRecDepth 20000 in
theorem k_X4_hashOf_f61 : (.fieldLink RX4 61 "CookieListenerModel" "l" "J" : Cond) ∈ wsX4_hashOf := by decide +kernel
set_option maxRecDepth 20000 in
theorem k_X4_hashOf_c85 : (.constantLong RX4 85 (7237128888997146477) : Cond) ∈ wsX4_hashOf := by decide +kernel
set_option maxRecDepth 20000 in
theorem k_X4_hashOf_f67 : (.fieldLink RX4 67 "CookieListenerModel" "v1" "J" : Cond) ∈ wsX4_hashOf := by decide +kernel
set_option maxRecDepth 20000 in
theorem k_X4_hashOf_c87 : (.constantLong RX4 87 (7816392313619706465) : Cond) ∈ wsX4_hashOf := by decide +kernel
set_option maxRecDepth 20000 in
theorem k_X4_hashOf_f74 : (.fieldLink RX4 74 "CookieListenerModel" "v2" "J" : Cond) ∈ wsX4_hashOf := by decide +kernel
set_option maxRecDepth 20000 in
theorem k_X4_hashOf_c89 : (.constantLong RX4 89 (8387220255154660723) : Cond) ∈ wsX4_hashOf := by decide +kernel
set_option maxRecDepth 20000 in
theorem k_X4_hashOf_f77 : (.fieldLink RX4 77 "CookieListenerModel" "v3" "J" : Cond) ∈ wsX4_hashOf := by decide +kernel
set_option maxRecDepth 20000 in
theorem k_X4_hashOf_c95 : (.constantLong RX4 95 (1152921504606846976) : Cond) ∈ wsX4_hashOf := by decide +kernel
set_option maxRecDepth 20000 in
theorem k_X4_hashOf_c97 : (.constantLong RX4 97 (255) : Cond) ∈ wsX4_hashOf := by decide +kernel
set_option maxHeartbeats 4000000 in
set_option maxRecDepth 100000 in
theorem c_X4_hashOf (l : Launch) (dC : Nat → ClassId) (dI : Nat → Nat → Nat) (cI cJ cZ : ClassId) (lo sz : Nat) (mo : Nat) (th zs rq : Int32) (k l0 : Int64) (ti ct : Int32) (n : Nat) (d1 d2 d3 d4 d5 d6 : Nat) (kc : Nat) (e1 e2 e3 e4 e5 : Nat) (v0 v1 v2 v3 : Int64) (w1 w2 : Int64) : Met l yX4_hashOf wsX4_hashOf ({ frames := 3, cells := 0, slots := 0, locals := 64 } : Room) (va_Pc [.ref mo, .long w1, .long w2] (ck_P (dC, dI) [(cI, .int), (cJ, .long), (cZ, .boolean)] lo sz [(mo, .inr (4, [.int th, .int zs, .int rq, .long k, .long l0, .int ti, .int ct, .int (nI n), .ref d1, .ref d2, .ref d3, .ref d4, .ref d5, .ref d6, .int (nI kc), .ref e1, .ref e2, .ref e3, .ref e4, .ref e5, .long v0, .long v1, .long v2, .long v3]))])) (va_Ql (fun (r : Int64) (u : Int64 × Int64 × Int64 × Int64) => r = ck_sip k l0 w1 w2) (fun u => ck_B (dC, dI) vwCl (va_A [(mo, .inr (4, [.int th, .int zs, .int rq, .long k, .long l0, .int ti, .int ct, .int (nI n), .ref d1, .ref d2, .ref d3, .ref d4, .ref d5, .ref d6, .int (nI kc), .ref e1, .ref e2, .ref e3, .ref e4, .ref e5, .long v0, .long v1, .long v2, .long v3]))] sz) ((fun u : Int64 × Int64 × Int64 × Int64 => ([(mo, .inr (4, [.int th, .int zs, .int rq, .long k, .long l0, .int ti, .int ct, .int (nI n), .ref d1, .ref d2, .ref d3, .ref d4, .ref d5, .ref d6, .int (nI kc), .ref e1, .ref e2, .ref e3, .ref e4, .ref e5, .long u.1, .long u.2.1, .long u.2.2.1, .long u.2.2.2]))] : va_W)) u)) (va_A [(mo, .inr (4, [.int th, .int zs, .int rq, .long k, .long l0, .int ti, .int ct, .int (nI n), .ref d1, .ref d2, .ref d3, .ref d4, .ref d5, .ref d6, .int (nI kc), .ref e1, .ref e2, .ref e3, .ref e4, .ref e5, .long v0, .long v1, .long v2, .long v3]))] sz)) 0 0 (va_A [(mo, .inr (4, [.int th, .int zs, .int rq, .long k, .long l0, .int ti, .int ct, .int (nI n), .ref d1, .ref d2, .ref d3, .ref d4, .ref d5, .ref d6, .int (nI kc), .ref e1, .ref e2, .ref e3, .ref e4, .ref e5, .long v0, .long v1, .long v2, .long v3]))] sz) := by
  refine Met.ofW (cc := cX4_hashOf) (maxL := 6) (ret := (some .long)) (by decide) rfl ?_
  intro p e s m args below meth c s₁ B hml hv
  obtain ⟨rfl, hsz, hP, hK, hD0, hE⟩ := hv
  have hx := B.exec
  have hb := B.bytes
  have hr := B.returns
  have hts := atoms_spec (ws := wsX4_hashOf) B.pre
  have hown : s.vm.findClass RX4 = some m.cls := findClass_of_methodNamed B.named
  have hlocks := B.notSynchronized
  subst hsz
  have hD := hD0.self (sz := s.heap.size)
  have hlo := ck_lo (sz := s.heap.size) hD0 hE.1
  generalize hAe : va_A [(mo, .inr (4, [.int th, .int zs, .int rq, .long k, .long l0, .int ti, .int ct, .int (nI n), .ref d1, .ref d2, .ref d3, .ref d4, .ref d5, .ref d6, .int (nI kc), .ref e1, .ref e2, .ref e3, .ref e4, .ref e5, .long v0, .long v1, .long v2, .long v3]))] s.heap.size = A at hD hlo ⊢
  have hA : ∀ q : Nat, s.heap.size ≤ q → A q := fun q h => by rw [← hAe]; exact Or.inr h
  have hG : ck_G (dC, dI) [(cI, .int), (cJ, .long), (cZ, .boolean)] lo A s := ⟨hK, hE, hA, hlo⟩
  have hS : va_S A s.heap s.heap [] := va_S.rf
  have hP : va_P (dC, dI) vwCl [(mo, .inr (4, [.int th, .int zs, .int rq, .long k, .long l0, .int ti, .int ct, .int (nI n), .ref d1, .ref d2, .ref d3, .ref d4, .ref d5, .ref d6, .int (nI kc), .ref e1, .ref e2, .ref e3, .ref e4, .ref e5, .long v0, .long v1, .long v2, .long v3]))] s.heap := hP
  have hl := lv_entry ([.ref mo, .long w1, .long w2]) (n := 6) (Nat.le_of_ble_eq_true rfl)
  rw [lg_entry_eq]
  generalize (lg_sl ([.ref mo, .long w1, .long w2]) ++ List.replicate (6 - (lg_sl ([.ref mo, .long w1, .long w2])).length) Slot.unset).toArray = ls at hl ⊢
  have hl : lv_has ls 6 [(0, .ref mo), (1, .long w1), (3, .long w2)] := hl
  refine lv_aload_n hx hb dX4_hashOf_0 rfl (lv_at hl 0 rfl) ?_
  refine lv_aload_n hx hb dX4_hashOf_1 rfl (lv_at hl 0 rfl) ?_
  refine va_get (D := (dC, dI)) (ci := 4) (v := .long k) (C := RX4) (T := TX4) (N := 24) hx hb hts (k_X4_hashOf_in4) hown hK hP 0 rfl rfl 3 (by decide) (hts _ k_X4_hashOf_f57) (fun _ h9 => h9) rfl dX4_hashOf_2 ?_
  refine lv_ldc2 hx hb hown (hts _ k_X4_hashOf_c83) dX4_hashOf_5 ?_
  refine lv_lxor hx hb dX4_hashOf_8 ?_
  refine lv_topl (fun x_1 ex_1 => ?_)
  refine va_put (D := (dC, dI)) (ci := 4) (v := .long x_1) (ty := .long) (C := RX4) (T := TX4) (N := 24) hx hb hts (k_X4_hashOf_in4) tyX4 tyX4_ok nmX4 hown hK hP hD hS 0 rfl rfl 20 (by decide) (hts _ k_X4_hashOf_f64) (fun _ h9 => h9) rfl (by decide +kernel) rfl rfl (Nat.le_of_ble_eq_true rfl) dX4_hashOf_9 (fun H locs hP hD hS => ?_)
  have hP : va_P (dC, dI) vwCl [(mo, .inr (4, [.int th, .int zs, .int rq, .long k, .long l0, .int ti, .int ct, .int (nI n), .ref d1, .ref d2, .ref d3, .ref d4, .ref d5, .ref d6, .int (nI kc), .ref e1, .ref e2, .ref e3, .ref e4, .ref e5, .long x_1, .long v1, .long v2, .long v3]))] H := hP
  have hD : va_D A [(mo, .inr (4, [.int th, .int zs, .int rq, .long k, .long l0, .int ti, .int ct, .int (nI n), .ref d1, .ref d2, .ref d3, .ref d4, .ref d5, .ref d6, .int (nI kc), .ref e1, .ref e2, .ref e3, .ref e4, .ref e5, .long x_1, .long v1, .long v2, .long v3]))] := hD
  refine lv_aload_n hx hb dX4_hashOf_12 rfl (lv_at hl 0 rfl) ?_
  refine lv_aload_n hx hb dX4_hashOf_13 rfl (lv_at hl 0 rfl) ?_
  refine va_get (D := (dC, dI)) (ci := 4) (v := .long l0) (C := RX4) (T := TX4) (N := 24) hx hb hts (k_X4_hashOf_in4) hown hK hP 0 rfl rfl 4 (by decide) (hts _ k_X4_hashOf_f61) (fun _ h9 => h9) rfl dX4_hashOf_14 ?_
  refine lv_ldc2 hx hb hown (hts _ k_X4_hashOf_c85) dX4_hashOf_17 ?_
  refine lv_lxor hx hb dX4_hashOf_20 ?_
  refine lv_topl (fun x_2 ex_2 => ?_)
  refine va_put (D := (dC, dI)) (ci := 4) (v := .long x_2) (ty := .long) (C := RX4) (T := TX4) (N := 24) hx hb hts (k_X4_hashOf_in4) tyX4 tyX4_ok nmX4 hown hK hP hD hS 0 rfl rfl 21 (by decide) (hts _ k_X4_hashOf_f67) (fun _ h9 => h9) rfl (by decide +kernel) rfl rfl (Nat.le_of_ble_eq_true rfl) dX4_hashOf_21 (fun H locs hP hD hS => ?_)
  have hP : va_P (dC, dI) vwCl [(mo, .inr (4, [.int th, .int zs, .int rq, .long k, .long l0, .int ti, .int ct, .int (nI n), .ref d1, .ref d2, .ref d3, .ref d4, .ref d5, .ref d6, .int (nI kc), .ref e1, .ref e2, .ref e3, .ref e4, .ref e5, .long x_1, .long x_2, .long v2, .long v3]))] H := hP
  have hD : va_D A [(mo, .inr (4, [.int th, .int zs, .int rq, .long k, .long l0, .int ti, .int ct, .int (nI n), .ref d1, .ref d2, .ref d3, .ref d4, .ref d5, .ref d6, .int (nI kc), .ref e1, .ref e2, .ref e3, .ref e4, .ref e5, .long x_1, .long x_2, .long v2, .long v3]))] := hD
  refine lv_aload_n hx hb dX4_hashOf_24 rfl (lv_at hl 0 rfl) ?_
  refine lv_aload_n hx hb dX4_hashOf_25 rfl (lv_at hl 0 rfl) ?_
  refine va_get (D := (dC, dI)) (ci := 4) (v := .long k) (C := RX4) (T := TX4) (N := 24) hx hb hts (k_X4_hashOf_in4) hown hK hP 0 rfl rfl 3 (by decide) (hts _ k_X4_hashOf_f57) (fun _ h9 => h9) rfl dX4_hashOf_26 ?_
  refine lv_ldc2 hx hb hown (hts _ k_X4_hashOf_c87) dX4_hashOf_29 ?_
  refine lv_lxor hx hb dX4_hashOf_32 ?_
  refine lv_topl (fun x_3 ex_3 => ?_)
  refine va_put (D := (dC, dI)) (ci := 4) (v := .long x_3) (ty := .long) (C := RX4) (T := TX4) (N := 24) hx hb hts (k_X4_hashOf_in4) tyX4 tyX4_ok nmX4 hown hK hP hD hS 0 rfl rfl 22 (by decide) (hts _ k_X4_hashOf_f74) (fun _ h9 => h9) rfl (by decide +kernel) rfl rfl (Nat.le_of_ble_eq_true rfl) dX4_hashOf_33 (fun H locs hP hD hS => ?_)
  have hP : va_P (dC, dI) vwCl [(mo, .inr (4, [.int th, .int zs, .int rq, .long k, .long l0, .int ti, .int ct, .int (nI n), .ref d1, .ref d2, .ref d3, .ref d4, .ref d5, .ref d6, .int (nI kc), .ref e1, .ref e2, .ref e3, .ref e4, .ref e5, .long x_1, .long x_2, .long x_3, .long v3]))] H := hP
  have hD : va_D A [(mo, .inr (4, [.int th, .int zs, .int rq, .long k, .long l0, .int ti, .int ct, .int (nI n), .ref d1, .ref d2, .ref d3, .ref d4, .ref d5, .ref d6, .int (nI kc), .ref e1, .ref e2, .ref e3, .ref e4, .ref e5, .long x_1, .long x_2, .long x_3, .long v3]))] := hD
  refine lv_aload_n hx hb dX4_hashOf_36 rfl (lv_at hl 0 rfl) ?_
  refine lv_aload_n hx hb dX4_hashOf_37 rfl (lv_at hl 0 rfl) ?_
  refine va_get (D := (dC, dI)) (ci := 4) (v := .long l0) (C := RX4) (T := TX4) (N := 24) hx hb hts (k_X4_hashOf_in4) hown hK hP 0 rfl rfl 4 (by decide) (hts _ k_X4_hashOf_f61) (fun _ h9 => h9) rfl dX4_hashOf_38 ?_
  refine lv_ldc2 hx hb hown (hts _ k_X4_hashOf_c89) dX4_hashOf_41 ?_
  refine lv_lxor hx hb dX4_hashOf_44 ?_
  refine lv_topl (fun x_4 ex_4 => ?_)
  refine va_put (D := (dC, dI)) (ci := 4) (v := .long x_4) (ty := .long) (C := RX4) (T := TX4) (N := 24) hx hb hts (k_X4_hashOf_in4) tyX4 tyX4_ok nmX4 hown hK hP hD hS 0 rfl rfl 23 (by decide) (hts _ k_X4_hashOf_f77) (fun _ h9 => h9) rfl (by decide +kernel) rfl rfl (Nat.le_of_ble_eq_true rfl) dX4_hashOf_45 (fun H locs hP hD hS => ?_)
  have hP : va_P (dC, dI) vwCl [(mo, .inr (4, [.int th, .int zs, .int rq, .long k, .long l0, .int ti, .int ct, .int (nI n), .ref d1, .ref d2, .ref d3, .ref d4, .ref d5, .ref d6, .int (nI kc), .ref e1, .ref e2, .ref e3, .ref e4, .ref e5, .long x_1, .long x_2, .long x_3, .long x_4]))] H := hP
  have hD : va_D A [(mo, .inr (4, [.int th, .int zs, .int rq, .long k, .long l0, .int ti, .int ct, .int (nI n), .ref d1, .ref d2, .ref d3, .ref d4, .ref d5, .ref d6, .int (nI kc), .ref e1, .ref e2, .ref e3, .ref e4, .ref e5, .long x_1, .long x_2, .long x_3, .long x_4]))] := hD
  refine lv_aload_n hx hb dX4_hashOf_48 rfl (lv_at hl 0 rfl) ?_
  refine lv_lload_n hx hb dX4_hashOf_49 rfl (lv_at hl 1 rfl) ?_
  refine ck_cv (wr := []) (va_runV (As := [.long w1]) (rest := []) ⟨hx, hb, hml, hown, hts⟩ (c_X4_take l dC dI cI cJ cZ lo _ mo th zs rq k l0 ti ct n d1 d2 d3 d4 d5 d6 kc e1 e2 e3 e4 e5 x_1 x_2 x_3 x_4 w1) (cwV 1 hts gX4_hashOf_X4_take rfl rfl rfl (by decide +kernel) ⟨(Nat.le_of_ble_eq_true rfl), (Nat.le_of_ble_eq_true rfl)⟩) ⟨ck_blind, va_recv hK hP (ci := 4) (q0 := 0) rfl rfl, (ck_pre hG hP hD hS [0] rfl (by decide) _)⟩ rfl rfl hl.1 rfl (lv_room (Nat.le_of_ble_eq_true rfl)) dX4_hashOf_50 ⟨(Nat.le_of_ble_eq_true rfl), (Nat.le_of_ble_eq_true rfl)⟩) hP hD hS hA [0] [] rfl rfl (by decide) (by decide) (fun u H locs hw_5 hP hD hS => ?_)
  obtain ⟨u0_5, u1_5, u2_5, u3_5⟩ := u
  have hw_5 : (u0_5, u1_5, u2_5, u3_5) = ck_absorb (x_1, x_2, x_3, x_4) w1 := hw_5
  have hP : va_P (dC, dI) vwCl [(mo, .inr (4, [.int th, .int zs, .int rq, .long k, .long l0, .int ti, .int ct, .int (nI n), .ref d1, .ref d2, .ref d3, .ref d4, .ref d5, .ref d6, .int (nI kc), .ref e1, .ref e2, .ref e3, .ref e4, .ref e5, .long u0_5, .long u1_5, .long u2_5, .long u3_5]))] H := hP
  have hD : va_D A [(mo, .inr (4, [.int th, .int zs, .int rq, .long k, .long l0, .int ti, .int ct, .int (nI n), .ref d1, .ref d2, .ref d3, .ref d4, .ref d5, .ref d6, .int (nI kc), .ref e1, .ref e2, .ref e3, .ref e4, .ref e5, .long u0_5, .long u1_5, .long u2_5, .long u3_5]))] := hD
  refine lv_aload_n hx hb dX4_hashOf_53 rfl (lv_at hl 0 rfl) ?_
  refine lv_lload_n hx hb dX4_hashOf_54 rfl (lv_at hl 2 rfl) ?_
  refine ck_cv (wr := []) (va_runV (As := [.long w2]) (rest := []) ⟨hx, hb, hml, hown, hts⟩ (c_X4_take l dC dI cI cJ cZ lo _ mo th zs rq k l0 ti ct n d1 d2 d3 d4 d5 d6 kc e1 e2 e3 e4 e5 u0_5 u1_5 u2_5 u3_5 w2) (cwV 1 hts gX4_hashOf_X4_take rfl rfl rfl (by decide +kernel) ⟨(Nat.le_of_ble_eq_true rfl), (Nat.le_of_ble_eq_true rfl)⟩) ⟨ck_blind, va_recv hK hP (ci := 4) (q0 := 0) rfl rfl, (ck_pre hG hP hD hS [0] rfl (by decide) _)⟩ rfl rfl hl.1 rfl (lv_room (Nat.le_of_ble_eq_true rfl)) dX4_hashOf_55 ⟨(Nat.le_of_ble_eq_true rfl), (Nat.le_of_ble_eq_true rfl)⟩) hP hD hS hA [0] [] rfl rfl (by decide) (by decide) (fun u H locs hw_6 hP hD hS => ?_)
  obtain ⟨u0_6, u1_6, u2_6, u3_6⟩ := u
  have hw_6 : (u0_6, u1_6, u2_6, u3_6) = ck_absorb (u0_5, u1_5, u2_5, u3_5) w2 := hw_6
  have hP : va_P (dC, dI) vwCl [(mo, .inr (4, [.int th, .int zs, .int rq, .long k, .long l0, .int ti, .int ct, .int (nI n), .ref d1, .ref d2, .ref d3, .ref d4, .ref d5, .ref d6, .int (nI kc), .ref e1, .ref e2, .ref e3, .ref e4, .ref e5, .long u0_6, .long u1_6, .long u2_6, .long u3_6]))] H := hP
  have hD : va_D A [(mo, .inr (4, [.int th, .int zs, .int rq, .long k, .long l0, .int ti, .int ct, .int (nI n), .ref d1, .ref d2, .ref d3, .ref d4, .ref d5, .ref d6, .int (nI kc), .ref e1, .ref e2, .ref e3, .ref e4, .ref e5, .long u0_6, .long u1_6, .long u2_6, .long u3_6]))] := hD
  refine lv_aload_n hx hb dX4_hashOf_58 rfl (lv_at hl 0 rfl) ?_
  refine lv_ldc2 hx hb hown (hts _ k_X4_hashOf_c95) dX4_hashOf_59 ?_
  refine ck_cv (wr := []) (va_runV (As := [.long 1152921504606846976]) (rest := []) ⟨hx, hb, hml, hown, hts⟩ (c_X4_take l dC dI cI cJ cZ lo _ mo th zs rq k l0 ti ct n d1 d2 d3 d4 d5 d6 kc e1 e2 e3 e4 e5 u0_6 u1_6 u2_6 u3_6 1152921504606846976) (cwV 1 hts gX4_hashOf_X4_take rfl rfl rfl (by decide +kernel) ⟨(Nat.le_of_ble_eq_true rfl), (Nat.le_of_ble_eq_true rfl)⟩) ⟨ck_blind, va_recv hK hP (ci := 4) (q0 := 0) rfl rfl, (ck_pre hG hP hD hS [0] rfl (by decide) _)⟩ rfl rfl hl.1 rfl (lv_room (Nat.le_of_ble_eq_true rfl)) dX4_hashOf_62 ⟨(Nat.le_of_ble_eq_true rfl), (Nat.le_of_ble_eq_true rfl)⟩) hP hD hS hA [0] [] rfl rfl (by decide) (by decide) (fun u H locs hw_7 hP hD hS => ?_)
  obtain ⟨u0_7, u1_7, u2_7, u3_7⟩ := u
  have hw_7 : (u0_7, u1_7, u2_7, u3_7) = ck_absorb (u0_6, u1_6, u2_6, u3_6) 1152921504606846976 := hw_7
  have hP : va_P (dC, dI) vwCl [(mo, .inr (4, [.int th, .int zs, .int rq, .long k, .long l0, .int ti, .int ct, .int (nI n), .ref d1, .ref d2, .ref d3, .ref d4, .ref d5, .ref d6, .int (nI kc), .ref e1, .ref e2, .ref e3, .ref e4, .ref e5, .long u0_7, .long u1_7, .long u2_7, .long u3_7]))] H := hP
  have hD : va_D A [(mo, .inr (4, [.int th, .int zs, .int rq, .long k, .long l0, .int ti, .int ct, .int (nI n), .ref d1, .ref d2, .ref d3, .ref d4, .ref d5, .ref d6, .int (nI kc), .ref e1, .ref e2, .ref e3, .ref e4, .ref e5, .long u0_7, .long u1_7, .long u2_7, .long u3_7]))] := hD
  refine lv_aload_n hx hb dX4_hashOf_65 rfl (lv_at hl 0 rfl) ?_
  refine lv_aload_n hx hb dX4_hashOf_66 rfl (lv_at hl 0 rfl) ?_
  refine va_get (D := (dC, dI)) (ci := 4) (v := .long u2_7) (C := RX4) (T := TX4) (N := 24) hx hb hts (k_X4_hashOf_in4) hown hK hP 0 rfl rfl 22 (by decide) (hts _ k_X4_hashOf_f74) (fun _ h9 => h9) rfl dX4_hashOf_67 ?_
  refine lv_ldc2 hx hb hown (hts _ k_X4_hashOf_c97) dX4_hashOf_70 ?_
  refine lv_lxor hx hb dX4_hashOf_73 ?_
  refine lv_topl (fun x_8 ex_8 => ?_)
  refine va_put (D := (dC, dI)) (ci := 4) (v := .long x_8) (ty := .long) (C := RX4) (T := TX4) (N := 24) hx hb hts (k_X4_hashOf_in4) tyX4 tyX4_ok nmX4 hown hK hP hD hS 0 rfl rfl 22 (by decide) (hts _ k_X4_hashOf_f74) (fun _ h9 => h9) rfl (by decide +kernel) rfl rfl (Nat.le_of_ble_eq_true rfl) dX4_hashOf_74 (fun H locs hP hD hS => ?_)
  have hP : va_P (dC, dI) vwCl [(mo, .inr (4, [.int th, .int zs, .int rq, .long k, .long l0, .int ti, .int ct, .int (nI n), .ref d1, .ref d2, .ref d3, .ref d4, .ref d5, .ref d6, .int (nI kc), .ref e1, .ref e2, .ref e3, .ref e4, .ref e5, .long u0_7, .long u1_7, .long x_8, .long u3_7]))] H := hP
  have hD : va_D A [(mo, .inr (4, [.int th, .int zs, .int rq, .long k, .long l0, .int ti, .int ct, .int (nI n), .ref d1, .ref d2, .ref d3, .ref d4, .ref d5, .ref d6, .int (nI kc), .ref e1, .ref e2, .ref e3, .ref e4, .ref e5, .long u0_7, .long u1_7, .long x_8, .long u3_7]))] := hD
  refine lv_iconst (v := nI 0) hx hb dX4_hashOf_77 (by decide) ?_
  refine lv_istore (lv' := [(5, .int (nI 0)), (0, .ref mo), (1, .long w1), (3, .long w2)]) hx hb dX4_hashOf_78 hl (by decide) rfl (fun ls hl => ?_)
  have hloop : ∀ (fu : Nat) (i : Nat) (y0 : Int64) (y1 : Int64) (y2 : Int64) (y3 : Int64), (i ≤ 4) → (5 ≤ i + fu) → (ck_mix (4 - i) (y0, y1, y2, y3) = ck_mix 4 (u0_7, u1_7, x_8, u3_7)) → ∀ (H : Heap) (locs : List Loc) (ls : Array Slot), va_P (dC, dI) vwCl [(mo, .inr (4, [.int th, .int zs, .int rq, .long k, .long l0, .int ti, .int ct, .int (nI n), .ref d1, .ref d2, .ref d3, .ref d4, .ref d5, .ref d6, .int (nI kc), .ref e1, .ref e2, .ref e3, .ref e4, .ref e5, .long y0, .long y1, .long y2, .long y3]))] H → va_D A [(mo, .inr (4, [.int th, .int zs, .int rq, .long k, .long l0, .int ti, .int ct, .int (nI n), .ref d1, .ref d2, .ref d3, .ref d4, .ref d5, .ref d6, .int (nI kc), .ref e1, .ref e2, .ref e3, .ref e4, .ref e5, .long y0, .long y1, .long y2, .long y3]))] → va_S A s.heap H locs → lv_has ls 6 [(0, .ref mo), (1, .long w1), (3, .long w2), (5, .int (nI i))] → W p l e (headSpec wsX4_hashOf ({ frames := 3, cells := 0, slots := 0, locals := 64 } : Room)).room s m (([.ref mo, .long w1, .long w2] : List Value).toArray) below meth c H locs 0 0 (MQ below (va_Ql (fun (r : Int64) (u : Int64 × Int64 × Int64 × Int64) => r = ck_sip k l0 w1 w2) (fun u => ck_B (dC, dI) vwCl A ((fun u : Int64 × Int64 × Int64 × Int64 => ([(mo, .inr (4, [.int th, .int zs, .int rq, .long k, .long l0, .int ti, .int ct, .int (nI n), .ref d1, .ref d2, .ref d3, .ref d4, .ref d5, .ref d6, .int (nI kc), .ref e1, .ref e2, .ref e3, .ref e4, .ref e5, .long u.1, .long u.2.1, .long u.2.2.1, .long u.2.2.2]))] : va_W)) u)) A) (([.ref mo, .long w1, .long w2] : List Value).toArray) s 0 0 A) (F0 m 80 ls []) := by
    intro fu
    induction fu with
    | zero =>
      intro i y0 y1 y2 y3 hi hf hv
      exfalso
      omega
    | succ fu ih =>
      intro i y0 y1 y2 y3 hi hf hv H locs ls hP hD hS hl
      refine lv_iload hx hb dX4_hashOf_80 (lv_at hl 3 rfl) ?_
      refine lv_iconst (v := nI 4) hx hb dX4_hashOf_82 (by decide) ?_
      refine lv_icmp_ge (tgt := 96) hx hb dX4_hashOf_83 (by decide) (fun c_83 => ?_) (fun c_83 => ?_)
      · skip
        have c_83 : 4 ≤ i := (nI_leI (by omega) (by omega)).mp c_83
        refine lv_aload_n hx hb dX4_hashOf_96 rfl (lv_at hl 0 rfl) ?_
        refine va_get (D := (dC, dI)) (ci := 4) (v := .long y0) (C := RX4) (T := TX4) (N := 24) hx hb hts (k_X4_hashOf_in4) hown hK hP 0 rfl rfl 20 (by decide) (hts _ k_X4_hashOf_f64) (fun _ h9 => h9) rfl dX4_hashOf_97 ?_
        refine lv_aload_n hx hb dX4_hashOf_100 rfl (lv_at hl 0 rfl) ?_
        refine va_get (D := (dC, dI)) (ci := 4) (v := .long y1) (C := RX4) (T := TX4) (N := 24) hx hb hts (k_X4_hashOf_in4) hown hK hP 0 rfl rfl 21 (by decide) (hts _ k_X4_hashOf_f67) (fun _ h9 => h9) rfl dX4_hashOf_101 ?_
        refine lv_lxor hx hb dX4_hashOf_104 ?_
        refine lv_aload_n hx hb dX4_hashOf_105 rfl (lv_at hl 0 rfl) ?_
        refine va_get (D := (dC, dI)) (ci := 4) (v := .long y2) (C := RX4) (T := TX4) (N := 24) hx hb hts (k_X4_hashOf_in4) hown hK hP 0 rfl rfl 22 (by decide) (hts _ k_X4_hashOf_f74) (fun _ h9 => h9) rfl dX4_hashOf_106 ?_
        refine lv_lxor hx hb dX4_hashOf_109 ?_
        refine lv_aload_n hx hb dX4_hashOf_110 rfl (lv_at hl 0 rfl) ?_
        refine va_get (D := (dC, dI)) (ci := 4) (v := .long y3) (C := RX4) (T := TX4) (N := 24) hx hb hts (k_X4_hashOf_in4) hown hK hP 0 rfl rfl 23 (by decide) (hts _ k_X4_hashOf_f77) (fun _ h9 => h9) rfl dX4_hashOf_111 ?_
        refine lv_lxor hx hb dX4_hashOf_114 ?_
        refine ck_lr hx hb hr hlocks (Nat.le_of_ble_eq_true rfl) (Nat.le_of_ble_eq_true rfl) dX4_hashOf_115 (y0, y1, y2, y3) hP hD hS ?_
        have e9 : 4 - i = 0 := by omega
        rw [e9] at hv
        have hv : (y0, y1, y2, y3) = ck_mix 4 (u0_7, u1_7, x_8, u3_7) := hv
        subst_vars
        unfold ck_sip ck_sip0
        rw [← hw_5, ← hw_6, ← hw_7]
        unfold ck_sipE
        dsimp only
        rw [← hv]
      · skip
        have c_83 : ¬ (4 ≤ i) := fun z => c_83 ((nI_leI (by omega) (by omega)).mpr z)
        refine lv_aload_n hx hb dX4_hashOf_86 rfl (lv_at hl 0 rfl) ?_
        refine ck_cv (wr := []) (va_runV (As := []) (rest := []) ⟨hx, hb, hml, hown, hts⟩ (c_X4_round l dC dI cI cJ cZ lo _ mo th zs rq k l0 ti ct n d1 d2 d3 d4 d5 d6 kc e1 e2 e3 e4 e5 y0 y1 y2 y3) (cwV 0 hts gX4_hashOf_X4_round rfl rfl rfl (by decide +kernel) ⟨(Nat.le_of_ble_eq_true rfl), (Nat.le_of_ble_eq_true rfl)⟩) ⟨ck_blind, va_recv hK hP (ci := 4) (q0 := 0) rfl rfl, (ck_pre hG hP hD hS [0] rfl (by decide) _)⟩ rfl rfl hl.1 rfl (lv_room (Nat.le_of_ble_eq_true rfl)) dX4_hashOf_87 ⟨(Nat.le_of_ble_eq_true rfl), (Nat.le_of_ble_eq_true rfl)⟩) hP hD hS hA [0] [] rfl rfl (by decide) (by decide) (fun u H locs hw_9 hP hD hS => ?_)
        obtain ⟨u0_9, u1_9, u2_9, u3_9⟩ := u
        have hw_9 : (u0_9, u1_9, u2_9, u3_9) = ck_round (y0, y1, y2, y3) := hw_9
        have hP : va_P (dC, dI) vwCl [(mo, .inr (4, [.int th, .int zs, .int rq, .long k, .long l0, .int ti, .int ct, .int (nI n), .ref d1, .ref d2, .ref d3, .ref d4, .ref d5, .ref d6, .int (nI kc), .ref e1, .ref e2, .ref e3, .ref e4, .ref e5, .long u0_9, .long u1_9, .long u2_9, .long u3_9]))] H := hP
        have hD : va_D A [(mo, .inr (4, [.int th, .int zs, .int rq, .long k, .long l0, .int ti, .int ct, .int (nI n), .ref d1, .ref d2, .ref d3, .ref d4, .ref d5, .ref d6, .int (nI kc), .ref e1, .ref e2, .ref e3, .ref e4, .ref e5, .long u0_9, .long u1_9, .long u2_9, .long u3_9]))] := hD
        refine lv_iinc (v := nI (i + 1)) (lv' := [(5, .int (nI (i + 1))), (0, .ref mo), (1, .long w1), (3, .long w2)]) hx hb dX4_hashOf_90 hl (k := 3) rfl (nI_1 _) (by decide) rfl (fun ls hl => ?_)
        refine lv_goto (tgt := 80) hx hb dX4_hashOf_93 (by decide) ?_
        exact ih (i + 1) u0_9 u1_9 u2_9 u3_9 (by omega) (by omega) (by have e9 : 4 - i = (4 - (i + 1)) + 1 := (by omega); rw [e9, ck_mixS] at hv; rw [← hv, hw_9]) _ _ _ (hP.sub [0] rfl) (hD.sub [0] (by decide) rfl) hS (lv_sub hl [1, 2, 3, 0] rfl)
  exact hloop (5) 0 u0_7 u1_7 x_8 u3_7 (by omega) (by omega) (rfl) _ _ _ (hP.sub [0] rfl) (hD.sub [0] (by decide) rfl) hS (lv_sub hl [1, 2, 3, 0] rfl)
set_option maxRecDepth 20000 in
theorem k_X4_hash_f54 : (.fieldLink RX4 54 "CookieListenerModel" "thrown" "I" : Cond) ∈ wsX4_hash := by decide +kernel
set_option maxRecDepth 20000 in
theorem k_X4_hash_in4 : ∀ w ∈ u_ws RX4 TX4 24, w ∈ wsX4_hash := by decide +kernel
set_option maxHeartbeats 4000000 in
set_option maxRecDepth 100000 in
theorem c_X4_hash (l : Launch) (dC : Nat → ClassId) (dI : Nat → Nat → Nat) (cI cJ cZ : ClassId) (lo sz : Nat) (mo : Nat) (th zs rq : Int32) (k l0 : Int64) (ti ct : Int32) (n : Nat) (d1 d2 d3 d4 d5 d6 : Nat) (kc : Nat) (e1 e2 e3 e4 e5 : Nat) (v0 v1 v2 v3 : Int64) (w1 w2 : Int64) : Met l yX4_hash wsX4_hash ({ frames := 4, cells := 0, slots := 0, locals := 90 } : Room) (va_Pc [.ref mo, .long w1, .long w2] (ck_P (dC, dI) [(cI, .int), (cJ, .long), (cZ, .boolean)] lo sz [(mo, .inr (4, [.int th, .int zs, .int rq, .long k, .long l0, .int ti, .int ct, .int (nI n), .ref d1, .ref d2, .ref d3, .ref d4, .ref d5, .ref d6, .int (nI kc), .ref e1, .ref e2, .ref e3, .ref e4, .ref e5, .long v0, .long v1, .long v2, .long v3]))])) (va_Ql (fun (r : Int64) (u : Int64 × Int64 × Int64 × Int64) => r = ck_sip k l0 w1 w2) (fun u => ck_B (dC, dI) vwCl (va_A [(mo, .inr (4, [.int th, .int zs, .int rq, .long k, .long l0, .int ti, .int ct, .int (nI n), .ref d1, .ref d2, .ref d3, .ref d4, .ref d5, .ref d6, .int (nI kc), .ref e1, .ref e2, .ref e3, .ref e4, .ref e5, .long v0, .long v1, .long v2, .long v3]))] sz) ((fun u : Int64 × Int64 × Int64 × Int64 => ([(mo, .inr (4, [.int 0, .int zs, .int rq, .long k, .long l0, .int ti, .int ct, .int (nI n), .ref d1, .ref d2, .ref d3, .ref d4, .ref d5, .ref d6, .int (nI kc), .ref e1, .ref e2, .ref e3, .ref e4, .ref e5, .long u.1, .long u.2.1, .long u.2.2.1, .long u.2.2.2]))] : va_W)) u)) (va_A [(mo, .inr (4, [.int th, .int zs, .int rq, .long k, .long l0, .int ti, .int ct, .int (nI n), .ref d1, .ref d2, .ref d3, .ref d4, .ref d5, .ref d6, .int (nI kc), .ref e1, .ref e2, .ref e3, .ref e4, .ref e5, .long v0, .long v1, .long v2, .long v3]))] sz)) 0 0 (va_A [(mo, .inr (4, [.int th, .int zs, .int rq, .long k, .long l0, .int ti, .int ct, .int (nI n), .ref d1, .ref d2, .ref d3, .ref d4, .ref d5, .ref d6, .int (nI kc), .ref e1, .ref e2, .ref e3, .ref e4, .ref e5, .long v0, .long v1, .long v2, .long v3]))] sz) := by
  refine Met.ofW (cc := cX4_hash) (maxL := 5) (ret := (some .long)) (by decide) rfl ?_
  intro p e s m args below meth c s₁ B hml hv
  obtain ⟨rfl, hsz, hP, hK, hD0, hE⟩ := hv
  have hx := B.exec
  have hb := B.bytes
  have hr := B.returns
  have hts := atoms_spec (ws := wsX4_hash) B.pre
  have hown : s.vm.findClass RX4 = some m.cls := findClass_of_methodNamed B.named
  have hlocks := B.notSynchronized
  subst hsz
  have hD := hD0.self (sz := s.heap.size)
  have hlo := ck_lo (sz := s.heap.size) hD0 hE.1
  generalize hAe : va_A [(mo, .inr (4, [.int th, .int zs, .int rq, .long k, .long l0, .int ti, .int ct, .int (nI n), .ref d1, .ref d2, .ref d3, .ref d4, .ref d5, .ref d6, .int (nI kc), .ref e1, .ref e2, .ref e3, .ref e4, .ref e5, .long v0, .long v1, .long v2, .long v3]))] s.heap.size = A at hD hlo ⊢
  have hA : ∀ q : Nat, s.heap.size ≤ q → A q := fun q h => by rw [← hAe]; exact Or.inr h
  have hG : ck_G (dC, dI) [(cI, .int), (cJ, .long), (cZ, .boolean)] lo A s := ⟨hK, hE, hA, hlo⟩
  have hS : va_S A s.heap s.heap [] := va_S.rf
  have hP : va_P (dC, dI) vwCl [(mo, .inr (4, [.int th, .int zs, .int rq, .long k, .long l0, .int ti, .int ct, .int (nI n), .ref d1, .ref d2, .ref d3, .ref d4, .ref d5, .ref d6, .int (nI kc), .ref e1, .ref e2, .ref e3, .ref e4, .ref e5, .long v0, .long v1, .long v2, .long v3]))] s.heap := hP
  have hl := lv_entry ([.ref mo, .long w1, .long w2]) (n := 5) (Nat.le_of_ble_eq_true rfl)
  rw [lg_entry_eq]
  generalize (lg_sl ([.ref mo, .long w1, .long w2]) ++ List.replicate (5 - (lg_sl ([.ref mo, .long w1, .long w2])).length) Slot.unset).toArray = ls at hl ⊢
  have hl : lv_has ls 5 [(0, .ref mo), (1, .long w1), (3, .long w2)] := hl
  refine lv_aload_n hx hb dX4_hash_0 rfl (lv_at hl 0 rfl) ?_
  refine lv_iconst (v := 0) hx hb dX4_hash_1 (by decide) ?_
  refine va_put (D := (dC, dI)) (ci := 4) (v := .int 0) (ty := .int) (C := RX4) (T := TX4) (N := 24) hx hb hts (k_X4_hash_in4) tyX4 tyX4_ok nmX4 hown hK hP hD hS 0 rfl rfl 0 (by decide) (hts _ k_X4_hash_f54) (fun _ h9 => h9) rfl (by decide +kernel) rfl rfl (Nat.le_of_ble_eq_true rfl) dX4_hash_2 (fun H locs hP hD hS => ?_)
  have hP : va_P (dC, dI) vwCl [(mo, .inr (4, [.int 0, .int zs, .int rq, .long k, .long l0, .int ti, .int ct, .int (nI n), .ref d1, .ref d2, .ref d3, .ref d4, .ref d5, .ref d6, .int (nI kc), .ref e1, .ref e2, .ref e3, .ref e4, .ref e5, .long v0, .long v1, .long v2, .long v3]))] H := hP
  have hD : va_D A [(mo, .inr (4, [.int 0, .int zs, .int rq, .long k, .long l0, .int ti, .int ct, .int (nI n), .ref d1, .ref d2, .ref d3, .ref d4, .ref d5, .ref d6, .int (nI kc), .ref e1, .ref e2, .ref e3, .ref e4, .ref e5, .long v0, .long v1, .long v2, .long v3]))] := hD
  refine lv_aload_n hx hb dX4_hash_5 rfl (lv_at hl 0 rfl) ?_
  refine lv_lload_n hx hb dX4_hash_6 rfl (lv_at hl 1 rfl) ?_
  refine lv_lload_n hx hb dX4_hash_7 rfl (lv_at hl 2 rfl) ?_
  refine ck_cl (wr := []) (va_runV (As := [.long w1, .long w2]) (rest := []) ⟨hx, hb, hml, hown, hts⟩ (c_X4_hashOf l dC dI cI cJ cZ lo _ mo 0 zs rq k l0 ti ct n d1 d2 d3 d4 d5 d6 kc e1 e2 e3 e4 e5 v0 v1 v2 v3 w1 w2) (cwV 2 hts gX4_hash_X4_hashOf rfl rfl rfl (by decide +kernel) ⟨(Nat.le_of_ble_eq_true rfl), (Nat.le_of_ble_eq_true rfl)⟩) ⟨ck_blind, va_recv hK hP (ci := 4) (q0 := 0) rfl rfl, (ck_pre hG hP hD hS [0] rfl (by decide) _)⟩ rfl rfl hl.1 rfl (lv_room (Nat.le_of_ble_eq_true rfl)) dX4_hash_8 ⟨(Nat.le_of_ble_eq_true rfl), (Nat.le_of_ble_eq_true rfl)⟩) hP hD hS hA [0] [] rfl rfl (by decide) (by decide) (fun r_1 u H locs hw_1 hP hD hS => ?_)
  obtain ⟨u0_1, u1_1, u2_1, u3_1⟩ := u
  have hw_1 : r_1 = ck_sip k l0 w1 w2 := hw_1
  have hP : va_P (dC, dI) vwCl [(mo, .inr (4, [.int 0, .int zs, .int rq, .long k, .long l0, .int ti, .int ct, .int (nI n), .ref d1, .ref d2, .ref d3, .ref d4, .ref d5, .ref d6, .int (nI kc), .ref e1, .ref e2, .ref e3, .ref e4, .ref e5, .long u0_1, .long u1_1, .long u2_1, .long u3_1]))] H := hP
  have hD : va_D A [(mo, .inr (4, [.int 0, .int zs, .int rq, .long k, .long l0, .int ti, .int ct, .int (nI n), .ref d1, .ref d2, .ref d3, .ref d4, .ref d5, .ref d6, .int (nI kc), .ref e1, .ref e2, .ref e3, .ref e4, .ref e5, .long u0_1, .long u1_1, .long u2_1, .long u3_1]))] := hD
  refine ck_lr hx hb hr hlocks (Nat.le_of_ble_eq_true rfl) (Nat.le_of_ble_eq_true rfl) dX4_hash_11 (u0_1, u1_1, u2_1, u3_1) hP hD hS ?_
  exact hw_1
set_option maxRecDepth 20000 in
theorem k_X4_key_f54 : (.fieldLink RX4 54 "CookieListenerModel" "thrown" "I" : Cond) ∈ wsX4_key := by decide +kernel
set_option maxRecDepth 20000 in
theorem k_X4_key_in4 : ∀ w ∈ u_ws RX4 TX4 24, w ∈ wsX4_key := by decide +kernel
set_option maxRecDepth 20000 in
theorem k_X4_key_f57 : (.fieldLink RX4 57 "CookieListenerModel" "k" "J" : Cond) ∈ wsX4_key := by decide +kernel
set_option maxRecDepth 20000 in
theorem k_X4_key_f61 : (.fieldLink RX4 61 "CookieListenerModel" "l" "J" : Cond) ∈ wsX4_key := by decide +kernel
set_option maxHeartbeats 4000000 in
set_option maxRecDepth 100000 in
theorem c_X4_key (l : Launch) (dC : Nat → ClassId) (dI : Nat → Nat → Nat) (cI cJ cZ : ClassId) (lo sz : Nat) (mo : Nat) (th zs rq : Int32) (k l0 : Int64) (ti ct : Int32) (n : Nat) (d1 d2 d3 d4 d5 d6 : Nat) (kc : Nat) (e1 e2 e3 e4 e5 : Nat) (v0 v1 v2 v3 : Int64) (k1 l1 : Int64) : Met l yX4_key wsX4_key ({ frames := 0, cells := 0, slots := 0, locals := 0 } : Room) (va_Pc [.ref mo, .long k1, .long l1] (ck_P (dC, dI) [(cI, .int), (cJ, .long), (cZ, .boolean)] lo sz [(mo, .inr (4, [.int th, .int zs, .int rq, .long k, .long l0, .int ti, .int ct, .int (nI n), .ref d1, .ref d2, .ref d3, .ref d4, .ref d5, .ref d6, .int (nI kc), .ref e1, .ref e2, .ref e3, .ref e4, .ref e5, .long v0, .long v1, .long v2, .long v3]))])) (va_Qv (fun (u : Unit) => True) (fun u => ck_B (dC, dI) vwCl (va_A [(mo, .inr (4, [.int th, .int zs, .int rq, .long k, .long l0, .int ti, .int ct, .int (nI n), .ref d1, .ref d2, .ref d3, .ref d4, .ref d5, .ref d6, .int (nI kc), .ref e1, .ref e2, .ref e3, .ref e4, .ref e5, .long v0, .long v1, .long v2, .long v3]))] sz) ((fun u : Unit => ([(mo, .inr (4, [.int 0, .int zs, .int rq, .long k1, .long l1, .int ti, .int ct, .int (nI n), .ref d1, .ref d2, .ref d3, .ref d4, .ref d5, .ref d6, .int (nI kc), .ref e1, .ref e2, .ref e3, .ref e4, .ref e5, .long v0, .long v1, .long v2, .long v3]))] : va_W)) u)) (va_A [(mo, .inr (4, [.int th, .int zs, .int rq, .long k, .long l0, .int ti, .int ct, .int (nI n), .ref d1, .ref d2, .ref d3, .ref d4, .ref d5, .ref d6, .int (nI kc), .ref e1, .ref e2, .ref e3, .ref e4, .ref e5, .long v0, .long v1, .long v2, .long v3]))] sz)) 0 0 (va_A [(mo, .inr (4, [.int th, .int zs, .int rq, .long k, .long l0, .int ti, .int ct, .int (nI n), .ref d1, .ref d2, .ref d3, .ref d4, .ref d5, .ref d6, .int (nI kc), .ref e1, .ref e2, .ref e3, .ref e4, .ref e5, .long v0, .long v1, .long v2, .long v3]))] sz) := by
  refine Met.ofW (cc := cX4_key) (maxL := 5) (ret := none) (by decide) rfl ?_
  intro p e s m args below meth c s₁ B hml hv
  obtain ⟨rfl, hsz, hP, hK, hD0, hE⟩ := hv
  have hx := B.exec
  have hb := B.bytes
  have hr := B.returns
  have hts := atoms_spec (ws := wsX4_key) B.pre
  have hown : s.vm.findClass RX4 = some m.cls := findClass_of_methodNamed B.named
  have hlocks := B.notSynchronized
  subst hsz
  have hD := hD0.self (sz := s.heap.size)
  have hlo := ck_lo (sz := s.heap.size) hD0 hE.1
  generalize hAe : va_A [(mo, .inr (4, [.int th, .int zs, .int rq, .long k, .long l0, .int ti, .int ct, .int (nI n), .ref d1, .ref d2, .ref d3, .ref d4, .ref d5, .ref d6, .int (nI kc), .ref e1, .ref e2, .ref e3, .ref e4, .ref e5, .long v0, .long v1, .long v2, .long v3]))] s.heap.size = A at hD hlo ⊢
  have hA : ∀ q : Nat, s.heap.size ≤ q → A q := fun q h => by rw [← hAe]; exact Or.inr h
  have hG : ck_G (dC, dI) [(cI, .int), (cJ, .long), (cZ, .boolean)] lo A s := ⟨hK, hE, hA, hlo⟩
  have hS : va_S A s.heap s.heap [] := va_S.rf
  have hP : va_P (dC, dI) vwCl [(mo, .inr (4, [.int th, .int zs, .int rq, .long k, .long l0, .int ti, .int ct, .int (nI n), .ref d1, .ref d2, .ref d3, .ref d4, .ref d5, .ref d6, .int (nI kc), .ref e1, .ref e2, .ref e3, .ref e4, .ref e5, .long v0, .long v1, .long v2, .long v3]))] s.heap := hP
  have hl := lv_entry ([.ref mo, .long k1, .long l1]) (n := 5) (Nat.le_of_ble_eq_true rfl)
  rw [lg_entry_eq]
  generalize (lg_sl ([.ref mo, .long k1, .long l1]) ++ List.replicate (5 - (lg_sl ([.ref mo, .long k1, .long l1])).length) Slot.unset).toArray = ls at hl ⊢
  have hl : lv_has ls 5 [(0, .ref mo), (1, .long k1), (3, .long l1)] := hl
  refine lv_aload_n hx hb dX4_key_0 rfl (lv_at hl 0 rfl) ?_
  refine lv_iconst (v := 0) hx hb dX4_key_1 (by decide) ?_
  refine va_put (D := (dC, dI)) (ci := 4) (v := .int 0) (ty := .int) (C := RX4) (T := TX4) (N := 24) hx hb hts (k_X4_key_in4) tyX4 tyX4_ok nmX4 hown hK hP hD hS 0 rfl rfl 0 (by decide) (hts _ k_X4_key_f54) (fun _ h9 => h9) rfl (by decide +kernel) rfl rfl (Nat.le_of_ble_eq_true rfl) dX4_key_2 (fun H locs hP hD hS => ?_)
  have hP : va_P (dC, dI) vwCl [(mo, .inr (4, [.int 0, .int zs, .int rq, .long k, .long l0, .int ti, .int ct, .int (nI n), .ref d1, .ref d2, .ref d3, .ref d4, .ref d5, .ref d6, .int (nI kc), .ref e1, .ref e2, .ref e3, .ref e4, .ref e5, .long v0, .long v1, .long v2, .long v3]))] H := hP
  have hD : va_D A [(mo, .inr (4, [.int 0, .int zs, .int rq, .long k, .long l0, .int ti, .int ct, .int (nI n), .ref d1, .ref d2, .ref d3, .ref d4, .ref d5, .ref d6, .int (nI kc), .ref e1, .ref e2, .ref e3, .ref e4, .ref e5, .long v0, .long v1, .long v2, .long v3]))] := hD
  refine lv_aload_n hx hb dX4_key_5 rfl (lv_at hl 0 rfl) ?_
  refine lv_lload_n hx hb dX4_key_6 rfl (lv_at hl 1 rfl) ?_
  refine va_put (D := (dC, dI)) (ci := 4) (v := .long k1) (ty := .long) (C := RX4) (T := TX4) (N := 24) hx hb hts (k_X4_key_in4) tyX4 tyX4_ok nmX4 hown hK hP hD hS 0 rfl rfl 3 (by decide) (hts _ k_X4_key_f57) (fun _ h9 => h9) rfl (by decide +kernel) rfl rfl (Nat.le_of_ble_eq_true rfl) dX4_key_7 (fun H locs hP hD hS => ?_)
  have hP : va_P (dC, dI) vwCl [(mo, .inr (4, [.int 0, .int zs, .int rq, .long k1, .long l0, .int ti, .int ct, .int (nI n), .ref d1, .ref d2, .ref d3, .ref d4, .ref d5, .ref d6, .int (nI kc), .ref e1, .ref e2, .ref e3, .ref e4, .ref e5, .long v0, .long v1, .long v2, .long v3]))] H := hP
  have hD : va_D A [(mo, .inr (4, [.int 0, .int zs, .int rq, .long k1, .long l0, .int ti, .int ct, .int (nI n), .ref d1, .ref d2, .ref d3, .ref d4, .ref d5, .ref d6, .int (nI kc), .ref e1, .ref e2, .ref e3, .ref e4, .ref e5, .long v0, .long v1, .long v2, .long v3]))] := hD
  refine lv_aload_n hx hb dX4_key_10 rfl (lv_at hl 0 rfl) ?_
  refine lv_lload_n hx hb dX4_key_11 rfl (lv_at hl 2 rfl) ?_
  refine va_put (D := (dC, dI)) (ci := 4) (v := .long l1) (ty := .long) (C := RX4) (T := TX4) (N := 24) hx hb hts (k_X4_key_in4) tyX4 tyX4_ok nmX4 hown hK hP hD hS 0 rfl rfl 4 (by decide) (hts _ k_X4_key_f61) (fun _ h9 => h9) rfl (by decide +kernel) rfl rfl (Nat.le_of_ble_eq_true rfl) dX4_key_12 (fun H locs hP hD hS => ?_)
  have hP : va_P (dC, dI) vwCl [(mo, .inr (4, [.int 0, .int zs, .int rq, .long k1, .long l1, .int ti, .int ct, .int (nI n), .ref d1, .ref d2, .ref d3, .ref d4, .ref d5, .ref d6, .int (nI kc), .ref e1, .ref e2, .ref e3, .ref e4, .ref e5, .long v0, .long v1, .long v2, .long v3]))] H := hP
  have hD : va_D A [(mo, .inr (4, [.int 0, .int zs, .int rq, .long k1, .long l1, .int ti, .int ct, .int (nI n), .ref d1, .ref d2, .ref d3, .ref d4, .ref d5, .ref d6, .int (nI kc), .ref e1, .ref e2, .ref e3, .ref e4, .ref e5, .long v0, .long v1, .long v2, .long v3]))] := hD
  subst_vars
  refine ck_vr hx hb hr hlocks (Nat.le_of_ble_eq_true rfl) (Nat.le_of_ble_eq_true rfl) dX4_key_15 () hP hD hS ?_
  exact trivial
set_option maxRecDepth 20000 in
theorem k_X4_rooms_f54 : (.fieldLink RX4 54 "CookieListenerModel" "thrown" "I" : Cond) ∈ wsX4_rooms := by decide +kernel
set_option maxRecDepth 20000 in
theorem k_X4_rooms_in4 : ∀ w ∈ u_ws RX4 TX4 24, w ∈ wsX4_rooms := by decide +kernel
set_option maxRecDepth 20000 in
theorem k_X4_rooms_f7 : (.fieldLink RX4 7 "CookieListenerModel" "size" "I" : Cond) ∈ wsX4_rooms := by decide +kernel
set_option maxRecDepth 20000 in
theorem k_X4_rooms_f13 : (.fieldLink RX4 13 "CookieListenerModel" "room" "I" : Cond) ∈ wsX4_rooms := by decide +kernel
set_option maxHeartbeats 4000000 in
set_option maxRecDepth 100000 in
theorem c_X4_rooms (l : Launch) (dC : Nat → ClassId) (dI : Nat → Nat → Nat) (cI cJ cZ : ClassId) (lo sz : Nat) (mo : Nat) (th zs rq : Int32) (k l0 : Int64) (ti ct : Int32) (n : Nat) (d1 d2 d3 d4 d5 d6 : Nat) (kc : Nat) (e1 e2 e3 e4 e5 : Nat) (v0 v1 v2 v3 : Int64) (zs1 rq1 : Int32) (hs1 : 0 ≤ zs1) (hs2 : zs1 ≤ 32) (hr1 : 1 ≤ rq1) (hr2 : rq1 ≤ 16) : Met l yX4_rooms wsX4_rooms ({ frames := 0, cells := 0, slots := 0, locals := 0 } : Room) (va_Pc [.ref mo, .int zs1, .int rq1] (ck_P (dC, dI) [(cI, .int), (cJ, .long), (cZ, .boolean)] lo sz [(mo, .inr (4, [.int th, .int zs, .int rq, .long k, .long l0, .int ti, .int ct, .int (nI n), .ref d1, .ref d2, .ref d3, .ref d4, .ref d5, .ref d6, .int (nI kc), .ref e1, .ref e2, .ref e3, .ref e4, .ref e5, .long v0, .long v1, .long v2, .long v3]))])) (va_Qv (fun (u : Unit) => True) (fun u => ck_B (dC, dI) vwCl (va_A [(mo, .inr (4, [.int th, .int zs, .int rq, .long k, .long l0, .int ti, .int ct, .int (nI n), .ref d1, .ref d2, .ref d3, .ref d4, .ref d5, .ref d6, .int (nI kc), .ref e1, .ref e2, .ref e3, .ref e4, .ref e5, .long v0, .long v1, .long v2, .long v3]))] sz) ((fun u : Unit => ([(mo, .inr (4, [.int 0, .int zs1, .int rq1, .long k, .long l0, .int ti, .int ct, .int (nI n), .ref d1, .ref d2, .ref d3, .ref d4, .ref d5, .ref d6, .int (nI kc), .ref e1, .ref e2, .ref e3, .ref e4, .ref e5, .long v0, .long v1, .long v2, .long v3]))] : va_W)) u)) (va_A [(mo, .inr (4, [.int th, .int zs, .int rq, .long k, .long l0, .int ti, .int ct, .int (nI n), .ref d1, .ref d2, .ref d3, .ref d4, .ref d5, .ref d6, .int (nI kc), .ref e1, .ref e2, .ref e3, .ref e4, .ref e5, .long v0, .long v1, .long v2, .long v3]))] sz)) 0 0 (va_A [(mo, .inr (4, [.int th, .int zs, .int rq, .long k, .long l0, .int ti, .int ct, .int (nI n), .ref d1, .ref d2, .ref d3, .ref d4, .ref d5, .ref d6, .int (nI kc), .ref e1, .ref e2, .ref e3, .ref e4, .ref e5, .long v0, .long v1, .long v2, .long v3]))] sz) := by
  refine Met.ofW (cc := cX4_rooms) (maxL := 3) (ret := none) (by decide) rfl ?_
  intro p e s m args below meth c s₁ B hml hv
  obtain ⟨rfl, hsz, hP, hK, hD0, hE⟩ := hv
  have hx := B.exec
  have hb := B.bytes
  have hr := B.returns
  have hts := atoms_spec (ws := wsX4_rooms) B.pre
  have hown : s.vm.findClass RX4 = some m.cls := findClass_of_methodNamed B.named
  have hlocks := B.notSynchronized
  subst hsz
  have hD := hD0.self (sz := s.heap.size)
  have hlo := ck_lo (sz := s.heap.size) hD0 hE.1
  generalize hAe : va_A [(mo, .inr (4, [.int th, .int zs, .int rq, .long k, .long l0, .int ti, .int ct, .int (nI n), .ref d1, .ref d2, .ref d3, .ref d4, .ref d5, .ref d6, .int (nI kc), .ref e1, .ref e2, .ref e3, .ref e4, .ref e5, .long v0, .long v1, .long v2, .long v3]))] s.heap.size = A at hD hlo ⊢
  have hA : ∀ q : Nat, s.heap.size ≤ q → A q := fun q h => by rw [← hAe]; exact Or.inr h
  have hG : ck_G (dC, dI) [(cI, .int), (cJ, .long), (cZ, .boolean)] lo A s := ⟨hK, hE, hA, hlo⟩
  have hS : va_S A s.heap s.heap [] := va_S.rf
  have hP : va_P (dC, dI) vwCl [(mo, .inr (4, [.int th, .int zs, .int rq, .long k, .long l0, .int ti, .int ct, .int (nI n), .ref d1, .ref d2, .ref d3, .ref d4, .ref d5, .ref d6, .int (nI kc), .ref e1, .ref e2, .ref e3, .ref e4, .ref e5, .long v0, .long v1, .long v2, .long v3]))] s.heap := hP
  have hl := lv_entry ([.ref mo, .int zs1, .int rq1]) (n := 3) (Nat.le_of_ble_eq_true rfl)
  rw [lg_entry_eq]
  generalize (lg_sl ([.ref mo, .int zs1, .int rq1]) ++ List.replicate (3 - (lg_sl ([.ref mo, .int zs1, .int rq1])).length) Slot.unset).toArray = ls at hl ⊢
  have hl : lv_has ls 3 [(0, .ref mo), (1, .int zs1), (2, .int rq1)] := hl
  refine lv_aload_n hx hb dX4_rooms_0 rfl (lv_at hl 0 rfl) ?_
  refine lv_iload_n hx hb dX4_rooms_1 rfl (lv_at hl 1 rfl) ?_
  refine lv_if_lt (tgt := 22) hx hb dX4_rooms_2 (by decide) (fun c_2 => ?_) (fun c_2 => ?_)
  · skip
    exact absurd c_2 (Int32.not_lt.mpr hs1)
  · skip
    refine lv_iload_n hx hb dX4_rooms_5 rfl (lv_at hl 1 rfl) ?_
    refine lv_bipush (v := 32) hx hb dX4_rooms_6 (by decide) ?_
    refine lv_icmp_gt (tgt := 22) hx hb dX4_rooms_8 (by decide) (fun c_8 => ?_) (fun c_8 => ?_)
    · skip
      exact absurd c_8 (Int32.not_lt.mpr hs2)
    · skip
      refine lv_iload_n hx hb dX4_rooms_11 rfl (lv_at hl 2 rfl) ?_
      refine lv_iconst (v := 1) hx hb dX4_rooms_12 (by decide) ?_
      refine lv_icmp_lt (tgt := 22) hx hb dX4_rooms_13 (by decide) (fun c_13 => ?_) (fun c_13 => ?_)
      · skip
        exact absurd c_13 (Int32.not_lt.mpr hr1)
      · skip
        refine lv_iload_n hx hb dX4_rooms_16 rfl (lv_at hl 2 rfl) ?_
        refine lv_bipush (v := 16) hx hb dX4_rooms_17 (by decide) ?_
        refine lv_icmp_le (tgt := 26) hx hb dX4_rooms_19 (by decide) (fun c_19 => ?_) (fun c_19 => ?_)
        · skip
          refine lv_iconst (v := 0) hx hb dX4_rooms_26 (by decide) ?_
          refine va_put (D := (dC, dI)) (ci := 4) (v := .int 0) (ty := .int) (C := RX4) (T := TX4) (N := 24) hx hb hts (k_X4_rooms_in4) tyX4 tyX4_ok nmX4 hown hK hP hD hS 0 rfl rfl 0 (by decide) (hts _ k_X4_rooms_f54) (fun _ h9 => h9) rfl (by decide +kernel) rfl rfl (Nat.le_of_ble_eq_true rfl) dX4_rooms_27 (fun H locs hP hD hS => ?_)
          have hP : va_P (dC, dI) vwCl [(mo, .inr (4, [.int 0, .int zs, .int rq, .long k, .long l0, .int ti, .int ct, .int (nI n), .ref d1, .ref d2, .ref d3, .ref d4, .ref d5, .ref d6, .int (nI kc), .ref e1, .ref e2, .ref e3, .ref e4, .ref e5, .long v0, .long v1, .long v2, .long v3]))] H := hP
          have hD : va_D A [(mo, .inr (4, [.int 0, .int zs, .int rq, .long k, .long l0, .int ti, .int ct, .int (nI n), .ref d1, .ref d2, .ref d3, .ref d4, .ref d5, .ref d6, .int (nI kc), .ref e1, .ref e2, .ref e3, .ref e4, .ref e5, .long v0, .long v1, .long v2, .long v3]))] := hD
          refine lv_aload_n hx hb dX4_rooms_30 rfl (lv_at hl 0 rfl) ?_
          refine va_get (D := (dC, dI)) (ci := 4) (v := .int 0) (C := RX4) (T := TX4) (N := 24) hx hb hts (k_X4_rooms_in4) hown hK hP 0 rfl rfl 0 (by decide) (hts _ k_X4_rooms_f54) (fun _ h9 => h9) rfl dX4_rooms_31 ?_
          refine lv_if_ne (tgt := 47) hx hb dX4_rooms_34 (by decide) (fun c_34 => ?_) (fun c_34 => ?_)
          · skip
            exact absurd c_34 (by decide)
          · skip
            refine lv_aload_n hx hb dX4_rooms_37 rfl (lv_at hl 0 rfl) ?_
            refine lv_iload_n hx hb dX4_rooms_38 rfl (lv_at hl 1 rfl) ?_
            refine va_put (D := (dC, dI)) (ci := 4) (v := .int zs1) (ty := .int) (C := RX4) (T := TX4) (N := 24) hx hb hts (k_X4_rooms_in4) tyX4 tyX4_ok nmX4 hown hK hP hD hS 0 rfl rfl 1 (by decide) (hts _ k_X4_rooms_f7) (fun _ h9 => h9) rfl (by decide +kernel) rfl rfl (Nat.le_of_ble_eq_true rfl) dX4_rooms_39 (fun H locs hP hD hS => ?_)
            have hP : va_P (dC, dI) vwCl [(mo, .inr (4, [.int 0, .int zs1, .int rq, .long k, .long l0, .int ti, .int ct, .int (nI n), .ref d1, .ref d2, .ref d3, .ref d4, .ref d5, .ref d6, .int (nI kc), .ref e1, .ref e2, .ref e3, .ref e4, .ref e5, .long v0, .long v1, .long v2, .long v3]))] H := hP
            have hD : va_D A [(mo, .inr (4, [.int 0, .int zs1, .int rq, .long k, .long l0, .int ti, .int ct, .int (nI n), .ref d1, .ref d2, .ref d3, .ref d4, .ref d5, .ref d6, .int (nI kc), .ref e1, .ref e2, .ref e3, .ref e4, .ref e5, .long v0, .long v1, .long v2, .long v3]))] := hD
            refine lv_aload_n hx hb dX4_rooms_42 rfl (lv_at hl 0 rfl) ?_
            refine lv_iload_n hx hb dX4_rooms_43 rfl (lv_at hl 2 rfl) ?_
            refine va_put (D := (dC, dI)) (ci := 4) (v := .int rq1) (ty := .int) (C := RX4) (T := TX4) (N := 24) hx hb hts (k_X4_rooms_in4) tyX4 tyX4_ok nmX4 hown hK hP hD hS 0 rfl rfl 2 (by decide) (hts _ k_X4_rooms_f13) (fun _ h9 => h9) rfl (by decide +kernel) rfl rfl (Nat.le_of_ble_eq_true rfl) dX4_rooms_44 (fun H locs hP hD hS => ?_)
            have hP : va_P (dC, dI) vwCl [(mo, .inr (4, [.int 0, .int zs1, .int rq1, .long k, .long l0, .int ti, .int ct, .int (nI n), .ref d1, .ref d2, .ref d3, .ref d4, .ref d5, .ref d6, .int (nI kc), .ref e1, .ref e2, .ref e3, .ref e4, .ref e5, .long v0, .long v1, .long v2, .long v3]))] H := hP
            have hD : va_D A [(mo, .inr (4, [.int 0, .int zs1, .int rq1, .long k, .long l0, .int ti, .int ct, .int (nI n), .ref d1, .ref d2, .ref d3, .ref d4, .ref d5, .ref d6, .int (nI kc), .ref e1, .ref e2, .ref e3, .ref e4, .ref e5, .long v0, .long v1, .long v2, .long v3]))] := hD
            subst_vars
            refine ck_vr hx hb hr hlocks (Nat.le_of_ble_eq_true rfl) (Nat.le_of_ble_eq_true rfl) dX4_rooms_47 () hP hD hS ?_
            exact trivial
        · skip
          exact absurd hr2 c_19
set_option maxHeartbeats 4000000 in
set_option maxRecDepth 100000 in
theorem b_X4_rooms (l : Launch) (dC : Nat → ClassId) (dI : Nat → Nat → Nat) (cI cJ cZ : ClassId) (lo sz : Nat) (mo : Nat) (th zs rq : Int32) (k l0 : Int64) (ti ct : Int32) (n : Nat) (d1 d2 d3 d4 d5 d6 : Nat) (kc : Nat) (e1 e2 e3 e4 e5 : Nat) (v0 v1 v2 v3 : Int64) (zs1 rq1 : Int32) (hbad : ¬ ((0 ≤ zs1 ∧ zs1 ≤ 32) ∧ (1 ≤ rq1 ∧ rq1 ≤ 16))) : Met l yX4_rooms wsX4_rooms ({ frames := 0, cells := 0, slots := 0, locals := 0 } : Room) (va_Pc [.ref mo, .int zs1, .int rq1] (ck_P (dC, dI) [(cI, .int), (cJ, .long), (cZ, .boolean)] lo sz [(mo, .inr (4, [.int th, .int zs, .int rq, .long k, .long l0, .int ti, .int ct, .int (nI n), .ref d1, .ref d2, .ref d3, .ref d4, .ref d5, .ref d6, .int (nI kc), .ref e1, .ref e2, .ref e3, .ref e4, .ref e5, .long v0, .long v1, .long v2, .long v3]))])) (va_Qv (fun (u : Unit) => True) (fun u => ck_B (dC, dI) vwCl (va_A [(mo, .inr (4, [.int th, .int zs, .int rq, .long k, .long l0, .int ti, .int ct, .int (nI n), .ref d1, .ref d2, .ref d3, .ref d4, .ref d5, .ref d6, .int (nI kc), .ref e1, .ref e2, .ref e3, .ref e4, .ref e5, .long v0, .long v1, .long v2, .long v3]))] sz) ((fun u : Unit => ([(mo, .inr (4, [.int 1, .int zs, .int rq, .long k, .long l0, .int ti, .int ct, .int (nI n), .ref d1, .ref d2, .ref d3, .ref d4, .ref d5, .ref d6, .int (nI kc), .ref e1, .ref e2, .ref e3, .ref e4, .ref e5, .long v0, .long v1, .long v2, .long v3]))] : va_W)) u)) (va_A [(mo, .inr (4, [.int th, .int zs, .int rq, .long k, .long l0, .int ti, .int ct, .int (nI n), .ref d1, .ref d2, .ref d3, .ref d4, .ref d5, .ref d6, .int (nI kc), .ref e1, .ref e2, .ref e3, .ref e4, .ref e5, .long v0, .long v1, .long v2, .long v3]))] sz)) 0 0 (va_A [(mo, .inr (4, [.int th, .int zs, .int rq, .long k, .long l0, .int ti, .int ct, .int (nI n), .ref d1, .ref d2, .ref d3, .ref d4, .ref d5, .ref d6, .int (nI kc), .ref e1, .ref e2, .ref e3, .ref e4, .ref e5, .long v0, .long v1, .long v2, .long v3]))] sz) := by
  refine Met.ofW (cc := cX4_rooms) (maxL := 3) (ret := none) (by decide) rfl ?_
  intro p e s m args below meth c s₁ B hml hv
  obtain ⟨rfl, hsz, hP, hK, hD0, hE⟩ := hv
  have hx := B.exec
  have hb := B.bytes
  have hr := B.returns
  have hts := atoms_spec (ws := wsX4_rooms) B.pre
  have hown : s.vm.findClass RX4 = some m.cls := findClass_of_methodNamed B.named
  have hlocks := B.notSynchronized
  subst hsz
  have hD := hD0.self (sz := s.heap.size)
  have hlo := ck_lo (sz := s.heap.size) hD0 hE.1
  generalize hAe : va_A [(mo, .inr (4, [.int th, .int zs, .int rq, .long k, .long l0, .int ti, .int ct, .int (nI n), .ref d1, .ref d2, .ref d3, .ref d4, .ref d5, .ref d6, .int (nI kc), .ref e1, .ref e2, .ref e3, .ref e4, .ref e5, .long v0, .long v1, .long v2, .long v3]))] s.heap.size = A at hD hlo ⊢
  have hA : ∀ q : Nat, s.heap.size ≤ q → A q := fun q h => by rw [← hAe]; exact Or.inr h
  have hG : ck_G (dC, dI) [(cI, .int), (cJ, .long), (cZ, .boolean)] lo A s := ⟨hK, hE, hA, hlo⟩
  have hS : va_S A s.heap s.heap [] := va_S.rf
  have hP : va_P (dC, dI) vwCl [(mo, .inr (4, [.int th, .int zs, .int rq, .long k, .long l0, .int ti, .int ct, .int (nI n), .ref d1, .ref d2, .ref d3, .ref d4, .ref d5, .ref d6, .int (nI kc), .ref e1, .ref e2, .ref e3, .ref e4, .ref e5, .long v0, .long v1, .long v2, .long v3]))] s.heap := hP
  have hl := lv_entry ([.ref mo, .int zs1, .int rq1]) (n := 3) (Nat.le_of_ble_eq_true rfl)
  rw [lg_entry_eq]
  generalize (lg_sl ([.ref mo, .int zs1, .int rq1]) ++ List.replicate (3 - (lg_sl ([.ref mo, .int zs1, .int rq1])).length) Slot.unset).toArray = ls at hl ⊢
  have hl : lv_has ls 3 [(0, .ref mo), (1, .int zs1), (2, .int rq1)] := hl
  refine lv_aload_n hx hb dX4_rooms_0 rfl (lv_at hl 0 rfl) ?_
  refine lv_iload_n hx hb dX4_rooms_1 rfl (lv_at hl 1 rfl) ?_
  refine lv_if_lt (tgt := 22) hx hb dX4_rooms_2 (by decide) (fun c_2 => ?_) (fun c_2 => ?_)
  · skip
    refine lv_iconst (v := 1) hx hb dX4_rooms_22 (by decide) ?_
    refine lv_goto (tgt := 27) hx hb dX4_rooms_23 (by decide) ?_
    refine va_put (D := (dC, dI)) (ci := 4) (v := .int 1) (ty := .int) (C := RX4) (T := TX4) (N := 24) hx hb hts (k_X4_rooms_in4) tyX4 tyX4_ok nmX4 hown hK hP hD hS 0 rfl rfl 0 (by decide) (hts _ k_X4_rooms_f54) (fun _ h9 => h9) rfl (by decide +kernel) rfl rfl (Nat.le_of_ble_eq_true rfl) dX4_rooms_27 (fun H locs hP hD hS => ?_)
    have hP : va_P (dC, dI) vwCl [(mo, .inr (4, [.int 1, .int zs, .int rq, .long k, .long l0, .int ti, .int ct, .int (nI n), .ref d1, .ref d2, .ref d3, .ref d4, .ref d5, .ref d6, .int (nI kc), .ref e1, .ref e2, .ref e3, .ref e4, .ref e5, .long v0, .long v1, .long v2, .long v3]))] H := hP
    have hD : va_D A [(mo, .inr (4, [.int 1, .int zs, .int rq, .long k, .long l0, .int ti, .int ct, .int (nI n), .ref d1, .ref d2, .ref d3, .ref d4, .ref d5, .ref d6, .int (nI kc), .ref e1, .ref e2, .ref e3, .ref e4, .ref e5, .long v0, .long v1, .long v2, .long v3]))] := hD
    refine lv_aload_n hx hb dX4_rooms_30 rfl (lv_at hl 0 rfl) ?_
    refine va_get (D := (dC, dI)) (ci := 4) (v := .int 1) (C := RX4) (T := TX4) (N := 24) hx hb hts (k_X4_rooms_in4) hown hK hP 0 rfl rfl 0 (by decide) (hts _ k_X4_rooms_f54) (fun _ h9 => h9) rfl dX4_rooms_31 ?_
    refine lv_if_ne (tgt := 47) hx hb dX4_rooms_34 (by decide) (fun c_34 => ?_) (fun c_34 => ?_)
    · skip
      subst_vars
      refine ck_vr hx hb hr hlocks (Nat.le_of_ble_eq_true rfl) (Nat.le_of_ble_eq_true rfl) dX4_rooms_47 () hP hD hS ?_
      exact trivial
    · skip
      exact absurd c_34 (by decide)
  · skip
    refine lv_iload_n hx hb dX4_rooms_5 rfl (lv_at hl 1 rfl) ?_
    refine lv_bipush (v := 32) hx hb dX4_rooms_6 (by decide) ?_
    refine lv_icmp_gt (tgt := 22) hx hb dX4_rooms_8 (by decide) (fun c_8 => ?_) (fun c_8 => ?_)
    · skip
      refine lv_iconst (v := 1) hx hb dX4_rooms_22 (by decide) ?_
      refine lv_goto (tgt := 27) hx hb dX4_rooms_23 (by decide) ?_
      refine va_put (D := (dC, dI)) (ci := 4) (v := .int 1) (ty := .int) (C := RX4) (T := TX4) (N := 24) hx hb hts (k_X4_rooms_in4) tyX4 tyX4_ok nmX4 hown hK hP hD hS 0 rfl rfl 0 (by decide) (hts _ k_X4_rooms_f54) (fun _ h9 => h9) rfl (by decide +kernel) rfl rfl (Nat.le_of_ble_eq_true rfl) dX4_rooms_27 (fun H locs hP hD hS => ?_)
      have hP : va_P (dC, dI) vwCl [(mo, .inr (4, [.int 1, .int zs, .int rq, .long k, .long l0, .int ti, .int ct, .int (nI n), .ref d1, .ref d2, .ref d3, .ref d4, .ref d5, .ref d6, .int (nI kc), .ref e1, .ref e2, .ref e3, .ref e4, .ref e5, .long v0, .long v1, .long v2, .long v3]))] H := hP
      have hD : va_D A [(mo, .inr (4, [.int 1, .int zs, .int rq, .long k, .long l0, .int ti, .int ct, .int (nI n), .ref d1, .ref d2, .ref d3, .ref d4, .ref d5, .ref d6, .int (nI kc), .ref e1, .ref e2, .ref e3, .ref e4, .ref e5, .long v0, .long v1, .long v2, .long v3]))] := hD
      refine lv_aload_n hx hb dX4_rooms_30 rfl (lv_at hl 0 rfl) ?_
      refine va_get (D := (dC, dI)) (ci := 4) (v := .int 1) (C := RX4) (T := TX4) (N := 24) hx hb hts (k_X4_rooms_in4) hown hK hP 0 rfl rfl 0 (by decide) (hts _ k_X4_rooms_f54) (fun _ h9 => h9) rfl dX4_rooms_31 ?_
      refine lv_if_ne (tgt := 47) hx hb dX4_rooms_34 (by decide) (fun c_34 => ?_) (fun c_34 => ?_)
      · skip
        subst_vars
        refine ck_vr hx hb hr hlocks (Nat.le_of_ble_eq_true rfl) (Nat.le_of_ble_eq_true rfl) dX4_rooms_47 () hP hD hS ?_
        exact trivial
      · skip
        exact absurd c_34 (by decide)
    · skip
      refine lv_iload_n hx hb dX4_rooms_11 rfl (lv_at hl 2 rfl) ?_
      refine lv_iconst (v := 1) hx hb dX4_rooms_12 (by decide) ?_
      refine lv_icmp_lt (tgt := 22) hx hb dX4_rooms_13 (by decide) (fun c_13 => ?_) (fun c_13 => ?_)
      · skip
        refine lv_iconst (v := 1) hx hb dX4_rooms_22 (by decide) ?_
        refine lv_goto (tgt := 27) hx hb dX4_rooms_23 (by decide) ?_
        refine va_put (D := (dC, dI)) (ci := 4) (v := .int 1) (ty := .int) (C := RX4) (T := TX4) (N := 24) hx hb hts (k_X4_rooms_in4) tyX4 tyX4_ok nmX4 hown hK hP hD hS 0 rfl rfl 0 (by decide) (hts _ k_X4_rooms_f54) (fun _ h9 => h9) rfl (by decide +kernel) rfl rfl (Nat.le_of_ble_eq_true rfl) dX4_rooms_27 (fun H locs hP hD hS => ?_)
        have hP : va_P (dC, dI) vwCl [(mo, .inr (4, [.int 1, .int zs, .int rq, .long k, .long l0, .int ti, .int ct, .int (nI n), .ref d1, .ref d2, .ref d3, .ref d4, .ref d5, .ref d6, .int (nI kc), .ref e1, .ref e2, .ref e3, .ref e4, .ref e5, .long v0, .long v1, .long v2, .long v3]))] H := hP
        have hD : va_D A [(mo, .inr (4, [.int 1, .int zs, .int rq, .long k, .long l0, .int ti, .int ct, .int (nI n), .ref d1, .ref d2, .ref d3, .ref d4, .ref d5, .ref d6, .int (nI kc), .ref e1, .ref e2, .ref e3, .ref e4, .ref e5, .long v0, .long v1, .long v2, .long v3]))] := hD
        refine lv_aload_n hx hb dX4_rooms_30 rfl (lv_at hl 0 rfl) ?_
        refine va_get (D := (dC, dI)) (ci := 4) (v := .int 1) (C := RX4) (T := TX4) (N := 24) hx hb hts (k_X4_rooms_in4) hown hK hP 0 rfl rfl 0 (by decide) (hts _ k_X4_rooms_f54) (fun _ h9 => h9) rfl dX4_rooms_31 ?_
        refine lv_if_ne (tgt := 47) hx hb dX4_rooms_34 (by decide) (fun c_34 => ?_) (fun c_34 => ?_)
        · skip
          subst_vars
          refine ck_vr hx hb hr hlocks (Nat.le_of_ble_eq_true rfl) (Nat.le_of_ble_eq_true rfl) dX4_rooms_47 () hP hD hS ?_
          exact trivial
        · skip
          exact absurd c_34 (by decide)
      · skip
        refine lv_iload_n hx hb dX4_rooms_16 rfl (lv_at hl 2 rfl) ?_
        refine lv_bipush (v := 16) hx hb dX4_rooms_17 (by decide) ?_
        refine lv_icmp_le (tgt := 26) hx hb dX4_rooms_19 (by decide) (fun c_19 => ?_) (fun c_19 => ?_)
        · skip
          exact absurd ⟨⟨Int32.not_lt.mp c_2, Int32.not_lt.mp c_8⟩, ⟨Int32.not_lt.mp c_13, c_19⟩⟩ hbad
        · skip
          refine lv_iconst (v := 1) hx hb dX4_rooms_22 (by decide) ?_
          refine lv_goto (tgt := 27) hx hb dX4_rooms_23 (by decide) ?_
          refine va_put (D := (dC, dI)) (ci := 4) (v := .int 1) (ty := .int) (C := RX4) (T := TX4) (N := 24) hx hb hts (k_X4_rooms_in4) tyX4 tyX4_ok nmX4 hown hK hP hD hS 0 rfl rfl 0 (by decide) (hts _ k_X4_rooms_f54) (fun _ h9 => h9) rfl (by decide +kernel) rfl rfl (Nat.le_of_ble_eq_true rfl) dX4_rooms_27 (fun H locs hP hD hS => ?_)
          have hP : va_P (dC, dI) vwCl [(mo, .inr (4, [.int 1, .int zs, .int rq, .long k, .long l0, .int ti, .int ct, .int (nI n), .ref d1, .ref d2, .ref d3, .ref d4, .ref d5, .ref d6, .int (nI kc), .ref e1, .ref e2, .ref e3, .ref e4, .ref e5, .long v0, .long v1, .long v2, .long v3]))] H := hP
          have hD : va_D A [(mo, .inr (4, [.int 1, .int zs, .int rq, .long k, .long l0, .int ti, .int ct, .int (nI n), .ref d1, .ref d2, .ref d3, .ref d4, .ref d5, .ref d6, .int (nI kc), .ref e1, .ref e2, .ref e3, .ref e4, .ref e5, .long v0, .long v1, .long v2, .long v3]))] := hD
          refine lv_aload_n hx hb dX4_rooms_30 rfl (lv_at hl 0 rfl) ?_
          refine va_get (D := (dC, dI)) (ci := 4) (v := .int 1) (C := RX4) (T := TX4) (N := 24) hx hb hts (k_X4_rooms_in4) hown hK hP 0 rfl rfl 0 (by decide) (hts _ k_X4_rooms_f54) (fun _ h9 => h9) rfl dX4_rooms_31 ?_
          refine lv_if_ne (tgt := 47) hx hb dX4_rooms_34 (by decide) (fun c_34 => ?_) (fun c_34 => ?_)
          · skip
            subst_vars
            refine ck_vr hx hb hr hlocks (Nat.le_of_ble_eq_true rfl) (Nat.le_of_ble_eq_true rfl) dX4_rooms_47 () hP hD hS ?_
            exact trivial
          · skip
            exact absurd c_34 (by decide)
set_option maxRecDepth 20000 in
theorem k_X4_cookieOf_c103 : (.constantLong RX4 103 (4294967295) : Cond) ∈ wsX4_cookieOf := by decide +kernel
set_option maxRecDepth 20000 in
theorem k_X4_cookieOf_c105 : (.constantLong RX4 105 (65536) : Cond) ∈ wsX4_cookieOf := by decide +kernel
set_option maxRecDepth 20000 in
theorem k_X4_cookieOf_c107 : (.constantLong RX4 107 (1048576) : Cond) ∈ wsX4_cookieOf := by decide +kernel
set_option maxRecDepth 20000 in
theorem k_X4_cookieOf_c109 : (.constantLong RX4 109 (16777215) : Cond) ∈ wsX4_cookieOf := by decide +kernel
set_option maxHeartbeats 4000000 in
set_option maxRecDepth 100000 in
theorem c_X4_cookieOf (l : Launch) (dC : Nat → ClassId) (dI : Nat → Nat → Nat) (cI cJ cZ : ClassId) (lo sz : Nat) (mo : Nat) (th zs rq : Int32) (k l0 : Int64) (ti ct : Int32) (n : Nat) (d1 d2 d3 d4 d5 d6 : Nat) (kc : Nat) (e1 e2 e3 e4 e5 : Nat) (v0 v1 v2 v3 : Int64) (aa bb num kd sl : Int32) : Met l yX4_cookieOf wsX4_cookieOf ({ frames := 4, cells := 0, slots := 0, locals := 90 } : Room) (va_Pc [.ref mo, .int aa, .int bb, .int num, .int kd, .int sl] (ck_P (dC, dI) [(cI, .int), (cJ, .long), (cZ, .boolean)] lo sz [(mo, .inr (4, [.int th, .int zs, .int rq, .long k, .long l0, .int ti, .int ct, .int (nI n), .ref d1, .ref d2, .ref d3, .ref d4, .ref d5, .ref d6, .int (nI kc), .ref e1, .ref e2, .ref e3, .ref e4, .ref e5, .long v0, .long v1, .long v2, .long v3]))])) (va_Qi (fun (r : Int32) (u : Int64 × Int64 × Int64 × Int64) => r = ck_mck k l0 aa bb num kd sl) (fun u => ck_B (dC, dI) vwCl (va_A [(mo, .inr (4, [.int th, .int zs, .int rq, .long k, .long l0, .int ti, .int ct, .int (nI n), .ref d1, .ref d2, .ref d3, .ref d4, .ref d5, .ref d6, .int (nI kc), .ref e1, .ref e2, .ref e3, .ref e4, .ref e5, .long v0, .long v1, .long v2, .long v3]))] sz) ((fun u : Int64 × Int64 × Int64 × Int64 => ([(mo, .inr (4, [.int th, .int zs, .int rq, .long k, .long l0, .int ti, .int ct, .int (nI n), .ref d1, .ref d2, .ref d3, .ref d4, .ref d5, .ref d6, .int (nI kc), .ref e1, .ref e2, .ref e3, .ref e4, .ref e5, .long u.1, .long u.2.1, .long u.2.2.1, .long u.2.2.2]))] : va_W)) u)) (va_A [(mo, .inr (4, [.int th, .int zs, .int rq, .long k, .long l0, .int ti, .int ct, .int (nI n), .ref d1, .ref d2, .ref d3, .ref d4, .ref d5, .ref d6, .int (nI kc), .ref e1, .ref e2, .ref e3, .ref e4, .ref e5, .long v0, .long v1, .long v2, .long v3]))] sz)) 0 0 (va_A [(mo, .inr (4, [.int th, .int zs, .int rq, .long k, .long l0, .int ti, .int ct, .int (nI n), .ref d1, .ref d2, .ref d3, .ref d4, .ref d5, .ref d6, .int (nI kc), .ref e1, .ref e2, .ref e3, .ref e4, .ref e5, .long v0, .long v1, .long v2, .long v3]))] sz) := by
  refine Met.ofW (cc := cX4_cookieOf) (maxL := 11) (ret := (some .int)) (by decide) rfl ?_
  intro p e s m args below meth c s₁ B hml hv
  obtain ⟨rfl, hsz, hP, hK, hD0, hE⟩ := hv
  have hx := B.exec
  have hb := B.bytes
  have hr := B.returns
  have hts := atoms_spec (ws := wsX4_cookieOf) B.pre
  have hown : s.vm.findClass RX4 = some m.cls := findClass_of_methodNamed B.named
  have hlocks := B.notSynchronized
  subst hsz
  have hD := hD0.self (sz := s.heap.size)
  have hlo := ck_lo (sz := s.heap.size) hD0 hE.1
  generalize hAe : va_A [(mo, .inr (4, [.int th, .int zs, .int rq, .long k, .long l0, .int ti, .int ct, .int (nI n), .ref d1, .ref d2, .ref d3, .ref d4, .ref d5, .ref d6, .int (nI kc), .ref e1, .ref e2, .ref e3, .ref e4, .ref e5, .long v0, .long v1, .long v2, .long v3]))] s.heap.size = A at hD hlo ⊢
  have hA : ∀ q : Nat, s.heap.size ≤ q → A q := fun q h => by rw [← hAe]; exact Or.inr h
  have hG : ck_G (dC, dI) [(cI, .int), (cJ, .long), (cZ, .boolean)] lo A s := ⟨hK, hE, hA, hlo⟩
  have hS : va_S A s.heap s.heap [] := va_S.rf
  have hP : va_P (dC, dI) vwCl [(mo, .inr (4, [.int th, .int zs, .int rq, .long k, .long l0, .int ti, .int ct, .int (nI n), .ref d1, .ref d2, .ref d3, .ref d4, .ref d5, .ref d6, .int (nI kc), .ref e1, .ref e2, .ref e3, .ref e4, .ref e5, .long v0, .long v1, .long v2, .long v3]))] s.heap := hP
  have hl := lv_entry ([.ref mo, .int aa, .int bb, .int num, .int kd, .int sl]) (n := 11) (Nat.le_of_ble_eq_true rfl)
  rw [lg_entry_eq]
  generalize (lg_sl ([.ref mo, .int aa, .int bb, .int num, .int kd, .int sl]) ++ List.replicate (11 - (lg_sl ([.ref mo, .int aa, .int bb, .int num, .int kd, .int sl])).length) Slot.unset).toArray = ls at hl ⊢
  have hl : lv_has ls 11 [(0, .ref mo), (1, .int aa), (2, .int bb), (3, .int num), (4, .int kd), (5, .int sl)] := hl
  refine lv_iload_n hx hb dX4_cookieOf_0 rfl (lv_at hl 1 rfl) ?_
  refine lv_i2l hx hb dX4_cookieOf_1 rfl ?_
  refine lv_bipush (v := 32) hx hb dX4_cookieOf_2 (by decide) ?_
  refine lv_lshl hx hb dX4_cookieOf_4 rfl ?_
  refine lv_iload_n hx hb dX4_cookieOf_5 rfl (lv_at hl 3 rfl) ?_
  refine lv_i2l hx hb dX4_cookieOf_6 rfl ?_
  refine lv_ldc2 hx hb hown (hts _ k_X4_cookieOf_c103) dX4_cookieOf_7 ?_
  refine lv_land hx hb dX4_cookieOf_10 ?_
  refine lv_lor hx hb dX4_cookieOf_11 ?_
  refine lv_topl (fun x_1 ex_1 => ?_)
  refine lv_lstore (lv' := [(6, .long x_1), (0, .ref mo), (1, .int aa), (2, .int bb), (3, .int num), (4, .int kd), (5, .int sl)]) hx hb dX4_cookieOf_12 hl (by decide) rfl (fun ls hl => ?_)
  refine lv_iload_n hx hb dX4_cookieOf_14 rfl (lv_at hl 3 rfl) ?_
  refine lv_i2l hx hb dX4_cookieOf_15 rfl ?_
  refine lv_ldc2 hx hb hown (hts _ k_X4_cookieOf_c105) dX4_cookieOf_16 ?_
  refine lv_iload hx hb dX4_cookieOf_19 (lv_at hl 5 rfl) ?_
  refine lv_i2l hx hb dX4_cookieOf_21 rfl ?_
  refine lv_lmul hx hb dX4_cookieOf_22 ?_
  refine lv_ladd hx hb dX4_cookieOf_23 ?_
  refine lv_ldc2 hx hb hown (hts _ k_X4_cookieOf_c107) dX4_cookieOf_24 ?_
  refine lv_iload hx hb dX4_cookieOf_27 (lv_at hl 6 rfl) ?_
  refine lv_i2l hx hb dX4_cookieOf_29 rfl ?_
  refine lv_lmul hx hb dX4_cookieOf_30 ?_
  refine lv_ladd hx hb dX4_cookieOf_31 ?_
  refine lv_topl (fun x_2 ex_2 => ?_)
  refine lv_lstore (lv' := [(8, .long x_2), (6, .long x_1), (0, .ref mo), (1, .int aa), (2, .int bb), (3, .int num), (4, .int kd), (5, .int sl)]) hx hb dX4_cookieOf_32 hl (by decide) rfl (fun ls hl => ?_)
  refine lv_aload_n hx hb dX4_cookieOf_34 rfl (lv_at hl 2 rfl) ?_
  refine lv_lload hx hb dX4_cookieOf_35 (lv_at hl 1 rfl) ?_
  refine lv_lload hx hb dX4_cookieOf_37 (lv_at hl 0 rfl) ?_
  refine ck_cl (wr := []) (va_runV (As := [.long x_1, .long x_2]) (rest := []) ⟨hx, hb, hml, hown, hts⟩ (c_X4_hashOf l dC dI cI cJ cZ lo _ mo th zs rq k l0 ti ct n d1 d2 d3 d4 d5 d6 kc e1 e2 e3 e4 e5 v0 v1 v2 v3 x_1 x_2) (cwV 2 hts gX4_cookieOf_X4_hashOf rfl rfl rfl (by decide +kernel) ⟨(Nat.le_of_ble_eq_true rfl), (Nat.le_of_ble_eq_true rfl)⟩) ⟨ck_blind, va_recv hK hP (ci := 4) (q0 := 0) rfl rfl, (ck_pre hG hP hD hS [0] rfl (by decide) _)⟩ rfl rfl hl.1 rfl (lv_room (Nat.le_of_ble_eq_true rfl)) dX4_cookieOf_39 ⟨(Nat.le_of_ble_eq_true rfl), (Nat.le_of_ble_eq_true rfl)⟩) hP hD hS hA [0] [] rfl rfl (by decide) (by decide) (fun r_3 u H locs hw_3 hP hD hS => ?_)
  obtain ⟨u0_3, u1_3, u2_3, u3_3⟩ := u
  have hw_3 : r_3 = ck_sip k l0 x_1 x_2 := hw_3
  have hP : va_P (dC, dI) vwCl [(mo, .inr (4, [.int th, .int zs, .int rq, .long k, .long l0, .int ti, .int ct, .int (nI n), .ref d1, .ref d2, .ref d3, .ref d4, .ref d5, .ref d6, .int (nI kc), .ref e1, .ref e2, .ref e3, .ref e4, .ref e5, .long u0_3, .long u1_3, .long u2_3, .long u3_3]))] H := hP
  have hD : va_D A [(mo, .inr (4, [.int th, .int zs, .int rq, .long k, .long l0, .int ti, .int ct, .int (nI n), .ref d1, .ref d2, .ref d3, .ref d4, .ref d5, .ref d6, .int (nI kc), .ref e1, .ref e2, .ref e3, .ref e4, .ref e5, .long u0_3, .long u1_3, .long u2_3, .long u3_3]))] := hD
  refine lv_ldc2 hx hb hown (hts _ k_X4_cookieOf_c109) dX4_cookieOf_42 ?_
  refine lv_land hx hb dX4_cookieOf_45 ?_
  refine lv_l2i hx hb dX4_cookieOf_46 rfl ?_
  refine lv_topi (fun x_4 ex_4 => ?_)
  refine lv_istore (lv' := [(10, .int x_4), (8, .long x_2), (6, .long x_1), (0, .ref mo), (1, .int aa), (2, .int bb), (3, .int num), (4, .int kd), (5, .int sl)]) hx hb dX4_cookieOf_47 hl (by decide) rfl (fun ls hl => ?_)
  refine lv_iload hx hb dX4_cookieOf_49 (lv_at hl 8 rfl) ?_
  refine lv_bipush (v := 32) hx hb dX4_cookieOf_51 (by decide) ?_
  refine lv_irem hx hb dX4_cookieOf_53 (by decide) ?_
  refine lv_bipush (v := 27) hx hb dX4_cookieOf_54 (by decide) ?_
  refine lv_ishl hx hb dX4_cookieOf_56 ?_
  refine lv_iload hx hb dX4_cookieOf_57 (lv_at hl 7 rfl) ?_
  refine lv_bipush (v := 24) hx hb dX4_cookieOf_59 (by decide) ?_
  refine lv_ishl hx hb dX4_cookieOf_61 ?_
  refine lv_ior hx hb dX4_cookieOf_62 ?_
  refine lv_iload hx hb dX4_cookieOf_63 (lv_at hl 0 rfl) ?_
  refine lv_ior hx hb dX4_cookieOf_65 ?_
  refine ck_ir hx hb hr hlocks (Nat.le_of_ble_eq_true rfl) (Nat.le_of_ble_eq_true rfl) dX4_cookieOf_66 (u0_3, u1_3, u2_3, u3_3) hP hD hS ?_
  subst_vars
  rfl
set_option maxRecDepth 20000 in
theorem k_X4_noPort_c111 : (.constant RX4 111 (65535) : Cond) ∈ wsX4_noPort := by decide +kernel
set_option maxHeartbeats 4000000 in
set_option maxRecDepth 100000 in
theorem c_X4_noPort (l : Launch) (dC : Nat → ClassId) (dI : Nat → Nat → Nat) (cI cJ cZ : ClassId) (lo sz : Nat) (vv : Int32) : Met l yX4_noPort wsX4_noPort ({ frames := 0, cells := 0, slots := 0, locals := 0 } : Room) (va_Pc [.int vv] (ck_P (dC, dI) [(cI, .int), (cJ, .long), (cZ, .boolean)] lo sz [])) (vp_Si (fun (r : Int32) => (r = 1 ∧ ¬ (0 ≤ vv ∧ vv ≤ 65535)) ∨ (r = 0 ∧ (0 ≤ vv ∧ vv ≤ 65535)))) 0 0 (fun _ => False) := by
  refine Met.ofW (cc := cX4_noPort) (maxL := 1) (ret := (some .boolean)) (by decide) rfl ?_
  intro p e s m args below meth c s₁ B hml hv
  obtain ⟨rfl, hsz, hP, hK, hD0, hE⟩ := hv
  have hx := B.exec
  have hb := B.bytes
  have hr := B.returns
  have hts := atoms_spec (ws := wsX4_noPort) B.pre
  have hown : s.vm.findClass RX4 = some m.cls := findClass_of_methodNamed B.named
  have hlocks := B.notSynchronized
  subst hsz
  have hD := hD0.self (sz := s.heap.size)
  have hlo := ck_lo (sz := s.heap.size) hD0 hE.1
  generalize hAe : va_A [] s.heap.size = A at hD hlo
  have hA : ∀ q : Nat, s.heap.size ≤ q → A q := fun q h => by rw [← hAe]; exact Or.inr h
  have hG : ck_G (dC, dI) [(cI, .int), (cJ, .long), (cZ, .boolean)] lo A s := ⟨hK, hE, hA, hlo⟩
  have hS : va_S A s.heap s.heap [] := va_S.rf
  have hP : va_P (dC, dI) vwCl [] s.heap := hP
  have hl := lv_entry ([.int vv]) (n := 1) (Nat.le_of_ble_eq_true rfl)
  rw [lg_entry_eq]
  generalize (lg_sl ([.int vv]) ++ List.replicate (1 - (lg_sl ([.int vv])).length) Slot.unset).toArray = ls at hl ⊢
  have hl : lv_has ls 1 [(0, .int vv)] := hl
  refine lv_iload_n hx hb dX4_noPort_0 rfl (lv_at hl 0 rfl) ?_
  refine lv_if_lt (tgt := 10) hx hb dX4_noPort_1 (by decide) (fun c_1 => ?_) (fun c_1 => ?_)
  · skip
    refine lv_iconst (v := 1) hx hb dX4_noPort_10 (by decide) ?_
    refine lv_goto (tgt := 15) hx hb dX4_noPort_11 (by decide) ?_
    refine ck_zq hx hb hr hlocks (by first | exact Or.inl rfl | exact Or.inr rfl) dX4_noPort_15 ?_
    exact Or.inl ⟨rfl, fun z => absurd c_1 (Int32.not_lt.mpr z.1)⟩
  · skip
    refine lv_iload_n hx hb dX4_noPort_4 rfl (lv_at hl 0 rfl) ?_
    refine lv_ldc hx hb hown (hts _ k_X4_noPort_c111) dX4_noPort_5 ?_
    refine lv_icmp_le (tgt := 14) hx hb dX4_noPort_7 (by decide) (fun c_7 => ?_) (fun c_7 => ?_)
    · skip
      refine lv_iconst (v := 0) hx hb dX4_noPort_14 (by decide) ?_
      refine ck_zq hx hb hr hlocks (by first | exact Or.inl rfl | exact Or.inr rfl) dX4_noPort_15 ?_
      exact Or.inr ⟨rfl, Int32.not_lt.mp c_1, c_7⟩
    · skip
      refine lv_iconst (v := 1) hx hb dX4_noPort_10 (by decide) ?_
      refine lv_goto (tgt := 15) hx hb dX4_noPort_11 (by decide) ?_
      refine ck_zq hx hb hr hlocks (by first | exact Or.inl rfl | exact Or.inr rfl) dX4_noPort_15 ?_
      exact Or.inl ⟨rfl, fun z => c_7 z.2⟩
set_option maxRecDepth 20000 in
theorem k_X4_half_f120 : (.fieldLink RX4 120 "CookieListenerModel" "halves" "I" : Cond) ∈ wsX4_half := by decide +kernel
set_option maxRecDepth 20000 in
theorem k_X4_half_in4 : ∀ w ∈ u_ws RX4 TX4 24, w ∈ wsX4_half := by decide +kernel
set_option maxRecDepth 20000 in
theorem k_X4_half_f19 : (.fieldLink RX4 19 "CookieListenerModel" "halfAddress" "[I" : Cond) ∈ wsX4_half := by decide +kernel
set_option maxRecDepth 20000 in
theorem k_X4_half_f23 : (.fieldLink RX4 23 "CookieListenerModel" "halfPort" "[I" : Cond) ∈ wsX4_half := by decide +kernel
set_option maxHeartbeats 4000000 in
set_option maxRecDepth 100000 in
theorem c_X4_half (l : Launch) (dC : Nat → ClassId) (dI : Nat → Nat → Nat) (cI cJ cZ : ClassId) (lo sz : Nat) (mo : Nat) (th zs rq : Int32) (k l0 : Int64) (ti ct : Int32) (n : Nat) (d1 d2 d3 d4 d5 d6 : Nat) (kc : Nat) (e1 e2 e3 e4 e5 : Nat) (v0 v1 v2 v3 : Int64) (p1 p2 : Nat → Int32) (aa bb : Int32) (hn : n ≤ 32) : Met l yX4_half wsX4_half ({ frames := 0, cells := 0, slots := 0, locals := 0 } : Room) (va_Pc [.ref mo, .int aa, .int bb] (ck_P (dC, dI) [(cI, .int), (cJ, .long), (cZ, .boolean)] lo sz [(mo, .inr (4, [.int th, .int zs, .int rq, .long k, .long l0, .int ti, .int ct, .int (nI n), .ref d1, .ref d2, .ref d3, .ref d4, .ref d5, .ref d6, .int (nI kc), .ref e1, .ref e2, .ref e3, .ref e4, .ref e5, .long v0, .long v1, .long v2, .long v3])), (d1, .inl (cI, 32, .inl p1)), (d2, .inl (cI, 32, .inl p2))])) (vp_Si (fun (r : Int32) => ck_mfd n p1 p2 aa bb r)) 0 0 (fun _ => False) := by
  refine Met.ofW (cc := cX4_half) (maxL := 4) (ret := (some .int)) (by decide) rfl ?_
  intro p e s m args below meth c s₁ B hml hv
  obtain ⟨rfl, hsz, hP, hK, hD0, hE⟩ := hv
  have hx := B.exec
  have hb := B.bytes
  have hr := B.returns
  have hts := atoms_spec (ws := wsX4_half) B.pre
  have hown : s.vm.findClass RX4 = some m.cls := findClass_of_methodNamed B.named
  have hlocks := B.notSynchronized
  subst hsz
  have hD := hD0.self (sz := s.heap.size)
  have hlo := ck_lo (sz := s.heap.size) hD0 hE.1
  generalize hAe : va_A [(mo, .inr (4, [.int th, .int zs, .int rq, .long k, .long l0, .int ti, .int ct, .int (nI n), .ref d1, .ref d2, .ref d3, .ref d4, .ref d5, .ref d6, .int (nI kc), .ref e1, .ref e2, .ref e3, .ref e4, .ref e5, .long v0, .long v1, .long v2, .long v3])), (d1, .inl (cI, 32, .inl p1)), (d2, .inl (cI, 32, .inl p2))] s.heap.size = A at hD hlo
  have hA : ∀ q : Nat, s.heap.size ≤ q → A q := fun q h => by rw [← hAe]; exact Or.inr h
  have hG : ck_G (dC, dI) [(cI, .int), (cJ, .long), (cZ, .boolean)] lo A s := ⟨hK, hE, hA, hlo⟩
  have hS : va_S A s.heap s.heap [] := va_S.rf
  have hP : va_P (dC, dI) vwCl [(mo, .inr (4, [.int th, .int zs, .int rq, .long k, .long l0, .int ti, .int ct, .int (nI n), .ref d1, .ref d2, .ref d3, .ref d4, .ref d5, .ref d6, .int (nI kc), .ref e1, .ref e2, .ref e3, .ref e4, .ref e5, .long v0, .long v1, .long v2, .long v3])), (d1, .inl (cI, 32, .inl p1)), (d2, .inl (cI, 32, .inl p2))] s.heap := hP
  have hl := lv_entry ([.ref mo, .int aa, .int bb]) (n := 4) (Nat.le_of_ble_eq_true rfl)
  rw [lg_entry_eq]
  generalize (lg_sl ([.ref mo, .int aa, .int bb]) ++ List.replicate (4 - (lg_sl ([.ref mo, .int aa, .int bb])).length) Slot.unset).toArray = ls at hl ⊢
  have hl : lv_has ls 4 [(0, .ref mo), (1, .int aa), (2, .int bb)] := hl
  refine lv_iconst (v := nI 0) hx hb dX4_half_0 (by decide) ?_
  refine lv_istore_n (lv' := [(3, .int (nI 0)), (0, .ref mo), (1, .int aa), (2, .int bb)]) hx hb dX4_half_1 rfl hl (by decide) rfl (fun ls hl => ?_)
  have hloop : ∀ (fu : Nat) (i : Nat), (i ≤ n) → (n + 1 ≤ i + fu) → (∀ q, q < i → ¬ (p1 q = aa ∧ p2 q = bb)) → ∀ (H : Heap) (locs : List Loc) (ls : Array Slot), H = s.heap → locs = [] → va_P (dC, dI) vwCl [(mo, .inr (4, [.int th, .int zs, .int rq, .long k, .long l0, .int ti, .int ct, .int (nI n), .ref d1, .ref d2, .ref d3, .ref d4, .ref d5, .ref d6, .int (nI kc), .ref e1, .ref e2, .ref e3, .ref e4, .ref e5, .long v0, .long v1, .long v2, .long v3])), (d1, .inl (cI, 32, .inl p1)), (d2, .inl (cI, 32, .inl p2))] H → va_D A [(mo, .inr (4, [.int th, .int zs, .int rq, .long k, .long l0, .int ti, .int ct, .int (nI n), .ref d1, .ref d2, .ref d3, .ref d4, .ref d5, .ref d6, .int (nI kc), .ref e1, .ref e2, .ref e3, .ref e4, .ref e5, .long v0, .long v1, .long v2, .long v3])), (d1, .inl (cI, 32, .inl p1)), (d2, .inl (cI, 32, .inl p2))] → va_S A s.heap H locs → lv_has ls 4 [(0, .ref mo), (1, .int aa), (2, .int bb), (3, .int (nI i))] → W p l e (headSpec wsX4_half ({ frames := 0, cells := 0, slots := 0, locals := 0 } : Room)).room s m (([.ref mo, .int aa, .int bb] : List Value).toArray) below meth c H locs 0 0 (MQ below (vp_Si (fun (r : Int32) => ck_mfd n p1 p2 aa bb r)) (([.ref mo, .int aa, .int bb] : List Value).toArray) s 0 0 (fun _ => False)) (F0 m 2 ls []) := by
    intro fu
    induction fu with
    | zero =>
      intro i hi hf hv
      exfalso
      omega
    | succ fu ih =>
      intro i hi hf hv H locs ls eH eL hP hD hS hl
      subst eH; subst eL
      refine lv_iload_n hx hb dX4_half_2 rfl (lv_at hl 3 rfl) ?_
      refine lv_aload_n hx hb dX4_half_3 rfl (lv_at hl 0 rfl) ?_
      refine va_get (D := (dC, dI)) (ci := 4) (v := .int (nI n)) (C := RX4) (T := TX4) (N := 24) hx hb hts (k_X4_half_in4) hown hK hP 0 rfl rfl 7 (by decide) (hts _ k_X4_half_f120) (fun _ h9 => h9) rfl dX4_half_4 ?_
      refine lv_icmp_ge (tgt := 38) hx hb dX4_half_7 (by decide) (fun c_7 => ?_) (fun c_7 => ?_)
      · skip
        have c_7 : n ≤ i := (nI_leI (by omega) (by omega)).mp c_7
        refine lv_iconst (v := (-1)) hx hb dX4_half_38 (by decide) ?_
        refine ck_iq hx hb hr hlocks dX4_half_39 ?_
        exact Or.inl ⟨rfl, fun q hq => hv q (by omega)⟩
      · skip
        have c_7 : ¬ (n ≤ i) := fun z => c_7 ((nI_leI (by omega) (by omega)).mpr z)
        refine lv_aload_n hx hb dX4_half_10 rfl (lv_at hl 0 rfl) ?_
        refine va_get (D := (dC, dI)) (ci := 4) (v := .ref d1) (C := RX4) (T := TX4) (N := 24) hx hb hts (k_X4_half_in4) hown hK hP 0 rfl rfl 8 (by decide) (hts _ k_X4_half_f19) (fun _ h9 => h9) rfl dX4_half_11 ?_
        refine lv_iload_n hx hb dX4_half_14 rfl (lv_at hl 3 rfl) ?_
        refine ck_iald hx hb hK hP 1 0 rfl rfl (by omega) (by decide) dX4_half_15 ?_
        refine lv_iload_n hx hb dX4_half_16 rfl (lv_at hl 1 rfl) ?_
        refine lv_icmp_ne (tgt := 32) hx hb dX4_half_17 (by decide) (fun c_17 => ?_) (fun c_17 => ?_)
        · skip
          refine lv_iinc (v := nI (i + 1)) (lv' := [(3, .int (nI (i + 1))), (0, .ref mo), (1, .int aa), (2, .int bb)]) hx hb dX4_half_32 hl (k := 3) rfl (nI_1 _) (by decide) rfl (fun ls hl => ?_)
          refine lv_goto (tgt := 2) hx hb dX4_half_35 (by decide) ?_
          exact ih (i + 1) (by omega) (by omega) (lt_s hv (fun e => c_17 e.1)) _ _ _ rfl rfl (hP.sub [0, 1, 2] rfl) (hD.sub [0, 1, 2] (by decide) rfl) hS (lv_sub hl [1, 2, 3, 0] rfl)
        · skip
          refine lv_aload_n hx hb dX4_half_20 rfl (lv_at hl 0 rfl) ?_
          refine va_get (D := (dC, dI)) (ci := 4) (v := .ref d2) (C := RX4) (T := TX4) (N := 24) hx hb hts (k_X4_half_in4) hown hK hP 0 rfl rfl 9 (by decide) (hts _ k_X4_half_f23) (fun _ h9 => h9) rfl dX4_half_21 ?_
          refine lv_iload_n hx hb dX4_half_24 rfl (lv_at hl 3 rfl) ?_
          refine ck_iald hx hb hK hP 2 0 rfl rfl (by omega) (by decide) dX4_half_25 ?_
          refine lv_iload_n hx hb dX4_half_26 rfl (lv_at hl 2 rfl) ?_
          refine lv_icmp_ne (tgt := 32) hx hb dX4_half_27 (by decide) (fun c_27 => ?_) (fun c_27 => ?_)
          · skip
            refine lv_iinc (v := nI (i + 1)) (lv' := [(3, .int (nI (i + 1))), (0, .ref mo), (1, .int aa), (2, .int bb)]) hx hb dX4_half_32 hl (k := 3) rfl (nI_1 _) (by decide) rfl (fun ls hl => ?_)
            refine lv_goto (tgt := 2) hx hb dX4_half_35 (by decide) ?_
            exact ih (i + 1) (by omega) (by omega) (lt_s hv (fun e => c_27 e.2)) _ _ _ rfl rfl (hP.sub [0, 1, 2] rfl) (hD.sub [0, 1, 2] (by decide) rfl) hS (lv_sub hl [1, 2, 3, 0] rfl)
          · skip
            refine lv_iload_n hx hb dX4_half_30 rfl (lv_at hl 3 rfl) ?_
            refine ck_iq hx hb hr hlocks dX4_half_31 ?_
            exact Or.inr ⟨i, by omega, rfl, c_17, c_27⟩
  exact hloop (n + 1) 0 (by omega) (by omega) (fun q hq => absurd hq (Nat.not_lt_zero q)) _ _ _ rfl rfl (hP.sub [0, 1, 2] rfl) (hD.sub [0, 1, 2] (by decide) rfl) hS (lv_sub hl [1, 2, 3, 0] rfl)
set_option maxRecDepth 20000 in
theorem k_X4_opened_f123 : (.fieldLink RX4 123 "CookieListenerModel" "open" "I" : Cond) ∈ wsX4_opened := by decide +kernel
set_option maxRecDepth 20000 in
theorem k_X4_opened_in4 : ∀ w ∈ u_ws RX4 TX4 24, w ∈ wsX4_opened := by decide +kernel
set_option maxRecDepth 20000 in
theorem k_X4_opened_f38 : (.fieldLink RX4 38 "CookieListenerModel" "openAddress" "[I" : Cond) ∈ wsX4_opened := by decide +kernel
set_option maxRecDepth 20000 in
theorem k_X4_opened_f41 : (.fieldLink RX4 41 "CookieListenerModel" "openPort" "[I" : Cond) ∈ wsX4_opened := by decide +kernel
set_option maxHeartbeats 4000000 in
set_option maxRecDepth 100000 in
theorem c_X4_opened (l : Launch) (dC : Nat → ClassId) (dI : Nat → Nat → Nat) (cI cJ cZ : ClassId) (lo sz : Nat) (mo : Nat) (th zs rq : Int32) (k l0 : Int64) (ti ct : Int32) (n : Nat) (d1 d2 d3 d4 d5 d6 : Nat) (kc : Nat) (e1 e2 e3 e4 e5 : Nat) (v0 v1 v2 v3 : Int64) (t1 t2 : Nat → Int32) (aa bb : Int32) (hn : kc ≤ 64) : Met l yX4_opened wsX4_opened ({ frames := 0, cells := 0, slots := 0, locals := 0 } : Room) (va_Pc [.ref mo, .int aa, .int bb] (ck_P (dC, dI) [(cI, .int), (cJ, .long), (cZ, .boolean)] lo sz [(mo, .inr (4, [.int th, .int zs, .int rq, .long k, .long l0, .int ti, .int ct, .int (nI n), .ref d1, .ref d2, .ref d3, .ref d4, .ref d5, .ref d6, .int (nI kc), .ref e1, .ref e2, .ref e3, .ref e4, .ref e5, .long v0, .long v1, .long v2, .long v3])), (e1, .inl (cI, 64, .inl t1)), (e2, .inl (cI, 64, .inl t2))])) (vp_Si (fun (r : Int32) => ck_mfd kc t1 t2 aa bb r)) 0 0 (fun _ => False) := by
  refine Met.ofW (cc := cX4_opened) (maxL := 4) (ret := (some .int)) (by decide) rfl ?_
  intro p e s m args below meth c s₁ B hml hv
  obtain ⟨rfl, hsz, hP, hK, hD0, hE⟩ := hv
  have hx := B.exec
  have hb := B.bytes
  have hr := B.returns
  have hts := atoms_spec (ws := wsX4_opened) B.pre
  have hown : s.vm.findClass RX4 = some m.cls := findClass_of_methodNamed B.named
  have hlocks := B.notSynchronized
  subst hsz
  have hD := hD0.self (sz := s.heap.size)
  have hlo := ck_lo (sz := s.heap.size) hD0 hE.1
  generalize hAe : va_A [(mo, .inr (4, [.int th, .int zs, .int rq, .long k, .long l0, .int ti, .int ct, .int (nI n), .ref d1, .ref d2, .ref d3, .ref d4, .ref d5, .ref d6, .int (nI kc), .ref e1, .ref e2, .ref e3, .ref e4, .ref e5, .long v0, .long v1, .long v2, .long v3])), (e1, .inl (cI, 64, .inl t1)), (e2, .inl (cI, 64, .inl t2))] s.heap.size = A at hD hlo
  have hA : ∀ q : Nat, s.heap.size ≤ q → A q := fun q h => by rw [← hAe]; exact Or.inr h
  have hG : ck_G (dC, dI) [(cI, .int), (cJ, .long), (cZ, .boolean)] lo A s := ⟨hK, hE, hA, hlo⟩
  have hS : va_S A s.heap s.heap [] := va_S.rf
  have hP : va_P (dC, dI) vwCl [(mo, .inr (4, [.int th, .int zs, .int rq, .long k, .long l0, .int ti, .int ct, .int (nI n), .ref d1, .ref d2, .ref d3, .ref d4, .ref d5, .ref d6, .int (nI kc), .ref e1, .ref e2, .ref e3, .ref e4, .ref e5, .long v0, .long v1, .long v2, .long v3])), (e1, .inl (cI, 64, .inl t1)), (e2, .inl (cI, 64, .inl t2))] s.heap := hP
  have hl := lv_entry ([.ref mo, .int aa, .int bb]) (n := 4) (Nat.le_of_ble_eq_true rfl)
  rw [lg_entry_eq]
  generalize (lg_sl ([.ref mo, .int aa, .int bb]) ++ List.replicate (4 - (lg_sl ([.ref mo, .int aa, .int bb])).length) Slot.unset).toArray = ls at hl ⊢
  have hl : lv_has ls 4 [(0, .ref mo), (1, .int aa), (2, .int bb)] := hl
  refine lv_iconst (v := nI 0) hx hb dX4_opened_0 (by decide) ?_
  refine lv_istore_n (lv' := [(3, .int (nI 0)), (0, .ref mo), (1, .int aa), (2, .int bb)]) hx hb dX4_opened_1 rfl hl (by decide) rfl (fun ls hl => ?_)
  have hloop : ∀ (fu : Nat) (i : Nat), (i ≤ kc) → (kc + 1 ≤ i + fu) → (∀ q, q < i → ¬ (t1 q = aa ∧ t2 q = bb)) → ∀ (H : Heap) (locs : List Loc) (ls : Array Slot), H = s.heap → locs = [] → va_P (dC, dI) vwCl [(mo, .inr (4, [.int th, .int zs, .int rq, .long k, .long l0, .int ti, .int ct, .int (nI n), .ref d1, .ref d2, .ref d3, .ref d4, .ref d5, .ref d6, .int (nI kc), .ref e1, .ref e2, .ref e3, .ref e4, .ref e5, .long v0, .long v1, .long v2, .long v3])), (e1, .inl (cI, 64, .inl t1)), (e2, .inl (cI, 64, .inl t2))] H → va_D A [(mo, .inr (4, [.int th, .int zs, .int rq, .long k, .long l0, .int ti, .int ct, .int (nI n), .ref d1, .ref d2, .ref d3, .ref d4, .ref d5, .ref d6, .int (nI kc), .ref e1, .ref e2, .ref e3, .ref e4, .ref e5, .long v0, .long v1, .long v2, .long v3])), (e1, .inl (cI, 64, .inl t1)), (e2, .inl (cI, 64, .inl t2))] → va_S A s.heap H locs → lv_has ls 4 [(0, .ref mo), (1, .int aa), (2, .int bb), (3, .int (nI i))] → W p l e (headSpec wsX4_opened ({ frames := 0, cells := 0, slots := 0, locals := 0 } : Room)).room s m (([.ref mo, .int aa, .int bb] : List Value).toArray) below meth c H locs 0 0 (MQ below (vp_Si (fun (r : Int32) => ck_mfd kc t1 t2 aa bb r)) (([.ref mo, .int aa, .int bb] : List Value).toArray) s 0 0 (fun _ => False)) (F0 m 2 ls []) := by
    intro fu
    induction fu with
    | zero =>
      intro i hi hf hv
      exfalso
      omega
    | succ fu ih =>
      intro i hi hf hv H locs ls eH eL hP hD hS hl
      subst eH; subst eL
      refine lv_iload_n hx hb dX4_opened_2 rfl (lv_at hl 3 rfl) ?_
      refine lv_aload_n hx hb dX4_opened_3 rfl (lv_at hl 0 rfl) ?_
      refine va_get (D := (dC, dI)) (ci := 4) (v := .int (nI kc)) (C := RX4) (T := TX4) (N := 24) hx hb hts (k_X4_opened_in4) hown hK hP 0 rfl rfl 14 (by decide) (hts _ k_X4_opened_f123) (fun _ h9 => h9) rfl dX4_opened_4 ?_
      refine lv_icmp_ge (tgt := 38) hx hb dX4_opened_7 (by decide) (fun c_7 => ?_) (fun c_7 => ?_)
      · skip
        have c_7 : kc ≤ i := (nI_leI (by omega) (by omega)).mp c_7
        refine lv_iconst (v := (-1)) hx hb dX4_opened_38 (by decide) ?_
        refine ck_iq hx hb hr hlocks dX4_opened_39 ?_
        exact Or.inl ⟨rfl, fun q hq => hv q (by omega)⟩
      · skip
        have c_7 : ¬ (kc ≤ i) := fun z => c_7 ((nI_leI (by omega) (by omega)).mpr z)
        refine lv_aload_n hx hb dX4_opened_10 rfl (lv_at hl 0 rfl) ?_
        refine va_get (D := (dC, dI)) (ci := 4) (v := .ref e1) (C := RX4) (T := TX4) (N := 24) hx hb hts (k_X4_opened_in4) hown hK hP 0 rfl rfl 15 (by decide) (hts _ k_X4_opened_f38) (fun _ h9 => h9) rfl dX4_opened_11 ?_
        refine lv_iload_n hx hb dX4_opened_14 rfl (lv_at hl 3 rfl) ?_
        refine ck_iald hx hb hK hP 1 0 rfl rfl (by omega) (by decide) dX4_opened_15 ?_
        refine lv_iload_n hx hb dX4_opened_16 rfl (lv_at hl 1 rfl) ?_
        refine lv_icmp_ne (tgt := 32) hx hb dX4_opened_17 (by decide) (fun c_17 => ?_) (fun c_17 => ?_)
        · skip
          refine lv_iinc (v := nI (i + 1)) (lv' := [(3, .int (nI (i + 1))), (0, .ref mo), (1, .int aa), (2, .int bb)]) hx hb dX4_opened_32 hl (k := 3) rfl (nI_1 _) (by decide) rfl (fun ls hl => ?_)
          refine lv_goto (tgt := 2) hx hb dX4_opened_35 (by decide) ?_
          exact ih (i + 1) (by omega) (by omega) (lt_s hv (fun e => c_17 e.1)) _ _ _ rfl rfl (hP.sub [0, 1, 2] rfl) (hD.sub [0, 1, 2] (by decide) rfl) hS (lv_sub hl [1, 2, 3, 0] rfl)
        · skip
          refine lv_aload_n hx hb dX4_opened_20 rfl (lv_at hl 0 rfl) ?_
          refine va_get (D := (dC, dI)) (ci := 4) (v := .ref e2) (C := RX4) (T := TX4) (N := 24) hx hb hts (k_X4_opened_in4) hown hK hP 0 rfl rfl 16 (by decide) (hts _ k_X4_opened_f41) (fun _ h9 => h9) rfl dX4_opened_21 ?_
          refine lv_iload_n hx hb dX4_opened_24 rfl (lv_at hl 3 rfl) ?_
          refine ck_iald hx hb hK hP 2 0 rfl rfl (by omega) (by decide) dX4_opened_25 ?_
          refine lv_iload_n hx hb dX4_opened_26 rfl (lv_at hl 2 rfl) ?_
          refine lv_icmp_ne (tgt := 32) hx hb dX4_opened_27 (by decide) (fun c_27 => ?_) (fun c_27 => ?_)
          · skip
            refine lv_iinc (v := nI (i + 1)) (lv' := [(3, .int (nI (i + 1))), (0, .ref mo), (1, .int aa), (2, .int bb)]) hx hb dX4_opened_32 hl (k := 3) rfl (nI_1 _) (by decide) rfl (fun ls hl => ?_)
            refine lv_goto (tgt := 2) hx hb dX4_opened_35 (by decide) ?_
            exact ih (i + 1) (by omega) (by omega) (lt_s hv (fun e => c_27 e.2)) _ _ _ rfl rfl (hP.sub [0, 1, 2] rfl) (hD.sub [0, 1, 2] (by decide) rfl) hS (lv_sub hl [1, 2, 3, 0] rfl)
          · skip
            refine lv_iload_n hx hb dX4_opened_30 rfl (lv_at hl 3 rfl) ?_
            refine ck_iq hx hb hr hlocks dX4_opened_31 ?_
            exact Or.inr ⟨i, by omega, rfl, c_17, c_27⟩
  exact hloop (kc + 1) 0 (by omega) (by omega) (fun q hq => absurd hq (Nat.not_lt_zero q)) _ _ _ rfl rfl (hP.sub [0, 1, 2] rfl) (hD.sub [0, 1, 2] (by decide) rfl) hS (lv_sub hl [1, 2, 3, 0] rfl)
set_option maxRecDepth 20000 in
theorem k_X4_dropHalf_f120 : (.fieldLink RX4 120 "CookieListenerModel" "halves" "I" : Cond) ∈ wsX4_dropHalf := by decide +kernel
set_option maxRecDepth 20000 in
theorem k_X4_dropHalf_in4 : ∀ w ∈ u_ws RX4 TX4 24, w ∈ wsX4_dropHalf := by decide +kernel
set_option maxRecDepth 20000 in
theorem k_X4_dropHalf_f19 : (.fieldLink RX4 19 "CookieListenerModel" "halfAddress" "[I" : Cond) ∈ wsX4_dropHalf := by decide +kernel
set_option maxRecDepth 20000 in
theorem k_X4_dropHalf_f23 : (.fieldLink RX4 23 "CookieListenerModel" "halfPort" "[I" : Cond) ∈ wsX4_dropHalf := by decide +kernel
set_option maxRecDepth 20000 in
theorem k_X4_dropHalf_f26 : (.fieldLink RX4 26 "CookieListenerModel" "halfNumber" "[I" : Cond) ∈ wsX4_dropHalf := by decide +kernel
set_option maxRecDepth 20000 in
theorem k_X4_dropHalf_f29 : (.fieldLink RX4 29 "CookieListenerModel" "halfOwn" "[I" : Cond) ∈ wsX4_dropHalf := by decide +kernel
set_option maxRecDepth 20000 in
theorem k_X4_dropHalf_f32 : (.fieldLink RX4 32 "CookieListenerModel" "halfKind" "[I" : Cond) ∈ wsX4_dropHalf := by decide +kernel
set_option maxRecDepth 20000 in
theorem k_X4_dropHalf_f35 : (.fieldLink RX4 35 "CookieListenerModel" "halfTime" "[I" : Cond) ∈ wsX4_dropHalf := by decide +kernel
set_option maxHeartbeats 4000000 in
set_option maxRecDepth 100000 in
theorem c_X4_dropHalf (l : Launch) (dC : Nat → ClassId) (dI : Nat → Nat → Nat) (cI cJ cZ : ClassId) (lo sz : Nat) (mo : Nat) (th zs rq : Int32) (k l0 : Int64) (ti ct : Int32) (n : Nat) (d1 d2 d3 d4 d5 d6 : Nat) (kc : Nat) (e1 e2 e3 e4 e5 : Nat) (v0 v1 v2 v3 : Int64) (p1 p2 p3 p4 p5 p6 : Nat → Int32) (j : Nat) (hn : n < 32) (hj : j < n + 1) : Met l yX4_dropHalf wsX4_dropHalf ({ frames := 0, cells := 0, slots := 0, locals := 0 } : Room) (va_Pc [.ref mo, .int (nI j)] (ck_P (dC, dI) [(cI, .int), (cJ, .long), (cZ, .boolean)] lo sz [(mo, .inr (4, [.int th, .int zs, .int rq, .long k, .long l0, .int ti, .int ct, .int (nI (n + 1)), .ref d1, .ref d2, .ref d3, .ref d4, .ref d5, .ref d6, .int (nI kc), .ref e1, .ref e2, .ref e3, .ref e4, .ref e5, .long v0, .long v1, .long v2, .long v3])), (d1, .inl (cI, 32, .inl p1)), (d2, .inl (cI, 32, .inl p2)), (d3, .inl (cI, 32, .inl p3)), (d4, .inl (cI, 32, .inl p4)), (d5, .inl (cI, 32, .inl p5)), (d6, .inl (cI, 32, .inl p6))])) (va_Qv (fun (u : (Nat → Int32) × (Nat → Int32) × (Nat → Int32) × (Nat → Int32) × (Nat → Int32) × (Nat → Int32)) => ck_shf p1 u.1 j n ∧ ck_shf p2 u.2.1 j n ∧ ck_shf p3 u.2.2.1 j n ∧ ck_shf p4 u.2.2.2.1 j n ∧ ck_shf p5 u.2.2.2.2.1 j n ∧ ck_shf p6 u.2.2.2.2.2 j n) (fun u => ck_B (dC, dI) vwCl (va_A [(mo, .inr (4, [.int th, .int zs, .int rq, .long k, .long l0, .int ti, .int ct, .int (nI (n + 1)), .ref d1, .ref d2, .ref d3, .ref d4, .ref d5, .ref d6, .int (nI kc), .ref e1, .ref e2, .ref e3, .ref e4, .ref e5, .long v0, .long v1, .long v2, .long v3])), (d1, .inl (cI, 32, .inl p1)), (d2, .inl (cI, 32, .inl p2)), (d3, .inl (cI, 32, .inl p3)), (d4, .inl (cI, 32, .inl p4)), (d5, .inl (cI, 32, .inl p5)), (d6, .inl (cI, 32, .inl p6))] sz) ((fun u : (Nat → Int32) × (Nat → Int32) × (Nat → Int32) × (Nat → Int32) × (Nat → Int32) × (Nat → Int32) => ([(mo, .inr (4, [.int th, .int zs, .int rq, .long k, .long l0, .int ti, .int ct, .int (nI n), .ref d1, .ref d2, .ref d3, .ref d4, .ref d5, .ref d6, .int (nI kc), .ref e1, .ref e2, .ref e3, .ref e4, .ref e5, .long v0, .long v1, .long v2, .long v3])), (d1, .inl (cI, 32, .inl u.1)), (d2, .inl (cI, 32, .inl u.2.1)), (d3, .inl (cI, 32, .inl u.2.2.1)), (d4, .inl (cI, 32, .inl u.2.2.2.1)), (d5, .inl (cI, 32, .inl u.2.2.2.2.1)), (d6, .inl (cI, 32, .inl u.2.2.2.2.2))] : va_W)) u)) (va_A [(mo, .inr (4, [.int th, .int zs, .int rq, .long k, .long l0, .int ti, .int ct, .int (nI (n + 1)), .ref d1, .ref d2, .ref d3, .ref d4, .ref d5, .ref d6, .int (nI kc), .ref e1, .ref e2, .ref e3, .ref e4, .ref e5, .long v0, .long v1, .long v2, .long v3])), (d1, .inl (cI, 32, .inl p1)), (d2, .inl (cI, 32, .inl p2)), (d3, .inl (cI, 32, .inl p3)), (d4, .inl (cI, 32, .inl p4)), (d5, .inl (cI, 32, .inl p5)), (d6, .inl (cI, 32, .inl p6))] sz)) 0 0 (va_A [(mo, .inr (4, [.int th, .int zs, .int rq, .long k, .long l0, .int ti, .int ct, .int (nI (n + 1)), .ref d1, .ref d2, .ref d3, .ref d4, .ref d5, .ref d6, .int (nI kc), .ref e1, .ref e2, .ref e3, .ref e4, .ref e5, .long v0, .long v1, .long v2, .long v3])), (d1, .inl (cI, 32, .inl p1)), (d2, .inl (cI, 32, .inl p2)), (d3, .inl (cI, 32, .inl p3)), (d4, .inl (cI, 32, .inl p4)), (d5, .inl (cI, 32, .inl p5)), (d6, .inl (cI, 32, .inl p6))] sz) := by
  refine Met.ofW (cc := cX4_dropHalf) (maxL := 3) (ret := none) (by decide) rfl ?_
  intro p e s m args below meth c s₁ B hml hv
  obtain ⟨rfl, hsz, hP, hK, hD0, hE⟩ := hv
  have hx := B.exec
  have hb := B.bytes
  have hr := B.returns
  have hts := atoms_spec (ws := wsX4_dropHalf) B.pre
  have hown : s.vm.findClass RX4 = some m.cls := findClass_of_methodNamed B.named
  have hlocks := B.notSynchronized
  subst hsz
  have hD := hD0.self (sz := s.heap.size)
  have hlo := ck_lo (sz := s.heap.size) hD0 hE.1
  generalize hAe : va_A [(mo, .inr (4, [.int th, .int zs, .int rq, .long k, .long l0, .int ti, .int ct, .int (nI (n + 1)), .ref d1, .ref d2, .ref d3, .ref d4, .ref d5, .ref d6, .int (nI kc), .ref e1, .ref e2, .ref e3, .ref e4, .ref e5, .long v0, .long v1, .long v2, .long v3])), (d1, .inl (cI, 32, .inl p1)), (d2, .inl (cI, 32, .inl p2)), (d3, .inl (cI, 32, .inl p3)), (d4, .inl (cI, 32, .inl p4)), (d5, .inl (cI, 32, .inl p5)), (d6, .inl (cI, 32, .inl p6))] s.heap.size = A at hD hlo ⊢
  have hA : ∀ q : Nat, s.heap.size ≤ q → A q := fun q h => by rw [← hAe]; exact Or.inr h
  have hG : ck_G (dC, dI) [(cI, .int), (cJ, .long), (cZ, .boolean)] lo A s := ⟨hK, hE, hA, hlo⟩
  have hS : va_S A s.heap s.heap [] := va_S.rf
  have hP : va_P (dC, dI) vwCl [(mo, .inr (4, [.int th, .int zs, .int rq, .long k, .long l0, .int ti, .int ct, .int (nI (n + 1)), .ref d1, .ref d2, .ref d3, .ref d4, .ref d5, .ref d6, .int (nI kc), .ref e1, .ref e2, .ref e3, .ref e4, .ref e5, .long v0, .long v1, .long v2, .long v3])), (d1, .inl (cI, 32, .inl p1)), (d2, .inl (cI, 32, .inl p2)), (d3, .inl (cI, 32, .inl p3)), (d4, .inl (cI, 32, .inl p4)), (d5, .inl (cI, 32, .inl p5)), (d6, .inl (cI, 32, .inl p6))] s.heap := hP
  have hl := lv_entry ([.ref mo, .int (nI j)]) (n := 3) (Nat.le_of_ble_eq_true rfl)
  rw [lg_entry_eq]
  generalize (lg_sl ([.ref mo, .int (nI j)]) ++ List.replicate (3 - (lg_sl ([.ref mo, .int (nI j)])).length) Slot.unset).toArray = ls at hl ⊢
  have hl : lv_has ls 3 [(0, .ref mo), (1, .int (nI j))] := hl
  refine lv_aload_n hx hb dX4_dropHalf_0 rfl (lv_at hl 0 rfl) ?_
  refine lv_dup hx hb dX4_dropHalf_1 rfl ?_
  refine va_get (D := (dC, dI)) (ci := 4) (v := .int (nI (n + 1))) (C := RX4) (T := TX4) (N := 24) hx hb hts (k_X4_dropHalf_in4) hown hK hP 0 rfl rfl 7 (by decide) (hts _ k_X4_dropHalf_f120) (fun _ h9 => h9) rfl dX4_dropHalf_2 ?_
  refine lv_iconst (v := 1) hx hb dX4_dropHalf_5 (by decide) ?_
  refine lv_isub hx hb dX4_dropHalf_6 ?_
  refine ck_toi (y := nI n) (nI_pred _) ?_
  refine va_put (D := (dC, dI)) (ci := 4) (v := .int (nI n)) (ty := .int) (C := RX4) (T := TX4) (N := 24) hx hb hts (k_X4_dropHalf_in4) tyX4 tyX4_ok nmX4 hown hK hP hD hS 0 rfl rfl 7 (by decide) (hts _ k_X4_dropHalf_f120) (fun _ h9 => h9) rfl (by decide +kernel) rfl rfl (Nat.le_of_ble_eq_true rfl) dX4_dropHalf_7 (fun H locs hP hD hS => ?_)
  have hP : va_P (dC, dI) vwCl [(mo, .inr (4, [.int th, .int zs, .int rq, .long k, .long l0, .int ti, .int ct, .int (nI n), .ref d1, .ref d2, .ref d3, .ref d4, .ref d5, .ref d6, .int (nI kc), .ref e1, .ref e2, .ref e3, .ref e4, .ref e5, .long v0, .long v1, .long v2, .long v3])), (d1, .inl (cI, 32, .inl p1)), (d2, .inl (cI, 32, .inl p2)), (d3, .inl (cI, 32, .inl p3)), (d4, .inl (cI, 32, .inl p4)), (d5, .inl (cI, 32, .inl p5)), (d6, .inl (cI, 32, .inl p6))] H := hP
  have hD : va_D A [(mo, .inr (4, [.int th, .int zs, .int rq, .long k, .long l0, .int ti, .int ct, .int (nI n), .ref d1, .ref d2, .ref d3, .ref d4, .ref d5, .ref d6, .int (nI kc), .ref e1, .ref e2, .ref e3, .ref e4, .ref e5, .long v0, .long v1, .long v2, .long v3])), (d1, .inl (cI, 32, .inl p1)), (d2, .inl (cI, 32, .inl p2)), (d3, .inl (cI, 32, .inl p3)), (d4, .inl (cI, 32, .inl p4)), (d5, .inl (cI, 32, .inl p5)), (d6, .inl (cI, 32, .inl p6))] := hD
  refine lv_iload_n hx hb dX4_dropHalf_10 rfl (lv_at hl 1 rfl) ?_
  refine lv_istore_n (lv' := [(2, .int (nI j)), (0, .ref mo), (1, .int (nI j))]) hx hb dX4_dropHalf_11 rfl hl (by decide) rfl (fun ls hl => ?_)
  have hloop : ∀ (fu : Nat) (i : Nat) (y1 : Nat → Int32) (y2 : Nat → Int32) (y3 : Nat → Int32) (y4 : Nat → Int32) (y5 : Nat → Int32) (y6 : Nat → Int32), (j ≤ i ∧ i ≤ n) → (n + 1 ≤ i + fu) → (ck_shf p1 y1 j i) → (ck_shf p2 y2 j i) → (ck_shf p3 y3 j i) → (ck_shf p4 y4 j i) → (ck_shf p5 y5 j i) → (ck_shf p6 y6 j i) → ∀ (H : Heap) (locs : List Loc) (ls : Array Slot), va_P (dC, dI) vwCl [(mo, .inr (4, [.int th, .int zs, .int rq, .long k, .long l0, .int ti, .int ct, .int (nI n), .ref d1, .ref d2, .ref d3, .ref d4, .ref d5, .ref d6, .int (nI kc), .ref e1, .ref e2, .ref e3, .ref e4, .ref e5, .long v0, .long v1, .long v2, .long v3])), (d1, .inl (cI, 32, .inl y1)), (d2, .inl (cI, 32, .inl y2)), (d3, .inl (cI, 32, .inl y3)), (d4, .inl (cI, 32, .inl y4)), (d5, .inl (cI, 32, .inl y5)), (d6, .inl (cI, 32, .inl y6))] H → va_D A [(mo, .inr (4, [.int th, .int zs, .int rq, .long k, .long l0, .int ti, .int ct, .int (nI n), .ref d1, .ref d2, .ref d3, .ref d4, .ref d5, .ref d6, .int (nI kc), .ref e1, .ref e2, .ref e3, .ref e4, .ref e5, .long v0, .long v1, .long v2, .long v3])), (d1, .inl (cI, 32, .inl y1)), (d2, .inl (cI, 32, .inl y2)), (d3, .inl (cI, 32, .inl y3)), (d4, .inl (cI, 32, .inl y4)), (d5, .inl (cI, 32, .inl y5)), (d6, .inl (cI, 32, .inl y6))] → va_S A s.heap H locs → lv_has ls 3 [(0, .ref mo), (1, .int (nI j)), (2, .int (nI i))] → W p l e (headSpec wsX4_dropHalf ({ frames := 0, cells := 0, slots := 0, locals := 0 } : Room)).room s m (([.ref mo, .int (nI j)] : List Value).toArray) below meth c H locs 0 0 (MQ below (va_Qv (fun (u : (Nat → Int32) × (Nat → Int32) × (Nat → Int32) × (Nat → Int32) × (Nat → Int32) × (Nat → Int32)) => ck_shf p1 u.1 j n ∧ ck_shf p2 u.2.1 j n ∧ ck_shf p3 u.2.2.1 j n ∧ ck_shf p4 u.2.2.2.1 j n ∧ ck_shf p5 u.2.2.2.2.1 j n ∧ ck_shf p6 u.2.2.2.2.2 j n) (fun u => ck_B (dC, dI) vwCl A ((fun u : (Nat → Int32) × (Nat → Int32) × (Nat → Int32) × (Nat → Int32) × (Nat → Int32) × (Nat → Int32) => ([(mo, .inr (4, [.int th, .int zs, .int rq, .long k, .long l0, .int ti, .int ct, .int (nI n), .ref d1, .ref d2, .ref d3, .ref d4, .ref d5, .ref d6, .int (nI kc), .ref e1, .ref e2, .ref e3, .ref e4, .ref e5, .long v0, .long v1, .long v2, .long v3])), (d1, .inl (cI, 32, .inl u.1)), (d2, .inl (cI, 32, .inl u.2.1)), (d3, .inl (cI, 32, .inl u.2.2.1)), (d4, .inl (cI, 32, .inl u.2.2.2.1)), (d5, .inl (cI, 32, .inl u.2.2.2.2.1)), (d6, .inl (cI, 32, .inl u.2.2.2.2.2))] : va_W)) u)) A) (([.ref mo, .int (nI j)] : List Value).toArray) s 0 0 A) (F0 m 12 ls []) := by
    intro fu
    induction fu with
    | zero =>
      intro i y1 y2 y3 y4 y5 y6 hi hf h1 h2 h3 h4 h5 h6
      exfalso
      omega
    | succ fu ih =>
      intro i y1 y2 y3 y4 y5 y6 hi hf h1 h2 h3 h4 h5 h6 H locs ls hP hD hS hl
      refine lv_iload_n hx hb dX4_dropHalf_12 rfl (lv_at hl 2 rfl) ?_
      refine lv_aload_n hx hb dX4_dropHalf_13 rfl (lv_at hl 0 rfl) ?_
      refine va_get (D := (dC, dI)) (ci := 4) (v := .int (nI n)) (C := RX4) (T := TX4) (N := 24) hx hb hts (k_X4_dropHalf_in4) hown hK hP 0 rfl rfl 7 (by decide) (hts _ k_X4_dropHalf_f120) (fun _ h9 => h9) rfl dX4_dropHalf_14 ?_
      refine lv_icmp_ge (tgt := 110) hx hb dX4_dropHalf_17 (by decide) (fun c_17 => ?_) (fun c_17 => ?_)
      · skip
        have c_17 : n ≤ i := (nI_leI (by omega) (by omega)).mp c_17
        refine ck_vr hx hb hr hlocks (Nat.le_of_ble_eq_true rfl) (Nat.le_of_ble_eq_true rfl) dX4_dropHalf_110 (y1, y2, y3, y4, y5, y6) hP hD hS ?_
        have e9 : i = n := by omega
        rw [e9] at h1 h2 h3 h4 h5 h6
        exact ⟨h1, h2, h3, h4, h5, h6⟩
      · skip
        have c_17 : ¬ (n ≤ i) := fun z => c_17 ((nI_leI (by omega) (by omega)).mpr z)
        refine lv_aload_n hx hb dX4_dropHalf_20 rfl (lv_at hl 0 rfl) ?_
        refine va_get (D := (dC, dI)) (ci := 4) (v := .ref d1) (C := RX4) (T := TX4) (N := 24) hx hb hts (k_X4_dropHalf_in4) hown hK hP 0 rfl rfl 8 (by decide) (hts _ k_X4_dropHalf_f19) (fun _ h9 => h9) rfl dX4_dropHalf_21 ?_
        refine lv_iload_n hx hb dX4_dropHalf_24 rfl (lv_at hl 2 rfl) ?_
        refine lv_aload_n hx hb dX4_dropHalf_25 rfl (lv_at hl 0 rfl) ?_
        refine va_get (D := (dC, dI)) (ci := 4) (v := .ref d1) (C := RX4) (T := TX4) (N := 24) hx hb hts (k_X4_dropHalf_in4) hown hK hP 0 rfl rfl 8 (by decide) (hts _ k_X4_dropHalf_f19) (fun _ h9 => h9) rfl dX4_dropHalf_26 ?_
        refine lv_iload_n hx hb dX4_dropHalf_29 rfl (lv_at hl 2 rfl) ?_
        refine lv_iconst (v := 1) hx hb dX4_dropHalf_30 (by decide) ?_
        refine lv_iadd hx hb dX4_dropHalf_31 ?_
        refine ck_toi (y := nI (i + 1)) (nI_1 _) ?_
        refine ck_iald hx hb hK hP 1 0 rfl rfl (by omega) (by decide) dX4_dropHalf_32 ?_
        refine ck_iast hx hb hK hP hD hS 1 0 rfl rfl (by omega) (by decide) dX4_dropHalf_33 (fun H locs hP hD hS => ?_)
        have hP : va_P (dC, dI) vwCl [(mo, .inr (4, [.int th, .int zs, .int rq, .long k, .long l0, .int ti, .int ct, .int (nI n), .ref d1, .ref d2, .ref d3, .ref d4, .ref d5, .ref d6, .int (nI kc), .ref e1, .ref e2, .ref e3, .ref e4, .ref e5, .long v0, .long v1, .long v2, .long v3])), (d1, .inl (cI, 32, .inl (upd y1 i (y1 (i + 1))))), (d2, .inl (cI, 32, .inl y2)), (d3, .inl (cI, 32, .inl y3)), (d4, .inl (cI, 32, .inl y4)), (d5, .inl (cI, 32, .inl y5)), (d6, .inl (cI, 32, .inl y6))] H := hP
        have hD : va_D A [(mo, .inr (4, [.int th, .int zs, .int rq, .long k, .long l0, .int ti, .int ct, .int (nI n), .ref d1, .ref d2, .ref d3, .ref d4, .ref d5, .ref d6, .int (nI kc), .ref e1, .ref e2, .ref e3, .ref e4, .ref e5, .long v0, .long v1, .long v2, .long v3])), (d1, .inl (cI, 32, .inl (upd y1 i (y1 (i + 1))))), (d2, .inl (cI, 32, .inl y2)), (d3, .inl (cI, 32, .inl y3)), (d4, .inl (cI, 32, .inl y4)), (d5, .inl (cI, 32, .inl y5)), (d6, .inl (cI, 32, .inl y6))] := hD
        refine lv_aload_n hx hb dX4_dropHalf_34 rfl (lv_at hl 0 rfl) ?_
        refine va_get (D := (dC, dI)) (ci := 4) (v := .ref d2) (C := RX4) (T := TX4) (N := 24) hx hb hts (k_X4_dropHalf_in4) hown hK hP 0 rfl rfl 9 (by decide) (hts _ k_X4_dropHalf_f23) (fun _ h9 => h9) rfl dX4_dropHalf_35 ?_
        refine lv_iload_n hx hb dX4_dropHalf_38 rfl (lv_at hl 2 rfl) ?_
        refine lv_aload_n hx hb dX4_dropHalf_39 rfl (lv_at hl 0 rfl) ?_
        refine va_get (D := (dC, dI)) (ci := 4) (v := .ref d2) (C := RX4) (T := TX4) (N := 24) hx hb hts (k_X4_dropHalf_in4) hown hK hP 0 rfl rfl 9 (by decide) (hts _ k_X4_dropHalf_f23) (fun _ h9 => h9) rfl dX4_dropHalf_40 ?_
        refine lv_iload_n hx hb dX4_dropHalf_43 rfl (lv_at hl 2 rfl) ?_
        refine lv_iconst (v := 1) hx hb dX4_dropHalf_44 (by decide) ?_
        refine lv_iadd hx hb dX4_dropHalf_45 ?_
        refine ck_toi (y := nI (i + 1)) (nI_1 _) ?_
        refine ck_iald hx hb hK hP 2 0 rfl rfl (by omega) (by decide) dX4_dropHalf_46 ?_
        refine ck_iast hx hb hK hP hD hS 2 0 rfl rfl (by omega) (by decide) dX4_dropHalf_47 (fun H locs hP hD hS => ?_)
        have hP : va_P (dC, dI) vwCl [(mo, .inr (4, [.int th, .int zs, .int rq, .long k, .long l0, .int ti, .int ct, .int (nI n), .ref d1, .ref d2, .ref d3, .ref d4, .ref d5, .ref d6, .int (nI kc), .ref e1, .ref e2, .ref e3, .ref e4, .ref e5, .long v0, .long v1, .long v2, .long v3])), (d1, .inl (cI, 32, .inl (upd y1 i (y1 (i + 1))))), (d2, .inl (cI, 32, .inl (upd y2 i (y2 (i + 1))))), (d3, .inl (cI, 32, .inl y3)), (d4, .inl (cI, 32, .inl y4)), (d5, .inl (cI, 32, .inl y5)), (d6, .inl (cI, 32, .inl y6))] H := hP
        have hD : va_D A [(mo, .inr (4, [.int th, .int zs, .int rq, .long k, .long l0, .int ti, .int ct, .int (nI n), .ref d1, .ref d2, .ref d3, .ref d4, .ref d5, .ref d6, .int (nI kc), .ref e1, .ref e2, .ref e3, .ref e4, .ref e5, .long v0, .long v1, .long v2, .long v3])), (d1, .inl (cI, 32, .inl (upd y1 i (y1 (i + 1))))), (d2, .inl (cI, 32, .inl (upd y2 i (y2 (i + 1))))), (d3, .inl (cI, 32, .inl y3)), (d4, .inl (cI, 32, .inl y4)), (d5, .inl (cI, 32, .inl y5)), (d6, .inl (cI, 32, .inl y6))] := hD
        refine lv_aload_n hx hb dX4_dropHalf_48 rfl (lv_at hl 0 rfl) ?_
        refine va_get (D := (dC, dI)) (ci := 4) (v := .ref d3) (C := RX4) (T := TX4) (N := 24) hx hb hts (k_X4_dropHalf_in4) hown hK hP 0 rfl rfl 10 (by decide) (hts _ k_X4_dropHalf_f26) (fun _ h9 => h9) rfl dX4_dropHalf_49 ?_
        refine lv_iload_n hx hb dX4_dropHalf_52 rfl (lv_at hl 2 rfl) ?_
        refine lv_aload_n hx hb dX4_dropHalf_53 rfl (lv_at hl 0 rfl) ?_
        refine va_get (D := (dC, dI)) (ci := 4) (v := .ref d3) (C := RX4) (T := TX4) (N := 24) hx hb hts (k_X4_dropHalf_in4) hown hK hP 0 rfl rfl 10 (by decide) (hts _ k_X4_dropHalf_f26) (fun _ h9 => h9) rfl dX4_dropHalf_54 ?_
        refine lv_iload_n hx hb dX4_dropHalf_57 rfl (lv_at hl 2 rfl) ?_
        refine lv_iconst (v := 1) hx hb dX4_dropHalf_58 (by decide) ?_
        refine lv_iadd hx hb dX4_dropHalf_59 ?_
        refine ck_toi (y := nI (i + 1)) (nI_1 _) ?_
        refine ck_iald hx hb hK hP 3 0 rfl rfl (by omega) (by decide) dX4_dropHalf_60 ?_
        refine ck_iast hx hb hK hP hD hS 3 0 rfl rfl (by omega) (by decide) dX4_dropHalf_61 (fun H locs hP hD hS => ?_)
        have hP : va_P (dC, dI) vwCl [(mo, .inr (4, [.int th, .int zs, .int rq, .long k, .long l0, .int ti, .int ct, .int (nI n), .ref d1, .ref d2, .ref d3, .ref d4, .ref d5, .ref d6, .int (nI kc), .ref e1, .ref e2, .ref e3, .ref e4, .ref e5, .long v0, .long v1, .long v2, .long v3])), (d1, .inl (cI, 32, .inl (upd y1 i (y1 (i + 1))))), (d2, .inl (cI, 32, .inl (upd y2 i (y2 (i + 1))))), (d3, .inl (cI, 32, .inl (upd y3 i (y3 (i + 1))))), (d4, .inl (cI, 32, .inl y4)), (d5, .inl (cI, 32, .inl y5)), (d6, .inl (cI, 32, .inl y6))] H := hP
        have hD : va_D A [(mo, .inr (4, [.int th, .int zs, .int rq, .long k, .long l0, .int ti, .int ct, .int (nI n), .ref d1, .ref d2, .ref d3, .ref d4, .ref d5, .ref d6, .int (nI kc), .ref e1, .ref e2, .ref e3, .ref e4, .ref e5, .long v0, .long v1, .long v2, .long v3])), (d1, .inl (cI, 32, .inl (upd y1 i (y1 (i + 1))))), (d2, .inl (cI, 32, .inl (upd y2 i (y2 (i + 1))))), (d3, .inl (cI, 32, .inl (upd y3 i (y3 (i + 1))))), (d4, .inl (cI, 32, .inl y4)), (d5, .inl (cI, 32, .inl y5)), (d6, .inl (cI, 32, .inl y6))] := hD
        refine lv_aload_n hx hb dX4_dropHalf_62 rfl (lv_at hl 0 rfl) ?_
        refine va_get (D := (dC, dI)) (ci := 4) (v := .ref d4) (C := RX4) (T := TX4) (N := 24) hx hb hts (k_X4_dropHalf_in4) hown hK hP 0 rfl rfl 11 (by decide) (hts _ k_X4_dropHalf_f29) (fun _ h9 => h9) rfl dX4_dropHalf_63 ?_
        refine lv_iload_n hx hb dX4_dropHalf_66 rfl (lv_at hl 2 rfl) ?_
        refine lv_aload_n hx hb dX4_dropHalf_67 rfl (lv_at hl 0 rfl) ?_
        refine va_get (D := (dC, dI)) (ci := 4) (v := .ref d4) (C := RX4) (T := TX4) (N := 24) hx hb hts (k_X4_dropHalf_in4) hown hK hP 0 rfl rfl 11 (by decide) (hts _ k_X4_dropHalf_f29) (fun _ h9 => h9) rfl dX4_dropHalf_68 ?_
        refine lv_iload_n hx hb dX4_dropHalf_71 rfl (lv_at hl 2 rfl) ?_
        refine lv_iconst (v := 1) hx hb dX4_dropHalf_72 (by decide) ?_
        refine lv_iadd hx hb dX4_dropHalf_73 ?_
        refine ck_toi (y := nI (i + 1)) (nI_1 _) ?_
        refine ck_iald hx hb hK hP 4 0 rfl rfl (by omega) (by decide) dX4_dropHalf_74 ?_
        refine ck_iast hx hb hK hP hD hS 4 0 rfl rfl (by omega) (by decide) dX4_dropHalf_75 (fun H locs hP hD hS => ?_)
        have hP : va_P (dC, dI) vwCl [(mo, .inr (4, [.int th, .int zs, .int rq, .long k, .long l0, .int ti, .int ct, .int (nI n), .ref d1, .ref d2, .ref d3, .ref d4, .ref d5, .ref d6, .int (nI kc), .ref e1, .ref e2, .ref e3, .ref e4, .ref e5, .long v0, .long v1, .long v2, .long v3])), (d1, .inl (cI, 32, .inl (upd y1 i (y1 (i + 1))))), (d2, .inl (cI, 32, .inl (upd y2 i (y2 (i + 1))))), (d3, .inl (cI, 32, .inl (upd y3 i (y3 (i + 1))))), (d4, .inl (cI, 32, .inl (upd y4 i (y4 (i + 1))))), (d5, .inl (cI, 32, .inl y5)), (d6, .inl (cI, 32, .inl y6))] H := hP
        have hD : va_D A [(mo, .inr (4, [.int th, .int zs, .int rq, .long k, .long l0, .int ti, .int ct, .int (nI n), .ref d1, .ref d2, .ref d3, .ref d4, .ref d5, .ref d6, .int (nI kc), .ref e1, .ref e2, .ref e3, .ref e4, .ref e5, .long v0, .long v1, .long v2, .long v3])), (d1, .inl (cI, 32, .inl (upd y1 i (y1 (i + 1))))), (d2, .inl (cI, 32, .inl (upd y2 i (y2 (i + 1))))), (d3, .inl (cI, 32, .inl (upd y3 i (y3 (i + 1))))), (d4, .inl (cI, 32, .inl (upd y4 i (y4 (i + 1))))), (d5, .inl (cI, 32, .inl y5)), (d6, .inl (cI, 32, .inl y6))] := hD
        refine lv_aload_n hx hb dX4_dropHalf_76 rfl (lv_at hl 0 rfl) ?_
        refine va_get (D := (dC, dI)) (ci := 4) (v := .ref d5) (C := RX4) (T := TX4) (N := 24) hx hb hts (k_X4_dropHalf_in4) hown hK hP 0 rfl rfl 12 (by decide) (hts _ k_X4_dropHalf_f32) (fun _ h9 => h9) rfl dX4_dropHalf_77 ?_
        refine lv_iload_n hx hb dX4_dropHalf_80 rfl (lv_at hl 2 rfl) ?_
        refine lv_aload_n hx hb dX4_dropHalf_81 rfl (lv_at hl 0 rfl) ?_
        refine va_get (D := (dC, dI)) (ci := 4) (v := .ref d5) (C := RX4) (T := TX4) (N := 24) hx hb hts (k_X4_dropHalf_in4) hown hK hP 0 rfl rfl 12 (by decide) (hts _ k_X4_dropHalf_f32) (fun _ h9 => h9) rfl dX4_dropHalf_82 ?_
        refine lv_iload_n hx hb dX4_dropHalf_85 rfl (lv_at hl 2 rfl) ?_
        refine lv_iconst (v := 1) hx hb dX4_dropHalf_86 (by decide) ?_
        refine lv_iadd hx hb dX4_dropHalf_87 ?_
        refine ck_toi (y := nI (i + 1)) (nI_1 _) ?_
        refine ck_iald hx hb hK hP 5 0 rfl rfl (by omega) (by decide) dX4_dropHalf_88 ?_
        refine ck_iast hx hb hK hP hD hS 5 0 rfl rfl (by omega) (by decide) dX4_dropHalf_89 (fun H locs hP hD hS => ?_)
        have hP : va_P (dC, dI) vwCl [(mo, .inr (4, [.int th, .int zs, .int rq, .long k, .long l0, .int ti, .int ct, .int (nI n), .ref d1, .ref d2, .ref d3, .ref d4, .ref d5, .ref d6, .int (nI kc), .ref e1, .ref e2, .ref e3, .ref e4, .ref e5, .long v0, .long v1, .long v2, .long v3])), (d1, .inl (cI, 32, .inl (upd y1 i (y1 (i + 1))))), (d2, .inl (cI, 32, .inl (upd y2 i (y2 (i + 1))))), (d3, .inl (cI, 32, .inl (upd y3 i (y3 (i + 1))))), (d4, .inl (cI, 32, .inl (upd y4 i (y4 (i + 1))))), (d5, .inl (cI, 32, .inl (upd y5 i (y5 (i + 1))))), (d6, .inl (cI, 32, .inl y6))] H := hP
        have hD : va_D A [(mo, .inr (4, [.int th, .int zs, .int rq, .long k, .long l0, .int ti, .int ct, .int (nI n), .ref d1, .ref d2, .ref d3, .ref d4, .ref d5, .ref d6, .int (nI kc), .ref e1, .ref e2, .ref e3, .ref e4, .ref e5, .long v0, .long v1, .long v2, .long v3])), (d1, .inl (cI, 32, .inl (upd y1 i (y1 (i + 1))))), (d2, .inl (cI, 32, .inl (upd y2 i (y2 (i + 1))))), (d3, .inl (cI, 32, .inl (upd y3 i (y3 (i + 1))))), (d4, .inl (cI, 32, .inl (upd y4 i (y4 (i + 1))))), (d5, .inl (cI, 32, .inl (upd y5 i (y5 (i + 1))))), (d6, .inl (cI, 32, .inl y6))] := hD
        refine lv_aload_n hx hb dX4_dropHalf_90 rfl (lv_at hl 0 rfl) ?_
        refine va_get (D := (dC, dI)) (ci := 4) (v := .ref d6) (C := RX4) (T := TX4) (N := 24) hx hb hts (k_X4_dropHalf_in4) hown hK hP 0 rfl rfl 13 (by decide) (hts _ k_X4_dropHalf_f35) (fun _ h9 => h9) rfl dX4_dropHalf_91 ?_
        refine lv_iload_n hx hb dX4_dropHalf_94 rfl (lv_at hl 2 rfl) ?_
        refine lv_aload_n hx hb dX4_dropHalf_95 rfl (lv_at hl 0 rfl) ?_
        refine va_get (D := (dC, dI)) (ci := 4) (v := .ref d6) (C := RX4) (T := TX4) (N := 24) hx hb hts (k_X4_dropHalf_in4) hown hK hP 0 rfl rfl 13 (by decide) (hts _ k_X4_dropHalf_f35) (fun _ h9 => h9) rfl dX4_dropHalf_96 ?_
        refine lv_iload_n hx hb dX4_dropHalf_99 rfl (lv_at hl 2 rfl) ?_
        refine lv_iconst (v := 1) hx hb dX4_dropHalf_100 (by decide) ?_
        refine lv_iadd hx hb dX4_dropHalf_101 ?_
        refine ck_toi (y := nI (i + 1)) (nI_1 _) ?_
        refine ck_iald hx hb hK hP 6 0 rfl rfl (by omega) (by decide) dX4_dropHalf_102 ?_
        refine ck_iast hx hb hK hP hD hS 6 0 rfl rfl (by omega) (by decide) dX4_dropHalf_103 (fun H locs hP hD hS => ?_)
        have hP : va_P (dC, dI) vwCl [(mo, .inr (4, [.int th, .int zs, .int rq, .long k, .long l0, .int ti, .int ct, .int (nI n), .ref d1, .ref d2, .ref d3, .ref d4, .ref d5, .ref d6, .int (nI kc), .ref e1, .ref e2, .ref e3, .ref e4, .ref e5, .long v0, .long v1, .long v2, .long v3])), (d1, .inl (cI, 32, .inl (upd y1 i (y1 (i + 1))))), (d2, .inl (cI, 32, .inl (upd y2 i (y2 (i + 1))))), (d3, .inl (cI, 32, .inl (upd y3 i (y3 (i + 1))))), (d4, .inl (cI, 32, .inl (upd y4 i (y4 (i + 1))))), (d5, .inl (cI, 32, .inl (upd y5 i (y5 (i + 1))))), (d6, .inl (cI, 32, .inl (upd y6 i (y6 (i + 1)))))] H := hP
        have hD : va_D A [(mo, .inr (4, [.int th, .int zs, .int rq, .long k, .long l0, .int ti, .int ct, .int (nI n), .ref d1, .ref d2, .ref d3, .ref d4, .ref d5, .ref d6, .int (nI kc), .ref e1, .ref e2, .ref e3, .ref e4, .ref e5, .long v0, .long v1, .long v2, .long v3])), (d1, .inl (cI, 32, .inl (upd y1 i (y1 (i + 1))))), (d2, .inl (cI, 32, .inl (upd y2 i (y2 (i + 1))))), (d3, .inl (cI, 32, .inl (upd y3 i (y3 (i + 1))))), (d4, .inl (cI, 32, .inl (upd y4 i (y4 (i + 1))))), (d5, .inl (cI, 32, .inl (upd y5 i (y5 (i + 1))))), (d6, .inl (cI, 32, .inl (upd y6 i (y6 (i + 1)))))] := hD
        refine lv_iinc (v := nI (i + 1)) (lv' := [(2, .int (nI (i + 1))), (0, .ref mo), (1, .int (nI j))]) hx hb dX4_dropHalf_104 hl (k := 2) rfl (nI_1 _) (by decide) rfl (fun ls hl => ?_)
        refine lv_goto (tgt := 12) hx hb dX4_dropHalf_107 (by decide) ?_
        exact ih (i + 1) (upd y1 i (y1 (i + 1))) (upd y2 i (y2 (i + 1))) (upd y3 i (y3 (i + 1))) (upd y4 i (y4 (i + 1))) (upd y5 i (y5 (i + 1))) (upd y6 i (y6 (i + 1))) (⟨by omega, by omega⟩) (by omega) (ck_shfI h1 (by omega)) (ck_shfI h2 (by omega)) (ck_shfI h3 (by omega)) (ck_shfI h4 (by omega)) (ck_shfI h5 (by omega)) (ck_shfI h6 (by omega)) _ _ _ (hP.sub [0, 1, 2, 3, 4, 5, 6] rfl) (hD.sub [0, 1, 2, 3, 4, 5, 6] (by decide) rfl) hS (lv_sub hl [1, 2, 0] rfl)
  exact hloop (n + 1) j p1 p2 p3 p4 p5 p6 (⟨by omega, by omega⟩) (by omega) (ck_shf0) (ck_shf0) (ck_shf0) (ck_shf0) (ck_shf0) (ck_shf0) _ _ _ (hP.sub [0, 1, 2, 3, 4, 5, 6] rfl) (hD.sub [0, 1, 2, 3, 4, 5, 6] (by decide) rfl) hS (lv_sub hl [1, 2, 0] rfl)
