/-! halves and open ones: the words that the class's and the model's contracts share -/
def ck_fnd (n : Nat) (f : Nat → Int64) (x : Int64) (r : Int32) : Prop := (r = -1 ∧ ∀ i, i < n → f i ≠ x) ∨ ∃ j, j < n ∧ r = nI j ∧ f j = x
/-- g with the place j left out, as far as i -/
def ck_shf {α : Type} (g y : Nat → α) (j i : Nat) : Prop := ∀ q, y q = if j ≤ q ∧ q < i then g (q + 1) else g q
theorem ck_shf0 {α : Type} {g : Nat → α} {j : Nat} : ck_shf g g j j := fun q => by rw [if_neg (by omega)]
theorem ck_shfS {α : Type} {g y : Nat → α} {j i : Nat} (h : ck_shf g y j i) (hi : j ≤ i) : ck_shf g (fun q => if q = i then y (i + 1) else y q) j (i + 1) := by
  intro q
  show (if q = i then y (i + 1) else y q) = _
  by_cases e : q = i
  · rw [if_pos e, if_pos (by omega), h (i + 1), if_neg (by omega), e]
  · rw [if_neg e, h q]
    by_cases z : j ≤ q ∧ q < i
    · rw [if_pos z, if_pos (by omega)]
    · rw [if_neg z, if_neg (by omega)]
theorem ck_shfI {g y : Nat → Int32} {j i : Nat} (h : ck_shf g y j i) (hi : j ≤ i) : ck_shf g (upd y i (y (i + 1))) j (i + 1) := ck_shfS h hi
theorem ck_shfL {g y : Nat → Int64} {j i : Nat} (h : ck_shf g y j i) (hi : j ≤ i) : ck_shf g (vp_updL y i (y (i + 1))) j (i + 1) := ck_shfS h hi
abbrev ck_R5 : Type := Int64 × Int32 × Int32 × Int32 × Int32
def ck_R (f1 : Nat → Int64) (f2 f3 f4 f5 : Nat → Int32) : Nat → ck_R5 := fun q => (f1 q, f2 q, f3 q, f4 q, f5 q)
def ck_L {α : Type} (n : Nat) (F : Nat → α) : List α := (List.range n).map F
def ck_yng (now : Int32) (r : ck_R5) : Bool := decide (now - r.2.2.2.2 < 60)
/-- one is out, those below its place stay -/
def ck_gone {α : Type} (n : Nat) (F F' : Nat → α) (j : Nat) : Prop := (∀ q, q < j → F' q = F q) ∧ (ck_L (n + 1) F).Perm (F j :: ck_L n F')
theorem ck_L_S {α : Type} (n : Nat) (F : Nat → α) : ck_L (n + 1) F = ck_L n F ++ [F n] := by simp [ck_L, List.range_succ]
theorem ck_L_congr {α : Type} {n : Nat} {F G : Nat → α} (h : ∀ q, q < n → F q = G q) : ck_L n F = ck_L n G := List.map_congr_left fun q hq => h q (List.mem_range.mp hq)
theorem ck_gone_swap {α : Type} {n j : Nat} {F F' : Nat → α} (hj : j < n + 1) (h : ∀ q, F' q = if q = j then F n else F q) : ck_gone n F F' j := by
  refine ⟨fun q hq => by rw [h q, if_neg (by omega)], ?_⟩
  rw [ck_L_S]
  by_cases e : j = n
  · subst e
    have h1 : ck_L j F' = ck_L j F := ck_L_congr fun q hq => by rw [h q, if_neg (by omega)]
    rw [h1]
    exact List.perm_append_singleton _ _
  · have hr : (List.range n).Perm (j :: (List.range n).erase j) := List.perm_cons_erase (List.mem_range.mpr (by omega))
    have h1 : ((List.range n).erase j).map F' = ((List.range n).erase j).map F := List.map_congr_left fun q hq => by
      have hne : q ≠ j := (List.nodup_range.mem_erase_iff.mp hq).1
      rw [h q, if_neg hne]
    have p1 : (ck_L n F).Perm (F j :: ((List.range n).erase j).map F) := by
      have := hr.map F
      simpa [ck_L] using this
    have p2 : (ck_L n F').Perm (F n :: ((List.range n).erase j).map F) := by
      have := hr.map F'
      rw [List.map_cons, h1, h j, if_pos rfl] at this
      simpa [ck_L] using this
    refine (List.perm_append_singleton _ _).trans ?_
    refine (p1.cons (F n)).trans ?_
    refine (List.Perm.swap _ _ _).trans ?_
    exact (p2.symm).cons (F j)
theorem ck_gone_shf {α : Type} {n j : Nat} {F F' : Nat → α} (hj : j < n + 1) (h : ck_shf F F' j n) : ck_gone n F F' j := by
  refine ⟨fun q hq => by rw [h q, if_neg (by omega)], ?_⟩
  have hlen : (ck_L (n + 1) F).length = n + 1 := by simp [ck_L]
  have e : ck_L n F' = (ck_L (n + 1) F).eraseIdx j := by
    apply List.ext_getElem
    · simp [ck_L, List.length_eraseIdx, hj]
    · intro i h1 h2
      have hi : i < n := by simpa [ck_L] using h1
      rw [List.getElem_eraseIdx]
      simp only [ck_L, List.getElem_map, List.getElem_range, h i]
      by_cases z : i < j
      · simp [z, Nat.not_le.mpr z]
      · simp [z, Nat.not_lt.mp z, hi]
  rw [e]
  have h9 : F j = (ck_L (n + 1) F)[j]'(by omega) := by simp [ck_L]
  rw [h9]
  have hl9 : j < (ck_L (n + 1) F).length := by omega
  rw [List.eraseIdx_eq_take_drop_succ]
  have h8 : ck_L (n + 1) F = (ck_L (n + 1) F).take j ++ (ck_L (n + 1) F)[j] :: (ck_L (n + 1) F).drop (j + 1) := by rw [← List.drop_eq_getElem_cons hl9, List.take_append_drop]
  exact (List.Perm.of_eq h8).trans List.perm_middle
/-- the walk down: what is left when k are still to be looked at -/
def ck_old {α : Type} (p : α → Bool) (n : Nat) (F : Nat → α) (k n2 : Nat) (Y : Nat → α) : Prop := k ≤ n2 ∧ n2 ≤ n ∧ (∀ q, q < k → Y q = F q) ∧ (ck_L n2 Y).Perm (ck_L k F ++ (((ck_L n F).drop k).filter p))
theorem ck_old0 {α : Type} {p : α → Bool} {n : Nat} {F : Nat → α} : ck_old p n F n n F := by
  refine ⟨Nat.le_refl _, Nat.le_refl _, fun _ _ => rfl, ?_⟩
  have : (ck_L n F).drop n = [] := List.drop_eq_nil_of_le (by simp [ck_L])
  rw [this]
  simp
theorem ck_drop_S {α : Type} {n k : Nat} {F : Nat → α} (h : k < n) : (ck_L n F).drop k = F k :: (ck_L n F).drop (k + 1) := by
  have hl : k < (ck_L n F).length := by simpa [ck_L] using h
  rw [List.drop_eq_getElem_cons hl]
  simp [ck_L]
theorem ck_old_keep {α : Type} {p : α → Bool} {n k n2 : Nat} {F Y : Nat → α} (h : ck_old p n F (k + 1) n2 Y) (hp : p (Y k) = true) : ck_old p n F k n2 Y := by
  obtain ⟨h1, h2, h3, h4⟩ := h
  refine ⟨by omega, h2, fun q hq => h3 q (by omega), h4.trans ?_⟩
  rw [h3 k (by omega)] at hp
  rw [ck_drop_S (by omega : k < n), List.filter_cons, if_pos hp, ck_L_S, List.append_assoc]
  exact List.Perm.refl _
theorem ck_old_drop {α : Type} {p : α → Bool} {n k n2 : Nat} {F Y Y' : Nat → α} (h : ck_old p n F (k + 1) (n2 + 1) Y) (hp : ¬ p (Y k) = true) (hg : ck_gone n2 Y Y' k) : ck_old p n F k n2 Y' := by
  obtain ⟨h1, h2, h3, h4⟩ := h
  refine ⟨by omega, by omega, fun q hq => by rw [hg.1 q hq]; exact h3 q (by omega), ?_⟩
  have h5 := hg.2.symm.trans h4
  rw [h3 k (by omega)] at h5 hp
  rw [ck_drop_S (by omega : k < n), List.filter_cons, if_neg hp]
  rw [ck_L_S, List.append_assoc, List.singleton_append] at h5
  exact (List.perm_cons _).mp (h5.trans List.perm_middle)
theorem ck_old_end {α : Type} {p : α → Bool} {n n2 : Nat} {F Y : Nat → α} (h : ck_old p n F 0 n2 Y) : n2 ≤ n ∧ (ck_L n2 Y).Perm ((ck_L n F).filter p) := by
  obtain ⟨-, h2, -, h4⟩ := h
  refine ⟨h2, ?_⟩
  simpa [ck_L] using h4
set_option maxRecDepth 20000 in
theorem k_X1_init_l3 : (.methodLink RX1 3 objectInit : Cond) ∈ wsX1_init := by decide +kernel
set_option maxRecDepth 20000 in
theorem k_X1_init_mObj : (.instanceMethod objectInit : Cond) ∈ wsX1_init := by decide +kernel
set_option maxRecDepth 20000 in
theorem k_X1_init_cObj : (.code objectInit ⟨#[0xb1]⟩ 1 none : Cond) ∈ wsX1_init := by decide +kernel
set_option maxRecDepth 20000 in
theorem k_X1_init_along : (.arrayClass .long : Cond) ∈ wsX1_init := by decide +kernel
set_option maxRecDepth 20000 in
theorem k_X1_init_f9 : (.fieldLink RX1 9 "CookieListener$Halves" "callers" "[J" : Cond) ∈ wsX1_init := by decide +kernel
set_option maxRecDepth 20000 in
theorem k_X1_init_in1 : ∀ w ∈ u_ws RX1 TX1 6, w ∈ wsX1_init := by decide +kernel
set_option maxRecDepth 20000 in
theorem k_X1_init_aint : (.arrayClass .int : Cond) ∈ wsX1_init := by decide +kernel
set_option maxRecDepth 20000 in
theorem k_X1_init_f15 : (.fieldLink RX1 15 "CookieListener$Halves" "numbers" "[I" : Cond) ∈ wsX1_init := by decide +kernel
set_option maxRecDepth 20000 in
theorem k_X1_init_f19 : (.fieldLink RX1 19 "CookieListener$Halves" "answers" "[I" : Cond) ∈ wsX1_init := by decide +kernel
set_option maxRecDepth 20000 in
theorem k_X1_init_f22 : (.fieldLink RX1 22 "CookieListener$Halves" "kinds" "[I" : Cond) ∈ wsX1_init := by decide +kernel
set_option maxRecDepth 20000 in
theorem k_X1_init_f25 : (.fieldLink RX1 25 "CookieListener$Halves" "asked" "[I" : Cond) ∈ wsX1_init := by decide +kernel
set_option maxRecDepth 20000 in
theorem k_X1_init_f28 : (.fieldLink RX1 28 "CookieListener$Halves" "count" "I" : Cond) ∈ wsX1_init := by decide +kernel
set_option maxHeartbeats 4000000 in
set_option maxRecDepth 100000 in
theorem c_X1_init (l : Launch) (dC : Nat → ClassId) (dI : Nat → Nat → Nat) (cI cJ cZ : ClassId) (lo sz : Nat) (h : Nat) : Met l yX1_init wsX1_init ({ frames := 1, cells := 5, slots := 160, locals := 12 } : Room) (va_Pc [.ref h] (ck_P (dC, dI) [(cI, .int), (cJ, .long), (cZ, .boolean)] lo sz [(h, .inr (1, [.null, .null, .null, .null, .null, .int 0]))])) (va_Qv (fun (u : Nat × Nat × Nat × Nat × Nat) => True) (fun u => ck_B (dC, dI) vwCl (va_A [(h, .inr (1, [.null, .null, .null, .null, .null, .int 0]))] sz) ((fun u : Nat × Nat × Nat × Nat × Nat => ([(h, .inr (1, [.ref u.1, .ref u.2.1, .ref u.2.2.1, .ref u.2.2.2.1, .ref u.2.2.2.2, .int (nI 0)])), (u.1, .inl (cJ, 32, .inr (.inl (fun _ => 0)))), (u.2.1, .inl (cI, 32, .inl (fun _ => 0))), (u.2.2.1, .inl (cI, 32, .inl (fun _ => 0))), (u.2.2.2.1, .inl (cI, 32, .inl (fun _ => 0))), (u.2.2.2.2, .inl (cI, 32, .inl (fun _ => 0)))] : va_W)) u)) (va_A [(h, .inr (1, [.null, .null, .null, .null, .null, .int 0]))] sz)) 5 160 (va_A [(h, .inr (1, [.null, .null, .null, .null, .null, .int 0]))] sz) := by
  refine Met.ofW (cc := cX1_init) (maxL := 1) (ret := none) (by decide) rfl ?_
  intro p e s m args below meth c s₁ B hml hv
  obtain ⟨rfl, hsz, hP, hK, hD0, hE⟩ := hv
  have hx := B.exec
  have hb := B.bytes
  have hr := B.returns
  have hts := atoms_spec (ws := wsX1_init) B.pre
  have hown : s.vm.findClass RX1 = some m.cls := findClass_of_methodNamed B.named
  have hlocks := B.notSynchronized
  have hin : meth.name = "<init>" := (name_of_methodNamed B.named B.method).1
  subst hsz
  have hD := hD0.self (sz := s.heap.size)
  have hlo := ck_lo (sz := s.heap.size) hD0 hE.1
  generalize hAe : va_A [(h, .inr (1, [.null, .null, .null, .null, .null, .int 0]))] s.heap.size = A at hD hlo ⊢
  have hA : ∀ q : Nat, s.heap.size ≤ q → A q := fun q h => by rw [← hAe]; exact Or.inr h
  have hG : ck_G (dC, dI) [(cI, .int), (cJ, .long), (cZ, .boolean)] lo A s := ⟨hK, hE, hA, hlo⟩
  have hS : va_S A s.heap s.heap [] := va_S.rf
  have hP : va_P (dC, dI) vwCl [(h, .inr (1, [.null, .null, .null, .null, .null, .int 0]))] s.heap := hP
  have hl := lv_entry ([.ref h]) (n := 1) (Nat.le_of_ble_eq_true rfl)
  rw [lg_entry_eq]
  generalize (lg_sl ([.ref h]) ++ List.replicate (1 - (lg_sl ([.ref h])).length) Slot.unset).toArray = ls at hl ⊢
  have hl : lv_has ls 1 [(0, .ref h)] := hl
  refine lv_aload_n hx hb dX1_init_0 rfl (lv_at hl 0 rfl) ?_
  refine W.objInit hx hb hown (hts _ k_X1_init_l3) (hts _ k_X1_init_mObj) (hts _ k_X1_init_cObj) rfl (by rw [hml]; exact hl.1) rfl dX1_init_1 (Nat.le_of_ble_eq_true rfl) (Nat.le_of_ble_eq_true rfl) ?_
  refine W.eq (g2 := F0 m 4 ls []) rfl ?_
  refine lv_aload_n hx hb dX1_init_4 rfl (lv_at hl 0 rfl) ?_
  refine lv_bipush (v := 32) hx hb dX1_init_5 (by decide) ?_
  refine ck_newa (atype := .long) (ty := .long) (a0 := (32, .inr (.inl (fun _ => 0)))) (N' := 32) hx hb (hts _ k_X1_init_along) rfl (by intro C h; cases h) hK hP hD hS hA 1 rfl (fun _ => rfl) (by decide) (by decide) (by decide) (Nat.le_of_ble_eq_true rfl) (Nat.le_of_ble_eq_true rfl) dX1_init_7 (fun q_1 H hP hD hS => ?_)
  refine W.widen (k := 1) (n := 32) (by omega) (by omega) ?_
  have hP : va_P (dC, dI) vwCl [(h, .inr (1, [.null, .null, .null, .null, .null, .int 0])), (q_1, .inl (cJ, 32, .inr (.inl (fun _ => 0))))] H := hP
  have hD : va_D A [(h, .inr (1, [.null, .null, .null, .null, .null, .int 0])), (q_1, .inl (cJ, 32, .inr (.inl (fun _ => 0))))] := hD
  refine va_putF (D := (dC, dI)) (ci := 1) (v := .ref q_1) (ty := .array .long) (C := RX1) (T := TX1) (N := 6) hx hb hts (k_X1_init_in1) tyX1 tyX1_ok nmX1 hown hK hP hD hS 0 rfl rfl 0 (by decide) (hts _ k_X1_init_f9) (fun _ h9 => h9) rfl hin rfl (by decide +kernel) rfl rfl (Nat.le_of_ble_eq_true rfl) dX1_init_9 (fun H locs hP hD hS => ?_)
  have hP : va_P (dC, dI) vwCl [(h, .inr (1, [.ref q_1, .null, .null, .null, .null, .int 0])), (q_1, .inl (cJ, 32, .inr (.inl (fun _ => 0))))] H := hP
  have hD : va_D A [(h, .inr (1, [.ref q_1, .null, .null, .null, .null, .int 0])), (q_1, .inl (cJ, 32, .inr (.inl (fun _ => 0))))] := hD
  refine lv_aload_n hx hb dX1_init_12 rfl (lv_at hl 0 rfl) ?_
  refine lv_bipush (v := 32) hx hb dX1_init_13 (by decide) ?_
  refine ck_newa (atype := .int) (ty := .int) (a0 := (32, .inl (fun _ => 0))) (N' := 32) hx hb (hts _ k_X1_init_aint) rfl (by intro C h; cases h) hK hP hD hS hA 0 rfl (fun _ => rfl) (by decide) (by decide) (by decide) (Nat.le_of_ble_eq_true rfl) (Nat.le_of_ble_eq_true rfl) dX1_init_15 (fun q_2 H hP hD hS => ?_)
  refine W.widen (k := 2) (n := 64) (by omega) (by omega) ?_
  have hP : va_P (dC, dI) vwCl [(h, .inr (1, [.ref q_1, .null, .null, .null, .null, .int 0])), (q_1, .inl (cJ, 32, .inr (.inl (fun _ => 0)))), (q_2, .inl (cI, 32, .inl (fun _ => 0)))] H := hP
  have hD : va_D A [(h, .inr (1, [.ref q_1, .null, .null, .null, .null, .int 0])), (q_1, .inl (cJ, 32, .inr (.inl (fun _ => 0)))), (q_2, .inl (cI, 32, .inl (fun _ => 0)))] := hD
  refine va_putF (D := (dC, dI)) (ci := 1) (v := .ref q_2) (ty := .array .int) (C := RX1) (T := TX1) (N := 6) hx hb hts (k_X1_init_in1) tyX1 tyX1_ok nmX1 hown hK hP hD hS 0 rfl rfl 1 (by decide) (hts _ k_X1_init_f15) (fun _ h9 => h9) rfl hin rfl (by decide +kernel) rfl rfl (Nat.le_of_ble_eq_true rfl) dX1_init_17 (fun H locs hP hD hS => ?_)
  have hP : va_P (dC, dI) vwCl [(h, .inr (1, [.ref q_1, .ref q_2, .null, .null, .null, .int 0])), (q_1, .inl (cJ, 32, .inr (.inl (fun _ => 0)))), (q_2, .inl (cI, 32, .inl (fun _ => 0)))] H := hP
  have hD : va_D A [(h, .inr (1, [.ref q_1, .ref q_2, .null, .null, .null, .int 0])), (q_1, .inl (cJ, 32, .inr (.inl (fun _ => 0)))), (q_2, .inl (cI, 32, .inl (fun _ => 0)))] := hD
  refine lv_aload_n hx hb dX1_init_20 rfl (lv_at hl 0 rfl) ?_
  refine lv_bipush (v := 32) hx hb dX1_init_21 (by decide) ?_
  refine ck_newa (atype := .int) (ty := .int) (a0 := (32, .inl (fun _ => 0))) (N' := 32) hx hb (hts _ k_X1_init_aint) rfl (by intro C h; cases h) hK hP hD hS hA 0 rfl (fun _ => rfl) (by decide) (by decide) (by decide) (Nat.le_of_ble_eq_true rfl) (Nat.le_of_ble_eq_true rfl) dX1_init_23 (fun q_3 H hP hD hS => ?_)
  refine W.widen (k := 3) (n := 96) (by omega) (by omega) ?_
  have hP : va_P (dC, dI) vwCl [(h, .inr (1, [.ref q_1, .ref q_2, .null, .null, .null, .int 0])), (q_1, .inl (cJ, 32, .inr (.inl (fun _ => 0)))), (q_2, .inl (cI, 32, .inl (fun _ => 0))), (q_3, .inl (cI, 32, .inl (fun _ => 0)))] H := hP
  have hD : va_D A [(h, .inr (1, [.ref q_1, .ref q_2, .null, .null, .null, .int 0])), (q_1, .inl (cJ, 32, .inr (.inl (fun _ => 0)))), (q_2, .inl (cI, 32, .inl (fun _ => 0))), (q_3, .inl (cI, 32, .inl (fun _ => 0)))] := hD
  refine va_putF (D := (dC, dI)) (ci := 1) (v := .ref q_3) (ty := .array .int) (C := RX1) (T := TX1) (N := 6) hx hb hts (k_X1_init_in1) tyX1 tyX1_ok nmX1 hown hK hP hD hS 0 rfl rfl 2 (by decide) (hts _ k_X1_init_f19) (fun _ h9 => h9) rfl hin rfl (by decide +kernel) rfl rfl (Nat.le_of_ble_eq_true rfl) dX1_init_25 (fun H locs hP hD hS => ?_)
  have hP : va_P (dC, dI) vwCl [(h, .inr (1, [.ref q_1, .ref q_2, .ref q_3, .null, .null, .int 0])), (q_1, .inl (cJ, 32, .inr (.inl (fun _ => 0)))), (q_2, .inl (cI, 32, .inl (fun _ => 0))), (q_3, .inl (cI, 32, .inl (fun _ => 0)))] H := hP
  have hD : va_D A [(h, .inr (1, [.ref q_1, .ref q_2, .ref q_3, .null, .null, .int 0])), (q_1, .inl (cJ, 32, .inr (.inl (fun _ => 0)))), (q_2, .inl (cI, 32, .inl (fun _ => 0))), (q_3, .inl (cI, 32, .inl (fun _ => 0)))] := hD
  refine lv_aload_n hx hb dX1_init_28 rfl (lv_at hl 0 rfl) ?_
  refine lv_bipush (v := 32) hx hb dX1_init_29 (by decide) ?_
  refine ck_newa (atype := .int) (ty := .int) (a0 := (32, .inl (fun _ => 0))) (N' := 32) hx hb (hts _ k_X1_init_aint) rfl (by intro C h; cases h) hK hP hD hS hA 0 rfl (fun _ => rfl) (by decide) (by decide) (by decide) (Nat.le_of_ble_eq_true rfl) (Nat.le_of_ble_eq_true rfl) dX1_init_31 (fun q_4 H hP hD hS => ?_)
  refine W.widen (k := 4) (n := 128) (by omega) (by omega) ?_
  have hP : va_P (dC, dI) vwCl [(h, .inr (1, [.ref q_1, .ref q_2, .ref q_3, .null, .null, .int 0])), (q_1, .inl (cJ, 32, .inr (.inl (fun _ => 0)))), (q_2, .inl (cI, 32, .inl (fun _ => 0))), (q_3, .inl (cI, 32, .inl (fun _ => 0))), (q_4, .inl (cI, 32, .inl (fun _ => 0)))] H := hP
  have hD : va_D A [(h, .inr (1, [.ref q_1, .ref q_2, .ref q_3, .null, .null, .int 0])), (q_1, .inl (cJ, 32, .inr (.inl (fun _ => 0)))), (q_2, .inl (cI, 32, .inl (fun _ => 0))), (q_3, .inl (cI, 32, .inl (fun _ => 0))), (q_4, .inl (cI, 32, .inl (fun _ => 0)))] := hD
  refine va_putF (D := (dC, dI)) (ci := 1) (v := .ref q_4) (ty := .array .int) (C := RX1) (T := TX1) (N := 6) hx hb hts (k_X1_init_in1) tyX1 tyX1_ok nmX1 hown hK hP hD hS 0 rfl rfl 3 (by decide) (hts _ k_X1_init_f22) (fun _ h9 => h9) rfl hin rfl (by decide +kernel) rfl rfl (Nat.le_of_ble_eq_true rfl) dX1_init_33 (fun H locs hP hD hS => ?_)
  have hP : va_P (dC, dI) vwCl [(h, .inr (1, [.ref q_1, .ref q_2, .ref q_3, .ref q_4, .null, .int 0])), (q_1, .inl (cJ, 32, .inr (.inl (fun _ => 0)))), (q_2, .inl (cI, 32, .inl (fun _ => 0))), (q_3, .inl (cI, 32, .inl (fun _ => 0))), (q_4, .inl (cI, 32, .inl (fun _ => 0)))] H := hP
  have hD : va_D A [(h, .inr (1, [.ref q_1, .ref q_2, .ref q_3, .ref q_4, .null, .int 0])), (q_1, .inl (cJ, 32, .inr (.inl (fun _ => 0)))), (q_2, .inl (cI, 32, .inl (fun _ => 0))), (q_3, .inl (cI, 32, .inl (fun _ => 0))), (q_4, .inl (cI, 32, .inl (fun _ => 0)))] := hD
  refine lv_aload_n hx hb dX1_init_36 rfl (lv_at hl 0 rfl) ?_
  refine lv_bipush (v := 32) hx hb dX1_init_37 (by decide) ?_
  refine ck_newa (atype := .int) (ty := .int) (a0 := (32, .inl (fun _ => 0))) (N' := 32) hx hb (hts _ k_X1_init_aint) rfl (by intro C h; cases h) hK hP hD hS hA 0 rfl (fun _ => rfl) (by decide) (by decide) (by decide) (Nat.le_of_ble_eq_true rfl) (Nat.le_of_ble_eq_true rfl) dX1_init_39 (fun q_5 H hP hD hS => ?_)
  refine W.widen (k := 5) (n := 160) (by omega) (by omega) ?_
  have hP : va_P (dC, dI) vwCl [(h, .inr (1, [.ref q_1, .ref q_2, .ref q_3, .ref q_4, .null, .int 0])), (q_1, .inl (cJ, 32, .inr (.inl (fun _ => 0)))), (q_2, .inl (cI, 32, .inl (fun _ => 0))), (q_3, .inl (cI, 32, .inl (fun _ => 0))), (q_4, .inl (cI, 32, .inl (fun _ => 0))), (q_5, .inl (cI, 32, .inl (fun _ => 0)))] H := hP
  have hD : va_D A [(h, .inr (1, [.ref q_1, .ref q_2, .ref q_3, .ref q_4, .null, .int 0])), (q_1, .inl (cJ, 32, .inr (.inl (fun _ => 0)))), (q_2, .inl (cI, 32, .inl (fun _ => 0))), (q_3, .inl (cI, 32, .inl (fun _ => 0))), (q_4, .inl (cI, 32, .inl (fun _ => 0))), (q_5, .inl (cI, 32, .inl (fun _ => 0)))] := hD
  refine va_putF (D := (dC, dI)) (ci := 1) (v := .ref q_5) (ty := .array .int) (C := RX1) (T := TX1) (N := 6) hx hb hts (k_X1_init_in1) tyX1 tyX1_ok nmX1 hown hK hP hD hS 0 rfl rfl 4 (by decide) (hts _ k_X1_init_f25) (fun _ h9 => h9) rfl hin rfl (by decide +kernel) rfl rfl (Nat.le_of_ble_eq_true rfl) dX1_init_41 (fun H locs hP hD hS => ?_)
  have hP : va_P (dC, dI) vwCl [(h, .inr (1, [.ref q_1, .ref q_2, .ref q_3, .ref q_4, .ref q_5, .int 0])), (q_1, .inl (cJ, 32, .inr (.inl (fun _ => 0)))), (q_2, .inl (cI, 32, .inl (fun _ => 0))), (q_3, .inl (cI, 32, .inl (fun _ => 0))), (q_4, .inl (cI, 32, .inl (fun _ => 0))), (q_5, .inl (cI, 32, .inl (fun _ => 0)))] H := hP
  have hD : va_D A [(h, .inr (1, [.ref q_1, .ref q_2, .ref q_3, .ref q_4, .ref q_5, .int 0])), (q_1, .inl (cJ, 32, .inr (.inl (fun _ => 0)))), (q_2, .inl (cI, 32, .inl (fun _ => 0))), (q_3, .inl (cI, 32, .inl (fun _ => 0))), (q_4, .inl (cI, 32, .inl (fun _ => 0))), (q_5, .inl (cI, 32, .inl (fun _ => 0)))] := hD
  refine lv_aload_n hx hb dX1_init_44 rfl (lv_at hl 0 rfl) ?_
  refine lv_iconst (v := nI 0) hx hb dX1_init_45 (by decide) ?_
  refine va_put (D := (dC, dI)) (ci := 1) (v := .int (nI 0)) (ty := .int) (C := RX1) (T := TX1) (N := 6) hx hb hts (k_X1_init_in1) tyX1 tyX1_ok nmX1 hown hK hP hD hS 0 rfl rfl 5 (by decide) (hts _ k_X1_init_f28) (fun _ h9 => h9) rfl (by decide +kernel) rfl rfl (Nat.le_of_ble_eq_true rfl) dX1_init_46 (fun H locs hP hD hS => ?_)
  have hP : va_P (dC, dI) vwCl [(h, .inr (1, [.ref q_1, .ref q_2, .ref q_3, .ref q_4, .ref q_5, .int (nI 0)])), (q_1, .inl (cJ, 32, .inr (.inl (fun _ => 0)))), (q_2, .inl (cI, 32, .inl (fun _ => 0))), (q_3, .inl (cI, 32, .inl (fun _ => 0))), (q_4, .inl (cI, 32, .inl (fun _ => 0))), (q_5, .inl (cI, 32, .inl (fun _ => 0)))] H := hP
  have hD : va_D A [(h, .inr (1, [.ref q_1, .ref q_2, .ref q_3, .ref q_4, .ref q_5, .int (nI 0)])), (q_1, .inl (cJ, 32, .inr (.inl (fun _ => 0)))), (q_2, .inl (cI, 32, .inl (fun _ => 0))), (q_3, .inl (cI, 32, .inl (fun _ => 0))), (q_4, .inl (cI, 32, .inl (fun _ => 0))), (q_5, .inl (cI, 32, .inl (fun _ => 0)))] := hD
  refine ck_vr hx hb hr hlocks (Nat.le_of_ble_eq_true rfl) (Nat.le_of_ble_eq_true rfl) dX1_init_49 (q_1, q_2, q_3, q_4, q_5) hP hD hS ?_
  exact trivial
set_option maxRecDepth 20000 in
theorem k_X1_find_f28 : (.fieldLink RX1 28 "CookieListener$Halves" "count" "I" : Cond) ∈ wsX1_find := by decide +kernel
set_option maxRecDepth 20000 in
theorem k_X1_find_in1 : ∀ w ∈ u_ws RX1 TX1 6, w ∈ wsX1_find := by decide +kernel
set_option maxRecDepth 20000 in
theorem k_X1_find_f9 : (.fieldLink RX1 9 "CookieListener$Halves" "callers" "[J" : Cond) ∈ wsX1_find := by decide +kernel
set_option maxHeartbeats 4000000 in
set_option maxRecDepth 100000 in
theorem c_X1_find (l : Launch) (dC : Nat → ClassId) (dI : Nat → Nat → Nat) (cI cJ cZ : ClassId) (lo sz : Nat) (h a1 a2 a3 a4 a5 : Nat) (n : Nat) (f1 : Nat → Int64) (f2 f3 f4 f5 : Nat → Int32) (x : Int64) (hn : n ≤ 32) : Met l yX1_find wsX1_find ({ frames := 0, cells := 0, slots := 0, locals := 0 } : Room) (va_Pc [.ref h, .long x] (ck_P (dC, dI) [(cI, .int), (cJ, .long), (cZ, .boolean)] lo sz [(h, .inr (1, [.ref a1, .ref a2, .ref a3, .ref a4, .ref a5, .int (nI n)])), (a1, .inl (cJ, 32, .inr (.inl f1))), (a2, .inl (cI, 32, .inl f2)), (a3, .inl (cI, 32, .inl f3)), (a4, .inl (cI, 32, .inl f4)), (a5, .inl (cI, 32, .inl f5))])) (vp_Si (fun (r : Int32) => ck_fnd n f1 x r)) 0 0 (fun _ => False) := by
  refine Met.ofW (cc := cX1_find) (maxL := 4) (ret := (some .int)) (by decide) rfl ?_
  intro p e s m args below meth c s₁ B hml hv
  obtain ⟨rfl, hsz, hP, hK, hD0, hE⟩ := hv
  have hx := B.exec
  have hb := B.bytes
  have hr := B.returns
  have hts := atoms_spec (ws := wsX1_find) B.pre
  have hown : s.vm.findClass RX1 = some m.cls := findClass_of_methodNamed B.named
  have hlocks := B.notSynchronized
  subst hsz
  have hD := hD0.self (sz := s.heap.size)
  have hlo := ck_lo (sz := s.heap.size) hD0 hE.1
  generalize hAe : va_A [(h, .inr (1, [.ref a1, .ref a2, .ref a3, .ref a4, .ref a5, .int (nI n)])), (a1, .inl (cJ, 32, .inr (.inl f1))), (a2, .inl (cI, 32, .inl f2)), (a3, .inl (cI, 32, .inl f3)), (a4, .inl (cI, 32, .inl f4)), (a5, .inl (cI, 32, .inl f5))] s.heap.size = A at hD hlo
  have hA : ∀ q : Nat, s.heap.size ≤ q → A q := fun q h => by rw [← hAe]; exact Or.inr h
  have hG : ck_G (dC, dI) [(cI, .int), (cJ, .long), (cZ, .boolean)] lo A s := ⟨hK, hE, hA, hlo⟩
  have hS : va_S A s.heap s.heap [] := va_S.rf
  have hP : va_P (dC, dI) vwCl [(h, .inr (1, [.ref a1, .ref a2, .ref a3, .ref a4, .ref a5, .int (nI n)])), (a1, .inl (cJ, 32, .inr (.inl f1))), (a2, .inl (cI, 32, .inl f2)), (a3, .inl (cI, 32, .inl f3)), (a4, .inl (cI, 32, .inl f4)), (a5, .inl (cI, 32, .inl f5))] s.heap := hP
  have hl := lv_entry ([.ref h, .long x]) (n := 4) (Nat.le_of_ble_eq_true rfl)
  rw [lg_entry_eq]
  generalize (lg_sl ([.ref h, .long x]) ++ List.replicate (4 - (lg_sl ([.ref h, .long x])).length) Slot.unset).toArray = ls at hl ⊢
  have hl : lv_has ls 4 [(0, .ref h), (1, .long x)] := hl
  refine lv_iconst (v := nI 0) hx hb dX1_find_0 (by decide) ?_
  refine lv_istore_n (lv' := [(3, .int (nI 0)), (0, .ref h), (1, .long x)]) hx hb dX1_find_1 rfl hl (by decide) rfl (fun ls hl => ?_)
  have hloop : ∀ (fu : Nat) (i : Nat), (i ≤ n) → (n + 1 ≤ i + fu) → (∀ q, q < i → f1 q ≠ x) → ∀ (H : Heap) (locs : List Loc) (ls : Array Slot), H = s.heap → locs = [] → va_P (dC, dI) vwCl [(h, .inr (1, [.ref a1, .ref a2, .ref a3, .ref a4, .ref a5, .int (nI n)])), (a1, .inl (cJ, 32, .inr (.inl f1))), (a2, .inl (cI, 32, .inl f2)), (a3, .inl (cI, 32, .inl f3)), (a4, .inl (cI, 32, .inl f4)), (a5, .inl (cI, 32, .inl f5))] H → va_D A [(h, .inr (1, [.ref a1, .ref a2, .ref a3, .ref a4, .ref a5, .int (nI n)])), (a1, .inl (cJ, 32, .inr (.inl f1))), (a2, .inl (cI, 32, .inl f2)), (a3, .inl (cI, 32, .inl f3)), (a4, .inl (cI, 32, .inl f4)), (a5, .inl (cI, 32, .inl f5))] → va_S A s.heap H locs → lv_has ls 4 [(0, .ref h), (1, .long x), (3, .int (nI i))] → W p l e (headSpec wsX1_find ({ frames := 0, cells := 0, slots := 0, locals := 0 } : Room)).room s m (([.ref h, .long x] : List Value).toArray) below meth c H locs 0 0 (MQ below (vp_Si (fun (r : Int32) => ck_fnd n f1 x r)) (([.ref h, .long x] : List Value).toArray) s 0 0 (fun _ => False)) (F0 m 2 ls []) := by
    intro fu
    induction fu with
    | zero =>
      intro i hi hf hv
      exfalso
      omega
    | succ fu ih =>
      intro i hi hf hv H locs ls eH eL hP hD hS hl
      subst eH; subst eL
      refine lv_iload_n hx hb dX1_find_2 rfl (lv_at hl 2 rfl) ?_
      refine lv_aload_n hx hb dX1_find_3 rfl (lv_at hl 0 rfl) ?_
      refine va_get (D := (dC, dI)) (ci := 1) (v := .int (nI n)) (C := RX1) (T := TX1) (N := 6) hx hb hts (k_X1_find_in1) hown hK hP 0 rfl rfl 5 (by decide) (hts _ k_X1_find_f28) (fun _ h9 => h9) rfl dX1_find_4 ?_
      refine lv_icmp_ge (tgt := 29) hx hb dX1_find_7 (by decide) (fun c_7 => ?_) (fun c_7 => ?_)
      · skip
        have c_7 : n ≤ i := (nI_leI (by omega) (by omega)).mp c_7
        refine lv_iconst (v := (-1)) hx hb dX1_find_29 (by decide) ?_
        refine ck_iq hx hb hr hlocks dX1_find_30 ?_
        exact Or.inl ⟨rfl, fun q hq => hv q (by omega)⟩
      · skip
        have c_7 : ¬ (n ≤ i) := fun z => c_7 ((nI_leI (by omega) (by omega)).mpr z)
        refine lv_aload_n hx hb dX1_find_10 rfl (lv_at hl 0 rfl) ?_
        refine va_get (D := (dC, dI)) (ci := 1) (v := .ref a1) (C := RX1) (T := TX1) (N := 6) hx hb hts (k_X1_find_in1) hown hK hP 0 rfl rfl 0 (by decide) (hts _ k_X1_find_f9) (fun _ h9 => h9) rfl dX1_find_11 ?_
        refine lv_iload_n hx hb dX1_find_14 rfl (lv_at hl 2 rfl) ?_
        refine ck_lald hx hb hK hP 1 1 rfl rfl (by omega) (by decide) dX1_find_15 ?_
        refine lv_lload_n hx hb dX1_find_16 rfl (lv_at hl 1 rfl) ?_
        refine W.lcmp hx hb dX1_find_17 ?_
        refine lv_if_ne (tgt := 23) hx hb dX1_find_18 (by decide) (fun c_18 => ?_) (fun c_18 => ?_)
        · skip
          refine lv_iinc (v := nI (i + 1)) (lv' := [(3, .int (nI (i + 1))), (0, .ref h), (1, .long x)]) hx hb dX1_find_23 hl (k := 2) rfl (nI_1 _) (by decide) rfl (fun ls hl => ?_)
          refine lv_goto (tgt := 2) hx hb dX1_find_26 (by decide) ?_
          exact ih (i + 1) (by omega) (by omega) (lt_s hv (fun e => c_18 ((lg_cmp_eq _ _).mpr e))) _ _ _ rfl rfl (hP.sub [0, 1, 2, 3, 4, 5] rfl) (hD.sub [0, 1, 2, 3, 4, 5] (by decide) rfl) hS (lv_sub hl [1, 2, 0] rfl)
        · skip
          refine lv_iload_n hx hb dX1_find_21 rfl (lv_at hl 2 rfl) ?_
          refine ck_iq hx hb hr hlocks dX1_find_22 ?_
          exact Or.inr ⟨i, by omega, rfl, (lg_cmp_eq _ _).mp c_18⟩
  exact hloop (n + 1) 0 (by omega) (by omega) (fun q hq => absurd hq (Nat.not_lt_zero q)) _ _ _ rfl rfl (hP.sub [0, 1, 2, 3, 4, 5] rfl) (hD.sub [0, 1, 2, 3, 4, 5] (by decide) rfl) hS (lv_sub hl [1, 2, 0] rfl)
set_option maxRecDepth 20000 in
theorem k_X1_add_f28 : (.fieldLink RX1 28 "CookieListener$Halves" "count" "I" : Cond) ∈ wsX1_add := by decide +kernel
set_option maxRecDepth 20000 in
theorem k_X1_add_in1 : ∀ w ∈ u_ws RX1 TX1 6, w ∈ wsX1_add := by decide +kernel
set_option maxRecDepth 20000 in
theorem k_X1_add_f9 : (.fieldLink RX1 9 "CookieListener$Halves" "callers" "[J" : Cond) ∈ wsX1_add := by decide +kernel
set_option maxRecDepth 20000 in
theorem k_X1_add_f15 : (.fieldLink RX1 15 "CookieListener$Halves" "numbers" "[I" : Cond) ∈ wsX1_add := by decide +kernel
set_option maxRecDepth 20000 in
theorem k_X1_add_f19 : (.fieldLink RX1 19 "CookieListener$Halves" "answers" "[I" : Cond) ∈ wsX1_add := by decide +kernel
set_option maxRecDepth 20000 in
theorem k_X1_add_f22 : (.fieldLink RX1 22 "CookieListener$Halves" "kinds" "[I" : Cond) ∈ wsX1_add := by decide +kernel
set_option maxRecDepth 20000 in
theorem k_X1_add_f25 : (.fieldLink RX1 25 "CookieListener$Halves" "asked" "[I" : Cond) ∈ wsX1_add := by decide +kernel
set_option maxHeartbeats 4000000 in
set_option maxRecDepth 100000 in
theorem c_X1_add (l : Launch) (dC : Nat → ClassId) (dI : Nat → Nat → Nat) (cI cJ cZ : ClassId) (lo sz : Nat) (h a1 a2 a3 a4 a5 : Nat) (n : Nat) (f1 : Nat → Int64) (f2 f3 f4 f5 : Nat → Int32) (x : Int64) (num ans kd now : Int32) (hn : n < 32) : Met l yX1_add wsX1_add ({ frames := 0, cells := 0, slots := 0, locals := 0 } : Room) (va_Pc [.ref h, .long x, .int num, .int ans, .int kd, .int now] (ck_P (dC, dI) [(cI, .int), (cJ, .long), (cZ, .boolean)] lo sz [(h, .inr (1, [.ref a1, .ref a2, .ref a3, .ref a4, .ref a5, .int (nI n)])), (a1, .inl (cJ, 32, .inr (.inl f1))), (a2, .inl (cI, 32, .inl f2)), (a3, .inl (cI, 32, .inl f3)), (a4, .inl (cI, 32, .inl f4)), (a5, .inl (cI, 32, .inl f5))])) (va_Qv (fun (u : Unit) => True) (fun u => ck_B (dC, dI) vwCl (va_A [(h, .inr (1, [.ref a1, .ref a2, .ref a3, .ref a4, .ref a5, .int (nI n)])), (a1, .inl (cJ, 32, .inr (.inl f1))), (a2, .inl (cI, 32, .inl f2)), (a3, .inl (cI, 32, .inl f3)), (a4, .inl (cI, 32, .inl f4)), (a5, .inl (cI, 32, .inl f5))] sz) ((fun u : Unit => ([(h, .inr (1, [.ref a1, .ref a2, .ref a3, .ref a4, .ref a5, .int (nI (n + 1))])), (a1, .inl (cJ, 32, .inr (.inl (vp_updL f1 n x)))), (a2, .inl (cI, 32, .inl (upd f2 n num))), (a3, .inl (cI, 32, .inl (upd f3 n ans))), (a4, .inl (cI, 32, .inl (upd f4 n kd))), (a5, .inl (cI, 32, .inl (upd f5 n now)))] : va_W)) u)) (va_A [(h, .inr (1, [.ref a1, .ref a2, .ref a3, .ref a4, .ref a5, .int (nI n)])), (a1, .inl (cJ, 32, .inr (.inl f1))), (a2, .inl (cI, 32, .inl f2)), (a3, .inl (cI, 32, .inl f3)), (a4, .inl (cI, 32, .inl f4)), (a5, .inl (cI, 32, .inl f5))] sz)) 0 0 (va_A [(h, .inr (1, [.ref a1, .ref a2, .ref a3, .ref a4, .ref a5, .int (nI n)])), (a1, .inl (cJ, 32, .inr (.inl f1))), (a2, .inl (cI, 32, .inl f2)), (a3, .inl (cI, 32, .inl f3)), (a4, .inl (cI, 32, .inl f4)), (a5, .inl (cI, 32, .inl f5))] sz) := by
  refine Met.ofW (cc := cX1_add) (maxL := 7) (ret := none) (by decide) rfl ?_
  intro p e s m args below meth c s₁ B hml hv
  obtain ⟨rfl, hsz, hP, hK, hD0, hE⟩ := hv
  have hx := B.exec
  have hb := B.bytes
  have hr := B.returns
  have hts := atoms_spec (ws := wsX1_add) B.pre
  have hown : s.vm.findClass RX1 = some m.cls := findClass_of_methodNamed B.named
  have hlocks := B.notSynchronized
  subst hsz
  have hD := hD0.self (sz := s.heap.size)
  have hlo := ck_lo (sz := s.heap.size) hD0 hE.1
  generalize hAe : va_A [(h, .inr (1, [.ref a1, .ref a2, .ref a3, .ref a4, .ref a5, .int (nI n)])), (a1, .inl (cJ, 32, .inr (.inl f1))), (a2, .inl (cI, 32, .inl f2)), (a3, .inl (cI, 32, .inl f3)), (a4, .inl (cI, 32, .inl f4)), (a5, .inl (cI, 32, .inl f5))] s.heap.size = A at hD hlo ⊢
  have hA : ∀ q : Nat, s.heap.size ≤ q → A q := fun q h => by rw [← hAe]; exact Or.inr h
  have hG : ck_G (dC, dI) [(cI, .int), (cJ, .long), (cZ, .boolean)] lo A s := ⟨hK, hE, hA, hlo⟩
  have hS : va_S A s.heap s.heap [] := va_S.rf
  have hP : va_P (dC, dI) vwCl [(h, .inr (1, [.ref a1, .ref a2, .ref a3, .ref a4, .ref a5, .int (nI n)])), (a1, .inl (cJ, 32, .inr (.inl f1))), (a2, .inl (cI, 32, .inl f2)), (a3, .inl (cI, 32, .inl f3)), (a4, .inl (cI, 32, .inl f4)), (a5, .inl (cI, 32, .inl f5))] s.heap := hP
  have hl := lv_entry ([.ref h, .long x, .int num, .int ans, .int kd, .int now]) (n := 7) (Nat.le_of_ble_eq_true rfl)
  rw [lg_entry_eq]
  generalize (lg_sl ([.ref h, .long x, .int num, .int ans, .int kd, .int now]) ++ List.replicate (7 - (lg_sl ([.ref h, .long x, .int num, .int ans, .int kd, .int now])).length) Slot.unset).toArray = ls at hl ⊢
  have hl : lv_has ls 7 [(0, .ref h), (1, .long x), (3, .int num), (4, .int ans), (5, .int kd), (6, .int now)] := hl
  refine lv_aload_n hx hb dX1_add_0 rfl (lv_at hl 0 rfl) ?_
  refine va_get (D := (dC, dI)) (ci := 1) (v := .int (nI n)) (C := RX1) (T := TX1) (N := 6) hx hb hts (k_X1_add_in1) hown hK hP 0 rfl rfl 5 (by decide) (hts _ k_X1_add_f28) (fun _ h9 => h9) rfl dX1_add_1 ?_
  refine lv_bipush (v := nI 32) hx hb dX1_add_4 (by decide) ?_
  refine lv_icmp_lt (tgt := 10) hx hb dX1_add_6 (by decide) (fun c_6 => ?_) (fun c_6 => ?_)
  · skip
    have c_6 : n < 32 := (nI_ltI (by omega) (by omega)).mp c_6
    refine lv_aload_n hx hb dX1_add_10 rfl (lv_at hl 0 rfl) ?_
    refine va_get (D := (dC, dI)) (ci := 1) (v := .ref a1) (C := RX1) (T := TX1) (N := 6) hx hb hts (k_X1_add_in1) hown hK hP 0 rfl rfl 0 (by decide) (hts _ k_X1_add_f9) (fun _ h9 => h9) rfl dX1_add_11 ?_
    refine lv_aload_n hx hb dX1_add_14 rfl (lv_at hl 0 rfl) ?_
    refine va_get (D := (dC, dI)) (ci := 1) (v := .int (nI n)) (C := RX1) (T := TX1) (N := 6) hx hb hts (k_X1_add_in1) hown hK hP 0 rfl rfl 5 (by decide) (hts _ k_X1_add_f28) (fun _ h9 => h9) rfl dX1_add_15 ?_
    refine lv_lload_n hx hb dX1_add_18 rfl (lv_at hl 1 rfl) ?_
    refine ck_last hx hb hK hP hD hS 1 1 rfl rfl (by omega) (by decide) dX1_add_19 (fun H locs hP hD hS => ?_)
    have hP : va_P (dC, dI) vwCl [(h, .inr (1, [.ref a1, .ref a2, .ref a3, .ref a4, .ref a5, .int (nI n)])), (a1, .inl (cJ, 32, .inr (.inl (vp_updL f1 n x)))), (a2, .inl (cI, 32, .inl f2)), (a3, .inl (cI, 32, .inl f3)), (a4, .inl (cI, 32, .inl f4)), (a5, .inl (cI, 32, .inl f5))] H := hP
    have hD : va_D A [(h, .inr (1, [.ref a1, .ref a2, .ref a3, .ref a4, .ref a5, .int (nI n)])), (a1, .inl (cJ, 32, .inr (.inl (vp_updL f1 n x)))), (a2, .inl (cI, 32, .inl f2)), (a3, .inl (cI, 32, .inl f3)), (a4, .inl (cI, 32, .inl f4)), (a5, .inl (cI, 32, .inl f5))] := hD
    refine lv_aload_n hx hb dX1_add_20 rfl (lv_at hl 0 rfl) ?_
    refine va_get (D := (dC, dI)) (ci := 1) (v := .ref a2) (C := RX1) (T := TX1) (N := 6) hx hb hts (k_X1_add_in1) hown hK hP 0 rfl rfl 1 (by decide) (hts _ k_X1_add_f15) (fun _ h9 => h9) rfl dX1_add_21 ?_
    refine lv_aload_n hx hb dX1_add_24 rfl (lv_at hl 0 rfl) ?_
    refine va_get (D := (dC, dI)) (ci := 1) (v := .int (nI n)) (C := RX1) (T := TX1) (N := 6) hx hb hts (k_X1_add_in1) hown hK hP 0 rfl rfl 5 (by decide) (hts _ k_X1_add_f28) (fun _ h9 => h9) rfl dX1_add_25 ?_
    refine lv_iload_n hx hb dX1_add_28 rfl (lv_at hl 2 rfl) ?_
    refine ck_iast hx hb hK hP hD hS 2 0 rfl rfl (by omega) (by decide) dX1_add_29 (fun H locs hP hD hS => ?_)
    have hP : va_P (dC, dI) vwCl [(h, .inr (1, [.ref a1, .ref a2, .ref a3, .ref a4, .ref a5, .int (nI n)])), (a1, .inl (cJ, 32, .inr (.inl (vp_updL f1 n x)))), (a2, .inl (cI, 32, .inl (upd f2 n num))), (a3, .inl (cI, 32, .inl f3)), (a4, .inl (cI, 32, .inl f4)), (a5, .inl (cI, 32, .inl f5))] H := hP
    have hD : va_D A [(h, .inr (1, [.ref a1, .ref a2, .ref a3, .ref a4, .ref a5, .int (nI n)])), (a1, .inl (cJ, 32, .inr (.inl (vp_updL f1 n x)))), (a2, .inl (cI, 32, .inl (upd f2 n num))), (a3, .inl (cI, 32, .inl f3)), (a4, .inl (cI, 32, .inl f4)), (a5, .inl (cI, 32, .inl f5))] := hD
    refine lv_aload_n hx hb dX1_add_30 rfl (lv_at hl 0 rfl) ?_
    refine va_get (D := (dC, dI)) (ci := 1) (v := .ref a3) (C := RX1) (T := TX1) (N := 6) hx hb hts (k_X1_add_in1) hown hK hP 0 rfl rfl 2 (by decide) (hts _ k_X1_add_f19) (fun _ h9 => h9) rfl dX1_add_31 ?_
    refine lv_aload_n hx hb dX1_add_34 rfl (lv_at hl 0 rfl) ?_
    refine va_get (D := (dC, dI)) (ci := 1) (v := .int (nI n)) (C := RX1) (T := TX1) (N := 6) hx hb hts (k_X1_add_in1) hown hK hP 0 rfl rfl 5 (by decide) (hts _ k_X1_add_f28) (fun _ h9 => h9) rfl dX1_add_35 ?_
    refine lv_iload hx hb dX1_add_38 (lv_at hl 3 rfl) ?_
    refine ck_iast hx hb hK hP hD hS 3 0 rfl rfl (by omega) (by decide) dX1_add_40 (fun H locs hP hD hS => ?_)
    have hP : va_P (dC, dI) vwCl [(h, .inr (1, [.ref a1, .ref a2, .ref a3, .ref a4, .ref a5, .int (nI n)])), (a1, .inl (cJ, 32, .inr (.inl (vp_updL f1 n x)))), (a2, .inl (cI, 32, .inl (upd f2 n num))), (a3, .inl (cI, 32, .inl (upd f3 n ans))), (a4, .inl (cI, 32, .inl f4)), (a5, .inl (cI, 32, .inl f5))] H := hP
    have hD : va_D A [(h, .inr (1, [.ref a1, .ref a2, .ref a3, .ref a4, .ref a5, .int (nI n)])), (a1, .inl (cJ, 32, .inr (.inl (vp_updL f1 n x)))), (a2, .inl (cI, 32, .inl (upd f2 n num))), (a3, .inl (cI, 32, .inl (upd f3 n ans))), (a4, .inl (cI, 32, .inl f4)), (a5, .inl (cI, 32, .inl f5))] := hD
    refine lv_aload_n hx hb dX1_add_41 rfl (lv_at hl 0 rfl) ?_
    refine va_get (D := (dC, dI)) (ci := 1) (v := .ref a4) (C := RX1) (T := TX1) (N := 6) hx hb hts (k_X1_add_in1) hown hK hP 0 rfl rfl 3 (by decide) (hts _ k_X1_add_f22) (fun _ h9 => h9) rfl dX1_add_42 ?_
    refine lv_aload_n hx hb dX1_add_45 rfl (lv_at hl 0 rfl) ?_
    refine va_get (D := (dC, dI)) (ci := 1) (v := .int (nI n)) (C := RX1) (T := TX1) (N := 6) hx hb hts (k_X1_add_in1) hown hK hP 0 rfl rfl 5 (by decide) (hts _ k_X1_add_f28) (fun _ h9 => h9) rfl dX1_add_46 ?_
    refine lv_iload hx hb dX1_add_49 (lv_at hl 4 rfl) ?_
    refine ck_iast hx hb hK hP hD hS 4 0 rfl rfl (by omega) (by decide) dX1_add_51 (fun H locs hP hD hS => ?_)
    have hP : va_P (dC, dI) vwCl [(h, .inr (1, [.ref a1, .ref a2, .ref a3, .ref a4, .ref a5, .int (nI n)])), (a1, .inl (cJ, 32, .inr (.inl (vp_updL f1 n x)))), (a2, .inl (cI, 32, .inl (upd f2 n num))), (a3, .inl (cI, 32, .inl (upd f3 n ans))), (a4, .inl (cI, 32, .inl (upd f4 n kd))), (a5, .inl (cI, 32, .inl f5))] H := hP
    have hD : va_D A [(h, .inr (1, [.ref a1, .ref a2, .ref a3, .ref a4, .ref a5, .int (nI n)])), (a1, .inl (cJ, 32, .inr (.inl (vp_updL f1 n x)))), (a2, .inl (cI, 32, .inl (upd f2 n num))), (a3, .inl (cI, 32, .inl (upd f3 n ans))), (a4, .inl (cI, 32, .inl (upd f4 n kd))), (a5, .inl (cI, 32, .inl f5))] := hD
    refine lv_aload_n hx hb dX1_add_52 rfl (lv_at hl 0 rfl) ?_
    refine va_get (D := (dC, dI)) (ci := 1) (v := .ref a5) (C := RX1) (T := TX1) (N := 6) hx hb hts (k_X1_add_in1) hown hK hP 0 rfl rfl 4 (by decide) (hts _ k_X1_add_f25) (fun _ h9 => h9) rfl dX1_add_53 ?_
    refine lv_aload_n hx hb dX1_add_56 rfl (lv_at hl 0 rfl) ?_
    refine va_get (D := (dC, dI)) (ci := 1) (v := .int (nI n)) (C := RX1) (T := TX1) (N := 6) hx hb hts (k_X1_add_in1) hown hK hP 0 rfl rfl 5 (by decide) (hts _ k_X1_add_f28) (fun _ h9 => h9) rfl dX1_add_57 ?_
    refine lv_iload hx hb dX1_add_60 (lv_at hl 5 rfl) ?_
    refine ck_iast hx hb hK hP hD hS 5 0 rfl rfl (by omega) (by decide) dX1_add_62 (fun H locs hP hD hS => ?_)
    have hP : va_P (dC, dI) vwCl [(h, .inr (1, [.ref a1, .ref a2, .ref a3, .ref a4, .ref a5, .int (nI n)])), (a1, .inl (cJ, 32, .inr (.inl (vp_updL f1 n x)))), (a2, .inl (cI, 32, .inl (upd f2 n num))), (a3, .inl (cI, 32, .inl (upd f3 n ans))), (a4, .inl (cI, 32, .inl (upd f4 n kd))), (a5, .inl (cI, 32, .inl (upd f5 n now)))] H := hP
    have hD : va_D A [(h, .inr (1, [.ref a1, .ref a2, .ref a3, .ref a4, .ref a5, .int (nI n)])), (a1, .inl (cJ, 32, .inr (.inl (vp_updL f1 n x)))), (a2, .inl (cI, 32, .inl (upd f2 n num))), (a3, .inl (cI, 32, .inl (upd f3 n ans))), (a4, .inl (cI, 32, .inl (upd f4 n kd))), (a5, .inl (cI, 32, .inl (upd f5 n now)))] := hD
    refine lv_aload_n hx hb dX1_add_63 rfl (lv_at hl 0 rfl) ?_
    refine lv_dup hx hb dX1_add_64 rfl ?_
    refine va_get (D := (dC, dI)) (ci := 1) (v := .int (nI n)) (C := RX1) (T := TX1) (N := 6) hx hb hts (k_X1_add_in1) hown hK hP 0 rfl rfl 5 (by decide) (hts _ k_X1_add_f28) (fun _ h9 => h9) rfl dX1_add_65 ?_
    refine lv_iconst (v := 1) hx hb dX1_add_68 (by decide) ?_
    refine lv_iadd hx hb dX1_add_69 ?_
    refine ck_toi (y := nI (n + 1)) (nI_1 _) ?_
    refine va_put (D := (dC, dI)) (ci := 1) (v := .int (nI (n + 1))) (ty := .int) (C := RX1) (T := TX1) (N := 6) hx hb hts (k_X1_add_in1) tyX1 tyX1_ok nmX1 hown hK hP hD hS 0 rfl rfl 5 (by decide) (hts _ k_X1_add_f28) (fun _ h9 => h9) rfl (by decide +kernel) rfl rfl (Nat.le_of_ble_eq_true rfl) dX1_add_70 (fun H locs hP hD hS => ?_)
    have hP : va_P (dC, dI) vwCl [(h, .inr (1, [.ref a1, .ref a2, .ref a3, .ref a4, .ref a5, .int (nI (n + 1))])), (a1, .inl (cJ, 32, .inr (.inl (vp_updL f1 n x)))), (a2, .inl (cI, 32, .inl (upd f2 n num))), (a3, .inl (cI, 32, .inl (upd f3 n ans))), (a4, .inl (cI, 32, .inl (upd f4 n kd))), (a5, .inl (cI, 32, .inl (upd f5 n now)))] H := hP
    have hD : va_D A [(h, .inr (1, [.ref a1, .ref a2, .ref a3, .ref a4, .ref a5, .int (nI (n + 1))])), (a1, .inl (cJ, 32, .inr (.inl (vp_updL f1 n x)))), (a2, .inl (cI, 32, .inl (upd f2 n num))), (a3, .inl (cI, 32, .inl (upd f3 n ans))), (a4, .inl (cI, 32, .inl (upd f4 n kd))), (a5, .inl (cI, 32, .inl (upd f5 n now)))] := hD
    subst_vars
    refine ck_vr hx hb hr hlocks (Nat.le_of_ble_eq_true rfl) (Nat.le_of_ble_eq_true rfl) dX1_add_73 () hP hD hS ?_
    exact trivial
  · skip
    have c_6 : ¬ (n < 32) := fun z => c_6 ((nI_ltI (by omega) (by omega)).mpr z)
    omega
set_option maxRecDepth 20000 in
theorem k_X1_drop_f28 : (.fieldLink RX1 28 "CookieListener$Halves" "count" "I" : Cond) ∈ wsX1_drop := by decide +kernel
set_option maxRecDepth 20000 in
theorem k_X1_drop_in1 : ∀ w ∈ u_ws RX1 TX1 6, w ∈ wsX1_drop := by decide +kernel
set_option maxRecDepth 20000 in
theorem k_X1_drop_f9 : (.fieldLink RX1 9 "CookieListener$Halves" "callers" "[J" : Cond) ∈ wsX1_drop := by decide +kernel
set_option maxRecDepth 20000 in
theorem k_X1_drop_f15 : (.fieldLink RX1 15 "CookieListener$Halves" "numbers" "[I" : Cond) ∈ wsX1_drop := by decide +kernel
set_option maxRecDepth 20000 in
theorem k_X1_drop_f19 : (.fieldLink RX1 19 "CookieListener$Halves" "answers" "[I" : Cond) ∈ wsX1_drop := by decide +kernel
set_option maxRecDepth 20000 in
theorem k_X1_drop_f22 : (.fieldLink RX1 22 "CookieListener$Halves" "kinds" "[I" : Cond) ∈ wsX1_drop := by decide +kernel
set_option maxRecDepth 20000 in
theorem k_X1_drop_f25 : (.fieldLink RX1 25 "CookieListener$Halves" "asked" "[I" : Cond) ∈ wsX1_drop := by decide +kernel
set_option maxHeartbeats 4000000 in
set_option maxRecDepth 100000 in
theorem c_X1_drop (l : Launch) (dC : Nat → ClassId) (dI : Nat → Nat → Nat) (cI cJ cZ : ClassId) (lo sz : Nat) (h a1 a2 a3 a4 a5 : Nat) (n : Nat) (f1 : Nat → Int64) (f2 f3 f4 f5 : Nat → Int32) (j : Nat) (hn : n < 32) (hj : j < n + 1) : Met l yX1_drop wsX1_drop ({ frames := 0, cells := 0, slots := 0, locals := 0 } : Room) (va_Pc [.ref h, .int (nI j)] (ck_P (dC, dI) [(cI, .int), (cJ, .long), (cZ, .boolean)] lo sz [(h, .inr (1, [.ref a1, .ref a2, .ref a3, .ref a4, .ref a5, .int (nI (n + 1))])), (a1, .inl (cJ, 32, .inr (.inl f1))), (a2, .inl (cI, 32, .inl f2)), (a3, .inl (cI, 32, .inl f3)), (a4, .inl (cI, 32, .inl f4)), (a5, .inl (cI, 32, .inl f5))])) (va_Qv (fun (u : Unit) => True) (fun u => ck_B (dC, dI) vwCl (va_A [(h, .inr (1, [.ref a1, .ref a2, .ref a3, .ref a4, .ref a5, .int (nI (n + 1))])), (a1, .inl (cJ, 32, .inr (.inl f1))), (a2, .inl (cI, 32, .inl f2)), (a3, .inl (cI, 32, .inl f3)), (a4, .inl (cI, 32, .inl f4)), (a5, .inl (cI, 32, .inl f5))] sz) ((fun u : Unit => ([(h, .inr (1, [.ref a1, .ref a2, .ref a3, .ref a4, .ref a5, .int (nI n)])), (a1, .inl (cJ, 32, .inr (.inl (vp_updL f1 j (f1 n))))), (a2, .inl (cI, 32, .inl (upd f2 j (f2 n)))), (a3, .inl (cI, 32, .inl (upd f3 j (f3 n)))), (a4, .inl (cI, 32, .inl (upd f4 j (f4 n)))), (a5, .inl (cI, 32, .inl (upd f5 j (f5 n))))] : va_W)) u)) (va_A [(h, .inr (1, [.ref a1, .ref a2, .ref a3, .ref a4, .ref a5, .int (nI (n + 1))])), (a1, .inl (cJ, 32, .inr (.inl f1))), (a2, .inl (cI, 32, .inl f2)), (a3, .inl (cI, 32, .inl f3)), (a4, .inl (cI, 32, .inl f4)), (a5, .inl (cI, 32, .inl f5))] sz)) 0 0 (va_A [(h, .inr (1, [.ref a1, .ref a2, .ref a3, .ref a4, .ref a5, .int (nI (n + 1))])), (a1, .inl (cJ, 32, .inr (.inl f1))), (a2, .inl (cI, 32, .inl f2)), (a3, .inl (cI, 32, .inl f3)), (a4, .inl (cI, 32, .inl f4)), (a5, .inl (cI, 32, .inl f5))] sz) := by
  refine Met.ofW (cc := cX1_drop) (maxL := 2) (ret := none) (by decide) rfl ?_
  intro p e s m args below meth c s₁ B hml hv
  obtain ⟨rfl, hsz, hP, hK, hD0, hE⟩ := hv
  have hx := B.exec
  have hb := B.bytes
  have hr := B.returns
  have hts := atoms_spec (ws := wsX1_drop) B.pre
  have hown : s.vm.findClass RX1 = some m.cls := findClass_of_methodNamed B.named
  have hlocks := B.notSynchronized
  subst hsz
  have hD := hD0.self (sz := s.heap.size)
  have hlo := ck_lo (sz := s.heap.size) hD0 hE.1
  generalize hAe : va_A [(h, .inr (1, [.ref a1, .ref a2, .ref a3, .ref a4, .ref a5, .int (nI (n + 1))])), (a1, .inl (cJ, 32, .inr (.inl f1))), (a2, .inl (cI, 32, .inl f2)), (a3, .inl (cI, 32, .inl f3)), (a4, .inl (cI, 32, .inl f4)), (a5, .inl (cI, 32, .inl f5))] s.heap.size = A at hD hlo ⊢
  have hA : ∀ q : Nat, s.heap.size ≤ q → A q := fun q h => by rw [← hAe]; exact Or.inr h
  have hG : ck_G (dC, dI) [(cI, .int), (cJ, .long), (cZ, .boolean)] lo A s := ⟨hK, hE, hA, hlo⟩
  have hS : va_S A s.heap s.heap [] := va_S.rf
  have hP : va_P (dC, dI) vwCl [(h, .inr (1, [.ref a1, .ref a2, .ref a3, .ref a4, .ref a5, .int (nI (n + 1))])), (a1, .inl (cJ, 32, .inr (.inl f1))), (a2, .inl (cI, 32, .inl f2)), (a3, .inl (cI, 32, .inl f3)), (a4, .inl (cI, 32, .inl f4)), (a5, .inl (cI, 32, .inl f5))] s.heap := hP
  have hl := lv_entry ([.ref h, .int (nI j)]) (n := 2) (Nat.le_of_ble_eq_true rfl)
  rw [lg_entry_eq]
  generalize (lg_sl ([.ref h, .int (nI j)]) ++ List.replicate (2 - (lg_sl ([.ref h, .int (nI j)])).length) Slot.unset).toArray = ls at hl ⊢
  have hl : lv_has ls 2 [(0, .ref h), (1, .int (nI j))] := hl
  refine lv_iload_n hx hb dX1_drop_0 rfl (lv_at hl 1 rfl) ?_
  refine lv_if_lt (tgt := 12) hx hb dX1_drop_1 (by decide) (fun c_1 => ?_) (fun c_1 => ?_)
  · skip
    exact absurd c_1 (nI_pos (by omega))
  · skip
    refine lv_iload_n hx hb dX1_drop_4 rfl (lv_at hl 1 rfl) ?_
    refine lv_aload_n hx hb dX1_drop_5 rfl (lv_at hl 0 rfl) ?_
    refine va_get (D := (dC, dI)) (ci := 1) (v := .int (nI (n + 1))) (C := RX1) (T := TX1) (N := 6) hx hb hts (k_X1_drop_in1) hown hK hP 0 rfl rfl 5 (by decide) (hts _ k_X1_drop_f28) (fun _ h9 => h9) rfl dX1_drop_6 ?_
    refine lv_icmp_lt (tgt := 13) hx hb dX1_drop_9 (by decide) (fun c_9 => ?_) (fun c_9 => ?_)
    · skip
      have c_9 : j < (n + 1) := (nI_ltI (by omega) (by omega)).mp c_9
      refine lv_aload_n hx hb dX1_drop_13 rfl (lv_at hl 0 rfl) ?_
      refine lv_dup hx hb dX1_drop_14 rfl ?_
      refine va_get (D := (dC, dI)) (ci := 1) (v := .int (nI (n + 1))) (C := RX1) (T := TX1) (N := 6) hx hb hts (k_X1_drop_in1) hown hK hP 0 rfl rfl 5 (by decide) (hts _ k_X1_drop_f28) (fun _ h9 => h9) rfl dX1_drop_15 ?_
      refine lv_iconst (v := 1) hx hb dX1_drop_18 (by decide) ?_
      refine lv_isub hx hb dX1_drop_19 ?_
      refine ck_toi (y := nI n) (nI_pred _) ?_
      refine va_put (D := (dC, dI)) (ci := 1) (v := .int (nI n)) (ty := .int) (C := RX1) (T := TX1) (N := 6) hx hb hts (k_X1_drop_in1) tyX1 tyX1_ok nmX1 hown hK hP hD hS 0 rfl rfl 5 (by decide) (hts _ k_X1_drop_f28) (fun _ h9 => h9) rfl (by decide +kernel) rfl rfl (Nat.le_of_ble_eq_true rfl) dX1_drop_20 (fun H locs hP hD hS => ?_)
      have hP : va_P (dC, dI) vwCl [(h, .inr (1, [.ref a1, .ref a2, .ref a3, .ref a4, .ref a5, .int (nI n)])), (a1, .inl (cJ, 32, .inr (.inl f1))), (a2, .inl (cI, 32, .inl f2)), (a3, .inl (cI, 32, .inl f3)), (a4, .inl (cI, 32, .inl f4)), (a5, .inl (cI, 32, .inl f5))] H := hP
      have hD : va_D A [(h, .inr (1, [.ref a1, .ref a2, .ref a3, .ref a4, .ref a5, .int (nI n)])), (a1, .inl (cJ, 32, .inr (.inl f1))), (a2, .inl (cI, 32, .inl f2)), (a3, .inl (cI, 32, .inl f3)), (a4, .inl (cI, 32, .inl f4)), (a5, .inl (cI, 32, .inl f5))] := hD
      refine lv_aload_n hx hb dX1_drop_23 rfl (lv_at hl 0 rfl) ?_
      refine va_get (D := (dC, dI)) (ci := 1) (v := .ref a1) (C := RX1) (T := TX1) (N := 6) hx hb hts (k_X1_drop_in1) hown hK hP 0 rfl rfl 0 (by decide) (hts _ k_X1_drop_f9) (fun _ h9 => h9) rfl dX1_drop_24 ?_
      refine lv_iload_n hx hb dX1_drop_27 rfl (lv_at hl 1 rfl) ?_
      refine lv_aload_n hx hb dX1_drop_28 rfl (lv_at hl 0 rfl) ?_
      refine va_get (D := (dC, dI)) (ci := 1) (v := .ref a1) (C := RX1) (T := TX1) (N := 6) hx hb hts (k_X1_drop_in1) hown hK hP 0 rfl rfl 0 (by decide) (hts _ k_X1_drop_f9) (fun _ h9 => h9) rfl dX1_drop_29 ?_
      refine lv_aload_n hx hb dX1_drop_32 rfl (lv_at hl 0 rfl) ?_
      refine va_get (D := (dC, dI)) (ci := 1) (v := .int (nI n)) (C := RX1) (T := TX1) (N := 6) hx hb hts (k_X1_drop_in1) hown hK hP 0 rfl rfl 5 (by decide) (hts _ k_X1_drop_f28) (fun _ h9 => h9) rfl dX1_drop_33 ?_
      refine ck_lald hx hb hK hP 1 1 rfl rfl (by omega) (by decide) dX1_drop_36 ?_
      refine ck_last hx hb hK hP hD hS 1 1 rfl rfl (by omega) (by decide) dX1_drop_37 (fun H locs hP hD hS => ?_)
      have hP : va_P (dC, dI) vwCl [(h, .inr (1, [.ref a1, .ref a2, .ref a3, .ref a4, .ref a5, .int (nI n)])), (a1, .inl (cJ, 32, .inr (.inl (vp_updL f1 j (f1 n))))), (a2, .inl (cI, 32, .inl f2)), (a3, .inl (cI, 32, .inl f3)), (a4, .inl (cI, 32, .inl f4)), (a5, .inl (cI, 32, .inl f5))] H := hP
      have hD : va_D A [(h, .inr (1, [.ref a1, .ref a2, .ref a3, .ref a4, .ref a5, .int (nI n)])), (a1, .inl (cJ, 32, .inr (.inl (vp_updL f1 j (f1 n))))), (a2, .inl (cI, 32, .inl f2)), (a3, .inl (cI, 32, .inl f3)), (a4, .inl (cI, 32, .inl f4)), (a5, .inl (cI, 32, .inl f5))] := hD
      refine lv_aload_n hx hb dX1_drop_38 rfl (lv_at hl 0 rfl) ?_
      refine va_get (D := (dC, dI)) (ci := 1) (v := .ref a2) (C := RX1) (T := TX1) (N := 6) hx hb hts (k_X1_drop_in1) hown hK hP 0 rfl rfl 1 (by decide) (hts _ k_X1_drop_f15) (fun _ h9 => h9) rfl dX1_drop_39 ?_
      refine lv_iload_n hx hb dX1_drop_42 rfl (lv_at hl 1 rfl) ?_
      refine lv_aload_n hx hb dX1_drop_43 rfl (lv_at hl 0 rfl) ?_
      refine va_get (D := (dC, dI)) (ci := 1) (v := .ref a2) (C := RX1) (T := TX1) (N := 6) hx hb hts (k_X1_drop_in1) hown hK hP 0 rfl rfl 1 (by decide) (hts _ k_X1_drop_f15) (fun _ h9 => h9) rfl dX1_drop_44 ?_
      refine lv_aload_n hx hb dX1_drop_47 rfl (lv_at hl 0 rfl) ?_
      refine va_get (D := (dC, dI)) (ci := 1) (v := .int (nI n)) (C := RX1) (T := TX1) (N := 6) hx hb hts (k_X1_drop_in1) hown hK hP 0 rfl rfl 5 (by decide) (hts _ k_X1_drop_f28) (fun _ h9 => h9) rfl dX1_drop_48 ?_
      refine ck_iald hx hb hK hP 2 0 rfl rfl (by omega) (by decide) dX1_drop_51 ?_
      refine ck_iast hx hb hK hP hD hS 2 0 rfl rfl (by omega) (by decide) dX1_drop_52 (fun H locs hP hD hS => ?_)
      have hP : va_P (dC, dI) vwCl [(h, .inr (1, [.ref a1, .ref a2, .ref a3, .ref a4, .ref a5, .int (nI n)])), (a1, .inl (cJ, 32, .inr (.inl (vp_updL f1 j (f1 n))))), (a2, .inl (cI, 32, .inl (upd f2 j (f2 n)))), (a3, .inl (cI, 32, .inl f3)), (a4, .inl (cI, 32, .inl f4)), (a5, .inl (cI, 32, .inl f5))] H := hP
      have hD : va_D A [(h, .inr (1, [.ref a1, .ref a2, .ref a3, .ref a4, .ref a5, .int (nI n)])), (a1, .inl (cJ, 32, .inr (.inl (vp_updL f1 j (f1 n))))), (a2, .inl (cI, 32, .inl (upd f2 j (f2 n)))), (a3, .inl (cI, 32, .inl f3)), (a4, .inl (cI, 32, .inl f4)), (a5, .inl (cI, 32, .inl f5))] := hD
      refine lv_aload_n hx hb dX1_drop_53 rfl (lv_at hl 0 rfl) ?_
      refine va_get (D := (dC, dI)) (ci := 1) (v := .ref a3) (C := RX1) (T := TX1) (N := 6) hx hb hts (k_X1_drop_in1) hown hK hP 0 rfl rfl 2 (by decide) (hts _ k_X1_drop_f19) (fun _ h9 => h9) rfl dX1_drop_54 ?_
      refine lv_iload_n hx hb dX1_drop_57 rfl (lv_at hl 1 rfl) ?_
      refine lv_aload_n hx hb dX1_drop_58 rfl (lv_at hl 0 rfl) ?_
      refine va_get (D := (dC, dI)) (ci := 1) (v := .ref a3) (C := RX1) (T := TX1) (N := 6) hx hb hts (k_X1_drop_in1) hown hK hP 0 rfl rfl 2 (by decide) (hts _ k_X1_drop_f19) (fun _ h9 => h9) rfl dX1_drop_59 ?_
      refine lv_aload_n hx hb dX1_drop_62 rfl (lv_at hl 0 rfl) ?_
      refine va_get (D := (dC, dI)) (ci := 1) (v := .int (nI n)) (C := RX1) (T := TX1) (N := 6) hx hb hts (k_X1_drop_in1) hown hK hP 0 rfl rfl 5 (by decide) (hts _ k_X1_drop_f28) (fun _ h9 => h9) rfl dX1_drop_63 ?_
      refine ck_iald hx hb hK hP 3 0 rfl rfl (by omega) (by decide) dX1_drop_66 ?_
      refine ck_iast hx hb hK hP hD hS 3 0 rfl rfl (by omega) (by decide) dX1_drop_67 (fun H locs hP hD hS => ?_)
      have hP : va_P (dC, dI) vwCl [(h, .inr (1, [.ref a1, .ref a2, .ref a3, .ref a4, .ref a5, .int (nI n)])), (a1, .inl (cJ, 32, .inr (.inl (vp_updL f1 j (f1 n))))), (a2, .inl (cI, 32, .inl (upd f2 j (f2 n)))), (a3, .inl (cI, 32, .inl (upd f3 j (f3 n)))), (a4, .inl (cI, 32, .inl f4)), (a5, .inl (cI, 32, .inl f5))] H := hP
      have hD : va_D A [(h, .inr (1, [.ref a1, .ref a2, .ref a3, .ref a4, .ref a5, .int (nI n)])), (a1, .inl (cJ, 32, .inr (.inl (vp_updL f1 j (f1 n))))), (a2, .inl (cI, 32, .inl (upd f2 j (f2 n)))), (a3, .inl (cI, 32, .inl (upd f3 j (f3 n)))), (a4, .inl (cI, 32, .inl f4)), (a5, .inl (cI, 32, .inl f5))] := hD
      refine lv_aload_n hx hb dX1_drop_68 rfl (lv_at hl 0 rfl) ?_
      refine va_get (D := (dC, dI)) (ci := 1) (v := .ref a4) (C := RX1) (T := TX1) (N := 6) hx hb hts (k_X1_drop_in1) hown hK hP 0 rfl rfl 3 (by decide) (hts _ k_X1_drop_f22) (fun _ h9 => h9) rfl dX1_drop_69 ?_
      refine lv_iload_n hx hb dX1_drop_72 rfl (lv_at hl 1 rfl) ?_
      refine lv_aload_n hx hb dX1_drop_73 rfl (lv_at hl 0 rfl) ?_
      refine va_get (D := (dC, dI)) (ci := 1) (v := .ref a4) (C := RX1) (T := TX1) (N := 6) hx hb hts (k_X1_drop_in1) hown hK hP 0 rfl rfl 3 (by decide) (hts _ k_X1_drop_f22) (fun _ h9 => h9) rfl dX1_drop_74 ?_
      refine lv_aload_n hx hb dX1_drop_77 rfl (lv_at hl 0 rfl) ?_
      refine va_get (D := (dC, dI)) (ci := 1) (v := .int (nI n)) (C := RX1) (T := TX1) (N := 6) hx hb hts (k_X1_drop_in1) hown hK hP 0 rfl rfl 5 (by decide) (hts _ k_X1_drop_f28) (fun _ h9 => h9) rfl dX1_drop_78 ?_
      refine ck_iald hx hb hK hP 4 0 rfl rfl (by omega) (by decide) dX1_drop_81 ?_
      refine ck_iast hx hb hK hP hD hS 4 0 rfl rfl (by omega) (by decide) dX1_drop_82 (fun H locs hP hD hS => ?_)
      have hP : va_P (dC, dI) vwCl [(h, .inr (1, [.ref a1, .ref a2, .ref a3, .ref a4, .ref a5, .int (nI n)])), (a1, .inl (cJ, 32, .inr (.inl (vp_updL f1 j (f1 n))))), (a2, .inl (cI, 32, .inl (upd f2 j (f2 n)))), (a3, .inl (cI, 32, .inl (upd f3 j (f3 n)))), (a4, .inl (cI, 32, .inl (upd f4 j (f4 n)))), (a5, .inl (cI, 32, .inl f5))] H := hP
      have hD : va_D A [(h, .inr (1, [.ref a1, .ref a2, .ref a3, .ref a4, .ref a5, .int (nI n)])), (a1, .inl (cJ, 32, .inr (.inl (vp_updL f1 j (f1 n))))), (a2, .inl (cI, 32, .inl (upd f2 j (f2 n)))), (a3, .inl (cI, 32, .inl (upd f3 j (f3 n)))), (a4, .inl (cI, 32, .inl (upd f4 j (f4 n)))), (a5, .inl (cI, 32, .inl f5))] := hD
      refine lv_aload_n hx hb dX1_drop_83 rfl (lv_at hl 0 rfl) ?_
      refine va_get (D := (dC, dI)) (ci := 1) (v := .ref a5) (C := RX1) (T := TX1) (N := 6) hx hb hts (k_X1_drop_in1) hown hK hP 0 rfl rfl 4 (by decide) (hts _ k_X1_drop_f25) (fun _ h9 => h9) rfl dX1_drop_84 ?_
      refine lv_iload_n hx hb dX1_drop_87 rfl (lv_at hl 1 rfl) ?_
      refine lv_aload_n hx hb dX1_drop_88 rfl (lv_at hl 0 rfl) ?_
      refine va_get (D := (dC, dI)) (ci := 1) (v := .ref a5) (C := RX1) (T := TX1) (N := 6) hx hb hts (k_X1_drop_in1) hown hK hP 0 rfl rfl 4 (by decide) (hts _ k_X1_drop_f25) (fun _ h9 => h9) rfl dX1_drop_89 ?_
      refine lv_aload_n hx hb dX1_drop_92 rfl (lv_at hl 0 rfl) ?_
      refine va_get (D := (dC, dI)) (ci := 1) (v := .int (nI n)) (C := RX1) (T := TX1) (N := 6) hx hb hts (k_X1_drop_in1) hown hK hP 0 rfl rfl 5 (by decide) (hts _ k_X1_drop_f28) (fun _ h9 => h9) rfl dX1_drop_93 ?_
      refine ck_iald hx hb hK hP 5 0 rfl rfl (by omega) (by decide) dX1_drop_96 ?_
      refine ck_iast hx hb hK hP hD hS 5 0 rfl rfl (by omega) (by decide) dX1_drop_97 (fun H locs hP hD hS => ?_)
      have hP : va_P (dC, dI) vwCl [(h, .inr (1, [.ref a1, .ref a2, .ref a3, .ref a4, .ref a5, .int (nI n)])), (a1, .inl (cJ, 32, .inr (.inl (vp_updL f1 j (f1 n))))), (a2, .inl (cI, 32, .inl (upd f2 j (f2 n)))), (a3, .inl (cI, 32, .inl (upd f3 j (f3 n)))), (a4, .inl (cI, 32, .inl (upd f4 j (f4 n)))), (a5, .inl (cI, 32, .inl (upd f5 j (f5 n))))] H := hP
      have hD : va_D A [(h, .inr (1, [.ref a1, .ref a2, .ref a3, .ref a4, .ref a5, .int (nI n)])), (a1, .inl (cJ, 32, .inr (.inl (vp_updL f1 j (f1 n))))), (a2, .inl (cI, 32, .inl (upd f2 j (f2 n)))), (a3, .inl (cI, 32, .inl (upd f3 j (f3 n)))), (a4, .inl (cI, 32, .inl (upd f4 j (f4 n)))), (a5, .inl (cI, 32, .inl (upd f5 j (f5 n))))] := hD
      subst_vars
      refine ck_vr hx hb hr hlocks (Nat.le_of_ble_eq_true rfl) (Nat.le_of_ble_eq_true rfl) dX1_drop_98 () hP hD hS ?_
      exact trivial
    · skip
      have c_9 : ¬ (j < (n + 1)) := fun z => c_9 ((nI_ltI (by omega) (by omega)).mpr z)
      omega
theorem ck_m1lt {i : Nat} (h : i < 2 ^ 30) : nI i - 1 < 0 ↔ i = 0 := by
  have e : (1 : Int32) = nI 1 := rfl
  rw [Int32.lt_iff_toInt_lt, e, pk_sub_toInt h (by decide), Int32.toInt_zero]
  omega
theorem ck_swapR (f1 : Nat → Int64) (f2 f3 f4 f5 : Nat → Int32) (n j : Nat) : ∀ q, ck_R (vp_updL f1 j (f1 n)) (upd f2 j (f2 n)) (upd f3 j (f3 n)) (upd f4 j (f4 n)) (upd f5 j (f5 n)) q = if q = j then ck_R f1 f2 f3 f4 f5 n else ck_R f1 f2 f3 f4 f5 q := by
  intro q
  unfold ck_R vp_updL upd
  by_cases h : q = j <;> simp [h]
set_option maxRecDepth 20000 in
theorem k_X1_dropOld_f28 : (.fieldLink RX1 28 "CookieListener$Halves" "count" "I" : Cond) ∈ wsX1_dropOld := by decide +kernel
set_option maxRecDepth 20000 in
theorem k_X1_dropOld_in1 : ∀ w ∈ u_ws RX1 TX1 6, w ∈ wsX1_dropOld := by decide +kernel
set_option maxRecDepth 20000 in
theorem k_X1_dropOld_f25 : (.fieldLink RX1 25 "CookieListener$Halves" "asked" "[I" : Cond) ∈ wsX1_dropOld := by decide +kernel
set_option maxHeartbeats 4000000 in
set_option maxRecDepth 100000 in
theorem c_X1_dropOld (l : Launch) (dC : Nat → ClassId) (dI : Nat → Nat → Nat) (cI cJ cZ : ClassId) (lo sz : Nat) (h a1 a2 a3 a4 a5 : Nat) (n : Nat) (f1 : Nat → Int64) (f2 f3 f4 f5 : Nat → Int32) (now : Int32) (hn : n ≤ 32) : Met l yX1_dropOld wsX1_dropOld ({ frames := 1, cells := 0, slots := 0, locals := 21 } : Room) (va_Pc [.ref h, .int now] (ck_P (dC, dI) [(cI, .int), (cJ, .long), (cZ, .boolean)] lo sz [(h, .inr (1, [.ref a1, .ref a2, .ref a3, .ref a4, .ref a5, .int (nI n)])), (a1, .inl (cJ, 32, .inr (.inl f1))), (a2, .inl (cI, 32, .inl f2)), (a3, .inl (cI, 32, .inl f3)), (a4, .inl (cI, 32, .inl f4)), (a5, .inl (cI, 32, .inl f5))])) (va_Qv (fun (u : Nat × (Nat → Int64) × (Nat → Int32) × (Nat → Int32) × (Nat → Int32) × (Nat → Int32)) => u.1 ≤ n ∧ (ck_L u.1 (ck_R u.2.1 u.2.2.1 u.2.2.2.1 u.2.2.2.2.1 u.2.2.2.2.2)).Perm ((ck_L n (ck_R f1 f2 f3 f4 f5)).filter (ck_yng now))) (fun u => ck_B (dC, dI) vwCl (va_A [(h, .inr (1, [.ref a1, .ref a2, .ref a3, .ref a4, .ref a5, .int (nI n)])), (a1, .inl (cJ, 32, .inr (.inl f1))), (a2, .inl (cI, 32, .inl f2)), (a3, .inl (cI, 32, .inl f3)), (a4, .inl (cI, 32, .inl f4)), (a5, .inl (cI, 32, .inl f5))] sz) ((fun u : Nat × (Nat → Int64) × (Nat → Int32) × (Nat → Int32) × (Nat → Int32) × (Nat → Int32) => ([(h, .inr (1, [.ref a1, .ref a2, .ref a3, .ref a4, .ref a5, .int (nI u.1)])), (a1, .inl (cJ, 32, .inr (.inl u.2.1))), (a2, .inl (cI, 32, .inl u.2.2.1)), (a3, .inl (cI, 32, .inl u.2.2.2.1)), (a4, .inl (cI, 32, .inl u.2.2.2.2.1)), (a5, .inl (cI, 32, .inl u.2.2.2.2.2))] : va_W)) u)) (va_A [(h, .inr (1, [.ref a1, .ref a2, .ref a3, .ref a4, .ref a5, .int (nI n)])), (a1, .inl (cJ, 32, .inr (.inl f1))), (a2, .inl (cI, 32, .inl f2)), (a3, .inl (cI, 32, .inl f3)), (a4, .inl (cI, 32, .inl f4)), (a5, .inl (cI, 32, .inl f5))] sz)) 0 0 (va_A [(h, .inr (1, [.ref a1, .ref a2, .ref a3, .ref a4, .ref a5, .int (nI n)])), (a1, .inl (cJ, 32, .inr (.inl f1))), (a2, .inl (cI, 32, .inl f2)), (a3, .inl (cI, 32, .inl f3)), (a4, .inl (cI, 32, .inl f4)), (a5, .inl (cI, 32, .inl f5))] sz) := by
  refine Met.ofW (cc := cX1_dropOld) (maxL := 3) (ret := none) (by decide) rfl ?_
  intro p e s m args below meth c s₁ B hml hv
  obtain ⟨rfl, hsz, hP, hK, hD0, hE⟩ := hv
  have hx := B.exec
  have hb := B.bytes
  have hr := B.returns
  have hts := atoms_spec (ws := wsX1_dropOld) B.pre
  have hown : s.vm.findClass RX1 = some m.cls := findClass_of_methodNamed B.named
  have hlocks := B.notSynchronized
  subst hsz
  have hD := hD0.self (sz := s.heap.size)
  have hlo := ck_lo (sz := s.heap.size) hD0 hE.1
  generalize hAe : va_A [(h, .inr (1, [.ref a1, .ref a2, .ref a3, .ref a4, .ref a5, .int (nI n)])), (a1, .inl (cJ, 32, .inr (.inl f1))), (a2, .inl (cI, 32, .inl f2)), (a3, .inl (cI, 32, .inl f3)), (a4, .inl (cI, 32, .inl f4)), (a5, .inl (cI, 32, .inl f5))] s.heap.size = A at hD hlo ⊢
  have hA : ∀ q : Nat, s.heap.size ≤ q → A q := fun q h => by rw [← hAe]; exact Or.inr h
  have hG : ck_G (dC, dI) [(cI, .int), (cJ, .long), (cZ, .boolean)] lo A s := ⟨hK, hE, hA, hlo⟩
  have hS : va_S A s.heap s.heap [] := va_S.rf
  have hP : va_P (dC, dI) vwCl [(h, .inr (1, [.ref a1, .ref a2, .ref a3, .ref a4, .ref a5, .int (nI n)])), (a1, .inl (cJ, 32, .inr (.inl f1))), (a2, .inl (cI, 32, .inl f2)), (a3, .inl (cI, 32, .inl f3)), (a4, .inl (cI, 32, .inl f4)), (a5, .inl (cI, 32, .inl f5))] s.heap := hP
  have hl := lv_entry ([.ref h, .int now]) (n := 3) (Nat.le_of_ble_eq_true rfl)
  rw [lg_entry_eq]
  generalize (lg_sl ([.ref h, .int now]) ++ List.replicate (3 - (lg_sl ([.ref h, .int now])).length) Slot.unset).toArray = ls at hl ⊢
  have hl : lv_has ls 3 [(0, .ref h), (1, .int now)] := hl
  refine lv_aload_n hx hb dX1_dropOld_0 rfl (lv_at hl 0 rfl) ?_
  refine va_get (D := (dC, dI)) (ci := 1) (v := .int (nI n)) (C := RX1) (T := TX1) (N := 6) hx hb hts (k_X1_dropOld_in1) hown hK hP 0 rfl rfl 5 (by decide) (hts _ k_X1_dropOld_f28) (fun _ h9 => h9) rfl dX1_dropOld_1 ?_
  refine lv_iconst (v := 1) hx hb dX1_dropOld_4 (by decide) ?_
  refine lv_isub hx hb dX1_dropOld_5 ?_
  refine lv_istore_n (lv' := [(2, .int ((nI n) - 1)), (0, .ref h), (1, .int now)]) hx hb dX1_dropOld_6 rfl hl (by decide) rfl (fun ls hl => ?_)
  have hloop : ∀ (fu : Nat) (i : Nat) (n3 : Nat) (y1 : Nat → Int64) (y2 : Nat → Int32) (y3 : Nat → Int32) (y4 : Nat → Int32) (y5 : Nat → Int32), (i < fu) → (ck_old (ck_yng now) n (ck_R f1 f2 f3 f4 f5) i n3 (ck_R y1 y2 y3 y4 y5)) → ∀ (H : Heap) (locs : List Loc) (ls : Array Slot), va_P (dC, dI) vwCl [(h, .inr (1, [.ref a1, .ref a2, .ref a3, .ref a4, .ref a5, .int (nI n3)])), (a1, .inl (cJ, 32, .inr (.inl y1))), (a2, .inl (cI, 32, .inl y2)), (a3, .inl (cI, 32, .inl y3)), (a4, .inl (cI, 32, .inl y4)), (a5, .inl (cI, 32, .inl y5))] H → va_D A [(h, .inr (1, [.ref a1, .ref a2, .ref a3, .ref a4, .ref a5, .int (nI n3)])), (a1, .inl (cJ, 32, .inr (.inl y1))), (a2, .inl (cI, 32, .inl y2)), (a3, .inl (cI, 32, .inl y3)), (a4, .inl (cI, 32, .inl y4)), (a5, .inl (cI, 32, .inl y5))] → va_S A s.heap H locs → lv_has ls 3 [(0, .ref h), (1, .int now), (2, .int (nI i - 1))] → W p l e (headSpec wsX1_dropOld ({ frames := 1, cells := 0, slots := 0, locals := 21 } : Room)).room s m (([.ref h, .int now] : List Value).toArray) below meth c H locs 0 0 (MQ below (va_Qv (fun (u : Nat × (Nat → Int64) × (Nat → Int32) × (Nat → Int32) × (Nat → Int32) × (Nat → Int32)) => u.1 ≤ n ∧ (ck_L u.1 (ck_R u.2.1 u.2.2.1 u.2.2.2.1 u.2.2.2.2.1 u.2.2.2.2.2)).Perm ((ck_L n (ck_R f1 f2 f3 f4 f5)).filter (ck_yng now))) (fun u => ck_B (dC, dI) vwCl A ((fun u : Nat × (Nat → Int64) × (Nat → Int32) × (Nat → Int32) × (Nat → Int32) × (Nat → Int32) => ([(h, .inr (1, [.ref a1, .ref a2, .ref a3, .ref a4, .ref a5, .int (nI u.1)])), (a1, .inl (cJ, 32, .inr (.inl u.2.1))), (a2, .inl (cI, 32, .inl u.2.2.1)), (a3, .inl (cI, 32, .inl u.2.2.2.1)), (a4, .inl (cI, 32, .inl u.2.2.2.2.1)), (a5, .inl (cI, 32, .inl u.2.2.2.2.2))] : va_W)) u)) A) (([.ref h, .int now] : List Value).toArray) s 0 0 A) (F0 m 7 ls []) := by
    intro fu
    induction fu with
    | zero =>
      intro i n3 y1 y2 y3 y4 y5 hf ho
      exfalso
      omega
    | succ fu ih =>
      intro i n3 y1 y2 y3 y4 y5 hf ho H locs ls hP hD hS hl
      have ho1 := ho.1
      have ho2 := ho.2.1
      refine lv_iload_n hx hb dX1_dropOld_7 rfl (lv_at hl 2 rfl) ?_
      refine lv_if_lt (tgt := 35) hx hb dX1_dropOld_8 (by decide) (fun c_8 => ?_) (fun c_8 => ?_)
      · skip
        refine ck_vr hx hb hr hlocks (Nat.le_of_ble_eq_true rfl) (Nat.le_of_ble_eq_true rfl) dX1_dropOld_35 (n3, y1, y2, y3, y4, y5) hP hD hS ?_
        have e9 : i = 0 := (ck_m1lt (by omega)).mp c_8
        rw [e9] at ho
        exact ck_old_end ho
      · skip
        obtain ⟨i0, rfl⟩ : ∃ i0, i = i0 + 1 := ⟨i - 1, by have h9 : i ≠ 0 := fun z => c_8 ((ck_m1lt (by omega)).mpr z); omega⟩
        rw [nI_pred] at hl
        refine lv_iload_n hx hb dX1_dropOld_11 rfl (lv_at hl 1 rfl) ?_
        refine lv_aload_n hx hb dX1_dropOld_12 rfl (lv_at hl 0 rfl) ?_
        refine va_get (D := (dC, dI)) (ci := 1) (v := .ref a5) (C := RX1) (T := TX1) (N := 6) hx hb hts (k_X1_dropOld_in1) hown hK hP 0 rfl rfl 4 (by decide) (hts _ k_X1_dropOld_f25) (fun _ h9 => h9) rfl dX1_dropOld_13 ?_
        refine lv_iload_n hx hb dX1_dropOld_16 rfl (lv_at hl 2 rfl) ?_
        refine ck_iald hx hb hK hP 5 0 rfl rfl (by omega) (by decide) dX1_dropOld_17 ?_
        refine lv_isub hx hb dX1_dropOld_18 ?_
        refine lv_bipush (v := 60) hx hb dX1_dropOld_19 (by decide) ?_
        refine lv_icmp_lt (tgt := 29) hx hb dX1_dropOld_21 (by decide) (fun c_21 => ?_) (fun c_21 => ?_)
        · skip
          refine lv_iinc (v := nI i0 - 1) (lv' := [(2, .int (nI i0 - 1)), (0, .ref h), (1, .int now)]) hx hb dX1_dropOld_29 hl (k := 2) rfl ((Int32.sub_eq_add_neg _ 1).symm) (by decide) rfl (fun ls hl => ?_)
          refine lv_goto (tgt := 7) hx hb dX1_dropOld_32 (by decide) ?_
          exact ih i0 n3 y1 y2 y3 y4 y5 (by omega) (ck_old_keep ho (decide_eq_true c_21)) _ _ _ (hP.sub [0, 1, 2, 3, 4, 5] rfl) (hD.sub [0, 1, 2, 3, 4, 5] (by decide) rfl) hS (lv_sub hl [1, 2, 0] rfl)
        · skip
          obtain ⟨n4, rfl⟩ : ∃ n4, n3 = n4 + 1 := ⟨n3 - 1, by omega⟩
          refine lv_aload_n hx hb dX1_dropOld_24 rfl (lv_at hl 0 rfl) ?_
          refine lv_iload_n hx hb dX1_dropOld_25 rfl (lv_at hl 2 rfl) ?_
          refine ck_cv (wr := []) (va_runV (As := [.int (nI i0)]) (rest := []) ⟨hx, hb, hml, hown, hts⟩ (c_X1_drop l dC dI cI cJ cZ lo _ h a1 a2 a3 a4 a5 n4 y1 y2 y3 y4 y5 i0 (by first | assumption | omega) (by first | assumption | omega)) (cwV 1 hts gX1_dropOld_X1_drop rfl rfl rfl (by decide +kernel) ⟨(Nat.le_of_ble_eq_true rfl), (Nat.le_of_ble_eq_true rfl)⟩) ⟨ck_blind, va_recv hK hP (ci := 1) (q0 := 0) rfl rfl, (ck_pre hG hP hD hS [0, 1, 2, 3, 4, 5] rfl (by decide) _)⟩ rfl rfl hl.1 rfl (lv_room (Nat.le_of_ble_eq_true rfl)) dX1_dropOld_26 ⟨(Nat.le_of_ble_eq_true rfl), (Nat.le_of_ble_eq_true rfl)⟩) hP hD hS hA [0, 1, 2, 3, 4, 5] [] rfl rfl (by decide) (by decide) (fun u H locs hw_1 hP hD hS => ?_)
          have hP : va_P (dC, dI) vwCl [(h, .inr (1, [.ref a1, .ref a2, .ref a3, .ref a4, .ref a5, .int (nI n4)])), (a1, .inl (cJ, 32, .inr (.inl (vp_updL y1 i0 (y1 n4))))), (a2, .inl (cI, 32, .inl (upd y2 i0 (y2 n4)))), (a3, .inl (cI, 32, .inl (upd y3 i0 (y3 n4)))), (a4, .inl (cI, 32, .inl (upd y4 i0 (y4 n4)))), (a5, .inl (cI, 32, .inl (upd y5 i0 (y5 n4))))] H := hP
          have hD : va_D A [(h, .inr (1, [.ref a1, .ref a2, .ref a3, .ref a4, .ref a5, .int (nI n4)])), (a1, .inl (cJ, 32, .inr (.inl (vp_updL y1 i0 (y1 n4))))), (a2, .inl (cI, 32, .inl (upd y2 i0 (y2 n4)))), (a3, .inl (cI, 32, .inl (upd y3 i0 (y3 n4)))), (a4, .inl (cI, 32, .inl (upd y4 i0 (y4 n4)))), (a5, .inl (cI, 32, .inl (upd y5 i0 (y5 n4))))] := hD
          refine lv_iinc (v := nI i0 - 1) (lv' := [(2, .int (nI i0 - 1)), (0, .ref h), (1, .int now)]) hx hb dX1_dropOld_29 hl (k := 2) rfl ((Int32.sub_eq_add_neg _ 1).symm) (by decide) rfl (fun ls hl => ?_)
          refine lv_goto (tgt := 7) hx hb dX1_dropOld_32 (by decide) ?_
          exact ih i0 n4 (vp_updL y1 i0 (y1 n4)) (upd y2 i0 (y2 n4)) (upd y3 i0 (y3 n4)) (upd y4 i0 (y4 n4)) (upd y5 i0 (y5 n4)) (by omega) (ck_old_drop ho (fun h => c_21 (of_decide_eq_true h)) (ck_gone_swap (by omega) (ck_swapR _ _ _ _ _ _ _))) _ _ _ (hP.sub [0, 1, 2, 3, 4, 5] rfl) (hD.sub [0, 1, 2, 3, 4, 5] (by decide) rfl) hS (lv_sub hl [1, 2, 0] rfl)
  exact hloop (n + 1) n n f1 f2 f3 f4 f5 (by omega) (ck_old0) _ _ _ (hP.sub [0, 1, 2, 3, 4, 5] rfl) (hD.sub [0, 1, 2, 3, 4, 5] (by decide) rfl) hS (lv_sub hl [1, 2, 0] rfl)
set_option maxRecDepth 20000 in
theorem k_X0_init_l3 : (.methodLink RX0 3 objectInit : Cond) ∈ wsX0_init := by decide +kernel
set_option maxRecDepth 20000 in
theorem k_X0_init_mObj : (.instanceMethod objectInit : Cond) ∈ wsX0_init := by decide +kernel
set_option maxRecDepth 20000 in
theorem k_X0_init_cObj : (.code objectInit ⟨#[0xb1]⟩ 1 none : Cond) ∈ wsX0_init := by decide +kernel
set_option maxRecDepth 20000 in
theorem k_X0_init_along : (.arrayClass .long : Cond) ∈ wsX0_init := by decide +kernel
set_option maxRecDepth 20000 in
theorem k_X0_init_f9 : (.fieldLink RX0 9 "CookieListener$Connections" "callers" "[J" : Cond) ∈ wsX0_init := by decide +kernel
set_option maxRecDepth 20000 in
theorem k_X0_init_in0 : ∀ w ∈ u_ws RX0 TX0 4, w ∈ wsX0_init := by decide +kernel
set_option maxRecDepth 20000 in
theorem k_X0_init_aint : (.arrayClass .int : Cond) ∈ wsX0_init := by decide +kernel
set_option maxRecDepth 20000 in
theorem k_X0_init_f15 : (.fieldLink RX0 15 "CookieListener$Connections" "kinds" "[I" : Cond) ∈ wsX0_init := by decide +kernel
set_option maxRecDepth 20000 in
theorem k_X0_init_f19 : (.fieldLink RX0 19 "CookieListener$Connections" "count" "I" : Cond) ∈ wsX0_init := by decide +kernel
set_option maxRecDepth 20000 in
theorem k_X0_init_f23 : (.fieldLink RX0 23 "CookieListener$Connections" "taken" "I" : Cond) ∈ wsX0_init := by decide +kernel
set_option maxHeartbeats 4000000 in
set_option maxRecDepth 100000 in
theorem c_X0_init (l : Launch) (dC : Nat → ClassId) (dI : Nat → Nat → Nat) (cI cJ cZ : ClassId) (lo sz : Nat) (cn : Nat) : Met l yX0_init wsX0_init ({ frames := 1, cells := 2, slots := 128, locals := 12 } : Room) (va_Pc [.ref cn] (ck_P (dC, dI) [(cI, .int), (cJ, .long), (cZ, .boolean)] lo sz [(cn, .inr (0, [.null, .null, .int 0, .int 0]))])) (va_Qv (fun (u : Nat × Nat) => True) (fun u => ck_B (dC, dI) vwCl (va_A [(cn, .inr (0, [.null, .null, .int 0, .int 0]))] sz) ((fun u : Nat × Nat => ([(cn, .inr (0, [.ref u.1, .ref u.2, .int (nI 0), .int (nI 0)])), (u.1, .inl (cJ, 64, .inr (.inl (fun _ => 0)))), (u.2, .inl (cI, 64, .inl (fun _ => 0)))] : va_W)) u)) (va_A [(cn, .inr (0, [.null, .null, .int 0, .int 0]))] sz)) 2 128 (va_A [(cn, .inr (0, [.null, .null, .int 0, .int 0]))] sz) := by
  refine Met.ofW (cc := cX0_init) (maxL := 1) (ret := none) (by decide) rfl ?_
  intro p e s m args below meth c s₁ B hml hv
  obtain ⟨rfl, hsz, hP, hK, hD0, hE⟩ := hv
  have hx := B.exec
  have hb := B.bytes
  have hr := B.returns
  have hts := atoms_spec (ws := wsX0_init) B.pre
  have hown : s.vm.findClass RX0 = some m.cls := findClass_of_methodNamed B.named
  have hlocks := B.notSynchronized
  have hin : meth.name = "<init>" := (name_of_methodNamed B.named B.method).1
  subst hsz
  have hD := hD0.self (sz := s.heap.size)
  have hlo := ck_lo (sz := s.heap.size) hD0 hE.1
  generalize hAe : va_A [(cn, .inr (0, [.null, .null, .int 0, .int 0]))] s.heap.size = A at hD hlo ⊢
  have hA : ∀ q : Nat, s.heap.size ≤ q → A q := fun q h => by rw [← hAe]; exact Or.inr h
  have hG : ck_G (dC, dI) [(cI, .int), (cJ, .long), (cZ, .boolean)] lo A s := ⟨hK, hE, hA, hlo⟩
  have hS : va_S A s.heap s.heap [] := va_S.rf
  have hP : va_P (dC, dI) vwCl [(cn, .inr (0, [.null, .null, .int 0, .int 0]))] s.heap := hP
  have hl := lv_entry ([.ref cn]) (n := 1) (Nat.le_of_ble_eq_true rfl)
  rw [lg_entry_eq]
  generalize (lg_sl ([.ref cn]) ++ List.replicate (1 - (lg_sl ([.ref cn])).length) Slot.unset).toArray = ls at hl ⊢
  have hl : lv_has ls 1 [(0, .ref cn)] := hl
  refine lv_aload_n hx hb dX0_init_0 rfl (lv_at hl 0 rfl) ?_
  refine W.objInit hx hb hown (hts _ k_X0_init_l3) (hts _ k_X0_init_mObj) (hts _ k_X0_init_cObj) rfl (by rw [hml]; exact hl.1) rfl dX0_init_1 (Nat.le_of_ble_eq_true rfl) (Nat.le_of_ble_eq_true rfl) ?_
  refine W.eq (g2 := F0 m 4 ls []) rfl ?_
  refine lv_aload_n hx hb dX0_init_4 rfl (lv_at hl 0 rfl) ?_
  refine lv_bipush (v := 64) hx hb dX0_init_5 (by decide) ?_
  refine ck_newa (atype := .long) (ty := .long) (a0 := (64, .inr (.inl (fun _ => 0)))) (N' := 64) hx hb (hts _ k_X0_init_along) rfl (by intro C h; cases h) hK hP hD hS hA 1 rfl (fun _ => rfl) (by decide) (by decide) (by decide) (Nat.le_of_ble_eq_true rfl) (Nat.le_of_ble_eq_true rfl) dX0_init_7 (fun q_1 H hP hD hS => ?_)
  refine W.widen (k := 1) (n := 64) (by omega) (by omega) ?_
  have hP : va_P (dC, dI) vwCl [(cn, .inr (0, [.null, .null, .int 0, .int 0])), (q_1, .inl (cJ, 64, .inr (.inl (fun _ => 0))))] H := hP
  have hD : va_D A [(cn, .inr (0, [.null, .null, .int 0, .int 0])), (q_1, .inl (cJ, 64, .inr (.inl (fun _ => 0))))] := hD
  refine va_putF (D := (dC, dI)) (ci := 0) (v := .ref q_1) (ty := .array .long) (C := RX0) (T := TX0) (N := 4) hx hb hts (k_X0_init_in0) tyX0 tyX0_ok nmX0 hown hK hP hD hS 0 rfl rfl 0 (by decide) (hts _ k_X0_init_f9) (fun _ h9 => h9) rfl hin rfl (by decide +kernel) rfl rfl (Nat.le_of_ble_eq_true rfl) dX0_init_9 (fun H locs hP hD hS => ?_)
  have hP : va_P (dC, dI) vwCl [(cn, .inr (0, [.ref q_1, .null, .int 0, .int 0])), (q_1, .inl (cJ, 64, .inr (.inl (fun _ => 0))))] H := hP
  have hD : va_D A [(cn, .inr (0, [.ref q_1, .null, .int 0, .int 0])), (q_1, .inl (cJ, 64, .inr (.inl (fun _ => 0))))] := hD
  refine lv_aload_n hx hb dX0_init_12 rfl (lv_at hl 0 rfl) ?_
  refine lv_bipush (v := 64) hx hb dX0_init_13 (by decide) ?_
  refine ck_newa (atype := .int) (ty := .int) (a0 := (64, .inl (fun _ => 0))) (N' := 64) hx hb (hts _ k_X0_init_aint) rfl (by intro C h; cases h) hK hP hD hS hA 0 rfl (fun _ => rfl) (by decide) (by decide) (by decide) (Nat.le_of_ble_eq_true rfl) (Nat.le_of_ble_eq_true rfl) dX0_init_15 (fun q_2 H hP hD hS => ?_)
  refine W.widen (k := 2) (n := 128) (by omega) (by omega) ?_
  have hP : va_P (dC, dI) vwCl [(cn, .inr (0, [.ref q_1, .null, .int 0, .int 0])), (q_1, .inl (cJ, 64, .inr (.inl (fun _ => 0)))), (q_2, .inl (cI, 64, .inl (fun _ => 0)))] H := hP
  have hD : va_D A [(cn, .inr (0, [.ref q_1, .null, .int 0, .int 0])), (q_1, .inl (cJ, 64, .inr (.inl (fun _ => 0)))), (q_2, .inl (cI, 64, .inl (fun _ => 0)))] := hD
  refine va_putF (D := (dC, dI)) (ci := 0) (v := .ref q_2) (ty := .array .int) (C := RX0) (T := TX0) (N := 4) hx hb hts (k_X0_init_in0) tyX0 tyX0_ok nmX0 hown hK hP hD hS 0 rfl rfl 1 (by decide) (hts _ k_X0_init_f15) (fun _ h9 => h9) rfl hin rfl (by decide +kernel) rfl rfl (Nat.le_of_ble_eq_true rfl) dX0_init_17 (fun H locs hP hD hS => ?_)
  have hP : va_P (dC, dI) vwCl [(cn, .inr (0, [.ref q_1, .ref q_2, .int 0, .int 0])), (q_1, .inl (cJ, 64, .inr (.inl (fun _ => 0)))), (q_2, .inl (cI, 64, .inl (fun _ => 0)))] H := hP
  have hD : va_D A [(cn, .inr (0, [.ref q_1, .ref q_2, .int 0, .int 0])), (q_1, .inl (cJ, 64, .inr (.inl (fun _ => 0)))), (q_2, .inl (cI, 64, .inl (fun _ => 0)))] := hD
  refine lv_aload_n hx hb dX0_init_20 rfl (lv_at hl 0 rfl) ?_
  refine lv_iconst (v := nI 0) hx hb dX0_init_21 (by decide) ?_
  refine va_put (D := (dC, dI)) (ci := 0) (v := .int (nI 0)) (ty := .int) (C := RX0) (T := TX0) (N := 4) hx hb hts (k_X0_init_in0) tyX0 tyX0_ok nmX0 hown hK hP hD hS 0 rfl rfl 2 (by decide) (hts _ k_X0_init_f19) (fun _ h9 => h9) rfl (by decide +kernel) rfl rfl (Nat.le_of_ble_eq_true rfl) dX0_init_22 (fun H locs hP hD hS => ?_)
  have hP : va_P (dC, dI) vwCl [(cn, .inr (0, [.ref q_1, .ref q_2, .int (nI 0), .int 0])), (q_1, .inl (cJ, 64, .inr (.inl (fun _ => 0)))), (q_2, .inl (cI, 64, .inl (fun _ => 0)))] H := hP
  have hD : va_D A [(cn, .inr (0, [.ref q_1, .ref q_2, .int (nI 0), .int 0])), (q_1, .inl (cJ, 64, .inr (.inl (fun _ => 0)))), (q_2, .inl (cI, 64, .inl (fun _ => 0)))] := hD
  refine lv_aload_n hx hb dX0_init_25 rfl (lv_at hl 0 rfl) ?_
  refine lv_iconst (v := nI 0) hx hb dX0_init_26 (by decide) ?_
  refine va_put (D := (dC, dI)) (ci := 0) (v := .int (nI 0)) (ty := .int) (C := RX0) (T := TX0) (N := 4) hx hb hts (k_X0_init_in0) tyX0 tyX0_ok nmX0 hown hK hP hD hS 0 rfl rfl 3 (by decide) (hts _ k_X0_init_f23) (fun _ h9 => h9) rfl (by decide +kernel) rfl rfl (Nat.le_of_ble_eq_true rfl) dX0_init_27 (fun H locs hP hD hS => ?_)
  have hP : va_P (dC, dI) vwCl [(cn, .inr (0, [.ref q_1, .ref q_2, .int (nI 0), .int (nI 0)])), (q_1, .inl (cJ, 64, .inr (.inl (fun _ => 0)))), (q_2, .inl (cI, 64, .inl (fun _ => 0)))] H := hP
  have hD : va_D A [(cn, .inr (0, [.ref q_1, .ref q_2, .int (nI 0), .int (nI 0)])), (q_1, .inl (cJ, 64, .inr (.inl (fun _ => 0)))), (q_2, .inl (cI, 64, .inl (fun _ => 0)))] := hD
  refine ck_vr hx hb hr hlocks (Nat.le_of_ble_eq_true rfl) (Nat.le_of_ble_eq_true rfl) dX0_init_30 (q_1, q_2) hP hD hS ?_
  exact trivial
set_option maxRecDepth 20000 in
theorem k_X0_waiting_f19 : (.fieldLink RX0 19 "CookieListener$Connections" "count" "I" : Cond) ∈ wsX0_waiting := by decide +kernel
set_option maxRecDepth 20000 in
theorem k_X0_waiting_in0 : ∀ w ∈ u_ws RX0 TX0 4, w ∈ wsX0_waiting := by decide +kernel
set_option maxRecDepth 20000 in
theorem k_X0_waiting_f23 : (.fieldLink RX0 23 "CookieListener$Connections" "taken" "I" : Cond) ∈ wsX0_waiting := by decide +kernel
set_option maxHeartbeats 4000000 in
set_option maxRecDepth 100000 in
theorem c_X0_waiting (l : Launch) (dC : Nat → ClassId) (dI : Nat → Nat → Nat) (cI cJ cZ : ClassId) (lo sz : Nat) (cn b1 b2 : Nat) (k t : Nat) (g1 : Nat → Int64) (g2 : Nat → Int32) (ht : t ≤ k) (hk : k ≤ 64) : Met l yX0_waiting wsX0_waiting ({ frames := 0, cells := 0, slots := 0, locals := 0 } : Room) (va_Pc [.ref cn] (ck_P (dC, dI) [(cI, .int), (cJ, .long), (cZ, .boolean)] lo sz [(cn, .inr (0, [.ref b1, .ref b2, .int (nI k), .int (nI t)])), (b1, .inl (cJ, 64, .inr (.inl g1))), (b2, .inl (cI, 64, .inl g2))])) (vp_Si (fun (r : Int32) => r = nI (k - t))) 0 0 (fun _ => False) := by
  refine Met.ofW (cc := cX0_waiting) (maxL := 1) (ret := (some .int)) (by decide) rfl ?_
  intro p e s m args below meth c s₁ B hml hv
  obtain ⟨rfl, hsz, hP, hK, hD0, hE⟩ := hv
  have hx := B.exec
  have hb := B.bytes
  have hr := B.returns
  have hts := atoms_spec (ws := wsX0_waiting) B.pre
  have hown : s.vm.findClass RX0 = some m.cls := findClass_of_methodNamed B.named
  have hlocks := B.notSynchronized
  subst hsz
  have hD := hD0.self (sz := s.heap.size)
  have hlo := ck_lo (sz := s.heap.size) hD0 hE.1
  generalize hAe : va_A [(cn, .inr (0, [.ref b1, .ref b2, .int (nI k), .int (nI t)])), (b1, .inl (cJ, 64, .inr (.inl g1))), (b2, .inl (cI, 64, .inl g2))] s.heap.size = A at hD hlo
  have hA : ∀ q : Nat, s.heap.size ≤ q → A q := fun q h => by rw [← hAe]; exact Or.inr h
  have hG : ck_G (dC, dI) [(cI, .int), (cJ, .long), (cZ, .boolean)] lo A s := ⟨hK, hE, hA, hlo⟩
  have hS : va_S A s.heap s.heap [] := va_S.rf
  have hP : va_P (dC, dI) vwCl [(cn, .inr (0, [.ref b1, .ref b2, .int (nI k), .int (nI t)])), (b1, .inl (cJ, 64, .inr (.inl g1))), (b2, .inl (cI, 64, .inl g2))] s.heap := hP
  have hl := lv_entry ([.ref cn]) (n := 1) (Nat.le_of_ble_eq_true rfl)
  rw [lg_entry_eq]
  generalize (lg_sl ([.ref cn]) ++ List.replicate (1 - (lg_sl ([.ref cn])).length) Slot.unset).toArray = ls at hl ⊢
  have hl : lv_has ls 1 [(0, .ref cn)] := hl
  refine lv_aload_n hx hb dX0_waiting_0 rfl (lv_at hl 0 rfl) ?_
  refine va_get (D := (dC, dI)) (ci := 0) (v := .int (nI k)) (C := RX0) (T := TX0) (N := 4) hx hb hts (k_X0_waiting_in0) hown hK hP 0 rfl rfl 2 (by decide) (hts _ k_X0_waiting_f19) (fun _ h9 => h9) rfl dX0_waiting_1 ?_
  refine lv_aload_n hx hb dX0_waiting_4 rfl (lv_at hl 0 rfl) ?_
  refine va_get (D := (dC, dI)) (ci := 0) (v := .int (nI t)) (C := RX0) (T := TX0) (N := 4) hx hb hts (k_X0_waiting_in0) hown hK hP 0 rfl rfl 3 (by decide) (hts _ k_X0_waiting_f23) (fun _ h9 => h9) rfl dX0_waiting_5 ?_
  refine lv_isub hx hb dX0_waiting_8 ?_
  refine ck_iq hx hb hr hlocks dX0_waiting_9 ?_
  exact pk_sub ht
set_option maxRecDepth 20000 in
theorem k_X0_isTaken_f23 : (.fieldLink RX0 23 "CookieListener$Connections" "taken" "I" : Cond) ∈ wsX0_isTaken := by decide +kernel
set_option maxRecDepth 20000 in
theorem k_X0_isTaken_in0 : ∀ w ∈ u_ws RX0 TX0 4, w ∈ wsX0_isTaken := by decide +kernel
set_option maxHeartbeats 4000000 in
set_option maxRecDepth 100000 in
theorem c_X0_isTaken (l : Launch) (dC : Nat → ClassId) (dI : Nat → Nat → Nat) (cI cJ cZ : ClassId) (lo sz : Nat) (cn b1 b2 : Nat) (k t : Nat) (g1 : Nat → Int64) (g2 : Nat → Int32) (j : Nat) (hj : j < 64) (hk : k ≤ 64) (ht : t ≤ k) : Met l yX0_isTaken wsX0_isTaken ({ frames := 0, cells := 0, slots := 0, locals := 0 } : Room) (va_Pc [.ref cn, .int (nI j)] (ck_P (dC, dI) [(cI, .int), (cJ, .long), (cZ, .boolean)] lo sz [(cn, .inr (0, [.ref b1, .ref b2, .int (nI k), .int (nI t)])), (b1, .inl (cJ, 64, .inr (.inl g1))), (b2, .inl (cI, 64, .inl g2))])) (vp_Si (fun (r : Int32) => (r = 1 ∧ j < t) ∨ (r = 0 ∧ t ≤ j))) 0 0 (fun _ => False) := by
  refine Met.ofW (cc := cX0_isTaken) (maxL := 2) (ret := (some .boolean)) (by decide) rfl ?_
  intro p e s m args below meth c s₁ B hml hv
  obtain ⟨rfl, hsz, hP, hK, hD0, hE⟩ := hv
  have hx := B.exec
  have hb := B.bytes
  have hr := B.returns
  have hts := atoms_spec (ws := wsX0_isTaken) B.pre
  have hown : s.vm.findClass RX0 = some m.cls := findClass_of_methodNamed B.named
  have hlocks := B.notSynchronized
  subst hsz
  have hD := hD0.self (sz := s.heap.size)
  have hlo := ck_lo (sz := s.heap.size) hD0 hE.1
  generalize hAe : va_A [(cn, .inr (0, [.ref b1, .ref b2, .int (nI k), .int (nI t)])), (b1, .inl (cJ, 64, .inr (.inl g1))), (b2, .inl (cI, 64, .inl g2))] s.heap.size = A at hD hlo
  have hA : ∀ q : Nat, s.heap.size ≤ q → A q := fun q h => by rw [← hAe]; exact Or.inr h
  have hG : ck_G (dC, dI) [(cI, .int), (cJ, .long), (cZ, .boolean)] lo A s := ⟨hK, hE, hA, hlo⟩
  have hS : va_S A s.heap s.heap [] := va_S.rf
  have hP : va_P (dC, dI) vwCl [(cn, .inr (0, [.ref b1, .ref b2, .int (nI k), .int (nI t)])), (b1, .inl (cJ, 64, .inr (.inl g1))), (b2, .inl (cI, 64, .inl g2))] s.heap := hP
  have hl := lv_entry ([.ref cn, .int (nI j)]) (n := 2) (Nat.le_of_ble_eq_true rfl)
  rw [lg_entry_eq]
  generalize (lg_sl ([.ref cn, .int (nI j)]) ++ List.replicate (2 - (lg_sl ([.ref cn, .int (nI j)])).length) Slot.unset).toArray = ls at hl ⊢
  have hl : lv_has ls 2 [(0, .ref cn), (1, .int (nI j))] := hl
  refine lv_iload_n hx hb dX0_isTaken_0 rfl (lv_at hl 1 rfl) ?_
  refine lv_aload_n hx hb dX0_isTaken_1 rfl (lv_at hl 0 rfl) ?_
  refine va_get (D := (dC, dI)) (ci := 0) (v := .int (nI t)) (C := RX0) (T := TX0) (N := 4) hx hb hts (k_X0_isTaken_in0) hown hK hP 0 rfl rfl 3 (by decide) (hts _ k_X0_isTaken_f23) (fun _ h9 => h9) rfl dX0_isTaken_2 ?_
  refine lv_icmp_ge (tgt := 12) hx hb dX0_isTaken_5 (by decide) (fun c_5 => ?_) (fun c_5 => ?_)
  · skip
    have c_5 : t ≤ j := (nI_leI (by omega) (by omega)).mp c_5
    refine lv_iconst (v := 0) hx hb dX0_isTaken_12 (by decide) ?_
    refine ck_zq hx hb hr hlocks (by first | exact Or.inl rfl | exact Or.inr rfl) dX0_isTaken_13 ?_
    exact Or.inr ⟨rfl, c_5⟩
  · skip
    have c_5 : ¬ (t ≤ j) := fun z => c_5 ((nI_leI (by omega) (by omega)).mpr z)
    refine lv_iconst (v := 1) hx hb dX0_isTaken_8 (by decide) ?_
    refine lv_goto (tgt := 13) hx hb dX0_isTaken_9 (by decide) ?_
    refine ck_zq hx hb hr hlocks (by first | exact Or.inl rfl | exact Or.inr rfl) dX0_isTaken_13 ?_
    exact Or.inl ⟨rfl, by omega⟩
set_option maxRecDepth 20000 in
theorem k_X0_hasRoom_f19 : (.fieldLink RX0 19 "CookieListener$Connections" "count" "I" : Cond) ∈ wsX0_hasRoom := by decide +kernel
set_option maxRecDepth 20000 in
theorem k_X0_hasRoom_in0 : ∀ w ∈ u_ws RX0 TX0 4, w ∈ wsX0_hasRoom := by decide +kernel
set_option maxHeartbeats 4000000 in
set_option maxRecDepth 100000 in
theorem c_X0_hasRoom (l : Launch) (dC : Nat → ClassId) (dI : Nat → Nat → Nat) (cI cJ cZ : ClassId) (lo sz : Nat) (cn b1 b2 : Nat) (k t : Nat) (g1 : Nat → Int64) (g2 : Nat → Int32) (room : Int32) (ht : t ≤ k) (hk : k ≤ 64) : Met l yX0_hasRoom wsX0_hasRoom ({ frames := 1, cells := 0, slots := 0, locals := 20 } : Room) (va_Pc [.ref cn, .int room] (ck_P (dC, dI) [(cI, .int), (cJ, .long), (cZ, .boolean)] lo sz [(cn, .inr (0, [.ref b1, .ref b2, .int (nI k), .int (nI t)])), (b1, .inl (cJ, 64, .inr (.inl g1))), (b2, .inl (cI, 64, .inl g2))])) (vp_Si (fun (r : Int32) => (r = 1 ∧ nI (k - t) < room ∧ k < 64) ∨ (r = 0 ∧ ¬ (nI (k - t) < room ∧ k < 64)))) 0 0 (fun _ => False) := by
  refine Met.ofW (cc := cX0_hasRoom) (maxL := 2) (ret := (some .boolean)) (by decide) rfl ?_
  intro p e s m args below meth c s₁ B hml hv
  obtain ⟨rfl, hsz, hP, hK, hD0, hE⟩ := hv
  have hx := B.exec
  have hb := B.bytes
  have hr := B.returns
  have hts := atoms_spec (ws := wsX0_hasRoom) B.pre
  have hown : s.vm.findClass RX0 = some m.cls := findClass_of_methodNamed B.named
  have hlocks := B.notSynchronized
  subst hsz
  have hD := hD0.self (sz := s.heap.size)
  have hlo := ck_lo (sz := s.heap.size) hD0 hE.1
  generalize hAe : va_A [(cn, .inr (0, [.ref b1, .ref b2, .int (nI k), .int (nI t)])), (b1, .inl (cJ, 64, .inr (.inl g1))), (b2, .inl (cI, 64, .inl g2))] s.heap.size = A at hD hlo
  have hA : ∀ q : Nat, s.heap.size ≤ q → A q := fun q h => by rw [← hAe]; exact Or.inr h
  have hG : ck_G (dC, dI) [(cI, .int), (cJ, .long), (cZ, .boolean)] lo A s := ⟨hK, hE, hA, hlo⟩
  have hS : va_S A s.heap s.heap [] := va_S.rf
  have hP : va_P (dC, dI) vwCl [(cn, .inr (0, [.ref b1, .ref b2, .int (nI k), .int (nI t)])), (b1, .inl (cJ, 64, .inr (.inl g1))), (b2, .inl (cI, 64, .inl g2))] s.heap := hP
  have hl := lv_entry ([.ref cn, .int room]) (n := 2) (Nat.le_of_ble_eq_true rfl)
  rw [lg_entry_eq]
  generalize (lg_sl ([.ref cn, .int room]) ++ List.replicate (2 - (lg_sl ([.ref cn, .int room])).length) Slot.unset).toArray = ls at hl ⊢
  have hl : lv_has ls 2 [(0, .ref cn), (1, .int room)] := hl
  refine lv_aload_n hx hb dX0_hasRoom_0 rfl (lv_at hl 0 rfl) ?_
  refine ck_ri (va_runV (As := []) (rest := []) ⟨hx, hb, hml, hown, hts⟩ (c_X0_waiting l dC dI cI cJ cZ lo _ cn b1 b2 k t g1 g2 (by first | assumption | omega) (by first | assumption | omega)) (cwV 0 hts gX0_hasRoom_X0_waiting rfl rfl rfl (by decide +kernel) ⟨(Nat.le_of_ble_eq_true rfl), (Nat.le_of_ble_eq_true rfl)⟩) ⟨ck_blind, va_recv hK hP (ci := 0) (q0 := 0) rfl rfl, (ck_pre hG hP hD hS [0, 1, 2] rfl (by decide) _)⟩ rfl rfl hl.1 rfl (lv_room (Nat.le_of_ble_eq_true rfl)) dX0_hasRoom_1 ⟨(Nat.le_of_ble_eq_true rfl), (Nat.le_of_ble_eq_true rfl)⟩) (fun r_1 hw_1 => ?_)
  have hw_1 : r_1 = nI (k - t) := hw_1
  subst hw_1
  refine lv_iload_n hx hb dX0_hasRoom_4 rfl (lv_at hl 1 rfl) ?_
  refine lv_icmp_ge (tgt := 21) hx hb dX0_hasRoom_5 (by decide) (fun c_5 => ?_) (fun c_5 => ?_)
  · skip
    refine lv_iconst (v := 0) hx hb dX0_hasRoom_21 (by decide) ?_
    refine ck_zq hx hb hr hlocks (by first | exact Or.inl rfl | exact Or.inr rfl) dX0_hasRoom_22 ?_
    exact Or.inr ⟨rfl, fun z => absurd z.1 (Int32.not_lt.mpr c_5)⟩
  · skip
    refine lv_aload_n hx hb dX0_hasRoom_8 rfl (lv_at hl 0 rfl) ?_
    refine va_get (D := (dC, dI)) (ci := 0) (v := .int (nI k)) (C := RX0) (T := TX0) (N := 4) hx hb hts (k_X0_hasRoom_in0) hown hK hP 0 rfl rfl 2 (by decide) (hts _ k_X0_hasRoom_f19) (fun _ h9 => h9) rfl dX0_hasRoom_9 ?_
    refine lv_bipush (v := nI 64) hx hb dX0_hasRoom_12 (by decide) ?_
    refine lv_icmp_ge (tgt := 21) hx hb dX0_hasRoom_14 (by decide) (fun c_14 => ?_) (fun c_14 => ?_)
    · skip
      have c_14 : 64 ≤ k := (nI_leI (by omega) (by omega)).mp c_14
      refine lv_iconst (v := 0) hx hb dX0_hasRoom_21 (by decide) ?_
      refine ck_zq hx hb hr hlocks (by first | exact Or.inl rfl | exact Or.inr rfl) dX0_hasRoom_22 ?_
      exact Or.inr ⟨rfl, fun z => by omega⟩
    · skip
      have c_14 : ¬ (64 ≤ k) := fun z => c_14 ((nI_leI (by omega) (by omega)).mpr z)
      refine lv_iconst (v := 1) hx hb dX0_hasRoom_17 (by decide) ?_
      refine lv_goto (tgt := 22) hx hb dX0_hasRoom_18 (by decide) ?_
      refine ck_zq hx hb hr hlocks (by first | exact Or.inl rfl | exact Or.inr rfl) dX0_hasRoom_22 ?_
      exact Or.inl ⟨rfl, Int32.not_le.mp c_5, by omega⟩
set_option maxRecDepth 20000 in
theorem k_X0_find_f19 : (.fieldLink RX0 19 "CookieListener$Connections" "count" "I" : Cond) ∈ wsX0_find := by decide +kernel
set_option maxRecDepth 20000 in
theorem k_X0_find_in0 : ∀ w ∈ u_ws RX0 TX0 4, w ∈ wsX0_find := by decide +kernel
set_option maxRecDepth 20000 in
theorem k_X0_find_f9 : (.fieldLink RX0 9 "CookieListener$Connections" "callers" "[J" : Cond) ∈ wsX0_find := by decide +kernel
set_option maxHeartbeats 4000000 in
set_option maxRecDepth 100000 in
theorem c_X0_find (l : Launch) (dC : Nat → ClassId) (dI : Nat → Nat → Nat) (cI cJ cZ : ClassId) (lo sz : Nat) (cn b1 b2 : Nat) (k t : Nat) (g1 : Nat → Int64) (g2 : Nat → Int32) (x : Int64) (hk : k ≤ 64) : Met l yX0_find wsX0_find ({ frames := 0, cells := 0, slots := 0, locals := 0 } : Room) (va_Pc [.ref cn, .long x] (ck_P (dC, dI) [(cI, .int), (cJ, .long), (cZ, .boolean)] lo sz [(cn, .inr (0, [.ref b1, .ref b2, .int (nI k), .int (nI t)])), (b1, .inl (cJ, 64, .inr (.inl g1))), (b2, .inl (cI, 64, .inl g2))])) (vp_Si (fun (r : Int32) => ck_fnd k g1 x r)) 0 0 (fun _ => False) := by
  refine Met.ofW (cc := cX0_find) (maxL := 4) (ret := (some .int)) (by decide) rfl ?_
  intro p e s m args below meth c s₁ B hml hv
  obtain ⟨rfl, hsz, hP, hK, hD0, hE⟩ := hv
  have hx := B.exec
  have hb := B.bytes
  have hr := B.returns
  have hts := atoms_spec (ws := wsX0_find) B.pre
  have hown : s.vm.findClass RX0 = some m.cls := findClass_of_methodNamed B.named
  have hlocks := B.notSynchronized
  subst hsz
  have hD := hD0.self (sz := s.heap.size)
  have hlo := ck_lo (sz := s.heap.size) hD0 hE.1
  generalize hAe : va_A [(cn, .inr (0, [.ref b1, .ref b2, .int (nI k), .int (nI t)])), (b1, .inl (cJ, 64, .inr (.inl g1))), (b2, .inl (cI, 64, .inl g2))] s.heap.size = A at hD hlo
  have hA : ∀ q : Nat, s.heap.size ≤ q → A q := fun q h => by rw [← hAe]; exact Or.inr h
  have hG : ck_G (dC, dI) [(cI, .int), (cJ, .long), (cZ, .boolean)] lo A s := ⟨hK, hE, hA, hlo⟩
  have hS : va_S A s.heap s.heap [] := va_S.rf
  have hP : va_P (dC, dI) vwCl [(cn, .inr (0, [.ref b1, .ref b2, .int (nI k), .int (nI t)])), (b1, .inl (cJ, 64, .inr (.inl g1))), (b2, .inl (cI, 64, .inl g2))] s.heap := hP
  have hl := lv_entry ([.ref cn, .long x]) (n := 4) (Nat.le_of_ble_eq_true rfl)
  rw [lg_entry_eq]
  generalize (lg_sl ([.ref cn, .long x]) ++ List.replicate (4 - (lg_sl ([.ref cn, .long x])).length) Slot.unset).toArray = ls at hl ⊢
  have hl : lv_has ls 4 [(0, .ref cn), (1, .long x)] := hl
  refine lv_iconst (v := nI 0) hx hb dX0_find_0 (by decide) ?_
  refine lv_istore_n (lv' := [(3, .int (nI 0)), (0, .ref cn), (1, .long x)]) hx hb dX0_find_1 rfl hl (by decide) rfl (fun ls hl => ?_)
  have hloop : ∀ (fu : Nat) (i : Nat), (i ≤ k) → (k + 1 ≤ i + fu) → (∀ q, q < i → g1 q ≠ x) → ∀ (H : Heap) (locs : List Loc) (ls : Array Slot), H = s.heap → locs = [] → va_P (dC, dI) vwCl [(cn, .inr (0, [.ref b1, .ref b2, .int (nI k), .int (nI t)])), (b1, .inl (cJ, 64, .inr (.inl g1))), (b2, .inl (cI, 64, .inl g2))] H → va_D A [(cn, .inr (0, [.ref b1, .ref b2, .int (nI k), .int (nI t)])), (b1, .inl (cJ, 64, .inr (.inl g1))), (b2, .inl (cI, 64, .inl g2))] → va_S A s.heap H locs → lv_has ls 4 [(0, .ref cn), (1, .long x), (3, .int (nI i))] → W p l e (headSpec wsX0_find ({ frames := 0, cells := 0, slots := 0, locals := 0 } : Room)).room s m (([.ref cn, .long x] : List Value).toArray) below meth c H locs 0 0 (MQ below (vp_Si (fun (r : Int32) => ck_fnd k g1 x r)) (([.ref cn, .long x] : List Value).toArray) s 0 0 (fun _ => False)) (F0 m 2 ls []) := by
    intro fu
    induction fu with
    | zero =>
      intro i hi hf hv
      exfalso
      omega
    | succ fu ih =>
      intro i hi hf hv H locs ls eH eL hP hD hS hl
      subst eH; subst eL
      refine lv_iload_n hx hb dX0_find_2 rfl (lv_at hl 2 rfl) ?_
      refine lv_aload_n hx hb dX0_find_3 rfl (lv_at hl 0 rfl) ?_
      refine va_get (D := (dC, dI)) (ci := 0) (v := .int (nI k)) (C := RX0) (T := TX0) (N := 4) hx hb hts (k_X0_find_in0) hown hK hP 0 rfl rfl 2 (by decide) (hts _ k_X0_find_f19) (fun _ h9 => h9) rfl dX0_find_4 ?_
      refine lv_icmp_ge (tgt := 29) hx hb dX0_find_7 (by decide) (fun c_7 => ?_) (fun c_7 => ?_)
      · skip
        have c_7 : k ≤ i := (nI_leI (by omega) (by omega)).mp c_7
        refine lv_iconst (v := (-1)) hx hb dX0_find_29 (by decide) ?_
        refine ck_iq hx hb hr hlocks dX0_find_30 ?_
        exact Or.inl ⟨rfl, fun q hq => hv q (by omega)⟩
      · skip
        have c_7 : ¬ (k ≤ i) := fun z => c_7 ((nI_leI (by omega) (by omega)).mpr z)
        refine lv_aload_n hx hb dX0_find_10 rfl (lv_at hl 0 rfl) ?_
        refine va_get (D := (dC, dI)) (ci := 0) (v := .ref b1) (C := RX0) (T := TX0) (N := 4) hx hb hts (k_X0_find_in0) hown hK hP 0 rfl rfl 0 (by decide) (hts _ k_X0_find_f9) (fun _ h9 => h9) rfl dX0_find_11 ?_
        refine lv_iload_n hx hb dX0_find_14 rfl (lv_at hl 2 rfl) ?_
        refine ck_lald hx hb hK hP 1 1 rfl rfl (by omega) (by decide) dX0_find_15 ?_
        refine lv_lload_n hx hb dX0_find_16 rfl (lv_at hl 1 rfl) ?_
        refine W.lcmp hx hb dX0_find_17 ?_
        refine lv_if_ne (tgt := 23) hx hb dX0_find_18 (by decide) (fun c_18 => ?_) (fun c_18 => ?_)
        · skip
          refine lv_iinc (v := nI (i + 1)) (lv' := [(3, .int (nI (i + 1))), (0, .ref cn), (1, .long x)]) hx hb dX0_find_23 hl (k := 2) rfl (nI_1 _) (by decide) rfl (fun ls hl => ?_)
          refine lv_goto (tgt := 2) hx hb dX0_find_26 (by decide) ?_
          exact ih (i + 1) (by omega) (by omega) (lt_s hv (fun e => c_18 ((lg_cmp_eq _ _).mpr e))) _ _ _ rfl rfl (hP.sub [0, 1, 2] rfl) (hD.sub [0, 1, 2] (by decide) rfl) hS (lv_sub hl [1, 2, 0] rfl)
        · skip
          refine lv_iload_n hx hb dX0_find_21 rfl (lv_at hl 2 rfl) ?_
          refine ck_iq hx hb hr hlocks dX0_find_22 ?_
          exact Or.inr ⟨i, by omega, rfl, (lg_cmp_eq _ _).mp c_18⟩
  exact hloop (k + 1) 0 (by omega) (by omega) (fun q hq => absurd hq (Nat.not_lt_zero q)) _ _ _ rfl rfl (hP.sub [0, 1, 2] rfl) (hD.sub [0, 1, 2] (by decide) rfl) hS (lv_sub hl [1, 2, 0] rfl)
set_option maxRecDepth 20000 in
theorem k_X0_add_f19 : (.fieldLink RX0 19 "CookieListener$Connections" "count" "I" : Cond) ∈ wsX0_add := by decide +kernel
set_option maxRecDepth 20000 in
theorem k_X0_add_in0 : ∀ w ∈ u_ws RX0 TX0 4, w ∈ wsX0_add := by decide +kernel
set_option maxRecDepth 20000 in
theorem k_X0_add_f9 : (.fieldLink RX0 9 "CookieListener$Connections" "callers" "[J" : Cond) ∈ wsX0_add := by decide +kernel
set_option maxRecDepth 20000 in
theorem k_X0_add_f15 : (.fieldLink RX0 15 "CookieListener$Connections" "kinds" "[I" : Cond) ∈ wsX0_add := by decide +kernel
set_option maxHeartbeats 4000000 in
set_option maxRecDepth 100000 in
theorem c_X0_add (l : Launch) (dC : Nat → ClassId) (dI : Nat → Nat → Nat) (cI cJ cZ : ClassId) (lo sz : Nat) (cn b1 b2 : Nat) (k t : Nat) (g1 : Nat → Int64) (g2 : Nat → Int32) (x : Int64) (kd : Int32) (hk : k < 64) (ht : t ≤ k) : Met l yX0_add wsX0_add ({ frames := 0, cells := 0, slots := 0, locals := 0 } : Room) (va_Pc [.ref cn, .long x, .int kd] (ck_P (dC, dI) [(cI, .int), (cJ, .long), (cZ, .boolean)] lo sz [(cn, .inr (0, [.ref b1, .ref b2, .int (nI k), .int (nI t)])), (b1, .inl (cJ, 64, .inr (.inl g1))), (b2, .inl (cI, 64, .inl g2))])) (va_Qv (fun (u : Unit) => True) (fun u => ck_B (dC, dI) vwCl (va_A [(cn, .inr (0, [.ref b1, .ref b2, .int (nI k), .int (nI t)])), (b1, .inl (cJ, 64, .inr (.inl g1))), (b2, .inl (cI, 64, .inl g2))] sz) ((fun u : Unit => ([(cn, .inr (0, [.ref b1, .ref b2, .int (nI (k + 1)), .int (nI t)])), (b1, .inl (cJ, 64, .inr (.inl (vp_updL g1 k x)))), (b2, .inl (cI, 64, .inl (upd g2 k kd)))] : va_W)) u)) (va_A [(cn, .inr (0, [.ref b1, .ref b2, .int (nI k), .int (nI t)])), (b1, .inl (cJ, 64, .inr (.inl g1))), (b2, .inl (cI, 64, .inl g2))] sz)) 0 0 (va_A [(cn, .inr (0, [.ref b1, .ref b2, .int (nI k), .int (nI t)])), (b1, .inl (cJ, 64, .inr (.inl g1))), (b2, .inl (cI, 64, .inl g2))] sz) := by
  refine Met.ofW (cc := cX0_add) (maxL := 4) (ret := none) (by decide) rfl ?_
  intro p e s m args below meth c s₁ B hml hv
  obtain ⟨rfl, hsz, hP, hK, hD0, hE⟩ := hv
  have hx := B.exec
  have hb := B.bytes
  have hr := B.returns
  have hts := atoms_spec (ws := wsX0_add) B.pre
  have hown : s.vm.findClass RX0 = some m.cls := findClass_of_methodNamed B.named
  have hlocks := B.notSynchronized
  subst hsz
  have hD := hD0.self (sz := s.heap.size)
  have hlo := ck_lo (sz := s.heap.size) hD0 hE.1
  generalize hAe : va_A [(cn, .inr (0, [.ref b1, .ref b2, .int (nI k), .int (nI t)])), (b1, .inl (cJ, 64, .inr (.inl g1))), (b2, .inl (cI, 64, .inl g2))] s.heap.size = A at hD hlo ⊢
  have hA : ∀ q : Nat, s.heap.size ≤ q → A q := fun q h => by rw [← hAe]; exact Or.inr h
  have hG : ck_G (dC, dI) [(cI, .int), (cJ, .long), (cZ, .boolean)] lo A s := ⟨hK, hE, hA, hlo⟩
  have hS : va_S A s.heap s.heap [] := va_S.rf
  have hP : va_P (dC, dI) vwCl [(cn, .inr (0, [.ref b1, .ref b2, .int (nI k), .int (nI t)])), (b1, .inl (cJ, 64, .inr (.inl g1))), (b2, .inl (cI, 64, .inl g2))] s.heap := hP
  have hl := lv_entry ([.ref cn, .long x, .int kd]) (n := 4) (Nat.le_of_ble_eq_true rfl)
  rw [lg_entry_eq]
  generalize (lg_sl ([.ref cn, .long x, .int kd]) ++ List.replicate (4 - (lg_sl ([.ref cn, .long x, .int kd])).length) Slot.unset).toArray = ls at hl ⊢
  have hl : lv_has ls 4 [(0, .ref cn), (1, .long x), (3, .int kd)] := hl
  refine lv_aload_n hx hb dX0_add_0 rfl (lv_at hl 0 rfl) ?_
  refine va_get (D := (dC, dI)) (ci := 0) (v := .int (nI k)) (C := RX0) (T := TX0) (N := 4) hx hb hts (k_X0_add_in0) hown hK hP 0 rfl rfl 2 (by decide) (hts _ k_X0_add_f19) (fun _ h9 => h9) rfl dX0_add_1 ?_
  refine lv_bipush (v := nI 64) hx hb dX0_add_4 (by decide) ?_
  refine lv_icmp_lt (tgt := 10) hx hb dX0_add_6 (by decide) (fun c_6 => ?_) (fun c_6 => ?_)
  · skip
    have c_6 : k < 64 := (nI_ltI (by omega) (by omega)).mp c_6
    refine lv_aload_n hx hb dX0_add_10 rfl (lv_at hl 0 rfl) ?_
    refine va_get (D := (dC, dI)) (ci := 0) (v := .ref b1) (C := RX0) (T := TX0) (N := 4) hx hb hts (k_X0_add_in0) hown hK hP 0 rfl rfl 0 (by decide) (hts _ k_X0_add_f9) (fun _ h9 => h9) rfl dX0_add_11 ?_
    refine lv_aload_n hx hb dX0_add_14 rfl (lv_at hl 0 rfl) ?_
    refine va_get (D := (dC, dI)) (ci := 0) (v := .int (nI k)) (C := RX0) (T := TX0) (N := 4) hx hb hts (k_X0_add_in0) hown hK hP 0 rfl rfl 2 (by decide) (hts _ k_X0_add_f19) (fun _ h9 => h9) rfl dX0_add_15 ?_
    refine lv_lload_n hx hb dX0_add_18 rfl (lv_at hl 1 rfl) ?_
    refine ck_last hx hb hK hP hD hS 1 1 rfl rfl (by omega) (by decide) dX0_add_19 (fun H locs hP hD hS => ?_)
    have hP : va_P (dC, dI) vwCl [(cn, .inr (0, [.ref b1, .ref b2, .int (nI k), .int (nI t)])), (b1, .inl (cJ, 64, .inr (.inl (vp_updL g1 k x)))), (b2, .inl (cI, 64, .inl g2))] H := hP
    have hD : va_D A [(cn, .inr (0, [.ref b1, .ref b2, .int (nI k), .int (nI t)])), (b1, .inl (cJ, 64, .inr (.inl (vp_updL g1 k x)))), (b2, .inl (cI, 64, .inl g2))] := hD
    refine lv_aload_n hx hb dX0_add_20 rfl (lv_at hl 0 rfl) ?_
    refine va_get (D := (dC, dI)) (ci := 0) (v := .ref b2) (C := RX0) (T := TX0) (N := 4) hx hb hts (k_X0_add_in0) hown hK hP 0 rfl rfl 1 (by decide) (hts _ k_X0_add_f15) (fun _ h9 => h9) rfl dX0_add_21 ?_
    refine lv_aload_n hx hb dX0_add_24 rfl (lv_at hl 0 rfl) ?_
    refine va_get (D := (dC, dI)) (ci := 0) (v := .int (nI k)) (C := RX0) (T := TX0) (N := 4) hx hb hts (k_X0_add_in0) hown hK hP 0 rfl rfl 2 (by decide) (hts _ k_X0_add_f19) (fun _ h9 => h9) rfl dX0_add_25 ?_
    refine lv_iload_n hx hb dX0_add_28 rfl (lv_at hl 2 rfl) ?_
    refine ck_iast hx hb hK hP hD hS 2 0 rfl rfl (by omega) (by decide) dX0_add_29 (fun H locs hP hD hS => ?_)
    have hP : va_P (dC, dI) vwCl [(cn, .inr (0, [.ref b1, .ref b2, .int (nI k), .int (nI t)])), (b1, .inl (cJ, 64, .inr (.inl (vp_updL g1 k x)))), (b2, .inl (cI, 64, .inl (upd g2 k kd)))] H := hP
    have hD : va_D A [(cn, .inr (0, [.ref b1, .ref b2, .int (nI k), .int (nI t)])), (b1, .inl (cJ, 64, .inr (.inl (vp_updL g1 k x)))), (b2, .inl (cI, 64, .inl (upd g2 k kd)))] := hD
    refine lv_aload_n hx hb dX0_add_30 rfl (lv_at hl 0 rfl) ?_
    refine lv_dup hx hb dX0_add_31 rfl ?_
    refine va_get (D := (dC, dI)) (ci := 0) (v := .int (nI k)) (C := RX0) (T := TX0) (N := 4) hx hb hts (k_X0_add_in0) hown hK hP 0 rfl rfl 2 (by decide) (hts _ k_X0_add_f19) (fun _ h9 => h9) rfl dX0_add_32 ?_
    refine lv_iconst (v := 1) hx hb dX0_add_35 (by decide) ?_
    refine lv_iadd hx hb dX0_add_36 ?_
    refine ck_toi (y := nI (k + 1)) (nI_1 _) ?_
    refine va_put (D := (dC, dI)) (ci := 0) (v := .int (nI (k + 1))) (ty := .int) (C := RX0) (T := TX0) (N := 4) hx hb hts (k_X0_add_in0) tyX0 tyX0_ok nmX0 hown hK hP hD hS 0 rfl rfl 2 (by decide) (hts _ k_X0_add_f19) (fun _ h9 => h9) rfl (by decide +kernel) rfl rfl (Nat.le_of_ble_eq_true rfl) dX0_add_37 (fun H locs hP hD hS => ?_)
    have hP : va_P (dC, dI) vwCl [(cn, .inr (0, [.ref b1, .ref b2, .int (nI (k + 1)), .int (nI t)])), (b1, .inl (cJ, 64, .inr (.inl (vp_updL g1 k x)))), (b2, .inl (cI, 64, .inl (upd g2 k kd)))] H := hP
    have hD : va_D A [(cn, .inr (0, [.ref b1, .ref b2, .int (nI (k + 1)), .int (nI t)])), (b1, .inl (cJ, 64, .inr (.inl (vp_updL g1 k x)))), (b2, .inl (cI, 64, .inl (upd g2 k kd)))] := hD
    subst_vars
    refine ck_vr hx hb hr hlocks (Nat.le_of_ble_eq_true rfl) (Nat.le_of_ble_eq_true rfl) dX0_add_40 () hP hD hS ?_
    exact trivial
  · skip
    have c_6 : ¬ (k < 64) := fun z => c_6 ((nI_ltI (by omega) (by omega)).mpr z)
    omega
set_option maxRecDepth 20000 in
theorem k_X0_takeFirst_f23 : (.fieldLink RX0 23 "CookieListener$Connections" "taken" "I" : Cond) ∈ wsX0_takeFirst := by decide +kernel
set_option maxRecDepth 20000 in
theorem k_X0_takeFirst_in0 : ∀ w ∈ u_ws RX0 TX0 4, w ∈ wsX0_takeFirst := by decide +kernel
set_option maxRecDepth 20000 in
theorem k_X0_takeFirst_f19 : (.fieldLink RX0 19 "CookieListener$Connections" "count" "I" : Cond) ∈ wsX0_takeFirst := by decide +kernel
set_option maxHeartbeats 4000000 in
set_option maxRecDepth 100000 in
theorem c_X0_takeFirst (l : Launch) (dC : Nat → ClassId) (dI : Nat → Nat → Nat) (cI cJ cZ : ClassId) (lo sz : Nat) (cn b1 b2 : Nat) (k t : Nat) (g1 : Nat → Int64) (g2 : Nat → Int32) (ht : t ≤ k) (hk : k ≤ 64) : Met l yX0_takeFirst wsX0_takeFirst ({ frames := 0, cells := 0, slots := 0, locals := 0 } : Room) (va_Pc [.ref cn] (ck_P (dC, dI) [(cI, .int), (cJ, .long), (cZ, .boolean)] lo sz [(cn, .inr (0, [.ref b1, .ref b2, .int (nI k), .int (nI t)])), (b1, .inl (cJ, 64, .inr (.inl g1))), (b2, .inl (cI, 64, .inl g2))])) (va_Qi (fun (r : Int32) (u : Nat) => (t < k ∧ r = nI t ∧ u = t + 1) ∨ (k ≤ t ∧ r = -1 ∧ u = t)) (fun u => ck_B (dC, dI) vwCl (va_A [(cn, .inr (0, [.ref b1, .ref b2, .int (nI k), .int (nI t)])), (b1, .inl (cJ, 64, .inr (.inl g1))), (b2, .inl (cI, 64, .inl g2))] sz) ((fun u : Nat => ([(cn, .inr (0, [.ref b1, .ref b2, .int (nI k), .int (nI u)])), (b1, .inl (cJ, 64, .inr (.inl g1))), (b2, .inl (cI, 64, .inl g2))] : va_W)) u)) (va_A [(cn, .inr (0, [.ref b1, .ref b2, .int (nI k), .int (nI t)])), (b1, .inl (cJ, 64, .inr (.inl g1))), (b2, .inl (cI, 64, .inl g2))] sz)) 0 0 (va_A [(cn, .inr (0, [.ref b1, .ref b2, .int (nI k), .int (nI t)])), (b1, .inl (cJ, 64, .inr (.inl g1))), (b2, .inl (cI, 64, .inl g2))] sz) := by
  refine Met.ofW (cc := cX0_takeFirst) (maxL := 1) (ret := (some .int)) (by decide) rfl ?_
  intro p e s m args below meth c s₁ B hml hv
  obtain ⟨rfl, hsz, hP, hK, hD0, hE⟩ := hv
  have hx := B.exec
  have hb := B.bytes
  have hr := B.returns
  have hts := atoms_spec (ws := wsX0_takeFirst) B.pre
  have hown : s.vm.findClass RX0 = some m.cls := findClass_of_methodNamed B.named
  have hlocks := B.notSynchronized
  subst hsz
  have hD := hD0.self (sz := s.heap.size)
  have hlo := ck_lo (sz := s.heap.size) hD0 hE.1
  generalize hAe : va_A [(cn, .inr (0, [.ref b1, .ref b2, .int (nI k), .int (nI t)])), (b1, .inl (cJ, 64, .inr (.inl g1))), (b2, .inl (cI, 64, .inl g2))] s.heap.size = A at hD hlo ⊢
  have hA : ∀ q : Nat, s.heap.size ≤ q → A q := fun q h => by rw [← hAe]; exact Or.inr h
  have hG : ck_G (dC, dI) [(cI, .int), (cJ, .long), (cZ, .boolean)] lo A s := ⟨hK, hE, hA, hlo⟩
  have hS : va_S A s.heap s.heap [] := va_S.rf
  have hP : va_P (dC, dI) vwCl [(cn, .inr (0, [.ref b1, .ref b2, .int (nI k), .int (nI t)])), (b1, .inl (cJ, 64, .inr (.inl g1))), (b2, .inl (cI, 64, .inl g2))] s.heap := hP
  have hl := lv_entry ([.ref cn]) (n := 1) (Nat.le_of_ble_eq_true rfl)
  rw [lg_entry_eq]
  generalize (lg_sl ([.ref cn]) ++ List.replicate (1 - (lg_sl ([.ref cn])).length) Slot.unset).toArray = ls at hl ⊢
  have hl : lv_has ls 1 [(0, .ref cn)] := hl
  refine lv_aload_n hx hb dX0_takeFirst_0 rfl (lv_at hl 0 rfl) ?_
  refine va_get (D := (dC, dI)) (ci := 0) (v := .int (nI t)) (C := RX0) (T := TX0) (N := 4) hx hb hts (k_X0_takeFirst_in0) hown hK hP 0 rfl rfl 3 (by decide) (hts _ k_X0_takeFirst_f23) (fun _ h9 => h9) rfl dX0_takeFirst_1 ?_
  refine lv_aload_n hx hb dX0_takeFirst_4 rfl (lv_at hl 0 rfl) ?_
  refine va_get (D := (dC, dI)) (ci := 0) (v := .int (nI k)) (C := RX0) (T := TX0) (N := 4) hx hb hts (k_X0_takeFirst_in0) hown hK hP 0 rfl rfl 2 (by decide) (hts _ k_X0_takeFirst_f19) (fun _ h9 => h9) rfl dX0_takeFirst_5 ?_
  refine lv_icmp_lt (tgt := 13) hx hb dX0_takeFirst_8 (by decide) (fun c_8 => ?_) (fun c_8 => ?_)
  · skip
    have c_8 : t < k := (nI_ltI (by omega) (by omega)).mp c_8
    refine lv_aload_n hx hb dX0_takeFirst_13 rfl (lv_at hl 0 rfl) ?_
    refine lv_dup hx hb dX0_takeFirst_14 rfl ?_
    refine va_get (D := (dC, dI)) (ci := 0) (v := .int (nI t)) (C := RX0) (T := TX0) (N := 4) hx hb hts (k_X0_takeFirst_in0) hown hK hP 0 rfl rfl 3 (by decide) (hts _ k_X0_takeFirst_f23) (fun _ h9 => h9) rfl dX0_takeFirst_15 ?_
    refine lv_iconst (v := 1) hx hb dX0_takeFirst_18 (by decide) ?_
    refine lv_iadd hx hb dX0_takeFirst_19 ?_
    refine ck_toi (y := nI (t + 1)) (nI_1 _) ?_
    refine va_put (D := (dC, dI)) (ci := 0) (v := .int (nI (t + 1))) (ty := .int) (C := RX0) (T := TX0) (N := 4) hx hb hts (k_X0_takeFirst_in0) tyX0 tyX0_ok nmX0 hown hK hP hD hS 0 rfl rfl 3 (by decide) (hts _ k_X0_takeFirst_f23) (fun _ h9 => h9) rfl (by decide +kernel) rfl rfl (Nat.le_of_ble_eq_true rfl) dX0_takeFirst_20 (fun H locs hP hD hS => ?_)
    have hP : va_P (dC, dI) vwCl [(cn, .inr (0, [.ref b1, .ref b2, .int (nI k), .int (nI (t + 1))])), (b1, .inl (cJ, 64, .inr (.inl g1))), (b2, .inl (cI, 64, .inl g2))] H := hP
    have hD : va_D A [(cn, .inr (0, [.ref b1, .ref b2, .int (nI k), .int (nI (t + 1))])), (b1, .inl (cJ, 64, .inr (.inl g1))), (b2, .inl (cI, 64, .inl g2))] := hD
    refine lv_aload_n hx hb dX0_takeFirst_23 rfl (lv_at hl 0 rfl) ?_
    refine va_get (D := (dC, dI)) (ci := 0) (v := .int (nI (t + 1))) (C := RX0) (T := TX0) (N := 4) hx hb hts (k_X0_takeFirst_in0) hown hK hP 0 rfl rfl 3 (by decide) (hts _ k_X0_takeFirst_f23) (fun _ h9 => h9) rfl dX0_takeFirst_24 ?_
    refine lv_iconst (v := 1) hx hb dX0_takeFirst_27 (by decide) ?_
    refine lv_isub hx hb dX0_takeFirst_28 ?_
    refine ck_toi (y := nI t) (nI_pred _) ?_
    refine ck_ir hx hb hr hlocks (Nat.le_of_ble_eq_true rfl) (Nat.le_of_ble_eq_true rfl) dX0_takeFirst_29 (t + 1) hP hD hS ?_
    exact Or.inl ⟨by omega, rfl, rfl⟩
  · skip
    have c_8 : ¬ (t < k) := fun z => c_8 ((nI_ltI (by omega) (by omega)).mpr z)
    refine lv_iconst (v := (-1)) hx hb dX0_takeFirst_11 (by decide) ?_
    refine ck_ir hx hb hr hlocks (Nat.le_of_ble_eq_true rfl) (Nat.le_of_ble_eq_true rfl) dX0_takeFirst_12 (t) hP hD hS ?_
    exact Or.inr ⟨by omega, rfl, rfl⟩
set_option maxRecDepth 20000 in
theorem k_X0_drop_f19 : (.fieldLink RX0 19 "CookieListener$Connections" "count" "I" : Cond) ∈ wsX0_drop := by decide +kernel
set_option maxRecDepth 20000 in
theorem k_X0_drop_in0 : ∀ w ∈ u_ws RX0 TX0 4, w ∈ wsX0_drop := by decide +kernel
set_option maxRecDepth 20000 in
theorem k_X0_drop_f9 : (.fieldLink RX0 9 "CookieListener$Connections" "callers" "[J" : Cond) ∈ wsX0_drop := by decide +kernel
set_option maxRecDepth 20000 in
theorem k_X0_drop_f15 : (.fieldLink RX0 15 "CookieListener$Connections" "kinds" "[I" : Cond) ∈ wsX0_drop := by decide +kernel
set_option maxRecDepth 20000 in
theorem k_X0_drop_f23 : (.fieldLink RX0 23 "CookieListener$Connections" "taken" "I" : Cond) ∈ wsX0_drop := by decide +kernel
set_option maxHeartbeats 4000000 in
set_option maxRecDepth 100000 in
theorem c_X0_drop (l : Launch) (dC : Nat → ClassId) (dI : Nat → Nat → Nat) (cI cJ cZ : ClassId) (lo sz : Nat) (cn b1 b2 : Nat) (k t : Nat) (g1 : Nat → Int64) (g2 : Nat → Int32) (j : Nat) (hk : k < 64) (ht : t ≤ k + 1) (hj : j < k + 1) : Met l yX0_drop wsX0_drop ({ frames := 1, cells := 0, slots := 0, locals := 21 } : Room) (va_Pc [.ref cn, .int (nI j)] (ck_P (dC, dI) [(cI, .int), (cJ, .long), (cZ, .boolean)] lo sz [(cn, .inr (0, [.ref b1, .ref b2, .int (nI (k + 1)), .int (nI t)])), (b1, .inl (cJ, 64, .inr (.inl g1))), (b2, .inl (cI, 64, .inl g2))])) (va_Qv (fun (u : Nat × (Nat → Int64) × (Nat → Int32)) => u.1 = (if j < t then t - 1 else t) ∧ ck_shf g1 u.2.1 j k ∧ ck_shf g2 u.2.2 j k) (fun u => ck_B (dC, dI) vwCl (va_A [(cn, .inr (0, [.ref b1, .ref b2, .int (nI (k + 1)), .int (nI t)])), (b1, .inl (cJ, 64, .inr (.inl g1))), (b2, .inl (cI, 64, .inl g2))] sz) ((fun u : Nat × (Nat → Int64) × (Nat → Int32) => ([(cn, .inr (0, [.ref b1, .ref b2, .int (nI k), .int (nI u.1)])), (b1, .inl (cJ, 64, .inr (.inl u.2.1))), (b2, .inl (cI, 64, .inl u.2.2))] : va_W)) u)) (va_A [(cn, .inr (0, [.ref b1, .ref b2, .int (nI (k + 1)), .int (nI t)])), (b1, .inl (cJ, 64, .inr (.inl g1))), (b2, .inl (cI, 64, .inl g2))] sz)) 0 0 (va_A [(cn, .inr (0, [.ref b1, .ref b2, .int (nI (k + 1)), .int (nI t)])), (b1, .inl (cJ, 64, .inr (.inl g1))), (b2, .inl (cI, 64, .inl g2))] sz) := by
  refine Met.ofW (cc := cX0_drop) (maxL := 3) (ret := none) (by decide) rfl ?_
  intro p e s m args below meth c s₁ B hml hv
  obtain ⟨rfl, hsz, hP, hK, hD0, hE⟩ := hv
  have hx := B.exec
  have hb := B.bytes
  have hr := B.returns
  have hts := atoms_spec (ws := wsX0_drop) B.pre
  have hown : s.vm.findClass RX0 = some m.cls := findClass_of_methodNamed B.named
  have hlocks := B.notSynchronized
  subst hsz
  have hD := hD0.self (sz := s.heap.size)
  have hlo := ck_lo (sz := s.heap.size) hD0 hE.1
  generalize hAe : va_A [(cn, .inr (0, [.ref b1, .ref b2, .int (nI (k + 1)), .int (nI t)])), (b1, .inl (cJ, 64, .inr (.inl g1))), (b2, .inl (cI, 64, .inl g2))] s.heap.size = A at hD hlo ⊢
  have hA : ∀ q : Nat, s.heap.size ≤ q → A q := fun q h => by rw [← hAe]; exact Or.inr h
  have hG : ck_G (dC, dI) [(cI, .int), (cJ, .long), (cZ, .boolean)] lo A s := ⟨hK, hE, hA, hlo⟩
  have hS : va_S A s.heap s.heap [] := va_S.rf
  have hP : va_P (dC, dI) vwCl [(cn, .inr (0, [.ref b1, .ref b2, .int (nI (k + 1)), .int (nI t)])), (b1, .inl (cJ, 64, .inr (.inl g1))), (b2, .inl (cI, 64, .inl g2))] s.heap := hP
  have hl := lv_entry ([.ref cn, .int (nI j)]) (n := 3) (Nat.le_of_ble_eq_true rfl)
  rw [lg_entry_eq]
  generalize (lg_sl ([.ref cn, .int (nI j)]) ++ List.replicate (3 - (lg_sl ([.ref cn, .int (nI j)])).length) Slot.unset).toArray = ls at hl ⊢
  have hl : lv_has ls 3 [(0, .ref cn), (1, .int (nI j))] := hl
  refine lv_iload_n hx hb dX0_drop_0 rfl (lv_at hl 1 rfl) ?_
  refine lv_if_lt (tgt := 12) hx hb dX0_drop_1 (by decide) (fun c_1 => ?_) (fun c_1 => ?_)
  · skip
    exact absurd c_1 (nI_pos (by omega))
  · skip
    refine lv_iload_n hx hb dX0_drop_4 rfl (lv_at hl 1 rfl) ?_
    refine lv_aload_n hx hb dX0_drop_5 rfl (lv_at hl 0 rfl) ?_
    refine va_get (D := (dC, dI)) (ci := 0) (v := .int (nI (k + 1))) (C := RX0) (T := TX0) (N := 4) hx hb hts (k_X0_drop_in0) hown hK hP 0 rfl rfl 2 (by decide) (hts _ k_X0_drop_f19) (fun _ h9 => h9) rfl dX0_drop_6 ?_
    refine lv_icmp_lt (tgt := 13) hx hb dX0_drop_9 (by decide) (fun c_9 => ?_) (fun c_9 => ?_)
    · skip
      have c_9 : j < (k + 1) := (nI_ltI (by omega) (by omega)).mp c_9
      refine lv_aload_n hx hb dX0_drop_13 rfl (lv_at hl 0 rfl) ?_
      refine lv_iload_n hx hb dX0_drop_14 rfl (lv_at hl 1 rfl) ?_
      refine ck_ri (va_runV (As := [.int (nI j)]) (rest := []) ⟨hx, hb, hml, hown, hts⟩ (c_X0_isTaken l dC dI cI cJ cZ lo _ cn b1 b2 (k + 1) t g1 g2 j (by first | assumption | omega) (by first | assumption | omega) (by first | assumption | omega)) (cwV 1 hts gX0_drop_X0_isTaken rfl rfl rfl (by decide +kernel) ⟨(Nat.le_of_ble_eq_true rfl), (Nat.le_of_ble_eq_true rfl)⟩) ⟨ck_blind, va_recv hK hP (ci := 0) (q0 := 0) rfl rfl, (ck_pre hG hP hD hS [0, 1, 2] rfl (by decide) _)⟩ rfl rfl hl.1 rfl (lv_room (Nat.le_of_ble_eq_true rfl)) dX0_drop_15 ⟨(Nat.le_of_ble_eq_true rfl), (Nat.le_of_ble_eq_true rfl)⟩) (fun r_1 hw_1 => ?_)
      have hw_1 : (r_1 = 1 ∧ j < t) ∨ (r_1 = 0 ∧ t ≤ j) := hw_1
      refine lv_if_eq (tgt := 31) hx hb dX0_drop_18 (by decide) (fun c_18 => ?_) (fun c_18 => ?_)
      · skip
        have c_18 : t ≤ j := by
          rcases hw_1 with h | h
          · rw [h.1] at c_18; exact absurd c_18 (by decide)
          · exact h.2
        refine lv_aload_n hx hb dX0_drop_31 rfl (lv_at hl 0 rfl) ?_
        refine lv_dup hx hb dX0_drop_32 rfl ?_
        refine va_get (D := (dC, dI)) (ci := 0) (v := .int (nI (k + 1))) (C := RX0) (T := TX0) (N := 4) hx hb hts (k_X0_drop_in0) hown hK hP 0 rfl rfl 2 (by decide) (hts _ k_X0_drop_f19) (fun _ h9 => h9) rfl dX0_drop_33 ?_
        refine lv_iconst (v := 1) hx hb dX0_drop_36 (by decide) ?_
        refine lv_isub hx hb dX0_drop_37 ?_
        refine ck_toi (y := nI k) (nI_pred _) ?_
        refine va_put (D := (dC, dI)) (ci := 0) (v := .int (nI k)) (ty := .int) (C := RX0) (T := TX0) (N := 4) hx hb hts (k_X0_drop_in0) tyX0 tyX0_ok nmX0 hown hK hP hD hS 0 rfl rfl 2 (by decide) (hts _ k_X0_drop_f19) (fun _ h9 => h9) rfl (by decide +kernel) rfl rfl (Nat.le_of_ble_eq_true rfl) dX0_drop_38 (fun H locs hP hD hS => ?_)
        have hP : va_P (dC, dI) vwCl [(cn, .inr (0, [.ref b1, .ref b2, .int (nI k), .int (nI t)])), (b1, .inl (cJ, 64, .inr (.inl g1))), (b2, .inl (cI, 64, .inl g2))] H := hP
        have hD : va_D A [(cn, .inr (0, [.ref b1, .ref b2, .int (nI k), .int (nI t)])), (b1, .inl (cJ, 64, .inr (.inl g1))), (b2, .inl (cI, 64, .inl g2))] := hD
        refine lv_iload_n hx hb dX0_drop_41 rfl (lv_at hl 1 rfl) ?_
        refine lv_istore_n (lv' := [(2, .int (nI j)), (0, .ref cn), (1, .int (nI j))]) hx hb dX0_drop_42 rfl hl (by decide) rfl (fun ls hl => ?_)
        have hloop : ∀ (fu : Nat) (i : Nat) (y1 : Nat → Int64) (y2 : Nat → Int32), (j ≤ i ∧ i ≤ k) → (k + 1 ≤ i + fu) → (ck_shf g1 y1 j i) → (ck_shf g2 y2 j i) → ∀ (H : Heap) (locs : List Loc) (ls : Array Slot), va_P (dC, dI) vwCl [(cn, .inr (0, [.ref b1, .ref b2, .int (nI k), .int (nI t)])), (b1, .inl (cJ, 64, .inr (.inl y1))), (b2, .inl (cI, 64, .inl y2))] H → va_D A [(cn, .inr (0, [.ref b1, .ref b2, .int (nI k), .int (nI t)])), (b1, .inl (cJ, 64, .inr (.inl y1))), (b2, .inl (cI, 64, .inl y2))] → va_S A s.heap H locs → lv_has ls 3 [(0, .ref cn), (1, .int (nI j)), (2, .int (nI i))] → W p l e (headSpec wsX0_drop ({ frames := 1, cells := 0, slots := 0, locals := 21 } : Room)).room s m (([.ref cn, .int (nI j)] : List Value).toArray) below meth c H locs 0 0 (MQ below (va_Qv (fun (u : Nat × (Nat → Int64) × (Nat → Int32)) => u.1 = (if j < t then t - 1 else t) ∧ ck_shf g1 u.2.1 j k ∧ ck_shf g2 u.2.2 j k) (fun u => ck_B (dC, dI) vwCl A ((fun u : Nat × (Nat → Int64) × (Nat → Int32) => ([(cn, .inr (0, [.ref b1, .ref b2, .int (nI k), .int (nI u.1)])), (b1, .inl (cJ, 64, .inr (.inl u.2.1))), (b2, .inl (cI, 64, .inl u.2.2))] : va_W)) u)) A) (([.ref cn, .int (nI j)] : List Value).toArray) s 0 0 A) (F0 m 43 ls []) := by
          intro fu
          induction fu with
          | zero =>
            intro i y1 y2 hi hf h1 h2
            exfalso
            omega
          | succ fu ih =>
            intro i y1 y2 hi hf h1 h2 H locs ls hP hD hS hl
            refine lv_iload_n hx hb dX0_drop_43 rfl (lv_at hl 2 rfl) ?_
            refine lv_aload_n hx hb dX0_drop_44 rfl (lv_at hl 0 rfl) ?_
            refine va_get (D := (dC, dI)) (ci := 0) (v := .int (nI k)) (C := RX0) (T := TX0) (N := 4) hx hb hts (k_X0_drop_in0) hown hK hP 0 rfl rfl 2 (by decide) (hts _ k_X0_drop_f19) (fun _ h9 => h9) rfl dX0_drop_45 ?_
            refine lv_icmp_ge (tgt := 85) hx hb dX0_drop_48 (by decide) (fun c_48 => ?_) (fun c_48 => ?_)
            · skip
              have c_48 : k ≤ i := (nI_leI (by omega) (by omega)).mp c_48
              refine ck_vr hx hb hr hlocks (Nat.le_of_ble_eq_true rfl) (Nat.le_of_ble_eq_true rfl) dX0_drop_85 (t, y1, y2) hP hD hS ?_
              have e9 : i = k := by omega
              rw [e9] at h1 h2
              exact ⟨by rw [if_neg (by omega)], h1, h2⟩
            · skip
              have c_48 : ¬ (k ≤ i) := fun z => c_48 ((nI_leI (by omega) (by omega)).mpr z)
              refine lv_aload_n hx hb dX0_drop_51 rfl (lv_at hl 0 rfl) ?_
              refine va_get (D := (dC, dI)) (ci := 0) (v := .ref b1) (C := RX0) (T := TX0) (N := 4) hx hb hts (k_X0_drop_in0) hown hK hP 0 rfl rfl 0 (by decide) (hts _ k_X0_drop_f9) (fun _ h9 => h9) rfl dX0_drop_52 ?_
              refine lv_iload_n hx hb dX0_drop_55 rfl (lv_at hl 2 rfl) ?_
              refine lv_aload_n hx hb dX0_drop_56 rfl (lv_at hl 0 rfl) ?_
              refine va_get (D := (dC, dI)) (ci := 0) (v := .ref b1) (C := RX0) (T := TX0) (N := 4) hx hb hts (k_X0_drop_in0) hown hK hP 0 rfl rfl 0 (by decide) (hts _ k_X0_drop_f9) (fun _ h9 => h9) rfl dX0_drop_57 ?_
              refine lv_iload_n hx hb dX0_drop_60 rfl (lv_at hl 2 rfl) ?_
              refine lv_iconst (v := 1) hx hb dX0_drop_61 (by decide) ?_
              refine lv_iadd hx hb dX0_drop_62 ?_
              refine ck_toi (y := nI (i + 1)) (nI_1 _) ?_
              refine ck_lald hx hb hK hP 1 1 rfl rfl (by omega) (by decide) dX0_drop_63 ?_
              refine ck_last hx hb hK hP hD hS 1 1 rfl rfl (by omega) (by decide) dX0_drop_64 (fun H locs hP hD hS => ?_)
              have hP : va_P (dC, dI) vwCl [(cn, .inr (0, [.ref b1, .ref b2, .int (nI k), .int (nI t)])), (b1, .inl (cJ, 64, .inr (.inl (vp_updL y1 i (y1 (i + 1)))))), (b2, .inl (cI, 64, .inl y2))] H := hP
              have hD : va_D A [(cn, .inr (0, [.ref b1, .ref b2, .int (nI k), .int (nI t)])), (b1, .inl (cJ, 64, .inr (.inl (vp_updL y1 i (y1 (i + 1)))))), (b2, .inl (cI, 64, .inl y2))] := hD
              refine lv_aload_n hx hb dX0_drop_65 rfl (lv_at hl 0 rfl) ?_
              refine va_get (D := (dC, dI)) (ci := 0) (v := .ref b2) (C := RX0) (T := TX0) (N := 4) hx hb hts (k_X0_drop_in0) hown hK hP 0 rfl rfl 1 (by decide) (hts _ k_X0_drop_f15) (fun _ h9 => h9) rfl dX0_drop_66 ?_
              refine lv_iload_n hx hb dX0_drop_69 rfl (lv_at hl 2 rfl) ?_
              refine lv_aload_n hx hb dX0_drop_70 rfl (lv_at hl 0 rfl) ?_
              refine va_get (D := (dC, dI)) (ci := 0) (v := .ref b2) (C := RX0) (T := TX0) (N := 4) hx hb hts (k_X0_drop_in0) hown hK hP 0 rfl rfl 1 (by decide) (hts _ k_X0_drop_f15) (fun _ h9 => h9) rfl dX0_drop_71 ?_
              refine lv_iload_n hx hb dX0_drop_74 rfl (lv_at hl 2 rfl) ?_
              refine lv_iconst (v := 1) hx hb dX0_drop_75 (by decide) ?_
              refine lv_iadd hx hb dX0_drop_76 ?_
              refine ck_toi (y := nI (i + 1)) (nI_1 _) ?_
              refine ck_iald hx hb hK hP 2 0 rfl rfl (by omega) (by decide) dX0_drop_77 ?_
              refine ck_iast hx hb hK hP hD hS 2 0 rfl rfl (by omega) (by decide) dX0_drop_78 (fun H locs hP hD hS => ?_)
              have hP : va_P (dC, dI) vwCl [(cn, .inr (0, [.ref b1, .ref b2, .int (nI k), .int (nI t)])), (b1, .inl (cJ, 64, .inr (.inl (vp_updL y1 i (y1 (i + 1)))))), (b2, .inl (cI, 64, .inl (upd y2 i (y2 (i + 1)))))] H := hP
              have hD : va_D A [(cn, .inr (0, [.ref b1, .ref b2, .int (nI k), .int (nI t)])), (b1, .inl (cJ, 64, .inr (.inl (vp_updL y1 i (y1 (i + 1)))))), (b2, .inl (cI, 64, .inl (upd y2 i (y2 (i + 1)))))] := hD
              refine lv_iinc (v := nI (i + 1)) (lv' := [(2, .int (nI (i + 1))), (0, .ref cn), (1, .int (nI j))]) hx hb dX0_drop_79 hl (k := 2) rfl (nI_1 _) (by decide) rfl (fun ls hl => ?_)
              refine lv_goto (tgt := 43) hx hb dX0_drop_82 (by decide) ?_
              exact ih (i + 1) (vp_updL y1 i (y1 (i + 1))) (upd y2 i (y2 (i + 1))) (⟨by omega, by omega⟩) (by omega) (ck_shfL h1 (by omega)) (ck_shfI h2 (by omega)) _ _ _ (hP.sub [0, 1, 2] rfl) (hD.sub [0, 1, 2] (by decide) rfl) hS (lv_sub hl [1, 2, 0] rfl)
        exact hloop (k + 1) j g1 g2 (⟨by omega, by omega⟩) (by omega) (ck_shf0) (ck_shf0) _ _ _ (hP.sub [0, 1, 2] rfl) (hD.sub [0, 1, 2] (by decide) rfl) hS (lv_sub hl [1, 2, 0] rfl)
      · skip
        have c_18 : j < t := by
          rcases hw_1 with h | h
          · exact h.2
          · exact absurd h.1 c_18
        obtain ⟨t0, rfl⟩ : ∃ t0, t = t0 + 1 := ⟨t - 1, by have := c_18; omega⟩
        refine lv_aload_n hx hb dX0_drop_21 rfl (lv_at hl 0 rfl) ?_
        refine lv_dup hx hb dX0_drop_22 rfl ?_
        refine va_get (D := (dC, dI)) (ci := 0) (v := .int (nI (t0 + 1))) (C := RX0) (T := TX0) (N := 4) hx hb hts (k_X0_drop_in0) hown hK hP 0 rfl rfl 3 (by decide) (hts _ k_X0_drop_f23) (fun _ h9 => h9) rfl dX0_drop_23 ?_
        refine lv_iconst (v := 1) hx hb dX0_drop_26 (by decide) ?_
        refine lv_isub hx hb dX0_drop_27 ?_
        refine ck_toi (y := nI t0) (nI_pred _) ?_
        refine va_put (D := (dC, dI)) (ci := 0) (v := .int (nI t0)) (ty := .int) (C := RX0) (T := TX0) (N := 4) hx hb hts (k_X0_drop_in0) tyX0 tyX0_ok nmX0 hown hK hP hD hS 0 rfl rfl 3 (by decide) (hts _ k_X0_drop_f23) (fun _ h9 => h9) rfl (by decide +kernel) rfl rfl (Nat.le_of_ble_eq_true rfl) dX0_drop_28 (fun H locs hP hD hS => ?_)
        have hP : va_P (dC, dI) vwCl [(cn, .inr (0, [.ref b1, .ref b2, .int (nI (k + 1)), .int (nI t0)])), (b1, .inl (cJ, 64, .inr (.inl g1))), (b2, .inl (cI, 64, .inl g2))] H := hP
        have hD : va_D A [(cn, .inr (0, [.ref b1, .ref b2, .int (nI (k + 1)), .int (nI t0)])), (b1, .inl (cJ, 64, .inr (.inl g1))), (b2, .inl (cI, 64, .inl g2))] := hD
        refine lv_aload_n hx hb dX0_drop_31 rfl (lv_at hl 0 rfl) ?_
        refine lv_dup hx hb dX0_drop_32 rfl ?_
        refine va_get (D := (dC, dI)) (ci := 0) (v := .int (nI (k + 1))) (C := RX0) (T := TX0) (N := 4) hx hb hts (k_X0_drop_in0) hown hK hP 0 rfl rfl 2 (by decide) (hts _ k_X0_drop_f19) (fun _ h9 => h9) rfl dX0_drop_33 ?_
        refine lv_iconst (v := 1) hx hb dX0_drop_36 (by decide) ?_
        refine lv_isub hx hb dX0_drop_37 ?_
        refine ck_toi (y := nI k) (nI_pred _) ?_
        refine va_put (D := (dC, dI)) (ci := 0) (v := .int (nI k)) (ty := .int) (C := RX0) (T := TX0) (N := 4) hx hb hts (k_X0_drop_in0) tyX0 tyX0_ok nmX0 hown hK hP hD hS 0 rfl rfl 2 (by decide) (hts _ k_X0_drop_f19) (fun _ h9 => h9) rfl (by decide +kernel) rfl rfl (Nat.le_of_ble_eq_true rfl) dX0_drop_38 (fun H locs hP hD hS => ?_)
        have hP : va_P (dC, dI) vwCl [(cn, .inr (0, [.ref b1, .ref b2, .int (nI k), .int (nI t0)])), (b1, .inl (cJ, 64, .inr (.inl g1))), (b2, .inl (cI, 64, .inl g2))] H := hP
        have hD : va_D A [(cn, .inr (0, [.ref b1, .ref b2, .int (nI k), .int (nI t0)])), (b1, .inl (cJ, 64, .inr (.inl g1))), (b2, .inl (cI, 64, .inl g2))] := hD
        refine lv_iload_n hx hb dX0_drop_41 rfl (lv_at hl 1 rfl) ?_
        refine lv_istore_n (lv' := [(2, .int (nI j)), (0, .ref cn), (1, .int (nI j))]) hx hb dX0_drop_42 rfl hl (by decide) rfl (fun ls hl => ?_)
        have hloop : ∀ (fu : Nat) (i : Nat) (y1 : Nat → Int64) (y2 : Nat → Int32), (j ≤ i ∧ i ≤ k) → (k + 1 ≤ i + fu) → (ck_shf g1 y1 j i) → (ck_shf g2 y2 j i) → ∀ (H : Heap) (locs : List Loc) (ls : Array Slot), va_P (dC, dI) vwCl [(cn, .inr (0, [.ref b1, .ref b2, .int (nI k), .int (nI t0)])), (b1, .inl (cJ, 64, .inr (.inl y1))), (b2, .inl (cI, 64, .inl y2))] H → va_D A [(cn, .inr (0, [.ref b1, .ref b2, .int (nI k), .int (nI t0)])), (b1, .inl (cJ, 64, .inr (.inl y1))), (b2, .inl (cI, 64, .inl y2))] → va_S A s.heap H locs → lv_has ls 3 [(0, .ref cn), (1, .int (nI j)), (2, .int (nI i))] → W p l e (headSpec wsX0_drop ({ frames := 1, cells := 0, slots := 0, locals := 21 } : Room)).room s m (([.ref cn, .int (nI j)] : List Value).toArray) below meth c H locs 0 0 (MQ below (va_Qv (fun (u : Nat × (Nat → Int64) × (Nat → Int32)) => u.1 = (if j < (t0 + 1) then (t0 + 1) - 1 else (t0 + 1)) ∧ ck_shf g1 u.2.1 j k ∧ ck_shf g2 u.2.2 j k) (fun u => ck_B (dC, dI) vwCl A ((fun u : Nat × (Nat → Int64) × (Nat → Int32) => ([(cn, .inr (0, [.ref b1, .ref b2, .int (nI k), .int (nI u.1)])), (b1, .inl (cJ, 64, .inr (.inl u.2.1))), (b2, .inl (cI, 64, .inl u.2.2))] : va_W)) u)) A) (([.ref cn, .int (nI j)] : List Value).toArray) s 0 0 A) (F0 m 43 ls []) := by
          intro fu
          induction fu with
          | zero =>
            intro i y1 y2 hi hf h1 h2
            exfalso
            omega
          | succ fu ih =>
            intro i y1 y2 hi hf h1 h2 H locs ls hP hD hS hl
            refine lv_iload_n hx hb dX0_drop_43 rfl (lv_at hl 2 rfl) ?_
            refine lv_aload_n hx hb dX0_drop_44 rfl (lv_at hl 0 rfl) ?_
            refine va_get (D := (dC, dI)) (ci := 0) (v := .int (nI k)) (C := RX0) (T := TX0) (N := 4) hx hb hts (k_X0_drop_in0) hown hK hP 0 rfl rfl 2 (by decide) (hts _ k_X0_drop_f19) (fun _ h9 => h9) rfl dX0_drop_45 ?_
            refine lv_icmp_ge (tgt := 85) hx hb dX0_drop_48 (by decide) (fun c_48 => ?_) (fun c_48 => ?_)
            · skip
              have c_48 : k ≤ i := (nI_leI (by omega) (by omega)).mp c_48
              refine ck_vr hx hb hr hlocks (Nat.le_of_ble_eq_true rfl) (Nat.le_of_ble_eq_true rfl) dX0_drop_85 (t0, y1, y2) hP hD hS ?_
              have e9 : i = k := by omega
              rw [e9] at h1 h2
              exact ⟨by rw [if_pos (by omega)]; rfl, h1, h2⟩
            · skip
              have c_48 : ¬ (k ≤ i) := fun z => c_48 ((nI_leI (by omega) (by omega)).mpr z)
              refine lv_aload_n hx hb dX0_drop_51 rfl (lv_at hl 0 rfl) ?_
              refine va_get (D := (dC, dI)) (ci := 0) (v := .ref b1) (C := RX0) (T := TX0) (N := 4) hx hb hts (k_X0_drop_in0) hown hK hP 0 rfl rfl 0 (by decide) (hts _ k_X0_drop_f9) (fun _ h9 => h9) rfl dX0_drop_52 ?_
              refine lv_iload_n hx hb dX0_drop_55 rfl (lv_at hl 2 rfl) ?_
              refine lv_aload_n hx hb dX0_drop_56 rfl (lv_at hl 0 rfl) ?_
              refine va_get (D := (dC, dI)) (ci := 0) (v := .ref b1) (C := RX0) (T := TX0) (N := 4) hx hb hts (k_X0_drop_in0) hown hK hP 0 rfl rfl 0 (by decide) (hts _ k_X0_drop_f9) (fun _ h9 => h9) rfl dX0_drop_57 ?_
              refine lv_iload_n hx hb dX0_drop_60 rfl (lv_at hl 2 rfl) ?_
              refine lv_iconst (v := 1) hx hb dX0_drop_61 (by decide) ?_
              refine lv_iadd hx hb dX0_drop_62 ?_
              refine ck_toi (y := nI (i + 1)) (nI_1 _) ?_
              refine ck_lald hx hb hK hP 1 1 rfl rfl (by omega) (by decide) dX0_drop_63 ?_
              refine ck_last hx hb hK hP hD hS 1 1 rfl rfl (by omega) (by decide) dX0_drop_64 (fun H locs hP hD hS => ?_)
              have hP : va_P (dC, dI) vwCl [(cn, .inr (0, [.ref b1, .ref b2, .int (nI k), .int (nI t0)])), (b1, .inl (cJ, 64, .inr (.inl (vp_updL y1 i (y1 (i + 1)))))), (b2, .inl (cI, 64, .inl y2))] H := hP
              have hD : va_D A [(cn, .inr (0, [.ref b1, .ref b2, .int (nI k), .int (nI t0)])), (b1, .inl (cJ, 64, .inr (.inl (vp_updL y1 i (y1 (i + 1)))))), (b2, .inl (cI, 64, .inl y2))] := hD
              refine lv_aload_n hx hb dX0_drop_65 rfl (lv_at hl 0 rfl) ?_
              refine va_get (D := (dC, dI)) (ci := 0) (v := .ref b2) (C := RX0) (T := TX0) (N := 4) hx hb hts (k_X0_drop_in0) hown hK hP 0 rfl rfl 1 (by decide) (hts _ k_X0_drop_f15) (fun _ h9 => h9) rfl dX0_drop_66 ?_
              refine lv_iload_n hx hb dX0_drop_69 rfl (lv_at hl 2 rfl) ?_
              refine lv_aload_n hx hb dX0_drop_70 rfl (lv_at hl 0 rfl) ?_
              refine va_get (D := (dC, dI)) (ci := 0) (v := .ref b2) (C := RX0) (T := TX0) (N := 4) hx hb hts (k_X0_drop_in0) hown hK hP 0 rfl rfl 1 (by decide) (hts _ k_X0_drop_f15) (fun _ h9 => h9) rfl dX0_drop_71 ?_
              refine lv_iload_n hx hb dX0_drop_74 rfl (lv_at hl 2 rfl) ?_
              refine lv_iconst (v := 1) hx hb dX0_drop_75 (by decide) ?_
              refine lv_iadd hx hb dX0_drop_76 ?_
              refine ck_toi (y := nI (i + 1)) (nI_1 _) ?_
              refine ck_iald hx hb hK hP 2 0 rfl rfl (by omega) (by decide) dX0_drop_77 ?_
              refine ck_iast hx hb hK hP hD hS 2 0 rfl rfl (by omega) (by decide) dX0_drop_78 (fun H locs hP hD hS => ?_)
              have hP : va_P (dC, dI) vwCl [(cn, .inr (0, [.ref b1, .ref b2, .int (nI k), .int (nI t0)])), (b1, .inl (cJ, 64, .inr (.inl (vp_updL y1 i (y1 (i + 1)))))), (b2, .inl (cI, 64, .inl (upd y2 i (y2 (i + 1)))))] H := hP
              have hD : va_D A [(cn, .inr (0, [.ref b1, .ref b2, .int (nI k), .int (nI t0)])), (b1, .inl (cJ, 64, .inr (.inl (vp_updL y1 i (y1 (i + 1)))))), (b2, .inl (cI, 64, .inl (upd y2 i (y2 (i + 1)))))] := hD
              refine lv_iinc (v := nI (i + 1)) (lv' := [(2, .int (nI (i + 1))), (0, .ref cn), (1, .int (nI j))]) hx hb dX0_drop_79 hl (k := 2) rfl (nI_1 _) (by decide) rfl (fun ls hl => ?_)
              refine lv_goto (tgt := 43) hx hb dX0_drop_82 (by decide) ?_
              exact ih (i + 1) (vp_updL y1 i (y1 (i + 1))) (upd y2 i (y2 (i + 1))) (⟨by omega, by omega⟩) (by omega) (ck_shfL h1 (by omega)) (ck_shfI h2 (by omega)) _ _ _ (hP.sub [0, 1, 2] rfl) (hD.sub [0, 1, 2] (by decide) rfl) hS (lv_sub hl [1, 2, 0] rfl)
        exact hloop (k + 1) j g1 g2 (⟨by omega, by omega⟩) (by omega) (ck_shf0) (ck_shf0) _ _ _ (hP.sub [0, 1, 2] rfl) (hD.sub [0, 1, 2] (by decide) rfl) hS (lv_sub hl [1, 2, 0] rfl)
    · skip
      have c_9 : ¬ (j < (k + 1)) := fun z => c_9 ((nI_ltI (by omega) (by omega)).mpr z)
      omega
