/-! MY ROWS: class and model side by side: what they share, and that a step of both keeps it -/
theorem ck_L_len {α : Type} (n : Nat) (F : Nat → α) : (ck_L n F).length = n := by simp [ck_L]
theorem ck_L_mem {α : Type} {n : Nat} {F : Nat → α} {x : α} : x ∈ ck_L n F ↔ ∃ j, j < n ∧ F j = x := by
  unfold ck_L
  rw [List.mem_map]
  constructor
  · rintro ⟨j, hj, e⟩; exact ⟨j, List.mem_range.mp hj, e⟩
  · rintro ⟨j, hj, e⟩; exact ⟨j, List.mem_range.mpr hj, e⟩
def ck_ks (L : List ck_R5) : List Int64 := L.map (fun r => r.1)
theorem ck_ks_mem {L : List ck_R5} {x : Int64} : x ∈ ck_ks L ↔ ∃ r, r ∈ L ∧ r.1 = x := List.mem_map
theorem ck_ks_uniq {L : List ck_R5} (h : (ck_ks L).Nodup) {a b : ck_R5} (ha : a ∈ L) (hb : b ∈ L) (e : a.1 = b.1) : a = b := by
  induction L with
  | nil => exact absurd ha List.not_mem_nil
  | cons c L ih =>
    have h1 : (c.1 :: ck_ks L).Nodup := h
    rw [List.nodup_cons] at h1
    rcases List.mem_cons.mp ha with za | za
    · rcases List.mem_cons.mp hb with zb | zb
      · rw [za, zb]
      · exact absurd (ck_ks_mem.mpr ⟨b, zb, by rw [← e, za]⟩) h1.1
    · rcases List.mem_cons.mp hb with zb | zb
      · exact absurd (ck_ks_mem.mpr ⟨a, za, by rw [e, zb]⟩) h1.1
      · exact ih h1.2 za zb
theorem ck_ks_perm {L L' : List ck_R5} (h : L.Perm L') : (ck_ks L).Nodup ↔ (ck_ks L').Nodup := (List.Perm.map (fun r : ck_R5 => r.1) h).nodup_iff
theorem ck_ks_sub {L L' : List ck_R5} (h : L.Sublist L') (hn : (ck_ks L').Nodup) : (ck_ks L).Nodup := List.Nodup.sublist (List.Sublist.map (fun r : ck_R5 => r.1) h) hn
def ck_IH (n : Nat) (F G : Nat → ck_R5) (p2 : Nat → Int32) : Prop := n ≤ 32 ∧ (ck_L n F).Perm (ck_L n G) ∧ (ck_ks (ck_L n G)).Nodup ∧ ∀ i, i < n → ck_pok (p2 i)
theorem ck_two {n : Nat} {F G : Nat → ck_R5} {p2 : Nat → Int32} (I : ck_IH n F G p2) {j j' : Nat} {x : Int64} (hj : j < n) (hj' : j' < n) (e : (F j).1 = x) (e' : (G j').1 = x) : F j = G j' := by
  refine ck_ks_uniq I.2.2.1 (I.2.1.mem_iff.mp (ck_L_mem.mpr ⟨j, hj, rfl⟩)) (ck_L_mem.mpr ⟨j', hj', rfl⟩) (e.trans e'.symm)
theorem ck_toG {n : Nat} {F G : Nat → ck_R5} {p2 : Nat → Int32} (I : ck_IH n F G p2) {j : Nat} {x : Int64} (hj : j < n) (e : (F j).1 = x) : ∃ i, i < n ∧ (G i).1 = x := by
  obtain ⟨i, hi, ei⟩ := ck_L_mem.mp (I.2.1.mem_iff.mp (ck_L_mem.mpr ⟨j, hj, rfl⟩))
  exact ⟨i, hi, by rw [ei, e]⟩
theorem ck_toF {n : Nat} {F G : Nat → ck_R5} {p2 : Nat → Int32} (I : ck_IH n F G p2) {j : Nat} {x : Int64} (hj : j < n) (e : (G j).1 = x) : ∃ i, i < n ∧ (F i).1 = x := by
  obtain ⟨i, hi, ei⟩ := ck_L_mem.mp (I.2.1.mem_iff.mpr (ck_L_mem.mpr ⟨j, hj, rfl⟩))
  exact ⟨i, hi, by rw [ei, e]⟩
theorem ck_gone2 {n : Nat} {F G F' G' : Nat → ck_R5} {p2 : Nat → Int32} (I : ck_IH (n + 1) F G p2) {j j' : Nat} {x : Int64} (hj : j < n + 1) (hj' : j' < n + 1) (e : (F j).1 = x) (e' : (G j').1 = x) (h : ck_gone n F F' j) (h' : ck_gone n G G' j') : (ck_L n F').Perm (ck_L n G') ∧ (ck_ks (ck_L n G')).Nodup ∧ ¬ x ∈ ck_ks (ck_L n G') := by
  have h1 := ck_two I hj hj' e e'
  have h2 : (F j :: ck_L n F').Perm (G j' :: ck_L n G') := (h.2.symm.trans I.2.1).trans h'.2
  rw [h1] at h2
  have h3 := (ck_ks_perm h'.2).mp I.2.2.1
  have h4 : ((G j').1 :: ck_ks (ck_L n G')).Nodup := h3
  rw [List.nodup_cons, e'] at h4
  exact ⟨(List.perm_cons _).mp h2, h4.2, h4.1⟩
theorem ck_nokey {n : Nat} {p1 p2 p3 p4 p5 p6 : Nat → Int32} {a b : Int32} (hp : ∀ i, i < n → ck_pok (p2 i)) (hb : ck_pok b) (h : ∀ i, i < n → ¬ (p1 i = a ∧ p2 i = b)) : ¬ ck_clr a b ∈ ck_ks (ck_L n (ck_M p1 p2 p3 p4 p5 p6)) := by
  intro hm
  obtain ⟨r, hr, er⟩ := ck_ks_mem.mp hm
  obtain ⟨j, hj, ej⟩ := ck_L_mem.mp hr
  rw [← ej] at er
  exact h j hj (ck_clr_inj (hp j hj) hb er)
theorem ck_Mkey {p1 p2 p3 p4 p5 p6 : Nat → Int32} {a b : Int32} {j : Nat} (h1 : p1 j = a) (h2 : p2 j = b) : (ck_M p1 p2 p3 p4 p5 p6 j).1 = ck_clr a b := by
  show ck_clr (p1 j) (p2 j) = _
  rw [h1, h2]
/-- class's half and model's: none / one -/
theorem ck_hn {n : Nat} {f1 : Nat → Int64} {f2 f3 f4 f5 p1 p2 p3 p4 p5 p6 : Nat → Int32} {a b : Int32} (I : ck_IH n (ck_R f1 f2 f3 f4 f5) (ck_M p1 p2 p3 p4 p5 p6) p2) (hb : ck_pok b) : (∃ j, j < n ∧ f1 j = ck_clr a b) ↔ ∃ j, j < n ∧ p1 j = a ∧ p2 j = b := by
  constructor
  · rintro ⟨j, hj, e⟩
    obtain ⟨i, hi, ei⟩ := ck_toG I (x := ck_clr a b) hj e
    exact ⟨i, hi, ck_clr_inj (I.2.2.2 i hi) hb ei⟩
  · rintro ⟨j, hj, e1, e2⟩
    exact ck_toF I hj (ck_Mkey e1 e2)
theorem ck_eqs {f1 : Nat → Int64} {f2 f3 f4 f5 p1 p2 p3 p4 p5 p6 : Nat → Int32} {j j' : Nat} (h : ck_R f1 f2 f3 f4 f5 j = ck_M p1 p2 p3 p4 p5 p6 j') : f2 j = p3 j' ∧ f3 j = p4 j' ∧ f4 j = p5 j' := by
  have h1 := congrArg (fun r : ck_R5 => r.2.1) h
  have h2 := congrArg (fun r : ck_R5 => r.2.2.1) h
  have h3 := congrArg (fun r : ck_R5 => r.2.2.2.1) h
  exact ⟨h1, h2, h3⟩
/-- the open ones -/
def ck_IC (kc t : Nat) (g1 : Nat → Int64) (g2 t1 t2 t3 t4 : Nat → Int32) : Prop := kc ≤ 64 ∧ t ≤ kc ∧ (∀ i, i < kc → g1 i = ck_clr (t1 i) (t2 i) ∧ g2 i = t3 i ∧ t4 i = (if i < t then 1 else 0) ∧ ck_pok (t2 i)) ∧ ∀ i i', i < kc → i' < kc → g1 i = g1 i' → i = i'
theorem ck_on {kc t : Nat} {g1 : Nat → Int64} {g2 t1 t2 t3 t4 : Nat → Int32} {a b : Int32} (I : ck_IC kc t g1 g2 t1 t2 t3 t4) (hb : ck_pok b) {j : Nat} (hj : j < kc) : g1 j = ck_clr a b ↔ t1 j = a ∧ t2 j = b := by
  rw [(I.2.2.1 j hj).1]
  constructor
  · intro h; exact ck_clr_inj (I.2.2.1 j hj).2.2.2 hb h
  · rintro ⟨rfl, rfl⟩; rfl
theorem ck_oe {kc t : Nat} {g1 : Nat → Int64} {g2 t1 t2 t3 t4 : Nat → Int32} {a b : Int32} (I : ck_IC kc t g1 g2 t1 t2 t3 t4) (hb : ck_pok b) : (∃ j, j < kc ∧ g1 j = ck_clr a b) ↔ ∃ j, j < kc ∧ t1 j = a ∧ t2 j = b := by
  constructor
  · rintro ⟨j, hj, e⟩; exact ⟨j, hj, (ck_on I hb hj).mp e⟩
  · rintro ⟨j, hj, e⟩; exact ⟨j, hj, (ck_on I hb hj).mpr e⟩
theorem ck_cnt_if (n t : Nat) (f : Nat → Int32) (h : ∀ i, i < n → f i = if i < t then 1 else 0) : ck_cnt n f = n - t := by
  induction n with
  | zero => simp [ck_cnt]
  | succ n ih =>
    rw [ck_cntS, ih (fun i hi => h i (by omega)), h n (by omega)]
    by_cases z : n < t
    · rw [if_pos z, if_neg (by decide)]; omega
    · rw [if_neg z, if_pos rfl]; omega
theorem ck_wt {kc t : Nat} {g1 : Nat → Int64} {g2 t1 t2 t3 t4 : Nat → Int32} (I : ck_IC kc t g1 g2 t1 t2 t3 t4) : ck_cnt kc t4 = kc - t := ck_cnt_if kc t t4 fun i hi => (I.2.2.1 i hi).2.2.1
theorem ck_IC_add {kc t : Nat} {g1 : Nat → Int64} {g2 t1 t2 t3 t4 : Nat → Int32} {a b kd : Int32} (I : ck_IC kc t g1 g2 t1 t2 t3 t4) (hk : kc < 64) (hb : ck_pok b) (hno : ∀ i, i < kc → g1 i ≠ ck_clr a b) : ck_IC (kc + 1) t (vp_updL g1 kc (ck_clr a b)) (upd g2 kc kd) (upd t1 kc a) (upd t2 kc b) (upd t3 kc kd) (upd t4 kc 0) := by
  obtain ⟨h1, h2, h3, h4⟩ := I
  refine ⟨by omega, by omega, ?_, ?_⟩
  · intro i hi
    by_cases e : i = kc
    · subst e
      simp only [vp_updL, upd, if_true]
      exact ⟨trivial, trivial, by rw [if_neg (by omega)], hb⟩
    · simp only [vp_updL, upd, if_neg e]
      exact h3 i (by omega)
  · intro i i' hi hi' e
    by_cases z : i = kc
    · by_cases z' : i' = kc
      · omega
      · simp only [vp_updL, if_pos z, if_neg z'] at e
        exact absurd e.symm (hno i' (by omega))
    · by_cases z' : i' = kc
      · simp only [vp_updL, if_pos z', if_neg z] at e
        exact absurd e (hno i (by omega))
      · simp only [vp_updL, if_neg z', if_neg z] at e
        exact h4 i i' (by omega) (by omega) e
theorem ck_IC_drop {k2 t : Nat} {g1 q1 : Nat → Int64} {g2 t1 t2 t3 t4 q2 o1 o2 o3 o4 : Nat → Int32} {j : Nat} (I : ck_IC (k2 + 1) t g1 g2 t1 t2 t3 t4) (hj : j < k2 + 1) (h1 : ck_shf g1 q1 j k2) (h2 : ck_shf g2 q2 j k2) (e1 : ck_shf t1 o1 j k2) (e2 : ck_shf t2 o2 j k2) (e3 : ck_shf t3 o3 j k2) (e4 : ck_shf t4 o4 j k2) : ck_IC k2 (if j < t then t - 1 else t) q1 q2 o1 o2 o3 o4 := by
  obtain ⟨y1, y2, y3, y4⟩ := I
  refine ⟨by omega, by split <;> omega, ?_, ?_⟩
  · intro i hi
    rw [h1 i, h2 i, e1 i, e2 i, e3 i, e4 i]
    by_cases z : j ≤ i
    · have z' : j ≤ i ∧ i < k2 := ⟨z, hi⟩
      simp only [if_pos z']
      obtain ⟨x1, x2, x3, x4⟩ := y3 (i + 1) (by omega)
      refine ⟨x1, x2, ?_, x4⟩
      rw [x3]
      by_cases w : j < t
      · rw [if_pos w]
        by_cases u : i + 1 < t
        · rw [if_pos u, if_pos (by omega)]
        · rw [if_neg u, if_neg (by omega)]
      · rw [if_neg w, if_neg (by omega), if_neg (by omega)]
    · have z' : ¬ (j ≤ i ∧ i < k2) := fun y => z y.1
      simp only [if_neg z']
      obtain ⟨x1, x2, x3, x4⟩ := y3 i (by omega)
      refine ⟨x1, x2, ?_, x4⟩
      rw [x3]
      by_cases w : j < t
      · rw [if_pos w, if_pos (by omega), if_pos (by omega)]
      · rw [if_neg w]
  · intro i i' hi hi' e
    rw [h1 i, h1 i'] at e
    by_cases z : j ≤ i ∧ i < k2
    · by_cases z' : j ≤ i' ∧ i' < k2
      · rw [if_pos z, if_pos z'] at e
        have := y4 _ _ (by omega) (by omega) e
        omega
      · rw [if_pos z, if_neg z'] at e
        have := y4 _ _ (by omega) (by omega) e
        omega
    · by_cases z' : j ≤ i' ∧ i' < k2
      · rw [if_neg z, if_pos z'] at e
        have := y4 _ _ (by omega) (by omega) e
        omega
      · rw [if_neg z, if_neg z'] at e
        exact y4 _ _ (by omega) (by omega) e
/-- times and counters -/
def ck_IT (J : Nat) (ti ct gv mct : Int32) : Prop := (∃ T, T ≤ 10000 * J ∧ ti = nI T) ∧ (∃ v, v ≤ J ∧ gv = nI v) ∧ ((gv = 0 ∧ mct = -1) ∨ (0 < gv ∧ ct = mct ∧ 0 ≤ mct))
theorem ck_IT.up {J : Nat} {ti ct gv mct : Int32} (h : ck_IT J ti ct gv mct) : ck_IT (J + 1) ti ct gv mct := by
  obtain ⟨⟨T, h1, e1⟩, ⟨v, h2, e2⟩, h3⟩ := h
  exact ⟨⟨T, by omega, e1⟩, ⟨v, by omega, e2⟩, h3⟩
theorem ck_IT.pass {J : Nat} {ti ct gv mct se : Int32} (h : ck_IT J ti ct gv mct) (h1 : 0 ≤ se) (h2 : se ≤ 10000) : ck_IT (J + 1) (ti + se) ct gv mct := by
  obtain ⟨⟨T, h3, rfl⟩, ⟨v, h4, e2⟩, h5⟩ := h
  obtain ⟨q, hq, rfl⟩ := nI_of2 (M := 10000) (n := 10000) rfl (Int32.not_lt.mpr h1) h2
  exact ⟨⟨T + q, by omega, nI_add _ _⟩, ⟨v, by omega, e2⟩, h5⟩
theorem ck_IT.given {J : Nat} {ti ct gv mct : Int32} (h : ck_IT J ti ct gv mct) (hJ : J < 512) : ck_IT (J + 1) ti ti (gv + 1) ti := by
  obtain ⟨⟨T, h3, rfl⟩, ⟨v, h4, rfl⟩, h5⟩ := h
  refine ⟨⟨T, by omega, rfl⟩, ⟨v + 1, by omega, nI_1 _⟩, Or.inr ⟨?_, rfl, nI_pos' (by omega)⟩⟩
  rw [nI_1]
  exact (nI_ltI (a := 0) (by decide) (by omega)).mpr (by omega)
theorem ck_IT.ly {J : Nat} {ti ct gv mct : Int32} (h : ck_IT J ti ct gv mct) : ck_lately gv ti ct ↔ ck_mly mct ti := by
  unfold ck_lately ck_mly
  rcases h.2.2 with ⟨h1, h2⟩ | ⟨h1, h2, h3⟩
  · rw [h1, h2]
    constructor
    · intro z; exact absurd z.1 (by decide)
    · intro z; exact absurd (by decide) z.1
  · rw [h2]
    exact ⟨fun z => ⟨Int32.not_lt.mpr h3, z.2⟩, fun z => ⟨h1, z.2⟩⟩
theorem ck_IT.sl {J : Nat} {ti ct gv mct : Int32} (h : ck_IT J ti ct gv mct) (hJ : J < 512) : 0 ≤ ti / 64 ∧ (0 < ti / 64 → 0 ≤ ti / 64 - 1) := by
  obtain ⟨⟨T, h3, rfl⟩, -, -⟩ := h
  have e : (64 : Int32) = nI 64 := rfl
  rw [e, pk_div (by omega) (by decide) (by decide)]
  have hq : T / 64 < 2 ^ 31 := by omega
  refine ⟨nI_pos' hq, fun hz => ?_⟩
  have h0 : 0 < T / 64 := (nI_ltI (a := 0) (by decide) hq).mp hz
  obtain ⟨y, hy⟩ : ∃ y, T / 64 = y + 1 := ⟨T / 64 - 1, by omega⟩
  rw [hy, nI_pred]
  exact nI_pos' (by omega)
theorem ck_IT.late {J : Nat} {ti ct gv mct : Int32} (h : ck_IT J ti ct gv mct) (hJ : J < 512) {k l : Int64} {a b num kd ca : Int32} (hb : ck_pok b) : ck_late k l (ck_clr a b) num kd ti ca ↔ ck_mlate k l a b num kd ti ca := by
  obtain ⟨h1, h2⟩ := h.sl hJ
  unfold ck_late ck_mlate
  rw [ck_same hb h1]
  constructor
  · rintro (z | ⟨z1, z2⟩)
    · exact Or.inl z
    · exact Or.inr ⟨z1, by rw [← ck_same hb (h2 z1)]; exact z2⟩
  · rintro (z | ⟨z1, z2⟩)
    · exact Or.inl z
    · exact Or.inr ⟨z1, by rw [ck_same hb (h2 z1)]; exact z2⟩
theorem ck_lft_sim {n : Nat} {f1 : Nat → Int64} {f2 f3 f4 f5 p1 p2 p3 p4 p5 p6 : Nat → Int32} {a b num : Int32} (I : ck_IH n (ck_R f1 f2 f3 f4 f5) (ck_M p1 p2 p3 p4 p5 p6) p2) (hb : ck_pok b) {n1 m1 : Nat} {F1 G1 : Nat → ck_R5} (h : ck_lft n (ck_R f1 f2 f3 f4 f5) (ck_clr a b) num n1 F1) (h' : ck_mlf n (ck_M p1 p2 p3 p4 p5 p6) p1 p2 a b num m1 G1) : n1 = m1 ∧ n1 ≤ n ∧ (ck_L n1 F1).Perm (ck_L n1 G1) ∧ (ck_ks (ck_L n1 G1)).Nodup ∧ ¬ ck_clr a b ∈ ck_ks (ck_L n1 G1) := by
  rcases h with ⟨h1, h2, h3⟩ | ⟨j, hj, ej, -, e1, hg⟩
  · rcases h' with ⟨y1, y2, y3⟩ | ⟨j, hj, x1, x2, -⟩
    · subst h2; subst h3; subst y3; subst y2
      exact ⟨rfl, Nat.le_refl _, I.2.1, I.2.2.1, ck_nokey I.2.2.2 hb y1⟩
    · obtain ⟨i, hi, ei⟩ := (ck_hn I hb).mpr ⟨j, hj, x1, x2⟩
      exact absurd ei (h1 i hi)
  · rcases h' with ⟨y1, y2, y3⟩ | ⟨j', hj', x1, x2, -, e2, hg'⟩
    · obtain ⟨i, hi, ei⟩ := (ck_hn I hb).mp ⟨j, hj, ej⟩
      exact absurd ei (y1 i hi)
    · have e3 : m1 = n1 := by omega
      subst e3
      subst e1
      obtain ⟨z1, z2, z3⟩ := ck_gone2 I hj hj' ej (ck_Mkey x1 x2) hg hg'
      exact ⟨rfl, by omega, z1, z2, z3⟩
/-- all of it -/
def ck_I (J : Nat) (zs ti ct gv bh bc un : Int32) (n : Nat) (f1 : Nat → Int64) (f2 f3 f4 f5 : Nat → Int32) (kc t : Nat) (g1 : Nat → Int64) (g2 : Nat → Int32) (mct : Int32) (p1 p2 p3 p4 p5 p6 t1 t2 t3 t4 cs : Nat → Int32) : Prop :=
  zs ≤ 32 ∧ ck_IT J ti ct gv mct ∧ ck_IH n (ck_R f1 f2 f3 f4 f5) (ck_M p1 p2 p3 p4 p5 p6) p2 ∧ ck_IC kc t g1 g2 t1 t2 t3 t4 ∧ cs 0 = gv ∧ cs 1 = bh ∧ cs 2 = bc ∧ cs 3 = un
theorem ck_I0 : ck_I 0 4 0 0 0 0 0 0 0 (fun _ => 0) (fun _ => 0) (fun _ => 0) (fun _ => 0) (fun _ => 0) 0 0 (fun _ => 0) (fun _ => 0) (-1) (fun _ => 0) (fun _ => 0) (fun _ => 0) (fun _ => 0) (fun _ => 0) (fun _ => 0) (fun _ => 0) (fun _ => 0) (fun _ => 0) (fun _ => 0) (fun _ => 0) := by
  refine ⟨by decide, ⟨⟨0, by omega, rfl⟩, ⟨0, by omega, rfl⟩, Or.inl ⟨rfl, rfl⟩⟩, ⟨by omega, List.Perm.refl _, List.nodup_nil, fun i hi => by omega⟩, ⟨by omega, by omega, fun i hi => by omega, fun i i' hi => by omega⟩, rfl, rfl, rfl, rfl⟩
theorem ck_addnd {L : List ck_R5} {x : Int64} {y : Int32 × Int32 × Int32 × Int32} (h : (ck_ks L).Nodup) (hx : ¬ x ∈ ck_ks L) : (ck_ks (L ++ [(x, y)])).Nodup := by
  have h1 : (L ++ [(x, y)]).Perm ((x, y) :: L) := List.perm_append_singleton _ _
  rw [ck_ks_perm h1]
  show (x :: ck_ks L).Nodup
  exact List.nodup_cons.mpr ⟨hx, h⟩
