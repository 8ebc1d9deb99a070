/-! PURE: the search as a whole. -/
def bfs_run (dn : Nat → Bool) (nx : Nat → (Nat → Nat) × List Nat → (Nat → Nat) × List Nat) : Nat → Nat → (Nat → Nat) × List Nat → Option Nat × (Nat → Nat) × List Nat
  | 0, _, st => (none, st)
  | f + 1, h, st => if h < st.2.length then (if dn (st.2.getD h 0) = true then (some (st.2.getD h 0), st) else bfs_run dn nx f (h + 1) (nx (st.2.getD h 0) st)) else (none, st)
def bfs_0 : (Nat → Nat) × List Nat := (fun _ => 0, [])
def bfs_o (r : Option Nat) : Int32 := match r with
  | some x => nI x
  | none => -1
theorem bfs_0_WF (n : Nat) : bfs_WF n bfs_0 := ⟨fun x h => (by cases h), List.nodup_nil, fun j _ h => absurd rfl h⟩
theorem bfs_0_RS {n : Nat} {f g : Nat → Int32} (h : ∀ j, j < n → f j = 0) : bfs_RS n bfs_0 f g := ⟨fun j hj => h j hj, fun i hi => absurd hi (Nat.not_lt_zero i)⟩
/-- what holds of a search all the way: well-formed, and all that is met is of a kind -/
def bfs_J (n : Nat) (P : Nat → Prop) (st : (Nat → Nat) × List Nat) : Prop := bfs_WF n st ∧ ∀ y ∈ st.2, P y
theorem bfs_mt_mem {st : (Nat → Nat) × List Nat} {b : Nat} {y : Nat × Nat} {z : Nat} (h : z ∈ (bfs_mt st b y).2) : z ∈ st.2 ∨ z = y.1 := by
  unfold bfs_mt at h
  split at h
  · rcases List.mem_append.mp h with q | q
    · exact Or.inl q
    · exact Or.inr (by simpa using q)
  · exact Or.inl h
theorem bfs_mt_J {n x : Nat} {P : Nat → Prop} {st : (Nat → Nat) × List Nat} {y : Nat × Nat} (h : bfs_J n P st ∧ st.1 x ≠ 0) (hn : n ≤ 10000) (hx : x < n) (hy : y.1 < n) (hk : y.2 < 256) (hp : P y.1) : bfs_J n P (bfs_mt st x y) ∧ (bfs_mt st x y).1 x ≠ 0 := by
  have h1 := bfs_mt_I (n := n) (x := x) ⟨h.1.1, h.2⟩ hn hx hy hk
  refine ⟨⟨h1.1, fun z hz => ?_⟩, h1.2⟩
  rcases bfs_mt_mem hz with q | q
  · exact h.1.2 z q
  · rw [q]; exact hp
theorem bfs_getD {st : (Nat → Nat) × List Nat} {h : Nat} (hl : h < st.2.length) : st.2.getD h 0 ∈ st.2 := by
  rw [List.getD_eq_getElem?_getD, List.getElem?_eq_getElem hl]
  exact List.getElem_mem hl
theorem bfs_st_J {n a : Nat} {P : Nat → Prop} (hn : n ≤ 10000) (ha : a < n) (hp : P a) : bfs_J n P (bfs_mt bfs_0 a (a, 0)) := by
  refine ⟨bfs_mt_WF (bfs_0_WF n) ha ha hn (by decide) (Or.inl rfl), fun z hz => ?_⟩
  rcases bfs_mt_mem hz with q | q
  · cases q
  · rw [q]; exact hp
/-! the jugs' steps stay among good states -/
theorem jg_d_add {x p i k : Nat} (hi : i < 4) (hk : k < 4) (hp : p + jg_d x i ≤ 9) : jg_d (x + p * 10 ^ i) k = if k = i then jg_d x i + p else jg_d x k := by
  rcases jg_case hi with rfl | rfl | rfl | rfl <;> rcases jg_case hk with rfl | rfl | rfl | rfl <;> simp only [jg_d] at hp ⊢ <;> simp <;> omega
theorem jg_d_sub {x p i k : Nat} (hi : i < 4) (hk : k < 4) (hp : p ≤ jg_d x i) : jg_d (x - p * 10 ^ i) k = if k = i then jg_d x i - p else jg_d x k := by
  rcases jg_case hi with rfl | rfl | rfl | rfl <;> rcases jg_case hk with rfl | rfl | rfl | rfl <;> simp only [jg_d] at hp ⊢ <;> simp <;> omega
theorem jg_fill_good {jc : Nat} {sz fl : Nat → Nat} {fS fF : Nat → Int32} (hJ : jg_ok jc sz fl fS fF) {x i : Nat} (hG : jg_good jc sz x) (hi : i < jc) : jg_good jc sz (jg_fill sz x i).1 := by
  have hc := hJ.1
  have hq := hJ.2 i hi
  have hg := hG.2 i hi
  refine ⟨jg_fill_lt hc hi hG.1 hq.2.2.1 hg, fun k hk => ?_⟩
  show jg_d (x + (sz i - jg_d x i) * 10 ^ i) k ≤ sz k
  rw [jg_d_add (by omega) (by omega) (by omega)]
  split
  · rename_i e; subst e; omega
  · exact hG.2 k hk
theorem jg_empt_good {jc : Nat} {sz : Nat → Nat} (hc : jc ≤ 4) {x i : Nat} (hG : jg_good jc sz x) (hi : i < jc) : jg_good jc sz (jg_empt x i).1 := by
  refine ⟨jg_empt_lt hG.1, fun k hk => ?_⟩
  show jg_d (x - jg_d x i * 10 ^ i) k ≤ sz k
  rw [jg_d_sub (by omega) (by omega) (Nat.le_refl _)]
  split
  · omega
  · exact hG.2 k hk
theorem jg_pour_good {jc : Nat} {sz fl : Nat → Nat} {fS fF : Nat → Int32} (hJ : jg_ok jc sz fl fS fF) {x i j : Nat} (hG : jg_good jc sz x) (hi : i < jc) (hj : j < jc) : jg_good jc sz (jg_pour sz x i j).1 := by
  have hc := hJ.1
  have hqj := hJ.2 j hj
  have hgj := hG.2 j hj
  have h1 := jg_p_le1 sz x i j
  have h2 := jg_p_le2 sz x i j
  refine ⟨jg_pour_lt hc hj hG.1 hqj.2.2.1 hgj, fun k hk => ?_⟩
  show jg_d (x + jg_p sz x i j * 10 ^ j - jg_p sz x i j * 10 ^ i) k ≤ sz k
  by_cases e : i = j
  · subst e
    rw [Nat.add_sub_cancel]
    exact hG.2 k hk
  · have hdi : jg_d (x + jg_p sz x i j * 10 ^ j) i = jg_d x i := by rw [jg_d_add (by omega) (by omega) (by omega), if_neg e]
    rw [jg_d_sub (by omega) (by omega) (by rw [hdi]; exact h1), hdi, jg_d_add (by omega) (by omega) (by omega)]
    have hgk := hG.2 k hk
    split
    · rename_i e2; subst e2; omega
    · split
      · rename_i e2; subst e2; omega
      · exact hgk
theorem jg_next_ind {jc : Nat} {sz fl : Nat → Nat} {fS fF : Nat → Int32} (hJ : jg_ok jc sz fl fS fF) {x : Nat} (hG : jg_good jc sz x) (Φ : (Nat → Nat) × List Nat → Prop) (hΦ : ∀ (st : (Nat → Nat) × List Nat) (y : Nat × Nat), Φ st → jg_good jc sz y.1 → y.2 < 256 → Φ (bfs_mt st x y)) {st : (Nat → Nat) × List Nat} (h : Φ st) : Φ (jg_next jc sz x st) := by
  have hc := hJ.1
  have l1 : ∀ i, i ≤ jc → Φ (jg_l1 sz x st i) := by
    intro i
    induction i with
    | zero => intro _; exact h
    | succ i ih => intro hi; exact hΦ _ _ (ih (by omega)) (jg_fill_good hJ hG (by omega)) (show i + 1 < 256 by omega)
  have l3 : ∀ (i : Nat), i < jc → ∀ S, Φ S → ∀ j, j ≤ jc → Φ (jg_l3 sz x i S j) := by
    intro i hi S hS j
    induction j with
    | zero => intro _; exact hS
    | succ j ih => intro hj; exact hΦ _ _ (ih (by omega)) (jg_pour_good hJ hG hi (by omega)) (show (i + 1) * 8 + (j + 1) < 256 by omega)
  have l2 : ∀ i, i ≤ jc → Φ (jg_l2 jc sz x (jg_l1 sz x st jc) i) := by
    intro i
    induction i with
    | zero => intro _; exact l1 jc (Nat.le_refl _)
    | succ i ih => intro hi; exact l3 i (by omega) _ (hΦ _ _ (ih (by omega)) (jg_empt_good hc hG (by omega)) (show (i + 1) * 8 < 256 by omega)) jc (Nat.le_refl _)
  exact l2 jc (Nat.le_refl _)
theorem jg_pow {jc : Nat} (hc : jc ≤ 4) : 10 ^ jc ≤ 10000 := by
  rcases jg_casec hc with rfl | rfl | rfl | rfl | rfl <;> decide
theorem jg_next_J {jc n : Nat} {sz fl : Nat → Nat} {fS fF : Nat → Int32} (hJ : jg_ok jc sz fl fS fF) {x : Nat} (hG : jg_good jc sz x) (hn : n ≤ 10000) (hnc : 10 ^ jc ≤ n) {st : (Nat → Nat) × List Nat} (h : bfs_J n (jg_good jc sz) st ∧ st.1 x ≠ 0) : bfs_J n (jg_good jc sz) (jg_next jc sz x st) ∧ (jg_next jc sz x st).1 x ≠ 0 :=
  jg_next_ind hJ hG (fun st => bfs_J n (jg_good jc sz) st ∧ st.1 x ≠ 0) (fun st y h1 h2 h3 => bfs_mt_J h1 hn (Nat.lt_of_lt_of_le hG.1 hnc) (Nat.lt_of_lt_of_le h2.1 hnc) h3 h2) h
theorem jg_sum_good {jc : Nat} {sz fl : Nat → Nat} {fS fF : Nat → Int32} (hJ : jg_ok jc sz fl fS fF) : jg_good jc sz (jg_sum fl jc) := by
  have h : ∀ i, i < jc → fl i ≤ sz i ∧ sz i ≤ 9 := fun i hi => ⟨(hJ.2 i hi).2.2.2.2, (hJ.2 i hi).2.2.1⟩
  have key : ∀ c, c ≤ jc → jg_sum fl c < 10 ^ c ∧ (∀ i, i < c → jg_d (jg_sum fl c) i = fl i) := by
    intro c
    induction c with
    | zero => intro _; exact ⟨(show 0 < 1 by decide), fun i hi => absurd hi (Nat.not_lt_zero i)⟩
    | succ c ih =>
      intro hc
      obtain ⟨h1, h2⟩ := ih (by omega)
      have h3 := h c (by omega)
      have hd0 : jg_d (jg_sum fl c) c = 0 := by
        unfold jg_d
        rw [Nat.div_eq_of_lt h1]
      have hc4 := hJ.1
      refine ⟨?_, fun i hi => ?_⟩
      · show jg_sum fl c + fl c * 10 ^ c < 10 ^ (c + 1)
        have h4 : fl c * 10 ^ c ≤ 9 * 10 ^ c := Nat.mul_le_mul_right _ (by omega)
        rw [Nat.pow_succ]
        omega
      · show jg_d (jg_sum fl c + fl c * 10 ^ c) i = fl i
        rw [jg_d_add (by omega) (by omega) (by omega), hd0]
        by_cases e : i = c
        · rw [if_pos e, e]; omega
        · rw [if_neg e]; exact h2 i (by omega)
  obtain ⟨k1, k2⟩ := key jc (Nat.le_refl _)
  exact ⟨k1, fun i hi => by rw [k2 i hi]; exact (h i hi).1⟩
abbrev jg_done (jc : Nat) (fW : Nat → Int32) (x : Nat) : Prop := ∀ i, i < jc → fW i = -1 ∨ fW i = nI (jg_d x i)
def jg_dn (jc : Nat) (fW : Nat → Int32) (x : Nat) : Bool := decide (jg_done jc fW x)
/-! the river's steps -/
theorem rv_go_ind {nw : Nat → Nat} {bt x bank on : Nat} (hx : x < 512) (hb : bank < 256) (ho : on = 0 ∨ on = 256) (Φ : (Nat → Nat) × List Nat → Prop) (hΦ : ∀ (st : (Nat → Nat) × List Nat) (y : Nat × Nat), Φ st → y.1 < 512 → y.2 < 256 → Φ (bfs_mt st x y)) : ∀ (f t : Nat) (st : (Nat → Nat) × List Nat), t < 256 → Φ st → Φ (rv_go nw bt x bank on f t st) := by
  intro f
  induction f with
  | zero => intro t st _ h; exact h
  | succ f ih =>
    intro t st ht h
    have h1 : Φ (if rv_pop t ≤ bt ∧ rv_stay nw (rv_wo bank t) then bfs_mt st x (on ||| (x % 256 ^^^ t), t) else st) := by
      split
      · exact hΦ _ _ h (rv_tgt_lt ho (by omega) ht) ht
      · exact h
    unfold rv_go
    split
    · exact h1
    · exact ih _ _ (rv_nx_lt hb) h1
theorem rv_bank_lt {tn x : Nat} (ht : tn ≤ 8) : rv_bank tn x < 256 := by
  have hp : 2 ^ tn ≤ 2 ^ 8 := Nat.pow_le_pow_right (by decide) ht
  unfold rv_bank
  split
  · exact rv_wo_lt (by omega)
  · omega
theorem rv_on_ok (x : Nat) : rv_on x = 0 ∨ rv_on x = 256 := by unfold rv_on; split <;> simp
theorem rv_next_J {tn bt x n : Nat} {nw : Nat → Nat} (ht : tn ≤ 8) (hx : x < 512) (hn : n ≤ 10000) (hn5 : 512 ≤ n) {st : (Nat → Nat) × List Nat} (h : bfs_J n (fun y => y < 512) st ∧ st.1 x ≠ 0) : bfs_J n (fun y => y < 512) (rv_next tn nw bt x st) ∧ (rv_next tn nw bt x st).1 x ≠ 0 :=
  rv_go_ind hx (rv_bank_lt ht) (rv_on_ok x) (fun st => bfs_J n (fun y => y < 512) st ∧ st.1 x ≠ 0) (fun st y h1 h2 h3 => bfs_mt_J h1 hn (by omega) (by omega) h3 h2) 256 0 st (by decide) h
def rv_dn (tn x : Nat) : Bool := decide (x % 256 = 2 ^ tn - 1)
def jg_RUN (jc : Nat) (sz fl : Nat → Nat) (fW : Nat → Int32) : Option Nat × (Nat → Nat) × List Nat := bfs_run (jg_dn jc fW) (jg_next jc sz) 10000 0 (bfs_mt bfs_0 (jg_sum fl jc) (jg_sum fl jc, 0))
def rv_RUN (tn : Nat) (nw : Nat → Nat) (bt : Nat) : Option Nat × (Nat → Nat) × List Nat := bfs_run (rv_dn tn) (rv_next tn nw bt) 10000 0 (bfs_mt bfs_0 0 (0, 0))
/-- how many steps a search found: 0 where it found none -/
def bfs_L (R : Option Nat × (Nat → Nat) × List Nat) : Nat := match R.1 with
  | some x => bfs_cnt (bfs_bf R.2.1) 10000 x
  | none => 0
def bfs_A (R : Option Nat × (Nat → Nat) × List Nat) : Int32 := match R.1 with
  | some x => nI (bfs_cnt (bfs_bf R.2.1) 10000 x)
  | none => -1
theorem bfs_run_J {n : Nat} {P : Nat → Prop} {dn : Nat → Bool} {nx : Nat → (Nat → Nat) × List Nat → (Nat → Nat) × List Nat} (hnx : ∀ x st, P x → bfs_J n P st ∧ st.1 x ≠ 0 → bfs_J n P (nx x st) ∧ (nx x st).1 x ≠ 0) : ∀ (f h : Nat) (st : (Nat → Nat) × List Nat), bfs_J n P st → bfs_J n P (bfs_run dn nx f h st).2 ∧ ∀ x, (bfs_run dn nx f h st).1 = some x → x ∈ (bfs_run dn nx f h st).2.2 := by
  intro f
  induction f with
  | zero => intro h st hj; exact ⟨hj, fun x hx => by cases hx⟩
  | succ f ih =>
    intro h st hj
    unfold bfs_run
    split
    · rename_i hl
      have hm := bfs_getD hl
      split
      · exact ⟨hj, fun x hx => by cases hx; exact hm⟩
      · exact ih _ _ (hnx _ st (hj.2 _ hm) ⟨hj, (hj.1.1 _ hm).2⟩).1
    · exact ⟨hj, fun x hx => by cases hx⟩
theorem jg_RUN_J {jc n : Nat} {sz fl : Nat → Nat} {fS fF fW : Nat → Int32} (hJ : jg_ok jc sz fl fS fF) (hn : n ≤ 10000) (hnc : 10 ^ jc ≤ n) : bfs_J n (jg_good jc sz) (jg_RUN jc sz fl fW).2 ∧ ∀ x, (jg_RUN jc sz fl fW).1 = some x → x ∈ (jg_RUN jc sz fl fW).2.2 :=
  bfs_run_J (fun _ _ hp h => jg_next_J hJ hp hn hnc h) 10000 0 _ (bfs_st_J hn (Nat.lt_of_lt_of_le (jg_sum_good hJ).1 hnc) (jg_sum_good hJ))
theorem rv_RUN_J {tn bt n : Nat} {nw : Nat → Nat} (ht : tn ≤ 8) (hn : n ≤ 10000) (hnc : 512 ≤ n) : bfs_J n (fun y => y < 512) (rv_RUN tn nw bt).2 ∧ ∀ x, (rv_RUN tn nw bt).1 = some x → x ∈ (rv_RUN tn nw bt).2.2 :=
  bfs_run_J (fun _ _ hp h => rv_next_J ht hp hn hnc h) 10000 0 _ (bfs_st_J (P := fun y => y < 512) hn (by omega) (by decide))
/-- i steps back -/
def bfs_it (g : Nat → Nat) : Nat → Nat → Nat
  | 0, x => x
  | i + 1, x => g (bfs_it g i x)
theorem bfs_it_ok {n : Nat} {st : (Nat → Nat) × List Nat} (h : bfs_WF n st) {x : Nat} (hx : x < n) (hz : st.1 x ≠ 0) : ∀ i, bfs_it (bfs_bf st.1) i x < n ∧ st.1 (bfs_it (bfs_bf st.1) i x) ≠ 0 := by
  intro i
  induction i with
  | zero => exact ⟨hx, hz⟩
  | succ i ih =>
    obtain ⟨-, -, h1, h2⟩ := h.2.2 _ ih.1 ih.2
    exact ⟨h1, h2⟩
