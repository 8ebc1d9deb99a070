/-! PURE: the reference's search. Its rows: fS seen, fQ the queue of codes (f of a state), fP the place of the state before. -/
abbrev bS : Type := (Nat → Nat) × List Nat
def mr (N : Nat) (φ : Nat → Nat) (st : bS) (fS fQ fP : Nat → Int32) : Prop := (∀ x, x < N → fS (φ x) = if st.1 x = 0 then 0 else 1) ∧ (∀ i, i < st.2.length → fQ i = nI (φ (st.2.getD i 0)) ∧ ((i = 0 ∧ fP i = -1 ∧ bfs_bf st.1 (st.2.getD i 0) = st.2.getD i 0) ∨ (∃ k, k < i ∧ fP i = nI k ∧ bfs_bf st.1 (st.2.getD i 0) = st.2.getD k 0)))
theorem mr_getL {l : List Nat} {a i : Nat} (h : i < l.length) : (l ++ [a]).getD i 0 = l.getD i 0 := by simp [List.getD, List.getElem?_append_left h]
theorem mr_getE {l : List Nat} {a : Nat} : (l ++ [a]).getD l.length 0 = a := by simp [List.getD]
theorem mr_mem {l : List Nat} {i : Nat} (h : i < l.length) : l.getD i 0 ∈ l := by
  rw [List.getD_eq_getElem?_getD, List.getElem?_eq_getElem h]
  exact List.getElem_mem h
theorem mr_bfn {tr : Nat → Nat} {a x v : Nat} (h : x ≠ a) : bfs_bf (va_up tr a v) x = bfs_bf tr x := by simp [bfs_bf, va_up, h]
theorem mr_bfs {tr : Nat → Nat} {a b k : Nat} (hk : k < 256) : bfs_bf (va_up tr a (1 + (b * 256 + k))) a = b := by
  simp only [bfs_bf, va_up, if_pos]
  omega
theorem mr_mt {N : Nat} {φ : Nat → Nat} {st : bS} {fS fQ fP : Nat → Int32} (h : mr N φ st fS fQ fP) (hW : ∀ y ∈ st.2, st.1 y ≠ 0) (hφ : ∀ x, x < N → ∀ y, y < N → φ x = φ y → x = y) {a b c k : Nat} (ha : a < N) (h0 : st.1 a = 0) (hk : k < st.2.length) (hb : st.2.getD k 0 = b) (hc : c < 256) : mr N φ (bfs_mt st b (a, c)) (upd fS (φ a) 1) (upd fQ st.2.length (nI (φ a))) (upd fP st.2.length (nI k)) := by
  unfold bfs_mt
  rw [if_pos h0]
  refine ⟨fun x hx => ?_, fun i hi => ?_⟩
  · by_cases e : x = a
    · subst e; rw [pk_us]; simp [va_up]
    · have e2 : φ x ≠ φ a := fun z => e (hφ x hx a ha z)
      rw [pk_un e2, h.1 x hx]
      simp [va_up, e]
  · simp only [List.length_append, List.length_cons, List.length_nil] at hi
    by_cases e : i = st.2.length
    · subst e
      rw [pk_us, pk_us]
      simp only [mr_getE]
      refine ⟨trivial, Or.inr ⟨k, hk, rfl, ?_⟩⟩
      rw [mr_bfs hc, mr_getL hk, hb]
    · have hi2 : i < st.2.length := by omega
      obtain ⟨h1, h2⟩ := h.2 i hi2
      have hne : st.2.getD i 0 ≠ a := fun z => hW _ (mr_mem hi2) (by rw [z]; exact h0)
      rw [pk_un e, pk_un e]
      simp only [mr_getL hi2]
      refine ⟨h1, ?_⟩
      rw [mr_bfn hne]
      rcases h2 with q | ⟨k2, q1, q2, q3⟩
      · exact Or.inl q
      · exact Or.inr ⟨k2, q1, q2, by rw [q3, mr_getL (by omega)]⟩
theorem mr_start {N : Nat} {φ : Nat → Nat} {fS fQ fP : Nat → Int32} (hz : ∀ x, x < N → fS (φ x) = 0) (hφ : ∀ x, x < N → ∀ y, y < N → φ x = φ y → x = y) {a : Nat} (ha : a < N) : mr N φ (bfs_mt bfs_0 a (a, 0)) (upd fS (φ a) 1) (upd fQ 0 (nI (φ a))) (upd fP 0 (-1)) := by
  unfold bfs_mt bfs_0
  rw [if_pos rfl]
  refine ⟨fun x hx => ?_, fun i hi => ?_⟩
  · by_cases e : x = a
    · subst e; rw [pk_us]; simp [va_up]
    · have e2 : φ x ≠ φ a := fun z => e (hφ x hx a ha z)
      rw [pk_un e2, hz x hx]
      simp [va_up, e]
  · have e : i = 0 := by simpa using hi
    subst e
    rw [pk_us, pk_us]
    refine ⟨by simp, Or.inl ⟨rfl, rfl, ?_⟩⟩
    simp only [List.nil_append, List.getD_cons_zero]
    exact mr_bfs (by decide)
abbrev mU : Type := (Nat → Int32) × (Nat → Int32) × (Nat → Int32) × (Nat → Int32) × (Nat → Int32) × Nat
/-- what come says -/
def mo_come (d mn : Nat) (b f t : Int32) (o u : mU) : Prop := (o.1 d = 0 → u = (upd o.1 d 1, upd o.2.1 mn (nI d), upd o.2.2.1 mn b, upd o.2.2.2.1 mn f, upd o.2.2.2.2.1 mn t, mn + 1)) ∧ (¬ o.1 d = 0 → u = o)
theorem mr_come {N : Nat} {φ : Nat → Nat} {st : bS} {fS fQ fP fA fB : Nat → Int32} {u : mU} (h : mr N φ st fS fQ fP) (hW : ∀ y ∈ st.2, st.1 y ≠ 0) (hφ : ∀ x, x < N → ∀ y, y < N → φ x = φ y → x = y) {a b c k : Nat} (ha : a < N) (hk : k < st.2.length) (hb : st.2.getD k 0 = b) (hc : c < 256) {f t : Int32} (hu : mo_come (φ a) st.2.length (nI k) f t (fS, fQ, fP, fA, fB, st.2.length) u) : mr N φ (bfs_mt st b (a, c)) u.1 u.2.1 u.2.2.1 ∧ u.2.2.2.2.2 = (bfs_mt st b (a, c)).2.length := by
  by_cases h0 : st.1 a = 0
  · have e := hu.1 ((h.1 a ha).trans (if_pos h0))
    rw [e]
    refine ⟨mr_mt h hW hφ ha h0 hk hb hc, ?_⟩
    unfold bfs_mt
    rw [if_pos h0]
    simp
  · have e := hu.2 (by show ¬ fS (φ a) = 0; rw [h.1 a ha, if_neg h0]; decide)
    rw [e]
    have e2 : bfs_mt st b (a, c) = st := by unfold bfs_mt; rw [if_neg h0]
    rw [e2]
    exact ⟨h, rfl⟩
theorem mr_come0 {N : Nat} {φ : Nat → Nat} {fS fQ fP fA fB : Nat → Int32} {u : mU} (hz : ∀ x, x < N → fS (φ x) = 0) (hφ : ∀ x, x < N → ∀ y, y < N → φ x = φ y → x = y) {a : Nat} (ha : a < N) {f t : Int32} (hu : mo_come (φ a) 0 (-1) f t (fS, fQ, fP, fA, fB, 0) u) : mr N φ (bfs_mt bfs_0 a (a, 0)) u.1 u.2.1 u.2.2.1 ∧ u.2.2.2.2.2 = (bfs_mt bfs_0 a (a, 0)).2.length := by
  have e := hu.1 (hz a ha)
  rw [e]
  exact ⟨mr_start hz hφ ha, rfl⟩
theorem mr_cnt0 {g : Nat → Nat} {x : Nat} (h : g x = x) (f : Nat) : bfs_cnt g f x = 0 := by
  cases f with
  | zero => rfl
  | succ f => rw [bfs_cnt, if_pos h]
theorem mr_cnt {N : Nat} {φ : Nat → Nat} {st : bS} {fS fQ fP : Nat → Int32} (h : mr N φ st fS fQ fP) (hn : st.2.Nodup) {i : Nat} (hi : i < st.2.length) : (fP i = -1 ∧ ∀ f, bfs_cnt (bfs_bf st.1) f (st.2.getD i 0) = 0) ∨ (∃ k, k < i ∧ fP i = nI k ∧ ∀ f, bfs_cnt (bfs_bf st.1) (f + 1) (st.2.getD i 0) = bfs_cnt (bfs_bf st.1) f (st.2.getD k 0) + 1) := by
  rcases (h.2 i hi).2 with ⟨_, q2, q3⟩ | ⟨k, q1, q2, q3⟩
  · exact Or.inl ⟨q2, mr_cnt0 q3⟩
  · refine Or.inr ⟨k, q1, q2, fun f => ?_⟩
    have hne : ¬ bfs_bf st.1 (st.2.getD i 0) = st.2.getD i 0 := by
      rw [q3]
      intro z
      have hk : k < st.2.length := by omega
      rw [List.getD_eq_getElem?_getD, List.getD_eq_getElem?_getD, List.getElem?_eq_getElem hk, List.getElem?_eq_getElem hi] at z
      have z2 : st.2[k] = st.2[i] := z
      have := (List.getElem_inj hn).mp z2
      omega
    rw [bfs_cnt, if_neg hne, q3]
/-! the row found is no longer than the place in the queue -/
def bfs_ord (st : bS) : Prop := ∀ i, i < st.2.length → bfs_bf st.1 (st.2.getD i 0) = st.2.getD i 0 ∨ (∃ k, k < i ∧ bfs_bf st.1 (st.2.getD i 0) = st.2.getD k 0)
theorem bfs_ord_cnt {st : bS} (h : bfs_ord st) : ∀ (f i : Nat), i < st.2.length → bfs_cnt (bfs_bf st.1) f (st.2.getD i 0) ≤ i := by
  intro f
  induction f with
  | zero => intro i _; exact Nat.zero_le _
  | succ f ih =>
    intro i hi
    rcases h i hi with q | ⟨k, q1, q2⟩
    · rw [mr_cnt0 q]; exact Nat.zero_le _
    · rw [bfs_cnt]
      split
      · exact Nat.zero_le _
      · rw [q2]
        have := ih k (by omega)
        omega
theorem bfs_mt_ord {st : bS} (h : bfs_ord st) (hW : ∀ y ∈ st.2, st.1 y ≠ 0) {a b c : Nat} (hb : b ∈ st.2) (hc : c < 256) : bfs_ord (bfs_mt st b (a, c)) := by
  unfold bfs_mt
  by_cases h0 : st.1 a = 0
  · rw [if_pos h0]
    intro i hi
    simp only [List.length_append, List.length_cons, List.length_nil] at hi
    by_cases e : i = st.2.length
    · subst e
      simp only [mr_getE]
      refine Or.inr ?_
      obtain ⟨k, hk, hk2⟩ := List.getElem_of_mem hb
      refine ⟨k, hk, ?_⟩
      rw [mr_bfs hc, mr_getL hk, List.getD_eq_getElem?_getD, List.getElem?_eq_getElem hk, hk2]
      rfl
    · have hi2 : i < st.2.length := by omega
      have hne : st.2.getD i 0 ≠ a := fun z => hW _ (mr_mem hi2) (by rw [z]; exact h0)
      simp only [mr_getL hi2]
      rw [mr_bfn hne]
      rcases h i hi2 with q | ⟨k2, q1, q3⟩
      · exact Or.inl q
      · exact Or.inr ⟨k2, q1, by rw [q3, mr_getL (by omega)]⟩
  · rw [if_neg h0]; exact h
theorem bfs_st_ord (a : Nat) : bfs_ord (bfs_mt bfs_0 a (a, 0)) := by
  unfold bfs_mt bfs_0
  rw [if_pos rfl]
  intro i hi
  have e : i = 0 := by simpa using hi
  subst e
  refine Or.inl ?_
  simp only [List.nil_append, List.getD_cons_zero]
  exact mr_bfs (by decide)
theorem bfs_run_inv {Φ : bS → Prop} {dn : Nat → Bool} {nx : Nat → bS → bS} (hnx : ∀ x st, Φ st → x ∈ st.2 → Φ (nx x st)) : ∀ (f h : Nat) (st : bS), Φ st → Φ (bfs_run dn nx f h st).2 ∧ ∀ x, (bfs_run dn nx f h st).1 = some x → x ∈ (bfs_run dn nx f h st).2.2 := by
  intro f
  induction f with
  | zero => intro h st hj; exact ⟨hj, fun x hx => by cases hx⟩
  | succ f ih =>
    intro h st hj
    unfold bfs_run
    split
    · rename_i hl
      have hm := mr_mem hl
      split
      · exact ⟨hj, fun x hx => by cases hx; exact hm⟩
      · exact ih _ _ (hnx _ st hj hm)
    · exact ⟨hj, fun x hx => by cases hx⟩
theorem rv_L_le {tn bt : Nat} {nw : Nat → Nat} (ht : tn ≤ 8) : bfs_L (rv_RUN tn nw bt) ≤ 512 := by
  have h := bfs_run_inv (dn := rv_dn tn) (nx := rv_next tn nw bt) (Φ := fun st => bfs_J 512 (fun y => y < 512) st ∧ bfs_ord st) (fun x st h hx => by
    have hx5 : x < 512 := h.1.2 x hx
    have h2 := rv_go_ind (nw := nw) (bt := bt) hx5 (rv_bank_lt (x := x) ht) (rv_on_ok x) (fun st => (bfs_J 512 (fun y => y < 512) st ∧ st.1 x ≠ 0) ∧ (bfs_ord st ∧ x ∈ st.2)) (fun st y h1 h2 h3 => ?_) 256 0 st (by decide) ⟨⟨h.1, (h.1.1.1 x hx).2⟩, h.2, hx⟩
    · exact ⟨h2.1.1, h2.2.1⟩
    · refine ⟨bfs_mt_J h1.1 (by decide) hx5 h2 h3 h2, bfs_mt_ord h1.2.1 (fun y hy => (h1.1.1.1.1 y hy).2) h1.2.2 h3, ?_⟩
      unfold bfs_mt
      split
      · exact List.mem_append_left _ h1.2.2
      · exact h1.2.2) 10000 0 (bfs_mt bfs_0 0 (0, 0)) ⟨bfs_st_J (P := fun y => y < 512) (by decide) (by decide) (by decide), bfs_st_ord 0⟩
  have h0 : bfs_J 512 (fun y => y < 512) (rv_RUN tn nw bt).2 ∧ bfs_ord (rv_RUN tn nw bt).2 := h.1
  have h1 : ∀ x, (rv_RUN tn nw bt).1 = some x → x ∈ (rv_RUN tn nw bt).2.2 := h.2
  unfold bfs_L
  split
  · rename_i x hx
    obtain ⟨k, hk, hk2⟩ := List.getElem_of_mem (h1 x hx)
    have h2 := bfs_ord_cnt h0.2 10000 k hk
    rw [List.getD_eq_getElem?_getD, List.getElem?_eq_getElem hk, hk2] at h2
    have h3 := bfs_le h0.1.1
    have h4 : bfs_cnt (bfs_bf (rv_RUN tn nw bt).2.1) 10000 x ≤ k := h2
    omega
  · exact Nat.zero_le _
theorem bfs_L_le (R : Option Nat × bS) : bfs_L R ≤ 10000 := by
  unfold bfs_L
  split
  · exact bfs_cnt_le _ _ _
  · exact Nat.zero_le _
/-! the jugs of the reference: four digits -/
def mo_code (h : Nat → Nat) : Nat := h 0 + 10 * h 1 + 100 * h 2 + 1000 * h 3
theorem mo_code_d {x : Nat} (hx : x < 10000) : mo_code (jg_d x) = x := by
  simp only [mo_code, jg_d]
  omega
theorem mo_code_fill {x i s : Nat} (hx : x < 10000) (hi : i < 4) (hs : jg_d x i ≤ s) : mo_code (va_up (jg_d x) i s) = x + (s - jg_d x i) * 10 ^ i := by
  rcases jg_case hi with rfl | rfl | rfl | rfl <;> simp [mo_code, jg_d, va_up] at hs ⊢ <;> omega
theorem mo_code_empt {x i : Nat} (hx : x < 10000) (hi : i < 4) : mo_code (va_up (jg_d x) i 0) = x - jg_d x i * 10 ^ i := by
  rcases jg_case hi with rfl | rfl | rfl | rfl <;> simp [mo_code, jg_d, va_up] <;> omega
theorem mo_code_pourG (h : Nat → Nat) {i j q : Nat} (hi : i < 4) (hj : j < 4) (hne : i ≠ j) (hq : q ≤ h i) : mo_code (va_up (va_up h i (h i - q)) j (h j + q)) = mo_code h + q * 10 ^ j - q * 10 ^ i := by
  rcases jg_case hi with rfl | rfl | rfl | rfl <;> rcases jg_case hj with rfl | rfl | rfl | rfl <;> first | exact absurd rfl hne | (simp [mo_code, va_up] <;> omega)
theorem mo_code_pour {x i j q : Nat} (hx : x < 10000) (hi : i < 4) (hj : j < 4) (hne : i ≠ j) (hq : q ≤ jg_d x i) : mo_code (va_up (va_up (jg_d x) i (jg_d x i - q)) j (jg_d x j + q)) = x + q * 10 ^ j - q * 10 ^ i := by
  rw [mo_code_pourG (jg_d x) hi hj hne hq, mo_code_d hx]
theorem mo_code_start {jc : Nat} {fl h : Nat → Nat} (hc : jc ≤ 4) (h1 : ∀ j, j < jc → h j = fl j) (h2 : ∀ j, jc ≤ j → j < 4 → h j = 0) : mo_code h = jg_sum fl jc := by
  rcases jg_casec hc with rfl | rfl | rfl | rfl | rfl <;> simp only [mo_code, jg_sum]
  · rw [h2 0 (by omega) (by omega), h2 1 (by omega) (by omega), h2 2 (by omega) (by omega), h2 3 (by omega) (by omega)]
  · rw [h1 0 (by omega), h2 1 (by omega) (by omega), h2 2 (by omega) (by omega), h2 3 (by omega) (by omega)]; omega
  · rw [h1 0 (by omega), h1 1 (by omega), h2 2 (by omega) (by omega), h2 3 (by omega) (by omega)]; omega
  · rw [h1 0 (by omega), h1 1 (by omega), h1 2 (by omega), h2 3 (by omega) (by omega)]; omega
  · rw [h1 0 (by omega), h1 1 (by omega), h1 2 (by omega), h1 3 (by omega)]; omega
theorem mo_code_lt {h : Nat → Nat} (hh : ∀ j, j < 4 → h j ≤ 9) : mo_code h < 10000 := by
  have h0 := hh 0 (by decide)
  have h1 := hh 1 (by decide)
  have h2 := hh 2 (by decide)
  have h3 := hh 3 (by decide)
  unfold mo_code
  omega
theorem jg_self {sz : Nat → Nat} {x i : Nat} {st : bS} (h : st.1 x ≠ 0) : bfs_mt st x (jg_pour sz x i i) = st := by
  have e : (jg_pour sz x i i).1 = x := by unfold jg_pour; simp
  unfold bfs_mt
  rw [e, if_neg h]
theorem mo_much {h i r : Nat} : (if h < r then h else r) = (if r < h then r else h) := by
  split <;> split <;> omega
def jg_q (a r : Nat) : Nat := if r < a then r else a
theorem jg_q_le (a r : Nat) : jg_q a r ≤ a := by unfold jg_q; split <;> omega
theorem jg_q_r {a r : Nat} (h : r ≤ a) : jg_q a r = r := by unfold jg_q; split <;> omega
theorem jg_q_l {a r : Nat} (h : a < r) : jg_q a r = a := by unfold jg_q; rw [if_neg (by omega)]
/-- what the reference's search keeps while it goes on from the state x, at place n of the queue -/
def mo_I (N n x : Nat) (P : Nat → Prop) (φ : Nat → Nat) (S : bS) (fE fQ fP : Nat → Int32) : Prop := mr N φ S fE fQ fP ∧ (bfs_J N P S ∧ S.1 x ≠ 0) ∧ n < S.2.length ∧ S.2.getD n 0 = x
theorem mo_mt_get {st : bS} {b n : Nat} {y : Nat × Nat} (h : n < st.2.length) : n < (bfs_mt st b y).2.length ∧ (bfs_mt st b y).2.getD n 0 = st.2.getD n 0 := by
  unfold bfs_mt
  split
  · refine ⟨?_, mr_getL h⟩
    simp only [List.length_append, List.length_cons, List.length_nil]
    omega
  · exact ⟨h, rfl⟩
theorem mo_I_come {N n x : Nat} {P : Nat → Prop} {φ : Nat → Nat} {S : bS} {fE fQ fP fA fB : Nat → Int32} {u : mU} (h : mo_I N n x P φ S fE fQ fP) (hN : N ≤ 10000) (hx : x < N) (hφ : ∀ x, x < N → ∀ y, y < N → φ x = φ y → x = y) {a c : Nat} (ha : a < N) (hc : c < 256) (hp : P a) {f t : Int32} (hu : mo_come (φ a) S.2.length (nI n) f t (fE, fQ, fP, fA, fB, S.2.length) u) : mo_I N n x P φ (bfs_mt S x (a, c)) u.1 u.2.1 u.2.2.1 ∧ u.2.2.2.2.2 = (bfs_mt S x (a, c)).2.length := by
  obtain ⟨h1, h2, h3, h4⟩ := h
  have h5 := mr_come h1 (fun y hy => (h2.1.1.1 y hy).2) hφ ha h3 h4 hc hu
  have h6 := mo_mt_get (b := x) (y := (a, c)) h3
  exact ⟨⟨h5.1, bfs_mt_J (y := (a, c)) h2 hN hx ha hc hp, h6.1, h6.2.trans h4⟩, h5.2⟩
theorem mo_I_room {N n x : Nat} {P : Nat → Prop} {φ : Nat → Nat} {S : bS} {fE fQ fP : Nat → Int32} (h : mo_I N n x P φ S fE fQ fP) (hN : N ≤ 10000) {a : Nat} (ha : a < N) (h0 : fE (φ a) = 0) : S.2.length < 10000 := by
  obtain ⟨h1, h2, -, -⟩ := h
  have h3 := h1.1 a ha
  have h4 : S.1 a = 0 := Classical.byContradiction (fun z => by
    rw [h0, if_neg z] at h3
    exact absurd h3 (by decide))
  exact Nat.lt_of_lt_of_le (bfs_room h2.1.1 ha h4) hN
/-- a digit is written -/
theorem dg_upd {f : Nat → Int32} {h : Nat → Nat} (hf : ∀ j, j < 4 → f j = nI (h j)) {i y : Nat} : ∀ j, j < 4 → upd f i (nI y) j = nI (va_up h i y j) := by
  intro j hj
  by_cases e : j = i
  · subst e; rw [pk_us]; simp [va_up]
  · rw [pk_un e, hf j hj]; simp [va_up, e]
