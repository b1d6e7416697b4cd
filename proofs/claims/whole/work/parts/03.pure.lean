/-! pure: the place of a key, gaps, counts; no machine here -/
def rkF (K : Nat → Int64) (key : Int64) : Nat → Nat → Nat
  | 0, i => i
  | f + 1, i => if K i < key then rkF K key f (i + 1) else i
/-- how many of the first n keys stand below key, counted from the left until one does not -/
def rk (K : Nat → Int64) (key : Int64) (n : Nat) : Nat := rkF K key n 0
theorem rkF_le (K : Nat → Int64) (key : Int64) : ∀ f i : Nat, rkF K key f i ≤ i + f := by
  intro f
  induction f with
  | zero => intro i; exact Nat.le_refl _
  | succ f ih =>
    intro i
    unfold rkF
    split
    · have := ih (i + 1); omega
    · omega
theorem rkF_lo (K : Nat → Int64) (key : Int64) : ∀ f i j : Nat, i ≤ j → j < rkF K key f i → K j < key := by
  intro f
  induction f with
  | zero =>
    intro i j h1 h2
    have h2 : j < i := h2
    omega
  | succ f ih =>
    intro i j h1 h2
    unfold rkF at h2
    split at h2
    · rename_i hlt
      by_cases e : j = i
      · rw [e]; exact hlt
      · exact ih (i + 1) j (by omega) h2
    · omega
theorem rkF_hi (K : Nat → Int64) (key : Int64) : ∀ f i : Nat, rkF K key f i < i + f → ¬ K (rkF K key f i) < key := by
  intro f
  induction f with
  | zero =>
    intro i h
    have h : i < i + 0 := h
    omega
  | succ f ih =>
    intro i h
    unfold rkF at h ⊢
    split
    · rename_i hlt
      rw [if_pos hlt] at h
      exact ih (i + 1) (by omega)
    · assumption
theorem rk_le (K : Nat → Int64) (key : Int64) (n : Nat) : rk K key n ≤ n := by
  have := rkF_le K key n 0
  unfold rk
  omega
theorem rkF_s {K : Nat → Int64} {key : Int64} {n i : Nat} (h : i < n) (hk : K i < key) : rkF K key (n - i) i = rkF K key (n - (i + 1)) (i + 1) := by
  have e : n - i = (n - (i + 1)) + 1 := by omega
  rw [e]
  show (if K i < key then _ else _) = _
  rw [if_pos hk]
theorem rkF_e {K : Nat → Int64} {key : Int64} {n i : Nat} (h : i < n) (hk : ¬ K i < key) : rkF K key (n - i) i = i := by
  have e : n - i = (n - (i + 1)) + 1 := by omega
  rw [e]
  show (if K i < key then _ else _) = _
  rw [if_neg hk]
theorem rkF_z {K : Nat → Int64} {key : Int64} {n i : Nat} (h : n ≤ i) : rkF K key (n - i) i = i := by
  have e : n - i = 0 := by omega
  rw [e]
  rfl
/-- the cells from r on go up by one, d of them, the last first -/
def opF (r : Nat) : Nat → (Nat → Int64) → (Nat → Int64)
  | 0, K => K
  | d + 1, K => opF r d (vp_updL K (r + d + 1) (K (r + d)))
theorem opF_eq (r : Nat) : ∀ (d : Nat) (K : Nat → Int64) (j : Nat), opF r d K j = if r < j ∧ j ≤ r + d then K (j - 1) else K j := by
  intro d
  induction d with
  | zero =>
    intro K j
    rw [if_neg (by omega)]
    rfl
  | succ d ih =>
    intro K j
    show opF r d _ j = _
    rw [ih]
    by_cases h1 : r < j ∧ j ≤ r + d
    · rw [if_pos h1, if_pos (by omega)]
      unfold vp_updL
      rw [if_neg (by omega)]
    · rw [if_neg h1]
      unfold vp_updL
      by_cases h2 : j = r + d + 1
      · rw [if_pos h2, if_pos (by omega)]
        congr 1
        omega
      · rw [if_neg h2, if_neg (by omega)]
/-- the cells from i on take their right neighbours' values, f of them, the first first -/
def clF : Nat → Nat → (Nat → Int64) → (Nat → Int64)
  | 0, _, K => K
  | f + 1, i, K => clF f (i + 1) (vp_updL K i (K (i + 1)))
theorem clF_eq : ∀ (f i : Nat) (K : Nat → Int64) (j : Nat), clF f i K j = if i ≤ j ∧ j < i + f then K (j + 1) else K j := by
  intro f
  induction f with
  | zero =>
    intro i K j
    rw [if_neg (by omega)]
    rfl
  | succ f ih =>
    intro i K j
    show clF f (i + 1) _ j = _
    rw [ih]
    by_cases h1 : i + 1 ≤ j ∧ j < i + 1 + f
    · rw [if_pos h1, if_pos (by omega)]
      unfold vp_updL
      rw [if_neg (by omega)]
    · rw [if_neg h1]
      unfold vp_updL
      by_cases h2 : j = i
      · rw [if_pos h2, if_pos (by omega), h2]
      · rw [if_neg h2, if_neg (by omega)]
/-- the first n keys do not fall -/
def mono (K : Nat → Int64) (n : Nat) : Prop := ∀ i j : Nat, i ≤ j → j < n → K i ≤ K j
theorem mono_0 (K : Nat → Int64) : mono K 0 := fun _ _ _ h => absurd h (Nat.not_lt_zero _)
theorem i64_le {x y : Int64} (h : x < y) : x ≤ y := by
  rw [Int64.lt_iff_toInt_lt] at h
  rw [Int64.le_iff_toInt_le]
  omega
theorem i64_nlt {x y : Int64} (h : ¬ x < y) : y ≤ x := by
  rw [Int64.lt_iff_toInt_lt] at h
  rw [Int64.le_iff_toInt_le]
  omega
theorem i64_nle {x y : Int64} (h : ¬ x ≤ y) : y < x := by
  rw [Int64.le_iff_toInt_le] at h
  rw [Int64.lt_iff_toInt_lt]
  omega
theorem i64_ltle {x y z : Int64} (h : x < y) (h2 : y ≤ z) : x < z := by
  rw [Int64.lt_iff_toInt_lt] at h ⊢
  rw [Int64.le_iff_toInt_le] at h2
  omega
theorem i64_nltle {x y : Int64} (h : x < y) : ¬ y ≤ x := by
  rw [Int64.lt_iff_toInt_lt] at h
  rw [Int64.le_iff_toInt_le]
  omega
theorem i64_rf (x : Int64) : x ≤ x := by
  rw [Int64.le_iff_toInt_le]
  omega
theorem i64_tr {x y z : Int64} (h : x ≤ y) (h2 : y ≤ z) : x ≤ z := by
  rw [Int64.le_iff_toInt_le] at h h2 ⊢
  omega
theorem mono_put {K : Nat → Int64} {n : Nat} (key : Int64) (h : mono K n) : mono (vp_updL (opF (rk K key n) (n - rk K key n) K) (rk K key n) key) (n + 1) := by
  have hr := rk_le K key n
  have lo : ∀ j, j < rk K key n → K j < key := fun j hj => rkF_lo K key n 0 j (Nat.zero_le _) hj
  have hi : rk K key n < n → key ≤ K (rk K key n) := fun hj => i64_nlt (rkF_hi K key n 0 (by show rk K key n < _; omega))
  generalize rk K key n = r at hr lo hi ⊢
  have val : ∀ j, j < n + 1 → vp_updL (opF r (n - r) K) r key j = if j < r then K j else if j = r then key else K (j - 1) := by
    intro j hj
    unfold vp_updL
    rw [opF_eq]
    by_cases e1 : j = r
    · rw [if_pos e1, if_neg (by omega), if_pos e1]
    · rw [if_neg e1]
      by_cases e2 : j < r
      · rw [if_neg (by omega), if_pos e2]
      · rw [if_pos (by omega), if_neg e2, if_neg e1]
  intro i j hij hj
  rw [val i (by omega), val j hj]
  by_cases i1 : i < r
  · rw [if_pos i1]
    by_cases j1 : j < r
    · rw [if_pos j1]; exact h i j hij (by omega)
    · rw [if_neg j1]
      by_cases j2 : j = r
      · rw [if_pos j2]; exact i64_le (lo i i1)
      · rw [if_neg j2]; exact h i (j - 1) (by omega) (by omega)
  · rw [if_neg i1, if_neg (show ¬ j < r by omega)]
    by_cases i2 : i = r
    · rw [if_pos i2]
      by_cases j2 : j = r
      · rw [if_pos j2]; exact i64_rf _
      · rw [if_neg j2]; exact i64_tr (hi (by omega)) (h r (j - 1) (by omega) (by omega))
    · rw [if_neg i2, if_neg (show ¬ j = r by omega)]
      exact h (i - 1) (j - 1) (by omega) (by omega)
theorem mono_take {K : Nat → Int64} {n : Nat} (r : Nat) (h : mono K n) : mono (clF (n - 1 - r) r K) (n - 1) := by
  intro i j hij hj
  rw [clF_eq, clF_eq]
  by_cases i1 : r ≤ i ∧ i < r + (n - 1 - r)
  · rw [if_pos i1, if_pos (show r ≤ j ∧ j < r + (n - 1 - r) by omega)]
    exact h (i + 1) (j + 1) (by omega) (by omega)
  · rw [if_neg i1]
    by_cases j1 : r ≤ j ∧ j < r + (n - 1 - r)
    · rw [if_pos j1]; exact h i (j + 1) (by omega) (by omega)
    · rw [if_neg j1]; exact h i j hij (by omega)
/-- counting from i on while the key is not above to_ -/
def cC {α : Type} (add : α → α → α) (w : Nat → α) (K : Nat → Int64) (to_ : Int64) : Nat → Nat → α → α
  | 0, _, acc => acc
  | f + 1, i, acc => if K i ≤ to_ then cC add w K to_ f (i + 1) (add acc (w i)) else acc
/-- counting every key between fr and to_ -/
def cM {α : Type} (add : α → α → α) (z : α) (w : Nat → α) (K : Nat → Int64) (fr to_ : Int64) : Nat → Nat → α → α
  | 0, _, acc => acc
  | f + 1, i, acc => cM add z w K fr to_ f (i + 1) (add acc (if fr ≤ K i ∧ K i ≤ to_ then w i else z))
section
variable {α : Type} {add : α → α → α} {z : α} {w : Nat → α} {K : Nat → Int64} {fr to_ : Int64}
theorem cM_none (hz : ∀ x, add x z = x) : ∀ (f i : Nat) (acc : α), (∀ j, i ≤ j → j < i + f → ¬ (fr ≤ K j ∧ K j ≤ to_)) → cM add z w K fr to_ f i acc = acc := by
  intro f
  induction f with
  | zero => intro i acc _; rfl
  | succ f ih =>
    intro i acc h
    show cM add z w K fr to_ f (i + 1) _ = acc
    rw [if_neg (h i (Nat.le_refl _) (by omega)), hz]
    exact ih (i + 1) acc (fun j h1 h2 => h j (by omega) (by omega))
theorem cM_cC (hz : ∀ x, add x z = x) : ∀ (f i : Nat) (acc : α), mono K (i + f) → (∀ j, i ≤ j → j < i + f → fr ≤ K j) → cM add z w K fr to_ f i acc = cC add w K to_ f i acc := by
  intro f
  induction f with
  | zero => intro i acc _ _; rfl
  | succ f ih =>
    intro i acc hm h
    show cM add z w K fr to_ f (i + 1) _ = if K i ≤ to_ then _ else _
    by_cases hk : K i ≤ to_
    · rw [if_pos hk, if_pos ⟨h i (Nat.le_refl _) (by omega), hk⟩]
      exact ih (i + 1) _ (by rw [show i + 1 + f = i + (f + 1) by omega]; exact hm) (fun j h1 h2 => h j (by omega) (by omega))
    · rw [if_neg hk, if_neg (fun q => hk q.2), hz]
      refine cM_none hz f (i + 1) acc (fun j h1 h2 q => ?_)
      exact hk (i64_tr (hm i j (by omega) (by omega)) q.2)
theorem cM_skip (hz : ∀ x, add x z = x) : ∀ (f i g : Nat) (acc : α), (∀ j, i ≤ j → j < i + f → K j < fr) → cM add z w K fr to_ (f + g) i acc = cM add z w K fr to_ g (i + f) acc := by
  intro f
  induction f with
  | zero => intro i g acc _; rw [Nat.zero_add, Nat.add_zero]
  | succ f ih =>
    intro i g acc h
    rw [show f + 1 + g = (f + g) + 1 by omega]
    show cM add z w K fr to_ (f + g) (i + 1) _ = _
    rw [if_neg (fun q => i64_nltle (h i (Nat.le_refl _) (by omega)) q.1), hz, ih (i + 1) g acc (fun j h1 h2 => h j (by omega) (by omega))]
    rw [show i + 1 + f = i + (f + 1) by omega]
theorem cM_is (hz : ∀ x, add x z = x) {n : Nat} (hm : mono K n) (acc : α) : cM add z w K fr to_ n 0 acc = cC add w K to_ (n - rk K fr n) (rk K fr n) acc := by
  have hr := rk_le K fr n
  have lo : ∀ j, j < rk K fr n → K j < fr := fun j hj => rkF_lo K fr n 0 j (Nat.zero_le _) hj
  have hi : rk K fr n < n → fr ≤ K (rk K fr n) := fun hj => i64_nlt (rkF_hi K fr n 0 (by show rk K fr n < _; omega))
  generalize rk K fr n = r at hr lo hi ⊢
  have e := cM_skip (w := w) (to_ := to_) hz r 0 (n - r) acc (fun j _ h2 => lo j (by omega))
  rw [show r + (n - r) = n by omega, Nat.zero_add] at e
  rw [e]
  refine cM_cC hz (n - r) r acc (by rw [show r + (n - r) = n by omega]; exact hm) (fun j h1 h2 => ?_)
  exact i64_tr (hi (by omega)) (hm r j h1 (by omega))
end
/-- the answers' words -/
abbrev okS (x : Int32) : Prop := ¬ x < 0 ∧ x < 8
abbrev okN (x : Int32) : Prop := ¬ x < 0 ∧ x ≤ 20
abbrev okK (x : Int32) : Prop := ¬ x < 0 ∧ x ≤ 3
theorem okS_of {x : Int32} (h : okS x) : ∃ j : Nat, j < 8 ∧ x = nI j := by
  rcases pk_ix x (n := 8) (by decide) with h1 | h1 | h1
  · exact absurd h1 h.1
  · have h2 := h.2
    rw [Int32.lt_iff_toInt_lt] at h2
    rw [Int32.le_iff_toInt_le] at h1
    have e : (nI 8).toInt = 8 := by decide
    have e2 : (8 : Int32).toInt = 8 := by decide
    omega
  · exact h1
theorem okS_n {j : Nat} (h : j < 8) : okS (nI j) := ⟨nI_pos (by omega), nI_lt h (by decide)⟩
theorem okS_7 {x : Int32} (h : ¬ x < 0) (h2 : ¬ 7 < x) : okS x := by
  refine ⟨h, ?_⟩
  rw [Int32.lt_iff_toInt_lt] at h2 ⊢
  have e : (8 : Int32).toInt = 8 := by decide
  have e2 : (7 : Int32).toInt = 7 := by decide
  omega
theorem okS_7n {x : Int32} (h : 7 < x) : ¬ okS x := by
  intro q
  have q2 := q.2
  rw [Int32.lt_iff_toInt_lt] at h q2
  have e : (8 : Int32).toInt = 8 := by decide
  have e2 : (7 : Int32).toInt = 7 := by decide
  omega
/-- a slot's kind -/
def kOk (x : Int32) : Prop := x = -1 ∨ x = 0 ∨ x = 1 ∨ x = 2 ∨ x = 3
theorem okK_of {x : Int32} (h : okK x) : x = 0 ∨ x = 1 ∨ x = 2 ∨ x = 3 := by
  obtain ⟨h1, h2⟩ := h
  rw [Int32.lt_iff_toInt_lt] at h1
  rw [Int32.le_iff_toInt_le] at h2
  have e : (0 : Int32).toInt = 0 := by decide
  have e1 : (1 : Int32).toInt = 1 := by decide
  have e2 : (2 : Int32).toInt = 2 := by decide
  have e3 : (3 : Int32).toInt = 3 := by decide
  have hx : x.toInt = 0 ∨ x.toInt = 1 ∨ x.toInt = 2 ∨ x.toInt = 3 := by omega
  rcases hx with hx | hx | hx | hx
  · exact Or.inl (Int32.toInt_inj.mp (by omega))
  · exact Or.inr (Or.inl (Int32.toInt_inj.mp (by omega)))
  · exact Or.inr (Or.inr (Or.inl (Int32.toInt_inj.mp (by omega))))
  · exact Or.inr (Or.inr (Or.inr (Int32.toInt_inj.mp (by omega))))
theorem kOk_pos {x : Int32} (h : kOk x) : 0 < x + 1 ↔ ¬ x = -1 := by
  rcases h with h | h | h | h | h <;> subst h <;> decide
theorem kOk_nz {x : Int32} (h : kOk x) : x + 1 = 0 ↔ x = -1 := by
  rcases h with h | h | h | h | h <;> subst h <;> decide
theorem kOk_m {x : Int32} : x + 1 - 1 = x := by
  first
    | exact Int32.add_sub_cancel x 1
    | (apply Int32.toBitVec_inj.mp; simp)
theorem upd_1 (kd : Nat → Int32) (i : Nat) (x : Int32) : upd (fun j => kd j + 1) i (x + 1) = fun j => upd kd i x j + 1 := by
  funext j
  unfold upd
  by_cases h : j = i
  · simp [h]
  · simp [h]
theorem upd_0 (kd : Nat → Int32) (i : Nat) : upd (fun j => kd j + 1) i 0 = fun j => upd kd i (-1) j + 1 := by
  have h := upd_1 kd i (-1)
  rw [show (-1 : Int32) + 1 = 0 by decide] at h
  exact h
theorem upd_same {kd : Nat → Int32} {i : Nat} {x : Int32} (h : kd i = x) : upd kd i x = kd := by
  funext j
  unfold upd
  by_cases e : j = i
  · rw [if_pos e, e, h]
  · rw [if_neg e]
theorem upd_ok {kd : Nat → Int32} {i : Nat} {x : Int32} (h : ∀ j, j < 8 → kOk (kd j)) (hx : kOk x) : ∀ j, j < 8 → kOk (upd kd i x j) := by
  intro j hj
  unfold upd
  by_cases e : j = i
  · rw [if_pos e]; exact hx
  · rw [if_neg e]; exact h j hj
def crF : Nat → Nat → (Nat → Int32) → Int32 → (Nat → Int32) × Int32
  | 0, _, kd, acc => (kd, acc)
  | f + 1, i, kd, acc => crF f (i + 1) (upd kd i (-1)) (if kd i = -1 then acc else acc + 1)
theorem crF_ok : ∀ (f i : Nat) (kd : Nat → Int32) (acc : Int32), (∀ j, j < 8 → kOk (kd j)) → ∀ j, j < 8 → kOk ((crF f i kd acc).1 j) := by
  intro f
  induction f with
  | zero => intro i kd acc h; exact h
  | succ f ih => intro i kd acc h; exact ih (i + 1) _ _ (upd_ok h (Or.inl rfl))
/-! what each call answers, over a state (n, K, V, kd, SK, SV): n keys K with values V, the slots' kinds kd (-1: empty), keys SK, values SV -/
abbrev ix (x : Int32) : Nat := x.toNatClampNeg
theorem ix_n {j : Nat} (h : j < 8) : ix (nI j) = j := nI_clamp (by omega)
def tcE (cd : Int32) (E : String) : Prop := (E = "java/lang/IllegalArgumentException" ∧ cd = 1) ∨ (E = "java/lang/IllegalStateException" ∧ cd = 2) ∨ (E = "java/util/NoSuchElementException" ∧ cd = 3)
def tcI (cd : Int32) (E : String) : Prop := E = "java/lang/IndexOutOfBoundsException" ∧ cd = 1
def cdB (slot kind : Int32) (kd : Nat → Int32) : Int32 := if okS slot ∧ okK kind then (if kd (ix slot) = -1 then 0 else 2) else 1
def kdB (slot kind : Int32) (kd : Nat → Int32) : Nat → Int32 := if cdB slot kind kd = 0 then upd kd (ix slot) kind else kd
def svB (slot kind : Int32) (kd : Nat → Int32) (key : Int64) (SK : Nat → Int64) : Nat → Int64 := if cdB slot kind kd = 0 then vp_updL SK (ix slot) key else SK
def cdT (slot x : Int32) (kd : Nat → Int32) : Int32 := if okS slot ∧ okN x then (if kd (ix slot) = -1 then 2 else 0) else 1
def cdD (slot : Int32) : Int32 := if okS slot then 0 else 1
def kdD (slot : Int32) (kd : Nat → Int32) : Nat → Int32 := if okS slot then upd kd (ix slot) (-1) else kd
def cdY (x : Int32) : Int32 := if okN x then 0 else 1
abbrev okP (x : Int32) (n : Nat) : Prop := ¬ x < 0 ∧ x < nI n
def cdP (x : Int32) (n : Nat) : Int32 := if okP x n then 0 else 1
theorem okP_of {x : Int32} {n : Nat} (hn : n < 2 ^ 31) (h : okP x n) : ∃ j : Nat, j < n ∧ x = nI j := by
  obtain ⟨j, hj, rfl⟩ := nI_of h.1
  exact ⟨j, (nI_ltI hj hn).mp h.2, rfl⟩
/-- the key k stands at place r -/
abbrev atR (K : Nat → Int64) (n : Nat) (key : Int64) (r : Nat) : Prop := r < n ∧ K r = key
/-- finish: its code, its answer, and the state behind it -/
def fin (n : Nat) (K V : Nat → Int64) (kd : Nat → Int32) (SK SV : Nat → Int64) (slot : Int32) : Int32 × Int64 × Nat × (Nat → Int64) × (Nat → Int64) × (Nat → Int32) :=
  if okS slot then
    if kd (ix slot) = -1 then (2, 0, n, K, V, kd) else
    if kd (ix slot) = 1 then
      if atR K n (SK (ix slot)) (rk K (SK (ix slot)) n) then (0, 1, n, K, vp_updL V (rk K (SK (ix slot)) n) (SV (ix slot)), upd kd (ix slot) (-1))
      else if 100 ≤ n then (2, 0, n, K, V, kd)
      else (0, 0, n + 1, vp_updL (opF (rk K (SK (ix slot)) n) (n - rk K (SK (ix slot)) n) K) (rk K (SK (ix slot)) n) (SK (ix slot)), vp_updL (opF (rk K (SK (ix slot)) n) (n - rk K (SK (ix slot)) n) V) (rk K (SK (ix slot)) n) (SV (ix slot)), upd kd (ix slot) (-1))
    else if kd (ix slot) = 3 then
      if rk K (SK (ix slot)) n < n then (0, K (rk K (SK (ix slot)) n), n, K, V, upd kd (ix slot) (-1)) else (3, 0, n, K, V, upd kd (ix slot) (-1))
    else if atR K n (SK (ix slot)) (rk K (SK (ix slot)) n) then
      if kd (ix slot) = 2 then (0, V (rk K (SK (ix slot)) n), n - 1, clF (n - 1 - rk K (SK (ix slot)) n) (rk K (SK (ix slot)) n) K, clF (n - 1 - rk K (SK (ix slot)) n) (rk K (SK (ix slot)) n) V, upd kd (ix slot) (-1))
      else (0, V (rk K (SK (ix slot)) n), n, K, V, upd kd (ix slot) (-1))
    else (3, 0, n, K, V, upd kd (ix slot) (-1))
  else (1, 0, n, K, V, kd)
/-- what holds of every state that is come by -/
def inv (n : Nat) (K : Nat → Int64) (kd : Nat → Int32) : Prop := n ≤ 100 ∧ mono K n ∧ ∀ j, j < 8 → kOk (kd j)
theorem inv_B {n : Nat} {K : Nat → Int64} {kd : Nat → Int32} (slot kind : Int32) (h : inv n K kd) : inv n K (kdB slot kind kd) := by
  refine ⟨h.1, h.2.1, ?_⟩
  unfold kdB
  by_cases e : cdB slot kind kd = 0
  · rw [if_pos e]
    have hk : okS slot ∧ okK kind := by
      unfold cdB at e
      by_cases q : okS slot ∧ okK kind
      · exact q
      · rw [if_neg q] at e; exact absurd e (by decide)
    exact upd_ok h.2.2 (Or.inr (okK_of hk.2))
  · rw [if_neg e]; exact h.2.2
theorem inv_D {n : Nat} {K : Nat → Int64} {kd : Nat → Int32} (slot : Int32) (h : inv n K kd) : inv n K (kdD slot kd) := by
  refine ⟨h.1, h.2.1, ?_⟩
  unfold kdD
  by_cases e : okS slot
  · rw [if_pos e]; exact upd_ok h.2.2 (Or.inl rfl)
  · rw [if_neg e]; exact h.2.2
theorem inv_F {n : Nat} {K V : Nat → Int64} {kd : Nat → Int32} {SK SV : Nat → Int64} (slot : Int32) (h : inv n K kd) : inv (fin n K V kd SK SV slot).2.2.1 (fin n K V kd SK SV slot).2.2.2.1 (fin n K V kd SK SV slot).2.2.2.2.2 := by
  have hk : ∀ j, j < 8 → kOk (upd kd (ix slot) (-1) j) := upd_ok h.2.2 (Or.inl rfl)
  unfold fin
  by_cases h1 : okS slot
  · rw [if_pos h1]
    by_cases h2 : kd (ix slot) = -1
    · rw [if_pos h2]; exact h
    · rw [if_neg h2]
      by_cases h3 : kd (ix slot) = 1
      · rw [if_pos h3]
        by_cases h4 : atR K n (SK (ix slot)) (rk K (SK (ix slot)) n)
        · rw [if_pos h4]; exact ⟨h.1, h.2.1, hk⟩
        · rw [if_neg h4]
          by_cases h5 : 100 ≤ n
          · rw [if_pos h5]; exact h
          · rw [if_neg h5]; exact ⟨by show n + 1 ≤ 100; omega, mono_put _ h.2.1, hk⟩
      · rw [if_neg h3]
        by_cases h4 : kd (ix slot) = 3
        · rw [if_pos h4]
          by_cases h5 : rk K (SK (ix slot)) n < n
          · rw [if_pos h5]; exact ⟨h.1, h.2.1, hk⟩
          · rw [if_neg h5]; exact ⟨h.1, h.2.1, hk⟩
        · rw [if_neg h4]
          by_cases h5 : atR K n (SK (ix slot)) (rk K (SK (ix slot)) n)
          · rw [if_pos h5]
            by_cases h6 : kd (ix slot) = 2
            · rw [if_pos h6]
              have h0 := h.1
              exact ⟨by show n - 1 ≤ 100; omega, mono_take _ h.2.1, hk⟩
            · rw [if_neg h6]; exact ⟨h.1, h.2.1, hk⟩
          · rw [if_neg h5]; exact ⟨h.1, h.2.1, hk⟩
  · rw [if_neg h1]; exact h
def cntS (K : Nat → Int64) (n : Nat) (fr to_ : Int64) : Int32 := cC (fun x y : Int32 => x + y) (fun _ => 1) K to_ (n - rk K fr n) (rk K fr n) 0
def sumS (K V : Nat → Int64) (n : Nat) (fr to_ : Int64) : Int64 := cC (fun x y : Int64 => x + y) V K to_ (n - rk K fr n) (rk K fr n) 0
theorem cdB_1 {slot kind : Int32} {kd : Nat → Int32} (h : ¬ (okS slot ∧ okK kind)) : cdB slot kind kd = 1 := by
  unfold cdB
  rw [if_neg h]
theorem cdB_2 {slot kind : Int32} {kd : Nat → Int32} (h : okS slot ∧ okK kind) (h2 : ¬ kd (ix slot) = -1) : cdB slot kind kd = 2 := by
  unfold cdB
  rw [if_pos h, if_neg h2]
theorem cdB_0 {slot kind : Int32} {kd : Nat → Int32} (h : okS slot ∧ okK kind) (h2 : kd (ix slot) = -1) : cdB slot kind kd = 0 := by
  unfold cdB
  rw [if_pos h, if_pos h2]
theorem cdT_1 {slot x : Int32} {kd : Nat → Int32} (h : ¬ (okS slot ∧ okN x)) : cdT slot x kd = 1 := by
  unfold cdT
  rw [if_neg h]
theorem cdT_2 {slot x : Int32} {kd : Nat → Int32} (h : okS slot ∧ okN x) (h2 : kd (ix slot) = -1) : cdT slot x kd = 2 := by
  unfold cdT
  rw [if_pos h, if_pos h2]
theorem cdT_0 {slot x : Int32} {kd : Nat → Int32} (h : okS slot ∧ okN x) (h2 : ¬ kd (ix slot) = -1) : cdT slot x kd = 0 := by
  unfold cdT
  rw [if_pos h, if_neg h2]
theorem tcE_1 {cd : Int32} (h : cd = 1) : tcE cd "java/lang/IllegalArgumentException" := Or.inl ⟨rfl, h⟩
theorem tcE_2 {cd : Int32} (h : cd = 2) : tcE cd "java/lang/IllegalStateException" := Or.inr (Or.inl ⟨rfl, h⟩)
theorem tcE_3 {cd : Int32} (h : cd = 3) : tcE cd "java/util/NoSuchElementException" := Or.inr (Or.inr ⟨rfl, h⟩)
/-- a key and its value put at place r -/
def fpN (n : Nat) (K : Nat → Int64) (key : Int64) (r : Nat) : Nat := if atR K n key r then n else n + 1
def fpK (n : Nat) (K : Nat → Int64) (key : Int64) (r : Nat) : Nat → Int64 := if atR K n key r then K else vp_updL (opF r (n - r) K) r key
def fpV (n : Nat) (K V : Nat → Int64) (key val : Int64) (r : Nat) : Nat → Int64 := vp_updL (if atR K n key r then V else opF r (n - r) V) r val
theorem cdB_n3 (slot kind : Int32) (kd : Nat → Int32) : ¬ cdB slot kind kd = 3 := by
  unfold cdB
  by_cases h : okS slot ∧ okK kind
  · rw [if_pos h]
    by_cases h2 : kd (ix slot) = -1
    · rw [if_pos h2]; decide
    · rw [if_neg h2]; decide
  · rw [if_neg h]; decide
theorem cdT_n3 (slot x : Int32) (kd : Nat → Int32) : ¬ cdT slot x kd = 3 := by
  unfold cdT
  by_cases h : okS slot ∧ okN x
  · rw [if_pos h]
    by_cases h2 : kd (ix slot) = -1
    · rw [if_pos h2]; decide
    · rw [if_neg h2]; decide
  · rw [if_neg h]; decide
/-- what the law's own cell holds behind a call with this code and answer -/
def oS (cd : Int32) (v : Int64) (o : Nat → Int64) : Nat → Int64 := if cd = 0 then vp_updL o 0 v else o
theorem oS_0 {cd : Int32} {v : Int64} {o : Nat → Int64} (h : cd = 0) : oS cd v o = vp_updL o 0 v := if_pos h
theorem oS_n {cd : Int32} {v : Int64} {o : Nat → Int64} (h : ¬ cd = 0) : oS cd v o = o := if_neg h
theorem oS_at {cd : Int32} {v : Int64} {o : Nat → Int64} (h : cd = 0) : oS cd v o 0 = v := by rw [oS_0 h]; rfl
theorem cdD_0 {slot : Int32} (h : cdD slot = 0) : okS slot := by
  unfold cdD at h
  by_cases q : okS slot
  · exact q
  · rw [if_neg q] at h; exact absurd h (by decide)
theorem cdP_0 {x : Int32} {n : Nat} (h : cdP x n = 0) : okP x n := by
  unfold cdP at h
  by_cases q : okP x n
  · exact q
  · rw [if_neg q] at h; exact absurd h (by decide)
/-- a long out of two ints of the script: the high word, the low word -/
def lwL (x y : Int32) : Int64 := (x.toInt64 <<< ((32 : Int32).toInt64 &&& 63)) ||| (y.toInt64 &&& 4294967295)
