/-! closed forms of the loops over arrays: some places are done, the others are as they were -/
def sq_G (d : Nat → Bool) (new old : Nat → Int32) : Nat → Int32 := fun j => if d j = true then new j else old j
theorem sq_G_step {d d' : Nat → Bool} {new old : Nat → Int32} {i : Nat} {x : Int32} (hx : x = new i) (h : ∀ j, d' j = true ↔ (d j = true ∨ j = i)) : upd (sq_G d new old) i x = sq_G d' new old := by
  funext j
  unfold upd sq_G
  by_cases h1 : j = i
  · rw [if_pos h1, if_pos ((h j).mpr (Or.inr h1)), hx, h1]
  · rw [if_neg h1]
    by_cases h2 : d j = true
    · rw [if_pos h2, if_pos ((h j).mpr (Or.inl h2))]
    · rw [if_neg h2, if_neg (fun h3 => ((h j).mp h3).elim h2 h1)]
theorem sq_G_eq {d d' : Nat → Bool} {new old : Nat → Int32} (h : ∀ j, d' j = true ↔ d j = true) : sq_G d new old = sq_G d' new old := by
  funext j
  unfold sq_G
  by_cases h2 : d j = true
  · rw [if_pos h2, if_pos ((h j).mpr h2)]
  · rw [if_neg h2, if_neg (fun h3 => h2 ((h j).mp h3))]
theorem sq_G_old {d : Nat → Bool} {new old : Nat → Int32} {i : Nat} (h : ¬ d i = true) : sq_G d new old i = old i := by
  unfold sq_G; rw [if_neg h]
theorem sq_G_new {d : Nat → Bool} {new old : Nat → Int32} {i : Nat} (h : d i = true) : sq_G d new old i = new i := by
  unfold sq_G; rw [if_pos h]
theorem sq_G_none {d : Nat → Bool} {new old : Nat → Int32} (h : ∀ j, ¬ d j = true) : sq_G d new old = old := by
  funext j; exact sq_G_old (h j)
theorem sq_upd_same {f : Nat → Int32} {i : Nat} {x : Int32} (h : x = f i) : upd f i x = f := by
  funext j
  unfold upd
  by_cases h1 : j = i
  · rw [if_pos h1, h, h1]
  · rw [if_neg h1]
/-- ageEntries: places above i have moved -/
def sq_dA (i : Nat) : Nat → Bool := fun k => decide (i < k ∧ k ≤ 10)
def sq_ago (g : Nat → Int32) : Nat → Int32 := fun k => g (k - 1)
theorem sq_dA_step (i : Nat) (h : i < 10) : ∀ j, sq_dA i j = true ↔ (sq_dA (i + 1) j = true ∨ j = i + 1) := by
  intro j; simp only [sq_dA, decide_eq_true_eq]; omega
theorem sq_dA_top : ∀ j, ¬ sq_dA 10 j = true := by
  intro j; simp only [sq_dA, decide_eq_true_eq]; omega
/-- letRowIn: the NEXT go down, row by row from the last one; in row r those left of c have come -/
def sq_dL (n r c : Nat) : Nat → Bool := fun j => decide (j / 6 < n ∧ j % 6 < n ∧ (r < j / 6 ∨ (j / 6 = r ∧ j % 6 < c)))
def sq_dn6 (g : Nat → Int32) : Nat → Int32 := fun j => g (j - 6)
theorem sq_dL_step (n r c : Nat) (hn : n ≤ 6) (hr : r < n) (hc : c < n) : ∀ j, sq_dL n r (c + 1) j = true ↔ (sq_dL n r c j = true ∨ j = r * 6 + c) := by
  intro j; simp only [sq_dL, decide_eq_true_eq]; omega
theorem sq_dL_row (n r : Nat) : ∀ j, sq_dL n r 0 j = true ↔ sq_dL n (r + 1) n j = true := by
  intro j; simp only [sq_dL, decide_eq_true_eq]; omega
theorem sq_dL_top (n : Nat) (h : 0 < n) : ∀ j, ¬ sq_dL n (n - 1) 0 j = true := by
  intro j; simp only [sq_dL, decide_eq_true_eq]; omega
def sq_dR (c : Nat) : Nat → Bool := fun j => decide (j < c)
theorem sq_dR_step (c : Nat) : ∀ j, sq_dR (c + 1) j = true ↔ (sq_dR c j = true ∨ j = c) := by
  intro j; simp only [sq_dR, decide_eq_true_eq]; omega
/-- goOn: from the last cell back to (r, c) -/
def sq_dG (n r c : Nat) : Nat → Bool := fun j => decide (j / 6 < n ∧ j % 6 < n ∧ (r < j / 6 ∨ (j / 6 = r ∧ c ≤ j % 6)))
theorem sq_dG_step (n r c : Nat) (hn : n ≤ 6) (hr : r < n) (hc : c < n) : ∀ j, sq_dG n r c j = true ↔ (sq_dG n r (c + 1) j = true ∨ j = r * 6 + c) := by
  intro j; simp only [sq_dG, decide_eq_true_eq]; omega
theorem sq_dG_row (n r : Nat) : ∀ j, sq_dG n r n j = true ↔ sq_dG n (r + 1) 0 j = true := by
  intro j; simp only [sq_dG, decide_eq_true_eq]; omega
theorem sq_dG_top (n : Nat) (h : 0 < n) : ∀ j, ¬ sq_dG n (n - 1) n j = true := by
  intro j; simp only [sq_dG, decide_eq_true_eq]; omega
theorem sq_dG_end (n : Nat) : ∀ j, ¬ sq_dG n n 0 j = true := by
  intro j; simp only [sq_dG, decide_eq_true_eq]; omega
theorem sq_dG_at (n r c : Nat) (h6 : c < 6) : ¬ sq_dG n r (c + 1) (r * 6 + c) = true := by
  simp only [sq_dG, decide_eq_true_eq]; omega
theorem sq_dG_left (n r c : Nat) (hc : 0 < c) (h6 : c < 6) : ¬ sq_dG n r (c + 1) (r * 6 + c - 1) = true := by
  simp only [sq_dG, decide_eq_true_eq]; omega
theorem sq_dG_up (n r c : Nat) (hr : 0 < r) (h6 : c < 6) : ¬ sq_dG n r (c + 1) (r * 6 + c - 6) = true := by
  simp only [sq_dG, decide_eq_true_eq]; omega
def sq_nIn (inp fed : Nat → Int32) : Nat → Int32 := fun j => if j % 6 = 0 then fed (j / 6) else inp (j - 1)
def sq_nFa (fac nxt mk : Nat → Int32) : Nat → Int32 := fun j => if mk j = 0 then fac j else nxt j
def sq_nSu (su fa inp : Nat → Int32) : Nat → Int32 := fun j => (if j / 6 = 0 then 0 else su (j - 6)) + fa j * inp j
/-- what is fed: the place of a vector's int -/
def sq_vec (x : Int32) : Nat := x.toNatClampNeg
def sq_fedI (ago vec : Nat → Int32) : Nat → Int32 := fun r => if ago r = -1 then 0 else vec (sq_vec (ago r) * 6 + r)
def sq_fedM (ago fr : Nat → Int32) : Nat → Int32 := fun r => if ago r = -1 then 0 else fr (sq_vec (ago r))
/-- keepResults -/
def sq_keep (n : Nat) (ago su res : Nat → Int32) : Nat → (Nat → Int32)
  | 0 => res
  | c + 1 => if ago (n - 1 + c) = -1 then sq_keep n ago su res c else upd (sq_keep n ago su res c) (sq_vec (ago (n - 1 + c)) * 6 + c) (su ((n - 1) * 6 + c))
/-- countReachedCells -/
def sq_cntC (ago : Nat → Int32) (r : Nat) : Nat → Nat
  | 0 => 0
  | c + 1 => sq_cntC ago r c + (if ago (r + c) = -1 then 0 else 1)
def sq_cntR (ago : Nat → Int32) (n : Nat) : Nat → Nat
  | 0 => 0
  | r + 1 => sq_cntR ago n r + sq_cntC ago r n
theorem sq_cntC_le (ago : Nat → Int32) (r : Nat) : ∀ c, sq_cntC ago r c ≤ c
  | 0 => Nat.le_refl 0
  | c + 1 => by
    have h := sq_cntC_le ago r c
    simp only [sq_cntC]
    split <;> omega
theorem sq_cntR_le (ago : Nat → Int32) (n : Nat) : ∀ r, sq_cntR ago n r ≤ r * n
  | 0 => Nat.zero_le _
  | r + 1 => by
    have h := sq_cntR_le ago n r
    have h2 := sq_cntC_le ago r n
    simp only [sq_cntR]
    rw [Nat.succ_mul]
    omega
/-- a place of the last vectors: none, or the number of one that is in -/
def sq_okA (ago : Nat → Int32) (nIn : Nat) : Prop := ∀ k, k < 11 → ago k = -1 ∨ ∃ v : Nat, v < nIn ∧ ago k = nI v
def sq_01 (f : Nat → Int32) : Prop := ∀ k, f k = 0 ∨ f k = 1
theorem sq_vec_nI {v : Nat} (h : v < 2 ^ 31) : sq_vec (nI v) = v := nI_clamp h
theorem sq_m1_ne {v : Nat} (h : v < 2 ^ 31) : ¬ nI v = -1 := by
  intro q
  have a := nI_toInt h
  rw [q] at a
  have b : (-1 : Int32).toInt = -1 := by decide
  rw [b] at a
  omega
def sq_advF (fa nx : Nat → Int32) (i : Nat) (mk : Int32) : Nat → Int32 := if mk = 0 then fa else upd fa i (nx i)
def sq_advS (su fa : Nat → Int32) (r i : Nat) (x : Int32) : Nat → Int32 := upd su i ((if r = 0 then 0 else su (i - 6)) + fa i * x)
def sq_gI (ago vec inp : Nat → Int32) : Nat → Int32 := sq_nIn inp (sq_fedI ago vec)
def sq_gM (ago fr mk : Nat → Int32) : Nat → Int32 := sq_nIn mk (sq_fedM ago fr)
def sq_gF (ago fr mk fa nx : Nat → Int32) : Nat → Int32 := sq_nFa fa nx (sq_gM ago fr mk)
def sq_gS (ago vec fr inp mk fa nx su : Nat → Int32) : Nat → Int32 := sq_nSu su (sq_gF ago fr mk fa nx) (sq_gI ago vec inp)
theorem sq_stepF {d d' : Nat → Bool} {fa nx nm : Nat → Int32} {i : Nat} (h0 : ¬ d i = true) (h : ∀ j, d' j = true ↔ (d j = true ∨ j = i)) : sq_advF (sq_G d (sq_nFa fa nx nm) fa) nx i (nm i) = sq_G d' (sq_nFa fa nx nm) fa := by
  unfold sq_advF
  by_cases hm : nm i = 0
  · rw [if_pos hm]
    have e1 : sq_G d (sq_nFa fa nx nm) fa i = sq_nFa fa nx nm i := by rw [sq_G_old h0]; unfold sq_nFa; rw [if_pos hm]
    rw [← sq_upd_same e1.symm]
    exact sq_G_step rfl h
  · rw [if_neg hm]
    exact sq_G_step (by unfold sq_nFa; rw [if_neg hm]) h
theorem sq_stepS {d d' : Nat → Bool} {su nf ni fa' : Nat → Int32} {r c : Nat} {x : Int32} (hc : c < 6) (h0 : 0 < r → ¬ d (r * 6 + c - 6) = true) (h : ∀ j, d' j = true ↔ (d j = true ∨ j = r * 6 + c)) (hf : fa' (r * 6 + c) = nf (r * 6 + c)) (hx : x = ni (r * 6 + c)) : sq_advS (sq_G d (sq_nSu su nf ni) su) fa' r (r * 6 + c) x = sq_G d' (sq_nSu su nf ni) su := by
  unfold sq_advS
  refine sq_G_step ?_ h
  rw [hf, hx]
  unfold sq_nSu
  by_cases hr : r = 0
  · rw [if_pos hr, if_pos (by omega)]
  · rw [if_neg hr, if_neg (by omega), sq_G_old (h0 (by omega))]
