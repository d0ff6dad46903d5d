/-! the common words: worth, envy, over any holders -/
theorem i10 : ((1 : Int32) = 0) = False := by simp
/-- a number 0 .. c - 1 -/
def inb (k : Int32) (c : Nat) : Bool := decide (0 ≤ k.toInt ∧ k.toInt < c)
theorem inb_iff {k : Int32} {c : Nat} : inb k c = true ↔ 0 ≤ k.toInt ∧ k.toInt < c := decide_eq_true_iff
theorem inb_of {k : Int32} {c : Nat} (h : inb k c = true) (hc : c < 2 ^ 31) : ∃ j, j < c ∧ k = nI j := vp_in_of (vp_in_iff.mpr (inb_iff.mp h)) hc
theorem inb_nI {j c : Nat} (h : j < c) (hc : c < 2 ^ 31) : inb (nI j) c = true := by
  rw [inb_iff]
  constructor
  · rw [nI_toInt (by omega)]; omega
  · rw [nI_toInt (by omega)]; omega
theorem t_m1 {c : Nat} (hc : c < 100000) : (nI c - 1).toInt = (c : Int) - 1 := by
  have := pk_sub_toInt (a := c) (b := 1) (by omega) (by omega)
  exact this
def rng (a b c : Int64) : Bool := decide (¬ a < b ∧ ¬ c < a)
theorem rng_c {k : Int32} {l h : Int32} {l' h' : Int64} (hl : l.toInt64 = l') (hh : h.toInt64 = h') : rng k.toInt64 l' h' = decide (l.toInt ≤ k.toInt ∧ k.toInt ≤ h.toInt) := by
  subst hl; subst hh
  unfold rng
  rw [decide_eq_decide, wide_lt, wide_lt, Int32.lt_iff_toInt_lt, Int32.lt_iff_toInt_lt]
  omega
theorem rng_n {k : Int32} {c : Nat} (hc : c < 100000) : rng k.toInt64 0 (nI c - 1).toInt64 = inb k c := by
  rw [rng_c (l := 0) (h := nI c - 1) (l' := 0) (show (0 : Int32).toInt64 = 0 by decide) rfl, t_m1 hc]
  unfold inb
  rw [decide_eq_decide]
  show (0 : Int) ≤ _ ∧ _ ↔ _
  omega
theorem rng_k {k : Int32} (c : Nat) {h' : Int64} (hc : c < 100000) (hh : (nI c - 1).toInt64 = h') : rng k.toInt64 0 h' = inb k c := by
  subst hh; exact rng_n hc
/-- bit k of a set, as the code asks for it -/
def bt (s k : Int32) : Bool := decide ((s >>> (k &&& 31)) &&& 1 = 1)
theorem bt_iff {s k : Int32} : bt s k = true ↔ (s >>> (k &&& 31)) &&& 1 = 1 := decide_eq_true_iff
/-- worth to i of all that o has, by W (of a thing to a child) and the holders h -/
def wo (W : Nat → Nat → Int32) (h : Nat → Int32) (n i : Nat) (o : Int32) : Int32 := lp (fun t s => s + (if h t = o then W i t else 0)) n 0
def mx0 (v : Int32) : Int32 := if 0 < v then v else 0
/-- envy of i at j -/
def ev (W : Nat → Nat → Int32) (lk : Nat → Int32) (h : Nat → Int32) (n i j : Nat) : Int32 := if bt (lk i) (nI j) then mx0 (wo W h n i (nI j) - wo W h n i (nI i)) else 0
def allE (W : Nat → Nat → Int32) (lk : Nat → Int32) (h : Nat → Int32) (n c : Nat) : Int32 := lp (fun i s => lp (fun j s => s + ev W lk h n i j) c s) c 0
def tearE (W : Nat → Nat → Int32) (lk : Nat → Int32) (h : Nat → Int32) (n c : Nat) : Int32 := lp (fun i s => lp (fun j s => s + (if 0 < ev W lk h n i j then 1 else 0)) c s) c 0
/-- the set of places where h is o -/
def bagE (h : Nat → Int32) (n : Nat) (o : Int32) : Int32 := lp (fun t s => s ||| (if h t = o then 1 <<< (nI t &&& 31) else 0)) n 0
/-- the reference's numbers -/
def MD (M : Mm) (K c n : Nat) : Prop := M 58 0 = nI K ∧ M 58 3 = nI c ∧ M 58 7 = nI n ∧ K ≤ 5 ∧ c ≤ 4 ∧ n ≤ 7 ∧ (∀ t, t < 7 → ∃ j, j < 5 ∧ M 64 t = nI j)
def kN (M : Mm) (t : Nat) : Nat := (M 64 t).toNatClampNeg
def wN (M : Mm) (i j : Nat) : Int32 := if bt (M 61 i) (nI j) then 0 else M 62 (5 * i + j)
def wT (M : Mm) (i t : Nat) : Int32 := wN M i (kN M t)
theorem kN_ok {M : Mm} {K c n : Nat} (h : MD M K c n) {t : Nat} (ht : t < 7) : kN M t < 5 ∧ M 64 t = nI (kN M t) := by
  obtain ⟨j, h1, h2⟩ := h.2.2.2.2.2.2 t ht
  unfold kN
  rw [h2, nI_clamp (by omega)]
  exact ⟨h1, rfl⟩
def illE (mu : Nat → Int32) (kd : Nat → Nat) (h : Nat → Int32) (n : Nat) : Int32 := lp (fun t s => s ||| (if h t < 0 then (0 : Int32) else if bt (mu (h t).toNatClampNeg) (nI (kd t)) then (1 : Int32) <<< (h t &&& 31) else 0)) n 0
def costE (pe : Nat → Int32) (kd : Nat → Nat) (n : Nat) : Int32 := lp (fun t s => s + pe (kd t)) n 0
/-- holders: the table, or one of c children -/
def HV (h : Nat → Int32) (c : Nat) : Prop := ∀ t, t < 7 → h t = -1 ∨ ∃ j, j < c ∧ h t = nI j
def csw (x y : Int32) : Bool := decide (¬ x < 0 ∧ ¬ y < 0 ∧ ¬ x = y)
def agE (x y : Int32) : Bool := decide (¬ x < 0 ∧ ¬ y < 0 ∧ 0 < x + y)
/-- the first k of f, then g -/
def ov (f g : Nat → Int32) (k : Nat) : Nat → Int32 := fun j => if j < k then f j else g j
theorem ov_0 (f g : Nat → Int32) : ov f g 0 = g := by funext j; unfold ov; rw [if_neg (by omega)]
theorem ov_s (f g : Nat → Int32) (k : Nat) : upd (ov f g k) k (f k) = ov f g (k + 1) := by
  funext j; unfold ov upd
  by_cases h : j = k
  · rw [if_pos h, if_pos (by omega), h]
  · rw [if_neg h]
    dsimp only
    by_cases h2 : j < k
    · rw [if_pos h2, if_pos (by omega)]
    · rw [if_neg h2, if_neg (by omega)]
/-- a cell's contents anew -/
def st (M : Mm) (a : Nat) (f : Nat → Int32) : Mm := fun x => if x = a then f else M x
theorem st_at (M : Mm) (a : Nat) (f : Nat → Int32) (x : Nat) : st M a f x = if x = a then f else M x := rfl
theorem st_self (M : Mm) (a : Nat) : st M a (M a) = M := by
  funext x; unfold st; split
  · rename_i h; rw [h]
  · rfl
theorem up_st (M : Mm) (a k : Nat) (f : Nat → Int32) (x : Int32) : up (st M a f) a k x = st M a (upd f k x) := by
  funext y; unfold up st
  by_cases h : y = a
  · rw [if_pos h, if_pos h, if_pos rfl]
  · rw [if_neg h, if_neg h, if_neg h]
theorem up_eq_st (M : Mm) (a k : Nat) (x : Int32) : up M a k x = st M a (upd (M a) k x) := by
  have := up_st M a k (M a) x
  rwa [st_self] at this
theorem st_st (M : Mm) (a : Nat) (f g : Nat → Int32) : st (st M a f) a g = st M a g := by
  funext y; unfold st; split <;> rfl
def cntE (h : Nat → Int32) (n i : Nat) : Int32 := lp (fun t s => s + (if h t = nI i then 1 else 0)) n 0
def leastE (h : Nat → Int32) (n c : Nat) : Int32 := lp (fun i s => if cntE h n i < s then cntE h n i else s) c 100000000
def mostE (h : Nat → Int32) (n c : Nat) : Int32 := lp (fun i s => if s < cntE h n i then cntE h n i else s) c 0
def evenE (h : Nat → Int32) (n c : Nat) : Bool := decide (mostE h n c - leastE h n c < 2)
/-- what a child picks -/
def pickE (W : Nat → Nat → Int32) (h : Nat → Int32) (n i : Nat) : Int32 := lp (fun t s => if h t < 0 then (if s < 0 then nI t else if W i s.toNatClampNeg < W i t then nI t else s) else s) n (-1)
theorem up_c (M : Mm) (o k : Nat) (x : Int32) (a : Nat) : up M o k x a = if a = o then upd (M o) k x else M a := rfl
theorem upd_at (f : Nat → Int32) (k : Nat) (x : Int32) (j : Nat) : upd f k x j = if j = k then x else f j := rfl
