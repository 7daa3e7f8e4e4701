/-! ===== orders ===== -/
def pfn (l : List Nat) : Nat → Int32 := fun i => nI (l.getD i 0)
/-- all orders of the walkers left, the least first -/
def prms : Nat → List Nat → List (List Nat)
  | 0, _ => [[]]
  | k + 1, l => l.flatMap fun x => (prms k (l.filter (fun y => !(y == x)))).map (fun t => x :: t)
def ords (n : Nat) : List (List Nat) := prms n (List.range n)
def ord (n r : Nat) : List Nat := (ords n).getD r []
def chkC (n r : Nat) : Bool := match f_X6_setOrder (nI r) (nI n) (fun _ => 0) with
  | none => false
  | some w => (List.range n).all fun i => w i == pfn (ord n r) i
theorem chkC_all : ∀ n, n < 6 → ∀ r, r < fn n → chkC n r = true := by decide +kernel
def chkM (n r : Nat) : Bool := match f_X8_nextOrder (nI n) (pfn (ord n r)) with
  | none => false
  | some (b, w) => (b == (if r + 1 < fn n then 1 else 0)) && (decide (fn n ≤ r + 1) || (List.range n).all fun i => w i == pfn (ord n (r + 1)) i)
theorem chkM_all : ∀ n, n < 6 → 0 < n → ∀ r, r < fn n → chkM n r = true := by decide +kernel
def chkO (n r : Nat) : Bool := ((List.range n).all fun i => decide ((ord n r).getD i 0 < n)) && ((List.range n).all fun i => (List.range n).all fun j => decide ((ord n r).getD i 0 = (ord n r).getD j 0 → i = j))
theorem chkO_all : ∀ n, n < 6 → ∀ r, r < fn n → chkO n r = true := by decide +kernel
