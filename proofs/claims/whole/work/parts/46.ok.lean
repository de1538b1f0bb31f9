/-! every method at every depth -/
theorem zOK_all (l : Launch) (K : zK) (ph : Bool) : ∀ d : Nat, zOK l K ph d
  | 0 => zOK_0 l K ph
  | d + 1 => zOK_succ (fun _ hj => zokJ_all hj) (zOK_all l K ph d)
