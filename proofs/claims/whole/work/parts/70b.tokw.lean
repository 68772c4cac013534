theorem TK.nw {b : Int → Int} {n s : Int} {μ : Mu} (h : TK b n s μ) (e : ¬ μ 45 39 = 1) : we b n s = s := by
  refine we_see (fun q9 => ?_)
  rcases h.2 with q | q | q | q
  · omega
  · omega
  · omega
  · exact q.1.2.1 q9
theorem wdC_s {b : Int → Int} {s : Int} : wdC b s s = -1 := by
  have h : ∀ i : Int, ¬ spd b s s i = true := fun i => spd_f1 (by have := wln_r i; omega)
  exact wdC_n (h 0) (h 1) (h 2) (h 3) (h 4) (h 5)
