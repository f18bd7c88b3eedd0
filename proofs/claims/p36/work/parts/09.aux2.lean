theorem lwg_0 {tk co cn : Nat → Nat} {k t c i : Nat} (h : i = k) : lwg tk co cn k t c i = 0 := if_neg (fun q => q.1 h)
theorem lwg_2 {tk co cn : Nat → Nat} {k t c i : Nat} (h : ¬ cn i = c) : lwg tk co cn k t c i = 0 := if_neg (fun q => h q.2)
theorem lwg_1 {tk co cn : Nat → Nat} {k t c i : Nat} (h1 : ¬ i = k) (h : cn i = c) : lwg tk co cn k t c i = ptk t (tk i) + pco (co k) (co i) := if_pos ⟨h1, h⟩
