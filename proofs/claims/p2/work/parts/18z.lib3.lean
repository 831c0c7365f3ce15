theorem two_kz {r : Int32} {P : Prop} (h : two r P 1 0) : kZ r := h.elim (fun q => Or.inr q.1) (fun q => Or.inl q.1)
