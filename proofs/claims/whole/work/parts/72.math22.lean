theorem SR_k {L K K2 : Nat → Int} {r A m : Int} (h : SR L K r A m) (e1 : K2 12 = K 12) (e2 : K2 13 = K 13) : SR L K2 r A m := ⟨h.1, e1.trans h.2.1, fun ho => ⟨e2.trans (h.2.2 ho).1, (h.2.2 ho).2⟩⟩
