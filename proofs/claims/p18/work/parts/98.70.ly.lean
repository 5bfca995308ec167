/-! what an edit answers, told by the lists -/
theorem lx_ans {n n2 k k2 : Int32} {c m c2 m2 d p d2 p2 : Nat → Int32} {M N : List pl_P} (h1 : rp n c m M) (h2 : rp n2 d p M) (h3 : rp k c2 m2 N) (h4 : rp k2 d2 p2 N) : tcN n.toInt c m c2 m2 k.toInt.toNat = tcN n2.toInt d p d2 p2 k2.toInt.toNat := by
  rw [tcN_eq (d := d) (k := p) (d2 := d2) (k2 := p2) (lx_c h1 h2) (lx_m h1 h2) k.toInt.toNat (fun j hj => lx_c h3 h4 j (by omega)) (fun j hj => lx_m h3 h4 j (by omega)), lx_n h1 h2, lx_n h3 h4]
