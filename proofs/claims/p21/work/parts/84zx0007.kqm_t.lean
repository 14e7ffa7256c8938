theorem kqm_t {T T1 T2 : Zt} {m : Int} (a : KRM_ T T1 m) (b : KRM_ T1 T2 m) : KRM_ T T2 m := ⟨b.1.trans a.1, b.2.1.trans a.2.1, b.2.2.1.trans a.2.2.1, b.2.2.2.trans a.2.2.2⟩
