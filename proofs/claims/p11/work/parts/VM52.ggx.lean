/-! the greatest set of places that belong together -/
def UNJ (FC : Nat → Prop) (s0 : CS) (r0 : RS) (nm : Nat → Nat → Prop) (AL : Als) (p q h w g : Nat) (c : List Ent) : Prop := ((UEnd s0 p q w r0 ∧ c = []) ∨ UCgo s0 AL p q h w c) ∨ ((q : Int) < (r0.i 20).toInt ∧ (UPush s0 r0 AL p q h w c ∨ ULoad s0 r0 nm AL p q h w c ∨ UStor s0 r0 nm AL p q h w c ∨ UNeg s0 r0 AL p q h w g c ∨ UAri s0 r0 AL p q h w c ∨ UCau s0 r0 AL p q h w c ∨ UKep s0 r0 AL p q h w g c ∨ UJmp s0 r0 AL p q h w c ∨ UJz s0 r0 AL p q h w g c ∨ UOut s0 r0 AL p q h w c ∨ UJnf s0 r0 AL p q h w g c ∨ UJnb s0 r0 AL p q h w g c ∨ UAsr s0 r0 AL p q h w c ∨ VRet FC s0 r0 AL p q h w c ∨ VGo FC s0 r0 AL p q h w c ∨ URai s0 r0 AL p q h w c ∨ URa0 s0 r0 AL p q h w c ∨ UDiv s0 r0 AL p q h w c ∨ UStp s0 r0 AL p q h w c ∨ UFor s0 r0 AL p q h w c ∨ UAga s0 r0 AL p q h w c ∨ UTak s0 r0 AL p q h w g c ∨ UTry s0 r0 AL p q h w g c ∨ UOpe s0 r0 AL p q h w c ∨ VEnc FC s0 r0 AL p q h w c ∨ VEnb FC s0 r0 AL p q h w c ∨ VEnf FC s0 r0 AL p q h w c ∨ URel s0 r0 AL p q w h c ∨ UAre s0 r0 AL p q h w c ∨ URwp r0 AL p q h w c ∨ UGo3 s0 r0 AL p q h w c ∨ URow s0 r0 AL p q h w c ∨ URwn s0 r0 nm AL p q h w c ∨ UCho s0 r0 AL p q h w c ∨ URkp r0 AL p q h w g c))
theorem UNJ.mn {FC : Nat → Prop} {s0 : CS} {r0 : RS} {nm : Nat → Nat → Prop} {A B : Als} {p q h w w2 g : Nat} {c : List Ent} (s : SUB A B) (l : w ≤ w2) : UNJ FC s0 r0 nm A p q h w g c → UNJ FC s0 r0 nm B p q h w2 g c := by
  rintro ((⟨u, v⟩ | u) | ⟨hq, u⟩)
  · exact Or.inl (Or.inl ⟨u.mn l, v⟩)
  · exact Or.inl (Or.inr (u.mn s l))
  refine Or.inr ⟨hq, ?_⟩
  rcases u with u | u | u | u | u | u | u | u | u | u | u | u | u | u | u | u | u | u | u | u | u | u | u | u | u | u | u | u | u | u | u | u | u | u | u
  · exact (Or.inl (u.mn s l))
  · exact (Or.inr (Or.inl (u.mn s l)))
  · exact (Or.inr (Or.inr (Or.inl (u.mn s l))))
  · exact (Or.inr (Or.inr (Or.inr (Or.inl (u.mn s l)))))
  · exact (Or.inr (Or.inr (Or.inr (Or.inr (Or.inl (u.mn s l))))))
  · exact (Or.inr (Or.inr (Or.inr (Or.inr (Or.inr (Or.inl (u.mn s l)))))))
  · exact (Or.inr (Or.inr (Or.inr (Or.inr (Or.inr (Or.inr (Or.inl (u.mn s l))))))))
  · exact (Or.inr (Or.inr (Or.inr (Or.inr (Or.inr (Or.inr (Or.inr (Or.inl (u.mn s l)))))))))
  · exact (Or.inr (Or.inr (Or.inr (Or.inr (Or.inr (Or.inr (Or.inr (Or.inr (Or.inl (u.mn s l))))))))))
  · exact (Or.inr (Or.inr (Or.inr (Or.inr (Or.inr (Or.inr (Or.inr (Or.inr (Or.inr (Or.inl (u.mn s l)))))))))))
  · exact (Or.inr (Or.inr (Or.inr (Or.inr (Or.inr (Or.inr (Or.inr (Or.inr (Or.inr (Or.inr (Or.inl (u.mn s l))))))))))))
  · exact (Or.inr (Or.inr (Or.inr (Or.inr (Or.inr (Or.inr (Or.inr (Or.inr (Or.inr (Or.inr (Or.inr (Or.inl (u.mn s l)))))))))))))
  · exact (Or.inr (Or.inr (Or.inr (Or.inr (Or.inr (Or.inr (Or.inr (Or.inr (Or.inr (Or.inr (Or.inr (Or.inr (Or.inl (u.mn s l))))))))))))))
  · exact (Or.inr (Or.inr (Or.inr (Or.inr (Or.inr (Or.inr (Or.inr (Or.inr (Or.inr (Or.inr (Or.inr (Or.inr (Or.inr (Or.inl (u.mn s l)))))))))))))))
  · exact (Or.inr (Or.inr (Or.inr (Or.inr (Or.inr (Or.inr (Or.inr (Or.inr (Or.inr (Or.inr (Or.inr (Or.inr (Or.inr (Or.inr (Or.inl (u.mn s l))))))))))))))))
  · exact (Or.inr (Or.inr (Or.inr (Or.inr (Or.inr (Or.inr (Or.inr (Or.inr (Or.inr (Or.inr (Or.inr (Or.inr (Or.inr (Or.inr (Or.inr (Or.inl (u.mn s l)))))))))))))))))
  · exact (Or.inr (Or.inr (Or.inr (Or.inr (Or.inr (Or.inr (Or.inr (Or.inr (Or.inr (Or.inr (Or.inr (Or.inr (Or.inr (Or.inr (Or.inr (Or.inr (Or.inl (u.mn s l))))))))))))))))))
  · exact (Or.inr (Or.inr (Or.inr (Or.inr (Or.inr (Or.inr (Or.inr (Or.inr (Or.inr (Or.inr (Or.inr (Or.inr (Or.inr (Or.inr (Or.inr (Or.inr (Or.inr (Or.inl (u.mn s l)))))))))))))))))))
  · exact (Or.inr (Or.inr (Or.inr (Or.inr (Or.inr (Or.inr (Or.inr (Or.inr (Or.inr (Or.inr (Or.inr (Or.inr (Or.inr (Or.inr (Or.inr (Or.inr (Or.inr (Or.inr (Or.inl (u.mn s l))))))))))))))))))))
  · exact (Or.inr (Or.inr (Or.inr (Or.inr (Or.inr (Or.inr (Or.inr (Or.inr (Or.inr (Or.inr (Or.inr (Or.inr (Or.inr (Or.inr (Or.inr (Or.inr (Or.inr (Or.inr (Or.inr (Or.inl (u.mn s l)))))))))))))))))))))
  · exact (Or.inr (Or.inr (Or.inr (Or.inr (Or.inr (Or.inr (Or.inr (Or.inr (Or.inr (Or.inr (Or.inr (Or.inr (Or.inr (Or.inr (Or.inr (Or.inr (Or.inr (Or.inr (Or.inr (Or.inr (Or.inl (u.mn s l))))))))))))))))))))))
  · exact (Or.inr (Or.inr (Or.inr (Or.inr (Or.inr (Or.inr (Or.inr (Or.inr (Or.inr (Or.inr (Or.inr (Or.inr (Or.inr (Or.inr (Or.inr (Or.inr (Or.inr (Or.inr (Or.inr (Or.inr (Or.inr (Or.inl (u.mn s l)))))))))))))))))))))))
  · exact (Or.inr (Or.inr (Or.inr (Or.inr (Or.inr (Or.inr (Or.inr (Or.inr (Or.inr (Or.inr (Or.inr (Or.inr (Or.inr (Or.inr (Or.inr (Or.inr (Or.inr (Or.inr (Or.inr (Or.inr (Or.inr (Or.inr (Or.inl (u.mn s l))))))))))))))))))))))))
  · exact (Or.inr (Or.inr (Or.inr (Or.inr (Or.inr (Or.inr (Or.inr (Or.inr (Or.inr (Or.inr (Or.inr (Or.inr (Or.inr (Or.inr (Or.inr (Or.inr (Or.inr (Or.inr (Or.inr (Or.inr (Or.inr (Or.inr (Or.inr (Or.inl (u.mn s l)))))))))))))))))))))))))
  · exact (Or.inr (Or.inr (Or.inr (Or.inr (Or.inr (Or.inr (Or.inr (Or.inr (Or.inr (Or.inr (Or.inr (Or.inr (Or.inr (Or.inr (Or.inr (Or.inr (Or.inr (Or.inr (Or.inr (Or.inr (Or.inr (Or.inr (Or.inr (Or.inr (Or.inl (u.mn s l))))))))))))))))))))))))))
  · exact (Or.inr (Or.inr (Or.inr (Or.inr (Or.inr (Or.inr (Or.inr (Or.inr (Or.inr (Or.inr (Or.inr (Or.inr (Or.inr (Or.inr (Or.inr (Or.inr (Or.inr (Or.inr (Or.inr (Or.inr (Or.inr (Or.inr (Or.inr (Or.inr (Or.inr (Or.inl (u.mn s l)))))))))))))))))))))))))))
  · exact (Or.inr (Or.inr (Or.inr (Or.inr (Or.inr (Or.inr (Or.inr (Or.inr (Or.inr (Or.inr (Or.inr (Or.inr (Or.inr (Or.inr (Or.inr (Or.inr (Or.inr (Or.inr (Or.inr (Or.inr (Or.inr (Or.inr (Or.inr (Or.inr (Or.inr (Or.inr (Or.inl (u.mn s l))))))))))))))))))))))))))))
  · exact (Or.inr (Or.inr (Or.inr (Or.inr (Or.inr (Or.inr (Or.inr (Or.inr (Or.inr (Or.inr (Or.inr (Or.inr (Or.inr (Or.inr (Or.inr (Or.inr (Or.inr (Or.inr (Or.inr (Or.inr (Or.inr (Or.inr (Or.inr (Or.inr (Or.inr (Or.inr (Or.inr (Or.inl (u.mn s l)))))))))))))))))))))))))))))
  · exact (Or.inr (Or.inr (Or.inr (Or.inr (Or.inr (Or.inr (Or.inr (Or.inr (Or.inr (Or.inr (Or.inr (Or.inr (Or.inr (Or.inr (Or.inr (Or.inr (Or.inr (Or.inr (Or.inr (Or.inr (Or.inr (Or.inr (Or.inr (Or.inr (Or.inr (Or.inr (Or.inr (Or.inr (Or.inl (u.mn s l))))))))))))))))))))))))))))))
  · exact (Or.inr (Or.inr (Or.inr (Or.inr (Or.inr (Or.inr (Or.inr (Or.inr (Or.inr (Or.inr (Or.inr (Or.inr (Or.inr (Or.inr (Or.inr (Or.inr (Or.inr (Or.inr (Or.inr (Or.inr (Or.inr (Or.inr (Or.inr (Or.inr (Or.inr (Or.inr (Or.inr (Or.inr (Or.inr (Or.inl (u.mn s l)))))))))))))))))))))))))))))))
  · exact (Or.inr (Or.inr (Or.inr (Or.inr (Or.inr (Or.inr (Or.inr (Or.inr (Or.inr (Or.inr (Or.inr (Or.inr (Or.inr (Or.inr (Or.inr (Or.inr (Or.inr (Or.inr (Or.inr (Or.inr (Or.inr (Or.inr (Or.inr (Or.inr (Or.inr (Or.inr (Or.inr (Or.inr (Or.inr (Or.inr (Or.inl (u.mn s l))))))))))))))))))))))))))))))))
  · exact (Or.inr (Or.inr (Or.inr (Or.inr (Or.inr (Or.inr (Or.inr (Or.inr (Or.inr (Or.inr (Or.inr (Or.inr (Or.inr (Or.inr (Or.inr (Or.inr (Or.inr (Or.inr (Or.inr (Or.inr (Or.inr (Or.inr (Or.inr (Or.inr (Or.inr (Or.inr (Or.inr (Or.inr (Or.inr (Or.inr (Or.inr (Or.inl (u.mn s l)))))))))))))))))))))))))))))))))
  · exact (Or.inr (Or.inr (Or.inr (Or.inr (Or.inr (Or.inr (Or.inr (Or.inr (Or.inr (Or.inr (Or.inr (Or.inr (Or.inr (Or.inr (Or.inr (Or.inr (Or.inr (Or.inr (Or.inr (Or.inr (Or.inr (Or.inr (Or.inr (Or.inr (Or.inr (Or.inr (Or.inr (Or.inr (Or.inr (Or.inr (Or.inr (Or.inr (Or.inl (u.mn s l))))))))))))))))))))))))))))))))))
  · exact (Or.inr (Or.inr (Or.inr (Or.inr (Or.inr (Or.inr (Or.inr (Or.inr (Or.inr (Or.inr (Or.inr (Or.inr (Or.inr (Or.inr (Or.inr (Or.inr (Or.inr (Or.inr (Or.inr (Or.inr (Or.inr (Or.inr (Or.inr (Or.inr (Or.inr (Or.inr (Or.inr (Or.inr (Or.inr (Or.inr (Or.inr (Or.inr (Or.inr (Or.inl (u.mn s l)))))))))))))))))))))))))))))))))))
  · exact (Or.inr (Or.inr (Or.inr (Or.inr (Or.inr (Or.inr (Or.inr (Or.inr (Or.inr (Or.inr (Or.inr (Or.inr (Or.inr (Or.inr (Or.inr (Or.inr (Or.inr (Or.inr (Or.inr (Or.inr (Or.inr (Or.inr (Or.inr (Or.inr (Or.inr (Or.inr (Or.inr (Or.inr (Or.inr (Or.inr (Or.inr (Or.inr (Or.inr (Or.inr (u.mn s l)))))))))))))))))))))))))))))))))))
theorem VRet.to {FC : Nat → Prop} {s0 : CS} {r0 : RS} {A : Als} {p q h w : Nat} {c : List Ent} (fc : ∀ y : Nat, FCP r0 A y → FC y) : VRet FC s0 r0 A p q h w c → URet s0 r0 A p q h w c := by
  rintro ⟨h', u, a, b, d, e, f | ⟨f1, f2, f3⟩⟩
  · exact ⟨h', u, a, b, d, e, Or.inl f⟩
  · exact ⟨h', u, a, b, d, e, Or.inr ⟨f1, f2, f3.to fc⟩⟩
theorem VGo.to {FC : Nat → Prop} {s0 : CS} {r0 : RS} {A : Als} {p q h w : Nat} {c : List Ent} (fc : ∀ y : Nat, FCP r0 A y → FC y) : VGo FC s0 r0 A p q h w c → UGo s0 r0 A p q h w c := fun ⟨a, b, u, d, e, f⟩ => ⟨a, b, u, d, e, f.to fc⟩
theorem VEnc.to {FC : Nat → Prop} {s0 : CS} {r0 : RS} {A : Als} {p q h w : Nat} {c : List Ent} (fc : ∀ y : Nat, FCP r0 A y → FC y) : VEnc FC s0 r0 A p q h w c → UEnc s0 r0 A p q h w c := fun ⟨a, b, e, c0, u, wg, f, i, j, k, m, n⟩ => ⟨a, b, e, c0, u, wg, f, i, j, k, m, n.to fc⟩
theorem VEnb.to {FC : Nat → Prop} {s0 : CS} {r0 : RS} {A : Als} {p q h w : Nat} {c : List Ent} (fc : ∀ y : Nat, FCP r0 A y → FC y) : VEnb FC s0 r0 A p q h w c → UEnb s0 r0 A p q h w c := fun ⟨a, b, e, c0, u, wg, f, i, j, k, m, n⟩ => ⟨a, b, e, c0, u, wg, f, i, j, k, m, n.to fc⟩
theorem VEnf.to {FC : Nat → Prop} {s0 : CS} {r0 : RS} {A : Als} {p q h w : Nat} {c : List Ent} : VEnf FC s0 r0 A p q h w c → UEnf s0 r0 A p q h w c := fun ⟨a, b, d, e, c0, f, i, j, k, m, n, _⟩ => ⟨a, b, d, e, c0, f, i, j, k, m, n⟩
theorem UNJ.to {FC : Nat → Prop} {s0 : CS} {r0 : RS} {nm : Nat → Nat → Prop} {A : Als} {p q h w g : Nat} {c : List Ent} (fc : ∀ y : Nat, FCP r0 A y → FC y) : UNJ FC s0 r0 nm A p q h w g c → UNI s0 r0 nm A p q h w g c := by
  rintro ((⟨u, v⟩ | u) | ⟨hq, u⟩)
  · exact Or.inl (Or.inl u)
  · exact Or.inl (Or.inr u)
  refine Or.inr ⟨hq, ?_⟩
  rcases u with u | u | u | u | u | u | u | u | u | u | u | u | u | u | u | u | u | u | u | u | u | u | u | u | u | u | u | u | u | u | u | u | u | u | u
  · exact (Or.inl u)
  · exact (Or.inr (Or.inl u))
  · exact (Or.inr (Or.inr (Or.inl u)))
  · exact (Or.inr (Or.inr (Or.inr (Or.inl u))))
  · exact (Or.inr (Or.inr (Or.inr (Or.inr (Or.inl u)))))
  · exact (Or.inr (Or.inr (Or.inr (Or.inr (Or.inr (Or.inl u))))))
  · exact (Or.inr (Or.inr (Or.inr (Or.inr (Or.inr (Or.inr (Or.inl u)))))))
  · exact (Or.inr (Or.inr (Or.inr (Or.inr (Or.inr (Or.inr (Or.inr (Or.inl u))))))))
  · exact (Or.inr (Or.inr (Or.inr (Or.inr (Or.inr (Or.inr (Or.inr (Or.inr (Or.inl u)))))))))
  · exact (Or.inr (Or.inr (Or.inr (Or.inr (Or.inr (Or.inr (Or.inr (Or.inr (Or.inr (Or.inl u))))))))))
  · exact (Or.inr (Or.inr (Or.inr (Or.inr (Or.inr (Or.inr (Or.inr (Or.inr (Or.inr (Or.inr (Or.inl u)))))))))))
  · exact (Or.inr (Or.inr (Or.inr (Or.inr (Or.inr (Or.inr (Or.inr (Or.inr (Or.inr (Or.inr (Or.inr (Or.inl u))))))))))))
  · exact (Or.inr (Or.inr (Or.inr (Or.inr (Or.inr (Or.inr (Or.inr (Or.inr (Or.inr (Or.inr (Or.inr (Or.inr (Or.inl u)))))))))))))
  · exact (Or.inr (Or.inr (Or.inr (Or.inr (Or.inr (Or.inr (Or.inr (Or.inr (Or.inr (Or.inr (Or.inr (Or.inr (Or.inr (Or.inl (VRet.to fc u)))))))))))))))
  · exact (Or.inr (Or.inr (Or.inr (Or.inr (Or.inr (Or.inr (Or.inr (Or.inr (Or.inr (Or.inr (Or.inr (Or.inr (Or.inr (Or.inr (Or.inl (VGo.to fc u))))))))))))))))
  · exact (Or.inr (Or.inr (Or.inr (Or.inr (Or.inr (Or.inr (Or.inr (Or.inr (Or.inr (Or.inr (Or.inr (Or.inr (Or.inr (Or.inr (Or.inr (Or.inl u))))))))))))))))
  · exact (Or.inr (Or.inr (Or.inr (Or.inr (Or.inr (Or.inr (Or.inr (Or.inr (Or.inr (Or.inr (Or.inr (Or.inr (Or.inr (Or.inr (Or.inr (Or.inr (Or.inl u)))))))))))))))))
  · exact (Or.inr (Or.inr (Or.inr (Or.inr (Or.inr (Or.inr (Or.inr (Or.inr (Or.inr (Or.inr (Or.inr (Or.inr (Or.inr (Or.inr (Or.inr (Or.inr (Or.inr (Or.inl u))))))))))))))))))
  · exact (Or.inr (Or.inr (Or.inr (Or.inr (Or.inr (Or.inr (Or.inr (Or.inr (Or.inr (Or.inr (Or.inr (Or.inr (Or.inr (Or.inr (Or.inr (Or.inr (Or.inr (Or.inr (Or.inl u)))))))))))))))))))
  · exact (Or.inr (Or.inr (Or.inr (Or.inr (Or.inr (Or.inr (Or.inr (Or.inr (Or.inr (Or.inr (Or.inr (Or.inr (Or.inr (Or.inr (Or.inr (Or.inr (Or.inr (Or.inr (Or.inr (Or.inl u))))))))))))))))))))
  · exact (Or.inr (Or.inr (Or.inr (Or.inr (Or.inr (Or.inr (Or.inr (Or.inr (Or.inr (Or.inr (Or.inr (Or.inr (Or.inr (Or.inr (Or.inr (Or.inr (Or.inr (Or.inr (Or.inr (Or.inr (Or.inl u)))))))))))))))))))))
  · exact (Or.inr (Or.inr (Or.inr (Or.inr (Or.inr (Or.inr (Or.inr (Or.inr (Or.inr (Or.inr (Or.inr (Or.inr (Or.inr (Or.inr (Or.inr (Or.inr (Or.inr (Or.inr (Or.inr (Or.inr (Or.inr (Or.inl u))))))))))))))))))))))
  · exact (Or.inr (Or.inr (Or.inr (Or.inr (Or.inr (Or.inr (Or.inr (Or.inr (Or.inr (Or.inr (Or.inr (Or.inr (Or.inr (Or.inr (Or.inr (Or.inr (Or.inr (Or.inr (Or.inr (Or.inr (Or.inr (Or.inr (Or.inl u)))))))))))))))))))))))
  · exact (Or.inr (Or.inr (Or.inr (Or.inr (Or.inr (Or.inr (Or.inr (Or.inr (Or.inr (Or.inr (Or.inr (Or.inr (Or.inr (Or.inr (Or.inr (Or.inr (Or.inr (Or.inr (Or.inr (Or.inr (Or.inr (Or.inr (Or.inr (Or.inl u))))))))))))))))))))))))
  · exact (Or.inr (Or.inr (Or.inr (Or.inr (Or.inr (Or.inr (Or.inr (Or.inr (Or.inr (Or.inr (Or.inr (Or.inr (Or.inr (Or.inr (Or.inr (Or.inr (Or.inr (Or.inr (Or.inr (Or.inr (Or.inr (Or.inr (Or.inr (Or.inr (Or.inl (VEnc.to fc u))))))))))))))))))))))))))
  · exact (Or.inr (Or.inr (Or.inr (Or.inr (Or.inr (Or.inr (Or.inr (Or.inr (Or.inr (Or.inr (Or.inr (Or.inr (Or.inr (Or.inr (Or.inr (Or.inr (Or.inr (Or.inr (Or.inr (Or.inr (Or.inr (Or.inr (Or.inr (Or.inr (Or.inr (Or.inl (VEnb.to fc u)))))))))))))))))))))))))))
  · exact (Or.inr (Or.inr (Or.inr (Or.inr (Or.inr (Or.inr (Or.inr (Or.inr (Or.inr (Or.inr (Or.inr (Or.inr (Or.inr (Or.inr (Or.inr (Or.inr (Or.inr (Or.inr (Or.inr (Or.inr (Or.inr (Or.inr (Or.inr (Or.inr (Or.inr (Or.inr (Or.inl (VEnf.to u))))))))))))))))))))))))))))
  · exact (Or.inr (Or.inr (Or.inr (Or.inr (Or.inr (Or.inr (Or.inr (Or.inr (Or.inr (Or.inr (Or.inr (Or.inr (Or.inr (Or.inr (Or.inr (Or.inr (Or.inr (Or.inr (Or.inr (Or.inr (Or.inr (Or.inr (Or.inr (Or.inr (Or.inr (Or.inr (Or.inr (Or.inl u))))))))))))))))))))))))))))
  · exact (Or.inr (Or.inr (Or.inr (Or.inr (Or.inr (Or.inr (Or.inr (Or.inr (Or.inr (Or.inr (Or.inr (Or.inr (Or.inr (Or.inr (Or.inr (Or.inr (Or.inr (Or.inr (Or.inr (Or.inr (Or.inr (Or.inr (Or.inr (Or.inr (Or.inr (Or.inr (Or.inr (Or.inr (Or.inl u)))))))))))))))))))))))))))))
  · exact (Or.inr (Or.inr (Or.inr (Or.inr (Or.inr (Or.inr (Or.inr (Or.inr (Or.inr (Or.inr (Or.inr (Or.inr (Or.inr (Or.inr (Or.inr (Or.inr (Or.inr (Or.inr (Or.inr (Or.inr (Or.inr (Or.inr (Or.inr (Or.inr (Or.inr (Or.inr (Or.inr (Or.inr (Or.inr (Or.inl u))))))))))))))))))))))))))))))
  · exact (Or.inr (Or.inr (Or.inr (Or.inr (Or.inr (Or.inr (Or.inr (Or.inr (Or.inr (Or.inr (Or.inr (Or.inr (Or.inr (Or.inr (Or.inr (Or.inr (Or.inr (Or.inr (Or.inr (Or.inr (Or.inr (Or.inr (Or.inr (Or.inr (Or.inr (Or.inr (Or.inr (Or.inr (Or.inr (Or.inr (Or.inl u)))))))))))))))))))))))))))))))
  · exact (Or.inr (Or.inr (Or.inr (Or.inr (Or.inr (Or.inr (Or.inr (Or.inr (Or.inr (Or.inr (Or.inr (Or.inr (Or.inr (Or.inr (Or.inr (Or.inr (Or.inr (Or.inr (Or.inr (Or.inr (Or.inr (Or.inr (Or.inr (Or.inr (Or.inr (Or.inr (Or.inr (Or.inr (Or.inr (Or.inr (Or.inr (Or.inl u))))))))))))))))))))))))))))))))
  · exact (Or.inr (Or.inr (Or.inr (Or.inr (Or.inr (Or.inr (Or.inr (Or.inr (Or.inr (Or.inr (Or.inr (Or.inr (Or.inr (Or.inr (Or.inr (Or.inr (Or.inr (Or.inr (Or.inr (Or.inr (Or.inr (Or.inr (Or.inr (Or.inr (Or.inr (Or.inr (Or.inr (Or.inr (Or.inr (Or.inr (Or.inr (Or.inr (Or.inl u)))))))))))))))))))))))))))))))))
  · exact (Or.inr (Or.inr (Or.inr (Or.inr (Or.inr (Or.inr (Or.inr (Or.inr (Or.inr (Or.inr (Or.inr (Or.inr (Or.inr (Or.inr (Or.inr (Or.inr (Or.inr (Or.inr (Or.inr (Or.inr (Or.inr (Or.inr (Or.inr (Or.inr (Or.inr (Or.inr (Or.inr (Or.inr (Or.inr (Or.inr (Or.inr (Or.inr (Or.inr (Or.inl u))))))))))))))))))))))))))))))))))
  · exact (Or.inr (Or.inr (Or.inr (Or.inr (Or.inr (Or.inr (Or.inr (Or.inr (Or.inr (Or.inr (Or.inr (Or.inr (Or.inr (Or.inr (Or.inr (Or.inr (Or.inr (Or.inr (Or.inr (Or.inr (Or.inr (Or.inr (Or.inr (Or.inr (Or.inr (Or.inr (Or.inr (Or.inr (Or.inr (Or.inr (Or.inr (Or.inr (Or.inr (Or.inr u))))))))))))))))))))))))))))))))))
theorem UNJ.fin {FC : Nat → Prop} {s0 : CS} {r0 : RS} {nm : Nat → Nat → Prop} {A : Als} {p q h w g : Nat} {c : List Ent} (z5 : r0.a 21 q = 35) {a : Ent} {c0 : List Ent} (hc : c = a :: c0) : UNJ FC s0 r0 nm A p q h w g c → FC a.y ∨ UCgo s0 A p q h w c := by
  rintro ((⟨u, v⟩ | u) | ⟨hq, u⟩)
  · rw [hc] at v; cases v
  · exact Or.inr u
  refine Or.inl ?_
  rcases u with u | u | u | u | u | u | u | u | u | u | u | u | u | u | u | u | u | u | u | u | u | u | u | u | u | u | u | u | u | u | u | u | u | u | u
  · rcases u with ⟨-, z, -⟩ <;> exact absurd (z5.symm.trans z) (by decide)
  · rcases u with ⟨-, z, -⟩ <;> exact absurd (z5.symm.trans z) (by decide)
  · rcases u with ⟨-, ⟨-, z, -⟩ | ⟨-, z, -⟩⟩ <;> exact absurd (z5.symm.trans z) (by decide)
  · rcases u with ⟨⟨-, z⟩ | ⟨-, z⟩, -⟩ <;> exact absurd (z5.symm.trans z) (by decide)
  · rcases u with ⟨⟨-, z, -⟩ | ⟨-, z, -⟩ | ⟨-, z, -⟩ | ⟨-, z, -⟩ | ⟨-, z, -⟩ | ⟨-, z, -⟩ | ⟨-, z, -⟩ | ⟨-, z, -⟩ | ⟨-, z, -⟩, -⟩ <;> exact absurd (z5.symm.trans z) (by decide)
  · rcases u with ⟨-, z, -⟩ <;> exact absurd (z5.symm.trans z) (by decide)
  · rcases u with ⟨⟨-, z⟩ | ⟨-, z⟩, -⟩ <;> exact absurd (z5.symm.trans z) (by decide)
  · rcases u with ⟨-, z, -⟩ <;> exact absurd (z5.symm.trans z) (by decide)
  · rcases u with ⟨-, z, -⟩ <;> exact absurd (z5.symm.trans z) (by decide)
  · rcases u with ⟨-, z, -⟩ <;> exact absurd (z5.symm.trans z) (by decide)
  · rcases u with ⟨⟨-, -, z, -⟩, -⟩ <;> exact absurd (z5.symm.trans z) (by decide)
  · rcases u with ⟨⟨-, -, z, -⟩, -⟩ <;> exact absurd (z5.symm.trans z) (by decide)
  · rcases u with ⟨-, z, -⟩ <;> exact absurd (z5.symm.trans z) (by decide)
  · rcases u with ⟨_, _, -, -, -, -, ⟨-, z⟩ | ⟨-, z, -⟩⟩ <;> exact absurd (z5.symm.trans z) (by decide)
  · rcases u with ⟨-, z, -⟩ <;> exact absurd (z5.symm.trans z) (by decide)
  · rcases u with ⟨_, _, -, -, -, -, -, z, -⟩ <;> exact absurd (z5.symm.trans z) (by decide)
  · rcases u with ⟨_, -, -, -, -, -, -, -, z, -⟩ <;> exact absurd (z5.symm.trans z) (by decide)
  · rcases u with ⟨_, _, -, -, -, -, ⟨z, -⟩, -⟩ <;> exact absurd (z5.symm.trans z) (by decide)
  · rcases u with ⟨-, z, -⟩ <;> exact absurd (z5.symm.trans z) (by decide)
  · rcases u with ⟨-, ⟨z, -⟩, -⟩ <;> exact absurd (z5.symm.trans z) (by decide)
  · rcases u with ⟨-, z, -⟩ <;> exact absurd (z5.symm.trans z) (by decide)
  · rcases u with ⟨-, z, -⟩ <;> exact absurd (z5.symm.trans z) (by decide)
  · rcases u with ⟨-, z, -⟩ <;> exact absurd (z5.symm.trans z) (by decide)
  · rcases u with ⟨-, z, -⟩ <;> exact absurd (z5.symm.trans z) (by decide)
  · rcases u with ⟨-, z, -⟩ <;> exact absurd (z5.symm.trans z) (by decide)
  · rcases u with ⟨-, z, -⟩ <;> exact absurd (z5.symm.trans z) (by decide)
  · obtain ⟨-, -, -, a', c', e, -, -, -, -, -, f⟩ := u
    rw [hc] at e
    injection e with e1 e2
    rw [e1]
    exact f
  · rcases u with ⟨-, z, -⟩ <;> exact absurd (z5.symm.trans z) (by decide)
  · rcases u with ⟨-, z, -⟩ <;> exact absurd (z5.symm.trans z) (by decide)
  · rcases u with ⟨z, -⟩ <;> exact absurd (z5.symm.trans z) (by decide)
  · rcases u with ⟨-, z, -⟩ <;> exact absurd (z5.symm.trans z) (by decide)
  · rcases u with ⟨⟨-, -, -, z⟩, -⟩ <;> exact absurd (z5.symm.trans z) (by decide)
  · rcases u with ⟨⟨-, -, -, -, -, -, z⟩, -⟩ <;> exact absurd (z5.symm.trans z) (by decide)
  · rcases u with ⟨-, _, _, _, _, -, -, -, -, -, ⟨z, -⟩ | ⟨z, -⟩⟩ <;> exact absurd (z5.symm.trans z) (by decide)
  · rcases u with ⟨⟨z, -⟩ | ⟨z, -⟩, -⟩ <;> exact absurd (z5.symm.trans z) (by decide)
/-- a place of a code, its unit and its bounds -/
def HC1 (nm : Nat → Nat → Prop) (p q h : Nat) (c : List Ent) : Prop := (p < 1200 ∧ q ≤ 3000) ∧ CTK nm c ∧ ops c ≤ 320 ∧ frs c ≤ 22 ∧ ∀ e ∈ c, e.h ≤ h
def UNH (FC : Nat → Prop) (s0 : CS) (r0 : RS) (nm : Nat → Nat → Prop) (AL : Als) (p q h w g : Nat) (c : List Ent) : Prop := HC1 nm p q h c ∧ UNJ FC s0 r0 nm AL p q h w g c
theorem UNH.mn {FC : Nat → Prop} {s0 : CS} {r0 : RS} {nm : Nat → Nat → Prop} {A B : Als} {p q h w w2 g : Nat} {c : List Ent} (s : SUB A B) (l : w ≤ w2) : UNH FC s0 r0 nm A p q h w g c → UNH FC s0 r0 nm B p q h w2 g c := fun ⟨a, b⟩ => ⟨a, b.mn s l⟩
def GGX (FC : Nat → Prop) (s0 : CS) (r0 : RS) (nm : Nat → Nat → Prop) (X : Als) : Als := fun p q h w g c => ∃ AL : Als, (∀ (p q h w g : Nat) (c : List Ent), AL p q h w g c → UNH FC s0 r0 nm (UN2 AL X) p q h w g c) ∧ AL p q h w g c
/-- the places that are good, and those that are taken for good -/
def GU (FC : Nat → Prop) (s0 : CS) (r0 : RS) (nm : Nat → Nat → Prop) (X : Als) : Als := UN2 (GGX FC s0 r0 nm X) X
theorem SUB.rf (A : Als) : SUB A A := fun _ _ _ _ _ _ a => a
theorem SUB.l (A B : Als) : SUB A (UN2 A B) := fun _ _ _ _ _ _ a => Or.inl a
theorem SUB.r (A B : Als) : SUB B (UN2 A B) := fun _ _ _ _ _ _ a => Or.inr a
theorem SUB.or {A B C : Als} (a : SUB A C) (b : SUB B C) : SUB (UN2 A B) C := fun _ _ _ _ _ _ z => z.elim (fun x => a _ _ _ _ _ _ x) (fun x => b _ _ _ _ _ _ x)
theorem SUB.un {A B C D : Als} (a : SUB A C) (b : SUB B D) : SUB (UN2 A B) (UN2 C D) := fun _ _ _ _ _ _ z => z.elim (fun x => Or.inl (a _ _ _ _ _ _ x)) (fun x => Or.inr (b _ _ _ _ _ _ x))
section
variable {FC : Nat → Prop} {s0 : CS} {r0 : RS} {nm : Nat → Nat → Prop} {X Y P : Als} {p q h w w2 g : Nat} {c : List Ent}
theorem GGX.out : GGX FC s0 r0 nm X p q h w g c → UNH FC s0 r0 nm (GU FC s0 r0 nm X) p q h w g c := fun ⟨AL, a, b⟩ => (a _ _ _ _ _ _ b).mn (SUB.un (fun _ _ _ _ _ _ z => ⟨AL, a, z⟩) (SUB.rf X)) (Nat.le_refl _)
theorem GGX.inn (u : UNH FC s0 r0 nm (GU FC s0 r0 nm X) p q h w g c) : GGX FC s0 r0 nm X p q h w g c := by
  refine ⟨fun p' q' h' w' g' c' => GGX FC s0 r0 nm X p' q' h' w' g' c' ∨ (p' = p ∧ q' = q ∧ h' = h ∧ w' = w ∧ g' = g ∧ c' = c), fun p' q' h' w' g' c' z => ?_, Or.inr ⟨rfl, rfl, rfl, rfl, rfl, rfl⟩⟩
  have k : SUB (GU FC s0 r0 nm X) (UN2 (fun p' q' h' w' g' c' => GGX FC s0 r0 nm X p' q' h' w' g' c' ∨ (p' = p ∧ q' = q ∧ h' = h ∧ w' = w ∧ g' = g ∧ c' = c)) X) := SUB.un (fun _ _ _ _ _ _ z => Or.inl z) (SUB.rf X)
  rcases z with z | ⟨rfl, rfl, rfl, rfl, rfl, rfl⟩
  · exact z.out.mn k (Nat.le_refl _)
  · exact u.mn k (Nat.le_refl _)
theorem GGX.mono (s : SUB X (GU FC s0 r0 nm Y)) : SUB (GGX FC s0 r0 nm X) (GGX FC s0 r0 nm Y) := by
  intro p q h w g c z
  refine ⟨UN2 (GGX FC s0 r0 nm X) (GGX FC s0 r0 nm Y), fun p' q' h' w' g' c' z => ?_, Or.inl z⟩
  rcases z with z | z
  · refine z.out.mn (fun _ _ _ _ _ _ z => ?_) (Nat.le_refl _)
    rcases z with z | z
    · exact Or.inl (Or.inl z)
    · rcases s _ _ _ _ _ _ z with z | z
      · exact Or.inl (Or.inr z)
      · exact Or.inr z
  · refine z.out.mn (fun _ _ _ _ _ _ z => ?_) (Nat.le_refl _)
    rcases z with z | z
    · exact Or.inl (Or.inr z)
    · exact Or.inr z
theorem GU.mono (s : SUB X (GU FC s0 r0 nm Y)) : SUB (GU FC s0 r0 nm X) (GU FC s0 r0 nm Y) := SUB.or (fun _ _ _ _ _ _ z => Or.inl (GGX.mono s _ _ _ _ _ _ z)) s
theorem GGX.wm (l : w ≤ w2) (z : GGX FC s0 r0 nm X p q h w g c) : GGX FC s0 r0 nm X p q h w2 g c := GGX.inn (z.out.mn (SUB.rf _) l)
/-- what is to be shown may be taken for good behind its first unit -/
theorem GGX.acc (z : SUB P (GGX FC s0 r0 nm (UN2 X P))) : SUB P (GGX FC s0 r0 nm X) := by
  intro p q h w g c a
  refine ⟨GGX FC s0 r0 nm (UN2 X P), fun p' q' h' w' g' c' b => ?_, z _ _ _ _ _ _ a⟩
  refine b.out.mn (SUB.or (SUB.l _ _) (SUB.or (SUB.r _ _) fun _ _ _ _ _ _ k => Or.inl (z _ _ _ _ _ _ k))) (Nat.le_refl _)
/-- no place is taken for good: both codes belong together -/
theorem cod_of (nn : NMP nm) (hw : w ≤ 10000) (z : GGX FC s0 r0 nm (fun _ _ _ _ _ _ => False) 0 0 0 w 0 []) : ∃ AL : Als, CODW s0 r0 nm AL := by
  have un : ∀ (p q h w g : Nat) (c : List Ent), GGX FC s0 r0 nm (fun _ _ _ _ _ _ => False) p q h w g c → UNH FC s0 r0 nm (GGX FC s0 r0 nm (fun _ _ _ _ _ _ => False)) p q h w g c := fun p q h w g c z => z.out.mn (SUB.or (SUB.rf _) fun _ _ _ _ _ _ k => k.elim) (Nat.le_refl _)
  refine ⟨GGX FC s0 r0 nm (fun _ _ _ _ _ _ => False), fun p q h w g c z => (un _ _ _ _ _ _ z).1, nn, fun p q h w g c z => (un _ _ _ _ _ _ z).2.to ?_, w, hw, z⟩
  rintro y ⟨p, q, h, w, g, e, c, a, -, k, z5⟩
  rw [← k]
  have fin : ∀ (n p w g : Nat), w ≤ n → GGX FC s0 r0 nm (fun _ _ _ _ _ _ => False) p q h w g (e :: c) → FC e.y := by
    intro n
    induction n with
    | zero =>
      intro p w g l a
      rcases (un _ _ _ _ _ _ a).2.fin z5 rfl with z | ⟨-, p', w', -, l', -⟩
      · exact z
      · omega
    | succ n ih =>
      intro p w g l a
      rcases (un _ _ _ _ _ _ a).2.fin z5 rfl with z | ⟨-, p', w', -, l', a'⟩
      · exact z
      · exact ih p' w' 0 (by omega) a'
  exact fin w p w g (Nat.le_refl _) a
end
