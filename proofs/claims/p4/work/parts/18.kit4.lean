section ZO2
variable {p : Program} {l : Launch} {e : Env} {R : Room} {s : State} {m : MethodId} {args : Array Value} {below : List Frame} {meth : Method} {c : Code} {Q : State → Prop}
variable {cc : ByteArray} {nL cells slots : Nat} {own : String} {Ts : List Cond} {D : va_G} {tys : List (ClassId × FieldType)} {A : Nat → Prop} {M : Heap → Prop} {pc : Nat} {lv lv' : List (Nat × Value)} {st : List Value}
theorem g_lookupI (C : zC p s m args c cc nL own Ts D tys) {dflt : Int} {ps : Array (Int × Int)} {len : Nat} {x : Int32} (a : Int) (n : Nat) (ha : a ≤ x.toInt ∧ x.toInt ≤ a + n) (ts : List Nat) (hd : decode cc pc = .ok (.lookupswitch dflt ps, len)) (hp : (ps.toList.zip (ps.toList.drop 1)).all (fun (a, next) => a.1 < next.1) = true) (h : (List.range (n + 1)).all (fun (j : Nat) => ts.any (fun (t : Nat) => decide ((pc : Int) + Op.lookupswitch.offset ps.toList dflt (a + j) = (t : Int)))) = true) (k : ∀ t ∈ ts, zG p l e R s m args below meth c nL cells slots A Q M t lv st) : zG p l e R s m args below meth c nL cells slots A Q M pc lv (.int x :: st) := fun H locs ls hl hM hS => by
  obtain ⟨t, ht, he⟩ := List.any_eq_true.mp (List.all_eq_true.mp h (x.toInt - a).toNat (List.mem_range.mpr (by omega)))
  have e1 : a + ((x.toInt - a).toNat : Int) = x.toInt := by omega
  rw [e1] at he
  exact lv_lookup C.1 C.2.1 hd hp rfl (of_decide_eq_true he) (k t ht H locs ls hl hM hS)
theorem zfix {X : Type} {w : X → va_W} {I : X → Prop} (f : X → Int32) {P : Int32 → Prop} (hP : ∀ x, I x → P (f x)) (k : ∀ z : Int32, P z → zG p l e R s m args below meth c nL cells slots A Q (zM w (fun x => I x ∧ f x = z) D A) pc lv st) : zG p l e R s m args below meth c nL cells slots A Q (zM w I D A) pc lv st := fun H locs ls hl hM hS => by
  obtain ⟨x, hI, hr⟩ := hM
  exact k (f x) (hP x hI) H locs ls hl ⟨x, ⟨hI, rfl⟩, hr⟩ hS
end ZO2
