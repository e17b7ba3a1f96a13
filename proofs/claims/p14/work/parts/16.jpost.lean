/-! ends of a contract in words that compose; fewer locals -/
def pI (P : Int32 → Prop) (R : List jC → Prop) : jQ := fun o w => match o with
  | .inl (some (.int v)) => P v ∧ R w
  | _ => False
def pV (R : List jC → Prop) : jQ := fun o w => match o with
  | .inl none => R w
  | _ => False
def pL (P : Int64 → Prop) (R : List jC → Prop) : jQ := fun o w => match o with
  | .inl (some (.long v)) => P v ∧ R w
  | _ => False
def pA (R : Nat → List jC → Prop) : jQ := fun o w => match o with
  | .inl (some (.ref a)) => R a w
  | _ => False
/-- .. that may throw -/
def pX (q : jQ) (RX : String → List jC → Prop) : jQ := fun o w => match o with
  | .inr E => RX E w
  | .inl r => q (.inl r) w
section JPOST
variable {X : jX} {M : jM} {d kc ks pc : Nat} {L : List (Option Value)} {st : List Value} {w : List jC} {Q : jQ}
theorem kr_I {P : Int32 → Prop} {R : List jC → Prop} (k : ∀ (v : Int32) (w' : List jC), P v → R w' → J X M d kc ks pc L (.int v :: st) w' Q) : ∀ (r : Option Value) (w' : List jC), pI P R (.inl r) w' → J X M d kc ks pc L (r.toList ++ st) w' Q := by
  intro r w' h
  match r, h with
  | some (.int v), h => exact k v w' h.1 h.2
theorem kr_P {P : Int32 → Prop} {w : List jC} (k : ∀ (v : Int32), P v → J X M d kc ks pc L (.int v :: st) w Q) : ∀ (r : Option Value) (w' : List jC), pI P (fun w' => w' = w) (.inl r) w' → J X M d kc ks pc L (r.toList ++ st) w' Q :=
  kr_I (fun v w' hv hw => by subst hw; exact k v hv)
theorem kr_L {P : Int64 → Prop} {R : List jC → Prop} (k : ∀ (v : Int64) (w' : List jC), P v → R w' → J X M d kc ks pc L (.long v :: st) w' Q) : ∀ (r : Option Value) (w' : List jC), pL P R (.inl r) w' → J X M d kc ks pc L (r.toList ++ st) w' Q := by
  intro r w' h
  match r, h with
  | some (.long v), h => exact k v w' h.1 h.2
theorem kr_V {R : List jC → Prop} (k : ∀ (w' : List jC), R w' → J X M d kc ks pc L st w' Q) : ∀ (r : Option Value) (w' : List jC), pV R (.inl r) w' → J X M d kc ks pc L (r.toList ++ st) w' Q := by
  intro r w' h
  match r, h with
  | none, h => exact k w' h
theorem kr_A {R : Nat → List jC → Prop} (k : ∀ (a : Nat) (w' : List jC), R a w' → J X M d kc ks pc L (.ref a :: st) w' Q) : ∀ (r : Option Value) (w' : List jC), pA R (.inl r) w' → J X M d kc ks pc L (r.toList ++ st) w' Q := by
  intro r w' h
  match r, h with
  | some (.ref a), h => exact k a w' h
theorem kr_X {q : jQ} {RX : String → List jC → Prop} (k : ∀ (r : Option Value) (w' : List jC), q (.inl r) w' → J X M d kc ks pc L (r.toList ++ st) w' Q) : ∀ (r : Option Value) (w' : List jC), pX q RX (.inl r) w' → J X M d kc ks pc L (r.toList ++ st) w' Q := k
theorem kx_I {P : Int32 → Prop} {R : List jC → Prop} : ∀ (E : String) (w' : List jC), pI P R (.inr E) w' → JX X M d kc ks pc L st w' E Q := fun _ _ h => h.elim
theorem kx_L {P : Int64 → Prop} {R : List jC → Prop} : ∀ (E : String) (w' : List jC), pL P R (.inr E) w' → JX X M d kc ks pc L st w' E Q := fun _ _ h => h.elim
theorem kx_V {R : List jC → Prop} : ∀ (E : String) (w' : List jC), pV R (.inr E) w' → JX X M d kc ks pc L st w' E Q := fun _ _ h => h.elim
theorem kx_A {R : Nat → List jC → Prop} : ∀ (E : String) (w' : List jC), pA R (.inr E) w' → JX X M d kc ks pc L st w' E Q := fun _ _ h => h.elim
theorem kx_X {q : jQ} {RX : String → List jC → Prop} (k : ∀ (E : String) (w' : List jC), RX E w' → JX X M d kc ks pc L st w' E Q) : ∀ (E : String) (w' : List jC), pX q RX (.inr E) w' → JX X M d kc ks pc L st w' E Q := k
/-- L' says no more than L -/
def jSub : List (Option Value) → List (Option Value) → Prop
  | [], _ => True
  | none :: t, _ :: t' => jSub t t'
  | some v :: t, x :: t' => x = some v ∧ jSub t t'
  | _ :: _, [] => False
theorem jSub_spec : ∀ {L' L : List (Option Value)}, jSub L' L → ∀ (i : Nat) (v : Value), L'[i]? = some (some v) → L[i]? = some (some v)
  | [], _, _, i, v, hi => by simp at hi
  | none :: t, x :: t', h, i, v, hi => by
    cases i with
    | zero => simp at hi
    | succ i => exact jSub_spec (L' := t) (L := t') h i v hi
  | some u :: t, x :: t', h, i, v, hi => by
    cases i with
    | zero => simp at hi; subst hi; rw [h.1]; rfl
    | succ i => exact jSub_spec (L' := t) (L := t') h.2 i v hi
  | none :: t, [], h, i, v, hi => h.elim
  | some u :: t, [], h, i, v, hi => h.elim
theorem J_sub {L' : List (Option Value)} (hs : jSub L' L) (h : J X M d kc ks pc L' st w Q) : J X M d kc ks pc L st w Q :=
  fun p e R s m args below meth c C H locs cells slots ls hH hS hL h1 h2 => h p e R s m args below meth c C H locs cells slots ls hH hS ⟨hL.1, hL.2.1, fun i v hi => hL.2.2 i v (jSub_spec hs i v hi)⟩ h1 h2
theorem jMet.mono {M : jM} {as : List Value} {Q Q' : jQ} (h : jMet X M d kc ks as w Q) (hq : ∀ o w', Q o w' → Q' o w') : jMet X M d kc ks as w Q' := by
  intro p e ha hc hk s m args below hf happ hP hK
  obtain ⟨n, o, h1, h2, h3, h4⟩ := h p e ha hc hk s m args below hf happ hP hK
  refine ⟨n, o, h1, h2, h3, ?_⟩
  rcases h4 with ⟨⟨r, w', c1, c2, c3⟩, c4⟩ | ⟨q, c1, E, ce, Ls, ⟨w', c2, c3⟩, c4⟩
  · exact Or.inl ⟨⟨r, w', c1, hq _ _ c2, c3⟩, c4⟩
  · exact Or.inr ⟨q, c1, E, ce, Ls, ⟨w', hq _ _ c2, c3⟩, c4⟩
end JPOST
