/-! the class's calls, in one form -/
set_option maxRecDepth 100000 in
set_option maxHeartbeats 4000000 in
theorem uu_points {X : jX} (hs : X.1.stackTraces = false) {d : Nat} (hd : 40 ≤ d) {o nc nr : Nat} {q m : Int32} {w : List jC} (hI : LI o nc nr q m w) (p0 : Int32) {kc ks : Nat} (hkc : 1 ≤ kc) (hks : 6 ≤ ks) : jMet X mX6_points d kc ks [.ref 0, .int p0] w (pX (pJ (fun v w' => ∃ n' : Nat, AP p0 nc 0 v n' ∧ LI o n' nr q m w')) (fun E w' => (E = "java/lang/IllegalArgumentException") ∧ ∃ n' : Nat, AP p0 nc 1 0 n' ∧ LI o n' nr q m w')) := by
  have hJ := hI
  obtain ⟨⟨e, r, h1, h2, hS⟩, _⟩ := hJ
  refine uJX (c_X6_points_att hs (d := d) (by omega) h1 h2 hS p0 hkc hks) (fun v w' hv h => ?_) (fun E w' h => ?_)
  · obtain ⟨k, k1, k2, e, h⟩ := h
    obtain ⟨j, hj, hjn⟩ := hv
    exact ⟨k, Or.inl ⟨k, k1, k2, e, rfl, rfl, by rw [hj, hjn]⟩, hI.T k1 k2 h⟩
  · exact ⟨h.1, nc, Or.inr ⟨h.2.2, rfl, rfl⟩, hI.T h1 h2 h.2.1⟩
set_option maxRecDepth 100000 in
set_option maxHeartbeats 4000000 in
theorem uu_lay {X : jX} (hs : X.1.stackTraces = false) {d : Nat} (hd : 40 ≤ d) {o nc nr : Nat} {q m : Int32} {w : List jC} (hI : LI o nc nr q m w) (p0 : Int32) (p1 : Int32) {kc ks : Nat} (hkc : 2 ≤ kc) (hks : 12 ≤ ks) : jMet X mX6_lay d kc ks [.ref 0, .int p0, .int p1] w (pX (pI (fun _ => True) (LI o nc nr q m)) (fun E w' => (E = "java/lang/IndexOutOfBoundsException" ∨ E = "java/lang/IllegalArgumentException") ∧ LI o nc nr q m w')) := by
  have hJ := hI
  obtain ⟨⟨e, r, h1, h2, hS⟩, _⟩ := hJ
  exact uI (c_X6_lay hs (d := d) (by omega) h1 h2 hS p0 p1 hkc hks) (fun w' h => hI.T h1 h2 h) (fun E w' h => ⟨h.1, hI.T h1 h2 h.2⟩)
set_option maxRecDepth 100000 in
set_option maxHeartbeats 4000000 in
theorem uu_exchange {X : jX} (hs : X.1.stackTraces = false) {d : Nat} (hd : 40 ≤ d) {o nc nr : Nat} {q m : Int32} {w : List jC} (hI : LI o nc nr q m w) (p0 : Int32) (p1 : Int32) (p2 : Int32) {kc ks : Nat} (hkc : 3 ≤ kc) (hks : 18 ≤ ks) : jMet X mX6_exchange d kc ks [.ref 0, .int p0, .int p1, .int p2] w (pX (pI (fun _ => True) (LI o nc nr q m)) (fun E w' => (E = "java/lang/IndexOutOfBoundsException") ∧ LI o nc nr q m w')) := by
  have hJ := hI
  obtain ⟨⟨e, r, h1, h2, hS⟩, _⟩ := hJ
  exact uI (c_X6_exchange hs (d := d) (by omega) h1 h2 hS p0 p1 p2 hkc hks) (fun w' h => hI.T h1 h2 h) (fun E w' h => ⟨h.1, hI.T h1 h2 h.2⟩)
set_option maxRecDepth 100000 in
set_option maxHeartbeats 4000000 in
theorem uu_ring {X : jX} (hs : X.1.stackTraces = false) {d : Nat} (hd : 40 ≤ d) {o nc nr : Nat} {q m : Int32} {w : List jC} (hI : LI o nc nr q m w) (p0 : Int32) (p1 : Int32) (p2 : Int32) (p3 : Int32) {kc ks : Nat} (hkc : 5 ≤ kc) (hks : 30 ≤ ks) : jMet X mX6_ring d kc ks [.ref 0, .int p0, .int p1, .int p2, .int p3] w (pX (pI (fun _ => True) (LI o nc nr q m)) (fun E w' => (E = "java/lang/IndexOutOfBoundsException" ∨ E = "java/lang/IllegalArgumentException") ∧ LI o nc nr q m w')) := by
  have hJ := hI
  obtain ⟨⟨e, r, h1, h2, hS⟩, _⟩ := hJ
  exact uI (c_X6_ring hs (d := d) (by omega) h1 h2 hS p0 p1 p2 p3 hkc hks) (fun w' h => hI.T h1 h2 h) (fun E w' h => ⟨h.1, hI.T h1 h2 h.2⟩)
set_option maxRecDepth 100000 in
set_option maxHeartbeats 4000000 in
theorem uu_turn {X : jX} (hs : X.1.stackTraces = false) {d : Nat} (hd : 40 ≤ d) {o nc nr : Nat} {q m : Int32} {w : List jC} (hI : LI o nc nr q m w) (p0 : Int32) (p1 : Int32) {kc ks : Nat} (hkc : 2 ≤ kc) (hks : 12 ≤ ks) : jMet X mX6_turn d kc ks [.ref 0, .int p0, .int p1] w (pX (pI (fun _ => True) (LI o nc nr q m)) (fun E w' => (E = "java/lang/IndexOutOfBoundsException" ∨ E = "java/lang/IllegalArgumentException") ∧ LI o nc nr q m w')) := by
  have hJ := hI
  obtain ⟨⟨e, r, h1, h2, hS⟩, _⟩ := hJ
  exact uI (c_X6_turn hs (d := d) (by omega) h1 h2 hS p0 p1 hkc hks) (fun w' h => hI.T h1 h2 h) (fun E w' h => ⟨h.1, hI.T h1 h2 h.2⟩)
set_option maxRecDepth 100000 in
set_option maxHeartbeats 4000000 in
theorem uu_mirror {X : jX} (hs : X.1.stackTraces = false) {d : Nat} (hd : 40 ≤ d) {o nc nr : Nat} {q m : Int32} {w : List jC} (hI : LI o nc nr q m w) (p0 : Int32) {kc ks : Nat} (hkc : 1 ≤ kc) (hks : 6 ≤ ks) : jMet X mX6_mirror d kc ks [.ref 0, .int p0] w (pX (pI (fun _ => True) (LI o nc nr q m)) (fun E w' => (E = "java/lang/IndexOutOfBoundsException") ∧ LI o nc nr q m w')) := by
  have hJ := hI
  obtain ⟨⟨e, r, h1, h2, hS⟩, _⟩ := hJ
  exact uI (c_X6_mirror hs (d := d) (by omega) h1 h2 hS p0 hkc hks) (fun w' h => hI.T h1 h2 h) (fun E w' h => ⟨h.1, hI.T h1 h2 h.2⟩)
set_option maxRecDepth 100000 in
set_option maxHeartbeats 4000000 in
theorem uu_copy {X : jX} (hs : X.1.stackTraces = false) {d : Nat} (hd : 40 ≤ d) {o nc nr : Nat} {q m : Int32} {w : List jC} (hI : LI o nc nr q m w) (p0 : Int32) (p1 : Int32) {kc ks : Nat} (hkc : 2 ≤ kc) (hks : 12 ≤ ks) : jMet X mX6_copy d kc ks [.ref 0, .int p0, .int p1] w (pX (pI (fun _ => True) (LI o nc nr q m)) (fun E w' => (E = "java/lang/IndexOutOfBoundsException") ∧ LI o nc nr q m w')) := by
  have hJ := hI
  obtain ⟨⟨e, r, h1, h2, hS⟩, _⟩ := hJ
  exact uI (c_X6_copy hs (d := d) (by omega) h1 h2 hS p0 p1 hkc hks) (fun w' h => hI.T h1 h2 h) (fun E w' h => ⟨h.1, hI.T h1 h2 h.2⟩)
set_option maxRecDepth 100000 in
set_option maxHeartbeats 4000000 in
theorem uu_swap {X : jX} (hs : X.1.stackTraces = false) {d : Nat} (hd : 40 ≤ d) {o nc nr : Nat} {q m : Int32} {w : List jC} (hI : LI o nc nr q m w) (p0 : Int32) (p1 : Int32) {kc ks : Nat} (hkc : 2 ≤ kc) (hks : 12 ≤ ks) : jMet X mX6_swap d kc ks [.ref 0, .int p0, .int p1] w (pX (pI (fun _ => True) (LI o nc nr q m)) (fun E w' => (E = "java/lang/IndexOutOfBoundsException") ∧ LI o nc nr q m w')) := by
  have hJ := hI
  obtain ⟨⟨e, r, h1, h2, hS⟩, _⟩ := hJ
  exact uI (c_X6_swap hs (d := d) (by omega) h1 h2 hS p0 p1 hkc hks) (fun w' h => hI.T h1 h2 h) (fun E w' h => ⟨h.1, hI.T h1 h2 h.2⟩)
set_option maxRecDepth 100000 in
set_option maxHeartbeats 4000000 in
theorem uu_then {X : jX} (hs : X.1.stackTraces = false) {d : Nat} (hd : 40 ≤ d) {o nc nr : Nat} {q m : Int32} {w : List jC} (hI : LI o nc nr q m w) (p0 : Int32) (p1 : Int32) (p2 : Int32) {kc ks : Nat} (hkc : 3 ≤ kc) (hks : 18 ≤ ks) : jMet X mX6_then d kc ks [.ref 0, .int p0, .int p1, .int p2] w (pX (pI (fun _ => True) (LI o nc nr q m)) (fun E w' => (E = "java/lang/IndexOutOfBoundsException") ∧ LI o nc nr q m w')) := by
  have hJ := hI
  obtain ⟨⟨e, r, h1, h2, hS⟩, _⟩ := hJ
  exact uI (c_X6_then hs (d := d) (by omega) h1 h2 hS p0 p1 p2 hkc hks) (fun w' h => hI.T h1 h2 h) (fun E w' h => ⟨h.1, hI.T h1 h2 h.2⟩)
set_option maxRecDepth 100000 in
set_option maxHeartbeats 4000000 in
theorem uu_undo {X : jX} (hs : X.1.stackTraces = false) {d : Nat} (hd : 40 ≤ d) {o nc nr : Nat} {q m : Int32} {w : List jC} (hI : LI o nc nr q m w) (p0 : Int32) (p1 : Int32) {kc ks : Nat} (hkc : 2 ≤ kc) (hks : 12 ≤ ks) : jMet X mX6_undo d kc ks [.ref 0, .int p0, .int p1] w (pX (pI (fun _ => True) (LI o nc nr q m)) (fun E w' => (E = "java/lang/IndexOutOfBoundsException") ∧ LI o nc nr q m w')) := by
  have hJ := hI
  obtain ⟨⟨e, r, h1, h2, hS⟩, _⟩ := hJ
  exact uI (c_X6_undo hs (d := d) (by omega) h1 h2 hS p0 p1 hkc hks) (fun w' h => hI.T h1 h2 h) (fun E w' h => ⟨h.1, hI.T h1 h2 h.2⟩)
set_option maxRecDepth 100000 in
set_option maxHeartbeats 4000000 in
theorem uu_power {X : jX} (hs : X.1.stackTraces = false) {d : Nat} (hd : 40 ≤ d) {o nc nr : Nat} {q m : Int32} {w : List jC} (hI : LI o nc nr q m w) (p0 : Int32) (p1 : Int32) (p2 : Int32) {kc ks : Nat} (hkc : 3 ≤ kc) (hks : 18 ≤ ks) : jMet X mX6_power d kc ks [.ref 0, .int p0, .int p1, .int p2] w (pX (pI (fun _ => True) (LI o nc nr q m)) (fun E w' => (E = "java/lang/IndexOutOfBoundsException" ∨ E = "java/lang/IllegalArgumentException") ∧ LI o nc nr q m w')) := by
  have hJ := hI
  obtain ⟨⟨e, r, h1, h2, hS⟩, _⟩ := hJ
  exact uI (c_X6_power hs (d := d) (by omega) h1 h2 hS p0 p1 p2 hkc hks) (fun w' h => hI.T h1 h2 h) (fun E w' h => ⟨h.1, hI.T h1 h2 h.2⟩)
set_option maxRecDepth 100000 in
set_option maxHeartbeats 4000000 in
theorem uu_rename {X : jX} (hs : X.1.stackTraces = false) {d : Nat} (hd : 40 ≤ d) {o nc nr : Nat} {q m : Int32} {w : List jC} (hI : LI o nc nr q m w) (p0 : Int32) (p1 : Int32) (p2 : Int32) {kc ks : Nat} (hkc : 3 ≤ kc) (hks : 18 ≤ ks) : jMet X mX6_rename d kc ks [.ref 0, .int p0, .int p1, .int p2] w (pX (pI (fun _ => True) (LI o nc nr q m)) (fun E w' => (E = "java/lang/IndexOutOfBoundsException") ∧ LI o nc nr q m w')) := by
  have hJ := hI
  obtain ⟨⟨e, r, h1, h2, hS⟩, _⟩ := hJ
  exact uI (c_X6_rename hs (d := d) (by omega) h1 h2 hS p0 p1 p2 hkc hks) (fun w' h => hI.T h1 h2 h) (fun E w' h => ⟨h.1, hI.T h1 h2 h.2⟩)
set_option maxRecDepth 100000 in
set_option maxHeartbeats 4000000 in
theorem uu_match {X : jX} (hs : X.1.stackTraces = false) {d : Nat} (hd : 40 ≤ d) {o nc nr : Nat} {q m : Int32} {w : List jC} (hI : LI o nc nr q m w) (p0 : Int32) (p1 : Int32) (p2 : Int32) {kc ks : Nat} (hkc : 3 ≤ kc) (hks : 18 ≤ ks) : jMet X mX6_match d kc ks [.ref 0, .int p0, .int p1, .int p2] w (pX (pI (fun _ => True) (LI o nc nr q m)) (fun E w' => (E = "java/lang/IndexOutOfBoundsException") ∧ LI o nc nr q m w')) := by
  have hJ := hI
  obtain ⟨⟨e, r, h1, h2, hS⟩, _⟩ := hJ
  exact uI (c_X6_match hs (d := d) (by omega) h1 h2 hS p0 p1 p2 hkc hks) (fun w' h => hI.T h1 h2 h) (fun E w' h => ⟨h.1, hI.T h1 h2 h.2⟩)
set_option maxRecDepth 100000 in
set_option maxHeartbeats 4000000 in
theorem uu_nth {X : jX} (hs : X.1.stackTraces = false) {d : Nat} (hd : 40 ≤ d) {o nc nr : Nat} {q m : Int32} {w : List jC} (hI : LI o nc nr q m w) (p0 : Int32) (p1 : Int32) (p2 : Int32) (p3 : Int32) {kc ks : Nat} (hkc : 4 ≤ kc) (hks : 24 ≤ ks) : jMet X mX6_nth d kc ks [.ref 0, .int p0, .int p1, .int p2, .int p3] w (pX (pI (fun _ => True) (LI o nc nr q m)) (fun E w' => (E = "java/lang/IndexOutOfBoundsException" ∨ E = "java/lang/IllegalArgumentException") ∧ LI o nc nr q m w')) := by
  have hJ := hI
  obtain ⟨⟨e, r, h1, h2, hS⟩, _⟩ := hJ
  exact uI (c_X6_nth hs (d := d) (by omega) h1 h2 hS p0 p1 p2 p3 hkc hks) (fun w' h => hI.T h1 h2 h) (fun E w' h => ⟨h.1, hI.T h1 h2 h.2⟩)
set_option maxRecDepth 100000 in
set_option maxHeartbeats 4000000 in
theorem uu_number {X : jX} (hs : X.1.stackTraces = false) {d : Nat} (hd : 40 ≤ d) {o nc nr : Nat} {q m : Int32} {w : List jC} (hI : LI o nc nr q m w) (p0 : Int32) {kc ks : Nat} (hkc : 1 ≤ kc) (hks : 6 ≤ ks) : jMet X mX6_number d kc ks [.ref 0, .int p0] w (pX (pI (fun _ => True) (LI o nc nr q m)) (fun E w' => (E = "java/lang/IndexOutOfBoundsException") ∧ LI o nc nr q m w')) := by
  have hJ := hI
  obtain ⟨⟨e, r, h1, h2, hS⟩, _⟩ := hJ
  exact uI (c_X6_number hs (d := d) (by omega) h1 h2 hS p0 hkc hks) (fun w' h => hI.eq h) (fun E w' h => ⟨h.1, hI.psh h.2⟩)
set_option maxRecDepth 100000 in
set_option maxHeartbeats 4000000 in
theorem uu_goes {X : jX} (hs : X.1.stackTraces = false) {d : Nat} (hd : 40 ≤ d) {o nc nr : Nat} {q m : Int32} {w : List jC} (hI : LI o nc nr q m w) (p0 : Int32) (p1 : Int32) {kc ks : Nat} (hkc : 2 ≤ kc) (hks : 12 ≤ ks) : jMet X mX6_goes d kc ks [.ref 0, .int p0, .int p1] w (pX (pI (fun _ => True) (LI o nc nr q m)) (fun E w' => (E = "java/lang/IndexOutOfBoundsException") ∧ LI o nc nr q m w')) := by
  have hJ := hI
  obtain ⟨⟨e, r, h1, h2, hS⟩, _⟩ := hJ
  exact uI (c_X6_goes hs (d := d) (by omega) h1 h2 hS p0 p1 hkc hks) (fun w' h => hI.eq h) (fun E w' h => ⟨h.1, hI.psh h.2⟩)
set_option maxRecDepth 100000 in
set_option maxHeartbeats 4000000 in
theorem uu_text {X : jX} (hs : X.1.stackTraces = false) {d : Nat} (hd : 40 ≤ d) (hXO : XO X) {o nc nr : Nat} {q m : Int32} {w : List jC} (hI : LI o nc nr q m w) (p0 : Int32) {kc ks : Nat} (hkc : 40 ≤ kc) (hks : 1500 ≤ ks) : jMet X mX6_text d kc ks [.ref 0, .int p0] w (pX (pA (fun _ w' => LI o nc nr q m w')) (fun E w' => (E = "java/lang/IndexOutOfBoundsException") ∧ LI o nc nr q m w')) := by
  have hJ := hI
  obtain ⟨⟨e, r, h1, h2, hS⟩, _⟩ := hJ
  exact uA (c_X6_text hs (d := d) (by omega) hXO h1 h2 hS p0 hkc hks) (fun a w' h => hI.cls h1 h2 h.1 h.2) (fun E w' h => ⟨h.1, hI.S h1 h2 h.2⟩)
set_option maxRecDepth 100000 in
set_option maxHeartbeats 4000000 in
theorem uu_rings {X : jX} (hs : X.1.stackTraces = false) {d : Nat} (hd : 40 ≤ d) (hXO : XO X) {o nc nr : Nat} {q m : Int32} {w : List jC} (hI : LI o nc nr q m w) (p0 : Int32) {kc ks : Nat} (hkc : 40 ≤ kc) (hks : 1500 ≤ ks) : jMet X mX6_rings d kc ks [.ref 0, .int p0] w (pX (pA (fun _ w' => LI o nc nr q m w')) (fun E w' => (E = "java/lang/IndexOutOfBoundsException") ∧ LI o nc nr q m w')) := by
  have hJ := hI
  obtain ⟨⟨e, r, h1, h2, hS⟩, _⟩ := hJ
  exact uA (c_X6_rings hs (d := d) (by omega) hXO h1 h2 hS p0 hkc hks) (fun a w' h => hI.cls h1 h2 h.1 h.2) (fun E w' h => ⟨h.1, hI.S h1 h2 h.2⟩)
set_option maxRecDepth 100000 in
set_option maxHeartbeats 4000000 in
theorem uu_ringText {X : jX} (hs : X.1.stackTraces = false) {d : Nat} (hd : 40 ≤ d) (hXO : XO X) {o nc nr : Nat} {q m : Int32} {w : List jC} (hI : LI o nc nr q m w) (p0 : Int32) (p1 : Int32) {kc ks : Nat} (hkc : 40 ≤ kc) (hks : 1500 ≤ ks) : jMet X mX6_ringText d kc ks [.ref 0, .int p0, .int p1] w (pX (pA (fun _ w' => LI o nc nr q m w')) (fun E w' => (E = "java/lang/IndexOutOfBoundsException") ∧ LI o nc nr q m w')) := by
  have hJ := hI
  obtain ⟨⟨e, r, h1, h2, hS⟩, _⟩ := hJ
  exact uA (c_X6_ringText hs (d := d) (by omega) hXO h1 h2 hS p0 p1 hkc hks) (fun a w' h => hI.cls h1 h2 h.1 h.2) (fun E w' h => ⟨h.1, hI.S h1 h2 h.2⟩)
set_option maxRecDepth 100000 in
set_option maxHeartbeats 4000000 in
theorem uu_order {X : jX} (hs : X.1.stackTraces = false) {d : Nat} (hd : 40 ≤ d) {o nc nr : Nat} {q m : Int32} {w : List jC} (hI : LI o nc nr q m w) (p0 : Int32) {kc ks : Nat} (hkc : 1 ≤ kc) (hks : 6 ≤ ks) : jMet X mX6_order d kc ks [.ref 0, .int p0] w (pX (pI (fun _ => True) (LI o nc nr q m)) (fun E w' => (E = "java/lang/IndexOutOfBoundsException") ∧ LI o nc nr q m w')) := by
  have hJ := hI
  obtain ⟨⟨e, r, h1, h2, hS⟩, _⟩ := hJ
  exact uI (c_X6_order hs (d := d) (by omega) h1 h2 hS p0 hkc hks) (fun w' h => hI.eq h) (fun E w' h => ⟨h.1, hI.psh h.2⟩)
set_option maxRecDepth 100000 in
set_option maxHeartbeats 4000000 in
theorem uu_sign {X : jX} (hs : X.1.stackTraces = false) {d : Nat} (hd : 40 ≤ d) {o nc nr : Nat} {q m : Int32} {w : List jC} (hI : LI o nc nr q m w) (p0 : Int32) {kc ks : Nat} (hkc : 1 ≤ kc) (hks : 6 ≤ ks) : jMet X mX6_sign d kc ks [.ref 0, .int p0] w (pX (pI (fun _ => True) (LI o nc nr q m)) (fun E w' => (E = "java/lang/IndexOutOfBoundsException") ∧ LI o nc nr q m w')) := by
  have hJ := hI
  obtain ⟨⟨e, r, h1, h2, hS⟩, _⟩ := hJ
  exact uI (c_X6_sign hs (d := d) (by omega) h1 h2 hS p0 hkc hks) (fun w' h => hI.eq h) (fun E w' h => ⟨h.1, hI.psh h.2⟩)
set_option maxRecDepth 100000 in
set_option maxHeartbeats 4000000 in
theorem uu_stays {X : jX} (hs : X.1.stackTraces = false) {d : Nat} (hd : 40 ≤ d) {o nc nr : Nat} {q m : Int32} {w : List jC} (hI : LI o nc nr q m w) (p0 : Int32) {kc ks : Nat} (hkc : 1 ≤ kc) (hks : 6 ≤ ks) : jMet X mX6_stays d kc ks [.ref 0, .int p0] w (pX (pI (fun _ => True) (LI o nc nr q m)) (fun E w' => (E = "java/lang/IndexOutOfBoundsException") ∧ LI o nc nr q m w')) := by
  have hJ := hI
  obtain ⟨⟨e, r, h1, h2, hS⟩, _⟩ := hJ
  exact uI (c_X6_stays hs (d := d) (by omega) h1 h2 hS p0 hkc hks) (fun w' h => hI.eq h) (fun E w' h => ⟨h.1, hI.psh h.2⟩)
set_option maxRecDepth 100000 in
set_option maxHeartbeats 4000000 in
theorem uu_areAlike {X : jX} (hs : X.1.stackTraces = false) {d : Nat} (hd : 40 ≤ d) {o nc nr : Nat} {q m : Int32} {w : List jC} (hI : LI o nc nr q m w) (p0 : Int32) (p1 : Int32) {kc ks : Nat} (hkc : 2 ≤ kc) (hks : 12 ≤ ks) : jMet X mX6_areAlike d kc ks [.ref 0, .int p0, .int p1] w (pX (pI (fun _ => True) (LI o nc nr q m)) (fun E w' => (E = "java/lang/IndexOutOfBoundsException") ∧ LI o nc nr q m w')) := by
  have hJ := hI
  obtain ⟨⟨e, r, h1, h2, hS⟩, _⟩ := hJ
  exact uI (c_X6_areAlike hs (d := d) (by omega) h1 h2 hS p0 p1 hkc hks) (fun w' h => hI.eq h) (fun E w' h => ⟨h.1, hI.psh h.2⟩)
set_option maxRecDepth 100000 in
set_option maxHeartbeats 4000000 in
theorem uu_commute {X : jX} (hs : X.1.stackTraces = false) {d : Nat} (hd : 40 ≤ d) {o nc nr : Nat} {q m : Int32} {w : List jC} (hI : LI o nc nr q m w) (p0 : Int32) (p1 : Int32) {kc ks : Nat} (hkc : 2 ≤ kc) (hks : 12 ≤ ks) : jMet X mX6_commute d kc ks [.ref 0, .int p0, .int p1] w (pX (pI (fun _ => True) (LI o nc nr q m)) (fun E w' => (E = "java/lang/IndexOutOfBoundsException") ∧ LI o nc nr q m w')) := by
  have hJ := hI
  obtain ⟨⟨e, r, h1, h2, hS⟩, _⟩ := hJ
  exact uI (c_X6_commute hs (d := d) (by omega) h1 h2 hS p0 p1 hkc hks) (fun w' h => hI.eq h) (fun E w' h => ⟨h.1, hI.psh h.2⟩)
set_option maxRecDepth 100000 in
set_option maxHeartbeats 4000000 in
theorem uu_size {X : jX} (hs : X.1.stackTraces = false) {d : Nat} (hd : 40 ≤ d) {o nc nr : Nat} {q m : Int32} {w : List jC} (hI : LI o nc nr q m w) (p0 : Int32) (p1 : Int32) {kc ks : Nat} (hkc : 2 ≤ kc) (hks : 12 ≤ ks) : jMet X mX6_size d kc ks [.ref 0, .int p0, .int p1] w (pX (pI (fun _ => True) (LI o nc nr q m)) (fun E w' => (E = "java/lang/IndexOutOfBoundsException" ∨ E = "java/lang/IllegalArgumentException") ∧ LI o nc nr q m w')) := by
  have hJ := hI
  obtain ⟨⟨e, r, h1, h2, hS⟩, _⟩ := hJ
  exact uI (c_X6_size hs (d := d) (by omega) h1 h2 hS p0 p1 hkc hks) (fun w' h => hI.S h1 h2 h) (fun E w' h => ⟨h.1, hI.S h1 h2 h.2⟩)
set_option maxRecDepth 100000 in
set_option maxHeartbeats 4000000 in
theorem uu_reach {X : jX} (hs : X.1.stackTraces = false) {d : Nat} (hd : 40 ≤ d) {o nc nr : Nat} {q m : Int32} {w : List jC} (hI : LI o nc nr q m w) (p0 : Int32) (p1 : Int32) (p2 : Int32) {kc ks : Nat} (hkc : 3 ≤ kc) (hks : 18 ≤ ks) : jMet X mX6_reach d kc ks [.ref 0, .int p0, .int p1, .int p2] w (pX (pI (fun _ => True) (LI o nc nr q m)) (fun E w' => (E = "java/lang/IndexOutOfBoundsException" ∨ E = "java/lang/IllegalArgumentException") ∧ LI o nc nr q m w')) := by
  have hJ := hI
  obtain ⟨⟨e, r, h1, h2, hS⟩, _⟩ := hJ
  exact uI (c_X6_reach hs (d := d) (by omega) h1 h2 hS p0 p1 p2 hkc hks) (fun w' h => hI.S h1 h2 h) (fun E w' h => ⟨h.1, hI.S h1 h2 h.2⟩)
set_option maxRecDepth 100000 in
set_option maxHeartbeats 4000000 in
theorem uu_isIn {X : jX} (hs : X.1.stackTraces = false) {d : Nat} (hd : 40 ≤ d) {o nc nr : Nat} {q m : Int32} {w : List jC} (hI : LI o nc nr q m w) (p0 : Int32) (p1 : Int32) (p2 : Int32) {kc ks : Nat} (hkc : 3 ≤ kc) (hks : 18 ≤ ks) : jMet X mX6_isIn d kc ks [.ref 0, .int p0, .int p1, .int p2] w (pX (pI (fun _ => True) (LI o nc nr q m)) (fun E w' => (E = "java/lang/IndexOutOfBoundsException" ∨ E = "java/lang/IllegalArgumentException") ∧ LI o nc nr q m w')) := by
  have hJ := hI
  obtain ⟨⟨e, r, h1, h2, hS⟩, _⟩ := hJ
  exact uI (c_X6_isIn hs (d := d) (by omega) h1 h2 hS p0 p1 p2 hkc hks) (fun w' h => hI.S h1 h2 h) (fun E w' h => ⟨h.1, hI.S h1 h2 h.2⟩)
set_option maxRecDepth 100000 in
set_option maxHeartbeats 4000000 in
theorem uu_rank {X : jX} (hs : X.1.stackTraces = false) {d : Nat} (hd : 40 ≤ d) {o nc nr : Nat} {q m : Int32} {w : List jC} (hI : LI o nc nr q m w) (p0 : Int32) (p1 : Int32) (p2 : Int32) {kc ks : Nat} (hkc : 3 ≤ kc) (hks : 18 ≤ ks) : jMet X mX6_rank d kc ks [.ref 0, .int p0, .int p1, .int p2] w (pX (pI (fun _ => True) (LI o nc nr q m)) (fun E w' => (E = "java/lang/IndexOutOfBoundsException" ∨ E = "java/lang/IllegalArgumentException") ∧ LI o nc nr q m w')) := by
  have hJ := hI
  obtain ⟨⟨e, r, h1, h2, hS⟩, _⟩ := hJ
  exact uI (c_X6_rank hs (d := d) (by omega) h1 h2 hS p0 p1 p2 hkc hks) (fun w' h => hI.S h1 h2 h) (fun E w' h => ⟨h.1, hI.S h1 h2 h.2⟩)
set_option maxRecDepth 100000 in
set_option maxHeartbeats 4000000 in
theorem uu_list {X : jX} (hs : X.1.stackTraces = false) {d : Nat} (hd : 40 ≤ d) (hXO : XO X) {o nc nr : Nat} {q m : Int32} {w : List jC} (hI : LI o nc nr q m w) (p0 : Int32) (p1 : Int32) {kc ks : Nat} (hkc : 40 ≤ kc) (hks : 1500 ≤ ks) : jMet X mX6_list d kc ks [.ref 0, .int p0, .int p1] w (pX (pA (fun _ w' => LI o nc nr q m w')) (fun E w' => (E = "java/lang/IllegalArgumentException") ∧ LI o nc nr q m w')) := by
  have hJ := hI
  obtain ⟨⟨e, r, h1, h2, hS⟩, _⟩ := hJ
  exact uA (c_X6_list hs (d := d) (by omega) hXO h1 h2 hS p0 p1 hkc hks) (fun a w' h => hI.cls h1 h2 h.1 h.2) (fun E w' h => ⟨h.1, hI.S h1 h2 h.2⟩)
set_option maxRecDepth 100000 in
set_option maxHeartbeats 4000000 in
theorem uu_comes {X : jX} (hs : X.1.stackTraces = false) {d : Nat} (hd : 40 ≤ d) {o nc nr : Nat} {q m : Int32} {w : List jC} (hI : LI o nc nr q m w) (p0 : Int32) (p1 : Int32) {kc ks : Nat} (hkc : 2 ≤ kc) (hks : 12 ≤ ks) : jMet X mX6_comes d kc ks [.ref 0, .int p0, .int p1] w (pX (pI (fun _ => True) (LI o nc nr q m)) (fun E w' => (E = "java/lang/IndexOutOfBoundsException" ∨ E = "java/lang/IllegalArgumentException") ∧ LI o nc nr q m w')) := by
  have hJ := hI
  obtain ⟨⟨e, r, h1, h2, hS⟩, _⟩ := hJ
  exact uI (c_X6_comes hs (d := d) (by omega) h1 h2 hS p0 p1 hkc hks) (fun w' h => hI.S h1 h2 h) (fun E w' h => ⟨h.1, hI.S h1 h2 h.2⟩)
set_option maxRecDepth 100000 in
set_option maxHeartbeats 4000000 in
theorem uu_pieces {X : jX} (hs : X.1.stackTraces = false) {d : Nat} (hd : 40 ≤ d) {o nc nr : Nat} {q m : Int32} {w : List jC} (hI : LI o nc nr q m w) (p0 : Int32) {kc ks : Nat} (hkc : 1 ≤ kc) (hks : 6 ≤ ks) : jMet X mX6_pieces d kc ks [.ref 0, .int p0] w (pX (pI (fun _ => True) (LI o nc nr q m)) (fun E w' => (E = "java/lang/IllegalArgumentException") ∧ LI o nc nr q m w')) := by
  have hJ := hI
  obtain ⟨⟨e, r, h1, h2, hS⟩, _⟩ := hJ
  exact uI (c_X6_pieces hs (d := d) (by omega) h1 h2 hS p0 hkc hks) (fun w' h => hI.S h1 h2 h) (fun E w' h => ⟨h.1, hI.S h1 h2 h.2⟩)
set_option maxRecDepth 100000 in
set_option maxHeartbeats 4000000 in
theorem uu_withOrder {X : jX} (hs : X.1.stackTraces = false) {d : Nat} (hd : 40 ≤ d) {o nc nr : Nat} {q m : Int32} {w : List jC} (hI : LI o nc nr q m w) (p0 : Int32) (p1 : Int32) {kc ks : Nat} (hkc : 2 ≤ kc) (hks : 12 ≤ ks) : jMet X mX6_withOrder d kc ks [.ref 0, .int p0, .int p1] w (pX (pI (fun _ => True) (LI o nc nr q m)) (fun E w' => (E = "java/lang/IllegalArgumentException") ∧ LI o nc nr q m w')) := by
  have hJ := hI
  obtain ⟨⟨e, r, h1, h2, hS⟩, _⟩ := hJ
  exact uI (c_X6_withOrder hs (d := d) (by omega) h1 h2 hS p0 p1 hkc hks) (fun w' h => hI.S h1 h2 h) (fun E w' h => ⟨h.1, hI.S h1 h2 h.2⟩)
set_option maxRecDepth 100000 in
set_option maxHeartbeats 4000000 in
theorem uu_even {X : jX} (hs : X.1.stackTraces = false) {d : Nat} (hd : 40 ≤ d) {o nc nr : Nat} {q m : Int32} {w : List jC} (hI : LI o nc nr q m w) (p0 : Int32) {kc ks : Nat} (hkc : 1 ≤ kc) (hks : 6 ≤ ks) : jMet X mX6_even d kc ks [.ref 0, .int p0] w (pX (pI (fun _ => True) (LI o nc nr q m)) (fun E w' => (E = "java/lang/IllegalArgumentException") ∧ LI o nc nr q m w')) := by
  have hJ := hI
  obtain ⟨⟨e, r, h1, h2, hS⟩, _⟩ := hJ
  exact uI (c_X6_even hs (d := d) (by omega) h1 h2 hS p0 hkc hks) (fun w' h => hI.S h1 h2 h) (fun E w' h => ⟨h.1, hI.S h1 h2 h.2⟩)
set_option maxRecDepth 100000 in
set_option maxHeartbeats 4000000 in
theorem uu_colourings {X : jX} (hs : X.1.stackTraces = false) {d : Nat} (hd : 40 ≤ d) {o nc nr : Nat} {q m : Int32} {w : List jC} (hI : LI o nc nr q m w) (p0 : Int32) (p1 : Int32) (p2 : Int32) {kc ks : Nat} (hkc : 3 ≤ kc) (hks : 18 ≤ ks) : jMet X mX6_colourings d kc ks [.ref 0, .int p0, .int p1, .int p2] w (pX (pI (fun _ => True) (LI o nc nr q m)) (fun E w' => (E = "java/lang/IllegalArgumentException") ∧ LI o nc nr q m w')) := by
  have hJ := hI
  obtain ⟨⟨e, r, h1, h2, hS⟩, _⟩ := hJ
  exact uI (c_X6_colourings hs (d := d) (by omega) h1 h2 hS p0 p1 p2 hkc hks) (fun w' h => hI.S h1 h2 h) (fun E w' h => ⟨h.1, hI.S h1 h2 h.2⟩)
set_option maxRecDepth 100000 in
set_option maxHeartbeats 4000000 in
theorem uu_isPart {X : jX} (hs : X.1.stackTraces = false) {d : Nat} (hd : 40 ≤ d) {o nc nr : Nat} {q m : Int32} {w : List jC} (hI : LI o nc nr q m w) (p0 : Int32) (p1 : Int32) {kc ks : Nat} (hkc : 2 ≤ kc) (hks : 12 ≤ ks) : jMet X mX6_isPart d kc ks [.ref 0, .int p0, .int p1] w (pX (pI (fun _ => True) (LI o nc nr q m)) (fun E w' => (E = "java/lang/IllegalArgumentException") ∧ LI o nc nr q m w')) := by
  have hJ := hI
  obtain ⟨⟨e, r, h1, h2, hS⟩, _⟩ := hJ
  exact uI (c_X6_isPart hs (d := d) (by omega) h1 h2 hS p0 p1 hkc hks) (fun w' h => hI.S h1 h2 h) (fun E w' h => ⟨h.1, hI.S h1 h2 h.2⟩)
set_option maxRecDepth 100000 in
set_option maxHeartbeats 4000000 in
theorem uu_shares {X : jX} (hs : X.1.stackTraces = false) {d : Nat} (hd : 40 ≤ d) {o nc nr : Nat} {q m : Int32} {w : List jC} (hI : LI o nc nr q m w) (p0 : Int32) (p1 : Int32) {kc ks : Nat} (hkc : 2 ≤ kc) (hks : 12 ≤ ks) : jMet X mX6_shares d kc ks [.ref 0, .int p0, .int p1] w (pX (pI (fun _ => True) (LI o nc nr q m)) (fun E w' => (E = "java/lang/IllegalArgumentException") ∧ LI o nc nr q m w')) := by
  have hJ := hI
  obtain ⟨⟨e, r, h1, h2, hS⟩, _⟩ := hJ
  exact uI (c_X6_shares hs (d := d) (by omega) h1 h2 hS p0 p1 hkc hks) (fun w' h => hI.S h1 h2 h) (fun E w' h => ⟨h.1, hI.S h1 h2 h.2⟩)
set_option maxRecDepth 100000 in
set_option maxHeartbeats 4000000 in
theorem uu_share {X : jX} (hs : X.1.stackTraces = false) {d : Nat} (hd : 40 ≤ d) {o nc nr : Nat} {q m : Int32} {w : List jC} (hI : LI o nc nr q m w) (p0 : Int32) (p1 : Int32) {kc ks : Nat} (hkc : 2 ≤ kc) (hks : 12 ≤ ks) : jMet X mX6_share d kc ks [.ref 0, .int p0, .int p1] w (pX (pI (fun _ => True) (LI o nc nr q m)) (fun E w' => (E = "java/lang/IndexOutOfBoundsException" ∨ E = "java/lang/IllegalArgumentException") ∧ LI o nc nr q m w')) := by
  have hJ := hI
  obtain ⟨⟨e, r, h1, h2, hS⟩, _⟩ := hJ
  exact uI (c_X6_share hs (d := d) (by omega) h1 h2 hS p0 p1 hkc hks) (fun w' h => hI.S h1 h2 h) (fun E w' h => ⟨h.1, hI.S h1 h2 h.2⟩)
set_option maxRecDepth 100000 in
set_option maxHeartbeats 4000000 in
theorem uu_together {X : jX} (hs : X.1.stackTraces = false) {d : Nat} (hd : 40 ≤ d) {o nc nr : Nat} {q m : Int32} {w : List jC} (hI : LI o nc nr q m w) (p0 : Int32) (p1 : Int32) (p2 : Int32) {kc ks : Nat} (hkc : 3 ≤ kc) (hks : 18 ≤ ks) : jMet X mX6_together d kc ks [.ref 0, .int p0, .int p1, .int p2] w (pX (pI (fun _ => True) (LI o nc nr q m)) (fun E w' => (E = "java/lang/IndexOutOfBoundsException" ∨ E = "java/lang/IllegalArgumentException") ∧ LI o nc nr q m w')) := by
  have hJ := hI
  obtain ⟨⟨e, r, h1, h2, hS⟩, _⟩ := hJ
  exact uI (c_X6_together hs (d := d) (by omega) h1 h2 hS p0 p1 p2 hkc hks) (fun w' h => hI.S h1 h2 h) (fun E w' h => ⟨h.1, hI.S h1 h2 h.2⟩)
set_option maxRecDepth 100000 in
set_option maxHeartbeats 4000000 in
theorem uu_blocks {X : jX} (hs : X.1.stackTraces = false) {d : Nat} (hd : 40 ≤ d) {o nc nr : Nat} {q m : Int32} {w : List jC} (hI : LI o nc nr q m w) (p0 : Int32) (p1 : Int32) (p2 : Int32) {kc ks : Nat} (hkc : 3 ≤ kc) (hks : 18 ≤ ks) : jMet X mX6_blocks d kc ks [.ref 0, .int p0, .int p1, .int p2] w (pX (pI (fun _ => True) (LI o nc nr q m)) (fun E w' => (E = "java/lang/IndexOutOfBoundsException" ∨ E = "java/lang/IllegalArgumentException") ∧ LI o nc nr q m w')) := by
  have hJ := hI
  obtain ⟨⟨e, r, h1, h2, hS⟩, _⟩ := hJ
  exact uI (c_X6_blocks hs (d := d) (by omega) h1 h2 hS p0 p1 p2 hkc hks) (fun w' h => hI.S h1 h2 h) (fun E w' h => ⟨h.1, hI.S h1 h2 h.2⟩)
set_option maxRecDepth 100000 in
set_option maxHeartbeats 4000000 in
theorem uu_isTwofold {X : jX} (hs : X.1.stackTraces = false) {d : Nat} (hd : 40 ≤ d) {o nc nr : Nat} {q m : Int32} {w : List jC} (hI : LI o nc nr q m w) (p0 : Int32) {kc ks : Nat} (hkc : 1 ≤ kc) (hks : 6 ≤ ks) : jMet X mX6_isTwofold d kc ks [.ref 0, .int p0] w (pX (pI (fun _ => True) (LI o nc nr q m)) (fun E w' => (E = "java/lang/IllegalArgumentException") ∧ LI o nc nr q m w')) := by
  have hJ := hI
  obtain ⟨⟨e, r, h1, h2, hS⟩, _⟩ := hJ
  exact uI (c_X6_isTwofold hs (d := d) (by omega) h1 h2 hS p0 hkc hks) (fun w' h => hI.S h1 h2 h) (fun E w' h => ⟨h.1, hI.S h1 h2 h.2⟩)
set_option maxRecDepth 100000 in
set_option maxHeartbeats 4000000 in
theorem uu_enough {X : jX} (hs : X.1.stackTraces = false) {d : Nat} (hd : 40 ≤ d) {o nc nr : Nat} {q m : Int32} {w : List jC} (hI : LI o nc nr q m w) (p0 : Int32) {kc ks : Nat} (hkc : 1 ≤ kc) (hks : 6 ≤ ks) : jMet X mX6_enough d kc ks [.ref 0, .int p0] w (pX (pI (fun _ => True) (LI o nc nr q m)) (fun E w' => (E = "java/lang/IllegalArgumentException") ∧ LI o nc nr q m w')) := by
  have hJ := hI
  obtain ⟨⟨e, r, h1, h2, hS⟩, _⟩ := hJ
  exact uI (c_X6_enough hs (d := d) (by omega) h1 h2 hS p0 hkc hks) (fun w' h => hI.S h1 h2 h) (fun E w' h => ⟨h.1, hI.S h1 h2 h.2⟩)
set_option maxRecDepth 100000 in
set_option maxHeartbeats 4000000 in
theorem uu_house {X : jX} (hs : X.1.stackTraces = false) {d : Nat} (hd : 40 ≤ d) {o nc nr : Nat} {q m : Int32} {w : List jC} (hI : LI o nc nr q m w) (p0 : Int32) {kc ks : Nat} (hkc : 1 ≤ kc) (hks : 6 ≤ ks) : jMet X mX6_house d kc ks [.ref 0, .int p0] w (pX (pI (fun _ => True) (LI o nc nr q m)) (fun E w' => (E = "java/lang/IllegalArgumentException") ∧ LI o nc nr q m w')) := by
  have hJ := hI
  obtain ⟨⟨e, r, h1, h2, hS⟩, _⟩ := hJ
  exact uI (c_X6_house hs (d := d) (by omega) h1 h2 hS p0 hkc hks) (fun w' h => hI.eq h) (fun E w' h => ⟨h.1, hI.psh h.2⟩)
set_option maxRecDepth 100000 in
set_option maxHeartbeats 4000000 in
theorem uu_count {X : jX} (hs : X.1.stackTraces = false) {d : Nat} (hd : 40 ≤ d) {o nc nr : Nat} {q m : Int32} {w : List jC} (hI : LI o nc nr q m w) {kc ks : Nat} : jMet X mX6_count d kc ks [.ref 0] w (pI (fun _ => True) (LI o nc nr q m)) := by
  have hJ := hI
  obtain ⟨⟨e, r, h1, h2, hS⟩, _⟩ := hJ
  exact uI0 (c_X6_count hs (d := d) (by omega) h1 h2 hS) (fun w' h => hI.eq h)
set_option maxRecDepth 100000 in
set_option maxHeartbeats 4000000 in
theorem uu_knock {X : jX} (hs : X.1.stackTraces = false) {d : Nat} (hd : 40 ≤ d) {o nc nr : Nat} {q m : Int32} {w : List jC} (hI : LI o nc nr q m w) {kc ks : Nat} : jMet X mX6_knock d kc ks [.ref 0] w (pI (fun v => v = q + nI 1) (LI o nc nr (q + nI 1) m)) := by
  have hJ := hI
  obtain ⟨⟨e, r, h1, h2, hS⟩, _⟩ := hJ
  exact uI1 (c_X6_knock hs (d := d) (by omega) h1 h2 hS) (fun v h => h) (fun w' h => hI.S h1 h2 h)
set_option maxRecDepth 100000 in
set_option maxHeartbeats 4000000 in
theorem uu_isSound {X : jX} (hs : X.1.stackTraces = false) {d : Nat} (hd : 40 ≤ d) {o nc nr : Nat} {q m : Int32} {w : List jC} (hI : LI o nc nr q m w) {kc ks : Nat} : jMet X mX6_isSound d kc ks [.ref 0] w (pI (fun _ => True) (LI o nc nr q m)) := by
  have hJ := hI
  obtain ⟨⟨e, r, h1, h2, hS⟩, _⟩ := hJ
  exact uI0 (c_X6_isSound hs (d := d) (by omega) h1 h2 hS) (fun w' h => hI.S h1 h2 h)
set_option maxRecDepth 100000 in
set_option maxHeartbeats 4000000 in
theorem uu_digest {X : jX} (hs : X.1.stackTraces = false) {d : Nat} (hd : 40 ≤ d) (hXO : XO X) {o nc nr : Nat} {q m : Int32} {w : List jC} (hI : LI o nc nr q m w) {kc ks : Nat} (hkc : 250 ≤ kc) (hks : 9100 ≤ ks) : jMet X mX6_digest d kc ks [.ref 0] w (pL (fun _ => True) (LI o nc nr q m)) := by
  have hJ := hI
  obtain ⟨⟨e, r, h1, h2, hS⟩, _⟩ := hJ
  exact uL0 (c_X6_digest hs (d := d) (by omega) hXO h1 h2 hS hkc hks) (fun w' h => hI.S h1 h2 h)
