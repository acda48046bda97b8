/-! The whole world of a run: every cell has a kind k and a number j; its numbers are I k j · (ints) and L k j · (longs). V: the kit's W over that world. -/
abbrev TI : Type := Nat → Nat → Nat → Int32
abbrev TL : Type := Nat → Nat → Nat → Int64
abbrev VE : Type := va_G × (Nat → ClassId) × (Nat → Nat → Nat) × Nat
abbrev eC (E : VE) : Nat → ClassId := E.2.1
abbrev eA (E : VE) : Nat → Nat → Nat := E.2.2.1
abbrev eF (E : VE) : Nat → Prop := fun q => E.2.2.2 ≤ q
def ve_tys (E : VE) : List (ClassId × FieldType) := [(eC E 0, .int), (eC E 1, .long), (eC E 2, .object "WellTables$Grid"), (eC E 3, .object "WellTables$Web")]
def cef (E : VE) (k j : Nat) (f : Nat → Int32) (g : Nat → Int64) : va_E := match k with
  | 0 => .inr (5, [.ref (eA E 1 0), .int (f 1), .ref (eA E 4 0), .int (f 3), .ref (eA E 9 0), .int (f 5), .ref (eA E 10 0), .ref (eA E 11 0), .ref (eA E 12 0), .ref (eA E 15 0), .ref (eA E 17 0)])
  | 1 => .inl (eC E 2, 12, .inr (.inr (.inr (.inr (fun i => some (eA E 2 i))))))
  | 2 => .inr (0, [.ref (eA E 3 j), .int (f 1), .int (f 2), .int (f 3), .int (f 4), .int (f 5)])
  | 3 => .inl (eC E 0, 25, .inl f)
  | 4 => .inl (eC E 3, 4, .inr (.inr (.inr (.inr (fun i => some (eA E 5 i))))))
  | 5 => .inr (3, [.ref (eA E 6 j), .ref (eA E 7 j), .ref (eA E 8 j), .int (f 3), .int (f 4)])
  | 6 => .inl (eC E 0, 16, .inl f)
  | 7 => .inl (eC E 0, 16, .inl f)
  | 8 => .inl (eC E 0, 16, .inl f)
  | 9 => .inl (eC E 0, 16, .inl f)
  | 10 => .inl (eC E 0, 5, .inl f)
  | 11 => .inl (eC E 0, 9, .inl f)
  | 12 => .inr (4, [.ref (eA E 13 0), .ref (eA E 14 0)])
  | 13 => .inl (eC E 1, 32, .inr (.inl g))
  | 14 => .inl (eC E 0, 5, .inl f)
  | 15 => .inr (2, [.ref (eA E 16 0)])
  | 16 => .inl (eC E 1, 544, .inr (.inl g))
  | 17 => .inr (1, [.ref (eA E 18 0), .ref (eA E 19 0), .ref (eA E 20 0), .ref (eA E 21 0), .int (f 4), .int (f 5), .ref (eA E 22 0), .ref (eA E 23 0), .long (g 8), .long (g 9)])
  | 18 => .inl (eC E 0, 9, .inl f)
  | 19 => .inl (eC E 0, 9, .inl f)
  | 20 => .inl (eC E 1, 9, .inr (.inl g))
  | 21 => .inl (eC E 1, 9, .inr (.inl g))
  | 22 => .inl (eC E 1, 9, .inr (.inl g))
  | 23 => .inl (eC E 1, 9, .inr (.inl g))
  | 30 => .inr (6, [.ref (eA E 31 0), .ref (eA E 32 0), .ref (eA E 33 0), .ref (eA E 34 0), .ref (eA E 35 0), .int (f 5), .ref (eA E 36 0), .ref (eA E 37 0), .ref (eA E 38 0), .ref (eA E 39 0), .ref (eA E 40 0), .int (f 11), .ref (eA E 41 0), .ref (eA E 42 0), .int (f 14), .int (f 15), .int (f 16), .int (f 17), .int (f 18), .ref (eA E 43 0), .ref (eA E 44 0), .ref (eA E 45 0), .ref (eA E 46 0), .ref (eA E 47 0), .int (f 24), .int (f 25), .int (f 26), .ref (eA E 48 0), .ref (eA E 49 0), .ref (eA E 50 0), .ref (eA E 51 0), .ref (eA E 52 0), .ref (eA E 53 0), .int (f 33), .int (f 34), .long (g 35), .long (g 36)])
  | 31 => .inl (eC E 0, 300, .inl f)
  | 32 => .inl (eC E 0, 12, .inl f)
  | 33 => .inl (eC E 0, 12, .inl f)
  | 34 => .inl (eC E 0, 12, .inl f)
  | 35 => .inl (eC E 0, 12, .inl f)
  | 36 => .inl (eC E 0, 4, .inl f)
  | 37 => .inl (eC E 0, 4, .inl f)
  | 38 => .inl (eC E 0, 64, .inl f)
  | 39 => .inl (eC E 0, 64, .inl f)
  | 40 => .inl (eC E 0, 64, .inl f)
  | 41 => .inl (eC E 0, 9, .inl f)
  | 42 => .inl (eC E 1, 32, .inr (.inl g))
  | 43 => .inl (eC E 1, 25, .inr (.inl g))
  | 44 => .inl (eC E 0, 544, .inl f)
  | 45 => .inl (eC E 1, 544, .inr (.inl g))
  | 46 => .inl (eC E 0, 16, .inl f)
  | 47 => .inl (eC E 0, 16, .inl f)
  | 48 => .inl (eC E 1, 9, .inr (.inl g))
  | 49 => .inl (eC E 1, 9, .inr (.inl g))
  | 50 => .inl (eC E 1, 12, .inr (.inl g))
  | 51 => .inl (eC E 1, 12, .inr (.inl g))
  | 52 => .inl (eC E 0, 12, .inl f)
  | 53 => .inl (eC E 0, 12, .inl f)
  | _ => .inr (0, [])
theorem cef_0 (E : VE) (j : Nat) (f : Nat → Int32) (g : Nat → Int64) : cef E 0 j f g = .inr (5, [.ref (eA E 1 0), .int (f 1), .ref (eA E 4 0), .int (f 3), .ref (eA E 9 0), .int (f 5), .ref (eA E 10 0), .ref (eA E 11 0), .ref (eA E 12 0), .ref (eA E 15 0), .ref (eA E 17 0)]) := rfl
theorem cef_1 (E : VE) (j : Nat) (f : Nat → Int32) (g : Nat → Int64) : cef E 1 j f g = .inl (eC E 2, 12, .inr (.inr (.inr (.inr (fun i => some (eA E 2 i)))))) := rfl
theorem cef_2 (E : VE) (j : Nat) (f : Nat → Int32) (g : Nat → Int64) : cef E 2 j f g = .inr (0, [.ref (eA E 3 j), .int (f 1), .int (f 2), .int (f 3), .int (f 4), .int (f 5)]) := rfl
theorem cef_3 (E : VE) (j : Nat) (f : Nat → Int32) (g : Nat → Int64) : cef E 3 j f g = .inl (eC E 0, 25, .inl f) := rfl
theorem cef_4 (E : VE) (j : Nat) (f : Nat → Int32) (g : Nat → Int64) : cef E 4 j f g = .inl (eC E 3, 4, .inr (.inr (.inr (.inr (fun i => some (eA E 5 i)))))) := rfl
theorem cef_5 (E : VE) (j : Nat) (f : Nat → Int32) (g : Nat → Int64) : cef E 5 j f g = .inr (3, [.ref (eA E 6 j), .ref (eA E 7 j), .ref (eA E 8 j), .int (f 3), .int (f 4)]) := rfl
theorem cef_6 (E : VE) (j : Nat) (f : Nat → Int32) (g : Nat → Int64) : cef E 6 j f g = .inl (eC E 0, 16, .inl f) := rfl
theorem cef_7 (E : VE) (j : Nat) (f : Nat → Int32) (g : Nat → Int64) : cef E 7 j f g = .inl (eC E 0, 16, .inl f) := rfl
theorem cef_8 (E : VE) (j : Nat) (f : Nat → Int32) (g : Nat → Int64) : cef E 8 j f g = .inl (eC E 0, 16, .inl f) := rfl
theorem cef_9 (E : VE) (j : Nat) (f : Nat → Int32) (g : Nat → Int64) : cef E 9 j f g = .inl (eC E 0, 16, .inl f) := rfl
theorem cef_10 (E : VE) (j : Nat) (f : Nat → Int32) (g : Nat → Int64) : cef E 10 j f g = .inl (eC E 0, 5, .inl f) := rfl
theorem cef_11 (E : VE) (j : Nat) (f : Nat → Int32) (g : Nat → Int64) : cef E 11 j f g = .inl (eC E 0, 9, .inl f) := rfl
theorem cef_12 (E : VE) (j : Nat) (f : Nat → Int32) (g : Nat → Int64) : cef E 12 j f g = .inr (4, [.ref (eA E 13 0), .ref (eA E 14 0)]) := rfl
theorem cef_13 (E : VE) (j : Nat) (f : Nat → Int32) (g : Nat → Int64) : cef E 13 j f g = .inl (eC E 1, 32, .inr (.inl g)) := rfl
theorem cef_14 (E : VE) (j : Nat) (f : Nat → Int32) (g : Nat → Int64) : cef E 14 j f g = .inl (eC E 0, 5, .inl f) := rfl
theorem cef_15 (E : VE) (j : Nat) (f : Nat → Int32) (g : Nat → Int64) : cef E 15 j f g = .inr (2, [.ref (eA E 16 0)]) := rfl
theorem cef_16 (E : VE) (j : Nat) (f : Nat → Int32) (g : Nat → Int64) : cef E 16 j f g = .inl (eC E 1, 544, .inr (.inl g)) := rfl
theorem cef_17 (E : VE) (j : Nat) (f : Nat → Int32) (g : Nat → Int64) : cef E 17 j f g = .inr (1, [.ref (eA E 18 0), .ref (eA E 19 0), .ref (eA E 20 0), .ref (eA E 21 0), .int (f 4), .int (f 5), .ref (eA E 22 0), .ref (eA E 23 0), .long (g 8), .long (g 9)]) := rfl
theorem cef_18 (E : VE) (j : Nat) (f : Nat → Int32) (g : Nat → Int64) : cef E 18 j f g = .inl (eC E 0, 9, .inl f) := rfl
theorem cef_19 (E : VE) (j : Nat) (f : Nat → Int32) (g : Nat → Int64) : cef E 19 j f g = .inl (eC E 0, 9, .inl f) := rfl
theorem cef_20 (E : VE) (j : Nat) (f : Nat → Int32) (g : Nat → Int64) : cef E 20 j f g = .inl (eC E 1, 9, .inr (.inl g)) := rfl
theorem cef_21 (E : VE) (j : Nat) (f : Nat → Int32) (g : Nat → Int64) : cef E 21 j f g = .inl (eC E 1, 9, .inr (.inl g)) := rfl
theorem cef_22 (E : VE) (j : Nat) (f : Nat → Int32) (g : Nat → Int64) : cef E 22 j f g = .inl (eC E 1, 9, .inr (.inl g)) := rfl
theorem cef_23 (E : VE) (j : Nat) (f : Nat → Int32) (g : Nat → Int64) : cef E 23 j f g = .inl (eC E 1, 9, .inr (.inl g)) := rfl
theorem cef_30 (E : VE) (j : Nat) (f : Nat → Int32) (g : Nat → Int64) : cef E 30 j f g = .inr (6, [.ref (eA E 31 0), .ref (eA E 32 0), .ref (eA E 33 0), .ref (eA E 34 0), .ref (eA E 35 0), .int (f 5), .ref (eA E 36 0), .ref (eA E 37 0), .ref (eA E 38 0), .ref (eA E 39 0), .ref (eA E 40 0), .int (f 11), .ref (eA E 41 0), .ref (eA E 42 0), .int (f 14), .int (f 15), .int (f 16), .int (f 17), .int (f 18), .ref (eA E 43 0), .ref (eA E 44 0), .ref (eA E 45 0), .ref (eA E 46 0), .ref (eA E 47 0), .int (f 24), .int (f 25), .int (f 26), .ref (eA E 48 0), .ref (eA E 49 0), .ref (eA E 50 0), .ref (eA E 51 0), .ref (eA E 52 0), .ref (eA E 53 0), .int (f 33), .int (f 34), .long (g 35), .long (g 36)]) := rfl
theorem cef_31 (E : VE) (j : Nat) (f : Nat → Int32) (g : Nat → Int64) : cef E 31 j f g = .inl (eC E 0, 300, .inl f) := rfl
theorem cef_32 (E : VE) (j : Nat) (f : Nat → Int32) (g : Nat → Int64) : cef E 32 j f g = .inl (eC E 0, 12, .inl f) := rfl
theorem cef_33 (E : VE) (j : Nat) (f : Nat → Int32) (g : Nat → Int64) : cef E 33 j f g = .inl (eC E 0, 12, .inl f) := rfl
theorem cef_34 (E : VE) (j : Nat) (f : Nat → Int32) (g : Nat → Int64) : cef E 34 j f g = .inl (eC E 0, 12, .inl f) := rfl
theorem cef_35 (E : VE) (j : Nat) (f : Nat → Int32) (g : Nat → Int64) : cef E 35 j f g = .inl (eC E 0, 12, .inl f) := rfl
theorem cef_36 (E : VE) (j : Nat) (f : Nat → Int32) (g : Nat → Int64) : cef E 36 j f g = .inl (eC E 0, 4, .inl f) := rfl
theorem cef_37 (E : VE) (j : Nat) (f : Nat → Int32) (g : Nat → Int64) : cef E 37 j f g = .inl (eC E 0, 4, .inl f) := rfl
theorem cef_38 (E : VE) (j : Nat) (f : Nat → Int32) (g : Nat → Int64) : cef E 38 j f g = .inl (eC E 0, 64, .inl f) := rfl
theorem cef_39 (E : VE) (j : Nat) (f : Nat → Int32) (g : Nat → Int64) : cef E 39 j f g = .inl (eC E 0, 64, .inl f) := rfl
theorem cef_40 (E : VE) (j : Nat) (f : Nat → Int32) (g : Nat → Int64) : cef E 40 j f g = .inl (eC E 0, 64, .inl f) := rfl
theorem cef_41 (E : VE) (j : Nat) (f : Nat → Int32) (g : Nat → Int64) : cef E 41 j f g = .inl (eC E 0, 9, .inl f) := rfl
theorem cef_42 (E : VE) (j : Nat) (f : Nat → Int32) (g : Nat → Int64) : cef E 42 j f g = .inl (eC E 1, 32, .inr (.inl g)) := rfl
theorem cef_43 (E : VE) (j : Nat) (f : Nat → Int32) (g : Nat → Int64) : cef E 43 j f g = .inl (eC E 1, 25, .inr (.inl g)) := rfl
theorem cef_44 (E : VE) (j : Nat) (f : Nat → Int32) (g : Nat → Int64) : cef E 44 j f g = .inl (eC E 0, 544, .inl f) := rfl
theorem cef_45 (E : VE) (j : Nat) (f : Nat → Int32) (g : Nat → Int64) : cef E 45 j f g = .inl (eC E 1, 544, .inr (.inl g)) := rfl
theorem cef_46 (E : VE) (j : Nat) (f : Nat → Int32) (g : Nat → Int64) : cef E 46 j f g = .inl (eC E 0, 16, .inl f) := rfl
theorem cef_47 (E : VE) (j : Nat) (f : Nat → Int32) (g : Nat → Int64) : cef E 47 j f g = .inl (eC E 0, 16, .inl f) := rfl
theorem cef_48 (E : VE) (j : Nat) (f : Nat → Int32) (g : Nat → Int64) : cef E 48 j f g = .inl (eC E 1, 9, .inr (.inl g)) := rfl
theorem cef_49 (E : VE) (j : Nat) (f : Nat → Int32) (g : Nat → Int64) : cef E 49 j f g = .inl (eC E 1, 9, .inr (.inl g)) := rfl
theorem cef_50 (E : VE) (j : Nat) (f : Nat → Int32) (g : Nat → Int64) : cef E 50 j f g = .inl (eC E 1, 12, .inr (.inl g)) := rfl
theorem cef_51 (E : VE) (j : Nat) (f : Nat → Int32) (g : Nat → Int64) : cef E 51 j f g = .inl (eC E 1, 12, .inr (.inl g)) := rfl
theorem cef_52 (E : VE) (j : Nat) (f : Nat → Int32) (g : Nat → Int64) : cef E 52 j f g = .inl (eC E 0, 12, .inl f) := rfl
theorem cef_53 (E : VE) (j : Nat) (f : Nat → Int32) (g : Nat → Int64) : cef E 53 j f g = .inl (eC E 0, 12, .inl f) := rfl
def DL : List (Nat × Nat) := [(0, 0), (1, 0), (2, 0), (2, 1), (2, 2), (2, 3), (2, 4), (2, 5), (2, 6), (2, 7), (2, 8), (2, 9), (2, 10), (2, 11), (3, 0), (3, 1), (3, 2), (3, 3), (3, 4), (3, 5), (3, 6), (3, 7), (3, 8), (3, 9), (3, 10), (3, 11), (4, 0), (5, 0), (5, 1), (5, 2), (5, 3), (6, 0), (6, 1), (6, 2), (6, 3), (7, 0), (7, 1), (7, 2), (7, 3), (8, 0), (8, 1), (8, 2), (8, 3), (9, 0), (10, 0), (11, 0), (12, 0), (13, 0), (14, 0), (15, 0), (16, 0), (17, 0), (18, 0), (19, 0), (20, 0), (21, 0), (22, 0), (23, 0), (30, 0), (31, 0), (32, 0), (33, 0), (34, 0), (35, 0), (36, 0), (37, 0), (38, 0), (39, 0), (40, 0), (41, 0), (42, 0), (43, 0), (44, 0), (45, 0), (46, 0), (47, 0), (48, 0), (49, 0), (50, 0), (51, 0), (52, 0), (53, 0)]
theorem dl_0 : (0, 0) ∈ DL := by decide +kernel
theorem dl_1 : (1, 0) ∈ DL := by decide +kernel
theorem dl_2 {j : Nat} (h : j < 12) : (2, j) ∈ DL := (show ∀ j, j < 12 → (2, j) ∈ DL by decide +kernel) j h
theorem dl_3 {j : Nat} (h : j < 12) : (3, j) ∈ DL := (show ∀ j, j < 12 → (3, j) ∈ DL by decide +kernel) j h
theorem dl_4 : (4, 0) ∈ DL := by decide +kernel
theorem dl_5 {j : Nat} (h : j < 4) : (5, j) ∈ DL := (show ∀ j, j < 4 → (5, j) ∈ DL by decide +kernel) j h
theorem dl_6 {j : Nat} (h : j < 4) : (6, j) ∈ DL := (show ∀ j, j < 4 → (6, j) ∈ DL by decide +kernel) j h
theorem dl_7 {j : Nat} (h : j < 4) : (7, j) ∈ DL := (show ∀ j, j < 4 → (7, j) ∈ DL by decide +kernel) j h
theorem dl_8 {j : Nat} (h : j < 4) : (8, j) ∈ DL := (show ∀ j, j < 4 → (8, j) ∈ DL by decide +kernel) j h
theorem dl_9 : (9, 0) ∈ DL := by decide +kernel
theorem dl_10 : (10, 0) ∈ DL := by decide +kernel
theorem dl_11 : (11, 0) ∈ DL := by decide +kernel
theorem dl_12 : (12, 0) ∈ DL := by decide +kernel
theorem dl_13 : (13, 0) ∈ DL := by decide +kernel
theorem dl_14 : (14, 0) ∈ DL := by decide +kernel
theorem dl_15 : (15, 0) ∈ DL := by decide +kernel
theorem dl_16 : (16, 0) ∈ DL := by decide +kernel
theorem dl_17 : (17, 0) ∈ DL := by decide +kernel
theorem dl_18 : (18, 0) ∈ DL := by decide +kernel
theorem dl_19 : (19, 0) ∈ DL := by decide +kernel
theorem dl_20 : (20, 0) ∈ DL := by decide +kernel
theorem dl_21 : (21, 0) ∈ DL := by decide +kernel
theorem dl_22 : (22, 0) ∈ DL := by decide +kernel
theorem dl_23 : (23, 0) ∈ DL := by decide +kernel
theorem dl_30 : (30, 0) ∈ DL := by decide +kernel
theorem dl_31 : (31, 0) ∈ DL := by decide +kernel
theorem dl_32 : (32, 0) ∈ DL := by decide +kernel
theorem dl_33 : (33, 0) ∈ DL := by decide +kernel
theorem dl_34 : (34, 0) ∈ DL := by decide +kernel
theorem dl_35 : (35, 0) ∈ DL := by decide +kernel
theorem dl_36 : (36, 0) ∈ DL := by decide +kernel
theorem dl_37 : (37, 0) ∈ DL := by decide +kernel
theorem dl_38 : (38, 0) ∈ DL := by decide +kernel
theorem dl_39 : (39, 0) ∈ DL := by decide +kernel
theorem dl_40 : (40, 0) ∈ DL := by decide +kernel
theorem dl_41 : (41, 0) ∈ DL := by decide +kernel
theorem dl_42 : (42, 0) ∈ DL := by decide +kernel
theorem dl_43 : (43, 0) ∈ DL := by decide +kernel
theorem dl_44 : (44, 0) ∈ DL := by decide +kernel
theorem dl_45 : (45, 0) ∈ DL := by decide +kernel
theorem dl_46 : (46, 0) ∈ DL := by decide +kernel
theorem dl_47 : (47, 0) ∈ DL := by decide +kernel
theorem dl_48 : (48, 0) ∈ DL := by decide +kernel
theorem dl_49 : (49, 0) ∈ DL := by decide +kernel
theorem dl_50 : (50, 0) ∈ DL := by decide +kernel
theorem dl_51 : (51, 0) ∈ DL := by decide +kernel
theorem dl_52 : (52, 0) ∈ DL := by decide +kernel
theorem dl_53 : (53, 0) ∈ DL := by decide +kernel
def wl (E : VE) (I : TI) (L : TL) : va_W := DL.map (fun q => (eA E q.1 q.2, cef E q.1 q.2 (I q.1 q.2) (L q.1 q.2)))
def upI (I : TI) (k j x : Nat) (v : Int32) : TI := fun k' j' x' => if k' = k ∧ j' = j ∧ x' = x then v else I k' j' x'
def upL (L : TL) (k j x : Nat) (v : Int64) : TL := fun k' j' x' => if k' = k ∧ j' = j ∧ x' = x then v else L k' j' x'
theorem upI_row (I : TI) (k j x : Nat) (v : Int32) : upI I k j x v k j = upd (I k j) x v := by
  funext y; simp [upI, upd]
theorem upI_off (I : TI) (k j x : Nat) (v : Int32) {k' j' : Nat} (h : (k', j') ≠ (k, j)) : upI I k j x v k' j' = I k' j' := by
  funext y
  unfold upI
  rw [if_neg]
  rintro ⟨rfl, rfl, -⟩
  exact h rfl
theorem upL_row (L : TL) (k j x : Nat) (v : Int64) : upL L k j x v k j = vp_updL (L k j) x v := by
  funext y; simp [upL, vp_updL]
theorem upL_off (L : TL) (k j x : Nat) (v : Int64) {k' j' : Nat} (h : (k', j') ≠ (k, j)) : upL L k j x v k' j' = L k' j' := by
  funext y
  unfold upL
  rw [if_neg]
  rintro ⟨rfl, rfl, -⟩
  exact h rfl
theorem dl_inj : ∀ i, i < DL.length → ∀ j, j < DL.length → DL[i]? = DL[j]? → i = j := by decide +kernel
theorem wl_at {k j : Nat} (h : (k, j) ∈ DL) : ∃ q0 : Nat, DL[q0]? = some (k, j) ∧ ∀ (E : VE) (I : TI) (L : TL), (wl E I L)[q0]? = some (eA E k j, cef E k j (I k j) (L k j)) := by
  obtain ⟨q0, h0⟩ := List.getElem?_of_mem h
  exact ⟨q0, h0, fun E I L => by simp [wl, List.getElem?_map, h0]⟩
theorem wl_set {E : VE} {I I' : TI} {L L' : TL} {k j q0 : Nat} (h0 : DL[q0]? = some (k, j)) (hI : ∀ k' j', (k', j') ≠ (k, j) → I' k' j' = I k' j') (hL : ∀ k' j', (k', j') ≠ (k, j) → L' k' j' = L k' j') :
    (wl E I L).set q0 (eA E k j, cef E k j (I' k j) (L' k j)) = wl E I' L' := by
  have hlt : q0 < DL.length := (List.getElem?_eq_some_iff.mp h0).1
  have hw : q0 < (wl E I L).length := by unfold wl; rw [List.length_map]; exact hlt
  apply List.ext_getElem?
  intro i
  rw [List.getElem?_set]
  by_cases hi : q0 = i
  · subst hi
    rw [if_pos rfl, if_pos hw]
    unfold wl
    rw [List.getElem?_map, h0]
    rfl
  · rw [if_neg hi]
    unfold wl
    rw [List.getElem?_map, List.getElem?_map]
    cases hq : DL[i]? with
    | none => rfl
    | some q =>
      have hne : q ≠ (k, j) := by
        intro e
        subst e
        exact hi (dl_inj q0 hlt i (List.getElem?_eq_some_iff.mp hq).1 (h0.trans hq.symm))
      obtain ⟨a, b⟩ := q
      simp only [Option.map_some]
      rw [hI a b hne, hL a b hne]
/-! words of nest mates -/
def nwF : List (String × Nat × String × String × String × String) := [("WellTables", 214, "WellTables$Maker", "kinds", "[I", "WellTables"), ("WellTables", 217, "WellTables$Maker", "lines", "[I", "WellTables"), ("WellTables", 219, "WellTables$Maker", "uppers", "[J", "WellTables"), ("WellTables", 223, "WellTables$Maker", "lowers", "[J", "WellTables"), ("WellTables", 213, "WellTables$Maker", "steps", "I", "WellTables"), ("WellTables$Maker", 47, "WellTables$Grid", "rows", "I", "WellTables"), ("WellTables$Worths", 23, "WellTables$Grid", "rows", "I", "WellTables"), ("WellTables", 101, "WellTables$Grid", "rows", "I", "WellTables"), ("WellTables$Worths", 29, "WellTables$Grid", "columns", "I", "WellTables"), ("WellTables", 104, "WellTables$Grid", "columns", "I", "WellTables"), ("WellTables", 85, "WellTables$Grid", "kind", "I", "WellTables"), ("WellTables", 114, "WellTables$Grid", "net", "I", "WellTables"), ("WellTables", 232, "WellTables$Grid", "fits", "Z", "WellTables"), ("WellTables$Ways", 25, "WellTables$Web", "weights", "[I", "WellTables"), ("WellTables", 177, "WellTables$Web", "lines", "I", "WellTables"), ("WellTables$Ways", 15, "WellTables$Web", "steps", "I", "WellTables"), ("WellTables", 171, "WellTables$Web", "steps", "I", "WellTables")]
def nwM : List (String × Nat × MethodName × String) := [("WellTables", 33, ⟨"WellTables$Worths", "<init>", "()V"⟩, "WellTables"), ("WellTables", 40, ⟨"WellTables$Ways", "<init>", "()V"⟩, "WellTables"), ("WellTables", 47, ⟨"WellTables$Maker", "<init>", "()V"⟩, "WellTables"), ("WellTables", 52, ⟨"WellTables$Grid", "<init>", "()V"⟩, "WellTables"), ("WellTables", 53, ⟨"WellTables$Web", "<init>", "()V"⟩, "WellTables"), ("WellTables$Grid", 42, ⟨"WellTables", "isNumber", "(J)Z"⟩, "WellTables"), ("WellTables$Worths", 66, ⟨"WellTables", "holds", "(II)Z"⟩, "WellTables"), ("WellTables$Worths", 48, ⟨"WellTables", "areAsMany", "(II)Z"⟩, "WellTables"), ("WellTables$Worths", 52, ⟨"WellTables", "signOf", "(J)I"⟩, "WellTables"), ("WellTables$Web", 28, ⟨"WellTables", "holds", "(II)Z"⟩, "WellTables"), ("WellTables$Maker", 87, ⟨"WellTables", "signOf", "(J)I"⟩, "WellTables")]
def NWok (U : State) : Prop := (∀ q ∈ nwF, va_Nw (.fieldLinkNest q.1 q.2.1 q.2.2.1 q.2.2.2.1 q.2.2.2.2.1 q.2.2.2.2.2) U) ∧ ∀ q ∈ nwM, va_Nw (.methodLinkNest q.1 q.2.1 q.2.2.1 q.2.2.2) U
theorem NWok.warm {s U : State} (hW : s.WarmedH U.vm) (h : NWok s) : NWok U := ⟨fun q hq => va_Nw.warmF hW (h.1 q hq), fun q hq => va_Nw.warmM hW (h.2 q hq)⟩
theorem NWok.same {u U : State} (hv : u.vm = U.vm) (h : NWok u) : NWok U := ⟨fun q hq => va_Nw.same rfl hv (h.1 q hq), fun q hq => va_Nw.same rfl hv (h.2 q hq)⟩
/-! the judgement -/
abbrev VA : Type := (Program × Launch × Env × Room × State × MethodId × Array Value) × (List Frame × Method × Code) × (VE × Nat × Nat × (State → Prop))
abbrev vp (a : VA) : Program := a.1.1
abbrev vl (a : VA) : Launch := a.1.2.1
abbrev ve (a : VA) : Env := a.1.2.2.1
abbrev vR (a : VA) : Room := a.1.2.2.2.1
abbrev vs (a : VA) : State := a.1.2.2.2.2.1
abbrev vm (a : VA) : MethodId := a.1.2.2.2.2.2.1
abbrev vargs (a : VA) : Array Value := a.1.2.2.2.2.2.2
abbrev vbelow (a : VA) : List Frame := a.2.1.1
abbrev vmeth (a : VA) : Method := a.2.1.2.1
abbrev vc (a : VA) : Code := a.2.1.2.2
abbrev vE (a : VA) : VE := a.2.2.1
abbrev vcl (a : VA) : Nat := a.2.2.2.1
abbrev vsl (a : VA) : Nat := a.2.2.2.2.1
abbrev vQ (a : VA) : State → Prop := a.2.2.2.2.2
abbrev VW (a : VA) (H : Heap) (locs : List Loc) (g : JFrame) : Prop := W (vp a) (vl a) (ve a) (vR a) (vs a) (vm a) (vargs a) (vbelow a) (vmeth a) (vc a) H locs (vcl a) (vsl a) (vQ a) g
def V (a : VA) (pc : Nat) (lv : List (Nat × Value)) (st : List Value) (I : TI) (L : TL) : Prop :=
  ∀ (H : Heap) (locs : List Loc) (ls : Array Slot), lv_has ls (vc a).maxLocals lv → va_P (vE a).1 vwCl (wl (vE a) I L) H → va_S (eF (vE a)) (vs a).heap H locs → VW a H locs (F0 (vm a) pc ls st)
def EOk (E : VE) : Prop := ∀ (I : TI) (L : TL), va_D (eF E) (wl E I L)
def VOk (a : VA) (own : String) (cc : ByteArray) (rm : Room) (nL : Nat) : Prop :=
  (vp a).tables.exec = Jvm.exec ∧ (vc a).code = cc ∧ (vc a).maxLocals = nL ∧ (vs a).vm.findClass own = some (vm a).cls ∧ (∀ w ∈ WS, w.before (vargs a) (vs a) = true) ∧ NWok (vs a) ∧ va_K (vE a).1 vwCl (ve_tys (vE a)) (vs a) ∧ EOk (vE a) ∧ vR a = rm ∧ vcl a ≤ rm.cells ∧ vsl a ≤ rm.slots
def QQ (E : VE) (Post : Option Value → TI → TL → Prop) : Array Value → State → Outcome → State → Prop := fun _ st oc t =>
  (∃ (r : Option Value) (I : TI) (L : TL), oc = .returned r ∧ Post r I L ∧ va_P E.1 vwCl (wl E I L) t.heap) ∧ va_F (eF E) st t
def VRet (a : VA) (ret : Option FieldType) (Post : Option Value → TI → TL → Prop) : Prop :=
  (vmeth a).sig.returnType = ret ∧ (vmeth a).locks = false ∧ vQ a = MQ (vbelow a) (QQ (vE a) Post) (vargs a) (vs a) (vcl a) (vsl a) (eF (vE a))
def Ct (l : Launch) (E : VE) (y : MethodName) (b : ByteArray) (maxL : Nat) (ret : Option FieldType) (rm : Room) (args : List Value) (I : TI) (L : TL) (Post : Option Value → TI → TL → Prop) : Prop :=
  Met l y (.code y b maxL ret :: WS) rm (va_Pc args (fun U => va_P E.1 vwCl (wl E I L) U.heap ∧ va_K E.1 vwCl (ve_tys E) U ∧ NWok U)) (QQ E Post) 0 0 (eF E)
theorem ct_of {l : Launch} {E : VE} {y : MethodName} {b : ByteArray} {maxL : Nat} {ret : Option FieldType} {rm : Room} {args : List Value} {I : TI} {L : TL} {Post : Option Value → TI → TL → Prop}
    (hy : plainName y.cls = true) (hlen : (lg_sl args).length ≤ maxL) (hE : EOk E)
    (body : ∀ a : VA, VOk a y.cls b rm maxL → VRet a ret Post → vl a = l → vE a = E → V a 0 (lv_args 0 args) [] I L) : Ct l E y b maxL ret rm args I L Post := by
  refine Met.ofW (cc := b) (maxL := maxL) (ret := ret) hy rfl ?_
  intro p e s m as below meth c s₁ B hml hv
  obtain ⟨rfl, hP, hK, hN⟩ := hv
  have hts := atoms_spec (ws := Cond.code y b maxL ret :: WS) B.pre
  have hown : s.vm.findClass y.cls = some m.cls := findClass_of_methodNamed B.named
  have hl := lv_entry args (n := maxL) hlen
  rw [lg_entry_eq]
  refine body ((p, l, e, _, s, m, _), (below, meth, c), (E, 0, 0, _)) ⟨B.exec, B.bytes, hml, hown, fun w h => hts w (List.mem_cons_of_mem _ h), hN, hK, hE, rfl, Nat.zero_le _, Nat.zero_le _⟩ ⟨B.returns, B.notSynchronized, rfl⟩ rfl rfl s.heap [] _ ?_ hP va_S.rf
  show lv_has _ c.maxLocals _
  rw [hml]
  exact hl
theorem Ct.mono {l : Launch} {E : VE} {y : MethodName} {b : ByteArray} {maxL : Nat} {ret : Option FieldType} {rm : Room} {args : List Value} {I : TI} {L : TL} {Post Post' : Option Value → TI → TL → Prop}
    (h : Ct l E y b maxL ret rm args I L Post) (hp : ∀ r I' L', Post r I' L' → Post' r I' L') : Ct l E y b maxL ret rm args I L Post' := by
  intro p e ha hc hk s m args below hf happ hP hT
  obtain ⟨k, o, h1, h2, h3, ⟨⟨r, I', L', e1, e2, e3⟩, h4⟩, h5⟩ := h p e ha hc hk s m args below hf happ hP hT
  exact ⟨k, o, h1, h2, h3, ⟨⟨r, I', L', e1, hp _ _ _ e2, e3⟩, h4⟩, h5⟩
section VV
variable {a : VA} {own : String} {cc : ByteArray} {rm : Room} {nL : Nat} {pc : Nat} {lv : List (Nat × Value)} {st : List Value} {I : TI} {L : TL}
theorem v_sub (ks : List Nat) {lv' : List (Nat × Value)} (h : lv_pick lv ks = lv') (k : V a pc lv' st I L) : V a pc lv st I L := fun H locs ls hl hP hS => k H locs ls (lv_sub hl ks h) hP hS
theorem v_pc {pc' : Nat} (h : pc = pc') (k : V a pc' lv st I L) : V a pc lv st I L := h ▸ k
theorem v_topi {x : Int32} (k : ∀ y : Int32, y = x → V a pc lv (.int y :: st) I L) : V a pc lv (.int x :: st) I L := k x rfl
theorem v_topl {x : Int64} (k : ∀ y : Int64, y = x → V a pc lv (.long y :: st) I L) : V a pc lv (.long x :: st) I L := k x rfl
theorem v_eqi {x y : Int32} (h : x = y) (k : V a pc lv (.int y :: st) I L) : V a pc lv (.int x :: st) I L := h ▸ k
theorem v_eql {x y : Int64} (h : x = y) (k : V a pc lv (.long y :: st) I L) : V a pc lv (.long x :: st) I L := h ▸ k
theorem v_eqI {I' : TI} (h : I = I') (k : V a pc lv st I' L) : V a pc lv st I L := h ▸ k
theorem v_eqL {L' : TL} (h : L = L') (k : V a pc lv st I L') : V a pc lv st I L := h ▸ k
theorem v_iadd (X : VOk a own cc rm nL) {x y : Int32} (hd : decode cc pc = .ok (.iadd, 1)) (kk : V a (pc + 1) lv (.int (x + y) :: st) I L) : V a pc lv (.int y :: .int x :: st) I L := fun H locs ls hl hP hS => lv_iadd X.1 X.2.1 hd (kk H locs ls hl hP hS)
theorem v_isub (X : VOk a own cc rm nL) {x y : Int32} (hd : decode cc pc = .ok (.isub, 1)) (kk : V a (pc + 1) lv (.int (x - y) :: st) I L) : V a pc lv (.int y :: .int x :: st) I L := fun H locs ls hl hP hS => lv_isub X.1 X.2.1 hd (kk H locs ls hl hP hS)
theorem v_imul (X : VOk a own cc rm nL) {x y : Int32} (hd : decode cc pc = .ok (.imul, 1)) (kk : V a (pc + 1) lv (.int (x * y) :: st) I L) : V a pc lv (.int y :: .int x :: st) I L := fun H locs ls hl hP hS => lv_imul X.1 X.2.1 hd (kk H locs ls hl hP hS)
theorem v_iand (X : VOk a own cc rm nL) {x y : Int32} (hd : decode cc pc = .ok (.iand, 1)) (kk : V a (pc + 1) lv (.int (x &&& y) :: st) I L) : V a pc lv (.int y :: .int x :: st) I L := fun H locs ls hl hP hS => lv_iand X.1 X.2.1 hd (kk H locs ls hl hP hS)
theorem v_ior (X : VOk a own cc rm nL) {x y : Int32} (hd : decode cc pc = .ok (.ior, 1)) (kk : V a (pc + 1) lv (.int (x ||| y) :: st) I L) : V a pc lv (.int y :: .int x :: st) I L := fun H locs ls hl hP hS => lv_ior X.1 X.2.1 hd (kk H locs ls hl hP hS)
theorem v_ixor (X : VOk a own cc rm nL) {x y : Int32} (hd : decode cc pc = .ok (.ixor, 1)) (kk : V a (pc + 1) lv (.int (x ^^^ y) :: st) I L) : V a pc lv (.int y :: .int x :: st) I L := fun H locs ls hl hP hS => lv_ixor X.1 X.2.1 hd (kk H locs ls hl hP hS)
theorem v_ladd (X : VOk a own cc rm nL) {x y : Int64} (hd : decode cc pc = .ok (.ladd, 1)) (kk : V a (pc + 1) lv (.long (x + y) :: st) I L) : V a pc lv (.long y :: .long x :: st) I L := fun H locs ls hl hP hS => lv_ladd X.1 X.2.1 hd (kk H locs ls hl hP hS)
theorem v_lsub (X : VOk a own cc rm nL) {x y : Int64} (hd : decode cc pc = .ok (.lsub, 1)) (kk : V a (pc + 1) lv (.long (x - y) :: st) I L) : V a pc lv (.long y :: .long x :: st) I L := fun H locs ls hl hP hS => lv_lsub X.1 X.2.1 hd (kk H locs ls hl hP hS)
theorem v_lmul (X : VOk a own cc rm nL) {x y : Int64} (hd : decode cc pc = .ok (.lmul, 1)) (kk : V a (pc + 1) lv (.long (x * y) :: st) I L) : V a pc lv (.long y :: .long x :: st) I L := fun H locs ls hl hP hS => lv_lmul X.1 X.2.1 hd (kk H locs ls hl hP hS)
theorem v_ishl (X : VOk a own cc rm nL) {x y : Int32} (hd : decode cc pc = .ok (.ishl, 1)) (kk : V a (pc + 1) lv (.int (x <<< (y &&& 31)) :: st) I L) : V a pc lv (.int y :: .int x :: st) I L := fun H locs ls hl hP hS => lv_ishl X.1 X.2.1 hd (kk H locs ls hl hP hS)
theorem v_ishr (X : VOk a own cc rm nL) {x y : Int32} (hd : decode cc pc = .ok (.ishr, 1)) (kk : V a (pc + 1) lv (.int (x >>> (y &&& 31)) :: st) I L) : V a pc lv (.int y :: .int x :: st) I L := fun H locs ls hl hP hS => lv_ishr X.1 X.2.1 hd (kk H locs ls hl hP hS)
theorem v_iushr (X : VOk a own cc rm nL) {x y v : Int32} (hd : decode cc pc = .ok (.iushr, 1)) (hv : (x.toUInt32 >>> (y.toUInt32 &&& Int32.toUInt32 31)).toInt32 = v) (kk : V a (pc + 1) lv (.int v :: st) I L) : V a pc lv (.int y :: .int x :: st) I L := fun H locs ls hl hP hS => lv_iushr X.1 X.2.1 hd hv (kk H locs ls hl hP hS)
theorem v_lneg (X : VOk a own cc rm nL) {x : Int64} (hd : decode cc pc = .ok (.lneg, 1)) (kk : V a (pc + 1) lv (.long (-x) :: st) I L) : V a pc lv (.long x :: st) I L := fun H locs ls hl hP hS => lv_lneg X.1 X.2.1 hd (kk H locs ls hl hP hS)
theorem v_ineg (X : VOk a own cc rm nL) {x : Int32} (hd : decode cc pc = .ok (.ineg, 1)) (kk : V a (pc + 1) lv (.int (-x) :: st) I L) : V a pc lv (.int x :: st) I L := fun H locs ls hl hP hS => lv_ineg X.1 X.2.1 hd (kk H locs ls hl hP hS)
theorem v_i2l (X : VOk a own cc rm nL) {x : Int32} {v : Int64} (hd : decode cc pc = .ok (.i2l, 1)) (hv : x.toInt64 = v) (kk : V a (pc + 1) lv (.long v :: st) I L) : V a pc lv (.int x :: st) I L := fun H locs ls hl hP hS => lv_i2l X.1 X.2.1 hd hv (kk H locs ls hl hP hS)
theorem v_l2i (X : VOk a own cc rm nL) {x : Int64} {v : Int32} (hd : decode cc pc = .ok (.l2i, 1)) (hv : x.toInt32 = v) (kk : V a (pc + 1) lv (.int v :: st) I L) : V a pc lv (.long x :: st) I L := fun H locs ls hl hP hS => lv_l2i X.1 X.2.1 hd hv (kk H locs ls hl hP hS)
theorem v_irem (X : VOk a own cc rm nL) {x y : Int32} (hd : decode cc pc = .ok (.irem, 1)) (hne : ¬ y = 0) (kk : V a (pc + 1) lv (.int (x - x / y * y) :: st) I L) : V a pc lv (.int y :: .int x :: st) I L := fun H locs ls hl hP hS => lv_irem X.1 X.2.1 hd hne (kk H locs ls hl hP hS)
theorem v_lrem (X : VOk a own cc rm nL) {x y : Int64} (hd : decode cc pc = .ok (.lrem, 1)) (hne : ¬ y = 0) (kk : V a (pc + 1) lv (.long (x - x / y * y) :: st) I L) : V a pc lv (.long y :: .long x :: st) I L := fun H locs ls hl hP hS => lv_lrem X.1 X.2.1 hd hne (kk H locs ls hl hP hS)
theorem v_ldiv (X : VOk a own cc rm nL) {x y : Int64} (hd : decode cc pc = .ok (.ldiv, 1)) (hne : ¬ y = 0) (kk : V a (pc + 1) lv (.long (x / y) :: st) I L) : V a pc lv (.long y :: .long x :: st) I L := fun H locs ls hl hP hS => lv_ldiv X.1 X.2.1 hd hne (kk H locs ls hl hP hS)
theorem v_dup (X : VOk a own cc rm nL) {va : Value} (hd : decode cc pc = .ok (.dup, 1)) (hva : va.category = 1) (kk : V a (pc + 1) lv (va :: va :: st) I L) : V a pc lv (va :: st) I L := fun H locs ls hl hP hS => lv_dup X.1 X.2.1 hd hva (kk H locs ls hl hP hS)
theorem v_pop (X : VOk a own cc rm nL) {va : Value} (hd : decode cc pc = .ok (.pop, 1)) (hva : va.category = 1) (kk : V a (pc + 1) lv (st) I L) : V a pc lv (va :: st) I L := fun H locs ls hl hP hS => lv_pop X.1 X.2.1 hd hva (kk H locs ls hl hP hS)
theorem v_dup2_11 (X : VOk a own cc rm nL) {va vb : Value} (hd : decode cc pc = .ok (.dup2, 1)) (hva : va.category = 1) (hvb : vb.category = 1) (kk : V a (pc + 1) lv (va :: vb :: va :: vb :: st) I L) : V a pc lv (va :: vb :: st) I L := fun H locs ls hl hP hS => lv_dup2_11 X.1 X.2.1 hd hva hvb (kk H locs ls hl hP hS)
theorem v_dup2_2 (X : VOk a own cc rm nL) {va : Value} (hd : decode cc pc = .ok (.dup2, 1)) (hva : va.category = 2) (kk : V a (pc + 1) lv (va :: va :: st) I L) : V a pc lv (va :: st) I L := fun H locs ls hl hP hS => lv_dup2_2 X.1 X.2.1 hd hva (kk H locs ls hl hP hS)
theorem v_iconst (X : VOk a own cc rm nL) {n : Int} {v : Int32} (hd : decode cc pc = .ok (.iconst n, 1)) (hv : Int32.ofInt n = v) (kk : V a (pc + 1) lv (.int v :: st) I L) : V a pc lv (st) I L := fun H locs ls hl hP hS => lv_iconst X.1 X.2.1 hd hv (kk H locs ls hl hP hS)
theorem v_bipush (X : VOk a own cc rm nL) {n : Int} {v : Int32} (hd : decode cc pc = .ok (.bipush n, 2)) (hv : (Int8.ofInt n).toInt32 = v) (kk : V a (pc + 2) lv (.int v :: st) I L) : V a pc lv (st) I L := fun H locs ls hl hP hS => lv_bipush X.1 X.2.1 hd hv (kk H locs ls hl hP hS)
theorem v_sipush (X : VOk a own cc rm nL) {n : Int} {v : Int32} (hd : decode cc pc = .ok (.sipush n, 3)) (hv : (Int16.ofInt n).toInt32 = v) (kk : V a (pc + 3) lv (.int v :: st) I L) : V a pc lv (st) I L := fun H locs ls hl hP hS => lv_sipush X.1 X.2.1 hd hv (kk H locs ls hl hP hS)
theorem v_lconst (X : VOk a own cc rm nL) {n : Fin 2} {v : Int64} (hd : decode cc pc = .ok (.lconst n, 1)) (hv : Int64.ofNat (n : Nat) = v) (kk : V a (pc + 1) lv (.long v :: st) I L) : V a pc lv (st) I L := fun H locs ls hl hP hS => lv_lconst X.1 X.2.1 hd hv (kk H locs ls hl hP hS)
theorem v_if_eq (X : VOk a own cc rm nL) {x : Int32} {off : Int} {tgt : Nat} (hd : decode cc pc = .ok (.ifCond .eq off, 3)) (ht : (pc : Int) + off = (tgt : Int)) (kt : x = 0 → V a tgt lv st I L) (kf : ¬ x = 0 → V a (pc + 3) lv st I L) : V a pc lv (.int x :: st) I L := fun H locs ls hl hP hS => lv_if_eq X.1 X.2.1 hd ht (fun h => kt h H locs ls hl hP hS) (fun h => kf h H locs ls hl hP hS)
theorem v_icmp_eq (X : VOk a own cc rm nL) {x y : Int32} {off : Int} {tgt : Nat} (hd : decode cc pc = .ok (.if_icmp .eq off, 3)) (ht : (pc : Int) + off = (tgt : Int)) (kt : x = y → V a tgt lv st I L) (kf : ¬ x = y → V a (pc + 3) lv st I L) : V a pc lv (.int y :: .int x :: st) I L := fun H locs ls hl hP hS => lv_icmp_eq X.1 X.2.1 hd ht (fun h => kt h H locs ls hl hP hS) (fun h => kf h H locs ls hl hP hS)
theorem v_if_ne (X : VOk a own cc rm nL) {x : Int32} {off : Int} {tgt : Nat} (hd : decode cc pc = .ok (.ifCond .ne off, 3)) (ht : (pc : Int) + off = (tgt : Int)) (kt : ¬ x = 0 → V a tgt lv st I L) (kf : x = 0 → V a (pc + 3) lv st I L) : V a pc lv (.int x :: st) I L := fun H locs ls hl hP hS => lv_if_ne X.1 X.2.1 hd ht (fun h => kt h H locs ls hl hP hS) (fun h => kf h H locs ls hl hP hS)
theorem v_icmp_ne (X : VOk a own cc rm nL) {x y : Int32} {off : Int} {tgt : Nat} (hd : decode cc pc = .ok (.if_icmp .ne off, 3)) (ht : (pc : Int) + off = (tgt : Int)) (kt : ¬ x = y → V a tgt lv st I L) (kf : x = y → V a (pc + 3) lv st I L) : V a pc lv (.int y :: .int x :: st) I L := fun H locs ls hl hP hS => lv_icmp_ne X.1 X.2.1 hd ht (fun h => kt h H locs ls hl hP hS) (fun h => kf h H locs ls hl hP hS)
theorem v_if_lt (X : VOk a own cc rm nL) {x : Int32} {off : Int} {tgt : Nat} (hd : decode cc pc = .ok (.ifCond .lt off, 3)) (ht : (pc : Int) + off = (tgt : Int)) (kt : x < 0 → V a tgt lv st I L) (kf : ¬ x < 0 → V a (pc + 3) lv st I L) : V a pc lv (.int x :: st) I L := fun H locs ls hl hP hS => lv_if_lt X.1 X.2.1 hd ht (fun h => kt h H locs ls hl hP hS) (fun h => kf h H locs ls hl hP hS)
theorem v_icmp_lt (X : VOk a own cc rm nL) {x y : Int32} {off : Int} {tgt : Nat} (hd : decode cc pc = .ok (.if_icmp .lt off, 3)) (ht : (pc : Int) + off = (tgt : Int)) (kt : x < y → V a tgt lv st I L) (kf : ¬ x < y → V a (pc + 3) lv st I L) : V a pc lv (.int y :: .int x :: st) I L := fun H locs ls hl hP hS => lv_icmp_lt X.1 X.2.1 hd ht (fun h => kt h H locs ls hl hP hS) (fun h => kf h H locs ls hl hP hS)
theorem v_if_ge (X : VOk a own cc rm nL) {x : Int32} {off : Int} {tgt : Nat} (hd : decode cc pc = .ok (.ifCond .ge off, 3)) (ht : (pc : Int) + off = (tgt : Int)) (kt : 0 ≤ x → V a tgt lv st I L) (kf : ¬ 0 ≤ x → V a (pc + 3) lv st I L) : V a pc lv (.int x :: st) I L := fun H locs ls hl hP hS => lv_if_ge X.1 X.2.1 hd ht (fun h => kt h H locs ls hl hP hS) (fun h => kf h H locs ls hl hP hS)
theorem v_icmp_ge (X : VOk a own cc rm nL) {x y : Int32} {off : Int} {tgt : Nat} (hd : decode cc pc = .ok (.if_icmp .ge off, 3)) (ht : (pc : Int) + off = (tgt : Int)) (kt : y ≤ x → V a tgt lv st I L) (kf : ¬ y ≤ x → V a (pc + 3) lv st I L) : V a pc lv (.int y :: .int x :: st) I L := fun H locs ls hl hP hS => lv_icmp_ge X.1 X.2.1 hd ht (fun h => kt h H locs ls hl hP hS) (fun h => kf h H locs ls hl hP hS)
theorem v_if_gt (X : VOk a own cc rm nL) {x : Int32} {off : Int} {tgt : Nat} (hd : decode cc pc = .ok (.ifCond .gt off, 3)) (ht : (pc : Int) + off = (tgt : Int)) (kt : 0 < x → V a tgt lv st I L) (kf : ¬ 0 < x → V a (pc + 3) lv st I L) : V a pc lv (.int x :: st) I L := fun H locs ls hl hP hS => lv_if_gt X.1 X.2.1 hd ht (fun h => kt h H locs ls hl hP hS) (fun h => kf h H locs ls hl hP hS)
theorem v_icmp_gt (X : VOk a own cc rm nL) {x y : Int32} {off : Int} {tgt : Nat} (hd : decode cc pc = .ok (.if_icmp .gt off, 3)) (ht : (pc : Int) + off = (tgt : Int)) (kt : y < x → V a tgt lv st I L) (kf : ¬ y < x → V a (pc + 3) lv st I L) : V a pc lv (.int y :: .int x :: st) I L := fun H locs ls hl hP hS => lv_icmp_gt X.1 X.2.1 hd ht (fun h => kt h H locs ls hl hP hS) (fun h => kf h H locs ls hl hP hS)
theorem v_if_le (X : VOk a own cc rm nL) {x : Int32} {off : Int} {tgt : Nat} (hd : decode cc pc = .ok (.ifCond .le off, 3)) (ht : (pc : Int) + off = (tgt : Int)) (kt : x ≤ 0 → V a tgt lv st I L) (kf : ¬ x ≤ 0 → V a (pc + 3) lv st I L) : V a pc lv (.int x :: st) I L := fun H locs ls hl hP hS => lv_if_le X.1 X.2.1 hd ht (fun h => kt h H locs ls hl hP hS) (fun h => kf h H locs ls hl hP hS)
theorem v_icmp_le (X : VOk a own cc rm nL) {x y : Int32} {off : Int} {tgt : Nat} (hd : decode cc pc = .ok (.if_icmp .le off, 3)) (ht : (pc : Int) + off = (tgt : Int)) (kt : x ≤ y → V a tgt lv st I L) (kf : ¬ x ≤ y → V a (pc + 3) lv st I L) : V a pc lv (.int y :: .int x :: st) I L := fun H locs ls hl hP hS => lv_icmp_le X.1 X.2.1 hd ht (fun h => kt h H locs ls hl hP hS) (fun h => kf h H locs ls hl hP hS)
theorem v_iload_n (X : VOk a own cc rm nL) (q : Nat) {k : Fin 4} {x : Int32} (hk : lv[q]? = some ((k : Nat), .int x)) (hd : decode cc pc = .ok (.iload_n k, 1)) (kk : V a (pc + 1) lv (.int x :: st) I L) : V a pc lv st I L := fun H locs ls hl hP hS => lv_iload_n X.1 X.2.1 hd rfl (lv_at hl q hk) (kk H locs ls hl hP hS)
theorem v_iload (X : VOk a own cc rm nL) (q : Nat) {i : Nat} {x : Int32} (hk : lv[q]? = some (i, .int x)) (hd : decode cc pc = .ok (.iload i, 2)) (kk : V a (pc + 2) lv (.int x :: st) I L) : V a pc lv st I L := fun H locs ls hl hP hS => lv_iload X.1 X.2.1 hd (lv_at hl q hk) (kk H locs ls hl hP hS)
theorem v_lload_n (X : VOk a own cc rm nL) (q : Nat) {k : Fin 4} {x : Int64} (hk : lv[q]? = some ((k : Nat), .long x)) (hd : decode cc pc = .ok (.lload_n k, 1)) (kk : V a (pc + 1) lv (.long x :: st) I L) : V a pc lv st I L := fun H locs ls hl hP hS => lv_lload_n X.1 X.2.1 hd rfl (lv_at hl q hk) (kk H locs ls hl hP hS)
theorem v_lload (X : VOk a own cc rm nL) (q : Nat) {i : Nat} {x : Int64} (hk : lv[q]? = some (i, .long x)) (hd : decode cc pc = .ok (.lload i, 2)) (kk : V a (pc + 2) lv (.long x :: st) I L) : V a pc lv st I L := fun H locs ls hl hP hS => lv_lload X.1 X.2.1 hd (lv_at hl q hk) (kk H locs ls hl hP hS)
theorem v_aload_n (X : VOk a own cc rm nL) (q : Nat) {k : Fin 4} {x : Nat} (hk : lv[q]? = some ((k : Nat), .ref x)) (hd : decode cc pc = .ok (.aload_n k, 1)) (kk : V a (pc + 1) lv (.ref x :: st) I L) : V a pc lv st I L := fun H locs ls hl hP hS => lv_aload_n X.1 X.2.1 hd rfl (lv_at hl q hk) (kk H locs ls hl hP hS)
theorem v_aload (X : VOk a own cc rm nL) (q : Nat) {i : Nat} {x : Nat} (hk : lv[q]? = some (i, .ref x)) (hd : decode cc pc = .ok (.aload i, 2)) (kk : V a (pc + 2) lv (.ref x :: st) I L) : V a pc lv st I L := fun H locs ls hl hP hS => lv_aload X.1 X.2.1 hd (lv_at hl q hk) (kk H locs ls hl hP hS)
theorem v_aload_nN (X : VOk a own cc rm nL) (q : Nat) {k : Fin 4} (hk : lv[q]? = some ((k : Nat), .null)) (hd : decode cc pc = .ok (.aload_n k, 1)) (kk : V a (pc + 1) lv (.null :: st) I L) : V a pc lv st I L := fun H locs ls hl hP hS => lv_aload_nN X.1 X.2.1 hd rfl (lv_at hl q hk) (kk H locs ls hl hP hS)
theorem v_aloadN (X : VOk a own cc rm nL) (q : Nat) {i : Nat} (hk : lv[q]? = some (i, .null)) (hd : decode cc pc = .ok (.aload i, 2)) (kk : V a (pc + 2) lv (.null :: st) I L) : V a pc lv st I L := fun H locs ls hl hP hS => lv_aloadN X.1 X.2.1 hd (lv_at hl q hk) (kk H locs ls hl hP hS)
theorem v_istore_n (X : VOk a own cc rm nL) (ks : List Nat) {k : Fin 4} {x : Int32} {lv' : List (Nat × Value)} (hn : (k : Nat) < nL) (hl' : lv_pick (((k : Nat), Value.int x) :: lv.filter (fun q => !(q.1 == (k : Nat)) && !(q.1 + 1 == (k : Nat) && q.2.category == 2))) ks = lv') (hd : decode cc pc = .ok (.istore_n k, 1)) (kk : V a (pc + 1) lv' st I L) : V a pc lv (.int x :: st) I L := fun H locs ls hl hP hS => lv_istore_n X.1 X.2.1 hd rfl hl (by rw [X.2.2.1]; exact hn) rfl (fun ls' hl2 => kk H locs ls' (lv_sub hl2 ks hl') hP hS)
theorem v_istore (X : VOk a own cc rm nL) (ks : List Nat) {i : Nat} {x : Int32} {lv' : List (Nat × Value)} (hn : i < nL) (hl' : lv_pick ((i, Value.int x) :: lv.filter (fun q => !(q.1 == i) && !(q.1 + 1 == i && q.2.category == 2))) ks = lv') (hd : decode cc pc = .ok (.istore i, 2)) (kk : V a (pc + 2) lv' st I L) : V a pc lv (.int x :: st) I L := fun H locs ls hl hP hS => lv_istore X.1 X.2.1 hd hl (by rw [X.2.2.1]; exact hn) rfl (fun ls' hl2 => kk H locs ls' (lv_sub hl2 ks hl') hP hS)
theorem v_lstore_n (X : VOk a own cc rm nL) (ks : List Nat) {k : Fin 4} {x : Int64} {lv' : List (Nat × Value)} (hn : (k : Nat) + 1 < nL) (hl' : lv_pick (((k : Nat), Value.long x) :: lv.filter (fun q => !(q.1 == (k : Nat)) && (!(q.1 == (k : Nat) + 1) && !(q.1 + 1 == (k : Nat) && q.2.category == 2)))) ks = lv') (hd : decode cc pc = .ok (.lstore_n k, 1)) (kk : V a (pc + 1) lv' st I L) : V a pc lv (.long x :: st) I L := fun H locs ls hl hP hS => lv_lstore_n X.1 X.2.1 hd rfl hl (by rw [X.2.2.1]; exact hn) rfl (fun ls' hl2 => kk H locs ls' (lv_sub hl2 ks hl') hP hS)
theorem v_lstore (X : VOk a own cc rm nL) (ks : List Nat) {i : Nat} {x : Int64} {lv' : List (Nat × Value)} (hn : i + 1 < nL) (hl' : lv_pick ((i, Value.long x) :: lv.filter (fun q => !(q.1 == i) && (!(q.1 == i + 1) && !(q.1 + 1 == i && q.2.category == 2)))) ks = lv') (hd : decode cc pc = .ok (.lstore i, 2)) (kk : V a (pc + 2) lv' st I L) : V a pc lv (.long x :: st) I L := fun H locs ls hl hP hS => lv_lstore X.1 X.2.1 hd hl (by rw [X.2.2.1]; exact hn) rfl (fun ls' hl2 => kk H locs ls' (lv_sub hl2 ks hl') hP hS)
theorem v_astore_n (X : VOk a own cc rm nL) (ks : List Nat) {k : Fin 4} {x : Nat} {lv' : List (Nat × Value)} (hn : (k : Nat) < nL) (hl' : lv_pick (((k : Nat), Value.ref x) :: lv.filter (fun q => !(q.1 == (k : Nat)) && !(q.1 + 1 == (k : Nat) && q.2.category == 2))) ks = lv') (hd : decode cc pc = .ok (.astore_n k, 1)) (kk : V a (pc + 1) lv' st I L) : V a pc lv (.ref x :: st) I L := fun H locs ls hl hP hS => lv_astore_n X.1 X.2.1 hd rfl hl (by rw [X.2.2.1]; exact hn) rfl (fun ls' hl2 => kk H locs ls' (lv_sub hl2 ks hl') hP hS)
theorem v_astore (X : VOk a own cc rm nL) (ks : List Nat) {i : Nat} {x : Nat} {lv' : List (Nat × Value)} (hn : i < nL) (hl' : lv_pick ((i, Value.ref x) :: lv.filter (fun q => !(q.1 == i) && !(q.1 + 1 == i && q.2.category == 2))) ks = lv') (hd : decode cc pc = .ok (.astore i, 2)) (kk : V a (pc + 2) lv' st I L) : V a pc lv (.ref x :: st) I L := fun H locs ls hl hP hS => lv_astore X.1 X.2.1 hd hl (by rw [X.2.2.1]; exact hn) rfl (fun ls' hl2 => kk H locs ls' (lv_sub hl2 ks hl') hP hS)
theorem v_astore_nN (X : VOk a own cc rm nL) (ks : List Nat) {k : Fin 4} {lv' : List (Nat × Value)} (hn : (k : Nat) < nL) (hl' : lv_pick (((k : Nat), Value.null) :: lv.filter (fun q => !(q.1 == (k : Nat)) && !(q.1 + 1 == (k : Nat) && q.2.category == 2))) ks = lv') (hd : decode cc pc = .ok (.astore_n k, 1)) (kk : V a (pc + 1) lv' st I L) : V a pc lv (.null :: st) I L := fun H locs ls hl hP hS => lv_astore_nN X.1 X.2.1 hd rfl hl (by rw [X.2.2.1]; exact hn) rfl (fun ls' hl2 => kk H locs ls' (lv_sub hl2 ks hl') hP hS)
theorem v_astoreN (X : VOk a own cc rm nL) (ks : List Nat) {i : Nat} {lv' : List (Nat × Value)} (hn : i < nL) (hl' : lv_pick ((i, Value.null) :: lv.filter (fun q => !(q.1 == i) && !(q.1 + 1 == i && q.2.category == 2))) ks = lv') (hd : decode cc pc = .ok (.astore i, 2)) (kk : V a (pc + 2) lv' st I L) : V a pc lv (.null :: st) I L := fun H locs ls hl hP hS => lv_astoreN X.1 X.2.1 hd hl (by rw [X.2.2.1]; exact hn) rfl (fun ls' hl2 => kk H locs ls' (lv_sub hl2 ks hl') hP hS)
theorem v_iinc (X : VOk a own cc rm nL) (ks : List Nat) (q : Nat) {i : Nat} {n : Int} {x : Int32} (v : Int32) {lv' : List (Nat × Value)} (hk : lv[q]? = some (i, .int x)) (hv : x + Int32.ofInt n = v) (hn : i < nL) (hl' : lv_pick ((i, Value.int v) :: lv.filter (fun q => !(q.1 == i) && !(q.1 + 1 == i && q.2.category == 2))) ks = lv') (hd : decode cc pc = .ok (.iinc i n, 3)) (kk : V a (pc + 3) lv' st I L) : V a pc lv st I L := fun H locs ls hl hP hS => lv_iinc X.1 X.2.1 hd hl hk hv (by rw [X.2.2.1]; exact hn) rfl (fun ls' hl2 => kk H locs ls' (lv_sub hl2 ks hl') hP hS)
theorem v_goto (X : VOk a own cc rm nL) {off : Int} {tgt : Nat} (hd : decode cc pc = .ok (.goto off, 3)) (ht : (pc : Int) + off = (tgt : Int)) (kk : V a tgt lv st I L) : V a pc lv st I L := fun H locs ls hl hP hS => lv_goto X.1 X.2.1 hd ht (kk H locs ls hl hP hS)
theorem v_null (X : VOk a own cc rm nL) (hd : decode cc pc = .ok (.aconst_null, 1)) (kk : V a (pc + 1) lv (.null :: st) I L) : V a pc lv st I L := fun H locs ls hl hP hS => lv_null X.1 X.2.1 hd (kk H locs ls hl hP hS)
theorem v_ifnull (X : VOk a own cc rm nL) {x : Nat} {off : Int} (hd : decode cc pc = .ok (.ifnull off, 3)) (kk : V a (pc + 3) lv st I L) : V a pc lv (.ref x :: st) I L := fun H locs ls hl hP hS => lv_ifnull X.1 X.2.1 hd (kk H locs ls hl hP hS)
theorem v_ifnullN (X : VOk a own cc rm nL) {off : Int} {tgt : Nat} (hd : decode cc pc = .ok (.ifnull off, 3)) (ht : (pc : Int) + off = (tgt : Int)) (kk : V a tgt lv st I L) : V a pc lv (.null :: st) I L := fun H locs ls hl hP hS => lv_ifnullN X.1 X.2.1 hd ht (kk H locs ls hl hP hS)
theorem v_ifnonnull (X : VOk a own cc rm nL) {x : Nat} {off : Int} {tgt : Nat} (hd : decode cc pc = .ok (.ifnonnull off, 3)) (ht : (pc : Int) + off = (tgt : Int)) (kk : V a tgt lv st I L) : V a pc lv (.ref x :: st) I L := fun H locs ls hl hP hS => lv_ifnonnull X.1 X.2.1 hd ht (kk H locs ls hl hP hS)
theorem v_ifnonnullN (X : VOk a own cc rm nL) {off : Int} (hd : decode cc pc = .ok (.ifnonnull off, 3)) (kk : V a (pc + 3) lv st I L) : V a pc lv (.null :: st) I L := fun H locs ls hl hP hS => lv_ifnonnullN X.1 X.2.1 hd (kk H locs ls hl hP hS)
theorem v_lcmp (X : VOk a own cc rm nL) {x y : Int64} (hd : decode cc pc = .ok (.lcmp, 1)) (kk : V a (pc + 1) lv (.int (lg_cmp x y) :: st) I L) : V a pc lv (.long y :: .long x :: st) I L := fun H locs ls hl hP hS => W.lcmp X.1 X.2.1 hd (kk H locs ls hl hP hS)
theorem v_ldc (X : VOk a own cc rm nL) {index : Nat} {v : Int32} (hw : Cond.constant own index v ∈ WS) (hd : decode cc pc = .ok (.ldc index, 2)) (k : V a (pc + 2) lv (.int v :: st) I L) : V a pc lv st I L := fun H locs ls hl hP hS => lv_ldc X.1 X.2.1 X.2.2.2.1 (X.2.2.2.2.1 _ hw) hd (k H locs ls hl hP hS)
theorem v_ldcw (X : VOk a own cc rm nL) {index : Nat} {v : Int32} (hw : Cond.constant own index v ∈ WS) (hd : decode cc pc = .ok (.ldc_w index, 3)) (k : V a (pc + 3) lv (.int v :: st) I L) : V a pc lv st I L := fun H locs ls hl hP hS => lv_ldcw X.1 X.2.1 X.2.2.2.1 (X.2.2.2.2.1 _ hw) hd (k H locs ls hl hP hS)
theorem v_ldc2 (X : VOk a own cc rm nL) {index : Nat} {v : Int64} (hw : Cond.constantLong own index v ∈ WS) (hd : decode cc pc = .ok (.ldc2_w index, 3)) (k : V a (pc + 3) lv (.long v :: st) I L) : V a pc lv st I L := fun H locs ls hl hP hS => lv_ldc2 X.1 X.2.1 X.2.2.2.1 (X.2.2.2.2.1 _ hw) hd (k H locs ls hl hP hS)
theorem v_tableIn (X : VOk a own cc rm nL) {dflt lo hi : Int} {offs : Array Int} {len : Nat} {x : Int32} {off : Int} {tgt : Nat} (hd : decode cc pc = .ok (.tableswitch dflt lo hi offs, len)) (h1 : ¬ x.toInt < lo) (h2 : ¬ hi < x.toInt) (ho : offs[(x.toInt - lo).toNat]? = some off) (ht : (pc : Int) + off = (tgt : Int)) (k : V a tgt lv st I L) : V a pc lv (.int x :: st) I L := fun H locs ls hl hP hS => lv_tableIn X.1 X.2.1 hd h1 h2 ho ht (k H locs ls hl hP hS)
theorem v_tableOut (X : VOk a own cc rm nL) {dflt lo hi : Int} {offs : Array Int} {len : Nat} {x : Int32} {tgt : Nat} (hd : decode cc pc = .ok (.tableswitch dflt lo hi offs, len)) (h : x.toInt < lo ∨ hi < x.toInt) (ht : (pc : Int) + dflt = (tgt : Int)) (k : V a tgt lv st I L) : V a pc lv (.int x :: st) I L := fun H locs ls hl hP hS => lv_tableOut X.1 X.2.1 hd h ht (k H locs ls hl hP hS)
/-! fields -/
theorem v_getf (X : VOk a own cc rm nL) {k j ci N index slot : Nat} {C : String} {T : u_T} {fs : List Value} {v : Value} (hdom : (k, j) ∈ DL) (hce : cef (vE a) k j (I k j) (L k j) = .inr (ci, fs)) (hc : vwCl[ci]? = some (C, T, N)) (hin : ∀ w ∈ u_ws C T N, w ∈ WS) (hk : slot < N) (hw : Cond.fieldLink own index (T slot).1 (T slot).2.1 (T slot).2.2.1 ∈ WS) (hv : fs[slot]? = some v) (hd : decode cc pc = .ok (.getfield index, 3)) (kk : V a (pc + 3) lv (v :: st) I L) : V a pc lv (.ref (eA (vE a) k j) :: st) I L := by
  intro H locs ls hl hP hS
  obtain ⟨q0, -, h1⟩ := wl_at hdom
  have he := h1 (vE a) I L
  rw [hce] at he
  exact va_get X.1 X.2.1 X.2.2.2.2.1 hin X.2.2.2.1 X.2.2.2.2.2.2.1 hP q0 he hc slot hk (X.2.2.2.2.1 _ hw) (fun _ h => h) hv hd (kk H locs ls hl hP hS)
theorem v_getfN (X : VOk a own cc rm nL) {k j ci N index slot : Nat} {C host : String} {T : u_T} {fs : List Value} {v : Value} (hdom : (k, j) ∈ DL) (hce : cef (vE a) k j (I k j) (L k j) = .inr (ci, fs)) (hc : vwCl[ci]? = some (C, T, N)) (hin : ∀ w ∈ u_ws C T N, w ∈ WS) (hk : slot < N) {q : String × Nat × String × String × String × String} (hq : q ∈ nwF) (hw : q = (own, index, (T slot).1, (T slot).2.1, (T slot).2.2.1, host)) (hv : fs[slot]? = some v) (hd : decode cc pc = .ok (.getfield index, 3)) (kk : V a (pc + 3) lv (v :: st) I L) : V a pc lv (.ref (eA (vE a) k j) :: st) I L := by
  intro H locs ls hl hP hS
  obtain ⟨q0, -, h1⟩ := wl_at hdom
  have he := h1 (vE a) I L
  rw [hce] at he
  subst hw
  exact va_getN X.1 X.2.1 X.2.2.2.2.1 hin X.2.2.2.1 X.2.2.2.2.2.2.1 hP q0 he hc slot hk (va_Nw.use rfl (X.2.2.2.2.2.1.1 _ hq)) (fun _ h => h) hv hd (kk H locs ls hl hP hS)
theorem v_putf (X : VOk a own cc rm nL) {k j ci N index slot : Nat} {C : String} {T : u_T} {fs : List Value} {v : Value} {I' : TI} {L' : TL} (hdom : (k, j) ∈ DL) (hce : cef (vE a) k j (I k j) (L k j) = .inr (ci, fs)) (hc : vwCl[ci]? = some (C, T, N)) (hin : ∀ w ∈ u_ws C T N, w ∈ WS) (ty0 : Nat → FieldType) (hty : ∀ k, k < N → parseFieldDescriptor (T k).2.2.1 = some (ty0 k)) (hnm : ∀ a, a < N → ∀ b, b < N → a ≠ b → (T a).2.1 ≠ (T b).2.1) (hk : slot < N) (hw : Cond.fieldLink own index (T slot).1 (T slot).2.1 (T slot).2.2.1 ∈ WS) (hfin : (T slot).2.2.2 = false) {ty : FieldType} (hpd : parseFieldDescriptor (T slot).2.2.1 = some ty) (hn : narrow ty v = v) (hfit : fits ty v = true) (hlen : slot < fs.length)
    (hce' : cef (vE a) k j (I' k j) (L' k j) = .inr (ci, fs.set slot v)) (hI : ∀ k' j', (k', j') ≠ (k, j) → I' k' j' = I k' j') (hL : ∀ k' j', (k', j') ≠ (k, j) → L' k' j' = L k' j') (hd : decode cc pc = .ok (.putfield index, 3)) (kk : V a (pc + 3) lv st I' L') : V a pc lv (v :: .ref (eA (vE a) k j) :: st) I L := by
  intro H locs ls hl hP hS
  obtain ⟨q0, h0, h1⟩ := wl_at hdom
  have he := h1 (vE a) I L
  rw [hce] at he
  refine va_put X.1 X.2.1 X.2.2.2.2.1 hin ty0 hty hnm X.2.2.2.1 X.2.2.2.2.2.2.1 hP (X.2.2.2.2.2.2.2.1 I L) hS q0 he hc slot hk (X.2.2.2.2.1 _ hw) (fun _ h => h) hfin hpd hn hfit hlen hd (fun H1 locs1 hP1 _ hS1 => ?_)
  rw [← hce', wl_set h0 hI hL] at hP1
  exact kk H1 locs1 ls hl hP1 hS1
theorem v_putfN (X : VOk a own cc rm nL) {k j ci N index slot : Nat} {C host : String} {T : u_T} {fs : List Value} {v : Value} {I' : TI} {L' : TL} (hdom : (k, j) ∈ DL) (hce : cef (vE a) k j (I k j) (L k j) = .inr (ci, fs)) (hc : vwCl[ci]? = some (C, T, N)) (hin : ∀ w ∈ u_ws C T N, w ∈ WS) (ty0 : Nat → FieldType) (hty : ∀ k, k < N → parseFieldDescriptor (T k).2.2.1 = some (ty0 k)) (hnm : ∀ a, a < N → ∀ b, b < N → a ≠ b → (T a).2.1 ≠ (T b).2.1) (hk : slot < N) {q : String × Nat × String × String × String × String} (hq : q ∈ nwF) (hw : q = (own, index, (T slot).1, (T slot).2.1, (T slot).2.2.1, host)) (hfin : (T slot).2.2.2 = false) {ty : FieldType} (hpd : parseFieldDescriptor (T slot).2.2.1 = some ty) (hn : narrow ty v = v) (hfit : fits ty v = true) (hlen : slot < fs.length)
    (hce' : cef (vE a) k j (I' k j) (L' k j) = .inr (ci, fs.set slot v)) (hI : ∀ k' j', (k', j') ≠ (k, j) → I' k' j' = I k' j') (hL : ∀ k' j', (k', j') ≠ (k, j) → L' k' j' = L k' j') (hd : decode cc pc = .ok (.putfield index, 3)) (kk : V a (pc + 3) lv st I' L') : V a pc lv (v :: .ref (eA (vE a) k j) :: st) I L := by
  intro H locs ls hl hP hS
  obtain ⟨q0, h0, h1⟩ := wl_at hdom
  have he := h1 (vE a) I L
  rw [hce] at he
  subst hw
  refine va_putN X.1 X.2.1 X.2.2.2.2.1 hin ty0 hty hnm X.2.2.2.1 X.2.2.2.2.2.2.1 hP (X.2.2.2.2.2.2.2.1 I L) hS q0 he hc slot hk (va_Nw.use rfl (X.2.2.2.2.2.1.1 _ hq)) (fun _ h => h) hfin hpd hn hfit hlen hd (fun H1 locs1 hP1 _ hS1 => ?_)
  rw [← hce', wl_set h0 hI hL] at hP1
  exact kk H1 locs1 ls hl hP1 hS1
/-! arrays -/
theorem v_iald (X : VOk a own cc rm nL) {k j n : Nat} (hdom : (k, j) ∈ DL) (hce : ∀ f g, cef (vE a) k j f g = .inl (eC (vE a) 0, n, .inl f)) {i : Int32} (hi : vp_in i n) (hd : decode cc pc = .ok (.iaload, 1)) (kk : V a (pc + 1) lv (.int (I k j i.toNatClampNeg) :: st) I L) : V a pc lv (.int i :: .ref (eA (vE a) k j) :: st) I L := by
  intro H locs ls hl hP hS
  obtain ⟨q0, -, h1⟩ := wl_at hdom
  have he := h1 (vE a) I L
  rw [hce] at he
  exact va_iald X.1 X.2.1 X.2.2.2.2.2.2.1 hP q0 0 he rfl hi hd (kk H locs ls hl hP hS)
theorem v_lald (X : VOk a own cc rm nL) {k j n : Nat} (hdom : (k, j) ∈ DL) (hce : ∀ f g, cef (vE a) k j f g = .inl (eC (vE a) 1, n, .inr (.inl g))) {i : Int32} (hi : vp_in i n) (hd : decode cc pc = .ok (.laload, 1)) (kk : V a (pc + 1) lv (.long (L k j i.toNatClampNeg) :: st) I L) : V a pc lv (.int i :: .ref (eA (vE a) k j) :: st) I L := by
  intro H locs ls hl hP hS
  obtain ⟨q0, -, h1⟩ := wl_at hdom
  have he := h1 (vE a) I L
  rw [hce] at he
  exact va_lald X.1 X.2.1 X.2.2.2.2.2.2.1 hP q0 1 he rfl hi hd (kk H locs ls hl hP hS)
theorem v_iast (X : VOk a own cc rm nL) {k j n : Nat} (hdom : (k, j) ∈ DL) (hce : ∀ f g, cef (vE a) k j f g = .inl (eC (vE a) 0, n, .inl f)) {i x : Int32} (hi : vp_in i n) (hd : decode cc pc = .ok (.iastore, 1)) (kk : V a (pc + 1) lv st (upI I k j i.toNatClampNeg x) L) : V a pc lv (.int x :: .int i :: .ref (eA (vE a) k j) :: st) I L := by
  intro H locs ls hl hP hS
  obtain ⟨q0, h0, h1⟩ := wl_at hdom
  have he := h1 (vE a) I L
  rw [hce] at he
  refine va_iast X.1 X.2.1 X.2.2.2.2.2.2.1 hP (X.2.2.2.2.2.2.2.1 I L) hS q0 0 he rfl hi hd (fun H1 locs1 hP1 _ hS1 => ?_)
  rw [← upI_row, ← hce _ (L k j), wl_set h0 (fun k' j' h => upI_off I k j _ x h) (fun _ _ _ => rfl)] at hP1
  exact kk H1 locs1 ls hl hP1 hS1
theorem v_last (X : VOk a own cc rm nL) {k j n : Nat} (hdom : (k, j) ∈ DL) (hce : ∀ f g, cef (vE a) k j f g = .inl (eC (vE a) 1, n, .inr (.inl g))) {i : Int32} {x : Int64} (hi : vp_in i n) (hd : decode cc pc = .ok (.lastore, 1)) (kk : V a (pc + 1) lv st I (upL L k j i.toNatClampNeg x)) : V a pc lv (.long x :: .int i :: .ref (eA (vE a) k j) :: st) I L := by
  intro H locs ls hl hP hS
  obtain ⟨q0, h0, h1⟩ := wl_at hdom
  have he := h1 (vE a) I L
  rw [hce] at he
  refine va_last X.1 X.2.1 X.2.2.2.2.2.2.1 hP (X.2.2.2.2.2.2.2.1 I L) hS q0 1 he rfl hi hd (fun H1 locs1 hP1 _ hS1 => ?_)
  rw [← upL_row, ← hce (I k j) _, wl_set h0 (fun _ _ _ => rfl) (fun k' j' h => upL_off L k j _ x h)] at hP1
  exact kk H1 locs1 ls hl hP1 hS1
theorem v_aaldG (X : VOk a own cc rm nL) {i : Int32} (hi : vp_in i 12) (hd : decode cc pc = .ok (.aaload, 1)) (kk : V a (pc + 1) lv (.ref (eA (vE a) 2 i.toNatClampNeg) :: st) I L) : V a pc lv (.int i :: .ref (eA (vE a) 1 0) :: st) I L := by
  intro H locs ls hl hP hS
  obtain ⟨q0, -, h1⟩ := wl_at dl_1
  exact va_aldq (C := "WellTables$Grid") X.1 X.2.1 X.2.2.2.2.2.2.1 hP q0 2 (h1 (vE a) I L) rfl hi hd (kk H locs ls hl hP hS)
theorem v_aaldW (X : VOk a own cc rm nL) {i : Int32} (hi : vp_in i 4) (hd : decode cc pc = .ok (.aaload, 1)) (kk : V a (pc + 1) lv (.ref (eA (vE a) 5 i.toNatClampNeg) :: st) I L) : V a pc lv (.int i :: .ref (eA (vE a) 4 0) :: st) I L := by
  intro H locs ls hl hP hS
  obtain ⟨q0, -, h1⟩ := wl_at dl_4
  exact va_aldq (C := "WellTables$Web") X.1 X.2.1 X.2.2.2.2.2.2.1 hP q0 3 (h1 (vE a) I L) rfl hi hd (kk H locs ls hl hP hS)
theorem v_aleni (X : VOk a own cc rm nL) {k j n : Nat} (hdom : (k, j) ∈ DL) (hce : ∀ f g, cef (vE a) k j f g = .inl (eC (vE a) 0, n, .inl f)) {v : Int32} (hv : Int32.ofNat n = v) (hd : decode cc pc = .ok (.arraylength, 1)) (kk : V a (pc + 1) lv (.int v :: st) I L) : V a pc lv (.ref (eA (vE a) k j) :: st) I L := by
  intro H locs ls hl hP hS
  obtain ⟨q0, -, h1⟩ := wl_at hdom
  have he := h1 (vE a) I L
  rw [hce] at he
  exact va_alen X.1 X.2.1 X.2.2.2.2.2.2.1 hP q0 0 he rfl hv hd (kk H locs ls hl hP hS)
/-! ends -/
theorem v_iret {Post : Option Value → TI → TL → Prop} (X : VOk a own cc rm nL) (Y : VRet a (some .int) Post) {v : Int32} (hd : decode cc pc = .ok (.ireturn, 1)) (hp : Post (some (.int v)) I L) : V a pc lv [.int v] I L := by
  intro H locs ls hl hP hS
  show W _ _ _ _ _ _ _ _ _ _ _ _ _ _ (vQ a) _
  rw [Y.2.2]
  exact W.iret X.1 X.2.1 Y.1 (fun t ht _ => ⟨⟨_, I, L, rfl, hp, by rw [ht]; exact hP⟩, hS.F ht⟩) hS.2.2 hd Y.2.1
theorem v_zret {Post : Option Value → TI → TL → Prop} (X : VOk a own cc rm nL) (Y : VRet a (some .boolean) Post) {v : Int32} (hn : narrow .boolean (.int v) = .int v) (hd : decode cc pc = .ok (.ireturn, 1)) (hp : Post (some (.int v)) I L) : V a pc lv [.int v] I L := by
  intro H locs ls hl hP hS
  show W _ _ _ _ _ _ _ _ _ _ _ _ _ _ (vQ a) _
  rw [Y.2.2]
  exact W.zret X.1 X.2.1 Y.1 hn (fun t ht _ => ⟨⟨_, I, L, rfl, hp, by rw [ht]; exact hP⟩, hS.F ht⟩) hS.2.2 hd Y.2.1
theorem v_lret {Post : Option Value → TI → TL → Prop} (X : VOk a own cc rm nL) (Y : VRet a (some .long) Post) {v : Int64} (hd : decode cc pc = .ok (.lreturn, 1)) (hp : Post (some (.long v)) I L) : V a pc lv [.long v] I L := by
  intro H locs ls hl hP hS
  show W _ _ _ _ _ _ _ _ _ _ _ _ _ _ (vQ a) _
  rw [Y.2.2]
  exact W.lret X.1 X.2.1 Y.1 (fun t ht _ => ⟨⟨_, I, L, rfl, hp, by rw [ht]; exact hP⟩, hS.F ht⟩) hS.2.2 hd Y.2.1
theorem v_vret {Post : Option Value → TI → TL → Prop} (X : VOk a own cc rm nL) (Y : VRet a none Post) (hd : decode cc pc = .ok (.return_, 1)) (hp : Post none I L) : V a pc lv [] I L := by
  intro H locs ls hl hP hS
  show W _ _ _ _ _ _ _ _ _ _ _ _ _ _ (vQ a) _
  rw [Y.2.2]
  exact W.vret X.1 X.2.1 Y.1 (fun t ht _ => ⟨⟨_, I, L, rfl, hp, by rw [ht]; exact hP⟩, hS.F ht⟩) hS.2.2 hd Y.2.1
theorem v_aret {Post : Option Value → TI → TL → Prop} (X : VOk a own cc rm nL) {n : String} (Y : VRet a (some (.object n)) Post) {v : Value} (hv : v = .null ∨ ∃ q, v = .ref q) (hd : decode cc pc = .ok (.areturn, 1)) (hp : Post (some v) I L) : V a pc lv [v] I L := by
  intro H locs ls hl hP hS
  show W _ _ _ _ _ _ _ _ _ _ _ _ _ _ (vQ a) _
  rw [Y.2.2]
  exact W.aret X.1 X.2.1 Y.1 (Or.inl ⟨_, rfl⟩) hv (fun t ht _ => ⟨⟨_, I, L, rfl, hp, by rw [ht]; exact hP⟩, hS.F ht⟩) hS.2.2 hd Y.2.1
/-! calls -/
def CkB (own : String) (index : Nat) (y : MethodName) (b : ByteArray) (maxL : Nat) (ret : Option FieldType) (n : Nat) : Prop :=
  Cond.methodLink own index y ∈ WS ∧ Cond.initialized y.cls ∈ WS ∧ Cond.code y b maxL ret ∈ WS ∧ (y.cls ≠ "java/lang/invoke/MethodHandle" ∧ y.cls ≠ "java/lang/invoke/VarHandle" ∧ (parseMethodDescriptor y.desc).map (fun d => d.parameters.length) = some n)
def CkV (own : String) (index : Nat) (y : MethodName) (b : ByteArray) (maxL : Nat) (ret : Option FieldType) (n : Nat) : Prop := CkB own index y b maxL ret n ∧ Cond.instanceMethod y ∈ WS ∧ Cond.selects y.cls y y ∈ WS
def CkS (own : String) (index : Nat) (y : MethodName) (b : ByteArray) (maxL : Nat) (ret : Option FieldType) (n : Nat) : Prop := CkB own index y b maxL ret n ∧ Cond.static y ∈ WS
def CkN (own : String) (index : Nat) (y : MethodName) (b : ByteArray) (maxL : Nat) (ret : Option FieldType) (n : Nat) : Prop :=
  (∃ host : String, (own, index, y, host) ∈ nwM) ∧ Cond.initialized y.cls ∈ WS ∧ Cond.code y b maxL ret ∈ WS ∧ (y.cls ≠ "java/lang/invoke/MethodHandle" ∧ y.cls ≠ "java/lang/invoke/VarHandle" ∧ (parseMethodDescriptor y.desc).map (fun d => d.parameters.length) = some n) ∧ Cond.static y ∈ WS
def RmOk (rmc : Room) (maxL : Nat) (rm : Room) : Prop := rmc.cells = 0 ∧ rmc.slots = 0 ∧ rmc.frames + 1 ≤ rm.frames ∧ 8 + (maxL + 11) + rmc.locals ≤ rm.locals
theorem ws_call {y : MethodName} {b : ByteArray} {maxL : Nat} {ret : Option FieldType} (h : Cond.code y b maxL ret ∈ WS) : GoodIn WS (.code y b maxL ret :: WS) := fun w hw => by
  rcases List.mem_cons.mp hw with rfl | hw
  · exact ws_good _ h
  · exact ws_good _ hw
theorem v_run {y : MethodName} {rest st0 : List Value} {Post : Option Value → TI → TL → Prop} {H : Heap} {locs : List Loc} {ls : Array Slot} {as : Array Value}
    (hr : va_Run (vp a) (vl a) (ve a) (vR a) (vs a) (vm a) (vargs a) (vbelow a) (vmeth a) (vc a) H locs (vcl a) (vsl a) 0 0 (F0 (vm a) pc ls st0) rest (QQ (vE a) Post as) (eF (vE a))) (hS : va_S (eF (vE a)) (vs a).heap H locs) (hl : lv_has ls (vc a).maxLocals lv)
    (kk : ∀ (r : Option Value) (I' : TI) (L' : TL), Post r I' L' → V a (pc + 3) lv (r.toList ++ rest) I' L') : VW a H locs (F0 (vm a) pc ls st0) := by
  intro T hT X
  obtain ⟨v, st₀, t, T', L, h0, X', hL, e1, e2, ⟨⟨r, I', L', hv, hp, hb⟩, hz, hk⟩, st⟩ := hr T hT X
  cases hv
  rw [h0] at hz hk
  rw [← e1] at hz hk hb
  obtain ⟨t2, a1, b1⟩ := kk _ I' L' hp T'.heap (locs ++ L) ls hl hb ⟨Nat.le_trans hS.1 hz, fun q h1 h2 => by rw [hk q (Nat.lt_of_lt_of_le h1 hS.1) h2]; exact hS.2.1 q h1 h2, fun q hq => by
      rcases List.mem_append.mp hq with h | h
      · exact hS.2.2 q h
      · exact hL q h⟩ T' rfl X'
  exact ⟨t2, st t2 a1, b1⟩
theorem ct_blind {E : VE} {I : TI} {L : TL} {args : List Value} : FrameBlind (va_Pc args (fun U => va_P E.1 vwCl (wl E I L) U.heap ∧ va_K E.1 vwCl (ve_tys E) U ∧ NWok U)) := fun v U g mk q => by
  obtain ⟨q0, qP, qK, qN⟩ := q
  exact ⟨q0, qP, va_K.moved (u := U) (U := U.calling g mk v) (Vm.Alike.refl U.vm) qK, NWok.same (u := U) (U := U.calling g mk v) rfl qN⟩
theorem ct_pre (X : VOk a own cc rm nL) {H : Heap} {args : List Value} (hP : va_P (vE a).1 vwCl (wl (vE a) I L) H) : ∀ U : State, U.heap = H → (vs a).WarmedH U.vm → va_Pc args (fun U => va_P (vE a).1 vwCl (wl (vE a) I L) U.heap ∧ va_K (vE a).1 vwCl (ve_tys (vE a)) U ∧ NWok U) args.toArray U := fun U hU hW =>
  ⟨rfl, by rw [hU]; exact hP, va_K.moved hW.alike X.2.2.2.2.2.2.1, X.2.2.2.2.2.1.warm hW⟩
theorem ck_callB (X : VOk a own cc rm nL) {y : MethodName} {b : ByteArray} {maxL : Nat} {ret : Option FieldType} {n index : Nat} {rmc : Room} (hk : CkB own index y b maxL ret n) (hR : RmOk rmc maxL rm) : CallB (vR a) (vs a) (vargs a) own index y b maxL ret (.code y b maxL ret :: WS) rmc 0 0 n :=
  callB_of n X.2.2.2.2.1 (ws_call hk.2.2.1) rfl hR.1 hR.2.1 (X.2.2.2.2.1 _ hk.2.1) (X.2.2.2.2.1 _ hk.1) hk.2.2.2 (by rw [X.2.2.2.2.2.2.2.2.1]; exact hR.2.2)
theorem v_callV {y : MethodName} {b : ByteArray} {maxL : Nat} {ret : Option FieldType} {n index : Nat} {rmc : Room} {rest As : List Value} {Post : Option Value → TI → TL → Prop} {k j ci N : Nat} {T : u_T} {fs : List Value} (X : VOk a own cc rm nL)
    (hM : Ct (vl a) (vE a) y b maxL ret rmc (.ref (eA (vE a) k j) :: As) I L Post) (hk : CkV own index y b maxL ret n) (hdom : (k, j) ∈ DL) (hce : cef (vE a) k j (I k j) (L k j) = .inr (ci, fs)) (hc : vwCl[ci]? = some (y.cls, T, N)) (hR : RmOk rmc maxL rm)
    (hn : As.length = n) (hst : st = As.reverse ++ .ref (eA (vE a) k j) :: rest) (hroom : (rest.map fun v => v.category).sum ≤ 8) (hd : decode cc pc = .ok (.invokevirtual index, 3))
    (kk : ∀ (r : Option Value) (I' : TI) (L' : TL), Post r I' L' → V a (pc + 3) lv (r.toList ++ rest) I' L') : V a pc lv st I L := by
  intro H locs ls hl hP hS
  obtain ⟨q0, -, h1⟩ := wl_at hdom
  have he := h1 (vE a) I L
  rw [hce] at he
  exact v_run (y := y) (va_runV ⟨X.1, X.2.1, X.2.2.1, X.2.2.2.1, X.2.2.2.2.1⟩ hM ⟨ck_callB X hk.1 hR, X.2.2.2.2.1 _ hk.2.1, X.2.2.2.2.1 _ hk.2.2⟩ ⟨ct_blind, va_recv X.2.2.2.2.2.2.1 hP hc he, ct_pre X hP⟩ rfl hn (by rw [← X.2.2.1]; exact hl.1) hst (lv_room hroom) hd ⟨by rw [X.2.2.2.2.2.2.2.2.1]; exact X.2.2.2.2.2.2.2.2.2.1, by rw [X.2.2.2.2.2.2.2.2.1]; exact X.2.2.2.2.2.2.2.2.2.2⟩) hS hl kk
theorem v_callS {y : MethodName} {b : ByteArray} {maxL : Nat} {ret : Option FieldType} {n index : Nat} {rmc : Room} {rest As : List Value} {Post : Option Value → TI → TL → Prop} (X : VOk a own cc rm nL)
    (hM : Ct (vl a) (vE a) y b maxL ret rmc As I L Post) (hk : CkS own index y b maxL ret n) (hR : RmOk rmc maxL rm)
    (hn : As.length = n) (hst : st = As.reverse ++ rest) (hroom : (rest.map fun v => v.category).sum ≤ 8) (hd : decode cc pc = .ok (.invokestatic index, 3))
    (kk : ∀ (r : Option Value) (I' : TI) (L' : TL), Post r I' L' → V a (pc + 3) lv (r.toList ++ rest) I' L') : V a pc lv st I L := by
  intro H locs ls hl hP hS
  exact v_run (y := y) (va_runS ⟨X.1, X.2.1, X.2.2.1, X.2.2.2.1, X.2.2.2.2.1⟩ hM ⟨ck_callB X hk.1 hR, X.2.2.2.2.1 _ hk.2⟩ ⟨ct_blind, ct_pre X hP⟩ rfl hn (by rw [← X.2.2.1]; exact hl.1) hst (lv_room hroom) hd ⟨by rw [X.2.2.2.2.2.2.2.2.1]; exact X.2.2.2.2.2.2.2.2.2.1, by rw [X.2.2.2.2.2.2.2.2.1]; exact X.2.2.2.2.2.2.2.2.2.2⟩) hS hl kk
theorem v_callN {y : MethodName} {b : ByteArray} {maxL : Nat} {ret : Option FieldType} {n index : Nat} {rmc : Room} {rest As : List Value} {Post : Option Value → TI → TL → Prop} (X : VOk a own cc rm nL)
    (hM : Ct (vl a) (vE a) y b maxL ret rmc As I L Post) (hk : CkN own index y b maxL ret n) (hR : RmOk rmc maxL rm)
    (hn : As.length = n) (hst : st = As.reverse ++ rest) (hroom : (rest.map fun v => v.category).sum ≤ 8) (hd : decode cc pc = .ok (.invokestatic index, 3))
    (kk : ∀ (r : Option Value) (I' : TI) (L' : TL), Post r I' L' → V a (pc + 3) lv (r.toList ++ rest) I' L') : V a pc lv st I L := by
  intro H locs ls hl hP hS
  obtain ⟨⟨host, hh⟩, h2, h3, h4, h5⟩ := hk
  exact v_run (y := y) (va_runSN (host := host) ⟨X.1, X.2.1, X.2.2.1, X.2.2.2.1, X.2.2.2.2.1⟩ hM ⟨va_cnB n X.2.2.2.2.1 (ws_call h3) rfl hR.1 hR.2.1 (X.2.2.2.2.2.1.2 _ hh) (X.2.2.2.2.1 _ h2) h4 (by rw [X.2.2.2.2.2.2.2.2.1]; exact hR.2.2), X.2.2.2.2.1 _ h5, trivial⟩ ⟨ct_blind, ct_pre X hP⟩ rfl hn (by rw [← X.2.2.1]; exact hl.1) hst (lv_room hroom) hd ⟨by rw [X.2.2.2.2.2.2.2.2.1]; exact X.2.2.2.2.2.2.2.2.2.1, by rw [X.2.2.2.2.2.2.2.2.1]; exact X.2.2.2.2.2.2.2.2.2.2⟩) hS hl kk
end VV

