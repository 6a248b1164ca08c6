/-! the memory behind both constructors -/
def w1L : List AE := [.inl (10, [.ref 1, .ref 24, .int 0, .ref 47, .ref 49, .ref 53, .ref 57, .ref 58, .ref 61, .ref 62, .ref 64, .ref 66, .ref 67, .ref 68]),
  .inl (6, [.ref 2, .int 0, .ref 3, .int 0, .int 1, .ref 4]),
  .inr (3, 4, .inr (.inr (upq (upq (upq (upq (fun _ => none) 0 8) 1 12) 2 16) 3 20))),
  .inr (0, 3, .inl (upd (upd (upd (fun _ => 0) 0 10) 1 40) 2 30)),
  .inl (3, [.ref 5, .ref 6, .ref 7, .int 0]),
  .inr (0, 12, .inl (fun _ => 0)),
  .inr (0, 12, .inl (fun _ => 0)),
  .inr (0, 12, .inl (fun _ => 0)),
  .inl (2, [.int 0, .int 0, .ref 9, .ref 10, .ref 11]),
  .inr (0, 36, .inl (fun _ => 0)),
  .inr (0, 36, .inl (fun _ => 0)),
  .inr (0, 36, .inl (fun _ => 0)),
  .inl (2, [.int 0, .int 0, .ref 13, .ref 14, .ref 15]),
  .inr (0, 36, .inl (fun _ => 0)),
  .inr (0, 36, .inl (fun _ => 0)),
  .inr (0, 36, .inl (fun _ => 0)),
  .inl (2, [.int 0, .int 0, .ref 17, .ref 18, .ref 19]),
  .inr (0, 36, .inl (fun _ => 0)),
  .inr (0, 36, .inl (fun _ => 0)),
  .inr (0, 36, .inl (fun _ => 0)),
  .inl (2, [.int 0, .int 0, .ref 21, .ref 22, .ref 23]),
  .inr (0, 36, .inl (fun _ => 0)),
  .inr (0, 36, .inl (fun _ => 0)),
  .inr (0, 36, .inl (fun _ => 0)),
  .inl (6, [.ref 25, .int 0, .ref 26, .int 0, .int 1, .ref 27]),
  .inr (3, 4, .inr (.inr (upq (upq (upq (upq (fun _ => none) 0 31) 1 35) 2 39) 3 43))),
  .inr (0, 3, .inl (upd (upd (upd (fun _ => 0) 0 10) 1 40) 2 30)),
  .inl (3, [.ref 28, .ref 29, .ref 30, .int 0]),
  .inr (0, 12, .inl (fun _ => 0)),
  .inr (0, 12, .inl (fun _ => 0)),
  .inr (0, 12, .inl (fun _ => 0)),
  .inl (2, [.int 0, .int 0, .ref 32, .ref 33, .ref 34]),
  .inr (0, 36, .inl (fun _ => 0)),
  .inr (0, 36, .inl (fun _ => 0)),
  .inr (0, 36, .inl (fun _ => 0)),
  .inl (2, [.int 0, .int 0, .ref 36, .ref 37, .ref 38]),
  .inr (0, 36, .inl (fun _ => 0)),
  .inr (0, 36, .inl (fun _ => 0)),
  .inr (0, 36, .inl (fun _ => 0)),
  .inl (2, [.int 0, .int 0, .ref 40, .ref 41, .ref 42]),
  .inr (0, 36, .inl (fun _ => 0)),
  .inr (0, 36, .inl (fun _ => 0)),
  .inr (0, 36, .inl (fun _ => 0)),
  .inl (2, [.int 0, .int 0, .ref 44, .ref 45, .ref 46]),
  .inr (0, 36, .inl (fun _ => 0)),
  .inr (0, 36, .inl (fun _ => 0)),
  .inr (0, 36, .inl (fun _ => 0)),
  .inl (9, [.ref 48, .int 0, .int 0]),
  .inr (1, 200, .inl (fun _ => 0)),
  .inl (3, [.ref 50, .ref 51, .ref 52, .int 0]),
  .inr (0, 12, .inl (fun _ => 0)),
  .inr (0, 12, .inl (fun _ => 0)),
  .inr (0, 12, .inl (fun _ => 0)),
  .inl (2, [.int 0, .int 0, .ref 54, .ref 55, .ref 56]),
  .inr (0, 36, .inl (fun _ => 0)),
  .inr (0, 36, .inl (fun _ => 0)),
  .inr (0, 36, .inl (fun _ => 0)),
  .inl (0, [.int (-9), .int 3, .int 0, .int (-9)]),
  .inl (4, [.ref 59, .ref 60, .int 0, .int 0, .int 0]),
  .inr (0, 36, .inl (fun _ => 0)),
  .inr (0, 36, .inl (fun _ => 0)),
  .inr (0, 36, .inl (fun _ => 0)),
  .inl (5, [.ref 63, .int 0]),
  .inr (0, 36, .inl (fun _ => 0)),
  .inl (5, [.ref 65, .int 0]),
  .inr (0, 36, .inl (fun _ => 0)),
  .inr (4, 4, .inr (.inr (upq (upq (upq (upq (fun _ => none) 0 70) 1 72) 2 74) 3 76))),
  .inr (5, 4, .inr (.inr (upq (upq (upq (upq (fun _ => none) 0 78) 1 79) 2 80) 3 81))),
  .inl (1, [.int 0, .int 0, .int 0, .int 0, .ref 69, .int 0]),
  .inr (0, 30, .inl (fun _ => 0)),
  .inl (7, [.int (-1), .int 0, .ref 71]),
  .inr (2, 40, .inr (.inl (fun _ => 0))),
  .inl (7, [.int (-1), .int 0, .ref 73]),
  .inr (2, 40, .inr (.inl (fun _ => 0))),
  .inl (7, [.int (-1), .int 0, .ref 75]),
  .inr (2, 40, .inr (.inl (fun _ => 0))),
  .inl (7, [.int (-1), .int 0, .ref 77]),
  .inr (2, 40, .inr (.inl (fun _ => 0))),
  .inl (8, [.int (-9), .int (-1), .int 0]),
  .inl (8, [.int (-9), .int (-1), .int 0]),
  .inl (8, [.int (-9), .int (-1), .int 0]),
  .inl (8, [.int (-9), .int (-1), .int 0])]
def w0L : List AE := [.inl (10, [.ref 1, .ref 24, .int 0, .ref 47, .ref 49, .ref 53, .ref 57, .ref 58, .ref 61, .ref 62, .ref 64, .ref 66, .ref 67, .ref 68]),
  .inl (6, [.ref 2, .int 0, .ref 3, .int 0, .int 1, .ref 4]),
  .inr (3, 4, .inr (.inr (upq (upq (upq (upq (fun _ => none) 0 8) 1 12) 2 16) 3 20))),
  .inr (0, 3, .inl (upd (upd (upd (fun _ => 0) 0 10) 1 40) 2 30)),
  .inl (3, [.ref 5, .ref 6, .ref 7, .int 0]),
  .inr (0, 12, .inl (fun _ => 0)),
  .inr (0, 12, .inl (fun _ => 0)),
  .inr (0, 12, .inl (fun _ => 0)),
  .inl (2, [.int 0, .int 0, .ref 9, .ref 10, .ref 11]),
  .inr (0, 36, .inl (fun _ => 0)),
  .inr (0, 36, .inl (fun _ => 0)),
  .inr (0, 36, .inl (fun _ => 0)),
  .inl (2, [.int 0, .int 0, .ref 13, .ref 14, .ref 15]),
  .inr (0, 36, .inl (fun _ => 0)),
  .inr (0, 36, .inl (fun _ => 0)),
  .inr (0, 36, .inl (fun _ => 0)),
  .inl (2, [.int 0, .int 0, .ref 17, .ref 18, .ref 19]),
  .inr (0, 36, .inl (fun _ => 0)),
  .inr (0, 36, .inl (fun _ => 0)),
  .inr (0, 36, .inl (fun _ => 0)),
  .inl (2, [.int 0, .int 0, .ref 21, .ref 22, .ref 23]),
  .inr (0, 36, .inl (fun _ => 0)),
  .inr (0, 36, .inl (fun _ => 0)),
  .inr (0, 36, .inl (fun _ => 0)),
  .inl (6, [.ref 25, .int 0, .ref 26, .int 0, .int 1, .ref 27]),
  .inr (3, 4, .inr (.inr (upq (upq (upq (upq (fun _ => none) 0 31) 1 35) 2 39) 3 43))),
  .inr (0, 3, .inl (upd (upd (upd (fun _ => 0) 0 10) 1 40) 2 30)),
  .inl (3, [.ref 28, .ref 29, .ref 30, .int 0]),
  .inr (0, 12, .inl (fun _ => 0)),
  .inr (0, 12, .inl (fun _ => 0)),
  .inr (0, 12, .inl (fun _ => 0)),
  .inl (2, [.int 0, .int 0, .ref 32, .ref 33, .ref 34]),
  .inr (0, 36, .inl (fun _ => 0)),
  .inr (0, 36, .inl (fun _ => 0)),
  .inr (0, 36, .inl (fun _ => 0)),
  .inl (2, [.int 0, .int 0, .ref 36, .ref 37, .ref 38]),
  .inr (0, 36, .inl (fun _ => 0)),
  .inr (0, 36, .inl (fun _ => 0)),
  .inr (0, 36, .inl (fun _ => 0)),
  .inl (2, [.int 0, .int 0, .ref 40, .ref 41, .ref 42]),
  .inr (0, 36, .inl (fun _ => 0)),
  .inr (0, 36, .inl (fun _ => 0)),
  .inr (0, 36, .inl (fun _ => 0)),
  .inl (2, [.int 0, .int 0, .ref 44, .ref 45, .ref 46]),
  .inr (0, 36, .inl (fun _ => 0)),
  .inr (0, 36, .inl (fun _ => 0)),
  .inr (0, 36, .inl (fun _ => 0)),
  .inl (9, [.ref 48, .int 0, .int 0]),
  .inr (1, 200, .inl (fun _ => 0)),
  .inl (3, [.ref 50, .ref 51, .ref 52, .int 0]),
  .inr (0, 12, .inl (fun _ => 0)),
  .inr (0, 12, .inl (fun _ => 0)),
  .inr (0, 12, .inl (fun _ => 0)),
  .inl (2, [.int 0, .int 0, .ref 54, .ref 55, .ref 56]),
  .inr (0, 36, .inl (fun _ => 0)),
  .inr (0, 36, .inl (fun _ => 0)),
  .inr (0, 36, .inl (fun _ => 0)),
  .inl (0, [.int (-9), .int 3, .int 0, .int (-9)]),
  .inl (4, [.ref 59, .ref 60, .int 0, .int 0, .int 0]),
  .inr (0, 36, .inl (fun _ => 0)),
  .inr (0, 36, .inl (fun _ => 0)),
  .inr (0, 36, .inl (fun _ => 0)),
  .inl (5, [.ref 63, .int 0]),
  .inr (0, 36, .inl (fun _ => 0)),
  .inl (5, [.ref 65, .int 0]),
  .inr (0, 36, .inl (fun _ => 0)),
  .inr (4, 4, .inr (.inr (upq (upq (upq (upq (fun _ => none) 0 70) 1 72) 2 74) 3 76))),
  .inr (5, 4, .inr (.inr (upq (upq (upq (upq (fun _ => none) 0 78) 1 79) 2 80) 3 81))),
  .inl (1, [.int 0, .int 0, .int 0, .int 0, .ref 69, .int 0]),
  .inr (0, 30, .inl (fun _ => 0)),
  .inl (7, [.int (-1), .int 0, .ref 71]),
  .inr (2, 40, .inr (.inl (fun _ => 0))),
  .inl (7, [.int (-1), .int 0, .ref 73]),
  .inr (2, 40, .inr (.inl (fun _ => 0))),
  .inl (7, [.int (-1), .int 0, .ref 75]),
  .inr (2, 40, .inr (.inl (fun _ => 0))),
  .inl (7, [.int (-1), .int 0, .ref 77]),
  .inr (2, 40, .inr (.inl (fun _ => 0))),
  .inl (8, [.int (-9), .int (-1), .int 0]),
  .inl (8, [.int (-9), .int (-1), .int 0]),
  .inl (8, [.int (-9), .int (-1), .int 0]),
  .inl (8, [.int (-9), .int (-1), .int 0]),
  .inl (11, [.ref 83, .int 0, .ref 84, .ref 85, .int 1, .int 0, .int 0, .int 0, .ref 86, .ref 87, .ref 88, .int 0, .int 0, .int 0, .int 0, .long 0, .int 0, .int 0, .int 0, .ref 89, .ref 90, .ref 91, .ref 92, .int 0, .int 0, .ref 93, .ref 94, .ref 95, .ref 96, .ref 97, .ref 98, .int 0, .int 0, .int 0, .ref 99, .int 0, .int 0, .int 0, .ref 100, .int 0, .ref 101]),
  .inr (0, 884, .inl (fun _ => 0)),
  .inr (0, 3, .inl (upd (upd (upd (fun _ => 0) 0 10) 1 40) 2 30)),
  .inr (0, 3, .inl (upd (upd (upd (fun _ => 0) 0 50) 1 100) 2 100)),
  .inr (0, 108, .inl (fun _ => 0)),
  .inr (0, 36, .inl (fun _ => 0)),
  .inr (0, 200, .inl (fun _ => 0)),
  .inr (0, 36, .inl (fun _ => 0)),
  .inr (0, 36, .inl (fun _ => 0)),
  .inr (0, 36, .inl (fun _ => 0)),
  .inr (0, 36, .inl (fun _ => 0)),
  .inr (0, 4, .inl (upd (upd (upd (upd (fun _ => 0) 0 (-1)) 1 (-1)) 2 (-1)) 3 (-1))),
  .inr (0, 4, .inl (fun _ => 0)),
  .inr (2, 160, .inr (.inl (fun _ => 0))),
  .inr (0, 4, .inl (upd (upd (upd (upd (fun _ => 0) 0 (-1)) 1 (-1)) 2 (-1)) 3 (-1))),
  .inr (0, 4, .inl (fun _ => 0)),
  .inr (0, 4, .inl (fun _ => 0)),
  .inr (0, 30, .inl (fun _ => 0)),
  .inr (0, 490, .inl (fun _ => 0)),
  .inr (0, 2, .inl (fun _ => 0))]
def i0 (a : AE) (j : Nat) : Int32 := match a with
  | .inl q => (match q.2.getD j .null with
    | .int v => v
    | _ => 0)
  | .inr (_, _, .inl f) => f j
  | _ => 0
def m0 : Me := (fun c j => i0 (w0L.getD c (.inl (0, []))) j, fun _ _ => 0)
def Al (b0 : Nat) (cA : Nat → ClassId) (ta : Nat → Nat) (μ : Me) : Nat → List AE → List Sp → Prop
  | _, [], [] => True
  | c, a :: as, s :: ss => (∀ D H, va_at D kl (b0 + c, ce b0 cA ta a) H → va_at D kl (b0 + c, ea b0 cA μ c s) H) ∧ Al b0 cA ta μ (c + 1) as ss
  | _, _, _ => False
section Als
variable {b0 : Nat} {cA : Nat → ClassId} {ta : Nat → Nat} {μ : Me}
theorem al_nil {c : Nat} : Al b0 cA ta μ c [] [] := trivial
theorem al_c {c : Nat} {a : AE} {as : List AE} {s : Sp} {ss : List Sp} (h : ce b0 cA ta a = ea b0 cA μ c s) (k : Al b0 cA ta μ (c + 1) as ss) : Al b0 cA ta μ c (a :: as) (s :: ss) := ⟨fun _ _ z => h ▸ z, k⟩
def fvr (b0 : Nat) (μ : Me) (c : Nat) : Nat → List Nat → List Value
  | _, [] => []
  | j, k :: ks => fv b0 μ c j k :: fvr b0 μ c (j + 1) ks
theorem fvr_eq {c : Nat} : ∀ (l : List Nat) (n : Nat), l.mapIdx (fun j k => fv b0 μ c (n + j) k) = fvr b0 μ c n l
  | [], _ => rfl
  | k :: ks, n => by
    rw [List.mapIdx_cons, fvr, ← fvr_eq ks (n + 1)]
    simp only [Nat.add_zero, Nat.add_assoc, Nat.add_comm 1]
theorem al_o {c ci : Nat} {fs : List Value} {fks : List Nat} {as : List AE} {ss : List Sp} (h : fs.map (cv b0 ta) = fvr b0 μ c 0 fks) (k : Al b0 cA ta μ (c + 1) as ss) : Al b0 cA ta μ c (.inl (ci, fs) :: as) (.inl (ci, fks) :: ss) := by
  refine al_c ?_ k
  show Sum.inr (ci, fs.map (cv b0 ta)) = Sum.inr (ci, fvs b0 μ c fks)
  rw [h, ← fvr_eq fks 0, fvs]
  simp only [Nat.zero_add]
theorem arrV_eq {cI : ClassId} {N : Nat} {f g : Nat → Value} (h : ∀ j, j < N → f j = g j) : arrV cI N f = arrV cI N g := by
  unfold arrV
  rw [show (fun j : Fin N => f j.val) = (fun j : Fin N => g j.val) from funext fun j => h j.val j.isLt]
theorem al_q {c t N b st : Nat} {h : Nat → Option Nat} {as : List AE} {ss : List Sp} (hh : ∀ j, j < N → h j = some (b + st * j)) (ht : av b0 μ c (t, N, b, st) = (N, .inr (.inr (.inr (.inr (fun j => some (b0 + (b + st * j)))))))) (k : Al b0 cA ta μ (c + 1) as ss) : Al b0 cA ta μ c (.inr (t, N, .inr (.inr h)) :: as) (.inr (t, N, b, st) :: ss) := by
  refine ⟨fun D H z => ?_, k⟩
  have z' : H[b0 + c]? = some (vp_cell (cA t) (N, .inr (.inr (.inr (.inr (fun j => (h j).map (fun r => b0 + r))))))) := z
  show H[b0 + c]? = some (vp_cell (cA t) (av b0 μ c (t, N, b, st)))
  rw [ht, z', vp_cell_q, vp_cell_q]
  congr 1
  exact arrV_eq fun j hj => by rw [hh j hj]; rfl
theorem al_get : ∀ (as : List AE) (ss : List Sp) (c : Nat), Al b0 cA ta μ c as ss → ∀ (k : Nat) (s : Sp), ss[k]? = some s → ∃ a, as[k]? = some a ∧ ∀ D H, va_at D kl (b0 + (c + k), ce b0 cA ta a) H → va_at D kl (b0 + (c + k), ea b0 cA μ (c + k) s) H
  | [], [], _, _, k, s, h => by simp at h
  | [], _ :: _, _, h, _, _, _ => h.elim
  | _ :: _, [], _, h, _, _, _ => h.elim
  | a :: as, s :: ss, c, h, 0, s', hs => by
    cases hs
    exact ⟨a, rfl, h.1⟩
  | a :: as, s :: ss, c, h, k + 1, s', hs => by
    obtain ⟨a', h1, h2⟩ := al_get as ss (c + 1) h.2 k s' hs
    refine ⟨a', h1, ?_⟩
    rw [show c + 1 + k = c + (k + 1) by omega] at h2
    exact h2
theorem al_P {wx : List AE} {D : va_G} {H : Heap} (h : Al b0 cA ta μ 0 wx shp) (hP : va_P D kl (wm b0 cA ta wx) H) : va_P D kl (wl b0 cA μ) H := by
  intro k q hk
  simp only [wl, List.getElem?_mapIdx, Option.map_eq_some_iff] at hk
  obtain ⟨s, hs, rfl⟩ := hk
  obtain ⟨a, h1, h2⟩ := al_get wx shp 0 h k s hs
  rw [Nat.zero_add] at h2
  exact h2 D H (hP k _ (wm_get h1))
end Als
set_option maxRecDepth 100000 in
set_option maxHeartbeats 4000000 in
theorem al0 (b0 : Nat) (cA : Nat → ClassId) (ta : Nat → Nat) : Al b0 cA ta m0 0 w0L shp := by
  unfold w0L shp
  refine al_o (c := 0) rfl ?_
  refine al_o (c := 1) rfl ?_
  refine al_q (c := 2) (fun j hj => ?_) rfl ?_
  · rcases (show j = 0 ∨ j = 1 ∨ j = 2 ∨ j = 3 by omega) with rfl | rfl | rfl | rfl <;> rfl
  refine al_c (c := 3) rfl ?_
  refine al_o (c := 4) rfl ?_
  refine al_c (c := 5) rfl ?_
  refine al_c (c := 6) rfl ?_
  refine al_c (c := 7) rfl ?_
  refine al_o (c := 8) rfl ?_
  refine al_c (c := 9) rfl ?_
  refine al_c (c := 10) rfl ?_
  refine al_c (c := 11) rfl ?_
  refine al_o (c := 12) rfl ?_
  refine al_c (c := 13) rfl ?_
  refine al_c (c := 14) rfl ?_
  refine al_c (c := 15) rfl ?_
  refine al_o (c := 16) rfl ?_
  refine al_c (c := 17) rfl ?_
  refine al_c (c := 18) rfl ?_
  refine al_c (c := 19) rfl ?_
  refine al_o (c := 20) rfl ?_
  refine al_c (c := 21) rfl ?_
  refine al_c (c := 22) rfl ?_
  refine al_c (c := 23) rfl ?_
  refine al_o (c := 24) rfl ?_
  refine al_q (c := 25) (fun j hj => ?_) rfl ?_
  · rcases (show j = 0 ∨ j = 1 ∨ j = 2 ∨ j = 3 by omega) with rfl | rfl | rfl | rfl <;> rfl
  refine al_c (c := 26) rfl ?_
  refine al_o (c := 27) rfl ?_
  refine al_c (c := 28) rfl ?_
  refine al_c (c := 29) rfl ?_
  refine al_c (c := 30) rfl ?_
  refine al_o (c := 31) rfl ?_
  refine al_c (c := 32) rfl ?_
  refine al_c (c := 33) rfl ?_
  refine al_c (c := 34) rfl ?_
  refine al_o (c := 35) rfl ?_
  refine al_c (c := 36) rfl ?_
  refine al_c (c := 37) rfl ?_
  refine al_c (c := 38) rfl ?_
  refine al_o (c := 39) rfl ?_
  refine al_c (c := 40) rfl ?_
  refine al_c (c := 41) rfl ?_
  refine al_c (c := 42) rfl ?_
  refine al_o (c := 43) rfl ?_
  refine al_c (c := 44) rfl ?_
  refine al_c (c := 45) rfl ?_
  refine al_c (c := 46) rfl ?_
  refine al_o (c := 47) rfl ?_
  refine al_c (c := 48) rfl ?_
  refine al_o (c := 49) rfl ?_
  refine al_c (c := 50) rfl ?_
  refine al_c (c := 51) rfl ?_
  refine al_c (c := 52) rfl ?_
  refine al_o (c := 53) rfl ?_
  refine al_c (c := 54) rfl ?_
  refine al_c (c := 55) rfl ?_
  refine al_c (c := 56) rfl ?_
  refine al_o (c := 57) rfl ?_
  refine al_o (c := 58) rfl ?_
  refine al_c (c := 59) rfl ?_
  refine al_c (c := 60) rfl ?_
  refine al_c (c := 61) rfl ?_
  refine al_o (c := 62) rfl ?_
  refine al_c (c := 63) rfl ?_
  refine al_o (c := 64) rfl ?_
  refine al_c (c := 65) rfl ?_
  refine al_q (c := 66) (fun j hj => ?_) rfl ?_
  · rcases (show j = 0 ∨ j = 1 ∨ j = 2 ∨ j = 3 by omega) with rfl | rfl | rfl | rfl <;> rfl
  refine al_q (c := 67) (fun j hj => ?_) rfl ?_
  · rcases (show j = 0 ∨ j = 1 ∨ j = 2 ∨ j = 3 by omega) with rfl | rfl | rfl | rfl <;> rfl
  refine al_o (c := 68) rfl ?_
  refine al_c (c := 69) rfl ?_
  refine al_o (c := 70) rfl ?_
  refine al_c (c := 71) rfl ?_
  refine al_o (c := 72) rfl ?_
  refine al_c (c := 73) rfl ?_
  refine al_o (c := 74) rfl ?_
  refine al_c (c := 75) rfl ?_
  refine al_o (c := 76) rfl ?_
  refine al_c (c := 77) rfl ?_
  refine al_o (c := 78) rfl ?_
  refine al_o (c := 79) rfl ?_
  refine al_o (c := 80) rfl ?_
  refine al_o (c := 81) rfl ?_
  refine al_o (c := 82) rfl ?_
  refine al_c (c := 83) rfl ?_
  refine al_c (c := 84) rfl ?_
  refine al_c (c := 85) rfl ?_
  refine al_c (c := 86) rfl ?_
  refine al_c (c := 87) rfl ?_
  refine al_c (c := 88) rfl ?_
  refine al_c (c := 89) rfl ?_
  refine al_c (c := 90) rfl ?_
  refine al_c (c := 91) rfl ?_
  refine al_c (c := 92) rfl ?_
  refine al_c (c := 93) rfl ?_
  refine al_c (c := 94) rfl ?_
  refine al_c (c := 95) rfl ?_
  refine al_c (c := 96) rfl ?_
  refine al_c (c := 97) rfl ?_
  refine al_c (c := 98) rfl ?_
  refine al_c (c := 99) rfl ?_
  refine al_c (c := 100) rfl ?_
  refine al_c (c := 101) rfl ?_
  exact al_nil
set_option maxRecDepth 100000 in
theorem rr0 : RRx 0 0 0 0 m0 := by
  refine ⟨⟨(by decide +kernel), fun q hq => ?_⟩, ⟨⟨by decide, by decide⟩, ⟨(by decide +kernel), (by decide +kernel)⟩, ⟨(by decide +kernel), (by decide +kernel)⟩, (by decide +kernel), ⟨fun q hq => ?_, (by decide +kernel), (by decide +kernel)⟩, ⟨(by decide +kernel), (by decide +kernel), fun i hi => absurd hi (by omega)⟩, fun l hl => absurd hl (by omega)⟩, Or.inl ⟨(by decide +kernel), (by decide +kernel)⟩, ⟨fun _ => 0, 0, ⟨(by decide +kernel), by decide, fun i hi => absurd hi (by omega)⟩, ⟨(by decide +kernel), by decide, fun i hi => absurd hi (by omega)⟩⟩, ⟨0, by decide, ⟨(by decide +kernel), (by decide +kernel)⟩, fun k hk => absurd hk (by omega)⟩, fun j hj => ?_, fun j hj => ?_, ⟨0, by decide, ⟨(by decide +kernel), (by decide +kernel)⟩, fun i hi => absurd hi (by omega)⟩⟩
  · rcases (show q = 0 ∨ q = 1 ∨ q = 2 by omega) with rfl | rfl | rfl <;> decide +kernel
  · rcases (show q = 0 ∨ q = 1 ∨ q = 2 by omega) with rfl | rfl | rfl <;> decide +kernel
  · refine ⟨?_, Or.inl ?_, 0, by decide, ⟨?_, ?_⟩, fun x hx => absurd hx (by omega)⟩ <;> (rcases (show j = 0 ∨ j = 1 ∨ j = 2 ∨ j = 3 by omega) with rfl | rfl | rfl | rfl <;> decide +kernel)
  · refine Or.inl ⟨?_, ?_, ?_⟩ <;> (rcases (show j = 0 ∨ j = 1 ∨ j = 2 ∨ j = 3 by omega) with rfl | rfl | rfl | rfl <;> decide +kernel)
set_option maxRecDepth 100000 in
theorem lki_L_9 : LkI "SevenEightsLaw" 9 m_S_init := ⟨Or.inl (gi 22 rfl rfl), gi 23 rfl rfl, gi 1 rfl rfl, gi 24 rfl rfl, by decide, rfl, ⟨by decide, by decide, by decide +kernel⟩, rfl⟩
set_option maxRecDepth 100000 in
theorem lki_L_12 : LkI "SevenEightsLaw" 12 m_M_init := ⟨Or.inl (gi 885 rfl rfl), gi 886 rfl rfl, gi 12 rfl rfl, gi 887 rfl rfl, by decide, rfl, ⟨by decide, by decide, by decide +kernel⟩, rfl⟩
set_option maxRecDepth 100000 in
set_option maxHeartbeats 4000000 in
theorem law_pre (X : Nat × (Nat → Int32)) : Wn X m_L_law 12 0 [.ref 3000, flr, flr, flr] [] 102 3922 [] (fun pc ls st wx => pc = 18 ∧ ls = [.ref 3000, .ref 0, .ref 82, .int 0] ∧ st = [] ∧ wx = w0L) := by
  refine n_new (nc' := 101) (ns' := 3908) (t0 := t_S) z_S (show kl[10]? = some (R_S, F_S, 14) from rfl) uw_S t_S_ok (gi 20 rfl rfl) (gi 21 rfl rfl) (gi 1 rfl rfl) df_S (by decide) (by decide) (by decide) d_L_law_0 ?_
  show Wn X m_L_law 12 _ [.ref 3000, flr, flr, flr] [.ref 0] 101 3908 [.inl (10, z_S)] _
  refine n_dup d_L_law_3 rfl ?_
  refine n_call (nc' := 20) (ns' := 2121) (mc := 81) (c_new_S (wx := [.inl (10, z_S)]) (c := 0) (N := 1) rfl rfl (by decide)) lki_L_9 d_L_law_4 (by decide) (Nat.le_of_ble_eq_true rfl) (by decide) (by decide) (by decide) rfl ?_
  refine Wn.eqW (wx' := w1L) rfl ?_
  refine n_astore_n 1 [.ref 3000, .ref 0, flr, flr] d_L_law_7 rfl (by decide) rfl ?_
  refine n_new (nc' := 19) (ns' := 2080) (t0 := t_M) z_M (show kl[11]? = some (R_M, F_M, 41) from rfl) uw_M t_M_ok (gi 883 rfl rfl) (gi 884 rfl rfl) (gi 12 rfl rfl) df_M (by decide) (by decide) (by decide) d_L_law_8 ?_
  show Wn X m_L_law 12 _ [.ref 3000, .ref 0, flr, flr] [.ref 82] 19 2080 (w1L ++ [.inl (11, z_M)]) _
  refine n_dup d_L_law_11 rfl ?_
  refine n_call (nc' := 0) (ns' := 0) (mc := 19) (c_new_M (wx := w1L ++ [.inl (11, z_M)]) (c := 82) (N := 83) rfl rfl (by decide)) lki_L_12 d_L_law_12 (by decide) (Nat.le_of_ble_eq_true rfl) (by decide) (by decide) (by decide) rfl ?_
  refine Wn.eqW (wx' := w0L) rfl ?_
  refine n_astore_n 2 [.ref 3000, .ref 0, .ref 82, flr] d_L_law_15 rfl (by decide) rfl ?_
  refine n_iconst 0 d_L_law_16 rfl ?_
  refine n_istore_n 3 [.ref 3000, .ref 0, .ref 82, .int 0] d_L_law_17 rfl (by decide) rfl ?_
  exact n_end ⟨rfl, rfl, rfl, rfl⟩
