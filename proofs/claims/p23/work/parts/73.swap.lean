/-! two worlds in one heap: either stands beside the other -/
theorem zh_V.swap {g : zG} {A : Nat → Prop} {s : State} {S S2 : zS} {H : Heap} {locs : List Loc} (I : zh_V g A s (zh_w g S2) S H locs) : zh_V g A s (zh_w g S) S2 H locs :=
  ⟨I.1, va_P.swap (a := []) I.2.1, va_D.swap (a := []) I.2.2.1, I.2.2.2⟩
/-- the world of no cell -/
def zS0 : zS := ([], fun _ => 0, fun _ _ => 0, fun _ _ => none, fun _ => 0, fun _ _ => 0, fun _ _ => none, fun _ _ => 0)
theorem zS0_w (g : zG) : zh_w g zS0 = [] := rfl
/-- a second, empty world beside the first -/
theorem zh_V.beside {g : zG} {A : Nat → Prop} {s : State} {S : zS} {H : Heap} {locs : List Loc} (I : zh_V g A s [] S H locs) : zh_V g A s (zh_w g S) zS0 H locs := by
  have h : zh_w g S = zh_w g S ++ zh_w g zS0 := by rw [zS0_w]; exact (List.append_nil _).symm
  exact ⟨I.1, h ▸ I.2.1, h ▸ I.2.2.1, I.2.2.2⟩
