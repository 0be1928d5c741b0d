/-! THE LAW: the first heap -/
def sg0 : Nat → Nat → Nat := fun b j => match b, j with
  | 1, 0 => 2
  | 1, 1 => 3
  | 1, 2 => 6
  | 11, 0 => 1
  | 11, 1 => 1
  | 11, 2 => 1
  | _, _ => 0
def M_0 : Nat → Nat → Nat := fun b j => match b, j with
  | 19, 11 => 4294967295
  | 28, 10 => 4294967295
  | 37, 4 => 4294967295
  | 40, 8 => 4294967295
  | _, _ => 0
def nu0 : Nat → Value := fun a => match a with
  | 2 => .ref 72
  | _ => .null
section Lwk
variable {xs : List Int32} {d n k i : Nat} {h : ab_H}
set_option maxRecDepth 100000 in
theorem go_121 : ab_go ab_mt (ab_fx xs) 200 20 121 0 ([.ref 0], [], [.inl (11, ab_def 11)]) = some (.inl none, hc sg0 M_0 []) := rfl
set_option maxRecDepth 100000 in
theorem go_185 : ab_go ab_mt (ab_fx xs) 200 20 185 0 ([.ref 62], [], hc sg0 M_0 [.inl (13, ab_def 13)]) = some (.inl none, mh sg0 M_0 sg0 (fun _ => 0) nu0 [oI []]) := rfl
set_option maxRecDepth 100000 in
theorem m_121 : ev xs (d + 20) 121 0 ([.ref 0], [], [.inl (11, ab_def 11)]) = some (.inl none, hc sg0 M_0 []) := ab_ev_mono (Nat.le_add_left 20 d) (ab_ev_iff.mpr ⟨_, go_121⟩)
set_option maxRecDepth 100000 in
theorem m_185 : ev xs (d + 20) 185 0 ([.ref 62], [], hc sg0 M_0 [.inl (13, ab_def 13)]) = some (.inl none, mh sg0 M_0 sg0 (fun _ => 0) nu0 [oI []]) := ab_ev_mono (Nat.le_add_left 20 d) (ab_ev_iff.mpr ⟨_, go_185⟩)
end Lwk
