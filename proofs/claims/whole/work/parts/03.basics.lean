/-! an abstract machine over lists: it runs the resolved code; what it says is later shown of the machine itself -/
noncomputable def ab_nth {α : Type} (l : List α) : Nat → Option α :=
  @List.rec α (fun _ => Nat → Option α) (fun _ => none) (fun a _ ih n => @Nat.casesOn (fun _ => Option α) n (some a) ih) l
theorem ab_nth_eq {α : Type} : ∀ (l : List α) (n : Nat), ab_nth l n = l[n]?
  | [], _ => by simp [ab_nth]
  | a :: l, 0 => rfl
  | a :: l, n + 1 => by
    show ab_nth l n = _
    rw [ab_nth_eq l n]; simp
noncomputable def ab_set {α : Type} (l : List α) (v : α) : Nat → List α :=
  @List.rec α (fun _ => Nat → List α) (fun _ => []) (fun a t ih n => @Nat.casesOn (fun _ => List α) n (v :: t) (fun k => a :: ih k)) l
theorem ab_set_eq {α : Type} : ∀ (l : List α) (v : α) (n : Nat), ab_set l v n = l.set n v
  | [], _, _ => by simp [ab_set]
  | a :: l, v, 0 => rfl
  | a :: l, v, n + 1 => by
    show a :: ab_set l v n = _
    rw [ab_set_eq l v n]; simp
noncomputable def ab_ft (cd : ab_CD) (pc : Nat) : Option ab_E := match ab_nth cd (pc / 16) with
  | some r => ab_nth r (pc % 16)
  | none => none
noncomputable def ab_MR (mid : Nat) : Nat × Nat × Nat × Nat × Nat × Nat × Nat := match ab_nth ab_MT mid with
  | some r => r
  | none => (0, 0, 0, 0, 0, 0, 0)
noncomputable def ab_CM (mid : Nat) : ab_CD := match ab_nth ab_CL mid with
  | some r => r
  | none => []
/-- words that a callee is not told by its list -/
def ab_NW : List Cond := [.methodLinkNest RX9 81 yX11_isTree RX11, .methodLinkNest RX11 27 yX10_init RX11, .methodLinkNest RX11 34 yX6_init RX11, .methodLinkNest RX1 11 yX5_init RX11, .methodLinkNest RX11 59 yX4_init RX11, .methodLinkNest RX4 11 yX5_init RX11, .methodLinkNest RX2 22 yX4_init RX11, .methodLinkNest RX11 81 yX3_init RX11, .arrayOver (.array .int), .arrayOver (.array .long), .arrayOver (.object "RootedCuts$State")]
def ab_sn : Nat → String
  | 0 => "FIRST"
  | 1 => "REST"
  | _ => "FACTORIAL"
